section
set_option maxHeartbeats 4000000 in
set_option maxRecDepth 100000 in
theorem c_X12_most (l : Launch) (D : va_G) (cy : Nat → ClassId) (sz : Nat) (mo : Nat) (g5 : Nat) (g6 : Nat) (g7 : Nat) (g8 : Nat) (g9 : Nat) (g10 : Nat) (g12 : Nat) (g13 : Nat) (g14 : Nat) (g15 : Nat) (g16 : Nat) (g17 : Nat) (g18 : Nat) (g19 : Nat) (g20 : Nat) (g22 : Nat) (g23 : Nat) (g24 : Nat) (g29 : Nat) (g30 : Nat) (g31 : Nat) (g32 : Nat) (g33 : Nat) (s0 : Int32) (s1 : Int32) (s3 : Int32) (s4 : Int32) (s11 : Int32) (s21 : Int32) (s25 : Int32) (s26 : Int32) (s27 : Int32) (s28 : Int32) (t2 : Int64) (f5 : Nat → Int32) (f6 : Nat → Int32) (f7 : Nat → Int32) (f8 : Nat → Int32) (f10 : Nat → Int32) (a1 : Int32) (a2 : Int32) (hN : 0 ≤ s4.toInt ∧ s4.toInt ≤ 40) (hPl : 0 ≤ s3.toInt ∧ s3.toInt ≤ 12) : Met l yX12_most wsX12_most ({ frames := 4, cells := 0, slots := 0, locals := 96 }) (va_Pc [.ref mo, .int a1, .int a2] (fun U => U.heap.size = sz ∧ va_P D vwCl [ob12_0_ mo s0 s1 t2 s3 s4 g5 g6 g7 g8 g9 g10 s11 g12 g13 g14 g15 g16 g17 g18 g19 g20 s21 g22 g23 g24 s25 s26 s27 s28 g29 g30 g31 g32 g33, ai_ cy g5 40 f5, ai_ cy g6 40 f6, ai_ cy g7 40 f7, ai_ cy g8 40 f8, az_ cy g10 40 f10] U.heap ∧ kk_ D cy U ∧ va_D (fun _ => True) [ob12_0_ mo s0 s1 t2 s3 s4 g5 g6 g7 g8 g9 g10 s11 g12 g13 g14 g15 g16 g17 g18 g19 g20 s21 g22 g23 g24 s25 s26 s27 s28 g29 g30 g31 g32 g33, ai_ cy g5 40 f5, ai_ cy g6 40 f6, ai_ cy g7 40 f7, ai_ cy g8 40 f8, az_ cy g10 40 f10])) (va_Qi (fun (r : Int32) (_ : Unit) => True) (fun (_ : Unit) (t : State) => va_P D vwCl [ob12_0_ mo 0 s1 t2 s3 s4 g5 g6 g7 g8 g9 g10 s11 g12 g13 g14 g15 g16 g17 g18 g19 g20 s21 g22 g23 g24 s25 s26 s27 s28 g29 g30 g31 g32 g33, ai_ cy g5 40 f5, ai_ cy g6 40 f6, ai_ cy g7 40 f7, ai_ cy g8 40 f8, az_ cy g10 40 f10] t.heap ∧ va_D (va_A [ob12_0_ mo s0 s1 t2 s3 s4 g5 g6 g7 g8 g9 g10 s11 g12 g13 g14 g15 g16 g17 g18 g19 g20 s21 g22 g23 g24 s25 s26 s27 s28 g29 g30 g31 g32 g33, ai_ cy g5 40 f5, ai_ cy g6 40 f6, ai_ cy g7 40 f7, ai_ cy g8 40 f8, az_ cy g10 40 f10] sz) [ob12_0_ mo 0 s1 t2 s3 s4 g5 g6 g7 g8 g9 g10 s11 g12 g13 g14 g15 g16 g17 g18 g19 g20 s21 g22 g23 g24 s25 s26 s27 s28 g29 g30 g31 g32 g33, ai_ cy g5 40 f5, ai_ cy g6 40 f6, ai_ cy g7 40 f7, ai_ cy g8 40 f8, az_ cy g10 40 f10]) (va_A [ob12_0_ mo s0 s1 t2 s3 s4 g5 g6 g7 g8 g9 g10 s11 g12 g13 g14 g15 g16 g17 g18 g19 g20 s21 g22 g23 g24 s25 s26 s27 s28 g29 g30 g31 g32 g33, ai_ cy g5 40 f5, ai_ cy g6 40 f6, ai_ cy g7 40 f7, ai_ cy g8 40 f8, az_ cy g10 40 f10] sz)) 0 0 (va_A [ob12_0_ mo s0 s1 t2 s3 s4 g5 g6 g7 g8 g9 g10 s11 g12 g13 g14 g15 g16 g17 g18 g19 g20 s21 g22 g23 g24 s25 s26 s27 s28 g29 g30 g31 g32 g33, ai_ cy g5 40 f5, ai_ cy g6 40 f6, ai_ cy g7 40 f7, ai_ cy g8 40 f8, az_ cy g10 40 f10] sz) := by
  refine ofQ (cc := cX12_most) (maxL := 3) (ret := (some .int)) (by decide) rfl ?_
  intro p e s m args below meth c s₁ Q hQ B hml hv
  obtain ⟨rfl, hsz, hP, hK, hD0⟩ := hv
  have hx := B.exec
  have hb := B.bytes
  have hr := B.returns
  have hts := atoms_spec (ws := wsX12_most) B.pre
  have hown : s.vm.findClass RX12 = some m.cls := by have h_ := findClass_of_methodNamed B.named; exact h_
  have hlocks := B.notSynchronized
  subst hsz
  have hD := hD0.self (sz := s.heap.size)
  generalize hAe : va_A [ob12_0_ mo s0 s1 t2 s3 s4 g5 g6 g7 g8 g9 g10 s11 g12 g13 g14 g15 g16 g17 g18 g19 g20 s21 g22 g23 g24 s25 s26 s27 s28 g29 g30 g31 g32 g33, ai_ cy g5 40 f5, ai_ cy g6 40 f6, ai_ cy g7 40 f7, ai_ cy g8 40 f8, az_ cy g10 40 f10] s.heap.size = A at hD hQ
  have hA : ∀ q : Nat, s.heap.size ≤ q → A q := fun q h => by rw [← hAe]; exact Or.inr h
  have hS : va_S A s.heap s.heap [] := va_S.rf
  have hl := lv_entry ([.ref mo, .int a1, .int a2]) (n := 3) (Nat.le_of_ble_eq_true rfl)
  rw [lg_entry_eq]
  generalize (lg_sl ([.ref mo, .int a1, .int a2]) ++ List.replicate (3 - (lg_sl ([.ref mo, .int a1, .int a2])).length) Slot.unset).toArray = ls at hl ⊢
  have hl : lv_has ls 3 [(0, .ref mo), (1, .int a1), (2, .int a2)] := hl
  have zm1 : ((-1) : Int32).toInt = -1 := by decide
  have z0 : (0 : Int32).toInt = 0 := by decide
  refine lv_aload_n hx hb dB_3_1_45.1.1.1.1 rfl (lv_at hl 0 rfl) ?_
  refine lv_iconst (v := 0) hx hb dB_3_1_45.1.1.1.2 (by decide) ?_
  refine va_put (ci := 12) (v := .int 0) (ty := .int) (C := RX12) (T := TX12) (N := 34) hx hb hts (fun _ h => List.mem_cons_of_mem _ (List.mem_append_right _ h)) tyX12 tyX12_ok nmX12 hown hK.1 hP hD hS 0 rfl rfl 0 (by decide) (hts (.fieldLink RX12 85 "CutAtlasModel" "thrown" "I") (List.mem_of_getElem? (i := 1) rfl)) (fun _ h9 => h9) rfl (by decide +kernel) rfl rfl (Nat.le_of_ble_eq_true rfl) dB_3_1_45.1.1.2.1 (fun H locs hP hD hS => ?_)
  refine pd_K [ob12_0_ mo 0 s1 t2 s3 s4 g5 g6 g7 g8 g9 g10 s11 g12 g13 g14 g15 g16 g17 g18 g19 g20 s21 g22 g23 g24 s25 s26 s27 s28 g29 g30 g31 g32 g33, ai_ cy g5 40 f5, ai_ cy g6 40 f6, ai_ cy g7 40 f7, ai_ cy g8 40 f8, az_ cy g10 40 f10] hP hD (fun hP hD => ?_)
  refine lv_aload_n hx hb dB_3_1_45.1.1.2.2 rfl (lv_at hl 0 rfl) ?_
  refine lv_iload_n hx hb dB_3_1_45.1.2.1.1 rfl (lv_at hl 1 rfl) ?_
  refine lv_iload_n hx hb dB_3_1_45.1.2.1.2 rfl (lv_at hl 2 rfl) ?_
  refine ct_R hP hD [ob12_0_ mo 0 s1 t2 s3 s4 g5 g6 g7 g8 g9 g10 s11 g12 g13 g14 g15 g16 g17 g18 g19 g20 s21 g22 g23 g24 s25 s26 s27 s28 g29 g30 g31 g32 g33] [0] (by decide) rfl (fun hPc hDw => ?_)
  have hFc := va_free (wc := []) hD hS hA [] rfl
  refine va_calli (va_runV (As := [.int a1, .int a2]) (rest := []) ⟨hx, hb, hml, hown, hts⟩ (c_X12_arePlaces l D cy H.size mo g5 g6 g7 g8 g9 g10 g12 g13 g14 g15 g16 g17 g18 g19 g20 g22 g23 g24 g29 g30 g31 g32 g33 (0 : Int32) s1 s3 s4 s11 s21 s25 s26 s27 s28 t2 a1 a2 (by first | with_reducible assumption | omega | assumption)) (cwV 2 hts gX12_most_X12_arePlaces rfl rfl rfl ⟨rfl, hd_X12_arePlaces⟩ ⟨Nat.le_of_ble_eq_true rfl, Nat.le_of_ble_eq_true rfl⟩) ⟨bl_, va_recvX hK.1 hP (ci := 12) (q0 := 0) rfl rfl, fun U hU hW => ⟨rfl, by rw [hU], by rw [hU]; exact hPc, kk_mv hW hK, hDw⟩⟩ rfl rfl hl.1 rfl (lv_room (Nat.le_of_ble_eq_true rfl)) dB_3_1_45.1.2.2.1 ⟨Nat.le_of_ble_eq_true rfl, Nat.le_of_ble_eq_true rfl⟩) hS (fun q _ h => hFc q h) hFc (fun r_1 u t H locs ht hvm hw hB hz1 hk1 hS => ?_)
  have hP : va_P D vwCl _ H := ro_keep hP hk1
  rcases hw with ⟨w_2, e_⟩ | ⟨w_2, e_⟩
  · have e_ := e_.symm
    subst e_
    refine lv_if_eq (tgt := 26) hx hb dB_3_1_45.1.2.2.2 (by decide) (fun c_3 => ?_) (fun c_3 => ?_)
    · exact absurd c_3 (by decide)
    · have _ := c_3
      refine lv_aload_n hx hb dB_3_1_45.2.1.1.1 rfl (lv_at hl 0 rfl) ?_
      refine lv_iload_n hx hb dB_3_1_45.2.1.1.2 rfl (lv_at hl 1 rfl) ?_
      refine lv_iload_n hx hb dB_3_1_45.2.1.2.1 rfl (lv_at hl 2 rfl) ?_
      refine ct_R hP hD [ob12_0_ mo 0 s1 t2 s3 s4 g5 g6 g7 g8 g9 g10 s11 g12 g13 g14 g15 g16 g17 g18 g19 g20 s21 g22 g23 g24 s25 s26 s27 s28 g29 g30 g31 g32 g33, ai_ cy g5 40 f5, ai_ cy g6 40 f6, ai_ cy g7 40 f7, ai_ cy g8 40 f8, az_ cy g10 40 f10] [0, 1, 2, 3, 4, 5] (by decide) rfl (fun hPc hDw => ?_)
      have hFc := va_free (wc := []) hD hS hA [] rfl
      refine va_calli (va_runV (As := [.int a1, .int a2]) (rest := []) ⟨hx, hb, hml, hown, hts⟩ (c_X12_mostOf l D cy H.size mo g5 g6 g7 g8 g9 g10 g12 g13 g14 g15 g16 g17 g18 g19 g20 g22 g23 g24 g29 g30 g31 g32 g33 (0 : Int32) s1 s3 s4 s11 s21 s25 s26 s27 s28 t2 f5 f6 f7 f8 f10 a1 a2 (by first | with_reducible assumption | omega | assumption) (by first | with_reducible assumption | omega | assumption)) (cwV 2 hts gX12_most_X12_mostOf rfl rfl rfl ⟨rfl, hd_X12_mostOf⟩ ⟨Nat.le_of_ble_eq_true rfl, Nat.le_of_ble_eq_true rfl⟩) ⟨bl_, va_recvX hK.1 hP (ci := 12) (q0 := 0) rfl rfl, fun U hU hW => ⟨rfl, by rw [hU], by rw [hU]; exact hPc, kk_mv hW hK, hDw⟩⟩ rfl rfl hl.1 rfl (lv_room (Nat.le_of_ble_eq_true rfl)) dB_3_1_45.2.1.2.2 ⟨Nat.le_of_ble_eq_true rfl, Nat.le_of_ble_eq_true rfl⟩) hS (fun q _ h => hFc q h) hFc (fun r_4 u t H locs ht hvm hw hB hz1 hk1 hS => ?_)
      have hP : va_P D vwCl _ H := ro_keep hP hk1
      refine ct_R hP hD [] [] (by decide) rfl (fun hPc hDw => ?_)
      have hFc := va_free (wc := []) hD hS hA [] rfl
      refine va_calli (va_runS (As := [.int r_4]) (rest := []) ⟨hx, hb, hml, hown, hts⟩ (c_X12_asTold l D cy H.size r_4) (va_cwS 1 hts gX12_most_X12_asTold rfl rfl rfl hd_X12_asTold ⟨Nat.le_of_ble_eq_true rfl, Nat.le_of_ble_eq_true rfl⟩) ⟨bl_, fun U hU hW => ⟨rfl, by rw [hU], by rw [hU]; exact hPc, kk_mv hW hK, hDw⟩⟩ rfl rfl hl.1 rfl (lv_room (Nat.le_of_ble_eq_true rfl)) dB_3_1_45.2.2.1.1 ⟨Nat.le_of_ble_eq_true rfl, Nat.le_of_ble_eq_true rfl⟩) hS (fun q _ h => hFc q h) hFc (fun r_5 u t H locs ht hvm hw hB hz1 hk1 hS => ?_)
      have hP : va_P D vwCl _ H := ro_keep hP hk1
      refine lv_goto (tgt := 27) hx hb dB_3_1_45.2.2.1.2 (by decide) ?_
      rw [hQ]
      exact W.iret (v := r_5) hx hb hr (fun t ht hW => ⟨⟨r_5, (), rfl, trivial, by rw [ht]; exact hP, hD⟩, hS.F ht⟩) hS.2.2 dB_3_1_45.2.2.2.2
  · have e_ := e_.symm
    subst e_
    refine lv_if_eq (tgt := 26) hx hb dB_3_1_45.1.2.2.2 (by decide) (fun c_6 => ?_) (fun c_6 => ?_)
    · have _ := c_6
      refine lv_iconst (v := (-1)) hx hb dB_3_1_45.2.2.2.1 (by decide) ?_
      rw [hQ]
      exact W.iret (v := (-1)) hx hb hr (fun t ht hW => ⟨⟨(-1), (), rfl, trivial, by rw [ht]; exact hP, hD⟩, hS.F ht⟩) hS.2.2 dB_3_1_45.2.2.2.2
    · exact absurd c_6 (by decide)

set_option maxHeartbeats 4000000 in
set_option maxRecDepth 100000 in
theorem c_X12_between (l : Launch) (D : va_G) (cy : Nat → ClassId) (sz : Nat) (mo : Nat) (g5 : Nat) (g6 : Nat) (g7 : Nat) (g8 : Nat) (g9 : Nat) (g10 : Nat) (g12 : Nat) (g13 : Nat) (g14 : Nat) (g15 : Nat) (g16 : Nat) (g17 : Nat) (g18 : Nat) (g19 : Nat) (g20 : Nat) (g22 : Nat) (g23 : Nat) (g24 : Nat) (g29 : Nat) (g30 : Nat) (g31 : Nat) (g32 : Nat) (g33 : Nat) (s0 : Int32) (s1 : Int32) (s3 : Int32) (s4 : Int32) (s11 : Int32) (s21 : Int32) (s25 : Int32) (s26 : Int32) (s27 : Int32) (s28 : Int32) (t2 : Int64) (f5 : Nat → Int32) (f6 : Nat → Int32) (f7 : Nat → Int32) (f8 : Nat → Int32) (f10 : Nat → Int32) (a1 : Int32) (a2 : Int32) (hN : 0 ≤ s4.toInt ∧ s4.toInt ≤ 40) (hPl : 0 ≤ s3.toInt ∧ s3.toInt ≤ 12) : Met l yX12_between wsX12_between ({ frames := 4, cells := 0, slots := 0, locals := 96 }) (va_Pc [.ref mo, .int a1, .int a2] (fun U => U.heap.size = sz ∧ va_P D vwCl [ob12_0_ mo s0 s1 t2 s3 s4 g5 g6 g7 g8 g9 g10 s11 g12 g13 g14 g15 g16 g17 g18 g19 g20 s21 g22 g23 g24 s25 s26 s27 s28 g29 g30 g31 g32 g33, ai_ cy g5 40 f5, ai_ cy g6 40 f6, ai_ cy g7 40 f7, ai_ cy g8 40 f8, az_ cy g10 40 f10] U.heap ∧ kk_ D cy U ∧ va_D (fun _ => True) [ob12_0_ mo s0 s1 t2 s3 s4 g5 g6 g7 g8 g9 g10 s11 g12 g13 g14 g15 g16 g17 g18 g19 g20 s21 g22 g23 g24 s25 s26 s27 s28 g29 g30 g31 g32 g33, ai_ cy g5 40 f5, ai_ cy g6 40 f6, ai_ cy g7 40 f7, ai_ cy g8 40 f8, az_ cy g10 40 f10])) (va_Qi (fun (r : Int32) (_ : Unit) => True) (fun (_ : Unit) (t : State) => va_P D vwCl [ob12_0_ mo 0 s1 t2 s3 s4 g5 g6 g7 g8 g9 g10 s11 g12 g13 g14 g15 g16 g17 g18 g19 g20 s21 g22 g23 g24 s25 s26 s27 s28 g29 g30 g31 g32 g33, ai_ cy g5 40 f5, ai_ cy g6 40 f6, ai_ cy g7 40 f7, ai_ cy g8 40 f8, az_ cy g10 40 f10] t.heap ∧ va_D (va_A [ob12_0_ mo s0 s1 t2 s3 s4 g5 g6 g7 g8 g9 g10 s11 g12 g13 g14 g15 g16 g17 g18 g19 g20 s21 g22 g23 g24 s25 s26 s27 s28 g29 g30 g31 g32 g33, ai_ cy g5 40 f5, ai_ cy g6 40 f6, ai_ cy g7 40 f7, ai_ cy g8 40 f8, az_ cy g10 40 f10] sz) [ob12_0_ mo 0 s1 t2 s3 s4 g5 g6 g7 g8 g9 g10 s11 g12 g13 g14 g15 g16 g17 g18 g19 g20 s21 g22 g23 g24 s25 s26 s27 s28 g29 g30 g31 g32 g33, ai_ cy g5 40 f5, ai_ cy g6 40 f6, ai_ cy g7 40 f7, ai_ cy g8 40 f8, az_ cy g10 40 f10]) (va_A [ob12_0_ mo s0 s1 t2 s3 s4 g5 g6 g7 g8 g9 g10 s11 g12 g13 g14 g15 g16 g17 g18 g19 g20 s21 g22 g23 g24 s25 s26 s27 s28 g29 g30 g31 g32 g33, ai_ cy g5 40 f5, ai_ cy g6 40 f6, ai_ cy g7 40 f7, ai_ cy g8 40 f8, az_ cy g10 40 f10] sz)) 0 0 (va_A [ob12_0_ mo s0 s1 t2 s3 s4 g5 g6 g7 g8 g9 g10 s11 g12 g13 g14 g15 g16 g17 g18 g19 g20 s21 g22 g23 g24 s25 s26 s27 s28 g29 g30 g31 g32 g33, ai_ cy g5 40 f5, ai_ cy g6 40 f6, ai_ cy g7 40 f7, ai_ cy g8 40 f8, az_ cy g10 40 f10] sz) := by
  refine ofQ (cc := cX12_between) (maxL := 3) (ret := (some .int)) (by decide) rfl ?_
  intro p e s m args below meth c s₁ Q hQ B hml hv
  obtain ⟨rfl, hsz, hP, hK, hD0⟩ := hv
  have hx := B.exec
  have hb := B.bytes
  have hr := B.returns
  have hts := atoms_spec (ws := wsX12_between) B.pre
  have hown : s.vm.findClass RX12 = some m.cls := by have h_ := findClass_of_methodNamed B.named; exact h_
  have hlocks := B.notSynchronized
  subst hsz
  have hD := hD0.self (sz := s.heap.size)
  generalize hAe : va_A [ob12_0_ mo s0 s1 t2 s3 s4 g5 g6 g7 g8 g9 g10 s11 g12 g13 g14 g15 g16 g17 g18 g19 g20 s21 g22 g23 g24 s25 s26 s27 s28 g29 g30 g31 g32 g33, ai_ cy g5 40 f5, ai_ cy g6 40 f6, ai_ cy g7 40 f7, ai_ cy g8 40 f8, az_ cy g10 40 f10] s.heap.size = A at hD hQ
  have hA : ∀ q : Nat, s.heap.size ≤ q → A q := fun q h => by rw [← hAe]; exact Or.inr h
  have hS : va_S A s.heap s.heap [] := va_S.rf
  have hl := lv_entry ([.ref mo, .int a1, .int a2]) (n := 3) (Nat.le_of_ble_eq_true rfl)
  rw [lg_entry_eq]
  generalize (lg_sl ([.ref mo, .int a1, .int a2]) ++ List.replicate (3 - (lg_sl ([.ref mo, .int a1, .int a2])).length) Slot.unset).toArray = ls at hl ⊢
  have hl : lv_has ls 3 [(0, .ref mo), (1, .int a1), (2, .int a2)] := hl
  have zm2 : ((-2) : Int32).toInt = -2 := by decide
  have zm1 : ((-1) : Int32).toInt = -1 := by decide
  have z0 : (0 : Int32).toInt = 0 := by decide
  refine lv_aload_n hx hb dB_3_2_3.1.1.1.1 rfl (lv_at hl 0 rfl) ?_
  refine lv_iconst (v := 0) hx hb dB_3_2_3.1.1.1.2 (by decide) ?_
  refine va_put (ci := 12) (v := .int 0) (ty := .int) (C := RX12) (T := TX12) (N := 34) hx hb hts (fun _ h => List.mem_cons_of_mem _ (List.mem_append_right _ h)) tyX12 tyX12_ok nmX12 hown hK.1 hP hD hS 0 rfl rfl 0 (by decide) (hts (.fieldLink RX12 85 "CutAtlasModel" "thrown" "I") (List.mem_of_getElem? (i := 1) rfl)) (fun _ h9 => h9) rfl (by decide +kernel) rfl rfl (Nat.le_of_ble_eq_true rfl) dB_3_2_3.1.1.2.1 (fun H locs hP hD hS => ?_)
  refine pd_K [ob12_0_ mo 0 s1 t2 s3 s4 g5 g6 g7 g8 g9 g10 s11 g12 g13 g14 g15 g16 g17 g18 g19 g20 s21 g22 g23 g24 s25 s26 s27 s28 g29 g30 g31 g32 g33, ai_ cy g5 40 f5, ai_ cy g6 40 f6, ai_ cy g7 40 f7, ai_ cy g8 40 f8, az_ cy g10 40 f10] hP hD (fun hP hD => ?_)
  refine lv_aload_n hx hb dB_3_2_3.1.1.2.2 rfl (lv_at hl 0 rfl) ?_
  refine ct_R hP hD [ob12_0_ mo 0 s1 t2 s3 s4 g5 g6 g7 g8 g9 g10 s11 g12 g13 g14 g15 g16 g17 g18 g19 g20 s21 g22 g23 g24 s25 s26 s27 s28 g29 g30 g31 g32 g33, ai_ cy g5 40 f5, az_ cy g10 40 f10] [0, 1, 5] (by decide) rfl (fun hPc hDw => ?_)
  have hFc := va_free (wc := []) hD hS hA [] rfl
  refine va_calli (va_runV (As := []) (rest := []) ⟨hx, hb, hml, hown, hts⟩ (c_X12_isWhole l D cy H.size mo g5 g6 g7 g8 g9 g10 g12 g13 g14 g15 g16 g17 g18 g19 g20 g22 g23 g24 g29 g30 g31 g32 g33 (0 : Int32) s1 s3 s4 s11 s21 s25 s26 s27 s28 t2 f5 f10 (by first | with_reducible assumption | omega | assumption)) (cwV 0 hts gX12_between_X12_isWhole rfl rfl rfl ⟨rfl, hd_X12_isWhole⟩ ⟨Nat.le_of_ble_eq_true rfl, Nat.le_of_ble_eq_true rfl⟩) ⟨bl_, va_recvX hK.1 hP (ci := 12) (q0 := 0) rfl rfl, fun U hU hW => ⟨rfl, by rw [hU], by rw [hU]; exact hPc, kk_mv hW hK, hDw⟩⟩ rfl rfl hl.1 rfl (lv_room (Nat.le_of_ble_eq_true rfl)) dB_3_2_3.1.2.1.1 ⟨Nat.le_of_ble_eq_true rfl, Nat.le_of_ble_eq_true rfl⟩) hS (fun q _ h => hFc q h) hFc (fun r_1 u t H locs ht hvm hw hB hz1 hk1 hS => ?_)
  have hP : va_P D vwCl _ H := ro_keep hP hk1
  have f0_r_1 := hw
  refine lv_if_ne (tgt := 15) hx hb dB_3_2_3.1.2.1.2 (by decide) (fun c_2 => ?_) (fun c_2 => ?_)
  · have t_2 : ¬ r_1.toInt = (0 : Int32).toInt := fun h => c_2 (Int32.toInt_inj.mp h)
    refine lv_aload_n hx hb dB_3_2_3.2.1.1.1 rfl (lv_at hl 0 rfl) ?_
    refine lv_iload_n hx hb dB_3_2_3.2.1.1.2 rfl (lv_at hl 1 rfl) ?_
    refine lv_iload_n hx hb dB_3_2_3.2.1.2.1 rfl (lv_at hl 2 rfl) ?_
    refine ct_R hP hD [ob12_0_ mo 0 s1 t2 s3 s4 g5 g6 g7 g8 g9 g10 s11 g12 g13 g14 g15 g16 g17 g18 g19 g20 s21 g22 g23 g24 s25 s26 s27 s28 g29 g30 g31 g32 g33] [0] (by decide) rfl (fun hPc hDw => ?_)
    have hFc := va_free (wc := []) hD hS hA [] rfl
    refine va_calli (va_runV (As := [.int a1, .int a2]) (rest := []) ⟨hx, hb, hml, hown, hts⟩ (c_X12_arePlaces l D cy H.size mo g5 g6 g7 g8 g9 g10 g12 g13 g14 g15 g16 g17 g18 g19 g20 g22 g23 g24 g29 g30 g31 g32 g33 (0 : Int32) s1 s3 s4 s11 s21 s25 s26 s27 s28 t2 a1 a2 (by first | with_reducible assumption | omega | assumption)) (cwV 2 hts gX12_between_X12_arePlaces rfl rfl rfl ⟨rfl, hd_X12_arePlaces⟩ ⟨Nat.le_of_ble_eq_true rfl, Nat.le_of_ble_eq_true rfl⟩) ⟨bl_, va_recvX hK.1 hP (ci := 12) (q0 := 0) rfl rfl, fun U hU hW => ⟨rfl, by rw [hU], by rw [hU]; exact hPc, kk_mv hW hK, hDw⟩⟩ rfl rfl hl.1 rfl (lv_room (Nat.le_of_ble_eq_true rfl)) dB_3_2_3.2.1.2.2 ⟨Nat.le_of_ble_eq_true rfl, Nat.le_of_ble_eq_true rfl⟩) hS (fun q _ h => hFc q h) hFc (fun r_3 u t H locs ht hvm hw hB hz1 hk1 hS => ?_)
    have hP : va_P D vwCl _ H := ro_keep hP hk1
    rcases hw with ⟨w_4, e_⟩ | ⟨w_4, e_⟩
    · have e_ := e_.symm
      subst e_
      refine lv_if_eq (tgt := 33) hx hb dB_3_2_3.2.2.1.1 (by decide) (fun c_5 => ?_) (fun c_5 => ?_)
      · exact absurd c_5 (by decide)
      · have _ := c_5
        refine lv_aload_n hx hb dB_3_2_3.2.2.1.2 rfl (lv_at hl 0 rfl) ?_
        refine lv_iload_n hx hb dB_3_2_3.2.2.2.1 rfl (lv_at hl 1 rfl) ?_
        refine lv_iload_n hx hb dB_3_2_3.2.2.2.2 rfl (lv_at hl 2 rfl) ?_
        refine ct_R hP hD [ob12_0_ mo 0 s1 t2 s3 s4 g5 g6 g7 g8 g9 g10 s11 g12 g13 g14 g15 g16 g17 g18 g19 g20 s21 g22 g23 g24 s25 s26 s27 s28 g29 g30 g31 g32 g33, ai_ cy g5 40 f5, ai_ cy g6 40 f6, ai_ cy g7 40 f7, ai_ cy g8 40 f8, az_ cy g10 40 f10] [0, 1, 2, 3, 4, 5] (by decide) rfl (fun hPc hDw => ?_)
        have hFc := va_free (wc := []) hD hS hA [] rfl
        refine va_calli (va_runV (As := [.int a1, .int a2]) (rest := []) ⟨hx, hb, hml, hown, hts⟩ (c_X12_mostOf l D cy H.size mo g5 g6 g7 g8 g9 g10 g12 g13 g14 g15 g16 g17 g18 g19 g20 g22 g23 g24 g29 g30 g31 g32 g33 (0 : Int32) s1 s3 s4 s11 s21 s25 s26 s27 s28 t2 f5 f6 f7 f8 f10 a1 a2 (by first | with_reducible assumption | omega | assumption) (by first | with_reducible assumption | omega | assumption)) (cwV 2 hts gX12_between_X12_mostOf rfl rfl rfl ⟨rfl, hd_X12_mostOf⟩ ⟨Nat.le_of_ble_eq_true rfl, Nat.le_of_ble_eq_true rfl⟩) ⟨bl_, va_recvX hK.1 hP (ci := 12) (q0 := 0) rfl rfl, fun U hU hW => ⟨rfl, by rw [hU], by rw [hU]; exact hPc, kk_mv hW hK, hDw⟩⟩ rfl rfl hl.1 rfl (lv_room (Nat.le_of_ble_eq_true rfl)) dB_3_2_4.1.1 ⟨Nat.le_of_ble_eq_true rfl, Nat.le_of_ble_eq_true rfl⟩) hS (fun q _ h => hFc q h) hFc (fun r_6 u t H locs ht hvm hw hB hz1 hk1 hS => ?_)
        have hP : va_P D vwCl _ H := ro_keep hP hk1
        refine lv_goto (tgt := 34) hx hb dB_3_2_4.1.2 (by decide) ?_
        rw [hQ]
        exact W.iret (v := r_6) hx hb hr (fun t ht hW => ⟨⟨r_6, (), rfl, trivial, by rw [ht]; exact hP, hD⟩, hS.F ht⟩) hS.2.2 dB_3_2_4.2.2
    · have e_ := e_.symm
      subst e_
      refine lv_if_eq (tgt := 33) hx hb dB_3_2_3.2.2.1.1 (by decide) (fun c_7 => ?_) (fun c_7 => ?_)
      · have _ := c_7
        refine lv_iconst (v := (-1)) hx hb dB_3_2_4.2.1 (by decide) ?_
        rw [hQ]
        exact W.iret (v := (-1)) hx hb hr (fun t ht hW => ⟨⟨(-1), (), rfl, trivial, by rw [ht]; exact hP, hD⟩, hS.F ht⟩) hS.2.2 dB_3_2_4.2.2
      · exact absurd c_7 (by decide)
  · have t_2 : r_1.toInt = (0 : Int32).toInt := congrArg Int32.toInt c_2
    refine lv_bipush (v := (-2)) hx hb dB_3_2_3.1.2.2.1 (by decide) ?_
    rw [hQ]
    exact W.iret (v := (-2)) hx hb hr (fun t ht hW => ⟨⟨(-2), (), rfl, trivial, by rw [ht]; exact hP, hD⟩, hS.F ht⟩) hS.2.2 dB_3_2_3.1.2.2.2

set_option maxHeartbeats 4000000 in
set_option maxRecDepth 100000 in
theorem c_X12_least (l : Launch) (D : va_G) (cy : Nat → ClassId) (sz : Nat) (mo : Nat) (g5 : Nat) (g6 : Nat) (g7 : Nat) (g8 : Nat) (g9 : Nat) (g10 : Nat) (g12 : Nat) (g13 : Nat) (g14 : Nat) (g15 : Nat) (g16 : Nat) (g17 : Nat) (g18 : Nat) (g19 : Nat) (g20 : Nat) (g22 : Nat) (g23 : Nat) (g24 : Nat) (g29 : Nat) (g30 : Nat) (g31 : Nat) (g32 : Nat) (g33 : Nat) (s0 : Int32) (s1 : Int32) (s3 : Int32) (s4 : Int32) (s11 : Int32) (s21 : Int32) (s25 : Int32) (s26 : Int32) (s27 : Int32) (s28 : Int32) (t2 : Int64) (f5 : Nat → Int32) (f6 : Nat → Int32) (f7 : Nat → Int32) (f8 : Nat → Int32) (f10 : Nat → Int32) (hN : 0 ≤ s4.toInt ∧ s4.toInt ≤ 40) (hPl : 0 ≤ s3.toInt ∧ s3.toInt ≤ 12) : Met l yX12_least wsX12_least ({ frames := 5, cells := 0, slots := 0, locals := 119 }) (va_Pc [.ref mo] (fun U => U.heap.size = sz ∧ va_P D vwCl [ob12_0_ mo s0 s1 t2 s3 s4 g5 g6 g7 g8 g9 g10 s11 g12 g13 g14 g15 g16 g17 g18 g19 g20 s21 g22 g23 g24 s25 s26 s27 s28 g29 g30 g31 g32 g33, ai_ cy g5 40 f5, ai_ cy g6 40 f6, ai_ cy g7 40 f7, ai_ cy g8 40 f8, az_ cy g10 40 f10] U.heap ∧ kk_ D cy U ∧ va_D (fun _ => True) [ob12_0_ mo s0 s1 t2 s3 s4 g5 g6 g7 g8 g9 g10 s11 g12 g13 g14 g15 g16 g17 g18 g19 g20 s21 g22 g23 g24 s25 s26 s27 s28 g29 g30 g31 g32 g33, ai_ cy g5 40 f5, ai_ cy g6 40 f6, ai_ cy g7 40 f7, ai_ cy g8 40 f8, az_ cy g10 40 f10])) (va_Qi (fun (r : Int32) (_ : Unit) => True) (fun (_ : Unit) (t : State) => va_P D vwCl [ob12_0_ mo 0 s1 t2 s3 s4 g5 g6 g7 g8 g9 g10 s11 g12 g13 g14 g15 g16 g17 g18 g19 g20 s21 g22 g23 g24 s25 s26 s27 s28 g29 g30 g31 g32 g33, ai_ cy g5 40 f5, ai_ cy g6 40 f6, ai_ cy g7 40 f7, ai_ cy g8 40 f8, az_ cy g10 40 f10] t.heap ∧ va_D (va_A [ob12_0_ mo s0 s1 t2 s3 s4 g5 g6 g7 g8 g9 g10 s11 g12 g13 g14 g15 g16 g17 g18 g19 g20 s21 g22 g23 g24 s25 s26 s27 s28 g29 g30 g31 g32 g33, ai_ cy g5 40 f5, ai_ cy g6 40 f6, ai_ cy g7 40 f7, ai_ cy g8 40 f8, az_ cy g10 40 f10] sz) [ob12_0_ mo 0 s1 t2 s3 s4 g5 g6 g7 g8 g9 g10 s11 g12 g13 g14 g15 g16 g17 g18 g19 g20 s21 g22 g23 g24 s25 s26 s27 s28 g29 g30 g31 g32 g33, ai_ cy g5 40 f5, ai_ cy g6 40 f6, ai_ cy g7 40 f7, ai_ cy g8 40 f8, az_ cy g10 40 f10]) (va_A [ob12_0_ mo s0 s1 t2 s3 s4 g5 g6 g7 g8 g9 g10 s11 g12 g13 g14 g15 g16 g17 g18 g19 g20 s21 g22 g23 g24 s25 s26 s27 s28 g29 g30 g31 g32 g33, ai_ cy g5 40 f5, ai_ cy g6 40 f6, ai_ cy g7 40 f7, ai_ cy g8 40 f8, az_ cy g10 40 f10] sz)) 0 0 (va_A [ob12_0_ mo s0 s1 t2 s3 s4 g5 g6 g7 g8 g9 g10 s11 g12 g13 g14 g15 g16 g17 g18 g19 g20 s21 g22 g23 g24 s25 s26 s27 s28 g29 g30 g31 g32 g33, ai_ cy g5 40 f5, ai_ cy g6 40 f6, ai_ cy g7 40 f7, ai_ cy g8 40 f8, az_ cy g10 40 f10] sz) := by
  refine ofQ (cc := cX12_least) (maxL := 1) (ret := (some .int)) (by decide) rfl ?_
  intro p e s m args below meth c s₁ Q hQ B hml hv
  obtain ⟨rfl, hsz, hP, hK, hD0⟩ := hv
  have hx := B.exec
  have hb := B.bytes
  have hr := B.returns
  have hts := atoms_spec (ws := wsX12_least) B.pre
  have hown : s.vm.findClass RX12 = some m.cls := by have h_ := findClass_of_methodNamed B.named; exact h_
  have hlocks := B.notSynchronized
  subst hsz
  have hD := hD0.self (sz := s.heap.size)
  generalize hAe : va_A [ob12_0_ mo s0 s1 t2 s3 s4 g5 g6 g7 g8 g9 g10 s11 g12 g13 g14 g15 g16 g17 g18 g19 g20 s21 g22 g23 g24 s25 s26 s27 s28 g29 g30 g31 g32 g33, ai_ cy g5 40 f5, ai_ cy g6 40 f6, ai_ cy g7 40 f7, ai_ cy g8 40 f8, az_ cy g10 40 f10] s.heap.size = A at hD hQ
  have hA : ∀ q : Nat, s.heap.size ≤ q → A q := fun q h => by rw [← hAe]; exact Or.inr h
  have hS : va_S A s.heap s.heap [] := va_S.rf
  have hl := lv_entry ([.ref mo]) (n := 1) (Nat.le_of_ble_eq_true rfl)
  rw [lg_entry_eq]
  generalize (lg_sl ([.ref mo]) ++ List.replicate (1 - (lg_sl ([.ref mo])).length) Slot.unset).toArray = ls at hl ⊢
  have hl : lv_has ls 1 [(0, .ref mo)] := hl
  have zm2 : ((-2) : Int32).toInt = -2 := by decide
  have z0 : (0 : Int32).toInt = 0 := by decide
  refine lv_aload_n hx hb dB_3_2_34.1.1.1 rfl (lv_at hl 0 rfl) ?_
  refine lv_iconst (v := 0) hx hb dB_3_2_34.1.1.2 (by decide) ?_
  refine va_put (ci := 12) (v := .int 0) (ty := .int) (C := RX12) (T := TX12) (N := 34) hx hb hts (fun _ h => List.mem_cons_of_mem _ (List.mem_append_right _ h)) tyX12 tyX12_ok nmX12 hown hK.1 hP hD hS 0 rfl rfl 0 (by decide) (hts (.fieldLink RX12 85 "CutAtlasModel" "thrown" "I") (List.mem_of_getElem? (i := 1) rfl)) (fun _ h9 => h9) rfl (by decide +kernel) rfl rfl (Nat.le_of_ble_eq_true rfl) dB_3_2_34.1.2.1 (fun H locs hP hD hS => ?_)
  refine pd_K [ob12_0_ mo 0 s1 t2 s3 s4 g5 g6 g7 g8 g9 g10 s11 g12 g13 g14 g15 g16 g17 g18 g19 g20 s21 g22 g23 g24 s25 s26 s27 s28 g29 g30 g31 g32 g33, ai_ cy g5 40 f5, ai_ cy g6 40 f6, ai_ cy g7 40 f7, ai_ cy g8 40 f8, az_ cy g10 40 f10] hP hD (fun hP hD => ?_)
  refine lv_aload_n hx hb dB_3_2_34.1.2.2.1 rfl (lv_at hl 0 rfl) ?_
  refine ct_R hP hD [ob12_0_ mo 0 s1 t2 s3 s4 g5 g6 g7 g8 g9 g10 s11 g12 g13 g14 g15 g16 g17 g18 g19 g20 s21 g22 g23 g24 s25 s26 s27 s28 g29 g30 g31 g32 g33, ai_ cy g5 40 f5, az_ cy g10 40 f10] [0, 1, 5] (by decide) rfl (fun hPc hDw => ?_)
  have hFc := va_free (wc := []) hD hS hA [] rfl
  refine va_calli (va_runV (As := []) (rest := []) ⟨hx, hb, hml, hown, hts⟩ (c_X12_isWhole l D cy H.size mo g5 g6 g7 g8 g9 g10 g12 g13 g14 g15 g16 g17 g18 g19 g20 g22 g23 g24 g29 g30 g31 g32 g33 (0 : Int32) s1 s3 s4 s11 s21 s25 s26 s27 s28 t2 f5 f10 (by first | with_reducible assumption | omega | assumption)) (cwV 0 hts gX12_least_X12_isWhole rfl rfl rfl ⟨rfl, hd_X12_isWhole⟩ ⟨Nat.le_of_ble_eq_true rfl, Nat.le_of_ble_eq_true rfl⟩) ⟨bl_, va_recvX hK.1 hP (ci := 12) (q0 := 0) rfl rfl, fun U hU hW => ⟨rfl, by rw [hU], by rw [hU]; exact hPc, kk_mv hW hK, hDw⟩⟩ rfl rfl hl.1 rfl (lv_room (Nat.le_of_ble_eq_true rfl)) dB_3_2_34.1.2.2.2 ⟨Nat.le_of_ble_eq_true rfl, Nat.le_of_ble_eq_true rfl⟩) hS (fun q _ h => hFc q h) hFc (fun r_1 u t H locs ht hvm hw hB hz1 hk1 hS => ?_)
  have hP : va_P D vwCl _ H := ro_keep hP hk1
  have f0_r_1 := hw
  refine lv_if_eq (tgt := 19) hx hb dB_3_2_34.2.1.1 (by decide) (fun c_2 => ?_) (fun c_2 => ?_)
  · have t_2 : r_1.toInt = (0 : Int32).toInt := congrArg Int32.toInt c_2
    refine lv_bipush (v := (-2)) hx hb dB_3_2_34.2.2.2.1 (by decide) ?_
    rw [hQ]
    exact W.iret (v := (-2)) hx hb hr (fun t ht hW => ⟨⟨(-2), (), rfl, trivial, by rw [ht]; exact hP, hD⟩, hS.F ht⟩) hS.2.2 dB_3_2_34.2.2.2.2
  · have t_2 : ¬ r_1.toInt = (0 : Int32).toInt := fun h => c_2 (Int32.toInt_inj.mp h)
    refine lv_aload_n hx hb dB_3_2_34.2.1.2.1 rfl (lv_at hl 0 rfl) ?_
    refine ct_R hP hD [ob12_0_ mo 0 s1 t2 s3 s4 g5 g6 g7 g8 g9 g10 s11 g12 g13 g14 g15 g16 g17 g18 g19 g20 s21 g22 g23 g24 s25 s26 s27 s28 g29 g30 g31 g32 g33, ai_ cy g5 40 f5, ai_ cy g6 40 f6, ai_ cy g7 40 f7, ai_ cy g8 40 f8, az_ cy g10 40 f10] [0, 1, 2, 3, 4, 5] (by decide) rfl (fun hPc hDw => ?_)
    have hFc := va_free (wc := []) hD hS hA [] rfl
    refine va_calli (va_runV (As := []) (rest := []) ⟨hx, hb, hml, hown, hts⟩ (c_X12_leastOf l D cy H.size mo g5 g6 g7 g8 g9 g10 g12 g13 g14 g15 g16 g17 g18 g19 g20 g22 g23 g24 g29 g30 g31 g32 g33 (0 : Int32) s1 s3 s4 s11 s21 s25 s26 s27 s28 t2 f5 f6 f7 f8 f10 (by first | with_reducible assumption | omega | assumption) (by first | with_reducible assumption | omega | assumption)) (cwV 0 hts gX12_least_X12_leastOf rfl rfl rfl ⟨rfl, hd_X12_leastOf⟩ ⟨Nat.le_of_ble_eq_true rfl, Nat.le_of_ble_eq_true rfl⟩) ⟨bl_, va_recvX hK.1 hP (ci := 12) (q0 := 0) rfl rfl, fun U hU hW => ⟨rfl, by rw [hU], by rw [hU]; exact hPc, kk_mv hW hK, hDw⟩⟩ rfl rfl hl.1 rfl (lv_room (Nat.le_of_ble_eq_true rfl)) dB_3_2_34.2.1.2.2 ⟨Nat.le_of_ble_eq_true rfl, Nat.le_of_ble_eq_true rfl⟩) hS (fun q _ h => hFc q h) hFc (fun r_3 u t H locs ht hvm hw hB hz1 hk1 hS => ?_)
    have hP : va_P D vwCl _ H := ro_keep hP hk1
    refine lv_goto (tgt := 21) hx hb dB_3_2_34.2.2.1 (by decide) ?_
    rw [hQ]
    exact W.iret (v := r_3) hx hb hr (fun t ht hW => ⟨⟨r_3, (), rfl, trivial, by rw [ht]; exact hP, hD⟩, hS.F ht⟩) hS.2.2 dB_3_2_34.2.2.2.2

set_option maxHeartbeats 4000000 in
set_option maxRecDepth 100000 in
theorem c_X12_size (l : Launch) (D : va_G) (cy : Nat → ClassId) (sz : Nat) (mo : Nat) (g5 : Nat) (g6 : Nat) (g7 : Nat) (g8 : Nat) (g9 : Nat) (g10 : Nat) (g12 : Nat) (g13 : Nat) (g14 : Nat) (g15 : Nat) (g16 : Nat) (g17 : Nat) (g18 : Nat) (g19 : Nat) (g20 : Nat) (g22 : Nat) (g23 : Nat) (g24 : Nat) (g29 : Nat) (g30 : Nat) (g31 : Nat) (g32 : Nat) (g33 : Nat) (s0 : Int32) (s1 : Int32) (s3 : Int32) (s4 : Int32) (s11 : Int32) (s21 : Int32) (s25 : Int32) (s26 : Int32) (s27 : Int32) (s28 : Int32) (t2 : Int64) (f5 : Nat → Int32) (f6 : Nat → Int32) (f7 : Nat → Int32) (f8 : Nat → Int32) (f10 : Nat → Int32) (a1 : Int32) (a2 : Int32) (a3 : Int32) (hN : 0 ≤ s4.toInt ∧ s4.toInt ≤ 40) (hPl : 0 ≤ s3.toInt ∧ s3.toInt ≤ 12) : Met l yX12_size wsX12_size ({ frames := 3, cells := 0, slots := 0, locals := 71 }) (va_Pc [.ref mo, .int a1, .int a2, .int a3] (fun U => U.heap.size = sz ∧ va_P D vwCl [ob12_0_ mo s0 s1 t2 s3 s4 g5 g6 g7 g8 g9 g10 s11 g12 g13 g14 g15 g16 g17 g18 g19 g20 s21 g22 g23 g24 s25 s26 s27 s28 g29 g30 g31 g32 g33, ai_ cy g5 40 f5, ai_ cy g6 40 f6, ai_ cy g7 40 f7, ai_ cy g8 40 f8, az_ cy g10 40 f10] U.heap ∧ kk_ D cy U ∧ va_D (fun _ => True) [ob12_0_ mo s0 s1 t2 s3 s4 g5 g6 g7 g8 g9 g10 s11 g12 g13 g14 g15 g16 g17 g18 g19 g20 s21 g22 g23 g24 s25 s26 s27 s28 g29 g30 g31 g32 g33, ai_ cy g5 40 f5, ai_ cy g6 40 f6, ai_ cy g7 40 f7, ai_ cy g8 40 f8, az_ cy g10 40 f10])) (va_Qi (fun (r : Int32) (_ : Unit) => True) (fun (_ : Unit) (t : State) => va_P D vwCl [ob12_0_ mo 0 s1 t2 s3 s4 g5 g6 g7 g8 g9 g10 s11 g12 g13 g14 g15 g16 g17 g18 g19 g20 s21 g22 g23 g24 s25 s26 s27 s28 g29 g30 g31 g32 g33, ai_ cy g5 40 f5, ai_ cy g6 40 f6, ai_ cy g7 40 f7, ai_ cy g8 40 f8, az_ cy g10 40 f10] t.heap ∧ va_D (va_A [ob12_0_ mo s0 s1 t2 s3 s4 g5 g6 g7 g8 g9 g10 s11 g12 g13 g14 g15 g16 g17 g18 g19 g20 s21 g22 g23 g24 s25 s26 s27 s28 g29 g30 g31 g32 g33, ai_ cy g5 40 f5, ai_ cy g6 40 f6, ai_ cy g7 40 f7, ai_ cy g8 40 f8, az_ cy g10 40 f10] sz) [ob12_0_ mo 0 s1 t2 s3 s4 g5 g6 g7 g8 g9 g10 s11 g12 g13 g14 g15 g16 g17 g18 g19 g20 s21 g22 g23 g24 s25 s26 s27 s28 g29 g30 g31 g32 g33, ai_ cy g5 40 f5, ai_ cy g6 40 f6, ai_ cy g7 40 f7, ai_ cy g8 40 f8, az_ cy g10 40 f10]) (va_A [ob12_0_ mo s0 s1 t2 s3 s4 g5 g6 g7 g8 g9 g10 s11 g12 g13 g14 g15 g16 g17 g18 g19 g20 s21 g22 g23 g24 s25 s26 s27 s28 g29 g30 g31 g32 g33, ai_ cy g5 40 f5, ai_ cy g6 40 f6, ai_ cy g7 40 f7, ai_ cy g8 40 f8, az_ cy g10 40 f10] sz)) 0 0 (va_A [ob12_0_ mo s0 s1 t2 s3 s4 g5 g6 g7 g8 g9 g10 s11 g12 g13 g14 g15 g16 g17 g18 g19 g20 s21 g22 g23 g24 s25 s26 s27 s28 g29 g30 g31 g32 g33, ai_ cy g5 40 f5, ai_ cy g6 40 f6, ai_ cy g7 40 f7, ai_ cy g8 40 f8, az_ cy g10 40 f10] sz) := by
  refine ofQ (cc := cX12_size) (maxL := 5) (ret := (some .int)) (by decide) rfl ?_
  intro p e s m args below meth c s₁ Q hQ B hml hv
  obtain ⟨rfl, hsz, hP, hK, hD0⟩ := hv
  have hx := B.exec
  have hb := B.bytes
  have hr := B.returns
  have hts := atoms_spec (ws := wsX12_size) B.pre
  have hown : s.vm.findClass RX12 = some m.cls := by have h_ := findClass_of_methodNamed B.named; exact h_
  have hlocks := B.notSynchronized
  subst hsz
  have hD := hD0.self (sz := s.heap.size)
  generalize hAe : va_A [ob12_0_ mo s0 s1 t2 s3 s4 g5 g6 g7 g8 g9 g10 s11 g12 g13 g14 g15 g16 g17 g18 g19 g20 s21 g22 g23 g24 s25 s26 s27 s28 g29 g30 g31 g32 g33, ai_ cy g5 40 f5, ai_ cy g6 40 f6, ai_ cy g7 40 f7, ai_ cy g8 40 f8, az_ cy g10 40 f10] s.heap.size = A at hD hQ
  have hA : ∀ q : Nat, s.heap.size ≤ q → A q := fun q h => by rw [← hAe]; exact Or.inr h
  have hS : va_S A s.heap s.heap [] := va_S.rf
  have hl := lv_entry ([.ref mo, .int a1, .int a2, .int a3]) (n := 5) (Nat.le_of_ble_eq_true rfl)
  rw [lg_entry_eq]
  generalize (lg_sl ([.ref mo, .int a1, .int a2, .int a3]) ++ List.replicate (5 - (lg_sl ([.ref mo, .int a1, .int a2, .int a3])).length) Slot.unset).toArray = ls at hl ⊢
  have hl : lv_has ls 5 [(0, .ref mo), (1, .int a1), (2, .int a2), (3, .int a3)] := hl
  have zm1 : ((-1) : Int32).toInt = -1 := by decide
  have z0 : (0 : Int32).toInt = 0 := by decide
  have z1 : (1 : Int32).toInt = 1 := by decide
  refine lv_aload_n hx hb dB_3_1_57.1.1.1.1 rfl (lv_at hl 0 rfl) ?_
  refine lv_iconst (v := 0) hx hb dB_3_1_57.1.1.1.2 (by decide) ?_
  refine va_put (ci := 12) (v := .int 0) (ty := .int) (C := RX12) (T := TX12) (N := 34) hx hb hts (fun _ h => List.mem_cons_of_mem _ (List.mem_append_right _ h)) tyX12 tyX12_ok nmX12 hown hK.1 hP hD hS 0 rfl rfl 0 (by decide) (hts (.fieldLink RX12 85 "CutAtlasModel" "thrown" "I") (List.mem_of_getElem? (i := 1) rfl)) (fun _ h9 => h9) rfl (by decide +kernel) rfl rfl (Nat.le_of_ble_eq_true rfl) dB_3_1_57.1.1.2.1 (fun H locs hP hD hS => ?_)
  refine pd_K [ob12_0_ mo 0 s1 t2 s3 s4 g5 g6 g7 g8 g9 g10 s11 g12 g13 g14 g15 g16 g17 g18 g19 g20 s21 g22 g23 g24 s25 s26 s27 s28 g29 g30 g31 g32 g33, ai_ cy g5 40 f5, ai_ cy g6 40 f6, ai_ cy g7 40 f7, ai_ cy g8 40 f8, az_ cy g10 40 f10] hP hD (fun hP hD => ?_)
  refine lv_aload_n hx hb dB_3_1_57.1.1.2.2 rfl (lv_at hl 0 rfl) ?_
  refine lv_iload_n hx hb dB_3_1_57.1.2.1.1 rfl (lv_at hl 1 rfl) ?_
  refine lv_iload_n hx hb dB_3_1_57.1.2.1.2 rfl (lv_at hl 2 rfl) ?_
  refine ct_R hP hD [ob12_0_ mo 0 s1 t2 s3 s4 g5 g6 g7 g8 g9 g10 s11 g12 g13 g14 g15 g16 g17 g18 g19 g20 s21 g22 g23 g24 s25 s26 s27 s28 g29 g30 g31 g32 g33] [0] (by decide) rfl (fun hPc hDw => ?_)
  have hFc := va_free (wc := []) hD hS hA [] rfl
  refine va_calli (va_runV (As := [.int a1, .int a2]) (rest := []) ⟨hx, hb, hml, hown, hts⟩ (c_X12_arePlaces l D cy H.size mo g5 g6 g7 g8 g9 g10 g12 g13 g14 g15 g16 g17 g18 g19 g20 g22 g23 g24 g29 g30 g31 g32 g33 (0 : Int32) s1 s3 s4 s11 s21 s25 s26 s27 s28 t2 a1 a2 (by first | with_reducible assumption | omega | assumption)) (cwV 2 hts gX12_size_X12_arePlaces rfl rfl rfl ⟨rfl, hd_X12_arePlaces⟩ ⟨Nat.le_of_ble_eq_true rfl, Nat.le_of_ble_eq_true rfl⟩) ⟨bl_, va_recvX hK.1 hP (ci := 12) (q0 := 0) rfl rfl, fun U hU hW => ⟨rfl, by rw [hU], by rw [hU]; exact hPc, kk_mv hW hK, hDw⟩⟩ rfl rfl hl.1 rfl (lv_room (Nat.le_of_ble_eq_true rfl)) dB_3_1_57.1.2.2.1 ⟨Nat.le_of_ble_eq_true rfl, Nat.le_of_ble_eq_true rfl⟩) hS (fun q _ h => hFc q h) hFc (fun r_1 u t H locs ht hvm hw hB hz1 hk1 hS => ?_)
  have hP : va_P D vwCl _ H := ro_keep hP hk1
  rcases hw with ⟨w_2, e_⟩ | ⟨w_2, e_⟩
  · have e_ := e_.symm
    subst e_
    refine lv_if_ne (tgt := 16) hx hb dB_3_1_57.1.2.2.2 (by decide) (fun c_3 => ?_) (fun c_3 => ?_)
    · have _ := c_3
      refine lv_iconst (v := 1) hx hb dB_3_1_57.2.1.2.1 (by decide) ?_
      refine lv_aload_n hx hb dB_3_1_57.2.1.2.2 rfl (lv_at hl 0 rfl) ?_
      refine va_get (ci := 12) (v := .int s3) (C := RX12) (T := TX12) (N := 34) hx hb hts (fun _ h => List.mem_cons_of_mem _ (List.mem_append_right _ h)) hown hK.1 hP 0 rfl rfl 3 (by decide) (hts (.fieldLink RX12 88 "CutAtlasModel" "places" "I") (List.mem_of_getElem? (i := 2) rfl)) (fun _ h9 => h9) rfl dB_3_1_57.2.2.1.1 ?_
      refine lv_ishl hx hb dB_3_1_57.2.2.1.2 ?_
      refine lv_topi (fun y_4 ey_4 => ?_)
      have ty_4 : 1 ≤ y_4.toInt ∧ y_4.toInt ≤ 4096 := by rw [ey_4]; exact shl1 (by omega) (by omega)
      refine lv_iconst (v := 1) hx hb dB_3_1_57.2.2.2.1 (by decide) ?_
      refine lv_isub hx hb dB_3_1_57.2.2.2.2 ?_
      refine lv_topi (fun y_5 ey_5 => ?_)
      have ty_5 : y_5.toInt = y_4.toInt - (1 : Int32).toInt := by rw [ey_5]; exact subI (by omega) (by omega)
      refine lv_istore (lv' := [(4, .int y_5), (0, .ref mo), (1, .int a1), (2, .int a2), (3, .int a3)]) hx hb dB_3_1_58.1.1.1.1 hl (by decide) rfl (fun ls hl => ?_)
      refine lv_aload_n hx hb dB_3_1_58.1.1.1.2 rfl (lv_at hl 1 rfl) ?_
      refine lv_iload_n hx hb dB_3_1_58.1.1.2.1 rfl (lv_at hl 4 rfl) ?_
      refine lv_iload hx hb dB_3_1_58.1.1.2.2 (lv_at hl 0 rfl) ?_
      refine lv_iand hx hb dB_3_1_58.1.2.1.1 ?_
      refine lv_topi (fun y_6 ey_6 => ?_)
      refine lv_iconst (v := 1) hx hb dB_3_1_58.1.2.1.2 (by decide) ?_
      refine lv_iload_n hx hb dB_3_1_58.1.2.2.1 rfl (lv_at hl 2 rfl) ?_
      refine lv_ishl hx hb dB_3_1_58.1.2.2.2 ?_
      refine lv_topi (fun y_7 ey_7 => ?_)
      refine lv_ior hx hb dB_3_1_58.2.1.1.1 ?_
      refine lv_topi (fun y_8 ey_8 => ?_)
      refine lv_iconst (v := 1) hx hb dB_3_1_58.2.1.1.2 (by decide) ?_
      refine lv_iload_n hx hb dB_3_1_58.2.1.2.1 rfl (lv_at hl 3 rfl) ?_
      refine lv_ishl hx hb dB_3_1_58.2.1.2.2 ?_
      refine lv_topi (fun y_9 ey_9 => ?_)
      refine lv_iconst (v := (-1)) hx hb dB_3_1_58.2.2.1.1 (by decide) ?_
      refine lv_ixor hx hb dB_3_1_58.2.2.1.2 ?_
      refine lv_topi (fun y_10 ey_10 => ?_)
      refine lv_iand hx hb dB_3_1_58.2.2.2.1 ?_
      refine lv_topi (fun y_11 ey_11 => ?_)
      refine ct_R hP hD [ob12_0_ mo 0 s1 t2 s3 s4 g5 g6 g7 g8 g9 g10 s11 g12 g13 g14 g15 g16 g17 g18 g19 g20 s21 g22 g23 g24 s25 s26 s27 s28 g29 g30 g31 g32 g33, ai_ cy g5 40 f5, ai_ cy g6 40 f6, ai_ cy g7 40 f7, ai_ cy g8 40 f8, az_ cy g10 40 f10] [0, 1, 2, 3, 4, 5] (by decide) rfl (fun hPc hDw => ?_)
      have hFc := va_free (wc := []) hD hS hA [] rfl
      refine va_calli (va_runV (As := [.int y_11]) (rest := []) ⟨hx, hb, hml, hown, hts⟩ (c_X12_sizeOf l D cy H.size mo g5 g6 g7 g8 g9 g10 g12 g13 g14 g15 g16 g17 g18 g19 g20 g22 g23 g24 g29 g30 g31 g32 g33 (0 : Int32) s1 s3 s4 s11 s21 s25 s26 s27 s28 t2 f5 f6 f7 f8 f10 y_11 (by first | with_reducible assumption | omega | assumption)) (cwV 1 hts gX12_size_X12_sizeOf rfl rfl rfl ⟨rfl, hd_X12_sizeOf⟩ ⟨Nat.le_of_ble_eq_true rfl, Nat.le_of_ble_eq_true rfl⟩) ⟨bl_, va_recvX hK.1 hP (ci := 12) (q0 := 0) rfl rfl, fun U hU hW => ⟨rfl, by rw [hU], by rw [hU]; exact hPc, kk_mv hW hK, hDw⟩⟩ rfl rfl hl.1 rfl (lv_room (Nat.le_of_ble_eq_true rfl)) dB_3_1_58.2.2.2.2 ⟨Nat.le_of_ble_eq_true rfl, Nat.le_of_ble_eq_true rfl⟩) hS (fun q _ h => hFc q h) hFc (fun r_12 u t H locs ht hvm hw hB hz1 hk1 hS => ?_)
      have hP : va_P D vwCl _ H := ro_keep hP hk1
      refine ct_R hP hD [] [] (by decide) rfl (fun hPc hDw => ?_)
      have hFc := va_free (wc := []) hD hS hA [] rfl
      refine va_calli (va_runS (As := [.int r_12]) (rest := []) ⟨hx, hb, hml, hown, hts⟩ (c_X12_asTold l D cy H.size r_12) (va_cwS 1 hts gX12_size_X12_asTold rfl rfl rfl hd_X12_asTold ⟨Nat.le_of_ble_eq_true rfl, Nat.le_of_ble_eq_true rfl⟩) ⟨bl_, fun U hU hW => ⟨rfl, by rw [hU], by rw [hU]; exact hPc, kk_mv hW hK, hDw⟩⟩ rfl rfl hl.1 rfl (lv_room (Nat.le_of_ble_eq_true rfl)) dB_3_1_59.1 ⟨Nat.le_of_ble_eq_true rfl, Nat.le_of_ble_eq_true rfl⟩) hS (fun q _ h => hFc q h) hFc (fun r_13 u t H locs ht hvm hw hB hz1 hk1 hS => ?_)
      have hP : va_P D vwCl _ H := ro_keep hP hk1
      rw [hQ]
      exact W.iret (v := r_13) hx hb hr (fun t ht hW => ⟨⟨r_13, (), rfl, trivial, by rw [ht]; exact hP, hD⟩, hS.F ht⟩) hS.2.2 dB_3_1_59.2
    · exact absurd c_3 (by decide)
  · have e_ := e_.symm
    subst e_
    refine lv_if_ne (tgt := 16) hx hb dB_3_1_57.1.2.2.2 (by decide) (fun c_14 => ?_) (fun c_14 => ?_)
    · exact absurd c_14 (by decide)
    · have _ := c_14
      refine lv_iconst (v := (-1)) hx hb dB_3_1_57.2.1.1.1 (by decide) ?_
      rw [hQ]
      exact W.iret (v := (-1)) hx hb hr (fun t ht hW => ⟨⟨(-1), (), rfl, trivial, by rw [ht]; exact hP, hD⟩, hS.F ht⟩) hS.2.2 dB_3_1_57.2.1.1.2

set_option maxHeartbeats 4000000 in
set_option maxRecDepth 100000 in
theorem c_X12_cut (l : Launch) (D : va_G) (cy : Nat → ClassId) (sz : Nat) (mo : Nat) (g5 : Nat) (g6 : Nat) (g7 : Nat) (g8 : Nat) (g9 : Nat) (g10 : Nat) (g12 : Nat) (g13 : Nat) (g14 : Nat) (g15 : Nat) (g16 : Nat) (g17 : Nat) (g18 : Nat) (g19 : Nat) (g20 : Nat) (g22 : Nat) (g23 : Nat) (g24 : Nat) (g29 : Nat) (g30 : Nat) (g31 : Nat) (g32 : Nat) (g33 : Nat) (s0 : Int32) (s1 : Int32) (s3 : Int32) (s4 : Int32) (s11 : Int32) (s21 : Int32) (s25 : Int32) (s26 : Int32) (s27 : Int32) (s28 : Int32) (t2 : Int64) (f5 : Nat → Int32) (f6 : Nat → Int32) (f7 : Nat → Int32) (f8 : Nat → Int32) (f10 : Nat → Int32) (a1 : Int32) (a2 : Int32) (a3 : Int32) (hN : 0 ≤ s4.toInt ∧ s4.toInt ≤ 40) (hPl : 0 ≤ s3.toInt ∧ s3.toInt ≤ 12) : Met l yX12_cut wsX12_cut ({ frames := 4, cells := 0, slots := 0, locals := 96 }) (va_Pc [.ref mo, .int a1, .int a2, .int a3] (fun U => U.heap.size = sz ∧ va_P D vwCl [ob12_0_ mo s0 s1 t2 s3 s4 g5 g6 g7 g8 g9 g10 s11 g12 g13 g14 g15 g16 g17 g18 g19 g20 s21 g22 g23 g24 s25 s26 s27 s28 g29 g30 g31 g32 g33, ai_ cy g5 40 f5, ai_ cy g6 40 f6, ai_ cy g7 40 f7, ai_ cy g8 40 f8, az_ cy g10 40 f10] U.heap ∧ kk_ D cy U ∧ va_D (fun _ => True) [ob12_0_ mo s0 s1 t2 s3 s4 g5 g6 g7 g8 g9 g10 s11 g12 g13 g14 g15 g16 g17 g18 g19 g20 s21 g22 g23 g24 s25 s26 s27 s28 g29 g30 g31 g32 g33, ai_ cy g5 40 f5, ai_ cy g6 40 f6, ai_ cy g7 40 f7, ai_ cy g8 40 f8, az_ cy g10 40 f10])) (va_Qi (fun (r : Int32) (_ : Unit) => True) (fun (_ : Unit) (t : State) => ∃ (n25 : Int32), ∃ (n26 : Int32), ∃ (n27 : Int32), ∃ (n28 : Int32), va_P D vwCl [ob12_0_ mo 0 s1 t2 s3 s4 g5 g6 g7 g8 g9 g10 s11 g12 g13 g14 g15 g16 g17 g18 g19 g20 s21 g22 g23 g24 n25 n26 n27 n28 g29 g30 g31 g32 g33, ai_ cy g5 40 f5, ai_ cy g6 40 f6, ai_ cy g7 40 f7, ai_ cy g8 40 f8, az_ cy g10 40 f10] t.heap ∧ va_D (va_A [ob12_0_ mo s0 s1 t2 s3 s4 g5 g6 g7 g8 g9 g10 s11 g12 g13 g14 g15 g16 g17 g18 g19 g20 s21 g22 g23 g24 s25 s26 s27 s28 g29 g30 g31 g32 g33, ai_ cy g5 40 f5, ai_ cy g6 40 f6, ai_ cy g7 40 f7, ai_ cy g8 40 f8, az_ cy g10 40 f10] sz) [ob12_0_ mo 0 s1 t2 s3 s4 g5 g6 g7 g8 g9 g10 s11 g12 g13 g14 g15 g16 g17 g18 g19 g20 s21 g22 g23 g24 n25 n26 n27 n28 g29 g30 g31 g32 g33, ai_ cy g5 40 f5, ai_ cy g6 40 f6, ai_ cy g7 40 f7, ai_ cy g8 40 f8, az_ cy g10 40 f10]) (va_A [ob12_0_ mo s0 s1 t2 s3 s4 g5 g6 g7 g8 g9 g10 s11 g12 g13 g14 g15 g16 g17 g18 g19 g20 s21 g22 g23 g24 s25 s26 s27 s28 g29 g30 g31 g32 g33, ai_ cy g5 40 f5, ai_ cy g6 40 f6, ai_ cy g7 40 f7, ai_ cy g8 40 f8, az_ cy g10 40 f10] sz)) 0 0 (va_A [ob12_0_ mo s0 s1 t2 s3 s4 g5 g6 g7 g8 g9 g10 s11 g12 g13 g14 g15 g16 g17 g18 g19 g20 s21 g22 g23 g24 s25 s26 s27 s28 g29 g30 g31 g32 g33, ai_ cy g5 40 f5, ai_ cy g6 40 f6, ai_ cy g7 40 f7, ai_ cy g8 40 f8, az_ cy g10 40 f10] sz) := by
  refine ofQ (cc := cX12_cut) (maxL := 5) (ret := (some .int)) (by decide) rfl ?_
  intro p e s m args below meth c s₁ Q hQ B hml hv
  obtain ⟨rfl, hsz, hP, hK, hD0⟩ := hv
  have hx := B.exec
  have hb := B.bytes
  have hr := B.returns
  have hts := atoms_spec (ws := wsX12_cut) B.pre
  have hown : s.vm.findClass RX12 = some m.cls := by have h_ := findClass_of_methodNamed B.named; exact h_
  have hlocks := B.notSynchronized
  subst hsz
  have hD := hD0.self (sz := s.heap.size)
  generalize hAe : va_A [ob12_0_ mo s0 s1 t2 s3 s4 g5 g6 g7 g8 g9 g10 s11 g12 g13 g14 g15 g16 g17 g18 g19 g20 s21 g22 g23 g24 s25 s26 s27 s28 g29 g30 g31 g32 g33, ai_ cy g5 40 f5, ai_ cy g6 40 f6, ai_ cy g7 40 f7, ai_ cy g8 40 f8, az_ cy g10 40 f10] s.heap.size = A at hD hQ
  have hA : ∀ q : Nat, s.heap.size ≤ q → A q := fun q h => by rw [← hAe]; exact Or.inr h
  have hS : va_S A s.heap s.heap [] := va_S.rf
  have hl := lv_entry ([.ref mo, .int a1, .int a2, .int a3]) (n := 5) (Nat.le_of_ble_eq_true rfl)
  rw [lg_entry_eq]
  generalize (lg_sl ([.ref mo, .int a1, .int a2, .int a3]) ++ List.replicate (5 - (lg_sl ([.ref mo, .int a1, .int a2, .int a3])).length) Slot.unset).toArray = ls at hl ⊢
  have hl : lv_has ls 5 [(0, .ref mo), (1, .int a1), (2, .int a2), (3, .int a3)] := hl
  have zm5 : ((-5) : Int32).toInt = -5 := by decide
  have zm1 : ((-1) : Int32).toInt = -1 := by decide
  have z0 : (0 : Int32).toInt = 0 := by decide
  have zl0 : (0 : Int64).toInt = 0 := by decide
  have zl1 : (1 : Int64).toInt = 1 := by decide
  have z1000000 : (1000000 : Int32).toInt = 1000000 := by decide
  refine lv_aload_n hx hb dB_3_1_10.1.1.1.1 rfl (lv_at hl 0 rfl) ?_
  refine lv_iconst (v := 0) hx hb dB_3_1_10.1.1.1.2 (by decide) ?_
  refine va_put (ci := 12) (v := .int 0) (ty := .int) (C := RX12) (T := TX12) (N := 34) hx hb hts (fun _ h => List.mem_cons_of_mem _ (List.mem_append_right _ h)) tyX12 tyX12_ok nmX12 hown hK.1 hP hD hS 0 rfl rfl 0 (by decide) (hts (.fieldLink RX12 85 "CutAtlasModel" "thrown" "I") (List.mem_of_getElem? (i := 1) rfl)) (fun _ h9 => h9) rfl (by decide +kernel) rfl rfl (Nat.le_of_ble_eq_true rfl) dB_3_1_10.1.1.2.1 (fun H locs hP hD hS => ?_)
  refine pd_K [ob12_0_ mo 0 s1 t2 s3 s4 g5 g6 g7 g8 g9 g10 s11 g12 g13 g14 g15 g16 g17 g18 g19 g20 s21 g22 g23 g24 s25 s26 s27 s28 g29 g30 g31 g32 g33, ai_ cy g5 40 f5, ai_ cy g6 40 f6, ai_ cy g7 40 f7, ai_ cy g8 40 f8, az_ cy g10 40 f10] hP hD (fun hP hD => ?_)
  refine lv_aload_n hx hb dB_3_1_10.1.1.2.2 rfl (lv_at hl 0 rfl) ?_
  refine lv_iload_n hx hb dB_3_1_10.1.2.1.1 rfl (lv_at hl 1 rfl) ?_
  refine lv_iload_n hx hb dB_3_1_10.1.2.1.2 rfl (lv_at hl 2 rfl) ?_
  refine ct_R hP hD [ob12_0_ mo 0 s1 t2 s3 s4 g5 g6 g7 g8 g9 g10 s11 g12 g13 g14 g15 g16 g17 g18 g19 g20 s21 g22 g23 g24 s25 s26 s27 s28 g29 g30 g31 g32 g33] [0] (by decide) rfl (fun hPc hDw => ?_)
  have hFc := va_free (wc := []) hD hS hA [] rfl
  refine va_calli (va_runV (As := [.int a1, .int a2]) (rest := []) ⟨hx, hb, hml, hown, hts⟩ (c_X12_arePlaces l D cy H.size mo g5 g6 g7 g8 g9 g10 g12 g13 g14 g15 g16 g17 g18 g19 g20 g22 g23 g24 g29 g30 g31 g32 g33 (0 : Int32) s1 s3 s4 s11 s21 s25 s26 s27 s28 t2 a1 a2 (by first | with_reducible assumption | omega | assumption)) (cwV 2 hts gX12_cut_X12_arePlaces rfl rfl rfl ⟨rfl, hd_X12_arePlaces⟩ ⟨Nat.le_of_ble_eq_true rfl, Nat.le_of_ble_eq_true rfl⟩) ⟨bl_, va_recvX hK.1 hP (ci := 12) (q0 := 0) rfl rfl, fun U hU hW => ⟨rfl, by rw [hU], by rw [hU]; exact hPc, kk_mv hW hK, hDw⟩⟩ rfl rfl hl.1 rfl (lv_room (Nat.le_of_ble_eq_true rfl)) dB_3_1_10.1.2.2.1 ⟨Nat.le_of_ble_eq_true rfl, Nat.le_of_ble_eq_true rfl⟩) hS (fun q _ h => hFc q h) hFc (fun r_1 u t H locs ht hvm hw hB hz1 hk1 hS => ?_)
  have hP : va_P D vwCl _ H := ro_keep hP hk1
  rcases hw with ⟨w_2, e_⟩ | ⟨w_2, e_⟩
  · have e_ := e_.symm
    subst e_
    refine lv_if_eq (tgt := 24) hx hb dB_3_1_10.1.2.2.2 (by decide) (fun c_3 => ?_) (fun c_3 => ?_)
    · exact absurd c_3 (by decide)
    · have _ := c_3
      refine lv_iload_n hx hb dB_3_1_10.2.1.1.1 rfl (lv_at hl 3 rfl) ?_
      refine lv_i2l (v := a3.toInt64) hx hb dB_3_1_10.2.1.1.2 rfl ?_
      have q_15 : (a3.toInt64).toInt = a3.toInt := Int32.toInt_toInt64 a3
      refine lv_lconst (v := 0) hx hb dB_3_1_10.2.1.2.1 (by decide) ?_
      refine lv_lconst (v := 1) hx hb dB_3_1_10.2.1.2.2 (by decide) ?_
      refine ct_R hP hD [] [] (by decide) rfl (fun hPc hDw => ?_)
      have hFc := va_free (wc := []) hD hS hA [] rfl
      refine va_calli (va_runS (As := [.long a3.toInt64, .long 0, .long 1]) (rest := []) ⟨hx, hb, hml, hown, hts⟩ (c_X12_in l D cy H.size a3.toInt64 (0 : Int64) (1 : Int64)) (va_cwS 3 hts gX12_cut_X12_in rfl rfl rfl hd_X12_in ⟨Nat.le_of_ble_eq_true rfl, Nat.le_of_ble_eq_true rfl⟩) ⟨bl_, fun U hU hW => ⟨rfl, by rw [hU], by rw [hU]; exact hPc, kk_mv hW hK, hDw⟩⟩ rfl rfl hl.1 rfl (lv_room (Nat.le_of_ble_eq_true rfl)) dB_3_1_10.2.2.1.1 ⟨Nat.le_of_ble_eq_true rfl, Nat.le_of_ble_eq_true rfl⟩) hS (fun q _ h => hFc q h) hFc (fun r_4 u t H locs ht hvm hw hB hz1 hk1 hS => ?_)
      have hP : va_P D vwCl _ H := ro_keep hP hk1
      rcases hw with ⟨w_5, e_⟩ | ⟨w_5, e_⟩
      · have e_ := e_.symm
        subst e_
        refine lv_if_ne (tgt := 26) hx hb dB_3_1_10.2.2.1.2 (by decide) (fun c_6 => ?_) (fun c_6 => ?_)
        · have _ := c_6
          refine lv_aload_n hx hb dB_3_1_11.1.1.1.1 rfl (lv_at hl 0 rfl) ?_
          refine lv_iload_n hx hb dB_3_1_11.1.1.1.2 rfl (lv_at hl 1 rfl) ?_
          refine lv_iload_n hx hb dB_3_1_11.1.1.2.1 rfl (lv_at hl 2 rfl) ?_
          refine ct_R hP hD [ob12_0_ mo 0 s1 t2 s3 s4 g5 g6 g7 g8 g9 g10 s11 g12 g13 g14 g15 g16 g17 g18 g19 g20 s21 g22 g23 g24 s25 s26 s27 s28 g29 g30 g31 g32 g33, ai_ cy g5 40 f5, ai_ cy g6 40 f6, ai_ cy g7 40 f7, ai_ cy g8 40 f8, az_ cy g10 40 f10] [0, 1, 2, 3, 4, 5] (by decide) rfl (fun hPc hDw => ?_)
          have hFc := va_free (wc := []) hD hS hA [] rfl
          refine va_calli (va_runV (As := [.int a1, .int a2]) (rest := []) ⟨hx, hb, hml, hown, hts⟩ (c_X12_mostOf l D cy H.size mo g5 g6 g7 g8 g9 g10 g12 g13 g14 g15 g16 g17 g18 g19 g20 g22 g23 g24 g29 g30 g31 g32 g33 (0 : Int32) s1 s3 s4 s11 s21 s25 s26 s27 s28 t2 f5 f6 f7 f8 f10 a1 a2 (by first | with_reducible assumption | omega | assumption) (by first | with_reducible assumption | omega | assumption)) (cwV 2 hts gX12_cut_X12_mostOf rfl rfl rfl ⟨rfl, hd_X12_mostOf⟩ ⟨Nat.le_of_ble_eq_true rfl, Nat.le_of_ble_eq_true rfl⟩) ⟨bl_, va_recvX hK.1 hP (ci := 12) (q0 := 0) rfl rfl, fun U hU hW => ⟨rfl, by rw [hU], by rw [hU]; exact hPc, kk_mv hW hK, hDw⟩⟩ rfl rfl hl.1 rfl (lv_room (Nat.le_of_ble_eq_true rfl)) dB_3_1_11.1.1.2.2 ⟨Nat.le_of_ble_eq_true rfl, Nat.le_of_ble_eq_true rfl⟩) hS (fun q _ h => hFc q h) hFc (fun r_7 u t H locs ht hvm hw hB hz1 hk1 hS => ?_)
          have hP : va_P D vwCl _ H := ro_keep hP hk1
          refine lv_istore (lv' := [(4, .int r_7), (0, .ref mo), (1, .int a1), (2, .int a2), (3, .int a3)]) hx hb dB_3_1_11.1.2.1.1 hl (by decide) rfl (fun ls hl => ?_)
          refine lv_iload hx hb dB_3_1_11.1.2.1.2 (lv_at hl 0 rfl) ?_
          refine lv_ldc (v := 1000000) hx hb hown (hts (.constant RX12 159 (1000000)) (List.mem_of_getElem? (i := 2) rfl)) dB_3_1_11.1.2.2.1 ?_
          refine lv_icmp_ne (tgt := 44) hx hb dB_3_1_11.1.2.2.2 (by decide) (fun c_8 => ?_) (fun c_8 => ?_)
          · have t_8 : ¬ r_7.toInt = (1000000 : Int32).toInt := fun h => c_8 (Int32.toInt_inj.mp h)
            refine lv_aload_n hx hb dB_3_1_11.2.1.2.1 rfl (lv_at hl 1 rfl) ?_
            refine lv_iload_n hx hb dB_3_1_11.2.1.2.2 rfl (lv_at hl 2 rfl) ?_
            refine lv_iload_n hx hb dB_3_1_11.2.2.1.1 rfl (lv_at hl 3 rfl) ?_
            refine lv_iload hx hb dB_3_1_11.2.2.1.2 (lv_at hl 0 rfl) ?_
            refine lv_iconst (v := 0) hx hb dB_3_1_11.2.2.2.1 (by decide) ?_
            refine ct_S hP hD hS hA [ob12_0_ mo 0 s1 t2 s3 s4 g5 g6 g7 g8 g9 g10 s11 g12 g13 g14 g15 g16 g17 g18 g19 g20 s21 g22 g23 g24 s25 s26 s27 s28 g29 g30 g31 g32 g33, ai_ cy g5 40 f5, ai_ cy g6 40 f6, ai_ cy g7 40 f7, ai_ cy g8 40 f8, az_ cy g10 40 f10] [0, 1, 2, 3, 4, 5] (by decide) rfl (fun hPc hDw hFc hC_ => ?_)
            refine va_callv (va_runV (As := [.int a1, .int a2, .int r_7, .int 0]) (rest := []) ⟨hx, hb, hml, hown, hts⟩ (c_X12_cutsOf l D cy H.size mo g5 g6 g7 g8 g9 g10 g12 g13 g14 g15 g16 g17 g18 g19 g20 g22 g23 g24 g29 g30 g31 g32 g33 (0 : Int32) s1 s3 s4 s11 s21 s25 s26 s27 s28 t2 f5 f6 f7 f8 f10 a1 a2 r_7 (0 : Int32) (by first | with_reducible assumption | omega | assumption) (by first | with_reducible assumption | omega | assumption)) (cwV 4 hts gX12_cut_X12_cutsOf rfl rfl rfl ⟨rfl, hd_X12_cutsOf⟩ ⟨Nat.le_of_ble_eq_true rfl, Nat.le_of_ble_eq_true rfl⟩) ⟨bl_, va_recvX hK.1 hP (ci := 12) (q0 := 0) rfl rfl, fun U hU hW => ⟨rfl, by rw [hU], by rw [hU]; exact hPc, kk_mv hW hK, hDw⟩⟩ rfl rfl hl.1 rfl (lv_room (Nat.le_of_ble_eq_true rfl)) dB_3_1_11.2.2.2.2 ⟨Nat.le_of_ble_eq_true rfl, Nat.le_of_ble_eq_true rfl⟩) hS (fun q _ h => hFc q h) hFc (fun u t H locs ht hvm hw hB hz1 hk1 hS => ?_)
            obtain ⟨n25_10, n26_11, n27_12, n28_13, hP1, hD1⟩ := hB
            rw [ht] at hP1
            obtain ⟨hP, hD⟩ := va_join (wr := []) (w1 := [ob12_0_ mo 0 s1 t2 s3 s4 g5 g6 g7 g8 g9 g10 s11 g12 g13 g14 g15 g16 g17 g18 g19 g20 s21 g22 g23 g24 n25_10 n26_11 n27_12 n28_13 g29 g30 g31 g32 g33, ai_ cy g5 40 f5, ai_ cy g6 40 f6, ai_ cy g7 40 f7, ai_ cy g8 40 f8, az_ cy g10 40 f10]) hP hD [0, 1, 2, 3, 4, 5] [] hC_ rfl (by decide) (by decide) hk1 hFc hP1 hD1
            refine pd_K [ob12_0_ mo 0 s1 t2 s3 s4 g5 g6 g7 g8 g9 g10 s11 g12 g13 g14 g15 g16 g17 g18 g19 g20 s21 g22 g23 g24 n25_10 n26_11 n27_12 n28_13 g29 g30 g31 g32 g33, ai_ cy g5 40 f5, ai_ cy g6 40 f6, ai_ cy g7 40 f7, ai_ cy g8 40 f8, az_ cy g10 40 f10] hP hD (fun hP hD => ?_)
            refine lv_iload_n hx hb dB_3_1_12.1.1.1 rfl (lv_at hl 4 rfl) ?_
            refine lv_if_ne (tgt := 64) hx hb dB_3_1_12.1.1.2 (by decide) (fun c_14 => ?_) (fun c_14 => ?_)
            · have t_14 : ¬ a3.toInt = (0 : Int32).toInt := fun h => c_14 (Int32.toInt_inj.mp h)
              refine lv_aload_n hx hb dB_3_1_12.2.1.2 rfl (lv_at hl 1 rfl) ?_
              refine va_get (ci := 12) (v := .int n27_12) (C := RX12) (T := TX12) (N := 34) hx hb hts (fun _ h => List.mem_cons_of_mem _ (List.mem_append_right _ h)) hown hK.1 hP 0 rfl rfl 27 (by decide) (hts (.fieldLink RX12 198 "CutAtlasModel" "far" "I") (List.mem_of_getElem? (i := 4) rfl)) (fun _ h9 => h9) rfl dB_3_1_12.2.2.1 ?_
              rw [hQ]
              exact W.iret (v := n27_12) hx hb hr (fun t ht hW => ⟨⟨n27_12, (), rfl, trivial, n25_10, n26_11, n27_12, n28_13, by rw [ht]; exact hP, hD⟩, hS.F ht⟩) hS.2.2 dB_3_1_12.2.2.2
            · have t_14 : a3.toInt = (0 : Int32).toInt := congrArg Int32.toInt c_14
              refine lv_aload_n hx hb dB_3_1_12.1.2.1 rfl (lv_at hl 1 rfl) ?_
              refine va_get (ci := 12) (v := .int n26_11) (C := RX12) (T := TX12) (N := 34) hx hb hts (fun _ h => List.mem_cons_of_mem _ (List.mem_append_right _ h)) hown hK.1 hP 0 rfl rfl 26 (by decide) (hts (.fieldLink RX12 195 "CutAtlasModel" "near" "I") (List.mem_of_getElem? (i := 3) rfl)) (fun _ h9 => h9) rfl dB_3_1_12.1.2.2 ?_
              refine lv_goto (tgt := 68) hx hb dB_3_1_12.2.1.1 (by decide) ?_
              rw [hQ]
              exact W.iret (v := n26_11) hx hb hr (fun t ht hW => ⟨⟨n26_11, (), rfl, trivial, n25_10, n26_11, n27_12, n28_13, by rw [ht]; exact hP, hD⟩, hS.F ht⟩) hS.2.2 dB_3_1_12.2.2.2
          · have t_8 : r_7.toInt = (1000000 : Int32).toInt := congrArg Int32.toInt c_8
            refine lv_bipush (v := (-5)) hx hb dB_3_1_11.2.1.1.1 (by decide) ?_
            rw [hQ]
            exact W.iret (v := (-5)) hx hb hr (fun t ht hW => ⟨⟨(-5), (), rfl, trivial, s25, s26, s27, s28, by rw [ht]; exact hP, hD⟩, hS.F ht⟩) hS.2.2 dB_3_1_11.2.1.1.2
        · exact absurd c_6 (by decide)
      · have e_ := e_.symm
        subst e_
        refine lv_if_ne (tgt := 26) hx hb dB_3_1_10.2.2.1.2 (by decide) (fun c_15 => ?_) (fun c_15 => ?_)
        · exact absurd c_15 (by decide)
        · have _ := c_15
          refine lv_iconst (v := (-1)) hx hb dB_3_1_10.2.2.2.1 (by decide) ?_
          rw [hQ]
          exact W.iret (v := (-1)) hx hb hr (fun t ht hW => ⟨⟨(-1), (), rfl, trivial, s25, s26, s27, s28, by rw [ht]; exact hP, hD⟩, hS.F ht⟩) hS.2.2 dB_3_1_10.2.2.2.2
  · have e_ := e_.symm
    subst e_
    refine lv_if_eq (tgt := 24) hx hb dB_3_1_10.1.2.2.2 (by decide) (fun c_16 => ?_) (fun c_16 => ?_)
    · have _ := c_16
      refine lv_iconst (v := (-1)) hx hb dB_3_1_10.2.2.2.1 (by decide) ?_
      rw [hQ]
      exact W.iret (v := (-1)) hx hb hr (fun t ht hW => ⟨⟨(-1), (), rfl, trivial, s25, s26, s27, s28, by rw [ht]; exact hP, hD⟩, hS.F ht⟩) hS.2.2 dB_3_1_10.2.2.2.2
    · exact absurd c_16 (by decide)

set_option maxHeartbeats 4000000 in
set_option maxRecDepth 100000 in
theorem c_X12_count (l : Launch) (D : va_G) (cy : Nat → ClassId) (sz : Nat) (mo : Nat) (g5 : Nat) (g6 : Nat) (g7 : Nat) (g8 : Nat) (g9 : Nat) (g10 : Nat) (g12 : Nat) (g13 : Nat) (g14 : Nat) (g15 : Nat) (g16 : Nat) (g17 : Nat) (g18 : Nat) (g19 : Nat) (g20 : Nat) (g22 : Nat) (g23 : Nat) (g24 : Nat) (g29 : Nat) (g30 : Nat) (g31 : Nat) (g32 : Nat) (g33 : Nat) (s0 : Int32) (s1 : Int32) (s3 : Int32) (s4 : Int32) (s11 : Int32) (s21 : Int32) (s25 : Int32) (s26 : Int32) (s27 : Int32) (s28 : Int32) (t2 : Int64) (f5 : Nat → Int32) (f6 : Nat → Int32) (f7 : Nat → Int32) (f8 : Nat → Int32) (f10 : Nat → Int32) (a1 : Int32) (a2 : Int32) (hN : 0 ≤ s4.toInt ∧ s4.toInt ≤ 40) (hPl : 0 ≤ s3.toInt ∧ s3.toInt ≤ 12) : Met l yX12_count wsX12_count ({ frames := 4, cells := 0, slots := 0, locals := 96 }) (va_Pc [.ref mo, .int a1, .int a2] (fun U => U.heap.size = sz ∧ va_P D vwCl [ob12_0_ mo s0 s1 t2 s3 s4 g5 g6 g7 g8 g9 g10 s11 g12 g13 g14 g15 g16 g17 g18 g19 g20 s21 g22 g23 g24 s25 s26 s27 s28 g29 g30 g31 g32 g33, ai_ cy g5 40 f5, ai_ cy g6 40 f6, ai_ cy g7 40 f7, ai_ cy g8 40 f8, az_ cy g10 40 f10] U.heap ∧ kk_ D cy U ∧ va_D (fun _ => True) [ob12_0_ mo s0 s1 t2 s3 s4 g5 g6 g7 g8 g9 g10 s11 g12 g13 g14 g15 g16 g17 g18 g19 g20 s21 g22 g23 g24 s25 s26 s27 s28 g29 g30 g31 g32 g33, ai_ cy g5 40 f5, ai_ cy g6 40 f6, ai_ cy g7 40 f7, ai_ cy g8 40 f8, az_ cy g10 40 f10])) (va_Qi (fun (r : Int32) (_ : Unit) => True) (fun (_ : Unit) (t : State) => ∃ (n25 : Int32), ∃ (n26 : Int32), ∃ (n27 : Int32), ∃ (n28 : Int32), va_P D vwCl [ob12_0_ mo 0 s1 t2 s3 s4 g5 g6 g7 g8 g9 g10 s11 g12 g13 g14 g15 g16 g17 g18 g19 g20 s21 g22 g23 g24 n25 n26 n27 n28 g29 g30 g31 g32 g33, ai_ cy g5 40 f5, ai_ cy g6 40 f6, ai_ cy g7 40 f7, ai_ cy g8 40 f8, az_ cy g10 40 f10] t.heap ∧ va_D (va_A [ob12_0_ mo s0 s1 t2 s3 s4 g5 g6 g7 g8 g9 g10 s11 g12 g13 g14 g15 g16 g17 g18 g19 g20 s21 g22 g23 g24 s25 s26 s27 s28 g29 g30 g31 g32 g33, ai_ cy g5 40 f5, ai_ cy g6 40 f6, ai_ cy g7 40 f7, ai_ cy g8 40 f8, az_ cy g10 40 f10] sz) [ob12_0_ mo 0 s1 t2 s3 s4 g5 g6 g7 g8 g9 g10 s11 g12 g13 g14 g15 g16 g17 g18 g19 g20 s21 g22 g23 g24 n25 n26 n27 n28 g29 g30 g31 g32 g33, ai_ cy g5 40 f5, ai_ cy g6 40 f6, ai_ cy g7 40 f7, ai_ cy g8 40 f8, az_ cy g10 40 f10]) (va_A [ob12_0_ mo s0 s1 t2 s3 s4 g5 g6 g7 g8 g9 g10 s11 g12 g13 g14 g15 g16 g17 g18 g19 g20 s21 g22 g23 g24 s25 s26 s27 s28 g29 g30 g31 g32 g33, ai_ cy g5 40 f5, ai_ cy g6 40 f6, ai_ cy g7 40 f7, ai_ cy g8 40 f8, az_ cy g10 40 f10] sz)) 0 0 (va_A [ob12_0_ mo s0 s1 t2 s3 s4 g5 g6 g7 g8 g9 g10 s11 g12 g13 g14 g15 g16 g17 g18 g19 g20 s21 g22 g23 g24 s25 s26 s27 s28 g29 g30 g31 g32 g33, ai_ cy g5 40 f5, ai_ cy g6 40 f6, ai_ cy g7 40 f7, ai_ cy g8 40 f8, az_ cy g10 40 f10] sz) := by
  refine ofQ (cc := cX12_count) (maxL := 4) (ret := (some .int)) (by decide) rfl ?_
  intro p e s m args below meth c s₁ Q hQ B hml hv
  obtain ⟨rfl, hsz, hP, hK, hD0⟩ := hv
  have hx := B.exec
  have hb := B.bytes
  have hr := B.returns
  have hts := atoms_spec (ws := wsX12_count) B.pre
  have hown : s.vm.findClass RX12 = some m.cls := by have h_ := findClass_of_methodNamed B.named; exact h_
  have hlocks := B.notSynchronized
  subst hsz
  have hD := hD0.self (sz := s.heap.size)
  generalize hAe : va_A [ob12_0_ mo s0 s1 t2 s3 s4 g5 g6 g7 g8 g9 g10 s11 g12 g13 g14 g15 g16 g17 g18 g19 g20 s21 g22 g23 g24 s25 s26 s27 s28 g29 g30 g31 g32 g33, ai_ cy g5 40 f5, ai_ cy g6 40 f6, ai_ cy g7 40 f7, ai_ cy g8 40 f8, az_ cy g10 40 f10] s.heap.size = A at hD hQ
  have hA : ∀ q : Nat, s.heap.size ≤ q → A q := fun q h => by rw [← hAe]; exact Or.inr h
  have hS : va_S A s.heap s.heap [] := va_S.rf
  have hl := lv_entry ([.ref mo, .int a1, .int a2]) (n := 4) (Nat.le_of_ble_eq_true rfl)
  rw [lg_entry_eq]
  generalize (lg_sl ([.ref mo, .int a1, .int a2]) ++ List.replicate (4 - (lg_sl ([.ref mo, .int a1, .int a2])).length) Slot.unset).toArray = ls at hl ⊢
  have hl : lv_has ls 4 [(0, .ref mo), (1, .int a1), (2, .int a2)] := hl
  have zm5 : ((-5) : Int32).toInt = -5 := by decide
  have zm1 : ((-1) : Int32).toInt = -1 := by decide
  have z0 : (0 : Int32).toInt = 0 := by decide
  have z1000000 : (1000000 : Int32).toInt = 1000000 := by decide
  refine lv_aload_n hx hb dB_3_1_8.1.1.1.1 rfl (lv_at hl 0 rfl) ?_
  refine lv_iconst (v := 0) hx hb dB_3_1_8.1.1.1.2 (by decide) ?_
  refine va_put (ci := 12) (v := .int 0) (ty := .int) (C := RX12) (T := TX12) (N := 34) hx hb hts (fun _ h => List.mem_cons_of_mem _ (List.mem_append_right _ h)) tyX12 tyX12_ok nmX12 hown hK.1 hP hD hS 0 rfl rfl 0 (by decide) (hts (.fieldLink RX12 85 "CutAtlasModel" "thrown" "I") (List.mem_of_getElem? (i := 1) rfl)) (fun _ h9 => h9) rfl (by decide +kernel) rfl rfl (Nat.le_of_ble_eq_true rfl) dB_3_1_8.1.1.2.1 (fun H locs hP hD hS => ?_)
  refine pd_K [ob12_0_ mo 0 s1 t2 s3 s4 g5 g6 g7 g8 g9 g10 s11 g12 g13 g14 g15 g16 g17 g18 g19 g20 s21 g22 g23 g24 s25 s26 s27 s28 g29 g30 g31 g32 g33, ai_ cy g5 40 f5, ai_ cy g6 40 f6, ai_ cy g7 40 f7, ai_ cy g8 40 f8, az_ cy g10 40 f10] hP hD (fun hP hD => ?_)
  refine lv_aload_n hx hb dB_3_1_8.1.1.2.2 rfl (lv_at hl 0 rfl) ?_
  refine lv_iload_n hx hb dB_3_1_8.1.2.1.1 rfl (lv_at hl 1 rfl) ?_
  refine lv_iload_n hx hb dB_3_1_8.1.2.1.2 rfl (lv_at hl 2 rfl) ?_
  refine ct_R hP hD [ob12_0_ mo 0 s1 t2 s3 s4 g5 g6 g7 g8 g9 g10 s11 g12 g13 g14 g15 g16 g17 g18 g19 g20 s21 g22 g23 g24 s25 s26 s27 s28 g29 g30 g31 g32 g33] [0] (by decide) rfl (fun hPc hDw => ?_)
  have hFc := va_free (wc := []) hD hS hA [] rfl
  refine va_calli (va_runV (As := [.int a1, .int a2]) (rest := []) ⟨hx, hb, hml, hown, hts⟩ (c_X12_arePlaces l D cy H.size mo g5 g6 g7 g8 g9 g10 g12 g13 g14 g15 g16 g17 g18 g19 g20 g22 g23 g24 g29 g30 g31 g32 g33 (0 : Int32) s1 s3 s4 s11 s21 s25 s26 s27 s28 t2 a1 a2 (by first | with_reducible assumption | omega | assumption)) (cwV 2 hts gX12_count_X12_arePlaces rfl rfl rfl ⟨rfl, hd_X12_arePlaces⟩ ⟨Nat.le_of_ble_eq_true rfl, Nat.le_of_ble_eq_true rfl⟩) ⟨bl_, va_recvX hK.1 hP (ci := 12) (q0 := 0) rfl rfl, fun U hU hW => ⟨rfl, by rw [hU], by rw [hU]; exact hPc, kk_mv hW hK, hDw⟩⟩ rfl rfl hl.1 rfl (lv_room (Nat.le_of_ble_eq_true rfl)) dB_3_1_8.1.2.2.1 ⟨Nat.le_of_ble_eq_true rfl, Nat.le_of_ble_eq_true rfl⟩) hS (fun q _ h => hFc q h) hFc (fun r_1 u t H locs ht hvm hw hB hz1 hk1 hS => ?_)
  have hP : va_P D vwCl _ H := ro_keep hP hk1
  rcases hw with ⟨w_2, e_⟩ | ⟨w_2, e_⟩
  · have e_ := e_.symm
    subst e_
    refine lv_if_ne (tgt := 16) hx hb dB_3_1_8.1.2.2.2 (by decide) (fun c_3 => ?_) (fun c_3 => ?_)
    · have _ := c_3
      refine lv_aload_n hx hb dB_3_1_8.2.1.2.1 rfl (lv_at hl 0 rfl) ?_
      refine lv_iload_n hx hb dB_3_1_8.2.1.2.2 rfl (lv_at hl 1 rfl) ?_
      refine lv_iload_n hx hb dB_3_1_8.2.2.1.1 rfl (lv_at hl 2 rfl) ?_
      refine ct_R hP hD [ob12_0_ mo 0 s1 t2 s3 s4 g5 g6 g7 g8 g9 g10 s11 g12 g13 g14 g15 g16 g17 g18 g19 g20 s21 g22 g23 g24 s25 s26 s27 s28 g29 g30 g31 g32 g33, ai_ cy g5 40 f5, ai_ cy g6 40 f6, ai_ cy g7 40 f7, ai_ cy g8 40 f8, az_ cy g10 40 f10] [0, 1, 2, 3, 4, 5] (by decide) rfl (fun hPc hDw => ?_)
      have hFc := va_free (wc := []) hD hS hA [] rfl
      refine va_calli (va_runV (As := [.int a1, .int a2]) (rest := []) ⟨hx, hb, hml, hown, hts⟩ (c_X12_mostOf l D cy H.size mo g5 g6 g7 g8 g9 g10 g12 g13 g14 g15 g16 g17 g18 g19 g20 g22 g23 g24 g29 g30 g31 g32 g33 (0 : Int32) s1 s3 s4 s11 s21 s25 s26 s27 s28 t2 f5 f6 f7 f8 f10 a1 a2 (by first | with_reducible assumption | omega | assumption) (by first | with_reducible assumption | omega | assumption)) (cwV 2 hts gX12_count_X12_mostOf rfl rfl rfl ⟨rfl, hd_X12_mostOf⟩ ⟨Nat.le_of_ble_eq_true rfl, Nat.le_of_ble_eq_true rfl⟩) ⟨bl_, va_recvX hK.1 hP (ci := 12) (q0 := 0) rfl rfl, fun U hU hW => ⟨rfl, by rw [hU], by rw [hU]; exact hPc, kk_mv hW hK, hDw⟩⟩ rfl rfl hl.1 rfl (lv_room (Nat.le_of_ble_eq_true rfl)) dB_3_1_8.2.2.1.2 ⟨Nat.le_of_ble_eq_true rfl, Nat.le_of_ble_eq_true rfl⟩) hS (fun q _ h => hFc q h) hFc (fun r_4 u t H locs ht hvm hw hB hz1 hk1 hS => ?_)
      have hP : va_P D vwCl _ H := ro_keep hP hk1
      refine lv_istore_n (lv' := [(3, .int r_4), (0, .ref mo), (1, .int a1), (2, .int a2)]) hx hb dB_3_1_8.2.2.2.1 rfl hl (by decide) rfl (fun ls hl => ?_)
      refine lv_iload_n hx hb dB_3_1_8.2.2.2.2 rfl (lv_at hl 0 rfl) ?_
      refine lv_ldc (v := 1000000) hx hb hown (hts (.constant RX12 159 (1000000)) (List.mem_of_getElem? (i := 2) rfl)) dB_3_1_9.1.1.1 ?_
      refine lv_icmp_ne (tgt := 32) hx hb dB_3_1_9.1.1.2.1 (by decide) (fun c_5 => ?_) (fun c_5 => ?_)
      · have t_5 : ¬ r_4.toInt = (1000000 : Int32).toInt := fun h => c_5 (Int32.toInt_inj.mp h)
        refine lv_aload_n hx hb dB_3_1_9.1.2.2.1 rfl (lv_at hl 1 rfl) ?_
        refine lv_iload_n hx hb dB_3_1_9.1.2.2.2 rfl (lv_at hl 2 rfl) ?_
        refine lv_iload_n hx hb dB_3_1_9.2.1.1 rfl (lv_at hl 3 rfl) ?_
        refine lv_iload_n hx hb dB_3_1_9.2.1.2.1 rfl (lv_at hl 0 rfl) ?_
        refine lv_iconst (v := 0) hx hb dB_3_1_9.2.1.2.2 (by decide) ?_
        refine ct_S hP hD hS hA [ob12_0_ mo 0 s1 t2 s3 s4 g5 g6 g7 g8 g9 g10 s11 g12 g13 g14 g15 g16 g17 g18 g19 g20 s21 g22 g23 g24 s25 s26 s27 s28 g29 g30 g31 g32 g33, ai_ cy g5 40 f5, ai_ cy g6 40 f6, ai_ cy g7 40 f7, ai_ cy g8 40 f8, az_ cy g10 40 f10] [0, 1, 2, 3, 4, 5] (by decide) rfl (fun hPc hDw hFc hC_ => ?_)
        refine va_callv (va_runV (As := [.int a1, .int a2, .int r_4, .int 0]) (rest := []) ⟨hx, hb, hml, hown, hts⟩ (c_X12_cutsOf l D cy H.size mo g5 g6 g7 g8 g9 g10 g12 g13 g14 g15 g16 g17 g18 g19 g20 g22 g23 g24 g29 g30 g31 g32 g33 (0 : Int32) s1 s3 s4 s11 s21 s25 s26 s27 s28 t2 f5 f6 f7 f8 f10 a1 a2 r_4 (0 : Int32) (by first | with_reducible assumption | omega | assumption) (by first | with_reducible assumption | omega | assumption)) (cwV 4 hts gX12_count_X12_cutsOf rfl rfl rfl ⟨rfl, hd_X12_cutsOf⟩ ⟨Nat.le_of_ble_eq_true rfl, Nat.le_of_ble_eq_true rfl⟩) ⟨bl_, va_recvX hK.1 hP (ci := 12) (q0 := 0) rfl rfl, fun U hU hW => ⟨rfl, by rw [hU], by rw [hU]; exact hPc, kk_mv hW hK, hDw⟩⟩ rfl rfl hl.1 rfl (lv_room (Nat.le_of_ble_eq_true rfl)) dB_3_1_9.2.2.1.1 ⟨Nat.le_of_ble_eq_true rfl, Nat.le_of_ble_eq_true rfl⟩) hS (fun q _ h => hFc q h) hFc (fun u t H locs ht hvm hw hB hz1 hk1 hS => ?_)
        obtain ⟨n25_7, n26_8, n27_9, n28_10, hP1, hD1⟩ := hB
        rw [ht] at hP1
        obtain ⟨hP, hD⟩ := va_join (wr := []) (w1 := [ob12_0_ mo 0 s1 t2 s3 s4 g5 g6 g7 g8 g9 g10 s11 g12 g13 g14 g15 g16 g17 g18 g19 g20 s21 g22 g23 g24 n25_7 n26_8 n27_9 n28_10 g29 g30 g31 g32 g33, ai_ cy g5 40 f5, ai_ cy g6 40 f6, ai_ cy g7 40 f7, ai_ cy g8 40 f8, az_ cy g10 40 f10]) hP hD [0, 1, 2, 3, 4, 5] [] hC_ rfl (by decide) (by decide) hk1 hFc hP1 hD1
        refine pd_K [ob12_0_ mo 0 s1 t2 s3 s4 g5 g6 g7 g8 g9 g10 s11 g12 g13 g14 g15 g16 g17 g18 g19 g20 s21 g22 g23 g24 n25_7 n26_8 n27_9 n28_10 g29 g30 g31 g32 g33, ai_ cy g5 40 f5, ai_ cy g6 40 f6, ai_ cy g7 40 f7, ai_ cy g8 40 f8, az_ cy g10 40 f10] hP hD (fun hP hD => ?_)
        refine lv_aload_n hx hb dB_3_1_9.2.2.1.2 rfl (lv_at hl 1 rfl) ?_
        refine va_get (ci := 12) (v := .int n25_7) (C := RX12) (T := TX12) (N := 34) hx hb hts (fun _ h => List.mem_cons_of_mem _ (List.mem_append_right _ h)) hown hK.1 hP 0 rfl rfl 25 (by decide) (hts (.fieldLink RX12 192 "CutAtlasModel" "cuts" "I") (List.mem_of_getElem? (i := 3) rfl)) (fun _ h9 => h9) rfl dB_3_1_9.2.2.2.1 ?_
        rw [hQ]
        exact W.iret (v := n25_7) hx hb hr (fun t ht hW => ⟨⟨n25_7, (), rfl, trivial, n25_7, n26_8, n27_9, n28_10, by rw [ht]; exact hP, hD⟩, hS.F ht⟩) hS.2.2 dB_3_1_9.2.2.2.2
      · have t_5 : r_4.toInt = (1000000 : Int32).toInt := congrArg Int32.toInt c_5
        refine lv_bipush (v := (-5)) hx hb dB_3_1_9.1.1.2.2 (by decide) ?_
        rw [hQ]
        exact W.iret (v := (-5)) hx hb hr (fun t ht hW => ⟨⟨(-5), (), rfl, trivial, s25, s26, s27, s28, by rw [ht]; exact hP, hD⟩, hS.F ht⟩) hS.2.2 dB_3_1_9.1.2.1
    · exact absurd c_3 (by decide)
  · have e_ := e_.symm
    subst e_
    refine lv_if_ne (tgt := 16) hx hb dB_3_1_8.1.2.2.2 (by decide) (fun c_11 => ?_) (fun c_11 => ?_)
    · exact absurd c_11 (by decide)
    · have _ := c_11
      refine lv_iconst (v := (-1)) hx hb dB_3_1_8.2.1.1.1 (by decide) ?_
      rw [hQ]
      exact W.iret (v := (-1)) hx hb hr (fun t ht hW => ⟨⟨(-1), (), rfl, trivial, s25, s26, s27, s28, by rw [ht]; exact hP, hD⟩, hS.F ht⟩) hS.2.2 dB_3_1_8.2.1.1.2

set_option maxHeartbeats 4000000 in
set_option maxRecDepth 100000 in
theorem c_X12_next (l : Launch) (D : va_G) (cy : Nat → ClassId) (sz : Nat) (mo : Nat) (g5 : Nat) (g6 : Nat) (g7 : Nat) (g8 : Nat) (g9 : Nat) (g10 : Nat) (g12 : Nat) (g13 : Nat) (g14 : Nat) (g15 : Nat) (g16 : Nat) (g17 : Nat) (g18 : Nat) (g19 : Nat) (g20 : Nat) (g22 : Nat) (g23 : Nat) (g24 : Nat) (g29 : Nat) (g30 : Nat) (g31 : Nat) (g32 : Nat) (g33 : Nat) (s0 : Int32) (s1 : Int32) (s3 : Int32) (s4 : Int32) (s11 : Int32) (s21 : Int32) (s25 : Int32) (s26 : Int32) (s27 : Int32) (s28 : Int32) (t2 : Int64) (f5 : Nat → Int32) (f6 : Nat → Int32) (f7 : Nat → Int32) (f8 : Nat → Int32) (f10 : Nat → Int32) (a1 : Int32) (a2 : Int32) (a3 : Int32) (hN : 0 ≤ s4.toInt ∧ s4.toInt ≤ 40) (hPl : 0 ≤ s3.toInt ∧ s3.toInt ≤ 12) : Met l yX12_next wsX12_next ({ frames := 4, cells := 0, slots := 0, locals := 96 }) (va_Pc [.ref mo, .int a1, .int a2, .int a3] (fun U => U.heap.size = sz ∧ va_P D vwCl [ob12_0_ mo s0 s1 t2 s3 s4 g5 g6 g7 g8 g9 g10 s11 g12 g13 g14 g15 g16 g17 g18 g19 g20 s21 g22 g23 g24 s25 s26 s27 s28 g29 g30 g31 g32 g33, ai_ cy g5 40 f5, ai_ cy g6 40 f6, ai_ cy g7 40 f7, ai_ cy g8 40 f8, az_ cy g10 40 f10] U.heap ∧ kk_ D cy U ∧ va_D (fun _ => True) [ob12_0_ mo s0 s1 t2 s3 s4 g5 g6 g7 g8 g9 g10 s11 g12 g13 g14 g15 g16 g17 g18 g19 g20 s21 g22 g23 g24 s25 s26 s27 s28 g29 g30 g31 g32 g33, ai_ cy g5 40 f5, ai_ cy g6 40 f6, ai_ cy g7 40 f7, ai_ cy g8 40 f8, az_ cy g10 40 f10])) (va_Qi (fun (r : Int32) (_ : Unit) => True) (fun (_ : Unit) (t : State) => ∃ (n25 : Int32), ∃ (n26 : Int32), ∃ (n27 : Int32), ∃ (n28 : Int32), va_P D vwCl [ob12_0_ mo 0 s1 t2 s3 s4 g5 g6 g7 g8 g9 g10 s11 g12 g13 g14 g15 g16 g17 g18 g19 g20 s21 g22 g23 g24 n25 n26 n27 n28 g29 g30 g31 g32 g33, ai_ cy g5 40 f5, ai_ cy g6 40 f6, ai_ cy g7 40 f7, ai_ cy g8 40 f8, az_ cy g10 40 f10] t.heap ∧ va_D (va_A [ob12_0_ mo s0 s1 t2 s3 s4 g5 g6 g7 g8 g9 g10 s11 g12 g13 g14 g15 g16 g17 g18 g19 g20 s21 g22 g23 g24 s25 s26 s27 s28 g29 g30 g31 g32 g33, ai_ cy g5 40 f5, ai_ cy g6 40 f6, ai_ cy g7 40 f7, ai_ cy g8 40 f8, az_ cy g10 40 f10] sz) [ob12_0_ mo 0 s1 t2 s3 s4 g5 g6 g7 g8 g9 g10 s11 g12 g13 g14 g15 g16 g17 g18 g19 g20 s21 g22 g23 g24 n25 n26 n27 n28 g29 g30 g31 g32 g33, ai_ cy g5 40 f5, ai_ cy g6 40 f6, ai_ cy g7 40 f7, ai_ cy g8 40 f8, az_ cy g10 40 f10]) (va_A [ob12_0_ mo s0 s1 t2 s3 s4 g5 g6 g7 g8 g9 g10 s11 g12 g13 g14 g15 g16 g17 g18 g19 g20 s21 g22 g23 g24 s25 s26 s27 s28 g29 g30 g31 g32 g33, ai_ cy g5 40 f5, ai_ cy g6 40 f6, ai_ cy g7 40 f7, ai_ cy g8 40 f8, az_ cy g10 40 f10] sz)) 0 0 (va_A [ob12_0_ mo s0 s1 t2 s3 s4 g5 g6 g7 g8 g9 g10 s11 g12 g13 g14 g15 g16 g17 g18 g19 g20 s21 g22 g23 g24 s25 s26 s27 s28 g29 g30 g31 g32 g33, ai_ cy g5 40 f5, ai_ cy g6 40 f6, ai_ cy g7 40 f7, ai_ cy g8 40 f8, az_ cy g10 40 f10] sz) := by
  refine ofQ (cc := cX12_next) (maxL := 5) (ret := (some .int)) (by decide) rfl ?_
  intro p e s m args below meth c s₁ Q hQ B hml hv
  obtain ⟨rfl, hsz, hP, hK, hD0⟩ := hv
  have hx := B.exec
  have hb := B.bytes
  have hr := B.returns
  have hts := atoms_spec (ws := wsX12_next) B.pre
  have hown : s.vm.findClass RX12 = some m.cls := by have h_ := findClass_of_methodNamed B.named; exact h_
  have hlocks := B.notSynchronized
  subst hsz
  have hD := hD0.self (sz := s.heap.size)
  generalize hAe : va_A [ob12_0_ mo s0 s1 t2 s3 s4 g5 g6 g7 g8 g9 g10 s11 g12 g13 g14 g15 g16 g17 g18 g19 g20 s21 g22 g23 g24 s25 s26 s27 s28 g29 g30 g31 g32 g33, ai_ cy g5 40 f5, ai_ cy g6 40 f6, ai_ cy g7 40 f7, ai_ cy g8 40 f8, az_ cy g10 40 f10] s.heap.size = A at hD hQ
  have hA : ∀ q : Nat, s.heap.size ≤ q → A q := fun q h => by rw [← hAe]; exact Or.inr h
  have hS : va_S A s.heap s.heap [] := va_S.rf
  have hl := lv_entry ([.ref mo, .int a1, .int a2, .int a3]) (n := 5) (Nat.le_of_ble_eq_true rfl)
  rw [lg_entry_eq]
  generalize (lg_sl ([.ref mo, .int a1, .int a2, .int a3]) ++ List.replicate (5 - (lg_sl ([.ref mo, .int a1, .int a2, .int a3])).length) Slot.unset).toArray = ls at hl ⊢
  have hl : lv_has ls 5 [(0, .ref mo), (1, .int a1), (2, .int a2), (3, .int a3)] := hl
  have zm5 : ((-5) : Int32).toInt = -5 := by decide
  have zm1 : ((-1) : Int32).toInt = -1 := by decide
  have z0 : (0 : Int32).toInt = 0 := by decide
  have z1000000 : (1000000 : Int32).toInt = 1000000 := by decide
  refine lv_aload_n hx hb dB_3_1_49.1.1.1.1 rfl (lv_at hl 0 rfl) ?_
  refine lv_iconst (v := 0) hx hb dB_3_1_49.1.1.1.2 (by decide) ?_
  refine va_put (ci := 12) (v := .int 0) (ty := .int) (C := RX12) (T := TX12) (N := 34) hx hb hts (fun _ h => List.mem_cons_of_mem _ (List.mem_append_right _ h)) tyX12 tyX12_ok nmX12 hown hK.1 hP hD hS 0 rfl rfl 0 (by decide) (hts (.fieldLink RX12 85 "CutAtlasModel" "thrown" "I") (List.mem_of_getElem? (i := 1) rfl)) (fun _ h9 => h9) rfl (by decide +kernel) rfl rfl (Nat.le_of_ble_eq_true rfl) dB_3_1_49.1.1.2.1 (fun H locs hP hD hS => ?_)
  refine pd_K [ob12_0_ mo 0 s1 t2 s3 s4 g5 g6 g7 g8 g9 g10 s11 g12 g13 g14 g15 g16 g17 g18 g19 g20 s21 g22 g23 g24 s25 s26 s27 s28 g29 g30 g31 g32 g33, ai_ cy g5 40 f5, ai_ cy g6 40 f6, ai_ cy g7 40 f7, ai_ cy g8 40 f8, az_ cy g10 40 f10] hP hD (fun hP hD => ?_)
  refine lv_aload_n hx hb dB_3_1_49.1.1.2.2 rfl (lv_at hl 0 rfl) ?_
  refine lv_iload_n hx hb dB_3_1_49.1.2.1.1 rfl (lv_at hl 1 rfl) ?_
  refine lv_iload_n hx hb dB_3_1_49.1.2.1.2 rfl (lv_at hl 2 rfl) ?_
  refine ct_R hP hD [ob12_0_ mo 0 s1 t2 s3 s4 g5 g6 g7 g8 g9 g10 s11 g12 g13 g14 g15 g16 g17 g18 g19 g20 s21 g22 g23 g24 s25 s26 s27 s28 g29 g30 g31 g32 g33] [0] (by decide) rfl (fun hPc hDw => ?_)
  have hFc := va_free (wc := []) hD hS hA [] rfl
  refine va_calli (va_runV (As := [.int a1, .int a2]) (rest := []) ⟨hx, hb, hml, hown, hts⟩ (c_X12_arePlaces l D cy H.size mo g5 g6 g7 g8 g9 g10 g12 g13 g14 g15 g16 g17 g18 g19 g20 g22 g23 g24 g29 g30 g31 g32 g33 (0 : Int32) s1 s3 s4 s11 s21 s25 s26 s27 s28 t2 a1 a2 (by first | with_reducible assumption | omega | assumption)) (cwV 2 hts gX12_next_X12_arePlaces rfl rfl rfl ⟨rfl, hd_X12_arePlaces⟩ ⟨Nat.le_of_ble_eq_true rfl, Nat.le_of_ble_eq_true rfl⟩) ⟨bl_, va_recvX hK.1 hP (ci := 12) (q0 := 0) rfl rfl, fun U hU hW => ⟨rfl, by rw [hU], by rw [hU]; exact hPc, kk_mv hW hK, hDw⟩⟩ rfl rfl hl.1 rfl (lv_room (Nat.le_of_ble_eq_true rfl)) dB_3_1_49.1.2.2.1 ⟨Nat.le_of_ble_eq_true rfl, Nat.le_of_ble_eq_true rfl⟩) hS (fun q _ h => hFc q h) hFc (fun r_1 u t H locs ht hvm hw hB hz1 hk1 hS => ?_)
  have hP : va_P D vwCl _ H := ro_keep hP hk1
  rcases hw with ⟨w_2, e_⟩ | ⟨w_2, e_⟩
  · have e_ := e_.symm
    subst e_
    refine lv_if_eq (tgt := 18) hx hb dB_3_1_49.1.2.2.2 (by decide) (fun c_3 => ?_) (fun c_3 => ?_)
    · exact absurd c_3 (by decide)
    · have _ := c_3
      refine lv_iload_n hx hb dB_3_1_49.2.1.1.1 rfl (lv_at hl 3 rfl) ?_
      refine lv_if_ge (tgt := 20) hx hb dB_3_1_49.2.1.1.2 (by decide) (fun c_4 => ?_) (fun c_4 => ?_)
      · have t_4 : (0 : Int32).toInt ≤ a3.toInt := Int32.le_iff_toInt_le.mp c_4
        refine lv_aload_n hx hb dB_3_1_49.2.2.1.1 rfl (lv_at hl 0 rfl) ?_
        refine lv_iload_n hx hb dB_3_1_49.2.2.1.2 rfl (lv_at hl 1 rfl) ?_
        refine lv_iload_n hx hb dB_3_1_49.2.2.2.1 rfl (lv_at hl 2 rfl) ?_
        refine ct_R hP hD [ob12_0_ mo 0 s1 t2 s3 s4 g5 g6 g7 g8 g9 g10 s11 g12 g13 g14 g15 g16 g17 g18 g19 g20 s21 g22 g23 g24 s25 s26 s27 s28 g29 g30 g31 g32 g33, ai_ cy g5 40 f5, ai_ cy g6 40 f6, ai_ cy g7 40 f7, ai_ cy g8 40 f8, az_ cy g10 40 f10] [0, 1, 2, 3, 4, 5] (by decide) rfl (fun hPc hDw => ?_)
        have hFc := va_free (wc := []) hD hS hA [] rfl
        refine va_calli (va_runV (As := [.int a1, .int a2]) (rest := []) ⟨hx, hb, hml, hown, hts⟩ (c_X12_mostOf l D cy H.size mo g5 g6 g7 g8 g9 g10 g12 g13 g14 g15 g16 g17 g18 g19 g20 g22 g23 g24 g29 g30 g31 g32 g33 (0 : Int32) s1 s3 s4 s11 s21 s25 s26 s27 s28 t2 f5 f6 f7 f8 f10 a1 a2 (by first | with_reducible assumption | omega | assumption) (by first | with_reducible assumption | omega | assumption)) (cwV 2 hts gX12_next_X12_mostOf rfl rfl rfl ⟨rfl, hd_X12_mostOf⟩ ⟨Nat.le_of_ble_eq_true rfl, Nat.le_of_ble_eq_true rfl⟩) ⟨bl_, va_recvX hK.1 hP (ci := 12) (q0 := 0) rfl rfl, fun U hU hW => ⟨rfl, by rw [hU], by rw [hU]; exact hPc, kk_mv hW hK, hDw⟩⟩ rfl rfl hl.1 rfl (lv_room (Nat.le_of_ble_eq_true rfl)) dB_3_1_49.2.2.2.2 ⟨Nat.le_of_ble_eq_true rfl, Nat.le_of_ble_eq_true rfl⟩) hS (fun q _ h => hFc q h) hFc (fun r_5 u t H locs ht hvm hw hB hz1 hk1 hS => ?_)
        have hP : va_P D vwCl _ H := ro_keep hP hk1
        refine lv_istore (lv' := [(4, .int r_5), (0, .ref mo), (1, .int a1), (2, .int a2), (3, .int a3)]) hx hb dB_3_1_50.1.1.1 hl (by decide) rfl (fun ls hl => ?_)
        refine lv_iload hx hb dB_3_1_50.1.1.2.1 (lv_at hl 0 rfl) ?_
        refine lv_ldc (v := 1000000) hx hb hown (hts (.constant RX12 159 (1000000)) (List.mem_of_getElem? (i := 2) rfl)) dB_3_1_50.1.1.2.2 ?_
        refine lv_icmp_ne (tgt := 38) hx hb dB_3_1_50.1.2.1.1 (by decide) (fun c_6 => ?_) (fun c_6 => ?_)
        · have t_6 : ¬ r_5.toInt = (1000000 : Int32).toInt := fun h => c_6 (Int32.toInt_inj.mp h)
          refine lv_aload_n hx hb dB_3_1_50.1.2.2.2 rfl (lv_at hl 1 rfl) ?_
          refine lv_iload_n hx hb dB_3_1_50.2.1.1.1 rfl (lv_at hl 2 rfl) ?_
          refine lv_iload_n hx hb dB_3_1_50.2.1.1.2 rfl (lv_at hl 3 rfl) ?_
          refine lv_iload hx hb dB_3_1_50.2.1.2.1 (lv_at hl 0 rfl) ?_
          refine lv_iload_n hx hb dB_3_1_50.2.1.2.2 rfl (lv_at hl 4 rfl) ?_
          refine ct_S hP hD hS hA [ob12_0_ mo 0 s1 t2 s3 s4 g5 g6 g7 g8 g9 g10 s11 g12 g13 g14 g15 g16 g17 g18 g19 g20 s21 g22 g23 g24 s25 s26 s27 s28 g29 g30 g31 g32 g33, ai_ cy g5 40 f5, ai_ cy g6 40 f6, ai_ cy g7 40 f7, ai_ cy g8 40 f8, az_ cy g10 40 f10] [0, 1, 2, 3, 4, 5] (by decide) rfl (fun hPc hDw hFc hC_ => ?_)
          refine va_callv (va_runV (As := [.int a1, .int a2, .int r_5, .int a3]) (rest := []) ⟨hx, hb, hml, hown, hts⟩ (c_X12_cutsOf l D cy H.size mo g5 g6 g7 g8 g9 g10 g12 g13 g14 g15 g16 g17 g18 g19 g20 g22 g23 g24 g29 g30 g31 g32 g33 (0 : Int32) s1 s3 s4 s11 s21 s25 s26 s27 s28 t2 f5 f6 f7 f8 f10 a1 a2 r_5 a3 (by first | with_reducible assumption | omega | assumption) (by first | with_reducible assumption | omega | assumption)) (cwV 4 hts gX12_next_X12_cutsOf rfl rfl rfl ⟨rfl, hd_X12_cutsOf⟩ ⟨Nat.le_of_ble_eq_true rfl, Nat.le_of_ble_eq_true rfl⟩) ⟨bl_, va_recvX hK.1 hP (ci := 12) (q0 := 0) rfl rfl, fun U hU hW => ⟨rfl, by rw [hU], by rw [hU]; exact hPc, kk_mv hW hK, hDw⟩⟩ rfl rfl hl.1 rfl (lv_room (Nat.le_of_ble_eq_true rfl)) dB_3_1_50.2.2.1.1 ⟨Nat.le_of_ble_eq_true rfl, Nat.le_of_ble_eq_true rfl⟩) hS (fun q _ h => hFc q h) hFc (fun u t H locs ht hvm hw hB hz1 hk1 hS => ?_)
          obtain ⟨n25_8, n26_9, n27_10, n28_11, hP1, hD1⟩ := hB
          rw [ht] at hP1
          obtain ⟨hP, hD⟩ := va_join (wr := []) (w1 := [ob12_0_ mo 0 s1 t2 s3 s4 g5 g6 g7 g8 g9 g10 s11 g12 g13 g14 g15 g16 g17 g18 g19 g20 s21 g22 g23 g24 n25_8 n26_9 n27_10 n28_11 g29 g30 g31 g32 g33, ai_ cy g5 40 f5, ai_ cy g6 40 f6, ai_ cy g7 40 f7, ai_ cy g8 40 f8, az_ cy g10 40 f10]) hP hD [0, 1, 2, 3, 4, 5] [] hC_ rfl (by decide) (by decide) hk1 hFc hP1 hD1
          refine pd_K [ob12_0_ mo 0 s1 t2 s3 s4 g5 g6 g7 g8 g9 g10 s11 g12 g13 g14 g15 g16 g17 g18 g19 g20 s21 g22 g23 g24 n25_8 n26_9 n27_10 n28_11 g29 g30 g31 g32 g33, ai_ cy g5 40 f5, ai_ cy g6 40 f6, ai_ cy g7 40 f7, ai_ cy g8 40 f8, az_ cy g10 40 f10] hP hD (fun hP hD => ?_)
          refine lv_aload_n hx hb dB_3_1_50.2.2.1.2 rfl (lv_at hl 1 rfl) ?_
          refine va_get (ci := 12) (v := .int n28_11) (C := RX12) (T := TX12) (N := 34) hx hb hts (fun _ h => List.mem_cons_of_mem _ (List.mem_append_right _ h)) hown hK.1 hP 0 rfl rfl 28 (by decide) (hts (.fieldLink RX12 201 "CutAtlasModel" "chosen" "I") (List.mem_of_getElem? (i := 3) rfl)) (fun _ h9 => h9) rfl dB_3_1_50.2.2.2.1 ?_
          rw [hQ]
          exact W.iret (v := n28_11) hx hb hr (fun t ht hW => ⟨⟨n28_11, (), rfl, trivial, n25_8, n26_9, n27_10, n28_11, by rw [ht]; exact hP, hD⟩, hS.F ht⟩) hS.2.2 dB_3_1_50.2.2.2.2
        · have t_6 : r_5.toInt = (1000000 : Int32).toInt := congrArg Int32.toInt c_6
          refine lv_bipush (v := (-5)) hx hb dB_3_1_50.1.2.1.2 (by decide) ?_
          rw [hQ]
          exact W.iret (v := (-5)) hx hb hr (fun t ht hW => ⟨⟨(-5), (), rfl, trivial, s25, s26, s27, s28, by rw [ht]; exact hP, hD⟩, hS.F ht⟩) hS.2.2 dB_3_1_50.1.2.2.1
      · have t_4 : ¬ (0 : Int32).toInt ≤ a3.toInt := fun h => c_4 (Int32.le_iff_toInt_le.mpr h)
        refine lv_iconst (v := (-1)) hx hb dB_3_1_49.2.1.2.1 (by decide) ?_
        rw [hQ]
        exact W.iret (v := (-1)) hx hb hr (fun t ht hW => ⟨⟨(-1), (), rfl, trivial, s25, s26, s27, s28, by rw [ht]; exact hP, hD⟩, hS.F ht⟩) hS.2.2 dB_3_1_49.2.1.2.2
  · have e_ := e_.symm
    subst e_
    refine lv_if_eq (tgt := 18) hx hb dB_3_1_49.1.2.2.2 (by decide) (fun c_12 => ?_) (fun c_12 => ?_)
    · have _ := c_12
      refine lv_iconst (v := (-1)) hx hb dB_3_1_49.2.1.2.1 (by decide) ?_
      rw [hQ]
      exact W.iret (v := (-1)) hx hb hr (fun t ht hW => ⟨⟨(-1), (), rfl, trivial, s25, s26, s27, s28, by rw [ht]; exact hP, hD⟩, hS.F ht⟩) hS.2.2 dB_3_1_49.2.1.2.2
    · exact absurd c_12 (by decide)

set_option maxHeartbeats 4000000 in
set_option maxRecDepth 100000 in
theorem c_X12_cuts (l : Launch) (D : va_G) (cy : Nat → ClassId) (sz : Nat) (mo : Nat) (g5 : Nat) (g6 : Nat) (g7 : Nat) (g8 : Nat) (g9 : Nat) (g10 : Nat) (g12 : Nat) (g13 : Nat) (g14 : Nat) (g15 : Nat) (g16 : Nat) (g17 : Nat) (g18 : Nat) (g19 : Nat) (g20 : Nat) (g22 : Nat) (g23 : Nat) (g24 : Nat) (g29 : Nat) (g30 : Nat) (g31 : Nat) (g32 : Nat) (g33 : Nat) (s0 : Int32) (s1 : Int32) (s3 : Int32) (s4 : Int32) (s11 : Int32) (s21 : Int32) (s25 : Int32) (s26 : Int32) (s27 : Int32) (s28 : Int32) (t2 : Int64) (f5 : Nat → Int32) (f6 : Nat → Int32) (f7 : Nat → Int32) (f8 : Nat → Int32) (f10 : Nat → Int32) (hN : 0 ≤ s4.toInt ∧ s4.toInt ≤ 40) (hPl : 0 ≤ s3.toInt ∧ s3.toInt ≤ 12) : Met l yX12_cuts wsX12_cuts ({ frames := 6, cells := 0, slots := 0, locals := 142 }) (va_Pc [.ref mo] (fun U => U.heap.size = sz ∧ va_P D vwCl [ob12_0_ mo s0 s1 t2 s3 s4 g5 g6 g7 g8 g9 g10 s11 g12 g13 g14 g15 g16 g17 g18 g19 g20 s21 g22 g23 g24 s25 s26 s27 s28 g29 g30 g31 g32 g33, ai_ cy g5 40 f5, ai_ cy g6 40 f6, ai_ cy g7 40 f7, ai_ cy g8 40 f8, az_ cy g10 40 f10] U.heap ∧ kk_ D cy U ∧ va_D (fun _ => True) [ob12_0_ mo s0 s1 t2 s3 s4 g5 g6 g7 g8 g9 g10 s11 g12 g13 g14 g15 g16 g17 g18 g19 g20 s21 g22 g23 g24 s25 s26 s27 s28 g29 g30 g31 g32 g33, ai_ cy g5 40 f5, ai_ cy g6 40 f6, ai_ cy g7 40 f7, ai_ cy g8 40 f8, az_ cy g10 40 f10])) (va_Qi (fun (r : Int32) (_ : Unit) => True) (fun (_ : Unit) (t : State) => ∃ (n25 : Int32), ∃ (n28 : Int32), va_P D vwCl [ob12_0_ mo 0 s1 t2 s3 s4 g5 g6 g7 g8 g9 g10 s11 g12 g13 g14 g15 g16 g17 g18 g19 g20 s21 g22 g23 g24 n25 s26 s27 n28 g29 g30 g31 g32 g33, ai_ cy g5 40 f5, ai_ cy g6 40 f6, ai_ cy g7 40 f7, ai_ cy g8 40 f8, az_ cy g10 40 f10] t.heap ∧ va_D (va_A [ob12_0_ mo s0 s1 t2 s3 s4 g5 g6 g7 g8 g9 g10 s11 g12 g13 g14 g15 g16 g17 g18 g19 g20 s21 g22 g23 g24 s25 s26 s27 s28 g29 g30 g31 g32 g33, ai_ cy g5 40 f5, ai_ cy g6 40 f6, ai_ cy g7 40 f7, ai_ cy g8 40 f8, az_ cy g10 40 f10] sz) [ob12_0_ mo 0 s1 t2 s3 s4 g5 g6 g7 g8 g9 g10 s11 g12 g13 g14 g15 g16 g17 g18 g19 g20 s21 g22 g23 g24 n25 s26 s27 n28 g29 g30 g31 g32 g33, ai_ cy g5 40 f5, ai_ cy g6 40 f6, ai_ cy g7 40 f7, ai_ cy g8 40 f8, az_ cy g10 40 f10]) (va_A [ob12_0_ mo s0 s1 t2 s3 s4 g5 g6 g7 g8 g9 g10 s11 g12 g13 g14 g15 g16 g17 g18 g19 g20 s21 g22 g23 g24 s25 s26 s27 s28 g29 g30 g31 g32 g33, ai_ cy g5 40 f5, ai_ cy g6 40 f6, ai_ cy g7 40 f7, ai_ cy g8 40 f8, az_ cy g10 40 f10] sz)) 0 0 (va_A [ob12_0_ mo s0 s1 t2 s3 s4 g5 g6 g7 g8 g9 g10 s11 g12 g13 g14 g15 g16 g17 g18 g19 g20 s21 g22 g23 g24 s25 s26 s27 s28 g29 g30 g31 g32 g33, ai_ cy g5 40 f5, ai_ cy g6 40 f6, ai_ cy g7 40 f7, ai_ cy g8 40 f8, az_ cy g10 40 f10] sz) := by
  refine ofQ (cc := cX12_cuts) (maxL := 1) (ret := (some .int)) (by decide) rfl ?_
  intro p e s m args below meth c s₁ Q hQ B hml hv
  obtain ⟨rfl, hsz, hP, hK, hD0⟩ := hv
  have hx := B.exec
  have hb := B.bytes
  have hr := B.returns
  have hts := atoms_spec (ws := wsX12_cuts) B.pre
  have hown : s.vm.findClass RX12 = some m.cls := by have h_ := findClass_of_methodNamed B.named; exact h_
  have hlocks := B.notSynchronized
  subst hsz
  have hD := hD0.self (sz := s.heap.size)
  generalize hAe : va_A [ob12_0_ mo s0 s1 t2 s3 s4 g5 g6 g7 g8 g9 g10 s11 g12 g13 g14 g15 g16 g17 g18 g19 g20 s21 g22 g23 g24 s25 s26 s27 s28 g29 g30 g31 g32 g33, ai_ cy g5 40 f5, ai_ cy g6 40 f6, ai_ cy g7 40 f7, ai_ cy g8 40 f8, az_ cy g10 40 f10] s.heap.size = A at hD hQ
  have hA : ∀ q : Nat, s.heap.size ≤ q → A q := fun q h => by rw [← hAe]; exact Or.inr h
  have hS : va_S A s.heap s.heap [] := va_S.rf
  have hl := lv_entry ([.ref mo]) (n := 1) (Nat.le_of_ble_eq_true rfl)
  rw [lg_entry_eq]
  generalize (lg_sl ([.ref mo]) ++ List.replicate (1 - (lg_sl ([.ref mo])).length) Slot.unset).toArray = ls at hl ⊢
  have hl : lv_has ls 1 [(0, .ref mo)] := hl
  have zm2 : ((-2) : Int32).toInt = -2 := by decide
  have z0 : (0 : Int32).toInt = 0 := by decide
  refine lv_aload_n hx hb dB_3_2_26.1.1.1 rfl (lv_at hl 0 rfl) ?_
  refine lv_iconst (v := 0) hx hb dB_3_2_26.1.1.2.1 (by decide) ?_
  refine va_put (ci := 12) (v := .int 0) (ty := .int) (C := RX12) (T := TX12) (N := 34) hx hb hts (fun _ h => List.mem_cons_of_mem _ (List.mem_append_right _ h)) tyX12 tyX12_ok nmX12 hown hK.1 hP hD hS 0 rfl rfl 0 (by decide) (hts (.fieldLink RX12 85 "CutAtlasModel" "thrown" "I") (List.mem_of_getElem? (i := 1) rfl)) (fun _ h9 => h9) rfl (by decide +kernel) rfl rfl (Nat.le_of_ble_eq_true rfl) dB_3_2_26.1.1.2.2 (fun H locs hP hD hS => ?_)
  refine pd_K [ob12_0_ mo 0 s1 t2 s3 s4 g5 g6 g7 g8 g9 g10 s11 g12 g13 g14 g15 g16 g17 g18 g19 g20 s21 g22 g23 g24 s25 s26 s27 s28 g29 g30 g31 g32 g33, ai_ cy g5 40 f5, ai_ cy g6 40 f6, ai_ cy g7 40 f7, ai_ cy g8 40 f8, az_ cy g10 40 f10] hP hD (fun hP hD => ?_)
  refine lv_aload_n hx hb dB_3_2_26.1.2.1.1 rfl (lv_at hl 0 rfl) ?_
  refine ct_R hP hD [ob12_0_ mo 0 s1 t2 s3 s4 g5 g6 g7 g8 g9 g10 s11 g12 g13 g14 g15 g16 g17 g18 g19 g20 s21 g22 g23 g24 s25 s26 s27 s28 g29 g30 g31 g32 g33, ai_ cy g5 40 f5, az_ cy g10 40 f10] [0, 1, 5] (by decide) rfl (fun hPc hDw => ?_)
  have hFc := va_free (wc := []) hD hS hA [] rfl
  refine va_calli (va_runV (As := []) (rest := []) ⟨hx, hb, hml, hown, hts⟩ (c_X12_isWhole l D cy H.size mo g5 g6 g7 g8 g9 g10 g12 g13 g14 g15 g16 g17 g18 g19 g20 g22 g23 g24 g29 g30 g31 g32 g33 (0 : Int32) s1 s3 s4 s11 s21 s25 s26 s27 s28 t2 f5 f10 (by first | with_reducible assumption | omega | assumption)) (cwV 0 hts gX12_cuts_X12_isWhole rfl rfl rfl ⟨rfl, hd_X12_isWhole⟩ ⟨Nat.le_of_ble_eq_true rfl, Nat.le_of_ble_eq_true rfl⟩) ⟨bl_, va_recvX hK.1 hP (ci := 12) (q0 := 0) rfl rfl, fun U hU hW => ⟨rfl, by rw [hU], by rw [hU]; exact hPc, kk_mv hW hK, hDw⟩⟩ rfl rfl hl.1 rfl (lv_room (Nat.le_of_ble_eq_true rfl)) dB_3_2_26.1.2.1.2 ⟨Nat.le_of_ble_eq_true rfl, Nat.le_of_ble_eq_true rfl⟩) hS (fun q _ h => hFc q h) hFc (fun r_1 u t H locs ht hvm hw hB hz1 hk1 hS => ?_)
  have hP : va_P D vwCl _ H := ro_keep hP hk1
  have f0_r_1 := hw
  refine lv_if_ne (tgt := 15) hx hb dB_3_2_26.1.2.2.1 (by decide) (fun c_2 => ?_) (fun c_2 => ?_)
  · have t_2 : ¬ r_1.toInt = (0 : Int32).toInt := fun h => c_2 (Int32.toInt_inj.mp h)
    refine lv_aload_n hx hb dB_3_2_26.2.1.2.1 rfl (lv_at hl 0 rfl) ?_
    refine lv_iconst (v := 0) hx hb dB_3_2_26.2.1.2.2 (by decide) ?_
    refine ct_S hP hD hS hA [ob12_0_ mo 0 s1 t2 s3 s4 g5 g6 g7 g8 g9 g10 s11 g12 g13 g14 g15 g16 g17 g18 g19 g20 s21 g22 g23 g24 s25 s26 s27 s28 g29 g30 g31 g32 g33, ai_ cy g5 40 f5, ai_ cy g6 40 f6, ai_ cy g7 40 f7, ai_ cy g8 40 f8, az_ cy g10 40 f10] [0, 1, 2, 3, 4, 5] (by decide) rfl (fun hPc hDw hFc hC_ => ?_)
    refine va_callv (va_runV (As := [.int 0]) (rest := []) ⟨hx, hb, hml, hown, hts⟩ (c_X12_wholeCuts l D cy H.size mo g5 g6 g7 g8 g9 g10 g12 g13 g14 g15 g16 g17 g18 g19 g20 g22 g23 g24 g29 g30 g31 g32 g33 (0 : Int32) s1 s3 s4 s11 s21 s25 s26 s27 s28 t2 f5 f6 f7 f8 f10 (0 : Int32) (by first | with_reducible assumption | omega | assumption) (by first | with_reducible assumption | omega | assumption)) (cwV 1 hts gX12_cuts_X12_wholeCuts rfl rfl rfl ⟨rfl, hd_X12_wholeCuts⟩ ⟨Nat.le_of_ble_eq_true rfl, Nat.le_of_ble_eq_true rfl⟩) ⟨bl_, va_recvX hK.1 hP (ci := 12) (q0 := 0) rfl rfl, fun U hU hW => ⟨rfl, by rw [hU], by rw [hU]; exact hPc, kk_mv hW hK, hDw⟩⟩ rfl rfl hl.1 rfl (lv_room (Nat.le_of_ble_eq_true rfl)) dB_3_2_26.2.2.1.1 ⟨Nat.le_of_ble_eq_true rfl, Nat.le_of_ble_eq_true rfl⟩) hS (fun q _ h => hFc q h) hFc (fun u t H locs ht hvm hw hB hz1 hk1 hS => ?_)
    obtain ⟨n25_4, n28_5, hP1, hD1⟩ := hB
    rw [ht] at hP1
    obtain ⟨hP, hD⟩ := va_join (wr := []) (w1 := [ob12_0_ mo 0 s1 t2 s3 s4 g5 g6 g7 g8 g9 g10 s11 g12 g13 g14 g15 g16 g17 g18 g19 g20 s21 g22 g23 g24 n25_4 s26 s27 n28_5 g29 g30 g31 g32 g33, ai_ cy g5 40 f5, ai_ cy g6 40 f6, ai_ cy g7 40 f7, ai_ cy g8 40 f8, az_ cy g10 40 f10]) hP hD [0, 1, 2, 3, 4, 5] [] hC_ rfl (by decide) (by decide) hk1 hFc hP1 hD1
    refine pd_K [ob12_0_ mo 0 s1 t2 s3 s4 g5 g6 g7 g8 g9 g10 s11 g12 g13 g14 g15 g16 g17 g18 g19 g20 s21 g22 g23 g24 n25_4 s26 s27 n28_5 g29 g30 g31 g32 g33, ai_ cy g5 40 f5, ai_ cy g6 40 f6, ai_ cy g7 40 f7, ai_ cy g8 40 f8, az_ cy g10 40 f10] hP hD (fun hP hD => ?_)
    refine lv_aload_n hx hb dB_3_2_26.2.2.1.2 rfl (lv_at hl 0 rfl) ?_
    refine va_get (ci := 12) (v := .int n25_4) (C := RX12) (T := TX12) (N := 34) hx hb hts (fun _ h => List.mem_cons_of_mem _ (List.mem_append_right _ h)) hown hK.1 hP 0 rfl rfl 25 (by decide) (hts (.fieldLink RX12 192 "CutAtlasModel" "cuts" "I") (List.mem_of_getElem? (i := 2) rfl)) (fun _ h9 => h9) rfl dB_3_2_26.2.2.2.1 ?_
    rw [hQ]
    exact W.iret (v := n25_4) hx hb hr (fun t ht hW => ⟨⟨n25_4, (), rfl, trivial, n25_4, n28_5, by rw [ht]; exact hP, hD⟩, hS.F ht⟩) hS.2.2 dB_3_2_26.2.2.2.2
  · have t_2 : r_1.toInt = (0 : Int32).toInt := congrArg Int32.toInt c_2
    refine lv_bipush (v := (-2)) hx hb dB_3_2_26.1.2.2.2 (by decide) ?_
    rw [hQ]
    exact W.iret (v := (-2)) hx hb hr (fun t ht hW => ⟨⟨(-2), (), rfl, trivial, s25, s28, by rw [ht]; exact hP, hD⟩, hS.F ht⟩) hS.2.2 dB_3_2_26.2.1.1

set_option maxHeartbeats 4000000 in
set_option maxRecDepth 100000 in
theorem c_X12_cutAt (l : Launch) (D : va_G) (cy : Nat → ClassId) (sz : Nat) (mo : Nat) (g5 : Nat) (g6 : Nat) (g7 : Nat) (g8 : Nat) (g9 : Nat) (g10 : Nat) (g12 : Nat) (g13 : Nat) (g14 : Nat) (g15 : Nat) (g16 : Nat) (g17 : Nat) (g18 : Nat) (g19 : Nat) (g20 : Nat) (g22 : Nat) (g23 : Nat) (g24 : Nat) (g29 : Nat) (g30 : Nat) (g31 : Nat) (g32 : Nat) (g33 : Nat) (s0 : Int32) (s1 : Int32) (s3 : Int32) (s4 : Int32) (s11 : Int32) (s21 : Int32) (s25 : Int32) (s26 : Int32) (s27 : Int32) (s28 : Int32) (t2 : Int64) (f5 : Nat → Int32) (f6 : Nat → Int32) (f7 : Nat → Int32) (f8 : Nat → Int32) (f10 : Nat → Int32) (a1 : Int32) (hN : 0 ≤ s4.toInt ∧ s4.toInt ≤ 40) (hPl : 0 ≤ s3.toInt ∧ s3.toInt ≤ 12) : Met l yX12_cutAt wsX12_cutAt ({ frames := 6, cells := 0, slots := 0, locals := 142 }) (va_Pc [.ref mo, .int a1] (fun U => U.heap.size = sz ∧ va_P D vwCl [ob12_0_ mo s0 s1 t2 s3 s4 g5 g6 g7 g8 g9 g10 s11 g12 g13 g14 g15 g16 g17 g18 g19 g20 s21 g22 g23 g24 s25 s26 s27 s28 g29 g30 g31 g32 g33, ai_ cy g5 40 f5, ai_ cy g6 40 f6, ai_ cy g7 40 f7, ai_ cy g8 40 f8, az_ cy g10 40 f10] U.heap ∧ kk_ D cy U ∧ va_D (fun _ => True) [ob12_0_ mo s0 s1 t2 s3 s4 g5 g6 g7 g8 g9 g10 s11 g12 g13 g14 g15 g16 g17 g18 g19 g20 s21 g22 g23 g24 s25 s26 s27 s28 g29 g30 g31 g32 g33, ai_ cy g5 40 f5, ai_ cy g6 40 f6, ai_ cy g7 40 f7, ai_ cy g8 40 f8, az_ cy g10 40 f10])) (va_Qi (fun (r : Int32) (_ : Unit) => True) (fun (_ : Unit) (t : State) => ∃ (n25 : Int32), ∃ (n28 : Int32), va_P D vwCl [ob12_0_ mo 0 s1 t2 s3 s4 g5 g6 g7 g8 g9 g10 s11 g12 g13 g14 g15 g16 g17 g18 g19 g20 s21 g22 g23 g24 n25 s26 s27 n28 g29 g30 g31 g32 g33, ai_ cy g5 40 f5, ai_ cy g6 40 f6, ai_ cy g7 40 f7, ai_ cy g8 40 f8, az_ cy g10 40 f10] t.heap ∧ va_D (va_A [ob12_0_ mo s0 s1 t2 s3 s4 g5 g6 g7 g8 g9 g10 s11 g12 g13 g14 g15 g16 g17 g18 g19 g20 s21 g22 g23 g24 s25 s26 s27 s28 g29 g30 g31 g32 g33, ai_ cy g5 40 f5, ai_ cy g6 40 f6, ai_ cy g7 40 f7, ai_ cy g8 40 f8, az_ cy g10 40 f10] sz) [ob12_0_ mo 0 s1 t2 s3 s4 g5 g6 g7 g8 g9 g10 s11 g12 g13 g14 g15 g16 g17 g18 g19 g20 s21 g22 g23 g24 n25 s26 s27 n28 g29 g30 g31 g32 g33, ai_ cy g5 40 f5, ai_ cy g6 40 f6, ai_ cy g7 40 f7, ai_ cy g8 40 f8, az_ cy g10 40 f10]) (va_A [ob12_0_ mo s0 s1 t2 s3 s4 g5 g6 g7 g8 g9 g10 s11 g12 g13 g14 g15 g16 g17 g18 g19 g20 s21 g22 g23 g24 s25 s26 s27 s28 g29 g30 g31 g32 g33, ai_ cy g5 40 f5, ai_ cy g6 40 f6, ai_ cy g7 40 f7, ai_ cy g8 40 f8, az_ cy g10 40 f10] sz)) 0 0 (va_A [ob12_0_ mo s0 s1 t2 s3 s4 g5 g6 g7 g8 g9 g10 s11 g12 g13 g14 g15 g16 g17 g18 g19 g20 s21 g22 g23 g24 s25 s26 s27 s28 g29 g30 g31 g32 g33, ai_ cy g5 40 f5, ai_ cy g6 40 f6, ai_ cy g7 40 f7, ai_ cy g8 40 f8, az_ cy g10 40 f10] sz) := by
  refine ofQ (cc := cX12_cutAt) (maxL := 2) (ret := (some .int)) (by decide) rfl ?_
  intro p e s m args below meth c s₁ Q hQ B hml hv
  obtain ⟨rfl, hsz, hP, hK, hD0⟩ := hv
  have hx := B.exec
  have hb := B.bytes
  have hr := B.returns
  have hts := atoms_spec (ws := wsX12_cutAt) B.pre
  have hown : s.vm.findClass RX12 = some m.cls := by have h_ := findClass_of_methodNamed B.named; exact h_
  have hlocks := B.notSynchronized
  subst hsz
  have hD := hD0.self (sz := s.heap.size)
  generalize hAe : va_A [ob12_0_ mo s0 s1 t2 s3 s4 g5 g6 g7 g8 g9 g10 s11 g12 g13 g14 g15 g16 g17 g18 g19 g20 s21 g22 g23 g24 s25 s26 s27 s28 g29 g30 g31 g32 g33, ai_ cy g5 40 f5, ai_ cy g6 40 f6, ai_ cy g7 40 f7, ai_ cy g8 40 f8, az_ cy g10 40 f10] s.heap.size = A at hD hQ
  have hA : ∀ q : Nat, s.heap.size ≤ q → A q := fun q h => by rw [← hAe]; exact Or.inr h
  have hS : va_S A s.heap s.heap [] := va_S.rf
  have hl := lv_entry ([.ref mo, .int a1]) (n := 2) (Nat.le_of_ble_eq_true rfl)
  rw [lg_entry_eq]
  generalize (lg_sl ([.ref mo, .int a1]) ++ List.replicate (2 - (lg_sl ([.ref mo, .int a1])).length) Slot.unset).toArray = ls at hl ⊢
  have hl : lv_has ls 2 [(0, .ref mo), (1, .int a1)] := hl
  have zm2 : ((-2) : Int32).toInt = -2 := by decide
  have zm1 : ((-1) : Int32).toInt = -1 := by decide
  have z0 : (0 : Int32).toInt = 0 := by decide
  refine lv_aload_n hx hb dB_3_2_24.1.1.1.1 rfl (lv_at hl 0 rfl) ?_
  refine lv_iconst (v := 0) hx hb dB_3_2_24.1.1.1.2 (by decide) ?_
  refine va_put (ci := 12) (v := .int 0) (ty := .int) (C := RX12) (T := TX12) (N := 34) hx hb hts (fun _ h => List.mem_cons_of_mem _ (List.mem_append_right _ h)) tyX12 tyX12_ok nmX12 hown hK.1 hP hD hS 0 rfl rfl 0 (by decide) (hts (.fieldLink RX12 85 "CutAtlasModel" "thrown" "I") (List.mem_of_getElem? (i := 1) rfl)) (fun _ h9 => h9) rfl (by decide +kernel) rfl rfl (Nat.le_of_ble_eq_true rfl) dB_3_2_24.1.1.2.1 (fun H locs hP hD hS => ?_)
  refine pd_K [ob12_0_ mo 0 s1 t2 s3 s4 g5 g6 g7 g8 g9 g10 s11 g12 g13 g14 g15 g16 g17 g18 g19 g20 s21 g22 g23 g24 s25 s26 s27 s28 g29 g30 g31 g32 g33, ai_ cy g5 40 f5, ai_ cy g6 40 f6, ai_ cy g7 40 f7, ai_ cy g8 40 f8, az_ cy g10 40 f10] hP hD (fun hP hD => ?_)
  refine lv_iload_n hx hb dB_3_2_24.1.1.2.2 rfl (lv_at hl 1 rfl) ?_
  refine lv_if_ge (tgt := 11) hx hb dB_3_2_24.1.2.1.1 (by decide) (fun c_1 => ?_) (fun c_1 => ?_)
  · have t_1 : (0 : Int32).toInt ≤ a1.toInt := Int32.le_iff_toInt_le.mp c_1
    refine lv_aload_n hx hb dB_3_2_24.1.2.2.2 rfl (lv_at hl 0 rfl) ?_
    refine ct_R hP hD [ob12_0_ mo 0 s1 t2 s3 s4 g5 g6 g7 g8 g9 g10 s11 g12 g13 g14 g15 g16 g17 g18 g19 g20 s21 g22 g23 g24 s25 s26 s27 s28 g29 g30 g31 g32 g33, ai_ cy g5 40 f5, az_ cy g10 40 f10] [0, 1, 5] (by decide) rfl (fun hPc hDw => ?_)
    have hFc := va_free (wc := []) hD hS hA [] rfl
    refine va_calli (va_runV (As := []) (rest := []) ⟨hx, hb, hml, hown, hts⟩ (c_X12_isWhole l D cy H.size mo g5 g6 g7 g8 g9 g10 g12 g13 g14 g15 g16 g17 g18 g19 g20 g22 g23 g24 g29 g30 g31 g32 g33 (0 : Int32) s1 s3 s4 s11 s21 s25 s26 s27 s28 t2 f5 f10 (by first | with_reducible assumption | omega | assumption)) (cwV 0 hts gX12_cutAt_X12_isWhole rfl rfl rfl ⟨rfl, hd_X12_isWhole⟩ ⟨Nat.le_of_ble_eq_true rfl, Nat.le_of_ble_eq_true rfl⟩) ⟨bl_, va_recvX hK.1 hP (ci := 12) (q0 := 0) rfl rfl, fun U hU hW => ⟨rfl, by rw [hU], by rw [hU]; exact hPc, kk_mv hW hK, hDw⟩⟩ rfl rfl hl.1 rfl (lv_room (Nat.le_of_ble_eq_true rfl)) dB_3_2_24.2.1.1.1 ⟨Nat.le_of_ble_eq_true rfl, Nat.le_of_ble_eq_true rfl⟩) hS (fun q _ h => hFc q h) hFc (fun r_2 u t H locs ht hvm hw hB hz1 hk1 hS => ?_)
    have hP : va_P D vwCl _ H := ro_keep hP hk1
    have f0_r_2 := hw
    refine lv_if_ne (tgt := 21) hx hb dB_3_2_24.2.1.1.2 (by decide) (fun c_3 => ?_) (fun c_3 => ?_)
    · have t_3 : ¬ r_2.toInt = (0 : Int32).toInt := fun h => c_3 (Int32.toInt_inj.mp h)
      refine lv_aload_n hx hb dB_3_2_24.2.2.1.1 rfl (lv_at hl 0 rfl) ?_
      refine lv_iload_n hx hb dB_3_2_24.2.2.1.2 rfl (lv_at hl 1 rfl) ?_
      refine ct_S hP hD hS hA [ob12_0_ mo 0 s1 t2 s3 s4 g5 g6 g7 g8 g9 g10 s11 g12 g13 g14 g15 g16 g17 g18 g19 g20 s21 g22 g23 g24 s25 s26 s27 s28 g29 g30 g31 g32 g33, ai_ cy g5 40 f5, ai_ cy g6 40 f6, ai_ cy g7 40 f7, ai_ cy g8 40 f8, az_ cy g10 40 f10] [0, 1, 2, 3, 4, 5] (by decide) rfl (fun hPc hDw hFc hC_ => ?_)
      refine va_callv (va_runV (As := [.int a1]) (rest := []) ⟨hx, hb, hml, hown, hts⟩ (c_X12_wholeCuts l D cy H.size mo g5 g6 g7 g8 g9 g10 g12 g13 g14 g15 g16 g17 g18 g19 g20 g22 g23 g24 g29 g30 g31 g32 g33 (0 : Int32) s1 s3 s4 s11 s21 s25 s26 s27 s28 t2 f5 f6 f7 f8 f10 a1 (by first | with_reducible assumption | omega | assumption) (by first | with_reducible assumption | omega | assumption)) (cwV 1 hts gX12_cutAt_X12_wholeCuts rfl rfl rfl ⟨rfl, hd_X12_wholeCuts⟩ ⟨Nat.le_of_ble_eq_true rfl, Nat.le_of_ble_eq_true rfl⟩) ⟨bl_, va_recvX hK.1 hP (ci := 12) (q0 := 0) rfl rfl, fun U hU hW => ⟨rfl, by rw [hU], by rw [hU]; exact hPc, kk_mv hW hK, hDw⟩⟩ rfl rfl hl.1 rfl (lv_room (Nat.le_of_ble_eq_true rfl)) dB_3_2_24.2.2.2.1 ⟨Nat.le_of_ble_eq_true rfl, Nat.le_of_ble_eq_true rfl⟩) hS (fun q _ h => hFc q h) hFc (fun u t H locs ht hvm hw hB hz1 hk1 hS => ?_)
      obtain ⟨n25_5, n28_6, hP1, hD1⟩ := hB
      rw [ht] at hP1
      obtain ⟨hP, hD⟩ := va_join (wr := []) (w1 := [ob12_0_ mo 0 s1 t2 s3 s4 g5 g6 g7 g8 g9 g10 s11 g12 g13 g14 g15 g16 g17 g18 g19 g20 s21 g22 g23 g24 n25_5 s26 s27 n28_6 g29 g30 g31 g32 g33, ai_ cy g5 40 f5, ai_ cy g6 40 f6, ai_ cy g7 40 f7, ai_ cy g8 40 f8, az_ cy g10 40 f10]) hP hD [0, 1, 2, 3, 4, 5] [] hC_ rfl (by decide) (by decide) hk1 hFc hP1 hD1
      refine pd_K [ob12_0_ mo 0 s1 t2 s3 s4 g5 g6 g7 g8 g9 g10 s11 g12 g13 g14 g15 g16 g17 g18 g19 g20 s21 g22 g23 g24 n25_5 s26 s27 n28_6 g29 g30 g31 g32 g33, ai_ cy g5 40 f5, ai_ cy g6 40 f6, ai_ cy g7 40 f7, ai_ cy g8 40 f8, az_ cy g10 40 f10] hP hD (fun hP hD => ?_)
      refine lv_aload_n hx hb dB_3_2_24.2.2.2.2 rfl (lv_at hl 0 rfl) ?_
      refine va_get (ci := 12) (v := .int n28_6) (C := RX12) (T := TX12) (N := 34) hx hb hts (fun _ h => List.mem_cons_of_mem _ (List.mem_append_right _ h)) hown hK.1 hP 0 rfl rfl 28 (by decide) (hts (.fieldLink RX12 201 "CutAtlasModel" "chosen" "I") (List.mem_of_getElem? (i := 2) rfl)) (fun _ h9 => h9) rfl dB_3_2_25.1 ?_
      rw [hQ]
      exact W.iret (v := n28_6) hx hb hr (fun t ht hW => ⟨⟨n28_6, (), rfl, trivial, n25_5, n28_6, by rw [ht]; exact hP, hD⟩, hS.F ht⟩) hS.2.2 dB_3_2_25.2
    · have t_3 : r_2.toInt = (0 : Int32).toInt := congrArg Int32.toInt c_3
      refine lv_bipush (v := (-2)) hx hb dB_3_2_24.2.1.2.1 (by decide) ?_
      rw [hQ]
      exact W.iret (v := (-2)) hx hb hr (fun t ht hW => ⟨⟨(-2), (), rfl, trivial, s25, s28, by rw [ht]; exact hP, hD⟩, hS.F ht⟩) hS.2.2 dB_3_2_24.2.1.2.2
  · have t_1 : ¬ (0 : Int32).toInt ≤ a1.toInt := fun h => c_1 (Int32.le_iff_toInt_le.mpr h)
    refine lv_iconst (v := (-1)) hx hb dB_3_2_24.1.2.1.2 (by decide) ?_
    rw [hQ]
    exact W.iret (v := (-1)) hx hb hr (fun t ht hW => ⟨⟨(-1), (), rfl, trivial, s25, s28, by rw [ht]; exact hP, hD⟩, hS.F ht⟩) hS.2.2 dB_3_2_24.1.2.2.1

set_option maxHeartbeats 4000000 in
set_option maxRecDepth 100000 in
theorem c_X12_raise (l : Launch) (D : va_G) (cy : Nat → ClassId) (sz : Nat) (mo : Nat) (g5 : Nat) (g6 : Nat) (g7 : Nat) (g8 : Nat) (g9 : Nat) (g10 : Nat) (g12 : Nat) (g13 : Nat) (g14 : Nat) (g15 : Nat) (g16 : Nat) (g17 : Nat) (g18 : Nat) (g19 : Nat) (g20 : Nat) (g22 : Nat) (g23 : Nat) (g24 : Nat) (g29 : Nat) (g30 : Nat) (g31 : Nat) (g32 : Nat) (g33 : Nat) (s0 : Int32) (s1 : Int32) (s3 : Int32) (s4 : Int32) (s11 : Int32) (s21 : Int32) (s25 : Int32) (s26 : Int32) (s27 : Int32) (s28 : Int32) (t2 : Int64) (f5 : Nat → Int32) (f6 : Nat → Int32) (f7 : Nat → Int32) (f8 : Nat → Int32) (f10 : Nat → Int32) (a1 : Int32) (a2 : Int32) (a3 : Int32) (hN : 0 ≤ s4.toInt ∧ s4.toInt ≤ 40) (hPl : 0 ≤ s3.toInt ∧ s3.toInt ≤ 12) (h21 : s21 = (-9)) : Met l yX12_raise wsX12_raise ({ frames := 4, cells := 0, slots := 0, locals := 96 }) (va_Pc [.ref mo, .int a1, .int a2, .int a3] (fun U => U.heap.size = sz ∧ va_P D vwCl [ob12_0_ mo s0 s1 t2 s3 s4 g5 g6 g7 g8 g9 g10 s11 g12 g13 g14 g15 g16 g17 g18 g19 g20 s21 g22 g23 g24 s25 s26 s27 s28 g29 g30 g31 g32 g33, ai_ cy g5 40 f5, ai_ cy g6 40 f6, ai_ cy g7 40 f7, ai_ cy g8 40 f8, az_ cy g10 40 f10] U.heap ∧ kk_ D cy U ∧ va_D (fun _ => True) [ob12_0_ mo s0 s1 t2 s3 s4 g5 g6 g7 g8 g9 g10 s11 g12 g13 g14 g15 g16 g17 g18 g19 g20 s21 g22 g23 g24 s25 s26 s27 s28 g29 g30 g31 g32 g33, ai_ cy g5 40 f5, ai_ cy g6 40 f6, ai_ cy g7 40 f7, ai_ cy g8 40 f8, az_ cy g10 40 f10])) (va_Qi (fun (r : Int32) (_ : Unit) => True) (fun (_ : Unit) (t : State) => ∃ (n21 : Int32), (n21 = (-9)) ∧ va_P D vwCl [ob12_0_ mo 0 s1 t2 s3 s4 g5 g6 g7 g8 g9 g10 s11 g12 g13 g14 g15 g16 g17 g18 g19 g20 n21 g22 g23 g24 s25 s26 s27 s28 g29 g30 g31 g32 g33, ai_ cy g5 40 f5, ai_ cy g6 40 f6, ai_ cy g7 40 f7, ai_ cy g8 40 f8, az_ cy g10 40 f10] t.heap ∧ va_D (va_A [ob12_0_ mo s0 s1 t2 s3 s4 g5 g6 g7 g8 g9 g10 s11 g12 g13 g14 g15 g16 g17 g18 g19 g20 s21 g22 g23 g24 s25 s26 s27 s28 g29 g30 g31 g32 g33, ai_ cy g5 40 f5, ai_ cy g6 40 f6, ai_ cy g7 40 f7, ai_ cy g8 40 f8, az_ cy g10 40 f10] sz) [ob12_0_ mo 0 s1 t2 s3 s4 g5 g6 g7 g8 g9 g10 s11 g12 g13 g14 g15 g16 g17 g18 g19 g20 n21 g22 g23 g24 s25 s26 s27 s28 g29 g30 g31 g32 g33, ai_ cy g5 40 f5, ai_ cy g6 40 f6, ai_ cy g7 40 f7, ai_ cy g8 40 f8, az_ cy g10 40 f10]) (va_A [ob12_0_ mo s0 s1 t2 s3 s4 g5 g6 g7 g8 g9 g10 s11 g12 g13 g14 g15 g16 g17 g18 g19 g20 s21 g22 g23 g24 s25 s26 s27 s28 g29 g30 g31 g32 g33, ai_ cy g5 40 f5, ai_ cy g6 40 f6, ai_ cy g7 40 f7, ai_ cy g8 40 f8, az_ cy g10 40 f10] sz)) 0 0 (va_A [ob12_0_ mo s0 s1 t2 s3 s4 g5 g6 g7 g8 g9 g10 s11 g12 g13 g14 g15 g16 g17 g18 g19 g20 s21 g22 g23 g24 s25 s26 s27 s28 g29 g30 g31 g32 g33, ai_ cy g5 40 f5, ai_ cy g6 40 f6, ai_ cy g7 40 f7, ai_ cy g8 40 f8, az_ cy g10 40 f10] sz) := by
  refine ofQ (cc := cX12_raise) (maxL := 5) (ret := (some .int)) (by decide) rfl ?_
  intro p e s m args below meth c s₁ Q hQ B hml hv
  obtain ⟨rfl, hsz, hP, hK, hD0⟩ := hv
  have hx := B.exec
  have hb := B.bytes
  have hr := B.returns
  have hts := atoms_spec (ws := wsX12_raise) B.pre
  have hown : s.vm.findClass RX12 = some m.cls := by have h_ := findClass_of_methodNamed B.named; exact h_
  have hlocks := B.notSynchronized
  subst hsz
  have hD := hD0.self (sz := s.heap.size)
  generalize hAe : va_A [ob12_0_ mo s0 s1 t2 s3 s4 g5 g6 g7 g8 g9 g10 s11 g12 g13 g14 g15 g16 g17 g18 g19 g20 s21 g22 g23 g24 s25 s26 s27 s28 g29 g30 g31 g32 g33, ai_ cy g5 40 f5, ai_ cy g6 40 f6, ai_ cy g7 40 f7, ai_ cy g8 40 f8, az_ cy g10 40 f10] s.heap.size = A at hD hQ
  have hA : ∀ q : Nat, s.heap.size ≤ q → A q := fun q h => by rw [← hAe]; exact Or.inr h
  have hS : va_S A s.heap s.heap [] := va_S.rf
  have hl := lv_entry ([.ref mo, .int a1, .int a2, .int a3]) (n := 5) (Nat.le_of_ble_eq_true rfl)
  rw [lg_entry_eq]
  generalize (lg_sl ([.ref mo, .int a1, .int a2, .int a3]) ++ List.replicate (5 - (lg_sl ([.ref mo, .int a1, .int a2, .int a3])).length) Slot.unset).toArray = ls at hl ⊢
  have hl : lv_has ls 5 [(0, .ref mo), (1, .int a1), (2, .int a2), (3, .int a3)] := hl
  have zm9 : ((-9) : Int32).toInt = -9 := by decide
  have zm2 : ((-2) : Int32).toInt = -2 := by decide
  have zm1 : ((-1) : Int32).toInt = -1 := by decide
  have z0 : (0 : Int32).toInt = 0 := by decide
  refine lv_aload_n hx hb dB_3_1_51.1.1.1.1 rfl (lv_at hl 0 rfl) ?_
  refine lv_iconst (v := 0) hx hb dB_3_1_51.1.1.1.2 (by decide) ?_
  refine va_put (ci := 12) (v := .int 0) (ty := .int) (C := RX12) (T := TX12) (N := 34) hx hb hts (fun _ h => List.mem_cons_of_mem _ (List.mem_append_right _ h)) tyX12 tyX12_ok nmX12 hown hK.1 hP hD hS 0 rfl rfl 0 (by decide) (hts (.fieldLink RX12 85 "CutAtlasModel" "thrown" "I") (List.mem_of_getElem? (i := 1) rfl)) (fun _ h9 => h9) rfl (by decide +kernel) rfl rfl (Nat.le_of_ble_eq_true rfl) dB_3_1_51.1.1.2.1 (fun H locs hP hD hS => ?_)
  refine pd_K [ob12_0_ mo 0 s1 t2 s3 s4 g5 g6 g7 g8 g9 g10 s11 g12 g13 g14 g15 g16 g17 g18 g19 g20 s21 g22 g23 g24 s25 s26 s27 s28 g29 g30 g31 g32 g33, ai_ cy g5 40 f5, ai_ cy g6 40 f6, ai_ cy g7 40 f7, ai_ cy g8 40 f8, az_ cy g10 40 f10] hP hD (fun hP hD => ?_)
  refine lv_aload_n hx hb dB_3_1_51.1.1.2.2 rfl (lv_at hl 0 rfl) ?_
  refine lv_iload_n hx hb dB_3_1_51.1.2.1.1 rfl (lv_at hl 1 rfl) ?_
  refine lv_iload_n hx hb dB_3_1_51.1.2.1.2 rfl (lv_at hl 2 rfl) ?_
  refine ct_R hP hD [ob12_0_ mo 0 s1 t2 s3 s4 g5 g6 g7 g8 g9 g10 s11 g12 g13 g14 g15 g16 g17 g18 g19 g20 s21 g22 g23 g24 s25 s26 s27 s28 g29 g30 g31 g32 g33] [0] (by decide) rfl (fun hPc hDw => ?_)
  have hFc := va_free (wc := []) hD hS hA [] rfl
  refine va_calli (va_runV (As := [.int a1, .int a2]) (rest := []) ⟨hx, hb, hml, hown, hts⟩ (c_X12_arePlaces l D cy H.size mo g5 g6 g7 g8 g9 g10 g12 g13 g14 g15 g16 g17 g18 g19 g20 g22 g23 g24 g29 g30 g31 g32 g33 (0 : Int32) s1 s3 s4 s11 s21 s25 s26 s27 s28 t2 a1 a2 (by first | with_reducible assumption | omega | assumption)) (cwV 2 hts gX12_raise_X12_arePlaces rfl rfl rfl ⟨rfl, hd_X12_arePlaces⟩ ⟨Nat.le_of_ble_eq_true rfl, Nat.le_of_ble_eq_true rfl⟩) ⟨bl_, va_recvX hK.1 hP (ci := 12) (q0 := 0) rfl rfl, fun U hU hW => ⟨rfl, by rw [hU], by rw [hU]; exact hPc, kk_mv hW hK, hDw⟩⟩ rfl rfl hl.1 rfl (lv_room (Nat.le_of_ble_eq_true rfl)) dB_3_1_51.1.2.2.1 ⟨Nat.le_of_ble_eq_true rfl, Nat.le_of_ble_eq_true rfl⟩) hS (fun q _ h => hFc q h) hFc (fun r_1 u t H locs ht hvm hw hB hz1 hk1 hS => ?_)
  have hP : va_P D vwCl _ H := ro_keep hP hk1
  rcases hw with ⟨w_2, e_⟩ | ⟨w_2, e_⟩
  · have e_ := e_.symm
    subst e_
    refine lv_if_eq (tgt := 22) hx hb dB_3_1_51.1.2.2.2 (by decide) (fun c_3 => ?_) (fun c_3 => ?_)
    · exact absurd c_3 (by decide)
    · have _ := c_3
      refine lv_aload_n hx hb dB_3_1_51.2.1.1.1 rfl (lv_at hl 0 rfl) ?_
      refine lv_iload_n hx hb dB_3_1_51.2.1.1.2 rfl (lv_at hl 3 rfl) ?_
      refine ct_R hP hD [ob12_0_ mo 0 s1 t2 s3 s4 g5 g6 g7 g8 g9 g10 s11 g12 g13 g14 g15 g16 g17 g18 g19 g20 s21 g22 g23 g24 s25 s26 s27 s28 g29 g30 g31 g32 g33] [0] (by decide) rfl (fun hPc hDw => ?_)
      have hFc := va_free (wc := []) hD hS hA [] rfl
      refine va_calli (va_runV (As := [.int a3]) (rest := []) ⟨hx, hb, hml, hown, hts⟩ (c_X12_isLine l D cy H.size mo g5 g6 g7 g8 g9 g10 g12 g13 g14 g15 g16 g17 g18 g19 g20 g22 g23 g24 g29 g30 g31 g32 g33 (0 : Int32) s1 s3 s4 s11 s21 s25 s26 s27 s28 t2 a3 (by first | with_reducible assumption | omega | assumption)) (cwV 1 hts gX12_raise_X12_isLine rfl rfl rfl ⟨rfl, hd_X12_isLine⟩ ⟨Nat.le_of_ble_eq_true rfl, Nat.le_of_ble_eq_true rfl⟩) ⟨bl_, va_recvX hK.1 hP (ci := 12) (q0 := 0) rfl rfl, fun U hU hW => ⟨rfl, by rw [hU], by rw [hU]; exact hPc, kk_mv hW hK, hDw⟩⟩ rfl rfl hl.1 rfl (lv_room (Nat.le_of_ble_eq_true rfl)) dB_3_1_51.2.1.2.1 ⟨Nat.le_of_ble_eq_true rfl, Nat.le_of_ble_eq_true rfl⟩) hS (fun q _ h => hFc q h) hFc (fun r_4 u t H locs ht hvm hw hB hz1 hk1 hS => ?_)
      have hP : va_P D vwCl _ H := ro_keep hP hk1
      rcases hw with ⟨w_5, e_⟩ | ⟨w_5, e_⟩
      · have e_ := e_.symm
        subst e_
        refine lv_if_ne (tgt := 24) hx hb dB_3_1_51.2.1.2.2 (by decide) (fun c_6 => ?_) (fun c_6 => ?_)
        · have _ := c_6
          refine lv_aload_n hx hb dB_3_1_51.2.2.2.1 rfl (lv_at hl 0 rfl) ?_
          refine va_get (ci := 12) (v := .ref g10) (C := RX12) (T := TX12) (N := 34) hx hb hts (fun _ h => List.mem_cons_of_mem _ (List.mem_append_right _ h)) hown hK.1 hP 0 rfl rfl 10 (by decide) (hts (.fieldLink RX12 25 "CutAtlasModel" "isMissing" "[Z") (List.mem_of_getElem? (i := 2) rfl)) (fun _ h9 => h9) rfl dB_3_1_51.2.2.2.2 ?_
          refine lv_iload_n hx hb dB_3_1_52.1.1.1.1 rfl (lv_at hl 3 rfl) ?_
          have h_7 : vp_in a3 40 := in_I (by first | with_reducible assumption | omega) (by omega)
          refine va_zald hx hb hK.1 hP 5 2 rfl rfl (i := a3) h_7 dB_3_1_52.1.1.1.2 ?_
          refine lv_topi (fun y_8 ey_8 => ?_)
          refine lv_if_eq (tgt := 36) hx hb dB_3_1_52.1.1.2.1 (by decide) (fun c_9 => ?_) (fun c_9 => ?_)
          · have t_9 : y_8.toInt = (0 : Int32).toInt := congrArg Int32.toInt c_9
            refine lv_aload_n hx hb dB_3_1_52.1.2.1.2 rfl (lv_at hl 0 rfl) ?_
            refine lv_iload_n hx hb dB_3_1_52.1.2.2.1 rfl (lv_at hl 3 rfl) ?_
            refine va_put (ci := 12) (v := .int a3) (ty := .int) (C := RX12) (T := TX12) (N := 34) hx hb hts (fun _ h => List.mem_cons_of_mem _ (List.mem_append_right _ h)) tyX12 tyX12_ok nmX12 hown hK.1 hP hD hS 0 rfl rfl 21 (by decide) (hts (.fieldLink RX12 57 "CutAtlasModel" "raised" "I") (List.mem_of_getElem? (i := 3) rfl)) (fun _ h9 => h9) rfl (by decide +kernel) rfl rfl (Nat.le_of_ble_eq_true rfl) dB_3_1_52.1.2.2.2 (fun H locs hP hD hS => ?_)
            refine pd_K [ob12_0_ mo 0 s1 t2 s3 s4 g5 g6 g7 g8 g9 g10 s11 g12 g13 g14 g15 g16 g17 g18 g19 g20 a3 g22 g23 g24 s25 s26 s27 s28 g29 g30 g31 g32 g33, ai_ cy g5 40 f5, ai_ cy g6 40 f6, ai_ cy g7 40 f7, ai_ cy g8 40 f8, az_ cy g10 40 f10] hP hD (fun hP hD => ?_)
            refine lv_aload_n hx hb dB_3_1_52.2.1.1.1 rfl (lv_at hl 0 rfl) ?_
            refine lv_iload_n hx hb dB_3_1_52.2.1.1.2 rfl (lv_at hl 1 rfl) ?_
            refine lv_iload_n hx hb dB_3_1_52.2.1.2.1 rfl (lv_at hl 2 rfl) ?_
            refine ct_R hP hD [ob12_0_ mo 0 s1 t2 s3 s4 g5 g6 g7 g8 g9 g10 s11 g12 g13 g14 g15 g16 g17 g18 g19 g20 a3 g22 g23 g24 s25 s26 s27 s28 g29 g30 g31 g32 g33, ai_ cy g5 40 f5, ai_ cy g6 40 f6, ai_ cy g7 40 f7, ai_ cy g8 40 f8, az_ cy g10 40 f10] [0, 1, 2, 3, 4, 5] (by decide) rfl (fun hPc hDw => ?_)
            have hFc := va_free (wc := []) hD hS hA [] rfl
            refine va_calli (va_runV (As := [.int a1, .int a2]) (rest := []) ⟨hx, hb, hml, hown, hts⟩ (c_X12_mostOf l D cy H.size mo g5 g6 g7 g8 g9 g10 g12 g13 g14 g15 g16 g17 g18 g19 g20 g22 g23 g24 g29 g30 g31 g32 g33 (0 : Int32) s1 s3 s4 s11 a3 s25 s26 s27 s28 t2 f5 f6 f7 f8 f10 a1 a2 (by first | with_reducible assumption | omega | assumption) (by first | with_reducible assumption | omega | assumption)) (cwV 2 hts gX12_raise_X12_mostOf rfl rfl rfl ⟨rfl, hd_X12_mostOf⟩ ⟨Nat.le_of_ble_eq_true rfl, Nat.le_of_ble_eq_true rfl⟩) ⟨bl_, va_recvX hK.1 hP (ci := 12) (q0 := 0) rfl rfl, fun U hU hW => ⟨rfl, by rw [hU], by rw [hU]; exact hPc, kk_mv hW hK, hDw⟩⟩ rfl rfl hl.1 rfl (lv_room (Nat.le_of_ble_eq_true rfl)) dB_3_1_52.2.1.2.2 ⟨Nat.le_of_ble_eq_true rfl, Nat.le_of_ble_eq_true rfl⟩) hS (fun q _ h => hFc q h) hFc (fun r_10 u t H locs ht hvm hw hB hz1 hk1 hS => ?_)
            have hP : va_P D vwCl _ H := ro_keep hP hk1
            refine lv_istore (lv' := [(4, .int r_10), (0, .ref mo), (1, .int a1), (2, .int a2), (3, .int a3)]) hx hb dB_3_1_52.2.2.1.1 hl (by decide) rfl (fun ls hl => ?_)
            refine lv_aload_n hx hb dB_3_1_52.2.2.1.2 rfl (lv_at hl 1 rfl) ?_
            refine lv_bipush (v := (-9)) hx hb dB_3_1_52.2.2.2.1 (by decide) ?_
            refine va_put (ci := 12) (v := .int (-9)) (ty := .int) (C := RX12) (T := TX12) (N := 34) hx hb hts (fun _ h => List.mem_cons_of_mem _ (List.mem_append_right _ h)) tyX12 tyX12_ok nmX12 hown hK.1 hP hD hS 0 rfl rfl 21 (by decide) (hts (.fieldLink RX12 57 "CutAtlasModel" "raised" "I") (List.mem_of_getElem? (i := 3) rfl)) (fun _ h9 => h9) rfl (by decide +kernel) rfl rfl (Nat.le_of_ble_eq_true rfl) dB_3_1_52.2.2.2.2 (fun H locs hP hD hS => ?_)
            refine pd_K [ob12_0_ mo 0 s1 t2 s3 s4 g5 g6 g7 g8 g9 g10 s11 g12 g13 g14 g15 g16 g17 g18 g19 g20 (-9) g22 g23 g24 s25 s26 s27 s28 g29 g30 g31 g32 g33, ai_ cy g5 40 f5, ai_ cy g6 40 f6, ai_ cy g7 40 f7, ai_ cy g8 40 f8, az_ cy g10 40 f10] hP hD (fun hP hD => ?_)
            refine lv_iload hx hb dB_3_1_53.1 (lv_at hl 0 rfl) ?_
            refine ct_R hP hD [] [] (by decide) rfl (fun hPc hDw => ?_)
            have hFc := va_free (wc := []) hD hS hA [] rfl
            refine va_calli (va_runS (As := [.int r_10]) (rest := []) ⟨hx, hb, hml, hown, hts⟩ (c_X12_asTold l D cy H.size r_10) (va_cwS 1 hts gX12_raise_X12_asTold rfl rfl rfl hd_X12_asTold ⟨Nat.le_of_ble_eq_true rfl, Nat.le_of_ble_eq_true rfl⟩) ⟨bl_, fun U hU hW => ⟨rfl, by rw [hU], by rw [hU]; exact hPc, kk_mv hW hK, hDw⟩⟩ rfl rfl hl.1 rfl (lv_room (Nat.le_of_ble_eq_true rfl)) dB_3_1_53.2.1 ⟨Nat.le_of_ble_eq_true rfl, Nat.le_of_ble_eq_true rfl⟩) hS (fun q _ h => hFc q h) hFc (fun r_11 u t H locs ht hvm hw hB hz1 hk1 hS => ?_)
            have hP : va_P D vwCl _ H := ro_keep hP hk1
            rw [hQ]
            exact W.iret (v := r_11) hx hb hr (fun t ht hW => ⟨⟨r_11, (), rfl, trivial, ((-9) : Int32), (by first | with_reducible assumption | assumption | rfl), by rw [ht]; exact hP, hD⟩, hS.F ht⟩) hS.2.2 dB_3_1_53.2.2
          · have t_9 : ¬ y_8.toInt = (0 : Int32).toInt := fun h => c_9 (Int32.toInt_inj.mp h)
            refine lv_bipush (v := (-2)) hx hb dB_3_1_52.1.1.2.2 (by decide) ?_
            rw [hQ]
            exact W.iret (v := (-2)) hx hb hr (fun t ht hW => ⟨⟨(-2), (), rfl, trivial, s21, (by first | with_reducible assumption | assumption | rfl), by rw [ht]; exact hP, hD⟩, hS.F ht⟩) hS.2.2 dB_3_1_52.1.2.1.1
        · exact absurd c_6 (by decide)
      · have e_ := e_.symm
        subst e_
        refine lv_if_ne (tgt := 24) hx hb dB_3_1_51.2.1.2.2 (by decide) (fun c_12 => ?_) (fun c_12 => ?_)
        · exact absurd c_12 (by decide)
        · have _ := c_12
          refine lv_iconst (v := (-1)) hx hb dB_3_1_51.2.2.1.1 (by decide) ?_
          rw [hQ]
          exact W.iret (v := (-1)) hx hb hr (fun t ht hW => ⟨⟨(-1), (), rfl, trivial, s21, (by first | with_reducible assumption | assumption | rfl), by rw [ht]; exact hP, hD⟩, hS.F ht⟩) hS.2.2 dB_3_1_51.2.2.1.2
  · have e_ := e_.symm
    subst e_
    refine lv_if_eq (tgt := 22) hx hb dB_3_1_51.1.2.2.2 (by decide) (fun c_13 => ?_) (fun c_13 => ?_)
    · have _ := c_13
      refine lv_iconst (v := (-1)) hx hb dB_3_1_51.2.2.1.1 (by decide) ?_
      rw [hQ]
      exact W.iret (v := (-1)) hx hb hr (fun t ht hW => ⟨⟨(-1), (), rfl, trivial, s21, (by first | with_reducible assumption | assumption | rfl), by rw [ht]; exact hP, hD⟩, hS.F ht⟩) hS.2.2 dB_3_1_51.2.2.1.2
    · exact absurd c_13 (by decide)

set_option maxHeartbeats 4000000 in
set_option maxRecDepth 100000 in
theorem c_X12_weak (l : Launch) (D : va_G) (cy : Nat → ClassId) (sz : Nat) (mo : Nat) (g5 : Nat) (g6 : Nat) (g7 : Nat) (g8 : Nat) (g9 : Nat) (g10 : Nat) (g12 : Nat) (g13 : Nat) (g14 : Nat) (g15 : Nat) (g16 : Nat) (g17 : Nat) (g18 : Nat) (g19 : Nat) (g20 : Nat) (g22 : Nat) (g23 : Nat) (g24 : Nat) (g29 : Nat) (g30 : Nat) (g31 : Nat) (g32 : Nat) (g33 : Nat) (s0 : Int32) (s1 : Int32) (s3 : Int32) (s4 : Int32) (s11 : Int32) (s21 : Int32) (s25 : Int32) (s26 : Int32) (s27 : Int32) (s28 : Int32) (t2 : Int64) (f5 : Nat → Int32) (f6 : Nat → Int32) (f7 : Nat → Int32) (f8 : Nat → Int32) (f10 : Nat → Int32) (a1 : Int32) (hN : 0 ≤ s4.toInt ∧ s4.toInt ≤ 40) (hPl : 0 ≤ s3.toInt ∧ s3.toInt ≤ 12) : Met l yX12_weak wsX12_weak ({ frames := 5, cells := 0, slots := 0, locals := 119 }) (va_Pc [.ref mo, .int a1] (fun U => U.heap.size = sz ∧ va_P D vwCl [ob12_0_ mo s0 s1 t2 s3 s4 g5 g6 g7 g8 g9 g10 s11 g12 g13 g14 g15 g16 g17 g18 g19 g20 s21 g22 g23 g24 s25 s26 s27 s28 g29 g30 g31 g32 g33, ai_ cy g5 40 f5, ai_ cy g6 40 f6, ai_ cy g7 40 f7, ai_ cy g8 40 f8, az_ cy g10 40 f10] U.heap ∧ kk_ D cy U ∧ va_D (fun _ => True) [ob12_0_ mo s0 s1 t2 s3 s4 g5 g6 g7 g8 g9 g10 s11 g12 g13 g14 g15 g16 g17 g18 g19 g20 s21 g22 g23 g24 s25 s26 s27 s28 g29 g30 g31 g32 g33, ai_ cy g5 40 f5, ai_ cy g6 40 f6, ai_ cy g7 40 f7, ai_ cy g8 40 f8, az_ cy g10 40 f10])) (va_Qi (fun (r : Int32) (_ : Unit) => True) (fun (_ : Unit) (t : State) => va_P D vwCl [ob12_0_ mo 0 s1 t2 s3 s4 g5 g6 g7 g8 g9 g10 s11 g12 g13 g14 g15 g16 g17 g18 g19 g20 s21 g22 g23 g24 s25 s26 s27 s28 g29 g30 g31 g32 g33, ai_ cy g5 40 f5, ai_ cy g6 40 f6, ai_ cy g7 40 f7, ai_ cy g8 40 f8, az_ cy g10 40 f10] t.heap ∧ va_D (va_A [ob12_0_ mo s0 s1 t2 s3 s4 g5 g6 g7 g8 g9 g10 s11 g12 g13 g14 g15 g16 g17 g18 g19 g20 s21 g22 g23 g24 s25 s26 s27 s28 g29 g30 g31 g32 g33, ai_ cy g5 40 f5, ai_ cy g6 40 f6, ai_ cy g7 40 f7, ai_ cy g8 40 f8, az_ cy g10 40 f10] sz) [ob12_0_ mo 0 s1 t2 s3 s4 g5 g6 g7 g8 g9 g10 s11 g12 g13 g14 g15 g16 g17 g18 g19 g20 s21 g22 g23 g24 s25 s26 s27 s28 g29 g30 g31 g32 g33, ai_ cy g5 40 f5, ai_ cy g6 40 f6, ai_ cy g7 40 f7, ai_ cy g8 40 f8, az_ cy g10 40 f10]) (va_A [ob12_0_ mo s0 s1 t2 s3 s4 g5 g6 g7 g8 g9 g10 s11 g12 g13 g14 g15 g16 g17 g18 g19 g20 s21 g22 g23 g24 s25 s26 s27 s28 g29 g30 g31 g32 g33, ai_ cy g5 40 f5, ai_ cy g6 40 f6, ai_ cy g7 40 f7, ai_ cy g8 40 f8, az_ cy g10 40 f10] sz)) 0 0 (va_A [ob12_0_ mo s0 s1 t2 s3 s4 g5 g6 g7 g8 g9 g10 s11 g12 g13 g14 g15 g16 g17 g18 g19 g20 s21 g22 g23 g24 s25 s26 s27 s28 g29 g30 g31 g32 g33, ai_ cy g5 40 f5, ai_ cy g6 40 f6, ai_ cy g7 40 f7, ai_ cy g8 40 f8, az_ cy g10 40 f10] sz) := by
  refine ofQ (cc := cX12_weak) (maxL := 4) (ret := (some .int)) (by decide) rfl ?_
  intro p e s m args below meth c s₁ Q hQ B hml hv
  obtain ⟨rfl, hsz, hP, hK, hD0⟩ := hv
  have hx := B.exec
  have hb := B.bytes
  have hr := B.returns
  have hts := atoms_spec (ws := wsX12_weak) B.pre
  have hown : s.vm.findClass RX12 = some m.cls := by have h_ := findClass_of_methodNamed B.named; exact h_
  have hlocks := B.notSynchronized
  subst hsz
  have hD := hD0.self (sz := s.heap.size)
  generalize hAe : va_A [ob12_0_ mo s0 s1 t2 s3 s4 g5 g6 g7 g8 g9 g10 s11 g12 g13 g14 g15 g16 g17 g18 g19 g20 s21 g22 g23 g24 s25 s26 s27 s28 g29 g30 g31 g32 g33, ai_ cy g5 40 f5, ai_ cy g6 40 f6, ai_ cy g7 40 f7, ai_ cy g8 40 f8, az_ cy g10 40 f10] s.heap.size = A at hD hQ
  have hA : ∀ q : Nat, s.heap.size ≤ q → A q := fun q h => by rw [← hAe]; exact Or.inr h
  have hS : va_S A s.heap s.heap [] := va_S.rf
  have hl := lv_entry ([.ref mo, .int a1]) (n := 4) (Nat.le_of_ble_eq_true rfl)
  rw [lg_entry_eq]
  generalize (lg_sl ([.ref mo, .int a1]) ++ List.replicate (4 - (lg_sl ([.ref mo, .int a1])).length) Slot.unset).toArray = ls at hl ⊢
  have hl : lv_has ls 4 [(0, .ref mo), (1, .int a1)] := hl
  have zm2 : ((-2) : Int32).toInt = -2 := by decide
  have zm1 : ((-1) : Int32).toInt = -1 := by decide
  have z0 : (0 : Int32).toInt = 0 := by decide
  have z1 : (1 : Int32).toInt = 1 := by decide
  have z2 : (2 : Int32).toInt = 2 := by decide
  refine lv_aload_n hx hb dB_3_2_56.1.1.1.1 rfl (lv_at hl 0 rfl) ?_
  refine lv_iconst (v := 0) hx hb dB_3_2_56.1.1.1.2 (by decide) ?_
  refine va_put (ci := 12) (v := .int 0) (ty := .int) (C := RX12) (T := TX12) (N := 34) hx hb hts (fun _ h => List.mem_cons_of_mem _ (List.mem_append_right _ h)) tyX12 tyX12_ok nmX12 hown hK.1 hP hD hS 0 rfl rfl 0 (by decide) (hts (.fieldLink RX12 85 "CutAtlasModel" "thrown" "I") (List.mem_of_getElem? (i := 1) rfl)) (fun _ h9 => h9) rfl (by decide +kernel) rfl rfl (Nat.le_of_ble_eq_true rfl) dB_3_2_56.1.1.2.1 (fun H locs hP hD hS => ?_)
  refine pd_K [ob12_0_ mo 0 s1 t2 s3 s4 g5 g6 g7 g8 g9 g10 s11 g12 g13 g14 g15 g16 g17 g18 g19 g20 s21 g22 g23 g24 s25 s26 s27 s28 g29 g30 g31 g32 g33, ai_ cy g5 40 f5, ai_ cy g6 40 f6, ai_ cy g7 40 f7, ai_ cy g8 40 f8, az_ cy g10 40 f10] hP hD (fun hP hD => ?_)
  refine lv_aload_n hx hb dB_3_2_56.1.1.2.2 rfl (lv_at hl 0 rfl) ?_
  refine lv_iload_n hx hb dB_3_2_56.1.2.1.1 rfl (lv_at hl 1 rfl) ?_
  refine ct_R hP hD [ob12_0_ mo 0 s1 t2 s3 s4 g5 g6 g7 g8 g9 g10 s11 g12 g13 g14 g15 g16 g17 g18 g19 g20 s21 g22 g23 g24 s25 s26 s27 s28 g29 g30 g31 g32 g33] [0] (by decide) rfl (fun hPc hDw => ?_)
  have hFc := va_free (wc := []) hD hS hA [] rfl
  refine va_calli (va_runV (As := [.int a1]) (rest := []) ⟨hx, hb, hml, hown, hts⟩ (c_X12_isLine l D cy H.size mo g5 g6 g7 g8 g9 g10 g12 g13 g14 g15 g16 g17 g18 g19 g20 g22 g23 g24 g29 g30 g31 g32 g33 (0 : Int32) s1 s3 s4 s11 s21 s25 s26 s27 s28 t2 a1 (by first | with_reducible assumption | omega | assumption)) (cwV 1 hts gX12_weak_X12_isLine rfl rfl rfl ⟨rfl, hd_X12_isLine⟩ ⟨Nat.le_of_ble_eq_true rfl, Nat.le_of_ble_eq_true rfl⟩) ⟨bl_, va_recvX hK.1 hP (ci := 12) (q0 := 0) rfl rfl, fun U hU hW => ⟨rfl, by rw [hU], by rw [hU]; exact hPc, kk_mv hW hK, hDw⟩⟩ rfl rfl hl.1 rfl (lv_room (Nat.le_of_ble_eq_true rfl)) dB_3_2_56.1.2.1.2 ⟨Nat.le_of_ble_eq_true rfl, Nat.le_of_ble_eq_true rfl⟩) hS (fun q _ h => hFc q h) hFc (fun r_1 u t H locs ht hvm hw hB hz1 hk1 hS => ?_)
  have hP : va_P D vwCl _ H := ro_keep hP hk1
  rcases hw with ⟨w_2, e_⟩ | ⟨w_2, e_⟩
  · have e_ := e_.symm
    subst e_
    refine lv_if_ne (tgt := 15) hx hb dB_3_2_56.1.2.2.1 (by decide) (fun c_3 => ?_) (fun c_3 => ?_)
    · have _ := c_3
      refine lv_aload_n hx hb dB_3_2_56.2.1.1.2 rfl (lv_at hl 0 rfl) ?_
      refine ct_R hP hD [ob12_0_ mo 0 s1 t2 s3 s4 g5 g6 g7 g8 g9 g10 s11 g12 g13 g14 g15 g16 g17 g18 g19 g20 s21 g22 g23 g24 s25 s26 s27 s28 g29 g30 g31 g32 g33, ai_ cy g5 40 f5, az_ cy g10 40 f10] [0, 1, 5] (by decide) rfl (fun hPc hDw => ?_)
      have hFc := va_free (wc := []) hD hS hA [] rfl
      refine va_calli (va_runV (As := []) (rest := []) ⟨hx, hb, hml, hown, hts⟩ (c_X12_isWhole l D cy H.size mo g5 g6 g7 g8 g9 g10 g12 g13 g14 g15 g16 g17 g18 g19 g20 g22 g23 g24 g29 g30 g31 g32 g33 (0 : Int32) s1 s3 s4 s11 s21 s25 s26 s27 s28 t2 f5 f10 (by first | with_reducible assumption | omega | assumption)) (cwV 0 hts gX12_weak_X12_isWhole rfl rfl rfl ⟨rfl, hd_X12_isWhole⟩ ⟨Nat.le_of_ble_eq_true rfl, Nat.le_of_ble_eq_true rfl⟩) ⟨bl_, va_recvX hK.1 hP (ci := 12) (q0 := 0) rfl rfl, fun U hU hW => ⟨rfl, by rw [hU], by rw [hU]; exact hPc, kk_mv hW hK, hDw⟩⟩ rfl rfl hl.1 rfl (lv_room (Nat.le_of_ble_eq_true rfl)) dB_3_2_56.2.1.2.1 ⟨Nat.le_of_ble_eq_true rfl, Nat.le_of_ble_eq_true rfl⟩) hS (fun q _ h => hFc q h) hFc (fun r_4 u t H locs ht hvm hw hB hz1 hk1 hS => ?_)
      have hP : va_P D vwCl _ H := ro_keep hP hk1
      have f0_r_4 := hw
      refine lv_if_eq (tgt := 31) hx hb dB_3_2_56.2.1.2.2 (by decide) (fun c_5 => ?_) (fun c_5 => ?_)
      · have t_5 : r_4.toInt = (0 : Int32).toInt := congrArg Int32.toInt c_5
        refine lv_bipush (v := (-2)) hx hb dB_3_2_57.1.1.1.2 (by decide) ?_
        rw [hQ]
        exact W.iret (v := (-2)) hx hb hr (fun t ht hW => ⟨⟨(-2), (), rfl, trivial, by rw [ht]; exact hP, hD⟩, hS.F ht⟩) hS.2.2 dB_3_2_57.1.1.2.1
      · have t_5 : ¬ r_4.toInt = (0 : Int32).toInt := fun h => c_5 (Int32.toInt_inj.mp h)
        refine lv_aload_n hx hb dB_3_2_56.2.2.1.1 rfl (lv_at hl 0 rfl) ?_
        refine va_get (ci := 12) (v := .ref g10) (C := RX12) (T := TX12) (N := 34) hx hb hts (fun _ h => List.mem_cons_of_mem _ (List.mem_append_right _ h)) hown hK.1 hP 0 rfl rfl 10 (by decide) (hts (.fieldLink RX12 25 "CutAtlasModel" "isMissing" "[Z") (List.mem_of_getElem? (i := 2) rfl)) (fun _ h9 => h9) rfl dB_3_2_56.2.2.1.2 ?_
        refine lv_iload_n hx hb dB_3_2_56.2.2.2.1 rfl (lv_at hl 1 rfl) ?_
        have h_6 : vp_in a1 40 := in_I (by first | with_reducible assumption | omega) (by omega)
        refine va_zald hx hb hK.1 hP 5 2 rfl rfl (i := a1) h_6 dB_3_2_56.2.2.2.2 ?_
        refine lv_topi (fun y_7 ey_7 => ?_)
        refine lv_if_eq (tgt := 34) hx hb dB_3_2_57.1.1.1.1 (by decide) (fun c_8 => ?_) (fun c_8 => ?_)
        · have t_8 : y_7.toInt = (0 : Int32).toInt := congrArg Int32.toInt c_8
          refine lv_aload_n hx hb dB_3_2_57.1.1.2.2 rfl (lv_at hl 0 rfl) ?_
          refine ct_R hP hD [ob12_0_ mo 0 s1 t2 s3 s4 g5 g6 g7 g8 g9 g10 s11 g12 g13 g14 g15 g16 g17 g18 g19 g20 s21 g22 g23 g24 s25 s26 s27 s28 g29 g30 g31 g32 g33, ai_ cy g5 40 f5, ai_ cy g6 40 f6, ai_ cy g7 40 f7, ai_ cy g8 40 f8, az_ cy g10 40 f10] [0, 1, 2, 3, 4, 5] (by decide) rfl (fun hPc hDw => ?_)
          have hFc := va_free (wc := []) hD hS hA [] rfl
          refine va_calli (va_runV (As := []) (rest := []) ⟨hx, hb, hml, hown, hts⟩ (c_X12_leastOf l D cy H.size mo g5 g6 g7 g8 g9 g10 g12 g13 g14 g15 g16 g17 g18 g19 g20 g22 g23 g24 g29 g30 g31 g32 g33 (0 : Int32) s1 s3 s4 s11 s21 s25 s26 s27 s28 t2 f5 f6 f7 f8 f10 (by first | with_reducible assumption | omega | assumption) (by first | with_reducible assumption | omega | assumption)) (cwV 0 hts gX12_weak_X12_leastOf rfl rfl rfl ⟨rfl, hd_X12_leastOf⟩ ⟨Nat.le_of_ble_eq_true rfl, Nat.le_of_ble_eq_true rfl⟩) ⟨bl_, va_recvX hK.1 hP (ci := 12) (q0 := 0) rfl rfl, fun U hU hW => ⟨rfl, by rw [hU], by rw [hU]; exact hPc, kk_mv hW hK, hDw⟩⟩ rfl rfl hl.1 rfl (lv_room (Nat.le_of_ble_eq_true rfl)) dB_3_2_57.1.2.1.1 ⟨Nat.le_of_ble_eq_true rfl, Nat.le_of_ble_eq_true rfl⟩) hS (fun q _ h => hFc q h) hFc (fun r_9 u t H locs ht hvm hw hB hz1 hk1 hS => ?_)
          have hP : va_P D vwCl _ H := ro_keep hP hk1
          refine lv_istore_n (lv' := [(2, .int r_9), (0, .ref mo), (1, .int a1)]) hx hb dB_3_2_57.1.2.1.2 rfl hl (by decide) rfl (fun ls hl => ?_)
          refine lv_iconst (v := 2) hx hb dB_3_2_57.1.2.2.1 (by decide) ?_
          refine lv_istore_n (lv' := [(3, .int 2), (2, .int r_9), (0, .ref mo), (1, .int a1)]) hx hb dB_3_2_57.1.2.2.2 rfl hl (by decide) rfl (fun ls hl => ?_)
          suffices LOOP_10 : ∀ (n_10 : Nat) (x3_10 : Int32) (H : Heap) (locs : List Loc) (ls : Array Slot), 4100 - x3_10.toInt < (n_10 : Int) → (0 ≤ x3_10.toInt) → (x3_10.toInt ≤ 4100) → pd_2 D vwCl A [ob12_0_ mo 0 s1 t2 s3 s4 g5 g6 g7 g8 g9 g10 s11 g12 g13 g14 g15 g16 g17 g18 g19 g20 s21 g22 g23 g24 s25 s26 s27 s28 g29 g30 g31 g32 g33, ai_ cy g5 40 f5, ai_ cy g6 40 f6, ai_ cy g7 40 f7, ai_ cy g8 40 f8, az_ cy g10 40 f10] H → va_S A s.heap H locs → lv_has ls 4 [(3, .int x3_10), (2, .int r_9), (0, .ref mo), (1, .int a1)] → W p l e ({ frames := 5, cells := 0, slots := 0, locals := 119 } : Room) s m (([.ref mo, .int a1] : List Value).toArray) below meth c H locs 0 0 Q (F0 m 41 ls []) from LOOP_10 ((4100 - (2 : Int32).toInt).toNat + 1) (2 : Int32) _ _ _ (by omega) (by first | with_reducible assumption | omega | assumption) (by first | with_reducible assumption | omega | assumption) ⟨hP, hD⟩ hS (lv_sub hl [0, 1, 2, 3] rfl)
          intro n_10
          induction n_10 with
          | zero =>
            intro x3_10 H locs ls hm v0_10 v1_10 hPD hS hl; obtain ⟨hP, hD⟩ := hPD
            exact absurd hm (by omega)
          | succ n_10 ih_10 =>
            intro x3_10 H locs ls hm v0_10 v1_10 hPD hS hl; obtain ⟨hP, hD⟩ := hPD
            refine lv_iload_n hx hb dB_3_2_57.2.1.1.1 rfl (lv_at hl 0 rfl) ?_
            refine lv_iconst (v := 1) hx hb dB_3_2_57.2.1.1.2 (by decide) ?_
            refine lv_aload_n hx hb dB_3_2_57.2.1.2.1 rfl (lv_at hl 2 rfl) ?_
            refine va_get (ci := 12) (v := .int s3) (C := RX12) (T := TX12) (N := 34) hx hb hts (fun _ h => List.mem_cons_of_mem _ (List.mem_append_right _ h)) hown hK.1 hP 0 rfl rfl 3 (by decide) (hts (.fieldLink RX12 88 "CutAtlasModel" "places" "I") (List.mem_of_getElem? (i := 3) rfl)) (fun _ h9 => h9) rfl dB_3_2_57.2.1.2.2 ?_
            refine lv_ishl hx hb dB_3_2_57.2.2.1.1 ?_
            refine lv_topi (fun y_11 ey_11 => ?_)
            have ty_11 : 1 ≤ y_11.toInt ∧ y_11.toInt ≤ 4096 := by rw [ey_11]; exact shl1 (by omega) (by omega)
            refine lv_icmp_ge (tgt := 91) hx hb dB_3_2_57.2.2.1.2 (by decide) (fun c_12 => ?_) (fun c_12 => ?_)
            · have t_12 : y_11.toInt ≤ x3_10.toInt := Int32.le_iff_toInt_le.mp c_12
              refine lv_iconst (v := 0) hx hb dB_3_2_59.2.2.2.1 (by decide) ?_
              rw [hQ]
              exact W.iret (v := 0) hx hb hr (fun t ht hW => ⟨⟨0, (), rfl, trivial, by rw [ht]; exact hP, hD⟩, hS.F ht⟩) hS.2.2 dB_3_2_59.2.2.2.2
            · have t_12 : ¬ y_11.toInt ≤ x3_10.toInt := fun h => c_12 (Int32.le_iff_toInt_le.mpr h)
              refine lv_iload_n hx hb dB_3_2_57.2.2.2.1 rfl (lv_at hl 0 rfl) ?_
              refine lv_aload_n hx hb dB_3_2_57.2.2.2.2 rfl (lv_at hl 2 rfl) ?_
              refine va_get (ci := 12) (v := .ref g6) (C := RX12) (T := TX12) (N := 34) hx hb hts (fun _ h => List.mem_cons_of_mem _ (List.mem_append_right _ h)) hown hK.1 hP 0 rfl rfl 6 (by decide) (hts (.fieldLink RX12 13 "CutAtlasModel" "from" "[I") (List.mem_of_getElem? (i := 4) rfl)) (fun _ h9 => h9) rfl dB_3_2_58.1.1.1.1 ?_
              refine lv_iload_n hx hb dB_3_2_58.1.1.1.2 rfl (lv_at hl 3 rfl) ?_
              refine va_iald hx hb hK.1 hP 2 0 rfl rfl (i := a1) h_6 dB_3_2_58.1.1.2.1 ?_
              refine lv_topi (fun y_14 ey_14 => ?_)
              refine lv_ishr hx hb dB_3_2_58.1.1.2.2 ?_
              refine lv_topi (fun y_15 ey_15 => ?_)
              refine lv_iconst (v := 1) hx hb dB_3_2_58.1.2.1.1 (by decide) ?_
              refine lv_iand hx hb dB_3_2_58.1.2.1.2 ?_
              refine lv_topi (fun y_16 ey_16 => ?_)
              refine lv_iload_n hx hb dB_3_2_58.1.2.2.1 rfl (lv_at hl 0 rfl) ?_
              refine lv_aload_n hx hb dB_3_2_58.1.2.2.2 rfl (lv_at hl 2 rfl) ?_
              refine va_get (ci := 12) (v := .ref g7) (C := RX12) (T := TX12) (N := 34) hx hb hts (fun _ h => List.mem_cons_of_mem _ (List.mem_append_right _ h)) hown hK.1 hP 0 rfl rfl 7 (by decide) (hts (.fieldLink RX12 16 "CutAtlasModel" "to" "[I") (List.mem_of_getElem? (i := 5) rfl)) (fun _ h9 => h9) rfl dB_3_2_58.2.1.1.1 ?_
              refine lv_iload_n hx hb dB_3_2_58.2.1.1.2 rfl (lv_at hl 3 rfl) ?_
              refine va_iald hx hb hK.1 hP 3 0 rfl rfl (i := a1) h_6 dB_3_2_58.2.1.2.1 ?_
              refine lv_topi (fun y_18 ey_18 => ?_)
              refine lv_ishr hx hb dB_3_2_58.2.1.2.2 ?_
              refine lv_topi (fun y_19 ey_19 => ?_)
              refine lv_iconst (v := 1) hx hb dB_3_2_58.2.2.1.1 (by decide) ?_
              refine lv_iand hx hb dB_3_2_58.2.2.1.2 ?_
              refine lv_topi (fun y_20 ey_20 => ?_)
              refine lv_icmp_eq (tgt := 85) hx hb dB_3_2_58.2.2.2.1 (by decide) (fun c_21 => ?_) (fun c_21 => ?_)
              · have t_21 : y_16.toInt = y_20.toInt := congrArg Int32.toInt c_21
                obtain ⟨y_22, ey_22⟩ : ∃ y : Int32, y = x3_10 + 2 := ⟨_, rfl⟩
                have ty_22 : y_22.toInt = x3_10.toInt + (2 : Int32).toInt := by rw [ey_22]; exact addI (by omega) (by omega)
                refine lv_iinc (v := y_22) (lv' := [(3, .int y_22), (2, .int r_9), (0, .ref mo), (1, .int a1)]) hx hb dB_3_2_59.2.1.2 hl (k := 0) rfl (by rw [ey_22]; rfl) (by decide) rfl (fun ls hl => ?_)
                refine lv_goto (tgt := 41) hx hb dB_3_2_59.2.2.1 (by decide) ?_
                exact ih_10 y_22 _ _ _ (by omega) (by first | with_reducible assumption | omega | assumption) (by first | with_reducible assumption | omega | assumption) ⟨hP, hD⟩ hS (lv_sub hl [0, 1, 2, 3] rfl)
              · have t_21 : ¬ y_16.toInt = y_20.toInt := fun h => c_21 (Int32.toInt_inj.mp h)
                refine lv_aload_n hx hb dB_3_2_58.2.2.2.2 rfl (lv_at hl 2 rfl) ?_
                refine lv_iload_n hx hb dB_3_2_59.1.1.1 rfl (lv_at hl 0 rfl) ?_
                refine ct_R hP hD [ob12_0_ mo 0 s1 t2 s3 s4 g5 g6 g7 g8 g9 g10 s11 g12 g13 g14 g15 g16 g17 g18 g19 g20 s21 g22 g23 g24 s25 s26 s27 s28 g29 g30 g31 g32 g33, ai_ cy g5 40 f5, ai_ cy g6 40 f6, ai_ cy g7 40 f7, ai_ cy g8 40 f8, az_ cy g10 40 f10] [0, 1, 2, 3, 4, 5] (by decide) rfl (fun hPc hDw => ?_)
                have hFc := va_free (wc := []) hD hS hA [] rfl
                refine va_calli (va_runV (As := [.int x3_10]) (rest := []) ⟨hx, hb, hml, hown, hts⟩ (c_X12_sizeOf l D cy H.size mo g5 g6 g7 g8 g9 g10 g12 g13 g14 g15 g16 g17 g18 g19 g20 g22 g23 g24 g29 g30 g31 g32 g33 (0 : Int32) s1 s3 s4 s11 s21 s25 s26 s27 s28 t2 f5 f6 f7 f8 f10 x3_10 (by first | with_reducible assumption | omega | assumption)) (cwV 1 hts gX12_weak_X12_sizeOf rfl rfl rfl ⟨rfl, hd_X12_sizeOf⟩ ⟨Nat.le_of_ble_eq_true rfl, Nat.le_of_ble_eq_true rfl⟩) ⟨bl_, va_recvX hK.1 hP (ci := 12) (q0 := 0) rfl rfl, fun U hU hW => ⟨rfl, by rw [hU], by rw [hU]; exact hPc, kk_mv hW hK, hDw⟩⟩ rfl rfl hl.1 rfl (lv_room (Nat.le_of_ble_eq_true rfl)) dB_3_2_59.1.1.2 ⟨Nat.le_of_ble_eq_true rfl, Nat.le_of_ble_eq_true rfl⟩) hS (fun q _ h => hFc q h) hFc (fun r_23 u t H locs ht hvm hw hB hz1 hk1 hS => ?_)
                have hP : va_P D vwCl _ H := ro_keep hP hk1
                refine lv_iload_n hx hb dB_3_2_59.1.2.1 rfl (lv_at hl 1 rfl) ?_
                refine lv_icmp_ne (tgt := 85) hx hb dB_3_2_59.1.2.2.1 (by decide) (fun c_24 => ?_) (fun c_24 => ?_)
                · have t_24 : ¬ r_23.toInt = r_9.toInt := fun h => c_24 (Int32.toInt_inj.mp h)
                  obtain ⟨y_25, ey_25⟩ : ∃ y : Int32, y = x3_10 + 2 := ⟨_, rfl⟩
                  have ty_25 : y_25.toInt = x3_10.toInt + (2 : Int32).toInt := by rw [ey_25]; exact addI (by omega) (by omega)
                  refine lv_iinc (v := y_25) (lv' := [(3, .int y_25), (2, .int r_9), (0, .ref mo), (1, .int a1)]) hx hb dB_3_2_59.2.1.2 hl (k := 0) rfl (by rw [ey_25]; rfl) (by decide) rfl (fun ls hl => ?_)
                  refine lv_goto (tgt := 41) hx hb dB_3_2_59.2.2.1 (by decide) ?_
                  exact ih_10 y_25 _ _ _ (by omega) (by first | with_reducible assumption | omega | assumption) (by first | with_reducible assumption | omega | assumption) ⟨hP, hD⟩ hS (lv_sub hl [0, 1, 2, 3] rfl)
                · have t_24 : r_23.toInt = r_9.toInt := congrArg Int32.toInt c_24
                  refine lv_iconst (v := 1) hx hb dB_3_2_59.1.2.2.2 (by decide) ?_
                  rw [hQ]
                  exact W.iret (v := 1) hx hb hr (fun t ht hW => ⟨⟨1, (), rfl, trivial, by rw [ht]; exact hP, hD⟩, hS.F ht⟩) hS.2.2 dB_3_2_59.2.1.1
        · have t_8 : ¬ y_7.toInt = (0 : Int32).toInt := fun h => c_8 (Int32.toInt_inj.mp h)
          refine lv_bipush (v := (-2)) hx hb dB_3_2_57.1.1.1.2 (by decide) ?_
          rw [hQ]
          exact W.iret (v := (-2)) hx hb hr (fun t ht hW => ⟨⟨(-2), (), rfl, trivial, by rw [ht]; exact hP, hD⟩, hS.F ht⟩) hS.2.2 dB_3_2_57.1.1.2.1
    · exact absurd c_3 (by decide)
  · have e_ := e_.symm
    subst e_
    refine lv_if_ne (tgt := 15) hx hb dB_3_2_56.1.2.2.1 (by decide) (fun c_26 => ?_) (fun c_26 => ?_)
    · exact absurd c_26 (by decide)
    · have _ := c_26
      refine lv_iconst (v := (-1)) hx hb dB_3_2_56.1.2.2.2 (by decide) ?_
      rw [hQ]
      exact W.iret (v := (-1)) hx hb hr (fun t ht hW => ⟨⟨(-1), (), rfl, trivial, by rw [ht]; exact hP, hD⟩, hS.F ht⟩) hS.2.2 dB_3_2_56.2.1.1.1
end

section
set_option maxHeartbeats 4000000 in
set_option maxRecDepth 100000 in
theorem c_X12_part (l : Launch) (D : va_G) (cy : Nat → ClassId) (sz : Nat) (mo : Nat) (g5 : Nat) (g6 : Nat) (g7 : Nat) (g8 : Nat) (g9 : Nat) (g10 : Nat) (g12 : Nat) (g13 : Nat) (g14 : Nat) (g15 : Nat) (g16 : Nat) (g17 : Nat) (g18 : Nat) (g19 : Nat) (g20 : Nat) (g22 : Nat) (g23 : Nat) (g24 : Nat) (g29 : Nat) (g30 : Nat) (g31 : Nat) (g32 : Nat) (g33 : Nat) (s0 : Int32) (s1 : Int32) (s3 : Int32) (s4 : Int32) (s11 : Int32) (s21 : Int32) (s25 : Int32) (s26 : Int32) (s27 : Int32) (s28 : Int32) (t2 : Int64) (f5 : Nat → Int32) (f6 : Nat → Int32) (f7 : Nat → Int32) (f8 : Nat → Int32) (f10 : Nat → Int32) (a1 : Int32) (a2 : Int32) (hN : 0 ≤ s4.toInt ∧ s4.toInt ≤ 40) (hPl : 0 ≤ s3.toInt ∧ s3.toInt ≤ 12) : Met l yX12_part wsX12_part ({ frames := 4, cells := 0, slots := 0, locals := 96 }) (va_Pc [.ref mo, .int a1, .int a2] (fun U => U.heap.size = sz ∧ va_P D vwCl [ob12_0_ mo s0 s1 t2 s3 s4 g5 g6 g7 g8 g9 g10 s11 g12 g13 g14 g15 g16 g17 g18 g19 g20 s21 g22 g23 g24 s25 s26 s27 s28 g29 g30 g31 g32 g33, ai_ cy g5 40 f5, ai_ cy g6 40 f6, ai_ cy g7 40 f7, ai_ cy g8 40 f8, az_ cy g10 40 f10] U.heap ∧ kk_ D cy U ∧ va_D (fun _ => True) [ob12_0_ mo s0 s1 t2 s3 s4 g5 g6 g7 g8 g9 g10 s11 g12 g13 g14 g15 g16 g17 g18 g19 g20 s21 g22 g23 g24 s25 s26 s27 s28 g29 g30 g31 g32 g33, ai_ cy g5 40 f5, ai_ cy g6 40 f6, ai_ cy g7 40 f7, ai_ cy g8 40 f8, az_ cy g10 40 f10])) (va_Qi (fun (r : Int32) (_ : Unit) => True) (fun (_ : Unit) (t : State) => va_P D vwCl [ob12_0_ mo 0 s1 t2 s3 s4 g5 g6 g7 g8 g9 g10 s11 g12 g13 g14 g15 g16 g17 g18 g19 g20 s21 g22 g23 g24 s25 s26 s27 s28 g29 g30 g31 g32 g33, ai_ cy g5 40 f5, ai_ cy g6 40 f6, ai_ cy g7 40 f7, ai_ cy g8 40 f8, az_ cy g10 40 f10] t.heap ∧ va_D (va_A [ob12_0_ mo s0 s1 t2 s3 s4 g5 g6 g7 g8 g9 g10 s11 g12 g13 g14 g15 g16 g17 g18 g19 g20 s21 g22 g23 g24 s25 s26 s27 s28 g29 g30 g31 g32 g33, ai_ cy g5 40 f5, ai_ cy g6 40 f6, ai_ cy g7 40 f7, ai_ cy g8 40 f8, az_ cy g10 40 f10] sz) [ob12_0_ mo 0 s1 t2 s3 s4 g5 g6 g7 g8 g9 g10 s11 g12 g13 g14 g15 g16 g17 g18 g19 g20 s21 g22 g23 g24 s25 s26 s27 s28 g29 g30 g31 g32 g33, ai_ cy g5 40 f5, ai_ cy g6 40 f6, ai_ cy g7 40 f7, ai_ cy g8 40 f8, az_ cy g10 40 f10]) (va_A [ob12_0_ mo s0 s1 t2 s3 s4 g5 g6 g7 g8 g9 g10 s11 g12 g13 g14 g15 g16 g17 g18 g19 g20 s21 g22 g23 g24 s25 s26 s27 s28 g29 g30 g31 g32 g33, ai_ cy g5 40 f5, ai_ cy g6 40 f6, ai_ cy g7 40 f7, ai_ cy g8 40 f8, az_ cy g10 40 f10] sz)) 0 0 (va_A [ob12_0_ mo s0 s1 t2 s3 s4 g5 g6 g7 g8 g9 g10 s11 g12 g13 g14 g15 g16 g17 g18 g19 g20 s21 g22 g23 g24 s25 s26 s27 s28 g29 g30 g31 g32 g33, ai_ cy g5 40 f5, ai_ cy g6 40 f6, ai_ cy g7 40 f7, ai_ cy g8 40 f8, az_ cy g10 40 f10] sz) := by
  refine ofQ (cc := cX12_part) (maxL := 8) (ret := (some .int)) (by decide) rfl ?_
  intro p e s m args below meth c s₁ Q hQ B hml hv
  obtain ⟨rfl, hsz, hP, hK, hD0⟩ := hv
  have hx := B.exec
  have hb := B.bytes
  have hr := B.returns
  have hts := atoms_spec (ws := wsX12_part) B.pre
  have hown : s.vm.findClass RX12 = some m.cls := by have h_ := findClass_of_methodNamed B.named; exact h_
  have hlocks := B.notSynchronized
  subst hsz
  have hD := hD0.self (sz := s.heap.size)
  generalize hAe : va_A [ob12_0_ mo s0 s1 t2 s3 s4 g5 g6 g7 g8 g9 g10 s11 g12 g13 g14 g15 g16 g17 g18 g19 g20 s21 g22 g23 g24 s25 s26 s27 s28 g29 g30 g31 g32 g33, ai_ cy g5 40 f5, ai_ cy g6 40 f6, ai_ cy g7 40 f7, ai_ cy g8 40 f8, az_ cy g10 40 f10] s.heap.size = A at hD hQ
  have hA : ∀ q : Nat, s.heap.size ≤ q → A q := fun q h => by rw [← hAe]; exact Or.inr h
  have hS : va_S A s.heap s.heap [] := va_S.rf
  have hl := lv_entry ([.ref mo, .int a1, .int a2]) (n := 8) (Nat.le_of_ble_eq_true rfl)
  rw [lg_entry_eq]
  generalize (lg_sl ([.ref mo, .int a1, .int a2]) ++ List.replicate (8 - (lg_sl ([.ref mo, .int a1, .int a2])).length) Slot.unset).toArray = ls at hl ⊢
  have hl : lv_has ls 8 [(0, .ref mo), (1, .int a1), (2, .int a2)] := hl
  have zm9 : ((-9) : Int32).toInt = -9 := by decide
  have zm2 : ((-2) : Int32).toInt = -2 := by decide
  have zm1 : ((-1) : Int32).toInt = -1 := by decide
  have z0 : (0 : Int32).toInt = 0 := by decide
  have z1 : (1 : Int32).toInt = 1 := by decide
  refine lv_aload_n hx hb dB_3_2_37.1.1.1.1 rfl (lv_at hl 0 rfl) ?_
  refine lv_iconst (v := 0) hx hb dB_3_2_37.1.1.1.2 (by decide) ?_
  refine va_put (ci := 12) (v := .int 0) (ty := .int) (C := RX12) (T := TX12) (N := 34) hx hb hts (fun _ h => List.mem_cons_of_mem _ (List.mem_append_right _ h)) tyX12 tyX12_ok nmX12 hown hK.1 hP hD hS 0 rfl rfl 0 (by decide) (hts (.fieldLink RX12 85 "CutAtlasModel" "thrown" "I") (List.mem_of_getElem? (i := 1) rfl)) (fun _ h9 => h9) rfl (by decide +kernel) rfl rfl (Nat.le_of_ble_eq_true rfl) dB_3_2_37.1.1.2.1 (fun H locs hP hD hS => ?_)
  refine pd_K [ob12_0_ mo 0 s1 t2 s3 s4 g5 g6 g7 g8 g9 g10 s11 g12 g13 g14 g15 g16 g17 g18 g19 g20 s21 g22 g23 g24 s25 s26 s27 s28 g29 g30 g31 g32 g33, ai_ cy g5 40 f5, ai_ cy g6 40 f6, ai_ cy g7 40 f7, ai_ cy g8 40 f8, az_ cy g10 40 f10] hP hD (fun hP hD => ?_)
  refine lv_iload_n hx hb dB_3_2_37.1.1.2.2 rfl (lv_at hl 1 rfl) ?_
  refine lv_if_ge (tgt := 11) hx hb dB_3_2_37.1.2.1.1 (by decide) (fun c_1 => ?_) (fun c_1 => ?_)
  · have t_1 : (0 : Int32).toInt ≤ a1.toInt := Int32.le_iff_toInt_le.mp c_1
    refine lv_aload_n hx hb dB_3_2_37.1.2.2.2 rfl (lv_at hl 0 rfl) ?_
    refine ct_R hP hD [ob12_0_ mo 0 s1 t2 s3 s4 g5 g6 g7 g8 g9 g10 s11 g12 g13 g14 g15 g16 g17 g18 g19 g20 s21 g22 g23 g24 s25 s26 s27 s28 g29 g30 g31 g32 g33, ai_ cy g5 40 f5, az_ cy g10 40 f10] [0, 1, 5] (by decide) rfl (fun hPc hDw => ?_)
    have hFc := va_free (wc := []) hD hS hA [] rfl
    refine va_calli (va_runV (As := []) (rest := []) ⟨hx, hb, hml, hown, hts⟩ (c_X12_isWhole l D cy H.size mo g5 g6 g7 g8 g9 g10 g12 g13 g14 g15 g16 g17 g18 g19 g20 g22 g23 g24 g29 g30 g31 g32 g33 (0 : Int32) s1 s3 s4 s11 s21 s25 s26 s27 s28 t2 f5 f10 (by first | with_reducible assumption | omega | assumption)) (cwV 0 hts gX12_part_X12_isWhole rfl rfl rfl ⟨rfl, hd_X12_isWhole⟩ ⟨Nat.le_of_ble_eq_true rfl, Nat.le_of_ble_eq_true rfl⟩) ⟨bl_, va_recvX hK.1 hP (ci := 12) (q0 := 0) rfl rfl, fun U hU hW => ⟨rfl, by rw [hU], by rw [hU]; exact hPc, kk_mv hW hK, hDw⟩⟩ rfl rfl hl.1 rfl (lv_room (Nat.le_of_ble_eq_true rfl)) dB_3_2_37.2.1.1.1 ⟨Nat.le_of_ble_eq_true rfl, Nat.le_of_ble_eq_true rfl⟩) hS (fun q _ h => hFc q h) hFc (fun r_2 u t H locs ht hvm hw hB hz1 hk1 hS => ?_)
    have hP : va_P D vwCl _ H := ro_keep hP hk1
    have f0_r_2 := hw
    refine lv_if_ne (tgt := 21) hx hb dB_3_2_37.2.1.1.2 (by decide) (fun c_3 => ?_) (fun c_3 => ?_)
    · have t_3 : ¬ r_2.toInt = (0 : Int32).toInt := fun h => c_3 (Int32.toInt_inj.mp h)
      refine lv_iload_n hx hb dB_3_2_37.2.2.1.1 rfl (lv_at hl 2 rfl) ?_
      refine lv_iconst (v := (-1)) hx hb dB_3_2_37.2.2.1.2 (by decide) ?_
      refine lv_icmp_eq (tgt := 36) hx hb dB_3_2_37.2.2.2.1 (by decide) (fun c_4 => ?_) (fun c_4 => ?_)
      · have t_4 : a2.toInt = ((-1) : Int32).toInt := congrArg Int32.toInt c_4
        refine lv_iconst (v := 0) hx hb dB_3_2_38.1.2.1.2 (by decide) ?_
        refine lv_istore_n (lv' := [(3, .int 0), (0, .ref mo), (1, .int a1), (2, .int a2)]) hx hb dB_3_2_38.1.2.2.1 rfl hl (by decide) rfl (fun ls hl => ?_)
        refine lv_bipush (v := (-9)) hx hb dB_3_2_38.1.2.2.2 (by decide) ?_
        refine lv_istore (lv' := [(4, .int (-9)), (3, .int 0), (0, .ref mo), (1, .int a1), (2, .int a2)]) hx hb dB_3_2_38.2.1.1.1 hl (by decide) rfl (fun ls hl => ?_)
        refine lv_iconst (v := 0) hx hb dB_3_2_38.2.1.1.2 (by decide) ?_
        refine lv_istore (lv' := [(5, .int 0), (4, .int (-9)), (3, .int 0), (0, .ref mo), (1, .int a1), (2, .int a2)]) hx hb dB_3_2_38.2.1.2.1 hl (by decide) rfl (fun ls hl => ?_)
        suffices LOOP_5 : ∀ (n_5 : Nat) (x5_5 : Int32) (x4_5 : Int32) (x3_5 : Int32) (H : Heap) (locs : List Loc) (ls : Array Slot), s3.toInt - x5_5.toInt < (n_5 : Int) → (0 ≤ x5_5.toInt) → (x5_5.toInt ≤ s3.toInt) → pd_2 D vwCl A [ob12_0_ mo 0 s1 t2 s3 s4 g5 g6 g7 g8 g9 g10 s11 g12 g13 g14 g15 g16 g17 g18 g19 g20 s21 g22 g23 g24 s25 s26 s27 s28 g29 g30 g31 g32 g33, ai_ cy g5 40 f5, ai_ cy g6 40 f6, ai_ cy g7 40 f7, ai_ cy g8 40 f8, az_ cy g10 40 f10] H → va_S A s.heap H locs → lv_has ls 8 [(5, .int x5_5), (4, .int x4_5), (3, .int x3_5), (0, .ref mo), (1, .int a1), (2, .int a2)] → W p l e ({ frames := 4, cells := 0, slots := 0, locals := 96 } : Room) s m (([.ref mo, .int a1, .int a2] : List Value).toArray) below meth c H locs 0 0 Q (F0 m 45 ls []) from LOOP_5 ((s3.toInt - (0 : Int32).toInt).toNat + 1) (0 : Int32) ((-9) : Int32) (0 : Int32) _ _ _ (by omega) (by first | with_reducible assumption | omega | assumption) (by first | with_reducible assumption | omega | assumption) ⟨hP, hD⟩ hS (lv_sub hl [0, 1, 2, 3, 4, 5] rfl)
        intro n_5
        induction n_5 with
        | zero =>
          intro x5_5 x4_5 x3_5 H locs ls hm v0_5 v1_5 hPD hS hl; obtain ⟨hP, hD⟩ := hPD
          exact absurd hm (by omega)
        | succ n_5 ih_5 =>
          intro x5_5 x4_5 x3_5 H locs ls hm v0_5 v1_5 hPD hS hl; obtain ⟨hP, hD⟩ := hPD
          refine lv_iload hx hb dB_3_2_38.2.1.2.2 (lv_at hl 0 rfl) ?_
          refine lv_aload_n hx hb dB_3_2_38.2.2.1.1 rfl (lv_at hl 3 rfl) ?_
          refine va_get (ci := 12) (v := .int s3) (C := RX12) (T := TX12) (N := 34) hx hb hts (fun _ h => List.mem_cons_of_mem _ (List.mem_append_right _ h)) hown hK.1 hP 0 rfl rfl 3 (by decide) (hts (.fieldLink RX12 88 "CutAtlasModel" "places" "I") (List.mem_of_getElem? (i := 2) rfl)) (fun _ h9 => h9) rfl dB_3_2_38.2.2.1.2 ?_
          refine lv_icmp_ge (tgt := 167) hx hb dB_3_2_38.2.2.2.1 (by decide) (fun c_6 => ?_) (fun c_6 => ?_)
          · have t_6 : s3.toInt ≤ x5_5.toInt := Int32.le_iff_toInt_le.mp c_6
            refine lv_iload_n hx hb dB_3_2_42.2.1.1.2 rfl (lv_at hl 5 rfl) ?_
            refine lv_iconst (v := (-1)) hx hb dB_3_2_42.2.1.2.1 (by decide) ?_
            refine lv_icmp_ne (tgt := 176) hx hb dB_3_2_42.2.1.2.2 (by decide) (fun c_7 => ?_) (fun c_7 => ?_)
            · have t_7 : ¬ a2.toInt = ((-1) : Int32).toInt := fun h => c_7 (Int32.toInt_inj.mp h)
              refine lv_iload hx hb dB_3_2_42.2.2.2.1 (lv_at hl 1 rfl) ?_
              rw [hQ]
              exact W.iret (v := x4_5) hx hb hr (fun t ht hW => ⟨⟨x4_5, (), rfl, trivial, by rw [ht]; exact hP, hD⟩, hS.F ht⟩) hS.2.2 dB_3_2_42.2.2.2.2
            · have t_7 : a2.toInt = ((-1) : Int32).toInt := congrArg Int32.toInt c_7
              refine lv_iload_n hx hb dB_3_2_42.2.2.1.1 rfl (lv_at hl 2 rfl) ?_
              refine lv_goto (tgt := 178) hx hb dB_3_2_42.2.2.1.2 (by decide) ?_
              rw [hQ]
              exact W.iret (v := x3_5) hx hb hr (fun t ht hW => ⟨⟨x3_5, (), rfl, trivial, by rw [ht]; exact hP, hD⟩, hS.F ht⟩) hS.2.2 dB_3_2_42.2.2.2.2
          · have t_6 : ¬ s3.toInt ≤ x5_5.toInt := fun h => c_6 (Int32.le_iff_toInt_le.mpr h)
            refine lv_iconst (v := 1) hx hb dB_3_2_38.2.2.2.2 (by decide) ?_
            refine lv_istore (lv' := [(6, .int 1), (5, .int x5_5), (4, .int x4_5), (3, .int x3_5), (0, .ref mo), (1, .int a1), (2, .int a2)]) hx hb dB_3_2_39.1.1.1.1 hl (by decide) rfl (fun ls hl => ?_)
            refine lv_iconst (v := 0) hx hb dB_3_2_39.1.1.1.2 (by decide) ?_
            refine lv_istore (lv' := [(7, .int 0), (6, .int 1), (5, .int x5_5), (4, .int x4_5), (3, .int x3_5), (0, .ref mo), (1, .int a1), (2, .int a2)]) hx hb dB_3_2_39.1.1.2.1 hl (by decide) rfl (fun ls hl => ?_)
            suffices LOOP_8 : ∀ (n_8 : Nat) (x7_8 : Int32) (x6_8 : Int32) (H : Heap) (locs : List Loc) (ls : Array Slot), x5_5.toInt - x7_8.toInt < (n_8 : Int) → (0 ≤ x7_8.toInt) → (x7_8.toInt ≤ x5_5.toInt) → pd_2 D vwCl A [ob12_0_ mo 0 s1 t2 s3 s4 g5 g6 g7 g8 g9 g10 s11 g12 g13 g14 g15 g16 g17 g18 g19 g20 s21 g22 g23 g24 s25 s26 s27 s28 g29 g30 g31 g32 g33, ai_ cy g5 40 f5, ai_ cy g6 40 f6, ai_ cy g7 40 f7, ai_ cy g8 40 f8, az_ cy g10 40 f10] H → va_S A s.heap H locs → lv_has ls 8 [(7, .int x7_8), (6, .int x6_8), (5, .int x5_5), (4, .int x4_5), (3, .int x3_5), (0, .ref mo), (1, .int a1), (2, .int a2)] → W p l e ({ frames := 4, cells := 0, slots := 0, locals := 96 } : Room) s m (([.ref mo, .int a1, .int a2] : List Value).toArray) below meth c H locs 0 0 Q (F0 m 60 ls []) from LOOP_8 ((x5_5.toInt - (0 : Int32).toInt).toNat + 1) (0 : Int32) (1 : Int32) _ _ _ (by omega) (by first | with_reducible assumption | omega | assumption) (by first | with_reducible assumption | omega | assumption) ⟨hP, hD⟩ hS (lv_sub hl [0, 1, 2, 3, 4, 5, 6, 7] rfl)
            intro n_8
            induction n_8 with
            | zero =>
              intro x7_8 x6_8 H locs ls hm v0_8 v1_8 hPD hS hl; obtain ⟨hP, hD⟩ := hPD
              exact absurd hm (by omega)
            | succ n_8 ih_8 =>
              intro x7_8 x6_8 H locs ls hm v0_8 v1_8 hPD hS hl; obtain ⟨hP, hD⟩ := hPD
              refine lv_iload hx hb dB_3_2_39.1.1.2.2 (lv_at hl 0 rfl) ?_
              refine lv_iload hx hb dB_3_2_39.1.2.1.1 (lv_at hl 2 rfl) ?_
              refine lv_icmp_ge (tgt := 95) hx hb dB_3_2_39.1.2.1.2 (by decide) (fun c_9 => ?_) (fun c_9 => ?_)
              · have t_9 : x5_5.toInt ≤ x7_8.toInt := Int32.le_iff_toInt_le.mp c_9
                refine lv_iload hx hb dB_3_2_40.1.2.1.1 (lv_at hl 2 rfl) ?_
                refine lv_iload_n hx hb dB_3_2_40.1.2.1.2 rfl (lv_at hl 7 rfl) ?_
                refine lv_icmp_eq (tgt := 116) hx hb dB_3_2_40.1.2.2.1 (by decide) (fun c_10 => ?_) (fun c_10 => ?_)
                · have t_10 : x5_5.toInt = a2.toInt := congrArg Int32.toInt c_10
                  refine lv_iconst (v := 1) hx hb dB_3_2_40.2.2.2.2 (by decide) ?_
                  refine lv_goto (tgt := 121) hx hb dB_3_2_41.1.1.1.1 (by decide) ?_
                  refine lv_istore (lv' := [(7, .int 1), (6, .int x6_8), (5, .int x5_5), (4, .int x4_5), (3, .int x3_5), (0, .ref mo), (1, .int a1), (2, .int a2)]) hx hb dB_3_2_41.1.1.2.1 hl (by decide) rfl (fun ls hl => ?_)
                  refine lv_iload hx hb dB_3_2_41.1.1.2.2 (lv_at hl 1 rfl) ?_
                  refine lv_if_eq (tgt := 144) hx hb dB_3_2_41.1.2.1.1 (by decide) (fun c_11 => ?_) (fun c_11 => ?_)
                  · have t_11 : x6_8.toInt = (0 : Int32).toInt := congrArg Int32.toInt c_11
                    refine lv_iload hx hb dB_3_2_41.2.2.1.1 (lv_at hl 3 rfl) ?_
                    refine lv_istore (lv' := [(4, .int x4_5), (7, .int 1), (6, .int x6_8), (5, .int x5_5), (3, .int x3_5), (0, .ref mo), (1, .int a1), (2, .int a2)]) hx hb dB_3_2_41.2.2.1.2 hl (by decide) rfl (fun ls hl => ?_)
                    refine lv_iload_n hx hb dB_3_2_41.2.2.2.1 rfl (lv_at hl 4 rfl) ?_
                    refine lv_iload hx hb dB_3_2_41.2.2.2.2 (lv_at hl 2 rfl) ?_
                    refine lv_if_eq (tgt := 158) hx hb dB_3_2_42.1.1.1 (by decide) (fun c_12 => ?_) (fun c_12 => ?_)
                    · have t_12 : x6_8.toInt = (0 : Int32).toInt := congrArg Int32.toInt c_12
                      refine lv_iconst (v := 0) hx hb dB_3_2_42.1.2.1.1 (by decide) ?_
                      refine lv_iadd hx hb dB_3_2_42.1.2.1.2 ?_
                      refine lv_topi (fun y_13 ey_13 => ?_)
                      refine lv_istore_n (lv' := [(3, .int y_13), (4, .int x4_5), (7, .int 1), (6, .int x6_8), (5, .int x5_5), (0, .ref mo), (1, .int a1), (2, .int a2)]) hx hb dB_3_2_42.1.2.2.1 rfl hl (by decide) rfl (fun ls hl => ?_)
                      obtain ⟨y_14, ey_14⟩ : ∃ y : Int32, y = x5_5 + 1 := ⟨_, rfl⟩
                      have ty_14 : y_14.toInt = x5_5.toInt + (1 : Int32).toInt := by rw [ey_14]; exact addI (by omega) (by omega)
                      refine lv_iinc (v := y_14) (lv' := [(5, .int y_14), (3, .int y_13), (4, .int x4_5), (7, .int 1), (6, .int x6_8), (0, .ref mo), (1, .int a1), (2, .int a2)]) hx hb dB_3_2_42.1.2.2.2 hl (k := 4) rfl (by rw [ey_14]; rfl) (by decide) rfl (fun ls hl => ?_)
                      refine lv_goto (tgt := 45) hx hb dB_3_2_42.2.1.1.1 (by decide) ?_
                      exact ih_5 y_14 x4_5 y_13 _ _ _ (by omega) (by first | with_reducible assumption | omega | assumption) (by first | with_reducible assumption | omega | assumption) ⟨hP, hD⟩ hS (lv_sub hl [0, 2, 1, 5, 6, 7] rfl)
                    · have t_12 : ¬ x6_8.toInt = (0 : Int32).toInt := fun h => c_12 (Int32.toInt_inj.mp h)
                      exfalso; omega
                  · have t_11 : ¬ x6_8.toInt = (0 : Int32).toInt := fun h => c_11 (Int32.toInt_inj.mp h)
                    refine lv_iload hx hb dB_3_2_41.1.2.1.2 (lv_at hl 0 rfl) ?_
                    refine lv_if_eq (tgt := 144) hx hb dB_3_2_41.1.2.2.1 (by decide) (fun c_15 => ?_) (fun c_15 => ?_)
                    · exact absurd c_15 (by decide)
                    · have _ := c_15
                      refine lv_iload hx hb dB_3_2_41.1.2.2.2 (lv_at hl 3 rfl) ?_
                      refine lv_bipush (v := (-9)) hx hb dB_3_2_41.2.1.1.1 (by decide) ?_
                      refine lv_icmp_ne (tgt := 144) hx hb dB_3_2_41.2.1.1.2 (by decide) (fun c_16 => ?_) (fun c_16 => ?_)
                      · have t_16 : ¬ x4_5.toInt = ((-9) : Int32).toInt := fun h => c_16 (Int32.toInt_inj.mp h)
                        refine lv_iload hx hb dB_3_2_41.2.2.1.1 (lv_at hl 3 rfl) ?_
                        refine lv_istore (lv' := [(4, .int x4_5), (7, .int 1), (6, .int x6_8), (5, .int x5_5), (3, .int x3_5), (0, .ref mo), (1, .int a1), (2, .int a2)]) hx hb dB_3_2_41.2.2.1.2 hl (by decide) rfl (fun ls hl => ?_)
                        refine lv_iload_n hx hb dB_3_2_41.2.2.2.1 rfl (lv_at hl 4 rfl) ?_
                        refine lv_iload hx hb dB_3_2_41.2.2.2.2 (lv_at hl 2 rfl) ?_
                        refine lv_if_eq (tgt := 158) hx hb dB_3_2_42.1.1.1 (by decide) (fun c_17 => ?_) (fun c_17 => ?_)
                        · have t_17 : x6_8.toInt = (0 : Int32).toInt := congrArg Int32.toInt c_17
                          refine lv_iconst (v := 0) hx hb dB_3_2_42.1.2.1.1 (by decide) ?_
                          refine lv_iadd hx hb dB_3_2_42.1.2.1.2 ?_
                          refine lv_topi (fun y_18 ey_18 => ?_)
                          refine lv_istore_n (lv' := [(3, .int y_18), (4, .int x4_5), (7, .int 1), (6, .int x6_8), (5, .int x5_5), (0, .ref mo), (1, .int a1), (2, .int a2)]) hx hb dB_3_2_42.1.2.2.1 rfl hl (by decide) rfl (fun ls hl => ?_)
                          obtain ⟨y_19, ey_19⟩ : ∃ y : Int32, y = x5_5 + 1 := ⟨_, rfl⟩
                          have ty_19 : y_19.toInt = x5_5.toInt + (1 : Int32).toInt := by rw [ey_19]; exact addI (by omega) (by omega)
                          refine lv_iinc (v := y_19) (lv' := [(5, .int y_19), (3, .int y_18), (4, .int x4_5), (7, .int 1), (6, .int x6_8), (0, .ref mo), (1, .int a1), (2, .int a2)]) hx hb dB_3_2_42.1.2.2.2 hl (k := 4) rfl (by rw [ey_19]; rfl) (by decide) rfl (fun ls hl => ?_)
                          refine lv_goto (tgt := 45) hx hb dB_3_2_42.2.1.1.1 (by decide) ?_
                          exact ih_5 y_19 x4_5 y_18 _ _ _ (by omega) (by first | with_reducible assumption | omega | assumption) (by first | with_reducible assumption | omega | assumption) ⟨hP, hD⟩ hS (lv_sub hl [0, 2, 1, 5, 6, 7] rfl)
                        · have t_17 : ¬ x6_8.toInt = (0 : Int32).toInt := fun h => c_17 (Int32.toInt_inj.mp h)
                          refine lv_iconst (v := 1) hx hb dB_3_2_42.1.1.2.1 (by decide) ?_
                          refine lv_goto (tgt := 159) hx hb dB_3_2_42.1.1.2.2 (by decide) ?_
                          refine lv_iadd hx hb dB_3_2_42.1.2.1.2 ?_
                          refine lv_topi (fun y_20 ey_20 => ?_)
                          refine lv_istore_n (lv' := [(3, .int y_20), (4, .int x4_5), (7, .int 1), (6, .int x6_8), (5, .int x5_5), (0, .ref mo), (1, .int a1), (2, .int a2)]) hx hb dB_3_2_42.1.2.2.1 rfl hl (by decide) rfl (fun ls hl => ?_)
                          obtain ⟨y_21, ey_21⟩ : ∃ y : Int32, y = x5_5 + 1 := ⟨_, rfl⟩
                          have ty_21 : y_21.toInt = x5_5.toInt + (1 : Int32).toInt := by rw [ey_21]; exact addI (by omega) (by omega)
                          refine lv_iinc (v := y_21) (lv' := [(5, .int y_21), (3, .int y_20), (4, .int x4_5), (7, .int 1), (6, .int x6_8), (0, .ref mo), (1, .int a1), (2, .int a2)]) hx hb dB_3_2_42.1.2.2.2 hl (k := 4) rfl (by rw [ey_21]; rfl) (by decide) rfl (fun ls hl => ?_)
                          refine lv_goto (tgt := 45) hx hb dB_3_2_42.2.1.1.1 (by decide) ?_
                          exact ih_5 y_21 x4_5 y_20 _ _ _ (by omega) (by first | with_reducible assumption | omega | assumption) (by first | with_reducible assumption | omega | assumption) ⟨hP, hD⟩ hS (lv_sub hl [0, 2, 1, 5, 6, 7] rfl)
                      · have t_16 : x4_5.toInt = ((-9) : Int32).toInt := congrArg Int32.toInt c_16
                        refine lv_iload_n hx hb dB_3_2_41.2.1.2.1 rfl (lv_at hl 4 rfl) ?_
                        refine lv_goto (tgt := 146) hx hb dB_3_2_41.2.1.2.2 (by decide) ?_
                        refine lv_istore (lv' := [(4, .int x3_5), (7, .int 1), (6, .int x6_8), (5, .int x5_5), (3, .int x3_5), (0, .ref mo), (1, .int a1), (2, .int a2)]) hx hb dB_3_2_41.2.2.1.2 hl (by decide) rfl (fun ls hl => ?_)
                        refine lv_iload_n hx hb dB_3_2_41.2.2.2.1 rfl (lv_at hl 4 rfl) ?_
                        refine lv_iload hx hb dB_3_2_41.2.2.2.2 (lv_at hl 2 rfl) ?_
                        refine lv_if_eq (tgt := 158) hx hb dB_3_2_42.1.1.1 (by decide) (fun c_22 => ?_) (fun c_22 => ?_)
                        · have t_22 : x6_8.toInt = (0 : Int32).toInt := congrArg Int32.toInt c_22
                          refine lv_iconst (v := 0) hx hb dB_3_2_42.1.2.1.1 (by decide) ?_
                          refine lv_iadd hx hb dB_3_2_42.1.2.1.2 ?_
                          refine lv_topi (fun y_23 ey_23 => ?_)
                          refine lv_istore_n (lv' := [(3, .int y_23), (4, .int x3_5), (7, .int 1), (6, .int x6_8), (5, .int x5_5), (0, .ref mo), (1, .int a1), (2, .int a2)]) hx hb dB_3_2_42.1.2.2.1 rfl hl (by decide) rfl (fun ls hl => ?_)
                          obtain ⟨y_24, ey_24⟩ : ∃ y : Int32, y = x5_5 + 1 := ⟨_, rfl⟩
                          have ty_24 : y_24.toInt = x5_5.toInt + (1 : Int32).toInt := by rw [ey_24]; exact addI (by omega) (by omega)
                          refine lv_iinc (v := y_24) (lv' := [(5, .int y_24), (3, .int y_23), (4, .int x3_5), (7, .int 1), (6, .int x6_8), (0, .ref mo), (1, .int a1), (2, .int a2)]) hx hb dB_3_2_42.1.2.2.2 hl (k := 4) rfl (by rw [ey_24]; rfl) (by decide) rfl (fun ls hl => ?_)
                          refine lv_goto (tgt := 45) hx hb dB_3_2_42.2.1.1.1 (by decide) ?_
                          exact ih_5 y_24 x3_5 y_23 _ _ _ (by omega) (by first | with_reducible assumption | omega | assumption) (by first | with_reducible assumption | omega | assumption) ⟨hP, hD⟩ hS (lv_sub hl [0, 2, 1, 5, 6, 7] rfl)
                        · have t_22 : ¬ x6_8.toInt = (0 : Int32).toInt := fun h => c_22 (Int32.toInt_inj.mp h)
                          refine lv_iconst (v := 1) hx hb dB_3_2_42.1.1.2.1 (by decide) ?_
                          refine lv_goto (tgt := 159) hx hb dB_3_2_42.1.1.2.2 (by decide) ?_
                          refine lv_iadd hx hb dB_3_2_42.1.2.1.2 ?_
                          refine lv_topi (fun y_25 ey_25 => ?_)
                          refine lv_istore_n (lv' := [(3, .int y_25), (4, .int x3_5), (7, .int 1), (6, .int x6_8), (5, .int x5_5), (0, .ref mo), (1, .int a1), (2, .int a2)]) hx hb dB_3_2_42.1.2.2.1 rfl hl (by decide) rfl (fun ls hl => ?_)
                          obtain ⟨y_26, ey_26⟩ : ∃ y : Int32, y = x5_5 + 1 := ⟨_, rfl⟩
                          have ty_26 : y_26.toInt = x5_5.toInt + (1 : Int32).toInt := by rw [ey_26]; exact addI (by omega) (by omega)
                          refine lv_iinc (v := y_26) (lv' := [(5, .int y_26), (3, .int y_25), (4, .int x3_5), (7, .int 1), (6, .int x6_8), (0, .ref mo), (1, .int a1), (2, .int a2)]) hx hb dB_3_2_42.1.2.2.2 hl (k := 4) rfl (by rw [ey_26]; rfl) (by decide) rfl (fun ls hl => ?_)
                          refine lv_goto (tgt := 45) hx hb dB_3_2_42.2.1.1.1 (by decide) ?_
                          exact ih_5 y_26 x3_5 y_25 _ _ _ (by omega) (by first | with_reducible assumption | omega | assumption) (by first | with_reducible assumption | omega | assumption) ⟨hP, hD⟩ hS (lv_sub hl [0, 2, 1, 5, 6, 7] rfl)
                · have t_10 : ¬ x5_5.toInt = a2.toInt := fun h => c_10 (Int32.toInt_inj.mp h)
                  refine lv_iload_n hx hb dB_3_2_40.1.2.2.2 rfl (lv_at hl 7 rfl) ?_
                  refine lv_if_lt (tgt := 120) hx hb dB_3_2_40.2.1.1.1 (by decide) (fun c_27 => ?_) (fun c_27 => ?_)
                  · have t_27 : a2.toInt < (0 : Int32).toInt := Int32.lt_iff_toInt_lt.mp c_27
                    refine lv_iconst (v := 0) hx hb dB_3_2_41.1.1.1.2 (by decide) ?_
                    refine lv_istore (lv' := [(7, .int 0), (6, .int x6_8), (5, .int x5_5), (4, .int x4_5), (3, .int x3_5), (0, .ref mo), (1, .int a1), (2, .int a2)]) hx hb dB_3_2_41.1.1.2.1 hl (by decide) rfl (fun ls hl => ?_)
                    refine lv_iload hx hb dB_3_2_41.1.1.2.2 (lv_at hl 1 rfl) ?_
                    refine lv_if_eq (tgt := 144) hx hb dB_3_2_41.1.2.1.1 (by decide) (fun c_28 => ?_) (fun c_28 => ?_)
                    · have t_28 : x6_8.toInt = (0 : Int32).toInt := congrArg Int32.toInt c_28
                      refine lv_iload hx hb dB_3_2_41.2.2.1.1 (lv_at hl 3 rfl) ?_
                      refine lv_istore (lv' := [(4, .int x4_5), (7, .int 0), (6, .int x6_8), (5, .int x5_5), (3, .int x3_5), (0, .ref mo), (1, .int a1), (2, .int a2)]) hx hb dB_3_2_41.2.2.1.2 hl (by decide) rfl (fun ls hl => ?_)
                      refine lv_iload_n hx hb dB_3_2_41.2.2.2.1 rfl (lv_at hl 4 rfl) ?_
                      refine lv_iload hx hb dB_3_2_41.2.2.2.2 (lv_at hl 2 rfl) ?_
                      refine lv_if_eq (tgt := 158) hx hb dB_3_2_42.1.1.1 (by decide) (fun c_29 => ?_) (fun c_29 => ?_)
                      · have t_29 : x6_8.toInt = (0 : Int32).toInt := congrArg Int32.toInt c_29
                        refine lv_iconst (v := 0) hx hb dB_3_2_42.1.2.1.1 (by decide) ?_
                        refine lv_iadd hx hb dB_3_2_42.1.2.1.2 ?_
                        refine lv_topi (fun y_30 ey_30 => ?_)
                        refine lv_istore_n (lv' := [(3, .int y_30), (4, .int x4_5), (7, .int 0), (6, .int x6_8), (5, .int x5_5), (0, .ref mo), (1, .int a1), (2, .int a2)]) hx hb dB_3_2_42.1.2.2.1 rfl hl (by decide) rfl (fun ls hl => ?_)
                        obtain ⟨y_31, ey_31⟩ : ∃ y : Int32, y = x5_5 + 1 := ⟨_, rfl⟩
                        have ty_31 : y_31.toInt = x5_5.toInt + (1 : Int32).toInt := by rw [ey_31]; exact addI (by omega) (by omega)
                        refine lv_iinc (v := y_31) (lv' := [(5, .int y_31), (3, .int y_30), (4, .int x4_5), (7, .int 0), (6, .int x6_8), (0, .ref mo), (1, .int a1), (2, .int a2)]) hx hb dB_3_2_42.1.2.2.2 hl (k := 4) rfl (by rw [ey_31]; rfl) (by decide) rfl (fun ls hl => ?_)
                        refine lv_goto (tgt := 45) hx hb dB_3_2_42.2.1.1.1 (by decide) ?_
                        exact ih_5 y_31 x4_5 y_30 _ _ _ (by omega) (by first | with_reducible assumption | omega | assumption) (by first | with_reducible assumption | omega | assumption) ⟨hP, hD⟩ hS (lv_sub hl [0, 2, 1, 5, 6, 7] rfl)
                      · have t_29 : ¬ x6_8.toInt = (0 : Int32).toInt := fun h => c_29 (Int32.toInt_inj.mp h)
                        exfalso; omega
                    · have t_28 : ¬ x6_8.toInt = (0 : Int32).toInt := fun h => c_28 (Int32.toInt_inj.mp h)
                      refine lv_iload hx hb dB_3_2_41.1.2.1.2 (lv_at hl 0 rfl) ?_
                      refine lv_if_eq (tgt := 144) hx hb dB_3_2_41.1.2.2.1 (by decide) (fun c_32 => ?_) (fun c_32 => ?_)
                      · have _ := c_32
                        refine lv_iload hx hb dB_3_2_41.2.2.1.1 (lv_at hl 3 rfl) ?_
                        refine lv_istore (lv' := [(4, .int x4_5), (7, .int 0), (6, .int x6_8), (5, .int x5_5), (3, .int x3_5), (0, .ref mo), (1, .int a1), (2, .int a2)]) hx hb dB_3_2_41.2.2.1.2 hl (by decide) rfl (fun ls hl => ?_)
                        refine lv_iload_n hx hb dB_3_2_41.2.2.2.1 rfl (lv_at hl 4 rfl) ?_
                        refine lv_iload hx hb dB_3_2_41.2.2.2.2 (lv_at hl 2 rfl) ?_
                        refine lv_if_eq (tgt := 158) hx hb dB_3_2_42.1.1.1 (by decide) (fun c_33 => ?_) (fun c_33 => ?_)
                        · have t_33 : x6_8.toInt = (0 : Int32).toInt := congrArg Int32.toInt c_33
                          refine lv_iconst (v := 0) hx hb dB_3_2_42.1.2.1.1 (by decide) ?_
                          refine lv_iadd hx hb dB_3_2_42.1.2.1.2 ?_
                          refine lv_topi (fun y_34 ey_34 => ?_)
                          refine lv_istore_n (lv' := [(3, .int y_34), (4, .int x4_5), (7, .int 0), (6, .int x6_8), (5, .int x5_5), (0, .ref mo), (1, .int a1), (2, .int a2)]) hx hb dB_3_2_42.1.2.2.1 rfl hl (by decide) rfl (fun ls hl => ?_)
                          obtain ⟨y_35, ey_35⟩ : ∃ y : Int32, y = x5_5 + 1 := ⟨_, rfl⟩
                          have ty_35 : y_35.toInt = x5_5.toInt + (1 : Int32).toInt := by rw [ey_35]; exact addI (by omega) (by omega)
                          refine lv_iinc (v := y_35) (lv' := [(5, .int y_35), (3, .int y_34), (4, .int x4_5), (7, .int 0), (6, .int x6_8), (0, .ref mo), (1, .int a1), (2, .int a2)]) hx hb dB_3_2_42.1.2.2.2 hl (k := 4) rfl (by rw [ey_35]; rfl) (by decide) rfl (fun ls hl => ?_)
                          refine lv_goto (tgt := 45) hx hb dB_3_2_42.2.1.1.1 (by decide) ?_
                          exact ih_5 y_35 x4_5 y_34 _ _ _ (by omega) (by first | with_reducible assumption | omega | assumption) (by first | with_reducible assumption | omega | assumption) ⟨hP, hD⟩ hS (lv_sub hl [0, 2, 1, 5, 6, 7] rfl)
                        · have t_33 : ¬ x6_8.toInt = (0 : Int32).toInt := fun h => c_33 (Int32.toInt_inj.mp h)
                          refine lv_iconst (v := 1) hx hb dB_3_2_42.1.1.2.1 (by decide) ?_
                          refine lv_goto (tgt := 159) hx hb dB_3_2_42.1.1.2.2 (by decide) ?_
                          refine lv_iadd hx hb dB_3_2_42.1.2.1.2 ?_
                          refine lv_topi (fun y_36 ey_36 => ?_)
                          refine lv_istore_n (lv' := [(3, .int y_36), (4, .int x4_5), (7, .int 0), (6, .int x6_8), (5, .int x5_5), (0, .ref mo), (1, .int a1), (2, .int a2)]) hx hb dB_3_2_42.1.2.2.1 rfl hl (by decide) rfl (fun ls hl => ?_)
                          obtain ⟨y_37, ey_37⟩ : ∃ y : Int32, y = x5_5 + 1 := ⟨_, rfl⟩
                          have ty_37 : y_37.toInt = x5_5.toInt + (1 : Int32).toInt := by rw [ey_37]; exact addI (by omega) (by omega)
                          refine lv_iinc (v := y_37) (lv' := [(5, .int y_37), (3, .int y_36), (4, .int x4_5), (7, .int 0), (6, .int x6_8), (0, .ref mo), (1, .int a1), (2, .int a2)]) hx hb dB_3_2_42.1.2.2.2 hl (k := 4) rfl (by rw [ey_37]; rfl) (by decide) rfl (fun ls hl => ?_)
                          refine lv_goto (tgt := 45) hx hb dB_3_2_42.2.1.1.1 (by decide) ?_
                          exact ih_5 y_37 x4_5 y_36 _ _ _ (by omega) (by first | with_reducible assumption | omega | assumption) (by first | with_reducible assumption | omega | assumption) ⟨hP, hD⟩ hS (lv_sub hl [0, 2, 1, 5, 6, 7] rfl)
                      · exact absurd c_32 (by decide)
                  · have t_27 : ¬ a2.toInt < (0 : Int32).toInt := fun h => c_27 (Int32.lt_iff_toInt_lt.mpr h)
                    refine lv_aload_n hx hb dB_3_2_40.2.1.1.2 rfl (lv_at hl 5 rfl) ?_
                    refine lv_iload hx hb dB_3_2_40.2.1.2.1 (lv_at hl 2 rfl) ?_
                    refine lv_iload_n hx hb dB_3_2_40.2.1.2.2 rfl (lv_at hl 7 rfl) ?_
                    refine ct_R hP hD [ob12_0_ mo 0 s1 t2 s3 s4 g5 g6 g7 g8 g9 g10 s11 g12 g13 g14 g15 g16 g17 g18 g19 g20 s21 g22 g23 g24 s25 s26 s27 s28 g29 g30 g31 g32 g33, ai_ cy g5 40 f5, ai_ cy g6 40 f6, ai_ cy g7 40 f7, ai_ cy g8 40 f8, az_ cy g10 40 f10] [0, 1, 2, 3, 4, 5] (by decide) rfl (fun hPc hDw => ?_)
                    have hFc := va_free (wc := []) hD hS hA [] rfl
                    refine va_calli (va_runV (As := [.int x5_5, .int a2]) (rest := []) ⟨hx, hb, hml, hown, hts⟩ (c_X12_mostOf l D cy H.size mo g5 g6 g7 g8 g9 g10 g12 g13 g14 g15 g16 g17 g18 g19 g20 g22 g23 g24 g29 g30 g31 g32 g33 (0 : Int32) s1 s3 s4 s11 s21 s25 s26 s27 s28 t2 f5 f6 f7 f8 f10 x5_5 a2 (by first | with_reducible assumption | omega | assumption) (by first | with_reducible assumption | omega | assumption)) (cwV 2 hts gX12_part_X12_mostOf rfl rfl rfl ⟨rfl, hd_X12_mostOf⟩ ⟨Nat.le_of_ble_eq_true rfl, Nat.le_of_ble_eq_true rfl⟩) ⟨bl_, va_recvX hK.1 hP (ci := 12) (q0 := 0) rfl rfl, fun U hU hW => ⟨rfl, by rw [hU], by rw [hU]; exact hPc, kk_mv hW hK, hDw⟩⟩ rfl rfl hl.1 rfl (lv_room (Nat.le_of_ble_eq_true rfl)) dB_3_2_40.2.2.1.1 ⟨Nat.le_of_ble_eq_true rfl, Nat.le_of_ble_eq_true rfl⟩) hS (fun q _ h => hFc q h) hFc (fun r_38 u t H locs ht hvm hw hB hz1 hk1 hS => ?_)
                    have hP : va_P D vwCl _ H := ro_keep hP hk1
                    refine lv_iload_n hx hb dB_3_2_40.2.2.1.2 rfl (lv_at hl 6 rfl) ?_
                    refine lv_icmp_lt (tgt := 120) hx hb dB_3_2_40.2.2.2.1 (by decide) (fun c_39 => ?_) (fun c_39 => ?_)
                    · have t_39 : r_38.toInt < a1.toInt := Int32.lt_iff_toInt_lt.mp c_39
                      refine lv_iconst (v := 0) hx hb dB_3_2_41.1.1.1.2 (by decide) ?_
                      refine lv_istore (lv' := [(7, .int 0), (6, .int x6_8), (5, .int x5_5), (4, .int x4_5), (3, .int x3_5), (0, .ref mo), (1, .int a1), (2, .int a2)]) hx hb dB_3_2_41.1.1.2.1 hl (by decide) rfl (fun ls hl => ?_)
                      refine lv_iload hx hb dB_3_2_41.1.1.2.2 (lv_at hl 1 rfl) ?_
                      refine lv_if_eq (tgt := 144) hx hb dB_3_2_41.1.2.1.1 (by decide) (fun c_40 => ?_) (fun c_40 => ?_)
                      · have t_40 : x6_8.toInt = (0 : Int32).toInt := congrArg Int32.toInt c_40
                        refine lv_iload hx hb dB_3_2_41.2.2.1.1 (lv_at hl 3 rfl) ?_
                        refine lv_istore (lv' := [(4, .int x4_5), (7, .int 0), (6, .int x6_8), (5, .int x5_5), (3, .int x3_5), (0, .ref mo), (1, .int a1), (2, .int a2)]) hx hb dB_3_2_41.2.2.1.2 hl (by decide) rfl (fun ls hl => ?_)
                        refine lv_iload_n hx hb dB_3_2_41.2.2.2.1 rfl (lv_at hl 4 rfl) ?_
                        refine lv_iload hx hb dB_3_2_41.2.2.2.2 (lv_at hl 2 rfl) ?_
                        refine lv_if_eq (tgt := 158) hx hb dB_3_2_42.1.1.1 (by decide) (fun c_41 => ?_) (fun c_41 => ?_)
                        · have t_41 : x6_8.toInt = (0 : Int32).toInt := congrArg Int32.toInt c_41
                          refine lv_iconst (v := 0) hx hb dB_3_2_42.1.2.1.1 (by decide) ?_
                          refine lv_iadd hx hb dB_3_2_42.1.2.1.2 ?_
                          refine lv_topi (fun y_42 ey_42 => ?_)
                          refine lv_istore_n (lv' := [(3, .int y_42), (4, .int x4_5), (7, .int 0), (6, .int x6_8), (5, .int x5_5), (0, .ref mo), (1, .int a1), (2, .int a2)]) hx hb dB_3_2_42.1.2.2.1 rfl hl (by decide) rfl (fun ls hl => ?_)
                          obtain ⟨y_43, ey_43⟩ : ∃ y : Int32, y = x5_5 + 1 := ⟨_, rfl⟩
                          have ty_43 : y_43.toInt = x5_5.toInt + (1 : Int32).toInt := by rw [ey_43]; exact addI (by omega) (by omega)
                          refine lv_iinc (v := y_43) (lv' := [(5, .int y_43), (3, .int y_42), (4, .int x4_5), (7, .int 0), (6, .int x6_8), (0, .ref mo), (1, .int a1), (2, .int a2)]) hx hb dB_3_2_42.1.2.2.2 hl (k := 4) rfl (by rw [ey_43]; rfl) (by decide) rfl (fun ls hl => ?_)
                          refine lv_goto (tgt := 45) hx hb dB_3_2_42.2.1.1.1 (by decide) ?_
                          exact ih_5 y_43 x4_5 y_42 _ _ _ (by omega) (by first | with_reducible assumption | omega | assumption) (by first | with_reducible assumption | omega | assumption) ⟨hP, hD⟩ hS (lv_sub hl [0, 2, 1, 5, 6, 7] rfl)
                        · have t_41 : ¬ x6_8.toInt = (0 : Int32).toInt := fun h => c_41 (Int32.toInt_inj.mp h)
                          exfalso; omega
                      · have t_40 : ¬ x6_8.toInt = (0 : Int32).toInt := fun h => c_40 (Int32.toInt_inj.mp h)
                        refine lv_iload hx hb dB_3_2_41.1.2.1.2 (lv_at hl 0 rfl) ?_
                        refine lv_if_eq (tgt := 144) hx hb dB_3_2_41.1.2.2.1 (by decide) (fun c_44 => ?_) (fun c_44 => ?_)
                        · have _ := c_44
                          refine lv_iload hx hb dB_3_2_41.2.2.1.1 (lv_at hl 3 rfl) ?_
                          refine lv_istore (lv' := [(4, .int x4_5), (7, .int 0), (6, .int x6_8), (5, .int x5_5), (3, .int x3_5), (0, .ref mo), (1, .int a1), (2, .int a2)]) hx hb dB_3_2_41.2.2.1.2 hl (by decide) rfl (fun ls hl => ?_)
                          refine lv_iload_n hx hb dB_3_2_41.2.2.2.1 rfl (lv_at hl 4 rfl) ?_
                          refine lv_iload hx hb dB_3_2_41.2.2.2.2 (lv_at hl 2 rfl) ?_
                          refine lv_if_eq (tgt := 158) hx hb dB_3_2_42.1.1.1 (by decide) (fun c_45 => ?_) (fun c_45 => ?_)
                          · have t_45 : x6_8.toInt = (0 : Int32).toInt := congrArg Int32.toInt c_45
                            refine lv_iconst (v := 0) hx hb dB_3_2_42.1.2.1.1 (by decide) ?_
                            refine lv_iadd hx hb dB_3_2_42.1.2.1.2 ?_
                            refine lv_topi (fun y_46 ey_46 => ?_)
                            refine lv_istore_n (lv' := [(3, .int y_46), (4, .int x4_5), (7, .int 0), (6, .int x6_8), (5, .int x5_5), (0, .ref mo), (1, .int a1), (2, .int a2)]) hx hb dB_3_2_42.1.2.2.1 rfl hl (by decide) rfl (fun ls hl => ?_)
                            obtain ⟨y_47, ey_47⟩ : ∃ y : Int32, y = x5_5 + 1 := ⟨_, rfl⟩
                            have ty_47 : y_47.toInt = x5_5.toInt + (1 : Int32).toInt := by rw [ey_47]; exact addI (by omega) (by omega)
                            refine lv_iinc (v := y_47) (lv' := [(5, .int y_47), (3, .int y_46), (4, .int x4_5), (7, .int 0), (6, .int x6_8), (0, .ref mo), (1, .int a1), (2, .int a2)]) hx hb dB_3_2_42.1.2.2.2 hl (k := 4) rfl (by rw [ey_47]; rfl) (by decide) rfl (fun ls hl => ?_)
                            refine lv_goto (tgt := 45) hx hb dB_3_2_42.2.1.1.1 (by decide) ?_
                            exact ih_5 y_47 x4_5 y_46 _ _ _ (by omega) (by first | with_reducible assumption | omega | assumption) (by first | with_reducible assumption | omega | assumption) ⟨hP, hD⟩ hS (lv_sub hl [0, 2, 1, 5, 6, 7] rfl)
                          · have t_45 : ¬ x6_8.toInt = (0 : Int32).toInt := fun h => c_45 (Int32.toInt_inj.mp h)
                            refine lv_iconst (v := 1) hx hb dB_3_2_42.1.1.2.1 (by decide) ?_
                            refine lv_goto (tgt := 159) hx hb dB_3_2_42.1.1.2.2 (by decide) ?_
                            refine lv_iadd hx hb dB_3_2_42.1.2.1.2 ?_
                            refine lv_topi (fun y_48 ey_48 => ?_)
                            refine lv_istore_n (lv' := [(3, .int y_48), (4, .int x4_5), (7, .int 0), (6, .int x6_8), (5, .int x5_5), (0, .ref mo), (1, .int a1), (2, .int a2)]) hx hb dB_3_2_42.1.2.2.1 rfl hl (by decide) rfl (fun ls hl => ?_)
                            obtain ⟨y_49, ey_49⟩ : ∃ y : Int32, y = x5_5 + 1 := ⟨_, rfl⟩
                            have ty_49 : y_49.toInt = x5_5.toInt + (1 : Int32).toInt := by rw [ey_49]; exact addI (by omega) (by omega)
                            refine lv_iinc (v := y_49) (lv' := [(5, .int y_49), (3, .int y_48), (4, .int x4_5), (7, .int 0), (6, .int x6_8), (0, .ref mo), (1, .int a1), (2, .int a2)]) hx hb dB_3_2_42.1.2.2.2 hl (k := 4) rfl (by rw [ey_49]; rfl) (by decide) rfl (fun ls hl => ?_)
                            refine lv_goto (tgt := 45) hx hb dB_3_2_42.2.1.1.1 (by decide) ?_
                            exact ih_5 y_49 x4_5 y_48 _ _ _ (by omega) (by first | with_reducible assumption | omega | assumption) (by first | with_reducible assumption | omega | assumption) ⟨hP, hD⟩ hS (lv_sub hl [0, 2, 1, 5, 6, 7] rfl)
                        · exact absurd c_44 (by decide)
                    · have t_39 : ¬ r_38.toInt < a1.toInt := fun h => c_39 (Int32.lt_iff_toInt_lt.mpr h)
                      refine lv_iconst (v := 1) hx hb dB_3_2_40.2.2.2.2 (by decide) ?_
                      refine lv_goto (tgt := 121) hx hb dB_3_2_41.1.1.1.1 (by decide) ?_
                      refine lv_istore (lv' := [(7, .int 1), (6, .int x6_8), (5, .int x5_5), (4, .int x4_5), (3, .int x3_5), (0, .ref mo), (1, .int a1), (2, .int a2)]) hx hb dB_3_2_41.1.1.2.1 hl (by decide) rfl (fun ls hl => ?_)
                      refine lv_iload hx hb dB_3_2_41.1.1.2.2 (lv_at hl 1 rfl) ?_
                      refine lv_if_eq (tgt := 144) hx hb dB_3_2_41.1.2.1.1 (by decide) (fun c_50 => ?_) (fun c_50 => ?_)
                      · have t_50 : x6_8.toInt = (0 : Int32).toInt := congrArg Int32.toInt c_50
                        refine lv_iload hx hb dB_3_2_41.2.2.1.1 (lv_at hl 3 rfl) ?_
                        refine lv_istore (lv' := [(4, .int x4_5), (7, .int 1), (6, .int x6_8), (5, .int x5_5), (3, .int x3_5), (0, .ref mo), (1, .int a1), (2, .int a2)]) hx hb dB_3_2_41.2.2.1.2 hl (by decide) rfl (fun ls hl => ?_)
                        refine lv_iload_n hx hb dB_3_2_41.2.2.2.1 rfl (lv_at hl 4 rfl) ?_
                        refine lv_iload hx hb dB_3_2_41.2.2.2.2 (lv_at hl 2 rfl) ?_
                        refine lv_if_eq (tgt := 158) hx hb dB_3_2_42.1.1.1 (by decide) (fun c_51 => ?_) (fun c_51 => ?_)
                        · have t_51 : x6_8.toInt = (0 : Int32).toInt := congrArg Int32.toInt c_51
                          refine lv_iconst (v := 0) hx hb dB_3_2_42.1.2.1.1 (by decide) ?_
                          refine lv_iadd hx hb dB_3_2_42.1.2.1.2 ?_
                          refine lv_topi (fun y_52 ey_52 => ?_)
                          refine lv_istore_n (lv' := [(3, .int y_52), (4, .int x4_5), (7, .int 1), (6, .int x6_8), (5, .int x5_5), (0, .ref mo), (1, .int a1), (2, .int a2)]) hx hb dB_3_2_42.1.2.2.1 rfl hl (by decide) rfl (fun ls hl => ?_)
                          obtain ⟨y_53, ey_53⟩ : ∃ y : Int32, y = x5_5 + 1 := ⟨_, rfl⟩
                          have ty_53 : y_53.toInt = x5_5.toInt + (1 : Int32).toInt := by rw [ey_53]; exact addI (by omega) (by omega)
                          refine lv_iinc (v := y_53) (lv' := [(5, .int y_53), (3, .int y_52), (4, .int x4_5), (7, .int 1), (6, .int x6_8), (0, .ref mo), (1, .int a1), (2, .int a2)]) hx hb dB_3_2_42.1.2.2.2 hl (k := 4) rfl (by rw [ey_53]; rfl) (by decide) rfl (fun ls hl => ?_)
                          refine lv_goto (tgt := 45) hx hb dB_3_2_42.2.1.1.1 (by decide) ?_
                          exact ih_5 y_53 x4_5 y_52 _ _ _ (by omega) (by first | with_reducible assumption | omega | assumption) (by first | with_reducible assumption | omega | assumption) ⟨hP, hD⟩ hS (lv_sub hl [0, 2, 1, 5, 6, 7] rfl)
                        · have t_51 : ¬ x6_8.toInt = (0 : Int32).toInt := fun h => c_51 (Int32.toInt_inj.mp h)
                          exfalso; omega
                      · have t_50 : ¬ x6_8.toInt = (0 : Int32).toInt := fun h => c_50 (Int32.toInt_inj.mp h)
                        refine lv_iload hx hb dB_3_2_41.1.2.1.2 (lv_at hl 0 rfl) ?_
                        refine lv_if_eq (tgt := 144) hx hb dB_3_2_41.1.2.2.1 (by decide) (fun c_54 => ?_) (fun c_54 => ?_)
                        · exact absurd c_54 (by decide)
                        · have _ := c_54
                          refine lv_iload hx hb dB_3_2_41.1.2.2.2 (lv_at hl 3 rfl) ?_
                          refine lv_bipush (v := (-9)) hx hb dB_3_2_41.2.1.1.1 (by decide) ?_
                          refine lv_icmp_ne (tgt := 144) hx hb dB_3_2_41.2.1.1.2 (by decide) (fun c_55 => ?_) (fun c_55 => ?_)
                          · have t_55 : ¬ x4_5.toInt = ((-9) : Int32).toInt := fun h => c_55 (Int32.toInt_inj.mp h)
                            refine lv_iload hx hb dB_3_2_41.2.2.1.1 (lv_at hl 3 rfl) ?_
                            refine lv_istore (lv' := [(4, .int x4_5), (7, .int 1), (6, .int x6_8), (5, .int x5_5), (3, .int x3_5), (0, .ref mo), (1, .int a1), (2, .int a2)]) hx hb dB_3_2_41.2.2.1.2 hl (by decide) rfl (fun ls hl => ?_)
                            refine lv_iload_n hx hb dB_3_2_41.2.2.2.1 rfl (lv_at hl 4 rfl) ?_
                            refine lv_iload hx hb dB_3_2_41.2.2.2.2 (lv_at hl 2 rfl) ?_
                            refine lv_if_eq (tgt := 158) hx hb dB_3_2_42.1.1.1 (by decide) (fun c_56 => ?_) (fun c_56 => ?_)
                            · have t_56 : x6_8.toInt = (0 : Int32).toInt := congrArg Int32.toInt c_56
                              refine lv_iconst (v := 0) hx hb dB_3_2_42.1.2.1.1 (by decide) ?_
                              refine lv_iadd hx hb dB_3_2_42.1.2.1.2 ?_
                              refine lv_topi (fun y_57 ey_57 => ?_)
                              refine lv_istore_n (lv' := [(3, .int y_57), (4, .int x4_5), (7, .int 1), (6, .int x6_8), (5, .int x5_5), (0, .ref mo), (1, .int a1), (2, .int a2)]) hx hb dB_3_2_42.1.2.2.1 rfl hl (by decide) rfl (fun ls hl => ?_)
                              obtain ⟨y_58, ey_58⟩ : ∃ y : Int32, y = x5_5 + 1 := ⟨_, rfl⟩
                              have ty_58 : y_58.toInt = x5_5.toInt + (1 : Int32).toInt := by rw [ey_58]; exact addI (by omega) (by omega)
                              refine lv_iinc (v := y_58) (lv' := [(5, .int y_58), (3, .int y_57), (4, .int x4_5), (7, .int 1), (6, .int x6_8), (0, .ref mo), (1, .int a1), (2, .int a2)]) hx hb dB_3_2_42.1.2.2.2 hl (k := 4) rfl (by rw [ey_58]; rfl) (by decide) rfl (fun ls hl => ?_)
                              refine lv_goto (tgt := 45) hx hb dB_3_2_42.2.1.1.1 (by decide) ?_
                              exact ih_5 y_58 x4_5 y_57 _ _ _ (by omega) (by first | with_reducible assumption | omega | assumption) (by first | with_reducible assumption | omega | assumption) ⟨hP, hD⟩ hS (lv_sub hl [0, 2, 1, 5, 6, 7] rfl)
                            · have t_56 : ¬ x6_8.toInt = (0 : Int32).toInt := fun h => c_56 (Int32.toInt_inj.mp h)
                              refine lv_iconst (v := 1) hx hb dB_3_2_42.1.1.2.1 (by decide) ?_
                              refine lv_goto (tgt := 159) hx hb dB_3_2_42.1.1.2.2 (by decide) ?_
                              refine lv_iadd hx hb dB_3_2_42.1.2.1.2 ?_
                              refine lv_topi (fun y_59 ey_59 => ?_)
                              refine lv_istore_n (lv' := [(3, .int y_59), (4, .int x4_5), (7, .int 1), (6, .int x6_8), (5, .int x5_5), (0, .ref mo), (1, .int a1), (2, .int a2)]) hx hb dB_3_2_42.1.2.2.1 rfl hl (by decide) rfl (fun ls hl => ?_)
                              obtain ⟨y_60, ey_60⟩ : ∃ y : Int32, y = x5_5 + 1 := ⟨_, rfl⟩
                              have ty_60 : y_60.toInt = x5_5.toInt + (1 : Int32).toInt := by rw [ey_60]; exact addI (by omega) (by omega)
                              refine lv_iinc (v := y_60) (lv' := [(5, .int y_60), (3, .int y_59), (4, .int x4_5), (7, .int 1), (6, .int x6_8), (0, .ref mo), (1, .int a1), (2, .int a2)]) hx hb dB_3_2_42.1.2.2.2 hl (k := 4) rfl (by rw [ey_60]; rfl) (by decide) rfl (fun ls hl => ?_)
                              refine lv_goto (tgt := 45) hx hb dB_3_2_42.2.1.1.1 (by decide) ?_
                              exact ih_5 y_60 x4_5 y_59 _ _ _ (by omega) (by first | with_reducible assumption | omega | assumption) (by first | with_reducible assumption | omega | assumption) ⟨hP, hD⟩ hS (lv_sub hl [0, 2, 1, 5, 6, 7] rfl)
                          · have t_55 : x4_5.toInt = ((-9) : Int32).toInt := congrArg Int32.toInt c_55
                            refine lv_iload_n hx hb dB_3_2_41.2.1.2.1 rfl (lv_at hl 4 rfl) ?_
                            refine lv_goto (tgt := 146) hx hb dB_3_2_41.2.1.2.2 (by decide) ?_
                            refine lv_istore (lv' := [(4, .int x3_5), (7, .int 1), (6, .int x6_8), (5, .int x5_5), (3, .int x3_5), (0, .ref mo), (1, .int a1), (2, .int a2)]) hx hb dB_3_2_41.2.2.1.2 hl (by decide) rfl (fun ls hl => ?_)
                            refine lv_iload_n hx hb dB_3_2_41.2.2.2.1 rfl (lv_at hl 4 rfl) ?_
                            refine lv_iload hx hb dB_3_2_41.2.2.2.2 (lv_at hl 2 rfl) ?_
                            refine lv_if_eq (tgt := 158) hx hb dB_3_2_42.1.1.1 (by decide) (fun c_61 => ?_) (fun c_61 => ?_)
                            · have t_61 : x6_8.toInt = (0 : Int32).toInt := congrArg Int32.toInt c_61
                              refine lv_iconst (v := 0) hx hb dB_3_2_42.1.2.1.1 (by decide) ?_
                              refine lv_iadd hx hb dB_3_2_42.1.2.1.2 ?_
                              refine lv_topi (fun y_62 ey_62 => ?_)
                              refine lv_istore_n (lv' := [(3, .int y_62), (4, .int x3_5), (7, .int 1), (6, .int x6_8), (5, .int x5_5), (0, .ref mo), (1, .int a1), (2, .int a2)]) hx hb dB_3_2_42.1.2.2.1 rfl hl (by decide) rfl (fun ls hl => ?_)
                              obtain ⟨y_63, ey_63⟩ : ∃ y : Int32, y = x5_5 + 1 := ⟨_, rfl⟩
                              have ty_63 : y_63.toInt = x5_5.toInt + (1 : Int32).toInt := by rw [ey_63]; exact addI (by omega) (by omega)
                              refine lv_iinc (v := y_63) (lv' := [(5, .int y_63), (3, .int y_62), (4, .int x3_5), (7, .int 1), (6, .int x6_8), (0, .ref mo), (1, .int a1), (2, .int a2)]) hx hb dB_3_2_42.1.2.2.2 hl (k := 4) rfl (by rw [ey_63]; rfl) (by decide) rfl (fun ls hl => ?_)
                              refine lv_goto (tgt := 45) hx hb dB_3_2_42.2.1.1.1 (by decide) ?_
                              exact ih_5 y_63 x3_5 y_62 _ _ _ (by omega) (by first | with_reducible assumption | omega | assumption) (by first | with_reducible assumption | omega | assumption) ⟨hP, hD⟩ hS (lv_sub hl [0, 2, 1, 5, 6, 7] rfl)
                            · have t_61 : ¬ x6_8.toInt = (0 : Int32).toInt := fun h => c_61 (Int32.toInt_inj.mp h)
                              refine lv_iconst (v := 1) hx hb dB_3_2_42.1.1.2.1 (by decide) ?_
                              refine lv_goto (tgt := 159) hx hb dB_3_2_42.1.1.2.2 (by decide) ?_
                              refine lv_iadd hx hb dB_3_2_42.1.2.1.2 ?_
                              refine lv_topi (fun y_64 ey_64 => ?_)
                              refine lv_istore_n (lv' := [(3, .int y_64), (4, .int x3_5), (7, .int 1), (6, .int x6_8), (5, .int x5_5), (0, .ref mo), (1, .int a1), (2, .int a2)]) hx hb dB_3_2_42.1.2.2.1 rfl hl (by decide) rfl (fun ls hl => ?_)
                              obtain ⟨y_65, ey_65⟩ : ∃ y : Int32, y = x5_5 + 1 := ⟨_, rfl⟩
                              have ty_65 : y_65.toInt = x5_5.toInt + (1 : Int32).toInt := by rw [ey_65]; exact addI (by omega) (by omega)
                              refine lv_iinc (v := y_65) (lv' := [(5, .int y_65), (3, .int y_64), (4, .int x3_5), (7, .int 1), (6, .int x6_8), (0, .ref mo), (1, .int a1), (2, .int a2)]) hx hb dB_3_2_42.1.2.2.2 hl (k := 4) rfl (by rw [ey_65]; rfl) (by decide) rfl (fun ls hl => ?_)
                              refine lv_goto (tgt := 45) hx hb dB_3_2_42.2.1.1.1 (by decide) ?_
                              exact ih_5 y_65 x3_5 y_64 _ _ _ (by omega) (by first | with_reducible assumption | omega | assumption) (by first | with_reducible assumption | omega | assumption) ⟨hP, hD⟩ hS (lv_sub hl [0, 2, 1, 5, 6, 7] rfl)
              · have t_9 : ¬ x5_5.toInt ≤ x7_8.toInt := fun h => c_9 (Int32.le_iff_toInt_le.mpr h)
                refine lv_iload hx hb dB_3_2_39.1.2.2.1 (lv_at hl 1 rfl) ?_
                refine lv_aload_n hx hb dB_3_2_39.1.2.2.2 rfl (lv_at hl 5 rfl) ?_
                refine lv_iload hx hb dB_3_2_39.2.1.1.1 (lv_at hl 2 rfl) ?_
                refine lv_iload hx hb dB_3_2_39.2.1.1.2 (lv_at hl 0 rfl) ?_
                refine ct_R hP hD [ob12_0_ mo 0 s1 t2 s3 s4 g5 g6 g7 g8 g9 g10 s11 g12 g13 g14 g15 g16 g17 g18 g19 g20 s21 g22 g23 g24 s25 s26 s27 s28 g29 g30 g31 g32 g33, ai_ cy g5 40 f5, ai_ cy g6 40 f6, ai_ cy g7 40 f7, ai_ cy g8 40 f8, az_ cy g10 40 f10] [0, 1, 2, 3, 4, 5] (by decide) rfl (fun hPc hDw => ?_)
                have hFc := va_free (wc := []) hD hS hA [] rfl
                refine va_calli (va_runV (As := [.int x5_5, .int x7_8]) (rest := [.int x6_8]) ⟨hx, hb, hml, hown, hts⟩ (c_X12_mostOf l D cy H.size mo g5 g6 g7 g8 g9 g10 g12 g13 g14 g15 g16 g17 g18 g19 g20 g22 g23 g24 g29 g30 g31 g32 g33 (0 : Int32) s1 s3 s4 s11 s21 s25 s26 s27 s28 t2 f5 f6 f7 f8 f10 x5_5 x7_8 (by first | with_reducible assumption | omega | assumption) (by first | with_reducible assumption | omega | assumption)) (cwV 2 hts gX12_part_X12_mostOf rfl rfl rfl ⟨rfl, hd_X12_mostOf⟩ ⟨Nat.le_of_ble_eq_true rfl, Nat.le_of_ble_eq_true rfl⟩) ⟨bl_, va_recvX hK.1 hP (ci := 12) (q0 := 0) rfl rfl, fun U hU hW => ⟨rfl, by rw [hU], by rw [hU]; exact hPc, kk_mv hW hK, hDw⟩⟩ rfl rfl hl.1 rfl (lv_room (Nat.le_of_ble_eq_true rfl)) dB_3_2_39.2.1.2.1 ⟨Nat.le_of_ble_eq_true rfl, Nat.le_of_ble_eq_true rfl⟩) hS (fun q _ h => hFc q h) hFc (fun r_66 u t H locs ht hvm hw hB hz1 hk1 hS => ?_)
                have hP : va_P D vwCl _ H := ro_keep hP hk1
                refine lv_iload_n hx hb dB_3_2_39.2.1.2.2 rfl (lv_at hl 6 rfl) ?_
                refine lv_icmp_ge (tgt := 85) hx hb dB_3_2_39.2.2.1.1 (by decide) (fun c_67 => ?_) (fun c_67 => ?_)
                · have t_67 : a1.toInt ≤ r_66.toInt := Int32.le_iff_toInt_le.mp c_67
                  refine lv_iconst (v := 0) hx hb dB_3_2_39.2.2.2.2 (by decide) ?_
                  refine lv_iand hx hb dB_3_2_40.1.1.1.1 ?_
                  refine lv_topi (fun y_68 ey_68 => ?_)
                  refine lv_istore (lv' := [(6, .int y_68), (7, .int x7_8), (5, .int x5_5), (4, .int x4_5), (3, .int x3_5), (0, .ref mo), (1, .int a1), (2, .int a2)]) hx hb dB_3_2_40.1.1.1.2 hl (by decide) rfl (fun ls hl => ?_)
                  obtain ⟨y_69, ey_69⟩ : ∃ y : Int32, y = x7_8 + 1 := ⟨_, rfl⟩
                  have ty_69 : y_69.toInt = x7_8.toInt + (1 : Int32).toInt := by rw [ey_69]; exact addI (by omega) (by omega)
                  refine lv_iinc (v := y_69) (lv' := [(7, .int y_69), (6, .int y_68), (5, .int x5_5), (4, .int x4_5), (3, .int x3_5), (0, .ref mo), (1, .int a1), (2, .int a2)]) hx hb dB_3_2_40.1.1.2.1 hl (k := 1) rfl (by rw [ey_69]; rfl) (by decide) rfl (fun ls hl => ?_)
                  refine lv_goto (tgt := 60) hx hb dB_3_2_40.1.1.2.2 (by decide) ?_
                  exact ih_8 y_69 y_68 _ _ _ (by omega) (by first | with_reducible assumption | omega | assumption) (by first | with_reducible assumption | omega | assumption) ⟨hP, hD⟩ hS (lv_sub hl [0, 1, 2, 3, 4, 5, 6, 7] rfl)
                · have t_67 : ¬ a1.toInt ≤ r_66.toInt := fun h => c_67 (Int32.le_iff_toInt_le.mpr h)
                  refine lv_iconst (v := 1) hx hb dB_3_2_39.2.2.1.2 (by decide) ?_
                  refine lv_goto (tgt := 86) hx hb dB_3_2_39.2.2.2.1 (by decide) ?_
                  refine lv_iand hx hb dB_3_2_40.1.1.1.1 ?_
                  refine lv_topi (fun y_70 ey_70 => ?_)
                  refine lv_istore (lv' := [(6, .int y_70), (7, .int x7_8), (5, .int x5_5), (4, .int x4_5), (3, .int x3_5), (0, .ref mo), (1, .int a1), (2, .int a2)]) hx hb dB_3_2_40.1.1.1.2 hl (by decide) rfl (fun ls hl => ?_)
                  obtain ⟨y_71, ey_71⟩ : ∃ y : Int32, y = x7_8 + 1 := ⟨_, rfl⟩
                  have ty_71 : y_71.toInt = x7_8.toInt + (1 : Int32).toInt := by rw [ey_71]; exact addI (by omega) (by omega)
                  refine lv_iinc (v := y_71) (lv' := [(7, .int y_71), (6, .int y_70), (5, .int x5_5), (4, .int x4_5), (3, .int x3_5), (0, .ref mo), (1, .int a1), (2, .int a2)]) hx hb dB_3_2_40.1.1.2.1 hl (k := 1) rfl (by rw [ey_71]; rfl) (by decide) rfl (fun ls hl => ?_)
                  refine lv_goto (tgt := 60) hx hb dB_3_2_40.1.1.2.2 (by decide) ?_
                  exact ih_8 y_71 y_70 _ _ _ (by omega) (by first | with_reducible assumption | omega | assumption) (by first | with_reducible assumption | omega | assumption) ⟨hP, hD⟩ hS (lv_sub hl [0, 1, 2, 3, 4, 5, 6, 7] rfl)
      · have t_4 : ¬ a2.toInt = ((-1) : Int32).toInt := fun h => c_4 (Int32.toInt_inj.mp h)
        refine lv_aload_n hx hb dB_3_2_37.2.2.2.2 rfl (lv_at hl 0 rfl) ?_
        refine lv_iload_n hx hb dB_3_2_38.1.1.1.1 rfl (lv_at hl 2 rfl) ?_
        refine ct_R hP hD [ob12_0_ mo 0 s1 t2 s3 s4 g5 g6 g7 g8 g9 g10 s11 g12 g13 g14 g15 g16 g17 g18 g19 g20 s21 g22 g23 g24 s25 s26 s27 s28 g29 g30 g31 g32 g33] [0] (by decide) rfl (fun hPc hDw => ?_)
        have hFc := va_free (wc := []) hD hS hA [] rfl
        refine va_calli (va_runV (As := [.int a2]) (rest := []) ⟨hx, hb, hml, hown, hts⟩ (c_X12_isPlace l D cy H.size mo g5 g6 g7 g8 g9 g10 g12 g13 g14 g15 g16 g17 g18 g19 g20 g22 g23 g24 g29 g30 g31 g32 g33 (0 : Int32) s1 s3 s4 s11 s21 s25 s26 s27 s28 t2 a2 (by first | with_reducible assumption | omega | assumption)) (cwV 1 hts gX12_part_X12_isPlace rfl rfl rfl ⟨rfl, hd_X12_isPlace⟩ ⟨Nat.le_of_ble_eq_true rfl, Nat.le_of_ble_eq_true rfl⟩) ⟨bl_, va_recvX hK.1 hP (ci := 12) (q0 := 0) rfl rfl, fun U hU hW => ⟨rfl, by rw [hU], by rw [hU]; exact hPc, kk_mv hW hK, hDw⟩⟩ rfl rfl hl.1 rfl (lv_room (Nat.le_of_ble_eq_true rfl)) dB_3_2_38.1.1.1.2 ⟨Nat.le_of_ble_eq_true rfl, Nat.le_of_ble_eq_true rfl⟩) hS (fun q _ h => hFc q h) hFc (fun r_72 u t H locs ht hvm hw hB hz1 hk1 hS => ?_)
        have hP : va_P D vwCl _ H := ro_keep hP hk1
        rcases hw with ⟨w_73, e_⟩ | ⟨w_73, e_⟩
        · have e_ := e_.symm
          subst e_
          refine lv_if_ne (tgt := 36) hx hb dB_3_2_38.1.1.2.1 (by decide) (fun c_74 => ?_) (fun c_74 => ?_)
          · have _ := c_74
            refine lv_iconst (v := 0) hx hb dB_3_2_38.1.2.1.2 (by decide) ?_
            refine lv_istore_n (lv' := [(3, .int 0), (0, .ref mo), (1, .int a1), (2, .int a2)]) hx hb dB_3_2_38.1.2.2.1 rfl hl (by decide) rfl (fun ls hl => ?_)
            refine lv_bipush (v := (-9)) hx hb dB_3_2_38.1.2.2.2 (by decide) ?_
            refine lv_istore (lv' := [(4, .int (-9)), (3, .int 0), (0, .ref mo), (1, .int a1), (2, .int a2)]) hx hb dB_3_2_38.2.1.1.1 hl (by decide) rfl (fun ls hl => ?_)
            refine lv_iconst (v := 0) hx hb dB_3_2_38.2.1.1.2 (by decide) ?_
            refine lv_istore (lv' := [(5, .int 0), (4, .int (-9)), (3, .int 0), (0, .ref mo), (1, .int a1), (2, .int a2)]) hx hb dB_3_2_38.2.1.2.1 hl (by decide) rfl (fun ls hl => ?_)
            suffices LOOP_75 : ∀ (n_75 : Nat) (x5_75 : Int32) (x4_75 : Int32) (x3_75 : Int32) (H : Heap) (locs : List Loc) (ls : Array Slot), s3.toInt - x5_75.toInt < (n_75 : Int) → (0 ≤ x5_75.toInt) → (x5_75.toInt ≤ s3.toInt) → pd_2 D vwCl A [ob12_0_ mo 0 s1 t2 s3 s4 g5 g6 g7 g8 g9 g10 s11 g12 g13 g14 g15 g16 g17 g18 g19 g20 s21 g22 g23 g24 s25 s26 s27 s28 g29 g30 g31 g32 g33, ai_ cy g5 40 f5, ai_ cy g6 40 f6, ai_ cy g7 40 f7, ai_ cy g8 40 f8, az_ cy g10 40 f10] H → va_S A s.heap H locs → lv_has ls 8 [(5, .int x5_75), (4, .int x4_75), (3, .int x3_75), (0, .ref mo), (1, .int a1), (2, .int a2)] → W p l e ({ frames := 4, cells := 0, slots := 0, locals := 96 } : Room) s m (([.ref mo, .int a1, .int a2] : List Value).toArray) below meth c H locs 0 0 Q (F0 m 45 ls []) from LOOP_75 ((s3.toInt - (0 : Int32).toInt).toNat + 1) (0 : Int32) ((-9) : Int32) (0 : Int32) _ _ _ (by omega) (by first | with_reducible assumption | omega | assumption) (by first | with_reducible assumption | omega | assumption) ⟨hP, hD⟩ hS (lv_sub hl [0, 1, 2, 3, 4, 5] rfl)
            intro n_75
            induction n_75 with
            | zero =>
              intro x5_75 x4_75 x3_75 H locs ls hm v0_75 v1_75 hPD hS hl; obtain ⟨hP, hD⟩ := hPD
              exact absurd hm (by omega)
            | succ n_75 ih_75 =>
              intro x5_75 x4_75 x3_75 H locs ls hm v0_75 v1_75 hPD hS hl; obtain ⟨hP, hD⟩ := hPD
              refine lv_iload hx hb dB_3_2_38.2.1.2.2 (lv_at hl 0 rfl) ?_
              refine lv_aload_n hx hb dB_3_2_38.2.2.1.1 rfl (lv_at hl 3 rfl) ?_
              refine va_get (ci := 12) (v := .int s3) (C := RX12) (T := TX12) (N := 34) hx hb hts (fun _ h => List.mem_cons_of_mem _ (List.mem_append_right _ h)) hown hK.1 hP 0 rfl rfl 3 (by decide) (hts (.fieldLink RX12 88 "CutAtlasModel" "places" "I") (List.mem_of_getElem? (i := 2) rfl)) (fun _ h9 => h9) rfl dB_3_2_38.2.2.1.2 ?_
              refine lv_icmp_ge (tgt := 167) hx hb dB_3_2_38.2.2.2.1 (by decide) (fun c_76 => ?_) (fun c_76 => ?_)
              · have t_76 : s3.toInt ≤ x5_75.toInt := Int32.le_iff_toInt_le.mp c_76
                refine lv_iload_n hx hb dB_3_2_42.2.1.1.2 rfl (lv_at hl 5 rfl) ?_
                refine lv_iconst (v := (-1)) hx hb dB_3_2_42.2.1.2.1 (by decide) ?_
                refine lv_icmp_ne (tgt := 176) hx hb dB_3_2_42.2.1.2.2 (by decide) (fun c_77 => ?_) (fun c_77 => ?_)
                · have t_77 : ¬ a2.toInt = ((-1) : Int32).toInt := fun h => c_77 (Int32.toInt_inj.mp h)
                  refine lv_iload hx hb dB_3_2_42.2.2.2.1 (lv_at hl 1 rfl) ?_
                  rw [hQ]
                  exact W.iret (v := x4_75) hx hb hr (fun t ht hW => ⟨⟨x4_75, (), rfl, trivial, by rw [ht]; exact hP, hD⟩, hS.F ht⟩) hS.2.2 dB_3_2_42.2.2.2.2
                · have t_77 : a2.toInt = ((-1) : Int32).toInt := congrArg Int32.toInt c_77
                  refine lv_iload_n hx hb dB_3_2_42.2.2.1.1 rfl (lv_at hl 2 rfl) ?_
                  refine lv_goto (tgt := 178) hx hb dB_3_2_42.2.2.1.2 (by decide) ?_
                  rw [hQ]
                  exact W.iret (v := x3_75) hx hb hr (fun t ht hW => ⟨⟨x3_75, (), rfl, trivial, by rw [ht]; exact hP, hD⟩, hS.F ht⟩) hS.2.2 dB_3_2_42.2.2.2.2
              · have t_76 : ¬ s3.toInt ≤ x5_75.toInt := fun h => c_76 (Int32.le_iff_toInt_le.mpr h)
                refine lv_iconst (v := 1) hx hb dB_3_2_38.2.2.2.2 (by decide) ?_
                refine lv_istore (lv' := [(6, .int 1), (5, .int x5_75), (4, .int x4_75), (3, .int x3_75), (0, .ref mo), (1, .int a1), (2, .int a2)]) hx hb dB_3_2_39.1.1.1.1 hl (by decide) rfl (fun ls hl => ?_)
                refine lv_iconst (v := 0) hx hb dB_3_2_39.1.1.1.2 (by decide) ?_
                refine lv_istore (lv' := [(7, .int 0), (6, .int 1), (5, .int x5_75), (4, .int x4_75), (3, .int x3_75), (0, .ref mo), (1, .int a1), (2, .int a2)]) hx hb dB_3_2_39.1.1.2.1 hl (by decide) rfl (fun ls hl => ?_)
                suffices LOOP_78 : ∀ (n_78 : Nat) (x7_78 : Int32) (x6_78 : Int32) (H : Heap) (locs : List Loc) (ls : Array Slot), x5_75.toInt - x7_78.toInt < (n_78 : Int) → (0 ≤ x7_78.toInt) → (x7_78.toInt ≤ x5_75.toInt) → pd_2 D vwCl A [ob12_0_ mo 0 s1 t2 s3 s4 g5 g6 g7 g8 g9 g10 s11 g12 g13 g14 g15 g16 g17 g18 g19 g20 s21 g22 g23 g24 s25 s26 s27 s28 g29 g30 g31 g32 g33, ai_ cy g5 40 f5, ai_ cy g6 40 f6, ai_ cy g7 40 f7, ai_ cy g8 40 f8, az_ cy g10 40 f10] H → va_S A s.heap H locs → lv_has ls 8 [(7, .int x7_78), (6, .int x6_78), (5, .int x5_75), (4, .int x4_75), (3, .int x3_75), (0, .ref mo), (1, .int a1), (2, .int a2)] → W p l e ({ frames := 4, cells := 0, slots := 0, locals := 96 } : Room) s m (([.ref mo, .int a1, .int a2] : List Value).toArray) below meth c H locs 0 0 Q (F0 m 60 ls []) from LOOP_78 ((x5_75.toInt - (0 : Int32).toInt).toNat + 1) (0 : Int32) (1 : Int32) _ _ _ (by omega) (by first | with_reducible assumption | omega | assumption) (by first | with_reducible assumption | omega | assumption) ⟨hP, hD⟩ hS (lv_sub hl [0, 1, 2, 3, 4, 5, 6, 7] rfl)
                intro n_78
                induction n_78 with
                | zero =>
                  intro x7_78 x6_78 H locs ls hm v0_78 v1_78 hPD hS hl; obtain ⟨hP, hD⟩ := hPD
                  exact absurd hm (by omega)
                | succ n_78 ih_78 =>
                  intro x7_78 x6_78 H locs ls hm v0_78 v1_78 hPD hS hl; obtain ⟨hP, hD⟩ := hPD
                  refine lv_iload hx hb dB_3_2_39.1.1.2.2 (lv_at hl 0 rfl) ?_
                  refine lv_iload hx hb dB_3_2_39.1.2.1.1 (lv_at hl 2 rfl) ?_
                  refine lv_icmp_ge (tgt := 95) hx hb dB_3_2_39.1.2.1.2 (by decide) (fun c_79 => ?_) (fun c_79 => ?_)
                  · have t_79 : x5_75.toInt ≤ x7_78.toInt := Int32.le_iff_toInt_le.mp c_79
                    refine lv_iload hx hb dB_3_2_40.1.2.1.1 (lv_at hl 2 rfl) ?_
                    refine lv_iload_n hx hb dB_3_2_40.1.2.1.2 rfl (lv_at hl 7 rfl) ?_
                    refine lv_icmp_eq (tgt := 116) hx hb dB_3_2_40.1.2.2.1 (by decide) (fun c_80 => ?_) (fun c_80 => ?_)
                    · have t_80 : x5_75.toInt = a2.toInt := congrArg Int32.toInt c_80
                      refine lv_iconst (v := 1) hx hb dB_3_2_40.2.2.2.2 (by decide) ?_
                      refine lv_goto (tgt := 121) hx hb dB_3_2_41.1.1.1.1 (by decide) ?_
                      refine lv_istore (lv' := [(7, .int 1), (6, .int x6_78), (5, .int x5_75), (4, .int x4_75), (3, .int x3_75), (0, .ref mo), (1, .int a1), (2, .int a2)]) hx hb dB_3_2_41.1.1.2.1 hl (by decide) rfl (fun ls hl => ?_)
                      refine lv_iload hx hb dB_3_2_41.1.1.2.2 (lv_at hl 1 rfl) ?_
                      refine lv_if_eq (tgt := 144) hx hb dB_3_2_41.1.2.1.1 (by decide) (fun c_81 => ?_) (fun c_81 => ?_)
                      · have t_81 : x6_78.toInt = (0 : Int32).toInt := congrArg Int32.toInt c_81
                        refine lv_iload hx hb dB_3_2_41.2.2.1.1 (lv_at hl 3 rfl) ?_
                        refine lv_istore (lv' := [(4, .int x4_75), (7, .int 1), (6, .int x6_78), (5, .int x5_75), (3, .int x3_75), (0, .ref mo), (1, .int a1), (2, .int a2)]) hx hb dB_3_2_41.2.2.1.2 hl (by decide) rfl (fun ls hl => ?_)
                        refine lv_iload_n hx hb dB_3_2_41.2.2.2.1 rfl (lv_at hl 4 rfl) ?_
                        refine lv_iload hx hb dB_3_2_41.2.2.2.2 (lv_at hl 2 rfl) ?_
                        refine lv_if_eq (tgt := 158) hx hb dB_3_2_42.1.1.1 (by decide) (fun c_82 => ?_) (fun c_82 => ?_)
                        · have t_82 : x6_78.toInt = (0 : Int32).toInt := congrArg Int32.toInt c_82
                          refine lv_iconst (v := 0) hx hb dB_3_2_42.1.2.1.1 (by decide) ?_
                          refine lv_iadd hx hb dB_3_2_42.1.2.1.2 ?_
                          refine lv_topi (fun y_83 ey_83 => ?_)
                          refine lv_istore_n (lv' := [(3, .int y_83), (4, .int x4_75), (7, .int 1), (6, .int x6_78), (5, .int x5_75), (0, .ref mo), (1, .int a1), (2, .int a2)]) hx hb dB_3_2_42.1.2.2.1 rfl hl (by decide) rfl (fun ls hl => ?_)
                          obtain ⟨y_84, ey_84⟩ : ∃ y : Int32, y = x5_75 + 1 := ⟨_, rfl⟩
                          have ty_84 : y_84.toInt = x5_75.toInt + (1 : Int32).toInt := by rw [ey_84]; exact addI (by omega) (by omega)
                          refine lv_iinc (v := y_84) (lv' := [(5, .int y_84), (3, .int y_83), (4, .int x4_75), (7, .int 1), (6, .int x6_78), (0, .ref mo), (1, .int a1), (2, .int a2)]) hx hb dB_3_2_42.1.2.2.2 hl (k := 4) rfl (by rw [ey_84]; rfl) (by decide) rfl (fun ls hl => ?_)
                          refine lv_goto (tgt := 45) hx hb dB_3_2_42.2.1.1.1 (by decide) ?_
                          exact ih_75 y_84 x4_75 y_83 _ _ _ (by omega) (by first | with_reducible assumption | omega | assumption) (by first | with_reducible assumption | omega | assumption) ⟨hP, hD⟩ hS (lv_sub hl [0, 2, 1, 5, 6, 7] rfl)
                        · have t_82 : ¬ x6_78.toInt = (0 : Int32).toInt := fun h => c_82 (Int32.toInt_inj.mp h)
                          exfalso; omega
                      · have t_81 : ¬ x6_78.toInt = (0 : Int32).toInt := fun h => c_81 (Int32.toInt_inj.mp h)
                        refine lv_iload hx hb dB_3_2_41.1.2.1.2 (lv_at hl 0 rfl) ?_
                        refine lv_if_eq (tgt := 144) hx hb dB_3_2_41.1.2.2.1 (by decide) (fun c_85 => ?_) (fun c_85 => ?_)
                        · exact absurd c_85 (by decide)
                        · have _ := c_85
                          refine lv_iload hx hb dB_3_2_41.1.2.2.2 (lv_at hl 3 rfl) ?_
                          refine lv_bipush (v := (-9)) hx hb dB_3_2_41.2.1.1.1 (by decide) ?_
                          refine lv_icmp_ne (tgt := 144) hx hb dB_3_2_41.2.1.1.2 (by decide) (fun c_86 => ?_) (fun c_86 => ?_)
                          · have t_86 : ¬ x4_75.toInt = ((-9) : Int32).toInt := fun h => c_86 (Int32.toInt_inj.mp h)
                            refine lv_iload hx hb dB_3_2_41.2.2.1.1 (lv_at hl 3 rfl) ?_
                            refine lv_istore (lv' := [(4, .int x4_75), (7, .int 1), (6, .int x6_78), (5, .int x5_75), (3, .int x3_75), (0, .ref mo), (1, .int a1), (2, .int a2)]) hx hb dB_3_2_41.2.2.1.2 hl (by decide) rfl (fun ls hl => ?_)
                            refine lv_iload_n hx hb dB_3_2_41.2.2.2.1 rfl (lv_at hl 4 rfl) ?_
                            refine lv_iload hx hb dB_3_2_41.2.2.2.2 (lv_at hl 2 rfl) ?_
                            refine lv_if_eq (tgt := 158) hx hb dB_3_2_42.1.1.1 (by decide) (fun c_87 => ?_) (fun c_87 => ?_)
                            · have t_87 : x6_78.toInt = (0 : Int32).toInt := congrArg Int32.toInt c_87
                              refine lv_iconst (v := 0) hx hb dB_3_2_42.1.2.1.1 (by decide) ?_
                              refine lv_iadd hx hb dB_3_2_42.1.2.1.2 ?_
                              refine lv_topi (fun y_88 ey_88 => ?_)
                              refine lv_istore_n (lv' := [(3, .int y_88), (4, .int x4_75), (7, .int 1), (6, .int x6_78), (5, .int x5_75), (0, .ref mo), (1, .int a1), (2, .int a2)]) hx hb dB_3_2_42.1.2.2.1 rfl hl (by decide) rfl (fun ls hl => ?_)
                              obtain ⟨y_89, ey_89⟩ : ∃ y : Int32, y = x5_75 + 1 := ⟨_, rfl⟩
                              have ty_89 : y_89.toInt = x5_75.toInt + (1 : Int32).toInt := by rw [ey_89]; exact addI (by omega) (by omega)
                              refine lv_iinc (v := y_89) (lv' := [(5, .int y_89), (3, .int y_88), (4, .int x4_75), (7, .int 1), (6, .int x6_78), (0, .ref mo), (1, .int a1), (2, .int a2)]) hx hb dB_3_2_42.1.2.2.2 hl (k := 4) rfl (by rw [ey_89]; rfl) (by decide) rfl (fun ls hl => ?_)
                              refine lv_goto (tgt := 45) hx hb dB_3_2_42.2.1.1.1 (by decide) ?_
                              exact ih_75 y_89 x4_75 y_88 _ _ _ (by omega) (by first | with_reducible assumption | omega | assumption) (by first | with_reducible assumption | omega | assumption) ⟨hP, hD⟩ hS (lv_sub hl [0, 2, 1, 5, 6, 7] rfl)
                            · have t_87 : ¬ x6_78.toInt = (0 : Int32).toInt := fun h => c_87 (Int32.toInt_inj.mp h)
                              refine lv_iconst (v := 1) hx hb dB_3_2_42.1.1.2.1 (by decide) ?_
                              refine lv_goto (tgt := 159) hx hb dB_3_2_42.1.1.2.2 (by decide) ?_
                              refine lv_iadd hx hb dB_3_2_42.1.2.1.2 ?_
                              refine lv_topi (fun y_90 ey_90 => ?_)
                              refine lv_istore_n (lv' := [(3, .int y_90), (4, .int x4_75), (7, .int 1), (6, .int x6_78), (5, .int x5_75), (0, .ref mo), (1, .int a1), (2, .int a2)]) hx hb dB_3_2_42.1.2.2.1 rfl hl (by decide) rfl (fun ls hl => ?_)
                              obtain ⟨y_91, ey_91⟩ : ∃ y : Int32, y = x5_75 + 1 := ⟨_, rfl⟩
                              have ty_91 : y_91.toInt = x5_75.toInt + (1 : Int32).toInt := by rw [ey_91]; exact addI (by omega) (by omega)
                              refine lv_iinc (v := y_91) (lv' := [(5, .int y_91), (3, .int y_90), (4, .int x4_75), (7, .int 1), (6, .int x6_78), (0, .ref mo), (1, .int a1), (2, .int a2)]) hx hb dB_3_2_42.1.2.2.2 hl (k := 4) rfl (by rw [ey_91]; rfl) (by decide) rfl (fun ls hl => ?_)
                              refine lv_goto (tgt := 45) hx hb dB_3_2_42.2.1.1.1 (by decide) ?_
                              exact ih_75 y_91 x4_75 y_90 _ _ _ (by omega) (by first | with_reducible assumption | omega | assumption) (by first | with_reducible assumption | omega | assumption) ⟨hP, hD⟩ hS (lv_sub hl [0, 2, 1, 5, 6, 7] rfl)
                          · have t_86 : x4_75.toInt = ((-9) : Int32).toInt := congrArg Int32.toInt c_86
                            refine lv_iload_n hx hb dB_3_2_41.2.1.2.1 rfl (lv_at hl 4 rfl) ?_
                            refine lv_goto (tgt := 146) hx hb dB_3_2_41.2.1.2.2 (by decide) ?_
                            refine lv_istore (lv' := [(4, .int x3_75), (7, .int 1), (6, .int x6_78), (5, .int x5_75), (3, .int x3_75), (0, .ref mo), (1, .int a1), (2, .int a2)]) hx hb dB_3_2_41.2.2.1.2 hl (by decide) rfl (fun ls hl => ?_)
                            refine lv_iload_n hx hb dB_3_2_41.2.2.2.1 rfl (lv_at hl 4 rfl) ?_
                            refine lv_iload hx hb dB_3_2_41.2.2.2.2 (lv_at hl 2 rfl) ?_
                            refine lv_if_eq (tgt := 158) hx hb dB_3_2_42.1.1.1 (by decide) (fun c_92 => ?_) (fun c_92 => ?_)
                            · have t_92 : x6_78.toInt = (0 : Int32).toInt := congrArg Int32.toInt c_92
                              refine lv_iconst (v := 0) hx hb dB_3_2_42.1.2.1.1 (by decide) ?_
                              refine lv_iadd hx hb dB_3_2_42.1.2.1.2 ?_
                              refine lv_topi (fun y_93 ey_93 => ?_)
                              refine lv_istore_n (lv' := [(3, .int y_93), (4, .int x3_75), (7, .int 1), (6, .int x6_78), (5, .int x5_75), (0, .ref mo), (1, .int a1), (2, .int a2)]) hx hb dB_3_2_42.1.2.2.1 rfl hl (by decide) rfl (fun ls hl => ?_)
                              obtain ⟨y_94, ey_94⟩ : ∃ y : Int32, y = x5_75 + 1 := ⟨_, rfl⟩
                              have ty_94 : y_94.toInt = x5_75.toInt + (1 : Int32).toInt := by rw [ey_94]; exact addI (by omega) (by omega)
                              refine lv_iinc (v := y_94) (lv' := [(5, .int y_94), (3, .int y_93), (4, .int x3_75), (7, .int 1), (6, .int x6_78), (0, .ref mo), (1, .int a1), (2, .int a2)]) hx hb dB_3_2_42.1.2.2.2 hl (k := 4) rfl (by rw [ey_94]; rfl) (by decide) rfl (fun ls hl => ?_)
                              refine lv_goto (tgt := 45) hx hb dB_3_2_42.2.1.1.1 (by decide) ?_
                              exact ih_75 y_94 x3_75 y_93 _ _ _ (by omega) (by first | with_reducible assumption | omega | assumption) (by first | with_reducible assumption | omega | assumption) ⟨hP, hD⟩ hS (lv_sub hl [0, 2, 1, 5, 6, 7] rfl)
                            · have t_92 : ¬ x6_78.toInt = (0 : Int32).toInt := fun h => c_92 (Int32.toInt_inj.mp h)
                              refine lv_iconst (v := 1) hx hb dB_3_2_42.1.1.2.1 (by decide) ?_
                              refine lv_goto (tgt := 159) hx hb dB_3_2_42.1.1.2.2 (by decide) ?_
                              refine lv_iadd hx hb dB_3_2_42.1.2.1.2 ?_
                              refine lv_topi (fun y_95 ey_95 => ?_)
                              refine lv_istore_n (lv' := [(3, .int y_95), (4, .int x3_75), (7, .int 1), (6, .int x6_78), (5, .int x5_75), (0, .ref mo), (1, .int a1), (2, .int a2)]) hx hb dB_3_2_42.1.2.2.1 rfl hl (by decide) rfl (fun ls hl => ?_)
                              obtain ⟨y_96, ey_96⟩ : ∃ y : Int32, y = x5_75 + 1 := ⟨_, rfl⟩
                              have ty_96 : y_96.toInt = x5_75.toInt + (1 : Int32).toInt := by rw [ey_96]; exact addI (by omega) (by omega)
                              refine lv_iinc (v := y_96) (lv' := [(5, .int y_96), (3, .int y_95), (4, .int x3_75), (7, .int 1), (6, .int x6_78), (0, .ref mo), (1, .int a1), (2, .int a2)]) hx hb dB_3_2_42.1.2.2.2 hl (k := 4) rfl (by rw [ey_96]; rfl) (by decide) rfl (fun ls hl => ?_)
                              refine lv_goto (tgt := 45) hx hb dB_3_2_42.2.1.1.1 (by decide) ?_
                              exact ih_75 y_96 x3_75 y_95 _ _ _ (by omega) (by first | with_reducible assumption | omega | assumption) (by first | with_reducible assumption | omega | assumption) ⟨hP, hD⟩ hS (lv_sub hl [0, 2, 1, 5, 6, 7] rfl)
                    · have t_80 : ¬ x5_75.toInt = a2.toInt := fun h => c_80 (Int32.toInt_inj.mp h)
                      refine lv_iload_n hx hb dB_3_2_40.1.2.2.2 rfl (lv_at hl 7 rfl) ?_
                      refine lv_if_lt (tgt := 120) hx hb dB_3_2_40.2.1.1.1 (by decide) (fun c_97 => ?_) (fun c_97 => ?_)
                      · have t_97 : a2.toInt < (0 : Int32).toInt := Int32.lt_iff_toInt_lt.mp c_97
                        refine lv_iconst (v := 0) hx hb dB_3_2_41.1.1.1.2 (by decide) ?_
                        refine lv_istore (lv' := [(7, .int 0), (6, .int x6_78), (5, .int x5_75), (4, .int x4_75), (3, .int x3_75), (0, .ref mo), (1, .int a1), (2, .int a2)]) hx hb dB_3_2_41.1.1.2.1 hl (by decide) rfl (fun ls hl => ?_)
                        refine lv_iload hx hb dB_3_2_41.1.1.2.2 (lv_at hl 1 rfl) ?_
                        refine lv_if_eq (tgt := 144) hx hb dB_3_2_41.1.2.1.1 (by decide) (fun c_98 => ?_) (fun c_98 => ?_)
                        · have t_98 : x6_78.toInt = (0 : Int32).toInt := congrArg Int32.toInt c_98
                          refine lv_iload hx hb dB_3_2_41.2.2.1.1 (lv_at hl 3 rfl) ?_
                          refine lv_istore (lv' := [(4, .int x4_75), (7, .int 0), (6, .int x6_78), (5, .int x5_75), (3, .int x3_75), (0, .ref mo), (1, .int a1), (2, .int a2)]) hx hb dB_3_2_41.2.2.1.2 hl (by decide) rfl (fun ls hl => ?_)
                          refine lv_iload_n hx hb dB_3_2_41.2.2.2.1 rfl (lv_at hl 4 rfl) ?_
                          refine lv_iload hx hb dB_3_2_41.2.2.2.2 (lv_at hl 2 rfl) ?_
                          refine lv_if_eq (tgt := 158) hx hb dB_3_2_42.1.1.1 (by decide) (fun c_99 => ?_) (fun c_99 => ?_)
                          · have t_99 : x6_78.toInt = (0 : Int32).toInt := congrArg Int32.toInt c_99
                            refine lv_iconst (v := 0) hx hb dB_3_2_42.1.2.1.1 (by decide) ?_
                            refine lv_iadd hx hb dB_3_2_42.1.2.1.2 ?_
                            refine lv_topi (fun y_100 ey_100 => ?_)
                            refine lv_istore_n (lv' := [(3, .int y_100), (4, .int x4_75), (7, .int 0), (6, .int x6_78), (5, .int x5_75), (0, .ref mo), (1, .int a1), (2, .int a2)]) hx hb dB_3_2_42.1.2.2.1 rfl hl (by decide) rfl (fun ls hl => ?_)
                            obtain ⟨y_101, ey_101⟩ : ∃ y : Int32, y = x5_75 + 1 := ⟨_, rfl⟩
                            have ty_101 : y_101.toInt = x5_75.toInt + (1 : Int32).toInt := by rw [ey_101]; exact addI (by omega) (by omega)
                            refine lv_iinc (v := y_101) (lv' := [(5, .int y_101), (3, .int y_100), (4, .int x4_75), (7, .int 0), (6, .int x6_78), (0, .ref mo), (1, .int a1), (2, .int a2)]) hx hb dB_3_2_42.1.2.2.2 hl (k := 4) rfl (by rw [ey_101]; rfl) (by decide) rfl (fun ls hl => ?_)
                            refine lv_goto (tgt := 45) hx hb dB_3_2_42.2.1.1.1 (by decide) ?_
                            exact ih_75 y_101 x4_75 y_100 _ _ _ (by omega) (by first | with_reducible assumption | omega | assumption) (by first | with_reducible assumption | omega | assumption) ⟨hP, hD⟩ hS (lv_sub hl [0, 2, 1, 5, 6, 7] rfl)
                          · have t_99 : ¬ x6_78.toInt = (0 : Int32).toInt := fun h => c_99 (Int32.toInt_inj.mp h)
                            exfalso; omega
                        · have t_98 : ¬ x6_78.toInt = (0 : Int32).toInt := fun h => c_98 (Int32.toInt_inj.mp h)
                          refine lv_iload hx hb dB_3_2_41.1.2.1.2 (lv_at hl 0 rfl) ?_
                          refine lv_if_eq (tgt := 144) hx hb dB_3_2_41.1.2.2.1 (by decide) (fun c_102 => ?_) (fun c_102 => ?_)
                          · have _ := c_102
                            refine lv_iload hx hb dB_3_2_41.2.2.1.1 (lv_at hl 3 rfl) ?_
                            refine lv_istore (lv' := [(4, .int x4_75), (7, .int 0), (6, .int x6_78), (5, .int x5_75), (3, .int x3_75), (0, .ref mo), (1, .int a1), (2, .int a2)]) hx hb dB_3_2_41.2.2.1.2 hl (by decide) rfl (fun ls hl => ?_)
                            refine lv_iload_n hx hb dB_3_2_41.2.2.2.1 rfl (lv_at hl 4 rfl) ?_
                            refine lv_iload hx hb dB_3_2_41.2.2.2.2 (lv_at hl 2 rfl) ?_
                            refine lv_if_eq (tgt := 158) hx hb dB_3_2_42.1.1.1 (by decide) (fun c_103 => ?_) (fun c_103 => ?_)
                            · have t_103 : x6_78.toInt = (0 : Int32).toInt := congrArg Int32.toInt c_103
                              refine lv_iconst (v := 0) hx hb dB_3_2_42.1.2.1.1 (by decide) ?_
                              refine lv_iadd hx hb dB_3_2_42.1.2.1.2 ?_
                              refine lv_topi (fun y_104 ey_104 => ?_)
                              refine lv_istore_n (lv' := [(3, .int y_104), (4, .int x4_75), (7, .int 0), (6, .int x6_78), (5, .int x5_75), (0, .ref mo), (1, .int a1), (2, .int a2)]) hx hb dB_3_2_42.1.2.2.1 rfl hl (by decide) rfl (fun ls hl => ?_)
                              obtain ⟨y_105, ey_105⟩ : ∃ y : Int32, y = x5_75 + 1 := ⟨_, rfl⟩
                              have ty_105 : y_105.toInt = x5_75.toInt + (1 : Int32).toInt := by rw [ey_105]; exact addI (by omega) (by omega)
                              refine lv_iinc (v := y_105) (lv' := [(5, .int y_105), (3, .int y_104), (4, .int x4_75), (7, .int 0), (6, .int x6_78), (0, .ref mo), (1, .int a1), (2, .int a2)]) hx hb dB_3_2_42.1.2.2.2 hl (k := 4) rfl (by rw [ey_105]; rfl) (by decide) rfl (fun ls hl => ?_)
                              refine lv_goto (tgt := 45) hx hb dB_3_2_42.2.1.1.1 (by decide) ?_
                              exact ih_75 y_105 x4_75 y_104 _ _ _ (by omega) (by first | with_reducible assumption | omega | assumption) (by first | with_reducible assumption | omega | assumption) ⟨hP, hD⟩ hS (lv_sub hl [0, 2, 1, 5, 6, 7] rfl)
                            · have t_103 : ¬ x6_78.toInt = (0 : Int32).toInt := fun h => c_103 (Int32.toInt_inj.mp h)
                              refine lv_iconst (v := 1) hx hb dB_3_2_42.1.1.2.1 (by decide) ?_
                              refine lv_goto (tgt := 159) hx hb dB_3_2_42.1.1.2.2 (by decide) ?_
                              refine lv_iadd hx hb dB_3_2_42.1.2.1.2 ?_
                              refine lv_topi (fun y_106 ey_106 => ?_)
                              refine lv_istore_n (lv' := [(3, .int y_106), (4, .int x4_75), (7, .int 0), (6, .int x6_78), (5, .int x5_75), (0, .ref mo), (1, .int a1), (2, .int a2)]) hx hb dB_3_2_42.1.2.2.1 rfl hl (by decide) rfl (fun ls hl => ?_)
                              obtain ⟨y_107, ey_107⟩ : ∃ y : Int32, y = x5_75 + 1 := ⟨_, rfl⟩
                              have ty_107 : y_107.toInt = x5_75.toInt + (1 : Int32).toInt := by rw [ey_107]; exact addI (by omega) (by omega)
                              refine lv_iinc (v := y_107) (lv' := [(5, .int y_107), (3, .int y_106), (4, .int x4_75), (7, .int 0), (6, .int x6_78), (0, .ref mo), (1, .int a1), (2, .int a2)]) hx hb dB_3_2_42.1.2.2.2 hl (k := 4) rfl (by rw [ey_107]; rfl) (by decide) rfl (fun ls hl => ?_)
                              refine lv_goto (tgt := 45) hx hb dB_3_2_42.2.1.1.1 (by decide) ?_
                              exact ih_75 y_107 x4_75 y_106 _ _ _ (by omega) (by first | with_reducible assumption | omega | assumption) (by first | with_reducible assumption | omega | assumption) ⟨hP, hD⟩ hS (lv_sub hl [0, 2, 1, 5, 6, 7] rfl)
                          · exact absurd c_102 (by decide)
                      · have t_97 : ¬ a2.toInt < (0 : Int32).toInt := fun h => c_97 (Int32.lt_iff_toInt_lt.mpr h)
                        refine lv_aload_n hx hb dB_3_2_40.2.1.1.2 rfl (lv_at hl 5 rfl) ?_
                        refine lv_iload hx hb dB_3_2_40.2.1.2.1 (lv_at hl 2 rfl) ?_
                        refine lv_iload_n hx hb dB_3_2_40.2.1.2.2 rfl (lv_at hl 7 rfl) ?_
                        refine ct_R hP hD [ob12_0_ mo 0 s1 t2 s3 s4 g5 g6 g7 g8 g9 g10 s11 g12 g13 g14 g15 g16 g17 g18 g19 g20 s21 g22 g23 g24 s25 s26 s27 s28 g29 g30 g31 g32 g33, ai_ cy g5 40 f5, ai_ cy g6 40 f6, ai_ cy g7 40 f7, ai_ cy g8 40 f8, az_ cy g10 40 f10] [0, 1, 2, 3, 4, 5] (by decide) rfl (fun hPc hDw => ?_)
                        have hFc := va_free (wc := []) hD hS hA [] rfl
                        refine va_calli (va_runV (As := [.int x5_75, .int a2]) (rest := []) ⟨hx, hb, hml, hown, hts⟩ (c_X12_mostOf l D cy H.size mo g5 g6 g7 g8 g9 g10 g12 g13 g14 g15 g16 g17 g18 g19 g20 g22 g23 g24 g29 g30 g31 g32 g33 (0 : Int32) s1 s3 s4 s11 s21 s25 s26 s27 s28 t2 f5 f6 f7 f8 f10 x5_75 a2 (by first | with_reducible assumption | omega | assumption) (by first | with_reducible assumption | omega | assumption)) (cwV 2 hts gX12_part_X12_mostOf rfl rfl rfl ⟨rfl, hd_X12_mostOf⟩ ⟨Nat.le_of_ble_eq_true rfl, Nat.le_of_ble_eq_true rfl⟩) ⟨bl_, va_recvX hK.1 hP (ci := 12) (q0 := 0) rfl rfl, fun U hU hW => ⟨rfl, by rw [hU], by rw [hU]; exact hPc, kk_mv hW hK, hDw⟩⟩ rfl rfl hl.1 rfl (lv_room (Nat.le_of_ble_eq_true rfl)) dB_3_2_40.2.2.1.1 ⟨Nat.le_of_ble_eq_true rfl, Nat.le_of_ble_eq_true rfl⟩) hS (fun q _ h => hFc q h) hFc (fun r_108 u t H locs ht hvm hw hB hz1 hk1 hS => ?_)
                        have hP : va_P D vwCl _ H := ro_keep hP hk1
                        refine lv_iload_n hx hb dB_3_2_40.2.2.1.2 rfl (lv_at hl 6 rfl) ?_
                        refine lv_icmp_lt (tgt := 120) hx hb dB_3_2_40.2.2.2.1 (by decide) (fun c_109 => ?_) (fun c_109 => ?_)
                        · have t_109 : r_108.toInt < a1.toInt := Int32.lt_iff_toInt_lt.mp c_109
                          refine lv_iconst (v := 0) hx hb dB_3_2_41.1.1.1.2 (by decide) ?_
                          refine lv_istore (lv' := [(7, .int 0), (6, .int x6_78), (5, .int x5_75), (4, .int x4_75), (3, .int x3_75), (0, .ref mo), (1, .int a1), (2, .int a2)]) hx hb dB_3_2_41.1.1.2.1 hl (by decide) rfl (fun ls hl => ?_)
                          refine lv_iload hx hb dB_3_2_41.1.1.2.2 (lv_at hl 1 rfl) ?_
                          refine lv_if_eq (tgt := 144) hx hb dB_3_2_41.1.2.1.1 (by decide) (fun c_110 => ?_) (fun c_110 => ?_)
                          · have t_110 : x6_78.toInt = (0 : Int32).toInt := congrArg Int32.toInt c_110
                            refine lv_iload hx hb dB_3_2_41.2.2.1.1 (lv_at hl 3 rfl) ?_
                            refine lv_istore (lv' := [(4, .int x4_75), (7, .int 0), (6, .int x6_78), (5, .int x5_75), (3, .int x3_75), (0, .ref mo), (1, .int a1), (2, .int a2)]) hx hb dB_3_2_41.2.2.1.2 hl (by decide) rfl (fun ls hl => ?_)
                            refine lv_iload_n hx hb dB_3_2_41.2.2.2.1 rfl (lv_at hl 4 rfl) ?_
                            refine lv_iload hx hb dB_3_2_41.2.2.2.2 (lv_at hl 2 rfl) ?_
                            refine lv_if_eq (tgt := 158) hx hb dB_3_2_42.1.1.1 (by decide) (fun c_111 => ?_) (fun c_111 => ?_)
                            · have t_111 : x6_78.toInt = (0 : Int32).toInt := congrArg Int32.toInt c_111
                              refine lv_iconst (v := 0) hx hb dB_3_2_42.1.2.1.1 (by decide) ?_
                              refine lv_iadd hx hb dB_3_2_42.1.2.1.2 ?_
                              refine lv_topi (fun y_112 ey_112 => ?_)
                              refine lv_istore_n (lv' := [(3, .int y_112), (4, .int x4_75), (7, .int 0), (6, .int x6_78), (5, .int x5_75), (0, .ref mo), (1, .int a1), (2, .int a2)]) hx hb dB_3_2_42.1.2.2.1 rfl hl (by decide) rfl (fun ls hl => ?_)
                              obtain ⟨y_113, ey_113⟩ : ∃ y : Int32, y = x5_75 + 1 := ⟨_, rfl⟩
                              have ty_113 : y_113.toInt = x5_75.toInt + (1 : Int32).toInt := by rw [ey_113]; exact addI (by omega) (by omega)
                              refine lv_iinc (v := y_113) (lv' := [(5, .int y_113), (3, .int y_112), (4, .int x4_75), (7, .int 0), (6, .int x6_78), (0, .ref mo), (1, .int a1), (2, .int a2)]) hx hb dB_3_2_42.1.2.2.2 hl (k := 4) rfl (by rw [ey_113]; rfl) (by decide) rfl (fun ls hl => ?_)
                              refine lv_goto (tgt := 45) hx hb dB_3_2_42.2.1.1.1 (by decide) ?_
                              exact ih_75 y_113 x4_75 y_112 _ _ _ (by omega) (by first | with_reducible assumption | omega | assumption) (by first | with_reducible assumption | omega | assumption) ⟨hP, hD⟩ hS (lv_sub hl [0, 2, 1, 5, 6, 7] rfl)
                            · have t_111 : ¬ x6_78.toInt = (0 : Int32).toInt := fun h => c_111 (Int32.toInt_inj.mp h)
                              exfalso; omega
                          · have t_110 : ¬ x6_78.toInt = (0 : Int32).toInt := fun h => c_110 (Int32.toInt_inj.mp h)
                            refine lv_iload hx hb dB_3_2_41.1.2.1.2 (lv_at hl 0 rfl) ?_
                            refine lv_if_eq (tgt := 144) hx hb dB_3_2_41.1.2.2.1 (by decide) (fun c_114 => ?_) (fun c_114 => ?_)
                            · have _ := c_114
                              refine lv_iload hx hb dB_3_2_41.2.2.1.1 (lv_at hl 3 rfl) ?_
                              refine lv_istore (lv' := [(4, .int x4_75), (7, .int 0), (6, .int x6_78), (5, .int x5_75), (3, .int x3_75), (0, .ref mo), (1, .int a1), (2, .int a2)]) hx hb dB_3_2_41.2.2.1.2 hl (by decide) rfl (fun ls hl => ?_)
                              refine lv_iload_n hx hb dB_3_2_41.2.2.2.1 rfl (lv_at hl 4 rfl) ?_
                              refine lv_iload hx hb dB_3_2_41.2.2.2.2 (lv_at hl 2 rfl) ?_
                              refine lv_if_eq (tgt := 158) hx hb dB_3_2_42.1.1.1 (by decide) (fun c_115 => ?_) (fun c_115 => ?_)
                              · have t_115 : x6_78.toInt = (0 : Int32).toInt := congrArg Int32.toInt c_115
                                refine lv_iconst (v := 0) hx hb dB_3_2_42.1.2.1.1 (by decide) ?_
                                refine lv_iadd hx hb dB_3_2_42.1.2.1.2 ?_
                                refine lv_topi (fun y_116 ey_116 => ?_)
                                refine lv_istore_n (lv' := [(3, .int y_116), (4, .int x4_75), (7, .int 0), (6, .int x6_78), (5, .int x5_75), (0, .ref mo), (1, .int a1), (2, .int a2)]) hx hb dB_3_2_42.1.2.2.1 rfl hl (by decide) rfl (fun ls hl => ?_)
                                obtain ⟨y_117, ey_117⟩ : ∃ y : Int32, y = x5_75 + 1 := ⟨_, rfl⟩
                                have ty_117 : y_117.toInt = x5_75.toInt + (1 : Int32).toInt := by rw [ey_117]; exact addI (by omega) (by omega)
                                refine lv_iinc (v := y_117) (lv' := [(5, .int y_117), (3, .int y_116), (4, .int x4_75), (7, .int 0), (6, .int x6_78), (0, .ref mo), (1, .int a1), (2, .int a2)]) hx hb dB_3_2_42.1.2.2.2 hl (k := 4) rfl (by rw [ey_117]; rfl) (by decide) rfl (fun ls hl => ?_)
                                refine lv_goto (tgt := 45) hx hb dB_3_2_42.2.1.1.1 (by decide) ?_
                                exact ih_75 y_117 x4_75 y_116 _ _ _ (by omega) (by first | with_reducible assumption | omega | assumption) (by first | with_reducible assumption | omega | assumption) ⟨hP, hD⟩ hS (lv_sub hl [0, 2, 1, 5, 6, 7] rfl)
                              · have t_115 : ¬ x6_78.toInt = (0 : Int32).toInt := fun h => c_115 (Int32.toInt_inj.mp h)
                                refine lv_iconst (v := 1) hx hb dB_3_2_42.1.1.2.1 (by decide) ?_
                                refine lv_goto (tgt := 159) hx hb dB_3_2_42.1.1.2.2 (by decide) ?_
                                refine lv_iadd hx hb dB_3_2_42.1.2.1.2 ?_
                                refine lv_topi (fun y_118 ey_118 => ?_)
                                refine lv_istore_n (lv' := [(3, .int y_118), (4, .int x4_75), (7, .int 0), (6, .int x6_78), (5, .int x5_75), (0, .ref mo), (1, .int a1), (2, .int a2)]) hx hb dB_3_2_42.1.2.2.1 rfl hl (by decide) rfl (fun ls hl => ?_)
                                obtain ⟨y_119, ey_119⟩ : ∃ y : Int32, y = x5_75 + 1 := ⟨_, rfl⟩
                                have ty_119 : y_119.toInt = x5_75.toInt + (1 : Int32).toInt := by rw [ey_119]; exact addI (by omega) (by omega)
                                refine lv_iinc (v := y_119) (lv' := [(5, .int y_119), (3, .int y_118), (4, .int x4_75), (7, .int 0), (6, .int x6_78), (0, .ref mo), (1, .int a1), (2, .int a2)]) hx hb dB_3_2_42.1.2.2.2 hl (k := 4) rfl (by rw [ey_119]; rfl) (by decide) rfl (fun ls hl => ?_)
                                refine lv_goto (tgt := 45) hx hb dB_3_2_42.2.1.1.1 (by decide) ?_
                                exact ih_75 y_119 x4_75 y_118 _ _ _ (by omega) (by first | with_reducible assumption | omega | assumption) (by first | with_reducible assumption | omega | assumption) ⟨hP, hD⟩ hS (lv_sub hl [0, 2, 1, 5, 6, 7] rfl)
                            · exact absurd c_114 (by decide)
                        · have t_109 : ¬ r_108.toInt < a1.toInt := fun h => c_109 (Int32.lt_iff_toInt_lt.mpr h)
                          refine lv_iconst (v := 1) hx hb dB_3_2_40.2.2.2.2 (by decide) ?_
                          refine lv_goto (tgt := 121) hx hb dB_3_2_41.1.1.1.1 (by decide) ?_
                          refine lv_istore (lv' := [(7, .int 1), (6, .int x6_78), (5, .int x5_75), (4, .int x4_75), (3, .int x3_75), (0, .ref mo), (1, .int a1), (2, .int a2)]) hx hb dB_3_2_41.1.1.2.1 hl (by decide) rfl (fun ls hl => ?_)
                          refine lv_iload hx hb dB_3_2_41.1.1.2.2 (lv_at hl 1 rfl) ?_
                          refine lv_if_eq (tgt := 144) hx hb dB_3_2_41.1.2.1.1 (by decide) (fun c_120 => ?_) (fun c_120 => ?_)
                          · have t_120 : x6_78.toInt = (0 : Int32).toInt := congrArg Int32.toInt c_120
                            refine lv_iload hx hb dB_3_2_41.2.2.1.1 (lv_at hl 3 rfl) ?_
                            refine lv_istore (lv' := [(4, .int x4_75), (7, .int 1), (6, .int x6_78), (5, .int x5_75), (3, .int x3_75), (0, .ref mo), (1, .int a1), (2, .int a2)]) hx hb dB_3_2_41.2.2.1.2 hl (by decide) rfl (fun ls hl => ?_)
                            refine lv_iload_n hx hb dB_3_2_41.2.2.2.1 rfl (lv_at hl 4 rfl) ?_
                            refine lv_iload hx hb dB_3_2_41.2.2.2.2 (lv_at hl 2 rfl) ?_
                            refine lv_if_eq (tgt := 158) hx hb dB_3_2_42.1.1.1 (by decide) (fun c_121 => ?_) (fun c_121 => ?_)
                            · have t_121 : x6_78.toInt = (0 : Int32).toInt := congrArg Int32.toInt c_121
                              refine lv_iconst (v := 0) hx hb dB_3_2_42.1.2.1.1 (by decide) ?_
                              refine lv_iadd hx hb dB_3_2_42.1.2.1.2 ?_
                              refine lv_topi (fun y_122 ey_122 => ?_)
                              refine lv_istore_n (lv' := [(3, .int y_122), (4, .int x4_75), (7, .int 1), (6, .int x6_78), (5, .int x5_75), (0, .ref mo), (1, .int a1), (2, .int a2)]) hx hb dB_3_2_42.1.2.2.1 rfl hl (by decide) rfl (fun ls hl => ?_)
                              obtain ⟨y_123, ey_123⟩ : ∃ y : Int32, y = x5_75 + 1 := ⟨_, rfl⟩
                              have ty_123 : y_123.toInt = x5_75.toInt + (1 : Int32).toInt := by rw [ey_123]; exact addI (by omega) (by omega)
                              refine lv_iinc (v := y_123) (lv' := [(5, .int y_123), (3, .int y_122), (4, .int x4_75), (7, .int 1), (6, .int x6_78), (0, .ref mo), (1, .int a1), (2, .int a2)]) hx hb dB_3_2_42.1.2.2.2 hl (k := 4) rfl (by rw [ey_123]; rfl) (by decide) rfl (fun ls hl => ?_)
                              refine lv_goto (tgt := 45) hx hb dB_3_2_42.2.1.1.1 (by decide) ?_
                              exact ih_75 y_123 x4_75 y_122 _ _ _ (by omega) (by first | with_reducible assumption | omega | assumption) (by first | with_reducible assumption | omega | assumption) ⟨hP, hD⟩ hS (lv_sub hl [0, 2, 1, 5, 6, 7] rfl)
                            · have t_121 : ¬ x6_78.toInt = (0 : Int32).toInt := fun h => c_121 (Int32.toInt_inj.mp h)
                              exfalso; omega
                          · have t_120 : ¬ x6_78.toInt = (0 : Int32).toInt := fun h => c_120 (Int32.toInt_inj.mp h)
                            refine lv_iload hx hb dB_3_2_41.1.2.1.2 (lv_at hl 0 rfl) ?_
                            refine lv_if_eq (tgt := 144) hx hb dB_3_2_41.1.2.2.1 (by decide) (fun c_124 => ?_) (fun c_124 => ?_)
                            · exact absurd c_124 (by decide)
                            · have _ := c_124
                              refine lv_iload hx hb dB_3_2_41.1.2.2.2 (lv_at hl 3 rfl) ?_
                              refine lv_bipush (v := (-9)) hx hb dB_3_2_41.2.1.1.1 (by decide) ?_
                              refine lv_icmp_ne (tgt := 144) hx hb dB_3_2_41.2.1.1.2 (by decide) (fun c_125 => ?_) (fun c_125 => ?_)
                              · have t_125 : ¬ x4_75.toInt = ((-9) : Int32).toInt := fun h => c_125 (Int32.toInt_inj.mp h)
                                refine lv_iload hx hb dB_3_2_41.2.2.1.1 (lv_at hl 3 rfl) ?_
                                refine lv_istore (lv' := [(4, .int x4_75), (7, .int 1), (6, .int x6_78), (5, .int x5_75), (3, .int x3_75), (0, .ref mo), (1, .int a1), (2, .int a2)]) hx hb dB_3_2_41.2.2.1.2 hl (by decide) rfl (fun ls hl => ?_)
                                refine lv_iload_n hx hb dB_3_2_41.2.2.2.1 rfl (lv_at hl 4 rfl) ?_
                                refine lv_iload hx hb dB_3_2_41.2.2.2.2 (lv_at hl 2 rfl) ?_
                                refine lv_if_eq (tgt := 158) hx hb dB_3_2_42.1.1.1 (by decide) (fun c_126 => ?_) (fun c_126 => ?_)
                                · have t_126 : x6_78.toInt = (0 : Int32).toInt := congrArg Int32.toInt c_126
                                  refine lv_iconst (v := 0) hx hb dB_3_2_42.1.2.1.1 (by decide) ?_
                                  refine lv_iadd hx hb dB_3_2_42.1.2.1.2 ?_
                                  refine lv_topi (fun y_127 ey_127 => ?_)
                                  refine lv_istore_n (lv' := [(3, .int y_127), (4, .int x4_75), (7, .int 1), (6, .int x6_78), (5, .int x5_75), (0, .ref mo), (1, .int a1), (2, .int a2)]) hx hb dB_3_2_42.1.2.2.1 rfl hl (by decide) rfl (fun ls hl => ?_)
                                  obtain ⟨y_128, ey_128⟩ : ∃ y : Int32, y = x5_75 + 1 := ⟨_, rfl⟩
                                  have ty_128 : y_128.toInt = x5_75.toInt + (1 : Int32).toInt := by rw [ey_128]; exact addI (by omega) (by omega)
                                  refine lv_iinc (v := y_128) (lv' := [(5, .int y_128), (3, .int y_127), (4, .int x4_75), (7, .int 1), (6, .int x6_78), (0, .ref mo), (1, .int a1), (2, .int a2)]) hx hb dB_3_2_42.1.2.2.2 hl (k := 4) rfl (by rw [ey_128]; rfl) (by decide) rfl (fun ls hl => ?_)
                                  refine lv_goto (tgt := 45) hx hb dB_3_2_42.2.1.1.1 (by decide) ?_
                                  exact ih_75 y_128 x4_75 y_127 _ _ _ (by omega) (by first | with_reducible assumption | omega | assumption) (by first | with_reducible assumption | omega | assumption) ⟨hP, hD⟩ hS (lv_sub hl [0, 2, 1, 5, 6, 7] rfl)
                                · have t_126 : ¬ x6_78.toInt = (0 : Int32).toInt := fun h => c_126 (Int32.toInt_inj.mp h)
                                  refine lv_iconst (v := 1) hx hb dB_3_2_42.1.1.2.1 (by decide) ?_
                                  refine lv_goto (tgt := 159) hx hb dB_3_2_42.1.1.2.2 (by decide) ?_
                                  refine lv_iadd hx hb dB_3_2_42.1.2.1.2 ?_
                                  refine lv_topi (fun y_129 ey_129 => ?_)
                                  refine lv_istore_n (lv' := [(3, .int y_129), (4, .int x4_75), (7, .int 1), (6, .int x6_78), (5, .int x5_75), (0, .ref mo), (1, .int a1), (2, .int a2)]) hx hb dB_3_2_42.1.2.2.1 rfl hl (by decide) rfl (fun ls hl => ?_)
                                  obtain ⟨y_130, ey_130⟩ : ∃ y : Int32, y = x5_75 + 1 := ⟨_, rfl⟩
                                  have ty_130 : y_130.toInt = x5_75.toInt + (1 : Int32).toInt := by rw [ey_130]; exact addI (by omega) (by omega)
                                  refine lv_iinc (v := y_130) (lv' := [(5, .int y_130), (3, .int y_129), (4, .int x4_75), (7, .int 1), (6, .int x6_78), (0, .ref mo), (1, .int a1), (2, .int a2)]) hx hb dB_3_2_42.1.2.2.2 hl (k := 4) rfl (by rw [ey_130]; rfl) (by decide) rfl (fun ls hl => ?_)
                                  refine lv_goto (tgt := 45) hx hb dB_3_2_42.2.1.1.1 (by decide) ?_
                                  exact ih_75 y_130 x4_75 y_129 _ _ _ (by omega) (by first | with_reducible assumption | omega | assumption) (by first | with_reducible assumption | omega | assumption) ⟨hP, hD⟩ hS (lv_sub hl [0, 2, 1, 5, 6, 7] rfl)
                              · have t_125 : x4_75.toInt = ((-9) : Int32).toInt := congrArg Int32.toInt c_125
                                refine lv_iload_n hx hb dB_3_2_41.2.1.2.1 rfl (lv_at hl 4 rfl) ?_
                                refine lv_goto (tgt := 146) hx hb dB_3_2_41.2.1.2.2 (by decide) ?_
                                refine lv_istore (lv' := [(4, .int x3_75), (7, .int 1), (6, .int x6_78), (5, .int x5_75), (3, .int x3_75), (0, .ref mo), (1, .int a1), (2, .int a2)]) hx hb dB_3_2_41.2.2.1.2 hl (by decide) rfl (fun ls hl => ?_)
                                refine lv_iload_n hx hb dB_3_2_41.2.2.2.1 rfl (lv_at hl 4 rfl) ?_
                                refine lv_iload hx hb dB_3_2_41.2.2.2.2 (lv_at hl 2 rfl) ?_
                                refine lv_if_eq (tgt := 158) hx hb dB_3_2_42.1.1.1 (by decide) (fun c_131 => ?_) (fun c_131 => ?_)
                                · have t_131 : x6_78.toInt = (0 : Int32).toInt := congrArg Int32.toInt c_131
                                  refine lv_iconst (v := 0) hx hb dB_3_2_42.1.2.1.1 (by decide) ?_
                                  refine lv_iadd hx hb dB_3_2_42.1.2.1.2 ?_
                                  refine lv_topi (fun y_132 ey_132 => ?_)
                                  refine lv_istore_n (lv' := [(3, .int y_132), (4, .int x3_75), (7, .int 1), (6, .int x6_78), (5, .int x5_75), (0, .ref mo), (1, .int a1), (2, .int a2)]) hx hb dB_3_2_42.1.2.2.1 rfl hl (by decide) rfl (fun ls hl => ?_)
                                  obtain ⟨y_133, ey_133⟩ : ∃ y : Int32, y = x5_75 + 1 := ⟨_, rfl⟩
                                  have ty_133 : y_133.toInt = x5_75.toInt + (1 : Int32).toInt := by rw [ey_133]; exact addI (by omega) (by omega)
                                  refine lv_iinc (v := y_133) (lv' := [(5, .int y_133), (3, .int y_132), (4, .int x3_75), (7, .int 1), (6, .int x6_78), (0, .ref mo), (1, .int a1), (2, .int a2)]) hx hb dB_3_2_42.1.2.2.2 hl (k := 4) rfl (by rw [ey_133]; rfl) (by decide) rfl (fun ls hl => ?_)
                                  refine lv_goto (tgt := 45) hx hb dB_3_2_42.2.1.1.1 (by decide) ?_
                                  exact ih_75 y_133 x3_75 y_132 _ _ _ (by omega) (by first | with_reducible assumption | omega | assumption) (by first | with_reducible assumption | omega | assumption) ⟨hP, hD⟩ hS (lv_sub hl [0, 2, 1, 5, 6, 7] rfl)
                                · have t_131 : ¬ x6_78.toInt = (0 : Int32).toInt := fun h => c_131 (Int32.toInt_inj.mp h)
                                  refine lv_iconst (v := 1) hx hb dB_3_2_42.1.1.2.1 (by decide) ?_
                                  refine lv_goto (tgt := 159) hx hb dB_3_2_42.1.1.2.2 (by decide) ?_
                                  refine lv_iadd hx hb dB_3_2_42.1.2.1.2 ?_
                                  refine lv_topi (fun y_134 ey_134 => ?_)
                                  refine lv_istore_n (lv' := [(3, .int y_134), (4, .int x3_75), (7, .int 1), (6, .int x6_78), (5, .int x5_75), (0, .ref mo), (1, .int a1), (2, .int a2)]) hx hb dB_3_2_42.1.2.2.1 rfl hl (by decide) rfl (fun ls hl => ?_)
                                  obtain ⟨y_135, ey_135⟩ : ∃ y : Int32, y = x5_75 + 1 := ⟨_, rfl⟩
                                  have ty_135 : y_135.toInt = x5_75.toInt + (1 : Int32).toInt := by rw [ey_135]; exact addI (by omega) (by omega)
                                  refine lv_iinc (v := y_135) (lv' := [(5, .int y_135), (3, .int y_134), (4, .int x3_75), (7, .int 1), (6, .int x6_78), (0, .ref mo), (1, .int a1), (2, .int a2)]) hx hb dB_3_2_42.1.2.2.2 hl (k := 4) rfl (by rw [ey_135]; rfl) (by decide) rfl (fun ls hl => ?_)
                                  refine lv_goto (tgt := 45) hx hb dB_3_2_42.2.1.1.1 (by decide) ?_
                                  exact ih_75 y_135 x3_75 y_134 _ _ _ (by omega) (by first | with_reducible assumption | omega | assumption) (by first | with_reducible assumption | omega | assumption) ⟨hP, hD⟩ hS (lv_sub hl [0, 2, 1, 5, 6, 7] rfl)
                  · have t_79 : ¬ x5_75.toInt ≤ x7_78.toInt := fun h => c_79 (Int32.le_iff_toInt_le.mpr h)
                    refine lv_iload hx hb dB_3_2_39.1.2.2.1 (lv_at hl 1 rfl) ?_
                    refine lv_aload_n hx hb dB_3_2_39.1.2.2.2 rfl (lv_at hl 5 rfl) ?_
                    refine lv_iload hx hb dB_3_2_39.2.1.1.1 (lv_at hl 2 rfl) ?_
                    refine lv_iload hx hb dB_3_2_39.2.1.1.2 (lv_at hl 0 rfl) ?_
                    refine ct_R hP hD [ob12_0_ mo 0 s1 t2 s3 s4 g5 g6 g7 g8 g9 g10 s11 g12 g13 g14 g15 g16 g17 g18 g19 g20 s21 g22 g23 g24 s25 s26 s27 s28 g29 g30 g31 g32 g33, ai_ cy g5 40 f5, ai_ cy g6 40 f6, ai_ cy g7 40 f7, ai_ cy g8 40 f8, az_ cy g10 40 f10] [0, 1, 2, 3, 4, 5] (by decide) rfl (fun hPc hDw => ?_)
                    have hFc := va_free (wc := []) hD hS hA [] rfl
                    refine va_calli (va_runV (As := [.int x5_75, .int x7_78]) (rest := [.int x6_78]) ⟨hx, hb, hml, hown, hts⟩ (c_X12_mostOf l D cy H.size mo g5 g6 g7 g8 g9 g10 g12 g13 g14 g15 g16 g17 g18 g19 g20 g22 g23 g24 g29 g30 g31 g32 g33 (0 : Int32) s1 s3 s4 s11 s21 s25 s26 s27 s28 t2 f5 f6 f7 f8 f10 x5_75 x7_78 (by first | with_reducible assumption | omega | assumption) (by first | with_reducible assumption | omega | assumption)) (cwV 2 hts gX12_part_X12_mostOf rfl rfl rfl ⟨rfl, hd_X12_mostOf⟩ ⟨Nat.le_of_ble_eq_true rfl, Nat.le_of_ble_eq_true rfl⟩) ⟨bl_, va_recvX hK.1 hP (ci := 12) (q0 := 0) rfl rfl, fun U hU hW => ⟨rfl, by rw [hU], by rw [hU]; exact hPc, kk_mv hW hK, hDw⟩⟩ rfl rfl hl.1 rfl (lv_room (Nat.le_of_ble_eq_true rfl)) dB_3_2_39.2.1.2.1 ⟨Nat.le_of_ble_eq_true rfl, Nat.le_of_ble_eq_true rfl⟩) hS (fun q _ h => hFc q h) hFc (fun r_136 u t H locs ht hvm hw hB hz1 hk1 hS => ?_)
                    have hP : va_P D vwCl _ H := ro_keep hP hk1
                    refine lv_iload_n hx hb dB_3_2_39.2.1.2.2 rfl (lv_at hl 6 rfl) ?_
                    refine lv_icmp_ge (tgt := 85) hx hb dB_3_2_39.2.2.1.1 (by decide) (fun c_137 => ?_) (fun c_137 => ?_)
                    · have t_137 : a1.toInt ≤ r_136.toInt := Int32.le_iff_toInt_le.mp c_137
                      refine lv_iconst (v := 0) hx hb dB_3_2_39.2.2.2.2 (by decide) ?_
                      refine lv_iand hx hb dB_3_2_40.1.1.1.1 ?_
                      refine lv_topi (fun y_138 ey_138 => ?_)
                      refine lv_istore (lv' := [(6, .int y_138), (7, .int x7_78), (5, .int x5_75), (4, .int x4_75), (3, .int x3_75), (0, .ref mo), (1, .int a1), (2, .int a2)]) hx hb dB_3_2_40.1.1.1.2 hl (by decide) rfl (fun ls hl => ?_)
                      obtain ⟨y_139, ey_139⟩ : ∃ y : Int32, y = x7_78 + 1 := ⟨_, rfl⟩
                      have ty_139 : y_139.toInt = x7_78.toInt + (1 : Int32).toInt := by rw [ey_139]; exact addI (by omega) (by omega)
                      refine lv_iinc (v := y_139) (lv' := [(7, .int y_139), (6, .int y_138), (5, .int x5_75), (4, .int x4_75), (3, .int x3_75), (0, .ref mo), (1, .int a1), (2, .int a2)]) hx hb dB_3_2_40.1.1.2.1 hl (k := 1) rfl (by rw [ey_139]; rfl) (by decide) rfl (fun ls hl => ?_)
                      refine lv_goto (tgt := 60) hx hb dB_3_2_40.1.1.2.2 (by decide) ?_
                      exact ih_78 y_139 y_138 _ _ _ (by omega) (by first | with_reducible assumption | omega | assumption) (by first | with_reducible assumption | omega | assumption) ⟨hP, hD⟩ hS (lv_sub hl [0, 1, 2, 3, 4, 5, 6, 7] rfl)
                    · have t_137 : ¬ a1.toInt ≤ r_136.toInt := fun h => c_137 (Int32.le_iff_toInt_le.mpr h)
                      refine lv_iconst (v := 1) hx hb dB_3_2_39.2.2.1.2 (by decide) ?_
                      refine lv_goto (tgt := 86) hx hb dB_3_2_39.2.2.2.1 (by decide) ?_
                      refine lv_iand hx hb dB_3_2_40.1.1.1.1 ?_
                      refine lv_topi (fun y_140 ey_140 => ?_)
                      refine lv_istore (lv' := [(6, .int y_140), (7, .int x7_78), (5, .int x5_75), (4, .int x4_75), (3, .int x3_75), (0, .ref mo), (1, .int a1), (2, .int a2)]) hx hb dB_3_2_40.1.1.1.2 hl (by decide) rfl (fun ls hl => ?_)
                      obtain ⟨y_141, ey_141⟩ : ∃ y : Int32, y = x7_78 + 1 := ⟨_, rfl⟩
                      have ty_141 : y_141.toInt = x7_78.toInt + (1 : Int32).toInt := by rw [ey_141]; exact addI (by omega) (by omega)
                      refine lv_iinc (v := y_141) (lv' := [(7, .int y_141), (6, .int y_140), (5, .int x5_75), (4, .int x4_75), (3, .int x3_75), (0, .ref mo), (1, .int a1), (2, .int a2)]) hx hb dB_3_2_40.1.1.2.1 hl (k := 1) rfl (by rw [ey_141]; rfl) (by decide) rfl (fun ls hl => ?_)
                      refine lv_goto (tgt := 60) hx hb dB_3_2_40.1.1.2.2 (by decide) ?_
                      exact ih_78 y_141 y_140 _ _ _ (by omega) (by first | with_reducible assumption | omega | assumption) (by first | with_reducible assumption | omega | assumption) ⟨hP, hD⟩ hS (lv_sub hl [0, 1, 2, 3, 4, 5, 6, 7] rfl)
          · exact absurd c_74 (by decide)
        · have e_ := e_.symm
          subst e_
          refine lv_if_ne (tgt := 36) hx hb dB_3_2_38.1.1.2.1 (by decide) (fun c_142 => ?_) (fun c_142 => ?_)
          · exact absurd c_142 (by decide)
          · have _ := c_142
            refine lv_iconst (v := (-1)) hx hb dB_3_2_38.1.1.2.2 (by decide) ?_
            rw [hQ]
            exact W.iret (v := (-1)) hx hb hr (fun t ht hW => ⟨⟨(-1), (), rfl, trivial, by rw [ht]; exact hP, hD⟩, hS.F ht⟩) hS.2.2 dB_3_2_38.1.2.1.1
    · have t_3 : r_2.toInt = (0 : Int32).toInt := congrArg Int32.toInt c_3
      refine lv_bipush (v := (-2)) hx hb dB_3_2_37.2.1.2.1 (by decide) ?_
      rw [hQ]
      exact W.iret (v := (-2)) hx hb hr (fun t ht hW => ⟨⟨(-2), (), rfl, trivial, by rw [ht]; exact hP, hD⟩, hS.F ht⟩) hS.2.2 dB_3_2_37.2.1.2.2
  · have t_1 : ¬ (0 : Int32).toInt ≤ a1.toInt := fun h => c_1 (Int32.le_iff_toInt_le.mpr h)
    refine lv_iconst (v := (-1)) hx hb dB_3_2_37.1.2.1.2 (by decide) ?_
    rw [hQ]
    exact W.iret (v := (-1)) hx hb hr (fun t ht hW => ⟨⟨(-1), (), rfl, trivial, by rw [ht]; exact hP, hD⟩, hS.F ht⟩) hS.2.2 dB_3_2_37.1.2.2.1

set_option maxHeartbeats 4000000 in
set_option maxRecDepth 100000 in
theorem c_X12_dense (l : Launch) (D : va_G) (cy : Nat → ClassId) (sz : Nat) (mo : Nat) (g5 : Nat) (g6 : Nat) (g7 : Nat) (g8 : Nat) (g9 : Nat) (g10 : Nat) (g12 : Nat) (g13 : Nat) (g14 : Nat) (g15 : Nat) (g16 : Nat) (g17 : Nat) (g18 : Nat) (g19 : Nat) (g20 : Nat) (g22 : Nat) (g23 : Nat) (g24 : Nat) (g29 : Nat) (g30 : Nat) (g31 : Nat) (g32 : Nat) (g33 : Nat) (s0 : Int32) (s1 : Int32) (s3 : Int32) (s4 : Int32) (s11 : Int32) (s21 : Int32) (s25 : Int32) (s26 : Int32) (s27 : Int32) (s28 : Int32) (t2 : Int64) (f5 : Nat → Int32) (f6 : Nat → Int32) (f7 : Nat → Int32) (f8 : Nat → Int32) (f10 : Nat → Int32) (a1 : Int32) (hN : 0 ≤ s4.toInt ∧ s4.toInt ≤ 40) (hPl : 0 ≤ s3.toInt ∧ s3.toInt ≤ 12) : Met l yX12_dense wsX12_dense ({ frames := 1, cells := 0, slots := 0, locals := 25 }) (va_Pc [.ref mo, .int a1] (fun U => U.heap.size = sz ∧ va_P D vwCl [ob12_0_ mo s0 s1 t2 s3 s4 g5 g6 g7 g8 g9 g10 s11 g12 g13 g14 g15 g16 g17 g18 g19 g20 s21 g22 g23 g24 s25 s26 s27 s28 g29 g30 g31 g32 g33, ai_ cy g5 40 f5, ai_ cy g6 40 f6, ai_ cy g7 40 f7, ai_ cy g8 40 f8, az_ cy g10 40 f10] U.heap ∧ kk_ D cy U ∧ va_D (fun _ => True) [ob12_0_ mo s0 s1 t2 s3 s4 g5 g6 g7 g8 g9 g10 s11 g12 g13 g14 g15 g16 g17 g18 g19 g20 s21 g22 g23 g24 s25 s26 s27 s28 g29 g30 g31 g32 g33, ai_ cy g5 40 f5, ai_ cy g6 40 f6, ai_ cy g7 40 f7, ai_ cy g8 40 f8, az_ cy g10 40 f10])) (va_Qi (fun (r : Int32) (_ : Unit) => True) (fun (_ : Unit) (t : State) => va_P D vwCl [ob12_0_ mo 0 s1 t2 s3 s4 g5 g6 g7 g8 g9 g10 s11 g12 g13 g14 g15 g16 g17 g18 g19 g20 s21 g22 g23 g24 s25 s26 s27 s28 g29 g30 g31 g32 g33, ai_ cy g5 40 f5, ai_ cy g6 40 f6, ai_ cy g7 40 f7, ai_ cy g8 40 f8, az_ cy g10 40 f10] t.heap ∧ va_D (va_A [ob12_0_ mo s0 s1 t2 s3 s4 g5 g6 g7 g8 g9 g10 s11 g12 g13 g14 g15 g16 g17 g18 g19 g20 s21 g22 g23 g24 s25 s26 s27 s28 g29 g30 g31 g32 g33, ai_ cy g5 40 f5, ai_ cy g6 40 f6, ai_ cy g7 40 f7, ai_ cy g8 40 f8, az_ cy g10 40 f10] sz) [ob12_0_ mo 0 s1 t2 s3 s4 g5 g6 g7 g8 g9 g10 s11 g12 g13 g14 g15 g16 g17 g18 g19 g20 s21 g22 g23 g24 s25 s26 s27 s28 g29 g30 g31 g32 g33, ai_ cy g5 40 f5, ai_ cy g6 40 f6, ai_ cy g7 40 f7, ai_ cy g8 40 f8, az_ cy g10 40 f10]) (va_A [ob12_0_ mo s0 s1 t2 s3 s4 g5 g6 g7 g8 g9 g10 s11 g12 g13 g14 g15 g16 g17 g18 g19 g20 s21 g22 g23 g24 s25 s26 s27 s28 g29 g30 g31 g32 g33, ai_ cy g5 40 f5, ai_ cy g6 40 f6, ai_ cy g7 40 f7, ai_ cy g8 40 f8, az_ cy g10 40 f10] sz)) 0 0 (va_A [ob12_0_ mo s0 s1 t2 s3 s4 g5 g6 g7 g8 g9 g10 s11 g12 g13 g14 g15 g16 g17 g18 g19 g20 s21 g22 g23 g24 s25 s26 s27 s28 g29 g30 g31 g32 g33, ai_ cy g5 40 f5, ai_ cy g6 40 f6, ai_ cy g7 40 f7, ai_ cy g8 40 f8, az_ cy g10 40 f10] sz) := by
  refine ofQ (cc := cX12_dense) (maxL := 8) (ret := (some .int)) (by decide) rfl ?_
  intro p e s m args below meth c s₁ Q hQ B hml hv
  obtain ⟨rfl, hsz, hP, hK, hD0⟩ := hv
  have hx := B.exec
  have hb := B.bytes
  have hr := B.returns
  have hts := atoms_spec (ws := wsX12_dense) B.pre
  have hown : s.vm.findClass RX12 = some m.cls := by have h_ := findClass_of_methodNamed B.named; exact h_
  have hlocks := B.notSynchronized
  subst hsz
  have hD := hD0.self (sz := s.heap.size)
  generalize hAe : va_A [ob12_0_ mo s0 s1 t2 s3 s4 g5 g6 g7 g8 g9 g10 s11 g12 g13 g14 g15 g16 g17 g18 g19 g20 s21 g22 g23 g24 s25 s26 s27 s28 g29 g30 g31 g32 g33, ai_ cy g5 40 f5, ai_ cy g6 40 f6, ai_ cy g7 40 f7, ai_ cy g8 40 f8, az_ cy g10 40 f10] s.heap.size = A at hD hQ
  have hA : ∀ q : Nat, s.heap.size ≤ q → A q := fun q h => by rw [← hAe]; exact Or.inr h
  have hS : va_S A s.heap s.heap [] := va_S.rf
  have hl := lv_entry ([.ref mo, .int a1]) (n := 8) (Nat.le_of_ble_eq_true rfl)
  rw [lg_entry_eq]
  generalize (lg_sl ([.ref mo, .int a1]) ++ List.replicate (8 - (lg_sl ([.ref mo, .int a1])).length) Slot.unset).toArray = ls at hl ⊢
  have hl : lv_has ls 8 [(0, .ref mo), (1, .int a1)] := hl
  have zm2 : ((-2) : Int32).toInt = -2 := by decide
  have zm1 : ((-1) : Int32).toInt = -1 := by decide
  have z0 : (0 : Int32).toInt = 0 := by decide
  have zl0 : (0 : Int64).toInt = 0 := by decide
  have z1 : (1 : Int32).toInt = 1 := by decide
  have zl2 : (2 : Int64).toInt = 2 := by decide
  refine lv_aload_n hx hb dB_3_2_27.1.1.1.1 rfl (lv_at hl 0 rfl) ?_
  refine lv_iconst (v := 0) hx hb dB_3_2_27.1.1.1.2 (by decide) ?_
  refine va_put (ci := 12) (v := .int 0) (ty := .int) (C := RX12) (T := TX12) (N := 34) hx hb hts (fun _ h => List.mem_cons_of_mem _ (List.mem_append_right _ h)) tyX12 tyX12_ok nmX12 hown hK.1 hP hD hS 0 rfl rfl 0 (by decide) (hts (.fieldLink RX12 85 "CutAtlasModel" "thrown" "I") (List.mem_of_getElem? (i := 1) rfl)) (fun _ h9 => h9) rfl (by decide +kernel) rfl rfl (Nat.le_of_ble_eq_true rfl) dB_3_2_27.1.1.2.1 (fun H locs hP hD hS => ?_)
  refine pd_K [ob12_0_ mo 0 s1 t2 s3 s4 g5 g6 g7 g8 g9 g10 s11 g12 g13 g14 g15 g16 g17 g18 g19 g20 s21 g22 g23 g24 s25 s26 s27 s28 g29 g30 g31 g32 g33, ai_ cy g5 40 f5, ai_ cy g6 40 f6, ai_ cy g7 40 f7, ai_ cy g8 40 f8, az_ cy g10 40 f10] hP hD (fun hP hD => ?_)
  refine lv_iload_n hx hb dB_3_2_27.1.1.2.2 rfl (lv_at hl 1 rfl) ?_
  refine lv_i2l (v := a1.toInt64) hx hb dB_3_2_27.1.2.1.1 rfl ?_
  have q_6 : (a1.toInt64).toInt = a1.toInt := Int32.toInt_toInt64 a1
  refine lv_lconst (v := 0) hx hb dB_3_2_27.1.2.1.2 (by decide) ?_
  refine lv_ldc2 (v := 2) hx hb hown (hts (.constantLong RX12 149 (2)) (List.mem_of_getElem? (i := 2) rfl)) dB_3_2_27.1.2.2.1 ?_
  refine ct_R hP hD [] [] (by decide) rfl (fun hPc hDw => ?_)
  have hFc := va_free (wc := []) hD hS hA [] rfl
  refine va_calli (va_runS (As := [.long a1.toInt64, .long 0, .long 2]) (rest := []) ⟨hx, hb, hml, hown, hts⟩ (c_X12_in l D cy H.size a1.toInt64 (0 : Int64) (2 : Int64)) (va_cwS 3 hts gX12_dense_X12_in rfl rfl rfl hd_X12_in ⟨Nat.le_of_ble_eq_true rfl, Nat.le_of_ble_eq_true rfl⟩) ⟨bl_, fun U hU hW => ⟨rfl, by rw [hU], by rw [hU]; exact hPc, kk_mv hW hK, hDw⟩⟩ rfl rfl hl.1 rfl (lv_room (Nat.le_of_ble_eq_true rfl)) dB_3_2_27.1.2.2.2 ⟨Nat.le_of_ble_eq_true rfl, Nat.le_of_ble_eq_true rfl⟩) hS (fun q _ h => hFc q h) hFc (fun r_1 u t H locs ht hvm hw hB hz1 hk1 hS => ?_)
  have hP : va_P D vwCl _ H := ro_keep hP hk1
  rcases hw with ⟨w_2, e_⟩ | ⟨w_2, e_⟩
  · have e_ := e_.symm
    subst e_
    refine lv_if_ne (tgt := 19) hx hb dB_3_2_27.2.1.1.1 (by decide) (fun c_3 => ?_) (fun c_3 => ?_)
    · have _ := c_3
      refine lv_aload_n hx hb dB_3_2_27.2.1.2.2 rfl (lv_at hl 0 rfl) ?_
      refine ct_R hP hD [ob12_0_ mo 0 s1 t2 s3 s4 g5 g6 g7 g8 g9 g10 s11 g12 g13 g14 g15 g16 g17 g18 g19 g20 s21 g22 g23 g24 s25 s26 s27 s28 g29 g30 g31 g32 g33, ai_ cy g5 40 f5, az_ cy g10 40 f10] [0, 1, 5] (by decide) rfl (fun hPc hDw => ?_)
      have hFc := va_free (wc := []) hD hS hA [] rfl
      refine va_calli (va_runV (As := []) (rest := []) ⟨hx, hb, hml, hown, hts⟩ (c_X12_isWhole l D cy H.size mo g5 g6 g7 g8 g9 g10 g12 g13 g14 g15 g16 g17 g18 g19 g20 g22 g23 g24 g29 g30 g31 g32 g33 (0 : Int32) s1 s3 s4 s11 s21 s25 s26 s27 s28 t2 f5 f10 (by first | with_reducible assumption | omega | assumption)) (cwV 0 hts gX12_dense_X12_isWhole rfl rfl rfl ⟨rfl, hd_X12_isWhole⟩ ⟨Nat.le_of_ble_eq_true rfl, Nat.le_of_ble_eq_true rfl⟩) ⟨bl_, va_recvX hK.1 hP (ci := 12) (q0 := 0) rfl rfl, fun U hU hW => ⟨rfl, by rw [hU], by rw [hU]; exact hPc, kk_mv hW hK, hDw⟩⟩ rfl rfl hl.1 rfl (lv_room (Nat.le_of_ble_eq_true rfl)) dB_3_2_27.2.2.1.1 ⟨Nat.le_of_ble_eq_true rfl, Nat.le_of_ble_eq_true rfl⟩) hS (fun q _ h => hFc q h) hFc (fun r_4 u t H locs ht hvm hw hB hz1 hk1 hS => ?_)
      have hP : va_P D vwCl _ H := ro_keep hP hk1
      have f0_r_4 := hw
      refine lv_if_ne (tgt := 29) hx hb dB_3_2_27.2.2.1.2 (by decide) (fun c_5 => ?_) (fun c_5 => ?_)
      · have t_5 : ¬ r_4.toInt = (0 : Int32).toInt := fun h => c_5 (Int32.toInt_inj.mp h)
        refine lv_iconst (v := 0) hx hb dB_3_2_28.1.1.1.1 (by decide) ?_
        refine lv_istore_n (lv' := [(2, .int 0), (0, .ref mo), (1, .int a1)]) hx hb dB_3_2_28.1.1.1.2 rfl hl (by decide) rfl (fun ls hl => ?_)
        refine lv_iconst (v := 0) hx hb dB_3_2_28.1.1.2.1 (by decide) ?_
        refine lv_istore_n (lv' := [(3, .int 0), (2, .int 0), (0, .ref mo), (1, .int a1)]) hx hb dB_3_2_28.1.1.2.2 rfl hl (by decide) rfl (fun ls hl => ?_)
        refine lv_iconst (v := 1) hx hb dB_3_2_28.1.2.1.1 (by decide) ?_
        refine lv_istore (lv' := [(4, .int 1), (3, .int 0), (2, .int 0), (0, .ref mo), (1, .int a1)]) hx hb dB_3_2_28.1.2.1.2 hl (by decide) rfl (fun ls hl => ?_)
        suffices LOOP_6 : ∀ (n_6 : Nat) (x4_6 : Int32) (x3_6 : Int32) (x2_6 : Int32) (H : Heap) (locs : List Loc) (ls : Array Slot), 4100 - x4_6.toInt < (n_6 : Int) → (0 ≤ x4_6.toInt) → (x4_6.toInt ≤ 4100) → pd_2 D vwCl A [ob12_0_ mo 0 s1 t2 s3 s4 g5 g6 g7 g8 g9 g10 s11 g12 g13 g14 g15 g16 g17 g18 g19 g20 s21 g22 g23 g24 s25 s26 s27 s28 g29 g30 g31 g32 g33, ai_ cy g5 40 f5, ai_ cy g6 40 f6, ai_ cy g7 40 f7, ai_ cy g8 40 f8, az_ cy g10 40 f10] H → va_S A s.heap H locs → lv_has ls 8 [(4, .int x4_6), (3, .int x3_6), (2, .int x2_6), (0, .ref mo), (1, .int a1)] → W p l e ({ frames := 1, cells := 0, slots := 0, locals := 25 } : Room) s m (([.ref mo, .int a1] : List Value).toArray) below meth c H locs 0 0 Q (F0 m 36 ls []) from LOOP_6 ((4100 - (1 : Int32).toInt).toNat + 1) (1 : Int32) (0 : Int32) (0 : Int32) _ _ _ (by omega) (by first | with_reducible assumption | omega | assumption) (by first | with_reducible assumption | omega | assumption) ⟨hP, hD⟩ hS (lv_sub hl [0, 1, 2, 3, 4] rfl)
        intro n_6
        induction n_6 with
        | zero =>
          intro x4_6 x3_6 x2_6 H locs ls hm v0_6 v1_6 hPD hS hl; obtain ⟨hP, hD⟩ := hPD
          exact absurd hm (by omega)
        | succ n_6 ih_6 =>
          intro x4_6 x3_6 x2_6 H locs ls hm v0_6 v1_6 hPD hS hl; obtain ⟨hP, hD⟩ := hPD
          refine lv_iload hx hb dB_3_2_28.1.2.2.1 (lv_at hl 0 rfl) ?_
          refine lv_iconst (v := 1) hx hb dB_3_2_28.1.2.2.2 (by decide) ?_
          refine lv_aload_n hx hb dB_3_2_28.2.1.1.1 rfl (lv_at hl 3 rfl) ?_
          refine va_get (ci := 12) (v := .int s3) (C := RX12) (T := TX12) (N := 34) hx hb hts (fun _ h => List.mem_cons_of_mem _ (List.mem_append_right _ h)) hown hK.1 hP 0 rfl rfl 3 (by decide) (hts (.fieldLink RX12 88 "CutAtlasModel" "places" "I") (List.mem_of_getElem? (i := 3) rfl)) (fun _ h9 => h9) rfl dB_3_2_28.2.1.1.2 ?_
          refine lv_ishl hx hb dB_3_2_28.2.1.2.1 ?_
          refine lv_topi (fun y_7 ey_7 => ?_)
          have ty_7 : 1 ≤ y_7.toInt ∧ y_7.toInt ≤ 4096 := by rw [ey_7]; exact shl1 (by omega) (by omega)
          refine lv_icmp_ge (tgt := 189) hx hb dB_3_2_28.2.1.2.2 (by decide) (fun c_8 => ?_) (fun c_8 => ?_)
          · have t_8 : y_7.toInt ≤ x4_6.toInt := Int32.le_iff_toInt_le.mp c_8
            refine lv_iload_n hx hb dB_3_3_19.1.1.1 rfl (lv_at hl 4 rfl) ?_
            refine lv_if_ne (tgt := 197) hx hb dB_3_3_19.1.1.2.1 (by decide) (fun c_9 => ?_) (fun c_9 => ?_)
            · have t_9 : ¬ a1.toInt = (0 : Int32).toInt := fun h => c_9 (Int32.toInt_inj.mp h)
              refine lv_iload_n hx hb dB_3_3_19.1.2.2.1 rfl (lv_at hl 4 rfl) ?_
              refine lv_iconst (v := 1) hx hb dB_3_3_19.1.2.2.2 (by decide) ?_
              refine lv_icmp_ne (tgt := 206) hx hb dB_3_3_19.2.1.1 (by decide) (fun c_10 => ?_) (fun c_10 => ?_)
              · have t_10 : ¬ a1.toInt = (1 : Int32).toInt := fun h => c_10 (Int32.toInt_inj.mp h)
                refine lv_iload_n hx hb dB_3_3_19.2.2.1 rfl (lv_at hl 2 rfl) ?_
                refine ct_R hP hD [] [] (by decide) rfl (fun hPc hDw => ?_)
                have hFc := va_free (wc := []) hD hS hA [] rfl
                refine va_calli (va_runS (As := [.int x2_6]) (rest := []) ⟨hx, hb, hml, hown, hts⟩ (c_X12_bitsOf l D cy H.size x2_6) (va_cwS 1 hts gX12_dense_X12_bitsOf rfl rfl rfl hd_X12_bitsOf ⟨Nat.le_of_ble_eq_true rfl, Nat.le_of_ble_eq_true rfl⟩) ⟨bl_, fun U hU hW => ⟨rfl, by rw [hU], by rw [hU]; exact hPc, kk_mv hW hK, hDw⟩⟩ rfl rfl hl.1 rfl (lv_room (Nat.le_of_ble_eq_true rfl)) dB_3_3_19.2.2.2.1 ⟨Nat.le_of_ble_eq_true rfl, Nat.le_of_ble_eq_true rfl⟩) hS (fun q _ h => hFc q h) hFc (fun r_11 u t H locs ht hvm hw hB hz1 hk1 hS => ?_)
                have hP : va_P D vwCl _ H := ro_keep hP hk1
                rw [hQ]
                exact W.iret (v := r_11) hx hb hr (fun t ht hW => ⟨⟨r_11, (), rfl, trivial, by rw [ht]; exact hP, hD⟩, hS.F ht⟩) hS.2.2 dB_3_3_19.2.2.2.2
              · have t_10 : a1.toInt = (1 : Int32).toInt := congrArg Int32.toInt c_10
                refine lv_iload_n hx hb dB_3_3_19.2.1.2.1 rfl (lv_at hl 1 rfl) ?_
                refine lv_goto (tgt := 210) hx hb dB_3_3_19.2.1.2.2 (by decide) ?_
                rw [hQ]
                exact W.iret (v := x3_6) hx hb hr (fun t ht hW => ⟨⟨x3_6, (), rfl, trivial, by rw [ht]; exact hP, hD⟩, hS.F ht⟩) hS.2.2 dB_3_3_19.2.2.2.2
            · have t_9 : a1.toInt = (0 : Int32).toInt := congrArg Int32.toInt c_9
              refine lv_iload_n hx hb dB_3_3_19.1.1.2.2 rfl (lv_at hl 2 rfl) ?_
              refine lv_goto (tgt := 210) hx hb dB_3_3_19.1.2.1 (by decide) ?_
              rw [hQ]
              exact W.iret (v := x2_6) hx hb hr (fun t ht hW => ⟨⟨x2_6, (), rfl, trivial, by rw [ht]; exact hP, hD⟩, hS.F ht⟩) hS.2.2 dB_3_3_19.2.2.2.2
          · have t_8 : ¬ y_7.toInt ≤ x4_6.toInt := fun h => c_8 (Int32.le_iff_toInt_le.mpr h)
            refine lv_iconst (v := 0) hx hb dB_3_2_28.2.2.1.1 (by decide) ?_
            refine lv_istore (lv' := [(5, .int 0), (4, .int x4_6), (3, .int x3_6), (2, .int x2_6), (0, .ref mo), (1, .int a1)]) hx hb dB_3_2_28.2.2.1.2 hl (by decide) rfl (fun ls hl => ?_)
            refine lv_iconst (v := 0) hx hb dB_3_2_28.2.2.2.1 (by decide) ?_
            refine lv_istore (lv' := [(6, .int 0), (5, .int 0), (4, .int x4_6), (3, .int x3_6), (2, .int x2_6), (0, .ref mo), (1, .int a1)]) hx hb dB_3_2_28.2.2.2.2 hl (by decide) rfl (fun ls hl => ?_)
            suffices LOOP_12 : ∀ (n_12 : Nat) (x6_12 : Int32) (x5_12 : Int32) (H : Heap) (locs : List Loc) (ls : Array Slot), s4.toInt - x6_12.toInt < (n_12 : Int) → (0 ≤ x6_12.toInt) → (x6_12.toInt ≤ s4.toInt) → pd_2 D vwCl A [ob12_0_ mo 0 s1 t2 s3 s4 g5 g6 g7 g8 g9 g10 s11 g12 g13 g14 g15 g16 g17 g18 g19 g20 s21 g22 g23 g24 s25 s26 s27 s28 g29 g30 g31 g32 g33, ai_ cy g5 40 f5, ai_ cy g6 40 f6, ai_ cy g7 40 f7, ai_ cy g8 40 f8, az_ cy g10 40 f10] H → va_S A s.heap H locs → lv_has ls 8 [(6, .int x6_12), (5, .int x5_12), (4, .int x4_6), (3, .int x3_6), (2, .int x2_6), (0, .ref mo), (1, .int a1)] → W p l e ({ frames := 1, cells := 0, slots := 0, locals := 25 } : Room) s m (([.ref mo, .int a1] : List Value).toArray) below meth c H locs 0 0 Q (F0 m 53 ls []) from LOOP_12 ((s4.toInt - (0 : Int32).toInt).toNat + 1) (0 : Int32) (0 : Int32) _ _ _ (by omega) (by first | with_reducible assumption | omega | assumption) (by first | with_reducible assumption | omega | assumption) ⟨hP, hD⟩ hS (lv_sub hl [0, 1, 2, 3, 4, 5, 6] rfl)
            intro n_12
            induction n_12 with
            | zero =>
              intro x6_12 x5_12 H locs ls hm v0_12 v1_12 hPD hS hl; obtain ⟨hP, hD⟩ := hPD
              exact absurd hm (by omega)
            | succ n_12 ih_12 =>
              intro x6_12 x5_12 H locs ls hm v0_12 v1_12 hPD hS hl; obtain ⟨hP, hD⟩ := hPD
              refine lv_iload hx hb dB_3_2_29.1.1.1.1 (lv_at hl 0 rfl) ?_
              refine lv_aload_n hx hb dB_3_2_29.1.1.1.2 rfl (lv_at hl 5 rfl) ?_
              refine va_get (ci := 12) (v := .int s4) (C := RX12) (T := TX12) (N := 34) hx hb hts (fun _ h => List.mem_cons_of_mem _ (List.mem_append_right _ h)) hown hK.1 hP 0 rfl rfl 4 (by decide) (hts (.fieldLink RX12 95 "CutAtlasModel" "lines" "I") (List.mem_of_getElem? (i := 4) rfl)) (fun _ h9 => h9) rfl dB_3_2_29.1.1.2.1 ?_
              refine lv_icmp_ge (tgt := 126) hx hb dB_3_2_29.1.1.2.2 (by decide) (fun c_13 => ?_) (fun c_13 => ?_)
              · have t_13 : s4.toInt ≤ x6_12.toInt := Int32.le_iff_toInt_le.mp c_13
                refine lv_iload hx hb dB_3_3_16.2.2.1.2 (lv_at hl 1 rfl) ?_
                refine lv_i2l (v := x5_12.toInt64) hx hb dB_3_3_16.2.2.2.1 rfl ?_
                have q_128 : (x5_12.toInt64).toInt = x5_12.toInt := Int32.toInt_toInt64 x5_12
                refine lv_iload_n hx hb dB_3_3_16.2.2.2.2 rfl (lv_at hl 4 rfl) ?_
                refine ct_R hP hD [] [] (by decide) rfl (fun hPc hDw => ?_)
                have hFc := va_free (wc := []) hD hS hA [] rfl
                refine va_calli (va_runS (As := [.int x2_6]) (rest := [.long x5_12.toInt64]) ⟨hx, hb, hml, hown, hts⟩ (c_X12_bitsOf l D cy H.size x2_6) (va_cwS 1 hts gX12_dense_X12_bitsOf rfl rfl rfl hd_X12_bitsOf ⟨Nat.le_of_ble_eq_true rfl, Nat.le_of_ble_eq_true rfl⟩) ⟨bl_, fun U hU hW => ⟨rfl, by rw [hU], by rw [hU]; exact hPc, kk_mv hW hK, hDw⟩⟩ rfl rfl hl.1 rfl (lv_room (Nat.le_of_ble_eq_true rfl)) dB_3_3_17.1.1.1.1 ⟨Nat.le_of_ble_eq_true rfl, Nat.le_of_ble_eq_true rfl⟩) hS (fun q _ h => hFc q h) hFc (fun r_14 u t H locs ht hvm hw hB hz1 hk1 hS => ?_)
                have hP : va_P D vwCl _ H := ro_keep hP hk1
                refine lv_i2l (v := r_14.toInt64) hx hb dB_3_3_17.1.1.1.2 rfl ?_
                have q_133 : (r_14.toInt64).toInt = r_14.toInt := Int32.toInt_toInt64 r_14
                refine lv_lmul hx hb dB_3_3_17.1.1.2.1 ?_
                refine lv_topl (fun y_15 ey_15 => ?_)
                refine lv_iload_n hx hb dB_3_3_17.1.1.2.2 rfl (lv_at hl 3 rfl) ?_
                refine lv_i2l (v := x3_6.toInt64) hx hb dB_3_3_17.1.2.1.1 rfl ?_
                have q_136 : (x3_6.toInt64).toInt = x3_6.toInt := Int32.toInt_toInt64 x3_6
                refine lv_iload hx hb dB_3_3_17.1.2.1.2 (lv_at hl 2 rfl) ?_
                refine ct_R hP hD [] [] (by decide) rfl (fun hPc hDw => ?_)
                have hFc := va_free (wc := []) hD hS hA [] rfl
                refine va_calli (va_runS (As := [.int x4_6]) (rest := [.long x3_6.toInt64, .long y_15]) ⟨hx, hb, hml, hown, hts⟩ (c_X12_bitsOf l D cy H.size x4_6) (va_cwS 1 hts gX12_dense_X12_bitsOf rfl rfl rfl hd_X12_bitsOf ⟨Nat.le_of_ble_eq_true rfl, Nat.le_of_ble_eq_true rfl⟩) ⟨bl_, fun U hU hW => ⟨rfl, by rw [hU], by rw [hU]; exact hPc, kk_mv hW hK, hDw⟩⟩ rfl rfl hl.1 rfl (lv_room (Nat.le_of_ble_eq_true rfl)) dB_3_3_17.1.2.2.1 ⟨Nat.le_of_ble_eq_true rfl, Nat.le_of_ble_eq_true rfl⟩) hS (fun q _ h => hFc q h) hFc (fun r_16 u t H locs ht hvm hw hB hz1 hk1 hS => ?_)
                have hP : va_P D vwCl _ H := ro_keep hP hk1
                refine lv_i2l (v := r_16.toInt64) hx hb dB_3_3_17.1.2.2.2 rfl ?_
                have q_142 : (r_16.toInt64).toInt = r_16.toInt := Int32.toInt_toInt64 r_16
                refine lv_lmul hx hb dB_3_3_17.2.1.1.1 ?_
                refine lv_topl (fun y_17 ey_17 => ?_)
                refine lv_lsub hx hb dB_3_3_17.2.1.1.2 ?_
                refine lv_topl (fun y_18 ey_18 => ?_)
                refine lv_lstore (lv' := [(6, .long y_18), (5, .int x5_12), (4, .int x4_6), (3, .int x3_6), (2, .int x2_6), (0, .ref mo), (1, .int a1)]) hx hb dB_3_3_17.2.1.2.1 hl (by decide) rfl (fun ls hl => ?_)
                refine lv_iload_n hx hb dB_3_3_17.2.1.2.2 rfl (lv_at hl 4 rfl) ?_
                refine lv_if_eq (tgt := 177) hx hb dB_3_3_17.2.2.1.1 (by decide) (fun c_19 => ?_) (fun c_19 => ?_)
                · have t_19 : x2_6.toInt = (0 : Int32).toInt := congrArg Int32.toInt c_19
                  refine lv_iload hx hb dB_3_3_18.2.1.2.1 (lv_at hl 2 rfl) ?_
                  refine lv_istore_n (lv' := [(2, .int x4_6), (6, .long y_18), (5, .int x5_12), (4, .int x4_6), (3, .int x3_6), (0, .ref mo), (1, .int a1)]) hx hb dB_3_3_18.2.1.2.2 rfl hl (by decide) rfl (fun ls hl => ?_)
                  refine lv_iload hx hb dB_3_3_18.2.2.1.1 (lv_at hl 2 rfl) ?_
                  refine lv_istore_n (lv' := [(3, .int x5_12), (2, .int x4_6), (6, .long y_18), (5, .int x5_12), (4, .int x4_6), (0, .ref mo), (1, .int a1)]) hx hb dB_3_3_18.2.2.1.2 rfl hl (by decide) rfl (fun ls hl => ?_)
                  obtain ⟨y_20, ey_20⟩ : ∃ y : Int32, y = x4_6 + 1 := ⟨_, rfl⟩
                  have ty_20 : y_20.toInt = x4_6.toInt + (1 : Int32).toInt := by rw [ey_20]; exact addI (by omega) (by omega)
                  refine lv_iinc (v := y_20) (lv' := [(4, .int y_20), (3, .int x5_12), (2, .int x4_6), (6, .long y_18), (5, .int x5_12), (0, .ref mo), (1, .int a1)]) hx hb dB_3_3_18.2.2.2.1 hl (k := 4) rfl (by rw [ey_20]; rfl) (by decide) rfl (fun ls hl => ?_)
                  refine lv_goto (tgt := 36) hx hb dB_3_3_18.2.2.2.2 (by decide) ?_
                  exact ih_6 y_20 x5_12 x4_6 _ _ _ (by omega) (by first | with_reducible assumption | omega | assumption) (by first | with_reducible assumption | omega | assumption) ⟨hP, hD⟩ hS (lv_sub hl [0, 1, 2, 5, 6] rfl)
                · have t_19 : ¬ x2_6.toInt = (0 : Int32).toInt := fun h => c_19 (Int32.toInt_inj.mp h)
                  refine lv_lload hx hb dB_3_3_17.2.2.1.2 (lv_at hl 0 rfl) ?_
                  refine lv_lconst (v := 0) hx hb dB_3_3_17.2.2.2.1 (by decide) ?_
                  refine W.lcmp hx hb dB_3_3_17.2.2.2.2 ?_
                  refine lv_if_gt (tgt := 177) hx hb dB_3_3_18.1.1.1.1 (by decide) (fun c_21 => ?_) (fun c_21 => ?_)
                  · have t_21 : (0 : Int64).toInt < y_18.toInt := Int64.lt_iff_toInt_lt.mp ((lg_cmp_gt y_18 0).mp c_21)
                    refine lv_iload hx hb dB_3_3_18.2.1.2.1 (lv_at hl 2 rfl) ?_
                    refine lv_istore_n (lv' := [(2, .int x4_6), (6, .long y_18), (5, .int x5_12), (4, .int x4_6), (3, .int x3_6), (0, .ref mo), (1, .int a1)]) hx hb dB_3_3_18.2.1.2.2 rfl hl (by decide) rfl (fun ls hl => ?_)
                    refine lv_iload hx hb dB_3_3_18.2.2.1.1 (lv_at hl 2 rfl) ?_
                    refine lv_istore_n (lv' := [(3, .int x5_12), (2, .int x4_6), (6, .long y_18), (5, .int x5_12), (4, .int x4_6), (0, .ref mo), (1, .int a1)]) hx hb dB_3_3_18.2.2.1.2 rfl hl (by decide) rfl (fun ls hl => ?_)
                    obtain ⟨y_22, ey_22⟩ : ∃ y : Int32, y = x4_6 + 1 := ⟨_, rfl⟩
                    have ty_22 : y_22.toInt = x4_6.toInt + (1 : Int32).toInt := by rw [ey_22]; exact addI (by omega) (by omega)
                    refine lv_iinc (v := y_22) (lv' := [(4, .int y_22), (3, .int x5_12), (2, .int x4_6), (6, .long y_18), (5, .int x5_12), (0, .ref mo), (1, .int a1)]) hx hb dB_3_3_18.2.2.2.1 hl (k := 4) rfl (by rw [ey_22]; rfl) (by decide) rfl (fun ls hl => ?_)
                    refine lv_goto (tgt := 36) hx hb dB_3_3_18.2.2.2.2 (by decide) ?_
                    exact ih_6 y_22 x5_12 x4_6 _ _ _ (by omega) (by first | with_reducible assumption | omega | assumption) (by first | with_reducible assumption | omega | assumption) ⟨hP, hD⟩ hS (lv_sub hl [0, 1, 2, 5, 6] rfl)
                  · have t_21 : ¬ (0 : Int64).toInt < y_18.toInt := fun h => c_21 ((lg_cmp_gt y_18 0).mpr (Int64.lt_iff_toInt_lt.mpr h))
                    refine lv_lload hx hb dB_3_3_18.1.1.1.2 (lv_at hl 0 rfl) ?_
                    refine lv_lconst (v := 0) hx hb dB_3_3_18.1.1.2.1 (by decide) ?_
                    refine W.lcmp hx hb dB_3_3_18.1.1.2.2 ?_
                    refine lv_if_ne (tgt := 183) hx hb dB_3_3_18.1.2.1.1 (by decide) (fun c_23 => ?_) (fun c_23 => ?_)
                    · have t_23 : ¬ y_18.toInt = (0 : Int64).toInt := fun h => c_23 ((lg_cmp_eq y_18 0).mpr (Int64.toInt_inj.mp h))
                      obtain ⟨y_24, ey_24⟩ : ∃ y : Int32, y = x4_6 + 1 := ⟨_, rfl⟩
                      have ty_24 : y_24.toInt = x4_6.toInt + (1 : Int32).toInt := by rw [ey_24]; exact addI (by omega) (by omega)
                      refine lv_iinc (v := y_24) (lv' := [(4, .int y_24), (6, .long y_18), (5, .int x5_12), (3, .int x3_6), (2, .int x2_6), (0, .ref mo), (1, .int a1)]) hx hb dB_3_3_18.2.2.2.1 hl (k := 2) rfl (by rw [ey_24]; rfl) (by decide) rfl (fun ls hl => ?_)
                      refine lv_goto (tgt := 36) hx hb dB_3_3_18.2.2.2.2 (by decide) ?_
                      exact ih_6 y_24 x3_6 x2_6 _ _ _ (by omega) (by first | with_reducible assumption | omega | assumption) (by first | with_reducible assumption | omega | assumption) ⟨hP, hD⟩ hS (lv_sub hl [0, 3, 4, 5, 6] rfl)
                    · have t_23 : y_18.toInt = (0 : Int64).toInt := congrArg Int64.toInt ((lg_cmp_eq y_18 0).mp c_23)
                      refine lv_iload hx hb dB_3_3_18.1.2.1.2 (lv_at hl 2 rfl) ?_
                      refine ct_R hP hD [] [] (by decide) rfl (fun hPc hDw => ?_)
                      have hFc := va_free (wc := []) hD hS hA [] rfl
                      refine va_calli (va_runS (As := [.int x4_6]) (rest := []) ⟨hx, hb, hml, hown, hts⟩ (c_X12_bitsOf l D cy H.size x4_6) (va_cwS 1 hts gX12_dense_X12_bitsOf rfl rfl rfl hd_X12_bitsOf ⟨Nat.le_of_ble_eq_true rfl, Nat.le_of_ble_eq_true rfl⟩) ⟨bl_, fun U hU hW => ⟨rfl, by rw [hU], by rw [hU]; exact hPc, kk_mv hW hK, hDw⟩⟩ rfl rfl hl.1 rfl (lv_room (Nat.le_of_ble_eq_true rfl)) dB_3_3_18.1.2.2.1 ⟨Nat.le_of_ble_eq_true rfl, Nat.le_of_ble_eq_true rfl⟩) hS (fun q _ h => hFc q h) hFc (fun r_25 u t H locs ht hvm hw hB hz1 hk1 hS => ?_)
                      have hP : va_P D vwCl _ H := ro_keep hP hk1
                      refine lv_iload_n hx hb dB_3_3_18.1.2.2.2 rfl (lv_at hl 4 rfl) ?_
                      refine ct_R hP hD [] [] (by decide) rfl (fun hPc hDw => ?_)
                      have hFc := va_free (wc := []) hD hS hA [] rfl
                      refine va_calli (va_runS (As := [.int x2_6]) (rest := [.int r_25]) ⟨hx, hb, hml, hown, hts⟩ (c_X12_bitsOf l D cy H.size x2_6) (va_cwS 1 hts gX12_dense_X12_bitsOf rfl rfl rfl hd_X12_bitsOf ⟨Nat.le_of_ble_eq_true rfl, Nat.le_of_ble_eq_true rfl⟩) ⟨bl_, fun U hU hW => ⟨rfl, by rw [hU], by rw [hU]; exact hPc, kk_mv hW hK, hDw⟩⟩ rfl rfl hl.1 rfl (lv_room (Nat.le_of_ble_eq_true rfl)) dB_3_3_18.2.1.1.1 ⟨Nat.le_of_ble_eq_true rfl, Nat.le_of_ble_eq_true rfl⟩) hS (fun q _ h => hFc q h) hFc (fun r_26 u t H locs ht hvm hw hB hz1 hk1 hS => ?_)
                      have hP : va_P D vwCl _ H := ro_keep hP hk1
                      refine lv_icmp_le (tgt := 183) hx hb dB_3_3_18.2.1.1.2 (by decide) (fun c_27 => ?_) (fun c_27 => ?_)
                      · have t_27 : r_25.toInt ≤ r_26.toInt := Int32.le_iff_toInt_le.mp c_27
                        obtain ⟨y_28, ey_28⟩ : ∃ y : Int32, y = x4_6 + 1 := ⟨_, rfl⟩
                        have ty_28 : y_28.toInt = x4_6.toInt + (1 : Int32).toInt := by rw [ey_28]; exact addI (by omega) (by omega)
                        refine lv_iinc (v := y_28) (lv' := [(4, .int y_28), (6, .long y_18), (5, .int x5_12), (3, .int x3_6), (2, .int x2_6), (0, .ref mo), (1, .int a1)]) hx hb dB_3_3_18.2.2.2.1 hl (k := 2) rfl (by rw [ey_28]; rfl) (by decide) rfl (fun ls hl => ?_)
                        refine lv_goto (tgt := 36) hx hb dB_3_3_18.2.2.2.2 (by decide) ?_
                        exact ih_6 y_28 x3_6 x2_6 _ _ _ (by omega) (by first | with_reducible assumption | omega | assumption) (by first | with_reducible assumption | omega | assumption) ⟨hP, hD⟩ hS (lv_sub hl [0, 3, 4, 5, 6] rfl)
                      · have t_27 : ¬ r_25.toInt ≤ r_26.toInt := fun h => c_27 (Int32.le_iff_toInt_le.mpr h)
                        refine lv_iload hx hb dB_3_3_18.2.1.2.1 (lv_at hl 2 rfl) ?_
                        refine lv_istore_n (lv' := [(2, .int x4_6), (6, .long y_18), (5, .int x5_12), (4, .int x4_6), (3, .int x3_6), (0, .ref mo), (1, .int a1)]) hx hb dB_3_3_18.2.1.2.2 rfl hl (by decide) rfl (fun ls hl => ?_)
                        refine lv_iload hx hb dB_3_3_18.2.2.1.1 (lv_at hl 2 rfl) ?_
                        refine lv_istore_n (lv' := [(3, .int x5_12), (2, .int x4_6), (6, .long y_18), (5, .int x5_12), (4, .int x4_6), (0, .ref mo), (1, .int a1)]) hx hb dB_3_3_18.2.2.1.2 rfl hl (by decide) rfl (fun ls hl => ?_)
                        obtain ⟨y_29, ey_29⟩ : ∃ y : Int32, y = x4_6 + 1 := ⟨_, rfl⟩
                        have ty_29 : y_29.toInt = x4_6.toInt + (1 : Int32).toInt := by rw [ey_29]; exact addI (by omega) (by omega)
                        refine lv_iinc (v := y_29) (lv' := [(4, .int y_29), (3, .int x5_12), (2, .int x4_6), (6, .long y_18), (5, .int x5_12), (0, .ref mo), (1, .int a1)]) hx hb dB_3_3_18.2.2.2.1 hl (k := 4) rfl (by rw [ey_29]; rfl) (by decide) rfl (fun ls hl => ?_)
                        refine lv_goto (tgt := 36) hx hb dB_3_3_18.2.2.2.2 (by decide) ?_
                        exact ih_6 y_29 x5_12 x4_6 _ _ _ (by omega) (by first | with_reducible assumption | omega | assumption) (by first | with_reducible assumption | omega | assumption) ⟨hP, hD⟩ hS (lv_sub hl [0, 1, 2, 5, 6] rfl)
              · have t_13 : ¬ s4.toInt ≤ x6_12.toInt := fun h => c_13 (Int32.le_iff_toInt_le.mpr h)
                refine lv_iload hx hb dB_3_2_29.1.2.1.1 (lv_at hl 1 rfl) ?_
                refine lv_aload_n hx hb dB_3_2_29.1.2.1.2 rfl (lv_at hl 5 rfl) ?_
                refine va_get (ci := 12) (v := .ref g10) (C := RX12) (T := TX12) (N := 34) hx hb hts (fun _ h => List.mem_cons_of_mem _ (List.mem_append_right _ h)) hown hK.1 hP 0 rfl rfl 10 (by decide) (hts (.fieldLink RX12 25 "CutAtlasModel" "isMissing" "[Z") (List.mem_of_getElem? (i := 5) rfl)) (fun _ h9 => h9) rfl dB_3_2_29.1.2.2.1 ?_
                refine lv_iload hx hb dB_3_2_29.1.2.2.2 (lv_at hl 0 rfl) ?_
                have h_30 : vp_in x6_12 40 := in_I (by first | with_reducible assumption | omega) (by omega)
                refine va_zald hx hb hK.1 hP 5 2 rfl rfl (i := x6_12) h_30 dB_3_2_29.2.1.1.1 ?_
                refine lv_topi (fun y_31 ey_31 => ?_)
                refine lv_if_ne (tgt := 116) hx hb dB_3_2_29.2.1.1.2 (by decide) (fun c_32 => ?_) (fun c_32 => ?_)
                · have t_32 : ¬ y_31.toInt = (0 : Int32).toInt := fun h => c_32 (Int32.toInt_inj.mp h)
                  refine lv_iconst (v := 0) hx hb dB_3_3_16.2.1.1.1 (by decide) ?_
                  refine lv_iadd hx hb dB_3_3_16.2.1.1.2 ?_
                  refine lv_topi (fun y_33 ey_33 => ?_)
                  refine lv_istore (lv' := [(5, .int y_33), (6, .int x6_12), (4, .int x4_6), (3, .int x3_6), (2, .int x2_6), (0, .ref mo), (1, .int a1)]) hx hb dB_3_3_16.2.1.2.1 hl (by decide) rfl (fun ls hl => ?_)
                  obtain ⟨y_34, ey_34⟩ : ∃ y : Int32, y = x6_12 + 1 := ⟨_, rfl⟩
                  have ty_34 : y_34.toInt = x6_12.toInt + (1 : Int32).toInt := by rw [ey_34]; exact addI (by omega) (by omega)
                  refine lv_iinc (v := y_34) (lv' := [(6, .int y_34), (5, .int y_33), (4, .int x4_6), (3, .int x3_6), (2, .int x2_6), (0, .ref mo), (1, .int a1)]) hx hb dB_3_3_16.2.1.2.2 hl (k := 1) rfl (by rw [ey_34]; rfl) (by decide) rfl (fun ls hl => ?_)
                  refine lv_goto (tgt := 53) hx hb dB_3_3_16.2.2.1.1 (by decide) ?_
                  exact ih_12 y_34 y_33 _ _ _ (by omega) (by first | with_reducible assumption | omega | assumption) (by first | with_reducible assumption | omega | assumption) ⟨hP, hD⟩ hS (lv_sub hl [0, 1, 2, 3, 4, 5, 6] rfl)
                · have t_32 : y_31.toInt = (0 : Int32).toInt := congrArg Int32.toInt c_32
                  refine lv_iload hx hb dB_3_2_29.2.1.2.1 (lv_at hl 2 rfl) ?_
                  refine lv_aload_n hx hb dB_3_2_29.2.1.2.2 rfl (lv_at hl 5 rfl) ?_
                  refine va_get (ci := 12) (v := .ref g6) (C := RX12) (T := TX12) (N := 34) hx hb hts (fun _ h => List.mem_cons_of_mem _ (List.mem_append_right _ h)) hown hK.1 hP 0 rfl rfl 6 (by decide) (hts (.fieldLink RX12 13 "CutAtlasModel" "from" "[I") (List.mem_of_getElem? (i := 6) rfl)) (fun _ h9 => h9) rfl dB_3_2_29.2.2.1.1 ?_
                  refine lv_iload hx hb dB_3_2_29.2.2.1.2 (lv_at hl 0 rfl) ?_
                  refine va_iald hx hb hK.1 hP 2 0 rfl rfl (i := x6_12) h_30 dB_3_2_29.2.2.2.1 ?_
                  refine lv_topi (fun y_36 ey_36 => ?_)
                  refine lv_ishr hx hb dB_3_2_29.2.2.2.2 ?_
                  refine lv_topi (fun y_37 ey_37 => ?_)
                  refine lv_iconst (v := 1) hx hb dB_3_2_30.1.1.1 (by decide) ?_
                  refine lv_iand hx hb dB_3_2_30.1.1.2 ?_
                  refine lv_topi (fun y_38 ey_38 => ?_)
                  refine lv_iconst (v := 1) hx hb dB_3_2_30.1.2.1 (by decide) ?_
                  refine lv_icmp_ne (tgt := 116) hx hb dB_3_2_30.1.2.2.1 (by decide) (fun c_39 => ?_) (fun c_39 => ?_)
                  · have t_39 : ¬ y_38.toInt = (1 : Int32).toInt := fun h => c_39 (Int32.toInt_inj.mp h)
                    refine lv_iconst (v := 0) hx hb dB_3_3_16.2.1.1.1 (by decide) ?_
                    refine lv_iadd hx hb dB_3_3_16.2.1.1.2 ?_
                    refine lv_topi (fun y_40 ey_40 => ?_)
                    refine lv_istore (lv' := [(5, .int y_40), (6, .int x6_12), (4, .int x4_6), (3, .int x3_6), (2, .int x2_6), (0, .ref mo), (1, .int a1)]) hx hb dB_3_3_16.2.1.2.1 hl (by decide) rfl (fun ls hl => ?_)
                    obtain ⟨y_41, ey_41⟩ : ∃ y : Int32, y = x6_12 + 1 := ⟨_, rfl⟩
                    have ty_41 : y_41.toInt = x6_12.toInt + (1 : Int32).toInt := by rw [ey_41]; exact addI (by omega) (by omega)
                    refine lv_iinc (v := y_41) (lv' := [(6, .int y_41), (5, .int y_40), (4, .int x4_6), (3, .int x3_6), (2, .int x2_6), (0, .ref mo), (1, .int a1)]) hx hb dB_3_3_16.2.1.2.2 hl (k := 1) rfl (by rw [ey_41]; rfl) (by decide) rfl (fun ls hl => ?_)
                    refine lv_goto (tgt := 53) hx hb dB_3_3_16.2.2.1.1 (by decide) ?_
                    exact ih_12 y_41 y_40 _ _ _ (by omega) (by first | with_reducible assumption | omega | assumption) (by first | with_reducible assumption | omega | assumption) ⟨hP, hD⟩ hS (lv_sub hl [0, 1, 2, 3, 4, 5, 6] rfl)
                  · have t_39 : y_38.toInt = (1 : Int32).toInt := congrArg Int32.toInt c_39
                    refine lv_iload hx hb dB_3_2_30.1.2.2.2 (lv_at hl 2 rfl) ?_
                    refine lv_aload_n hx hb dB_3_2_30.2.1.1 rfl (lv_at hl 5 rfl) ?_
                    refine va_get (ci := 12) (v := .ref g7) (C := RX12) (T := TX12) (N := 34) hx hb hts (fun _ h => List.mem_cons_of_mem _ (List.mem_append_right _ h)) hown hK.1 hP 0 rfl rfl 7 (by decide) (hts (.fieldLink RX12 16 "CutAtlasModel" "to" "[I") (List.mem_of_getElem? (i := 7) rfl)) (fun _ h9 => h9) rfl dB_3_2_30.2.1.2.1 ?_
                    refine lv_iload hx hb dB_3_2_30.2.1.2.2 (lv_at hl 0 rfl) ?_
                    refine va_iald hx hb hK.1 hP 3 0 rfl rfl (i := x6_12) h_30 dB_3_2_30.2.2.1 ?_
                    refine lv_topi (fun y_43 ey_43 => ?_)
                    refine lv_ishr hx hb dB_3_2_30.2.2.2.1 ?_
                    refine lv_topi (fun y_44 ey_44 => ?_)
                    refine lv_iconst (v := 1) hx hb dB_3_2_30.2.2.2.2 (by decide) ?_
                    refine lv_iand hx hb dB_3_3_16.1.1.1.1 ?_
                    refine lv_topi (fun y_45 ey_45 => ?_)
                    refine lv_iconst (v := 1) hx hb dB_3_3_16.1.1.1.2 (by decide) ?_
                    refine lv_icmp_ne (tgt := 116) hx hb dB_3_3_16.1.1.2.1 (by decide) (fun c_46 => ?_) (fun c_46 => ?_)
                    · have t_46 : ¬ y_45.toInt = (1 : Int32).toInt := fun h => c_46 (Int32.toInt_inj.mp h)
                      refine lv_iconst (v := 0) hx hb dB_3_3_16.2.1.1.1 (by decide) ?_
                      refine lv_iadd hx hb dB_3_3_16.2.1.1.2 ?_
                      refine lv_topi (fun y_47 ey_47 => ?_)
                      refine lv_istore (lv' := [(5, .int y_47), (6, .int x6_12), (4, .int x4_6), (3, .int x3_6), (2, .int x2_6), (0, .ref mo), (1, .int a1)]) hx hb dB_3_3_16.2.1.2.1 hl (by decide) rfl (fun ls hl => ?_)
                      obtain ⟨y_48, ey_48⟩ : ∃ y : Int32, y = x6_12 + 1 := ⟨_, rfl⟩
                      have ty_48 : y_48.toInt = x6_12.toInt + (1 : Int32).toInt := by rw [ey_48]; exact addI (by omega) (by omega)
                      refine lv_iinc (v := y_48) (lv' := [(6, .int y_48), (5, .int y_47), (4, .int x4_6), (3, .int x3_6), (2, .int x2_6), (0, .ref mo), (1, .int a1)]) hx hb dB_3_3_16.2.1.2.2 hl (k := 1) rfl (by rw [ey_48]; rfl) (by decide) rfl (fun ls hl => ?_)
                      refine lv_goto (tgt := 53) hx hb dB_3_3_16.2.2.1.1 (by decide) ?_
                      exact ih_12 y_48 y_47 _ _ _ (by omega) (by first | with_reducible assumption | omega | assumption) (by first | with_reducible assumption | omega | assumption) ⟨hP, hD⟩ hS (lv_sub hl [0, 1, 2, 3, 4, 5, 6] rfl)
                    · have t_46 : y_45.toInt = (1 : Int32).toInt := congrArg Int32.toInt c_46
                      refine lv_aload_n hx hb dB_3_3_16.1.1.2.2 rfl (lv_at hl 5 rfl) ?_
                      refine va_get (ci := 12) (v := .ref g8) (C := RX12) (T := TX12) (N := 34) hx hb hts (fun _ h => List.mem_cons_of_mem _ (List.mem_append_right _ h)) hown hK.1 hP 0 rfl rfl 8 (by decide) (hts (.fieldLink RX12 19 "CutAtlasModel" "width" "[I") (List.mem_of_getElem? (i := 8) rfl)) (fun _ h9 => h9) rfl dB_3_3_16.1.2.1.1 ?_
                      refine lv_iload hx hb dB_3_3_16.1.2.1.2 (lv_at hl 0 rfl) ?_
                      refine va_iald hx hb hK.1 hP 4 0 rfl rfl (i := x6_12) h_30 dB_3_3_16.1.2.2.1 ?_
                      refine lv_topi (fun y_50 ey_50 => ?_)
                      refine lv_goto (tgt := 117) hx hb dB_3_3_16.1.2.2.2 (by decide) ?_
                      refine lv_iadd hx hb dB_3_3_16.2.1.1.2 ?_
                      refine lv_topi (fun y_51 ey_51 => ?_)
                      refine lv_istore (lv' := [(5, .int y_51), (6, .int x6_12), (4, .int x4_6), (3, .int x3_6), (2, .int x2_6), (0, .ref mo), (1, .int a1)]) hx hb dB_3_3_16.2.1.2.1 hl (by decide) rfl (fun ls hl => ?_)
                      obtain ⟨y_52, ey_52⟩ : ∃ y : Int32, y = x6_12 + 1 := ⟨_, rfl⟩
                      have ty_52 : y_52.toInt = x6_12.toInt + (1 : Int32).toInt := by rw [ey_52]; exact addI (by omega) (by omega)
                      refine lv_iinc (v := y_52) (lv' := [(6, .int y_52), (5, .int y_51), (4, .int x4_6), (3, .int x3_6), (2, .int x2_6), (0, .ref mo), (1, .int a1)]) hx hb dB_3_3_16.2.1.2.2 hl (k := 1) rfl (by rw [ey_52]; rfl) (by decide) rfl (fun ls hl => ?_)
                      refine lv_goto (tgt := 53) hx hb dB_3_3_16.2.2.1.1 (by decide) ?_
                      exact ih_12 y_52 y_51 _ _ _ (by omega) (by first | with_reducible assumption | omega | assumption) (by first | with_reducible assumption | omega | assumption) ⟨hP, hD⟩ hS (lv_sub hl [0, 1, 2, 3, 4, 5, 6] rfl)
      · have t_5 : r_4.toInt = (0 : Int32).toInt := congrArg Int32.toInt c_5
        refine lv_bipush (v := (-2)) hx hb dB_3_2_27.2.2.2.1 (by decide) ?_
        rw [hQ]
        exact W.iret (v := (-2)) hx hb hr (fun t ht hW => ⟨⟨(-2), (), rfl, trivial, by rw [ht]; exact hP, hD⟩, hS.F ht⟩) hS.2.2 dB_3_2_27.2.2.2.2
    · exact absurd c_3 (by decide)
  · have e_ := e_.symm
    subst e_
    refine lv_if_ne (tgt := 19) hx hb dB_3_2_27.2.1.1.1 (by decide) (fun c_53 => ?_) (fun c_53 => ?_)
    · exact absurd c_53 (by decide)
    · have _ := c_53
      refine lv_iconst (v := (-1)) hx hb dB_3_2_27.2.1.1.2 (by decide) ?_
      rw [hQ]
      exact W.iret (v := (-1)) hx hb hr (fun t ht hW => ⟨⟨(-1), (), rfl, trivial, by rw [ht]; exact hP, hD⟩, hS.F ht⟩) hS.2.2 dB_3_2_27.2.1.2.1
end

section
set_option maxHeartbeats 4000000 in
set_option maxRecDepth 100000 in
theorem c_X12_plants (l : Launch) (D : va_G) (cy : Nat → ClassId) (sz : Nat) (mo : Nat) (g5 : Nat) (g6 : Nat) (g7 : Nat) (g8 : Nat) (g9 : Nat) (g10 : Nat) (g12 : Nat) (g13 : Nat) (g14 : Nat) (g15 : Nat) (g16 : Nat) (g17 : Nat) (g18 : Nat) (g19 : Nat) (g20 : Nat) (g22 : Nat) (g23 : Nat) (g24 : Nat) (g29 : Nat) (g30 : Nat) (g31 : Nat) (g32 : Nat) (g33 : Nat) (s0 : Int32) (s1 : Int32) (s3 : Int32) (s4 : Int32) (s11 : Int32) (s21 : Int32) (s25 : Int32) (s26 : Int32) (s27 : Int32) (s28 : Int32) (t2 : Int64) (f5 : Nat → Int32) (f6 : Nat → Int32) (f7 : Nat → Int32) (f8 : Nat → Int32) (f10 : Nat → Int32) (f32 : Nat → Int32) (f33 : Nat → Int32) (hN : 0 ≤ s4.toInt ∧ s4.toInt ≤ 40) (hPl : 0 ≤ s3.toInt ∧ s3.toInt ≤ 12) (r_f32 : rng f32 12 (0) (11)) : Met l yX12_plants wsX12_plants ({ frames := 4, cells := 0, slots := 0, locals := 96 }) (va_Pc [.ref mo] (fun U => U.heap.size = sz ∧ va_P D vwCl [ob12_0_ mo s0 s1 t2 s3 s4 g5 g6 g7 g8 g9 g10 s11 g12 g13 g14 g15 g16 g17 g18 g19 g20 s21 g22 g23 g24 s25 s26 s27 s28 g29 g30 g31 g32 g33, ai_ cy g5 40 f5, ai_ cy g6 40 f6, ai_ cy g7 40 f7, ai_ cy g8 40 f8, az_ cy g10 40 f10, ai_ cy g32 12 f32, ai_ cy g33 12 f33] U.heap ∧ kk_ D cy U ∧ va_D (fun _ => True) [ob12_0_ mo s0 s1 t2 s3 s4 g5 g6 g7 g8 g9 g10 s11 g12 g13 g14 g15 g16 g17 g18 g19 g20 s21 g22 g23 g24 s25 s26 s27 s28 g29 g30 g31 g32 g33, ai_ cy g5 40 f5, ai_ cy g6 40 f6, ai_ cy g7 40 f7, ai_ cy g8 40 f8, az_ cy g10 40 f10, ai_ cy g32 12 f32, ai_ cy g33 12 f33])) (va_Qv (fun (_ : Unit) => True) (fun (_ : Unit) (t : State) => ∃ (n25 : Int32), ∃ (n26 : Int32), ∃ (n27 : Int32), ∃ (n28 : Int32), ∃ (e32 : Nat → Int32), ∃ (e33 : Nat → Int32), (rng e32 12 (0) (11)) ∧ va_P D vwCl [ob12_0_ mo s0 s1 t2 s3 s4 g5 g6 g7 g8 g9 g10 s11 g12 g13 g14 g15 g16 g17 g18 g19 g20 s21 g22 g23 g24 n25 n26 n27 n28 g29 g30 g31 g32 g33, ai_ cy g5 40 f5, ai_ cy g6 40 f6, ai_ cy g7 40 f7, ai_ cy g8 40 f8, az_ cy g10 40 f10, ai_ cy g32 12 e32, ai_ cy g33 12 e33] t.heap ∧ va_D (va_A [ob12_0_ mo s0 s1 t2 s3 s4 g5 g6 g7 g8 g9 g10 s11 g12 g13 g14 g15 g16 g17 g18 g19 g20 s21 g22 g23 g24 s25 s26 s27 s28 g29 g30 g31 g32 g33, ai_ cy g5 40 f5, ai_ cy g6 40 f6, ai_ cy g7 40 f7, ai_ cy g8 40 f8, az_ cy g10 40 f10, ai_ cy g32 12 f32, ai_ cy g33 12 f33] sz) [ob12_0_ mo s0 s1 t2 s3 s4 g5 g6 g7 g8 g9 g10 s11 g12 g13 g14 g15 g16 g17 g18 g19 g20 s21 g22 g23 g24 n25 n26 n27 n28 g29 g30 g31 g32 g33, ai_ cy g5 40 f5, ai_ cy g6 40 f6, ai_ cy g7 40 f7, ai_ cy g8 40 f8, az_ cy g10 40 f10, ai_ cy g32 12 e32, ai_ cy g33 12 e33]) (va_A [ob12_0_ mo s0 s1 t2 s3 s4 g5 g6 g7 g8 g9 g10 s11 g12 g13 g14 g15 g16 g17 g18 g19 g20 s21 g22 g23 g24 s25 s26 s27 s28 g29 g30 g31 g32 g33, ai_ cy g5 40 f5, ai_ cy g6 40 f6, ai_ cy g7 40 f7, ai_ cy g8 40 f8, az_ cy g10 40 f10, ai_ cy g32 12 f32, ai_ cy g33 12 f33] sz)) 0 0 (va_A [ob12_0_ mo s0 s1 t2 s3 s4 g5 g6 g7 g8 g9 g10 s11 g12 g13 g14 g15 g16 g17 g18 g19 g20 s21 g22 g23 g24 s25 s26 s27 s28 g29 g30 g31 g32 g33, ai_ cy g5 40 f5, ai_ cy g6 40 f6, ai_ cy g7 40 f7, ai_ cy g8 40 f8, az_ cy g10 40 f10, ai_ cy g32 12 f32, ai_ cy g33 12 f33] sz) := by
  refine ofQ (cc := cX12_plants) (maxL := 6) (ret := none) (by decide) rfl ?_
  intro p e s m args below meth c s₁ Q hQ B hml hv
  obtain ⟨rfl, hsz, hP, hK, hD0⟩ := hv
  have hx := B.exec
  have hb := B.bytes
  have hr := B.returns
  have hts := atoms_spec (ws := wsX12_plants) B.pre
  have hown : s.vm.findClass RX12 = some m.cls := by have h_ := findClass_of_methodNamed B.named; exact h_
  have hlocks := B.notSynchronized
  subst hsz
  have hD := hD0.self (sz := s.heap.size)
  generalize hAe : va_A [ob12_0_ mo s0 s1 t2 s3 s4 g5 g6 g7 g8 g9 g10 s11 g12 g13 g14 g15 g16 g17 g18 g19 g20 s21 g22 g23 g24 s25 s26 s27 s28 g29 g30 g31 g32 g33, ai_ cy g5 40 f5, ai_ cy g6 40 f6, ai_ cy g7 40 f7, ai_ cy g8 40 f8, az_ cy g10 40 f10, ai_ cy g32 12 f32, ai_ cy g33 12 f33] s.heap.size = A at hD hQ
  have hA : ∀ q : Nat, s.heap.size ≤ q → A q := fun q h => by rw [← hAe]; exact Or.inr h
  have hS : va_S A s.heap s.heap [] := va_S.rf
  have hl := lv_entry ([.ref mo]) (n := 6) (Nat.le_of_ble_eq_true rfl)
  rw [lg_entry_eq]
  generalize (lg_sl ([.ref mo]) ++ List.replicate (6 - (lg_sl ([.ref mo])).length) Slot.unset).toArray = ls at hl ⊢
  have hl : lv_has ls 6 [(0, .ref mo)] := hl
  have zm9 : ((-9) : Int32).toInt = -9 := by decide
  have z0 : (0 : Int32).toInt = 0 := by decide
  have z1 : (1 : Int32).toInt = 1 := by decide
  have z12 : (12 : Int32).toInt = 12 := by decide
  refine lv_iconst (v := 0) hx hb dB_3_2_43.1.1.1.1 (by decide) ?_
  refine lv_istore_n (lv' := [(1, .int 0), (0, .ref mo)]) hx hb dB_3_2_43.1.1.1.2 rfl hl (by decide) rfl (fun ls hl => ?_)
  suffices LOOP_1 : ∀ (n_1 : Nat) (x1_1 : Int32) (c_g32_1 : Nat → Int32) (c_g33_1 : Nat → Int32) (H : Heap) (locs : List Loc) (ls : Array Slot), 12 - x1_1.toInt < (n_1 : Int) → (0 ≤ x1_1.toInt) → (x1_1.toInt ≤ 12) → (rng c_g32_1 12 (0) (11)) → pd_2 D vwCl A [ob12_0_ mo s0 s1 t2 s3 s4 g5 g6 g7 g8 g9 g10 s11 g12 g13 g14 g15 g16 g17 g18 g19 g20 s21 g22 g23 g24 s25 s26 s27 s28 g29 g30 g31 g32 g33, ai_ cy g5 40 f5, ai_ cy g6 40 f6, ai_ cy g7 40 f7, ai_ cy g8 40 f8, az_ cy g10 40 f10, ai_ cy g32 12 c_g32_1, ai_ cy g33 12 c_g33_1] H → va_S A s.heap H locs → lv_has ls 6 [(1, .int x1_1), (0, .ref mo)] → W p l e ({ frames := 4, cells := 0, slots := 0, locals := 96 } : Room) s m (([.ref mo] : List Value).toArray) below meth c H locs 0 0 Q (F0 m 2 ls []) from LOOP_1 ((12 - (0 : Int32).toInt).toNat + 1) (0 : Int32) f32 f33 _ _ _ (by omega) (by first | with_reducible assumption | omega | assumption) (by first | with_reducible assumption | omega | assumption) (by first | with_reducible assumption | assumption | exact rng_zero (by omega) (by omega) | exact orng_zero) ⟨hP, hD⟩ hS (lv_sub hl [0, 1] rfl)
  intro n_1
  induction n_1 with
  | zero =>
    intro x1_1 c_g32_1 c_g33_1 H locs ls hm v0_1 v1_1 rc_g32_1 hPD hS hl; obtain ⟨hP, hD⟩ := hPD
    exact absurd hm (by omega)
  | succ n_1 ih_1 =>
    intro x1_1 c_g32_1 c_g33_1 H locs ls hm v0_1 v1_1 rc_g32_1 hPD hS hl; obtain ⟨hP, hD⟩ := hPD
    refine lv_iload_n hx hb dB_3_2_43.1.1.2.1 rfl (lv_at hl 0 rfl) ?_
    refine lv_bipush (v := 12) hx hb dB_3_2_43.1.1.2.2 (by decide) ?_
    refine lv_icmp_ge (tgt := 29) hx hb dB_3_2_43.1.2.1.1 (by decide) (fun c_2 => ?_) (fun c_2 => ?_)
    · have t_2 : (12 : Int32).toInt ≤ x1_1.toInt := Int32.le_iff_toInt_le.mp c_2
      refine lv_iconst (v := 1) hx hb dB_3_2_44.1.1.1.2 (by decide) ?_
      refine lv_istore_n (lv' := [(1, .int 1), (0, .ref mo)]) hx hb dB_3_2_44.1.1.2.1 rfl hl (by decide) rfl (fun ls hl => ?_)
      suffices LOOP_3 : ∀ (n_3 : Nat) (x1_3 : Int32) (o25_3 : Int32) (o26_3 : Int32) (o27_3 : Int32) (o28_3 : Int32) (c_g32_3 : Nat → Int32) (c_g33_3 : Nat → Int32) (H : Heap) (locs : List Loc) (ls : Array Slot), 13 - x1_3.toInt < (n_3 : Int) → (1 ≤ x1_3.toInt) → (x1_3.toInt ≤ 13) → (rng c_g32_3 12 (0) (11)) → pd_2 D vwCl A [ob12_0_ mo s0 s1 t2 s3 s4 g5 g6 g7 g8 g9 g10 s11 g12 g13 g14 g15 g16 g17 g18 g19 g20 s21 g22 g23 g24 o25_3 o26_3 o27_3 o28_3 g29 g30 g31 g32 g33, ai_ cy g5 40 f5, ai_ cy g6 40 f6, ai_ cy g7 40 f7, ai_ cy g8 40 f8, az_ cy g10 40 f10, ai_ cy g32 12 c_g32_3, ai_ cy g33 12 c_g33_3] H → va_S A s.heap H locs → lv_has ls 6 [(1, .int x1_3), (0, .ref mo)] → W p l e ({ frames := 4, cells := 0, slots := 0, locals := 96 } : Room) s m (([.ref mo] : List Value).toArray) below meth c H locs 0 0 Q (F0 m 31 ls []) from LOOP_3 ((13 - (1 : Int32).toInt).toNat + 1) (1 : Int32) s25 s26 s27 s28 c_g32_1 c_g33_1 _ _ _ (by omega) (by first | with_reducible assumption | omega | assumption) (by first | with_reducible assumption | omega | assumption) (by first | with_reducible assumption | assumption | exact rng_zero (by omega) (by omega) | exact orng_zero) ⟨hP, hD⟩ hS (lv_sub hl [0, 1] rfl)
      intro n_3
      induction n_3 with
      | zero =>
        intro x1_3 o25_3 o26_3 o27_3 o28_3 c_g32_3 c_g33_3 H locs ls hm v0_3 v1_3 rc_g32_3 hPD hS hl; obtain ⟨hP, hD⟩ := hPD
        exact absurd hm (by omega)
      | succ n_3 ih_3 =>
        intro x1_3 o25_3 o26_3 o27_3 o28_3 c_g32_3 c_g33_3 H locs ls hm v0_3 v1_3 rc_g32_3 hPD hS hl; obtain ⟨hP, hD⟩ := hPD
        refine lv_iload_n hx hb dB_3_2_44.1.1.2.2 rfl (lv_at hl 0 rfl) ?_
        refine lv_aload_n hx hb dB_3_2_44.1.2.1.1 rfl (lv_at hl 1 rfl) ?_
        refine va_get (ci := 12) (v := .int s3) (C := RX12) (T := TX12) (N := 34) hx hb hts (fun _ h => List.mem_cons_of_mem _ (List.mem_append_right _ h)) hown hK.1 hP 0 rfl rfl 3 (by decide) (hts (.fieldLink RX12 88 "CutAtlasModel" "places" "I") (List.mem_of_getElem? (i := 3) rfl)) (fun _ h9 => h9) rfl dB_3_2_44.1.2.1.2 ?_
        refine lv_icmp_ge (tgt := 197) hx hb dB_3_2_44.1.2.2.1 (by decide) (fun c_4 => ?_) (fun c_4 => ?_)
        · have t_4 : s3.toInt ≤ x1_3.toInt := Int32.le_iff_toInt_le.mp c_4
          rw [hQ]
          exact W.vret hx hb hr (fun t ht hW => ⟨⟨(), rfl, trivial, o25_3, o26_3, o27_3, o28_3, c_g32_3, c_g33_3, (by first | with_reducible assumption | assumption | exact rng_zero (by omega) (by omega) | omega), by rw [ht]; exact hP, hD⟩, hS.F ht⟩) hS.2.2 dB_3_2_50.2.2.2.2
        · have t_4 : ¬ s3.toInt ≤ x1_3.toInt := fun h => c_4 (Int32.le_iff_toInt_le.mpr h)
          refine lv_aload_n hx hb dB_3_2_44.1.2.2.2 rfl (lv_at hl 1 rfl) ?_
          refine va_get (ci := 12) (v := .ref g32) (C := RX12) (T := TX12) (N := 34) hx hb hts (fun _ h => List.mem_cons_of_mem _ (List.mem_append_right _ h)) hown hK.1 hP 0 rfl rfl 32 (by decide) (hts (.fieldLink RX12 79 "CutAtlasModel" "treeNext" "[I") (List.mem_of_getElem? (i := 1) rfl)) (fun _ h9 => h9) rfl dB_3_2_44.2.1.1.1 ?_
          refine lv_iload_n hx hb dB_3_2_44.2.1.1.2 rfl (lv_at hl 0 rfl) ?_
          have h_5 : vp_in x1_3 12 := in_I (by first | with_reducible assumption | omega) (by omega)
          refine va_iald hx hb hK.1 hP 6 0 rfl rfl (i := x1_3) h_5 dB_3_2_44.2.1.2.1 ?_
          refine lv_topi (fun y_6 ey_6 => ?_)
          have ry_6 : 0 ≤ y_6.toInt ∧ y_6.toInt ≤ 11 := by rw [ey_6]; exact rc_g32_3 _ (in_lt h_5)
          refine lv_istore_n (lv' := [(2, .int y_6), (1, .int x1_3), (0, .ref mo)]) hx hb dB_3_2_44.2.1.2.2 rfl hl (by decide) rfl (fun ls hl => ?_)
          refine lv_aload_n hx hb dB_3_2_44.2.2.1.1 rfl (lv_at hl 2 rfl) ?_
          refine lv_iload_n hx hb dB_3_2_44.2.2.1.2 rfl (lv_at hl 1 rfl) ?_
          refine lv_iload_n hx hb dB_3_2_44.2.2.2.1 rfl (lv_at hl 0 rfl) ?_
          refine ct_R hP hD [ob12_0_ mo s0 s1 t2 s3 s4 g5 g6 g7 g8 g9 g10 s11 g12 g13 g14 g15 g16 g17 g18 g19 g20 s21 g22 g23 g24 o25_3 o26_3 o27_3 o28_3 g29 g30 g31 g32 g33, ai_ cy g5 40 f5, ai_ cy g6 40 f6, ai_ cy g7 40 f7, ai_ cy g8 40 f8, az_ cy g10 40 f10] [0, 1, 2, 3, 4, 5] (by decide) rfl (fun hPc hDw => ?_)
          have hFc := va_free (wc := []) hD hS hA [] rfl
          refine va_calli (va_runV (As := [.int x1_3, .int y_6]) (rest := []) ⟨hx, hb, hml, hown, hts⟩ (c_X12_mostOf l D cy H.size mo g5 g6 g7 g8 g9 g10 g12 g13 g14 g15 g16 g17 g18 g19 g20 g22 g23 g24 g29 g30 g31 g32 g33 s0 s1 s3 s4 s11 s21 o25_3 o26_3 o27_3 o28_3 t2 f5 f6 f7 f8 f10 x1_3 y_6 (by first | with_reducible assumption | omega | assumption) (by first | with_reducible assumption | omega | assumption)) (cwV 2 hts gX12_plants_X12_mostOf rfl rfl rfl ⟨rfl, hd_X12_mostOf⟩ ⟨Nat.le_of_ble_eq_true rfl, Nat.le_of_ble_eq_true rfl⟩) ⟨bl_, va_recvX hK.1 hP (ci := 12) (q0 := 0) rfl rfl, fun U hU hW => ⟨rfl, by rw [hU], by rw [hU]; exact hPc, kk_mv hW hK, hDw⟩⟩ rfl rfl hl.1 rfl (lv_room (Nat.le_of_ble_eq_true rfl)) dB_3_2_44.2.2.2.2 ⟨Nat.le_of_ble_eq_true rfl, Nat.le_of_ble_eq_true rfl⟩) hS (fun q _ h => hFc q h) hFc (fun r_7 u t H locs ht hvm hw hB hz1 hk1 hS => ?_)
          have hP : va_P D vwCl _ H := ro_keep hP hk1
          refine lv_istore_n (lv' := [(3, .int r_7), (2, .int y_6), (1, .int x1_3), (0, .ref mo)]) hx hb dB_3_2_45.1.1.1.1 rfl hl (by decide) rfl (fun ls hl => ?_)
          refine lv_aload_n hx hb dB_3_2_45.1.1.1.2 rfl (lv_at hl 3 rfl) ?_
          refine lv_iload_n hx hb dB_3_2_45.1.1.2.1 rfl (lv_at hl 2 rfl) ?_
          refine lv_iload_n hx hb dB_3_2_45.1.1.2.2 rfl (lv_at hl 1 rfl) ?_
          refine lv_iload_n hx hb dB_3_2_45.1.2.1.1 rfl (lv_at hl 0 rfl) ?_
          refine lv_iconst (v := 0) hx hb dB_3_2_45.1.2.1.2 (by decide) ?_
          refine ct_S hP hD hS hA [ob12_0_ mo s0 s1 t2 s3 s4 g5 g6 g7 g8 g9 g10 s11 g12 g13 g14 g15 g16 g17 g18 g19 g20 s21 g22 g23 g24 o25_3 o26_3 o27_3 o28_3 g29 g30 g31 g32 g33, ai_ cy g5 40 f5, ai_ cy g6 40 f6, ai_ cy g7 40 f7, ai_ cy g8 40 f8, az_ cy g10 40 f10] [0, 1, 2, 3, 4, 5] (by decide) rfl (fun hPc hDw hFc hC_ => ?_)
          refine va_callv (va_runV (As := [.int x1_3, .int y_6, .int r_7, .int 0]) (rest := []) ⟨hx, hb, hml, hown, hts⟩ (c_X12_cutsOf l D cy H.size mo g5 g6 g7 g8 g9 g10 g12 g13 g14 g15 g16 g17 g18 g19 g20 g22 g23 g24 g29 g30 g31 g32 g33 s0 s1 s3 s4 s11 s21 o25_3 o26_3 o27_3 o28_3 t2 f5 f6 f7 f8 f10 x1_3 y_6 r_7 (0 : Int32) (by first | with_reducible assumption | omega | assumption) (by first | with_reducible assumption | omega | assumption)) (cwV 4 hts gX12_plants_X12_cutsOf rfl rfl rfl ⟨rfl, hd_X12_cutsOf⟩ ⟨Nat.le_of_ble_eq_true rfl, Nat.le_of_ble_eq_true rfl⟩) ⟨bl_, va_recvX hK.1 hP (ci := 12) (q0 := 0) rfl rfl, fun U hU hW => ⟨rfl, by rw [hU], by rw [hU]; exact hPc, kk_mv hW hK, hDw⟩⟩ rfl rfl hl.1 rfl (lv_room (Nat.le_of_ble_eq_true rfl)) dB_3_2_45.1.2.2.1 ⟨Nat.le_of_ble_eq_true rfl, Nat.le_of_ble_eq_true rfl⟩) hS (fun q _ h => hFc q h) hFc (fun u t H locs ht hvm hw hB hz1 hk1 hS => ?_)
          obtain ⟨n25_9, n26_10, n27_11, n28_12, hP1, hD1⟩ := hB
          rw [ht] at hP1
          obtain ⟨hP, hD⟩ := va_join (wr := [ai_ cy g32 12 c_g32_3, ai_ cy g33 12 c_g33_3]) (w1 := [ob12_0_ mo s0 s1 t2 s3 s4 g5 g6 g7 g8 g9 g10 s11 g12 g13 g14 g15 g16 g17 g18 g19 g20 s21 g22 g23 g24 n25_9 n26_10 n27_11 n28_12 g29 g30 g31 g32 g33, ai_ cy g5 40 f5, ai_ cy g6 40 f6, ai_ cy g7 40 f7, ai_ cy g8 40 f8, az_ cy g10 40 f10]) hP hD [0, 1, 2, 3, 4, 5] [6, 7] hC_ rfl (by decide) (by decide) hk1 hFc hP1 hD1
          refine pd_S hP hD [ob12_0_ mo s0 s1 t2 s3 s4 g5 g6 g7 g8 g9 g10 s11 g12 g13 g14 g15 g16 g17 g18 g19 g20 s21 g22 g23 g24 n25_9 n26_10 n27_11 n28_12 g29 g30 g31 g32 g33, ai_ cy g5 40 f5, ai_ cy g6 40 f6, ai_ cy g7 40 f7, ai_ cy g8 40 f8, az_ cy g10 40 f10, ai_ cy g32 12 c_g32_3, ai_ cy g33 12 c_g33_3] [2, 3, 4, 5, 6, 7, 0, 1] (by decide) rfl (fun hP hD => ?_)
          refine lv_aload_n hx hb dB_3_2_45.1.2.2.2 rfl (lv_at hl 3 rfl) ?_
          refine va_get (ci := 12) (v := .int n26_10) (C := RX12) (T := TX12) (N := 34) hx hb hts (fun _ h => List.mem_cons_of_mem _ (List.mem_append_right _ h)) hown hK.1 hP 0 rfl rfl 26 (by decide) (hts (.fieldLink RX12 195 "CutAtlasModel" "near" "I") (List.mem_of_getElem? (i := 4) rfl)) (fun _ h9 => h9) rfl dB_3_2_45.2.1.1.1 ?_
          refine lv_istore (lv' := [(4, .int n26_10), (3, .int r_7), (2, .int y_6), (1, .int x1_3), (0, .ref mo)]) hx hb dB_3_2_45.2.1.1.2 hl (by decide) rfl (fun ls hl => ?_)
          refine lv_aload_n hx hb dB_3_2_45.2.1.2.1 rfl (lv_at hl 4 rfl) ?_
          refine va_get (ci := 12) (v := .ref g33) (C := RX12) (T := TX12) (N := 34) hx hb hts (fun _ h => List.mem_cons_of_mem _ (List.mem_append_right _ h)) hown hK.1 hP 0 rfl rfl 33 (by decide) (hts (.fieldLink RX12 82 "CutAtlasModel" "treeNumber" "[I") (List.mem_of_getElem? (i := 2) rfl)) (fun _ h9 => h9) rfl dB_3_2_45.2.1.2.2 ?_
          refine lv_iload_n hx hb dB_3_2_45.2.2.1.1 rfl (lv_at hl 3 rfl) ?_
          refine lv_iload_n hx hb dB_3_2_45.2.2.1.2 rfl (lv_at hl 1 rfl) ?_
          refine va_iast hx hb hK.1 hP hD hS 7 0 rfl rfl (i := x1_3) h_5 dB_3_2_45.2.2.2.1 (fun H locs hP hD hS => ?_)
          obtain ⟨f_14, ef_14⟩ : ∃ g : Nat → Int32, g = upd c_g33_3 x1_3.toNatClampNeg r_7 := ⟨_, rfl⟩
          refine pd_K (D := D) (cl := vwCl) (H := H) (A := A) [ob12_0_ mo s0 s1 t2 s3 s4 g5 g6 g7 g8 g9 g10 s11 g12 g13 g14 g15 g16 g17 g18 g19 g20 s21 g22 g23 g24 n25_9 n26_10 n27_11 n28_12 g29 g30 g31 g32 g33, ai_ cy g5 40 f5, ai_ cy g6 40 f6, ai_ cy g7 40 f7, ai_ cy g8 40 f8, az_ cy g10 40 f10, ai_ cy g32 12 c_g32_3, ai_ cy g33 12 f_14] (by rw [ef_14]; exact hP) (by rw [ef_14]; exact hD) (fun hP hD => ?_)
          refine lv_iload_n hx hb dB_3_2_45.2.2.2.2 rfl (lv_at hl 3 rfl) ?_
          refine lv_iconst (v := 1) hx hb dB_3_2_46.1.1.1.1 (by decide) ?_
          refine lv_iadd hx hb dB_3_2_46.1.1.1.2 ?_
          refine lv_topi (fun y_15 ey_15 => ?_)
          have ty_15 : y_15.toInt = x1_3.toInt + (1 : Int32).toInt := by rw [ey_15]; exact addI (by omega) (by omega)
          refine lv_istore (lv' := [(5, .int y_15), (4, .int n26_10), (3, .int r_7), (2, .int y_6), (1, .int x1_3), (0, .ref mo)]) hx hb dB_3_2_46.1.1.2.1 hl (by decide) rfl (fun ls hl => ?_)
          suffices LOOP_16 : ∀ (n_16 : Nat) (x5_16 : Int32) (c_g32_16 : Nat → Int32) (H : Heap) (locs : List Loc) (ls : Array Slot), 13 - x5_16.toInt < (n_16 : Int) → (1 ≤ x5_16.toInt) → (x5_16.toInt ≤ 13) → (rng c_g32_16 12 (0) (11)) → pd_2 D vwCl A [ob12_0_ mo s0 s1 t2 s3 s4 g5 g6 g7 g8 g9 g10 s11 g12 g13 g14 g15 g16 g17 g18 g19 g20 s21 g22 g23 g24 n25_9 n26_10 n27_11 n28_12 g29 g30 g31 g32 g33, ai_ cy g5 40 f5, ai_ cy g6 40 f6, ai_ cy g7 40 f7, ai_ cy g8 40 f8, az_ cy g10 40 f10, ai_ cy g32 12 c_g32_16, ai_ cy g33 12 f_14] H → va_S A s.heap H locs → lv_has ls 6 [(5, .int x5_16), (4, .int n26_10), (3, .int r_7), (2, .int y_6), (1, .int x1_3), (0, .ref mo)] → W p l e ({ frames := 4, cells := 0, slots := 0, locals := 96 } : Room) s m (([.ref mo] : List Value).toArray) below meth c H locs 0 0 Q (F0 m 79 ls []) from LOOP_16 ((13 - y_15.toInt).toNat + 1) y_15 c_g32_3 _ _ _ (by omega) (by first | with_reducible assumption | omega | assumption) (by first | with_reducible assumption | omega | assumption) (by first | with_reducible assumption | assumption | exact rng_zero (by omega) (by omega) | exact orng_zero) ⟨hP, hD⟩ hS (lv_sub hl [0, 1, 2, 3, 4, 5] rfl)
          intro n_16
          induction n_16 with
          | zero =>
            intro x5_16 c_g32_16 H locs ls hm v0_16 v1_16 rc_g32_16 hPD hS hl; obtain ⟨hP, hD⟩ := hPD
            exact absurd hm (by omega)
          | succ n_16 ih_16 =>
            intro x5_16 c_g32_16 H locs ls hm v0_16 v1_16 rc_g32_16 hPD hS hl; obtain ⟨hP, hD⟩ := hPD
            refine lv_iload hx hb dB_3_2_46.1.1.2.2 (lv_at hl 0 rfl) ?_
            refine lv_aload_n hx hb dB_3_2_46.1.2.1.1 rfl (lv_at hl 5 rfl) ?_
            refine va_get (ci := 12) (v := .int s3) (C := RX12) (T := TX12) (N := 34) hx hb hts (fun _ h => List.mem_cons_of_mem _ (List.mem_append_right _ h)) hown hK.1 hP 0 rfl rfl 3 (by decide) (hts (.fieldLink RX12 88 "CutAtlasModel" "places" "I") (List.mem_of_getElem? (i := 3) rfl)) (fun _ h9 => h9) rfl dB_3_2_46.1.2.1.2 ?_
            refine lv_icmp_ge (tgt := 134) hx hb dB_3_2_46.1.2.2.1 (by decide) (fun c_17 => ?_) (fun c_17 => ?_)
            · have t_17 : s3.toInt ≤ x5_16.toInt := Int32.le_iff_toInt_le.mp c_17
              refine lv_iload_n hx hb dB_3_2_48.1.1.1.1 rfl (lv_at hl 3 rfl) ?_
              refine lv_if_eq (tgt := 191) hx hb dB_3_2_48.1.1.1.2 (by decide) (fun c_18 => ?_) (fun c_18 => ?_)
              · have t_18 : y_6.toInt = (0 : Int32).toInt := congrArg Int32.toInt c_18
                obtain ⟨y_19, ey_19⟩ : ∃ y : Int32, y = x1_3 + 1 := ⟨_, rfl⟩
                have ty_19 : y_19.toInt = x1_3.toInt + (1 : Int32).toInt := by rw [ey_19]; exact addI (by omega) (by omega)
                refine lv_iinc (v := y_19) (lv' := [(1, .int y_19), (5, .int x5_16), (4, .int n26_10), (3, .int r_7), (2, .int y_6), (0, .ref mo)]) hx hb dB_3_2_50.2.2.1 hl (k := 4) rfl (by rw [ey_19]; rfl) (by decide) rfl (fun ls hl => ?_)
                refine lv_goto (tgt := 31) hx hb dB_3_2_50.2.2.2.1 (by decide) ?_
                exact ih_3 y_19 n25_9 n26_10 n27_11 n28_12 c_g32_16 f_14 _ _ _ (by omega) (by first | with_reducible assumption | omega | assumption) (by first | with_reducible assumption | omega | assumption) (by first | with_reducible assumption | assumption | exact rng_zero (by omega) (by omega) | exact orng_zero) ⟨hP, hD⟩ hS (lv_sub hl [0, 5] rfl)
              · have t_18 : ¬ y_6.toInt = (0 : Int32).toInt := fun h => c_18 (Int32.toInt_inj.mp h)
                refine lv_iload hx hb dB_3_2_48.1.1.2.1 (lv_at hl 1 rfl) ?_
                refine lv_aload_n hx hb dB_3_2_48.1.1.2.2 rfl (lv_at hl 5 rfl) ?_
                refine va_get (ci := 12) (v := .ref g32) (C := RX12) (T := TX12) (N := 34) hx hb hts (fun _ h => List.mem_cons_of_mem _ (List.mem_append_right _ h)) hown hK.1 hP 0 rfl rfl 32 (by decide) (hts (.fieldLink RX12 79 "CutAtlasModel" "treeNext" "[I") (List.mem_of_getElem? (i := 1) rfl)) (fun _ h9 => h9) rfl dB_3_2_48.1.2.1.1 ?_
                refine lv_iload_n hx hb dB_3_2_48.1.2.1.2 rfl (lv_at hl 3 rfl) ?_
                have h_20 : vp_in y_6 12 := in_I (by first | with_reducible assumption | omega) (by omega)
                refine va_iald hx hb hK.1 hP 6 0 rfl rfl (i := y_6) h_20 dB_3_2_48.1.2.2.1 ?_
                refine lv_topi (fun y_21 ey_21 => ?_)
                have ry_21 : 0 ≤ y_21.toInt ∧ y_21.toInt ≤ 11 := by rw [ey_21]; exact rc_g32_16 _ (in_lt h_20)
                refine lv_ishr hx hb dB_3_2_48.1.2.2.2 ?_
                refine lv_topi (fun y_22 ey_22 => ?_)
                refine lv_iconst (v := 1) hx hb dB_3_2_48.2.1.1.1 (by decide) ?_
                refine lv_iand hx hb dB_3_2_48.2.1.1.2 ?_
                refine lv_topi (fun y_23 ey_23 => ?_)
                refine lv_iconst (v := 1) hx hb dB_3_2_48.2.1.2.1 (by decide) ?_
                refine lv_icmp_ne (tgt := 191) hx hb dB_3_2_48.2.1.2.2 (by decide) (fun c_24 => ?_) (fun c_24 => ?_)
                · have t_24 : ¬ y_23.toInt = (1 : Int32).toInt := fun h => c_24 (Int32.toInt_inj.mp h)
                  obtain ⟨y_25, ey_25⟩ : ∃ y : Int32, y = x1_3 + 1 := ⟨_, rfl⟩
                  have ty_25 : y_25.toInt = x1_3.toInt + (1 : Int32).toInt := by rw [ey_25]; exact addI (by omega) (by omega)
                  refine lv_iinc (v := y_25) (lv' := [(1, .int y_25), (5, .int x5_16), (4, .int n26_10), (3, .int r_7), (2, .int y_6), (0, .ref mo)]) hx hb dB_3_2_50.2.2.1 hl (k := 4) rfl (by rw [ey_25]; rfl) (by decide) rfl (fun ls hl => ?_)
                  refine lv_goto (tgt := 31) hx hb dB_3_2_50.2.2.2.1 (by decide) ?_
                  exact ih_3 y_25 n25_9 n26_10 n27_11 n28_12 c_g32_16 f_14 _ _ _ (by omega) (by first | with_reducible assumption | omega | assumption) (by first | with_reducible assumption | omega | assumption) (by first | with_reducible assumption | assumption | exact rng_zero (by omega) (by omega) | exact orng_zero) ⟨hP, hD⟩ hS (lv_sub hl [0, 5] rfl)
                · have t_24 : y_23.toInt = (1 : Int32).toInt := congrArg Int32.toInt c_24
                  refine lv_aload_n hx hb dB_3_2_48.2.2.1.1 rfl (lv_at hl 5 rfl) ?_
                  refine va_get (ci := 12) (v := .ref g32) (C := RX12) (T := TX12) (N := 34) hx hb hts (fun _ h => List.mem_cons_of_mem _ (List.mem_append_right _ h)) hown hK.1 hP 0 rfl rfl 32 (by decide) (hts (.fieldLink RX12 79 "CutAtlasModel" "treeNext" "[I") (List.mem_of_getElem? (i := 1) rfl)) (fun _ h9 => h9) rfl dB_3_2_48.2.2.1.2 ?_
                  refine lv_iload_n hx hb dB_3_2_48.2.2.2.1 rfl (lv_at hl 4 rfl) ?_
                  refine lv_aload_n hx hb dB_3_2_48.2.2.2.2 rfl (lv_at hl 5 rfl) ?_
                  refine va_get (ci := 12) (v := .ref g32) (C := RX12) (T := TX12) (N := 34) hx hb hts (fun _ h => List.mem_cons_of_mem _ (List.mem_append_right _ h)) hown hK.1 hP 0 rfl rfl 32 (by decide) (hts (.fieldLink RX12 79 "CutAtlasModel" "treeNext" "[I") (List.mem_of_getElem? (i := 1) rfl)) (fun _ h9 => h9) rfl dB_3_2_49.1.1.1.1 ?_
                  refine lv_iload_n hx hb dB_3_2_49.1.1.1.2 rfl (lv_at hl 3 rfl) ?_
                  refine va_iald hx hb hK.1 hP 6 0 rfl rfl (i := y_6) h_20 dB_3_2_49.1.1.2.1 ?_
                  refine lv_topi (fun y_27 ey_27 => ?_)
                  have e_ := (ey_27.trans ey_21.symm).symm
                  subst e_
                  skip
                  refine va_iast hx hb hK.1 hP hD hS 6 0 rfl rfl (i := x1_3) h_5 dB_3_2_49.1.1.2.2 (fun H locs hP hD hS => ?_)
                  obtain ⟨f_29, ef_29⟩ : ∃ g : Nat → Int32, g = upd c_g32_16 x1_3.toNatClampNeg y_21 := ⟨_, rfl⟩
                  refine pd_K (D := D) (cl := vwCl) (H := H) (A := A) [ob12_0_ mo s0 s1 t2 s3 s4 g5 g6 g7 g8 g9 g10 s11 g12 g13 g14 g15 g16 g17 g18 g19 g20 s21 g22 g23 g24 n25_9 n26_10 n27_11 n28_12 g29 g30 g31 g32 g33, ai_ cy g5 40 f5, ai_ cy g6 40 f6, ai_ cy g7 40 f7, ai_ cy g8 40 f8, az_ cy g10 40 f10, ai_ cy g32 12 f_29, ai_ cy g33 12 f_14] (by rw [ef_29]; exact hP) (by rw [ef_29]; exact hD) (fun hP hD => ?_)
                  have rf_29 : rng f_29 12 (0) (11) := by rw [ef_29]; exact rng_upd rc_g32_16 (by omega) (by omega)
                  refine lv_aload_n hx hb dB_3_2_49.1.2.1.1 rfl (lv_at hl 5 rfl) ?_
                  refine va_get (ci := 12) (v := .ref g33) (C := RX12) (T := TX12) (N := 34) hx hb hts (fun _ h => List.mem_cons_of_mem _ (List.mem_append_right _ h)) hown hK.1 hP 0 rfl rfl 33 (by decide) (hts (.fieldLink RX12 82 "CutAtlasModel" "treeNumber" "[I") (List.mem_of_getElem? (i := 2) rfl)) (fun _ h9 => h9) rfl dB_3_2_49.1.2.1.2 ?_
                  refine lv_iload_n hx hb dB_3_2_49.1.2.2.1 rfl (lv_at hl 4 rfl) ?_
                  refine lv_aload_n hx hb dB_3_2_49.1.2.2.2 rfl (lv_at hl 5 rfl) ?_
                  refine va_get (ci := 12) (v := .ref g33) (C := RX12) (T := TX12) (N := 34) hx hb hts (fun _ h => List.mem_cons_of_mem _ (List.mem_append_right _ h)) hown hK.1 hP 0 rfl rfl 33 (by decide) (hts (.fieldLink RX12 82 "CutAtlasModel" "treeNumber" "[I") (List.mem_of_getElem? (i := 2) rfl)) (fun _ h9 => h9) rfl dB_3_2_49.2.1.1.1 ?_
                  refine lv_iload_n hx hb dB_3_2_49.2.1.1.2 rfl (lv_at hl 3 rfl) ?_
                  refine va_iald hx hb hK.1 hP 7 0 rfl rfl (i := y_6) h_20 dB_3_2_49.2.1.2.1 ?_
                  refine lv_topi (fun y_31 ey_31 => ?_)
                  refine va_iast hx hb hK.1 hP hD hS 7 0 rfl rfl (i := x1_3) h_5 dB_3_2_49.2.1.2.2 (fun H locs hP hD hS => ?_)
                  obtain ⟨f_33, ef_33⟩ : ∃ g : Nat → Int32, g = upd f_14 x1_3.toNatClampNeg y_31 := ⟨_, rfl⟩
                  refine pd_K (D := D) (cl := vwCl) (H := H) (A := A) [ob12_0_ mo s0 s1 t2 s3 s4 g5 g6 g7 g8 g9 g10 s11 g12 g13 g14 g15 g16 g17 g18 g19 g20 s21 g22 g23 g24 n25_9 n26_10 n27_11 n28_12 g29 g30 g31 g32 g33, ai_ cy g5 40 f5, ai_ cy g6 40 f6, ai_ cy g7 40 f7, ai_ cy g8 40 f8, az_ cy g10 40 f10, ai_ cy g32 12 f_29, ai_ cy g33 12 f_33] (by rw [ef_33]; exact hP) (by rw [ef_33]; exact hD) (fun hP hD => ?_)
                  refine lv_aload_n hx hb dB_3_2_49.2.2.1.1 rfl (lv_at hl 5 rfl) ?_
                  refine va_get (ci := 12) (v := .ref g32) (C := RX12) (T := TX12) (N := 34) hx hb hts (fun _ h => List.mem_cons_of_mem _ (List.mem_append_right _ h)) hown hK.1 hP 0 rfl rfl 32 (by decide) (hts (.fieldLink RX12 79 "CutAtlasModel" "treeNext" "[I") (List.mem_of_getElem? (i := 1) rfl)) (fun _ h9 => h9) rfl dB_3_2_49.2.2.1.2 ?_
                  refine lv_iload_n hx hb dB_3_2_49.2.2.2.1 rfl (lv_at hl 3 rfl) ?_
                  refine lv_iload_n hx hb dB_3_2_49.2.2.2.2 rfl (lv_at hl 4 rfl) ?_
                  refine va_iast hx hb hK.1 hP hD hS 6 0 rfl rfl (i := y_6) h_20 dB_3_2_50.1.1.1 (fun H locs hP hD hS => ?_)
                  obtain ⟨f_35, ef_35⟩ : ∃ g : Nat → Int32, g = upd f_29 y_6.toNatClampNeg x1_3 := ⟨_, rfl⟩
                  refine pd_K (D := D) (cl := vwCl) (H := H) (A := A) [ob12_0_ mo s0 s1 t2 s3 s4 g5 g6 g7 g8 g9 g10 s11 g12 g13 g14 g15 g16 g17 g18 g19 g20 s21 g22 g23 g24 n25_9 n26_10 n27_11 n28_12 g29 g30 g31 g32 g33, ai_ cy g5 40 f5, ai_ cy g6 40 f6, ai_ cy g7 40 f7, ai_ cy g8 40 f8, az_ cy g10 40 f10, ai_ cy g32 12 f_35, ai_ cy g33 12 f_33] (by rw [ef_35]; exact hP) (by rw [ef_35]; exact hD) (fun hP hD => ?_)
                  have rf_35 : rng f_35 12 (0) (11) := by rw [ef_35]; exact rng_upd rf_29 (by omega) (by omega)
                  refine lv_aload_n hx hb dB_3_2_50.1.1.2 rfl (lv_at hl 5 rfl) ?_
                  refine va_get (ci := 12) (v := .ref g33) (C := RX12) (T := TX12) (N := 34) hx hb hts (fun _ h => List.mem_cons_of_mem _ (List.mem_append_right _ h)) hown hK.1 hP 0 rfl rfl 33 (by decide) (hts (.fieldLink RX12 82 "CutAtlasModel" "treeNumber" "[I") (List.mem_of_getElem? (i := 2) rfl)) (fun _ h9 => h9) rfl dB_3_2_50.1.2.1 ?_
                  refine lv_iload_n hx hb dB_3_2_50.1.2.2 rfl (lv_at hl 3 rfl) ?_
                  refine lv_iload_n hx hb dB_3_2_50.2.1.1 rfl (lv_at hl 2 rfl) ?_
                  refine va_iast hx hb hK.1 hP hD hS 7 0 rfl rfl (i := y_6) h_20 dB_3_2_50.2.1.2 (fun H locs hP hD hS => ?_)
                  obtain ⟨f_37, ef_37⟩ : ∃ g : Nat → Int32, g = upd f_33 y_6.toNatClampNeg r_7 := ⟨_, rfl⟩
                  refine pd_K (D := D) (cl := vwCl) (H := H) (A := A) [ob12_0_ mo s0 s1 t2 s3 s4 g5 g6 g7 g8 g9 g10 s11 g12 g13 g14 g15 g16 g17 g18 g19 g20 s21 g22 g23 g24 n25_9 n26_10 n27_11 n28_12 g29 g30 g31 g32 g33, ai_ cy g5 40 f5, ai_ cy g6 40 f6, ai_ cy g7 40 f7, ai_ cy g8 40 f8, az_ cy g10 40 f10, ai_ cy g32 12 f_35, ai_ cy g33 12 f_37] (by rw [ef_37]; exact hP) (by rw [ef_37]; exact hD) (fun hP hD => ?_)
                  obtain ⟨y_38, ey_38⟩ : ∃ y : Int32, y = x1_3 + 1 := ⟨_, rfl⟩
                  have ty_38 : y_38.toInt = x1_3.toInt + (1 : Int32).toInt := by rw [ey_38]; exact addI (by omega) (by omega)
                  refine lv_iinc (v := y_38) (lv' := [(1, .int y_38), (5, .int x5_16), (4, .int n26_10), (3, .int r_7), (2, .int y_6), (0, .ref mo)]) hx hb dB_3_2_50.2.2.1 hl (k := 4) rfl (by rw [ey_38]; rfl) (by decide) rfl (fun ls hl => ?_)
                  refine lv_goto (tgt := 31) hx hb dB_3_2_50.2.2.2.1 (by decide) ?_
                  exact ih_3 y_38 n25_9 n26_10 n27_11 n28_12 f_35 f_37 _ _ _ (by omega) (by first | with_reducible assumption | omega | assumption) (by first | with_reducible assumption | omega | assumption) (by first | with_reducible assumption | assumption | exact rng_zero (by omega) (by omega) | exact orng_zero) ⟨hP, hD⟩ hS (lv_sub hl [0, 5] rfl)
            · have t_17 : ¬ s3.toInt ≤ x5_16.toInt := fun h => c_17 (Int32.le_iff_toInt_le.mpr h)
              refine lv_aload_n hx hb dB_3_2_46.1.2.2.2 rfl (lv_at hl 5 rfl) ?_
              refine va_get (ci := 12) (v := .ref g32) (C := RX12) (T := TX12) (N := 34) hx hb hts (fun _ h => List.mem_cons_of_mem _ (List.mem_append_right _ h)) hown hK.1 hP 0 rfl rfl 32 (by decide) (hts (.fieldLink RX12 79 "CutAtlasModel" "treeNext" "[I") (List.mem_of_getElem? (i := 1) rfl)) (fun _ h9 => h9) rfl dB_3_2_46.2.1.1.1 ?_
              refine lv_iload hx hb dB_3_2_46.2.1.1.2 (lv_at hl 0 rfl) ?_
              refine lv_iload hx hb dB_3_2_46.2.1.2.1 (lv_at hl 1 rfl) ?_
              refine lv_iload hx hb dB_3_2_46.2.1.2.2 (lv_at hl 0 rfl) ?_
              refine lv_ishr hx hb dB_3_2_46.2.2.1.1 ?_
              refine lv_topi (fun y_39 ey_39 => ?_)
              refine lv_iconst (v := 1) hx hb dB_3_2_46.2.2.1.2 (by decide) ?_
              refine lv_iand hx hb dB_3_2_46.2.2.2.1 ?_
              refine lv_topi (fun y_40 ey_40 => ?_)
              refine lv_iconst (v := 1) hx hb dB_3_2_46.2.2.2.2 (by decide) ?_
              refine lv_icmp_ne (tgt := 120) hx hb dB_3_2_47.1.1.1.1 (by decide) (fun c_41 => ?_) (fun c_41 => ?_)
              · have t_41 : ¬ y_40.toInt = (1 : Int32).toInt := fun h => c_41 (Int32.toInt_inj.mp h)
                refine lv_aload_n hx hb dB_3_2_47.2.1.1.2 rfl (lv_at hl 5 rfl) ?_
                refine va_get (ci := 12) (v := .ref g32) (C := RX12) (T := TX12) (N := 34) hx hb hts (fun _ h => List.mem_cons_of_mem _ (List.mem_append_right _ h)) hown hK.1 hP 0 rfl rfl 32 (by decide) (hts (.fieldLink RX12 79 "CutAtlasModel" "treeNext" "[I") (List.mem_of_getElem? (i := 1) rfl)) (fun _ h9 => h9) rfl dB_3_2_47.2.1.2.1 ?_
                refine lv_iload hx hb dB_3_2_47.2.1.2.2 (lv_at hl 0 rfl) ?_
                have h_42 : vp_in x5_16 12 := in_I (by first | with_reducible assumption | omega) (by omega)
                refine va_iald hx hb hK.1 hP 6 0 rfl rfl (i := x5_16) h_42 dB_3_2_47.2.2.1.1 ?_
                refine lv_topi (fun y_43 ey_43 => ?_)
                have ry_43 : 0 ≤ y_43.toInt ∧ y_43.toInt ≤ 11 := by rw [ey_43]; exact rc_g32_16 _ (in_lt h_42)
                refine va_iast hx hb hK.1 hP hD hS 6 0 rfl rfl (i := x5_16) h_42 dB_3_2_47.2.2.1.2 (fun H locs hP hD hS => ?_)
                obtain ⟨f_45, ef_45⟩ : ∃ g : Nat → Int32, g = upd c_g32_16 x5_16.toNatClampNeg y_43 := ⟨_, rfl⟩
                refine pd_K (D := D) (cl := vwCl) (H := H) (A := A) [ob12_0_ mo s0 s1 t2 s3 s4 g5 g6 g7 g8 g9 g10 s11 g12 g13 g14 g15 g16 g17 g18 g19 g20 s21 g22 g23 g24 n25_9 n26_10 n27_11 n28_12 g29 g30 g31 g32 g33, ai_ cy g5 40 f5, ai_ cy g6 40 f6, ai_ cy g7 40 f7, ai_ cy g8 40 f8, az_ cy g10 40 f10, ai_ cy g32 12 f_45, ai_ cy g33 12 f_14] (by rw [ef_45]; exact hP) (by rw [ef_45]; exact hD) (fun hP hD => ?_)
                have rf_45 : rng f_45 12 (0) (11) := by rw [ef_45]; exact rng_upd rc_g32_16 (by omega) (by omega)
                obtain ⟨y_46, ey_46⟩ : ∃ y : Int32, y = x5_16 + 1 := ⟨_, rfl⟩
                have ty_46 : y_46.toInt = x5_16.toInt + (1 : Int32).toInt := by rw [ey_46]; exact addI (by omega) (by omega)
                refine lv_iinc (v := y_46) (lv' := [(5, .int y_46), (4, .int n26_10), (3, .int r_7), (2, .int y_6), (1, .int x1_3), (0, .ref mo)]) hx hb dB_3_2_47.2.2.2.1 hl (k := 0) rfl (by rw [ey_46]; rfl) (by decide) rfl (fun ls hl => ?_)
                refine lv_goto (tgt := 79) hx hb dB_3_2_47.2.2.2.2 (by decide) ?_
                exact ih_16 y_46 f_45 _ _ _ (by omega) (by first | with_reducible assumption | omega | assumption) (by first | with_reducible assumption | omega | assumption) (by first | with_reducible assumption | assumption | exact rng_zero (by omega) (by omega) | exact orng_zero) ⟨hP, hD⟩ hS (lv_sub hl [0, 1, 2, 3, 4, 5] rfl)
              · have t_41 : y_40.toInt = (1 : Int32).toInt := congrArg Int32.toInt c_41
                refine lv_aload_n hx hb dB_3_2_47.1.1.1.2 rfl (lv_at hl 5 rfl) ?_
                refine va_get (ci := 12) (v := .ref g32) (C := RX12) (T := TX12) (N := 34) hx hb hts (fun _ h => List.mem_cons_of_mem _ (List.mem_append_right _ h)) hown hK.1 hP 0 rfl rfl 32 (by decide) (hts (.fieldLink RX12 79 "CutAtlasModel" "treeNext" "[I") (List.mem_of_getElem? (i := 1) rfl)) (fun _ h9 => h9) rfl dB_3_2_47.1.1.2.1 ?_
                refine lv_iload hx hb dB_3_2_47.1.1.2.2 (lv_at hl 0 rfl) ?_
                have h_47 : vp_in x5_16 12 := in_I (by first | with_reducible assumption | omega) (by omega)
                refine va_iald hx hb hK.1 hP 6 0 rfl rfl (i := x5_16) h_47 dB_3_2_47.1.2.1.1 ?_
                refine lv_topi (fun y_48 ey_48 => ?_)
                have ry_48 : 0 ≤ y_48.toInt ∧ y_48.toInt ≤ 11 := by rw [ey_48]; exact rc_g32_16 _ (in_lt h_47)
                refine lv_iload_n hx hb dB_3_2_47.1.2.1.2 rfl (lv_at hl 3 rfl) ?_
                refine lv_icmp_ne (tgt := 120) hx hb dB_3_2_47.1.2.2.1 (by decide) (fun c_49 => ?_) (fun c_49 => ?_)
                · have t_49 : ¬ y_48.toInt = y_6.toInt := fun h => c_49 (Int32.toInt_inj.mp h)
                  refine lv_aload_n hx hb dB_3_2_47.2.1.1.2 rfl (lv_at hl 5 rfl) ?_
                  refine va_get (ci := 12) (v := .ref g32) (C := RX12) (T := TX12) (N := 34) hx hb hts (fun _ h => List.mem_cons_of_mem _ (List.mem_append_right _ h)) hown hK.1 hP 0 rfl rfl 32 (by decide) (hts (.fieldLink RX12 79 "CutAtlasModel" "treeNext" "[I") (List.mem_of_getElem? (i := 1) rfl)) (fun _ h9 => h9) rfl dB_3_2_47.2.1.2.1 ?_
                  refine lv_iload hx hb dB_3_2_47.2.1.2.2 (lv_at hl 0 rfl) ?_
                  refine va_iald hx hb hK.1 hP 6 0 rfl rfl (i := x5_16) h_47 dB_3_2_47.2.2.1.1 ?_
                  refine lv_topi (fun y_51 ey_51 => ?_)
                  have e_ := (ey_51.trans ey_48.symm).symm
                  subst e_
                  skip
                  refine va_iast hx hb hK.1 hP hD hS 6 0 rfl rfl (i := x5_16) h_47 dB_3_2_47.2.2.1.2 (fun H locs hP hD hS => ?_)
                  obtain ⟨f_53, ef_53⟩ : ∃ g : Nat → Int32, g = upd c_g32_16 x5_16.toNatClampNeg y_48 := ⟨_, rfl⟩
                  refine pd_K (D := D) (cl := vwCl) (H := H) (A := A) [ob12_0_ mo s0 s1 t2 s3 s4 g5 g6 g7 g8 g9 g10 s11 g12 g13 g14 g15 g16 g17 g18 g19 g20 s21 g22 g23 g24 n25_9 n26_10 n27_11 n28_12 g29 g30 g31 g32 g33, ai_ cy g5 40 f5, ai_ cy g6 40 f6, ai_ cy g7 40 f7, ai_ cy g8 40 f8, az_ cy g10 40 f10, ai_ cy g32 12 f_53, ai_ cy g33 12 f_14] (by rw [ef_53]; exact hP) (by rw [ef_53]; exact hD) (fun hP hD => ?_)
                  have rf_53 : rng f_53 12 (0) (11) := by rw [ef_53]; exact rng_upd rc_g32_16 (by omega) (by omega)
                  obtain ⟨y_54, ey_54⟩ : ∃ y : Int32, y = x5_16 + 1 := ⟨_, rfl⟩
                  have ty_54 : y_54.toInt = x5_16.toInt + (1 : Int32).toInt := by rw [ey_54]; exact addI (by omega) (by omega)
                  refine lv_iinc (v := y_54) (lv' := [(5, .int y_54), (4, .int n26_10), (3, .int r_7), (2, .int y_6), (1, .int x1_3), (0, .ref mo)]) hx hb dB_3_2_47.2.2.2.1 hl (k := 0) rfl (by rw [ey_54]; rfl) (by decide) rfl (fun ls hl => ?_)
                  refine lv_goto (tgt := 79) hx hb dB_3_2_47.2.2.2.2 (by decide) ?_
                  exact ih_16 y_54 f_53 _ _ _ (by omega) (by first | with_reducible assumption | omega | assumption) (by first | with_reducible assumption | omega | assumption) (by first | with_reducible assumption | assumption | exact rng_zero (by omega) (by omega) | exact orng_zero) ⟨hP, hD⟩ hS (lv_sub hl [0, 1, 2, 3, 4, 5] rfl)
                · have t_49 : y_48.toInt = y_6.toInt := congrArg Int32.toInt c_49
                  refine lv_iload_n hx hb dB_3_2_47.1.2.2.2 rfl (lv_at hl 4 rfl) ?_
                  refine lv_goto (tgt := 127) hx hb dB_3_2_47.2.1.1.1 (by decide) ?_
                  refine va_iast hx hb hK.1 hP hD hS 6 0 rfl rfl (i := x5_16) h_47 dB_3_2_47.2.2.1.2 (fun H locs hP hD hS => ?_)
                  obtain ⟨f_56, ef_56⟩ : ∃ g : Nat → Int32, g = upd c_g32_16 x5_16.toNatClampNeg x1_3 := ⟨_, rfl⟩
                  refine pd_K (D := D) (cl := vwCl) (H := H) (A := A) [ob12_0_ mo s0 s1 t2 s3 s4 g5 g6 g7 g8 g9 g10 s11 g12 g13 g14 g15 g16 g17 g18 g19 g20 s21 g22 g23 g24 n25_9 n26_10 n27_11 n28_12 g29 g30 g31 g32 g33, ai_ cy g5 40 f5, ai_ cy g6 40 f6, ai_ cy g7 40 f7, ai_ cy g8 40 f8, az_ cy g10 40 f10, ai_ cy g32 12 f_56, ai_ cy g33 12 f_14] (by rw [ef_56]; exact hP) (by rw [ef_56]; exact hD) (fun hP hD => ?_)
                  have rf_56 : rng f_56 12 (0) (11) := by rw [ef_56]; exact rng_upd rc_g32_16 (by omega) (by omega)
                  obtain ⟨y_57, ey_57⟩ : ∃ y : Int32, y = x5_16 + 1 := ⟨_, rfl⟩
                  have ty_57 : y_57.toInt = x5_16.toInt + (1 : Int32).toInt := by rw [ey_57]; exact addI (by omega) (by omega)
                  refine lv_iinc (v := y_57) (lv' := [(5, .int y_57), (4, .int n26_10), (3, .int r_7), (2, .int y_6), (1, .int x1_3), (0, .ref mo)]) hx hb dB_3_2_47.2.2.2.1 hl (k := 0) rfl (by rw [ey_57]; rfl) (by decide) rfl (fun ls hl => ?_)
                  refine lv_goto (tgt := 79) hx hb dB_3_2_47.2.2.2.2 (by decide) ?_
                  exact ih_16 y_57 f_56 _ _ _ (by omega) (by first | with_reducible assumption | omega | assumption) (by first | with_reducible assumption | omega | assumption) (by first | with_reducible assumption | assumption | exact rng_zero (by omega) (by omega) | exact orng_zero) ⟨hP, hD⟩ hS (lv_sub hl [0, 1, 2, 3, 4, 5] rfl)
    · have t_2 : ¬ (12 : Int32).toInt ≤ x1_1.toInt := fun h => c_2 (Int32.le_iff_toInt_le.mpr h)
      refine lv_aload_n hx hb dB_3_2_43.1.2.1.2 rfl (lv_at hl 1 rfl) ?_
      refine va_get (ci := 12) (v := .ref g32) (C := RX12) (T := TX12) (N := 34) hx hb hts (fun _ h => List.mem_cons_of_mem _ (List.mem_append_right _ h)) hown hK.1 hP 0 rfl rfl 32 (by decide) (hts (.fieldLink RX12 79 "CutAtlasModel" "treeNext" "[I") (List.mem_of_getElem? (i := 1) rfl)) (fun _ h9 => h9) rfl dB_3_2_43.1.2.2.1 ?_
      refine lv_iload_n hx hb dB_3_2_43.1.2.2.2 rfl (lv_at hl 0 rfl) ?_
      refine lv_iconst (v := 0) hx hb dB_3_2_43.2.1.1.1 (by decide) ?_
      have h_58 : vp_in x1_1 12 := in_I (by first | with_reducible assumption | omega) (by omega)
      refine va_iast hx hb hK.1 hP hD hS 6 0 rfl rfl (i := x1_1) h_58 dB_3_2_43.2.1.1.2 (fun H locs hP hD hS => ?_)
      obtain ⟨f_59, ef_59⟩ : ∃ g : Nat → Int32, g = upd c_g32_1 x1_1.toNatClampNeg (0 : Int32) := ⟨_, rfl⟩
      refine pd_K (D := D) (cl := vwCl) (H := H) (A := A) [ob12_0_ mo s0 s1 t2 s3 s4 g5 g6 g7 g8 g9 g10 s11 g12 g13 g14 g15 g16 g17 g18 g19 g20 s21 g22 g23 g24 s25 s26 s27 s28 g29 g30 g31 g32 g33, ai_ cy g5 40 f5, ai_ cy g6 40 f6, ai_ cy g7 40 f7, ai_ cy g8 40 f8, az_ cy g10 40 f10, ai_ cy g32 12 f_59, ai_ cy g33 12 c_g33_1] (by rw [ef_59]; exact hP) (by rw [ef_59]; exact hD) (fun hP hD => ?_)
      have rf_59 : rng f_59 12 (0) (11) := by rw [ef_59]; exact rng_upd rc_g32_1 (by omega) (by omega)
      refine lv_aload_n hx hb dB_3_2_43.2.1.2.1 rfl (lv_at hl 1 rfl) ?_
      refine va_get (ci := 12) (v := .ref g33) (C := RX12) (T := TX12) (N := 34) hx hb hts (fun _ h => List.mem_cons_of_mem _ (List.mem_append_right _ h)) hown hK.1 hP 0 rfl rfl 33 (by decide) (hts (.fieldLink RX12 82 "CutAtlasModel" "treeNumber" "[I") (List.mem_of_getElem? (i := 2) rfl)) (fun _ h9 => h9) rfl dB_3_2_43.2.1.2.2 ?_
      refine lv_iload_n hx hb dB_3_2_43.2.2.1.1 rfl (lv_at hl 0 rfl) ?_
      refine lv_bipush (v := (-9)) hx hb dB_3_2_43.2.2.1.2 (by decide) ?_
      refine va_iast hx hb hK.1 hP hD hS 7 0 rfl rfl (i := x1_1) h_58 dB_3_2_43.2.2.2.1 (fun H locs hP hD hS => ?_)
      obtain ⟨f_61, ef_61⟩ : ∃ g : Nat → Int32, g = upd c_g33_1 x1_1.toNatClampNeg ((-9) : Int32) := ⟨_, rfl⟩
      refine pd_K (D := D) (cl := vwCl) (H := H) (A := A) [ob12_0_ mo s0 s1 t2 s3 s4 g5 g6 g7 g8 g9 g10 s11 g12 g13 g14 g15 g16 g17 g18 g19 g20 s21 g22 g23 g24 s25 s26 s27 s28 g29 g30 g31 g32 g33, ai_ cy g5 40 f5, ai_ cy g6 40 f6, ai_ cy g7 40 f7, ai_ cy g8 40 f8, az_ cy g10 40 f10, ai_ cy g32 12 f_59, ai_ cy g33 12 f_61] (by rw [ef_61]; exact hP) (by rw [ef_61]; exact hD) (fun hP hD => ?_)
      obtain ⟨y_62, ey_62⟩ : ∃ y : Int32, y = x1_1 + 1 := ⟨_, rfl⟩
      have ty_62 : y_62.toInt = x1_1.toInt + (1 : Int32).toInt := by rw [ey_62]; exact addI (by omega) (by omega)
      refine lv_iinc (v := y_62) (lv' := [(1, .int y_62), (0, .ref mo)]) hx hb dB_3_2_43.2.2.2.2 hl (k := 0) rfl (by rw [ey_62]; rfl) (by decide) rfl (fun ls hl => ?_)
      refine lv_goto (tgt := 2) hx hb dB_3_2_44.1.1.1.1 (by decide) ?_
      exact ih_1 y_62 f_59 f_61 _ _ _ (by omega) (by first | with_reducible assumption | omega | assumption) (by first | with_reducible assumption | omega | assumption) (by first | with_reducible assumption | assumption | exact rng_zero (by omega) (by omega) | exact orng_zero) ⟨hP, hD⟩ hS (lv_sub hl [0, 1] rfl)

set_option maxHeartbeats 4000000 in
set_option maxRecDepth 100000 in
theorem c_X12_tree (l : Launch) (D : va_G) (cy : Nat → ClassId) (sz : Nat) (mo : Nat) (g5 : Nat) (g6 : Nat) (g7 : Nat) (g8 : Nat) (g9 : Nat) (g10 : Nat) (g12 : Nat) (g13 : Nat) (g14 : Nat) (g15 : Nat) (g16 : Nat) (g17 : Nat) (g18 : Nat) (g19 : Nat) (g20 : Nat) (g22 : Nat) (g23 : Nat) (g24 : Nat) (g29 : Nat) (g30 : Nat) (g31 : Nat) (g32 : Nat) (g33 : Nat) (s0 : Int32) (s1 : Int32) (s3 : Int32) (s4 : Int32) (s11 : Int32) (s21 : Int32) (s25 : Int32) (s26 : Int32) (s27 : Int32) (s28 : Int32) (t2 : Int64) (f5 : Nat → Int32) (f6 : Nat → Int32) (f7 : Nat → Int32) (f8 : Nat → Int32) (f10 : Nat → Int32) (f32 : Nat → Int32) (f33 : Nat → Int32) (a1 : Int32) (a2 : Int32) (hN : 0 ≤ s4.toInt ∧ s4.toInt ≤ 40) (hPl : 0 ≤ s3.toInt ∧ s3.toInt ≤ 12) (r_f32 : rng f32 12 (0) (11)) : Met l yX12_tree wsX12_tree ({ frames := 5, cells := 0, slots := 0, locals := 121 }) (va_Pc [.ref mo, .int a1, .int a2] (fun U => U.heap.size = sz ∧ va_P D vwCl [ob12_0_ mo s0 s1 t2 s3 s4 g5 g6 g7 g8 g9 g10 s11 g12 g13 g14 g15 g16 g17 g18 g19 g20 s21 g22 g23 g24 s25 s26 s27 s28 g29 g30 g31 g32 g33, ai_ cy g5 40 f5, ai_ cy g6 40 f6, ai_ cy g7 40 f7, ai_ cy g8 40 f8, az_ cy g10 40 f10, ai_ cy g32 12 f32, ai_ cy g33 12 f33] U.heap ∧ kk_ D cy U ∧ va_D (fun _ => True) [ob12_0_ mo s0 s1 t2 s3 s4 g5 g6 g7 g8 g9 g10 s11 g12 g13 g14 g15 g16 g17 g18 g19 g20 s21 g22 g23 g24 s25 s26 s27 s28 g29 g30 g31 g32 g33, ai_ cy g5 40 f5, ai_ cy g6 40 f6, ai_ cy g7 40 f7, ai_ cy g8 40 f8, az_ cy g10 40 f10, ai_ cy g32 12 f32, ai_ cy g33 12 f33])) (va_Qi (fun (r : Int32) (_ : Unit) => True) (fun (_ : Unit) (t : State) => ∃ (n25 : Int32), ∃ (n26 : Int32), ∃ (n27 : Int32), ∃ (n28 : Int32), ∃ (e32 : Nat → Int32), ∃ (e33 : Nat → Int32), (rng e32 12 (0) (11)) ∧ va_P D vwCl [ob12_0_ mo 0 s1 t2 s3 s4 g5 g6 g7 g8 g9 g10 s11 g12 g13 g14 g15 g16 g17 g18 g19 g20 s21 g22 g23 g24 n25 n26 n27 n28 g29 g30 g31 g32 g33, ai_ cy g5 40 f5, ai_ cy g6 40 f6, ai_ cy g7 40 f7, ai_ cy g8 40 f8, az_ cy g10 40 f10, ai_ cy g32 12 e32, ai_ cy g33 12 e33] t.heap ∧ va_D (va_A [ob12_0_ mo s0 s1 t2 s3 s4 g5 g6 g7 g8 g9 g10 s11 g12 g13 g14 g15 g16 g17 g18 g19 g20 s21 g22 g23 g24 s25 s26 s27 s28 g29 g30 g31 g32 g33, ai_ cy g5 40 f5, ai_ cy g6 40 f6, ai_ cy g7 40 f7, ai_ cy g8 40 f8, az_ cy g10 40 f10, ai_ cy g32 12 f32, ai_ cy g33 12 f33] sz) [ob12_0_ mo 0 s1 t2 s3 s4 g5 g6 g7 g8 g9 g10 s11 g12 g13 g14 g15 g16 g17 g18 g19 g20 s21 g22 g23 g24 n25 n26 n27 n28 g29 g30 g31 g32 g33, ai_ cy g5 40 f5, ai_ cy g6 40 f6, ai_ cy g7 40 f7, ai_ cy g8 40 f8, az_ cy g10 40 f10, ai_ cy g32 12 e32, ai_ cy g33 12 e33]) (va_A [ob12_0_ mo s0 s1 t2 s3 s4 g5 g6 g7 g8 g9 g10 s11 g12 g13 g14 g15 g16 g17 g18 g19 g20 s21 g22 g23 g24 s25 s26 s27 s28 g29 g30 g31 g32 g33, ai_ cy g5 40 f5, ai_ cy g6 40 f6, ai_ cy g7 40 f7, ai_ cy g8 40 f8, az_ cy g10 40 f10, ai_ cy g32 12 f32, ai_ cy g33 12 f33] sz)) 0 0 (va_A [ob12_0_ mo s0 s1 t2 s3 s4 g5 g6 g7 g8 g9 g10 s11 g12 g13 g14 g15 g16 g17 g18 g19 g20 s21 g22 g23 g24 s25 s26 s27 s28 g29 g30 g31 g32 g33, ai_ cy g5 40 f5, ai_ cy g6 40 f6, ai_ cy g7 40 f7, ai_ cy g8 40 f8, az_ cy g10 40 f10, ai_ cy g32 12 f32, ai_ cy g33 12 f33] sz) := by
  refine ofQ (cc := cX12_tree) (maxL := 3) (ret := (some .int)) (by decide) rfl ?_
  intro p e s m args below meth c s₁ Q hQ B hml hv
  obtain ⟨rfl, hsz, hP, hK, hD0⟩ := hv
  have hx := B.exec
  have hb := B.bytes
  have hr := B.returns
  have hts := atoms_spec (ws := wsX12_tree) B.pre
  have hown : s.vm.findClass RX12 = some m.cls := by have h_ := findClass_of_methodNamed B.named; exact h_
  have hlocks := B.notSynchronized
  subst hsz
  have hD := hD0.self (sz := s.heap.size)
  generalize hAe : va_A [ob12_0_ mo s0 s1 t2 s3 s4 g5 g6 g7 g8 g9 g10 s11 g12 g13 g14 g15 g16 g17 g18 g19 g20 s21 g22 g23 g24 s25 s26 s27 s28 g29 g30 g31 g32 g33, ai_ cy g5 40 f5, ai_ cy g6 40 f6, ai_ cy g7 40 f7, ai_ cy g8 40 f8, az_ cy g10 40 f10, ai_ cy g32 12 f32, ai_ cy g33 12 f33] s.heap.size = A at hD hQ
  have hA : ∀ q : Nat, s.heap.size ≤ q → A q := fun q h => by rw [← hAe]; exact Or.inr h
  have hS : va_S A s.heap s.heap [] := va_S.rf
  have hl := lv_entry ([.ref mo, .int a1, .int a2]) (n := 3) (Nat.le_of_ble_eq_true rfl)
  rw [lg_entry_eq]
  generalize (lg_sl ([.ref mo, .int a1, .int a2]) ++ List.replicate (3 - (lg_sl ([.ref mo, .int a1, .int a2])).length) Slot.unset).toArray = ls at hl ⊢
  have hl : lv_has ls 3 [(0, .ref mo), (1, .int a1), (2, .int a2)] := hl
  have zm9 : ((-9) : Int32).toInt = -9 := by decide
  have zm2 : ((-2) : Int32).toInt = -2 := by decide
  have zm1 : ((-1) : Int32).toInt = -1 := by decide
  have z0 : (0 : Int32).toInt = 0 := by decide
  have zl0 : (0 : Int64).toInt = 0 := by decide
  have zl1 : (1 : Int64).toInt = 1 := by decide
  refine lv_aload_n hx hb dB_3_2_53.1.1.1.1 rfl (lv_at hl 0 rfl) ?_
  refine lv_iconst (v := 0) hx hb dB_3_2_53.1.1.1.2 (by decide) ?_
  refine va_put (ci := 12) (v := .int 0) (ty := .int) (C := RX12) (T := TX12) (N := 34) hx hb hts (fun _ h => List.mem_cons_of_mem _ (List.mem_append_right _ h)) tyX12 tyX12_ok nmX12 hown hK.1 hP hD hS 0 rfl rfl 0 (by decide) (hts (.fieldLink RX12 85 "CutAtlasModel" "thrown" "I") (List.mem_of_getElem? (i := 1) rfl)) (fun _ h9 => h9) rfl (by decide +kernel) rfl rfl (Nat.le_of_ble_eq_true rfl) dB_3_2_53.1.1.2.1 (fun H locs hP hD hS => ?_)
  refine pd_K [ob12_0_ mo 0 s1 t2 s3 s4 g5 g6 g7 g8 g9 g10 s11 g12 g13 g14 g15 g16 g17 g18 g19 g20 s21 g22 g23 g24 s25 s26 s27 s28 g29 g30 g31 g32 g33, ai_ cy g5 40 f5, ai_ cy g6 40 f6, ai_ cy g7 40 f7, ai_ cy g8 40 f8, az_ cy g10 40 f10, ai_ cy g32 12 f32, ai_ cy g33 12 f33] hP hD (fun hP hD => ?_)
  refine lv_iload_n hx hb dB_3_2_53.1.1.2.2 rfl (lv_at hl 2 rfl) ?_
  refine lv_i2l (v := a2.toInt64) hx hb dB_3_2_53.1.2.1.1 rfl ?_
  have q_6 : (a2.toInt64).toInt = a2.toInt := Int32.toInt_toInt64 a2
  refine lv_lconst (v := 0) hx hb dB_3_2_53.1.2.1.2 (by decide) ?_
  refine lv_lconst (v := 1) hx hb dB_3_2_53.1.2.2.1 (by decide) ?_
  refine ct_R hP hD [] [] (by decide) rfl (fun hPc hDw => ?_)
  have hFc := va_free (wc := []) hD hS hA [] rfl
  refine va_calli (va_runS (As := [.long a2.toInt64, .long 0, .long 1]) (rest := []) ⟨hx, hb, hml, hown, hts⟩ (c_X12_in l D cy H.size a2.toInt64 (0 : Int64) (1 : Int64)) (va_cwS 3 hts gX12_tree_X12_in rfl rfl rfl hd_X12_in ⟨Nat.le_of_ble_eq_true rfl, Nat.le_of_ble_eq_true rfl⟩) ⟨bl_, fun U hU hW => ⟨rfl, by rw [hU], by rw [hU]; exact hPc, kk_mv hW hK, hDw⟩⟩ rfl rfl hl.1 rfl (lv_room (Nat.le_of_ble_eq_true rfl)) dB_3_2_53.1.2.2.2 ⟨Nat.le_of_ble_eq_true rfl, Nat.le_of_ble_eq_true rfl⟩) hS (fun q _ h => hFc q h) hFc (fun r_1 u t H locs ht hvm hw hB hz1 hk1 hS => ?_)
  have hP : va_P D vwCl _ H := ro_keep hP hk1
  rcases hw with ⟨w_2, e_⟩ | ⟨w_2, e_⟩
  · have e_ := e_.symm
    subst e_
    refine lv_if_ne (tgt := 17) hx hb dB_3_2_53.2.1.1.1 (by decide) (fun c_3 => ?_) (fun c_3 => ?_)
    · have _ := c_3
      refine lv_aload_n hx hb dB_3_2_53.2.1.2.2 rfl (lv_at hl 0 rfl) ?_
      refine ct_R hP hD [ob12_0_ mo 0 s1 t2 s3 s4 g5 g6 g7 g8 g9 g10 s11 g12 g13 g14 g15 g16 g17 g18 g19 g20 s21 g22 g23 g24 s25 s26 s27 s28 g29 g30 g31 g32 g33, ai_ cy g5 40 f5, az_ cy g10 40 f10] [0, 1, 5] (by decide) rfl (fun hPc hDw => ?_)
      have hFc := va_free (wc := []) hD hS hA [] rfl
      refine va_calli (va_runV (As := []) (rest := []) ⟨hx, hb, hml, hown, hts⟩ (c_X12_isWhole l D cy H.size mo g5 g6 g7 g8 g9 g10 g12 g13 g14 g15 g16 g17 g18 g19 g20 g22 g23 g24 g29 g30 g31 g32 g33 (0 : Int32) s1 s3 s4 s11 s21 s25 s26 s27 s28 t2 f5 f10 (by first | with_reducible assumption | omega | assumption)) (cwV 0 hts gX12_tree_X12_isWhole rfl rfl rfl ⟨rfl, hd_X12_isWhole⟩ ⟨Nat.le_of_ble_eq_true rfl, Nat.le_of_ble_eq_true rfl⟩) ⟨bl_, va_recvX hK.1 hP (ci := 12) (q0 := 0) rfl rfl, fun U hU hW => ⟨rfl, by rw [hU], by rw [hU]; exact hPc, kk_mv hW hK, hDw⟩⟩ rfl rfl hl.1 rfl (lv_room (Nat.le_of_ble_eq_true rfl)) dB_3_2_53.2.2.1.1 ⟨Nat.le_of_ble_eq_true rfl, Nat.le_of_ble_eq_true rfl⟩) hS (fun q _ h => hFc q h) hFc (fun r_4 u t H locs ht hvm hw hB hz1 hk1 hS => ?_)
      have hP : va_P D vwCl _ H := ro_keep hP hk1
      have f0_r_4 := hw
      refine lv_if_ne (tgt := 27) hx hb dB_3_2_53.2.2.1.2 (by decide) (fun c_5 => ?_) (fun c_5 => ?_)
      · have t_5 : ¬ r_4.toInt = (0 : Int32).toInt := fun h => c_5 (Int32.toInt_inj.mp h)
        refine lv_aload_n hx hb dB_3_2_54.1.1.1.1 rfl (lv_at hl 0 rfl) ?_
        refine lv_iload_n hx hb dB_3_2_54.1.1.1.2 rfl (lv_at hl 1 rfl) ?_
        refine ct_R hP hD [ob12_0_ mo 0 s1 t2 s3 s4 g5 g6 g7 g8 g9 g10 s11 g12 g13 g14 g15 g16 g17 g18 g19 g20 s21 g22 g23 g24 s25 s26 s27 s28 g29 g30 g31 g32 g33] [0] (by decide) rfl (fun hPc hDw => ?_)
        have hFc := va_free (wc := []) hD hS hA [] rfl
        refine va_calli (va_runV (As := [.int a1]) (rest := []) ⟨hx, hb, hml, hown, hts⟩ (c_X12_isPlace l D cy H.size mo g5 g6 g7 g8 g9 g10 g12 g13 g14 g15 g16 g17 g18 g19 g20 g22 g23 g24 g29 g30 g31 g32 g33 (0 : Int32) s1 s3 s4 s11 s21 s25 s26 s27 s28 t2 a1 (by first | with_reducible assumption | omega | assumption)) (cwV 1 hts gX12_tree_X12_isPlace rfl rfl rfl ⟨rfl, hd_X12_isPlace⟩ ⟨Nat.le_of_ble_eq_true rfl, Nat.le_of_ble_eq_true rfl⟩) ⟨bl_, va_recvX hK.1 hP (ci := 12) (q0 := 0) rfl rfl, fun U hU hW => ⟨rfl, by rw [hU], by rw [hU]; exact hPc, kk_mv hW hK, hDw⟩⟩ rfl rfl hl.1 rfl (lv_room (Nat.le_of_ble_eq_true rfl)) dB_3_2_54.1.1.2.1 ⟨Nat.le_of_ble_eq_true rfl, Nat.le_of_ble_eq_true rfl⟩) hS (fun q _ h => hFc q h) hFc (fun r_6 u t H locs ht hvm hw hB hz1 hk1 hS => ?_)
        have hP : va_P D vwCl _ H := ro_keep hP hk1
        rcases hw with ⟨w_7, e_⟩ | ⟨w_7, e_⟩
        · have e_ := e_.symm
          subst e_
          refine lv_if_ne (tgt := 37) hx hb dB_3_2_54.1.1.2.2 (by decide) (fun c_8 => ?_) (fun c_8 => ?_)
          · have _ := c_8
            refine lv_aload_n hx hb dB_3_2_54.1.2.2.1 rfl (lv_at hl 0 rfl) ?_
            refine ct_S hP hD hS hA [ob12_0_ mo 0 s1 t2 s3 s4 g5 g6 g7 g8 g9 g10 s11 g12 g13 g14 g15 g16 g17 g18 g19 g20 s21 g22 g23 g24 s25 s26 s27 s28 g29 g30 g31 g32 g33, ai_ cy g5 40 f5, ai_ cy g6 40 f6, ai_ cy g7 40 f7, ai_ cy g8 40 f8, az_ cy g10 40 f10, ai_ cy g32 12 f32, ai_ cy g33 12 f33] [0, 1, 2, 3, 4, 5, 6, 7] (by decide) rfl (fun hPc hDw hFc hC_ => ?_)
            refine va_callv (va_runV (As := []) (rest := []) ⟨hx, hb, hml, hown, hts⟩ (c_X12_plants l D cy H.size mo g5 g6 g7 g8 g9 g10 g12 g13 g14 g15 g16 g17 g18 g19 g20 g22 g23 g24 g29 g30 g31 g32 g33 (0 : Int32) s1 s3 s4 s11 s21 s25 s26 s27 s28 t2 f5 f6 f7 f8 f10 f32 f33 (by first | with_reducible assumption | omega | assumption) (by first | with_reducible assumption | omega | assumption) (by first | with_reducible assumption | assumption | omega)) (cwV 0 hts gX12_tree_X12_plants rfl rfl rfl ⟨rfl, hd_X12_plants⟩ ⟨Nat.le_of_ble_eq_true rfl, Nat.le_of_ble_eq_true rfl⟩) ⟨bl_, va_recvX hK.1 hP (ci := 12) (q0 := 0) rfl rfl, fun U hU hW => ⟨rfl, by rw [hU], by rw [hU]; exact hPc, kk_mv hW hK, hDw⟩⟩ rfl rfl hl.1 rfl (lv_room (Nat.le_of_ble_eq_true rfl)) dB_3_2_54.1.2.2.2 ⟨Nat.le_of_ble_eq_true rfl, Nat.le_of_ble_eq_true rfl⟩) hS (fun q _ h => hFc q h) hFc (fun u t H locs ht hvm hw hB hz1 hk1 hS => ?_)
            obtain ⟨n25_10, n26_11, n27_12, n28_13, e32_14, e33_15, g_16, hP1, hD1⟩ := hB
            rw [ht] at hP1
            obtain ⟨hP, hD⟩ := va_join (wr := []) (w1 := [ob12_0_ mo 0 s1 t2 s3 s4 g5 g6 g7 g8 g9 g10 s11 g12 g13 g14 g15 g16 g17 g18 g19 g20 s21 g22 g23 g24 n25_10 n26_11 n27_12 n28_13 g29 g30 g31 g32 g33, ai_ cy g5 40 f5, ai_ cy g6 40 f6, ai_ cy g7 40 f7, ai_ cy g8 40 f8, az_ cy g10 40 f10, ai_ cy g32 12 e32_14, ai_ cy g33 12 e33_15]) hP hD [0, 1, 2, 3, 4, 5, 6, 7] [] hC_ rfl (by decide) (by decide) hk1 hFc hP1 hD1
            refine pd_K [ob12_0_ mo 0 s1 t2 s3 s4 g5 g6 g7 g8 g9 g10 s11 g12 g13 g14 g15 g16 g17 g18 g19 g20 s21 g22 g23 g24 n25_10 n26_11 n27_12 n28_13 g29 g30 g31 g32 g33, ai_ cy g5 40 f5, ai_ cy g6 40 f6, ai_ cy g7 40 f7, ai_ cy g8 40 f8, az_ cy g10 40 f10, ai_ cy g32 12 e32_14, ai_ cy g33 12 e33_15] hP hD (fun hP hD => ?_)
            refine lv_iload_n hx hb dB_3_2_54.2.1.1.1 rfl (lv_at hl 1 rfl) ?_
            refine lv_if_ne (tgt := 50) hx hb dB_3_2_54.2.1.1.2 (by decide) (fun c_17 => ?_) (fun c_17 => ?_)
            · have t_17 : ¬ a1.toInt = (0 : Int32).toInt := fun h => c_17 (Int32.toInt_inj.mp h)
              refine lv_iload_n hx hb dB_3_2_54.2.2.1.1 rfl (lv_at hl 2 rfl) ?_
              refine lv_if_ne (tgt := 63) hx hb dB_3_2_54.2.2.1.2 (by decide) (fun c_18 => ?_) (fun c_18 => ?_)
              · have t_18 : ¬ a2.toInt = (0 : Int32).toInt := fun h => c_18 (Int32.toInt_inj.mp h)
                refine lv_aload_n hx hb dB_3_2_55.1.2.2 rfl (lv_at hl 0 rfl) ?_
                refine va_get (ci := 12) (v := .ref g33) (C := RX12) (T := TX12) (N := 34) hx hb hts (fun _ h => List.mem_cons_of_mem _ (List.mem_append_right _ h)) hown hK.1 hP 0 rfl rfl 33 (by decide) (hts (.fieldLink RX12 82 "CutAtlasModel" "treeNumber" "[I") (List.mem_of_getElem? (i := 3) rfl)) (fun _ h9 => h9) rfl dB_3_2_55.2.1.1 ?_
                refine lv_iload_n hx hb dB_3_2_55.2.1.2 rfl (lv_at hl 1 rfl) ?_
                have h_19 : vp_in a1 12 := in_I (by first | with_reducible assumption | omega) (by omega)
                refine va_iald hx hb hK.1 hP 7 0 rfl rfl (i := a1) h_19 dB_3_2_55.2.2.1 ?_
                refine lv_topi (fun y_20 ey_20 => ?_)
                rw [hQ]
                exact W.iret (v := y_20) hx hb hr (fun t ht hW => ⟨⟨y_20, (), rfl, trivial, n25_10, n26_11, n27_12, n28_13, e32_14, e33_15, (by first | with_reducible assumption | assumption | exact rng_zero (by omega) (by omega) | omega), by rw [ht]; exact hP, hD⟩, hS.F ht⟩) hS.2.2 dB_3_2_55.2.2.2
              · have t_18 : a2.toInt = (0 : Int32).toInt := congrArg Int32.toInt c_18
                refine lv_aload_n hx hb dB_3_2_54.2.2.2.1 rfl (lv_at hl 0 rfl) ?_
                refine va_get (ci := 12) (v := .ref g32) (C := RX12) (T := TX12) (N := 34) hx hb hts (fun _ h => List.mem_cons_of_mem _ (List.mem_append_right _ h)) hown hK.1 hP 0 rfl rfl 32 (by decide) (hts (.fieldLink RX12 79 "CutAtlasModel" "treeNext" "[I") (List.mem_of_getElem? (i := 2) rfl)) (fun _ h9 => h9) rfl dB_3_2_54.2.2.2.2 ?_
                refine lv_iload_n hx hb dB_3_2_55.1.1.1 rfl (lv_at hl 1 rfl) ?_
                have h_21 : vp_in a1 12 := in_I (by first | with_reducible assumption | omega) (by omega)
                refine va_iald hx hb hK.1 hP 6 0 rfl rfl (i := a1) h_21 dB_3_2_55.1.1.2 ?_
                refine lv_topi (fun y_22 ey_22 => ?_)
                have ry_22 : 0 ≤ y_22.toInt ∧ y_22.toInt ≤ 11 := by rw [ey_22]; exact g_16 _ (in_lt h_21)
                refine lv_goto (tgt := 69) hx hb dB_3_2_55.1.2.1 (by decide) ?_
                rw [hQ]
                exact W.iret (v := y_22) hx hb hr (fun t ht hW => ⟨⟨y_22, (), rfl, trivial, n25_10, n26_11, n27_12, n28_13, e32_14, e33_15, (by first | with_reducible assumption | assumption | exact rng_zero (by omega) (by omega) | omega), by rw [ht]; exact hP, hD⟩, hS.F ht⟩) hS.2.2 dB_3_2_55.2.2.2
            · have t_17 : a1.toInt = (0 : Int32).toInt := congrArg Int32.toInt c_17
              refine lv_bipush (v := (-9)) hx hb dB_3_2_54.2.1.2.1 (by decide) ?_
              refine lv_goto (tgt := 69) hx hb dB_3_2_54.2.1.2.2 (by decide) ?_
              rw [hQ]
              exact W.iret (v := (-9)) hx hb hr (fun t ht hW => ⟨⟨(-9), (), rfl, trivial, n25_10, n26_11, n27_12, n28_13, e32_14, e33_15, (by first | with_reducible assumption | assumption | exact rng_zero (by omega) (by omega) | omega), by rw [ht]; exact hP, hD⟩, hS.F ht⟩) hS.2.2 dB_3_2_55.2.2.2
          · exact absurd c_8 (by decide)
        · have e_ := e_.symm
          subst e_
          refine lv_if_ne (tgt := 37) hx hb dB_3_2_54.1.1.2.2 (by decide) (fun c_23 => ?_) (fun c_23 => ?_)
          · exact absurd c_23 (by decide)
          · have _ := c_23
            refine lv_iconst (v := (-1)) hx hb dB_3_2_54.1.2.1.1 (by decide) ?_
            rw [hQ]
            exact W.iret (v := (-1)) hx hb hr (fun t ht hW => ⟨⟨(-1), (), rfl, trivial, s25, s26, s27, s28, f32, f33, (by first | with_reducible assumption | assumption | exact rng_zero (by omega) (by omega) | omega), by rw [ht]; exact hP, hD⟩, hS.F ht⟩) hS.2.2 dB_3_2_54.1.2.1.2
      · have t_5 : r_4.toInt = (0 : Int32).toInt := congrArg Int32.toInt c_5
        refine lv_bipush (v := (-2)) hx hb dB_3_2_53.2.2.2.1 (by decide) ?_
        rw [hQ]
        exact W.iret (v := (-2)) hx hb hr (fun t ht hW => ⟨⟨(-2), (), rfl, trivial, s25, s26, s27, s28, f32, f33, (by first | with_reducible assumption | assumption | exact rng_zero (by omega) (by omega) | omega), by rw [ht]; exact hP, hD⟩, hS.F ht⟩) hS.2.2 dB_3_2_53.2.2.2.2
    · exact absurd c_3 (by decide)
  · have e_ := e_.symm
    subst e_
    refine lv_if_ne (tgt := 17) hx hb dB_3_2_53.2.1.1.1 (by decide) (fun c_24 => ?_) (fun c_24 => ?_)
    · exact absurd c_24 (by decide)
    · have _ := c_24
      refine lv_iconst (v := (-1)) hx hb dB_3_2_53.2.1.1.2 (by decide) ?_
      rw [hQ]
      exact W.iret (v := (-1)) hx hb hr (fun t ht hW => ⟨⟨(-1), (), rfl, trivial, s25, s26, s27, s28, f32, f33, (by first | with_reducible assumption | assumption | exact rng_zero (by omega) (by omega) | omega), by rw [ht]; exact hP, hD⟩, hS.F ht⟩) hS.2.2 dB_3_2_53.2.1.2.1

set_option maxHeartbeats 4000000 in
set_option maxRecDepth 100000 in
theorem c_X12_trace (l : Launch) (D : va_G) (cy : Nat → ClassId) (sz : Nat) (mo : Nat) (g5 : Nat) (g6 : Nat) (g7 : Nat) (g8 : Nat) (g9 : Nat) (g10 : Nat) (g12 : Nat) (g13 : Nat) (g14 : Nat) (g15 : Nat) (g16 : Nat) (g17 : Nat) (g18 : Nat) (g19 : Nat) (g20 : Nat) (g22 : Nat) (g23 : Nat) (g24 : Nat) (g29 : Nat) (g30 : Nat) (g31 : Nat) (g32 : Nat) (g33 : Nat) (s0 : Int32) (s1 : Int32) (s3 : Int32) (s4 : Int32) (s11 : Int32) (s21 : Int32) (s25 : Int32) (s26 : Int32) (s27 : Int32) (s28 : Int32) (t2 : Int64) : Met l yX12_trace wsX12_trace ({ frames := 0, cells := 0, slots := 0, locals := 0 }) (va_Pc [.ref mo] (fun U => U.heap.size = sz ∧ va_P D vwCl [ob12_0_ mo s0 s1 t2 s3 s4 g5 g6 g7 g8 g9 g10 s11 g12 g13 g14 g15 g16 g17 g18 g19 g20 s21 g22 g23 g24 s25 s26 s27 s28 g29 g30 g31 g32 g33] U.heap ∧ kk_ D cy U ∧ va_D (fun _ => True) [ob12_0_ mo s0 s1 t2 s3 s4 g5 g6 g7 g8 g9 g10 s11 g12 g13 g14 g15 g16 g17 g18 g19 g20 s21 g22 g23 g24 s25 s26 s27 s28 g29 g30 g31 g32 g33])) (va_Ql (fun (r : Int64) (_ : Unit) => True) (fun (_ : Unit) (t : State) => va_P D vwCl [ob12_0_ mo 0 s1 t2 s3 s4 g5 g6 g7 g8 g9 g10 s11 g12 g13 g14 g15 g16 g17 g18 g19 g20 s21 g22 g23 g24 s25 s26 s27 s28 g29 g30 g31 g32 g33] t.heap ∧ va_D (va_A [ob12_0_ mo s0 s1 t2 s3 s4 g5 g6 g7 g8 g9 g10 s11 g12 g13 g14 g15 g16 g17 g18 g19 g20 s21 g22 g23 g24 s25 s26 s27 s28 g29 g30 g31 g32 g33] sz) [ob12_0_ mo 0 s1 t2 s3 s4 g5 g6 g7 g8 g9 g10 s11 g12 g13 g14 g15 g16 g17 g18 g19 g20 s21 g22 g23 g24 s25 s26 s27 s28 g29 g30 g31 g32 g33]) (va_A [ob12_0_ mo s0 s1 t2 s3 s4 g5 g6 g7 g8 g9 g10 s11 g12 g13 g14 g15 g16 g17 g18 g19 g20 s21 g22 g23 g24 s25 s26 s27 s28 g29 g30 g31 g32 g33] sz)) 0 0 (va_A [ob12_0_ mo s0 s1 t2 s3 s4 g5 g6 g7 g8 g9 g10 s11 g12 g13 g14 g15 g16 g17 g18 g19 g20 s21 g22 g23 g24 s25 s26 s27 s28 g29 g30 g31 g32 g33] sz) := by
  refine ofQ (cc := cX12_trace) (maxL := 1) (ret := (some .long)) (by decide) rfl ?_
  intro p e s m args below meth c s₁ Q hQ B hml hv
  obtain ⟨rfl, hsz, hP, hK, hD0⟩ := hv
  have hx := B.exec
  have hb := B.bytes
  have hr := B.returns
  have hts := atoms_spec (ws := wsX12_trace) B.pre
  have hown : s.vm.findClass RX12 = some m.cls := by have h_ := findClass_of_methodNamed B.named; exact h_
  have hlocks := B.notSynchronized
  subst hsz
  have hD := hD0.self (sz := s.heap.size)
  generalize hAe : va_A [ob12_0_ mo s0 s1 t2 s3 s4 g5 g6 g7 g8 g9 g10 s11 g12 g13 g14 g15 g16 g17 g18 g19 g20 s21 g22 g23 g24 s25 s26 s27 s28 g29 g30 g31 g32 g33] s.heap.size = A at hD hQ
  have hA : ∀ q : Nat, s.heap.size ≤ q → A q := fun q h => by rw [← hAe]; exact Or.inr h
  have hS : va_S A s.heap s.heap [] := va_S.rf
  have hl := lv_entry ([.ref mo]) (n := 1) (Nat.le_of_ble_eq_true rfl)
  rw [lg_entry_eq]
  generalize (lg_sl ([.ref mo]) ++ List.replicate (1 - (lg_sl ([.ref mo])).length) Slot.unset).toArray = ls at hl ⊢
  have hl : lv_has ls 1 [(0, .ref mo)] := hl
  refine lv_aload_n hx hb dB_3_3_47.1.1 rfl (lv_at hl 0 rfl) ?_
  refine lv_iconst (v := 0) hx hb dB_3_3_47.1.2.1 (by decide) ?_
  refine va_put (ci := 12) (v := .int 0) (ty := .int) (C := RX12) (T := TX12) (N := 34) hx hb hts (fun _ h => List.mem_cons_of_mem _ (List.mem_append_right _ h)) tyX12 tyX12_ok nmX12 hown hK.1 hP hD hS 0 rfl rfl 0 (by decide) (hts (.fieldLink RX12 85 "CutAtlasModel" "thrown" "I") (List.mem_of_getElem? (i := 1) rfl)) (fun _ h9 => h9) rfl (by decide +kernel) rfl rfl (Nat.le_of_ble_eq_true rfl) dB_3_3_47.1.2.2 (fun H locs hP hD hS => ?_)
  refine pd_K [ob12_0_ mo 0 s1 t2 s3 s4 g5 g6 g7 g8 g9 g10 s11 g12 g13 g14 g15 g16 g17 g18 g19 g20 s21 g22 g23 g24 s25 s26 s27 s28 g29 g30 g31 g32 g33] hP hD (fun hP hD => ?_)
  refine lv_aload_n hx hb dB_3_3_47.2.1 rfl (lv_at hl 0 rfl) ?_
  refine va_get (ci := 12) (v := .long t2) (C := RX12) (T := TX12) (N := 34) hx hb hts (fun _ h => List.mem_cons_of_mem _ (List.mem_append_right _ h)) hown hK.1 hP 0 rfl rfl 2 (by decide) (hts (.fieldLink RX12 114 "CutAtlasModel" "trace" "J") (List.mem_of_getElem? (i := 2) rfl)) (fun _ h9 => h9) rfl dB_3_3_47.2.2.1 ?_
  rw [hQ]
  exact W.lret (v := t2) hx hb hr (fun t ht hW => ⟨⟨t2, (), rfl, trivial, by rw [ht]; exact hP, hD⟩, hS.F ht⟩) hS.2.2 dB_3_3_47.2.2.2
end

section
set_option maxHeartbeats 4000000 in
set_option maxRecDepth 100000 in
theorem c_X12_refused (l : Launch) (D : va_G) (cy : Nat → ClassId) (sz : Nat) (mo : Nat) (g5 : Nat) (g6 : Nat) (g7 : Nat) (g8 : Nat) (g9 : Nat) (g10 : Nat) (g12 : Nat) (g13 : Nat) (g14 : Nat) (g15 : Nat) (g16 : Nat) (g17 : Nat) (g18 : Nat) (g19 : Nat) (g20 : Nat) (g22 : Nat) (g23 : Nat) (g24 : Nat) (g29 : Nat) (g30 : Nat) (g31 : Nat) (g32 : Nat) (g33 : Nat) (s0 : Int32) (s1 : Int32) (s3 : Int32) (s4 : Int32) (s11 : Int32) (s21 : Int32) (s25 : Int32) (s26 : Int32) (s27 : Int32) (s28 : Int32) (t2 : Int64) (a1 : Int64) (a2 : Int64) (a3 : Int64) (a4 : Int64) (a5 : Int64) (hN : 0 ≤ s4.toInt ∧ s4.toInt ≤ 40) (hPl : 0 ≤ s3.toInt ∧ s3.toInt ≤ 12) : Met l yX12_refused wsX12_refused ({ frames := 1, cells := 0, slots := 0, locals := 25 }) (va_Pc [.ref mo, .long a1, .long a2, .long a3, .long a4, .long a5] (fun U => U.heap.size = sz ∧ va_P D vwCl [ob12_0_ mo s0 s1 t2 s3 s4 g5 g6 g7 g8 g9 g10 s11 g12 g13 g14 g15 g16 g17 g18 g19 g20 s21 g22 g23 g24 s25 s26 s27 s28 g29 g30 g31 g32 g33] U.heap ∧ kk_ D cy U ∧ va_D (fun _ => True) [ob12_0_ mo s0 s1 t2 s3 s4 g5 g6 g7 g8 g9 g10 s11 g12 g13 g14 g15 g16 g17 g18 g19 g20 s21 g22 g23 g24 s25 s26 s27 s28 g29 g30 g31 g32 g33])) (va_Qi (fun (r : Int32) (_ : Unit) => ((¬ ((0 ≤ a1.toInt ∧ a1.toInt ≤ 4) ∧ (0 ≤ a2.toInt ∧ a2.toInt < s3.toInt) ∧ (0 ≤ a3.toInt ∧ a3.toInt < s3.toInt) ∧ a2.toInt ≠ a3.toInt ∧ (0 ≤ a4.toInt ∧ a4.toInt ≤ 1000) ∧ (0 ≤ a5.toInt ∧ a5.toInt ≤ 100))) ∧ r = (-1)) ∨ ((((0 ≤ a1.toInt ∧ a1.toInt ≤ 4) ∧ (0 ≤ a2.toInt ∧ a2.toInt < s3.toInt) ∧ (0 ≤ a3.toInt ∧ a3.toInt < s3.toInt) ∧ a2.toInt ≠ a3.toInt ∧ (0 ≤ a4.toInt ∧ a4.toInt ≤ 1000) ∧ (0 ≤ a5.toInt ∧ a5.toInt ≤ 100)) ∧ s4.toInt = 40) ∧ r = (-3)) ∨ ((((0 ≤ a1.toInt ∧ a1.toInt ≤ 4) ∧ (0 ≤ a2.toInt ∧ a2.toInt < s3.toInt) ∧ (0 ≤ a3.toInt ∧ a3.toInt < s3.toInt) ∧ a2.toInt ≠ a3.toInt ∧ (0 ≤ a4.toInt ∧ a4.toInt ≤ 1000) ∧ (0 ≤ a5.toInt ∧ a5.toInt ≤ 100)) ∧ s4.toInt < 40) ∧ r = 0)) (fun (_ : Unit) (_ : State) => True) (va_A [] sz)) 0 0 (va_A [] sz) := by
  refine ofQ (cc := cX12_refused) (maxL := 12) (ret := (some .int)) (by decide) rfl ?_
  intro p e s m args below meth c s₁ Q hQ B hml hv
  obtain ⟨rfl, hsz, hP, hK, hD0⟩ := hv
  have hx := B.exec
  have hb := B.bytes
  have hr := B.returns
  have hts := atoms_spec (ws := wsX12_refused) B.pre
  have hown : s.vm.findClass RX12 = some m.cls := by have h_ := findClass_of_methodNamed B.named; exact h_
  have hlocks := B.notSynchronized
  subst hsz
  have hD : va_D (va_A [] s.heap.size) [] := dd_nil
  generalize hAe : va_A [] s.heap.size = A at hD hQ
  have hA : ∀ q : Nat, s.heap.size ≤ q → A q := fun q h => by rw [← hAe]; exact Or.inr h
  have hS : va_S A s.heap s.heap [] := va_S.rf
  have hl := lv_entry ([.ref mo, .long a1, .long a2, .long a3, .long a4, .long a5]) (n := 12) (Nat.le_of_ble_eq_true rfl)
  rw [lg_entry_eq]
  generalize (lg_sl ([.ref mo, .long a1, .long a2, .long a3, .long a4, .long a5]) ++ List.replicate (12 - (lg_sl ([.ref mo, .long a1, .long a2, .long a3, .long a4, .long a5])).length) Slot.unset).toArray = ls at hl ⊢
  have hl : lv_has ls 12 [(0, .ref mo), (1, .long a1), (3, .long a2), (5, .long a3), (7, .long a4), (9, .long a5)] := hl
  have zm3 : ((-3) : Int32).toInt = -3 := by decide
  have zm1 : ((-1) : Int32).toInt = -1 := by decide
  have z0 : (0 : Int32).toInt = 0 := by decide
  have zl0 : (0 : Int64).toInt = 0 := by decide
  have z1 : (1 : Int32).toInt = 1 := by decide
  have zl4 : (4 : Int64).toInt = 4 := by decide
  have z40 : (40 : Int32).toInt = 40 := by decide
  have zl100 : (100 : Int64).toInt = 100 := by decide
  have zl1000 : (1000 : Int64).toInt = 1000 := by decide
  refine lv_lload_n hx hb dB_3_0_43.1.1.1.1 rfl (lv_at hl 1 rfl) ?_
  refine lv_lconst (v := 0) hx hb dB_3_0_43.1.1.1.2 (by decide) ?_
  refine lv_ldc2 (v := 4) hx hb hown (hts (.constantLong RX12 108 (4)) (List.mem_of_getElem? (i := 1) rfl)) dB_3_0_43.1.1.2.1 ?_
  refine ct_R hP hD0 [] [] (by decide) rfl (fun hPc hDw => ?_)
  have hFc := va_free (wc := []) hD hS hA [] rfl
  refine va_calli (va_runS (As := [.long a1, .long 0, .long 4]) (rest := []) ⟨hx, hb, hml, hown, hts⟩ (c_X12_in l D cy s.heap.size a1 (0 : Int64) (4 : Int64)) (va_cwS 3 hts gX12_refused_X12_in rfl rfl rfl hd_X12_in ⟨Nat.le_of_ble_eq_true rfl, Nat.le_of_ble_eq_true rfl⟩) ⟨bl_, fun U hU hW => ⟨rfl, by rw [hU], by rw [hU]; exact hPc, kk_mv hW hK, hDw⟩⟩ rfl rfl hl.1 rfl (lv_room (Nat.le_of_ble_eq_true rfl)) dB_3_0_43.1.1.2.2 ⟨Nat.le_of_ble_eq_true rfl, Nat.le_of_ble_eq_true rfl⟩) hS (fun q _ h => hFc q h) hFc (fun r_1 u t H locs ht hvm hw hB hz1 hk1 hS => ?_)
  have hP : va_P D vwCl _ H := ro_keep hP hk1
  rcases hw with ⟨w_2, e_⟩ | ⟨w_2, e_⟩
  · have e_ := e_.symm
    subst e_
    refine lv_if_eq (tgt := 77) hx hb dB_3_0_43.1.2.1.1 (by decide) (fun c_3 => ?_) (fun c_3 => ?_)
    · exact absurd c_3 (by decide)
    · have _ := c_3
      refine lv_lload_n hx hb dB_3_0_43.1.2.1.2 rfl (lv_at hl 2 rfl) ?_
      refine lv_lconst (v := 0) hx hb dB_3_0_43.1.2.2.1 (by decide) ?_
      refine lv_aload_n hx hb dB_3_0_43.1.2.2.2 rfl (lv_at hl 0 rfl) ?_
      refine va_get (ci := 12) (v := .int s3) (C := RX12) (T := TX12) (N := 34) hx hb hts (fun _ h => List.mem_cons_of_mem _ (List.mem_append_right _ h)) hown hK.1 hP 0 rfl rfl 3 (by decide) (hts (.fieldLink RX12 88 "CutAtlasModel" "places" "I") (List.mem_of_getElem? (i := 2) rfl)) (fun _ h9 => h9) rfl dB_3_0_43.2.1.1.1 ?_
      refine lv_iconst (v := 1) hx hb dB_3_0_43.2.1.1.2 (by decide) ?_
      refine lv_isub hx hb dB_3_0_43.2.1.2.1 ?_
      refine lv_topi (fun y_4 ey_4 => ?_)
      have ty_4 : y_4.toInt = s3.toInt - (1 : Int32).toInt := by rw [ey_4]; exact subI (by omega) (by omega)
      refine lv_i2l (v := y_4.toInt64) hx hb dB_3_0_43.2.1.2.2 rfl ?_
      have q_19 : (y_4.toInt64).toInt = y_4.toInt := Int32.toInt_toInt64 y_4
      refine ct_R hP hD0 [] [] (by decide) rfl (fun hPc hDw => ?_)
      have hFc := va_free (wc := []) hD hS hA [] rfl
      refine va_calli (va_runS (As := [.long a2, .long 0, .long y_4.toInt64]) (rest := []) ⟨hx, hb, hml, hown, hts⟩ (c_X12_in l D cy H.size a2 (0 : Int64) y_4.toInt64) (va_cwS 3 hts gX12_refused_X12_in rfl rfl rfl hd_X12_in ⟨Nat.le_of_ble_eq_true rfl, Nat.le_of_ble_eq_true rfl⟩) ⟨bl_, fun U hU hW => ⟨rfl, by rw [hU], by rw [hU]; exact hPc, kk_mv hW hK, hDw⟩⟩ rfl rfl hl.1 rfl (lv_room (Nat.le_of_ble_eq_true rfl)) dB_3_0_43.2.2.1.1 ⟨Nat.le_of_ble_eq_true rfl, Nat.le_of_ble_eq_true rfl⟩) hS (fun q _ h => hFc q h) hFc (fun r_5 u t H locs ht hvm hw hB hz1 hk1 hS => ?_)
      have hP : va_P D vwCl _ H := ro_keep hP hk1
      rcases hw with ⟨w_6, e_⟩ | ⟨w_6, e_⟩
      · have e_ := e_.symm
        subst e_
        refine lv_if_eq (tgt := 77) hx hb dB_3_0_43.2.2.1.2 (by decide) (fun c_7 => ?_) (fun c_7 => ?_)
        · exact absurd c_7 (by decide)
        · have _ := c_7
          refine lv_lload hx hb dB_3_0_43.2.2.2.1 (lv_at hl 3 rfl) ?_
          refine lv_lconst (v := 0) hx hb dB_3_0_43.2.2.2.2 (by decide) ?_
          refine lv_aload_n hx hb dB_3_0_44.1.1.1.1 rfl (lv_at hl 0 rfl) ?_
          refine va_get (ci := 12) (v := .int s3) (C := RX12) (T := TX12) (N := 34) hx hb hts (fun _ h => List.mem_cons_of_mem _ (List.mem_append_right _ h)) hown hK.1 hP 0 rfl rfl 3 (by decide) (hts (.fieldLink RX12 88 "CutAtlasModel" "places" "I") (List.mem_of_getElem? (i := 2) rfl)) (fun _ h9 => h9) rfl dB_3_0_44.1.1.1.2 ?_
          refine lv_iconst (v := 1) hx hb dB_3_0_44.1.1.2.1 (by decide) ?_
          refine lv_isub hx hb dB_3_0_44.1.1.2.2 ?_
          refine lv_topi (fun y_8 ey_8 => ?_)
          have e_ := (ey_8.trans ey_4.symm).symm
          subst e_
          refine lv_i2l (v := y_4.toInt64) hx hb dB_3_0_44.1.2.1.1 rfl ?_
          have q_35 : (y_4.toInt64).toInt = y_4.toInt := Int32.toInt_toInt64 y_4
          refine ct_R hP hD0 [] [] (by decide) rfl (fun hPc hDw => ?_)
          have hFc := va_free (wc := []) hD hS hA [] rfl
          refine va_calli (va_runS (As := [.long a3, .long 0, .long y_4.toInt64]) (rest := []) ⟨hx, hb, hml, hown, hts⟩ (c_X12_in l D cy H.size a3 (0 : Int64) y_4.toInt64) (va_cwS 3 hts gX12_refused_X12_in rfl rfl rfl hd_X12_in ⟨Nat.le_of_ble_eq_true rfl, Nat.le_of_ble_eq_true rfl⟩) ⟨bl_, fun U hU hW => ⟨rfl, by rw [hU], by rw [hU]; exact hPc, kk_mv hW hK, hDw⟩⟩ rfl rfl hl.1 rfl (lv_room (Nat.le_of_ble_eq_true rfl)) dB_3_0_44.1.2.1.2 ⟨Nat.le_of_ble_eq_true rfl, Nat.le_of_ble_eq_true rfl⟩) hS (fun q _ h => hFc q h) hFc (fun r_9 u t H locs ht hvm hw hB hz1 hk1 hS => ?_)
          have hP : va_P D vwCl _ H := ro_keep hP hk1
          rcases hw with ⟨w_10, e_⟩ | ⟨w_10, e_⟩
          · have e_ := e_.symm
            subst e_
            refine lv_if_eq (tgt := 77) hx hb dB_3_0_44.1.2.2.1 (by decide) (fun c_11 => ?_) (fun c_11 => ?_)
            · exact absurd c_11 (by decide)
            · have _ := c_11
              refine lv_lload_n hx hb dB_3_0_44.1.2.2.2 rfl (lv_at hl 2 rfl) ?_
              refine lv_lload hx hb dB_3_0_44.2.1.1.1 (lv_at hl 3 rfl) ?_
              refine W.lcmp hx hb dB_3_0_44.2.1.1.2 ?_
              refine lv_if_eq (tgt := 77) hx hb dB_3_0_44.2.1.2.1 (by decide) (fun c_12 => ?_) (fun c_12 => ?_)
              · have t_12 : a2.toInt = a3.toInt := congrArg Int64.toInt ((lg_cmp_eq a2 a3).mp c_12)
                refine lv_iconst (v := 0) hx hb dB_3_0_45.1.2.2.2 (by decide) ?_
                refine lv_istore (lv' := [(11, .int 0), (0, .ref mo), (1, .long a1), (3, .long a2), (5, .long a3), (7, .long a4), (9, .long a5)]) hx hb dB_3_0_45.2.1.1.1 hl (by decide) rfl (fun ls hl => ?_)
                refine lv_iload hx hb dB_3_0_45.2.1.1.2 (lv_at hl 0 rfl) ?_
                refine lv_if_ne (tgt := 89) hx hb dB_3_0_45.2.1.2.1 (by decide) (fun c_13 => ?_) (fun c_13 => ?_)
                · exact absurd c_13 (by decide)
                · have _ := c_13
                  refine lv_iconst (v := (-1)) hx hb dB_3_0_45.2.1.2.2 (by decide) ?_
                  refine lv_goto (tgt := 104) hx hb dB_3_0_45.2.2.1.1 (by decide) ?_
                  rw [hQ]
                  exact W.iret (v := (-1)) hx hb hr (fun t ht hW => ⟨⟨(-1), (), rfl, Or.inl (⟨by omega, rfl⟩), trivial⟩, hS.F ht⟩) hS.2.2 dB_3_0_46.2.2.2
              · have t_12 : ¬ a2.toInt = a3.toInt := fun h => c_12 ((lg_cmp_eq a2 a3).mpr (Int64.toInt_inj.mp h))
                refine lv_lload hx hb dB_3_0_44.2.1.2.2 (lv_at hl 4 rfl) ?_
                refine lv_lconst (v := 0) hx hb dB_3_0_44.2.2.1.1 (by decide) ?_
                refine lv_ldc2 (v := 1000) hx hb hown (hts (.constantLong RX12 110 (1000)) (List.mem_of_getElem? (i := 3) rfl)) dB_3_0_44.2.2.1.2 ?_
                refine ct_R hP hD0 [] [] (by decide) rfl (fun hPc hDw => ?_)
                have hFc := va_free (wc := []) hD hS hA [] rfl
                refine va_calli (va_runS (As := [.long a4, .long 0, .long 1000]) (rest := []) ⟨hx, hb, hml, hown, hts⟩ (c_X12_in l D cy H.size a4 (0 : Int64) (1000 : Int64)) (va_cwS 3 hts gX12_refused_X12_in rfl rfl rfl hd_X12_in ⟨Nat.le_of_ble_eq_true rfl, Nat.le_of_ble_eq_true rfl⟩) ⟨bl_, fun U hU hW => ⟨rfl, by rw [hU], by rw [hU]; exact hPc, kk_mv hW hK, hDw⟩⟩ rfl rfl hl.1 rfl (lv_room (Nat.le_of_ble_eq_true rfl)) dB_3_0_44.2.2.2.1 ⟨Nat.le_of_ble_eq_true rfl, Nat.le_of_ble_eq_true rfl⟩) hS (fun q _ h => hFc q h) hFc (fun r_14 u t H locs ht hvm hw hB hz1 hk1 hS => ?_)
                have hP : va_P D vwCl _ H := ro_keep hP hk1
                rcases hw with ⟨w_15, e_⟩ | ⟨w_15, e_⟩
                · have e_ := e_.symm
                  subst e_
                  refine lv_if_eq (tgt := 77) hx hb dB_3_0_44.2.2.2.2 (by decide) (fun c_16 => ?_) (fun c_16 => ?_)
                  · exact absurd c_16 (by decide)
                  · have _ := c_16
                    refine lv_lload hx hb dB_3_0_45.1.1.1.1 (lv_at hl 5 rfl) ?_
                    refine lv_lconst (v := 0) hx hb dB_3_0_45.1.1.1.2 (by decide) ?_
                    refine lv_ldc2 (v := 100) hx hb hown (hts (.constantLong RX12 112 (100)) (List.mem_of_getElem? (i := 4) rfl)) dB_3_0_45.1.1.2.1 ?_
                    refine ct_R hP hD0 [] [] (by decide) rfl (fun hPc hDw => ?_)
                    have hFc := va_free (wc := []) hD hS hA [] rfl
                    refine va_calli (va_runS (As := [.long a5, .long 0, .long 100]) (rest := []) ⟨hx, hb, hml, hown, hts⟩ (c_X12_in l D cy H.size a5 (0 : Int64) (100 : Int64)) (va_cwS 3 hts gX12_refused_X12_in rfl rfl rfl hd_X12_in ⟨Nat.le_of_ble_eq_true rfl, Nat.le_of_ble_eq_true rfl⟩) ⟨bl_, fun U hU hW => ⟨rfl, by rw [hU], by rw [hU]; exact hPc, kk_mv hW hK, hDw⟩⟩ rfl rfl hl.1 rfl (lv_room (Nat.le_of_ble_eq_true rfl)) dB_3_0_45.1.1.2.2 ⟨Nat.le_of_ble_eq_true rfl, Nat.le_of_ble_eq_true rfl⟩) hS (fun q _ h => hFc q h) hFc (fun r_17 u t H locs ht hvm hw hB hz1 hk1 hS => ?_)
                    have hP : va_P D vwCl _ H := ro_keep hP hk1
                    rcases hw with ⟨w_18, e_⟩ | ⟨w_18, e_⟩
                    · have e_ := e_.symm
                      subst e_
                      refine lv_if_eq (tgt := 77) hx hb dB_3_0_45.1.2.1.1 (by decide) (fun c_19 => ?_) (fun c_19 => ?_)
                      · exact absurd c_19 (by decide)
                      · have _ := c_19
                        refine lv_iconst (v := 1) hx hb dB_3_0_45.1.2.1.2 (by decide) ?_
                        refine lv_goto (tgt := 78) hx hb dB_3_0_45.1.2.2.1 (by decide) ?_
                        refine lv_istore (lv' := [(11, .int 1), (0, .ref mo), (1, .long a1), (3, .long a2), (5, .long a3), (7, .long a4), (9, .long a5)]) hx hb dB_3_0_45.2.1.1.1 hl (by decide) rfl (fun ls hl => ?_)
                        refine lv_iload hx hb dB_3_0_45.2.1.1.2 (lv_at hl 0 rfl) ?_
                        refine lv_if_ne (tgt := 89) hx hb dB_3_0_45.2.1.2.1 (by decide) (fun c_20 => ?_) (fun c_20 => ?_)
                        · have _ := c_20
                          refine lv_aload_n hx hb dB_3_0_45.2.2.1.2 rfl (lv_at hl 1 rfl) ?_
                          refine va_get (ci := 12) (v := .int s4) (C := RX12) (T := TX12) (N := 34) hx hb hts (fun _ h => List.mem_cons_of_mem _ (List.mem_append_right _ h)) hown hK.1 hP 0 rfl rfl 4 (by decide) (hts (.fieldLink RX12 95 "CutAtlasModel" "lines" "I") (List.mem_of_getElem? (i := 5) rfl)) (fun _ h9 => h9) rfl dB_3_0_45.2.2.2.1 ?_
                          refine lv_bipush (v := 40) hx hb dB_3_0_45.2.2.2.2 (by decide) ?_
                          refine lv_icmp_ne (tgt := 103) hx hb dB_3_0_46.1.1 (by decide) (fun c_21 => ?_) (fun c_21 => ?_)
                          · have t_21 : ¬ s4.toInt = (40 : Int32).toInt := fun h => c_21 (Int32.toInt_inj.mp h)
                            refine lv_iconst (v := 0) hx hb dB_3_0_46.2.2.1 (by decide) ?_
                            rw [hQ]
                            exact W.iret (v := 0) hx hb hr (fun t ht hW => ⟨⟨0, (), rfl, Or.inr (Or.inr (⟨by omega, rfl⟩)), trivial⟩, hS.F ht⟩) hS.2.2 dB_3_0_46.2.2.2
                          · have t_21 : s4.toInt = (40 : Int32).toInt := congrArg Int32.toInt c_21
                            refine lv_bipush (v := (-3)) hx hb dB_3_0_46.1.2 (by decide) ?_
                            refine lv_goto (tgt := 104) hx hb dB_3_0_46.2.1 (by decide) ?_
                            rw [hQ]
                            exact W.iret (v := (-3)) hx hb hr (fun t ht hW => ⟨⟨(-3), (), rfl, Or.inr (Or.inl (⟨by omega, rfl⟩)), trivial⟩, hS.F ht⟩) hS.2.2 dB_3_0_46.2.2.2
                        · exact absurd c_20 (by decide)
                    · have e_ := e_.symm
                      subst e_
                      refine lv_if_eq (tgt := 77) hx hb dB_3_0_45.1.2.1.1 (by decide) (fun c_22 => ?_) (fun c_22 => ?_)
                      · have _ := c_22
                        refine lv_iconst (v := 0) hx hb dB_3_0_45.1.2.2.2 (by decide) ?_
                        refine lv_istore (lv' := [(11, .int 0), (0, .ref mo), (1, .long a1), (3, .long a2), (5, .long a3), (7, .long a4), (9, .long a5)]) hx hb dB_3_0_45.2.1.1.1 hl (by decide) rfl (fun ls hl => ?_)
                        refine lv_iload hx hb dB_3_0_45.2.1.1.2 (lv_at hl 0 rfl) ?_
                        refine lv_if_ne (tgt := 89) hx hb dB_3_0_45.2.1.2.1 (by decide) (fun c_23 => ?_) (fun c_23 => ?_)
                        · exact absurd c_23 (by decide)
                        · have _ := c_23
                          refine lv_iconst (v := (-1)) hx hb dB_3_0_45.2.1.2.2 (by decide) ?_
                          refine lv_goto (tgt := 104) hx hb dB_3_0_45.2.2.1.1 (by decide) ?_
                          rw [hQ]
                          exact W.iret (v := (-1)) hx hb hr (fun t ht hW => ⟨⟨(-1), (), rfl, Or.inl (⟨by omega, rfl⟩), trivial⟩, hS.F ht⟩) hS.2.2 dB_3_0_46.2.2.2
                      · exact absurd c_22 (by decide)
                · have e_ := e_.symm
                  subst e_
                  refine lv_if_eq (tgt := 77) hx hb dB_3_0_44.2.2.2.2 (by decide) (fun c_24 => ?_) (fun c_24 => ?_)
                  · have _ := c_24
                    refine lv_iconst (v := 0) hx hb dB_3_0_45.1.2.2.2 (by decide) ?_
                    refine lv_istore (lv' := [(11, .int 0), (0, .ref mo), (1, .long a1), (3, .long a2), (5, .long a3), (7, .long a4), (9, .long a5)]) hx hb dB_3_0_45.2.1.1.1 hl (by decide) rfl (fun ls hl => ?_)
                    refine lv_iload hx hb dB_3_0_45.2.1.1.2 (lv_at hl 0 rfl) ?_
                    refine lv_if_ne (tgt := 89) hx hb dB_3_0_45.2.1.2.1 (by decide) (fun c_25 => ?_) (fun c_25 => ?_)
                    · exact absurd c_25 (by decide)
                    · have _ := c_25
                      refine lv_iconst (v := (-1)) hx hb dB_3_0_45.2.1.2.2 (by decide) ?_
                      refine lv_goto (tgt := 104) hx hb dB_3_0_45.2.2.1.1 (by decide) ?_
                      rw [hQ]
                      exact W.iret (v := (-1)) hx hb hr (fun t ht hW => ⟨⟨(-1), (), rfl, Or.inl (⟨by omega, rfl⟩), trivial⟩, hS.F ht⟩) hS.2.2 dB_3_0_46.2.2.2
                  · exact absurd c_24 (by decide)
          · have e_ := e_.symm
            subst e_
            refine lv_if_eq (tgt := 77) hx hb dB_3_0_44.1.2.2.1 (by decide) (fun c_26 => ?_) (fun c_26 => ?_)
            · have _ := c_26
              refine lv_iconst (v := 0) hx hb dB_3_0_45.1.2.2.2 (by decide) ?_
              refine lv_istore (lv' := [(11, .int 0), (0, .ref mo), (1, .long a1), (3, .long a2), (5, .long a3), (7, .long a4), (9, .long a5)]) hx hb dB_3_0_45.2.1.1.1 hl (by decide) rfl (fun ls hl => ?_)
              refine lv_iload hx hb dB_3_0_45.2.1.1.2 (lv_at hl 0 rfl) ?_
              refine lv_if_ne (tgt := 89) hx hb dB_3_0_45.2.1.2.1 (by decide) (fun c_27 => ?_) (fun c_27 => ?_)
              · exact absurd c_27 (by decide)
              · have _ := c_27
                refine lv_iconst (v := (-1)) hx hb dB_3_0_45.2.1.2.2 (by decide) ?_
                refine lv_goto (tgt := 104) hx hb dB_3_0_45.2.2.1.1 (by decide) ?_
                rw [hQ]
                exact W.iret (v := (-1)) hx hb hr (fun t ht hW => ⟨⟨(-1), (), rfl, Or.inl (⟨by omega, rfl⟩), trivial⟩, hS.F ht⟩) hS.2.2 dB_3_0_46.2.2.2
            · exact absurd c_26 (by decide)
      · have e_ := e_.symm
        subst e_
        refine lv_if_eq (tgt := 77) hx hb dB_3_0_43.2.2.1.2 (by decide) (fun c_28 => ?_) (fun c_28 => ?_)
        · have _ := c_28
          refine lv_iconst (v := 0) hx hb dB_3_0_45.1.2.2.2 (by decide) ?_
          refine lv_istore (lv' := [(11, .int 0), (0, .ref mo), (1, .long a1), (3, .long a2), (5, .long a3), (7, .long a4), (9, .long a5)]) hx hb dB_3_0_45.2.1.1.1 hl (by decide) rfl (fun ls hl => ?_)
          refine lv_iload hx hb dB_3_0_45.2.1.1.2 (lv_at hl 0 rfl) ?_
          refine lv_if_ne (tgt := 89) hx hb dB_3_0_45.2.1.2.1 (by decide) (fun c_29 => ?_) (fun c_29 => ?_)
          · exact absurd c_29 (by decide)
          · have _ := c_29
            refine lv_iconst (v := (-1)) hx hb dB_3_0_45.2.1.2.2 (by decide) ?_
            refine lv_goto (tgt := 104) hx hb dB_3_0_45.2.2.1.1 (by decide) ?_
            rw [hQ]
            exact W.iret (v := (-1)) hx hb hr (fun t ht hW => ⟨⟨(-1), (), rfl, Or.inl (⟨by omega, rfl⟩), trivial⟩, hS.F ht⟩) hS.2.2 dB_3_0_46.2.2.2
        · exact absurd c_28 (by decide)
  · have e_ := e_.symm
    subst e_
    refine lv_if_eq (tgt := 77) hx hb dB_3_0_43.1.2.1.1 (by decide) (fun c_30 => ?_) (fun c_30 => ?_)
    · have _ := c_30
      refine lv_iconst (v := 0) hx hb dB_3_0_45.1.2.2.2 (by decide) ?_
      refine lv_istore (lv' := [(11, .int 0), (0, .ref mo), (1, .long a1), (3, .long a2), (5, .long a3), (7, .long a4), (9, .long a5)]) hx hb dB_3_0_45.2.1.1.1 hl (by decide) rfl (fun ls hl => ?_)
      refine lv_iload hx hb dB_3_0_45.2.1.1.2 (lv_at hl 0 rfl) ?_
      refine lv_if_ne (tgt := 89) hx hb dB_3_0_45.2.1.2.1 (by decide) (fun c_31 => ?_) (fun c_31 => ?_)
      · exact absurd c_31 (by decide)
      · have _ := c_31
        refine lv_iconst (v := (-1)) hx hb dB_3_0_45.2.1.2.2 (by decide) ?_
        refine lv_goto (tgt := 104) hx hb dB_3_0_45.2.2.1.1 (by decide) ?_
        rw [hQ]
        exact W.iret (v := (-1)) hx hb hr (fun t ht hW => ⟨⟨(-1), (), rfl, Or.inl (⟨by omega, rfl⟩), trivial⟩, hS.F ht⟩) hS.2.2 dB_3_0_46.2.2.2
    · exact absurd c_30 (by decide)
end

section
set_option maxHeartbeats 4000000 in
set_option maxRecDepth 100000 in
theorem c_X12_areThere (l : Launch) (D : va_G) (cy : Nat → ClassId) (sz : Nat) (a1 : Int32) (a2 : Int32) (a3 : Int32) : Met l yX12_areThere wsX12_areThere ({ frames := 0, cells := 0, slots := 0, locals := 0 }) (va_Pc [.int a1, .int a2, .int a3] (fun U => U.heap.size = sz ∧ va_P D vwCl [] U.heap ∧ kk_ D cy U ∧ va_D (fun _ => True) [])) (va_Qi (fun (r : Int32) (_ : Unit) => ((0 ≤ a1.toInt ∧ 0 ≤ a2.toInt ∧ a1.toInt + a2.toInt ≤ a3.toInt) ∧ r = 1) ∨ ((¬ (0 ≤ a1.toInt ∧ 0 ≤ a2.toInt ∧ a1.toInt + a2.toInt ≤ a3.toInt)) ∧ r = 0)) (fun (_ : Unit) (_ : State) => True) (va_A [] sz)) 0 0 (va_A [] sz) := by
  refine ofQ (cc := cX12_areThere) (maxL := 3) (ret := (some .boolean)) (by decide) rfl ?_
  intro p e s m args below meth c s₁ Q hQ B hml hv
  obtain ⟨rfl, hsz, hP, hK, hD0⟩ := hv
  have hx := B.exec
  have hb := B.bytes
  have hr := B.returns
  have hts := atoms_spec (ws := wsX12_areThere) B.pre
  have hown : s.vm.findClass RX12 = some m.cls := by have h_ := findClass_of_methodNamed B.named; exact h_
  have hlocks := B.notSynchronized
  subst hsz
  have hD : va_D (va_A [] s.heap.size) [] := dd_nil
  generalize hAe : va_A [] s.heap.size = A at hD hQ
  have hA : ∀ q : Nat, s.heap.size ≤ q → A q := fun q h => by rw [← hAe]; exact Or.inr h
  have hS : va_S A s.heap s.heap [] := va_S.rf
  have hl := lv_entry ([.int a1, .int a2, .int a3]) (n := 3) (Nat.le_of_ble_eq_true rfl)
  rw [lg_entry_eq]
  generalize (lg_sl ([.int a1, .int a2, .int a3]) ++ List.replicate (3 - (lg_sl ([.int a1, .int a2, .int a3])).length) Slot.unset).toArray = ls at hl ⊢
  have hl : lv_has ls 3 [(0, .int a1), (1, .int a2), (2, .int a3)] := hl
  have z0 : (0 : Int32).toInt = 0 := by decide
  have z1 : (1 : Int32).toInt = 1 := by decide
  refine lv_iload_n hx hb dB_3_3_4.1.1.1.1 rfl (lv_at hl 0 rfl) ?_
  refine lv_if_lt (tgt := 23) hx hb dB_3_3_4.1.1.1.2 (by decide) (fun c_1 => ?_) (fun c_1 => ?_)
  · have t_1 : a1.toInt < (0 : Int32).toInt := Int32.lt_iff_toInt_lt.mp c_1
    refine lv_iconst (v := 0) hx hb dB_3_3_4.2.2.2.2 (by decide) ?_
    rw [hQ]
    exact W.zret (ty := .boolean) (v := 0) hx hb hr (by decide) (fun t ht hW => ⟨⟨0, (), rfl, Or.inr (⟨by omega, rfl⟩), trivial⟩, hS.F ht⟩) hS.2.2 dB_3_3_5
  · have t_1 : ¬ a1.toInt < (0 : Int32).toInt := fun h => c_1 (Int32.lt_iff_toInt_lt.mpr h)
    refine lv_iload_n hx hb dB_3_3_4.1.1.2.1 rfl (lv_at hl 1 rfl) ?_
    refine lv_if_lt (tgt := 23) hx hb dB_3_3_4.1.1.2.2 (by decide) (fun c_2 => ?_) (fun c_2 => ?_)
    · have t_2 : a2.toInt < (0 : Int32).toInt := Int32.lt_iff_toInt_lt.mp c_2
      refine lv_iconst (v := 0) hx hb dB_3_3_4.2.2.2.2 (by decide) ?_
      rw [hQ]
      exact W.zret (ty := .boolean) (v := 0) hx hb hr (by decide) (fun t ht hW => ⟨⟨0, (), rfl, Or.inr (⟨by omega, rfl⟩), trivial⟩, hS.F ht⟩) hS.2.2 dB_3_3_5
    · have t_2 : ¬ a2.toInt < (0 : Int32).toInt := fun h => c_2 (Int32.lt_iff_toInt_lt.mpr h)
      refine lv_iload_n hx hb dB_3_3_4.1.2.1.1 rfl (lv_at hl 0 rfl) ?_
      refine lv_i2l (v := a1.toInt64) hx hb dB_3_3_4.1.2.1.2 rfl ?_
      have q_9 : (a1.toInt64).toInt = a1.toInt := Int32.toInt_toInt64 a1
      refine lv_iload_n hx hb dB_3_3_4.1.2.2.1 rfl (lv_at hl 1 rfl) ?_
      refine lv_i2l (v := a2.toInt64) hx hb dB_3_3_4.1.2.2.2 rfl ?_
      have q_11 : (a2.toInt64).toInt = a2.toInt := Int32.toInt_toInt64 a2
      refine lv_ladd hx hb dB_3_3_4.2.1.1.1 ?_
      refine lv_topl (fun y_3 ey_3 => ?_)
      have ty_3 : y_3.toInt = a1.toInt64.toInt + a2.toInt64.toInt := by rw [ey_3]; exact addL (by have := Int32.toInt_lt a1; have := Int32.toInt_lt a2; omega) (by have := Int32.toInt_lt a1; have := Int32.toInt_lt a2; omega)
      refine lv_iload_n hx hb dB_3_3_4.2.1.1.2 rfl (lv_at hl 2 rfl) ?_
      refine lv_i2l (v := a3.toInt64) hx hb dB_3_3_4.2.1.2.1 rfl ?_
      have q_14 : (a3.toInt64).toInt = a3.toInt := Int32.toInt_toInt64 a3
      refine W.lcmp hx hb dB_3_3_4.2.1.2.2 ?_
      refine lv_if_gt (tgt := 23) hx hb dB_3_3_4.2.2.1.1 (by decide) (fun c_4 => ?_) (fun c_4 => ?_)
      · have t_4 : a3.toInt64.toInt < y_3.toInt := Int64.lt_iff_toInt_lt.mp ((lg_cmp_gt y_3 a3.toInt64).mp c_4)
        refine lv_iconst (v := 0) hx hb dB_3_3_4.2.2.2.2 (by decide) ?_
        rw [hQ]
        exact W.zret (ty := .boolean) (v := 0) hx hb hr (by decide) (fun t ht hW => ⟨⟨0, (), rfl, Or.inr (⟨by omega, rfl⟩), trivial⟩, hS.F ht⟩) hS.2.2 dB_3_3_5
      · have t_4 : ¬ a3.toInt64.toInt < y_3.toInt := fun h => c_4 ((lg_cmp_gt y_3 a3.toInt64).mpr (Int64.lt_iff_toInt_lt.mpr h))
        refine lv_iconst (v := 1) hx hb dB_3_3_4.2.2.1.2 (by decide) ?_
        refine lv_goto (tgt := 24) hx hb dB_3_3_4.2.2.2.1 (by decide) ?_
        rw [hQ]
        exact W.zret (ty := .boolean) (v := 1) hx hb hr (by decide) (fun t ht hW => ⟨⟨1, (), rfl, Or.inl (⟨by omega, rfl⟩), trivial⟩, hS.F ht⟩) hS.2.2 dB_3_3_5
end

section
theorem l2iI {y : Int64} (h1 : -2147483648 ≤ y.toInt) (h2 : y.toInt ≤ 2147483647) : y.toInt32.toInt = y.toInt := by
  rw [Int64.toInt_toInt32]
  exact Int.bmod_eq_of_le (by omega) (by omega)
end
