section
set_option maxHeartbeats 4000000 in
set_option maxRecDepth 100000 in
theorem c_X12_map2 (l : Launch) (D : va_G) (cy : Nat → ClassId) (sz : Nat) (mo : Nat) (g5 : Nat) (g6 : Nat) (g7 : Nat) (g8 : Nat) (g9 : Nat) (g10 : Nat) (g12 : Nat) (g13 : Nat) (g14 : Nat) (g15 : Nat) (g16 : Nat) (g17 : Nat) (g18 : Nat) (g19 : Nat) (g20 : Nat) (g22 : Nat) (g23 : Nat) (g24 : Nat) (g29 : Nat) (g30 : Nat) (g31 : Nat) (g32 : Nat) (g33 : Nat) (s0 : Int32) (s1 : Int32) (s3 : Int32) (s4 : Int32) (s11 : Int32) (s21 : Int32) (s25 : Int32) (s26 : Int32) (s27 : Int32) (s28 : Int32) (t2 : Int64) (f15 : Nat → Int32) (f16 : Nat → Int32) (f17 : Nat → Int32) (f18 : Nat → Int32) (a1 : Int32) (a2 : Int32) (a3 : Int32) (hlk : lok f18 24) (r_f17 : rng f17 4 (0) (6)) (r_f18 : rng f18 24 (-9) (5)) : Met l yX12_map wsX12_map ({ frames := 1, cells := 0, slots := 0, locals := 25 }) (va_Pc [.ref mo, .int a1, .int a2, .int a3] (fun U => U.heap.size = sz ∧ va_P D vwCl [ob12_0_ mo s0 s1 t2 s3 s4 g5 g6 g7 g8 g9 g10 s11 g12 g13 g14 g15 g16 g17 g18 g19 g20 s21 g22 g23 g24 s25 s26 s27 s28 g29 g30 g31 g32 g33, az_ cy g15 4 f15, ai_ cy g16 4 f16, ai_ cy g17 4 f17, ai_ cy g18 24 f18] U.heap ∧ kk_ D cy U ∧ va_D (fun _ => True) [ob12_0_ mo s0 s1 t2 s3 s4 g5 g6 g7 g8 g9 g10 s11 g12 g13 g14 g15 g16 g17 g18 g19 g20 s21 g22 g23 g24 s25 s26 s27 s28 g29 g30 g31 g32 g33, az_ cy g15 4 f15, ai_ cy g16 4 f16, ai_ cy g17 4 f17, ai_ cy g18 24 f18])) (va_Qi (fun (r : Int32) (_ : Unit) => (r.toInt = if mapRI a1.toInt a2.toInt a3.toInt = 0 then 1 else mapRI a1.toInt a2.toInt a3.toInt)) (fun (_ : Unit) (t : State) => ∃ (n1 : Int32), ∃ (e15 : Nat → Int32), ∃ (e16 : Nat → Int32), ∃ (e17 : Nat → Int32), ∃ (e18 : Nat → Int32), (n1.toInt = mapRI a1.toInt a2.toInt a3.toInt) ∧ ((n1.toInt ≠ 0 → e15 = f15 ∧ e16 = f16 ∧ e17 = f17 ∧ e18 = f18) ∧ (n1.toInt = 0 → e15 = upd f15 a1.toNatClampNeg (vp_nar .boolean 1) ∧ e16 = upd f16 a1.toNatClampNeg a2 ∧ e17 = upd f17 a1.toNatClampNeg a3 ∧ ∀ q : Nat, e18 q = if 6 * a1.toInt ≤ (q : Int) ∧ (q : Int) < 6 * a1.toInt + 6 then (-9) else f18 q)) ∧ (lok e18 24) ∧ (rng e17 4 (0) (6)) ∧ (rng e18 24 (-9) (5)) ∧ va_P D vwCl [ob12_0_ mo 0 n1 t2 s3 s4 g5 g6 g7 g8 g9 g10 s11 g12 g13 g14 g15 g16 g17 g18 g19 g20 s21 g22 g23 g24 s25 s26 s27 s28 g29 g30 g31 g32 g33, az_ cy g15 4 e15, ai_ cy g16 4 e16, ai_ cy g17 4 e17, ai_ cy g18 24 e18] t.heap ∧ va_D (va_A [ob12_0_ mo s0 s1 t2 s3 s4 g5 g6 g7 g8 g9 g10 s11 g12 g13 g14 g15 g16 g17 g18 g19 g20 s21 g22 g23 g24 s25 s26 s27 s28 g29 g30 g31 g32 g33, az_ cy g15 4 f15, ai_ cy g16 4 f16, ai_ cy g17 4 f17, ai_ cy g18 24 f18] sz) [ob12_0_ mo 0 n1 t2 s3 s4 g5 g6 g7 g8 g9 g10 s11 g12 g13 g14 g15 g16 g17 g18 g19 g20 s21 g22 g23 g24 s25 s26 s27 s28 g29 g30 g31 g32 g33, az_ cy g15 4 e15, ai_ cy g16 4 e16, ai_ cy g17 4 e17, ai_ cy g18 24 e18]) (va_A [ob12_0_ mo s0 s1 t2 s3 s4 g5 g6 g7 g8 g9 g10 s11 g12 g13 g14 g15 g16 g17 g18 g19 g20 s21 g22 g23 g24 s25 s26 s27 s28 g29 g30 g31 g32 g33, az_ cy g15 4 f15, ai_ cy g16 4 f16, ai_ cy g17 4 f17, ai_ cy g18 24 f18] sz)) 0 0 (va_A [ob12_0_ mo s0 s1 t2 s3 s4 g5 g6 g7 g8 g9 g10 s11 g12 g13 g14 g15 g16 g17 g18 g19 g20 s21 g22 g23 g24 s25 s26 s27 s28 g29 g30 g31 g32 g33, az_ cy g15 4 f15, ai_ cy g16 4 f16, ai_ cy g17 4 f17, ai_ cy g18 24 f18] sz) := by
  refine ofQ (cc := cX12_map) (maxL := 5) (ret := (some .int)) (by decide) rfl ?_
  intro p e s m args below meth c s₁ Q hQ B hml hv
  obtain ⟨rfl, hsz, hP, hK, hD0⟩ := hv
  have hx := B.exec
  have hb := B.bytes
  have hr := B.returns
  have hts := atoms_spec (ws := wsX12_map) B.pre
  have hown : s.vm.findClass RX12 = some m.cls := by have h_ := findClass_of_methodNamed B.named; exact h_
  have hlocks := B.notSynchronized
  subst hsz
  have hD := hD0.self (sz := s.heap.size)
  generalize hAe : va_A [ob12_0_ mo s0 s1 t2 s3 s4 g5 g6 g7 g8 g9 g10 s11 g12 g13 g14 g15 g16 g17 g18 g19 g20 s21 g22 g23 g24 s25 s26 s27 s28 g29 g30 g31 g32 g33, az_ cy g15 4 f15, ai_ cy g16 4 f16, ai_ cy g17 4 f17, ai_ cy g18 24 f18] s.heap.size = A at hD hQ
  have hA : ∀ q : Nat, s.heap.size ≤ q → A q := fun q h => by rw [← hAe]; exact Or.inr h
  have hS : va_S A s.heap s.heap [] := va_S.rf
  have hl := lv_entry ([.ref mo, .int a1, .int a2, .int a3]) (n := 5) (Nat.le_of_ble_eq_true rfl)
  rw [lg_entry_eq]
  generalize (lg_sl ([.ref mo, .int a1, .int a2, .int a3]) ++ List.replicate (5 - (lg_sl ([.ref mo, .int a1, .int a2, .int a3])).length) Slot.unset).toArray = ls at hl ⊢
  have hl : lv_has ls 5 [(0, .ref mo), (1, .int a1), (2, .int a2), (3, .int a3)] := hl
  have zm15 : ((-15) : Int32).toInt = -15 := by decide
  have zm9 : ((-9) : Int32).toInt = -9 := by decide
  have zm1 : ((-1) : Int32).toInt = -1 := by decide
  have z0 : (0 : Int32).toInt = 0 := by decide
  have zl0 : (0 : Int64).toInt = 0 := by decide
  have z1 : (1 : Int32).toInt = 1 := by decide
  have zl2 : (2 : Int64).toInt = 2 := by decide
  have zl3 : (3 : Int64).toInt = 3 := by decide
  have z6 : (6 : Int32).toInt = 6 := by decide
  have zq1 : (1 : Int32).toInt = 1 := by decide
  refine lv_aload_n hx hb dB_3_3_22.1.1.1.1 rfl (lv_at hl 0 rfl) ?_
  refine lv_iconst (v := 0) hx hb dB_3_3_22.1.1.1.2 (by decide) ?_
  refine va_put (ci := 12) (v := .int 0) (ty := .int) (C := RX12) (T := TX12) (N := 34) hx hb hts (fun _ h => List.mem_cons_of_mem _ (List.mem_append_right _ h)) tyX12 tyX12_ok nmX12 hown hK.1 hP hD hS 0 rfl rfl 0 (by decide) (hts (.fieldLink RX12 85 "CutAtlasModel" "thrown" "I") (List.mem_of_getElem? (i := 1) rfl)) (fun _ h9 => h9) rfl (by decide +kernel) rfl rfl (Nat.le_of_ble_eq_true rfl) dB_3_3_22.1.1.2.1 (fun H locs hP hD hS => ?_)
  refine pd_K [ob12_0_ mo 0 s1 t2 s3 s4 g5 g6 g7 g8 g9 g10 s11 g12 g13 g14 g15 g16 g17 g18 g19 g20 s21 g22 g23 g24 s25 s26 s27 s28 g29 g30 g31 g32 g33, az_ cy g15 4 f15, ai_ cy g16 4 f16, ai_ cy g17 4 f17, ai_ cy g18 24 f18] hP hD (fun hP hD => ?_)
  refine lv_aload_n hx hb dB_3_3_22.1.1.2.2 rfl (lv_at hl 0 rfl) ?_
  refine lv_iconst (v := 0) hx hb dB_3_3_22.1.2.1.1 (by decide) ?_
  refine va_put (ci := 12) (v := .int 0) (ty := .int) (C := RX12) (T := TX12) (N := 34) hx hb hts (fun _ h => List.mem_cons_of_mem _ (List.mem_append_right _ h)) tyX12 tyX12_ok nmX12 hown hK.1 hP hD hS 0 rfl rfl 1 (by decide) (hts (.fieldLink RX12 240 "CutAtlasModel" "status" "I") (List.mem_of_getElem? (i := 2) rfl)) (fun _ h9 => h9) rfl (by decide +kernel) rfl rfl (Nat.le_of_ble_eq_true rfl) dB_3_3_22.1.2.1.2 (fun H locs hP hD hS => ?_)
  refine pd_K [ob12_0_ mo 0 0 t2 s3 s4 g5 g6 g7 g8 g9 g10 s11 g12 g13 g14 g15 g16 g17 g18 g19 g20 s21 g22 g23 g24 s25 s26 s27 s28 g29 g30 g31 g32 g33, az_ cy g15 4 f15, ai_ cy g16 4 f16, ai_ cy g17 4 f17, ai_ cy g18 24 f18] hP hD (fun hP hD => ?_)
  refine lv_iload_n hx hb dB_3_3_22.1.2.2.1 rfl (lv_at hl 1 rfl) ?_
  refine lv_i2l (v := a1.toInt64) hx hb dB_3_3_22.1.2.2.2 rfl ?_
  have q_11 : (a1.toInt64).toInt = a1.toInt := Int32.toInt_toInt64 a1
  refine lv_lconst (v := 0) hx hb dB_3_3_22.2.1.1.1 (by decide) ?_
  refine lv_ldc2 (v := 3) hx hb hown (hts (.constantLong RX12 243 (3)) (List.mem_of_getElem? (i := 3) rfl)) dB_3_3_22.2.1.1.2 ?_
  refine ct_R hP hD [] [] (by decide) rfl (fun hPc hDw => ?_)
  have hFc := va_free (wc := []) hD hS hA [] rfl
  refine va_calli (va_runS (As := [.long a1.toInt64, .long 0, .long 3]) (rest := []) ⟨hx, hb, hml, hown, hts⟩ (c_X12_in l D cy H.size a1.toInt64 (0 : Int64) (3 : Int64)) (va_cwS 3 hts gX12_map_X12_in rfl rfl rfl hd_X12_in ⟨Nat.le_of_ble_eq_true rfl, Nat.le_of_ble_eq_true rfl⟩) ⟨bl_, fun U hU hW => ⟨rfl, by rw [hU], by rw [hU]; exact hPc, kk_mv hW hK, hDw⟩⟩ rfl rfl hl.1 rfl (lv_room (Nat.le_of_ble_eq_true rfl)) dB_3_3_22.2.1.2.1 ⟨Nat.le_of_ble_eq_true rfl, Nat.le_of_ble_eq_true rfl⟩) hS (fun q _ h => hFc q h) hFc (fun r_1 u t H locs ht hvm hw hB hz1 hk1 hS => ?_)
  have hP : va_P D vwCl _ H := ro_keep hP hk1
  rcases hw with ⟨w_2, e_⟩ | ⟨w_2, e_⟩
  · have e_ := e_.symm
    subst e_
    refine lv_if_eq (tgt := 40) hx hb dB_3_3_22.2.1.2.2 (by decide) (fun c_3 => ?_) (fun c_3 => ?_)
    · exact absurd c_3 (by decide)
    · have _ := c_3
      refine lv_iload_n hx hb dB_3_3_22.2.2.1.1 rfl (lv_at hl 2 rfl) ?_
      refine lv_i2l (v := a2.toInt64) hx hb dB_3_3_22.2.2.1.2 rfl ?_
      have q_23 : (a2.toInt64).toInt = a2.toInt := Int32.toInt_toInt64 a2
      refine lv_lconst (v := 0) hx hb dB_3_3_22.2.2.2.1 (by decide) ?_
      refine lv_ldc2 (v := 2) hx hb hown (hts (.constantLong RX12 149 (2)) (List.mem_of_getElem? (i := 4) rfl)) dB_3_3_22.2.2.2.2 ?_
      refine ct_R hP hD [] [] (by decide) rfl (fun hPc hDw => ?_)
      have hFc := va_free (wc := []) hD hS hA [] rfl
      refine va_calli (va_runS (As := [.long a2.toInt64, .long 0, .long 2]) (rest := []) ⟨hx, hb, hml, hown, hts⟩ (c_X12_in l D cy H.size a2.toInt64 (0 : Int64) (2 : Int64)) (va_cwS 3 hts gX12_map_X12_in rfl rfl rfl hd_X12_in ⟨Nat.le_of_ble_eq_true rfl, Nat.le_of_ble_eq_true rfl⟩) ⟨bl_, fun U hU hW => ⟨rfl, by rw [hU], by rw [hU]; exact hPc, kk_mv hW hK, hDw⟩⟩ rfl rfl hl.1 rfl (lv_room (Nat.le_of_ble_eq_true rfl)) dB_3_3_23.1.1.1.1 ⟨Nat.le_of_ble_eq_true rfl, Nat.le_of_ble_eq_true rfl⟩) hS (fun q _ h => hFc q h) hFc (fun r_4 u t H locs ht hvm hw hB hz1 hk1 hS => ?_)
      have hP : va_P D vwCl _ H := ro_keep hP hk1
      rcases hw with ⟨w_5, e_⟩ | ⟨w_5, e_⟩
      · have e_ := e_.symm
        subst e_
        refine lv_if_eq (tgt := 40) hx hb dB_3_3_23.1.1.1.2 (by decide) (fun c_6 => ?_) (fun c_6 => ?_)
        · exact absurd c_6 (by decide)
        · have _ := c_6
          refine lv_iload_n hx hb dB_3_3_23.1.1.2.1 rfl (lv_at hl 3 rfl) ?_
          refine lv_bipush (v := 6) hx hb dB_3_3_23.1.1.2.2 (by decide) ?_
          refine lv_icmp_le (tgt := 46) hx hb dB_3_3_23.1.2.1.1 (by decide) (fun c_7 => ?_) (fun c_7 => ?_)
          · have t_7 : a3.toInt ≤ (6 : Int32).toInt := Int32.le_iff_toInt_le.mp c_7
            refine lv_iload_n hx hb dB_3_3_23.2.1.1.2 rfl (lv_at hl 3 rfl) ?_
            refine lv_if_ge (tgt := 57) hx hb dB_3_3_23.2.1.2.1 (by decide) (fun c_8 => ?_) (fun c_8 => ?_)
            · have t_8 : (0 : Int32).toInt ≤ a3.toInt := Int32.le_iff_toInt_le.mp c_8
              refine lv_aload_n hx hb dB_3_3_23.2.2.2.2 rfl (lv_at hl 0 rfl) ?_
              refine va_get (ci := 12) (v := .ref g15) (C := RX12) (T := TX12) (N := 34) hx hb hts (fun _ h => List.mem_cons_of_mem _ (List.mem_append_right _ h)) hown hK.1 hP 0 rfl rfl 15 (by decide) (hts (.fieldLink RX12 38 "CutAtlasModel" "hasMap" "[Z") (List.mem_of_getElem? (i := 5) rfl)) (fun _ h9 => h9) rfl dB_3_3_24.1.1.1.1 ?_
              refine lv_iload_n hx hb dB_3_3_24.1.1.1.2 rfl (lv_at hl 1 rfl) ?_
              refine lv_iconst (v := 1) hx hb dB_3_3_24.1.1.2.1 (by decide) ?_
              have h_9 : vp_in a1 4 := in_I (by first | with_reducible assumption | omega) (by omega)
              refine va_zast hx hb hK.1 hP hD hS 1 2 rfl rfl (i := a1) h_9 dB_3_3_24.1.1.2.2 (fun H locs hP hD hS => ?_)
              obtain ⟨f_10, ef_10⟩ : ∃ g : Nat → Int32, g = upd f15 a1.toNatClampNeg (vp_nar .boolean (1 : Int32)) := ⟨_, rfl⟩
              refine pd_K (D := D) (cl := vwCl) (H := H) (A := A) [ob12_0_ mo 0 0 t2 s3 s4 g5 g6 g7 g8 g9 g10 s11 g12 g13 g14 g15 g16 g17 g18 g19 g20 s21 g22 g23 g24 s25 s26 s27 s28 g29 g30 g31 g32 g33, az_ cy g15 4 f_10, ai_ cy g16 4 f16, ai_ cy g17 4 f17, ai_ cy g18 24 f18] (by rw [ef_10]; exact hP) (by rw [ef_10]; exact hD) (fun hP hD => ?_)
              refine lv_aload_n hx hb dB_3_3_24.1.2.1.1 rfl (lv_at hl 0 rfl) ?_
              refine va_get (ci := 12) (v := .ref g16) (C := RX12) (T := TX12) (N := 34) hx hb hts (fun _ h => List.mem_cons_of_mem _ (List.mem_append_right _ h)) hown hK.1 hP 0 rfl rfl 16 (by decide) (hts (.fieldLink RX12 41 "CutAtlasModel" "mapKind" "[I") (List.mem_of_getElem? (i := 6) rfl)) (fun _ h9 => h9) rfl dB_3_3_24.1.2.1.2 ?_
              refine lv_iload_n hx hb dB_3_3_24.1.2.2.1 rfl (lv_at hl 1 rfl) ?_
              refine lv_iload_n hx hb dB_3_3_24.1.2.2.2 rfl (lv_at hl 2 rfl) ?_
              refine va_iast hx hb hK.1 hP hD hS 2 0 rfl rfl (i := a1) h_9 dB_3_3_24.2.1.1.1 (fun H locs hP hD hS => ?_)
              obtain ⟨f_12, ef_12⟩ : ∃ g : Nat → Int32, g = upd f16 a1.toNatClampNeg a2 := ⟨_, rfl⟩
              refine pd_K (D := D) (cl := vwCl) (H := H) (A := A) [ob12_0_ mo 0 0 t2 s3 s4 g5 g6 g7 g8 g9 g10 s11 g12 g13 g14 g15 g16 g17 g18 g19 g20 s21 g22 g23 g24 s25 s26 s27 s28 g29 g30 g31 g32 g33, az_ cy g15 4 f_10, ai_ cy g16 4 f_12, ai_ cy g17 4 f17, ai_ cy g18 24 f18] (by rw [ef_12]; exact hP) (by rw [ef_12]; exact hD) (fun hP hD => ?_)
              refine lv_aload_n hx hb dB_3_3_24.2.1.1.2 rfl (lv_at hl 0 rfl) ?_
              refine va_get (ci := 12) (v := .ref g17) (C := RX12) (T := TX12) (N := 34) hx hb hts (fun _ h => List.mem_cons_of_mem _ (List.mem_append_right _ h)) hown hK.1 hP 0 rfl rfl 17 (by decide) (hts (.fieldLink RX12 44 "CutAtlasModel" "mapRows" "[I") (List.mem_of_getElem? (i := 7) rfl)) (fun _ h9 => h9) rfl dB_3_3_24.2.1.2.1 ?_
              refine lv_iload_n hx hb dB_3_3_24.2.1.2.2 rfl (lv_at hl 1 rfl) ?_
              refine lv_iload_n hx hb dB_3_3_24.2.2.1.1 rfl (lv_at hl 3 rfl) ?_
              refine va_iast hx hb hK.1 hP hD hS 3 0 rfl rfl (i := a1) h_9 dB_3_3_24.2.2.1.2 (fun H locs hP hD hS => ?_)
              obtain ⟨f_14, ef_14⟩ : ∃ g : Nat → Int32, g = upd f17 a1.toNatClampNeg a3 := ⟨_, rfl⟩
              refine pd_K (D := D) (cl := vwCl) (H := H) (A := A) [ob12_0_ mo 0 0 t2 s3 s4 g5 g6 g7 g8 g9 g10 s11 g12 g13 g14 g15 g16 g17 g18 g19 g20 s21 g22 g23 g24 s25 s26 s27 s28 g29 g30 g31 g32 g33, az_ cy g15 4 f_10, ai_ cy g16 4 f_12, ai_ cy g17 4 f_14, ai_ cy g18 24 f18] (by rw [ef_14]; exact hP) (by rw [ef_14]; exact hD) (fun hP hD => ?_)
              have rf_14 : rng f_14 4 (0) (6) := by rw [ef_14]; exact rng_upd r_f17 (by omega) (by omega)
              refine lv_iconst (v := 0) hx hb dB_3_3_24.2.2.2.1 (by decide) ?_
              refine lv_istore (lv' := [(4, .int 0), (0, .ref mo), (1, .int a1), (2, .int a2), (3, .int a3)]) hx hb dB_3_3_24.2.2.2.2 hl (by decide) rfl (fun ls hl => ?_)
              suffices LOOP_15 : ∀ (n_15 : Nat) (x4_15 : Int32) (c_g18_15 : Nat → Int32) (H : Heap) (locs : List Loc) (ls : Array Slot), 6 - x4_15.toInt < (n_15 : Int) → (0 ≤ x4_15.toInt) → (x4_15.toInt ≤ 6) → (∀ q : Nat, c_g18_15 q = if 6 * a1.toInt ≤ (q : Int) ∧ (q : Int) < 6 * a1.toInt + x4_15.toInt then (-9) else f18 q) → (rng c_g18_15 24 (-9) (5)) → pd_2 D vwCl A [ob12_0_ mo 0 0 t2 s3 s4 g5 g6 g7 g8 g9 g10 s11 g12 g13 g14 g15 g16 g17 g18 g19 g20 s21 g22 g23 g24 s25 s26 s27 s28 g29 g30 g31 g32 g33, az_ cy g15 4 f_10, ai_ cy g16 4 f_12, ai_ cy g17 4 f_14, ai_ cy g18 24 c_g18_15] H → va_S A s.heap H locs → lv_has ls 5 [(4, .int x4_15), (0, .ref mo), (1, .int a1), (2, .int a2), (3, .int a3)] → W p l e ({ frames := 1, cells := 0, slots := 0, locals := 25 } : Room) s m (([.ref mo, .int a1, .int a2, .int a3] : List Value).toArray) below meth c H locs 0 0 Q (F0 m 81 ls []) from LOOP_15 ((6 - (0 : Int32).toInt).toNat + 1) (0 : Int32) f18 _ _ _ (by omega) (by first | with_reducible assumption | omega | assumption) (by first | with_reducible assumption | omega | assumption) (by first | exact nine0 | exact nine6 v_none S[q18] (by omega) (by omega) (by omega) (by omega)) (by first | with_reducible assumption | assumption | exact rng_zero (by omega) (by omega) | exact orng_zero) ⟨hP, hD⟩ hS (lv_sub hl [0, 1, 2, 3, 4] rfl)
              intro n_15
              induction n_15 with
              | zero =>
                intro x4_15 c_g18_15 H locs ls hm v0_15 v1_15 v2_15 rc_g18_15 hPD hS hl; obtain ⟨hP, hD⟩ := hPD
                exact absurd hm (by omega)
              | succ n_15 ih_15 =>
                intro x4_15 c_g18_15 H locs ls hm v0_15 v1_15 v2_15 rc_g18_15 hPD hS hl; obtain ⟨hP, hD⟩ := hPD
                refine lv_iload hx hb dB_3_3_25.1.1.1.1 (lv_at hl 0 rfl) ?_
                refine lv_bipush (v := 6) hx hb dB_3_3_25.1.1.1.2 (by decide) ?_
                refine lv_icmp_ge (tgt := 108) hx hb dB_3_3_25.1.1.2.1 (by decide) (fun c_16 => ?_) (fun c_16 => ?_)
                · have t_16 : (6 : Int32).toInt ≤ x4_15.toInt := Int32.le_iff_toInt_le.mp c_16
                  have h9_ := nineE v2_15 (by omega)
                  refine lv_iconst (v := 1) hx hb dB_3_3_25.2.2.2.1 (by decide) ?_
                  rw [hQ]
                  exact W.iret (v := 1) hx hb hr (fun t ht hW => ⟨⟨1, (), rfl, (by first | (have h9 := congrArg Int32.toInt f0__lit; unfold mapRI; (repeat' (first | with_reducible refine if_n (by omega) ?_ | with_reducible refine if_ns (by omega) ?_ | with_reducible refine if_nz (by omega) ?_ | with_reducible exact if_p (by omega) (by omega) | with_reducible exact if_ps (by omega) (by omega) | with_reducible exact if_pz (by omega) (by omega))) <;> omega) | (unfold mapRI; (repeat' (first | with_reducible refine if_n (by omega) ?_ | with_reducible refine if_ns (by omega) ?_ | with_reducible refine if_nz (by omega) ?_ | with_reducible exact if_p (by omega) (by omega) | with_reducible exact if_ps (by omega) (by omega) | with_reducible exact if_pz (by omega) (by omega))) <;> omega)), (0 : Int32), f_10, f_12, f_14, c_g18_15, (by first | (have h9 := congrArg Int32.toInt hno_; unfold mapRI; (repeat' (first | with_reducible refine if_n (by omega) ?_ | with_reducible refine if_ns (by omega) ?_ | with_reducible refine if_nz (by omega) ?_ | with_reducible exact if_p (by omega) (by omega) | with_reducible exact if_ps (by omega) (by omega) | with_reducible exact if_pz (by omega) (by omega))) <;> omega) | (unfold mapRI; (repeat' (first | with_reducible refine if_n (by omega) ?_ | with_reducible refine if_ns (by omega) ?_ | with_reducible refine if_nz (by omega) ?_ | with_reducible exact if_p (by omega) (by omega) | with_reducible exact if_ps (by omega) (by omega) | with_reducible exact if_pz (by omega) (by omega))) <;> omega)), (by first | exact ⟨fun _ => ⟨rfl, rfl, rfl, rfl⟩, fun h => absurd h (by first | omega | (have h9_ := congrArg Int32.toInt hno_; omega) | decide)⟩ | exact ⟨fun h => absurd (by first | omega | (have h9_ := congrArg Int32.toInt hno_; omega) | decide) h, fun _ => ⟨ef_10, ef_12, ef_14, h9_⟩⟩), (by first | exact nine_lok h9_ hlk | exact hlk), (by first | with_reducible assumption | assumption | exact rng_zero (by omega) (by omega) | omega), (by first | with_reducible assumption | assumption | exact rng_zero (by omega) (by omega) | omega), by rw [ht]; exact hP, hD⟩, hS.F ht⟩) hS.2.2 dB_3_3_25.2.2.2.2
                · have t_16 : ¬ (6 : Int32).toInt ≤ x4_15.toInt := fun h => c_16 (Int32.le_iff_toInt_le.mpr h)
                  refine lv_aload_n hx hb dB_3_3_25.1.1.2.2 rfl (lv_at hl 1 rfl) ?_
                  refine va_get (ci := 12) (v := .ref g18) (C := RX12) (T := TX12) (N := 34) hx hb hts (fun _ h => List.mem_cons_of_mem _ (List.mem_append_right _ h)) hown hK.1 hP 0 rfl rfl 18 (by decide) (hts (.fieldLink RX12 47 "CutAtlasModel" "rowSize" "[I") (List.mem_of_getElem? (i := 8) rfl)) (fun _ h9 => h9) rfl dB_3_3_25.1.2.1.1 ?_
                  refine lv_bipush (v := 6) hx hb dB_3_3_25.1.2.1.2 (by decide) ?_
                  refine lv_iload_n hx hb dB_3_3_25.1.2.2.1 rfl (lv_at hl 2 rfl) ?_
                  refine lv_imul hx hb dB_3_3_25.1.2.2.2 ?_
                  refine lv_topi (fun y_17 ey_17 => ?_)
                  have ty_17 : y_17.toInt = 6 * a1.toInt := by rw [ey_17]; exact mulC (by decide) (by omega) (by omega)
                  refine lv_iload hx hb dB_3_3_25.2.1.1.1 (lv_at hl 0 rfl) ?_
                  refine lv_iadd hx hb dB_3_3_25.2.1.1.2 ?_
                  refine lv_topi (fun y_18 ey_18 => ?_)
                  have ty_18 : y_18.toInt = y_17.toInt + x4_15.toInt := by rw [ey_18]; exact addI (by omega) (by omega)
                  refine lv_bipush (v := (-9)) hx hb dB_3_3_25.2.1.2.1 (by decide) ?_
                  have h_19 : vp_in y_18 24 := in_I (by first | with_reducible assumption | omega) (by omega)
                  refine va_iast hx hb hK.1 hP hD hS 4 0 rfl rfl (i := y_18) h_19 dB_3_3_25.2.1.2.2 (fun H locs hP hD hS => ?_)
                  obtain ⟨f_20, ef_20⟩ : ∃ g : Nat → Int32, g = upd c_g18_15 y_18.toNatClampNeg ((-9) : Int32) := ⟨_, rfl⟩
                  refine pd_K (D := D) (cl := vwCl) (H := H) (A := A) [ob12_0_ mo 0 0 t2 s3 s4 g5 g6 g7 g8 g9 g10 s11 g12 g13 g14 g15 g16 g17 g18 g19 g20 s21 g22 g23 g24 s25 s26 s27 s28 g29 g30 g31 g32 g33, az_ cy g15 4 f_10, ai_ cy g16 4 f_12, ai_ cy g17 4 f_14, ai_ cy g18 24 f_20] (by rw [ef_20]; exact hP) (by rw [ef_20]; exact hD) (fun hP hD => ?_)
                  have rf_20 : rng f_20 24 (-9) (5) := by rw [ef_20]; exact rng_upd rc_g18_15 (by omega) (by omega)
                  obtain ⟨y_21, ey_21⟩ : ∃ y : Int32, y = x4_15 + 1 := ⟨_, rfl⟩
                  have ty_21 : y_21.toInt = x4_15.toInt + (1 : Int32).toInt := by rw [ey_21]; exact addI (by omega) (by omega)
                  refine lv_iinc (v := y_21) (lv' := [(4, .int y_21), (0, .ref mo), (1, .int a1), (2, .int a2), (3, .int a3)]) hx hb dB_3_3_25.2.2.1.1 hl (k := 0) rfl (by rw [ey_21]; rfl) (by decide) rfl (fun ls hl => ?_)
                  refine lv_goto (tgt := 81) hx hb dB_3_3_25.2.2.1.2 (by decide) ?_
                  exact ih_15 y_21 f_20 _ _ _ (by omega) (by first | with_reducible assumption | omega | assumption) (by first | with_reducible assumption | omega | assumption) (by first | exact nine0 | exact nine6 v2_15 ef_20 (by omega) (by omega) (by omega) (by omega)) (by first | with_reducible assumption | assumption | exact rng_zero (by omega) (by omega) | exact orng_zero) ⟨hP, hD⟩ hS (lv_sub hl [0, 1, 2, 3, 4] rfl)
            · have t_8 : ¬ (0 : Int32).toInt ≤ a3.toInt := fun h => c_8 (Int32.le_iff_toInt_le.mpr h)
              refine lv_aload_n hx hb dB_3_3_23.2.1.2.2 rfl (lv_at hl 0 rfl) ?_
              refine lv_bipush (v := (-15)) hx hb dB_3_3_23.2.2.1.1 (by decide) ?_
              refine ct_S hP hD hS hA [ob12_0_ mo 0 0 t2 s3 s4 g5 g6 g7 g8 g9 g10 s11 g12 g13 g14 g15 g16 g17 g18 g19 g20 s21 g22 g23 g24 s25 s26 s27 s28 g29 g30 g31 g32 g33] [0] (by decide) rfl (fun hPc hDw hFc hC_ => ?_)
              refine va_calli (va_runV (As := [.int (-15)]) (rest := []) ⟨hx, hb, hml, hown, hts⟩ (c_X12_no2 l D cy H.size mo g5 g6 g7 g8 g9 g10 g12 g13 g14 g15 g16 g17 g18 g19 g20 g22 g23 g24 g29 g30 g31 g32 g33 (0 : Int32) (0 : Int32) s3 s4 s11 s21 s25 s26 s27 s28 t2 ((-15) : Int32)) (cwV 1 hts gX12_map_X12_no rfl rfl rfl ⟨rfl, hd_X12_no⟩ ⟨Nat.le_of_ble_eq_true rfl, Nat.le_of_ble_eq_true rfl⟩) ⟨bl_, va_recvX hK.1 hP (ci := 12) (q0 := 0) rfl rfl, fun U hU hW => ⟨rfl, by rw [hU], by rw [hU]; exact hPc, kk_mv hW hK, hDw⟩⟩ rfl rfl hl.1 rfl (lv_room (Nat.le_of_ble_eq_true rfl)) dB_3_3_23.2.2.1.2 ⟨Nat.le_of_ble_eq_true rfl, Nat.le_of_ble_eq_true rfl⟩) hS (fun q _ h => hFc q h) hFc (fun r_22 u t H locs ht hvm hw hB hz1 hk1 hS => ?_)
              obtain ⟨n1_23, g_24, hP1, hD1⟩ := hB
              rw [ht] at hP1
              obtain ⟨hP, hD⟩ := va_join (wr := [az_ cy g15 4 f15, ai_ cy g16 4 f16, ai_ cy g17 4 f17, ai_ cy g18 24 f18]) (w1 := [ob12_0_ mo 0 n1_23 t2 s3 s4 g5 g6 g7 g8 g9 g10 s11 g12 g13 g14 g15 g16 g17 g18 g19 g20 s21 g22 g23 g24 s25 s26 s27 s28 g29 g30 g31 g32 g33]) hP hD [0] [1, 2, 3, 4] hC_ rfl (by decide) (by decide) hk1 hFc hP1 hD1
              refine pd_S hP hD [ob12_0_ mo 0 n1_23 t2 s3 s4 g5 g6 g7 g8 g9 g10 s11 g12 g13 g14 g15 g16 g17 g18 g19 g20 s21 g22 g23 g24 s25 s26 s27 s28 g29 g30 g31 g32 g33, az_ cy g15 4 f15, ai_ cy g16 4 f16, ai_ cy g17 4 f17, ai_ cy g18 24 f18] [4, 0, 1, 2, 3] (by decide) rfl (fun hP hD => ?_)
              have f0_r_22 := hw
              have hno_ := g_24
              rw [hQ]
              exact W.iret (v := r_22) hx hb hr (fun t ht hW => ⟨⟨r_22, (), rfl, (by first | (have h9 := congrArg Int32.toInt f0_r_22; unfold mapRI; (repeat' (first | with_reducible refine if_n (by omega) ?_ | with_reducible refine if_ns (by omega) ?_ | with_reducible refine if_nz (by omega) ?_ | with_reducible exact if_p (by omega) (by omega) | with_reducible exact if_ps (by omega) (by omega) | with_reducible exact if_pz (by omega) (by omega))) <;> omega) | (unfold mapRI; (repeat' (first | with_reducible refine if_n (by omega) ?_ | with_reducible refine if_ns (by omega) ?_ | with_reducible refine if_nz (by omega) ?_ | with_reducible exact if_p (by omega) (by omega) | with_reducible exact if_ps (by omega) (by omega) | with_reducible exact if_pz (by omega) (by omega))) <;> omega)), n1_23, f15, f16, f17, f18, (by first | (have h9 := congrArg Int32.toInt hno_; unfold mapRI; (repeat' (first | with_reducible refine if_n (by omega) ?_ | with_reducible refine if_ns (by omega) ?_ | with_reducible refine if_nz (by omega) ?_ | with_reducible exact if_p (by omega) (by omega) | with_reducible exact if_ps (by omega) (by omega) | with_reducible exact if_pz (by omega) (by omega))) <;> omega) | (unfold mapRI; (repeat' (first | with_reducible refine if_n (by omega) ?_ | with_reducible refine if_ns (by omega) ?_ | with_reducible refine if_nz (by omega) ?_ | with_reducible exact if_p (by omega) (by omega) | with_reducible exact if_ps (by omega) (by omega) | with_reducible exact if_pz (by omega) (by omega))) <;> omega)), (by first | exact ⟨fun _ => ⟨rfl, rfl, rfl, rfl⟩, fun h => absurd h (by first | omega | (have h9_ := congrArg Int32.toInt hno_; omega) | decide)⟩ | exact ⟨fun h => absurd (by first | omega | (have h9_ := congrArg Int32.toInt hno_; omega) | decide) h, fun _ => ⟨S[q15], S[q16], S[q17], h9_⟩⟩), (by first | exact nine_lok h9_ hlk | exact hlk), (by first | with_reducible assumption | assumption | exact rng_zero (by omega) (by omega) | omega), (by first | with_reducible assumption | assumption | exact rng_zero (by omega) (by omega) | omega), by rw [ht]; exact hP, hD⟩, hS.F ht⟩) hS.2.2 dB_3_3_23.2.2.2.1
          · have t_7 : ¬ a3.toInt ≤ (6 : Int32).toInt := fun h => c_7 (Int32.le_iff_toInt_le.mpr h)
            refine lv_aload_n hx hb dB_3_3_23.1.2.1.2 rfl (lv_at hl 0 rfl) ?_
            refine lv_iconst (v := (-1)) hx hb dB_3_3_23.1.2.2.1 (by decide) ?_
            refine ct_S hP hD hS hA [ob12_0_ mo 0 0 t2 s3 s4 g5 g6 g7 g8 g9 g10 s11 g12 g13 g14 g15 g16 g17 g18 g19 g20 s21 g22 g23 g24 s25 s26 s27 s28 g29 g30 g31 g32 g33] [0] (by decide) rfl (fun hPc hDw hFc hC_ => ?_)
            refine va_calli (va_runV (As := [.int (-1)]) (rest := []) ⟨hx, hb, hml, hown, hts⟩ (c_X12_no2 l D cy H.size mo g5 g6 g7 g8 g9 g10 g12 g13 g14 g15 g16 g17 g18 g19 g20 g22 g23 g24 g29 g30 g31 g32 g33 (0 : Int32) (0 : Int32) s3 s4 s11 s21 s25 s26 s27 s28 t2 ((-1) : Int32)) (cwV 1 hts gX12_map_X12_no rfl rfl rfl ⟨rfl, hd_X12_no⟩ ⟨Nat.le_of_ble_eq_true rfl, Nat.le_of_ble_eq_true rfl⟩) ⟨bl_, va_recvX hK.1 hP (ci := 12) (q0 := 0) rfl rfl, fun U hU hW => ⟨rfl, by rw [hU], by rw [hU]; exact hPc, kk_mv hW hK, hDw⟩⟩ rfl rfl hl.1 rfl (lv_room (Nat.le_of_ble_eq_true rfl)) dB_3_3_23.1.2.2.2 ⟨Nat.le_of_ble_eq_true rfl, Nat.le_of_ble_eq_true rfl⟩) hS (fun q _ h => hFc q h) hFc (fun r_25 u t H locs ht hvm hw hB hz1 hk1 hS => ?_)
            obtain ⟨n1_26, g_27, hP1, hD1⟩ := hB
            rw [ht] at hP1
            obtain ⟨hP, hD⟩ := va_join (wr := [az_ cy g15 4 f15, ai_ cy g16 4 f16, ai_ cy g17 4 f17, ai_ cy g18 24 f18]) (w1 := [ob12_0_ mo 0 n1_26 t2 s3 s4 g5 g6 g7 g8 g9 g10 s11 g12 g13 g14 g15 g16 g17 g18 g19 g20 s21 g22 g23 g24 s25 s26 s27 s28 g29 g30 g31 g32 g33]) hP hD [0] [1, 2, 3, 4] hC_ rfl (by decide) (by decide) hk1 hFc hP1 hD1
            refine pd_S hP hD [ob12_0_ mo 0 n1_26 t2 s3 s4 g5 g6 g7 g8 g9 g10 s11 g12 g13 g14 g15 g16 g17 g18 g19 g20 s21 g22 g23 g24 s25 s26 s27 s28 g29 g30 g31 g32 g33, az_ cy g15 4 f15, ai_ cy g16 4 f16, ai_ cy g17 4 f17, ai_ cy g18 24 f18] [4, 0, 1, 2, 3] (by decide) rfl (fun hP hD => ?_)
            have f0_r_25 := hw
            have hno_ := g_27
            rw [hQ]
            exact W.iret (v := r_25) hx hb hr (fun t ht hW => ⟨⟨r_25, (), rfl, (by first | (have h9 := congrArg Int32.toInt f0_r_25; unfold mapRI; (repeat' (first | with_reducible refine if_n (by omega) ?_ | with_reducible refine if_ns (by omega) ?_ | with_reducible refine if_nz (by omega) ?_ | with_reducible exact if_p (by omega) (by omega) | with_reducible exact if_ps (by omega) (by omega) | with_reducible exact if_pz (by omega) (by omega))) <;> omega) | (unfold mapRI; (repeat' (first | with_reducible refine if_n (by omega) ?_ | with_reducible refine if_ns (by omega) ?_ | with_reducible refine if_nz (by omega) ?_ | with_reducible exact if_p (by omega) (by omega) | with_reducible exact if_ps (by omega) (by omega) | with_reducible exact if_pz (by omega) (by omega))) <;> omega)), n1_26, f15, f16, f17, f18, (by first | (have h9 := congrArg Int32.toInt hno_; unfold mapRI; (repeat' (first | with_reducible refine if_n (by omega) ?_ | with_reducible refine if_ns (by omega) ?_ | with_reducible refine if_nz (by omega) ?_ | with_reducible exact if_p (by omega) (by omega) | with_reducible exact if_ps (by omega) (by omega) | with_reducible exact if_pz (by omega) (by omega))) <;> omega) | (unfold mapRI; (repeat' (first | with_reducible refine if_n (by omega) ?_ | with_reducible refine if_ns (by omega) ?_ | with_reducible refine if_nz (by omega) ?_ | with_reducible exact if_p (by omega) (by omega) | with_reducible exact if_ps (by omega) (by omega) | with_reducible exact if_pz (by omega) (by omega))) <;> omega)), (by first | exact ⟨fun _ => ⟨rfl, rfl, rfl, rfl⟩, fun h => absurd h (by first | omega | (have h9_ := congrArg Int32.toInt hno_; omega) | decide)⟩ | exact ⟨fun h => absurd (by first | omega | (have h9_ := congrArg Int32.toInt hno_; omega) | decide) h, fun _ => ⟨S[q15], S[q16], S[q17], h9_⟩⟩), (by first | exact nine_lok h9_ hlk | exact hlk), (by first | with_reducible assumption | assumption | exact rng_zero (by omega) (by omega) | omega), (by first | with_reducible assumption | assumption | exact rng_zero (by omega) (by omega) | omega), by rw [ht]; exact hP, hD⟩, hS.F ht⟩) hS.2.2 dB_3_3_23.2.1.1.1
      · have e_ := e_.symm
        subst e_
        refine lv_if_eq (tgt := 40) hx hb dB_3_3_23.1.1.1.2 (by decide) (fun c_28 => ?_) (fun c_28 => ?_)
        · have _ := c_28
          refine lv_aload_n hx hb dB_3_3_23.1.2.1.2 rfl (lv_at hl 0 rfl) ?_
          refine lv_iconst (v := (-1)) hx hb dB_3_3_23.1.2.2.1 (by decide) ?_
          refine ct_S hP hD hS hA [ob12_0_ mo 0 0 t2 s3 s4 g5 g6 g7 g8 g9 g10 s11 g12 g13 g14 g15 g16 g17 g18 g19 g20 s21 g22 g23 g24 s25 s26 s27 s28 g29 g30 g31 g32 g33] [0] (by decide) rfl (fun hPc hDw hFc hC_ => ?_)
          refine va_calli (va_runV (As := [.int (-1)]) (rest := []) ⟨hx, hb, hml, hown, hts⟩ (c_X12_no2 l D cy H.size mo g5 g6 g7 g8 g9 g10 g12 g13 g14 g15 g16 g17 g18 g19 g20 g22 g23 g24 g29 g30 g31 g32 g33 (0 : Int32) (0 : Int32) s3 s4 s11 s21 s25 s26 s27 s28 t2 ((-1) : Int32)) (cwV 1 hts gX12_map_X12_no rfl rfl rfl ⟨rfl, hd_X12_no⟩ ⟨Nat.le_of_ble_eq_true rfl, Nat.le_of_ble_eq_true rfl⟩) ⟨bl_, va_recvX hK.1 hP (ci := 12) (q0 := 0) rfl rfl, fun U hU hW => ⟨rfl, by rw [hU], by rw [hU]; exact hPc, kk_mv hW hK, hDw⟩⟩ rfl rfl hl.1 rfl (lv_room (Nat.le_of_ble_eq_true rfl)) dB_3_3_23.1.2.2.2 ⟨Nat.le_of_ble_eq_true rfl, Nat.le_of_ble_eq_true rfl⟩) hS (fun q _ h => hFc q h) hFc (fun r_29 u t H locs ht hvm hw hB hz1 hk1 hS => ?_)
          obtain ⟨n1_30, g_31, hP1, hD1⟩ := hB
          rw [ht] at hP1
          obtain ⟨hP, hD⟩ := va_join (wr := [az_ cy g15 4 f15, ai_ cy g16 4 f16, ai_ cy g17 4 f17, ai_ cy g18 24 f18]) (w1 := [ob12_0_ mo 0 n1_30 t2 s3 s4 g5 g6 g7 g8 g9 g10 s11 g12 g13 g14 g15 g16 g17 g18 g19 g20 s21 g22 g23 g24 s25 s26 s27 s28 g29 g30 g31 g32 g33]) hP hD [0] [1, 2, 3, 4] hC_ rfl (by decide) (by decide) hk1 hFc hP1 hD1
          refine pd_S hP hD [ob12_0_ mo 0 n1_30 t2 s3 s4 g5 g6 g7 g8 g9 g10 s11 g12 g13 g14 g15 g16 g17 g18 g19 g20 s21 g22 g23 g24 s25 s26 s27 s28 g29 g30 g31 g32 g33, az_ cy g15 4 f15, ai_ cy g16 4 f16, ai_ cy g17 4 f17, ai_ cy g18 24 f18] [4, 0, 1, 2, 3] (by decide) rfl (fun hP hD => ?_)
          have f0_r_29 := hw
          have hno_ := g_31
          rw [hQ]
          exact W.iret (v := r_29) hx hb hr (fun t ht hW => ⟨⟨r_29, (), rfl, (by first | (have h9 := congrArg Int32.toInt f0_r_29; unfold mapRI; (repeat' (first | with_reducible refine if_n (by omega) ?_ | with_reducible refine if_ns (by omega) ?_ | with_reducible refine if_nz (by omega) ?_ | with_reducible exact if_p (by omega) (by omega) | with_reducible exact if_ps (by omega) (by omega) | with_reducible exact if_pz (by omega) (by omega))) <;> omega) | (unfold mapRI; (repeat' (first | with_reducible refine if_n (by omega) ?_ | with_reducible refine if_ns (by omega) ?_ | with_reducible refine if_nz (by omega) ?_ | with_reducible exact if_p (by omega) (by omega) | with_reducible exact if_ps (by omega) (by omega) | with_reducible exact if_pz (by omega) (by omega))) <;> omega)), n1_30, f15, f16, f17, f18, (by first | (have h9 := congrArg Int32.toInt hno_; unfold mapRI; (repeat' (first | with_reducible refine if_n (by omega) ?_ | with_reducible refine if_ns (by omega) ?_ | with_reducible refine if_nz (by omega) ?_ | with_reducible exact if_p (by omega) (by omega) | with_reducible exact if_ps (by omega) (by omega) | with_reducible exact if_pz (by omega) (by omega))) <;> omega) | (unfold mapRI; (repeat' (first | with_reducible refine if_n (by omega) ?_ | with_reducible refine if_ns (by omega) ?_ | with_reducible refine if_nz (by omega) ?_ | with_reducible exact if_p (by omega) (by omega) | with_reducible exact if_ps (by omega) (by omega) | with_reducible exact if_pz (by omega) (by omega))) <;> omega)), (by first | exact ⟨fun _ => ⟨rfl, rfl, rfl, rfl⟩, fun h => absurd h (by first | omega | (have h9_ := congrArg Int32.toInt hno_; omega) | decide)⟩ | exact ⟨fun h => absurd (by first | omega | (have h9_ := congrArg Int32.toInt hno_; omega) | decide) h, fun _ => ⟨S[q15], S[q16], S[q17], h9_⟩⟩), (by first | exact nine_lok h9_ hlk | exact hlk), (by first | with_reducible assumption | assumption | exact rng_zero (by omega) (by omega) | omega), (by first | with_reducible assumption | assumption | exact rng_zero (by omega) (by omega) | omega), by rw [ht]; exact hP, hD⟩, hS.F ht⟩) hS.2.2 dB_3_3_23.2.1.1.1
        · exact absurd c_28 (by decide)
  · have e_ := e_.symm
    subst e_
    refine lv_if_eq (tgt := 40) hx hb dB_3_3_22.2.1.2.2 (by decide) (fun c_32 => ?_) (fun c_32 => ?_)
    · have _ := c_32
      refine lv_aload_n hx hb dB_3_3_23.1.2.1.2 rfl (lv_at hl 0 rfl) ?_
      refine lv_iconst (v := (-1)) hx hb dB_3_3_23.1.2.2.1 (by decide) ?_
      refine ct_S hP hD hS hA [ob12_0_ mo 0 0 t2 s3 s4 g5 g6 g7 g8 g9 g10 s11 g12 g13 g14 g15 g16 g17 g18 g19 g20 s21 g22 g23 g24 s25 s26 s27 s28 g29 g30 g31 g32 g33] [0] (by decide) rfl (fun hPc hDw hFc hC_ => ?_)
      refine va_calli (va_runV (As := [.int (-1)]) (rest := []) ⟨hx, hb, hml, hown, hts⟩ (c_X12_no2 l D cy H.size mo g5 g6 g7 g8 g9 g10 g12 g13 g14 g15 g16 g17 g18 g19 g20 g22 g23 g24 g29 g30 g31 g32 g33 (0 : Int32) (0 : Int32) s3 s4 s11 s21 s25 s26 s27 s28 t2 ((-1) : Int32)) (cwV 1 hts gX12_map_X12_no rfl rfl rfl ⟨rfl, hd_X12_no⟩ ⟨Nat.le_of_ble_eq_true rfl, Nat.le_of_ble_eq_true rfl⟩) ⟨bl_, va_recvX hK.1 hP (ci := 12) (q0 := 0) rfl rfl, fun U hU hW => ⟨rfl, by rw [hU], by rw [hU]; exact hPc, kk_mv hW hK, hDw⟩⟩ rfl rfl hl.1 rfl (lv_room (Nat.le_of_ble_eq_true rfl)) dB_3_3_23.1.2.2.2 ⟨Nat.le_of_ble_eq_true rfl, Nat.le_of_ble_eq_true rfl⟩) hS (fun q _ h => hFc q h) hFc (fun r_33 u t H locs ht hvm hw hB hz1 hk1 hS => ?_)
      obtain ⟨n1_34, g_35, hP1, hD1⟩ := hB
      rw [ht] at hP1
      obtain ⟨hP, hD⟩ := va_join (wr := [az_ cy g15 4 f15, ai_ cy g16 4 f16, ai_ cy g17 4 f17, ai_ cy g18 24 f18]) (w1 := [ob12_0_ mo 0 n1_34 t2 s3 s4 g5 g6 g7 g8 g9 g10 s11 g12 g13 g14 g15 g16 g17 g18 g19 g20 s21 g22 g23 g24 s25 s26 s27 s28 g29 g30 g31 g32 g33]) hP hD [0] [1, 2, 3, 4] hC_ rfl (by decide) (by decide) hk1 hFc hP1 hD1
      refine pd_S hP hD [ob12_0_ mo 0 n1_34 t2 s3 s4 g5 g6 g7 g8 g9 g10 s11 g12 g13 g14 g15 g16 g17 g18 g19 g20 s21 g22 g23 g24 s25 s26 s27 s28 g29 g30 g31 g32 g33, az_ cy g15 4 f15, ai_ cy g16 4 f16, ai_ cy g17 4 f17, ai_ cy g18 24 f18] [4, 0, 1, 2, 3] (by decide) rfl (fun hP hD => ?_)
      have f0_r_33 := hw
      have hno_ := g_35
      rw [hQ]
      exact W.iret (v := r_33) hx hb hr (fun t ht hW => ⟨⟨r_33, (), rfl, (by first | (have h9 := congrArg Int32.toInt f0_r_33; unfold mapRI; (repeat' (first | with_reducible refine if_n (by omega) ?_ | with_reducible refine if_ns (by omega) ?_ | with_reducible refine if_nz (by omega) ?_ | with_reducible exact if_p (by omega) (by omega) | with_reducible exact if_ps (by omega) (by omega) | with_reducible exact if_pz (by omega) (by omega))) <;> omega) | (unfold mapRI; (repeat' (first | with_reducible refine if_n (by omega) ?_ | with_reducible refine if_ns (by omega) ?_ | with_reducible refine if_nz (by omega) ?_ | with_reducible exact if_p (by omega) (by omega) | with_reducible exact if_ps (by omega) (by omega) | with_reducible exact if_pz (by omega) (by omega))) <;> omega)), n1_34, f15, f16, f17, f18, (by first | (have h9 := congrArg Int32.toInt hno_; unfold mapRI; (repeat' (first | with_reducible refine if_n (by omega) ?_ | with_reducible refine if_ns (by omega) ?_ | with_reducible refine if_nz (by omega) ?_ | with_reducible exact if_p (by omega) (by omega) | with_reducible exact if_ps (by omega) (by omega) | with_reducible exact if_pz (by omega) (by omega))) <;> omega) | (unfold mapRI; (repeat' (first | with_reducible refine if_n (by omega) ?_ | with_reducible refine if_ns (by omega) ?_ | with_reducible refine if_nz (by omega) ?_ | with_reducible exact if_p (by omega) (by omega) | with_reducible exact if_ps (by omega) (by omega) | with_reducible exact if_pz (by omega) (by omega))) <;> omega)), (by first | exact ⟨fun _ => ⟨rfl, rfl, rfl, rfl⟩, fun h => absurd h (by first | omega | (have h9_ := congrArg Int32.toInt hno_; omega) | decide)⟩ | exact ⟨fun h => absurd (by first | omega | (have h9_ := congrArg Int32.toInt hno_; omega) | decide) h, fun _ => ⟨S[q15], S[q16], S[q17], h9_⟩⟩), (by first | exact nine_lok h9_ hlk | exact hlk), (by first | with_reducible assumption | assumption | exact rng_zero (by omega) (by omega) | omega), (by first | with_reducible assumption | assumption | exact rng_zero (by omega) (by omega) | omega), by rw [ht]; exact hP, hD⟩, hS.F ht⟩) hS.2.2 dB_3_3_23.2.1.1.1
    · exact absurd c_32 (by decide)

set_option maxHeartbeats 4000000 in
set_option maxRecDepth 100000 in
theorem c_X12_row2 (l : Launch) (D : va_G) (cy : Nat → ClassId) (sz : Nat) (mo : Nat) (g5 : Nat) (g6 : Nat) (g7 : Nat) (g8 : Nat) (g9 : Nat) (g10 : Nat) (g12 : Nat) (g13 : Nat) (g14 : Nat) (g15 : Nat) (g16 : Nat) (g17 : Nat) (g18 : Nat) (g19 : Nat) (g20 : Nat) (g22 : Nat) (g23 : Nat) (g24 : Nat) (g29 : Nat) (g30 : Nat) (g31 : Nat) (g32 : Nat) (g33 : Nat) (s0 : Int32) (s1 : Int32) (s3 : Int32) (s4 : Int32) (s11 : Int32) (s21 : Int32) (s25 : Int32) (s26 : Int32) (s27 : Int32) (s28 : Int32) (t2 : Int64) (f15 : Nat → Int32) (f17 : Nat → Int32) (f18 : Nat → Int32) (f19 : Nat → Int64) (a1 : Int32) (a2 : Int32) (a3 : Int32) (hlk : lok f18 24) (r_f17 : rng f17 4 (0) (6)) (r_f18 : rng f18 24 (-9) (5)) : Met l yX12_row wsX12_row ({ frames := 1, cells := 0, slots := 0, locals := 25 }) (va_Pc [.ref mo, .int a1, .int a2, .int a3] (fun U => U.heap.size = sz ∧ va_P D vwCl [ob12_0_ mo s0 s1 t2 s3 s4 g5 g6 g7 g8 g9 g10 s11 g12 g13 g14 g15 g16 g17 g18 g19 g20 s21 g22 g23 g24 s25 s26 s27 s28 g29 g30 g31 g32 g33, az_ cy g15 4 f15, ai_ cy g17 4 f17, ai_ cy g18 24 f18, aj_ cy g19 120 f19] U.heap ∧ kk_ D cy U ∧ va_D (fun _ => True) [ob12_0_ mo s0 s1 t2 s3 s4 g5 g6 g7 g8 g9 g10 s11 g12 g13 g14 g15 g16 g17 g18 g19 g20 s21 g22 g23 g24 s25 s26 s27 s28 g29 g30 g31 g32 g33, az_ cy g15 4 f15, ai_ cy g17 4 f17, ai_ cy g18 24 f18, aj_ cy g19 120 f19])) (va_Qi (fun (r : Int32) (_ : Unit) => (r.toInt = if rowRI a1.toInt a2.toInt a3.toInt (f15 a1.toNatClampNeg).toInt (f17 a1.toNatClampNeg).toInt = 0 then 1 else rowRI a1.toInt a2.toInt a3.toInt (f15 a1.toNatClampNeg).toInt (f17 a1.toNatClampNeg).toInt)) (fun (_ : Unit) (t : State) => ∃ (n1 : Int32), ∃ (e18 : Nat → Int32), ∃ (e19 : Nat → Int64), (n1.toInt = rowRI a1.toInt a2.toInt a3.toInt (f15 a1.toNatClampNeg).toInt (f17 a1.toNatClampNeg).toInt) ∧ ((n1.toInt ≠ 0 → e18 = f18 ∧ e19 = f19) ∧ (n1.toInt = 0 → e18 = upd f18 (6 * a1.toInt + a2.toInt).toNat a3 ∧ ∀ q : Nat, e19 q = if 30 * a1.toInt + 5 * a2.toInt ≤ (q : Int) ∧ (q : Int) < 30 * a1.toInt + 5 * a2.toInt + 5 then 0 else f19 q)) ∧ (lok e18 24) ∧ (rng e18 24 (-9) (5)) ∧ va_P D vwCl [ob12_0_ mo 0 n1 t2 s3 s4 g5 g6 g7 g8 g9 g10 s11 g12 g13 g14 g15 g16 g17 g18 g19 g20 s21 g22 g23 g24 s25 s26 s27 s28 g29 g30 g31 g32 g33, az_ cy g15 4 f15, ai_ cy g17 4 f17, ai_ cy g18 24 e18, aj_ cy g19 120 e19] t.heap ∧ va_D (va_A [ob12_0_ mo s0 s1 t2 s3 s4 g5 g6 g7 g8 g9 g10 s11 g12 g13 g14 g15 g16 g17 g18 g19 g20 s21 g22 g23 g24 s25 s26 s27 s28 g29 g30 g31 g32 g33, az_ cy g15 4 f15, ai_ cy g17 4 f17, ai_ cy g18 24 f18, aj_ cy g19 120 f19] sz) [ob12_0_ mo 0 n1 t2 s3 s4 g5 g6 g7 g8 g9 g10 s11 g12 g13 g14 g15 g16 g17 g18 g19 g20 s21 g22 g23 g24 s25 s26 s27 s28 g29 g30 g31 g32 g33, az_ cy g15 4 f15, ai_ cy g17 4 f17, ai_ cy g18 24 e18, aj_ cy g19 120 e19]) (va_A [ob12_0_ mo s0 s1 t2 s3 s4 g5 g6 g7 g8 g9 g10 s11 g12 g13 g14 g15 g16 g17 g18 g19 g20 s21 g22 g23 g24 s25 s26 s27 s28 g29 g30 g31 g32 g33, az_ cy g15 4 f15, ai_ cy g17 4 f17, ai_ cy g18 24 f18, aj_ cy g19 120 f19] sz)) 0 0 (va_A [ob12_0_ mo s0 s1 t2 s3 s4 g5 g6 g7 g8 g9 g10 s11 g12 g13 g14 g15 g16 g17 g18 g19 g20 s21 g22 g23 g24 s25 s26 s27 s28 g29 g30 g31 g32 g33, az_ cy g15 4 f15, ai_ cy g17 4 f17, ai_ cy g18 24 f18, aj_ cy g19 120 f19] sz) := by
  refine ofQ (cc := cX12_row) (maxL := 5) (ret := (some .int)) (by decide) rfl ?_
  intro p e s m args below meth c s₁ Q hQ B hml hv
  obtain ⟨rfl, hsz, hP, hK, hD0⟩ := hv
  have hx := B.exec
  have hb := B.bytes
  have hr := B.returns
  have hts := atoms_spec (ws := wsX12_row) B.pre
  have hown : s.vm.findClass RX12 = some m.cls := by have h_ := findClass_of_methodNamed B.named; exact h_
  have hlocks := B.notSynchronized
  subst hsz
  have hD := hD0.self (sz := s.heap.size)
  generalize hAe : va_A [ob12_0_ mo s0 s1 t2 s3 s4 g5 g6 g7 g8 g9 g10 s11 g12 g13 g14 g15 g16 g17 g18 g19 g20 s21 g22 g23 g24 s25 s26 s27 s28 g29 g30 g31 g32 g33, az_ cy g15 4 f15, ai_ cy g17 4 f17, ai_ cy g18 24 f18, aj_ cy g19 120 f19] s.heap.size = A at hD hQ
  have hA : ∀ q : Nat, s.heap.size ≤ q → A q := fun q h => by rw [← hAe]; exact Or.inr h
  have hS : va_S A s.heap s.heap [] := va_S.rf
  have hl := lv_entry ([.ref mo, .int a1, .int a2, .int a3]) (n := 5) (Nat.le_of_ble_eq_true rfl)
  rw [lg_entry_eq]
  generalize (lg_sl ([.ref mo, .int a1, .int a2, .int a3]) ++ List.replicate (5 - (lg_sl ([.ref mo, .int a1, .int a2, .int a3])).length) Slot.unset).toArray = ls at hl ⊢
  have hl : lv_has ls 5 [(0, .ref mo), (1, .int a1), (2, .int a2), (3, .int a3)] := hl
  have zm15 : ((-15) : Int32).toInt = -15 := by decide
  have zm12 : ((-12) : Int32).toInt = -12 := by decide
  have zm11 : ((-11) : Int32).toInt = -11 := by decide
  have zm1 : ((-1) : Int32).toInt = -1 := by decide
  have z0 : (0 : Int32).toInt = 0 := by decide
  have zl0 : (0 : Int64).toInt = 0 := by decide
  have z1 : (1 : Int32).toInt = 1 := by decide
  have zl3 : (3 : Int64).toInt = 3 := by decide
  have z5 : (5 : Int32).toInt = 5 := by decide
  have z6 : (6 : Int32).toInt = 6 := by decide
  have z30 : (30 : Int32).toInt = 30 := by decide
  have zq1 : (1 : Int32).toInt = 1 := by decide
  refine lv_aload_n hx hb dB_3_3_40.1.1.1.1 rfl (lv_at hl 0 rfl) ?_
  refine lv_iconst (v := 0) hx hb dB_3_3_40.1.1.1.2 (by decide) ?_
  refine va_put (ci := 12) (v := .int 0) (ty := .int) (C := RX12) (T := TX12) (N := 34) hx hb hts (fun _ h => List.mem_cons_of_mem _ (List.mem_append_right _ h)) tyX12 tyX12_ok nmX12 hown hK.1 hP hD hS 0 rfl rfl 0 (by decide) (hts (.fieldLink RX12 85 "CutAtlasModel" "thrown" "I") (List.mem_of_getElem? (i := 1) rfl)) (fun _ h9 => h9) rfl (by decide +kernel) rfl rfl (Nat.le_of_ble_eq_true rfl) dB_3_3_40.1.1.2.1 (fun H locs hP hD hS => ?_)
  refine pd_K [ob12_0_ mo 0 s1 t2 s3 s4 g5 g6 g7 g8 g9 g10 s11 g12 g13 g14 g15 g16 g17 g18 g19 g20 s21 g22 g23 g24 s25 s26 s27 s28 g29 g30 g31 g32 g33, az_ cy g15 4 f15, ai_ cy g17 4 f17, ai_ cy g18 24 f18, aj_ cy g19 120 f19] hP hD (fun hP hD => ?_)
  refine lv_aload_n hx hb dB_3_3_40.1.1.2.2 rfl (lv_at hl 0 rfl) ?_
  refine lv_iconst (v := 0) hx hb dB_3_3_40.1.2.1.1 (by decide) ?_
  refine va_put (ci := 12) (v := .int 0) (ty := .int) (C := RX12) (T := TX12) (N := 34) hx hb hts (fun _ h => List.mem_cons_of_mem _ (List.mem_append_right _ h)) tyX12 tyX12_ok nmX12 hown hK.1 hP hD hS 0 rfl rfl 1 (by decide) (hts (.fieldLink RX12 240 "CutAtlasModel" "status" "I") (List.mem_of_getElem? (i := 2) rfl)) (fun _ h9 => h9) rfl (by decide +kernel) rfl rfl (Nat.le_of_ble_eq_true rfl) dB_3_3_40.1.2.1.2 (fun H locs hP hD hS => ?_)
  refine pd_K [ob12_0_ mo 0 0 t2 s3 s4 g5 g6 g7 g8 g9 g10 s11 g12 g13 g14 g15 g16 g17 g18 g19 g20 s21 g22 g23 g24 s25 s26 s27 s28 g29 g30 g31 g32 g33, az_ cy g15 4 f15, ai_ cy g17 4 f17, ai_ cy g18 24 f18, aj_ cy g19 120 f19] hP hD (fun hP hD => ?_)
  refine lv_iload_n hx hb dB_3_3_40.1.2.2.1 rfl (lv_at hl 1 rfl) ?_
  refine lv_i2l (v := a1.toInt64) hx hb dB_3_3_40.1.2.2.2 rfl ?_
  have q_11 : (a1.toInt64).toInt = a1.toInt := Int32.toInt_toInt64 a1
  refine lv_lconst (v := 0) hx hb dB_3_3_40.2.1.1.1 (by decide) ?_
  refine lv_ldc2 (v := 3) hx hb hown (hts (.constantLong RX12 243 (3)) (List.mem_of_getElem? (i := 3) rfl)) dB_3_3_40.2.1.1.2 ?_
  refine ct_R hP hD [] [] (by decide) rfl (fun hPc hDw => ?_)
  have hFc := va_free (wc := []) hD hS hA [] rfl
  refine va_calli (va_runS (As := [.long a1.toInt64, .long 0, .long 3]) (rest := []) ⟨hx, hb, hml, hown, hts⟩ (c_X12_in l D cy H.size a1.toInt64 (0 : Int64) (3 : Int64)) (va_cwS 3 hts gX12_row_X12_in rfl rfl rfl hd_X12_in ⟨Nat.le_of_ble_eq_true rfl, Nat.le_of_ble_eq_true rfl⟩) ⟨bl_, fun U hU hW => ⟨rfl, by rw [hU], by rw [hU]; exact hPc, kk_mv hW hK, hDw⟩⟩ rfl rfl hl.1 rfl (lv_room (Nat.le_of_ble_eq_true rfl)) dB_3_3_40.2.1.2.1 ⟨Nat.le_of_ble_eq_true rfl, Nat.le_of_ble_eq_true rfl⟩) hS (fun q _ h => hFc q h) hFc (fun r_1 u t H locs ht hvm hw hB hz1 hk1 hS => ?_)
  have hP : va_P D vwCl _ H := ro_keep hP hk1
  rcases hw with ⟨w_2, e_⟩ | ⟨w_2, e_⟩
  · have e_ := e_.symm
    subst e_
    refine lv_if_eq (tgt := 27) hx hb dB_3_3_40.2.1.2.2 (by decide) (fun c_3 => ?_) (fun c_3 => ?_)
    · exact absurd c_3 (by decide)
    · have _ := c_3
      refine lv_iload_n hx hb dB_3_3_40.2.2.1.1 rfl (lv_at hl 3 rfl) ?_
      refine lv_iconst (v := 5) hx hb dB_3_3_40.2.2.1.2 (by decide) ?_
      refine lv_icmp_le (tgt := 33) hx hb dB_3_3_40.2.2.2.1 (by decide) (fun c_4 => ?_) (fun c_4 => ?_)
      · have t_4 : a3.toInt ≤ (5 : Int32).toInt := Int32.le_iff_toInt_le.mp c_4
        refine lv_aload_n hx hb dB_3_3_41.1.1.2.2 rfl (lv_at hl 0 rfl) ?_
        refine va_get (ci := 12) (v := .ref g15) (C := RX12) (T := TX12) (N := 34) hx hb hts (fun _ h => List.mem_cons_of_mem _ (List.mem_append_right _ h)) hown hK.1 hP 0 rfl rfl 15 (by decide) (hts (.fieldLink RX12 38 "CutAtlasModel" "hasMap" "[Z") (List.mem_of_getElem? (i := 4) rfl)) (fun _ h9 => h9) rfl dB_3_3_41.1.2.1.1 ?_
        refine lv_iload_n hx hb dB_3_3_41.1.2.1.2 rfl (lv_at hl 1 rfl) ?_
        have h_5 : vp_in a1 4 := in_I (by first | with_reducible assumption | omega) (by omega)
        refine va_zald hx hb hK.1 hP 1 2 rfl rfl (i := a1) h_5 dB_3_3_41.1.2.2.1 ?_
        refine lv_topi (fun y_6 ey_6 => ?_)
        have ky_6 : y_6.toInt = (f15 a1.toNatClampNeg).toInt := by rw [ey_6]
        refine lv_if_ne (tgt := 49) hx hb dB_3_3_41.1.2.2.2 (by decide) (fun c_7 => ?_) (fun c_7 => ?_)
        · have t_7 : ¬ y_6.toInt = (0 : Int32).toInt := fun h => c_7 (Int32.toInt_inj.mp h)
          refine lv_iload_n hx hb dB_3_3_41.2.2.1.1 rfl (lv_at hl 2 rfl) ?_
          refine lv_i2l (v := a2.toInt64) hx hb dB_3_3_41.2.2.1.2 rfl ?_
          have q_50 : (a2.toInt64).toInt = a2.toInt := Int32.toInt_toInt64 a2
          refine lv_lconst (v := 0) hx hb dB_3_3_41.2.2.2.1 (by decide) ?_
          refine lv_aload_n hx hb dB_3_3_41.2.2.2.2 rfl (lv_at hl 0 rfl) ?_
          refine va_get (ci := 12) (v := .ref g17) (C := RX12) (T := TX12) (N := 34) hx hb hts (fun _ h => List.mem_cons_of_mem _ (List.mem_append_right _ h)) hown hK.1 hP 0 rfl rfl 17 (by decide) (hts (.fieldLink RX12 44 "CutAtlasModel" "mapRows" "[I") (List.mem_of_getElem? (i := 5) rfl)) (fun _ h9 => h9) rfl dB_3_3_42.1.1.1.1 ?_
          refine lv_iload_n hx hb dB_3_3_42.1.1.1.2 rfl (lv_at hl 1 rfl) ?_
          refine va_iald hx hb hK.1 hP 2 0 rfl rfl (i := a1) h_5 dB_3_3_42.1.1.2.1 ?_
          refine lv_topi (fun y_9 ey_9 => ?_)
          have ky_9 : y_9.toInt = (f17 a1.toNatClampNeg).toInt := by rw [ey_9]
          have ry_9 : 0 ≤ y_9.toInt ∧ y_9.toInt ≤ 6 := by rw [ey_9]; exact r_f17 _ (in_lt h_5)
          refine lv_iconst (v := 1) hx hb dB_3_3_42.1.1.2.2 (by decide) ?_
          refine lv_isub hx hb dB_3_3_42.1.2.1.1 ?_
          refine lv_topi (fun y_10 ey_10 => ?_)
          have ty_10 : y_10.toInt = y_9.toInt - (1 : Int32).toInt := by rw [ey_10]; exact subI (by omega) (by omega)
          refine lv_i2l (v := y_10.toInt64) hx hb dB_3_3_42.1.2.1.2 rfl ?_
          have q_60 : (y_10.toInt64).toInt = y_10.toInt := Int32.toInt_toInt64 y_10
          refine ct_R hP hD [] [] (by decide) rfl (fun hPc hDw => ?_)
          have hFc := va_free (wc := []) hD hS hA [] rfl
          refine va_calli (va_runS (As := [.long a2.toInt64, .long 0, .long y_10.toInt64]) (rest := []) ⟨hx, hb, hml, hown, hts⟩ (c_X12_in l D cy H.size a2.toInt64 (0 : Int64) y_10.toInt64) (va_cwS 3 hts gX12_row_X12_in rfl rfl rfl hd_X12_in ⟨Nat.le_of_ble_eq_true rfl, Nat.le_of_ble_eq_true rfl⟩) ⟨bl_, fun U hU hW => ⟨rfl, by rw [hU], by rw [hU]; exact hPc, kk_mv hW hK, hDw⟩⟩ rfl rfl hl.1 rfl (lv_room (Nat.le_of_ble_eq_true rfl)) dB_3_3_42.1.2.2.1 ⟨Nat.le_of_ble_eq_true rfl, Nat.le_of_ble_eq_true rfl⟩) hS (fun q _ h => hFc q h) hFc (fun r_11 u t H locs ht hvm hw hB hz1 hk1 hS => ?_)
          have hP : va_P D vwCl _ H := ro_keep hP hk1
          rcases hw with ⟨w_12, e_⟩ | ⟨w_12, e_⟩
          · have e_ := e_.symm
            subst e_
            refine lv_if_ne (tgt := 74) hx hb dB_3_3_42.1.2.2.2 (by decide) (fun c_13 => ?_) (fun c_13 => ?_)
            · have _ := c_13
              refine lv_iload_n hx hb dB_3_3_42.2.2.1.1 rfl (lv_at hl 3 rfl) ?_
              refine lv_if_ge (tgt := 85) hx hb dB_3_3_42.2.2.1.2 (by decide) (fun c_14 => ?_) (fun c_14 => ?_)
              · have t_14 : (0 : Int32).toInt ≤ a3.toInt := Int32.le_iff_toInt_le.mp c_14
                refine lv_aload_n hx hb dB_3_3_43.1.1.2.1 rfl (lv_at hl 0 rfl) ?_
                refine va_get (ci := 12) (v := .ref g18) (C := RX12) (T := TX12) (N := 34) hx hb hts (fun _ h => List.mem_cons_of_mem _ (List.mem_append_right _ h)) hown hK.1 hP 0 rfl rfl 18 (by decide) (hts (.fieldLink RX12 47 "CutAtlasModel" "rowSize" "[I") (List.mem_of_getElem? (i := 6) rfl)) (fun _ h9 => h9) rfl dB_3_3_43.1.1.2.2 ?_
                refine lv_bipush (v := 6) hx hb dB_3_3_43.1.2.1.1 (by decide) ?_
                refine lv_iload_n hx hb dB_3_3_43.1.2.1.2 rfl (lv_at hl 1 rfl) ?_
                refine lv_imul hx hb dB_3_3_43.1.2.2.1 ?_
                refine lv_topi (fun y_15 ey_15 => ?_)
                have ty_15 : y_15.toInt = 6 * a1.toInt := by rw [ey_15]; exact mulC (by decide) (by omega) (by omega)
                refine lv_iload_n hx hb dB_3_3_43.1.2.2.2 rfl (lv_at hl 2 rfl) ?_
                refine lv_iadd hx hb dB_3_3_43.2.1.1.1 ?_
                refine lv_topi (fun y_16 ey_16 => ?_)
                have ty_16 : y_16.toInt = y_15.toInt + a2.toInt := by rw [ey_16]; exact addI (by omega) (by omega)
                have hix_ : y_16.toNatClampNeg = (6 * a1.toInt + a2.toInt).toNat := ixn (by omega)
                refine lv_iload_n hx hb dB_3_3_43.2.1.1.2 rfl (lv_at hl 3 rfl) ?_
                have h_17 : vp_in y_16 24 := in_I (by first | with_reducible assumption | omega) (by omega)
                refine va_iast hx hb hK.1 hP hD hS 3 0 rfl rfl (i := y_16) h_17 dB_3_3_43.2.1.2.1 (fun H locs hP hD hS => ?_)
                obtain ⟨f_18, ef_18⟩ : ∃ g : Nat → Int32, g = upd f18 y_16.toNatClampNeg a3 := ⟨_, rfl⟩
                refine pd_K (D := D) (cl := vwCl) (H := H) (A := A) [ob12_0_ mo 0 0 t2 s3 s4 g5 g6 g7 g8 g9 g10 s11 g12 g13 g14 g15 g16 g17 g18 g19 g20 s21 g22 g23 g24 s25 s26 s27 s28 g29 g30 g31 g32 g33, az_ cy g15 4 f15, ai_ cy g17 4 f17, ai_ cy g18 24 f_18, aj_ cy g19 120 f19] (by rw [ef_18]; exact hP) (by rw [ef_18]; exact hD) (fun hP hD => ?_)
                have rf_18 : rng f_18 24 (-9) (5) := by rw [ef_18]; exact rng_upd r_f18 (by omega) (by omega)
                have q18_ : f_18 = upd f18 (6 * a1.toInt + a2.toInt).toNat a3 := by rw [ef_18, hix_]
                have hlk2_ : lok f_18 24 := by rw [q18_]; exact lok_upd hlk (by omega)
                refine lv_iconst (v := 0) hx hb dB_3_3_43.2.1.2.2 (by decide) ?_
                refine lv_istore (lv' := [(4, .int 0), (0, .ref mo), (1, .int a1), (2, .int a2), (3, .int a3)]) hx hb dB_3_3_43.2.2.1.1 hl (by decide) rfl (fun ls hl => ?_)
                suffices LOOP_19 : ∀ (n_19 : Nat) (x4_19 : Int32) (c_g19_19 : Nat → Int64) (H : Heap) (locs : List Loc) (ls : Array Slot), 5 - x4_19.toInt < (n_19 : Int) → (0 ≤ x4_19.toInt) → (x4_19.toInt ≤ 5) → (∀ q : Nat, c_g19_19 q = if 30 * a1.toInt + 5 * a2.toInt ≤ (q : Int) ∧ (q : Int) < 30 * a1.toInt + 5 * a2.toInt + x4_19.toInt then 0 else f19 q) → pd_2 D vwCl A [ob12_0_ mo 0 0 t2 s3 s4 g5 g6 g7 g8 g9 g10 s11 g12 g13 g14 g15 g16 g17 g18 g19 g20 s21 g22 g23 g24 s25 s26 s27 s28 g29 g30 g31 g32 g33, az_ cy g15 4 f15, ai_ cy g17 4 f17, ai_ cy g18 24 f_18, aj_ cy g19 120 c_g19_19] H → va_S A s.heap H locs → lv_has ls 5 [(4, .int x4_19), (0, .ref mo), (1, .int a1), (2, .int a2), (3, .int a3)] → W p l e ({ frames := 1, cells := 0, slots := 0, locals := 25 } : Room) s m (([.ref mo, .int a1, .int a2, .int a3] : List Value).toArray) below meth c H locs 0 0 Q (F0 m 100 ls []) from LOOP_19 ((5 - (0 : Int32).toInt).toNat + 1) (0 : Int32) f19 _ _ _ (by omega) (by first | with_reducible assumption | omega | assumption) (by first | with_reducible assumption | omega | assumption) (by first | exact zero0 | exact zero5 v_none S[q19] (by omega) (by omega) (by omega) (by omega)) ⟨hP, hD⟩ hS (lv_sub hl [0, 1, 2, 3, 4] rfl)
                intro n_19
                induction n_19 with
                | zero =>
                  intro x4_19 c_g19_19 H locs ls hm v0_19 v1_19 v2_19 hPD hS hl; obtain ⟨hP, hD⟩ := hPD
                  exact absurd hm (by omega)
                | succ n_19 ih_19 =>
                  intro x4_19 c_g19_19 H locs ls hm v0_19 v1_19 v2_19 hPD hS hl; obtain ⟨hP, hD⟩ := hPD
                  refine lv_iload hx hb dB_3_3_43.2.2.1.2 (lv_at hl 0 rfl) ?_
                  refine lv_iconst (v := 5) hx hb dB_3_3_43.2.2.2.1 (by decide) ?_
                  refine lv_icmp_ge (tgt := 129) hx hb dB_3_3_43.2.2.2.2 (by decide) (fun c_20 => ?_) (fun c_20 => ?_)
                  · have t_20 : (5 : Int32).toInt ≤ x4_19.toInt := Int32.le_iff_toInt_le.mp c_20
                    have h9_ := zeroE v2_19 (by omega)
                    refine lv_iconst (v := 1) hx hb dB_3_3_44.2.2.2.2 (by decide) ?_
                    rw [hQ]
                    exact W.iret (v := 1) hx hb hr (fun t ht hW => ⟨⟨1, (), rfl, (by first | (have h9 := congrArg Int32.toInt f0__lit; unfold rowRI; (repeat' (first | with_reducible refine if_n (by omega) ?_ | with_reducible refine if_ns (by omega) ?_ | with_reducible refine if_nz (by omega) ?_ | with_reducible exact if_p (by omega) (by omega) | with_reducible exact if_ps (by omega) (by omega) | with_reducible exact if_pz (by omega) (by omega))) <;> omega) | (unfold rowRI; (repeat' (first | with_reducible refine if_n (by omega) ?_ | with_reducible refine if_ns (by omega) ?_ | with_reducible refine if_nz (by omega) ?_ | with_reducible exact if_p (by omega) (by omega) | with_reducible exact if_ps (by omega) (by omega) | with_reducible exact if_pz (by omega) (by omega))) <;> omega)), (0 : Int32), f_18, c_g19_19, (by first | (have h9 := congrArg Int32.toInt hno_; unfold rowRI; (repeat' (first | with_reducible refine if_n (by omega) ?_ | with_reducible refine if_ns (by omega) ?_ | with_reducible refine if_nz (by omega) ?_ | with_reducible exact if_p (by omega) (by omega) | with_reducible exact if_ps (by omega) (by omega) | with_reducible exact if_pz (by omega) (by omega))) <;> omega) | (unfold rowRI; (repeat' (first | with_reducible refine if_n (by omega) ?_ | with_reducible refine if_ns (by omega) ?_ | with_reducible refine if_nz (by omega) ?_ | with_reducible exact if_p (by omega) (by omega) | with_reducible exact if_ps (by omega) (by omega) | with_reducible exact if_pz (by omega) (by omega))) <;> omega)), (by first | exact ⟨fun _ => ⟨rfl, rfl⟩, fun h => absurd h (by first | omega | (have h9_ := congrArg Int32.toInt hno_; omega) | decide)⟩ | exact ⟨fun h => absurd (by first | omega | (have h9_ := congrArg Int32.toInt hno_; omega) | decide) h, fun _ => ⟨q18_, h9_⟩⟩), (by first | exact hlk2_ | exact hlk), (by first | with_reducible assumption | assumption | exact rng_zero (by omega) (by omega) | omega), by rw [ht]; exact hP, hD⟩, hS.F ht⟩) hS.2.2 dB_3_3_45
                  · have t_20 : ¬ (5 : Int32).toInt ≤ x4_19.toInt := fun h => c_20 (Int32.le_iff_toInt_le.mpr h)
                    refine lv_aload_n hx hb dB_3_3_44.1.1.1.1 rfl (lv_at hl 1 rfl) ?_
                    refine va_get (ci := 12) (v := .ref g19) (C := RX12) (T := TX12) (N := 34) hx hb hts (fun _ h => List.mem_cons_of_mem _ (List.mem_append_right _ h)) hown hK.1 hP 0 rfl rfl 19 (by decide) (hts (.fieldLink RX12 50 "CutAtlasModel" "cells" "[J") (List.mem_of_getElem? (i := 7) rfl)) (fun _ h9 => h9) rfl dB_3_3_44.1.1.1.2 ?_
                    refine lv_bipush (v := 30) hx hb dB_3_3_44.1.1.2.1 (by decide) ?_
                    refine lv_iload_n hx hb dB_3_3_44.1.1.2.2 rfl (lv_at hl 2 rfl) ?_
                    refine lv_imul hx hb dB_3_3_44.1.2.1.1 ?_
                    refine lv_topi (fun y_21 ey_21 => ?_)
                    have ty_21 : y_21.toInt = 30 * a1.toInt := by rw [ey_21]; exact mulC (by decide) (by omega) (by omega)
                    refine lv_iconst (v := 5) hx hb dB_3_3_44.1.2.1.2 (by decide) ?_
                    refine lv_iload_n hx hb dB_3_3_44.1.2.2.1 rfl (lv_at hl 3 rfl) ?_
                    refine lv_imul hx hb dB_3_3_44.1.2.2.2 ?_
                    refine lv_topi (fun y_22 ey_22 => ?_)
                    have ty_22 : y_22.toInt = 5 * a2.toInt := by rw [ey_22]; exact mulC (by decide) (by omega) (by omega)
                    refine lv_iadd hx hb dB_3_3_44.2.1.1.1 ?_
                    refine lv_topi (fun y_23 ey_23 => ?_)
                    have ty_23 : y_23.toInt = y_21.toInt + y_22.toInt := by rw [ey_23]; exact addI (by omega) (by omega)
                    refine lv_iload hx hb dB_3_3_44.2.1.1.2 (lv_at hl 0 rfl) ?_
                    refine lv_iadd hx hb dB_3_3_44.2.1.2.1 ?_
                    refine lv_topi (fun y_24 ey_24 => ?_)
                    have ty_24 : y_24.toInt = y_23.toInt + x4_19.toInt := by rw [ey_24]; exact addI (by omega) (by omega)
                    refine lv_lconst (v := 0) hx hb dB_3_3_44.2.1.2.2 (by decide) ?_
                    have h_25 : vp_in y_24 120 := in_I (by first | with_reducible assumption | omega) (by omega)
                    refine va_last hx hb hK.1 hP hD hS 4 1 rfl rfl (i := y_24) h_25 dB_3_3_44.2.2.1.1 (fun H locs hP hD hS => ?_)
                    obtain ⟨f_26, ef_26⟩ : ∃ g : Nat → Int64, g = vp_updL c_g19_19 y_24.toNatClampNeg (0 : Int64) := ⟨_, rfl⟩
                    refine pd_K (D := D) (cl := vwCl) (H := H) (A := A) [ob12_0_ mo 0 0 t2 s3 s4 g5 g6 g7 g8 g9 g10 s11 g12 g13 g14 g15 g16 g17 g18 g19 g20 s21 g22 g23 g24 s25 s26 s27 s28 g29 g30 g31 g32 g33, az_ cy g15 4 f15, ai_ cy g17 4 f17, ai_ cy g18 24 f_18, aj_ cy g19 120 f_26] (by rw [ef_26]; exact hP) (by rw [ef_26]; exact hD) (fun hP hD => ?_)
                    obtain ⟨y_27, ey_27⟩ : ∃ y : Int32, y = x4_19 + 1 := ⟨_, rfl⟩
                    have ty_27 : y_27.toInt = x4_19.toInt + (1 : Int32).toInt := by rw [ey_27]; exact addI (by omega) (by omega)
                    refine lv_iinc (v := y_27) (lv' := [(4, .int y_27), (0, .ref mo), (1, .int a1), (2, .int a2), (3, .int a3)]) hx hb dB_3_3_44.2.2.1.2 hl (k := 0) rfl (by rw [ey_27]; rfl) (by decide) rfl (fun ls hl => ?_)
                    refine lv_goto (tgt := 100) hx hb dB_3_3_44.2.2.2.1 (by decide) ?_
                    exact ih_19 y_27 f_26 _ _ _ (by omega) (by first | with_reducible assumption | omega | assumption) (by first | with_reducible assumption | omega | assumption) (by first | exact zero0 | exact zero5 v2_19 ef_26 (by omega) (by omega) (by omega) (by omega)) ⟨hP, hD⟩ hS (lv_sub hl [0, 1, 2, 3, 4] rfl)
              · have t_14 : ¬ (0 : Int32).toInt ≤ a3.toInt := fun h => c_14 (Int32.le_iff_toInt_le.mpr h)
                refine lv_aload_n hx hb dB_3_3_42.2.2.2.1 rfl (lv_at hl 0 rfl) ?_
                refine lv_bipush (v := (-15)) hx hb dB_3_3_42.2.2.2.2 (by decide) ?_
                refine ct_S hP hD hS hA [ob12_0_ mo 0 0 t2 s3 s4 g5 g6 g7 g8 g9 g10 s11 g12 g13 g14 g15 g16 g17 g18 g19 g20 s21 g22 g23 g24 s25 s26 s27 s28 g29 g30 g31 g32 g33] [0] (by decide) rfl (fun hPc hDw hFc hC_ => ?_)
                refine va_calli (va_runV (As := [.int (-15)]) (rest := []) ⟨hx, hb, hml, hown, hts⟩ (c_X12_no2 l D cy H.size mo g5 g6 g7 g8 g9 g10 g12 g13 g14 g15 g16 g17 g18 g19 g20 g22 g23 g24 g29 g30 g31 g32 g33 (0 : Int32) (0 : Int32) s3 s4 s11 s21 s25 s26 s27 s28 t2 ((-15) : Int32)) (cwV 1 hts gX12_row_X12_no rfl rfl rfl ⟨rfl, hd_X12_no⟩ ⟨Nat.le_of_ble_eq_true rfl, Nat.le_of_ble_eq_true rfl⟩) ⟨bl_, va_recvX hK.1 hP (ci := 12) (q0 := 0) rfl rfl, fun U hU hW => ⟨rfl, by rw [hU], by rw [hU]; exact hPc, kk_mv hW hK, hDw⟩⟩ rfl rfl hl.1 rfl (lv_room (Nat.le_of_ble_eq_true rfl)) dB_3_3_43.1.1.1.1 ⟨Nat.le_of_ble_eq_true rfl, Nat.le_of_ble_eq_true rfl⟩) hS (fun q _ h => hFc q h) hFc (fun r_28 u t H locs ht hvm hw hB hz1 hk1 hS => ?_)
                obtain ⟨n1_29, g_30, hP1, hD1⟩ := hB
                rw [ht] at hP1
                obtain ⟨hP, hD⟩ := va_join (wr := [az_ cy g15 4 f15, ai_ cy g17 4 f17, ai_ cy g18 24 f18, aj_ cy g19 120 f19]) (w1 := [ob12_0_ mo 0 n1_29 t2 s3 s4 g5 g6 g7 g8 g9 g10 s11 g12 g13 g14 g15 g16 g17 g18 g19 g20 s21 g22 g23 g24 s25 s26 s27 s28 g29 g30 g31 g32 g33]) hP hD [0] [1, 2, 3, 4] hC_ rfl (by decide) (by decide) hk1 hFc hP1 hD1
                refine pd_S hP hD [ob12_0_ mo 0 n1_29 t2 s3 s4 g5 g6 g7 g8 g9 g10 s11 g12 g13 g14 g15 g16 g17 g18 g19 g20 s21 g22 g23 g24 s25 s26 s27 s28 g29 g30 g31 g32 g33, az_ cy g15 4 f15, ai_ cy g17 4 f17, ai_ cy g18 24 f18, aj_ cy g19 120 f19] [4, 0, 1, 2, 3] (by decide) rfl (fun hP hD => ?_)
                have f0_r_28 := hw
                have hno_ := g_30
                rw [hQ]
                exact W.iret (v := r_28) hx hb hr (fun t ht hW => ⟨⟨r_28, (), rfl, (by first | (have h9 := congrArg Int32.toInt f0_r_28; unfold rowRI; (repeat' (first | with_reducible refine if_n (by omega) ?_ | with_reducible refine if_ns (by omega) ?_ | with_reducible refine if_nz (by omega) ?_ | with_reducible exact if_p (by omega) (by omega) | with_reducible exact if_ps (by omega) (by omega) | with_reducible exact if_pz (by omega) (by omega))) <;> omega) | (unfold rowRI; (repeat' (first | with_reducible refine if_n (by omega) ?_ | with_reducible refine if_ns (by omega) ?_ | with_reducible refine if_nz (by omega) ?_ | with_reducible exact if_p (by omega) (by omega) | with_reducible exact if_ps (by omega) (by omega) | with_reducible exact if_pz (by omega) (by omega))) <;> omega)), n1_29, f18, f19, (by first | (have h9 := congrArg Int32.toInt hno_; unfold rowRI; (repeat' (first | with_reducible refine if_n (by omega) ?_ | with_reducible refine if_ns (by omega) ?_ | with_reducible refine if_nz (by omega) ?_ | with_reducible exact if_p (by omega) (by omega) | with_reducible exact if_ps (by omega) (by omega) | with_reducible exact if_pz (by omega) (by omega))) <;> omega) | (unfold rowRI; (repeat' (first | with_reducible refine if_n (by omega) ?_ | with_reducible refine if_ns (by omega) ?_ | with_reducible refine if_nz (by omega) ?_ | with_reducible exact if_p (by omega) (by omega) | with_reducible exact if_ps (by omega) (by omega) | with_reducible exact if_pz (by omega) (by omega))) <;> omega)), (by first | exact ⟨fun _ => ⟨rfl, rfl⟩, fun h => absurd h (by first | omega | (have h9_ := congrArg Int32.toInt hno_; omega) | decide)⟩ | exact ⟨fun h => absurd (by first | omega | (have h9_ := congrArg Int32.toInt hno_; omega) | decide) h, fun _ => ⟨q18_, h9_⟩⟩), (by first | exact hlk2_ | exact hlk), (by first | with_reducible assumption | assumption | exact rng_zero (by omega) (by omega) | omega), by rw [ht]; exact hP, hD⟩, hS.F ht⟩) hS.2.2 dB_3_3_43.1.1.1.2
            · exact absurd c_13 (by decide)
          · have e_ := e_.symm
            subst e_
            refine lv_if_ne (tgt := 74) hx hb dB_3_3_42.1.2.2.2 (by decide) (fun c_31 => ?_) (fun c_31 => ?_)
            · exact absurd c_31 (by decide)
            · have _ := c_31
              refine lv_aload_n hx hb dB_3_3_42.2.1.1.1 rfl (lv_at hl 0 rfl) ?_
              refine lv_bipush (v := (-12)) hx hb dB_3_3_42.2.1.1.2 (by decide) ?_
              refine ct_S hP hD hS hA [ob12_0_ mo 0 0 t2 s3 s4 g5 g6 g7 g8 g9 g10 s11 g12 g13 g14 g15 g16 g17 g18 g19 g20 s21 g22 g23 g24 s25 s26 s27 s28 g29 g30 g31 g32 g33] [0] (by decide) rfl (fun hPc hDw hFc hC_ => ?_)
              refine va_calli (va_runV (As := [.int (-12)]) (rest := []) ⟨hx, hb, hml, hown, hts⟩ (c_X12_no2 l D cy H.size mo g5 g6 g7 g8 g9 g10 g12 g13 g14 g15 g16 g17 g18 g19 g20 g22 g23 g24 g29 g30 g31 g32 g33 (0 : Int32) (0 : Int32) s3 s4 s11 s21 s25 s26 s27 s28 t2 ((-12) : Int32)) (cwV 1 hts gX12_row_X12_no rfl rfl rfl ⟨rfl, hd_X12_no⟩ ⟨Nat.le_of_ble_eq_true rfl, Nat.le_of_ble_eq_true rfl⟩) ⟨bl_, va_recvX hK.1 hP (ci := 12) (q0 := 0) rfl rfl, fun U hU hW => ⟨rfl, by rw [hU], by rw [hU]; exact hPc, kk_mv hW hK, hDw⟩⟩ rfl rfl hl.1 rfl (lv_room (Nat.le_of_ble_eq_true rfl)) dB_3_3_42.2.1.2.1 ⟨Nat.le_of_ble_eq_true rfl, Nat.le_of_ble_eq_true rfl⟩) hS (fun q _ h => hFc q h) hFc (fun r_32 u t H locs ht hvm hw hB hz1 hk1 hS => ?_)
              obtain ⟨n1_33, g_34, hP1, hD1⟩ := hB
              rw [ht] at hP1
              obtain ⟨hP, hD⟩ := va_join (wr := [az_ cy g15 4 f15, ai_ cy g17 4 f17, ai_ cy g18 24 f18, aj_ cy g19 120 f19]) (w1 := [ob12_0_ mo 0 n1_33 t2 s3 s4 g5 g6 g7 g8 g9 g10 s11 g12 g13 g14 g15 g16 g17 g18 g19 g20 s21 g22 g23 g24 s25 s26 s27 s28 g29 g30 g31 g32 g33]) hP hD [0] [1, 2, 3, 4] hC_ rfl (by decide) (by decide) hk1 hFc hP1 hD1
              refine pd_S hP hD [ob12_0_ mo 0 n1_33 t2 s3 s4 g5 g6 g7 g8 g9 g10 s11 g12 g13 g14 g15 g16 g17 g18 g19 g20 s21 g22 g23 g24 s25 s26 s27 s28 g29 g30 g31 g32 g33, az_ cy g15 4 f15, ai_ cy g17 4 f17, ai_ cy g18 24 f18, aj_ cy g19 120 f19] [4, 0, 1, 2, 3] (by decide) rfl (fun hP hD => ?_)
              have f0_r_32 := hw
              have hno_ := g_34
              rw [hQ]
              exact W.iret (v := r_32) hx hb hr (fun t ht hW => ⟨⟨r_32, (), rfl, (by first | (have h9 := congrArg Int32.toInt f0_r_32; unfold rowRI; (repeat' (first | with_reducible refine if_n (by omega) ?_ | with_reducible refine if_ns (by omega) ?_ | with_reducible refine if_nz (by omega) ?_ | with_reducible exact if_p (by omega) (by omega) | with_reducible exact if_ps (by omega) (by omega) | with_reducible exact if_pz (by omega) (by omega))) <;> omega) | (unfold rowRI; (repeat' (first | with_reducible refine if_n (by omega) ?_ | with_reducible refine if_ns (by omega) ?_ | with_reducible refine if_nz (by omega) ?_ | with_reducible exact if_p (by omega) (by omega) | with_reducible exact if_ps (by omega) (by omega) | with_reducible exact if_pz (by omega) (by omega))) <;> omega)), n1_33, f18, f19, (by first | (have h9 := congrArg Int32.toInt hno_; unfold rowRI; (repeat' (first | with_reducible refine if_n (by omega) ?_ | with_reducible refine if_ns (by omega) ?_ | with_reducible refine if_nz (by omega) ?_ | with_reducible exact if_p (by omega) (by omega) | with_reducible exact if_ps (by omega) (by omega) | with_reducible exact if_pz (by omega) (by omega))) <;> omega) | (unfold rowRI; (repeat' (first | with_reducible refine if_n (by omega) ?_ | with_reducible refine if_ns (by omega) ?_ | with_reducible refine if_nz (by omega) ?_ | with_reducible exact if_p (by omega) (by omega) | with_reducible exact if_ps (by omega) (by omega) | with_reducible exact if_pz (by omega) (by omega))) <;> omega)), (by first | exact ⟨fun _ => ⟨rfl, rfl⟩, fun h => absurd h (by first | omega | (have h9_ := congrArg Int32.toInt hno_; omega) | decide)⟩ | exact ⟨fun h => absurd (by first | omega | (have h9_ := congrArg Int32.toInt hno_; omega) | decide) h, fun _ => ⟨q18_, h9_⟩⟩), (by first | exact hlk2_ | exact hlk), (by first | with_reducible assumption | assumption | exact rng_zero (by omega) (by omega) | omega), by rw [ht]; exact hP, hD⟩, hS.F ht⟩) hS.2.2 dB_3_3_42.2.1.2.2
        · have t_7 : y_6.toInt = (0 : Int32).toInt := congrArg Int32.toInt c_7
          refine lv_aload_n hx hb dB_3_3_41.2.1.1.1 rfl (lv_at hl 0 rfl) ?_
          refine lv_bipush (v := (-11)) hx hb dB_3_3_41.2.1.1.2 (by decide) ?_
          refine ct_S hP hD hS hA [ob12_0_ mo 0 0 t2 s3 s4 g5 g6 g7 g8 g9 g10 s11 g12 g13 g14 g15 g16 g17 g18 g19 g20 s21 g22 g23 g24 s25 s26 s27 s28 g29 g30 g31 g32 g33] [0] (by decide) rfl (fun hPc hDw hFc hC_ => ?_)
          refine va_calli (va_runV (As := [.int (-11)]) (rest := []) ⟨hx, hb, hml, hown, hts⟩ (c_X12_no2 l D cy H.size mo g5 g6 g7 g8 g9 g10 g12 g13 g14 g15 g16 g17 g18 g19 g20 g22 g23 g24 g29 g30 g31 g32 g33 (0 : Int32) (0 : Int32) s3 s4 s11 s21 s25 s26 s27 s28 t2 ((-11) : Int32)) (cwV 1 hts gX12_row_X12_no rfl rfl rfl ⟨rfl, hd_X12_no⟩ ⟨Nat.le_of_ble_eq_true rfl, Nat.le_of_ble_eq_true rfl⟩) ⟨bl_, va_recvX hK.1 hP (ci := 12) (q0 := 0) rfl rfl, fun U hU hW => ⟨rfl, by rw [hU], by rw [hU]; exact hPc, kk_mv hW hK, hDw⟩⟩ rfl rfl hl.1 rfl (lv_room (Nat.le_of_ble_eq_true rfl)) dB_3_3_41.2.1.2.1 ⟨Nat.le_of_ble_eq_true rfl, Nat.le_of_ble_eq_true rfl⟩) hS (fun q _ h => hFc q h) hFc (fun r_35 u t H locs ht hvm hw hB hz1 hk1 hS => ?_)
          obtain ⟨n1_36, g_37, hP1, hD1⟩ := hB
          rw [ht] at hP1
          obtain ⟨hP, hD⟩ := va_join (wr := [az_ cy g15 4 f15, ai_ cy g17 4 f17, ai_ cy g18 24 f18, aj_ cy g19 120 f19]) (w1 := [ob12_0_ mo 0 n1_36 t2 s3 s4 g5 g6 g7 g8 g9 g10 s11 g12 g13 g14 g15 g16 g17 g18 g19 g20 s21 g22 g23 g24 s25 s26 s27 s28 g29 g30 g31 g32 g33]) hP hD [0] [1, 2, 3, 4] hC_ rfl (by decide) (by decide) hk1 hFc hP1 hD1
          refine pd_S hP hD [ob12_0_ mo 0 n1_36 t2 s3 s4 g5 g6 g7 g8 g9 g10 s11 g12 g13 g14 g15 g16 g17 g18 g19 g20 s21 g22 g23 g24 s25 s26 s27 s28 g29 g30 g31 g32 g33, az_ cy g15 4 f15, ai_ cy g17 4 f17, ai_ cy g18 24 f18, aj_ cy g19 120 f19] [4, 0, 1, 2, 3] (by decide) rfl (fun hP hD => ?_)
          have f0_r_35 := hw
          have hno_ := g_37
          rw [hQ]
          exact W.iret (v := r_35) hx hb hr (fun t ht hW => ⟨⟨r_35, (), rfl, (by first | (have h9 := congrArg Int32.toInt f0_r_35; unfold rowRI; (repeat' (first | with_reducible refine if_n (by omega) ?_ | with_reducible refine if_ns (by omega) ?_ | with_reducible refine if_nz (by omega) ?_ | with_reducible exact if_p (by omega) (by omega) | with_reducible exact if_ps (by omega) (by omega) | with_reducible exact if_pz (by omega) (by omega))) <;> omega) | (unfold rowRI; (repeat' (first | with_reducible refine if_n (by omega) ?_ | with_reducible refine if_ns (by omega) ?_ | with_reducible refine if_nz (by omega) ?_ | with_reducible exact if_p (by omega) (by omega) | with_reducible exact if_ps (by omega) (by omega) | with_reducible exact if_pz (by omega) (by omega))) <;> omega)), n1_36, f18, f19, (by first | (have h9 := congrArg Int32.toInt hno_; unfold rowRI; (repeat' (first | with_reducible refine if_n (by omega) ?_ | with_reducible refine if_ns (by omega) ?_ | with_reducible refine if_nz (by omega) ?_ | with_reducible exact if_p (by omega) (by omega) | with_reducible exact if_ps (by omega) (by omega) | with_reducible exact if_pz (by omega) (by omega))) <;> omega) | (unfold rowRI; (repeat' (first | with_reducible refine if_n (by omega) ?_ | with_reducible refine if_ns (by omega) ?_ | with_reducible refine if_nz (by omega) ?_ | with_reducible exact if_p (by omega) (by omega) | with_reducible exact if_ps (by omega) (by omega) | with_reducible exact if_pz (by omega) (by omega))) <;> omega)), (by first | exact ⟨fun _ => ⟨rfl, rfl⟩, fun h => absurd h (by first | omega | (have h9_ := congrArg Int32.toInt hno_; omega) | decide)⟩ | exact ⟨fun h => absurd (by first | omega | (have h9_ := congrArg Int32.toInt hno_; omega) | decide) h, fun _ => ⟨q18_, h9_⟩⟩), (by first | exact hlk2_ | exact hlk), (by first | with_reducible assumption | assumption | exact rng_zero (by omega) (by omega) | omega), by rw [ht]; exact hP, hD⟩, hS.F ht⟩) hS.2.2 dB_3_3_41.2.1.2.2
      · have t_4 : ¬ a3.toInt ≤ (5 : Int32).toInt := fun h => c_4 (Int32.le_iff_toInt_le.mpr h)
        refine lv_aload_n hx hb dB_3_3_40.2.2.2.2 rfl (lv_at hl 0 rfl) ?_
        refine lv_iconst (v := (-1)) hx hb dB_3_3_41.1.1.1.1 (by decide) ?_
        refine ct_S hP hD hS hA [ob12_0_ mo 0 0 t2 s3 s4 g5 g6 g7 g8 g9 g10 s11 g12 g13 g14 g15 g16 g17 g18 g19 g20 s21 g22 g23 g24 s25 s26 s27 s28 g29 g30 g31 g32 g33] [0] (by decide) rfl (fun hPc hDw hFc hC_ => ?_)
        refine va_calli (va_runV (As := [.int (-1)]) (rest := []) ⟨hx, hb, hml, hown, hts⟩ (c_X12_no2 l D cy H.size mo g5 g6 g7 g8 g9 g10 g12 g13 g14 g15 g16 g17 g18 g19 g20 g22 g23 g24 g29 g30 g31 g32 g33 (0 : Int32) (0 : Int32) s3 s4 s11 s21 s25 s26 s27 s28 t2 ((-1) : Int32)) (cwV 1 hts gX12_row_X12_no rfl rfl rfl ⟨rfl, hd_X12_no⟩ ⟨Nat.le_of_ble_eq_true rfl, Nat.le_of_ble_eq_true rfl⟩) ⟨bl_, va_recvX hK.1 hP (ci := 12) (q0 := 0) rfl rfl, fun U hU hW => ⟨rfl, by rw [hU], by rw [hU]; exact hPc, kk_mv hW hK, hDw⟩⟩ rfl rfl hl.1 rfl (lv_room (Nat.le_of_ble_eq_true rfl)) dB_3_3_41.1.1.1.2 ⟨Nat.le_of_ble_eq_true rfl, Nat.le_of_ble_eq_true rfl⟩) hS (fun q _ h => hFc q h) hFc (fun r_38 u t H locs ht hvm hw hB hz1 hk1 hS => ?_)
        obtain ⟨n1_39, g_40, hP1, hD1⟩ := hB
        rw [ht] at hP1
        obtain ⟨hP, hD⟩ := va_join (wr := [az_ cy g15 4 f15, ai_ cy g17 4 f17, ai_ cy g18 24 f18, aj_ cy g19 120 f19]) (w1 := [ob12_0_ mo 0 n1_39 t2 s3 s4 g5 g6 g7 g8 g9 g10 s11 g12 g13 g14 g15 g16 g17 g18 g19 g20 s21 g22 g23 g24 s25 s26 s27 s28 g29 g30 g31 g32 g33]) hP hD [0] [1, 2, 3, 4] hC_ rfl (by decide) (by decide) hk1 hFc hP1 hD1
        refine pd_S hP hD [ob12_0_ mo 0 n1_39 t2 s3 s4 g5 g6 g7 g8 g9 g10 s11 g12 g13 g14 g15 g16 g17 g18 g19 g20 s21 g22 g23 g24 s25 s26 s27 s28 g29 g30 g31 g32 g33, az_ cy g15 4 f15, ai_ cy g17 4 f17, ai_ cy g18 24 f18, aj_ cy g19 120 f19] [4, 0, 1, 2, 3] (by decide) rfl (fun hP hD => ?_)
        have f0_r_38 := hw
        have hno_ := g_40
        rw [hQ]
        exact W.iret (v := r_38) hx hb hr (fun t ht hW => ⟨⟨r_38, (), rfl, (by first | (have h9 := congrArg Int32.toInt f0_r_38; unfold rowRI; (repeat' (first | with_reducible refine if_n (by omega) ?_ | with_reducible refine if_ns (by omega) ?_ | with_reducible refine if_nz (by omega) ?_ | with_reducible exact if_p (by omega) (by omega) | with_reducible exact if_ps (by omega) (by omega) | with_reducible exact if_pz (by omega) (by omega))) <;> omega) | (unfold rowRI; (repeat' (first | with_reducible refine if_n (by omega) ?_ | with_reducible refine if_ns (by omega) ?_ | with_reducible refine if_nz (by omega) ?_ | with_reducible exact if_p (by omega) (by omega) | with_reducible exact if_ps (by omega) (by omega) | with_reducible exact if_pz (by omega) (by omega))) <;> omega)), n1_39, f18, f19, (by first | (have h9 := congrArg Int32.toInt hno_; unfold rowRI; (repeat' (first | with_reducible refine if_n (by omega) ?_ | with_reducible refine if_ns (by omega) ?_ | with_reducible refine if_nz (by omega) ?_ | with_reducible exact if_p (by omega) (by omega) | with_reducible exact if_ps (by omega) (by omega) | with_reducible exact if_pz (by omega) (by omega))) <;> omega) | (unfold rowRI; (repeat' (first | with_reducible refine if_n (by omega) ?_ | with_reducible refine if_ns (by omega) ?_ | with_reducible refine if_nz (by omega) ?_ | with_reducible exact if_p (by omega) (by omega) | with_reducible exact if_ps (by omega) (by omega) | with_reducible exact if_pz (by omega) (by omega))) <;> omega)), (by first | exact ⟨fun _ => ⟨rfl, rfl⟩, fun h => absurd h (by first | omega | (have h9_ := congrArg Int32.toInt hno_; omega) | decide)⟩ | exact ⟨fun h => absurd (by first | omega | (have h9_ := congrArg Int32.toInt hno_; omega) | decide) h, fun _ => ⟨q18_, h9_⟩⟩), (by first | exact hlk2_ | exact hlk), (by first | with_reducible assumption | assumption | exact rng_zero (by omega) (by omega) | omega), by rw [ht]; exact hP, hD⟩, hS.F ht⟩) hS.2.2 dB_3_3_41.1.1.2.1
  · have e_ := e_.symm
    subst e_
    refine lv_if_eq (tgt := 27) hx hb dB_3_3_40.2.1.2.2 (by decide) (fun c_41 => ?_) (fun c_41 => ?_)
    · have _ := c_41
      refine lv_aload_n hx hb dB_3_3_40.2.2.2.2 rfl (lv_at hl 0 rfl) ?_
      refine lv_iconst (v := (-1)) hx hb dB_3_3_41.1.1.1.1 (by decide) ?_
      refine ct_S hP hD hS hA [ob12_0_ mo 0 0 t2 s3 s4 g5 g6 g7 g8 g9 g10 s11 g12 g13 g14 g15 g16 g17 g18 g19 g20 s21 g22 g23 g24 s25 s26 s27 s28 g29 g30 g31 g32 g33] [0] (by decide) rfl (fun hPc hDw hFc hC_ => ?_)
      refine va_calli (va_runV (As := [.int (-1)]) (rest := []) ⟨hx, hb, hml, hown, hts⟩ (c_X12_no2 l D cy H.size mo g5 g6 g7 g8 g9 g10 g12 g13 g14 g15 g16 g17 g18 g19 g20 g22 g23 g24 g29 g30 g31 g32 g33 (0 : Int32) (0 : Int32) s3 s4 s11 s21 s25 s26 s27 s28 t2 ((-1) : Int32)) (cwV 1 hts gX12_row_X12_no rfl rfl rfl ⟨rfl, hd_X12_no⟩ ⟨Nat.le_of_ble_eq_true rfl, Nat.le_of_ble_eq_true rfl⟩) ⟨bl_, va_recvX hK.1 hP (ci := 12) (q0 := 0) rfl rfl, fun U hU hW => ⟨rfl, by rw [hU], by rw [hU]; exact hPc, kk_mv hW hK, hDw⟩⟩ rfl rfl hl.1 rfl (lv_room (Nat.le_of_ble_eq_true rfl)) dB_3_3_41.1.1.1.2 ⟨Nat.le_of_ble_eq_true rfl, Nat.le_of_ble_eq_true rfl⟩) hS (fun q _ h => hFc q h) hFc (fun r_42 u t H locs ht hvm hw hB hz1 hk1 hS => ?_)
      obtain ⟨n1_43, g_44, hP1, hD1⟩ := hB
      rw [ht] at hP1
      obtain ⟨hP, hD⟩ := va_join (wr := [az_ cy g15 4 f15, ai_ cy g17 4 f17, ai_ cy g18 24 f18, aj_ cy g19 120 f19]) (w1 := [ob12_0_ mo 0 n1_43 t2 s3 s4 g5 g6 g7 g8 g9 g10 s11 g12 g13 g14 g15 g16 g17 g18 g19 g20 s21 g22 g23 g24 s25 s26 s27 s28 g29 g30 g31 g32 g33]) hP hD [0] [1, 2, 3, 4] hC_ rfl (by decide) (by decide) hk1 hFc hP1 hD1
      refine pd_S hP hD [ob12_0_ mo 0 n1_43 t2 s3 s4 g5 g6 g7 g8 g9 g10 s11 g12 g13 g14 g15 g16 g17 g18 g19 g20 s21 g22 g23 g24 s25 s26 s27 s28 g29 g30 g31 g32 g33, az_ cy g15 4 f15, ai_ cy g17 4 f17, ai_ cy g18 24 f18, aj_ cy g19 120 f19] [4, 0, 1, 2, 3] (by decide) rfl (fun hP hD => ?_)
      have f0_r_42 := hw
      have hno_ := g_44
      rw [hQ]
      exact W.iret (v := r_42) hx hb hr (fun t ht hW => ⟨⟨r_42, (), rfl, (by first | (have h9 := congrArg Int32.toInt f0_r_42; unfold rowRI; (repeat' (first | with_reducible refine if_n (by omega) ?_ | with_reducible refine if_ns (by omega) ?_ | with_reducible refine if_nz (by omega) ?_ | with_reducible exact if_p (by omega) (by omega) | with_reducible exact if_ps (by omega) (by omega) | with_reducible exact if_pz (by omega) (by omega))) <;> omega) | (unfold rowRI; (repeat' (first | with_reducible refine if_n (by omega) ?_ | with_reducible refine if_ns (by omega) ?_ | with_reducible refine if_nz (by omega) ?_ | with_reducible exact if_p (by omega) (by omega) | with_reducible exact if_ps (by omega) (by omega) | with_reducible exact if_pz (by omega) (by omega))) <;> omega)), n1_43, f18, f19, (by first | (have h9 := congrArg Int32.toInt hno_; unfold rowRI; (repeat' (first | with_reducible refine if_n (by omega) ?_ | with_reducible refine if_ns (by omega) ?_ | with_reducible refine if_nz (by omega) ?_ | with_reducible exact if_p (by omega) (by omega) | with_reducible exact if_ps (by omega) (by omega) | with_reducible exact if_pz (by omega) (by omega))) <;> omega) | (unfold rowRI; (repeat' (first | with_reducible refine if_n (by omega) ?_ | with_reducible refine if_ns (by omega) ?_ | with_reducible refine if_nz (by omega) ?_ | with_reducible exact if_p (by omega) (by omega) | with_reducible exact if_ps (by omega) (by omega) | with_reducible exact if_pz (by omega) (by omega))) <;> omega)), (by first | exact ⟨fun _ => ⟨rfl, rfl⟩, fun h => absurd h (by first | omega | (have h9_ := congrArg Int32.toInt hno_; omega) | decide)⟩ | exact ⟨fun h => absurd (by first | omega | (have h9_ := congrArg Int32.toInt hno_; omega) | decide) h, fun _ => ⟨q18_, h9_⟩⟩), (by first | exact hlk2_ | exact hlk), (by first | with_reducible assumption | assumption | exact rng_zero (by omega) (by omega) | omega), by rw [ht]; exact hP, hD⟩, hS.F ht⟩) hS.2.2 dB_3_3_41.1.1.2.1
    · exact absurd c_41 (by decide)
end

section
set_option maxHeartbeats 4000000 in
set_option maxRecDepth 100000 in
theorem c_X12_put2 (l : Launch) (D : va_G) (cy : Nat → ClassId) (sz : Nat) (mo : Nat) (g5 : Nat) (g6 : Nat) (g7 : Nat) (g8 : Nat) (g9 : Nat) (g10 : Nat) (g12 : Nat) (g13 : Nat) (g14 : Nat) (g15 : Nat) (g16 : Nat) (g17 : Nat) (g18 : Nat) (g19 : Nat) (g20 : Nat) (g22 : Nat) (g23 : Nat) (g24 : Nat) (g29 : Nat) (g30 : Nat) (g31 : Nat) (g32 : Nat) (g33 : Nat) (s0 : Int32) (s1 : Int32) (s3 : Int32) (s4 : Int32) (s11 : Int32) (s21 : Int32) (s25 : Int32) (s26 : Int32) (s27 : Int32) (s28 : Int32) (t2 : Int64) (f15 : Nat → Int32) (f16 : Nat → Int32) (f17 : Nat → Int32) (f18 : Nat → Int32) (f19 : Nat → Int64) (a1 : Int32) (a2 : Int32) (a3 : Int32) (a4 : Int32) (a5 : Int64) (hlk : lok f18 24) (r_f17 : rng f17 4 (0) (6)) (r_f18 : rng f18 24 (-9) (5)) : Met l yX12_put wsX12_put ({ frames := 2, cells := 0, slots := 0, locals := 50 }) (va_Pc [.ref mo, .int a1, .int a2, .int a3, .int a4, .long a5] (fun U => U.heap.size = sz ∧ va_P D vwCl [ob12_0_ mo s0 s1 t2 s3 s4 g5 g6 g7 g8 g9 g10 s11 g12 g13 g14 g15 g16 g17 g18 g19 g20 s21 g22 g23 g24 s25 s26 s27 s28 g29 g30 g31 g32 g33, az_ cy g15 4 f15, ai_ cy g16 4 f16, ai_ cy g17 4 f17, ai_ cy g18 24 f18, aj_ cy g19 120 f19] U.heap ∧ kk_ D cy U ∧ va_D (fun _ => True) [ob12_0_ mo s0 s1 t2 s3 s4 g5 g6 g7 g8 g9 g10 s11 g12 g13 g14 g15 g16 g17 g18 g19 g20 s21 g22 g23 g24 s25 s26 s27 s28 g29 g30 g31 g32 g33, az_ cy g15 4 f15, ai_ cy g16 4 f16, ai_ cy g17 4 f17, ai_ cy g18 24 f18, aj_ cy g19 120 f19])) (va_Qi (fun (r : Int32) (_ : Unit) => (r.toInt = if wrgI a1.toInt a2.toInt a3.toInt a4.toInt (f15 a1.toNatClampNeg).toInt (f16 a1.toNatClampNeg).toInt (f17 a1.toNatClampNeg).toInt (f18 (6 * a1.toInt + a3.toInt).toNat).toInt = 0 then 1 else wrgI a1.toInt a2.toInt a3.toInt a4.toInt (f15 a1.toNatClampNeg).toInt (f16 a1.toNatClampNeg).toInt (f17 a1.toNatClampNeg).toInt (f18 (6 * a1.toInt + a3.toInt).toNat).toInt)) (fun (_ : Unit) (t : State) => ∃ (n1 : Int32), ∃ (e19 : Nat → Int64), (n1.toInt = wrgI a1.toInt a2.toInt a3.toInt a4.toInt (f15 a1.toNatClampNeg).toInt (f16 a1.toNatClampNeg).toInt (f17 a1.toNatClampNeg).toInt (f18 (6 * a1.toInt + a3.toInt).toNat).toInt) ∧ ((n1.toInt ≠ 0 → e19 = f19) ∧ (n1.toInt = 0 → e19 = vp_updL f19 (30 * a1.toInt + 5 * a3.toInt + a4.toInt).toNat (putV a2.toInt a5))) ∧ va_P D vwCl [ob12_0_ mo 0 n1 t2 s3 s4 g5 g6 g7 g8 g9 g10 s11 g12 g13 g14 g15 g16 g17 g18 g19 g20 s21 g22 g23 g24 s25 s26 s27 s28 g29 g30 g31 g32 g33, az_ cy g15 4 f15, ai_ cy g16 4 f16, ai_ cy g17 4 f17, ai_ cy g18 24 f18, aj_ cy g19 120 e19] t.heap ∧ va_D (va_A [ob12_0_ mo s0 s1 t2 s3 s4 g5 g6 g7 g8 g9 g10 s11 g12 g13 g14 g15 g16 g17 g18 g19 g20 s21 g22 g23 g24 s25 s26 s27 s28 g29 g30 g31 g32 g33, az_ cy g15 4 f15, ai_ cy g16 4 f16, ai_ cy g17 4 f17, ai_ cy g18 24 f18, aj_ cy g19 120 f19] sz) [ob12_0_ mo 0 n1 t2 s3 s4 g5 g6 g7 g8 g9 g10 s11 g12 g13 g14 g15 g16 g17 g18 g19 g20 s21 g22 g23 g24 s25 s26 s27 s28 g29 g30 g31 g32 g33, az_ cy g15 4 f15, ai_ cy g16 4 f16, ai_ cy g17 4 f17, ai_ cy g18 24 f18, aj_ cy g19 120 e19]) (va_A [ob12_0_ mo s0 s1 t2 s3 s4 g5 g6 g7 g8 g9 g10 s11 g12 g13 g14 g15 g16 g17 g18 g19 g20 s21 g22 g23 g24 s25 s26 s27 s28 g29 g30 g31 g32 g33, az_ cy g15 4 f15, ai_ cy g16 4 f16, ai_ cy g17 4 f17, ai_ cy g18 24 f18, aj_ cy g19 120 f19] sz)) 0 0 (va_A [ob12_0_ mo s0 s1 t2 s3 s4 g5 g6 g7 g8 g9 g10 s11 g12 g13 g14 g15 g16 g17 g18 g19 g20 s21 g22 g23 g24 s25 s26 s27 s28 g29 g30 g31 g32 g33, az_ cy g15 4 f15, ai_ cy g16 4 f16, ai_ cy g17 4 f17, ai_ cy g18 24 f18, aj_ cy g19 120 f19] sz) := by
  refine ofQ (cc := cX12_put) (maxL := 8) (ret := (some .int)) (by decide) rfl ?_
  intro p e s m args below meth c s₁ Q hQ B hml hv
  obtain ⟨rfl, hsz, hP, hK, hD0⟩ := hv
  have hx := B.exec
  have hb := B.bytes
  have hr := B.returns
  have hts := atoms_spec (ws := wsX12_put) B.pre
  have hown : s.vm.findClass RX12 = some m.cls := by have h_ := findClass_of_methodNamed B.named; exact h_
  have hlocks := B.notSynchronized
  subst hsz
  have hD := hD0.self (sz := s.heap.size)
  generalize hAe : va_A [ob12_0_ mo s0 s1 t2 s3 s4 g5 g6 g7 g8 g9 g10 s11 g12 g13 g14 g15 g16 g17 g18 g19 g20 s21 g22 g23 g24 s25 s26 s27 s28 g29 g30 g31 g32 g33, az_ cy g15 4 f15, ai_ cy g16 4 f16, ai_ cy g17 4 f17, ai_ cy g18 24 f18, aj_ cy g19 120 f19] s.heap.size = A at hD hQ
  have hA : ∀ q : Nat, s.heap.size ≤ q → A q := fun q h => by rw [← hAe]; exact Or.inr h
  have hS : va_S A s.heap s.heap [] := va_S.rf
  have hl := lv_entry ([.ref mo, .int a1, .int a2, .int a3, .int a4, .long a5]) (n := 8) (Nat.le_of_ble_eq_true rfl)
  rw [lg_entry_eq]
  generalize (lg_sl ([.ref mo, .int a1, .int a2, .int a3, .int a4, .long a5]) ++ List.replicate (8 - (lg_sl ([.ref mo, .int a1, .int a2, .int a3, .int a4, .long a5])).length) Slot.unset).toArray = ls at hl ⊢
  have hl : lv_has ls 8 [(0, .ref mo), (1, .int a1), (2, .int a2), (3, .int a3), (4, .int a4), (5, .long a5)] := hl
  have z0 : (0 : Int32).toInt = 0 := by decide
  have z1 : (1 : Int32).toInt = 1 := by decide
  have z5 : (5 : Int32).toInt = 5 := by decide
  have z30 : (30 : Int32).toInt = 30 := by decide
  have zq1 : (1 : Int32).toInt = 1 := by decide
  refine lv_aload_n hx hb dB_3_3_27.1.1.1.1 rfl (lv_at hl 0 rfl) ?_
  refine lv_iconst (v := 0) hx hb dB_3_3_27.1.1.1.2 (by decide) ?_
  refine va_put (ci := 12) (v := .int 0) (ty := .int) (C := RX12) (T := TX12) (N := 34) hx hb hts (fun _ h => List.mem_cons_of_mem _ (List.mem_append_right _ h)) tyX12 tyX12_ok nmX12 hown hK.1 hP hD hS 0 rfl rfl 0 (by decide) (hts (.fieldLink RX12 85 "CutAtlasModel" "thrown" "I") (List.mem_of_getElem? (i := 1) rfl)) (fun _ h9 => h9) rfl (by decide +kernel) rfl rfl (Nat.le_of_ble_eq_true rfl) dB_3_3_27.1.1.2.1 (fun H locs hP hD hS => ?_)
  refine pd_K [ob12_0_ mo 0 s1 t2 s3 s4 g5 g6 g7 g8 g9 g10 s11 g12 g13 g14 g15 g16 g17 g18 g19 g20 s21 g22 g23 g24 s25 s26 s27 s28 g29 g30 g31 g32 g33, az_ cy g15 4 f15, ai_ cy g16 4 f16, ai_ cy g17 4 f17, ai_ cy g18 24 f18, aj_ cy g19 120 f19] hP hD (fun hP hD => ?_)
  refine lv_aload_n hx hb dB_3_3_27.1.1.2.2 rfl (lv_at hl 0 rfl) ?_
  refine lv_iconst (v := 0) hx hb dB_3_3_27.1.2.1.1 (by decide) ?_
  refine va_put (ci := 12) (v := .int 0) (ty := .int) (C := RX12) (T := TX12) (N := 34) hx hb hts (fun _ h => List.mem_cons_of_mem _ (List.mem_append_right _ h)) tyX12 tyX12_ok nmX12 hown hK.1 hP hD hS 0 rfl rfl 1 (by decide) (hts (.fieldLink RX12 240 "CutAtlasModel" "status" "I") (List.mem_of_getElem? (i := 2) rfl)) (fun _ h9 => h9) rfl (by decide +kernel) rfl rfl (Nat.le_of_ble_eq_true rfl) dB_3_3_27.1.2.1.2 (fun H locs hP hD hS => ?_)
  refine pd_K [ob12_0_ mo 0 0 t2 s3 s4 g5 g6 g7 g8 g9 g10 s11 g12 g13 g14 g15 g16 g17 g18 g19 g20 s21 g22 g23 g24 s25 s26 s27 s28 g29 g30 g31 g32 g33, az_ cy g15 4 f15, ai_ cy g16 4 f16, ai_ cy g17 4 f17, ai_ cy g18 24 f18, aj_ cy g19 120 f19] hP hD (fun hP hD => ?_)
  refine lv_aload_n hx hb dB_3_3_27.1.2.2.1 rfl (lv_at hl 0 rfl) ?_
  refine lv_iload_n hx hb dB_3_3_27.1.2.2.2 rfl (lv_at hl 1 rfl) ?_
  refine lv_iload_n hx hb dB_3_3_27.2.1.1.1 rfl (lv_at hl 2 rfl) ?_
  refine lv_iload_n hx hb dB_3_3_27.2.1.1.2 rfl (lv_at hl 3 rfl) ?_
  refine lv_iload hx hb dB_3_3_27.2.1.2.1 (lv_at hl 4 rfl) ?_
  refine ct_R hP hD [ob12_0_ mo 0 0 t2 s3 s4 g5 g6 g7 g8 g9 g10 s11 g12 g13 g14 g15 g16 g17 g18 g19 g20 s21 g22 g23 g24 s25 s26 s27 s28 g29 g30 g31 g32 g33, az_ cy g15 4 f15, ai_ cy g16 4 f16, ai_ cy g17 4 f17, ai_ cy g18 24 f18] [0, 1, 2, 3, 4] (by decide) rfl (fun hPc hDw => ?_)
  have hFc := va_free (wc := []) hD hS hA [] rfl
  refine va_calli (va_runV (As := [.int a1, .int a2, .int a3, .int a4]) (rest := []) ⟨hx, hb, hml, hown, hts⟩ (c_X12_wrong2 l D cy H.size mo g5 g6 g7 g8 g9 g10 g12 g13 g14 g15 g16 g17 g18 g19 g20 g22 g23 g24 g29 g30 g31 g32 g33 (0 : Int32) (0 : Int32) s3 s4 s11 s21 s25 s26 s27 s28 t2 f15 f16 f17 f18 a1 a2 a3 a4 (by first | with_reducible assumption | assumption | omega) (by first | with_reducible assumption | assumption | omega) (by first | with_reducible assumption | assumption | omega)) (cwV 4 hts gX12_put_X12_wrong rfl rfl rfl ⟨rfl, hd_X12_wrong⟩ ⟨Nat.le_of_ble_eq_true rfl, Nat.le_of_ble_eq_true rfl⟩) ⟨bl_, va_recvX hK.1 hP (ci := 12) (q0 := 0) rfl rfl, fun U hU hW => ⟨rfl, by rw [hU], by rw [hU]; exact hPc, kk_mv hW hK, hDw⟩⟩ rfl rfl hl.1 rfl (lv_room (Nat.le_of_ble_eq_true rfl)) dB_3_3_27.2.1.2.2 ⟨Nat.le_of_ble_eq_true rfl, Nat.le_of_ble_eq_true rfl⟩) hS (fun q _ h => hFc q h) hFc (fun r_1 u t H locs ht hvm hw hB hz1 hk1 hS => ?_)
  have hP : va_P D vwCl _ H := ro_keep hP hk1
  obtain ⟨f0_r_1, f1_r_1⟩ := hw
  have hw0_ := f0_r_1
  have hw1_ := f1_r_1
  refine lv_istore (lv' := [(7, .int r_1), (0, .ref mo), (1, .int a1), (2, .int a2), (3, .int a3), (4, .int a4), (5, .long a5)]) hx hb dB_3_3_27.2.2.1.1 hl (by decide) rfl (fun ls hl => ?_)
  refine lv_iload hx hb dB_3_3_27.2.2.1.2 (lv_at hl 0 rfl) ?_
  refine lv_if_ge (tgt := 33) hx hb dB_3_3_27.2.2.2.1 (by decide) (fun c_2 => ?_) (fun c_2 => ?_)
  · have t_2 : (0 : Int32).toInt ≤ r_1.toInt := Int32.le_iff_toInt_le.mp c_2
    refine lv_aload_n hx hb dB_3_3_28.1.1.2.2 rfl (lv_at hl 1 rfl) ?_
    refine va_get (ci := 12) (v := .ref g19) (C := RX12) (T := TX12) (N := 34) hx hb hts (fun _ h => List.mem_cons_of_mem _ (List.mem_append_right _ h)) hown hK.1 hP 0 rfl rfl 19 (by decide) (hts (.fieldLink RX12 50 "CutAtlasModel" "cells" "[J") (List.mem_of_getElem? (i := 3) rfl)) (fun _ h9 => h9) rfl dB_3_3_28.1.2.1.1 ?_
    refine lv_bipush (v := 30) hx hb dB_3_3_28.1.2.1.2 (by decide) ?_
    refine lv_iload_n hx hb dB_3_3_28.1.2.2.1 rfl (lv_at hl 2 rfl) ?_
    refine lv_imul hx hb dB_3_3_28.1.2.2.2 ?_
    refine lv_topi (fun y_3 ey_3 => ?_)
    have ty_3 : y_3.toInt = 30 * a1.toInt := by rw [ey_3]; exact mulC (by decide) (by omega) (by omega)
    refine lv_iconst (v := 5) hx hb dB_3_3_28.2.1.1.1 (by decide) ?_
    refine lv_iload_n hx hb dB_3_3_28.2.1.1.2 rfl (lv_at hl 4 rfl) ?_
    refine lv_imul hx hb dB_3_3_28.2.1.2.1 ?_
    refine lv_topi (fun y_4 ey_4 => ?_)
    have ty_4 : y_4.toInt = 5 * a3.toInt := by rw [ey_4]; exact mulC (by decide) (by omega) (by omega)
    refine lv_iadd hx hb dB_3_3_28.2.1.2.2 ?_
    refine lv_topi (fun y_5 ey_5 => ?_)
    have ty_5 : y_5.toInt = y_3.toInt + y_4.toInt := by rw [ey_5]; exact addI (by omega) (by omega)
    refine lv_iload hx hb dB_3_3_28.2.2.1.1 (lv_at hl 5 rfl) ?_
    refine lv_iadd hx hb dB_3_3_28.2.2.1.2 ?_
    refine lv_topi (fun y_6 ey_6 => ?_)
    have ty_6 : y_6.toInt = y_5.toInt + a4.toInt := by rw [ey_6]; exact addI (by omega) (by omega)
    have hix_ : y_6.toNatClampNeg = (30 * a1.toInt + 5 * a3.toInt + a4.toInt).toNat := ixn (by omega)
    refine lv_iload_n hx hb dB_3_3_28.2.2.2.1 rfl (lv_at hl 3 rfl) ?_
    refine lv_if_ne (tgt := 60) hx hb dB_3_3_28.2.2.2.2 (by decide) (fun c_7 => ?_) (fun c_7 => ?_)
    · have t_7 : ¬ a2.toInt = (0 : Int32).toInt := fun h => c_7 (Int32.toInt_inj.mp h)
      refine lv_iload_n hx hb dB_3_3_29.1.2.1.2 rfl (lv_at hl 3 rfl) ?_
      refine lv_iconst (v := 1) hx hb dB_3_3_29.1.2.2.1 (by decide) ?_
      refine lv_icmp_ne (tgt := 72) hx hb dB_3_3_29.1.2.2.2 (by decide) (fun c_8 => ?_) (fun c_8 => ?_)
      · have t_8 : ¬ a2.toInt = (1 : Int32).toInt := fun h => c_8 (Int32.toInt_inj.mp h)
        refine lv_lload hx hb dB_3_3_29.2.2.1.1 (lv_at hl 6 rfl) ?_
        have h_9 : vp_in y_6 120 := in_I (by first | with_reducible assumption | omega) (by omega)
        refine va_last hx hb hK.1 hP hD hS 5 1 rfl rfl (i := y_6) h_9 dB_3_3_29.2.2.1.2 (fun H locs hP hD hS => ?_)
        obtain ⟨f_10, ef_10⟩ : ∃ g : Nat → Int64, g = vp_updL f19 y_6.toNatClampNeg a5 := ⟨_, rfl⟩
        refine pd_K (D := D) (cl := vwCl) (H := H) (A := A) [ob12_0_ mo 0 0 t2 s3 s4 g5 g6 g7 g8 g9 g10 s11 g12 g13 g14 g15 g16 g17 g18 g19 g20 s21 g22 g23 g24 s25 s26 s27 s28 g29 g30 g31 g32 g33, az_ cy g15 4 f15, ai_ cy g16 4 f16, ai_ cy g17 4 f17, ai_ cy g18 24 f18, aj_ cy g19 120 f_10] (by rw [ef_10]; exact hP) (by rw [ef_10]; exact hD) (fun hP hD => ?_)
        refine lv_iconst (v := 1) hx hb dB_3_3_29.2.2.2.1 (by decide) ?_
        rw [hQ]
        exact W.iret (v := 1) hx hb hr (fun t ht hW => ⟨⟨1, (), rfl, (by first | (rw [if_pos (by omega)]; decide) | (rw [if_neg (by omega), f0__lit]; exact hw0_)), (0 : Int32), f_10, (by first | omega | (rw [hno_]; exact hw0_)), (by first | exact ⟨fun _ => rfl, fun h => absurd h (by first | omega | (have h9_ := congrArg Int32.toInt hno_; omega) | decide)⟩ | exact ⟨fun h => absurd (by first | omega | (have h9_ := congrArg Int32.toInt hno_; omega) | decide) h, fun _ => by first | (rw [ef_10, hix_, putV_0 (k := a2.toInt) (by assumption) (by omega)]; done) | (rw [ef_10, hix_, putV_1 (k := a2.toInt) (by omega)]; done) | (rw [ef_10, hix_, ← putV_2 (k := a2.toInt) (by omega) (by omega)]; done)⟩), by rw [ht]; exact hP, hD⟩, hS.F ht⟩) hS.2.2 dB_3_3_29.2.2.2.2
      · have t_8 : a2.toInt = (1 : Int32).toInt := congrArg Int32.toInt c_8
        refine lv_lload hx hb dB_3_3_29.2.1.1.1 (lv_at hl 6 rfl) ?_
        refine lv_l2i (v := a5.toInt32) hx hb dB_3_3_29.2.1.1.2 rfl ?_
        refine lv_i2l (v := (a5.toInt32).toInt64) hx hb dB_3_3_29.2.1.2.1 rfl ?_
        have q_68 : ((a5.toInt32).toInt64).toInt = (a5.toInt32).toInt := Int32.toInt_toInt64 (a5.toInt32)
        refine lv_goto (tgt := 74) hx hb dB_3_3_29.2.1.2.2 (by decide) ?_
        have h_12 : vp_in y_6 120 := in_I (by first | with_reducible assumption | omega) (by omega)
        refine va_last hx hb hK.1 hP hD hS 5 1 rfl rfl (i := y_6) h_12 dB_3_3_29.2.2.1.2 (fun H locs hP hD hS => ?_)
        obtain ⟨f_13, ef_13⟩ : ∃ g : Nat → Int64, g = vp_updL f19 y_6.toNatClampNeg ((a5.toInt32).toInt64) := ⟨_, rfl⟩
        refine pd_K (D := D) (cl := vwCl) (H := H) (A := A) [ob12_0_ mo 0 0 t2 s3 s4 g5 g6 g7 g8 g9 g10 s11 g12 g13 g14 g15 g16 g17 g18 g19 g20 s21 g22 g23 g24 s25 s26 s27 s28 g29 g30 g31 g32 g33, az_ cy g15 4 f15, ai_ cy g16 4 f16, ai_ cy g17 4 f17, ai_ cy g18 24 f18, aj_ cy g19 120 f_13] (by rw [ef_13]; exact hP) (by rw [ef_13]; exact hD) (fun hP hD => ?_)
        refine lv_iconst (v := 1) hx hb dB_3_3_29.2.2.2.1 (by decide) ?_
        rw [hQ]
        exact W.iret (v := 1) hx hb hr (fun t ht hW => ⟨⟨1, (), rfl, (by first | (rw [if_pos (by omega)]; decide) | (rw [if_neg (by omega), f0__lit]; exact hw0_)), (0 : Int32), f_13, (by first | omega | (rw [hno_]; exact hw0_)), (by first | exact ⟨fun _ => rfl, fun h => absurd h (by first | omega | (have h9_ := congrArg Int32.toInt hno_; omega) | decide)⟩ | exact ⟨fun h => absurd (by first | omega | (have h9_ := congrArg Int32.toInt hno_; omega) | decide) h, fun _ => by first | (rw [ef_13, hix_, putV_0 (k := a2.toInt) (by assumption) (by omega)]; done) | (rw [ef_13, hix_, putV_1 (k := a2.toInt) (by omega)]; done) | (rw [ef_13, hix_, ← putV_2 (k := a2.toInt) (by omega) (by omega)]; done)⟩), by rw [ht]; exact hP, hD⟩, hS.F ht⟩) hS.2.2 dB_3_3_29.2.2.2.2
    · have t_7 : a2.toInt = (0 : Int32).toInt := congrArg Int32.toInt c_7
      refine lv_lload hx hb dB_3_3_29.1.1.1.1 (lv_at hl 6 rfl) ?_
      refine lv_l2i (v := a5.toInt32) hx hb dB_3_3_29.1.1.1.2 rfl ?_
      refine lv_i2s (v := (a5.toInt32).toInt16.toInt32) hx hb dB_3_3_29.1.1.2.1 rfl ?_
      refine lv_topi (fun y_15 ey_15 => ?_)
      refine lv_i2l (v := y_15.toInt64) hx hb dB_3_3_29.1.1.2.2 rfl ?_
      have q_56 : (y_15.toInt64).toInt = y_15.toInt := Int32.toInt_toInt64 y_15
      refine lv_goto (tgt := 74) hx hb dB_3_3_29.1.2.1.1 (by decide) ?_
      have h_16 : vp_in y_6 120 := in_I (by first | with_reducible assumption | omega) (by omega)
      refine va_last hx hb hK.1 hP hD hS 5 1 rfl rfl (i := y_6) h_16 dB_3_3_29.2.2.1.2 (fun H locs hP hD hS => ?_)
      obtain ⟨f_17, ef_17⟩ : ∃ g : Nat → Int64, g = vp_updL f19 y_6.toNatClampNeg y_15.toInt64 := ⟨_, rfl⟩
      refine pd_K (D := D) (cl := vwCl) (H := H) (A := A) [ob12_0_ mo 0 0 t2 s3 s4 g5 g6 g7 g8 g9 g10 s11 g12 g13 g14 g15 g16 g17 g18 g19 g20 s21 g22 g23 g24 s25 s26 s27 s28 g29 g30 g31 g32 g33, az_ cy g15 4 f15, ai_ cy g16 4 f16, ai_ cy g17 4 f17, ai_ cy g18 24 f18, aj_ cy g19 120 f_17] (by rw [ef_17]; exact hP) (by rw [ef_17]; exact hD) (fun hP hD => ?_)
      refine lv_iconst (v := 1) hx hb dB_3_3_29.2.2.2.1 (by decide) ?_
      rw [hQ]
      exact W.iret (v := 1) hx hb hr (fun t ht hW => ⟨⟨1, (), rfl, (by first | (rw [if_pos (by omega)]; decide) | (rw [if_neg (by omega), f0__lit]; exact hw0_)), (0 : Int32), f_17, (by first | omega | (rw [hno_]; exact hw0_)), (by first | exact ⟨fun _ => rfl, fun h => absurd h (by first | omega | (have h9_ := congrArg Int32.toInt hno_; omega) | decide)⟩ | exact ⟨fun h => absurd (by first | omega | (have h9_ := congrArg Int32.toInt hno_; omega) | decide) h, fun _ => by first | (rw [ef_17, hix_, putV_0 (k := a2.toInt) (by assumption) (by omega)]; done) | (rw [ef_17, hix_, putV_1 (k := a2.toInt) (by omega)]; done) | (rw [ef_17, hix_, ← putV_2 (k := a2.toInt) (by omega) (by omega)]; done)⟩), by rw [ht]; exact hP, hD⟩, hS.F ht⟩) hS.2.2 dB_3_3_29.2.2.2.2
  · have t_2 : ¬ (0 : Int32).toInt ≤ r_1.toInt := fun h => c_2 (Int32.le_iff_toInt_le.mpr h)
    refine lv_aload_n hx hb dB_3_3_27.2.2.2.2 rfl (lv_at hl 1 rfl) ?_
    refine lv_iload hx hb dB_3_3_28.1.1.1.1 (lv_at hl 0 rfl) ?_
    refine ct_S hP hD hS hA [ob12_0_ mo 0 0 t2 s3 s4 g5 g6 g7 g8 g9 g10 s11 g12 g13 g14 g15 g16 g17 g18 g19 g20 s21 g22 g23 g24 s25 s26 s27 s28 g29 g30 g31 g32 g33] [0] (by decide) rfl (fun hPc hDw hFc hC_ => ?_)
    refine va_calli (va_runV (As := [.int r_1]) (rest := []) ⟨hx, hb, hml, hown, hts⟩ (c_X12_no2 l D cy H.size mo g5 g6 g7 g8 g9 g10 g12 g13 g14 g15 g16 g17 g18 g19 g20 g22 g23 g24 g29 g30 g31 g32 g33 (0 : Int32) (0 : Int32) s3 s4 s11 s21 s25 s26 s27 s28 t2 r_1) (cwV 1 hts gX12_put_X12_no rfl rfl rfl ⟨rfl, hd_X12_no⟩ ⟨Nat.le_of_ble_eq_true rfl, Nat.le_of_ble_eq_true rfl⟩) ⟨bl_, va_recvX hK.1 hP (ci := 12) (q0 := 0) rfl rfl, fun U hU hW => ⟨rfl, by rw [hU], by rw [hU]; exact hPc, kk_mv hW hK, hDw⟩⟩ rfl rfl hl.1 rfl (lv_room (Nat.le_of_ble_eq_true rfl)) dB_3_3_28.1.1.1.2 ⟨Nat.le_of_ble_eq_true rfl, Nat.le_of_ble_eq_true rfl⟩) hS (fun q _ h => hFc q h) hFc (fun r_18 u t H locs ht hvm hw hB hz1 hk1 hS => ?_)
    obtain ⟨n1_19, g_20, hP1, hD1⟩ := hB
    rw [ht] at hP1
    obtain ⟨hP, hD⟩ := va_join (wr := [az_ cy g15 4 f15, ai_ cy g16 4 f16, ai_ cy g17 4 f17, ai_ cy g18 24 f18, aj_ cy g19 120 f19]) (w1 := [ob12_0_ mo 0 n1_19 t2 s3 s4 g5 g6 g7 g8 g9 g10 s11 g12 g13 g14 g15 g16 g17 g18 g19 g20 s21 g22 g23 g24 s25 s26 s27 s28 g29 g30 g31 g32 g33]) hP hD [0] [1, 2, 3, 4, 5] hC_ rfl (by decide) (by decide) hk1 hFc hP1 hD1
    refine pd_S hP hD [ob12_0_ mo 0 n1_19 t2 s3 s4 g5 g6 g7 g8 g9 g10 s11 g12 g13 g14 g15 g16 g17 g18 g19 g20 s21 g22 g23 g24 s25 s26 s27 s28 g29 g30 g31 g32 g33, az_ cy g15 4 f15, ai_ cy g16 4 f16, ai_ cy g17 4 f17, ai_ cy g18 24 f18, aj_ cy g19 120 f19] [5, 0, 1, 2, 3, 4] (by decide) rfl (fun hP hD => ?_)
    have f0_r_18 := hw
    have hno_ := g_20
    rw [hQ]
    exact W.iret (v := r_18) hx hb hr (fun t ht hW => ⟨⟨r_18, (), rfl, (by first | (rw [if_pos (by omega)]; decide) | (rw [if_neg (by omega), f0_r_18]; exact hw0_)), n1_19, f19, (by first | omega | (rw [hno_]; exact hw0_)), (by first | exact ⟨fun _ => rfl, fun h => absurd h (by first | omega | (have h9_ := congrArg Int32.toInt hno_; omega) | decide)⟩ | exact ⟨fun h => absurd (by first | omega | (have h9_ := congrArg Int32.toInt hno_; omega) | decide) h, fun _ => by first | (rw [ef19, hix_, putV_0 (k := a2.toInt) (by assumption) (by omega)]; done) | (rw [ef19, hix_, putV_1 (k := a2.toInt) (by omega)]; done) | (rw [ef19, hix_, ← putV_2 (k := a2.toInt) (by omega) (by omega)]; done)⟩), by rw [ht]; exact hP, hD⟩, hS.F ht⟩) hS.2.2 dB_3_3_28.1.1.2.1

set_option maxHeartbeats 4000000 in
set_option maxRecDepth 100000 in
theorem c_X12_item2 (l : Launch) (D : va_G) (cy : Nat → ClassId) (sz : Nat) (mo : Nat) (g5 : Nat) (g6 : Nat) (g7 : Nat) (g8 : Nat) (g9 : Nat) (g10 : Nat) (g12 : Nat) (g13 : Nat) (g14 : Nat) (g15 : Nat) (g16 : Nat) (g17 : Nat) (g18 : Nat) (g19 : Nat) (g20 : Nat) (g22 : Nat) (g23 : Nat) (g24 : Nat) (g29 : Nat) (g30 : Nat) (g31 : Nat) (g32 : Nat) (g33 : Nat) (s0 : Int32) (s1 : Int32) (s3 : Int32) (s4 : Int32) (s11 : Int32) (s21 : Int32) (s25 : Int32) (s26 : Int32) (s27 : Int32) (s28 : Int32) (t2 : Int64) (f15 : Nat → Int32) (f16 : Nat → Int32) (f17 : Nat → Int32) (f18 : Nat → Int32) (f19 : Nat → Int64) (a1 : Int32) (a2 : Int32) (a3 : Int32) (a4 : Int32) (hlk : lok f18 24) (r_f17 : rng f17 4 (0) (6)) (r_f18 : rng f18 24 (-9) (5)) : Met l yX12_item wsX12_item ({ frames := 2, cells := 0, slots := 0, locals := 50 }) (va_Pc [.ref mo, .int a1, .int a2, .int a3, .int a4] (fun U => U.heap.size = sz ∧ va_P D vwCl [ob12_0_ mo s0 s1 t2 s3 s4 g5 g6 g7 g8 g9 g10 s11 g12 g13 g14 g15 g16 g17 g18 g19 g20 s21 g22 g23 g24 s25 s26 s27 s28 g29 g30 g31 g32 g33, az_ cy g15 4 f15, ai_ cy g16 4 f16, ai_ cy g17 4 f17, ai_ cy g18 24 f18, aj_ cy g19 120 f19] U.heap ∧ kk_ D cy U ∧ va_D (fun _ => True) [ob12_0_ mo s0 s1 t2 s3 s4 g5 g6 g7 g8 g9 g10 s11 g12 g13 g14 g15 g16 g17 g18 g19 g20 s21 g22 g23 g24 s25 s26 s27 s28 g29 g30 g31 g32 g33, az_ cy g15 4 f15, ai_ cy g16 4 f16, ai_ cy g17 4 f17, ai_ cy g18 24 f18, aj_ cy g19 120 f19])) (va_Ql (fun (r : Int64) (_ : Unit) => ((wrgI a1.toInt a2.toInt a3.toInt a4.toInt (f15 a1.toNatClampNeg).toInt (f16 a1.toNatClampNeg).toInt (f17 a1.toNatClampNeg).toInt (f18 (6 * a1.toInt + a3.toInt).toNat).toInt ≠ 0 → r = 0) ∧ (wrgI a1.toInt a2.toInt a3.toInt a4.toInt (f15 a1.toNatClampNeg).toInt (f16 a1.toNatClampNeg).toInt (f17 a1.toNatClampNeg).toInt (f18 (6 * a1.toInt + a3.toInt).toNat).toInt = 0 → r = f19 (30 * a1.toInt + 5 * a3.toInt + a4.toInt).toNat))) (fun (_ : Unit) (t : State) => ∃ (n1 : Int32), (n1.toInt = wrgI a1.toInt a2.toInt a3.toInt a4.toInt (f15 a1.toNatClampNeg).toInt (f16 a1.toNatClampNeg).toInt (f17 a1.toNatClampNeg).toInt (f18 (6 * a1.toInt + a3.toInt).toNat).toInt) ∧ va_P D vwCl [ob12_0_ mo 0 n1 t2 s3 s4 g5 g6 g7 g8 g9 g10 s11 g12 g13 g14 g15 g16 g17 g18 g19 g20 s21 g22 g23 g24 s25 s26 s27 s28 g29 g30 g31 g32 g33, az_ cy g15 4 f15, ai_ cy g16 4 f16, ai_ cy g17 4 f17, ai_ cy g18 24 f18, aj_ cy g19 120 f19] t.heap ∧ va_D (va_A [ob12_0_ mo s0 s1 t2 s3 s4 g5 g6 g7 g8 g9 g10 s11 g12 g13 g14 g15 g16 g17 g18 g19 g20 s21 g22 g23 g24 s25 s26 s27 s28 g29 g30 g31 g32 g33, az_ cy g15 4 f15, ai_ cy g16 4 f16, ai_ cy g17 4 f17, ai_ cy g18 24 f18, aj_ cy g19 120 f19] sz) [ob12_0_ mo 0 n1 t2 s3 s4 g5 g6 g7 g8 g9 g10 s11 g12 g13 g14 g15 g16 g17 g18 g19 g20 s21 g22 g23 g24 s25 s26 s27 s28 g29 g30 g31 g32 g33, az_ cy g15 4 f15, ai_ cy g16 4 f16, ai_ cy g17 4 f17, ai_ cy g18 24 f18, aj_ cy g19 120 f19]) (va_A [ob12_0_ mo s0 s1 t2 s3 s4 g5 g6 g7 g8 g9 g10 s11 g12 g13 g14 g15 g16 g17 g18 g19 g20 s21 g22 g23 g24 s25 s26 s27 s28 g29 g30 g31 g32 g33, az_ cy g15 4 f15, ai_ cy g16 4 f16, ai_ cy g17 4 f17, ai_ cy g18 24 f18, aj_ cy g19 120 f19] sz)) 0 0 (va_A [ob12_0_ mo s0 s1 t2 s3 s4 g5 g6 g7 g8 g9 g10 s11 g12 g13 g14 g15 g16 g17 g18 g19 g20 s21 g22 g23 g24 s25 s26 s27 s28 g29 g30 g31 g32 g33, az_ cy g15 4 f15, ai_ cy g16 4 f16, ai_ cy g17 4 f17, ai_ cy g18 24 f18, aj_ cy g19 120 f19] sz) := by
  refine ofQ (cc := cX12_item) (maxL := 5) (ret := (some .long)) (by decide) rfl ?_
  intro p e s m args below meth c s₁ Q hQ B hml hv
  obtain ⟨rfl, hsz, hP, hK, hD0⟩ := hv
  have hx := B.exec
  have hb := B.bytes
  have hr := B.returns
  have hts := atoms_spec (ws := wsX12_item) B.pre
  have hown : s.vm.findClass RX12 = some m.cls := by have h_ := findClass_of_methodNamed B.named; exact h_
  have hlocks := B.notSynchronized
  subst hsz
  have hD := hD0.self (sz := s.heap.size)
  generalize hAe : va_A [ob12_0_ mo s0 s1 t2 s3 s4 g5 g6 g7 g8 g9 g10 s11 g12 g13 g14 g15 g16 g17 g18 g19 g20 s21 g22 g23 g24 s25 s26 s27 s28 g29 g30 g31 g32 g33, az_ cy g15 4 f15, ai_ cy g16 4 f16, ai_ cy g17 4 f17, ai_ cy g18 24 f18, aj_ cy g19 120 f19] s.heap.size = A at hD hQ
  have hA : ∀ q : Nat, s.heap.size ≤ q → A q := fun q h => by rw [← hAe]; exact Or.inr h
  have hS : va_S A s.heap s.heap [] := va_S.rf
  have hl := lv_entry ([.ref mo, .int a1, .int a2, .int a3, .int a4]) (n := 5) (Nat.le_of_ble_eq_true rfl)
  rw [lg_entry_eq]
  generalize (lg_sl ([.ref mo, .int a1, .int a2, .int a3, .int a4]) ++ List.replicate (5 - (lg_sl ([.ref mo, .int a1, .int a2, .int a3, .int a4])).length) Slot.unset).toArray = ls at hl ⊢
  have hl : lv_has ls 5 [(0, .ref mo), (1, .int a1), (2, .int a2), (3, .int a3), (4, .int a4)] := hl
  have z0 : (0 : Int32).toInt = 0 := by decide
  have zl0 : (0 : Int64).toInt = 0 := by decide
  have z5 : (5 : Int32).toInt = 5 := by decide
  have z30 : (30 : Int32).toInt = 30 := by decide
  refine lv_aload_n hx hb dB_3_3_20.1.1.1.1 rfl (lv_at hl 0 rfl) ?_
  refine lv_iconst (v := 0) hx hb dB_3_3_20.1.1.1.2 (by decide) ?_
  refine va_put (ci := 12) (v := .int 0) (ty := .int) (C := RX12) (T := TX12) (N := 34) hx hb hts (fun _ h => List.mem_cons_of_mem _ (List.mem_append_right _ h)) tyX12 tyX12_ok nmX12 hown hK.1 hP hD hS 0 rfl rfl 0 (by decide) (hts (.fieldLink RX12 85 "CutAtlasModel" "thrown" "I") (List.mem_of_getElem? (i := 1) rfl)) (fun _ h9 => h9) rfl (by decide +kernel) rfl rfl (Nat.le_of_ble_eq_true rfl) dB_3_3_20.1.1.2.1 (fun H locs hP hD hS => ?_)
  refine pd_K [ob12_0_ mo 0 s1 t2 s3 s4 g5 g6 g7 g8 g9 g10 s11 g12 g13 g14 g15 g16 g17 g18 g19 g20 s21 g22 g23 g24 s25 s26 s27 s28 g29 g30 g31 g32 g33, az_ cy g15 4 f15, ai_ cy g16 4 f16, ai_ cy g17 4 f17, ai_ cy g18 24 f18, aj_ cy g19 120 f19] hP hD (fun hP hD => ?_)
  refine lv_aload_n hx hb dB_3_3_20.1.1.2.2 rfl (lv_at hl 0 rfl) ?_
  refine lv_aload_n hx hb dB_3_3_20.1.2.1.1 rfl (lv_at hl 0 rfl) ?_
  refine lv_iload_n hx hb dB_3_3_20.1.2.1.2 rfl (lv_at hl 1 rfl) ?_
  refine lv_iload_n hx hb dB_3_3_20.1.2.2.1 rfl (lv_at hl 2 rfl) ?_
  refine lv_iload_n hx hb dB_3_3_20.1.2.2.2 rfl (lv_at hl 3 rfl) ?_
  refine lv_iload hx hb dB_3_3_20.2.1.1.1 (lv_at hl 4 rfl) ?_
  refine ct_R hP hD [ob12_0_ mo 0 s1 t2 s3 s4 g5 g6 g7 g8 g9 g10 s11 g12 g13 g14 g15 g16 g17 g18 g19 g20 s21 g22 g23 g24 s25 s26 s27 s28 g29 g30 g31 g32 g33, az_ cy g15 4 f15, ai_ cy g16 4 f16, ai_ cy g17 4 f17, ai_ cy g18 24 f18] [0, 1, 2, 3, 4] (by decide) rfl (fun hPc hDw => ?_)
  have hFc := va_free (wc := []) hD hS hA [] rfl
  refine va_calli (va_runV (As := [.int a1, .int a2, .int a3, .int a4]) (rest := [.ref mo]) ⟨hx, hb, hml, hown, hts⟩ (c_X12_wrong2 l D cy H.size mo g5 g6 g7 g8 g9 g10 g12 g13 g14 g15 g16 g17 g18 g19 g20 g22 g23 g24 g29 g30 g31 g32 g33 (0 : Int32) s1 s3 s4 s11 s21 s25 s26 s27 s28 t2 f15 f16 f17 f18 a1 a2 a3 a4 (by first | with_reducible assumption | assumption | omega) (by first | with_reducible assumption | assumption | omega) (by first | with_reducible assumption | assumption | omega)) (cwV 4 hts gX12_item_X12_wrong rfl rfl rfl ⟨rfl, hd_X12_wrong⟩ ⟨Nat.le_of_ble_eq_true rfl, Nat.le_of_ble_eq_true rfl⟩) ⟨bl_, va_recvX hK.1 hP (ci := 12) (q0 := 0) rfl rfl, fun U hU hW => ⟨rfl, by rw [hU], by rw [hU]; exact hPc, kk_mv hW hK, hDw⟩⟩ rfl rfl hl.1 rfl (lv_room (Nat.le_of_ble_eq_true rfl)) dB_3_3_20.2.1.1.2 ⟨Nat.le_of_ble_eq_true rfl, Nat.le_of_ble_eq_true rfl⟩) hS (fun q _ h => hFc q h) hFc (fun r_1 u t H locs ht hvm hw hB hz1 hk1 hS => ?_)
  have hP : va_P D vwCl _ H := ro_keep hP hk1
  obtain ⟨f0_r_1, f1_r_1⟩ := hw
  have hw0_ := f0_r_1
  have hw1_ := f1_r_1
  refine va_put (ci := 12) (v := .int r_1) (ty := .int) (C := RX12) (T := TX12) (N := 34) hx hb hts (fun _ h => List.mem_cons_of_mem _ (List.mem_append_right _ h)) tyX12 tyX12_ok nmX12 hown hK.1 hP hD hS 0 rfl rfl 1 (by decide) (hts (.fieldLink RX12 240 "CutAtlasModel" "status" "I") (List.mem_of_getElem? (i := 2) rfl)) (fun _ h9 => h9) rfl (by decide +kernel) rfl rfl (Nat.le_of_ble_eq_true rfl) dB_3_3_20.2.1.2.1 (fun H locs hP hD hS => ?_)
  refine pd_K [ob12_0_ mo 0 r_1 t2 s3 s4 g5 g6 g7 g8 g9 g10 s11 g12 g13 g14 g15 g16 g17 g18 g19 g20 s21 g22 g23 g24 s25 s26 s27 s28 g29 g30 g31 g32 g33, az_ cy g15 4 f15, ai_ cy g16 4 f16, ai_ cy g17 4 f17, ai_ cy g18 24 f18, aj_ cy g19 120 f19] hP hD (fun hP hD => ?_)
  refine lv_aload_n hx hb dB_3_3_20.2.1.2.2 rfl (lv_at hl 0 rfl) ?_
  refine va_get (ci := 12) (v := .int r_1) (C := RX12) (T := TX12) (N := 34) hx hb hts (fun _ h => List.mem_cons_of_mem _ (List.mem_append_right _ h)) hown hK.1 hP 0 rfl rfl 1 (by decide) (hts (.fieldLink RX12 240 "CutAtlasModel" "status" "I") (List.mem_of_getElem? (i := 2) rfl)) (fun _ h9 => h9) rfl dB_3_3_20.2.2.1.1 ?_
  refine lv_if_ge (tgt := 29) hx hb dB_3_3_20.2.2.1.2 (by decide) (fun c_2 => ?_) (fun c_2 => ?_)
  · have t_2 : (0 : Int32).toInt ≤ r_1.toInt := Int32.le_iff_toInt_le.mp c_2
    refine lv_aload_n hx hb dB_3_3_21.1.1.1 rfl (lv_at hl 0 rfl) ?_
    refine va_get (ci := 12) (v := .ref g19) (C := RX12) (T := TX12) (N := 34) hx hb hts (fun _ h => List.mem_cons_of_mem _ (List.mem_append_right _ h)) hown hK.1 hP 0 rfl rfl 19 (by decide) (hts (.fieldLink RX12 50 "CutAtlasModel" "cells" "[J") (List.mem_of_getElem? (i := 3) rfl)) (fun _ h9 => h9) rfl dB_3_3_21.1.1.2.1 ?_
    refine lv_bipush (v := 30) hx hb dB_3_3_21.1.1.2.2 (by decide) ?_
    refine lv_iload_n hx hb dB_3_3_21.1.2.1 rfl (lv_at hl 1 rfl) ?_
    refine lv_imul hx hb dB_3_3_21.1.2.2.1 ?_
    refine lv_topi (fun y_3 ey_3 => ?_)
    have ty_3 : y_3.toInt = 30 * a1.toInt := by rw [ey_3]; exact mulC (by decide) (by omega) (by omega)
    refine lv_iconst (v := 5) hx hb dB_3_3_21.1.2.2.2 (by decide) ?_
    refine lv_iload_n hx hb dB_3_3_21.2.1.1 rfl (lv_at hl 3 rfl) ?_
    refine lv_imul hx hb dB_3_3_21.2.1.2.1 ?_
    refine lv_topi (fun y_4 ey_4 => ?_)
    have ty_4 : y_4.toInt = 5 * a3.toInt := by rw [ey_4]; exact mulC (by decide) (by omega) (by omega)
    refine lv_iadd hx hb dB_3_3_21.2.1.2.2 ?_
    refine lv_topi (fun y_5 ey_5 => ?_)
    have ty_5 : y_5.toInt = y_3.toInt + y_4.toInt := by rw [ey_5]; exact addI (by omega) (by omega)
    refine lv_iload hx hb dB_3_3_21.2.2.1.1 (lv_at hl 4 rfl) ?_
    refine lv_iadd hx hb dB_3_3_21.2.2.1.2 ?_
    refine lv_topi (fun y_6 ey_6 => ?_)
    have ty_6 : y_6.toInt = y_5.toInt + a4.toInt := by rw [ey_6]; exact addI (by omega) (by omega)
    have hix_ : y_6.toNatClampNeg = (30 * a1.toInt + 5 * a3.toInt + a4.toInt).toNat := ixn (by omega)
    have h_7 : vp_in y_6 120 := in_I (by first | with_reducible assumption | omega) (by omega)
    refine va_lald hx hb hK.1 hP 5 1 rfl rfl (i := y_6) h_7 dB_3_3_21.2.2.2.1 ?_
    refine lv_topl (fun y_8 ey_8 => ?_)
    rw [hQ]
    exact W.lret (v := y_8) hx hb hr (fun t ht hW => ⟨⟨y_8, (), rfl, (by first | exact ⟨fun _ => rfl, fun h => absurd h (by omega)⟩ | exact ⟨fun h => absurd (by omega) h, fun _ => by rw [ey_8, hix_]⟩), r_1, (by assumption), by rw [ht]; exact hP, hD⟩, hS.F ht⟩) hS.2.2 dB_3_3_21.2.2.2.2
  · have t_2 : ¬ (0 : Int32).toInt ≤ r_1.toInt := fun h => c_2 (Int32.le_iff_toInt_le.mpr h)
    refine lv_lconst (v := 0) hx hb dB_3_3_20.2.2.2.1 (by decide) ?_
    refine lv_goto (tgt := 45) hx hb dB_3_3_20.2.2.2.2 (by decide) ?_
    rw [hQ]
    exact W.lret (v := 0) hx hb hr (fun t ht hW => ⟨⟨0, (), rfl, (by first | exact ⟨fun _ => rfl, fun h => absurd h (by omega)⟩ | exact ⟨fun h => absurd (by omega) h, fun _ => by rw [e_lit, hix_]⟩), r_1, (by assumption), by rw [ht]; exact hP, hD⟩, hS.F ht⟩) hS.2.2 dB_3_3_21.2.2.2.2
end

section
set_option maxHeartbeats 4000000 in
set_option maxRecDepth 100000 in
theorem c_X12_copy2 (l : Launch) (D : va_G) (cy : Nat → ClassId) (sz : Nat) (mo : Nat) (g5 : Nat) (g6 : Nat) (g7 : Nat) (g8 : Nat) (g9 : Nat) (g10 : Nat) (g12 : Nat) (g13 : Nat) (g14 : Nat) (g15 : Nat) (g16 : Nat) (g17 : Nat) (g18 : Nat) (g19 : Nat) (g20 : Nat) (g22 : Nat) (g23 : Nat) (g24 : Nat) (g29 : Nat) (g30 : Nat) (g31 : Nat) (g32 : Nat) (g33 : Nat) (s0 : Int32) (s1 : Int32) (s3 : Int32) (s4 : Int32) (s11 : Int32) (s21 : Int32) (s25 : Int32) (s26 : Int32) (s27 : Int32) (s28 : Int32) (t2 : Int64) (f15 : Nat → Int32) (f17 : Nat → Int32) (f18 : Nat → Int32) (f19 : Nat → Int64) (f20 : Nat → Int64) (a1 : Int32) (a2 : Int32) (a3 : Int32) (a4 : Int32) (a5 : Int32) (a6 : Int32) (hlk : lok f18 24) (r_f17 : rng f17 4 (0) (6)) (r_f18 : rng f18 24 (-9) (5)) : Met l yX12_copy wsX12_copy ({ frames := 1, cells := 0, slots := 0, locals := 25 }) (va_Pc [.ref mo, .int a1, .int a2, .int a3, .int a4, .int a5, .int a6] (fun U => U.heap.size = sz ∧ va_P D vwCl [ob12_0_ mo s0 s1 t2 s3 s4 g5 g6 g7 g8 g9 g10 s11 g12 g13 g14 g15 g16 g17 g18 g19 g20 s21 g22 g23 g24 s25 s26 s27 s28 g29 g30 g31 g32 g33, az_ cy g15 4 f15, ai_ cy g17 4 f17, ai_ cy g18 24 f18, aj_ cy g19 120 f19, aj_ cy g20 5 f20] U.heap ∧ kk_ D cy U ∧ va_D (fun _ => True) [ob12_0_ mo s0 s1 t2 s3 s4 g5 g6 g7 g8 g9 g10 s11 g12 g13 g14 g15 g16 g17 g18 g19 g20 s21 g22 g23 g24 s25 s26 s27 s28 g29 g30 g31 g32 g33, az_ cy g15 4 f15, ai_ cy g17 4 f17, ai_ cy g18 24 f18, aj_ cy g19 120 f19, aj_ cy g20 5 f20])) (va_Qi (fun (r : Int32) (_ : Unit) => (r.toInt = if cpyI a1.toInt a2.toInt a3.toInt a4.toInt a5.toInt a6.toInt (f15 a1.toNatClampNeg).toInt (f17 a1.toNatClampNeg).toInt (f18 (6 * a1.toInt + a2.toInt).toNat).toInt (f18 (6 * a1.toInt + a4.toInt).toNat).toInt = 0 then a6.toInt else cpyI a1.toInt a2.toInt a3.toInt a4.toInt a5.toInt a6.toInt (f15 a1.toNatClampNeg).toInt (f17 a1.toNatClampNeg).toInt (f18 (6 * a1.toInt + a2.toInt).toNat).toInt (f18 (6 * a1.toInt + a4.toInt).toNat).toInt)) (fun (_ : Unit) (t : State) => ∃ (n1 : Int32), ∃ (e19 : Nat → Int64), ∃ (e20 : Nat → Int64), (n1.toInt = cpyI a1.toInt a2.toInt a3.toInt a4.toInt a5.toInt a6.toInt (f15 a1.toNatClampNeg).toInt (f17 a1.toNatClampNeg).toInt (f18 (6 * a1.toInt + a2.toInt).toNat).toInt (f18 (6 * a1.toInt + a4.toInt).toNat).toInt) ∧ ((n1.toInt ≠ 0 → e19 = f19) ∧ (n1.toInt = 0 → ∀ q : Nat, e19 q = if 30 * a1.toInt + 5 * a4.toInt + a5.toInt ≤ (q : Int) ∧ (q : Int) < 30 * a1.toInt + 5 * a4.toInt + a5.toInt + a6.toInt then f19 (30 * a1.toInt + 5 * a2.toInt + a3.toInt + ((q : Int) - (30 * a1.toInt + 5 * a4.toInt + a5.toInt))).toNat else f19 q)) ∧ va_P D vwCl [ob12_0_ mo 0 n1 t2 s3 s4 g5 g6 g7 g8 g9 g10 s11 g12 g13 g14 g15 g16 g17 g18 g19 g20 s21 g22 g23 g24 s25 s26 s27 s28 g29 g30 g31 g32 g33, az_ cy g15 4 f15, ai_ cy g17 4 f17, ai_ cy g18 24 f18, aj_ cy g19 120 e19, aj_ cy g20 5 e20] t.heap ∧ va_D (va_A [ob12_0_ mo s0 s1 t2 s3 s4 g5 g6 g7 g8 g9 g10 s11 g12 g13 g14 g15 g16 g17 g18 g19 g20 s21 g22 g23 g24 s25 s26 s27 s28 g29 g30 g31 g32 g33, az_ cy g15 4 f15, ai_ cy g17 4 f17, ai_ cy g18 24 f18, aj_ cy g19 120 f19, aj_ cy g20 5 f20] sz) [ob12_0_ mo 0 n1 t2 s3 s4 g5 g6 g7 g8 g9 g10 s11 g12 g13 g14 g15 g16 g17 g18 g19 g20 s21 g22 g23 g24 s25 s26 s27 s28 g29 g30 g31 g32 g33, az_ cy g15 4 f15, ai_ cy g17 4 f17, ai_ cy g18 24 f18, aj_ cy g19 120 e19, aj_ cy g20 5 e20]) (va_A [ob12_0_ mo s0 s1 t2 s3 s4 g5 g6 g7 g8 g9 g10 s11 g12 g13 g14 g15 g16 g17 g18 g19 g20 s21 g22 g23 g24 s25 s26 s27 s28 g29 g30 g31 g32 g33, az_ cy g15 4 f15, ai_ cy g17 4 f17, ai_ cy g18 24 f18, aj_ cy g19 120 f19, aj_ cy g20 5 f20] sz)) 0 0 (va_A [ob12_0_ mo s0 s1 t2 s3 s4 g5 g6 g7 g8 g9 g10 s11 g12 g13 g14 g15 g16 g17 g18 g19 g20 s21 g22 g23 g24 s25 s26 s27 s28 g29 g30 g31 g32 g33, az_ cy g15 4 f15, ai_ cy g17 4 f17, ai_ cy g18 24 f18, aj_ cy g19 120 f19, aj_ cy g20 5 f20] sz) := by
  refine ofQ (cc := cX12_copy) (maxL := 10) (ret := (some .int)) (by decide) rfl ?_
  intro p e s m args below meth c s₁ Q hQ B hml hv
  obtain ⟨rfl, hsz, hP, hK, hD0⟩ := hv
  have hx := B.exec
  have hb := B.bytes
  have hr := B.returns
  have hts := atoms_spec (ws := wsX12_copy) B.pre
  have hown : s.vm.findClass RX12 = some m.cls := by have h_ := findClass_of_methodNamed B.named; exact h_
  have hlocks := B.notSynchronized
  subst hsz
  have hD := hD0.self (sz := s.heap.size)
  generalize hAe : va_A [ob12_0_ mo s0 s1 t2 s3 s4 g5 g6 g7 g8 g9 g10 s11 g12 g13 g14 g15 g16 g17 g18 g19 g20 s21 g22 g23 g24 s25 s26 s27 s28 g29 g30 g31 g32 g33, az_ cy g15 4 f15, ai_ cy g17 4 f17, ai_ cy g18 24 f18, aj_ cy g19 120 f19, aj_ cy g20 5 f20] s.heap.size = A at hD hQ
  have hA : ∀ q : Nat, s.heap.size ≤ q → A q := fun q h => by rw [← hAe]; exact Or.inr h
  have hS : va_S A s.heap s.heap [] := va_S.rf
  have hl := lv_entry ([.ref mo, .int a1, .int a2, .int a3, .int a4, .int a5, .int a6]) (n := 10) (Nat.le_of_ble_eq_true rfl)
  rw [lg_entry_eq]
  generalize (lg_sl ([.ref mo, .int a1, .int a2, .int a3, .int a4, .int a5, .int a6]) ++ List.replicate (10 - (lg_sl ([.ref mo, .int a1, .int a2, .int a3, .int a4, .int a5, .int a6])).length) Slot.unset).toArray = ls at hl ⊢
  have hl : lv_has ls 10 [(0, .ref mo), (1, .int a1), (2, .int a2), (3, .int a3), (4, .int a4), (5, .int a5), (6, .int a6)] := hl
  have zm12 : ((-12) : Int32).toInt = -12 := by decide
  have zm11 : ((-11) : Int32).toInt = -11 := by decide
  have zm9 : ((-9) : Int32).toInt = -9 := by decide
  have zm1 : ((-1) : Int32).toInt = -1 := by decide
  have z0 : (0 : Int32).toInt = 0 := by decide
  have zl0 : (0 : Int64).toInt = 0 := by decide
  have z1 : (1 : Int32).toInt = 1 := by decide
  have zl3 : (3 : Int64).toInt = 3 := by decide
  have z5 : (5 : Int32).toInt = 5 := by decide
  have z6 : (6 : Int32).toInt = 6 := by decide
  have z30 : (30 : Int32).toInt = 30 := by decide
  have zq1 : (1 : Int32).toInt = 1 := by decide
  refine lv_aload_n hx hb dB_3_3_6.1.1.1.1 rfl (lv_at hl 0 rfl) ?_
  refine lv_iconst (v := 0) hx hb dB_3_3_6.1.1.1.2 (by decide) ?_
  refine va_put (ci := 12) (v := .int 0) (ty := .int) (C := RX12) (T := TX12) (N := 34) hx hb hts (fun _ h => List.mem_cons_of_mem _ (List.mem_append_right _ h)) tyX12 tyX12_ok nmX12 hown hK.1 hP hD hS 0 rfl rfl 0 (by decide) (hts (.fieldLink RX12 85 "CutAtlasModel" "thrown" "I") (List.mem_of_getElem? (i := 1) rfl)) (fun _ h9 => h9) rfl (by decide +kernel) rfl rfl (Nat.le_of_ble_eq_true rfl) dB_3_3_6.1.1.2.1 (fun H locs hP hD hS => ?_)
  refine pd_K [ob12_0_ mo 0 s1 t2 s3 s4 g5 g6 g7 g8 g9 g10 s11 g12 g13 g14 g15 g16 g17 g18 g19 g20 s21 g22 g23 g24 s25 s26 s27 s28 g29 g30 g31 g32 g33, az_ cy g15 4 f15, ai_ cy g17 4 f17, ai_ cy g18 24 f18, aj_ cy g19 120 f19, aj_ cy g20 5 f20] hP hD (fun hP hD => ?_)
  refine lv_aload_n hx hb dB_3_3_6.1.1.2.2 rfl (lv_at hl 0 rfl) ?_
  refine lv_iconst (v := 0) hx hb dB_3_3_6.1.2.1.1 (by decide) ?_
  refine va_put (ci := 12) (v := .int 0) (ty := .int) (C := RX12) (T := TX12) (N := 34) hx hb hts (fun _ h => List.mem_cons_of_mem _ (List.mem_append_right _ h)) tyX12 tyX12_ok nmX12 hown hK.1 hP hD hS 0 rfl rfl 1 (by decide) (hts (.fieldLink RX12 240 "CutAtlasModel" "status" "I") (List.mem_of_getElem? (i := 2) rfl)) (fun _ h9 => h9) rfl (by decide +kernel) rfl rfl (Nat.le_of_ble_eq_true rfl) dB_3_3_6.1.2.1.2 (fun H locs hP hD hS => ?_)
  refine pd_K [ob12_0_ mo 0 0 t2 s3 s4 g5 g6 g7 g8 g9 g10 s11 g12 g13 g14 g15 g16 g17 g18 g19 g20 s21 g22 g23 g24 s25 s26 s27 s28 g29 g30 g31 g32 g33, az_ cy g15 4 f15, ai_ cy g17 4 f17, ai_ cy g18 24 f18, aj_ cy g19 120 f19, aj_ cy g20 5 f20] hP hD (fun hP hD => ?_)
  refine lv_iload_n hx hb dB_3_3_6.1.2.2.1 rfl (lv_at hl 1 rfl) ?_
  refine lv_i2l (v := a1.toInt64) hx hb dB_3_3_6.1.2.2.2 rfl ?_
  have q_11 : (a1.toInt64).toInt = a1.toInt := Int32.toInt_toInt64 a1
  refine lv_lconst (v := 0) hx hb dB_3_3_6.2.1.1.1 (by decide) ?_
  refine lv_ldc2 (v := 3) hx hb hown (hts (.constantLong RX12 243 (3)) (List.mem_of_getElem? (i := 3) rfl)) dB_3_3_6.2.1.1.2 ?_
  refine ct_R hP hD [] [] (by decide) rfl (fun hPc hDw => ?_)
  have hFc := va_free (wc := []) hD hS hA [] rfl
  refine va_calli (va_runS (As := [.long a1.toInt64, .long 0, .long 3]) (rest := []) ⟨hx, hb, hml, hown, hts⟩ (c_X12_in l D cy H.size a1.toInt64 (0 : Int64) (3 : Int64)) (va_cwS 3 hts gX12_copy_X12_in rfl rfl rfl hd_X12_in ⟨Nat.le_of_ble_eq_true rfl, Nat.le_of_ble_eq_true rfl⟩) ⟨bl_, fun U hU hW => ⟨rfl, by rw [hU], by rw [hU]; exact hPc, kk_mv hW hK, hDw⟩⟩ rfl rfl hl.1 rfl (lv_room (Nat.le_of_ble_eq_true rfl)) dB_3_3_6.2.1.2.1 ⟨Nat.le_of_ble_eq_true rfl, Nat.le_of_ble_eq_true rfl⟩) hS (fun q _ h => hFc q h) hFc (fun r_1 u t H locs ht hvm hw hB hz1 hk1 hS => ?_)
  have hP : va_P D vwCl _ H := ro_keep hP hk1
  rcases hw with ⟨w_2, e_⟩ | ⟨w_2, e_⟩
  · have e_ := e_.symm
    subst e_
    refine lv_if_ne (tgt := 28) hx hb dB_3_3_6.2.1.2.2 (by decide) (fun c_3 => ?_) (fun c_3 => ?_)
    · have _ := c_3
      refine lv_aload_n hx hb dB_3_3_7.1.1.1.1 rfl (lv_at hl 0 rfl) ?_
      refine va_get (ci := 12) (v := .ref g15) (C := RX12) (T := TX12) (N := 34) hx hb hts (fun _ h => List.mem_cons_of_mem _ (List.mem_append_right _ h)) hown hK.1 hP 0 rfl rfl 15 (by decide) (hts (.fieldLink RX12 38 "CutAtlasModel" "hasMap" "[Z") (List.mem_of_getElem? (i := 4) rfl)) (fun _ h9 => h9) rfl dB_3_3_7.1.1.1.2 ?_
      refine lv_iload_n hx hb dB_3_3_7.1.1.2.1 rfl (lv_at hl 1 rfl) ?_
      have h_4 : vp_in a1 4 := in_I (by first | with_reducible assumption | omega) (by omega)
      refine va_zald hx hb hK.1 hP 1 2 rfl rfl (i := a1) h_4 dB_3_3_7.1.1.2.2 ?_
      refine lv_topi (fun y_5 ey_5 => ?_)
      have ky_5 : y_5.toInt = (f15 a1.toNatClampNeg).toInt := by rw [ey_5]
      refine lv_if_ne (tgt := 44) hx hb dB_3_3_7.1.2.1.1 (by decide) (fun c_6 => ?_) (fun c_6 => ?_)
      · have t_6 : ¬ y_5.toInt = (0 : Int32).toInt := fun h => c_6 (Int32.toInt_inj.mp h)
        refine lv_iload_n hx hb dB_3_3_7.2.1.1.2 rfl (lv_at hl 2 rfl) ?_
        refine lv_i2l (v := a2.toInt64) hx hb dB_3_3_7.2.1.2.1 rfl ?_
        have q_45 : (a2.toInt64).toInt = a2.toInt := Int32.toInt_toInt64 a2
        refine lv_lconst (v := 0) hx hb dB_3_3_7.2.1.2.2 (by decide) ?_
        refine lv_aload_n hx hb dB_3_3_7.2.2.1.1 rfl (lv_at hl 0 rfl) ?_
        refine va_get (ci := 12) (v := .ref g17) (C := RX12) (T := TX12) (N := 34) hx hb hts (fun _ h => List.mem_cons_of_mem _ (List.mem_append_right _ h)) hown hK.1 hP 0 rfl rfl 17 (by decide) (hts (.fieldLink RX12 44 "CutAtlasModel" "mapRows" "[I") (List.mem_of_getElem? (i := 5) rfl)) (fun _ h9 => h9) rfl dB_3_3_7.2.2.1.2 ?_
        refine lv_iload_n hx hb dB_3_3_7.2.2.2.1 rfl (lv_at hl 1 rfl) ?_
        refine va_iald hx hb hK.1 hP 2 0 rfl rfl (i := a1) h_4 dB_3_3_7.2.2.2.2 ?_
        refine lv_topi (fun y_8 ey_8 => ?_)
        have ky_8 : y_8.toInt = (f17 a1.toNatClampNeg).toInt := by rw [ey_8]
        have ry_8 : 0 ≤ y_8.toInt ∧ y_8.toInt ≤ 6 := by rw [ey_8]; exact r_f17 _ (in_lt h_4)
        refine lv_iconst (v := 1) hx hb dB_3_3_8.1.1.1.1 (by decide) ?_
        refine lv_isub hx hb dB_3_3_8.1.1.1.2 ?_
        refine lv_topi (fun y_9 ey_9 => ?_)
        have ty_9 : y_9.toInt = y_8.toInt - (1 : Int32).toInt := by rw [ey_9]; exact subI (by omega) (by omega)
        refine lv_i2l (v := y_9.toInt64) hx hb dB_3_3_8.1.1.2.1 rfl ?_
        have q_55 : (y_9.toInt64).toInt = y_9.toInt := Int32.toInt_toInt64 y_9
        refine ct_R hP hD [] [] (by decide) rfl (fun hPc hDw => ?_)
        have hFc := va_free (wc := []) hD hS hA [] rfl
        refine va_calli (va_runS (As := [.long a2.toInt64, .long 0, .long y_9.toInt64]) (rest := []) ⟨hx, hb, hml, hown, hts⟩ (c_X12_in l D cy H.size a2.toInt64 (0 : Int64) y_9.toInt64) (va_cwS 3 hts gX12_copy_X12_in rfl rfl rfl hd_X12_in ⟨Nat.le_of_ble_eq_true rfl, Nat.le_of_ble_eq_true rfl⟩) ⟨bl_, fun U hU hW => ⟨rfl, by rw [hU], by rw [hU]; exact hPc, kk_mv hW hK, hDw⟩⟩ rfl rfl hl.1 rfl (lv_room (Nat.le_of_ble_eq_true rfl)) dB_3_3_8.1.1.2.2 ⟨Nat.le_of_ble_eq_true rfl, Nat.le_of_ble_eq_true rfl⟩) hS (fun q _ h => hFc q h) hFc (fun r_10 u t H locs ht hvm hw hB hz1 hk1 hS => ?_)
        have hP : va_P D vwCl _ H := ro_keep hP hk1
        rcases hw with ⟨w_11, e_⟩ | ⟨w_11, e_⟩
        · have e_ := e_.symm
          subst e_
          refine lv_if_eq (tgt := 81) hx hb dB_3_3_8.1.2.1.1 (by decide) (fun c_12 => ?_) (fun c_12 => ?_)
          · exact absurd c_12 (by decide)
          · have _ := c_12
            refine lv_iload hx hb dB_3_3_8.1.2.1.2 (lv_at hl 4 rfl) ?_
            refine lv_i2l (v := a4.toInt64) hx hb dB_3_3_8.1.2.2.1 rfl ?_
            have q_64 : (a4.toInt64).toInt = a4.toInt := Int32.toInt_toInt64 a4
            refine lv_lconst (v := 0) hx hb dB_3_3_8.1.2.2.2 (by decide) ?_
            refine lv_aload_n hx hb dB_3_3_8.2.1.1.1 rfl (lv_at hl 0 rfl) ?_
            refine va_get (ci := 12) (v := .ref g17) (C := RX12) (T := TX12) (N := 34) hx hb hts (fun _ h => List.mem_cons_of_mem _ (List.mem_append_right _ h)) hown hK.1 hP 0 rfl rfl 17 (by decide) (hts (.fieldLink RX12 44 "CutAtlasModel" "mapRows" "[I") (List.mem_of_getElem? (i := 5) rfl)) (fun _ h9 => h9) rfl dB_3_3_8.2.1.1.2 ?_
            refine lv_iload_n hx hb dB_3_3_8.2.1.2.1 rfl (lv_at hl 1 rfl) ?_
            refine va_iald hx hb hK.1 hP 2 0 rfl rfl (i := a1) h_4 dB_3_3_8.2.1.2.2 ?_
            refine lv_topi (fun y_14 ey_14 => ?_)
            have e_ := (ey_14.trans ey_8.symm).symm
            subst e_
            skip
            refine lv_iconst (v := 1) hx hb dB_3_3_8.2.2.1.1 (by decide) ?_
            refine lv_isub hx hb dB_3_3_8.2.2.1.2 ?_
            refine lv_topi (fun y_15 ey_15 => ?_)
            have e_ := (ey_15.trans ey_9.symm).symm
            subst e_
            refine lv_i2l (v := y_9.toInt64) hx hb dB_3_3_8.2.2.2.1 rfl ?_
            have q_74 : (y_9.toInt64).toInt = y_9.toInt := Int32.toInt_toInt64 y_9
            refine ct_R hP hD [] [] (by decide) rfl (fun hPc hDw => ?_)
            have hFc := va_free (wc := []) hD hS hA [] rfl
            refine va_calli (va_runS (As := [.long a4.toInt64, .long 0, .long y_9.toInt64]) (rest := []) ⟨hx, hb, hml, hown, hts⟩ (c_X12_in l D cy H.size a4.toInt64 (0 : Int64) y_9.toInt64) (va_cwS 3 hts gX12_copy_X12_in rfl rfl rfl hd_X12_in ⟨Nat.le_of_ble_eq_true rfl, Nat.le_of_ble_eq_true rfl⟩) ⟨bl_, fun U hU hW => ⟨rfl, by rw [hU], by rw [hU]; exact hPc, kk_mv hW hK, hDw⟩⟩ rfl rfl hl.1 rfl (lv_room (Nat.le_of_ble_eq_true rfl)) dB_3_3_8.2.2.2.2 ⟨Nat.le_of_ble_eq_true rfl, Nat.le_of_ble_eq_true rfl⟩) hS (fun q _ h => hFc q h) hFc (fun r_16 u t H locs ht hvm hw hB hz1 hk1 hS => ?_)
            have hP : va_P D vwCl _ H := ro_keep hP hk1
            rcases hw with ⟨w_17, e_⟩ | ⟨w_17, e_⟩
            · have e_ := e_.symm
              subst e_
              refine lv_if_ne (tgt := 88) hx hb dB_3_3_9.1.1.1.1 (by decide) (fun c_18 => ?_) (fun c_18 => ?_)
              · have _ := c_18
                refine lv_aload_n hx hb dB_3_3_9.1.2.1.2 rfl (lv_at hl 0 rfl) ?_
                refine va_get (ci := 12) (v := .ref g18) (C := RX12) (T := TX12) (N := 34) hx hb hts (fun _ h => List.mem_cons_of_mem _ (List.mem_append_right _ h)) hown hK.1 hP 0 rfl rfl 18 (by decide) (hts (.fieldLink RX12 47 "CutAtlasModel" "rowSize" "[I") (List.mem_of_getElem? (i := 6) rfl)) (fun _ h9 => h9) rfl dB_3_3_9.1.2.2.1 ?_
                refine lv_bipush (v := 6) hx hb dB_3_3_9.1.2.2.2 (by decide) ?_
                refine lv_iload_n hx hb dB_3_3_9.2.1.1.1 rfl (lv_at hl 1 rfl) ?_
                refine lv_imul hx hb dB_3_3_9.2.1.1.2 ?_
                refine lv_topi (fun y_19 ey_19 => ?_)
                have ty_19 : y_19.toInt = 6 * a1.toInt := by rw [ey_19]; exact mulC (by decide) (by omega) (by omega)
                refine lv_iload_n hx hb dB_3_3_9.2.1.2.1 rfl (lv_at hl 2 rfl) ?_
                refine lv_iadd hx hb dB_3_3_9.2.1.2.2 ?_
                refine lv_topi (fun y_20 ey_20 => ?_)
                have ty_20 : y_20.toInt = y_19.toInt + a2.toInt := by rw [ey_20]; exact addI (by omega) (by omega)
                have hia_ : y_20.toNatClampNeg = (6 * a1.toInt + a2.toInt).toNat := ixn (by omega)
                have hla_ := hlk y_20.toNatClampNeg (by rw [hia_]; omega)
                have h_21 : vp_in y_20 24 := in_I (by first | with_reducible assumption | omega) (by omega)
                refine va_iald hx hb hK.1 hP 3 0 rfl rfl (i := y_20) h_21 dB_3_3_9.2.2.1.1 ?_
                refine lv_topi (fun y_22 ey_22 => ?_)
                have ky_22 : y_22.toInt = (f18 y_20.toNatClampNeg).toInt := by rw [ey_22]
                have ry_22 : -9 ≤ y_22.toInt ∧ y_22.toInt ≤ 5 := by rw [ey_22]; exact r_f18 _ (in_lt h_21)
                have ka_ : y_22.toInt = (f18 (6 * a1.toInt + a2.toInt).toNat).toInt := by rw [ey_22, hia_]
                refine lv_istore (lv' := [(7, .int y_22), (0, .ref mo), (1, .int a1), (2, .int a2), (3, .int a3), (4, .int a4), (5, .int a5), (6, .int a6)]) hx hb dB_3_3_9.2.2.1.2 hl (by decide) rfl (fun ls hl => ?_)
                refine lv_aload_n hx hb dB_3_3_9.2.2.2.1 rfl (lv_at hl 1 rfl) ?_
                refine va_get (ci := 12) (v := .ref g18) (C := RX12) (T := TX12) (N := 34) hx hb hts (fun _ h => List.mem_cons_of_mem _ (List.mem_append_right _ h)) hown hK.1 hP 0 rfl rfl 18 (by decide) (hts (.fieldLink RX12 47 "CutAtlasModel" "rowSize" "[I") (List.mem_of_getElem? (i := 6) rfl)) (fun _ h9 => h9) rfl dB_3_3_9.2.2.2.2 ?_
                refine lv_bipush (v := 6) hx hb dB_3_3_10.1.1.1.1 (by decide) ?_
                refine lv_iload_n hx hb dB_3_3_10.1.1.1.2 rfl (lv_at hl 2 rfl) ?_
                refine lv_imul hx hb dB_3_3_10.1.1.2.1 ?_
                refine lv_topi (fun y_23 ey_23 => ?_)
                have e_ := (ey_23.trans ey_19.symm).symm
                subst e_
                refine lv_iload hx hb dB_3_3_10.1.1.2.2 (lv_at hl 5 rfl) ?_
                refine lv_iadd hx hb dB_3_3_10.1.2.1.1 ?_
                refine lv_topi (fun y_24 ey_24 => ?_)
                have ty_24 : y_24.toInt = y_19.toInt + a4.toInt := by rw [ey_24]; exact addI (by omega) (by omega)
                have hib_ : y_24.toNatClampNeg = (6 * a1.toInt + a4.toInt).toNat := ixn (by omega)
                have hlb_ := hlk y_24.toNatClampNeg (by rw [hib_]; omega)
                have h_25 : vp_in y_24 24 := in_I (by first | with_reducible assumption | omega) (by omega)
                refine va_iald hx hb hK.1 hP 3 0 rfl rfl (i := y_24) h_25 dB_3_3_10.1.2.1.2 ?_
                refine lv_topi (fun y_26 ey_26 => ?_)
                have ky_26 : y_26.toInt = (f18 y_24.toNatClampNeg).toInt := by rw [ey_26]
                have ry_26 : -9 ≤ y_26.toInt ∧ y_26.toInt ≤ 5 := by rw [ey_26]; exact r_f18 _ (in_lt h_25)
                have kb_ : y_26.toInt = (f18 (6 * a1.toInt + a4.toInt).toNat).toInt := by rw [ey_26, hib_]
                refine lv_istore (lv' := [(8, .int y_26), (7, .int y_22), (0, .ref mo), (1, .int a1), (2, .int a2), (3, .int a3), (4, .int a4), (5, .int a5), (6, .int a6)]) hx hb dB_3_3_10.1.2.2.1 hl (by decide) rfl (fun ls hl => ?_)
                refine lv_iload hx hb dB_3_3_10.1.2.2.2 (lv_at hl 1 rfl) ?_
                refine lv_bipush (v := (-9)) hx hb dB_3_3_10.2.1.1.1 (by decide) ?_
                refine lv_icmp_eq (tgt := 129) hx hb dB_3_3_10.2.1.1.2 (by decide) (fun c_27 => ?_) (fun c_27 => ?_)
                · have t_27 : y_22.toInt = ((-9) : Int32).toInt := congrArg Int32.toInt c_27
                  refine lv_aload_n hx hb dB_3_3_10.2.2.1.2 rfl (lv_at hl 2 rfl) ?_
                  refine lv_bipush (v := (-11)) hx hb dB_3_3_10.2.2.2.1 (by decide) ?_
                  refine ct_S hP hD hS hA [ob12_0_ mo 0 0 t2 s3 s4 g5 g6 g7 g8 g9 g10 s11 g12 g13 g14 g15 g16 g17 g18 g19 g20 s21 g22 g23 g24 s25 s26 s27 s28 g29 g30 g31 g32 g33] [0] (by decide) rfl (fun hPc hDw hFc hC_ => ?_)
                  refine va_calli (va_runV (As := [.int (-11)]) (rest := []) ⟨hx, hb, hml, hown, hts⟩ (c_X12_no2 l D cy H.size mo g5 g6 g7 g8 g9 g10 g12 g13 g14 g15 g16 g17 g18 g19 g20 g22 g23 g24 g29 g30 g31 g32 g33 (0 : Int32) (0 : Int32) s3 s4 s11 s21 s25 s26 s27 s28 t2 ((-11) : Int32)) (cwV 1 hts gX12_copy_X12_no rfl rfl rfl ⟨rfl, hd_X12_no⟩ ⟨Nat.le_of_ble_eq_true rfl, Nat.le_of_ble_eq_true rfl⟩) ⟨bl_, va_recvX hK.1 hP (ci := 12) (q0 := 0) rfl rfl, fun U hU hW => ⟨rfl, by rw [hU], by rw [hU]; exact hPc, kk_mv hW hK, hDw⟩⟩ rfl rfl hl.1 rfl (lv_room (Nat.le_of_ble_eq_true rfl)) dB_3_3_10.2.2.2.2 ⟨Nat.le_of_ble_eq_true rfl, Nat.le_of_ble_eq_true rfl⟩) hS (fun q _ h => hFc q h) hFc (fun r_28 u t H locs ht hvm hw hB hz1 hk1 hS => ?_)
                  obtain ⟨n1_29, g_30, hP1, hD1⟩ := hB
                  rw [ht] at hP1
                  obtain ⟨hP, hD⟩ := va_join (wr := [az_ cy g15 4 f15, ai_ cy g17 4 f17, ai_ cy g18 24 f18, aj_ cy g19 120 f19, aj_ cy g20 5 f20]) (w1 := [ob12_0_ mo 0 n1_29 t2 s3 s4 g5 g6 g7 g8 g9 g10 s11 g12 g13 g14 g15 g16 g17 g18 g19 g20 s21 g22 g23 g24 s25 s26 s27 s28 g29 g30 g31 g32 g33]) hP hD [0] [1, 2, 3, 4, 5] hC_ rfl (by decide) (by decide) hk1 hFc hP1 hD1
                  refine pd_S hP hD [ob12_0_ mo 0 n1_29 t2 s3 s4 g5 g6 g7 g8 g9 g10 s11 g12 g13 g14 g15 g16 g17 g18 g19 g20 s21 g22 g23 g24 s25 s26 s27 s28 g29 g30 g31 g32 g33, az_ cy g15 4 f15, ai_ cy g17 4 f17, ai_ cy g18 24 f18, aj_ cy g19 120 f19, aj_ cy g20 5 f20] [5, 0, 1, 2, 3, 4] (by decide) rfl (fun hP hD => ?_)
                  have f0_r_28 := hw
                  have hno_ := g_30
                  rw [hQ]
                  exact W.iret (v := r_28) hx hb hr (fun t ht hW => ⟨⟨r_28, (), rfl, (by first | (have h9 := congrArg Int32.toInt f0_r_28; unfold cpyI; (repeat' (first | with_reducible refine if_n (by omega) ?_ | with_reducible refine if_ns (by omega) ?_ | with_reducible refine if_nz (by omega) ?_ | with_reducible exact if_p (by omega) (by omega) | with_reducible exact if_ps (by omega) (by omega) | with_reducible exact if_pz (by omega) (by omega))) <;> omega) | (unfold cpyI; (repeat' (first | with_reducible refine if_n (by omega) ?_ | with_reducible refine if_ns (by omega) ?_ | with_reducible refine if_nz (by omega) ?_ | with_reducible exact if_p (by omega) (by omega) | with_reducible exact if_ps (by omega) (by omega) | with_reducible exact if_pz (by omega) (by omega))) <;> omega)), n1_29, f19, f20, (by first | (have h9 := congrArg Int32.toInt hno_; unfold cpyI; (repeat' (first | with_reducible refine if_n (by omega) ?_ | with_reducible refine if_ns (by omega) ?_ | with_reducible refine if_nz (by omega) ?_ | with_reducible exact if_p (by omega) (by omega) | with_reducible exact if_ps (by omega) (by omega) | with_reducible exact if_pz (by omega) (by omega))) <;> omega) | (unfold cpyI; (repeat' (first | with_reducible refine if_n (by omega) ?_ | with_reducible refine if_ns (by omega) ?_ | with_reducible refine if_nz (by omega) ?_ | with_reducible exact if_p (by omega) (by omega) | with_reducible exact if_ps (by omega) (by omega) | with_reducible exact if_pz (by omega) (by omega))) <;> omega)), (by first | exact ⟨fun _ => rfl, fun h => absurd h (by first | omega | (have h9_ := congrArg Int32.toInt hno_; omega) | decide)⟩ | exact ⟨fun h => absurd (by first | omega | (have h9_ := congrArg Int32.toInt hno_; omega) | decide) h, fun _ => h9_⟩), by rw [ht]; exact hP, hD⟩, hS.F ht⟩) hS.2.2 dB_3_3_11.1.1.1.1
                · have t_27 : ¬ y_22.toInt = ((-9) : Int32).toInt := fun h => c_27 (Int32.toInt_inj.mp h)
                  refine lv_iload hx hb dB_3_3_10.2.1.2.1 (lv_at hl 0 rfl) ?_
                  refine lv_bipush (v := (-9)) hx hb dB_3_3_10.2.1.2.2 (by decide) ?_
                  refine lv_icmp_ne (tgt := 136) hx hb dB_3_3_10.2.2.1.1 (by decide) (fun c_31 => ?_) (fun c_31 => ?_)
                  · have t_31 : ¬ y_26.toInt = ((-9) : Int32).toInt := fun h => c_31 (Int32.toInt_inj.mp h)
                    refine lv_iload_n hx hb dB_3_3_11.1.1.1.2 rfl (lv_at hl 5 rfl) ?_
                    refine lv_iload hx hb dB_3_3_11.1.1.2.1 (lv_at hl 8 rfl) ?_
                    refine lv_iload hx hb dB_3_3_11.1.1.2.2 (lv_at hl 1 rfl) ?_
                    refine ct_R hP hD [] [] (by decide) rfl (fun hPc hDw => ?_)
                    have hFc := va_free (wc := []) hD hS hA [] rfl
                    refine va_calli (va_runS (As := [.int a3, .int a6, .int y_22]) (rest := []) ⟨hx, hb, hml, hown, hts⟩ (c_X12_areThere l D cy H.size a3 a6 y_22) (va_cwS 3 hts gX12_copy_X12_areThere rfl rfl rfl hd_X12_areThere ⟨Nat.le_of_ble_eq_true rfl, Nat.le_of_ble_eq_true rfl⟩) ⟨bl_, fun U hU hW => ⟨rfl, by rw [hU], by rw [hU]; exact hPc, kk_mv hW hK, hDw⟩⟩ rfl rfl hl.1 rfl (lv_room (Nat.le_of_ble_eq_true rfl)) dB_3_3_11.1.2.1.1 ⟨Nat.le_of_ble_eq_true rfl, Nat.le_of_ble_eq_true rfl⟩) hS (fun q _ h => hFc q h) hFc (fun r_32 u t H locs ht hvm hw hB hz1 hk1 hS => ?_)
                    have hP : va_P D vwCl _ H := ro_keep hP hk1
                    rcases hw with ⟨w_33, e_⟩ | ⟨w_33, e_⟩
                    · have e_ := e_.symm
                      subst e_
                      refine lv_if_eq (tgt := 159) hx hb dB_3_3_11.1.2.1.2 (by decide) (fun c_34 => ?_) (fun c_34 => ?_)
                      · exact absurd c_34 (by decide)
                      · have _ := c_34
                        refine lv_iload hx hb dB_3_3_11.1.2.2.1 (lv_at hl 7 rfl) ?_
                        refine lv_iload hx hb dB_3_3_11.1.2.2.2 (lv_at hl 8 rfl) ?_
                        refine lv_iload hx hb dB_3_3_11.2.1.1.1 (lv_at hl 0 rfl) ?_
                        refine ct_R hP hD [] [] (by decide) rfl (fun hPc hDw => ?_)
                        have hFc := va_free (wc := []) hD hS hA [] rfl
                        refine va_calli (va_runS (As := [.int a5, .int a6, .int y_26]) (rest := []) ⟨hx, hb, hml, hown, hts⟩ (c_X12_areThere l D cy H.size a5 a6 y_26) (va_cwS 3 hts gX12_copy_X12_areThere rfl rfl rfl hd_X12_areThere ⟨Nat.le_of_ble_eq_true rfl, Nat.le_of_ble_eq_true rfl⟩) ⟨bl_, fun U hU hW => ⟨rfl, by rw [hU], by rw [hU]; exact hPc, kk_mv hW hK, hDw⟩⟩ rfl rfl hl.1 rfl (lv_room (Nat.le_of_ble_eq_true rfl)) dB_3_3_11.2.1.1.2 ⟨Nat.le_of_ble_eq_true rfl, Nat.le_of_ble_eq_true rfl⟩) hS (fun q _ h => hFc q h) hFc (fun r_35 u t H locs ht hvm hw hB hz1 hk1 hS => ?_)
                        have hP : va_P D vwCl _ H := ro_keep hP hk1
                        rcases hw with ⟨w_36, e_⟩ | ⟨w_36, e_⟩
                        · have e_ := e_.symm
                          subst e_
                          refine lv_if_ne (tgt := 166) hx hb dB_3_3_11.2.1.2.1 (by decide) (fun c_37 => ?_) (fun c_37 => ?_)
                          · have _ := c_37
                            refine lv_iconst (v := 0) hx hb dB_3_3_11.2.2.2.2 (by decide) ?_
                            refine lv_istore (lv' := [(9, .int 0), (8, .int y_26), (7, .int y_22), (0, .ref mo), (1, .int a1), (2, .int a2), (3, .int a3), (4, .int a4), (5, .int a5), (6, .int a6)]) hx hb dB_3_3_12.1.1.1.1 hl (by decide) rfl (fun ls hl => ?_)
                            suffices LOOP_38 : ∀ (n_38 : Nat) (x9_38 : Int32) (c_g20_38 : Nat → Int64) (H : Heap) (locs : List Loc) (ls : Array Slot), a6.toInt - x9_38.toInt < (n_38 : Int) → (0 ≤ x9_38.toInt) → (x9_38.toInt ≤ a6.toInt) → (∀ q : Nat, (q : Int) < x9_38.toInt → c_g20_38 q = f19 (30 * a1.toInt + 5 * a2.toInt + a3.toInt + q).toNat) → pd_2 D vwCl A [ob12_0_ mo 0 0 t2 s3 s4 g5 g6 g7 g8 g9 g10 s11 g12 g13 g14 g15 g16 g17 g18 g19 g20 s21 g22 g23 g24 s25 s26 s27 s28 g29 g30 g31 g32 g33, az_ cy g15 4 f15, ai_ cy g17 4 f17, ai_ cy g18 24 f18, aj_ cy g19 120 f19, aj_ cy g20 5 c_g20_38] H → va_S A s.heap H locs → lv_has ls 10 [(9, .int x9_38), (8, .int y_26), (7, .int y_22), (0, .ref mo), (1, .int a1), (2, .int a2), (3, .int a3), (4, .int a4), (5, .int a5), (6, .int a6)] → W p l e ({ frames := 1, cells := 0, slots := 0, locals := 25 } : Room) s m (([.ref mo, .int a1, .int a2, .int a3, .int a4, .int a5, .int a6] : List Value).toArray) below meth c H locs 0 0 Q (F0 m 169 ls []) from LOOP_38 ((a6.toInt - (0 : Int32).toInt).toNat + 1) (0 : Int32) f20 _ _ _ (by omega) (by first | with_reducible assumption | omega | assumption) (by first | with_reducible assumption | omega | assumption) (by first | exact cpd_st v_none S[q20] S[v20] (by omega) (by omega) (by omega) | (intro q hq; omega)) ⟨hP, hD⟩ hS (lv_sub hl [0, 1, 2, 3, 4, 5, 6, 7, 8, 9] rfl)
                            intro n_38
                            induction n_38 with
                            | zero =>
                              intro x9_38 c_g20_38 H locs ls hm v0_38 v1_38 v2_38 hPD hS hl; obtain ⟨hP, hD⟩ := hPD
                              exact absurd hm (by omega)
                            | succ n_38 ih_38 =>
                              intro x9_38 c_g20_38 H locs ls hm v0_38 v1_38 v2_38 hPD hS hl; obtain ⟨hP, hD⟩ := hPD
                              refine lv_iload hx hb dB_3_3_12.1.1.1.2 (lv_at hl 0 rfl) ?_
                              refine lv_iload hx hb dB_3_3_12.1.1.2.1 (lv_at hl 9 rfl) ?_
                              refine lv_icmp_ge (tgt := 207) hx hb dB_3_3_12.1.1.2.2 (by decide) (fun c_39 => ?_) (fun c_39 => ?_)
                              · have t_39 : a6.toInt ≤ x9_38.toInt := Int32.le_iff_toInt_le.mp c_39
                                have ht_ : ∀ q : Nat, (q : Int) < a6.toInt → c_g20_38 q = f19 (30 * a1.toInt + 5 * a2.toInt + a3.toInt + q).toNat := fun q hq => v2_38 q (by omega)
                                refine lv_iconst (v := 0) hx hb dB_3_3_13.2.1.1.1 (by decide) ?_
                                refine lv_istore (lv' := [(9, .int 0), (8, .int y_26), (7, .int y_22), (0, .ref mo), (1, .int a1), (2, .int a2), (3, .int a3), (4, .int a4), (5, .int a5), (6, .int a6)]) hx hb dB_3_3_13.2.1.1.2 hl (by decide) rfl (fun ls hl => ?_)
                                suffices LOOP_40 : ∀ (n_40 : Nat) (x9_40 : Int32) (c_g19_40 : Nat → Int64) (H : Heap) (locs : List Loc) (ls : Array Slot), a6.toInt - x9_40.toInt < (n_40 : Int) → (0 ≤ x9_40.toInt) → (x9_40.toInt ≤ a6.toInt) → (∀ q : Nat, c_g19_40 q = if 30 * a1.toInt + 5 * a4.toInt + a5.toInt ≤ (q : Int) ∧ (q : Int) < 30 * a1.toInt + 5 * a4.toInt + a5.toInt + x9_40.toInt then f19 (30 * a1.toInt + 5 * a2.toInt + a3.toInt + ((q : Int) - (30 * a1.toInt + 5 * a4.toInt + a5.toInt))).toNat else f19 q) → pd_2 D vwCl A [ob12_0_ mo 0 0 t2 s3 s4 g5 g6 g7 g8 g9 g10 s11 g12 g13 g14 g15 g16 g17 g18 g19 g20 s21 g22 g23 g24 s25 s26 s27 s28 g29 g30 g31 g32 g33, az_ cy g15 4 f15, ai_ cy g17 4 f17, ai_ cy g18 24 f18, aj_ cy g19 120 c_g19_40, aj_ cy g20 5 c_g20_38] H → va_S A s.heap H locs → lv_has ls 10 [(9, .int x9_40), (8, .int y_26), (7, .int y_22), (0, .ref mo), (1, .int a1), (2, .int a2), (3, .int a3), (4, .int a4), (5, .int a5), (6, .int a6)] → W p l e ({ frames := 1, cells := 0, slots := 0, locals := 25 } : Room) s m (([.ref mo, .int a1, .int a2, .int a3, .int a4, .int a5, .int a6] : List Value).toArray) below meth c H locs 0 0 Q (F0 m 210 ls []) from LOOP_40 ((a6.toInt - (0 : Int32).toInt).toNat + 1) (0 : Int32) f19 _ _ _ (by omega) (by first | with_reducible assumption | omega | assumption) (by first | with_reducible assumption | omega | assumption) (by first | exact cpe0 | exact cpe_st ht_ v_none S[q19] S[v19] (by omega) (by omega) (by omega) (by omega) (by omega)) ⟨hP, hD⟩ hS (lv_sub hl [0, 1, 2, 3, 4, 5, 6, 7, 8, 9] rfl)
                                intro n_40
                                induction n_40 with
                                | zero =>
                                  intro x9_40 c_g19_40 H locs ls hm v0_40 v1_40 v2_40 hPD hS hl; obtain ⟨hP, hD⟩ := hPD
                                  exact absurd hm (by omega)
                                | succ n_40 ih_40 =>
                                  intro x9_40 c_g19_40 H locs ls hm v0_40 v1_40 v2_40 hPD hS hl; obtain ⟨hP, hD⟩ := hPD
                                  refine lv_iload hx hb dB_3_3_13.2.1.2.1 (lv_at hl 0 rfl) ?_
                                  refine lv_iload hx hb dB_3_3_13.2.1.2.2 (lv_at hl 9 rfl) ?_
                                  refine lv_icmp_ge (tgt := 250) hx hb dB_3_3_13.2.2.1.1 (by decide) (fun c_41 => ?_) (fun c_41 => ?_)
                                  · have t_41 : a6.toInt ≤ x9_40.toInt := Int32.le_iff_toInt_le.mp c_41
                                    have h9_ : ∀ q : Nat, c_g19_40 q = if 30 * a1.toInt + 5 * a4.toInt + a5.toInt ≤ (q : Int) ∧ (q : Int) < 30 * a1.toInt + 5 * a4.toInt + a5.toInt + a6.toInt then f19 (30 * a1.toInt + 5 * a2.toInt + a3.toInt + ((q : Int) - (30 * a1.toInt + 5 * a4.toInt + a5.toInt))).toNat else f19 q := fun q => by rw [v2_40 q, show x9_40.toInt = a6.toInt by omega]
                                    refine lv_iload hx hb dB_3_3_15.2.1 (lv_at hl 9 rfl) ?_
                                    rw [hQ]
                                    exact W.iret (v := a6) hx hb hr (fun t ht hW => ⟨⟨a6, (), rfl, (by first | (have h9 := congrArg Int32.toInt f0_a6; unfold cpyI; (repeat' (first | with_reducible refine if_n (by omega) ?_ | with_reducible refine if_ns (by omega) ?_ | with_reducible refine if_nz (by omega) ?_ | with_reducible exact if_p (by omega) (by omega) | with_reducible exact if_ps (by omega) (by omega) | with_reducible exact if_pz (by omega) (by omega))) <;> omega) | (unfold cpyI; (repeat' (first | with_reducible refine if_n (by omega) ?_ | with_reducible refine if_ns (by omega) ?_ | with_reducible refine if_nz (by omega) ?_ | with_reducible exact if_p (by omega) (by omega) | with_reducible exact if_ps (by omega) (by omega) | with_reducible exact if_pz (by omega) (by omega))) <;> omega)), (0 : Int32), c_g19_40, c_g20_38, (by first | (have h9 := congrArg Int32.toInt hno_; unfold cpyI; (repeat' (first | with_reducible refine if_n (by omega) ?_ | with_reducible refine if_ns (by omega) ?_ | with_reducible refine if_nz (by omega) ?_ | with_reducible exact if_p (by omega) (by omega) | with_reducible exact if_ps (by omega) (by omega) | with_reducible exact if_pz (by omega) (by omega))) <;> omega) | (unfold cpyI; (repeat' (first | with_reducible refine if_n (by omega) ?_ | with_reducible refine if_ns (by omega) ?_ | with_reducible refine if_nz (by omega) ?_ | with_reducible exact if_p (by omega) (by omega) | with_reducible exact if_ps (by omega) (by omega) | with_reducible exact if_pz (by omega) (by omega))) <;> omega)), (by first | exact ⟨fun _ => rfl, fun h => absurd h (by first | omega | (have h9_ := congrArg Int32.toInt hno_; omega) | decide)⟩ | exact ⟨fun h => absurd (by first | omega | (have h9_ := congrArg Int32.toInt hno_; omega) | decide) h, fun _ => h9_⟩), by rw [ht]; exact hP, hD⟩, hS.F ht⟩) hS.2.2 dB_3_3_15.2.2
                                  · have t_41 : ¬ a6.toInt ≤ x9_40.toInt := fun h => c_41 (Int32.le_iff_toInt_le.mpr h)
                                    refine lv_aload_n hx hb dB_3_3_13.2.2.1.2 rfl (lv_at hl 3 rfl) ?_
                                    refine va_get (ci := 12) (v := .ref g19) (C := RX12) (T := TX12) (N := 34) hx hb hts (fun _ h => List.mem_cons_of_mem _ (List.mem_append_right _ h)) hown hK.1 hP 0 rfl rfl 19 (by decide) (hts (.fieldLink RX12 50 "CutAtlasModel" "cells" "[J") (List.mem_of_getElem? (i := 8) rfl)) (fun _ h9 => h9) rfl dB_3_3_13.2.2.2.1 ?_
                                    refine lv_bipush (v := 30) hx hb dB_3_3_13.2.2.2.2 (by decide) ?_
                                    refine lv_iload_n hx hb dB_3_3_14.1.1.1.1 rfl (lv_at hl 4 rfl) ?_
                                    refine lv_imul hx hb dB_3_3_14.1.1.1.2 ?_
                                    refine lv_topi (fun y_42 ey_42 => ?_)
                                    have ty_42 : y_42.toInt = 30 * a1.toInt := by rw [ey_42]; exact mulC (by decide) (by omega) (by omega)
                                    refine lv_iconst (v := 5) hx hb dB_3_3_14.1.1.2.1 (by decide) ?_
                                    refine lv_iload hx hb dB_3_3_14.1.1.2.2 (lv_at hl 7 rfl) ?_
                                    refine lv_imul hx hb dB_3_3_14.1.2.1.1 ?_
                                    refine lv_topi (fun y_43 ey_43 => ?_)
                                    have ty_43 : y_43.toInt = 5 * a4.toInt := by rw [ey_43]; exact mulC (by decide) (by omega) (by omega)
                                    refine lv_iadd hx hb dB_3_3_14.1.2.1.2 ?_
                                    refine lv_topi (fun y_44 ey_44 => ?_)
                                    have ty_44 : y_44.toInt = y_42.toInt + y_43.toInt := by rw [ey_44]; exact addI (by omega) (by omega)
                                    refine lv_iload hx hb dB_3_3_14.1.2.2.1 (lv_at hl 8 rfl) ?_
                                    refine lv_iadd hx hb dB_3_3_14.1.2.2.2 ?_
                                    refine lv_topi (fun y_45 ey_45 => ?_)
                                    have ty_45 : y_45.toInt = y_44.toInt + a5.toInt := by rw [ey_45]; exact addI (by omega) (by omega)
                                    refine lv_iload hx hb dB_3_3_14.2.1.1.1 (lv_at hl 0 rfl) ?_
                                    refine lv_iadd hx hb dB_3_3_14.2.1.1.2 ?_
                                    refine lv_topi (fun y_46 ey_46 => ?_)
                                    have ty_46 : y_46.toInt = y_45.toInt + x9_40.toInt := by rw [ey_46]; exact addI (by omega) (by omega)
                                    refine lv_aload_n hx hb dB_3_3_14.2.1.2.1 rfl (lv_at hl 3 rfl) ?_
                                    refine va_get (ci := 12) (v := .ref g20) (C := RX12) (T := TX12) (N := 34) hx hb hts (fun _ h => List.mem_cons_of_mem _ (List.mem_append_right _ h)) hown hK.1 hP 0 rfl rfl 20 (by decide) (hts (.fieldLink RX12 54 "CutAtlasModel" "copied" "[J") (List.mem_of_getElem? (i := 7) rfl)) (fun _ h9 => h9) rfl dB_3_3_14.2.1.2.2 ?_
                                    refine lv_iload hx hb dB_3_3_14.2.2.1.1 (lv_at hl 0 rfl) ?_
                                    have h_47 : vp_in x9_40 5 := in_I (by first | with_reducible assumption | omega) (by omega)
                                    refine va_lald hx hb hK.1 hP 5 1 rfl rfl (i := x9_40) h_47 dB_3_3_14.2.2.1.2 ?_
                                    refine lv_topl (fun y_48 ey_48 => ?_)
                                    have h_49 : vp_in y_46 120 := in_I (by first | with_reducible assumption | omega) (by omega)
                                    refine va_last hx hb hK.1 hP hD hS 4 1 rfl rfl (i := y_46) h_49 dB_3_3_14.2.2.2.1 (fun H locs hP hD hS => ?_)
                                    obtain ⟨f_50, ef_50⟩ : ∃ g : Nat → Int64, g = vp_updL c_g19_40 y_46.toNatClampNeg y_48 := ⟨_, rfl⟩
                                    refine pd_K (D := D) (cl := vwCl) (H := H) (A := A) [ob12_0_ mo 0 0 t2 s3 s4 g5 g6 g7 g8 g9 g10 s11 g12 g13 g14 g15 g16 g17 g18 g19 g20 s21 g22 g23 g24 s25 s26 s27 s28 g29 g30 g31 g32 g33, az_ cy g15 4 f15, ai_ cy g17 4 f17, ai_ cy g18 24 f18, aj_ cy g19 120 f_50, aj_ cy g20 5 c_g20_38] (by rw [ef_50]; exact hP) (by rw [ef_50]; exact hD) (fun hP hD => ?_)
                                    obtain ⟨y_51, ey_51⟩ : ∃ y : Int32, y = x9_40 + 1 := ⟨_, rfl⟩
                                    have ty_51 : y_51.toInt = x9_40.toInt + (1 : Int32).toInt := by rw [ey_51]; exact addI (by omega) (by omega)
                                    refine lv_iinc (v := y_51) (lv' := [(9, .int y_51), (8, .int y_26), (7, .int y_22), (0, .ref mo), (1, .int a1), (2, .int a2), (3, .int a3), (4, .int a4), (5, .int a5), (6, .int a6)]) hx hb dB_3_3_14.2.2.2.2 hl (k := 0) rfl (by rw [ey_51]; rfl) (by decide) rfl (fun ls hl => ?_)
                                    refine lv_goto (tgt := 210) hx hb dB_3_3_15.1 (by decide) ?_
                                    exact ih_40 y_51 f_50 _ _ _ (by omega) (by first | with_reducible assumption | omega | assumption) (by first | with_reducible assumption | omega | assumption) (by first | exact cpe0 | exact cpe_st ht_ v2_40 ef_50 ey_48 (by omega) (by omega) (by omega) (by omega) (by omega)) ⟨hP, hD⟩ hS (lv_sub hl [0, 1, 2, 3, 4, 5, 6, 7, 8, 9] rfl)
                              · have t_39 : ¬ a6.toInt ≤ x9_38.toInt := fun h => c_39 (Int32.le_iff_toInt_le.mpr h)
                                refine lv_aload_n hx hb dB_3_3_12.1.2.1.1 rfl (lv_at hl 3 rfl) ?_
                                refine va_get (ci := 12) (v := .ref g20) (C := RX12) (T := TX12) (N := 34) hx hb hts (fun _ h => List.mem_cons_of_mem _ (List.mem_append_right _ h)) hown hK.1 hP 0 rfl rfl 20 (by decide) (hts (.fieldLink RX12 54 "CutAtlasModel" "copied" "[J") (List.mem_of_getElem? (i := 7) rfl)) (fun _ h9 => h9) rfl dB_3_3_12.1.2.1.2 ?_
                                refine lv_iload hx hb dB_3_3_12.1.2.2.1 (lv_at hl 0 rfl) ?_
                                refine lv_aload_n hx hb dB_3_3_12.1.2.2.2 rfl (lv_at hl 3 rfl) ?_
                                refine va_get (ci := 12) (v := .ref g19) (C := RX12) (T := TX12) (N := 34) hx hb hts (fun _ h => List.mem_cons_of_mem _ (List.mem_append_right _ h)) hown hK.1 hP 0 rfl rfl 19 (by decide) (hts (.fieldLink RX12 50 "CutAtlasModel" "cells" "[J") (List.mem_of_getElem? (i := 8) rfl)) (fun _ h9 => h9) rfl dB_3_3_12.2.1.1.1 ?_
                                refine lv_bipush (v := 30) hx hb dB_3_3_12.2.1.1.2 (by decide) ?_
                                refine lv_iload_n hx hb dB_3_3_12.2.1.2.1 rfl (lv_at hl 4 rfl) ?_
                                refine lv_imul hx hb dB_3_3_12.2.1.2.2 ?_
                                refine lv_topi (fun y_52 ey_52 => ?_)
                                have ty_52 : y_52.toInt = 30 * a1.toInt := by rw [ey_52]; exact mulC (by decide) (by omega) (by omega)
                                refine lv_iconst (v := 5) hx hb dB_3_3_12.2.2.1.1 (by decide) ?_
                                refine lv_iload_n hx hb dB_3_3_12.2.2.1.2 rfl (lv_at hl 5 rfl) ?_
                                refine lv_imul hx hb dB_3_3_12.2.2.2.1 ?_
                                refine lv_topi (fun y_53 ey_53 => ?_)
                                have ty_53 : y_53.toInt = 5 * a2.toInt := by rw [ey_53]; exact mulC (by decide) (by omega) (by omega)
                                refine lv_iadd hx hb dB_3_3_12.2.2.2.2 ?_
                                refine lv_topi (fun y_54 ey_54 => ?_)
                                have ty_54 : y_54.toInt = y_52.toInt + y_53.toInt := by rw [ey_54]; exact addI (by omega) (by omega)
                                refine lv_iload_n hx hb dB_3_3_13.1.1.1.1 rfl (lv_at hl 6 rfl) ?_
                                refine lv_iadd hx hb dB_3_3_13.1.1.1.2 ?_
                                refine lv_topi (fun y_55 ey_55 => ?_)
                                have ty_55 : y_55.toInt = y_54.toInt + a3.toInt := by rw [ey_55]; exact addI (by omega) (by omega)
                                refine lv_iload hx hb dB_3_3_13.1.1.2.1 (lv_at hl 0 rfl) ?_
                                refine lv_iadd hx hb dB_3_3_13.1.1.2.2 ?_
                                refine lv_topi (fun y_56 ey_56 => ?_)
                                have ty_56 : y_56.toInt = y_55.toInt + x9_38.toInt := by rw [ey_56]; exact addI (by omega) (by omega)
                                have h_57 : vp_in y_56 120 := in_I (by first | with_reducible assumption | omega) (by omega)
                                refine va_lald hx hb hK.1 hP 4 1 rfl rfl (i := y_56) h_57 dB_3_3_13.1.2.1.1 ?_
                                refine lv_topl (fun y_58 ey_58 => ?_)
                                have h_59 : vp_in x9_38 5 := in_I (by first | with_reducible assumption | omega) (by omega)
                                refine va_last hx hb hK.1 hP hD hS 5 1 rfl rfl (i := x9_38) h_59 dB_3_3_13.1.2.1.2 (fun H locs hP hD hS => ?_)
                                obtain ⟨f_60, ef_60⟩ : ∃ g : Nat → Int64, g = vp_updL c_g20_38 x9_38.toNatClampNeg y_58 := ⟨_, rfl⟩
                                refine pd_K (D := D) (cl := vwCl) (H := H) (A := A) [ob12_0_ mo 0 0 t2 s3 s4 g5 g6 g7 g8 g9 g10 s11 g12 g13 g14 g15 g16 g17 g18 g19 g20 s21 g22 g23 g24 s25 s26 s27 s28 g29 g30 g31 g32 g33, az_ cy g15 4 f15, ai_ cy g17 4 f17, ai_ cy g18 24 f18, aj_ cy g19 120 f19, aj_ cy g20 5 f_60] (by rw [ef_60]; exact hP) (by rw [ef_60]; exact hD) (fun hP hD => ?_)
                                obtain ⟨y_61, ey_61⟩ : ∃ y : Int32, y = x9_38 + 1 := ⟨_, rfl⟩
                                have ty_61 : y_61.toInt = x9_38.toInt + (1 : Int32).toInt := by rw [ey_61]; exact addI (by omega) (by omega)
                                refine lv_iinc (v := y_61) (lv' := [(9, .int y_61), (8, .int y_26), (7, .int y_22), (0, .ref mo), (1, .int a1), (2, .int a2), (3, .int a3), (4, .int a4), (5, .int a5), (6, .int a6)]) hx hb dB_3_3_13.1.2.2.1 hl (k := 0) rfl (by rw [ey_61]; rfl) (by decide) rfl (fun ls hl => ?_)
                                refine lv_goto (tgt := 169) hx hb dB_3_3_13.1.2.2.2 (by decide) ?_
                                exact ih_38 y_61 f_60 _ _ _ (by omega) (by first | with_reducible assumption | omega | assumption) (by first | with_reducible assumption | omega | assumption) (by first | exact cpd_st v2_38 ef_60 ey_58 (by omega) (by omega) (by omega) | (intro q hq; omega)) ⟨hP, hD⟩ hS (lv_sub hl [0, 1, 2, 3, 4, 5, 6, 7, 8, 9] rfl)
                          · exact absurd c_37 (by decide)
                        · have e_ := e_.symm
                          subst e_
                          refine lv_if_ne (tgt := 166) hx hb dB_3_3_11.2.1.2.1 (by decide) (fun c_62 => ?_) (fun c_62 => ?_)
                          · exact absurd c_62 (by decide)
                          · have _ := c_62
                            refine lv_aload_n hx hb dB_3_3_11.2.1.2.2 rfl (lv_at hl 2 rfl) ?_
                            refine lv_bipush (v := (-12)) hx hb dB_3_3_11.2.2.1.1 (by decide) ?_
                            refine ct_S hP hD hS hA [ob12_0_ mo 0 0 t2 s3 s4 g5 g6 g7 g8 g9 g10 s11 g12 g13 g14 g15 g16 g17 g18 g19 g20 s21 g22 g23 g24 s25 s26 s27 s28 g29 g30 g31 g32 g33] [0] (by decide) rfl (fun hPc hDw hFc hC_ => ?_)
                            refine va_calli (va_runV (As := [.int (-12)]) (rest := []) ⟨hx, hb, hml, hown, hts⟩ (c_X12_no2 l D cy H.size mo g5 g6 g7 g8 g9 g10 g12 g13 g14 g15 g16 g17 g18 g19 g20 g22 g23 g24 g29 g30 g31 g32 g33 (0 : Int32) (0 : Int32) s3 s4 s11 s21 s25 s26 s27 s28 t2 ((-12) : Int32)) (cwV 1 hts gX12_copy_X12_no rfl rfl rfl ⟨rfl, hd_X12_no⟩ ⟨Nat.le_of_ble_eq_true rfl, Nat.le_of_ble_eq_true rfl⟩) ⟨bl_, va_recvX hK.1 hP (ci := 12) (q0 := 0) rfl rfl, fun U hU hW => ⟨rfl, by rw [hU], by rw [hU]; exact hPc, kk_mv hW hK, hDw⟩⟩ rfl rfl hl.1 rfl (lv_room (Nat.le_of_ble_eq_true rfl)) dB_3_3_11.2.2.1.2 ⟨Nat.le_of_ble_eq_true rfl, Nat.le_of_ble_eq_true rfl⟩) hS (fun q _ h => hFc q h) hFc (fun r_63 u t H locs ht hvm hw hB hz1 hk1 hS => ?_)
                            obtain ⟨n1_64, g_65, hP1, hD1⟩ := hB
                            rw [ht] at hP1
                            obtain ⟨hP, hD⟩ := va_join (wr := [az_ cy g15 4 f15, ai_ cy g17 4 f17, ai_ cy g18 24 f18, aj_ cy g19 120 f19, aj_ cy g20 5 f20]) (w1 := [ob12_0_ mo 0 n1_64 t2 s3 s4 g5 g6 g7 g8 g9 g10 s11 g12 g13 g14 g15 g16 g17 g18 g19 g20 s21 g22 g23 g24 s25 s26 s27 s28 g29 g30 g31 g32 g33]) hP hD [0] [1, 2, 3, 4, 5] hC_ rfl (by decide) (by decide) hk1 hFc hP1 hD1
                            refine pd_S hP hD [ob12_0_ mo 0 n1_64 t2 s3 s4 g5 g6 g7 g8 g9 g10 s11 g12 g13 g14 g15 g16 g17 g18 g19 g20 s21 g22 g23 g24 s25 s26 s27 s28 g29 g30 g31 g32 g33, az_ cy g15 4 f15, ai_ cy g17 4 f17, ai_ cy g18 24 f18, aj_ cy g19 120 f19, aj_ cy g20 5 f20] [5, 0, 1, 2, 3, 4] (by decide) rfl (fun hP hD => ?_)
                            have f0_r_63 := hw
                            have hno_ := g_65
                            rw [hQ]
                            exact W.iret (v := r_63) hx hb hr (fun t ht hW => ⟨⟨r_63, (), rfl, (by first | (have h9 := congrArg Int32.toInt f0_r_63; unfold cpyI; (repeat' (first | with_reducible refine if_n (by omega) ?_ | with_reducible refine if_ns (by omega) ?_ | with_reducible refine if_nz (by omega) ?_ | with_reducible exact if_p (by omega) (by omega) | with_reducible exact if_ps (by omega) (by omega) | with_reducible exact if_pz (by omega) (by omega))) <;> omega) | (unfold cpyI; (repeat' (first | with_reducible refine if_n (by omega) ?_ | with_reducible refine if_ns (by omega) ?_ | with_reducible refine if_nz (by omega) ?_ | with_reducible exact if_p (by omega) (by omega) | with_reducible exact if_ps (by omega) (by omega) | with_reducible exact if_pz (by omega) (by omega))) <;> omega)), n1_64, f19, f20, (by first | (have h9 := congrArg Int32.toInt hno_; unfold cpyI; (repeat' (first | with_reducible refine if_n (by omega) ?_ | with_reducible refine if_ns (by omega) ?_ | with_reducible refine if_nz (by omega) ?_ | with_reducible exact if_p (by omega) (by omega) | with_reducible exact if_ps (by omega) (by omega) | with_reducible exact if_pz (by omega) (by omega))) <;> omega) | (unfold cpyI; (repeat' (first | with_reducible refine if_n (by omega) ?_ | with_reducible refine if_ns (by omega) ?_ | with_reducible refine if_nz (by omega) ?_ | with_reducible exact if_p (by omega) (by omega) | with_reducible exact if_ps (by omega) (by omega) | with_reducible exact if_pz (by omega) (by omega))) <;> omega)), (by first | exact ⟨fun _ => rfl, fun h => absurd h (by first | omega | (have h9_ := congrArg Int32.toInt hno_; omega) | decide)⟩ | exact ⟨fun h => absurd (by first | omega | (have h9_ := congrArg Int32.toInt hno_; omega) | decide) h, fun _ => h9_⟩), by rw [ht]; exact hP, hD⟩, hS.F ht⟩) hS.2.2 dB_3_3_11.2.2.2.1
                    · have e_ := e_.symm
                      subst e_
                      refine lv_if_eq (tgt := 159) hx hb dB_3_3_11.1.2.1.2 (by decide) (fun c_66 => ?_) (fun c_66 => ?_)
                      · have _ := c_66
                        refine lv_aload_n hx hb dB_3_3_11.2.1.2.2 rfl (lv_at hl 2 rfl) ?_
                        refine lv_bipush (v := (-12)) hx hb dB_3_3_11.2.2.1.1 (by decide) ?_
                        refine ct_S hP hD hS hA [ob12_0_ mo 0 0 t2 s3 s4 g5 g6 g7 g8 g9 g10 s11 g12 g13 g14 g15 g16 g17 g18 g19 g20 s21 g22 g23 g24 s25 s26 s27 s28 g29 g30 g31 g32 g33] [0] (by decide) rfl (fun hPc hDw hFc hC_ => ?_)
                        refine va_calli (va_runV (As := [.int (-12)]) (rest := []) ⟨hx, hb, hml, hown, hts⟩ (c_X12_no2 l D cy H.size mo g5 g6 g7 g8 g9 g10 g12 g13 g14 g15 g16 g17 g18 g19 g20 g22 g23 g24 g29 g30 g31 g32 g33 (0 : Int32) (0 : Int32) s3 s4 s11 s21 s25 s26 s27 s28 t2 ((-12) : Int32)) (cwV 1 hts gX12_copy_X12_no rfl rfl rfl ⟨rfl, hd_X12_no⟩ ⟨Nat.le_of_ble_eq_true rfl, Nat.le_of_ble_eq_true rfl⟩) ⟨bl_, va_recvX hK.1 hP (ci := 12) (q0 := 0) rfl rfl, fun U hU hW => ⟨rfl, by rw [hU], by rw [hU]; exact hPc, kk_mv hW hK, hDw⟩⟩ rfl rfl hl.1 rfl (lv_room (Nat.le_of_ble_eq_true rfl)) dB_3_3_11.2.2.1.2 ⟨Nat.le_of_ble_eq_true rfl, Nat.le_of_ble_eq_true rfl⟩) hS (fun q _ h => hFc q h) hFc (fun r_67 u t H locs ht hvm hw hB hz1 hk1 hS => ?_)
                        obtain ⟨n1_68, g_69, hP1, hD1⟩ := hB
                        rw [ht] at hP1
                        obtain ⟨hP, hD⟩ := va_join (wr := [az_ cy g15 4 f15, ai_ cy g17 4 f17, ai_ cy g18 24 f18, aj_ cy g19 120 f19, aj_ cy g20 5 f20]) (w1 := [ob12_0_ mo 0 n1_68 t2 s3 s4 g5 g6 g7 g8 g9 g10 s11 g12 g13 g14 g15 g16 g17 g18 g19 g20 s21 g22 g23 g24 s25 s26 s27 s28 g29 g30 g31 g32 g33]) hP hD [0] [1, 2, 3, 4, 5] hC_ rfl (by decide) (by decide) hk1 hFc hP1 hD1
                        refine pd_S hP hD [ob12_0_ mo 0 n1_68 t2 s3 s4 g5 g6 g7 g8 g9 g10 s11 g12 g13 g14 g15 g16 g17 g18 g19 g20 s21 g22 g23 g24 s25 s26 s27 s28 g29 g30 g31 g32 g33, az_ cy g15 4 f15, ai_ cy g17 4 f17, ai_ cy g18 24 f18, aj_ cy g19 120 f19, aj_ cy g20 5 f20] [5, 0, 1, 2, 3, 4] (by decide) rfl (fun hP hD => ?_)
                        have f0_r_67 := hw
                        have hno_ := g_69
                        rw [hQ]
                        exact W.iret (v := r_67) hx hb hr (fun t ht hW => ⟨⟨r_67, (), rfl, (by first | (have h9 := congrArg Int32.toInt f0_r_67; unfold cpyI; (repeat' (first | with_reducible refine if_n (by omega) ?_ | with_reducible refine if_ns (by omega) ?_ | with_reducible refine if_nz (by omega) ?_ | with_reducible exact if_p (by omega) (by omega) | with_reducible exact if_ps (by omega) (by omega) | with_reducible exact if_pz (by omega) (by omega))) <;> omega) | (unfold cpyI; (repeat' (first | with_reducible refine if_n (by omega) ?_ | with_reducible refine if_ns (by omega) ?_ | with_reducible refine if_nz (by omega) ?_ | with_reducible exact if_p (by omega) (by omega) | with_reducible exact if_ps (by omega) (by omega) | with_reducible exact if_pz (by omega) (by omega))) <;> omega)), n1_68, f19, f20, (by first | (have h9 := congrArg Int32.toInt hno_; unfold cpyI; (repeat' (first | with_reducible refine if_n (by omega) ?_ | with_reducible refine if_ns (by omega) ?_ | with_reducible refine if_nz (by omega) ?_ | with_reducible exact if_p (by omega) (by omega) | with_reducible exact if_ps (by omega) (by omega) | with_reducible exact if_pz (by omega) (by omega))) <;> omega) | (unfold cpyI; (repeat' (first | with_reducible refine if_n (by omega) ?_ | with_reducible refine if_ns (by omega) ?_ | with_reducible refine if_nz (by omega) ?_ | with_reducible exact if_p (by omega) (by omega) | with_reducible exact if_ps (by omega) (by omega) | with_reducible exact if_pz (by omega) (by omega))) <;> omega)), (by first | exact ⟨fun _ => rfl, fun h => absurd h (by first | omega | (have h9_ := congrArg Int32.toInt hno_; omega) | decide)⟩ | exact ⟨fun h => absurd (by first | omega | (have h9_ := congrArg Int32.toInt hno_; omega) | decide) h, fun _ => h9_⟩), by rw [ht]; exact hP, hD⟩, hS.F ht⟩) hS.2.2 dB_3_3_11.2.2.2.1
                      · exact absurd c_66 (by decide)
                  · have t_31 : y_26.toInt = ((-9) : Int32).toInt := congrArg Int32.toInt c_31
                    refine lv_aload_n hx hb dB_3_3_10.2.2.1.2 rfl (lv_at hl 2 rfl) ?_
                    refine lv_bipush (v := (-11)) hx hb dB_3_3_10.2.2.2.1 (by decide) ?_
                    refine ct_S hP hD hS hA [ob12_0_ mo 0 0 t2 s3 s4 g5 g6 g7 g8 g9 g10 s11 g12 g13 g14 g15 g16 g17 g18 g19 g20 s21 g22 g23 g24 s25 s26 s27 s28 g29 g30 g31 g32 g33] [0] (by decide) rfl (fun hPc hDw hFc hC_ => ?_)
                    refine va_calli (va_runV (As := [.int (-11)]) (rest := []) ⟨hx, hb, hml, hown, hts⟩ (c_X12_no2 l D cy H.size mo g5 g6 g7 g8 g9 g10 g12 g13 g14 g15 g16 g17 g18 g19 g20 g22 g23 g24 g29 g30 g31 g32 g33 (0 : Int32) (0 : Int32) s3 s4 s11 s21 s25 s26 s27 s28 t2 ((-11) : Int32)) (cwV 1 hts gX12_copy_X12_no rfl rfl rfl ⟨rfl, hd_X12_no⟩ ⟨Nat.le_of_ble_eq_true rfl, Nat.le_of_ble_eq_true rfl⟩) ⟨bl_, va_recvX hK.1 hP (ci := 12) (q0 := 0) rfl rfl, fun U hU hW => ⟨rfl, by rw [hU], by rw [hU]; exact hPc, kk_mv hW hK, hDw⟩⟩ rfl rfl hl.1 rfl (lv_room (Nat.le_of_ble_eq_true rfl)) dB_3_3_10.2.2.2.2 ⟨Nat.le_of_ble_eq_true rfl, Nat.le_of_ble_eq_true rfl⟩) hS (fun q _ h => hFc q h) hFc (fun r_70 u t H locs ht hvm hw hB hz1 hk1 hS => ?_)
                    obtain ⟨n1_71, g_72, hP1, hD1⟩ := hB
                    rw [ht] at hP1
                    obtain ⟨hP, hD⟩ := va_join (wr := [az_ cy g15 4 f15, ai_ cy g17 4 f17, ai_ cy g18 24 f18, aj_ cy g19 120 f19, aj_ cy g20 5 f20]) (w1 := [ob12_0_ mo 0 n1_71 t2 s3 s4 g5 g6 g7 g8 g9 g10 s11 g12 g13 g14 g15 g16 g17 g18 g19 g20 s21 g22 g23 g24 s25 s26 s27 s28 g29 g30 g31 g32 g33]) hP hD [0] [1, 2, 3, 4, 5] hC_ rfl (by decide) (by decide) hk1 hFc hP1 hD1
                    refine pd_S hP hD [ob12_0_ mo 0 n1_71 t2 s3 s4 g5 g6 g7 g8 g9 g10 s11 g12 g13 g14 g15 g16 g17 g18 g19 g20 s21 g22 g23 g24 s25 s26 s27 s28 g29 g30 g31 g32 g33, az_ cy g15 4 f15, ai_ cy g17 4 f17, ai_ cy g18 24 f18, aj_ cy g19 120 f19, aj_ cy g20 5 f20] [5, 0, 1, 2, 3, 4] (by decide) rfl (fun hP hD => ?_)
                    have f0_r_70 := hw
                    have hno_ := g_72
                    rw [hQ]
                    exact W.iret (v := r_70) hx hb hr (fun t ht hW => ⟨⟨r_70, (), rfl, (by first | (have h9 := congrArg Int32.toInt f0_r_70; unfold cpyI; (repeat' (first | with_reducible refine if_n (by omega) ?_ | with_reducible refine if_ns (by omega) ?_ | with_reducible refine if_nz (by omega) ?_ | with_reducible exact if_p (by omega) (by omega) | with_reducible exact if_ps (by omega) (by omega) | with_reducible exact if_pz (by omega) (by omega))) <;> omega) | (unfold cpyI; (repeat' (first | with_reducible refine if_n (by omega) ?_ | with_reducible refine if_ns (by omega) ?_ | with_reducible refine if_nz (by omega) ?_ | with_reducible exact if_p (by omega) (by omega) | with_reducible exact if_ps (by omega) (by omega) | with_reducible exact if_pz (by omega) (by omega))) <;> omega)), n1_71, f19, f20, (by first | (have h9 := congrArg Int32.toInt hno_; unfold cpyI; (repeat' (first | with_reducible refine if_n (by omega) ?_ | with_reducible refine if_ns (by omega) ?_ | with_reducible refine if_nz (by omega) ?_ | with_reducible exact if_p (by omega) (by omega) | with_reducible exact if_ps (by omega) (by omega) | with_reducible exact if_pz (by omega) (by omega))) <;> omega) | (unfold cpyI; (repeat' (first | with_reducible refine if_n (by omega) ?_ | with_reducible refine if_ns (by omega) ?_ | with_reducible refine if_nz (by omega) ?_ | with_reducible exact if_p (by omega) (by omega) | with_reducible exact if_ps (by omega) (by omega) | with_reducible exact if_pz (by omega) (by omega))) <;> omega)), (by first | exact ⟨fun _ => rfl, fun h => absurd h (by first | omega | (have h9_ := congrArg Int32.toInt hno_; omega) | decide)⟩ | exact ⟨fun h => absurd (by first | omega | (have h9_ := congrArg Int32.toInt hno_; omega) | decide) h, fun _ => h9_⟩), by rw [ht]; exact hP, hD⟩, hS.F ht⟩) hS.2.2 dB_3_3_11.1.1.1.1
              · exact absurd c_18 (by decide)
            · have e_ := e_.symm
              subst e_
              refine lv_if_ne (tgt := 88) hx hb dB_3_3_9.1.1.1.1 (by decide) (fun c_73 => ?_) (fun c_73 => ?_)
              · exact absurd c_73 (by decide)
              · have _ := c_73
                refine lv_aload_n hx hb dB_3_3_9.1.1.1.2 rfl (lv_at hl 0 rfl) ?_
                refine lv_bipush (v := (-12)) hx hb dB_3_3_9.1.1.2.1 (by decide) ?_
                refine ct_S hP hD hS hA [ob12_0_ mo 0 0 t2 s3 s4 g5 g6 g7 g8 g9 g10 s11 g12 g13 g14 g15 g16 g17 g18 g19 g20 s21 g22 g23 g24 s25 s26 s27 s28 g29 g30 g31 g32 g33] [0] (by decide) rfl (fun hPc hDw hFc hC_ => ?_)
                refine va_calli (va_runV (As := [.int (-12)]) (rest := []) ⟨hx, hb, hml, hown, hts⟩ (c_X12_no2 l D cy H.size mo g5 g6 g7 g8 g9 g10 g12 g13 g14 g15 g16 g17 g18 g19 g20 g22 g23 g24 g29 g30 g31 g32 g33 (0 : Int32) (0 : Int32) s3 s4 s11 s21 s25 s26 s27 s28 t2 ((-12) : Int32)) (cwV 1 hts gX12_copy_X12_no rfl rfl rfl ⟨rfl, hd_X12_no⟩ ⟨Nat.le_of_ble_eq_true rfl, Nat.le_of_ble_eq_true rfl⟩) ⟨bl_, va_recvX hK.1 hP (ci := 12) (q0 := 0) rfl rfl, fun U hU hW => ⟨rfl, by rw [hU], by rw [hU]; exact hPc, kk_mv hW hK, hDw⟩⟩ rfl rfl hl.1 rfl (lv_room (Nat.le_of_ble_eq_true rfl)) dB_3_3_9.1.1.2.2 ⟨Nat.le_of_ble_eq_true rfl, Nat.le_of_ble_eq_true rfl⟩) hS (fun q _ h => hFc q h) hFc (fun r_74 u t H locs ht hvm hw hB hz1 hk1 hS => ?_)
                obtain ⟨n1_75, g_76, hP1, hD1⟩ := hB
                rw [ht] at hP1
                obtain ⟨hP, hD⟩ := va_join (wr := [az_ cy g15 4 f15, ai_ cy g17 4 f17, ai_ cy g18 24 f18, aj_ cy g19 120 f19, aj_ cy g20 5 f20]) (w1 := [ob12_0_ mo 0 n1_75 t2 s3 s4 g5 g6 g7 g8 g9 g10 s11 g12 g13 g14 g15 g16 g17 g18 g19 g20 s21 g22 g23 g24 s25 s26 s27 s28 g29 g30 g31 g32 g33]) hP hD [0] [1, 2, 3, 4, 5] hC_ rfl (by decide) (by decide) hk1 hFc hP1 hD1
                refine pd_S hP hD [ob12_0_ mo 0 n1_75 t2 s3 s4 g5 g6 g7 g8 g9 g10 s11 g12 g13 g14 g15 g16 g17 g18 g19 g20 s21 g22 g23 g24 s25 s26 s27 s28 g29 g30 g31 g32 g33, az_ cy g15 4 f15, ai_ cy g17 4 f17, ai_ cy g18 24 f18, aj_ cy g19 120 f19, aj_ cy g20 5 f20] [5, 0, 1, 2, 3, 4] (by decide) rfl (fun hP hD => ?_)
                have f0_r_74 := hw
                have hno_ := g_76
                rw [hQ]
                exact W.iret (v := r_74) hx hb hr (fun t ht hW => ⟨⟨r_74, (), rfl, (by first | (have h9 := congrArg Int32.toInt f0_r_74; unfold cpyI; (repeat' (first | with_reducible refine if_n (by omega) ?_ | with_reducible refine if_ns (by omega) ?_ | with_reducible refine if_nz (by omega) ?_ | with_reducible exact if_p (by omega) (by omega) | with_reducible exact if_ps (by omega) (by omega) | with_reducible exact if_pz (by omega) (by omega))) <;> omega) | (unfold cpyI; (repeat' (first | with_reducible refine if_n (by omega) ?_ | with_reducible refine if_ns (by omega) ?_ | with_reducible refine if_nz (by omega) ?_ | with_reducible exact if_p (by omega) (by omega) | with_reducible exact if_ps (by omega) (by omega) | with_reducible exact if_pz (by omega) (by omega))) <;> omega)), n1_75, f19, f20, (by first | (have h9 := congrArg Int32.toInt hno_; unfold cpyI; (repeat' (first | with_reducible refine if_n (by omega) ?_ | with_reducible refine if_ns (by omega) ?_ | with_reducible refine if_nz (by omega) ?_ | with_reducible exact if_p (by omega) (by omega) | with_reducible exact if_ps (by omega) (by omega) | with_reducible exact if_pz (by omega) (by omega))) <;> omega) | (unfold cpyI; (repeat' (first | with_reducible refine if_n (by omega) ?_ | with_reducible refine if_ns (by omega) ?_ | with_reducible refine if_nz (by omega) ?_ | with_reducible exact if_p (by omega) (by omega) | with_reducible exact if_ps (by omega) (by omega) | with_reducible exact if_pz (by omega) (by omega))) <;> omega)), (by first | exact ⟨fun _ => rfl, fun h => absurd h (by first | omega | (have h9_ := congrArg Int32.toInt hno_; omega) | decide)⟩ | exact ⟨fun h => absurd (by first | omega | (have h9_ := congrArg Int32.toInt hno_; omega) | decide) h, fun _ => h9_⟩), by rw [ht]; exact hP, hD⟩, hS.F ht⟩) hS.2.2 dB_3_3_9.1.2.1.1
        · have e_ := e_.symm
          subst e_
          refine lv_if_eq (tgt := 81) hx hb dB_3_3_8.1.2.1.1 (by decide) (fun c_77 => ?_) (fun c_77 => ?_)
          · have _ := c_77
            refine lv_aload_n hx hb dB_3_3_9.1.1.1.2 rfl (lv_at hl 0 rfl) ?_
            refine lv_bipush (v := (-12)) hx hb dB_3_3_9.1.1.2.1 (by decide) ?_
            refine ct_S hP hD hS hA [ob12_0_ mo 0 0 t2 s3 s4 g5 g6 g7 g8 g9 g10 s11 g12 g13 g14 g15 g16 g17 g18 g19 g20 s21 g22 g23 g24 s25 s26 s27 s28 g29 g30 g31 g32 g33] [0] (by decide) rfl (fun hPc hDw hFc hC_ => ?_)
            refine va_calli (va_runV (As := [.int (-12)]) (rest := []) ⟨hx, hb, hml, hown, hts⟩ (c_X12_no2 l D cy H.size mo g5 g6 g7 g8 g9 g10 g12 g13 g14 g15 g16 g17 g18 g19 g20 g22 g23 g24 g29 g30 g31 g32 g33 (0 : Int32) (0 : Int32) s3 s4 s11 s21 s25 s26 s27 s28 t2 ((-12) : Int32)) (cwV 1 hts gX12_copy_X12_no rfl rfl rfl ⟨rfl, hd_X12_no⟩ ⟨Nat.le_of_ble_eq_true rfl, Nat.le_of_ble_eq_true rfl⟩) ⟨bl_, va_recvX hK.1 hP (ci := 12) (q0 := 0) rfl rfl, fun U hU hW => ⟨rfl, by rw [hU], by rw [hU]; exact hPc, kk_mv hW hK, hDw⟩⟩ rfl rfl hl.1 rfl (lv_room (Nat.le_of_ble_eq_true rfl)) dB_3_3_9.1.1.2.2 ⟨Nat.le_of_ble_eq_true rfl, Nat.le_of_ble_eq_true rfl⟩) hS (fun q _ h => hFc q h) hFc (fun r_78 u t H locs ht hvm hw hB hz1 hk1 hS => ?_)
            obtain ⟨n1_79, g_80, hP1, hD1⟩ := hB
            rw [ht] at hP1
            obtain ⟨hP, hD⟩ := va_join (wr := [az_ cy g15 4 f15, ai_ cy g17 4 f17, ai_ cy g18 24 f18, aj_ cy g19 120 f19, aj_ cy g20 5 f20]) (w1 := [ob12_0_ mo 0 n1_79 t2 s3 s4 g5 g6 g7 g8 g9 g10 s11 g12 g13 g14 g15 g16 g17 g18 g19 g20 s21 g22 g23 g24 s25 s26 s27 s28 g29 g30 g31 g32 g33]) hP hD [0] [1, 2, 3, 4, 5] hC_ rfl (by decide) (by decide) hk1 hFc hP1 hD1
            refine pd_S hP hD [ob12_0_ mo 0 n1_79 t2 s3 s4 g5 g6 g7 g8 g9 g10 s11 g12 g13 g14 g15 g16 g17 g18 g19 g20 s21 g22 g23 g24 s25 s26 s27 s28 g29 g30 g31 g32 g33, az_ cy g15 4 f15, ai_ cy g17 4 f17, ai_ cy g18 24 f18, aj_ cy g19 120 f19, aj_ cy g20 5 f20] [5, 0, 1, 2, 3, 4] (by decide) rfl (fun hP hD => ?_)
            have f0_r_78 := hw
            have hno_ := g_80
            rw [hQ]
            exact W.iret (v := r_78) hx hb hr (fun t ht hW => ⟨⟨r_78, (), rfl, (by first | (have h9 := congrArg Int32.toInt f0_r_78; unfold cpyI; (repeat' (first | with_reducible refine if_n (by omega) ?_ | with_reducible refine if_ns (by omega) ?_ | with_reducible refine if_nz (by omega) ?_ | with_reducible exact if_p (by omega) (by omega) | with_reducible exact if_ps (by omega) (by omega) | with_reducible exact if_pz (by omega) (by omega))) <;> omega) | (unfold cpyI; (repeat' (first | with_reducible refine if_n (by omega) ?_ | with_reducible refine if_ns (by omega) ?_ | with_reducible refine if_nz (by omega) ?_ | with_reducible exact if_p (by omega) (by omega) | with_reducible exact if_ps (by omega) (by omega) | with_reducible exact if_pz (by omega) (by omega))) <;> omega)), n1_79, f19, f20, (by first | (have h9 := congrArg Int32.toInt hno_; unfold cpyI; (repeat' (first | with_reducible refine if_n (by omega) ?_ | with_reducible refine if_ns (by omega) ?_ | with_reducible refine if_nz (by omega) ?_ | with_reducible exact if_p (by omega) (by omega) | with_reducible exact if_ps (by omega) (by omega) | with_reducible exact if_pz (by omega) (by omega))) <;> omega) | (unfold cpyI; (repeat' (first | with_reducible refine if_n (by omega) ?_ | with_reducible refine if_ns (by omega) ?_ | with_reducible refine if_nz (by omega) ?_ | with_reducible exact if_p (by omega) (by omega) | with_reducible exact if_ps (by omega) (by omega) | with_reducible exact if_pz (by omega) (by omega))) <;> omega)), (by first | exact ⟨fun _ => rfl, fun h => absurd h (by first | omega | (have h9_ := congrArg Int32.toInt hno_; omega) | decide)⟩ | exact ⟨fun h => absurd (by first | omega | (have h9_ := congrArg Int32.toInt hno_; omega) | decide) h, fun _ => h9_⟩), by rw [ht]; exact hP, hD⟩, hS.F ht⟩) hS.2.2 dB_3_3_9.1.2.1.1
          · exact absurd c_77 (by decide)
      · have t_6 : y_5.toInt = (0 : Int32).toInt := congrArg Int32.toInt c_6
        refine lv_aload_n hx hb dB_3_3_7.1.2.1.2 rfl (lv_at hl 0 rfl) ?_
        refine lv_bipush (v := (-11)) hx hb dB_3_3_7.1.2.2.1 (by decide) ?_
        refine ct_S hP hD hS hA [ob12_0_ mo 0 0 t2 s3 s4 g5 g6 g7 g8 g9 g10 s11 g12 g13 g14 g15 g16 g17 g18 g19 g20 s21 g22 g23 g24 s25 s26 s27 s28 g29 g30 g31 g32 g33] [0] (by decide) rfl (fun hPc hDw hFc hC_ => ?_)
        refine va_calli (va_runV (As := [.int (-11)]) (rest := []) ⟨hx, hb, hml, hown, hts⟩ (c_X12_no2 l D cy H.size mo g5 g6 g7 g8 g9 g10 g12 g13 g14 g15 g16 g17 g18 g19 g20 g22 g23 g24 g29 g30 g31 g32 g33 (0 : Int32) (0 : Int32) s3 s4 s11 s21 s25 s26 s27 s28 t2 ((-11) : Int32)) (cwV 1 hts gX12_copy_X12_no rfl rfl rfl ⟨rfl, hd_X12_no⟩ ⟨Nat.le_of_ble_eq_true rfl, Nat.le_of_ble_eq_true rfl⟩) ⟨bl_, va_recvX hK.1 hP (ci := 12) (q0 := 0) rfl rfl, fun U hU hW => ⟨rfl, by rw [hU], by rw [hU]; exact hPc, kk_mv hW hK, hDw⟩⟩ rfl rfl hl.1 rfl (lv_room (Nat.le_of_ble_eq_true rfl)) dB_3_3_7.1.2.2.2 ⟨Nat.le_of_ble_eq_true rfl, Nat.le_of_ble_eq_true rfl⟩) hS (fun q _ h => hFc q h) hFc (fun r_81 u t H locs ht hvm hw hB hz1 hk1 hS => ?_)
        obtain ⟨n1_82, g_83, hP1, hD1⟩ := hB
        rw [ht] at hP1
        obtain ⟨hP, hD⟩ := va_join (wr := [az_ cy g15 4 f15, ai_ cy g17 4 f17, ai_ cy g18 24 f18, aj_ cy g19 120 f19, aj_ cy g20 5 f20]) (w1 := [ob12_0_ mo 0 n1_82 t2 s3 s4 g5 g6 g7 g8 g9 g10 s11 g12 g13 g14 g15 g16 g17 g18 g19 g20 s21 g22 g23 g24 s25 s26 s27 s28 g29 g30 g31 g32 g33]) hP hD [0] [1, 2, 3, 4, 5] hC_ rfl (by decide) (by decide) hk1 hFc hP1 hD1
        refine pd_S hP hD [ob12_0_ mo 0 n1_82 t2 s3 s4 g5 g6 g7 g8 g9 g10 s11 g12 g13 g14 g15 g16 g17 g18 g19 g20 s21 g22 g23 g24 s25 s26 s27 s28 g29 g30 g31 g32 g33, az_ cy g15 4 f15, ai_ cy g17 4 f17, ai_ cy g18 24 f18, aj_ cy g19 120 f19, aj_ cy g20 5 f20] [5, 0, 1, 2, 3, 4] (by decide) rfl (fun hP hD => ?_)
        have f0_r_81 := hw
        have hno_ := g_83
        rw [hQ]
        exact W.iret (v := r_81) hx hb hr (fun t ht hW => ⟨⟨r_81, (), rfl, (by first | (have h9 := congrArg Int32.toInt f0_r_81; unfold cpyI; (repeat' (first | with_reducible refine if_n (by omega) ?_ | with_reducible refine if_ns (by omega) ?_ | with_reducible refine if_nz (by omega) ?_ | with_reducible exact if_p (by omega) (by omega) | with_reducible exact if_ps (by omega) (by omega) | with_reducible exact if_pz (by omega) (by omega))) <;> omega) | (unfold cpyI; (repeat' (first | with_reducible refine if_n (by omega) ?_ | with_reducible refine if_ns (by omega) ?_ | with_reducible refine if_nz (by omega) ?_ | with_reducible exact if_p (by omega) (by omega) | with_reducible exact if_ps (by omega) (by omega) | with_reducible exact if_pz (by omega) (by omega))) <;> omega)), n1_82, f19, f20, (by first | (have h9 := congrArg Int32.toInt hno_; unfold cpyI; (repeat' (first | with_reducible refine if_n (by omega) ?_ | with_reducible refine if_ns (by omega) ?_ | with_reducible refine if_nz (by omega) ?_ | with_reducible exact if_p (by omega) (by omega) | with_reducible exact if_ps (by omega) (by omega) | with_reducible exact if_pz (by omega) (by omega))) <;> omega) | (unfold cpyI; (repeat' (first | with_reducible refine if_n (by omega) ?_ | with_reducible refine if_ns (by omega) ?_ | with_reducible refine if_nz (by omega) ?_ | with_reducible exact if_p (by omega) (by omega) | with_reducible exact if_ps (by omega) (by omega) | with_reducible exact if_pz (by omega) (by omega))) <;> omega)), (by first | exact ⟨fun _ => rfl, fun h => absurd h (by first | omega | (have h9_ := congrArg Int32.toInt hno_; omega) | decide)⟩ | exact ⟨fun h => absurd (by first | omega | (have h9_ := congrArg Int32.toInt hno_; omega) | decide) h, fun _ => h9_⟩), by rw [ht]; exact hP, hD⟩, hS.F ht⟩) hS.2.2 dB_3_3_7.2.1.1.1
    · exact absurd c_3 (by decide)
  · have e_ := e_.symm
    subst e_
    refine lv_if_ne (tgt := 28) hx hb dB_3_3_6.2.1.2.2 (by decide) (fun c_84 => ?_) (fun c_84 => ?_)
    · exact absurd c_84 (by decide)
    · have _ := c_84
      refine lv_aload_n hx hb dB_3_3_6.2.2.1.1 rfl (lv_at hl 0 rfl) ?_
      refine lv_iconst (v := (-1)) hx hb dB_3_3_6.2.2.1.2 (by decide) ?_
      refine ct_S hP hD hS hA [ob12_0_ mo 0 0 t2 s3 s4 g5 g6 g7 g8 g9 g10 s11 g12 g13 g14 g15 g16 g17 g18 g19 g20 s21 g22 g23 g24 s25 s26 s27 s28 g29 g30 g31 g32 g33] [0] (by decide) rfl (fun hPc hDw hFc hC_ => ?_)
      refine va_calli (va_runV (As := [.int (-1)]) (rest := []) ⟨hx, hb, hml, hown, hts⟩ (c_X12_no2 l D cy H.size mo g5 g6 g7 g8 g9 g10 g12 g13 g14 g15 g16 g17 g18 g19 g20 g22 g23 g24 g29 g30 g31 g32 g33 (0 : Int32) (0 : Int32) s3 s4 s11 s21 s25 s26 s27 s28 t2 ((-1) : Int32)) (cwV 1 hts gX12_copy_X12_no rfl rfl rfl ⟨rfl, hd_X12_no⟩ ⟨Nat.le_of_ble_eq_true rfl, Nat.le_of_ble_eq_true rfl⟩) ⟨bl_, va_recvX hK.1 hP (ci := 12) (q0 := 0) rfl rfl, fun U hU hW => ⟨rfl, by rw [hU], by rw [hU]; exact hPc, kk_mv hW hK, hDw⟩⟩ rfl rfl hl.1 rfl (lv_room (Nat.le_of_ble_eq_true rfl)) dB_3_3_6.2.2.2.1 ⟨Nat.le_of_ble_eq_true rfl, Nat.le_of_ble_eq_true rfl⟩) hS (fun q _ h => hFc q h) hFc (fun r_85 u t H locs ht hvm hw hB hz1 hk1 hS => ?_)
      obtain ⟨n1_86, g_87, hP1, hD1⟩ := hB
      rw [ht] at hP1
      obtain ⟨hP, hD⟩ := va_join (wr := [az_ cy g15 4 f15, ai_ cy g17 4 f17, ai_ cy g18 24 f18, aj_ cy g19 120 f19, aj_ cy g20 5 f20]) (w1 := [ob12_0_ mo 0 n1_86 t2 s3 s4 g5 g6 g7 g8 g9 g10 s11 g12 g13 g14 g15 g16 g17 g18 g19 g20 s21 g22 g23 g24 s25 s26 s27 s28 g29 g30 g31 g32 g33]) hP hD [0] [1, 2, 3, 4, 5] hC_ rfl (by decide) (by decide) hk1 hFc hP1 hD1
      refine pd_S hP hD [ob12_0_ mo 0 n1_86 t2 s3 s4 g5 g6 g7 g8 g9 g10 s11 g12 g13 g14 g15 g16 g17 g18 g19 g20 s21 g22 g23 g24 s25 s26 s27 s28 g29 g30 g31 g32 g33, az_ cy g15 4 f15, ai_ cy g17 4 f17, ai_ cy g18 24 f18, aj_ cy g19 120 f19, aj_ cy g20 5 f20] [5, 0, 1, 2, 3, 4] (by decide) rfl (fun hP hD => ?_)
      have f0_r_85 := hw
      have hno_ := g_87
      rw [hQ]
      exact W.iret (v := r_85) hx hb hr (fun t ht hW => ⟨⟨r_85, (), rfl, (by first | (have h9 := congrArg Int32.toInt f0_r_85; unfold cpyI; (repeat' (first | with_reducible refine if_n (by omega) ?_ | with_reducible refine if_ns (by omega) ?_ | with_reducible refine if_nz (by omega) ?_ | with_reducible exact if_p (by omega) (by omega) | with_reducible exact if_ps (by omega) (by omega) | with_reducible exact if_pz (by omega) (by omega))) <;> omega) | (unfold cpyI; (repeat' (first | with_reducible refine if_n (by omega) ?_ | with_reducible refine if_ns (by omega) ?_ | with_reducible refine if_nz (by omega) ?_ | with_reducible exact if_p (by omega) (by omega) | with_reducible exact if_ps (by omega) (by omega) | with_reducible exact if_pz (by omega) (by omega))) <;> omega)), n1_86, f19, f20, (by first | (have h9 := congrArg Int32.toInt hno_; unfold cpyI; (repeat' (first | with_reducible refine if_n (by omega) ?_ | with_reducible refine if_ns (by omega) ?_ | with_reducible refine if_nz (by omega) ?_ | with_reducible exact if_p (by omega) (by omega) | with_reducible exact if_ps (by omega) (by omega) | with_reducible exact if_pz (by omega) (by omega))) <;> omega) | (unfold cpyI; (repeat' (first | with_reducible refine if_n (by omega) ?_ | with_reducible refine if_ns (by omega) ?_ | with_reducible refine if_nz (by omega) ?_ | with_reducible exact if_p (by omega) (by omega) | with_reducible exact if_ps (by omega) (by omega) | with_reducible exact if_pz (by omega) (by omega))) <;> omega)), (by first | exact ⟨fun _ => rfl, fun h => absurd h (by first | omega | (have h9_ := congrArg Int32.toInt hno_; omega) | decide)⟩ | exact ⟨fun h => absurd (by first | omega | (have h9_ := congrArg Int32.toInt hno_; omega) | decide) h, fun _ => h9_⟩), by rw [ht]; exact hP, hD⟩, hS.F ht⟩) hS.2.2 dB_3_3_6.2.2.2.2
end
