section
set_option maxHeartbeats 4000000 in
set_option maxRecDepth 100000 in
theorem c_X12_read3 (l : Launch) (D : va_G) (cy : Nat → ClassId) (sz : Nat) (mo : Nat) (g5 : Nat) (g6 : Nat) (g7 : Nat) (g8 : Nat) (g9 : Nat) (g10 : Nat) (g12 : Nat) (g13 : Nat) (g14 : Nat) (g15 : Nat) (g16 : Nat) (g17 : Nat) (g18 : Nat) (g19 : Nat) (g20 : Nat) (g22 : Nat) (g23 : Nat) (g24 : Nat) (g29 : Nat) (g30 : Nat) (g31 : Nat) (g32 : Nat) (g33 : Nat) (s0 : Int32) (s1 : Int32) (s3 : Int32) (s4 : Int32) (s11 : Int32) (s21 : Int32) (s25 : Int32) (s26 : Int32) (s27 : Int32) (s28 : Int32) (t2 : Int64) (f5 : Nat → Int32) (f6 : Nat → Int32) (f7 : Nat → Int32) (f8 : Nat → Int32) (f9 : Nat → Int32) (f10 : Nat → Int32) (f12 : Nat → Int32) (f13 : Nat → Int32) (f14 : Nat → Int32) (f15 : Nat → Int32) (f17 : Nat → Int32) (f18 : Nat → Int32) (f19 : Nat → Int64) (a1 : Int32) (hN : 0 ≤ s4.toInt ∧ s4.toInt ≤ 40) (hPl : 0 ≤ s3.toInt ∧ s3.toInt ≤ 12) (hU : 0 ≤ s11.toInt ∧ s11.toInt ≤ 30) (hnet : netE s3.toInt s4.toInt f6 f7 f10) (hpast : pastE s11.toInt f12 f13 f14) (hlk : lok f18 24) (r_f6 : rng f6 40 (0) (11)) (r_f7 : rng f7 40 (0) (11)) (r_f8 : rng f8 40 (0) (2000)) (r_f9 : rng f9 40 (0) (100)) (r_f12 : rng f12 30 (0) (12)) (r_f13 : rng f13 30 (0) (40)) (r_f17 : rng f17 4 (0) (6)) (r_f18 : rng f18 24 (-9) (5)) (r_f14 : orng f14 6000) : Met l yX12_read wsX12_read ({ frames := 2, cells := 0, slots := 0, locals := 56 }) (va_Pc [.ref mo, .int a1] (fun U => U.heap.size = sz ∧ va_P D vwCl [ob12_0_ mo s0 s1 t2 s3 s4 g5 g6 g7 g8 g9 g10 s11 g12 g13 g14 g15 g16 g17 g18 g19 g20 s21 g22 g23 g24 s25 s26 s27 s28 g29 g30 g31 g32 g33, ai_ cy g5 40 f5, ai_ cy g6 40 f6, ai_ cy g7 40 f7, ai_ cy g8 40 f8, ai_ cy g9 40 f9, az_ cy g10 40 f10, ai_ cy g12 30 f12, ai_ cy g13 30 f13, ai_ cy g14 6000 f14, az_ cy g15 4 f15, ai_ cy g17 4 f17, ai_ cy g18 24 f18, aj_ cy g19 120 f19] U.heap ∧ kk_ D cy U ∧ va_D (fun _ => True) [ob12_0_ mo s0 s1 t2 s3 s4 g5 g6 g7 g8 g9 g10 s11 g12 g13 g14 g15 g16 g17 g18 g19 g20 s21 g22 g23 g24 s25 s26 s27 s28 g29 g30 g31 g32 g33, ai_ cy g5 40 f5, ai_ cy g6 40 f6, ai_ cy g7 40 f7, ai_ cy g8 40 f8, ai_ cy g9 40 f9, az_ cy g10 40 f10, ai_ cy g12 30 f12, ai_ cy g13 30 f13, ai_ cy g14 6000 f14, az_ cy g15 4 f15, ai_ cy g17 4 f17, ai_ cy g18 24 f18, aj_ cy g19 120 f19])) (va_Qi (fun (r : Int32) (_ : Unit) => ((¬ (0 ≤ a1.toInt ∧ a1.toInt < 4) → r.toInt = -1) ∧ ((0 ≤ a1.toInt ∧ a1.toInt < 4) → (f15 a1.toNatClampNeg).toInt = 0 → r.toInt = 0) ∧ ((0 ≤ a1.toInt ∧ a1.toInt < 4) → (f15 a1.toNatClampNeg).toInt ≠ 0 → ∃ st : Int, rdn (rwR f18 f19 a1.toNatClampNeg s3.toInt) s4.toInt (f17 a1.toNatClampNeg).toInt r.toInt st))) (fun (_ : Unit) (t : State) => ∃ (n1 : Int32), ∃ (n2 : Int64), ∃ (n4 : Int32), ∃ (n11 : Int32), ∃ (e5 : Nat → Int32), ∃ (e6 : Nat → Int32), ∃ (e7 : Nat → Int32), ∃ (e8 : Nat → Int32), ∃ (e9 : Nat → Int32), ∃ (e10 : Nat → Int32), ∃ (e12 : Nat → Int32), ∃ (e13 : Nat → Int32), ∃ (e14 : Nat → Int32), (0 ≤ n4.toInt ∧ n4.toInt ≤ 40) ∧ (0 ≤ n11.toInt ∧ n11.toInt ≤ 30) ∧ (netE s3.toInt n4.toInt e6 e7 e10) ∧ (pastE n11.toInt e12 e13 e14) ∧ ((¬ (0 ≤ a1.toInt ∧ a1.toInt < 4) → n1.toInt = -1 ∧ kpn 0 s3 s4 f5 f6 f7 f8 f9 f10 s11.toInt f12 f13 f14 n11.toInt e12 e13 e14 n4 e5 e6 e7 e8 e9 e10) ∧ ((0 ≤ a1.toInt ∧ a1.toInt < 4) → (f15 a1.toNatClampNeg).toInt = 0 → n1.toInt = -11 ∧ kpn 0 s3 s4 f5 f6 f7 f8 f9 f10 s11.toInt f12 f13 f14 n11.toInt e12 e13 e14 n4 e5 e6 e7 e8 e9 e10) ∧ ((0 ≤ a1.toInt ∧ a1.toInt < 4) → (f15 a1.toNatClampNeg).toInt ≠ 0 → ∃ c : Int, rdn (rwR f18 f19 a1.toNatClampNeg s3.toInt) s4.toInt (f17 a1.toNatClampNeg).toInt c n1.toInt ∧ kpn c s3 s4 f5 f6 f7 f8 f9 f10 s11.toInt f12 f13 f14 n11.toInt e12 e13 e14 n4 e5 e6 e7 e8 e9 e10 ∧ apR s4.toInt c f5 f6 f7 f8 f9 f10 e5 e6 e7 e8 e9 e10 f19 (30 * a1.toNatClampNeg) ∧ n4.toInt = s4.toInt + c)) ∧ (rng e6 40 (0) (11)) ∧ (rng e7 40 (0) (11)) ∧ (rng e8 40 (0) (2000)) ∧ (rng e9 40 (0) (100)) ∧ (rng e12 30 (0) (12)) ∧ (rng e13 30 (0) (40)) ∧ (orng e14 6000) ∧ va_P D vwCl [ob12_0_ mo 0 n1 n2 s3 n4 g5 g6 g7 g8 g9 g10 n11 g12 g13 g14 g15 g16 g17 g18 g19 g20 s21 g22 g23 g24 s25 s26 s27 s28 g29 g30 g31 g32 g33, ai_ cy g5 40 e5, ai_ cy g6 40 e6, ai_ cy g7 40 e7, ai_ cy g8 40 e8, ai_ cy g9 40 e9, az_ cy g10 40 e10, ai_ cy g12 30 e12, ai_ cy g13 30 e13, ai_ cy g14 6000 e14, az_ cy g15 4 f15, ai_ cy g17 4 f17, ai_ cy g18 24 f18, aj_ cy g19 120 f19] t.heap ∧ va_D (va_A [ob12_0_ mo s0 s1 t2 s3 s4 g5 g6 g7 g8 g9 g10 s11 g12 g13 g14 g15 g16 g17 g18 g19 g20 s21 g22 g23 g24 s25 s26 s27 s28 g29 g30 g31 g32 g33, ai_ cy g5 40 f5, ai_ cy g6 40 f6, ai_ cy g7 40 f7, ai_ cy g8 40 f8, ai_ cy g9 40 f9, az_ cy g10 40 f10, ai_ cy g12 30 f12, ai_ cy g13 30 f13, ai_ cy g14 6000 f14, az_ cy g15 4 f15, ai_ cy g17 4 f17, ai_ cy g18 24 f18, aj_ cy g19 120 f19] sz) [ob12_0_ mo 0 n1 n2 s3 n4 g5 g6 g7 g8 g9 g10 n11 g12 g13 g14 g15 g16 g17 g18 g19 g20 s21 g22 g23 g24 s25 s26 s27 s28 g29 g30 g31 g32 g33, ai_ cy g5 40 e5, ai_ cy g6 40 e6, ai_ cy g7 40 e7, ai_ cy g8 40 e8, ai_ cy g9 40 e9, az_ cy g10 40 e10, ai_ cy g12 30 e12, ai_ cy g13 30 e13, ai_ cy g14 6000 e14, az_ cy g15 4 f15, ai_ cy g17 4 f17, ai_ cy g18 24 f18, aj_ cy g19 120 f19]) (va_A [ob12_0_ mo s0 s1 t2 s3 s4 g5 g6 g7 g8 g9 g10 s11 g12 g13 g14 g15 g16 g17 g18 g19 g20 s21 g22 g23 g24 s25 s26 s27 s28 g29 g30 g31 g32 g33, ai_ cy g5 40 f5, ai_ cy g6 40 f6, ai_ cy g7 40 f7, ai_ cy g8 40 f8, ai_ cy g9 40 f9, az_ cy g10 40 f10, ai_ cy g12 30 f12, ai_ cy g13 30 f13, ai_ cy g14 6000 f14, az_ cy g15 4 f15, ai_ cy g17 4 f17, ai_ cy g18 24 f18, aj_ cy g19 120 f19] sz)) 0 0 (va_A [ob12_0_ mo s0 s1 t2 s3 s4 g5 g6 g7 g8 g9 g10 s11 g12 g13 g14 g15 g16 g17 g18 g19 g20 s21 g22 g23 g24 s25 s26 s27 s28 g29 g30 g31 g32 g33, ai_ cy g5 40 f5, ai_ cy g6 40 f6, ai_ cy g7 40 f7, ai_ cy g8 40 f8, ai_ cy g9 40 f9, az_ cy g10 40 f10, ai_ cy g12 30 f12, ai_ cy g13 30 f13, ai_ cy g14 6000 f14, az_ cy g15 4 f15, ai_ cy g17 4 f17, ai_ cy g18 24 f18, aj_ cy g19 120 f19] sz) := by
  refine ofQ (cc := cX12_read) (maxL := 7) (ret := (some .int)) (by decide) rfl ?_
  intro p e s m args below meth c s₁ Q hQ B hml hv
  obtain ⟨rfl, hsz, hP, hK, hD0⟩ := hv
  have hx := B.exec
  have hb := B.bytes
  have hr := B.returns
  have hts := atoms_spec (ws := wsX12_read) B.pre
  have hown : s.vm.findClass RX12 = some m.cls := by have h_ := findClass_of_methodNamed B.named; exact h_
  have hlocks := B.notSynchronized
  subst hsz
  have hD := hD0.self (sz := s.heap.size)
  generalize hAe : va_A [ob12_0_ mo s0 s1 t2 s3 s4 g5 g6 g7 g8 g9 g10 s11 g12 g13 g14 g15 g16 g17 g18 g19 g20 s21 g22 g23 g24 s25 s26 s27 s28 g29 g30 g31 g32 g33, ai_ cy g5 40 f5, ai_ cy g6 40 f6, ai_ cy g7 40 f7, ai_ cy g8 40 f8, ai_ cy g9 40 f9, az_ cy g10 40 f10, ai_ cy g12 30 f12, ai_ cy g13 30 f13, ai_ cy g14 6000 f14, az_ cy g15 4 f15, ai_ cy g17 4 f17, ai_ cy g18 24 f18, aj_ cy g19 120 f19] s.heap.size = A at hD hQ
  have hA : ∀ q : Nat, s.heap.size ≤ q → A q := fun q h => by rw [← hAe]; exact Or.inr h
  have hS : va_S A s.heap s.heap [] := va_S.rf
  have hl := lv_entry ([.ref mo, .int a1]) (n := 7) (Nat.le_of_ble_eq_true rfl)
  rw [lg_entry_eq]
  generalize (lg_sl ([.ref mo, .int a1]) ++ List.replicate (7 - (lg_sl ([.ref mo, .int a1])).length) Slot.unset).toArray = ls at hl ⊢
  have hl : lv_has ls 7 [(0, .ref mo), (1, .int a1)] := hl
  have zm12 : ((-12) : Int32).toInt = -12 := by decide
  have zm11 : ((-11) : Int32).toInt = -11 := by decide
  have zm9 : ((-9) : Int32).toInt = -9 := by decide
  have zm3 : ((-3) : Int32).toInt = -3 := by decide
  have zm1 : ((-1) : Int32).toInt = -1 := by decide
  have z0 : (0 : Int32).toInt = 0 := by decide
  have zl0 : (0 : Int64).toInt = 0 := by decide
  have z1 : (1 : Int32).toInt = 1 := by decide
  have z2 : (2 : Int32).toInt = 2 := by decide
  have z3 : (3 : Int32).toInt = 3 := by decide
  have zl3 : (3 : Int64).toInt = 3 := by decide
  have z4 : (4 : Int32).toInt = 4 := by decide
  have z5 : (5 : Int32).toInt = 5 := by decide
  have z6 : (6 : Int32).toInt = 6 := by decide
  have z30 : (30 : Int32).toInt = 30 := by decide
  refine lv_aload_n hx hb dB_3_3_30.1.1.1.1 rfl (lv_at hl 0 rfl) ?_
  refine lv_iconst (v := 0) hx hb dB_3_3_30.1.1.1.2 (by decide) ?_
  refine va_put (ci := 12) (v := .int 0) (ty := .int) (C := RX12) (T := TX12) (N := 34) hx hb hts (fun _ h => List.mem_cons_of_mem _ (List.mem_append_right _ h)) tyX12 tyX12_ok nmX12 hown hK.1 hP hD hS 0 rfl rfl 0 (by decide) (hts (.fieldLink RX12 85 "CutAtlasModel" "thrown" "I") (List.mem_of_getElem? (i := 1) rfl)) (fun _ h9 => h9) rfl (by decide +kernel) rfl rfl (Nat.le_of_ble_eq_true rfl) dB_3_3_30.1.1.2.1 (fun H locs hP hD hS => ?_)
  refine pd_K [ob12_0_ mo 0 s1 t2 s3 s4 g5 g6 g7 g8 g9 g10 s11 g12 g13 g14 g15 g16 g17 g18 g19 g20 s21 g22 g23 g24 s25 s26 s27 s28 g29 g30 g31 g32 g33, ai_ cy g5 40 f5, ai_ cy g6 40 f6, ai_ cy g7 40 f7, ai_ cy g8 40 f8, ai_ cy g9 40 f9, az_ cy g10 40 f10, ai_ cy g12 30 f12, ai_ cy g13 30 f13, ai_ cy g14 6000 f14, az_ cy g15 4 f15, ai_ cy g17 4 f17, ai_ cy g18 24 f18, aj_ cy g19 120 f19] hP hD (fun hP hD => ?_)
  refine lv_aload_n hx hb dB_3_3_30.1.1.2.2 rfl (lv_at hl 0 rfl) ?_
  refine lv_iconst (v := 0) hx hb dB_3_3_30.1.2.1.1 (by decide) ?_
  refine va_put (ci := 12) (v := .int 0) (ty := .int) (C := RX12) (T := TX12) (N := 34) hx hb hts (fun _ h => List.mem_cons_of_mem _ (List.mem_append_right _ h)) tyX12 tyX12_ok nmX12 hown hK.1 hP hD hS 0 rfl rfl 1 (by decide) (hts (.fieldLink RX12 240 "CutAtlasModel" "status" "I") (List.mem_of_getElem? (i := 2) rfl)) (fun _ h9 => h9) rfl (by decide +kernel) rfl rfl (Nat.le_of_ble_eq_true rfl) dB_3_3_30.1.2.1.2 (fun H locs hP hD hS => ?_)
  refine pd_K [ob12_0_ mo 0 0 t2 s3 s4 g5 g6 g7 g8 g9 g10 s11 g12 g13 g14 g15 g16 g17 g18 g19 g20 s21 g22 g23 g24 s25 s26 s27 s28 g29 g30 g31 g32 g33, ai_ cy g5 40 f5, ai_ cy g6 40 f6, ai_ cy g7 40 f7, ai_ cy g8 40 f8, ai_ cy g9 40 f9, az_ cy g10 40 f10, ai_ cy g12 30 f12, ai_ cy g13 30 f13, ai_ cy g14 6000 f14, az_ cy g15 4 f15, ai_ cy g17 4 f17, ai_ cy g18 24 f18, aj_ cy g19 120 f19] hP hD (fun hP hD => ?_)
  refine lv_iload_n hx hb dB_3_3_30.1.2.2.1 rfl (lv_at hl 1 rfl) ?_
  refine lv_i2l (v := a1.toInt64) hx hb dB_3_3_30.1.2.2.2 rfl ?_
  have q_11 : (a1.toInt64).toInt = a1.toInt := Int32.toInt_toInt64 a1
  refine lv_lconst (v := 0) hx hb dB_3_3_30.2.1.1.1 (by decide) ?_
  refine lv_ldc2 (v := 3) hx hb hown (hts (.constantLong RX12 243 (3)) (List.mem_of_getElem? (i := 3) rfl)) dB_3_3_30.2.1.1.2 ?_
  refine ct_R hP hD [] [] (by decide) rfl (fun hPc hDw => ?_)
  have hFc := va_free (wc := []) hD hS hA [] rfl
  refine va_calli (va_runS (As := [.long a1.toInt64, .long 0, .long 3]) (rest := []) ⟨hx, hb, hml, hown, hts⟩ (c_X12_in l D cy H.size a1.toInt64 (0 : Int64) (3 : Int64)) (va_cwS 3 hts gX12_read_X12_in rfl rfl rfl hd_X12_in ⟨Nat.le_of_ble_eq_true rfl, Nat.le_of_ble_eq_true rfl⟩) ⟨bl_, fun U hU hW => ⟨rfl, by rw [hU], by rw [hU]; exact hPc, kk_mv hW hK, hDw⟩⟩ rfl rfl hl.1 rfl (lv_room (Nat.le_of_ble_eq_true rfl)) dB_3_3_30.2.1.2.1 ⟨Nat.le_of_ble_eq_true rfl, Nat.le_of_ble_eq_true rfl⟩) hS (fun q _ h => hFc q h) hFc (fun r_1 u t H locs ht hvm hw hB hz1 hk1 hS => ?_)
  have hP : va_P D vwCl _ H := ro_keep hP hk1
  rcases hw with ⟨w_2, e_⟩ | ⟨w_2, e_⟩
  · have e_ := e_.symm
    subst e_
    refine lv_if_ne (tgt := 28) hx hb dB_3_3_30.2.1.2.2 (by decide) (fun c_3 => ?_) (fun c_3 => ?_)
    · have _ := c_3
      have cA_ := clI (i := a1) (by omega)
      refine lv_aload_n hx hb dB_3_3_31.1.1.1.1 rfl (lv_at hl 0 rfl) ?_
      refine va_get (ci := 12) (v := .ref g15) (C := RX12) (T := TX12) (N := 34) hx hb hts (fun _ h => List.mem_cons_of_mem _ (List.mem_append_right _ h)) hown hK.1 hP 0 rfl rfl 15 (by decide) (hts (.fieldLink RX12 38 "CutAtlasModel" "hasMap" "[Z") (List.mem_of_getElem? (i := 4) rfl)) (fun _ h9 => h9) rfl dB_3_3_31.1.1.1.2 ?_
      refine lv_iload_n hx hb dB_3_3_31.1.1.2.1 rfl (lv_at hl 1 rfl) ?_
      have h_4 : vp_in a1 4 := in_I (by first | with_reducible assumption | omega) (by omega)
      refine va_zald hx hb hK.1 hP 10 2 rfl rfl (i := a1) h_4 dB_3_3_31.1.1.2.2 ?_
      refine lv_topi (fun y_5 ey_5 => ?_)
      have ky_5 : y_5.toInt = (f15 a1.toNatClampNeg).toInt := by rw [ey_5]
      refine lv_if_ne (tgt := 45) hx hb dB_3_3_31.1.2.1.1 (by decide) (fun c_6 => ?_) (fun c_6 => ?_)
      · have t_6 : ¬ y_5.toInt = (0 : Int32).toInt := fun h => c_6 (Int32.toInt_inj.mp h)
        have h17_ := r_f17 a1.toNatClampNeg (by omega)
        refine lv_iconst (v := 0) hx hb dB_3_3_31.2.1.2.1 (by decide) ?_
        refine lv_istore_n (lv' := [(2, .int 0), (0, .ref mo), (1, .int a1)]) hx hb dB_3_3_31.2.1.2.2 rfl hl (by decide) rfl (fun ls hl => ?_)
        refine lv_iconst (v := 0) hx hb dB_3_3_31.2.2.1.1 (by decide) ?_
        refine lv_istore_n (lv' := [(3, .int 0), (2, .int 0), (0, .ref mo), (1, .int a1)]) hx hb dB_3_3_31.2.2.1.2 rfl hl (by decide) rfl (fun ls hl => ?_)
        suffices LOOP_7 : ∀ (n_7 : Nat) (x3_7 : Int32) (x2_7 : Int32) (o2_7 : Int64) (o4_7 : Int32) (o11_7 : Int32) (c_g5_7 : Nat → Int32) (c_g6_7 : Nat → Int32) (c_g7_7 : Nat → Int32) (c_g8_7 : Nat → Int32) (c_g9_7 : Nat → Int32) (c_g10_7 : Nat → Int32) (c_g12_7 : Nat → Int32) (c_g13_7 : Nat → Int32) (c_g14_7 : Nat → Int32) (H : Heap) (locs : List Loc) (ls : Array Slot), 6 - x3_7.toInt < (n_7 : Int) → (0 ≤ x3_7.toInt) → (x3_7.toInt ≤ 6) → (x2_7.toInt = x3_7.toInt) → (0 ≤ o4_7.toInt ∧ o4_7.toInt ≤ 40) → (0 ≤ o11_7.toInt ∧ o11_7.toInt ≤ 30) → (netE s3.toInt o4_7.toInt c_g6_7 c_g7_7 c_g10_7) → (pastE o11_7.toInt c_g12_7 c_g13_7 c_g14_7) → (∀ i : Nat, (i : Int) < x2_7.toInt → rwR f18 f19 a1.toNatClampNeg s3.toInt i (s4.toInt + i) = 0) → (apR s4.toInt x2_7.toInt f5 f6 f7 f8 f9 f10 c_g5_7 c_g6_7 c_g7_7 c_g8_7 c_g9_7 c_g10_7 f19 (30 * a1.toNatClampNeg)) → (kpn x2_7.toInt s3 s4 f5 f6 f7 f8 f9 f10 s11.toInt f12 f13 f14 o11_7.toInt c_g12_7 c_g13_7 c_g14_7 o4_7 c_g5_7 c_g6_7 c_g7_7 c_g8_7 c_g9_7 c_g10_7) → (o4_7.toInt = s4.toInt + x2_7.toInt) → (x3_7.toInt ≤ (f17 a1.toNatClampNeg).toInt) → (rng c_g6_7 40 (0) (11)) → (rng c_g7_7 40 (0) (11)) → (rng c_g8_7 40 (0) (2000)) → (rng c_g9_7 40 (0) (100)) → (rng c_g12_7 30 (0) (12)) → (rng c_g13_7 30 (0) (40)) → (orng c_g14_7 6000) → pd_2 D vwCl A [ob12_0_ mo 0 0 o2_7 s3 o4_7 g5 g6 g7 g8 g9 g10 o11_7 g12 g13 g14 g15 g16 g17 g18 g19 g20 s21 g22 g23 g24 s25 s26 s27 s28 g29 g30 g31 g32 g33, ai_ cy g5 40 c_g5_7, ai_ cy g6 40 c_g6_7, ai_ cy g7 40 c_g7_7, ai_ cy g8 40 c_g8_7, ai_ cy g9 40 c_g9_7, az_ cy g10 40 c_g10_7, ai_ cy g12 30 c_g12_7, ai_ cy g13 30 c_g13_7, ai_ cy g14 6000 c_g14_7, az_ cy g15 4 f15, ai_ cy g17 4 f17, ai_ cy g18 24 f18, aj_ cy g19 120 f19] H → va_S A s.heap H locs → lv_has ls 7 [(3, .int x3_7), (2, .int x2_7), (0, .ref mo), (1, .int a1)] → W p l e ({ frames := 2, cells := 0, slots := 0, locals := 56 } : Room) s m (([.ref mo, .int a1] : List Value).toArray) below meth c H locs 0 0 Q (F0 m 49 ls []) from LOOP_7 ((6 - (0 : Int32).toInt).toNat + 1) (0 : Int32) (0 : Int32) t2 s4 s11 f5 f6 f7 f8 f9 f10 f12 f13 f14 _ _ _ (by omega) (by first | with_reducible assumption | omega | assumption) (by first | with_reducible assumption | omega | assumption) (by first | with_reducible assumption | omega | assumption) (by first | with_reducible assumption | omega | assumption) (by first | with_reducible assumption | omega | assumption) (by first | exact hne_ | assumption) (by first | exact hpa_ | assumption) (by first | exact rws_st v_none (hrw2_.trans (by decide)) (by omega) (by omega) | (intro i hi; omega)) (by first | exact apR_0 | exact hap_ _ (by omega)) (by first | exact kpn_0 | exact kpn_p (by omega) hkp_) (by first | with_reducible assumption | omega | assumption) (by first | with_reducible assumption | omega | assumption) (by first | with_reducible assumption | assumption | exact rng_zero (by omega) (by omega) | exact orng_zero) (by first | with_reducible assumption | assumption | exact rng_zero (by omega) (by omega) | exact orng_zero) (by first | with_reducible assumption | assumption | exact rng_zero (by omega) (by omega) | exact orng_zero) (by first | with_reducible assumption | assumption | exact rng_zero (by omega) (by omega) | exact orng_zero) (by first | with_reducible assumption | assumption | exact rng_zero (by omega) (by omega) | exact orng_zero) (by first | with_reducible assumption | assumption | exact rng_zero (by omega) (by omega) | exact orng_zero) (by first | with_reducible assumption | assumption | exact rng_zero (by omega) (by omega) | exact orng_zero) ⟨hP, hD⟩ hS (lv_sub hl [0, 1, 2, 3] rfl)
        intro n_7
        induction n_7 with
        | zero =>
          intro x3_7 x2_7 o2_7 o4_7 o11_7 c_g5_7 c_g6_7 c_g7_7 c_g8_7 c_g9_7 c_g10_7 c_g12_7 c_g13_7 c_g14_7 H locs ls hm v0_7 v1_7 v2_7 v3_7 v4_7 v5_7 v6_7 v7_7 v8_7 v9_7 v10_7 v11_7 rc_g6_7 rc_g7_7 rc_g8_7 rc_g9_7 rc_g12_7 rc_g13_7 rc_g14_7 hPD hS hl; obtain ⟨hP, hD⟩ := hPD
          exact absurd hm (by omega)
        | succ n_7 ih_7 =>
          intro x3_7 x2_7 o2_7 o4_7 o11_7 c_g5_7 c_g6_7 c_g7_7 c_g8_7 c_g9_7 c_g10_7 c_g12_7 c_g13_7 c_g14_7 H locs ls hm v0_7 v1_7 v2_7 v3_7 v4_7 v5_7 v6_7 v7_7 v8_7 v9_7 v10_7 v11_7 rc_g6_7 rc_g7_7 rc_g8_7 rc_g9_7 rc_g12_7 rc_g13_7 rc_g14_7 hPD hS hl; obtain ⟨hP, hD⟩ := hPD
          refine lv_iload_n hx hb dB_3_3_31.2.2.2.1 rfl (lv_at hl 0 rfl) ?_
          refine lv_aload_n hx hb dB_3_3_31.2.2.2.2 rfl (lv_at hl 2 rfl) ?_
          refine va_get (ci := 12) (v := .ref g17) (C := RX12) (T := TX12) (N := 34) hx hb hts (fun _ h => List.mem_cons_of_mem _ (List.mem_append_right _ h)) hown hK.1 hP 0 rfl rfl 17 (by decide) (hts (.fieldLink RX12 44 "CutAtlasModel" "mapRows" "[I") (List.mem_of_getElem? (i := 5) rfl)) (fun _ h9 => h9) rfl dB_3_3_32.1.1.1.1 ?_
          refine lv_iload_n hx hb dB_3_3_32.1.1.1.2 rfl (lv_at hl 3 rfl) ?_
          refine va_iald hx hb hK.1 hP 11 0 rfl rfl (i := a1) h_4 dB_3_3_32.1.1.2.1 ?_
          refine lv_topi (fun y_9 ey_9 => ?_)
          have ky_9 : y_9.toInt = (f17 a1.toNatClampNeg).toInt := by rw [ey_9]
          have ry_9 : 0 ≤ y_9.toInt ∧ y_9.toInt ≤ 6 := by rw [ey_9]; exact r_f17 _ (in_lt h_4)
          refine lv_icmp_ge (tgt := 236) hx hb dB_3_3_32.1.1.2.2 (by decide) (fun c_10 => ?_) (fun c_10 => ?_)
          · have t_10 : y_9.toInt ≤ x3_7.toInt := Int32.le_iff_toInt_le.mp c_10
            refine lv_iload_n hx hb dB_3_3_38.2.2.2.2 rfl (lv_at hl 1 rfl) ?_
            rw [hQ]
            exact W.iret (v := x2_7) hx hb hr (fun t ht hW => ⟨⟨x2_7, (), rfl, (⟨fun h => absurd (by omega) h, fun _ h => absurd h (by omega), fun _ _ => ⟨_, rdn_all (by omega) v7_7 rfl⟩⟩), (0 : Int32), o2_7, o4_7, o11_7, c_g5_7, c_g6_7, c_g7_7, c_g8_7, c_g9_7, c_g10_7, c_g12_7, c_g13_7, c_g14_7, (by first | with_reducible assumption | omega | assumption), (by first | with_reducible assumption | omega | assumption), (by assumption), (by assumption), (⟨fun h => absurd (by omega) h, fun _ h => absurd h (by omega), fun _ _ => ⟨x2_7.toInt, rdn_all (by omega) v7_7 (by decide), v9_7, v8_7, by omega⟩⟩), (by first | with_reducible assumption | assumption | exact rng_zero (by omega) (by omega) | omega), (by first | with_reducible assumption | assumption | exact rng_zero (by omega) (by omega) | omega), (by first | with_reducible assumption | assumption | exact rng_zero (by omega) (by omega) | omega), (by first | with_reducible assumption | assumption | exact rng_zero (by omega) (by omega) | omega), (by first | with_reducible assumption | assumption | exact rng_zero (by omega) (by omega) | omega), (by first | with_reducible assumption | assumption | exact rng_zero (by omega) (by omega) | omega), (by first | with_reducible assumption | assumption | exact rng_zero (by omega) (by omega) | omega), by rw [ht]; exact hP, hD⟩, hS.F ht⟩) hS.2.2 dB_3_3_39
          · have t_10 : ¬ y_9.toInt ≤ x3_7.toInt := fun h => c_10 (Int32.le_iff_toInt_le.mpr h)
            have cL_ := clI (i := x3_7) (by omega)
            refine lv_aload_n hx hb dB_3_3_32.1.2.1.1 rfl (lv_at hl 2 rfl) ?_
            refine va_get (ci := 12) (v := .ref g18) (C := RX12) (T := TX12) (N := 34) hx hb hts (fun _ h => List.mem_cons_of_mem _ (List.mem_append_right _ h)) hown hK.1 hP 0 rfl rfl 18 (by decide) (hts (.fieldLink RX12 47 "CutAtlasModel" "rowSize" "[I") (List.mem_of_getElem? (i := 6) rfl)) (fun _ h9 => h9) rfl dB_3_3_32.1.2.1.2 ?_
            refine lv_bipush (v := 6) hx hb dB_3_3_32.1.2.2.1 (by decide) ?_
            refine lv_iload_n hx hb dB_3_3_32.1.2.2.2 rfl (lv_at hl 3 rfl) ?_
            refine lv_imul hx hb dB_3_3_32.2.1.1.1 ?_
            refine lv_topi (fun y_11 ey_11 => ?_)
            have ty_11 : y_11.toInt = 6 * a1.toInt := by rw [ey_11]; exact mulC (by decide) (by omega) (by omega)
            refine lv_iload_n hx hb dB_3_3_32.2.1.1.2 rfl (lv_at hl 0 rfl) ?_
            refine lv_iadd hx hb dB_3_3_32.2.1.2.1 ?_
            refine lv_topi (fun y_12 ey_12 => ?_)
            have ty_12 : y_12.toInt = y_11.toInt + x3_7.toInt := by rw [ey_12]; exact addI (by omega) (by omega)
            have h_13 : vp_in y_12 24 := in_I (by first | with_reducible assumption | omega) (by omega)
            refine va_iald hx hb hK.1 hP 12 0 rfl rfl (i := y_12) h_13 dB_3_3_32.2.1.2.2 ?_
            refine lv_topi (fun y_14 ey_14 => ?_)
            have ky_14 : y_14.toInt = (f18 y_12.toNatClampNeg).toInt := by rw [ey_14]
            have ry_14 : -9 ≤ y_14.toInt ∧ y_14.toInt ≤ 5 := by rw [ey_14]; exact r_f18 _ (in_lt h_13)
            have h18_ : y_14 = f18 (6 * a1.toNatClampNeg + x3_7.toNatClampNeg) := c18 ey_14 (by omega) (by omega) (by omega)
            have k18_ := congrArg Int32.toInt h18_
            have hlo_ := hlk (6 * a1.toNatClampNeg + x3_7.toNatClampNeg) (by omega)
            refine lv_istore (lv' := [(4, .int y_14), (3, .int x3_7), (2, .int x2_7), (0, .ref mo), (1, .int a1)]) hx hb dB_3_3_32.2.2.1.1 hl (by decide) rfl (fun ls hl => ?_)
            refine lv_bipush (v := 30) hx hb dB_3_3_32.2.2.1.2 (by decide) ?_
            refine lv_iload_n hx hb dB_3_3_32.2.2.2.1 rfl (lv_at hl 4 rfl) ?_
            refine lv_imul hx hb dB_3_3_32.2.2.2.2 ?_
            refine lv_topi (fun y_15 ey_15 => ?_)
            have ty_15 : y_15.toInt = 30 * a1.toInt := by rw [ey_15]; exact mulC (by decide) (by omega) (by omega)
            refine lv_iconst (v := 5) hx hb dB_3_3_33.1.1.1.1 (by decide) ?_
            refine lv_iload_n hx hb dB_3_3_33.1.1.1.2 rfl (lv_at hl 1 rfl) ?_
            refine lv_imul hx hb dB_3_3_33.1.1.2.1 ?_
            refine lv_topi (fun y_16 ey_16 => ?_)
            have ty_16 : y_16.toInt = 5 * x3_7.toInt := by rw [ey_16]; exact mulC (by decide) (by omega) (by omega)
            refine lv_iadd hx hb dB_3_3_33.1.1.2.2 ?_
            refine lv_topi (fun y_17 ey_17 => ?_)
            have ty_17 : y_17.toInt = y_15.toInt + y_16.toInt := by rw [ey_17]; exact addI (by omega) (by omega)
            refine lv_istore (lv' := [(5, .int y_17), (4, .int y_14), (3, .int x3_7), (2, .int x2_7), (0, .ref mo), (1, .int a1)]) hx hb dB_3_3_33.1.2.1.1 hl (by decide) rfl (fun ls hl => ?_)
            refine lv_iload hx hb dB_3_3_33.1.2.1.2 (lv_at hl 1 rfl) ?_
            refine lv_bipush (v := (-9)) hx hb dB_3_3_33.1.2.2.1 (by decide) ?_
            refine lv_icmp_ne (tgt := 94) hx hb dB_3_3_33.1.2.2.2 (by decide) (fun c_18 => ?_) (fun c_18 => ?_)
            · have t_18 : ¬ y_14.toInt = ((-9) : Int32).toInt := fun h => c_18 (Int32.toInt_inj.mp h)
              refine lv_iload hx hb dB_3_3_33.2.1.2.1 (lv_at hl 1 rfl) ?_
              refine lv_iconst (v := 5) hx hb dB_3_3_33.2.1.2.2 (by decide) ?_
              refine lv_icmp_ge (tgt := 105) hx hb dB_3_3_33.2.2.1.1 (by decide) (fun c_19 => ?_) (fun c_19 => ?_)
              · have t_19 : (5 : Int32).toInt ≤ y_14.toInt := Int32.le_iff_toInt_le.mp c_19
                refine lv_aload_n hx hb dB_3_3_33.2.2.2.2 rfl (lv_at hl 4 rfl) ?_
                refine lv_aload_n hx hb dB_3_3_34.1.1.1.1 rfl (lv_at hl 4 rfl) ?_
                refine va_get (ci := 12) (v := .ref g19) (C := RX12) (T := TX12) (N := 34) hx hb hts (fun _ h => List.mem_cons_of_mem _ (List.mem_append_right _ h)) hown hK.1 hP 0 rfl rfl 19 (by decide) (hts (.fieldLink RX12 50 "CutAtlasModel" "cells" "[J") (List.mem_of_getElem? (i := 7) rfl)) (fun _ h9 => h9) rfl dB_3_3_34.1.1.1.2 ?_
                refine lv_iload hx hb dB_3_3_34.1.1.2.1 (lv_at hl 0 rfl) ?_
                have h_20 : vp_in y_17 120 := in_I (by first | with_reducible assumption | omega) (by omega)
                refine va_lald hx hb hK.1 hP 13 1 rfl rfl (i := y_17) h_20 dB_3_3_34.1.1.2.2 ?_
                refine lv_topl (fun y_21 ey_21 => ?_)
                have c0_ : y_21 = f19 (30 * a1.toNatClampNeg + 5 * x3_7.toNatClampNeg + 0) := c19 (k := 0) ey_21 (by omega) (by omega) (by omega)
                have d0_ := congrArg Int64.toInt c0_
                refine lv_aload_n hx hb dB_3_3_34.1.2.1.1 rfl (lv_at hl 4 rfl) ?_
                refine va_get (ci := 12) (v := .ref g19) (C := RX12) (T := TX12) (N := 34) hx hb hts (fun _ h => List.mem_cons_of_mem _ (List.mem_append_right _ h)) hown hK.1 hP 0 rfl rfl 19 (by decide) (hts (.fieldLink RX12 50 "CutAtlasModel" "cells" "[J") (List.mem_of_getElem? (i := 7) rfl)) (fun _ h9 => h9) rfl dB_3_3_34.1.2.1.2 ?_
                refine lv_iload hx hb dB_3_3_34.1.2.2.1 (lv_at hl 0 rfl) ?_
                refine lv_iconst (v := 1) hx hb dB_3_3_34.1.2.2.2 (by decide) ?_
                refine lv_iadd hx hb dB_3_3_34.2.1.1.1 ?_
                refine lv_topi (fun y_22 ey_22 => ?_)
                have ty_22 : y_22.toInt = y_17.toInt + (1 : Int32).toInt := by rw [ey_22]; exact addI (by omega) (by omega)
                have h_23 : vp_in y_22 120 := in_I (by first | with_reducible assumption | omega) (by omega)
                refine va_lald hx hb hK.1 hP 13 1 rfl rfl (i := y_22) h_23 dB_3_3_34.2.1.1.2 ?_
                refine lv_topl (fun y_24 ey_24 => ?_)
                have c1_ : y_24 = f19 (30 * a1.toNatClampNeg + 5 * x3_7.toNatClampNeg + 1) := c19 (k := 1) ey_24 (by omega) (by omega) (by omega)
                have d1_ := congrArg Int64.toInt c1_
                refine lv_aload_n hx hb dB_3_3_34.2.1.2.1 rfl (lv_at hl 4 rfl) ?_
                refine va_get (ci := 12) (v := .ref g19) (C := RX12) (T := TX12) (N := 34) hx hb hts (fun _ h => List.mem_cons_of_mem _ (List.mem_append_right _ h)) hown hK.1 hP 0 rfl rfl 19 (by decide) (hts (.fieldLink RX12 50 "CutAtlasModel" "cells" "[J") (List.mem_of_getElem? (i := 7) rfl)) (fun _ h9 => h9) rfl dB_3_3_34.2.1.2.2 ?_
                refine lv_iload hx hb dB_3_3_34.2.2.1.1 (lv_at hl 0 rfl) ?_
                refine lv_iconst (v := 2) hx hb dB_3_3_34.2.2.1.2 (by decide) ?_
                refine lv_iadd hx hb dB_3_3_34.2.2.2.1 ?_
                refine lv_topi (fun y_25 ey_25 => ?_)
                have ty_25 : y_25.toInt = y_17.toInt + (2 : Int32).toInt := by rw [ey_25]; exact addI (by omega) (by omega)
                have h_26 : vp_in y_25 120 := in_I (by first | with_reducible assumption | omega) (by omega)
                refine va_lald hx hb hK.1 hP 13 1 rfl rfl (i := y_25) h_26 dB_3_3_34.2.2.2.2 ?_
                refine lv_topl (fun y_27 ey_27 => ?_)
                have c2_ : y_27 = f19 (30 * a1.toNatClampNeg + 5 * x3_7.toNatClampNeg + 2) := c19 (k := 2) ey_27 (by omega) (by omega) (by omega)
                have d2_ := congrArg Int64.toInt c2_
                refine lv_aload_n hx hb dB_3_3_35.1.1.1.1 rfl (lv_at hl 4 rfl) ?_
                refine va_get (ci := 12) (v := .ref g19) (C := RX12) (T := TX12) (N := 34) hx hb hts (fun _ h => List.mem_cons_of_mem _ (List.mem_append_right _ h)) hown hK.1 hP 0 rfl rfl 19 (by decide) (hts (.fieldLink RX12 50 "CutAtlasModel" "cells" "[J") (List.mem_of_getElem? (i := 7) rfl)) (fun _ h9 => h9) rfl dB_3_3_35.1.1.1.2 ?_
                refine lv_iload hx hb dB_3_3_35.1.1.2.1 (lv_at hl 0 rfl) ?_
                refine lv_iconst (v := 3) hx hb dB_3_3_35.1.1.2.2 (by decide) ?_
                refine lv_iadd hx hb dB_3_3_35.1.2.1.1 ?_
                refine lv_topi (fun y_28 ey_28 => ?_)
                have ty_28 : y_28.toInt = y_17.toInt + (3 : Int32).toInt := by rw [ey_28]; exact addI (by omega) (by omega)
                have h_29 : vp_in y_28 120 := in_I (by first | with_reducible assumption | omega) (by omega)
                refine va_lald hx hb hK.1 hP 13 1 rfl rfl (i := y_28) h_29 dB_3_3_35.1.2.1.2 ?_
                refine lv_topl (fun y_30 ey_30 => ?_)
                have c3_ : y_30 = f19 (30 * a1.toNatClampNeg + 5 * x3_7.toNatClampNeg + 3) := c19 (k := 3) ey_30 (by omega) (by omega) (by omega)
                have d3_ := congrArg Int64.toInt c3_
                refine lv_aload_n hx hb dB_3_3_35.1.2.2.1 rfl (lv_at hl 4 rfl) ?_
                refine va_get (ci := 12) (v := .ref g19) (C := RX12) (T := TX12) (N := 34) hx hb hts (fun _ h => List.mem_cons_of_mem _ (List.mem_append_right _ h)) hown hK.1 hP 0 rfl rfl 19 (by decide) (hts (.fieldLink RX12 50 "CutAtlasModel" "cells" "[J") (List.mem_of_getElem? (i := 7) rfl)) (fun _ h9 => h9) rfl dB_3_3_35.1.2.2.2 ?_
                refine lv_iload hx hb dB_3_3_35.2.1.1.1 (lv_at hl 0 rfl) ?_
                refine lv_iconst (v := 4) hx hb dB_3_3_35.2.1.1.2 (by decide) ?_
                refine lv_iadd hx hb dB_3_3_35.2.1.2.1 ?_
                refine lv_topi (fun y_31 ey_31 => ?_)
                have ty_31 : y_31.toInt = y_17.toInt + (4 : Int32).toInt := by rw [ey_31]; exact addI (by omega) (by omega)
                have h_32 : vp_in y_31 120 := in_I (by first | with_reducible assumption | omega) (by omega)
                refine va_lald hx hb hK.1 hP 13 1 rfl rfl (i := y_31) h_32 dB_3_3_35.2.1.2.2 ?_
                refine lv_topl (fun y_33 ey_33 => ?_)
                have c4_ : y_33 = f19 (30 * a1.toNatClampNeg + 5 * x3_7.toNatClampNeg + 4) := c19 (k := 4) ey_33 (by omega) (by omega) (by omega)
                have d4_ := congrArg Int64.toInt c4_
                refine ct_R hP hD [ob12_0_ mo 0 0 o2_7 s3 o4_7 g5 g6 g7 g8 g9 g10 o11_7 g12 g13 g14 g15 g16 g17 g18 g19 g20 s21 g22 g23 g24 s25 s26 s27 s28 g29 g30 g31 g32 g33] [0] (by decide) rfl (fun hPc hDw => ?_)
                have hFc := va_free (wc := []) hD hS hA [] rfl
                refine va_calli (va_runV (As := [.long y_21, .long y_24, .long y_27, .long y_30, .long y_33]) (rest := []) ⟨hx, hb, hml, hown, hts⟩ (c_X12_refused l D cy H.size mo g5 g6 g7 g8 g9 g10 g12 g13 g14 g15 g16 g17 g18 g19 g20 g22 g23 g24 g29 g30 g31 g32 g33 (0 : Int32) (0 : Int32) s3 o4_7 o11_7 s21 s25 s26 s27 s28 o2_7 y_21 y_24 y_27 y_30 y_33 (by first | with_reducible assumption | omega | assumption) (by first | with_reducible assumption | omega | assumption)) (cwV 5 hts gX12_read_X12_refused rfl rfl rfl ⟨rfl, hd_X12_refused⟩ ⟨Nat.le_of_ble_eq_true rfl, Nat.le_of_ble_eq_true rfl⟩) ⟨bl_, va_recvX hK.1 hP (ci := 12) (q0 := 0) rfl rfl, fun U hU hW => ⟨rfl, by rw [hU], by rw [hU]; exact hPc, kk_mv hW hK, hDw⟩⟩ rfl rfl hl.1 rfl (lv_room (Nat.le_of_ble_eq_true rfl)) dB_3_3_35.2.2.1.1 ⟨Nat.le_of_ble_eq_true rfl, Nat.le_of_ble_eq_true rfl⟩) hS (fun q _ h => hFc q h) hFc (fun r_34 u t H locs ht hvm hw hB hz1 hk1 hS => ?_)
                have hP : va_P D vwCl _ H := ro_keep hP hk1
                rcases hw with ⟨w_35, e_⟩ | ⟨w_35, e_⟩ | ⟨w_35, e_⟩
                · have e_ := e_.symm
                  subst e_
                  have hrw_ : ((-1) : Int32).toInt = rwR f18 f19 a1.toNatClampNeg s3.toInt x3_7.toNatClampNeg (s4.toInt + x3_7.toInt) := by unfold rwR rdI lnI; (repeat' split) <;> omega
                  have hrw2_ : rwR f18 f19 a1.toNatClampNeg s3.toInt x2_7.toInt.toNat (s4.toInt + x2_7.toInt) = ((-1) : Int32).toInt := by rw [hrw_, v2_7]; rfl
                  refine lv_istore (lv' := [(6, .int (-1)), (5, .int y_17), (4, .int y_14), (3, .int x3_7), (2, .int x2_7), (0, .ref mo), (1, .int a1)]) hx hb dB_3_3_35.2.2.1.2 hl (by decide) rfl (fun ls hl => ?_)
                  refine lv_iload hx hb dB_3_3_35.2.2.2.1 (lv_at hl 0 rfl) ?_
                  refine lv_if_ge (tgt := 167) hx hb dB_3_3_35.2.2.2.2 (by decide) (fun c_36 => ?_) (fun c_36 => ?_)
                  · exact absurd c_36 (by decide)
                  · have _ := c_36
                    refine lv_aload_n hx hb dB_3_3_36.1.1.1.1 rfl (lv_at hl 5 rfl) ?_
                    refine lv_iload hx hb dB_3_3_36.1.1.1.2 (lv_at hl 0 rfl) ?_
                    refine va_put (ci := 12) (v := .int (-1)) (ty := .int) (C := RX12) (T := TX12) (N := 34) hx hb hts (fun _ h => List.mem_cons_of_mem _ (List.mem_append_right _ h)) tyX12 tyX12_ok nmX12 hown hK.1 hP hD hS 0 rfl rfl 1 (by decide) (hts (.fieldLink RX12 240 "CutAtlasModel" "status" "I") (List.mem_of_getElem? (i := 2) rfl)) (fun _ h9 => h9) rfl (by decide +kernel) rfl rfl (Nat.le_of_ble_eq_true rfl) dB_3_3_36.1.1.2.1 (fun H locs hP hD hS => ?_)
                    refine pd_K [ob12_0_ mo 0 (-1) o2_7 s3 o4_7 g5 g6 g7 g8 g9 g10 o11_7 g12 g13 g14 g15 g16 g17 g18 g19 g20 s21 g22 g23 g24 s25 s26 s27 s28 g29 g30 g31 g32 g33, ai_ cy g5 40 c_g5_7, ai_ cy g6 40 c_g6_7, ai_ cy g7 40 c_g7_7, ai_ cy g8 40 c_g8_7, ai_ cy g9 40 c_g9_7, az_ cy g10 40 c_g10_7, ai_ cy g12 30 c_g12_7, ai_ cy g13 30 c_g13_7, ai_ cy g14 6000 c_g14_7, az_ cy g15 4 f15, ai_ cy g17 4 f17, ai_ cy g18 24 f18, aj_ cy g19 120 f19] hP hD (fun hP hD => ?_)
                    refine lv_iload_n hx hb dB_3_3_36.1.1.2.2 rfl (lv_at hl 4 rfl) ?_
                    rw [hQ]
                    exact W.iret (v := x2_7) hx hb hr (fun t ht hW => ⟨⟨x2_7, (), rfl, (⟨fun h => absurd (by omega) h, fun _ h => absurd h (by omega), fun _ _ => ⟨_, rdn_no (by omega) v7_7 hrw2_ (by omega)⟩⟩), ((-1) : Int32), o2_7, o4_7, o11_7, c_g5_7, c_g6_7, c_g7_7, c_g8_7, c_g9_7, c_g10_7, c_g12_7, c_g13_7, c_g14_7, (by first | with_reducible assumption | omega | assumption), (by first | with_reducible assumption | omega | assumption), (by assumption), (by assumption), (⟨fun h => absurd (by omega) h, fun _ h => absurd h (by omega), fun _ _ => ⟨x2_7.toInt, rdn_no (by omega) v7_7 hrw2_ (by omega), v9_7, v8_7, by omega⟩⟩), (by first | with_reducible assumption | assumption | exact rng_zero (by omega) (by omega) | omega), (by first | with_reducible assumption | assumption | exact rng_zero (by omega) (by omega) | omega), (by first | with_reducible assumption | assumption | exact rng_zero (by omega) (by omega) | omega), (by first | with_reducible assumption | assumption | exact rng_zero (by omega) (by omega) | omega), (by first | with_reducible assumption | assumption | exact rng_zero (by omega) (by omega) | omega), (by first | with_reducible assumption | assumption | exact rng_zero (by omega) (by omega) | omega), (by first | with_reducible assumption | assumption | exact rng_zero (by omega) (by omega) | omega), by rw [ht]; exact hP, hD⟩, hS.F ht⟩) hS.2.2 dB_3_3_36.1.2.1.1
                · have e_ := e_.symm
                  subst e_
                  have hrw_ : ((-3) : Int32).toInt = rwR f18 f19 a1.toNatClampNeg s3.toInt x3_7.toNatClampNeg (s4.toInt + x3_7.toInt) := by unfold rwR rdI lnI; (repeat' split) <;> omega
                  have hrw2_ : rwR f18 f19 a1.toNatClampNeg s3.toInt x2_7.toInt.toNat (s4.toInt + x2_7.toInt) = ((-3) : Int32).toInt := by rw [hrw_, v2_7]; rfl
                  refine lv_istore (lv' := [(6, .int (-3)), (5, .int y_17), (4, .int y_14), (3, .int x3_7), (2, .int x2_7), (0, .ref mo), (1, .int a1)]) hx hb dB_3_3_35.2.2.1.2 hl (by decide) rfl (fun ls hl => ?_)
                  refine lv_iload hx hb dB_3_3_35.2.2.2.1 (lv_at hl 0 rfl) ?_
                  refine lv_if_ge (tgt := 167) hx hb dB_3_3_35.2.2.2.2 (by decide) (fun c_37 => ?_) (fun c_37 => ?_)
                  · exact absurd c_37 (by decide)
                  · have _ := c_37
                    refine lv_aload_n hx hb dB_3_3_36.1.1.1.1 rfl (lv_at hl 5 rfl) ?_
                    refine lv_iload hx hb dB_3_3_36.1.1.1.2 (lv_at hl 0 rfl) ?_
                    refine va_put (ci := 12) (v := .int (-3)) (ty := .int) (C := RX12) (T := TX12) (N := 34) hx hb hts (fun _ h => List.mem_cons_of_mem _ (List.mem_append_right _ h)) tyX12 tyX12_ok nmX12 hown hK.1 hP hD hS 0 rfl rfl 1 (by decide) (hts (.fieldLink RX12 240 "CutAtlasModel" "status" "I") (List.mem_of_getElem? (i := 2) rfl)) (fun _ h9 => h9) rfl (by decide +kernel) rfl rfl (Nat.le_of_ble_eq_true rfl) dB_3_3_36.1.1.2.1 (fun H locs hP hD hS => ?_)
                    refine pd_K [ob12_0_ mo 0 (-3) o2_7 s3 o4_7 g5 g6 g7 g8 g9 g10 o11_7 g12 g13 g14 g15 g16 g17 g18 g19 g20 s21 g22 g23 g24 s25 s26 s27 s28 g29 g30 g31 g32 g33, ai_ cy g5 40 c_g5_7, ai_ cy g6 40 c_g6_7, ai_ cy g7 40 c_g7_7, ai_ cy g8 40 c_g8_7, ai_ cy g9 40 c_g9_7, az_ cy g10 40 c_g10_7, ai_ cy g12 30 c_g12_7, ai_ cy g13 30 c_g13_7, ai_ cy g14 6000 c_g14_7, az_ cy g15 4 f15, ai_ cy g17 4 f17, ai_ cy g18 24 f18, aj_ cy g19 120 f19] hP hD (fun hP hD => ?_)
                    refine lv_iload_n hx hb dB_3_3_36.1.1.2.2 rfl (lv_at hl 4 rfl) ?_
                    rw [hQ]
                    exact W.iret (v := x2_7) hx hb hr (fun t ht hW => ⟨⟨x2_7, (), rfl, (⟨fun h => absurd (by omega) h, fun _ h => absurd h (by omega), fun _ _ => ⟨_, rdn_no (by omega) v7_7 hrw2_ (by omega)⟩⟩), ((-3) : Int32), o2_7, o4_7, o11_7, c_g5_7, c_g6_7, c_g7_7, c_g8_7, c_g9_7, c_g10_7, c_g12_7, c_g13_7, c_g14_7, (by first | with_reducible assumption | omega | assumption), (by first | with_reducible assumption | omega | assumption), (by assumption), (by assumption), (⟨fun h => absurd (by omega) h, fun _ h => absurd h (by omega), fun _ _ => ⟨x2_7.toInt, rdn_no (by omega) v7_7 hrw2_ (by omega), v9_7, v8_7, by omega⟩⟩), (by first | with_reducible assumption | assumption | exact rng_zero (by omega) (by omega) | omega), (by first | with_reducible assumption | assumption | exact rng_zero (by omega) (by omega) | omega), (by first | with_reducible assumption | assumption | exact rng_zero (by omega) (by omega) | omega), (by first | with_reducible assumption | assumption | exact rng_zero (by omega) (by omega) | omega), (by first | with_reducible assumption | assumption | exact rng_zero (by omega) (by omega) | omega), (by first | with_reducible assumption | assumption | exact rng_zero (by omega) (by omega) | omega), (by first | with_reducible assumption | assumption | exact rng_zero (by omega) (by omega) | omega), by rw [ht]; exact hP, hD⟩, hS.F ht⟩) hS.2.2 dB_3_3_36.1.2.1.1
                · have e_ := e_.symm
                  subst e_
                  have hrw_ : (0 : Int32).toInt = rwR f18 f19 a1.toNatClampNeg s3.toInt x3_7.toNatClampNeg (s4.toInt + x3_7.toInt) := by unfold rwR rdI lnI; (repeat' split) <;> omega
                  have hrw2_ : rwR f18 f19 a1.toNatClampNeg s3.toInt x2_7.toInt.toNat (s4.toInt + x2_7.toInt) = (0 : Int32).toInt := by rw [hrw_, v2_7]; rfl
                  refine lv_istore (lv' := [(6, .int 0), (5, .int y_17), (4, .int y_14), (3, .int x3_7), (2, .int x2_7), (0, .ref mo), (1, .int a1)]) hx hb dB_3_3_35.2.2.1.2 hl (by decide) rfl (fun ls hl => ?_)
                  refine lv_iload hx hb dB_3_3_35.2.2.2.1 (lv_at hl 0 rfl) ?_
                  refine lv_if_ge (tgt := 167) hx hb dB_3_3_35.2.2.2.2 (by decide) (fun c_38 => ?_) (fun c_38 => ?_)
                  · have _ := c_38
                    refine lv_iload_n hx hb dB_3_3_36.1.2.1.2 rfl (lv_at hl 4 rfl) ?_
                    refine lv_if_ne (tgt := 175) hx hb dB_3_3_36.1.2.2.1 (by decide) (fun c_39 => ?_) (fun c_39 => ?_)
                    · have t_39 : ¬ x2_7.toInt = (0 : Int32).toInt := fun h => c_39 (Int32.toInt_inj.mp h)
                      have hpa_ : pastE o11_7.toInt c_g12_7 c_g13_7 c_g14_7 := by first | with_reducible assumption | assumption | exact kept_past of_none v5_7 v6_7 (by omega) (by assumption) (by assumption) (by omega)
                      have hkp_ : kept s3 s4 f5 f6 f7 f8 f9 f10 s11.toInt f12 f13 f14 o11_7.toInt c_g12_7 c_g13_7 c_g14_7 := by first | exact (v9_7).2 (by omega) | exact kpn_z v9_7 (by omega) of_none
                      refine lv_aload_n hx hb dB_3_3_36.2.1.1.2 rfl (lv_at hl 5 rfl) ?_
                      refine lv_aload_n hx hb dB_3_3_36.2.1.2.1 rfl (lv_at hl 5 rfl) ?_
                      refine va_get (ci := 12) (v := .ref g19) (C := RX12) (T := TX12) (N := 34) hx hb hts (fun _ h => List.mem_cons_of_mem _ (List.mem_append_right _ h)) hown hK.1 hP 0 rfl rfl 19 (by decide) (hts (.fieldLink RX12 50 "CutAtlasModel" "cells" "[J") (List.mem_of_getElem? (i := 7) rfl)) (fun _ h9 => h9) rfl dB_3_3_36.2.1.2.2 ?_
                      refine lv_iload hx hb dB_3_3_36.2.2.1.1 (lv_at hl 1 rfl) ?_
                      refine va_lald hx hb hK.1 hP 13 1 rfl rfl (i := y_17) h_20 dB_3_3_36.2.2.1.2 ?_
                      refine lv_topl (fun y_41 ey_41 => ?_)
                      have e_ := (ey_41.trans ey_21.symm).symm
                      subst e_
                      skip
                      refine lv_l2i (v := y_21.toInt32) hx hb dB_3_3_36.2.2.2.1 rfl ?_
                      have l_183 : (y_21.toInt32).toInt = y_21.toInt := l2iI (by omega) (by omega)
                      refine lv_aload_n hx hb dB_3_3_36.2.2.2.2 rfl (lv_at hl 5 rfl) ?_
                      refine va_get (ci := 12) (v := .ref g19) (C := RX12) (T := TX12) (N := 34) hx hb hts (fun _ h => List.mem_cons_of_mem _ (List.mem_append_right _ h)) hown hK.1 hP 0 rfl rfl 19 (by decide) (hts (.fieldLink RX12 50 "CutAtlasModel" "cells" "[J") (List.mem_of_getElem? (i := 7) rfl)) (fun _ h9 => h9) rfl dB_3_3_37.1.1.1.1 ?_
                      refine lv_iload hx hb dB_3_3_37.1.1.1.2 (lv_at hl 1 rfl) ?_
                      refine lv_iconst (v := 1) hx hb dB_3_3_37.1.1.2.1 (by decide) ?_
                      refine lv_iadd hx hb dB_3_3_37.1.1.2.2 ?_
                      refine lv_topi (fun y_43 ey_43 => ?_)
                      have e_ := (ey_43.trans ey_22.symm).symm
                      subst e_
                      refine va_lald hx hb hK.1 hP 13 1 rfl rfl (i := y_22) h_23 dB_3_3_37.1.2.1.1 ?_
                      refine lv_topl (fun y_45 ey_45 => ?_)
                      have e_ := (ey_45.trans ey_24.symm).symm
                      subst e_
                      skip
                      refine lv_l2i (v := y_24.toInt32) hx hb dB_3_3_37.1.2.1.2 rfl ?_
                      have l_193 : (y_24.toInt32).toInt = y_24.toInt := l2iI (by omega) (by omega)
                      refine lv_aload_n hx hb dB_3_3_37.1.2.2.1 rfl (lv_at hl 5 rfl) ?_
                      refine va_get (ci := 12) (v := .ref g19) (C := RX12) (T := TX12) (N := 34) hx hb hts (fun _ h => List.mem_cons_of_mem _ (List.mem_append_right _ h)) hown hK.1 hP 0 rfl rfl 19 (by decide) (hts (.fieldLink RX12 50 "CutAtlasModel" "cells" "[J") (List.mem_of_getElem? (i := 7) rfl)) (fun _ h9 => h9) rfl dB_3_3_37.1.2.2.2 ?_
                      refine lv_iload hx hb dB_3_3_37.2.1.1.1 (lv_at hl 1 rfl) ?_
                      refine lv_iconst (v := 2) hx hb dB_3_3_37.2.1.1.2 (by decide) ?_
                      refine lv_iadd hx hb dB_3_3_37.2.1.2.1 ?_
                      refine lv_topi (fun y_47 ey_47 => ?_)
                      have e_ := (ey_47.trans ey_25.symm).symm
                      subst e_
                      refine va_lald hx hb hK.1 hP 13 1 rfl rfl (i := y_25) h_26 dB_3_3_37.2.1.2.2 ?_
                      refine lv_topl (fun y_49 ey_49 => ?_)
                      have e_ := (ey_49.trans ey_27.symm).symm
                      subst e_
                      skip
                      refine lv_l2i (v := y_27.toInt32) hx hb dB_3_3_37.2.2.1.1 rfl ?_
                      have l_203 : (y_27.toInt32).toInt = y_27.toInt := l2iI (by omega) (by omega)
                      refine lv_aload_n hx hb dB_3_3_37.2.2.1.2 rfl (lv_at hl 5 rfl) ?_
                      refine va_get (ci := 12) (v := .ref g19) (C := RX12) (T := TX12) (N := 34) hx hb hts (fun _ h => List.mem_cons_of_mem _ (List.mem_append_right _ h)) hown hK.1 hP 0 rfl rfl 19 (by decide) (hts (.fieldLink RX12 50 "CutAtlasModel" "cells" "[J") (List.mem_of_getElem? (i := 7) rfl)) (fun _ h9 => h9) rfl dB_3_3_37.2.2.2.1 ?_
                      refine lv_iload hx hb dB_3_3_37.2.2.2.2 (lv_at hl 1 rfl) ?_
                      refine lv_iconst (v := 3) hx hb dB_3_3_38.1.1.1.1 (by decide) ?_
                      refine lv_iadd hx hb dB_3_3_38.1.1.1.2 ?_
                      refine lv_topi (fun y_51 ey_51 => ?_)
                      have e_ := (ey_51.trans ey_28.symm).symm
                      subst e_
                      refine va_lald hx hb hK.1 hP 13 1 rfl rfl (i := y_28) h_29 dB_3_3_38.1.1.2.1 ?_
                      refine lv_topl (fun y_53 ey_53 => ?_)
                      have e_ := (ey_53.trans ey_30.symm).symm
                      subst e_
                      skip
                      refine lv_l2i (v := y_30.toInt32) hx hb dB_3_3_38.1.1.2.2 rfl ?_
                      have l_213 : (y_30.toInt32).toInt = y_30.toInt := l2iI (by omega) (by omega)
                      refine lv_aload_n hx hb dB_3_3_38.1.2.1.1 rfl (lv_at hl 5 rfl) ?_
                      refine va_get (ci := 12) (v := .ref g19) (C := RX12) (T := TX12) (N := 34) hx hb hts (fun _ h => List.mem_cons_of_mem _ (List.mem_append_right _ h)) hown hK.1 hP 0 rfl rfl 19 (by decide) (hts (.fieldLink RX12 50 "CutAtlasModel" "cells" "[J") (List.mem_of_getElem? (i := 7) rfl)) (fun _ h9 => h9) rfl dB_3_3_38.1.2.1.2 ?_
                      refine lv_iload hx hb dB_3_3_38.1.2.2.1 (lv_at hl 1 rfl) ?_
                      refine lv_iconst (v := 4) hx hb dB_3_3_38.1.2.2.2 (by decide) ?_
                      refine lv_iadd hx hb dB_3_3_38.2.1.1.1 ?_
                      refine lv_topi (fun y_55 ey_55 => ?_)
                      have e_ := (ey_55.trans ey_31.symm).symm
                      subst e_
                      refine va_lald hx hb hK.1 hP 13 1 rfl rfl (i := y_31) h_32 dB_3_3_38.2.1.1.2 ?_
                      refine lv_topl (fun y_57 ey_57 => ?_)
                      have e_ := (ey_57.trans ey_33.symm).symm
                      subst e_
                      skip
                      refine lv_l2i (v := y_33.toInt32) hx hb dB_3_3_38.2.1.2.1 rfl ?_
                      have l_223 : (y_33.toInt32).toInt = y_33.toInt := l2iI (by omega) (by omega)
                      refine ct_S hP hD hS hA [ob12_0_ mo 0 0 o2_7 s3 o4_7 g5 g6 g7 g8 g9 g10 o11_7 g12 g13 g14 g15 g16 g17 g18 g19 g20 s21 g22 g23 g24 s25 s26 s27 s28 g29 g30 g31 g32 g33, ai_ cy g5 40 c_g5_7, ai_ cy g6 40 c_g6_7, ai_ cy g7 40 c_g7_7, ai_ cy g8 40 c_g8_7, ai_ cy g9 40 c_g9_7, az_ cy g10 40 c_g10_7] [0, 1, 2, 3, 4, 5, 6] (by decide) rfl (fun hPc hDw hFc hC_ => ?_)
                      refine va_callv (va_runV (As := [.int (y_21.toInt32), .int (y_24.toInt32), .int (y_27.toInt32), .int (y_30.toInt32), .int (y_33.toInt32)]) (rest := []) ⟨hx, hb, hml, hown, hts⟩ (c_X12_adds2 l D cy H.size mo g5 g6 g7 g8 g9 g10 g12 g13 g14 g15 g16 g17 g18 g19 g20 g22 g23 g24 g29 g30 g31 g32 g33 (0 : Int32) (0 : Int32) s3 o4_7 o11_7 s21 s25 s26 s27 s28 o2_7 c_g5_7 c_g6_7 c_g7_7 c_g8_7 c_g9_7 c_g10_7 (y_21.toInt32) (y_24.toInt32) (y_27.toInt32) (y_30.toInt32) (y_33.toInt32) (by first | with_reducible assumption | omega | assumption) (by first | with_reducible assumption | omega | assumption) (by first | with_reducible assumption | omega | assumption) (by first | with_reducible assumption | omega | assumption) (by first | with_reducible assumption | omega | assumption) (by first | with_reducible assumption | assumption | omega) (by first | with_reducible assumption | assumption | omega) (by first | with_reducible assumption | assumption | omega) (by first | with_reducible assumption | assumption | omega)) (cwV 5 hts gX12_read_X12_adds rfl rfl rfl ⟨rfl, hd_X12_adds⟩ ⟨Nat.le_of_ble_eq_true rfl, Nat.le_of_ble_eq_true rfl⟩) ⟨bl_, va_recvX hK.1 hP (ci := 12) (q0 := 0) rfl rfl, fun U hU hW => ⟨rfl, by rw [hU], by rw [hU]; exact hPc, kk_mv hW hK, hDw⟩⟩ rfl rfl hl.1 rfl (lv_room (Nat.le_of_ble_eq_true rfl)) dB_3_3_38.2.1.2.2 ⟨Nat.le_of_ble_eq_true rfl, Nat.le_of_ble_eq_true rfl⟩) hS (fun q _ h => hFc q h) hFc (fun u t H locs ht hvm hw hB hz1 hk1 hS => ?_)
                      obtain ⟨n2_60, n4_61, e5_62, e6_63, e7_64, e8_65, e9_66, e10_67, g_68, g_69, g_70, g_71, g_72, g_73, g_74, g_75, g_76, g_77, g_78, g_79, hP1, hD1⟩ := hB
                      rw [ht] at hP1
                      obtain ⟨hP, hD⟩ := va_join (wr := [ai_ cy g12 30 c_g12_7, ai_ cy g13 30 c_g13_7, ai_ cy g14 6000 c_g14_7, az_ cy g15 4 f15, ai_ cy g17 4 f17, ai_ cy g18 24 f18, aj_ cy g19 120 f19]) (w1 := [ob12_0_ mo 0 0 n2_60 s3 n4_61 g5 g6 g7 g8 g9 g10 o11_7 g12 g13 g14 g15 g16 g17 g18 g19 g20 s21 g22 g23 g24 s25 s26 s27 s28 g29 g30 g31 g32 g33, ai_ cy g5 40 e5_62, ai_ cy g6 40 e6_63, ai_ cy g7 40 e7_64, ai_ cy g8 40 e8_65, ai_ cy g9 40 e9_66, az_ cy g10 40 e10_67]) hP hD [0, 1, 2, 3, 4, 5, 6] [7, 8, 9, 10, 11, 12, 13] hC_ rfl (by decide) (by decide) hk1 hFc hP1 hD1
                      refine pd_S hP hD [ob12_0_ mo 0 0 n2_60 s3 n4_61 g5 g6 g7 g8 g9 g10 o11_7 g12 g13 g14 g15 g16 g17 g18 g19 g20 s21 g22 g23 g24 s25 s26 s27 s28 g29 g30 g31 g32 g33, ai_ cy g5 40 e5_62, ai_ cy g6 40 e6_63, ai_ cy g7 40 e7_64, ai_ cy g8 40 e8_65, ai_ cy g9 40 e9_66, az_ cy g10 40 e10_67, ai_ cy g12 30 c_g12_7, ai_ cy g13 30 c_g13_7, ai_ cy g14 6000 c_g14_7, az_ cy g15 4 f15, ai_ cy g17 4 f17, ai_ cy g18 24 f18, aj_ cy g19 120 f19] [7, 8, 9, 10, 11, 12, 13, 0, 1, 2, 3, 4, 5, 6] (by decide +kernel) rfl (fun hP hD => ?_)
                      have hne_ : netE s3.toInt n4_61.toInt e6_63 e7_64 e10_67 := netE_add v5_7 g_70 g_71 g_74 (by omega) g_68 (by omega) (by omega)
                      have hap_ : ∀ c2 : Int, c2 = x2_7.toInt + 1 → apR s4.toInt c2 f5 f6 f7 f8 f9 f10 e5_62 e6_63 e7_64 e8_65 e9_66 e10_67 f19 (30 * a1.toNatClampNeg) := fun c2 e2 => apR_st v8_7 v10_7 (by omega) (i := x3_7.toNatClampNeg) (by rw [clI (by omega)]; exact v2_7) ⟨g_68, g_69, g_70, g_71, g_72, g_73, g_74⟩ (by rw [c0_]) (by rw [c1_]) (by rw [c2_]) (by rw [c3_]) (by rw [c4_]) e2
                      obtain ⟨y_80, ey_80⟩ : ∃ y : Int32, y = x2_7 + 1 := ⟨_, rfl⟩
                      have ty_80 : y_80.toInt = x2_7.toInt + (1 : Int32).toInt := by rw [ey_80]; exact addI (by omega) (by omega)
                      refine lv_iinc (v := y_80) (lv' := [(2, .int y_80), (6, .int 0), (5, .int y_17), (4, .int y_14), (3, .int x3_7), (0, .ref mo), (1, .int a1)]) hx hb dB_3_3_38.2.2.1.1 hl (k := 4) rfl (by rw [ey_80]; rfl) (by decide) rfl (fun ls hl => ?_)
                      obtain ⟨y_81, ey_81⟩ : ∃ y : Int32, y = x3_7 + 1 := ⟨_, rfl⟩
                      have ty_81 : y_81.toInt = x3_7.toInt + (1 : Int32).toInt := by rw [ey_81]; exact addI (by omega) (by omega)
                      refine lv_iinc (v := y_81) (lv' := [(3, .int y_81), (2, .int y_80), (6, .int 0), (5, .int y_17), (4, .int y_14), (0, .ref mo), (1, .int a1)]) hx hb dB_3_3_38.2.2.1.2 hl (k := 4) rfl (by rw [ey_81]; rfl) (by decide) rfl (fun ls hl => ?_)
                      refine lv_goto (tgt := 49) hx hb dB_3_3_38.2.2.2.1 (by decide) ?_
                      exact ih_7 y_81 y_80 n2_60 n4_61 o11_7 e5_62 e6_63 e7_64 e8_65 e9_66 e10_67 c_g12_7 c_g13_7 c_g14_7 _ _ _ (by omega) (by first | with_reducible assumption | omega | assumption) (by first | with_reducible assumption | omega | assumption) (by first | with_reducible assumption | omega | assumption) (by first | with_reducible assumption | omega | assumption) (by first | with_reducible assumption | omega | assumption) (by first | exact hne_ | assumption) (by first | exact hpa_ | assumption) (by first | exact rws_st v7_7 (hrw2_.trans (by decide)) (by omega) (by omega) | (intro i hi; omega)) (by first | exact apR_0 | exact hap_ _ (by omega)) (by first | exact kpn_0 | exact kpn_p (by omega) hkp_) (by first | with_reducible assumption | omega | assumption) (by first | with_reducible assumption | omega | assumption) (by first | with_reducible assumption | assumption | exact rng_zero (by omega) (by omega) | exact orng_zero) (by first | with_reducible assumption | assumption | exact rng_zero (by omega) (by omega) | exact orng_zero) (by first | with_reducible assumption | assumption | exact rng_zero (by omega) (by omega) | exact orng_zero) (by first | with_reducible assumption | assumption | exact rng_zero (by omega) (by omega) | exact orng_zero) (by first | with_reducible assumption | assumption | exact rng_zero (by omega) (by omega) | exact orng_zero) (by first | with_reducible assumption | assumption | exact rng_zero (by omega) (by omega) | exact orng_zero) (by first | with_reducible assumption | assumption | exact rng_zero (by omega) (by omega) | exact orng_zero) ⟨hP, hD⟩ hS (lv_sub hl [0, 1, 5, 6] rfl)
                    · have t_39 : x2_7.toInt = (0 : Int32).toInt := congrArg Int32.toInt c_39
                      refine lv_aload_n hx hb dB_3_3_36.1.2.2.2 rfl (lv_at hl 5 rfl) ?_
                      refine ct_S hP hD hS hA [ob12_0_ mo 0 0 o2_7 s3 o4_7 g5 g6 g7 g8 g9 g10 o11_7 g12 g13 g14 g15 g16 g17 g18 g19 g20 s21 g22 g23 g24 s25 s26 s27 s28 g29 g30 g31 g32 g33, ai_ cy g5 40 c_g5_7, ai_ cy g6 40 c_g6_7, ai_ cy g7 40 c_g7_7, ai_ cy g8 40 c_g8_7, ai_ cy g9 40 c_g9_7, az_ cy g10 40 c_g10_7, ai_ cy g12 30 c_g12_7, ai_ cy g13 30 c_g13_7, ai_ cy g14 6000 c_g14_7] [0, 1, 2, 3, 4, 5, 6, 7, 8, 9] (by decide) rfl (fun hPc hDw hFc hC_ => ?_)
                      refine va_callv (va_runV (As := []) (rest := []) ⟨hx, hb, hml, hown, hts⟩ (c_X12_keeps2 l D cy H.size mo g5 g6 g7 g8 g9 g10 g12 g13 g14 g15 g16 g17 g18 g19 g20 g22 g23 g24 g29 g30 g31 g32 g33 (0 : Int32) (0 : Int32) s3 o4_7 o11_7 s21 s25 s26 s27 s28 o2_7 c_g5_7 c_g6_7 c_g7_7 c_g8_7 c_g9_7 c_g10_7 c_g12_7 c_g13_7 c_g14_7 (by first | with_reducible assumption | omega | assumption) (by first | with_reducible assumption | omega | assumption) (by first | with_reducible assumption | omega | assumption) (by first | with_reducible assumption | assumption | omega) (by first | with_reducible assumption | assumption | omega) (by first | with_reducible assumption | assumption | omega) (by first | with_reducible assumption | assumption | omega) (by first | with_reducible assumption | assumption | omega) (by first | with_reducible assumption | assumption | omega) (by first | with_reducible assumption | assumption | omega)) (cwV 0 hts gX12_read_X12_keeps rfl rfl rfl ⟨rfl, hd_X12_keeps⟩ ⟨Nat.le_of_ble_eq_true rfl, Nat.le_of_ble_eq_true rfl⟩) ⟨bl_, va_recvX hK.1 hP (ci := 12) (q0 := 0) rfl rfl, fun U hU hW => ⟨rfl, by rw [hU], by rw [hU]; exact hPc, kk_mv hW hK, hDw⟩⟩ rfl rfl hl.1 rfl (lv_room (Nat.le_of_ble_eq_true rfl)) dB_3_3_36.2.1.1.1 ⟨Nat.le_of_ble_eq_true rfl, Nat.le_of_ble_eq_true rfl⟩) hS (fun q _ h => hFc q h) hFc (fun u t H locs ht hvm hw hB hz1 hk1 hS => ?_)
                      obtain ⟨n11_83, e12_84, e13_85, e14_86, g_87, g_88, g_89, g_90, g_91, hP1, hD1⟩ := hB
                      rw [ht] at hP1
                      obtain ⟨hP, hD⟩ := va_join (wr := [az_ cy g15 4 f15, ai_ cy g17 4 f17, ai_ cy g18 24 f18, aj_ cy g19 120 f19]) (w1 := [ob12_0_ mo 0 0 o2_7 s3 o4_7 g5 g6 g7 g8 g9 g10 n11_83 g12 g13 g14 g15 g16 g17 g18 g19 g20 s21 g22 g23 g24 s25 s26 s27 s28 g29 g30 g31 g32 g33, ai_ cy g5 40 c_g5_7, ai_ cy g6 40 c_g6_7, ai_ cy g7 40 c_g7_7, ai_ cy g8 40 c_g8_7, ai_ cy g9 40 c_g9_7, az_ cy g10 40 c_g10_7, ai_ cy g12 30 e12_84, ai_ cy g13 30 e13_85, ai_ cy g14 6000 e14_86]) hP hD [0, 1, 2, 3, 4, 5, 6, 7, 8, 9] [10, 11, 12, 13] hC_ rfl (by decide) (by decide) hk1 hFc hP1 hD1
                      refine pd_S hP hD [ob12_0_ mo 0 0 o2_7 s3 o4_7 g5 g6 g7 g8 g9 g10 n11_83 g12 g13 g14 g15 g16 g17 g18 g19 g20 s21 g22 g23 g24 s25 s26 s27 s28 g29 g30 g31 g32 g33, ai_ cy g5 40 c_g5_7, ai_ cy g6 40 c_g6_7, ai_ cy g7 40 c_g7_7, ai_ cy g8 40 c_g8_7, ai_ cy g9 40 c_g9_7, az_ cy g10 40 c_g10_7, ai_ cy g12 30 e12_84, ai_ cy g13 30 e13_85, ai_ cy g14 6000 e14_86, az_ cy g15 4 f15, ai_ cy g17 4 f17, ai_ cy g18 24 f18, aj_ cy g19 120 f19] [4, 5, 6, 7, 8, 9, 10, 11, 12, 13, 0, 1, 2, 3] (by decide +kernel) rfl (fun hP hD => ?_)
                      have hpa_ : pastE n11_83.toInt e12_84 e13_85 e14_86 := by first | with_reducible assumption | assumption | exact kept_past g_88 v5_7 v6_7 (by omega) (by assumption) (by assumption) (by omega)
                      have hkp_ : kept s3 s4 f5 f6 f7 f8 f9 f10 s11.toInt f12 f13 f14 n11_83.toInt e12_84 e13_85 e14_86 := by first | exact (v9_7).2 (by omega) | exact kpn_z v9_7 (by omega) g_88
                      refine lv_aload_n hx hb dB_3_3_36.2.1.1.2 rfl (lv_at hl 5 rfl) ?_
                      refine lv_aload_n hx hb dB_3_3_36.2.1.2.1 rfl (lv_at hl 5 rfl) ?_
                      refine va_get (ci := 12) (v := .ref g19) (C := RX12) (T := TX12) (N := 34) hx hb hts (fun _ h => List.mem_cons_of_mem _ (List.mem_append_right _ h)) hown hK.1 hP 0 rfl rfl 19 (by decide) (hts (.fieldLink RX12 50 "CutAtlasModel" "cells" "[J") (List.mem_of_getElem? (i := 7) rfl)) (fun _ h9 => h9) rfl dB_3_3_36.2.1.2.2 ?_
                      refine lv_iload hx hb dB_3_3_36.2.2.1.1 (lv_at hl 1 rfl) ?_
                      refine va_lald hx hb hK.1 hP 13 1 rfl rfl (i := y_17) h_20 dB_3_3_36.2.2.1.2 ?_
                      refine lv_topl (fun y_93 ey_93 => ?_)
                      have e_ := (ey_93.trans ey_21.symm).symm
                      subst e_
                      skip
                      refine lv_l2i (v := y_21.toInt32) hx hb dB_3_3_36.2.2.2.1 rfl ?_
                      have l_183 : (y_21.toInt32).toInt = y_21.toInt := l2iI (by omega) (by omega)
                      refine lv_aload_n hx hb dB_3_3_36.2.2.2.2 rfl (lv_at hl 5 rfl) ?_
                      refine va_get (ci := 12) (v := .ref g19) (C := RX12) (T := TX12) (N := 34) hx hb hts (fun _ h => List.mem_cons_of_mem _ (List.mem_append_right _ h)) hown hK.1 hP 0 rfl rfl 19 (by decide) (hts (.fieldLink RX12 50 "CutAtlasModel" "cells" "[J") (List.mem_of_getElem? (i := 7) rfl)) (fun _ h9 => h9) rfl dB_3_3_37.1.1.1.1 ?_
                      refine lv_iload hx hb dB_3_3_37.1.1.1.2 (lv_at hl 1 rfl) ?_
                      refine lv_iconst (v := 1) hx hb dB_3_3_37.1.1.2.1 (by decide) ?_
                      refine lv_iadd hx hb dB_3_3_37.1.1.2.2 ?_
                      refine lv_topi (fun y_95 ey_95 => ?_)
                      have e_ := (ey_95.trans ey_22.symm).symm
                      subst e_
                      refine va_lald hx hb hK.1 hP 13 1 rfl rfl (i := y_22) h_23 dB_3_3_37.1.2.1.1 ?_
                      refine lv_topl (fun y_97 ey_97 => ?_)
                      have e_ := (ey_97.trans ey_24.symm).symm
                      subst e_
                      skip
                      refine lv_l2i (v := y_24.toInt32) hx hb dB_3_3_37.1.2.1.2 rfl ?_
                      have l_193 : (y_24.toInt32).toInt = y_24.toInt := l2iI (by omega) (by omega)
                      refine lv_aload_n hx hb dB_3_3_37.1.2.2.1 rfl (lv_at hl 5 rfl) ?_
                      refine va_get (ci := 12) (v := .ref g19) (C := RX12) (T := TX12) (N := 34) hx hb hts (fun _ h => List.mem_cons_of_mem _ (List.mem_append_right _ h)) hown hK.1 hP 0 rfl rfl 19 (by decide) (hts (.fieldLink RX12 50 "CutAtlasModel" "cells" "[J") (List.mem_of_getElem? (i := 7) rfl)) (fun _ h9 => h9) rfl dB_3_3_37.1.2.2.2 ?_
                      refine lv_iload hx hb dB_3_3_37.2.1.1.1 (lv_at hl 1 rfl) ?_
                      refine lv_iconst (v := 2) hx hb dB_3_3_37.2.1.1.2 (by decide) ?_
                      refine lv_iadd hx hb dB_3_3_37.2.1.2.1 ?_
                      refine lv_topi (fun y_99 ey_99 => ?_)
                      have e_ := (ey_99.trans ey_25.symm).symm
                      subst e_
                      refine va_lald hx hb hK.1 hP 13 1 rfl rfl (i := y_25) h_26 dB_3_3_37.2.1.2.2 ?_
                      refine lv_topl (fun y_101 ey_101 => ?_)
                      have e_ := (ey_101.trans ey_27.symm).symm
                      subst e_
                      skip
                      refine lv_l2i (v := y_27.toInt32) hx hb dB_3_3_37.2.2.1.1 rfl ?_
                      have l_203 : (y_27.toInt32).toInt = y_27.toInt := l2iI (by omega) (by omega)
                      refine lv_aload_n hx hb dB_3_3_37.2.2.1.2 rfl (lv_at hl 5 rfl) ?_
                      refine va_get (ci := 12) (v := .ref g19) (C := RX12) (T := TX12) (N := 34) hx hb hts (fun _ h => List.mem_cons_of_mem _ (List.mem_append_right _ h)) hown hK.1 hP 0 rfl rfl 19 (by decide) (hts (.fieldLink RX12 50 "CutAtlasModel" "cells" "[J") (List.mem_of_getElem? (i := 7) rfl)) (fun _ h9 => h9) rfl dB_3_3_37.2.2.2.1 ?_
                      refine lv_iload hx hb dB_3_3_37.2.2.2.2 (lv_at hl 1 rfl) ?_
                      refine lv_iconst (v := 3) hx hb dB_3_3_38.1.1.1.1 (by decide) ?_
                      refine lv_iadd hx hb dB_3_3_38.1.1.1.2 ?_
                      refine lv_topi (fun y_103 ey_103 => ?_)
                      have e_ := (ey_103.trans ey_28.symm).symm
                      subst e_
                      refine va_lald hx hb hK.1 hP 13 1 rfl rfl (i := y_28) h_29 dB_3_3_38.1.1.2.1 ?_
                      refine lv_topl (fun y_105 ey_105 => ?_)
                      have e_ := (ey_105.trans ey_30.symm).symm
                      subst e_
                      skip
                      refine lv_l2i (v := y_30.toInt32) hx hb dB_3_3_38.1.1.2.2 rfl ?_
                      have l_213 : (y_30.toInt32).toInt = y_30.toInt := l2iI (by omega) (by omega)
                      refine lv_aload_n hx hb dB_3_3_38.1.2.1.1 rfl (lv_at hl 5 rfl) ?_
                      refine va_get (ci := 12) (v := .ref g19) (C := RX12) (T := TX12) (N := 34) hx hb hts (fun _ h => List.mem_cons_of_mem _ (List.mem_append_right _ h)) hown hK.1 hP 0 rfl rfl 19 (by decide) (hts (.fieldLink RX12 50 "CutAtlasModel" "cells" "[J") (List.mem_of_getElem? (i := 7) rfl)) (fun _ h9 => h9) rfl dB_3_3_38.1.2.1.2 ?_
                      refine lv_iload hx hb dB_3_3_38.1.2.2.1 (lv_at hl 1 rfl) ?_
                      refine lv_iconst (v := 4) hx hb dB_3_3_38.1.2.2.2 (by decide) ?_
                      refine lv_iadd hx hb dB_3_3_38.2.1.1.1 ?_
                      refine lv_topi (fun y_107 ey_107 => ?_)
                      have e_ := (ey_107.trans ey_31.symm).symm
                      subst e_
                      refine va_lald hx hb hK.1 hP 13 1 rfl rfl (i := y_31) h_32 dB_3_3_38.2.1.1.2 ?_
                      refine lv_topl (fun y_109 ey_109 => ?_)
                      have e_ := (ey_109.trans ey_33.symm).symm
                      subst e_
                      skip
                      refine lv_l2i (v := y_33.toInt32) hx hb dB_3_3_38.2.1.2.1 rfl ?_
                      have l_223 : (y_33.toInt32).toInt = y_33.toInt := l2iI (by omega) (by omega)
                      refine ct_S hP hD hS hA [ob12_0_ mo 0 0 o2_7 s3 o4_7 g5 g6 g7 g8 g9 g10 n11_83 g12 g13 g14 g15 g16 g17 g18 g19 g20 s21 g22 g23 g24 s25 s26 s27 s28 g29 g30 g31 g32 g33, ai_ cy g5 40 c_g5_7, ai_ cy g6 40 c_g6_7, ai_ cy g7 40 c_g7_7, ai_ cy g8 40 c_g8_7, ai_ cy g9 40 c_g9_7, az_ cy g10 40 c_g10_7] [0, 1, 2, 3, 4, 5, 6] (by decide) rfl (fun hPc hDw hFc hC_ => ?_)
                      refine va_callv (va_runV (As := [.int (y_21.toInt32), .int (y_24.toInt32), .int (y_27.toInt32), .int (y_30.toInt32), .int (y_33.toInt32)]) (rest := []) ⟨hx, hb, hml, hown, hts⟩ (c_X12_adds2 l D cy H.size mo g5 g6 g7 g8 g9 g10 g12 g13 g14 g15 g16 g17 g18 g19 g20 g22 g23 g24 g29 g30 g31 g32 g33 (0 : Int32) (0 : Int32) s3 o4_7 n11_83 s21 s25 s26 s27 s28 o2_7 c_g5_7 c_g6_7 c_g7_7 c_g8_7 c_g9_7 c_g10_7 (y_21.toInt32) (y_24.toInt32) (y_27.toInt32) (y_30.toInt32) (y_33.toInt32) (by first | with_reducible assumption | omega | assumption) (by first | with_reducible assumption | omega | assumption) (by first | with_reducible assumption | omega | assumption) (by first | with_reducible assumption | omega | assumption) (by first | with_reducible assumption | omega | assumption) (by first | with_reducible assumption | assumption | omega) (by first | with_reducible assumption | assumption | omega) (by first | with_reducible assumption | assumption | omega) (by first | with_reducible assumption | assumption | omega)) (cwV 5 hts gX12_read_X12_adds rfl rfl rfl ⟨rfl, hd_X12_adds⟩ ⟨Nat.le_of_ble_eq_true rfl, Nat.le_of_ble_eq_true rfl⟩) ⟨bl_, va_recvX hK.1 hP (ci := 12) (q0 := 0) rfl rfl, fun U hU hW => ⟨rfl, by rw [hU], by rw [hU]; exact hPc, kk_mv hW hK, hDw⟩⟩ rfl rfl hl.1 rfl (lv_room (Nat.le_of_ble_eq_true rfl)) dB_3_3_38.2.1.2.2 ⟨Nat.le_of_ble_eq_true rfl, Nat.le_of_ble_eq_true rfl⟩) hS (fun q _ h => hFc q h) hFc (fun u t H locs ht hvm hw hB hz1 hk1 hS => ?_)
                      obtain ⟨n2_112, n4_113, e5_114, e6_115, e7_116, e8_117, e9_118, e10_119, g_120, g_121, g_122, g_123, g_124, g_125, g_126, g_127, g_128, g_129, g_130, g_131, hP1, hD1⟩ := hB
                      rw [ht] at hP1
                      obtain ⟨hP, hD⟩ := va_join (wr := [ai_ cy g12 30 e12_84, ai_ cy g13 30 e13_85, ai_ cy g14 6000 e14_86, az_ cy g15 4 f15, ai_ cy g17 4 f17, ai_ cy g18 24 f18, aj_ cy g19 120 f19]) (w1 := [ob12_0_ mo 0 0 n2_112 s3 n4_113 g5 g6 g7 g8 g9 g10 n11_83 g12 g13 g14 g15 g16 g17 g18 g19 g20 s21 g22 g23 g24 s25 s26 s27 s28 g29 g30 g31 g32 g33, ai_ cy g5 40 e5_114, ai_ cy g6 40 e6_115, ai_ cy g7 40 e7_116, ai_ cy g8 40 e8_117, ai_ cy g9 40 e9_118, az_ cy g10 40 e10_119]) hP hD [0, 1, 2, 3, 4, 5, 6] [7, 8, 9, 10, 11, 12, 13] hC_ rfl (by decide) (by decide) hk1 hFc hP1 hD1
                      refine pd_S hP hD [ob12_0_ mo 0 0 n2_112 s3 n4_113 g5 g6 g7 g8 g9 g10 n11_83 g12 g13 g14 g15 g16 g17 g18 g19 g20 s21 g22 g23 g24 s25 s26 s27 s28 g29 g30 g31 g32 g33, ai_ cy g5 40 e5_114, ai_ cy g6 40 e6_115, ai_ cy g7 40 e7_116, ai_ cy g8 40 e8_117, ai_ cy g9 40 e9_118, az_ cy g10 40 e10_119, ai_ cy g12 30 e12_84, ai_ cy g13 30 e13_85, ai_ cy g14 6000 e14_86, az_ cy g15 4 f15, ai_ cy g17 4 f17, ai_ cy g18 24 f18, aj_ cy g19 120 f19] [7, 8, 9, 10, 11, 12, 13, 0, 1, 2, 3, 4, 5, 6] (by decide +kernel) rfl (fun hP hD => ?_)
                      have hne_ : netE s3.toInt n4_113.toInt e6_115 e7_116 e10_119 := netE_add v5_7 g_122 g_123 g_126 (by omega) g_120 (by omega) (by omega)
                      have hap_ : ∀ c2 : Int, c2 = x2_7.toInt + 1 → apR s4.toInt c2 f5 f6 f7 f8 f9 f10 e5_114 e6_115 e7_116 e8_117 e9_118 e10_119 f19 (30 * a1.toNatClampNeg) := fun c2 e2 => apR_st v8_7 v10_7 (by omega) (i := x3_7.toNatClampNeg) (by rw [clI (by omega)]; exact v2_7) ⟨g_120, g_121, g_122, g_123, g_124, g_125, g_126⟩ (by rw [c0_]) (by rw [c1_]) (by rw [c2_]) (by rw [c3_]) (by rw [c4_]) e2
                      obtain ⟨y_132, ey_132⟩ : ∃ y : Int32, y = x2_7 + 1 := ⟨_, rfl⟩
                      have ty_132 : y_132.toInt = x2_7.toInt + (1 : Int32).toInt := by rw [ey_132]; exact addI (by omega) (by omega)
                      refine lv_iinc (v := y_132) (lv' := [(2, .int y_132), (6, .int 0), (5, .int y_17), (4, .int y_14), (3, .int x3_7), (0, .ref mo), (1, .int a1)]) hx hb dB_3_3_38.2.2.1.1 hl (k := 4) rfl (by rw [ey_132]; rfl) (by decide) rfl (fun ls hl => ?_)
                      obtain ⟨y_133, ey_133⟩ : ∃ y : Int32, y = x3_7 + 1 := ⟨_, rfl⟩
                      have ty_133 : y_133.toInt = x3_7.toInt + (1 : Int32).toInt := by rw [ey_133]; exact addI (by omega) (by omega)
                      refine lv_iinc (v := y_133) (lv' := [(3, .int y_133), (2, .int y_132), (6, .int 0), (5, .int y_17), (4, .int y_14), (0, .ref mo), (1, .int a1)]) hx hb dB_3_3_38.2.2.1.2 hl (k := 4) rfl (by rw [ey_133]; rfl) (by decide) rfl (fun ls hl => ?_)
                      refine lv_goto (tgt := 49) hx hb dB_3_3_38.2.2.2.1 (by decide) ?_
                      exact ih_7 y_133 y_132 n2_112 n4_113 n11_83 e5_114 e6_115 e7_116 e8_117 e9_118 e10_119 e12_84 e13_85 e14_86 _ _ _ (by omega) (by first | with_reducible assumption | omega | assumption) (by first | with_reducible assumption | omega | assumption) (by first | with_reducible assumption | omega | assumption) (by first | with_reducible assumption | omega | assumption) (by first | with_reducible assumption | omega | assumption) (by first | exact hne_ | assumption) (by first | exact hpa_ | assumption) (by first | exact rws_st v7_7 (hrw2_.trans (by decide)) (by omega) (by omega) | (intro i hi; omega)) (by first | exact apR_0 | exact hap_ _ (by omega)) (by first | exact kpn_0 | exact kpn_p (by omega) hkp_) (by first | with_reducible assumption | omega | assumption) (by first | with_reducible assumption | omega | assumption) (by first | with_reducible assumption | assumption | exact rng_zero (by omega) (by omega) | exact orng_zero) (by first | with_reducible assumption | assumption | exact rng_zero (by omega) (by omega) | exact orng_zero) (by first | with_reducible assumption | assumption | exact rng_zero (by omega) (by omega) | exact orng_zero) (by first | with_reducible assumption | assumption | exact rng_zero (by omega) (by omega) | exact orng_zero) (by first | with_reducible assumption | assumption | exact rng_zero (by omega) (by omega) | exact orng_zero) (by first | with_reducible assumption | assumption | exact rng_zero (by omega) (by omega) | exact orng_zero) (by first | with_reducible assumption | assumption | exact rng_zero (by omega) (by omega) | exact orng_zero) ⟨hP, hD⟩ hS (lv_sub hl [0, 1, 5, 6] rfl)
                  · exact absurd c_38 (by decide)
              · have t_19 : ¬ (5 : Int32).toInt ≤ y_14.toInt := fun h => c_19 (Int32.le_iff_toInt_le.mpr h)
                refine lv_bipush (v := (-12)) hx hb dB_3_3_33.2.2.1.2 (by decide) ?_
                refine lv_goto (tgt := 152) hx hb dB_3_3_33.2.2.2.1 (by decide) ?_
                have hrw_ : ((-12) : Int32).toInt = rwR f18 f19 a1.toNatClampNeg s3.toInt x3_7.toNatClampNeg (s4.toInt + x3_7.toInt) := by unfold rwR rdI lnI; (repeat' split) <;> omega
                have hrw2_ : rwR f18 f19 a1.toNatClampNeg s3.toInt x2_7.toInt.toNat (s4.toInt + x2_7.toInt) = ((-12) : Int32).toInt := by rw [hrw_, v2_7]; rfl
                refine lv_istore (lv' := [(6, .int (-12)), (5, .int y_17), (4, .int y_14), (3, .int x3_7), (2, .int x2_7), (0, .ref mo), (1, .int a1)]) hx hb dB_3_3_35.2.2.1.2 hl (by decide) rfl (fun ls hl => ?_)
                refine lv_iload hx hb dB_3_3_35.2.2.2.1 (lv_at hl 0 rfl) ?_
                refine lv_if_ge (tgt := 167) hx hb dB_3_3_35.2.2.2.2 (by decide) (fun c_134 => ?_) (fun c_134 => ?_)
                · exact absurd c_134 (by decide)
                · have _ := c_134
                  refine lv_aload_n hx hb dB_3_3_36.1.1.1.1 rfl (lv_at hl 5 rfl) ?_
                  refine lv_iload hx hb dB_3_3_36.1.1.1.2 (lv_at hl 0 rfl) ?_
                  refine va_put (ci := 12) (v := .int (-12)) (ty := .int) (C := RX12) (T := TX12) (N := 34) hx hb hts (fun _ h => List.mem_cons_of_mem _ (List.mem_append_right _ h)) tyX12 tyX12_ok nmX12 hown hK.1 hP hD hS 0 rfl rfl 1 (by decide) (hts (.fieldLink RX12 240 "CutAtlasModel" "status" "I") (List.mem_of_getElem? (i := 2) rfl)) (fun _ h9 => h9) rfl (by decide +kernel) rfl rfl (Nat.le_of_ble_eq_true rfl) dB_3_3_36.1.1.2.1 (fun H locs hP hD hS => ?_)
                  refine pd_K [ob12_0_ mo 0 (-12) o2_7 s3 o4_7 g5 g6 g7 g8 g9 g10 o11_7 g12 g13 g14 g15 g16 g17 g18 g19 g20 s21 g22 g23 g24 s25 s26 s27 s28 g29 g30 g31 g32 g33, ai_ cy g5 40 c_g5_7, ai_ cy g6 40 c_g6_7, ai_ cy g7 40 c_g7_7, ai_ cy g8 40 c_g8_7, ai_ cy g9 40 c_g9_7, az_ cy g10 40 c_g10_7, ai_ cy g12 30 c_g12_7, ai_ cy g13 30 c_g13_7, ai_ cy g14 6000 c_g14_7, az_ cy g15 4 f15, ai_ cy g17 4 f17, ai_ cy g18 24 f18, aj_ cy g19 120 f19] hP hD (fun hP hD => ?_)
                  refine lv_iload_n hx hb dB_3_3_36.1.1.2.2 rfl (lv_at hl 4 rfl) ?_
                  rw [hQ]
                  exact W.iret (v := x2_7) hx hb hr (fun t ht hW => ⟨⟨x2_7, (), rfl, (⟨fun h => absurd (by omega) h, fun _ h => absurd h (by omega), fun _ _ => ⟨_, rdn_no (by omega) v7_7 hrw2_ (by omega)⟩⟩), ((-12) : Int32), o2_7, o4_7, o11_7, c_g5_7, c_g6_7, c_g7_7, c_g8_7, c_g9_7, c_g10_7, c_g12_7, c_g13_7, c_g14_7, (by first | with_reducible assumption | omega | assumption), (by first | with_reducible assumption | omega | assumption), (by assumption), (by assumption), (⟨fun h => absurd (by omega) h, fun _ h => absurd h (by omega), fun _ _ => ⟨x2_7.toInt, rdn_no (by omega) v7_7 hrw2_ (by omega), v9_7, v8_7, by omega⟩⟩), (by first | with_reducible assumption | assumption | exact rng_zero (by omega) (by omega) | omega), (by first | with_reducible assumption | assumption | exact rng_zero (by omega) (by omega) | omega), (by first | with_reducible assumption | assumption | exact rng_zero (by omega) (by omega) | omega), (by first | with_reducible assumption | assumption | exact rng_zero (by omega) (by omega) | omega), (by first | with_reducible assumption | assumption | exact rng_zero (by omega) (by omega) | omega), (by first | with_reducible assumption | assumption | exact rng_zero (by omega) (by omega) | omega), (by first | with_reducible assumption | assumption | exact rng_zero (by omega) (by omega) | omega), by rw [ht]; exact hP, hD⟩, hS.F ht⟩) hS.2.2 dB_3_3_36.1.2.1.1
            · have t_18 : y_14.toInt = ((-9) : Int32).toInt := congrArg Int32.toInt c_18
              refine lv_bipush (v := (-11)) hx hb dB_3_3_33.2.1.1.1 (by decide) ?_
              refine lv_goto (tgt := 152) hx hb dB_3_3_33.2.1.1.2 (by decide) ?_
              have hrw_ : ((-11) : Int32).toInt = rwR f18 f19 a1.toNatClampNeg s3.toInt x3_7.toNatClampNeg (s4.toInt + x3_7.toInt) := by unfold rwR rdI lnI; (repeat' split) <;> omega
              have hrw2_ : rwR f18 f19 a1.toNatClampNeg s3.toInt x2_7.toInt.toNat (s4.toInt + x2_7.toInt) = ((-11) : Int32).toInt := by rw [hrw_, v2_7]; rfl
              refine lv_istore (lv' := [(6, .int (-11)), (5, .int y_17), (4, .int y_14), (3, .int x3_7), (2, .int x2_7), (0, .ref mo), (1, .int a1)]) hx hb dB_3_3_35.2.2.1.2 hl (by decide) rfl (fun ls hl => ?_)
              refine lv_iload hx hb dB_3_3_35.2.2.2.1 (lv_at hl 0 rfl) ?_
              refine lv_if_ge (tgt := 167) hx hb dB_3_3_35.2.2.2.2 (by decide) (fun c_135 => ?_) (fun c_135 => ?_)
              · exact absurd c_135 (by decide)
              · have _ := c_135
                refine lv_aload_n hx hb dB_3_3_36.1.1.1.1 rfl (lv_at hl 5 rfl) ?_
                refine lv_iload hx hb dB_3_3_36.1.1.1.2 (lv_at hl 0 rfl) ?_
                refine va_put (ci := 12) (v := .int (-11)) (ty := .int) (C := RX12) (T := TX12) (N := 34) hx hb hts (fun _ h => List.mem_cons_of_mem _ (List.mem_append_right _ h)) tyX12 tyX12_ok nmX12 hown hK.1 hP hD hS 0 rfl rfl 1 (by decide) (hts (.fieldLink RX12 240 "CutAtlasModel" "status" "I") (List.mem_of_getElem? (i := 2) rfl)) (fun _ h9 => h9) rfl (by decide +kernel) rfl rfl (Nat.le_of_ble_eq_true rfl) dB_3_3_36.1.1.2.1 (fun H locs hP hD hS => ?_)
                refine pd_K [ob12_0_ mo 0 (-11) o2_7 s3 o4_7 g5 g6 g7 g8 g9 g10 o11_7 g12 g13 g14 g15 g16 g17 g18 g19 g20 s21 g22 g23 g24 s25 s26 s27 s28 g29 g30 g31 g32 g33, ai_ cy g5 40 c_g5_7, ai_ cy g6 40 c_g6_7, ai_ cy g7 40 c_g7_7, ai_ cy g8 40 c_g8_7, ai_ cy g9 40 c_g9_7, az_ cy g10 40 c_g10_7, ai_ cy g12 30 c_g12_7, ai_ cy g13 30 c_g13_7, ai_ cy g14 6000 c_g14_7, az_ cy g15 4 f15, ai_ cy g17 4 f17, ai_ cy g18 24 f18, aj_ cy g19 120 f19] hP hD (fun hP hD => ?_)
                refine lv_iload_n hx hb dB_3_3_36.1.1.2.2 rfl (lv_at hl 4 rfl) ?_
                rw [hQ]
                exact W.iret (v := x2_7) hx hb hr (fun t ht hW => ⟨⟨x2_7, (), rfl, (⟨fun h => absurd (by omega) h, fun _ h => absurd h (by omega), fun _ _ => ⟨_, rdn_no (by omega) v7_7 hrw2_ (by omega)⟩⟩), ((-11) : Int32), o2_7, o4_7, o11_7, c_g5_7, c_g6_7, c_g7_7, c_g8_7, c_g9_7, c_g10_7, c_g12_7, c_g13_7, c_g14_7, (by first | with_reducible assumption | omega | assumption), (by first | with_reducible assumption | omega | assumption), (by assumption), (by assumption), (⟨fun h => absurd (by omega) h, fun _ h => absurd h (by omega), fun _ _ => ⟨x2_7.toInt, rdn_no (by omega) v7_7 hrw2_ (by omega), v9_7, v8_7, by omega⟩⟩), (by first | with_reducible assumption | assumption | exact rng_zero (by omega) (by omega) | omega), (by first | with_reducible assumption | assumption | exact rng_zero (by omega) (by omega) | omega), (by first | with_reducible assumption | assumption | exact rng_zero (by omega) (by omega) | omega), (by first | with_reducible assumption | assumption | exact rng_zero (by omega) (by omega) | omega), (by first | with_reducible assumption | assumption | exact rng_zero (by omega) (by omega) | omega), (by first | with_reducible assumption | assumption | exact rng_zero (by omega) (by omega) | omega), (by first | with_reducible assumption | assumption | exact rng_zero (by omega) (by omega) | omega), by rw [ht]; exact hP, hD⟩, hS.F ht⟩) hS.2.2 dB_3_3_36.1.2.1.1
      · have t_6 : y_5.toInt = (0 : Int32).toInt := congrArg Int32.toInt c_6
        refine lv_aload_n hx hb dB_3_3_31.1.2.1.2 rfl (lv_at hl 0 rfl) ?_
        refine lv_bipush (v := (-11)) hx hb dB_3_3_31.1.2.2.1 (by decide) ?_
        refine va_put (ci := 12) (v := .int (-11)) (ty := .int) (C := RX12) (T := TX12) (N := 34) hx hb hts (fun _ h => List.mem_cons_of_mem _ (List.mem_append_right _ h)) tyX12 tyX12_ok nmX12 hown hK.1 hP hD hS 0 rfl rfl 1 (by decide) (hts (.fieldLink RX12 240 "CutAtlasModel" "status" "I") (List.mem_of_getElem? (i := 2) rfl)) (fun _ h9 => h9) rfl (by decide +kernel) rfl rfl (Nat.le_of_ble_eq_true rfl) dB_3_3_31.1.2.2.2 (fun H locs hP hD hS => ?_)
        refine pd_K [ob12_0_ mo 0 (-11) t2 s3 s4 g5 g6 g7 g8 g9 g10 s11 g12 g13 g14 g15 g16 g17 g18 g19 g20 s21 g22 g23 g24 s25 s26 s27 s28 g29 g30 g31 g32 g33, ai_ cy g5 40 f5, ai_ cy g6 40 f6, ai_ cy g7 40 f7, ai_ cy g8 40 f8, ai_ cy g9 40 f9, az_ cy g10 40 f10, ai_ cy g12 30 f12, ai_ cy g13 30 f13, ai_ cy g14 6000 f14, az_ cy g15 4 f15, ai_ cy g17 4 f17, ai_ cy g18 24 f18, aj_ cy g19 120 f19] hP hD (fun hP hD => ?_)
        refine lv_iconst (v := 0) hx hb dB_3_3_31.2.1.1.1 (by decide) ?_
        rw [hQ]
        exact W.iret (v := 0) hx hb hr (fun t ht hW => ⟨⟨0, (), rfl, (⟨fun h => absurd (by omega) h, fun _ _ => by decide, fun _ h => absurd (by omega) h⟩), ((-11) : Int32), t2, s4, s11, f5, f6, f7, f8, f9, f10, f12, f13, f14, (by first | with_reducible assumption | omega | assumption), (by first | with_reducible assumption | omega | assumption), (by assumption), (by assumption), (⟨fun h => absurd (by omega) h, fun _ _ => ⟨by decide, kpn_0⟩, fun _ h => absurd (by omega) h⟩), (by first | with_reducible assumption | assumption | exact rng_zero (by omega) (by omega) | omega), (by first | with_reducible assumption | assumption | exact rng_zero (by omega) (by omega) | omega), (by first | with_reducible assumption | assumption | exact rng_zero (by omega) (by omega) | omega), (by first | with_reducible assumption | assumption | exact rng_zero (by omega) (by omega) | omega), (by first | with_reducible assumption | assumption | exact rng_zero (by omega) (by omega) | omega), (by first | with_reducible assumption | assumption | exact rng_zero (by omega) (by omega) | omega), (by first | with_reducible assumption | assumption | exact rng_zero (by omega) (by omega) | omega), by rw [ht]; exact hP, hD⟩, hS.F ht⟩) hS.2.2 dB_3_3_31.2.1.1.2
    · exact absurd c_3 (by decide)
  · have e_ := e_.symm
    subst e_
    refine lv_if_ne (tgt := 28) hx hb dB_3_3_30.2.1.2.2 (by decide) (fun c_136 => ?_) (fun c_136 => ?_)
    · exact absurd c_136 (by decide)
    · have _ := c_136
      refine lv_aload_n hx hb dB_3_3_30.2.2.1.1 rfl (lv_at hl 0 rfl) ?_
      refine lv_iconst (v := (-1)) hx hb dB_3_3_30.2.2.1.2 (by decide) ?_
      refine ct_S hP hD hS hA [ob12_0_ mo 0 0 t2 s3 s4 g5 g6 g7 g8 g9 g10 s11 g12 g13 g14 g15 g16 g17 g18 g19 g20 s21 g22 g23 g24 s25 s26 s27 s28 g29 g30 g31 g32 g33] [0] (by decide) rfl (fun hPc hDw hFc hC_ => ?_)
      refine va_calli (va_runV (As := [.int (-1)]) (rest := []) ⟨hx, hb, hml, hown, hts⟩ (c_X12_no2 l D cy H.size mo g5 g6 g7 g8 g9 g10 g12 g13 g14 g15 g16 g17 g18 g19 g20 g22 g23 g24 g29 g30 g31 g32 g33 (0 : Int32) (0 : Int32) s3 s4 s11 s21 s25 s26 s27 s28 t2 ((-1) : Int32)) (cwV 1 hts gX12_read_X12_no rfl rfl rfl ⟨rfl, hd_X12_no⟩ ⟨Nat.le_of_ble_eq_true rfl, Nat.le_of_ble_eq_true rfl⟩) ⟨bl_, va_recvX hK.1 hP (ci := 12) (q0 := 0) rfl rfl, fun U hU hW => ⟨rfl, by rw [hU], by rw [hU]; exact hPc, kk_mv hW hK, hDw⟩⟩ rfl rfl hl.1 rfl (lv_room (Nat.le_of_ble_eq_true rfl)) dB_3_3_30.2.2.2.1 ⟨Nat.le_of_ble_eq_true rfl, Nat.le_of_ble_eq_true rfl⟩) hS (fun q _ h => hFc q h) hFc (fun r_137 u t H locs ht hvm hw hB hz1 hk1 hS => ?_)
      obtain ⟨n1_138, g_139, hP1, hD1⟩ := hB
      rw [ht] at hP1
      obtain ⟨hP, hD⟩ := va_join (wr := [ai_ cy g5 40 f5, ai_ cy g6 40 f6, ai_ cy g7 40 f7, ai_ cy g8 40 f8, ai_ cy g9 40 f9, az_ cy g10 40 f10, ai_ cy g12 30 f12, ai_ cy g13 30 f13, ai_ cy g14 6000 f14, az_ cy g15 4 f15, ai_ cy g17 4 f17, ai_ cy g18 24 f18, aj_ cy g19 120 f19]) (w1 := [ob12_0_ mo 0 n1_138 t2 s3 s4 g5 g6 g7 g8 g9 g10 s11 g12 g13 g14 g15 g16 g17 g18 g19 g20 s21 g22 g23 g24 s25 s26 s27 s28 g29 g30 g31 g32 g33]) hP hD [0] [1, 2, 3, 4, 5, 6, 7, 8, 9, 10, 11, 12, 13] hC_ rfl (by decide +kernel) (by decide +kernel) hk1 hFc hP1 hD1
      refine pd_S hP hD [ob12_0_ mo 0 n1_138 t2 s3 s4 g5 g6 g7 g8 g9 g10 s11 g12 g13 g14 g15 g16 g17 g18 g19 g20 s21 g22 g23 g24 s25 s26 s27 s28 g29 g30 g31 g32 g33, ai_ cy g5 40 f5, ai_ cy g6 40 f6, ai_ cy g7 40 f7, ai_ cy g8 40 f8, ai_ cy g9 40 f9, az_ cy g10 40 f10, ai_ cy g12 30 f12, ai_ cy g13 30 f13, ai_ cy g14 6000 f14, az_ cy g15 4 f15, ai_ cy g17 4 f17, ai_ cy g18 24 f18, aj_ cy g19 120 f19] [13, 0, 1, 2, 3, 4, 5, 6, 7, 8, 9, 10, 11, 12] (by decide +kernel) rfl (fun hP hD => ?_)
      have f0_r_137 := hw
      have hno_ := g_139
      rw [hQ]
      exact W.iret (v := r_137) hx hb hr (fun t ht hW => ⟨⟨r_137, (), rfl, (⟨fun _ => by rw [f0_r_137]; decide, fun h => absurd h (by omega), fun h => absurd h (by omega)⟩), n1_138, t2, s4, s11, f5, f6, f7, f8, f9, f10, f12, f13, f14, (by first | with_reducible assumption | omega | assumption), (by first | with_reducible assumption | omega | assumption), (by assumption), (by assumption), (⟨fun _ => ⟨by first | decide | (rw [hno_]; decide), kpn_0⟩, fun h => absurd h (by omega), fun h => absurd h (by omega)⟩), (by first | with_reducible assumption | assumption | exact rng_zero (by omega) (by omega) | omega), (by first | with_reducible assumption | assumption | exact rng_zero (by omega) (by omega) | omega), (by first | with_reducible assumption | assumption | exact rng_zero (by omega) (by omega) | omega), (by first | with_reducible assumption | assumption | exact rng_zero (by omega) (by omega) | omega), (by first | with_reducible assumption | assumption | exact rng_zero (by omega) (by omega) | omega), (by first | with_reducible assumption | assumption | exact rng_zero (by omega) (by omega) | omega), (by first | with_reducible assumption | assumption | exact rng_zero (by omega) (by omega) | omega), by rw [ht]; exact hP, hD⟩, hS.F ht⟩) hS.2.2 dB_3_3_30.2.2.2.2
end

section
/-! ===== the law's steps over both nets ===== -/
section STEP
variable {pf ph vp vn epf eph evp evn P N n3 n4 s11 n11 efi n1 a b c d k x y : Int32} {pv epv : Nat → Nat → Int32} {pg epg : Nat → Nat → Nat → Int32} {fk fs fe fw fp efk efs efe efw efp f5 f6 f7 f8 f9 f10 e5 e6 e7 e8 e9 e10 f12 f13 f14 e12 e13 e14 : Nat → Int32}
theorem nrel_place (h : nrel vp vn fk fs fe fw fp P N f5 f6 f7 f8 f9 f10) (hc : (plI vp.toInt = 0 → evp.toInt = vp.toInt + 1) ∧ (plI vp.toInt ≠ 0 → evp = vp)) (hm : (plI P.toInt = 0 → n3.toInt = P.toInt + 1) ∧ (plI P.toInt ≠ 0 → n3 = P)) : nrel evp vn fk fs fe fw fp n3 N f5 f6 f7 f8 f9 f10 := by
  refine ⟨?_, h.2⟩
  have e := h.1
  rw [← e] at hm
  by_cases z : plI vp.toInt = 0
  · exact Int32.toInt_inj.mp (by rw [hc.1 z, hm.1 z])
  · rw [hc.2 z, hm.2 z]
theorem nrel_line (h : nrel vp vn fk fs fe fw fp P N f5 f6 f7 f8 f9 f10) (h0 : 0 ≤ N.toInt) (hc : (lnI k.toInt a.toInt b.toInt c.toInt d.toInt vp.toInt vn.toInt = 0 → addd vn fk fs fe fw fp k a b c d evn efk efs efe efw efp) ∧ (lnI k.toInt a.toInt b.toInt c.toInt d.toInt vp.toInt vn.toInt ≠ 0 → evn = vn ∧ efk = fk ∧ efs = fs ∧ efe = fe ∧ efw = fw ∧ efp = fp))
    (hm : (lnI k.toInt a.toInt b.toInt c.toInt d.toInt P.toInt N.toInt = 0 → adR N f5 f6 f7 f8 f9 f10 k a b c d n4 e5 e6 e7 e8 e9 e10) ∧ (lnI k.toInt a.toInt b.toInt c.toInt d.toInt P.toInt N.toInt ≠ 0 → n4 = N ∧ e5 = f5 ∧ e6 = f6 ∧ e7 = f7 ∧ e8 = f8 ∧ e9 = f9 ∧ e10 = f10)) : nrel vp evn efk efs efe efw efp P n4 e5 e6 e7 e8 e9 e10 := by
  have q1 := h.1
  have q2 := h.2.1
  by_cases z : lnI k.toInt a.toInt b.toInt c.toInt d.toInt P.toInt N.toInt = 0
  · exact nrel_addd h h0 (hc.1 (by rw [q1, q2]; exact z)) (hm.1 z)
  · obtain ⟨a1, a2, a3, a4, a5, a6⟩ := hc.2 (by rw [q1, q2]; exact z)
    obtain ⟨b1, b2, b3, b4, b5, b6, b7⟩ := hm.2 z
    rw [a1, a2, a3, a4, a5, a6, b1, b2, b3, b4, b5, b6, b7]
    exact h
theorem nrel_widen (h : nrel vp vn fk fs fe fw fp P N f5 f6 f7 f8 f9 f10) (r6 : rng f6 40 0 11) (hN : N.toInt ≤ 40) (hc : (wdI a.toInt b.toInt vn.toInt (fk a.toNatClampNeg).toInt (fw a.toNatClampNeg).toInt (gI (fs a.toNatClampNeg).toInt) = 0 → efw = upd fw a.toNatClampNeg (fw a.toNatClampNeg + b)) ∧ (wdI a.toInt b.toInt vn.toInt (fk a.toNatClampNeg).toInt (fw a.toNatClampNeg).toInt (gI (fs a.toNatClampNeg).toInt) ≠ 0 → efw = fw))
    (hm : (wdI a.toInt b.toInt N.toInt (f5 a.toNatClampNeg).toInt (f8 a.toNatClampNeg).toInt (f10 a.toNatClampNeg).toInt = 0 → e8 = upd f8 a.toNatClampNeg (f8 a.toNatClampNeg + b)) ∧ (wdI a.toInt b.toInt N.toInt (f5 a.toNatClampNeg).toInt (f8 a.toNatClampNeg).toInt (f10 a.toNatClampNeg).toInt ≠ 0 → e8 = f8)) : nrel vp vn fk fs fe efw fp P N f5 f6 f7 e8 f9 f10 := by
  rw [wd_same h r6 hN] at hc
  by_cases z : wdI a.toInt b.toInt N.toInt (f5 a.toNatClampNeg).toInt (f8 a.toNatClampNeg).toInt (f10 a.toNatClampNeg).toInt = 0
  · have w := wdI_0 z
    obtain ⟨_, l2, _⟩ := nrel_at h r6 hN w.1.1 w.1.2
    exact nrel_w h (hc.1 z) (hm.1 z) (by rw [l2])
  · rw [hc.2 z, hm.2 z]
    exact h
theorem nrel_width (h : nrel vp vn fk fs fe fw fp P N f5 f6 f7 f8 f9 f10) (r6 : rng f6 40 0 11) (hN : N.toInt ≤ 40) (hc : (wtI a.toInt b.toInt vn.toInt (gI (fs a.toNatClampNeg).toInt) = 0 → efw = upd fw a.toNatClampNeg b) ∧ (wtI a.toInt b.toInt vn.toInt (gI (fs a.toNatClampNeg).toInt) ≠ 0 → efw = fw))
    (hm : (wtI a.toInt b.toInt N.toInt (f10 a.toNatClampNeg).toInt = 0 → e8 = upd f8 a.toNatClampNeg b) ∧ (wtI a.toInt b.toInt N.toInt (f10 a.toNatClampNeg).toInt ≠ 0 → e8 = f8)) : nrel vp vn fk fs fe efw fp P N f5 f6 f7 e8 f9 f10 := by
  rw [wt_same h r6 hN] at hc
  by_cases z : wtI a.toInt b.toInt N.toInt (f10 a.toNatClampNeg).toInt = 0
  · exact nrel_w h (hc.1 z) (hm.1 z) rfl
  · rw [hc.2 z, hm.2 z]
    exact h
theorem nrel_mrg (h : nrel vp vn fk fs fe fw fp P N f5 f6 f7 f8 f9 f10) (r6 : rng f6 40 0 11) (hN : N.toInt ≤ 40) (hc : (mgI a.toInt b.toInt vp.toInt = 0 → evp.toInt = vp.toInt - 1 ∧ jnd (loI a.toInt b.toInt) (hiI a.toInt b.toInt) fs fe efs efe vn.toInt) ∧ (mgI a.toInt b.toInt vp.toInt ≠ 0 → evp = vp ∧ efs = fs ∧ efe = fe))
    (hm : (mgI a.toInt b.toInt P.toInt = 0 → n3.toInt = P.toInt - 1 ∧ mrgd (loI a.toInt b.toInt) (hiI a.toInt b.toInt) f6 f7 f10 e6 e7 e10 N.toInt) ∧ (mgI a.toInt b.toInt P.toInt ≠ 0 → n3 = P ∧ e6 = f6 ∧ e7 = f7 ∧ e10 = f10)) : nrel evp vn fk efs efe fw fp n3 N f5 e6 e7 f8 f9 e10 := by
  have q1 := h.1
  have q2 := h.2.1
  rw [q1] at hc
  by_cases z : mgI a.toInt b.toInt P.toInt = 0
  · have u := hc.1 z
    have v := hm.1 z
    rw [q2] at u
    exact nrel_merge h u.2 v.2 (Int.le_refl _) (Int.le_refl _) r6 hN (Int32.toInt_inj.mp (by rw [u.1, v.1]))
  · obtain ⟨a1, a2, a3⟩ := hc.2 z
    obtain ⟨b1, b2, b3, b4⟩ := hm.2 z
    rw [a1, a2, a3, b1, b2, b3, b4, ← q1]
    rw [← q1] at h
    exact h
theorem und_both (h : nrel vp vn fk fs fe fw fp P N f5 f6 f7 f8 f9 f10) (hp : prel pf ph pv pg s11.toInt f12 f13 f14) (hU : 0 ≤ s11.toInt) (h40 : n4.toInt ≤ 40) (hc : (ph.toInt = 0 → epf = pf ∧ eph = ph ∧ evp = vp ∧ evn = vn ∧ efk = fk ∧ efs = fs ∧ efe = fe ∧ efw = fw ∧ efp = fp ∧ epv = pv ∧ epg = pg) ∧ (ph.toInt ≠ 0 → undd pf ph pv pg epf eph evp evn efk efs efe efw efp epv epg))
    (hm : (s11.toInt = 0 → n3 = P ∧ n4 = N ∧ e5 = f5 ∧ e6 = f6 ∧ e7 = f7 ∧ e8 = f8 ∧ e9 = f9 ∧ e10 = f10 ∧ n11 = s11) ∧ (s11.toInt ≠ 0 → n11.toInt = s11.toInt - 1 ∧ n3 = f12 n11.toNatClampNeg ∧ n4 = f13 n11.toNatClampNeg ∧ ∀ j : Nat, j < 40 → back f14 (200 * n11.toNatClampNeg) e5 e6 e7 e8 e9 e10 j)) : nrel evp evn efk efs efe efw efp n3 n4 e5 e6 e7 e8 e9 e10 ∧ prel epf eph epv epg n11.toInt f12 f13 f14 := by
  have q := hp.1
  by_cases z : s11.toInt = 0
  · obtain ⟨a1, a2, a3, a4, a5, a6, a7, a8, a9, a10, a11⟩ := hc.1 (by omega)
    obtain ⟨b1, b2, b3, b4, b5, b6, b7, b8, b9⟩ := hm.1 z
    rw [a1, a2, a3, a4, a5, a6, a7, a8, a9, a10, a11, b1, b2, b3, b4, b5, b6, b7, b8, b9]
    exact ⟨h, hp⟩
  · obtain ⟨b1, b2, b3, b4⟩ := hm.2 z
    exact und_rel hp (hc.2 (by omega)) (by omega) b1 b2 b3 b4 h40
end STEP
section READ
variable {mk mr : Nat → Int32} {fl : Nat → Nat → Int32} {fn : Nat → Nat → Int64} {f15 f16 f17 f18 : Nat → Int32} {f19 : Nat → Int64} {a x y : Int32}
theorem read_row (hm : mrel mk mr fl fn f15 f16 f17 f18 f19) (h6 : ∀ q : Nat, q < 4 → (mr q).toInt ≤ 6) {A : Nat} (hA : A < 4) (h9 : (mr A).toInt ≠ -9) {P : Int} : mr A = f17 A ∧ (∀ (i : Nat) (n : Int), (i : Int) < (mr A).toInt → rwC (fl A) (fn A) P i n = rwR f18 f19 A P i n) ∧ ∀ i : Nat, (i : Int) < (mr A).toInt → (fl A i).toInt ≠ -9 → ∀ q : Nat, q < 5 → fn A (5 * i + q) = f19 (30 * A + 5 * i + q) := by
  obtain ⟨g1, g2, g3, g4⟩ := (hm A hA).2 h9
  have b6 := h6 A hA
  have cell : ∀ i : Nat, (i : Int) < (mr A).toInt → (fl A i).toInt ≠ -9 → ∀ q : Nat, q < 5 → fn A (5 * i + q) = f19 (30 * A + 5 * i + q) := fun i hi hl q hq => by
    rw [g4 (5 * i + q) (by omega) (by rw [show (5 * i + q) / 5 = i by omega]; exact hl), show 30 * A + (5 * i + q) = 30 * A + 5 * i + q by omega]
  exact ⟨g2, fun i n hi => rw_same (g3 i (by omega)) (cell i hi), cell⟩
theorem rd_row {fl2 : Nat → Int32} {fn2 : Nat → Int64} {P N rows c st : Int} (h : rdn (rwC fl2 fn2 P) N rows c st) : ∀ i : Nat, (i : Int) < c → (fl2 i).toInt ≠ -9 ∧ (i : Int) < rows := fun i hi => by
  have w := h.2.1 i hi
  have r := rdI_0 w
  have b := h.1.2
  exact ⟨by omega, by omega⟩
theorem read_all {pf ph vp vn epf eph evn P N n4 efi n1 : Int32} {s11 n11 : Int} {pv epv : Nat → Nat → Int32} {pg epg : Nat → Nat → Nat → Int32} {fk fs fe fw fp efk efs efe efw efp f5 f6 f7 f8 f9 f10 e5 e6 e7 e8 e9 e10 f12 f13 f14 e12 e13 e14 : Nat → Int32} (hm : mrel mk mr fl fn f15 f16 f17 f18 f19) (h6 : ∀ q : Nat, q < 4 → (mr q).toInt ≤ 6) (h : nrel vp vn fk fs fe fw fp P N f5 f6 f7 f8 f9 f10) (hp : prel pf ph pv pg s11 f12 f13 f14) (h9 : rng f9 40 0 100) (h13 : rng f13 30 0 40) (hN : 0 ≤ N.toInt ∧ N.toInt ≤ 40) (hpf : 0 ≤ pf.toInt ∧ pf.toInt ≤ 29) (hU : 0 ≤ s11)
    (hc : (¬ (0 ≤ a.toInt ∧ a.toInt < 4) → efi.toInt = -1 ∧ chn 0 pf ph pv pg vp vn fk fs fe fw fp epf eph epv epg evn efk efs efe efw efp) ∧ ((0 ≤ a.toInt ∧ a.toInt < 4) → (mr a.toNatClampNeg).toInt = -9 → efi.toInt = -11 ∧ chn 0 pf ph pv pg vp vn fk fs fe fw fp epf eph epv epg evn efk efs efe efw efp) ∧ ((0 ≤ a.toInt ∧ a.toInt < 4) → (mr a.toNatClampNeg).toInt ≠ -9 → ∃ c : Int, rdn (rwC (fl a.toNatClampNeg) (fn a.toNatClampNeg) vp.toInt) vn.toInt (mr a.toNatClampNeg).toInt c efi.toInt ∧ chn c pf ph pv pg vp vn fk fs fe fw fp epf eph epv epg evn efk efs efe efw efp ∧ apC vn.toInt c fk fs fe fw fp efk efs efe efw efp (fn a.toNatClampNeg) ∧ evn.toInt = vn.toInt + c))
    (hr : (¬ (0 ≤ a.toInt ∧ a.toInt < 4) → n1.toInt = -1 ∧ kpn 0 P N f5 f6 f7 f8 f9 f10 s11 f12 f13 f14 n11 e12 e13 e14 n4 e5 e6 e7 e8 e9 e10) ∧ ((0 ≤ a.toInt ∧ a.toInt < 4) → (f15 a.toNatClampNeg).toInt = 0 → n1.toInt = -11 ∧ kpn 0 P N f5 f6 f7 f8 f9 f10 s11 f12 f13 f14 n11 e12 e13 e14 n4 e5 e6 e7 e8 e9 e10) ∧ ((0 ≤ a.toInt ∧ a.toInt < 4) → (f15 a.toNatClampNeg).toInt ≠ 0 → ∃ c : Int, rdn (rwR f18 f19 a.toNatClampNeg P.toInt) N.toInt (f17 a.toNatClampNeg).toInt c n1.toInt ∧ kpn c P N f5 f6 f7 f8 f9 f10 s11 f12 f13 f14 n11 e12 e13 e14 n4 e5 e6 e7 e8 e9 e10 ∧ apR N.toInt c f5 f6 f7 f8 f9 f10 e5 e6 e7 e8 e9 e10 f19 (30 * a.toNatClampNeg) ∧ n4.toInt = N.toInt + c)) :
    nrel vp evn efk efs efe efw efp P n4 e5 e6 e7 e8 e9 e10 ∧ prel epf eph epv epg n11 e12 e13 e14 ∧ efi = n1 := by
  have none : chn 0 pf ph pv pg vp vn fk fs fe fw fp epf eph epv epg evn efk efs efe efw efp → kpn 0 P N f5 f6 f7 f8 f9 f10 s11 f12 f13 f14 n11 e12 e13 e14 n4 e5 e6 e7 e8 e9 e10 → nrel vp evn efk efs efe efw efp P n4 e5 e6 e7 e8 e9 e10 ∧ prel epf eph epv epg n11 e12 e13 e14 := fun u v => by
    refine ⟨?_, prel_read hp h u v h9 h13 hN.2 hpf hU⟩
    obtain ⟨_, _, _, _, a5, a6, a7, a8, a9, a10⟩ := u.1 rfl
    obtain ⟨_, _, _, _, b5, b6, b7, b8, b9, b10, b11⟩ := v.1 rfl
    rw [a5, a6, a7, a8, a9, a10, b5, b6, b7, b8, b9, b10, b11]
    exact h
  by_cases w : 0 ≤ a.toInt ∧ a.toInt < 4
  · have c := clI (i := a) w.1
    have hA : a.toNatClampNeg < 4 := by omega
    have k := (hm _ hA).1
    by_cases z : (mr a.toNatClampNeg).toInt = -9
    · have u := hc.2.1 w z
      have v := hr.2.1 w (k.mp z)
      exact ⟨(none u.2 v.2).1, (none u.2 v.2).2, Int32.toInt_inj.mp (by rw [u.1, v.1])⟩
    · obtain ⟨c1, d1, u1, u2, u3⟩ := hc.2.2 w z
      obtain ⟨c2, d2, v1, v2, v3⟩ := hr.2.2 w (fun q => z (k.mpr q))
      obtain ⟨g1, g2, g3⟩ := read_row hm h6 hA z (P := P.toInt)
      have rr := rd_row d1
      rw [h.1, h.2.1] at d1
      rw [← g1] at d2
      obtain ⟨q1, q2⟩ := rdn_un d1 d2 g2
      subst q1
      refine ⟨nrel_read h hN.1 u2 v2 (fun i hi => g3 i (rr i hi).2 (rr i hi).1) u3 v3, prel_read hp h u1 v1 h9 h13 hN.2 hpf hU, Int32.toInt_inj.mp q2⟩
  · have u := hc.1 w
    have v := hr.1 w
    exact ⟨(none u.2 v.2).1, (none u.2 v.2).2, Int32.toInt_inj.mp (by rw [u.1, v.1])⟩
end READ
end

section
/-! ===== what lines let out of a set: by lines, and by pairs of places ===== -/
theorem sumI_add {f g : Nat → Int} : ∀ n : Nat, sumI (fun j => f j + g j) n = sumI f n + sumI g n
  | 0 => rfl
  | n + 1 => by
    show sumI (fun j => f j + g j) n + (f n + g n) = sumI f n + f n + (sumI g n + g n)
    rw [sumI_add n]
    omega
theorem sumI_zero : ∀ n : Nat, sumI (fun _ => 0) n = 0
  | 0 => rfl
  | n + 1 => by
    show sumI (fun _ => 0) n + 0 = 0
    rw [sumI_zero n]
    rfl
theorem sumI_delta {f : Nat → Int} {a : Nat} : ∀ n : Nat, sumI (fun j => if j = a then f j else 0) n = if a < n then f a else 0
  | 0 => rfl
  | n + 1 => by
    show sumI (fun j => if j = a then f j else 0) n + (if n = a then f n else 0) = _
    rw [sumI_delta n]
    by_cases e : n = a
    · subst e
      rw [if_neg (Nat.lt_irrefl _), if_pos rfl, if_pos (Nat.lt_succ_self _)]
      omega
    · rw [if_neg e]
      by_cases h : a < n
      · rw [if_pos h, if_pos (by omega)]
        omega
      · rw [if_neg h, if_neg (by omega)]
        rfl
/-- what a line of kind k and width w lets, b: from its first end -/
noncomputable def rmW (k w b : Int) : Int := if k = 2 then 1000000 else if k = 1 ∧ b = 0 then 0 else w
/-- line l, from x to y -/
noncomputable def mlI (k w g : Nat → Int) (s e : Nat → Nat) (x y l : Nat) : Int := if g l ≠ 0 then 0 else (if s l = x ∧ e l = y then rmW (k l) (w l) 1 else 0) + (if e l = x ∧ s l = y then rmW (k l) (w l) 0 else 0)
/-- line l, out of S -/
noncomputable def clI_ (k w g : Nat → Int) (s e : Nat → Nat) (S : Nat → Bool) (l : Nat) : Int := if g l ≠ 0 then 0 else (if S (s l) = true ∧ S (e l) = false then rmW (k l) (w l) 1 else 0) + (if S (e l) = true ∧ S (s l) = false then rmW (k l) (w l) 0 else 0)
noncomputable def rowZ (M : Nat → Nat → Int) (S : Nat → Bool) (P x : Nat) : Int := sumI (fun y => if S y = true then 0 else M x y) P
noncomputable def outZ (M : Nat → Nat → Int) (S : Nat → Bool) (P : Nat) : Int := sumI (fun x => if S x = true then rowZ M S P x else 0) P
theorem rowZ_add {M N : Nat → Nat → Int} {S : Nat → Bool} {P x : Nat} : rowZ (fun x y => M x y + N x y) S P x = rowZ M S P x + rowZ N S P x := by
  unfold rowZ
  rw [← sumI_add]
  refine sumI_congr P (fun y _ => ?_)
  dsimp only
  split <;> omega
theorem outZ_add {M N : Nat → Nat → Int} {S : Nat → Bool} {P : Nat} : outZ (fun x y => M x y + N x y) S P = outZ M S P + outZ N S P := by
  unfold outZ
  rw [← sumI_add]
  refine sumI_congr P (fun x _ => ?_)
  rw [rowZ_add]
  split <;> omega
theorem outZ_0 {S : Nat → Bool} {P : Nat} : outZ (fun _ _ => 0) S P = 0 := by
  unfold outZ
  refine (sumI_congr P (fun x _ => ?_)).trans (sumI_zero P)
  unfold rowZ
  split
  · refine (sumI_congr P (fun y _ => ?_)).trans (sumI_zero P)
    split <;> rfl
  · rfl
theorem outZ_one {S : Nat → Bool} {P a b : Nat} {v : Int} (ha : a < P) (hb : b < P) : outZ (fun x y => if a = x ∧ b = y then v else 0) S P = if S a = true ∧ S b = false then v else 0 := by
  have row : ∀ x : Nat, rowZ (fun x y => if a = x ∧ b = y then v else 0) S P x = if x = a then (if S b = true then 0 else v) else 0 := fun x => by
    unfold rowZ
    by_cases e : x = a
    · rw [if_pos e]
      refine Eq.trans (sumI_congr P (fun y _ => ?_)) ((sumI_delta (f := fun y => if S y = true then 0 else v) (a := b) P).trans (if_pos hb))
      dsimp only
      by_cases q : y = b
      · rw [if_pos q, if_pos (show a = x ∧ b = y from ⟨e.symm, q.symm⟩)]
      · rw [if_neg q, if_neg (show ¬ (a = x ∧ b = y) from fun w => q w.2.symm)]
        split <;> rfl
    · rw [if_neg e]
      refine (sumI_congr P (fun y _ => ?_)).trans (sumI_zero P)
      dsimp only
      rw [if_neg (show ¬ (a = x ∧ b = y) from fun w => e w.1.symm)]
      split <;> rfl
  unfold outZ
  refine Eq.trans (sumI_congr P (fun x _ => ?_)) ((sumI_delta (f := fun x => if S x = true then (if S b = true then 0 else v) else 0) (a := a) P).trans ?_)
  · rw [row x]
    by_cases e : x = a
    · rw [if_pos e, if_pos e]
    · rw [if_neg e, if_neg e]
      split <;> rfl
  · rw [if_pos ha]
    by_cases q : S a = true
    · rw [if_pos q]
      by_cases r : S b = true
      · rw [if_pos r, if_neg (fun w => by rw [r] at w; exact absurd w.2 (by decide))]
      · have r2 : S b = false := by cases h : S b <;> simp_all
        rw [if_neg r, if_pos ⟨q, r2⟩]
    · rw [if_neg q, if_neg (fun w => q w.1)]
theorem outZ_line {k w g : Nat → Int} {s e : Nat → Nat} {S : Nat → Bool} {P l : Nat} (h : g l = 0 → s l < P ∧ e l < P) : outZ (fun x y => mlI k w g s e x y l) S P = clI_ k w g s e S l := by
  unfold mlI clI_
  by_cases z : g l ≠ 0
  · rw [if_pos z]
    refine Eq.trans ?_ (outZ_0 (S := S) (P := P))
    congr 1
    funext x y
    rw [if_pos z]
  · rw [if_neg z]
    obtain ⟨h1, h2⟩ := h (Decidable.of_not_not z)
    rw [← outZ_one (v := rmW (k l) (w l) 1) h1 h2, ← outZ_one (v := rmW (k l) (w l) 0) h2 h1, ← outZ_add]
    congr 1
    funext x y
    rw [if_neg z]
/-- by pairs is by lines -/
theorem outZ_sum {k w g : Nat → Int} {s e : Nat → Nat} {S : Nat → Bool} {P : Nat} : ∀ n : Nat, (∀ l : Nat, l < n → g l = 0 → s l < P ∧ e l < P) → outZ (fun x y => sumI (mlI k w g s e x y) n) S P = sumI (clI_ k w g s e S) n
  | 0, _ => outZ_0
  | n + 1, h => by
    show outZ (fun x y => sumI (mlI k w g s e x y) n + mlI k w g s e x y n) S P = sumI (clI_ k w g s e S) n + clI_ k w g s e S n
    rw [outZ_add, outZ_sum n (fun l hl => h l (by omega)), outZ_line (h n (by omega))]
/-! ===== the class's room by pairs ===== -/
noncomputable def kF (f : Nat → Int32) (j : Nat) : Int := (f j).toInt
noncomputable def wF (f : Nat → Int32) (r : Int) (j : Nat) : Int := (f j).toInt + (if (j : Int) = r then 1 else 0)
noncomputable def gF (f : Nat → Int32) (j : Nat) : Int := gI (f j).toInt
noncomputable def nF (f : Nat → Int32) (j : Nat) : Nat := (f j).toNatClampNeg
/-- lets, after n lines -/
noncomputable def mtx (M : Nat → Nat → Int32) (P : Int) (fk fs fe fw : Nat → Int32) (r : Int) (n : Nat) : Prop := ∀ x y : Nat, (x : Int) < P → y < 12 → (M x y).toInt = sumI (mlI (kF fk) (wF fw r) (gF fs) (nF fs) (nF fe) x y) n
/-- the ends of lines that are there are places -/
noncomputable def netC (P N : Int) (fs fe : Nat → Int32) : Prop := ∀ j : Nat, (j : Int) < N → (fs j).toInt ≠ -9 → (fs j).toInt < P ∧ (fe j).toInt < P
theorem rmW_rng {k w b : Int} (h0 : 0 ≤ w) (h1 : w ≤ 2001) : 0 ≤ rmW k w b ∧ rmW k w b ≤ 1000000 := by
  unfold rmW
  split
  · omega
  · split <;> omega
theorem wF_rng {fw : Nat → Int32} {r : Int} {j : Nat} (h : rng fw 40 0 2000) (hj : j < 40) : 0 ≤ wF fw r j ∧ wF fw r j ≤ 2001 := by
  have a := h j hj
  unfold wF
  split <;> omega
theorem mlI_rng {fk fs fe fw : Nat → Int32} {r : Int} {x y j : Nat} (h : rng fw 40 0 2000) (hj : j < 40) : 0 ≤ mlI (kF fk) (wF fw r) (gF fs) (nF fs) (nF fe) x y j ∧ mlI (kF fk) (wF fw r) (gF fs) (nF fs) (nF fe) x y j ≤ 2000000 := by
  have a := wF_rng (r := r) h hj
  have b := rmW_rng (k := kF fk j) (b := 1) a.1 a.2
  have c := rmW_rng (k := kF fk j) (b := 0) a.1 a.2
  unfold mlI
  (repeat' split) <;> omega
theorem sumI_rng {g : Nat → Int} {B : Int} : ∀ n : Nat, (∀ j : Nat, j < n → 0 ≤ g j ∧ g j ≤ B) → 0 ≤ sumI g n ∧ sumI g n ≤ B * n
  | 0, _ => by
    show 0 ≤ (0 : Int) ∧ (0 : Int) ≤ B * ((0 : Nat) : Int)
    omega
  | n + 1, h => by
    have a := sumI_rng n (fun j hj => h j (by omega))
    have b := h n (by omega)
    show 0 ≤ sumI g n + g n ∧ sumI g n + g n ≤ B * ((n + 1 : Nat) : Int)
    have e : B * ((n + 1 : Nat) : Int) = B * (n : Int) + B := by
      rw [Int.natCast_add, Int.mul_add]
      omega
    omega
theorem mtx_bd {M : Nat → Nat → Int32} {P : Int} {fk fs fe fw : Nat → Int32} {r : Int} {n x y : Nat} (h : mtx M P fk fs fe fw r n) (hw : rng fw 40 0 2000) (hn : n ≤ 40) (hx : (x : Int) < P) (hy : y < 12) : 0 ≤ (M x y).toInt ∧ (M x y).toInt ≤ 80000000 := by
  have a := sumI_rng (g := mlI (kF fk) (wF fw r) (gF fs) (nF fs) (nF fe) x y) (B := 2000000) n (fun j hj => mlI_rng hw (by omega))
  rw [h x y hx hy]
  omega
theorem zr_st {M M2 : Nat → Nat → Int32} {k : Nat} {g : Nat → Int32} {i i2 : Int32} (e : M2 = va_up M k g) (h : ∀ x y : Nat, (x : Int) < i.toInt → y < 12 → (M x y).toInt = 0) (hg : ∀ j : Nat, j < 12 → g j = 0) (hi : i.toInt = k) (ei : i2.toInt = i.toInt + 1) : ∀ x y : Nat, (x : Int) < i2.toInt → y < 12 → (M2 x y).toInt = 0 := fun x y hx hy => by
  rw [e]
  by_cases z : x = k
  · rw [z, va_up_self, hg y hy]
    decide
  · rw [va_up_ne _ _ z]
    exact h x y (by omega) hy
theorem mtx_0 {M : Nat → Nat → Int32} {P : Int} {fk fs fe fw : Nat → Int32} {r : Int} {i : Int32} (h : ∀ x y : Nat, (x : Int) < i.toInt → y < 12 → (M x y).toInt = 0) (hi : P ≤ i.toInt) : mtx M P fk fs fe fw r (0 : Int32).toNatClampNeg := fun x y hx hy => by
  rw [h x y (by omega) hy]
  rfl
theorem mtx_skip {M : Nat → Nat → Int32} {P : Int} {fk fs fe fw : Nat → Int32} {r : Int} {i i2 : Int32} (h : mtx M P fk fs fe fw r i.toNatClampNeg) (hi : 0 ≤ i.toInt) (ei : i2.toInt = i.toInt + 1) (hm : (fs i.toNatClampNeg).toInt = -9) : mtx M P fk fs fe fw r i2.toNatClampNeg := fun x y hx hy => by
  have c := clI (i := i) hi
  have c2 := clI (i := i2) (by omega)
  rw [show i2.toNatClampNeg = i.toNatClampNeg + 1 by omega]
  show _ = sumI _ i.toNatClampNeg + mlI (kF fk) (wF fw r) (gF fs) (nF fs) (nF fe) x y i.toNatClampNeg
  rw [← h x y hx hy]
  have g : gF fs i.toNatClampNeg = 1 := gI_1 hm
  unfold mlI
  rw [if_pos (by omega)]
  omega
/-- one line more, forth and back -/
theorem mtx_st {M M1 M2 : Nat → Nat → Int32} {P F B : Int} {fk fs fe fw : Nat → Int32} {r : Int} {i i2 a b v1 v2 : Int32} (h : mtx M P fk fs fe fw r i.toNatClampNeg) (hi : 0 ≤ i.toInt) (ei : i2.toInt = i.toInt + 1) (hm : (fs i.toNatClampNeg).toInt ≠ -9) (ea : a = fs i.toNatClampNeg) (eb : b = fe i.toNatClampNeg)
    (e1 : M1 = va_up M a.toNatClampNeg (upd (M a.toNatClampNeg) b.toNatClampNeg v1)) (e2 : M2 = va_up M1 b.toNatClampNeg (upd (M1 b.toNatClampNeg) a.toNatClampNeg v2)) (h1 : v1.toInt = (M a.toNatClampNeg b.toNatClampNeg).toInt + F) (h2 : v2.toInt = (M1 b.toNatClampNeg a.toNatClampNeg).toInt + B) (hF : F = rmW (kF fk i.toNatClampNeg) (wF fw r i.toNatClampNeg) 1) (hB : B = rmW (kF fk i.toNatClampNeg) (wF fw r i.toNatClampNeg) 0) : mtx M2 P fk fs fe fw r i2.toNatClampNeg := fun x y hx hy => by
  have c := clI (i := i) hi
  have c2 := clI (i := i2) (by omega)
  rw [show i2.toNatClampNeg = i.toNatClampNeg + 1 by omega]
  show _ = sumI _ i.toNatClampNeg + mlI (kF fk) (wF fw r) (gF fs) (nF fs) (nF fe) x y i.toNatClampNeg
  rw [← h x y hx hy]
  have g : gF fs i.toNatClampNeg = 0 := gI_0 hm
  have na : nF fs i.toNatClampNeg = a.toNatClampNeg := by unfold nF; rw [ea]
  have nb : nF fe i.toNatClampNeg = b.toNatClampNeg := by unfold nF; rw [eb]
  have m1 : (M1 x y).toInt = (M x y).toInt + if a.toNatClampNeg = x ∧ b.toNatClampNeg = y then F else 0 := by
    rw [e1]
    by_cases q : x = a.toNatClampNeg
    · rw [q, va_up_self]
      by_cases w : y = b.toNatClampNeg
      · rw [w, pk_us, h1, if_pos ⟨rfl, rfl⟩]
      · rw [pk_un w, if_neg (fun z => w z.2.symm)]
        omega
    · rw [va_up_ne _ _ q, if_neg (fun z => q z.1.symm)]
      omega
  have m2 : (M2 x y).toInt = (M1 x y).toInt + if b.toNatClampNeg = x ∧ a.toNatClampNeg = y then B else 0 := by
    rw [e2]
    by_cases q : x = b.toNatClampNeg
    · rw [q, va_up_self]
      by_cases w : y = a.toNatClampNeg
      · rw [w, pk_us, h2, if_pos ⟨rfl, rfl⟩]
      · rw [pk_un w, if_neg (fun z => w z.2.symm)]
        omega
    · rw [va_up_ne _ _ q, if_neg (fun z => q z.1.symm)]
      omega
  unfold mlI
  rw [if_neg (by omega), na, nb, ← hF, ← hB, m2, m1]
  omega
/-! ===== load, leaving: steps ===== -/
section LTF
variable {g5 g6 h5 h6 fk fs fe fw : Nat → Int32} {r : Int} {i i2 v5 v6 : Int32}
/-- letsForth and letsBack, of n lines -/
noncomputable def ltF (g5 g6 fk fs fw : Nat → Int32) (r : Int) (n : Nat) : Prop := ∀ j : Nat, j < n → (fs j).toInt ≠ -9 → (g5 j).toInt = rmW (kF fk j) (wF fw r j) 1 ∧ (g6 j).toInt = rmW (kF fk j) (wF fw r j) 0
theorem ltF_0 : ltF g5 g6 fk fs fw r (0 : Int32).toNatClampNeg := fun j hj => absurd hj (by rw [cl_0]; omega)
theorem ltF_skip (h : ltF g5 g6 fk fs fw r i.toNatClampNeg) (hi : 0 ≤ i.toInt) (ei : i2.toInt = i.toInt + 1) (hm : (fs i.toNatClampNeg).toInt = -9) : ltF g5 g6 fk fs fw r i2.toNatClampNeg := fun j hj hg => by
  have c := clI (i := i) hi
  have c2 := clI (i := i2) (by omega)
  by_cases e : j = i.toNatClampNeg
  · rw [e] at hg
    exact absurd hm hg
  · exact h j (by omega) hg
theorem ltF_st (h : ltF g5 g6 fk fs fw r i.toNatClampNeg) (e5 : h5 = upd g5 i.toNatClampNeg v5) (e6 : h6 = upd g6 i.toNatClampNeg v6) (hv5 : v5.toInt = rmW (kF fk i.toNatClampNeg) (wF fw r i.toNatClampNeg) 1) (hv6 : v6.toInt = rmW (kF fk i.toNatClampNeg) (wF fw r i.toNatClampNeg) 0) : ltF h5 h6 fk fs fw r (i.toNatClampNeg + 1) := fun j hj hg => by
  rw [e5, e6]
  by_cases e : j = i.toNatClampNeg
  · rw [e, pk_us, pk_us]
    exact ⟨hv5, hv6⟩
  · rw [pk_un e, pk_un e]
    exact h j (by omega) hg
theorem ltF_nx (h : ltF g5 g6 fk fs fw r (i.toNatClampNeg + 1)) (hi : 0 ≤ i.toInt) (ei : i2.toInt = i.toInt + 1) : ltF g5 g6 fk fs fw r i2.toNatClampNeg := by
  have c := clI (i := i) hi
  have c2 := clI (i := i2) (by omega)
  rw [show i2.toNatClampNeg = i.toNatClampNeg + 1 by omega]
  exact h
end LTF
theorem mtx_bd1 {M M1 : Nat → Nat → Int32} {P F : Int} {fk fs fe fw : Nat → Int32} {r : Int} {n a b x y : Nat} {v1 : Int32} (h : mtx M P fk fs fe fw r n) (hw : rng fw 40 0 2000) (hn : n ≤ 40) (e1 : M1 = va_up M a (upd (M a) b v1)) (h1 : v1.toInt = (M a b).toInt + F) (hF : 0 ≤ F ∧ F ≤ 1000000) (ha : (a : Int) < P) (hb : b < 12) (hx : (x : Int) < P) (hy : y < 12) : 0 ≤ (M1 x y).toInt ∧ (M1 x y).toInt ≤ 81000000 := by
  have b0 := mtx_bd h hw hn hx hy
  have b1 := mtx_bd h hw hn ha hb
  rw [e1]
  by_cases q : x = a
  · rw [q, va_up_self]
    by_cases w : y = b
    · rw [w, pk_us, h1]
      omega
    · rw [pk_un w, ← q]
      omega
  · rw [va_up_ne _ _ q]
    omega
theorem clI_rng {k w g : Nat → Int} {s e : Nat → Nat} {S : Nat → Bool} {l : Nat} (h : 0 ≤ w l ∧ w l ≤ 2001) : 0 ≤ clI_ k w g s e S l ∧ clI_ k w g s e S l ≤ 1000000 := by
  have b := rmW_rng (k := k l) (b := 1) h.1 h.2
  have c := rmW_rng (k := k l) (b := 0) h.1 h.2
  unfold clI_
  by_cases z : g l ≠ 0
  · rw [if_pos z]
    omega
  · rw [if_neg z]
    by_cases p : S (s l) = true ∧ S (e l) = false
    · rw [if_pos p, if_neg (fun q => by rw [p.2] at q; exact absurd q.1 (by decide))]
      omega
    · rw [if_neg p]
      split <;> omega
theorem clI_same {k w g k2 w2 g2 : Nat → Int} {s e s2 e2 : Nat → Nat} {S T : Nat → Bool} {l : Nat} (hg : g l ≠ 0 ↔ g2 l ≠ 0) (h : g l = 0 → k l = k2 l ∧ w l = w2 l ∧ s l = s2 l ∧ e l = e2 l ∧ S (s l) = T (s l) ∧ S (e l) = T (e l)) : clI_ k w g s e S l = clI_ k2 w2 g2 s2 e2 T l := by
  unfold clI_
  by_cases z : g l ≠ 0
  · rw [if_pos z, if_pos (hg.mp z)]
  · obtain ⟨a, b, c, d, x, y⟩ := h (Decidable.of_not_not z)
    rw [if_neg z, if_neg (fun q => z (hg.mpr q)), x, y, a, b, c, d]
/-- what a set lets out, of both sides' nets -/
noncomputable def cutC (k w g : Nat → Int) (s e : Nat → Nat) (n : Nat) (S : Nat → Bool) : Int := sumI (clI_ k w g s e S) n
noncomputable def cutF (fk fs fe fw : Nat → Int32) (r : Int) (n : Nat) (S : Nat → Bool) : Int := cutC (kF fk) (wF fw r) (gF fs) (nF fs) (nF fe) n S
noncomputable def cutR (f5 f6 f7 f8 f10 : Nat → Int32) (r : Int) (n : Nat) (S : Nat → Bool) : Int := cutC (kF f5) (wF f8 r) (kF f10) (nF f6) (nF f7) n S
theorem cutF_rng {fk fs fe fw : Nat → Int32} {r : Int} {n : Nat} {S : Nat → Bool} (hw : rng fw 40 0 2000) (hn : n ≤ 40) : 0 ≤ cutF fk fs fe fw r n S ∧ cutF fk fs fe fw r n S ≤ 40000000 := by
  have a := sumI_rng (g := clI_ (kF fk) (wF fw r) (gF fs) (nF fs) (nF fe) S) (B := 1000000) n (fun j hj => clI_rng (wF_rng hw (by omega)))
  unfold cutF cutC
  omega
theorem nF_lt {f : Nat → Int32} {j : Nat} {P : Int32} (h0 : 0 ≤ (f j).toInt) (h1 : (f j).toInt < P.toInt) : nF f j < P.toNatClampNeg := by
  have c := clI (i := f j) h0
  have c2 := clI (i := P) (by omega)
  unfold nF
  omega
theorem netC_at {P N : Int32} {fs fe : Nat → Int32} (hc : netC P.toInt N.toInt fs fe) (hp : prng fs fe 40) (hN : N.toInt ≤ 40) {l : Nat} (hl : l < N.toNatClampNeg) (hg : gF fs l = 0) : nF fs l < P.toNatClampNeg ∧ nF fe l < P.toNatClampNeg := by
  have c : ((N.toNatClampNeg : Nat) : Int) = N.toInt := by
    have h : ((N.toNatClampNeg : Nat) : Int) = ((N.toInt.toNat : Nat) : Int) := rfl
    omega
  have hm : (fs l).toInt ≠ -9 := fun e => by
    have g1 : gF fs l = 1 := gI_1 e
    omega
  have a := hc l (by omega) hm
  rcases hp l (by omega) with b | b
  · exact absurd b hm
  · exact ⟨nF_lt b.1 a.1, nF_lt b.2.2.1 a.2⟩
theorem out_mtx {M : Nat → Nat → Int32} {P N : Int32} {fk fs fe fw : Nat → Int32} {r : Int} {S : Nat → Bool} (h : mtx M P.toInt fk fs fe fw r N.toNatClampNeg) (hc : netC P.toInt N.toInt fs fe) (hp : prng fs fe 40) (hP : 0 ≤ P.toInt ∧ P.toInt ≤ 12) (hN : N.toInt ≤ 40) : outZ (fun x y => (M x y).toInt) S P.toNatClampNeg = cutF fk fs fe fw r N.toNatClampNeg S := by
  have c := clI (i := P) hP.1
  unfold cutF cutC
  rw [← outZ_sum (P := P.toNatClampNeg) N.toNatClampNeg (fun l hl hg => netC_at hc hp hN hl hg)]
  unfold outZ
  refine sumI_congr _ (fun x hx => ?_)
  have e : rowZ (fun x y => (M x y).toInt) S P.toNatClampNeg x = rowZ (fun x y => sumI (mlI (kF fk) (wF fw r) (gF fs) (nF fs) (nF fe) x y) N.toNatClampNeg) S P.toNatClampNeg x := by
    unfold rowZ
    refine sumI_congr _ (fun y hy => ?_)
    dsimp only
    rw [h x y (by omega) (by omega)]
  rw [e]
theorem cutF_set {fk fs fe fw : Nat → Int32} {r : Int} {P N : Int32} {S T : Nat → Bool} (hc : netC P.toInt N.toInt fs fe) (hp : prng fs fe 40) (hN : N.toInt ≤ 40) (h : ∀ x : Nat, x < P.toNatClampNeg → S x = T x) : cutF fk fs fe fw r N.toNatClampNeg S = cutF fk fs fe fw r N.toNatClampNeg T := by
  unfold cutF cutC
  refine sumI_congr _ (fun l hl => clI_same Iff.rfl (fun hg => ?_))
  have a := netC_at hc hp hN hl hg
  exact ⟨rfl, rfl, rfl, rfl, h _ a.1, h _ a.2⟩
theorem sumI_mono {f : Nat → Int} : ∀ (d k : Nat), (∀ j : Nat, j < k + d → 0 ≤ f j) → sumI f k ≤ sumI f (k + d)
  | 0, k, _ => Int.le_refl _
  | d + 1, k, h => by
    have a := sumI_mono d k (fun j hj => h j (by omega))
    have b := h (k + d) (by omega)
    show sumI f k ≤ sumI f (k + d) + f (k + d)
    omega
theorem sumI_nn {f : Nat → Int} {n : Nat} (h : ∀ j : Nat, j < n → 0 ≤ f j) : 0 ≤ sumI f n := by
  have a := sumI_mono (f := f) n 0 (fun j hj => h j (by omega))
  rw [Nat.zero_add] at a
  exact a
theorem rowZ_nn {M : Nat → Nat → Int} {S : Nat → Bool} {P x : Nat} (hM : ∀ y : Nat, y < P → 0 ≤ M x y) : 0 ≤ rowZ M S P x := by
  unfold rowZ
  refine sumI_nn (fun y hy => ?_)
  try dsimp only
  split
  · omega
  · exact hM y hy
theorem lv_bd {M : Nat → Nat → Int} {S : Nat → Bool} {P k : Nat} {B : Int} (hM : ∀ x y : Nat, x < P → y < P → 0 ≤ M x y) (hT : outZ M S P ≤ B) (hk : k < P) (hS : S k = true) : 0 ≤ sumI (fun x => if S x = true then rowZ M S P x else 0) k ∧ sumI (fun x => if S x = true then rowZ M S P x else 0) k + rowZ M S P k ≤ B := by
  have nn : ∀ j : Nat, j < P → 0 ≤ (fun x => if S x = true then rowZ M S P x else 0) j := fun j hj => by
    try dsimp only
    split
    · exact rowZ_nn (fun y hy => hM j y hj hy)
    · omega
  refine ⟨sumI_nn (fun j hj => nn j (by omega)), ?_⟩
  have a := sumI_mono (f := fun x => if S x = true then rowZ M S P x else 0) (P - (k + 1)) (k + 1) (fun j hj => nn j (by omega))
  rw [show k + 1 + (P - (k + 1)) = P by omega] at a
  have b : sumI (fun x => if S x = true then rowZ M S P x else 0) (k + 1) = sumI (fun x => if S x = true then rowZ M S P x else 0) k + rowZ M S P k := by
    show sumI (fun x => if S x = true then rowZ M S P x else 0) k + (if S k = true then rowZ M S P k else 0) = _
    rw [if_pos hS]
  have c : sumI (fun x => if S x = true then rowZ M S P x else 0) P ≤ B := hT
  omega
theorem cnt_b {S : Nat → Bool} {V : Nat → Int} {i i2 a a2 w : Int32} (h : a.toInt = sumI (fun y => if S y = true then V y else 0) i.toNatClampNeg) (hw : w.toInt = if S i.toNatClampNeg = true then 1 else 0) (hr : (w.toInt = 1 ∧ a2.toInt = a.toInt + V i.toNatClampNeg) ∨ (w.toInt ≠ 1 ∧ a2.toInt = a.toInt)) (hi : 0 ≤ i.toInt) (ei : i2.toInt = i.toInt + 1) : a2.toInt = sumI (fun y => if S y = true then V y else 0) i2.toNatClampNeg := by
  refine cnt_st h ?_ hi ei
  try dsimp only
  by_cases z : S i.toNatClampNeg = true
  · rw [if_pos z] at hw ⊢
    omega
  · rw [if_neg z] at hw ⊢
    omega
/-! bits -/
theorem and1I {z w : Int32} (ew : w = z &&& 1) : w.toInt = if bt z 0 = true then 1 else 0 := by
  have e : w.toBitVec = BitVec.setWidth 32 (BitVec.ofBool (z.toBitVec.getLsbD 0)) := by
    rw [ew, Int32.toBitVec_and]
    exact BitVec.and_one_eq_setWidth_ofBool_getLsbD
  unfold bt
  show w.toBitVec.toInt = _
  rw [e]
  cases z.toBitVec.getLsbD 0 <;> rfl
theorem bI_w {x y z w : Int32} (h0 : 0 ≤ y.toInt) (h1 : y.toInt ≤ 11) (ez : z = x >>> (y &&& 31)) (ew : w = z &&& 1) : w.toInt = if bt x y.toNatClampNeg = true then 1 else 0 := by
  have c := clI (i := y) h0
  have e := nI_cl h0
  have b := b_sshr y.toNatClampNeg (by omega) x (i := 0) (by omega)
  rw [← e, ← ez, if_pos (by omega), Nat.add_zero] at b
  rw [and1I ew, b]
theorem bI_eq {b : Bool} {w c : Int32} (h : w.toInt = if b = true then 1 else 0) (hc : (w.toInt = 1 ∧ c.toInt = 1) ∨ (w.toInt ≠ 1 ∧ c.toInt = 0)) : b = decide (c.toInt = 1) := by
  cases b
  · rw [if_neg (by decide)] at h
    rw [eq_comm, decide_eq_false_iff_not]
    omega
  · rw [if_pos rfl] at h
    rw [eq_comm, decide_eq_true_iff]
    omega
theorem clI_at {k w g : Nat → Int} {s e : Nat → Nat} {S : Nat → Bool} {l : Nat} {c4 c5 v : Int} (hg : g l = 0) (ha : S (s l) = decide (c4 = 1)) (hb : S (e l) = decide (c5 = 1)) (hv : v = if c4 = 1 ∧ c5 ≠ 1 then rmW (k l) (w l) 1 else if c5 = 1 ∧ c4 ≠ 1 then rmW (k l) (w l) 0 else 0) : v = clI_ k w g s e S l := by
  unfold clI_
  rw [if_neg (by omega), ha, hb, hv]
  by_cases p : c4 = 1 <;> by_cases q : c5 = 1 <;> simp [p, q]
theorem clI_miss {k w g : Nat → Int} {s e : Nat → Nat} {S : Nat → Bool} {l : Nat} (hg : g l ≠ 0) : clI_ k w g s e S l = 0 := if_pos hg
theorem bt_m1 : ∀ i : Nat, i < 32 → bt (-1) i = true := by decide +kernel
theorem bt_o : ∀ i : Nat, i < 32 → bt 1 i = decide (i = 0) := by decide +kernel
theorem b_not (x : Int32) {i : Nat} (hi : i < 32) : bt (x ^^^ (-1)) i = !bt x i := by
  have e : bt (x ^^^ (-1)) i = (bt x i ^^ bt (-1) i) := by
    unfold bt
    rw [Int32.toBitVec_xor, BitVec.getLsbD_xor]
  rw [e, bt_m1 i hi]
  cases bt x i <;> rfl
theorem bt_sh {y : Int32} (h0 : 0 ≤ y.toInt) (h1 : y.toInt ≤ 12) {i : Nat} (hi : i < 32) : bt ((1 : Int32) <<< (y &&& 31)) i = decide (i = y.toNatClampNeg) := by
  have c := clI (i := y) h0
  have e := nI_cl h0
  have b := b_shl y.toNatClampNeg (by omega) 1 (i := i) hi
  rw [← e] at b
  rw [b, bt_o _ (by omega)]
  by_cases q : i = y.toNatClampNeg
  · rw [q]
    simp
  · by_cases w : y.toNatClampNeg ≤ i
    · have z : i - y.toNatClampNeg ≠ 0 := by omega
      simp [q, z]
    · simp [q, w]
theorem bt_all : ∀ n : Nat, n < 13 → ∀ i : Nat, i < n → bt ((1 : Int32) <<< (nI n &&& 31) - 1) i = true := by decide +kernel
/-- the set of size(): with s, without t -/
noncomputable def setS (a : Int32) (s t x : Nat) : Bool := (bt a x || decide (x = s)) && !decide (x = t)
theorem mask_c {a s t b1 o b2 n z : Int32} (hs : 0 ≤ s.toInt ∧ s.toInt ≤ 11) (ht : 0 ≤ t.toInt ∧ t.toInt ≤ 11) (e1 : b1 = (1 : Int32) <<< (s &&& 31)) (e2 : o = a ||| b1) (e3 : b2 = (1 : Int32) <<< (t &&& 31)) (e4 : n = b2 ^^^ (-1)) (e5 : z = o &&& n) {x : Nat} (hx : x < 32) : bt z x = setS a s.toNatClampNeg t.toNatClampNeg x := by
  unfold setS
  rw [e5, b_and, e4, b_not _ hx, e3, bt_sh ht.1 (by omega) hx, e2, b_or, e1, bt_sh hs.1 (by omega) hx]
theorem mask_r {a s t P m al y b1 o b2 n z : Int32} (hs : 0 ≤ s.toInt ∧ s.toInt ≤ 11) (ht : 0 ≤ t.toInt ∧ t.toInt ≤ 11) (hP : 0 ≤ P.toInt ∧ P.toInt ≤ 12) (em : m = (1 : Int32) <<< (P &&& 31)) (el : al = m - 1) (ey : y = a &&& al) (e1 : b1 = (1 : Int32) <<< (s &&& 31)) (e2 : o = y ||| b1) (e3 : b2 = (1 : Int32) <<< (t &&& 31)) (e4 : n = b2 ^^^ (-1)) (e5 : z = o &&& n) {x : Nat} (hx : x < P.toNatClampNeg) : bt z x = setS a s.toNatClampNeg t.toNatClampNeg x := by
  have c := clI (i := P) hP.1
  have e := nI_cl hP.1
  have b := bt_all P.toNatClampNeg (by omega) x hx
  rw [← e, ← em, ← el] at b
  have q : bt y x = bt a x := by rw [ey, b_and, b, Bool.and_true]
  unfold setS
  rw [e5, b_and, e4, b_not _ (by omega), e3, bt_sh ht.1 (by omega) (by omega), e2, b_or, e1, bt_sh hs.1 (by omega) (by omega), q]
/-- ENDLESS or the number -/
noncomputable def tldI (n : Int) : Int := if 1000000 ≤ n then -5 else n
noncomputable def mn6 (n : Int) : Int := if n < 1000000 then n else 1000000
/-- the reference's room -/
theorem roomI {r k w b l z : Int32} (h : r = ml_room k w b l z) (h0 : 0 ≤ w.toInt ∧ w.toInt ≤ 2000) : r.toInt = rmW k.toInt (w.toInt + if l.toInt = z.toInt then 1 else 0) b.toInt := by
  have i1 : ∀ x y : Int32, x = y ↔ x.toInt = y.toInt := fun x y => Int32.toInt_inj.symm
  have z2 : (2 : Int32).toInt = 2 := by decide
  have z1 : (1 : Int32).toInt = 1 := by decide
  have z0 : (0 : Int32).toInt = 0 := by decide
  have z5 : ((-5) : Int32).toInt = -5 := by decide
  have z6 : (1000000 : Int32).toInt = 1000000 := by decide
  have hl := letsI (r := ml_lets k w b) rfl
  have hp : (w + 1).toInt = w.toInt + 1 := by
    have := addI (a := w) (b := 1) (by omega) (by omega)
    omega
  rw [h]
  unfold ml_room rmW
  by_cases k2 : k.toInt = 2
  · rw [if_pos k2] at hl
    rw [if_pos ((i1 _ _).mpr (by omega)), if_pos k2, z6]
  · rw [if_neg k2] at hl
    rw [if_neg k2]
    by_cases k1 : k.toInt = 1 ∧ b.toInt = 0
    · rw [if_pos k1] at hl
      rw [if_neg (fun q => by rw [i1] at q; omega), if_neg (fun q => q.2 ⟨(i1 _ _).mpr (by omega), (i1 _ _).mpr (by omega)⟩), if_pos k1]
      exact hl
    · rw [if_neg k1] at hl
      have el : ml_lets k w b = w := (i1 _ _).mpr hl
      rw [if_neg (fun q => by rw [i1] at q; omega), if_neg k1, el]
      by_cases q : l.toInt = z.toInt
      · rw [if_pos ⟨(i1 _ _).mpr q, fun w => k1 ⟨by rw [w.1]; exact z1, by rw [w.2]; exact z0⟩⟩, if_pos q]
        exact hp
      · rw [if_neg (fun w => q ((i1 _ _).mp w.1)), if_neg q]
        omega
theorem row_not {M : Nat → Nat → Int32} {a b : Int32} {x P : Nat} (hP : P ≤ 12) (e : b = a ^^^ (-1)) : sumI (fun y => if bt b y = true then (M x y).toInt else 0) P = rowZ (fun x y => (M x y).toInt) (bt a) P x := by
  unfold rowZ
  refine sumI_congr P (fun y hy => ?_)
  try dsimp only
  rw [e, b_not _ (by omega)]
  cases bt a y <;> rfl
theorem b_tr {b : Bool} {w : Int32} (h : w.toInt = if b = true then 1 else 0) (hw : w.toInt = 1) : b = true := by
  cases b
  · rw [if_neg (by decide)] at h
    omega
  · rfl
theorem cutR_set {f5 f6 f7 f8 f10 : Nat → Int32} {r : Int} {P N : Int32} {S T : Nat → Bool} (hc : netE P.toInt N.toInt f6 f7 f10) (h6 : rng f6 40 0 11) (h7 : rng f7 40 0 11) (hN : N.toInt ≤ 40) (hP : 0 ≤ P.toInt) (h : ∀ x : Nat, x < P.toNatClampNeg → S x = T x) : cutR f5 f6 f7 f8 f10 r N.toNatClampNeg S = cutR f5 f6 f7 f8 f10 r N.toNatClampNeg T := by
  have c : ((N.toNatClampNeg : Nat) : Int) = ((N.toInt.toNat : Nat) : Int) := rfl
  unfold cutR cutC
  refine sumI_congr _ (fun l hl => clI_same Iff.rfl (fun hg => ?_))
  have a := hc l (by omega) hg
  have b6 := h6 l (by omega)
  have b7 := h7 l (by omega)
  exact ⟨rfl, rfl, rfl, rfl, h _ (nF_lt b6.1 a.1), h _ (nF_lt b7.1 a.2)⟩
theorem told_mn {r a : Int32} {n : Int} (ha : a.toInt = mn6 n) (hr : r.toInt = if a.toInt = 1000000 then -5 else a.toInt) : r.toInt = tldI n := by
  rw [hr, ha]
  unfold mn6 tldI
  by_cases h : n < 1000000
  · rw [if_pos h, if_neg (by omega), if_neg (by omega)]
  · rw [if_neg h, if_pos rfl, if_pos (by omega)]
/-- the nets of both sides let the same out -/
theorem cut_same {vp vn P N : Int32} {fk fs fe fw fp f5 f6 f7 f8 f9 f10 : Nat → Int32} {r : Int} {S : Nat → Bool} (h : nrel vp vn fk fs fe fw fp P N f5 f6 f7 f8 f9 f10) (r6 : rng f6 40 0 11) (hN : 0 ≤ N.toInt ∧ N.toInt ≤ 40) : cutF fk fs fe fw r vn.toNatClampNeg S = cutR f5 f6 f7 f8 f10 r N.toNatClampNeg S := by
  have c := clI (i := N) hN.1
  unfold cutF cutR cutC
  rw [h.2.1]
  refine sumI_congr _ (fun l hl => ?_)
  obtain ⟨a1, a2, _, a4, a5⟩ := h.2.2 l (by omega)
  have b6 := r6 l (by omega)
  have e : gF fs l ≠ 0 ↔ kF f10 l ≠ 0 := by
    unfold gF kF
    by_cases z : (f10 l).toInt = 0
    · rw [gI_0 (by rw [(a5 z).1]; omega)]
      omega
    · rw [gI_1 (a4 z).1]
      omega
  refine clI_same e (fun hg => ?_)
  have z : (f10 l).toInt = 0 := Decidable.of_not_not (fun w => absurd hg (e.mpr w))
  obtain ⟨x, y⟩ := a5 z
  unfold kF wF nF
  rw [a1, a2, x, y]
  exact ⟨rfl, rfl, rfl, rfl, rfl, rfl⟩
theorem netC_rel {vp vn P N : Int32} {fk fs fe fw fp f5 f6 f7 f8 f9 f10 : Nat → Int32} (h : nrel vp vn fk fs fe fw fp P N f5 f6 f7 f8 f9 f10) (hn : netE P.toInt N.toInt f6 f7 f10) : netC vp.toInt vn.toInt fs fe := fun j hj hm => by
  rw [h.2.1] at hj
  obtain ⟨_, _, _, a4, a5⟩ := h.2.2 j hj
  have z : (f10 j).toInt = 0 := Decidable.of_not_not (fun w => absurd (a4 w).1 hm)
  obtain ⟨x, y⟩ := a5 z
  rw [x, y, h.1]
  exact hn j hj z
end

section
set_option maxHeartbeats 4000000 in
set_option maxRecDepth 100000 in
theorem c_X0_asRoom2 (l : Launch) (D : va_G) (cy : Nat → ClassId) (sz : Nat) (a1 : Int32) : Met l yX0_asRoom wsX0_asRoom ({ frames := 0, cells := 0, slots := 0, locals := 0 }) (va_Pc [.int a1] (fun U => U.heap.size = sz ∧ va_P D vwCl [] U.heap ∧ kk_ D cy U ∧ va_D (fun _ => True) [])) (va_Qi (fun (r : Int32) (_ : Unit) => (r.toInt = if a1.toInt = -5 then 1000000 else a1.toInt)) (fun (_ : Unit) (_ : State) => True) (va_A [] sz)) 0 0 (va_A [] sz) := by
  refine ofQ (cc := cX0_asRoom) (maxL := 1) (ret := (some .int)) (by decide) rfl ?_
  intro p e s m args below meth c s₁ Q hQ B hml hv
  obtain ⟨rfl, hsz, hP, hK, hD0⟩ := hv
  have hx := B.exec
  have hb := B.bytes
  have hr := B.returns
  have hts := atoms_spec (ws := wsX0_asRoom) B.pre
  have hown : s.vm.findClass RX0 = some m.cls := by have h_ := findClass_of_methodNamed B.named; exact h_
  have hlocks := B.notSynchronized
  subst hsz
  have hD : va_D (va_A [] s.heap.size) [] := dd_nil
  generalize hAe : va_A [] s.heap.size = A at hD hQ
  have hA : ∀ q : Nat, s.heap.size ≤ q → A q := fun q h => by rw [← hAe]; exact Or.inr h
  have hS : va_S A s.heap s.heap [] := va_S.rf
  have hl := lv_entry ([.int a1]) (n := 1) (Nat.le_of_ble_eq_true rfl)
  rw [lg_entry_eq]
  generalize (lg_sl ([.int a1]) ++ List.replicate (1 - (lg_sl ([.int a1])).length) Slot.unset).toArray = ls at hl ⊢
  have hl : lv_has ls 1 [(0, .int a1)] := hl
  have zm5 : ((-5) : Int32).toInt = -5 := by decide
  have z1000000 : (1000000 : Int32).toInt = 1000000 := by decide
  refine lv_iload_n hx hb dB_36_0_0.1.1 rfl (lv_at hl 0 rfl) ?_
  refine lv_bipush (v := (-5)) hx hb dB_36_0_0.1.2.1 (by decide) ?_
  refine lv_icmp_ne (tgt := 11) hx hb dB_36_0_0.1.2.2 (by decide) (fun c_1 => ?_) (fun c_1 => ?_)
  · have t_1 : ¬ a1.toInt = ((-5) : Int32).toInt := fun h => c_1 (Int32.toInt_inj.mp h)
    refine lv_iload_n hx hb dB_36_0_0.2.2.1 rfl (lv_at hl 0 rfl) ?_
    rw [hQ]
    exact W.iret (v := a1) hx hb hr (fun t ht hW => ⟨⟨a1, (), rfl, (by (repeat' (first | with_reducible refine if_n (by omega) ?_ | with_reducible refine if_ns (by omega) ?_ | with_reducible refine if_nz (by omega) ?_ | with_reducible exact if_p (by omega) (by omega) | with_reducible exact if_ps (by omega) (by omega) | with_reducible exact if_pz (by omega) (by omega))) <;> omega), trivial⟩, hS.F ht⟩) hS.2.2 dB_36_0_0.2.2.2
  · have t_1 : a1.toInt = ((-5) : Int32).toInt := congrArg Int32.toInt c_1
    refine lv_ldc (v := 1000000) hx hb hown (hts (.constant RX0 82 (1000000)) (List.mem_of_getElem? (i := 1) rfl)) dB_36_0_0.2.1.1 ?_
    refine lv_goto (tgt := 12) hx hb dB_36_0_0.2.1.2 (by decide) ?_
    rw [hQ]
    exact W.iret (v := 1000000) hx hb hr (fun t ht hW => ⟨⟨1000000, (), rfl, (by (repeat' (first | with_reducible refine if_n (by omega) ?_ | with_reducible refine if_ns (by omega) ?_ | with_reducible refine if_nz (by omega) ?_ | with_reducible exact if_p (by omega) (by omega) | with_reducible exact if_ps (by omega) (by omega) | with_reducible exact if_pz (by omega) (by omega))) <;> omega), trivial⟩, hS.F ht⟩) hS.2.2 dB_36_0_0.2.2.2

set_option maxHeartbeats 4000000 in
set_option maxRecDepth 100000 in
theorem c_X0_load2 (l : Launch) (D : va_G) (cy : Nat → ClassId) (sz : Nat) (xc : Nat) (xk : Nat) (clo : Nat) (cro : Nat) (c4 : Nat) (c5 : Nat) (c6 : Nat) (c7 : Nat) (c8 : Nat) (xn : Nat) (n1 : Nat) (n2 : Nat) (n3 : Nat) (n4 : Nat) (n5 : Nat) (vp : Int32) (vn : Int32) (fk : Nat → Int32) (fs : Nat → Int32) (fe : Nat → Int32) (fw : Nat → Int32) (rl : Nat → Nat) (Ml : Nat → Nat → Int32) (f5 : Nat → Int32) (f6 : Nat → Int32) (k0 : Nat) (k1 : Nat) (k2 : Nat) (k3 : Nat) (k4 : Nat) (a1 : Int32) (hvp : 0 ≤ vp.toInt ∧ vp.toInt ≤ 12) (hvn : 0 ≤ vn.toInt ∧ vn.toInt ≤ 40) (hnc : netC vp.toInt vn.toInt fs fe) (hpr : prng fs fe 40) (r_fk : rng fk 40 (0) (4)) (r_fw : rng fw 40 (0) (2000)) : Met l yX0_load wsX0_load ({ frames := 2, cells := 0, slots := 0, locals := 44 }) (va_Pc [.ref xc, .int a1] (fun U => U.heap.size = sz ∧ va_P D vwCl [ob0_0_ xc xn xk clo cro c4 c5 c6 c7 c8, ob3_0_ xn vp vn n1 n2 n3 n4 n5, ai_ cy n1 40 fk, ai_ cy n2 40 fs, ai_ cy n3 40 fe, ai_ cy n4 40 fw, aq_ cy 6 clo 12 (gf_ rl), ai_ cy (rl 0) 12 (Ml 0), ai_ cy (rl 1) 12 (Ml 1), ai_ cy (rl 2) 12 (Ml 2), ai_ cy (rl 3) 12 (Ml 3), ai_ cy (rl 4) 12 (Ml 4), ai_ cy (rl 5) 12 (Ml 5), ai_ cy (rl 6) 12 (Ml 6), ai_ cy (rl 7) 12 (Ml 7), ai_ cy (rl 8) 12 (Ml 8), ai_ cy (rl 9) 12 (Ml 9), ai_ cy (rl 10) 12 (Ml 10), ai_ cy (rl 11) 12 (Ml 11), ai_ cy c5 40 f5, ai_ cy c6 40 f6, aq_ cy 3 xk 5 (kf_ k0 k1 k2 k3 k4), ob6_0_ k0, ob5_0_ k1, ob9_0_ k2, ob2_0_ k3, ob8_0_ k4] U.heap ∧ kg_ D cy U ∧ va_D (fun _ => True) [ob0_0_ xc xn xk clo cro c4 c5 c6 c7 c8, ob3_0_ xn vp vn n1 n2 n3 n4 n5, ai_ cy n1 40 fk, ai_ cy n2 40 fs, ai_ cy n3 40 fe, ai_ cy n4 40 fw, aq_ cy 6 clo 12 (gf_ rl), ai_ cy (rl 0) 12 (Ml 0), ai_ cy (rl 1) 12 (Ml 1), ai_ cy (rl 2) 12 (Ml 2), ai_ cy (rl 3) 12 (Ml 3), ai_ cy (rl 4) 12 (Ml 4), ai_ cy (rl 5) 12 (Ml 5), ai_ cy (rl 6) 12 (Ml 6), ai_ cy (rl 7) 12 (Ml 7), ai_ cy (rl 8) 12 (Ml 8), ai_ cy (rl 9) 12 (Ml 9), ai_ cy (rl 10) 12 (Ml 10), ai_ cy (rl 11) 12 (Ml 11), ai_ cy c5 40 f5, ai_ cy c6 40 f6, aq_ cy 3 xk 5 (kf_ k0 k1 k2 k3 k4), ob6_0_ k0, ob5_0_ k1, ob9_0_ k2, ob2_0_ k3, ob8_0_ k4])) (va_Qv (fun (_ : Unit) => True) (fun (_ : Unit) (t : State) => ∃ (eMl : Nat → Nat → Int32), ∃ (e5 : Nat → Int32), ∃ (e6 : Nat → Int32), (mtx eMl vp.toInt fk fs fe fw a1.toInt vn.toNatClampNeg) ∧ (ltF e5 e6 fk fs fw a1.toInt vn.toNatClampNeg) ∧ va_P D vwCl [ob0_0_ xc xn xk clo cro c4 c5 c6 c7 c8, ob3_0_ xn vp vn n1 n2 n3 n4 n5, ai_ cy n1 40 fk, ai_ cy n2 40 fs, ai_ cy n3 40 fe, ai_ cy n4 40 fw, aq_ cy 6 clo 12 (gf_ rl), ai_ cy (rl 0) 12 (eMl 0), ai_ cy (rl 1) 12 (eMl 1), ai_ cy (rl 2) 12 (eMl 2), ai_ cy (rl 3) 12 (eMl 3), ai_ cy (rl 4) 12 (eMl 4), ai_ cy (rl 5) 12 (eMl 5), ai_ cy (rl 6) 12 (eMl 6), ai_ cy (rl 7) 12 (eMl 7), ai_ cy (rl 8) 12 (eMl 8), ai_ cy (rl 9) 12 (eMl 9), ai_ cy (rl 10) 12 (eMl 10), ai_ cy (rl 11) 12 (eMl 11), ai_ cy c5 40 e5, ai_ cy c6 40 e6, aq_ cy 3 xk 5 (kf_ k0 k1 k2 k3 k4), ob6_0_ k0, ob5_0_ k1, ob9_0_ k2, ob2_0_ k3, ob8_0_ k4] t.heap ∧ va_D (va_A [ob0_0_ xc xn xk clo cro c4 c5 c6 c7 c8, ob3_0_ xn vp vn n1 n2 n3 n4 n5, ai_ cy n1 40 fk, ai_ cy n2 40 fs, ai_ cy n3 40 fe, ai_ cy n4 40 fw, aq_ cy 6 clo 12 (gf_ rl), ai_ cy (rl 0) 12 (Ml 0), ai_ cy (rl 1) 12 (Ml 1), ai_ cy (rl 2) 12 (Ml 2), ai_ cy (rl 3) 12 (Ml 3), ai_ cy (rl 4) 12 (Ml 4), ai_ cy (rl 5) 12 (Ml 5), ai_ cy (rl 6) 12 (Ml 6), ai_ cy (rl 7) 12 (Ml 7), ai_ cy (rl 8) 12 (Ml 8), ai_ cy (rl 9) 12 (Ml 9), ai_ cy (rl 10) 12 (Ml 10), ai_ cy (rl 11) 12 (Ml 11), ai_ cy c5 40 f5, ai_ cy c6 40 f6, aq_ cy 3 xk 5 (kf_ k0 k1 k2 k3 k4), ob6_0_ k0, ob5_0_ k1, ob9_0_ k2, ob2_0_ k3, ob8_0_ k4] sz) [ob0_0_ xc xn xk clo cro c4 c5 c6 c7 c8, ob3_0_ xn vp vn n1 n2 n3 n4 n5, ai_ cy n1 40 fk, ai_ cy n2 40 fs, ai_ cy n3 40 fe, ai_ cy n4 40 fw, aq_ cy 6 clo 12 (gf_ rl), ai_ cy (rl 0) 12 (eMl 0), ai_ cy (rl 1) 12 (eMl 1), ai_ cy (rl 2) 12 (eMl 2), ai_ cy (rl 3) 12 (eMl 3), ai_ cy (rl 4) 12 (eMl 4), ai_ cy (rl 5) 12 (eMl 5), ai_ cy (rl 6) 12 (eMl 6), ai_ cy (rl 7) 12 (eMl 7), ai_ cy (rl 8) 12 (eMl 8), ai_ cy (rl 9) 12 (eMl 9), ai_ cy (rl 10) 12 (eMl 10), ai_ cy (rl 11) 12 (eMl 11), ai_ cy c5 40 e5, ai_ cy c6 40 e6, aq_ cy 3 xk 5 (kf_ k0 k1 k2 k3 k4), ob6_0_ k0, ob5_0_ k1, ob9_0_ k2, ob2_0_ k3, ob8_0_ k4]) (va_A [ob0_0_ xc xn xk clo cro c4 c5 c6 c7 c8, ob3_0_ xn vp vn n1 n2 n3 n4 n5, ai_ cy n1 40 fk, ai_ cy n2 40 fs, ai_ cy n3 40 fe, ai_ cy n4 40 fw, aq_ cy 6 clo 12 (gf_ rl), ai_ cy (rl 0) 12 (Ml 0), ai_ cy (rl 1) 12 (Ml 1), ai_ cy (rl 2) 12 (Ml 2), ai_ cy (rl 3) 12 (Ml 3), ai_ cy (rl 4) 12 (Ml 4), ai_ cy (rl 5) 12 (Ml 5), ai_ cy (rl 6) 12 (Ml 6), ai_ cy (rl 7) 12 (Ml 7), ai_ cy (rl 8) 12 (Ml 8), ai_ cy (rl 9) 12 (Ml 9), ai_ cy (rl 10) 12 (Ml 10), ai_ cy (rl 11) 12 (Ml 11), ai_ cy c5 40 f5, ai_ cy c6 40 f6, aq_ cy 3 xk 5 (kf_ k0 k1 k2 k3 k4), ob6_0_ k0, ob5_0_ k1, ob9_0_ k2, ob2_0_ k3, ob8_0_ k4] sz)) 0 0 (va_A [ob0_0_ xc xn xk clo cro c4 c5 c6 c7 c8, ob3_0_ xn vp vn n1 n2 n3 n4 n5, ai_ cy n1 40 fk, ai_ cy n2 40 fs, ai_ cy n3 40 fe, ai_ cy n4 40 fw, aq_ cy 6 clo 12 (gf_ rl), ai_ cy (rl 0) 12 (Ml 0), ai_ cy (rl 1) 12 (Ml 1), ai_ cy (rl 2) 12 (Ml 2), ai_ cy (rl 3) 12 (Ml 3), ai_ cy (rl 4) 12 (Ml 4), ai_ cy (rl 5) 12 (Ml 5), ai_ cy (rl 6) 12 (Ml 6), ai_ cy (rl 7) 12 (Ml 7), ai_ cy (rl 8) 12 (Ml 8), ai_ cy (rl 9) 12 (Ml 9), ai_ cy (rl 10) 12 (Ml 10), ai_ cy (rl 11) 12 (Ml 11), ai_ cy c5 40 f5, ai_ cy c6 40 f6, aq_ cy 3 xk 5 (kf_ k0 k1 k2 k3 k4), ob6_0_ k0, ob5_0_ k1, ob9_0_ k2, ob2_0_ k3, ob8_0_ k4] sz) := by
  refine ofQ (cc := cX0_load) (maxL := 5) (ret := none) (by decide) rfl ?_
  intro p e s m args below meth c s₁ Q hQ B hml hv
  obtain ⟨rfl, hsz, hP, hK, hD0⟩ := hv
  have hG := hK.2
  have hK := hK.1
  have hx := B.exec
  have hb := B.bytes
  have hr := B.returns
  have hts := atoms_spec (ws := wsX0_load) B.pre
  have hown : s.vm.findClass RX0 = some m.cls := by have h_ := findClass_of_methodNamed B.named; exact h_
  have hlocks := B.notSynchronized
  subst hsz
  have hD := hD0.self (sz := s.heap.size)
  generalize hAe : va_A [ob0_0_ xc xn xk clo cro c4 c5 c6 c7 c8, ob3_0_ xn vp vn n1 n2 n3 n4 n5, ai_ cy n1 40 fk, ai_ cy n2 40 fs, ai_ cy n3 40 fe, ai_ cy n4 40 fw, aq_ cy 6 clo 12 (gf_ rl), ai_ cy (rl 0) 12 (Ml 0), ai_ cy (rl 1) 12 (Ml 1), ai_ cy (rl 2) 12 (Ml 2), ai_ cy (rl 3) 12 (Ml 3), ai_ cy (rl 4) 12 (Ml 4), ai_ cy (rl 5) 12 (Ml 5), ai_ cy (rl 6) 12 (Ml 6), ai_ cy (rl 7) 12 (Ml 7), ai_ cy (rl 8) 12 (Ml 8), ai_ cy (rl 9) 12 (Ml 9), ai_ cy (rl 10) 12 (Ml 10), ai_ cy (rl 11) 12 (Ml 11), ai_ cy c5 40 f5, ai_ cy c6 40 f6, aq_ cy 3 xk 5 (kf_ k0 k1 k2 k3 k4), ob6_0_ k0, ob5_0_ k1, ob9_0_ k2, ob2_0_ k3, ob8_0_ k4] s.heap.size = A at hD hQ
  have hA : ∀ q : Nat, s.heap.size ≤ q → A q := fun q h => by rw [← hAe]; exact Or.inr h
  have hS : va_S A s.heap s.heap [] := va_S.rf
  have hl := lv_entry ([.ref xc, .int a1]) (n := 5) (Nat.le_of_ble_eq_true rfl)
  rw [lg_entry_eq]
  generalize (lg_sl ([.ref xc, .int a1]) ++ List.replicate (5 - (lg_sl ([.ref xc, .int a1])).length) Slot.unset).toArray = ls at hl ⊢
  have hl : lv_has ls 5 [(0, .ref xc), (1, .int a1)] := hl
  have z0 : (0 : Int32).toInt = 0 := by decide
  have z1 : (1 : Int32).toInt = 1 := by decide
  have z2 : (2 : Int32).toInt = 2 := by decide
  have z3 : (3 : Int32).toInt = 3 := by decide
  have z4 : (4 : Int32).toInt = 4 := by decide
  have z5 : (5 : Int32).toInt = 5 := by decide
  have z6 : (6 : Int32).toInt = 6 := by decide
  have z7 : (7 : Int32).toInt = 7 := by decide
  have z8 : (8 : Int32).toInt = 8 := by decide
  have z9 : (9 : Int32).toInt = 9 := by decide
  have z10 : (10 : Int32).toInt = 10 := by decide
  have z11 : (11 : Int32).toInt = 11 := by decide
  have zq0 : (0 : Int32).toInt = 0 := by decide
  have zq1 : (1 : Int32).toInt = 1 := by decide
  have zq2 : (2 : Int32).toInt = 2 := by decide
  have zq3 : (3 : Int32).toInt = 3 := by decide
  have zq4 : (4 : Int32).toInt = 4 := by decide
  have zq5 : (5 : Int32).toInt = 5 := by decide
  have zqm9 : ((-9) : Int32).toInt = -9 := by decide
  refine lv_iconst (v := 0) hx hb dB_36_0_18.1.1.1.1 (by decide) ?_
  refine lv_istore_n (lv' := [(2, .int 0), (0, .ref xc), (1, .int a1)]) hx hb dB_36_0_18.1.1.1.2 rfl hl (by decide) rfl (fun ls hl => ?_)
  suffices LOOP_1 : ∀ (n_1 : Nat) (x2_1 : Int32) (m_rl_1 : Nat → Nat → Int32) (H : Heap) (locs : List Loc) (ls : Array Slot), vp.toInt - x2_1.toInt < (n_1 : Int) → (0 ≤ x2_1.toInt) → (x2_1.toInt ≤ vp.toInt) → (∀ x y : Nat, (x : Int) < x2_1.toInt → y < 12 → (m_rl_1 x y).toInt = 0) → pd_2 D vwCl A [ob0_0_ xc xn xk clo cro c4 c5 c6 c7 c8, ob3_0_ xn vp vn n1 n2 n3 n4 n5, ai_ cy n1 40 fk, ai_ cy n2 40 fs, ai_ cy n3 40 fe, ai_ cy n4 40 fw, aq_ cy 6 clo 12 (gf_ rl), ai_ cy (rl 0) 12 (m_rl_1 0), ai_ cy (rl 1) 12 (m_rl_1 1), ai_ cy (rl 2) 12 (m_rl_1 2), ai_ cy (rl 3) 12 (m_rl_1 3), ai_ cy (rl 4) 12 (m_rl_1 4), ai_ cy (rl 5) 12 (m_rl_1 5), ai_ cy (rl 6) 12 (m_rl_1 6), ai_ cy (rl 7) 12 (m_rl_1 7), ai_ cy (rl 8) 12 (m_rl_1 8), ai_ cy (rl 9) 12 (m_rl_1 9), ai_ cy (rl 10) 12 (m_rl_1 10), ai_ cy (rl 11) 12 (m_rl_1 11), ai_ cy c5 40 f5, ai_ cy c6 40 f6, aq_ cy 3 xk 5 (kf_ k0 k1 k2 k3 k4), ob6_0_ k0, ob5_0_ k1, ob9_0_ k2, ob2_0_ k3, ob8_0_ k4] H → va_S A s.heap H locs → lv_has ls 5 [(2, .int x2_1), (0, .ref xc), (1, .int a1)] → W p l e ({ frames := 2, cells := 0, slots := 0, locals := 44 } : Room) s m (([.ref xc, .int a1] : List Value).toArray) below meth c H locs 0 0 Q (F0 m 2 ls []) from LOOP_1 ((vp.toInt - (0 : Int32).toInt).toNat + 1) (0 : Int32) Ml _ _ _ (by omega) (by first | with_reducible assumption | omega | assumption) (by first | with_reducible assumption | omega | assumption) (by first | exact zr_st eMl v_none hfl_ (by decide) (by omega) | (intro x y hx; omega)) ⟨hP, hD⟩ hS (lv_sub hl [0, 1, 2] rfl)
  intro n_1
  induction n_1 with
  | zero =>
    intro x2_1 m_rl_1 H locs ls hm v0_1 v1_1 v2_1 hPD hS hl; obtain ⟨hP, hD⟩ := hPD
    exact absurd hm (by omega)
  | succ n_1 ih_1 =>
    intro x2_1 m_rl_1 H locs ls hm v0_1 v1_1 v2_1 hPD hS hl; obtain ⟨hP, hD⟩ := hPD
    refine lv_iload_n hx hb dB_36_0_18.1.1.2.1 rfl (lv_at hl 0 rfl) ?_
    refine lv_aload_n hx hb dB_36_0_18.1.1.2.2 rfl (lv_at hl 1 rfl) ?_
    refine va_get (ci := 0) (v := .ref xn) (C := RX0) (T := TX0) (N := 9) hx hb hts (fun _ h => List.mem_cons_of_mem _ (List.mem_append_left _ (List.mem_append_right _ h))) hown hK.1 hP 0 rfl rfl 0 (by decide) (hts (.fieldLink RX0 35 "CutAtlas$Current" "net" "LCutAtlas$Net;") (List.mem_of_getElem? (i := 1) rfl)) (fun _ h9 => h9) rfl dB_36_0_18.1.2.1.1 ?_
    refine va_get (ci := 3) (v := .int vp) (C := RX3) (T := TX3) (N := 7) hx hb hts (fun _ h => List.mem_cons_of_mem _ (List.mem_append_right _ h)) hown hK.1 hP 1 rfl rfl 0 (by decide) (hts (.fieldLink RX0 43 "CutAtlas$Net" "places" "I") (List.mem_of_getElem? (i := 2) rfl)) (fun _ h9 => h9) rfl dB_36_0_18.1.2.1.2 ?_
    refine lv_icmp_ge (tgt := 29) hx hb dB_36_0_18.1.2.2.1 (by decide) (fun c_2 => ?_) (fun c_2 => ?_)
    · have t_2 : vp.toInt ≤ x2_1.toInt := Int32.le_iff_toInt_le.mp c_2
      refine lv_iconst (v := 0) hx hb dB_36_0_18.2.2.2.2 (by decide) ?_
      refine lv_istore_n (lv' := [(2, .int 0), (0, .ref xc), (1, .int a1)]) hx hb dB_36_0_19.1.1.1.1 rfl hl (by decide) rfl (fun ls hl => ?_)
      suffices LOOP_3 : ∀ (n_3 : Nat) (x2_3 : Int32) (m_rl_3 : Nat → Nat → Int32) (c_c5_3 : Nat → Int32) (c_c6_3 : Nat → Int32) (H : Heap) (locs : List Loc) (ls : Array Slot), vn.toInt - x2_3.toInt < (n_3 : Int) → (0 ≤ x2_3.toInt) → (x2_3.toInt ≤ vn.toInt) → (mtx m_rl_3 vp.toInt fk fs fe fw a1.toInt x2_3.toNatClampNeg) → (ltF c_c5_3 c_c6_3 fk fs fw a1.toInt x2_3.toNatClampNeg) → pd_2 D vwCl A [ob0_0_ xc xn xk clo cro c4 c5 c6 c7 c8, ob3_0_ xn vp vn n1 n2 n3 n4 n5, ai_ cy n1 40 fk, ai_ cy n2 40 fs, ai_ cy n3 40 fe, ai_ cy n4 40 fw, aq_ cy 6 clo 12 (gf_ rl), ai_ cy (rl 0) 12 (m_rl_3 0), ai_ cy (rl 1) 12 (m_rl_3 1), ai_ cy (rl 2) 12 (m_rl_3 2), ai_ cy (rl 3) 12 (m_rl_3 3), ai_ cy (rl 4) 12 (m_rl_3 4), ai_ cy (rl 5) 12 (m_rl_3 5), ai_ cy (rl 6) 12 (m_rl_3 6), ai_ cy (rl 7) 12 (m_rl_3 7), ai_ cy (rl 8) 12 (m_rl_3 8), ai_ cy (rl 9) 12 (m_rl_3 9), ai_ cy (rl 10) 12 (m_rl_3 10), ai_ cy (rl 11) 12 (m_rl_3 11), ai_ cy c5 40 c_c5_3, ai_ cy c6 40 c_c6_3, aq_ cy 3 xk 5 (kf_ k0 k1 k2 k3 k4), ob6_0_ k0, ob5_0_ k1, ob9_0_ k2, ob2_0_ k3, ob8_0_ k4] H → va_S A s.heap H locs → lv_has ls 5 [(2, .int x2_3), (0, .ref xc), (1, .int a1)] → W p l e ({ frames := 2, cells := 0, slots := 0, locals := 44 } : Room) s m (([.ref xc, .int a1] : List Value).toArray) below meth c H locs 0 0 Q (F0 m 31 ls []) from LOOP_3 ((vn.toInt - (0 : Int32).toInt).toNat + 1) (0 : Int32) m_rl_1 f5 f6 _ _ _ (by omega) (by first | with_reducible assumption | omega | assumption) (by first | with_reducible assumption | omega | assumption) (by first | exact mtx_0 v2_1 (by omega) | exact hmx_ _ (by omega) | exact mtx_skip v_none (by omega) (by omega) (by omega)) (by first | exact ltF_0 | exact ltF_nx v_none (by omega) (by omega) | exact ltF_skip v_none (by omega) (by omega) (by omega)) ⟨hP, hD⟩ hS (lv_sub hl [0, 1, 2] rfl)
      intro n_3
      induction n_3 with
      | zero =>
        intro x2_3 m_rl_3 c_c5_3 c_c6_3 H locs ls hm v0_3 v1_3 v2_3 v3_3 hPD hS hl; obtain ⟨hP, hD⟩ := hPD
        exact absurd hm (by omega)
      | succ n_3 ih_3 =>
        intro x2_3 m_rl_3 c_c5_3 c_c6_3 H locs ls hm v0_3 v1_3 v2_3 v3_3 hPD hS hl; obtain ⟨hP, hD⟩ := hPD
        refine lv_iload_n hx hb dB_36_0_19.1.1.1.2 rfl (lv_at hl 0 rfl) ?_
        refine lv_aload_n hx hb dB_36_0_19.1.1.2.1 rfl (lv_at hl 1 rfl) ?_
        refine va_get (ci := 0) (v := .ref xn) (C := RX0) (T := TX0) (N := 9) hx hb hts (fun _ h => List.mem_cons_of_mem _ (List.mem_append_left _ (List.mem_append_right _ h))) hown hK.1 hP 0 rfl rfl 0 (by decide) (hts (.fieldLink RX0 35 "CutAtlas$Current" "net" "LCutAtlas$Net;") (List.mem_of_getElem? (i := 1) rfl)) (fun _ h9 => h9) rfl dB_36_0_19.1.1.2.2 ?_
        refine va_get (ci := 3) (v := .int vn) (C := RX3) (T := TX3) (N := 7) hx hb hts (fun _ h => List.mem_cons_of_mem _ (List.mem_append_right _ h)) hown hK.1 hP 1 rfl rfl 1 (by decide) (hts (.fieldLink RX0 55 "CutAtlas$Net" "lines" "I") (List.mem_of_getElem? (i := 4) rfl)) (fun _ h9 => h9) rfl dB_36_0_19.1.2.1.1 ?_
        refine lv_icmp_ge (tgt := 202) hx hb dB_36_0_19.1.2.1.2 (by decide) (fun c_4 => ?_) (fun c_4 => ?_)
        · have t_4 : vn.toInt ≤ x2_3.toInt := Int32.le_iff_toInt_le.mp c_4
          rw [hQ]
          exact W.vret hx hb hr (fun t ht hW => ⟨⟨(), rfl, trivial, m_rl_3, c_c5_3, c_c6_3, (by rw [show vn = x2_3 from Int32.toInt_inj.mp (by omega)]; exact v2_3), (by rw [show vn = x2_3 from Int32.toInt_inj.mp (by omega)]; exact v3_3), by rw [ht]; exact hP, hD⟩, hS.F ht⟩) hS.2.2 dB_36_0_25.2.2
        · have t_4 : ¬ vn.toInt ≤ x2_3.toInt := fun h => c_4 (Int32.le_iff_toInt_le.mpr h)
          refine lv_aload_n hx hb dB_36_0_19.1.2.2.1 rfl (lv_at hl 1 rfl) ?_
          refine va_get (ci := 0) (v := .ref xn) (C := RX0) (T := TX0) (N := 9) hx hb hts (fun _ h => List.mem_cons_of_mem _ (List.mem_append_left _ (List.mem_append_right _ h))) hown hK.1 hP 0 rfl rfl 0 (by decide) (hts (.fieldLink RX0 35 "CutAtlas$Current" "net" "LCutAtlas$Net;") (List.mem_of_getElem? (i := 1) rfl)) (fun _ h9 => h9) rfl dB_36_0_19.1.2.2.2 ?_
          refine lv_iload_n hx hb dB_36_0_19.2.1.1.1 rfl (lv_at hl 0 rfl) ?_
          refine ct_R hP hD [ob3_0_ xn vp vn n1 n2 n3 n4 n5, ai_ cy n2 40 fs] [1, 3] (by decide) rfl (fun hPc hDw => ?_)
          have hFc := va_free (wc := []) hD hS hA [] rfl
          refine va_calli (va_runV (As := [.int x2_3]) (rest := []) ⟨hx, hb, hml, hown, hts⟩ (c_X3_isMissing l D cy H.size xn n1 n2 n3 n4 n5 vp vn fs x2_3 (by first | with_reducible assumption | omega | assumption)) (cwV 1 hts gX0_load_X3_isMissing rfl rfl rfl ⟨rfl, hd_X3_isMissing⟩ ⟨Nat.le_of_ble_eq_true rfl, Nat.le_of_ble_eq_true rfl⟩) ⟨bl_, va_recvX hK.1 hP (ci := 3) (q0 := 1) rfl rfl, fun U hU hW => ⟨rfl, by rw [hU], by rw [hU]; exact hPc, kk_mv hW hK, hDw⟩⟩ rfl rfl hl.1 rfl (lv_room (Nat.le_of_ble_eq_true rfl)) dB_36_0_19.2.1.1.2 ⟨Nat.le_of_ble_eq_true rfl, Nat.le_of_ble_eq_true rfl⟩) hS (fun q _ h => hFc q h) hFc (fun r_5 u t H locs ht hvm hw hB hz1 hk1 hS => ?_)
          have hP : va_P D vwCl _ H := ro_keep hP hk1
          rcases hw with ⟨w_6, e_⟩ | ⟨w_6, e_⟩
          · have e_ := e_.symm
            subst e_
            refine lv_if_ne (tgt := 196) hx hb dB_36_0_19.2.1.2.1 (by decide) (fun c_7 => ?_) (fun c_7 => ?_)
            · have _ := c_7
              first | (have hmx_ : ∀ i2 : Int32, i2.toInt = x2_3.toInt + 1 → mtx m_rl_3 vp.toInt fk fs fe fw a1.toInt i2.toNatClampNeg := fun i2 e2 => mtx_st v2_3 (by omega) e2 hms_ S[ea] S[eb] S[q1] em_rl_3 h1_ h2_ rfl rfl) | skip
              obtain ⟨y_8, ey_8⟩ : ∃ y : Int32, y = x2_3 + 1 := ⟨_, rfl⟩
              have ty_8 : y_8.toInt = x2_3.toInt + (1 : Int32).toInt := by rw [ey_8]; exact addI (by omega) (by omega)
              refine lv_iinc (v := y_8) (lv' := [(2, .int y_8), (0, .ref xc), (1, .int a1)]) hx hb dB_36_0_25.1.2 hl (k := 0) rfl (by rw [ey_8]; rfl) (by decide) rfl (fun ls hl => ?_)
              refine lv_goto (tgt := 31) hx hb dB_36_0_25.2.1 (by decide) ?_
              exact ih_3 y_8 m_rl_3 c_c5_3 c_c6_3 _ _ _ (by omega) (by first | with_reducible assumption | omega | assumption) (by first | with_reducible assumption | omega | assumption) (by first | exact mtx_0 v2_1 (by omega) | exact hmx_ _ (by omega) | exact mtx_skip v2_3 (by omega) (by omega) (by omega)) (by first | exact ltF_0 | exact ltF_nx v_none (by omega) (by omega) | exact ltF_skip v3_3 (by omega) (by omega) (by omega)) ⟨hP, hD⟩ hS (lv_sub hl [0, 1, 2] rfl)
            · exact absurd c_7 (by decide)
          · have e_ := e_.symm
            subst e_
            refine lv_if_ne (tgt := 196) hx hb dB_36_0_19.2.1.2.1 (by decide) (fun c_9 => ?_) (fun c_9 => ?_)
            · exact absurd c_9 (by decide)
            · have _ := c_9
              have hms_ : (fs x2_3.toNatClampNeg).toInt ≠ -9 := by omega
              have cJ_ := clI (i := x2_3) (by omega)
              have hpc_ := hnc x2_3.toNatClampNeg (by omega) hms_
              have JOIN_10 : ∀ (u0_10 : Int32) (H : Heap) (locs : List Loc) (ls : Array Slot), (u0_10.toInt = wF fw a1.toInt x2_3.toNatClampNeg) → pd_2 D vwCl A [ob0_0_ xc xn xk clo cro c4 c5 c6 c7 c8, ob3_0_ xn vp vn n1 n2 n3 n4 n5, ai_ cy n1 40 fk, ai_ cy n2 40 fs, ai_ cy n3 40 fe, ai_ cy n4 40 fw, aq_ cy 6 clo 12 (gf_ rl), ai_ cy (rl 0) 12 (m_rl_3 0), ai_ cy (rl 1) 12 (m_rl_3 1), ai_ cy (rl 2) 12 (m_rl_3 2), ai_ cy (rl 3) 12 (m_rl_3 3), ai_ cy (rl 4) 12 (m_rl_3 4), ai_ cy (rl 5) 12 (m_rl_3 5), ai_ cy (rl 6) 12 (m_rl_3 6), ai_ cy (rl 7) 12 (m_rl_3 7), ai_ cy (rl 8) 12 (m_rl_3 8), ai_ cy (rl 9) 12 (m_rl_3 9), ai_ cy (rl 10) 12 (m_rl_3 10), ai_ cy (rl 11) 12 (m_rl_3 11), ai_ cy c5 40 c_c5_3, ai_ cy c6 40 c_c6_3, aq_ cy 3 xk 5 (kf_ k0 k1 k2 k3 k4), ob6_0_ k0, ob5_0_ k1, ob9_0_ k2, ob2_0_ k3, ob8_0_ k4] H → va_S A s.heap H locs → lv_has ls 5 [(2, .int x2_3), (0, .ref xc), (1, .int a1)] → W p l e ({ frames := 2, cells := 0, slots := 0, locals := 44 } : Room) s m (([.ref xc, .int a1] : List Value).toArray) below meth c H locs 0 0 Q (F0 m 81 ls [.int u0_10]) := by
                intro u0_10 H locs ls v0_10 hPD hS hl; obtain ⟨hP, hD⟩ := hPD
                have hw_ := v0_10
                have hwr_ := wF_rng (r := a1.toInt) (j := x2_3.toNatClampNeg) r_fw (by omega)
                refine lv_istore_n (lv' := [(3, .int u0_10), (2, .int x2_3), (0, .ref xc), (1, .int a1)]) hx hb dB_36_0_20.2.1.2.2 rfl hl (by decide) rfl (fun ls hl => ?_)
                have JOIN_11 : ∀ (c_c5_11 : Nat → Int32) (c_c6_11 : Nat → Int32) (H : Heap) (locs : List Loc) (ls : Array Slot), (ltF c_c5_11 c_c6_11 fk fs fw a1.toInt (x2_3.toNatClampNeg + 1)) → pd_2 D vwCl A [ob0_0_ xc xn xk clo cro c4 c5 c6 c7 c8, ob3_0_ xn vp vn n1 n2 n3 n4 n5, ai_ cy n1 40 fk, ai_ cy n2 40 fs, ai_ cy n3 40 fe, ai_ cy n4 40 fw, aq_ cy 6 clo 12 (gf_ rl), ai_ cy (rl 0) 12 (m_rl_3 0), ai_ cy (rl 1) 12 (m_rl_3 1), ai_ cy (rl 2) 12 (m_rl_3 2), ai_ cy (rl 3) 12 (m_rl_3 3), ai_ cy (rl 4) 12 (m_rl_3 4), ai_ cy (rl 5) 12 (m_rl_3 5), ai_ cy (rl 6) 12 (m_rl_3 6), ai_ cy (rl 7) 12 (m_rl_3 7), ai_ cy (rl 8) 12 (m_rl_3 8), ai_ cy (rl 9) 12 (m_rl_3 9), ai_ cy (rl 10) 12 (m_rl_3 10), ai_ cy (rl 11) 12 (m_rl_3 11), ai_ cy c5 40 c_c5_11, ai_ cy c6 40 c_c6_11, aq_ cy 3 xk 5 (kf_ k0 k1 k2 k3 k4), ob6_0_ k0, ob5_0_ k1, ob9_0_ k2, ob2_0_ k3, ob8_0_ k4] H → va_S A s.heap H locs → lv_has ls 5 [(2, .int x2_3), (0, .ref xc), (1, .int a1)] → W p l e ({ frames := 2, cells := 0, slots := 0, locals := 44 } : Room) s m (([.ref xc, .int a1] : List Value).toArray) below meth c H locs 0 0 Q (F0 m 130 ls []) := by
                  intro c_c5_11 c_c6_11 H locs ls v0_11 hPD hS hl; obtain ⟨hP, hD⟩ := hPD
                  have hlt_ := v0_11 x2_3.toNatClampNeg (by omega) hms_
                  have hF1_ := rmW_rng (k := kF fk x2_3.toNatClampNeg) (b := 1) hwr_.1 hwr_.2
                  have hF0_ := rmW_rng (k := kF fk x2_3.toNatClampNeg) (b := 0) hwr_.1 hwr_.2
                  refine lv_aload_n hx hb dB_36_0_22.1.2.2.2 rfl (lv_at hl 1 rfl) ?_
                  refine va_get (ci := 0) (v := .ref clo) (C := RX0) (T := TX0) (N := 9) hx hb hts (fun _ h => List.mem_cons_of_mem _ (List.mem_append_left _ (List.mem_append_right _ h))) hown hK.1 hP 0 rfl rfl 2 (by decide) (hts (.fieldLink RX0 11 "CutAtlas$Current" "lets" "[[I") (List.mem_of_getElem? (i := 3) rfl)) (fun _ h9 => h9) rfl dB_36_0_22.2.1.1.1 ?_
                  refine lv_aload_n hx hb dB_36_0_22.2.1.1.2 rfl (lv_at hl 1 rfl) ?_
                  refine va_get (ci := 0) (v := .ref xn) (C := RX0) (T := TX0) (N := 9) hx hb hts (fun _ h => List.mem_cons_of_mem _ (List.mem_append_left _ (List.mem_append_right _ h))) hown hK.1 hP 0 rfl rfl 0 (by decide) (hts (.fieldLink RX0 35 "CutAtlas$Current" "net" "LCutAtlas$Net;") (List.mem_of_getElem? (i := 1) rfl)) (fun _ h9 => h9) rfl dB_36_0_22.2.1.2.1 ?_
                  refine va_get (ci := 3) (v := .ref n2) (C := RX3) (T := TX3) (N := 7) hx hb hts (fun _ h => List.mem_cons_of_mem _ (List.mem_append_right _ h)) hown hK.1 hP 1 rfl rfl 3 (by decide) (hts (.fieldLink RX0 76 "CutAtlas$Net" "starts" "[I") (List.mem_of_getElem? (i := 10) rfl)) (fun _ h9 => h9) rfl dB_36_0_22.2.1.2.2 ?_
                  refine lv_iload_n hx hb dB_36_0_22.2.2.1.1 rfl (lv_at hl 0 rfl) ?_
                  have h_12 : vp_in x2_3 40 := in_I (by first | with_reducible assumption | omega) (by omega)
                  refine va_iald hx hb hK.1 hP 3 0 rfl rfl (i := x2_3) h_12 dB_36_0_22.2.2.1.2 ?_
                  refine lv_topi (fun y_13 ey_13 => ?_)
                  have ky_13 : y_13.toInt = (fs x2_3.toNatClampNeg).toInt := by rw [ey_13]
                  have ry_13 := hpr _ (in_lt h_12)
                  have jy_13 : y_13.toInt = (fs x2_3.toNatClampNeg).toInt := by rw [ey_13]
                  have cA_ := clI (i := y_13) (by omega)
                  have h_14 : vp_in y_13 12 := in_I (by first | with_reducible assumption | omega) (by omega)
                  refine va_alda hx hb hG hP 6 rfl (i := y_13) h_14 dB_36_0_22.2.2.2.1 ?_
                  refine lv_topv (v' := .ref (rl y_13.toNatClampNeg)) (gf_at h_14) ?_
                  refine lv_aload_n hx hb dB_36_0_22.2.2.2.2 rfl (lv_at hl 1 rfl) ?_
                  refine va_get (ci := 0) (v := .ref xn) (C := RX0) (T := TX0) (N := 9) hx hb hts (fun _ h => List.mem_cons_of_mem _ (List.mem_append_left _ (List.mem_append_right _ h))) hown hK.1 hP 0 rfl rfl 0 (by decide) (hts (.fieldLink RX0 35 "CutAtlas$Current" "net" "LCutAtlas$Net;") (List.mem_of_getElem? (i := 1) rfl)) (fun _ h9 => h9) rfl dB_36_0_23.1.1.1.1 ?_
                  refine va_get (ci := 3) (v := .ref n3) (C := RX3) (T := TX3) (N := 7) hx hb hts (fun _ h => List.mem_cons_of_mem _ (List.mem_append_right _ h)) hown hK.1 hP 1 rfl rfl 4 (by decide) (hts (.fieldLink RX0 79 "CutAtlas$Net" "ends" "[I") (List.mem_of_getElem? (i := 11) rfl)) (fun _ h9 => h9) rfl dB_36_0_23.1.1.1.2 ?_
                  refine lv_iload_n hx hb dB_36_0_23.1.1.2.1 rfl (lv_at hl 0 rfl) ?_
                  refine va_iald hx hb hK.1 hP 4 0 rfl rfl (i := x2_3) h_12 dB_36_0_23.1.1.2.2 ?_
                  refine lv_topi (fun y_16 ey_16 => ?_)
                  have ky_16 : y_16.toInt = (fe x2_3.toNatClampNeg).toInt := by rw [ey_16]
                  have ry_16 := hpr _ (in_lt h_12)
                  have jy_16 : y_16.toInt = (fe x2_3.toNatClampNeg).toInt := by rw [ey_16]
                  have cB_ := clI (i := y_16) (by omega)
                  refine lv_dup2_11 hx hb dB_36_0_23.1.2.1.1 rfl rfl ?_
                  have h_17 : vp_in y_16 12 := in_I (by first | with_reducible assumption | omega) (by omega)
                  have hPg : va_P D vwCl (([ob0_0_ xc xn xk clo cro c4 c5 c6 c7 c8, ob3_0_ xn vp vn n1 n2 n3 n4 n5, ai_ cy n1 40 fk, ai_ cy n2 40 fs, ai_ cy n3 40 fe, ai_ cy n4 40 fw, aq_ cy 6 clo 12 (gf_ rl)] : va_W) ++ (gro (cy 0) rl m_rl_3 ++ ([ai_ cy c5 40 c_c5_11, ai_ cy c6 40 c_c6_11, aq_ cy 3 xk 5 (kf_ k0 k1 k2 k3 k4), ob6_0_ k0, ob5_0_ k1, ob9_0_ k2, ob2_0_ k3, ob8_0_ k4] : va_W))) H := hP
                  refine va_gld (X := [ob0_0_ xc xn xk clo cro c4 c5 c6 c7 c8, ob3_0_ xn vp vn n1 n2 n3 n4 n5, ai_ cy n1 40 fk, ai_ cy n2 40 fs, ai_ cy n3 40 fe, ai_ cy n4 40 fw, aq_ cy 6 clo 12 (gf_ rl)]) (Y := [ai_ cy c5 40 c_c5_11, ai_ cy c6 40 c_c6_11, aq_ cy 3 xk 5 (kf_ k0 k1 k2 k3 k4), ob6_0_ k0, ob5_0_ k1, ob9_0_ k2, ob2_0_ k3, ob8_0_ k4]) (r := rl) (M := m_rl_3) (k := y_13.toNatClampNeg) hx hb hK.1 hPg 0 rfl (in_lt h_14) (i := y_16) h_17 dB_36_0_23.1.2.1.2 ?_
                  refine lv_topi (fun y_18 ey_18 => ?_)
                  have hb1_ := mtx_bd (x := y_13.toNatClampNeg) (y := y_16.toNatClampNeg) v2_3 r_fw (by omega) (by omega) (by omega)
                  have km1_ : y_18.toInt = (m_rl_3 y_13.toNatClampNeg y_16.toNatClampNeg).toInt := by rw [ey_18]
                  refine lv_aload_n hx hb dB_36_0_23.1.2.2.1 rfl (lv_at hl 1 rfl) ?_
                  refine va_get (ci := 0) (v := .ref c5) (C := RX0) (T := TX0) (N := 9) hx hb hts (fun _ h => List.mem_cons_of_mem _ (List.mem_append_left _ (List.mem_append_right _ h))) hown hK.1 hP 0 rfl rfl 5 (by decide) (hts (.fieldLink RX0 23 "CutAtlas$Current" "letsForth" "[I") (List.mem_of_getElem? (i := 8) rfl)) (fun _ h9 => h9) rfl dB_36_0_23.1.2.2.2 ?_
                  refine lv_iload_n hx hb dB_36_0_23.2.1.1.1 rfl (lv_at hl 0 rfl) ?_
                  refine va_iald hx hb hK.1 hP 19 0 rfl rfl (i := x2_3) h_12 dB_36_0_23.2.1.1.2 ?_
                  refine lv_topi (fun y_20 ey_20 => ?_)
                  have ky_20 : y_20.toInt = (c_c5_11 x2_3.toNatClampNeg).toInt := by rw [ey_20]
                  have hF_ : y_20.toInt = rmW (kF fk x2_3.toNatClampNeg) (wF fw a1.toInt x2_3.toNatClampNeg) 1 := by rw [ey_20]; exact hlt_.1
                  refine lv_iadd hx hb dB_36_0_23.2.1.2.1 ?_
                  refine lv_topi (fun y_21 ey_21 => ?_)
                  have ty_21 : y_21.toInt = y_18.toInt + y_20.toInt := by rw [ey_21]; exact addI (by omega) (by omega)
                  have h1_ : y_21.toInt = (m_rl_3 y_13.toNatClampNeg y_16.toNatClampNeg).toInt + rmW (kF fk x2_3.toNatClampNeg) (wF fw a1.toInt x2_3.toNatClampNeg) 1 := by omega
                  have hPg : va_P D vwCl (([ob0_0_ xc xn xk clo cro c4 c5 c6 c7 c8, ob3_0_ xn vp vn n1 n2 n3 n4 n5, ai_ cy n1 40 fk, ai_ cy n2 40 fs, ai_ cy n3 40 fe, ai_ cy n4 40 fw, aq_ cy 6 clo 12 (gf_ rl)] : va_W) ++ (gro (cy 0) rl m_rl_3 ++ ([ai_ cy c5 40 c_c5_11, ai_ cy c6 40 c_c6_11, aq_ cy 3 xk 5 (kf_ k0 k1 k2 k3 k4), ob6_0_ k0, ob5_0_ k1, ob9_0_ k2, ob2_0_ k3, ob8_0_ k4] : va_W))) H := hP
                  have hDg : va_D A (([ob0_0_ xc xn xk clo cro c4 c5 c6 c7 c8, ob3_0_ xn vp vn n1 n2 n3 n4 n5, ai_ cy n1 40 fk, ai_ cy n2 40 fs, ai_ cy n3 40 fe, ai_ cy n4 40 fw, aq_ cy 6 clo 12 (gf_ rl)] : va_W) ++ (gro (cy 0) rl m_rl_3 ++ ([ai_ cy c5 40 c_c5_11, ai_ cy c6 40 c_c6_11, aq_ cy 3 xk 5 (kf_ k0 k1 k2 k3 k4), ob6_0_ k0, ob5_0_ k1, ob9_0_ k2, ob2_0_ k3, ob8_0_ k4] : va_W))) := hD
                  refine va_gst (X := [ob0_0_ xc xn xk clo cro c4 c5 c6 c7 c8, ob3_0_ xn vp vn n1 n2 n3 n4 n5, ai_ cy n1 40 fk, ai_ cy n2 40 fs, ai_ cy n3 40 fe, ai_ cy n4 40 fw, aq_ cy 6 clo 12 (gf_ rl)]) (Y := [ai_ cy c5 40 c_c5_11, ai_ cy c6 40 c_c6_11, aq_ cy 3 xk 5 (kf_ k0 k1 k2 k3 k4), ob6_0_ k0, ob5_0_ k1, ob9_0_ k2, ob2_0_ k3, ob8_0_ k4]) (r := rl) (M := m_rl_3) (k := y_13.toNatClampNeg) hx hb hK.1 hPg hDg hS 0 rfl (in_lt h_14) (i := y_16) h_17 dB_36_0_23.2.1.2.2 (fun H locs hP hD hS => ?_)
                  obtain ⟨M_23, eM_23⟩ : ∃ g : Nat → Nat → Int32, g = va_up m_rl_3 y_13.toNatClampNeg (upd (m_rl_3 y_13.toNatClampNeg) y_16.toNatClampNeg y_21) := ⟨_, rfl⟩
                  refine pd_K (D := D) (cl := vwCl) (H := H) (A := A) [ob0_0_ xc xn xk clo cro c4 c5 c6 c7 c8, ob3_0_ xn vp vn n1 n2 n3 n4 n5, ai_ cy n1 40 fk, ai_ cy n2 40 fs, ai_ cy n3 40 fe, ai_ cy n4 40 fw, aq_ cy 6 clo 12 (gf_ rl), ai_ cy (rl 0) 12 (M_23 0), ai_ cy (rl 1) 12 (M_23 1), ai_ cy (rl 2) 12 (M_23 2), ai_ cy (rl 3) 12 (M_23 3), ai_ cy (rl 4) 12 (M_23 4), ai_ cy (rl 5) 12 (M_23 5), ai_ cy (rl 6) 12 (M_23 6), ai_ cy (rl 7) 12 (M_23 7), ai_ cy (rl 8) 12 (M_23 8), ai_ cy (rl 9) 12 (M_23 9), ai_ cy (rl 10) 12 (M_23 10), ai_ cy (rl 11) 12 (M_23 11), ai_ cy c5 40 c_c5_11, ai_ cy c6 40 c_c6_11, aq_ cy 3 xk 5 (kf_ k0 k1 k2 k3 k4), ob6_0_ k0, ob5_0_ k1, ob9_0_ k2, ob2_0_ k3, ob8_0_ k4] (by rw [eM_23]; exact hP) (by rw [eM_23]; exact hD) (fun hP hD => ?_)
                  refine lv_aload_n hx hb dB_36_0_23.2.2.1.1 rfl (lv_at hl 1 rfl) ?_
                  refine va_get (ci := 0) (v := .ref clo) (C := RX0) (T := TX0) (N := 9) hx hb hts (fun _ h => List.mem_cons_of_mem _ (List.mem_append_left _ (List.mem_append_right _ h))) hown hK.1 hP 0 rfl rfl 2 (by decide) (hts (.fieldLink RX0 11 "CutAtlas$Current" "lets" "[[I") (List.mem_of_getElem? (i := 3) rfl)) (fun _ h9 => h9) rfl dB_36_0_23.2.2.1.2 ?_
                  refine lv_aload_n hx hb dB_36_0_23.2.2.2.1 rfl (lv_at hl 1 rfl) ?_
                  refine va_get (ci := 0) (v := .ref xn) (C := RX0) (T := TX0) (N := 9) hx hb hts (fun _ h => List.mem_cons_of_mem _ (List.mem_append_left _ (List.mem_append_right _ h))) hown hK.1 hP 0 rfl rfl 0 (by decide) (hts (.fieldLink RX0 35 "CutAtlas$Current" "net" "LCutAtlas$Net;") (List.mem_of_getElem? (i := 1) rfl)) (fun _ h9 => h9) rfl dB_36_0_23.2.2.2.2 ?_
                  refine va_get (ci := 3) (v := .ref n3) (C := RX3) (T := TX3) (N := 7) hx hb hts (fun _ h => List.mem_cons_of_mem _ (List.mem_append_right _ h)) hown hK.1 hP 1 rfl rfl 4 (by decide) (hts (.fieldLink RX0 79 "CutAtlas$Net" "ends" "[I") (List.mem_of_getElem? (i := 11) rfl)) (fun _ h9 => h9) rfl dB_36_0_24.1.1.1.1 ?_
                  refine lv_iload_n hx hb dB_36_0_24.1.1.1.2 rfl (lv_at hl 0 rfl) ?_
                  refine va_iald hx hb hK.1 hP 4 0 rfl rfl (i := x2_3) h_12 dB_36_0_24.1.1.2.1 ?_
                  refine lv_topi (fun y_25 ey_25 => ?_)
                  have e_ := (ey_25.trans ey_16.symm).symm
                  subst e_
                  skip
                  refine va_alda hx hb hG hP 6 rfl (i := y_16) h_17 dB_36_0_24.1.1.2.2 ?_
                  refine lv_topv (v' := .ref (rl y_16.toNatClampNeg)) (gf_at h_17) ?_
                  refine lv_aload_n hx hb dB_36_0_24.1.2.1.1 rfl (lv_at hl 1 rfl) ?_
                  refine va_get (ci := 0) (v := .ref xn) (C := RX0) (T := TX0) (N := 9) hx hb hts (fun _ h => List.mem_cons_of_mem _ (List.mem_append_left _ (List.mem_append_right _ h))) hown hK.1 hP 0 rfl rfl 0 (by decide) (hts (.fieldLink RX0 35 "CutAtlas$Current" "net" "LCutAtlas$Net;") (List.mem_of_getElem? (i := 1) rfl)) (fun _ h9 => h9) rfl dB_36_0_24.1.2.1.2 ?_
                  refine va_get (ci := 3) (v := .ref n2) (C := RX3) (T := TX3) (N := 7) hx hb hts (fun _ h => List.mem_cons_of_mem _ (List.mem_append_right _ h)) hown hK.1 hP 1 rfl rfl 3 (by decide) (hts (.fieldLink RX0 76 "CutAtlas$Net" "starts" "[I") (List.mem_of_getElem? (i := 10) rfl)) (fun _ h9 => h9) rfl dB_36_0_24.1.2.2.1 ?_
                  refine lv_iload_n hx hb dB_36_0_24.1.2.2.2 rfl (lv_at hl 0 rfl) ?_
                  refine va_iald hx hb hK.1 hP 3 0 rfl rfl (i := x2_3) h_12 dB_36_0_24.2.1.1.1 ?_
                  refine lv_topi (fun y_28 ey_28 => ?_)
                  have e_ := (ey_28.trans ey_13.symm).symm
                  subst e_
                  skip
                  refine lv_dup2_11 hx hb dB_36_0_24.2.1.1.2 rfl rfl ?_
                  have hPg : va_P D vwCl (([ob0_0_ xc xn xk clo cro c4 c5 c6 c7 c8, ob3_0_ xn vp vn n1 n2 n3 n4 n5, ai_ cy n1 40 fk, ai_ cy n2 40 fs, ai_ cy n3 40 fe, ai_ cy n4 40 fw, aq_ cy 6 clo 12 (gf_ rl)] : va_W) ++ (gro (cy 0) rl M_23 ++ ([ai_ cy c5 40 c_c5_11, ai_ cy c6 40 c_c6_11, aq_ cy 3 xk 5 (kf_ k0 k1 k2 k3 k4), ob6_0_ k0, ob5_0_ k1, ob9_0_ k2, ob2_0_ k3, ob8_0_ k4] : va_W))) H := hP
                  refine va_gld (X := [ob0_0_ xc xn xk clo cro c4 c5 c6 c7 c8, ob3_0_ xn vp vn n1 n2 n3 n4 n5, ai_ cy n1 40 fk, ai_ cy n2 40 fs, ai_ cy n3 40 fe, ai_ cy n4 40 fw, aq_ cy 6 clo 12 (gf_ rl)]) (Y := [ai_ cy c5 40 c_c5_11, ai_ cy c6 40 c_c6_11, aq_ cy 3 xk 5 (kf_ k0 k1 k2 k3 k4), ob6_0_ k0, ob5_0_ k1, ob9_0_ k2, ob2_0_ k3, ob8_0_ k4]) (r := rl) (M := M_23) (k := y_16.toNatClampNeg) hx hb hK.1 hPg 0 rfl (in_lt h_17) (i := y_13) h_14 dB_36_0_24.2.1.2.1 ?_
                  refine lv_topi (fun y_30 ey_30 => ?_)
                  have hb2_ := mtx_bd1 (x := y_16.toNatClampNeg) (y := y_13.toNatClampNeg) v2_3 r_fw (by omega) eM_23 h1_ hF1_ (by omega) (by omega) (by omega) (by omega)
                  have km2_ : y_30.toInt = (M_23 y_16.toNatClampNeg y_13.toNatClampNeg).toInt := by rw [ey_30]
                  refine lv_aload_n hx hb dB_36_0_24.2.1.2.2 rfl (lv_at hl 1 rfl) ?_
                  refine va_get (ci := 0) (v := .ref c6) (C := RX0) (T := TX0) (N := 9) hx hb hts (fun _ h => List.mem_cons_of_mem _ (List.mem_append_left _ (List.mem_append_right _ h))) hown hK.1 hP 0 rfl rfl 6 (by decide) (hts (.fieldLink RX0 26 "CutAtlas$Current" "letsBack" "[I") (List.mem_of_getElem? (i := 9) rfl)) (fun _ h9 => h9) rfl dB_36_0_24.2.2.1.1 ?_
                  refine lv_iload_n hx hb dB_36_0_24.2.2.1.2 rfl (lv_at hl 0 rfl) ?_
                  refine va_iald hx hb hK.1 hP 20 0 rfl rfl (i := x2_3) h_12 dB_36_0_24.2.2.2.1 ?_
                  refine lv_topi (fun y_32 ey_32 => ?_)
                  have ky_32 : y_32.toInt = (c_c6_11 x2_3.toNatClampNeg).toInt := by rw [ey_32]
                  have hB_ : y_32.toInt = rmW (kF fk x2_3.toNatClampNeg) (wF fw a1.toInt x2_3.toNatClampNeg) 0 := by rw [ey_32]; exact hlt_.2
                  refine lv_iadd hx hb dB_36_0_24.2.2.2.2 ?_
                  refine lv_topi (fun y_33 ey_33 => ?_)
                  have ty_33 : y_33.toInt = y_30.toInt + y_32.toInt := by rw [ey_33]; exact addI (by omega) (by omega)
                  have h2_ : y_33.toInt = (M_23 y_16.toNatClampNeg y_13.toNatClampNeg).toInt + rmW (kF fk x2_3.toNatClampNeg) (wF fw a1.toInt x2_3.toNatClampNeg) 0 := by omega
                  have hPg : va_P D vwCl (([ob0_0_ xc xn xk clo cro c4 c5 c6 c7 c8, ob3_0_ xn vp vn n1 n2 n3 n4 n5, ai_ cy n1 40 fk, ai_ cy n2 40 fs, ai_ cy n3 40 fe, ai_ cy n4 40 fw, aq_ cy 6 clo 12 (gf_ rl)] : va_W) ++ (gro (cy 0) rl M_23 ++ ([ai_ cy c5 40 c_c5_11, ai_ cy c6 40 c_c6_11, aq_ cy 3 xk 5 (kf_ k0 k1 k2 k3 k4), ob6_0_ k0, ob5_0_ k1, ob9_0_ k2, ob2_0_ k3, ob8_0_ k4] : va_W))) H := hP
                  have hDg : va_D A (([ob0_0_ xc xn xk clo cro c4 c5 c6 c7 c8, ob3_0_ xn vp vn n1 n2 n3 n4 n5, ai_ cy n1 40 fk, ai_ cy n2 40 fs, ai_ cy n3 40 fe, ai_ cy n4 40 fw, aq_ cy 6 clo 12 (gf_ rl)] : va_W) ++ (gro (cy 0) rl M_23 ++ ([ai_ cy c5 40 c_c5_11, ai_ cy c6 40 c_c6_11, aq_ cy 3 xk 5 (kf_ k0 k1 k2 k3 k4), ob6_0_ k0, ob5_0_ k1, ob9_0_ k2, ob2_0_ k3, ob8_0_ k4] : va_W))) := hD
                  refine va_gst (X := [ob0_0_ xc xn xk clo cro c4 c5 c6 c7 c8, ob3_0_ xn vp vn n1 n2 n3 n4 n5, ai_ cy n1 40 fk, ai_ cy n2 40 fs, ai_ cy n3 40 fe, ai_ cy n4 40 fw, aq_ cy 6 clo 12 (gf_ rl)]) (Y := [ai_ cy c5 40 c_c5_11, ai_ cy c6 40 c_c6_11, aq_ cy 3 xk 5 (kf_ k0 k1 k2 k3 k4), ob6_0_ k0, ob5_0_ k1, ob9_0_ k2, ob2_0_ k3, ob8_0_ k4]) (r := rl) (M := M_23) (k := y_16.toNatClampNeg) hx hb hK.1 hPg hDg hS 0 rfl (in_lt h_17) (i := y_13) h_14 dB_36_0_25.1.1 (fun H locs hP hD hS => ?_)
                  obtain ⟨M_35, eM_35⟩ : ∃ g : Nat → Nat → Int32, g = va_up M_23 y_16.toNatClampNeg (upd (M_23 y_16.toNatClampNeg) y_13.toNatClampNeg y_33) := ⟨_, rfl⟩
                  refine pd_K (D := D) (cl := vwCl) (H := H) (A := A) [ob0_0_ xc xn xk clo cro c4 c5 c6 c7 c8, ob3_0_ xn vp vn n1 n2 n3 n4 n5, ai_ cy n1 40 fk, ai_ cy n2 40 fs, ai_ cy n3 40 fe, ai_ cy n4 40 fw, aq_ cy 6 clo 12 (gf_ rl), ai_ cy (rl 0) 12 (M_35 0), ai_ cy (rl 1) 12 (M_35 1), ai_ cy (rl 2) 12 (M_35 2), ai_ cy (rl 3) 12 (M_35 3), ai_ cy (rl 4) 12 (M_35 4), ai_ cy (rl 5) 12 (M_35 5), ai_ cy (rl 6) 12 (M_35 6), ai_ cy (rl 7) 12 (M_35 7), ai_ cy (rl 8) 12 (M_35 8), ai_ cy (rl 9) 12 (M_35 9), ai_ cy (rl 10) 12 (M_35 10), ai_ cy (rl 11) 12 (M_35 11), ai_ cy c5 40 c_c5_11, ai_ cy c6 40 c_c6_11, aq_ cy 3 xk 5 (kf_ k0 k1 k2 k3 k4), ob6_0_ k0, ob5_0_ k1, ob9_0_ k2, ob2_0_ k3, ob8_0_ k4] (by rw [eM_35]; exact hP) (by rw [eM_35]; exact hD) (fun hP hD => ?_)
                  first | (have hmx_ : ∀ i2 : Int32, i2.toInt = x2_3.toInt + 1 → mtx M_35 vp.toInt fk fs fe fw a1.toInt i2.toNatClampNeg := fun i2 e2 => mtx_st v2_3 (by omega) e2 hms_ ey_13 ey_16 eM_23 eM_35 h1_ h2_ rfl rfl) | skip
                  obtain ⟨y_36, ey_36⟩ : ∃ y : Int32, y = x2_3 + 1 := ⟨_, rfl⟩
                  have ty_36 : y_36.toInt = x2_3.toInt + (1 : Int32).toInt := by rw [ey_36]; exact addI (by omega) (by omega)
                  refine lv_iinc (v := y_36) (lv' := [(2, .int y_36), (0, .ref xc), (1, .int a1)]) hx hb dB_36_0_25.1.2 hl (k := 0) rfl (by rw [ey_36]; rfl) (by decide) rfl (fun ls hl => ?_)
                  refine lv_goto (tgt := 31) hx hb dB_36_0_25.2.1 (by decide) ?_
                  exact ih_3 y_36 M_35 c_c5_11 c_c6_11 _ _ _ (by omega) (by first | with_reducible assumption | omega | assumption) (by first | with_reducible assumption | omega | assumption) (by first | exact mtx_0 v2_1 (by omega) | exact hmx_ _ (by omega) | exact mtx_skip v2_3 (by omega) (by omega) (by omega)) (by first | exact ltF_0 | exact ltF_nx v0_11 (by omega) (by omega) | exact ltF_skip v3_3 (by omega) (by omega) (by omega)) ⟨hP, hD⟩ hS (lv_sub hl [0, 1, 2] rfl)
                refine lv_aload_n hx hb dB_36_0_20.2.2.1.1 rfl (lv_at hl 2 rfl) ?_
                refine va_get (ci := 0) (v := .ref xk) (C := RX0) (T := TX0) (N := 9) hx hb hts (fun _ h => List.mem_cons_of_mem _ (List.mem_append_left _ (List.mem_append_right _ h))) hown hK.1 hP 0 rfl rfl 1 (by decide) (hts (.fieldLink RX0 39 "CutAtlas$Current" "kinds" "[LCutAtlas$PlainKind;") (List.mem_of_getElem? (i := 6) rfl)) (fun _ h9 => h9) rfl dB_36_0_20.2.2.1.2 ?_
                refine lv_aload_n hx hb dB_36_0_20.2.2.2.1 rfl (lv_at hl 2 rfl) ?_
                refine va_get (ci := 0) (v := .ref xn) (C := RX0) (T := TX0) (N := 9) hx hb hts (fun _ h => List.mem_cons_of_mem _ (List.mem_append_left _ (List.mem_append_right _ h))) hown hK.1 hP 0 rfl rfl 0 (by decide) (hts (.fieldLink RX0 35 "CutAtlas$Current" "net" "LCutAtlas$Net;") (List.mem_of_getElem? (i := 1) rfl)) (fun _ h9 => h9) rfl dB_36_0_20.2.2.2.2 ?_
                refine va_get (ci := 3) (v := .ref n1) (C := RX3) (T := TX3) (N := 7) hx hb hts (fun _ h => List.mem_cons_of_mem _ (List.mem_append_right _ h)) hown hK.1 hP 1 rfl rfl 2 (by decide) (hts (.fieldLink RX0 65 "CutAtlas$Net" "kinds" "[I") (List.mem_of_getElem? (i := 7) rfl)) (fun _ h9 => h9) rfl dB_36_0_21.1.1.1.1 ?_
                refine lv_iload_n hx hb dB_36_0_21.1.1.1.2 rfl (lv_at hl 1 rfl) ?_
                have h_37 : vp_in x2_3 40 := in_I (by first | with_reducible assumption | omega) (by omega)
                refine va_iald hx hb hK.1 hP 2 0 rfl rfl (i := x2_3) h_37 dB_36_0_21.1.1.2.1 ?_
                refine lv_topi (fun y_38 ey_38 => ?_)
                have ky_38 : y_38.toInt = (fk x2_3.toNatClampNeg).toInt := by rw [ey_38]
                have ry_38 : 0 ≤ y_38.toInt ∧ y_38.toInt ≤ 4 := by rw [ey_38]; exact r_fk _ (in_lt h_37)
                rcases sp_5 (x := y_38) (by omega) with rfl | rfl | rfl | rfl | rfl
                · refine va_aldq hx hb hK.1 hP 21 3 rfl rfl (i := 0) (by unfold vp_in; decide) dB_36_0_21.1.1.2.2 ?_
                  refine lv_topv (v' := .ref k0) (by simp [va_up, va_rf, mf_, cl_0, cl_1, cl_2, cl_3, cl_4, kf_]) ?_
                  refine lv_astore (lv' := [(4, .ref k0), (3, .int u0_10), (2, .int x2_3), (0, .ref xc), (1, .int a1)]) hx hb dB_36_0_21.1.2.1.1 hl (by decide) rfl (fun ls hl => ?_)
                  refine lv_aload_n hx hb dB_36_0_21.1.2.1.2 rfl (lv_at hl 3 rfl) ?_
                  refine va_get (ci := 0) (v := .ref c5) (C := RX0) (T := TX0) (N := 9) hx hb hts (fun _ h => List.mem_cons_of_mem _ (List.mem_append_left _ (List.mem_append_right _ h))) hown hK.1 hP 0 rfl rfl 5 (by decide) (hts (.fieldLink RX0 23 "CutAtlas$Current" "letsForth" "[I") (List.mem_of_getElem? (i := 8) rfl)) (fun _ h9 => h9) rfl dB_36_0_21.1.2.2.1 ?_
                  refine lv_iload_n hx hb dB_36_0_21.1.2.2.2 rfl (lv_at hl 2 rfl) ?_
                  refine lv_aload hx hb dB_36_0_21.2.1.1.1 (lv_at hl 0 rfl) ?_
                  refine lv_iload_n hx hb dB_36_0_21.2.1.1.2 rfl (lv_at hl 1 rfl) ?_
                  refine lv_iconst (v := 1) hx hb dB_36_0_21.2.1.2.1 (by decide) ?_
                  refine ct_R hP hD [] [] (by decide) rfl (fun hPc hDw => ?_)
                  have hFc := va_free (wc := []) hD hS hA [] rfl
                  refine va_calli (va_runV (As := [.int u0_10, .int 1]) (rest := [.int x2_3, .ref c5]) ⟨hx, hb, hml, hown, hts⟩ (c_X6_lets2 l D cy H.size k0 u0_10 (1 : Int32)) (cwV 2 hts gX0_load_X6_lets rfl rfl rfl ⟨rfl, hd_X6_lets⟩ ⟨Nat.le_of_ble_eq_true rfl, Nat.le_of_ble_eq_true rfl⟩) ⟨bl_, va_recvX hK.1 hP (ci := 6) (q0 := 22) rfl rfl, fun U hU hW => ⟨rfl, by rw [hU], by rw [hU]; exact hPc, kk_mv hW hK, hDw⟩⟩ rfl rfl hl.1 rfl (lv_room (Nat.le_of_ble_eq_true rfl)) dB_36_0_21.2.1.2.2 ⟨Nat.le_of_ble_eq_true rfl, Nat.le_of_ble_eq_true rfl⟩) hS (fun q _ h => hFc q h) hFc (fun r_39 u t H locs ht hvm hw hB hz1 hk1 hS => ?_)
                  have hP : va_P D vwCl _ H := ro_keep hP hk1
                  obtain ⟨f0_r_39, f1_r_39⟩ := hw
                  refine ct_R hP hD [] [] (by decide) rfl (fun hPc hDw => ?_)
                  have hFc := va_free (wc := []) hD hS hA [] rfl
                  refine va_calli (va_runS (As := [.int r_39]) (rest := [.int x2_3, .ref c5]) ⟨hx, hb, hml, hown, hts⟩ (c_X0_asRoom2 l D cy H.size r_39) (va_cwS 1 hts gX0_load_X0_asRoom rfl rfl rfl hd_X0_asRoom ⟨Nat.le_of_ble_eq_true rfl, Nat.le_of_ble_eq_true rfl⟩) ⟨bl_, fun U hU hW => ⟨rfl, by rw [hU], by rw [hU]; exact hPc, kk_mv hW hK, hDw⟩⟩ rfl rfl hl.1 rfl (lv_room (Nat.le_of_ble_eq_true rfl)) dB_36_0_21.2.2.1.1 ⟨Nat.le_of_ble_eq_true rfl, Nat.le_of_ble_eq_true rfl⟩) hS (fun q _ h => hFc q h) hFc (fun r_40 u t H locs ht hvm hw hB hz1 hk1 hS => ?_)
                  have hP : va_P D vwCl _ H := ro_keep hP hk1
                  have f0_r_40 := hw
                  have hv5_ : r_40.toInt = rmW (kF fk x2_3.toNatClampNeg) (wF fw a1.toInt x2_3.toNatClampNeg) 1 := by unfold rmW kF; (repeat' (first | with_reducible refine if_n (by omega) ?_ | with_reducible refine if_ns (by omega) ?_ | with_reducible refine if_nz (by omega) ?_ | with_reducible exact if_p (by omega) (by omega) | with_reducible exact if_ps (by omega) (by omega) | with_reducible exact if_pz (by omega) (by omega))) <;> omega
                  refine va_iast hx hb hK.1 hP hD hS 19 0 rfl rfl (i := x2_3) h_37 dB_36_0_21.2.2.1.2 (fun H locs hP hD hS => ?_)
                  obtain ⟨f_42, ef_42⟩ : ∃ g : Nat → Int32, g = upd c_c5_3 x2_3.toNatClampNeg r_40 := ⟨_, rfl⟩
                  refine pd_K (D := D) (cl := vwCl) (H := H) (A := A) [ob0_0_ xc xn xk clo cro c4 c5 c6 c7 c8, ob3_0_ xn vp vn n1 n2 n3 n4 n5, ai_ cy n1 40 fk, ai_ cy n2 40 fs, ai_ cy n3 40 fe, ai_ cy n4 40 fw, aq_ cy 6 clo 12 (gf_ rl), ai_ cy (rl 0) 12 (m_rl_3 0), ai_ cy (rl 1) 12 (m_rl_3 1), ai_ cy (rl 2) 12 (m_rl_3 2), ai_ cy (rl 3) 12 (m_rl_3 3), ai_ cy (rl 4) 12 (m_rl_3 4), ai_ cy (rl 5) 12 (m_rl_3 5), ai_ cy (rl 6) 12 (m_rl_3 6), ai_ cy (rl 7) 12 (m_rl_3 7), ai_ cy (rl 8) 12 (m_rl_3 8), ai_ cy (rl 9) 12 (m_rl_3 9), ai_ cy (rl 10) 12 (m_rl_3 10), ai_ cy (rl 11) 12 (m_rl_3 11), ai_ cy c5 40 f_42, ai_ cy c6 40 c_c6_3, aq_ cy 3 xk 5 (kf_ k0 k1 k2 k3 k4), ob6_0_ k0, ob5_0_ k1, ob9_0_ k2, ob2_0_ k3, ob8_0_ k4] (by rw [ef_42]; exact hP) (by rw [ef_42]; exact hD) (fun hP hD => ?_)
                  refine lv_aload_n hx hb dB_36_0_21.2.2.2.1 rfl (lv_at hl 3 rfl) ?_
                  refine va_get (ci := 0) (v := .ref c6) (C := RX0) (T := TX0) (N := 9) hx hb hts (fun _ h => List.mem_cons_of_mem _ (List.mem_append_left _ (List.mem_append_right _ h))) hown hK.1 hP 0 rfl rfl 6 (by decide) (hts (.fieldLink RX0 26 "CutAtlas$Current" "letsBack" "[I") (List.mem_of_getElem? (i := 9) rfl)) (fun _ h9 => h9) rfl dB_36_0_21.2.2.2.2 ?_
                  refine lv_iload_n hx hb dB_36_0_22.1.1.1.1 rfl (lv_at hl 2 rfl) ?_
                  refine lv_aload hx hb dB_36_0_22.1.1.1.2 (lv_at hl 0 rfl) ?_
                  refine lv_iload_n hx hb dB_36_0_22.1.1.2.1 rfl (lv_at hl 1 rfl) ?_
                  refine lv_iconst (v := 0) hx hb dB_36_0_22.1.1.2.2 (by decide) ?_
                  refine ct_R hP hD [] [] (by decide) rfl (fun hPc hDw => ?_)
                  have hFc := va_free (wc := []) hD hS hA [] rfl
                  refine va_calli (va_runV (As := [.int u0_10, .int 0]) (rest := [.int x2_3, .ref c6]) ⟨hx, hb, hml, hown, hts⟩ (c_X6_lets2 l D cy H.size k0 u0_10 (0 : Int32)) (cwV 2 hts gX0_load_X6_lets rfl rfl rfl ⟨rfl, hd_X6_lets⟩ ⟨Nat.le_of_ble_eq_true rfl, Nat.le_of_ble_eq_true rfl⟩) ⟨bl_, va_recvX hK.1 hP (ci := 6) (q0 := 22) rfl rfl, fun U hU hW => ⟨rfl, by rw [hU], by rw [hU]; exact hPc, kk_mv hW hK, hDw⟩⟩ rfl rfl hl.1 rfl (lv_room (Nat.le_of_ble_eq_true rfl)) dB_36_0_22.1.2.1.1 ⟨Nat.le_of_ble_eq_true rfl, Nat.le_of_ble_eq_true rfl⟩) hS (fun q _ h => hFc q h) hFc (fun r_43 u t H locs ht hvm hw hB hz1 hk1 hS => ?_)
                  have hP : va_P D vwCl _ H := ro_keep hP hk1
                  obtain ⟨f0_r_43, f1_r_43⟩ := hw
                  refine ct_R hP hD [] [] (by decide) rfl (fun hPc hDw => ?_)
                  have hFc := va_free (wc := []) hD hS hA [] rfl
                  refine va_calli (va_runS (As := [.int r_43]) (rest := [.int x2_3, .ref c6]) ⟨hx, hb, hml, hown, hts⟩ (c_X0_asRoom2 l D cy H.size r_43) (va_cwS 1 hts gX0_load_X0_asRoom rfl rfl rfl hd_X0_asRoom ⟨Nat.le_of_ble_eq_true rfl, Nat.le_of_ble_eq_true rfl⟩) ⟨bl_, fun U hU hW => ⟨rfl, by rw [hU], by rw [hU]; exact hPc, kk_mv hW hK, hDw⟩⟩ rfl rfl hl.1 rfl (lv_room (Nat.le_of_ble_eq_true rfl)) dB_36_0_22.1.2.1.2 ⟨Nat.le_of_ble_eq_true rfl, Nat.le_of_ble_eq_true rfl⟩) hS (fun q _ h => hFc q h) hFc (fun r_44 u t H locs ht hvm hw hB hz1 hk1 hS => ?_)
                  have hP : va_P D vwCl _ H := ro_keep hP hk1
                  have f0_r_44 := hw
                  have hv6_ : r_44.toInt = rmW (kF fk x2_3.toNatClampNeg) (wF fw a1.toInt x2_3.toNatClampNeg) 0 := by unfold rmW kF; (repeat' (first | with_reducible refine if_n (by omega) ?_ | with_reducible refine if_ns (by omega) ?_ | with_reducible refine if_nz (by omega) ?_ | with_reducible exact if_p (by omega) (by omega) | with_reducible exact if_ps (by omega) (by omega) | with_reducible exact if_pz (by omega) (by omega))) <;> omega
                  refine va_iast hx hb hK.1 hP hD hS 20 0 rfl rfl (i := x2_3) h_37 dB_36_0_22.1.2.2.1 (fun H locs hP hD hS => ?_)
                  obtain ⟨f_46, ef_46⟩ : ∃ g : Nat → Int32, g = upd c_c6_3 x2_3.toNatClampNeg r_44 := ⟨_, rfl⟩
                  refine pd_K (D := D) (cl := vwCl) (H := H) (A := A) [ob0_0_ xc xn xk clo cro c4 c5 c6 c7 c8, ob3_0_ xn vp vn n1 n2 n3 n4 n5, ai_ cy n1 40 fk, ai_ cy n2 40 fs, ai_ cy n3 40 fe, ai_ cy n4 40 fw, aq_ cy 6 clo 12 (gf_ rl), ai_ cy (rl 0) 12 (m_rl_3 0), ai_ cy (rl 1) 12 (m_rl_3 1), ai_ cy (rl 2) 12 (m_rl_3 2), ai_ cy (rl 3) 12 (m_rl_3 3), ai_ cy (rl 4) 12 (m_rl_3 4), ai_ cy (rl 5) 12 (m_rl_3 5), ai_ cy (rl 6) 12 (m_rl_3 6), ai_ cy (rl 7) 12 (m_rl_3 7), ai_ cy (rl 8) 12 (m_rl_3 8), ai_ cy (rl 9) 12 (m_rl_3 9), ai_ cy (rl 10) 12 (m_rl_3 10), ai_ cy (rl 11) 12 (m_rl_3 11), ai_ cy c5 40 f_42, ai_ cy c6 40 f_46, aq_ cy 3 xk 5 (kf_ k0 k1 k2 k3 k4), ob6_0_ k0, ob5_0_ k1, ob9_0_ k2, ob2_0_ k3, ob8_0_ k4] (by rw [ef_46]; exact hP) (by rw [ef_46]; exact hD) (fun hP hD => ?_)
                  exact JOIN_11 f_42 f_46 _ _ _ (ltF_st v3_3 ef_42 ef_46 hv5_ hv6_) ⟨hP, hD⟩ hS (lv_sub hl [2, 3, 4] rfl)
                · refine va_aldq hx hb hK.1 hP 21 3 rfl rfl (i := 1) (by unfold vp_in; decide) dB_36_0_21.1.1.2.2 ?_
                  refine lv_topv (v' := .ref k1) (by simp [va_up, va_rf, mf_, cl_0, cl_1, cl_2, cl_3, cl_4, kf_]) ?_
                  refine lv_astore (lv' := [(4, .ref k1), (3, .int u0_10), (2, .int x2_3), (0, .ref xc), (1, .int a1)]) hx hb dB_36_0_21.1.2.1.1 hl (by decide) rfl (fun ls hl => ?_)
                  refine lv_aload_n hx hb dB_36_0_21.1.2.1.2 rfl (lv_at hl 3 rfl) ?_
                  refine va_get (ci := 0) (v := .ref c5) (C := RX0) (T := TX0) (N := 9) hx hb hts (fun _ h => List.mem_cons_of_mem _ (List.mem_append_left _ (List.mem_append_right _ h))) hown hK.1 hP 0 rfl rfl 5 (by decide) (hts (.fieldLink RX0 23 "CutAtlas$Current" "letsForth" "[I") (List.mem_of_getElem? (i := 8) rfl)) (fun _ h9 => h9) rfl dB_36_0_21.1.2.2.1 ?_
                  refine lv_iload_n hx hb dB_36_0_21.1.2.2.2 rfl (lv_at hl 2 rfl) ?_
                  refine lv_aload hx hb dB_36_0_21.2.1.1.1 (lv_at hl 0 rfl) ?_
                  refine lv_iload_n hx hb dB_36_0_21.2.1.1.2 rfl (lv_at hl 1 rfl) ?_
                  refine lv_iconst (v := 1) hx hb dB_36_0_21.2.1.2.1 (by decide) ?_
                  refine ct_R hP hD [ob5_0_ k1] [23] (by decide) rfl (fun hPc hDw => ?_)
                  have hFc := va_free (wc := []) hD hS hA [] rfl
                  refine va_calli (va_runU (As := [.int u0_10, .int 1]) (rest := [.int x2_3, .ref c5]) ⟨hx, hb, hml, hown, hts⟩ (c_X5_lets2 l D cy H.size k1 u0_10 (1 : Int32)) (va_cwO 2 hts gX0_load_X5_lets_u67X5 rfl rfl rfl (b0 := cX6_lets) (m0 := 3) (r0 := (some .int)) (by decide +kernel) (by decide +kernel) ⟨Nat.le_of_ble_eq_true rfl, Nat.le_of_ble_eq_true rfl⟩) ⟨bl_, va_recvX hK.1 hP (ci := 5) (q0 := 23) rfl rfl, fun U hU hW => ⟨rfl, by rw [hU], by rw [hU]; exact hPc, kk_mv hW hK, hDw⟩⟩ rfl rfl hl.1 rfl (lv_room (Nat.le_of_ble_eq_true rfl)) dB_36_0_21.2.1.2.2 ⟨Nat.le_of_ble_eq_true rfl, Nat.le_of_ble_eq_true rfl⟩) hS (fun q _ h => hFc q h) hFc (fun r_47 u t H locs ht hvm hw hB hz1 hk1 hS => ?_)
                  have hP : va_P D vwCl _ H := ro_keep hP hk1
                  have f0_r_47 := hw
                  refine ct_R hP hD [] [] (by decide) rfl (fun hPc hDw => ?_)
                  have hFc := va_free (wc := []) hD hS hA [] rfl
                  refine va_calli (va_runS (As := [.int r_47]) (rest := [.int x2_3, .ref c5]) ⟨hx, hb, hml, hown, hts⟩ (c_X0_asRoom2 l D cy H.size r_47) (va_cwS 1 hts gX0_load_X0_asRoom rfl rfl rfl hd_X0_asRoom ⟨Nat.le_of_ble_eq_true rfl, Nat.le_of_ble_eq_true rfl⟩) ⟨bl_, fun U hU hW => ⟨rfl, by rw [hU], by rw [hU]; exact hPc, kk_mv hW hK, hDw⟩⟩ rfl rfl hl.1 rfl (lv_room (Nat.le_of_ble_eq_true rfl)) dB_36_0_21.2.2.1.1 ⟨Nat.le_of_ble_eq_true rfl, Nat.le_of_ble_eq_true rfl⟩) hS (fun q _ h => hFc q h) hFc (fun r_48 u t H locs ht hvm hw hB hz1 hk1 hS => ?_)
                  have hP : va_P D vwCl _ H := ro_keep hP hk1
                  have f0_r_48 := hw
                  have hv5_ : r_48.toInt = rmW (kF fk x2_3.toNatClampNeg) (wF fw a1.toInt x2_3.toNatClampNeg) 1 := by unfold rmW kF; (repeat' (first | with_reducible refine if_n (by omega) ?_ | with_reducible refine if_ns (by omega) ?_ | with_reducible refine if_nz (by omega) ?_ | with_reducible exact if_p (by omega) (by omega) | with_reducible exact if_ps (by omega) (by omega) | with_reducible exact if_pz (by omega) (by omega))) <;> omega
                  refine va_iast hx hb hK.1 hP hD hS 19 0 rfl rfl (i := x2_3) h_37 dB_36_0_21.2.2.1.2 (fun H locs hP hD hS => ?_)
                  obtain ⟨f_50, ef_50⟩ : ∃ g : Nat → Int32, g = upd c_c5_3 x2_3.toNatClampNeg r_48 := ⟨_, rfl⟩
                  refine pd_K (D := D) (cl := vwCl) (H := H) (A := A) [ob0_0_ xc xn xk clo cro c4 c5 c6 c7 c8, ob3_0_ xn vp vn n1 n2 n3 n4 n5, ai_ cy n1 40 fk, ai_ cy n2 40 fs, ai_ cy n3 40 fe, ai_ cy n4 40 fw, aq_ cy 6 clo 12 (gf_ rl), ai_ cy (rl 0) 12 (m_rl_3 0), ai_ cy (rl 1) 12 (m_rl_3 1), ai_ cy (rl 2) 12 (m_rl_3 2), ai_ cy (rl 3) 12 (m_rl_3 3), ai_ cy (rl 4) 12 (m_rl_3 4), ai_ cy (rl 5) 12 (m_rl_3 5), ai_ cy (rl 6) 12 (m_rl_3 6), ai_ cy (rl 7) 12 (m_rl_3 7), ai_ cy (rl 8) 12 (m_rl_3 8), ai_ cy (rl 9) 12 (m_rl_3 9), ai_ cy (rl 10) 12 (m_rl_3 10), ai_ cy (rl 11) 12 (m_rl_3 11), ai_ cy c5 40 f_50, ai_ cy c6 40 c_c6_3, aq_ cy 3 xk 5 (kf_ k0 k1 k2 k3 k4), ob6_0_ k0, ob5_0_ k1, ob9_0_ k2, ob2_0_ k3, ob8_0_ k4] (by rw [ef_50]; exact hP) (by rw [ef_50]; exact hD) (fun hP hD => ?_)
                  refine lv_aload_n hx hb dB_36_0_21.2.2.2.1 rfl (lv_at hl 3 rfl) ?_
                  refine va_get (ci := 0) (v := .ref c6) (C := RX0) (T := TX0) (N := 9) hx hb hts (fun _ h => List.mem_cons_of_mem _ (List.mem_append_left _ (List.mem_append_right _ h))) hown hK.1 hP 0 rfl rfl 6 (by decide) (hts (.fieldLink RX0 26 "CutAtlas$Current" "letsBack" "[I") (List.mem_of_getElem? (i := 9) rfl)) (fun _ h9 => h9) rfl dB_36_0_21.2.2.2.2 ?_
                  refine lv_iload_n hx hb dB_36_0_22.1.1.1.1 rfl (lv_at hl 2 rfl) ?_
                  refine lv_aload hx hb dB_36_0_22.1.1.1.2 (lv_at hl 0 rfl) ?_
                  refine lv_iload_n hx hb dB_36_0_22.1.1.2.1 rfl (lv_at hl 1 rfl) ?_
                  refine lv_iconst (v := 0) hx hb dB_36_0_22.1.1.2.2 (by decide) ?_
                  refine ct_R hP hD [ob5_0_ k1] [23] (by decide) rfl (fun hPc hDw => ?_)
                  have hFc := va_free (wc := []) hD hS hA [] rfl
                  refine va_calli (va_runU (As := [.int u0_10, .int 0]) (rest := [.int x2_3, .ref c6]) ⟨hx, hb, hml, hown, hts⟩ (c_X5_lets2 l D cy H.size k1 u0_10 (0 : Int32)) (va_cwO 2 hts gX0_load_X5_lets_u67X5 rfl rfl rfl (b0 := cX6_lets) (m0 := 3) (r0 := (some .int)) (by decide +kernel) (by decide +kernel) ⟨Nat.le_of_ble_eq_true rfl, Nat.le_of_ble_eq_true rfl⟩) ⟨bl_, va_recvX hK.1 hP (ci := 5) (q0 := 23) rfl rfl, fun U hU hW => ⟨rfl, by rw [hU], by rw [hU]; exact hPc, kk_mv hW hK, hDw⟩⟩ rfl rfl hl.1 rfl (lv_room (Nat.le_of_ble_eq_true rfl)) dB_36_0_22.1.2.1.1 ⟨Nat.le_of_ble_eq_true rfl, Nat.le_of_ble_eq_true rfl⟩) hS (fun q _ h => hFc q h) hFc (fun r_51 u t H locs ht hvm hw hB hz1 hk1 hS => ?_)
                  have hP : va_P D vwCl _ H := ro_keep hP hk1
                  have f0_r_51 := hw
                  refine ct_R hP hD [] [] (by decide) rfl (fun hPc hDw => ?_)
                  have hFc := va_free (wc := []) hD hS hA [] rfl
                  refine va_calli (va_runS (As := [.int r_51]) (rest := [.int x2_3, .ref c6]) ⟨hx, hb, hml, hown, hts⟩ (c_X0_asRoom2 l D cy H.size r_51) (va_cwS 1 hts gX0_load_X0_asRoom rfl rfl rfl hd_X0_asRoom ⟨Nat.le_of_ble_eq_true rfl, Nat.le_of_ble_eq_true rfl⟩) ⟨bl_, fun U hU hW => ⟨rfl, by rw [hU], by rw [hU]; exact hPc, kk_mv hW hK, hDw⟩⟩ rfl rfl hl.1 rfl (lv_room (Nat.le_of_ble_eq_true rfl)) dB_36_0_22.1.2.1.2 ⟨Nat.le_of_ble_eq_true rfl, Nat.le_of_ble_eq_true rfl⟩) hS (fun q _ h => hFc q h) hFc (fun r_52 u t H locs ht hvm hw hB hz1 hk1 hS => ?_)
                  have hP : va_P D vwCl _ H := ro_keep hP hk1
                  have f0_r_52 := hw
                  have hv6_ : r_52.toInt = rmW (kF fk x2_3.toNatClampNeg) (wF fw a1.toInt x2_3.toNatClampNeg) 0 := by unfold rmW kF; (repeat' (first | with_reducible refine if_n (by omega) ?_ | with_reducible refine if_ns (by omega) ?_ | with_reducible refine if_nz (by omega) ?_ | with_reducible exact if_p (by omega) (by omega) | with_reducible exact if_ps (by omega) (by omega) | with_reducible exact if_pz (by omega) (by omega))) <;> omega
                  refine va_iast hx hb hK.1 hP hD hS 20 0 rfl rfl (i := x2_3) h_37 dB_36_0_22.1.2.2.1 (fun H locs hP hD hS => ?_)
                  obtain ⟨f_54, ef_54⟩ : ∃ g : Nat → Int32, g = upd c_c6_3 x2_3.toNatClampNeg r_52 := ⟨_, rfl⟩
                  refine pd_K (D := D) (cl := vwCl) (H := H) (A := A) [ob0_0_ xc xn xk clo cro c4 c5 c6 c7 c8, ob3_0_ xn vp vn n1 n2 n3 n4 n5, ai_ cy n1 40 fk, ai_ cy n2 40 fs, ai_ cy n3 40 fe, ai_ cy n4 40 fw, aq_ cy 6 clo 12 (gf_ rl), ai_ cy (rl 0) 12 (m_rl_3 0), ai_ cy (rl 1) 12 (m_rl_3 1), ai_ cy (rl 2) 12 (m_rl_3 2), ai_ cy (rl 3) 12 (m_rl_3 3), ai_ cy (rl 4) 12 (m_rl_3 4), ai_ cy (rl 5) 12 (m_rl_3 5), ai_ cy (rl 6) 12 (m_rl_3 6), ai_ cy (rl 7) 12 (m_rl_3 7), ai_ cy (rl 8) 12 (m_rl_3 8), ai_ cy (rl 9) 12 (m_rl_3 9), ai_ cy (rl 10) 12 (m_rl_3 10), ai_ cy (rl 11) 12 (m_rl_3 11), ai_ cy c5 40 f_50, ai_ cy c6 40 f_54, aq_ cy 3 xk 5 (kf_ k0 k1 k2 k3 k4), ob6_0_ k0, ob5_0_ k1, ob9_0_ k2, ob2_0_ k3, ob8_0_ k4] (by rw [ef_54]; exact hP) (by rw [ef_54]; exact hD) (fun hP hD => ?_)
                  exact JOIN_11 f_50 f_54 _ _ _ (ltF_st v3_3 ef_50 ef_54 hv5_ hv6_) ⟨hP, hD⟩ hS (lv_sub hl [2, 3, 4] rfl)
                · refine va_aldq hx hb hK.1 hP 21 3 rfl rfl (i := 2) (by unfold vp_in; decide) dB_36_0_21.1.1.2.2 ?_
                  refine lv_topv (v' := .ref k2) (by simp [va_up, va_rf, mf_, cl_0, cl_1, cl_2, cl_3, cl_4, kf_]) ?_
                  refine lv_astore (lv' := [(4, .ref k2), (3, .int u0_10), (2, .int x2_3), (0, .ref xc), (1, .int a1)]) hx hb dB_36_0_21.1.2.1.1 hl (by decide) rfl (fun ls hl => ?_)
                  refine lv_aload_n hx hb dB_36_0_21.1.2.1.2 rfl (lv_at hl 3 rfl) ?_
                  refine va_get (ci := 0) (v := .ref c5) (C := RX0) (T := TX0) (N := 9) hx hb hts (fun _ h => List.mem_cons_of_mem _ (List.mem_append_left _ (List.mem_append_right _ h))) hown hK.1 hP 0 rfl rfl 5 (by decide) (hts (.fieldLink RX0 23 "CutAtlas$Current" "letsForth" "[I") (List.mem_of_getElem? (i := 8) rfl)) (fun _ h9 => h9) rfl dB_36_0_21.1.2.2.1 ?_
                  refine lv_iload_n hx hb dB_36_0_21.1.2.2.2 rfl (lv_at hl 2 rfl) ?_
                  refine lv_aload hx hb dB_36_0_21.2.1.1.1 (lv_at hl 0 rfl) ?_
                  refine lv_iload_n hx hb dB_36_0_21.2.1.1.2 rfl (lv_at hl 1 rfl) ?_
                  refine lv_iconst (v := 1) hx hb dB_36_0_21.2.1.2.1 (by decide) ?_
                  refine ct_R hP hD [] [] (by decide) rfl (fun hPc hDw => ?_)
                  have hFc := va_free (wc := []) hD hS hA [] rfl
                  refine va_calli (va_runU (As := [.int u0_10, .int 1]) (rest := [.int x2_3, .ref c5]) ⟨hx, hb, hml, hown, hts⟩ (c_X9_lets2 l D cy H.size k2 u0_10 (1 : Int32)) (va_cwO 2 hts gX0_load_X9_lets_u67X9 rfl rfl rfl (b0 := cX6_lets) (m0 := 3) (r0 := (some .int)) (by decide +kernel) (by decide +kernel) ⟨Nat.le_of_ble_eq_true rfl, Nat.le_of_ble_eq_true rfl⟩) ⟨bl_, va_recvX hK.1 hP (ci := 9) (q0 := 24) rfl rfl, fun U hU hW => ⟨rfl, by rw [hU], by rw [hU]; exact hPc, kk_mv hW hK, hDw⟩⟩ rfl rfl hl.1 rfl (lv_room (Nat.le_of_ble_eq_true rfl)) dB_36_0_21.2.1.2.2 ⟨Nat.le_of_ble_eq_true rfl, Nat.le_of_ble_eq_true rfl⟩) hS (fun q _ h => hFc q h) hFc (fun r_55 u t H locs ht hvm hw hB hz1 hk1 hS => ?_)
                  have hP : va_P D vwCl _ H := ro_keep hP hk1
                  have f0_r_55 := hw
                  refine ct_R hP hD [] [] (by decide) rfl (fun hPc hDw => ?_)
                  have hFc := va_free (wc := []) hD hS hA [] rfl
                  refine va_calli (va_runS (As := [.int r_55]) (rest := [.int x2_3, .ref c5]) ⟨hx, hb, hml, hown, hts⟩ (c_X0_asRoom2 l D cy H.size r_55) (va_cwS 1 hts gX0_load_X0_asRoom rfl rfl rfl hd_X0_asRoom ⟨Nat.le_of_ble_eq_true rfl, Nat.le_of_ble_eq_true rfl⟩) ⟨bl_, fun U hU hW => ⟨rfl, by rw [hU], by rw [hU]; exact hPc, kk_mv hW hK, hDw⟩⟩ rfl rfl hl.1 rfl (lv_room (Nat.le_of_ble_eq_true rfl)) dB_36_0_21.2.2.1.1 ⟨Nat.le_of_ble_eq_true rfl, Nat.le_of_ble_eq_true rfl⟩) hS (fun q _ h => hFc q h) hFc (fun r_56 u t H locs ht hvm hw hB hz1 hk1 hS => ?_)
                  have hP : va_P D vwCl _ H := ro_keep hP hk1
                  have f0_r_56 := hw
                  have hv5_ : r_56.toInt = rmW (kF fk x2_3.toNatClampNeg) (wF fw a1.toInt x2_3.toNatClampNeg) 1 := by unfold rmW kF; (repeat' (first | with_reducible refine if_n (by omega) ?_ | with_reducible refine if_ns (by omega) ?_ | with_reducible refine if_nz (by omega) ?_ | with_reducible exact if_p (by omega) (by omega) | with_reducible exact if_ps (by omega) (by omega) | with_reducible exact if_pz (by omega) (by omega))) <;> omega
                  refine va_iast hx hb hK.1 hP hD hS 19 0 rfl rfl (i := x2_3) h_37 dB_36_0_21.2.2.1.2 (fun H locs hP hD hS => ?_)
                  obtain ⟨f_58, ef_58⟩ : ∃ g : Nat → Int32, g = upd c_c5_3 x2_3.toNatClampNeg r_56 := ⟨_, rfl⟩
                  refine pd_K (D := D) (cl := vwCl) (H := H) (A := A) [ob0_0_ xc xn xk clo cro c4 c5 c6 c7 c8, ob3_0_ xn vp vn n1 n2 n3 n4 n5, ai_ cy n1 40 fk, ai_ cy n2 40 fs, ai_ cy n3 40 fe, ai_ cy n4 40 fw, aq_ cy 6 clo 12 (gf_ rl), ai_ cy (rl 0) 12 (m_rl_3 0), ai_ cy (rl 1) 12 (m_rl_3 1), ai_ cy (rl 2) 12 (m_rl_3 2), ai_ cy (rl 3) 12 (m_rl_3 3), ai_ cy (rl 4) 12 (m_rl_3 4), ai_ cy (rl 5) 12 (m_rl_3 5), ai_ cy (rl 6) 12 (m_rl_3 6), ai_ cy (rl 7) 12 (m_rl_3 7), ai_ cy (rl 8) 12 (m_rl_3 8), ai_ cy (rl 9) 12 (m_rl_3 9), ai_ cy (rl 10) 12 (m_rl_3 10), ai_ cy (rl 11) 12 (m_rl_3 11), ai_ cy c5 40 f_58, ai_ cy c6 40 c_c6_3, aq_ cy 3 xk 5 (kf_ k0 k1 k2 k3 k4), ob6_0_ k0, ob5_0_ k1, ob9_0_ k2, ob2_0_ k3, ob8_0_ k4] (by rw [ef_58]; exact hP) (by rw [ef_58]; exact hD) (fun hP hD => ?_)
                  refine lv_aload_n hx hb dB_36_0_21.2.2.2.1 rfl (lv_at hl 3 rfl) ?_
                  refine va_get (ci := 0) (v := .ref c6) (C := RX0) (T := TX0) (N := 9) hx hb hts (fun _ h => List.mem_cons_of_mem _ (List.mem_append_left _ (List.mem_append_right _ h))) hown hK.1 hP 0 rfl rfl 6 (by decide) (hts (.fieldLink RX0 26 "CutAtlas$Current" "letsBack" "[I") (List.mem_of_getElem? (i := 9) rfl)) (fun _ h9 => h9) rfl dB_36_0_21.2.2.2.2 ?_
                  refine lv_iload_n hx hb dB_36_0_22.1.1.1.1 rfl (lv_at hl 2 rfl) ?_
                  refine lv_aload hx hb dB_36_0_22.1.1.1.2 (lv_at hl 0 rfl) ?_
                  refine lv_iload_n hx hb dB_36_0_22.1.1.2.1 rfl (lv_at hl 1 rfl) ?_
                  refine lv_iconst (v := 0) hx hb dB_36_0_22.1.1.2.2 (by decide) ?_
                  refine ct_R hP hD [] [] (by decide) rfl (fun hPc hDw => ?_)
                  have hFc := va_free (wc := []) hD hS hA [] rfl
                  refine va_calli (va_runU (As := [.int u0_10, .int 0]) (rest := [.int x2_3, .ref c6]) ⟨hx, hb, hml, hown, hts⟩ (c_X9_lets2 l D cy H.size k2 u0_10 (0 : Int32)) (va_cwO 2 hts gX0_load_X9_lets_u67X9 rfl rfl rfl (b0 := cX6_lets) (m0 := 3) (r0 := (some .int)) (by decide +kernel) (by decide +kernel) ⟨Nat.le_of_ble_eq_true rfl, Nat.le_of_ble_eq_true rfl⟩) ⟨bl_, va_recvX hK.1 hP (ci := 9) (q0 := 24) rfl rfl, fun U hU hW => ⟨rfl, by rw [hU], by rw [hU]; exact hPc, kk_mv hW hK, hDw⟩⟩ rfl rfl hl.1 rfl (lv_room (Nat.le_of_ble_eq_true rfl)) dB_36_0_22.1.2.1.1 ⟨Nat.le_of_ble_eq_true rfl, Nat.le_of_ble_eq_true rfl⟩) hS (fun q _ h => hFc q h) hFc (fun r_59 u t H locs ht hvm hw hB hz1 hk1 hS => ?_)
                  have hP : va_P D vwCl _ H := ro_keep hP hk1
                  have f0_r_59 := hw
                  refine ct_R hP hD [] [] (by decide) rfl (fun hPc hDw => ?_)
                  have hFc := va_free (wc := []) hD hS hA [] rfl
                  refine va_calli (va_runS (As := [.int r_59]) (rest := [.int x2_3, .ref c6]) ⟨hx, hb, hml, hown, hts⟩ (c_X0_asRoom2 l D cy H.size r_59) (va_cwS 1 hts gX0_load_X0_asRoom rfl rfl rfl hd_X0_asRoom ⟨Nat.le_of_ble_eq_true rfl, Nat.le_of_ble_eq_true rfl⟩) ⟨bl_, fun U hU hW => ⟨rfl, by rw [hU], by rw [hU]; exact hPc, kk_mv hW hK, hDw⟩⟩ rfl rfl hl.1 rfl (lv_room (Nat.le_of_ble_eq_true rfl)) dB_36_0_22.1.2.1.2 ⟨Nat.le_of_ble_eq_true rfl, Nat.le_of_ble_eq_true rfl⟩) hS (fun q _ h => hFc q h) hFc (fun r_60 u t H locs ht hvm hw hB hz1 hk1 hS => ?_)
                  have hP : va_P D vwCl _ H := ro_keep hP hk1
                  have f0_r_60 := hw
                  have hv6_ : r_60.toInt = rmW (kF fk x2_3.toNatClampNeg) (wF fw a1.toInt x2_3.toNatClampNeg) 0 := by unfold rmW kF; (repeat' (first | with_reducible refine if_n (by omega) ?_ | with_reducible refine if_ns (by omega) ?_ | with_reducible refine if_nz (by omega) ?_ | with_reducible exact if_p (by omega) (by omega) | with_reducible exact if_ps (by omega) (by omega) | with_reducible exact if_pz (by omega) (by omega))) <;> omega
                  refine va_iast hx hb hK.1 hP hD hS 20 0 rfl rfl (i := x2_3) h_37 dB_36_0_22.1.2.2.1 (fun H locs hP hD hS => ?_)
                  obtain ⟨f_62, ef_62⟩ : ∃ g : Nat → Int32, g = upd c_c6_3 x2_3.toNatClampNeg r_60 := ⟨_, rfl⟩
                  refine pd_K (D := D) (cl := vwCl) (H := H) (A := A) [ob0_0_ xc xn xk clo cro c4 c5 c6 c7 c8, ob3_0_ xn vp vn n1 n2 n3 n4 n5, ai_ cy n1 40 fk, ai_ cy n2 40 fs, ai_ cy n3 40 fe, ai_ cy n4 40 fw, aq_ cy 6 clo 12 (gf_ rl), ai_ cy (rl 0) 12 (m_rl_3 0), ai_ cy (rl 1) 12 (m_rl_3 1), ai_ cy (rl 2) 12 (m_rl_3 2), ai_ cy (rl 3) 12 (m_rl_3 3), ai_ cy (rl 4) 12 (m_rl_3 4), ai_ cy (rl 5) 12 (m_rl_3 5), ai_ cy (rl 6) 12 (m_rl_3 6), ai_ cy (rl 7) 12 (m_rl_3 7), ai_ cy (rl 8) 12 (m_rl_3 8), ai_ cy (rl 9) 12 (m_rl_3 9), ai_ cy (rl 10) 12 (m_rl_3 10), ai_ cy (rl 11) 12 (m_rl_3 11), ai_ cy c5 40 f_58, ai_ cy c6 40 f_62, aq_ cy 3 xk 5 (kf_ k0 k1 k2 k3 k4), ob6_0_ k0, ob5_0_ k1, ob9_0_ k2, ob2_0_ k3, ob8_0_ k4] (by rw [ef_62]; exact hP) (by rw [ef_62]; exact hD) (fun hP hD => ?_)
                  exact JOIN_11 f_58 f_62 _ _ _ (ltF_st v3_3 ef_58 ef_62 hv5_ hv6_) ⟨hP, hD⟩ hS (lv_sub hl [2, 3, 4] rfl)
                · refine va_aldq hx hb hK.1 hP 21 3 rfl rfl (i := 3) (by unfold vp_in; decide) dB_36_0_21.1.1.2.2 ?_
                  refine lv_topv (v' := .ref k3) (by simp [va_up, va_rf, mf_, cl_0, cl_1, cl_2, cl_3, cl_4, kf_]) ?_
                  refine lv_astore (lv' := [(4, .ref k3), (3, .int u0_10), (2, .int x2_3), (0, .ref xc), (1, .int a1)]) hx hb dB_36_0_21.1.2.1.1 hl (by decide) rfl (fun ls hl => ?_)
                  refine lv_aload_n hx hb dB_36_0_21.1.2.1.2 rfl (lv_at hl 3 rfl) ?_
                  refine va_get (ci := 0) (v := .ref c5) (C := RX0) (T := TX0) (N := 9) hx hb hts (fun _ h => List.mem_cons_of_mem _ (List.mem_append_left _ (List.mem_append_right _ h))) hown hK.1 hP 0 rfl rfl 5 (by decide) (hts (.fieldLink RX0 23 "CutAtlas$Current" "letsForth" "[I") (List.mem_of_getElem? (i := 8) rfl)) (fun _ h9 => h9) rfl dB_36_0_21.1.2.2.1 ?_
                  refine lv_iload_n hx hb dB_36_0_21.1.2.2.2 rfl (lv_at hl 2 rfl) ?_
                  refine lv_aload hx hb dB_36_0_21.2.1.1.1 (lv_at hl 0 rfl) ?_
                  refine lv_iload_n hx hb dB_36_0_21.2.1.1.2 rfl (lv_at hl 1 rfl) ?_
                  refine lv_iconst (v := 1) hx hb dB_36_0_21.2.1.2.1 (by decide) ?_
                  refine ct_R hP hD [] [] (by decide) rfl (fun hPc hDw => ?_)
                  have hFc := va_free (wc := []) hD hS hA [] rfl
                  refine va_calli (va_runU (As := [.int u0_10, .int 1]) (rest := [.int x2_3, .ref c5]) ⟨hx, hb, hml, hown, hts⟩ (c_X6_lets2 l D cy H.size k3 u0_10 (1 : Int32)) (va_cwU 2 hts gX0_load_X6_lets_u67X2 rfl rfl rfl rfl (by decide +kernel) ⟨Nat.le_of_ble_eq_true rfl, Nat.le_of_ble_eq_true rfl⟩) ⟨bl_, va_recvX hK.1 hP (ci := 2) (q0 := 25) rfl rfl, fun U hU hW => ⟨rfl, by rw [hU], by rw [hU]; exact hPc, kk_mv hW hK, hDw⟩⟩ rfl rfl hl.1 rfl (lv_room (Nat.le_of_ble_eq_true rfl)) dB_36_0_21.2.1.2.2 ⟨Nat.le_of_ble_eq_true rfl, Nat.le_of_ble_eq_true rfl⟩) hS (fun q _ h => hFc q h) hFc (fun r_63 u t H locs ht hvm hw hB hz1 hk1 hS => ?_)
                  have hP : va_P D vwCl _ H := ro_keep hP hk1
                  obtain ⟨f0_r_63, f1_r_63⟩ := hw
                  refine ct_R hP hD [] [] (by decide) rfl (fun hPc hDw => ?_)
                  have hFc := va_free (wc := []) hD hS hA [] rfl
                  refine va_calli (va_runS (As := [.int r_63]) (rest := [.int x2_3, .ref c5]) ⟨hx, hb, hml, hown, hts⟩ (c_X0_asRoom2 l D cy H.size r_63) (va_cwS 1 hts gX0_load_X0_asRoom rfl rfl rfl hd_X0_asRoom ⟨Nat.le_of_ble_eq_true rfl, Nat.le_of_ble_eq_true rfl⟩) ⟨bl_, fun U hU hW => ⟨rfl, by rw [hU], by rw [hU]; exact hPc, kk_mv hW hK, hDw⟩⟩ rfl rfl hl.1 rfl (lv_room (Nat.le_of_ble_eq_true rfl)) dB_36_0_21.2.2.1.1 ⟨Nat.le_of_ble_eq_true rfl, Nat.le_of_ble_eq_true rfl⟩) hS (fun q _ h => hFc q h) hFc (fun r_64 u t H locs ht hvm hw hB hz1 hk1 hS => ?_)
                  have hP : va_P D vwCl _ H := ro_keep hP hk1
                  have f0_r_64 := hw
                  have hv5_ : r_64.toInt = rmW (kF fk x2_3.toNatClampNeg) (wF fw a1.toInt x2_3.toNatClampNeg) 1 := by unfold rmW kF; (repeat' (first | with_reducible refine if_n (by omega) ?_ | with_reducible refine if_ns (by omega) ?_ | with_reducible refine if_nz (by omega) ?_ | with_reducible exact if_p (by omega) (by omega) | with_reducible exact if_ps (by omega) (by omega) | with_reducible exact if_pz (by omega) (by omega))) <;> omega
                  refine va_iast hx hb hK.1 hP hD hS 19 0 rfl rfl (i := x2_3) h_37 dB_36_0_21.2.2.1.2 (fun H locs hP hD hS => ?_)
                  obtain ⟨f_66, ef_66⟩ : ∃ g : Nat → Int32, g = upd c_c5_3 x2_3.toNatClampNeg r_64 := ⟨_, rfl⟩
                  refine pd_K (D := D) (cl := vwCl) (H := H) (A := A) [ob0_0_ xc xn xk clo cro c4 c5 c6 c7 c8, ob3_0_ xn vp vn n1 n2 n3 n4 n5, ai_ cy n1 40 fk, ai_ cy n2 40 fs, ai_ cy n3 40 fe, ai_ cy n4 40 fw, aq_ cy 6 clo 12 (gf_ rl), ai_ cy (rl 0) 12 (m_rl_3 0), ai_ cy (rl 1) 12 (m_rl_3 1), ai_ cy (rl 2) 12 (m_rl_3 2), ai_ cy (rl 3) 12 (m_rl_3 3), ai_ cy (rl 4) 12 (m_rl_3 4), ai_ cy (rl 5) 12 (m_rl_3 5), ai_ cy (rl 6) 12 (m_rl_3 6), ai_ cy (rl 7) 12 (m_rl_3 7), ai_ cy (rl 8) 12 (m_rl_3 8), ai_ cy (rl 9) 12 (m_rl_3 9), ai_ cy (rl 10) 12 (m_rl_3 10), ai_ cy (rl 11) 12 (m_rl_3 11), ai_ cy c5 40 f_66, ai_ cy c6 40 c_c6_3, aq_ cy 3 xk 5 (kf_ k0 k1 k2 k3 k4), ob6_0_ k0, ob5_0_ k1, ob9_0_ k2, ob2_0_ k3, ob8_0_ k4] (by rw [ef_66]; exact hP) (by rw [ef_66]; exact hD) (fun hP hD => ?_)
                  refine lv_aload_n hx hb dB_36_0_21.2.2.2.1 rfl (lv_at hl 3 rfl) ?_
                  refine va_get (ci := 0) (v := .ref c6) (C := RX0) (T := TX0) (N := 9) hx hb hts (fun _ h => List.mem_cons_of_mem _ (List.mem_append_left _ (List.mem_append_right _ h))) hown hK.1 hP 0 rfl rfl 6 (by decide) (hts (.fieldLink RX0 26 "CutAtlas$Current" "letsBack" "[I") (List.mem_of_getElem? (i := 9) rfl)) (fun _ h9 => h9) rfl dB_36_0_21.2.2.2.2 ?_
                  refine lv_iload_n hx hb dB_36_0_22.1.1.1.1 rfl (lv_at hl 2 rfl) ?_
                  refine lv_aload hx hb dB_36_0_22.1.1.1.2 (lv_at hl 0 rfl) ?_
                  refine lv_iload_n hx hb dB_36_0_22.1.1.2.1 rfl (lv_at hl 1 rfl) ?_
                  refine lv_iconst (v := 0) hx hb dB_36_0_22.1.1.2.2 (by decide) ?_
                  refine ct_R hP hD [] [] (by decide) rfl (fun hPc hDw => ?_)
                  have hFc := va_free (wc := []) hD hS hA [] rfl
                  refine va_calli (va_runU (As := [.int u0_10, .int 0]) (rest := [.int x2_3, .ref c6]) ⟨hx, hb, hml, hown, hts⟩ (c_X6_lets2 l D cy H.size k3 u0_10 (0 : Int32)) (va_cwU 2 hts gX0_load_X6_lets_u67X2 rfl rfl rfl rfl (by decide +kernel) ⟨Nat.le_of_ble_eq_true rfl, Nat.le_of_ble_eq_true rfl⟩) ⟨bl_, va_recvX hK.1 hP (ci := 2) (q0 := 25) rfl rfl, fun U hU hW => ⟨rfl, by rw [hU], by rw [hU]; exact hPc, kk_mv hW hK, hDw⟩⟩ rfl rfl hl.1 rfl (lv_room (Nat.le_of_ble_eq_true rfl)) dB_36_0_22.1.2.1.1 ⟨Nat.le_of_ble_eq_true rfl, Nat.le_of_ble_eq_true rfl⟩) hS (fun q _ h => hFc q h) hFc (fun r_67 u t H locs ht hvm hw hB hz1 hk1 hS => ?_)
                  have hP : va_P D vwCl _ H := ro_keep hP hk1
                  obtain ⟨f0_r_67, f1_r_67⟩ := hw
                  refine ct_R hP hD [] [] (by decide) rfl (fun hPc hDw => ?_)
                  have hFc := va_free (wc := []) hD hS hA [] rfl
                  refine va_calli (va_runS (As := [.int r_67]) (rest := [.int x2_3, .ref c6]) ⟨hx, hb, hml, hown, hts⟩ (c_X0_asRoom2 l D cy H.size r_67) (va_cwS 1 hts gX0_load_X0_asRoom rfl rfl rfl hd_X0_asRoom ⟨Nat.le_of_ble_eq_true rfl, Nat.le_of_ble_eq_true rfl⟩) ⟨bl_, fun U hU hW => ⟨rfl, by rw [hU], by rw [hU]; exact hPc, kk_mv hW hK, hDw⟩⟩ rfl rfl hl.1 rfl (lv_room (Nat.le_of_ble_eq_true rfl)) dB_36_0_22.1.2.1.2 ⟨Nat.le_of_ble_eq_true rfl, Nat.le_of_ble_eq_true rfl⟩) hS (fun q _ h => hFc q h) hFc (fun r_68 u t H locs ht hvm hw hB hz1 hk1 hS => ?_)
                  have hP : va_P D vwCl _ H := ro_keep hP hk1
                  have f0_r_68 := hw
                  have hv6_ : r_68.toInt = rmW (kF fk x2_3.toNatClampNeg) (wF fw a1.toInt x2_3.toNatClampNeg) 0 := by unfold rmW kF; (repeat' (first | with_reducible refine if_n (by omega) ?_ | with_reducible refine if_ns (by omega) ?_ | with_reducible refine if_nz (by omega) ?_ | with_reducible exact if_p (by omega) (by omega) | with_reducible exact if_ps (by omega) (by omega) | with_reducible exact if_pz (by omega) (by omega))) <;> omega
                  refine va_iast hx hb hK.1 hP hD hS 20 0 rfl rfl (i := x2_3) h_37 dB_36_0_22.1.2.2.1 (fun H locs hP hD hS => ?_)
                  obtain ⟨f_70, ef_70⟩ : ∃ g : Nat → Int32, g = upd c_c6_3 x2_3.toNatClampNeg r_68 := ⟨_, rfl⟩
                  refine pd_K (D := D) (cl := vwCl) (H := H) (A := A) [ob0_0_ xc xn xk clo cro c4 c5 c6 c7 c8, ob3_0_ xn vp vn n1 n2 n3 n4 n5, ai_ cy n1 40 fk, ai_ cy n2 40 fs, ai_ cy n3 40 fe, ai_ cy n4 40 fw, aq_ cy 6 clo 12 (gf_ rl), ai_ cy (rl 0) 12 (m_rl_3 0), ai_ cy (rl 1) 12 (m_rl_3 1), ai_ cy (rl 2) 12 (m_rl_3 2), ai_ cy (rl 3) 12 (m_rl_3 3), ai_ cy (rl 4) 12 (m_rl_3 4), ai_ cy (rl 5) 12 (m_rl_3 5), ai_ cy (rl 6) 12 (m_rl_3 6), ai_ cy (rl 7) 12 (m_rl_3 7), ai_ cy (rl 8) 12 (m_rl_3 8), ai_ cy (rl 9) 12 (m_rl_3 9), ai_ cy (rl 10) 12 (m_rl_3 10), ai_ cy (rl 11) 12 (m_rl_3 11), ai_ cy c5 40 f_66, ai_ cy c6 40 f_70, aq_ cy 3 xk 5 (kf_ k0 k1 k2 k3 k4), ob6_0_ k0, ob5_0_ k1, ob9_0_ k2, ob2_0_ k3, ob8_0_ k4] (by rw [ef_70]; exact hP) (by rw [ef_70]; exact hD) (fun hP hD => ?_)
                  exact JOIN_11 f_66 f_70 _ _ _ (ltF_st v3_3 ef_66 ef_70 hv5_ hv6_) ⟨hP, hD⟩ hS (lv_sub hl [2, 3, 4] rfl)
                · refine va_aldq hx hb hK.1 hP 21 3 rfl rfl (i := 4) (by unfold vp_in; decide) dB_36_0_21.1.1.2.2 ?_
                  refine lv_topv (v' := .ref k4) (by simp [va_up, va_rf, mf_, cl_0, cl_1, cl_2, cl_3, cl_4, kf_]) ?_
                  refine lv_astore (lv' := [(4, .ref k4), (3, .int u0_10), (2, .int x2_3), (0, .ref xc), (1, .int a1)]) hx hb dB_36_0_21.1.2.1.1 hl (by decide) rfl (fun ls hl => ?_)
                  refine lv_aload_n hx hb dB_36_0_21.1.2.1.2 rfl (lv_at hl 3 rfl) ?_
                  refine va_get (ci := 0) (v := .ref c5) (C := RX0) (T := TX0) (N := 9) hx hb hts (fun _ h => List.mem_cons_of_mem _ (List.mem_append_left _ (List.mem_append_right _ h))) hown hK.1 hP 0 rfl rfl 5 (by decide) (hts (.fieldLink RX0 23 "CutAtlas$Current" "letsForth" "[I") (List.mem_of_getElem? (i := 8) rfl)) (fun _ h9 => h9) rfl dB_36_0_21.1.2.2.1 ?_
                  refine lv_iload_n hx hb dB_36_0_21.1.2.2.2 rfl (lv_at hl 2 rfl) ?_
                  refine lv_aload hx hb dB_36_0_21.2.1.1.1 (lv_at hl 0 rfl) ?_
                  refine lv_iload_n hx hb dB_36_0_21.2.1.1.2 rfl (lv_at hl 1 rfl) ?_
                  refine lv_iconst (v := 1) hx hb dB_36_0_21.2.1.2.1 (by decide) ?_
                  refine ct_R hP hD [] [] (by decide) rfl (fun hPc hDw => ?_)
                  have hFc := va_free (wc := []) hD hS hA [] rfl
                  refine va_calli (va_runU (As := [.int u0_10, .int 1]) (rest := [.int x2_3, .ref c5]) ⟨hx, hb, hml, hown, hts⟩ (c_X6_lets2 l D cy H.size k4 u0_10 (1 : Int32)) (va_cwU 2 hts gX0_load_X6_lets_u67X8 rfl rfl rfl rfl (by decide +kernel) ⟨Nat.le_of_ble_eq_true rfl, Nat.le_of_ble_eq_true rfl⟩) ⟨bl_, va_recvX hK.1 hP (ci := 8) (q0 := 26) rfl rfl, fun U hU hW => ⟨rfl, by rw [hU], by rw [hU]; exact hPc, kk_mv hW hK, hDw⟩⟩ rfl rfl hl.1 rfl (lv_room (Nat.le_of_ble_eq_true rfl)) dB_36_0_21.2.1.2.2 ⟨Nat.le_of_ble_eq_true rfl, Nat.le_of_ble_eq_true rfl⟩) hS (fun q _ h => hFc q h) hFc (fun r_71 u t H locs ht hvm hw hB hz1 hk1 hS => ?_)
                  have hP : va_P D vwCl _ H := ro_keep hP hk1
                  obtain ⟨f0_r_71, f1_r_71⟩ := hw
                  refine ct_R hP hD [] [] (by decide) rfl (fun hPc hDw => ?_)
                  have hFc := va_free (wc := []) hD hS hA [] rfl
                  refine va_calli (va_runS (As := [.int r_71]) (rest := [.int x2_3, .ref c5]) ⟨hx, hb, hml, hown, hts⟩ (c_X0_asRoom2 l D cy H.size r_71) (va_cwS 1 hts gX0_load_X0_asRoom rfl rfl rfl hd_X0_asRoom ⟨Nat.le_of_ble_eq_true rfl, Nat.le_of_ble_eq_true rfl⟩) ⟨bl_, fun U hU hW => ⟨rfl, by rw [hU], by rw [hU]; exact hPc, kk_mv hW hK, hDw⟩⟩ rfl rfl hl.1 rfl (lv_room (Nat.le_of_ble_eq_true rfl)) dB_36_0_21.2.2.1.1 ⟨Nat.le_of_ble_eq_true rfl, Nat.le_of_ble_eq_true rfl⟩) hS (fun q _ h => hFc q h) hFc (fun r_72 u t H locs ht hvm hw hB hz1 hk1 hS => ?_)
                  have hP : va_P D vwCl _ H := ro_keep hP hk1
                  have f0_r_72 := hw
                  have hv5_ : r_72.toInt = rmW (kF fk x2_3.toNatClampNeg) (wF fw a1.toInt x2_3.toNatClampNeg) 1 := by unfold rmW kF; (repeat' (first | with_reducible refine if_n (by omega) ?_ | with_reducible refine if_ns (by omega) ?_ | with_reducible refine if_nz (by omega) ?_ | with_reducible exact if_p (by omega) (by omega) | with_reducible exact if_ps (by omega) (by omega) | with_reducible exact if_pz (by omega) (by omega))) <;> omega
                  refine va_iast hx hb hK.1 hP hD hS 19 0 rfl rfl (i := x2_3) h_37 dB_36_0_21.2.2.1.2 (fun H locs hP hD hS => ?_)
                  obtain ⟨f_74, ef_74⟩ : ∃ g : Nat → Int32, g = upd c_c5_3 x2_3.toNatClampNeg r_72 := ⟨_, rfl⟩
                  refine pd_K (D := D) (cl := vwCl) (H := H) (A := A) [ob0_0_ xc xn xk clo cro c4 c5 c6 c7 c8, ob3_0_ xn vp vn n1 n2 n3 n4 n5, ai_ cy n1 40 fk, ai_ cy n2 40 fs, ai_ cy n3 40 fe, ai_ cy n4 40 fw, aq_ cy 6 clo 12 (gf_ rl), ai_ cy (rl 0) 12 (m_rl_3 0), ai_ cy (rl 1) 12 (m_rl_3 1), ai_ cy (rl 2) 12 (m_rl_3 2), ai_ cy (rl 3) 12 (m_rl_3 3), ai_ cy (rl 4) 12 (m_rl_3 4), ai_ cy (rl 5) 12 (m_rl_3 5), ai_ cy (rl 6) 12 (m_rl_3 6), ai_ cy (rl 7) 12 (m_rl_3 7), ai_ cy (rl 8) 12 (m_rl_3 8), ai_ cy (rl 9) 12 (m_rl_3 9), ai_ cy (rl 10) 12 (m_rl_3 10), ai_ cy (rl 11) 12 (m_rl_3 11), ai_ cy c5 40 f_74, ai_ cy c6 40 c_c6_3, aq_ cy 3 xk 5 (kf_ k0 k1 k2 k3 k4), ob6_0_ k0, ob5_0_ k1, ob9_0_ k2, ob2_0_ k3, ob8_0_ k4] (by rw [ef_74]; exact hP) (by rw [ef_74]; exact hD) (fun hP hD => ?_)
                  refine lv_aload_n hx hb dB_36_0_21.2.2.2.1 rfl (lv_at hl 3 rfl) ?_
                  refine va_get (ci := 0) (v := .ref c6) (C := RX0) (T := TX0) (N := 9) hx hb hts (fun _ h => List.mem_cons_of_mem _ (List.mem_append_left _ (List.mem_append_right _ h))) hown hK.1 hP 0 rfl rfl 6 (by decide) (hts (.fieldLink RX0 26 "CutAtlas$Current" "letsBack" "[I") (List.mem_of_getElem? (i := 9) rfl)) (fun _ h9 => h9) rfl dB_36_0_21.2.2.2.2 ?_
                  refine lv_iload_n hx hb dB_36_0_22.1.1.1.1 rfl (lv_at hl 2 rfl) ?_
                  refine lv_aload hx hb dB_36_0_22.1.1.1.2 (lv_at hl 0 rfl) ?_
                  refine lv_iload_n hx hb dB_36_0_22.1.1.2.1 rfl (lv_at hl 1 rfl) ?_
                  refine lv_iconst (v := 0) hx hb dB_36_0_22.1.1.2.2 (by decide) ?_
                  refine ct_R hP hD [] [] (by decide) rfl (fun hPc hDw => ?_)
                  have hFc := va_free (wc := []) hD hS hA [] rfl
                  refine va_calli (va_runU (As := [.int u0_10, .int 0]) (rest := [.int x2_3, .ref c6]) ⟨hx, hb, hml, hown, hts⟩ (c_X6_lets2 l D cy H.size k4 u0_10 (0 : Int32)) (va_cwU 2 hts gX0_load_X6_lets_u67X8 rfl rfl rfl rfl (by decide +kernel) ⟨Nat.le_of_ble_eq_true rfl, Nat.le_of_ble_eq_true rfl⟩) ⟨bl_, va_recvX hK.1 hP (ci := 8) (q0 := 26) rfl rfl, fun U hU hW => ⟨rfl, by rw [hU], by rw [hU]; exact hPc, kk_mv hW hK, hDw⟩⟩ rfl rfl hl.1 rfl (lv_room (Nat.le_of_ble_eq_true rfl)) dB_36_0_22.1.2.1.1 ⟨Nat.le_of_ble_eq_true rfl, Nat.le_of_ble_eq_true rfl⟩) hS (fun q _ h => hFc q h) hFc (fun r_75 u t H locs ht hvm hw hB hz1 hk1 hS => ?_)
                  have hP : va_P D vwCl _ H := ro_keep hP hk1
                  obtain ⟨f0_r_75, f1_r_75⟩ := hw
                  refine ct_R hP hD [] [] (by decide) rfl (fun hPc hDw => ?_)
                  have hFc := va_free (wc := []) hD hS hA [] rfl
                  refine va_calli (va_runS (As := [.int r_75]) (rest := [.int x2_3, .ref c6]) ⟨hx, hb, hml, hown, hts⟩ (c_X0_asRoom2 l D cy H.size r_75) (va_cwS 1 hts gX0_load_X0_asRoom rfl rfl rfl hd_X0_asRoom ⟨Nat.le_of_ble_eq_true rfl, Nat.le_of_ble_eq_true rfl⟩) ⟨bl_, fun U hU hW => ⟨rfl, by rw [hU], by rw [hU]; exact hPc, kk_mv hW hK, hDw⟩⟩ rfl rfl hl.1 rfl (lv_room (Nat.le_of_ble_eq_true rfl)) dB_36_0_22.1.2.1.2 ⟨Nat.le_of_ble_eq_true rfl, Nat.le_of_ble_eq_true rfl⟩) hS (fun q _ h => hFc q h) hFc (fun r_76 u t H locs ht hvm hw hB hz1 hk1 hS => ?_)
                  have hP : va_P D vwCl _ H := ro_keep hP hk1
                  have f0_r_76 := hw
                  have hv6_ : r_76.toInt = rmW (kF fk x2_3.toNatClampNeg) (wF fw a1.toInt x2_3.toNatClampNeg) 0 := by unfold rmW kF; (repeat' (first | with_reducible refine if_n (by omega) ?_ | with_reducible refine if_ns (by omega) ?_ | with_reducible refine if_nz (by omega) ?_ | with_reducible exact if_p (by omega) (by omega) | with_reducible exact if_ps (by omega) (by omega) | with_reducible exact if_pz (by omega) (by omega))) <;> omega
                  refine va_iast hx hb hK.1 hP hD hS 20 0 rfl rfl (i := x2_3) h_37 dB_36_0_22.1.2.2.1 (fun H locs hP hD hS => ?_)
                  obtain ⟨f_78, ef_78⟩ : ∃ g : Nat → Int32, g = upd c_c6_3 x2_3.toNatClampNeg r_76 := ⟨_, rfl⟩
                  refine pd_K (D := D) (cl := vwCl) (H := H) (A := A) [ob0_0_ xc xn xk clo cro c4 c5 c6 c7 c8, ob3_0_ xn vp vn n1 n2 n3 n4 n5, ai_ cy n1 40 fk, ai_ cy n2 40 fs, ai_ cy n3 40 fe, ai_ cy n4 40 fw, aq_ cy 6 clo 12 (gf_ rl), ai_ cy (rl 0) 12 (m_rl_3 0), ai_ cy (rl 1) 12 (m_rl_3 1), ai_ cy (rl 2) 12 (m_rl_3 2), ai_ cy (rl 3) 12 (m_rl_3 3), ai_ cy (rl 4) 12 (m_rl_3 4), ai_ cy (rl 5) 12 (m_rl_3 5), ai_ cy (rl 6) 12 (m_rl_3 6), ai_ cy (rl 7) 12 (m_rl_3 7), ai_ cy (rl 8) 12 (m_rl_3 8), ai_ cy (rl 9) 12 (m_rl_3 9), ai_ cy (rl 10) 12 (m_rl_3 10), ai_ cy (rl 11) 12 (m_rl_3 11), ai_ cy c5 40 f_74, ai_ cy c6 40 f_78, aq_ cy 3 xk 5 (kf_ k0 k1 k2 k3 k4), ob6_0_ k0, ob5_0_ k1, ob9_0_ k2, ob2_0_ k3, ob8_0_ k4] (by rw [ef_78]; exact hP) (by rw [ef_78]; exact hD) (fun hP hD => ?_)
                  exact JOIN_11 f_74 f_78 _ _ _ (ltF_st v3_3 ef_74 ef_78 hv5_ hv6_) ⟨hP, hD⟩ hS (lv_sub hl [2, 3, 4] rfl)
              refine lv_iload_n hx hb dB_36_0_19.2.1.2.2 rfl (lv_at hl 0 rfl) ?_
              refine lv_iload_n hx hb dB_36_0_19.2.2.1.1 rfl (lv_at hl 2 rfl) ?_
              refine lv_icmp_ne (tgt := 72) hx hb dB_36_0_19.2.2.1.2 (by decide) (fun c_79 => ?_) (fun c_79 => ?_)
              · have t_79 : ¬ x2_3.toInt = a1.toInt := fun h => c_79 (Int32.toInt_inj.mp h)
                refine lv_aload_n hx hb dB_36_0_20.1.2.2.1 rfl (lv_at hl 1 rfl) ?_
                refine va_get (ci := 0) (v := .ref xn) (C := RX0) (T := TX0) (N := 9) hx hb hts (fun _ h => List.mem_cons_of_mem _ (List.mem_append_left _ (List.mem_append_right _ h))) hown hK.1 hP 0 rfl rfl 0 (by decide) (hts (.fieldLink RX0 35 "CutAtlas$Current" "net" "LCutAtlas$Net;") (List.mem_of_getElem? (i := 1) rfl)) (fun _ h9 => h9) rfl dB_36_0_20.1.2.2.2 ?_
                refine va_get (ci := 3) (v := .ref n4) (C := RX3) (T := TX3) (N := 7) hx hb hts (fun _ h => List.mem_cons_of_mem _ (List.mem_append_right _ h)) hown hK.1 hP 1 rfl rfl 5 (by decide) (hts (.fieldLink RX0 62 "CutAtlas$Net" "widths" "[I") (List.mem_of_getElem? (i := 5) rfl)) (fun _ h9 => h9) rfl dB_36_0_20.2.1.1.1 ?_
                refine lv_iload_n hx hb dB_36_0_20.2.1.1.2 rfl (lv_at hl 0 rfl) ?_
                have h_80 : vp_in x2_3 40 := in_I (by first | with_reducible assumption | omega) (by omega)
                refine va_iald hx hb hK.1 hP 5 0 rfl rfl (i := x2_3) h_80 dB_36_0_20.2.1.2.1 ?_
                refine lv_topi (fun y_81 ey_81 => ?_)
                have ky_81 : y_81.toInt = (fw x2_3.toNatClampNeg).toInt := by rw [ey_81]
                have ry_81 : 0 ≤ y_81.toInt ∧ y_81.toInt ≤ 2000 := by rw [ey_81]; exact r_fw _ (in_lt h_80)
                exact JOIN_10 y_81 _ _ _ (by unfold wF; first | (rw [if_pos (by omega)]; omega) | (rw [if_neg (by omega)]; omega)) ⟨hP, hD⟩ hS (lv_sub hl [0, 1, 2] rfl)
              · have t_79 : x2_3.toInt = a1.toInt := congrArg Int32.toInt c_79
                refine lv_aload_n hx hb dB_36_0_19.2.2.2.1 rfl (lv_at hl 1 rfl) ?_
                refine va_get (ci := 0) (v := .ref xn) (C := RX0) (T := TX0) (N := 9) hx hb hts (fun _ h => List.mem_cons_of_mem _ (List.mem_append_left _ (List.mem_append_right _ h))) hown hK.1 hP 0 rfl rfl 0 (by decide) (hts (.fieldLink RX0 35 "CutAtlas$Current" "net" "LCutAtlas$Net;") (List.mem_of_getElem? (i := 1) rfl)) (fun _ h9 => h9) rfl dB_36_0_19.2.2.2.2 ?_
                refine va_get (ci := 3) (v := .ref n4) (C := RX3) (T := TX3) (N := 7) hx hb hts (fun _ h => List.mem_cons_of_mem _ (List.mem_append_right _ h)) hown hK.1 hP 1 rfl rfl 5 (by decide) (hts (.fieldLink RX0 62 "CutAtlas$Net" "widths" "[I") (List.mem_of_getElem? (i := 5) rfl)) (fun _ h9 => h9) rfl dB_36_0_20.1.1.1.1 ?_
                refine lv_iload_n hx hb dB_36_0_20.1.1.1.2 rfl (lv_at hl 0 rfl) ?_
                have h_82 : vp_in x2_3 40 := in_I (by first | with_reducible assumption | omega) (by omega)
                refine va_iald hx hb hK.1 hP 5 0 rfl rfl (i := x2_3) h_82 dB_36_0_20.1.1.2.1 ?_
                refine lv_topi (fun y_83 ey_83 => ?_)
                have ky_83 : y_83.toInt = (fw x2_3.toNatClampNeg).toInt := by rw [ey_83]
                have ry_83 : 0 ≤ y_83.toInt ∧ y_83.toInt ≤ 2000 := by rw [ey_83]; exact r_fw _ (in_lt h_82)
                refine lv_iconst (v := 1) hx hb dB_36_0_20.1.1.2.2 (by decide) ?_
                refine lv_iadd hx hb dB_36_0_20.1.2.1.1 ?_
                refine lv_topi (fun y_84 ey_84 => ?_)
                have ty_84 : y_84.toInt = y_83.toInt + (1 : Int32).toInt := by rw [ey_84]; exact addI (by omega) (by omega)
                refine lv_goto (tgt := 81) hx hb dB_36_0_20.1.2.1.2 (by decide) ?_
                exact JOIN_10 y_84 _ _ _ (by unfold wF; first | (rw [if_pos (by omega)]; omega) | (rw [if_neg (by omega)]; omega)) ⟨hP, hD⟩ hS (lv_sub hl [0, 1, 2] rfl)
    · have t_2 : ¬ vp.toInt ≤ x2_1.toInt := fun h => c_2 (Int32.le_iff_toInt_le.mpr h)
      rcases sp_12 (x := x2_1) (by omega) with rfl | rfl | rfl | rfl | rfl | rfl | rfl | rfl | rfl | rfl | rfl | rfl
      · refine lv_aload_n hx hb dB_36_0_18.1.2.2.2 rfl (lv_at hl 1 rfl) ?_
        refine va_get (ci := 0) (v := .ref clo) (C := RX0) (T := TX0) (N := 9) hx hb hts (fun _ h => List.mem_cons_of_mem _ (List.mem_append_left _ (List.mem_append_right _ h))) hown hK.1 hP 0 rfl rfl 2 (by decide) (hts (.fieldLink RX0 11 "CutAtlas$Current" "lets" "[[I") (List.mem_of_getElem? (i := 3) rfl)) (fun _ h9 => h9) rfl dB_36_0_18.2.1.1.1 ?_
        refine lv_iload_n hx hb dB_36_0_18.2.1.1.2 rfl (lv_at hl 0 rfl) ?_
        have h_85 : vp_in (0 : Int32) 12 := by unfold vp_in; decide
        refine va_alda hx hb hG hP 6 rfl (i := 0) h_85 dB_36_0_18.2.1.2.1 ?_
        refine lv_topv (v' := .ref (rl 0)) (gf_at h_85) ?_
        refine lv_iconst (v := 0) hx hb dB_36_0_18.2.1.2.2 (by decide) ?_
        refine ct_S hP hD hS hA [ai_ cy (rl 0) 12 (m_rl_1 0)] [7] (by decide) rfl (fun hPc hDw hFc hC_ => ?_)
        refine va_callv (va_runS (As := [.ref (rl 0), .int 0]) (rest := []) ⟨hx, hb, hml, hown, hts⟩ (c_J7_fill_53178 l D cy H.size (rl 0) 12 (0 : Int32) (m_rl_1 0) (by first | with_reducible assumption | assumption | omega)) (va_cwS 2 hts gX0_load_J7_fill_53178 rfl rfl rfl hd_J7_fill_53178 ⟨Nat.le_of_ble_eq_true rfl, Nat.le_of_ble_eq_true rfl⟩) ⟨bl_, fun U hU hW => ⟨rfl, by rw [hU], by rw [hU]; exact hPc, kk_mv hW hK, hDw⟩⟩ rfl rfl hl.1 rfl (lv_room (Nat.le_of_ble_eq_true rfl)) dB_36_0_18.2.2.1.1 ⟨Nat.le_of_ble_eq_true rfl, Nat.le_of_ble_eq_true rfl⟩) hS (fun q _ h => hFc q h) hFc (fun u t H locs ht hvm hw hB hz1 hk1 hS => ?_)
        obtain ⟨e1_87, g_88, hP1, hD1⟩ := hB
        rw [ht] at hP1
        obtain ⟨hP, hD⟩ := va_join (wr := [ob0_0_ xc xn xk clo cro c4 c5 c6 c7 c8, ob3_0_ xn vp vn n1 n2 n3 n4 n5, ai_ cy n1 40 fk, ai_ cy n2 40 fs, ai_ cy n3 40 fe, ai_ cy n4 40 fw, aq_ cy 6 clo 12 (gf_ rl), ai_ cy (rl 1) 12 (m_rl_1 1), ai_ cy (rl 2) 12 (m_rl_1 2), ai_ cy (rl 3) 12 (m_rl_1 3), ai_ cy (rl 4) 12 (m_rl_1 4), ai_ cy (rl 5) 12 (m_rl_1 5), ai_ cy (rl 6) 12 (m_rl_1 6), ai_ cy (rl 7) 12 (m_rl_1 7), ai_ cy (rl 8) 12 (m_rl_1 8), ai_ cy (rl 9) 12 (m_rl_1 9), ai_ cy (rl 10) 12 (m_rl_1 10), ai_ cy (rl 11) 12 (m_rl_1 11), ai_ cy c5 40 f5, ai_ cy c6 40 f6, aq_ cy 3 xk 5 (kf_ k0 k1 k2 k3 k4), ob6_0_ k0, ob5_0_ k1, ob9_0_ k2, ob2_0_ k3, ob8_0_ k4]) (w1 := [ai_ cy (rl 0) 12 e1_87]) hP hD [7] [0, 1, 2, 3, 4, 5, 6, 8, 9, 10, 11, 12, 13, 14, 15, 16, 17, 18, 19, 20, 21, 22, 23, 24, 25, 26] hC_ rfl (by decide +kernel) (by decide +kernel) hk1 hFc hP1 hD1
        refine pd_S hP hD [ob0_0_ xc xn xk clo cro c4 c5 c6 c7 c8, ob3_0_ xn vp vn n1 n2 n3 n4 n5, ai_ cy n1 40 fk, ai_ cy n2 40 fs, ai_ cy n3 40 fe, ai_ cy n4 40 fw, aq_ cy 6 clo 12 (gf_ rl), ai_ cy (rl 0) 12 e1_87, ai_ cy (rl 1) 12 (m_rl_1 1), ai_ cy (rl 2) 12 (m_rl_1 2), ai_ cy (rl 3) 12 (m_rl_1 3), ai_ cy (rl 4) 12 (m_rl_1 4), ai_ cy (rl 5) 12 (m_rl_1 5), ai_ cy (rl 6) 12 (m_rl_1 6), ai_ cy (rl 7) 12 (m_rl_1 7), ai_ cy (rl 8) 12 (m_rl_1 8), ai_ cy (rl 9) 12 (m_rl_1 9), ai_ cy (rl 10) 12 (m_rl_1 10), ai_ cy (rl 11) 12 (m_rl_1 11), ai_ cy c5 40 f5, ai_ cy c6 40 f6, aq_ cy 3 xk 5 (kf_ k0 k1 k2 k3 k4), ob6_0_ k0, ob5_0_ k1, ob9_0_ k2, ob2_0_ k3, ob8_0_ k4] [0, 1, 2, 3, 4, 5, 6, 26, 7, 8, 9, 10, 11, 12, 13, 14, 15, 16, 17, 18, 19, 20, 21, 22, 23, 24, 25] (by decide +kernel) rfl (fun hP hD => ?_)
        have hfl_ := g_88
        obtain ⟨M_89, eM_89⟩ : ∃ g : Nat → Nat → Int32, g = va_up m_rl_1 0 e1_87 := ⟨_, rfl⟩
        refine pd_K (D := D) (cl := vwCl) (H := H) (A := A) [ob0_0_ xc xn xk clo cro c4 c5 c6 c7 c8, ob3_0_ xn vp vn n1 n2 n3 n4 n5, ai_ cy n1 40 fk, ai_ cy n2 40 fs, ai_ cy n3 40 fe, ai_ cy n4 40 fw, aq_ cy 6 clo 12 (gf_ rl), ai_ cy (rl 0) 12 (M_89 0), ai_ cy (rl 1) 12 (M_89 1), ai_ cy (rl 2) 12 (M_89 2), ai_ cy (rl 3) 12 (M_89 3), ai_ cy (rl 4) 12 (M_89 4), ai_ cy (rl 5) 12 (M_89 5), ai_ cy (rl 6) 12 (M_89 6), ai_ cy (rl 7) 12 (M_89 7), ai_ cy (rl 8) 12 (M_89 8), ai_ cy (rl 9) 12 (M_89 9), ai_ cy (rl 10) 12 (M_89 10), ai_ cy (rl 11) 12 (M_89 11), ai_ cy c5 40 f5, ai_ cy c6 40 f6, aq_ cy 3 xk 5 (kf_ k0 k1 k2 k3 k4), ob6_0_ k0, ob5_0_ k1, ob9_0_ k2, ob2_0_ k3, ob8_0_ k4] (by rw [eM_89]; exact hP) (by rw [eM_89]; exact hD) (fun hP hD => ?_)
        obtain ⟨y_90, ey_90⟩ : ∃ y : Int32, y = (0 : Int32) + 1 := ⟨_, rfl⟩
        have ty_90 : y_90.toInt = (0 : Int32).toInt + (1 : Int32).toInt := by rw [ey_90]; exact addI (by omega) (by omega)
        refine lv_iinc (v := y_90) (lv' := [(2, .int y_90), (0, .ref xc), (1, .int a1)]) hx hb dB_36_0_18.2.2.1.2 hl (k := 0) rfl (by rw [ey_90]; rfl) (by decide) rfl (fun ls hl => ?_)
        refine lv_goto (tgt := 2) hx hb dB_36_0_18.2.2.2.1 (by decide) ?_
        exact ih_1 y_90 M_89 _ _ _ (by omega) (by first | with_reducible assumption | omega | assumption) (by first | with_reducible assumption | omega | assumption) (by first | exact zr_st eM_89 v2_1 hfl_ (by decide) (by omega) | (intro x y hx; omega)) ⟨hP, hD⟩ hS (lv_sub hl [0, 1, 2] rfl)
      · refine lv_aload_n hx hb dB_36_0_18.1.2.2.2 rfl (lv_at hl 1 rfl) ?_
        refine va_get (ci := 0) (v := .ref clo) (C := RX0) (T := TX0) (N := 9) hx hb hts (fun _ h => List.mem_cons_of_mem _ (List.mem_append_left _ (List.mem_append_right _ h))) hown hK.1 hP 0 rfl rfl 2 (by decide) (hts (.fieldLink RX0 11 "CutAtlas$Current" "lets" "[[I") (List.mem_of_getElem? (i := 3) rfl)) (fun _ h9 => h9) rfl dB_36_0_18.2.1.1.1 ?_
        refine lv_iload_n hx hb dB_36_0_18.2.1.1.2 rfl (lv_at hl 0 rfl) ?_
        have h_91 : vp_in (1 : Int32) 12 := by unfold vp_in; decide
        refine va_alda hx hb hG hP 6 rfl (i := 1) h_91 dB_36_0_18.2.1.2.1 ?_
        refine lv_topv (v' := .ref (rl 1)) (gf_at h_91) ?_
        refine lv_iconst (v := 0) hx hb dB_36_0_18.2.1.2.2 (by decide) ?_
        refine ct_S hP hD hS hA [ai_ cy (rl 1) 12 (m_rl_1 1)] [8] (by decide) rfl (fun hPc hDw hFc hC_ => ?_)
        refine va_callv (va_runS (As := [.ref (rl 1), .int 0]) (rest := []) ⟨hx, hb, hml, hown, hts⟩ (c_J7_fill_53178 l D cy H.size (rl 1) 12 (0 : Int32) (m_rl_1 1) (by first | with_reducible assumption | assumption | omega)) (va_cwS 2 hts gX0_load_J7_fill_53178 rfl rfl rfl hd_J7_fill_53178 ⟨Nat.le_of_ble_eq_true rfl, Nat.le_of_ble_eq_true rfl⟩) ⟨bl_, fun U hU hW => ⟨rfl, by rw [hU], by rw [hU]; exact hPc, kk_mv hW hK, hDw⟩⟩ rfl rfl hl.1 rfl (lv_room (Nat.le_of_ble_eq_true rfl)) dB_36_0_18.2.2.1.1 ⟨Nat.le_of_ble_eq_true rfl, Nat.le_of_ble_eq_true rfl⟩) hS (fun q _ h => hFc q h) hFc (fun u t H locs ht hvm hw hB hz1 hk1 hS => ?_)
        obtain ⟨e1_93, g_94, hP1, hD1⟩ := hB
        rw [ht] at hP1
        obtain ⟨hP, hD⟩ := va_join (wr := [ob0_0_ xc xn xk clo cro c4 c5 c6 c7 c8, ob3_0_ xn vp vn n1 n2 n3 n4 n5, ai_ cy n1 40 fk, ai_ cy n2 40 fs, ai_ cy n3 40 fe, ai_ cy n4 40 fw, aq_ cy 6 clo 12 (gf_ rl), ai_ cy (rl 0) 12 (m_rl_1 0), ai_ cy (rl 2) 12 (m_rl_1 2), ai_ cy (rl 3) 12 (m_rl_1 3), ai_ cy (rl 4) 12 (m_rl_1 4), ai_ cy (rl 5) 12 (m_rl_1 5), ai_ cy (rl 6) 12 (m_rl_1 6), ai_ cy (rl 7) 12 (m_rl_1 7), ai_ cy (rl 8) 12 (m_rl_1 8), ai_ cy (rl 9) 12 (m_rl_1 9), ai_ cy (rl 10) 12 (m_rl_1 10), ai_ cy (rl 11) 12 (m_rl_1 11), ai_ cy c5 40 f5, ai_ cy c6 40 f6, aq_ cy 3 xk 5 (kf_ k0 k1 k2 k3 k4), ob6_0_ k0, ob5_0_ k1, ob9_0_ k2, ob2_0_ k3, ob8_0_ k4]) (w1 := [ai_ cy (rl 1) 12 e1_93]) hP hD [8] [0, 1, 2, 3, 4, 5, 6, 7, 9, 10, 11, 12, 13, 14, 15, 16, 17, 18, 19, 20, 21, 22, 23, 24, 25, 26] hC_ rfl (by decide +kernel) (by decide +kernel) hk1 hFc hP1 hD1
        refine pd_S hP hD [ob0_0_ xc xn xk clo cro c4 c5 c6 c7 c8, ob3_0_ xn vp vn n1 n2 n3 n4 n5, ai_ cy n1 40 fk, ai_ cy n2 40 fs, ai_ cy n3 40 fe, ai_ cy n4 40 fw, aq_ cy 6 clo 12 (gf_ rl), ai_ cy (rl 0) 12 (m_rl_1 0), ai_ cy (rl 1) 12 e1_93, ai_ cy (rl 2) 12 (m_rl_1 2), ai_ cy (rl 3) 12 (m_rl_1 3), ai_ cy (rl 4) 12 (m_rl_1 4), ai_ cy (rl 5) 12 (m_rl_1 5), ai_ cy (rl 6) 12 (m_rl_1 6), ai_ cy (rl 7) 12 (m_rl_1 7), ai_ cy (rl 8) 12 (m_rl_1 8), ai_ cy (rl 9) 12 (m_rl_1 9), ai_ cy (rl 10) 12 (m_rl_1 10), ai_ cy (rl 11) 12 (m_rl_1 11), ai_ cy c5 40 f5, ai_ cy c6 40 f6, aq_ cy 3 xk 5 (kf_ k0 k1 k2 k3 k4), ob6_0_ k0, ob5_0_ k1, ob9_0_ k2, ob2_0_ k3, ob8_0_ k4] [0, 1, 2, 3, 4, 5, 6, 7, 26, 8, 9, 10, 11, 12, 13, 14, 15, 16, 17, 18, 19, 20, 21, 22, 23, 24, 25] (by decide +kernel) rfl (fun hP hD => ?_)
        have hfl_ := g_94
        obtain ⟨M_95, eM_95⟩ : ∃ g : Nat → Nat → Int32, g = va_up m_rl_1 1 e1_93 := ⟨_, rfl⟩
        refine pd_K (D := D) (cl := vwCl) (H := H) (A := A) [ob0_0_ xc xn xk clo cro c4 c5 c6 c7 c8, ob3_0_ xn vp vn n1 n2 n3 n4 n5, ai_ cy n1 40 fk, ai_ cy n2 40 fs, ai_ cy n3 40 fe, ai_ cy n4 40 fw, aq_ cy 6 clo 12 (gf_ rl), ai_ cy (rl 0) 12 (M_95 0), ai_ cy (rl 1) 12 (M_95 1), ai_ cy (rl 2) 12 (M_95 2), ai_ cy (rl 3) 12 (M_95 3), ai_ cy (rl 4) 12 (M_95 4), ai_ cy (rl 5) 12 (M_95 5), ai_ cy (rl 6) 12 (M_95 6), ai_ cy (rl 7) 12 (M_95 7), ai_ cy (rl 8) 12 (M_95 8), ai_ cy (rl 9) 12 (M_95 9), ai_ cy (rl 10) 12 (M_95 10), ai_ cy (rl 11) 12 (M_95 11), ai_ cy c5 40 f5, ai_ cy c6 40 f6, aq_ cy 3 xk 5 (kf_ k0 k1 k2 k3 k4), ob6_0_ k0, ob5_0_ k1, ob9_0_ k2, ob2_0_ k3, ob8_0_ k4] (by rw [eM_95]; exact hP) (by rw [eM_95]; exact hD) (fun hP hD => ?_)
        obtain ⟨y_96, ey_96⟩ : ∃ y : Int32, y = (1 : Int32) + 1 := ⟨_, rfl⟩
        have ty_96 : y_96.toInt = (1 : Int32).toInt + (1 : Int32).toInt := by rw [ey_96]; exact addI (by omega) (by omega)
        refine lv_iinc (v := y_96) (lv' := [(2, .int y_96), (0, .ref xc), (1, .int a1)]) hx hb dB_36_0_18.2.2.1.2 hl (k := 0) rfl (by rw [ey_96]; rfl) (by decide) rfl (fun ls hl => ?_)
        refine lv_goto (tgt := 2) hx hb dB_36_0_18.2.2.2.1 (by decide) ?_
        exact ih_1 y_96 M_95 _ _ _ (by omega) (by first | with_reducible assumption | omega | assumption) (by first | with_reducible assumption | omega | assumption) (by first | exact zr_st eM_95 v2_1 hfl_ (by decide) (by omega) | (intro x y hx; omega)) ⟨hP, hD⟩ hS (lv_sub hl [0, 1, 2] rfl)
      · refine lv_aload_n hx hb dB_36_0_18.1.2.2.2 rfl (lv_at hl 1 rfl) ?_
        refine va_get (ci := 0) (v := .ref clo) (C := RX0) (T := TX0) (N := 9) hx hb hts (fun _ h => List.mem_cons_of_mem _ (List.mem_append_left _ (List.mem_append_right _ h))) hown hK.1 hP 0 rfl rfl 2 (by decide) (hts (.fieldLink RX0 11 "CutAtlas$Current" "lets" "[[I") (List.mem_of_getElem? (i := 3) rfl)) (fun _ h9 => h9) rfl dB_36_0_18.2.1.1.1 ?_
        refine lv_iload_n hx hb dB_36_0_18.2.1.1.2 rfl (lv_at hl 0 rfl) ?_
        have h_97 : vp_in (2 : Int32) 12 := by unfold vp_in; decide
        refine va_alda hx hb hG hP 6 rfl (i := 2) h_97 dB_36_0_18.2.1.2.1 ?_
        refine lv_topv (v' := .ref (rl 2)) (gf_at h_97) ?_
        refine lv_iconst (v := 0) hx hb dB_36_0_18.2.1.2.2 (by decide) ?_
        refine ct_S hP hD hS hA [ai_ cy (rl 2) 12 (m_rl_1 2)] [9] (by decide) rfl (fun hPc hDw hFc hC_ => ?_)
        refine va_callv (va_runS (As := [.ref (rl 2), .int 0]) (rest := []) ⟨hx, hb, hml, hown, hts⟩ (c_J7_fill_53178 l D cy H.size (rl 2) 12 (0 : Int32) (m_rl_1 2) (by first | with_reducible assumption | assumption | omega)) (va_cwS 2 hts gX0_load_J7_fill_53178 rfl rfl rfl hd_J7_fill_53178 ⟨Nat.le_of_ble_eq_true rfl, Nat.le_of_ble_eq_true rfl⟩) ⟨bl_, fun U hU hW => ⟨rfl, by rw [hU], by rw [hU]; exact hPc, kk_mv hW hK, hDw⟩⟩ rfl rfl hl.1 rfl (lv_room (Nat.le_of_ble_eq_true rfl)) dB_36_0_18.2.2.1.1 ⟨Nat.le_of_ble_eq_true rfl, Nat.le_of_ble_eq_true rfl⟩) hS (fun q _ h => hFc q h) hFc (fun u t H locs ht hvm hw hB hz1 hk1 hS => ?_)
        obtain ⟨e1_99, g_100, hP1, hD1⟩ := hB
        rw [ht] at hP1
        obtain ⟨hP, hD⟩ := va_join (wr := [ob0_0_ xc xn xk clo cro c4 c5 c6 c7 c8, ob3_0_ xn vp vn n1 n2 n3 n4 n5, ai_ cy n1 40 fk, ai_ cy n2 40 fs, ai_ cy n3 40 fe, ai_ cy n4 40 fw, aq_ cy 6 clo 12 (gf_ rl), ai_ cy (rl 0) 12 (m_rl_1 0), ai_ cy (rl 1) 12 (m_rl_1 1), ai_ cy (rl 3) 12 (m_rl_1 3), ai_ cy (rl 4) 12 (m_rl_1 4), ai_ cy (rl 5) 12 (m_rl_1 5), ai_ cy (rl 6) 12 (m_rl_1 6), ai_ cy (rl 7) 12 (m_rl_1 7), ai_ cy (rl 8) 12 (m_rl_1 8), ai_ cy (rl 9) 12 (m_rl_1 9), ai_ cy (rl 10) 12 (m_rl_1 10), ai_ cy (rl 11) 12 (m_rl_1 11), ai_ cy c5 40 f5, ai_ cy c6 40 f6, aq_ cy 3 xk 5 (kf_ k0 k1 k2 k3 k4), ob6_0_ k0, ob5_0_ k1, ob9_0_ k2, ob2_0_ k3, ob8_0_ k4]) (w1 := [ai_ cy (rl 2) 12 e1_99]) hP hD [9] [0, 1, 2, 3, 4, 5, 6, 7, 8, 10, 11, 12, 13, 14, 15, 16, 17, 18, 19, 20, 21, 22, 23, 24, 25, 26] hC_ rfl (by decide +kernel) (by decide +kernel) hk1 hFc hP1 hD1
        refine pd_S hP hD [ob0_0_ xc xn xk clo cro c4 c5 c6 c7 c8, ob3_0_ xn vp vn n1 n2 n3 n4 n5, ai_ cy n1 40 fk, ai_ cy n2 40 fs, ai_ cy n3 40 fe, ai_ cy n4 40 fw, aq_ cy 6 clo 12 (gf_ rl), ai_ cy (rl 0) 12 (m_rl_1 0), ai_ cy (rl 1) 12 (m_rl_1 1), ai_ cy (rl 2) 12 e1_99, ai_ cy (rl 3) 12 (m_rl_1 3), ai_ cy (rl 4) 12 (m_rl_1 4), ai_ cy (rl 5) 12 (m_rl_1 5), ai_ cy (rl 6) 12 (m_rl_1 6), ai_ cy (rl 7) 12 (m_rl_1 7), ai_ cy (rl 8) 12 (m_rl_1 8), ai_ cy (rl 9) 12 (m_rl_1 9), ai_ cy (rl 10) 12 (m_rl_1 10), ai_ cy (rl 11) 12 (m_rl_1 11), ai_ cy c5 40 f5, ai_ cy c6 40 f6, aq_ cy 3 xk 5 (kf_ k0 k1 k2 k3 k4), ob6_0_ k0, ob5_0_ k1, ob9_0_ k2, ob2_0_ k3, ob8_0_ k4] [0, 1, 2, 3, 4, 5, 6, 7, 8, 26, 9, 10, 11, 12, 13, 14, 15, 16, 17, 18, 19, 20, 21, 22, 23, 24, 25] (by decide +kernel) rfl (fun hP hD => ?_)
        have hfl_ := g_100
        obtain ⟨M_101, eM_101⟩ : ∃ g : Nat → Nat → Int32, g = va_up m_rl_1 2 e1_99 := ⟨_, rfl⟩
        refine pd_K (D := D) (cl := vwCl) (H := H) (A := A) [ob0_0_ xc xn xk clo cro c4 c5 c6 c7 c8, ob3_0_ xn vp vn n1 n2 n3 n4 n5, ai_ cy n1 40 fk, ai_ cy n2 40 fs, ai_ cy n3 40 fe, ai_ cy n4 40 fw, aq_ cy 6 clo 12 (gf_ rl), ai_ cy (rl 0) 12 (M_101 0), ai_ cy (rl 1) 12 (M_101 1), ai_ cy (rl 2) 12 (M_101 2), ai_ cy (rl 3) 12 (M_101 3), ai_ cy (rl 4) 12 (M_101 4), ai_ cy (rl 5) 12 (M_101 5), ai_ cy (rl 6) 12 (M_101 6), ai_ cy (rl 7) 12 (M_101 7), ai_ cy (rl 8) 12 (M_101 8), ai_ cy (rl 9) 12 (M_101 9), ai_ cy (rl 10) 12 (M_101 10), ai_ cy (rl 11) 12 (M_101 11), ai_ cy c5 40 f5, ai_ cy c6 40 f6, aq_ cy 3 xk 5 (kf_ k0 k1 k2 k3 k4), ob6_0_ k0, ob5_0_ k1, ob9_0_ k2, ob2_0_ k3, ob8_0_ k4] (by rw [eM_101]; exact hP) (by rw [eM_101]; exact hD) (fun hP hD => ?_)
        obtain ⟨y_102, ey_102⟩ : ∃ y : Int32, y = (2 : Int32) + 1 := ⟨_, rfl⟩
        have ty_102 : y_102.toInt = (2 : Int32).toInt + (1 : Int32).toInt := by rw [ey_102]; exact addI (by omega) (by omega)
        refine lv_iinc (v := y_102) (lv' := [(2, .int y_102), (0, .ref xc), (1, .int a1)]) hx hb dB_36_0_18.2.2.1.2 hl (k := 0) rfl (by rw [ey_102]; rfl) (by decide) rfl (fun ls hl => ?_)
        refine lv_goto (tgt := 2) hx hb dB_36_0_18.2.2.2.1 (by decide) ?_
        exact ih_1 y_102 M_101 _ _ _ (by omega) (by first | with_reducible assumption | omega | assumption) (by first | with_reducible assumption | omega | assumption) (by first | exact zr_st eM_101 v2_1 hfl_ (by decide) (by omega) | (intro x y hx; omega)) ⟨hP, hD⟩ hS (lv_sub hl [0, 1, 2] rfl)
      · refine lv_aload_n hx hb dB_36_0_18.1.2.2.2 rfl (lv_at hl 1 rfl) ?_
        refine va_get (ci := 0) (v := .ref clo) (C := RX0) (T := TX0) (N := 9) hx hb hts (fun _ h => List.mem_cons_of_mem _ (List.mem_append_left _ (List.mem_append_right _ h))) hown hK.1 hP 0 rfl rfl 2 (by decide) (hts (.fieldLink RX0 11 "CutAtlas$Current" "lets" "[[I") (List.mem_of_getElem? (i := 3) rfl)) (fun _ h9 => h9) rfl dB_36_0_18.2.1.1.1 ?_
        refine lv_iload_n hx hb dB_36_0_18.2.1.1.2 rfl (lv_at hl 0 rfl) ?_
        have h_103 : vp_in (3 : Int32) 12 := by unfold vp_in; decide
        refine va_alda hx hb hG hP 6 rfl (i := 3) h_103 dB_36_0_18.2.1.2.1 ?_
        refine lv_topv (v' := .ref (rl 3)) (gf_at h_103) ?_
        refine lv_iconst (v := 0) hx hb dB_36_0_18.2.1.2.2 (by decide) ?_
        refine ct_S hP hD hS hA [ai_ cy (rl 3) 12 (m_rl_1 3)] [10] (by decide) rfl (fun hPc hDw hFc hC_ => ?_)
        refine va_callv (va_runS (As := [.ref (rl 3), .int 0]) (rest := []) ⟨hx, hb, hml, hown, hts⟩ (c_J7_fill_53178 l D cy H.size (rl 3) 12 (0 : Int32) (m_rl_1 3) (by first | with_reducible assumption | assumption | omega)) (va_cwS 2 hts gX0_load_J7_fill_53178 rfl rfl rfl hd_J7_fill_53178 ⟨Nat.le_of_ble_eq_true rfl, Nat.le_of_ble_eq_true rfl⟩) ⟨bl_, fun U hU hW => ⟨rfl, by rw [hU], by rw [hU]; exact hPc, kk_mv hW hK, hDw⟩⟩ rfl rfl hl.1 rfl (lv_room (Nat.le_of_ble_eq_true rfl)) dB_36_0_18.2.2.1.1 ⟨Nat.le_of_ble_eq_true rfl, Nat.le_of_ble_eq_true rfl⟩) hS (fun q _ h => hFc q h) hFc (fun u t H locs ht hvm hw hB hz1 hk1 hS => ?_)
        obtain ⟨e1_105, g_106, hP1, hD1⟩ := hB
        rw [ht] at hP1
        obtain ⟨hP, hD⟩ := va_join (wr := [ob0_0_ xc xn xk clo cro c4 c5 c6 c7 c8, ob3_0_ xn vp vn n1 n2 n3 n4 n5, ai_ cy n1 40 fk, ai_ cy n2 40 fs, ai_ cy n3 40 fe, ai_ cy n4 40 fw, aq_ cy 6 clo 12 (gf_ rl), ai_ cy (rl 0) 12 (m_rl_1 0), ai_ cy (rl 1) 12 (m_rl_1 1), ai_ cy (rl 2) 12 (m_rl_1 2), ai_ cy (rl 4) 12 (m_rl_1 4), ai_ cy (rl 5) 12 (m_rl_1 5), ai_ cy (rl 6) 12 (m_rl_1 6), ai_ cy (rl 7) 12 (m_rl_1 7), ai_ cy (rl 8) 12 (m_rl_1 8), ai_ cy (rl 9) 12 (m_rl_1 9), ai_ cy (rl 10) 12 (m_rl_1 10), ai_ cy (rl 11) 12 (m_rl_1 11), ai_ cy c5 40 f5, ai_ cy c6 40 f6, aq_ cy 3 xk 5 (kf_ k0 k1 k2 k3 k4), ob6_0_ k0, ob5_0_ k1, ob9_0_ k2, ob2_0_ k3, ob8_0_ k4]) (w1 := [ai_ cy (rl 3) 12 e1_105]) hP hD [10] [0, 1, 2, 3, 4, 5, 6, 7, 8, 9, 11, 12, 13, 14, 15, 16, 17, 18, 19, 20, 21, 22, 23, 24, 25, 26] hC_ rfl (by decide +kernel) (by decide +kernel) hk1 hFc hP1 hD1
        refine pd_S hP hD [ob0_0_ xc xn xk clo cro c4 c5 c6 c7 c8, ob3_0_ xn vp vn n1 n2 n3 n4 n5, ai_ cy n1 40 fk, ai_ cy n2 40 fs, ai_ cy n3 40 fe, ai_ cy n4 40 fw, aq_ cy 6 clo 12 (gf_ rl), ai_ cy (rl 0) 12 (m_rl_1 0), ai_ cy (rl 1) 12 (m_rl_1 1), ai_ cy (rl 2) 12 (m_rl_1 2), ai_ cy (rl 3) 12 e1_105, ai_ cy (rl 4) 12 (m_rl_1 4), ai_ cy (rl 5) 12 (m_rl_1 5), ai_ cy (rl 6) 12 (m_rl_1 6), ai_ cy (rl 7) 12 (m_rl_1 7), ai_ cy (rl 8) 12 (m_rl_1 8), ai_ cy (rl 9) 12 (m_rl_1 9), ai_ cy (rl 10) 12 (m_rl_1 10), ai_ cy (rl 11) 12 (m_rl_1 11), ai_ cy c5 40 f5, ai_ cy c6 40 f6, aq_ cy 3 xk 5 (kf_ k0 k1 k2 k3 k4), ob6_0_ k0, ob5_0_ k1, ob9_0_ k2, ob2_0_ k3, ob8_0_ k4] [0, 1, 2, 3, 4, 5, 6, 7, 8, 9, 26, 10, 11, 12, 13, 14, 15, 16, 17, 18, 19, 20, 21, 22, 23, 24, 25] (by decide +kernel) rfl (fun hP hD => ?_)
        have hfl_ := g_106
        obtain ⟨M_107, eM_107⟩ : ∃ g : Nat → Nat → Int32, g = va_up m_rl_1 3 e1_105 := ⟨_, rfl⟩
        refine pd_K (D := D) (cl := vwCl) (H := H) (A := A) [ob0_0_ xc xn xk clo cro c4 c5 c6 c7 c8, ob3_0_ xn vp vn n1 n2 n3 n4 n5, ai_ cy n1 40 fk, ai_ cy n2 40 fs, ai_ cy n3 40 fe, ai_ cy n4 40 fw, aq_ cy 6 clo 12 (gf_ rl), ai_ cy (rl 0) 12 (M_107 0), ai_ cy (rl 1) 12 (M_107 1), ai_ cy (rl 2) 12 (M_107 2), ai_ cy (rl 3) 12 (M_107 3), ai_ cy (rl 4) 12 (M_107 4), ai_ cy (rl 5) 12 (M_107 5), ai_ cy (rl 6) 12 (M_107 6), ai_ cy (rl 7) 12 (M_107 7), ai_ cy (rl 8) 12 (M_107 8), ai_ cy (rl 9) 12 (M_107 9), ai_ cy (rl 10) 12 (M_107 10), ai_ cy (rl 11) 12 (M_107 11), ai_ cy c5 40 f5, ai_ cy c6 40 f6, aq_ cy 3 xk 5 (kf_ k0 k1 k2 k3 k4), ob6_0_ k0, ob5_0_ k1, ob9_0_ k2, ob2_0_ k3, ob8_0_ k4] (by rw [eM_107]; exact hP) (by rw [eM_107]; exact hD) (fun hP hD => ?_)
        obtain ⟨y_108, ey_108⟩ : ∃ y : Int32, y = (3 : Int32) + 1 := ⟨_, rfl⟩
        have ty_108 : y_108.toInt = (3 : Int32).toInt + (1 : Int32).toInt := by rw [ey_108]; exact addI (by omega) (by omega)
        refine lv_iinc (v := y_108) (lv' := [(2, .int y_108), (0, .ref xc), (1, .int a1)]) hx hb dB_36_0_18.2.2.1.2 hl (k := 0) rfl (by rw [ey_108]; rfl) (by decide) rfl (fun ls hl => ?_)
        refine lv_goto (tgt := 2) hx hb dB_36_0_18.2.2.2.1 (by decide) ?_
        exact ih_1 y_108 M_107 _ _ _ (by omega) (by first | with_reducible assumption | omega | assumption) (by first | with_reducible assumption | omega | assumption) (by first | exact zr_st eM_107 v2_1 hfl_ (by decide) (by omega) | (intro x y hx; omega)) ⟨hP, hD⟩ hS (lv_sub hl [0, 1, 2] rfl)
      · refine lv_aload_n hx hb dB_36_0_18.1.2.2.2 rfl (lv_at hl 1 rfl) ?_
        refine va_get (ci := 0) (v := .ref clo) (C := RX0) (T := TX0) (N := 9) hx hb hts (fun _ h => List.mem_cons_of_mem _ (List.mem_append_left _ (List.mem_append_right _ h))) hown hK.1 hP 0 rfl rfl 2 (by decide) (hts (.fieldLink RX0 11 "CutAtlas$Current" "lets" "[[I") (List.mem_of_getElem? (i := 3) rfl)) (fun _ h9 => h9) rfl dB_36_0_18.2.1.1.1 ?_
        refine lv_iload_n hx hb dB_36_0_18.2.1.1.2 rfl (lv_at hl 0 rfl) ?_
        have h_109 : vp_in (4 : Int32) 12 := by unfold vp_in; decide
        refine va_alda hx hb hG hP 6 rfl (i := 4) h_109 dB_36_0_18.2.1.2.1 ?_
        refine lv_topv (v' := .ref (rl 4)) (gf_at h_109) ?_
        refine lv_iconst (v := 0) hx hb dB_36_0_18.2.1.2.2 (by decide) ?_
        refine ct_S hP hD hS hA [ai_ cy (rl 4) 12 (m_rl_1 4)] [11] (by decide) rfl (fun hPc hDw hFc hC_ => ?_)
        refine va_callv (va_runS (As := [.ref (rl 4), .int 0]) (rest := []) ⟨hx, hb, hml, hown, hts⟩ (c_J7_fill_53178 l D cy H.size (rl 4) 12 (0 : Int32) (m_rl_1 4) (by first | with_reducible assumption | assumption | omega)) (va_cwS 2 hts gX0_load_J7_fill_53178 rfl rfl rfl hd_J7_fill_53178 ⟨Nat.le_of_ble_eq_true rfl, Nat.le_of_ble_eq_true rfl⟩) ⟨bl_, fun U hU hW => ⟨rfl, by rw [hU], by rw [hU]; exact hPc, kk_mv hW hK, hDw⟩⟩ rfl rfl hl.1 rfl (lv_room (Nat.le_of_ble_eq_true rfl)) dB_36_0_18.2.2.1.1 ⟨Nat.le_of_ble_eq_true rfl, Nat.le_of_ble_eq_true rfl⟩) hS (fun q _ h => hFc q h) hFc (fun u t H locs ht hvm hw hB hz1 hk1 hS => ?_)
        obtain ⟨e1_111, g_112, hP1, hD1⟩ := hB
        rw [ht] at hP1
        obtain ⟨hP, hD⟩ := va_join (wr := [ob0_0_ xc xn xk clo cro c4 c5 c6 c7 c8, ob3_0_ xn vp vn n1 n2 n3 n4 n5, ai_ cy n1 40 fk, ai_ cy n2 40 fs, ai_ cy n3 40 fe, ai_ cy n4 40 fw, aq_ cy 6 clo 12 (gf_ rl), ai_ cy (rl 0) 12 (m_rl_1 0), ai_ cy (rl 1) 12 (m_rl_1 1), ai_ cy (rl 2) 12 (m_rl_1 2), ai_ cy (rl 3) 12 (m_rl_1 3), ai_ cy (rl 5) 12 (m_rl_1 5), ai_ cy (rl 6) 12 (m_rl_1 6), ai_ cy (rl 7) 12 (m_rl_1 7), ai_ cy (rl 8) 12 (m_rl_1 8), ai_ cy (rl 9) 12 (m_rl_1 9), ai_ cy (rl 10) 12 (m_rl_1 10), ai_ cy (rl 11) 12 (m_rl_1 11), ai_ cy c5 40 f5, ai_ cy c6 40 f6, aq_ cy 3 xk 5 (kf_ k0 k1 k2 k3 k4), ob6_0_ k0, ob5_0_ k1, ob9_0_ k2, ob2_0_ k3, ob8_0_ k4]) (w1 := [ai_ cy (rl 4) 12 e1_111]) hP hD [11] [0, 1, 2, 3, 4, 5, 6, 7, 8, 9, 10, 12, 13, 14, 15, 16, 17, 18, 19, 20, 21, 22, 23, 24, 25, 26] hC_ rfl (by decide +kernel) (by decide +kernel) hk1 hFc hP1 hD1
        refine pd_S hP hD [ob0_0_ xc xn xk clo cro c4 c5 c6 c7 c8, ob3_0_ xn vp vn n1 n2 n3 n4 n5, ai_ cy n1 40 fk, ai_ cy n2 40 fs, ai_ cy n3 40 fe, ai_ cy n4 40 fw, aq_ cy 6 clo 12 (gf_ rl), ai_ cy (rl 0) 12 (m_rl_1 0), ai_ cy (rl 1) 12 (m_rl_1 1), ai_ cy (rl 2) 12 (m_rl_1 2), ai_ cy (rl 3) 12 (m_rl_1 3), ai_ cy (rl 4) 12 e1_111, ai_ cy (rl 5) 12 (m_rl_1 5), ai_ cy (rl 6) 12 (m_rl_1 6), ai_ cy (rl 7) 12 (m_rl_1 7), ai_ cy (rl 8) 12 (m_rl_1 8), ai_ cy (rl 9) 12 (m_rl_1 9), ai_ cy (rl 10) 12 (m_rl_1 10), ai_ cy (rl 11) 12 (m_rl_1 11), ai_ cy c5 40 f5, ai_ cy c6 40 f6, aq_ cy 3 xk 5 (kf_ k0 k1 k2 k3 k4), ob6_0_ k0, ob5_0_ k1, ob9_0_ k2, ob2_0_ k3, ob8_0_ k4] [0, 1, 2, 3, 4, 5, 6, 7, 8, 9, 10, 26, 11, 12, 13, 14, 15, 16, 17, 18, 19, 20, 21, 22, 23, 24, 25] (by decide +kernel) rfl (fun hP hD => ?_)
        have hfl_ := g_112
        obtain ⟨M_113, eM_113⟩ : ∃ g : Nat → Nat → Int32, g = va_up m_rl_1 4 e1_111 := ⟨_, rfl⟩
        refine pd_K (D := D) (cl := vwCl) (H := H) (A := A) [ob0_0_ xc xn xk clo cro c4 c5 c6 c7 c8, ob3_0_ xn vp vn n1 n2 n3 n4 n5, ai_ cy n1 40 fk, ai_ cy n2 40 fs, ai_ cy n3 40 fe, ai_ cy n4 40 fw, aq_ cy 6 clo 12 (gf_ rl), ai_ cy (rl 0) 12 (M_113 0), ai_ cy (rl 1) 12 (M_113 1), ai_ cy (rl 2) 12 (M_113 2), ai_ cy (rl 3) 12 (M_113 3), ai_ cy (rl 4) 12 (M_113 4), ai_ cy (rl 5) 12 (M_113 5), ai_ cy (rl 6) 12 (M_113 6), ai_ cy (rl 7) 12 (M_113 7), ai_ cy (rl 8) 12 (M_113 8), ai_ cy (rl 9) 12 (M_113 9), ai_ cy (rl 10) 12 (M_113 10), ai_ cy (rl 11) 12 (M_113 11), ai_ cy c5 40 f5, ai_ cy c6 40 f6, aq_ cy 3 xk 5 (kf_ k0 k1 k2 k3 k4), ob6_0_ k0, ob5_0_ k1, ob9_0_ k2, ob2_0_ k3, ob8_0_ k4] (by rw [eM_113]; exact hP) (by rw [eM_113]; exact hD) (fun hP hD => ?_)
        obtain ⟨y_114, ey_114⟩ : ∃ y : Int32, y = (4 : Int32) + 1 := ⟨_, rfl⟩
        have ty_114 : y_114.toInt = (4 : Int32).toInt + (1 : Int32).toInt := by rw [ey_114]; exact addI (by omega) (by omega)
        refine lv_iinc (v := y_114) (lv' := [(2, .int y_114), (0, .ref xc), (1, .int a1)]) hx hb dB_36_0_18.2.2.1.2 hl (k := 0) rfl (by rw [ey_114]; rfl) (by decide) rfl (fun ls hl => ?_)
        refine lv_goto (tgt := 2) hx hb dB_36_0_18.2.2.2.1 (by decide) ?_
        exact ih_1 y_114 M_113 _ _ _ (by omega) (by first | with_reducible assumption | omega | assumption) (by first | with_reducible assumption | omega | assumption) (by first | exact zr_st eM_113 v2_1 hfl_ (by decide) (by omega) | (intro x y hx; omega)) ⟨hP, hD⟩ hS (lv_sub hl [0, 1, 2] rfl)
      · refine lv_aload_n hx hb dB_36_0_18.1.2.2.2 rfl (lv_at hl 1 rfl) ?_
        refine va_get (ci := 0) (v := .ref clo) (C := RX0) (T := TX0) (N := 9) hx hb hts (fun _ h => List.mem_cons_of_mem _ (List.mem_append_left _ (List.mem_append_right _ h))) hown hK.1 hP 0 rfl rfl 2 (by decide) (hts (.fieldLink RX0 11 "CutAtlas$Current" "lets" "[[I") (List.mem_of_getElem? (i := 3) rfl)) (fun _ h9 => h9) rfl dB_36_0_18.2.1.1.1 ?_
        refine lv_iload_n hx hb dB_36_0_18.2.1.1.2 rfl (lv_at hl 0 rfl) ?_
        have h_115 : vp_in (5 : Int32) 12 := by unfold vp_in; decide
        refine va_alda hx hb hG hP 6 rfl (i := 5) h_115 dB_36_0_18.2.1.2.1 ?_
        refine lv_topv (v' := .ref (rl 5)) (gf_at h_115) ?_
        refine lv_iconst (v := 0) hx hb dB_36_0_18.2.1.2.2 (by decide) ?_
        refine ct_S hP hD hS hA [ai_ cy (rl 5) 12 (m_rl_1 5)] [12] (by decide) rfl (fun hPc hDw hFc hC_ => ?_)
        refine va_callv (va_runS (As := [.ref (rl 5), .int 0]) (rest := []) ⟨hx, hb, hml, hown, hts⟩ (c_J7_fill_53178 l D cy H.size (rl 5) 12 (0 : Int32) (m_rl_1 5) (by first | with_reducible assumption | assumption | omega)) (va_cwS 2 hts gX0_load_J7_fill_53178 rfl rfl rfl hd_J7_fill_53178 ⟨Nat.le_of_ble_eq_true rfl, Nat.le_of_ble_eq_true rfl⟩) ⟨bl_, fun U hU hW => ⟨rfl, by rw [hU], by rw [hU]; exact hPc, kk_mv hW hK, hDw⟩⟩ rfl rfl hl.1 rfl (lv_room (Nat.le_of_ble_eq_true rfl)) dB_36_0_18.2.2.1.1 ⟨Nat.le_of_ble_eq_true rfl, Nat.le_of_ble_eq_true rfl⟩) hS (fun q _ h => hFc q h) hFc (fun u t H locs ht hvm hw hB hz1 hk1 hS => ?_)
        obtain ⟨e1_117, g_118, hP1, hD1⟩ := hB
        rw [ht] at hP1
        obtain ⟨hP, hD⟩ := va_join (wr := [ob0_0_ xc xn xk clo cro c4 c5 c6 c7 c8, ob3_0_ xn vp vn n1 n2 n3 n4 n5, ai_ cy n1 40 fk, ai_ cy n2 40 fs, ai_ cy n3 40 fe, ai_ cy n4 40 fw, aq_ cy 6 clo 12 (gf_ rl), ai_ cy (rl 0) 12 (m_rl_1 0), ai_ cy (rl 1) 12 (m_rl_1 1), ai_ cy (rl 2) 12 (m_rl_1 2), ai_ cy (rl 3) 12 (m_rl_1 3), ai_ cy (rl 4) 12 (m_rl_1 4), ai_ cy (rl 6) 12 (m_rl_1 6), ai_ cy (rl 7) 12 (m_rl_1 7), ai_ cy (rl 8) 12 (m_rl_1 8), ai_ cy (rl 9) 12 (m_rl_1 9), ai_ cy (rl 10) 12 (m_rl_1 10), ai_ cy (rl 11) 12 (m_rl_1 11), ai_ cy c5 40 f5, ai_ cy c6 40 f6, aq_ cy 3 xk 5 (kf_ k0 k1 k2 k3 k4), ob6_0_ k0, ob5_0_ k1, ob9_0_ k2, ob2_0_ k3, ob8_0_ k4]) (w1 := [ai_ cy (rl 5) 12 e1_117]) hP hD [12] [0, 1, 2, 3, 4, 5, 6, 7, 8, 9, 10, 11, 13, 14, 15, 16, 17, 18, 19, 20, 21, 22, 23, 24, 25, 26] hC_ rfl (by decide +kernel) (by decide +kernel) hk1 hFc hP1 hD1
        refine pd_S hP hD [ob0_0_ xc xn xk clo cro c4 c5 c6 c7 c8, ob3_0_ xn vp vn n1 n2 n3 n4 n5, ai_ cy n1 40 fk, ai_ cy n2 40 fs, ai_ cy n3 40 fe, ai_ cy n4 40 fw, aq_ cy 6 clo 12 (gf_ rl), ai_ cy (rl 0) 12 (m_rl_1 0), ai_ cy (rl 1) 12 (m_rl_1 1), ai_ cy (rl 2) 12 (m_rl_1 2), ai_ cy (rl 3) 12 (m_rl_1 3), ai_ cy (rl 4) 12 (m_rl_1 4), ai_ cy (rl 5) 12 e1_117, ai_ cy (rl 6) 12 (m_rl_1 6), ai_ cy (rl 7) 12 (m_rl_1 7), ai_ cy (rl 8) 12 (m_rl_1 8), ai_ cy (rl 9) 12 (m_rl_1 9), ai_ cy (rl 10) 12 (m_rl_1 10), ai_ cy (rl 11) 12 (m_rl_1 11), ai_ cy c5 40 f5, ai_ cy c6 40 f6, aq_ cy 3 xk 5 (kf_ k0 k1 k2 k3 k4), ob6_0_ k0, ob5_0_ k1, ob9_0_ k2, ob2_0_ k3, ob8_0_ k4] [0, 1, 2, 3, 4, 5, 6, 7, 8, 9, 10, 11, 26, 12, 13, 14, 15, 16, 17, 18, 19, 20, 21, 22, 23, 24, 25] (by decide +kernel) rfl (fun hP hD => ?_)
        have hfl_ := g_118
        obtain ⟨M_119, eM_119⟩ : ∃ g : Nat → Nat → Int32, g = va_up m_rl_1 5 e1_117 := ⟨_, rfl⟩
        refine pd_K (D := D) (cl := vwCl) (H := H) (A := A) [ob0_0_ xc xn xk clo cro c4 c5 c6 c7 c8, ob3_0_ xn vp vn n1 n2 n3 n4 n5, ai_ cy n1 40 fk, ai_ cy n2 40 fs, ai_ cy n3 40 fe, ai_ cy n4 40 fw, aq_ cy 6 clo 12 (gf_ rl), ai_ cy (rl 0) 12 (M_119 0), ai_ cy (rl 1) 12 (M_119 1), ai_ cy (rl 2) 12 (M_119 2), ai_ cy (rl 3) 12 (M_119 3), ai_ cy (rl 4) 12 (M_119 4), ai_ cy (rl 5) 12 (M_119 5), ai_ cy (rl 6) 12 (M_119 6), ai_ cy (rl 7) 12 (M_119 7), ai_ cy (rl 8) 12 (M_119 8), ai_ cy (rl 9) 12 (M_119 9), ai_ cy (rl 10) 12 (M_119 10), ai_ cy (rl 11) 12 (M_119 11), ai_ cy c5 40 f5, ai_ cy c6 40 f6, aq_ cy 3 xk 5 (kf_ k0 k1 k2 k3 k4), ob6_0_ k0, ob5_0_ k1, ob9_0_ k2, ob2_0_ k3, ob8_0_ k4] (by rw [eM_119]; exact hP) (by rw [eM_119]; exact hD) (fun hP hD => ?_)
        obtain ⟨y_120, ey_120⟩ : ∃ y : Int32, y = (5 : Int32) + 1 := ⟨_, rfl⟩
        have ty_120 : y_120.toInt = (5 : Int32).toInt + (1 : Int32).toInt := by rw [ey_120]; exact addI (by omega) (by omega)
        refine lv_iinc (v := y_120) (lv' := [(2, .int y_120), (0, .ref xc), (1, .int a1)]) hx hb dB_36_0_18.2.2.1.2 hl (k := 0) rfl (by rw [ey_120]; rfl) (by decide) rfl (fun ls hl => ?_)
        refine lv_goto (tgt := 2) hx hb dB_36_0_18.2.2.2.1 (by decide) ?_
        exact ih_1 y_120 M_119 _ _ _ (by omega) (by first | with_reducible assumption | omega | assumption) (by first | with_reducible assumption | omega | assumption) (by first | exact zr_st eM_119 v2_1 hfl_ (by decide) (by omega) | (intro x y hx; omega)) ⟨hP, hD⟩ hS (lv_sub hl [0, 1, 2] rfl)
      · refine lv_aload_n hx hb dB_36_0_18.1.2.2.2 rfl (lv_at hl 1 rfl) ?_
        refine va_get (ci := 0) (v := .ref clo) (C := RX0) (T := TX0) (N := 9) hx hb hts (fun _ h => List.mem_cons_of_mem _ (List.mem_append_left _ (List.mem_append_right _ h))) hown hK.1 hP 0 rfl rfl 2 (by decide) (hts (.fieldLink RX0 11 "CutAtlas$Current" "lets" "[[I") (List.mem_of_getElem? (i := 3) rfl)) (fun _ h9 => h9) rfl dB_36_0_18.2.1.1.1 ?_
        refine lv_iload_n hx hb dB_36_0_18.2.1.1.2 rfl (lv_at hl 0 rfl) ?_
        have h_121 : vp_in (6 : Int32) 12 := by unfold vp_in; decide
        refine va_alda hx hb hG hP 6 rfl (i := 6) h_121 dB_36_0_18.2.1.2.1 ?_
        refine lv_topv (v' := .ref (rl 6)) (gf_at h_121) ?_
        refine lv_iconst (v := 0) hx hb dB_36_0_18.2.1.2.2 (by decide) ?_
        refine ct_S hP hD hS hA [ai_ cy (rl 6) 12 (m_rl_1 6)] [13] (by decide) rfl (fun hPc hDw hFc hC_ => ?_)
        refine va_callv (va_runS (As := [.ref (rl 6), .int 0]) (rest := []) ⟨hx, hb, hml, hown, hts⟩ (c_J7_fill_53178 l D cy H.size (rl 6) 12 (0 : Int32) (m_rl_1 6) (by first | with_reducible assumption | assumption | omega)) (va_cwS 2 hts gX0_load_J7_fill_53178 rfl rfl rfl hd_J7_fill_53178 ⟨Nat.le_of_ble_eq_true rfl, Nat.le_of_ble_eq_true rfl⟩) ⟨bl_, fun U hU hW => ⟨rfl, by rw [hU], by rw [hU]; exact hPc, kk_mv hW hK, hDw⟩⟩ rfl rfl hl.1 rfl (lv_room (Nat.le_of_ble_eq_true rfl)) dB_36_0_18.2.2.1.1 ⟨Nat.le_of_ble_eq_true rfl, Nat.le_of_ble_eq_true rfl⟩) hS (fun q _ h => hFc q h) hFc (fun u t H locs ht hvm hw hB hz1 hk1 hS => ?_)
        obtain ⟨e1_123, g_124, hP1, hD1⟩ := hB
        rw [ht] at hP1
        obtain ⟨hP, hD⟩ := va_join (wr := [ob0_0_ xc xn xk clo cro c4 c5 c6 c7 c8, ob3_0_ xn vp vn n1 n2 n3 n4 n5, ai_ cy n1 40 fk, ai_ cy n2 40 fs, ai_ cy n3 40 fe, ai_ cy n4 40 fw, aq_ cy 6 clo 12 (gf_ rl), ai_ cy (rl 0) 12 (m_rl_1 0), ai_ cy (rl 1) 12 (m_rl_1 1), ai_ cy (rl 2) 12 (m_rl_1 2), ai_ cy (rl 3) 12 (m_rl_1 3), ai_ cy (rl 4) 12 (m_rl_1 4), ai_ cy (rl 5) 12 (m_rl_1 5), ai_ cy (rl 7) 12 (m_rl_1 7), ai_ cy (rl 8) 12 (m_rl_1 8), ai_ cy (rl 9) 12 (m_rl_1 9), ai_ cy (rl 10) 12 (m_rl_1 10), ai_ cy (rl 11) 12 (m_rl_1 11), ai_ cy c5 40 f5, ai_ cy c6 40 f6, aq_ cy 3 xk 5 (kf_ k0 k1 k2 k3 k4), ob6_0_ k0, ob5_0_ k1, ob9_0_ k2, ob2_0_ k3, ob8_0_ k4]) (w1 := [ai_ cy (rl 6) 12 e1_123]) hP hD [13] [0, 1, 2, 3, 4, 5, 6, 7, 8, 9, 10, 11, 12, 14, 15, 16, 17, 18, 19, 20, 21, 22, 23, 24, 25, 26] hC_ rfl (by decide +kernel) (by decide +kernel) hk1 hFc hP1 hD1
        refine pd_S hP hD [ob0_0_ xc xn xk clo cro c4 c5 c6 c7 c8, ob3_0_ xn vp vn n1 n2 n3 n4 n5, ai_ cy n1 40 fk, ai_ cy n2 40 fs, ai_ cy n3 40 fe, ai_ cy n4 40 fw, aq_ cy 6 clo 12 (gf_ rl), ai_ cy (rl 0) 12 (m_rl_1 0), ai_ cy (rl 1) 12 (m_rl_1 1), ai_ cy (rl 2) 12 (m_rl_1 2), ai_ cy (rl 3) 12 (m_rl_1 3), ai_ cy (rl 4) 12 (m_rl_1 4), ai_ cy (rl 5) 12 (m_rl_1 5), ai_ cy (rl 6) 12 e1_123, ai_ cy (rl 7) 12 (m_rl_1 7), ai_ cy (rl 8) 12 (m_rl_1 8), ai_ cy (rl 9) 12 (m_rl_1 9), ai_ cy (rl 10) 12 (m_rl_1 10), ai_ cy (rl 11) 12 (m_rl_1 11), ai_ cy c5 40 f5, ai_ cy c6 40 f6, aq_ cy 3 xk 5 (kf_ k0 k1 k2 k3 k4), ob6_0_ k0, ob5_0_ k1, ob9_0_ k2, ob2_0_ k3, ob8_0_ k4] [0, 1, 2, 3, 4, 5, 6, 7, 8, 9, 10, 11, 12, 26, 13, 14, 15, 16, 17, 18, 19, 20, 21, 22, 23, 24, 25] (by decide +kernel) rfl (fun hP hD => ?_)
        have hfl_ := g_124
        obtain ⟨M_125, eM_125⟩ : ∃ g : Nat → Nat → Int32, g = va_up m_rl_1 6 e1_123 := ⟨_, rfl⟩
        refine pd_K (D := D) (cl := vwCl) (H := H) (A := A) [ob0_0_ xc xn xk clo cro c4 c5 c6 c7 c8, ob3_0_ xn vp vn n1 n2 n3 n4 n5, ai_ cy n1 40 fk, ai_ cy n2 40 fs, ai_ cy n3 40 fe, ai_ cy n4 40 fw, aq_ cy 6 clo 12 (gf_ rl), ai_ cy (rl 0) 12 (M_125 0), ai_ cy (rl 1) 12 (M_125 1), ai_ cy (rl 2) 12 (M_125 2), ai_ cy (rl 3) 12 (M_125 3), ai_ cy (rl 4) 12 (M_125 4), ai_ cy (rl 5) 12 (M_125 5), ai_ cy (rl 6) 12 (M_125 6), ai_ cy (rl 7) 12 (M_125 7), ai_ cy (rl 8) 12 (M_125 8), ai_ cy (rl 9) 12 (M_125 9), ai_ cy (rl 10) 12 (M_125 10), ai_ cy (rl 11) 12 (M_125 11), ai_ cy c5 40 f5, ai_ cy c6 40 f6, aq_ cy 3 xk 5 (kf_ k0 k1 k2 k3 k4), ob6_0_ k0, ob5_0_ k1, ob9_0_ k2, ob2_0_ k3, ob8_0_ k4] (by rw [eM_125]; exact hP) (by rw [eM_125]; exact hD) (fun hP hD => ?_)
        obtain ⟨y_126, ey_126⟩ : ∃ y : Int32, y = (6 : Int32) + 1 := ⟨_, rfl⟩
        have ty_126 : y_126.toInt = (6 : Int32).toInt + (1 : Int32).toInt := by rw [ey_126]; exact addI (by omega) (by omega)
        refine lv_iinc (v := y_126) (lv' := [(2, .int y_126), (0, .ref xc), (1, .int a1)]) hx hb dB_36_0_18.2.2.1.2 hl (k := 0) rfl (by rw [ey_126]; rfl) (by decide) rfl (fun ls hl => ?_)
        refine lv_goto (tgt := 2) hx hb dB_36_0_18.2.2.2.1 (by decide) ?_
        exact ih_1 y_126 M_125 _ _ _ (by omega) (by first | with_reducible assumption | omega | assumption) (by first | with_reducible assumption | omega | assumption) (by first | exact zr_st eM_125 v2_1 hfl_ (by decide) (by omega) | (intro x y hx; omega)) ⟨hP, hD⟩ hS (lv_sub hl [0, 1, 2] rfl)
      · refine lv_aload_n hx hb dB_36_0_18.1.2.2.2 rfl (lv_at hl 1 rfl) ?_
        refine va_get (ci := 0) (v := .ref clo) (C := RX0) (T := TX0) (N := 9) hx hb hts (fun _ h => List.mem_cons_of_mem _ (List.mem_append_left _ (List.mem_append_right _ h))) hown hK.1 hP 0 rfl rfl 2 (by decide) (hts (.fieldLink RX0 11 "CutAtlas$Current" "lets" "[[I") (List.mem_of_getElem? (i := 3) rfl)) (fun _ h9 => h9) rfl dB_36_0_18.2.1.1.1 ?_
        refine lv_iload_n hx hb dB_36_0_18.2.1.1.2 rfl (lv_at hl 0 rfl) ?_
        have h_127 : vp_in (7 : Int32) 12 := by unfold vp_in; decide
        refine va_alda hx hb hG hP 6 rfl (i := 7) h_127 dB_36_0_18.2.1.2.1 ?_
        refine lv_topv (v' := .ref (rl 7)) (gf_at h_127) ?_
        refine lv_iconst (v := 0) hx hb dB_36_0_18.2.1.2.2 (by decide) ?_
        refine ct_S hP hD hS hA [ai_ cy (rl 7) 12 (m_rl_1 7)] [14] (by decide) rfl (fun hPc hDw hFc hC_ => ?_)
        refine va_callv (va_runS (As := [.ref (rl 7), .int 0]) (rest := []) ⟨hx, hb, hml, hown, hts⟩ (c_J7_fill_53178 l D cy H.size (rl 7) 12 (0 : Int32) (m_rl_1 7) (by first | with_reducible assumption | assumption | omega)) (va_cwS 2 hts gX0_load_J7_fill_53178 rfl rfl rfl hd_J7_fill_53178 ⟨Nat.le_of_ble_eq_true rfl, Nat.le_of_ble_eq_true rfl⟩) ⟨bl_, fun U hU hW => ⟨rfl, by rw [hU], by rw [hU]; exact hPc, kk_mv hW hK, hDw⟩⟩ rfl rfl hl.1 rfl (lv_room (Nat.le_of_ble_eq_true rfl)) dB_36_0_18.2.2.1.1 ⟨Nat.le_of_ble_eq_true rfl, Nat.le_of_ble_eq_true rfl⟩) hS (fun q _ h => hFc q h) hFc (fun u t H locs ht hvm hw hB hz1 hk1 hS => ?_)
        obtain ⟨e1_129, g_130, hP1, hD1⟩ := hB
        rw [ht] at hP1
        obtain ⟨hP, hD⟩ := va_join (wr := [ob0_0_ xc xn xk clo cro c4 c5 c6 c7 c8, ob3_0_ xn vp vn n1 n2 n3 n4 n5, ai_ cy n1 40 fk, ai_ cy n2 40 fs, ai_ cy n3 40 fe, ai_ cy n4 40 fw, aq_ cy 6 clo 12 (gf_ rl), ai_ cy (rl 0) 12 (m_rl_1 0), ai_ cy (rl 1) 12 (m_rl_1 1), ai_ cy (rl 2) 12 (m_rl_1 2), ai_ cy (rl 3) 12 (m_rl_1 3), ai_ cy (rl 4) 12 (m_rl_1 4), ai_ cy (rl 5) 12 (m_rl_1 5), ai_ cy (rl 6) 12 (m_rl_1 6), ai_ cy (rl 8) 12 (m_rl_1 8), ai_ cy (rl 9) 12 (m_rl_1 9), ai_ cy (rl 10) 12 (m_rl_1 10), ai_ cy (rl 11) 12 (m_rl_1 11), ai_ cy c5 40 f5, ai_ cy c6 40 f6, aq_ cy 3 xk 5 (kf_ k0 k1 k2 k3 k4), ob6_0_ k0, ob5_0_ k1, ob9_0_ k2, ob2_0_ k3, ob8_0_ k4]) (w1 := [ai_ cy (rl 7) 12 e1_129]) hP hD [14] [0, 1, 2, 3, 4, 5, 6, 7, 8, 9, 10, 11, 12, 13, 15, 16, 17, 18, 19, 20, 21, 22, 23, 24, 25, 26] hC_ rfl (by decide +kernel) (by decide +kernel) hk1 hFc hP1 hD1
        refine pd_S hP hD [ob0_0_ xc xn xk clo cro c4 c5 c6 c7 c8, ob3_0_ xn vp vn n1 n2 n3 n4 n5, ai_ cy n1 40 fk, ai_ cy n2 40 fs, ai_ cy n3 40 fe, ai_ cy n4 40 fw, aq_ cy 6 clo 12 (gf_ rl), ai_ cy (rl 0) 12 (m_rl_1 0), ai_ cy (rl 1) 12 (m_rl_1 1), ai_ cy (rl 2) 12 (m_rl_1 2), ai_ cy (rl 3) 12 (m_rl_1 3), ai_ cy (rl 4) 12 (m_rl_1 4), ai_ cy (rl 5) 12 (m_rl_1 5), ai_ cy (rl 6) 12 (m_rl_1 6), ai_ cy (rl 7) 12 e1_129, ai_ cy (rl 8) 12 (m_rl_1 8), ai_ cy (rl 9) 12 (m_rl_1 9), ai_ cy (rl 10) 12 (m_rl_1 10), ai_ cy (rl 11) 12 (m_rl_1 11), ai_ cy c5 40 f5, ai_ cy c6 40 f6, aq_ cy 3 xk 5 (kf_ k0 k1 k2 k3 k4), ob6_0_ k0, ob5_0_ k1, ob9_0_ k2, ob2_0_ k3, ob8_0_ k4] [0, 1, 2, 3, 4, 5, 6, 7, 8, 9, 10, 11, 12, 13, 26, 14, 15, 16, 17, 18, 19, 20, 21, 22, 23, 24, 25] (by decide +kernel) rfl (fun hP hD => ?_)
        have hfl_ := g_130
        obtain ⟨M_131, eM_131⟩ : ∃ g : Nat → Nat → Int32, g = va_up m_rl_1 7 e1_129 := ⟨_, rfl⟩
        refine pd_K (D := D) (cl := vwCl) (H := H) (A := A) [ob0_0_ xc xn xk clo cro c4 c5 c6 c7 c8, ob3_0_ xn vp vn n1 n2 n3 n4 n5, ai_ cy n1 40 fk, ai_ cy n2 40 fs, ai_ cy n3 40 fe, ai_ cy n4 40 fw, aq_ cy 6 clo 12 (gf_ rl), ai_ cy (rl 0) 12 (M_131 0), ai_ cy (rl 1) 12 (M_131 1), ai_ cy (rl 2) 12 (M_131 2), ai_ cy (rl 3) 12 (M_131 3), ai_ cy (rl 4) 12 (M_131 4), ai_ cy (rl 5) 12 (M_131 5), ai_ cy (rl 6) 12 (M_131 6), ai_ cy (rl 7) 12 (M_131 7), ai_ cy (rl 8) 12 (M_131 8), ai_ cy (rl 9) 12 (M_131 9), ai_ cy (rl 10) 12 (M_131 10), ai_ cy (rl 11) 12 (M_131 11), ai_ cy c5 40 f5, ai_ cy c6 40 f6, aq_ cy 3 xk 5 (kf_ k0 k1 k2 k3 k4), ob6_0_ k0, ob5_0_ k1, ob9_0_ k2, ob2_0_ k3, ob8_0_ k4] (by rw [eM_131]; exact hP) (by rw [eM_131]; exact hD) (fun hP hD => ?_)
        obtain ⟨y_132, ey_132⟩ : ∃ y : Int32, y = (7 : Int32) + 1 := ⟨_, rfl⟩
        have ty_132 : y_132.toInt = (7 : Int32).toInt + (1 : Int32).toInt := by rw [ey_132]; exact addI (by omega) (by omega)
        refine lv_iinc (v := y_132) (lv' := [(2, .int y_132), (0, .ref xc), (1, .int a1)]) hx hb dB_36_0_18.2.2.1.2 hl (k := 0) rfl (by rw [ey_132]; rfl) (by decide) rfl (fun ls hl => ?_)
        refine lv_goto (tgt := 2) hx hb dB_36_0_18.2.2.2.1 (by decide) ?_
        exact ih_1 y_132 M_131 _ _ _ (by omega) (by first | with_reducible assumption | omega | assumption) (by first | with_reducible assumption | omega | assumption) (by first | exact zr_st eM_131 v2_1 hfl_ (by decide) (by omega) | (intro x y hx; omega)) ⟨hP, hD⟩ hS (lv_sub hl [0, 1, 2] rfl)
      · refine lv_aload_n hx hb dB_36_0_18.1.2.2.2 rfl (lv_at hl 1 rfl) ?_
        refine va_get (ci := 0) (v := .ref clo) (C := RX0) (T := TX0) (N := 9) hx hb hts (fun _ h => List.mem_cons_of_mem _ (List.mem_append_left _ (List.mem_append_right _ h))) hown hK.1 hP 0 rfl rfl 2 (by decide) (hts (.fieldLink RX0 11 "CutAtlas$Current" "lets" "[[I") (List.mem_of_getElem? (i := 3) rfl)) (fun _ h9 => h9) rfl dB_36_0_18.2.1.1.1 ?_
        refine lv_iload_n hx hb dB_36_0_18.2.1.1.2 rfl (lv_at hl 0 rfl) ?_
        have h_133 : vp_in (8 : Int32) 12 := by unfold vp_in; decide
        refine va_alda hx hb hG hP 6 rfl (i := 8) h_133 dB_36_0_18.2.1.2.1 ?_
        refine lv_topv (v' := .ref (rl 8)) (gf_at h_133) ?_
        refine lv_iconst (v := 0) hx hb dB_36_0_18.2.1.2.2 (by decide) ?_
        refine ct_S hP hD hS hA [ai_ cy (rl 8) 12 (m_rl_1 8)] [15] (by decide) rfl (fun hPc hDw hFc hC_ => ?_)
        refine va_callv (va_runS (As := [.ref (rl 8), .int 0]) (rest := []) ⟨hx, hb, hml, hown, hts⟩ (c_J7_fill_53178 l D cy H.size (rl 8) 12 (0 : Int32) (m_rl_1 8) (by first | with_reducible assumption | assumption | omega)) (va_cwS 2 hts gX0_load_J7_fill_53178 rfl rfl rfl hd_J7_fill_53178 ⟨Nat.le_of_ble_eq_true rfl, Nat.le_of_ble_eq_true rfl⟩) ⟨bl_, fun U hU hW => ⟨rfl, by rw [hU], by rw [hU]; exact hPc, kk_mv hW hK, hDw⟩⟩ rfl rfl hl.1 rfl (lv_room (Nat.le_of_ble_eq_true rfl)) dB_36_0_18.2.2.1.1 ⟨Nat.le_of_ble_eq_true rfl, Nat.le_of_ble_eq_true rfl⟩) hS (fun q _ h => hFc q h) hFc (fun u t H locs ht hvm hw hB hz1 hk1 hS => ?_)
        obtain ⟨e1_135, g_136, hP1, hD1⟩ := hB
        rw [ht] at hP1
        obtain ⟨hP, hD⟩ := va_join (wr := [ob0_0_ xc xn xk clo cro c4 c5 c6 c7 c8, ob3_0_ xn vp vn n1 n2 n3 n4 n5, ai_ cy n1 40 fk, ai_ cy n2 40 fs, ai_ cy n3 40 fe, ai_ cy n4 40 fw, aq_ cy 6 clo 12 (gf_ rl), ai_ cy (rl 0) 12 (m_rl_1 0), ai_ cy (rl 1) 12 (m_rl_1 1), ai_ cy (rl 2) 12 (m_rl_1 2), ai_ cy (rl 3) 12 (m_rl_1 3), ai_ cy (rl 4) 12 (m_rl_1 4), ai_ cy (rl 5) 12 (m_rl_1 5), ai_ cy (rl 6) 12 (m_rl_1 6), ai_ cy (rl 7) 12 (m_rl_1 7), ai_ cy (rl 9) 12 (m_rl_1 9), ai_ cy (rl 10) 12 (m_rl_1 10), ai_ cy (rl 11) 12 (m_rl_1 11), ai_ cy c5 40 f5, ai_ cy c6 40 f6, aq_ cy 3 xk 5 (kf_ k0 k1 k2 k3 k4), ob6_0_ k0, ob5_0_ k1, ob9_0_ k2, ob2_0_ k3, ob8_0_ k4]) (w1 := [ai_ cy (rl 8) 12 e1_135]) hP hD [15] [0, 1, 2, 3, 4, 5, 6, 7, 8, 9, 10, 11, 12, 13, 14, 16, 17, 18, 19, 20, 21, 22, 23, 24, 25, 26] hC_ rfl (by decide +kernel) (by decide +kernel) hk1 hFc hP1 hD1
        refine pd_S hP hD [ob0_0_ xc xn xk clo cro c4 c5 c6 c7 c8, ob3_0_ xn vp vn n1 n2 n3 n4 n5, ai_ cy n1 40 fk, ai_ cy n2 40 fs, ai_ cy n3 40 fe, ai_ cy n4 40 fw, aq_ cy 6 clo 12 (gf_ rl), ai_ cy (rl 0) 12 (m_rl_1 0), ai_ cy (rl 1) 12 (m_rl_1 1), ai_ cy (rl 2) 12 (m_rl_1 2), ai_ cy (rl 3) 12 (m_rl_1 3), ai_ cy (rl 4) 12 (m_rl_1 4), ai_ cy (rl 5) 12 (m_rl_1 5), ai_ cy (rl 6) 12 (m_rl_1 6), ai_ cy (rl 7) 12 (m_rl_1 7), ai_ cy (rl 8) 12 e1_135, ai_ cy (rl 9) 12 (m_rl_1 9), ai_ cy (rl 10) 12 (m_rl_1 10), ai_ cy (rl 11) 12 (m_rl_1 11), ai_ cy c5 40 f5, ai_ cy c6 40 f6, aq_ cy 3 xk 5 (kf_ k0 k1 k2 k3 k4), ob6_0_ k0, ob5_0_ k1, ob9_0_ k2, ob2_0_ k3, ob8_0_ k4] [0, 1, 2, 3, 4, 5, 6, 7, 8, 9, 10, 11, 12, 13, 14, 26, 15, 16, 17, 18, 19, 20, 21, 22, 23, 24, 25] (by decide +kernel) rfl (fun hP hD => ?_)
        have hfl_ := g_136
        obtain ⟨M_137, eM_137⟩ : ∃ g : Nat → Nat → Int32, g = va_up m_rl_1 8 e1_135 := ⟨_, rfl⟩
        refine pd_K (D := D) (cl := vwCl) (H := H) (A := A) [ob0_0_ xc xn xk clo cro c4 c5 c6 c7 c8, ob3_0_ xn vp vn n1 n2 n3 n4 n5, ai_ cy n1 40 fk, ai_ cy n2 40 fs, ai_ cy n3 40 fe, ai_ cy n4 40 fw, aq_ cy 6 clo 12 (gf_ rl), ai_ cy (rl 0) 12 (M_137 0), ai_ cy (rl 1) 12 (M_137 1), ai_ cy (rl 2) 12 (M_137 2), ai_ cy (rl 3) 12 (M_137 3), ai_ cy (rl 4) 12 (M_137 4), ai_ cy (rl 5) 12 (M_137 5), ai_ cy (rl 6) 12 (M_137 6), ai_ cy (rl 7) 12 (M_137 7), ai_ cy (rl 8) 12 (M_137 8), ai_ cy (rl 9) 12 (M_137 9), ai_ cy (rl 10) 12 (M_137 10), ai_ cy (rl 11) 12 (M_137 11), ai_ cy c5 40 f5, ai_ cy c6 40 f6, aq_ cy 3 xk 5 (kf_ k0 k1 k2 k3 k4), ob6_0_ k0, ob5_0_ k1, ob9_0_ k2, ob2_0_ k3, ob8_0_ k4] (by rw [eM_137]; exact hP) (by rw [eM_137]; exact hD) (fun hP hD => ?_)
        obtain ⟨y_138, ey_138⟩ : ∃ y : Int32, y = (8 : Int32) + 1 := ⟨_, rfl⟩
        have ty_138 : y_138.toInt = (8 : Int32).toInt + (1 : Int32).toInt := by rw [ey_138]; exact addI (by omega) (by omega)
        refine lv_iinc (v := y_138) (lv' := [(2, .int y_138), (0, .ref xc), (1, .int a1)]) hx hb dB_36_0_18.2.2.1.2 hl (k := 0) rfl (by rw [ey_138]; rfl) (by decide) rfl (fun ls hl => ?_)
        refine lv_goto (tgt := 2) hx hb dB_36_0_18.2.2.2.1 (by decide) ?_
        exact ih_1 y_138 M_137 _ _ _ (by omega) (by first | with_reducible assumption | omega | assumption) (by first | with_reducible assumption | omega | assumption) (by first | exact zr_st eM_137 v2_1 hfl_ (by decide) (by omega) | (intro x y hx; omega)) ⟨hP, hD⟩ hS (lv_sub hl [0, 1, 2] rfl)
      · refine lv_aload_n hx hb dB_36_0_18.1.2.2.2 rfl (lv_at hl 1 rfl) ?_
        refine va_get (ci := 0) (v := .ref clo) (C := RX0) (T := TX0) (N := 9) hx hb hts (fun _ h => List.mem_cons_of_mem _ (List.mem_append_left _ (List.mem_append_right _ h))) hown hK.1 hP 0 rfl rfl 2 (by decide) (hts (.fieldLink RX0 11 "CutAtlas$Current" "lets" "[[I") (List.mem_of_getElem? (i := 3) rfl)) (fun _ h9 => h9) rfl dB_36_0_18.2.1.1.1 ?_
        refine lv_iload_n hx hb dB_36_0_18.2.1.1.2 rfl (lv_at hl 0 rfl) ?_
        have h_139 : vp_in (9 : Int32) 12 := by unfold vp_in; decide
        refine va_alda hx hb hG hP 6 rfl (i := 9) h_139 dB_36_0_18.2.1.2.1 ?_
        refine lv_topv (v' := .ref (rl 9)) (gf_at h_139) ?_
        refine lv_iconst (v := 0) hx hb dB_36_0_18.2.1.2.2 (by decide) ?_
        refine ct_S hP hD hS hA [ai_ cy (rl 9) 12 (m_rl_1 9)] [16] (by decide) rfl (fun hPc hDw hFc hC_ => ?_)
        refine va_callv (va_runS (As := [.ref (rl 9), .int 0]) (rest := []) ⟨hx, hb, hml, hown, hts⟩ (c_J7_fill_53178 l D cy H.size (rl 9) 12 (0 : Int32) (m_rl_1 9) (by first | with_reducible assumption | assumption | omega)) (va_cwS 2 hts gX0_load_J7_fill_53178 rfl rfl rfl hd_J7_fill_53178 ⟨Nat.le_of_ble_eq_true rfl, Nat.le_of_ble_eq_true rfl⟩) ⟨bl_, fun U hU hW => ⟨rfl, by rw [hU], by rw [hU]; exact hPc, kk_mv hW hK, hDw⟩⟩ rfl rfl hl.1 rfl (lv_room (Nat.le_of_ble_eq_true rfl)) dB_36_0_18.2.2.1.1 ⟨Nat.le_of_ble_eq_true rfl, Nat.le_of_ble_eq_true rfl⟩) hS (fun q _ h => hFc q h) hFc (fun u t H locs ht hvm hw hB hz1 hk1 hS => ?_)
        obtain ⟨e1_141, g_142, hP1, hD1⟩ := hB
        rw [ht] at hP1
        obtain ⟨hP, hD⟩ := va_join (wr := [ob0_0_ xc xn xk clo cro c4 c5 c6 c7 c8, ob3_0_ xn vp vn n1 n2 n3 n4 n5, ai_ cy n1 40 fk, ai_ cy n2 40 fs, ai_ cy n3 40 fe, ai_ cy n4 40 fw, aq_ cy 6 clo 12 (gf_ rl), ai_ cy (rl 0) 12 (m_rl_1 0), ai_ cy (rl 1) 12 (m_rl_1 1), ai_ cy (rl 2) 12 (m_rl_1 2), ai_ cy (rl 3) 12 (m_rl_1 3), ai_ cy (rl 4) 12 (m_rl_1 4), ai_ cy (rl 5) 12 (m_rl_1 5), ai_ cy (rl 6) 12 (m_rl_1 6), ai_ cy (rl 7) 12 (m_rl_1 7), ai_ cy (rl 8) 12 (m_rl_1 8), ai_ cy (rl 10) 12 (m_rl_1 10), ai_ cy (rl 11) 12 (m_rl_1 11), ai_ cy c5 40 f5, ai_ cy c6 40 f6, aq_ cy 3 xk 5 (kf_ k0 k1 k2 k3 k4), ob6_0_ k0, ob5_0_ k1, ob9_0_ k2, ob2_0_ k3, ob8_0_ k4]) (w1 := [ai_ cy (rl 9) 12 e1_141]) hP hD [16] [0, 1, 2, 3, 4, 5, 6, 7, 8, 9, 10, 11, 12, 13, 14, 15, 17, 18, 19, 20, 21, 22, 23, 24, 25, 26] hC_ rfl (by decide +kernel) (by decide +kernel) hk1 hFc hP1 hD1
        refine pd_S hP hD [ob0_0_ xc xn xk clo cro c4 c5 c6 c7 c8, ob3_0_ xn vp vn n1 n2 n3 n4 n5, ai_ cy n1 40 fk, ai_ cy n2 40 fs, ai_ cy n3 40 fe, ai_ cy n4 40 fw, aq_ cy 6 clo 12 (gf_ rl), ai_ cy (rl 0) 12 (m_rl_1 0), ai_ cy (rl 1) 12 (m_rl_1 1), ai_ cy (rl 2) 12 (m_rl_1 2), ai_ cy (rl 3) 12 (m_rl_1 3), ai_ cy (rl 4) 12 (m_rl_1 4), ai_ cy (rl 5) 12 (m_rl_1 5), ai_ cy (rl 6) 12 (m_rl_1 6), ai_ cy (rl 7) 12 (m_rl_1 7), ai_ cy (rl 8) 12 (m_rl_1 8), ai_ cy (rl 9) 12 e1_141, ai_ cy (rl 10) 12 (m_rl_1 10), ai_ cy (rl 11) 12 (m_rl_1 11), ai_ cy c5 40 f5, ai_ cy c6 40 f6, aq_ cy 3 xk 5 (kf_ k0 k1 k2 k3 k4), ob6_0_ k0, ob5_0_ k1, ob9_0_ k2, ob2_0_ k3, ob8_0_ k4] [0, 1, 2, 3, 4, 5, 6, 7, 8, 9, 10, 11, 12, 13, 14, 15, 26, 16, 17, 18, 19, 20, 21, 22, 23, 24, 25] (by decide +kernel) rfl (fun hP hD => ?_)
        have hfl_ := g_142
        obtain ⟨M_143, eM_143⟩ : ∃ g : Nat → Nat → Int32, g = va_up m_rl_1 9 e1_141 := ⟨_, rfl⟩
        refine pd_K (D := D) (cl := vwCl) (H := H) (A := A) [ob0_0_ xc xn xk clo cro c4 c5 c6 c7 c8, ob3_0_ xn vp vn n1 n2 n3 n4 n5, ai_ cy n1 40 fk, ai_ cy n2 40 fs, ai_ cy n3 40 fe, ai_ cy n4 40 fw, aq_ cy 6 clo 12 (gf_ rl), ai_ cy (rl 0) 12 (M_143 0), ai_ cy (rl 1) 12 (M_143 1), ai_ cy (rl 2) 12 (M_143 2), ai_ cy (rl 3) 12 (M_143 3), ai_ cy (rl 4) 12 (M_143 4), ai_ cy (rl 5) 12 (M_143 5), ai_ cy (rl 6) 12 (M_143 6), ai_ cy (rl 7) 12 (M_143 7), ai_ cy (rl 8) 12 (M_143 8), ai_ cy (rl 9) 12 (M_143 9), ai_ cy (rl 10) 12 (M_143 10), ai_ cy (rl 11) 12 (M_143 11), ai_ cy c5 40 f5, ai_ cy c6 40 f6, aq_ cy 3 xk 5 (kf_ k0 k1 k2 k3 k4), ob6_0_ k0, ob5_0_ k1, ob9_0_ k2, ob2_0_ k3, ob8_0_ k4] (by rw [eM_143]; exact hP) (by rw [eM_143]; exact hD) (fun hP hD => ?_)
        obtain ⟨y_144, ey_144⟩ : ∃ y : Int32, y = (9 : Int32) + 1 := ⟨_, rfl⟩
        have ty_144 : y_144.toInt = (9 : Int32).toInt + (1 : Int32).toInt := by rw [ey_144]; exact addI (by omega) (by omega)
        refine lv_iinc (v := y_144) (lv' := [(2, .int y_144), (0, .ref xc), (1, .int a1)]) hx hb dB_36_0_18.2.2.1.2 hl (k := 0) rfl (by rw [ey_144]; rfl) (by decide) rfl (fun ls hl => ?_)
        refine lv_goto (tgt := 2) hx hb dB_36_0_18.2.2.2.1 (by decide) ?_
        exact ih_1 y_144 M_143 _ _ _ (by omega) (by first | with_reducible assumption | omega | assumption) (by first | with_reducible assumption | omega | assumption) (by first | exact zr_st eM_143 v2_1 hfl_ (by decide) (by omega) | (intro x y hx; omega)) ⟨hP, hD⟩ hS (lv_sub hl [0, 1, 2] rfl)
      · refine lv_aload_n hx hb dB_36_0_18.1.2.2.2 rfl (lv_at hl 1 rfl) ?_
        refine va_get (ci := 0) (v := .ref clo) (C := RX0) (T := TX0) (N := 9) hx hb hts (fun _ h => List.mem_cons_of_mem _ (List.mem_append_left _ (List.mem_append_right _ h))) hown hK.1 hP 0 rfl rfl 2 (by decide) (hts (.fieldLink RX0 11 "CutAtlas$Current" "lets" "[[I") (List.mem_of_getElem? (i := 3) rfl)) (fun _ h9 => h9) rfl dB_36_0_18.2.1.1.1 ?_
        refine lv_iload_n hx hb dB_36_0_18.2.1.1.2 rfl (lv_at hl 0 rfl) ?_
        have h_145 : vp_in (10 : Int32) 12 := by unfold vp_in; decide
        refine va_alda hx hb hG hP 6 rfl (i := 10) h_145 dB_36_0_18.2.1.2.1 ?_
        refine lv_topv (v' := .ref (rl 10)) (gf_at h_145) ?_
        refine lv_iconst (v := 0) hx hb dB_36_0_18.2.1.2.2 (by decide) ?_
        refine ct_S hP hD hS hA [ai_ cy (rl 10) 12 (m_rl_1 10)] [17] (by decide) rfl (fun hPc hDw hFc hC_ => ?_)
        refine va_callv (va_runS (As := [.ref (rl 10), .int 0]) (rest := []) ⟨hx, hb, hml, hown, hts⟩ (c_J7_fill_53178 l D cy H.size (rl 10) 12 (0 : Int32) (m_rl_1 10) (by first | with_reducible assumption | assumption | omega)) (va_cwS 2 hts gX0_load_J7_fill_53178 rfl rfl rfl hd_J7_fill_53178 ⟨Nat.le_of_ble_eq_true rfl, Nat.le_of_ble_eq_true rfl⟩) ⟨bl_, fun U hU hW => ⟨rfl, by rw [hU], by rw [hU]; exact hPc, kk_mv hW hK, hDw⟩⟩ rfl rfl hl.1 rfl (lv_room (Nat.le_of_ble_eq_true rfl)) dB_36_0_18.2.2.1.1 ⟨Nat.le_of_ble_eq_true rfl, Nat.le_of_ble_eq_true rfl⟩) hS (fun q _ h => hFc q h) hFc (fun u t H locs ht hvm hw hB hz1 hk1 hS => ?_)
        obtain ⟨e1_147, g_148, hP1, hD1⟩ := hB
        rw [ht] at hP1
        obtain ⟨hP, hD⟩ := va_join (wr := [ob0_0_ xc xn xk clo cro c4 c5 c6 c7 c8, ob3_0_ xn vp vn n1 n2 n3 n4 n5, ai_ cy n1 40 fk, ai_ cy n2 40 fs, ai_ cy n3 40 fe, ai_ cy n4 40 fw, aq_ cy 6 clo 12 (gf_ rl), ai_ cy (rl 0) 12 (m_rl_1 0), ai_ cy (rl 1) 12 (m_rl_1 1), ai_ cy (rl 2) 12 (m_rl_1 2), ai_ cy (rl 3) 12 (m_rl_1 3), ai_ cy (rl 4) 12 (m_rl_1 4), ai_ cy (rl 5) 12 (m_rl_1 5), ai_ cy (rl 6) 12 (m_rl_1 6), ai_ cy (rl 7) 12 (m_rl_1 7), ai_ cy (rl 8) 12 (m_rl_1 8), ai_ cy (rl 9) 12 (m_rl_1 9), ai_ cy (rl 11) 12 (m_rl_1 11), ai_ cy c5 40 f5, ai_ cy c6 40 f6, aq_ cy 3 xk 5 (kf_ k0 k1 k2 k3 k4), ob6_0_ k0, ob5_0_ k1, ob9_0_ k2, ob2_0_ k3, ob8_0_ k4]) (w1 := [ai_ cy (rl 10) 12 e1_147]) hP hD [17] [0, 1, 2, 3, 4, 5, 6, 7, 8, 9, 10, 11, 12, 13, 14, 15, 16, 18, 19, 20, 21, 22, 23, 24, 25, 26] hC_ rfl (by decide +kernel) (by decide +kernel) hk1 hFc hP1 hD1
        refine pd_S hP hD [ob0_0_ xc xn xk clo cro c4 c5 c6 c7 c8, ob3_0_ xn vp vn n1 n2 n3 n4 n5, ai_ cy n1 40 fk, ai_ cy n2 40 fs, ai_ cy n3 40 fe, ai_ cy n4 40 fw, aq_ cy 6 clo 12 (gf_ rl), ai_ cy (rl 0) 12 (m_rl_1 0), ai_ cy (rl 1) 12 (m_rl_1 1), ai_ cy (rl 2) 12 (m_rl_1 2), ai_ cy (rl 3) 12 (m_rl_1 3), ai_ cy (rl 4) 12 (m_rl_1 4), ai_ cy (rl 5) 12 (m_rl_1 5), ai_ cy (rl 6) 12 (m_rl_1 6), ai_ cy (rl 7) 12 (m_rl_1 7), ai_ cy (rl 8) 12 (m_rl_1 8), ai_ cy (rl 9) 12 (m_rl_1 9), ai_ cy (rl 10) 12 e1_147, ai_ cy (rl 11) 12 (m_rl_1 11), ai_ cy c5 40 f5, ai_ cy c6 40 f6, aq_ cy 3 xk 5 (kf_ k0 k1 k2 k3 k4), ob6_0_ k0, ob5_0_ k1, ob9_0_ k2, ob2_0_ k3, ob8_0_ k4] [0, 1, 2, 3, 4, 5, 6, 7, 8, 9, 10, 11, 12, 13, 14, 15, 16, 26, 17, 18, 19, 20, 21, 22, 23, 24, 25] (by decide +kernel) rfl (fun hP hD => ?_)
        have hfl_ := g_148
        obtain ⟨M_149, eM_149⟩ : ∃ g : Nat → Nat → Int32, g = va_up m_rl_1 10 e1_147 := ⟨_, rfl⟩
        refine pd_K (D := D) (cl := vwCl) (H := H) (A := A) [ob0_0_ xc xn xk clo cro c4 c5 c6 c7 c8, ob3_0_ xn vp vn n1 n2 n3 n4 n5, ai_ cy n1 40 fk, ai_ cy n2 40 fs, ai_ cy n3 40 fe, ai_ cy n4 40 fw, aq_ cy 6 clo 12 (gf_ rl), ai_ cy (rl 0) 12 (M_149 0), ai_ cy (rl 1) 12 (M_149 1), ai_ cy (rl 2) 12 (M_149 2), ai_ cy (rl 3) 12 (M_149 3), ai_ cy (rl 4) 12 (M_149 4), ai_ cy (rl 5) 12 (M_149 5), ai_ cy (rl 6) 12 (M_149 6), ai_ cy (rl 7) 12 (M_149 7), ai_ cy (rl 8) 12 (M_149 8), ai_ cy (rl 9) 12 (M_149 9), ai_ cy (rl 10) 12 (M_149 10), ai_ cy (rl 11) 12 (M_149 11), ai_ cy c5 40 f5, ai_ cy c6 40 f6, aq_ cy 3 xk 5 (kf_ k0 k1 k2 k3 k4), ob6_0_ k0, ob5_0_ k1, ob9_0_ k2, ob2_0_ k3, ob8_0_ k4] (by rw [eM_149]; exact hP) (by rw [eM_149]; exact hD) (fun hP hD => ?_)
        obtain ⟨y_150, ey_150⟩ : ∃ y : Int32, y = (10 : Int32) + 1 := ⟨_, rfl⟩
        have ty_150 : y_150.toInt = (10 : Int32).toInt + (1 : Int32).toInt := by rw [ey_150]; exact addI (by omega) (by omega)
        refine lv_iinc (v := y_150) (lv' := [(2, .int y_150), (0, .ref xc), (1, .int a1)]) hx hb dB_36_0_18.2.2.1.2 hl (k := 0) rfl (by rw [ey_150]; rfl) (by decide) rfl (fun ls hl => ?_)
        refine lv_goto (tgt := 2) hx hb dB_36_0_18.2.2.2.1 (by decide) ?_
        exact ih_1 y_150 M_149 _ _ _ (by omega) (by first | with_reducible assumption | omega | assumption) (by first | with_reducible assumption | omega | assumption) (by first | exact zr_st eM_149 v2_1 hfl_ (by decide) (by omega) | (intro x y hx; omega)) ⟨hP, hD⟩ hS (lv_sub hl [0, 1, 2] rfl)
      · refine lv_aload_n hx hb dB_36_0_18.1.2.2.2 rfl (lv_at hl 1 rfl) ?_
        refine va_get (ci := 0) (v := .ref clo) (C := RX0) (T := TX0) (N := 9) hx hb hts (fun _ h => List.mem_cons_of_mem _ (List.mem_append_left _ (List.mem_append_right _ h))) hown hK.1 hP 0 rfl rfl 2 (by decide) (hts (.fieldLink RX0 11 "CutAtlas$Current" "lets" "[[I") (List.mem_of_getElem? (i := 3) rfl)) (fun _ h9 => h9) rfl dB_36_0_18.2.1.1.1 ?_
        refine lv_iload_n hx hb dB_36_0_18.2.1.1.2 rfl (lv_at hl 0 rfl) ?_
        have h_151 : vp_in (11 : Int32) 12 := by unfold vp_in; decide
        refine va_alda hx hb hG hP 6 rfl (i := 11) h_151 dB_36_0_18.2.1.2.1 ?_
        refine lv_topv (v' := .ref (rl 11)) (gf_at h_151) ?_
        refine lv_iconst (v := 0) hx hb dB_36_0_18.2.1.2.2 (by decide) ?_
        refine ct_S hP hD hS hA [ai_ cy (rl 11) 12 (m_rl_1 11)] [18] (by decide) rfl (fun hPc hDw hFc hC_ => ?_)
        refine va_callv (va_runS (As := [.ref (rl 11), .int 0]) (rest := []) ⟨hx, hb, hml, hown, hts⟩ (c_J7_fill_53178 l D cy H.size (rl 11) 12 (0 : Int32) (m_rl_1 11) (by first | with_reducible assumption | assumption | omega)) (va_cwS 2 hts gX0_load_J7_fill_53178 rfl rfl rfl hd_J7_fill_53178 ⟨Nat.le_of_ble_eq_true rfl, Nat.le_of_ble_eq_true rfl⟩) ⟨bl_, fun U hU hW => ⟨rfl, by rw [hU], by rw [hU]; exact hPc, kk_mv hW hK, hDw⟩⟩ rfl rfl hl.1 rfl (lv_room (Nat.le_of_ble_eq_true rfl)) dB_36_0_18.2.2.1.1 ⟨Nat.le_of_ble_eq_true rfl, Nat.le_of_ble_eq_true rfl⟩) hS (fun q _ h => hFc q h) hFc (fun u t H locs ht hvm hw hB hz1 hk1 hS => ?_)
        obtain ⟨e1_153, g_154, hP1, hD1⟩ := hB
        rw [ht] at hP1
        obtain ⟨hP, hD⟩ := va_join (wr := [ob0_0_ xc xn xk clo cro c4 c5 c6 c7 c8, ob3_0_ xn vp vn n1 n2 n3 n4 n5, ai_ cy n1 40 fk, ai_ cy n2 40 fs, ai_ cy n3 40 fe, ai_ cy n4 40 fw, aq_ cy 6 clo 12 (gf_ rl), ai_ cy (rl 0) 12 (m_rl_1 0), ai_ cy (rl 1) 12 (m_rl_1 1), ai_ cy (rl 2) 12 (m_rl_1 2), ai_ cy (rl 3) 12 (m_rl_1 3), ai_ cy (rl 4) 12 (m_rl_1 4), ai_ cy (rl 5) 12 (m_rl_1 5), ai_ cy (rl 6) 12 (m_rl_1 6), ai_ cy (rl 7) 12 (m_rl_1 7), ai_ cy (rl 8) 12 (m_rl_1 8), ai_ cy (rl 9) 12 (m_rl_1 9), ai_ cy (rl 10) 12 (m_rl_1 10), ai_ cy c5 40 f5, ai_ cy c6 40 f6, aq_ cy 3 xk 5 (kf_ k0 k1 k2 k3 k4), ob6_0_ k0, ob5_0_ k1, ob9_0_ k2, ob2_0_ k3, ob8_0_ k4]) (w1 := [ai_ cy (rl 11) 12 e1_153]) hP hD [18] [0, 1, 2, 3, 4, 5, 6, 7, 8, 9, 10, 11, 12, 13, 14, 15, 16, 17, 19, 20, 21, 22, 23, 24, 25, 26] hC_ rfl (by decide +kernel) (by decide +kernel) hk1 hFc hP1 hD1
        refine pd_S hP hD [ob0_0_ xc xn xk clo cro c4 c5 c6 c7 c8, ob3_0_ xn vp vn n1 n2 n3 n4 n5, ai_ cy n1 40 fk, ai_ cy n2 40 fs, ai_ cy n3 40 fe, ai_ cy n4 40 fw, aq_ cy 6 clo 12 (gf_ rl), ai_ cy (rl 0) 12 (m_rl_1 0), ai_ cy (rl 1) 12 (m_rl_1 1), ai_ cy (rl 2) 12 (m_rl_1 2), ai_ cy (rl 3) 12 (m_rl_1 3), ai_ cy (rl 4) 12 (m_rl_1 4), ai_ cy (rl 5) 12 (m_rl_1 5), ai_ cy (rl 6) 12 (m_rl_1 6), ai_ cy (rl 7) 12 (m_rl_1 7), ai_ cy (rl 8) 12 (m_rl_1 8), ai_ cy (rl 9) 12 (m_rl_1 9), ai_ cy (rl 10) 12 (m_rl_1 10), ai_ cy (rl 11) 12 e1_153, ai_ cy c5 40 f5, ai_ cy c6 40 f6, aq_ cy 3 xk 5 (kf_ k0 k1 k2 k3 k4), ob6_0_ k0, ob5_0_ k1, ob9_0_ k2, ob2_0_ k3, ob8_0_ k4] [0, 1, 2, 3, 4, 5, 6, 7, 8, 9, 10, 11, 12, 13, 14, 15, 16, 17, 26, 18, 19, 20, 21, 22, 23, 24, 25] (by decide +kernel) rfl (fun hP hD => ?_)
        have hfl_ := g_154
        obtain ⟨M_155, eM_155⟩ : ∃ g : Nat → Nat → Int32, g = va_up m_rl_1 11 e1_153 := ⟨_, rfl⟩
        refine pd_K (D := D) (cl := vwCl) (H := H) (A := A) [ob0_0_ xc xn xk clo cro c4 c5 c6 c7 c8, ob3_0_ xn vp vn n1 n2 n3 n4 n5, ai_ cy n1 40 fk, ai_ cy n2 40 fs, ai_ cy n3 40 fe, ai_ cy n4 40 fw, aq_ cy 6 clo 12 (gf_ rl), ai_ cy (rl 0) 12 (M_155 0), ai_ cy (rl 1) 12 (M_155 1), ai_ cy (rl 2) 12 (M_155 2), ai_ cy (rl 3) 12 (M_155 3), ai_ cy (rl 4) 12 (M_155 4), ai_ cy (rl 5) 12 (M_155 5), ai_ cy (rl 6) 12 (M_155 6), ai_ cy (rl 7) 12 (M_155 7), ai_ cy (rl 8) 12 (M_155 8), ai_ cy (rl 9) 12 (M_155 9), ai_ cy (rl 10) 12 (M_155 10), ai_ cy (rl 11) 12 (M_155 11), ai_ cy c5 40 f5, ai_ cy c6 40 f6, aq_ cy 3 xk 5 (kf_ k0 k1 k2 k3 k4), ob6_0_ k0, ob5_0_ k1, ob9_0_ k2, ob2_0_ k3, ob8_0_ k4] (by rw [eM_155]; exact hP) (by rw [eM_155]; exact hD) (fun hP hD => ?_)
        obtain ⟨y_156, ey_156⟩ : ∃ y : Int32, y = (11 : Int32) + 1 := ⟨_, rfl⟩
        have ty_156 : y_156.toInt = (11 : Int32).toInt + (1 : Int32).toInt := by rw [ey_156]; exact addI (by omega) (by omega)
        refine lv_iinc (v := y_156) (lv' := [(2, .int y_156), (0, .ref xc), (1, .int a1)]) hx hb dB_36_0_18.2.2.1.2 hl (k := 0) rfl (by rw [ey_156]; rfl) (by decide) rfl (fun ls hl => ?_)
        refine lv_goto (tgt := 2) hx hb dB_36_0_18.2.2.2.1 (by decide) ?_
        exact ih_1 y_156 M_155 _ _ _ (by omega) (by first | with_reducible assumption | omega | assumption) (by first | with_reducible assumption | omega | assumption) (by first | exact zr_st eM_155 v2_1 hfl_ (by decide) (by omega) | (intro x y hx; omega)) ⟨hP, hD⟩ hS (lv_sub hl [0, 1, 2] rfl)
end

section
set_option maxHeartbeats 4000000 in
set_option maxRecDepth 100000 in
theorem c_X0_betweenSets2 (l : Launch) (D : va_G) (cy : Nat → ClassId) (sz : Nat) (xc : Nat) (xk : Nat) (clo : Nat) (cro : Nat) (c4 : Nat) (c5 : Nat) (c6 : Nat) (c7 : Nat) (c8 : Nat) (xn : Nat) (n1 : Nat) (n2 : Nat) (n3 : Nat) (n4 : Nat) (n5 : Nat) (vp : Int32) (vn : Int32) (rl : Nat → Nat) (Ml : Nat → Nat → Int32) (a1 : Int32) (a2 : Int32) (hvp : 0 ≤ vp.toInt ∧ vp.toInt ≤ 12) (q1 : 0 ≤ a1.toInt ∧ a1.toInt < vp.toInt) (hM : ∀ x y : Nat, (x : Int) < vp.toInt → y < 12 → 0 ≤ (Ml x y).toInt ∧ (Ml x y).toInt ≤ 80000000) : Met l yX0_betweenSets wsX0_betweenSets ({ frames := 0, cells := 0, slots := 0, locals := 0 }) (va_Pc [.ref xc, .int a1, .int a2] (fun U => U.heap.size = sz ∧ va_P D vwCl [ob0_0_ xc xn xk clo cro c4 c5 c6 c7 c8, ob3_0_ xn vp vn n1 n2 n3 n4 n5, aq_ cy 6 clo 12 (gf_ rl), ai_ cy (rl 0) 12 (Ml 0), ai_ cy (rl 1) 12 (Ml 1), ai_ cy (rl 2) 12 (Ml 2), ai_ cy (rl 3) 12 (Ml 3), ai_ cy (rl 4) 12 (Ml 4), ai_ cy (rl 5) 12 (Ml 5), ai_ cy (rl 6) 12 (Ml 6), ai_ cy (rl 7) 12 (Ml 7), ai_ cy (rl 8) 12 (Ml 8), ai_ cy (rl 9) 12 (Ml 9), ai_ cy (rl 10) 12 (Ml 10), ai_ cy (rl 11) 12 (Ml 11)] U.heap ∧ kg_ D cy U ∧ va_D (fun _ => True) [ob0_0_ xc xn xk clo cro c4 c5 c6 c7 c8, ob3_0_ xn vp vn n1 n2 n3 n4 n5, aq_ cy 6 clo 12 (gf_ rl), ai_ cy (rl 0) 12 (Ml 0), ai_ cy (rl 1) 12 (Ml 1), ai_ cy (rl 2) 12 (Ml 2), ai_ cy (rl 3) 12 (Ml 3), ai_ cy (rl 4) 12 (Ml 4), ai_ cy (rl 5) 12 (Ml 5), ai_ cy (rl 6) 12 (Ml 6), ai_ cy (rl 7) 12 (Ml 7), ai_ cy (rl 8) 12 (Ml 8), ai_ cy (rl 9) 12 (Ml 9), ai_ cy (rl 10) 12 (Ml 10), ai_ cy (rl 11) 12 (Ml 11)])) (va_Qi (fun (r : Int32) (_ : Unit) => (r.toInt = sumI (fun y => if bt a2 y = true then (Ml a1.toNatClampNeg y).toInt else 0) vp.toNatClampNeg) ∧ (0 ≤ r.toInt ∧ r.toInt ≤ 960000000)) (fun (_ : Unit) (_ : State) => True) (va_A [] sz)) 0 0 (va_A [] sz) := by
  refine ofQ (cc := cX0_betweenSets) (maxL := 5) (ret := (some .int)) (by decide) rfl ?_
  intro p e s m args below meth c s₁ Q hQ B hml hv
  obtain ⟨rfl, hsz, hP, hK, hD0⟩ := hv
  have hG := hK.2
  have hK := hK.1
  have hx := B.exec
  have hb := B.bytes
  have hr := B.returns
  have hts := atoms_spec (ws := wsX0_betweenSets) B.pre
  have hown : s.vm.findClass RX0 = some m.cls := by have h_ := findClass_of_methodNamed B.named; exact h_
  have hlocks := B.notSynchronized
  subst hsz
  have hD : va_D (va_A [] s.heap.size) [] := dd_nil
  generalize hAe : va_A [] s.heap.size = A at hD hQ
  have hA : ∀ q : Nat, s.heap.size ≤ q → A q := fun q h => by rw [← hAe]; exact Or.inr h
  have hS : va_S A s.heap s.heap [] := va_S.rf
  have hl := lv_entry ([.ref xc, .int a1, .int a2]) (n := 5) (Nat.le_of_ble_eq_true rfl)
  rw [lg_entry_eq]
  generalize (lg_sl ([.ref xc, .int a1, .int a2]) ++ List.replicate (5 - (lg_sl ([.ref xc, .int a1, .int a2])).length) Slot.unset).toArray = ls at hl ⊢
  have hl : lv_has ls 5 [(0, .ref xc), (1, .int a1), (2, .int a2)] := hl
  have z0 : (0 : Int32).toInt = 0 := by decide
  have z1 : (1 : Int32).toInt = 1 := by decide
  refine lv_iconst (v := 0) hx hb dB_36_0_1.1.1.1.1 (by decide) ?_
  refine lv_istore_n (lv' := [(3, .int 0), (0, .ref xc), (1, .int a1), (2, .int a2)]) hx hb dB_36_0_1.1.1.1.2 rfl hl (by decide) rfl (fun ls hl => ?_)
  refine lv_iconst (v := 0) hx hb dB_36_0_1.1.1.2.1 (by decide) ?_
  refine lv_istore (lv' := [(4, .int 0), (3, .int 0), (0, .ref xc), (1, .int a1), (2, .int a2)]) hx hb dB_36_0_1.1.1.2.2 hl (by decide) rfl (fun ls hl => ?_)
  suffices LOOP_1 : ∀ (n_1 : Nat) (x4_1 : Int32) (x3_1 : Int32) (H : Heap) (locs : List Loc) (ls : Array Slot), vp.toInt - x4_1.toInt < (n_1 : Int) → (0 ≤ x4_1.toInt) → (x4_1.toInt ≤ vp.toInt) → (0 ≤ x3_1.toInt ∧ x3_1.toInt ≤ 80000000 * x4_1.toInt) → (x3_1.toInt = sumI (fun y => if bt a2 y = true then (Ml a1.toNatClampNeg y).toInt else 0) x4_1.toNatClampNeg) → va_P D vwCl [ob0_0_ xc xn xk clo cro c4 c5 c6 c7 c8, ob3_0_ xn vp vn n1 n2 n3 n4 n5, aq_ cy 6 clo 12 (gf_ rl), ai_ cy (rl 0) 12 (Ml 0), ai_ cy (rl 1) 12 (Ml 1), ai_ cy (rl 2) 12 (Ml 2), ai_ cy (rl 3) 12 (Ml 3), ai_ cy (rl 4) 12 (Ml 4), ai_ cy (rl 5) 12 (Ml 5), ai_ cy (rl 6) 12 (Ml 6), ai_ cy (rl 7) 12 (Ml 7), ai_ cy (rl 8) 12 (Ml 8), ai_ cy (rl 9) 12 (Ml 9), ai_ cy (rl 10) 12 (Ml 10), ai_ cy (rl 11) 12 (Ml 11)] H → va_S A s.heap H locs → lv_has ls 5 [(4, .int x4_1), (3, .int x3_1), (0, .ref xc), (1, .int a1), (2, .int a2)] → W p l e ({ frames := 0, cells := 0, slots := 0, locals := 0 } : Room) s m (([.ref xc, .int a1, .int a2] : List Value).toArray) below meth c H locs 0 0 Q (F0 m 5 ls []) from LOOP_1 ((vp.toInt - (0 : Int32).toInt).toNat + 1) (0 : Int32) (0 : Int32) _ _ _ (by omega) (by first | with_reducible assumption | omega | assumption) (by first | with_reducible assumption | omega | assumption) (by first | with_reducible assumption | omega | assumption) (by first | exact sum_0 | exact cnt_b v_none hbw_ (by omega) (by omega) (by omega)) hP hS (lv_sub hl [0, 1, 2, 3, 4] rfl)
  intro n_1
  induction n_1 with
  | zero =>
    intro x4_1 x3_1 H locs ls hm v0_1 v1_1 v2_1 v3_1 hP hS hl
    exact absurd hm (by omega)
  | succ n_1 ih_1 =>
    intro x4_1 x3_1 H locs ls hm v0_1 v1_1 v2_1 v3_1 hP hS hl
    refine lv_iload hx hb dB_36_0_1.1.2.1.1 (lv_at hl 0 rfl) ?_
    refine lv_aload_n hx hb dB_36_0_1.1.2.1.2 rfl (lv_at hl 2 rfl) ?_
    refine va_get (ci := 0) (v := .ref xn) (C := RX0) (T := TX0) (N := 9) hx hb hts (fun _ h => List.mem_cons_of_mem _ (List.mem_append_left _ (List.mem_append_right _ h))) hown hK.1 hP 0 rfl rfl 0 (by decide) (hts (.fieldLink RX0 35 "CutAtlas$Current" "net" "LCutAtlas$Net;") (List.mem_of_getElem? (i := 1) rfl)) (fun _ h9 => h9) rfl dB_36_0_1.1.2.2.1 ?_
    refine va_get (ci := 3) (v := .int vp) (C := RX3) (T := TX3) (N := 7) hx hb hts (fun _ h => List.mem_cons_of_mem _ (List.mem_append_right _ h)) hown hK.1 hP 1 rfl rfl 0 (by decide) (hts (.fieldLink RX0 43 "CutAtlas$Net" "places" "I") (List.mem_of_getElem? (i := 2) rfl)) (fun _ h9 => h9) rfl dB_36_0_1.1.2.2.2 ?_
    refine lv_icmp_ge (tgt := 45) hx hb dB_36_0_1.2.1.1.1 (by decide) (fun c_2 => ?_) (fun c_2 => ?_)
    · have t_2 : vp.toInt ≤ x4_1.toInt := Int32.le_iff_toInt_le.mp c_2
      refine lv_iload_n hx hb dB_36_0_2.2.2.2.1 rfl (lv_at hl 1 rfl) ?_
      rw [hQ]
      exact W.iret (v := x3_1) hx hb hr (fun t ht hW => ⟨⟨x3_1, (), rfl, ⟨sum_end v3_1 (by omega), by omega⟩, trivial⟩, hS.F ht⟩) hS.2.2 dB_36_0_2.2.2.2.2
    · have t_2 : ¬ vp.toInt ≤ x4_1.toInt := fun h => c_2 (Int32.le_iff_toInt_le.mpr h)
      refine lv_iload_n hx hb dB_36_0_1.2.1.1.2 rfl (lv_at hl 4 rfl) ?_
      refine lv_iload hx hb dB_36_0_1.2.1.2.1 (lv_at hl 0 rfl) ?_
      refine lv_ishr hx hb dB_36_0_1.2.1.2.2 ?_
      refine lv_topi (fun y_3 ey_3 => ?_)
      refine lv_iconst (v := 1) hx hb dB_36_0_1.2.2.1.1 (by decide) ?_
      refine lv_iand hx hb dB_36_0_1.2.2.1.2 ?_
      refine lv_topi (fun y_4 ey_4 => ?_)
      have hbw_ := bI_w (x := a2) (y := x4_1) (by omega) (by omega) ey_3 ey_4
      refine lv_iconst (v := 1) hx hb dB_36_0_1.2.2.2.1 (by decide) ?_
      refine lv_icmp_ne (tgt := 39) hx hb dB_36_0_1.2.2.2.2 (by decide) (fun c_5 => ?_) (fun c_5 => ?_)
      · have t_5 : ¬ y_4.toInt = (1 : Int32).toInt := fun h => c_5 (Int32.toInt_inj.mp h)
        obtain ⟨y_6, ey_6⟩ : ∃ y : Int32, y = x4_1 + 1 := ⟨_, rfl⟩
        have ty_6 : y_6.toInt = x4_1.toInt + (1 : Int32).toInt := by rw [ey_6]; exact addI (by omega) (by omega)
        refine lv_iinc (v := y_6) (lv' := [(4, .int y_6), (3, .int x3_1), (0, .ref xc), (1, .int a1), (2, .int a2)]) hx hb dB_36_0_2.2.2.1.1 hl (k := 0) rfl (by rw [ey_6]; rfl) (by decide) rfl (fun ls hl => ?_)
        refine lv_goto (tgt := 5) hx hb dB_36_0_2.2.2.1.2 (by decide) ?_
        exact ih_1 y_6 x3_1 _ _ _ (by omega) (by first | with_reducible assumption | omega | assumption) (by first | with_reducible assumption | omega | assumption) (by first | with_reducible assumption | omega | assumption) (by first | exact sum_0 | exact cnt_b v3_1 hbw_ (by omega) (by omega) (by omega)) hP hS (lv_sub hl [0, 1, 2, 3, 4] rfl)
      · have t_5 : y_4.toInt = (1 : Int32).toInt := congrArg Int32.toInt c_5
        refine lv_iload_n hx hb dB_36_0_2.1.1.1 rfl (lv_at hl 1 rfl) ?_
        refine lv_aload_n hx hb dB_36_0_2.1.1.2.1 rfl (lv_at hl 2 rfl) ?_
        refine va_get (ci := 0) (v := .ref clo) (C := RX0) (T := TX0) (N := 9) hx hb hts (fun _ h => List.mem_cons_of_mem _ (List.mem_append_left _ (List.mem_append_right _ h))) hown hK.1 hP 0 rfl rfl 2 (by decide) (hts (.fieldLink RX0 11 "CutAtlas$Current" "lets" "[[I") (List.mem_of_getElem? (i := 3) rfl)) (fun _ h9 => h9) rfl dB_36_0_2.1.1.2.2 ?_
        refine lv_iload_n hx hb dB_36_0_2.1.2.1 rfl (lv_at hl 3 rfl) ?_
        have h_7 : vp_in a1 12 := in_I (by first | with_reducible assumption | omega) (by omega)
        refine va_alda hx hb hG hP 2 rfl (i := a1) h_7 dB_36_0_2.1.2.2.1 ?_
        refine lv_topv (v' := .ref (rl a1.toNatClampNeg)) (gf_at h_7) ?_
        refine lv_iload hx hb dB_36_0_2.1.2.2.2 (lv_at hl 0 rfl) ?_
        have h_8 : vp_in x4_1 12 := in_I (by first | with_reducible assumption | omega) (by omega)
        have hPg : va_P D vwCl (([ob0_0_ xc xn xk clo cro c4 c5 c6 c7 c8, ob3_0_ xn vp vn n1 n2 n3 n4 n5, aq_ cy 6 clo 12 (gf_ rl)] : va_W) ++ (gro (cy 0) rl Ml ++ ([] : va_W))) H := hP
        refine va_gld (X := [ob0_0_ xc xn xk clo cro c4 c5 c6 c7 c8, ob3_0_ xn vp vn n1 n2 n3 n4 n5, aq_ cy 6 clo 12 (gf_ rl)]) (Y := []) (r := rl) (M := Ml) (k := a1.toNatClampNeg) hx hb hK.1 hPg 0 rfl (in_lt h_7) (i := x4_1) h_8 dB_36_0_2.2.1.1 ?_
        refine lv_topi (fun y_9 ey_9 => ?_)
        have cA_ := clI (i := a1) (by omega)
        have cL_ := clI (i := x4_1) (by omega)
        have hm_ := hM a1.toNatClampNeg x4_1.toNatClampNeg (by omega) (by omega)
        have km_ : y_9.toInt = (Ml a1.toNatClampNeg x4_1.toNatClampNeg).toInt := by rw [ey_9]
        refine lv_iadd hx hb dB_36_0_2.2.1.2.1 ?_
        refine lv_topi (fun y_10 ey_10 => ?_)
        have ty_10 : y_10.toInt = x3_1.toInt + y_9.toInt := by rw [ey_10]; exact addI (by omega) (by omega)
        refine lv_istore_n (lv' := [(3, .int y_10), (4, .int x4_1), (0, .ref xc), (1, .int a1), (2, .int a2)]) hx hb dB_36_0_2.2.1.2.2 rfl hl (by decide) rfl (fun ls hl => ?_)
        obtain ⟨y_11, ey_11⟩ : ∃ y : Int32, y = x4_1 + 1 := ⟨_, rfl⟩
        have ty_11 : y_11.toInt = x4_1.toInt + (1 : Int32).toInt := by rw [ey_11]; exact addI (by omega) (by omega)
        refine lv_iinc (v := y_11) (lv' := [(4, .int y_11), (3, .int y_10), (0, .ref xc), (1, .int a1), (2, .int a2)]) hx hb dB_36_0_2.2.2.1.1 hl (k := 1) rfl (by rw [ey_11]; rfl) (by decide) rfl (fun ls hl => ?_)
        refine lv_goto (tgt := 5) hx hb dB_36_0_2.2.2.1.2 (by decide) ?_
        exact ih_1 y_11 y_10 _ _ _ (by omega) (by first | with_reducible assumption | omega | assumption) (by first | with_reducible assumption | omega | assumption) (by first | with_reducible assumption | omega | assumption) (by first | exact sum_0 | exact cnt_b v3_1 hbw_ (by omega) (by omega) (by omega)) hP hS (lv_sub hl [0, 1, 2, 3, 4] rfl)

set_option maxHeartbeats 4000000 in
set_option maxRecDepth 100000 in
theorem c_X0_leaving2 (l : Launch) (D : va_G) (cy : Nat → ClassId) (sz : Nat) (xc : Nat) (xk : Nat) (clo : Nat) (cro : Nat) (c4 : Nat) (c5 : Nat) (c6 : Nat) (c7 : Nat) (c8 : Nat) (xn : Nat) (n1 : Nat) (n2 : Nat) (n3 : Nat) (n4 : Nat) (n5 : Nat) (vp : Int32) (vn : Int32) (rl : Nat → Nat) (Ml : Nat → Nat → Int32) (a1 : Int32) (hvp : 0 ≤ vp.toInt ∧ vp.toInt ≤ 12) (hM : ∀ x y : Nat, (x : Int) < vp.toInt → y < 12 → 0 ≤ (Ml x y).toInt ∧ (Ml x y).toInt ≤ 80000000) (hT : outZ (fun x y => (Ml x y).toInt) (bt a1) vp.toNatClampNeg ≤ 80000000) : Met l yX0_leaving wsX0_leaving ({ frames := 1, cells := 0, slots := 0, locals := 24 }) (va_Pc [.ref xc, .int a1] (fun U => U.heap.size = sz ∧ va_P D vwCl [ob0_0_ xc xn xk clo cro c4 c5 c6 c7 c8, ob3_0_ xn vp vn n1 n2 n3 n4 n5, aq_ cy 6 clo 12 (gf_ rl), ai_ cy (rl 0) 12 (Ml 0), ai_ cy (rl 1) 12 (Ml 1), ai_ cy (rl 2) 12 (Ml 2), ai_ cy (rl 3) 12 (Ml 3), ai_ cy (rl 4) 12 (Ml 4), ai_ cy (rl 5) 12 (Ml 5), ai_ cy (rl 6) 12 (Ml 6), ai_ cy (rl 7) 12 (Ml 7), ai_ cy (rl 8) 12 (Ml 8), ai_ cy (rl 9) 12 (Ml 9), ai_ cy (rl 10) 12 (Ml 10), ai_ cy (rl 11) 12 (Ml 11)] U.heap ∧ kg_ D cy U ∧ va_D (fun _ => True) [ob0_0_ xc xn xk clo cro c4 c5 c6 c7 c8, ob3_0_ xn vp vn n1 n2 n3 n4 n5, aq_ cy 6 clo 12 (gf_ rl), ai_ cy (rl 0) 12 (Ml 0), ai_ cy (rl 1) 12 (Ml 1), ai_ cy (rl 2) 12 (Ml 2), ai_ cy (rl 3) 12 (Ml 3), ai_ cy (rl 4) 12 (Ml 4), ai_ cy (rl 5) 12 (Ml 5), ai_ cy (rl 6) 12 (Ml 6), ai_ cy (rl 7) 12 (Ml 7), ai_ cy (rl 8) 12 (Ml 8), ai_ cy (rl 9) 12 (Ml 9), ai_ cy (rl 10) 12 (Ml 10), ai_ cy (rl 11) 12 (Ml 11)])) (va_Qi (fun (r : Int32) (_ : Unit) => (r.toInt = outZ (fun x y => (Ml x y).toInt) (bt a1) vp.toNatClampNeg)) (fun (_ : Unit) (_ : State) => True) (va_A [] sz)) 0 0 (va_A [] sz) := by
  refine ofQ (cc := cX0_leaving) (maxL := 4) (ret := (some .int)) (by decide) rfl ?_
  intro p e s m args below meth c s₁ Q hQ B hml hv
  obtain ⟨rfl, hsz, hP, hK, hD0⟩ := hv
  have hG := hK.2
  have hK := hK.1
  have hx := B.exec
  have hb := B.bytes
  have hr := B.returns
  have hts := atoms_spec (ws := wsX0_leaving) B.pre
  have hown : s.vm.findClass RX0 = some m.cls := by have h_ := findClass_of_methodNamed B.named; exact h_
  have hlocks := B.notSynchronized
  subst hsz
  have hD : va_D (va_A [] s.heap.size) [] := dd_nil
  generalize hAe : va_A [] s.heap.size = A at hD hQ
  have hA : ∀ q : Nat, s.heap.size ≤ q → A q := fun q h => by rw [← hAe]; exact Or.inr h
  have hS : va_S A s.heap s.heap [] := va_S.rf
  have hl := lv_entry ([.ref xc, .int a1]) (n := 4) (Nat.le_of_ble_eq_true rfl)
  rw [lg_entry_eq]
  generalize (lg_sl ([.ref xc, .int a1]) ++ List.replicate (4 - (lg_sl ([.ref xc, .int a1])).length) Slot.unset).toArray = ls at hl ⊢
  have hl : lv_has ls 4 [(0, .ref xc), (1, .int a1)] := hl
  have z0 : (0 : Int32).toInt = 0 := by decide
  have z1 : (1 : Int32).toInt = 1 := by decide
  have cP_ := clI (i := vp) (by omega)
  refine lv_iconst (v := 0) hx hb dB_36_0_16.1.1.1.1 (by decide) ?_
  refine lv_istore_n (lv' := [(2, .int 0), (0, .ref xc), (1, .int a1)]) hx hb dB_36_0_16.1.1.1.2 rfl hl (by decide) rfl (fun ls hl => ?_)
  refine lv_iconst (v := 0) hx hb dB_36_0_16.1.1.2.1 (by decide) ?_
  refine lv_istore_n (lv' := [(3, .int 0), (2, .int 0), (0, .ref xc), (1, .int a1)]) hx hb dB_36_0_16.1.1.2.2 rfl hl (by decide) rfl (fun ls hl => ?_)
  suffices LOOP_1 : ∀ (n_1 : Nat) (x3_1 : Int32) (x2_1 : Int32) (H : Heap) (locs : List Loc) (ls : Array Slot), vp.toInt - x3_1.toInt < (n_1 : Int) → (0 ≤ x3_1.toInt) → (x3_1.toInt ≤ vp.toInt) → (x2_1.toInt = sumI (fun x => if bt a1 x = true then rowZ (fun x y => (Ml x y).toInt) (bt a1) vp.toNatClampNeg x else 0) x3_1.toNatClampNeg) → va_P D vwCl [ob0_0_ xc xn xk clo cro c4 c5 c6 c7 c8, ob3_0_ xn vp vn n1 n2 n3 n4 n5, aq_ cy 6 clo 12 (gf_ rl), ai_ cy (rl 0) 12 (Ml 0), ai_ cy (rl 1) 12 (Ml 1), ai_ cy (rl 2) 12 (Ml 2), ai_ cy (rl 3) 12 (Ml 3), ai_ cy (rl 4) 12 (Ml 4), ai_ cy (rl 5) 12 (Ml 5), ai_ cy (rl 6) 12 (Ml 6), ai_ cy (rl 7) 12 (Ml 7), ai_ cy (rl 8) 12 (Ml 8), ai_ cy (rl 9) 12 (Ml 9), ai_ cy (rl 10) 12 (Ml 10), ai_ cy (rl 11) 12 (Ml 11)] H → va_S A s.heap H locs → lv_has ls 4 [(3, .int x3_1), (2, .int x2_1), (0, .ref xc), (1, .int a1)] → W p l e ({ frames := 1, cells := 0, slots := 0, locals := 24 } : Room) s m (([.ref xc, .int a1] : List Value).toArray) below meth c H locs 0 0 Q (F0 m 4 ls []) from LOOP_1 ((vp.toInt - (0 : Int32).toInt).toNat + 1) (0 : Int32) (0 : Int32) _ _ _ (by omega) (by first | with_reducible assumption | omega | assumption) (by first | with_reducible assumption | omega | assumption) (by first | exact sum_0 | exact cnt_b v_none hbw_ (by omega) (by omega) (by omega)) hP hS (lv_sub hl [0, 1, 2, 3] rfl)
  intro n_1
  induction n_1 with
  | zero =>
    intro x3_1 x2_1 H locs ls hm v0_1 v1_1 v2_1 hP hS hl
    exact absurd hm (by omega)
  | succ n_1 ih_1 =>
    intro x3_1 x2_1 H locs ls hm v0_1 v1_1 v2_1 hP hS hl
    refine lv_iload_n hx hb dB_36_0_16.1.2.1.1 rfl (lv_at hl 0 rfl) ?_
    refine lv_aload_n hx hb dB_36_0_16.1.2.1.2 rfl (lv_at hl 2 rfl) ?_
    refine va_get (ci := 0) (v := .ref xn) (C := RX0) (T := TX0) (N := 9) hx hb hts (fun _ h => List.mem_cons_of_mem _ (List.mem_append_left _ (List.mem_append_right _ h))) hown hK.1 hP 0 rfl rfl 0 (by decide) (hts (.fieldLink RX0 35 "CutAtlas$Current" "net" "LCutAtlas$Net;") (List.mem_of_getElem? (i := 1) rfl)) (fun _ h9 => h9) rfl dB_36_0_16.1.2.2.1 ?_
    refine va_get (ci := 3) (v := .int vp) (C := RX3) (T := TX3) (N := 7) hx hb hts (fun _ h => List.mem_cons_of_mem _ (List.mem_append_right _ h)) hown hK.1 hP 1 rfl rfl 0 (by decide) (hts (.fieldLink RX0 43 "CutAtlas$Net" "places" "I") (List.mem_of_getElem? (i := 2) rfl)) (fun _ h9 => h9) rfl dB_36_0_16.1.2.2.2 ?_
    refine lv_icmp_ge (tgt := 41) hx hb dB_36_0_16.2.1.1.1 (by decide) (fun c_2 => ?_) (fun c_2 => ?_)
    · have t_2 : vp.toInt ≤ x3_1.toInt := Int32.le_iff_toInt_le.mp c_2
      refine lv_iload_n hx hb dB_36_0_17.2.2.2.1 rfl (lv_at hl 1 rfl) ?_
      rw [hQ]
      exact W.iret (v := x2_1) hx hb hr (fun t ht hW => ⟨⟨x2_1, (), rfl, (sum_end v2_1 (by omega)), trivial⟩, hS.F ht⟩) hS.2.2 dB_36_0_17.2.2.2.2
    · have t_2 : ¬ vp.toInt ≤ x3_1.toInt := fun h => c_2 (Int32.le_iff_toInt_le.mpr h)
      refine lv_iload_n hx hb dB_36_0_16.2.1.1.2 rfl (lv_at hl 3 rfl) ?_
      refine lv_iload_n hx hb dB_36_0_16.2.1.2.1 rfl (lv_at hl 0 rfl) ?_
      refine lv_ishr hx hb dB_36_0_16.2.1.2.2 ?_
      refine lv_topi (fun y_3 ey_3 => ?_)
      refine lv_iconst (v := 1) hx hb dB_36_0_16.2.2.1.1 (by decide) ?_
      refine lv_iand hx hb dB_36_0_16.2.2.1.2 ?_
      refine lv_topi (fun y_4 ey_4 => ?_)
      have hbw_ := bI_w (x := a1) (y := x3_1) (by omega) (by omega) ey_3 ey_4
      refine lv_iconst (v := 1) hx hb dB_36_0_16.2.2.2.1 (by decide) ?_
      refine lv_icmp_ne (tgt := 35) hx hb dB_36_0_16.2.2.2.2 (by decide) (fun c_5 => ?_) (fun c_5 => ?_)
      · have t_5 : ¬ y_4.toInt = (1 : Int32).toInt := fun h => c_5 (Int32.toInt_inj.mp h)
        obtain ⟨y_6, ey_6⟩ : ∃ y : Int32, y = x3_1 + 1 := ⟨_, rfl⟩
        have ty_6 : y_6.toInt = x3_1.toInt + (1 : Int32).toInt := by rw [ey_6]; exact addI (by omega) (by omega)
        refine lv_iinc (v := y_6) (lv' := [(3, .int y_6), (2, .int x2_1), (0, .ref xc), (1, .int a1)]) hx hb dB_36_0_17.2.2.1.1 hl (k := 0) rfl (by rw [ey_6]; rfl) (by decide) rfl (fun ls hl => ?_)
        refine lv_goto (tgt := 4) hx hb dB_36_0_17.2.2.1.2 (by decide) ?_
        exact ih_1 y_6 x2_1 _ _ _ (by omega) (by first | with_reducible assumption | omega | assumption) (by first | with_reducible assumption | omega | assumption) (by first | exact sum_0 | exact cnt_b v2_1 hbw_ (by omega) (by omega) (by omega)) hP hS (lv_sub hl [0, 1, 2, 3] rfl)
      · have t_5 : y_4.toInt = (1 : Int32).toInt := congrArg Int32.toInt c_5
        refine lv_iload_n hx hb dB_36_0_17.1.1.1 rfl (lv_at hl 1 rfl) ?_
        refine lv_aload_n hx hb dB_36_0_17.1.1.2.1 rfl (lv_at hl 2 rfl) ?_
        refine lv_iload_n hx hb dB_36_0_17.1.1.2.2 rfl (lv_at hl 0 rfl) ?_
        refine lv_iload_n hx hb dB_36_0_17.1.2.1 rfl (lv_at hl 3 rfl) ?_
        refine lv_iconst (v := (-1)) hx hb dB_36_0_17.1.2.2.1 (by decide) ?_
        refine lv_ixor hx hb dB_36_0_17.1.2.2.2 ?_
        refine lv_topi (fun y_7 ey_7 => ?_)
        refine ct_R hP hD0 [ob0_0_ xc xn xk clo cro c4 c5 c6 c7 c8, ob3_0_ xn vp vn n1 n2 n3 n4 n5, aq_ cy 6 clo 12 (gf_ rl), ai_ cy (rl 0) 12 (Ml 0), ai_ cy (rl 1) 12 (Ml 1), ai_ cy (rl 2) 12 (Ml 2), ai_ cy (rl 3) 12 (Ml 3), ai_ cy (rl 4) 12 (Ml 4), ai_ cy (rl 5) 12 (Ml 5), ai_ cy (rl 6) 12 (Ml 6), ai_ cy (rl 7) 12 (Ml 7), ai_ cy (rl 8) 12 (Ml 8), ai_ cy (rl 9) 12 (Ml 9), ai_ cy (rl 10) 12 (Ml 10), ai_ cy (rl 11) 12 (Ml 11)] [0, 1, 2, 3, 4, 5, 6, 7, 8, 9, 10, 11, 12, 13, 14] (by decide +kernel) rfl (fun hPc hDw => ?_)
        have hFc := va_free (wc := []) hD hS hA [] rfl
        refine va_calli (va_runV (As := [.int x3_1, .int y_7]) (rest := [.int x2_1]) ⟨hx, hb, hml, hown, hts⟩ (c_X0_betweenSets2 l D cy H.size xc xk clo cro c4 c5 c6 c7 c8 xn n1 n2 n3 n4 n5 vp vn rl Ml x3_1 y_7 (by first | with_reducible assumption | omega | assumption) (by first | with_reducible assumption | omega | assumption) (by first | with_reducible assumption | assumption | omega)) (cwV 2 hts gX0_leaving_X0_betweenSets rfl rfl rfl ⟨rfl, hd_X0_betweenSets⟩ ⟨Nat.le_of_ble_eq_true rfl, Nat.le_of_ble_eq_true rfl⟩) ⟨bl_g, va_recvX hK.1 hP (ci := 0) (q0 := 0) rfl rfl, fun U hU hW => ⟨rfl, by rw [hU], by rw [hU]; exact hPc, ⟨kk_mv hW hK, arrOfT_moved hW.alike hG⟩, hDw⟩⟩ rfl rfl hl.1 rfl (lv_room (Nat.le_of_ble_eq_true rfl)) dB_36_0_17.2.1.1 ⟨Nat.le_of_ble_eq_true rfl, Nat.le_of_ble_eq_true rfl⟩) hS (fun q _ h => hFc q h) hFc (fun r_8 u t H locs ht hvm hw hB hz1 hk1 hS => ?_)
        have hP : va_P D vwCl _ H := ro_keep hP hk1
        obtain ⟨f0_r_8, f1_r_8⟩ := hw
        have hrw_ := f0_r_8.trans (row_not (by omega) ey_7)
        have hbd_ := lv_bd (S := bt a1) (k := x3_1.toNatClampNeg) (P := vp.toNatClampNeg) (M := fun x y => (Ml x y).toInt) (fun x y hx hy => (hM x y (by omega) (by omega)).1) hT (by have c_ := clI (i := x3_1) (by omega); omega) (b_tr hbw_ (by omega))
        have hl2_ := v2_1
        refine lv_iadd hx hb dB_36_0_17.2.1.2.1 ?_
        refine lv_topi (fun y_9 ey_9 => ?_)
        have ty_9 : y_9.toInt = x2_1.toInt + r_8.toInt := by rw [ey_9]; exact addI (by omega) (by omega)
        refine lv_istore_n (lv' := [(2, .int y_9), (3, .int x3_1), (0, .ref xc), (1, .int a1)]) hx hb dB_36_0_17.2.1.2.2 rfl hl (by decide) rfl (fun ls hl => ?_)
        obtain ⟨y_10, ey_10⟩ : ∃ y : Int32, y = x3_1 + 1 := ⟨_, rfl⟩
        have ty_10 : y_10.toInt = x3_1.toInt + (1 : Int32).toInt := by rw [ey_10]; exact addI (by omega) (by omega)
        refine lv_iinc (v := y_10) (lv' := [(3, .int y_10), (2, .int y_9), (0, .ref xc), (1, .int a1)]) hx hb dB_36_0_17.2.2.1.1 hl (k := 1) rfl (by rw [ey_10]; rfl) (by decide) rfl (fun ls hl => ?_)
        refine lv_goto (tgt := 4) hx hb dB_36_0_17.2.2.1.2 (by decide) ?_
        exact ih_1 y_10 y_9 _ _ _ (by omega) (by first | with_reducible assumption | omega | assumption) (by first | with_reducible assumption | omega | assumption) (by first | exact sum_0 | exact cnt_b v2_1 hbw_ (by omega) (by omega) (by omega)) hP hS (lv_sub hl [0, 1, 2, 3] rfl)
end

section
set_option maxHeartbeats 4000000 in
set_option maxRecDepth 100000 in
theorem c_X12_asTold2 (l : Launch) (D : va_G) (cy : Nat → ClassId) (sz : Nat) (a1 : Int32) : Met l yX12_asTold wsX12_asTold ({ frames := 0, cells := 0, slots := 0, locals := 0 }) (va_Pc [.int a1] (fun U => U.heap.size = sz ∧ va_P D vwCl [] U.heap ∧ kk_ D cy U ∧ va_D (fun _ => True) [])) (va_Qi (fun (r : Int32) (_ : Unit) => (r.toInt = if a1.toInt = 1000000 then -5 else a1.toInt)) (fun (_ : Unit) (_ : State) => True) (va_A [] sz)) 0 0 (va_A [] sz) := by
  refine ofQ (cc := cX12_asTold) (maxL := 1) (ret := (some .int)) (by decide) rfl ?_
  intro p e s m args below meth c s₁ Q hQ B hml hv
  obtain ⟨rfl, hsz, hP, hK, hD0⟩ := hv
  have hx := B.exec
  have hb := B.bytes
  have hr := B.returns
  have hts := atoms_spec (ws := wsX12_asTold) B.pre
  have hown : s.vm.findClass RX12 = some m.cls := by have h_ := findClass_of_methodNamed B.named; exact h_
  have hlocks := B.notSynchronized
  subst hsz
  have hD : va_D (va_A [] s.heap.size) [] := dd_nil
  generalize hAe : va_A [] s.heap.size = A at hD hQ
  have hA : ∀ q : Nat, s.heap.size ≤ q → A q := fun q h => by rw [← hAe]; exact Or.inr h
  have hS : va_S A s.heap s.heap [] := va_S.rf
  have hl := lv_entry ([.int a1]) (n := 1) (Nat.le_of_ble_eq_true rfl)
  rw [lg_entry_eq]
  generalize (lg_sl ([.int a1]) ++ List.replicate (1 - (lg_sl ([.int a1])).length) Slot.unset).toArray = ls at hl ⊢
  have hl : lv_has ls 1 [(0, .int a1)] := hl
  have zm5 : ((-5) : Int32).toInt = -5 := by decide
  have z1000000 : (1000000 : Int32).toInt = 1000000 := by decide
  refine lv_iload_n hx hb dB_3_1_0.1.1 rfl (lv_at hl 0 rfl) ?_
  refine lv_ldc (v := 1000000) hx hb hown (hts (.constant RX12 159 (1000000)) (List.mem_of_getElem? (i := 1) rfl)) dB_3_1_0.1.2.1 ?_
  refine lv_icmp_ne (tgt := 11) hx hb dB_3_1_0.1.2.2 (by decide) (fun c_1 => ?_) (fun c_1 => ?_)
  · have t_1 : ¬ a1.toInt = (1000000 : Int32).toInt := fun h => c_1 (Int32.toInt_inj.mp h)
    refine lv_iload_n hx hb dB_3_1_0.2.2.1 rfl (lv_at hl 0 rfl) ?_
    rw [hQ]
    exact W.iret (v := a1) hx hb hr (fun t ht hW => ⟨⟨a1, (), rfl, (by (repeat' (first | with_reducible refine if_n (by omega) ?_ | with_reducible refine if_ns (by omega) ?_ | with_reducible refine if_nz (by omega) ?_ | with_reducible exact if_p (by omega) (by omega) | with_reducible exact if_ps (by omega) (by omega) | with_reducible exact if_pz (by omega) (by omega))) <;> omega), trivial⟩, hS.F ht⟩) hS.2.2 dB_3_1_0.2.2.2
  · have t_1 : a1.toInt = (1000000 : Int32).toInt := congrArg Int32.toInt c_1
    refine lv_bipush (v := (-5)) hx hb dB_3_1_0.2.1.1 (by decide) ?_
    refine lv_goto (tgt := 12) hx hb dB_3_1_0.2.1.2 (by decide) ?_
    rw [hQ]
    exact W.iret (v := (-5)) hx hb hr (fun t ht hW => ⟨⟨(-5), (), rfl, (by (repeat' (first | with_reducible refine if_n (by omega) ?_ | with_reducible refine if_ns (by omega) ?_ | with_reducible refine if_nz (by omega) ?_ | with_reducible exact if_p (by omega) (by omega) | with_reducible exact if_ps (by omega) (by omega) | with_reducible exact if_pz (by omega) (by omega))) <;> omega), trivial⟩, hS.F ht⟩) hS.2.2 dB_3_1_0.2.2.2

set_option maxHeartbeats 4000000 in
set_option maxRecDepth 100000 in
theorem c_X12_sizeOf2 (l : Launch) (D : va_G) (cy : Nat → ClassId) (sz : Nat) (mo : Nat) (g5 : Nat) (g6 : Nat) (g7 : Nat) (g8 : Nat) (g9 : Nat) (g10 : Nat) (g12 : Nat) (g13 : Nat) (g14 : Nat) (g15 : Nat) (g16 : Nat) (g17 : Nat) (g18 : Nat) (g19 : Nat) (g20 : Nat) (g22 : Nat) (g23 : Nat) (g24 : Nat) (g29 : Nat) (g30 : Nat) (g31 : Nat) (g32 : Nat) (g33 : Nat) (s0 : Int32) (s1 : Int32) (s3 : Int32) (s4 : Int32) (s11 : Int32) (s21 : Int32) (s25 : Int32) (s26 : Int32) (s27 : Int32) (s28 : Int32) (t2 : Int64) (f5 : Nat → Int32) (f6 : Nat → Int32) (f7 : Nat → Int32) (f8 : Nat → Int32) (f10 : Nat → Int32) (a1 : Int32) (hN : 0 ≤ s4.toInt ∧ s4.toInt ≤ 40) (r_f6 : rng f6 40 (0) (11)) (r_f7 : rng f7 40 (0) (11)) (r_f8 : rng f8 40 (0) (2000)) : Met l yX12_sizeOf wsX12_sizeOf ({ frames := 2, cells := 0, slots := 0, locals := 46 }) (va_Pc [.ref mo, .int a1] (fun U => U.heap.size = sz ∧ va_P D vwCl [ob12_0_ mo s0 s1 t2 s3 s4 g5 g6 g7 g8 g9 g10 s11 g12 g13 g14 g15 g16 g17 g18 g19 g20 s21 g22 g23 g24 s25 s26 s27 s28 g29 g30 g31 g32 g33, ai_ cy g5 40 f5, ai_ cy g6 40 f6, ai_ cy g7 40 f7, ai_ cy g8 40 f8, az_ cy g10 40 f10] U.heap ∧ kk_ D cy U ∧ va_D (fun _ => True) [ob12_0_ mo s0 s1 t2 s3 s4 g5 g6 g7 g8 g9 g10 s11 g12 g13 g14 g15 g16 g17 g18 g19 g20 s21 g22 g23 g24 s25 s26 s27 s28 g29 g30 g31 g32 g33, ai_ cy g5 40 f5, ai_ cy g6 40 f6, ai_ cy g7 40 f7, ai_ cy g8 40 f8, az_ cy g10 40 f10])) (va_Qi (fun (r : Int32) (_ : Unit) => (r.toInt = mn6 (cutR f5 f6 f7 f8 f10 s21.toInt s4.toNatClampNeg (bt a1)))) (fun (_ : Unit) (_ : State) => True) (va_A [] sz)) 0 0 (va_A [] sz) := by
  refine ofQ (cc := cX12_sizeOf) (maxL := 6) (ret := (some .int)) (by decide) rfl ?_
  intro p e s m args below meth c s₁ Q hQ B hml hv
  obtain ⟨rfl, hsz, hP, hK, hD0⟩ := hv
  have hx := B.exec
  have hb := B.bytes
  have hr := B.returns
  have hts := atoms_spec (ws := wsX12_sizeOf) B.pre
  have hown : s.vm.findClass RX12 = some m.cls := by have h_ := findClass_of_methodNamed B.named; exact h_
  have hlocks := B.notSynchronized
  subst hsz
  have hD : va_D (va_A [] s.heap.size) [] := dd_nil
  generalize hAe : va_A [] s.heap.size = A at hD hQ
  have hA : ∀ q : Nat, s.heap.size ≤ q → A q := fun q h => by rw [← hAe]; exact Or.inr h
  have hS : va_S A s.heap s.heap [] := va_S.rf
  have hl := lv_entry ([.ref mo, .int a1]) (n := 6) (Nat.le_of_ble_eq_true rfl)
  rw [lg_entry_eq]
  generalize (lg_sl ([.ref mo, .int a1]) ++ List.replicate (6 - (lg_sl ([.ref mo, .int a1])).length) Slot.unset).toArray = ls at hl ⊢
  have hl : lv_has ls 6 [(0, .ref mo), (1, .int a1)] := hl
  have z0 : (0 : Int32).toInt = 0 := by decide
  have z1 : (1 : Int32).toInt = 1 := by decide
  have z1000000 : (1000000 : Int32).toInt = 1000000 := by decide
  have zq0 : (0 : Int32).toInt = 0 := by decide
  have zq1 : (1 : Int32).toInt = 1 := by decide
  have zq2 : (2 : Int32).toInt = 2 := by decide
  have zq3 : (3 : Int32).toInt = 3 := by decide
  have zq4 : (4 : Int32).toInt = 4 := by decide
  have zq5 : (5 : Int32).toInt = 5 := by decide
  have zqm9 : ((-9) : Int32).toInt = -9 := by decide
  refine lv_iconst (v := 0) hx hb dB_3_1_60.1.1.1.1 (by decide) ?_
  refine lv_istore_n (lv' := [(2, .int 0), (0, .ref mo), (1, .int a1)]) hx hb dB_3_1_60.1.1.1.2 rfl hl (by decide) rfl (fun ls hl => ?_)
  refine lv_iconst (v := 0) hx hb dB_3_1_60.1.1.2.1 (by decide) ?_
  refine lv_istore_n (lv' := [(3, .int 0), (2, .int 0), (0, .ref mo), (1, .int a1)]) hx hb dB_3_1_60.1.1.2.2 rfl hl (by decide) rfl (fun ls hl => ?_)
  suffices LOOP_1 : ∀ (n_1 : Nat) (x3_1 : Int32) (x2_1 : Int32) (H : Heap) (locs : List Loc) (ls : Array Slot), s4.toInt - x3_1.toInt < (n_1 : Int) → (0 ≤ x3_1.toInt) → (x3_1.toInt ≤ s4.toInt) → (0 ≤ x2_1.toInt ∧ x2_1.toInt ≤ 1000000 * x3_1.toInt) → (x2_1.toInt = sumI (clI_ (kF f5) (wF f8 s21.toInt) (kF f10) (nF f6) (nF f7) (bt a1)) x3_1.toNatClampNeg) → va_P D vwCl [ob12_0_ mo s0 s1 t2 s3 s4 g5 g6 g7 g8 g9 g10 s11 g12 g13 g14 g15 g16 g17 g18 g19 g20 s21 g22 g23 g24 s25 s26 s27 s28 g29 g30 g31 g32 g33, ai_ cy g5 40 f5, ai_ cy g6 40 f6, ai_ cy g7 40 f7, ai_ cy g8 40 f8, az_ cy g10 40 f10] H → va_S A s.heap H locs → lv_has ls 6 [(3, .int x3_1), (2, .int x2_1), (0, .ref mo), (1, .int a1)] → W p l e ({ frames := 2, cells := 0, slots := 0, locals := 46 } : Room) s m (([.ref mo, .int a1] : List Value).toArray) below meth c H locs 0 0 Q (F0 m 4 ls []) from LOOP_1 ((s4.toInt - (0 : Int32).toInt).toNat + 1) (0 : Int32) (0 : Int32) _ _ _ (by omega) (by first | with_reducible assumption | omega | assumption) (by first | with_reducible assumption | omega | assumption) (by first | with_reducible assumption | omega | assumption) (by first | exact sum_0 | exact cnt_st v_none (by omega) (by omega) (by omega) | exact cnt_st v_none (by rw [hmi_ (by omega)]; omega) (by omega) (by omega)) hP hS (lv_sub hl [0, 1, 2, 3] rfl)
  intro n_1
  induction n_1 with
  | zero =>
    intro x3_1 x2_1 H locs ls hm v0_1 v1_1 v2_1 v3_1 hP hS hl
    exact absurd hm (by omega)
  | succ n_1 ih_1 =>
    intro x3_1 x2_1 H locs ls hm v0_1 v1_1 v2_1 v3_1 hP hS hl
    refine lv_iload_n hx hb dB_3_1_60.1.2.1.1 rfl (lv_at hl 0 rfl) ?_
    refine lv_aload_n hx hb dB_3_1_60.1.2.1.2 rfl (lv_at hl 2 rfl) ?_
    refine va_get (ci := 12) (v := .int s4) (C := RX12) (T := TX12) (N := 34) hx hb hts (fun _ h => List.mem_cons_of_mem _ (List.mem_append_right _ h)) hown hK.1 hP 0 rfl rfl 4 (by decide) (hts (.fieldLink RX12 95 "CutAtlasModel" "lines" "I") (List.mem_of_getElem? (i := 1) rfl)) (fun _ h9 => h9) rfl dB_3_1_60.1.2.2.1 ?_
    refine lv_icmp_ge (tgt := 111) hx hb dB_3_1_60.1.2.2.2 (by decide) (fun c_2 => ?_) (fun c_2 => ?_)
    · have t_2 : s4.toInt ≤ x3_1.toInt := Int32.le_iff_toInt_le.mp c_2
      have hsm_ : x2_1.toInt = cutR f5 f6 f7 f8 f10 s21.toInt s4.toNatClampNeg (bt a1) := sum_end v3_1 (by omega)
      refine lv_iload_n hx hb dB_3_1_64.1.1.2 rfl (lv_at hl 1 rfl) ?_
      refine lv_ldc (v := 1000000) hx hb hown (hts (.constant RX12 159 (1000000)) (List.mem_of_getElem? (i := 5) rfl)) dB_3_1_64.1.2.1 ?_
      refine lv_icmp_ge (tgt := 121) hx hb dB_3_1_64.1.2.2 (by decide) (fun c_3 => ?_) (fun c_3 => ?_)
      · have t_3 : (1000000 : Int32).toInt ≤ x2_1.toInt := Int32.le_iff_toInt_le.mp c_3
        refine lv_ldc (v := 1000000) hx hb hown (hts (.constant RX12 159 (1000000)) (List.mem_of_getElem? (i := 5) rfl)) dB_3_1_64.2.2.1 ?_
        rw [hQ]
        exact W.iret (v := 1000000) hx hb hr (fun t ht hW => ⟨⟨1000000, (), rfl, (by unfold mn6; (repeat' (first | with_reducible refine if_n (by omega) ?_ | with_reducible refine if_ns (by omega) ?_ | with_reducible refine if_nz (by omega) ?_ | with_reducible exact if_p (by omega) (by omega) | with_reducible exact if_ps (by omega) (by omega) | with_reducible exact if_pz (by omega) (by omega))) <;> omega), trivial⟩, hS.F ht⟩) hS.2.2 dB_3_1_64.2.2.2
      · have t_3 : ¬ (1000000 : Int32).toInt ≤ x2_1.toInt := fun h => c_3 (Int32.le_iff_toInt_le.mpr h)
        refine lv_iload_n hx hb dB_3_1_64.2.1.1 rfl (lv_at hl 1 rfl) ?_
        refine lv_goto (tgt := 123) hx hb dB_3_1_64.2.1.2 (by decide) ?_
        rw [hQ]
        exact W.iret (v := x2_1) hx hb hr (fun t ht hW => ⟨⟨x2_1, (), rfl, (by unfold mn6; (repeat' (first | with_reducible refine if_n (by omega) ?_ | with_reducible refine if_ns (by omega) ?_ | with_reducible refine if_nz (by omega) ?_ | with_reducible exact if_p (by omega) (by omega) | with_reducible exact if_ps (by omega) (by omega) | with_reducible exact if_pz (by omega) (by omega))) <;> omega), trivial⟩, hS.F ht⟩) hS.2.2 dB_3_1_64.2.2.2
    · have t_2 : ¬ s4.toInt ≤ x3_1.toInt := fun h => c_2 (Int32.le_iff_toInt_le.mpr h)
      refine lv_aload_n hx hb dB_3_1_60.2.1.1.1 rfl (lv_at hl 2 rfl) ?_
      refine va_get (ci := 12) (v := .ref g10) (C := RX12) (T := TX12) (N := 34) hx hb hts (fun _ h => List.mem_cons_of_mem _ (List.mem_append_right _ h)) hown hK.1 hP 0 rfl rfl 10 (by decide) (hts (.fieldLink RX12 25 "CutAtlasModel" "isMissing" "[Z") (List.mem_of_getElem? (i := 2) rfl)) (fun _ h9 => h9) rfl dB_3_1_60.2.1.1.2 ?_
      refine lv_iload_n hx hb dB_3_1_60.2.1.2.1 rfl (lv_at hl 0 rfl) ?_
      have h_4 : vp_in x3_1 40 := in_I (by first | with_reducible assumption | omega) (by omega)
      refine va_zald hx hb hK.1 hP 5 2 rfl rfl (i := x3_1) h_4 dB_3_1_60.2.1.2.2 ?_
      refine lv_topi (fun y_5 ey_5 => ?_)
      have ky_5 : y_5.toInt = (f10 x3_1.toNatClampNeg).toInt := by rw [ey_5]
      have hmi_ : y_5.toInt ≠ 0 → clI_ (kF f5) (wF f8 s21.toInt) (kF f10) (nF f6) (nF f7) (bt a1) x3_1.toNatClampNeg = 0 := fun h => clI_miss (by unfold kF; omega)
      refine lv_if_ne (tgt := 105) hx hb dB_3_1_60.2.2.1.1 (by decide) (fun c_6 => ?_) (fun c_6 => ?_)
      · have t_6 : ¬ y_5.toInt = (0 : Int32).toInt := fun h => c_6 (Int32.toInt_inj.mp h)
        obtain ⟨y_7, ey_7⟩ : ∃ y : Int32, y = x3_1 + 1 := ⟨_, rfl⟩
        have ty_7 : y_7.toInt = x3_1.toInt + (1 : Int32).toInt := by rw [ey_7]; exact addI (by omega) (by omega)
        refine lv_iinc (v := y_7) (lv' := [(3, .int y_7), (2, .int x2_1), (0, .ref mo), (1, .int a1)]) hx hb dB_3_1_63.2.2.2.2 hl (k := 0) rfl (by rw [ey_7]; rfl) (by decide) rfl (fun ls hl => ?_)
        refine lv_goto (tgt := 4) hx hb dB_3_1_64.1.1.1 (by decide) ?_
        exact ih_1 y_7 x2_1 _ _ _ (by omega) (by first | with_reducible assumption | omega | assumption) (by first | with_reducible assumption | omega | assumption) (by first | with_reducible assumption | omega | assumption) (by first | exact sum_0 | exact cnt_st v3_1 (by omega) (by omega) (by omega) | exact cnt_st v3_1 (by rw [hmi_ (by omega)]; omega) (by omega) (by omega)) hP hS (lv_sub hl [0, 1, 2, 3] rfl)
      · have t_6 : y_5.toInt = (0 : Int32).toInt := congrArg Int32.toInt c_6
        have cJ_ := clI (i := x3_1) (by omega)
        have hg0_ : kF f10 x3_1.toNatClampNeg = 0 := by unfold kF; omega
        refine lv_iload_n hx hb dB_3_1_60.2.2.1.2 rfl (lv_at hl 3 rfl) ?_
        refine lv_aload_n hx hb dB_3_1_60.2.2.2.1 rfl (lv_at hl 2 rfl) ?_
        refine va_get (ci := 12) (v := .ref g6) (C := RX12) (T := TX12) (N := 34) hx hb hts (fun _ h => List.mem_cons_of_mem _ (List.mem_append_right _ h)) hown hK.1 hP 0 rfl rfl 6 (by decide) (hts (.fieldLink RX12 13 "CutAtlasModel" "from" "[I") (List.mem_of_getElem? (i := 3) rfl)) (fun _ h9 => h9) rfl dB_3_1_60.2.2.2.2 ?_
        refine lv_iload_n hx hb dB_3_1_61.1.1.1.1 rfl (lv_at hl 0 rfl) ?_
        refine va_iald hx hb hK.1 hP 2 0 rfl rfl (i := x3_1) h_4 dB_3_1_61.1.1.1.2 ?_
        refine lv_topi (fun y_9 ey_9 => ?_)
        have ky_9 : y_9.toInt = (f6 x3_1.toNatClampNeg).toInt := by rw [ey_9]
        have ry_9 : 0 ≤ y_9.toInt ∧ y_9.toInt ≤ 11 := by rw [ey_9]; exact r_f6 _ (in_lt h_4)
        refine lv_ishr hx hb dB_3_1_61.1.1.2.1 ?_
        refine lv_topi (fun y_10 ey_10 => ?_)
        refine lv_iconst (v := 1) hx hb dB_3_1_61.1.1.2.2 (by decide) ?_
        refine lv_iand hx hb dB_3_1_61.1.2.1.1 ?_
        refine lv_topi (fun y_11 ey_11 => ?_)
        have hA_ := bI_w (x := a1) (y := y_9) (by omega) (by omega) ey_10 ey_11
        refine lv_iconst (v := 1) hx hb dB_3_1_61.1.2.1.2 (by decide) ?_
        refine lv_icmp_ne (tgt := 39) hx hb dB_3_1_61.1.2.2.1 (by decide) (fun c_12 => ?_) (fun c_12 => ?_)
        · have t_12 : ¬ y_11.toInt = (1 : Int32).toInt := fun h => c_12 (Int32.toInt_inj.mp h)
          refine lv_iconst (v := 0) hx hb dB_3_1_61.2.1.1.2 (by decide) ?_
          refine lv_istore (lv' := [(4, .int 0), (3, .int x3_1), (2, .int x2_1), (0, .ref mo), (1, .int a1)]) hx hb dB_3_1_61.2.1.2.1 hl (by decide) rfl (fun ls hl => ?_)
          have hSa_ : bt a1 (nF f6 x3_1.toNatClampNeg) = decide ((0 : Int32).toInt = 1) := by have h_ := bI_eq (c := (0 : Int32)) hA_ (by omega); rw [ey_9] at h_; exact h_
          refine lv_iload_n hx hb dB_3_1_61.2.1.2.2 rfl (lv_at hl 4 rfl) ?_
          refine lv_aload_n hx hb dB_3_1_61.2.2.1.1 rfl (lv_at hl 3 rfl) ?_
          refine va_get (ci := 12) (v := .ref g7) (C := RX12) (T := TX12) (N := 34) hx hb hts (fun _ h => List.mem_cons_of_mem _ (List.mem_append_right _ h)) hown hK.1 hP 0 rfl rfl 7 (by decide) (hts (.fieldLink RX12 16 "CutAtlasModel" "to" "[I") (List.mem_of_getElem? (i := 4) rfl)) (fun _ h9 => h9) rfl dB_3_1_61.2.2.1.2 ?_
          refine lv_iload_n hx hb dB_3_1_61.2.2.2.1 rfl (lv_at hl 1 rfl) ?_
          refine va_iald hx hb hK.1 hP 3 0 rfl rfl (i := x3_1) h_4 dB_3_1_61.2.2.2.2 ?_
          refine lv_topi (fun y_14 ey_14 => ?_)
          have ky_14 : y_14.toInt = (f7 x3_1.toNatClampNeg).toInt := by rw [ey_14]
          have ry_14 : 0 ≤ y_14.toInt ∧ y_14.toInt ≤ 11 := by rw [ey_14]; exact r_f7 _ (in_lt h_4)
          refine lv_ishr hx hb dB_3_1_62.1.1.1.1 ?_
          refine lv_topi (fun y_15 ey_15 => ?_)
          refine lv_iconst (v := 1) hx hb dB_3_1_62.1.1.1.2 (by decide) ?_
          refine lv_iand hx hb dB_3_1_62.1.1.2.1 ?_
          refine lv_topi (fun y_16 ey_16 => ?_)
          have hB_ := bI_w (x := a1) (y := y_14) (by omega) (by omega) ey_15 ey_16
          refine lv_iconst (v := 1) hx hb dB_3_1_62.1.1.2.2 (by decide) ?_
          refine lv_icmp_ne (tgt := 60) hx hb dB_3_1_62.1.2.1.1 (by decide) (fun c_17 => ?_) (fun c_17 => ?_)
          · have t_17 : ¬ y_16.toInt = (1 : Int32).toInt := fun h => c_17 (Int32.toInt_inj.mp h)
            refine lv_iconst (v := 0) hx hb dB_3_1_62.1.2.2.2 (by decide) ?_
            refine lv_istore (lv' := [(5, .int 0), (4, .int 0), (3, .int x3_1), (2, .int x2_1), (0, .ref mo), (1, .int a1)]) hx hb dB_3_1_62.2.1.1.1 hl (by decide) rfl (fun ls hl => ?_)
            have hSb_ : bt a1 (nF f7 x3_1.toNatClampNeg) = decide ((0 : Int32).toInt = 1) := by have h_ := bI_eq (c := (0 : Int32)) hB_ (by omega); rw [ey_14] at h_; exact h_
            refine lv_iload_n hx hb dB_3_1_62.2.1.1.2 rfl (lv_at hl 3 rfl) ?_
            refine lv_iload hx hb dB_3_1_62.2.1.2.1 (lv_at hl 1 rfl) ?_
            refine lv_if_eq (tgt := 83) hx hb dB_3_1_62.2.1.2.2 (by decide) (fun c_18 => ?_) (fun c_18 => ?_)
            · have _ := c_18
              refine lv_iload hx hb dB_3_1_63.1.1.2.2 (lv_at hl 0 rfl) ?_
              refine lv_if_eq (tgt := 102) hx hb dB_3_1_63.1.2.1.1 (by decide) (fun c_19 => ?_) (fun c_19 => ?_)
              · have _ := c_19
                refine lv_iconst (v := 0) hx hb dB_3_1_63.2.2.1.1 (by decide) ?_
                have hv_ : (0 : Int32).toInt = clI_ (kF f5) (wF f8 s21.toInt) (kF f10) (nF f6) (nF f7) (bt a1) x3_1.toNatClampNeg := clI_at (c4 := (0 : Int32).toInt) (c5 := (0 : Int32).toInt) hg0_ hSa_ hSb_ (by (repeat' (first | with_reducible refine if_n (by omega) ?_ | with_reducible refine if_ns (by omega) ?_ | with_reducible refine if_nz (by omega) ?_ | with_reducible exact if_p (by omega) (by omega) | with_reducible exact if_ps (by omega) (by omega) | with_reducible exact if_pz (by omega) (by omega))) <;> omega)
                have hvb_ := clI_rng (k := kF f5) (g := kF f10) (s := nF f6) (e := nF f7) (S := bt a1) (wF_rng (r := s21.toInt) (j := x3_1.toNatClampNeg) r_f8 (by omega))
                refine lv_iadd hx hb dB_3_1_63.2.2.1.2 ?_
                refine lv_topi (fun y_20 ey_20 => ?_)
                have ty_20 : y_20.toInt = x2_1.toInt + (0 : Int32).toInt := by rw [ey_20]; exact addI (by omega) (by omega)
                refine lv_istore_n (lv' := [(2, .int y_20), (5, .int 0), (4, .int 0), (3, .int x3_1), (0, .ref mo), (1, .int a1)]) hx hb dB_3_1_63.2.2.2.1 rfl hl (by decide) rfl (fun ls hl => ?_)
                obtain ⟨y_21, ey_21⟩ : ∃ y : Int32, y = x3_1 + 1 := ⟨_, rfl⟩
                have ty_21 : y_21.toInt = x3_1.toInt + (1 : Int32).toInt := by rw [ey_21]; exact addI (by omega) (by omega)
                refine lv_iinc (v := y_21) (lv' := [(3, .int y_21), (2, .int y_20), (5, .int 0), (4, .int 0), (0, .ref mo), (1, .int a1)]) hx hb dB_3_1_63.2.2.2.2 hl (k := 3) rfl (by rw [ey_21]; rfl) (by decide) rfl (fun ls hl => ?_)
                refine lv_goto (tgt := 4) hx hb dB_3_1_64.1.1.1 (by decide) ?_
                exact ih_1 y_21 y_20 _ _ _ (by omega) (by first | with_reducible assumption | omega | assumption) (by first | with_reducible assumption | omega | assumption) (by first | with_reducible assumption | omega | assumption) (by first | exact sum_0 | exact cnt_st v3_1 (by omega) (by omega) (by omega) | exact cnt_st v3_1 (by rw [hmi_ (by omega)]; omega) (by omega) (by omega)) hP hS (lv_sub hl [0, 1, 4, 5] rfl)
              · exact absurd c_19 (by decide)
            · exact absurd c_18 (by decide)
          · have t_17 : y_16.toInt = (1 : Int32).toInt := congrArg Int32.toInt c_17
            refine lv_iconst (v := 1) hx hb dB_3_1_62.1.2.1.2 (by decide) ?_
            refine lv_goto (tgt := 61) hx hb dB_3_1_62.1.2.2.1 (by decide) ?_
            refine lv_istore (lv' := [(5, .int 1), (4, .int 0), (3, .int x3_1), (2, .int x2_1), (0, .ref mo), (1, .int a1)]) hx hb dB_3_1_62.2.1.1.1 hl (by decide) rfl (fun ls hl => ?_)
            have hSb_ : bt a1 (nF f7 x3_1.toNatClampNeg) = decide ((1 : Int32).toInt = 1) := by have h_ := bI_eq (c := (1 : Int32)) hB_ (by omega); rw [ey_14] at h_; exact h_
            refine lv_iload_n hx hb dB_3_1_62.2.1.1.2 rfl (lv_at hl 3 rfl) ?_
            refine lv_iload hx hb dB_3_1_62.2.1.2.1 (lv_at hl 1 rfl) ?_
            refine lv_if_eq (tgt := 83) hx hb dB_3_1_62.2.1.2.2 (by decide) (fun c_22 => ?_) (fun c_22 => ?_)
            · have _ := c_22
              refine lv_iload hx hb dB_3_1_63.1.1.2.2 (lv_at hl 0 rfl) ?_
              refine lv_if_eq (tgt := 102) hx hb dB_3_1_63.1.2.1.1 (by decide) (fun c_23 => ?_) (fun c_23 => ?_)
              · exact absurd c_23 (by decide)
              · have _ := c_23
                refine lv_iload hx hb dB_3_1_63.1.2.1.2 (lv_at hl 1 rfl) ?_
                refine lv_if_ne (tgt := 102) hx hb dB_3_1_63.1.2.2.1 (by decide) (fun c_24 => ?_) (fun c_24 => ?_)
                · exact absurd c_24 (by decide)
                · have _ := c_24
                  refine lv_aload_n hx hb dB_3_1_63.1.2.2.2 rfl (lv_at hl 4 rfl) ?_
                  refine lv_iload_n hx hb dB_3_1_63.2.1.1.1 rfl (lv_at hl 2 rfl) ?_
                  refine lv_iconst (v := 0) hx hb dB_3_1_63.2.1.1.2 (by decide) ?_
                  refine ct_R hP hD0 [ob12_0_ mo s0 s1 t2 s3 s4 g5 g6 g7 g8 g9 g10 s11 g12 g13 g14 g15 g16 g17 g18 g19 g20 s21 g22 g23 g24 s25 s26 s27 s28 g29 g30 g31 g32 g33, ai_ cy g5 40 f5, ai_ cy g8 40 f8] [0, 1, 4] (by decide) rfl (fun hPc hDw => ?_)
                  have hFc := va_free (wc := []) hD hS hA [] rfl
                  refine va_calli (va_runV (As := [.int x3_1, .int 0]) (rest := [.int x2_1]) ⟨hx, hb, hml, hown, hts⟩ (c_X12_room l D cy H.size mo g5 g6 g7 g8 g9 g10 g12 g13 g14 g15 g16 g17 g18 g19 g20 g22 g23 g24 g29 g30 g31 g32 g33 s0 s1 s3 s4 s11 s21 s25 s26 s27 s28 t2 f5 f8 x3_1 (0 : Int32) (by first | with_reducible assumption | omega | assumption)) (cwV 2 hts gX12_sizeOf_X12_room rfl rfl rfl ⟨rfl, hd_X12_room⟩ ⟨Nat.le_of_ble_eq_true rfl, Nat.le_of_ble_eq_true rfl⟩) ⟨bl_, va_recvX hK.1 hP (ci := 12) (q0 := 0) rfl rfl, fun U hU hW => ⟨rfl, by rw [hU], by rw [hU]; exact hPc, kk_mv hW hK, hDw⟩⟩ rfl rfl hl.1 rfl (lv_room (Nat.le_of_ble_eq_true rfl)) dB_3_1_63.2.1.2.1 ⟨Nat.le_of_ble_eq_true rfl, Nat.le_of_ble_eq_true rfl⟩) hS (fun q _ h => hFc q h) hFc (fun r_25 u t H locs ht hvm hw hB hz1 hk1 hS => ?_)
                  have hP : va_P D vwCl _ H := ro_keep hP hk1
                  have f0_r_25 := hw
                  have hr_ : r_25.toInt = rmW (kF f5 x3_1.toNatClampNeg) (wF f8 s21.toInt x3_1.toNatClampNeg) 0 := (roomI f0_r_25 (r_f8 _ (by omega))).trans (by unfold kF wF; rw [cJ_]; rfl)
                  refine lv_goto (tgt := 103) hx hb dB_3_1_63.2.1.2.2 (by decide) ?_
                  have hv_ : r_25.toInt = clI_ (kF f5) (wF f8 s21.toInt) (kF f10) (nF f6) (nF f7) (bt a1) x3_1.toNatClampNeg := clI_at (c4 := (0 : Int32).toInt) (c5 := (1 : Int32).toInt) hg0_ hSa_ hSb_ (by (repeat' (first | with_reducible refine if_n (by omega) ?_ | with_reducible refine if_ns (by omega) ?_ | with_reducible refine if_nz (by omega) ?_ | with_reducible exact if_p (by omega) (by omega) | with_reducible exact if_ps (by omega) (by omega) | with_reducible exact if_pz (by omega) (by omega))) <;> omega)
                  have hvb_ := clI_rng (k := kF f5) (g := kF f10) (s := nF f6) (e := nF f7) (S := bt a1) (wF_rng (r := s21.toInt) (j := x3_1.toNatClampNeg) r_f8 (by omega))
                  refine lv_iadd hx hb dB_3_1_63.2.2.1.2 ?_
                  refine lv_topi (fun y_26 ey_26 => ?_)
                  have ty_26 : y_26.toInt = x2_1.toInt + r_25.toInt := by rw [ey_26]; exact addI (by omega) (by omega)
                  refine lv_istore_n (lv' := [(2, .int y_26), (5, .int 1), (4, .int 0), (3, .int x3_1), (0, .ref mo), (1, .int a1)]) hx hb dB_3_1_63.2.2.2.1 rfl hl (by decide) rfl (fun ls hl => ?_)
                  obtain ⟨y_27, ey_27⟩ : ∃ y : Int32, y = x3_1 + 1 := ⟨_, rfl⟩
                  have ty_27 : y_27.toInt = x3_1.toInt + (1 : Int32).toInt := by rw [ey_27]; exact addI (by omega) (by omega)
                  refine lv_iinc (v := y_27) (lv' := [(3, .int y_27), (2, .int y_26), (5, .int 1), (4, .int 0), (0, .ref mo), (1, .int a1)]) hx hb dB_3_1_63.2.2.2.2 hl (k := 3) rfl (by rw [ey_27]; rfl) (by decide) rfl (fun ls hl => ?_)
                  refine lv_goto (tgt := 4) hx hb dB_3_1_64.1.1.1 (by decide) ?_
                  exact ih_1 y_27 y_26 _ _ _ (by omega) (by first | with_reducible assumption | omega | assumption) (by first | with_reducible assumption | omega | assumption) (by first | with_reducible assumption | omega | assumption) (by first | exact sum_0 | exact cnt_st v3_1 (by omega) (by omega) (by omega) | exact cnt_st v3_1 (by rw [hmi_ (by omega)]; omega) (by omega) (by omega)) hP hS (lv_sub hl [0, 1, 4, 5] rfl)
            · exact absurd c_22 (by decide)
        · have t_12 : y_11.toInt = (1 : Int32).toInt := congrArg Int32.toInt c_12
          refine lv_iconst (v := 1) hx hb dB_3_1_61.1.2.2.2 (by decide) ?_
          refine lv_goto (tgt := 40) hx hb dB_3_1_61.2.1.1.1 (by decide) ?_
          refine lv_istore (lv' := [(4, .int 1), (3, .int x3_1), (2, .int x2_1), (0, .ref mo), (1, .int a1)]) hx hb dB_3_1_61.2.1.2.1 hl (by decide) rfl (fun ls hl => ?_)
          have hSa_ : bt a1 (nF f6 x3_1.toNatClampNeg) = decide ((1 : Int32).toInt = 1) := by have h_ := bI_eq (c := (1 : Int32)) hA_ (by omega); rw [ey_9] at h_; exact h_
          refine lv_iload_n hx hb dB_3_1_61.2.1.2.2 rfl (lv_at hl 4 rfl) ?_
          refine lv_aload_n hx hb dB_3_1_61.2.2.1.1 rfl (lv_at hl 3 rfl) ?_
          refine va_get (ci := 12) (v := .ref g7) (C := RX12) (T := TX12) (N := 34) hx hb hts (fun _ h => List.mem_cons_of_mem _ (List.mem_append_right _ h)) hown hK.1 hP 0 rfl rfl 7 (by decide) (hts (.fieldLink RX12 16 "CutAtlasModel" "to" "[I") (List.mem_of_getElem? (i := 4) rfl)) (fun _ h9 => h9) rfl dB_3_1_61.2.2.1.2 ?_
          refine lv_iload_n hx hb dB_3_1_61.2.2.2.1 rfl (lv_at hl 1 rfl) ?_
          refine va_iald hx hb hK.1 hP 3 0 rfl rfl (i := x3_1) h_4 dB_3_1_61.2.2.2.2 ?_
          refine lv_topi (fun y_29 ey_29 => ?_)
          have ky_29 : y_29.toInt = (f7 x3_1.toNatClampNeg).toInt := by rw [ey_29]
          have ry_29 : 0 ≤ y_29.toInt ∧ y_29.toInt ≤ 11 := by rw [ey_29]; exact r_f7 _ (in_lt h_4)
          refine lv_ishr hx hb dB_3_1_62.1.1.1.1 ?_
          refine lv_topi (fun y_30 ey_30 => ?_)
          refine lv_iconst (v := 1) hx hb dB_3_1_62.1.1.1.2 (by decide) ?_
          refine lv_iand hx hb dB_3_1_62.1.1.2.1 ?_
          refine lv_topi (fun y_31 ey_31 => ?_)
          have hB_ := bI_w (x := a1) (y := y_29) (by omega) (by omega) ey_30 ey_31
          refine lv_iconst (v := 1) hx hb dB_3_1_62.1.1.2.2 (by decide) ?_
          refine lv_icmp_ne (tgt := 60) hx hb dB_3_1_62.1.2.1.1 (by decide) (fun c_32 => ?_) (fun c_32 => ?_)
          · have t_32 : ¬ y_31.toInt = (1 : Int32).toInt := fun h => c_32 (Int32.toInt_inj.mp h)
            refine lv_iconst (v := 0) hx hb dB_3_1_62.1.2.2.2 (by decide) ?_
            refine lv_istore (lv' := [(5, .int 0), (4, .int 1), (3, .int x3_1), (2, .int x2_1), (0, .ref mo), (1, .int a1)]) hx hb dB_3_1_62.2.1.1.1 hl (by decide) rfl (fun ls hl => ?_)
            have hSb_ : bt a1 (nF f7 x3_1.toNatClampNeg) = decide ((0 : Int32).toInt = 1) := by have h_ := bI_eq (c := (0 : Int32)) hB_ (by omega); rw [ey_29] at h_; exact h_
            refine lv_iload_n hx hb dB_3_1_62.2.1.1.2 rfl (lv_at hl 3 rfl) ?_
            refine lv_iload hx hb dB_3_1_62.2.1.2.1 (lv_at hl 1 rfl) ?_
            refine lv_if_eq (tgt := 83) hx hb dB_3_1_62.2.1.2.2 (by decide) (fun c_33 => ?_) (fun c_33 => ?_)
            · exact absurd c_33 (by decide)
            · have _ := c_33
              refine lv_iload hx hb dB_3_1_62.2.2.1.1 (lv_at hl 0 rfl) ?_
              refine lv_if_ne (tgt := 83) hx hb dB_3_1_62.2.2.1.2 (by decide) (fun c_34 => ?_) (fun c_34 => ?_)
              · exact absurd c_34 (by decide)
              · have _ := c_34
                refine lv_aload_n hx hb dB_3_1_62.2.2.2.1 rfl (lv_at hl 4 rfl) ?_
                refine lv_iload_n hx hb dB_3_1_62.2.2.2.2 rfl (lv_at hl 2 rfl) ?_
                refine lv_iconst (v := 1) hx hb dB_3_1_63.1.1.1.1 (by decide) ?_
                refine ct_R hP hD0 [ob12_0_ mo s0 s1 t2 s3 s4 g5 g6 g7 g8 g9 g10 s11 g12 g13 g14 g15 g16 g17 g18 g19 g20 s21 g22 g23 g24 s25 s26 s27 s28 g29 g30 g31 g32 g33, ai_ cy g5 40 f5, ai_ cy g8 40 f8] [0, 1, 4] (by decide) rfl (fun hPc hDw => ?_)
                have hFc := va_free (wc := []) hD hS hA [] rfl
                refine va_calli (va_runV (As := [.int x3_1, .int 1]) (rest := [.int x2_1]) ⟨hx, hb, hml, hown, hts⟩ (c_X12_room l D cy H.size mo g5 g6 g7 g8 g9 g10 g12 g13 g14 g15 g16 g17 g18 g19 g20 g22 g23 g24 g29 g30 g31 g32 g33 s0 s1 s3 s4 s11 s21 s25 s26 s27 s28 t2 f5 f8 x3_1 (1 : Int32) (by first | with_reducible assumption | omega | assumption)) (cwV 2 hts gX12_sizeOf_X12_room rfl rfl rfl ⟨rfl, hd_X12_room⟩ ⟨Nat.le_of_ble_eq_true rfl, Nat.le_of_ble_eq_true rfl⟩) ⟨bl_, va_recvX hK.1 hP (ci := 12) (q0 := 0) rfl rfl, fun U hU hW => ⟨rfl, by rw [hU], by rw [hU]; exact hPc, kk_mv hW hK, hDw⟩⟩ rfl rfl hl.1 rfl (lv_room (Nat.le_of_ble_eq_true rfl)) dB_3_1_63.1.1.1.2 ⟨Nat.le_of_ble_eq_true rfl, Nat.le_of_ble_eq_true rfl⟩) hS (fun q _ h => hFc q h) hFc (fun r_35 u t H locs ht hvm hw hB hz1 hk1 hS => ?_)
                have hP : va_P D vwCl _ H := ro_keep hP hk1
                have f0_r_35 := hw
                have hr_ : r_35.toInt = rmW (kF f5 x3_1.toNatClampNeg) (wF f8 s21.toInt x3_1.toNatClampNeg) 1 := (roomI f0_r_35 (r_f8 _ (by omega))).trans (by unfold kF wF; rw [cJ_]; rfl)
                refine lv_goto (tgt := 103) hx hb dB_3_1_63.1.1.2.1 (by decide) ?_
                have hv_ : r_35.toInt = clI_ (kF f5) (wF f8 s21.toInt) (kF f10) (nF f6) (nF f7) (bt a1) x3_1.toNatClampNeg := clI_at (c4 := (1 : Int32).toInt) (c5 := (0 : Int32).toInt) hg0_ hSa_ hSb_ (by (repeat' (first | with_reducible refine if_n (by omega) ?_ | with_reducible refine if_ns (by omega) ?_ | with_reducible refine if_nz (by omega) ?_ | with_reducible exact if_p (by omega) (by omega) | with_reducible exact if_ps (by omega) (by omega) | with_reducible exact if_pz (by omega) (by omega))) <;> omega)
                have hvb_ := clI_rng (k := kF f5) (g := kF f10) (s := nF f6) (e := nF f7) (S := bt a1) (wF_rng (r := s21.toInt) (j := x3_1.toNatClampNeg) r_f8 (by omega))
                refine lv_iadd hx hb dB_3_1_63.2.2.1.2 ?_
                refine lv_topi (fun y_36 ey_36 => ?_)
                have ty_36 : y_36.toInt = x2_1.toInt + r_35.toInt := by rw [ey_36]; exact addI (by omega) (by omega)
                refine lv_istore_n (lv' := [(2, .int y_36), (5, .int 0), (4, .int 1), (3, .int x3_1), (0, .ref mo), (1, .int a1)]) hx hb dB_3_1_63.2.2.2.1 rfl hl (by decide) rfl (fun ls hl => ?_)
                obtain ⟨y_37, ey_37⟩ : ∃ y : Int32, y = x3_1 + 1 := ⟨_, rfl⟩
                have ty_37 : y_37.toInt = x3_1.toInt + (1 : Int32).toInt := by rw [ey_37]; exact addI (by omega) (by omega)
                refine lv_iinc (v := y_37) (lv' := [(3, .int y_37), (2, .int y_36), (5, .int 0), (4, .int 1), (0, .ref mo), (1, .int a1)]) hx hb dB_3_1_63.2.2.2.2 hl (k := 3) rfl (by rw [ey_37]; rfl) (by decide) rfl (fun ls hl => ?_)
                refine lv_goto (tgt := 4) hx hb dB_3_1_64.1.1.1 (by decide) ?_
                exact ih_1 y_37 y_36 _ _ _ (by omega) (by first | with_reducible assumption | omega | assumption) (by first | with_reducible assumption | omega | assumption) (by first | with_reducible assumption | omega | assumption) (by first | exact sum_0 | exact cnt_st v3_1 (by omega) (by omega) (by omega) | exact cnt_st v3_1 (by rw [hmi_ (by omega)]; omega) (by omega) (by omega)) hP hS (lv_sub hl [0, 1, 4, 5] rfl)
          · have t_32 : y_31.toInt = (1 : Int32).toInt := congrArg Int32.toInt c_32
            refine lv_iconst (v := 1) hx hb dB_3_1_62.1.2.1.2 (by decide) ?_
            refine lv_goto (tgt := 61) hx hb dB_3_1_62.1.2.2.1 (by decide) ?_
            refine lv_istore (lv' := [(5, .int 1), (4, .int 1), (3, .int x3_1), (2, .int x2_1), (0, .ref mo), (1, .int a1)]) hx hb dB_3_1_62.2.1.1.1 hl (by decide) rfl (fun ls hl => ?_)
            have hSb_ : bt a1 (nF f7 x3_1.toNatClampNeg) = decide ((1 : Int32).toInt = 1) := by have h_ := bI_eq (c := (1 : Int32)) hB_ (by omega); rw [ey_29] at h_; exact h_
            refine lv_iload_n hx hb dB_3_1_62.2.1.1.2 rfl (lv_at hl 3 rfl) ?_
            refine lv_iload hx hb dB_3_1_62.2.1.2.1 (lv_at hl 1 rfl) ?_
            refine lv_if_eq (tgt := 83) hx hb dB_3_1_62.2.1.2.2 (by decide) (fun c_38 => ?_) (fun c_38 => ?_)
            · exact absurd c_38 (by decide)
            · have _ := c_38
              refine lv_iload hx hb dB_3_1_62.2.2.1.1 (lv_at hl 0 rfl) ?_
              refine lv_if_ne (tgt := 83) hx hb dB_3_1_62.2.2.1.2 (by decide) (fun c_39 => ?_) (fun c_39 => ?_)
              · have _ := c_39
                refine lv_iload hx hb dB_3_1_63.1.1.2.2 (lv_at hl 0 rfl) ?_
                refine lv_if_eq (tgt := 102) hx hb dB_3_1_63.1.2.1.1 (by decide) (fun c_40 => ?_) (fun c_40 => ?_)
                · exact absurd c_40 (by decide)
                · have _ := c_40
                  refine lv_iload hx hb dB_3_1_63.1.2.1.2 (lv_at hl 1 rfl) ?_
                  refine lv_if_ne (tgt := 102) hx hb dB_3_1_63.1.2.2.1 (by decide) (fun c_41 => ?_) (fun c_41 => ?_)
                  · have _ := c_41
                    refine lv_iconst (v := 0) hx hb dB_3_1_63.2.2.1.1 (by decide) ?_
                    have hv_ : (0 : Int32).toInt = clI_ (kF f5) (wF f8 s21.toInt) (kF f10) (nF f6) (nF f7) (bt a1) x3_1.toNatClampNeg := clI_at (c4 := (1 : Int32).toInt) (c5 := (1 : Int32).toInt) hg0_ hSa_ hSb_ (by (repeat' (first | with_reducible refine if_n (by omega) ?_ | with_reducible refine if_ns (by omega) ?_ | with_reducible refine if_nz (by omega) ?_ | with_reducible exact if_p (by omega) (by omega) | with_reducible exact if_ps (by omega) (by omega) | with_reducible exact if_pz (by omega) (by omega))) <;> omega)
                    have hvb_ := clI_rng (k := kF f5) (g := kF f10) (s := nF f6) (e := nF f7) (S := bt a1) (wF_rng (r := s21.toInt) (j := x3_1.toNatClampNeg) r_f8 (by omega))
                    refine lv_iadd hx hb dB_3_1_63.2.2.1.2 ?_
                    refine lv_topi (fun y_42 ey_42 => ?_)
                    have ty_42 : y_42.toInt = x2_1.toInt + (0 : Int32).toInt := by rw [ey_42]; exact addI (by omega) (by omega)
                    refine lv_istore_n (lv' := [(2, .int y_42), (5, .int 1), (4, .int 1), (3, .int x3_1), (0, .ref mo), (1, .int a1)]) hx hb dB_3_1_63.2.2.2.1 rfl hl (by decide) rfl (fun ls hl => ?_)
                    obtain ⟨y_43, ey_43⟩ : ∃ y : Int32, y = x3_1 + 1 := ⟨_, rfl⟩
                    have ty_43 : y_43.toInt = x3_1.toInt + (1 : Int32).toInt := by rw [ey_43]; exact addI (by omega) (by omega)
                    refine lv_iinc (v := y_43) (lv' := [(3, .int y_43), (2, .int y_42), (5, .int 1), (4, .int 1), (0, .ref mo), (1, .int a1)]) hx hb dB_3_1_63.2.2.2.2 hl (k := 3) rfl (by rw [ey_43]; rfl) (by decide) rfl (fun ls hl => ?_)
                    refine lv_goto (tgt := 4) hx hb dB_3_1_64.1.1.1 (by decide) ?_
                    exact ih_1 y_43 y_42 _ _ _ (by omega) (by first | with_reducible assumption | omega | assumption) (by first | with_reducible assumption | omega | assumption) (by first | with_reducible assumption | omega | assumption) (by first | exact sum_0 | exact cnt_st v3_1 (by omega) (by omega) (by omega) | exact cnt_st v3_1 (by rw [hmi_ (by omega)]; omega) (by omega) (by omega)) hP hS (lv_sub hl [0, 1, 4, 5] rfl)
                  · exact absurd c_41 (by decide)
              · exact absurd c_39 (by decide)

set_option maxHeartbeats 4000000 in
set_option maxRecDepth 100000 in
theorem c_X12_size2 (l : Launch) (D : va_G) (cy : Nat → ClassId) (sz : Nat) (mo : Nat) (g5 : Nat) (g6 : Nat) (g7 : Nat) (g8 : Nat) (g9 : Nat) (g10 : Nat) (g12 : Nat) (g13 : Nat) (g14 : Nat) (g15 : Nat) (g16 : Nat) (g17 : Nat) (g18 : Nat) (g19 : Nat) (g20 : Nat) (g22 : Nat) (g23 : Nat) (g24 : Nat) (g29 : Nat) (g30 : Nat) (g31 : Nat) (g32 : Nat) (g33 : Nat) (s0 : Int32) (s1 : Int32) (s3 : Int32) (s4 : Int32) (s11 : Int32) (s21 : Int32) (s25 : Int32) (s26 : Int32) (s27 : Int32) (s28 : Int32) (t2 : Int64) (f5 : Nat → Int32) (f6 : Nat → Int32) (f7 : Nat → Int32) (f8 : Nat → Int32) (f10 : Nat → Int32) (a1 : Int32) (a2 : Int32) (a3 : Int32) (hN : 0 ≤ s4.toInt ∧ s4.toInt ≤ 40) (hPl : 0 ≤ s3.toInt ∧ s3.toInt ≤ 12) (h21 : s21 = (-9)) (hnet : netE s3.toInt s4.toInt f6 f7 f10) (r_f6 : rng f6 40 (0) (11)) (r_f7 : rng f7 40 (0) (11)) (r_f8 : rng f8 40 (0) (2000)) : Met l yX12_size wsX12_size ({ frames := 3, cells := 0, slots := 0, locals := 71 }) (va_Pc [.ref mo, .int a1, .int a2, .int a3] (fun U => U.heap.size = sz ∧ va_P D vwCl [ob12_0_ mo s0 s1 t2 s3 s4 g5 g6 g7 g8 g9 g10 s11 g12 g13 g14 g15 g16 g17 g18 g19 g20 s21 g22 g23 g24 s25 s26 s27 s28 g29 g30 g31 g32 g33, ai_ cy g5 40 f5, ai_ cy g6 40 f6, ai_ cy g7 40 f7, ai_ cy g8 40 f8, az_ cy g10 40 f10] U.heap ∧ kk_ D cy U ∧ va_D (fun _ => True) [ob12_0_ mo s0 s1 t2 s3 s4 g5 g6 g7 g8 g9 g10 s11 g12 g13 g14 g15 g16 g17 g18 g19 g20 s21 g22 g23 g24 s25 s26 s27 s28 g29 g30 g31 g32 g33, ai_ cy g5 40 f5, ai_ cy g6 40 f6, ai_ cy g7 40 f7, ai_ cy g8 40 f8, az_ cy g10 40 f10])) (va_Qi (fun (r : Int32) (_ : Unit) => ((mgI a1.toInt a2.toInt s3.toInt = 0 → r.toInt = tldI (cutR f5 f6 f7 f8 f10 (-9) s4.toNatClampNeg (setS a3 a1.toNatClampNeg a2.toNatClampNeg))) ∧ (mgI a1.toInt a2.toInt s3.toInt ≠ 0 → r.toInt = -1))) (fun (_ : Unit) (t : State) => va_P D vwCl [ob12_0_ mo 0 s1 t2 s3 s4 g5 g6 g7 g8 g9 g10 s11 g12 g13 g14 g15 g16 g17 g18 g19 g20 s21 g22 g23 g24 s25 s26 s27 s28 g29 g30 g31 g32 g33, ai_ cy g5 40 f5, ai_ cy g6 40 f6, ai_ cy g7 40 f7, ai_ cy g8 40 f8, az_ cy g10 40 f10] t.heap ∧ va_D (va_A [ob12_0_ mo s0 s1 t2 s3 s4 g5 g6 g7 g8 g9 g10 s11 g12 g13 g14 g15 g16 g17 g18 g19 g20 s21 g22 g23 g24 s25 s26 s27 s28 g29 g30 g31 g32 g33, ai_ cy g5 40 f5, ai_ cy g6 40 f6, ai_ cy g7 40 f7, ai_ cy g8 40 f8, az_ cy g10 40 f10] sz) [ob12_0_ mo 0 s1 t2 s3 s4 g5 g6 g7 g8 g9 g10 s11 g12 g13 g14 g15 g16 g17 g18 g19 g20 s21 g22 g23 g24 s25 s26 s27 s28 g29 g30 g31 g32 g33, ai_ cy g5 40 f5, ai_ cy g6 40 f6, ai_ cy g7 40 f7, ai_ cy g8 40 f8, az_ cy g10 40 f10]) (va_A [ob12_0_ mo s0 s1 t2 s3 s4 g5 g6 g7 g8 g9 g10 s11 g12 g13 g14 g15 g16 g17 g18 g19 g20 s21 g22 g23 g24 s25 s26 s27 s28 g29 g30 g31 g32 g33, ai_ cy g5 40 f5, ai_ cy g6 40 f6, ai_ cy g7 40 f7, ai_ cy g8 40 f8, az_ cy g10 40 f10] sz)) 0 0 (va_A [ob12_0_ mo s0 s1 t2 s3 s4 g5 g6 g7 g8 g9 g10 s11 g12 g13 g14 g15 g16 g17 g18 g19 g20 s21 g22 g23 g24 s25 s26 s27 s28 g29 g30 g31 g32 g33, ai_ cy g5 40 f5, ai_ cy g6 40 f6, ai_ cy g7 40 f7, ai_ cy g8 40 f8, az_ cy g10 40 f10] sz) := by
  refine ofQ (cc := cX12_size) (maxL := 5) (ret := (some .int)) (by decide) rfl ?_
  intro p e s m args below meth c s₁ Q hQ B hml hv
  obtain ⟨rfl, hsz, hP, hK, hD0⟩ := hv
  have hx := B.exec
  have hb := B.bytes
  have hr := B.returns
  have hts := atoms_spec (ws := wsX12_size) B.pre
  have hown : s.vm.findClass RX12 = some m.cls := by have h_ := findClass_of_methodNamed B.named; exact h_
  have hlocks := B.notSynchronized
  subst hsz
  have hD := hD0.self (sz := s.heap.size)
  generalize hAe : va_A [ob12_0_ mo s0 s1 t2 s3 s4 g5 g6 g7 g8 g9 g10 s11 g12 g13 g14 g15 g16 g17 g18 g19 g20 s21 g22 g23 g24 s25 s26 s27 s28 g29 g30 g31 g32 g33, ai_ cy g5 40 f5, ai_ cy g6 40 f6, ai_ cy g7 40 f7, ai_ cy g8 40 f8, az_ cy g10 40 f10] s.heap.size = A at hD hQ
  have hA : ∀ q : Nat, s.heap.size ≤ q → A q := fun q h => by rw [← hAe]; exact Or.inr h
  have hS : va_S A s.heap s.heap [] := va_S.rf
  have hl := lv_entry ([.ref mo, .int a1, .int a2, .int a3]) (n := 5) (Nat.le_of_ble_eq_true rfl)
  rw [lg_entry_eq]
  generalize (lg_sl ([.ref mo, .int a1, .int a2, .int a3]) ++ List.replicate (5 - (lg_sl ([.ref mo, .int a1, .int a2, .int a3])).length) Slot.unset).toArray = ls at hl ⊢
  have hl : lv_has ls 5 [(0, .ref mo), (1, .int a1), (2, .int a2), (3, .int a3)] := hl
  have zm1 : ((-1) : Int32).toInt = -1 := by decide
  have z0 : (0 : Int32).toInt = 0 := by decide
  have z1 : (1 : Int32).toInt = 1 := by decide
  have zq0 : (0 : Int32).toInt = 0 := by decide
  have zq1 : (1 : Int32).toInt = 1 := by decide
  have zq2 : (2 : Int32).toInt = 2 := by decide
  have zq3 : (3 : Int32).toInt = 3 := by decide
  have zq4 : (4 : Int32).toInt = 4 := by decide
  have zq5 : (5 : Int32).toInt = 5 := by decide
  have zqm9 : ((-9) : Int32).toInt = -9 := by decide
  have h21i_ : s21.toInt = -9 := by rw [h21]; decide
  refine lv_aload_n hx hb dB_3_1_57.1.1.1.1 rfl (lv_at hl 0 rfl) ?_
  refine lv_iconst (v := 0) hx hb dB_3_1_57.1.1.1.2 (by decide) ?_
  refine va_put (ci := 12) (v := .int 0) (ty := .int) (C := RX12) (T := TX12) (N := 34) hx hb hts (fun _ h => List.mem_cons_of_mem _ (List.mem_append_right _ h)) tyX12 tyX12_ok nmX12 hown hK.1 hP hD hS 0 rfl rfl 0 (by decide) (hts (.fieldLink RX12 85 "CutAtlasModel" "thrown" "I") (List.mem_of_getElem? (i := 1) rfl)) (fun _ h9 => h9) rfl (by decide +kernel) rfl rfl (Nat.le_of_ble_eq_true rfl) dB_3_1_57.1.1.2.1 (fun H locs hP hD hS => ?_)
  refine pd_K [ob12_0_ mo 0 s1 t2 s3 s4 g5 g6 g7 g8 g9 g10 s11 g12 g13 g14 g15 g16 g17 g18 g19 g20 s21 g22 g23 g24 s25 s26 s27 s28 g29 g30 g31 g32 g33, ai_ cy g5 40 f5, ai_ cy g6 40 f6, ai_ cy g7 40 f7, ai_ cy g8 40 f8, az_ cy g10 40 f10] hP hD (fun hP hD => ?_)
  refine lv_aload_n hx hb dB_3_1_57.1.1.2.2 rfl (lv_at hl 0 rfl) ?_
  refine lv_iload_n hx hb dB_3_1_57.1.2.1.1 rfl (lv_at hl 1 rfl) ?_
  refine lv_iload_n hx hb dB_3_1_57.1.2.1.2 rfl (lv_at hl 2 rfl) ?_
  refine ct_R hP hD [ob12_0_ mo 0 s1 t2 s3 s4 g5 g6 g7 g8 g9 g10 s11 g12 g13 g14 g15 g16 g17 g18 g19 g20 s21 g22 g23 g24 s25 s26 s27 s28 g29 g30 g31 g32 g33] [0] (by decide) rfl (fun hPc hDw => ?_)
  have hFc := va_free (wc := []) hD hS hA [] rfl
  refine va_calli (va_runV (As := [.int a1, .int a2]) (rest := []) ⟨hx, hb, hml, hown, hts⟩ (c_X12_arePlaces l D cy H.size mo g5 g6 g7 g8 g9 g10 g12 g13 g14 g15 g16 g17 g18 g19 g20 g22 g23 g24 g29 g30 g31 g32 g33 (0 : Int32) s1 s3 s4 s11 s21 s25 s26 s27 s28 t2 a1 a2 (by first | with_reducible assumption | omega | assumption)) (cwV 2 hts gX12_size_X12_arePlaces rfl rfl rfl ⟨rfl, hd_X12_arePlaces⟩ ⟨Nat.le_of_ble_eq_true rfl, Nat.le_of_ble_eq_true rfl⟩) ⟨bl_, va_recvX hK.1 hP (ci := 12) (q0 := 0) rfl rfl, fun U hU hW => ⟨rfl, by rw [hU], by rw [hU]; exact hPc, kk_mv hW hK, hDw⟩⟩ rfl rfl hl.1 rfl (lv_room (Nat.le_of_ble_eq_true rfl)) dB_3_1_57.1.2.2.1 ⟨Nat.le_of_ble_eq_true rfl, Nat.le_of_ble_eq_true rfl⟩) hS (fun q _ h => hFc q h) hFc (fun r_1 u t H locs ht hvm hw hB hz1 hk1 hS => ?_)
  have hP : va_P D vwCl _ H := ro_keep hP hk1
  rcases hw with ⟨w_2, e_⟩ | ⟨w_2, e_⟩
  · have e_ := e_.symm
    subst e_
    refine lv_if_ne (tgt := 16) hx hb dB_3_1_57.1.2.2.2 (by decide) (fun c_3 => ?_) (fun c_3 => ?_)
    · have _ := c_3
      refine lv_iconst (v := 1) hx hb dB_3_1_57.2.1.2.1 (by decide) ?_
      refine lv_aload_n hx hb dB_3_1_57.2.1.2.2 rfl (lv_at hl 0 rfl) ?_
      refine va_get (ci := 12) (v := .int s3) (C := RX12) (T := TX12) (N := 34) hx hb hts (fun _ h => List.mem_cons_of_mem _ (List.mem_append_right _ h)) hown hK.1 hP 0 rfl rfl 3 (by decide) (hts (.fieldLink RX12 88 "CutAtlasModel" "places" "I") (List.mem_of_getElem? (i := 2) rfl)) (fun _ h9 => h9) rfl dB_3_1_57.2.2.1.1 ?_
      refine lv_ishl hx hb dB_3_1_57.2.2.1.2 ?_
      refine lv_topi (fun y_4 ey_4 => ?_)
      refine lv_iconst (v := 1) hx hb dB_3_1_57.2.2.2.1 (by decide) ?_
      refine lv_isub hx hb dB_3_1_57.2.2.2.2 ?_
      refine lv_topi (fun y_5 ey_5 => ?_)
      refine lv_istore (lv' := [(4, .int y_5), (0, .ref mo), (1, .int a1), (2, .int a2), (3, .int a3)]) hx hb dB_3_1_58.1.1.1.1 hl (by decide) rfl (fun ls hl => ?_)
      refine lv_aload_n hx hb dB_3_1_58.1.1.1.2 rfl (lv_at hl 1 rfl) ?_
      refine lv_iload_n hx hb dB_3_1_58.1.1.2.1 rfl (lv_at hl 4 rfl) ?_
      refine lv_iload hx hb dB_3_1_58.1.1.2.2 (lv_at hl 0 rfl) ?_
      refine lv_iand hx hb dB_3_1_58.1.2.1.1 ?_
      refine lv_topi (fun y_6 ey_6 => ?_)
      refine lv_iconst (v := 1) hx hb dB_3_1_58.1.2.1.2 (by decide) ?_
      refine lv_iload_n hx hb dB_3_1_58.1.2.2.1 rfl (lv_at hl 2 rfl) ?_
      refine lv_ishl hx hb dB_3_1_58.1.2.2.2 ?_
      refine lv_topi (fun y_7 ey_7 => ?_)
      refine lv_ior hx hb dB_3_1_58.2.1.1.1 ?_
      refine lv_topi (fun y_8 ey_8 => ?_)
      refine lv_iconst (v := 1) hx hb dB_3_1_58.2.1.1.2 (by decide) ?_
      refine lv_iload_n hx hb dB_3_1_58.2.1.2.1 rfl (lv_at hl 3 rfl) ?_
      refine lv_ishl hx hb dB_3_1_58.2.1.2.2 ?_
      refine lv_topi (fun y_9 ey_9 => ?_)
      refine lv_iconst (v := (-1)) hx hb dB_3_1_58.2.2.1.1 (by decide) ?_
      refine lv_ixor hx hb dB_3_1_58.2.2.1.2 ?_
      refine lv_topi (fun y_10 ey_10 => ?_)
      refine lv_iand hx hb dB_3_1_58.2.2.2.1 ?_
      refine lv_topi (fun y_11 ey_11 => ?_)
      have hS_ : cutR f5 f6 f7 f8 f10 s21.toInt s4.toNatClampNeg (bt y_11) = cutR f5 f6 f7 f8 f10 (-9) s4.toNatClampNeg (setS a3 a1.toNatClampNeg a2.toNatClampNeg) := by rw [h21i_]; exact cutR_set hnet r_f6 r_f7 hN.2 hPl.1 (fun x hx => mask_r (by omega) (by omega) hPl ey_4 ey_5 ey_6 ey_7 ey_8 ey_9 ey_10 ey_11 hx)
      refine ct_R hP hD [ob12_0_ mo 0 s1 t2 s3 s4 g5 g6 g7 g8 g9 g10 s11 g12 g13 g14 g15 g16 g17 g18 g19 g20 s21 g22 g23 g24 s25 s26 s27 s28 g29 g30 g31 g32 g33, ai_ cy g5 40 f5, ai_ cy g6 40 f6, ai_ cy g7 40 f7, ai_ cy g8 40 f8, az_ cy g10 40 f10] [0, 1, 2, 3, 4, 5] (by decide) rfl (fun hPc hDw => ?_)
      have hFc := va_free (wc := []) hD hS hA [] rfl
      refine va_calli (va_runV (As := [.int y_11]) (rest := []) ⟨hx, hb, hml, hown, hts⟩ (c_X12_sizeOf2 l D cy H.size mo g5 g6 g7 g8 g9 g10 g12 g13 g14 g15 g16 g17 g18 g19 g20 g22 g23 g24 g29 g30 g31 g32 g33 (0 : Int32) s1 s3 s4 s11 s21 s25 s26 s27 s28 t2 f5 f6 f7 f8 f10 y_11 (by first | with_reducible assumption | omega | assumption) (by first | with_reducible assumption | assumption | omega) (by first | with_reducible assumption | assumption | omega) (by first | with_reducible assumption | assumption | omega)) (cwV 1 hts gX12_size_X12_sizeOf rfl rfl rfl ⟨rfl, hd_X12_sizeOf⟩ ⟨Nat.le_of_ble_eq_true rfl, Nat.le_of_ble_eq_true rfl⟩) ⟨bl_, va_recvX hK.1 hP (ci := 12) (q0 := 0) rfl rfl, fun U hU hW => ⟨rfl, by rw [hU], by rw [hU]; exact hPc, kk_mv hW hK, hDw⟩⟩ rfl rfl hl.1 rfl (lv_room (Nat.le_of_ble_eq_true rfl)) dB_3_1_58.2.2.2.2 ⟨Nat.le_of_ble_eq_true rfl, Nat.le_of_ble_eq_true rfl⟩) hS (fun q _ h => hFc q h) hFc (fun r_12 u t H locs ht hvm hw hB hz1 hk1 hS => ?_)
      have hP : va_P D vwCl _ H := ro_keep hP hk1
      have f0_r_12 := hw
      have hz_ := f0_r_12
      refine ct_R hP hD [] [] (by decide) rfl (fun hPc hDw => ?_)
      have hFc := va_free (wc := []) hD hS hA [] rfl
      refine va_calli (va_runS (As := [.int r_12]) (rest := []) ⟨hx, hb, hml, hown, hts⟩ (c_X12_asTold2 l D cy H.size r_12) (va_cwS 1 hts gX12_size_X12_asTold rfl rfl rfl hd_X12_asTold ⟨Nat.le_of_ble_eq_true rfl, Nat.le_of_ble_eq_true rfl⟩) ⟨bl_, fun U hU hW => ⟨rfl, by rw [hU], by rw [hU]; exact hPc, kk_mv hW hK, hDw⟩⟩ rfl rfl hl.1 rfl (lv_room (Nat.le_of_ble_eq_true rfl)) dB_3_1_59.1 ⟨Nat.le_of_ble_eq_true rfl, Nat.le_of_ble_eq_true rfl⟩) hS (fun q _ h => hFc q h) hFc (fun r_13 u t H locs ht hvm hw hB hz1 hk1 hS => ?_)
      have hP : va_P D vwCl _ H := ro_keep hP hk1
      have f0_r_13 := hw
      rw [hQ]
      exact W.iret (v := r_13) hx hb hr (fun t ht hW => ⟨⟨r_13, (), rfl, (⟨fun _ => told_mn (hz_.trans (congrArg mn6 hS_)) f0_r_13, fun h => absurd (by unfold mgI; (repeat' (first | with_reducible refine if_n (by omega) ?_ | with_reducible refine if_ns (by omega) ?_ | with_reducible refine if_nz (by omega) ?_ | with_reducible exact if_p (by omega) (by omega) | with_reducible exact if_ps (by omega) (by omega) | with_reducible exact if_pz (by omega) (by omega))) <;> omega) h⟩), by rw [ht]; exact hP, hD⟩, hS.F ht⟩) hS.2.2 dB_3_1_59.2
    · exact absurd c_3 (by decide)
  · have e_ := e_.symm
    subst e_
    refine lv_if_ne (tgt := 16) hx hb dB_3_1_57.1.2.2.2 (by decide) (fun c_14 => ?_) (fun c_14 => ?_)
    · exact absurd c_14 (by decide)
    · have _ := c_14
      refine lv_iconst (v := (-1)) hx hb dB_3_1_57.2.1.1.1 (by decide) ?_
      rw [hQ]
      exact W.iret (v := (-1)) hx hb hr (fun t ht hW => ⟨⟨(-1), (), rfl, (⟨fun h => absurd h (by unfold mgI; (repeat' (first | with_reducible refine if_n (by omega) ?_ | with_reducible refine if_ns (by omega) ?_ | with_reducible refine if_nz (by omega) ?_ | with_reducible exact if_p (by omega) (by omega) | with_reducible exact if_ps (by omega) (by omega) | with_reducible exact if_pz (by omega) (by omega))) <;> omega), fun _ => by decide⟩), by rw [ht]; exact hP, hD⟩, hS.F ht⟩) hS.2.2 dB_3_1_57.2.1.1.2

set_option maxHeartbeats 4000000 in
set_option maxRecDepth 100000 in
theorem c_X11_size2 (l : Launch) (D : va_G) (cy : Nat → ClassId) (sz : Nat) (xo : Nat) (xk : Nat) (xn : Nat) (xc : Nat) (xh : Nat) (xt : Nat) (xw : Nat) (xm : Nat) (xp : Nat) (pf : Int32) (ph : Int32) (tr : Int64) (fi : Int32) (n1 : Nat) (n2 : Nat) (n3 : Nat) (n4 : Nat) (n5 : Nat) (vp : Int32) (vn : Int32) (clo : Nat) (cro : Nat) (c4 : Nat) (c5 : Nat) (c6 : Nat) (c7 : Nat) (c8 : Nat) (fk : Nat → Int32) (fs : Nat → Int32) (fe : Nat → Int32) (fw : Nat → Int32) (fp : Nat → Int32) (rl : Nat → Nat) (Ml : Nat → Nat → Int32) (rr : Nat → Nat) (Mr : Nat → Nat → Int32) (f4 : Nat → Int32) (f5 : Nat → Int32) (f6 : Nat → Int32) (f7 : Nat → Int32) (f8 : Nat → Int32) (k0 : Nat) (k1 : Nat) (k2 : Nat) (k3 : Nat) (k4 : Nat) (a1 : Int32) (a2 : Int32) (a3 : Int32) (hvp : 0 ≤ vp.toInt ∧ vp.toInt ≤ 12) (hvn : 0 ≤ vn.toInt ∧ vn.toInt ≤ 40) (hnc : netC vp.toInt vn.toInt fs fe) (hpr : prng fs fe 40) (r_f7 : rng f7 12 (0) (11)) (r_f8 : rng f8 12 (0) (11)) (r_fk : rng fk 40 (0) (4)) (r_fw : rng fw 40 (0) (2000)) : Met l yX11_size wsX11_size ({ frames := 3, cells := 0, slots := 0, locals := 68 }) (va_Pc [.ref xo, .int a1, .int a2, .int a3] (fun U => U.heap.size = sz ∧ va_P D vwCl [ob11_0_ xo xk xn xc xh xt xw xm xp pf ph tr fi, ob3_0_ xn vp vn n1 n2 n3 n4 n5, ai_ cy n1 40 fk, ai_ cy n2 40 fs, ai_ cy n3 40 fe, ai_ cy n4 40 fw, ai_ cy n5 40 fp, ob0_0_ xc xn xk clo cro c4 c5 c6 c7 c8, aq_ cy 6 clo 12 (gf_ rl), ai_ cy (rl 0) 12 (Ml 0), ai_ cy (rl 1) 12 (Ml 1), ai_ cy (rl 2) 12 (Ml 2), ai_ cy (rl 3) 12 (Ml 3), ai_ cy (rl 4) 12 (Ml 4), ai_ cy (rl 5) 12 (Ml 5), ai_ cy (rl 6) 12 (Ml 6), ai_ cy (rl 7) 12 (Ml 7), ai_ cy (rl 8) 12 (Ml 8), ai_ cy (rl 9) 12 (Ml 9), ai_ cy (rl 10) 12 (Ml 10), ai_ cy (rl 11) 12 (Ml 11), aq_ cy 6 cro 12 (gf_ rr), ai_ cy (rr 0) 12 (Mr 0), ai_ cy (rr 1) 12 (Mr 1), ai_ cy (rr 2) 12 (Mr 2), ai_ cy (rr 3) 12 (Mr 3), ai_ cy (rr 4) 12 (Mr 4), ai_ cy (rr 5) 12 (Mr 5), ai_ cy (rr 6) 12 (Mr 6), ai_ cy (rr 7) 12 (Mr 7), ai_ cy (rr 8) 12 (Mr 8), ai_ cy (rr 9) 12 (Mr 9), ai_ cy (rr 10) 12 (Mr 10), ai_ cy (rr 11) 12 (Mr 11), ai_ cy c4 40 f4, ai_ cy c5 40 f5, ai_ cy c6 40 f6, ai_ cy c7 12 f7, ai_ cy c8 12 f8, aq_ cy 3 xk 5 (kf_ k0 k1 k2 k3 k4), ob6_0_ k0, ob5_0_ k1, ob9_0_ k2, ob2_0_ k3, ob8_0_ k4] U.heap ∧ kg_ D cy U ∧ va_D (fun _ => True) [ob11_0_ xo xk xn xc xh xt xw xm xp pf ph tr fi, ob3_0_ xn vp vn n1 n2 n3 n4 n5, ai_ cy n1 40 fk, ai_ cy n2 40 fs, ai_ cy n3 40 fe, ai_ cy n4 40 fw, ai_ cy n5 40 fp, ob0_0_ xc xn xk clo cro c4 c5 c6 c7 c8, aq_ cy 6 clo 12 (gf_ rl), ai_ cy (rl 0) 12 (Ml 0), ai_ cy (rl 1) 12 (Ml 1), ai_ cy (rl 2) 12 (Ml 2), ai_ cy (rl 3) 12 (Ml 3), ai_ cy (rl 4) 12 (Ml 4), ai_ cy (rl 5) 12 (Ml 5), ai_ cy (rl 6) 12 (Ml 6), ai_ cy (rl 7) 12 (Ml 7), ai_ cy (rl 8) 12 (Ml 8), ai_ cy (rl 9) 12 (Ml 9), ai_ cy (rl 10) 12 (Ml 10), ai_ cy (rl 11) 12 (Ml 11), aq_ cy 6 cro 12 (gf_ rr), ai_ cy (rr 0) 12 (Mr 0), ai_ cy (rr 1) 12 (Mr 1), ai_ cy (rr 2) 12 (Mr 2), ai_ cy (rr 3) 12 (Mr 3), ai_ cy (rr 4) 12 (Mr 4), ai_ cy (rr 5) 12 (Mr 5), ai_ cy (rr 6) 12 (Mr 6), ai_ cy (rr 7) 12 (Mr 7), ai_ cy (rr 8) 12 (Mr 8), ai_ cy (rr 9) 12 (Mr 9), ai_ cy (rr 10) 12 (Mr 10), ai_ cy (rr 11) 12 (Mr 11), ai_ cy c4 40 f4, ai_ cy c5 40 f5, ai_ cy c6 40 f6, ai_ cy c7 12 f7, ai_ cy c8 12 f8, aq_ cy 3 xk 5 (kf_ k0 k1 k2 k3 k4), ob6_0_ k0, ob5_0_ k1, ob9_0_ k2, ob2_0_ k3, ob8_0_ k4])) (va_Qi (fun (r : Int32) (_ : Unit) => ((mgI a1.toInt a2.toInt vp.toInt = 0 → r.toInt = tldI (cutF fk fs fe fw (-9) vn.toNatClampNeg (setS a3 a1.toNatClampNeg a2.toNatClampNeg))) ∧ (mgI a1.toInt a2.toInt vp.toInt ≠ 0 → r.toInt = -1))) (fun (_ : Unit) (t : State) => ∃ (eMl : Nat → Nat → Int32), ∃ (eMr : Nat → Nat → Int32), ∃ (e4 : Nat → Int32), ∃ (e5 : Nat → Int32), ∃ (e6 : Nat → Int32), ∃ (e7 : Nat → Int32), ∃ (e8 : Nat → Int32), (rng e7 12 (0) (11)) ∧ (rng e8 12 (0) (11)) ∧ va_P D vwCl [ob11_0_ xo xk xn xc xh xt xw xm xp pf ph tr fi, ob3_0_ xn vp vn n1 n2 n3 n4 n5, ai_ cy n1 40 fk, ai_ cy n2 40 fs, ai_ cy n3 40 fe, ai_ cy n4 40 fw, ai_ cy n5 40 fp, ob0_0_ xc xn xk clo cro c4 c5 c6 c7 c8, aq_ cy 6 clo 12 (gf_ rl), ai_ cy (rl 0) 12 (eMl 0), ai_ cy (rl 1) 12 (eMl 1), ai_ cy (rl 2) 12 (eMl 2), ai_ cy (rl 3) 12 (eMl 3), ai_ cy (rl 4) 12 (eMl 4), ai_ cy (rl 5) 12 (eMl 5), ai_ cy (rl 6) 12 (eMl 6), ai_ cy (rl 7) 12 (eMl 7), ai_ cy (rl 8) 12 (eMl 8), ai_ cy (rl 9) 12 (eMl 9), ai_ cy (rl 10) 12 (eMl 10), ai_ cy (rl 11) 12 (eMl 11), aq_ cy 6 cro 12 (gf_ rr), ai_ cy (rr 0) 12 (eMr 0), ai_ cy (rr 1) 12 (eMr 1), ai_ cy (rr 2) 12 (eMr 2), ai_ cy (rr 3) 12 (eMr 3), ai_ cy (rr 4) 12 (eMr 4), ai_ cy (rr 5) 12 (eMr 5), ai_ cy (rr 6) 12 (eMr 6), ai_ cy (rr 7) 12 (eMr 7), ai_ cy (rr 8) 12 (eMr 8), ai_ cy (rr 9) 12 (eMr 9), ai_ cy (rr 10) 12 (eMr 10), ai_ cy (rr 11) 12 (eMr 11), ai_ cy c4 40 e4, ai_ cy c5 40 e5, ai_ cy c6 40 e6, ai_ cy c7 12 e7, ai_ cy c8 12 e8, aq_ cy 3 xk 5 (kf_ k0 k1 k2 k3 k4), ob6_0_ k0, ob5_0_ k1, ob9_0_ k2, ob2_0_ k3, ob8_0_ k4] t.heap ∧ va_D (va_A [ob11_0_ xo xk xn xc xh xt xw xm xp pf ph tr fi, ob3_0_ xn vp vn n1 n2 n3 n4 n5, ai_ cy n1 40 fk, ai_ cy n2 40 fs, ai_ cy n3 40 fe, ai_ cy n4 40 fw, ai_ cy n5 40 fp, ob0_0_ xc xn xk clo cro c4 c5 c6 c7 c8, aq_ cy 6 clo 12 (gf_ rl), ai_ cy (rl 0) 12 (Ml 0), ai_ cy (rl 1) 12 (Ml 1), ai_ cy (rl 2) 12 (Ml 2), ai_ cy (rl 3) 12 (Ml 3), ai_ cy (rl 4) 12 (Ml 4), ai_ cy (rl 5) 12 (Ml 5), ai_ cy (rl 6) 12 (Ml 6), ai_ cy (rl 7) 12 (Ml 7), ai_ cy (rl 8) 12 (Ml 8), ai_ cy (rl 9) 12 (Ml 9), ai_ cy (rl 10) 12 (Ml 10), ai_ cy (rl 11) 12 (Ml 11), aq_ cy 6 cro 12 (gf_ rr), ai_ cy (rr 0) 12 (Mr 0), ai_ cy (rr 1) 12 (Mr 1), ai_ cy (rr 2) 12 (Mr 2), ai_ cy (rr 3) 12 (Mr 3), ai_ cy (rr 4) 12 (Mr 4), ai_ cy (rr 5) 12 (Mr 5), ai_ cy (rr 6) 12 (Mr 6), ai_ cy (rr 7) 12 (Mr 7), ai_ cy (rr 8) 12 (Mr 8), ai_ cy (rr 9) 12 (Mr 9), ai_ cy (rr 10) 12 (Mr 10), ai_ cy (rr 11) 12 (Mr 11), ai_ cy c4 40 f4, ai_ cy c5 40 f5, ai_ cy c6 40 f6, ai_ cy c7 12 f7, ai_ cy c8 12 f8, aq_ cy 3 xk 5 (kf_ k0 k1 k2 k3 k4), ob6_0_ k0, ob5_0_ k1, ob9_0_ k2, ob2_0_ k3, ob8_0_ k4] sz) [ob11_0_ xo xk xn xc xh xt xw xm xp pf ph tr fi, ob3_0_ xn vp vn n1 n2 n3 n4 n5, ai_ cy n1 40 fk, ai_ cy n2 40 fs, ai_ cy n3 40 fe, ai_ cy n4 40 fw, ai_ cy n5 40 fp, ob0_0_ xc xn xk clo cro c4 c5 c6 c7 c8, aq_ cy 6 clo 12 (gf_ rl), ai_ cy (rl 0) 12 (eMl 0), ai_ cy (rl 1) 12 (eMl 1), ai_ cy (rl 2) 12 (eMl 2), ai_ cy (rl 3) 12 (eMl 3), ai_ cy (rl 4) 12 (eMl 4), ai_ cy (rl 5) 12 (eMl 5), ai_ cy (rl 6) 12 (eMl 6), ai_ cy (rl 7) 12 (eMl 7), ai_ cy (rl 8) 12 (eMl 8), ai_ cy (rl 9) 12 (eMl 9), ai_ cy (rl 10) 12 (eMl 10), ai_ cy (rl 11) 12 (eMl 11), aq_ cy 6 cro 12 (gf_ rr), ai_ cy (rr 0) 12 (eMr 0), ai_ cy (rr 1) 12 (eMr 1), ai_ cy (rr 2) 12 (eMr 2), ai_ cy (rr 3) 12 (eMr 3), ai_ cy (rr 4) 12 (eMr 4), ai_ cy (rr 5) 12 (eMr 5), ai_ cy (rr 6) 12 (eMr 6), ai_ cy (rr 7) 12 (eMr 7), ai_ cy (rr 8) 12 (eMr 8), ai_ cy (rr 9) 12 (eMr 9), ai_ cy (rr 10) 12 (eMr 10), ai_ cy (rr 11) 12 (eMr 11), ai_ cy c4 40 e4, ai_ cy c5 40 e5, ai_ cy c6 40 e6, ai_ cy c7 12 e7, ai_ cy c8 12 e8, aq_ cy 3 xk 5 (kf_ k0 k1 k2 k3 k4), ob6_0_ k0, ob5_0_ k1, ob9_0_ k2, ob2_0_ k3, ob8_0_ k4]) (va_A [ob11_0_ xo xk xn xc xh xt xw xm xp pf ph tr fi, ob3_0_ xn vp vn n1 n2 n3 n4 n5, ai_ cy n1 40 fk, ai_ cy n2 40 fs, ai_ cy n3 40 fe, ai_ cy n4 40 fw, ai_ cy n5 40 fp, ob0_0_ xc xn xk clo cro c4 c5 c6 c7 c8, aq_ cy 6 clo 12 (gf_ rl), ai_ cy (rl 0) 12 (Ml 0), ai_ cy (rl 1) 12 (Ml 1), ai_ cy (rl 2) 12 (Ml 2), ai_ cy (rl 3) 12 (Ml 3), ai_ cy (rl 4) 12 (Ml 4), ai_ cy (rl 5) 12 (Ml 5), ai_ cy (rl 6) 12 (Ml 6), ai_ cy (rl 7) 12 (Ml 7), ai_ cy (rl 8) 12 (Ml 8), ai_ cy (rl 9) 12 (Ml 9), ai_ cy (rl 10) 12 (Ml 10), ai_ cy (rl 11) 12 (Ml 11), aq_ cy 6 cro 12 (gf_ rr), ai_ cy (rr 0) 12 (Mr 0), ai_ cy (rr 1) 12 (Mr 1), ai_ cy (rr 2) 12 (Mr 2), ai_ cy (rr 3) 12 (Mr 3), ai_ cy (rr 4) 12 (Mr 4), ai_ cy (rr 5) 12 (Mr 5), ai_ cy (rr 6) 12 (Mr 6), ai_ cy (rr 7) 12 (Mr 7), ai_ cy (rr 8) 12 (Mr 8), ai_ cy (rr 9) 12 (Mr 9), ai_ cy (rr 10) 12 (Mr 10), ai_ cy (rr 11) 12 (Mr 11), ai_ cy c4 40 f4, ai_ cy c5 40 f5, ai_ cy c6 40 f6, ai_ cy c7 12 f7, ai_ cy c8 12 f8, aq_ cy 3 xk 5 (kf_ k0 k1 k2 k3 k4), ob6_0_ k0, ob5_0_ k1, ob9_0_ k2, ob2_0_ k3, ob8_0_ k4] sz)) 0 0 (va_A [ob11_0_ xo xk xn xc xh xt xw xm xp pf ph tr fi, ob3_0_ xn vp vn n1 n2 n3 n4 n5, ai_ cy n1 40 fk, ai_ cy n2 40 fs, ai_ cy n3 40 fe, ai_ cy n4 40 fw, ai_ cy n5 40 fp, ob0_0_ xc xn xk clo cro c4 c5 c6 c7 c8, aq_ cy 6 clo 12 (gf_ rl), ai_ cy (rl 0) 12 (Ml 0), ai_ cy (rl 1) 12 (Ml 1), ai_ cy (rl 2) 12 (Ml 2), ai_ cy (rl 3) 12 (Ml 3), ai_ cy (rl 4) 12 (Ml 4), ai_ cy (rl 5) 12 (Ml 5), ai_ cy (rl 6) 12 (Ml 6), ai_ cy (rl 7) 12 (Ml 7), ai_ cy (rl 8) 12 (Ml 8), ai_ cy (rl 9) 12 (Ml 9), ai_ cy (rl 10) 12 (Ml 10), ai_ cy (rl 11) 12 (Ml 11), aq_ cy 6 cro 12 (gf_ rr), ai_ cy (rr 0) 12 (Mr 0), ai_ cy (rr 1) 12 (Mr 1), ai_ cy (rr 2) 12 (Mr 2), ai_ cy (rr 3) 12 (Mr 3), ai_ cy (rr 4) 12 (Mr 4), ai_ cy (rr 5) 12 (Mr 5), ai_ cy (rr 6) 12 (Mr 6), ai_ cy (rr 7) 12 (Mr 7), ai_ cy (rr 8) 12 (Mr 8), ai_ cy (rr 9) 12 (Mr 9), ai_ cy (rr 10) 12 (Mr 10), ai_ cy (rr 11) 12 (Mr 11), ai_ cy c4 40 f4, ai_ cy c5 40 f5, ai_ cy c6 40 f6, ai_ cy c7 12 f7, ai_ cy c8 12 f8, aq_ cy 3 xk 5 (kf_ k0 k1 k2 k3 k4), ob6_0_ k0, ob5_0_ k1, ob9_0_ k2, ob2_0_ k3, ob8_0_ k4] sz) := by
  refine ofQ (cc := cX11_size) (maxL := 5) (ret := (some .int)) (by decide) rfl ?_
  intro p e s m args below meth c s₁ Q hQ B hml hv
  obtain ⟨rfl, hsz, hP, hK, hD0⟩ := hv
  have hG := hK.2
  have hK := hK.1
  have hx := B.exec
  have hb := B.bytes
  have hr := B.returns
  have hts := atoms_spec (ws := wsX11_size) B.pre
  have hown : s.vm.findClass RX11 = some m.cls := by have h_ := findClass_of_methodNamed B.named; exact h_
  have hlocks := B.notSynchronized
  subst hsz
  have hD := hD0.self (sz := s.heap.size)
  generalize hAe : va_A [ob11_0_ xo xk xn xc xh xt xw xm xp pf ph tr fi, ob3_0_ xn vp vn n1 n2 n3 n4 n5, ai_ cy n1 40 fk, ai_ cy n2 40 fs, ai_ cy n3 40 fe, ai_ cy n4 40 fw, ai_ cy n5 40 fp, ob0_0_ xc xn xk clo cro c4 c5 c6 c7 c8, aq_ cy 6 clo 12 (gf_ rl), ai_ cy (rl 0) 12 (Ml 0), ai_ cy (rl 1) 12 (Ml 1), ai_ cy (rl 2) 12 (Ml 2), ai_ cy (rl 3) 12 (Ml 3), ai_ cy (rl 4) 12 (Ml 4), ai_ cy (rl 5) 12 (Ml 5), ai_ cy (rl 6) 12 (Ml 6), ai_ cy (rl 7) 12 (Ml 7), ai_ cy (rl 8) 12 (Ml 8), ai_ cy (rl 9) 12 (Ml 9), ai_ cy (rl 10) 12 (Ml 10), ai_ cy (rl 11) 12 (Ml 11), aq_ cy 6 cro 12 (gf_ rr), ai_ cy (rr 0) 12 (Mr 0), ai_ cy (rr 1) 12 (Mr 1), ai_ cy (rr 2) 12 (Mr 2), ai_ cy (rr 3) 12 (Mr 3), ai_ cy (rr 4) 12 (Mr 4), ai_ cy (rr 5) 12 (Mr 5), ai_ cy (rr 6) 12 (Mr 6), ai_ cy (rr 7) 12 (Mr 7), ai_ cy (rr 8) 12 (Mr 8), ai_ cy (rr 9) 12 (Mr 9), ai_ cy (rr 10) 12 (Mr 10), ai_ cy (rr 11) 12 (Mr 11), ai_ cy c4 40 f4, ai_ cy c5 40 f5, ai_ cy c6 40 f6, ai_ cy c7 12 f7, ai_ cy c8 12 f8, aq_ cy 3 xk 5 (kf_ k0 k1 k2 k3 k4), ob6_0_ k0, ob5_0_ k1, ob9_0_ k2, ob2_0_ k3, ob8_0_ k4] s.heap.size = A at hD hQ
  have hA : ∀ q : Nat, s.heap.size ≤ q → A q := fun q h => by rw [← hAe]; exact Or.inr h
  have hS : va_S A s.heap s.heap [] := va_S.rf
  have hl := lv_entry ([.ref xo, .int a1, .int a2, .int a3]) (n := 5) (Nat.le_of_ble_eq_true rfl)
  rw [lg_entry_eq]
  generalize (lg_sl ([.ref xo, .int a1, .int a2, .int a3]) ++ List.replicate (5 - (lg_sl ([.ref xo, .int a1, .int a2, .int a3])).length) Slot.unset).toArray = ls at hl ⊢
  have hl : lv_has ls 5 [(0, .ref xo), (1, .int a1), (2, .int a2), (3, .int a3)] := hl
  have zm9 : ((-9) : Int32).toInt = -9 := by decide
  have zm5 : ((-5) : Int32).toInt = -5 := by decide
  have zm1 : ((-1) : Int32).toInt = -1 := by decide
  have z1000000 : (1000000 : Int32).toInt = 1000000 := by decide
  have zq0 : (0 : Int32).toInt = 0 := by decide
  have zq1 : (1 : Int32).toInt = 1 := by decide
  have zq2 : (2 : Int32).toInt = 2 := by decide
  have zq3 : (3 : Int32).toInt = 3 := by decide
  have zq4 : (4 : Int32).toInt = 4 := by decide
  have zq5 : (5 : Int32).toInt = 5 := by decide
  have zqm9 : ((-9) : Int32).toInt = -9 := by decide
  refine lv_aload_n hx hb dB_36_3_61.1.1.1.1 rfl (lv_at hl 0 rfl) ?_
  refine va_get (ci := 11) (v := .ref xn) (C := RX11) (T := TX11) (N := 12) hx hb hts (fun _ h => List.mem_cons_of_mem _ (List.mem_append_left _ (List.mem_append_left _ (List.mem_append_right _ h)))) hown hK.1 hP 0 rfl rfl 1 (by decide) (hts (.fieldLink RX11 31 "CutAtlas" "net" "LCutAtlas$Net;") (List.mem_of_getElem? (i := 1) rfl)) (fun _ h9 => h9) rfl dB_36_3_61.1.1.1.2 ?_
  refine lv_iload_n hx hb dB_36_3_61.1.1.2.1 rfl (lv_at hl 1 rfl) ?_
  refine lv_i2l (v := a1.toInt64) hx hb dB_36_3_61.1.1.2.2 rfl ?_
  have q_5 : (a1.toInt64).toInt = a1.toInt := Int32.toInt_toInt64 a1
  refine lv_iload_n hx hb dB_36_3_61.1.2.1.1 rfl (lv_at hl 2 rfl) ?_
  refine lv_i2l (v := a2.toInt64) hx hb dB_36_3_61.1.2.1.2 rfl ?_
  have q_7 : (a2.toInt64).toInt = a2.toInt := Int32.toInt_toInt64 a2
  refine ct_R hP hD [ob3_0_ xn vp vn n1 n2 n3 n4 n5] [1] (by decide) rfl (fun hPc hDw => ?_)
  have hFc := va_free (wc := []) hD hS hA [] rfl
  refine va_calli (va_runV (As := [.long a1.toInt64, .long a2.toInt64]) (rest := []) ⟨hx, hb, hml, hown, hts⟩ (c_X3_hasPair l D cy s.heap.size xn n1 n2 n3 n4 n5 vp vn a1.toInt64 a2.toInt64) (cwV 2 hts gX11_size_X3_hasPair rfl rfl rfl ⟨rfl, hd_X3_hasPair⟩ ⟨Nat.le_of_ble_eq_true rfl, Nat.le_of_ble_eq_true rfl⟩) ⟨bl_, va_recvX hK.1 hP (ci := 3) (q0 := 1) rfl rfl, fun U hU hW => ⟨rfl, by rw [hU], by rw [hU]; exact hPc, kk_mv hW hK, hDw⟩⟩ rfl rfl hl.1 rfl (lv_room (Nat.le_of_ble_eq_true rfl)) dB_36_3_61.1.2.2.1 ⟨Nat.le_of_ble_eq_true rfl, Nat.le_of_ble_eq_true rfl⟩) hS (fun q _ h => hFc q h) hFc (fun r_1 u t H locs ht hvm hw hB hz1 hk1 hS => ?_)
  have hP : va_P D vwCl _ H := ro_keep hP hk1
  rcases hw with ⟨w_2, e_⟩ | ⟨w_2, e_⟩
  · have e_ := e_.symm
    subst e_
    refine lv_if_ne (tgt := 16) hx hb dB_36_3_61.1.2.2.2 (by decide) (fun c_3 => ?_) (fun c_3 => ?_)
    · have _ := c_3
      refine lv_aload_n hx hb dB_36_3_61.2.1.2.1 rfl (lv_at hl 0 rfl) ?_
      refine va_get (ci := 11) (v := .ref xc) (C := RX11) (T := TX11) (N := 12) hx hb hts (fun _ h => List.mem_cons_of_mem _ (List.mem_append_left _ (List.mem_append_left _ (List.mem_append_right _ h)))) hown hK.1 hP 0 rfl rfl 2 (by decide) (hts (.fieldLink RX11 40 "CutAtlas" "current" "LCutAtlas$Current;") (List.mem_of_getElem? (i := 2) rfl)) (fun _ h9 => h9) rfl dB_36_3_61.2.1.2.2 ?_
      refine lv_bipush (v := (-9)) hx hb dB_36_3_61.2.2.1.1 (by decide) ?_
      refine ct_S hP hD hS hA [ob0_0_ xc xn xk clo cro c4 c5 c6 c7 c8, ob3_0_ xn vp vn n1 n2 n3 n4 n5, ai_ cy n1 40 fk, ai_ cy n2 40 fs, ai_ cy n3 40 fe, ai_ cy n4 40 fw, aq_ cy 6 clo 12 (gf_ rl), ai_ cy (rl 0) 12 (Ml 0), ai_ cy (rl 1) 12 (Ml 1), ai_ cy (rl 2) 12 (Ml 2), ai_ cy (rl 3) 12 (Ml 3), ai_ cy (rl 4) 12 (Ml 4), ai_ cy (rl 5) 12 (Ml 5), ai_ cy (rl 6) 12 (Ml 6), ai_ cy (rl 7) 12 (Ml 7), ai_ cy (rl 8) 12 (Ml 8), ai_ cy (rl 9) 12 (Ml 9), ai_ cy (rl 10) 12 (Ml 10), ai_ cy (rl 11) 12 (Ml 11), ai_ cy c5 40 f5, ai_ cy c6 40 f6, aq_ cy 3 xk 5 (kf_ k0 k1 k2 k3 k4), ob6_0_ k0, ob5_0_ k1, ob9_0_ k2, ob2_0_ k3, ob8_0_ k4] [7, 1, 2, 3, 4, 5, 8, 9, 10, 11, 12, 13, 14, 15, 16, 17, 18, 19, 20, 35, 36, 39, 40, 41, 42, 43, 44] (by decide +kernel) rfl (fun hPc hDw hFc hC_ => ?_)
      refine va_callv (va_runV (As := [.int (-9)]) (rest := []) ⟨hx, hb, hml, hown, hts⟩ (c_X0_load2 l D cy H.size xc xk clo cro c4 c5 c6 c7 c8 xn n1 n2 n3 n4 n5 vp vn fk fs fe fw rl Ml f5 f6 k0 k1 k2 k3 k4 ((-9) : Int32) (by first | with_reducible assumption | omega | assumption) (by first | with_reducible assumption | omega | assumption) (by first | with_reducible assumption | assumption | omega) (by first | with_reducible assumption | assumption | omega) (by first | with_reducible assumption | assumption | omega) (by first | with_reducible assumption | assumption | omega)) (cwV 1 hts gX11_size_X0_load rfl rfl rfl ⟨rfl, hd_X0_load⟩ ⟨Nat.le_of_ble_eq_true rfl, Nat.le_of_ble_eq_true rfl⟩) ⟨bl_g, va_recvX hK.1 hP (ci := 0) (q0 := 7) rfl rfl, fun U hU hW => ⟨rfl, by rw [hU], by rw [hU]; exact hPc, ⟨kk_mv hW hK, arrOfT_moved hW.alike hG⟩, hDw⟩⟩ rfl rfl hl.1 rfl (lv_room (Nat.le_of_ble_eq_true rfl)) dB_36_3_61.2.2.1.2 ⟨Nat.le_of_ble_eq_true rfl, Nat.le_of_ble_eq_true rfl⟩) hS (fun q _ h => hFc q h) hFc (fun u t H locs ht hvm hw hB hz1 hk1 hS => ?_)
      obtain ⟨eMl_5, e5_6, e6_7, g_8, g_9, hP1, hD1⟩ := hB
      rw [ht] at hP1
      obtain ⟨hP, hD⟩ := va_join (wr := [ob11_0_ xo xk xn xc xh xt xw xm xp pf ph tr fi, ai_ cy n5 40 fp, aq_ cy 6 cro 12 (gf_ rr), ai_ cy (rr 0) 12 (Mr 0), ai_ cy (rr 1) 12 (Mr 1), ai_ cy (rr 2) 12 (Mr 2), ai_ cy (rr 3) 12 (Mr 3), ai_ cy (rr 4) 12 (Mr 4), ai_ cy (rr 5) 12 (Mr 5), ai_ cy (rr 6) 12 (Mr 6), ai_ cy (rr 7) 12 (Mr 7), ai_ cy (rr 8) 12 (Mr 8), ai_ cy (rr 9) 12 (Mr 9), ai_ cy (rr 10) 12 (Mr 10), ai_ cy (rr 11) 12 (Mr 11), ai_ cy c4 40 f4, ai_ cy c7 12 f7, ai_ cy c8 12 f8]) (w1 := [ob0_0_ xc xn xk clo cro c4 c5 c6 c7 c8, ob3_0_ xn vp vn n1 n2 n3 n4 n5, ai_ cy n1 40 fk, ai_ cy n2 40 fs, ai_ cy n3 40 fe, ai_ cy n4 40 fw, aq_ cy 6 clo 12 (gf_ rl), ai_ cy (rl 0) 12 (eMl_5 0), ai_ cy (rl 1) 12 (eMl_5 1), ai_ cy (rl 2) 12 (eMl_5 2), ai_ cy (rl 3) 12 (eMl_5 3), ai_ cy (rl 4) 12 (eMl_5 4), ai_ cy (rl 5) 12 (eMl_5 5), ai_ cy (rl 6) 12 (eMl_5 6), ai_ cy (rl 7) 12 (eMl_5 7), ai_ cy (rl 8) 12 (eMl_5 8), ai_ cy (rl 9) 12 (eMl_5 9), ai_ cy (rl 10) 12 (eMl_5 10), ai_ cy (rl 11) 12 (eMl_5 11), ai_ cy c5 40 e5_6, ai_ cy c6 40 e6_7, aq_ cy 3 xk 5 (kf_ k0 k1 k2 k3 k4), ob6_0_ k0, ob5_0_ k1, ob9_0_ k2, ob2_0_ k3, ob8_0_ k4]) hP hD [7, 1, 2, 3, 4, 5, 8, 9, 10, 11, 12, 13, 14, 15, 16, 17, 18, 19, 20, 35, 36, 39, 40, 41, 42, 43, 44] [0, 6, 21, 22, 23, 24, 25, 26, 27, 28, 29, 30, 31, 32, 33, 34, 37, 38] hC_ rfl (by decide +kernel) (by decide +kernel) hk1 hFc hP1 hD1
      refine pd_S hP hD [ob11_0_ xo xk xn xc xh xt xw xm xp pf ph tr fi, ob3_0_ xn vp vn n1 n2 n3 n4 n5, ai_ cy n1 40 fk, ai_ cy n2 40 fs, ai_ cy n3 40 fe, ai_ cy n4 40 fw, ai_ cy n5 40 fp, ob0_0_ xc xn xk clo cro c4 c5 c6 c7 c8, aq_ cy 6 clo 12 (gf_ rl), ai_ cy (rl 0) 12 (eMl_5 0), ai_ cy (rl 1) 12 (eMl_5 1), ai_ cy (rl 2) 12 (eMl_5 2), ai_ cy (rl 3) 12 (eMl_5 3), ai_ cy (rl 4) 12 (eMl_5 4), ai_ cy (rl 5) 12 (eMl_5 5), ai_ cy (rl 6) 12 (eMl_5 6), ai_ cy (rl 7) 12 (eMl_5 7), ai_ cy (rl 8) 12 (eMl_5 8), ai_ cy (rl 9) 12 (eMl_5 9), ai_ cy (rl 10) 12 (eMl_5 10), ai_ cy (rl 11) 12 (eMl_5 11), aq_ cy 6 cro 12 (gf_ rr), ai_ cy (rr 0) 12 (Mr 0), ai_ cy (rr 1) 12 (Mr 1), ai_ cy (rr 2) 12 (Mr 2), ai_ cy (rr 3) 12 (Mr 3), ai_ cy (rr 4) 12 (Mr 4), ai_ cy (rr 5) 12 (Mr 5), ai_ cy (rr 6) 12 (Mr 6), ai_ cy (rr 7) 12 (Mr 7), ai_ cy (rr 8) 12 (Mr 8), ai_ cy (rr 9) 12 (Mr 9), ai_ cy (rr 10) 12 (Mr 10), ai_ cy (rr 11) 12 (Mr 11), ai_ cy c4 40 f4, ai_ cy c5 40 e5_6, ai_ cy c6 40 e6_7, ai_ cy c7 12 f7, ai_ cy c8 12 f8, aq_ cy 3 xk 5 (kf_ k0 k1 k2 k3 k4), ob6_0_ k0, ob5_0_ k1, ob9_0_ k2, ob2_0_ k3, ob8_0_ k4] [0, 19, 20, 21, 22, 23, 1, 18, 24, 25, 26, 27, 28, 29, 30, 31, 32, 33, 34, 35, 36, 2, 3, 4, 5, 6, 7, 8, 9, 10, 11, 12, 13, 14, 15, 37, 38, 16, 17, 39, 40, 41, 42, 43, 44] (by decide +kernel) rfl (fun hP hD => ?_)
      have hmx_ := g_8
      refine lv_aload_n hx hb dB_36_3_61.2.2.2.1 rfl (lv_at hl 0 rfl) ?_
      refine va_get (ci := 11) (v := .ref xc) (C := RX11) (T := TX11) (N := 12) hx hb hts (fun _ h => List.mem_cons_of_mem _ (List.mem_append_left _ (List.mem_append_left _ (List.mem_append_right _ h)))) hown hK.1 hP 0 rfl rfl 2 (by decide) (hts (.fieldLink RX11 40 "CutAtlas" "current" "LCutAtlas$Current;") (List.mem_of_getElem? (i := 2) rfl)) (fun _ h9 => h9) rfl dB_36_3_61.2.2.2.2 ?_
      refine lv_iload_n hx hb dB_36_3_62.1.1.1.1 rfl (lv_at hl 3 rfl) ?_
      refine lv_iconst (v := 1) hx hb dB_36_3_62.1.1.1.2 (by decide) ?_
      refine lv_iload_n hx hb dB_36_3_62.1.1.2.1 rfl (lv_at hl 1 rfl) ?_
      refine lv_ishl hx hb dB_36_3_62.1.1.2.2 ?_
      refine lv_topi (fun y_10 ey_10 => ?_)
      refine lv_ior hx hb dB_36_3_62.1.2.1.1 ?_
      refine lv_topi (fun y_11 ey_11 => ?_)
      refine lv_iconst (v := 1) hx hb dB_36_3_62.1.2.1.2 (by decide) ?_
      refine lv_iload_n hx hb dB_36_3_62.1.2.2.1 rfl (lv_at hl 2 rfl) ?_
      refine lv_ishl hx hb dB_36_3_62.1.2.2.2 ?_
      refine lv_topi (fun y_12 ey_12 => ?_)
      refine lv_iconst (v := (-1)) hx hb dB_36_3_62.2.1.1.1 (by decide) ?_
      refine lv_ixor hx hb dB_36_3_62.2.1.1.2 ?_
      refine lv_topi (fun y_13 ey_13 => ?_)
      refine lv_iand hx hb dB_36_3_62.2.1.2.1 ?_
      refine lv_topi (fun y_14 ey_14 => ?_)
      have hM_ : ∀ x y : Nat, (x : Int) < vp.toInt → y < 12 → 0 ≤ (eMl_5 x y).toInt ∧ (eMl_5 x y).toInt ≤ 80000000 := fun x y hx hy => mtx_bd hmx_ r_fw (by have c_ := clI (i := vn) (by omega); omega) hx hy
      have hO_ : outZ (fun x y => (eMl_5 x y).toInt) (bt y_14) vp.toNatClampNeg = cutF fk fs fe fw (-9) vn.toNatClampNeg (setS a3 a1.toNatClampNeg a2.toNatClampNeg) := (out_mtx hmx_ hnc hpr hvp hvn.2).trans (cutF_set hnc hpr hvn.2 (fun x hx => mask_c (by omega) (by omega) ey_10 ey_11 ey_12 ey_13 ey_14 (by have c_ := clI (i := vp) (by omega); omega)))
      have hT_ : outZ (fun x y => (eMl_5 x y).toInt) (bt y_14) vp.toNatClampNeg ≤ 80000000 := by rw [hO_]; exact Int.le_trans (cutF_rng r_fw (by have c_ := clI (i := vn) (by omega); omega)).2 (by decide)
      refine ct_R hP hD [ob0_0_ xc xn xk clo cro c4 c5 c6 c7 c8, ob3_0_ xn vp vn n1 n2 n3 n4 n5, aq_ cy 6 clo 12 (gf_ rl), ai_ cy (rl 0) 12 (eMl_5 0), ai_ cy (rl 1) 12 (eMl_5 1), ai_ cy (rl 2) 12 (eMl_5 2), ai_ cy (rl 3) 12 (eMl_5 3), ai_ cy (rl 4) 12 (eMl_5 4), ai_ cy (rl 5) 12 (eMl_5 5), ai_ cy (rl 6) 12 (eMl_5 6), ai_ cy (rl 7) 12 (eMl_5 7), ai_ cy (rl 8) 12 (eMl_5 8), ai_ cy (rl 9) 12 (eMl_5 9), ai_ cy (rl 10) 12 (eMl_5 10), ai_ cy (rl 11) 12 (eMl_5 11)] [7, 1, 8, 9, 10, 11, 12, 13, 14, 15, 16, 17, 18, 19, 20] (by decide +kernel) rfl (fun hPc hDw => ?_)
      have hFc := va_free (wc := []) hD hS hA [] rfl
      refine va_calli (va_runV (As := [.int y_14]) (rest := []) ⟨hx, hb, hml, hown, hts⟩ (c_X0_leaving2 l D cy H.size xc xk clo cro c4 c5 c6 c7 c8 xn n1 n2 n3 n4 n5 vp vn rl eMl_5 y_14 (by first | with_reducible assumption | omega | assumption) (by first | with_reducible assumption | assumption | omega) (by first | with_reducible assumption | assumption | omega)) (cwV 1 hts gX11_size_X0_leaving rfl rfl rfl ⟨rfl, hd_X0_leaving⟩ ⟨Nat.le_of_ble_eq_true rfl, Nat.le_of_ble_eq_true rfl⟩) ⟨bl_g, va_recvX hK.1 hP (ci := 0) (q0 := 7) rfl rfl, fun U hU hW => ⟨rfl, by rw [hU], by rw [hU]; exact hPc, ⟨kk_mv hW hK, arrOfT_moved hW.alike hG⟩, hDw⟩⟩ rfl rfl hl.1 rfl (lv_room (Nat.le_of_ble_eq_true rfl)) dB_36_3_62.2.1.2.2 ⟨Nat.le_of_ble_eq_true rfl, Nat.le_of_ble_eq_true rfl⟩) hS (fun q _ h => hFc q h) hFc (fun r_15 u t H locs ht hvm hw hB hz1 hk1 hS => ?_)
      have hP : va_P D vwCl _ H := ro_keep hP hk1
      have f0_r_15 := hw
      have hsz_ := f0_r_15.trans hO_
      refine lv_istore (lv' := [(4, .int r_15), (0, .ref xo), (1, .int a1), (2, .int a2), (3, .int a3)]) hx hb dB_36_3_62.2.2.1.1 hl (by decide) rfl (fun ls hl => ?_)
      refine lv_iload hx hb dB_36_3_62.2.2.1.2 (lv_at hl 0 rfl) ?_
      refine lv_ldc (v := 1000000) hx hb hown (hts (.constant RX11 197 (1000000)) (List.mem_of_getElem? (i := 3) rfl)) dB_36_3_62.2.2.2.1 ?_
      refine lv_icmp_lt (tgt := 57) hx hb dB_36_3_62.2.2.2.2 (by decide) (fun c_16 => ?_) (fun c_16 => ?_)
      · have t_16 : r_15.toInt < (1000000 : Int32).toInt := Int32.lt_iff_toInt_lt.mp c_16
        refine lv_iload hx hb dB_36_3_63.2.1 (lv_at hl 0 rfl) ?_
        rw [hQ]
        exact W.iret (v := r_15) hx hb hr (fun t ht hW => ⟨⟨r_15, (), rfl, (by first | exact ⟨fun h => absurd h (by unfold mgI; (repeat' (first | with_reducible refine if_n (by omega) ?_ | with_reducible refine if_ns (by omega) ?_ | with_reducible refine if_nz (by omega) ?_ | with_reducible exact if_p (by omega) (by omega) | with_reducible exact if_ps (by omega) (by omega) | with_reducible exact if_pz (by omega) (by omega))) <;> omega), fun _ => by decide⟩ | exact ⟨fun _ => (by unfold tldI; (repeat' (first | with_reducible refine if_n (by omega) ?_ | with_reducible refine if_ns (by omega) ?_ | with_reducible refine if_nz (by omega) ?_ | with_reducible exact if_p (by omega) (by omega) | with_reducible exact if_ps (by omega) (by omega) | with_reducible exact if_pz (by omega) (by omega))) <;> omega), fun h => absurd (by unfold mgI; (repeat' (first | with_reducible refine if_n (by omega) ?_ | with_reducible refine if_ns (by omega) ?_ | with_reducible refine if_nz (by omega) ?_ | with_reducible exact if_p (by omega) (by omega) | with_reducible exact if_ps (by omega) (by omega) | with_reducible exact if_pz (by omega) (by omega))) <;> omega) h⟩), eMl_5, Mr, f4, e5_6, e6_7, f7, f8, (by first | with_reducible assumption | assumption | exact rng_zero (by omega) (by omega) | omega), (by first | with_reducible assumption | assumption | exact rng_zero (by omega) (by omega) | omega), by rw [ht]; exact hP, hD⟩, hS.F ht⟩) hS.2.2 dB_36_3_63.2.2
      · have t_16 : ¬ r_15.toInt < (1000000 : Int32).toInt := fun h => c_16 (Int32.lt_iff_toInt_lt.mpr h)
        refine lv_bipush (v := (-5)) hx hb dB_36_3_63.1.1 (by decide) ?_
        refine lv_goto (tgt := 59) hx hb dB_36_3_63.1.2 (by decide) ?_
        rw [hQ]
        exact W.iret (v := (-5)) hx hb hr (fun t ht hW => ⟨⟨(-5), (), rfl, (by first | exact ⟨fun h => absurd h (by unfold mgI; (repeat' (first | with_reducible refine if_n (by omega) ?_ | with_reducible refine if_ns (by omega) ?_ | with_reducible refine if_nz (by omega) ?_ | with_reducible exact if_p (by omega) (by omega) | with_reducible exact if_ps (by omega) (by omega) | with_reducible exact if_pz (by omega) (by omega))) <;> omega), fun _ => by decide⟩ | exact ⟨fun _ => (by unfold tldI; (repeat' (first | with_reducible refine if_n (by omega) ?_ | with_reducible refine if_ns (by omega) ?_ | with_reducible refine if_nz (by omega) ?_ | with_reducible exact if_p (by omega) (by omega) | with_reducible exact if_ps (by omega) (by omega) | with_reducible exact if_pz (by omega) (by omega))) <;> omega), fun h => absurd (by unfold mgI; (repeat' (first | with_reducible refine if_n (by omega) ?_ | with_reducible refine if_ns (by omega) ?_ | with_reducible refine if_nz (by omega) ?_ | with_reducible exact if_p (by omega) (by omega) | with_reducible exact if_ps (by omega) (by omega) | with_reducible exact if_pz (by omega) (by omega))) <;> omega) h⟩), eMl_5, Mr, f4, e5_6, e6_7, f7, f8, (by first | with_reducible assumption | assumption | exact rng_zero (by omega) (by omega) | omega), (by first | with_reducible assumption | assumption | exact rng_zero (by omega) (by omega) | omega), by rw [ht]; exact hP, hD⟩, hS.F ht⟩) hS.2.2 dB_36_3_63.2.2
    · exact absurd c_3 (by decide)
  · have e_ := e_.symm
    subst e_
    refine lv_if_ne (tgt := 16) hx hb dB_36_3_61.1.2.2.2 (by decide) (fun c_17 => ?_) (fun c_17 => ?_)
    · exact absurd c_17 (by decide)
    · have _ := c_17
      refine lv_iconst (v := (-1)) hx hb dB_36_3_61.2.1.1.1 (by decide) ?_
      rw [hQ]
      exact W.iret (v := (-1)) hx hb hr (fun t ht hW => ⟨⟨(-1), (), rfl, (by first | exact ⟨fun h => absurd h (by unfold mgI; (repeat' (first | with_reducible refine if_n (by omega) ?_ | with_reducible refine if_ns (by omega) ?_ | with_reducible refine if_nz (by omega) ?_ | with_reducible exact if_p (by omega) (by omega) | with_reducible exact if_ps (by omega) (by omega) | with_reducible exact if_pz (by omega) (by omega))) <;> omega), fun _ => by decide⟩ | exact ⟨fun _ => (by unfold tldI; (repeat' (first | with_reducible refine if_n (by omega) ?_ | with_reducible refine if_ns (by omega) ?_ | with_reducible refine if_nz (by omega) ?_ | with_reducible exact if_p (by omega) (by omega) | with_reducible exact if_ps (by omega) (by omega) | with_reducible exact if_pz (by omega) (by omega))) <;> omega), fun h => absurd (by unfold mgI; (repeat' (first | with_reducible refine if_n (by omega) ?_ | with_reducible refine if_ns (by omega) ?_ | with_reducible refine if_nz (by omega) ?_ | with_reducible exact if_p (by omega) (by omega) | with_reducible exact if_ps (by omega) (by omega) | with_reducible exact if_pz (by omega) (by omega))) <;> omega) h⟩), Ml, Mr, f4, f5, f6, f7, f8, (by first | with_reducible assumption | assumption | exact rng_zero (by omega) (by omega) | omega), (by first | with_reducible assumption | assumption | exact rng_zero (by omega) (by omega) | omega), by rw [ht]; exact hP, hD⟩, hS.F ht⟩) hS.2.2 dB_36_3_61.2.1.1.2
end
