section
theorem cpd_st {f g g2 : Nat → Int64} {b : Int} {k k2 y : Int32} {v : Int64} (h : ∀ q : Nat, (q : Int) < k.toInt → g q = f (b + q).toNat) (e : g2 = vp_updL g k.toNatClampNeg v) (ev : v = f y.toNatClampNeg) (hy : y.toInt = b + k.toInt) (hk : 0 ≤ k.toInt) (e2 : k2.toInt = k.toInt + 1) : ∀ q : Nat, (q : Int) < k2.toInt → g2 q = f (b + q).toNat := fun q hq => by
  have c := clI (i := k) hk
  rw [e]
  by_cases z : q = k.toNatClampNeg
  · rw [z, pk_uLs, ev, ixn hy, c]
  · rw [pk_uLn z]
    exact h q (by omega)
theorem cpe_st {f t g g2 : Nat → Int64} {b d : Int} {k k2 y n : Int32} {v : Int64} (ht : ∀ q : Nat, (q : Int) < n.toInt → t q = f (b + q).toNat) (h : ∀ q : Nat, g q = if d ≤ (q : Int) ∧ (q : Int) < d + k.toInt then f (b + ((q : Int) - d)).toNat else f q) (e : g2 = vp_updL g y.toNatClampNeg v) (ev : v = t k.toNatClampNeg) (hy : y.toInt = d + k.toInt) (hk : 0 ≤ k.toInt) (hn : k.toInt < n.toInt) (hd : 0 ≤ d) (e2 : k2.toInt = k.toInt + 1) : ∀ q : Nat, g2 q = if d ≤ (q : Int) ∧ (q : Int) < d + k2.toInt then f (b + ((q : Int) - d)).toNat else f q := fun q => by
  have c := clI (i := k) hk
  have cy := clI (i := y) (by omega)
  rw [e]
  by_cases z : q = y.toNatClampNeg
  · rw [z, pk_uLs, ev, ht _ (by omega), if_pos (by omega), show b + ((k.toNatClampNeg : Nat) : Int) = b + (((y.toNatClampNeg : Nat) : Int) - d) by omega]
  · rw [pk_uLn z, h q]
    by_cases w : d ≤ (q : Int) ∧ (q : Int) < d + k.toInt
    · rw [if_pos w, if_pos (by omega)]
    · rw [if_neg w, if_neg (by omega)]
theorem cpe0 {f : Nat → Int64} {b d : Int} : ∀ q : Nat, f q = if d ≤ (q : Int) ∧ (q : Int) < d + (0 : Int32).toInt then f (b + ((q : Int) - d)).toNat else f q := fun q => by
  have z : (0 : Int32).toInt = 0 := by decide
  rw [if_neg (by omega)]

set_option maxHeartbeats 4000000 in
set_option maxRecDepth 100000 in
theorem c_X12_no2 (l : Launch) (D : va_G) (cy : Nat → ClassId) (sz : Nat) (mo : Nat) (g5 : Nat) (g6 : Nat) (g7 : Nat) (g8 : Nat) (g9 : Nat) (g10 : Nat) (g12 : Nat) (g13 : Nat) (g14 : Nat) (g15 : Nat) (g16 : Nat) (g17 : Nat) (g18 : Nat) (g19 : Nat) (g20 : Nat) (g22 : Nat) (g23 : Nat) (g24 : Nat) (g29 : Nat) (g30 : Nat) (g31 : Nat) (g32 : Nat) (g33 : Nat) (s0 : Int32) (s1 : Int32) (s3 : Int32) (s4 : Int32) (s11 : Int32) (s21 : Int32) (s25 : Int32) (s26 : Int32) (s27 : Int32) (s28 : Int32) (t2 : Int64) (a1 : Int32) : Met l yX12_no wsX12_no ({ frames := 0, cells := 0, slots := 0, locals := 0 }) (va_Pc [.ref mo, .int a1] (fun U => U.heap.size = sz ∧ va_P D vwCl [ob12_0_ mo s0 s1 t2 s3 s4 g5 g6 g7 g8 g9 g10 s11 g12 g13 g14 g15 g16 g17 g18 g19 g20 s21 g22 g23 g24 s25 s26 s27 s28 g29 g30 g31 g32 g33] U.heap ∧ kk_ D cy U ∧ va_D (fun _ => True) [ob12_0_ mo s0 s1 t2 s3 s4 g5 g6 g7 g8 g9 g10 s11 g12 g13 g14 g15 g16 g17 g18 g19 g20 s21 g22 g23 g24 s25 s26 s27 s28 g29 g30 g31 g32 g33])) (va_Qi (fun (r : Int32) (_ : Unit) => (r = a1)) (fun (_ : Unit) (t : State) => ∃ (n1 : Int32), (n1 = a1) ∧ va_P D vwCl [ob12_0_ mo s0 n1 t2 s3 s4 g5 g6 g7 g8 g9 g10 s11 g12 g13 g14 g15 g16 g17 g18 g19 g20 s21 g22 g23 g24 s25 s26 s27 s28 g29 g30 g31 g32 g33] t.heap ∧ va_D (va_A [ob12_0_ mo s0 s1 t2 s3 s4 g5 g6 g7 g8 g9 g10 s11 g12 g13 g14 g15 g16 g17 g18 g19 g20 s21 g22 g23 g24 s25 s26 s27 s28 g29 g30 g31 g32 g33] sz) [ob12_0_ mo s0 n1 t2 s3 s4 g5 g6 g7 g8 g9 g10 s11 g12 g13 g14 g15 g16 g17 g18 g19 g20 s21 g22 g23 g24 s25 s26 s27 s28 g29 g30 g31 g32 g33]) (va_A [ob12_0_ mo s0 s1 t2 s3 s4 g5 g6 g7 g8 g9 g10 s11 g12 g13 g14 g15 g16 g17 g18 g19 g20 s21 g22 g23 g24 s25 s26 s27 s28 g29 g30 g31 g32 g33] sz)) 0 0 (va_A [ob12_0_ mo s0 s1 t2 s3 s4 g5 g6 g7 g8 g9 g10 s11 g12 g13 g14 g15 g16 g17 g18 g19 g20 s21 g22 g23 g24 s25 s26 s27 s28 g29 g30 g31 g32 g33] sz) := by
  refine ofQ (cc := cX12_no) (maxL := 2) (ret := (some .int)) (by decide) rfl ?_
  intro p e s m args below meth c s₁ Q hQ B hml hv
  obtain ⟨rfl, hsz, hP, hK, hD0⟩ := hv
  have hx := B.exec
  have hb := B.bytes
  have hr := B.returns
  have hts := atoms_spec (ws := wsX12_no) B.pre
  have hown : s.vm.findClass RX12 = some m.cls := by have h_ := findClass_of_methodNamed B.named; exact h_
  have hlocks := B.notSynchronized
  subst hsz
  have hD := hD0.self (sz := s.heap.size)
  generalize hAe : va_A [ob12_0_ mo s0 s1 t2 s3 s4 g5 g6 g7 g8 g9 g10 s11 g12 g13 g14 g15 g16 g17 g18 g19 g20 s21 g22 g23 g24 s25 s26 s27 s28 g29 g30 g31 g32 g33] s.heap.size = A at hD hQ
  have hA : ∀ q : Nat, s.heap.size ≤ q → A q := fun q h => by rw [← hAe]; exact Or.inr h
  have hS : va_S A s.heap s.heap [] := va_S.rf
  have hl := lv_entry ([.ref mo, .int a1]) (n := 2) (Nat.le_of_ble_eq_true rfl)
  rw [lg_entry_eq]
  generalize (lg_sl ([.ref mo, .int a1]) ++ List.replicate (2 - (lg_sl ([.ref mo, .int a1])).length) Slot.unset).toArray = ls at hl ⊢
  have hl : lv_has ls 2 [(0, .ref mo), (1, .int a1)] := hl
  refine lv_aload_n hx hb dB_3_3_26.1.1 rfl (lv_at hl 0 rfl) ?_
  refine lv_iload_n hx hb dB_3_3_26.1.2 rfl (lv_at hl 1 rfl) ?_
  refine va_put (ci := 12) (v := .int a1) (ty := .int) (C := RX12) (T := TX12) (N := 34) hx hb hts (fun _ h => List.mem_cons_of_mem _ (List.mem_append_right _ h)) tyX12 tyX12_ok nmX12 hown hK.1 hP hD hS 0 rfl rfl 1 (by decide) (hts (.fieldLink RX12 240 "CutAtlasModel" "status" "I") (List.mem_of_getElem? (i := 1) rfl)) (fun _ h9 => h9) rfl (by decide +kernel) rfl rfl (Nat.le_of_ble_eq_true rfl) dB_3_3_26.2.1 (fun H locs hP hD hS => ?_)
  refine pd_K [ob12_0_ mo s0 a1 t2 s3 s4 g5 g6 g7 g8 g9 g10 s11 g12 g13 g14 g15 g16 g17 g18 g19 g20 s21 g22 g23 g24 s25 s26 s27 s28 g29 g30 g31 g32 g33] hP hD (fun hP hD => ?_)
  refine lv_iload_n hx hb dB_3_3_26.2.2.1 rfl (lv_at hl 1 rfl) ?_
  rw [hQ]
  exact W.iret (v := a1) hx hb hr (fun t ht hW => ⟨⟨a1, (), rfl, (rfl), a1, (rfl), by rw [ht]; exact hP, hD⟩, hS.F ht⟩) hS.2.2 dB_3_3_26.2.2.2

set_option maxHeartbeats 4000000 in
set_option maxRecDepth 100000 in
theorem c_X12_wrong2 (l : Launch) (D : va_G) (cy : Nat → ClassId) (sz : Nat) (mo : Nat) (g5 : Nat) (g6 : Nat) (g7 : Nat) (g8 : Nat) (g9 : Nat) (g10 : Nat) (g12 : Nat) (g13 : Nat) (g14 : Nat) (g15 : Nat) (g16 : Nat) (g17 : Nat) (g18 : Nat) (g19 : Nat) (g20 : Nat) (g22 : Nat) (g23 : Nat) (g24 : Nat) (g29 : Nat) (g30 : Nat) (g31 : Nat) (g32 : Nat) (g33 : Nat) (s0 : Int32) (s1 : Int32) (s3 : Int32) (s4 : Int32) (s11 : Int32) (s21 : Int32) (s25 : Int32) (s26 : Int32) (s27 : Int32) (s28 : Int32) (t2 : Int64) (f15 : Nat → Int32) (f16 : Nat → Int32) (f17 : Nat → Int32) (f18 : Nat → Int32) (a1 : Int32) (a2 : Int32) (a3 : Int32) (a4 : Int32) (hlk : lok f18 24) (r_f17 : rng f17 4 (0) (6)) (r_f18 : rng f18 24 (-9) (5)) : Met l yX12_wrong wsX12_wrong ({ frames := 1, cells := 0, slots := 0, locals := 25 }) (va_Pc [.ref mo, .int a1, .int a2, .int a3, .int a4] (fun U => U.heap.size = sz ∧ va_P D vwCl [ob12_0_ mo s0 s1 t2 s3 s4 g5 g6 g7 g8 g9 g10 s11 g12 g13 g14 g15 g16 g17 g18 g19 g20 s21 g22 g23 g24 s25 s26 s27 s28 g29 g30 g31 g32 g33, az_ cy g15 4 f15, ai_ cy g16 4 f16, ai_ cy g17 4 f17, ai_ cy g18 24 f18] U.heap ∧ kk_ D cy U ∧ va_D (fun _ => True) [ob12_0_ mo s0 s1 t2 s3 s4 g5 g6 g7 g8 g9 g10 s11 g12 g13 g14 g15 g16 g17 g18 g19 g20 s21 g22 g23 g24 s25 s26 s27 s28 g29 g30 g31 g32 g33, az_ cy g15 4 f15, ai_ cy g16 4 f16, ai_ cy g17 4 f17, ai_ cy g18 24 f18])) (va_Qi (fun (r : Int32) (_ : Unit) => (r.toInt = wrgI a1.toInt a2.toInt a3.toInt a4.toInt (f15 a1.toNatClampNeg).toInt (f16 a1.toNatClampNeg).toInt (f17 a1.toNatClampNeg).toInt (f18 (6 * a1.toInt + a3.toInt).toNat).toInt) ∧ (r.toInt < 0 ∨ (r.toInt = 0 ∧ ((0 ≤ a1.toInt ∧ a1.toInt < 4) ∧ (0 ≤ a2.toInt ∧ a2.toInt < 3)) ∧ (0 ≤ a3.toInt ∧ a3.toInt ≤ 5) ∧ (0 ≤ a4.toInt ∧ a4.toInt ≤ 4)))) (fun (_ : Unit) (_ : State) => True) (va_A [] sz)) 0 0 (va_A [] sz) := by
  refine ofQ (cc := cX12_wrong) (maxL := 6) (ret := (some .int)) (by decide) rfl ?_
  intro p e s m args below meth c s₁ Q hQ B hml hv
  obtain ⟨rfl, hsz, hP, hK, hD0⟩ := hv
  have hx := B.exec
  have hb := B.bytes
  have hr := B.returns
  have hts := atoms_spec (ws := wsX12_wrong) B.pre
  have hown : s.vm.findClass RX12 = some m.cls := by have h_ := findClass_of_methodNamed B.named; exact h_
  have hlocks := B.notSynchronized
  subst hsz
  have hD : va_D (va_A [] s.heap.size) [] := dd_nil
  generalize hAe : va_A [] s.heap.size = A at hD hQ
  have hA : ∀ q : Nat, s.heap.size ≤ q → A q := fun q h => by rw [← hAe]; exact Or.inr h
  have hS : va_S A s.heap s.heap [] := va_S.rf
  have hl := lv_entry ([.ref mo, .int a1, .int a2, .int a3, .int a4]) (n := 6) (Nat.le_of_ble_eq_true rfl)
  rw [lg_entry_eq]
  generalize (lg_sl ([.ref mo, .int a1, .int a2, .int a3, .int a4]) ++ List.replicate (6 - (lg_sl ([.ref mo, .int a1, .int a2, .int a3, .int a4])).length) Slot.unset).toArray = ls at hl ⊢
  have hl : lv_has ls 6 [(0, .ref mo), (1, .int a1), (2, .int a2), (3, .int a3), (4, .int a4)] := hl
  have zm13 : ((-13) : Int32).toInt = -13 := by decide
  have zm12 : ((-12) : Int32).toInt = -12 := by decide
  have zm11 : ((-11) : Int32).toInt = -11 := by decide
  have zm9 : ((-9) : Int32).toInt = -9 := by decide
  have zm1 : ((-1) : Int32).toInt = -1 := by decide
  have z0 : (0 : Int32).toInt = 0 := by decide
  have zl0 : (0 : Int64).toInt = 0 := by decide
  have z1 : (1 : Int32).toInt = 1 := by decide
  have zl2 : (2 : Int64).toInt = 2 := by decide
  have zl3 : (3 : Int64).toInt = 3 := by decide
  have z6 : (6 : Int32).toInt = 6 := by decide
  refine lv_iload_n hx hb dB_3_3_48.1.1.1.1 rfl (lv_at hl 1 rfl) ?_
  refine lv_i2l (v := a1.toInt64) hx hb dB_3_3_48.1.1.1.2 rfl ?_
  have q_1 : (a1.toInt64).toInt = a1.toInt := Int32.toInt_toInt64 a1
  refine lv_lconst (v := 0) hx hb dB_3_3_48.1.1.2.1 (by decide) ?_
  refine lv_ldc2 (v := 3) hx hb hown (hts (.constantLong RX12 243 (3)) (List.mem_of_getElem? (i := 1) rfl)) dB_3_3_48.1.1.2.2 ?_
  refine ct_R hP hD0 [] [] (by decide) rfl (fun hPc hDw => ?_)
  have hFc := va_free (wc := []) hD hS hA [] rfl
  refine va_calli (va_runS (As := [.long a1.toInt64, .long 0, .long 3]) (rest := []) ⟨hx, hb, hml, hown, hts⟩ (c_X12_in l D cy s.heap.size a1.toInt64 (0 : Int64) (3 : Int64)) (va_cwS 3 hts gX12_wrong_X12_in rfl rfl rfl hd_X12_in ⟨Nat.le_of_ble_eq_true rfl, Nat.le_of_ble_eq_true rfl⟩) ⟨bl_, fun U hU hW => ⟨rfl, by rw [hU], by rw [hU]; exact hPc, kk_mv hW hK, hDw⟩⟩ rfl rfl hl.1 rfl (lv_room (Nat.le_of_ble_eq_true rfl)) dB_3_3_48.1.2.1.1 ⟨Nat.le_of_ble_eq_true rfl, Nat.le_of_ble_eq_true rfl⟩) hS (fun q _ h => hFc q h) hFc (fun r_1 u t H locs ht hvm hw hB hz1 hk1 hS => ?_)
  have hP : va_P D vwCl _ H := ro_keep hP hk1
  rcases hw with ⟨w_2, e_⟩ | ⟨w_2, e_⟩
  · have e_ := e_.symm
    subst e_
    refine lv_if_eq (tgt := 24) hx hb dB_3_3_48.1.2.1.2 (by decide) (fun c_3 => ?_) (fun c_3 => ?_)
    · exact absurd c_3 (by decide)
    · have _ := c_3
      refine lv_iload_n hx hb dB_3_3_48.1.2.2.1 rfl (lv_at hl 2 rfl) ?_
      refine lv_i2l (v := a2.toInt64) hx hb dB_3_3_48.1.2.2.2 rfl ?_
      have q_13 : (a2.toInt64).toInt = a2.toInt := Int32.toInt_toInt64 a2
      refine lv_lconst (v := 0) hx hb dB_3_3_48.2.1.1.1 (by decide) ?_
      refine lv_ldc2 (v := 2) hx hb hown (hts (.constantLong RX12 149 (2)) (List.mem_of_getElem? (i := 2) rfl)) dB_3_3_48.2.1.1.2 ?_
      refine ct_R hP hD0 [] [] (by decide) rfl (fun hPc hDw => ?_)
      have hFc := va_free (wc := []) hD hS hA [] rfl
      refine va_calli (va_runS (As := [.long a2.toInt64, .long 0, .long 2]) (rest := []) ⟨hx, hb, hml, hown, hts⟩ (c_X12_in l D cy H.size a2.toInt64 (0 : Int64) (2 : Int64)) (va_cwS 3 hts gX12_wrong_X12_in rfl rfl rfl hd_X12_in ⟨Nat.le_of_ble_eq_true rfl, Nat.le_of_ble_eq_true rfl⟩) ⟨bl_, fun U hU hW => ⟨rfl, by rw [hU], by rw [hU]; exact hPc, kk_mv hW hK, hDw⟩⟩ rfl rfl hl.1 rfl (lv_room (Nat.le_of_ble_eq_true rfl)) dB_3_3_48.2.1.2.1 ⟨Nat.le_of_ble_eq_true rfl, Nat.le_of_ble_eq_true rfl⟩) hS (fun q _ h => hFc q h) hFc (fun r_4 u t H locs ht hvm hw hB hz1 hk1 hS => ?_)
      have hP : va_P D vwCl _ H := ro_keep hP hk1
      rcases hw with ⟨w_5, e_⟩ | ⟨w_5, e_⟩
      · have e_ := e_.symm
        subst e_
        refine lv_if_ne (tgt := 26) hx hb dB_3_3_48.2.1.2.2 (by decide) (fun c_6 => ?_) (fun c_6 => ?_)
        · have _ := c_6
          refine lv_aload_n hx hb dB_3_3_48.2.2.2.1 rfl (lv_at hl 0 rfl) ?_
          refine va_get (ci := 12) (v := .ref g15) (C := RX12) (T := TX12) (N := 34) hx hb hts (fun _ h => List.mem_cons_of_mem _ (List.mem_append_right _ h)) hown hK.1 hP 0 rfl rfl 15 (by decide) (hts (.fieldLink RX12 38 "CutAtlasModel" "hasMap" "[Z") (List.mem_of_getElem? (i := 3) rfl)) (fun _ h9 => h9) rfl dB_3_3_48.2.2.2.2 ?_
          refine lv_iload_n hx hb dB_3_3_49.1.1.1.1 rfl (lv_at hl 1 rfl) ?_
          have h_7 : vp_in a1 4 := in_I (by first | with_reducible assumption | omega) (by omega)
          refine va_zald hx hb hK.1 hP 1 2 rfl rfl (i := a1) h_7 dB_3_3_49.1.1.1.2 ?_
          refine lv_topi (fun y_8 ey_8 => ?_)
          have ky_8 : y_8.toInt = (f15 a1.toNatClampNeg).toInt := by rw [ey_8]
          refine lv_if_ne (tgt := 38) hx hb dB_3_3_49.1.1.2.1 (by decide) (fun c_9 => ?_) (fun c_9 => ?_)
          · have t_9 : ¬ y_8.toInt = (0 : Int32).toInt := fun h => c_9 (Int32.toInt_inj.mp h)
            refine lv_aload_n hx hb dB_3_3_49.1.2.1.2 rfl (lv_at hl 0 rfl) ?_
            refine va_get (ci := 12) (v := .ref g16) (C := RX12) (T := TX12) (N := 34) hx hb hts (fun _ h => List.mem_cons_of_mem _ (List.mem_append_right _ h)) hown hK.1 hP 0 rfl rfl 16 (by decide) (hts (.fieldLink RX12 41 "CutAtlasModel" "mapKind" "[I") (List.mem_of_getElem? (i := 4) rfl)) (fun _ h9 => h9) rfl dB_3_3_49.1.2.2.1 ?_
            refine lv_iload_n hx hb dB_3_3_49.1.2.2.2 rfl (lv_at hl 1 rfl) ?_
            refine va_iald hx hb hK.1 hP 2 0 rfl rfl (i := a1) h_7 dB_3_3_49.2.1.1.1 ?_
            refine lv_topi (fun y_11 ey_11 => ?_)
            have ky_11 : y_11.toInt = (f16 a1.toNatClampNeg).toInt := by rw [ey_11]
            refine lv_iload_n hx hb dB_3_3_49.2.1.1.2 rfl (lv_at hl 2 rfl) ?_
            refine lv_icmp_eq (tgt := 51) hx hb dB_3_3_49.2.1.2.1 (by decide) (fun c_12 => ?_) (fun c_12 => ?_)
            · have t_12 : y_11.toInt = a2.toInt := congrArg Int32.toInt c_12
              refine lv_iload_n hx hb dB_3_3_49.2.2.1.2 rfl (lv_at hl 3 rfl) ?_
              refine lv_i2l (v := a3.toInt64) hx hb dB_3_3_49.2.2.2.1 rfl ?_
              have q_52 : (a3.toInt64).toInt = a3.toInt := Int32.toInt_toInt64 a3
              refine lv_lconst (v := 0) hx hb dB_3_3_49.2.2.2.2 (by decide) ?_
              refine lv_aload_n hx hb dB_3_3_50.1.1.1.1 rfl (lv_at hl 0 rfl) ?_
              refine va_get (ci := 12) (v := .ref g17) (C := RX12) (T := TX12) (N := 34) hx hb hts (fun _ h => List.mem_cons_of_mem _ (List.mem_append_right _ h)) hown hK.1 hP 0 rfl rfl 17 (by decide) (hts (.fieldLink RX12 44 "CutAtlasModel" "mapRows" "[I") (List.mem_of_getElem? (i := 5) rfl)) (fun _ h9 => h9) rfl dB_3_3_50.1.1.1.2 ?_
              refine lv_iload_n hx hb dB_3_3_50.1.1.2.1 rfl (lv_at hl 1 rfl) ?_
              refine va_iald hx hb hK.1 hP 3 0 rfl rfl (i := a1) h_7 dB_3_3_50.1.1.2.2 ?_
              refine lv_topi (fun y_14 ey_14 => ?_)
              have ky_14 : y_14.toInt = (f17 a1.toNatClampNeg).toInt := by rw [ey_14]
              have ry_14 : 0 ≤ y_14.toInt ∧ y_14.toInt ≤ 6 := by rw [ey_14]; exact r_f17 _ (in_lt h_7)
              refine lv_iconst (v := 1) hx hb dB_3_3_50.1.2.1.1 (by decide) ?_
              refine lv_isub hx hb dB_3_3_50.1.2.1.2 ?_
              refine lv_topi (fun y_15 ey_15 => ?_)
              have ty_15 : y_15.toInt = y_14.toInt - (1 : Int32).toInt := by rw [ey_15]; exact subI (by omega) (by omega)
              refine lv_i2l (v := y_15.toInt64) hx hb dB_3_3_50.1.2.2.1 rfl ?_
              have q_62 : (y_15.toInt64).toInt = y_15.toInt := Int32.toInt_toInt64 y_15
              refine ct_R hP hD0 [] [] (by decide) rfl (fun hPc hDw => ?_)
              have hFc := va_free (wc := []) hD hS hA [] rfl
              refine va_calli (va_runS (As := [.long a3.toInt64, .long 0, .long y_15.toInt64]) (rest := []) ⟨hx, hb, hml, hown, hts⟩ (c_X12_in l D cy H.size a3.toInt64 (0 : Int64) y_15.toInt64) (va_cwS 3 hts gX12_wrong_X12_in rfl rfl rfl hd_X12_in ⟨Nat.le_of_ble_eq_true rfl, Nat.le_of_ble_eq_true rfl⟩) ⟨bl_, fun U hU hW => ⟨rfl, by rw [hU], by rw [hU]; exact hPc, kk_mv hW hK, hDw⟩⟩ rfl rfl hl.1 rfl (lv_room (Nat.le_of_ble_eq_true rfl)) dB_3_3_50.1.2.2.2 ⟨Nat.le_of_ble_eq_true rfl, Nat.le_of_ble_eq_true rfl⟩) hS (fun q _ h => hFc q h) hFc (fun r_16 u t H locs ht hvm hw hB hz1 hk1 hS => ?_)
              have hP : va_P D vwCl _ H := ro_keep hP hk1
              rcases hw with ⟨w_17, e_⟩ | ⟨w_17, e_⟩
              · have e_ := e_.symm
                subst e_
                refine lv_if_ne (tgt := 72) hx hb dB_3_3_50.2.1.1.1 (by decide) (fun c_18 => ?_) (fun c_18 => ?_)
                · have _ := c_18
                  refine lv_aload_n hx hb dB_3_3_50.2.1.2.2 rfl (lv_at hl 0 rfl) ?_
                  refine va_get (ci := 12) (v := .ref g18) (C := RX12) (T := TX12) (N := 34) hx hb hts (fun _ h => List.mem_cons_of_mem _ (List.mem_append_right _ h)) hown hK.1 hP 0 rfl rfl 18 (by decide) (hts (.fieldLink RX12 47 "CutAtlasModel" "rowSize" "[I") (List.mem_of_getElem? (i := 6) rfl)) (fun _ h9 => h9) rfl dB_3_3_50.2.2.1.1 ?_
                  refine lv_bipush (v := 6) hx hb dB_3_3_50.2.2.1.2 (by decide) ?_
                  refine lv_iload_n hx hb dB_3_3_50.2.2.2.1 rfl (lv_at hl 1 rfl) ?_
                  refine lv_imul hx hb dB_3_3_50.2.2.2.2 ?_
                  refine lv_topi (fun y_19 ey_19 => ?_)
                  have ty_19 : y_19.toInt = 6 * a1.toInt := by rw [ey_19]; exact mulC (by decide) (by omega) (by omega)
                  refine lv_iload_n hx hb dB_3_3_51.1.1.1.1 rfl (lv_at hl 3 rfl) ?_
                  refine lv_iadd hx hb dB_3_3_51.1.1.1.2 ?_
                  refine lv_topi (fun y_20 ey_20 => ?_)
                  have ty_20 : y_20.toInt = y_19.toInt + a3.toInt := by rw [ey_20]; exact addI (by omega) (by omega)
                  have hix_ : y_20.toNatClampNeg = (6 * a1.toInt + a3.toInt).toNat := ixn (by omega)
                  have hlo_ := hlk y_20.toNatClampNeg (by rw [hix_]; omega)
                  have h_21 : vp_in y_20 24 := in_I (by first | with_reducible assumption | omega) (by omega)
                  refine va_iald hx hb hK.1 hP 4 0 rfl rfl (i := y_20) h_21 dB_3_3_51.1.1.2.1 ?_
                  refine lv_topi (fun y_22 ey_22 => ?_)
                  have ky_22 : y_22.toInt = (f18 y_20.toNatClampNeg).toInt := by rw [ey_22]
                  have ry_22 : -9 ≤ y_22.toInt ∧ y_22.toInt ≤ 5 := by rw [ey_22]; exact r_f18 _ (in_lt h_21)
                  have k18_ : y_22.toInt = (f18 (6 * a1.toInt + a3.toInt).toNat).toInt := by rw [ey_22, hix_]
                  refine lv_istore (lv' := [(5, .int y_22), (0, .ref mo), (1, .int a1), (2, .int a2), (3, .int a3), (4, .int a4)]) hx hb dB_3_3_51.1.1.2.2 hl (by decide) rfl (fun ls hl => ?_)
                  refine lv_iload hx hb dB_3_3_51.1.2.1.1 (lv_at hl 0 rfl) ?_
                  refine lv_bipush (v := (-9)) hx hb dB_3_3_51.1.2.1.2 (by decide) ?_
                  refine lv_icmp_ne (tgt := 97) hx hb dB_3_3_51.1.2.2.1 (by decide) (fun c_23 => ?_) (fun c_23 => ?_)
                  · have t_23 : ¬ y_22.toInt = ((-9) : Int32).toInt := fun h => c_23 (Int32.toInt_inj.mp h)
                    refine lv_iload hx hb dB_3_3_51.2.1.1.2 (lv_at hl 5 rfl) ?_
                    refine lv_i2l (v := a4.toInt64) hx hb dB_3_3_51.2.1.2.1 rfl ?_
                    have q_99 : (a4.toInt64).toInt = a4.toInt := Int32.toInt_toInt64 a4
                    refine lv_lconst (v := 0) hx hb dB_3_3_51.2.1.2.2 (by decide) ?_
                    refine lv_iload hx hb dB_3_3_51.2.2.1.1 (lv_at hl 0 rfl) ?_
                    refine lv_iconst (v := 1) hx hb dB_3_3_51.2.2.1.2 (by decide) ?_
                    refine lv_isub hx hb dB_3_3_51.2.2.2.1 ?_
                    refine lv_topi (fun y_24 ey_24 => ?_)
                    have ty_24 : y_24.toInt = y_22.toInt - (1 : Int32).toInt := by rw [ey_24]; exact subI (by omega) (by omega)
                    refine lv_i2l (v := y_24.toInt64) hx hb dB_3_3_51.2.2.2.2 rfl ?_
                    have q_105 : (y_24.toInt64).toInt = y_24.toInt := Int32.toInt_toInt64 y_24
                    refine ct_R hP hD0 [] [] (by decide) rfl (fun hPc hDw => ?_)
                    have hFc := va_free (wc := []) hD hS hA [] rfl
                    refine va_calli (va_runS (As := [.long a4.toInt64, .long 0, .long y_24.toInt64]) (rest := []) ⟨hx, hb, hml, hown, hts⟩ (c_X12_in l D cy H.size a4.toInt64 (0 : Int64) y_24.toInt64) (va_cwS 3 hts gX12_wrong_X12_in rfl rfl rfl hd_X12_in ⟨Nat.le_of_ble_eq_true rfl, Nat.le_of_ble_eq_true rfl⟩) ⟨bl_, fun U hU hW => ⟨rfl, by rw [hU], by rw [hU]; exact hPc, kk_mv hW hK, hDw⟩⟩ rfl rfl hl.1 rfl (lv_room (Nat.le_of_ble_eq_true rfl)) dB_3_3_52.1.1 ⟨Nat.le_of_ble_eq_true rfl, Nat.le_of_ble_eq_true rfl⟩) hS (fun q _ h => hFc q h) hFc (fun r_25 u t H locs ht hvm hw hB hz1 hk1 hS => ?_)
                    have hP : va_P D vwCl _ H := ro_keep hP hk1
                    rcases hw with ⟨w_26, e_⟩ | ⟨w_26, e_⟩
                    · have e_ := e_.symm
                      subst e_
                      refine lv_if_ne (tgt := 117) hx hb dB_3_3_52.1.2.1 (by decide) (fun c_27 => ?_) (fun c_27 => ?_)
                      · have _ := c_27
                        refine lv_iconst (v := 0) hx hb dB_3_3_52.2.2.1 (by decide) ?_
                        rw [hQ]
                        exact W.iret (v := 0) hx hb hr (fun t ht hW => ⟨⟨0, (), rfl, ⟨by unfold wrgI; (repeat' (first | with_reducible refine if_n (by omega) ?_ | with_reducible refine if_ns (by omega) ?_ | with_reducible refine if_nz (by omega) ?_ | with_reducible exact if_p (by omega) (by omega) | with_reducible exact if_ps (by omega) (by omega) | with_reducible exact if_pz (by omega) (by omega))) <;> omega, by omega⟩, trivial⟩, hS.F ht⟩) hS.2.2 dB_3_3_52.2.2.2
                      · exact absurd c_27 (by decide)
                    · have e_ := e_.symm
                      subst e_
                      refine lv_if_ne (tgt := 117) hx hb dB_3_3_52.1.2.1 (by decide) (fun c_28 => ?_) (fun c_28 => ?_)
                      · exact absurd c_28 (by decide)
                      · have _ := c_28
                        refine lv_bipush (v := (-12)) hx hb dB_3_3_52.1.2.2 (by decide) ?_
                        refine lv_goto (tgt := 118) hx hb dB_3_3_52.2.1 (by decide) ?_
                        rw [hQ]
                        exact W.iret (v := (-12)) hx hb hr (fun t ht hW => ⟨⟨(-12), (), rfl, ⟨by unfold wrgI; (repeat' (first | with_reducible refine if_n (by omega) ?_ | with_reducible refine if_ns (by omega) ?_ | with_reducible refine if_nz (by omega) ?_ | with_reducible exact if_p (by omega) (by omega) | with_reducible exact if_ps (by omega) (by omega) | with_reducible exact if_pz (by omega) (by omega))) <;> omega, by omega⟩, trivial⟩, hS.F ht⟩) hS.2.2 dB_3_3_52.2.2.2
                  · have t_23 : y_22.toInt = ((-9) : Int32).toInt := congrArg Int32.toInt c_23
                    refine lv_bipush (v := (-11)) hx hb dB_3_3_51.1.2.2.2 (by decide) ?_
                    refine lv_goto (tgt := 118) hx hb dB_3_3_51.2.1.1.1 (by decide) ?_
                    rw [hQ]
                    exact W.iret (v := (-11)) hx hb hr (fun t ht hW => ⟨⟨(-11), (), rfl, ⟨by unfold wrgI; (repeat' (first | with_reducible refine if_n (by omega) ?_ | with_reducible refine if_ns (by omega) ?_ | with_reducible refine if_nz (by omega) ?_ | with_reducible exact if_p (by omega) (by omega) | with_reducible exact if_ps (by omega) (by omega) | with_reducible exact if_pz (by omega) (by omega))) <;> omega, by omega⟩, trivial⟩, hS.F ht⟩) hS.2.2 dB_3_3_52.2.2.2
                · exact absurd c_18 (by decide)
              · have e_ := e_.symm
                subst e_
                refine lv_if_ne (tgt := 72) hx hb dB_3_3_50.2.1.1.1 (by decide) (fun c_29 => ?_) (fun c_29 => ?_)
                · exact absurd c_29 (by decide)
                · have _ := c_29
                  refine lv_bipush (v := (-12)) hx hb dB_3_3_50.2.1.1.2 (by decide) ?_
                  rw [hQ]
                  exact W.iret (v := (-12)) hx hb hr (fun t ht hW => ⟨⟨(-12), (), rfl, ⟨by unfold wrgI; (repeat' (first | with_reducible refine if_n (by omega) ?_ | with_reducible refine if_ns (by omega) ?_ | with_reducible refine if_nz (by omega) ?_ | with_reducible exact if_p (by omega) (by omega) | with_reducible exact if_ps (by omega) (by omega) | with_reducible exact if_pz (by omega) (by omega))) <;> omega, by omega⟩, trivial⟩, hS.F ht⟩) hS.2.2 dB_3_3_50.2.1.2.1
            · have t_12 : ¬ y_11.toInt = a2.toInt := fun h => c_12 (Int32.toInt_inj.mp h)
              refine lv_bipush (v := (-13)) hx hb dB_3_3_49.2.1.2.2 (by decide) ?_
              rw [hQ]
              exact W.iret (v := (-13)) hx hb hr (fun t ht hW => ⟨⟨(-13), (), rfl, ⟨by unfold wrgI; (repeat' (first | with_reducible refine if_n (by omega) ?_ | with_reducible refine if_ns (by omega) ?_ | with_reducible refine if_nz (by omega) ?_ | with_reducible exact if_p (by omega) (by omega) | with_reducible exact if_ps (by omega) (by omega) | with_reducible exact if_pz (by omega) (by omega))) <;> omega, by omega⟩, trivial⟩, hS.F ht⟩) hS.2.2 dB_3_3_49.2.2.1.1
          · have t_9 : y_8.toInt = (0 : Int32).toInt := congrArg Int32.toInt c_9
            refine lv_bipush (v := (-11)) hx hb dB_3_3_49.1.1.2.2 (by decide) ?_
            rw [hQ]
            exact W.iret (v := (-11)) hx hb hr (fun t ht hW => ⟨⟨(-11), (), rfl, ⟨by unfold wrgI; (repeat' (first | with_reducible refine if_n (by omega) ?_ | with_reducible refine if_ns (by omega) ?_ | with_reducible refine if_nz (by omega) ?_ | with_reducible exact if_p (by omega) (by omega) | with_reducible exact if_ps (by omega) (by omega) | with_reducible exact if_pz (by omega) (by omega))) <;> omega, by omega⟩, trivial⟩, hS.F ht⟩) hS.2.2 dB_3_3_49.1.2.1.1
        · exact absurd c_6 (by decide)
      · have e_ := e_.symm
        subst e_
        refine lv_if_ne (tgt := 26) hx hb dB_3_3_48.2.1.2.2 (by decide) (fun c_30 => ?_) (fun c_30 => ?_)
        · exact absurd c_30 (by decide)
        · have _ := c_30
          refine lv_iconst (v := (-1)) hx hb dB_3_3_48.2.2.1.1 (by decide) ?_
          rw [hQ]
          exact W.iret (v := (-1)) hx hb hr (fun t ht hW => ⟨⟨(-1), (), rfl, ⟨by unfold wrgI; (repeat' (first | with_reducible refine if_n (by omega) ?_ | with_reducible refine if_ns (by omega) ?_ | with_reducible refine if_nz (by omega) ?_ | with_reducible exact if_p (by omega) (by omega) | with_reducible exact if_ps (by omega) (by omega) | with_reducible exact if_pz (by omega) (by omega))) <;> omega, by omega⟩, trivial⟩, hS.F ht⟩) hS.2.2 dB_3_3_48.2.2.1.2
  · have e_ := e_.symm
    subst e_
    refine lv_if_eq (tgt := 24) hx hb dB_3_3_48.1.2.1.2 (by decide) (fun c_31 => ?_) (fun c_31 => ?_)
    · have _ := c_31
      refine lv_iconst (v := (-1)) hx hb dB_3_3_48.2.2.1.1 (by decide) ?_
      rw [hQ]
      exact W.iret (v := (-1)) hx hb hr (fun t ht hW => ⟨⟨(-1), (), rfl, ⟨by unfold wrgI; (repeat' (first | with_reducible refine if_n (by omega) ?_ | with_reducible refine if_ns (by omega) ?_ | with_reducible refine if_nz (by omega) ?_ | with_reducible exact if_p (by omega) (by omega) | with_reducible exact if_ps (by omega) (by omega) | with_reducible exact if_pz (by omega) (by omega))) <;> omega, by omega⟩, trivial⟩, hS.F ht⟩) hS.2.2 dB_3_3_48.2.2.1.2
    · exact absurd c_31 (by decide)
end

section
set_option maxHeartbeats 4000000 in
set_option maxRecDepth 100000 in
theorem c_X12_map2 (l : Launch) (D : va_G) (cy : Nat → ClassId) (sz : Nat) (mo : Nat) (g5 : Nat) (g6 : Nat) (g7 : Nat) (g8 : Nat) (g9 : Nat) (g10 : Nat) (g12 : Nat) (g13 : Nat) (g14 : Nat) (g15 : Nat) (g16 : Nat) (g17 : Nat) (g18 : Nat) (g19 : Nat) (g20 : Nat) (g22 : Nat) (g23 : Nat) (g24 : Nat) (g29 : Nat) (g30 : Nat) (g31 : Nat) (g32 : Nat) (g33 : Nat) (s0 : Int32) (s1 : Int32) (s3 : Int32) (s4 : Int32) (s11 : Int32) (s21 : Int32) (s25 : Int32) (s26 : Int32) (s27 : Int32) (s28 : Int32) (t2 : Int64) (f15 : Nat → Int32) (f16 : Nat → Int32) (f17 : Nat → Int32) (f18 : Nat → Int32) (a1 : Int32) (a2 : Int32) (a3 : Int32) (hlk : lok f18 24) (r_f17 : rng f17 4 (0) (6)) (r_f18 : rng f18 24 (-9) (5)) : Met l yX12_map wsX12_map ({ frames := 1, cells := 0, slots := 0, locals := 25 }) (va_Pc [.ref mo, .int a1, .int a2, .int a3] (fun U => U.heap.size = sz ∧ va_P D vwCl [ob12_0_ mo s0 s1 t2 s3 s4 g5 g6 g7 g8 g9 g10 s11 g12 g13 g14 g15 g16 g17 g18 g19 g20 s21 g22 g23 g24 s25 s26 s27 s28 g29 g30 g31 g32 g33, az_ cy g15 4 f15, ai_ cy g16 4 f16, ai_ cy g17 4 f17, ai_ cy g18 24 f18] U.heap ∧ kk_ D cy U ∧ va_D (fun _ => True) [ob12_0_ mo s0 s1 t2 s3 s4 g5 g6 g7 g8 g9 g10 s11 g12 g13 g14 g15 g16 g17 g18 g19 g20 s21 g22 g23 g24 s25 s26 s27 s28 g29 g30 g31 g32 g33, az_ cy g15 4 f15, ai_ cy g16 4 f16, ai_ cy g17 4 f17, ai_ cy g18 24 f18])) (va_Qi (fun (r : Int32) (_ : Unit) => (r.toInt = if mapRI a1.toInt a2.toInt a3.toInt = 0 then 1 else mapRI a1.toInt a2.toInt a3.toInt)) (fun (_ : Unit) (t : State) => ∃ (n1 : Int32), ∃ (e15 : Nat → Int32), ∃ (e16 : Nat → Int32), ∃ (e17 : Nat → Int32), ∃ (e18 : Nat → Int32), (n1.toInt = mapRI a1.toInt a2.toInt a3.toInt) ∧ ((n1.toInt ≠ 0 → e15 = f15 ∧ e16 = f16 ∧ e17 = f17 ∧ e18 = f18) ∧ (n1.toInt = 0 → e15 = upd f15 a1.toNatClampNeg (vp_nar .boolean 1) ∧ e16 = upd f16 a1.toNatClampNeg a2 ∧ e17 = upd f17 a1.toNatClampNeg a3 ∧ ∀ q : Nat, e18 q = if 6 * a1.toInt ≤ (q : Int) ∧ (q : Int) < 6 * a1.toInt + 6 then (-9) else f18 q)) ∧ (lok e18 24) ∧ (rng e17 4 (0) (6)) ∧ (rng e18 24 (-9) (5)) ∧ va_P D vwCl [ob12_0_ mo 0 n1 t2 s3 s4 g5 g6 g7 g8 g9 g10 s11 g12 g13 g14 g15 g16 g17 g18 g19 g20 s21 g22 g23 g24 s25 s26 s27 s28 g29 g30 g31 g32 g33, az_ cy g15 4 e15, ai_ cy g16 4 e16, ai_ cy g17 4 e17, ai_ cy g18 24 e18] t.heap ∧ va_D (va_A [ob12_0_ mo s0 s1 t2 s3 s4 g5 g6 g7 g8 g9 g10 s11 g12 g13 g14 g15 g16 g17 g18 g19 g20 s21 g22 g23 g24 s25 s26 s27 s28 g29 g30 g31 g32 g33, az_ cy g15 4 f15, ai_ cy g16 4 f16, ai_ cy g17 4 f17, ai_ cy g18 24 f18] sz) [ob12_0_ mo 0 n1 t2 s3 s4 g5 g6 g7 g8 g9 g10 s11 g12 g13 g14 g15 g16 g17 g18 g19 g20 s21 g22 g23 g24 s25 s26 s27 s28 g29 g30 g31 g32 g33, az_ cy g15 4 e15, ai_ cy g16 4 e16, ai_ cy g17 4 e17, ai_ cy g18 24 e18]) (va_A [ob12_0_ mo s0 s1 t2 s3 s4 g5 g6 g7 g8 g9 g10 s11 g12 g13 g14 g15 g16 g17 g18 g19 g20 s21 g22 g23 g24 s25 s26 s27 s28 g29 g30 g31 g32 g33, az_ cy g15 4 f15, ai_ cy g16 4 f16, ai_ cy g17 4 f17, ai_ cy g18 24 f18] sz)) 0 0 (va_A [ob12_0_ mo s0 s1 t2 s3 s4 g5 g6 g7 g8 g9 g10 s11 g12 g13 g14 g15 g16 g17 g18 g19 g20 s21 g22 g23 g24 s25 s26 s27 s28 g29 g30 g31 g32 g33, az_ cy g15 4 f15, ai_ cy g16 4 f16, ai_ cy g17 4 f17, ai_ cy g18 24 f18] sz) := by
  refine ofQ (cc := cX12_map) (maxL := 5) (ret := (some .int)) (by decide) rfl ?_
  intro p e s m args below meth c s₁ Q hQ B hml hv
  obtain ⟨rfl, hsz, hP, hK, hD0⟩ := hv
  have hx := B.exec
  have hb := B.bytes
  have hr := B.returns
  have hts := atoms_spec (ws := wsX12_map) B.pre
  have hown : s.vm.findClass RX12 = some m.cls := by have h_ := findClass_of_methodNamed B.named; exact h_
  have hlocks := B.notSynchronized
  subst hsz
  have hD := hD0.self (sz := s.heap.size)
  generalize hAe : va_A [ob12_0_ mo s0 s1 t2 s3 s4 g5 g6 g7 g8 g9 g10 s11 g12 g13 g14 g15 g16 g17 g18 g19 g20 s21 g22 g23 g24 s25 s26 s27 s28 g29 g30 g31 g32 g33, az_ cy g15 4 f15, ai_ cy g16 4 f16, ai_ cy g17 4 f17, ai_ cy g18 24 f18] s.heap.size = A at hD hQ
  have hA : ∀ q : Nat, s.heap.size ≤ q → A q := fun q h => by rw [← hAe]; exact Or.inr h
  have hS : va_S A s.heap s.heap [] := va_S.rf
  have hl := lv_entry ([.ref mo, .int a1, .int a2, .int a3]) (n := 5) (Nat.le_of_ble_eq_true rfl)
  rw [lg_entry_eq]
  generalize (lg_sl ([.ref mo, .int a1, .int a2, .int a3]) ++ List.replicate (5 - (lg_sl ([.ref mo, .int a1, .int a2, .int a3])).length) Slot.unset).toArray = ls at hl ⊢
  have hl : lv_has ls 5 [(0, .ref mo), (1, .int a1), (2, .int a2), (3, .int a3)] := hl
  have zm15 : ((-15) : Int32).toInt = -15 := by decide
  have zm9 : ((-9) : Int32).toInt = -9 := by decide
  have zm1 : ((-1) : Int32).toInt = -1 := by decide
  have z0 : (0 : Int32).toInt = 0 := by decide
  have zl0 : (0 : Int64).toInt = 0 := by decide
  have z1 : (1 : Int32).toInt = 1 := by decide
  have zl2 : (2 : Int64).toInt = 2 := by decide
  have zl3 : (3 : Int64).toInt = 3 := by decide
  have z6 : (6 : Int32).toInt = 6 := by decide
  have zq1 : (1 : Int32).toInt = 1 := by decide
  refine lv_aload_n hx hb dB_3_3_22.1.1.1.1 rfl (lv_at hl 0 rfl) ?_
  refine lv_iconst (v := 0) hx hb dB_3_3_22.1.1.1.2 (by decide) ?_
  refine va_put (ci := 12) (v := .int 0) (ty := .int) (C := RX12) (T := TX12) (N := 34) hx hb hts (fun _ h => List.mem_cons_of_mem _ (List.mem_append_right _ h)) tyX12 tyX12_ok nmX12 hown hK.1 hP hD hS 0 rfl rfl 0 (by decide) (hts (.fieldLink RX12 85 "CutAtlasModel" "thrown" "I") (List.mem_of_getElem? (i := 1) rfl)) (fun _ h9 => h9) rfl (by decide +kernel) rfl rfl (Nat.le_of_ble_eq_true rfl) dB_3_3_22.1.1.2.1 (fun H locs hP hD hS => ?_)
  refine pd_K [ob12_0_ mo 0 s1 t2 s3 s4 g5 g6 g7 g8 g9 g10 s11 g12 g13 g14 g15 g16 g17 g18 g19 g20 s21 g22 g23 g24 s25 s26 s27 s28 g29 g30 g31 g32 g33, az_ cy g15 4 f15, ai_ cy g16 4 f16, ai_ cy g17 4 f17, ai_ cy g18 24 f18] hP hD (fun hP hD => ?_)
  refine lv_aload_n hx hb dB_3_3_22.1.1.2.2 rfl (lv_at hl 0 rfl) ?_
  refine lv_iconst (v := 0) hx hb dB_3_3_22.1.2.1.1 (by decide) ?_
  refine va_put (ci := 12) (v := .int 0) (ty := .int) (C := RX12) (T := TX12) (N := 34) hx hb hts (fun _ h => List.mem_cons_of_mem _ (List.mem_append_right _ h)) tyX12 tyX12_ok nmX12 hown hK.1 hP hD hS 0 rfl rfl 1 (by decide) (hts (.fieldLink RX12 240 "CutAtlasModel" "status" "I") (List.mem_of_getElem? (i := 2) rfl)) (fun _ h9 => h9) rfl (by decide +kernel) rfl rfl (Nat.le_of_ble_eq_true rfl) dB_3_3_22.1.2.1.2 (fun H locs hP hD hS => ?_)
  refine pd_K [ob12_0_ mo 0 0 t2 s3 s4 g5 g6 g7 g8 g9 g10 s11 g12 g13 g14 g15 g16 g17 g18 g19 g20 s21 g22 g23 g24 s25 s26 s27 s28 g29 g30 g31 g32 g33, az_ cy g15 4 f15, ai_ cy g16 4 f16, ai_ cy g17 4 f17, ai_ cy g18 24 f18] hP hD (fun hP hD => ?_)
  refine lv_iload_n hx hb dB_3_3_22.1.2.2.1 rfl (lv_at hl 1 rfl) ?_
  refine lv_i2l (v := a1.toInt64) hx hb dB_3_3_22.1.2.2.2 rfl ?_
  have q_11 : (a1.toInt64).toInt = a1.toInt := Int32.toInt_toInt64 a1
  refine lv_lconst (v := 0) hx hb dB_3_3_22.2.1.1.1 (by decide) ?_
  refine lv_ldc2 (v := 3) hx hb hown (hts (.constantLong RX12 243 (3)) (List.mem_of_getElem? (i := 3) rfl)) dB_3_3_22.2.1.1.2 ?_
  refine ct_R hP hD [] [] (by decide) rfl (fun hPc hDw => ?_)
  have hFc := va_free (wc := []) hD hS hA [] rfl
  refine va_calli (va_runS (As := [.long a1.toInt64, .long 0, .long 3]) (rest := []) ⟨hx, hb, hml, hown, hts⟩ (c_X12_in l D cy H.size a1.toInt64 (0 : Int64) (3 : Int64)) (va_cwS 3 hts gX12_map_X12_in rfl rfl rfl hd_X12_in ⟨Nat.le_of_ble_eq_true rfl, Nat.le_of_ble_eq_true rfl⟩) ⟨bl_, fun U hU hW => ⟨rfl, by rw [hU], by rw [hU]; exact hPc, kk_mv hW hK, hDw⟩⟩ rfl rfl hl.1 rfl (lv_room (Nat.le_of_ble_eq_true rfl)) dB_3_3_22.2.1.2.1 ⟨Nat.le_of_ble_eq_true rfl, Nat.le_of_ble_eq_true rfl⟩) hS (fun q _ h => hFc q h) hFc (fun r_1 u t H locs ht hvm hw hB hz1 hk1 hS => ?_)
  have hP : va_P D vwCl _ H := ro_keep hP hk1
  rcases hw with ⟨w_2, e_⟩ | ⟨w_2, e_⟩
  · have e_ := e_.symm
    subst e_
    refine lv_if_eq (tgt := 40) hx hb dB_3_3_22.2.1.2.2 (by decide) (fun c_3 => ?_) (fun c_3 => ?_)
    · exact absurd c_3 (by decide)
    · have _ := c_3
      refine lv_iload_n hx hb dB_3_3_22.2.2.1.1 rfl (lv_at hl 2 rfl) ?_
      refine lv_i2l (v := a2.toInt64) hx hb dB_3_3_22.2.2.1.2 rfl ?_
      have q_23 : (a2.toInt64).toInt = a2.toInt := Int32.toInt_toInt64 a2
      refine lv_lconst (v := 0) hx hb dB_3_3_22.2.2.2.1 (by decide) ?_
      refine lv_ldc2 (v := 2) hx hb hown (hts (.constantLong RX12 149 (2)) (List.mem_of_getElem? (i := 4) rfl)) dB_3_3_22.2.2.2.2 ?_
      refine ct_R hP hD [] [] (by decide) rfl (fun hPc hDw => ?_)
      have hFc := va_free (wc := []) hD hS hA [] rfl
      refine va_calli (va_runS (As := [.long a2.toInt64, .long 0, .long 2]) (rest := []) ⟨hx, hb, hml, hown, hts⟩ (c_X12_in l D cy H.size a2.toInt64 (0 : Int64) (2 : Int64)) (va_cwS 3 hts gX12_map_X12_in rfl rfl rfl hd_X12_in ⟨Nat.le_of_ble_eq_true rfl, Nat.le_of_ble_eq_true rfl⟩) ⟨bl_, fun U hU hW => ⟨rfl, by rw [hU], by rw [hU]; exact hPc, kk_mv hW hK, hDw⟩⟩ rfl rfl hl.1 rfl (lv_room (Nat.le_of_ble_eq_true rfl)) dB_3_3_23.1.1.1.1 ⟨Nat.le_of_ble_eq_true rfl, Nat.le_of_ble_eq_true rfl⟩) hS (fun q _ h => hFc q h) hFc (fun r_4 u t H locs ht hvm hw hB hz1 hk1 hS => ?_)
      have hP : va_P D vwCl _ H := ro_keep hP hk1
      rcases hw with ⟨w_5, e_⟩ | ⟨w_5, e_⟩
      · have e_ := e_.symm
        subst e_
        refine lv_if_eq (tgt := 40) hx hb dB_3_3_23.1.1.1.2 (by decide) (fun c_6 => ?_) (fun c_6 => ?_)
        · exact absurd c_6 (by decide)
        · have _ := c_6
          refine lv_iload_n hx hb dB_3_3_23.1.1.2.1 rfl (lv_at hl 3 rfl) ?_
          refine lv_bipush (v := 6) hx hb dB_3_3_23.1.1.2.2 (by decide) ?_
          refine lv_icmp_le (tgt := 46) hx hb dB_3_3_23.1.2.1.1 (by decide) (fun c_7 => ?_) (fun c_7 => ?_)
          · have t_7 : a3.toInt ≤ (6 : Int32).toInt := Int32.le_iff_toInt_le.mp c_7
            refine lv_iload_n hx hb dB_3_3_23.2.1.1.2 rfl (lv_at hl 3 rfl) ?_
            refine lv_if_ge (tgt := 57) hx hb dB_3_3_23.2.1.2.1 (by decide) (fun c_8 => ?_) (fun c_8 => ?_)
            · have t_8 : (0 : Int32).toInt ≤ a3.toInt := Int32.le_iff_toInt_le.mp c_8
              refine lv_aload_n hx hb dB_3_3_23.2.2.2.2 rfl (lv_at hl 0 rfl) ?_
              refine va_get (ci := 12) (v := .ref g15) (C := RX12) (T := TX12) (N := 34) hx hb hts (fun _ h => List.mem_cons_of_mem _ (List.mem_append_right _ h)) hown hK.1 hP 0 rfl rfl 15 (by decide) (hts (.fieldLink RX12 38 "CutAtlasModel" "hasMap" "[Z") (List.mem_of_getElem? (i := 5) rfl)) (fun _ h9 => h9) rfl dB_3_3_24.1.1.1.1 ?_
              refine lv_iload_n hx hb dB_3_3_24.1.1.1.2 rfl (lv_at hl 1 rfl) ?_
              refine lv_iconst (v := 1) hx hb dB_3_3_24.1.1.2.1 (by decide) ?_
              have h_9 : vp_in a1 4 := in_I (by first | with_reducible assumption | omega) (by omega)
              refine va_zast hx hb hK.1 hP hD hS 1 2 rfl rfl (i := a1) h_9 dB_3_3_24.1.1.2.2 (fun H locs hP hD hS => ?_)
              obtain ⟨f_10, ef_10⟩ : ∃ g : Nat → Int32, g = upd f15 a1.toNatClampNeg (vp_nar .boolean (1 : Int32)) := ⟨_, rfl⟩
              refine pd_K (D := D) (cl := vwCl) (H := H) (A := A) [ob12_0_ mo 0 0 t2 s3 s4 g5 g6 g7 g8 g9 g10 s11 g12 g13 g14 g15 g16 g17 g18 g19 g20 s21 g22 g23 g24 s25 s26 s27 s28 g29 g30 g31 g32 g33, az_ cy g15 4 f_10, ai_ cy g16 4 f16, ai_ cy g17 4 f17, ai_ cy g18 24 f18] (by rw [ef_10]; exact hP) (by rw [ef_10]; exact hD) (fun hP hD => ?_)
              refine lv_aload_n hx hb dB_3_3_24.1.2.1.1 rfl (lv_at hl 0 rfl) ?_
              refine va_get (ci := 12) (v := .ref g16) (C := RX12) (T := TX12) (N := 34) hx hb hts (fun _ h => List.mem_cons_of_mem _ (List.mem_append_right _ h)) hown hK.1 hP 0 rfl rfl 16 (by decide) (hts (.fieldLink RX12 41 "CutAtlasModel" "mapKind" "[I") (List.mem_of_getElem? (i := 6) rfl)) (fun _ h9 => h9) rfl dB_3_3_24.1.2.1.2 ?_
              refine lv_iload_n hx hb dB_3_3_24.1.2.2.1 rfl (lv_at hl 1 rfl) ?_
              refine lv_iload_n hx hb dB_3_3_24.1.2.2.2 rfl (lv_at hl 2 rfl) ?_
              refine va_iast hx hb hK.1 hP hD hS 2 0 rfl rfl (i := a1) h_9 dB_3_3_24.2.1.1.1 (fun H locs hP hD hS => ?_)
              obtain ⟨f_12, ef_12⟩ : ∃ g : Nat → Int32, g = upd f16 a1.toNatClampNeg a2 := ⟨_, rfl⟩
              refine pd_K (D := D) (cl := vwCl) (H := H) (A := A) [ob12_0_ mo 0 0 t2 s3 s4 g5 g6 g7 g8 g9 g10 s11 g12 g13 g14 g15 g16 g17 g18 g19 g20 s21 g22 g23 g24 s25 s26 s27 s28 g29 g30 g31 g32 g33, az_ cy g15 4 f_10, ai_ cy g16 4 f_12, ai_ cy g17 4 f17, ai_ cy g18 24 f18] (by rw [ef_12]; exact hP) (by rw [ef_12]; exact hD) (fun hP hD => ?_)
              refine lv_aload_n hx hb dB_3_3_24.2.1.1.2 rfl (lv_at hl 0 rfl) ?_
              refine va_get (ci := 12) (v := .ref g17) (C := RX12) (T := TX12) (N := 34) hx hb hts (fun _ h => List.mem_cons_of_mem _ (List.mem_append_right _ h)) hown hK.1 hP 0 rfl rfl 17 (by decide) (hts (.fieldLink RX12 44 "CutAtlasModel" "mapRows" "[I") (List.mem_of_getElem? (i := 7) rfl)) (fun _ h9 => h9) rfl dB_3_3_24.2.1.2.1 ?_
              refine lv_iload_n hx hb dB_3_3_24.2.1.2.2 rfl (lv_at hl 1 rfl) ?_
              refine lv_iload_n hx hb dB_3_3_24.2.2.1.1 rfl (lv_at hl 3 rfl) ?_
              refine va_iast hx hb hK.1 hP hD hS 3 0 rfl rfl (i := a1) h_9 dB_3_3_24.2.2.1.2 (fun H locs hP hD hS => ?_)
              obtain ⟨f_14, ef_14⟩ : ∃ g : Nat → Int32, g = upd f17 a1.toNatClampNeg a3 := ⟨_, rfl⟩
              refine pd_K (D := D) (cl := vwCl) (H := H) (A := A) [ob12_0_ mo 0 0 t2 s3 s4 g5 g6 g7 g8 g9 g10 s11 g12 g13 g14 g15 g16 g17 g18 g19 g20 s21 g22 g23 g24 s25 s26 s27 s28 g29 g30 g31 g32 g33, az_ cy g15 4 f_10, ai_ cy g16 4 f_12, ai_ cy g17 4 f_14, ai_ cy g18 24 f18] (by rw [ef_14]; exact hP) (by rw [ef_14]; exact hD) (fun hP hD => ?_)
              have rf_14 : rng f_14 4 (0) (6) := by rw [ef_14]; exact rng_upd r_f17 (by omega) (by omega)
              refine lv_iconst (v := 0) hx hb dB_3_3_24.2.2.2.1 (by decide) ?_
              refine lv_istore (lv' := [(4, .int 0), (0, .ref mo), (1, .int a1), (2, .int a2), (3, .int a3)]) hx hb dB_3_3_24.2.2.2.2 hl (by decide) rfl (fun ls hl => ?_)
              suffices LOOP_15 : ∀ (n_15 : Nat) (x4_15 : Int32) (c_g18_15 : Nat → Int32) (H : Heap) (locs : List Loc) (ls : Array Slot), 6 - x4_15.toInt < (n_15 : Int) → (0 ≤ x4_15.toInt) → (x4_15.toInt ≤ 6) → (∀ q : Nat, c_g18_15 q = if 6 * a1.toInt ≤ (q : Int) ∧ (q : Int) < 6 * a1.toInt + x4_15.toInt then (-9) else f18 q) → (rng c_g18_15 24 (-9) (5)) → pd_2 D vwCl A [ob12_0_ mo 0 0 t2 s3 s4 g5 g6 g7 g8 g9 g10 s11 g12 g13 g14 g15 g16 g17 g18 g19 g20 s21 g22 g23 g24 s25 s26 s27 s28 g29 g30 g31 g32 g33, az_ cy g15 4 f_10, ai_ cy g16 4 f_12, ai_ cy g17 4 f_14, ai_ cy g18 24 c_g18_15] H → va_S A s.heap H locs → lv_has ls 5 [(4, .int x4_15), (0, .ref mo), (1, .int a1), (2, .int a2), (3, .int a3)] → W p l e ({ frames := 1, cells := 0, slots := 0, locals := 25 } : Room) s m (([.ref mo, .int a1, .int a2, .int a3] : List Value).toArray) below meth c H locs 0 0 Q (F0 m 81 ls []) from LOOP_15 ((6 - (0 : Int32).toInt).toNat + 1) (0 : Int32) f18 _ _ _ (by omega) (by first | with_reducible assumption | omega | assumption) (by first | with_reducible assumption | omega | assumption) (by first | exact nine0 | exact nine6 v_none S[q18] (by omega) (by omega) (by omega) (by omega)) (by first | with_reducible assumption | assumption | exact rng_zero (by omega) (by omega) | exact orng_zero) ⟨hP, hD⟩ hS (lv_sub hl [0, 1, 2, 3, 4] rfl)
              intro n_15
              induction n_15 with
              | zero =>
                intro x4_15 c_g18_15 H locs ls hm v0_15 v1_15 v2_15 rc_g18_15 hPD hS hl; obtain ⟨hP, hD⟩ := hPD
                exact absurd hm (by omega)
              | succ n_15 ih_15 =>
                intro x4_15 c_g18_15 H locs ls hm v0_15 v1_15 v2_15 rc_g18_15 hPD hS hl; obtain ⟨hP, hD⟩ := hPD
                refine lv_iload hx hb dB_3_3_25.1.1.1.1 (lv_at hl 0 rfl) ?_
                refine lv_bipush (v := 6) hx hb dB_3_3_25.1.1.1.2 (by decide) ?_
                refine lv_icmp_ge (tgt := 108) hx hb dB_3_3_25.1.1.2.1 (by decide) (fun c_16 => ?_) (fun c_16 => ?_)
                · have t_16 : (6 : Int32).toInt ≤ x4_15.toInt := Int32.le_iff_toInt_le.mp c_16
                  have h9_ := nineE v2_15 (by omega)
                  refine lv_iconst (v := 1) hx hb dB_3_3_25.2.2.2.1 (by decide) ?_
                  rw [hQ]
                  exact W.iret (v := 1) hx hb hr (fun t ht hW => ⟨⟨1, (), rfl, (by first | (have h9 := congrArg Int32.toInt f0__lit; unfold mapRI; (repeat' (first | with_reducible refine if_n (by omega) ?_ | with_reducible refine if_ns (by omega) ?_ | with_reducible refine if_nz (by omega) ?_ | with_reducible exact if_p (by omega) (by omega) | with_reducible exact if_ps (by omega) (by omega) | with_reducible exact if_pz (by omega) (by omega))) <;> omega) | (unfold mapRI; (repeat' (first | with_reducible refine if_n (by omega) ?_ | with_reducible refine if_ns (by omega) ?_ | with_reducible refine if_nz (by omega) ?_ | with_reducible exact if_p (by omega) (by omega) | with_reducible exact if_ps (by omega) (by omega) | with_reducible exact if_pz (by omega) (by omega))) <;> omega)), (0 : Int32), f_10, f_12, f_14, c_g18_15, (by first | (have h9 := congrArg Int32.toInt hno_; unfold mapRI; (repeat' (first | with_reducible refine if_n (by omega) ?_ | with_reducible refine if_ns (by omega) ?_ | with_reducible refine if_nz (by omega) ?_ | with_reducible exact if_p (by omega) (by omega) | with_reducible exact if_ps (by omega) (by omega) | with_reducible exact if_pz (by omega) (by omega))) <;> omega) | (unfold mapRI; (repeat' (first | with_reducible refine if_n (by omega) ?_ | with_reducible refine if_ns (by omega) ?_ | with_reducible refine if_nz (by omega) ?_ | with_reducible exact if_p (by omega) (by omega) | with_reducible exact if_ps (by omega) (by omega) | with_reducible exact if_pz (by omega) (by omega))) <;> omega)), (by first | exact ⟨fun _ => ⟨rfl, rfl, rfl, rfl⟩, fun h => absurd h (by first | omega | (have h9_ := congrArg Int32.toInt hno_; omega) | decide)⟩ | exact ⟨fun h => absurd (by first | omega | (have h9_ := congrArg Int32.toInt hno_; omega) | decide) h, fun _ => ⟨ef_10, ef_12, ef_14, h9_⟩⟩), (by first | exact nine_lok h9_ hlk | exact hlk), (by first | with_reducible assumption | assumption | exact rng_zero (by omega) (by omega) | omega), (by first | with_reducible assumption | assumption | exact rng_zero (by omega) (by omega) | omega), by rw [ht]; exact hP, hD⟩, hS.F ht⟩) hS.2.2 dB_3_3_25.2.2.2.2
                · have t_16 : ¬ (6 : Int32).toInt ≤ x4_15.toInt := fun h => c_16 (Int32.le_iff_toInt_le.mpr h)
                  refine lv_aload_n hx hb dB_3_3_25.1.1.2.2 rfl (lv_at hl 1 rfl) ?_
                  refine va_get (ci := 12) (v := .ref g18) (C := RX12) (T := TX12) (N := 34) hx hb hts (fun _ h => List.mem_cons_of_mem _ (List.mem_append_right _ h)) hown hK.1 hP 0 rfl rfl 18 (by decide) (hts (.fieldLink RX12 47 "CutAtlasModel" "rowSize" "[I") (List.mem_of_getElem? (i := 8) rfl)) (fun _ h9 => h9) rfl dB_3_3_25.1.2.1.1 ?_
                  refine lv_bipush (v := 6) hx hb dB_3_3_25.1.2.1.2 (by decide) ?_
                  refine lv_iload_n hx hb dB_3_3_25.1.2.2.1 rfl (lv_at hl 2 rfl) ?_
                  refine lv_imul hx hb dB_3_3_25.1.2.2.2 ?_
                  refine lv_topi (fun y_17 ey_17 => ?_)
                  have ty_17 : y_17.toInt = 6 * a1.toInt := by rw [ey_17]; exact mulC (by decide) (by omega) (by omega)
                  refine lv_iload hx hb dB_3_3_25.2.1.1.1 (lv_at hl 0 rfl) ?_
                  refine lv_iadd hx hb dB_3_3_25.2.1.1.2 ?_
                  refine lv_topi (fun y_18 ey_18 => ?_)
                  have ty_18 : y_18.toInt = y_17.toInt + x4_15.toInt := by rw [ey_18]; exact addI (by omega) (by omega)
                  refine lv_bipush (v := (-9)) hx hb dB_3_3_25.2.1.2.1 (by decide) ?_
                  have h_19 : vp_in y_18 24 := in_I (by first | with_reducible assumption | omega) (by omega)
                  refine va_iast hx hb hK.1 hP hD hS 4 0 rfl rfl (i := y_18) h_19 dB_3_3_25.2.1.2.2 (fun H locs hP hD hS => ?_)
                  obtain ⟨f_20, ef_20⟩ : ∃ g : Nat → Int32, g = upd c_g18_15 y_18.toNatClampNeg ((-9) : Int32) := ⟨_, rfl⟩
                  refine pd_K (D := D) (cl := vwCl) (H := H) (A := A) [ob12_0_ mo 0 0 t2 s3 s4 g5 g6 g7 g8 g9 g10 s11 g12 g13 g14 g15 g16 g17 g18 g19 g20 s21 g22 g23 g24 s25 s26 s27 s28 g29 g30 g31 g32 g33, az_ cy g15 4 f_10, ai_ cy g16 4 f_12, ai_ cy g17 4 f_14, ai_ cy g18 24 f_20] (by rw [ef_20]; exact hP) (by rw [ef_20]; exact hD) (fun hP hD => ?_)
                  have rf_20 : rng f_20 24 (-9) (5) := by rw [ef_20]; exact rng_upd rc_g18_15 (by omega) (by omega)
                  obtain ⟨y_21, ey_21⟩ : ∃ y : Int32, y = x4_15 + 1 := ⟨_, rfl⟩
                  have ty_21 : y_21.toInt = x4_15.toInt + (1 : Int32).toInt := by rw [ey_21]; exact addI (by omega) (by omega)
                  refine lv_iinc (v := y_21) (lv' := [(4, .int y_21), (0, .ref mo), (1, .int a1), (2, .int a2), (3, .int a3)]) hx hb dB_3_3_25.2.2.1.1 hl (k := 0) rfl (by rw [ey_21]; rfl) (by decide) rfl (fun ls hl => ?_)
                  refine lv_goto (tgt := 81) hx hb dB_3_3_25.2.2.1.2 (by decide) ?_
                  exact ih_15 y_21 f_20 _ _ _ (by omega) (by first | with_reducible assumption | omega | assumption) (by first | with_reducible assumption | omega | assumption) (by first | exact nine0 | exact nine6 v2_15 ef_20 (by omega) (by omega) (by omega) (by omega)) (by first | with_reducible assumption | assumption | exact rng_zero (by omega) (by omega) | exact orng_zero) ⟨hP, hD⟩ hS (lv_sub hl [0, 1, 2, 3, 4] rfl)
            · have t_8 : ¬ (0 : Int32).toInt ≤ a3.toInt := fun h => c_8 (Int32.le_iff_toInt_le.mpr h)
              refine lv_aload_n hx hb dB_3_3_23.2.1.2.2 rfl (lv_at hl 0 rfl) ?_
              refine lv_bipush (v := (-15)) hx hb dB_3_3_23.2.2.1.1 (by decide) ?_
              refine ct_S hP hD hS hA [ob12_0_ mo 0 0 t2 s3 s4 g5 g6 g7 g8 g9 g10 s11 g12 g13 g14 g15 g16 g17 g18 g19 g20 s21 g22 g23 g24 s25 s26 s27 s28 g29 g30 g31 g32 g33] [0] (by decide) rfl (fun hPc hDw hFc hC_ => ?_)
              refine va_calli (va_runV (As := [.int (-15)]) (rest := []) ⟨hx, hb, hml, hown, hts⟩ (c_X12_no2 l D cy H.size mo g5 g6 g7 g8 g9 g10 g12 g13 g14 g15 g16 g17 g18 g19 g20 g22 g23 g24 g29 g30 g31 g32 g33 (0 : Int32) (0 : Int32) s3 s4 s11 s21 s25 s26 s27 s28 t2 ((-15) : Int32)) (cwV 1 hts gX12_map_X12_no rfl rfl rfl ⟨rfl, hd_X12_no⟩ ⟨Nat.le_of_ble_eq_true rfl, Nat.le_of_ble_eq_true rfl⟩) ⟨bl_, va_recvX hK.1 hP (ci := 12) (q0 := 0) rfl rfl, fun U hU hW => ⟨rfl, by rw [hU], by rw [hU]; exact hPc, kk_mv hW hK, hDw⟩⟩ rfl rfl hl.1 rfl (lv_room (Nat.le_of_ble_eq_true rfl)) dB_3_3_23.2.2.1.2 ⟨Nat.le_of_ble_eq_true rfl, Nat.le_of_ble_eq_true rfl⟩) hS (fun q _ h => hFc q h) hFc (fun r_22 u t H locs ht hvm hw hB hz1 hk1 hS => ?_)
              obtain ⟨n1_23, g_24, hP1, hD1⟩ := hB
              rw [ht] at hP1
              obtain ⟨hP, hD⟩ := va_join (wr := [az_ cy g15 4 f15, ai_ cy g16 4 f16, ai_ cy g17 4 f17, ai_ cy g18 24 f18]) (w1 := [ob12_0_ mo 0 n1_23 t2 s3 s4 g5 g6 g7 g8 g9 g10 s11 g12 g13 g14 g15 g16 g17 g18 g19 g20 s21 g22 g23 g24 s25 s26 s27 s28 g29 g30 g31 g32 g33]) hP hD [0] [1, 2, 3, 4] hC_ rfl (by decide) (by decide) hk1 hFc hP1 hD1
              refine pd_S hP hD [ob12_0_ mo 0 n1_23 t2 s3 s4 g5 g6 g7 g8 g9 g10 s11 g12 g13 g14 g15 g16 g17 g18 g19 g20 s21 g22 g23 g24 s25 s26 s27 s28 g29 g30 g31 g32 g33, az_ cy g15 4 f15, ai_ cy g16 4 f16, ai_ cy g17 4 f17, ai_ cy g18 24 f18] [4, 0, 1, 2, 3] (by decide) rfl (fun hP hD => ?_)
              have f0_r_22 := hw
              have hno_ := g_24
              rw [hQ]
              exact W.iret (v := r_22) hx hb hr (fun t ht hW => ⟨⟨r_22, (), rfl, (by first | (have h9 := congrArg Int32.toInt f0_r_22; unfold mapRI; (repeat' (first | with_reducible refine if_n (by omega) ?_ | with_reducible refine if_ns (by omega) ?_ | with_reducible refine if_nz (by omega) ?_ | with_reducible exact if_p (by omega) (by omega) | with_reducible exact if_ps (by omega) (by omega) | with_reducible exact if_pz (by omega) (by omega))) <;> omega) | (unfold mapRI; (repeat' (first | with_reducible refine if_n (by omega) ?_ | with_reducible refine if_ns (by omega) ?_ | with_reducible refine if_nz (by omega) ?_ | with_reducible exact if_p (by omega) (by omega) | with_reducible exact if_ps (by omega) (by omega) | with_reducible exact if_pz (by omega) (by omega))) <;> omega)), n1_23, f15, f16, f17, f18, (by first | (have h9 := congrArg Int32.toInt hno_; unfold mapRI; (repeat' (first | with_reducible refine if_n (by omega) ?_ | with_reducible refine if_ns (by omega) ?_ | with_reducible refine if_nz (by omega) ?_ | with_reducible exact if_p (by omega) (by omega) | with_reducible exact if_ps (by omega) (by omega) | with_reducible exact if_pz (by omega) (by omega))) <;> omega) | (unfold mapRI; (repeat' (first | with_reducible refine if_n (by omega) ?_ | with_reducible refine if_ns (by omega) ?_ | with_reducible refine if_nz (by omega) ?_ | with_reducible exact if_p (by omega) (by omega) | with_reducible exact if_ps (by omega) (by omega) | with_reducible exact if_pz (by omega) (by omega))) <;> omega)), (by first | exact ⟨fun _ => ⟨rfl, rfl, rfl, rfl⟩, fun h => absurd h (by first | omega | (have h9_ := congrArg Int32.toInt hno_; omega) | decide)⟩ | exact ⟨fun h => absurd (by first | omega | (have h9_ := congrArg Int32.toInt hno_; omega) | decide) h, fun _ => ⟨S[q15], S[q16], S[q17], h9_⟩⟩), (by first | exact nine_lok h9_ hlk | exact hlk), (by first | with_reducible assumption | assumption | exact rng_zero (by omega) (by omega) | omega), (by first | with_reducible assumption | assumption | exact rng_zero (by omega) (by omega) | omega), by rw [ht]; exact hP, hD⟩, hS.F ht⟩) hS.2.2 dB_3_3_23.2.2.2.1
          · have t_7 : ¬ a3.toInt ≤ (6 : Int32).toInt := fun h => c_7 (Int32.le_iff_toInt_le.mpr h)
            refine lv_aload_n hx hb dB_3_3_23.1.2.1.2 rfl (lv_at hl 0 rfl) ?_
            refine lv_iconst (v := (-1)) hx hb dB_3_3_23.1.2.2.1 (by decide) ?_
            refine ct_S hP hD hS hA [ob12_0_ mo 0 0 t2 s3 s4 g5 g6 g7 g8 g9 g10 s11 g12 g13 g14 g15 g16 g17 g18 g19 g20 s21 g22 g23 g24 s25 s26 s27 s28 g29 g30 g31 g32 g33] [0] (by decide) rfl (fun hPc hDw hFc hC_ => ?_)
            refine va_calli (va_runV (As := [.int (-1)]) (rest := []) ⟨hx, hb, hml, hown, hts⟩ (c_X12_no2 l D cy H.size mo g5 g6 g7 g8 g9 g10 g12 g13 g14 g15 g16 g17 g18 g19 g20 g22 g23 g24 g29 g30 g31 g32 g33 (0 : Int32) (0 : Int32) s3 s4 s11 s21 s25 s26 s27 s28 t2 ((-1) : Int32)) (cwV 1 hts gX12_map_X12_no rfl rfl rfl ⟨rfl, hd_X12_no⟩ ⟨Nat.le_of_ble_eq_true rfl, Nat.le_of_ble_eq_true rfl⟩) ⟨bl_, va_recvX hK.1 hP (ci := 12) (q0 := 0) rfl rfl, fun U hU hW => ⟨rfl, by rw [hU], by rw [hU]; exact hPc, kk_mv hW hK, hDw⟩⟩ rfl rfl hl.1 rfl (lv_room (Nat.le_of_ble_eq_true rfl)) dB_3_3_23.1.2.2.2 ⟨Nat.le_of_ble_eq_true rfl, Nat.le_of_ble_eq_true rfl⟩) hS (fun q _ h => hFc q h) hFc (fun r_25 u t H locs ht hvm hw hB hz1 hk1 hS => ?_)
            obtain ⟨n1_26, g_27, hP1, hD1⟩ := hB
            rw [ht] at hP1
            obtain ⟨hP, hD⟩ := va_join (wr := [az_ cy g15 4 f15, ai_ cy g16 4 f16, ai_ cy g17 4 f17, ai_ cy g18 24 f18]) (w1 := [ob12_0_ mo 0 n1_26 t2 s3 s4 g5 g6 g7 g8 g9 g10 s11 g12 g13 g14 g15 g16 g17 g18 g19 g20 s21 g22 g23 g24 s25 s26 s27 s28 g29 g30 g31 g32 g33]) hP hD [0] [1, 2, 3, 4] hC_ rfl (by decide) (by decide) hk1 hFc hP1 hD1
            refine pd_S hP hD [ob12_0_ mo 0 n1_26 t2 s3 s4 g5 g6 g7 g8 g9 g10 s11 g12 g13 g14 g15 g16 g17 g18 g19 g20 s21 g22 g23 g24 s25 s26 s27 s28 g29 g30 g31 g32 g33, az_ cy g15 4 f15, ai_ cy g16 4 f16, ai_ cy g17 4 f17, ai_ cy g18 24 f18] [4, 0, 1, 2, 3] (by decide) rfl (fun hP hD => ?_)
            have f0_r_25 := hw
            have hno_ := g_27
            rw [hQ]
            exact W.iret (v := r_25) hx hb hr (fun t ht hW => ⟨⟨r_25, (), rfl, (by first | (have h9 := congrArg Int32.toInt f0_r_25; unfold mapRI; (repeat' (first | with_reducible refine if_n (by omega) ?_ | with_reducible refine if_ns (by omega) ?_ | with_reducible refine if_nz (by omega) ?_ | with_reducible exact if_p (by omega) (by omega) | with_reducible exact if_ps (by omega) (by omega) | with_reducible exact if_pz (by omega) (by omega))) <;> omega) | (unfold mapRI; (repeat' (first | with_reducible refine if_n (by omega) ?_ | with_reducible refine if_ns (by omega) ?_ | with_reducible refine if_nz (by omega) ?_ | with_reducible exact if_p (by omega) (by omega) | with_reducible exact if_ps (by omega) (by omega) | with_reducible exact if_pz (by omega) (by omega))) <;> omega)), n1_26, f15, f16, f17, f18, (by first | (have h9 := congrArg Int32.toInt hno_; unfold mapRI; (repeat' (first | with_reducible refine if_n (by omega) ?_ | with_reducible refine if_ns (by omega) ?_ | with_reducible refine if_nz (by omega) ?_ | with_reducible exact if_p (by omega) (by omega) | with_reducible exact if_ps (by omega) (by omega) | with_reducible exact if_pz (by omega) (by omega))) <;> omega) | (unfold mapRI; (repeat' (first | with_reducible refine if_n (by omega) ?_ | with_reducible refine if_ns (by omega) ?_ | with_reducible refine if_nz (by omega) ?_ | with_reducible exact if_p (by omega) (by omega) | with_reducible exact if_ps (by omega) (by omega) | with_reducible exact if_pz (by omega) (by omega))) <;> omega)), (by first | exact ⟨fun _ => ⟨rfl, rfl, rfl, rfl⟩, fun h => absurd h (by first | omega | (have h9_ := congrArg Int32.toInt hno_; omega) | decide)⟩ | exact ⟨fun h => absurd (by first | omega | (have h9_ := congrArg Int32.toInt hno_; omega) | decide) h, fun _ => ⟨S[q15], S[q16], S[q17], h9_⟩⟩), (by first | exact nine_lok h9_ hlk | exact hlk), (by first | with_reducible assumption | assumption | exact rng_zero (by omega) (by omega) | omega), (by first | with_reducible assumption | assumption | exact rng_zero (by omega) (by omega) | omega), by rw [ht]; exact hP, hD⟩, hS.F ht⟩) hS.2.2 dB_3_3_23.2.1.1.1
      · have e_ := e_.symm
        subst e_
        refine lv_if_eq (tgt := 40) hx hb dB_3_3_23.1.1.1.2 (by decide) (fun c_28 => ?_) (fun c_28 => ?_)
        · have _ := c_28
          refine lv_aload_n hx hb dB_3_3_23.1.2.1.2 rfl (lv_at hl 0 rfl) ?_
          refine lv_iconst (v := (-1)) hx hb dB_3_3_23.1.2.2.1 (by decide) ?_
          refine ct_S hP hD hS hA [ob12_0_ mo 0 0 t2 s3 s4 g5 g6 g7 g8 g9 g10 s11 g12 g13 g14 g15 g16 g17 g18 g19 g20 s21 g22 g23 g24 s25 s26 s27 s28 g29 g30 g31 g32 g33] [0] (by decide) rfl (fun hPc hDw hFc hC_ => ?_)
          refine va_calli (va_runV (As := [.int (-1)]) (rest := []) ⟨hx, hb, hml, hown, hts⟩ (c_X12_no2 l D cy H.size mo g5 g6 g7 g8 g9 g10 g12 g13 g14 g15 g16 g17 g18 g19 g20 g22 g23 g24 g29 g30 g31 g32 g33 (0 : Int32) (0 : Int32) s3 s4 s11 s21 s25 s26 s27 s28 t2 ((-1) : Int32)) (cwV 1 hts gX12_map_X12_no rfl rfl rfl ⟨rfl, hd_X12_no⟩ ⟨Nat.le_of_ble_eq_true rfl, Nat.le_of_ble_eq_true rfl⟩) ⟨bl_, va_recvX hK.1 hP (ci := 12) (q0 := 0) rfl rfl, fun U hU hW => ⟨rfl, by rw [hU], by rw [hU]; exact hPc, kk_mv hW hK, hDw⟩⟩ rfl rfl hl.1 rfl (lv_room (Nat.le_of_ble_eq_true rfl)) dB_3_3_23.1.2.2.2 ⟨Nat.le_of_ble_eq_true rfl, Nat.le_of_ble_eq_true rfl⟩) hS (fun q _ h => hFc q h) hFc (fun r_29 u t H locs ht hvm hw hB hz1 hk1 hS => ?_)
          obtain ⟨n1_30, g_31, hP1, hD1⟩ := hB
          rw [ht] at hP1
          obtain ⟨hP, hD⟩ := va_join (wr := [az_ cy g15 4 f15, ai_ cy g16 4 f16, ai_ cy g17 4 f17, ai_ cy g18 24 f18]) (w1 := [ob12_0_ mo 0 n1_30 t2 s3 s4 g5 g6 g7 g8 g9 g10 s11 g12 g13 g14 g15 g16 g17 g18 g19 g20 s21 g22 g23 g24 s25 s26 s27 s28 g29 g30 g31 g32 g33]) hP hD [0] [1, 2, 3, 4] hC_ rfl (by decide) (by decide) hk1 hFc hP1 hD1
          refine pd_S hP hD [ob12_0_ mo 0 n1_30 t2 s3 s4 g5 g6 g7 g8 g9 g10 s11 g12 g13 g14 g15 g16 g17 g18 g19 g20 s21 g22 g23 g24 s25 s26 s27 s28 g29 g30 g31 g32 g33, az_ cy g15 4 f15, ai_ cy g16 4 f16, ai_ cy g17 4 f17, ai_ cy g18 24 f18] [4, 0, 1, 2, 3] (by decide) rfl (fun hP hD => ?_)
          have f0_r_29 := hw
          have hno_ := g_31
          rw [hQ]
          exact W.iret (v := r_29) hx hb hr (fun t ht hW => ⟨⟨r_29, (), rfl, (by first | (have h9 := congrArg Int32.toInt f0_r_29; unfold mapRI; (repeat' (first | with_reducible refine if_n (by omega) ?_ | with_reducible refine if_ns (by omega) ?_ | with_reducible refine if_nz (by omega) ?_ | with_reducible exact if_p (by omega) (by omega) | with_reducible exact if_ps (by omega) (by omega) | with_reducible exact if_pz (by omega) (by omega))) <;> omega) | (unfold mapRI; (repeat' (first | with_reducible refine if_n (by omega) ?_ | with_reducible refine if_ns (by omega) ?_ | with_reducible refine if_nz (by omega) ?_ | with_reducible exact if_p (by omega) (by omega) | with_reducible exact if_ps (by omega) (by omega) | with_reducible exact if_pz (by omega) (by omega))) <;> omega)), n1_30, f15, f16, f17, f18, (by first | (have h9 := congrArg Int32.toInt hno_; unfold mapRI; (repeat' (first | with_reducible refine if_n (by omega) ?_ | with_reducible refine if_ns (by omega) ?_ | with_reducible refine if_nz (by omega) ?_ | with_reducible exact if_p (by omega) (by omega) | with_reducible exact if_ps (by omega) (by omega) | with_reducible exact if_pz (by omega) (by omega))) <;> omega) | (unfold mapRI; (repeat' (first | with_reducible refine if_n (by omega) ?_ | with_reducible refine if_ns (by omega) ?_ | with_reducible refine if_nz (by omega) ?_ | with_reducible exact if_p (by omega) (by omega) | with_reducible exact if_ps (by omega) (by omega) | with_reducible exact if_pz (by omega) (by omega))) <;> omega)), (by first | exact ⟨fun _ => ⟨rfl, rfl, rfl, rfl⟩, fun h => absurd h (by first | omega | (have h9_ := congrArg Int32.toInt hno_; omega) | decide)⟩ | exact ⟨fun h => absurd (by first | omega | (have h9_ := congrArg Int32.toInt hno_; omega) | decide) h, fun _ => ⟨S[q15], S[q16], S[q17], h9_⟩⟩), (by first | exact nine_lok h9_ hlk | exact hlk), (by first | with_reducible assumption | assumption | exact rng_zero (by omega) (by omega) | omega), (by first | with_reducible assumption | assumption | exact rng_zero (by omega) (by omega) | omega), by rw [ht]; exact hP, hD⟩, hS.F ht⟩) hS.2.2 dB_3_3_23.2.1.1.1
        · exact absurd c_28 (by decide)
  · have e_ := e_.symm
    subst e_
    refine lv_if_eq (tgt := 40) hx hb dB_3_3_22.2.1.2.2 (by decide) (fun c_32 => ?_) (fun c_32 => ?_)
    · have _ := c_32
      refine lv_aload_n hx hb dB_3_3_23.1.2.1.2 rfl (lv_at hl 0 rfl) ?_
      refine lv_iconst (v := (-1)) hx hb dB_3_3_23.1.2.2.1 (by decide) ?_
      refine ct_S hP hD hS hA [ob12_0_ mo 0 0 t2 s3 s4 g5 g6 g7 g8 g9 g10 s11 g12 g13 g14 g15 g16 g17 g18 g19 g20 s21 g22 g23 g24 s25 s26 s27 s28 g29 g30 g31 g32 g33] [0] (by decide) rfl (fun hPc hDw hFc hC_ => ?_)
      refine va_calli (va_runV (As := [.int (-1)]) (rest := []) ⟨hx, hb, hml, hown, hts⟩ (c_X12_no2 l D cy H.size mo g5 g6 g7 g8 g9 g10 g12 g13 g14 g15 g16 g17 g18 g19 g20 g22 g23 g24 g29 g30 g31 g32 g33 (0 : Int32) (0 : Int32) s3 s4 s11 s21 s25 s26 s27 s28 t2 ((-1) : Int32)) (cwV 1 hts gX12_map_X12_no rfl rfl rfl ⟨rfl, hd_X12_no⟩ ⟨Nat.le_of_ble_eq_true rfl, Nat.le_of_ble_eq_true rfl⟩) ⟨bl_, va_recvX hK.1 hP (ci := 12) (q0 := 0) rfl rfl, fun U hU hW => ⟨rfl, by rw [hU], by rw [hU]; exact hPc, kk_mv hW hK, hDw⟩⟩ rfl rfl hl.1 rfl (lv_room (Nat.le_of_ble_eq_true rfl)) dB_3_3_23.1.2.2.2 ⟨Nat.le_of_ble_eq_true rfl, Nat.le_of_ble_eq_true rfl⟩) hS (fun q _ h => hFc q h) hFc (fun r_33 u t H locs ht hvm hw hB hz1 hk1 hS => ?_)
      obtain ⟨n1_34, g_35, hP1, hD1⟩ := hB
      rw [ht] at hP1
      obtain ⟨hP, hD⟩ := va_join (wr := [az_ cy g15 4 f15, ai_ cy g16 4 f16, ai_ cy g17 4 f17, ai_ cy g18 24 f18]) (w1 := [ob12_0_ mo 0 n1_34 t2 s3 s4 g5 g6 g7 g8 g9 g10 s11 g12 g13 g14 g15 g16 g17 g18 g19 g20 s21 g22 g23 g24 s25 s26 s27 s28 g29 g30 g31 g32 g33]) hP hD [0] [1, 2, 3, 4] hC_ rfl (by decide) (by decide) hk1 hFc hP1 hD1
      refine pd_S hP hD [ob12_0_ mo 0 n1_34 t2 s3 s4 g5 g6 g7 g8 g9 g10 s11 g12 g13 g14 g15 g16 g17 g18 g19 g20 s21 g22 g23 g24 s25 s26 s27 s28 g29 g30 g31 g32 g33, az_ cy g15 4 f15, ai_ cy g16 4 f16, ai_ cy g17 4 f17, ai_ cy g18 24 f18] [4, 0, 1, 2, 3] (by decide) rfl (fun hP hD => ?_)
      have f0_r_33 := hw
      have hno_ := g_35
      rw [hQ]
      exact W.iret (v := r_33) hx hb hr (fun t ht hW => ⟨⟨r_33, (), rfl, (by first | (have h9 := congrArg Int32.toInt f0_r_33; unfold mapRI; (repeat' (first | with_reducible refine if_n (by omega) ?_ | with_reducible refine if_ns (by omega) ?_ | with_reducible refine if_nz (by omega) ?_ | with_reducible exact if_p (by omega) (by omega) | with_reducible exact if_ps (by omega) (by omega) | with_reducible exact if_pz (by omega) (by omega))) <;> omega) | (unfold mapRI; (repeat' (first | with_reducible refine if_n (by omega) ?_ | with_reducible refine if_ns (by omega) ?_ | with_reducible refine if_nz (by omega) ?_ | with_reducible exact if_p (by omega) (by omega) | with_reducible exact if_ps (by omega) (by omega) | with_reducible exact if_pz (by omega) (by omega))) <;> omega)), n1_34, f15, f16, f17, f18, (by first | (have h9 := congrArg Int32.toInt hno_; unfold mapRI; (repeat' (first | with_reducible refine if_n (by omega) ?_ | with_reducible refine if_ns (by omega) ?_ | with_reducible refine if_nz (by omega) ?_ | with_reducible exact if_p (by omega) (by omega) | with_reducible exact if_ps (by omega) (by omega) | with_reducible exact if_pz (by omega) (by omega))) <;> omega) | (unfold mapRI; (repeat' (first | with_reducible refine if_n (by omega) ?_ | with_reducible refine if_ns (by omega) ?_ | with_reducible refine if_nz (by omega) ?_ | with_reducible exact if_p (by omega) (by omega) | with_reducible exact if_ps (by omega) (by omega) | with_reducible exact if_pz (by omega) (by omega))) <;> omega)), (by first | exact ⟨fun _ => ⟨rfl, rfl, rfl, rfl⟩, fun h => absurd h (by first | omega | (have h9_ := congrArg Int32.toInt hno_; omega) | decide)⟩ | exact ⟨fun h => absurd (by first | omega | (have h9_ := congrArg Int32.toInt hno_; omega) | decide) h, fun _ => ⟨S[q15], S[q16], S[q17], h9_⟩⟩), (by first | exact nine_lok h9_ hlk | exact hlk), (by first | with_reducible assumption | assumption | exact rng_zero (by omega) (by omega) | omega), (by first | with_reducible assumption | assumption | exact rng_zero (by omega) (by omega) | omega), by rw [ht]; exact hP, hD⟩, hS.F ht⟩) hS.2.2 dB_3_3_23.2.1.1.1
    · exact absurd c_32 (by decide)

set_option maxHeartbeats 4000000 in
set_option maxRecDepth 100000 in
theorem c_X12_row2 (l : Launch) (D : va_G) (cy : Nat → ClassId) (sz : Nat) (mo : Nat) (g5 : Nat) (g6 : Nat) (g7 : Nat) (g8 : Nat) (g9 : Nat) (g10 : Nat) (g12 : Nat) (g13 : Nat) (g14 : Nat) (g15 : Nat) (g16 : Nat) (g17 : Nat) (g18 : Nat) (g19 : Nat) (g20 : Nat) (g22 : Nat) (g23 : Nat) (g24 : Nat) (g29 : Nat) (g30 : Nat) (g31 : Nat) (g32 : Nat) (g33 : Nat) (s0 : Int32) (s1 : Int32) (s3 : Int32) (s4 : Int32) (s11 : Int32) (s21 : Int32) (s25 : Int32) (s26 : Int32) (s27 : Int32) (s28 : Int32) (t2 : Int64) (f15 : Nat → Int32) (f17 : Nat → Int32) (f18 : Nat → Int32) (f19 : Nat → Int64) (a1 : Int32) (a2 : Int32) (a3 : Int32) (hlk : lok f18 24) (r_f17 : rng f17 4 (0) (6)) (r_f18 : rng f18 24 (-9) (5)) : Met l yX12_row wsX12_row ({ frames := 1, cells := 0, slots := 0, locals := 25 }) (va_Pc [.ref mo, .int a1, .int a2, .int a3] (fun U => U.heap.size = sz ∧ va_P D vwCl [ob12_0_ mo s0 s1 t2 s3 s4 g5 g6 g7 g8 g9 g10 s11 g12 g13 g14 g15 g16 g17 g18 g19 g20 s21 g22 g23 g24 s25 s26 s27 s28 g29 g30 g31 g32 g33, az_ cy g15 4 f15, ai_ cy g17 4 f17, ai_ cy g18 24 f18, aj_ cy g19 120 f19] U.heap ∧ kk_ D cy U ∧ va_D (fun _ => True) [ob12_0_ mo s0 s1 t2 s3 s4 g5 g6 g7 g8 g9 g10 s11 g12 g13 g14 g15 g16 g17 g18 g19 g20 s21 g22 g23 g24 s25 s26 s27 s28 g29 g30 g31 g32 g33, az_ cy g15 4 f15, ai_ cy g17 4 f17, ai_ cy g18 24 f18, aj_ cy g19 120 f19])) (va_Qi (fun (r : Int32) (_ : Unit) => (r.toInt = if rowRI a1.toInt a2.toInt a3.toInt (f15 a1.toNatClampNeg).toInt (f17 a1.toNatClampNeg).toInt = 0 then 1 else rowRI a1.toInt a2.toInt a3.toInt (f15 a1.toNatClampNeg).toInt (f17 a1.toNatClampNeg).toInt)) (fun (_ : Unit) (t : State) => ∃ (n1 : Int32), ∃ (e18 : Nat → Int32), ∃ (e19 : Nat → Int64), (n1.toInt = rowRI a1.toInt a2.toInt a3.toInt (f15 a1.toNatClampNeg).toInt (f17 a1.toNatClampNeg).toInt) ∧ ((n1.toInt ≠ 0 → e18 = f18 ∧ e19 = f19) ∧ (n1.toInt = 0 → e18 = upd f18 (6 * a1.toInt + a2.toInt).toNat a3 ∧ ∀ q : Nat, e19 q = if 30 * a1.toInt + 5 * a2.toInt ≤ (q : Int) ∧ (q : Int) < 30 * a1.toInt + 5 * a2.toInt + 5 then 0 else f19 q)) ∧ (lok e18 24) ∧ (rng e18 24 (-9) (5)) ∧ va_P D vwCl [ob12_0_ mo 0 n1 t2 s3 s4 g5 g6 g7 g8 g9 g10 s11 g12 g13 g14 g15 g16 g17 g18 g19 g20 s21 g22 g23 g24 s25 s26 s27 s28 g29 g30 g31 g32 g33, az_ cy g15 4 f15, ai_ cy g17 4 f17, ai_ cy g18 24 e18, aj_ cy g19 120 e19] t.heap ∧ va_D (va_A [ob12_0_ mo s0 s1 t2 s3 s4 g5 g6 g7 g8 g9 g10 s11 g12 g13 g14 g15 g16 g17 g18 g19 g20 s21 g22 g23 g24 s25 s26 s27 s28 g29 g30 g31 g32 g33, az_ cy g15 4 f15, ai_ cy g17 4 f17, ai_ cy g18 24 f18, aj_ cy g19 120 f19] sz) [ob12_0_ mo 0 n1 t2 s3 s4 g5 g6 g7 g8 g9 g10 s11 g12 g13 g14 g15 g16 g17 g18 g19 g20 s21 g22 g23 g24 s25 s26 s27 s28 g29 g30 g31 g32 g33, az_ cy g15 4 f15, ai_ cy g17 4 f17, ai_ cy g18 24 e18, aj_ cy g19 120 e19]) (va_A [ob12_0_ mo s0 s1 t2 s3 s4 g5 g6 g7 g8 g9 g10 s11 g12 g13 g14 g15 g16 g17 g18 g19 g20 s21 g22 g23 g24 s25 s26 s27 s28 g29 g30 g31 g32 g33, az_ cy g15 4 f15, ai_ cy g17 4 f17, ai_ cy g18 24 f18, aj_ cy g19 120 f19] sz)) 0 0 (va_A [ob12_0_ mo s0 s1 t2 s3 s4 g5 g6 g7 g8 g9 g10 s11 g12 g13 g14 g15 g16 g17 g18 g19 g20 s21 g22 g23 g24 s25 s26 s27 s28 g29 g30 g31 g32 g33, az_ cy g15 4 f15, ai_ cy g17 4 f17, ai_ cy g18 24 f18, aj_ cy g19 120 f19] sz) := by
  refine ofQ (cc := cX12_row) (maxL := 5) (ret := (some .int)) (by decide) rfl ?_
  intro p e s m args below meth c s₁ Q hQ B hml hv
  obtain ⟨rfl, hsz, hP, hK, hD0⟩ := hv
  have hx := B.exec
  have hb := B.bytes
  have hr := B.returns
  have hts := atoms_spec (ws := wsX12_row) B.pre
  have hown : s.vm.findClass RX12 = some m.cls := by have h_ := findClass_of_methodNamed B.named; exact h_
  have hlocks := B.notSynchronized
  subst hsz
  have hD := hD0.self (sz := s.heap.size)
  generalize hAe : va_A [ob12_0_ mo s0 s1 t2 s3 s4 g5 g6 g7 g8 g9 g10 s11 g12 g13 g14 g15 g16 g17 g18 g19 g20 s21 g22 g23 g24 s25 s26 s27 s28 g29 g30 g31 g32 g33, az_ cy g15 4 f15, ai_ cy g17 4 f17, ai_ cy g18 24 f18, aj_ cy g19 120 f19] s.heap.size = A at hD hQ
  have hA : ∀ q : Nat, s.heap.size ≤ q → A q := fun q h => by rw [← hAe]; exact Or.inr h
  have hS : va_S A s.heap s.heap [] := va_S.rf
  have hl := lv_entry ([.ref mo, .int a1, .int a2, .int a3]) (n := 5) (Nat.le_of_ble_eq_true rfl)
  rw [lg_entry_eq]
  generalize (lg_sl ([.ref mo, .int a1, .int a2, .int a3]) ++ List.replicate (5 - (lg_sl ([.ref mo, .int a1, .int a2, .int a3])).length) Slot.unset).toArray = ls at hl ⊢
  have hl : lv_has ls 5 [(0, .ref mo), (1, .int a1), (2, .int a2), (3, .int a3)] := hl
  have zm15 : ((-15) : Int32).toInt = -15 := by decide
  have zm12 : ((-12) : Int32).toInt = -12 := by decide
  have zm11 : ((-11) : Int32).toInt = -11 := by decide
  have zm1 : ((-1) : Int32).toInt = -1 := by decide
  have z0 : (0 : Int32).toInt = 0 := by decide
  have zl0 : (0 : Int64).toInt = 0 := by decide
  have z1 : (1 : Int32).toInt = 1 := by decide
  have zl3 : (3 : Int64).toInt = 3 := by decide
  have z5 : (5 : Int32).toInt = 5 := by decide
  have z6 : (6 : Int32).toInt = 6 := by decide
  have z30 : (30 : Int32).toInt = 30 := by decide
  have zq1 : (1 : Int32).toInt = 1 := by decide
  refine lv_aload_n hx hb dB_3_3_40.1.1.1.1 rfl (lv_at hl 0 rfl) ?_
  refine lv_iconst (v := 0) hx hb dB_3_3_40.1.1.1.2 (by decide) ?_
  refine va_put (ci := 12) (v := .int 0) (ty := .int) (C := RX12) (T := TX12) (N := 34) hx hb hts (fun _ h => List.mem_cons_of_mem _ (List.mem_append_right _ h)) tyX12 tyX12_ok nmX12 hown hK.1 hP hD hS 0 rfl rfl 0 (by decide) (hts (.fieldLink RX12 85 "CutAtlasModel" "thrown" "I") (List.mem_of_getElem? (i := 1) rfl)) (fun _ h9 => h9) rfl (by decide +kernel) rfl rfl (Nat.le_of_ble_eq_true rfl) dB_3_3_40.1.1.2.1 (fun H locs hP hD hS => ?_)
  refine pd_K [ob12_0_ mo 0 s1 t2 s3 s4 g5 g6 g7 g8 g9 g10 s11 g12 g13 g14 g15 g16 g17 g18 g19 g20 s21 g22 g23 g24 s25 s26 s27 s28 g29 g30 g31 g32 g33, az_ cy g15 4 f15, ai_ cy g17 4 f17, ai_ cy g18 24 f18, aj_ cy g19 120 f19] hP hD (fun hP hD => ?_)
  refine lv_aload_n hx hb dB_3_3_40.1.1.2.2 rfl (lv_at hl 0 rfl) ?_
  refine lv_iconst (v := 0) hx hb dB_3_3_40.1.2.1.1 (by decide) ?_
  refine va_put (ci := 12) (v := .int 0) (ty := .int) (C := RX12) (T := TX12) (N := 34) hx hb hts (fun _ h => List.mem_cons_of_mem _ (List.mem_append_right _ h)) tyX12 tyX12_ok nmX12 hown hK.1 hP hD hS 0 rfl rfl 1 (by decide) (hts (.fieldLink RX12 240 "CutAtlasModel" "status" "I") (List.mem_of_getElem? (i := 2) rfl)) (fun _ h9 => h9) rfl (by decide +kernel) rfl rfl (Nat.le_of_ble_eq_true rfl) dB_3_3_40.1.2.1.2 (fun H locs hP hD hS => ?_)
  refine pd_K [ob12_0_ mo 0 0 t2 s3 s4 g5 g6 g7 g8 g9 g10 s11 g12 g13 g14 g15 g16 g17 g18 g19 g20 s21 g22 g23 g24 s25 s26 s27 s28 g29 g30 g31 g32 g33, az_ cy g15 4 f15, ai_ cy g17 4 f17, ai_ cy g18 24 f18, aj_ cy g19 120 f19] hP hD (fun hP hD => ?_)
  refine lv_iload_n hx hb dB_3_3_40.1.2.2.1 rfl (lv_at hl 1 rfl) ?_
  refine lv_i2l (v := a1.toInt64) hx hb dB_3_3_40.1.2.2.2 rfl ?_
  have q_11 : (a1.toInt64).toInt = a1.toInt := Int32.toInt_toInt64 a1
  refine lv_lconst (v := 0) hx hb dB_3_3_40.2.1.1.1 (by decide) ?_
  refine lv_ldc2 (v := 3) hx hb hown (hts (.constantLong RX12 243 (3)) (List.mem_of_getElem? (i := 3) rfl)) dB_3_3_40.2.1.1.2 ?_
  refine ct_R hP hD [] [] (by decide) rfl (fun hPc hDw => ?_)
  have hFc := va_free (wc := []) hD hS hA [] rfl
  refine va_calli (va_runS (As := [.long a1.toInt64, .long 0, .long 3]) (rest := []) ⟨hx, hb, hml, hown, hts⟩ (c_X12_in l D cy H.size a1.toInt64 (0 : Int64) (3 : Int64)) (va_cwS 3 hts gX12_row_X12_in rfl rfl rfl hd_X12_in ⟨Nat.le_of_ble_eq_true rfl, Nat.le_of_ble_eq_true rfl⟩) ⟨bl_, fun U hU hW => ⟨rfl, by rw [hU], by rw [hU]; exact hPc, kk_mv hW hK, hDw⟩⟩ rfl rfl hl.1 rfl (lv_room (Nat.le_of_ble_eq_true rfl)) dB_3_3_40.2.1.2.1 ⟨Nat.le_of_ble_eq_true rfl, Nat.le_of_ble_eq_true rfl⟩) hS (fun q _ h => hFc q h) hFc (fun r_1 u t H locs ht hvm hw hB hz1 hk1 hS => ?_)
  have hP : va_P D vwCl _ H := ro_keep hP hk1
  rcases hw with ⟨w_2, e_⟩ | ⟨w_2, e_⟩
  · have e_ := e_.symm
    subst e_
    refine lv_if_eq (tgt := 27) hx hb dB_3_3_40.2.1.2.2 (by decide) (fun c_3 => ?_) (fun c_3 => ?_)
    · exact absurd c_3 (by decide)
    · have _ := c_3
      refine lv_iload_n hx hb dB_3_3_40.2.2.1.1 rfl (lv_at hl 3 rfl) ?_
      refine lv_iconst (v := 5) hx hb dB_3_3_40.2.2.1.2 (by decide) ?_
      refine lv_icmp_le (tgt := 33) hx hb dB_3_3_40.2.2.2.1 (by decide) (fun c_4 => ?_) (fun c_4 => ?_)
      · have t_4 : a3.toInt ≤ (5 : Int32).toInt := Int32.le_iff_toInt_le.mp c_4
        refine lv_aload_n hx hb dB_3_3_41.1.1.2.2 rfl (lv_at hl 0 rfl) ?_
        refine va_get (ci := 12) (v := .ref g15) (C := RX12) (T := TX12) (N := 34) hx hb hts (fun _ h => List.mem_cons_of_mem _ (List.mem_append_right _ h)) hown hK.1 hP 0 rfl rfl 15 (by decide) (hts (.fieldLink RX12 38 "CutAtlasModel" "hasMap" "[Z") (List.mem_of_getElem? (i := 4) rfl)) (fun _ h9 => h9) rfl dB_3_3_41.1.2.1.1 ?_
        refine lv_iload_n hx hb dB_3_3_41.1.2.1.2 rfl (lv_at hl 1 rfl) ?_
        have h_5 : vp_in a1 4 := in_I (by first | with_reducible assumption | omega) (by omega)
        refine va_zald hx hb hK.1 hP 1 2 rfl rfl (i := a1) h_5 dB_3_3_41.1.2.2.1 ?_
        refine lv_topi (fun y_6 ey_6 => ?_)
        have ky_6 : y_6.toInt = (f15 a1.toNatClampNeg).toInt := by rw [ey_6]
        refine lv_if_ne (tgt := 49) hx hb dB_3_3_41.1.2.2.2 (by decide) (fun c_7 => ?_) (fun c_7 => ?_)
        · have t_7 : ¬ y_6.toInt = (0 : Int32).toInt := fun h => c_7 (Int32.toInt_inj.mp h)
          refine lv_iload_n hx hb dB_3_3_41.2.2.1.1 rfl (lv_at hl 2 rfl) ?_
          refine lv_i2l (v := a2.toInt64) hx hb dB_3_3_41.2.2.1.2 rfl ?_
          have q_50 : (a2.toInt64).toInt = a2.toInt := Int32.toInt_toInt64 a2
          refine lv_lconst (v := 0) hx hb dB_3_3_41.2.2.2.1 (by decide) ?_
          refine lv_aload_n hx hb dB_3_3_41.2.2.2.2 rfl (lv_at hl 0 rfl) ?_
          refine va_get (ci := 12) (v := .ref g17) (C := RX12) (T := TX12) (N := 34) hx hb hts (fun _ h => List.mem_cons_of_mem _ (List.mem_append_right _ h)) hown hK.1 hP 0 rfl rfl 17 (by decide) (hts (.fieldLink RX12 44 "CutAtlasModel" "mapRows" "[I") (List.mem_of_getElem? (i := 5) rfl)) (fun _ h9 => h9) rfl dB_3_3_42.1.1.1.1 ?_
          refine lv_iload_n hx hb dB_3_3_42.1.1.1.2 rfl (lv_at hl 1 rfl) ?_
          refine va_iald hx hb hK.1 hP 2 0 rfl rfl (i := a1) h_5 dB_3_3_42.1.1.2.1 ?_
          refine lv_topi (fun y_9 ey_9 => ?_)
          have ky_9 : y_9.toInt = (f17 a1.toNatClampNeg).toInt := by rw [ey_9]
          have ry_9 : 0 ≤ y_9.toInt ∧ y_9.toInt ≤ 6 := by rw [ey_9]; exact r_f17 _ (in_lt h_5)
          refine lv_iconst (v := 1) hx hb dB_3_3_42.1.1.2.2 (by decide) ?_
          refine lv_isub hx hb dB_3_3_42.1.2.1.1 ?_
          refine lv_topi (fun y_10 ey_10 => ?_)
          have ty_10 : y_10.toInt = y_9.toInt - (1 : Int32).toInt := by rw [ey_10]; exact subI (by omega) (by omega)
          refine lv_i2l (v := y_10.toInt64) hx hb dB_3_3_42.1.2.1.2 rfl ?_
          have q_60 : (y_10.toInt64).toInt = y_10.toInt := Int32.toInt_toInt64 y_10
          refine ct_R hP hD [] [] (by decide) rfl (fun hPc hDw => ?_)
          have hFc := va_free (wc := []) hD hS hA [] rfl
          refine va_calli (va_runS (As := [.long a2.toInt64, .long 0, .long y_10.toInt64]) (rest := []) ⟨hx, hb, hml, hown, hts⟩ (c_X12_in l D cy H.size a2.toInt64 (0 : Int64) y_10.toInt64) (va_cwS 3 hts gX12_row_X12_in rfl rfl rfl hd_X12_in ⟨Nat.le_of_ble_eq_true rfl, Nat.le_of_ble_eq_true rfl⟩) ⟨bl_, fun U hU hW => ⟨rfl, by rw [hU], by rw [hU]; exact hPc, kk_mv hW hK, hDw⟩⟩ rfl rfl hl.1 rfl (lv_room (Nat.le_of_ble_eq_true rfl)) dB_3_3_42.1.2.2.1 ⟨Nat.le_of_ble_eq_true rfl, Nat.le_of_ble_eq_true rfl⟩) hS (fun q _ h => hFc q h) hFc (fun r_11 u t H locs ht hvm hw hB hz1 hk1 hS => ?_)
          have hP : va_P D vwCl _ H := ro_keep hP hk1
          rcases hw with ⟨w_12, e_⟩ | ⟨w_12, e_⟩
          · have e_ := e_.symm
            subst e_
            refine lv_if_ne (tgt := 74) hx hb dB_3_3_42.1.2.2.2 (by decide) (fun c_13 => ?_) (fun c_13 => ?_)
            · have _ := c_13
              refine lv_iload_n hx hb dB_3_3_42.2.2.1.1 rfl (lv_at hl 3 rfl) ?_
              refine lv_if_ge (tgt := 85) hx hb dB_3_3_42.2.2.1.2 (by decide) (fun c_14 => ?_) (fun c_14 => ?_)
              · have t_14 : (0 : Int32).toInt ≤ a3.toInt := Int32.le_iff_toInt_le.mp c_14
                refine lv_aload_n hx hb dB_3_3_43.1.1.2.1 rfl (lv_at hl 0 rfl) ?_
                refine va_get (ci := 12) (v := .ref g18) (C := RX12) (T := TX12) (N := 34) hx hb hts (fun _ h => List.mem_cons_of_mem _ (List.mem_append_right _ h)) hown hK.1 hP 0 rfl rfl 18 (by decide) (hts (.fieldLink RX12 47 "CutAtlasModel" "rowSize" "[I") (List.mem_of_getElem? (i := 6) rfl)) (fun _ h9 => h9) rfl dB_3_3_43.1.1.2.2 ?_
                refine lv_bipush (v := 6) hx hb dB_3_3_43.1.2.1.1 (by decide) ?_
                refine lv_iload_n hx hb dB_3_3_43.1.2.1.2 rfl (lv_at hl 1 rfl) ?_
                refine lv_imul hx hb dB_3_3_43.1.2.2.1 ?_
                refine lv_topi (fun y_15 ey_15 => ?_)
                have ty_15 : y_15.toInt = 6 * a1.toInt := by rw [ey_15]; exact mulC (by decide) (by omega) (by omega)
                refine lv_iload_n hx hb dB_3_3_43.1.2.2.2 rfl (lv_at hl 2 rfl) ?_
                refine lv_iadd hx hb dB_3_3_43.2.1.1.1 ?_
                refine lv_topi (fun y_16 ey_16 => ?_)
                have ty_16 : y_16.toInt = y_15.toInt + a2.toInt := by rw [ey_16]; exact addI (by omega) (by omega)
                have hix_ : y_16.toNatClampNeg = (6 * a1.toInt + a2.toInt).toNat := ixn (by omega)
                refine lv_iload_n hx hb dB_3_3_43.2.1.1.2 rfl (lv_at hl 3 rfl) ?_
                have h_17 : vp_in y_16 24 := in_I (by first | with_reducible assumption | omega) (by omega)
                refine va_iast hx hb hK.1 hP hD hS 3 0 rfl rfl (i := y_16) h_17 dB_3_3_43.2.1.2.1 (fun H locs hP hD hS => ?_)
                obtain ⟨f_18, ef_18⟩ : ∃ g : Nat → Int32, g = upd f18 y_16.toNatClampNeg a3 := ⟨_, rfl⟩
                refine pd_K (D := D) (cl := vwCl) (H := H) (A := A) [ob12_0_ mo 0 0 t2 s3 s4 g5 g6 g7 g8 g9 g10 s11 g12 g13 g14 g15 g16 g17 g18 g19 g20 s21 g22 g23 g24 s25 s26 s27 s28 g29 g30 g31 g32 g33, az_ cy g15 4 f15, ai_ cy g17 4 f17, ai_ cy g18 24 f_18, aj_ cy g19 120 f19] (by rw [ef_18]; exact hP) (by rw [ef_18]; exact hD) (fun hP hD => ?_)
                have rf_18 : rng f_18 24 (-9) (5) := by rw [ef_18]; exact rng_upd r_f18 (by omega) (by omega)
                have q18_ : f_18 = upd f18 (6 * a1.toInt + a2.toInt).toNat a3 := by rw [ef_18, hix_]
                have hlk2_ : lok f_18 24 := by rw [q18_]; exact lok_upd hlk (by omega)
                refine lv_iconst (v := 0) hx hb dB_3_3_43.2.1.2.2 (by decide) ?_
                refine lv_istore (lv' := [(4, .int 0), (0, .ref mo), (1, .int a1), (2, .int a2), (3, .int a3)]) hx hb dB_3_3_43.2.2.1.1 hl (by decide) rfl (fun ls hl => ?_)
                suffices LOOP_19 : ∀ (n_19 : Nat) (x4_19 : Int32) (c_g19_19 : Nat → Int64) (H : Heap) (locs : List Loc) (ls : Array Slot), 5 - x4_19.toInt < (n_19 : Int) → (0 ≤ x4_19.toInt) → (x4_19.toInt ≤ 5) → (∀ q : Nat, c_g19_19 q = if 30 * a1.toInt + 5 * a2.toInt ≤ (q : Int) ∧ (q : Int) < 30 * a1.toInt + 5 * a2.toInt + x4_19.toInt then 0 else f19 q) → pd_2 D vwCl A [ob12_0_ mo 0 0 t2 s3 s4 g5 g6 g7 g8 g9 g10 s11 g12 g13 g14 g15 g16 g17 g18 g19 g20 s21 g22 g23 g24 s25 s26 s27 s28 g29 g30 g31 g32 g33, az_ cy g15 4 f15, ai_ cy g17 4 f17, ai_ cy g18 24 f_18, aj_ cy g19 120 c_g19_19] H → va_S A s.heap H locs → lv_has ls 5 [(4, .int x4_19), (0, .ref mo), (1, .int a1), (2, .int a2), (3, .int a3)] → W p l e ({ frames := 1, cells := 0, slots := 0, locals := 25 } : Room) s m (([.ref mo, .int a1, .int a2, .int a3] : List Value).toArray) below meth c H locs 0 0 Q (F0 m 100 ls []) from LOOP_19 ((5 - (0 : Int32).toInt).toNat + 1) (0 : Int32) f19 _ _ _ (by omega) (by first | with_reducible assumption | omega | assumption) (by first | with_reducible assumption | omega | assumption) (by first | exact zero0 | exact zero5 v_none S[q19] (by omega) (by omega) (by omega) (by omega)) ⟨hP, hD⟩ hS (lv_sub hl [0, 1, 2, 3, 4] rfl)
                intro n_19
                induction n_19 with
                | zero =>
                  intro x4_19 c_g19_19 H locs ls hm v0_19 v1_19 v2_19 hPD hS hl; obtain ⟨hP, hD⟩ := hPD
                  exact absurd hm (by omega)
                | succ n_19 ih_19 =>
                  intro x4_19 c_g19_19 H locs ls hm v0_19 v1_19 v2_19 hPD hS hl; obtain ⟨hP, hD⟩ := hPD
                  refine lv_iload hx hb dB_3_3_43.2.2.1.2 (lv_at hl 0 rfl) ?_
                  refine lv_iconst (v := 5) hx hb dB_3_3_43.2.2.2.1 (by decide) ?_
                  refine lv_icmp_ge (tgt := 129) hx hb dB_3_3_43.2.2.2.2 (by decide) (fun c_20 => ?_) (fun c_20 => ?_)
                  · have t_20 : (5 : Int32).toInt ≤ x4_19.toInt := Int32.le_iff_toInt_le.mp c_20
                    have h9_ := zeroE v2_19 (by omega)
                    refine lv_iconst (v := 1) hx hb dB_3_3_44.2.2.2.2 (by decide) ?_
                    rw [hQ]
                    exact W.iret (v := 1) hx hb hr (fun t ht hW => ⟨⟨1, (), rfl, (by first | (have h9 := congrArg Int32.toInt f0__lit; unfold rowRI; (repeat' (first | with_reducible refine if_n (by omega) ?_ | with_reducible refine if_ns (by omega) ?_ | with_reducible refine if_nz (by omega) ?_ | with_reducible exact if_p (by omega) (by omega) | with_reducible exact if_ps (by omega) (by omega) | with_reducible exact if_pz (by omega) (by omega))) <;> omega) | (unfold rowRI; (repeat' (first | with_reducible refine if_n (by omega) ?_ | with_reducible refine if_ns (by omega) ?_ | with_reducible refine if_nz (by omega) ?_ | with_reducible exact if_p (by omega) (by omega) | with_reducible exact if_ps (by omega) (by omega) | with_reducible exact if_pz (by omega) (by omega))) <;> omega)), (0 : Int32), f_18, c_g19_19, (by first | (have h9 := congrArg Int32.toInt hno_; unfold rowRI; (repeat' (first | with_reducible refine if_n (by omega) ?_ | with_reducible refine if_ns (by omega) ?_ | with_reducible refine if_nz (by omega) ?_ | with_reducible exact if_p (by omega) (by omega) | with_reducible exact if_ps (by omega) (by omega) | with_reducible exact if_pz (by omega) (by omega))) <;> omega) | (unfold rowRI; (repeat' (first | with_reducible refine if_n (by omega) ?_ | with_reducible refine if_ns (by omega) ?_ | with_reducible refine if_nz (by omega) ?_ | with_reducible exact if_p (by omega) (by omega) | with_reducible exact if_ps (by omega) (by omega) | with_reducible exact if_pz (by omega) (by omega))) <;> omega)), (by first | exact ⟨fun _ => ⟨rfl, rfl⟩, fun h => absurd h (by first | omega | (have h9_ := congrArg Int32.toInt hno_; omega) | decide)⟩ | exact ⟨fun h => absurd (by first | omega | (have h9_ := congrArg Int32.toInt hno_; omega) | decide) h, fun _ => ⟨q18_, h9_⟩⟩), (by first | exact hlk2_ | exact hlk), (by first | with_reducible assumption | assumption | exact rng_zero (by omega) (by omega) | omega), by rw [ht]; exact hP, hD⟩, hS.F ht⟩) hS.2.2 dB_3_3_45
                  · have t_20 : ¬ (5 : Int32).toInt ≤ x4_19.toInt := fun h => c_20 (Int32.le_iff_toInt_le.mpr h)
                    refine lv_aload_n hx hb dB_3_3_44.1.1.1.1 rfl (lv_at hl 1 rfl) ?_
                    refine va_get (ci := 12) (v := .ref g19) (C := RX12) (T := TX12) (N := 34) hx hb hts (fun _ h => List.mem_cons_of_mem _ (List.mem_append_right _ h)) hown hK.1 hP 0 rfl rfl 19 (by decide) (hts (.fieldLink RX12 50 "CutAtlasModel" "cells" "[J") (List.mem_of_getElem? (i := 7) rfl)) (fun _ h9 => h9) rfl dB_3_3_44.1.1.1.2 ?_
                    refine lv_bipush (v := 30) hx hb dB_3_3_44.1.1.2.1 (by decide) ?_
                    refine lv_iload_n hx hb dB_3_3_44.1.1.2.2 rfl (lv_at hl 2 rfl) ?_
                    refine lv_imul hx hb dB_3_3_44.1.2.1.1 ?_
                    refine lv_topi (fun y_21 ey_21 => ?_)
                    have ty_21 : y_21.toInt = 30 * a1.toInt := by rw [ey_21]; exact mulC (by decide) (by omega) (by omega)
                    refine lv_iconst (v := 5) hx hb dB_3_3_44.1.2.1.2 (by decide) ?_
                    refine lv_iload_n hx hb dB_3_3_44.1.2.2.1 rfl (lv_at hl 3 rfl) ?_
                    refine lv_imul hx hb dB_3_3_44.1.2.2.2 ?_
                    refine lv_topi (fun y_22 ey_22 => ?_)
                    have ty_22 : y_22.toInt = 5 * a2.toInt := by rw [ey_22]; exact mulC (by decide) (by omega) (by omega)
                    refine lv_iadd hx hb dB_3_3_44.2.1.1.1 ?_
                    refine lv_topi (fun y_23 ey_23 => ?_)
                    have ty_23 : y_23.toInt = y_21.toInt + y_22.toInt := by rw [ey_23]; exact addI (by omega) (by omega)
                    refine lv_iload hx hb dB_3_3_44.2.1.1.2 (lv_at hl 0 rfl) ?_
                    refine lv_iadd hx hb dB_3_3_44.2.1.2.1 ?_
                    refine lv_topi (fun y_24 ey_24 => ?_)
                    have ty_24 : y_24.toInt = y_23.toInt + x4_19.toInt := by rw [ey_24]; exact addI (by omega) (by omega)
                    refine lv_lconst (v := 0) hx hb dB_3_3_44.2.1.2.2 (by decide) ?_
                    have h_25 : vp_in y_24 120 := in_I (by first | with_reducible assumption | omega) (by omega)
                    refine va_last hx hb hK.1 hP hD hS 4 1 rfl rfl (i := y_24) h_25 dB_3_3_44.2.2.1.1 (fun H locs hP hD hS => ?_)
                    obtain ⟨f_26, ef_26⟩ : ∃ g : Nat → Int64, g = vp_updL c_g19_19 y_24.toNatClampNeg (0 : Int64) := ⟨_, rfl⟩
                    refine pd_K (D := D) (cl := vwCl) (H := H) (A := A) [ob12_0_ mo 0 0 t2 s3 s4 g5 g6 g7 g8 g9 g10 s11 g12 g13 g14 g15 g16 g17 g18 g19 g20 s21 g22 g23 g24 s25 s26 s27 s28 g29 g30 g31 g32 g33, az_ cy g15 4 f15, ai_ cy g17 4 f17, ai_ cy g18 24 f_18, aj_ cy g19 120 f_26] (by rw [ef_26]; exact hP) (by rw [ef_26]; exact hD) (fun hP hD => ?_)
                    obtain ⟨y_27, ey_27⟩ : ∃ y : Int32, y = x4_19 + 1 := ⟨_, rfl⟩
                    have ty_27 : y_27.toInt = x4_19.toInt + (1 : Int32).toInt := by rw [ey_27]; exact addI (by omega) (by omega)
                    refine lv_iinc (v := y_27) (lv' := [(4, .int y_27), (0, .ref mo), (1, .int a1), (2, .int a2), (3, .int a3)]) hx hb dB_3_3_44.2.2.1.2 hl (k := 0) rfl (by rw [ey_27]; rfl) (by decide) rfl (fun ls hl => ?_)
                    refine lv_goto (tgt := 100) hx hb dB_3_3_44.2.2.2.1 (by decide) ?_
                    exact ih_19 y_27 f_26 _ _ _ (by omega) (by first | with_reducible assumption | omega | assumption) (by first | with_reducible assumption | omega | assumption) (by first | exact zero0 | exact zero5 v2_19 ef_26 (by omega) (by omega) (by omega) (by omega)) ⟨hP, hD⟩ hS (lv_sub hl [0, 1, 2, 3, 4] rfl)
              · have t_14 : ¬ (0 : Int32).toInt ≤ a3.toInt := fun h => c_14 (Int32.le_iff_toInt_le.mpr h)
                refine lv_aload_n hx hb dB_3_3_42.2.2.2.1 rfl (lv_at hl 0 rfl) ?_
                refine lv_bipush (v := (-15)) hx hb dB_3_3_42.2.2.2.2 (by decide) ?_
                refine ct_S hP hD hS hA [ob12_0_ mo 0 0 t2 s3 s4 g5 g6 g7 g8 g9 g10 s11 g12 g13 g14 g15 g16 g17 g18 g19 g20 s21 g22 g23 g24 s25 s26 s27 s28 g29 g30 g31 g32 g33] [0] (by decide) rfl (fun hPc hDw hFc hC_ => ?_)
                refine va_calli (va_runV (As := [.int (-15)]) (rest := []) ⟨hx, hb, hml, hown, hts⟩ (c_X12_no2 l D cy H.size mo g5 g6 g7 g8 g9 g10 g12 g13 g14 g15 g16 g17 g18 g19 g20 g22 g23 g24 g29 g30 g31 g32 g33 (0 : Int32) (0 : Int32) s3 s4 s11 s21 s25 s26 s27 s28 t2 ((-15) : Int32)) (cwV 1 hts gX12_row_X12_no rfl rfl rfl ⟨rfl, hd_X12_no⟩ ⟨Nat.le_of_ble_eq_true rfl, Nat.le_of_ble_eq_true rfl⟩) ⟨bl_, va_recvX hK.1 hP (ci := 12) (q0 := 0) rfl rfl, fun U hU hW => ⟨rfl, by rw [hU], by rw [hU]; exact hPc, kk_mv hW hK, hDw⟩⟩ rfl rfl hl.1 rfl (lv_room (Nat.le_of_ble_eq_true rfl)) dB_3_3_43.1.1.1.1 ⟨Nat.le_of_ble_eq_true rfl, Nat.le_of_ble_eq_true rfl⟩) hS (fun q _ h => hFc q h) hFc (fun r_28 u t H locs ht hvm hw hB hz1 hk1 hS => ?_)
                obtain ⟨n1_29, g_30, hP1, hD1⟩ := hB
                rw [ht] at hP1
                obtain ⟨hP, hD⟩ := va_join (wr := [az_ cy g15 4 f15, ai_ cy g17 4 f17, ai_ cy g18 24 f18, aj_ cy g19 120 f19]) (w1 := [ob12_0_ mo 0 n1_29 t2 s3 s4 g5 g6 g7 g8 g9 g10 s11 g12 g13 g14 g15 g16 g17 g18 g19 g20 s21 g22 g23 g24 s25 s26 s27 s28 g29 g30 g31 g32 g33]) hP hD [0] [1, 2, 3, 4] hC_ rfl (by decide) (by decide) hk1 hFc hP1 hD1
                refine pd_S hP hD [ob12_0_ mo 0 n1_29 t2 s3 s4 g5 g6 g7 g8 g9 g10 s11 g12 g13 g14 g15 g16 g17 g18 g19 g20 s21 g22 g23 g24 s25 s26 s27 s28 g29 g30 g31 g32 g33, az_ cy g15 4 f15, ai_ cy g17 4 f17, ai_ cy g18 24 f18, aj_ cy g19 120 f19] [4, 0, 1, 2, 3] (by decide) rfl (fun hP hD => ?_)
                have f0_r_28 := hw
                have hno_ := g_30
                rw [hQ]
                exact W.iret (v := r_28) hx hb hr (fun t ht hW => ⟨⟨r_28, (), rfl, (by first | (have h9 := congrArg Int32.toInt f0_r_28; unfold rowRI; (repeat' (first | with_reducible refine if_n (by omega) ?_ | with_reducible refine if_ns (by omega) ?_ | with_reducible refine if_nz (by omega) ?_ | with_reducible exact if_p (by omega) (by omega) | with_reducible exact if_ps (by omega) (by omega) | with_reducible exact if_pz (by omega) (by omega))) <;> omega) | (unfold rowRI; (repeat' (first | with_reducible refine if_n (by omega) ?_ | with_reducible refine if_ns (by omega) ?_ | with_reducible refine if_nz (by omega) ?_ | with_reducible exact if_p (by omega) (by omega) | with_reducible exact if_ps (by omega) (by omega) | with_reducible exact if_pz (by omega) (by omega))) <;> omega)), n1_29, f18, f19, (by first | (have h9 := congrArg Int32.toInt hno_; unfold rowRI; (repeat' (first | with_reducible refine if_n (by omega) ?_ | with_reducible refine if_ns (by omega) ?_ | with_reducible refine if_nz (by omega) ?_ | with_reducible exact if_p (by omega) (by omega) | with_reducible exact if_ps (by omega) (by omega) | with_reducible exact if_pz (by omega) (by omega))) <;> omega) | (unfold rowRI; (repeat' (first | with_reducible refine if_n (by omega) ?_ | with_reducible refine if_ns (by omega) ?_ | with_reducible refine if_nz (by omega) ?_ | with_reducible exact if_p (by omega) (by omega) | with_reducible exact if_ps (by omega) (by omega) | with_reducible exact if_pz (by omega) (by omega))) <;> omega)), (by first | exact ⟨fun _ => ⟨rfl, rfl⟩, fun h => absurd h (by first | omega | (have h9_ := congrArg Int32.toInt hno_; omega) | decide)⟩ | exact ⟨fun h => absurd (by first | omega | (have h9_ := congrArg Int32.toInt hno_; omega) | decide) h, fun _ => ⟨q18_, h9_⟩⟩), (by first | exact hlk2_ | exact hlk), (by first | with_reducible assumption | assumption | exact rng_zero (by omega) (by omega) | omega), by rw [ht]; exact hP, hD⟩, hS.F ht⟩) hS.2.2 dB_3_3_43.1.1.1.2
            · exact absurd c_13 (by decide)
          · have e_ := e_.symm
            subst e_
            refine lv_if_ne (tgt := 74) hx hb dB_3_3_42.1.2.2.2 (by decide) (fun c_31 => ?_) (fun c_31 => ?_)
            · exact absurd c_31 (by decide)
            · have _ := c_31
              refine lv_aload_n hx hb dB_3_3_42.2.1.1.1 rfl (lv_at hl 0 rfl) ?_
              refine lv_bipush (v := (-12)) hx hb dB_3_3_42.2.1.1.2 (by decide) ?_
              refine ct_S hP hD hS hA [ob12_0_ mo 0 0 t2 s3 s4 g5 g6 g7 g8 g9 g10 s11 g12 g13 g14 g15 g16 g17 g18 g19 g20 s21 g22 g23 g24 s25 s26 s27 s28 g29 g30 g31 g32 g33] [0] (by decide) rfl (fun hPc hDw hFc hC_ => ?_)
              refine va_calli (va_runV (As := [.int (-12)]) (rest := []) ⟨hx, hb, hml, hown, hts⟩ (c_X12_no2 l D cy H.size mo g5 g6 g7 g8 g9 g10 g12 g13 g14 g15 g16 g17 g18 g19 g20 g22 g23 g24 g29 g30 g31 g32 g33 (0 : Int32) (0 : Int32) s3 s4 s11 s21 s25 s26 s27 s28 t2 ((-12) : Int32)) (cwV 1 hts gX12_row_X12_no rfl rfl rfl ⟨rfl, hd_X12_no⟩ ⟨Nat.le_of_ble_eq_true rfl, Nat.le_of_ble_eq_true rfl⟩) ⟨bl_, va_recvX hK.1 hP (ci := 12) (q0 := 0) rfl rfl, fun U hU hW => ⟨rfl, by rw [hU], by rw [hU]; exact hPc, kk_mv hW hK, hDw⟩⟩ rfl rfl hl.1 rfl (lv_room (Nat.le_of_ble_eq_true rfl)) dB_3_3_42.2.1.2.1 ⟨Nat.le_of_ble_eq_true rfl, Nat.le_of_ble_eq_true rfl⟩) hS (fun q _ h => hFc q h) hFc (fun r_32 u t H locs ht hvm hw hB hz1 hk1 hS => ?_)
              obtain ⟨n1_33, g_34, hP1, hD1⟩ := hB
              rw [ht] at hP1
              obtain ⟨hP, hD⟩ := va_join (wr := [az_ cy g15 4 f15, ai_ cy g17 4 f17, ai_ cy g18 24 f18, aj_ cy g19 120 f19]) (w1 := [ob12_0_ mo 0 n1_33 t2 s3 s4 g5 g6 g7 g8 g9 g10 s11 g12 g13 g14 g15 g16 g17 g18 g19 g20 s21 g22 g23 g24 s25 s26 s27 s28 g29 g30 g31 g32 g33]) hP hD [0] [1, 2, 3, 4] hC_ rfl (by decide) (by decide) hk1 hFc hP1 hD1
              refine pd_S hP hD [ob12_0_ mo 0 n1_33 t2 s3 s4 g5 g6 g7 g8 g9 g10 s11 g12 g13 g14 g15 g16 g17 g18 g19 g20 s21 g22 g23 g24 s25 s26 s27 s28 g29 g30 g31 g32 g33, az_ cy g15 4 f15, ai_ cy g17 4 f17, ai_ cy g18 24 f18, aj_ cy g19 120 f19] [4, 0, 1, 2, 3] (by decide) rfl (fun hP hD => ?_)
              have f0_r_32 := hw
              have hno_ := g_34
              rw [hQ]
              exact W.iret (v := r_32) hx hb hr (fun t ht hW => ⟨⟨r_32, (), rfl, (by first | (have h9 := congrArg Int32.toInt f0_r_32; unfold rowRI; (repeat' (first | with_reducible refine if_n (by omega) ?_ | with_reducible refine if_ns (by omega) ?_ | with_reducible refine if_nz (by omega) ?_ | with_reducible exact if_p (by omega) (by omega) | with_reducible exact if_ps (by omega) (by omega) | with_reducible exact if_pz (by omega) (by omega))) <;> omega) | (unfold rowRI; (repeat' (first | with_reducible refine if_n (by omega) ?_ | with_reducible refine if_ns (by omega) ?_ | with_reducible refine if_nz (by omega) ?_ | with_reducible exact if_p (by omega) (by omega) | with_reducible exact if_ps (by omega) (by omega) | with_reducible exact if_pz (by omega) (by omega))) <;> omega)), n1_33, f18, f19, (by first | (have h9 := congrArg Int32.toInt hno_; unfold rowRI; (repeat' (first | with_reducible refine if_n (by omega) ?_ | with_reducible refine if_ns (by omega) ?_ | with_reducible refine if_nz (by omega) ?_ | with_reducible exact if_p (by omega) (by omega) | with_reducible exact if_ps (by omega) (by omega) | with_reducible exact if_pz (by omega) (by omega))) <;> omega) | (unfold rowRI; (repeat' (first | with_reducible refine if_n (by omega) ?_ | with_reducible refine if_ns (by omega) ?_ | with_reducible refine if_nz (by omega) ?_ | with_reducible exact if_p (by omega) (by omega) | with_reducible exact if_ps (by omega) (by omega) | with_reducible exact if_pz (by omega) (by omega))) <;> omega)), (by first | exact ⟨fun _ => ⟨rfl, rfl⟩, fun h => absurd h (by first | omega | (have h9_ := congrArg Int32.toInt hno_; omega) | decide)⟩ | exact ⟨fun h => absurd (by first | omega | (have h9_ := congrArg Int32.toInt hno_; omega) | decide) h, fun _ => ⟨q18_, h9_⟩⟩), (by first | exact hlk2_ | exact hlk), (by first | with_reducible assumption | assumption | exact rng_zero (by omega) (by omega) | omega), by rw [ht]; exact hP, hD⟩, hS.F ht⟩) hS.2.2 dB_3_3_42.2.1.2.2
        · have t_7 : y_6.toInt = (0 : Int32).toInt := congrArg Int32.toInt c_7
          refine lv_aload_n hx hb dB_3_3_41.2.1.1.1 rfl (lv_at hl 0 rfl) ?_
          refine lv_bipush (v := (-11)) hx hb dB_3_3_41.2.1.1.2 (by decide) ?_
          refine ct_S hP hD hS hA [ob12_0_ mo 0 0 t2 s3 s4 g5 g6 g7 g8 g9 g10 s11 g12 g13 g14 g15 g16 g17 g18 g19 g20 s21 g22 g23 g24 s25 s26 s27 s28 g29 g30 g31 g32 g33] [0] (by decide) rfl (fun hPc hDw hFc hC_ => ?_)
          refine va_calli (va_runV (As := [.int (-11)]) (rest := []) ⟨hx, hb, hml, hown, hts⟩ (c_X12_no2 l D cy H.size mo g5 g6 g7 g8 g9 g10 g12 g13 g14 g15 g16 g17 g18 g19 g20 g22 g23 g24 g29 g30 g31 g32 g33 (0 : Int32) (0 : Int32) s3 s4 s11 s21 s25 s26 s27 s28 t2 ((-11) : Int32)) (cwV 1 hts gX12_row_X12_no rfl rfl rfl ⟨rfl, hd_X12_no⟩ ⟨Nat.le_of_ble_eq_true rfl, Nat.le_of_ble_eq_true rfl⟩) ⟨bl_, va_recvX hK.1 hP (ci := 12) (q0 := 0) rfl rfl, fun U hU hW => ⟨rfl, by rw [hU], by rw [hU]; exact hPc, kk_mv hW hK, hDw⟩⟩ rfl rfl hl.1 rfl (lv_room (Nat.le_of_ble_eq_true rfl)) dB_3_3_41.2.1.2.1 ⟨Nat.le_of_ble_eq_true rfl, Nat.le_of_ble_eq_true rfl⟩) hS (fun q _ h => hFc q h) hFc (fun r_35 u t H locs ht hvm hw hB hz1 hk1 hS => ?_)
          obtain ⟨n1_36, g_37, hP1, hD1⟩ := hB
          rw [ht] at hP1
          obtain ⟨hP, hD⟩ := va_join (wr := [az_ cy g15 4 f15, ai_ cy g17 4 f17, ai_ cy g18 24 f18, aj_ cy g19 120 f19]) (w1 := [ob12_0_ mo 0 n1_36 t2 s3 s4 g5 g6 g7 g8 g9 g10 s11 g12 g13 g14 g15 g16 g17 g18 g19 g20 s21 g22 g23 g24 s25 s26 s27 s28 g29 g30 g31 g32 g33]) hP hD [0] [1, 2, 3, 4] hC_ rfl (by decide) (by decide) hk1 hFc hP1 hD1
          refine pd_S hP hD [ob12_0_ mo 0 n1_36 t2 s3 s4 g5 g6 g7 g8 g9 g10 s11 g12 g13 g14 g15 g16 g17 g18 g19 g20 s21 g22 g23 g24 s25 s26 s27 s28 g29 g30 g31 g32 g33, az_ cy g15 4 f15, ai_ cy g17 4 f17, ai_ cy g18 24 f18, aj_ cy g19 120 f19] [4, 0, 1, 2, 3] (by decide) rfl (fun hP hD => ?_)
          have f0_r_35 := hw
          have hno_ := g_37
          rw [hQ]
          exact W.iret (v := r_35) hx hb hr (fun t ht hW => ⟨⟨r_35, (), rfl, (by first | (have h9 := congrArg Int32.toInt f0_r_35; unfold rowRI; (repeat' (first | with_reducible refine if_n (by omega) ?_ | with_reducible refine if_ns (by omega) ?_ | with_reducible refine if_nz (by omega) ?_ | with_reducible exact if_p (by omega) (by omega) | with_reducible exact if_ps (by omega) (by omega) | with_reducible exact if_pz (by omega) (by omega))) <;> omega) | (unfold rowRI; (repeat' (first | with_reducible refine if_n (by omega) ?_ | with_reducible refine if_ns (by omega) ?_ | with_reducible refine if_nz (by omega) ?_ | with_reducible exact if_p (by omega) (by omega) | with_reducible exact if_ps (by omega) (by omega) | with_reducible exact if_pz (by omega) (by omega))) <;> omega)), n1_36, f18, f19, (by first | (have h9 := congrArg Int32.toInt hno_; unfold rowRI; (repeat' (first | with_reducible refine if_n (by omega) ?_ | with_reducible refine if_ns (by omega) ?_ | with_reducible refine if_nz (by omega) ?_ | with_reducible exact if_p (by omega) (by omega) | with_reducible exact if_ps (by omega) (by omega) | with_reducible exact if_pz (by omega) (by omega))) <;> omega) | (unfold rowRI; (repeat' (first | with_reducible refine if_n (by omega) ?_ | with_reducible refine if_ns (by omega) ?_ | with_reducible refine if_nz (by omega) ?_ | with_reducible exact if_p (by omega) (by omega) | with_reducible exact if_ps (by omega) (by omega) | with_reducible exact if_pz (by omega) (by omega))) <;> omega)), (by first | exact ⟨fun _ => ⟨rfl, rfl⟩, fun h => absurd h (by first | omega | (have h9_ := congrArg Int32.toInt hno_; omega) | decide)⟩ | exact ⟨fun h => absurd (by first | omega | (have h9_ := congrArg Int32.toInt hno_; omega) | decide) h, fun _ => ⟨q18_, h9_⟩⟩), (by first | exact hlk2_ | exact hlk), (by first | with_reducible assumption | assumption | exact rng_zero (by omega) (by omega) | omega), by rw [ht]; exact hP, hD⟩, hS.F ht⟩) hS.2.2 dB_3_3_41.2.1.2.2
      · have t_4 : ¬ a3.toInt ≤ (5 : Int32).toInt := fun h => c_4 (Int32.le_iff_toInt_le.mpr h)
        refine lv_aload_n hx hb dB_3_3_40.2.2.2.2 rfl (lv_at hl 0 rfl) ?_
        refine lv_iconst (v := (-1)) hx hb dB_3_3_41.1.1.1.1 (by decide) ?_
        refine ct_S hP hD hS hA [ob12_0_ mo 0 0 t2 s3 s4 g5 g6 g7 g8 g9 g10 s11 g12 g13 g14 g15 g16 g17 g18 g19 g20 s21 g22 g23 g24 s25 s26 s27 s28 g29 g30 g31 g32 g33] [0] (by decide) rfl (fun hPc hDw hFc hC_ => ?_)
        refine va_calli (va_runV (As := [.int (-1)]) (rest := []) ⟨hx, hb, hml, hown, hts⟩ (c_X12_no2 l D cy H.size mo g5 g6 g7 g8 g9 g10 g12 g13 g14 g15 g16 g17 g18 g19 g20 g22 g23 g24 g29 g30 g31 g32 g33 (0 : Int32) (0 : Int32) s3 s4 s11 s21 s25 s26 s27 s28 t2 ((-1) : Int32)) (cwV 1 hts gX12_row_X12_no rfl rfl rfl ⟨rfl, hd_X12_no⟩ ⟨Nat.le_of_ble_eq_true rfl, Nat.le_of_ble_eq_true rfl⟩) ⟨bl_, va_recvX hK.1 hP (ci := 12) (q0 := 0) rfl rfl, fun U hU hW => ⟨rfl, by rw [hU], by rw [hU]; exact hPc, kk_mv hW hK, hDw⟩⟩ rfl rfl hl.1 rfl (lv_room (Nat.le_of_ble_eq_true rfl)) dB_3_3_41.1.1.1.2 ⟨Nat.le_of_ble_eq_true rfl, Nat.le_of_ble_eq_true rfl⟩) hS (fun q _ h => hFc q h) hFc (fun r_38 u t H locs ht hvm hw hB hz1 hk1 hS => ?_)
        obtain ⟨n1_39, g_40, hP1, hD1⟩ := hB
        rw [ht] at hP1
        obtain ⟨hP, hD⟩ := va_join (wr := [az_ cy g15 4 f15, ai_ cy g17 4 f17, ai_ cy g18 24 f18, aj_ cy g19 120 f19]) (w1 := [ob12_0_ mo 0 n1_39 t2 s3 s4 g5 g6 g7 g8 g9 g10 s11 g12 g13 g14 g15 g16 g17 g18 g19 g20 s21 g22 g23 g24 s25 s26 s27 s28 g29 g30 g31 g32 g33]) hP hD [0] [1, 2, 3, 4] hC_ rfl (by decide) (by decide) hk1 hFc hP1 hD1
        refine pd_S hP hD [ob12_0_ mo 0 n1_39 t2 s3 s4 g5 g6 g7 g8 g9 g10 s11 g12 g13 g14 g15 g16 g17 g18 g19 g20 s21 g22 g23 g24 s25 s26 s27 s28 g29 g30 g31 g32 g33, az_ cy g15 4 f15, ai_ cy g17 4 f17, ai_ cy g18 24 f18, aj_ cy g19 120 f19] [4, 0, 1, 2, 3] (by decide) rfl (fun hP hD => ?_)
        have f0_r_38 := hw
        have hno_ := g_40
        rw [hQ]
        exact W.iret (v := r_38) hx hb hr (fun t ht hW => ⟨⟨r_38, (), rfl, (by first | (have h9 := congrArg Int32.toInt f0_r_38; unfold rowRI; (repeat' (first | with_reducible refine if_n (by omega) ?_ | with_reducible refine if_ns (by omega) ?_ | with_reducible refine if_nz (by omega) ?_ | with_reducible exact if_p (by omega) (by omega) | with_reducible exact if_ps (by omega) (by omega) | with_reducible exact if_pz (by omega) (by omega))) <;> omega) | (unfold rowRI; (repeat' (first | with_reducible refine if_n (by omega) ?_ | with_reducible refine if_ns (by omega) ?_ | with_reducible refine if_nz (by omega) ?_ | with_reducible exact if_p (by omega) (by omega) | with_reducible exact if_ps (by omega) (by omega) | with_reducible exact if_pz (by omega) (by omega))) <;> omega)), n1_39, f18, f19, (by first | (have h9 := congrArg Int32.toInt hno_; unfold rowRI; (repeat' (first | with_reducible refine if_n (by omega) ?_ | with_reducible refine if_ns (by omega) ?_ | with_reducible refine if_nz (by omega) ?_ | with_reducible exact if_p (by omega) (by omega) | with_reducible exact if_ps (by omega) (by omega) | with_reducible exact if_pz (by omega) (by omega))) <;> omega) | (unfold rowRI; (repeat' (first | with_reducible refine if_n (by omega) ?_ | with_reducible refine if_ns (by omega) ?_ | with_reducible refine if_nz (by omega) ?_ | with_reducible exact if_p (by omega) (by omega) | with_reducible exact if_ps (by omega) (by omega) | with_reducible exact if_pz (by omega) (by omega))) <;> omega)), (by first | exact ⟨fun _ => ⟨rfl, rfl⟩, fun h => absurd h (by first | omega | (have h9_ := congrArg Int32.toInt hno_; omega) | decide)⟩ | exact ⟨fun h => absurd (by first | omega | (have h9_ := congrArg Int32.toInt hno_; omega) | decide) h, fun _ => ⟨q18_, h9_⟩⟩), (by first | exact hlk2_ | exact hlk), (by first | with_reducible assumption | assumption | exact rng_zero (by omega) (by omega) | omega), by rw [ht]; exact hP, hD⟩, hS.F ht⟩) hS.2.2 dB_3_3_41.1.1.2.1
  · have e_ := e_.symm
    subst e_
    refine lv_if_eq (tgt := 27) hx hb dB_3_3_40.2.1.2.2 (by decide) (fun c_41 => ?_) (fun c_41 => ?_)
    · have _ := c_41
      refine lv_aload_n hx hb dB_3_3_40.2.2.2.2 rfl (lv_at hl 0 rfl) ?_
      refine lv_iconst (v := (-1)) hx hb dB_3_3_41.1.1.1.1 (by decide) ?_
      refine ct_S hP hD hS hA [ob12_0_ mo 0 0 t2 s3 s4 g5 g6 g7 g8 g9 g10 s11 g12 g13 g14 g15 g16 g17 g18 g19 g20 s21 g22 g23 g24 s25 s26 s27 s28 g29 g30 g31 g32 g33] [0] (by decide) rfl (fun hPc hDw hFc hC_ => ?_)
      refine va_calli (va_runV (As := [.int (-1)]) (rest := []) ⟨hx, hb, hml, hown, hts⟩ (c_X12_no2 l D cy H.size mo g5 g6 g7 g8 g9 g10 g12 g13 g14 g15 g16 g17 g18 g19 g20 g22 g23 g24 g29 g30 g31 g32 g33 (0 : Int32) (0 : Int32) s3 s4 s11 s21 s25 s26 s27 s28 t2 ((-1) : Int32)) (cwV 1 hts gX12_row_X12_no rfl rfl rfl ⟨rfl, hd_X12_no⟩ ⟨Nat.le_of_ble_eq_true rfl, Nat.le_of_ble_eq_true rfl⟩) ⟨bl_, va_recvX hK.1 hP (ci := 12) (q0 := 0) rfl rfl, fun U hU hW => ⟨rfl, by rw [hU], by rw [hU]; exact hPc, kk_mv hW hK, hDw⟩⟩ rfl rfl hl.1 rfl (lv_room (Nat.le_of_ble_eq_true rfl)) dB_3_3_41.1.1.1.2 ⟨Nat.le_of_ble_eq_true rfl, Nat.le_of_ble_eq_true rfl⟩) hS (fun q _ h => hFc q h) hFc (fun r_42 u t H locs ht hvm hw hB hz1 hk1 hS => ?_)
      obtain ⟨n1_43, g_44, hP1, hD1⟩ := hB
      rw [ht] at hP1
      obtain ⟨hP, hD⟩ := va_join (wr := [az_ cy g15 4 f15, ai_ cy g17 4 f17, ai_ cy g18 24 f18, aj_ cy g19 120 f19]) (w1 := [ob12_0_ mo 0 n1_43 t2 s3 s4 g5 g6 g7 g8 g9 g10 s11 g12 g13 g14 g15 g16 g17 g18 g19 g20 s21 g22 g23 g24 s25 s26 s27 s28 g29 g30 g31 g32 g33]) hP hD [0] [1, 2, 3, 4] hC_ rfl (by decide) (by decide) hk1 hFc hP1 hD1
      refine pd_S hP hD [ob12_0_ mo 0 n1_43 t2 s3 s4 g5 g6 g7 g8 g9 g10 s11 g12 g13 g14 g15 g16 g17 g18 g19 g20 s21 g22 g23 g24 s25 s26 s27 s28 g29 g30 g31 g32 g33, az_ cy g15 4 f15, ai_ cy g17 4 f17, ai_ cy g18 24 f18, aj_ cy g19 120 f19] [4, 0, 1, 2, 3] (by decide) rfl (fun hP hD => ?_)
      have f0_r_42 := hw
      have hno_ := g_44
      rw [hQ]
      exact W.iret (v := r_42) hx hb hr (fun t ht hW => ⟨⟨r_42, (), rfl, (by first | (have h9 := congrArg Int32.toInt f0_r_42; unfold rowRI; (repeat' (first | with_reducible refine if_n (by omega) ?_ | with_reducible refine if_ns (by omega) ?_ | with_reducible refine if_nz (by omega) ?_ | with_reducible exact if_p (by omega) (by omega) | with_reducible exact if_ps (by omega) (by omega) | with_reducible exact if_pz (by omega) (by omega))) <;> omega) | (unfold rowRI; (repeat' (first | with_reducible refine if_n (by omega) ?_ | with_reducible refine if_ns (by omega) ?_ | with_reducible refine if_nz (by omega) ?_ | with_reducible exact if_p (by omega) (by omega) | with_reducible exact if_ps (by omega) (by omega) | with_reducible exact if_pz (by omega) (by omega))) <;> omega)), n1_43, f18, f19, (by first | (have h9 := congrArg Int32.toInt hno_; unfold rowRI; (repeat' (first | with_reducible refine if_n (by omega) ?_ | with_reducible refine if_ns (by omega) ?_ | with_reducible refine if_nz (by omega) ?_ | with_reducible exact if_p (by omega) (by omega) | with_reducible exact if_ps (by omega) (by omega) | with_reducible exact if_pz (by omega) (by omega))) <;> omega) | (unfold rowRI; (repeat' (first | with_reducible refine if_n (by omega) ?_ | with_reducible refine if_ns (by omega) ?_ | with_reducible refine if_nz (by omega) ?_ | with_reducible exact if_p (by omega) (by omega) | with_reducible exact if_ps (by omega) (by omega) | with_reducible exact if_pz (by omega) (by omega))) <;> omega)), (by first | exact ⟨fun _ => ⟨rfl, rfl⟩, fun h => absurd h (by first | omega | (have h9_ := congrArg Int32.toInt hno_; omega) | decide)⟩ | exact ⟨fun h => absurd (by first | omega | (have h9_ := congrArg Int32.toInt hno_; omega) | decide) h, fun _ => ⟨q18_, h9_⟩⟩), (by first | exact hlk2_ | exact hlk), (by first | with_reducible assumption | assumption | exact rng_zero (by omega) (by omega) | omega), by rw [ht]; exact hP, hD⟩, hS.F ht⟩) hS.2.2 dB_3_3_41.1.1.2.1
    · exact absurd c_41 (by decide)
end

section
set_option maxHeartbeats 4000000 in
set_option maxRecDepth 100000 in
theorem c_X12_put2 (l : Launch) (D : va_G) (cy : Nat → ClassId) (sz : Nat) (mo : Nat) (g5 : Nat) (g6 : Nat) (g7 : Nat) (g8 : Nat) (g9 : Nat) (g10 : Nat) (g12 : Nat) (g13 : Nat) (g14 : Nat) (g15 : Nat) (g16 : Nat) (g17 : Nat) (g18 : Nat) (g19 : Nat) (g20 : Nat) (g22 : Nat) (g23 : Nat) (g24 : Nat) (g29 : Nat) (g30 : Nat) (g31 : Nat) (g32 : Nat) (g33 : Nat) (s0 : Int32) (s1 : Int32) (s3 : Int32) (s4 : Int32) (s11 : Int32) (s21 : Int32) (s25 : Int32) (s26 : Int32) (s27 : Int32) (s28 : Int32) (t2 : Int64) (f15 : Nat → Int32) (f16 : Nat → Int32) (f17 : Nat → Int32) (f18 : Nat → Int32) (f19 : Nat → Int64) (a1 : Int32) (a2 : Int32) (a3 : Int32) (a4 : Int32) (a5 : Int64) (hlk : lok f18 24) (r_f17 : rng f17 4 (0) (6)) (r_f18 : rng f18 24 (-9) (5)) : Met l yX12_put wsX12_put ({ frames := 2, cells := 0, slots := 0, locals := 50 }) (va_Pc [.ref mo, .int a1, .int a2, .int a3, .int a4, .long a5] (fun U => U.heap.size = sz ∧ va_P D vwCl [ob12_0_ mo s0 s1 t2 s3 s4 g5 g6 g7 g8 g9 g10 s11 g12 g13 g14 g15 g16 g17 g18 g19 g20 s21 g22 g23 g24 s25 s26 s27 s28 g29 g30 g31 g32 g33, az_ cy g15 4 f15, ai_ cy g16 4 f16, ai_ cy g17 4 f17, ai_ cy g18 24 f18, aj_ cy g19 120 f19] U.heap ∧ kk_ D cy U ∧ va_D (fun _ => True) [ob12_0_ mo s0 s1 t2 s3 s4 g5 g6 g7 g8 g9 g10 s11 g12 g13 g14 g15 g16 g17 g18 g19 g20 s21 g22 g23 g24 s25 s26 s27 s28 g29 g30 g31 g32 g33, az_ cy g15 4 f15, ai_ cy g16 4 f16, ai_ cy g17 4 f17, ai_ cy g18 24 f18, aj_ cy g19 120 f19])) (va_Qi (fun (r : Int32) (_ : Unit) => (r.toInt = if wrgI a1.toInt a2.toInt a3.toInt a4.toInt (f15 a1.toNatClampNeg).toInt (f16 a1.toNatClampNeg).toInt (f17 a1.toNatClampNeg).toInt (f18 (6 * a1.toInt + a3.toInt).toNat).toInt = 0 then 1 else wrgI a1.toInt a2.toInt a3.toInt a4.toInt (f15 a1.toNatClampNeg).toInt (f16 a1.toNatClampNeg).toInt (f17 a1.toNatClampNeg).toInt (f18 (6 * a1.toInt + a3.toInt).toNat).toInt)) (fun (_ : Unit) (t : State) => ∃ (n1 : Int32), ∃ (e19 : Nat → Int64), (n1.toInt = wrgI a1.toInt a2.toInt a3.toInt a4.toInt (f15 a1.toNatClampNeg).toInt (f16 a1.toNatClampNeg).toInt (f17 a1.toNatClampNeg).toInt (f18 (6 * a1.toInt + a3.toInt).toNat).toInt) ∧ ((n1.toInt ≠ 0 → e19 = f19) ∧ (n1.toInt = 0 → e19 = vp_updL f19 (30 * a1.toInt + 5 * a3.toInt + a4.toInt).toNat (putV a2.toInt a5))) ∧ va_P D vwCl [ob12_0_ mo 0 n1 t2 s3 s4 g5 g6 g7 g8 g9 g10 s11 g12 g13 g14 g15 g16 g17 g18 g19 g20 s21 g22 g23 g24 s25 s26 s27 s28 g29 g30 g31 g32 g33, az_ cy g15 4 f15, ai_ cy g16 4 f16, ai_ cy g17 4 f17, ai_ cy g18 24 f18, aj_ cy g19 120 e19] t.heap ∧ va_D (va_A [ob12_0_ mo s0 s1 t2 s3 s4 g5 g6 g7 g8 g9 g10 s11 g12 g13 g14 g15 g16 g17 g18 g19 g20 s21 g22 g23 g24 s25 s26 s27 s28 g29 g30 g31 g32 g33, az_ cy g15 4 f15, ai_ cy g16 4 f16, ai_ cy g17 4 f17, ai_ cy g18 24 f18, aj_ cy g19 120 f19] sz) [ob12_0_ mo 0 n1 t2 s3 s4 g5 g6 g7 g8 g9 g10 s11 g12 g13 g14 g15 g16 g17 g18 g19 g20 s21 g22 g23 g24 s25 s26 s27 s28 g29 g30 g31 g32 g33, az_ cy g15 4 f15, ai_ cy g16 4 f16, ai_ cy g17 4 f17, ai_ cy g18 24 f18, aj_ cy g19 120 e19]) (va_A [ob12_0_ mo s0 s1 t2 s3 s4 g5 g6 g7 g8 g9 g10 s11 g12 g13 g14 g15 g16 g17 g18 g19 g20 s21 g22 g23 g24 s25 s26 s27 s28 g29 g30 g31 g32 g33, az_ cy g15 4 f15, ai_ cy g16 4 f16, ai_ cy g17 4 f17, ai_ cy g18 24 f18, aj_ cy g19 120 f19] sz)) 0 0 (va_A [ob12_0_ mo s0 s1 t2 s3 s4 g5 g6 g7 g8 g9 g10 s11 g12 g13 g14 g15 g16 g17 g18 g19 g20 s21 g22 g23 g24 s25 s26 s27 s28 g29 g30 g31 g32 g33, az_ cy g15 4 f15, ai_ cy g16 4 f16, ai_ cy g17 4 f17, ai_ cy g18 24 f18, aj_ cy g19 120 f19] sz) := by
  refine ofQ (cc := cX12_put) (maxL := 8) (ret := (some .int)) (by decide) rfl ?_
  intro p e s m args below meth c s₁ Q hQ B hml hv
  obtain ⟨rfl, hsz, hP, hK, hD0⟩ := hv
  have hx := B.exec
  have hb := B.bytes
  have hr := B.returns
  have hts := atoms_spec (ws := wsX12_put) B.pre
  have hown : s.vm.findClass RX12 = some m.cls := by have h_ := findClass_of_methodNamed B.named; exact h_
  have hlocks := B.notSynchronized
  subst hsz
  have hD := hD0.self (sz := s.heap.size)
  generalize hAe : va_A [ob12_0_ mo s0 s1 t2 s3 s4 g5 g6 g7 g8 g9 g10 s11 g12 g13 g14 g15 g16 g17 g18 g19 g20 s21 g22 g23 g24 s25 s26 s27 s28 g29 g30 g31 g32 g33, az_ cy g15 4 f15, ai_ cy g16 4 f16, ai_ cy g17 4 f17, ai_ cy g18 24 f18, aj_ cy g19 120 f19] s.heap.size = A at hD hQ
  have hA : ∀ q : Nat, s.heap.size ≤ q → A q := fun q h => by rw [← hAe]; exact Or.inr h
  have hS : va_S A s.heap s.heap [] := va_S.rf
  have hl := lv_entry ([.ref mo, .int a1, .int a2, .int a3, .int a4, .long a5]) (n := 8) (Nat.le_of_ble_eq_true rfl)
  rw [lg_entry_eq]
  generalize (lg_sl ([.ref mo, .int a1, .int a2, .int a3, .int a4, .long a5]) ++ List.replicate (8 - (lg_sl ([.ref mo, .int a1, .int a2, .int a3, .int a4, .long a5])).length) Slot.unset).toArray = ls at hl ⊢
  have hl : lv_has ls 8 [(0, .ref mo), (1, .int a1), (2, .int a2), (3, .int a3), (4, .int a4), (5, .long a5)] := hl
  have z0 : (0 : Int32).toInt = 0 := by decide
  have z1 : (1 : Int32).toInt = 1 := by decide
  have z5 : (5 : Int32).toInt = 5 := by decide
  have z30 : (30 : Int32).toInt = 30 := by decide
  have zq1 : (1 : Int32).toInt = 1 := by decide
  refine lv_aload_n hx hb dB_3_3_27.1.1.1.1 rfl (lv_at hl 0 rfl) ?_
  refine lv_iconst (v := 0) hx hb dB_3_3_27.1.1.1.2 (by decide) ?_
  refine va_put (ci := 12) (v := .int 0) (ty := .int) (C := RX12) (T := TX12) (N := 34) hx hb hts (fun _ h => List.mem_cons_of_mem _ (List.mem_append_right _ h)) tyX12 tyX12_ok nmX12 hown hK.1 hP hD hS 0 rfl rfl 0 (by decide) (hts (.fieldLink RX12 85 "CutAtlasModel" "thrown" "I") (List.mem_of_getElem? (i := 1) rfl)) (fun _ h9 => h9) rfl (by decide +kernel) rfl rfl (Nat.le_of_ble_eq_true rfl) dB_3_3_27.1.1.2.1 (fun H locs hP hD hS => ?_)
  refine pd_K [ob12_0_ mo 0 s1 t2 s3 s4 g5 g6 g7 g8 g9 g10 s11 g12 g13 g14 g15 g16 g17 g18 g19 g20 s21 g22 g23 g24 s25 s26 s27 s28 g29 g30 g31 g32 g33, az_ cy g15 4 f15, ai_ cy g16 4 f16, ai_ cy g17 4 f17, ai_ cy g18 24 f18, aj_ cy g19 120 f19] hP hD (fun hP hD => ?_)
  refine lv_aload_n hx hb dB_3_3_27.1.1.2.2 rfl (lv_at hl 0 rfl) ?_
  refine lv_iconst (v := 0) hx hb dB_3_3_27.1.2.1.1 (by decide) ?_
  refine va_put (ci := 12) (v := .int 0) (ty := .int) (C := RX12) (T := TX12) (N := 34) hx hb hts (fun _ h => List.mem_cons_of_mem _ (List.mem_append_right _ h)) tyX12 tyX12_ok nmX12 hown hK.1 hP hD hS 0 rfl rfl 1 (by decide) (hts (.fieldLink RX12 240 "CutAtlasModel" "status" "I") (List.mem_of_getElem? (i := 2) rfl)) (fun _ h9 => h9) rfl (by decide +kernel) rfl rfl (Nat.le_of_ble_eq_true rfl) dB_3_3_27.1.2.1.2 (fun H locs hP hD hS => ?_)
  refine pd_K [ob12_0_ mo 0 0 t2 s3 s4 g5 g6 g7 g8 g9 g10 s11 g12 g13 g14 g15 g16 g17 g18 g19 g20 s21 g22 g23 g24 s25 s26 s27 s28 g29 g30 g31 g32 g33, az_ cy g15 4 f15, ai_ cy g16 4 f16, ai_ cy g17 4 f17, ai_ cy g18 24 f18, aj_ cy g19 120 f19] hP hD (fun hP hD => ?_)
  refine lv_aload_n hx hb dB_3_3_27.1.2.2.1 rfl (lv_at hl 0 rfl) ?_
  refine lv_iload_n hx hb dB_3_3_27.1.2.2.2 rfl (lv_at hl 1 rfl) ?_
  refine lv_iload_n hx hb dB_3_3_27.2.1.1.1 rfl (lv_at hl 2 rfl) ?_
  refine lv_iload_n hx hb dB_3_3_27.2.1.1.2 rfl (lv_at hl 3 rfl) ?_
  refine lv_iload hx hb dB_3_3_27.2.1.2.1 (lv_at hl 4 rfl) ?_
  refine ct_R hP hD [ob12_0_ mo 0 0 t2 s3 s4 g5 g6 g7 g8 g9 g10 s11 g12 g13 g14 g15 g16 g17 g18 g19 g20 s21 g22 g23 g24 s25 s26 s27 s28 g29 g30 g31 g32 g33, az_ cy g15 4 f15, ai_ cy g16 4 f16, ai_ cy g17 4 f17, ai_ cy g18 24 f18] [0, 1, 2, 3, 4] (by decide) rfl (fun hPc hDw => ?_)
  have hFc := va_free (wc := []) hD hS hA [] rfl
  refine va_calli (va_runV (As := [.int a1, .int a2, .int a3, .int a4]) (rest := []) ⟨hx, hb, hml, hown, hts⟩ (c_X12_wrong2 l D cy H.size mo g5 g6 g7 g8 g9 g10 g12 g13 g14 g15 g16 g17 g18 g19 g20 g22 g23 g24 g29 g30 g31 g32 g33 (0 : Int32) (0 : Int32) s3 s4 s11 s21 s25 s26 s27 s28 t2 f15 f16 f17 f18 a1 a2 a3 a4 (by first | with_reducible assumption | assumption | omega) (by first | with_reducible assumption | assumption | omega) (by first | with_reducible assumption | assumption | omega)) (cwV 4 hts gX12_put_X12_wrong rfl rfl rfl ⟨rfl, hd_X12_wrong⟩ ⟨Nat.le_of_ble_eq_true rfl, Nat.le_of_ble_eq_true rfl⟩) ⟨bl_, va_recvX hK.1 hP (ci := 12) (q0 := 0) rfl rfl, fun U hU hW => ⟨rfl, by rw [hU], by rw [hU]; exact hPc, kk_mv hW hK, hDw⟩⟩ rfl rfl hl.1 rfl (lv_room (Nat.le_of_ble_eq_true rfl)) dB_3_3_27.2.1.2.2 ⟨Nat.le_of_ble_eq_true rfl, Nat.le_of_ble_eq_true rfl⟩) hS (fun q _ h => hFc q h) hFc (fun r_1 u t H locs ht hvm hw hB hz1 hk1 hS => ?_)
  have hP : va_P D vwCl _ H := ro_keep hP hk1
  obtain ⟨f0_r_1, f1_r_1⟩ := hw
  have hw0_ := f0_r_1
  have hw1_ := f1_r_1
  refine lv_istore (lv' := [(7, .int r_1), (0, .ref mo), (1, .int a1), (2, .int a2), (3, .int a3), (4, .int a4), (5, .long a5)]) hx hb dB_3_3_27.2.2.1.1 hl (by decide) rfl (fun ls hl => ?_)
  refine lv_iload hx hb dB_3_3_27.2.2.1.2 (lv_at hl 0 rfl) ?_
  refine lv_if_ge (tgt := 33) hx hb dB_3_3_27.2.2.2.1 (by decide) (fun c_2 => ?_) (fun c_2 => ?_)
  · have t_2 : (0 : Int32).toInt ≤ r_1.toInt := Int32.le_iff_toInt_le.mp c_2
    refine lv_aload_n hx hb dB_3_3_28.1.1.2.2 rfl (lv_at hl 1 rfl) ?_
    refine va_get (ci := 12) (v := .ref g19) (C := RX12) (T := TX12) (N := 34) hx hb hts (fun _ h => List.mem_cons_of_mem _ (List.mem_append_right _ h)) hown hK.1 hP 0 rfl rfl 19 (by decide) (hts (.fieldLink RX12 50 "CutAtlasModel" "cells" "[J") (List.mem_of_getElem? (i := 3) rfl)) (fun _ h9 => h9) rfl dB_3_3_28.1.2.1.1 ?_
    refine lv_bipush (v := 30) hx hb dB_3_3_28.1.2.1.2 (by decide) ?_
    refine lv_iload_n hx hb dB_3_3_28.1.2.2.1 rfl (lv_at hl 2 rfl) ?_
    refine lv_imul hx hb dB_3_3_28.1.2.2.2 ?_
    refine lv_topi (fun y_3 ey_3 => ?_)
    have ty_3 : y_3.toInt = 30 * a1.toInt := by rw [ey_3]; exact mulC (by decide) (by omega) (by omega)
    refine lv_iconst (v := 5) hx hb dB_3_3_28.2.1.1.1 (by decide) ?_
    refine lv_iload_n hx hb dB_3_3_28.2.1.1.2 rfl (lv_at hl 4 rfl) ?_
    refine lv_imul hx hb dB_3_3_28.2.1.2.1 ?_
    refine lv_topi (fun y_4 ey_4 => ?_)
    have ty_4 : y_4.toInt = 5 * a3.toInt := by rw [ey_4]; exact mulC (by decide) (by omega) (by omega)
    refine lv_iadd hx hb dB_3_3_28.2.1.2.2 ?_
    refine lv_topi (fun y_5 ey_5 => ?_)
    have ty_5 : y_5.toInt = y_3.toInt + y_4.toInt := by rw [ey_5]; exact addI (by omega) (by omega)
    refine lv_iload hx hb dB_3_3_28.2.2.1.1 (lv_at hl 5 rfl) ?_
    refine lv_iadd hx hb dB_3_3_28.2.2.1.2 ?_
    refine lv_topi (fun y_6 ey_6 => ?_)
    have ty_6 : y_6.toInt = y_5.toInt + a4.toInt := by rw [ey_6]; exact addI (by omega) (by omega)
    have hix_ : y_6.toNatClampNeg = (30 * a1.toInt + 5 * a3.toInt + a4.toInt).toNat := ixn (by omega)
    refine lv_iload_n hx hb dB_3_3_28.2.2.2.1 rfl (lv_at hl 3 rfl) ?_
    refine lv_if_ne (tgt := 60) hx hb dB_3_3_28.2.2.2.2 (by decide) (fun c_7 => ?_) (fun c_7 => ?_)
    · have t_7 : ¬ a2.toInt = (0 : Int32).toInt := fun h => c_7 (Int32.toInt_inj.mp h)
      refine lv_iload_n hx hb dB_3_3_29.1.2.1.2 rfl (lv_at hl 3 rfl) ?_
      refine lv_iconst (v := 1) hx hb dB_3_3_29.1.2.2.1 (by decide) ?_
      refine lv_icmp_ne (tgt := 72) hx hb dB_3_3_29.1.2.2.2 (by decide) (fun c_8 => ?_) (fun c_8 => ?_)
      · have t_8 : ¬ a2.toInt = (1 : Int32).toInt := fun h => c_8 (Int32.toInt_inj.mp h)
        refine lv_lload hx hb dB_3_3_29.2.2.1.1 (lv_at hl 6 rfl) ?_
        have h_9 : vp_in y_6 120 := in_I (by first | with_reducible assumption | omega) (by omega)
        refine va_last hx hb hK.1 hP hD hS 5 1 rfl rfl (i := y_6) h_9 dB_3_3_29.2.2.1.2 (fun H locs hP hD hS => ?_)
        obtain ⟨f_10, ef_10⟩ : ∃ g : Nat → Int64, g = vp_updL f19 y_6.toNatClampNeg a5 := ⟨_, rfl⟩
        refine pd_K (D := D) (cl := vwCl) (H := H) (A := A) [ob12_0_ mo 0 0 t2 s3 s4 g5 g6 g7 g8 g9 g10 s11 g12 g13 g14 g15 g16 g17 g18 g19 g20 s21 g22 g23 g24 s25 s26 s27 s28 g29 g30 g31 g32 g33, az_ cy g15 4 f15, ai_ cy g16 4 f16, ai_ cy g17 4 f17, ai_ cy g18 24 f18, aj_ cy g19 120 f_10] (by rw [ef_10]; exact hP) (by rw [ef_10]; exact hD) (fun hP hD => ?_)
        refine lv_iconst (v := 1) hx hb dB_3_3_29.2.2.2.1 (by decide) ?_
        rw [hQ]
        exact W.iret (v := 1) hx hb hr (fun t ht hW => ⟨⟨1, (), rfl, (by first | (rw [if_pos (by omega)]; decide) | (rw [if_neg (by omega), f0__lit]; exact hw0_)), (0 : Int32), f_10, (by first | omega | (rw [hno_]; exact hw0_)), (by first | exact ⟨fun _ => rfl, fun h => absurd h (by first | omega | (have h9_ := congrArg Int32.toInt hno_; omega) | decide)⟩ | exact ⟨fun h => absurd (by first | omega | (have h9_ := congrArg Int32.toInt hno_; omega) | decide) h, fun _ => by first | (rw [ef_10, hix_, putV_0 (k := a2.toInt) (by assumption) (by omega)]; done) | (rw [ef_10, hix_, putV_1 (k := a2.toInt) (by omega)]; done) | (rw [ef_10, hix_, ← putV_2 (k := a2.toInt) (by omega) (by omega)]; done)⟩), by rw [ht]; exact hP, hD⟩, hS.F ht⟩) hS.2.2 dB_3_3_29.2.2.2.2
      · have t_8 : a2.toInt = (1 : Int32).toInt := congrArg Int32.toInt c_8
        refine lv_lload hx hb dB_3_3_29.2.1.1.1 (lv_at hl 6 rfl) ?_
        refine lv_l2i (v := a5.toInt32) hx hb dB_3_3_29.2.1.1.2 rfl ?_
        refine lv_i2l (v := (a5.toInt32).toInt64) hx hb dB_3_3_29.2.1.2.1 rfl ?_
        have q_68 : ((a5.toInt32).toInt64).toInt = (a5.toInt32).toInt := Int32.toInt_toInt64 (a5.toInt32)
        refine lv_goto (tgt := 74) hx hb dB_3_3_29.2.1.2.2 (by decide) ?_
        have h_12 : vp_in y_6 120 := in_I (by first | with_reducible assumption | omega) (by omega)
        refine va_last hx hb hK.1 hP hD hS 5 1 rfl rfl (i := y_6) h_12 dB_3_3_29.2.2.1.2 (fun H locs hP hD hS => ?_)
        obtain ⟨f_13, ef_13⟩ : ∃ g : Nat → Int64, g = vp_updL f19 y_6.toNatClampNeg ((a5.toInt32).toInt64) := ⟨_, rfl⟩
        refine pd_K (D := D) (cl := vwCl) (H := H) (A := A) [ob12_0_ mo 0 0 t2 s3 s4 g5 g6 g7 g8 g9 g10 s11 g12 g13 g14 g15 g16 g17 g18 g19 g20 s21 g22 g23 g24 s25 s26 s27 s28 g29 g30 g31 g32 g33, az_ cy g15 4 f15, ai_ cy g16 4 f16, ai_ cy g17 4 f17, ai_ cy g18 24 f18, aj_ cy g19 120 f_13] (by rw [ef_13]; exact hP) (by rw [ef_13]; exact hD) (fun hP hD => ?_)
        refine lv_iconst (v := 1) hx hb dB_3_3_29.2.2.2.1 (by decide) ?_
        rw [hQ]
        exact W.iret (v := 1) hx hb hr (fun t ht hW => ⟨⟨1, (), rfl, (by first | (rw [if_pos (by omega)]; decide) | (rw [if_neg (by omega), f0__lit]; exact hw0_)), (0 : Int32), f_13, (by first | omega | (rw [hno_]; exact hw0_)), (by first | exact ⟨fun _ => rfl, fun h => absurd h (by first | omega | (have h9_ := congrArg Int32.toInt hno_; omega) | decide)⟩ | exact ⟨fun h => absurd (by first | omega | (have h9_ := congrArg Int32.toInt hno_; omega) | decide) h, fun _ => by first | (rw [ef_13, hix_, putV_0 (k := a2.toInt) (by assumption) (by omega)]; done) | (rw [ef_13, hix_, putV_1 (k := a2.toInt) (by omega)]; done) | (rw [ef_13, hix_, ← putV_2 (k := a2.toInt) (by omega) (by omega)]; done)⟩), by rw [ht]; exact hP, hD⟩, hS.F ht⟩) hS.2.2 dB_3_3_29.2.2.2.2
    · have t_7 : a2.toInt = (0 : Int32).toInt := congrArg Int32.toInt c_7
      refine lv_lload hx hb dB_3_3_29.1.1.1.1 (lv_at hl 6 rfl) ?_
      refine lv_l2i (v := a5.toInt32) hx hb dB_3_3_29.1.1.1.2 rfl ?_
      refine lv_i2s (v := (a5.toInt32).toInt16.toInt32) hx hb dB_3_3_29.1.1.2.1 rfl ?_
      refine lv_topi (fun y_15 ey_15 => ?_)
      refine lv_i2l (v := y_15.toInt64) hx hb dB_3_3_29.1.1.2.2 rfl ?_
      have q_56 : (y_15.toInt64).toInt = y_15.toInt := Int32.toInt_toInt64 y_15
      refine lv_goto (tgt := 74) hx hb dB_3_3_29.1.2.1.1 (by decide) ?_
      have h_16 : vp_in y_6 120 := in_I (by first | with_reducible assumption | omega) (by omega)
      refine va_last hx hb hK.1 hP hD hS 5 1 rfl rfl (i := y_6) h_16 dB_3_3_29.2.2.1.2 (fun H locs hP hD hS => ?_)
      obtain ⟨f_17, ef_17⟩ : ∃ g : Nat → Int64, g = vp_updL f19 y_6.toNatClampNeg y_15.toInt64 := ⟨_, rfl⟩
      refine pd_K (D := D) (cl := vwCl) (H := H) (A := A) [ob12_0_ mo 0 0 t2 s3 s4 g5 g6 g7 g8 g9 g10 s11 g12 g13 g14 g15 g16 g17 g18 g19 g20 s21 g22 g23 g24 s25 s26 s27 s28 g29 g30 g31 g32 g33, az_ cy g15 4 f15, ai_ cy g16 4 f16, ai_ cy g17 4 f17, ai_ cy g18 24 f18, aj_ cy g19 120 f_17] (by rw [ef_17]; exact hP) (by rw [ef_17]; exact hD) (fun hP hD => ?_)
      refine lv_iconst (v := 1) hx hb dB_3_3_29.2.2.2.1 (by decide) ?_
      rw [hQ]
      exact W.iret (v := 1) hx hb hr (fun t ht hW => ⟨⟨1, (), rfl, (by first | (rw [if_pos (by omega)]; decide) | (rw [if_neg (by omega), f0__lit]; exact hw0_)), (0 : Int32), f_17, (by first | omega | (rw [hno_]; exact hw0_)), (by first | exact ⟨fun _ => rfl, fun h => absurd h (by first | omega | (have h9_ := congrArg Int32.toInt hno_; omega) | decide)⟩ | exact ⟨fun h => absurd (by first | omega | (have h9_ := congrArg Int32.toInt hno_; omega) | decide) h, fun _ => by first | (rw [ef_17, hix_, putV_0 (k := a2.toInt) (by assumption) (by omega)]; done) | (rw [ef_17, hix_, putV_1 (k := a2.toInt) (by omega)]; done) | (rw [ef_17, hix_, ← putV_2 (k := a2.toInt) (by omega) (by omega)]; done)⟩), by rw [ht]; exact hP, hD⟩, hS.F ht⟩) hS.2.2 dB_3_3_29.2.2.2.2
  · have t_2 : ¬ (0 : Int32).toInt ≤ r_1.toInt := fun h => c_2 (Int32.le_iff_toInt_le.mpr h)
    refine lv_aload_n hx hb dB_3_3_27.2.2.2.2 rfl (lv_at hl 1 rfl) ?_
    refine lv_iload hx hb dB_3_3_28.1.1.1.1 (lv_at hl 0 rfl) ?_
    refine ct_S hP hD hS hA [ob12_0_ mo 0 0 t2 s3 s4 g5 g6 g7 g8 g9 g10 s11 g12 g13 g14 g15 g16 g17 g18 g19 g20 s21 g22 g23 g24 s25 s26 s27 s28 g29 g30 g31 g32 g33] [0] (by decide) rfl (fun hPc hDw hFc hC_ => ?_)
    refine va_calli (va_runV (As := [.int r_1]) (rest := []) ⟨hx, hb, hml, hown, hts⟩ (c_X12_no2 l D cy H.size mo g5 g6 g7 g8 g9 g10 g12 g13 g14 g15 g16 g17 g18 g19 g20 g22 g23 g24 g29 g30 g31 g32 g33 (0 : Int32) (0 : Int32) s3 s4 s11 s21 s25 s26 s27 s28 t2 r_1) (cwV 1 hts gX12_put_X12_no rfl rfl rfl ⟨rfl, hd_X12_no⟩ ⟨Nat.le_of_ble_eq_true rfl, Nat.le_of_ble_eq_true rfl⟩) ⟨bl_, va_recvX hK.1 hP (ci := 12) (q0 := 0) rfl rfl, fun U hU hW => ⟨rfl, by rw [hU], by rw [hU]; exact hPc, kk_mv hW hK, hDw⟩⟩ rfl rfl hl.1 rfl (lv_room (Nat.le_of_ble_eq_true rfl)) dB_3_3_28.1.1.1.2 ⟨Nat.le_of_ble_eq_true rfl, Nat.le_of_ble_eq_true rfl⟩) hS (fun q _ h => hFc q h) hFc (fun r_18 u t H locs ht hvm hw hB hz1 hk1 hS => ?_)
    obtain ⟨n1_19, g_20, hP1, hD1⟩ := hB
    rw [ht] at hP1
    obtain ⟨hP, hD⟩ := va_join (wr := [az_ cy g15 4 f15, ai_ cy g16 4 f16, ai_ cy g17 4 f17, ai_ cy g18 24 f18, aj_ cy g19 120 f19]) (w1 := [ob12_0_ mo 0 n1_19 t2 s3 s4 g5 g6 g7 g8 g9 g10 s11 g12 g13 g14 g15 g16 g17 g18 g19 g20 s21 g22 g23 g24 s25 s26 s27 s28 g29 g30 g31 g32 g33]) hP hD [0] [1, 2, 3, 4, 5] hC_ rfl (by decide) (by decide) hk1 hFc hP1 hD1
    refine pd_S hP hD [ob12_0_ mo 0 n1_19 t2 s3 s4 g5 g6 g7 g8 g9 g10 s11 g12 g13 g14 g15 g16 g17 g18 g19 g20 s21 g22 g23 g24 s25 s26 s27 s28 g29 g30 g31 g32 g33, az_ cy g15 4 f15, ai_ cy g16 4 f16, ai_ cy g17 4 f17, ai_ cy g18 24 f18, aj_ cy g19 120 f19] [5, 0, 1, 2, 3, 4] (by decide) rfl (fun hP hD => ?_)
    have f0_r_18 := hw
    have hno_ := g_20
    rw [hQ]
    exact W.iret (v := r_18) hx hb hr (fun t ht hW => ⟨⟨r_18, (), rfl, (by first | (rw [if_pos (by omega)]; decide) | (rw [if_neg (by omega), f0_r_18]; exact hw0_)), n1_19, f19, (by first | omega | (rw [hno_]; exact hw0_)), (by first | exact ⟨fun _ => rfl, fun h => absurd h (by first | omega | (have h9_ := congrArg Int32.toInt hno_; omega) | decide)⟩ | exact ⟨fun h => absurd (by first | omega | (have h9_ := congrArg Int32.toInt hno_; omega) | decide) h, fun _ => by first | (rw [ef19, hix_, putV_0 (k := a2.toInt) (by assumption) (by omega)]; done) | (rw [ef19, hix_, putV_1 (k := a2.toInt) (by omega)]; done) | (rw [ef19, hix_, ← putV_2 (k := a2.toInt) (by omega) (by omega)]; done)⟩), by rw [ht]; exact hP, hD⟩, hS.F ht⟩) hS.2.2 dB_3_3_28.1.1.2.1

set_option maxHeartbeats 4000000 in
set_option maxRecDepth 100000 in
theorem c_X12_item2 (l : Launch) (D : va_G) (cy : Nat → ClassId) (sz : Nat) (mo : Nat) (g5 : Nat) (g6 : Nat) (g7 : Nat) (g8 : Nat) (g9 : Nat) (g10 : Nat) (g12 : Nat) (g13 : Nat) (g14 : Nat) (g15 : Nat) (g16 : Nat) (g17 : Nat) (g18 : Nat) (g19 : Nat) (g20 : Nat) (g22 : Nat) (g23 : Nat) (g24 : Nat) (g29 : Nat) (g30 : Nat) (g31 : Nat) (g32 : Nat) (g33 : Nat) (s0 : Int32) (s1 : Int32) (s3 : Int32) (s4 : Int32) (s11 : Int32) (s21 : Int32) (s25 : Int32) (s26 : Int32) (s27 : Int32) (s28 : Int32) (t2 : Int64) (f15 : Nat → Int32) (f16 : Nat → Int32) (f17 : Nat → Int32) (f18 : Nat → Int32) (f19 : Nat → Int64) (a1 : Int32) (a2 : Int32) (a3 : Int32) (a4 : Int32) (hlk : lok f18 24) (r_f17 : rng f17 4 (0) (6)) (r_f18 : rng f18 24 (-9) (5)) : Met l yX12_item wsX12_item ({ frames := 2, cells := 0, slots := 0, locals := 50 }) (va_Pc [.ref mo, .int a1, .int a2, .int a3, .int a4] (fun U => U.heap.size = sz ∧ va_P D vwCl [ob12_0_ mo s0 s1 t2 s3 s4 g5 g6 g7 g8 g9 g10 s11 g12 g13 g14 g15 g16 g17 g18 g19 g20 s21 g22 g23 g24 s25 s26 s27 s28 g29 g30 g31 g32 g33, az_ cy g15 4 f15, ai_ cy g16 4 f16, ai_ cy g17 4 f17, ai_ cy g18 24 f18, aj_ cy g19 120 f19] U.heap ∧ kk_ D cy U ∧ va_D (fun _ => True) [ob12_0_ mo s0 s1 t2 s3 s4 g5 g6 g7 g8 g9 g10 s11 g12 g13 g14 g15 g16 g17 g18 g19 g20 s21 g22 g23 g24 s25 s26 s27 s28 g29 g30 g31 g32 g33, az_ cy g15 4 f15, ai_ cy g16 4 f16, ai_ cy g17 4 f17, ai_ cy g18 24 f18, aj_ cy g19 120 f19])) (va_Ql (fun (r : Int64) (_ : Unit) => ((wrgI a1.toInt a2.toInt a3.toInt a4.toInt (f15 a1.toNatClampNeg).toInt (f16 a1.toNatClampNeg).toInt (f17 a1.toNatClampNeg).toInt (f18 (6 * a1.toInt + a3.toInt).toNat).toInt ≠ 0 → r = 0) ∧ (wrgI a1.toInt a2.toInt a3.toInt a4.toInt (f15 a1.toNatClampNeg).toInt (f16 a1.toNatClampNeg).toInt (f17 a1.toNatClampNeg).toInt (f18 (6 * a1.toInt + a3.toInt).toNat).toInt = 0 → r = f19 (30 * a1.toInt + 5 * a3.toInt + a4.toInt).toNat))) (fun (_ : Unit) (t : State) => ∃ (n1 : Int32), (n1.toInt = wrgI a1.toInt a2.toInt a3.toInt a4.toInt (f15 a1.toNatClampNeg).toInt (f16 a1.toNatClampNeg).toInt (f17 a1.toNatClampNeg).toInt (f18 (6 * a1.toInt + a3.toInt).toNat).toInt) ∧ va_P D vwCl [ob12_0_ mo 0 n1 t2 s3 s4 g5 g6 g7 g8 g9 g10 s11 g12 g13 g14 g15 g16 g17 g18 g19 g20 s21 g22 g23 g24 s25 s26 s27 s28 g29 g30 g31 g32 g33, az_ cy g15 4 f15, ai_ cy g16 4 f16, ai_ cy g17 4 f17, ai_ cy g18 24 f18, aj_ cy g19 120 f19] t.heap ∧ va_D (va_A [ob12_0_ mo s0 s1 t2 s3 s4 g5 g6 g7 g8 g9 g10 s11 g12 g13 g14 g15 g16 g17 g18 g19 g20 s21 g22 g23 g24 s25 s26 s27 s28 g29 g30 g31 g32 g33, az_ cy g15 4 f15, ai_ cy g16 4 f16, ai_ cy g17 4 f17, ai_ cy g18 24 f18, aj_ cy g19 120 f19] sz) [ob12_0_ mo 0 n1 t2 s3 s4 g5 g6 g7 g8 g9 g10 s11 g12 g13 g14 g15 g16 g17 g18 g19 g20 s21 g22 g23 g24 s25 s26 s27 s28 g29 g30 g31 g32 g33, az_ cy g15 4 f15, ai_ cy g16 4 f16, ai_ cy g17 4 f17, ai_ cy g18 24 f18, aj_ cy g19 120 f19]) (va_A [ob12_0_ mo s0 s1 t2 s3 s4 g5 g6 g7 g8 g9 g10 s11 g12 g13 g14 g15 g16 g17 g18 g19 g20 s21 g22 g23 g24 s25 s26 s27 s28 g29 g30 g31 g32 g33, az_ cy g15 4 f15, ai_ cy g16 4 f16, ai_ cy g17 4 f17, ai_ cy g18 24 f18, aj_ cy g19 120 f19] sz)) 0 0 (va_A [ob12_0_ mo s0 s1 t2 s3 s4 g5 g6 g7 g8 g9 g10 s11 g12 g13 g14 g15 g16 g17 g18 g19 g20 s21 g22 g23 g24 s25 s26 s27 s28 g29 g30 g31 g32 g33, az_ cy g15 4 f15, ai_ cy g16 4 f16, ai_ cy g17 4 f17, ai_ cy g18 24 f18, aj_ cy g19 120 f19] sz) := by
  refine ofQ (cc := cX12_item) (maxL := 5) (ret := (some .long)) (by decide) rfl ?_
  intro p e s m args below meth c s₁ Q hQ B hml hv
  obtain ⟨rfl, hsz, hP, hK, hD0⟩ := hv
  have hx := B.exec
  have hb := B.bytes
  have hr := B.returns
  have hts := atoms_spec (ws := wsX12_item) B.pre
  have hown : s.vm.findClass RX12 = some m.cls := by have h_ := findClass_of_methodNamed B.named; exact h_
  have hlocks := B.notSynchronized
  subst hsz
  have hD := hD0.self (sz := s.heap.size)
  generalize hAe : va_A [ob12_0_ mo s0 s1 t2 s3 s4 g5 g6 g7 g8 g9 g10 s11 g12 g13 g14 g15 g16 g17 g18 g19 g20 s21 g22 g23 g24 s25 s26 s27 s28 g29 g30 g31 g32 g33, az_ cy g15 4 f15, ai_ cy g16 4 f16, ai_ cy g17 4 f17, ai_ cy g18 24 f18, aj_ cy g19 120 f19] s.heap.size = A at hD hQ
  have hA : ∀ q : Nat, s.heap.size ≤ q → A q := fun q h => by rw [← hAe]; exact Or.inr h
  have hS : va_S A s.heap s.heap [] := va_S.rf
  have hl := lv_entry ([.ref mo, .int a1, .int a2, .int a3, .int a4]) (n := 5) (Nat.le_of_ble_eq_true rfl)
  rw [lg_entry_eq]
  generalize (lg_sl ([.ref mo, .int a1, .int a2, .int a3, .int a4]) ++ List.replicate (5 - (lg_sl ([.ref mo, .int a1, .int a2, .int a3, .int a4])).length) Slot.unset).toArray = ls at hl ⊢
  have hl : lv_has ls 5 [(0, .ref mo), (1, .int a1), (2, .int a2), (3, .int a3), (4, .int a4)] := hl
  have z0 : (0 : Int32).toInt = 0 := by decide
  have zl0 : (0 : Int64).toInt = 0 := by decide
  have z5 : (5 : Int32).toInt = 5 := by decide
  have z30 : (30 : Int32).toInt = 30 := by decide
  refine lv_aload_n hx hb dB_3_3_20.1.1.1.1 rfl (lv_at hl 0 rfl) ?_
  refine lv_iconst (v := 0) hx hb dB_3_3_20.1.1.1.2 (by decide) ?_
  refine va_put (ci := 12) (v := .int 0) (ty := .int) (C := RX12) (T := TX12) (N := 34) hx hb hts (fun _ h => List.mem_cons_of_mem _ (List.mem_append_right _ h)) tyX12 tyX12_ok nmX12 hown hK.1 hP hD hS 0 rfl rfl 0 (by decide) (hts (.fieldLink RX12 85 "CutAtlasModel" "thrown" "I") (List.mem_of_getElem? (i := 1) rfl)) (fun _ h9 => h9) rfl (by decide +kernel) rfl rfl (Nat.le_of_ble_eq_true rfl) dB_3_3_20.1.1.2.1 (fun H locs hP hD hS => ?_)
  refine pd_K [ob12_0_ mo 0 s1 t2 s3 s4 g5 g6 g7 g8 g9 g10 s11 g12 g13 g14 g15 g16 g17 g18 g19 g20 s21 g22 g23 g24 s25 s26 s27 s28 g29 g30 g31 g32 g33, az_ cy g15 4 f15, ai_ cy g16 4 f16, ai_ cy g17 4 f17, ai_ cy g18 24 f18, aj_ cy g19 120 f19] hP hD (fun hP hD => ?_)
  refine lv_aload_n hx hb dB_3_3_20.1.1.2.2 rfl (lv_at hl 0 rfl) ?_
  refine lv_aload_n hx hb dB_3_3_20.1.2.1.1 rfl (lv_at hl 0 rfl) ?_
  refine lv_iload_n hx hb dB_3_3_20.1.2.1.2 rfl (lv_at hl 1 rfl) ?_
  refine lv_iload_n hx hb dB_3_3_20.1.2.2.1 rfl (lv_at hl 2 rfl) ?_
  refine lv_iload_n hx hb dB_3_3_20.1.2.2.2 rfl (lv_at hl 3 rfl) ?_
  refine lv_iload hx hb dB_3_3_20.2.1.1.1 (lv_at hl 4 rfl) ?_
  refine ct_R hP hD [ob12_0_ mo 0 s1 t2 s3 s4 g5 g6 g7 g8 g9 g10 s11 g12 g13 g14 g15 g16 g17 g18 g19 g20 s21 g22 g23 g24 s25 s26 s27 s28 g29 g30 g31 g32 g33, az_ cy g15 4 f15, ai_ cy g16 4 f16, ai_ cy g17 4 f17, ai_ cy g18 24 f18] [0, 1, 2, 3, 4] (by decide) rfl (fun hPc hDw => ?_)
  have hFc := va_free (wc := []) hD hS hA [] rfl
  refine va_calli (va_runV (As := [.int a1, .int a2, .int a3, .int a4]) (rest := [.ref mo]) ⟨hx, hb, hml, hown, hts⟩ (c_X12_wrong2 l D cy H.size mo g5 g6 g7 g8 g9 g10 g12 g13 g14 g15 g16 g17 g18 g19 g20 g22 g23 g24 g29 g30 g31 g32 g33 (0 : Int32) s1 s3 s4 s11 s21 s25 s26 s27 s28 t2 f15 f16 f17 f18 a1 a2 a3 a4 (by first | with_reducible assumption | assumption | omega) (by first | with_reducible assumption | assumption | omega) (by first | with_reducible assumption | assumption | omega)) (cwV 4 hts gX12_item_X12_wrong rfl rfl rfl ⟨rfl, hd_X12_wrong⟩ ⟨Nat.le_of_ble_eq_true rfl, Nat.le_of_ble_eq_true rfl⟩) ⟨bl_, va_recvX hK.1 hP (ci := 12) (q0 := 0) rfl rfl, fun U hU hW => ⟨rfl, by rw [hU], by rw [hU]; exact hPc, kk_mv hW hK, hDw⟩⟩ rfl rfl hl.1 rfl (lv_room (Nat.le_of_ble_eq_true rfl)) dB_3_3_20.2.1.1.2 ⟨Nat.le_of_ble_eq_true rfl, Nat.le_of_ble_eq_true rfl⟩) hS (fun q _ h => hFc q h) hFc (fun r_1 u t H locs ht hvm hw hB hz1 hk1 hS => ?_)
  have hP : va_P D vwCl _ H := ro_keep hP hk1
  obtain ⟨f0_r_1, f1_r_1⟩ := hw
  have hw0_ := f0_r_1
  have hw1_ := f1_r_1
  refine va_put (ci := 12) (v := .int r_1) (ty := .int) (C := RX12) (T := TX12) (N := 34) hx hb hts (fun _ h => List.mem_cons_of_mem _ (List.mem_append_right _ h)) tyX12 tyX12_ok nmX12 hown hK.1 hP hD hS 0 rfl rfl 1 (by decide) (hts (.fieldLink RX12 240 "CutAtlasModel" "status" "I") (List.mem_of_getElem? (i := 2) rfl)) (fun _ h9 => h9) rfl (by decide +kernel) rfl rfl (Nat.le_of_ble_eq_true rfl) dB_3_3_20.2.1.2.1 (fun H locs hP hD hS => ?_)
  refine pd_K [ob12_0_ mo 0 r_1 t2 s3 s4 g5 g6 g7 g8 g9 g10 s11 g12 g13 g14 g15 g16 g17 g18 g19 g20 s21 g22 g23 g24 s25 s26 s27 s28 g29 g30 g31 g32 g33, az_ cy g15 4 f15, ai_ cy g16 4 f16, ai_ cy g17 4 f17, ai_ cy g18 24 f18, aj_ cy g19 120 f19] hP hD (fun hP hD => ?_)
  refine lv_aload_n hx hb dB_3_3_20.2.1.2.2 rfl (lv_at hl 0 rfl) ?_
  refine va_get (ci := 12) (v := .int r_1) (C := RX12) (T := TX12) (N := 34) hx hb hts (fun _ h => List.mem_cons_of_mem _ (List.mem_append_right _ h)) hown hK.1 hP 0 rfl rfl 1 (by decide) (hts (.fieldLink RX12 240 "CutAtlasModel" "status" "I") (List.mem_of_getElem? (i := 2) rfl)) (fun _ h9 => h9) rfl dB_3_3_20.2.2.1.1 ?_
  refine lv_if_ge (tgt := 29) hx hb dB_3_3_20.2.2.1.2 (by decide) (fun c_2 => ?_) (fun c_2 => ?_)
  · have t_2 : (0 : Int32).toInt ≤ r_1.toInt := Int32.le_iff_toInt_le.mp c_2
    refine lv_aload_n hx hb dB_3_3_21.1.1.1 rfl (lv_at hl 0 rfl) ?_
    refine va_get (ci := 12) (v := .ref g19) (C := RX12) (T := TX12) (N := 34) hx hb hts (fun _ h => List.mem_cons_of_mem _ (List.mem_append_right _ h)) hown hK.1 hP 0 rfl rfl 19 (by decide) (hts (.fieldLink RX12 50 "CutAtlasModel" "cells" "[J") (List.mem_of_getElem? (i := 3) rfl)) (fun _ h9 => h9) rfl dB_3_3_21.1.1.2.1 ?_
    refine lv_bipush (v := 30) hx hb dB_3_3_21.1.1.2.2 (by decide) ?_
    refine lv_iload_n hx hb dB_3_3_21.1.2.1 rfl (lv_at hl 1 rfl) ?_
    refine lv_imul hx hb dB_3_3_21.1.2.2.1 ?_
    refine lv_topi (fun y_3 ey_3 => ?_)
    have ty_3 : y_3.toInt = 30 * a1.toInt := by rw [ey_3]; exact mulC (by decide) (by omega) (by omega)
    refine lv_iconst (v := 5) hx hb dB_3_3_21.1.2.2.2 (by decide) ?_
    refine lv_iload_n hx hb dB_3_3_21.2.1.1 rfl (lv_at hl 3 rfl) ?_
    refine lv_imul hx hb dB_3_3_21.2.1.2.1 ?_
    refine lv_topi (fun y_4 ey_4 => ?_)
    have ty_4 : y_4.toInt = 5 * a3.toInt := by rw [ey_4]; exact mulC (by decide) (by omega) (by omega)
    refine lv_iadd hx hb dB_3_3_21.2.1.2.2 ?_
    refine lv_topi (fun y_5 ey_5 => ?_)
    have ty_5 : y_5.toInt = y_3.toInt + y_4.toInt := by rw [ey_5]; exact addI (by omega) (by omega)
    refine lv_iload hx hb dB_3_3_21.2.2.1.1 (lv_at hl 4 rfl) ?_
    refine lv_iadd hx hb dB_3_3_21.2.2.1.2 ?_
    refine lv_topi (fun y_6 ey_6 => ?_)
    have ty_6 : y_6.toInt = y_5.toInt + a4.toInt := by rw [ey_6]; exact addI (by omega) (by omega)
    have hix_ : y_6.toNatClampNeg = (30 * a1.toInt + 5 * a3.toInt + a4.toInt).toNat := ixn (by omega)
    have h_7 : vp_in y_6 120 := in_I (by first | with_reducible assumption | omega) (by omega)
    refine va_lald hx hb hK.1 hP 5 1 rfl rfl (i := y_6) h_7 dB_3_3_21.2.2.2.1 ?_
    refine lv_topl (fun y_8 ey_8 => ?_)
    rw [hQ]
    exact W.lret (v := y_8) hx hb hr (fun t ht hW => ⟨⟨y_8, (), rfl, (by first | exact ⟨fun _ => rfl, fun h => absurd h (by omega)⟩ | exact ⟨fun h => absurd (by omega) h, fun _ => by rw [ey_8, hix_]⟩), r_1, (by assumption), by rw [ht]; exact hP, hD⟩, hS.F ht⟩) hS.2.2 dB_3_3_21.2.2.2.2
  · have t_2 : ¬ (0 : Int32).toInt ≤ r_1.toInt := fun h => c_2 (Int32.le_iff_toInt_le.mpr h)
    refine lv_lconst (v := 0) hx hb dB_3_3_20.2.2.2.1 (by decide) ?_
    refine lv_goto (tgt := 45) hx hb dB_3_3_20.2.2.2.2 (by decide) ?_
    rw [hQ]
    exact W.lret (v := 0) hx hb hr (fun t ht hW => ⟨⟨0, (), rfl, (by first | exact ⟨fun _ => rfl, fun h => absurd h (by omega)⟩ | exact ⟨fun h => absurd (by omega) h, fun _ => by rw [e_lit, hix_]⟩), r_1, (by assumption), by rw [ht]; exact hP, hD⟩, hS.F ht⟩) hS.2.2 dB_3_3_21.2.2.2.2
end

section
set_option maxHeartbeats 4000000 in
set_option maxRecDepth 100000 in
theorem c_X12_copy2 (l : Launch) (D : va_G) (cy : Nat → ClassId) (sz : Nat) (mo : Nat) (g5 : Nat) (g6 : Nat) (g7 : Nat) (g8 : Nat) (g9 : Nat) (g10 : Nat) (g12 : Nat) (g13 : Nat) (g14 : Nat) (g15 : Nat) (g16 : Nat) (g17 : Nat) (g18 : Nat) (g19 : Nat) (g20 : Nat) (g22 : Nat) (g23 : Nat) (g24 : Nat) (g29 : Nat) (g30 : Nat) (g31 : Nat) (g32 : Nat) (g33 : Nat) (s0 : Int32) (s1 : Int32) (s3 : Int32) (s4 : Int32) (s11 : Int32) (s21 : Int32) (s25 : Int32) (s26 : Int32) (s27 : Int32) (s28 : Int32) (t2 : Int64) (f15 : Nat → Int32) (f17 : Nat → Int32) (f18 : Nat → Int32) (f19 : Nat → Int64) (f20 : Nat → Int64) (a1 : Int32) (a2 : Int32) (a3 : Int32) (a4 : Int32) (a5 : Int32) (a6 : Int32) (hlk : lok f18 24) (r_f17 : rng f17 4 (0) (6)) (r_f18 : rng f18 24 (-9) (5)) : Met l yX12_copy wsX12_copy ({ frames := 1, cells := 0, slots := 0, locals := 25 }) (va_Pc [.ref mo, .int a1, .int a2, .int a3, .int a4, .int a5, .int a6] (fun U => U.heap.size = sz ∧ va_P D vwCl [ob12_0_ mo s0 s1 t2 s3 s4 g5 g6 g7 g8 g9 g10 s11 g12 g13 g14 g15 g16 g17 g18 g19 g20 s21 g22 g23 g24 s25 s26 s27 s28 g29 g30 g31 g32 g33, az_ cy g15 4 f15, ai_ cy g17 4 f17, ai_ cy g18 24 f18, aj_ cy g19 120 f19, aj_ cy g20 5 f20] U.heap ∧ kk_ D cy U ∧ va_D (fun _ => True) [ob12_0_ mo s0 s1 t2 s3 s4 g5 g6 g7 g8 g9 g10 s11 g12 g13 g14 g15 g16 g17 g18 g19 g20 s21 g22 g23 g24 s25 s26 s27 s28 g29 g30 g31 g32 g33, az_ cy g15 4 f15, ai_ cy g17 4 f17, ai_ cy g18 24 f18, aj_ cy g19 120 f19, aj_ cy g20 5 f20])) (va_Qi (fun (r : Int32) (_ : Unit) => (r.toInt = if cpyI a1.toInt a2.toInt a3.toInt a4.toInt a5.toInt a6.toInt (f15 a1.toNatClampNeg).toInt (f17 a1.toNatClampNeg).toInt (f18 (6 * a1.toInt + a2.toInt).toNat).toInt (f18 (6 * a1.toInt + a4.toInt).toNat).toInt = 0 then a6.toInt else cpyI a1.toInt a2.toInt a3.toInt a4.toInt a5.toInt a6.toInt (f15 a1.toNatClampNeg).toInt (f17 a1.toNatClampNeg).toInt (f18 (6 * a1.toInt + a2.toInt).toNat).toInt (f18 (6 * a1.toInt + a4.toInt).toNat).toInt)) (fun (_ : Unit) (t : State) => ∃ (n1 : Int32), ∃ (e19 : Nat → Int64), ∃ (e20 : Nat → Int64), (n1.toInt = cpyI a1.toInt a2.toInt a3.toInt a4.toInt a5.toInt a6.toInt (f15 a1.toNatClampNeg).toInt (f17 a1.toNatClampNeg).toInt (f18 (6 * a1.toInt + a2.toInt).toNat).toInt (f18 (6 * a1.toInt + a4.toInt).toNat).toInt) ∧ ((n1.toInt ≠ 0 → e19 = f19) ∧ (n1.toInt = 0 → ∀ q : Nat, e19 q = if 30 * a1.toInt + 5 * a4.toInt + a5.toInt ≤ (q : Int) ∧ (q : Int) < 30 * a1.toInt + 5 * a4.toInt + a5.toInt + a6.toInt then f19 (30 * a1.toInt + 5 * a2.toInt + a3.toInt + ((q : Int) - (30 * a1.toInt + 5 * a4.toInt + a5.toInt))).toNat else f19 q)) ∧ va_P D vwCl [ob12_0_ mo 0 n1 t2 s3 s4 g5 g6 g7 g8 g9 g10 s11 g12 g13 g14 g15 g16 g17 g18 g19 g20 s21 g22 g23 g24 s25 s26 s27 s28 g29 g30 g31 g32 g33, az_ cy g15 4 f15, ai_ cy g17 4 f17, ai_ cy g18 24 f18, aj_ cy g19 120 e19, aj_ cy g20 5 e20] t.heap ∧ va_D (va_A [ob12_0_ mo s0 s1 t2 s3 s4 g5 g6 g7 g8 g9 g10 s11 g12 g13 g14 g15 g16 g17 g18 g19 g20 s21 g22 g23 g24 s25 s26 s27 s28 g29 g30 g31 g32 g33, az_ cy g15 4 f15, ai_ cy g17 4 f17, ai_ cy g18 24 f18, aj_ cy g19 120 f19, aj_ cy g20 5 f20] sz) [ob12_0_ mo 0 n1 t2 s3 s4 g5 g6 g7 g8 g9 g10 s11 g12 g13 g14 g15 g16 g17 g18 g19 g20 s21 g22 g23 g24 s25 s26 s27 s28 g29 g30 g31 g32 g33, az_ cy g15 4 f15, ai_ cy g17 4 f17, ai_ cy g18 24 f18, aj_ cy g19 120 e19, aj_ cy g20 5 e20]) (va_A [ob12_0_ mo s0 s1 t2 s3 s4 g5 g6 g7 g8 g9 g10 s11 g12 g13 g14 g15 g16 g17 g18 g19 g20 s21 g22 g23 g24 s25 s26 s27 s28 g29 g30 g31 g32 g33, az_ cy g15 4 f15, ai_ cy g17 4 f17, ai_ cy g18 24 f18, aj_ cy g19 120 f19, aj_ cy g20 5 f20] sz)) 0 0 (va_A [ob12_0_ mo s0 s1 t2 s3 s4 g5 g6 g7 g8 g9 g10 s11 g12 g13 g14 g15 g16 g17 g18 g19 g20 s21 g22 g23 g24 s25 s26 s27 s28 g29 g30 g31 g32 g33, az_ cy g15 4 f15, ai_ cy g17 4 f17, ai_ cy g18 24 f18, aj_ cy g19 120 f19, aj_ cy g20 5 f20] sz) := by
  refine ofQ (cc := cX12_copy) (maxL := 10) (ret := (some .int)) (by decide) rfl ?_
  intro p e s m args below meth c s₁ Q hQ B hml hv
  obtain ⟨rfl, hsz, hP, hK, hD0⟩ := hv
  have hx := B.exec
  have hb := B.bytes
  have hr := B.returns
  have hts := atoms_spec (ws := wsX12_copy) B.pre
  have hown : s.vm.findClass RX12 = some m.cls := by have h_ := findClass_of_methodNamed B.named; exact h_
  have hlocks := B.notSynchronized
  subst hsz
  have hD := hD0.self (sz := s.heap.size)
  generalize hAe : va_A [ob12_0_ mo s0 s1 t2 s3 s4 g5 g6 g7 g8 g9 g10 s11 g12 g13 g14 g15 g16 g17 g18 g19 g20 s21 g22 g23 g24 s25 s26 s27 s28 g29 g30 g31 g32 g33, az_ cy g15 4 f15, ai_ cy g17 4 f17, ai_ cy g18 24 f18, aj_ cy g19 120 f19, aj_ cy g20 5 f20] s.heap.size = A at hD hQ
  have hA : ∀ q : Nat, s.heap.size ≤ q → A q := fun q h => by rw [← hAe]; exact Or.inr h
  have hS : va_S A s.heap s.heap [] := va_S.rf
  have hl := lv_entry ([.ref mo, .int a1, .int a2, .int a3, .int a4, .int a5, .int a6]) (n := 10) (Nat.le_of_ble_eq_true rfl)
  rw [lg_entry_eq]
  generalize (lg_sl ([.ref mo, .int a1, .int a2, .int a3, .int a4, .int a5, .int a6]) ++ List.replicate (10 - (lg_sl ([.ref mo, .int a1, .int a2, .int a3, .int a4, .int a5, .int a6])).length) Slot.unset).toArray = ls at hl ⊢
  have hl : lv_has ls 10 [(0, .ref mo), (1, .int a1), (2, .int a2), (3, .int a3), (4, .int a4), (5, .int a5), (6, .int a6)] := hl
  have zm12 : ((-12) : Int32).toInt = -12 := by decide
  have zm11 : ((-11) : Int32).toInt = -11 := by decide
  have zm9 : ((-9) : Int32).toInt = -9 := by decide
  have zm1 : ((-1) : Int32).toInt = -1 := by decide
  have z0 : (0 : Int32).toInt = 0 := by decide
  have zl0 : (0 : Int64).toInt = 0 := by decide
  have z1 : (1 : Int32).toInt = 1 := by decide
  have zl3 : (3 : Int64).toInt = 3 := by decide
  have z5 : (5 : Int32).toInt = 5 := by decide
  have z6 : (6 : Int32).toInt = 6 := by decide
  have z30 : (30 : Int32).toInt = 30 := by decide
  have zq1 : (1 : Int32).toInt = 1 := by decide
  refine lv_aload_n hx hb dB_3_3_6.1.1.1.1 rfl (lv_at hl 0 rfl) ?_
  refine lv_iconst (v := 0) hx hb dB_3_3_6.1.1.1.2 (by decide) ?_
  refine va_put (ci := 12) (v := .int 0) (ty := .int) (C := RX12) (T := TX12) (N := 34) hx hb hts (fun _ h => List.mem_cons_of_mem _ (List.mem_append_right _ h)) tyX12 tyX12_ok nmX12 hown hK.1 hP hD hS 0 rfl rfl 0 (by decide) (hts (.fieldLink RX12 85 "CutAtlasModel" "thrown" "I") (List.mem_of_getElem? (i := 1) rfl)) (fun _ h9 => h9) rfl (by decide +kernel) rfl rfl (Nat.le_of_ble_eq_true rfl) dB_3_3_6.1.1.2.1 (fun H locs hP hD hS => ?_)
  refine pd_K [ob12_0_ mo 0 s1 t2 s3 s4 g5 g6 g7 g8 g9 g10 s11 g12 g13 g14 g15 g16 g17 g18 g19 g20 s21 g22 g23 g24 s25 s26 s27 s28 g29 g30 g31 g32 g33, az_ cy g15 4 f15, ai_ cy g17 4 f17, ai_ cy g18 24 f18, aj_ cy g19 120 f19, aj_ cy g20 5 f20] hP hD (fun hP hD => ?_)
  refine lv_aload_n hx hb dB_3_3_6.1.1.2.2 rfl (lv_at hl 0 rfl) ?_
  refine lv_iconst (v := 0) hx hb dB_3_3_6.1.2.1.1 (by decide) ?_
  refine va_put (ci := 12) (v := .int 0) (ty := .int) (C := RX12) (T := TX12) (N := 34) hx hb hts (fun _ h => List.mem_cons_of_mem _ (List.mem_append_right _ h)) tyX12 tyX12_ok nmX12 hown hK.1 hP hD hS 0 rfl rfl 1 (by decide) (hts (.fieldLink RX12 240 "CutAtlasModel" "status" "I") (List.mem_of_getElem? (i := 2) rfl)) (fun _ h9 => h9) rfl (by decide +kernel) rfl rfl (Nat.le_of_ble_eq_true rfl) dB_3_3_6.1.2.1.2 (fun H locs hP hD hS => ?_)
  refine pd_K [ob12_0_ mo 0 0 t2 s3 s4 g5 g6 g7 g8 g9 g10 s11 g12 g13 g14 g15 g16 g17 g18 g19 g20 s21 g22 g23 g24 s25 s26 s27 s28 g29 g30 g31 g32 g33, az_ cy g15 4 f15, ai_ cy g17 4 f17, ai_ cy g18 24 f18, aj_ cy g19 120 f19, aj_ cy g20 5 f20] hP hD (fun hP hD => ?_)
  refine lv_iload_n hx hb dB_3_3_6.1.2.2.1 rfl (lv_at hl 1 rfl) ?_
  refine lv_i2l (v := a1.toInt64) hx hb dB_3_3_6.1.2.2.2 rfl ?_
  have q_11 : (a1.toInt64).toInt = a1.toInt := Int32.toInt_toInt64 a1
  refine lv_lconst (v := 0) hx hb dB_3_3_6.2.1.1.1 (by decide) ?_
  refine lv_ldc2 (v := 3) hx hb hown (hts (.constantLong RX12 243 (3)) (List.mem_of_getElem? (i := 3) rfl)) dB_3_3_6.2.1.1.2 ?_
  refine ct_R hP hD [] [] (by decide) rfl (fun hPc hDw => ?_)
  have hFc := va_free (wc := []) hD hS hA [] rfl
  refine va_calli (va_runS (As := [.long a1.toInt64, .long 0, .long 3]) (rest := []) ⟨hx, hb, hml, hown, hts⟩ (c_X12_in l D cy H.size a1.toInt64 (0 : Int64) (3 : Int64)) (va_cwS 3 hts gX12_copy_X12_in rfl rfl rfl hd_X12_in ⟨Nat.le_of_ble_eq_true rfl, Nat.le_of_ble_eq_true rfl⟩) ⟨bl_, fun U hU hW => ⟨rfl, by rw [hU], by rw [hU]; exact hPc, kk_mv hW hK, hDw⟩⟩ rfl rfl hl.1 rfl (lv_room (Nat.le_of_ble_eq_true rfl)) dB_3_3_6.2.1.2.1 ⟨Nat.le_of_ble_eq_true rfl, Nat.le_of_ble_eq_true rfl⟩) hS (fun q _ h => hFc q h) hFc (fun r_1 u t H locs ht hvm hw hB hz1 hk1 hS => ?_)
  have hP : va_P D vwCl _ H := ro_keep hP hk1
  rcases hw with ⟨w_2, e_⟩ | ⟨w_2, e_⟩
  · have e_ := e_.symm
    subst e_
    refine lv_if_ne (tgt := 28) hx hb dB_3_3_6.2.1.2.2 (by decide) (fun c_3 => ?_) (fun c_3 => ?_)
    · have _ := c_3
      refine lv_aload_n hx hb dB_3_3_7.1.1.1.1 rfl (lv_at hl 0 rfl) ?_
      refine va_get (ci := 12) (v := .ref g15) (C := RX12) (T := TX12) (N := 34) hx hb hts (fun _ h => List.mem_cons_of_mem _ (List.mem_append_right _ h)) hown hK.1 hP 0 rfl rfl 15 (by decide) (hts (.fieldLink RX12 38 "CutAtlasModel" "hasMap" "[Z") (List.mem_of_getElem? (i := 4) rfl)) (fun _ h9 => h9) rfl dB_3_3_7.1.1.1.2 ?_
      refine lv_iload_n hx hb dB_3_3_7.1.1.2.1 rfl (lv_at hl 1 rfl) ?_
      have h_4 : vp_in a1 4 := in_I (by first | with_reducible assumption | omega) (by omega)
      refine va_zald hx hb hK.1 hP 1 2 rfl rfl (i := a1) h_4 dB_3_3_7.1.1.2.2 ?_
      refine lv_topi (fun y_5 ey_5 => ?_)
      have ky_5 : y_5.toInt = (f15 a1.toNatClampNeg).toInt := by rw [ey_5]
      refine lv_if_ne (tgt := 44) hx hb dB_3_3_7.1.2.1.1 (by decide) (fun c_6 => ?_) (fun c_6 => ?_)
      · have t_6 : ¬ y_5.toInt = (0 : Int32).toInt := fun h => c_6 (Int32.toInt_inj.mp h)
        refine lv_iload_n hx hb dB_3_3_7.2.1.1.2 rfl (lv_at hl 2 rfl) ?_
        refine lv_i2l (v := a2.toInt64) hx hb dB_3_3_7.2.1.2.1 rfl ?_
        have q_45 : (a2.toInt64).toInt = a2.toInt := Int32.toInt_toInt64 a2
        refine lv_lconst (v := 0) hx hb dB_3_3_7.2.1.2.2 (by decide) ?_
        refine lv_aload_n hx hb dB_3_3_7.2.2.1.1 rfl (lv_at hl 0 rfl) ?_
        refine va_get (ci := 12) (v := .ref g17) (C := RX12) (T := TX12) (N := 34) hx hb hts (fun _ h => List.mem_cons_of_mem _ (List.mem_append_right _ h)) hown hK.1 hP 0 rfl rfl 17 (by decide) (hts (.fieldLink RX12 44 "CutAtlasModel" "mapRows" "[I") (List.mem_of_getElem? (i := 5) rfl)) (fun _ h9 => h9) rfl dB_3_3_7.2.2.1.2 ?_
        refine lv_iload_n hx hb dB_3_3_7.2.2.2.1 rfl (lv_at hl 1 rfl) ?_
        refine va_iald hx hb hK.1 hP 2 0 rfl rfl (i := a1) h_4 dB_3_3_7.2.2.2.2 ?_
        refine lv_topi (fun y_8 ey_8 => ?_)
        have ky_8 : y_8.toInt = (f17 a1.toNatClampNeg).toInt := by rw [ey_8]
        have ry_8 : 0 ≤ y_8.toInt ∧ y_8.toInt ≤ 6 := by rw [ey_8]; exact r_f17 _ (in_lt h_4)
        refine lv_iconst (v := 1) hx hb dB_3_3_8.1.1.1.1 (by decide) ?_
        refine lv_isub hx hb dB_3_3_8.1.1.1.2 ?_
        refine lv_topi (fun y_9 ey_9 => ?_)
        have ty_9 : y_9.toInt = y_8.toInt - (1 : Int32).toInt := by rw [ey_9]; exact subI (by omega) (by omega)
        refine lv_i2l (v := y_9.toInt64) hx hb dB_3_3_8.1.1.2.1 rfl ?_
        have q_55 : (y_9.toInt64).toInt = y_9.toInt := Int32.toInt_toInt64 y_9
        refine ct_R hP hD [] [] (by decide) rfl (fun hPc hDw => ?_)
        have hFc := va_free (wc := []) hD hS hA [] rfl
        refine va_calli (va_runS (As := [.long a2.toInt64, .long 0, .long y_9.toInt64]) (rest := []) ⟨hx, hb, hml, hown, hts⟩ (c_X12_in l D cy H.size a2.toInt64 (0 : Int64) y_9.toInt64) (va_cwS 3 hts gX12_copy_X12_in rfl rfl rfl hd_X12_in ⟨Nat.le_of_ble_eq_true rfl, Nat.le_of_ble_eq_true rfl⟩) ⟨bl_, fun U hU hW => ⟨rfl, by rw [hU], by rw [hU]; exact hPc, kk_mv hW hK, hDw⟩⟩ rfl rfl hl.1 rfl (lv_room (Nat.le_of_ble_eq_true rfl)) dB_3_3_8.1.1.2.2 ⟨Nat.le_of_ble_eq_true rfl, Nat.le_of_ble_eq_true rfl⟩) hS (fun q _ h => hFc q h) hFc (fun r_10 u t H locs ht hvm hw hB hz1 hk1 hS => ?_)
        have hP : va_P D vwCl _ H := ro_keep hP hk1
        rcases hw with ⟨w_11, e_⟩ | ⟨w_11, e_⟩
        · have e_ := e_.symm
          subst e_
          refine lv_if_eq (tgt := 81) hx hb dB_3_3_8.1.2.1.1 (by decide) (fun c_12 => ?_) (fun c_12 => ?_)
          · exact absurd c_12 (by decide)
          · have _ := c_12
            refine lv_iload hx hb dB_3_3_8.1.2.1.2 (lv_at hl 4 rfl) ?_
            refine lv_i2l (v := a4.toInt64) hx hb dB_3_3_8.1.2.2.1 rfl ?_
            have q_64 : (a4.toInt64).toInt = a4.toInt := Int32.toInt_toInt64 a4
            refine lv_lconst (v := 0) hx hb dB_3_3_8.1.2.2.2 (by decide) ?_
            refine lv_aload_n hx hb dB_3_3_8.2.1.1.1 rfl (lv_at hl 0 rfl) ?_
            refine va_get (ci := 12) (v := .ref g17) (C := RX12) (T := TX12) (N := 34) hx hb hts (fun _ h => List.mem_cons_of_mem _ (List.mem_append_right _ h)) hown hK.1 hP 0 rfl rfl 17 (by decide) (hts (.fieldLink RX12 44 "CutAtlasModel" "mapRows" "[I") (List.mem_of_getElem? (i := 5) rfl)) (fun _ h9 => h9) rfl dB_3_3_8.2.1.1.2 ?_
            refine lv_iload_n hx hb dB_3_3_8.2.1.2.1 rfl (lv_at hl 1 rfl) ?_
            refine va_iald hx hb hK.1 hP 2 0 rfl rfl (i := a1) h_4 dB_3_3_8.2.1.2.2 ?_
            refine lv_topi (fun y_14 ey_14 => ?_)
            have e_ := (ey_14.trans ey_8.symm).symm
            subst e_
            skip
            refine lv_iconst (v := 1) hx hb dB_3_3_8.2.2.1.1 (by decide) ?_
            refine lv_isub hx hb dB_3_3_8.2.2.1.2 ?_
            refine lv_topi (fun y_15 ey_15 => ?_)
            have e_ := (ey_15.trans ey_9.symm).symm
            subst e_
            refine lv_i2l (v := y_9.toInt64) hx hb dB_3_3_8.2.2.2.1 rfl ?_
            have q_74 : (y_9.toInt64).toInt = y_9.toInt := Int32.toInt_toInt64 y_9
            refine ct_R hP hD [] [] (by decide) rfl (fun hPc hDw => ?_)
            have hFc := va_free (wc := []) hD hS hA [] rfl
            refine va_calli (va_runS (As := [.long a4.toInt64, .long 0, .long y_9.toInt64]) (rest := []) ⟨hx, hb, hml, hown, hts⟩ (c_X12_in l D cy H.size a4.toInt64 (0 : Int64) y_9.toInt64) (va_cwS 3 hts gX12_copy_X12_in rfl rfl rfl hd_X12_in ⟨Nat.le_of_ble_eq_true rfl, Nat.le_of_ble_eq_true rfl⟩) ⟨bl_, fun U hU hW => ⟨rfl, by rw [hU], by rw [hU]; exact hPc, kk_mv hW hK, hDw⟩⟩ rfl rfl hl.1 rfl (lv_room (Nat.le_of_ble_eq_true rfl)) dB_3_3_8.2.2.2.2 ⟨Nat.le_of_ble_eq_true rfl, Nat.le_of_ble_eq_true rfl⟩) hS (fun q _ h => hFc q h) hFc (fun r_16 u t H locs ht hvm hw hB hz1 hk1 hS => ?_)
            have hP : va_P D vwCl _ H := ro_keep hP hk1
            rcases hw with ⟨w_17, e_⟩ | ⟨w_17, e_⟩
            · have e_ := e_.symm
              subst e_
              refine lv_if_ne (tgt := 88) hx hb dB_3_3_9.1.1.1.1 (by decide) (fun c_18 => ?_) (fun c_18 => ?_)
              · have _ := c_18
                refine lv_aload_n hx hb dB_3_3_9.1.2.1.2 rfl (lv_at hl 0 rfl) ?_
                refine va_get (ci := 12) (v := .ref g18) (C := RX12) (T := TX12) (N := 34) hx hb hts (fun _ h => List.mem_cons_of_mem _ (List.mem_append_right _ h)) hown hK.1 hP 0 rfl rfl 18 (by decide) (hts (.fieldLink RX12 47 "CutAtlasModel" "rowSize" "[I") (List.mem_of_getElem? (i := 6) rfl)) (fun _ h9 => h9) rfl dB_3_3_9.1.2.2.1 ?_
                refine lv_bipush (v := 6) hx hb dB_3_3_9.1.2.2.2 (by decide) ?_
                refine lv_iload_n hx hb dB_3_3_9.2.1.1.1 rfl (lv_at hl 1 rfl) ?_
                refine lv_imul hx hb dB_3_3_9.2.1.1.2 ?_
                refine lv_topi (fun y_19 ey_19 => ?_)
                have ty_19 : y_19.toInt = 6 * a1.toInt := by rw [ey_19]; exact mulC (by decide) (by omega) (by omega)
                refine lv_iload_n hx hb dB_3_3_9.2.1.2.1 rfl (lv_at hl 2 rfl) ?_
                refine lv_iadd hx hb dB_3_3_9.2.1.2.2 ?_
                refine lv_topi (fun y_20 ey_20 => ?_)
                have ty_20 : y_20.toInt = y_19.toInt + a2.toInt := by rw [ey_20]; exact addI (by omega) (by omega)
                have hia_ : y_20.toNatClampNeg = (6 * a1.toInt + a2.toInt).toNat := ixn (by omega)
                have hla_ := hlk y_20.toNatClampNeg (by rw [hia_]; omega)
                have h_21 : vp_in y_20 24 := in_I (by first | with_reducible assumption | omega) (by omega)
                refine va_iald hx hb hK.1 hP 3 0 rfl rfl (i := y_20) h_21 dB_3_3_9.2.2.1.1 ?_
                refine lv_topi (fun y_22 ey_22 => ?_)
                have ky_22 : y_22.toInt = (f18 y_20.toNatClampNeg).toInt := by rw [ey_22]
                have ry_22 : -9 ≤ y_22.toInt ∧ y_22.toInt ≤ 5 := by rw [ey_22]; exact r_f18 _ (in_lt h_21)
                have ka_ : y_22.toInt = (f18 (6 * a1.toInt + a2.toInt).toNat).toInt := by rw [ey_22, hia_]
                refine lv_istore (lv' := [(7, .int y_22), (0, .ref mo), (1, .int a1), (2, .int a2), (3, .int a3), (4, .int a4), (5, .int a5), (6, .int a6)]) hx hb dB_3_3_9.2.2.1.2 hl (by decide) rfl (fun ls hl => ?_)
                refine lv_aload_n hx hb dB_3_3_9.2.2.2.1 rfl (lv_at hl 1 rfl) ?_
                refine va_get (ci := 12) (v := .ref g18) (C := RX12) (T := TX12) (N := 34) hx hb hts (fun _ h => List.mem_cons_of_mem _ (List.mem_append_right _ h)) hown hK.1 hP 0 rfl rfl 18 (by decide) (hts (.fieldLink RX12 47 "CutAtlasModel" "rowSize" "[I") (List.mem_of_getElem? (i := 6) rfl)) (fun _ h9 => h9) rfl dB_3_3_9.2.2.2.2 ?_
                refine lv_bipush (v := 6) hx hb dB_3_3_10.1.1.1.1 (by decide) ?_
                refine lv_iload_n hx hb dB_3_3_10.1.1.1.2 rfl (lv_at hl 2 rfl) ?_
                refine lv_imul hx hb dB_3_3_10.1.1.2.1 ?_
                refine lv_topi (fun y_23 ey_23 => ?_)
                have e_ := (ey_23.trans ey_19.symm).symm
                subst e_
                refine lv_iload hx hb dB_3_3_10.1.1.2.2 (lv_at hl 5 rfl) ?_
                refine lv_iadd hx hb dB_3_3_10.1.2.1.1 ?_
                refine lv_topi (fun y_24 ey_24 => ?_)
                have ty_24 : y_24.toInt = y_19.toInt + a4.toInt := by rw [ey_24]; exact addI (by omega) (by omega)
                have hib_ : y_24.toNatClampNeg = (6 * a1.toInt + a4.toInt).toNat := ixn (by omega)
                have hlb_ := hlk y_24.toNatClampNeg (by rw [hib_]; omega)
                have h_25 : vp_in y_24 24 := in_I (by first | with_reducible assumption | omega) (by omega)
                refine va_iald hx hb hK.1 hP 3 0 rfl rfl (i := y_24) h_25 dB_3_3_10.1.2.1.2 ?_
                refine lv_topi (fun y_26 ey_26 => ?_)
                have ky_26 : y_26.toInt = (f18 y_24.toNatClampNeg).toInt := by rw [ey_26]
                have ry_26 : -9 ≤ y_26.toInt ∧ y_26.toInt ≤ 5 := by rw [ey_26]; exact r_f18 _ (in_lt h_25)
                have kb_ : y_26.toInt = (f18 (6 * a1.toInt + a4.toInt).toNat).toInt := by rw [ey_26, hib_]
                refine lv_istore (lv' := [(8, .int y_26), (7, .int y_22), (0, .ref mo), (1, .int a1), (2, .int a2), (3, .int a3), (4, .int a4), (5, .int a5), (6, .int a6)]) hx hb dB_3_3_10.1.2.2.1 hl (by decide) rfl (fun ls hl => ?_)
                refine lv_iload hx hb dB_3_3_10.1.2.2.2 (lv_at hl 1 rfl) ?_
                refine lv_bipush (v := (-9)) hx hb dB_3_3_10.2.1.1.1 (by decide) ?_
                refine lv_icmp_eq (tgt := 129) hx hb dB_3_3_10.2.1.1.2 (by decide) (fun c_27 => ?_) (fun c_27 => ?_)
                · have t_27 : y_22.toInt = ((-9) : Int32).toInt := congrArg Int32.toInt c_27
                  refine lv_aload_n hx hb dB_3_3_10.2.2.1.2 rfl (lv_at hl 2 rfl) ?_
                  refine lv_bipush (v := (-11)) hx hb dB_3_3_10.2.2.2.1 (by decide) ?_
                  refine ct_S hP hD hS hA [ob12_0_ mo 0 0 t2 s3 s4 g5 g6 g7 g8 g9 g10 s11 g12 g13 g14 g15 g16 g17 g18 g19 g20 s21 g22 g23 g24 s25 s26 s27 s28 g29 g30 g31 g32 g33] [0] (by decide) rfl (fun hPc hDw hFc hC_ => ?_)
                  refine va_calli (va_runV (As := [.int (-11)]) (rest := []) ⟨hx, hb, hml, hown, hts⟩ (c_X12_no2 l D cy H.size mo g5 g6 g7 g8 g9 g10 g12 g13 g14 g15 g16 g17 g18 g19 g20 g22 g23 g24 g29 g30 g31 g32 g33 (0 : Int32) (0 : Int32) s3 s4 s11 s21 s25 s26 s27 s28 t2 ((-11) : Int32)) (cwV 1 hts gX12_copy_X12_no rfl rfl rfl ⟨rfl, hd_X12_no⟩ ⟨Nat.le_of_ble_eq_true rfl, Nat.le_of_ble_eq_true rfl⟩) ⟨bl_, va_recvX hK.1 hP (ci := 12) (q0 := 0) rfl rfl, fun U hU hW => ⟨rfl, by rw [hU], by rw [hU]; exact hPc, kk_mv hW hK, hDw⟩⟩ rfl rfl hl.1 rfl (lv_room (Nat.le_of_ble_eq_true rfl)) dB_3_3_10.2.2.2.2 ⟨Nat.le_of_ble_eq_true rfl, Nat.le_of_ble_eq_true rfl⟩) hS (fun q _ h => hFc q h) hFc (fun r_28 u t H locs ht hvm hw hB hz1 hk1 hS => ?_)
                  obtain ⟨n1_29, g_30, hP1, hD1⟩ := hB
                  rw [ht] at hP1
                  obtain ⟨hP, hD⟩ := va_join (wr := [az_ cy g15 4 f15, ai_ cy g17 4 f17, ai_ cy g18 24 f18, aj_ cy g19 120 f19, aj_ cy g20 5 f20]) (w1 := [ob12_0_ mo 0 n1_29 t2 s3 s4 g5 g6 g7 g8 g9 g10 s11 g12 g13 g14 g15 g16 g17 g18 g19 g20 s21 g22 g23 g24 s25 s26 s27 s28 g29 g30 g31 g32 g33]) hP hD [0] [1, 2, 3, 4, 5] hC_ rfl (by decide) (by decide) hk1 hFc hP1 hD1
                  refine pd_S hP hD [ob12_0_ mo 0 n1_29 t2 s3 s4 g5 g6 g7 g8 g9 g10 s11 g12 g13 g14 g15 g16 g17 g18 g19 g20 s21 g22 g23 g24 s25 s26 s27 s28 g29 g30 g31 g32 g33, az_ cy g15 4 f15, ai_ cy g17 4 f17, ai_ cy g18 24 f18, aj_ cy g19 120 f19, aj_ cy g20 5 f20] [5, 0, 1, 2, 3, 4] (by decide) rfl (fun hP hD => ?_)
                  have f0_r_28 := hw
                  have hno_ := g_30
                  rw [hQ]
                  exact W.iret (v := r_28) hx hb hr (fun t ht hW => ⟨⟨r_28, (), rfl, (by first | (have h9 := congrArg Int32.toInt f0_r_28; unfold cpyI; (repeat' (first | with_reducible refine if_n (by omega) ?_ | with_reducible refine if_ns (by omega) ?_ | with_reducible refine if_nz (by omega) ?_ | with_reducible exact if_p (by omega) (by omega) | with_reducible exact if_ps (by omega) (by omega) | with_reducible exact if_pz (by omega) (by omega))) <;> omega) | (unfold cpyI; (repeat' (first | with_reducible refine if_n (by omega) ?_ | with_reducible refine if_ns (by omega) ?_ | with_reducible refine if_nz (by omega) ?_ | with_reducible exact if_p (by omega) (by omega) | with_reducible exact if_ps (by omega) (by omega) | with_reducible exact if_pz (by omega) (by omega))) <;> omega)), n1_29, f19, f20, (by first | (have h9 := congrArg Int32.toInt hno_; unfold cpyI; (repeat' (first | with_reducible refine if_n (by omega) ?_ | with_reducible refine if_ns (by omega) ?_ | with_reducible refine if_nz (by omega) ?_ | with_reducible exact if_p (by omega) (by omega) | with_reducible exact if_ps (by omega) (by omega) | with_reducible exact if_pz (by omega) (by omega))) <;> omega) | (unfold cpyI; (repeat' (first | with_reducible refine if_n (by omega) ?_ | with_reducible refine if_ns (by omega) ?_ | with_reducible refine if_nz (by omega) ?_ | with_reducible exact if_p (by omega) (by omega) | with_reducible exact if_ps (by omega) (by omega) | with_reducible exact if_pz (by omega) (by omega))) <;> omega)), (by first | exact ⟨fun _ => rfl, fun h => absurd h (by first | omega | (have h9_ := congrArg Int32.toInt hno_; omega) | decide)⟩ | exact ⟨fun h => absurd (by first | omega | (have h9_ := congrArg Int32.toInt hno_; omega) | decide) h, fun _ => h9_⟩), by rw [ht]; exact hP, hD⟩, hS.F ht⟩) hS.2.2 dB_3_3_11.1.1.1.1
                · have t_27 : ¬ y_22.toInt = ((-9) : Int32).toInt := fun h => c_27 (Int32.toInt_inj.mp h)
                  refine lv_iload hx hb dB_3_3_10.2.1.2.1 (lv_at hl 0 rfl) ?_
                  refine lv_bipush (v := (-9)) hx hb dB_3_3_10.2.1.2.2 (by decide) ?_
                  refine lv_icmp_ne (tgt := 136) hx hb dB_3_3_10.2.2.1.1 (by decide) (fun c_31 => ?_) (fun c_31 => ?_)
                  · have t_31 : ¬ y_26.toInt = ((-9) : Int32).toInt := fun h => c_31 (Int32.toInt_inj.mp h)
                    refine lv_iload_n hx hb dB_3_3_11.1.1.1.2 rfl (lv_at hl 5 rfl) ?_
                    refine lv_iload hx hb dB_3_3_11.1.1.2.1 (lv_at hl 8 rfl) ?_
                    refine lv_iload hx hb dB_3_3_11.1.1.2.2 (lv_at hl 1 rfl) ?_
                    refine ct_R hP hD [] [] (by decide) rfl (fun hPc hDw => ?_)
                    have hFc := va_free (wc := []) hD hS hA [] rfl
                    refine va_calli (va_runS (As := [.int a3, .int a6, .int y_22]) (rest := []) ⟨hx, hb, hml, hown, hts⟩ (c_X12_areThere l D cy H.size a3 a6 y_22) (va_cwS 3 hts gX12_copy_X12_areThere rfl rfl rfl hd_X12_areThere ⟨Nat.le_of_ble_eq_true rfl, Nat.le_of_ble_eq_true rfl⟩) ⟨bl_, fun U hU hW => ⟨rfl, by rw [hU], by rw [hU]; exact hPc, kk_mv hW hK, hDw⟩⟩ rfl rfl hl.1 rfl (lv_room (Nat.le_of_ble_eq_true rfl)) dB_3_3_11.1.2.1.1 ⟨Nat.le_of_ble_eq_true rfl, Nat.le_of_ble_eq_true rfl⟩) hS (fun q _ h => hFc q h) hFc (fun r_32 u t H locs ht hvm hw hB hz1 hk1 hS => ?_)
                    have hP : va_P D vwCl _ H := ro_keep hP hk1
                    rcases hw with ⟨w_33, e_⟩ | ⟨w_33, e_⟩
                    · have e_ := e_.symm
                      subst e_
                      refine lv_if_eq (tgt := 159) hx hb dB_3_3_11.1.2.1.2 (by decide) (fun c_34 => ?_) (fun c_34 => ?_)
                      · exact absurd c_34 (by decide)
                      · have _ := c_34
                        refine lv_iload hx hb dB_3_3_11.1.2.2.1 (lv_at hl 7 rfl) ?_
                        refine lv_iload hx hb dB_3_3_11.1.2.2.2 (lv_at hl 8 rfl) ?_
                        refine lv_iload hx hb dB_3_3_11.2.1.1.1 (lv_at hl 0 rfl) ?_
                        refine ct_R hP hD [] [] (by decide) rfl (fun hPc hDw => ?_)
                        have hFc := va_free (wc := []) hD hS hA [] rfl
                        refine va_calli (va_runS (As := [.int a5, .int a6, .int y_26]) (rest := []) ⟨hx, hb, hml, hown, hts⟩ (c_X12_areThere l D cy H.size a5 a6 y_26) (va_cwS 3 hts gX12_copy_X12_areThere rfl rfl rfl hd_X12_areThere ⟨Nat.le_of_ble_eq_true rfl, Nat.le_of_ble_eq_true rfl⟩) ⟨bl_, fun U hU hW => ⟨rfl, by rw [hU], by rw [hU]; exact hPc, kk_mv hW hK, hDw⟩⟩ rfl rfl hl.1 rfl (lv_room (Nat.le_of_ble_eq_true rfl)) dB_3_3_11.2.1.1.2 ⟨Nat.le_of_ble_eq_true rfl, Nat.le_of_ble_eq_true rfl⟩) hS (fun q _ h => hFc q h) hFc (fun r_35 u t H locs ht hvm hw hB hz1 hk1 hS => ?_)
                        have hP : va_P D vwCl _ H := ro_keep hP hk1
                        rcases hw with ⟨w_36, e_⟩ | ⟨w_36, e_⟩
                        · have e_ := e_.symm
                          subst e_
                          refine lv_if_ne (tgt := 166) hx hb dB_3_3_11.2.1.2.1 (by decide) (fun c_37 => ?_) (fun c_37 => ?_)
                          · have _ := c_37
                            refine lv_iconst (v := 0) hx hb dB_3_3_11.2.2.2.2 (by decide) ?_
                            refine lv_istore (lv' := [(9, .int 0), (8, .int y_26), (7, .int y_22), (0, .ref mo), (1, .int a1), (2, .int a2), (3, .int a3), (4, .int a4), (5, .int a5), (6, .int a6)]) hx hb dB_3_3_12.1.1.1.1 hl (by decide) rfl (fun ls hl => ?_)
                            suffices LOOP_38 : ∀ (n_38 : Nat) (x9_38 : Int32) (c_g20_38 : Nat → Int64) (H : Heap) (locs : List Loc) (ls : Array Slot), a6.toInt - x9_38.toInt < (n_38 : Int) → (0 ≤ x9_38.toInt) → (x9_38.toInt ≤ a6.toInt) → (∀ q : Nat, (q : Int) < x9_38.toInt → c_g20_38 q = f19 (30 * a1.toInt + 5 * a2.toInt + a3.toInt + q).toNat) → pd_2 D vwCl A [ob12_0_ mo 0 0 t2 s3 s4 g5 g6 g7 g8 g9 g10 s11 g12 g13 g14 g15 g16 g17 g18 g19 g20 s21 g22 g23 g24 s25 s26 s27 s28 g29 g30 g31 g32 g33, az_ cy g15 4 f15, ai_ cy g17 4 f17, ai_ cy g18 24 f18, aj_ cy g19 120 f19, aj_ cy g20 5 c_g20_38] H → va_S A s.heap H locs → lv_has ls 10 [(9, .int x9_38), (8, .int y_26), (7, .int y_22), (0, .ref mo), (1, .int a1), (2, .int a2), (3, .int a3), (4, .int a4), (5, .int a5), (6, .int a6)] → W p l e ({ frames := 1, cells := 0, slots := 0, locals := 25 } : Room) s m (([.ref mo, .int a1, .int a2, .int a3, .int a4, .int a5, .int a6] : List Value).toArray) below meth c H locs 0 0 Q (F0 m 169 ls []) from LOOP_38 ((a6.toInt - (0 : Int32).toInt).toNat + 1) (0 : Int32) f20 _ _ _ (by omega) (by first | with_reducible assumption | omega | assumption) (by first | with_reducible assumption | omega | assumption) (by first | exact cpd_st v_none S[q20] S[v20] (by omega) (by omega) (by omega) | (intro q hq; omega)) ⟨hP, hD⟩ hS (lv_sub hl [0, 1, 2, 3, 4, 5, 6, 7, 8, 9] rfl)
                            intro n_38
                            induction n_38 with
                            | zero =>
                              intro x9_38 c_g20_38 H locs ls hm v0_38 v1_38 v2_38 hPD hS hl; obtain ⟨hP, hD⟩ := hPD
                              exact absurd hm (by omega)
                            | succ n_38 ih_38 =>
                              intro x9_38 c_g20_38 H locs ls hm v0_38 v1_38 v2_38 hPD hS hl; obtain ⟨hP, hD⟩ := hPD
                              refine lv_iload hx hb dB_3_3_12.1.1.1.2 (lv_at hl 0 rfl) ?_
                              refine lv_iload hx hb dB_3_3_12.1.1.2.1 (lv_at hl 9 rfl) ?_
                              refine lv_icmp_ge (tgt := 207) hx hb dB_3_3_12.1.1.2.2 (by decide) (fun c_39 => ?_) (fun c_39 => ?_)
                              · have t_39 : a6.toInt ≤ x9_38.toInt := Int32.le_iff_toInt_le.mp c_39
                                have ht_ : ∀ q : Nat, (q : Int) < a6.toInt → c_g20_38 q = f19 (30 * a1.toInt + 5 * a2.toInt + a3.toInt + q).toNat := fun q hq => v2_38 q (by omega)
                                refine lv_iconst (v := 0) hx hb dB_3_3_13.2.1.1.1 (by decide) ?_
                                refine lv_istore (lv' := [(9, .int 0), (8, .int y_26), (7, .int y_22), (0, .ref mo), (1, .int a1), (2, .int a2), (3, .int a3), (4, .int a4), (5, .int a5), (6, .int a6)]) hx hb dB_3_3_13.2.1.1.2 hl (by decide) rfl (fun ls hl => ?_)
                                suffices LOOP_40 : ∀ (n_40 : Nat) (x9_40 : Int32) (c_g19_40 : Nat → Int64) (H : Heap) (locs : List Loc) (ls : Array Slot), a6.toInt - x9_40.toInt < (n_40 : Int) → (0 ≤ x9_40.toInt) → (x9_40.toInt ≤ a6.toInt) → (∀ q : Nat, c_g19_40 q = if 30 * a1.toInt + 5 * a4.toInt + a5.toInt ≤ (q : Int) ∧ (q : Int) < 30 * a1.toInt + 5 * a4.toInt + a5.toInt + x9_40.toInt then f19 (30 * a1.toInt + 5 * a2.toInt + a3.toInt + ((q : Int) - (30 * a1.toInt + 5 * a4.toInt + a5.toInt))).toNat else f19 q) → pd_2 D vwCl A [ob12_0_ mo 0 0 t2 s3 s4 g5 g6 g7 g8 g9 g10 s11 g12 g13 g14 g15 g16 g17 g18 g19 g20 s21 g22 g23 g24 s25 s26 s27 s28 g29 g30 g31 g32 g33, az_ cy g15 4 f15, ai_ cy g17 4 f17, ai_ cy g18 24 f18, aj_ cy g19 120 c_g19_40, aj_ cy g20 5 c_g20_38] H → va_S A s.heap H locs → lv_has ls 10 [(9, .int x9_40), (8, .int y_26), (7, .int y_22), (0, .ref mo), (1, .int a1), (2, .int a2), (3, .int a3), (4, .int a4), (5, .int a5), (6, .int a6)] → W p l e ({ frames := 1, cells := 0, slots := 0, locals := 25 } : Room) s m (([.ref mo, .int a1, .int a2, .int a3, .int a4, .int a5, .int a6] : List Value).toArray) below meth c H locs 0 0 Q (F0 m 210 ls []) from LOOP_40 ((a6.toInt - (0 : Int32).toInt).toNat + 1) (0 : Int32) f19 _ _ _ (by omega) (by first | with_reducible assumption | omega | assumption) (by first | with_reducible assumption | omega | assumption) (by first | exact cpe0 | exact cpe_st ht_ v_none S[q19] S[v19] (by omega) (by omega) (by omega) (by omega) (by omega)) ⟨hP, hD⟩ hS (lv_sub hl [0, 1, 2, 3, 4, 5, 6, 7, 8, 9] rfl)
                                intro n_40
                                induction n_40 with
                                | zero =>
                                  intro x9_40 c_g19_40 H locs ls hm v0_40 v1_40 v2_40 hPD hS hl; obtain ⟨hP, hD⟩ := hPD
                                  exact absurd hm (by omega)
                                | succ n_40 ih_40 =>
                                  intro x9_40 c_g19_40 H locs ls hm v0_40 v1_40 v2_40 hPD hS hl; obtain ⟨hP, hD⟩ := hPD
                                  refine lv_iload hx hb dB_3_3_13.2.1.2.1 (lv_at hl 0 rfl) ?_
                                  refine lv_iload hx hb dB_3_3_13.2.1.2.2 (lv_at hl 9 rfl) ?_
                                  refine lv_icmp_ge (tgt := 250) hx hb dB_3_3_13.2.2.1.1 (by decide) (fun c_41 => ?_) (fun c_41 => ?_)
                                  · have t_41 : a6.toInt ≤ x9_40.toInt := Int32.le_iff_toInt_le.mp c_41
                                    have h9_ : ∀ q : Nat, c_g19_40 q = if 30 * a1.toInt + 5 * a4.toInt + a5.toInt ≤ (q : Int) ∧ (q : Int) < 30 * a1.toInt + 5 * a4.toInt + a5.toInt + a6.toInt then f19 (30 * a1.toInt + 5 * a2.toInt + a3.toInt + ((q : Int) - (30 * a1.toInt + 5 * a4.toInt + a5.toInt))).toNat else f19 q := fun q => by rw [v2_40 q, show x9_40.toInt = a6.toInt by omega]
                                    refine lv_iload hx hb dB_3_3_15.2.1 (lv_at hl 9 rfl) ?_
                                    rw [hQ]
                                    exact W.iret (v := a6) hx hb hr (fun t ht hW => ⟨⟨a6, (), rfl, (by first | (have h9 := congrArg Int32.toInt f0_a6; unfold cpyI; (repeat' (first | with_reducible refine if_n (by omega) ?_ | with_reducible refine if_ns (by omega) ?_ | with_reducible refine if_nz (by omega) ?_ | with_reducible exact if_p (by omega) (by omega) | with_reducible exact if_ps (by omega) (by omega) | with_reducible exact if_pz (by omega) (by omega))) <;> omega) | (unfold cpyI; (repeat' (first | with_reducible refine if_n (by omega) ?_ | with_reducible refine if_ns (by omega) ?_ | with_reducible refine if_nz (by omega) ?_ | with_reducible exact if_p (by omega) (by omega) | with_reducible exact if_ps (by omega) (by omega) | with_reducible exact if_pz (by omega) (by omega))) <;> omega)), (0 : Int32), c_g19_40, c_g20_38, (by first | (have h9 := congrArg Int32.toInt hno_; unfold cpyI; (repeat' (first | with_reducible refine if_n (by omega) ?_ | with_reducible refine if_ns (by omega) ?_ | with_reducible refine if_nz (by omega) ?_ | with_reducible exact if_p (by omega) (by omega) | with_reducible exact if_ps (by omega) (by omega) | with_reducible exact if_pz (by omega) (by omega))) <;> omega) | (unfold cpyI; (repeat' (first | with_reducible refine if_n (by omega) ?_ | with_reducible refine if_ns (by omega) ?_ | with_reducible refine if_nz (by omega) ?_ | with_reducible exact if_p (by omega) (by omega) | with_reducible exact if_ps (by omega) (by omega) | with_reducible exact if_pz (by omega) (by omega))) <;> omega)), (by first | exact ⟨fun _ => rfl, fun h => absurd h (by first | omega | (have h9_ := congrArg Int32.toInt hno_; omega) | decide)⟩ | exact ⟨fun h => absurd (by first | omega | (have h9_ := congrArg Int32.toInt hno_; omega) | decide) h, fun _ => h9_⟩), by rw [ht]; exact hP, hD⟩, hS.F ht⟩) hS.2.2 dB_3_3_15.2.2
                                  · have t_41 : ¬ a6.toInt ≤ x9_40.toInt := fun h => c_41 (Int32.le_iff_toInt_le.mpr h)
                                    refine lv_aload_n hx hb dB_3_3_13.2.2.1.2 rfl (lv_at hl 3 rfl) ?_
                                    refine va_get (ci := 12) (v := .ref g19) (C := RX12) (T := TX12) (N := 34) hx hb hts (fun _ h => List.mem_cons_of_mem _ (List.mem_append_right _ h)) hown hK.1 hP 0 rfl rfl 19 (by decide) (hts (.fieldLink RX12 50 "CutAtlasModel" "cells" "[J") (List.mem_of_getElem? (i := 8) rfl)) (fun _ h9 => h9) rfl dB_3_3_13.2.2.2.1 ?_
                                    refine lv_bipush (v := 30) hx hb dB_3_3_13.2.2.2.2 (by decide) ?_
                                    refine lv_iload_n hx hb dB_3_3_14.1.1.1.1 rfl (lv_at hl 4 rfl) ?_
                                    refine lv_imul hx hb dB_3_3_14.1.1.1.2 ?_
                                    refine lv_topi (fun y_42 ey_42 => ?_)
                                    have ty_42 : y_42.toInt = 30 * a1.toInt := by rw [ey_42]; exact mulC (by decide) (by omega) (by omega)
                                    refine lv_iconst (v := 5) hx hb dB_3_3_14.1.1.2.1 (by decide) ?_
                                    refine lv_iload hx hb dB_3_3_14.1.1.2.2 (lv_at hl 7 rfl) ?_
                                    refine lv_imul hx hb dB_3_3_14.1.2.1.1 ?_
                                    refine lv_topi (fun y_43 ey_43 => ?_)
                                    have ty_43 : y_43.toInt = 5 * a4.toInt := by rw [ey_43]; exact mulC (by decide) (by omega) (by omega)
                                    refine lv_iadd hx hb dB_3_3_14.1.2.1.2 ?_
                                    refine lv_topi (fun y_44 ey_44 => ?_)
                                    have ty_44 : y_44.toInt = y_42.toInt + y_43.toInt := by rw [ey_44]; exact addI (by omega) (by omega)
                                    refine lv_iload hx hb dB_3_3_14.1.2.2.1 (lv_at hl 8 rfl) ?_
                                    refine lv_iadd hx hb dB_3_3_14.1.2.2.2 ?_
                                    refine lv_topi (fun y_45 ey_45 => ?_)
                                    have ty_45 : y_45.toInt = y_44.toInt + a5.toInt := by rw [ey_45]; exact addI (by omega) (by omega)
                                    refine lv_iload hx hb dB_3_3_14.2.1.1.1 (lv_at hl 0 rfl) ?_
                                    refine lv_iadd hx hb dB_3_3_14.2.1.1.2 ?_
                                    refine lv_topi (fun y_46 ey_46 => ?_)
                                    have ty_46 : y_46.toInt = y_45.toInt + x9_40.toInt := by rw [ey_46]; exact addI (by omega) (by omega)
                                    refine lv_aload_n hx hb dB_3_3_14.2.1.2.1 rfl (lv_at hl 3 rfl) ?_
                                    refine va_get (ci := 12) (v := .ref g20) (C := RX12) (T := TX12) (N := 34) hx hb hts (fun _ h => List.mem_cons_of_mem _ (List.mem_append_right _ h)) hown hK.1 hP 0 rfl rfl 20 (by decide) (hts (.fieldLink RX12 54 "CutAtlasModel" "copied" "[J") (List.mem_of_getElem? (i := 7) rfl)) (fun _ h9 => h9) rfl dB_3_3_14.2.1.2.2 ?_
                                    refine lv_iload hx hb dB_3_3_14.2.2.1.1 (lv_at hl 0 rfl) ?_
                                    have h_47 : vp_in x9_40 5 := in_I (by first | with_reducible assumption | omega) (by omega)
                                    refine va_lald hx hb hK.1 hP 5 1 rfl rfl (i := x9_40) h_47 dB_3_3_14.2.2.1.2 ?_
                                    refine lv_topl (fun y_48 ey_48 => ?_)
                                    have h_49 : vp_in y_46 120 := in_I (by first | with_reducible assumption | omega) (by omega)
                                    refine va_last hx hb hK.1 hP hD hS 4 1 rfl rfl (i := y_46) h_49 dB_3_3_14.2.2.2.1 (fun H locs hP hD hS => ?_)
                                    obtain ⟨f_50, ef_50⟩ : ∃ g : Nat → Int64, g = vp_updL c_g19_40 y_46.toNatClampNeg y_48 := ⟨_, rfl⟩
                                    refine pd_K (D := D) (cl := vwCl) (H := H) (A := A) [ob12_0_ mo 0 0 t2 s3 s4 g5 g6 g7 g8 g9 g10 s11 g12 g13 g14 g15 g16 g17 g18 g19 g20 s21 g22 g23 g24 s25 s26 s27 s28 g29 g30 g31 g32 g33, az_ cy g15 4 f15, ai_ cy g17 4 f17, ai_ cy g18 24 f18, aj_ cy g19 120 f_50, aj_ cy g20 5 c_g20_38] (by rw [ef_50]; exact hP) (by rw [ef_50]; exact hD) (fun hP hD => ?_)
                                    obtain ⟨y_51, ey_51⟩ : ∃ y : Int32, y = x9_40 + 1 := ⟨_, rfl⟩
                                    have ty_51 : y_51.toInt = x9_40.toInt + (1 : Int32).toInt := by rw [ey_51]; exact addI (by omega) (by omega)
                                    refine lv_iinc (v := y_51) (lv' := [(9, .int y_51), (8, .int y_26), (7, .int y_22), (0, .ref mo), (1, .int a1), (2, .int a2), (3, .int a3), (4, .int a4), (5, .int a5), (6, .int a6)]) hx hb dB_3_3_14.2.2.2.2 hl (k := 0) rfl (by rw [ey_51]; rfl) (by decide) rfl (fun ls hl => ?_)
                                    refine lv_goto (tgt := 210) hx hb dB_3_3_15.1 (by decide) ?_
                                    exact ih_40 y_51 f_50 _ _ _ (by omega) (by first | with_reducible assumption | omega | assumption) (by first | with_reducible assumption | omega | assumption) (by first | exact cpe0 | exact cpe_st ht_ v2_40 ef_50 ey_48 (by omega) (by omega) (by omega) (by omega) (by omega)) ⟨hP, hD⟩ hS (lv_sub hl [0, 1, 2, 3, 4, 5, 6, 7, 8, 9] rfl)
                              · have t_39 : ¬ a6.toInt ≤ x9_38.toInt := fun h => c_39 (Int32.le_iff_toInt_le.mpr h)
                                refine lv_aload_n hx hb dB_3_3_12.1.2.1.1 rfl (lv_at hl 3 rfl) ?_
                                refine va_get (ci := 12) (v := .ref g20) (C := RX12) (T := TX12) (N := 34) hx hb hts (fun _ h => List.mem_cons_of_mem _ (List.mem_append_right _ h)) hown hK.1 hP 0 rfl rfl 20 (by decide) (hts (.fieldLink RX12 54 "CutAtlasModel" "copied" "[J") (List.mem_of_getElem? (i := 7) rfl)) (fun _ h9 => h9) rfl dB_3_3_12.1.2.1.2 ?_
                                refine lv_iload hx hb dB_3_3_12.1.2.2.1 (lv_at hl 0 rfl) ?_
                                refine lv_aload_n hx hb dB_3_3_12.1.2.2.2 rfl (lv_at hl 3 rfl) ?_
                                refine va_get (ci := 12) (v := .ref g19) (C := RX12) (T := TX12) (N := 34) hx hb hts (fun _ h => List.mem_cons_of_mem _ (List.mem_append_right _ h)) hown hK.1 hP 0 rfl rfl 19 (by decide) (hts (.fieldLink RX12 50 "CutAtlasModel" "cells" "[J") (List.mem_of_getElem? (i := 8) rfl)) (fun _ h9 => h9) rfl dB_3_3_12.2.1.1.1 ?_
                                refine lv_bipush (v := 30) hx hb dB_3_3_12.2.1.1.2 (by decide) ?_
                                refine lv_iload_n hx hb dB_3_3_12.2.1.2.1 rfl (lv_at hl 4 rfl) ?_
                                refine lv_imul hx hb dB_3_3_12.2.1.2.2 ?_
                                refine lv_topi (fun y_52 ey_52 => ?_)
                                have ty_52 : y_52.toInt = 30 * a1.toInt := by rw [ey_52]; exact mulC (by decide) (by omega) (by omega)
                                refine lv_iconst (v := 5) hx hb dB_3_3_12.2.2.1.1 (by decide) ?_
                                refine lv_iload_n hx hb dB_3_3_12.2.2.1.2 rfl (lv_at hl 5 rfl) ?_
                                refine lv_imul hx hb dB_3_3_12.2.2.2.1 ?_
                                refine lv_topi (fun y_53 ey_53 => ?_)
                                have ty_53 : y_53.toInt = 5 * a2.toInt := by rw [ey_53]; exact mulC (by decide) (by omega) (by omega)
                                refine lv_iadd hx hb dB_3_3_12.2.2.2.2 ?_
                                refine lv_topi (fun y_54 ey_54 => ?_)
                                have ty_54 : y_54.toInt = y_52.toInt + y_53.toInt := by rw [ey_54]; exact addI (by omega) (by omega)
                                refine lv_iload_n hx hb dB_3_3_13.1.1.1.1 rfl (lv_at hl 6 rfl) ?_
                                refine lv_iadd hx hb dB_3_3_13.1.1.1.2 ?_
                                refine lv_topi (fun y_55 ey_55 => ?_)
                                have ty_55 : y_55.toInt = y_54.toInt + a3.toInt := by rw [ey_55]; exact addI (by omega) (by omega)
                                refine lv_iload hx hb dB_3_3_13.1.1.2.1 (lv_at hl 0 rfl) ?_
                                refine lv_iadd hx hb dB_3_3_13.1.1.2.2 ?_
                                refine lv_topi (fun y_56 ey_56 => ?_)
                                have ty_56 : y_56.toInt = y_55.toInt + x9_38.toInt := by rw [ey_56]; exact addI (by omega) (by omega)
                                have h_57 : vp_in y_56 120 := in_I (by first | with_reducible assumption | omega) (by omega)
                                refine va_lald hx hb hK.1 hP 4 1 rfl rfl (i := y_56) h_57 dB_3_3_13.1.2.1.1 ?_
                                refine lv_topl (fun y_58 ey_58 => ?_)
                                have h_59 : vp_in x9_38 5 := in_I (by first | with_reducible assumption | omega) (by omega)
                                refine va_last hx hb hK.1 hP hD hS 5 1 rfl rfl (i := x9_38) h_59 dB_3_3_13.1.2.1.2 (fun H locs hP hD hS => ?_)
                                obtain ⟨f_60, ef_60⟩ : ∃ g : Nat → Int64, g = vp_updL c_g20_38 x9_38.toNatClampNeg y_58 := ⟨_, rfl⟩
                                refine pd_K (D := D) (cl := vwCl) (H := H) (A := A) [ob12_0_ mo 0 0 t2 s3 s4 g5 g6 g7 g8 g9 g10 s11 g12 g13 g14 g15 g16 g17 g18 g19 g20 s21 g22 g23 g24 s25 s26 s27 s28 g29 g30 g31 g32 g33, az_ cy g15 4 f15, ai_ cy g17 4 f17, ai_ cy g18 24 f18, aj_ cy g19 120 f19, aj_ cy g20 5 f_60] (by rw [ef_60]; exact hP) (by rw [ef_60]; exact hD) (fun hP hD => ?_)
                                obtain ⟨y_61, ey_61⟩ : ∃ y : Int32, y = x9_38 + 1 := ⟨_, rfl⟩
                                have ty_61 : y_61.toInt = x9_38.toInt + (1 : Int32).toInt := by rw [ey_61]; exact addI (by omega) (by omega)
                                refine lv_iinc (v := y_61) (lv' := [(9, .int y_61), (8, .int y_26), (7, .int y_22), (0, .ref mo), (1, .int a1), (2, .int a2), (3, .int a3), (4, .int a4), (5, .int a5), (6, .int a6)]) hx hb dB_3_3_13.1.2.2.1 hl (k := 0) rfl (by rw [ey_61]; rfl) (by decide) rfl (fun ls hl => ?_)
                                refine lv_goto (tgt := 169) hx hb dB_3_3_13.1.2.2.2 (by decide) ?_
                                exact ih_38 y_61 f_60 _ _ _ (by omega) (by first | with_reducible assumption | omega | assumption) (by first | with_reducible assumption | omega | assumption) (by first | exact cpd_st v2_38 ef_60 ey_58 (by omega) (by omega) (by omega) | (intro q hq; omega)) ⟨hP, hD⟩ hS (lv_sub hl [0, 1, 2, 3, 4, 5, 6, 7, 8, 9] rfl)
                          · exact absurd c_37 (by decide)
                        · have e_ := e_.symm
                          subst e_
                          refine lv_if_ne (tgt := 166) hx hb dB_3_3_11.2.1.2.1 (by decide) (fun c_62 => ?_) (fun c_62 => ?_)
                          · exact absurd c_62 (by decide)
                          · have _ := c_62
                            refine lv_aload_n hx hb dB_3_3_11.2.1.2.2 rfl (lv_at hl 2 rfl) ?_
                            refine lv_bipush (v := (-12)) hx hb dB_3_3_11.2.2.1.1 (by decide) ?_
                            refine ct_S hP hD hS hA [ob12_0_ mo 0 0 t2 s3 s4 g5 g6 g7 g8 g9 g10 s11 g12 g13 g14 g15 g16 g17 g18 g19 g20 s21 g22 g23 g24 s25 s26 s27 s28 g29 g30 g31 g32 g33] [0] (by decide) rfl (fun hPc hDw hFc hC_ => ?_)
                            refine va_calli (va_runV (As := [.int (-12)]) (rest := []) ⟨hx, hb, hml, hown, hts⟩ (c_X12_no2 l D cy H.size mo g5 g6 g7 g8 g9 g10 g12 g13 g14 g15 g16 g17 g18 g19 g20 g22 g23 g24 g29 g30 g31 g32 g33 (0 : Int32) (0 : Int32) s3 s4 s11 s21 s25 s26 s27 s28 t2 ((-12) : Int32)) (cwV 1 hts gX12_copy_X12_no rfl rfl rfl ⟨rfl, hd_X12_no⟩ ⟨Nat.le_of_ble_eq_true rfl, Nat.le_of_ble_eq_true rfl⟩) ⟨bl_, va_recvX hK.1 hP (ci := 12) (q0 := 0) rfl rfl, fun U hU hW => ⟨rfl, by rw [hU], by rw [hU]; exact hPc, kk_mv hW hK, hDw⟩⟩ rfl rfl hl.1 rfl (lv_room (Nat.le_of_ble_eq_true rfl)) dB_3_3_11.2.2.1.2 ⟨Nat.le_of_ble_eq_true rfl, Nat.le_of_ble_eq_true rfl⟩) hS (fun q _ h => hFc q h) hFc (fun r_63 u t H locs ht hvm hw hB hz1 hk1 hS => ?_)
                            obtain ⟨n1_64, g_65, hP1, hD1⟩ := hB
                            rw [ht] at hP1
                            obtain ⟨hP, hD⟩ := va_join (wr := [az_ cy g15 4 f15, ai_ cy g17 4 f17, ai_ cy g18 24 f18, aj_ cy g19 120 f19, aj_ cy g20 5 f20]) (w1 := [ob12_0_ mo 0 n1_64 t2 s3 s4 g5 g6 g7 g8 g9 g10 s11 g12 g13 g14 g15 g16 g17 g18 g19 g20 s21 g22 g23 g24 s25 s26 s27 s28 g29 g30 g31 g32 g33]) hP hD [0] [1, 2, 3, 4, 5] hC_ rfl (by decide) (by decide) hk1 hFc hP1 hD1
                            refine pd_S hP hD [ob12_0_ mo 0 n1_64 t2 s3 s4 g5 g6 g7 g8 g9 g10 s11 g12 g13 g14 g15 g16 g17 g18 g19 g20 s21 g22 g23 g24 s25 s26 s27 s28 g29 g30 g31 g32 g33, az_ cy g15 4 f15, ai_ cy g17 4 f17, ai_ cy g18 24 f18, aj_ cy g19 120 f19, aj_ cy g20 5 f20] [5, 0, 1, 2, 3, 4] (by decide) rfl (fun hP hD => ?_)
                            have f0_r_63 := hw
                            have hno_ := g_65
                            rw [hQ]
                            exact W.iret (v := r_63) hx hb hr (fun t ht hW => ⟨⟨r_63, (), rfl, (by first | (have h9 := congrArg Int32.toInt f0_r_63; unfold cpyI; (repeat' (first | with_reducible refine if_n (by omega) ?_ | with_reducible refine if_ns (by omega) ?_ | with_reducible refine if_nz (by omega) ?_ | with_reducible exact if_p (by omega) (by omega) | with_reducible exact if_ps (by omega) (by omega) | with_reducible exact if_pz (by omega) (by omega))) <;> omega) | (unfold cpyI; (repeat' (first | with_reducible refine if_n (by omega) ?_ | with_reducible refine if_ns (by omega) ?_ | with_reducible refine if_nz (by omega) ?_ | with_reducible exact if_p (by omega) (by omega) | with_reducible exact if_ps (by omega) (by omega) | with_reducible exact if_pz (by omega) (by omega))) <;> omega)), n1_64, f19, f20, (by first | (have h9 := congrArg Int32.toInt hno_; unfold cpyI; (repeat' (first | with_reducible refine if_n (by omega) ?_ | with_reducible refine if_ns (by omega) ?_ | with_reducible refine if_nz (by omega) ?_ | with_reducible exact if_p (by omega) (by omega) | with_reducible exact if_ps (by omega) (by omega) | with_reducible exact if_pz (by omega) (by omega))) <;> omega) | (unfold cpyI; (repeat' (first | with_reducible refine if_n (by omega) ?_ | with_reducible refine if_ns (by omega) ?_ | with_reducible refine if_nz (by omega) ?_ | with_reducible exact if_p (by omega) (by omega) | with_reducible exact if_ps (by omega) (by omega) | with_reducible exact if_pz (by omega) (by omega))) <;> omega)), (by first | exact ⟨fun _ => rfl, fun h => absurd h (by first | omega | (have h9_ := congrArg Int32.toInt hno_; omega) | decide)⟩ | exact ⟨fun h => absurd (by first | omega | (have h9_ := congrArg Int32.toInt hno_; omega) | decide) h, fun _ => h9_⟩), by rw [ht]; exact hP, hD⟩, hS.F ht⟩) hS.2.2 dB_3_3_11.2.2.2.1
                    · have e_ := e_.symm
                      subst e_
                      refine lv_if_eq (tgt := 159) hx hb dB_3_3_11.1.2.1.2 (by decide) (fun c_66 => ?_) (fun c_66 => ?_)
                      · have _ := c_66
                        refine lv_aload_n hx hb dB_3_3_11.2.1.2.2 rfl (lv_at hl 2 rfl) ?_
                        refine lv_bipush (v := (-12)) hx hb dB_3_3_11.2.2.1.1 (by decide) ?_
                        refine ct_S hP hD hS hA [ob12_0_ mo 0 0 t2 s3 s4 g5 g6 g7 g8 g9 g10 s11 g12 g13 g14 g15 g16 g17 g18 g19 g20 s21 g22 g23 g24 s25 s26 s27 s28 g29 g30 g31 g32 g33] [0] (by decide) rfl (fun hPc hDw hFc hC_ => ?_)
                        refine va_calli (va_runV (As := [.int (-12)]) (rest := []) ⟨hx, hb, hml, hown, hts⟩ (c_X12_no2 l D cy H.size mo g5 g6 g7 g8 g9 g10 g12 g13 g14 g15 g16 g17 g18 g19 g20 g22 g23 g24 g29 g30 g31 g32 g33 (0 : Int32) (0 : Int32) s3 s4 s11 s21 s25 s26 s27 s28 t2 ((-12) : Int32)) (cwV 1 hts gX12_copy_X12_no rfl rfl rfl ⟨rfl, hd_X12_no⟩ ⟨Nat.le_of_ble_eq_true rfl, Nat.le_of_ble_eq_true rfl⟩) ⟨bl_, va_recvX hK.1 hP (ci := 12) (q0 := 0) rfl rfl, fun U hU hW => ⟨rfl, by rw [hU], by rw [hU]; exact hPc, kk_mv hW hK, hDw⟩⟩ rfl rfl hl.1 rfl (lv_room (Nat.le_of_ble_eq_true rfl)) dB_3_3_11.2.2.1.2 ⟨Nat.le_of_ble_eq_true rfl, Nat.le_of_ble_eq_true rfl⟩) hS (fun q _ h => hFc q h) hFc (fun r_67 u t H locs ht hvm hw hB hz1 hk1 hS => ?_)
                        obtain ⟨n1_68, g_69, hP1, hD1⟩ := hB
                        rw [ht] at hP1
                        obtain ⟨hP, hD⟩ := va_join (wr := [az_ cy g15 4 f15, ai_ cy g17 4 f17, ai_ cy g18 24 f18, aj_ cy g19 120 f19, aj_ cy g20 5 f20]) (w1 := [ob12_0_ mo 0 n1_68 t2 s3 s4 g5 g6 g7 g8 g9 g10 s11 g12 g13 g14 g15 g16 g17 g18 g19 g20 s21 g22 g23 g24 s25 s26 s27 s28 g29 g30 g31 g32 g33]) hP hD [0] [1, 2, 3, 4, 5] hC_ rfl (by decide) (by decide) hk1 hFc hP1 hD1
                        refine pd_S hP hD [ob12_0_ mo 0 n1_68 t2 s3 s4 g5 g6 g7 g8 g9 g10 s11 g12 g13 g14 g15 g16 g17 g18 g19 g20 s21 g22 g23 g24 s25 s26 s27 s28 g29 g30 g31 g32 g33, az_ cy g15 4 f15, ai_ cy g17 4 f17, ai_ cy g18 24 f18, aj_ cy g19 120 f19, aj_ cy g20 5 f20] [5, 0, 1, 2, 3, 4] (by decide) rfl (fun hP hD => ?_)
                        have f0_r_67 := hw
                        have hno_ := g_69
                        rw [hQ]
                        exact W.iret (v := r_67) hx hb hr (fun t ht hW => ⟨⟨r_67, (), rfl, (by first | (have h9 := congrArg Int32.toInt f0_r_67; unfold cpyI; (repeat' (first | with_reducible refine if_n (by omega) ?_ | with_reducible refine if_ns (by omega) ?_ | with_reducible refine if_nz (by omega) ?_ | with_reducible exact if_p (by omega) (by omega) | with_reducible exact if_ps (by omega) (by omega) | with_reducible exact if_pz (by omega) (by omega))) <;> omega) | (unfold cpyI; (repeat' (first | with_reducible refine if_n (by omega) ?_ | with_reducible refine if_ns (by omega) ?_ | with_reducible refine if_nz (by omega) ?_ | with_reducible exact if_p (by omega) (by omega) | with_reducible exact if_ps (by omega) (by omega) | with_reducible exact if_pz (by omega) (by omega))) <;> omega)), n1_68, f19, f20, (by first | (have h9 := congrArg Int32.toInt hno_; unfold cpyI; (repeat' (first | with_reducible refine if_n (by omega) ?_ | with_reducible refine if_ns (by omega) ?_ | with_reducible refine if_nz (by omega) ?_ | with_reducible exact if_p (by omega) (by omega) | with_reducible exact if_ps (by omega) (by omega) | with_reducible exact if_pz (by omega) (by omega))) <;> omega) | (unfold cpyI; (repeat' (first | with_reducible refine if_n (by omega) ?_ | with_reducible refine if_ns (by omega) ?_ | with_reducible refine if_nz (by omega) ?_ | with_reducible exact if_p (by omega) (by omega) | with_reducible exact if_ps (by omega) (by omega) | with_reducible exact if_pz (by omega) (by omega))) <;> omega)), (by first | exact ⟨fun _ => rfl, fun h => absurd h (by first | omega | (have h9_ := congrArg Int32.toInt hno_; omega) | decide)⟩ | exact ⟨fun h => absurd (by first | omega | (have h9_ := congrArg Int32.toInt hno_; omega) | decide) h, fun _ => h9_⟩), by rw [ht]; exact hP, hD⟩, hS.F ht⟩) hS.2.2 dB_3_3_11.2.2.2.1
                      · exact absurd c_66 (by decide)
                  · have t_31 : y_26.toInt = ((-9) : Int32).toInt := congrArg Int32.toInt c_31
                    refine lv_aload_n hx hb dB_3_3_10.2.2.1.2 rfl (lv_at hl 2 rfl) ?_
                    refine lv_bipush (v := (-11)) hx hb dB_3_3_10.2.2.2.1 (by decide) ?_
                    refine ct_S hP hD hS hA [ob12_0_ mo 0 0 t2 s3 s4 g5 g6 g7 g8 g9 g10 s11 g12 g13 g14 g15 g16 g17 g18 g19 g20 s21 g22 g23 g24 s25 s26 s27 s28 g29 g30 g31 g32 g33] [0] (by decide) rfl (fun hPc hDw hFc hC_ => ?_)
                    refine va_calli (va_runV (As := [.int (-11)]) (rest := []) ⟨hx, hb, hml, hown, hts⟩ (c_X12_no2 l D cy H.size mo g5 g6 g7 g8 g9 g10 g12 g13 g14 g15 g16 g17 g18 g19 g20 g22 g23 g24 g29 g30 g31 g32 g33 (0 : Int32) (0 : Int32) s3 s4 s11 s21 s25 s26 s27 s28 t2 ((-11) : Int32)) (cwV 1 hts gX12_copy_X12_no rfl rfl rfl ⟨rfl, hd_X12_no⟩ ⟨Nat.le_of_ble_eq_true rfl, Nat.le_of_ble_eq_true rfl⟩) ⟨bl_, va_recvX hK.1 hP (ci := 12) (q0 := 0) rfl rfl, fun U hU hW => ⟨rfl, by rw [hU], by rw [hU]; exact hPc, kk_mv hW hK, hDw⟩⟩ rfl rfl hl.1 rfl (lv_room (Nat.le_of_ble_eq_true rfl)) dB_3_3_10.2.2.2.2 ⟨Nat.le_of_ble_eq_true rfl, Nat.le_of_ble_eq_true rfl⟩) hS (fun q _ h => hFc q h) hFc (fun r_70 u t H locs ht hvm hw hB hz1 hk1 hS => ?_)
                    obtain ⟨n1_71, g_72, hP1, hD1⟩ := hB
                    rw [ht] at hP1
                    obtain ⟨hP, hD⟩ := va_join (wr := [az_ cy g15 4 f15, ai_ cy g17 4 f17, ai_ cy g18 24 f18, aj_ cy g19 120 f19, aj_ cy g20 5 f20]) (w1 := [ob12_0_ mo 0 n1_71 t2 s3 s4 g5 g6 g7 g8 g9 g10 s11 g12 g13 g14 g15 g16 g17 g18 g19 g20 s21 g22 g23 g24 s25 s26 s27 s28 g29 g30 g31 g32 g33]) hP hD [0] [1, 2, 3, 4, 5] hC_ rfl (by decide) (by decide) hk1 hFc hP1 hD1
                    refine pd_S hP hD [ob12_0_ mo 0 n1_71 t2 s3 s4 g5 g6 g7 g8 g9 g10 s11 g12 g13 g14 g15 g16 g17 g18 g19 g20 s21 g22 g23 g24 s25 s26 s27 s28 g29 g30 g31 g32 g33, az_ cy g15 4 f15, ai_ cy g17 4 f17, ai_ cy g18 24 f18, aj_ cy g19 120 f19, aj_ cy g20 5 f20] [5, 0, 1, 2, 3, 4] (by decide) rfl (fun hP hD => ?_)
                    have f0_r_70 := hw
                    have hno_ := g_72
                    rw [hQ]
                    exact W.iret (v := r_70) hx hb hr (fun t ht hW => ⟨⟨r_70, (), rfl, (by first | (have h9 := congrArg Int32.toInt f0_r_70; unfold cpyI; (repeat' (first | with_reducible refine if_n (by omega) ?_ | with_reducible refine if_ns (by omega) ?_ | with_reducible refine if_nz (by omega) ?_ | with_reducible exact if_p (by omega) (by omega) | with_reducible exact if_ps (by omega) (by omega) | with_reducible exact if_pz (by omega) (by omega))) <;> omega) | (unfold cpyI; (repeat' (first | with_reducible refine if_n (by omega) ?_ | with_reducible refine if_ns (by omega) ?_ | with_reducible refine if_nz (by omega) ?_ | with_reducible exact if_p (by omega) (by omega) | with_reducible exact if_ps (by omega) (by omega) | with_reducible exact if_pz (by omega) (by omega))) <;> omega)), n1_71, f19, f20, (by first | (have h9 := congrArg Int32.toInt hno_; unfold cpyI; (repeat' (first | with_reducible refine if_n (by omega) ?_ | with_reducible refine if_ns (by omega) ?_ | with_reducible refine if_nz (by omega) ?_ | with_reducible exact if_p (by omega) (by omega) | with_reducible exact if_ps (by omega) (by omega) | with_reducible exact if_pz (by omega) (by omega))) <;> omega) | (unfold cpyI; (repeat' (first | with_reducible refine if_n (by omega) ?_ | with_reducible refine if_ns (by omega) ?_ | with_reducible refine if_nz (by omega) ?_ | with_reducible exact if_p (by omega) (by omega) | with_reducible exact if_ps (by omega) (by omega) | with_reducible exact if_pz (by omega) (by omega))) <;> omega)), (by first | exact ⟨fun _ => rfl, fun h => absurd h (by first | omega | (have h9_ := congrArg Int32.toInt hno_; omega) | decide)⟩ | exact ⟨fun h => absurd (by first | omega | (have h9_ := congrArg Int32.toInt hno_; omega) | decide) h, fun _ => h9_⟩), by rw [ht]; exact hP, hD⟩, hS.F ht⟩) hS.2.2 dB_3_3_11.1.1.1.1
              · exact absurd c_18 (by decide)
            · have e_ := e_.symm
              subst e_
              refine lv_if_ne (tgt := 88) hx hb dB_3_3_9.1.1.1.1 (by decide) (fun c_73 => ?_) (fun c_73 => ?_)
              · exact absurd c_73 (by decide)
              · have _ := c_73
                refine lv_aload_n hx hb dB_3_3_9.1.1.1.2 rfl (lv_at hl 0 rfl) ?_
                refine lv_bipush (v := (-12)) hx hb dB_3_3_9.1.1.2.1 (by decide) ?_
                refine ct_S hP hD hS hA [ob12_0_ mo 0 0 t2 s3 s4 g5 g6 g7 g8 g9 g10 s11 g12 g13 g14 g15 g16 g17 g18 g19 g20 s21 g22 g23 g24 s25 s26 s27 s28 g29 g30 g31 g32 g33] [0] (by decide) rfl (fun hPc hDw hFc hC_ => ?_)
                refine va_calli (va_runV (As := [.int (-12)]) (rest := []) ⟨hx, hb, hml, hown, hts⟩ (c_X12_no2 l D cy H.size mo g5 g6 g7 g8 g9 g10 g12 g13 g14 g15 g16 g17 g18 g19 g20 g22 g23 g24 g29 g30 g31 g32 g33 (0 : Int32) (0 : Int32) s3 s4 s11 s21 s25 s26 s27 s28 t2 ((-12) : Int32)) (cwV 1 hts gX12_copy_X12_no rfl rfl rfl ⟨rfl, hd_X12_no⟩ ⟨Nat.le_of_ble_eq_true rfl, Nat.le_of_ble_eq_true rfl⟩) ⟨bl_, va_recvX hK.1 hP (ci := 12) (q0 := 0) rfl rfl, fun U hU hW => ⟨rfl, by rw [hU], by rw [hU]; exact hPc, kk_mv hW hK, hDw⟩⟩ rfl rfl hl.1 rfl (lv_room (Nat.le_of_ble_eq_true rfl)) dB_3_3_9.1.1.2.2 ⟨Nat.le_of_ble_eq_true rfl, Nat.le_of_ble_eq_true rfl⟩) hS (fun q _ h => hFc q h) hFc (fun r_74 u t H locs ht hvm hw hB hz1 hk1 hS => ?_)
                obtain ⟨n1_75, g_76, hP1, hD1⟩ := hB
                rw [ht] at hP1
                obtain ⟨hP, hD⟩ := va_join (wr := [az_ cy g15 4 f15, ai_ cy g17 4 f17, ai_ cy g18 24 f18, aj_ cy g19 120 f19, aj_ cy g20 5 f20]) (w1 := [ob12_0_ mo 0 n1_75 t2 s3 s4 g5 g6 g7 g8 g9 g10 s11 g12 g13 g14 g15 g16 g17 g18 g19 g20 s21 g22 g23 g24 s25 s26 s27 s28 g29 g30 g31 g32 g33]) hP hD [0] [1, 2, 3, 4, 5] hC_ rfl (by decide) (by decide) hk1 hFc hP1 hD1
                refine pd_S hP hD [ob12_0_ mo 0 n1_75 t2 s3 s4 g5 g6 g7 g8 g9 g10 s11 g12 g13 g14 g15 g16 g17 g18 g19 g20 s21 g22 g23 g24 s25 s26 s27 s28 g29 g30 g31 g32 g33, az_ cy g15 4 f15, ai_ cy g17 4 f17, ai_ cy g18 24 f18, aj_ cy g19 120 f19, aj_ cy g20 5 f20] [5, 0, 1, 2, 3, 4] (by decide) rfl (fun hP hD => ?_)
                have f0_r_74 := hw
                have hno_ := g_76
                rw [hQ]
                exact W.iret (v := r_74) hx hb hr (fun t ht hW => ⟨⟨r_74, (), rfl, (by first | (have h9 := congrArg Int32.toInt f0_r_74; unfold cpyI; (repeat' (first | with_reducible refine if_n (by omega) ?_ | with_reducible refine if_ns (by omega) ?_ | with_reducible refine if_nz (by omega) ?_ | with_reducible exact if_p (by omega) (by omega) | with_reducible exact if_ps (by omega) (by omega) | with_reducible exact if_pz (by omega) (by omega))) <;> omega) | (unfold cpyI; (repeat' (first | with_reducible refine if_n (by omega) ?_ | with_reducible refine if_ns (by omega) ?_ | with_reducible refine if_nz (by omega) ?_ | with_reducible exact if_p (by omega) (by omega) | with_reducible exact if_ps (by omega) (by omega) | with_reducible exact if_pz (by omega) (by omega))) <;> omega)), n1_75, f19, f20, (by first | (have h9 := congrArg Int32.toInt hno_; unfold cpyI; (repeat' (first | with_reducible refine if_n (by omega) ?_ | with_reducible refine if_ns (by omega) ?_ | with_reducible refine if_nz (by omega) ?_ | with_reducible exact if_p (by omega) (by omega) | with_reducible exact if_ps (by omega) (by omega) | with_reducible exact if_pz (by omega) (by omega))) <;> omega) | (unfold cpyI; (repeat' (first | with_reducible refine if_n (by omega) ?_ | with_reducible refine if_ns (by omega) ?_ | with_reducible refine if_nz (by omega) ?_ | with_reducible exact if_p (by omega) (by omega) | with_reducible exact if_ps (by omega) (by omega) | with_reducible exact if_pz (by omega) (by omega))) <;> omega)), (by first | exact ⟨fun _ => rfl, fun h => absurd h (by first | omega | (have h9_ := congrArg Int32.toInt hno_; omega) | decide)⟩ | exact ⟨fun h => absurd (by first | omega | (have h9_ := congrArg Int32.toInt hno_; omega) | decide) h, fun _ => h9_⟩), by rw [ht]; exact hP, hD⟩, hS.F ht⟩) hS.2.2 dB_3_3_9.1.2.1.1
        · have e_ := e_.symm
          subst e_
          refine lv_if_eq (tgt := 81) hx hb dB_3_3_8.1.2.1.1 (by decide) (fun c_77 => ?_) (fun c_77 => ?_)
          · have _ := c_77
            refine lv_aload_n hx hb dB_3_3_9.1.1.1.2 rfl (lv_at hl 0 rfl) ?_
            refine lv_bipush (v := (-12)) hx hb dB_3_3_9.1.1.2.1 (by decide) ?_
            refine ct_S hP hD hS hA [ob12_0_ mo 0 0 t2 s3 s4 g5 g6 g7 g8 g9 g10 s11 g12 g13 g14 g15 g16 g17 g18 g19 g20 s21 g22 g23 g24 s25 s26 s27 s28 g29 g30 g31 g32 g33] [0] (by decide) rfl (fun hPc hDw hFc hC_ => ?_)
            refine va_calli (va_runV (As := [.int (-12)]) (rest := []) ⟨hx, hb, hml, hown, hts⟩ (c_X12_no2 l D cy H.size mo g5 g6 g7 g8 g9 g10 g12 g13 g14 g15 g16 g17 g18 g19 g20 g22 g23 g24 g29 g30 g31 g32 g33 (0 : Int32) (0 : Int32) s3 s4 s11 s21 s25 s26 s27 s28 t2 ((-12) : Int32)) (cwV 1 hts gX12_copy_X12_no rfl rfl rfl ⟨rfl, hd_X12_no⟩ ⟨Nat.le_of_ble_eq_true rfl, Nat.le_of_ble_eq_true rfl⟩) ⟨bl_, va_recvX hK.1 hP (ci := 12) (q0 := 0) rfl rfl, fun U hU hW => ⟨rfl, by rw [hU], by rw [hU]; exact hPc, kk_mv hW hK, hDw⟩⟩ rfl rfl hl.1 rfl (lv_room (Nat.le_of_ble_eq_true rfl)) dB_3_3_9.1.1.2.2 ⟨Nat.le_of_ble_eq_true rfl, Nat.le_of_ble_eq_true rfl⟩) hS (fun q _ h => hFc q h) hFc (fun r_78 u t H locs ht hvm hw hB hz1 hk1 hS => ?_)
            obtain ⟨n1_79, g_80, hP1, hD1⟩ := hB
            rw [ht] at hP1
            obtain ⟨hP, hD⟩ := va_join (wr := [az_ cy g15 4 f15, ai_ cy g17 4 f17, ai_ cy g18 24 f18, aj_ cy g19 120 f19, aj_ cy g20 5 f20]) (w1 := [ob12_0_ mo 0 n1_79 t2 s3 s4 g5 g6 g7 g8 g9 g10 s11 g12 g13 g14 g15 g16 g17 g18 g19 g20 s21 g22 g23 g24 s25 s26 s27 s28 g29 g30 g31 g32 g33]) hP hD [0] [1, 2, 3, 4, 5] hC_ rfl (by decide) (by decide) hk1 hFc hP1 hD1
            refine pd_S hP hD [ob12_0_ mo 0 n1_79 t2 s3 s4 g5 g6 g7 g8 g9 g10 s11 g12 g13 g14 g15 g16 g17 g18 g19 g20 s21 g22 g23 g24 s25 s26 s27 s28 g29 g30 g31 g32 g33, az_ cy g15 4 f15, ai_ cy g17 4 f17, ai_ cy g18 24 f18, aj_ cy g19 120 f19, aj_ cy g20 5 f20] [5, 0, 1, 2, 3, 4] (by decide) rfl (fun hP hD => ?_)
            have f0_r_78 := hw
            have hno_ := g_80
            rw [hQ]
            exact W.iret (v := r_78) hx hb hr (fun t ht hW => ⟨⟨r_78, (), rfl, (by first | (have h9 := congrArg Int32.toInt f0_r_78; unfold cpyI; (repeat' (first | with_reducible refine if_n (by omega) ?_ | with_reducible refine if_ns (by omega) ?_ | with_reducible refine if_nz (by omega) ?_ | with_reducible exact if_p (by omega) (by omega) | with_reducible exact if_ps (by omega) (by omega) | with_reducible exact if_pz (by omega) (by omega))) <;> omega) | (unfold cpyI; (repeat' (first | with_reducible refine if_n (by omega) ?_ | with_reducible refine if_ns (by omega) ?_ | with_reducible refine if_nz (by omega) ?_ | with_reducible exact if_p (by omega) (by omega) | with_reducible exact if_ps (by omega) (by omega) | with_reducible exact if_pz (by omega) (by omega))) <;> omega)), n1_79, f19, f20, (by first | (have h9 := congrArg Int32.toInt hno_; unfold cpyI; (repeat' (first | with_reducible refine if_n (by omega) ?_ | with_reducible refine if_ns (by omega) ?_ | with_reducible refine if_nz (by omega) ?_ | with_reducible exact if_p (by omega) (by omega) | with_reducible exact if_ps (by omega) (by omega) | with_reducible exact if_pz (by omega) (by omega))) <;> omega) | (unfold cpyI; (repeat' (first | with_reducible refine if_n (by omega) ?_ | with_reducible refine if_ns (by omega) ?_ | with_reducible refine if_nz (by omega) ?_ | with_reducible exact if_p (by omega) (by omega) | with_reducible exact if_ps (by omega) (by omega) | with_reducible exact if_pz (by omega) (by omega))) <;> omega)), (by first | exact ⟨fun _ => rfl, fun h => absurd h (by first | omega | (have h9_ := congrArg Int32.toInt hno_; omega) | decide)⟩ | exact ⟨fun h => absurd (by first | omega | (have h9_ := congrArg Int32.toInt hno_; omega) | decide) h, fun _ => h9_⟩), by rw [ht]; exact hP, hD⟩, hS.F ht⟩) hS.2.2 dB_3_3_9.1.2.1.1
          · exact absurd c_77 (by decide)
      · have t_6 : y_5.toInt = (0 : Int32).toInt := congrArg Int32.toInt c_6
        refine lv_aload_n hx hb dB_3_3_7.1.2.1.2 rfl (lv_at hl 0 rfl) ?_
        refine lv_bipush (v := (-11)) hx hb dB_3_3_7.1.2.2.1 (by decide) ?_
        refine ct_S hP hD hS hA [ob12_0_ mo 0 0 t2 s3 s4 g5 g6 g7 g8 g9 g10 s11 g12 g13 g14 g15 g16 g17 g18 g19 g20 s21 g22 g23 g24 s25 s26 s27 s28 g29 g30 g31 g32 g33] [0] (by decide) rfl (fun hPc hDw hFc hC_ => ?_)
        refine va_calli (va_runV (As := [.int (-11)]) (rest := []) ⟨hx, hb, hml, hown, hts⟩ (c_X12_no2 l D cy H.size mo g5 g6 g7 g8 g9 g10 g12 g13 g14 g15 g16 g17 g18 g19 g20 g22 g23 g24 g29 g30 g31 g32 g33 (0 : Int32) (0 : Int32) s3 s4 s11 s21 s25 s26 s27 s28 t2 ((-11) : Int32)) (cwV 1 hts gX12_copy_X12_no rfl rfl rfl ⟨rfl, hd_X12_no⟩ ⟨Nat.le_of_ble_eq_true rfl, Nat.le_of_ble_eq_true rfl⟩) ⟨bl_, va_recvX hK.1 hP (ci := 12) (q0 := 0) rfl rfl, fun U hU hW => ⟨rfl, by rw [hU], by rw [hU]; exact hPc, kk_mv hW hK, hDw⟩⟩ rfl rfl hl.1 rfl (lv_room (Nat.le_of_ble_eq_true rfl)) dB_3_3_7.1.2.2.2 ⟨Nat.le_of_ble_eq_true rfl, Nat.le_of_ble_eq_true rfl⟩) hS (fun q _ h => hFc q h) hFc (fun r_81 u t H locs ht hvm hw hB hz1 hk1 hS => ?_)
        obtain ⟨n1_82, g_83, hP1, hD1⟩ := hB
        rw [ht] at hP1
        obtain ⟨hP, hD⟩ := va_join (wr := [az_ cy g15 4 f15, ai_ cy g17 4 f17, ai_ cy g18 24 f18, aj_ cy g19 120 f19, aj_ cy g20 5 f20]) (w1 := [ob12_0_ mo 0 n1_82 t2 s3 s4 g5 g6 g7 g8 g9 g10 s11 g12 g13 g14 g15 g16 g17 g18 g19 g20 s21 g22 g23 g24 s25 s26 s27 s28 g29 g30 g31 g32 g33]) hP hD [0] [1, 2, 3, 4, 5] hC_ rfl (by decide) (by decide) hk1 hFc hP1 hD1
        refine pd_S hP hD [ob12_0_ mo 0 n1_82 t2 s3 s4 g5 g6 g7 g8 g9 g10 s11 g12 g13 g14 g15 g16 g17 g18 g19 g20 s21 g22 g23 g24 s25 s26 s27 s28 g29 g30 g31 g32 g33, az_ cy g15 4 f15, ai_ cy g17 4 f17, ai_ cy g18 24 f18, aj_ cy g19 120 f19, aj_ cy g20 5 f20] [5, 0, 1, 2, 3, 4] (by decide) rfl (fun hP hD => ?_)
        have f0_r_81 := hw
        have hno_ := g_83
        rw [hQ]
        exact W.iret (v := r_81) hx hb hr (fun t ht hW => ⟨⟨r_81, (), rfl, (by first | (have h9 := congrArg Int32.toInt f0_r_81; unfold cpyI; (repeat' (first | with_reducible refine if_n (by omega) ?_ | with_reducible refine if_ns (by omega) ?_ | with_reducible refine if_nz (by omega) ?_ | with_reducible exact if_p (by omega) (by omega) | with_reducible exact if_ps (by omega) (by omega) | with_reducible exact if_pz (by omega) (by omega))) <;> omega) | (unfold cpyI; (repeat' (first | with_reducible refine if_n (by omega) ?_ | with_reducible refine if_ns (by omega) ?_ | with_reducible refine if_nz (by omega) ?_ | with_reducible exact if_p (by omega) (by omega) | with_reducible exact if_ps (by omega) (by omega) | with_reducible exact if_pz (by omega) (by omega))) <;> omega)), n1_82, f19, f20, (by first | (have h9 := congrArg Int32.toInt hno_; unfold cpyI; (repeat' (first | with_reducible refine if_n (by omega) ?_ | with_reducible refine if_ns (by omega) ?_ | with_reducible refine if_nz (by omega) ?_ | with_reducible exact if_p (by omega) (by omega) | with_reducible exact if_ps (by omega) (by omega) | with_reducible exact if_pz (by omega) (by omega))) <;> omega) | (unfold cpyI; (repeat' (first | with_reducible refine if_n (by omega) ?_ | with_reducible refine if_ns (by omega) ?_ | with_reducible refine if_nz (by omega) ?_ | with_reducible exact if_p (by omega) (by omega) | with_reducible exact if_ps (by omega) (by omega) | with_reducible exact if_pz (by omega) (by omega))) <;> omega)), (by first | exact ⟨fun _ => rfl, fun h => absurd h (by first | omega | (have h9_ := congrArg Int32.toInt hno_; omega) | decide)⟩ | exact ⟨fun h => absurd (by first | omega | (have h9_ := congrArg Int32.toInt hno_; omega) | decide) h, fun _ => h9_⟩), by rw [ht]; exact hP, hD⟩, hS.F ht⟩) hS.2.2 dB_3_3_7.2.1.1.1
    · exact absurd c_3 (by decide)
  · have e_ := e_.symm
    subst e_
    refine lv_if_ne (tgt := 28) hx hb dB_3_3_6.2.1.2.2 (by decide) (fun c_84 => ?_) (fun c_84 => ?_)
    · exact absurd c_84 (by decide)
    · have _ := c_84
      refine lv_aload_n hx hb dB_3_3_6.2.2.1.1 rfl (lv_at hl 0 rfl) ?_
      refine lv_iconst (v := (-1)) hx hb dB_3_3_6.2.2.1.2 (by decide) ?_
      refine ct_S hP hD hS hA [ob12_0_ mo 0 0 t2 s3 s4 g5 g6 g7 g8 g9 g10 s11 g12 g13 g14 g15 g16 g17 g18 g19 g20 s21 g22 g23 g24 s25 s26 s27 s28 g29 g30 g31 g32 g33] [0] (by decide) rfl (fun hPc hDw hFc hC_ => ?_)
      refine va_calli (va_runV (As := [.int (-1)]) (rest := []) ⟨hx, hb, hml, hown, hts⟩ (c_X12_no2 l D cy H.size mo g5 g6 g7 g8 g9 g10 g12 g13 g14 g15 g16 g17 g18 g19 g20 g22 g23 g24 g29 g30 g31 g32 g33 (0 : Int32) (0 : Int32) s3 s4 s11 s21 s25 s26 s27 s28 t2 ((-1) : Int32)) (cwV 1 hts gX12_copy_X12_no rfl rfl rfl ⟨rfl, hd_X12_no⟩ ⟨Nat.le_of_ble_eq_true rfl, Nat.le_of_ble_eq_true rfl⟩) ⟨bl_, va_recvX hK.1 hP (ci := 12) (q0 := 0) rfl rfl, fun U hU hW => ⟨rfl, by rw [hU], by rw [hU]; exact hPc, kk_mv hW hK, hDw⟩⟩ rfl rfl hl.1 rfl (lv_room (Nat.le_of_ble_eq_true rfl)) dB_3_3_6.2.2.2.1 ⟨Nat.le_of_ble_eq_true rfl, Nat.le_of_ble_eq_true rfl⟩) hS (fun q _ h => hFc q h) hFc (fun r_85 u t H locs ht hvm hw hB hz1 hk1 hS => ?_)
      obtain ⟨n1_86, g_87, hP1, hD1⟩ := hB
      rw [ht] at hP1
      obtain ⟨hP, hD⟩ := va_join (wr := [az_ cy g15 4 f15, ai_ cy g17 4 f17, ai_ cy g18 24 f18, aj_ cy g19 120 f19, aj_ cy g20 5 f20]) (w1 := [ob12_0_ mo 0 n1_86 t2 s3 s4 g5 g6 g7 g8 g9 g10 s11 g12 g13 g14 g15 g16 g17 g18 g19 g20 s21 g22 g23 g24 s25 s26 s27 s28 g29 g30 g31 g32 g33]) hP hD [0] [1, 2, 3, 4, 5] hC_ rfl (by decide) (by decide) hk1 hFc hP1 hD1
      refine pd_S hP hD [ob12_0_ mo 0 n1_86 t2 s3 s4 g5 g6 g7 g8 g9 g10 s11 g12 g13 g14 g15 g16 g17 g18 g19 g20 s21 g22 g23 g24 s25 s26 s27 s28 g29 g30 g31 g32 g33, az_ cy g15 4 f15, ai_ cy g17 4 f17, ai_ cy g18 24 f18, aj_ cy g19 120 f19, aj_ cy g20 5 f20] [5, 0, 1, 2, 3, 4] (by decide) rfl (fun hP hD => ?_)
      have f0_r_85 := hw
      have hno_ := g_87
      rw [hQ]
      exact W.iret (v := r_85) hx hb hr (fun t ht hW => ⟨⟨r_85, (), rfl, (by first | (have h9 := congrArg Int32.toInt f0_r_85; unfold cpyI; (repeat' (first | with_reducible refine if_n (by omega) ?_ | with_reducible refine if_ns (by omega) ?_ | with_reducible refine if_nz (by omega) ?_ | with_reducible exact if_p (by omega) (by omega) | with_reducible exact if_ps (by omega) (by omega) | with_reducible exact if_pz (by omega) (by omega))) <;> omega) | (unfold cpyI; (repeat' (first | with_reducible refine if_n (by omega) ?_ | with_reducible refine if_ns (by omega) ?_ | with_reducible refine if_nz (by omega) ?_ | with_reducible exact if_p (by omega) (by omega) | with_reducible exact if_ps (by omega) (by omega) | with_reducible exact if_pz (by omega) (by omega))) <;> omega)), n1_86, f19, f20, (by first | (have h9 := congrArg Int32.toInt hno_; unfold cpyI; (repeat' (first | with_reducible refine if_n (by omega) ?_ | with_reducible refine if_ns (by omega) ?_ | with_reducible refine if_nz (by omega) ?_ | with_reducible exact if_p (by omega) (by omega) | with_reducible exact if_ps (by omega) (by omega) | with_reducible exact if_pz (by omega) (by omega))) <;> omega) | (unfold cpyI; (repeat' (first | with_reducible refine if_n (by omega) ?_ | with_reducible refine if_ns (by omega) ?_ | with_reducible refine if_nz (by omega) ?_ | with_reducible exact if_p (by omega) (by omega) | with_reducible exact if_ps (by omega) (by omega) | with_reducible exact if_pz (by omega) (by omega))) <;> omega)), (by first | exact ⟨fun _ => rfl, fun h => absurd h (by first | omega | (have h9_ := congrArg Int32.toInt hno_; omega) | decide)⟩ | exact ⟨fun h => absurd (by first | omega | (have h9_ := congrArg Int32.toInt hno_; omega) | decide) h, fun _ => h9_⟩), by rw [ht]; exact hP, hD⟩, hS.F ht⟩) hS.2.2 dB_3_3_6.2.2.2.2
end

section
/-! ===== the nets of both sides, exactly ===== -/
noncomputable def same5 (n : Int) (a1 a2 a3 a4 a5 b1 b2 b3 b4 b5 : Nat → Int32) : Prop := ∀ j : Nat, (j : Int) < n → a1 j = b1 j ∧ a2 j = b2 j ∧ a3 j = b3 j ∧ a4 j = b4 j ∧ a5 j = b5 j
theorem cpy0 {f g a : Nat → Int32} {k j : Nat} (e : a = va_cpy f g (0 : Int32).toNatClampNeg (0 : Int32).toNatClampNeg k) (h : j < k) : a j = f j := by
  have z : (0 : Int32).toNatClampNeg = 0 := by decide
  rw [e, z, pk_cpy_in (Nat.zero_le _) (by omega), show 0 + (j - 0) = j by omega]
theorem same5_cpy {n : Int32} {a1 a2 a3 a4 a5 b1 b2 b3 b4 b5 c1 c2 c3 c4 c5 : Nat → Int32} (e1 : a1 = va_cpy b1 c1 (0 : Int32).toNatClampNeg (0 : Int32).toNatClampNeg n.toNatClampNeg) (e2 : a2 = va_cpy b2 c2 (0 : Int32).toNatClampNeg (0 : Int32).toNatClampNeg n.toNatClampNeg) (e3 : a3 = va_cpy b3 c3 (0 : Int32).toNatClampNeg (0 : Int32).toNatClampNeg n.toNatClampNeg) (e4 : a4 = va_cpy b4 c4 (0 : Int32).toNatClampNeg (0 : Int32).toNatClampNeg n.toNatClampNeg) (e5 : a5 = va_cpy b5 c5 (0 : Int32).toNatClampNeg (0 : Int32).toNatClampNeg n.toNatClampNeg) (hn : 0 ≤ n.toInt) : same5 n.toInt a1 a2 a3 a4 a5 b1 b2 b3 b4 b5 := fun j hj => by
  have c := clI (i := n) hn
  exact ⟨cpy0 e1 (by omega), cpy0 e2 (by omega), cpy0 e3 (by omega), cpy0 e4 (by omega), cpy0 e5 (by omega)⟩
/-- a line of the class's net and a line of the reference's are one -/
noncomputable def lrl (fk fs fe fw fp k f t w : Int32) (p g : Int) : Prop := fk = k ∧ fw = w ∧ fp.toInt = p ∧ (g ≠ 0 → fs.toInt = -9 ∧ fe.toInt = -9) ∧ (g = 0 → fs = f ∧ fe = t)
noncomputable def nrel (vp vn : Int32) (fk fs fe fw fp : Nat → Int32) (P N : Int32) (f5 f6 f7 f8 f9 f10 : Nat → Int32) : Prop := vp = P ∧ vn = N ∧ ∀ j : Nat, (j : Int) < N.toInt → lrl (fk j) (fs j) (fe j) (fw j) (fp j) (f5 j) (f6 j) (f7 j) (f8 j) (f9 j).toInt (f10 j).toInt
/-- a remembered net and a kept one -/
noncomputable def krel (v : Nat → Int32) (g : Nat → Nat → Int32) (P N : Int32) (b : Nat) (f14 : Nat → Int32) : Prop := v 0 = P ∧ v 1 = N ∧ ∀ j : Nat, (j : Int) < N.toInt → lrl (g 1 j) (g 2 j) (g 3 j) (g 4 j) (g 5 j) (f14 (b + 5 * j)) (f14 (b + 5 * j + 1)) (f14 (b + 5 * j + 2)) (f14 (b + 5 * j + 3)) ((f14 (b + 5 * j + 4)).toInt % 1000) (if 999 < (f14 (b + 5 * j + 4)).toInt then 1 else 0)
noncomputable def prel (pf ph : Int32) (pv : Nat → Nat → Int32) (pg : Nat → Nat → Nat → Int32) (U : Int) (f12 f13 f14 : Nat → Int32) : Prop := ph.toInt = U ∧ ∀ k : Nat, (k : Int) < U → ∀ q : Nat, (q : Int) = (pf.toInt + k) % 30 → krel (pv q) (pg q) (f12 k) (f13 k) (200 * k) f14
/-- what remember() does -/
noncomputable def remd (pf ph : Int32) (pv : Nat → Nat → Int32) (pg : Nat → Nat → Nat → Int32) (vp vn : Int32) (fk fs fe fw fp : Nat → Int32) (epf eph : Int32) (epv : Nat → Nat → Int32) (epg : Nat → Nat → Nat → Int32) : Prop := ∃ s : Nat, (s : Int) = (pf.toInt + ph.toInt) % 30 ∧ (ph.toInt < 30 ∧ epf.toInt = pf.toInt ∧ eph.toInt = ph.toInt + 1 ∨ ph.toInt = 30 ∧ epf.toInt = (pf.toInt + 1) % 30 ∧ eph.toInt = 30) ∧ (∀ i : Nat, i ≠ s → epv i = pv i ∧ epg i = pg i) ∧ epv s 0 = vp ∧ epv s 1 = vn ∧ same5 vn.toInt (epg s 1) (epg s 2) (epg s 3) (epg s 4) (epg s 5) fk fs fe fw fp
/-- the remembered nets stay -/
noncomputable def psm (pv : Nat → Nat → Int32) (pg : Nat → Nat → Nat → Int32) (epv : Nat → Nat → Int32) (epg : Nat → Nat → Nat → Int32) : Prop := ∀ i : Nat, epv i 0 = pv i 0 ∧ epv i 1 = pv i 1 ∧ epg i 1 = pg i 1 ∧ epg i 2 = pg i 2 ∧ epg i 3 = pg i 3 ∧ epg i 4 = pg i 4 ∧ epg i 5 = pg i 5
/-- what undo() does, if there is something to undo -/
noncomputable def undd (pf ph : Int32) (pv : Nat → Nat → Int32) (pg : Nat → Nat → Nat → Int32) (epf eph evp evn : Int32) (efk efs efe efw efp : Nat → Int32) (epv : Nat → Nat → Int32) (epg : Nat → Nat → Nat → Int32) : Prop := epf = pf ∧ eph.toInt = ph.toInt - 1 ∧ psm pv pg epv epg ∧ ∃ k : Nat, (k : Int) = (pf.toInt + (ph.toInt - 1)) % 30 ∧ evp = pv k 0 ∧ evn = pv k 1 ∧ same5 evn.toInt efk efs efe efw efp (pg k 1) (pg k 2) (pg k 3) (pg k 4) (pg k 5)
section NREL
variable {pf ph vp vn epf eph evp evn P N n3 n4 n11 s11 : Int32} {pv epv : Nat → Nat → Int32} {pg epg : Nat → Nat → Nat → Int32} {fk fs fe fw fp efk efs efe efw efp g1 g2 g3 g4 g5 f5 f6 f7 f8 f9 f10 e5 e6 e7 e8 e9 e10 f12 f13 f14 e12 e13 e14 : Nat → Int32} {U U2 : Int} {s k : Nat}
theorem remd_mk (e1 : epv = va_up pv s (qn2 vp vn)) (e2 : epg = va_up pg s (qn5 g1 g2 g3 g4 g5)) (h5 : same5 vn.toInt g1 g2 g3 g4 g5 fk fs fe fw fp) (hs : (s : Int) = (pf.toInt + ph.toInt) % 30) (hc : ph.toInt < 30 ∧ epf.toInt = pf.toInt ∧ eph.toInt = ph.toInt + 1 ∨ ph.toInt = 30 ∧ epf.toInt = (pf.toInt + 1) % 30 ∧ eph.toInt = 30) : remd pf ph pv pg vp vn fk fs fe fw fp epf eph epv epg := by
  refine ⟨s, hs, hc, fun i hi => ?_, ?_, ?_, ?_⟩
  · rw [e1, e2]
    exact ⟨va_up_ne _ _ hi, va_up_ne _ _ hi⟩
  · rw [e1, va_up_self]
    rfl
  · rw [e1, va_up_self]
    rfl
  · rw [e2, va_up_self]
    exact h5
theorem psm_mk (e1 : epv = va_up pv k (qn2 (pv k 0) (pv k 1))) (e2 : epg = va_up pg k (qn5 (pg k 1) (pg k 2) (pg k 3) (pg k 4) (pg k 5))) : psm pv pg epv epg := fun i => by
  by_cases z : i = k
  · rw [z, e1, e2, va_up_self, va_up_self]
    exact ⟨rfl, rfl, rfl, rfl, rfl, rfl, rfl⟩
  · rw [e1, e2, va_up_ne _ _ z, va_up_ne _ _ z]
    exact ⟨rfl, rfl, rfl, rfl, rfl, rfl, rfl⟩
theorem prel_kept (h : prel pf ph pv pg U f12 f13 f14) (hn : nrel vp vn fk fs fe fw fp P N f5 f6 f7 f8 f9 f10) (hr : remd pf ph pv pg vp vn fk fs fe fw fp epf eph epv epg) (hk : kept P N f5 f6 f7 f8 f9 f10 U f12 f13 f14 U2 e12 e13 e14) (h9 : rng f9 40 0 100) (h13 : rng f13 30 0 40) (hN : N.toInt ≤ 40) (hpf : 0 ≤ pf.toInt ∧ pf.toInt ≤ 29) (hU : 0 ≤ U) : prel epf eph epv epg U2 e12 e13 e14 := by
  obtain ⟨m, d, h2, hd, hm, eP, eN, he⟩ := hk
  obtain ⟨s, hs, hc, ho, v0, v1, h5⟩ := hr
  have hph := h.1
  refine ⟨by omega, fun k hk q hq => ?_⟩
  by_cases z : k = m
  · have e : q = s := by omega
    rw [e, z, eP, eN]
    refine ⟨v0.trans hn.1, v1.trans hn.2.1, fun j hj => ?_⟩
    obtain ⟨a0, a1, a2, a3, a4⟩ := he j (by omega)
    obtain ⟨b1, b2, b3, b4, b5⟩ := h5 j (by rw [hn.2.1]; exact hj)
    have l := hn.2.2 j hj
    have r9 := h9 j (by omega)
    have e4 : (e14 (200 * m + 5 * j + 4)).toInt % 1000 = (f9 j).toInt := by
      rw [a4]
      split <;> omega
    have e5 : (if 999 < (e14 (200 * m + 5 * j + 4)).toInt then (1 : Int) else 0) ≠ 0 ↔ (f10 j).toInt ≠ 0 := by
      rw [a4]
      by_cases y : (f10 j).toInt ≠ 0
      · rw [if_pos y, if_pos (by omega)]
        exact ⟨fun _ => y, fun _ => by decide⟩
      · rw [if_neg y, if_neg (by omega)]
        exact ⟨fun w => absurd rfl w, fun w => absurd w y⟩
    rw [b1, b2, b3, b4, b5, a0, a1, a2, a3]
    exact ⟨l.1, l.2.1, l.2.2.1.trans e4.symm, fun g => l.2.2.2.1 (e5.mp g), fun g => l.2.2.2.2 (Decidable.byContradiction (fun w => e5.mpr w g))⟩
  · have ne : q ≠ s := by omega
    obtain ⟨c1, c2⟩ := ho q ne
    obtain ⟨a1, a2, a3⟩ := hm k (by omega)
    have hh := h.2 (k + d) (by omega) q (by omega)
    rw [c1, c2, a1, a2]
    refine ⟨hh.1, hh.2.1, fun j hj => ?_⟩
    have b := h13 (k + d) (by omega)
    have l := hh.2.2 j hj
    rw [a3 (5 * j) (by omega), show 200 * k + 5 * j + 1 = 200 * k + (5 * j + 1) by omega, a3 (5 * j + 1) (by omega), show 200 * k + 5 * j + 2 = 200 * k + (5 * j + 2) by omega, a3 (5 * j + 2) (by omega), show 200 * k + 5 * j + 3 = 200 * k + (5 * j + 3) by omega, a3 (5 * j + 3) (by omega), show 200 * k + 5 * j + 4 = 200 * k + (5 * j + 4) by omega, a3 (5 * j + 4) (by omega)]
    rw [show 200 * (k + d) + (5 * j + 1) = 200 * (k + d) + 5 * j + 1 by omega, show 200 * (k + d) + (5 * j + 2) = 200 * (k + d) + 5 * j + 2 by omega, show 200 * (k + d) + (5 * j + 3) = 200 * (k + d) + 5 * j + 3 by omega, show 200 * (k + d) + (5 * j + 4) = 200 * (k + d) + 5 * j + 4 by omega]
    exact l
theorem und_rel (h : prel pf ph pv pg s11.toInt f12 f13 f14) (hu : undd pf ph pv pg epf eph evp evn efk efs efe efw efp epv epg) (h0 : 0 < s11.toInt) (e11 : n11.toInt = s11.toInt - 1) (e3 : n3 = f12 n11.toNatClampNeg) (e4 : n4 = f13 n11.toNatClampNeg) (hb : ∀ j : Nat, j < 40 → back f14 (200 * n11.toNatClampNeg) e5 e6 e7 e8 e9 e10 j) (h40 : n4.toInt ≤ 40) : nrel evp evn efk efs efe efw efp n3 n4 e5 e6 e7 e8 e9 e10 ∧ prel epf eph epv epg n11.toInt f12 f13 f14 := by
  obtain ⟨u1, u2, u3, k, hk, k0, k1, k5⟩ := hu
  have c := clI (i := n11) (by omega)
  have hph := h.1
  refine ⟨?_, by omega, fun i hi q hq => ?_⟩
  · have hh := h.2 n11.toNatClampNeg (by omega) k (by omega)
    refine ⟨by rw [k0, e3]; exact hh.1, by rw [k1, e4]; exact hh.2.1, fun j hj => ?_⟩
    have ee : evn.toInt = n4.toInt := by rw [k1, e4, hh.2.1]
    obtain ⟨b1, b2, b3, b4, b5⟩ := k5 j (by omega)
    obtain ⟨d5, d6, d7, d8, d9, d10⟩ := hb j (by omega)
    have l := hh.2.2 j (by rw [← e4]; exact hj)
    rw [b1, b2, b3, b4, b5, d5, d6, d7, d8, d9, d10]
    exact l
  · have hh := h.2 i (by omega) q (by rw [← u1]; exact hq)
    obtain ⟨p0, p1, q1, q2, q3, q4, q5⟩ := u3 q
    refine ⟨p0.trans hh.1, p1.trans hh.2.1, fun j hj => ?_⟩
    rw [q1, q2, q3, q4, q5]
    exact hh.2.2 j hj
/-! lines -/
theorem nrel_add {kk a b w p : Int32} (h : nrel vp vn fk fs fe fw fp P N f5 f6 f7 f8 f9 f10) (h0 : 0 ≤ N.toInt) (c0 : evn.toInt = vn.toInt + 1) (m0 : n4.toInt = N.toInt + 1) (c1 : efk = upd fk vn.toNatClampNeg kk) (c2 : efs = upd fs vn.toNatClampNeg a) (c3 : efe = upd fe vn.toNatClampNeg b) (c4 : kk.toInt = 4 ∧ efw = upd fw vn.toNatClampNeg 0 ∨ kk.toInt ≠ 4 ∧ efw = upd fw vn.toNatClampNeg w) (c5 : efp = upd fp vn.toNatClampNeg p)
    (m5 : e5 = upd f5 N.toNatClampNeg kk) (m6 : e6 = upd f6 N.toNatClampNeg a) (m7 : e7 = upd f7 N.toNatClampNeg b) (m8 : kk.toInt = 4 ∧ e8 = upd f8 N.toNatClampNeg 0 ∨ kk.toInt ≠ 4 ∧ e8 = upd f8 N.toNatClampNeg w) (m9 : e9 = upd f9 N.toNatClampNeg p) (m10 : e10 = upd f10 N.toNatClampNeg (vp_nar .boolean 0)) : nrel vp evn efk efs efe efw efp P n4 e5 e6 e7 e8 e9 e10 := by
  have c := clI (i := N) h0
  have ev := h.2.1
  subst ev
  have hw : ∃ y : Int32, efw = upd fw vn.toNatClampNeg y ∧ e8 = upd f8 vn.toNatClampNeg y := by
    rcases c4 with c4 | c4 <;> rcases m8 with m8 | m8
    · exact ⟨0, c4.2, m8.2⟩
    · exact absurd c4.1 m8.1
    · exact absurd m8.1 c4.1
    · exact ⟨w, c4.2, m8.2⟩
  obtain ⟨y, hw1, hw2⟩ := hw
  refine ⟨h.1, Int32.toInt_inj.mp (by omega), fun j hj => ?_⟩
  rw [c1, c2, c3, hw1, c5, m5, m6, m7, hw2, m9, m10]
  by_cases z : j = vn.toNatClampNeg
  · rw [z, pk_us, pk_us, pk_us, pk_us, pk_us, pk_us, pk_us, pk_us, pk_us, pk_us, pk_us]
    exact ⟨rfl, rfl, rfl, fun g => absurd (by decide) g, fun _ => ⟨rfl, rfl⟩⟩
  · rw [pk_un z, pk_un z, pk_un z, pk_un z, pk_un z, pk_un z, pk_un z, pk_un z, pk_un z, pk_un z, pk_un z]
    exact h.2.2 j (by omega)
theorem nrel_w {y z l : Int32} (h : nrel vp vn fk fs fe fw fp P N f5 f6 f7 f8 f9 f10) (c4 : efw = upd fw l.toNatClampNeg y) (m8 : e8 = upd f8 l.toNatClampNeg z) (hy : y = z) : nrel vp vn fk fs fe efw fp P N f5 f6 f7 e8 f9 f10 := by
  refine ⟨h.1, h.2.1, fun j hj => ?_⟩
  have a := h.2.2 j hj
  rw [c4, m8, hy]
  by_cases q : j = l.toNatClampNeg
  · rw [q, pk_us, pk_us]
    rw [q] at a
    exact ⟨a.1, rfl, a.2.2⟩
  · rw [pk_un q, pk_un q]
    exact a
end NREL
/-! merge -/
noncomputable def jnd (low high : Int) (fs fe gs ge : Nat → Int32) (n : Int) : Prop :=
  (∀ j : Nat, (j : Int) < n → ((fs j).toInt = -9 → gs j = fs j ∧ ge j = fe j) ∧ ((fs j).toInt ≠ -9 → (renI (fs j).toInt low high = renI (fe j).toInt low high → (gs j).toInt = -9 ∧ (ge j).toInt = -9) ∧ (renI (fs j).toInt low high ≠ renI (fe j).toInt low high → (gs j).toInt = renI (fs j).toInt low high ∧ (ge j).toInt = renI (fe j).toInt low high))) ∧
  (∀ j : Nat, n ≤ (j : Int) → gs j = fs j ∧ ge j = fe j)
noncomputable def jnF (low high : Int) (fs fe : Nat → Int32) (j : Nat) : Int := if (fs j).toInt ≠ -9 ∧ renI (fs j).toInt low high = renI (fe j).toInt low high then 1 else 0
noncomputable def mgF (low high : Int) (f6 f7 f10 : Nat → Int32) (j : Nat) : Int := if (f10 j).toInt = 0 ∧ renI (f6 j).toInt low high = renI (f7 j).toInt low high then 1 else 0
theorem cnt_st {G : Nat → Int} {i i2 a a2 : Int32} (h : a.toInt = sumI G i.toNatClampNeg) (hr : a2.toInt = a.toInt + G i.toNatClampNeg) (hi : 0 ≤ i.toInt) (ei : i2.toInt = i.toInt + 1) : a2.toInt = sumI G i2.toNatClampNeg := sum_st h rfl hi hr ei
section JND
variable {low high : Int} {fs fe gs ge hs he : Nat → Int32} {i i2 x y : Int32}
theorem jnd_0 : jnd low high fs fe fs fe (0 : Int32).toInt := by
  have z : (0 : Int32).toInt = 0 := by decide
  exact ⟨fun j hj => by omega, fun _ _ => ⟨rfl, rfl⟩⟩
theorem jnd_skip (h : jnd low high fs fe gs ge i.toInt) (h0 : 0 ≤ i.toInt) (e : i2.toInt = i.toInt + 1) (hm : (gs i.toNatClampNeg).toInt = -9) : jnd low high fs fe gs ge i2.toInt := by
  have c := clI (i := i) h0
  refine ⟨fun j hj => ?_, fun j hj => h.2 j (by omega)⟩
  by_cases q : j = i.toNatClampNeg
  · have a := h.2 j (by omega)
    rw [← q, a.1] at hm
    exact ⟨fun _ => a, fun z => absurd hm z⟩
  · exact h.1 j (by omega)
theorem jnd_st (h : jnd low high fs fe gs ge i.toInt) (h0 : 0 ≤ i.toInt) (e : i2.toInt = i.toInt + 1) (hm : (gs i.toNatClampNeg).toInt ≠ -9) (es : ∀ j : Nat, j ≠ i.toNatClampNeg → hs j = gs j) (ee : ∀ j : Nat, j ≠ i.toNatClampNeg → he j = ge j)
    (hx : renI (gs i.toNatClampNeg).toInt low high = renI (ge i.toNatClampNeg).toInt low high → (hs i.toNatClampNeg).toInt = -9 ∧ (he i.toNatClampNeg).toInt = -9) (hy : renI (gs i.toNatClampNeg).toInt low high ≠ renI (ge i.toNatClampNeg).toInt low high → (hs i.toNatClampNeg).toInt = renI (gs i.toNatClampNeg).toInt low high ∧ (he i.toNatClampNeg).toInt = renI (ge i.toNatClampNeg).toInt low high) : jnd low high fs fe hs he i2.toInt := by
  have c := clI (i := i) h0
  have a := h.2 i.toNatClampNeg (by omega)
  rw [a.1, a.2] at hx hy
  rw [a.1] at hm
  refine ⟨fun j hj => ?_, fun j hj => ?_⟩
  · by_cases q : j = i.toNatClampNeg
    · rw [q]
      exact ⟨fun z => absurd z hm, fun _ => ⟨hx, hy⟩⟩
    · rw [es j q, ee j q]
      exact h.1 j (by omega)
  · rw [es j (by omega), ee j (by omega)]
    exact h.2 j (by omega)
theorem jnF_skip (h : jnd low high fs fe gs ge i.toInt) (h0 : 0 ≤ i.toInt) (hm : (gs i.toNatClampNeg).toInt = -9) : jnF low high fs fe i.toNatClampNeg = 0 := by
  have c := clI (i := i) h0
  have a := h.2 i.toNatClampNeg (by omega)
  rw [a.1] at hm
  unfold jnF
  rw [if_neg (fun w => w.1 hm)]
theorem jnF_1 (h : jnd low high fs fe gs ge i.toInt) (h0 : 0 ≤ i.toInt) (hm : (gs i.toNatClampNeg).toInt ≠ -9) (he : renI (gs i.toNatClampNeg).toInt low high = renI (ge i.toNatClampNeg).toInt low high) : jnF low high fs fe i.toNatClampNeg = 1 := by
  have c := clI (i := i) h0
  have a := h.2 i.toNatClampNeg (by omega)
  rw [a.1] at hm he
  rw [a.2] at he
  unfold jnF
  rw [if_pos ⟨hm, he⟩]
theorem jnF_0 (h : jnd low high fs fe gs ge i.toInt) (h0 : 0 ≤ i.toInt) (he : renI (gs i.toNatClampNeg).toInt low high ≠ renI (ge i.toNatClampNeg).toInt low high) : jnF low high fs fe i.toNatClampNeg = 0 := by
  have c := clI (i := i) h0
  have a := h.2 i.toNatClampNeg (by omega)
  rw [a.1, a.2] at he
  unfold jnF
  rw [if_neg (fun w => he w.2)]
theorem jnd_end {n m : Int} (h : jnd low high fs fe gs ge n) (e : n = m) : jnd low high fs fe gs ge m := e ▸ h
end JND
section MRG
variable {low high n n2 : Int} {vp vn evp P N n3 : Int32} {fk fs fe fw fp efs efe f5 f6 f7 f8 f9 f10 e6 e7 e10 : Nat → Int32}
theorem nrel_merge (h : nrel vp vn fk fs fe fw fp P N f5 f6 f7 f8 f9 f10) (hc : jnd low high fs fe efs efe n) (hm : mrgd low high f6 f7 f10 e6 e7 e10 n2) (h1 : N.toInt ≤ n) (h2 : N.toInt ≤ n2) (r6 : rng f6 40 0 11) (hN : N.toInt ≤ 40) (e : evp = n3) : nrel evp vn fk efs efe fw fp n3 N f5 e6 e7 f8 f9 e10 := by
  refine ⟨e, h.2.1, fun j hj => ?_⟩
  have a := h.2.2 j hj
  have c := hc.1 j (by omega)
  have m := hm.1 j (by omega)
  refine ⟨a.1, a.2.1, a.2.2.1, ?_⟩
  by_cases z : (f10 j).toInt = 0
  · have b := a.2.2.2.2 z
    have r := r6 j (by omega)
    have w : (fs j).toInt ≠ -9 := by rw [b.1]; omega
    have c2 := c.2 w
    have m2 := m.2 z
    rw [b.1, b.2] at c2
    by_cases y : renI (f6 j).toInt low high = renI (f7 j).toInt low high
    · rw [if_pos y] at m2
      exact ⟨fun _ => c2.1 y, fun g => absurd g (by rw [m2.2.2]; decide)⟩
    · rw [if_neg y] at m2
      have c3 := c2.2 y
      exact ⟨fun g => absurd m2.2.2 g, fun _ => ⟨Int32.toInt_inj.mp (by rw [c3.1, m2.1]), Int32.toInt_inj.mp (by rw [c3.2, m2.2.1])⟩⟩
  · have b := a.2.2.2.1 z
    have c2 := c.1 b.1
    have m2 := m.1 z
    rw [c2.1, c2.2, m2.2.2]
    exact ⟨fun _ => b, fun g => absurd g z⟩
end MRG
/-! answers, as functions of the net -/
noncomputable def lnI (k a b w p P N : Int) : Int := if ¬ ((0 ≤ k ∧ k ≤ 4) ∧ (0 ≤ a ∧ a < P) ∧ (0 ≤ b ∧ b < P) ∧ a ≠ b ∧ (0 ≤ w ∧ w ≤ 1000) ∧ (0 ≤ p ∧ p ≤ 100)) then -1 else if N = 40 then -3 else 0
noncomputable def plI (P : Int) : Int := if P = 12 then -3 else 0
noncomputable def gI (s : Int) : Int := if s = -9 then 1 else 0
noncomputable def wdI (l n N k w g : Int) : Int := if ¬ ((0 ≤ l ∧ l < N) ∧ (0 ≤ n ∧ n ≤ 1000)) then -1 else if (k ≠ 3 ∧ k ≠ 4) ∨ g ≠ 0 ∨ 2000 < w + n then -2 else 0
noncomputable def wtI (l w N g : Int) : Int := if ¬ ((0 ≤ l ∧ l < N) ∧ (0 ≤ w ∧ w ≤ 1000)) then -1 else if g ≠ 0 then -2 else 0
noncomputable def mgI (a b P : Int) : Int := if (0 ≤ a ∧ a < P) ∧ (0 ≤ b ∧ b < P) ∧ a ≠ b then 0 else -1
noncomputable def cstV (k p : Int32) : Int32 := if k.toInt = 3 then p else if k.toInt = 4 then p + 1 else (-9)
noncomputable def tdI (l q N k s e w p g : Int) : Int := if ¬ ((0 ≤ l ∧ l < N) ∧ (0 ≤ q ∧ q ≤ 5)) then -1 else if q = 0 then k else if q = 1 then s else if q = 2 then e else if q = 3 then w else if q = 4 then p else if g ≠ 0 then 1 else 0
noncomputable def akI (l q N k w p : Int) : Int := if ¬ ((0 ≤ l ∧ l < N) ∧ (0 ≤ q ∧ q ≤ 2)) then -1 else if q = 2 then (if k = 3 then p else if k = 4 then p + 1 else -9) else if k = 2 then -5 else if k = 1 ∧ q ≠ 0 then 0 else w
noncomputable def abI (q P N m U wh : Int) : Int := if q = 0 then P else if q = 1 then N else if q = 2 then m else if q = 3 then U else if q = 4 then wh else -1
noncomputable def msF (fs : Nat → Int32) (j : Nat) : Int := if (fs j).toInt = -9 then 1 else 0
noncomputable def mgC (f10 : Nat → Int32) (j : Nat) : Int := if (f10 j).toInt ≠ 0 then 1 else 0
/-- a line that makes the net no whole -/
noncomputable def bkF (fk fs : Nat → Int32) (j : Nat) : Int := if ((fk j).toInt = 1 ∨ (fk j).toInt = 2) ∧ (fs j).toInt ≠ -9 then 1 else 0
noncomputable def bkR (f5 f10 : Nat → Int32) (j : Nat) : Int := if ((f5 j).toInt = 1 ∨ (f5 j).toInt = 2) ∧ (f10 j).toInt = 0 then 1 else 0
noncomputable def whI (P c : Int) : Int := if 2 ≤ P ∧ c = 0 then 1 else 0
theorem bkF_01 {fk fs : Nat → Int32} {j : Nat} : 0 ≤ bkF fk fs j ∧ bkF fk fs j ≤ 1 := by
  unfold bkF
  split <;> omega
theorem bkR_01 {f5 f10 : Nat → Int32} {j : Nat} : 0 ≤ bkR f5 f10 j ∧ bkR f5 f10 j ≤ 1 := by
  unfold bkR
  split <;> omega
theorem sumI_pos {g : Nat → Int} (h : ∀ j : Nat, 0 ≤ g j) {k : Nat} (hk : 0 < g k) : ∀ n : Nat, k < n → 0 < sumI g n
  | 0, hn => absurd hn (Nat.not_lt_zero _)
  | n + 1, hn => by
    show 0 < sumI g n + g n
    by_cases e : k = n
    · subst e
      have := sumI_nonneg (g := g) k (fun j _ => h j)
      omega
    · have := sumI_pos h hk n (by omega)
      have := h n
      omega
section ANS
variable {vp vn P N a b c d pf ph s11 : Int32} {fk fs fe fw fp f5 f6 f7 f8 f9 f10 : Nat → Int32}
theorem nrel_at (h : nrel vp vn fk fs fe fw fp P N f5 f6 f7 f8 f9 f10) (r6 : rng f6 40 0 11) (hN : N.toInt ≤ 40) (h0 : 0 ≤ a.toInt) (h1 : a.toInt < N.toInt) : fk a.toNatClampNeg = f5 a.toNatClampNeg ∧ fw a.toNatClampNeg = f8 a.toNatClampNeg ∧ fp a.toNatClampNeg = f9 a.toNatClampNeg ∧ ((f10 a.toNatClampNeg).toInt ≠ 0 → (fs a.toNatClampNeg).toInt = -9 ∧ (fe a.toNatClampNeg).toInt = -9) ∧ ((f10 a.toNatClampNeg).toInt = 0 → (fs a.toNatClampNeg).toInt ≠ -9 ∧ fs a.toNatClampNeg = f6 a.toNatClampNeg ∧ fe a.toNatClampNeg = f7 a.toNatClampNeg) := by
  have c := clI (i := a) h0
  have l := h.2.2 a.toNatClampNeg (by omega)
  have r := r6 a.toNatClampNeg (by omega)
  refine ⟨l.1, l.2.1, Int32.toInt_inj.mp l.2.2.1, l.2.2.2.1, fun z => ?_⟩
  have w := l.2.2.2.2 z
  exact ⟨by rw [w.1]; omega, w⟩
theorem g_same (h : nrel vp vn fk fs fe fw fp P N f5 f6 f7 f8 f9 f10) (r6 : rng f6 40 0 11) (hN : N.toInt ≤ 40) (h0 : 0 ≤ a.toInt) (h1 : a.toInt < N.toInt) : gI (fs a.toNatClampNeg).toInt ≠ 0 ↔ (f10 a.toNatClampNeg).toInt ≠ 0 := by
  obtain ⟨_, _, _, l4, l5⟩ := nrel_at h r6 hN h0 h1
  unfold gI
  by_cases z : (f10 a.toNatClampNeg).toInt = 0
  · rw [if_neg (l5 z).1]
    exact ⟨fun w => absurd rfl w, fun w => absurd z w⟩
  · rw [if_pos (l4 z).1]
    exact ⟨fun _ => z, fun _ => by decide⟩
theorem wd_same (h : nrel vp vn fk fs fe fw fp P N f5 f6 f7 f8 f9 f10) (r6 : rng f6 40 0 11) (hN : N.toInt ≤ 40) : wdI a.toInt b.toInt vn.toInt (fk a.toNatClampNeg).toInt (fw a.toNatClampNeg).toInt (gI (fs a.toNatClampNeg).toInt) = wdI a.toInt b.toInt N.toInt (f5 a.toNatClampNeg).toInt (f8 a.toNatClampNeg).toInt (f10 a.toNatClampNeg).toInt := by
  unfold wdI
  rw [h.2.1]
  by_cases w : (0 ≤ a.toInt ∧ a.toInt < N.toInt) ∧ (0 ≤ b.toInt ∧ b.toInt ≤ 1000)
  · obtain ⟨l1, l2, _⟩ := nrel_at h r6 hN w.1.1 w.1.2
    have g := g_same h r6 hN w.1.1 w.1.2
    have w9 := not_not_intro w
    rw [if_neg w9, if_neg w9, l1, l2]
    simp only [g]
  · rw [if_pos w, if_pos w]
theorem wt_same (h : nrel vp vn fk fs fe fw fp P N f5 f6 f7 f8 f9 f10) (r6 : rng f6 40 0 11) (hN : N.toInt ≤ 40) : wtI a.toInt b.toInt vn.toInt (gI (fs a.toNatClampNeg).toInt) = wtI a.toInt b.toInt N.toInt (f10 a.toNatClampNeg).toInt := by
  unfold wtI
  rw [h.2.1]
  by_cases w : (0 ≤ a.toInt ∧ a.toInt < N.toInt) ∧ (0 ≤ b.toInt ∧ b.toInt ≤ 1000)
  · have g := g_same h r6 hN w.1.1 w.1.2
    have w9 := not_not_intro w
    rw [if_neg w9, if_neg w9]
    simp only [g]
  · rw [if_pos w, if_pos w]
theorem wdI_0 {l n N k w g : Int} (h : wdI l n N k w g = 0) : (0 ≤ l ∧ l < N) ∧ (0 ≤ n ∧ n ≤ 1000) ∧ (k = 3 ∨ k = 4) ∧ g = 0 ∧ w + n ≤ 2000 := by
  unfold wdI at h
  (repeat' split at h) <;> omega
end ANS
/-! loops -/
theorem bk_lp {fk fs : Nat → Int32} {i i2 : Int32} (h : sumI (bkF fk fs) i.toNatClampNeg = 0) (hi : 0 ≤ i.toInt) (ei : i2.toInt = i.toInt + 1) (hb : bkF fk fs i.toNatClampNeg = 0) : sumI (bkF fk fs) i2.toNatClampNeg = 0 := (sum_st (g := bkF fk fs) (a := 0) (a2 := 0) (r := 0) h.symm hb.symm hi (by omega) ei).symm
theorem bk_yes {fk fs : Nat → Int32} {i n : Int32} {P : Int} (hi : 0 ≤ i.toInt) (hn : i.toInt < n.toInt) (hb : bkF fk fs i.toNatClampNeg = 1) : whI P (sumI (bkF fk fs) n.toNatClampNeg) = 0 := by
  have c := clI (i := i) hi
  have c2 := clI (i := n) (by omega)
  have := sumI_pos (g := bkF fk fs) (fun j => (bkF_01).1) (k := i.toNatClampNeg) (by omega) n.toNatClampNeg (by omega)
  unfold whI
  rw [if_neg (by omega)]
theorem wh_st {f5 f10 : Nat → Int32} {P : Int} {i i2 a a2 x : Int32} (h : a.toInt = whI P (sumI (bkR f5 f10) i.toNatClampNeg)) (hi : 0 ≤ i.toInt) (ei : i2.toInt = i.toInt + 1) (hx : x.toInt = 1 - bkR f5 f10 i.toNatClampNeg) (h01 : a.toInt = 0 ∨ a.toInt = 1) (ha : a2.toInt = if a.toInt = 1 ∧ x.toInt = 1 then 1 else 0) : a2.toInt = whI P (sumI (bkR f5 f10) i2.toNatClampNeg) := by
  have s := sum_st (g := bkR f5 f10) (i := i) (i2 := i2) rfl rfl hi rfl ei
  rw [← s]
  have b := bkR_01 (f5 := f5) (f10 := f10) (j := i.toNatClampNeg)
  have p := sumI_nonneg (g := bkR f5 f10) i.toNatClampNeg (fun j _ => (bkR_01).1)
  unfold whI at h ⊢
  by_cases w : 2 ≤ P ∧ sumI (bkR f5 f10) i.toNatClampNeg = 0
  · rw [if_pos w] at h
    by_cases y : bkR f5 f10 i.toNatClampNeg = 0
    · rw [ha, if_pos (by omega), if_pos (by omega)]
    · rw [ha, if_neg (by omega), if_neg (by omega)]
  · rw [if_neg w] at h
    rw [ha, if_neg (by omega), if_neg (by omega)]
theorem and_if {a b : Int32} (ha : a.toInt = 0 ∨ a.toInt = 1) (hb : b.toInt = 0 ∨ b.toInt = 1) : (a &&& b).toInt = if a.toInt = 1 ∧ b.toInt = 1 then 1 else 0 := by
  rcases b01 ha with rfl | rfl <;> rcases b01 hb with rfl | rfl <;> decide
/-! what the calls do, both sides -/
noncomputable def chgd (c : Int) (pf ph : Int32) (pv : Nat → Nat → Int32) (pg : Nat → Nat → Nat → Int32) (vp vn : Int32) (fk fs fe fw fp : Nat → Int32) (epf eph : Int32) (epv : Nat → Nat → Int32) (epg : Nat → Nat → Nat → Int32) : Prop := (c = 0 → remd pf ph pv pg vp vn fk fs fe fw fp epf eph epv epg) ∧ (c ≠ 0 → epf = pf ∧ eph = ph ∧ epv = pv ∧ epg = pg)
noncomputable def kptd (c : Int) (P N : Int32) (f5 f6 f7 f8 f9 f10 : Nat → Int32) (U : Int) (f12 f13 f14 : Nat → Int32) (U2 : Int) (e12 e13 e14 : Nat → Int32) : Prop := (c = 0 → kept P N f5 f6 f7 f8 f9 f10 U f12 f13 f14 U2 e12 e13 e14) ∧ (c ≠ 0 → U2 = U ∧ e12 = f12 ∧ e13 = f13 ∧ e14 = f14)
noncomputable def addd (vn : Int32) (fk fs fe fw fp : Nat → Int32) (k a b w p evn : Int32) (efk efs efe efw efp : Nat → Int32) : Prop := evn.toInt = vn.toInt + 1 ∧ efk = upd fk vn.toNatClampNeg k ∧ efs = upd fs vn.toNatClampNeg a ∧ efe = upd fe vn.toNatClampNeg b ∧ (k.toInt = 4 ∧ efw = upd fw vn.toNatClampNeg 0 ∨ k.toInt ≠ 4 ∧ efw = upd fw vn.toNatClampNeg w) ∧ efp = upd fp vn.toNatClampNeg p
noncomputable def adR (N : Int32) (f5 f6 f7 f8 f9 f10 : Nat → Int32) (k a b w p n4 : Int32) (e5 e6 e7 e8 e9 e10 : Nat → Int32) : Prop := n4.toInt = N.toInt + 1 ∧ e5 = upd f5 N.toNatClampNeg k ∧ e6 = upd f6 N.toNatClampNeg a ∧ e7 = upd f7 N.toNatClampNeg b ∧ (k.toInt = 4 ∧ e8 = upd f8 N.toNatClampNeg 0 ∨ k.toInt ≠ 4 ∧ e8 = upd f8 N.toNatClampNeg w) ∧ e9 = upd f9 N.toNatClampNeg p ∧ e10 = upd f10 N.toNatClampNeg (vp_nar .boolean 0)
noncomputable def loI (a b : Int) : Int := if a < b then a else b
noncomputable def hiI (a b : Int) : Int := if a < b then b else a
section CHG
variable {c d : Int} {pf ph vp vn epf eph evp evn P N n3 n4 : Int32} {pv epv : Nat → Nat → Int32} {pg epg : Nat → Nat → Nat → Int32} {fk fs fe fw fp efk efs efe efw efp f5 f6 f7 f8 f9 f10 e5 e6 e7 e8 e9 e10 f12 f13 f14 e12 e13 e14 : Nat → Int32} {U U2 : Int} {k a b w p : Int32}
theorem chgd_no (h : c ≠ 0) : chgd c pf ph pv pg vp vn fk fs fe fw fp pf ph pv pg := ⟨fun z => absurd z h, fun _ => ⟨rfl, rfl, rfl, rfl⟩⟩
theorem chgd_ok (h : c = 0) (hr : remd pf ph pv pg vp vn fk fs fe fw fp epf eph epv epg) : chgd c pf ph pv pg vp vn fk fs fe fw fp epf eph epv epg := ⟨fun _ => hr, fun z => absurd h z⟩
theorem kptd_no (h : c ≠ 0) : kptd c P N f5 f6 f7 f8 f9 f10 U f12 f13 f14 U f12 f13 f14 := ⟨fun z => absurd z h, fun _ => ⟨rfl, rfl, rfl, rfl⟩⟩
theorem kptd_ok (h : c = 0) (hr : kept P N f5 f6 f7 f8 f9 f10 U f12 f13 f14 U2 e12 e13 e14) : kptd c P N f5 f6 f7 f8 f9 f10 U f12 f13 f14 U2 e12 e13 e14 := ⟨fun _ => hr, fun z => absurd h z⟩
theorem prel_chgd (h : prel pf ph pv pg U f12 f13 f14) (hn : nrel vp vn fk fs fe fw fp P N f5 f6 f7 f8 f9 f10) (hc : chgd c pf ph pv pg vp vn fk fs fe fw fp epf eph epv epg) (hk : kptd d P N f5 f6 f7 f8 f9 f10 U f12 f13 f14 U2 e12 e13 e14) (e : c = d) (h9 : rng f9 40 0 100) (h13 : rng f13 30 0 40) (hN : N.toInt ≤ 40) (hpf : 0 ≤ pf.toInt ∧ pf.toInt ≤ 29) (hU : 0 ≤ U) : prel epf eph epv epg U2 e12 e13 e14 := by
  subst e
  by_cases z : c = 0
  · exact prel_kept h hn (hc.1 z) (hk.1 z) h9 h13 hN hpf hU
  · obtain ⟨a1, a2, a3, a4⟩ := hc.2 z
    obtain ⟨b1, b2, b3, b4⟩ := hk.2 z
    rw [a1, a2, a3, a4, b1, b2, b3, b4]
    exact h
theorem nrel_addd (h : nrel vp vn fk fs fe fw fp P N f5 f6 f7 f8 f9 f10) (h0 : 0 ≤ N.toInt) (hc : addd vn fk fs fe fw fp k a b w p evn efk efs efe efw efp) (hm : adR N f5 f6 f7 f8 f9 f10 k a b w p n4 e5 e6 e7 e8 e9 e10) : nrel vp evn efk efs efe efw efp P n4 e5 e6 e7 e8 e9 e10 :=
  nrel_add h h0 hc.1 hm.1 hc.2.1 hc.2.2.1 hc.2.2.2.1 hc.2.2.2.2.1 hc.2.2.2.2.2 hm.2.1 hm.2.2.1 hm.2.2.2.1 hm.2.2.2.2.1 hm.2.2.2.2.2.1 hm.2.2.2.2.2.2
end CHG
theorem gI_0 {x : Int} (h : x ≠ -9) : gI x = 0 := if_neg h
theorem gI_1 {x : Int} (h : x = -9) : gI x = 1 := if_pos h
theorem cst_3 {k p r : Int32} (hk : k.toInt = 3) (h : r = p) : r = cstV k p := by
  unfold cstV
  rw [if_pos hk, h]
theorem cst_4 {k p r : Int32} (hk : k.toInt = 4) (h : r = p + 1) : r = cstV k p := by
  unfold cstV
  rw [if_neg (by omega), if_pos hk, h]
theorem cst_9 {k p r : Int32} (h3 : k.toInt ≠ 3) (h4 : k.toInt ≠ 4) (h : r = (-9)) : r = cstV k p := by
  unfold cstV
  rw [if_neg h3, if_neg h4, h]
theorem letsI {r k w b : Int32} (h : r = ml_lets k w b) : r.toInt = if k.toInt = 2 then -5 else if k.toInt = 1 ∧ b.toInt = 0 then 0 else w.toInt := by
  have z2 : k = 2 ↔ k.toInt = 2 := ⟨fun e => by rw [e]; decide, fun e => Int32.toInt_inj.mp e⟩
  have z1 : k = 1 ↔ k.toInt = 1 := ⟨fun e => by rw [e]; decide, fun e => Int32.toInt_inj.mp e⟩
  have z0 : b = 0 ↔ b.toInt = 0 := ⟨fun e => by rw [e]; decide, fun e => Int32.toInt_inj.mp e⟩
  rw [h]
  unfold ml_lets
  by_cases a : k = 2
  · rw [if_pos a, if_pos (z2.mp a)]
    decide
  · rw [if_neg a, if_neg (fun e => a (z2.mpr e))]
    by_cases c : k = 1 ∧ b = 0
    · rw [if_pos c, if_pos ⟨z1.mp c.1, z0.mp c.2⟩]
      decide
    · rw [if_neg c, if_neg (fun e => c ⟨z1.mpr e.1, z0.mpr e.2⟩)]
theorem wh_0 {P : Int} {g : Nat → Int} {a : Int32} (h : a.toInt = if 1 < P then 1 else 0) : a.toInt = whI P (sumI g (0 : Int32).toNatClampNeg) := by
  rw [h]
  show _ = if 2 ≤ P ∧ (0 : Int) = 0 then 1 else 0
  by_cases z : 1 < P
  · rw [if_pos z, if_pos ⟨by omega, rfl⟩]
  · rw [if_neg z, if_neg (fun y => z (by omega))]
theorem wh_end {P : Int} {g : Nat → Int} {a i n : Int32} (h : a.toInt = whI P (sumI g i.toNatClampNeg)) (e : i.toInt = n.toInt) : a.toInt = whI P (sumI g n.toNatClampNeg) := by
  rw [h, Int32.toInt_inj.mp e]
theorem wh_z {P : Int} {g : Nat → Int} {a i n : Int32} (h : sumI g i.toNatClampNeg = 0) (e : i.toInt = n.toInt) (ha : a.toInt = if 2 ≤ P then 1 else 0) : a.toInt = whI P (sumI g n.toNatClampNeg) := by
  rw [← Int32.toInt_inj.mp e, h, ha]
  unfold whI
  by_cases z : 2 ≤ P
  · rw [if_pos z, if_pos ⟨z, rfl⟩]
  · rw [if_neg z, if_neg (fun y => z y.1)]
theorem sum_end {g : Nat → Int} {a i n : Int32} (h : a.toInt = sumI g i.toNatClampNeg) (e : i.toInt = n.toInt) : a.toInt = sumI g n.toNatClampNeg := by
  rw [h, Int32.toInt_inj.mp e]
theorem sum_0 {g : Nat → Int} : (0 : Int32).toInt = sumI g (0 : Int32).toNatClampNeg := rfl
theorem mgF_01 {low high : Int} {f6 f7 f10 : Nat → Int32} {j : Nat} : 0 ≤ mgF low high f6 f7 f10 j ∧ mgF low high f6 f7 f10 j ≤ 1 := by
  unfold mgF
  split <;> omega
theorem mgF_skip {low high : Int} {f6 f7 f10 g6 g7 g10 : Nat → Int32} {n : Int32} (h : mrgd low high f6 f7 f10 g6 g7 g10 n.toInt) (h0 : 0 ≤ n.toInt) (hm : (g10 n.toNatClampNeg).toInt ≠ 0) : mgF low high f6 f7 f10 n.toNatClampNeg = 0 := by
  have c := clI (i := n) h0
  have a := h.2 n.toNatClampNeg (by omega)
  rw [a.2.2] at hm
  unfold mgF
  rw [if_neg (fun w => hm w.1)]
theorem mgF_st {low high : Int} {f6 f7 f10 g6 g7 g10 : Nat → Int32} {n x y : Int32} (h : mrgd low high f6 f7 f10 g6 g7 g10 n.toInt) (h0 : 0 ≤ n.toInt) (hm : (g10 n.toNatClampNeg).toInt = 0) (hx : x.toInt = renI (g6 n.toNatClampNeg).toInt low high) (hy : y.toInt = renI (g7 n.toNatClampNeg).toInt low high) : mgF low high f6 f7 f10 n.toNatClampNeg = if x.toInt = y.toInt then 1 else 0 := by
  have c := clI (i := n) h0
  have a := h.2 n.toNatClampNeg (by omega)
  rw [a.2.2] at hm
  rw [hx, hy, a.1, a.2.1]
  unfold mgF
  by_cases z : renI (f6 n.toNatClampNeg).toInt low high = renI (f7 n.toNatClampNeg).toInt low high
  · rw [if_pos ⟨hm, z⟩, if_pos z]
  · rw [if_neg (fun w => z w.2), if_neg z]
theorem mrgd_to {low high lo hi n m : Int} {f6 f7 f10 g6 g7 g10 : Nat → Int32} (h : mrgd low high f6 f7 f10 g6 g7 g10 n) (e1 : low = lo) (e2 : high = hi) (e3 : n = m) : mrgd lo hi f6 f7 f10 g6 g7 g10 m := by
  subst e1 e2 e3
  exact h
theorem mnI {v a b : Int32} (e : v = if b < a then b else a) : v.toInt = loI a.toInt b.toInt := by
  unfold loI
  by_cases h : b < a
  · have q := Int32.lt_iff_toInt_lt.mp h
    rw [e, if_pos h, if_neg (by omega)]
  · have q : ¬ b.toInt < a.toInt := fun w => h (Int32.lt_iff_toInt_lt.mpr w)
    rw [e, if_neg h]
    split <;> omega
theorem mxI {v a b : Int32} (e : v = if a < b then b else a) : v.toInt = hiI a.toInt b.toInt := by
  unfold hiI
  by_cases h : a < b
  · rw [e, if_pos h, if_pos (Int32.lt_iff_toInt_lt.mp h)]
  · rw [e, if_neg h, if_neg (fun w => h (Int32.lt_iff_toInt_lt.mpr w))]

set_option maxHeartbeats 4000000 in
set_option maxRecDepth 100000 in
theorem c_X6_lets2 (l : Launch) (D : va_G) (cy : Nat → ClassId) (sz : Nat) (h0 : Nat) (a1 : Int32) (a2 : Int32) : Met l yX6_lets wsX6_lets ({ frames := 0, cells := 0, slots := 0, locals := 0 }) (va_Pc [.ref h0, .int a1, .int a2] (fun U => U.heap.size = sz ∧ va_P D vwCl [] U.heap ∧ kk_ D cy U ∧ va_D (fun _ => True) [])) (va_Qi (fun (r : Int32) (_ : Unit) => (r = a1) ∧ (r.toInt = a1.toInt)) (fun (_ : Unit) (_ : State) => True) (va_A [] sz)) 0 0 (va_A [] sz) := by
  refine ofQ (cc := cX6_lets) (maxL := 3) (ret := (some .int)) (by decide) rfl ?_
  intro p e s m args below meth c s₁ Q hQ B hml hv
  obtain ⟨rfl, hsz, hP, hK, hD0⟩ := hv
  have hx := B.exec
  have hb := B.bytes
  have hr := B.returns
  have hts := atoms_spec (ws := wsX6_lets) B.pre
  have hown : s.vm.findClass RX6 = some m.cls := by have h_ := findClass_of_methodNamed B.named; exact h_
  have hlocks := B.notSynchronized
  subst hsz
  have hD : va_D (va_A [] s.heap.size) [] := dd_nil
  generalize hAe : va_A [] s.heap.size = A at hD hQ
  have hA : ∀ q : Nat, s.heap.size ≤ q → A q := fun q h => by rw [← hAe]; exact Or.inr h
  have hS : va_S A s.heap s.heap [] := va_S.rf
  have hl := lv_entry ([.ref h0, .int a1, .int a2]) (n := 3) (Nat.le_of_ble_eq_true rfl)
  rw [lg_entry_eq]
  generalize (lg_sl ([.ref h0, .int a1, .int a2]) ++ List.replicate (3 - (lg_sl ([.ref h0, .int a1, .int a2])).length) Slot.unset).toArray = ls at hl ⊢
  have hl : lv_has ls 3 [(0, .ref h0), (1, .int a1), (2, .int a2)] := hl
  refine lv_iload_n hx hb dB_36_1_56.1 rfl (lv_at hl 1 rfl) ?_
  rw [hQ]
  exact W.iret (v := a1) hx hb hr (fun t ht hW => ⟨⟨a1, (), rfl, ⟨rfl, rfl⟩, trivial⟩, hS.F ht⟩) hS.2.2 dB_36_1_56.2

set_option maxHeartbeats 4000000 in
set_option maxRecDepth 100000 in
theorem c_X5_lets2 (l : Launch) (D : va_G) (cy : Nat → ClassId) (sz : Nat) (h0 : Nat) (a1 : Int32) (a2 : Int32) : Met l yX5_lets wsX5_lets ({ frames := 1, cells := 0, slots := 0, locals := 22 }) (va_Pc [.ref h0, .int a1, .int a2] (fun U => U.heap.size = sz ∧ va_P D vwCl [ob5_0_ h0] U.heap ∧ kk_ D cy U ∧ va_D (fun _ => True) [ob5_0_ h0])) (va_Qi (fun (r : Int32) (_ : Unit) => ((a2.toInt = 0 → r.toInt = 0) ∧ (a2.toInt ≠ 0 → r.toInt = a1.toInt))) (fun (_ : Unit) (_ : State) => True) (va_A [] sz)) 0 0 (va_A [] sz) := by
  refine ofQ (cc := cX5_lets) (maxL := 3) (ret := (some .int)) (by decide) rfl ?_
  intro p e s m args below meth c s₁ Q hQ B hml hv
  obtain ⟨rfl, hsz, hP, hK, hD0⟩ := hv
  have hx := B.exec
  have hb := B.bytes
  have hr := B.returns
  have hts := atoms_spec (ws := wsX5_lets) B.pre
  have hown : s.vm.findClass RX5 = some m.cls := by have h_ := findClass_of_methodNamed B.named; exact h_
  have hlocks := B.notSynchronized
  subst hsz
  have hD : va_D (va_A [] s.heap.size) [] := dd_nil
  generalize hAe : va_A [] s.heap.size = A at hD hQ
  have hA : ∀ q : Nat, s.heap.size ≤ q → A q := fun q h => by rw [← hAe]; exact Or.inr h
  have hS : va_S A s.heap s.heap [] := va_S.rf
  have hl := lv_entry ([.ref h0, .int a1, .int a2]) (n := 3) (Nat.le_of_ble_eq_true rfl)
  rw [lg_entry_eq]
  generalize (lg_sl ([.ref h0, .int a1, .int a2]) ++ List.replicate (3 - (lg_sl ([.ref h0, .int a1, .int a2])).length) Slot.unset).toArray = ls at hl ⊢
  have hl : lv_has ls 3 [(0, .ref h0), (1, .int a1), (2, .int a2)] := hl
  have z0 : (0 : Int32).toInt = 0 := by decide
  refine lv_iload_n hx hb dB_36_1_49.1.1.1 rfl (lv_at hl 2 rfl) ?_
  refine lv_if_eq (tgt := 13) hx hb dB_36_1_49.1.1.2 (by decide) (fun c_1 => ?_) (fun c_1 => ?_)
  · have t_1 : a2.toInt = (0 : Int32).toInt := congrArg Int32.toInt c_1
    refine lv_iconst (v := 0) hx hb dB_36_1_49.2.2.2.1 (by decide) ?_
    rw [hQ]
    exact W.iret (v := 0) hx hb hr (fun t ht hW => ⟨⟨0, (), rfl, (by omega), trivial⟩, hS.F ht⟩) hS.2.2 dB_36_1_49.2.2.2.2
  · have t_1 : ¬ a2.toInt = (0 : Int32).toInt := fun h => c_1 (Int32.toInt_inj.mp h)
    refine lv_aload_n hx hb dB_36_1_49.1.2.1 rfl (lv_at hl 0 rfl) ?_
    refine lv_iload_n hx hb dB_36_1_49.1.2.2 rfl (lv_at hl 1 rfl) ?_
    refine lv_iload_n hx hb dB_36_1_49.2.1.1 rfl (lv_at hl 2 rfl) ?_
    refine ct_R hP hD0 [] [] (by decide) rfl (fun hPc hDw => ?_)
    have hFc := va_free (wc := []) hD hS hA [] rfl
    refine va_calli (va_runSU (As := [.int a1, .int a2]) (rest := []) (hK.1.1 5 _ rfl).2 ⟨hx, hb, hml, hown, hts⟩ (c_X6_lets2 l D cy s.heap.size h0 a1 a2) (va_cwSU 2 hts gX5_lets_X6_lets_s7 rfl rfl rfl (by decide +kernel) ⟨Nat.le_of_ble_eq_true rfl, Nat.le_of_ble_eq_true rfl⟩) ⟨bl_, va_recvX hK.1 hP (ci := 5) (q0 := 0) rfl rfl, fun U hU hW => ⟨rfl, by rw [hU], by rw [hU]; exact hPc, kk_mv hW hK, hDw⟩⟩ rfl rfl hl.1 rfl (lv_room (Nat.le_of_ble_eq_true rfl)) dB_36_1_49.2.1.2 ⟨Nat.le_of_ble_eq_true rfl, Nat.le_of_ble_eq_true rfl⟩) hS (fun q _ h => hFc q h) hFc (fun r_2 u t H locs ht hvm hw hB hz1 hk1 hS => ?_)
    have hP : va_P D vwCl _ H := ro_keep hP hk1
    obtain ⟨f0_r_2, f1_r_2⟩ := hw
    refine lv_goto (tgt := 14) hx hb dB_36_1_49.2.2.1 (by decide) ?_
    rw [hQ]
    exact W.iret (v := r_2) hx hb hr (fun t ht hW => ⟨⟨r_2, (), rfl, (by omega), trivial⟩, hS.F ht⟩) hS.2.2 dB_36_1_49.2.2.2.2

set_option maxHeartbeats 4000000 in
set_option maxRecDepth 100000 in
theorem c_X9_lets2 (l : Launch) (D : va_G) (cy : Nat → ClassId) (sz : Nat) (h0 : Nat) (a1 : Int32) (a2 : Int32) : Met l yX9_lets wsX9_lets ({ frames := 0, cells := 0, slots := 0, locals := 0 }) (va_Pc [.ref h0, .int a1, .int a2] (fun U => U.heap.size = sz ∧ va_P D vwCl [] U.heap ∧ kk_ D cy U ∧ va_D (fun _ => True) [])) (va_Qi (fun (r : Int32) (_ : Unit) => (r.toInt = -5)) (fun (_ : Unit) (_ : State) => True) (va_A [] sz)) 0 0 (va_A [] sz) := by
  refine ofQ (cc := cX9_lets) (maxL := 3) (ret := (some .int)) (by decide) rfl ?_
  intro p e s m args below meth c s₁ Q hQ B hml hv
  obtain ⟨rfl, hsz, hP, hK, hD0⟩ := hv
  have hx := B.exec
  have hb := B.bytes
  have hr := B.returns
  have hts := atoms_spec (ws := wsX9_lets) B.pre
  have hown : s.vm.findClass RX9 = some m.cls := by have h_ := findClass_of_methodNamed B.named; exact h_
  have hlocks := B.notSynchronized
  subst hsz
  have hD : va_D (va_A [] s.heap.size) [] := dd_nil
  generalize hAe : va_A [] s.heap.size = A at hD hQ
  have hA : ∀ q : Nat, s.heap.size ≤ q → A q := fun q h => by rw [← hAe]; exact Or.inr h
  have hS : va_S A s.heap s.heap [] := va_S.rf
  have hl := lv_entry ([.ref h0, .int a1, .int a2]) (n := 3) (Nat.le_of_ble_eq_true rfl)
  rw [lg_entry_eq]
  generalize (lg_sl ([.ref h0, .int a1, .int a2]) ++ List.replicate (3 - (lg_sl ([.ref h0, .int a1, .int a2])).length) Slot.unset).toArray = ls at hl ⊢
  have hl : lv_has ls 3 [(0, .ref h0), (1, .int a1), (2, .int a2)] := hl
  have zm5 : ((-5) : Int32).toInt = -5 := by decide
  refine lv_bipush (v := (-5)) hx hb dB_36_1_86.1 (by decide) ?_
  rw [hQ]
  exact W.iret (v := (-5)) hx hb hr (fun t ht hW => ⟨⟨(-5), (), rfl, (by omega), trivial⟩, hS.F ht⟩) hS.2.2 dB_36_1_86.2

set_option maxHeartbeats 4000000 in
set_option maxRecDepth 100000 in
theorem c_X6_costs2 (l : Launch) (D : va_G) (cy : Nat → ClassId) (sz : Nat) (h0 : Nat) (a1 : Int32) : Met l yX6_costs wsX6_costs ({ frames := 0, cells := 0, slots := 0, locals := 0 }) (va_Pc [.ref h0, .int a1] (fun U => U.heap.size = sz ∧ va_P D vwCl [] U.heap ∧ kk_ D cy U ∧ va_D (fun _ => True) [])) (va_Qi (fun (r : Int32) (_ : Unit) => (r = (-9)) ∧ (r.toInt = -9)) (fun (_ : Unit) (_ : State) => True) (va_A [] sz)) 0 0 (va_A [] sz) := by
  refine ofQ (cc := cX6_costs) (maxL := 2) (ret := (some .int)) (by decide) rfl ?_
  intro p e s m args below meth c s₁ Q hQ B hml hv
  obtain ⟨rfl, hsz, hP, hK, hD0⟩ := hv
  have hx := B.exec
  have hb := B.bytes
  have hr := B.returns
  have hts := atoms_spec (ws := wsX6_costs) B.pre
  have hown : s.vm.findClass RX6 = some m.cls := by have h_ := findClass_of_methodNamed B.named; exact h_
  have hlocks := B.notSynchronized
  subst hsz
  have hD : va_D (va_A [] s.heap.size) [] := dd_nil
  generalize hAe : va_A [] s.heap.size = A at hD hQ
  have hA : ∀ q : Nat, s.heap.size ≤ q → A q := fun q h => by rw [← hAe]; exact Or.inr h
  have hS : va_S A s.heap s.heap [] := va_S.rf
  have hl := lv_entry ([.ref h0, .int a1]) (n := 2) (Nat.le_of_ble_eq_true rfl)
  rw [lg_entry_eq]
  generalize (lg_sl ([.ref h0, .int a1]) ++ List.replicate (2 - (lg_sl ([.ref h0, .int a1])).length) Slot.unset).toArray = ls at hl ⊢
  have hl : lv_has ls 2 [(0, .ref h0), (1, .int a1)] := hl
  have zm9 : ((-9) : Int32).toInt = -9 := by decide
  refine lv_bipush (v := (-9)) hx hb dB_36_1_53.1 (by decide) ?_
  rw [hQ]
  exact W.iret (v := (-9)) hx hb hr (fun t ht hW => ⟨⟨(-9), (), rfl, ⟨rfl, by omega⟩, trivial⟩, hS.F ht⟩) hS.2.2 dB_36_1_53.2

set_option maxHeartbeats 4000000 in
set_option maxRecDepth 100000 in
theorem c_X2_costs2 (l : Launch) (D : va_G) (cy : Nat → ClassId) (sz : Nat) (h0 : Nat) (a1 : Int32) : Met l yX2_costs wsX2_costs ({ frames := 0, cells := 0, slots := 0, locals := 0 }) (va_Pc [.ref h0, .int a1] (fun U => U.heap.size = sz ∧ va_P D vwCl [] U.heap ∧ kk_ D cy U ∧ va_D (fun _ => True) [])) (va_Qi (fun (r : Int32) (_ : Unit) => (r = a1) ∧ (r.toInt = a1.toInt)) (fun (_ : Unit) (_ : State) => True) (va_A [] sz)) 0 0 (va_A [] sz) := by
  refine ofQ (cc := cX2_costs) (maxL := 2) (ret := (some .int)) (by decide) rfl ?_
  intro p e s m args below meth c s₁ Q hQ B hml hv
  obtain ⟨rfl, hsz, hP, hK, hD0⟩ := hv
  have hx := B.exec
  have hb := B.bytes
  have hr := B.returns
  have hts := atoms_spec (ws := wsX2_costs) B.pre
  have hown : s.vm.findClass RX2 = some m.cls := by have h_ := findClass_of_methodNamed B.named; exact h_
  have hlocks := B.notSynchronized
  subst hsz
  have hD : va_D (va_A [] s.heap.size) [] := dd_nil
  generalize hAe : va_A [] s.heap.size = A at hD hQ
  have hA : ∀ q : Nat, s.heap.size ≤ q → A q := fun q h => by rw [← hAe]; exact Or.inr h
  have hS : va_S A s.heap s.heap [] := va_S.rf
  have hl := lv_entry ([.ref h0, .int a1]) (n := 2) (Nat.le_of_ble_eq_true rfl)
  rw [lg_entry_eq]
  generalize (lg_sl ([.ref h0, .int a1]) ++ List.replicate (2 - (lg_sl ([.ref h0, .int a1])).length) Slot.unset).toArray = ls at hl ⊢
  have hl : lv_has ls 2 [(0, .ref h0), (1, .int a1)] := hl
  refine lv_iload_n hx hb dB_36_1_4.1 rfl (lv_at hl 1 rfl) ?_
  rw [hQ]
  exact W.iret (v := a1) hx hb hr (fun t ht hW => ⟨⟨a1, (), rfl, ⟨rfl, rfl⟩, trivial⟩, hS.F ht⟩) hS.2.2 dB_36_1_4.2

set_option maxHeartbeats 4000000 in
set_option maxRecDepth 100000 in
theorem c_X8_costs2 (l : Launch) (D : va_G) (cy : Nat → ClassId) (sz : Nat) (h0 : Nat) (a1 : Int32) (q1 : 0 ≤ a1.toInt ∧ a1.toInt ≤ 100) : Met l yX8_costs wsX8_costs ({ frames := 1, cells := 0, slots := 0, locals := 21 }) (va_Pc [.ref h0, .int a1] (fun U => U.heap.size = sz ∧ va_P D vwCl [ob8_0_ h0] U.heap ∧ kk_ D cy U ∧ va_D (fun _ => True) [ob8_0_ h0])) (va_Qi (fun (r : Int32) (_ : Unit) => (r = a1 + 1) ∧ (r.toInt = a1.toInt + 1)) (fun (_ : Unit) (_ : State) => True) (va_A [] sz)) 0 0 (va_A [] sz) := by
  refine ofQ (cc := cX8_costs) (maxL := 2) (ret := (some .int)) (by decide) rfl ?_
  intro p e s m args below meth c s₁ Q hQ B hml hv
  obtain ⟨rfl, hsz, hP, hK, hD0⟩ := hv
  have hx := B.exec
  have hb := B.bytes
  have hr := B.returns
  have hts := atoms_spec (ws := wsX8_costs) B.pre
  have hown : s.vm.findClass RX8 = some m.cls := by have h_ := findClass_of_methodNamed B.named; exact h_
  have hlocks := B.notSynchronized
  subst hsz
  have hD : va_D (va_A [] s.heap.size) [] := dd_nil
  generalize hAe : va_A [] s.heap.size = A at hD hQ
  have hA : ∀ q : Nat, s.heap.size ≤ q → A q := fun q h => by rw [← hAe]; exact Or.inr h
  have hS : va_S A s.heap s.heap [] := va_S.rf
  have hl := lv_entry ([.ref h0, .int a1]) (n := 2) (Nat.le_of_ble_eq_true rfl)
  rw [lg_entry_eq]
  generalize (lg_sl ([.ref h0, .int a1]) ++ List.replicate (2 - (lg_sl ([.ref h0, .int a1])).length) Slot.unset).toArray = ls at hl ⊢
  have hl : lv_has ls 2 [(0, .ref h0), (1, .int a1)] := hl
  have z1 : (1 : Int32).toInt = 1 := by decide
  refine lv_aload_n hx hb dB_36_1_82.1.1 rfl (lv_at hl 0 rfl) ?_
  refine lv_iload_n hx hb dB_36_1_82.1.2.1 rfl (lv_at hl 1 rfl) ?_
  refine ct_R hP hD0 [] [] (by decide) rfl (fun hPc hDw => ?_)
  have hFc := va_free (wc := []) hD hS hA [] rfl
  refine va_calli (va_runSU (As := [.int a1]) (rest := []) (hK.1.1 8 _ rfl).2 ⟨hx, hb, hml, hown, hts⟩ (c_X2_costs2 l D cy s.heap.size h0 a1) (va_cwSU 1 hts gX8_costs_X2_costs_s7 rfl rfl rfl (by decide +kernel) ⟨Nat.le_of_ble_eq_true rfl, Nat.le_of_ble_eq_true rfl⟩) ⟨bl_, va_recvX hK.1 hP (ci := 8) (q0 := 0) rfl rfl, fun U hU hW => ⟨rfl, by rw [hU], by rw [hU]; exact hPc, kk_mv hW hK, hDw⟩⟩ rfl rfl hl.1 rfl (lv_room (Nat.le_of_ble_eq_true rfl)) dB_36_1_82.1.2.2 ⟨Nat.le_of_ble_eq_true rfl, Nat.le_of_ble_eq_true rfl⟩) hS (fun q _ h => hFc q h) hFc (fun r_1 u t H locs ht hvm hw hB hz1 hk1 hS => ?_)
  have hP : va_P D vwCl _ H := ro_keep hP hk1
  obtain ⟨f0_r_1, f1_r_1⟩ := hw
  refine lv_iconst (v := 1) hx hb dB_36_1_82.2.1 (by decide) ?_
  refine lv_iadd hx hb dB_36_1_82.2.2.1 ?_
  refine lv_topi (fun y_2 ey_2 => ?_)
  have ty_2 : y_2.toInt = r_1.toInt + (1 : Int32).toInt := by rw [ey_2]; exact addI (by omega) (by omega)
  rw [hQ]
  exact W.iret (v := y_2) hx hb hr (fun t ht hW => ⟨⟨y_2, (), rfl, ⟨by rw [ey_2, f0_r_1], by omega⟩, trivial⟩, hS.F ht⟩) hS.2.2 dB_36_1_82.2.2.2

set_option maxHeartbeats 4000000 in
set_option maxRecDepth 100000 in
theorem c_X6_begins2 (l : Launch) (D : va_G) (cy : Nat → ClassId) (sz : Nat) (h0 : Nat) (a1 : Int32) : Met l yX6_begins wsX6_begins ({ frames := 0, cells := 0, slots := 0, locals := 0 }) (va_Pc [.ref h0, .int a1] (fun U => U.heap.size = sz ∧ va_P D vwCl [] U.heap ∧ kk_ D cy U ∧ va_D (fun _ => True) [])) (va_Qi (fun (r : Int32) (_ : Unit) => (r = a1) ∧ (r.toInt = a1.toInt)) (fun (_ : Unit) (_ : State) => True) (va_A [] sz)) 0 0 (va_A [] sz) := by
  refine ofQ (cc := cX6_begins) (maxL := 2) (ret := (some .int)) (by decide) rfl ?_
  intro p e s m args below meth c s₁ Q hQ B hml hv
  obtain ⟨rfl, hsz, hP, hK, hD0⟩ := hv
  have hx := B.exec
  have hb := B.bytes
  have hr := B.returns
  have hts := atoms_spec (ws := wsX6_begins) B.pre
  have hown : s.vm.findClass RX6 = some m.cls := by have h_ := findClass_of_methodNamed B.named; exact h_
  have hlocks := B.notSynchronized
  subst hsz
  have hD : va_D (va_A [] s.heap.size) [] := dd_nil
  generalize hAe : va_A [] s.heap.size = A at hD hQ
  have hA : ∀ q : Nat, s.heap.size ≤ q → A q := fun q h => by rw [← hAe]; exact Or.inr h
  have hS : va_S A s.heap s.heap [] := va_S.rf
  have hl := lv_entry ([.ref h0, .int a1]) (n := 2) (Nat.le_of_ble_eq_true rfl)
  rw [lg_entry_eq]
  generalize (lg_sl ([.ref h0, .int a1]) ++ List.replicate (2 - (lg_sl ([.ref h0, .int a1])).length) Slot.unset).toArray = ls at hl ⊢
  have hl : lv_has ls 2 [(0, .ref h0), (1, .int a1)] := hl
  refine lv_iload_n hx hb dB_36_1_51.1 rfl (lv_at hl 1 rfl) ?_
  rw [hQ]
  exact W.iret (v := a1) hx hb hr (fun t ht hW => ⟨⟨a1, (), rfl, ⟨rfl, rfl⟩, trivial⟩, hS.F ht⟩) hS.2.2 dB_36_1_51.2

set_option maxHeartbeats 4000000 in
set_option maxRecDepth 100000 in
theorem c_X8_begins2 (l : Launch) (D : va_G) (cy : Nat → ClassId) (sz : Nat) (h0 : Nat) (a1 : Int32) : Met l yX8_begins wsX8_begins ({ frames := 0, cells := 0, slots := 0, locals := 0 }) (va_Pc [.ref h0, .int a1] (fun U => U.heap.size = sz ∧ va_P D vwCl [] U.heap ∧ kk_ D cy U ∧ va_D (fun _ => True) [])) (va_Qi (fun (r : Int32) (_ : Unit) => (r = 0) ∧ (r.toInt = 0)) (fun (_ : Unit) (_ : State) => True) (va_A [] sz)) 0 0 (va_A [] sz) := by
  refine ofQ (cc := cX8_begins) (maxL := 2) (ret := (some .int)) (by decide) rfl ?_
  intro p e s m args below meth c s₁ Q hQ B hml hv
  obtain ⟨rfl, hsz, hP, hK, hD0⟩ := hv
  have hx := B.exec
  have hb := B.bytes
  have hr := B.returns
  have hts := atoms_spec (ws := wsX8_begins) B.pre
  have hown : s.vm.findClass RX8 = some m.cls := by have h_ := findClass_of_methodNamed B.named; exact h_
  have hlocks := B.notSynchronized
  subst hsz
  have hD : va_D (va_A [] s.heap.size) [] := dd_nil
  generalize hAe : va_A [] s.heap.size = A at hD hQ
  have hA : ∀ q : Nat, s.heap.size ≤ q → A q := fun q h => by rw [← hAe]; exact Or.inr h
  have hS : va_S A s.heap s.heap [] := va_S.rf
  have hl := lv_entry ([.ref h0, .int a1]) (n := 2) (Nat.le_of_ble_eq_true rfl)
  rw [lg_entry_eq]
  generalize (lg_sl ([.ref h0, .int a1]) ++ List.replicate (2 - (lg_sl ([.ref h0, .int a1])).length) Slot.unset).toArray = ls at hl ⊢
  have hl : lv_has ls 2 [(0, .ref h0), (1, .int a1)] := hl
  have z0 : (0 : Int32).toInt = 0 := by decide
  refine lv_iconst (v := 0) hx hb dB_36_1_80.1 (by decide) ?_
  rw [hQ]
  exact W.iret (v := 0) hx hb hr (fun t ht hW => ⟨⟨0, (), rfl, ⟨rfl, by omega⟩, trivial⟩, hS.F ht⟩) hS.2.2 dB_36_1_80.2

set_option maxHeartbeats 4000000 in
set_option maxRecDepth 100000 in
theorem c_X3_missingLines2 (l : Launch) (D : va_G) (cy : Nat → ClassId) (sz : Nat) (xn : Nat) (n1 : Nat) (n2 : Nat) (n3 : Nat) (n4 : Nat) (n5 : Nat) (vp : Int32) (vn : Int32) (fs : Nat → Int32) (hvn : 0 ≤ vn.toInt ∧ vn.toInt ≤ 40) : Met l yX3_missingLines wsX3_missingLines ({ frames := 1, cells := 0, slots := 0, locals := 21 }) (va_Pc [.ref xn] (fun U => U.heap.size = sz ∧ va_P D vwCl [ob3_0_ xn vp vn n1 n2 n3 n4 n5, ai_ cy n2 40 fs] U.heap ∧ kk_ D cy U ∧ va_D (fun _ => True) [ob3_0_ xn vp vn n1 n2 n3 n4 n5, ai_ cy n2 40 fs])) (va_Qi (fun (r : Int32) (_ : Unit) => (r.toInt = sumI (msF fs) vn.toNatClampNeg)) (fun (_ : Unit) (_ : State) => True) (va_A [] sz)) 0 0 (va_A [] sz) := by
  refine ofQ (cc := cX3_missingLines) (maxL := 3) (ret := (some .int)) (by decide) rfl ?_
  intro p e s m args below meth c s₁ Q hQ B hml hv
  obtain ⟨rfl, hsz, hP, hK, hD0⟩ := hv
  have hx := B.exec
  have hb := B.bytes
  have hr := B.returns
  have hts := atoms_spec (ws := wsX3_missingLines) B.pre
  have hown : s.vm.findClass RX3 = some m.cls := by have h_ := findClass_of_methodNamed B.named; exact h_
  have hlocks := B.notSynchronized
  subst hsz
  have hD : va_D (va_A [] s.heap.size) [] := dd_nil
  generalize hAe : va_A [] s.heap.size = A at hD hQ
  have hA : ∀ q : Nat, s.heap.size ≤ q → A q := fun q h => by rw [← hAe]; exact Or.inr h
  have hS : va_S A s.heap s.heap [] := va_S.rf
  have hl := lv_entry ([.ref xn]) (n := 3) (Nat.le_of_ble_eq_true rfl)
  rw [lg_entry_eq]
  generalize (lg_sl ([.ref xn]) ++ List.replicate (3 - (lg_sl ([.ref xn])).length) Slot.unset).toArray = ls at hl ⊢
  have hl : lv_has ls 3 [(0, .ref xn)] := hl
  have z0 : (0 : Int32).toInt = 0 := by decide
  have z1 : (1 : Int32).toInt = 1 := by decide
  refine lv_iconst (v := 0) hx hb dB_36_1_27.1.1.1.1 (by decide) ?_
  refine lv_istore_n (lv' := [(1, .int 0), (0, .ref xn)]) hx hb dB_36_1_27.1.1.1.2 rfl hl (by decide) rfl (fun ls hl => ?_)
  refine lv_iconst (v := 0) hx hb dB_36_1_27.1.1.2.1 (by decide) ?_
  refine lv_istore_n (lv' := [(2, .int 0), (1, .int 0), (0, .ref xn)]) hx hb dB_36_1_27.1.1.2.2 rfl hl (by decide) rfl (fun ls hl => ?_)
  suffices LOOP_1 : ∀ (n_1 : Nat) (x2_1 : Int32) (x1_1 : Int32) (H : Heap) (locs : List Loc) (ls : Array Slot), vn.toInt - x2_1.toInt < (n_1 : Int) → (0 ≤ x2_1.toInt) → (x2_1.toInt ≤ vn.toInt) → (0 ≤ x1_1.toInt ∧ x1_1.toInt ≤ x2_1.toInt) → (x1_1.toInt = sumI (msF fs) x2_1.toNatClampNeg) → va_P D vwCl [ob3_0_ xn vp vn n1 n2 n3 n4 n5, ai_ cy n2 40 fs] H → va_S A s.heap H locs → lv_has ls 3 [(2, .int x2_1), (1, .int x1_1), (0, .ref xn)] → W p l e ({ frames := 1, cells := 0, slots := 0, locals := 21 } : Room) s m (([.ref xn] : List Value).toArray) below meth c H locs 0 0 Q (F0 m 4 ls []) from LOOP_1 ((vn.toInt - (0 : Int32).toInt).toNat + 1) (0 : Int32) (0 : Int32) _ _ _ (by omega) (by first | with_reducible assumption | omega | assumption) (by first | with_reducible assumption | omega | assumption) (by first | with_reducible assumption | omega | assumption) (by first | exact sum_0 | exact cnt_st v_none (by unfold msF; (repeat' (first | with_reducible refine if_n (by omega) ?_ | with_reducible refine if_ns (by omega) ?_ | with_reducible refine if_nz (by omega) ?_ | with_reducible exact if_p (by omega) (by omega) | with_reducible exact if_ps (by omega) (by omega) | with_reducible exact if_pz (by omega) (by omega))) <;> omega) (by omega) (by omega)) hP hS (lv_sub hl [0, 1, 2] rfl)
  intro n_1
  induction n_1 with
  | zero =>
    intro x2_1 x1_1 H locs ls hm v0_1 v1_1 v2_1 v3_1 hP hS hl
    exact absurd hm (by omega)
  | succ n_1 ih_1 =>
    intro x2_1 x1_1 H locs ls hm v0_1 v1_1 v2_1 v3_1 hP hS hl
    refine lv_iload_n hx hb dB_36_1_27.1.2.1.1 rfl (lv_at hl 0 rfl) ?_
    refine lv_aload_n hx hb dB_36_1_27.1.2.1.2 rfl (lv_at hl 2 rfl) ?_
    refine va_get (ci := 3) (v := .int vn) (C := RX3) (T := TX3) (N := 7) hx hb hts (fun _ h => List.mem_cons_of_mem _ (List.mem_append_right _ h)) hown hK.1 hP 0 rfl rfl 1 (by decide) (hts (.fieldLink RX3 15 "CutAtlas$Net" "lines" "I") (List.mem_of_getElem? (i := 1) rfl)) (fun _ h9 => h9) rfl dB_36_1_27.1.2.2.1 ?_
    refine lv_icmp_ge (tgt := 34) hx hb dB_36_1_27.1.2.2.2 (by decide) (fun c_2 => ?_) (fun c_2 => ?_)
    · have t_2 : vn.toInt ≤ x2_1.toInt := Int32.le_iff_toInt_le.mp c_2
      refine lv_iload_n hx hb dB_36_1_28.2.2.1 rfl (lv_at hl 1 rfl) ?_
      rw [hQ]
      exact W.iret (v := x1_1) hx hb hr (fun t ht hW => ⟨⟨x1_1, (), rfl, (sum_end v3_1 (by omega)), trivial⟩, hS.F ht⟩) hS.2.2 dB_36_1_28.2.2.2
    · have t_2 : ¬ vn.toInt ≤ x2_1.toInt := fun h => c_2 (Int32.le_iff_toInt_le.mpr h)
      refine lv_iload_n hx hb dB_36_1_27.2.1.1.1 rfl (lv_at hl 1 rfl) ?_
      refine lv_aload_n hx hb dB_36_1_27.2.1.1.2 rfl (lv_at hl 2 rfl) ?_
      refine lv_iload_n hx hb dB_36_1_27.2.1.2.1 rfl (lv_at hl 0 rfl) ?_
      refine ct_R hP hD0 [ob3_0_ xn vp vn n1 n2 n3 n4 n5, ai_ cy n2 40 fs] [0, 1] (by decide) rfl (fun hPc hDw => ?_)
      have hFc := va_free (wc := []) hD hS hA [] rfl
      refine va_calli (va_runV (As := [.int x2_1]) (rest := [.int x1_1]) ⟨hx, hb, hml, hown, hts⟩ (c_X3_isMissing l D cy H.size xn n1 n2 n3 n4 n5 vp vn fs x2_1 (by first | with_reducible assumption | omega | assumption)) (cwV 1 hts gX3_missingLines_X3_isMissing rfl rfl rfl ⟨rfl, hd_X3_isMissing⟩ ⟨Nat.le_of_ble_eq_true rfl, Nat.le_of_ble_eq_true rfl⟩) ⟨bl_, va_recvX hK.1 hP (ci := 3) (q0 := 0) rfl rfl, fun U hU hW => ⟨rfl, by rw [hU], by rw [hU]; exact hPc, kk_mv hW hK, hDw⟩⟩ rfl rfl hl.1 rfl (lv_room (Nat.le_of_ble_eq_true rfl)) dB_36_1_27.2.1.2.2 ⟨Nat.le_of_ble_eq_true rfl, Nat.le_of_ble_eq_true rfl⟩) hS (fun q _ h => hFc q h) hFc (fun r_3 u t H locs ht hvm hw hB hz1 hk1 hS => ?_)
      have hP : va_P D vwCl _ H := ro_keep hP hk1
      rcases hw with ⟨w_4, e_⟩ | ⟨w_4, e_⟩
      · have e_ := e_.symm
        subst e_
        refine lv_if_eq (tgt := 25) hx hb dB_36_1_27.2.2.1.1 (by decide) (fun c_5 => ?_) (fun c_5 => ?_)
        · exact absurd c_5 (by decide)
        · have _ := c_5
          refine lv_iconst (v := 1) hx hb dB_36_1_27.2.2.1.2 (by decide) ?_
          refine lv_goto (tgt := 26) hx hb dB_36_1_27.2.2.2.1 (by decide) ?_
          refine lv_iadd hx hb dB_36_1_28.1.1 ?_
          refine lv_topi (fun y_6 ey_6 => ?_)
          have ty_6 : y_6.toInt = x1_1.toInt + (1 : Int32).toInt := by rw [ey_6]; exact addI (by omega) (by omega)
          refine lv_istore_n (lv' := [(1, .int y_6), (2, .int x2_1), (0, .ref xn)]) hx hb dB_36_1_28.1.2.1 rfl hl (by decide) rfl (fun ls hl => ?_)
          obtain ⟨y_7, ey_7⟩ : ∃ y : Int32, y = x2_1 + 1 := ⟨_, rfl⟩
          have ty_7 : y_7.toInt = x2_1.toInt + (1 : Int32).toInt := by rw [ey_7]; exact addI (by omega) (by omega)
          refine lv_iinc (v := y_7) (lv' := [(2, .int y_7), (1, .int y_6), (0, .ref xn)]) hx hb dB_36_1_28.1.2.2 hl (k := 1) rfl (by rw [ey_7]; rfl) (by decide) rfl (fun ls hl => ?_)
          refine lv_goto (tgt := 4) hx hb dB_36_1_28.2.1 (by decide) ?_
          exact ih_1 y_7 y_6 _ _ _ (by omega) (by first | with_reducible assumption | omega | assumption) (by first | with_reducible assumption | omega | assumption) (by first | with_reducible assumption | omega | assumption) (by first | exact sum_0 | exact cnt_st v3_1 (by unfold msF; (repeat' (first | with_reducible refine if_n (by omega) ?_ | with_reducible refine if_ns (by omega) ?_ | with_reducible refine if_nz (by omega) ?_ | with_reducible exact if_p (by omega) (by omega) | with_reducible exact if_ps (by omega) (by omega) | with_reducible exact if_pz (by omega) (by omega))) <;> omega) (by omega) (by omega)) hP hS (lv_sub hl [0, 1, 2] rfl)
      · have e_ := e_.symm
        subst e_
        refine lv_if_eq (tgt := 25) hx hb dB_36_1_27.2.2.1.1 (by decide) (fun c_8 => ?_) (fun c_8 => ?_)
        · have _ := c_8
          refine lv_iconst (v := 0) hx hb dB_36_1_27.2.2.2.2 (by decide) ?_
          refine lv_iadd hx hb dB_36_1_28.1.1 ?_
          refine lv_topi (fun y_9 ey_9 => ?_)
          have ty_9 : y_9.toInt = x1_1.toInt + (0 : Int32).toInt := by rw [ey_9]; exact addI (by omega) (by omega)
          refine lv_istore_n (lv' := [(1, .int y_9), (2, .int x2_1), (0, .ref xn)]) hx hb dB_36_1_28.1.2.1 rfl hl (by decide) rfl (fun ls hl => ?_)
          obtain ⟨y_10, ey_10⟩ : ∃ y : Int32, y = x2_1 + 1 := ⟨_, rfl⟩
          have ty_10 : y_10.toInt = x2_1.toInt + (1 : Int32).toInt := by rw [ey_10]; exact addI (by omega) (by omega)
          refine lv_iinc (v := y_10) (lv' := [(2, .int y_10), (1, .int y_9), (0, .ref xn)]) hx hb dB_36_1_28.1.2.2 hl (k := 1) rfl (by rw [ey_10]; rfl) (by decide) rfl (fun ls hl => ?_)
          refine lv_goto (tgt := 4) hx hb dB_36_1_28.2.1 (by decide) ?_
          exact ih_1 y_10 y_9 _ _ _ (by omega) (by first | with_reducible assumption | omega | assumption) (by first | with_reducible assumption | omega | assumption) (by first | with_reducible assumption | omega | assumption) (by first | exact sum_0 | exact cnt_st v3_1 (by unfold msF; (repeat' (first | with_reducible refine if_n (by omega) ?_ | with_reducible refine if_ns (by omega) ?_ | with_reducible refine if_nz (by omega) ?_ | with_reducible exact if_p (by omega) (by omega) | with_reducible exact if_ps (by omega) (by omega) | with_reducible exact if_pz (by omega) (by omega))) <;> omega) (by omega) (by omega)) hP hS (lv_sub hl [0, 1, 2] rfl)
        · exact absurd c_8 (by decide)

set_option maxHeartbeats 4000000 in
set_option maxRecDepth 100000 in
theorem c_X3_isWhole2 (l : Launch) (D : va_G) (cy : Nat → ClassId) (sz : Nat) (xn : Nat) (n1 : Nat) (n2 : Nat) (n3 : Nat) (n4 : Nat) (n5 : Nat) (vp : Int32) (vn : Int32) (fk : Nat → Int32) (fs : Nat → Int32) (hvn : 0 ≤ vn.toInt ∧ vn.toInt ≤ 40) : Met l yX3_isWhole wsX3_isWhole ({ frames := 1, cells := 0, slots := 0, locals := 21 }) (va_Pc [.ref xn] (fun U => U.heap.size = sz ∧ va_P D vwCl [ob3_0_ xn vp vn n1 n2 n3 n4 n5, ai_ cy n1 40 fk, ai_ cy n2 40 fs] U.heap ∧ kk_ D cy U ∧ va_D (fun _ => True) [ob3_0_ xn vp vn n1 n2 n3 n4 n5, ai_ cy n1 40 fk, ai_ cy n2 40 fs])) (va_Qi (fun (r : Int32) (_ : Unit) => (r.toInt = 0 ∨ r.toInt = 1) ∧ (r.toInt = whI vp.toInt (sumI (bkF fk fs) vn.toNatClampNeg))) (fun (_ : Unit) (_ : State) => True) (va_A [] sz)) 0 0 (va_A [] sz) := by
  refine ofQ (cc := cX3_isWhole) (maxL := 3) (ret := (some .boolean)) (by decide) rfl ?_
  intro p e s m args below meth c s₁ Q hQ B hml hv
  obtain ⟨rfl, hsz, hP, hK, hD0⟩ := hv
  have hx := B.exec
  have hb := B.bytes
  have hr := B.returns
  have hts := atoms_spec (ws := wsX3_isWhole) B.pre
  have hown : s.vm.findClass RX3 = some m.cls := by have h_ := findClass_of_methodNamed B.named; exact h_
  have hlocks := B.notSynchronized
  subst hsz
  have hD : va_D (va_A [] s.heap.size) [] := dd_nil
  generalize hAe : va_A [] s.heap.size = A at hD hQ
  have hA : ∀ q : Nat, s.heap.size ≤ q → A q := fun q h => by rw [← hAe]; exact Or.inr h
  have hS : va_S A s.heap s.heap [] := va_S.rf
  have hl := lv_entry ([.ref xn]) (n := 3) (Nat.le_of_ble_eq_true rfl)
  rw [lg_entry_eq]
  generalize (lg_sl ([.ref xn]) ++ List.replicate (3 - (lg_sl ([.ref xn])).length) Slot.unset).toArray = ls at hl ⊢
  have hl : lv_has ls 3 [(0, .ref xn)] := hl
  have z0 : (0 : Int32).toInt = 0 := by decide
  have z1 : (1 : Int32).toInt = 1 := by decide
  have z2 : (2 : Int32).toInt = 2 := by decide
  refine lv_iconst (v := 0) hx hb dB_36_1_20.1.1.1.1 (by decide) ?_
  refine lv_istore_n (lv' := [(1, .int 0), (0, .ref xn)]) hx hb dB_36_1_20.1.1.1.2 rfl hl (by decide) rfl (fun ls hl => ?_)
  suffices LOOP_1 : ∀ (n_1 : Nat) (x1_1 : Int32) (H : Heap) (locs : List Loc) (ls : Array Slot), vn.toInt - x1_1.toInt < (n_1 : Int) → (0 ≤ x1_1.toInt) → (x1_1.toInt ≤ vn.toInt) → (sumI (bkF fk fs) x1_1.toNatClampNeg = 0) → va_P D vwCl [ob3_0_ xn vp vn n1 n2 n3 n4 n5, ai_ cy n1 40 fk, ai_ cy n2 40 fs] H → va_S A s.heap H locs → lv_has ls 3 [(1, .int x1_1), (0, .ref xn)] → W p l e ({ frames := 1, cells := 0, slots := 0, locals := 21 } : Room) s m (([.ref xn] : List Value).toArray) below meth c H locs 0 0 Q (F0 m 2 ls []) from LOOP_1 ((vn.toInt - (0 : Int32).toInt).toNat + 1) (0 : Int32) _ _ _ (by omega) (by first | with_reducible assumption | omega | assumption) (by first | with_reducible assumption | omega | assumption) (by first | rfl | exact bk_lp v_none (by omega) (by omega) (by unfold bkF; (repeat' (first | with_reducible refine if_n (by omega) ?_ | with_reducible refine if_ns (by omega) ?_ | with_reducible refine if_nz (by omega) ?_ | with_reducible exact if_p (by omega) (by omega) | with_reducible exact if_ps (by omega) (by omega) | with_reducible exact if_pz (by omega) (by omega))) <;> omega)) hP hS (lv_sub hl [0, 1] rfl)
  intro n_1
  induction n_1 with
  | zero =>
    intro x1_1 H locs ls hm v0_1 v1_1 v2_1 hP hS hl
    exact absurd hm (by omega)
  | succ n_1 ih_1 =>
    intro x1_1 H locs ls hm v0_1 v1_1 v2_1 hP hS hl
    refine lv_iload_n hx hb dB_36_1_20.1.1.2.1 rfl (lv_at hl 0 rfl) ?_
    refine lv_aload_n hx hb dB_36_1_20.1.1.2.2 rfl (lv_at hl 1 rfl) ?_
    refine va_get (ci := 3) (v := .int vn) (C := RX3) (T := TX3) (N := 7) hx hb hts (fun _ h => List.mem_cons_of_mem _ (List.mem_append_right _ h)) hown hK.1 hP 0 rfl rfl 1 (by decide) (hts (.fieldLink RX3 15 "CutAtlas$Net" "lines" "I") (List.mem_of_getElem? (i := 1) rfl)) (fun _ h9 => h9) rfl dB_36_1_20.1.2.1.1 ?_
    refine lv_icmp_ge (tgt := 56) hx hb dB_36_1_20.1.2.1.2 (by decide) (fun c_2 => ?_) (fun c_2 => ?_)
    · have t_2 : vn.toInt ≤ x1_1.toInt := Int32.le_iff_toInt_le.mp c_2
      refine lv_aload_n hx hb dB_36_1_22.1.1.1 rfl (lv_at hl 1 rfl) ?_
      refine va_get (ci := 3) (v := .int vp) (C := RX3) (T := TX3) (N := 7) hx hb hts (fun _ h => List.mem_cons_of_mem _ (List.mem_append_right _ h)) hown hK.1 hP 0 rfl rfl 0 (by decide) (hts (.fieldLink RX3 9 "CutAtlas$Net" "places" "I") (List.mem_of_getElem? (i := 3) rfl)) (fun _ h9 => h9) rfl dB_36_1_22.1.1.2 ?_
      refine lv_iconst (v := 2) hx hb dB_36_1_22.1.2.1 (by decide) ?_
      refine lv_icmp_lt (tgt := 68) hx hb dB_36_1_22.1.2.2 (by decide) (fun c_3 => ?_) (fun c_3 => ?_)
      · have t_3 : vp.toInt < (2 : Int32).toInt := Int32.lt_iff_toInt_lt.mp c_3
        refine lv_iconst (v := 0) hx hb dB_36_1_22.2.2.1 (by decide) ?_
        rw [hQ]
        exact W.zret (ty := .boolean) (v := 0) hx hb hr (by decide) (fun t ht hW => ⟨⟨0, (), rfl, ⟨by omega, wh_z v2_1 (by omega) (by first | (rw [if_pos (by omega)]; decide) | (rw [if_neg (by omega)]; decide))⟩, trivial⟩, hS.F ht⟩) hS.2.2 dB_36_1_22.2.2.2
      · have t_3 : ¬ vp.toInt < (2 : Int32).toInt := fun h => c_3 (Int32.lt_iff_toInt_lt.mpr h)
        refine lv_iconst (v := 1) hx hb dB_36_1_22.2.1.1 (by decide) ?_
        refine lv_goto (tgt := 69) hx hb dB_36_1_22.2.1.2 (by decide) ?_
        rw [hQ]
        exact W.zret (ty := .boolean) (v := 1) hx hb hr (by decide) (fun t ht hW => ⟨⟨1, (), rfl, ⟨by omega, wh_z v2_1 (by omega) (by first | (rw [if_pos (by omega)]; decide) | (rw [if_neg (by omega)]; decide))⟩, trivial⟩, hS.F ht⟩) hS.2.2 dB_36_1_22.2.2.2
    · have t_2 : ¬ vn.toInt ≤ x1_1.toInt := fun h => c_2 (Int32.le_iff_toInt_le.mpr h)
      refine lv_aload_n hx hb dB_36_1_20.1.2.2.1 rfl (lv_at hl 1 rfl) ?_
      refine va_get (ci := 3) (v := .ref n1) (C := RX3) (T := TX3) (N := 7) hx hb hts (fun _ h => List.mem_cons_of_mem _ (List.mem_append_right _ h)) hown hK.1 hP 0 rfl rfl 2 (by decide) (hts (.fieldLink RX3 18 "CutAtlas$Net" "kinds" "[I") (List.mem_of_getElem? (i := 2) rfl)) (fun _ h9 => h9) rfl dB_36_1_20.1.2.2.2 ?_
      refine lv_iload_n hx hb dB_36_1_20.2.1.1.1 rfl (lv_at hl 0 rfl) ?_
      have h_4 : vp_in x1_1 40 := in_I (by first | with_reducible assumption | omega) (by omega)
      refine va_iald hx hb hK.1 hP 1 0 rfl rfl (i := x1_1) h_4 dB_36_1_20.2.1.1.2 ?_
      refine lv_topi (fun y_5 ey_5 => ?_)
      have ky_5 : y_5.toInt = (fk x1_1.toNatClampNeg).toInt := by rw [ey_5]
      refine lv_iconst (v := 1) hx hb dB_36_1_20.2.1.2.1 (by decide) ?_
      refine lv_icmp_eq (tgt := 30) hx hb dB_36_1_20.2.1.2.2 (by decide) (fun c_6 => ?_) (fun c_6 => ?_)
      · have t_6 : y_5.toInt = (1 : Int32).toInt := congrArg Int32.toInt c_6
        refine lv_iconst (v := 1) hx hb dB_36_1_21.1.1.2.1 (by decide) ?_
        refine lv_goto (tgt := 35) hx hb dB_36_1_21.1.1.2.2 (by decide) ?_
        refine lv_istore_n (lv' := [(2, .int 1), (1, .int x1_1), (0, .ref xn)]) hx hb dB_36_1_21.1.2.1.2 rfl hl (by decide) rfl (fun ls hl => ?_)
        refine lv_iload_n hx hb dB_36_1_21.1.2.2.1 rfl (lv_at hl 0 rfl) ?_
        refine lv_if_eq (tgt := 50) hx hb dB_36_1_21.1.2.2.2 (by decide) (fun c_7 => ?_) (fun c_7 => ?_)
        · exact absurd c_7 (by decide)
        · have _ := c_7
          refine lv_aload_n hx hb dB_36_1_21.2.1.1.1 rfl (lv_at hl 2 rfl) ?_
          refine lv_iload_n hx hb dB_36_1_21.2.1.1.2 rfl (lv_at hl 1 rfl) ?_
          refine ct_R hP hD0 [ob3_0_ xn vp vn n1 n2 n3 n4 n5, ai_ cy n2 40 fs] [0, 2] (by decide) rfl (fun hPc hDw => ?_)
          have hFc := va_free (wc := []) hD hS hA [] rfl
          refine va_calli (va_runV (As := [.int x1_1]) (rest := []) ⟨hx, hb, hml, hown, hts⟩ (c_X3_isMissing l D cy H.size xn n1 n2 n3 n4 n5 vp vn fs x1_1 (by first | with_reducible assumption | omega | assumption)) (cwV 1 hts gX3_isWhole_X3_isMissing rfl rfl rfl ⟨rfl, hd_X3_isMissing⟩ ⟨Nat.le_of_ble_eq_true rfl, Nat.le_of_ble_eq_true rfl⟩) ⟨bl_, va_recvX hK.1 hP (ci := 3) (q0 := 0) rfl rfl, fun U hU hW => ⟨rfl, by rw [hU], by rw [hU]; exact hPc, kk_mv hW hK, hDw⟩⟩ rfl rfl hl.1 rfl (lv_room (Nat.le_of_ble_eq_true rfl)) dB_36_1_21.2.1.2.1 ⟨Nat.le_of_ble_eq_true rfl, Nat.le_of_ble_eq_true rfl⟩) hS (fun q _ h => hFc q h) hFc (fun r_8 u t H locs ht hvm hw hB hz1 hk1 hS => ?_)
          have hP : va_P D vwCl _ H := ro_keep hP hk1
          rcases hw with ⟨w_9, e_⟩ | ⟨w_9, e_⟩
          · have e_ := e_.symm
            subst e_
            refine lv_if_ne (tgt := 50) hx hb dB_36_1_21.2.1.2.2 (by decide) (fun c_10 => ?_) (fun c_10 => ?_)
            · have _ := c_10
              obtain ⟨y_11, ey_11⟩ : ∃ y : Int32, y = x1_1 + 1 := ⟨_, rfl⟩
              have ty_11 : y_11.toInt = x1_1.toInt + (1 : Int32).toInt := by rw [ey_11]; exact addI (by omega) (by omega)
              refine lv_iinc (v := y_11) (lv' := [(1, .int y_11), (2, .int 1), (0, .ref xn)]) hx hb dB_36_1_21.2.2.2.1 hl (k := 1) rfl (by rw [ey_11]; rfl) (by decide) rfl (fun ls hl => ?_)
              refine lv_goto (tgt := 2) hx hb dB_36_1_21.2.2.2.2 (by decide) ?_
              exact ih_1 y_11 _ _ _ (by omega) (by first | with_reducible assumption | omega | assumption) (by first | with_reducible assumption | omega | assumption) (by first | rfl | exact bk_lp v2_1 (by omega) (by omega) (by unfold bkF; (repeat' (first | with_reducible refine if_n (by omega) ?_ | with_reducible refine if_ns (by omega) ?_ | with_reducible refine if_nz (by omega) ?_ | with_reducible exact if_p (by omega) (by omega) | with_reducible exact if_ps (by omega) (by omega) | with_reducible exact if_pz (by omega) (by omega))) <;> omega)) hP hS (lv_sub hl [0, 2] rfl)
            · exact absurd c_10 (by decide)
          · have e_ := e_.symm
            subst e_
            refine lv_if_ne (tgt := 50) hx hb dB_36_1_21.2.1.2.2 (by decide) (fun c_12 => ?_) (fun c_12 => ?_)
            · exact absurd c_12 (by decide)
            · have _ := c_12
              refine lv_iconst (v := 0) hx hb dB_36_1_21.2.2.1.1 (by decide) ?_
              rw [hQ]
              exact W.zret (ty := .boolean) (v := 0) hx hb hr (by decide) (fun t ht hW => ⟨⟨0, (), rfl, ⟨by omega, (bk_yes (i := x1_1) (by omega) (by omega) (by unfold bkF; (repeat' (first | with_reducible refine if_n (by omega) ?_ | with_reducible refine if_ns (by omega) ?_ | with_reducible refine if_nz (by omega) ?_ | with_reducible exact if_p (by omega) (by omega) | with_reducible exact if_ps (by omega) (by omega) | with_reducible exact if_pz (by omega) (by omega))) <;> omega)).symm⟩, trivial⟩, hS.F ht⟩) hS.2.2 dB_36_1_21.2.2.1.2
      · have t_6 : ¬ y_5.toInt = (1 : Int32).toInt := fun h => c_6 (Int32.toInt_inj.mp h)
        refine lv_aload_n hx hb dB_36_1_20.2.2.1.1 rfl (lv_at hl 1 rfl) ?_
        refine va_get (ci := 3) (v := .ref n1) (C := RX3) (T := TX3) (N := 7) hx hb hts (fun _ h => List.mem_cons_of_mem _ (List.mem_append_right _ h)) hown hK.1 hP 0 rfl rfl 2 (by decide) (hts (.fieldLink RX3 18 "CutAtlas$Net" "kinds" "[I") (List.mem_of_getElem? (i := 2) rfl)) (fun _ h9 => h9) rfl dB_36_1_20.2.2.1.2 ?_
        refine lv_iload_n hx hb dB_36_1_20.2.2.2.1 rfl (lv_at hl 0 rfl) ?_
        refine va_iald hx hb hK.1 hP 1 0 rfl rfl (i := x1_1) h_4 dB_36_1_20.2.2.2.2 ?_
        refine lv_topi (fun y_14 ey_14 => ?_)
        have e_ := (ey_14.trans ey_5.symm).symm
        subst e_
        skip
        refine lv_iconst (v := 2) hx hb dB_36_1_21.1.1.1.1 (by decide) ?_
        refine lv_icmp_ne (tgt := 34) hx hb dB_36_1_21.1.1.1.2 (by decide) (fun c_15 => ?_) (fun c_15 => ?_)
        · have t_15 : ¬ y_5.toInt = (2 : Int32).toInt := fun h => c_15 (Int32.toInt_inj.mp h)
          refine lv_iconst (v := 0) hx hb dB_36_1_21.1.2.1.1 (by decide) ?_
          refine lv_istore_n (lv' := [(2, .int 0), (1, .int x1_1), (0, .ref xn)]) hx hb dB_36_1_21.1.2.1.2 rfl hl (by decide) rfl (fun ls hl => ?_)
          refine lv_iload_n hx hb dB_36_1_21.1.2.2.1 rfl (lv_at hl 0 rfl) ?_
          refine lv_if_eq (tgt := 50) hx hb dB_36_1_21.1.2.2.2 (by decide) (fun c_16 => ?_) (fun c_16 => ?_)
          · have _ := c_16
            obtain ⟨y_17, ey_17⟩ : ∃ y : Int32, y = x1_1 + 1 := ⟨_, rfl⟩
            have ty_17 : y_17.toInt = x1_1.toInt + (1 : Int32).toInt := by rw [ey_17]; exact addI (by omega) (by omega)
            refine lv_iinc (v := y_17) (lv' := [(1, .int y_17), (2, .int 0), (0, .ref xn)]) hx hb dB_36_1_21.2.2.2.1 hl (k := 1) rfl (by rw [ey_17]; rfl) (by decide) rfl (fun ls hl => ?_)
            refine lv_goto (tgt := 2) hx hb dB_36_1_21.2.2.2.2 (by decide) ?_
            exact ih_1 y_17 _ _ _ (by omega) (by first | with_reducible assumption | omega | assumption) (by first | with_reducible assumption | omega | assumption) (by first | rfl | exact bk_lp v2_1 (by omega) (by omega) (by unfold bkF; (repeat' (first | with_reducible refine if_n (by omega) ?_ | with_reducible refine if_ns (by omega) ?_ | with_reducible refine if_nz (by omega) ?_ | with_reducible exact if_p (by omega) (by omega) | with_reducible exact if_ps (by omega) (by omega) | with_reducible exact if_pz (by omega) (by omega))) <;> omega)) hP hS (lv_sub hl [0, 2] rfl)
          · exact absurd c_16 (by decide)
        · have t_15 : y_5.toInt = (2 : Int32).toInt := congrArg Int32.toInt c_15
          refine lv_iconst (v := 1) hx hb dB_36_1_21.1.1.2.1 (by decide) ?_
          refine lv_goto (tgt := 35) hx hb dB_36_1_21.1.1.2.2 (by decide) ?_
          refine lv_istore_n (lv' := [(2, .int 1), (1, .int x1_1), (0, .ref xn)]) hx hb dB_36_1_21.1.2.1.2 rfl hl (by decide) rfl (fun ls hl => ?_)
          refine lv_iload_n hx hb dB_36_1_21.1.2.2.1 rfl (lv_at hl 0 rfl) ?_
          refine lv_if_eq (tgt := 50) hx hb dB_36_1_21.1.2.2.2 (by decide) (fun c_18 => ?_) (fun c_18 => ?_)
          · exact absurd c_18 (by decide)
          · have _ := c_18
            refine lv_aload_n hx hb dB_36_1_21.2.1.1.1 rfl (lv_at hl 2 rfl) ?_
            refine lv_iload_n hx hb dB_36_1_21.2.1.1.2 rfl (lv_at hl 1 rfl) ?_
            refine ct_R hP hD0 [ob3_0_ xn vp vn n1 n2 n3 n4 n5, ai_ cy n2 40 fs] [0, 2] (by decide) rfl (fun hPc hDw => ?_)
            have hFc := va_free (wc := []) hD hS hA [] rfl
            refine va_calli (va_runV (As := [.int x1_1]) (rest := []) ⟨hx, hb, hml, hown, hts⟩ (c_X3_isMissing l D cy H.size xn n1 n2 n3 n4 n5 vp vn fs x1_1 (by first | with_reducible assumption | omega | assumption)) (cwV 1 hts gX3_isWhole_X3_isMissing rfl rfl rfl ⟨rfl, hd_X3_isMissing⟩ ⟨Nat.le_of_ble_eq_true rfl, Nat.le_of_ble_eq_true rfl⟩) ⟨bl_, va_recvX hK.1 hP (ci := 3) (q0 := 0) rfl rfl, fun U hU hW => ⟨rfl, by rw [hU], by rw [hU]; exact hPc, kk_mv hW hK, hDw⟩⟩ rfl rfl hl.1 rfl (lv_room (Nat.le_of_ble_eq_true rfl)) dB_36_1_21.2.1.2.1 ⟨Nat.le_of_ble_eq_true rfl, Nat.le_of_ble_eq_true rfl⟩) hS (fun q _ h => hFc q h) hFc (fun r_19 u t H locs ht hvm hw hB hz1 hk1 hS => ?_)
            have hP : va_P D vwCl _ H := ro_keep hP hk1
            rcases hw with ⟨w_20, e_⟩ | ⟨w_20, e_⟩
            · have e_ := e_.symm
              subst e_
              refine lv_if_ne (tgt := 50) hx hb dB_36_1_21.2.1.2.2 (by decide) (fun c_21 => ?_) (fun c_21 => ?_)
              · have _ := c_21
                obtain ⟨y_22, ey_22⟩ : ∃ y : Int32, y = x1_1 + 1 := ⟨_, rfl⟩
                have ty_22 : y_22.toInt = x1_1.toInt + (1 : Int32).toInt := by rw [ey_22]; exact addI (by omega) (by omega)
                refine lv_iinc (v := y_22) (lv' := [(1, .int y_22), (2, .int 1), (0, .ref xn)]) hx hb dB_36_1_21.2.2.2.1 hl (k := 1) rfl (by rw [ey_22]; rfl) (by decide) rfl (fun ls hl => ?_)
                refine lv_goto (tgt := 2) hx hb dB_36_1_21.2.2.2.2 (by decide) ?_
                exact ih_1 y_22 _ _ _ (by omega) (by first | with_reducible assumption | omega | assumption) (by first | with_reducible assumption | omega | assumption) (by first | rfl | exact bk_lp v2_1 (by omega) (by omega) (by unfold bkF; (repeat' (first | with_reducible refine if_n (by omega) ?_ | with_reducible refine if_ns (by omega) ?_ | with_reducible refine if_nz (by omega) ?_ | with_reducible exact if_p (by omega) (by omega) | with_reducible exact if_ps (by omega) (by omega) | with_reducible exact if_pz (by omega) (by omega))) <;> omega)) hP hS (lv_sub hl [0, 2] rfl)
              · exact absurd c_21 (by decide)
            · have e_ := e_.symm
              subst e_
              refine lv_if_ne (tgt := 50) hx hb dB_36_1_21.2.1.2.2 (by decide) (fun c_23 => ?_) (fun c_23 => ?_)
              · exact absurd c_23 (by decide)
              · have _ := c_23
                refine lv_iconst (v := 0) hx hb dB_36_1_21.2.2.1.1 (by decide) ?_
                rw [hQ]
                exact W.zret (ty := .boolean) (v := 0) hx hb hr (by decide) (fun t ht hW => ⟨⟨0, (), rfl, ⟨by omega, (bk_yes (i := x1_1) (by omega) (by omega) (by unfold bkF; (repeat' (first | with_reducible refine if_n (by omega) ?_ | with_reducible refine if_ns (by omega) ?_ | with_reducible refine if_nz (by omega) ?_ | with_reducible exact if_p (by omega) (by omega) | with_reducible exact if_ps (by omega) (by omega) | with_reducible exact if_pz (by omega) (by omega))) <;> omega)).symm⟩, trivial⟩, hS.F ht⟩) hS.2.2 dB_36_1_21.2.2.1.2

set_option maxHeartbeats 4000000 in
set_option maxRecDepth 100000 in
theorem c_X3_append2 (l : Launch) (D : va_G) (cy : Nat → ClassId) (sz : Nat) (xn : Nat) (n1 : Nat) (n2 : Nat) (n3 : Nat) (n4 : Nat) (n5 : Nat) (vp : Int32) (vn : Int32) (fk : Nat → Int32) (fs : Nat → Int32) (fe : Nat → Int32) (fw : Nat → Int32) (fp : Nat → Int32) (a1 : Int32) (a2 : Int32) (a3 : Int32) (a4 : Int32) (a5 : Int32) (hvn : 0 ≤ vn.toInt ∧ vn.toInt < 40) (q1 : 0 ≤ a1.toInt ∧ a1.toInt ≤ 4) (q2 : 0 ≤ a2.toInt ∧ a2.toInt ≤ 11) (q3 : 0 ≤ a3.toInt ∧ a3.toInt ≤ 11) (q4 : 0 ≤ a4.toInt ∧ a4.toInt ≤ 2000) (q5 : 0 ≤ a5.toInt ∧ a5.toInt ≤ 100) (hpr : prng fs fe 40) (r_fk : rng fk 40 (0) (4)) (r_fw : rng fw 40 (0) (2000)) (r_fp : rng fp 40 (0) (100)) : Met l yX3_append wsX3_append ({ frames := 0, cells := 0, slots := 0, locals := 0 }) (va_Pc [.ref xn, .int a1, .int a2, .int a3, .int a4, .int a5] (fun U => U.heap.size = sz ∧ va_P D vwCl [ob3_0_ xn vp vn n1 n2 n3 n4 n5, ai_ cy n1 40 fk, ai_ cy n2 40 fs, ai_ cy n3 40 fe, ai_ cy n4 40 fw, ai_ cy n5 40 fp] U.heap ∧ kk_ D cy U ∧ va_D (fun _ => True) [ob3_0_ xn vp vn n1 n2 n3 n4 n5, ai_ cy n1 40 fk, ai_ cy n2 40 fs, ai_ cy n3 40 fe, ai_ cy n4 40 fw, ai_ cy n5 40 fp])) (va_Qi (fun (r : Int32) (_ : Unit) => (r.toInt = vn.toInt)) (fun (_ : Unit) (t : State) => ∃ (evn : Int32), ∃ (efk : Nat → Int32), ∃ (efs : Nat → Int32), ∃ (efe : Nat → Int32), ∃ (efw : Nat → Int32), ∃ (efp : Nat → Int32), (evn.toInt = vn.toInt + 1) ∧ (prng efs efe 40) ∧ (efk = upd fk vn.toNatClampNeg a1) ∧ (efs = upd fs vn.toNatClampNeg a2) ∧ (efe = upd fe vn.toNatClampNeg a3) ∧ (efw = upd fw vn.toNatClampNeg a4) ∧ (efp = upd fp vn.toNatClampNeg a5) ∧ (rng efk 40 (0) (4)) ∧ (rng efw 40 (0) (2000)) ∧ (rng efp 40 (0) (100)) ∧ va_P D vwCl [ob3_0_ xn vp evn n1 n2 n3 n4 n5, ai_ cy n1 40 efk, ai_ cy n2 40 efs, ai_ cy n3 40 efe, ai_ cy n4 40 efw, ai_ cy n5 40 efp] t.heap ∧ va_D (va_A [ob3_0_ xn vp vn n1 n2 n3 n4 n5, ai_ cy n1 40 fk, ai_ cy n2 40 fs, ai_ cy n3 40 fe, ai_ cy n4 40 fw, ai_ cy n5 40 fp] sz) [ob3_0_ xn vp evn n1 n2 n3 n4 n5, ai_ cy n1 40 efk, ai_ cy n2 40 efs, ai_ cy n3 40 efe, ai_ cy n4 40 efw, ai_ cy n5 40 efp]) (va_A [ob3_0_ xn vp vn n1 n2 n3 n4 n5, ai_ cy n1 40 fk, ai_ cy n2 40 fs, ai_ cy n3 40 fe, ai_ cy n4 40 fw, ai_ cy n5 40 fp] sz)) 0 0 (va_A [ob3_0_ xn vp vn n1 n2 n3 n4 n5, ai_ cy n1 40 fk, ai_ cy n2 40 fs, ai_ cy n3 40 fe, ai_ cy n4 40 fw, ai_ cy n5 40 fp] sz) := by
  refine ofQ (cc := cX3_append) (maxL := 6) (ret := (some .int)) (by decide) rfl ?_
  intro p e s m args below meth c s₁ Q hQ B hml hv
  obtain ⟨rfl, hsz, hP, hK, hD0⟩ := hv
  have hx := B.exec
  have hb := B.bytes
  have hr := B.returns
  have hts := atoms_spec (ws := wsX3_append) B.pre
  have hown : s.vm.findClass RX3 = some m.cls := by have h_ := findClass_of_methodNamed B.named; exact h_
  have hlocks := B.notSynchronized
  subst hsz
  have hD := hD0.self (sz := s.heap.size)
  generalize hAe : va_A [ob3_0_ xn vp vn n1 n2 n3 n4 n5, ai_ cy n1 40 fk, ai_ cy n2 40 fs, ai_ cy n3 40 fe, ai_ cy n4 40 fw, ai_ cy n5 40 fp] s.heap.size = A at hD hQ
  have hA : ∀ q : Nat, s.heap.size ≤ q → A q := fun q h => by rw [← hAe]; exact Or.inr h
  have hS : va_S A s.heap s.heap [] := va_S.rf
  have hl := lv_entry ([.ref xn, .int a1, .int a2, .int a3, .int a4, .int a5]) (n := 6) (Nat.le_of_ble_eq_true rfl)
  rw [lg_entry_eq]
  generalize (lg_sl ([.ref xn, .int a1, .int a2, .int a3, .int a4, .int a5]) ++ List.replicate (6 - (lg_sl ([.ref xn, .int a1, .int a2, .int a3, .int a4, .int a5])).length) Slot.unset).toArray = ls at hl ⊢
  have hl : lv_has ls 6 [(0, .ref xn), (1, .int a1), (2, .int a2), (3, .int a3), (4, .int a4), (5, .int a5)] := hl
  have z1 : (1 : Int32).toInt = 1 := by decide
  refine lv_aload_n hx hb dB_36_1_7.1.1.1.1 rfl (lv_at hl 0 rfl) ?_
  refine va_get (ci := 3) (v := .ref n1) (C := RX3) (T := TX3) (N := 7) hx hb hts (fun _ h => List.mem_cons_of_mem _ (List.mem_append_right _ h)) hown hK.1 hP 0 rfl rfl 2 (by decide) (hts (.fieldLink RX3 18 "CutAtlas$Net" "kinds" "[I") (List.mem_of_getElem? (i := 1) rfl)) (fun _ h9 => h9) rfl dB_36_1_7.1.1.1.2 ?_
  refine lv_aload_n hx hb dB_36_1_7.1.1.2.1 rfl (lv_at hl 0 rfl) ?_
  refine va_get (ci := 3) (v := .int vn) (C := RX3) (T := TX3) (N := 7) hx hb hts (fun _ h => List.mem_cons_of_mem _ (List.mem_append_right _ h)) hown hK.1 hP 0 rfl rfl 1 (by decide) (hts (.fieldLink RX3 15 "CutAtlas$Net" "lines" "I") (List.mem_of_getElem? (i := 2) rfl)) (fun _ h9 => h9) rfl dB_36_1_7.1.1.2.2 ?_
  refine lv_iload_n hx hb dB_36_1_7.1.2.1.1 rfl (lv_at hl 1 rfl) ?_
  have h_1 : vp_in vn 40 := in_I (by first | with_reducible assumption | omega) (by omega)
  refine va_iast hx hb hK.1 hP hD hS 1 0 rfl rfl (i := vn) h_1 dB_36_1_7.1.2.1.2 (fun H locs hP hD hS => ?_)
  obtain ⟨f_2, ef_2⟩ : ∃ g : Nat → Int32, g = upd fk vn.toNatClampNeg a1 := ⟨_, rfl⟩
  refine pd_K (D := D) (cl := vwCl) (H := H) (A := A) [ob3_0_ xn vp vn n1 n2 n3 n4 n5, ai_ cy n1 40 f_2, ai_ cy n2 40 fs, ai_ cy n3 40 fe, ai_ cy n4 40 fw, ai_ cy n5 40 fp] (by rw [ef_2]; exact hP) (by rw [ef_2]; exact hD) (fun hP hD => ?_)
  have rf_2 : rng f_2 40 (0) (4) := by rw [ef_2]; exact rng_upd r_fk (by omega) (by omega)
  refine lv_aload_n hx hb dB_36_1_7.1.2.2.1 rfl (lv_at hl 0 rfl) ?_
  refine va_get (ci := 3) (v := .ref n2) (C := RX3) (T := TX3) (N := 7) hx hb hts (fun _ h => List.mem_cons_of_mem _ (List.mem_append_right _ h)) hown hK.1 hP 0 rfl rfl 3 (by decide) (hts (.fieldLink RX3 22 "CutAtlas$Net" "starts" "[I") (List.mem_of_getElem? (i := 3) rfl)) (fun _ h9 => h9) rfl dB_36_1_7.1.2.2.2 ?_
  refine lv_aload_n hx hb dB_36_1_7.2.1.1.1 rfl (lv_at hl 0 rfl) ?_
  refine va_get (ci := 3) (v := .int vn) (C := RX3) (T := TX3) (N := 7) hx hb hts (fun _ h => List.mem_cons_of_mem _ (List.mem_append_right _ h)) hown hK.1 hP 0 rfl rfl 1 (by decide) (hts (.fieldLink RX3 15 "CutAtlas$Net" "lines" "I") (List.mem_of_getElem? (i := 2) rfl)) (fun _ h9 => h9) rfl dB_36_1_7.2.1.1.2 ?_
  refine lv_iload_n hx hb dB_36_1_7.2.1.2.1 rfl (lv_at hl 2 rfl) ?_
  refine va_iast hx hb hK.1 hP hD hS 2 0 rfl rfl (i := vn) h_1 dB_36_1_7.2.1.2.2 (fun H locs hP hD hS => ?_)
  obtain ⟨f_4, ef_4⟩ : ∃ g : Nat → Int32, g = upd fs vn.toNatClampNeg a2 := ⟨_, rfl⟩
  refine pd_K (D := D) (cl := vwCl) (H := H) (A := A) [ob3_0_ xn vp vn n1 n2 n3 n4 n5, ai_ cy n1 40 f_2, ai_ cy n2 40 f_4, ai_ cy n3 40 fe, ai_ cy n4 40 fw, ai_ cy n5 40 fp] (by rw [ef_4]; exact hP) (by rw [ef_4]; exact hD) (fun hP hD => ?_)
  refine lv_aload_n hx hb dB_36_1_7.2.2.1.1 rfl (lv_at hl 0 rfl) ?_
  refine va_get (ci := 3) (v := .ref n3) (C := RX3) (T := TX3) (N := 7) hx hb hts (fun _ h => List.mem_cons_of_mem _ (List.mem_append_right _ h)) hown hK.1 hP 0 rfl rfl 4 (by decide) (hts (.fieldLink RX3 25 "CutAtlas$Net" "ends" "[I") (List.mem_of_getElem? (i := 4) rfl)) (fun _ h9 => h9) rfl dB_36_1_7.2.2.1.2 ?_
  refine lv_aload_n hx hb dB_36_1_7.2.2.2.1 rfl (lv_at hl 0 rfl) ?_
  refine va_get (ci := 3) (v := .int vn) (C := RX3) (T := TX3) (N := 7) hx hb hts (fun _ h => List.mem_cons_of_mem _ (List.mem_append_right _ h)) hown hK.1 hP 0 rfl rfl 1 (by decide) (hts (.fieldLink RX3 15 "CutAtlas$Net" "lines" "I") (List.mem_of_getElem? (i := 2) rfl)) (fun _ h9 => h9) rfl dB_36_1_7.2.2.2.2 ?_
  refine lv_iload_n hx hb dB_36_1_8.1.1.1.1 rfl (lv_at hl 3 rfl) ?_
  refine va_iast hx hb hK.1 hP hD hS 3 0 rfl rfl (i := vn) h_1 dB_36_1_8.1.1.1.2 (fun H locs hP hD hS => ?_)
  obtain ⟨f_6, ef_6⟩ : ∃ g : Nat → Int32, g = upd fe vn.toNatClampNeg a3 := ⟨_, rfl⟩
  refine pd_K (D := D) (cl := vwCl) (H := H) (A := A) [ob3_0_ xn vp vn n1 n2 n3 n4 n5, ai_ cy n1 40 f_2, ai_ cy n2 40 f_4, ai_ cy n3 40 f_6, ai_ cy n4 40 fw, ai_ cy n5 40 fp] (by rw [ef_6]; exact hP) (by rw [ef_6]; exact hD) (fun hP hD => ?_)
  have pr_7 : prng f_4 f_6 40 := prng_st (by assumption) (by assumption) (by assumption) (by omega)
  refine lv_aload_n hx hb dB_36_1_8.1.1.2.1 rfl (lv_at hl 0 rfl) ?_
  refine va_get (ci := 3) (v := .ref n4) (C := RX3) (T := TX3) (N := 7) hx hb hts (fun _ h => List.mem_cons_of_mem _ (List.mem_append_right _ h)) hown hK.1 hP 0 rfl rfl 5 (by decide) (hts (.fieldLink RX3 28 "CutAtlas$Net" "widths" "[I") (List.mem_of_getElem? (i := 5) rfl)) (fun _ h9 => h9) rfl dB_36_1_8.1.1.2.2 ?_
  refine lv_aload_n hx hb dB_36_1_8.1.2.1.1 rfl (lv_at hl 0 rfl) ?_
  refine va_get (ci := 3) (v := .int vn) (C := RX3) (T := TX3) (N := 7) hx hb hts (fun _ h => List.mem_cons_of_mem _ (List.mem_append_right _ h)) hown hK.1 hP 0 rfl rfl 1 (by decide) (hts (.fieldLink RX3 15 "CutAtlas$Net" "lines" "I") (List.mem_of_getElem? (i := 2) rfl)) (fun _ h9 => h9) rfl dB_36_1_8.1.2.1.2 ?_
  refine lv_iload hx hb dB_36_1_8.1.2.2.1 (lv_at hl 4 rfl) ?_
  refine va_iast hx hb hK.1 hP hD hS 4 0 rfl rfl (i := vn) h_1 dB_36_1_8.1.2.2.2 (fun H locs hP hD hS => ?_)
  obtain ⟨f_9, ef_9⟩ : ∃ g : Nat → Int32, g = upd fw vn.toNatClampNeg a4 := ⟨_, rfl⟩
  refine pd_K (D := D) (cl := vwCl) (H := H) (A := A) [ob3_0_ xn vp vn n1 n2 n3 n4 n5, ai_ cy n1 40 f_2, ai_ cy n2 40 f_4, ai_ cy n3 40 f_6, ai_ cy n4 40 f_9, ai_ cy n5 40 fp] (by rw [ef_9]; exact hP) (by rw [ef_9]; exact hD) (fun hP hD => ?_)
  have rf_9 : rng f_9 40 (0) (2000) := by rw [ef_9]; exact rng_upd r_fw (by omega) (by omega)
  refine lv_aload_n hx hb dB_36_1_8.2.1.1.1 rfl (lv_at hl 0 rfl) ?_
  refine va_get (ci := 3) (v := .ref n5) (C := RX3) (T := TX3) (N := 7) hx hb hts (fun _ h => List.mem_cons_of_mem _ (List.mem_append_right _ h)) hown hK.1 hP 0 rfl rfl 6 (by decide) (hts (.fieldLink RX3 31 "CutAtlas$Net" "prices" "[I") (List.mem_of_getElem? (i := 6) rfl)) (fun _ h9 => h9) rfl dB_36_1_8.2.1.1.2 ?_
  refine lv_aload_n hx hb dB_36_1_8.2.1.2.1 rfl (lv_at hl 0 rfl) ?_
  refine va_get (ci := 3) (v := .int vn) (C := RX3) (T := TX3) (N := 7) hx hb hts (fun _ h => List.mem_cons_of_mem _ (List.mem_append_right _ h)) hown hK.1 hP 0 rfl rfl 1 (by decide) (hts (.fieldLink RX3 15 "CutAtlas$Net" "lines" "I") (List.mem_of_getElem? (i := 2) rfl)) (fun _ h9 => h9) rfl dB_36_1_8.2.1.2.2 ?_
  refine lv_iload hx hb dB_36_1_8.2.2.1.1 (lv_at hl 5 rfl) ?_
  refine va_iast hx hb hK.1 hP hD hS 5 0 rfl rfl (i := vn) h_1 dB_36_1_8.2.2.1.2 (fun H locs hP hD hS => ?_)
  obtain ⟨f_11, ef_11⟩ : ∃ g : Nat → Int32, g = upd fp vn.toNatClampNeg a5 := ⟨_, rfl⟩
  refine pd_K (D := D) (cl := vwCl) (H := H) (A := A) [ob3_0_ xn vp vn n1 n2 n3 n4 n5, ai_ cy n1 40 f_2, ai_ cy n2 40 f_4, ai_ cy n3 40 f_6, ai_ cy n4 40 f_9, ai_ cy n5 40 f_11] (by rw [ef_11]; exact hP) (by rw [ef_11]; exact hD) (fun hP hD => ?_)
  have rf_11 : rng f_11 40 (0) (100) := by rw [ef_11]; exact rng_upd r_fp (by omega) (by omega)
  refine lv_aload_n hx hb dB_36_1_8.2.2.2.1 rfl (lv_at hl 0 rfl) ?_
  refine lv_dup hx hb dB_36_1_8.2.2.2.2 rfl ?_
  refine va_get (ci := 3) (v := .int vn) (C := RX3) (T := TX3) (N := 7) hx hb hts (fun _ h => List.mem_cons_of_mem _ (List.mem_append_right _ h)) hown hK.1 hP 0 rfl rfl 1 (by decide) (hts (.fieldLink RX3 15 "CutAtlas$Net" "lines" "I") (List.mem_of_getElem? (i := 2) rfl)) (fun _ h9 => h9) rfl dB_36_1_9.1.1.1 ?_
  refine lv_iconst (v := 1) hx hb dB_36_1_9.1.1.2 (by decide) ?_
  refine lv_iadd hx hb dB_36_1_9.1.2.1 ?_
  refine lv_topi (fun y_12 ey_12 => ?_)
  have ty_12 : y_12.toInt = vn.toInt + (1 : Int32).toInt := by rw [ey_12]; exact addI (by omega) (by omega)
  refine va_put (ci := 3) (v := .int y_12) (ty := .int) (C := RX3) (T := TX3) (N := 7) hx hb hts (fun _ h => List.mem_cons_of_mem _ (List.mem_append_right _ h)) tyX3 tyX3_ok nmX3 hown hK.1 hP hD hS 0 rfl rfl 1 (by decide) (hts (.fieldLink RX3 15 "CutAtlas$Net" "lines" "I") (List.mem_of_getElem? (i := 2) rfl)) (fun _ h9 => h9) rfl (by decide +kernel) rfl rfl (Nat.le_of_ble_eq_true rfl) dB_36_1_9.1.2.2 (fun H locs hP hD hS => ?_)
  refine pd_K [ob3_0_ xn vp y_12 n1 n2 n3 n4 n5, ai_ cy n1 40 f_2, ai_ cy n2 40 f_4, ai_ cy n3 40 f_6, ai_ cy n4 40 f_9, ai_ cy n5 40 f_11] hP hD (fun hP hD => ?_)
  refine lv_aload_n hx hb dB_36_1_9.2.1.1 rfl (lv_at hl 0 rfl) ?_
  refine va_get (ci := 3) (v := .int y_12) (C := RX3) (T := TX3) (N := 7) hx hb hts (fun _ h => List.mem_cons_of_mem _ (List.mem_append_right _ h)) hown hK.1 hP 0 rfl rfl 1 (by decide) (hts (.fieldLink RX3 15 "CutAtlas$Net" "lines" "I") (List.mem_of_getElem? (i := 2) rfl)) (fun _ h9 => h9) rfl dB_36_1_9.2.1.2 ?_
  refine lv_iconst (v := 1) hx hb dB_36_1_9.2.2.1 (by decide) ?_
  refine lv_isub hx hb dB_36_1_9.2.2.2.1 ?_
  refine lv_topi (fun y_13 ey_13 => ?_)
  have ty_13 : y_13.toInt = y_12.toInt - (1 : Int32).toInt := by rw [ey_13]; exact subI (by omega) (by omega)
  rw [hQ]
  exact W.iret (v := y_13) hx hb hr (fun t ht hW => ⟨⟨y_13, (), rfl, (by omega), y_12, f_2, f_4, f_6, f_9, f_11, (by first | with_reducible assumption | omega | assumption), (by first | with_reducible assumption | assumption | exact rng_zero (by omega) (by omega) | omega), (by first | with_reducible assumption | omega | assumption), (by first | with_reducible assumption | omega | assumption), (by first | with_reducible assumption | omega | assumption), (by first | with_reducible assumption | omega | assumption), (by first | with_reducible assumption | omega | assumption), (by first | with_reducible assumption | assumption | exact rng_zero (by omega) (by omega) | omega), (by first | with_reducible assumption | assumption | exact rng_zero (by omega) (by omega) | omega), (by first | with_reducible assumption | assumption | exact rng_zero (by omega) (by omega) | omega), by rw [ht]; exact hP, hD⟩, hS.F ht⟩) hS.2.2 dB_36_1_9.2.2.2.2

set_option maxHeartbeats 4000000 in
set_option maxRecDepth 100000 in
theorem c_X3_renumbered2 (l : Launch) (D : va_G) (cy : Nat → ClassId) (sz : Nat) (a1 : Int32) (a2 : Int32) (a3 : Int32) (q1 : 0 ≤ a1.toInt ∧ a1.toInt ≤ 11) (q2 : 0 ≤ a2.toInt ∧ a2.toInt ≤ 11) (q3 : 0 ≤ a3.toInt) : Met l yX3_renumbered wsX3_renumbered ({ frames := 0, cells := 0, slots := 0, locals := 0 }) (va_Pc [.int a1, .int a2, .int a3] (fun U => U.heap.size = sz ∧ va_P D vwCl [] U.heap ∧ kk_ D cy U ∧ va_D (fun _ => True) [])) (va_Qi (fun (r : Int32) (_ : Unit) => (0 ≤ r.toInt ∧ r.toInt ≤ 11) ∧ (r.toInt = renI a1.toInt a2.toInt a3.toInt)) (fun (_ : Unit) (_ : State) => True) (va_A [] sz)) 0 0 (va_A [] sz) := by
  refine ofQ (cc := cX3_renumbered) (maxL := 3) (ret := (some .int)) (by decide) rfl ?_
  intro p e s m args below meth c s₁ Q hQ B hml hv
  obtain ⟨rfl, hsz, hP, hK, hD0⟩ := hv
  have hx := B.exec
  have hb := B.bytes
  have hr := B.returns
  have hts := atoms_spec (ws := wsX3_renumbered) B.pre
  have hown : s.vm.findClass RX3 = some m.cls := by have h_ := findClass_of_methodNamed B.named; exact h_
  have hlocks := B.notSynchronized
  subst hsz
  have hD : va_D (va_A [] s.heap.size) [] := dd_nil
  generalize hAe : va_A [] s.heap.size = A at hD hQ
  have hA : ∀ q : Nat, s.heap.size ≤ q → A q := fun q h => by rw [← hAe]; exact Or.inr h
  have hS : va_S A s.heap s.heap [] := va_S.rf
  have hl := lv_entry ([.int a1, .int a2, .int a3]) (n := 3) (Nat.le_of_ble_eq_true rfl)
  rw [lg_entry_eq]
  generalize (lg_sl ([.int a1, .int a2, .int a3]) ++ List.replicate (3 - (lg_sl ([.int a1, .int a2, .int a3])).length) Slot.unset).toArray = ls at hl ⊢
  have hl : lv_has ls 3 [(0, .int a1), (1, .int a2), (2, .int a3)] := hl
  have z1 : (1 : Int32).toInt = 1 := by decide
  refine lv_iload_n hx hb dB_36_1_29.1.1.1 rfl (lv_at hl 0 rfl) ?_
  refine lv_iload_n hx hb dB_36_1_29.1.1.2.1 rfl (lv_at hl 2 rfl) ?_
  refine lv_icmp_ne (tgt := 7) hx hb dB_36_1_29.1.1.2.2 (by decide) (fun c_1 => ?_) (fun c_1 => ?_)
  · have t_1 : ¬ a1.toInt = a3.toInt := fun h => c_1 (Int32.toInt_inj.mp h)
    refine lv_iload_n hx hb dB_36_1_29.1.2.2.1 rfl (lv_at hl 0 rfl) ?_
    refine lv_iload_n hx hb dB_36_1_29.1.2.2.2 rfl (lv_at hl 2 rfl) ?_
    refine lv_icmp_le (tgt := 18) hx hb dB_36_1_29.2.1.1 (by decide) (fun c_2 => ?_) (fun c_2 => ?_)
    · have t_2 : a1.toInt ≤ a3.toInt := Int32.le_iff_toInt_le.mp c_2
      refine lv_iload_n hx hb dB_36_1_29.2.2.2.1 rfl (lv_at hl 0 rfl) ?_
      rw [hQ]
      exact W.iret (v := a1) hx hb hr (fun t ht hW => ⟨⟨a1, (), rfl, ⟨by omega, by unfold renI; (repeat' (first | with_reducible refine if_n (by omega) ?_ | with_reducible refine if_ns (by omega) ?_ | with_reducible refine if_nz (by omega) ?_ | with_reducible exact if_p (by omega) (by omega) | with_reducible exact if_ps (by omega) (by omega) | with_reducible exact if_pz (by omega) (by omega))) <;> omega⟩, trivial⟩, hS.F ht⟩) hS.2.2 dB_36_1_29.2.2.2.2
    · have t_2 : ¬ a1.toInt ≤ a3.toInt := fun h => c_2 (Int32.le_iff_toInt_le.mpr h)
      refine lv_iload_n hx hb dB_36_1_29.2.1.2.1 rfl (lv_at hl 0 rfl) ?_
      refine lv_iconst (v := 1) hx hb dB_36_1_29.2.1.2.2 (by decide) ?_
      refine lv_isub hx hb dB_36_1_29.2.2.1.1 ?_
      refine lv_topi (fun y_3 ey_3 => ?_)
      have ty_3 : y_3.toInt = a1.toInt - (1 : Int32).toInt := by rw [ey_3]; exact subI (by omega) (by omega)
      refine lv_goto (tgt := 19) hx hb dB_36_1_29.2.2.1.2 (by decide) ?_
      rw [hQ]
      exact W.iret (v := y_3) hx hb hr (fun t ht hW => ⟨⟨y_3, (), rfl, ⟨by omega, by unfold renI; (repeat' (first | with_reducible refine if_n (by omega) ?_ | with_reducible refine if_ns (by omega) ?_ | with_reducible refine if_nz (by omega) ?_ | with_reducible exact if_p (by omega) (by omega) | with_reducible exact if_ps (by omega) (by omega) | with_reducible exact if_pz (by omega) (by omega))) <;> omega⟩, trivial⟩, hS.F ht⟩) hS.2.2 dB_36_1_29.2.2.2.2
  · have t_1 : a1.toInt = a3.toInt := congrArg Int32.toInt c_1
    refine lv_iload_n hx hb dB_36_1_29.1.2.1.1 rfl (lv_at hl 1 rfl) ?_
    rw [hQ]
    exact W.iret (v := a2) hx hb hr (fun t ht hW => ⟨⟨a2, (), rfl, ⟨by omega, by unfold renI; (repeat' (first | with_reducible refine if_n (by omega) ?_ | with_reducible refine if_ns (by omega) ?_ | with_reducible refine if_nz (by omega) ?_ | with_reducible exact if_p (by omega) (by omega) | with_reducible exact if_ps (by omega) (by omega) | with_reducible exact if_pz (by omega) (by omega))) <;> omega⟩, trivial⟩, hS.F ht⟩) hS.2.2 dB_36_1_29.1.2.1.2

set_option maxHeartbeats 4000000 in
set_option maxRecDepth 100000 in
theorem c_X3_join2 (l : Launch) (D : va_G) (cy : Nat → ClassId) (sz : Nat) (xn : Nat) (n1 : Nat) (n2 : Nat) (n3 : Nat) (n4 : Nat) (n5 : Nat) (vp : Int32) (vn : Int32) (fs : Nat → Int32) (fe : Nat → Int32) (a1 : Int32) (a2 : Int32) (hvn : 0 ≤ vn.toInt ∧ vn.toInt ≤ 40) (hvp : 0 ≤ vp.toInt ∧ vp.toInt ≤ 12) (q1 : 0 ≤ a1.toInt ∧ a1.toInt ≤ 11) (q2 : 0 ≤ a2.toInt ∧ a2.toInt < vp.toInt) (hpr : prng fs fe 40) : Met l yX3_join wsX3_join ({ frames := 1, cells := 0, slots := 0, locals := 22 }) (va_Pc [.ref xn, .int a1, .int a2] (fun U => U.heap.size = sz ∧ va_P D vwCl [ob3_0_ xn vp vn n1 n2 n3 n4 n5, ai_ cy n2 40 fs, ai_ cy n3 40 fe] U.heap ∧ kk_ D cy U ∧ va_D (fun _ => True) [ob3_0_ xn vp vn n1 n2 n3 n4 n5, ai_ cy n2 40 fs, ai_ cy n3 40 fe])) (va_Qi (fun (r : Int32) (_ : Unit) => (r.toInt = sumI (jnF a1.toInt a2.toInt fs fe) vn.toNatClampNeg)) (fun (_ : Unit) (t : State) => ∃ (evp : Int32), ∃ (efs : Nat → Int32), ∃ (efe : Nat → Int32), (evp.toInt = vp.toInt - 1) ∧ (prng efs efe 40) ∧ (jnd a1.toInt a2.toInt fs fe efs efe vn.toInt) ∧ va_P D vwCl [ob3_0_ xn evp vn n1 n2 n3 n4 n5, ai_ cy n2 40 efs, ai_ cy n3 40 efe] t.heap ∧ va_D (va_A [ob3_0_ xn vp vn n1 n2 n3 n4 n5, ai_ cy n2 40 fs, ai_ cy n3 40 fe] sz) [ob3_0_ xn evp vn n1 n2 n3 n4 n5, ai_ cy n2 40 efs, ai_ cy n3 40 efe]) (va_A [ob3_0_ xn vp vn n1 n2 n3 n4 n5, ai_ cy n2 40 fs, ai_ cy n3 40 fe] sz)) 0 0 (va_A [ob3_0_ xn vp vn n1 n2 n3 n4 n5, ai_ cy n2 40 fs, ai_ cy n3 40 fe] sz) := by
  refine ofQ (cc := cX3_join) (maxL := 5) (ret := (some .int)) (by decide) rfl ?_
  intro p e s m args below meth c s₁ Q hQ B hml hv
  obtain ⟨rfl, hsz, hP, hK, hD0⟩ := hv
  have hx := B.exec
  have hb := B.bytes
  have hr := B.returns
  have hts := atoms_spec (ws := wsX3_join) B.pre
  have hown : s.vm.findClass RX3 = some m.cls := by have h_ := findClass_of_methodNamed B.named; exact h_
  have hlocks := B.notSynchronized
  subst hsz
  have hD := hD0.self (sz := s.heap.size)
  generalize hAe : va_A [ob3_0_ xn vp vn n1 n2 n3 n4 n5, ai_ cy n2 40 fs, ai_ cy n3 40 fe] s.heap.size = A at hD hQ
  have hA : ∀ q : Nat, s.heap.size ≤ q → A q := fun q h => by rw [← hAe]; exact Or.inr h
  have hS : va_S A s.heap s.heap [] := va_S.rf
  have hl := lv_entry ([.ref xn, .int a1, .int a2]) (n := 5) (Nat.le_of_ble_eq_true rfl)
  rw [lg_entry_eq]
  generalize (lg_sl ([.ref xn, .int a1, .int a2]) ++ List.replicate (5 - (lg_sl ([.ref xn, .int a1, .int a2])).length) Slot.unset).toArray = ls at hl ⊢
  have hl : lv_has ls 5 [(0, .ref xn), (1, .int a1), (2, .int a2)] := hl
  have zm9 : ((-9) : Int32).toInt = -9 := by decide
  have z0 : (0 : Int32).toInt = 0 := by decide
  have z1 : (1 : Int32).toInt = 1 := by decide
  refine lv_iconst (v := 0) hx hb dB_36_1_23.1.1.1.1 (by decide) ?_
  refine lv_istore_n (lv' := [(3, .int 0), (0, .ref xn), (1, .int a1), (2, .int a2)]) hx hb dB_36_1_23.1.1.1.2 rfl hl (by decide) rfl (fun ls hl => ?_)
  refine lv_iconst (v := 0) hx hb dB_36_1_23.1.1.2.1 (by decide) ?_
  refine lv_istore (lv' := [(4, .int 0), (3, .int 0), (0, .ref xn), (1, .int a1), (2, .int a2)]) hx hb dB_36_1_23.1.1.2.2 hl (by decide) rfl (fun ls hl => ?_)
  suffices LOOP_1 : ∀ (n_1 : Nat) (x4_1 : Int32) (x3_1 : Int32) (c_n2_1 : Nat → Int32) (c_n3_1 : Nat → Int32) (H : Heap) (locs : List Loc) (ls : Array Slot), vn.toInt - x4_1.toInt < (n_1 : Int) → (0 ≤ x4_1.toInt) → (x4_1.toInt ≤ vn.toInt) → (prng c_n2_1 c_n3_1 40) → (0 ≤ x3_1.toInt) → (x3_1.toInt ≤ x4_1.toInt) → (jnd a1.toInt a2.toInt fs fe c_n2_1 c_n3_1 x4_1.toInt) → (x3_1.toInt = sumI (jnF a1.toInt a2.toInt fs fe) x4_1.toNatClampNeg) → pd_2 D vwCl A [ob3_0_ xn vp vn n1 n2 n3 n4 n5, ai_ cy n2 40 c_n2_1, ai_ cy n3 40 c_n3_1] H → va_S A s.heap H locs → lv_has ls 5 [(4, .int x4_1), (3, .int x3_1), (0, .ref xn), (1, .int a1), (2, .int a2)] → W p l e ({ frames := 1, cells := 0, slots := 0, locals := 22 } : Room) s m (([.ref xn, .int a1, .int a2] : List Value).toArray) below meth c H locs 0 0 Q (F0 m 5 ls []) from LOOP_1 ((vn.toInt - (0 : Int32).toInt).toNat + 1) (0 : Int32) (0 : Int32) fs fe _ _ _ (by omega) (by first | with_reducible assumption | omega | assumption) (by first | with_reducible assumption | omega | assumption) (by first | with_reducible assumption | assumption | omega) (by first | with_reducible assumption | omega | assumption) (by first | with_reducible assumption | omega | assumption) (by first | exact jnd_0 | exact jnd_skip v_none (by omega) (by omega) (by omega) | exact hjd_ _ (by omega)) (by first | exact sum_0 | exact cnt_st v_none (by rw [jnF_skip v_none (by omega) (by omega)]; omega) (by omega) (by omega) | exact cnt_st v_none (by rw [hjf_]; omega) (by omega) (by omega)) ⟨hP, hD⟩ hS (lv_sub hl [0, 1, 2, 3, 4] rfl)
  intro n_1
  induction n_1 with
  | zero =>
    intro x4_1 x3_1 c_n2_1 c_n3_1 H locs ls hm v0_1 v1_1 v2_1 v3_1 v4_1 v5_1 v6_1 hPD hS hl; obtain ⟨hP, hD⟩ := hPD
    exact absurd hm (by omega)
  | succ n_1 ih_1 =>
    intro x4_1 x3_1 c_n2_1 c_n3_1 H locs ls hm v0_1 v1_1 v2_1 v3_1 v4_1 v5_1 v6_1 hPD hS hl; obtain ⟨hP, hD⟩ := hPD
    refine lv_iload hx hb dB_36_1_23.1.2.1.1 (lv_at hl 0 rfl) ?_
    refine lv_aload_n hx hb dB_36_1_23.1.2.1.2 rfl (lv_at hl 2 rfl) ?_
    refine va_get (ci := 3) (v := .int vn) (C := RX3) (T := TX3) (N := 7) hx hb hts (fun _ h => List.mem_cons_of_mem _ (List.mem_append_right _ h)) hown hK.1 hP 0 rfl rfl 1 (by decide) (hts (.fieldLink RX3 15 "CutAtlas$Net" "lines" "I") (List.mem_of_getElem? (i := 1) rfl)) (fun _ h9 => h9) rfl dB_36_1_23.1.2.2.1 ?_
    refine lv_icmp_ge (tgt := 105) hx hb dB_36_1_23.1.2.2.2 (by decide) (fun c_2 => ?_) (fun c_2 => ?_)
    · have t_2 : vn.toInt ≤ x4_1.toInt := Int32.le_iff_toInt_le.mp c_2
      refine lv_aload_n hx hb dB_36_1_26.2.1.1.1 rfl (lv_at hl 2 rfl) ?_
      refine lv_dup hx hb dB_36_1_26.2.1.1.2 rfl ?_
      refine va_get (ci := 3) (v := .int vp) (C := RX3) (T := TX3) (N := 7) hx hb hts (fun _ h => List.mem_cons_of_mem _ (List.mem_append_right _ h)) hown hK.1 hP 0 rfl rfl 0 (by decide) (hts (.fieldLink RX3 9 "CutAtlas$Net" "places" "I") (List.mem_of_getElem? (i := 4) rfl)) (fun _ h9 => h9) rfl dB_36_1_26.2.1.2.1 ?_
      refine lv_iconst (v := 1) hx hb dB_36_1_26.2.1.2.2 (by decide) ?_
      refine lv_isub hx hb dB_36_1_26.2.2.1.1 ?_
      refine lv_topi (fun y_3 ey_3 => ?_)
      have ty_3 : y_3.toInt = vp.toInt - (1 : Int32).toInt := by rw [ey_3]; exact subI (by omega) (by omega)
      refine va_put (ci := 3) (v := .int y_3) (ty := .int) (C := RX3) (T := TX3) (N := 7) hx hb hts (fun _ h => List.mem_cons_of_mem _ (List.mem_append_right _ h)) tyX3 tyX3_ok nmX3 hown hK.1 hP hD hS 0 rfl rfl 0 (by decide) (hts (.fieldLink RX3 9 "CutAtlas$Net" "places" "I") (List.mem_of_getElem? (i := 4) rfl)) (fun _ h9 => h9) rfl (by decide +kernel) rfl rfl (Nat.le_of_ble_eq_true rfl) dB_36_1_26.2.2.1.2 (fun H locs hP hD hS => ?_)
      refine pd_K [ob3_0_ xn y_3 vn n1 n2 n3 n4 n5, ai_ cy n2 40 c_n2_1, ai_ cy n3 40 c_n3_1] hP hD (fun hP hD => ?_)
      refine lv_iload_n hx hb dB_36_1_26.2.2.2.1 rfl (lv_at hl 1 rfl) ?_
      rw [hQ]
      exact W.iret (v := x3_1) hx hb hr (fun t ht hW => ⟨⟨x3_1, (), rfl, (sum_end v6_1 (by omega)), y_3, c_n2_1, c_n3_1, (by first | with_reducible assumption | omega | assumption), (by first | with_reducible assumption | assumption | exact rng_zero (by omega) (by omega) | omega), (jnd_end v5_1 (by omega)), by rw [ht]; exact hP, hD⟩, hS.F ht⟩) hS.2.2 dB_36_1_26.2.2.2.2
    · have t_2 : ¬ vn.toInt ≤ x4_1.toInt := fun h => c_2 (Int32.le_iff_toInt_le.mpr h)
      refine lv_aload_n hx hb dB_36_1_23.2.1.1.1 rfl (lv_at hl 2 rfl) ?_
      refine lv_iload hx hb dB_36_1_23.2.1.1.2 (lv_at hl 0 rfl) ?_
      refine ct_R hP hD [ob3_0_ xn vp vn n1 n2 n3 n4 n5, ai_ cy n2 40 c_n2_1] [0, 1] (by decide) rfl (fun hPc hDw => ?_)
      have hFc := va_free (wc := []) hD hS hA [] rfl
      refine va_calli (va_runV (As := [.int x4_1]) (rest := []) ⟨hx, hb, hml, hown, hts⟩ (c_X3_isMissing l D cy H.size xn n1 n2 n3 n4 n5 vp vn c_n2_1 x4_1 (by first | with_reducible assumption | omega | assumption)) (cwV 1 hts gX3_join_X3_isMissing rfl rfl rfl ⟨rfl, hd_X3_isMissing⟩ ⟨Nat.le_of_ble_eq_true rfl, Nat.le_of_ble_eq_true rfl⟩) ⟨bl_, va_recvX hK.1 hP (ci := 3) (q0 := 0) rfl rfl, fun U hU hW => ⟨rfl, by rw [hU], by rw [hU]; exact hPc, kk_mv hW hK, hDw⟩⟩ rfl rfl hl.1 rfl (lv_room (Nat.le_of_ble_eq_true rfl)) dB_36_1_23.2.1.2.1 ⟨Nat.le_of_ble_eq_true rfl, Nat.le_of_ble_eq_true rfl⟩) hS (fun q _ h => hFc q h) hFc (fun r_4 u t H locs ht hvm hw hB hz1 hk1 hS => ?_)
      have hP : va_P D vwCl _ H := ro_keep hP hk1
      rcases hw with ⟨w_5, e_⟩ | ⟨w_5, e_⟩
      · have e_ := e_.symm
        subst e_
        refine lv_if_ne (tgt := 99) hx hb dB_36_1_23.2.1.2.2 (by decide) (fun c_6 => ?_) (fun c_6 => ?_)
        · have _ := c_6
          first | (have hne_ : renI (S[g2] x4_1.toNatClampNeg).toInt a1.toInt a2.toInt ≠ renI (S[g3] x4_1.toNatClampNeg).toInt a1.toInt a2.toInt := (by omega); have hjf_ := jnF_0 v5_1 (by omega) hne_; have hjd_ : ∀ i2 : Int32, i2.toInt = x4_1.toInt + 1 → jnd a1.toInt a2.toInt fs fe c_n2_1 c_n3_1 i2.toInt := fun i2 e2 => jnd_st v5_1 (by omega) e2 hms_ (fun j hj => by rw [S[q2], pk_un hj]) (fun j hj => by rw [S[q3], pk_un hj]) (fun w => absurd w hne_) (fun _ => ⟨hx_, hy_⟩)) | skip
          obtain ⟨y_7, ey_7⟩ : ∃ y : Int32, y = x4_1 + 1 := ⟨_, rfl⟩
          have ty_7 : y_7.toInt = x4_1.toInt + (1 : Int32).toInt := by rw [ey_7]; exact addI (by omega) (by omega)
          refine lv_iinc (v := y_7) (lv' := [(4, .int y_7), (3, .int x3_1), (0, .ref xn), (1, .int a1), (2, .int a2)]) hx hb dB_36_1_26.1.2.2.1 hl (k := 0) rfl (by rw [ey_7]; rfl) (by decide) rfl (fun ls hl => ?_)
          refine lv_goto (tgt := 5) hx hb dB_36_1_26.1.2.2.2 (by decide) ?_
          exact ih_1 y_7 x3_1 c_n2_1 c_n3_1 _ _ _ (by omega) (by first | with_reducible assumption | omega | assumption) (by first | with_reducible assumption | omega | assumption) (by first | with_reducible assumption | assumption | omega) (by first | with_reducible assumption | omega | assumption) (by first | with_reducible assumption | omega | assumption) (by first | exact jnd_0 | exact jnd_skip v5_1 (by omega) (by omega) (by omega) | exact hjd_ _ (by omega)) (by first | exact sum_0 | exact cnt_st v6_1 (by rw [jnF_skip v5_1 (by omega) (by omega)]; omega) (by omega) (by omega) | exact cnt_st v6_1 (by rw [hjf_]; omega) (by omega) (by omega)) ⟨hP, hD⟩ hS (lv_sub hl [0, 1, 2, 3, 4] rfl)
        · exact absurd c_6 (by decide)
      · have e_ := e_.symm
        subst e_
        refine lv_if_ne (tgt := 99) hx hb dB_36_1_23.2.1.2.2 (by decide) (fun c_8 => ?_) (fun c_8 => ?_)
        · exact absurd c_8 (by decide)
        · have _ := c_8
          have hms_ : (c_n2_1 x4_1.toNatClampNeg).toInt ≠ -9 := by omega
          refine lv_aload_n hx hb dB_36_1_23.2.2.1.1 rfl (lv_at hl 2 rfl) ?_
          refine va_get (ci := 3) (v := .ref n2) (C := RX3) (T := TX3) (N := 7) hx hb hts (fun _ h => List.mem_cons_of_mem _ (List.mem_append_right _ h)) hown hK.1 hP 0 rfl rfl 3 (by decide) (hts (.fieldLink RX3 22 "CutAtlas$Net" "starts" "[I") (List.mem_of_getElem? (i := 2) rfl)) (fun _ h9 => h9) rfl dB_36_1_23.2.2.1.2 ?_
          refine lv_iload hx hb dB_36_1_23.2.2.2.1 (lv_at hl 0 rfl) ?_
          refine lv_aload_n hx hb dB_36_1_23.2.2.2.2 rfl (lv_at hl 2 rfl) ?_
          refine va_get (ci := 3) (v := .ref n2) (C := RX3) (T := TX3) (N := 7) hx hb hts (fun _ h => List.mem_cons_of_mem _ (List.mem_append_right _ h)) hown hK.1 hP 0 rfl rfl 3 (by decide) (hts (.fieldLink RX3 22 "CutAtlas$Net" "starts" "[I") (List.mem_of_getElem? (i := 2) rfl)) (fun _ h9 => h9) rfl dB_36_1_24.1.1.1.1 ?_
          refine lv_iload hx hb dB_36_1_24.1.1.1.2 (lv_at hl 0 rfl) ?_
          have h_9 : vp_in x4_1 40 := in_I (by first | with_reducible assumption | omega) (by omega)
          refine va_iald hx hb hK.1 hP 1 0 rfl rfl (i := x4_1) h_9 dB_36_1_24.1.1.2.1 ?_
          refine lv_topi (fun y_10 ey_10 => ?_)
          have ky_10 : y_10.toInt = (c_n2_1 x4_1.toNatClampNeg).toInt := by rw [ey_10]
          have ry_10 := v2_1 _ (in_lt h_9)
          have jy_10 : y_10.toInt = (c_n2_1 x4_1.toNatClampNeg).toInt := by rw [ey_10]
          refine lv_iload_n hx hb dB_36_1_24.1.1.2.2 rfl (lv_at hl 3 rfl) ?_
          refine lv_iload_n hx hb dB_36_1_24.1.2.1.1 rfl (lv_at hl 4 rfl) ?_
          refine ct_R hP hD [] [] (by decide) rfl (fun hPc hDw => ?_)
          have hFc := va_free (wc := []) hD hS hA [] rfl
          refine va_calli (va_runS (As := [.int y_10, .int a1, .int a2]) (rest := [.int x4_1, .ref n2]) ⟨hx, hb, hml, hown, hts⟩ (c_X3_renumbered2 l D cy H.size y_10 a1 a2 (by first | with_reducible assumption | omega | assumption) (by first | with_reducible assumption | omega | assumption) (by first | with_reducible assumption | omega | assumption)) (va_cwS 3 hts gX3_join_X3_renumbered rfl rfl rfl hd_X3_renumbered ⟨Nat.le_of_ble_eq_true rfl, Nat.le_of_ble_eq_true rfl⟩) ⟨bl_, fun U hU hW => ⟨rfl, by rw [hU], by rw [hU]; exact hPc, kk_mv hW hK, hDw⟩⟩ rfl rfl hl.1 rfl (lv_room (Nat.le_of_ble_eq_true rfl)) dB_36_1_24.1.2.1.2 ⟨Nat.le_of_ble_eq_true rfl, Nat.le_of_ble_eq_true rfl⟩) hS (fun q _ h => hFc q h) hFc (fun r_11 u t H locs ht hvm hw hB hz1 hk1 hS => ?_)
          have hP : va_P D vwCl _ H := ro_keep hP hk1
          obtain ⟨f0_r_11, f1_r_11⟩ := hw
          refine va_iast hx hb hK.1 hP hD hS 1 0 rfl rfl (i := x4_1) h_9 dB_36_1_24.1.2.2.1 (fun H locs hP hD hS => ?_)
          obtain ⟨f_13, ef_13⟩ : ∃ g : Nat → Int32, g = upd c_n2_1 x4_1.toNatClampNeg r_11 := ⟨_, rfl⟩
          refine pd_K (D := D) (cl := vwCl) (H := H) (A := A) [ob3_0_ xn vp vn n1 n2 n3 n4 n5, ai_ cy n2 40 f_13, ai_ cy n3 40 c_n3_1] (by rw [ef_13]; exact hP) (by rw [ef_13]; exact hD) (fun hP hD => ?_)
          refine lv_aload_n hx hb dB_36_1_24.1.2.2.2 rfl (lv_at hl 2 rfl) ?_
          refine va_get (ci := 3) (v := .ref n3) (C := RX3) (T := TX3) (N := 7) hx hb hts (fun _ h => List.mem_cons_of_mem _ (List.mem_append_right _ h)) hown hK.1 hP 0 rfl rfl 4 (by decide) (hts (.fieldLink RX3 25 "CutAtlas$Net" "ends" "[I") (List.mem_of_getElem? (i := 3) rfl)) (fun _ h9 => h9) rfl dB_36_1_24.2.1.1.1 ?_
          refine lv_iload hx hb dB_36_1_24.2.1.1.2 (lv_at hl 0 rfl) ?_
          refine lv_aload_n hx hb dB_36_1_24.2.1.2.1 rfl (lv_at hl 2 rfl) ?_
          refine va_get (ci := 3) (v := .ref n3) (C := RX3) (T := TX3) (N := 7) hx hb hts (fun _ h => List.mem_cons_of_mem _ (List.mem_append_right _ h)) hown hK.1 hP 0 rfl rfl 4 (by decide) (hts (.fieldLink RX3 25 "CutAtlas$Net" "ends" "[I") (List.mem_of_getElem? (i := 3) rfl)) (fun _ h9 => h9) rfl dB_36_1_24.2.1.2.2 ?_
          refine lv_iload hx hb dB_36_1_24.2.2.1.1 (lv_at hl 0 rfl) ?_
          refine va_iald hx hb hK.1 hP 2 0 rfl rfl (i := x4_1) h_9 dB_36_1_24.2.2.1.2 ?_
          refine lv_topi (fun y_15 ey_15 => ?_)
          have ky_15 : y_15.toInt = (c_n3_1 x4_1.toNatClampNeg).toInt := by rw [ey_15]
          have ry_15 := v2_1 _ (in_lt h_9)
          have jy_15 : y_15.toInt = (c_n3_1 x4_1.toNatClampNeg).toInt := by rw [ey_15]
          refine lv_iload_n hx hb dB_36_1_24.2.2.2.1 rfl (lv_at hl 3 rfl) ?_
          refine lv_iload_n hx hb dB_36_1_24.2.2.2.2 rfl (lv_at hl 4 rfl) ?_
          refine ct_R hP hD [] [] (by decide) rfl (fun hPc hDw => ?_)
          have hFc := va_free (wc := []) hD hS hA [] rfl
          refine va_calli (va_runS (As := [.int y_15, .int a1, .int a2]) (rest := [.int x4_1, .ref n3]) ⟨hx, hb, hml, hown, hts⟩ (c_X3_renumbered2 l D cy H.size y_15 a1 a2 (by first | with_reducible assumption | omega | assumption) (by first | with_reducible assumption | omega | assumption) (by first | with_reducible assumption | omega | assumption)) (va_cwS 3 hts gX3_join_X3_renumbered rfl rfl rfl hd_X3_renumbered ⟨Nat.le_of_ble_eq_true rfl, Nat.le_of_ble_eq_true rfl⟩) ⟨bl_, fun U hU hW => ⟨rfl, by rw [hU], by rw [hU]; exact hPc, kk_mv hW hK, hDw⟩⟩ rfl rfl hl.1 rfl (lv_room (Nat.le_of_ble_eq_true rfl)) dB_36_1_25.1.1.1.1 ⟨Nat.le_of_ble_eq_true rfl, Nat.le_of_ble_eq_true rfl⟩) hS (fun q _ h => hFc q h) hFc (fun r_16 u t H locs ht hvm hw hB hz1 hk1 hS => ?_)
          have hP : va_P D vwCl _ H := ro_keep hP hk1
          obtain ⟨f0_r_16, f1_r_16⟩ := hw
          refine va_iast hx hb hK.1 hP hD hS 2 0 rfl rfl (i := x4_1) h_9 dB_36_1_25.1.1.1.2 (fun H locs hP hD hS => ?_)
          obtain ⟨f_18, ef_18⟩ : ∃ g : Nat → Int32, g = upd c_n3_1 x4_1.toNatClampNeg r_16 := ⟨_, rfl⟩
          refine pd_K (D := D) (cl := vwCl) (H := H) (A := A) [ob3_0_ xn vp vn n1 n2 n3 n4 n5, ai_ cy n2 40 f_13, ai_ cy n3 40 f_18] (by rw [ef_18]; exact hP) (by rw [ef_18]; exact hD) (fun hP hD => ?_)
          have pr_19 : prng f_13 f_18 40 := prng_st (by assumption) (by assumption) (by assumption) (by omega)
          have hx_ : (f_13 x4_1.toNatClampNeg).toInt = renI (c_n2_1 x4_1.toNatClampNeg).toInt a1.toInt a2.toInt := by rw [ef_13, pk_us, f1_r_11, ey_10]
          have hy_ : (f_18 x4_1.toNatClampNeg).toInt = renI (c_n3_1 x4_1.toNatClampNeg).toInt a1.toInt a2.toInt := by rw [ef_18, pk_us, f1_r_16, ey_15]
          refine lv_aload_n hx hb dB_36_1_25.1.1.2.1 rfl (lv_at hl 2 rfl) ?_
          refine va_get (ci := 3) (v := .ref n2) (C := RX3) (T := TX3) (N := 7) hx hb hts (fun _ h => List.mem_cons_of_mem _ (List.mem_append_right _ h)) hown hK.1 hP 0 rfl rfl 3 (by decide) (hts (.fieldLink RX3 22 "CutAtlas$Net" "starts" "[I") (List.mem_of_getElem? (i := 2) rfl)) (fun _ h9 => h9) rfl dB_36_1_25.1.1.2.2 ?_
          refine lv_iload hx hb dB_36_1_25.1.2.1.1 (lv_at hl 0 rfl) ?_
          refine va_iald hx hb hK.1 hP 1 0 rfl rfl (i := x4_1) h_9 dB_36_1_25.1.2.1.2 ?_
          refine lv_topi (fun y_21 ey_21 => ?_)
          have ky_21 : y_21.toInt = (f_13 x4_1.toNatClampNeg).toInt := by rw [ey_21]
          have ry_21 := pr_19 _ (in_lt h_9)
          have jy_21 : y_21.toInt = (f_13 x4_1.toNatClampNeg).toInt := by rw [ey_21]
          refine lv_aload_n hx hb dB_36_1_25.1.2.2.1 rfl (lv_at hl 2 rfl) ?_
          refine va_get (ci := 3) (v := .ref n3) (C := RX3) (T := TX3) (N := 7) hx hb hts (fun _ h => List.mem_cons_of_mem _ (List.mem_append_right _ h)) hown hK.1 hP 0 rfl rfl 4 (by decide) (hts (.fieldLink RX3 25 "CutAtlas$Net" "ends" "[I") (List.mem_of_getElem? (i := 3) rfl)) (fun _ h9 => h9) rfl dB_36_1_25.1.2.2.2 ?_
          refine lv_iload hx hb dB_36_1_25.2.1.1.1 (lv_at hl 0 rfl) ?_
          refine va_iald hx hb hK.1 hP 2 0 rfl rfl (i := x4_1) h_9 dB_36_1_25.2.1.1.2 ?_
          refine lv_topi (fun y_23 ey_23 => ?_)
          have ky_23 : y_23.toInt = (f_18 x4_1.toNatClampNeg).toInt := by rw [ey_23]
          have ry_23 := pr_19 _ (in_lt h_9)
          have jy_23 : y_23.toInt = (f_18 x4_1.toNatClampNeg).toInt := by rw [ey_23]
          refine lv_icmp_ne (tgt := 99) hx hb dB_36_1_25.2.1.2.1 (by decide) (fun c_24 => ?_) (fun c_24 => ?_)
          · have t_24 : ¬ y_21.toInt = y_23.toInt := fun h => c_24 (Int32.toInt_inj.mp h)
            first | (have hne_ : renI (c_n2_1 x4_1.toNatClampNeg).toInt a1.toInt a2.toInt ≠ renI (c_n3_1 x4_1.toNatClampNeg).toInt a1.toInt a2.toInt := (by omega); have hjf_ := jnF_0 v5_1 (by omega) hne_; have hjd_ : ∀ i2 : Int32, i2.toInt = x4_1.toInt + 1 → jnd a1.toInt a2.toInt fs fe f_13 f_18 i2.toInt := fun i2 e2 => jnd_st v5_1 (by omega) e2 hms_ (fun j hj => by rw [ef_13, pk_un hj]) (fun j hj => by rw [ef_18, pk_un hj]) (fun w => absurd w hne_) (fun _ => ⟨hx_, hy_⟩)) | skip
            obtain ⟨y_25, ey_25⟩ : ∃ y : Int32, y = x4_1 + 1 := ⟨_, rfl⟩
            have ty_25 : y_25.toInt = x4_1.toInt + (1 : Int32).toInt := by rw [ey_25]; exact addI (by omega) (by omega)
            refine lv_iinc (v := y_25) (lv' := [(4, .int y_25), (3, .int x3_1), (0, .ref xn), (1, .int a1), (2, .int a2)]) hx hb dB_36_1_26.1.2.2.1 hl (k := 0) rfl (by rw [ey_25]; rfl) (by decide) rfl (fun ls hl => ?_)
            refine lv_goto (tgt := 5) hx hb dB_36_1_26.1.2.2.2 (by decide) ?_
            exact ih_1 y_25 x3_1 f_13 f_18 _ _ _ (by omega) (by first | with_reducible assumption | omega | assumption) (by first | with_reducible assumption | omega | assumption) (by first | with_reducible assumption | assumption | omega) (by first | with_reducible assumption | omega | assumption) (by first | with_reducible assumption | omega | assumption) (by first | exact jnd_0 | exact jnd_skip v5_1 (by omega) (by omega) (by omega) | exact hjd_ _ (by omega)) (by first | exact sum_0 | exact cnt_st v6_1 (by rw [jnF_skip v5_1 (by omega) (by omega)]; omega) (by omega) (by omega) | exact cnt_st v6_1 (by rw [hjf_]; omega) (by omega) (by omega)) ⟨hP, hD⟩ hS (lv_sub hl [0, 1, 2, 3, 4] rfl)
          · have t_24 : y_21.toInt = y_23.toInt := congrArg Int32.toInt c_24
            have heq_ : renI (c_n2_1 x4_1.toNatClampNeg).toInt a1.toInt a2.toInt = renI (c_n3_1 x4_1.toNatClampNeg).toInt a1.toInt a2.toInt := by omega
            have hjf_ := jnF_1 v5_1 (by omega) hms_ heq_
            refine lv_aload_n hx hb dB_36_1_25.2.1.2.2 rfl (lv_at hl 2 rfl) ?_
            refine va_get (ci := 3) (v := .ref n2) (C := RX3) (T := TX3) (N := 7) hx hb hts (fun _ h => List.mem_cons_of_mem _ (List.mem_append_right _ h)) hown hK.1 hP 0 rfl rfl 3 (by decide) (hts (.fieldLink RX3 22 "CutAtlas$Net" "starts" "[I") (List.mem_of_getElem? (i := 2) rfl)) (fun _ h9 => h9) rfl dB_36_1_25.2.2.1.1 ?_
            refine lv_iload hx hb dB_36_1_25.2.2.1.2 (lv_at hl 0 rfl) ?_
            refine lv_bipush (v := (-9)) hx hb dB_36_1_25.2.2.2.1 (by decide) ?_
            refine va_iast hx hb hK.1 hP hD hS 1 0 rfl rfl (i := x4_1) h_9 dB_36_1_25.2.2.2.2 (fun H locs hP hD hS => ?_)
            obtain ⟨f_27, ef_27⟩ : ∃ g : Nat → Int32, g = upd f_13 x4_1.toNatClampNeg ((-9) : Int32) := ⟨_, rfl⟩
            refine pd_K (D := D) (cl := vwCl) (H := H) (A := A) [ob3_0_ xn vp vn n1 n2 n3 n4 n5, ai_ cy n2 40 f_27, ai_ cy n3 40 f_18] (by rw [ef_27]; exact hP) (by rw [ef_27]; exact hD) (fun hP hD => ?_)
            refine lv_aload_n hx hb dB_36_1_26.1.1.1.1 rfl (lv_at hl 2 rfl) ?_
            refine va_get (ci := 3) (v := .ref n3) (C := RX3) (T := TX3) (N := 7) hx hb hts (fun _ h => List.mem_cons_of_mem _ (List.mem_append_right _ h)) hown hK.1 hP 0 rfl rfl 4 (by decide) (hts (.fieldLink RX3 25 "CutAtlas$Net" "ends" "[I") (List.mem_of_getElem? (i := 3) rfl)) (fun _ h9 => h9) rfl dB_36_1_26.1.1.1.2 ?_
            refine lv_iload hx hb dB_36_1_26.1.1.2.1 (lv_at hl 0 rfl) ?_
            refine lv_bipush (v := (-9)) hx hb dB_36_1_26.1.1.2.2 (by decide) ?_
            refine va_iast hx hb hK.1 hP hD hS 2 0 rfl rfl (i := x4_1) h_9 dB_36_1_26.1.2.1.1 (fun H locs hP hD hS => ?_)
            obtain ⟨f_29, ef_29⟩ : ∃ g : Nat → Int32, g = upd f_18 x4_1.toNatClampNeg ((-9) : Int32) := ⟨_, rfl⟩
            refine pd_K (D := D) (cl := vwCl) (H := H) (A := A) [ob3_0_ xn vp vn n1 n2 n3 n4 n5, ai_ cy n2 40 f_27, ai_ cy n3 40 f_29] (by rw [ef_29]; exact hP) (by rw [ef_29]; exact hD) (fun hP hD => ?_)
            have pr_30 : prng f_27 f_29 40 := prng_st (by assumption) (by assumption) (by assumption) (by omega)
            have hjd_ : ∀ i2 : Int32, i2.toInt = x4_1.toInt + 1 → jnd a1.toInt a2.toInt fs fe f_27 f_29 i2.toInt := fun i2 e2 => jnd_st v5_1 (by omega) e2 hms_ (fun j hj => by rw [ef_27, pk_un hj, ef_13, pk_un hj]) (fun j hj => by rw [ef_29, pk_un hj, ef_18, pk_un hj]) (fun _ => by rw [ef_27, ef_29, pk_us, pk_us]; decide) (fun w => absurd heq_ w)
            obtain ⟨y_31, ey_31⟩ : ∃ y : Int32, y = x3_1 + 1 := ⟨_, rfl⟩
            have ty_31 : y_31.toInt = x3_1.toInt + (1 : Int32).toInt := by rw [ey_31]; exact addI (by omega) (by omega)
            refine lv_iinc (v := y_31) (lv' := [(3, .int y_31), (4, .int x4_1), (0, .ref xn), (1, .int a1), (2, .int a2)]) hx hb dB_36_1_26.1.2.1.2 hl (k := 1) rfl (by rw [ey_31]; rfl) (by decide) rfl (fun ls hl => ?_)
            first | (have hne_ : renI (c_n2_1 x4_1.toNatClampNeg).toInt a1.toInt a2.toInt ≠ renI (c_n3_1 x4_1.toNatClampNeg).toInt a1.toInt a2.toInt := (by omega); have hjf_ := jnF_0 v5_1 (by omega) hne_; have hjd_ : ∀ i2 : Int32, i2.toInt = x4_1.toInt + 1 → jnd a1.toInt a2.toInt fs fe f_27 f_29 i2.toInt := fun i2 e2 => jnd_st v5_1 (by omega) e2 hms_ (fun j hj => by rw [ef_13, pk_un hj]) (fun j hj => by rw [ef_18, pk_un hj]) (fun w => absurd w hne_) (fun _ => ⟨hx_, hy_⟩)) | skip
            obtain ⟨y_32, ey_32⟩ : ∃ y : Int32, y = x4_1 + 1 := ⟨_, rfl⟩
            have ty_32 : y_32.toInt = x4_1.toInt + (1 : Int32).toInt := by rw [ey_32]; exact addI (by omega) (by omega)
            refine lv_iinc (v := y_32) (lv' := [(4, .int y_32), (3, .int y_31), (0, .ref xn), (1, .int a1), (2, .int a2)]) hx hb dB_36_1_26.1.2.2.1 hl (k := 1) rfl (by rw [ey_32]; rfl) (by decide) rfl (fun ls hl => ?_)
            refine lv_goto (tgt := 5) hx hb dB_36_1_26.1.2.2.2 (by decide) ?_
            exact ih_1 y_32 y_31 f_27 f_29 _ _ _ (by omega) (by first | with_reducible assumption | omega | assumption) (by first | with_reducible assumption | omega | assumption) (by first | with_reducible assumption | assumption | omega) (by first | with_reducible assumption | omega | assumption) (by first | with_reducible assumption | omega | assumption) (by first | exact jnd_0 | exact jnd_skip v5_1 (by omega) (by omega) (by omega) | exact hjd_ _ (by omega)) (by first | exact sum_0 | exact cnt_st v6_1 (by rw [jnF_skip v5_1 (by omega) (by omega)]; omega) (by omega) (by omega) | exact cnt_st v6_1 (by rw [hjf_]; omega) (by omega) (by omega)) ⟨hP, hD⟩ hS (lv_sub hl [0, 1, 2, 3, 4] rfl)

set_option maxHeartbeats 4000000 in
set_option maxRecDepth 100000 in
theorem c_X3_become2 (l : Launch) (D : va_G) (cy : Nat → ClassId) (sz : Nat) (h0 : Nat) (k1 : Nat) (k2 : Nat) (k3 : Nat) (k4 : Nat) (k5 : Nat) (vp0 : Int32) (vn0 : Int32) (xn : Nat) (n1 : Nat) (n2 : Nat) (n3 : Nat) (n4 : Nat) (n5 : Nat) (vp : Int32) (vn : Int32) (fk0 : Nat → Int32) (fs0 : Nat → Int32) (fe0 : Nat → Int32) (fw0 : Nat → Int32) (fp0 : Nat → Int32) (fk : Nat → Int32) (fs : Nat → Int32) (fe : Nat → Int32) (fw : Nat → Int32) (fp : Nat → Int32) (hvn : 0 ≤ vn.toInt ∧ vn.toInt ≤ 40) (hvp : 0 ≤ vp.toInt ∧ vp.toInt ≤ 12) (p1 : prng fs0 fe0 40) (p2 : prng fs fe 40) (r_fk0 : rng fk0 40 (0) (4)) (r_fw0 : rng fw0 40 (0) (2000)) (r_fp0 : rng fp0 40 (0) (100)) (r_fk : rng fk 40 (0) (4)) (r_fw : rng fw 40 (0) (2000)) (r_fp : rng fp 40 (0) (100)) : Met l yX3_become wsX3_become ({ frames := 1, cells := 0, slots := 0, locals := 40 }) (va_Pc [.ref h0, .ref xn] (fun U => U.heap.size = sz ∧ va_P D vwCl [ob3_0_ h0 vp0 vn0 k1 k2 k3 k4 k5, ai_ cy k1 40 fk0, ai_ cy k2 40 fs0, ai_ cy k3 40 fe0, ai_ cy k4 40 fw0, ai_ cy k5 40 fp0, ob3_0_ xn vp vn n1 n2 n3 n4 n5, ai_ cy n1 40 fk, ai_ cy n2 40 fs, ai_ cy n3 40 fe, ai_ cy n4 40 fw, ai_ cy n5 40 fp] U.heap ∧ kk_ D cy U ∧ va_D (fun _ => True) [ob3_0_ h0 vp0 vn0 k1 k2 k3 k4 k5, ai_ cy k1 40 fk0, ai_ cy k2 40 fs0, ai_ cy k3 40 fe0, ai_ cy k4 40 fw0, ai_ cy k5 40 fp0, ob3_0_ xn vp vn n1 n2 n3 n4 n5, ai_ cy n1 40 fk, ai_ cy n2 40 fs, ai_ cy n3 40 fe, ai_ cy n4 40 fw, ai_ cy n5 40 fp])) (va_Qv (fun (_ : Unit) => True) (fun (_ : Unit) (t : State) => ∃ (fk9 : Nat → Int32), ∃ (fs9 : Nat → Int32), ∃ (fe9 : Nat → Int32), ∃ (fw9 : Nat → Int32), ∃ (fp9 : Nat → Int32), (prng fs9 fe9 40) ∧ (same5 vn.toInt fk9 fs9 fe9 fw9 fp9 fk fs fe fw fp) ∧ (rng fk9 40 (0) (4)) ∧ (rng fw9 40 (0) (2000)) ∧ (rng fp9 40 (0) (100)) ∧ va_P D vwCl [ob3_0_ h0 vp vn k1 k2 k3 k4 k5, ai_ cy k1 40 fk9, ai_ cy k2 40 fs9, ai_ cy k3 40 fe9, ai_ cy k4 40 fw9, ai_ cy k5 40 fp9, ob3_0_ xn vp vn n1 n2 n3 n4 n5, ai_ cy n1 40 fk, ai_ cy n2 40 fs, ai_ cy n3 40 fe, ai_ cy n4 40 fw, ai_ cy n5 40 fp] t.heap ∧ va_D (va_A [ob3_0_ h0 vp0 vn0 k1 k2 k3 k4 k5, ai_ cy k1 40 fk0, ai_ cy k2 40 fs0, ai_ cy k3 40 fe0, ai_ cy k4 40 fw0, ai_ cy k5 40 fp0, ob3_0_ xn vp vn n1 n2 n3 n4 n5, ai_ cy n1 40 fk, ai_ cy n2 40 fs, ai_ cy n3 40 fe, ai_ cy n4 40 fw, ai_ cy n5 40 fp] sz) [ob3_0_ h0 vp vn k1 k2 k3 k4 k5, ai_ cy k1 40 fk9, ai_ cy k2 40 fs9, ai_ cy k3 40 fe9, ai_ cy k4 40 fw9, ai_ cy k5 40 fp9, ob3_0_ xn vp vn n1 n2 n3 n4 n5, ai_ cy n1 40 fk, ai_ cy n2 40 fs, ai_ cy n3 40 fe, ai_ cy n4 40 fw, ai_ cy n5 40 fp]) (va_A [ob3_0_ h0 vp0 vn0 k1 k2 k3 k4 k5, ai_ cy k1 40 fk0, ai_ cy k2 40 fs0, ai_ cy k3 40 fe0, ai_ cy k4 40 fw0, ai_ cy k5 40 fp0, ob3_0_ xn vp vn n1 n2 n3 n4 n5, ai_ cy n1 40 fk, ai_ cy n2 40 fs, ai_ cy n3 40 fe, ai_ cy n4 40 fw, ai_ cy n5 40 fp] sz)) 0 0 (va_A [ob3_0_ h0 vp0 vn0 k1 k2 k3 k4 k5, ai_ cy k1 40 fk0, ai_ cy k2 40 fs0, ai_ cy k3 40 fe0, ai_ cy k4 40 fw0, ai_ cy k5 40 fp0, ob3_0_ xn vp vn n1 n2 n3 n4 n5, ai_ cy n1 40 fk, ai_ cy n2 40 fs, ai_ cy n3 40 fe, ai_ cy n4 40 fw, ai_ cy n5 40 fp] sz) := by
  refine ofQ (cc := cX3_become) (maxL := 2) (ret := none) (by decide) rfl ?_
  intro p e s m args below meth c s₁ Q hQ B hml hv
  obtain ⟨rfl, hsz, hP, hK, hD0⟩ := hv
  have hx := B.exec
  have hb := B.bytes
  have hr := B.returns
  have hts := atoms_spec (ws := wsX3_become) B.pre
  have hown : s.vm.findClass RX3 = some m.cls := by have h_ := findClass_of_methodNamed B.named; exact h_
  have hlocks := B.notSynchronized
  subst hsz
  have hD := hD0.self (sz := s.heap.size)
  generalize hAe : va_A [ob3_0_ h0 vp0 vn0 k1 k2 k3 k4 k5, ai_ cy k1 40 fk0, ai_ cy k2 40 fs0, ai_ cy k3 40 fe0, ai_ cy k4 40 fw0, ai_ cy k5 40 fp0, ob3_0_ xn vp vn n1 n2 n3 n4 n5, ai_ cy n1 40 fk, ai_ cy n2 40 fs, ai_ cy n3 40 fe, ai_ cy n4 40 fw, ai_ cy n5 40 fp] s.heap.size = A at hD hQ
  have hA : ∀ q : Nat, s.heap.size ≤ q → A q := fun q h => by rw [← hAe]; exact Or.inr h
  have hS : va_S A s.heap s.heap [] := va_S.rf
  have hl := lv_entry ([.ref h0, .ref xn]) (n := 2) (Nat.le_of_ble_eq_true rfl)
  rw [lg_entry_eq]
  generalize (lg_sl ([.ref h0, .ref xn]) ++ List.replicate (2 - (lg_sl ([.ref h0, .ref xn])).length) Slot.unset).toArray = ls at hl ⊢
  have hl : lv_has ls 2 [(0, .ref h0), (1, .ref xn)] := hl
  have z0 : (0 : Int32).toInt = 0 := by decide
  refine lv_aload_n hx hb dB_36_1_10.1.1.1.1 rfl (lv_at hl 0 rfl) ?_
  refine lv_aload_n hx hb dB_36_1_10.1.1.1.2 rfl (lv_at hl 1 rfl) ?_
  refine va_get (ci := 3) (v := .int vp) (C := RX3) (T := TX3) (N := 7) hx hb hts (fun _ h => List.mem_cons_of_mem _ (List.mem_append_right _ h)) hown hK.1 hP 6 rfl rfl 0 (by decide) (hts (.fieldLink RX3 9 "CutAtlas$Net" "places" "I") (List.mem_of_getElem? (i := 1) rfl)) (fun _ h9 => h9) rfl dB_36_1_10.1.1.2.1 ?_
  refine va_put (ci := 3) (v := .int vp) (ty := .int) (C := RX3) (T := TX3) (N := 7) hx hb hts (fun _ h => List.mem_cons_of_mem _ (List.mem_append_right _ h)) tyX3 tyX3_ok nmX3 hown hK.1 hP hD hS 0 rfl rfl 0 (by decide) (hts (.fieldLink RX3 9 "CutAtlas$Net" "places" "I") (List.mem_of_getElem? (i := 1) rfl)) (fun _ h9 => h9) rfl (by decide +kernel) rfl rfl (Nat.le_of_ble_eq_true rfl) dB_36_1_10.1.1.2.2 (fun H locs hP hD hS => ?_)
  refine pd_K [ob3_0_ h0 vp vn0 k1 k2 k3 k4 k5, ai_ cy k1 40 fk0, ai_ cy k2 40 fs0, ai_ cy k3 40 fe0, ai_ cy k4 40 fw0, ai_ cy k5 40 fp0, ob3_0_ xn vp vn n1 n2 n3 n4 n5, ai_ cy n1 40 fk, ai_ cy n2 40 fs, ai_ cy n3 40 fe, ai_ cy n4 40 fw, ai_ cy n5 40 fp] hP hD (fun hP hD => ?_)
  refine lv_aload_n hx hb dB_36_1_10.1.2.1.1 rfl (lv_at hl 0 rfl) ?_
  refine lv_aload_n hx hb dB_36_1_10.1.2.1.2 rfl (lv_at hl 1 rfl) ?_
  refine va_get (ci := 3) (v := .int vn) (C := RX3) (T := TX3) (N := 7) hx hb hts (fun _ h => List.mem_cons_of_mem _ (List.mem_append_right _ h)) hown hK.1 hP 6 rfl rfl 1 (by decide) (hts (.fieldLink RX3 15 "CutAtlas$Net" "lines" "I") (List.mem_of_getElem? (i := 2) rfl)) (fun _ h9 => h9) rfl dB_36_1_10.1.2.2.1 ?_
  refine va_put (ci := 3) (v := .int vn) (ty := .int) (C := RX3) (T := TX3) (N := 7) hx hb hts (fun _ h => List.mem_cons_of_mem _ (List.mem_append_right _ h)) tyX3 tyX3_ok nmX3 hown hK.1 hP hD hS 0 rfl rfl 1 (by decide) (hts (.fieldLink RX3 15 "CutAtlas$Net" "lines" "I") (List.mem_of_getElem? (i := 2) rfl)) (fun _ h9 => h9) rfl (by decide +kernel) rfl rfl (Nat.le_of_ble_eq_true rfl) dB_36_1_10.1.2.2.2 (fun H locs hP hD hS => ?_)
  refine pd_K [ob3_0_ h0 vp vn k1 k2 k3 k4 k5, ai_ cy k1 40 fk0, ai_ cy k2 40 fs0, ai_ cy k3 40 fe0, ai_ cy k4 40 fw0, ai_ cy k5 40 fp0, ob3_0_ xn vp vn n1 n2 n3 n4 n5, ai_ cy n1 40 fk, ai_ cy n2 40 fs, ai_ cy n3 40 fe, ai_ cy n4 40 fw, ai_ cy n5 40 fp] hP hD (fun hP hD => ?_)
  refine lv_aload_n hx hb dB_36_1_10.2.1.1.1 rfl (lv_at hl 1 rfl) ?_
  refine va_get (ci := 3) (v := .ref n1) (C := RX3) (T := TX3) (N := 7) hx hb hts (fun _ h => List.mem_cons_of_mem _ (List.mem_append_right _ h)) hown hK.1 hP 6 rfl rfl 2 (by decide) (hts (.fieldLink RX3 18 "CutAtlas$Net" "kinds" "[I") (List.mem_of_getElem? (i := 3) rfl)) (fun _ h9 => h9) rfl dB_36_1_10.2.1.1.2 ?_
  refine lv_iconst (v := 0) hx hb dB_36_1_10.2.1.2.1 (by decide) ?_
  refine lv_aload_n hx hb dB_36_1_10.2.1.2.2 rfl (lv_at hl 0 rfl) ?_
  refine va_get (ci := 3) (v := .ref k1) (C := RX3) (T := TX3) (N := 7) hx hb hts (fun _ h => List.mem_cons_of_mem _ (List.mem_append_right _ h)) hown hK.1 hP 0 rfl rfl 2 (by decide) (hts (.fieldLink RX3 18 "CutAtlas$Net" "kinds" "[I") (List.mem_of_getElem? (i := 3) rfl)) (fun _ h9 => h9) rfl dB_36_1_10.2.2.1.1 ?_
  refine lv_iconst (v := 0) hx hb dB_36_1_10.2.2.1.2 (by decide) ?_
  refine lv_aload_n hx hb dB_36_1_10.2.2.2.1 rfl (lv_at hl 0 rfl) ?_
  refine va_get (ci := 3) (v := .int vn) (C := RX3) (T := TX3) (N := 7) hx hb hts (fun _ h => List.mem_cons_of_mem _ (List.mem_append_right _ h)) hown hK.1 hP 0 rfl rfl 1 (by decide) (hts (.fieldLink RX3 15 "CutAtlas$Net" "lines" "I") (List.mem_of_getElem? (i := 2) rfl)) (fun _ h9 => h9) rfl dB_36_1_10.2.2.2.2 ?_
  have cl_1 := clI (i := vn) (by omega)
  have cl_2 := clI (i := (0 : Int32)) (by omega)
  refine va_copyi hx hb (by rw [hml]; exact hl.1.symm) hown (hts (.methodLink RX3 46 arraycopyName) (List.mem_of_getElem? (i := 4) rfl)) (hts (.native arraycopyName) (List.mem_of_getElem? (i := 5) rfl)) (hts (.static arraycopyName) (List.mem_of_getElem? (i := 6) rfl)) (hts (.initialized "java/lang/System") (List.mem_of_getElem? (i := 7) rfl)) hK.1 hP hD hS 7 1 0 0 rfl rfl rfl rfl rfl (sp := (0 : Int32)) (dp := (0 : Int32)) (n := vn) (nneg (by omega)) (nneg (by omega)) (nneg (by omega)) (by omega) (by omega) (fun i h => rfl) (Nat.le_of_ble_eq_true rfl) (Nat.le_of_ble_eq_true rfl) dB_36_1_11.1.1.1.1 (fun H locs hP hD hS => ?_)
  obtain ⟨f_3, ef_3⟩ : ∃ g : Nat → Int32, g = va_cpy fk fk0 (0 : Int32).toNatClampNeg (0 : Int32).toNatClampNeg vn.toNatClampNeg := ⟨_, rfl⟩
  refine pd_K (D := D) (cl := vwCl) (H := H) (A := A) [ob3_0_ h0 vp vn k1 k2 k3 k4 k5, ai_ cy k1 40 f_3, ai_ cy k2 40 fs0, ai_ cy k3 40 fe0, ai_ cy k4 40 fw0, ai_ cy k5 40 fp0, ob3_0_ xn vp vn n1 n2 n3 n4 n5, ai_ cy n1 40 fk, ai_ cy n2 40 fs, ai_ cy n3 40 fe, ai_ cy n4 40 fw, ai_ cy n5 40 fp] (by rw [ef_3]; exact hP) (by rw [ef_3]; exact hD) (fun hP hD => ?_)
  have rf_3 : rng f_3 40 (0) (4) := by rw [ef_3]; exact rng_cpy r_fk r_fk0 (by omega)
  refine lv_aload_n hx hb dB_36_1_11.1.1.1.2 rfl (lv_at hl 1 rfl) ?_
  refine va_get (ci := 3) (v := .ref n2) (C := RX3) (T := TX3) (N := 7) hx hb hts (fun _ h => List.mem_cons_of_mem _ (List.mem_append_right _ h)) hown hK.1 hP 6 rfl rfl 3 (by decide) (hts (.fieldLink RX3 22 "CutAtlas$Net" "starts" "[I") (List.mem_of_getElem? (i := 8) rfl)) (fun _ h9 => h9) rfl dB_36_1_11.1.1.2.1 ?_
  refine lv_iconst (v := 0) hx hb dB_36_1_11.1.1.2.2 (by decide) ?_
  refine lv_aload_n hx hb dB_36_1_11.1.2.1.1 rfl (lv_at hl 0 rfl) ?_
  refine va_get (ci := 3) (v := .ref k2) (C := RX3) (T := TX3) (N := 7) hx hb hts (fun _ h => List.mem_cons_of_mem _ (List.mem_append_right _ h)) hown hK.1 hP 0 rfl rfl 3 (by decide) (hts (.fieldLink RX3 22 "CutAtlas$Net" "starts" "[I") (List.mem_of_getElem? (i := 8) rfl)) (fun _ h9 => h9) rfl dB_36_1_11.1.2.1.2 ?_
  refine lv_iconst (v := 0) hx hb dB_36_1_11.1.2.2.1 (by decide) ?_
  refine lv_aload_n hx hb dB_36_1_11.1.2.2.2 rfl (lv_at hl 0 rfl) ?_
  refine va_get (ci := 3) (v := .int vn) (C := RX3) (T := TX3) (N := 7) hx hb hts (fun _ h => List.mem_cons_of_mem _ (List.mem_append_right _ h)) hown hK.1 hP 0 rfl rfl 1 (by decide) (hts (.fieldLink RX3 15 "CutAtlas$Net" "lines" "I") (List.mem_of_getElem? (i := 2) rfl)) (fun _ h9 => h9) rfl dB_36_1_11.2.1.1.1 ?_
  have cl_4 := clI (i := vn) (by omega)
  have cl_5 := clI (i := (0 : Int32)) (by omega)
  refine va_copyi hx hb (by rw [hml]; exact hl.1.symm) hown (hts (.methodLink RX3 46 arraycopyName) (List.mem_of_getElem? (i := 4) rfl)) (hts (.native arraycopyName) (List.mem_of_getElem? (i := 5) rfl)) (hts (.static arraycopyName) (List.mem_of_getElem? (i := 6) rfl)) (hts (.initialized "java/lang/System") (List.mem_of_getElem? (i := 7) rfl)) hK.1 hP hD hS 8 2 0 0 rfl rfl rfl rfl rfl (sp := (0 : Int32)) (dp := (0 : Int32)) (n := vn) (nneg (by omega)) (nneg (by omega)) (nneg (by omega)) (by omega) (by omega) (fun i h => rfl) (Nat.le_of_ble_eq_true rfl) (Nat.le_of_ble_eq_true rfl) dB_36_1_11.2.1.1.2 (fun H locs hP hD hS => ?_)
  obtain ⟨f_6, ef_6⟩ : ∃ g : Nat → Int32, g = va_cpy fs fs0 (0 : Int32).toNatClampNeg (0 : Int32).toNatClampNeg vn.toNatClampNeg := ⟨_, rfl⟩
  refine pd_K (D := D) (cl := vwCl) (H := H) (A := A) [ob3_0_ h0 vp vn k1 k2 k3 k4 k5, ai_ cy k1 40 f_3, ai_ cy k2 40 f_6, ai_ cy k3 40 fe0, ai_ cy k4 40 fw0, ai_ cy k5 40 fp0, ob3_0_ xn vp vn n1 n2 n3 n4 n5, ai_ cy n1 40 fk, ai_ cy n2 40 fs, ai_ cy n3 40 fe, ai_ cy n4 40 fw, ai_ cy n5 40 fp] (by rw [ef_6]; exact hP) (by rw [ef_6]; exact hD) (fun hP hD => ?_)
  refine lv_aload_n hx hb dB_36_1_11.2.1.2.1 rfl (lv_at hl 1 rfl) ?_
  refine va_get (ci := 3) (v := .ref n3) (C := RX3) (T := TX3) (N := 7) hx hb hts (fun _ h => List.mem_cons_of_mem _ (List.mem_append_right _ h)) hown hK.1 hP 6 rfl rfl 4 (by decide) (hts (.fieldLink RX3 25 "CutAtlas$Net" "ends" "[I") (List.mem_of_getElem? (i := 9) rfl)) (fun _ h9 => h9) rfl dB_36_1_11.2.1.2.2 ?_
  refine lv_iconst (v := 0) hx hb dB_36_1_11.2.2.1.1 (by decide) ?_
  refine lv_aload_n hx hb dB_36_1_11.2.2.1.2 rfl (lv_at hl 0 rfl) ?_
  refine va_get (ci := 3) (v := .ref k3) (C := RX3) (T := TX3) (N := 7) hx hb hts (fun _ h => List.mem_cons_of_mem _ (List.mem_append_right _ h)) hown hK.1 hP 0 rfl rfl 4 (by decide) (hts (.fieldLink RX3 25 "CutAtlas$Net" "ends" "[I") (List.mem_of_getElem? (i := 9) rfl)) (fun _ h9 => h9) rfl dB_36_1_11.2.2.2.1 ?_
  refine lv_iconst (v := 0) hx hb dB_36_1_11.2.2.2.2 (by decide) ?_
  refine lv_aload_n hx hb dB_36_1_12.1.1.1.1 rfl (lv_at hl 0 rfl) ?_
  refine va_get (ci := 3) (v := .int vn) (C := RX3) (T := TX3) (N := 7) hx hb hts (fun _ h => List.mem_cons_of_mem _ (List.mem_append_right _ h)) hown hK.1 hP 0 rfl rfl 1 (by decide) (hts (.fieldLink RX3 15 "CutAtlas$Net" "lines" "I") (List.mem_of_getElem? (i := 2) rfl)) (fun _ h9 => h9) rfl dB_36_1_12.1.1.1.2 ?_
  have cl_7 := clI (i := vn) (by omega)
  have cl_8 := clI (i := (0 : Int32)) (by omega)
  refine va_copyi hx hb (by rw [hml]; exact hl.1.symm) hown (hts (.methodLink RX3 46 arraycopyName) (List.mem_of_getElem? (i := 4) rfl)) (hts (.native arraycopyName) (List.mem_of_getElem? (i := 5) rfl)) (hts (.static arraycopyName) (List.mem_of_getElem? (i := 6) rfl)) (hts (.initialized "java/lang/System") (List.mem_of_getElem? (i := 7) rfl)) hK.1 hP hD hS 9 3 0 0 rfl rfl rfl rfl rfl (sp := (0 : Int32)) (dp := (0 : Int32)) (n := vn) (nneg (by omega)) (nneg (by omega)) (nneg (by omega)) (by omega) (by omega) (fun i h => rfl) (Nat.le_of_ble_eq_true rfl) (Nat.le_of_ble_eq_true rfl) dB_36_1_12.1.1.2.1 (fun H locs hP hD hS => ?_)
  obtain ⟨f_9, ef_9⟩ : ∃ g : Nat → Int32, g = va_cpy fe fe0 (0 : Int32).toNatClampNeg (0 : Int32).toNatClampNeg vn.toNatClampNeg := ⟨_, rfl⟩
  refine pd_K (D := D) (cl := vwCl) (H := H) (A := A) [ob3_0_ h0 vp vn k1 k2 k3 k4 k5, ai_ cy k1 40 f_3, ai_ cy k2 40 f_6, ai_ cy k3 40 f_9, ai_ cy k4 40 fw0, ai_ cy k5 40 fp0, ob3_0_ xn vp vn n1 n2 n3 n4 n5, ai_ cy n1 40 fk, ai_ cy n2 40 fs, ai_ cy n3 40 fe, ai_ cy n4 40 fw, ai_ cy n5 40 fp] (by rw [ef_9]; exact hP) (by rw [ef_9]; exact hD) (fun hP hD => ?_)
  refine lv_aload_n hx hb dB_36_1_12.1.1.2.2 rfl (lv_at hl 1 rfl) ?_
  refine va_get (ci := 3) (v := .ref n4) (C := RX3) (T := TX3) (N := 7) hx hb hts (fun _ h => List.mem_cons_of_mem _ (List.mem_append_right _ h)) hown hK.1 hP 6 rfl rfl 5 (by decide) (hts (.fieldLink RX3 28 "CutAtlas$Net" "widths" "[I") (List.mem_of_getElem? (i := 10) rfl)) (fun _ h9 => h9) rfl dB_36_1_12.1.2.1.1 ?_
  refine lv_iconst (v := 0) hx hb dB_36_1_12.1.2.1.2 (by decide) ?_
  refine lv_aload_n hx hb dB_36_1_12.1.2.2.1 rfl (lv_at hl 0 rfl) ?_
  refine va_get (ci := 3) (v := .ref k4) (C := RX3) (T := TX3) (N := 7) hx hb hts (fun _ h => List.mem_cons_of_mem _ (List.mem_append_right _ h)) hown hK.1 hP 0 rfl rfl 5 (by decide) (hts (.fieldLink RX3 28 "CutAtlas$Net" "widths" "[I") (List.mem_of_getElem? (i := 10) rfl)) (fun _ h9 => h9) rfl dB_36_1_12.1.2.2.2 ?_
  refine lv_iconst (v := 0) hx hb dB_36_1_12.2.1.1.1 (by decide) ?_
  refine lv_aload_n hx hb dB_36_1_12.2.1.1.2 rfl (lv_at hl 0 rfl) ?_
  refine va_get (ci := 3) (v := .int vn) (C := RX3) (T := TX3) (N := 7) hx hb hts (fun _ h => List.mem_cons_of_mem _ (List.mem_append_right _ h)) hown hK.1 hP 0 rfl rfl 1 (by decide) (hts (.fieldLink RX3 15 "CutAtlas$Net" "lines" "I") (List.mem_of_getElem? (i := 2) rfl)) (fun _ h9 => h9) rfl dB_36_1_12.2.1.2.1 ?_
  have cl_10 := clI (i := vn) (by omega)
  have cl_11 := clI (i := (0 : Int32)) (by omega)
  refine va_copyi hx hb (by rw [hml]; exact hl.1.symm) hown (hts (.methodLink RX3 46 arraycopyName) (List.mem_of_getElem? (i := 4) rfl)) (hts (.native arraycopyName) (List.mem_of_getElem? (i := 5) rfl)) (hts (.static arraycopyName) (List.mem_of_getElem? (i := 6) rfl)) (hts (.initialized "java/lang/System") (List.mem_of_getElem? (i := 7) rfl)) hK.1 hP hD hS 10 4 0 0 rfl rfl rfl rfl rfl (sp := (0 : Int32)) (dp := (0 : Int32)) (n := vn) (nneg (by omega)) (nneg (by omega)) (nneg (by omega)) (by omega) (by omega) (fun i h => rfl) (Nat.le_of_ble_eq_true rfl) (Nat.le_of_ble_eq_true rfl) dB_36_1_12.2.1.2.2 (fun H locs hP hD hS => ?_)
  obtain ⟨f_12, ef_12⟩ : ∃ g : Nat → Int32, g = va_cpy fw fw0 (0 : Int32).toNatClampNeg (0 : Int32).toNatClampNeg vn.toNatClampNeg := ⟨_, rfl⟩
  refine pd_K (D := D) (cl := vwCl) (H := H) (A := A) [ob3_0_ h0 vp vn k1 k2 k3 k4 k5, ai_ cy k1 40 f_3, ai_ cy k2 40 f_6, ai_ cy k3 40 f_9, ai_ cy k4 40 f_12, ai_ cy k5 40 fp0, ob3_0_ xn vp vn n1 n2 n3 n4 n5, ai_ cy n1 40 fk, ai_ cy n2 40 fs, ai_ cy n3 40 fe, ai_ cy n4 40 fw, ai_ cy n5 40 fp] (by rw [ef_12]; exact hP) (by rw [ef_12]; exact hD) (fun hP hD => ?_)
  have rf_12 : rng f_12 40 (0) (2000) := by rw [ef_12]; exact rng_cpy r_fw r_fw0 (by omega)
  refine lv_aload_n hx hb dB_36_1_12.2.2.1.1 rfl (lv_at hl 1 rfl) ?_
  refine va_get (ci := 3) (v := .ref n5) (C := RX3) (T := TX3) (N := 7) hx hb hts (fun _ h => List.mem_cons_of_mem _ (List.mem_append_right _ h)) hown hK.1 hP 6 rfl rfl 6 (by decide) (hts (.fieldLink RX3 31 "CutAtlas$Net" "prices" "[I") (List.mem_of_getElem? (i := 11) rfl)) (fun _ h9 => h9) rfl dB_36_1_12.2.2.1.2 ?_
  refine lv_iconst (v := 0) hx hb dB_36_1_12.2.2.2.1 (by decide) ?_
  refine lv_aload_n hx hb dB_36_1_12.2.2.2.2 rfl (lv_at hl 0 rfl) ?_
  refine va_get (ci := 3) (v := .ref k5) (C := RX3) (T := TX3) (N := 7) hx hb hts (fun _ h => List.mem_cons_of_mem _ (List.mem_append_right _ h)) hown hK.1 hP 0 rfl rfl 6 (by decide) (hts (.fieldLink RX3 31 "CutAtlas$Net" "prices" "[I") (List.mem_of_getElem? (i := 11) rfl)) (fun _ h9 => h9) rfl dB_36_1_13.1.1 ?_
  refine lv_iconst (v := 0) hx hb dB_36_1_13.1.2.1 (by decide) ?_
  refine lv_aload_n hx hb dB_36_1_13.1.2.2 rfl (lv_at hl 0 rfl) ?_
  refine va_get (ci := 3) (v := .int vn) (C := RX3) (T := TX3) (N := 7) hx hb hts (fun _ h => List.mem_cons_of_mem _ (List.mem_append_right _ h)) hown hK.1 hP 0 rfl rfl 1 (by decide) (hts (.fieldLink RX3 15 "CutAtlas$Net" "lines" "I") (List.mem_of_getElem? (i := 2) rfl)) (fun _ h9 => h9) rfl dB_36_1_13.2.1 ?_
  have cl_13 := clI (i := vn) (by omega)
  have cl_14 := clI (i := (0 : Int32)) (by omega)
  refine va_copyi hx hb (by rw [hml]; exact hl.1.symm) hown (hts (.methodLink RX3 46 arraycopyName) (List.mem_of_getElem? (i := 4) rfl)) (hts (.native arraycopyName) (List.mem_of_getElem? (i := 5) rfl)) (hts (.static arraycopyName) (List.mem_of_getElem? (i := 6) rfl)) (hts (.initialized "java/lang/System") (List.mem_of_getElem? (i := 7) rfl)) hK.1 hP hD hS 11 5 0 0 rfl rfl rfl rfl rfl (sp := (0 : Int32)) (dp := (0 : Int32)) (n := vn) (nneg (by omega)) (nneg (by omega)) (nneg (by omega)) (by omega) (by omega) (fun i h => rfl) (Nat.le_of_ble_eq_true rfl) (Nat.le_of_ble_eq_true rfl) dB_36_1_13.2.2.1 (fun H locs hP hD hS => ?_)
  obtain ⟨f_15, ef_15⟩ : ∃ g : Nat → Int32, g = va_cpy fp fp0 (0 : Int32).toNatClampNeg (0 : Int32).toNatClampNeg vn.toNatClampNeg := ⟨_, rfl⟩
  refine pd_K (D := D) (cl := vwCl) (H := H) (A := A) [ob3_0_ h0 vp vn k1 k2 k3 k4 k5, ai_ cy k1 40 f_3, ai_ cy k2 40 f_6, ai_ cy k3 40 f_9, ai_ cy k4 40 f_12, ai_ cy k5 40 f_15, ob3_0_ xn vp vn n1 n2 n3 n4 n5, ai_ cy n1 40 fk, ai_ cy n2 40 fs, ai_ cy n3 40 fe, ai_ cy n4 40 fw, ai_ cy n5 40 fp] (by rw [ef_15]; exact hP) (by rw [ef_15]; exact hD) (fun hP hD => ?_)
  have rf_15 : rng f_15 40 (0) (100) := by rw [ef_15]; exact rng_cpy r_fp r_fp0 (by omega)
  rw [hQ]
  exact W.vret hx hb hr (fun t ht hW => ⟨⟨(), rfl, trivial, f_3, f_6, f_9, f_12, f_15, (prng_cpy (by assumption) (by assumption) p2 p1 (by omega)), (same5_cpy (by assumption) (by assumption) (by assumption) (by assumption) (by assumption) (by omega)), (by first | with_reducible assumption | assumption | exact rng_zero (by omega) (by omega) | omega), (by first | with_reducible assumption | assumption | exact rng_zero (by omega) (by omega) | omega), (by first | with_reducible assumption | assumption | exact rng_zero (by omega) (by omega) | omega), by rw [ht]; exact hP, hD⟩, hS.F ht⟩) hS.2.2 dB_36_1_13.2.2.2
end
