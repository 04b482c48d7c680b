theorem cpd_st {f g g2 : Nat → Int64} {b : Int} {k k2 y : Int32} {v : Int64} (h : ∀ q : Nat, (q : Int) < k.toInt → g q = f (b + q).toNat) (e : g2 = vp_updL g k.toNatClampNeg v) (ev : v = f y.toNatClampNeg) (hy : y.toInt = b + k.toInt) (hk : 0 ≤ k.toInt) (e2 : k2.toInt = k.toInt + 1) : ∀ q : Nat, (q : Int) < k2.toInt → g2 q = f (b + q).toNat := fun q hq => by
  have c := clI (i := k) hk
  rw [e]
  by_cases z : q = k.toNatClampNeg
  · rw [z, pk_uLs, ev, ixn hy, c]
  · rw [pk_uLn z]
    exact h q (by omega)
theorem cpe_st {f t g g2 : Nat → Int64} {b d : Int} {k k2 y n : Int32} {v : Int64} (ht : ∀ q : Nat, (q : Int) < n.toInt → t q = f (b + q).toNat) (h : ∀ q : Nat, g q = if d ≤ (q : Int) ∧ (q : Int) < d + k.toInt then f (b + ((q : Int) - d)).toNat else f q) (e : g2 = vp_updL g y.toNatClampNeg v) (ev : v = t k.toNatClampNeg) (hy : y.toInt = d + k.toInt) (hk : 0 ≤ k.toInt) (hn : k.toInt < n.toInt) (hd : 0 ≤ d) (e2 : k2.toInt = k.toInt + 1) : ∀ q : Nat, g2 q = if d ≤ (q : Int) ∧ (q : Int) < d + k2.toInt then f (b + ((q : Int) - d)).toNat else f q := fun q => by
  have c := clI (i := k) hk
  have cy := clI (i := y) (by omega)
  rw [e]
  by_cases z : q = y.toNatClampNeg
  · rw [z, pk_uLs, ev, ht _ (by omega), if_pos (by omega), show b + ((k.toNatClampNeg : Nat) : Int) = b + (((y.toNatClampNeg : Nat) : Int) - d) by omega]
  · rw [pk_uLn z, h q]
    by_cases w : d ≤ (q : Int) ∧ (q : Int) < d + k.toInt
    · rw [if_pos w, if_pos (by omega)]
    · rw [if_neg w, if_neg (by omega)]
theorem cpe0 {f : Nat → Int64} {b d : Int} : ∀ q : Nat, f q = if d ≤ (q : Int) ∧ (q : Int) < d + (0 : Int32).toInt then f (b + ((q : Int) - d)).toNat else f q := fun q => by
  have z : (0 : Int32).toInt = 0 := by decide
  rw [if_neg (by omega)]

set_option maxHeartbeats 4000000 in
set_option maxRecDepth 100000 in
theorem c_X12_no2 (l : Launch) (D : va_G) (cy : Nat → ClassId) (sz : Nat) (mo : Nat) (g5 : Nat) (g6 : Nat) (g7 : Nat) (g8 : Nat) (g9 : Nat) (g10 : Nat) (g12 : Nat) (g13 : Nat) (g14 : Nat) (g15 : Nat) (g16 : Nat) (g17 : Nat) (g18 : Nat) (g19 : Nat) (g20 : Nat) (g22 : Nat) (g23 : Nat) (g24 : Nat) (g29 : Nat) (g30 : Nat) (g31 : Nat) (g32 : Nat) (g33 : Nat) (s0 : Int32) (s1 : Int32) (s3 : Int32) (s4 : Int32) (s11 : Int32) (s21 : Int32) (s25 : Int32) (s26 : Int32) (s27 : Int32) (s28 : Int32) (t2 : Int64) (a1 : Int32) : Met l yX12_no wsX12_no ({ frames := 0, cells := 0, slots := 0, locals := 0 }) (va_Pc [.ref mo, .int a1] (fun U => U.heap.size = sz ∧ va_P D vwCl [(mo, .inr (12, [.int s0, .int s1, .long t2, .int s3, .int s4, .ref g5, .ref g6, .ref g7, .ref g8, .ref g9, .ref g10, .int s11, .ref g12, .ref g13, .ref g14, .ref g15, .ref g16, .ref g17, .ref g18, .ref g19, .ref g20, .int s21, .ref g22, .ref g23, .ref g24, .int s25, .int s26, .int s27, .int s28, .ref g29, .ref g30, .ref g31, .ref g32, .ref g33]))] U.heap ∧ kk_ D cy U ∧ va_D (fun _ => True) [(mo, .inr (12, [.int s0, .int s1, .long t2, .int s3, .int s4, .ref g5, .ref g6, .ref g7, .ref g8, .ref g9, .ref g10, .int s11, .ref g12, .ref g13, .ref g14, .ref g15, .ref g16, .ref g17, .ref g18, .ref g19, .ref g20, .int s21, .ref g22, .ref g23, .ref g24, .int s25, .int s26, .int s27, .int s28, .ref g29, .ref g30, .ref g31, .ref g32, .ref g33]))])) (va_Qi (fun (r : Int32) (_ : Unit) => (r = a1)) (fun (_ : Unit) (t : State) => ∃ (n1 : Int32), (n1 = a1) ∧ va_P D vwCl [(mo, .inr (12, [.int s0, .int n1, .long t2, .int s3, .int s4, .ref g5, .ref g6, .ref g7, .ref g8, .ref g9, .ref g10, .int s11, .ref g12, .ref g13, .ref g14, .ref g15, .ref g16, .ref g17, .ref g18, .ref g19, .ref g20, .int s21, .ref g22, .ref g23, .ref g24, .int s25, .int s26, .int s27, .int s28, .ref g29, .ref g30, .ref g31, .ref g32, .ref g33]))] t.heap ∧ va_D (va_A [(mo, .inr (12, [.int s0, .int s1, .long t2, .int s3, .int s4, .ref g5, .ref g6, .ref g7, .ref g8, .ref g9, .ref g10, .int s11, .ref g12, .ref g13, .ref g14, .ref g15, .ref g16, .ref g17, .ref g18, .ref g19, .ref g20, .int s21, .ref g22, .ref g23, .ref g24, .int s25, .int s26, .int s27, .int s28, .ref g29, .ref g30, .ref g31, .ref g32, .ref g33]))] sz) [(mo, .inr (12, [.int s0, .int n1, .long t2, .int s3, .int s4, .ref g5, .ref g6, .ref g7, .ref g8, .ref g9, .ref g10, .int s11, .ref g12, .ref g13, .ref g14, .ref g15, .ref g16, .ref g17, .ref g18, .ref g19, .ref g20, .int s21, .ref g22, .ref g23, .ref g24, .int s25, .int s26, .int s27, .int s28, .ref g29, .ref g30, .ref g31, .ref g32, .ref g33]))]) (va_A [(mo, .inr (12, [.int s0, .int s1, .long t2, .int s3, .int s4, .ref g5, .ref g6, .ref g7, .ref g8, .ref g9, .ref g10, .int s11, .ref g12, .ref g13, .ref g14, .ref g15, .ref g16, .ref g17, .ref g18, .ref g19, .ref g20, .int s21, .ref g22, .ref g23, .ref g24, .int s25, .int s26, .int s27, .int s28, .ref g29, .ref g30, .ref g31, .ref g32, .ref g33]))] sz)) 0 0 (va_A [(mo, .inr (12, [.int s0, .int s1, .long t2, .int s3, .int s4, .ref g5, .ref g6, .ref g7, .ref g8, .ref g9, .ref g10, .int s11, .ref g12, .ref g13, .ref g14, .ref g15, .ref g16, .ref g17, .ref g18, .ref g19, .ref g20, .int s21, .ref g22, .ref g23, .ref g24, .int s25, .int s26, .int s27, .int s28, .ref g29, .ref g30, .ref g31, .ref g32, .ref g33]))] sz) := by
  refine ofQ (cc := cX12_no) (maxL := 2) (ret := (some .int)) (by decide) rfl ?_
  intro p e s m args below meth c s₁ Q hQ B hml hv
  obtain ⟨rfl, hsz, hP, hK, hD0⟩ := hv
  have hx := B.exec
  have hb := B.bytes
  have hr := B.returns
  have hts := atoms_spec (ws := wsX12_no) B.pre
  have hown : s.vm.findClass RX12 = some m.cls := by have h_ := findClass_of_methodNamed B.named; exact h_
  have hlocks := B.notSynchronized
  subst hsz
  have hD := hD0.self (sz := s.heap.size)
  generalize hAe : va_A [(mo, .inr (12, [.int s0, .int s1, .long t2, .int s3, .int s4, .ref g5, .ref g6, .ref g7, .ref g8, .ref g9, .ref g10, .int s11, .ref g12, .ref g13, .ref g14, .ref g15, .ref g16, .ref g17, .ref g18, .ref g19, .ref g20, .int s21, .ref g22, .ref g23, .ref g24, .int s25, .int s26, .int s27, .int s28, .ref g29, .ref g30, .ref g31, .ref g32, .ref g33]))] s.heap.size = A at hD hQ
  have hA : ∀ q : Nat, s.heap.size ≤ q → A q := fun q h => by rw [← hAe]; exact Or.inr h
  have hS : va_S A s.heap s.heap [] := va_S.rf
  have hl := lv_entry ([.ref mo, .int a1]) (n := 2) (Nat.le_of_ble_eq_true rfl)
  rw [lg_entry_eq]
  generalize (lg_sl ([.ref mo, .int a1]) ++ List.replicate (2 - (lg_sl ([.ref mo, .int a1])).length) Slot.unset).toArray = ls at hl ⊢
  have hl : lv_has ls 2 [(0, .ref mo), (1, .int a1)] := hl
  refine lv_aload_n hx hb dX12_no_0 rfl (lv_at hl 0 rfl) ?_
  refine lv_iload_n hx hb dX12_no_1 rfl (lv_at hl 1 rfl) ?_
  refine va_put (ci := 12) (v := .int a1) (ty := .int) (C := RX12) (T := TX12) (N := 34) hx hb hts (fun _ h => List.mem_cons_of_mem _ (List.mem_append_right _ h)) tyX12 tyX12_ok nmX12 hown hK.1 hP hD hS 0 rfl rfl 1 (by decide) (hts (.fieldLink RX12 240 "CutAtlasModel" "status" "I") (by decide +kernel)) (fun _ h9 => h9) rfl (by decide +kernel) rfl rfl (Nat.le_of_ble_eq_true rfl) dX12_no_2 (fun H locs hP hD hS => ?_)
  refine pd_K [(mo, .inr (12, [.int s0, .int a1, .long t2, .int s3, .int s4, .ref g5, .ref g6, .ref g7, .ref g8, .ref g9, .ref g10, .int s11, .ref g12, .ref g13, .ref g14, .ref g15, .ref g16, .ref g17, .ref g18, .ref g19, .ref g20, .int s21, .ref g22, .ref g23, .ref g24, .int s25, .int s26, .int s27, .int s28, .ref g29, .ref g30, .ref g31, .ref g32, .ref g33]))] hP hD (fun hP hD => ?_)
  refine lv_iload_n hx hb dX12_no_5 rfl (lv_at hl 1 rfl) ?_
  have hP9 := hP.sub (ws' := [(mo, .inr (12, [.int s0, .int a1, .long t2, .int s3, .int s4, .ref g5, .ref g6, .ref g7, .ref g8, .ref g9, .ref g10, .int s11, .ref g12, .ref g13, .ref g14, .ref g15, .ref g16, .ref g17, .ref g18, .ref g19, .ref g20, .int s21, .ref g22, .ref g23, .ref g24, .int s25, .int s26, .int s27, .int s28, .ref g29, .ref g30, .ref g31, .ref g32, .ref g33]))]) [0] rfl
  have hD9 := hD.sub (ws' := [(mo, .inr (12, [.int s0, .int a1, .long t2, .int s3, .int s4, .ref g5, .ref g6, .ref g7, .ref g8, .ref g9, .ref g10, .int s11, .ref g12, .ref g13, .ref g14, .ref g15, .ref g16, .ref g17, .ref g18, .ref g19, .ref g20, .int s21, .ref g22, .ref g23, .ref g24, .int s25, .int s26, .int s27, .int s28, .ref g29, .ref g30, .ref g31, .ref g32, .ref g33]))]) [0] (by decide) rfl
  rw [hQ]
  exact W.iret (v := a1) hx hb hr (fun t ht hW => ⟨⟨a1, (), rfl, (rfl), a1, (rfl), by rw [ht]; exact hP9, hD9⟩, hS.F ht⟩) hS.2.2 dX12_no_6

set_option maxHeartbeats 4000000 in
set_option maxRecDepth 100000 in
theorem c_X12_wrong2 (l : Launch) (D : va_G) (cy : Nat → ClassId) (sz : Nat) (mo : Nat) (g5 : Nat) (g6 : Nat) (g7 : Nat) (g8 : Nat) (g9 : Nat) (g10 : Nat) (g12 : Nat) (g13 : Nat) (g14 : Nat) (g15 : Nat) (g16 : Nat) (g17 : Nat) (g18 : Nat) (g19 : Nat) (g20 : Nat) (g22 : Nat) (g23 : Nat) (g24 : Nat) (g29 : Nat) (g30 : Nat) (g31 : Nat) (g32 : Nat) (g33 : Nat) (s0 : Int32) (s1 : Int32) (s3 : Int32) (s4 : Int32) (s11 : Int32) (s21 : Int32) (s25 : Int32) (s26 : Int32) (s27 : Int32) (s28 : Int32) (t2 : Int64) (f15 : Nat → Int32) (f16 : Nat → Int32) (f17 : Nat → Int32) (f18 : Nat → Int32) (a1 : Int32) (a2 : Int32) (a3 : Int32) (a4 : Int32) (hlk : lok f18 24) (r_f17 : rng f17 4 (0) (6)) (r_f18 : rng f18 24 (-9) (5)) : Met l yX12_wrong wsX12_wrong ({ frames := 1, cells := 0, slots := 0, locals := 25 }) (va_Pc [.ref mo, .int a1, .int a2, .int a3, .int a4] (fun U => U.heap.size = sz ∧ va_P D vwCl [(mo, .inr (12, [.int s0, .int s1, .long t2, .int s3, .int s4, .ref g5, .ref g6, .ref g7, .ref g8, .ref g9, .ref g10, .int s11, .ref g12, .ref g13, .ref g14, .ref g15, .ref g16, .ref g17, .ref g18, .ref g19, .ref g20, .int s21, .ref g22, .ref g23, .ref g24, .int s25, .int s26, .int s27, .int s28, .ref g29, .ref g30, .ref g31, .ref g32, .ref g33])), (g15, .inl (cy 2, 4, .inl f15)), (g16, .inl (cy 0, 4, .inl f16)), (g17, .inl (cy 0, 4, .inl f17)), (g18, .inl (cy 0, 24, .inl f18))] U.heap ∧ kk_ D cy U ∧ va_D (fun _ => True) [(mo, .inr (12, [.int s0, .int s1, .long t2, .int s3, .int s4, .ref g5, .ref g6, .ref g7, .ref g8, .ref g9, .ref g10, .int s11, .ref g12, .ref g13, .ref g14, .ref g15, .ref g16, .ref g17, .ref g18, .ref g19, .ref g20, .int s21, .ref g22, .ref g23, .ref g24, .int s25, .int s26, .int s27, .int s28, .ref g29, .ref g30, .ref g31, .ref g32, .ref g33])), (g15, .inl (cy 2, 4, .inl f15)), (g16, .inl (cy 0, 4, .inl f16)), (g17, .inl (cy 0, 4, .inl f17)), (g18, .inl (cy 0, 24, .inl f18))])) (va_Qi (fun (r : Int32) (_ : Unit) => (r.toInt = wrgI a1.toInt a2.toInt a3.toInt a4.toInt (f15 a1.toNatClampNeg).toInt (f16 a1.toNatClampNeg).toInt (f17 a1.toNatClampNeg).toInt (f18 (6 * a1.toInt + a3.toInt).toNat).toInt) ∧ (r.toInt < 0 ∨ (r.toInt = 0 ∧ ((0 ≤ a1.toInt ∧ a1.toInt < 4) ∧ (0 ≤ a2.toInt ∧ a2.toInt < 3)) ∧ (0 ≤ a3.toInt ∧ a3.toInt ≤ 5) ∧ (0 ≤ a4.toInt ∧ a4.toInt ≤ 4)))) (fun (_ : Unit) (_ : State) => True) (va_A [] sz)) 0 0 (va_A [] sz) := by
  refine ofQ (cc := cX12_wrong) (maxL := 6) (ret := (some .int)) (by decide) rfl ?_
  intro p e s m args below meth c s₁ Q hQ B hml hv
  obtain ⟨rfl, hsz, hP, hK, hD0⟩ := hv
  have hx := B.exec
  have hb := B.bytes
  have hr := B.returns
  have hts := atoms_spec (ws := wsX12_wrong) B.pre
  have hown : s.vm.findClass RX12 = some m.cls := by have h_ := findClass_of_methodNamed B.named; exact h_
  have hlocks := B.notSynchronized
  subst hsz
  have hD : va_D (va_A [] s.heap.size) [] := dd_nil
  generalize hAe : va_A [] s.heap.size = A at hD hQ
  have hA : ∀ q : Nat, s.heap.size ≤ q → A q := fun q h => by rw [← hAe]; exact Or.inr h
  have hS : va_S A s.heap s.heap [] := va_S.rf
  have hl := lv_entry ([.ref mo, .int a1, .int a2, .int a3, .int a4]) (n := 6) (Nat.le_of_ble_eq_true rfl)
  rw [lg_entry_eq]
  generalize (lg_sl ([.ref mo, .int a1, .int a2, .int a3, .int a4]) ++ List.replicate (6 - (lg_sl ([.ref mo, .int a1, .int a2, .int a3, .int a4])).length) Slot.unset).toArray = ls at hl ⊢
  have hl : lv_has ls 6 [(0, .ref mo), (1, .int a1), (2, .int a2), (3, .int a3), (4, .int a4)] := hl
  have zm13 : ((-13) : Int32).toInt = -13 := by decide
  have zm12 : ((-12) : Int32).toInt = -12 := by decide
  have zm11 : ((-11) : Int32).toInt = -11 := by decide
  have zm9 : ((-9) : Int32).toInt = -9 := by decide
  have zm1 : ((-1) : Int32).toInt = -1 := by decide
  have z0 : (0 : Int32).toInt = 0 := by decide
  have zl0 : (0 : Int64).toInt = 0 := by decide
  have z1 : (1 : Int32).toInt = 1 := by decide
  have zl2 : (2 : Int64).toInt = 2 := by decide
  have zl3 : (3 : Int64).toInt = 3 := by decide
  have z6 : (6 : Int32).toInt = 6 := by decide
  refine lv_iload_n hx hb dX12_wrong_0 rfl (lv_at hl 1 rfl) ?_
  refine lv_i2l (v := a1.toInt64) hx hb dX12_wrong_1 rfl ?_
  have q_1 : (a1.toInt64).toInt = a1.toInt := Int32.toInt_toInt64 a1
  refine lv_lconst (v := 0) hx hb dX12_wrong_2 (by decide) ?_
  refine lv_ldc2 (v := 3) hx hb hown (hts (.constantLong RX12 243 (3)) (by decide +kernel)) dX12_wrong_3 ?_
  refine ct_R hP hD0 [] [] (by decide) rfl (fun hPc hDw => ?_)
  have hFc := va_free (wc := []) hD hS hA [] rfl
  refine va_calli (va_runS (As := [.long a1.toInt64, .long 0, .long 3]) (rest := []) ⟨hx, hb, hml, hown, hts⟩ (c_X12_in l D cy s.heap.size a1.toInt64 (0 : Int64) (3 : Int64)) (va_cwS 3 hts gX12_wrong_X12_in rfl rfl rfl (by decide +kernel) ⟨Nat.le_of_ble_eq_true rfl, Nat.le_of_ble_eq_true rfl⟩) ⟨bl_, fun U hU hW => ⟨rfl, by rw [hU], by rw [hU]; exact hPc, kk_mv hW hK, hDw⟩⟩ rfl rfl hl.1 rfl (lv_room (Nat.le_of_ble_eq_true rfl)) dX12_wrong_6 ⟨Nat.le_of_ble_eq_true rfl, Nat.le_of_ble_eq_true rfl⟩) hS (fun q _ h => hFc q h) hFc (fun r_1 u t H locs ht hvm hw hB hz1 hk1 hS => ?_)
  have hP : va_P D vwCl _ H := ro_keep hP hk1
  rcases hw with ⟨w_2, e_⟩ | ⟨w_2, e_⟩
  · have e_ := e_.symm
    subst e_
    refine lv_if_eq (tgt := 24) hx hb dX12_wrong_9 (by decide) (fun c_3 => ?_) (fun c_3 => ?_)
    · exact absurd c_3 (by decide)
    · have _ := c_3
      refine lv_iload_n hx hb dX12_wrong_12 rfl (lv_at hl 2 rfl) ?_
      refine lv_i2l (v := a2.toInt64) hx hb dX12_wrong_13 rfl ?_
      have q_13 : (a2.toInt64).toInt = a2.toInt := Int32.toInt_toInt64 a2
      refine lv_lconst (v := 0) hx hb dX12_wrong_14 (by decide) ?_
      refine lv_ldc2 (v := 2) hx hb hown (hts (.constantLong RX12 149 (2)) (by decide +kernel)) dX12_wrong_15 ?_
      refine ct_R hP hD0 [] [] (by decide) rfl (fun hPc hDw => ?_)
      have hFc := va_free (wc := []) hD hS hA [] rfl
      refine va_calli (va_runS (As := [.long a2.toInt64, .long 0, .long 2]) (rest := []) ⟨hx, hb, hml, hown, hts⟩ (c_X12_in l D cy H.size a2.toInt64 (0 : Int64) (2 : Int64)) (va_cwS 3 hts gX12_wrong_X12_in rfl rfl rfl (by decide +kernel) ⟨Nat.le_of_ble_eq_true rfl, Nat.le_of_ble_eq_true rfl⟩) ⟨bl_, fun U hU hW => ⟨rfl, by rw [hU], by rw [hU]; exact hPc, kk_mv hW hK, hDw⟩⟩ rfl rfl hl.1 rfl (lv_room (Nat.le_of_ble_eq_true rfl)) dX12_wrong_18 ⟨Nat.le_of_ble_eq_true rfl, Nat.le_of_ble_eq_true rfl⟩) hS (fun q _ h => hFc q h) hFc (fun r_4 u t H locs ht hvm hw hB hz1 hk1 hS => ?_)
      have hP : va_P D vwCl _ H := ro_keep hP hk1
      rcases hw with ⟨w_5, e_⟩ | ⟨w_5, e_⟩
      · have e_ := e_.symm
        subst e_
        refine lv_if_ne (tgt := 26) hx hb dX12_wrong_21 (by decide) (fun c_6 => ?_) (fun c_6 => ?_)
        · have _ := c_6
          refine lv_aload_n hx hb dX12_wrong_26 rfl (lv_at hl 0 rfl) ?_
          refine va_get (ci := 12) (v := .ref g15) (C := RX12) (T := TX12) (N := 34) hx hb hts (fun _ h => List.mem_cons_of_mem _ (List.mem_append_right _ h)) hown hK.1 hP 0 rfl rfl 15 (by decide) (hts (.fieldLink RX12 38 "CutAtlasModel" "hasMap" "[Z") (by decide +kernel)) (fun _ h9 => h9) rfl dX12_wrong_27 ?_
          refine lv_iload_n hx hb dX12_wrong_30 rfl (lv_at hl 1 rfl) ?_
          have h_7 : vp_in a1 4 := in_I (by omega) (by omega)
          refine va_zald hx hb hK.1 hP 1 2 rfl rfl (i := a1) h_7 dX12_wrong_31 ?_
          refine lv_topi (fun y_8 ey_8 => ?_)
          have ky_8 : y_8.toInt = (f15 a1.toNatClampNeg).toInt := by rw [ey_8]
          refine lv_if_ne (tgt := 38) hx hb dX12_wrong_32 (by decide) (fun c_9 => ?_) (fun c_9 => ?_)
          · have t_9 : ¬ y_8.toInt = (0 : Int32).toInt := fun h => c_9 (Int32.toInt_inj.mp h)
            refine lv_aload_n hx hb dX12_wrong_38 rfl (lv_at hl 0 rfl) ?_
            refine va_get (ci := 12) (v := .ref g16) (C := RX12) (T := TX12) (N := 34) hx hb hts (fun _ h => List.mem_cons_of_mem _ (List.mem_append_right _ h)) hown hK.1 hP 0 rfl rfl 16 (by decide) (hts (.fieldLink RX12 41 "CutAtlasModel" "mapKind" "[I") (by decide +kernel)) (fun _ h9 => h9) rfl dX12_wrong_39 ?_
            refine lv_iload_n hx hb dX12_wrong_42 rfl (lv_at hl 1 rfl) ?_
            have h_10 : vp_in a1 4 := in_I (by omega) (by omega)
            refine va_iald hx hb hK.1 hP 2 0 rfl rfl (i := a1) h_10 dX12_wrong_43 ?_
            refine lv_topi (fun y_11 ey_11 => ?_)
            have ky_11 : y_11.toInt = (f16 a1.toNatClampNeg).toInt := by rw [ey_11]
            refine lv_iload_n hx hb dX12_wrong_44 rfl (lv_at hl 2 rfl) ?_
            refine lv_icmp_eq (tgt := 51) hx hb dX12_wrong_45 (by decide) (fun c_12 => ?_) (fun c_12 => ?_)
            · have t_12 : y_11.toInt = a2.toInt := congrArg Int32.toInt c_12
              refine lv_iload_n hx hb dX12_wrong_51 rfl (lv_at hl 3 rfl) ?_
              refine lv_i2l (v := a3.toInt64) hx hb dX12_wrong_52 rfl ?_
              have q_52 : (a3.toInt64).toInt = a3.toInt := Int32.toInt_toInt64 a3
              refine lv_lconst (v := 0) hx hb dX12_wrong_53 (by decide) ?_
              refine lv_aload_n hx hb dX12_wrong_54 rfl (lv_at hl 0 rfl) ?_
              refine va_get (ci := 12) (v := .ref g17) (C := RX12) (T := TX12) (N := 34) hx hb hts (fun _ h => List.mem_cons_of_mem _ (List.mem_append_right _ h)) hown hK.1 hP 0 rfl rfl 17 (by decide) (hts (.fieldLink RX12 44 "CutAtlasModel" "mapRows" "[I") (by decide +kernel)) (fun _ h9 => h9) rfl dX12_wrong_55 ?_
              refine lv_iload_n hx hb dX12_wrong_58 rfl (lv_at hl 1 rfl) ?_
              have h_13 : vp_in a1 4 := in_I (by omega) (by omega)
              refine va_iald hx hb hK.1 hP 3 0 rfl rfl (i := a1) h_13 dX12_wrong_59 ?_
              refine lv_topi (fun y_14 ey_14 => ?_)
              have ky_14 : y_14.toInt = (f17 a1.toNatClampNeg).toInt := by rw [ey_14]
              have ry_14 : 0 ≤ y_14.toInt ∧ y_14.toInt ≤ 6 := by rw [ey_14]; exact r_f17 _ (in_lt h_13)
              refine lv_iconst (v := 1) hx hb dX12_wrong_60 (by decide) ?_
              refine lv_isub hx hb dX12_wrong_61 ?_
              refine lv_topi (fun y_15 ey_15 => ?_)
              have ty_15 : y_15.toInt = y_14.toInt - (1 : Int32).toInt := by rw [ey_15]; exact subI (by omega) (by omega)
              refine lv_i2l (v := y_15.toInt64) hx hb dX12_wrong_62 rfl ?_
              have q_62 : (y_15.toInt64).toInt = y_15.toInt := Int32.toInt_toInt64 y_15
              refine ct_R hP hD0 [] [] (by decide) rfl (fun hPc hDw => ?_)
              have hFc := va_free (wc := []) hD hS hA [] rfl
              refine va_calli (va_runS (As := [.long a3.toInt64, .long 0, .long y_15.toInt64]) (rest := []) ⟨hx, hb, hml, hown, hts⟩ (c_X12_in l D cy H.size a3.toInt64 (0 : Int64) y_15.toInt64) (va_cwS 3 hts gX12_wrong_X12_in rfl rfl rfl (by decide +kernel) ⟨Nat.le_of_ble_eq_true rfl, Nat.le_of_ble_eq_true rfl⟩) ⟨bl_, fun U hU hW => ⟨rfl, by rw [hU], by rw [hU]; exact hPc, kk_mv hW hK, hDw⟩⟩ rfl rfl hl.1 rfl (lv_room (Nat.le_of_ble_eq_true rfl)) dX12_wrong_63 ⟨Nat.le_of_ble_eq_true rfl, Nat.le_of_ble_eq_true rfl⟩) hS (fun q _ h => hFc q h) hFc (fun r_16 u t H locs ht hvm hw hB hz1 hk1 hS => ?_)
              have hP : va_P D vwCl _ H := ro_keep hP hk1
              rcases hw with ⟨w_17, e_⟩ | ⟨w_17, e_⟩
              · have e_ := e_.symm
                subst e_
                refine lv_if_ne (tgt := 72) hx hb dX12_wrong_66 (by decide) (fun c_18 => ?_) (fun c_18 => ?_)
                · have _ := c_18
                  refine lv_aload_n hx hb dX12_wrong_72 rfl (lv_at hl 0 rfl) ?_
                  refine va_get (ci := 12) (v := .ref g18) (C := RX12) (T := TX12) (N := 34) hx hb hts (fun _ h => List.mem_cons_of_mem _ (List.mem_append_right _ h)) hown hK.1 hP 0 rfl rfl 18 (by decide) (hts (.fieldLink RX12 47 "CutAtlasModel" "rowSize" "[I") (by decide +kernel)) (fun _ h9 => h9) rfl dX12_wrong_73 ?_
                  refine lv_bipush (v := 6) hx hb dX12_wrong_76 (by decide) ?_
                  refine lv_iload_n hx hb dX12_wrong_78 rfl (lv_at hl 1 rfl) ?_
                  refine lv_imul hx hb dX12_wrong_79 ?_
                  refine lv_topi (fun y_19 ey_19 => ?_)
                  have ty_19 : y_19.toInt = 6 * a1.toInt := by rw [ey_19]; exact mulC (by decide) (by omega) (by omega)
                  refine lv_iload_n hx hb dX12_wrong_80 rfl (lv_at hl 3 rfl) ?_
                  refine lv_iadd hx hb dX12_wrong_81 ?_
                  refine lv_topi (fun y_20 ey_20 => ?_)
                  have ty_20 : y_20.toInt = y_19.toInt + a3.toInt := by rw [ey_20]; exact addI (by omega) (by omega)
                  have hix_ : y_20.toNatClampNeg = (6 * a1.toInt + a3.toInt).toNat := ixn (by omega)
                  have hlo_ := hlk y_20.toNatClampNeg (by rw [hix_]; omega)
                  have h_21 : vp_in y_20 24 := in_I (by omega) (by omega)
                  refine va_iald hx hb hK.1 hP 4 0 rfl rfl (i := y_20) h_21 dX12_wrong_82 ?_
                  refine lv_topi (fun y_22 ey_22 => ?_)
                  have ky_22 : y_22.toInt = (f18 y_20.toNatClampNeg).toInt := by rw [ey_22]
                  have ry_22 : -9 ≤ y_22.toInt ∧ y_22.toInt ≤ 5 := by rw [ey_22]; exact r_f18 _ (in_lt h_21)
                  have k18_ : y_22.toInt = (f18 (6 * a1.toInt + a3.toInt).toNat).toInt := by rw [ey_22, hix_]
                  refine lv_istore (lv' := [(5, .int y_22), (0, .ref mo), (1, .int a1), (2, .int a2), (3, .int a3), (4, .int a4)]) hx hb dX12_wrong_83 hl (by decide) rfl (fun ls hl => ?_)
                  refine lv_iload hx hb dX12_wrong_85 (lv_at hl 0 rfl) ?_
                  refine lv_bipush (v := (-9)) hx hb dX12_wrong_87 (by decide) ?_
                  refine lv_icmp_ne (tgt := 97) hx hb dX12_wrong_89 (by decide) (fun c_23 => ?_) (fun c_23 => ?_)
                  · have t_23 : ¬ y_22.toInt = ((-9) : Int32).toInt := fun h => c_23 (Int32.toInt_inj.mp h)
                    refine lv_iload hx hb dX12_wrong_97 (lv_at hl 5 rfl) ?_
                    refine lv_i2l (v := a4.toInt64) hx hb dX12_wrong_99 rfl ?_
                    have q_99 : (a4.toInt64).toInt = a4.toInt := Int32.toInt_toInt64 a4
                    refine lv_lconst (v := 0) hx hb dX12_wrong_100 (by decide) ?_
                    refine lv_iload hx hb dX12_wrong_101 (lv_at hl 0 rfl) ?_
                    refine lv_iconst (v := 1) hx hb dX12_wrong_103 (by decide) ?_
                    refine lv_isub hx hb dX12_wrong_104 ?_
                    refine lv_topi (fun y_24 ey_24 => ?_)
                    have ty_24 : y_24.toInt = y_22.toInt - (1 : Int32).toInt := by rw [ey_24]; exact subI (by omega) (by omega)
                    refine lv_i2l (v := y_24.toInt64) hx hb dX12_wrong_105 rfl ?_
                    have q_105 : (y_24.toInt64).toInt = y_24.toInt := Int32.toInt_toInt64 y_24
                    refine ct_R hP hD0 [] [] (by decide) rfl (fun hPc hDw => ?_)
                    have hFc := va_free (wc := []) hD hS hA [] rfl
                    refine va_calli (va_runS (As := [.long a4.toInt64, .long 0, .long y_24.toInt64]) (rest := []) ⟨hx, hb, hml, hown, hts⟩ (c_X12_in l D cy H.size a4.toInt64 (0 : Int64) y_24.toInt64) (va_cwS 3 hts gX12_wrong_X12_in rfl rfl rfl (by decide +kernel) ⟨Nat.le_of_ble_eq_true rfl, Nat.le_of_ble_eq_true rfl⟩) ⟨bl_, fun U hU hW => ⟨rfl, by rw [hU], by rw [hU]; exact hPc, kk_mv hW hK, hDw⟩⟩ rfl rfl hl.1 rfl (lv_room (Nat.le_of_ble_eq_true rfl)) dX12_wrong_106 ⟨Nat.le_of_ble_eq_true rfl, Nat.le_of_ble_eq_true rfl⟩) hS (fun q _ h => hFc q h) hFc (fun r_25 u t H locs ht hvm hw hB hz1 hk1 hS => ?_)
                    have hP : va_P D vwCl _ H := ro_keep hP hk1
                    rcases hw with ⟨w_26, e_⟩ | ⟨w_26, e_⟩
                    · have e_ := e_.symm
                      subst e_
                      refine lv_if_ne (tgt := 117) hx hb dX12_wrong_109 (by decide) (fun c_27 => ?_) (fun c_27 => ?_)
                      · have _ := c_27
                        refine lv_iconst (v := 0) hx hb dX12_wrong_117 (by decide) ?_
                        rw [hQ]
                        exact W.iret (v := 0) hx hb hr (fun t ht hW => ⟨⟨0, (), rfl, ⟨by unfold wrgI; (repeat' (first | with_reducible exact if_p (by omega) (by omega) | with_reducible exact if_ps (by omega) (by omega) | with_reducible exact if_pz (by omega) (by omega) | with_reducible refine if_n (by omega) ?_ | with_reducible refine if_ns (by omega) ?_ | with_reducible refine if_nz (by omega) ?_)) <;> omega, by omega⟩, trivial⟩, hS.F ht⟩) hS.2.2 dX12_wrong_118
                      · exact absurd c_27 (by decide)
                    · have e_ := e_.symm
                      subst e_
                      refine lv_if_ne (tgt := 117) hx hb dX12_wrong_109 (by decide) (fun c_28 => ?_) (fun c_28 => ?_)
                      · exact absurd c_28 (by decide)
                      · have _ := c_28
                        refine lv_bipush (v := (-12)) hx hb dX12_wrong_112 (by decide) ?_
                        refine lv_goto (tgt := 118) hx hb dX12_wrong_114 (by decide) ?_
                        rw [hQ]
                        exact W.iret (v := (-12)) hx hb hr (fun t ht hW => ⟨⟨(-12), (), rfl, ⟨by unfold wrgI; (repeat' (first | with_reducible exact if_p (by omega) (by omega) | with_reducible exact if_ps (by omega) (by omega) | with_reducible exact if_pz (by omega) (by omega) | with_reducible refine if_n (by omega) ?_ | with_reducible refine if_ns (by omega) ?_ | with_reducible refine if_nz (by omega) ?_)) <;> omega, by omega⟩, trivial⟩, hS.F ht⟩) hS.2.2 dX12_wrong_118
                  · have t_23 : y_22.toInt = ((-9) : Int32).toInt := congrArg Int32.toInt c_23
                    refine lv_bipush (v := (-11)) hx hb dX12_wrong_92 (by decide) ?_
                    refine lv_goto (tgt := 118) hx hb dX12_wrong_94 (by decide) ?_
                    rw [hQ]
                    exact W.iret (v := (-11)) hx hb hr (fun t ht hW => ⟨⟨(-11), (), rfl, ⟨by unfold wrgI; (repeat' (first | with_reducible exact if_p (by omega) (by omega) | with_reducible exact if_ps (by omega) (by omega) | with_reducible exact if_pz (by omega) (by omega) | with_reducible refine if_n (by omega) ?_ | with_reducible refine if_ns (by omega) ?_ | with_reducible refine if_nz (by omega) ?_)) <;> omega, by omega⟩, trivial⟩, hS.F ht⟩) hS.2.2 dX12_wrong_118
                · exact absurd c_18 (by decide)
              · have e_ := e_.symm
                subst e_
                refine lv_if_ne (tgt := 72) hx hb dX12_wrong_66 (by decide) (fun c_29 => ?_) (fun c_29 => ?_)
                · exact absurd c_29 (by decide)
                · have _ := c_29
                  refine lv_bipush (v := (-12)) hx hb dX12_wrong_69 (by decide) ?_
                  rw [hQ]
                  exact W.iret (v := (-12)) hx hb hr (fun t ht hW => ⟨⟨(-12), (), rfl, ⟨by unfold wrgI; (repeat' (first | with_reducible exact if_p (by omega) (by omega) | with_reducible exact if_ps (by omega) (by omega) | with_reducible exact if_pz (by omega) (by omega) | with_reducible refine if_n (by omega) ?_ | with_reducible refine if_ns (by omega) ?_ | with_reducible refine if_nz (by omega) ?_)) <;> omega, by omega⟩, trivial⟩, hS.F ht⟩) hS.2.2 dX12_wrong_71
            · have t_12 : ¬ y_11.toInt = a2.toInt := fun h => c_12 (Int32.toInt_inj.mp h)
              refine lv_bipush (v := (-13)) hx hb dX12_wrong_48 (by decide) ?_
              rw [hQ]
              exact W.iret (v := (-13)) hx hb hr (fun t ht hW => ⟨⟨(-13), (), rfl, ⟨by unfold wrgI; (repeat' (first | with_reducible exact if_p (by omega) (by omega) | with_reducible exact if_ps (by omega) (by omega) | with_reducible exact if_pz (by omega) (by omega) | with_reducible refine if_n (by omega) ?_ | with_reducible refine if_ns (by omega) ?_ | with_reducible refine if_nz (by omega) ?_)) <;> omega, by omega⟩, trivial⟩, hS.F ht⟩) hS.2.2 dX12_wrong_50
          · have t_9 : y_8.toInt = (0 : Int32).toInt := congrArg Int32.toInt c_9
            refine lv_bipush (v := (-11)) hx hb dX12_wrong_35 (by decide) ?_
            rw [hQ]
            exact W.iret (v := (-11)) hx hb hr (fun t ht hW => ⟨⟨(-11), (), rfl, ⟨by unfold wrgI; (repeat' (first | with_reducible exact if_p (by omega) (by omega) | with_reducible exact if_ps (by omega) (by omega) | with_reducible exact if_pz (by omega) (by omega) | with_reducible refine if_n (by omega) ?_ | with_reducible refine if_ns (by omega) ?_ | with_reducible refine if_nz (by omega) ?_)) <;> omega, by omega⟩, trivial⟩, hS.F ht⟩) hS.2.2 dX12_wrong_37
        · exact absurd c_6 (by decide)
      · have e_ := e_.symm
        subst e_
        refine lv_if_ne (tgt := 26) hx hb dX12_wrong_21 (by decide) (fun c_30 => ?_) (fun c_30 => ?_)
        · exact absurd c_30 (by decide)
        · have _ := c_30
          refine lv_iconst (v := (-1)) hx hb dX12_wrong_24 (by decide) ?_
          rw [hQ]
          exact W.iret (v := (-1)) hx hb hr (fun t ht hW => ⟨⟨(-1), (), rfl, ⟨by unfold wrgI; (repeat' (first | with_reducible exact if_p (by omega) (by omega) | with_reducible exact if_ps (by omega) (by omega) | with_reducible exact if_pz (by omega) (by omega) | with_reducible refine if_n (by omega) ?_ | with_reducible refine if_ns (by omega) ?_ | with_reducible refine if_nz (by omega) ?_)) <;> omega, by omega⟩, trivial⟩, hS.F ht⟩) hS.2.2 dX12_wrong_25
  · have e_ := e_.symm
    subst e_
    refine lv_if_eq (tgt := 24) hx hb dX12_wrong_9 (by decide) (fun c_31 => ?_) (fun c_31 => ?_)
    · have _ := c_31
      refine lv_iconst (v := (-1)) hx hb dX12_wrong_24 (by decide) ?_
      rw [hQ]
      exact W.iret (v := (-1)) hx hb hr (fun t ht hW => ⟨⟨(-1), (), rfl, ⟨by unfold wrgI; (repeat' (first | with_reducible exact if_p (by omega) (by omega) | with_reducible exact if_ps (by omega) (by omega) | with_reducible exact if_pz (by omega) (by omega) | with_reducible refine if_n (by omega) ?_ | with_reducible refine if_ns (by omega) ?_ | with_reducible refine if_nz (by omega) ?_)) <;> omega, by omega⟩, trivial⟩, hS.F ht⟩) hS.2.2 dX12_wrong_25
    · exact absurd c_31 (by decide)
