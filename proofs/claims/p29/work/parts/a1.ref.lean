section
set_option maxHeartbeats 4000000 in
set_option maxRecDepth 100000 in
theorem c_X12_read2 (l : Launch) (D : va_G) (cy : Nat → ClassId) (sz : Nat) (mo : Nat) (g5 : Nat) (g6 : Nat) (g7 : Nat) (g8 : Nat) (g9 : Nat) (g10 : Nat) (g12 : Nat) (g13 : Nat) (g14 : Nat) (g15 : Nat) (g16 : Nat) (g17 : Nat) (g18 : Nat) (g19 : Nat) (g20 : Nat) (g22 : Nat) (g23 : Nat) (g24 : Nat) (g29 : Nat) (g30 : Nat) (g31 : Nat) (g32 : Nat) (g33 : Nat) (s0 : Int32) (s1 : Int32) (s3 : Int32) (s4 : Int32) (s11 : Int32) (s21 : Int32) (s25 : Int32) (s26 : Int32) (s27 : Int32) (s28 : Int32) (t2 : Int64) (f5 : Nat → Int32) (f6 : Nat → Int32) (f7 : Nat → Int32) (f8 : Nat → Int32) (f9 : Nat → Int32) (f10 : Nat → Int32) (f12 : Nat → Int32) (f13 : Nat → Int32) (f14 : Nat → Int32) (f15 : Nat → Int32) (f17 : Nat → Int32) (f18 : Nat → Int32) (f19 : Nat → Int64) (a1 : Int32) (hN : 0 ≤ s4.toInt ∧ s4.toInt ≤ 40) (hPl : 0 ≤ s3.toInt ∧ s3.toInt ≤ 12) (hU : 0 ≤ s11.toInt ∧ s11.toInt ≤ 30) (hnet : netE s3.toInt s4.toInt f6 f7 f10) (hpast : pastE s11.toInt f12 f13 f14) (r_f6 : rng f6 40 (0) (11)) (r_f7 : rng f7 40 (0) (11)) (r_f8 : rng f8 40 (0) (2000)) (r_f9 : rng f9 40 (0) (100)) (r_f12 : rng f12 30 (0) (12)) (r_f13 : rng f13 30 (0) (40)) (r_f17 : rng f17 4 (0) (6)) (r_f18 : rng f18 24 (-9) (5)) (r_f14 : orng f14 6000) : Met l yX12_read wsX12_read ({ frames := 2, cells := 0, slots := 0, locals := 56 }) (va_Pc [.ref mo, .int a1] (fun U => U.heap.size = sz ∧ va_P D vwCl [(mo, .inr (12, [.int s0, .int s1, .long t2, .int s3, .int s4, .ref g5, .ref g6, .ref g7, .ref g8, .ref g9, .ref g10, .int s11, .ref g12, .ref g13, .ref g14, .ref g15, .ref g16, .ref g17, .ref g18, .ref g19, .ref g20, .int s21, .ref g22, .ref g23, .ref g24, .int s25, .int s26, .int s27, .int s28, .ref g29, .ref g30, .ref g31, .ref g32, .ref g33])), (g5, .inl (cy 0, 40, .inl f5)), (g6, .inl (cy 0, 40, .inl f6)), (g7, .inl (cy 0, 40, .inl f7)), (g8, .inl (cy 0, 40, .inl f8)), (g9, .inl (cy 0, 40, .inl f9)), (g10, .inl (cy 2, 40, .inl f10)), (g12, .inl (cy 0, 30, .inl f12)), (g13, .inl (cy 0, 30, .inl f13)), (g14, .inl (cy 0, 6000, .inl f14)), (g15, .inl (cy 2, 4, .inl f15)), (g17, .inl (cy 0, 4, .inl f17)), (g18, .inl (cy 0, 24, .inl f18)), (g19, .inl (cy 1, 120, .inr (.inl f19)))] U.heap ∧ kk_ D cy U ∧ va_D (fun _ => True) [(mo, .inr (12, [.int s0, .int s1, .long t2, .int s3, .int s4, .ref g5, .ref g6, .ref g7, .ref g8, .ref g9, .ref g10, .int s11, .ref g12, .ref g13, .ref g14, .ref g15, .ref g16, .ref g17, .ref g18, .ref g19, .ref g20, .int s21, .ref g22, .ref g23, .ref g24, .int s25, .int s26, .int s27, .int s28, .ref g29, .ref g30, .ref g31, .ref g32, .ref g33])), (g5, .inl (cy 0, 40, .inl f5)), (g6, .inl (cy 0, 40, .inl f6)), (g7, .inl (cy 0, 40, .inl f7)), (g8, .inl (cy 0, 40, .inl f8)), (g9, .inl (cy 0, 40, .inl f9)), (g10, .inl (cy 2, 40, .inl f10)), (g12, .inl (cy 0, 30, .inl f12)), (g13, .inl (cy 0, 30, .inl f13)), (g14, .inl (cy 0, 6000, .inl f14)), (g15, .inl (cy 2, 4, .inl f15)), (g17, .inl (cy 0, 4, .inl f17)), (g18, .inl (cy 0, 24, .inl f18)), (g19, .inl (cy 1, 120, .inr (.inl f19)))])) (va_Qi (fun (r : Int32) (_ : Unit) => True) (fun (_ : Unit) (t : State) => ∃ (n1 : Int32), ∃ (n2 : Int64), ∃ (n4 : Int32), ∃ (n11 : Int32), ∃ (e5 : Nat → Int32), ∃ (e6 : Nat → Int32), ∃ (e7 : Nat → Int32), ∃ (e8 : Nat → Int32), ∃ (e9 : Nat → Int32), ∃ (e10 : Nat → Int32), ∃ (e12 : Nat → Int32), ∃ (e13 : Nat → Int32), ∃ (e14 : Nat → Int32), (0 ≤ n4.toInt ∧ n4.toInt ≤ 40) ∧ (0 ≤ n11.toInt ∧ n11.toInt ≤ 30) ∧ (netE s3.toInt n4.toInt e6 e7 e10) ∧ (pastE n11.toInt e12 e13 e14) ∧ (rng e6 40 (0) (11)) ∧ (rng e7 40 (0) (11)) ∧ (rng e8 40 (0) (2000)) ∧ (rng e9 40 (0) (100)) ∧ (rng e12 30 (0) (12)) ∧ (rng e13 30 (0) (40)) ∧ (orng e14 6000) ∧ va_P D vwCl [(mo, .inr (12, [.int 0, .int n1, .long n2, .int s3, .int n4, .ref g5, .ref g6, .ref g7, .ref g8, .ref g9, .ref g10, .int n11, .ref g12, .ref g13, .ref g14, .ref g15, .ref g16, .ref g17, .ref g18, .ref g19, .ref g20, .int s21, .ref g22, .ref g23, .ref g24, .int s25, .int s26, .int s27, .int s28, .ref g29, .ref g30, .ref g31, .ref g32, .ref g33])), (g5, .inl (cy 0, 40, .inl e5)), (g6, .inl (cy 0, 40, .inl e6)), (g7, .inl (cy 0, 40, .inl e7)), (g8, .inl (cy 0, 40, .inl e8)), (g9, .inl (cy 0, 40, .inl e9)), (g10, .inl (cy 2, 40, .inl e10)), (g12, .inl (cy 0, 30, .inl e12)), (g13, .inl (cy 0, 30, .inl e13)), (g14, .inl (cy 0, 6000, .inl e14)), (g15, .inl (cy 2, 4, .inl f15)), (g17, .inl (cy 0, 4, .inl f17)), (g18, .inl (cy 0, 24, .inl f18)), (g19, .inl (cy 1, 120, .inr (.inl f19)))] t.heap ∧ va_D (va_A [(mo, .inr (12, [.int s0, .int s1, .long t2, .int s3, .int s4, .ref g5, .ref g6, .ref g7, .ref g8, .ref g9, .ref g10, .int s11, .ref g12, .ref g13, .ref g14, .ref g15, .ref g16, .ref g17, .ref g18, .ref g19, .ref g20, .int s21, .ref g22, .ref g23, .ref g24, .int s25, .int s26, .int s27, .int s28, .ref g29, .ref g30, .ref g31, .ref g32, .ref g33])), (g5, .inl (cy 0, 40, .inl f5)), (g6, .inl (cy 0, 40, .inl f6)), (g7, .inl (cy 0, 40, .inl f7)), (g8, .inl (cy 0, 40, .inl f8)), (g9, .inl (cy 0, 40, .inl f9)), (g10, .inl (cy 2, 40, .inl f10)), (g12, .inl (cy 0, 30, .inl f12)), (g13, .inl (cy 0, 30, .inl f13)), (g14, .inl (cy 0, 6000, .inl f14)), (g15, .inl (cy 2, 4, .inl f15)), (g17, .inl (cy 0, 4, .inl f17)), (g18, .inl (cy 0, 24, .inl f18)), (g19, .inl (cy 1, 120, .inr (.inl f19)))] sz) [(mo, .inr (12, [.int 0, .int n1, .long n2, .int s3, .int n4, .ref g5, .ref g6, .ref g7, .ref g8, .ref g9, .ref g10, .int n11, .ref g12, .ref g13, .ref g14, .ref g15, .ref g16, .ref g17, .ref g18, .ref g19, .ref g20, .int s21, .ref g22, .ref g23, .ref g24, .int s25, .int s26, .int s27, .int s28, .ref g29, .ref g30, .ref g31, .ref g32, .ref g33])), (g5, .inl (cy 0, 40, .inl e5)), (g6, .inl (cy 0, 40, .inl e6)), (g7, .inl (cy 0, 40, .inl e7)), (g8, .inl (cy 0, 40, .inl e8)), (g9, .inl (cy 0, 40, .inl e9)), (g10, .inl (cy 2, 40, .inl e10)), (g12, .inl (cy 0, 30, .inl e12)), (g13, .inl (cy 0, 30, .inl e13)), (g14, .inl (cy 0, 6000, .inl e14)), (g15, .inl (cy 2, 4, .inl f15)), (g17, .inl (cy 0, 4, .inl f17)), (g18, .inl (cy 0, 24, .inl f18)), (g19, .inl (cy 1, 120, .inr (.inl f19)))]) (va_A [(mo, .inr (12, [.int s0, .int s1, .long t2, .int s3, .int s4, .ref g5, .ref g6, .ref g7, .ref g8, .ref g9, .ref g10, .int s11, .ref g12, .ref g13, .ref g14, .ref g15, .ref g16, .ref g17, .ref g18, .ref g19, .ref g20, .int s21, .ref g22, .ref g23, .ref g24, .int s25, .int s26, .int s27, .int s28, .ref g29, .ref g30, .ref g31, .ref g32, .ref g33])), (g5, .inl (cy 0, 40, .inl f5)), (g6, .inl (cy 0, 40, .inl f6)), (g7, .inl (cy 0, 40, .inl f7)), (g8, .inl (cy 0, 40, .inl f8)), (g9, .inl (cy 0, 40, .inl f9)), (g10, .inl (cy 2, 40, .inl f10)), (g12, .inl (cy 0, 30, .inl f12)), (g13, .inl (cy 0, 30, .inl f13)), (g14, .inl (cy 0, 6000, .inl f14)), (g15, .inl (cy 2, 4, .inl f15)), (g17, .inl (cy 0, 4, .inl f17)), (g18, .inl (cy 0, 24, .inl f18)), (g19, .inl (cy 1, 120, .inr (.inl f19)))] sz)) 0 0 (va_A [(mo, .inr (12, [.int s0, .int s1, .long t2, .int s3, .int s4, .ref g5, .ref g6, .ref g7, .ref g8, .ref g9, .ref g10, .int s11, .ref g12, .ref g13, .ref g14, .ref g15, .ref g16, .ref g17, .ref g18, .ref g19, .ref g20, .int s21, .ref g22, .ref g23, .ref g24, .int s25, .int s26, .int s27, .int s28, .ref g29, .ref g30, .ref g31, .ref g32, .ref g33])), (g5, .inl (cy 0, 40, .inl f5)), (g6, .inl (cy 0, 40, .inl f6)), (g7, .inl (cy 0, 40, .inl f7)), (g8, .inl (cy 0, 40, .inl f8)), (g9, .inl (cy 0, 40, .inl f9)), (g10, .inl (cy 2, 40, .inl f10)), (g12, .inl (cy 0, 30, .inl f12)), (g13, .inl (cy 0, 30, .inl f13)), (g14, .inl (cy 0, 6000, .inl f14)), (g15, .inl (cy 2, 4, .inl f15)), (g17, .inl (cy 0, 4, .inl f17)), (g18, .inl (cy 0, 24, .inl f18)), (g19, .inl (cy 1, 120, .inr (.inl f19)))] sz) := by
  refine ofQ (cc := cX12_read) (maxL := 7) (ret := (some .int)) (by decide) rfl ?_
  intro p e s m args below meth c s₁ Q hQ B hml hv
  obtain ⟨rfl, hsz, hP, hK, hD0⟩ := hv
  have hx := B.exec
  have hb := B.bytes
  have hr := B.returns
  have hts := atoms_spec (ws := wsX12_read) B.pre
  have hown : s.vm.findClass RX12 = some m.cls := by have h_ := findClass_of_methodNamed B.named; exact h_
  have hlocks := B.notSynchronized
  subst hsz
  have hD := hD0.self (sz := s.heap.size)
  generalize hAe : va_A [(mo, .inr (12, [.int s0, .int s1, .long t2, .int s3, .int s4, .ref g5, .ref g6, .ref g7, .ref g8, .ref g9, .ref g10, .int s11, .ref g12, .ref g13, .ref g14, .ref g15, .ref g16, .ref g17, .ref g18, .ref g19, .ref g20, .int s21, .ref g22, .ref g23, .ref g24, .int s25, .int s26, .int s27, .int s28, .ref g29, .ref g30, .ref g31, .ref g32, .ref g33])), (g5, .inl (cy 0, 40, .inl f5)), (g6, .inl (cy 0, 40, .inl f6)), (g7, .inl (cy 0, 40, .inl f7)), (g8, .inl (cy 0, 40, .inl f8)), (g9, .inl (cy 0, 40, .inl f9)), (g10, .inl (cy 2, 40, .inl f10)), (g12, .inl (cy 0, 30, .inl f12)), (g13, .inl (cy 0, 30, .inl f13)), (g14, .inl (cy 0, 6000, .inl f14)), (g15, .inl (cy 2, 4, .inl f15)), (g17, .inl (cy 0, 4, .inl f17)), (g18, .inl (cy 0, 24, .inl f18)), (g19, .inl (cy 1, 120, .inr (.inl f19)))] s.heap.size = A at hD hQ
  have hA : ∀ q : Nat, s.heap.size ≤ q → A q := fun q h => by rw [← hAe]; exact Or.inr h
  have hS : va_S A s.heap s.heap [] := va_S.rf
  have hl := lv_entry ([.ref mo, .int a1]) (n := 7) (Nat.le_of_ble_eq_true rfl)
  rw [lg_entry_eq]
  generalize (lg_sl ([.ref mo, .int a1]) ++ List.replicate (7 - (lg_sl ([.ref mo, .int a1])).length) Slot.unset).toArray = ls at hl ⊢
  have hl : lv_has ls 7 [(0, .ref mo), (1, .int a1)] := hl
  have zm12 : ((-12) : Int32).toInt = -12 := by decide
  have zm11 : ((-11) : Int32).toInt = -11 := by decide
  have zm9 : ((-9) : Int32).toInt = -9 := by decide
  have zm3 : ((-3) : Int32).toInt = -3 := by decide
  have zm1 : ((-1) : Int32).toInt = -1 := by decide
  have z0 : (0 : Int32).toInt = 0 := by decide
  have zl0 : (0 : Int64).toInt = 0 := by decide
  have z1 : (1 : Int32).toInt = 1 := by decide
  have z2 : (2 : Int32).toInt = 2 := by decide
  have z3 : (3 : Int32).toInt = 3 := by decide
  have zl3 : (3 : Int64).toInt = 3 := by decide
  have z4 : (4 : Int32).toInt = 4 := by decide
  have z5 : (5 : Int32).toInt = 5 := by decide
  have z6 : (6 : Int32).toInt = 6 := by decide
  have z30 : (30 : Int32).toInt = 30 := by decide
  refine lv_aload_n hx hb dX12_read_0 rfl (lv_at hl 0 rfl) ?_
  refine lv_iconst (v := 0) hx hb dX12_read_1 (by decide) ?_
  refine va_put (ci := 12) (v := .int 0) (ty := .int) (C := RX12) (T := TX12) (N := 34) hx hb hts (fun _ h => List.mem_cons_of_mem _ (List.mem_append_right _ h)) tyX12 tyX12_ok nmX12 hown hK.1 hP hD hS 0 rfl rfl 0 (by decide) (hts (.fieldLink RX12 85 "CutAtlasModel" "thrown" "I") (by decide +kernel)) (fun _ h9 => h9) rfl (by decide +kernel) rfl rfl (Nat.le_of_ble_eq_true rfl) dX12_read_2 (fun H locs hP hD hS => ?_)
  refine pd_K [(mo, .inr (12, [.int 0, .int s1, .long t2, .int s3, .int s4, .ref g5, .ref g6, .ref g7, .ref g8, .ref g9, .ref g10, .int s11, .ref g12, .ref g13, .ref g14, .ref g15, .ref g16, .ref g17, .ref g18, .ref g19, .ref g20, .int s21, .ref g22, .ref g23, .ref g24, .int s25, .int s26, .int s27, .int s28, .ref g29, .ref g30, .ref g31, .ref g32, .ref g33])), (g5, .inl (cy 0, 40, .inl f5)), (g6, .inl (cy 0, 40, .inl f6)), (g7, .inl (cy 0, 40, .inl f7)), (g8, .inl (cy 0, 40, .inl f8)), (g9, .inl (cy 0, 40, .inl f9)), (g10, .inl (cy 2, 40, .inl f10)), (g12, .inl (cy 0, 30, .inl f12)), (g13, .inl (cy 0, 30, .inl f13)), (g14, .inl (cy 0, 6000, .inl f14)), (g15, .inl (cy 2, 4, .inl f15)), (g17, .inl (cy 0, 4, .inl f17)), (g18, .inl (cy 0, 24, .inl f18)), (g19, .inl (cy 1, 120, .inr (.inl f19)))] hP hD (fun hP hD => ?_)
  refine lv_aload_n hx hb dX12_read_5 rfl (lv_at hl 0 rfl) ?_
  refine lv_iconst (v := 0) hx hb dX12_read_6 (by decide) ?_
  refine va_put (ci := 12) (v := .int 0) (ty := .int) (C := RX12) (T := TX12) (N := 34) hx hb hts (fun _ h => List.mem_cons_of_mem _ (List.mem_append_right _ h)) tyX12 tyX12_ok nmX12 hown hK.1 hP hD hS 0 rfl rfl 1 (by decide) (hts (.fieldLink RX12 240 "CutAtlasModel" "status" "I") (by decide +kernel)) (fun _ h9 => h9) rfl (by decide +kernel) rfl rfl (Nat.le_of_ble_eq_true rfl) dX12_read_7 (fun H locs hP hD hS => ?_)
  refine pd_K [(mo, .inr (12, [.int 0, .int 0, .long t2, .int s3, .int s4, .ref g5, .ref g6, .ref g7, .ref g8, .ref g9, .ref g10, .int s11, .ref g12, .ref g13, .ref g14, .ref g15, .ref g16, .ref g17, .ref g18, .ref g19, .ref g20, .int s21, .ref g22, .ref g23, .ref g24, .int s25, .int s26, .int s27, .int s28, .ref g29, .ref g30, .ref g31, .ref g32, .ref g33])), (g5, .inl (cy 0, 40, .inl f5)), (g6, .inl (cy 0, 40, .inl f6)), (g7, .inl (cy 0, 40, .inl f7)), (g8, .inl (cy 0, 40, .inl f8)), (g9, .inl (cy 0, 40, .inl f9)), (g10, .inl (cy 2, 40, .inl f10)), (g12, .inl (cy 0, 30, .inl f12)), (g13, .inl (cy 0, 30, .inl f13)), (g14, .inl (cy 0, 6000, .inl f14)), (g15, .inl (cy 2, 4, .inl f15)), (g17, .inl (cy 0, 4, .inl f17)), (g18, .inl (cy 0, 24, .inl f18)), (g19, .inl (cy 1, 120, .inr (.inl f19)))] hP hD (fun hP hD => ?_)
  refine lv_iload_n hx hb dX12_read_10 rfl (lv_at hl 1 rfl) ?_
  refine lv_i2l (v := a1.toInt64) hx hb dX12_read_11 rfl ?_
  have q_11 : (a1.toInt64).toInt = a1.toInt := Int32.toInt_toInt64 a1
  refine lv_lconst (v := 0) hx hb dX12_read_12 (by decide) ?_
  refine lv_ldc2 (v := 3) hx hb hown (hts (.constantLong RX12 243 (3)) (by decide +kernel)) dX12_read_13 ?_
  refine ct_R hP hD [] [] (by decide) rfl (fun hPc hDw => ?_)
  have hFc := va_free (wc := []) hD hS hA [] rfl
  refine va_calli (va_runS (As := [.long a1.toInt64, .long 0, .long 3]) (rest := []) ⟨hx, hb, hml, hown, hts⟩ (c_X12_in l D cy H.size a1.toInt64 (0 : Int64) (3 : Int64)) (va_cwS 3 hts gX12_read_X12_in rfl rfl rfl (by decide +kernel) ⟨Nat.le_of_ble_eq_true rfl, Nat.le_of_ble_eq_true rfl⟩) ⟨bl_, fun U hU hW => ⟨rfl, by rw [hU], by rw [hU]; exact hPc, kk_mv hW hK, hDw⟩⟩ rfl rfl hl.1 rfl (lv_room (Nat.le_of_ble_eq_true rfl)) dX12_read_16 ⟨Nat.le_of_ble_eq_true rfl, Nat.le_of_ble_eq_true rfl⟩) hS (fun q _ h => hFc q h) hFc (fun r_1 u t H locs ht hvm hw hB hz1 hk1 hS => ?_)
  have hP : va_P D vwCl _ H := ro_keep hP hk1
  rcases hw with ⟨w_2, e_⟩ | ⟨w_2, e_⟩
  · have e_ := e_.symm
    subst e_
    refine lv_if_ne (tgt := 28) hx hb dX12_read_19 (by decide) (fun c_3 => ?_) (fun c_3 => ?_)
    · have _ := c_3
      refine lv_aload_n hx hb dX12_read_28 rfl (lv_at hl 0 rfl) ?_
      refine va_get (ci := 12) (v := .ref g15) (C := RX12) (T := TX12) (N := 34) hx hb hts (fun _ h => List.mem_cons_of_mem _ (List.mem_append_right _ h)) hown hK.1 hP 0 rfl rfl 15 (by decide) (hts (.fieldLink RX12 38 "CutAtlasModel" "hasMap" "[Z") (by decide +kernel)) (fun _ h9 => h9) rfl dX12_read_29 ?_
      refine lv_iload_n hx hb dX12_read_32 rfl (lv_at hl 1 rfl) ?_
      have h_4 : vp_in a1 4 := in_I (by omega) (by omega)
      refine va_zald hx hb hK.1 hP 10 2 rfl rfl (i := a1) h_4 dX12_read_33 ?_
      refine lv_topi (fun y_5 ey_5 => ?_)
      refine lv_if_ne (tgt := 45) hx hb dX12_read_34 (by decide) (fun c_6 => ?_) (fun c_6 => ?_)
      · have t_6 : ¬ y_5.toInt = (0 : Int32).toInt := fun h => c_6 (Int32.toInt_inj.mp h)
        refine lv_iconst (v := 0) hx hb dX12_read_45 (by decide) ?_
        refine lv_istore_n (lv' := [(2, .int 0), (0, .ref mo), (1, .int a1)]) hx hb dX12_read_46 rfl hl (by decide) rfl (fun ls hl => ?_)
        refine lv_iconst (v := 0) hx hb dX12_read_47 (by decide) ?_
        refine lv_istore_n (lv' := [(3, .int 0), (2, .int 0), (0, .ref mo), (1, .int a1)]) hx hb dX12_read_48 rfl hl (by decide) rfl (fun ls hl => ?_)
        suffices LOOP_7 : ∀ (n_7 : Nat) (x3_7 : Int32) (x2_7 : Int32) (o2_7 : Int64) (o4_7 : Int32) (o11_7 : Int32) (c_g5_7 : Nat → Int32) (c_g6_7 : Nat → Int32) (c_g7_7 : Nat → Int32) (c_g8_7 : Nat → Int32) (c_g9_7 : Nat → Int32) (c_g10_7 : Nat → Int32) (c_g12_7 : Nat → Int32) (c_g13_7 : Nat → Int32) (c_g14_7 : Nat → Int32) (H : Heap) (locs : List Loc) (ls : Array Slot), 6 - x3_7.toInt < (n_7 : Int) → (0 ≤ x3_7.toInt) → (x3_7.toInt ≤ 6) → (x2_7.toInt = x3_7.toInt) → (0 ≤ o4_7.toInt ∧ o4_7.toInt ≤ 40) → (0 ≤ o11_7.toInt ∧ o11_7.toInt ≤ 30) → (netE s3.toInt o4_7.toInt c_g6_7 c_g7_7 c_g10_7) → (pastE o11_7.toInt c_g12_7 c_g13_7 c_g14_7) → (rng c_g6_7 40 (0) (11)) → (rng c_g7_7 40 (0) (11)) → (rng c_g8_7 40 (0) (2000)) → (rng c_g9_7 40 (0) (100)) → (rng c_g12_7 30 (0) (12)) → (rng c_g13_7 30 (0) (40)) → (orng c_g14_7 6000) → va_P D vwCl [(mo, .inr (12, [.int 0, .int 0, .long o2_7, .int s3, .int o4_7, .ref g5, .ref g6, .ref g7, .ref g8, .ref g9, .ref g10, .int o11_7, .ref g12, .ref g13, .ref g14, .ref g15, .ref g16, .ref g17, .ref g18, .ref g19, .ref g20, .int s21, .ref g22, .ref g23, .ref g24, .int s25, .int s26, .int s27, .int s28, .ref g29, .ref g30, .ref g31, .ref g32, .ref g33])), (g5, .inl (cy 0, 40, .inl c_g5_7)), (g6, .inl (cy 0, 40, .inl c_g6_7)), (g7, .inl (cy 0, 40, .inl c_g7_7)), (g8, .inl (cy 0, 40, .inl c_g8_7)), (g9, .inl (cy 0, 40, .inl c_g9_7)), (g10, .inl (cy 2, 40, .inl c_g10_7)), (g12, .inl (cy 0, 30, .inl c_g12_7)), (g13, .inl (cy 0, 30, .inl c_g13_7)), (g14, .inl (cy 0, 6000, .inl c_g14_7)), (g15, .inl (cy 2, 4, .inl f15)), (g17, .inl (cy 0, 4, .inl f17)), (g18, .inl (cy 0, 24, .inl f18)), (g19, .inl (cy 1, 120, .inr (.inl f19)))] H → va_D A [(mo, .inr (12, [.int 0, .int 0, .long o2_7, .int s3, .int o4_7, .ref g5, .ref g6, .ref g7, .ref g8, .ref g9, .ref g10, .int o11_7, .ref g12, .ref g13, .ref g14, .ref g15, .ref g16, .ref g17, .ref g18, .ref g19, .ref g20, .int s21, .ref g22, .ref g23, .ref g24, .int s25, .int s26, .int s27, .int s28, .ref g29, .ref g30, .ref g31, .ref g32, .ref g33])), (g5, .inl (cy 0, 40, .inl c_g5_7)), (g6, .inl (cy 0, 40, .inl c_g6_7)), (g7, .inl (cy 0, 40, .inl c_g7_7)), (g8, .inl (cy 0, 40, .inl c_g8_7)), (g9, .inl (cy 0, 40, .inl c_g9_7)), (g10, .inl (cy 2, 40, .inl c_g10_7)), (g12, .inl (cy 0, 30, .inl c_g12_7)), (g13, .inl (cy 0, 30, .inl c_g13_7)), (g14, .inl (cy 0, 6000, .inl c_g14_7)), (g15, .inl (cy 2, 4, .inl f15)), (g17, .inl (cy 0, 4, .inl f17)), (g18, .inl (cy 0, 24, .inl f18)), (g19, .inl (cy 1, 120, .inr (.inl f19)))] → va_S A s.heap H locs → lv_has ls 7 [(3, .int x3_7), (2, .int x2_7), (0, .ref mo), (1, .int a1)] → W p l e ({ frames := 2, cells := 0, slots := 0, locals := 56 } : Room) s m (([.ref mo, .int a1] : List Value).toArray) below meth c H locs 0 0 Q (F0 m 49 ls []) from LOOP_7 ((6 - (0 : Int32).toInt).toNat + 1) (0 : Int32) (0 : Int32) t2 s4 s11 f5 f6 f7 f8 f9 f10 f12 f13 f14 _ _ _ (by omega) (by first | with_reducible assumption | omega | assumption) (by first | with_reducible assumption | omega | assumption) (by first | with_reducible assumption | omega | assumption) (by first | with_reducible assumption | omega | assumption) (by first | with_reducible assumption | omega | assumption) (by first | exact hne_ | assumption) (by first | exact hpa_ | assumption) (by first | with_reducible assumption | assumption | exact rng_zero (by omega) (by omega) | exact orng_zero) (by first | with_reducible assumption | assumption | exact rng_zero (by omega) (by omega) | exact orng_zero) (by first | with_reducible assumption | assumption | exact rng_zero (by omega) (by omega) | exact orng_zero) (by first | with_reducible assumption | assumption | exact rng_zero (by omega) (by omega) | exact orng_zero) (by first | with_reducible assumption | assumption | exact rng_zero (by omega) (by omega) | exact orng_zero) (by first | with_reducible assumption | assumption | exact rng_zero (by omega) (by omega) | exact orng_zero) (by first | with_reducible assumption | assumption | exact rng_zero (by omega) (by omega) | exact orng_zero) hP hD hS (lv_sub hl [0, 1, 2, 3] rfl)
        intro n_7
        induction n_7 with
        | zero =>
          intro x3_7 x2_7 o2_7 o4_7 o11_7 c_g5_7 c_g6_7 c_g7_7 c_g8_7 c_g9_7 c_g10_7 c_g12_7 c_g13_7 c_g14_7 H locs ls hm v0_7 v1_7 v2_7 v3_7 v4_7 v5_7 v6_7 rc_g6_7 rc_g7_7 rc_g8_7 rc_g9_7 rc_g12_7 rc_g13_7 rc_g14_7 hP hD hS hl
          exact absurd hm (by omega)
        | succ n_7 ih_7 =>
          intro x3_7 x2_7 o2_7 o4_7 o11_7 c_g5_7 c_g6_7 c_g7_7 c_g8_7 c_g9_7 c_g10_7 c_g12_7 c_g13_7 c_g14_7 H locs ls hm v0_7 v1_7 v2_7 v3_7 v4_7 v5_7 v6_7 rc_g6_7 rc_g7_7 rc_g8_7 rc_g9_7 rc_g12_7 rc_g13_7 rc_g14_7 hP hD hS hl
          refine lv_iload_n hx hb dX12_read_49 rfl (lv_at hl 0 rfl) ?_
          refine lv_aload_n hx hb dX12_read_50 rfl (lv_at hl 2 rfl) ?_
          refine va_get (ci := 12) (v := .ref g17) (C := RX12) (T := TX12) (N := 34) hx hb hts (fun _ h => List.mem_cons_of_mem _ (List.mem_append_right _ h)) hown hK.1 hP 0 rfl rfl 17 (by decide) (hts (.fieldLink RX12 44 "CutAtlasModel" "mapRows" "[I") (by decide +kernel)) (fun _ h9 => h9) rfl dX12_read_51 ?_
          refine lv_iload_n hx hb dX12_read_54 rfl (lv_at hl 3 rfl) ?_
          have h_8 : vp_in a1 4 := in_I (by omega) (by omega)
          refine va_iald hx hb hK.1 hP 11 0 rfl rfl (i := a1) h_8 dX12_read_55 ?_
          refine lv_topi (fun y_9 ey_9 => ?_)
          have ry_9 : 0 ≤ y_9.toInt ∧ y_9.toInt ≤ 6 := by rw [ey_9]; exact r_f17 _ (in_lt h_8)
          refine lv_icmp_ge (tgt := 236) hx hb dX12_read_56 (by decide) (fun c_10 => ?_) (fun c_10 => ?_)
          · have t_10 : y_9.toInt ≤ x3_7.toInt := Int32.le_iff_toInt_le.mp c_10
            refine lv_iload_n hx hb dX12_read_236 rfl (lv_at hl 1 rfl) ?_
            rw [hQ]
            exact W.iret (v := x2_7) hx hb hr (fun t ht hW => ⟨⟨x2_7, (), rfl, trivial, (0 : Int32), o2_7, o4_7, o11_7, c_g5_7, c_g6_7, c_g7_7, c_g8_7, c_g9_7, c_g10_7, c_g12_7, c_g13_7, c_g14_7, (by first | with_reducible assumption | omega | assumption), (by first | with_reducible assumption | omega | assumption), (by assumption), (by assumption), (by first | with_reducible assumption | assumption | exact rng_zero (by omega) (by omega) | omega), (by first | with_reducible assumption | assumption | exact rng_zero (by omega) (by omega) | omega), (by first | with_reducible assumption | assumption | exact rng_zero (by omega) (by omega) | omega), (by first | with_reducible assumption | assumption | exact rng_zero (by omega) (by omega) | omega), (by first | with_reducible assumption | assumption | exact rng_zero (by omega) (by omega) | omega), (by first | with_reducible assumption | assumption | exact rng_zero (by omega) (by omega) | omega), (by first | with_reducible assumption | assumption | exact rng_zero (by omega) (by omega) | omega), by rw [ht]; exact hP, hD⟩, hS.F ht⟩) hS.2.2 dX12_read_237
          · have t_10 : ¬ y_9.toInt ≤ x3_7.toInt := fun h => c_10 (Int32.le_iff_toInt_le.mpr h)
            refine lv_aload_n hx hb dX12_read_59 rfl (lv_at hl 2 rfl) ?_
            refine va_get (ci := 12) (v := .ref g18) (C := RX12) (T := TX12) (N := 34) hx hb hts (fun _ h => List.mem_cons_of_mem _ (List.mem_append_right _ h)) hown hK.1 hP 0 rfl rfl 18 (by decide) (hts (.fieldLink RX12 47 "CutAtlasModel" "rowSize" "[I") (by decide +kernel)) (fun _ h9 => h9) rfl dX12_read_60 ?_
            refine lv_bipush (v := 6) hx hb dX12_read_63 (by decide) ?_
            refine lv_iload_n hx hb dX12_read_65 rfl (lv_at hl 3 rfl) ?_
            refine lv_imul hx hb dX12_read_66 ?_
            refine lv_topi (fun y_11 ey_11 => ?_)
            have ty_11 : y_11.toInt = 6 * a1.toInt := by rw [ey_11]; exact mulC (by decide) (by omega) (by omega)
            refine lv_iload_n hx hb dX12_read_67 rfl (lv_at hl 0 rfl) ?_
            refine lv_iadd hx hb dX12_read_68 ?_
            refine lv_topi (fun y_12 ey_12 => ?_)
            have ty_12 : y_12.toInt = y_11.toInt + x3_7.toInt := by rw [ey_12]; exact addI (by omega) (by omega)
            have h_13 : vp_in y_12 24 := in_I (by omega) (by omega)
            refine va_iald hx hb hK.1 hP 12 0 rfl rfl (i := y_12) h_13 dX12_read_69 ?_
            refine lv_topi (fun y_14 ey_14 => ?_)
            have ry_14 : -9 ≤ y_14.toInt ∧ y_14.toInt ≤ 5 := by rw [ey_14]; exact r_f18 _ (in_lt h_13)
            refine lv_istore (lv' := [(4, .int y_14), (3, .int x3_7), (2, .int x2_7), (0, .ref mo), (1, .int a1)]) hx hb dX12_read_70 hl (by decide) rfl (fun ls hl => ?_)
            refine lv_bipush (v := 30) hx hb dX12_read_72 (by decide) ?_
            refine lv_iload_n hx hb dX12_read_74 rfl (lv_at hl 4 rfl) ?_
            refine lv_imul hx hb dX12_read_75 ?_
            refine lv_topi (fun y_15 ey_15 => ?_)
            have ty_15 : y_15.toInt = 30 * a1.toInt := by rw [ey_15]; exact mulC (by decide) (by omega) (by omega)
            refine lv_iconst (v := 5) hx hb dX12_read_76 (by decide) ?_
            refine lv_iload_n hx hb dX12_read_77 rfl (lv_at hl 1 rfl) ?_
            refine lv_imul hx hb dX12_read_78 ?_
            refine lv_topi (fun y_16 ey_16 => ?_)
            have ty_16 : y_16.toInt = 5 * x3_7.toInt := by rw [ey_16]; exact mulC (by decide) (by omega) (by omega)
            refine lv_iadd hx hb dX12_read_79 ?_
            refine lv_topi (fun y_17 ey_17 => ?_)
            have ty_17 : y_17.toInt = y_15.toInt + y_16.toInt := by rw [ey_17]; exact addI (by omega) (by omega)
            refine lv_istore (lv' := [(5, .int y_17), (4, .int y_14), (3, .int x3_7), (2, .int x2_7), (0, .ref mo), (1, .int a1)]) hx hb dX12_read_80 hl (by decide) rfl (fun ls hl => ?_)
            refine lv_iload hx hb dX12_read_82 (lv_at hl 1 rfl) ?_
            refine lv_bipush (v := (-9)) hx hb dX12_read_84 (by decide) ?_
            refine lv_icmp_ne (tgt := 94) hx hb dX12_read_86 (by decide) (fun c_18 => ?_) (fun c_18 => ?_)
            · have t_18 : ¬ y_14.toInt = ((-9) : Int32).toInt := fun h => c_18 (Int32.toInt_inj.mp h)
              refine lv_iload hx hb dX12_read_94 (lv_at hl 1 rfl) ?_
              refine lv_iconst (v := 5) hx hb dX12_read_96 (by decide) ?_
              refine lv_icmp_ge (tgt := 105) hx hb dX12_read_97 (by decide) (fun c_19 => ?_) (fun c_19 => ?_)
              · have t_19 : (5 : Int32).toInt ≤ y_14.toInt := Int32.le_iff_toInt_le.mp c_19
                refine lv_aload_n hx hb dX12_read_105 rfl (lv_at hl 4 rfl) ?_
                refine lv_aload_n hx hb dX12_read_106 rfl (lv_at hl 4 rfl) ?_
                refine va_get (ci := 12) (v := .ref g19) (C := RX12) (T := TX12) (N := 34) hx hb hts (fun _ h => List.mem_cons_of_mem _ (List.mem_append_right _ h)) hown hK.1 hP 0 rfl rfl 19 (by decide) (hts (.fieldLink RX12 50 "CutAtlasModel" "cells" "[J") (by decide +kernel)) (fun _ h9 => h9) rfl dX12_read_107 ?_
                refine lv_iload hx hb dX12_read_110 (lv_at hl 0 rfl) ?_
                have h_20 : vp_in y_17 120 := in_I (by omega) (by omega)
                refine va_lald hx hb hK.1 hP 13 1 rfl rfl (i := y_17) h_20 dX12_read_112 ?_
                refine lv_topl (fun y_21 ey_21 => ?_)
                refine lv_aload_n hx hb dX12_read_113 rfl (lv_at hl 4 rfl) ?_
                refine va_get (ci := 12) (v := .ref g19) (C := RX12) (T := TX12) (N := 34) hx hb hts (fun _ h => List.mem_cons_of_mem _ (List.mem_append_right _ h)) hown hK.1 hP 0 rfl rfl 19 (by decide) (hts (.fieldLink RX12 50 "CutAtlasModel" "cells" "[J") (by decide +kernel)) (fun _ h9 => h9) rfl dX12_read_114 ?_
                refine lv_iload hx hb dX12_read_117 (lv_at hl 0 rfl) ?_
                refine lv_iconst (v := 1) hx hb dX12_read_119 (by decide) ?_
                refine lv_iadd hx hb dX12_read_120 ?_
                refine lv_topi (fun y_22 ey_22 => ?_)
                have ty_22 : y_22.toInt = y_17.toInt + (1 : Int32).toInt := by rw [ey_22]; exact addI (by omega) (by omega)
                have h_23 : vp_in y_22 120 := in_I (by omega) (by omega)
                refine va_lald hx hb hK.1 hP 13 1 rfl rfl (i := y_22) h_23 dX12_read_121 ?_
                refine lv_topl (fun y_24 ey_24 => ?_)
                refine lv_aload_n hx hb dX12_read_122 rfl (lv_at hl 4 rfl) ?_
                refine va_get (ci := 12) (v := .ref g19) (C := RX12) (T := TX12) (N := 34) hx hb hts (fun _ h => List.mem_cons_of_mem _ (List.mem_append_right _ h)) hown hK.1 hP 0 rfl rfl 19 (by decide) (hts (.fieldLink RX12 50 "CutAtlasModel" "cells" "[J") (by decide +kernel)) (fun _ h9 => h9) rfl dX12_read_123 ?_
                refine lv_iload hx hb dX12_read_126 (lv_at hl 0 rfl) ?_
                refine lv_iconst (v := 2) hx hb dX12_read_128 (by decide) ?_
                refine lv_iadd hx hb dX12_read_129 ?_
                refine lv_topi (fun y_25 ey_25 => ?_)
                have ty_25 : y_25.toInt = y_17.toInt + (2 : Int32).toInt := by rw [ey_25]; exact addI (by omega) (by omega)
                have h_26 : vp_in y_25 120 := in_I (by omega) (by omega)
                refine va_lald hx hb hK.1 hP 13 1 rfl rfl (i := y_25) h_26 dX12_read_130 ?_
                refine lv_topl (fun y_27 ey_27 => ?_)
                refine lv_aload_n hx hb dX12_read_131 rfl (lv_at hl 4 rfl) ?_
                refine va_get (ci := 12) (v := .ref g19) (C := RX12) (T := TX12) (N := 34) hx hb hts (fun _ h => List.mem_cons_of_mem _ (List.mem_append_right _ h)) hown hK.1 hP 0 rfl rfl 19 (by decide) (hts (.fieldLink RX12 50 "CutAtlasModel" "cells" "[J") (by decide +kernel)) (fun _ h9 => h9) rfl dX12_read_132 ?_
                refine lv_iload hx hb dX12_read_135 (lv_at hl 0 rfl) ?_
                refine lv_iconst (v := 3) hx hb dX12_read_137 (by decide) ?_
                refine lv_iadd hx hb dX12_read_138 ?_
                refine lv_topi (fun y_28 ey_28 => ?_)
                have ty_28 : y_28.toInt = y_17.toInt + (3 : Int32).toInt := by rw [ey_28]; exact addI (by omega) (by omega)
                have h_29 : vp_in y_28 120 := in_I (by omega) (by omega)
                refine va_lald hx hb hK.1 hP 13 1 rfl rfl (i := y_28) h_29 dX12_read_139 ?_
                refine lv_topl (fun y_30 ey_30 => ?_)
                refine lv_aload_n hx hb dX12_read_140 rfl (lv_at hl 4 rfl) ?_
                refine va_get (ci := 12) (v := .ref g19) (C := RX12) (T := TX12) (N := 34) hx hb hts (fun _ h => List.mem_cons_of_mem _ (List.mem_append_right _ h)) hown hK.1 hP 0 rfl rfl 19 (by decide) (hts (.fieldLink RX12 50 "CutAtlasModel" "cells" "[J") (by decide +kernel)) (fun _ h9 => h9) rfl dX12_read_141 ?_
                refine lv_iload hx hb dX12_read_144 (lv_at hl 0 rfl) ?_
                refine lv_iconst (v := 4) hx hb dX12_read_146 (by decide) ?_
                refine lv_iadd hx hb dX12_read_147 ?_
                refine lv_topi (fun y_31 ey_31 => ?_)
                have ty_31 : y_31.toInt = y_17.toInt + (4 : Int32).toInt := by rw [ey_31]; exact addI (by omega) (by omega)
                have h_32 : vp_in y_31 120 := in_I (by omega) (by omega)
                refine va_lald hx hb hK.1 hP 13 1 rfl rfl (i := y_31) h_32 dX12_read_148 ?_
                refine lv_topl (fun y_33 ey_33 => ?_)
                refine ct_R hP hD [(mo, .inr (12, [.int 0, .int 0, .long o2_7, .int s3, .int o4_7, .ref g5, .ref g6, .ref g7, .ref g8, .ref g9, .ref g10, .int o11_7, .ref g12, .ref g13, .ref g14, .ref g15, .ref g16, .ref g17, .ref g18, .ref g19, .ref g20, .int s21, .ref g22, .ref g23, .ref g24, .int s25, .int s26, .int s27, .int s28, .ref g29, .ref g30, .ref g31, .ref g32, .ref g33]))] [0] (by decide) rfl (fun hPc hDw => ?_)
                have hFc := va_free (wc := []) hD hS hA [] rfl
                refine va_calli (va_runV (As := [.long y_21, .long y_24, .long y_27, .long y_30, .long y_33]) (rest := []) ⟨hx, hb, hml, hown, hts⟩ (c_X12_refused l D cy H.size mo g5 g6 g7 g8 g9 g10 g12 g13 g14 g15 g16 g17 g18 g19 g20 g22 g23 g24 g29 g30 g31 g32 g33 (0 : Int32) (0 : Int32) s3 o4_7 o11_7 s21 s25 s26 s27 s28 o2_7 y_21 y_24 y_27 y_30 y_33 (by first | with_reducible assumption | omega | assumption) (by first | with_reducible assumption | omega | assumption)) (cwV 5 hts gX12_read_X12_refused rfl rfl rfl (by decide +kernel) ⟨Nat.le_of_ble_eq_true rfl, Nat.le_of_ble_eq_true rfl⟩) ⟨bl_, va_recvX hK.1 hP (ci := 12) (q0 := 0) rfl rfl, fun U hU hW => ⟨rfl, by rw [hU], by rw [hU]; exact hPc, kk_mv hW hK, hDw⟩⟩ rfl rfl hl.1 rfl (lv_room (Nat.le_of_ble_eq_true rfl)) dX12_read_149 ⟨Nat.le_of_ble_eq_true rfl, Nat.le_of_ble_eq_true rfl⟩) hS (fun q _ h => hFc q h) hFc (fun r_34 u t H locs ht hvm hw hB hz1 hk1 hS => ?_)
                have hP : va_P D vwCl _ H := ro_keep hP hk1
                rcases hw with ⟨w_35, e_⟩ | ⟨w_35, e_⟩ | ⟨w_35, e_⟩
                · have e_ := e_.symm
                  subst e_
                  refine lv_istore (lv' := [(6, .int (-1)), (5, .int y_17), (4, .int y_14), (3, .int x3_7), (2, .int x2_7), (0, .ref mo), (1, .int a1)]) hx hb dX12_read_152 hl (by decide) rfl (fun ls hl => ?_)
                  refine lv_iload hx hb dX12_read_154 (lv_at hl 0 rfl) ?_
                  refine lv_if_ge (tgt := 167) hx hb dX12_read_156 (by decide) (fun c_36 => ?_) (fun c_36 => ?_)
                  · exact absurd c_36 (by decide)
                  · have _ := c_36
                    refine lv_aload_n hx hb dX12_read_159 rfl (lv_at hl 5 rfl) ?_
                    refine lv_iload hx hb dX12_read_160 (lv_at hl 0 rfl) ?_
                    refine va_put (ci := 12) (v := .int (-1)) (ty := .int) (C := RX12) (T := TX12) (N := 34) hx hb hts (fun _ h => List.mem_cons_of_mem _ (List.mem_append_right _ h)) tyX12 tyX12_ok nmX12 hown hK.1 hP hD hS 0 rfl rfl 1 (by decide) (hts (.fieldLink RX12 240 "CutAtlasModel" "status" "I") (by decide +kernel)) (fun _ h9 => h9) rfl (by decide +kernel) rfl rfl (Nat.le_of_ble_eq_true rfl) dX12_read_162 (fun H locs hP hD hS => ?_)
                    refine pd_K [(mo, .inr (12, [.int 0, .int (-1), .long o2_7, .int s3, .int o4_7, .ref g5, .ref g6, .ref g7, .ref g8, .ref g9, .ref g10, .int o11_7, .ref g12, .ref g13, .ref g14, .ref g15, .ref g16, .ref g17, .ref g18, .ref g19, .ref g20, .int s21, .ref g22, .ref g23, .ref g24, .int s25, .int s26, .int s27, .int s28, .ref g29, .ref g30, .ref g31, .ref g32, .ref g33])), (g5, .inl (cy 0, 40, .inl c_g5_7)), (g6, .inl (cy 0, 40, .inl c_g6_7)), (g7, .inl (cy 0, 40, .inl c_g7_7)), (g8, .inl (cy 0, 40, .inl c_g8_7)), (g9, .inl (cy 0, 40, .inl c_g9_7)), (g10, .inl (cy 2, 40, .inl c_g10_7)), (g12, .inl (cy 0, 30, .inl c_g12_7)), (g13, .inl (cy 0, 30, .inl c_g13_7)), (g14, .inl (cy 0, 6000, .inl c_g14_7)), (g15, .inl (cy 2, 4, .inl f15)), (g17, .inl (cy 0, 4, .inl f17)), (g18, .inl (cy 0, 24, .inl f18)), (g19, .inl (cy 1, 120, .inr (.inl f19)))] hP hD (fun hP hD => ?_)
                    refine lv_iload_n hx hb dX12_read_165 rfl (lv_at hl 4 rfl) ?_
                    rw [hQ]
                    exact W.iret (v := x2_7) hx hb hr (fun t ht hW => ⟨⟨x2_7, (), rfl, trivial, ((-1) : Int32), o2_7, o4_7, o11_7, c_g5_7, c_g6_7, c_g7_7, c_g8_7, c_g9_7, c_g10_7, c_g12_7, c_g13_7, c_g14_7, (by first | with_reducible assumption | omega | assumption), (by first | with_reducible assumption | omega | assumption), (by assumption), (by assumption), (by first | with_reducible assumption | assumption | exact rng_zero (by omega) (by omega) | omega), (by first | with_reducible assumption | assumption | exact rng_zero (by omega) (by omega) | omega), (by first | with_reducible assumption | assumption | exact rng_zero (by omega) (by omega) | omega), (by first | with_reducible assumption | assumption | exact rng_zero (by omega) (by omega) | omega), (by first | with_reducible assumption | assumption | exact rng_zero (by omega) (by omega) | omega), (by first | with_reducible assumption | assumption | exact rng_zero (by omega) (by omega) | omega), (by first | with_reducible assumption | assumption | exact rng_zero (by omega) (by omega) | omega), by rw [ht]; exact hP, hD⟩, hS.F ht⟩) hS.2.2 dX12_read_166
                · have e_ := e_.symm
                  subst e_
                  refine lv_istore (lv' := [(6, .int (-3)), (5, .int y_17), (4, .int y_14), (3, .int x3_7), (2, .int x2_7), (0, .ref mo), (1, .int a1)]) hx hb dX12_read_152 hl (by decide) rfl (fun ls hl => ?_)
                  refine lv_iload hx hb dX12_read_154 (lv_at hl 0 rfl) ?_
                  refine lv_if_ge (tgt := 167) hx hb dX12_read_156 (by decide) (fun c_37 => ?_) (fun c_37 => ?_)
                  · exact absurd c_37 (by decide)
                  · have _ := c_37
                    refine lv_aload_n hx hb dX12_read_159 rfl (lv_at hl 5 rfl) ?_
                    refine lv_iload hx hb dX12_read_160 (lv_at hl 0 rfl) ?_
                    refine va_put (ci := 12) (v := .int (-3)) (ty := .int) (C := RX12) (T := TX12) (N := 34) hx hb hts (fun _ h => List.mem_cons_of_mem _ (List.mem_append_right _ h)) tyX12 tyX12_ok nmX12 hown hK.1 hP hD hS 0 rfl rfl 1 (by decide) (hts (.fieldLink RX12 240 "CutAtlasModel" "status" "I") (by decide +kernel)) (fun _ h9 => h9) rfl (by decide +kernel) rfl rfl (Nat.le_of_ble_eq_true rfl) dX12_read_162 (fun H locs hP hD hS => ?_)
                    refine pd_K [(mo, .inr (12, [.int 0, .int (-3), .long o2_7, .int s3, .int o4_7, .ref g5, .ref g6, .ref g7, .ref g8, .ref g9, .ref g10, .int o11_7, .ref g12, .ref g13, .ref g14, .ref g15, .ref g16, .ref g17, .ref g18, .ref g19, .ref g20, .int s21, .ref g22, .ref g23, .ref g24, .int s25, .int s26, .int s27, .int s28, .ref g29, .ref g30, .ref g31, .ref g32, .ref g33])), (g5, .inl (cy 0, 40, .inl c_g5_7)), (g6, .inl (cy 0, 40, .inl c_g6_7)), (g7, .inl (cy 0, 40, .inl c_g7_7)), (g8, .inl (cy 0, 40, .inl c_g8_7)), (g9, .inl (cy 0, 40, .inl c_g9_7)), (g10, .inl (cy 2, 40, .inl c_g10_7)), (g12, .inl (cy 0, 30, .inl c_g12_7)), (g13, .inl (cy 0, 30, .inl c_g13_7)), (g14, .inl (cy 0, 6000, .inl c_g14_7)), (g15, .inl (cy 2, 4, .inl f15)), (g17, .inl (cy 0, 4, .inl f17)), (g18, .inl (cy 0, 24, .inl f18)), (g19, .inl (cy 1, 120, .inr (.inl f19)))] hP hD (fun hP hD => ?_)
                    refine lv_iload_n hx hb dX12_read_165 rfl (lv_at hl 4 rfl) ?_
                    rw [hQ]
                    exact W.iret (v := x2_7) hx hb hr (fun t ht hW => ⟨⟨x2_7, (), rfl, trivial, ((-3) : Int32), o2_7, o4_7, o11_7, c_g5_7, c_g6_7, c_g7_7, c_g8_7, c_g9_7, c_g10_7, c_g12_7, c_g13_7, c_g14_7, (by first | with_reducible assumption | omega | assumption), (by first | with_reducible assumption | omega | assumption), (by assumption), (by assumption), (by first | with_reducible assumption | assumption | exact rng_zero (by omega) (by omega) | omega), (by first | with_reducible assumption | assumption | exact rng_zero (by omega) (by omega) | omega), (by first | with_reducible assumption | assumption | exact rng_zero (by omega) (by omega) | omega), (by first | with_reducible assumption | assumption | exact rng_zero (by omega) (by omega) | omega), (by first | with_reducible assumption | assumption | exact rng_zero (by omega) (by omega) | omega), (by first | with_reducible assumption | assumption | exact rng_zero (by omega) (by omega) | omega), (by first | with_reducible assumption | assumption | exact rng_zero (by omega) (by omega) | omega), by rw [ht]; exact hP, hD⟩, hS.F ht⟩) hS.2.2 dX12_read_166
                · have e_ := e_.symm
                  subst e_
                  refine lv_istore (lv' := [(6, .int 0), (5, .int y_17), (4, .int y_14), (3, .int x3_7), (2, .int x2_7), (0, .ref mo), (1, .int a1)]) hx hb dX12_read_152 hl (by decide) rfl (fun ls hl => ?_)
                  refine lv_iload hx hb dX12_read_154 (lv_at hl 0 rfl) ?_
                  refine lv_if_ge (tgt := 167) hx hb dX12_read_156 (by decide) (fun c_38 => ?_) (fun c_38 => ?_)
                  · have _ := c_38
                    refine lv_iload_n hx hb dX12_read_167 rfl (lv_at hl 4 rfl) ?_
                    refine lv_if_ne (tgt := 175) hx hb dX12_read_168 (by decide) (fun c_39 => ?_) (fun c_39 => ?_)
                    · have t_39 : ¬ x2_7.toInt = (0 : Int32).toInt := fun h => c_39 (Int32.toInt_inj.mp h)
                      have hpa_ : pastE o11_7.toInt c_g12_7 c_g13_7 c_g14_7 := by first | with_reducible assumption | assumption | exact kept_past of_none v5_7 v6_7 (by omega) (by assumption) (by assumption) (by omega)
                      refine lv_aload_n hx hb dX12_read_175 rfl (lv_at hl 5 rfl) ?_
                      refine lv_aload_n hx hb dX12_read_176 rfl (lv_at hl 5 rfl) ?_
                      refine va_get (ci := 12) (v := .ref g19) (C := RX12) (T := TX12) (N := 34) hx hb hts (fun _ h => List.mem_cons_of_mem _ (List.mem_append_right _ h)) hown hK.1 hP 0 rfl rfl 19 (by decide) (hts (.fieldLink RX12 50 "CutAtlasModel" "cells" "[J") (by decide +kernel)) (fun _ h9 => h9) rfl dX12_read_177 ?_
                      refine lv_iload hx hb dX12_read_180 (lv_at hl 1 rfl) ?_
                      have h_40 : vp_in y_17 120 := in_I (by omega) (by omega)
                      refine va_lald hx hb hK.1 hP 13 1 rfl rfl (i := y_17) h_40 dX12_read_182 ?_
                      refine lv_topl (fun y_41 ey_41 => ?_)
                      have e_ := (ey_41.trans ey_21.symm).symm
                      subst e_
                      skip
                      refine lv_l2i (v := y_21.toInt32) hx hb dX12_read_183 rfl ?_
                      have l_183 : (y_21.toInt32).toInt = y_21.toInt := l2iI (by omega) (by omega)
                      refine lv_aload_n hx hb dX12_read_184 rfl (lv_at hl 5 rfl) ?_
                      refine va_get (ci := 12) (v := .ref g19) (C := RX12) (T := TX12) (N := 34) hx hb hts (fun _ h => List.mem_cons_of_mem _ (List.mem_append_right _ h)) hown hK.1 hP 0 rfl rfl 19 (by decide) (hts (.fieldLink RX12 50 "CutAtlasModel" "cells" "[J") (by decide +kernel)) (fun _ h9 => h9) rfl dX12_read_185 ?_
                      refine lv_iload hx hb dX12_read_188 (lv_at hl 1 rfl) ?_
                      refine lv_iconst (v := 1) hx hb dX12_read_190 (by decide) ?_
                      refine lv_iadd hx hb dX12_read_191 ?_
                      refine lv_topi (fun y_43 ey_43 => ?_)
                      have e_ := (ey_43.trans ey_22.symm).symm
                      subst e_
                      have h_44 : vp_in y_22 120 := in_I (by omega) (by omega)
                      refine va_lald hx hb hK.1 hP 13 1 rfl rfl (i := y_22) h_44 dX12_read_192 ?_
                      refine lv_topl (fun y_45 ey_45 => ?_)
                      have e_ := (ey_45.trans ey_24.symm).symm
                      subst e_
                      skip
                      refine lv_l2i (v := y_24.toInt32) hx hb dX12_read_193 rfl ?_
                      have l_193 : (y_24.toInt32).toInt = y_24.toInt := l2iI (by omega) (by omega)
                      refine lv_aload_n hx hb dX12_read_194 rfl (lv_at hl 5 rfl) ?_
                      refine va_get (ci := 12) (v := .ref g19) (C := RX12) (T := TX12) (N := 34) hx hb hts (fun _ h => List.mem_cons_of_mem _ (List.mem_append_right _ h)) hown hK.1 hP 0 rfl rfl 19 (by decide) (hts (.fieldLink RX12 50 "CutAtlasModel" "cells" "[J") (by decide +kernel)) (fun _ h9 => h9) rfl dX12_read_195 ?_
                      refine lv_iload hx hb dX12_read_198 (lv_at hl 1 rfl) ?_
                      refine lv_iconst (v := 2) hx hb dX12_read_200 (by decide) ?_
                      refine lv_iadd hx hb dX12_read_201 ?_
                      refine lv_topi (fun y_47 ey_47 => ?_)
                      have e_ := (ey_47.trans ey_25.symm).symm
                      subst e_
                      have h_48 : vp_in y_25 120 := in_I (by omega) (by omega)
                      refine va_lald hx hb hK.1 hP 13 1 rfl rfl (i := y_25) h_48 dX12_read_202 ?_
                      refine lv_topl (fun y_49 ey_49 => ?_)
                      have e_ := (ey_49.trans ey_27.symm).symm
                      subst e_
                      skip
                      refine lv_l2i (v := y_27.toInt32) hx hb dX12_read_203 rfl ?_
                      have l_203 : (y_27.toInt32).toInt = y_27.toInt := l2iI (by omega) (by omega)
                      refine lv_aload_n hx hb dX12_read_204 rfl (lv_at hl 5 rfl) ?_
                      refine va_get (ci := 12) (v := .ref g19) (C := RX12) (T := TX12) (N := 34) hx hb hts (fun _ h => List.mem_cons_of_mem _ (List.mem_append_right _ h)) hown hK.1 hP 0 rfl rfl 19 (by decide) (hts (.fieldLink RX12 50 "CutAtlasModel" "cells" "[J") (by decide +kernel)) (fun _ h9 => h9) rfl dX12_read_205 ?_
                      refine lv_iload hx hb dX12_read_208 (lv_at hl 1 rfl) ?_
                      refine lv_iconst (v := 3) hx hb dX12_read_210 (by decide) ?_
                      refine lv_iadd hx hb dX12_read_211 ?_
                      refine lv_topi (fun y_51 ey_51 => ?_)
                      have e_ := (ey_51.trans ey_28.symm).symm
                      subst e_
                      have h_52 : vp_in y_28 120 := in_I (by omega) (by omega)
                      refine va_lald hx hb hK.1 hP 13 1 rfl rfl (i := y_28) h_52 dX12_read_212 ?_
                      refine lv_topl (fun y_53 ey_53 => ?_)
                      have e_ := (ey_53.trans ey_30.symm).symm
                      subst e_
                      skip
                      refine lv_l2i (v := y_30.toInt32) hx hb dX12_read_213 rfl ?_
                      have l_213 : (y_30.toInt32).toInt = y_30.toInt := l2iI (by omega) (by omega)
                      refine lv_aload_n hx hb dX12_read_214 rfl (lv_at hl 5 rfl) ?_
                      refine va_get (ci := 12) (v := .ref g19) (C := RX12) (T := TX12) (N := 34) hx hb hts (fun _ h => List.mem_cons_of_mem _ (List.mem_append_right _ h)) hown hK.1 hP 0 rfl rfl 19 (by decide) (hts (.fieldLink RX12 50 "CutAtlasModel" "cells" "[J") (by decide +kernel)) (fun _ h9 => h9) rfl dX12_read_215 ?_
                      refine lv_iload hx hb dX12_read_218 (lv_at hl 1 rfl) ?_
                      refine lv_iconst (v := 4) hx hb dX12_read_220 (by decide) ?_
                      refine lv_iadd hx hb dX12_read_221 ?_
                      refine lv_topi (fun y_55 ey_55 => ?_)
                      have e_ := (ey_55.trans ey_31.symm).symm
                      subst e_
                      have h_56 : vp_in y_31 120 := in_I (by omega) (by omega)
                      refine va_lald hx hb hK.1 hP 13 1 rfl rfl (i := y_31) h_56 dX12_read_222 ?_
                      refine lv_topl (fun y_57 ey_57 => ?_)
                      have e_ := (ey_57.trans ey_33.symm).symm
                      subst e_
                      skip
                      refine lv_l2i (v := y_33.toInt32) hx hb dX12_read_223 rfl ?_
                      have l_223 : (y_33.toInt32).toInt = y_33.toInt := l2iI (by omega) (by omega)
                      refine ct_S hP hD hS hA [(mo, .inr (12, [.int 0, .int 0, .long o2_7, .int s3, .int o4_7, .ref g5, .ref g6, .ref g7, .ref g8, .ref g9, .ref g10, .int o11_7, .ref g12, .ref g13, .ref g14, .ref g15, .ref g16, .ref g17, .ref g18, .ref g19, .ref g20, .int s21, .ref g22, .ref g23, .ref g24, .int s25, .int s26, .int s27, .int s28, .ref g29, .ref g30, .ref g31, .ref g32, .ref g33])), (g5, .inl (cy 0, 40, .inl c_g5_7)), (g6, .inl (cy 0, 40, .inl c_g6_7)), (g7, .inl (cy 0, 40, .inl c_g7_7)), (g8, .inl (cy 0, 40, .inl c_g8_7)), (g9, .inl (cy 0, 40, .inl c_g9_7)), (g10, .inl (cy 2, 40, .inl c_g10_7))] [0, 1, 2, 3, 4, 5, 6] (by decide) rfl (fun hPc hDw hFc hC_ => ?_)
                      refine va_callv (va_runV (As := [.int (y_21.toInt32), .int (y_24.toInt32), .int (y_27.toInt32), .int (y_30.toInt32), .int (y_33.toInt32)]) (rest := []) ⟨hx, hb, hml, hown, hts⟩ (c_X12_adds2 l D cy H.size mo g5 g6 g7 g8 g9 g10 g12 g13 g14 g15 g16 g17 g18 g19 g20 g22 g23 g24 g29 g30 g31 g32 g33 (0 : Int32) (0 : Int32) s3 o4_7 o11_7 s21 s25 s26 s27 s28 o2_7 c_g5_7 c_g6_7 c_g7_7 c_g8_7 c_g9_7 c_g10_7 (y_21.toInt32) (y_24.toInt32) (y_27.toInt32) (y_30.toInt32) (y_33.toInt32) (by first | with_reducible assumption | omega | assumption) (by first | with_reducible assumption | omega | assumption) (by first | with_reducible assumption | omega | assumption) (by first | with_reducible assumption | omega | assumption) (by first | with_reducible assumption | omega | assumption) (by first | with_reducible assumption | assumption | omega) (by first | with_reducible assumption | assumption | omega) (by first | with_reducible assumption | assumption | omega) (by first | with_reducible assumption | assumption | omega)) (cwV 5 hts gX12_read_X12_adds rfl rfl rfl (by decide +kernel) ⟨Nat.le_of_ble_eq_true rfl, Nat.le_of_ble_eq_true rfl⟩) ⟨bl_, va_recvX hK.1 hP (ci := 12) (q0 := 0) rfl rfl, fun U hU hW => ⟨rfl, by rw [hU], by rw [hU]; exact hPc, kk_mv hW hK, hDw⟩⟩ rfl rfl hl.1 rfl (lv_room (Nat.le_of_ble_eq_true rfl)) dX12_read_224 ⟨Nat.le_of_ble_eq_true rfl, Nat.le_of_ble_eq_true rfl⟩) hS (fun q _ h => hFc q h) hFc (fun u t H locs ht hvm hw hB hz1 hk1 hS => ?_)
                      obtain ⟨n2_60, n4_61, e5_62, e6_63, e7_64, e8_65, e9_66, e10_67, g_68, g_69, g_70, g_71, g_72, g_73, g_74, g_75, g_76, g_77, g_78, g_79, hP1, hD1⟩ := hB
                      rw [ht] at hP1
                      obtain ⟨hP, hD⟩ := va_join (wr := [(g12, .inl (cy 0, 30, .inl c_g12_7)), (g13, .inl (cy 0, 30, .inl c_g13_7)), (g14, .inl (cy 0, 6000, .inl c_g14_7)), (g15, .inl (cy 2, 4, .inl f15)), (g17, .inl (cy 0, 4, .inl f17)), (g18, .inl (cy 0, 24, .inl f18)), (g19, .inl (cy 1, 120, .inr (.inl f19)))]) (w1 := [(mo, .inr (12, [.int 0, .int 0, .long n2_60, .int s3, .int n4_61, .ref g5, .ref g6, .ref g7, .ref g8, .ref g9, .ref g10, .int o11_7, .ref g12, .ref g13, .ref g14, .ref g15, .ref g16, .ref g17, .ref g18, .ref g19, .ref g20, .int s21, .ref g22, .ref g23, .ref g24, .int s25, .int s26, .int s27, .int s28, .ref g29, .ref g30, .ref g31, .ref g32, .ref g33])), (g5, .inl (cy 0, 40, .inl e5_62)), (g6, .inl (cy 0, 40, .inl e6_63)), (g7, .inl (cy 0, 40, .inl e7_64)), (g8, .inl (cy 0, 40, .inl e8_65)), (g9, .inl (cy 0, 40, .inl e9_66)), (g10, .inl (cy 2, 40, .inl e10_67))]) hP hD [0, 1, 2, 3, 4, 5, 6] [7, 8, 9, 10, 11, 12, 13] hC_ rfl (by decide) (by decide) hk1 hFc hP1 hD1
                      refine pd_S hP hD [(mo, .inr (12, [.int 0, .int 0, .long n2_60, .int s3, .int n4_61, .ref g5, .ref g6, .ref g7, .ref g8, .ref g9, .ref g10, .int o11_7, .ref g12, .ref g13, .ref g14, .ref g15, .ref g16, .ref g17, .ref g18, .ref g19, .ref g20, .int s21, .ref g22, .ref g23, .ref g24, .int s25, .int s26, .int s27, .int s28, .ref g29, .ref g30, .ref g31, .ref g32, .ref g33])), (g5, .inl (cy 0, 40, .inl e5_62)), (g6, .inl (cy 0, 40, .inl e6_63)), (g7, .inl (cy 0, 40, .inl e7_64)), (g8, .inl (cy 0, 40, .inl e8_65)), (g9, .inl (cy 0, 40, .inl e9_66)), (g10, .inl (cy 2, 40, .inl e10_67)), (g12, .inl (cy 0, 30, .inl c_g12_7)), (g13, .inl (cy 0, 30, .inl c_g13_7)), (g14, .inl (cy 0, 6000, .inl c_g14_7)), (g15, .inl (cy 2, 4, .inl f15)), (g17, .inl (cy 0, 4, .inl f17)), (g18, .inl (cy 0, 24, .inl f18)), (g19, .inl (cy 1, 120, .inr (.inl f19)))] [7, 8, 9, 10, 11, 12, 13, 0, 1, 2, 3, 4, 5, 6] (by decide +kernel) rfl (fun hP hD => ?_)
                      have hne_ : netE s3.toInt n4_61.toInt e6_63 e7_64 e10_67 := netE_add v5_7 g_70 g_71 g_74 (by omega) g_68 (by omega) (by omega)
                      obtain ⟨y_80, ey_80⟩ : ∃ y : Int32, y = x2_7 + 1 := ⟨_, rfl⟩
                      have ty_80 : y_80.toInt = x2_7.toInt + (1 : Int32).toInt := by rw [ey_80]; exact addI (by omega) (by omega)
                      refine lv_iinc (v := y_80) (lv' := [(2, .int y_80), (6, .int 0), (5, .int y_17), (4, .int y_14), (3, .int x3_7), (0, .ref mo), (1, .int a1)]) hx hb dX12_read_227 hl (k := 4) rfl (by rw [ey_80]; rfl) (by decide) rfl (fun ls hl => ?_)
                      obtain ⟨y_81, ey_81⟩ : ∃ y : Int32, y = x3_7 + 1 := ⟨_, rfl⟩
                      have ty_81 : y_81.toInt = x3_7.toInt + (1 : Int32).toInt := by rw [ey_81]; exact addI (by omega) (by omega)
                      refine lv_iinc (v := y_81) (lv' := [(3, .int y_81), (2, .int y_80), (6, .int 0), (5, .int y_17), (4, .int y_14), (0, .ref mo), (1, .int a1)]) hx hb dX12_read_230 hl (k := 4) rfl (by rw [ey_81]; rfl) (by decide) rfl (fun ls hl => ?_)
                      refine lv_goto (tgt := 49) hx hb dX12_read_233 (by decide) ?_
                      exact ih_7 y_81 y_80 n2_60 n4_61 o11_7 e5_62 e6_63 e7_64 e8_65 e9_66 e10_67 c_g12_7 c_g13_7 c_g14_7 _ _ _ (by omega) (by first | with_reducible assumption | omega | assumption) (by first | with_reducible assumption | omega | assumption) (by first | with_reducible assumption | omega | assumption) (by first | with_reducible assumption | omega | assumption) (by first | with_reducible assumption | omega | assumption) (by first | exact hne_ | assumption) (by first | exact hpa_ | assumption) (by first | with_reducible assumption | assumption | exact rng_zero (by omega) (by omega) | exact orng_zero) (by first | with_reducible assumption | assumption | exact rng_zero (by omega) (by omega) | exact orng_zero) (by first | with_reducible assumption | assumption | exact rng_zero (by omega) (by omega) | exact orng_zero) (by first | with_reducible assumption | assumption | exact rng_zero (by omega) (by omega) | exact orng_zero) (by first | with_reducible assumption | assumption | exact rng_zero (by omega) (by omega) | exact orng_zero) (by first | with_reducible assumption | assumption | exact rng_zero (by omega) (by omega) | exact orng_zero) (by first | with_reducible assumption | assumption | exact rng_zero (by omega) (by omega) | exact orng_zero) hP hD hS (lv_sub hl [0, 1, 5, 6] rfl)
                    · have t_39 : x2_7.toInt = (0 : Int32).toInt := congrArg Int32.toInt c_39
                      refine lv_aload_n hx hb dX12_read_171 rfl (lv_at hl 5 rfl) ?_
                      refine ct_S hP hD hS hA [(mo, .inr (12, [.int 0, .int 0, .long o2_7, .int s3, .int o4_7, .ref g5, .ref g6, .ref g7, .ref g8, .ref g9, .ref g10, .int o11_7, .ref g12, .ref g13, .ref g14, .ref g15, .ref g16, .ref g17, .ref g18, .ref g19, .ref g20, .int s21, .ref g22, .ref g23, .ref g24, .int s25, .int s26, .int s27, .int s28, .ref g29, .ref g30, .ref g31, .ref g32, .ref g33])), (g5, .inl (cy 0, 40, .inl c_g5_7)), (g6, .inl (cy 0, 40, .inl c_g6_7)), (g7, .inl (cy 0, 40, .inl c_g7_7)), (g8, .inl (cy 0, 40, .inl c_g8_7)), (g9, .inl (cy 0, 40, .inl c_g9_7)), (g10, .inl (cy 2, 40, .inl c_g10_7)), (g12, .inl (cy 0, 30, .inl c_g12_7)), (g13, .inl (cy 0, 30, .inl c_g13_7)), (g14, .inl (cy 0, 6000, .inl c_g14_7))] [0, 1, 2, 3, 4, 5, 6, 7, 8, 9] (by decide) rfl (fun hPc hDw hFc hC_ => ?_)
                      refine va_callv (va_runV (As := []) (rest := []) ⟨hx, hb, hml, hown, hts⟩ (c_X12_keeps2 l D cy H.size mo g5 g6 g7 g8 g9 g10 g12 g13 g14 g15 g16 g17 g18 g19 g20 g22 g23 g24 g29 g30 g31 g32 g33 (0 : Int32) (0 : Int32) s3 o4_7 o11_7 s21 s25 s26 s27 s28 o2_7 c_g5_7 c_g6_7 c_g7_7 c_g8_7 c_g9_7 c_g10_7 c_g12_7 c_g13_7 c_g14_7 (by first | with_reducible assumption | omega | assumption) (by first | with_reducible assumption | omega | assumption) (by first | with_reducible assumption | omega | assumption) (by first | with_reducible assumption | assumption | omega) (by first | with_reducible assumption | assumption | omega) (by first | with_reducible assumption | assumption | omega) (by first | with_reducible assumption | assumption | omega) (by first | with_reducible assumption | assumption | omega) (by first | with_reducible assumption | assumption | omega) (by first | with_reducible assumption | assumption | omega)) (cwV 0 hts gX12_read_X12_keeps rfl rfl rfl (by decide +kernel) ⟨Nat.le_of_ble_eq_true rfl, Nat.le_of_ble_eq_true rfl⟩) ⟨bl_, va_recvX hK.1 hP (ci := 12) (q0 := 0) rfl rfl, fun U hU hW => ⟨rfl, by rw [hU], by rw [hU]; exact hPc, kk_mv hW hK, hDw⟩⟩ rfl rfl hl.1 rfl (lv_room (Nat.le_of_ble_eq_true rfl)) dX12_read_172 ⟨Nat.le_of_ble_eq_true rfl, Nat.le_of_ble_eq_true rfl⟩) hS (fun q _ h => hFc q h) hFc (fun u t H locs ht hvm hw hB hz1 hk1 hS => ?_)
                      obtain ⟨n11_83, e12_84, e13_85, e14_86, g_87, g_88, g_89, g_90, g_91, hP1, hD1⟩ := hB
                      rw [ht] at hP1
                      obtain ⟨hP, hD⟩ := va_join (wr := [(g15, .inl (cy 2, 4, .inl f15)), (g17, .inl (cy 0, 4, .inl f17)), (g18, .inl (cy 0, 24, .inl f18)), (g19, .inl (cy 1, 120, .inr (.inl f19)))]) (w1 := [(mo, .inr (12, [.int 0, .int 0, .long o2_7, .int s3, .int o4_7, .ref g5, .ref g6, .ref g7, .ref g8, .ref g9, .ref g10, .int n11_83, .ref g12, .ref g13, .ref g14, .ref g15, .ref g16, .ref g17, .ref g18, .ref g19, .ref g20, .int s21, .ref g22, .ref g23, .ref g24, .int s25, .int s26, .int s27, .int s28, .ref g29, .ref g30, .ref g31, .ref g32, .ref g33])), (g5, .inl (cy 0, 40, .inl c_g5_7)), (g6, .inl (cy 0, 40, .inl c_g6_7)), (g7, .inl (cy 0, 40, .inl c_g7_7)), (g8, .inl (cy 0, 40, .inl c_g8_7)), (g9, .inl (cy 0, 40, .inl c_g9_7)), (g10, .inl (cy 2, 40, .inl c_g10_7)), (g12, .inl (cy 0, 30, .inl e12_84)), (g13, .inl (cy 0, 30, .inl e13_85)), (g14, .inl (cy 0, 6000, .inl e14_86))]) hP hD [0, 1, 2, 3, 4, 5, 6, 7, 8, 9] [10, 11, 12, 13] hC_ rfl (by decide) (by decide) hk1 hFc hP1 hD1
                      refine pd_S hP hD [(mo, .inr (12, [.int 0, .int 0, .long o2_7, .int s3, .int o4_7, .ref g5, .ref g6, .ref g7, .ref g8, .ref g9, .ref g10, .int n11_83, .ref g12, .ref g13, .ref g14, .ref g15, .ref g16, .ref g17, .ref g18, .ref g19, .ref g20, .int s21, .ref g22, .ref g23, .ref g24, .int s25, .int s26, .int s27, .int s28, .ref g29, .ref g30, .ref g31, .ref g32, .ref g33])), (g5, .inl (cy 0, 40, .inl c_g5_7)), (g6, .inl (cy 0, 40, .inl c_g6_7)), (g7, .inl (cy 0, 40, .inl c_g7_7)), (g8, .inl (cy 0, 40, .inl c_g8_7)), (g9, .inl (cy 0, 40, .inl c_g9_7)), (g10, .inl (cy 2, 40, .inl c_g10_7)), (g12, .inl (cy 0, 30, .inl e12_84)), (g13, .inl (cy 0, 30, .inl e13_85)), (g14, .inl (cy 0, 6000, .inl e14_86)), (g15, .inl (cy 2, 4, .inl f15)), (g17, .inl (cy 0, 4, .inl f17)), (g18, .inl (cy 0, 24, .inl f18)), (g19, .inl (cy 1, 120, .inr (.inl f19)))] [4, 5, 6, 7, 8, 9, 10, 11, 12, 13, 0, 1, 2, 3] (by decide +kernel) rfl (fun hP hD => ?_)
                      have hpa_ : pastE n11_83.toInt e12_84 e13_85 e14_86 := by first | with_reducible assumption | assumption | exact kept_past g_88 v5_7 v6_7 (by omega) (by assumption) (by assumption) (by omega)
                      refine lv_aload_n hx hb dX12_read_175 rfl (lv_at hl 5 rfl) ?_
                      refine lv_aload_n hx hb dX12_read_176 rfl (lv_at hl 5 rfl) ?_
                      refine va_get (ci := 12) (v := .ref g19) (C := RX12) (T := TX12) (N := 34) hx hb hts (fun _ h => List.mem_cons_of_mem _ (List.mem_append_right _ h)) hown hK.1 hP 0 rfl rfl 19 (by decide) (hts (.fieldLink RX12 50 "CutAtlasModel" "cells" "[J") (by decide +kernel)) (fun _ h9 => h9) rfl dX12_read_177 ?_
                      refine lv_iload hx hb dX12_read_180 (lv_at hl 1 rfl) ?_
                      have h_92 : vp_in y_17 120 := in_I (by omega) (by omega)
                      refine va_lald hx hb hK.1 hP 13 1 rfl rfl (i := y_17) h_92 dX12_read_182 ?_
                      refine lv_topl (fun y_93 ey_93 => ?_)
                      have e_ := (ey_93.trans ey_21.symm).symm
                      subst e_
                      skip
                      refine lv_l2i (v := y_21.toInt32) hx hb dX12_read_183 rfl ?_
                      have l_183 : (y_21.toInt32).toInt = y_21.toInt := l2iI (by omega) (by omega)
                      refine lv_aload_n hx hb dX12_read_184 rfl (lv_at hl 5 rfl) ?_
                      refine va_get (ci := 12) (v := .ref g19) (C := RX12) (T := TX12) (N := 34) hx hb hts (fun _ h => List.mem_cons_of_mem _ (List.mem_append_right _ h)) hown hK.1 hP 0 rfl rfl 19 (by decide) (hts (.fieldLink RX12 50 "CutAtlasModel" "cells" "[J") (by decide +kernel)) (fun _ h9 => h9) rfl dX12_read_185 ?_
                      refine lv_iload hx hb dX12_read_188 (lv_at hl 1 rfl) ?_
                      refine lv_iconst (v := 1) hx hb dX12_read_190 (by decide) ?_
                      refine lv_iadd hx hb dX12_read_191 ?_
                      refine lv_topi (fun y_95 ey_95 => ?_)
                      have e_ := (ey_95.trans ey_22.symm).symm
                      subst e_
                      have h_96 : vp_in y_22 120 := in_I (by omega) (by omega)
                      refine va_lald hx hb hK.1 hP 13 1 rfl rfl (i := y_22) h_96 dX12_read_192 ?_
                      refine lv_topl (fun y_97 ey_97 => ?_)
                      have e_ := (ey_97.trans ey_24.symm).symm
                      subst e_
                      skip
                      refine lv_l2i (v := y_24.toInt32) hx hb dX12_read_193 rfl ?_
                      have l_193 : (y_24.toInt32).toInt = y_24.toInt := l2iI (by omega) (by omega)
                      refine lv_aload_n hx hb dX12_read_194 rfl (lv_at hl 5 rfl) ?_
                      refine va_get (ci := 12) (v := .ref g19) (C := RX12) (T := TX12) (N := 34) hx hb hts (fun _ h => List.mem_cons_of_mem _ (List.mem_append_right _ h)) hown hK.1 hP 0 rfl rfl 19 (by decide) (hts (.fieldLink RX12 50 "CutAtlasModel" "cells" "[J") (by decide +kernel)) (fun _ h9 => h9) rfl dX12_read_195 ?_
                      refine lv_iload hx hb dX12_read_198 (lv_at hl 1 rfl) ?_
                      refine lv_iconst (v := 2) hx hb dX12_read_200 (by decide) ?_
                      refine lv_iadd hx hb dX12_read_201 ?_
                      refine lv_topi (fun y_99 ey_99 => ?_)
                      have e_ := (ey_99.trans ey_25.symm).symm
                      subst e_
                      have h_100 : vp_in y_25 120 := in_I (by omega) (by omega)
                      refine va_lald hx hb hK.1 hP 13 1 rfl rfl (i := y_25) h_100 dX12_read_202 ?_
                      refine lv_topl (fun y_101 ey_101 => ?_)
                      have e_ := (ey_101.trans ey_27.symm).symm
                      subst e_
                      skip
                      refine lv_l2i (v := y_27.toInt32) hx hb dX12_read_203 rfl ?_
                      have l_203 : (y_27.toInt32).toInt = y_27.toInt := l2iI (by omega) (by omega)
                      refine lv_aload_n hx hb dX12_read_204 rfl (lv_at hl 5 rfl) ?_
                      refine va_get (ci := 12) (v := .ref g19) (C := RX12) (T := TX12) (N := 34) hx hb hts (fun _ h => List.mem_cons_of_mem _ (List.mem_append_right _ h)) hown hK.1 hP 0 rfl rfl 19 (by decide) (hts (.fieldLink RX12 50 "CutAtlasModel" "cells" "[J") (by decide +kernel)) (fun _ h9 => h9) rfl dX12_read_205 ?_
                      refine lv_iload hx hb dX12_read_208 (lv_at hl 1 rfl) ?_
                      refine lv_iconst (v := 3) hx hb dX12_read_210 (by decide) ?_
                      refine lv_iadd hx hb dX12_read_211 ?_
                      refine lv_topi (fun y_103 ey_103 => ?_)
                      have e_ := (ey_103.trans ey_28.symm).symm
                      subst e_
                      have h_104 : vp_in y_28 120 := in_I (by omega) (by omega)
                      refine va_lald hx hb hK.1 hP 13 1 rfl rfl (i := y_28) h_104 dX12_read_212 ?_
                      refine lv_topl (fun y_105 ey_105 => ?_)
                      have e_ := (ey_105.trans ey_30.symm).symm
                      subst e_
                      skip
                      refine lv_l2i (v := y_30.toInt32) hx hb dX12_read_213 rfl ?_
                      have l_213 : (y_30.toInt32).toInt = y_30.toInt := l2iI (by omega) (by omega)
                      refine lv_aload_n hx hb dX12_read_214 rfl (lv_at hl 5 rfl) ?_
                      refine va_get (ci := 12) (v := .ref g19) (C := RX12) (T := TX12) (N := 34) hx hb hts (fun _ h => List.mem_cons_of_mem _ (List.mem_append_right _ h)) hown hK.1 hP 0 rfl rfl 19 (by decide) (hts (.fieldLink RX12 50 "CutAtlasModel" "cells" "[J") (by decide +kernel)) (fun _ h9 => h9) rfl dX12_read_215 ?_
                      refine lv_iload hx hb dX12_read_218 (lv_at hl 1 rfl) ?_
                      refine lv_iconst (v := 4) hx hb dX12_read_220 (by decide) ?_
                      refine lv_iadd hx hb dX12_read_221 ?_
                      refine lv_topi (fun y_107 ey_107 => ?_)
                      have e_ := (ey_107.trans ey_31.symm).symm
                      subst e_
                      have h_108 : vp_in y_31 120 := in_I (by omega) (by omega)
                      refine va_lald hx hb hK.1 hP 13 1 rfl rfl (i := y_31) h_108 dX12_read_222 ?_
                      refine lv_topl (fun y_109 ey_109 => ?_)
                      have e_ := (ey_109.trans ey_33.symm).symm
                      subst e_
                      skip
                      refine lv_l2i (v := y_33.toInt32) hx hb dX12_read_223 rfl ?_
                      have l_223 : (y_33.toInt32).toInt = y_33.toInt := l2iI (by omega) (by omega)
                      refine ct_S hP hD hS hA [(mo, .inr (12, [.int 0, .int 0, .long o2_7, .int s3, .int o4_7, .ref g5, .ref g6, .ref g7, .ref g8, .ref g9, .ref g10, .int n11_83, .ref g12, .ref g13, .ref g14, .ref g15, .ref g16, .ref g17, .ref g18, .ref g19, .ref g20, .int s21, .ref g22, .ref g23, .ref g24, .int s25, .int s26, .int s27, .int s28, .ref g29, .ref g30, .ref g31, .ref g32, .ref g33])), (g5, .inl (cy 0, 40, .inl c_g5_7)), (g6, .inl (cy 0, 40, .inl c_g6_7)), (g7, .inl (cy 0, 40, .inl c_g7_7)), (g8, .inl (cy 0, 40, .inl c_g8_7)), (g9, .inl (cy 0, 40, .inl c_g9_7)), (g10, .inl (cy 2, 40, .inl c_g10_7))] [0, 1, 2, 3, 4, 5, 6] (by decide) rfl (fun hPc hDw hFc hC_ => ?_)
                      refine va_callv (va_runV (As := [.int (y_21.toInt32), .int (y_24.toInt32), .int (y_27.toInt32), .int (y_30.toInt32), .int (y_33.toInt32)]) (rest := []) ⟨hx, hb, hml, hown, hts⟩ (c_X12_adds2 l D cy H.size mo g5 g6 g7 g8 g9 g10 g12 g13 g14 g15 g16 g17 g18 g19 g20 g22 g23 g24 g29 g30 g31 g32 g33 (0 : Int32) (0 : Int32) s3 o4_7 n11_83 s21 s25 s26 s27 s28 o2_7 c_g5_7 c_g6_7 c_g7_7 c_g8_7 c_g9_7 c_g10_7 (y_21.toInt32) (y_24.toInt32) (y_27.toInt32) (y_30.toInt32) (y_33.toInt32) (by first | with_reducible assumption | omega | assumption) (by first | with_reducible assumption | omega | assumption) (by first | with_reducible assumption | omega | assumption) (by first | with_reducible assumption | omega | assumption) (by first | with_reducible assumption | omega | assumption) (by first | with_reducible assumption | assumption | omega) (by first | with_reducible assumption | assumption | omega) (by first | with_reducible assumption | assumption | omega) (by first | with_reducible assumption | assumption | omega)) (cwV 5 hts gX12_read_X12_adds rfl rfl rfl (by decide +kernel) ⟨Nat.le_of_ble_eq_true rfl, Nat.le_of_ble_eq_true rfl⟩) ⟨bl_, va_recvX hK.1 hP (ci := 12) (q0 := 0) rfl rfl, fun U hU hW => ⟨rfl, by rw [hU], by rw [hU]; exact hPc, kk_mv hW hK, hDw⟩⟩ rfl rfl hl.1 rfl (lv_room (Nat.le_of_ble_eq_true rfl)) dX12_read_224 ⟨Nat.le_of_ble_eq_true rfl, Nat.le_of_ble_eq_true rfl⟩) hS (fun q _ h => hFc q h) hFc (fun u t H locs ht hvm hw hB hz1 hk1 hS => ?_)
                      obtain ⟨n2_112, n4_113, e5_114, e6_115, e7_116, e8_117, e9_118, e10_119, g_120, g_121, g_122, g_123, g_124, g_125, g_126, g_127, g_128, g_129, g_130, g_131, hP1, hD1⟩ := hB
                      rw [ht] at hP1
                      obtain ⟨hP, hD⟩ := va_join (wr := [(g12, .inl (cy 0, 30, .inl e12_84)), (g13, .inl (cy 0, 30, .inl e13_85)), (g14, .inl (cy 0, 6000, .inl e14_86)), (g15, .inl (cy 2, 4, .inl f15)), (g17, .inl (cy 0, 4, .inl f17)), (g18, .inl (cy 0, 24, .inl f18)), (g19, .inl (cy 1, 120, .inr (.inl f19)))]) (w1 := [(mo, .inr (12, [.int 0, .int 0, .long n2_112, .int s3, .int n4_113, .ref g5, .ref g6, .ref g7, .ref g8, .ref g9, .ref g10, .int n11_83, .ref g12, .ref g13, .ref g14, .ref g15, .ref g16, .ref g17, .ref g18, .ref g19, .ref g20, .int s21, .ref g22, .ref g23, .ref g24, .int s25, .int s26, .int s27, .int s28, .ref g29, .ref g30, .ref g31, .ref g32, .ref g33])), (g5, .inl (cy 0, 40, .inl e5_114)), (g6, .inl (cy 0, 40, .inl e6_115)), (g7, .inl (cy 0, 40, .inl e7_116)), (g8, .inl (cy 0, 40, .inl e8_117)), (g9, .inl (cy 0, 40, .inl e9_118)), (g10, .inl (cy 2, 40, .inl e10_119))]) hP hD [0, 1, 2, 3, 4, 5, 6] [7, 8, 9, 10, 11, 12, 13] hC_ rfl (by decide) (by decide) hk1 hFc hP1 hD1
                      refine pd_S hP hD [(mo, .inr (12, [.int 0, .int 0, .long n2_112, .int s3, .int n4_113, .ref g5, .ref g6, .ref g7, .ref g8, .ref g9, .ref g10, .int n11_83, .ref g12, .ref g13, .ref g14, .ref g15, .ref g16, .ref g17, .ref g18, .ref g19, .ref g20, .int s21, .ref g22, .ref g23, .ref g24, .int s25, .int s26, .int s27, .int s28, .ref g29, .ref g30, .ref g31, .ref g32, .ref g33])), (g5, .inl (cy 0, 40, .inl e5_114)), (g6, .inl (cy 0, 40, .inl e6_115)), (g7, .inl (cy 0, 40, .inl e7_116)), (g8, .inl (cy 0, 40, .inl e8_117)), (g9, .inl (cy 0, 40, .inl e9_118)), (g10, .inl (cy 2, 40, .inl e10_119)), (g12, .inl (cy 0, 30, .inl e12_84)), (g13, .inl (cy 0, 30, .inl e13_85)), (g14, .inl (cy 0, 6000, .inl e14_86)), (g15, .inl (cy 2, 4, .inl f15)), (g17, .inl (cy 0, 4, .inl f17)), (g18, .inl (cy 0, 24, .inl f18)), (g19, .inl (cy 1, 120, .inr (.inl f19)))] [7, 8, 9, 10, 11, 12, 13, 0, 1, 2, 3, 4, 5, 6] (by decide +kernel) rfl (fun hP hD => ?_)
                      have hne_ : netE s3.toInt n4_113.toInt e6_115 e7_116 e10_119 := netE_add v5_7 g_122 g_123 g_126 (by omega) g_120 (by omega) (by omega)
                      obtain ⟨y_132, ey_132⟩ : ∃ y : Int32, y = x2_7 + 1 := ⟨_, rfl⟩
                      have ty_132 : y_132.toInt = x2_7.toInt + (1 : Int32).toInt := by rw [ey_132]; exact addI (by omega) (by omega)
                      refine lv_iinc (v := y_132) (lv' := [(2, .int y_132), (6, .int 0), (5, .int y_17), (4, .int y_14), (3, .int x3_7), (0, .ref mo), (1, .int a1)]) hx hb dX12_read_227 hl (k := 4) rfl (by rw [ey_132]; rfl) (by decide) rfl (fun ls hl => ?_)
                      obtain ⟨y_133, ey_133⟩ : ∃ y : Int32, y = x3_7 + 1 := ⟨_, rfl⟩
                      have ty_133 : y_133.toInt = x3_7.toInt + (1 : Int32).toInt := by rw [ey_133]; exact addI (by omega) (by omega)
                      refine lv_iinc (v := y_133) (lv' := [(3, .int y_133), (2, .int y_132), (6, .int 0), (5, .int y_17), (4, .int y_14), (0, .ref mo), (1, .int a1)]) hx hb dX12_read_230 hl (k := 4) rfl (by rw [ey_133]; rfl) (by decide) rfl (fun ls hl => ?_)
                      refine lv_goto (tgt := 49) hx hb dX12_read_233 (by decide) ?_
                      exact ih_7 y_133 y_132 n2_112 n4_113 n11_83 e5_114 e6_115 e7_116 e8_117 e9_118 e10_119 e12_84 e13_85 e14_86 _ _ _ (by omega) (by first | with_reducible assumption | omega | assumption) (by first | with_reducible assumption | omega | assumption) (by first | with_reducible assumption | omega | assumption) (by first | with_reducible assumption | omega | assumption) (by first | with_reducible assumption | omega | assumption) (by first | exact hne_ | assumption) (by first | exact hpa_ | assumption) (by first | with_reducible assumption | assumption | exact rng_zero (by omega) (by omega) | exact orng_zero) (by first | with_reducible assumption | assumption | exact rng_zero (by omega) (by omega) | exact orng_zero) (by first | with_reducible assumption | assumption | exact rng_zero (by omega) (by omega) | exact orng_zero) (by first | with_reducible assumption | assumption | exact rng_zero (by omega) (by omega) | exact orng_zero) (by first | with_reducible assumption | assumption | exact rng_zero (by omega) (by omega) | exact orng_zero) (by first | with_reducible assumption | assumption | exact rng_zero (by omega) (by omega) | exact orng_zero) (by first | with_reducible assumption | assumption | exact rng_zero (by omega) (by omega) | exact orng_zero) hP hD hS (lv_sub hl [0, 1, 5, 6] rfl)
                  · exact absurd c_38 (by decide)
              · have t_19 : ¬ (5 : Int32).toInt ≤ y_14.toInt := fun h => c_19 (Int32.le_iff_toInt_le.mpr h)
                refine lv_bipush (v := (-12)) hx hb dX12_read_100 (by decide) ?_
                refine lv_goto (tgt := 152) hx hb dX12_read_102 (by decide) ?_
                refine lv_istore (lv' := [(6, .int (-12)), (5, .int y_17), (4, .int y_14), (3, .int x3_7), (2, .int x2_7), (0, .ref mo), (1, .int a1)]) hx hb dX12_read_152 hl (by decide) rfl (fun ls hl => ?_)
                refine lv_iload hx hb dX12_read_154 (lv_at hl 0 rfl) ?_
                refine lv_if_ge (tgt := 167) hx hb dX12_read_156 (by decide) (fun c_134 => ?_) (fun c_134 => ?_)
                · exact absurd c_134 (by decide)
                · have _ := c_134
                  refine lv_aload_n hx hb dX12_read_159 rfl (lv_at hl 5 rfl) ?_
                  refine lv_iload hx hb dX12_read_160 (lv_at hl 0 rfl) ?_
                  refine va_put (ci := 12) (v := .int (-12)) (ty := .int) (C := RX12) (T := TX12) (N := 34) hx hb hts (fun _ h => List.mem_cons_of_mem _ (List.mem_append_right _ h)) tyX12 tyX12_ok nmX12 hown hK.1 hP hD hS 0 rfl rfl 1 (by decide) (hts (.fieldLink RX12 240 "CutAtlasModel" "status" "I") (by decide +kernel)) (fun _ h9 => h9) rfl (by decide +kernel) rfl rfl (Nat.le_of_ble_eq_true rfl) dX12_read_162 (fun H locs hP hD hS => ?_)
                  refine pd_K [(mo, .inr (12, [.int 0, .int (-12), .long o2_7, .int s3, .int o4_7, .ref g5, .ref g6, .ref g7, .ref g8, .ref g9, .ref g10, .int o11_7, .ref g12, .ref g13, .ref g14, .ref g15, .ref g16, .ref g17, .ref g18, .ref g19, .ref g20, .int s21, .ref g22, .ref g23, .ref g24, .int s25, .int s26, .int s27, .int s28, .ref g29, .ref g30, .ref g31, .ref g32, .ref g33])), (g5, .inl (cy 0, 40, .inl c_g5_7)), (g6, .inl (cy 0, 40, .inl c_g6_7)), (g7, .inl (cy 0, 40, .inl c_g7_7)), (g8, .inl (cy 0, 40, .inl c_g8_7)), (g9, .inl (cy 0, 40, .inl c_g9_7)), (g10, .inl (cy 2, 40, .inl c_g10_7)), (g12, .inl (cy 0, 30, .inl c_g12_7)), (g13, .inl (cy 0, 30, .inl c_g13_7)), (g14, .inl (cy 0, 6000, .inl c_g14_7)), (g15, .inl (cy 2, 4, .inl f15)), (g17, .inl (cy 0, 4, .inl f17)), (g18, .inl (cy 0, 24, .inl f18)), (g19, .inl (cy 1, 120, .inr (.inl f19)))] hP hD (fun hP hD => ?_)
                  refine lv_iload_n hx hb dX12_read_165 rfl (lv_at hl 4 rfl) ?_
                  rw [hQ]
                  exact W.iret (v := x2_7) hx hb hr (fun t ht hW => ⟨⟨x2_7, (), rfl, trivial, ((-12) : Int32), o2_7, o4_7, o11_7, c_g5_7, c_g6_7, c_g7_7, c_g8_7, c_g9_7, c_g10_7, c_g12_7, c_g13_7, c_g14_7, (by first | with_reducible assumption | omega | assumption), (by first | with_reducible assumption | omega | assumption), (by assumption), (by assumption), (by first | with_reducible assumption | assumption | exact rng_zero (by omega) (by omega) | omega), (by first | with_reducible assumption | assumption | exact rng_zero (by omega) (by omega) | omega), (by first | with_reducible assumption | assumption | exact rng_zero (by omega) (by omega) | omega), (by first | with_reducible assumption | assumption | exact rng_zero (by omega) (by omega) | omega), (by first | with_reducible assumption | assumption | exact rng_zero (by omega) (by omega) | omega), (by first | with_reducible assumption | assumption | exact rng_zero (by omega) (by omega) | omega), (by first | with_reducible assumption | assumption | exact rng_zero (by omega) (by omega) | omega), by rw [ht]; exact hP, hD⟩, hS.F ht⟩) hS.2.2 dX12_read_166
            · have t_18 : y_14.toInt = ((-9) : Int32).toInt := congrArg Int32.toInt c_18
              refine lv_bipush (v := (-11)) hx hb dX12_read_89 (by decide) ?_
              refine lv_goto (tgt := 152) hx hb dX12_read_91 (by decide) ?_
              refine lv_istore (lv' := [(6, .int (-11)), (5, .int y_17), (4, .int y_14), (3, .int x3_7), (2, .int x2_7), (0, .ref mo), (1, .int a1)]) hx hb dX12_read_152 hl (by decide) rfl (fun ls hl => ?_)
              refine lv_iload hx hb dX12_read_154 (lv_at hl 0 rfl) ?_
              refine lv_if_ge (tgt := 167) hx hb dX12_read_156 (by decide) (fun c_135 => ?_) (fun c_135 => ?_)
              · exact absurd c_135 (by decide)
              · have _ := c_135
                refine lv_aload_n hx hb dX12_read_159 rfl (lv_at hl 5 rfl) ?_
                refine lv_iload hx hb dX12_read_160 (lv_at hl 0 rfl) ?_
                refine va_put (ci := 12) (v := .int (-11)) (ty := .int) (C := RX12) (T := TX12) (N := 34) hx hb hts (fun _ h => List.mem_cons_of_mem _ (List.mem_append_right _ h)) tyX12 tyX12_ok nmX12 hown hK.1 hP hD hS 0 rfl rfl 1 (by decide) (hts (.fieldLink RX12 240 "CutAtlasModel" "status" "I") (by decide +kernel)) (fun _ h9 => h9) rfl (by decide +kernel) rfl rfl (Nat.le_of_ble_eq_true rfl) dX12_read_162 (fun H locs hP hD hS => ?_)
                refine pd_K [(mo, .inr (12, [.int 0, .int (-11), .long o2_7, .int s3, .int o4_7, .ref g5, .ref g6, .ref g7, .ref g8, .ref g9, .ref g10, .int o11_7, .ref g12, .ref g13, .ref g14, .ref g15, .ref g16, .ref g17, .ref g18, .ref g19, .ref g20, .int s21, .ref g22, .ref g23, .ref g24, .int s25, .int s26, .int s27, .int s28, .ref g29, .ref g30, .ref g31, .ref g32, .ref g33])), (g5, .inl (cy 0, 40, .inl c_g5_7)), (g6, .inl (cy 0, 40, .inl c_g6_7)), (g7, .inl (cy 0, 40, .inl c_g7_7)), (g8, .inl (cy 0, 40, .inl c_g8_7)), (g9, .inl (cy 0, 40, .inl c_g9_7)), (g10, .inl (cy 2, 40, .inl c_g10_7)), (g12, .inl (cy 0, 30, .inl c_g12_7)), (g13, .inl (cy 0, 30, .inl c_g13_7)), (g14, .inl (cy 0, 6000, .inl c_g14_7)), (g15, .inl (cy 2, 4, .inl f15)), (g17, .inl (cy 0, 4, .inl f17)), (g18, .inl (cy 0, 24, .inl f18)), (g19, .inl (cy 1, 120, .inr (.inl f19)))] hP hD (fun hP hD => ?_)
                refine lv_iload_n hx hb dX12_read_165 rfl (lv_at hl 4 rfl) ?_
                rw [hQ]
                exact W.iret (v := x2_7) hx hb hr (fun t ht hW => ⟨⟨x2_7, (), rfl, trivial, ((-11) : Int32), o2_7, o4_7, o11_7, c_g5_7, c_g6_7, c_g7_7, c_g8_7, c_g9_7, c_g10_7, c_g12_7, c_g13_7, c_g14_7, (by first | with_reducible assumption | omega | assumption), (by first | with_reducible assumption | omega | assumption), (by assumption), (by assumption), (by first | with_reducible assumption | assumption | exact rng_zero (by omega) (by omega) | omega), (by first | with_reducible assumption | assumption | exact rng_zero (by omega) (by omega) | omega), (by first | with_reducible assumption | assumption | exact rng_zero (by omega) (by omega) | omega), (by first | with_reducible assumption | assumption | exact rng_zero (by omega) (by omega) | omega), (by first | with_reducible assumption | assumption | exact rng_zero (by omega) (by omega) | omega), (by first | with_reducible assumption | assumption | exact rng_zero (by omega) (by omega) | omega), (by first | with_reducible assumption | assumption | exact rng_zero (by omega) (by omega) | omega), by rw [ht]; exact hP, hD⟩, hS.F ht⟩) hS.2.2 dX12_read_166
      · have t_6 : y_5.toInt = (0 : Int32).toInt := congrArg Int32.toInt c_6
        refine lv_aload_n hx hb dX12_read_37 rfl (lv_at hl 0 rfl) ?_
        refine lv_bipush (v := (-11)) hx hb dX12_read_38 (by decide) ?_
        refine va_put (ci := 12) (v := .int (-11)) (ty := .int) (C := RX12) (T := TX12) (N := 34) hx hb hts (fun _ h => List.mem_cons_of_mem _ (List.mem_append_right _ h)) tyX12 tyX12_ok nmX12 hown hK.1 hP hD hS 0 rfl rfl 1 (by decide) (hts (.fieldLink RX12 240 "CutAtlasModel" "status" "I") (by decide +kernel)) (fun _ h9 => h9) rfl (by decide +kernel) rfl rfl (Nat.le_of_ble_eq_true rfl) dX12_read_40 (fun H locs hP hD hS => ?_)
        refine pd_K [(mo, .inr (12, [.int 0, .int (-11), .long t2, .int s3, .int s4, .ref g5, .ref g6, .ref g7, .ref g8, .ref g9, .ref g10, .int s11, .ref g12, .ref g13, .ref g14, .ref g15, .ref g16, .ref g17, .ref g18, .ref g19, .ref g20, .int s21, .ref g22, .ref g23, .ref g24, .int s25, .int s26, .int s27, .int s28, .ref g29, .ref g30, .ref g31, .ref g32, .ref g33])), (g5, .inl (cy 0, 40, .inl f5)), (g6, .inl (cy 0, 40, .inl f6)), (g7, .inl (cy 0, 40, .inl f7)), (g8, .inl (cy 0, 40, .inl f8)), (g9, .inl (cy 0, 40, .inl f9)), (g10, .inl (cy 2, 40, .inl f10)), (g12, .inl (cy 0, 30, .inl f12)), (g13, .inl (cy 0, 30, .inl f13)), (g14, .inl (cy 0, 6000, .inl f14)), (g15, .inl (cy 2, 4, .inl f15)), (g17, .inl (cy 0, 4, .inl f17)), (g18, .inl (cy 0, 24, .inl f18)), (g19, .inl (cy 1, 120, .inr (.inl f19)))] hP hD (fun hP hD => ?_)
        refine lv_iconst (v := 0) hx hb dX12_read_43 (by decide) ?_
        rw [hQ]
        exact W.iret (v := 0) hx hb hr (fun t ht hW => ⟨⟨0, (), rfl, trivial, ((-11) : Int32), t2, s4, s11, f5, f6, f7, f8, f9, f10, f12, f13, f14, (by first | with_reducible assumption | omega | assumption), (by first | with_reducible assumption | omega | assumption), (by assumption), (by assumption), (by first | with_reducible assumption | assumption | exact rng_zero (by omega) (by omega) | omega), (by first | with_reducible assumption | assumption | exact rng_zero (by omega) (by omega) | omega), (by first | with_reducible assumption | assumption | exact rng_zero (by omega) (by omega) | omega), (by first | with_reducible assumption | assumption | exact rng_zero (by omega) (by omega) | omega), (by first | with_reducible assumption | assumption | exact rng_zero (by omega) (by omega) | omega), (by first | with_reducible assumption | assumption | exact rng_zero (by omega) (by omega) | omega), (by first | with_reducible assumption | assumption | exact rng_zero (by omega) (by omega) | omega), by rw [ht]; exact hP, hD⟩, hS.F ht⟩) hS.2.2 dX12_read_44
    · exact absurd c_3 (by decide)
  · have e_ := e_.symm
    subst e_
    refine lv_if_ne (tgt := 28) hx hb dX12_read_19 (by decide) (fun c_136 => ?_) (fun c_136 => ?_)
    · exact absurd c_136 (by decide)
    · have _ := c_136
      refine lv_aload_n hx hb dX12_read_22 rfl (lv_at hl 0 rfl) ?_
      refine lv_iconst (v := (-1)) hx hb dX12_read_23 (by decide) ?_
      refine ct_S hP hD hS hA [(mo, .inr (12, [.int 0, .int 0, .long t2, .int s3, .int s4, .ref g5, .ref g6, .ref g7, .ref g8, .ref g9, .ref g10, .int s11, .ref g12, .ref g13, .ref g14, .ref g15, .ref g16, .ref g17, .ref g18, .ref g19, .ref g20, .int s21, .ref g22, .ref g23, .ref g24, .int s25, .int s26, .int s27, .int s28, .ref g29, .ref g30, .ref g31, .ref g32, .ref g33]))] [0] (by decide) rfl (fun hPc hDw hFc hC_ => ?_)
      refine va_calli (va_runV (As := [.int (-1)]) (rest := []) ⟨hx, hb, hml, hown, hts⟩ (c_X12_no l D cy H.size mo g5 g6 g7 g8 g9 g10 g12 g13 g14 g15 g16 g17 g18 g19 g20 g22 g23 g24 g29 g30 g31 g32 g33 (0 : Int32) (0 : Int32) s3 s4 s11 s21 s25 s26 s27 s28 t2 ((-1) : Int32)) (cwV 1 hts gX12_read_X12_no rfl rfl rfl (by decide +kernel) ⟨Nat.le_of_ble_eq_true rfl, Nat.le_of_ble_eq_true rfl⟩) ⟨bl_, va_recvX hK.1 hP (ci := 12) (q0 := 0) rfl rfl, fun U hU hW => ⟨rfl, by rw [hU], by rw [hU]; exact hPc, kk_mv hW hK, hDw⟩⟩ rfl rfl hl.1 rfl (lv_room (Nat.le_of_ble_eq_true rfl)) dX12_read_24 ⟨Nat.le_of_ble_eq_true rfl, Nat.le_of_ble_eq_true rfl⟩) hS (fun q _ h => hFc q h) hFc (fun r_137 u t H locs ht hvm hw hB hz1 hk1 hS => ?_)
      obtain ⟨n1_138, hP1, hD1⟩ := hB
      rw [ht] at hP1
      obtain ⟨hP, hD⟩ := va_join (wr := [(g5, .inl (cy 0, 40, .inl f5)), (g6, .inl (cy 0, 40, .inl f6)), (g7, .inl (cy 0, 40, .inl f7)), (g8, .inl (cy 0, 40, .inl f8)), (g9, .inl (cy 0, 40, .inl f9)), (g10, .inl (cy 2, 40, .inl f10)), (g12, .inl (cy 0, 30, .inl f12)), (g13, .inl (cy 0, 30, .inl f13)), (g14, .inl (cy 0, 6000, .inl f14)), (g15, .inl (cy 2, 4, .inl f15)), (g17, .inl (cy 0, 4, .inl f17)), (g18, .inl (cy 0, 24, .inl f18)), (g19, .inl (cy 1, 120, .inr (.inl f19)))]) (w1 := [(mo, .inr (12, [.int 0, .int n1_138, .long t2, .int s3, .int s4, .ref g5, .ref g6, .ref g7, .ref g8, .ref g9, .ref g10, .int s11, .ref g12, .ref g13, .ref g14, .ref g15, .ref g16, .ref g17, .ref g18, .ref g19, .ref g20, .int s21, .ref g22, .ref g23, .ref g24, .int s25, .int s26, .int s27, .int s28, .ref g29, .ref g30, .ref g31, .ref g32, .ref g33]))]) hP hD [0] [1, 2, 3, 4, 5, 6, 7, 8, 9, 10, 11, 12, 13] hC_ rfl (by decide +kernel) (by decide +kernel) hk1 hFc hP1 hD1
      refine pd_S hP hD [(mo, .inr (12, [.int 0, .int n1_138, .long t2, .int s3, .int s4, .ref g5, .ref g6, .ref g7, .ref g8, .ref g9, .ref g10, .int s11, .ref g12, .ref g13, .ref g14, .ref g15, .ref g16, .ref g17, .ref g18, .ref g19, .ref g20, .int s21, .ref g22, .ref g23, .ref g24, .int s25, .int s26, .int s27, .int s28, .ref g29, .ref g30, .ref g31, .ref g32, .ref g33])), (g5, .inl (cy 0, 40, .inl f5)), (g6, .inl (cy 0, 40, .inl f6)), (g7, .inl (cy 0, 40, .inl f7)), (g8, .inl (cy 0, 40, .inl f8)), (g9, .inl (cy 0, 40, .inl f9)), (g10, .inl (cy 2, 40, .inl f10)), (g12, .inl (cy 0, 30, .inl f12)), (g13, .inl (cy 0, 30, .inl f13)), (g14, .inl (cy 0, 6000, .inl f14)), (g15, .inl (cy 2, 4, .inl f15)), (g17, .inl (cy 0, 4, .inl f17)), (g18, .inl (cy 0, 24, .inl f18)), (g19, .inl (cy 1, 120, .inr (.inl f19)))] [13, 0, 1, 2, 3, 4, 5, 6, 7, 8, 9, 10, 11, 12] (by decide +kernel) rfl (fun hP hD => ?_)
      have e_ := hw.symm
      subst e_
      rw [hQ]
      exact W.iret (v := (-1)) hx hb hr (fun t ht hW => ⟨⟨(-1), (), rfl, trivial, n1_138, t2, s4, s11, f5, f6, f7, f8, f9, f10, f12, f13, f14, (by first | with_reducible assumption | omega | assumption), (by first | with_reducible assumption | omega | assumption), (by assumption), (by assumption), (by first | with_reducible assumption | assumption | exact rng_zero (by omega) (by omega) | omega), (by first | with_reducible assumption | assumption | exact rng_zero (by omega) (by omega) | omega), (by first | with_reducible assumption | assumption | exact rng_zero (by omega) (by omega) | omega), (by first | with_reducible assumption | assumption | exact rng_zero (by omega) (by omega) | omega), (by first | with_reducible assumption | assumption | exact rng_zero (by omega) (by omega) | omega), (by first | with_reducible assumption | assumption | exact rng_zero (by omega) (by omega) | omega), (by first | with_reducible assumption | assumption | exact rng_zero (by omega) (by omega) | omega), by rw [ht]; exact hP, hD⟩, hS.F ht⟩) hS.2.2 dX12_read_27
end

section
/-! ===== the nets that are remembered: made one by one, used again ===== -/
/-- the six cells of the k-th -/
noncomputable def pnet (cy : Nat → ClassId) (pa : Nat → Nat → Nat) (pv : Nat → Nat → Int32) (pg : Nat → Nat → Nat → Int32) (k : Nat) : va_W := [(pa k 0, .inr (3, [.int (pv k 0), .int (pv k 1), .ref (pa k 1), .ref (pa k 2), .ref (pa k 3), .ref (pa k 4), .ref (pa k 5)])), (pa k 1, .inl (cy 0, 40, .inl (pg k 1))), (pa k 2, .inl (cy 0, 40, .inl (pg k 2))), (pa k 3, .inl (cy 0, 40, .inl (pg k 3))), (pa k 4, .inl (cy 0, 40, .inl (pg k 4))), (pa k 5, .inl (cy 0, 40, .inl (pg k 5)))]
/-- those from k on, n of them -/
noncomputable def pls (cy : Nat → ClassId) (pa : Nat → Nat → Nat) (pv : Nat → Nat → Int32) (pg : Nat → Nat → Nat → Int32) : Nat → Nat → va_W
  | _, 0 => []
  | k, n + 1 => pnet cy pa pv pg k ++ pls cy pa pv pg (k + 1) n
noncomputable def pool (cy : Nat → ClassId) (pa : Nat → Nat → Nat) (pv : Nat → Nat → Int32) (pg : Nat → Nat → Nat → Int32) (m : Nat) : va_W := pls cy pa pv pg 0 m
/-- all but the k-th -/
noncomputable def prest (cy : Nat → ClassId) (pa : Nat → Nat → Nat) (pv : Nat → Nat → Int32) (pg : Nat → Nat → Nat → Int32) (m k : Nat) : va_W := pls cy pa pv pg (k + 1) (m - k - 1) ++ pls cy pa pv pg 0 k
section POOL
variable {cy : Nat → ClassId} {pa pa2 : Nat → Nat → Nat} {pv pv2 : Nat → Nat → Int32} {pg pg2 : Nat → Nat → Nat → Int32} {X : va_W} {D : va_G} {cl : List vw_C} {H : Heap} {A : Nat → Prop}
theorem pls_app : ∀ (a b k : Nat), pls cy pa pv pg k (a + b) = pls cy pa pv pg k a ++ pls cy pa pv pg (k + a) b
  | 0, b, k => by
    rw [Nat.zero_add]
    rfl
  | a + 1, b, k => by
    rw [show a + 1 + b = (a + b) + 1 by omega]
    show pnet cy pa pv pg k ++ pls cy pa pv pg (k + 1) (a + b) = (pnet cy pa pv pg k ++ pls cy pa pv pg (k + 1) a) ++ pls cy pa pv pg (k + (a + 1)) b
    rw [pls_app a b (k + 1), List.append_assoc, show k + 1 + a = k + (a + 1) by omega]
theorem pls_cg : ∀ (n k : Nat), (∀ i : Nat, k ≤ i → i < k + n → pa2 i = pa i ∧ pv2 i = pv i ∧ pg2 i = pg i) → pls cy pa2 pv2 pg2 k n = pls cy pa pv pg k n
  | 0, _, _ => rfl
  | n + 1, k, h => by
    show pnet cy pa2 pv2 pg2 k ++ pls cy pa2 pv2 pg2 (k + 1) n = pnet cy pa pv pg k ++ pls cy pa pv pg (k + 1) n
    rw [pls_cg n (k + 1) (fun i h1 h2 => h i (by omega) (by omega))]
    have a := h k (by omega) (by omega)
    unfold pnet
    rw [a.1, a.2.1, a.2.2]
theorem pool_split {m k : Nat} (hk : k < m) : pool cy pa pv pg m = pls cy pa pv pg 0 k ++ (pnet cy pa pv pg k ++ pls cy pa pv pg (k + 1) (m - k - 1)) := by
  have e : m = k + (m - k) := by omega
  unfold pool
  rw [e, pls_app k (m - k) 0, Nat.zero_add, ← e]
  have e2 : m - k = (m - k - 1) + 1 := by omega
  rw [e2]
  rfl
theorem foc_P {m k : Nat} (hk : k < m) (h : va_P D cl (X ++ pool cy pa pv pg m) H) : va_P D cl ((X ++ pnet cy pa pv pg k) ++ prest cy pa pv pg m k) H := by
  rw [pool_split hk, ← List.append_assoc] at h
  have h2 := h.swap
  unfold prest
  rw [List.append_assoc, ← List.append_assoc (pnet cy pa pv pg k), ← List.append_assoc]
  exact h2
theorem foc_D {m k : Nat} (hk : k < m) (h : va_D A (X ++ pool cy pa pv pg m)) : va_D A ((X ++ pnet cy pa pv pg k) ++ prest cy pa pv pg m k) := by
  rw [pool_split hk, ← List.append_assoc] at h
  have h2 := h.swap
  unfold prest
  rw [List.append_assoc, ← List.append_assoc (pnet cy pa pv pg k), ← List.append_assoc]
  exact h2
theorem unf_P {m k : Nat} (hk : k < m) (hc : ∀ i : Nat, i ≠ k → pv2 i = pv i ∧ pg2 i = pg i) (h : va_P D cl ((X ++ pnet cy pa pv2 pg2 k) ++ prest cy pa pv pg m k) H) : va_P D cl (X ++ pool cy pa pv2 pg2 m) H := by
  have e : prest cy pa pv pg m k = prest cy pa pv2 pg2 m k := by
    unfold prest
    rw [pls_cg (m - k - 1) (k + 1) (pa2 := pa) (pv2 := pv2) (pg2 := pg2) (fun i h1 h2 => ⟨rfl, hc i (by omega)⟩), pls_cg k 0 (pa2 := pa) (pv2 := pv2) (pg2 := pg2) (fun i h1 h2 => ⟨rfl, hc i (by omega)⟩)]
  rw [e] at h
  unfold prest at h
  rw [List.append_assoc, ← List.append_assoc (pnet cy pa pv2 pg2 k), ← List.append_assoc] at h
  have h2 := h.swap
  rw [pool_split hk, ← List.append_assoc]
  exact h2
theorem unf_D {m k : Nat} (hk : k < m) (hc : ∀ i : Nat, i ≠ k → pv2 i = pv i ∧ pg2 i = pg i) (h : va_D A ((X ++ pnet cy pa pv2 pg2 k) ++ prest cy pa pv pg m k)) : va_D A (X ++ pool cy pa pv2 pg2 m) := by
  have e : prest cy pa pv pg m k = prest cy pa pv2 pg2 m k := by
    unfold prest
    rw [pls_cg (m - k - 1) (k + 1) (pa2 := pa) (pv2 := pv2) (pg2 := pg2) (fun i h1 h2 => ⟨rfl, hc i (by omega)⟩), pls_cg k 0 (pa2 := pa) (pv2 := pv2) (pg2 := pg2) (fun i h1 h2 => ⟨rfl, hc i (by omega)⟩)]
  rw [e] at h
  unfold prest at h
  rw [List.append_assoc, ← List.append_assoc (pnet cy pa pv2 pg2 k), ← List.append_assoc] at h
  have h2 := h.swap
  rw [pool_split hk, ← List.append_assoc]
  exact h2
theorem pool_more {m : Nat} (hc : ∀ i : Nat, i < m → pa2 i = pa i ∧ pv2 i = pv i ∧ pg2 i = pg i) : pool cy pa2 pv2 pg2 (m + 1) = pool cy pa pv pg m ++ pnet cy pa2 pv2 pg2 m := by
  unfold pool
  rw [pls_app m 1 0, pls_cg m 0 (fun i h1 h2 => hc i (by omega)), Nat.zero_add]
  show _ ++ (pnet cy pa2 pv2 pg2 m ++ []) = _
  rw [List.append_nil]
theorem more_P {m : Nat} (hc : ∀ i : Nat, i < m → pa2 i = pa i ∧ pv2 i = pv i ∧ pg2 i = pg i) (h : va_P D cl ((X ++ pnet cy pa2 pv2 pg2 m) ++ pool cy pa pv pg m) H) : va_P D cl (X ++ pool cy pa2 pv2 pg2 (m + 1)) H := by
  rw [pool_more hc, ← List.append_assoc]
  exact h.swap
theorem more_D {m : Nat} (hc : ∀ i : Nat, i < m → pa2 i = pa i ∧ pv2 i = pv i ∧ pg2 i = pg i) (h : va_D A ((X ++ pnet cy pa2 pv2 pg2 m) ++ pool cy pa pv pg m)) : va_D A (X ++ pool cy pa2 pv2 pg2 (m + 1)) := by
  rw [pool_more hc, ← List.append_assoc]
  exact h.swap
end POOL
/-- the row of the nets that are remembered -/
noncomputable def pst (pa : Nat → Nat → Nat) (m : Nat) : Nat → Option Nat := fun k => if k < m then some (pa k 0) else none
theorem pst_some {pa : Nat → Nat → Nat} {m k : Nat} (h : k < m) : va_rf (pst pa m k) = .ref (pa k 0) := by
  unfold pst
  rw [if_pos h]
  rfl
theorem pst_none {pa : Nat → Nat → Nat} {m k : Nat} (h : ¬ k < m) : va_rf (pst pa m k) = .null := by
  unfold pst
  rw [if_neg h]
  rfl
theorem pst_more {pa pa2 : Nat → Nat → Nat} {m k q : Nat} (ek : k = m) (hq : pa2 m 0 = q) (hc : ∀ i : Nat, i < m → pa2 i = pa i) : va_up (pst pa m) k (some q) = pst pa2 (m + 1) := by
  subst ek
  funext i
  unfold pst
  by_cases e : i = k
  · subst e
    rw [va_up_self, if_pos (by omega), hq]
  · rw [va_up_ne _ _ e]
    show (if i < k then some (pa i 0) else none) = if i < k + 1 then some (pa2 i 0) else none
    by_cases h : i < k
    · rw [if_pos h, if_pos (by omega), hc i h]
    · rw [if_neg h, if_neg (by omega)]
/-- a net's numbers are as they may be -/
noncomputable def nok (vp vn : Int32) (fk fs fe fw fp : Nat → Int32) : Prop := (0 ≤ vp.toInt ∧ vp.toInt ≤ 12) ∧ (0 ≤ vn.toInt ∧ vn.toInt ≤ 40) ∧ rng fk 40 0 4 ∧ prng fs fe 40 ∧ rng fw 40 0 2000 ∧ rng fp 40 0 100
noncomputable def pok (pv : Nat → Nat → Int32) (pg : Nat → Nat → Nat → Int32) (m : Nat) : Prop := ∀ k : Nat, k < m → nok (pv k 0) (pv k 1) (pg k 1) (pg k 2) (pg k 3) (pg k 4) (pg k 5)
/-- first and held of the ring, and how many are made -/
noncomputable def rok (pf ph : Int32) (m : Nat) : Prop := (0 ≤ pf.toInt ∧ pf.toInt ≤ 29) ∧ (0 ≤ ph.toInt ∧ ph.toInt ≤ 30) ∧ m ≤ 30 ∧ ph.toInt ≤ m ∧ (pf.toInt = 0 ∨ m = 30)
noncomputable def qn2 (a b : Int32) : Nat → Int32 := fun i => if i = 0 then a else b
noncomputable def qn5 (f1 f2 f3 f4 f5 : Nat → Int32) : Nat → Nat → Int32 := fun i => if i = 1 then f1 else if i = 2 then f2 else if i = 3 then f3 else if i = 4 then f4 else f5
noncomputable def qn6 (a b c d e f : Nat) : Nat → Nat := fun i => if i = 0 then a else if i = 1 then b else if i = 2 then c else if i = 3 then d else if i = 4 then e else f
theorem pok_st {pv : Nat → Nat → Int32} {pg : Nat → Nat → Nat → Int32} {m m2 k : Nat} {vp vn : Int32} {f1 f2 f3 f4 f5 : Nat → Int32} (h : pok pv pg m) (hm : m2 ≤ m ∨ (m2 = m + 1 ∧ k = m)) (hn : nok vp vn f1 f2 f3 f4 f5) : pok (va_up pv k (qn2 vp vn)) (va_up pg k (qn5 f1 f2 f3 f4 f5)) m2 := fun j hj => by
  by_cases e : j = k
  · subst e
    rw [va_up_self, va_up_self]
    exact hn
  · rw [va_up_ne _ _ e, va_up_ne _ _ e]
    exact h j (by omega)
theorem prng_zero {n : Nat} : prng (fun _ => 0) (fun _ => 0) n := fun j _ => by
  have z : (0 : Int32).toInt = 0 := by decide
  show (0 : Int32).toInt = -9 ∨ (0 ≤ (0 : Int32).toInt ∧ (0 : Int32).toInt ≤ 11 ∧ 0 ≤ (0 : Int32).toInt ∧ (0 : Int32).toInt ≤ 11)
  omega
theorem rem30 {x : Int32} (h : 0 ≤ x.toInt) : (x - x / 30 * 30).toInt = x.toInt % 30 := by
  obtain ⟨j, hj, rfl⟩ := nI_of (x := x) (fun h9 => by
    have := Int32.lt_iff_toInt_lt.mp h9
    have z : (0 : Int32).toInt = 0 := by decide
    omega)
  have e : (30 : Int32) = nI 30 := rfl
  rw [e, pk_rem hj (by decide) (by decide), nI_toInt (by omega), nI_toInt hj]
  omega

set_option maxHeartbeats 4000000 in
set_option maxRecDepth 100000 in
theorem c_X3_init (l : Launch) (D : va_G) (cy : Nat → ClassId) (sz : Nat) (h0 : Nat) : Met l yX3_init wsX3_init ({ frames := 1, cells := 5, slots := 200, locals := 12 }) (va_Pc [.ref h0] (fun U => U.heap.size = sz ∧ va_P D vwCl [(h0, .inr (3, [.int 0, .int 0, .null, .null, .null, .null, .null]))] U.heap ∧ kk_ D cy U ∧ va_D (fun _ => True) [(h0, .inr (3, [.int 0, .int 0, .null, .null, .null, .null, .null]))])) (va_Qv (fun (_ : Unit) => True) (fun (_ : Unit) (t : State) => ∃ (n1 : Nat), ∃ (n2 : Nat), ∃ (n3 : Nat), ∃ (n4 : Nat), ∃ (n5 : Nat), va_P D vwCl [(h0, .inr (3, [.int 0, .int 0, .ref n1, .ref n2, .ref n3, .ref n4, .ref n5])), (n1, .inl (cy 0, 40, .inl (fun _ => 0))), (n2, .inl (cy 0, 40, .inl (fun _ => 0))), (n3, .inl (cy 0, 40, .inl (fun _ => 0))), (n4, .inl (cy 0, 40, .inl (fun _ => 0))), (n5, .inl (cy 0, 40, .inl (fun _ => 0)))] t.heap ∧ va_D (va_A [(h0, .inr (3, [.int 0, .int 0, .null, .null, .null, .null, .null]))] sz) [(h0, .inr (3, [.int 0, .int 0, .ref n1, .ref n2, .ref n3, .ref n4, .ref n5])), (n1, .inl (cy 0, 40, .inl (fun _ => 0))), (n2, .inl (cy 0, 40, .inl (fun _ => 0))), (n3, .inl (cy 0, 40, .inl (fun _ => 0))), (n4, .inl (cy 0, 40, .inl (fun _ => 0))), (n5, .inl (cy 0, 40, .inl (fun _ => 0)))]) (va_A [(h0, .inr (3, [.int 0, .int 0, .null, .null, .null, .null, .null]))] sz)) 5 200 (va_A [(h0, .inr (3, [.int 0, .int 0, .null, .null, .null, .null, .null]))] sz) := by
  refine ofQ (cc := cX3_init) (maxL := 1) (ret := none) (by decide) rfl ?_
  intro p e s m args below meth c s₁ Q hQ B hml hv
  obtain ⟨rfl, hsz, hP, hK, hD0⟩ := hv
  have hx := B.exec
  have hb := B.bytes
  have hr := B.returns
  have hts := atoms_spec (ws := wsX3_init) B.pre
  have hown : s.vm.findClass RX3 = some m.cls := by have h_ := findClass_of_methodNamed B.named; exact h_
  have hlocks := B.notSynchronized
  have hin : meth.name = "<init>" := (name_of_methodNamed B.named B.method).1
  subst hsz
  have hD := hD0.self (sz := s.heap.size)
  generalize hAe : va_A [(h0, .inr (3, [.int 0, .int 0, .null, .null, .null, .null, .null]))] s.heap.size = A at hD hQ
  have hA : ∀ q : Nat, s.heap.size ≤ q → A q := fun q h => by rw [← hAe]; exact Or.inr h
  have hS : va_S A s.heap s.heap [] := va_S.rf
  have hl := lv_entry ([.ref h0]) (n := 1) (Nat.le_of_ble_eq_true rfl)
  rw [lg_entry_eq]
  generalize (lg_sl ([.ref h0]) ++ List.replicate (1 - (lg_sl ([.ref h0])).length) Slot.unset).toArray = ls at hl ⊢
  have hl : lv_has ls 1 [(0, .ref h0)] := hl
  refine lv_aload_n hx hb dX3_init_0 rfl (lv_at hl 0 rfl) ?_
  refine W.objInit hx hb hown (hts (.methodLink RX3 3 objectInit) (by decide +kernel)) (hts (.instanceMethod objectInit) (by decide +kernel)) (hts (.code objectInit ⟨#[0xb1]⟩ 1 none) (by decide +kernel)) rfl (by rw [hml]; exact hl.1) rfl dX3_init_1 (Nat.le_of_ble_eq_true rfl) (Nat.le_of_ble_eq_true rfl) ?_
  refine W.eq (g2 := F0 m 4 ls []) rfl ?_
  refine lv_aload_n hx hb dX3_init_4 rfl (lv_at hl 0 rfl) ?_
  refine lv_iconst (v := 0) hx hb dX3_init_5 (by decide) ?_
  refine va_put (ci := 3) (v := .int 0) (ty := .int) (C := RX3) (T := TX3) (N := 7) hx hb hts (fun _ h => List.mem_cons_of_mem _ (List.mem_append_right _ h)) tyX3 tyX3_ok nmX3 hown hK.1 hP hD hS 0 rfl rfl 0 (by decide) (hts (.fieldLink RX3 9 "CutAtlas$Net" "places" "I") (by decide +kernel)) (fun _ h9 => h9) rfl (by decide +kernel) rfl rfl (Nat.le_of_ble_eq_true rfl) dX3_init_6 (fun H locs hP hD hS => ?_)
  refine pd_K [(h0, .inr (3, [.int 0, .int 0, .null, .null, .null, .null, .null]))] hP hD (fun hP hD => ?_)
  refine lv_aload_n hx hb dX3_init_9 rfl (lv_at hl 0 rfl) ?_
  refine lv_iconst (v := 0) hx hb dX3_init_10 (by decide) ?_
  refine va_put (ci := 3) (v := .int 0) (ty := .int) (C := RX3) (T := TX3) (N := 7) hx hb hts (fun _ h => List.mem_cons_of_mem _ (List.mem_append_right _ h)) tyX3 tyX3_ok nmX3 hown hK.1 hP hD hS 0 rfl rfl 1 (by decide) (hts (.fieldLink RX3 15 "CutAtlas$Net" "lines" "I") (by decide +kernel)) (fun _ h9 => h9) rfl (by decide +kernel) rfl rfl (Nat.le_of_ble_eq_true rfl) dX3_init_11 (fun H locs hP hD hS => ?_)
  refine pd_K [(h0, .inr (3, [.int 0, .int 0, .null, .null, .null, .null, .null]))] hP hD (fun hP hD => ?_)
  refine lv_aload_n hx hb dX3_init_14 rfl (lv_at hl 0 rfl) ?_
  refine lv_bipush (v := 40) hx hb dX3_init_15 (by decide) ?_
  refine nw_a (a0 := (40, .inl (fun _ => 0))) (ty := .int) hx hb (hts (.arrayClass .int) (by decide +kernel)) rfl hK.1 0 rfl (fun _ h => by cases h) hP hD hS hA (fun _ => rfl) (by decide) (by decide) (by decide) (Nat.le_of_ble_eq_true rfl) (Nat.le_of_ble_eq_true rfl) dX3_init_17 (fun q_1 H hP hD hS => ?_)
  refine pd_K [(h0, .inr (3, [.int 0, .int 0, .null, .null, .null, .null, .null])), (q_1, .inl (cy 0, 40, .inl (fun _ => 0)))] hP hD (fun hP hD => ?_)
  refine va_putF (ci := 3) (v := .ref q_1) (ty := (tyX3 2)) (C := RX3) (T := TX3) (N := 7) hx hb hts (fun _ h => List.mem_cons_of_mem _ (List.mem_append_right _ h)) tyX3 tyX3_ok nmX3 hown hK.1 hP hD hS 0 rfl rfl 2 (by decide) (hts (.fieldLink RX3 18 "CutAtlas$Net" "kinds" "[I") (by decide +kernel)) (fun _ h9 => h9) rfl hin rfl (by decide +kernel) rfl rfl (Nat.le_of_ble_eq_true rfl) dX3_init_19 (fun H locs hP hD hS => ?_)
  refine pd_K [(h0, .inr (3, [.int 0, .int 0, .ref q_1, .null, .null, .null, .null])), (q_1, .inl (cy 0, 40, .inl (fun _ => 0)))] hP hD (fun hP hD => ?_)
  refine lv_aload_n hx hb dX3_init_22 rfl (lv_at hl 0 rfl) ?_
  refine lv_bipush (v := 40) hx hb dX3_init_23 (by decide) ?_
  refine nw_a (a0 := (40, .inl (fun _ => 0))) (ty := .int) hx hb (hts (.arrayClass .int) (by decide +kernel)) rfl hK.1 0 rfl (fun _ h => by cases h) hP hD hS hA (fun _ => rfl) (by decide) (by decide) (by decide) (Nat.le_of_ble_eq_true rfl) (Nat.le_of_ble_eq_true rfl) dX3_init_25 (fun q_2 H hP hD hS => ?_)
  refine pd_K [(h0, .inr (3, [.int 0, .int 0, .ref q_1, .null, .null, .null, .null])), (q_1, .inl (cy 0, 40, .inl (fun _ => 0))), (q_2, .inl (cy 0, 40, .inl (fun _ => 0)))] hP hD (fun hP hD => ?_)
  refine va_putF (ci := 3) (v := .ref q_2) (ty := (tyX3 3)) (C := RX3) (T := TX3) (N := 7) hx hb hts (fun _ h => List.mem_cons_of_mem _ (List.mem_append_right _ h)) tyX3 tyX3_ok nmX3 hown hK.1 hP hD hS 0 rfl rfl 3 (by decide) (hts (.fieldLink RX3 22 "CutAtlas$Net" "starts" "[I") (by decide +kernel)) (fun _ h9 => h9) rfl hin rfl (by decide +kernel) rfl rfl (Nat.le_of_ble_eq_true rfl) dX3_init_27 (fun H locs hP hD hS => ?_)
  refine pd_K [(h0, .inr (3, [.int 0, .int 0, .ref q_1, .ref q_2, .null, .null, .null])), (q_1, .inl (cy 0, 40, .inl (fun _ => 0))), (q_2, .inl (cy 0, 40, .inl (fun _ => 0)))] hP hD (fun hP hD => ?_)
  refine lv_aload_n hx hb dX3_init_30 rfl (lv_at hl 0 rfl) ?_
  refine lv_bipush (v := 40) hx hb dX3_init_31 (by decide) ?_
  refine nw_a (a0 := (40, .inl (fun _ => 0))) (ty := .int) hx hb (hts (.arrayClass .int) (by decide +kernel)) rfl hK.1 0 rfl (fun _ h => by cases h) hP hD hS hA (fun _ => rfl) (by decide) (by decide) (by decide) (Nat.le_of_ble_eq_true rfl) (Nat.le_of_ble_eq_true rfl) dX3_init_33 (fun q_3 H hP hD hS => ?_)
  refine pd_K [(h0, .inr (3, [.int 0, .int 0, .ref q_1, .ref q_2, .null, .null, .null])), (q_1, .inl (cy 0, 40, .inl (fun _ => 0))), (q_2, .inl (cy 0, 40, .inl (fun _ => 0))), (q_3, .inl (cy 0, 40, .inl (fun _ => 0)))] hP hD (fun hP hD => ?_)
  refine va_putF (ci := 3) (v := .ref q_3) (ty := (tyX3 4)) (C := RX3) (T := TX3) (N := 7) hx hb hts (fun _ h => List.mem_cons_of_mem _ (List.mem_append_right _ h)) tyX3 tyX3_ok nmX3 hown hK.1 hP hD hS 0 rfl rfl 4 (by decide) (hts (.fieldLink RX3 25 "CutAtlas$Net" "ends" "[I") (by decide +kernel)) (fun _ h9 => h9) rfl hin rfl (by decide +kernel) rfl rfl (Nat.le_of_ble_eq_true rfl) dX3_init_35 (fun H locs hP hD hS => ?_)
  refine pd_K [(h0, .inr (3, [.int 0, .int 0, .ref q_1, .ref q_2, .ref q_3, .null, .null])), (q_1, .inl (cy 0, 40, .inl (fun _ => 0))), (q_2, .inl (cy 0, 40, .inl (fun _ => 0))), (q_3, .inl (cy 0, 40, .inl (fun _ => 0)))] hP hD (fun hP hD => ?_)
  refine lv_aload_n hx hb dX3_init_38 rfl (lv_at hl 0 rfl) ?_
  refine lv_bipush (v := 40) hx hb dX3_init_39 (by decide) ?_
  refine nw_a (a0 := (40, .inl (fun _ => 0))) (ty := .int) hx hb (hts (.arrayClass .int) (by decide +kernel)) rfl hK.1 0 rfl (fun _ h => by cases h) hP hD hS hA (fun _ => rfl) (by decide) (by decide) (by decide) (Nat.le_of_ble_eq_true rfl) (Nat.le_of_ble_eq_true rfl) dX3_init_41 (fun q_4 H hP hD hS => ?_)
  refine pd_K [(h0, .inr (3, [.int 0, .int 0, .ref q_1, .ref q_2, .ref q_3, .null, .null])), (q_1, .inl (cy 0, 40, .inl (fun _ => 0))), (q_2, .inl (cy 0, 40, .inl (fun _ => 0))), (q_3, .inl (cy 0, 40, .inl (fun _ => 0))), (q_4, .inl (cy 0, 40, .inl (fun _ => 0)))] hP hD (fun hP hD => ?_)
  refine va_putF (ci := 3) (v := .ref q_4) (ty := (tyX3 5)) (C := RX3) (T := TX3) (N := 7) hx hb hts (fun _ h => List.mem_cons_of_mem _ (List.mem_append_right _ h)) tyX3 tyX3_ok nmX3 hown hK.1 hP hD hS 0 rfl rfl 5 (by decide) (hts (.fieldLink RX3 28 "CutAtlas$Net" "widths" "[I") (by decide +kernel)) (fun _ h9 => h9) rfl hin rfl (by decide +kernel) rfl rfl (Nat.le_of_ble_eq_true rfl) dX3_init_43 (fun H locs hP hD hS => ?_)
  refine pd_K [(h0, .inr (3, [.int 0, .int 0, .ref q_1, .ref q_2, .ref q_3, .ref q_4, .null])), (q_1, .inl (cy 0, 40, .inl (fun _ => 0))), (q_2, .inl (cy 0, 40, .inl (fun _ => 0))), (q_3, .inl (cy 0, 40, .inl (fun _ => 0))), (q_4, .inl (cy 0, 40, .inl (fun _ => 0)))] hP hD (fun hP hD => ?_)
  refine lv_aload_n hx hb dX3_init_46 rfl (lv_at hl 0 rfl) ?_
  refine lv_bipush (v := 40) hx hb dX3_init_47 (by decide) ?_
  refine nw_a (a0 := (40, .inl (fun _ => 0))) (ty := .int) hx hb (hts (.arrayClass .int) (by decide +kernel)) rfl hK.1 0 rfl (fun _ h => by cases h) hP hD hS hA (fun _ => rfl) (by decide) (by decide) (by decide) (Nat.le_of_ble_eq_true rfl) (Nat.le_of_ble_eq_true rfl) dX3_init_49 (fun q_5 H hP hD hS => ?_)
  refine pd_K [(h0, .inr (3, [.int 0, .int 0, .ref q_1, .ref q_2, .ref q_3, .ref q_4, .null])), (q_1, .inl (cy 0, 40, .inl (fun _ => 0))), (q_2, .inl (cy 0, 40, .inl (fun _ => 0))), (q_3, .inl (cy 0, 40, .inl (fun _ => 0))), (q_4, .inl (cy 0, 40, .inl (fun _ => 0))), (q_5, .inl (cy 0, 40, .inl (fun _ => 0)))] hP hD (fun hP hD => ?_)
  refine va_putF (ci := 3) (v := .ref q_5) (ty := (tyX3 6)) (C := RX3) (T := TX3) (N := 7) hx hb hts (fun _ h => List.mem_cons_of_mem _ (List.mem_append_right _ h)) tyX3 tyX3_ok nmX3 hown hK.1 hP hD hS 0 rfl rfl 6 (by decide) (hts (.fieldLink RX3 31 "CutAtlas$Net" "prices" "[I") (by decide +kernel)) (fun _ h9 => h9) rfl hin rfl (by decide +kernel) rfl rfl (Nat.le_of_ble_eq_true rfl) dX3_init_51 (fun H locs hP hD hS => ?_)
  refine pd_K [(h0, .inr (3, [.int 0, .int 0, .ref q_1, .ref q_2, .ref q_3, .ref q_4, .ref q_5])), (q_1, .inl (cy 0, 40, .inl (fun _ => 0))), (q_2, .inl (cy 0, 40, .inl (fun _ => 0))), (q_3, .inl (cy 0, 40, .inl (fun _ => 0))), (q_4, .inl (cy 0, 40, .inl (fun _ => 0))), (q_5, .inl (cy 0, 40, .inl (fun _ => 0)))] hP hD (fun hP hD => ?_)
  rw [hQ]
  exact W.vret hx hb hr (fun t ht hW => ⟨⟨(), rfl, trivial, q_1, q_2, q_3, q_4, q_5, by rw [ht]; exact hP, hD⟩, hS.F ht⟩) hS.2.2 dX3_init_54
end

section
set_option maxHeartbeats 4000000 in
set_option maxRecDepth 100000 in
theorem c_X11_remember (l : Launch) (D : va_G) (cy : Nat → ClassId) (sz : Nat) (xo : Nat) (xk : Nat) (xn : Nat) (xc : Nat) (xh : Nat) (xt : Nat) (xw : Nat) (xm : Nat) (xp : Nat) (pf : Int32) (ph : Int32) (tr : Int64) (fi : Int32) (n1 : Nat) (n2 : Nat) (n3 : Nat) (n4 : Nat) (n5 : Nat) (vp : Int32) (vn : Int32) (fk : Nat → Int32) (fs : Nat → Int32) (fe : Nat → Int32) (fw : Nat → Int32) (fp : Nat → Int32) (pa : Nat → Nat → Nat) (pv : Nat → Nat → Int32) (pg : Nat → Nat → Nat → Int32) (pm : Nat) (hnk : nok vp vn fk fs fe fw fp) (hpk : pok pv pg pm) (hrk : rok pf ph pm) (hpr : prng fs fe 40) (r_fk : rng fk 40 (0) (4)) (r_fw : rng fw 40 (0) (2000)) (r_fp : rng fp 40 (0) (100)) : Met l yX11_remember wsX11_remember ({ frames := 2, cells := 6, slots := 207, locals := 61 }) (va_Pc [.ref xo] (fun U => U.heap.size = sz ∧ va_P D vwCl (([(xo, .inr (11, [.ref xk, .ref xn, .ref xc, .ref xh, .ref xt, .ref xw, .ref xm, .ref xp, .int pf, .int ph, .long tr, .int fi])), (xn, .inr (3, [.int vp, .int vn, .ref n1, .ref n2, .ref n3, .ref n4, .ref n5])), (n1, .inl (cy 0, 40, .inl fk)), (n2, .inl (cy 0, 40, .inl fs)), (n3, .inl (cy 0, 40, .inl fe)), (n4, .inl (cy 0, 40, .inl fw)), (n5, .inl (cy 0, 40, .inl fp)), (xp, .inl (cy 5, 30, .inr (.inr (.inr (.inr (pst pa pm))))))] : va_W) ++ (pool cy pa pv pg pm)) U.heap ∧ kk_ D cy U ∧ va_D (fun _ => True) (([(xo, .inr (11, [.ref xk, .ref xn, .ref xc, .ref xh, .ref xt, .ref xw, .ref xm, .ref xp, .int pf, .int ph, .long tr, .int fi])), (xn, .inr (3, [.int vp, .int vn, .ref n1, .ref n2, .ref n3, .ref n4, .ref n5])), (n1, .inl (cy 0, 40, .inl fk)), (n2, .inl (cy 0, 40, .inl fs)), (n3, .inl (cy 0, 40, .inl fe)), (n4, .inl (cy 0, 40, .inl fw)), (n5, .inl (cy 0, 40, .inl fp)), (xp, .inl (cy 5, 30, .inr (.inr (.inr (.inr (pst pa pm))))))] : va_W) ++ (pool cy pa pv pg pm)))) (va_Qv (fun (_ : Unit) => True) (fun (_ : Unit) (t : State) => ∃ (epf : Int32), ∃ (eph : Int32), ∃ (epa : Nat → Nat → Nat), ∃ (epv : Nat → Nat → Int32), ∃ (epg : Nat → Nat → Nat → Int32), ∃ (epm : Nat), (nok vp vn fk fs fe fw fp) ∧ (pok epv epg epm) ∧ (rok epf eph epm) ∧ va_P D vwCl (([(xo, .inr (11, [.ref xk, .ref xn, .ref xc, .ref xh, .ref xt, .ref xw, .ref xm, .ref xp, .int epf, .int eph, .long tr, .int fi])), (xn, .inr (3, [.int vp, .int vn, .ref n1, .ref n2, .ref n3, .ref n4, .ref n5])), (n1, .inl (cy 0, 40, .inl fk)), (n2, .inl (cy 0, 40, .inl fs)), (n3, .inl (cy 0, 40, .inl fe)), (n4, .inl (cy 0, 40, .inl fw)), (n5, .inl (cy 0, 40, .inl fp)), (xp, .inl (cy 5, 30, .inr (.inr (.inr (.inr (pst epa epm))))))] : va_W) ++ (pool cy epa epv epg epm)) t.heap ∧ va_D (va_A (([(xo, .inr (11, [.ref xk, .ref xn, .ref xc, .ref xh, .ref xt, .ref xw, .ref xm, .ref xp, .int pf, .int ph, .long tr, .int fi])), (xn, .inr (3, [.int vp, .int vn, .ref n1, .ref n2, .ref n3, .ref n4, .ref n5])), (n1, .inl (cy 0, 40, .inl fk)), (n2, .inl (cy 0, 40, .inl fs)), (n3, .inl (cy 0, 40, .inl fe)), (n4, .inl (cy 0, 40, .inl fw)), (n5, .inl (cy 0, 40, .inl fp)), (xp, .inl (cy 5, 30, .inr (.inr (.inr (.inr (pst pa pm))))))] : va_W) ++ (pool cy pa pv pg pm)) sz) (([(xo, .inr (11, [.ref xk, .ref xn, .ref xc, .ref xh, .ref xt, .ref xw, .ref xm, .ref xp, .int epf, .int eph, .long tr, .int fi])), (xn, .inr (3, [.int vp, .int vn, .ref n1, .ref n2, .ref n3, .ref n4, .ref n5])), (n1, .inl (cy 0, 40, .inl fk)), (n2, .inl (cy 0, 40, .inl fs)), (n3, .inl (cy 0, 40, .inl fe)), (n4, .inl (cy 0, 40, .inl fw)), (n5, .inl (cy 0, 40, .inl fp)), (xp, .inl (cy 5, 30, .inr (.inr (.inr (.inr (pst epa epm))))))] : va_W) ++ (pool cy epa epv epg epm))) (va_A (([(xo, .inr (11, [.ref xk, .ref xn, .ref xc, .ref xh, .ref xt, .ref xw, .ref xm, .ref xp, .int pf, .int ph, .long tr, .int fi])), (xn, .inr (3, [.int vp, .int vn, .ref n1, .ref n2, .ref n3, .ref n4, .ref n5])), (n1, .inl (cy 0, 40, .inl fk)), (n2, .inl (cy 0, 40, .inl fs)), (n3, .inl (cy 0, 40, .inl fe)), (n4, .inl (cy 0, 40, .inl fw)), (n5, .inl (cy 0, 40, .inl fp)), (xp, .inl (cy 5, 30, .inr (.inr (.inr (.inr (pst pa pm))))))] : va_W) ++ (pool cy pa pv pg pm)) sz)) 6 207 (va_A (([(xo, .inr (11, [.ref xk, .ref xn, .ref xc, .ref xh, .ref xt, .ref xw, .ref xm, .ref xp, .int pf, .int ph, .long tr, .int fi])), (xn, .inr (3, [.int vp, .int vn, .ref n1, .ref n2, .ref n3, .ref n4, .ref n5])), (n1, .inl (cy 0, 40, .inl fk)), (n2, .inl (cy 0, 40, .inl fs)), (n3, .inl (cy 0, 40, .inl fe)), (n4, .inl (cy 0, 40, .inl fw)), (n5, .inl (cy 0, 40, .inl fp)), (xp, .inl (cy 5, 30, .inr (.inr (.inr (.inr (pst pa pm))))))] : va_W) ++ (pool cy pa pv pg pm)) sz) := by
  refine ofQ (cc := cX11_remember) (maxL := 2) (ret := none) (by decide) rfl ?_
  intro p e s m args below meth c s₁ Q hQ B hml hv
  obtain ⟨rfl, hsz, hP, hK, hD0⟩ := hv
  have hx := B.exec
  have hb := B.bytes
  have hr := B.returns
  have hts := atoms_spec (ws := wsX11_remember) B.pre
  have hown : s.vm.findClass RX11 = some m.cls := by have h_ := findClass_of_methodNamed B.named; exact h_
  have hlocks := B.notSynchronized
  subst hsz
  have hD := hD0.self (sz := s.heap.size)
  generalize hAe : va_A (([(xo, .inr (11, [.ref xk, .ref xn, .ref xc, .ref xh, .ref xt, .ref xw, .ref xm, .ref xp, .int pf, .int ph, .long tr, .int fi])), (xn, .inr (3, [.int vp, .int vn, .ref n1, .ref n2, .ref n3, .ref n4, .ref n5])), (n1, .inl (cy 0, 40, .inl fk)), (n2, .inl (cy 0, 40, .inl fs)), (n3, .inl (cy 0, 40, .inl fe)), (n4, .inl (cy 0, 40, .inl fw)), (n5, .inl (cy 0, 40, .inl fp)), (xp, .inl (cy 5, 30, .inr (.inr (.inr (.inr (pst pa pm))))))] : va_W) ++ (pool cy pa pv pg pm)) s.heap.size = A at hD hQ
  have hA : ∀ q : Nat, s.heap.size ≤ q → A q := fun q h => by rw [← hAe]; exact Or.inr h
  have hS : va_S A s.heap s.heap [] := va_S.rf
  have hl := lv_entry ([.ref xo]) (n := 2) (Nat.le_of_ble_eq_true rfl)
  rw [lg_entry_eq]
  generalize (lg_sl ([.ref xo]) ++ List.replicate (2 - (lg_sl ([.ref xo])).length) Slot.unset).toArray = ls at hl ⊢
  have hl : lv_has ls 2 [(0, .ref xo)] := hl
  have z0 : (0 : Int32).toInt = 0 := by decide
  have z1 : (1 : Int32).toInt = 1 := by decide
  have z30 : (30 : Int32).toInt = 30 := by decide
  have hvp := hnk.1
  have hvn := hnk.2.1
  have hr_ := hrk
  unfold rok at hr_
  refine lv_aload_n hx hb dX11_remember_0 rfl (lv_at hl 0 rfl) ?_
  refine va_get (ci := 11) (v := .int pf) (C := RX11) (T := TX11) (N := 12) hx hb hts (fun _ h => List.mem_cons_of_mem _ (List.mem_append_left _ (List.mem_append_right _ h))) hown hK.1 hP 0 rfl rfl 8 (by decide) (hts (.fieldLink RX11 80 "CutAtlas" "pastFirst" "I") (by decide +kernel)) (fun _ h9 => h9) rfl dX11_remember_1 ?_
  refine lv_aload_n hx hb dX11_remember_4 rfl (lv_at hl 0 rfl) ?_
  refine va_get (ci := 11) (v := .int ph) (C := RX11) (T := TX11) (N := 12) hx hb hts (fun _ h => List.mem_cons_of_mem _ (List.mem_append_left _ (List.mem_append_right _ h))) hown hK.1 hP 0 rfl rfl 9 (by decide) (hts (.fieldLink RX11 84 "CutAtlas" "pastHeld" "I") (by decide +kernel)) (fun _ h9 => h9) rfl dX11_remember_5 ?_
  refine lv_iadd hx hb dX11_remember_8 ?_
  refine lv_topi (fun y_1 ey_1 => ?_)
  have ty_1 : y_1.toInt = pf.toInt + ph.toInt := by rw [ey_1]; exact addI (by omega) (by omega)
  refine lv_bipush (v := 30) hx hb dX11_remember_9 (by decide) ?_
  refine lv_irem hx hb dX11_remember_11 (by decide) ?_
  refine lv_topi (fun y_2 ey_2 => ?_)
  have ty_2 : y_2.toInt = y_1.toInt % 30 := by rw [ey_2]; exact rem30 (by omega)
  refine lv_istore_n (lv' := [(1, .int y_2), (0, .ref xo)]) hx hb dX11_remember_12 rfl hl (by decide) rfl (fun ls hl => ?_)
  have cs_ := clI (i := y_2) (by omega)
  refine lv_aload_n hx hb dX11_remember_13 rfl (lv_at hl 1 rfl) ?_
  refine va_get (ci := 11) (v := .int ph) (C := RX11) (T := TX11) (N := 12) hx hb hts (fun _ h => List.mem_cons_of_mem _ (List.mem_append_left _ (List.mem_append_right _ h))) hown hK.1 hP 0 rfl rfl 9 (by decide) (hts (.fieldLink RX11 84 "CutAtlas" "pastHeld" "I") (by decide +kernel)) (fun _ h9 => h9) rfl dX11_remember_14 ?_
  refine lv_bipush (v := 30) hx hb dX11_remember_17 (by decide) ?_
  refine lv_icmp_ge (tgt := 35) hx hb dX11_remember_19 (by decide) (fun c_3 => ?_) (fun c_3 => ?_)
  · have t_3 : (30 : Int32).toInt ≤ ph.toInt := Int32.le_iff_toInt_le.mp c_3
    refine lv_aload_n hx hb dX11_remember_35 rfl (lv_at hl 1 rfl) ?_
    refine lv_aload_n hx hb dX11_remember_36 rfl (lv_at hl 1 rfl) ?_
    refine va_get (ci := 11) (v := .int pf) (C := RX11) (T := TX11) (N := 12) hx hb hts (fun _ h => List.mem_cons_of_mem _ (List.mem_append_left _ (List.mem_append_right _ h))) hown hK.1 hP 0 rfl rfl 8 (by decide) (hts (.fieldLink RX11 80 "CutAtlas" "pastFirst" "I") (by decide +kernel)) (fun _ h9 => h9) rfl dX11_remember_37 ?_
    refine lv_iconst (v := 1) hx hb dX11_remember_40 (by decide) ?_
    refine lv_iadd hx hb dX11_remember_41 ?_
    refine lv_topi (fun y_4 ey_4 => ?_)
    have ty_4 : y_4.toInt = pf.toInt + (1 : Int32).toInt := by rw [ey_4]; exact addI (by omega) (by omega)
    refine lv_bipush (v := 30) hx hb dX11_remember_42 (by decide) ?_
    refine lv_irem hx hb dX11_remember_44 (by decide) ?_
    refine lv_topi (fun y_5 ey_5 => ?_)
    have ty_5 : y_5.toInt = y_4.toInt % 30 := by rw [ey_5]; exact rem30 (by omega)
    refine va_put (ci := 11) (v := .int y_5) (ty := .int) (C := RX11) (T := TX11) (N := 12) hx hb hts (fun _ h => List.mem_cons_of_mem _ (List.mem_append_left _ (List.mem_append_right _ h))) tyX11 tyX11_ok nmX11 hown hK.1 hP hD hS 0 rfl rfl 8 (by decide) (hts (.fieldLink RX11 80 "CutAtlas" "pastFirst" "I") (by decide +kernel)) (fun _ h9 => h9) rfl (by decide +kernel) rfl rfl (Nat.le_of_ble_eq_true rfl) dX11_remember_45 (fun H locs hP hD hS => ?_)
    refine pd_K (([(xo, .inr (11, [.ref xk, .ref xn, .ref xc, .ref xh, .ref xt, .ref xw, .ref xm, .ref xp, .int y_5, .int ph, .long tr, .int fi])), (xn, .inr (3, [.int vp, .int vn, .ref n1, .ref n2, .ref n3, .ref n4, .ref n5])), (n1, .inl (cy 0, 40, .inl fk)), (n2, .inl (cy 0, 40, .inl fs)), (n3, .inl (cy 0, 40, .inl fe)), (n4, .inl (cy 0, 40, .inl fw)), (n5, .inl (cy 0, 40, .inl fp)), (xp, .inl (cy 5, 30, .inr (.inr (.inr (.inr (pst pa pm))))))] : va_W) ++ (pool cy pa pv pg pm)) hP hD (fun hP hD => ?_)
    refine lv_aload_n hx hb dX11_remember_48 rfl (lv_at hl 1 rfl) ?_
    refine va_get (ci := 11) (v := .ref xp) (C := RX11) (T := TX11) (N := 12) hx hb hts (fun _ h => List.mem_cons_of_mem _ (List.mem_append_left _ (List.mem_append_right _ h))) hown hK.1 hP 0 rfl rfl 7 (by decide) (hts (.fieldLink RX11 76 "CutAtlas" "past" "[LCutAtlas$Net;") (by decide +kernel)) (fun _ h9 => h9) rfl dX11_remember_49 ?_
    refine lv_iload_n hx hb dX11_remember_52 rfl (lv_at hl 0 rfl) ?_
    have h_6 : vp_in y_2 30 := in_I (by omega) (by omega)
    refine va_aldq hx hb hK.1 hP 7 5 rfl rfl (i := y_2) h_6 dX11_remember_53 ?_
    by_cases hlt_ : y_2.toNatClampNeg < pm
    · refine lv_topv (v' := .ref (pa y_2.toNatClampNeg 0)) (pst_some hlt_) ?_
      refine lv_ifnonnull (tgt := 70) hx hb dX11_remember_54 (by decide) ?_
      refine lv_aload_n hx hb dX11_remember_70 rfl (lv_at hl 1 rfl) ?_
      refine va_get (ci := 11) (v := .ref xp) (C := RX11) (T := TX11) (N := 12) hx hb hts (fun _ h => List.mem_cons_of_mem _ (List.mem_append_left _ (List.mem_append_right _ h))) hown hK.1 hP 0 rfl rfl 7 (by decide) (hts (.fieldLink RX11 76 "CutAtlas" "past" "[LCutAtlas$Net;") (by decide +kernel)) (fun _ h9 => h9) rfl dX11_remember_71 ?_
      refine lv_iload_n hx hb dX11_remember_74 rfl (lv_at hl 0 rfl) ?_
      have h_7 : vp_in y_2 30 := in_I (by omega) (by omega)
      refine va_aldq hx hb hK.1 hP 7 5 rfl rfl (i := y_2) h_7 dX11_remember_75 ?_
      have hlt_ : y_2.toNatClampNeg < pm := hlt_
      refine lv_topv (v' := .ref (pa y_2.toNatClampNeg 0)) (pst_some hlt_) ?_
      have hk_ : y_2.toNatClampNeg < pm := hlt_
      have hP := foc_P hk_ hP
      have hD := foc_D hk_ hD
      refine pd_K (([(xo, .inr (11, [.ref xk, .ref xn, .ref xc, .ref xh, .ref xt, .ref xw, .ref xm, .ref xp, .int y_5, .int ph, .long tr, .int fi])), (xn, .inr (3, [.int vp, .int vn, .ref n1, .ref n2, .ref n3, .ref n4, .ref n5])), (n1, .inl (cy 0, 40, .inl fk)), (n2, .inl (cy 0, 40, .inl fs)), (n3, .inl (cy 0, 40, .inl fe)), (n4, .inl (cy 0, 40, .inl fw)), (n5, .inl (cy 0, 40, .inl fp)), (xp, .inl (cy 5, 30, .inr (.inr (.inr (.inr (pst pa pm)))))), ((pa y_2.toNatClampNeg 0), .inr (3, [.int (pv y_2.toNatClampNeg 0), .int (pv y_2.toNatClampNeg 1), .ref (pa y_2.toNatClampNeg 1), .ref (pa y_2.toNatClampNeg 2), .ref (pa y_2.toNatClampNeg 3), .ref (pa y_2.toNatClampNeg 4), .ref (pa y_2.toNatClampNeg 5)])), ((pa y_2.toNatClampNeg 1), .inl (cy 0, 40, .inl (pg y_2.toNatClampNeg 1))), ((pa y_2.toNatClampNeg 2), .inl (cy 0, 40, .inl (pg y_2.toNatClampNeg 2))), ((pa y_2.toNatClampNeg 3), .inl (cy 0, 40, .inl (pg y_2.toNatClampNeg 3))), ((pa y_2.toNatClampNeg 4), .inl (cy 0, 40, .inl (pg y_2.toNatClampNeg 4))), ((pa y_2.toNatClampNeg 5), .inl (cy 0, 40, .inl (pg y_2.toNatClampNeg 5)))] : va_W) ++ (prest cy pa pv pg pm y_2.toNatClampNeg)) hP hD (fun hP hD => ?_)
      have hn_8 := hpk y_2.toNatClampNeg hk_
      have rr_9 : rng (pg y_2.toNatClampNeg 1) 40 (0) (4) := hn_8.2.2.1
      have rr_10 : rng (pg y_2.toNatClampNeg 4) 40 (0) (2000) := hn_8.2.2.2.2.1
      have rr_11 : rng (pg y_2.toNatClampNeg 5) 40 (0) (100) := hn_8.2.2.2.2.2
      have hnp_ := hn_8.1; have hnl_ := hn_8.2.1; have hnpr_ := hn_8.2.2.2.1
      refine lv_aload_n hx hb dX11_remember_76 rfl (lv_at hl 1 rfl) ?_
      refine va_get (ci := 11) (v := .ref xn) (C := RX11) (T := TX11) (N := 12) hx hb hts (fun _ h => List.mem_cons_of_mem _ (List.mem_append_left _ (List.mem_append_right _ h))) hown hK.1 hP 0 rfl rfl 1 (by decide) (hts (.fieldLink RX11 31 "CutAtlas" "net" "LCutAtlas$Net;") (by decide +kernel)) (fun _ h9 => h9) rfl dX11_remember_77 ?_
      have hPx := pp_left hP
      have hDx := dd_left hD
      refine ct_S hPx hDx hS hA [((pa y_2.toNatClampNeg 0), .inr (3, [.int (pv y_2.toNatClampNeg 0), .int (pv y_2.toNatClampNeg 1), .ref (pa y_2.toNatClampNeg 1), .ref (pa y_2.toNatClampNeg 2), .ref (pa y_2.toNatClampNeg 3), .ref (pa y_2.toNatClampNeg 4), .ref (pa y_2.toNatClampNeg 5)])), ((pa y_2.toNatClampNeg 1), .inl (cy 0, 40, .inl (pg y_2.toNatClampNeg 1))), ((pa y_2.toNatClampNeg 2), .inl (cy 0, 40, .inl (pg y_2.toNatClampNeg 2))), ((pa y_2.toNatClampNeg 3), .inl (cy 0, 40, .inl (pg y_2.toNatClampNeg 3))), ((pa y_2.toNatClampNeg 4), .inl (cy 0, 40, .inl (pg y_2.toNatClampNeg 4))), ((pa y_2.toNatClampNeg 5), .inl (cy 0, 40, .inl (pg y_2.toNatClampNeg 5))), (xn, .inr (3, [.int vp, .int vn, .ref n1, .ref n2, .ref n3, .ref n4, .ref n5])), (n1, .inl (cy 0, 40, .inl fk)), (n2, .inl (cy 0, 40, .inl fs)), (n3, .inl (cy 0, 40, .inl fe)), (n4, .inl (cy 0, 40, .inl fw)), (n5, .inl (cy 0, 40, .inl fp))] [8, 9, 10, 11, 12, 13, 1, 2, 3, 4, 5, 6] (by decide +kernel) rfl (fun hPc hDw hFc hC_ => ?_)
      refine va_callv (va_runV (As := [.ref xn]) (rest := []) ⟨hx, hb, hml, hown, hts⟩ (c_X3_become l D cy H.size (pa y_2.toNatClampNeg 0) (pa y_2.toNatClampNeg 1) (pa y_2.toNatClampNeg 2) (pa y_2.toNatClampNeg 3) (pa y_2.toNatClampNeg 4) (pa y_2.toNatClampNeg 5) (pv y_2.toNatClampNeg 0) (pv y_2.toNatClampNeg 1) xn n1 n2 n3 n4 n5 vp vn (pg y_2.toNatClampNeg 1) (pg y_2.toNatClampNeg 2) (pg y_2.toNatClampNeg 3) (pg y_2.toNatClampNeg 4) (pg y_2.toNatClampNeg 5) fk fs fe fw fp (by first | with_reducible assumption | omega | assumption) (by first | with_reducible assumption | omega | assumption) (by first | exact hnpr_ | exact prng_zero) (hpr) (by first | with_reducible assumption | assumption | exact rng_zero (by omega) (by omega)) (by first | with_reducible assumption | assumption | exact rng_zero (by omega) (by omega)) (by first | with_reducible assumption | assumption | exact rng_zero (by omega) (by omega)) (by first | with_reducible assumption | assumption | omega) (by first | with_reducible assumption | assumption | omega) (by first | with_reducible assumption | assumption | omega)) (cwV 1 hts gX11_remember_X3_become rfl rfl rfl (by decide +kernel) ⟨Nat.le_of_ble_eq_true rfl, Nat.le_of_ble_eq_true rfl⟩) ⟨bl_, va_recvX hK.1 hPx (ci := 3) (q0 := 8) rfl rfl, fun U hU hW => ⟨rfl, by rw [hU], by rw [hU]; exact hPc, kk_mv hW hK, hDw⟩⟩ rfl rfl hl.1 rfl (lv_room (Nat.le_of_ble_eq_true rfl)) dX11_remember_80 ⟨Nat.le_of_ble_eq_true rfl, Nat.le_of_ble_eq_true rfl⟩) hS (fun q _ h => hFc q h) hFc (fun u t H locs ht hvm hw hB hz1 hk1 hS => ?_)
      obtain ⟨fk9_13, fs9_14, fe9_15, fw9_16, fp9_17, g_18, g_19, g_20, g_21, hP1, hD1⟩ := hB
      rw [ht] at hP1
      obtain ⟨hP, hD⟩ := va_joinQ (wr := [(xo, .inr (11, [.ref xk, .ref xn, .ref xc, .ref xh, .ref xt, .ref xw, .ref xm, .ref xp, .int y_5, .int ph, .long tr, .int fi])), (xp, .inl (cy 5, 30, .inr (.inr (.inr (.inr (pst pa pm))))))]) (w1 := [((pa y_2.toNatClampNeg 0), .inr (3, [.int vp, .int vn, .ref (pa y_2.toNatClampNeg 1), .ref (pa y_2.toNatClampNeg 2), .ref (pa y_2.toNatClampNeg 3), .ref (pa y_2.toNatClampNeg 4), .ref (pa y_2.toNatClampNeg 5)])), ((pa y_2.toNatClampNeg 1), .inl (cy 0, 40, .inl fk9_13)), ((pa y_2.toNatClampNeg 2), .inl (cy 0, 40, .inl fs9_14)), ((pa y_2.toNatClampNeg 3), .inl (cy 0, 40, .inl fe9_15)), ((pa y_2.toNatClampNeg 4), .inl (cy 0, 40, .inl fw9_16)), ((pa y_2.toNatClampNeg 5), .inl (cy 0, 40, .inl fp9_17)), (xn, .inr (3, [.int vp, .int vn, .ref n1, .ref n2, .ref n3, .ref n4, .ref n5])), (n1, .inl (cy 0, 40, .inl fk)), (n2, .inl (cy 0, 40, .inl fs)), (n3, .inl (cy 0, 40, .inl fe)), (n4, .inl (cy 0, 40, .inl fw)), (n5, .inl (cy 0, 40, .inl fp))]) hP hD [8, 9, 10, 11, 12, 13, 1, 2, 3, 4, 5, 6] [0, 7] hC_ rfl (by decide) (by decide) hk1 hFc hP1 hD1
      refine pd_K (([(xo, .inr (11, [.ref xk, .ref xn, .ref xc, .ref xh, .ref xt, .ref xw, .ref xm, .ref xp, .int y_5, .int ph, .long tr, .int fi])), (xp, .inl (cy 5, 30, .inr (.inr (.inr (.inr (pst pa pm)))))), ((pa y_2.toNatClampNeg 0), .inr (3, [.int vp, .int vn, .ref (pa y_2.toNatClampNeg 1), .ref (pa y_2.toNatClampNeg 2), .ref (pa y_2.toNatClampNeg 3), .ref (pa y_2.toNatClampNeg 4), .ref (pa y_2.toNatClampNeg 5)])), ((pa y_2.toNatClampNeg 1), .inl (cy 0, 40, .inl fk9_13)), ((pa y_2.toNatClampNeg 2), .inl (cy 0, 40, .inl fs9_14)), ((pa y_2.toNatClampNeg 3), .inl (cy 0, 40, .inl fe9_15)), ((pa y_2.toNatClampNeg 4), .inl (cy 0, 40, .inl fw9_16)), ((pa y_2.toNatClampNeg 5), .inl (cy 0, 40, .inl fp9_17)), (xn, .inr (3, [.int vp, .int vn, .ref n1, .ref n2, .ref n3, .ref n4, .ref n5])), (n1, .inl (cy 0, 40, .inl fk)), (n2, .inl (cy 0, 40, .inl fs)), (n3, .inl (cy 0, 40, .inl fe)), (n4, .inl (cy 0, 40, .inl fw)), (n5, .inl (cy 0, 40, .inl fp))] : va_W) ++ (prest cy pa pv pg pm y_2.toNatClampNeg)) hP hD (fun hP hD => ?_)
      refine pd_P hP hD [(xo, .inr (11, [.ref xk, .ref xn, .ref xc, .ref xh, .ref xt, .ref xw, .ref xm, .ref xp, .int y_5, .int ph, .long tr, .int fi])), (xn, .inr (3, [.int vp, .int vn, .ref n1, .ref n2, .ref n3, .ref n4, .ref n5])), (n1, .inl (cy 0, 40, .inl fk)), (n2, .inl (cy 0, 40, .inl fs)), (n3, .inl (cy 0, 40, .inl fe)), (n4, .inl (cy 0, 40, .inl fw)), (n5, .inl (cy 0, 40, .inl fp)), (xp, .inl (cy 5, 30, .inr (.inr (.inr (.inr (pst pa pm)))))), ((pa y_2.toNatClampNeg 0), .inr (3, [.int vp, .int vn, .ref (pa y_2.toNatClampNeg 1), .ref (pa y_2.toNatClampNeg 2), .ref (pa y_2.toNatClampNeg 3), .ref (pa y_2.toNatClampNeg 4), .ref (pa y_2.toNatClampNeg 5)])), ((pa y_2.toNatClampNeg 1), .inl (cy 0, 40, .inl fk9_13)), ((pa y_2.toNatClampNeg 2), .inl (cy 0, 40, .inl fs9_14)), ((pa y_2.toNatClampNeg 3), .inl (cy 0, 40, .inl fe9_15)), ((pa y_2.toNatClampNeg 4), .inl (cy 0, 40, .inl fw9_16)), ((pa y_2.toNatClampNeg 5), .inl (cy 0, 40, .inl fp9_17))] [0, 8, 9, 10, 11, 12, 13, 1, 2, 3, 4, 5, 6, 7] (by decide +kernel) rfl (fun hP hD => ?_)
      obtain ⟨pvk_22, epvk_22⟩ : ∃ g : Nat → Nat → Int32, g = va_up pv y_2.toNatClampNeg (qn2 vp vn) := ⟨_, rfl⟩
      obtain ⟨pgk_22, epgk_22⟩ : ∃ g : Nat → Nat → Nat → Int32, g = va_up pg y_2.toNatClampNeg (qn5 fk9_13 fs9_14 fe9_15 fw9_16 fp9_17) := ⟨_, rfl⟩
      have hcg_ : ∀ i : Nat, i ≠ y_2.toNatClampNeg → pvk_22 i = pv i ∧ pgk_22 i = pg i := fun i hi => by rw [epvk_22, epgk_22]; exact ⟨va_up_ne _ _ hi, va_up_ne _ _ hi⟩
      have hP : va_P D vwCl ((([(xo, .inr (11, [.ref xk, .ref xn, .ref xc, .ref xh, .ref xt, .ref xw, .ref xm, .ref xp, .int y_5, .int ph, .long tr, .int fi])), (xn, .inr (3, [.int vp, .int vn, .ref n1, .ref n2, .ref n3, .ref n4, .ref n5])), (n1, .inl (cy 0, 40, .inl fk)), (n2, .inl (cy 0, 40, .inl fs)), (n3, .inl (cy 0, 40, .inl fe)), (n4, .inl (cy 0, 40, .inl fw)), (n5, .inl (cy 0, 40, .inl fp)), (xp, .inl (cy 5, 30, .inr (.inr (.inr (.inr (pst pa pm))))))] : va_W) ++ pnet cy pa pvk_22 pgk_22 y_2.toNatClampNeg) ++ (prest cy pa pv pg pm y_2.toNatClampNeg)) H := by rw [show pnet cy pa pvk_22 pgk_22 y_2.toNatClampNeg = [((pa y_2.toNatClampNeg 0), .inr (3, [.int vp, .int vn, .ref (pa y_2.toNatClampNeg 1), .ref (pa y_2.toNatClampNeg 2), .ref (pa y_2.toNatClampNeg 3), .ref (pa y_2.toNatClampNeg 4), .ref (pa y_2.toNatClampNeg 5)])), ((pa y_2.toNatClampNeg 1), .inl (cy 0, 40, .inl fk9_13)), ((pa y_2.toNatClampNeg 2), .inl (cy 0, 40, .inl fs9_14)), ((pa y_2.toNatClampNeg 3), .inl (cy 0, 40, .inl fe9_15)), ((pa y_2.toNatClampNeg 4), .inl (cy 0, 40, .inl fw9_16)), ((pa y_2.toNatClampNeg 5), .inl (cy 0, 40, .inl fp9_17))] by unfold pnet; rw [epvk_22, epgk_22, va_up_self, va_up_self]; rfl]; exact hP
      have hD : va_D A ((([(xo, .inr (11, [.ref xk, .ref xn, .ref xc, .ref xh, .ref xt, .ref xw, .ref xm, .ref xp, .int y_5, .int ph, .long tr, .int fi])), (xn, .inr (3, [.int vp, .int vn, .ref n1, .ref n2, .ref n3, .ref n4, .ref n5])), (n1, .inl (cy 0, 40, .inl fk)), (n2, .inl (cy 0, 40, .inl fs)), (n3, .inl (cy 0, 40, .inl fe)), (n4, .inl (cy 0, 40, .inl fw)), (n5, .inl (cy 0, 40, .inl fp)), (xp, .inl (cy 5, 30, .inr (.inr (.inr (.inr (pst pa pm))))))] : va_W) ++ pnet cy pa pvk_22 pgk_22 y_2.toNatClampNeg) ++ (prest cy pa pv pg pm y_2.toNatClampNeg)) := by rw [show pnet cy pa pvk_22 pgk_22 y_2.toNatClampNeg = [((pa y_2.toNatClampNeg 0), .inr (3, [.int vp, .int vn, .ref (pa y_2.toNatClampNeg 1), .ref (pa y_2.toNatClampNeg 2), .ref (pa y_2.toNatClampNeg 3), .ref (pa y_2.toNatClampNeg 4), .ref (pa y_2.toNatClampNeg 5)])), ((pa y_2.toNatClampNeg 1), .inl (cy 0, 40, .inl fk9_13)), ((pa y_2.toNatClampNeg 2), .inl (cy 0, 40, .inl fs9_14)), ((pa y_2.toNatClampNeg 3), .inl (cy 0, 40, .inl fe9_15)), ((pa y_2.toNatClampNeg 4), .inl (cy 0, 40, .inl fw9_16)), ((pa y_2.toNatClampNeg 5), .inl (cy 0, 40, .inl fp9_17))] by unfold pnet; rw [epvk_22, epgk_22, va_up_self, va_up_self]; rfl]; exact hD
      have hP := unf_P hk_ hcg_ hP
      have hD := unf_D hk_ hcg_ hD
      refine pd_K (([(xo, .inr (11, [.ref xk, .ref xn, .ref xc, .ref xh, .ref xt, .ref xw, .ref xm, .ref xp, .int y_5, .int ph, .long tr, .int fi])), (xn, .inr (3, [.int vp, .int vn, .ref n1, .ref n2, .ref n3, .ref n4, .ref n5])), (n1, .inl (cy 0, 40, .inl fk)), (n2, .inl (cy 0, 40, .inl fs)), (n3, .inl (cy 0, 40, .inl fe)), (n4, .inl (cy 0, 40, .inl fw)), (n5, .inl (cy 0, 40, .inl fp)), (xp, .inl (cy 5, 30, .inr (.inr (.inr (.inr (pst pa pm))))))] : va_W) ++ (pool cy pa pvk_22 pgk_22 pm)) hP hD (fun hP hD => ?_)
      have pk_23 : pok pvk_22 pgk_22 pm := by rw [epvk_22, epgk_22]; exact pok_st hpk (by omega) (⟨hnk.1, hnk.2.1, g_19, g_18, g_20, g_21⟩)
      refine W.widen (k := 6) (n := 207) (Nat.le_of_ble_eq_true rfl) (Nat.le_of_ble_eq_true rfl) ?_
      rw [hQ]
      exact W.vret hx hb hr (fun t ht hW => ⟨⟨(), rfl, trivial, y_5, ph, pa, pvk_22, pgk_22, pm, (hnk), (by assumption), (by unfold rok; omega), by rw [ht]; exact hP, hD⟩, hS.F ht⟩) hS.2.2 dX11_remember_83
    · refine lv_topv (v' := .null) (pst_none hlt_) ?_
      refine lv_ifnonnullN hx hb dX11_remember_54 ?_
      refine lv_aload_n hx hb dX11_remember_57 rfl (lv_at hl 1 rfl) ?_
      refine va_get (ci := 11) (v := .ref xp) (C := RX11) (T := TX11) (N := 12) hx hb hts (fun _ h => List.mem_cons_of_mem _ (List.mem_append_left _ (List.mem_append_right _ h))) hown hK.1 hP 0 rfl rfl 7 (by decide) (hts (.fieldLink RX11 76 "CutAtlas" "past" "[LCutAtlas$Net;") (by decide +kernel)) (fun _ h9 => h9) rfl dX11_remember_58 ?_
      refine lv_iload_n hx hb dX11_remember_61 rfl (lv_at hl 0 rfl) ?_
      refine va_new (ci := 3) (fs := [.int 0, .int 0, .null, .null, .null, .null, .null]) (C := RX3) (T := TX3) (N := 7) hx hb hts (fun _ h => List.mem_cons_of_mem _ (List.mem_append_right _ h)) tyX3 tyX3_ok hown (hts (.classLink RX11 28 RX3) (by decide +kernel)) (hts (.instantiable RX3 7) (by decide +kernel)) (hts (.initialized RX3) (by decide +kernel)) hK.1 hP hD hS hA rfl (by decide +kernel) (Nat.le_of_ble_eq_true rfl) (Nat.le_of_ble_eq_true rfl) dX11_remember_62 (fun q_24 H hP hD hS => ?_)
      have hP := va_P.swap hP
      have hD := va_D.swap hD
      refine pd_K (([(xo, .inr (11, [.ref xk, .ref xn, .ref xc, .ref xh, .ref xt, .ref xw, .ref xm, .ref xp, .int y_5, .int ph, .long tr, .int fi])), (xn, .inr (3, [.int vp, .int vn, .ref n1, .ref n2, .ref n3, .ref n4, .ref n5])), (n1, .inl (cy 0, 40, .inl fk)), (n2, .inl (cy 0, 40, .inl fs)), (n3, .inl (cy 0, 40, .inl fe)), (n4, .inl (cy 0, 40, .inl fw)), (n5, .inl (cy 0, 40, .inl fp)), (xp, .inl (cy 5, 30, .inr (.inr (.inr (.inr (pst pa pm)))))), (q_24, .inr (3, [.int 0, .int 0, .null, .null, .null, .null, .null]))] : va_W) ++ (pool cy pa pv pg pm)) hP hD (fun hP hD => ?_)
      refine lv_dup hx hb dX11_remember_65 rfl ?_
      have hPc := hP.sub (ws' := [(q_24, .inr (3, [.int 0, .int 0, .null, .null, .null, .null, .null]))]) [8] rfl
      have hDc := hD.sub (ws' := [(q_24, .inr (3, [.int 0, .int 0, .null, .null, .null, .null, .null]))]) [8] (by decide) rfl
      have hDw : va_D (fun _ => True) [(q_24, .inr (3, [.int 0, .int 0, .null, .null, .null, .null, .null]))] := hDc.weaken (fun _ _ _ _ => trivial)
      have hFc := va_free (wc := [(q_24, .inr (3, [.int 0, .int 0, .null, .null, .null, .null, .null]))]) hD hS hA [8] rfl
      refine va_callv (va_runIN (As := []) (rest := [.ref q_24, .int y_2, .ref xp]) ⟨hx, hb, hml, hown, hts⟩ (c_X3_init l D cy H.size q_24) ⟨va_cnB 0 hts gX11_remember_X3_init_n30 rfl rfl rfl (kk_nX11_30 hK) (hts (.initialized RX3) (by decide +kernel)) (by decide +kernel) ⟨Nat.le_of_ble_eq_true rfl, Nat.le_of_ble_eq_true rfl⟩, rfl, (hts (.instanceMethod yX3_init) (by decide +kernel))⟩ ⟨bl_, fun U hU hW => ⟨rfl, by rw [hU], by rw [hU]; exact hPc, kk_mv hW hK, hDw⟩⟩ rfl rfl hl.1 rfl (lv_room (Nat.le_of_ble_eq_true rfl)) dX11_remember_66 ⟨Nat.le_of_ble_eq_true rfl, Nat.le_of_ble_eq_true rfl⟩) hS (fun q _ h => hFc q h) hFc (fun u t H locs ht hvm hw hB hz1 hk1 hS => ?_)
      obtain ⟨n1_26, n2_27, n3_28, n4_29, n5_30, hP1, hD1⟩ := hB
      rw [ht] at hP1
      obtain ⟨hP, hD⟩ := va_joinQ (cx := [(q_24, .inr (3, [.int 0, .int 0, .null, .null, .null, .null, .null]))]) (wr := [(xo, .inr (11, [.ref xk, .ref xn, .ref xc, .ref xh, .ref xt, .ref xw, .ref xm, .ref xp, .int y_5, .int ph, .long tr, .int fi])), (xn, .inr (3, [.int vp, .int vn, .ref n1, .ref n2, .ref n3, .ref n4, .ref n5])), (n1, .inl (cy 0, 40, .inl fk)), (n2, .inl (cy 0, 40, .inl fs)), (n3, .inl (cy 0, 40, .inl fe)), (n4, .inl (cy 0, 40, .inl fw)), (n5, .inl (cy 0, 40, .inl fp)), (xp, .inl (cy 5, 30, .inr (.inr (.inr (.inr (pst pa pm))))))]) (w1 := [(q_24, .inr (3, [.int 0, .int 0, .ref n1_26, .ref n2_27, .ref n3_28, .ref n4_29, .ref n5_30])), (n1_26, .inl (cy 0, 40, .inl (fun _ => 0))), (n2_27, .inl (cy 0, 40, .inl (fun _ => 0))), (n3_28, .inl (cy 0, 40, .inl (fun _ => 0))), (n4_29, .inl (cy 0, 40, .inl (fun _ => 0))), (n5_30, .inl (cy 0, 40, .inl (fun _ => 0)))]) hP hD [8] [0, 1, 2, 3, 4, 5, 6, 7] rfl rfl (by decide) (by decide) hk1 hFc hP1 hD1
      refine pd_K (([(xo, .inr (11, [.ref xk, .ref xn, .ref xc, .ref xh, .ref xt, .ref xw, .ref xm, .ref xp, .int y_5, .int ph, .long tr, .int fi])), (xn, .inr (3, [.int vp, .int vn, .ref n1, .ref n2, .ref n3, .ref n4, .ref n5])), (n1, .inl (cy 0, 40, .inl fk)), (n2, .inl (cy 0, 40, .inl fs)), (n3, .inl (cy 0, 40, .inl fe)), (n4, .inl (cy 0, 40, .inl fw)), (n5, .inl (cy 0, 40, .inl fp)), (xp, .inl (cy 5, 30, .inr (.inr (.inr (.inr (pst pa pm)))))), (q_24, .inr (3, [.int 0, .int 0, .ref n1_26, .ref n2_27, .ref n3_28, .ref n4_29, .ref n5_30])), (n1_26, .inl (cy 0, 40, .inl (fun _ => 0))), (n2_27, .inl (cy 0, 40, .inl (fun _ => 0))), (n3_28, .inl (cy 0, 40, .inl (fun _ => 0))), (n4_29, .inl (cy 0, 40, .inl (fun _ => 0))), (n5_30, .inl (cy 0, 40, .inl (fun _ => 0)))] : va_W) ++ (pool cy pa pv pg pm)) hP hD (fun hP hD => ?_)
      have h_31 : vp_in y_2 30 := in_I (by omega) (by omega)
      refine va_astq hx hb hK.1 hP hD hS 7 5 8 3 rfl rfl rfl rfl (i := y_2) h_31 dX11_remember_69 (fun H locs hP hD hS => ?_)
      refine pd_K (([(xo, .inr (11, [.ref xk, .ref xn, .ref xc, .ref xh, .ref xt, .ref xw, .ref xm, .ref xp, .int y_5, .int ph, .long tr, .int fi])), (xn, .inr (3, [.int vp, .int vn, .ref n1, .ref n2, .ref n3, .ref n4, .ref n5])), (n1, .inl (cy 0, 40, .inl fk)), (n2, .inl (cy 0, 40, .inl fs)), (n3, .inl (cy 0, 40, .inl fe)), (n4, .inl (cy 0, 40, .inl fw)), (n5, .inl (cy 0, 40, .inl fp)), (xp, .inl (cy 5, 30, .inr (.inr (.inr (.inr (va_up (pst pa pm) y_2.toNatClampNeg (some q_24))))))), (q_24, .inr (3, [.int 0, .int 0, .ref n1_26, .ref n2_27, .ref n3_28, .ref n4_29, .ref n5_30])), (n1_26, .inl (cy 0, 40, .inl (fun _ => 0))), (n2_27, .inl (cy 0, 40, .inl (fun _ => 0))), (n3_28, .inl (cy 0, 40, .inl (fun _ => 0))), (n4_29, .inl (cy 0, 40, .inl (fun _ => 0))), (n5_30, .inl (cy 0, 40, .inl (fun _ => 0)))] : va_W) ++ (pool cy pa pv pg pm)) hP hD (fun hP hD => ?_)
      refine lv_aload_n hx hb dX11_remember_70 rfl (lv_at hl 1 rfl) ?_
      refine va_get (ci := 11) (v := .ref xp) (C := RX11) (T := TX11) (N := 12) hx hb hts (fun _ h => List.mem_cons_of_mem _ (List.mem_append_left _ (List.mem_append_right _ h))) hown hK.1 hP 0 rfl rfl 7 (by decide) (hts (.fieldLink RX11 76 "CutAtlas" "past" "[LCutAtlas$Net;") (by decide +kernel)) (fun _ h9 => h9) rfl dX11_remember_71 ?_
      refine lv_iload_n hx hb dX11_remember_74 rfl (lv_at hl 0 rfl) ?_
      have h_32 : vp_in y_2 30 := in_I (by omega) (by omega)
      refine va_aldq hx hb hK.1 hP 7 5 rfl rfl (i := y_2) h_32 dX11_remember_75 ?_
      refine lv_topv (v' := .ref q_24) (by rw [va_up_self]; rfl) ?_
      refine lv_aload_n hx hb dX11_remember_76 rfl (lv_at hl 1 rfl) ?_
      refine va_get (ci := 11) (v := .ref xn) (C := RX11) (T := TX11) (N := 12) hx hb hts (fun _ h => List.mem_cons_of_mem _ (List.mem_append_left _ (List.mem_append_right _ h))) hown hK.1 hP 0 rfl rfl 1 (by decide) (hts (.fieldLink RX11 31 "CutAtlas" "net" "LCutAtlas$Net;") (by decide +kernel)) (fun _ h9 => h9) rfl dX11_remember_77 ?_
      have hPx := pp_left hP
      have hDx := dd_left hD
      refine ct_S hPx hDx hS hA [(q_24, .inr (3, [.int 0, .int 0, .ref n1_26, .ref n2_27, .ref n3_28, .ref n4_29, .ref n5_30])), (n1_26, .inl (cy 0, 40, .inl (fun _ => 0))), (n2_27, .inl (cy 0, 40, .inl (fun _ => 0))), (n3_28, .inl (cy 0, 40, .inl (fun _ => 0))), (n4_29, .inl (cy 0, 40, .inl (fun _ => 0))), (n5_30, .inl (cy 0, 40, .inl (fun _ => 0))), (xn, .inr (3, [.int vp, .int vn, .ref n1, .ref n2, .ref n3, .ref n4, .ref n5])), (n1, .inl (cy 0, 40, .inl fk)), (n2, .inl (cy 0, 40, .inl fs)), (n3, .inl (cy 0, 40, .inl fe)), (n4, .inl (cy 0, 40, .inl fw)), (n5, .inl (cy 0, 40, .inl fp))] [8, 9, 10, 11, 12, 13, 1, 2, 3, 4, 5, 6] (by decide +kernel) rfl (fun hPc hDw hFc hC_ => ?_)
      refine va_callv (va_runV (As := [.ref xn]) (rest := []) ⟨hx, hb, hml, hown, hts⟩ (c_X3_become l D cy H.size q_24 n1_26 n2_27 n3_28 n4_29 n5_30 (0 : Int32) (0 : Int32) xn n1 n2 n3 n4 n5 vp vn (fun _ => 0) (fun _ => 0) (fun _ => 0) (fun _ => 0) (fun _ => 0) fk fs fe fw fp (by first | with_reducible assumption | omega | assumption) (by first | with_reducible assumption | omega | assumption) (by first | exact hnpr_ | exact prng_zero) (hpr) (by first | with_reducible assumption | assumption | exact rng_zero (by omega) (by omega)) (by first | with_reducible assumption | assumption | exact rng_zero (by omega) (by omega)) (by first | with_reducible assumption | assumption | exact rng_zero (by omega) (by omega)) (by first | with_reducible assumption | assumption | omega) (by first | with_reducible assumption | assumption | omega) (by first | with_reducible assumption | assumption | omega)) (cwV 1 hts gX11_remember_X3_become rfl rfl rfl (by decide +kernel) ⟨Nat.le_of_ble_eq_true rfl, Nat.le_of_ble_eq_true rfl⟩) ⟨bl_, va_recvX hK.1 hPx (ci := 3) (q0 := 8) rfl rfl, fun U hU hW => ⟨rfl, by rw [hU], by rw [hU]; exact hPc, kk_mv hW hK, hDw⟩⟩ rfl rfl hl.1 rfl (lv_room (Nat.le_of_ble_eq_true rfl)) dX11_remember_80 ⟨Nat.le_of_ble_eq_true rfl, Nat.le_of_ble_eq_true rfl⟩) hS (fun q _ h => hFc q h) hFc (fun u t H locs ht hvm hw hB hz1 hk1 hS => ?_)
      obtain ⟨fk9_34, fs9_35, fe9_36, fw9_37, fp9_38, g_39, g_40, g_41, g_42, hP1, hD1⟩ := hB
      rw [ht] at hP1
      obtain ⟨hP, hD⟩ := va_joinQ (wr := [(xo, .inr (11, [.ref xk, .ref xn, .ref xc, .ref xh, .ref xt, .ref xw, .ref xm, .ref xp, .int y_5, .int ph, .long tr, .int fi])), (xp, .inl (cy 5, 30, .inr (.inr (.inr (.inr (va_up (pst pa pm) y_2.toNatClampNeg (some q_24)))))))]) (w1 := [(q_24, .inr (3, [.int vp, .int vn, .ref n1_26, .ref n2_27, .ref n3_28, .ref n4_29, .ref n5_30])), (n1_26, .inl (cy 0, 40, .inl fk9_34)), (n2_27, .inl (cy 0, 40, .inl fs9_35)), (n3_28, .inl (cy 0, 40, .inl fe9_36)), (n4_29, .inl (cy 0, 40, .inl fw9_37)), (n5_30, .inl (cy 0, 40, .inl fp9_38)), (xn, .inr (3, [.int vp, .int vn, .ref n1, .ref n2, .ref n3, .ref n4, .ref n5])), (n1, .inl (cy 0, 40, .inl fk)), (n2, .inl (cy 0, 40, .inl fs)), (n3, .inl (cy 0, 40, .inl fe)), (n4, .inl (cy 0, 40, .inl fw)), (n5, .inl (cy 0, 40, .inl fp))]) hP hD [8, 9, 10, 11, 12, 13, 1, 2, 3, 4, 5, 6] [0, 7] hC_ rfl (by decide) (by decide) hk1 hFc hP1 hD1
      refine pd_K (([(xo, .inr (11, [.ref xk, .ref xn, .ref xc, .ref xh, .ref xt, .ref xw, .ref xm, .ref xp, .int y_5, .int ph, .long tr, .int fi])), (xp, .inl (cy 5, 30, .inr (.inr (.inr (.inr (va_up (pst pa pm) y_2.toNatClampNeg (some q_24))))))), (q_24, .inr (3, [.int vp, .int vn, .ref n1_26, .ref n2_27, .ref n3_28, .ref n4_29, .ref n5_30])), (n1_26, .inl (cy 0, 40, .inl fk9_34)), (n2_27, .inl (cy 0, 40, .inl fs9_35)), (n3_28, .inl (cy 0, 40, .inl fe9_36)), (n4_29, .inl (cy 0, 40, .inl fw9_37)), (n5_30, .inl (cy 0, 40, .inl fp9_38)), (xn, .inr (3, [.int vp, .int vn, .ref n1, .ref n2, .ref n3, .ref n4, .ref n5])), (n1, .inl (cy 0, 40, .inl fk)), (n2, .inl (cy 0, 40, .inl fs)), (n3, .inl (cy 0, 40, .inl fe)), (n4, .inl (cy 0, 40, .inl fw)), (n5, .inl (cy 0, 40, .inl fp))] : va_W) ++ (pool cy pa pv pg pm)) hP hD (fun hP hD => ?_)
      refine pd_P hP hD [(xo, .inr (11, [.ref xk, .ref xn, .ref xc, .ref xh, .ref xt, .ref xw, .ref xm, .ref xp, .int y_5, .int ph, .long tr, .int fi])), (xn, .inr (3, [.int vp, .int vn, .ref n1, .ref n2, .ref n3, .ref n4, .ref n5])), (n1, .inl (cy 0, 40, .inl fk)), (n2, .inl (cy 0, 40, .inl fs)), (n3, .inl (cy 0, 40, .inl fe)), (n4, .inl (cy 0, 40, .inl fw)), (n5, .inl (cy 0, 40, .inl fp)), (xp, .inl (cy 5, 30, .inr (.inr (.inr (.inr (va_up (pst pa pm) y_2.toNatClampNeg (some q_24))))))), (q_24, .inr (3, [.int vp, .int vn, .ref n1_26, .ref n2_27, .ref n3_28, .ref n4_29, .ref n5_30])), (n1_26, .inl (cy 0, 40, .inl fk9_34)), (n2_27, .inl (cy 0, 40, .inl fs9_35)), (n3_28, .inl (cy 0, 40, .inl fe9_36)), (n4_29, .inl (cy 0, 40, .inl fw9_37)), (n5_30, .inl (cy 0, 40, .inl fp9_38))] [0, 8, 9, 10, 11, 12, 13, 1, 2, 3, 4, 5, 6, 7] (by decide +kernel) rfl (fun hP hD => ?_)
      obtain ⟨pvk_43, epvk_43⟩ : ∃ g : Nat → Nat → Int32, g = va_up pv pm (qn2 vp vn) := ⟨_, rfl⟩
      obtain ⟨pgk_43, epgk_43⟩ : ∃ g : Nat → Nat → Nat → Int32, g = va_up pg pm (qn5 fk9_34 fs9_35 fe9_36 fw9_37 fp9_38) := ⟨_, rfl⟩
      obtain ⟨pak_43, epak_43⟩ : ∃ g : Nat → Nat → Nat, g = va_up pa pm (qn6 q_24 n1_26 n2_27 n3_28 n4_29 n5_30) := ⟨_, rfl⟩
      have hcg_ : ∀ i : Nat, i < pm → pak_43 i = pa i ∧ pvk_43 i = pv i ∧ pgk_43 i = pg i := fun i hi => by rw [epak_43, epvk_43, epgk_43]; exact ⟨va_up_ne _ _ (by omega), va_up_ne _ _ (by omega), va_up_ne _ _ (by omega)⟩
      have hP : va_P D vwCl ((([(xo, .inr (11, [.ref xk, .ref xn, .ref xc, .ref xh, .ref xt, .ref xw, .ref xm, .ref xp, .int y_5, .int ph, .long tr, .int fi])), (xn, .inr (3, [.int vp, .int vn, .ref n1, .ref n2, .ref n3, .ref n4, .ref n5])), (n1, .inl (cy 0, 40, .inl fk)), (n2, .inl (cy 0, 40, .inl fs)), (n3, .inl (cy 0, 40, .inl fe)), (n4, .inl (cy 0, 40, .inl fw)), (n5, .inl (cy 0, 40, .inl fp)), (xp, .inl (cy 5, 30, .inr (.inr (.inr (.inr (va_up (pst pa pm) y_2.toNatClampNeg (some q_24)))))))] : va_W) ++ pnet cy pak_43 pvk_43 pgk_43 pm) ++ (pool cy pa pv pg pm)) H := by rw [show pnet cy pak_43 pvk_43 pgk_43 pm = [(q_24, .inr (3, [.int vp, .int vn, .ref n1_26, .ref n2_27, .ref n3_28, .ref n4_29, .ref n5_30])), (n1_26, .inl (cy 0, 40, .inl fk9_34)), (n2_27, .inl (cy 0, 40, .inl fs9_35)), (n3_28, .inl (cy 0, 40, .inl fe9_36)), (n4_29, .inl (cy 0, 40, .inl fw9_37)), (n5_30, .inl (cy 0, 40, .inl fp9_38))] by unfold pnet; rw [epak_43, epvk_43, epgk_43, va_up_self, va_up_self, va_up_self]; rfl]; exact hP
      have hD : va_D A ((([(xo, .inr (11, [.ref xk, .ref xn, .ref xc, .ref xh, .ref xt, .ref xw, .ref xm, .ref xp, .int y_5, .int ph, .long tr, .int fi])), (xn, .inr (3, [.int vp, .int vn, .ref n1, .ref n2, .ref n3, .ref n4, .ref n5])), (n1, .inl (cy 0, 40, .inl fk)), (n2, .inl (cy 0, 40, .inl fs)), (n3, .inl (cy 0, 40, .inl fe)), (n4, .inl (cy 0, 40, .inl fw)), (n5, .inl (cy 0, 40, .inl fp)), (xp, .inl (cy 5, 30, .inr (.inr (.inr (.inr (va_up (pst pa pm) y_2.toNatClampNeg (some q_24)))))))] : va_W) ++ pnet cy pak_43 pvk_43 pgk_43 pm) ++ (pool cy pa pv pg pm)) := by rw [show pnet cy pak_43 pvk_43 pgk_43 pm = [(q_24, .inr (3, [.int vp, .int vn, .ref n1_26, .ref n2_27, .ref n3_28, .ref n4_29, .ref n5_30])), (n1_26, .inl (cy 0, 40, .inl fk9_34)), (n2_27, .inl (cy 0, 40, .inl fs9_35)), (n3_28, .inl (cy 0, 40, .inl fe9_36)), (n4_29, .inl (cy 0, 40, .inl fw9_37)), (n5_30, .inl (cy 0, 40, .inl fp9_38))] by unfold pnet; rw [epak_43, epvk_43, epgk_43, va_up_self, va_up_self, va_up_self]; rfl]; exact hD
      have hP := more_P hcg_ hP
      have hD := more_D hcg_ hD
      obtain ⟨mk_43, emk_43⟩ : ∃ x : Nat, x = pm + 1 := ⟨_, rfl⟩
      rw [← emk_43] at hP hD
      have ep_ : (va_up (pst pa pm) y_2.toNatClampNeg (some q_24)) = pst pak_43 mk_43 := by rw [emk_43]; exact pst_more (by omega) (by rw [epak_43, va_up_self]; rfl) (fun i hi => (hcg_ i hi).1)
      rw [ep_] at hP hD
      refine pd_K (([(xo, .inr (11, [.ref xk, .ref xn, .ref xc, .ref xh, .ref xt, .ref xw, .ref xm, .ref xp, .int y_5, .int ph, .long tr, .int fi])), (xn, .inr (3, [.int vp, .int vn, .ref n1, .ref n2, .ref n3, .ref n4, .ref n5])), (n1, .inl (cy 0, 40, .inl fk)), (n2, .inl (cy 0, 40, .inl fs)), (n3, .inl (cy 0, 40, .inl fe)), (n4, .inl (cy 0, 40, .inl fw)), (n5, .inl (cy 0, 40, .inl fp)), (xp, .inl (cy 5, 30, .inr (.inr (.inr (.inr (pst pak_43 mk_43))))))] : va_W) ++ (pool cy pak_43 pvk_43 pgk_43 mk_43)) hP hD (fun hP hD => ?_)
      have pk_44 : pok pvk_43 pgk_43 mk_43 := by rw [epvk_43, epgk_43]; exact pok_st hpk (by omega) (⟨hnk.1, hnk.2.1, g_40, g_39, g_41, g_42⟩)
      rw [hQ]
      exact W.vret hx hb hr (fun t ht hW => ⟨⟨(), rfl, trivial, y_5, ph, pak_43, pvk_43, pgk_43, mk_43, (hnk), (by assumption), (by unfold rok; omega), by rw [ht]; exact hP, hD⟩, hS.F ht⟩) hS.2.2 dX11_remember_83
  · have t_3 : ¬ (30 : Int32).toInt ≤ ph.toInt := fun h => c_3 (Int32.le_iff_toInt_le.mpr h)
    refine lv_aload_n hx hb dX11_remember_22 rfl (lv_at hl 1 rfl) ?_
    refine lv_dup hx hb dX11_remember_23 rfl ?_
    refine va_get (ci := 11) (v := .int ph) (C := RX11) (T := TX11) (N := 12) hx hb hts (fun _ h => List.mem_cons_of_mem _ (List.mem_append_left _ (List.mem_append_right _ h))) hown hK.1 hP 0 rfl rfl 9 (by decide) (hts (.fieldLink RX11 84 "CutAtlas" "pastHeld" "I") (by decide +kernel)) (fun _ h9 => h9) rfl dX11_remember_24 ?_
    refine lv_iconst (v := 1) hx hb dX11_remember_27 (by decide) ?_
    refine lv_iadd hx hb dX11_remember_28 ?_
    refine lv_topi (fun y_45 ey_45 => ?_)
    have ty_45 : y_45.toInt = ph.toInt + (1 : Int32).toInt := by rw [ey_45]; exact addI (by omega) (by omega)
    refine va_put (ci := 11) (v := .int y_45) (ty := .int) (C := RX11) (T := TX11) (N := 12) hx hb hts (fun _ h => List.mem_cons_of_mem _ (List.mem_append_left _ (List.mem_append_right _ h))) tyX11 tyX11_ok nmX11 hown hK.1 hP hD hS 0 rfl rfl 9 (by decide) (hts (.fieldLink RX11 84 "CutAtlas" "pastHeld" "I") (by decide +kernel)) (fun _ h9 => h9) rfl (by decide +kernel) rfl rfl (Nat.le_of_ble_eq_true rfl) dX11_remember_29 (fun H locs hP hD hS => ?_)
    refine pd_K (([(xo, .inr (11, [.ref xk, .ref xn, .ref xc, .ref xh, .ref xt, .ref xw, .ref xm, .ref xp, .int pf, .int y_45, .long tr, .int fi])), (xn, .inr (3, [.int vp, .int vn, .ref n1, .ref n2, .ref n3, .ref n4, .ref n5])), (n1, .inl (cy 0, 40, .inl fk)), (n2, .inl (cy 0, 40, .inl fs)), (n3, .inl (cy 0, 40, .inl fe)), (n4, .inl (cy 0, 40, .inl fw)), (n5, .inl (cy 0, 40, .inl fp)), (xp, .inl (cy 5, 30, .inr (.inr (.inr (.inr (pst pa pm))))))] : va_W) ++ (pool cy pa pv pg pm)) hP hD (fun hP hD => ?_)
    refine lv_goto (tgt := 48) hx hb dX11_remember_32 (by decide) ?_
    refine lv_aload_n hx hb dX11_remember_48 rfl (lv_at hl 1 rfl) ?_
    refine va_get (ci := 11) (v := .ref xp) (C := RX11) (T := TX11) (N := 12) hx hb hts (fun _ h => List.mem_cons_of_mem _ (List.mem_append_left _ (List.mem_append_right _ h))) hown hK.1 hP 0 rfl rfl 7 (by decide) (hts (.fieldLink RX11 76 "CutAtlas" "past" "[LCutAtlas$Net;") (by decide +kernel)) (fun _ h9 => h9) rfl dX11_remember_49 ?_
    refine lv_iload_n hx hb dX11_remember_52 rfl (lv_at hl 0 rfl) ?_
    have h_46 : vp_in y_2 30 := in_I (by omega) (by omega)
    refine va_aldq hx hb hK.1 hP 7 5 rfl rfl (i := y_2) h_46 dX11_remember_53 ?_
    by_cases hlt_ : y_2.toNatClampNeg < pm
    · refine lv_topv (v' := .ref (pa y_2.toNatClampNeg 0)) (pst_some hlt_) ?_
      refine lv_ifnonnull (tgt := 70) hx hb dX11_remember_54 (by decide) ?_
      refine lv_aload_n hx hb dX11_remember_70 rfl (lv_at hl 1 rfl) ?_
      refine va_get (ci := 11) (v := .ref xp) (C := RX11) (T := TX11) (N := 12) hx hb hts (fun _ h => List.mem_cons_of_mem _ (List.mem_append_left _ (List.mem_append_right _ h))) hown hK.1 hP 0 rfl rfl 7 (by decide) (hts (.fieldLink RX11 76 "CutAtlas" "past" "[LCutAtlas$Net;") (by decide +kernel)) (fun _ h9 => h9) rfl dX11_remember_71 ?_
      refine lv_iload_n hx hb dX11_remember_74 rfl (lv_at hl 0 rfl) ?_
      have h_47 : vp_in y_2 30 := in_I (by omega) (by omega)
      refine va_aldq hx hb hK.1 hP 7 5 rfl rfl (i := y_2) h_47 dX11_remember_75 ?_
      have hlt_ : y_2.toNatClampNeg < pm := hlt_
      refine lv_topv (v' := .ref (pa y_2.toNatClampNeg 0)) (pst_some hlt_) ?_
      have hk_ : y_2.toNatClampNeg < pm := hlt_
      have hP := foc_P hk_ hP
      have hD := foc_D hk_ hD
      refine pd_K (([(xo, .inr (11, [.ref xk, .ref xn, .ref xc, .ref xh, .ref xt, .ref xw, .ref xm, .ref xp, .int pf, .int y_45, .long tr, .int fi])), (xn, .inr (3, [.int vp, .int vn, .ref n1, .ref n2, .ref n3, .ref n4, .ref n5])), (n1, .inl (cy 0, 40, .inl fk)), (n2, .inl (cy 0, 40, .inl fs)), (n3, .inl (cy 0, 40, .inl fe)), (n4, .inl (cy 0, 40, .inl fw)), (n5, .inl (cy 0, 40, .inl fp)), (xp, .inl (cy 5, 30, .inr (.inr (.inr (.inr (pst pa pm)))))), ((pa y_2.toNatClampNeg 0), .inr (3, [.int (pv y_2.toNatClampNeg 0), .int (pv y_2.toNatClampNeg 1), .ref (pa y_2.toNatClampNeg 1), .ref (pa y_2.toNatClampNeg 2), .ref (pa y_2.toNatClampNeg 3), .ref (pa y_2.toNatClampNeg 4), .ref (pa y_2.toNatClampNeg 5)])), ((pa y_2.toNatClampNeg 1), .inl (cy 0, 40, .inl (pg y_2.toNatClampNeg 1))), ((pa y_2.toNatClampNeg 2), .inl (cy 0, 40, .inl (pg y_2.toNatClampNeg 2))), ((pa y_2.toNatClampNeg 3), .inl (cy 0, 40, .inl (pg y_2.toNatClampNeg 3))), ((pa y_2.toNatClampNeg 4), .inl (cy 0, 40, .inl (pg y_2.toNatClampNeg 4))), ((pa y_2.toNatClampNeg 5), .inl (cy 0, 40, .inl (pg y_2.toNatClampNeg 5)))] : va_W) ++ (prest cy pa pv pg pm y_2.toNatClampNeg)) hP hD (fun hP hD => ?_)
      have hn_48 := hpk y_2.toNatClampNeg hk_
      have rr_49 : rng (pg y_2.toNatClampNeg 1) 40 (0) (4) := hn_48.2.2.1
      have rr_50 : rng (pg y_2.toNatClampNeg 4) 40 (0) (2000) := hn_48.2.2.2.2.1
      have rr_51 : rng (pg y_2.toNatClampNeg 5) 40 (0) (100) := hn_48.2.2.2.2.2
      have hnp_ := hn_48.1; have hnl_ := hn_48.2.1; have hnpr_ := hn_48.2.2.2.1
      refine lv_aload_n hx hb dX11_remember_76 rfl (lv_at hl 1 rfl) ?_
      refine va_get (ci := 11) (v := .ref xn) (C := RX11) (T := TX11) (N := 12) hx hb hts (fun _ h => List.mem_cons_of_mem _ (List.mem_append_left _ (List.mem_append_right _ h))) hown hK.1 hP 0 rfl rfl 1 (by decide) (hts (.fieldLink RX11 31 "CutAtlas" "net" "LCutAtlas$Net;") (by decide +kernel)) (fun _ h9 => h9) rfl dX11_remember_77 ?_
      have hPx := pp_left hP
      have hDx := dd_left hD
      refine ct_S hPx hDx hS hA [((pa y_2.toNatClampNeg 0), .inr (3, [.int (pv y_2.toNatClampNeg 0), .int (pv y_2.toNatClampNeg 1), .ref (pa y_2.toNatClampNeg 1), .ref (pa y_2.toNatClampNeg 2), .ref (pa y_2.toNatClampNeg 3), .ref (pa y_2.toNatClampNeg 4), .ref (pa y_2.toNatClampNeg 5)])), ((pa y_2.toNatClampNeg 1), .inl (cy 0, 40, .inl (pg y_2.toNatClampNeg 1))), ((pa y_2.toNatClampNeg 2), .inl (cy 0, 40, .inl (pg y_2.toNatClampNeg 2))), ((pa y_2.toNatClampNeg 3), .inl (cy 0, 40, .inl (pg y_2.toNatClampNeg 3))), ((pa y_2.toNatClampNeg 4), .inl (cy 0, 40, .inl (pg y_2.toNatClampNeg 4))), ((pa y_2.toNatClampNeg 5), .inl (cy 0, 40, .inl (pg y_2.toNatClampNeg 5))), (xn, .inr (3, [.int vp, .int vn, .ref n1, .ref n2, .ref n3, .ref n4, .ref n5])), (n1, .inl (cy 0, 40, .inl fk)), (n2, .inl (cy 0, 40, .inl fs)), (n3, .inl (cy 0, 40, .inl fe)), (n4, .inl (cy 0, 40, .inl fw)), (n5, .inl (cy 0, 40, .inl fp))] [8, 9, 10, 11, 12, 13, 1, 2, 3, 4, 5, 6] (by decide +kernel) rfl (fun hPc hDw hFc hC_ => ?_)
      refine va_callv (va_runV (As := [.ref xn]) (rest := []) ⟨hx, hb, hml, hown, hts⟩ (c_X3_become l D cy H.size (pa y_2.toNatClampNeg 0) (pa y_2.toNatClampNeg 1) (pa y_2.toNatClampNeg 2) (pa y_2.toNatClampNeg 3) (pa y_2.toNatClampNeg 4) (pa y_2.toNatClampNeg 5) (pv y_2.toNatClampNeg 0) (pv y_2.toNatClampNeg 1) xn n1 n2 n3 n4 n5 vp vn (pg y_2.toNatClampNeg 1) (pg y_2.toNatClampNeg 2) (pg y_2.toNatClampNeg 3) (pg y_2.toNatClampNeg 4) (pg y_2.toNatClampNeg 5) fk fs fe fw fp (by first | with_reducible assumption | omega | assumption) (by first | with_reducible assumption | omega | assumption) (by first | exact hnpr_ | exact prng_zero) (hpr) (by first | with_reducible assumption | assumption | exact rng_zero (by omega) (by omega)) (by first | with_reducible assumption | assumption | exact rng_zero (by omega) (by omega)) (by first | with_reducible assumption | assumption | exact rng_zero (by omega) (by omega)) (by first | with_reducible assumption | assumption | omega) (by first | with_reducible assumption | assumption | omega) (by first | with_reducible assumption | assumption | omega)) (cwV 1 hts gX11_remember_X3_become rfl rfl rfl (by decide +kernel) ⟨Nat.le_of_ble_eq_true rfl, Nat.le_of_ble_eq_true rfl⟩) ⟨bl_, va_recvX hK.1 hPx (ci := 3) (q0 := 8) rfl rfl, fun U hU hW => ⟨rfl, by rw [hU], by rw [hU]; exact hPc, kk_mv hW hK, hDw⟩⟩ rfl rfl hl.1 rfl (lv_room (Nat.le_of_ble_eq_true rfl)) dX11_remember_80 ⟨Nat.le_of_ble_eq_true rfl, Nat.le_of_ble_eq_true rfl⟩) hS (fun q _ h => hFc q h) hFc (fun u t H locs ht hvm hw hB hz1 hk1 hS => ?_)
      obtain ⟨fk9_53, fs9_54, fe9_55, fw9_56, fp9_57, g_58, g_59, g_60, g_61, hP1, hD1⟩ := hB
      rw [ht] at hP1
      obtain ⟨hP, hD⟩ := va_joinQ (wr := [(xo, .inr (11, [.ref xk, .ref xn, .ref xc, .ref xh, .ref xt, .ref xw, .ref xm, .ref xp, .int pf, .int y_45, .long tr, .int fi])), (xp, .inl (cy 5, 30, .inr (.inr (.inr (.inr (pst pa pm))))))]) (w1 := [((pa y_2.toNatClampNeg 0), .inr (3, [.int vp, .int vn, .ref (pa y_2.toNatClampNeg 1), .ref (pa y_2.toNatClampNeg 2), .ref (pa y_2.toNatClampNeg 3), .ref (pa y_2.toNatClampNeg 4), .ref (pa y_2.toNatClampNeg 5)])), ((pa y_2.toNatClampNeg 1), .inl (cy 0, 40, .inl fk9_53)), ((pa y_2.toNatClampNeg 2), .inl (cy 0, 40, .inl fs9_54)), ((pa y_2.toNatClampNeg 3), .inl (cy 0, 40, .inl fe9_55)), ((pa y_2.toNatClampNeg 4), .inl (cy 0, 40, .inl fw9_56)), ((pa y_2.toNatClampNeg 5), .inl (cy 0, 40, .inl fp9_57)), (xn, .inr (3, [.int vp, .int vn, .ref n1, .ref n2, .ref n3, .ref n4, .ref n5])), (n1, .inl (cy 0, 40, .inl fk)), (n2, .inl (cy 0, 40, .inl fs)), (n3, .inl (cy 0, 40, .inl fe)), (n4, .inl (cy 0, 40, .inl fw)), (n5, .inl (cy 0, 40, .inl fp))]) hP hD [8, 9, 10, 11, 12, 13, 1, 2, 3, 4, 5, 6] [0, 7] hC_ rfl (by decide) (by decide) hk1 hFc hP1 hD1
      refine pd_K (([(xo, .inr (11, [.ref xk, .ref xn, .ref xc, .ref xh, .ref xt, .ref xw, .ref xm, .ref xp, .int pf, .int y_45, .long tr, .int fi])), (xp, .inl (cy 5, 30, .inr (.inr (.inr (.inr (pst pa pm)))))), ((pa y_2.toNatClampNeg 0), .inr (3, [.int vp, .int vn, .ref (pa y_2.toNatClampNeg 1), .ref (pa y_2.toNatClampNeg 2), .ref (pa y_2.toNatClampNeg 3), .ref (pa y_2.toNatClampNeg 4), .ref (pa y_2.toNatClampNeg 5)])), ((pa y_2.toNatClampNeg 1), .inl (cy 0, 40, .inl fk9_53)), ((pa y_2.toNatClampNeg 2), .inl (cy 0, 40, .inl fs9_54)), ((pa y_2.toNatClampNeg 3), .inl (cy 0, 40, .inl fe9_55)), ((pa y_2.toNatClampNeg 4), .inl (cy 0, 40, .inl fw9_56)), ((pa y_2.toNatClampNeg 5), .inl (cy 0, 40, .inl fp9_57)), (xn, .inr (3, [.int vp, .int vn, .ref n1, .ref n2, .ref n3, .ref n4, .ref n5])), (n1, .inl (cy 0, 40, .inl fk)), (n2, .inl (cy 0, 40, .inl fs)), (n3, .inl (cy 0, 40, .inl fe)), (n4, .inl (cy 0, 40, .inl fw)), (n5, .inl (cy 0, 40, .inl fp))] : va_W) ++ (prest cy pa pv pg pm y_2.toNatClampNeg)) hP hD (fun hP hD => ?_)
      refine pd_P hP hD [(xo, .inr (11, [.ref xk, .ref xn, .ref xc, .ref xh, .ref xt, .ref xw, .ref xm, .ref xp, .int pf, .int y_45, .long tr, .int fi])), (xn, .inr (3, [.int vp, .int vn, .ref n1, .ref n2, .ref n3, .ref n4, .ref n5])), (n1, .inl (cy 0, 40, .inl fk)), (n2, .inl (cy 0, 40, .inl fs)), (n3, .inl (cy 0, 40, .inl fe)), (n4, .inl (cy 0, 40, .inl fw)), (n5, .inl (cy 0, 40, .inl fp)), (xp, .inl (cy 5, 30, .inr (.inr (.inr (.inr (pst pa pm)))))), ((pa y_2.toNatClampNeg 0), .inr (3, [.int vp, .int vn, .ref (pa y_2.toNatClampNeg 1), .ref (pa y_2.toNatClampNeg 2), .ref (pa y_2.toNatClampNeg 3), .ref (pa y_2.toNatClampNeg 4), .ref (pa y_2.toNatClampNeg 5)])), ((pa y_2.toNatClampNeg 1), .inl (cy 0, 40, .inl fk9_53)), ((pa y_2.toNatClampNeg 2), .inl (cy 0, 40, .inl fs9_54)), ((pa y_2.toNatClampNeg 3), .inl (cy 0, 40, .inl fe9_55)), ((pa y_2.toNatClampNeg 4), .inl (cy 0, 40, .inl fw9_56)), ((pa y_2.toNatClampNeg 5), .inl (cy 0, 40, .inl fp9_57))] [0, 8, 9, 10, 11, 12, 13, 1, 2, 3, 4, 5, 6, 7] (by decide +kernel) rfl (fun hP hD => ?_)
      obtain ⟨pvk_62, epvk_62⟩ : ∃ g : Nat → Nat → Int32, g = va_up pv y_2.toNatClampNeg (qn2 vp vn) := ⟨_, rfl⟩
      obtain ⟨pgk_62, epgk_62⟩ : ∃ g : Nat → Nat → Nat → Int32, g = va_up pg y_2.toNatClampNeg (qn5 fk9_53 fs9_54 fe9_55 fw9_56 fp9_57) := ⟨_, rfl⟩
      have hcg_ : ∀ i : Nat, i ≠ y_2.toNatClampNeg → pvk_62 i = pv i ∧ pgk_62 i = pg i := fun i hi => by rw [epvk_62, epgk_62]; exact ⟨va_up_ne _ _ hi, va_up_ne _ _ hi⟩
      have hP : va_P D vwCl ((([(xo, .inr (11, [.ref xk, .ref xn, .ref xc, .ref xh, .ref xt, .ref xw, .ref xm, .ref xp, .int pf, .int y_45, .long tr, .int fi])), (xn, .inr (3, [.int vp, .int vn, .ref n1, .ref n2, .ref n3, .ref n4, .ref n5])), (n1, .inl (cy 0, 40, .inl fk)), (n2, .inl (cy 0, 40, .inl fs)), (n3, .inl (cy 0, 40, .inl fe)), (n4, .inl (cy 0, 40, .inl fw)), (n5, .inl (cy 0, 40, .inl fp)), (xp, .inl (cy 5, 30, .inr (.inr (.inr (.inr (pst pa pm))))))] : va_W) ++ pnet cy pa pvk_62 pgk_62 y_2.toNatClampNeg) ++ (prest cy pa pv pg pm y_2.toNatClampNeg)) H := by rw [show pnet cy pa pvk_62 pgk_62 y_2.toNatClampNeg = [((pa y_2.toNatClampNeg 0), .inr (3, [.int vp, .int vn, .ref (pa y_2.toNatClampNeg 1), .ref (pa y_2.toNatClampNeg 2), .ref (pa y_2.toNatClampNeg 3), .ref (pa y_2.toNatClampNeg 4), .ref (pa y_2.toNatClampNeg 5)])), ((pa y_2.toNatClampNeg 1), .inl (cy 0, 40, .inl fk9_53)), ((pa y_2.toNatClampNeg 2), .inl (cy 0, 40, .inl fs9_54)), ((pa y_2.toNatClampNeg 3), .inl (cy 0, 40, .inl fe9_55)), ((pa y_2.toNatClampNeg 4), .inl (cy 0, 40, .inl fw9_56)), ((pa y_2.toNatClampNeg 5), .inl (cy 0, 40, .inl fp9_57))] by unfold pnet; rw [epvk_62, epgk_62, va_up_self, va_up_self]; rfl]; exact hP
      have hD : va_D A ((([(xo, .inr (11, [.ref xk, .ref xn, .ref xc, .ref xh, .ref xt, .ref xw, .ref xm, .ref xp, .int pf, .int y_45, .long tr, .int fi])), (xn, .inr (3, [.int vp, .int vn, .ref n1, .ref n2, .ref n3, .ref n4, .ref n5])), (n1, .inl (cy 0, 40, .inl fk)), (n2, .inl (cy 0, 40, .inl fs)), (n3, .inl (cy 0, 40, .inl fe)), (n4, .inl (cy 0, 40, .inl fw)), (n5, .inl (cy 0, 40, .inl fp)), (xp, .inl (cy 5, 30, .inr (.inr (.inr (.inr (pst pa pm))))))] : va_W) ++ pnet cy pa pvk_62 pgk_62 y_2.toNatClampNeg) ++ (prest cy pa pv pg pm y_2.toNatClampNeg)) := by rw [show pnet cy pa pvk_62 pgk_62 y_2.toNatClampNeg = [((pa y_2.toNatClampNeg 0), .inr (3, [.int vp, .int vn, .ref (pa y_2.toNatClampNeg 1), .ref (pa y_2.toNatClampNeg 2), .ref (pa y_2.toNatClampNeg 3), .ref (pa y_2.toNatClampNeg 4), .ref (pa y_2.toNatClampNeg 5)])), ((pa y_2.toNatClampNeg 1), .inl (cy 0, 40, .inl fk9_53)), ((pa y_2.toNatClampNeg 2), .inl (cy 0, 40, .inl fs9_54)), ((pa y_2.toNatClampNeg 3), .inl (cy 0, 40, .inl fe9_55)), ((pa y_2.toNatClampNeg 4), .inl (cy 0, 40, .inl fw9_56)), ((pa y_2.toNatClampNeg 5), .inl (cy 0, 40, .inl fp9_57))] by unfold pnet; rw [epvk_62, epgk_62, va_up_self, va_up_self]; rfl]; exact hD
      have hP := unf_P hk_ hcg_ hP
      have hD := unf_D hk_ hcg_ hD
      refine pd_K (([(xo, .inr (11, [.ref xk, .ref xn, .ref xc, .ref xh, .ref xt, .ref xw, .ref xm, .ref xp, .int pf, .int y_45, .long tr, .int fi])), (xn, .inr (3, [.int vp, .int vn, .ref n1, .ref n2, .ref n3, .ref n4, .ref n5])), (n1, .inl (cy 0, 40, .inl fk)), (n2, .inl (cy 0, 40, .inl fs)), (n3, .inl (cy 0, 40, .inl fe)), (n4, .inl (cy 0, 40, .inl fw)), (n5, .inl (cy 0, 40, .inl fp)), (xp, .inl (cy 5, 30, .inr (.inr (.inr (.inr (pst pa pm))))))] : va_W) ++ (pool cy pa pvk_62 pgk_62 pm)) hP hD (fun hP hD => ?_)
      have pk_63 : pok pvk_62 pgk_62 pm := by rw [epvk_62, epgk_62]; exact pok_st hpk (by omega) (⟨hnk.1, hnk.2.1, g_59, g_58, g_60, g_61⟩)
      refine W.widen (k := 6) (n := 207) (Nat.le_of_ble_eq_true rfl) (Nat.le_of_ble_eq_true rfl) ?_
      rw [hQ]
      exact W.vret hx hb hr (fun t ht hW => ⟨⟨(), rfl, trivial, pf, y_45, pa, pvk_62, pgk_62, pm, (hnk), (by assumption), (by unfold rok; omega), by rw [ht]; exact hP, hD⟩, hS.F ht⟩) hS.2.2 dX11_remember_83
    · refine lv_topv (v' := .null) (pst_none hlt_) ?_
      refine lv_ifnonnullN hx hb dX11_remember_54 ?_
      refine lv_aload_n hx hb dX11_remember_57 rfl (lv_at hl 1 rfl) ?_
      refine va_get (ci := 11) (v := .ref xp) (C := RX11) (T := TX11) (N := 12) hx hb hts (fun _ h => List.mem_cons_of_mem _ (List.mem_append_left _ (List.mem_append_right _ h))) hown hK.1 hP 0 rfl rfl 7 (by decide) (hts (.fieldLink RX11 76 "CutAtlas" "past" "[LCutAtlas$Net;") (by decide +kernel)) (fun _ h9 => h9) rfl dX11_remember_58 ?_
      refine lv_iload_n hx hb dX11_remember_61 rfl (lv_at hl 0 rfl) ?_
      refine va_new (ci := 3) (fs := [.int 0, .int 0, .null, .null, .null, .null, .null]) (C := RX3) (T := TX3) (N := 7) hx hb hts (fun _ h => List.mem_cons_of_mem _ (List.mem_append_right _ h)) tyX3 tyX3_ok hown (hts (.classLink RX11 28 RX3) (by decide +kernel)) (hts (.instantiable RX3 7) (by decide +kernel)) (hts (.initialized RX3) (by decide +kernel)) hK.1 hP hD hS hA rfl (by decide +kernel) (Nat.le_of_ble_eq_true rfl) (Nat.le_of_ble_eq_true rfl) dX11_remember_62 (fun q_64 H hP hD hS => ?_)
      have hP := va_P.swap hP
      have hD := va_D.swap hD
      refine pd_K (([(xo, .inr (11, [.ref xk, .ref xn, .ref xc, .ref xh, .ref xt, .ref xw, .ref xm, .ref xp, .int pf, .int y_45, .long tr, .int fi])), (xn, .inr (3, [.int vp, .int vn, .ref n1, .ref n2, .ref n3, .ref n4, .ref n5])), (n1, .inl (cy 0, 40, .inl fk)), (n2, .inl (cy 0, 40, .inl fs)), (n3, .inl (cy 0, 40, .inl fe)), (n4, .inl (cy 0, 40, .inl fw)), (n5, .inl (cy 0, 40, .inl fp)), (xp, .inl (cy 5, 30, .inr (.inr (.inr (.inr (pst pa pm)))))), (q_64, .inr (3, [.int 0, .int 0, .null, .null, .null, .null, .null]))] : va_W) ++ (pool cy pa pv pg pm)) hP hD (fun hP hD => ?_)
      refine lv_dup hx hb dX11_remember_65 rfl ?_
      have hPc := hP.sub (ws' := [(q_64, .inr (3, [.int 0, .int 0, .null, .null, .null, .null, .null]))]) [8] rfl
      have hDc := hD.sub (ws' := [(q_64, .inr (3, [.int 0, .int 0, .null, .null, .null, .null, .null]))]) [8] (by decide) rfl
      have hDw : va_D (fun _ => True) [(q_64, .inr (3, [.int 0, .int 0, .null, .null, .null, .null, .null]))] := hDc.weaken (fun _ _ _ _ => trivial)
      have hFc := va_free (wc := [(q_64, .inr (3, [.int 0, .int 0, .null, .null, .null, .null, .null]))]) hD hS hA [8] rfl
      refine va_callv (va_runIN (As := []) (rest := [.ref q_64, .int y_2, .ref xp]) ⟨hx, hb, hml, hown, hts⟩ (c_X3_init l D cy H.size q_64) ⟨va_cnB 0 hts gX11_remember_X3_init_n30 rfl rfl rfl (kk_nX11_30 hK) (hts (.initialized RX3) (by decide +kernel)) (by decide +kernel) ⟨Nat.le_of_ble_eq_true rfl, Nat.le_of_ble_eq_true rfl⟩, rfl, (hts (.instanceMethod yX3_init) (by decide +kernel))⟩ ⟨bl_, fun U hU hW => ⟨rfl, by rw [hU], by rw [hU]; exact hPc, kk_mv hW hK, hDw⟩⟩ rfl rfl hl.1 rfl (lv_room (Nat.le_of_ble_eq_true rfl)) dX11_remember_66 ⟨Nat.le_of_ble_eq_true rfl, Nat.le_of_ble_eq_true rfl⟩) hS (fun q _ h => hFc q h) hFc (fun u t H locs ht hvm hw hB hz1 hk1 hS => ?_)
      obtain ⟨n1_66, n2_67, n3_68, n4_69, n5_70, hP1, hD1⟩ := hB
      rw [ht] at hP1
      obtain ⟨hP, hD⟩ := va_joinQ (cx := [(q_64, .inr (3, [.int 0, .int 0, .null, .null, .null, .null, .null]))]) (wr := [(xo, .inr (11, [.ref xk, .ref xn, .ref xc, .ref xh, .ref xt, .ref xw, .ref xm, .ref xp, .int pf, .int y_45, .long tr, .int fi])), (xn, .inr (3, [.int vp, .int vn, .ref n1, .ref n2, .ref n3, .ref n4, .ref n5])), (n1, .inl (cy 0, 40, .inl fk)), (n2, .inl (cy 0, 40, .inl fs)), (n3, .inl (cy 0, 40, .inl fe)), (n4, .inl (cy 0, 40, .inl fw)), (n5, .inl (cy 0, 40, .inl fp)), (xp, .inl (cy 5, 30, .inr (.inr (.inr (.inr (pst pa pm))))))]) (w1 := [(q_64, .inr (3, [.int 0, .int 0, .ref n1_66, .ref n2_67, .ref n3_68, .ref n4_69, .ref n5_70])), (n1_66, .inl (cy 0, 40, .inl (fun _ => 0))), (n2_67, .inl (cy 0, 40, .inl (fun _ => 0))), (n3_68, .inl (cy 0, 40, .inl (fun _ => 0))), (n4_69, .inl (cy 0, 40, .inl (fun _ => 0))), (n5_70, .inl (cy 0, 40, .inl (fun _ => 0)))]) hP hD [8] [0, 1, 2, 3, 4, 5, 6, 7] rfl rfl (by decide) (by decide) hk1 hFc hP1 hD1
      refine pd_K (([(xo, .inr (11, [.ref xk, .ref xn, .ref xc, .ref xh, .ref xt, .ref xw, .ref xm, .ref xp, .int pf, .int y_45, .long tr, .int fi])), (xn, .inr (3, [.int vp, .int vn, .ref n1, .ref n2, .ref n3, .ref n4, .ref n5])), (n1, .inl (cy 0, 40, .inl fk)), (n2, .inl (cy 0, 40, .inl fs)), (n3, .inl (cy 0, 40, .inl fe)), (n4, .inl (cy 0, 40, .inl fw)), (n5, .inl (cy 0, 40, .inl fp)), (xp, .inl (cy 5, 30, .inr (.inr (.inr (.inr (pst pa pm)))))), (q_64, .inr (3, [.int 0, .int 0, .ref n1_66, .ref n2_67, .ref n3_68, .ref n4_69, .ref n5_70])), (n1_66, .inl (cy 0, 40, .inl (fun _ => 0))), (n2_67, .inl (cy 0, 40, .inl (fun _ => 0))), (n3_68, .inl (cy 0, 40, .inl (fun _ => 0))), (n4_69, .inl (cy 0, 40, .inl (fun _ => 0))), (n5_70, .inl (cy 0, 40, .inl (fun _ => 0)))] : va_W) ++ (pool cy pa pv pg pm)) hP hD (fun hP hD => ?_)
      have h_71 : vp_in y_2 30 := in_I (by omega) (by omega)
      refine va_astq hx hb hK.1 hP hD hS 7 5 8 3 rfl rfl rfl rfl (i := y_2) h_71 dX11_remember_69 (fun H locs hP hD hS => ?_)
      refine pd_K (([(xo, .inr (11, [.ref xk, .ref xn, .ref xc, .ref xh, .ref xt, .ref xw, .ref xm, .ref xp, .int pf, .int y_45, .long tr, .int fi])), (xn, .inr (3, [.int vp, .int vn, .ref n1, .ref n2, .ref n3, .ref n4, .ref n5])), (n1, .inl (cy 0, 40, .inl fk)), (n2, .inl (cy 0, 40, .inl fs)), (n3, .inl (cy 0, 40, .inl fe)), (n4, .inl (cy 0, 40, .inl fw)), (n5, .inl (cy 0, 40, .inl fp)), (xp, .inl (cy 5, 30, .inr (.inr (.inr (.inr (va_up (pst pa pm) y_2.toNatClampNeg (some q_64))))))), (q_64, .inr (3, [.int 0, .int 0, .ref n1_66, .ref n2_67, .ref n3_68, .ref n4_69, .ref n5_70])), (n1_66, .inl (cy 0, 40, .inl (fun _ => 0))), (n2_67, .inl (cy 0, 40, .inl (fun _ => 0))), (n3_68, .inl (cy 0, 40, .inl (fun _ => 0))), (n4_69, .inl (cy 0, 40, .inl (fun _ => 0))), (n5_70, .inl (cy 0, 40, .inl (fun _ => 0)))] : va_W) ++ (pool cy pa pv pg pm)) hP hD (fun hP hD => ?_)
      refine lv_aload_n hx hb dX11_remember_70 rfl (lv_at hl 1 rfl) ?_
      refine va_get (ci := 11) (v := .ref xp) (C := RX11) (T := TX11) (N := 12) hx hb hts (fun _ h => List.mem_cons_of_mem _ (List.mem_append_left _ (List.mem_append_right _ h))) hown hK.1 hP 0 rfl rfl 7 (by decide) (hts (.fieldLink RX11 76 "CutAtlas" "past" "[LCutAtlas$Net;") (by decide +kernel)) (fun _ h9 => h9) rfl dX11_remember_71 ?_
      refine lv_iload_n hx hb dX11_remember_74 rfl (lv_at hl 0 rfl) ?_
      have h_72 : vp_in y_2 30 := in_I (by omega) (by omega)
      refine va_aldq hx hb hK.1 hP 7 5 rfl rfl (i := y_2) h_72 dX11_remember_75 ?_
      refine lv_topv (v' := .ref q_64) (by rw [va_up_self]; rfl) ?_
      refine lv_aload_n hx hb dX11_remember_76 rfl (lv_at hl 1 rfl) ?_
      refine va_get (ci := 11) (v := .ref xn) (C := RX11) (T := TX11) (N := 12) hx hb hts (fun _ h => List.mem_cons_of_mem _ (List.mem_append_left _ (List.mem_append_right _ h))) hown hK.1 hP 0 rfl rfl 1 (by decide) (hts (.fieldLink RX11 31 "CutAtlas" "net" "LCutAtlas$Net;") (by decide +kernel)) (fun _ h9 => h9) rfl dX11_remember_77 ?_
      have hPx := pp_left hP
      have hDx := dd_left hD
      refine ct_S hPx hDx hS hA [(q_64, .inr (3, [.int 0, .int 0, .ref n1_66, .ref n2_67, .ref n3_68, .ref n4_69, .ref n5_70])), (n1_66, .inl (cy 0, 40, .inl (fun _ => 0))), (n2_67, .inl (cy 0, 40, .inl (fun _ => 0))), (n3_68, .inl (cy 0, 40, .inl (fun _ => 0))), (n4_69, .inl (cy 0, 40, .inl (fun _ => 0))), (n5_70, .inl (cy 0, 40, .inl (fun _ => 0))), (xn, .inr (3, [.int vp, .int vn, .ref n1, .ref n2, .ref n3, .ref n4, .ref n5])), (n1, .inl (cy 0, 40, .inl fk)), (n2, .inl (cy 0, 40, .inl fs)), (n3, .inl (cy 0, 40, .inl fe)), (n4, .inl (cy 0, 40, .inl fw)), (n5, .inl (cy 0, 40, .inl fp))] [8, 9, 10, 11, 12, 13, 1, 2, 3, 4, 5, 6] (by decide +kernel) rfl (fun hPc hDw hFc hC_ => ?_)
      refine va_callv (va_runV (As := [.ref xn]) (rest := []) ⟨hx, hb, hml, hown, hts⟩ (c_X3_become l D cy H.size q_64 n1_66 n2_67 n3_68 n4_69 n5_70 (0 : Int32) (0 : Int32) xn n1 n2 n3 n4 n5 vp vn (fun _ => 0) (fun _ => 0) (fun _ => 0) (fun _ => 0) (fun _ => 0) fk fs fe fw fp (by first | with_reducible assumption | omega | assumption) (by first | with_reducible assumption | omega | assumption) (by first | exact hnpr_ | exact prng_zero) (hpr) (by first | with_reducible assumption | assumption | exact rng_zero (by omega) (by omega)) (by first | with_reducible assumption | assumption | exact rng_zero (by omega) (by omega)) (by first | with_reducible assumption | assumption | exact rng_zero (by omega) (by omega)) (by first | with_reducible assumption | assumption | omega) (by first | with_reducible assumption | assumption | omega) (by first | with_reducible assumption | assumption | omega)) (cwV 1 hts gX11_remember_X3_become rfl rfl rfl (by decide +kernel) ⟨Nat.le_of_ble_eq_true rfl, Nat.le_of_ble_eq_true rfl⟩) ⟨bl_, va_recvX hK.1 hPx (ci := 3) (q0 := 8) rfl rfl, fun U hU hW => ⟨rfl, by rw [hU], by rw [hU]; exact hPc, kk_mv hW hK, hDw⟩⟩ rfl rfl hl.1 rfl (lv_room (Nat.le_of_ble_eq_true rfl)) dX11_remember_80 ⟨Nat.le_of_ble_eq_true rfl, Nat.le_of_ble_eq_true rfl⟩) hS (fun q _ h => hFc q h) hFc (fun u t H locs ht hvm hw hB hz1 hk1 hS => ?_)
      obtain ⟨fk9_74, fs9_75, fe9_76, fw9_77, fp9_78, g_79, g_80, g_81, g_82, hP1, hD1⟩ := hB
      rw [ht] at hP1
      obtain ⟨hP, hD⟩ := va_joinQ (wr := [(xo, .inr (11, [.ref xk, .ref xn, .ref xc, .ref xh, .ref xt, .ref xw, .ref xm, .ref xp, .int pf, .int y_45, .long tr, .int fi])), (xp, .inl (cy 5, 30, .inr (.inr (.inr (.inr (va_up (pst pa pm) y_2.toNatClampNeg (some q_64)))))))]) (w1 := [(q_64, .inr (3, [.int vp, .int vn, .ref n1_66, .ref n2_67, .ref n3_68, .ref n4_69, .ref n5_70])), (n1_66, .inl (cy 0, 40, .inl fk9_74)), (n2_67, .inl (cy 0, 40, .inl fs9_75)), (n3_68, .inl (cy 0, 40, .inl fe9_76)), (n4_69, .inl (cy 0, 40, .inl fw9_77)), (n5_70, .inl (cy 0, 40, .inl fp9_78)), (xn, .inr (3, [.int vp, .int vn, .ref n1, .ref n2, .ref n3, .ref n4, .ref n5])), (n1, .inl (cy 0, 40, .inl fk)), (n2, .inl (cy 0, 40, .inl fs)), (n3, .inl (cy 0, 40, .inl fe)), (n4, .inl (cy 0, 40, .inl fw)), (n5, .inl (cy 0, 40, .inl fp))]) hP hD [8, 9, 10, 11, 12, 13, 1, 2, 3, 4, 5, 6] [0, 7] hC_ rfl (by decide) (by decide) hk1 hFc hP1 hD1
      refine pd_K (([(xo, .inr (11, [.ref xk, .ref xn, .ref xc, .ref xh, .ref xt, .ref xw, .ref xm, .ref xp, .int pf, .int y_45, .long tr, .int fi])), (xp, .inl (cy 5, 30, .inr (.inr (.inr (.inr (va_up (pst pa pm) y_2.toNatClampNeg (some q_64))))))), (q_64, .inr (3, [.int vp, .int vn, .ref n1_66, .ref n2_67, .ref n3_68, .ref n4_69, .ref n5_70])), (n1_66, .inl (cy 0, 40, .inl fk9_74)), (n2_67, .inl (cy 0, 40, .inl fs9_75)), (n3_68, .inl (cy 0, 40, .inl fe9_76)), (n4_69, .inl (cy 0, 40, .inl fw9_77)), (n5_70, .inl (cy 0, 40, .inl fp9_78)), (xn, .inr (3, [.int vp, .int vn, .ref n1, .ref n2, .ref n3, .ref n4, .ref n5])), (n1, .inl (cy 0, 40, .inl fk)), (n2, .inl (cy 0, 40, .inl fs)), (n3, .inl (cy 0, 40, .inl fe)), (n4, .inl (cy 0, 40, .inl fw)), (n5, .inl (cy 0, 40, .inl fp))] : va_W) ++ (pool cy pa pv pg pm)) hP hD (fun hP hD => ?_)
      refine pd_P hP hD [(xo, .inr (11, [.ref xk, .ref xn, .ref xc, .ref xh, .ref xt, .ref xw, .ref xm, .ref xp, .int pf, .int y_45, .long tr, .int fi])), (xn, .inr (3, [.int vp, .int vn, .ref n1, .ref n2, .ref n3, .ref n4, .ref n5])), (n1, .inl (cy 0, 40, .inl fk)), (n2, .inl (cy 0, 40, .inl fs)), (n3, .inl (cy 0, 40, .inl fe)), (n4, .inl (cy 0, 40, .inl fw)), (n5, .inl (cy 0, 40, .inl fp)), (xp, .inl (cy 5, 30, .inr (.inr (.inr (.inr (va_up (pst pa pm) y_2.toNatClampNeg (some q_64))))))), (q_64, .inr (3, [.int vp, .int vn, .ref n1_66, .ref n2_67, .ref n3_68, .ref n4_69, .ref n5_70])), (n1_66, .inl (cy 0, 40, .inl fk9_74)), (n2_67, .inl (cy 0, 40, .inl fs9_75)), (n3_68, .inl (cy 0, 40, .inl fe9_76)), (n4_69, .inl (cy 0, 40, .inl fw9_77)), (n5_70, .inl (cy 0, 40, .inl fp9_78))] [0, 8, 9, 10, 11, 12, 13, 1, 2, 3, 4, 5, 6, 7] (by decide +kernel) rfl (fun hP hD => ?_)
      obtain ⟨pvk_83, epvk_83⟩ : ∃ g : Nat → Nat → Int32, g = va_up pv pm (qn2 vp vn) := ⟨_, rfl⟩
      obtain ⟨pgk_83, epgk_83⟩ : ∃ g : Nat → Nat → Nat → Int32, g = va_up pg pm (qn5 fk9_74 fs9_75 fe9_76 fw9_77 fp9_78) := ⟨_, rfl⟩
      obtain ⟨pak_83, epak_83⟩ : ∃ g : Nat → Nat → Nat, g = va_up pa pm (qn6 q_64 n1_66 n2_67 n3_68 n4_69 n5_70) := ⟨_, rfl⟩
      have hcg_ : ∀ i : Nat, i < pm → pak_83 i = pa i ∧ pvk_83 i = pv i ∧ pgk_83 i = pg i := fun i hi => by rw [epak_83, epvk_83, epgk_83]; exact ⟨va_up_ne _ _ (by omega), va_up_ne _ _ (by omega), va_up_ne _ _ (by omega)⟩
      have hP : va_P D vwCl ((([(xo, .inr (11, [.ref xk, .ref xn, .ref xc, .ref xh, .ref xt, .ref xw, .ref xm, .ref xp, .int pf, .int y_45, .long tr, .int fi])), (xn, .inr (3, [.int vp, .int vn, .ref n1, .ref n2, .ref n3, .ref n4, .ref n5])), (n1, .inl (cy 0, 40, .inl fk)), (n2, .inl (cy 0, 40, .inl fs)), (n3, .inl (cy 0, 40, .inl fe)), (n4, .inl (cy 0, 40, .inl fw)), (n5, .inl (cy 0, 40, .inl fp)), (xp, .inl (cy 5, 30, .inr (.inr (.inr (.inr (va_up (pst pa pm) y_2.toNatClampNeg (some q_64)))))))] : va_W) ++ pnet cy pak_83 pvk_83 pgk_83 pm) ++ (pool cy pa pv pg pm)) H := by rw [show pnet cy pak_83 pvk_83 pgk_83 pm = [(q_64, .inr (3, [.int vp, .int vn, .ref n1_66, .ref n2_67, .ref n3_68, .ref n4_69, .ref n5_70])), (n1_66, .inl (cy 0, 40, .inl fk9_74)), (n2_67, .inl (cy 0, 40, .inl fs9_75)), (n3_68, .inl (cy 0, 40, .inl fe9_76)), (n4_69, .inl (cy 0, 40, .inl fw9_77)), (n5_70, .inl (cy 0, 40, .inl fp9_78))] by unfold pnet; rw [epak_83, epvk_83, epgk_83, va_up_self, va_up_self, va_up_self]; rfl]; exact hP
      have hD : va_D A ((([(xo, .inr (11, [.ref xk, .ref xn, .ref xc, .ref xh, .ref xt, .ref xw, .ref xm, .ref xp, .int pf, .int y_45, .long tr, .int fi])), (xn, .inr (3, [.int vp, .int vn, .ref n1, .ref n2, .ref n3, .ref n4, .ref n5])), (n1, .inl (cy 0, 40, .inl fk)), (n2, .inl (cy 0, 40, .inl fs)), (n3, .inl (cy 0, 40, .inl fe)), (n4, .inl (cy 0, 40, .inl fw)), (n5, .inl (cy 0, 40, .inl fp)), (xp, .inl (cy 5, 30, .inr (.inr (.inr (.inr (va_up (pst pa pm) y_2.toNatClampNeg (some q_64)))))))] : va_W) ++ pnet cy pak_83 pvk_83 pgk_83 pm) ++ (pool cy pa pv pg pm)) := by rw [show pnet cy pak_83 pvk_83 pgk_83 pm = [(q_64, .inr (3, [.int vp, .int vn, .ref n1_66, .ref n2_67, .ref n3_68, .ref n4_69, .ref n5_70])), (n1_66, .inl (cy 0, 40, .inl fk9_74)), (n2_67, .inl (cy 0, 40, .inl fs9_75)), (n3_68, .inl (cy 0, 40, .inl fe9_76)), (n4_69, .inl (cy 0, 40, .inl fw9_77)), (n5_70, .inl (cy 0, 40, .inl fp9_78))] by unfold pnet; rw [epak_83, epvk_83, epgk_83, va_up_self, va_up_self, va_up_self]; rfl]; exact hD
      have hP := more_P hcg_ hP
      have hD := more_D hcg_ hD
      obtain ⟨mk_83, emk_83⟩ : ∃ x : Nat, x = pm + 1 := ⟨_, rfl⟩
      rw [← emk_83] at hP hD
      have ep_ : (va_up (pst pa pm) y_2.toNatClampNeg (some q_64)) = pst pak_83 mk_83 := by rw [emk_83]; exact pst_more (by omega) (by rw [epak_83, va_up_self]; rfl) (fun i hi => (hcg_ i hi).1)
      rw [ep_] at hP hD
      refine pd_K (([(xo, .inr (11, [.ref xk, .ref xn, .ref xc, .ref xh, .ref xt, .ref xw, .ref xm, .ref xp, .int pf, .int y_45, .long tr, .int fi])), (xn, .inr (3, [.int vp, .int vn, .ref n1, .ref n2, .ref n3, .ref n4, .ref n5])), (n1, .inl (cy 0, 40, .inl fk)), (n2, .inl (cy 0, 40, .inl fs)), (n3, .inl (cy 0, 40, .inl fe)), (n4, .inl (cy 0, 40, .inl fw)), (n5, .inl (cy 0, 40, .inl fp)), (xp, .inl (cy 5, 30, .inr (.inr (.inr (.inr (pst pak_83 mk_83))))))] : va_W) ++ (pool cy pak_83 pvk_83 pgk_83 mk_83)) hP hD (fun hP hD => ?_)
      have pk_84 : pok pvk_83 pgk_83 mk_83 := by rw [epvk_83, epgk_83]; exact pok_st hpk (by omega) (⟨hnk.1, hnk.2.1, g_80, g_79, g_81, g_82⟩)
      rw [hQ]
      exact W.vret hx hb hr (fun t ht hW => ⟨⟨(), rfl, trivial, pf, y_45, pak_83, pvk_83, pgk_83, mk_83, (hnk), (by assumption), (by unfold rok; omega), by rw [ht]; exact hP, hD⟩, hS.F ht⟩) hS.2.2 dX11_remember_83
end
