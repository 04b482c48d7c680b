set_option maxHeartbeats 4000000 in
set_option maxRecDepth 100000 in
theorem c_X12_tree (l : Launch) (D : va_G) (cy : Nat → ClassId) (sz : Nat) (mo : Nat) (g5 : Nat) (g6 : Nat) (g7 : Nat) (g8 : Nat) (g9 : Nat) (g10 : Nat) (g12 : Nat) (g13 : Nat) (g14 : Nat) (g15 : Nat) (g16 : Nat) (g17 : Nat) (g18 : Nat) (g19 : Nat) (g20 : Nat) (g22 : Nat) (g23 : Nat) (g24 : Nat) (g29 : Nat) (g30 : Nat) (g31 : Nat) (g32 : Nat) (g33 : Nat) (a1 : Int32) (a2 : Int32) : Met l yX12_tree wsX12_tree ({ frames := 1, cells := 0, slots := 0, locals := 25 }) (va_Pc [.ref mo, .int a1, .int a2] (fun U => U.heap.size = sz ∧ va_P D vwCl [(mo, .inr (12, [.int 0, .int 0, .long 0, .int 0, .int 0, .ref g5, .ref g6, .ref g7, .ref g8, .ref g9, .ref g10, .int 0, .ref g12, .ref g13, .ref g14, .ref g15, .ref g16, .ref g17, .ref g18, .ref g19, .ref g20, .int (-9), .ref g22, .ref g23, .ref g24, .int 0, .int 0, .int 0, .int 0, .ref g29, .ref g30, .ref g31, .ref g32, .ref g33]))] U.heap ∧ kk_ D cy U ∧ va_D (fun _ => True) [(mo, .inr (12, [.int 0, .int 0, .long 0, .int 0, .int 0, .ref g5, .ref g6, .ref g7, .ref g8, .ref g9, .ref g10, .int 0, .ref g12, .ref g13, .ref g14, .ref g15, .ref g16, .ref g17, .ref g18, .ref g19, .ref g20, .int (-9), .ref g22, .ref g23, .ref g24, .int 0, .int 0, .int 0, .int 0, .ref g29, .ref g30, .ref g31, .ref g32, .ref g33]))])) (va_Qi (fun (r : Int32) (_ : Unit) => ((¬ (0 ≤ a2.toInt ∧ a2.toInt ≤ 1)) ∧ r = (-1)) ∨ ((0 ≤ a2.toInt ∧ a2.toInt ≤ 1) ∧ r = (-2))) (fun (_ : Unit) (_ : State) => True) (va_A [(mo, .inr (12, [.int 0, .int 0, .long 0, .int 0, .int 0, .ref g5, .ref g6, .ref g7, .ref g8, .ref g9, .ref g10, .int 0, .ref g12, .ref g13, .ref g14, .ref g15, .ref g16, .ref g17, .ref g18, .ref g19, .ref g20, .int (-9), .ref g22, .ref g23, .ref g24, .int 0, .int 0, .int 0, .int 0, .ref g29, .ref g30, .ref g31, .ref g32, .ref g33]))] sz)) 0 0 (va_A [(mo, .inr (12, [.int 0, .int 0, .long 0, .int 0, .int 0, .ref g5, .ref g6, .ref g7, .ref g8, .ref g9, .ref g10, .int 0, .ref g12, .ref g13, .ref g14, .ref g15, .ref g16, .ref g17, .ref g18, .ref g19, .ref g20, .int (-9), .ref g22, .ref g23, .ref g24, .int 0, .int 0, .int 0, .int 0, .ref g29, .ref g30, .ref g31, .ref g32, .ref g33]))] sz) := by
  refine Met.ofW (cc := cX12_tree) (maxL := 3) (ret := (some .int)) (by decide) rfl ?_
  intro p e s m args below meth c s₁ B hml hv
  obtain ⟨rfl, hsz, hP, hK, hD0⟩ := hv
  have hx := B.exec
  have hb := B.bytes
  have hr := B.returns
  have hts := atoms_spec (ws := wsX12_tree) B.pre
  have hown : s.vm.findClass RX12 = some m.cls := findClass_of_methodNamed B.named
  have hlocks := B.notSynchronized
  subst hsz
  have hD := hD0.self (sz := s.heap.size)
  generalize hAe : va_A [(mo, .inr (12, [.int 0, .int 0, .long 0, .int 0, .int 0, .ref g5, .ref g6, .ref g7, .ref g8, .ref g9, .ref g10, .int 0, .ref g12, .ref g13, .ref g14, .ref g15, .ref g16, .ref g17, .ref g18, .ref g19, .ref g20, .int (-9), .ref g22, .ref g23, .ref g24, .int 0, .int 0, .int 0, .int 0, .ref g29, .ref g30, .ref g31, .ref g32, .ref g33]))] s.heap.size = A at hD ⊢
  have hA : ∀ q : Nat, s.heap.size ≤ q → A q := fun q h => by rw [← hAe]; exact Or.inr h
  have hS : va_S A s.heap s.heap [] := va_S.rf
  have hl := lv_entry ([.ref mo, .int a1, .int a2]) (n := 3) (Nat.le_of_ble_eq_true rfl)
  rw [lg_entry_eq]
  generalize (lg_sl ([.ref mo, .int a1, .int a2]) ++ List.replicate (3 - (lg_sl ([.ref mo, .int a1, .int a2])).length) Slot.unset).toArray = ls at hl ⊢
  have hl : lv_has ls 3 [(0, .ref mo), (1, .int a1), (2, .int a2)] := hl
  have zl0 : (0 : Int64).toInt = 0 := by decide
  have zl1 : (1 : Int64).toInt = 1 := by decide
  refine lv_aload_n hx hb dX12_tree_0 rfl (lv_at hl 0 rfl) ?_
  refine lv_iconst (v := 0) hx hb dX12_tree_1 (by decide) ?_
  refine va_put (ci := 12) (v := .int 0) (ty := .int) (C := RX12) (T := TX12) (N := 34) hx hb hts (fun _ h => List.mem_cons_of_mem _ (List.mem_append_right _ h)) tyX12 tyX12_ok nmX12 hown hK.1 hP hD hS 0 rfl rfl 0 (by decide) (hts (.fieldLink RX12 85 "CutAtlasModel" "thrown" "I") (by decide +kernel)) (fun _ h9 => h9) rfl (by decide +kernel) rfl rfl (Nat.le_of_ble_eq_true rfl) dX12_tree_2 (fun H locs hP hD hS => ?_)
  have hP : va_P D vwCl [(mo, .inr (12, [.int 0, .int 0, .long 0, .int 0, .int 0, .ref g5, .ref g6, .ref g7, .ref g8, .ref g9, .ref g10, .int 0, .ref g12, .ref g13, .ref g14, .ref g15, .ref g16, .ref g17, .ref g18, .ref g19, .ref g20, .int (-9), .ref g22, .ref g23, .ref g24, .int 0, .int 0, .int 0, .int 0, .ref g29, .ref g30, .ref g31, .ref g32, .ref g33]))] H := hP
  have hD : va_D A [(mo, .inr (12, [.int 0, .int 0, .long 0, .int 0, .int 0, .ref g5, .ref g6, .ref g7, .ref g8, .ref g9, .ref g10, .int 0, .ref g12, .ref g13, .ref g14, .ref g15, .ref g16, .ref g17, .ref g18, .ref g19, .ref g20, .int (-9), .ref g22, .ref g23, .ref g24, .int 0, .int 0, .int 0, .int 0, .ref g29, .ref g30, .ref g31, .ref g32, .ref g33]))] := hD
  refine lv_iload_n hx hb dX12_tree_5 rfl (lv_at hl 2 rfl) ?_
  refine lv_i2l (v := a2.toInt64) hx hb dX12_tree_6 rfl ?_
  have q_6 : (a2.toInt64).toInt = a2.toInt := Int32.toInt_toInt64 a2
  refine lv_lconst (v := 0) hx hb dX12_tree_7 (by decide) ?_
  refine lv_lconst (v := 1) hx hb dX12_tree_8 (by decide) ?_
  have hPc := hP.sub (ws' := []) [] rfl
  have hDc := hD.sub (ws' := []) [] (by decide) rfl
  have hDw : va_D (fun _ => True) [] := hDc.weaken (fun _ _ _ _ => trivial)
  have hFc := va_free (wc := []) hD hS hA [] rfl
  refine va_calli (va_runS (As := [.long a2.toInt64, .long 0, .long 1]) (rest := []) ⟨hx, hb, hml, hown, hts⟩ (c_X12_in l D cy H.size a2.toInt64 (0 : Int64) (1 : Int64)) (va_cwS 3 hts gX12_tree_X12_in rfl rfl rfl (by decide +kernel) ⟨Nat.le_of_ble_eq_true rfl, Nat.le_of_ble_eq_true rfl⟩) ⟨bl_, fun U hU hW => ⟨rfl, by rw [hU], by rw [hU]; exact hPc, kk_mv hW hK, hDw⟩⟩ rfl rfl hl.1 rfl (lv_room (Nat.le_of_ble_eq_true rfl)) dX12_tree_9 ⟨Nat.le_of_ble_eq_true rfl, Nat.le_of_ble_eq_true rfl⟩) hS (fun q _ h => hFc q h) hFc (fun r_1 u t H locs ht hvm hw hB hz1 hk1 hS => ?_)
  have hP := ro_keep hP hk1
  have hP : va_P D vwCl [(mo, .inr (12, [.int 0, .int 0, .long 0, .int 0, .int 0, .ref g5, .ref g6, .ref g7, .ref g8, .ref g9, .ref g10, .int 0, .ref g12, .ref g13, .ref g14, .ref g15, .ref g16, .ref g17, .ref g18, .ref g19, .ref g20, .int (-9), .ref g22, .ref g23, .ref g24, .int 0, .int 0, .int 0, .int 0, .ref g29, .ref g30, .ref g31, .ref g32, .ref g33]))] H := hP
  rcases hw with ⟨w_2, e_⟩ | ⟨w_2, e_⟩
  · have e_ := e_.symm
    subst e_
    refine lv_if_ne (tgt := 17) hx hb dX12_tree_12 (by decide) (fun c_3 => ?_) (fun c_3 => ?_)
    · have _ := c_3
      refine lv_aload_n hx hb dX12_tree_17 rfl (lv_at hl 0 rfl) ?_
      have hPc := hP.sub (ws' := [(mo, .inr (12, [.int 0, .int 0, .long 0, .int 0, .int 0, .ref g5, .ref g6, .ref g7, .ref g8, .ref g9, .ref g10, .int 0, .ref g12, .ref g13, .ref g14, .ref g15, .ref g16, .ref g17, .ref g18, .ref g19, .ref g20, .int (-9), .ref g22, .ref g23, .ref g24, .int 0, .int 0, .int 0, .int 0, .ref g29, .ref g30, .ref g31, .ref g32, .ref g33]))]) [0] rfl
      have hDc := hD.sub (ws' := [(mo, .inr (12, [.int 0, .int 0, .long 0, .int 0, .int 0, .ref g5, .ref g6, .ref g7, .ref g8, .ref g9, .ref g10, .int 0, .ref g12, .ref g13, .ref g14, .ref g15, .ref g16, .ref g17, .ref g18, .ref g19, .ref g20, .int (-9), .ref g22, .ref g23, .ref g24, .int 0, .int 0, .int 0, .int 0, .ref g29, .ref g30, .ref g31, .ref g32, .ref g33]))]) [0] (by decide) rfl
      have hDw : va_D (fun _ => True) [(mo, .inr (12, [.int 0, .int 0, .long 0, .int 0, .int 0, .ref g5, .ref g6, .ref g7, .ref g8, .ref g9, .ref g10, .int 0, .ref g12, .ref g13, .ref g14, .ref g15, .ref g16, .ref g17, .ref g18, .ref g19, .ref g20, .int (-9), .ref g22, .ref g23, .ref g24, .int 0, .int 0, .int 0, .int 0, .ref g29, .ref g30, .ref g31, .ref g32, .ref g33]))] := hDc.weaken (fun _ _ _ _ => trivial)
      have hFc := va_free (wc := []) hD hS hA [] rfl
      refine va_calli (va_runV (As := []) (rest := []) ⟨hx, hb, hml, hown, hts⟩ (c_X12_isWhole l D cy H.size mo g5 g6 g7 g8 g9 g10 g12 g13 g14 g15 g16 g17 g18 g19 g20 g22 g23 g24 g29 g30 g31 g32 g33) (cwV 0 hts gX12_tree_X12_isWhole rfl rfl rfl (by decide +kernel) ⟨Nat.le_of_ble_eq_true rfl, Nat.le_of_ble_eq_true rfl⟩) ⟨bl_, va_recv hK.1 hPc (ci := 12) (q0 := 0) rfl rfl, fun U hU hW => ⟨rfl, by rw [hU], by rw [hU]; exact hPc, kk_mv hW hK, hDw⟩⟩ rfl rfl hl.1 rfl (lv_room (Nat.le_of_ble_eq_true rfl)) dX12_tree_18 ⟨Nat.le_of_ble_eq_true rfl, Nat.le_of_ble_eq_true rfl⟩) hS (fun q _ h => hFc q h) hFc (fun r_4 u t H locs ht hvm hw hB hz1 hk1 hS => ?_)
      have hP := ro_keep hP hk1
      have hP : va_P D vwCl [(mo, .inr (12, [.int 0, .int 0, .long 0, .int 0, .int 0, .ref g5, .ref g6, .ref g7, .ref g8, .ref g9, .ref g10, .int 0, .ref g12, .ref g13, .ref g14, .ref g15, .ref g16, .ref g17, .ref g18, .ref g19, .ref g20, .int (-9), .ref g22, .ref g23, .ref g24, .int 0, .int 0, .int 0, .int 0, .ref g29, .ref g30, .ref g31, .ref g32, .ref g33]))] H := hP
      have e_ := hw.symm
      subst e_
      refine lv_if_ne (tgt := 27) hx hb dX12_tree_21 (by decide) (fun c_5 => ?_) (fun c_5 => ?_)
      · exact absurd c_5 (by decide)
      · have _ := c_5
        refine lv_bipush (v := (-2)) hx hb dX12_tree_24 (by decide) ?_
        exact W.iret (v := (-2)) hx hb hr (fun t ht hW => ⟨⟨(-2), (), rfl, Or.inr (⟨by omega, rfl⟩), trivial⟩, hS.F ht⟩) hS.2.2 dX12_tree_26
    · exact absurd c_3 (by decide)
  · have e_ := e_.symm
    subst e_
    refine lv_if_ne (tgt := 17) hx hb dX12_tree_12 (by decide) (fun c_6 => ?_) (fun c_6 => ?_)
    · exact absurd c_6 (by decide)
    · have _ := c_6
      refine lv_iconst (v := (-1)) hx hb dX12_tree_15 (by decide) ?_
      exact W.iret (v := (-1)) hx hb hr (fun t ht hW => ⟨⟨(-1), (), rfl, Or.inl (⟨by omega, rfl⟩), trivial⟩, hS.F ht⟩) hS.2.2 dX12_tree_16

set_option maxHeartbeats 4000000 in
set_option maxRecDepth 100000 in
theorem c_X12_cutAt (l : Launch) (D : va_G) (cy : Nat → ClassId) (sz : Nat) (mo : Nat) (g5 : Nat) (g6 : Nat) (g7 : Nat) (g8 : Nat) (g9 : Nat) (g10 : Nat) (g12 : Nat) (g13 : Nat) (g14 : Nat) (g15 : Nat) (g16 : Nat) (g17 : Nat) (g18 : Nat) (g19 : Nat) (g20 : Nat) (g22 : Nat) (g23 : Nat) (g24 : Nat) (g29 : Nat) (g30 : Nat) (g31 : Nat) (g32 : Nat) (g33 : Nat) (a1 : Int32) : Met l yX12_cutAt wsX12_cutAt ({ frames := 1, cells := 0, slots := 0, locals := 22 }) (va_Pc [.ref mo, .int a1] (fun U => U.heap.size = sz ∧ va_P D vwCl [(mo, .inr (12, [.int 0, .int 0, .long 0, .int 0, .int 0, .ref g5, .ref g6, .ref g7, .ref g8, .ref g9, .ref g10, .int 0, .ref g12, .ref g13, .ref g14, .ref g15, .ref g16, .ref g17, .ref g18, .ref g19, .ref g20, .int (-9), .ref g22, .ref g23, .ref g24, .int 0, .int 0, .int 0, .int 0, .ref g29, .ref g30, .ref g31, .ref g32, .ref g33]))] U.heap ∧ kk_ D cy U ∧ va_D (fun _ => True) [(mo, .inr (12, [.int 0, .int 0, .long 0, .int 0, .int 0, .ref g5, .ref g6, .ref g7, .ref g8, .ref g9, .ref g10, .int 0, .ref g12, .ref g13, .ref g14, .ref g15, .ref g16, .ref g17, .ref g18, .ref g19, .ref g20, .int (-9), .ref g22, .ref g23, .ref g24, .int 0, .int 0, .int 0, .int 0, .ref g29, .ref g30, .ref g31, .ref g32, .ref g33]))])) (va_Qi (fun (r : Int32) (_ : Unit) => ((a1.toInt < 0) ∧ r = (-1)) ∨ ((0 ≤ a1.toInt) ∧ r = (-2))) (fun (_ : Unit) (_ : State) => True) (va_A [(mo, .inr (12, [.int 0, .int 0, .long 0, .int 0, .int 0, .ref g5, .ref g6, .ref g7, .ref g8, .ref g9, .ref g10, .int 0, .ref g12, .ref g13, .ref g14, .ref g15, .ref g16, .ref g17, .ref g18, .ref g19, .ref g20, .int (-9), .ref g22, .ref g23, .ref g24, .int 0, .int 0, .int 0, .int 0, .ref g29, .ref g30, .ref g31, .ref g32, .ref g33]))] sz)) 0 0 (va_A [(mo, .inr (12, [.int 0, .int 0, .long 0, .int 0, .int 0, .ref g5, .ref g6, .ref g7, .ref g8, .ref g9, .ref g10, .int 0, .ref g12, .ref g13, .ref g14, .ref g15, .ref g16, .ref g17, .ref g18, .ref g19, .ref g20, .int (-9), .ref g22, .ref g23, .ref g24, .int 0, .int 0, .int 0, .int 0, .ref g29, .ref g30, .ref g31, .ref g32, .ref g33]))] sz) := by
  refine Met.ofW (cc := cX12_cutAt) (maxL := 2) (ret := (some .int)) (by decide) rfl ?_
  intro p e s m args below meth c s₁ B hml hv
  obtain ⟨rfl, hsz, hP, hK, hD0⟩ := hv
  have hx := B.exec
  have hb := B.bytes
  have hr := B.returns
  have hts := atoms_spec (ws := wsX12_cutAt) B.pre
  have hown : s.vm.findClass RX12 = some m.cls := findClass_of_methodNamed B.named
  have hlocks := B.notSynchronized
  subst hsz
  have hD := hD0.self (sz := s.heap.size)
  generalize hAe : va_A [(mo, .inr (12, [.int 0, .int 0, .long 0, .int 0, .int 0, .ref g5, .ref g6, .ref g7, .ref g8, .ref g9, .ref g10, .int 0, .ref g12, .ref g13, .ref g14, .ref g15, .ref g16, .ref g17, .ref g18, .ref g19, .ref g20, .int (-9), .ref g22, .ref g23, .ref g24, .int 0, .int 0, .int 0, .int 0, .ref g29, .ref g30, .ref g31, .ref g32, .ref g33]))] s.heap.size = A at hD ⊢
  have hA : ∀ q : Nat, s.heap.size ≤ q → A q := fun q h => by rw [← hAe]; exact Or.inr h
  have hS : va_S A s.heap s.heap [] := va_S.rf
  have hl := lv_entry ([.ref mo, .int a1]) (n := 2) (Nat.le_of_ble_eq_true rfl)
  rw [lg_entry_eq]
  generalize (lg_sl ([.ref mo, .int a1]) ++ List.replicate (2 - (lg_sl ([.ref mo, .int a1])).length) Slot.unset).toArray = ls at hl ⊢
  have hl : lv_has ls 2 [(0, .ref mo), (1, .int a1)] := hl
  have z0 : (0 : Int32).toInt = 0 := by decide
  refine lv_aload_n hx hb dX12_cutAt_0 rfl (lv_at hl 0 rfl) ?_
  refine lv_iconst (v := 0) hx hb dX12_cutAt_1 (by decide) ?_
  refine va_put (ci := 12) (v := .int 0) (ty := .int) (C := RX12) (T := TX12) (N := 34) hx hb hts (fun _ h => List.mem_cons_of_mem _ (List.mem_append_right _ h)) tyX12 tyX12_ok nmX12 hown hK.1 hP hD hS 0 rfl rfl 0 (by decide) (hts (.fieldLink RX12 85 "CutAtlasModel" "thrown" "I") (by decide +kernel)) (fun _ h9 => h9) rfl (by decide +kernel) rfl rfl (Nat.le_of_ble_eq_true rfl) dX12_cutAt_2 (fun H locs hP hD hS => ?_)
  have hP : va_P D vwCl [(mo, .inr (12, [.int 0, .int 0, .long 0, .int 0, .int 0, .ref g5, .ref g6, .ref g7, .ref g8, .ref g9, .ref g10, .int 0, .ref g12, .ref g13, .ref g14, .ref g15, .ref g16, .ref g17, .ref g18, .ref g19, .ref g20, .int (-9), .ref g22, .ref g23, .ref g24, .int 0, .int 0, .int 0, .int 0, .ref g29, .ref g30, .ref g31, .ref g32, .ref g33]))] H := hP
  have hD : va_D A [(mo, .inr (12, [.int 0, .int 0, .long 0, .int 0, .int 0, .ref g5, .ref g6, .ref g7, .ref g8, .ref g9, .ref g10, .int 0, .ref g12, .ref g13, .ref g14, .ref g15, .ref g16, .ref g17, .ref g18, .ref g19, .ref g20, .int (-9), .ref g22, .ref g23, .ref g24, .int 0, .int 0, .int 0, .int 0, .ref g29, .ref g30, .ref g31, .ref g32, .ref g33]))] := hD
  refine lv_iload_n hx hb dX12_cutAt_5 rfl (lv_at hl 1 rfl) ?_
  refine lv_if_ge (tgt := 11) hx hb dX12_cutAt_6 (by decide) (fun c_1 => ?_) (fun c_1 => ?_)
  · have t_1 : (0 : Int32).toInt ≤ a1.toInt := Int32.le_iff_toInt_le.mp c_1
    refine lv_aload_n hx hb dX12_cutAt_11 rfl (lv_at hl 0 rfl) ?_
    have hPc := hP.sub (ws' := [(mo, .inr (12, [.int 0, .int 0, .long 0, .int 0, .int 0, .ref g5, .ref g6, .ref g7, .ref g8, .ref g9, .ref g10, .int 0, .ref g12, .ref g13, .ref g14, .ref g15, .ref g16, .ref g17, .ref g18, .ref g19, .ref g20, .int (-9), .ref g22, .ref g23, .ref g24, .int 0, .int 0, .int 0, .int 0, .ref g29, .ref g30, .ref g31, .ref g32, .ref g33]))]) [0] rfl
    have hDc := hD.sub (ws' := [(mo, .inr (12, [.int 0, .int 0, .long 0, .int 0, .int 0, .ref g5, .ref g6, .ref g7, .ref g8, .ref g9, .ref g10, .int 0, .ref g12, .ref g13, .ref g14, .ref g15, .ref g16, .ref g17, .ref g18, .ref g19, .ref g20, .int (-9), .ref g22, .ref g23, .ref g24, .int 0, .int 0, .int 0, .int 0, .ref g29, .ref g30, .ref g31, .ref g32, .ref g33]))]) [0] (by decide) rfl
    have hDw : va_D (fun _ => True) [(mo, .inr (12, [.int 0, .int 0, .long 0, .int 0, .int 0, .ref g5, .ref g6, .ref g7, .ref g8, .ref g9, .ref g10, .int 0, .ref g12, .ref g13, .ref g14, .ref g15, .ref g16, .ref g17, .ref g18, .ref g19, .ref g20, .int (-9), .ref g22, .ref g23, .ref g24, .int 0, .int 0, .int 0, .int 0, .ref g29, .ref g30, .ref g31, .ref g32, .ref g33]))] := hDc.weaken (fun _ _ _ _ => trivial)
    have hFc := va_free (wc := []) hD hS hA [] rfl
    refine va_calli (va_runV (As := []) (rest := []) ⟨hx, hb, hml, hown, hts⟩ (c_X12_isWhole l D cy H.size mo g5 g6 g7 g8 g9 g10 g12 g13 g14 g15 g16 g17 g18 g19 g20 g22 g23 g24 g29 g30 g31 g32 g33) (cwV 0 hts gX12_cutAt_X12_isWhole rfl rfl rfl (by decide +kernel) ⟨Nat.le_of_ble_eq_true rfl, Nat.le_of_ble_eq_true rfl⟩) ⟨bl_, va_recv hK.1 hPc (ci := 12) (q0 := 0) rfl rfl, fun U hU hW => ⟨rfl, by rw [hU], by rw [hU]; exact hPc, kk_mv hW hK, hDw⟩⟩ rfl rfl hl.1 rfl (lv_room (Nat.le_of_ble_eq_true rfl)) dX12_cutAt_12 ⟨Nat.le_of_ble_eq_true rfl, Nat.le_of_ble_eq_true rfl⟩) hS (fun q _ h => hFc q h) hFc (fun r_2 u t H locs ht hvm hw hB hz1 hk1 hS => ?_)
    have hP := ro_keep hP hk1
    have hP : va_P D vwCl [(mo, .inr (12, [.int 0, .int 0, .long 0, .int 0, .int 0, .ref g5, .ref g6, .ref g7, .ref g8, .ref g9, .ref g10, .int 0, .ref g12, .ref g13, .ref g14, .ref g15, .ref g16, .ref g17, .ref g18, .ref g19, .ref g20, .int (-9), .ref g22, .ref g23, .ref g24, .int 0, .int 0, .int 0, .int 0, .ref g29, .ref g30, .ref g31, .ref g32, .ref g33]))] H := hP
    have e_ := hw.symm
    subst e_
    refine lv_if_ne (tgt := 21) hx hb dX12_cutAt_15 (by decide) (fun c_3 => ?_) (fun c_3 => ?_)
    · exact absurd c_3 (by decide)
    · have _ := c_3
      refine lv_bipush (v := (-2)) hx hb dX12_cutAt_18 (by decide) ?_
      exact W.iret (v := (-2)) hx hb hr (fun t ht hW => ⟨⟨(-2), (), rfl, Or.inr (⟨by omega, rfl⟩), trivial⟩, hS.F ht⟩) hS.2.2 dX12_cutAt_20
  · have t_1 : ¬ (0 : Int32).toInt ≤ a1.toInt := fun h => c_1 (Int32.le_iff_toInt_le.mpr h)
    refine lv_iconst (v := (-1)) hx hb dX12_cutAt_9 (by decide) ?_
    exact W.iret (v := (-1)) hx hb hr (fun t ht hW => ⟨⟨(-1), (), rfl, Or.inl (⟨by omega, rfl⟩), trivial⟩, hS.F ht⟩) hS.2.2 dX12_cutAt_10

set_option maxHeartbeats 4000000 in
set_option maxRecDepth 100000 in
theorem c_X12_part (l : Launch) (D : va_G) (cy : Nat → ClassId) (sz : Nat) (mo : Nat) (g5 : Nat) (g6 : Nat) (g7 : Nat) (g8 : Nat) (g9 : Nat) (g10 : Nat) (g12 : Nat) (g13 : Nat) (g14 : Nat) (g15 : Nat) (g16 : Nat) (g17 : Nat) (g18 : Nat) (g19 : Nat) (g20 : Nat) (g22 : Nat) (g23 : Nat) (g24 : Nat) (g29 : Nat) (g30 : Nat) (g31 : Nat) (g32 : Nat) (g33 : Nat) (a1 : Int32) (a2 : Int32) : Met l yX12_part wsX12_part ({ frames := 1, cells := 0, slots := 0, locals := 22 }) (va_Pc [.ref mo, .int a1, .int a2] (fun U => U.heap.size = sz ∧ va_P D vwCl [(mo, .inr (12, [.int 0, .int 0, .long 0, .int 0, .int 0, .ref g5, .ref g6, .ref g7, .ref g8, .ref g9, .ref g10, .int 0, .ref g12, .ref g13, .ref g14, .ref g15, .ref g16, .ref g17, .ref g18, .ref g19, .ref g20, .int (-9), .ref g22, .ref g23, .ref g24, .int 0, .int 0, .int 0, .int 0, .ref g29, .ref g30, .ref g31, .ref g32, .ref g33]))] U.heap ∧ kk_ D cy U ∧ va_D (fun _ => True) [(mo, .inr (12, [.int 0, .int 0, .long 0, .int 0, .int 0, .ref g5, .ref g6, .ref g7, .ref g8, .ref g9, .ref g10, .int 0, .ref g12, .ref g13, .ref g14, .ref g15, .ref g16, .ref g17, .ref g18, .ref g19, .ref g20, .int (-9), .ref g22, .ref g23, .ref g24, .int 0, .int 0, .int 0, .int 0, .ref g29, .ref g30, .ref g31, .ref g32, .ref g33]))])) (va_Qi (fun (r : Int32) (_ : Unit) => ((a1.toInt < 0) ∧ r = (-1)) ∨ ((0 ≤ a1.toInt) ∧ r = (-2))) (fun (_ : Unit) (_ : State) => True) (va_A [(mo, .inr (12, [.int 0, .int 0, .long 0, .int 0, .int 0, .ref g5, .ref g6, .ref g7, .ref g8, .ref g9, .ref g10, .int 0, .ref g12, .ref g13, .ref g14, .ref g15, .ref g16, .ref g17, .ref g18, .ref g19, .ref g20, .int (-9), .ref g22, .ref g23, .ref g24, .int 0, .int 0, .int 0, .int 0, .ref g29, .ref g30, .ref g31, .ref g32, .ref g33]))] sz)) 0 0 (va_A [(mo, .inr (12, [.int 0, .int 0, .long 0, .int 0, .int 0, .ref g5, .ref g6, .ref g7, .ref g8, .ref g9, .ref g10, .int 0, .ref g12, .ref g13, .ref g14, .ref g15, .ref g16, .ref g17, .ref g18, .ref g19, .ref g20, .int (-9), .ref g22, .ref g23, .ref g24, .int 0, .int 0, .int 0, .int 0, .ref g29, .ref g30, .ref g31, .ref g32, .ref g33]))] sz) := by
  refine Met.ofW (cc := cX12_part) (maxL := 8) (ret := (some .int)) (by decide) rfl ?_
  intro p e s m args below meth c s₁ B hml hv
  obtain ⟨rfl, hsz, hP, hK, hD0⟩ := hv
  have hx := B.exec
  have hb := B.bytes
  have hr := B.returns
  have hts := atoms_spec (ws := wsX12_part) B.pre
  have hown : s.vm.findClass RX12 = some m.cls := findClass_of_methodNamed B.named
  have hlocks := B.notSynchronized
  subst hsz
  have hD := hD0.self (sz := s.heap.size)
  generalize hAe : va_A [(mo, .inr (12, [.int 0, .int 0, .long 0, .int 0, .int 0, .ref g5, .ref g6, .ref g7, .ref g8, .ref g9, .ref g10, .int 0, .ref g12, .ref g13, .ref g14, .ref g15, .ref g16, .ref g17, .ref g18, .ref g19, .ref g20, .int (-9), .ref g22, .ref g23, .ref g24, .int 0, .int 0, .int 0, .int 0, .ref g29, .ref g30, .ref g31, .ref g32, .ref g33]))] s.heap.size = A at hD ⊢
  have hA : ∀ q : Nat, s.heap.size ≤ q → A q := fun q h => by rw [← hAe]; exact Or.inr h
  have hS : va_S A s.heap s.heap [] := va_S.rf
  have hl := lv_entry ([.ref mo, .int a1, .int a2]) (n := 8) (Nat.le_of_ble_eq_true rfl)
  rw [lg_entry_eq]
  generalize (lg_sl ([.ref mo, .int a1, .int a2]) ++ List.replicate (8 - (lg_sl ([.ref mo, .int a1, .int a2])).length) Slot.unset).toArray = ls at hl ⊢
  have hl : lv_has ls 8 [(0, .ref mo), (1, .int a1), (2, .int a2)] := hl
  have z0 : (0 : Int32).toInt = 0 := by decide
  refine lv_aload_n hx hb dX12_part_0 rfl (lv_at hl 0 rfl) ?_
  refine lv_iconst (v := 0) hx hb dX12_part_1 (by decide) ?_
  refine va_put (ci := 12) (v := .int 0) (ty := .int) (C := RX12) (T := TX12) (N := 34) hx hb hts (fun _ h => List.mem_cons_of_mem _ (List.mem_append_right _ h)) tyX12 tyX12_ok nmX12 hown hK.1 hP hD hS 0 rfl rfl 0 (by decide) (hts (.fieldLink RX12 85 "CutAtlasModel" "thrown" "I") (by decide +kernel)) (fun _ h9 => h9) rfl (by decide +kernel) rfl rfl (Nat.le_of_ble_eq_true rfl) dX12_part_2 (fun H locs hP hD hS => ?_)
  have hP : va_P D vwCl [(mo, .inr (12, [.int 0, .int 0, .long 0, .int 0, .int 0, .ref g5, .ref g6, .ref g7, .ref g8, .ref g9, .ref g10, .int 0, .ref g12, .ref g13, .ref g14, .ref g15, .ref g16, .ref g17, .ref g18, .ref g19, .ref g20, .int (-9), .ref g22, .ref g23, .ref g24, .int 0, .int 0, .int 0, .int 0, .ref g29, .ref g30, .ref g31, .ref g32, .ref g33]))] H := hP
  have hD : va_D A [(mo, .inr (12, [.int 0, .int 0, .long 0, .int 0, .int 0, .ref g5, .ref g6, .ref g7, .ref g8, .ref g9, .ref g10, .int 0, .ref g12, .ref g13, .ref g14, .ref g15, .ref g16, .ref g17, .ref g18, .ref g19, .ref g20, .int (-9), .ref g22, .ref g23, .ref g24, .int 0, .int 0, .int 0, .int 0, .ref g29, .ref g30, .ref g31, .ref g32, .ref g33]))] := hD
  refine lv_iload_n hx hb dX12_part_5 rfl (lv_at hl 1 rfl) ?_
  refine lv_if_ge (tgt := 11) hx hb dX12_part_6 (by decide) (fun c_1 => ?_) (fun c_1 => ?_)
  · have t_1 : (0 : Int32).toInt ≤ a1.toInt := Int32.le_iff_toInt_le.mp c_1
    refine lv_aload_n hx hb dX12_part_11 rfl (lv_at hl 0 rfl) ?_
    have hPc := hP.sub (ws' := [(mo, .inr (12, [.int 0, .int 0, .long 0, .int 0, .int 0, .ref g5, .ref g6, .ref g7, .ref g8, .ref g9, .ref g10, .int 0, .ref g12, .ref g13, .ref g14, .ref g15, .ref g16, .ref g17, .ref g18, .ref g19, .ref g20, .int (-9), .ref g22, .ref g23, .ref g24, .int 0, .int 0, .int 0, .int 0, .ref g29, .ref g30, .ref g31, .ref g32, .ref g33]))]) [0] rfl
    have hDc := hD.sub (ws' := [(mo, .inr (12, [.int 0, .int 0, .long 0, .int 0, .int 0, .ref g5, .ref g6, .ref g7, .ref g8, .ref g9, .ref g10, .int 0, .ref g12, .ref g13, .ref g14, .ref g15, .ref g16, .ref g17, .ref g18, .ref g19, .ref g20, .int (-9), .ref g22, .ref g23, .ref g24, .int 0, .int 0, .int 0, .int 0, .ref g29, .ref g30, .ref g31, .ref g32, .ref g33]))]) [0] (by decide) rfl
    have hDw : va_D (fun _ => True) [(mo, .inr (12, [.int 0, .int 0, .long 0, .int 0, .int 0, .ref g5, .ref g6, .ref g7, .ref g8, .ref g9, .ref g10, .int 0, .ref g12, .ref g13, .ref g14, .ref g15, .ref g16, .ref g17, .ref g18, .ref g19, .ref g20, .int (-9), .ref g22, .ref g23, .ref g24, .int 0, .int 0, .int 0, .int 0, .ref g29, .ref g30, .ref g31, .ref g32, .ref g33]))] := hDc.weaken (fun _ _ _ _ => trivial)
    have hFc := va_free (wc := []) hD hS hA [] rfl
    refine va_calli (va_runV (As := []) (rest := []) ⟨hx, hb, hml, hown, hts⟩ (c_X12_isWhole l D cy H.size mo g5 g6 g7 g8 g9 g10 g12 g13 g14 g15 g16 g17 g18 g19 g20 g22 g23 g24 g29 g30 g31 g32 g33) (cwV 0 hts gX12_part_X12_isWhole rfl rfl rfl (by decide +kernel) ⟨Nat.le_of_ble_eq_true rfl, Nat.le_of_ble_eq_true rfl⟩) ⟨bl_, va_recv hK.1 hPc (ci := 12) (q0 := 0) rfl rfl, fun U hU hW => ⟨rfl, by rw [hU], by rw [hU]; exact hPc, kk_mv hW hK, hDw⟩⟩ rfl rfl hl.1 rfl (lv_room (Nat.le_of_ble_eq_true rfl)) dX12_part_12 ⟨Nat.le_of_ble_eq_true rfl, Nat.le_of_ble_eq_true rfl⟩) hS (fun q _ h => hFc q h) hFc (fun r_2 u t H locs ht hvm hw hB hz1 hk1 hS => ?_)
    have hP := ro_keep hP hk1
    have hP : va_P D vwCl [(mo, .inr (12, [.int 0, .int 0, .long 0, .int 0, .int 0, .ref g5, .ref g6, .ref g7, .ref g8, .ref g9, .ref g10, .int 0, .ref g12, .ref g13, .ref g14, .ref g15, .ref g16, .ref g17, .ref g18, .ref g19, .ref g20, .int (-9), .ref g22, .ref g23, .ref g24, .int 0, .int 0, .int 0, .int 0, .ref g29, .ref g30, .ref g31, .ref g32, .ref g33]))] H := hP
    have e_ := hw.symm
    subst e_
    refine lv_if_ne (tgt := 21) hx hb dX12_part_15 (by decide) (fun c_3 => ?_) (fun c_3 => ?_)
    · exact absurd c_3 (by decide)
    · have _ := c_3
      refine lv_bipush (v := (-2)) hx hb dX12_part_18 (by decide) ?_
      exact W.iret (v := (-2)) hx hb hr (fun t ht hW => ⟨⟨(-2), (), rfl, Or.inr (⟨by omega, rfl⟩), trivial⟩, hS.F ht⟩) hS.2.2 dX12_part_20
  · have t_1 : ¬ (0 : Int32).toInt ≤ a1.toInt := fun h => c_1 (Int32.le_iff_toInt_le.mpr h)
    refine lv_iconst (v := (-1)) hx hb dX12_part_9 (by decide) ?_
    exact W.iret (v := (-1)) hx hb hr (fun t ht hW => ⟨⟨(-1), (), rfl, Or.inl (⟨by omega, rfl⟩), trivial⟩, hS.F ht⟩) hS.2.2 dX12_part_10

set_option maxHeartbeats 4000000 in
set_option maxRecDepth 100000 in
theorem c_X12_dense (l : Launch) (D : va_G) (cy : Nat → ClassId) (sz : Nat) (mo : Nat) (g5 : Nat) (g6 : Nat) (g7 : Nat) (g8 : Nat) (g9 : Nat) (g10 : Nat) (g12 : Nat) (g13 : Nat) (g14 : Nat) (g15 : Nat) (g16 : Nat) (g17 : Nat) (g18 : Nat) (g19 : Nat) (g20 : Nat) (g22 : Nat) (g23 : Nat) (g24 : Nat) (g29 : Nat) (g30 : Nat) (g31 : Nat) (g32 : Nat) (g33 : Nat) (a1 : Int32) : Met l yX12_dense wsX12_dense ({ frames := 1, cells := 0, slots := 0, locals := 25 }) (va_Pc [.ref mo, .int a1] (fun U => U.heap.size = sz ∧ va_P D vwCl [(mo, .inr (12, [.int 0, .int 0, .long 0, .int 0, .int 0, .ref g5, .ref g6, .ref g7, .ref g8, .ref g9, .ref g10, .int 0, .ref g12, .ref g13, .ref g14, .ref g15, .ref g16, .ref g17, .ref g18, .ref g19, .ref g20, .int (-9), .ref g22, .ref g23, .ref g24, .int 0, .int 0, .int 0, .int 0, .ref g29, .ref g30, .ref g31, .ref g32, .ref g33]))] U.heap ∧ kk_ D cy U ∧ va_D (fun _ => True) [(mo, .inr (12, [.int 0, .int 0, .long 0, .int 0, .int 0, .ref g5, .ref g6, .ref g7, .ref g8, .ref g9, .ref g10, .int 0, .ref g12, .ref g13, .ref g14, .ref g15, .ref g16, .ref g17, .ref g18, .ref g19, .ref g20, .int (-9), .ref g22, .ref g23, .ref g24, .int 0, .int 0, .int 0, .int 0, .ref g29, .ref g30, .ref g31, .ref g32, .ref g33]))])) (va_Qi (fun (r : Int32) (_ : Unit) => ((¬ (0 ≤ a1.toInt ∧ a1.toInt ≤ 2)) ∧ r = (-1)) ∨ ((0 ≤ a1.toInt ∧ a1.toInt ≤ 2) ∧ r = (-2))) (fun (_ : Unit) (_ : State) => True) (va_A [(mo, .inr (12, [.int 0, .int 0, .long 0, .int 0, .int 0, .ref g5, .ref g6, .ref g7, .ref g8, .ref g9, .ref g10, .int 0, .ref g12, .ref g13, .ref g14, .ref g15, .ref g16, .ref g17, .ref g18, .ref g19, .ref g20, .int (-9), .ref g22, .ref g23, .ref g24, .int 0, .int 0, .int 0, .int 0, .ref g29, .ref g30, .ref g31, .ref g32, .ref g33]))] sz)) 0 0 (va_A [(mo, .inr (12, [.int 0, .int 0, .long 0, .int 0, .int 0, .ref g5, .ref g6, .ref g7, .ref g8, .ref g9, .ref g10, .int 0, .ref g12, .ref g13, .ref g14, .ref g15, .ref g16, .ref g17, .ref g18, .ref g19, .ref g20, .int (-9), .ref g22, .ref g23, .ref g24, .int 0, .int 0, .int 0, .int 0, .ref g29, .ref g30, .ref g31, .ref g32, .ref g33]))] sz) := by
  refine Met.ofW (cc := cX12_dense) (maxL := 8) (ret := (some .int)) (by decide) rfl ?_
  intro p e s m args below meth c s₁ B hml hv
  obtain ⟨rfl, hsz, hP, hK, hD0⟩ := hv
  have hx := B.exec
  have hb := B.bytes
  have hr := B.returns
  have hts := atoms_spec (ws := wsX12_dense) B.pre
  have hown : s.vm.findClass RX12 = some m.cls := findClass_of_methodNamed B.named
  have hlocks := B.notSynchronized
  subst hsz
  have hD := hD0.self (sz := s.heap.size)
  generalize hAe : va_A [(mo, .inr (12, [.int 0, .int 0, .long 0, .int 0, .int 0, .ref g5, .ref g6, .ref g7, .ref g8, .ref g9, .ref g10, .int 0, .ref g12, .ref g13, .ref g14, .ref g15, .ref g16, .ref g17, .ref g18, .ref g19, .ref g20, .int (-9), .ref g22, .ref g23, .ref g24, .int 0, .int 0, .int 0, .int 0, .ref g29, .ref g30, .ref g31, .ref g32, .ref g33]))] s.heap.size = A at hD ⊢
  have hA : ∀ q : Nat, s.heap.size ≤ q → A q := fun q h => by rw [← hAe]; exact Or.inr h
  have hS : va_S A s.heap s.heap [] := va_S.rf
  have hl := lv_entry ([.ref mo, .int a1]) (n := 8) (Nat.le_of_ble_eq_true rfl)
  rw [lg_entry_eq]
  generalize (lg_sl ([.ref mo, .int a1]) ++ List.replicate (8 - (lg_sl ([.ref mo, .int a1])).length) Slot.unset).toArray = ls at hl ⊢
  have hl : lv_has ls 8 [(0, .ref mo), (1, .int a1)] := hl
  have zl0 : (0 : Int64).toInt = 0 := by decide
  have zl2 : (2 : Int64).toInt = 2 := by decide
  refine lv_aload_n hx hb dX12_dense_0 rfl (lv_at hl 0 rfl) ?_
  refine lv_iconst (v := 0) hx hb dX12_dense_1 (by decide) ?_
  refine va_put (ci := 12) (v := .int 0) (ty := .int) (C := RX12) (T := TX12) (N := 34) hx hb hts (fun _ h => List.mem_cons_of_mem _ (List.mem_append_right _ h)) tyX12 tyX12_ok nmX12 hown hK.1 hP hD hS 0 rfl rfl 0 (by decide) (hts (.fieldLink RX12 85 "CutAtlasModel" "thrown" "I") (by decide +kernel)) (fun _ h9 => h9) rfl (by decide +kernel) rfl rfl (Nat.le_of_ble_eq_true rfl) dX12_dense_2 (fun H locs hP hD hS => ?_)
  have hP : va_P D vwCl [(mo, .inr (12, [.int 0, .int 0, .long 0, .int 0, .int 0, .ref g5, .ref g6, .ref g7, .ref g8, .ref g9, .ref g10, .int 0, .ref g12, .ref g13, .ref g14, .ref g15, .ref g16, .ref g17, .ref g18, .ref g19, .ref g20, .int (-9), .ref g22, .ref g23, .ref g24, .int 0, .int 0, .int 0, .int 0, .ref g29, .ref g30, .ref g31, .ref g32, .ref g33]))] H := hP
  have hD : va_D A [(mo, .inr (12, [.int 0, .int 0, .long 0, .int 0, .int 0, .ref g5, .ref g6, .ref g7, .ref g8, .ref g9, .ref g10, .int 0, .ref g12, .ref g13, .ref g14, .ref g15, .ref g16, .ref g17, .ref g18, .ref g19, .ref g20, .int (-9), .ref g22, .ref g23, .ref g24, .int 0, .int 0, .int 0, .int 0, .ref g29, .ref g30, .ref g31, .ref g32, .ref g33]))] := hD
  refine lv_iload_n hx hb dX12_dense_5 rfl (lv_at hl 1 rfl) ?_
  refine lv_i2l (v := a1.toInt64) hx hb dX12_dense_6 rfl ?_
  have q_6 : (a1.toInt64).toInt = a1.toInt := Int32.toInt_toInt64 a1
  refine lv_lconst (v := 0) hx hb dX12_dense_7 (by decide) ?_
  refine lv_ldc2 (v := 2) hx hb hown (hts (.constantLong RX12 149 (2)) (by decide +kernel)) dX12_dense_8 ?_
  have hPc := hP.sub (ws' := []) [] rfl
  have hDc := hD.sub (ws' := []) [] (by decide) rfl
  have hDw : va_D (fun _ => True) [] := hDc.weaken (fun _ _ _ _ => trivial)
  have hFc := va_free (wc := []) hD hS hA [] rfl
  refine va_calli (va_runS (As := [.long a1.toInt64, .long 0, .long 2]) (rest := []) ⟨hx, hb, hml, hown, hts⟩ (c_X12_in l D cy H.size a1.toInt64 (0 : Int64) (2 : Int64)) (va_cwS 3 hts gX12_dense_X12_in rfl rfl rfl (by decide +kernel) ⟨Nat.le_of_ble_eq_true rfl, Nat.le_of_ble_eq_true rfl⟩) ⟨bl_, fun U hU hW => ⟨rfl, by rw [hU], by rw [hU]; exact hPc, kk_mv hW hK, hDw⟩⟩ rfl rfl hl.1 rfl (lv_room (Nat.le_of_ble_eq_true rfl)) dX12_dense_11 ⟨Nat.le_of_ble_eq_true rfl, Nat.le_of_ble_eq_true rfl⟩) hS (fun q _ h => hFc q h) hFc (fun r_1 u t H locs ht hvm hw hB hz1 hk1 hS => ?_)
  have hP := ro_keep hP hk1
  have hP : va_P D vwCl [(mo, .inr (12, [.int 0, .int 0, .long 0, .int 0, .int 0, .ref g5, .ref g6, .ref g7, .ref g8, .ref g9, .ref g10, .int 0, .ref g12, .ref g13, .ref g14, .ref g15, .ref g16, .ref g17, .ref g18, .ref g19, .ref g20, .int (-9), .ref g22, .ref g23, .ref g24, .int 0, .int 0, .int 0, .int 0, .ref g29, .ref g30, .ref g31, .ref g32, .ref g33]))] H := hP
  rcases hw with ⟨w_2, e_⟩ | ⟨w_2, e_⟩
  · have e_ := e_.symm
    subst e_
    refine lv_if_ne (tgt := 19) hx hb dX12_dense_14 (by decide) (fun c_3 => ?_) (fun c_3 => ?_)
    · have _ := c_3
      refine lv_aload_n hx hb dX12_dense_19 rfl (lv_at hl 0 rfl) ?_
      have hPc := hP.sub (ws' := [(mo, .inr (12, [.int 0, .int 0, .long 0, .int 0, .int 0, .ref g5, .ref g6, .ref g7, .ref g8, .ref g9, .ref g10, .int 0, .ref g12, .ref g13, .ref g14, .ref g15, .ref g16, .ref g17, .ref g18, .ref g19, .ref g20, .int (-9), .ref g22, .ref g23, .ref g24, .int 0, .int 0, .int 0, .int 0, .ref g29, .ref g30, .ref g31, .ref g32, .ref g33]))]) [0] rfl
      have hDc := hD.sub (ws' := [(mo, .inr (12, [.int 0, .int 0, .long 0, .int 0, .int 0, .ref g5, .ref g6, .ref g7, .ref g8, .ref g9, .ref g10, .int 0, .ref g12, .ref g13, .ref g14, .ref g15, .ref g16, .ref g17, .ref g18, .ref g19, .ref g20, .int (-9), .ref g22, .ref g23, .ref g24, .int 0, .int 0, .int 0, .int 0, .ref g29, .ref g30, .ref g31, .ref g32, .ref g33]))]) [0] (by decide) rfl
      have hDw : va_D (fun _ => True) [(mo, .inr (12, [.int 0, .int 0, .long 0, .int 0, .int 0, .ref g5, .ref g6, .ref g7, .ref g8, .ref g9, .ref g10, .int 0, .ref g12, .ref g13, .ref g14, .ref g15, .ref g16, .ref g17, .ref g18, .ref g19, .ref g20, .int (-9), .ref g22, .ref g23, .ref g24, .int 0, .int 0, .int 0, .int 0, .ref g29, .ref g30, .ref g31, .ref g32, .ref g33]))] := hDc.weaken (fun _ _ _ _ => trivial)
      have hFc := va_free (wc := []) hD hS hA [] rfl
      refine va_calli (va_runV (As := []) (rest := []) ⟨hx, hb, hml, hown, hts⟩ (c_X12_isWhole l D cy H.size mo g5 g6 g7 g8 g9 g10 g12 g13 g14 g15 g16 g17 g18 g19 g20 g22 g23 g24 g29 g30 g31 g32 g33) (cwV 0 hts gX12_dense_X12_isWhole rfl rfl rfl (by decide +kernel) ⟨Nat.le_of_ble_eq_true rfl, Nat.le_of_ble_eq_true rfl⟩) ⟨bl_, va_recv hK.1 hPc (ci := 12) (q0 := 0) rfl rfl, fun U hU hW => ⟨rfl, by rw [hU], by rw [hU]; exact hPc, kk_mv hW hK, hDw⟩⟩ rfl rfl hl.1 rfl (lv_room (Nat.le_of_ble_eq_true rfl)) dX12_dense_20 ⟨Nat.le_of_ble_eq_true rfl, Nat.le_of_ble_eq_true rfl⟩) hS (fun q _ h => hFc q h) hFc (fun r_4 u t H locs ht hvm hw hB hz1 hk1 hS => ?_)
      have hP := ro_keep hP hk1
      have hP : va_P D vwCl [(mo, .inr (12, [.int 0, .int 0, .long 0, .int 0, .int 0, .ref g5, .ref g6, .ref g7, .ref g8, .ref g9, .ref g10, .int 0, .ref g12, .ref g13, .ref g14, .ref g15, .ref g16, .ref g17, .ref g18, .ref g19, .ref g20, .int (-9), .ref g22, .ref g23, .ref g24, .int 0, .int 0, .int 0, .int 0, .ref g29, .ref g30, .ref g31, .ref g32, .ref g33]))] H := hP
      have e_ := hw.symm
      subst e_
      refine lv_if_ne (tgt := 29) hx hb dX12_dense_23 (by decide) (fun c_5 => ?_) (fun c_5 => ?_)
      · exact absurd c_5 (by decide)
      · have _ := c_5
        refine lv_bipush (v := (-2)) hx hb dX12_dense_26 (by decide) ?_
        exact W.iret (v := (-2)) hx hb hr (fun t ht hW => ⟨⟨(-2), (), rfl, Or.inr (⟨by omega, rfl⟩), trivial⟩, hS.F ht⟩) hS.2.2 dX12_dense_28
    · exact absurd c_3 (by decide)
  · have e_ := e_.symm
    subst e_
    refine lv_if_ne (tgt := 19) hx hb dX12_dense_14 (by decide) (fun c_6 => ?_) (fun c_6 => ?_)
    · exact absurd c_6 (by decide)
    · have _ := c_6
      refine lv_iconst (v := (-1)) hx hb dX12_dense_17 (by decide) ?_
      exact W.iret (v := (-1)) hx hb hr (fun t ht hW => ⟨⟨(-1), (), rfl, Or.inl (⟨by omega, rfl⟩), trivial⟩, hS.F ht⟩) hS.2.2 dX12_dense_18

set_option maxHeartbeats 4000000 in
set_option maxRecDepth 100000 in
theorem c_X12_about (l : Launch) (D : va_G) (cy : Nat → ClassId) (sz : Nat) (mo : Nat) (g5 : Nat) (g6 : Nat) (g7 : Nat) (g8 : Nat) (g9 : Nat) (g10 : Nat) (g12 : Nat) (g13 : Nat) (g14 : Nat) (g15 : Nat) (g16 : Nat) (g17 : Nat) (g18 : Nat) (g19 : Nat) (g20 : Nat) (g22 : Nat) (g23 : Nat) (g24 : Nat) (g29 : Nat) (g30 : Nat) (g31 : Nat) (g32 : Nat) (g33 : Nat) (a1 : Int32) : Met l yX12_about wsX12_about ({ frames := 1, cells := 0, slots := 0, locals := 22 }) (va_Pc [.ref mo, .int a1] (fun U => U.heap.size = sz ∧ va_P D vwCl [(mo, .inr (12, [.int 0, .int 0, .long 0, .int 0, .int 0, .ref g5, .ref g6, .ref g7, .ref g8, .ref g9, .ref g10, .int 0, .ref g12, .ref g13, .ref g14, .ref g15, .ref g16, .ref g17, .ref g18, .ref g19, .ref g20, .int (-9), .ref g22, .ref g23, .ref g24, .int 0, .int 0, .int 0, .int 0, .ref g29, .ref g30, .ref g31, .ref g32, .ref g33]))] U.heap ∧ kk_ D cy U ∧ va_D (fun _ => True) [(mo, .inr (12, [.int 0, .int 0, .long 0, .int 0, .int 0, .ref g5, .ref g6, .ref g7, .ref g8, .ref g9, .ref g10, .int 0, .ref g12, .ref g13, .ref g14, .ref g15, .ref g16, .ref g17, .ref g18, .ref g19, .ref g20, .int (-9), .ref g22, .ref g23, .ref g24, .int 0, .int 0, .int 0, .int 0, .ref g29, .ref g30, .ref g31, .ref g32, .ref g33]))])) (va_Qi (fun (r : Int32) (_ : Unit) => ((¬ (0 ≤ a1.toInt ∧ a1.toInt ≤ 4)) ∧ r = (-1)) ∨ ((0 ≤ a1.toInt ∧ a1.toInt ≤ 4) ∧ r = 0)) (fun (_ : Unit) (_ : State) => True) (va_A [(mo, .inr (12, [.int 0, .int 0, .long 0, .int 0, .int 0, .ref g5, .ref g6, .ref g7, .ref g8, .ref g9, .ref g10, .int 0, .ref g12, .ref g13, .ref g14, .ref g15, .ref g16, .ref g17, .ref g18, .ref g19, .ref g20, .int (-9), .ref g22, .ref g23, .ref g24, .int 0, .int 0, .int 0, .int 0, .ref g29, .ref g30, .ref g31, .ref g32, .ref g33]))] sz)) 0 0 (va_A [(mo, .inr (12, [.int 0, .int 0, .long 0, .int 0, .int 0, .ref g5, .ref g6, .ref g7, .ref g8, .ref g9, .ref g10, .int 0, .ref g12, .ref g13, .ref g14, .ref g15, .ref g16, .ref g17, .ref g18, .ref g19, .ref g20, .int (-9), .ref g22, .ref g23, .ref g24, .int 0, .int 0, .int 0, .int 0, .ref g29, .ref g30, .ref g31, .ref g32, .ref g33]))] sz) := by
  refine Met.ofW (cc := cX12_about) (maxL := 4) (ret := (some .int)) (by decide) rfl ?_
  intro p e s m args below meth c s₁ B hml hv
  obtain ⟨rfl, hsz, hP, hK, hD0⟩ := hv
  have hx := B.exec
  have hb := B.bytes
  have hr := B.returns
  have hts := atoms_spec (ws := wsX12_about) B.pre
  have hown : s.vm.findClass RX12 = some m.cls := findClass_of_methodNamed B.named
  have hlocks := B.notSynchronized
  subst hsz
  have hD := hD0.self (sz := s.heap.size)
  generalize hAe : va_A [(mo, .inr (12, [.int 0, .int 0, .long 0, .int 0, .int 0, .ref g5, .ref g6, .ref g7, .ref g8, .ref g9, .ref g10, .int 0, .ref g12, .ref g13, .ref g14, .ref g15, .ref g16, .ref g17, .ref g18, .ref g19, .ref g20, .int (-9), .ref g22, .ref g23, .ref g24, .int 0, .int 0, .int 0, .int 0, .ref g29, .ref g30, .ref g31, .ref g32, .ref g33]))] s.heap.size = A at hD ⊢
  have hA : ∀ q : Nat, s.heap.size ≤ q → A q := fun q h => by rw [← hAe]; exact Or.inr h
  have hS : va_S A s.heap s.heap [] := va_S.rf
  have hl := lv_entry ([.ref mo, .int a1]) (n := 4) (Nat.le_of_ble_eq_true rfl)
  rw [lg_entry_eq]
  generalize (lg_sl ([.ref mo, .int a1]) ++ List.replicate (4 - (lg_sl ([.ref mo, .int a1])).length) Slot.unset).toArray = ls at hl ⊢
  have hl : lv_has ls 4 [(0, .ref mo), (1, .int a1)] := hl
  have z0 : (0 : Int32).toInt = 0 := by decide
  have z1 : (1 : Int32).toInt = 1 := by decide
  have z2 : (2 : Int32).toInt = 2 := by decide
  have z3 : (3 : Int32).toInt = 3 := by decide
  have z4 : (4 : Int32).toInt = 4 := by decide
  refine lv_aload_n hx hb dX12_about_0 rfl (lv_at hl 0 rfl) ?_
  refine lv_iconst (v := 0) hx hb dX12_about_1 (by decide) ?_
  refine va_put (ci := 12) (v := .int 0) (ty := .int) (C := RX12) (T := TX12) (N := 34) hx hb hts (fun _ h => List.mem_cons_of_mem _ (List.mem_append_right _ h)) tyX12 tyX12_ok nmX12 hown hK.1 hP hD hS 0 rfl rfl 0 (by decide) (hts (.fieldLink RX12 85 "CutAtlasModel" "thrown" "I") (by decide +kernel)) (fun _ h9 => h9) rfl (by decide +kernel) rfl rfl (Nat.le_of_ble_eq_true rfl) dX12_about_2 (fun H locs hP hD hS => ?_)
  have hP : va_P D vwCl [(mo, .inr (12, [.int 0, .int 0, .long 0, .int 0, .int 0, .ref g5, .ref g6, .ref g7, .ref g8, .ref g9, .ref g10, .int 0, .ref g12, .ref g13, .ref g14, .ref g15, .ref g16, .ref g17, .ref g18, .ref g19, .ref g20, .int (-9), .ref g22, .ref g23, .ref g24, .int 0, .int 0, .int 0, .int 0, .ref g29, .ref g30, .ref g31, .ref g32, .ref g33]))] H := hP
  have hD : va_D A [(mo, .inr (12, [.int 0, .int 0, .long 0, .int 0, .int 0, .ref g5, .ref g6, .ref g7, .ref g8, .ref g9, .ref g10, .int 0, .ref g12, .ref g13, .ref g14, .ref g15, .ref g16, .ref g17, .ref g18, .ref g19, .ref g20, .int (-9), .ref g22, .ref g23, .ref g24, .int 0, .int 0, .int 0, .int 0, .ref g29, .ref g30, .ref g31, .ref g32, .ref g33]))] := hD
  refine lv_iconst (v := 0) hx hb dX12_about_5 (by decide) ?_
  refine lv_istore_n (lv' := [(2, .int 0), (0, .ref mo), (1, .int a1)]) hx hb dX12_about_6 rfl hl (by decide) rfl (fun ls hl => ?_)
  refine lv_iconst (v := 0) hx hb dX12_about_7 (by decide) ?_
  refine lv_istore_n (lv' := [(3, .int 0), (2, .int 0), (0, .ref mo), (1, .int a1)]) hx hb dX12_about_8 rfl hl (by decide) rfl (fun ls hl => ?_)
  refine lv_iload_n hx hb dX12_about_9 rfl (lv_at hl 0 rfl) ?_
  refine lv_aload_n hx hb dX12_about_10 rfl (lv_at hl 2 rfl) ?_
  refine va_get (ci := 12) (v := .int 0) (C := RX12) (T := TX12) (N := 34) hx hb hts (fun _ h => List.mem_cons_of_mem _ (List.mem_append_right _ h)) hown hK.1 hP 0 rfl rfl 4 (by decide) (hts (.fieldLink RX12 95 "CutAtlasModel" "lines" "I") (by decide +kernel)) (fun _ h9 => h9) rfl dX12_about_11 ?_
  refine lv_icmp_ge (tgt := 40) hx hb dX12_about_14 (by decide) (fun c_1 => ?_) (fun c_1 => ?_)
  · have _ := c_1
    refine lv_iload_n hx hb dX12_about_40 rfl (lv_at hl 3 rfl) ?_
    refine lv_if_ne (tgt := 51) hx hb dX12_about_41 (by decide) (fun c_2 => ?_) (fun c_2 => ?_)
    · have t_2 : ¬ a1.toInt = (0 : Int32).toInt := fun h => c_2 (Int32.toInt_inj.mp h)
      refine lv_iload_n hx hb dX12_about_51 rfl (lv_at hl 3 rfl) ?_
      refine lv_iconst (v := 1) hx hb dX12_about_52 (by decide) ?_
      refine lv_icmp_ne (tgt := 63) hx hb dX12_about_53 (by decide) (fun c_3 => ?_) (fun c_3 => ?_)
      · have t_3 : ¬ a1.toInt = (1 : Int32).toInt := fun h => c_3 (Int32.toInt_inj.mp h)
        refine lv_iload_n hx hb dX12_about_63 rfl (lv_at hl 3 rfl) ?_
        refine lv_iconst (v := 2) hx hb dX12_about_64 (by decide) ?_
        refine lv_icmp_ne (tgt := 72) hx hb dX12_about_65 (by decide) (fun c_4 => ?_) (fun c_4 => ?_)
        · have t_4 : ¬ a1.toInt = (2 : Int32).toInt := fun h => c_4 (Int32.toInt_inj.mp h)
          refine lv_iload_n hx hb dX12_about_72 rfl (lv_at hl 3 rfl) ?_
          refine lv_iconst (v := 3) hx hb dX12_about_73 (by decide) ?_
          refine lv_icmp_ne (tgt := 84) hx hb dX12_about_74 (by decide) (fun c_5 => ?_) (fun c_5 => ?_)
          · have t_5 : ¬ a1.toInt = (3 : Int32).toInt := fun h => c_5 (Int32.toInt_inj.mp h)
            refine lv_iload_n hx hb dX12_about_84 rfl (lv_at hl 3 rfl) ?_
            refine lv_iconst (v := 4) hx hb dX12_about_85 (by decide) ?_
            refine lv_icmp_ne (tgt := 104) hx hb dX12_about_86 (by decide) (fun c_6 => ?_) (fun c_6 => ?_)
            · have t_6 : ¬ a1.toInt = (4 : Int32).toInt := fun h => c_6 (Int32.toInt_inj.mp h)
              refine lv_iconst (v := (-1)) hx hb dX12_about_104 (by decide) ?_
              exact W.iret (v := (-1)) hx hb hr (fun t ht hW => ⟨⟨(-1), (), rfl, Or.inl (⟨by omega, rfl⟩), trivial⟩, hS.F ht⟩) hS.2.2 dX12_about_105
            · have t_6 : a1.toInt = (4 : Int32).toInt := congrArg Int32.toInt c_6
              refine lv_aload_n hx hb dX12_about_89 rfl (lv_at hl 2 rfl) ?_
              have hPc := hP.sub (ws' := [(mo, .inr (12, [.int 0, .int 0, .long 0, .int 0, .int 0, .ref g5, .ref g6, .ref g7, .ref g8, .ref g9, .ref g10, .int 0, .ref g12, .ref g13, .ref g14, .ref g15, .ref g16, .ref g17, .ref g18, .ref g19, .ref g20, .int (-9), .ref g22, .ref g23, .ref g24, .int 0, .int 0, .int 0, .int 0, .ref g29, .ref g30, .ref g31, .ref g32, .ref g33]))]) [0] rfl
              have hDc := hD.sub (ws' := [(mo, .inr (12, [.int 0, .int 0, .long 0, .int 0, .int 0, .ref g5, .ref g6, .ref g7, .ref g8, .ref g9, .ref g10, .int 0, .ref g12, .ref g13, .ref g14, .ref g15, .ref g16, .ref g17, .ref g18, .ref g19, .ref g20, .int (-9), .ref g22, .ref g23, .ref g24, .int 0, .int 0, .int 0, .int 0, .ref g29, .ref g30, .ref g31, .ref g32, .ref g33]))]) [0] (by decide) rfl
              have hDw : va_D (fun _ => True) [(mo, .inr (12, [.int 0, .int 0, .long 0, .int 0, .int 0, .ref g5, .ref g6, .ref g7, .ref g8, .ref g9, .ref g10, .int 0, .ref g12, .ref g13, .ref g14, .ref g15, .ref g16, .ref g17, .ref g18, .ref g19, .ref g20, .int (-9), .ref g22, .ref g23, .ref g24, .int 0, .int 0, .int 0, .int 0, .ref g29, .ref g30, .ref g31, .ref g32, .ref g33]))] := hDc.weaken (fun _ _ _ _ => trivial)
              have hFc := va_free (wc := []) hD hS hA [] rfl
              refine va_calli (va_runV (As := []) (rest := []) ⟨hx, hb, hml, hown, hts⟩ (c_X12_isWhole l D cy H.size mo g5 g6 g7 g8 g9 g10 g12 g13 g14 g15 g16 g17 g18 g19 g20 g22 g23 g24 g29 g30 g31 g32 g33) (cwV 0 hts gX12_about_X12_isWhole rfl rfl rfl (by decide +kernel) ⟨Nat.le_of_ble_eq_true rfl, Nat.le_of_ble_eq_true rfl⟩) ⟨bl_, va_recv hK.1 hPc (ci := 12) (q0 := 0) rfl rfl, fun U hU hW => ⟨rfl, by rw [hU], by rw [hU]; exact hPc, kk_mv hW hK, hDw⟩⟩ rfl rfl hl.1 rfl (lv_room (Nat.le_of_ble_eq_true rfl)) dX12_about_90 ⟨Nat.le_of_ble_eq_true rfl, Nat.le_of_ble_eq_true rfl⟩) hS (fun q _ h => hFc q h) hFc (fun r_7 u t H locs ht hvm hw hB hz1 hk1 hS => ?_)
              have hP := ro_keep hP hk1
              have hP : va_P D vwCl [(mo, .inr (12, [.int 0, .int 0, .long 0, .int 0, .int 0, .ref g5, .ref g6, .ref g7, .ref g8, .ref g9, .ref g10, .int 0, .ref g12, .ref g13, .ref g14, .ref g15, .ref g16, .ref g17, .ref g18, .ref g19, .ref g20, .int (-9), .ref g22, .ref g23, .ref g24, .int 0, .int 0, .int 0, .int 0, .ref g29, .ref g30, .ref g31, .ref g32, .ref g33]))] H := hP
              have e_ := hw.symm
              subst e_
              refine lv_if_eq (tgt := 100) hx hb dX12_about_93 (by decide) (fun c_8 => ?_) (fun c_8 => ?_)
              · have _ := c_8
                refine lv_iconst (v := 0) hx hb dX12_about_100 (by decide) ?_
                refine lv_goto (tgt := 105) hx hb dX12_about_101 (by decide) ?_
                exact W.iret (v := 0) hx hb hr (fun t ht hW => ⟨⟨0, (), rfl, Or.inr (⟨by omega, rfl⟩), trivial⟩, hS.F ht⟩) hS.2.2 dX12_about_105
              · exact absurd c_8 (by decide)
          · have t_5 : a1.toInt = (3 : Int32).toInt := congrArg Int32.toInt c_5
            refine lv_aload_n hx hb dX12_about_77 rfl (lv_at hl 2 rfl) ?_
            refine va_get (ci := 12) (v := .int 0) (C := RX12) (T := TX12) (N := 34) hx hb hts (fun _ h => List.mem_cons_of_mem _ (List.mem_append_right _ h)) hown hK.1 hP 0 rfl rfl 11 (by decide) (hts (.fieldLink RX12 102 "CutAtlasModel" "undone" "I") (by decide +kernel)) (fun _ h9 => h9) rfl dX12_about_78 ?_
            refine lv_goto (tgt := 105) hx hb dX12_about_81 (by decide) ?_
            exact W.iret (v := 0) hx hb hr (fun t ht hW => ⟨⟨0, (), rfl, Or.inr (⟨by omega, rfl⟩), trivial⟩, hS.F ht⟩) hS.2.2 dX12_about_105
        · have t_4 : a1.toInt = (2 : Int32).toInt := congrArg Int32.toInt c_4
          refine lv_iload_n hx hb dX12_about_68 rfl (lv_at hl 1 rfl) ?_
          refine lv_goto (tgt := 105) hx hb dX12_about_69 (by decide) ?_
          exact W.iret (v := 0) hx hb hr (fun t ht hW => ⟨⟨0, (), rfl, Or.inr (⟨by omega, rfl⟩), trivial⟩, hS.F ht⟩) hS.2.2 dX12_about_105
      · have t_3 : a1.toInt = (1 : Int32).toInt := congrArg Int32.toInt c_3
        refine lv_aload_n hx hb dX12_about_56 rfl (lv_at hl 2 rfl) ?_
        refine va_get (ci := 12) (v := .int 0) (C := RX12) (T := TX12) (N := 34) hx hb hts (fun _ h => List.mem_cons_of_mem _ (List.mem_append_right _ h)) hown hK.1 hP 0 rfl rfl 4 (by decide) (hts (.fieldLink RX12 95 "CutAtlasModel" "lines" "I") (by decide +kernel)) (fun _ h9 => h9) rfl dX12_about_57 ?_
        refine lv_goto (tgt := 105) hx hb dX12_about_60 (by decide) ?_
        exact W.iret (v := 0) hx hb hr (fun t ht hW => ⟨⟨0, (), rfl, Or.inr (⟨by omega, rfl⟩), trivial⟩, hS.F ht⟩) hS.2.2 dX12_about_105
    · have t_2 : a1.toInt = (0 : Int32).toInt := congrArg Int32.toInt c_2
      refine lv_aload_n hx hb dX12_about_44 rfl (lv_at hl 2 rfl) ?_
      refine va_get (ci := 12) (v := .int 0) (C := RX12) (T := TX12) (N := 34) hx hb hts (fun _ h => List.mem_cons_of_mem _ (List.mem_append_right _ h)) hown hK.1 hP 0 rfl rfl 3 (by decide) (hts (.fieldLink RX12 88 "CutAtlasModel" "places" "I") (by decide +kernel)) (fun _ h9 => h9) rfl dX12_about_45 ?_
      refine lv_goto (tgt := 105) hx hb dX12_about_48 (by decide) ?_
      exact W.iret (v := 0) hx hb hr (fun t ht hW => ⟨⟨0, (), rfl, Or.inr (⟨by omega, rfl⟩), trivial⟩, hS.F ht⟩) hS.2.2 dX12_about_105
  · exact absurd c_1 (by decide)
