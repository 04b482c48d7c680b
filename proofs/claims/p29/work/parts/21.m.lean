set_option maxHeartbeats 4000000 in
set_option maxRecDepth 100000 in
theorem c_X12_sizeOf (l : Launch) (D : va_G) (cy : Nat → ClassId) (sz : Nat) (mo : Nat) (g5 : Nat) (g6 : Nat) (g7 : Nat) (g8 : Nat) (g9 : Nat) (g10 : Nat) (g12 : Nat) (g13 : Nat) (g14 : Nat) (g15 : Nat) (g16 : Nat) (g17 : Nat) (g18 : Nat) (g19 : Nat) (g20 : Nat) (g22 : Nat) (g23 : Nat) (g24 : Nat) (g29 : Nat) (g30 : Nat) (g31 : Nat) (g32 : Nat) (g33 : Nat) (s0 : Int32) (s1 : Int32) (s3 : Int32) (s4 : Int32) (s11 : Int32) (s21 : Int32) (s25 : Int32) (s26 : Int32) (s27 : Int32) (s28 : Int32) (t2 : Int64) (f5 : Nat → Int32) (f6 : Nat → Int32) (f7 : Nat → Int32) (f8 : Nat → Int32) (f10 : Nat → Int32) (a1 : Int32) (hN : 0 ≤ s4.toInt ∧ s4.toInt ≤ 40) : Met l yX12_sizeOf wsX12_sizeOf ({ frames := 2, cells := 0, slots := 0, locals := 46 }) (va_Pc [.ref mo, .int a1] (fun U => U.heap.size = sz ∧ va_P D vwCl [(mo, .inr (12, [.int s0, .int s1, .long t2, .int s3, .int s4, .ref g5, .ref g6, .ref g7, .ref g8, .ref g9, .ref g10, .int s11, .ref g12, .ref g13, .ref g14, .ref g15, .ref g16, .ref g17, .ref g18, .ref g19, .ref g20, .int s21, .ref g22, .ref g23, .ref g24, .int s25, .int s26, .int s27, .int s28, .ref g29, .ref g30, .ref g31, .ref g32, .ref g33])), (g5, .inl (cy 0, 40, .inl f5)), (g6, .inl (cy 0, 40, .inl f6)), (g7, .inl (cy 0, 40, .inl f7)), (g8, .inl (cy 0, 40, .inl f8)), (g10, .inl (cy 2, 40, .inl f10))] U.heap ∧ kk_ D cy U ∧ va_D (fun _ => True) [(mo, .inr (12, [.int s0, .int s1, .long t2, .int s3, .int s4, .ref g5, .ref g6, .ref g7, .ref g8, .ref g9, .ref g10, .int s11, .ref g12, .ref g13, .ref g14, .ref g15, .ref g16, .ref g17, .ref g18, .ref g19, .ref g20, .int s21, .ref g22, .ref g23, .ref g24, .int s25, .int s26, .int s27, .int s28, .ref g29, .ref g30, .ref g31, .ref g32, .ref g33])), (g5, .inl (cy 0, 40, .inl f5)), (g6, .inl (cy 0, 40, .inl f6)), (g7, .inl (cy 0, 40, .inl f7)), (g8, .inl (cy 0, 40, .inl f8)), (g10, .inl (cy 2, 40, .inl f10))])) (va_Qi (fun (r : Int32) (_ : Unit) => True) (fun (_ : Unit) (_ : State) => True) (va_A [] sz)) 0 0 (va_A [] sz) := by
  refine ofQ (cc := cX12_sizeOf) (maxL := 6) (ret := (some .int)) (by decide) rfl ?_
  intro p e s m args below meth c s₁ Q hQ B hml hv
  obtain ⟨rfl, hsz, hP, hK, hD0⟩ := hv
  have hx := B.exec
  have hb := B.bytes
  have hr := B.returns
  have hts := atoms_spec (ws := wsX12_sizeOf) B.pre
  have hown : s.vm.findClass RX12 = some m.cls := by have h_ := findClass_of_methodNamed B.named; exact h_
  have hlocks := B.notSynchronized
  subst hsz
  have hD : va_D (va_A [] s.heap.size) [] := dd_nil
  generalize hAe : va_A [] s.heap.size = A at hD hQ
  have hA : ∀ q : Nat, s.heap.size ≤ q → A q := fun q h => by rw [← hAe]; exact Or.inr h
  have hS : va_S A s.heap s.heap [] := va_S.rf
  have hl := lv_entry ([.ref mo, .int a1]) (n := 6) (Nat.le_of_ble_eq_true rfl)
  rw [lg_entry_eq]
  generalize (lg_sl ([.ref mo, .int a1]) ++ List.replicate (6 - (lg_sl ([.ref mo, .int a1])).length) Slot.unset).toArray = ls at hl ⊢
  have hl : lv_has ls 6 [(0, .ref mo), (1, .int a1)] := hl
  have z0 : (0 : Int32).toInt = 0 := by decide
  have z1 : (1 : Int32).toInt = 1 := by decide
  have z1000000 : (1000000 : Int32).toInt = 1000000 := by decide
  refine lv_iconst (v := 0) hx hb dX12_sizeOf_0 (by decide) ?_
  refine lv_istore_n (lv' := [(2, .int 0), (0, .ref mo), (1, .int a1)]) hx hb dX12_sizeOf_1 rfl hl (by decide) rfl (fun ls hl => ?_)
  refine lv_iconst (v := 0) hx hb dX12_sizeOf_2 (by decide) ?_
  refine lv_istore_n (lv' := [(3, .int 0), (2, .int 0), (0, .ref mo), (1, .int a1)]) hx hb dX12_sizeOf_3 rfl hl (by decide) rfl (fun ls hl => ?_)
  suffices LOOP_1 : ∀ (n_1 : Nat) (x3_1 : Int32) (x2_1 : Int32) (H : Heap) (locs : List Loc) (ls : Array Slot), s4.toInt - x3_1.toInt < (n_1 : Int) → (0 ≤ x3_1.toInt) → (x3_1.toInt ≤ s4.toInt) → va_P D vwCl [(mo, .inr (12, [.int s0, .int s1, .long t2, .int s3, .int s4, .ref g5, .ref g6, .ref g7, .ref g8, .ref g9, .ref g10, .int s11, .ref g12, .ref g13, .ref g14, .ref g15, .ref g16, .ref g17, .ref g18, .ref g19, .ref g20, .int s21, .ref g22, .ref g23, .ref g24, .int s25, .int s26, .int s27, .int s28, .ref g29, .ref g30, .ref g31, .ref g32, .ref g33])), (g5, .inl (cy 0, 40, .inl f5)), (g6, .inl (cy 0, 40, .inl f6)), (g7, .inl (cy 0, 40, .inl f7)), (g8, .inl (cy 0, 40, .inl f8)), (g10, .inl (cy 2, 40, .inl f10))] H → va_S A s.heap H locs → lv_has ls 6 [(3, .int x3_1), (2, .int x2_1), (0, .ref mo), (1, .int a1)] → W p l e ({ frames := 2, cells := 0, slots := 0, locals := 46 } : Room) s m (([.ref mo, .int a1] : List Value).toArray) below meth c H locs 0 0 Q (F0 m 4 ls []) from LOOP_1 ((s4.toInt - (0 : Int32).toInt).toNat + 1) (0 : Int32) (0 : Int32) _ _ _ (by omega) (by first | with_reducible assumption | omega | assumption) (by first | with_reducible assumption | omega | assumption) hP  hS (lv_sub hl [0, 1, 2, 3] rfl)
  intro n_1
  induction n_1 with
  | zero =>
    intro x3_1 x2_1 H locs ls hm v0_1 v1_1 hP hS hl
    exact absurd hm (by omega)
  | succ n_1 ih_1 =>
    intro x3_1 x2_1 H locs ls hm v0_1 v1_1 hP hS hl
    refine lv_iload_n hx hb dX12_sizeOf_4 rfl (lv_at hl 0 rfl) ?_
    refine lv_aload_n hx hb dX12_sizeOf_5 rfl (lv_at hl 2 rfl) ?_
    refine va_get (ci := 12) (v := .int s4) (C := RX12) (T := TX12) (N := 34) hx hb hts (fun _ h => List.mem_cons_of_mem _ (List.mem_append_right _ h)) hown hK.1 hP 0 rfl rfl 4 (by decide) (hts (.fieldLink RX12 95 "CutAtlasModel" "lines" "I") (by decide +kernel)) (fun _ h9 => h9) rfl dX12_sizeOf_6 ?_
    refine lv_icmp_ge (tgt := 111) hx hb dX12_sizeOf_9 (by decide) (fun c_2 => ?_) (fun c_2 => ?_)
    · have t_2 : s4.toInt ≤ x3_1.toInt := Int32.le_iff_toInt_le.mp c_2
      refine lv_iload_n hx hb dX12_sizeOf_111 rfl (lv_at hl 1 rfl) ?_
      refine lv_ldc (v := 1000000) hx hb hown (hts (.constant RX12 159 (1000000)) (by decide +kernel)) dX12_sizeOf_112 ?_
      refine lv_icmp_ge (tgt := 121) hx hb dX12_sizeOf_114 (by decide) (fun c_3 => ?_) (fun c_3 => ?_)
      · have t_3 : (1000000 : Int32).toInt ≤ x2_1.toInt := Int32.le_iff_toInt_le.mp c_3
        refine lv_ldc (v := 1000000) hx hb hown (hts (.constant RX12 159 (1000000)) (by decide +kernel)) dX12_sizeOf_121 ?_
        rw [hQ]
        exact W.iret (v := 1000000) hx hb hr (fun t ht hW => ⟨⟨1000000, (), rfl, trivial, trivial⟩, hS.F ht⟩) hS.2.2 dX12_sizeOf_123
      · have t_3 : ¬ (1000000 : Int32).toInt ≤ x2_1.toInt := fun h => c_3 (Int32.le_iff_toInt_le.mpr h)
        refine lv_iload_n hx hb dX12_sizeOf_117 rfl (lv_at hl 1 rfl) ?_
        refine lv_goto (tgt := 123) hx hb dX12_sizeOf_118 (by decide) ?_
        rw [hQ]
        exact W.iret (v := x2_1) hx hb hr (fun t ht hW => ⟨⟨x2_1, (), rfl, trivial, trivial⟩, hS.F ht⟩) hS.2.2 dX12_sizeOf_123
    · have t_2 : ¬ s4.toInt ≤ x3_1.toInt := fun h => c_2 (Int32.le_iff_toInt_le.mpr h)
      refine lv_aload_n hx hb dX12_sizeOf_12 rfl (lv_at hl 2 rfl) ?_
      refine va_get (ci := 12) (v := .ref g10) (C := RX12) (T := TX12) (N := 34) hx hb hts (fun _ h => List.mem_cons_of_mem _ (List.mem_append_right _ h)) hown hK.1 hP 0 rfl rfl 10 (by decide) (hts (.fieldLink RX12 25 "CutAtlasModel" "isMissing" "[Z") (by decide +kernel)) (fun _ h9 => h9) rfl dX12_sizeOf_13 ?_
      refine lv_iload_n hx hb dX12_sizeOf_16 rfl (lv_at hl 0 rfl) ?_
      have h_4 : vp_in x3_1 40 := in_I (by omega) (by omega)
      refine va_zald hx hb hK.1 hP 5 2 rfl rfl (i := x3_1) h_4 dX12_sizeOf_17 ?_
      refine lv_topi (fun y_5 ey_5 => ?_)
      refine lv_if_ne (tgt := 105) hx hb dX12_sizeOf_18 (by decide) (fun c_6 => ?_) (fun c_6 => ?_)
      · have t_6 : ¬ y_5.toInt = (0 : Int32).toInt := fun h => c_6 (Int32.toInt_inj.mp h)
        obtain ⟨y_7, ey_7⟩ : ∃ y : Int32, y = x3_1 + 1 := ⟨_, rfl⟩
        have ty_7 : y_7.toInt = x3_1.toInt + (1 : Int32).toInt := by rw [ey_7]; exact addI (by omega) (by omega)
        refine lv_iinc (v := y_7) (lv' := [(3, .int y_7), (2, .int x2_1), (0, .ref mo), (1, .int a1)]) hx hb dX12_sizeOf_105 hl (k := 0) rfl (by rw [ey_7]; rfl) (by decide) rfl (fun ls hl => ?_)
        refine lv_goto (tgt := 4) hx hb dX12_sizeOf_108 (by decide) ?_
        exact ih_1 y_7 x2_1 _ _ _ (by omega) (by first | with_reducible assumption | omega | assumption) (by first | with_reducible assumption | omega | assumption) hP  hS (lv_sub hl [0, 1, 2, 3] rfl)
      · have t_6 : y_5.toInt = (0 : Int32).toInt := congrArg Int32.toInt c_6
        refine lv_iload_n hx hb dX12_sizeOf_21 rfl (lv_at hl 3 rfl) ?_
        refine lv_aload_n hx hb dX12_sizeOf_22 rfl (lv_at hl 2 rfl) ?_
        refine va_get (ci := 12) (v := .ref g6) (C := RX12) (T := TX12) (N := 34) hx hb hts (fun _ h => List.mem_cons_of_mem _ (List.mem_append_right _ h)) hown hK.1 hP 0 rfl rfl 6 (by decide) (hts (.fieldLink RX12 13 "CutAtlasModel" "from" "[I") (by decide +kernel)) (fun _ h9 => h9) rfl dX12_sizeOf_23 ?_
        refine lv_iload_n hx hb dX12_sizeOf_26 rfl (lv_at hl 0 rfl) ?_
        have h_8 : vp_in x3_1 40 := in_I (by omega) (by omega)
        refine va_iald hx hb hK.1 hP 2 0 rfl rfl (i := x3_1) h_8 dX12_sizeOf_27 ?_
        refine lv_topi (fun y_9 ey_9 => ?_)
        refine lv_ishr hx hb dX12_sizeOf_28 ?_
        refine lv_topi (fun y_10 ey_10 => ?_)
        refine lv_iconst (v := 1) hx hb dX12_sizeOf_29 (by decide) ?_
        refine lv_iand hx hb dX12_sizeOf_30 ?_
        refine lv_topi (fun y_11 ey_11 => ?_)
        refine lv_iconst (v := 1) hx hb dX12_sizeOf_31 (by decide) ?_
        refine lv_icmp_ne (tgt := 39) hx hb dX12_sizeOf_32 (by decide) (fun c_12 => ?_) (fun c_12 => ?_)
        · have t_12 : ¬ y_11.toInt = (1 : Int32).toInt := fun h => c_12 (Int32.toInt_inj.mp h)
          refine lv_iconst (v := 0) hx hb dX12_sizeOf_39 (by decide) ?_
          refine lv_istore (lv' := [(4, .int 0), (3, .int x3_1), (2, .int x2_1), (0, .ref mo), (1, .int a1)]) hx hb dX12_sizeOf_40 hl (by decide) rfl (fun ls hl => ?_)
          refine lv_iload_n hx hb dX12_sizeOf_42 rfl (lv_at hl 4 rfl) ?_
          refine lv_aload_n hx hb dX12_sizeOf_43 rfl (lv_at hl 3 rfl) ?_
          refine va_get (ci := 12) (v := .ref g7) (C := RX12) (T := TX12) (N := 34) hx hb hts (fun _ h => List.mem_cons_of_mem _ (List.mem_append_right _ h)) hown hK.1 hP 0 rfl rfl 7 (by decide) (hts (.fieldLink RX12 16 "CutAtlasModel" "to" "[I") (by decide +kernel)) (fun _ h9 => h9) rfl dX12_sizeOf_44 ?_
          refine lv_iload_n hx hb dX12_sizeOf_47 rfl (lv_at hl 1 rfl) ?_
          have h_13 : vp_in x3_1 40 := in_I (by omega) (by omega)
          refine va_iald hx hb hK.1 hP 3 0 rfl rfl (i := x3_1) h_13 dX12_sizeOf_48 ?_
          refine lv_topi (fun y_14 ey_14 => ?_)
          refine lv_ishr hx hb dX12_sizeOf_49 ?_
          refine lv_topi (fun y_15 ey_15 => ?_)
          refine lv_iconst (v := 1) hx hb dX12_sizeOf_50 (by decide) ?_
          refine lv_iand hx hb dX12_sizeOf_51 ?_
          refine lv_topi (fun y_16 ey_16 => ?_)
          refine lv_iconst (v := 1) hx hb dX12_sizeOf_52 (by decide) ?_
          refine lv_icmp_ne (tgt := 60) hx hb dX12_sizeOf_53 (by decide) (fun c_17 => ?_) (fun c_17 => ?_)
          · have t_17 : ¬ y_16.toInt = (1 : Int32).toInt := fun h => c_17 (Int32.toInt_inj.mp h)
            refine lv_iconst (v := 0) hx hb dX12_sizeOf_60 (by decide) ?_
            refine lv_istore (lv' := [(5, .int 0), (4, .int 0), (3, .int x3_1), (2, .int x2_1), (0, .ref mo), (1, .int a1)]) hx hb dX12_sizeOf_61 hl (by decide) rfl (fun ls hl => ?_)
            refine lv_iload_n hx hb dX12_sizeOf_63 rfl (lv_at hl 3 rfl) ?_
            refine lv_iload hx hb dX12_sizeOf_64 (lv_at hl 1 rfl) ?_
            refine lv_if_eq (tgt := 83) hx hb dX12_sizeOf_66 (by decide) (fun c_18 => ?_) (fun c_18 => ?_)
            · have _ := c_18
              refine lv_iload hx hb dX12_sizeOf_83 (lv_at hl 0 rfl) ?_
              refine lv_if_eq (tgt := 102) hx hb dX12_sizeOf_85 (by decide) (fun c_19 => ?_) (fun c_19 => ?_)
              · have _ := c_19
                refine lv_iconst (v := 0) hx hb dX12_sizeOf_102 (by decide) ?_
                refine lv_iadd hx hb dX12_sizeOf_103 ?_
                refine lv_topi (fun y_20 ey_20 => ?_)
                refine lv_istore_n (lv' := [(2, .int y_20), (5, .int 0), (4, .int 0), (3, .int x3_1), (0, .ref mo), (1, .int a1)]) hx hb dX12_sizeOf_104 rfl hl (by decide) rfl (fun ls hl => ?_)
                obtain ⟨y_21, ey_21⟩ : ∃ y : Int32, y = x3_1 + 1 := ⟨_, rfl⟩
                have ty_21 : y_21.toInt = x3_1.toInt + (1 : Int32).toInt := by rw [ey_21]; exact addI (by omega) (by omega)
                refine lv_iinc (v := y_21) (lv' := [(3, .int y_21), (2, .int y_20), (5, .int 0), (4, .int 0), (0, .ref mo), (1, .int a1)]) hx hb dX12_sizeOf_105 hl (k := 3) rfl (by rw [ey_21]; rfl) (by decide) rfl (fun ls hl => ?_)
                refine lv_goto (tgt := 4) hx hb dX12_sizeOf_108 (by decide) ?_
                exact ih_1 y_21 y_20 _ _ _ (by omega) (by first | with_reducible assumption | omega | assumption) (by first | with_reducible assumption | omega | assumption) hP  hS (lv_sub hl [0, 1, 4, 5] rfl)
              · exact absurd c_19 (by decide)
            · exact absurd c_18 (by decide)
          · have t_17 : y_16.toInt = (1 : Int32).toInt := congrArg Int32.toInt c_17
            refine lv_iconst (v := 1) hx hb dX12_sizeOf_56 (by decide) ?_
            refine lv_goto (tgt := 61) hx hb dX12_sizeOf_57 (by decide) ?_
            refine lv_istore (lv' := [(5, .int 1), (4, .int 0), (3, .int x3_1), (2, .int x2_1), (0, .ref mo), (1, .int a1)]) hx hb dX12_sizeOf_61 hl (by decide) rfl (fun ls hl => ?_)
            refine lv_iload_n hx hb dX12_sizeOf_63 rfl (lv_at hl 3 rfl) ?_
            refine lv_iload hx hb dX12_sizeOf_64 (lv_at hl 1 rfl) ?_
            refine lv_if_eq (tgt := 83) hx hb dX12_sizeOf_66 (by decide) (fun c_22 => ?_) (fun c_22 => ?_)
            · have _ := c_22
              refine lv_iload hx hb dX12_sizeOf_83 (lv_at hl 0 rfl) ?_
              refine lv_if_eq (tgt := 102) hx hb dX12_sizeOf_85 (by decide) (fun c_23 => ?_) (fun c_23 => ?_)
              · exact absurd c_23 (by decide)
              · have _ := c_23
                refine lv_iload hx hb dX12_sizeOf_88 (lv_at hl 1 rfl) ?_
                refine lv_if_ne (tgt := 102) hx hb dX12_sizeOf_90 (by decide) (fun c_24 => ?_) (fun c_24 => ?_)
                · exact absurd c_24 (by decide)
                · have _ := c_24
                  refine lv_aload_n hx hb dX12_sizeOf_93 rfl (lv_at hl 4 rfl) ?_
                  refine lv_iload_n hx hb dX12_sizeOf_94 rfl (lv_at hl 2 rfl) ?_
                  refine lv_iconst (v := 0) hx hb dX12_sizeOf_95 (by decide) ?_
                  refine ct_R hP hD0 [(mo, .inr (12, [.int s0, .int s1, .long t2, .int s3, .int s4, .ref g5, .ref g6, .ref g7, .ref g8, .ref g9, .ref g10, .int s11, .ref g12, .ref g13, .ref g14, .ref g15, .ref g16, .ref g17, .ref g18, .ref g19, .ref g20, .int s21, .ref g22, .ref g23, .ref g24, .int s25, .int s26, .int s27, .int s28, .ref g29, .ref g30, .ref g31, .ref g32, .ref g33])), (g5, .inl (cy 0, 40, .inl f5)), (g8, .inl (cy 0, 40, .inl f8))] [0, 1, 4] (by decide) rfl (fun hPc hDw => ?_)
                  have hFc := va_free (wc := []) hD hS hA [] rfl
                  refine va_calli (va_runV (As := [.int x3_1, .int 0]) (rest := [.int x2_1]) ⟨hx, hb, hml, hown, hts⟩ (c_X12_room l D cy H.size mo g5 g6 g7 g8 g9 g10 g12 g13 g14 g15 g16 g17 g18 g19 g20 g22 g23 g24 g29 g30 g31 g32 g33 s0 s1 s3 s4 s11 s21 s25 s26 s27 s28 t2 f5 f8 x3_1 (0 : Int32) (by first | with_reducible assumption | omega | assumption)) (cwV 2 hts gX12_sizeOf_X12_room rfl rfl rfl (by decide +kernel) ⟨Nat.le_of_ble_eq_true rfl, Nat.le_of_ble_eq_true rfl⟩) ⟨bl_, va_recvX hK.1 hP (ci := 12) (q0 := 0) rfl rfl, fun U hU hW => ⟨rfl, by rw [hU], by rw [hU]; exact hPc, kk_mv hW hK, hDw⟩⟩ rfl rfl hl.1 rfl (lv_room (Nat.le_of_ble_eq_true rfl)) dX12_sizeOf_96 ⟨Nat.le_of_ble_eq_true rfl, Nat.le_of_ble_eq_true rfl⟩) hS (fun q _ h => hFc q h) hFc (fun r_25 u t H locs ht hvm hw hB hz1 hk1 hS => ?_)
                  have hP : va_P D vwCl _ H := ro_keep hP hk1
                  have f0_r_25 := hw
                  refine lv_goto (tgt := 103) hx hb dX12_sizeOf_99 (by decide) ?_
                  refine lv_iadd hx hb dX12_sizeOf_103 ?_
                  refine lv_topi (fun y_26 ey_26 => ?_)
                  refine lv_istore_n (lv' := [(2, .int y_26), (5, .int 1), (4, .int 0), (3, .int x3_1), (0, .ref mo), (1, .int a1)]) hx hb dX12_sizeOf_104 rfl hl (by decide) rfl (fun ls hl => ?_)
                  obtain ⟨y_27, ey_27⟩ : ∃ y : Int32, y = x3_1 + 1 := ⟨_, rfl⟩
                  have ty_27 : y_27.toInt = x3_1.toInt + (1 : Int32).toInt := by rw [ey_27]; exact addI (by omega) (by omega)
                  refine lv_iinc (v := y_27) (lv' := [(3, .int y_27), (2, .int y_26), (5, .int 1), (4, .int 0), (0, .ref mo), (1, .int a1)]) hx hb dX12_sizeOf_105 hl (k := 3) rfl (by rw [ey_27]; rfl) (by decide) rfl (fun ls hl => ?_)
                  refine lv_goto (tgt := 4) hx hb dX12_sizeOf_108 (by decide) ?_
                  exact ih_1 y_27 y_26 _ _ _ (by omega) (by first | with_reducible assumption | omega | assumption) (by first | with_reducible assumption | omega | assumption) hP  hS (lv_sub hl [0, 1, 4, 5] rfl)
            · exact absurd c_22 (by decide)
        · have t_12 : y_11.toInt = (1 : Int32).toInt := congrArg Int32.toInt c_12
          refine lv_iconst (v := 1) hx hb dX12_sizeOf_35 (by decide) ?_
          refine lv_goto (tgt := 40) hx hb dX12_sizeOf_36 (by decide) ?_
          refine lv_istore (lv' := [(4, .int 1), (3, .int x3_1), (2, .int x2_1), (0, .ref mo), (1, .int a1)]) hx hb dX12_sizeOf_40 hl (by decide) rfl (fun ls hl => ?_)
          refine lv_iload_n hx hb dX12_sizeOf_42 rfl (lv_at hl 4 rfl) ?_
          refine lv_aload_n hx hb dX12_sizeOf_43 rfl (lv_at hl 3 rfl) ?_
          refine va_get (ci := 12) (v := .ref g7) (C := RX12) (T := TX12) (N := 34) hx hb hts (fun _ h => List.mem_cons_of_mem _ (List.mem_append_right _ h)) hown hK.1 hP 0 rfl rfl 7 (by decide) (hts (.fieldLink RX12 16 "CutAtlasModel" "to" "[I") (by decide +kernel)) (fun _ h9 => h9) rfl dX12_sizeOf_44 ?_
          refine lv_iload_n hx hb dX12_sizeOf_47 rfl (lv_at hl 1 rfl) ?_
          have h_28 : vp_in x3_1 40 := in_I (by omega) (by omega)
          refine va_iald hx hb hK.1 hP 3 0 rfl rfl (i := x3_1) h_28 dX12_sizeOf_48 ?_
          refine lv_topi (fun y_29 ey_29 => ?_)
          refine lv_ishr hx hb dX12_sizeOf_49 ?_
          refine lv_topi (fun y_30 ey_30 => ?_)
          refine lv_iconst (v := 1) hx hb dX12_sizeOf_50 (by decide) ?_
          refine lv_iand hx hb dX12_sizeOf_51 ?_
          refine lv_topi (fun y_31 ey_31 => ?_)
          refine lv_iconst (v := 1) hx hb dX12_sizeOf_52 (by decide) ?_
          refine lv_icmp_ne (tgt := 60) hx hb dX12_sizeOf_53 (by decide) (fun c_32 => ?_) (fun c_32 => ?_)
          · have t_32 : ¬ y_31.toInt = (1 : Int32).toInt := fun h => c_32 (Int32.toInt_inj.mp h)
            refine lv_iconst (v := 0) hx hb dX12_sizeOf_60 (by decide) ?_
            refine lv_istore (lv' := [(5, .int 0), (4, .int 1), (3, .int x3_1), (2, .int x2_1), (0, .ref mo), (1, .int a1)]) hx hb dX12_sizeOf_61 hl (by decide) rfl (fun ls hl => ?_)
            refine lv_iload_n hx hb dX12_sizeOf_63 rfl (lv_at hl 3 rfl) ?_
            refine lv_iload hx hb dX12_sizeOf_64 (lv_at hl 1 rfl) ?_
            refine lv_if_eq (tgt := 83) hx hb dX12_sizeOf_66 (by decide) (fun c_33 => ?_) (fun c_33 => ?_)
            · exact absurd c_33 (by decide)
            · have _ := c_33
              refine lv_iload hx hb dX12_sizeOf_69 (lv_at hl 0 rfl) ?_
              refine lv_if_ne (tgt := 83) hx hb dX12_sizeOf_71 (by decide) (fun c_34 => ?_) (fun c_34 => ?_)
              · exact absurd c_34 (by decide)
              · have _ := c_34
                refine lv_aload_n hx hb dX12_sizeOf_74 rfl (lv_at hl 4 rfl) ?_
                refine lv_iload_n hx hb dX12_sizeOf_75 rfl (lv_at hl 2 rfl) ?_
                refine lv_iconst (v := 1) hx hb dX12_sizeOf_76 (by decide) ?_
                refine ct_R hP hD0 [(mo, .inr (12, [.int s0, .int s1, .long t2, .int s3, .int s4, .ref g5, .ref g6, .ref g7, .ref g8, .ref g9, .ref g10, .int s11, .ref g12, .ref g13, .ref g14, .ref g15, .ref g16, .ref g17, .ref g18, .ref g19, .ref g20, .int s21, .ref g22, .ref g23, .ref g24, .int s25, .int s26, .int s27, .int s28, .ref g29, .ref g30, .ref g31, .ref g32, .ref g33])), (g5, .inl (cy 0, 40, .inl f5)), (g8, .inl (cy 0, 40, .inl f8))] [0, 1, 4] (by decide) rfl (fun hPc hDw => ?_)
                have hFc := va_free (wc := []) hD hS hA [] rfl
                refine va_calli (va_runV (As := [.int x3_1, .int 1]) (rest := [.int x2_1]) ⟨hx, hb, hml, hown, hts⟩ (c_X12_room l D cy H.size mo g5 g6 g7 g8 g9 g10 g12 g13 g14 g15 g16 g17 g18 g19 g20 g22 g23 g24 g29 g30 g31 g32 g33 s0 s1 s3 s4 s11 s21 s25 s26 s27 s28 t2 f5 f8 x3_1 (1 : Int32) (by first | with_reducible assumption | omega | assumption)) (cwV 2 hts gX12_sizeOf_X12_room rfl rfl rfl (by decide +kernel) ⟨Nat.le_of_ble_eq_true rfl, Nat.le_of_ble_eq_true rfl⟩) ⟨bl_, va_recvX hK.1 hP (ci := 12) (q0 := 0) rfl rfl, fun U hU hW => ⟨rfl, by rw [hU], by rw [hU]; exact hPc, kk_mv hW hK, hDw⟩⟩ rfl rfl hl.1 rfl (lv_room (Nat.le_of_ble_eq_true rfl)) dX12_sizeOf_77 ⟨Nat.le_of_ble_eq_true rfl, Nat.le_of_ble_eq_true rfl⟩) hS (fun q _ h => hFc q h) hFc (fun r_35 u t H locs ht hvm hw hB hz1 hk1 hS => ?_)
                have hP : va_P D vwCl _ H := ro_keep hP hk1
                have f0_r_35 := hw
                refine lv_goto (tgt := 103) hx hb dX12_sizeOf_80 (by decide) ?_
                refine lv_iadd hx hb dX12_sizeOf_103 ?_
                refine lv_topi (fun y_36 ey_36 => ?_)
                refine lv_istore_n (lv' := [(2, .int y_36), (5, .int 0), (4, .int 1), (3, .int x3_1), (0, .ref mo), (1, .int a1)]) hx hb dX12_sizeOf_104 rfl hl (by decide) rfl (fun ls hl => ?_)
                obtain ⟨y_37, ey_37⟩ : ∃ y : Int32, y = x3_1 + 1 := ⟨_, rfl⟩
                have ty_37 : y_37.toInt = x3_1.toInt + (1 : Int32).toInt := by rw [ey_37]; exact addI (by omega) (by omega)
                refine lv_iinc (v := y_37) (lv' := [(3, .int y_37), (2, .int y_36), (5, .int 0), (4, .int 1), (0, .ref mo), (1, .int a1)]) hx hb dX12_sizeOf_105 hl (k := 3) rfl (by rw [ey_37]; rfl) (by decide) rfl (fun ls hl => ?_)
                refine lv_goto (tgt := 4) hx hb dX12_sizeOf_108 (by decide) ?_
                exact ih_1 y_37 y_36 _ _ _ (by omega) (by first | with_reducible assumption | omega | assumption) (by first | with_reducible assumption | omega | assumption) hP  hS (lv_sub hl [0, 1, 4, 5] rfl)
          · have t_32 : y_31.toInt = (1 : Int32).toInt := congrArg Int32.toInt c_32
            refine lv_iconst (v := 1) hx hb dX12_sizeOf_56 (by decide) ?_
            refine lv_goto (tgt := 61) hx hb dX12_sizeOf_57 (by decide) ?_
            refine lv_istore (lv' := [(5, .int 1), (4, .int 1), (3, .int x3_1), (2, .int x2_1), (0, .ref mo), (1, .int a1)]) hx hb dX12_sizeOf_61 hl (by decide) rfl (fun ls hl => ?_)
            refine lv_iload_n hx hb dX12_sizeOf_63 rfl (lv_at hl 3 rfl) ?_
            refine lv_iload hx hb dX12_sizeOf_64 (lv_at hl 1 rfl) ?_
            refine lv_if_eq (tgt := 83) hx hb dX12_sizeOf_66 (by decide) (fun c_38 => ?_) (fun c_38 => ?_)
            · exact absurd c_38 (by decide)
            · have _ := c_38
              refine lv_iload hx hb dX12_sizeOf_69 (lv_at hl 0 rfl) ?_
              refine lv_if_ne (tgt := 83) hx hb dX12_sizeOf_71 (by decide) (fun c_39 => ?_) (fun c_39 => ?_)
              · have _ := c_39
                refine lv_iload hx hb dX12_sizeOf_83 (lv_at hl 0 rfl) ?_
                refine lv_if_eq (tgt := 102) hx hb dX12_sizeOf_85 (by decide) (fun c_40 => ?_) (fun c_40 => ?_)
                · exact absurd c_40 (by decide)
                · have _ := c_40
                  refine lv_iload hx hb dX12_sizeOf_88 (lv_at hl 1 rfl) ?_
                  refine lv_if_ne (tgt := 102) hx hb dX12_sizeOf_90 (by decide) (fun c_41 => ?_) (fun c_41 => ?_)
                  · have _ := c_41
                    refine lv_iconst (v := 0) hx hb dX12_sizeOf_102 (by decide) ?_
                    refine lv_iadd hx hb dX12_sizeOf_103 ?_
                    refine lv_topi (fun y_42 ey_42 => ?_)
                    refine lv_istore_n (lv' := [(2, .int y_42), (5, .int 1), (4, .int 1), (3, .int x3_1), (0, .ref mo), (1, .int a1)]) hx hb dX12_sizeOf_104 rfl hl (by decide) rfl (fun ls hl => ?_)
                    obtain ⟨y_43, ey_43⟩ : ∃ y : Int32, y = x3_1 + 1 := ⟨_, rfl⟩
                    have ty_43 : y_43.toInt = x3_1.toInt + (1 : Int32).toInt := by rw [ey_43]; exact addI (by omega) (by omega)
                    refine lv_iinc (v := y_43) (lv' := [(3, .int y_43), (2, .int y_42), (5, .int 1), (4, .int 1), (0, .ref mo), (1, .int a1)]) hx hb dX12_sizeOf_105 hl (k := 3) rfl (by rw [ey_43]; rfl) (by decide) rfl (fun ls hl => ?_)
                    refine lv_goto (tgt := 4) hx hb dX12_sizeOf_108 (by decide) ?_
                    exact ih_1 y_43 y_42 _ _ _ (by omega) (by first | with_reducible assumption | omega | assumption) (by first | with_reducible assumption | omega | assumption) hP  hS (lv_sub hl [0, 1, 4, 5] rfl)
                  · exact absurd c_41 (by decide)
              · exact absurd c_39 (by decide)

set_option maxHeartbeats 4000000 in
set_option maxRecDepth 100000 in
theorem c_X12_mostOf (l : Launch) (D : va_G) (cy : Nat → ClassId) (sz : Nat) (mo : Nat) (g5 : Nat) (g6 : Nat) (g7 : Nat) (g8 : Nat) (g9 : Nat) (g10 : Nat) (g12 : Nat) (g13 : Nat) (g14 : Nat) (g15 : Nat) (g16 : Nat) (g17 : Nat) (g18 : Nat) (g19 : Nat) (g20 : Nat) (g22 : Nat) (g23 : Nat) (g24 : Nat) (g29 : Nat) (g30 : Nat) (g31 : Nat) (g32 : Nat) (g33 : Nat) (s0 : Int32) (s1 : Int32) (s3 : Int32) (s4 : Int32) (s11 : Int32) (s21 : Int32) (s25 : Int32) (s26 : Int32) (s27 : Int32) (s28 : Int32) (t2 : Int64) (f5 : Nat → Int32) (f6 : Nat → Int32) (f7 : Nat → Int32) (f8 : Nat → Int32) (f10 : Nat → Int32) (a1 : Int32) (a2 : Int32) (hN : 0 ≤ s4.toInt ∧ s4.toInt ≤ 40) (hPl : 0 ≤ s3.toInt ∧ s3.toInt ≤ 12) : Met l yX12_mostOf wsX12_mostOf ({ frames := 3, cells := 0, slots := 0, locals := 71 }) (va_Pc [.ref mo, .int a1, .int a2] (fun U => U.heap.size = sz ∧ va_P D vwCl [(mo, .inr (12, [.int s0, .int s1, .long t2, .int s3, .int s4, .ref g5, .ref g6, .ref g7, .ref g8, .ref g9, .ref g10, .int s11, .ref g12, .ref g13, .ref g14, .ref g15, .ref g16, .ref g17, .ref g18, .ref g19, .ref g20, .int s21, .ref g22, .ref g23, .ref g24, .int s25, .int s26, .int s27, .int s28, .ref g29, .ref g30, .ref g31, .ref g32, .ref g33])), (g5, .inl (cy 0, 40, .inl f5)), (g6, .inl (cy 0, 40, .inl f6)), (g7, .inl (cy 0, 40, .inl f7)), (g8, .inl (cy 0, 40, .inl f8)), (g10, .inl (cy 2, 40, .inl f10))] U.heap ∧ kk_ D cy U ∧ va_D (fun _ => True) [(mo, .inr (12, [.int s0, .int s1, .long t2, .int s3, .int s4, .ref g5, .ref g6, .ref g7, .ref g8, .ref g9, .ref g10, .int s11, .ref g12, .ref g13, .ref g14, .ref g15, .ref g16, .ref g17, .ref g18, .ref g19, .ref g20, .int s21, .ref g22, .ref g23, .ref g24, .int s25, .int s26, .int s27, .int s28, .ref g29, .ref g30, .ref g31, .ref g32, .ref g33])), (g5, .inl (cy 0, 40, .inl f5)), (g6, .inl (cy 0, 40, .inl f6)), (g7, .inl (cy 0, 40, .inl f7)), (g8, .inl (cy 0, 40, .inl f8)), (g10, .inl (cy 2, 40, .inl f10))])) (va_Qi (fun (r : Int32) (_ : Unit) => True) (fun (_ : Unit) (_ : State) => True) (va_A [] sz)) 0 0 (va_A [] sz) := by
  refine ofQ (cc := cX12_mostOf) (maxL := 6) (ret := (some .int)) (by decide) rfl ?_
  intro p e s m args below meth c s₁ Q hQ B hml hv
  obtain ⟨rfl, hsz, hP, hK, hD0⟩ := hv
  have hx := B.exec
  have hb := B.bytes
  have hr := B.returns
  have hts := atoms_spec (ws := wsX12_mostOf) B.pre
  have hown : s.vm.findClass RX12 = some m.cls := by have h_ := findClass_of_methodNamed B.named; exact h_
  have hlocks := B.notSynchronized
  subst hsz
  have hD : va_D (va_A [] s.heap.size) [] := dd_nil
  generalize hAe : va_A [] s.heap.size = A at hD hQ
  have hA : ∀ q : Nat, s.heap.size ≤ q → A q := fun q h => by rw [← hAe]; exact Or.inr h
  have hS : va_S A s.heap s.heap [] := va_S.rf
  have hl := lv_entry ([.ref mo, .int a1, .int a2]) (n := 6) (Nat.le_of_ble_eq_true rfl)
  rw [lg_entry_eq]
  generalize (lg_sl ([.ref mo, .int a1, .int a2]) ++ List.replicate (6 - (lg_sl ([.ref mo, .int a1, .int a2])).length) Slot.unset).toArray = ls at hl ⊢
  have hl : lv_has ls 6 [(0, .ref mo), (1, .int a1), (2, .int a2)] := hl
  have z0 : (0 : Int32).toInt = 0 := by decide
  have z1 : (1 : Int32).toInt = 1 := by decide
  have z1000000 : (1000000 : Int32).toInt = 1000000 := by decide
  refine lv_ldc (v := 1000000) hx hb hown (hts (.constant RX12 159 (1000000)) (by decide +kernel)) dX12_mostOf_0 ?_
  refine lv_istore_n (lv' := [(3, .int 1000000), (0, .ref mo), (1, .int a1), (2, .int a2)]) hx hb dX12_mostOf_2 rfl hl (by decide) rfl (fun ls hl => ?_)
  refine lv_iconst (v := 0) hx hb dX12_mostOf_3 (by decide) ?_
  refine lv_istore (lv' := [(4, .int 0), (3, .int 1000000), (0, .ref mo), (1, .int a1), (2, .int a2)]) hx hb dX12_mostOf_4 hl (by decide) rfl (fun ls hl => ?_)
  suffices LOOP_1 : ∀ (n_1 : Nat) (x4_1 : Int32) (x3_1 : Int32) (H : Heap) (locs : List Loc) (ls : Array Slot), 4096 - x4_1.toInt < (n_1 : Int) → (0 ≤ x4_1.toInt) → (x4_1.toInt ≤ 4096) → va_P D vwCl [(mo, .inr (12, [.int s0, .int s1, .long t2, .int s3, .int s4, .ref g5, .ref g6, .ref g7, .ref g8, .ref g9, .ref g10, .int s11, .ref g12, .ref g13, .ref g14, .ref g15, .ref g16, .ref g17, .ref g18, .ref g19, .ref g20, .int s21, .ref g22, .ref g23, .ref g24, .int s25, .int s26, .int s27, .int s28, .ref g29, .ref g30, .ref g31, .ref g32, .ref g33])), (g5, .inl (cy 0, 40, .inl f5)), (g6, .inl (cy 0, 40, .inl f6)), (g7, .inl (cy 0, 40, .inl f7)), (g8, .inl (cy 0, 40, .inl f8)), (g10, .inl (cy 2, 40, .inl f10))] H → va_S A s.heap H locs → lv_has ls 6 [(4, .int x4_1), (3, .int x3_1), (0, .ref mo), (1, .int a1), (2, .int a2)] → W p l e ({ frames := 3, cells := 0, slots := 0, locals := 71 } : Room) s m (([.ref mo, .int a1, .int a2] : List Value).toArray) below meth c H locs 0 0 Q (F0 m 6 ls []) from LOOP_1 ((4096 - (0 : Int32).toInt).toNat + 1) (0 : Int32) (1000000 : Int32) _ _ _ (by omega) (by first | with_reducible assumption | omega | assumption) (by first | with_reducible assumption | omega | assumption) hP  hS (lv_sub hl [0, 1, 2, 3, 4] rfl)
  intro n_1
  induction n_1 with
  | zero =>
    intro x4_1 x3_1 H locs ls hm v0_1 v1_1 hP hS hl
    exact absurd hm (by omega)
  | succ n_1 ih_1 =>
    intro x4_1 x3_1 H locs ls hm v0_1 v1_1 hP hS hl
    refine lv_iload hx hb dX12_mostOf_6 (lv_at hl 0 rfl) ?_
    refine lv_iconst (v := 1) hx hb dX12_mostOf_8 (by decide) ?_
    refine lv_aload_n hx hb dX12_mostOf_9 rfl (lv_at hl 2 rfl) ?_
    refine va_get (ci := 12) (v := .int s3) (C := RX12) (T := TX12) (N := 34) hx hb hts (fun _ h => List.mem_cons_of_mem _ (List.mem_append_right _ h)) hown hK.1 hP 0 rfl rfl 3 (by decide) (hts (.fieldLink RX12 88 "CutAtlasModel" "places" "I") (by decide +kernel)) (fun _ h9 => h9) rfl dX12_mostOf_10 ?_
    refine lv_ishl hx hb dX12_mostOf_13 ?_
    refine lv_topi (fun y_2 ey_2 => ?_)
    have ty_2 : 1 ≤ y_2.toInt ∧ y_2.toInt ≤ 4096 := by rw [ey_2]; exact shl1 (by omega) (by omega)
    refine lv_icmp_ge (tgt := 63) hx hb dX12_mostOf_14 (by decide) (fun c_3 => ?_) (fun c_3 => ?_)
    · have t_3 : y_2.toInt ≤ x4_1.toInt := Int32.le_iff_toInt_le.mp c_3
      refine lv_iload_n hx hb dX12_mostOf_63 rfl (lv_at hl 1 rfl) ?_
      rw [hQ]
      exact W.iret (v := x3_1) hx hb hr (fun t ht hW => ⟨⟨x3_1, (), rfl, trivial, trivial⟩, hS.F ht⟩) hS.2.2 dX12_mostOf_64
    · have t_3 : ¬ y_2.toInt ≤ x4_1.toInt := fun h => c_3 (Int32.le_iff_toInt_le.mpr h)
      refine lv_iload hx hb dX12_mostOf_17 (lv_at hl 0 rfl) ?_
      refine lv_iload_n hx hb dX12_mostOf_19 rfl (lv_at hl 3 rfl) ?_
      refine lv_ishr hx hb dX12_mostOf_20 ?_
      refine lv_topi (fun y_4 ey_4 => ?_)
      refine lv_iconst (v := 1) hx hb dX12_mostOf_21 (by decide) ?_
      refine lv_iand hx hb dX12_mostOf_22 ?_
      refine lv_topi (fun y_5 ey_5 => ?_)
      refine lv_iconst (v := 1) hx hb dX12_mostOf_23 (by decide) ?_
      refine lv_icmp_ne (tgt := 57) hx hb dX12_mostOf_24 (by decide) (fun c_6 => ?_) (fun c_6 => ?_)
      · have t_6 : ¬ y_5.toInt = (1 : Int32).toInt := fun h => c_6 (Int32.toInt_inj.mp h)
        obtain ⟨y_7, ey_7⟩ : ∃ y : Int32, y = x4_1 + 1 := ⟨_, rfl⟩
        have ty_7 : y_7.toInt = x4_1.toInt + (1 : Int32).toInt := by rw [ey_7]; exact addI (by omega) (by omega)
        refine lv_iinc (v := y_7) (lv' := [(4, .int y_7), (3, .int x3_1), (0, .ref mo), (1, .int a1), (2, .int a2)]) hx hb dX12_mostOf_57 hl (k := 0) rfl (by rw [ey_7]; rfl) (by decide) rfl (fun ls hl => ?_)
        refine lv_goto (tgt := 6) hx hb dX12_mostOf_60 (by decide) ?_
        exact ih_1 y_7 x3_1 _ _ _ (by omega) (by first | with_reducible assumption | omega | assumption) (by first | with_reducible assumption | omega | assumption) hP  hS (lv_sub hl [0, 1, 2, 3, 4] rfl)
      · have t_6 : y_5.toInt = (1 : Int32).toInt := congrArg Int32.toInt c_6
        refine lv_iload hx hb dX12_mostOf_27 (lv_at hl 0 rfl) ?_
        refine lv_iload_n hx hb dX12_mostOf_29 rfl (lv_at hl 4 rfl) ?_
        refine lv_ishr hx hb dX12_mostOf_30 ?_
        refine lv_topi (fun y_8 ey_8 => ?_)
        refine lv_iconst (v := 1) hx hb dX12_mostOf_31 (by decide) ?_
        refine lv_iand hx hb dX12_mostOf_32 ?_
        refine lv_topi (fun y_9 ey_9 => ?_)
        refine lv_if_ne (tgt := 57) hx hb dX12_mostOf_33 (by decide) (fun c_10 => ?_) (fun c_10 => ?_)
        · have t_10 : ¬ y_9.toInt = (0 : Int32).toInt := fun h => c_10 (Int32.toInt_inj.mp h)
          obtain ⟨y_11, ey_11⟩ : ∃ y : Int32, y = x4_1 + 1 := ⟨_, rfl⟩
          have ty_11 : y_11.toInt = x4_1.toInt + (1 : Int32).toInt := by rw [ey_11]; exact addI (by omega) (by omega)
          refine lv_iinc (v := y_11) (lv' := [(4, .int y_11), (3, .int x3_1), (0, .ref mo), (1, .int a1), (2, .int a2)]) hx hb dX12_mostOf_57 hl (k := 0) rfl (by rw [ey_11]; rfl) (by decide) rfl (fun ls hl => ?_)
          refine lv_goto (tgt := 6) hx hb dX12_mostOf_60 (by decide) ?_
          exact ih_1 y_11 x3_1 _ _ _ (by omega) (by first | with_reducible assumption | omega | assumption) (by first | with_reducible assumption | omega | assumption) hP  hS (lv_sub hl [0, 1, 2, 3, 4] rfl)
        · have t_10 : y_9.toInt = (0 : Int32).toInt := congrArg Int32.toInt c_10
          refine lv_aload_n hx hb dX12_mostOf_36 rfl (lv_at hl 2 rfl) ?_
          refine lv_iload hx hb dX12_mostOf_37 (lv_at hl 0 rfl) ?_
          refine ct_R hP hD0 [(mo, .inr (12, [.int s0, .int s1, .long t2, .int s3, .int s4, .ref g5, .ref g6, .ref g7, .ref g8, .ref g9, .ref g10, .int s11, .ref g12, .ref g13, .ref g14, .ref g15, .ref g16, .ref g17, .ref g18, .ref g19, .ref g20, .int s21, .ref g22, .ref g23, .ref g24, .int s25, .int s26, .int s27, .int s28, .ref g29, .ref g30, .ref g31, .ref g32, .ref g33])), (g5, .inl (cy 0, 40, .inl f5)), (g6, .inl (cy 0, 40, .inl f6)), (g7, .inl (cy 0, 40, .inl f7)), (g8, .inl (cy 0, 40, .inl f8)), (g10, .inl (cy 2, 40, .inl f10))] [0, 1, 2, 3, 4, 5] (by decide) rfl (fun hPc hDw => ?_)
          have hFc := va_free (wc := []) hD hS hA [] rfl
          refine va_calli (va_runV (As := [.int x4_1]) (rest := []) ⟨hx, hb, hml, hown, hts⟩ (c_X12_sizeOf l D cy H.size mo g5 g6 g7 g8 g9 g10 g12 g13 g14 g15 g16 g17 g18 g19 g20 g22 g23 g24 g29 g30 g31 g32 g33 s0 s1 s3 s4 s11 s21 s25 s26 s27 s28 t2 f5 f6 f7 f8 f10 x4_1 (by first | with_reducible assumption | omega | assumption)) (cwV 1 hts gX12_mostOf_X12_sizeOf rfl rfl rfl (by decide +kernel) ⟨Nat.le_of_ble_eq_true rfl, Nat.le_of_ble_eq_true rfl⟩) ⟨bl_, va_recvX hK.1 hP (ci := 12) (q0 := 0) rfl rfl, fun U hU hW => ⟨rfl, by rw [hU], by rw [hU]; exact hPc, kk_mv hW hK, hDw⟩⟩ rfl rfl hl.1 rfl (lv_room (Nat.le_of_ble_eq_true rfl)) dX12_mostOf_39 ⟨Nat.le_of_ble_eq_true rfl, Nat.le_of_ble_eq_true rfl⟩) hS (fun q _ h => hFc q h) hFc (fun r_12 u t H locs ht hvm hw hB hz1 hk1 hS => ?_)
          have hP : va_P D vwCl _ H := ro_keep hP hk1
          refine lv_istore (lv' := [(5, .int r_12), (4, .int x4_1), (3, .int x3_1), (0, .ref mo), (1, .int a1), (2, .int a2)]) hx hb dX12_mostOf_42 hl (by decide) rfl (fun ls hl => ?_)
          refine lv_iload hx hb dX12_mostOf_44 (lv_at hl 0 rfl) ?_
          refine lv_iload_n hx hb dX12_mostOf_46 rfl (lv_at hl 2 rfl) ?_
          refine lv_icmp_ge (tgt := 55) hx hb dX12_mostOf_47 (by decide) (fun c_13 => ?_) (fun c_13 => ?_)
          · have t_13 : x3_1.toInt ≤ r_12.toInt := Int32.le_iff_toInt_le.mp c_13
            refine lv_iload_n hx hb dX12_mostOf_55 rfl (lv_at hl 2 rfl) ?_
            refine lv_istore_n (lv' := [(3, .int x3_1), (5, .int r_12), (4, .int x4_1), (0, .ref mo), (1, .int a1), (2, .int a2)]) hx hb dX12_mostOf_56 rfl hl (by decide) rfl (fun ls hl => ?_)
            obtain ⟨y_14, ey_14⟩ : ∃ y : Int32, y = x4_1 + 1 := ⟨_, rfl⟩
            have ty_14 : y_14.toInt = x4_1.toInt + (1 : Int32).toInt := by rw [ey_14]; exact addI (by omega) (by omega)
            refine lv_iinc (v := y_14) (lv' := [(4, .int y_14), (3, .int x3_1), (5, .int r_12), (0, .ref mo), (1, .int a1), (2, .int a2)]) hx hb dX12_mostOf_57 hl (k := 2) rfl (by rw [ey_14]; rfl) (by decide) rfl (fun ls hl => ?_)
            refine lv_goto (tgt := 6) hx hb dX12_mostOf_60 (by decide) ?_
            exact ih_1 y_14 x3_1 _ _ _ (by omega) (by first | with_reducible assumption | omega | assumption) (by first | with_reducible assumption | omega | assumption) hP  hS (lv_sub hl [0, 1, 3, 4, 5] rfl)
          · have t_13 : ¬ x3_1.toInt ≤ r_12.toInt := fun h => c_13 (Int32.le_iff_toInt_le.mpr h)
            refine lv_iload hx hb dX12_mostOf_50 (lv_at hl 0 rfl) ?_
            refine lv_goto (tgt := 56) hx hb dX12_mostOf_52 (by decide) ?_
            refine lv_istore_n (lv' := [(3, .int r_12), (5, .int r_12), (4, .int x4_1), (0, .ref mo), (1, .int a1), (2, .int a2)]) hx hb dX12_mostOf_56 rfl hl (by decide) rfl (fun ls hl => ?_)
            obtain ⟨y_15, ey_15⟩ : ∃ y : Int32, y = x4_1 + 1 := ⟨_, rfl⟩
            have ty_15 : y_15.toInt = x4_1.toInt + (1 : Int32).toInt := by rw [ey_15]; exact addI (by omega) (by omega)
            refine lv_iinc (v := y_15) (lv' := [(4, .int y_15), (3, .int r_12), (5, .int r_12), (0, .ref mo), (1, .int a1), (2, .int a2)]) hx hb dX12_mostOf_57 hl (k := 2) rfl (by rw [ey_15]; rfl) (by decide) rfl (fun ls hl => ?_)
            refine lv_goto (tgt := 6) hx hb dX12_mostOf_60 (by decide) ?_
            exact ih_1 y_15 r_12 _ _ _ (by omega) (by first | with_reducible assumption | omega | assumption) (by first | with_reducible assumption | omega | assumption) hP  hS (lv_sub hl [0, 1, 3, 4, 5] rfl)

set_option maxHeartbeats 4000000 in
set_option maxRecDepth 100000 in
theorem c_X12_isWhole (l : Launch) (D : va_G) (cy : Nat → ClassId) (sz : Nat) (mo : Nat) (g5 : Nat) (g6 : Nat) (g7 : Nat) (g8 : Nat) (g9 : Nat) (g10 : Nat) (g12 : Nat) (g13 : Nat) (g14 : Nat) (g15 : Nat) (g16 : Nat) (g17 : Nat) (g18 : Nat) (g19 : Nat) (g20 : Nat) (g22 : Nat) (g23 : Nat) (g24 : Nat) (g29 : Nat) (g30 : Nat) (g31 : Nat) (g32 : Nat) (g33 : Nat) (s0 : Int32) (s1 : Int32) (s3 : Int32) (s4 : Int32) (s11 : Int32) (s21 : Int32) (s25 : Int32) (s26 : Int32) (s27 : Int32) (s28 : Int32) (t2 : Int64) (f5 : Nat → Int32) (f10 : Nat → Int32) (hN : 0 ≤ s4.toInt ∧ s4.toInt ≤ 40) : Met l yX12_isWhole wsX12_isWhole ({ frames := 0, cells := 0, slots := 0, locals := 0 }) (va_Pc [.ref mo] (fun U => U.heap.size = sz ∧ va_P D vwCl [(mo, .inr (12, [.int s0, .int s1, .long t2, .int s3, .int s4, .ref g5, .ref g6, .ref g7, .ref g8, .ref g9, .ref g10, .int s11, .ref g12, .ref g13, .ref g14, .ref g15, .ref g16, .ref g17, .ref g18, .ref g19, .ref g20, .int s21, .ref g22, .ref g23, .ref g24, .int s25, .int s26, .int s27, .int s28, .ref g29, .ref g30, .ref g31, .ref g32, .ref g33])), (g5, .inl (cy 0, 40, .inl f5)), (g10, .inl (cy 2, 40, .inl f10))] U.heap ∧ kk_ D cy U ∧ va_D (fun _ => True) [(mo, .inr (12, [.int s0, .int s1, .long t2, .int s3, .int s4, .ref g5, .ref g6, .ref g7, .ref g8, .ref g9, .ref g10, .int s11, .ref g12, .ref g13, .ref g14, .ref g15, .ref g16, .ref g17, .ref g18, .ref g19, .ref g20, .int s21, .ref g22, .ref g23, .ref g24, .int s25, .int s26, .int s27, .int s28, .ref g29, .ref g30, .ref g31, .ref g32, .ref g33])), (g5, .inl (cy 0, 40, .inl f5)), (g10, .inl (cy 2, 40, .inl f10))])) (va_Qi (fun (r : Int32) (_ : Unit) => (r.toInt = 0 ∨ r.toInt = 1)) (fun (_ : Unit) (_ : State) => True) (va_A [] sz)) 0 0 (va_A [] sz) := by
  refine ofQ (cc := cX12_isWhole) (maxL := 3) (ret := (some .boolean)) (by decide) rfl ?_
  intro p e s m args below meth c s₁ Q hQ B hml hv
  obtain ⟨rfl, hsz, hP, hK, hD0⟩ := hv
  have hx := B.exec
  have hb := B.bytes
  have hr := B.returns
  have hts := atoms_spec (ws := wsX12_isWhole) B.pre
  have hown : s.vm.findClass RX12 = some m.cls := by have h_ := findClass_of_methodNamed B.named; exact h_
  have hlocks := B.notSynchronized
  subst hsz
  have hD : va_D (va_A [] s.heap.size) [] := dd_nil
  generalize hAe : va_A [] s.heap.size = A at hD hQ
  have hA : ∀ q : Nat, s.heap.size ≤ q → A q := fun q h => by rw [← hAe]; exact Or.inr h
  have hS : va_S A s.heap s.heap [] := va_S.rf
  have hl := lv_entry ([.ref mo]) (n := 3) (Nat.le_of_ble_eq_true rfl)
  rw [lg_entry_eq]
  generalize (lg_sl ([.ref mo]) ++ List.replicate (3 - (lg_sl ([.ref mo])).length) Slot.unset).toArray = ls at hl ⊢
  have hl : lv_has ls 3 [(0, .ref mo)] := hl
  have z0 : (0 : Int32).toInt = 0 := by decide
  have z1 : (1 : Int32).toInt = 1 := by decide
  have z2 : (2 : Int32).toInt = 2 := by decide
  refine lv_aload_n hx hb dX12_isWhole_0 rfl (lv_at hl 0 rfl) ?_
  refine va_get (ci := 12) (v := .int s3) (C := RX12) (T := TX12) (N := 34) hx hb hts (fun _ h => List.mem_cons_of_mem _ (List.mem_append_right _ h)) hown hK.1 hP 0 rfl rfl 3 (by decide) (hts (.fieldLink RX12 88 "CutAtlasModel" "places" "I") (by decide +kernel)) (fun _ h9 => h9) rfl dX12_isWhole_1 ?_
  refine lv_iconst (v := 1) hx hb dX12_isWhole_4 (by decide) ?_
  refine lv_icmp_le (tgt := 12) hx hb dX12_isWhole_5 (by decide) (fun c_1 => ?_) (fun c_1 => ?_)
  · have t_1 : s3.toInt ≤ (1 : Int32).toInt := Int32.le_iff_toInt_le.mp c_1
    refine lv_iconst (v := 0) hx hb dX12_isWhole_12 (by decide) ?_
    refine lv_istore_n (lv' := [(1, .int 0), (0, .ref mo)]) hx hb dX12_isWhole_13 rfl hl (by decide) rfl (fun ls hl => ?_)
    refine lv_iconst (v := 0) hx hb dX12_isWhole_14 (by decide) ?_
    refine lv_istore_n (lv' := [(2, .int 0), (1, .int 0), (0, .ref mo)]) hx hb dX12_isWhole_15 rfl hl (by decide) rfl (fun ls hl => ?_)
    suffices LOOP_2 : ∀ (n_2 : Nat) (x2_2 : Int32) (x1_2 : Int32) (H : Heap) (locs : List Loc) (ls : Array Slot), s4.toInt - x2_2.toInt < (n_2 : Int) → (0 ≤ x2_2.toInt) → (x2_2.toInt ≤ s4.toInt) → (x1_2.toInt = 0 ∨ x1_2.toInt = 1) → va_P D vwCl [(mo, .inr (12, [.int s0, .int s1, .long t2, .int s3, .int s4, .ref g5, .ref g6, .ref g7, .ref g8, .ref g9, .ref g10, .int s11, .ref g12, .ref g13, .ref g14, .ref g15, .ref g16, .ref g17, .ref g18, .ref g19, .ref g20, .int s21, .ref g22, .ref g23, .ref g24, .int s25, .int s26, .int s27, .int s28, .ref g29, .ref g30, .ref g31, .ref g32, .ref g33])), (g5, .inl (cy 0, 40, .inl f5)), (g10, .inl (cy 2, 40, .inl f10))] H → va_S A s.heap H locs → lv_has ls 3 [(2, .int x2_2), (1, .int x1_2), (0, .ref mo)] → W p l e ({ frames := 0, cells := 0, slots := 0, locals := 0 } : Room) s m (([.ref mo] : List Value).toArray) below meth c H locs 0 0 Q (F0 m 16 ls []) from LOOP_2 ((s4.toInt - (0 : Int32).toInt).toNat + 1) (0 : Int32) (0 : Int32) _ _ _ (by omega) (by first | with_reducible assumption | omega | assumption) (by first | with_reducible assumption | omega | assumption) (by first | with_reducible assumption | omega | assumption) hP  hS (lv_sub hl [0, 1, 2] rfl)
    intro n_2
    induction n_2 with
    | zero =>
      intro x2_2 x1_2 H locs ls hm v0_2 v1_2 v2_2 hP hS hl
      exact absurd hm (by omega)
    | succ n_2 ih_2 =>
      intro x2_2 x1_2 H locs ls hm v0_2 v1_2 v2_2 hP hS hl
      refine lv_iload_n hx hb dX12_isWhole_16 rfl (lv_at hl 0 rfl) ?_
      refine lv_aload_n hx hb dX12_isWhole_17 rfl (lv_at hl 2 rfl) ?_
      refine va_get (ci := 12) (v := .int s4) (C := RX12) (T := TX12) (N := 34) hx hb hts (fun _ h => List.mem_cons_of_mem _ (List.mem_append_right _ h)) hown hK.1 hP 0 rfl rfl 4 (by decide) (hts (.fieldLink RX12 95 "CutAtlasModel" "lines" "I") (by decide +kernel)) (fun _ h9 => h9) rfl dX12_isWhole_18 ?_
      refine lv_icmp_ge (tgt := 67) hx hb dX12_isWhole_21 (by decide) (fun c_3 => ?_) (fun c_3 => ?_)
      · have t_3 : s4.toInt ≤ x2_2.toInt := Int32.le_iff_toInt_le.mp c_3
        refine lv_iload_n hx hb dX12_isWhole_67 rfl (lv_at hl 1 rfl) ?_
        rw [hQ]
        exact W.zret (ty := .boolean) (v := x1_2) hx hb hr (nar_b (by omega)) (fun t ht hW => ⟨⟨x1_2, (), rfl, (by omega), trivial⟩, hS.F ht⟩) hS.2.2 dX12_isWhole_68
      · have t_3 : ¬ s4.toInt ≤ x2_2.toInt := fun h => c_3 (Int32.le_iff_toInt_le.mpr h)
        refine lv_iload_n hx hb dX12_isWhole_24 rfl (lv_at hl 1 rfl) ?_
        refine lv_aload_n hx hb dX12_isWhole_25 rfl (lv_at hl 2 rfl) ?_
        refine va_get (ci := 12) (v := .ref g10) (C := RX12) (T := TX12) (N := 34) hx hb hts (fun _ h => List.mem_cons_of_mem _ (List.mem_append_right _ h)) hown hK.1 hP 0 rfl rfl 10 (by decide) (hts (.fieldLink RX12 25 "CutAtlasModel" "isMissing" "[Z") (by decide +kernel)) (fun _ h9 => h9) rfl dX12_isWhole_26 ?_
        refine lv_iload_n hx hb dX12_isWhole_29 rfl (lv_at hl 0 rfl) ?_
        have h_4 : vp_in x2_2 40 := in_I (by omega) (by omega)
        refine va_zald hx hb hK.1 hP 2 2 rfl rfl (i := x2_2) h_4 dX12_isWhole_30 ?_
        refine lv_topi (fun y_5 ey_5 => ?_)
        refine lv_if_ne (tgt := 54) hx hb dX12_isWhole_31 (by decide) (fun c_6 => ?_) (fun c_6 => ?_)
        · have t_6 : ¬ y_5.toInt = (0 : Int32).toInt := fun h => c_6 (Int32.toInt_inj.mp h)
          refine lv_iconst (v := 1) hx hb dX12_isWhole_54 (by decide) ?_
          refine lv_goto (tgt := 59) hx hb dX12_isWhole_55 (by decide) ?_
          refine lv_iand hx hb dX12_isWhole_59 ?_
          refine lv_topi (fun y_7 ey_7 => ?_)
          have ty_7 : y_7.toInt = 0 ∨ y_7.toInt = 1 := by rw [ey_7]; exact and01 (by omega) (by omega)
          refine lv_istore_n (lv' := [(1, .int y_7), (2, .int x2_2), (0, .ref mo)]) hx hb dX12_isWhole_60 rfl hl (by decide) rfl (fun ls hl => ?_)
          obtain ⟨y_8, ey_8⟩ : ∃ y : Int32, y = x2_2 + 1 := ⟨_, rfl⟩
          have ty_8 : y_8.toInt = x2_2.toInt + (1 : Int32).toInt := by rw [ey_8]; exact addI (by omega) (by omega)
          refine lv_iinc (v := y_8) (lv' := [(2, .int y_8), (1, .int y_7), (0, .ref mo)]) hx hb dX12_isWhole_61 hl (k := 1) rfl (by rw [ey_8]; rfl) (by decide) rfl (fun ls hl => ?_)
          refine lv_goto (tgt := 16) hx hb dX12_isWhole_64 (by decide) ?_
          exact ih_2 y_8 y_7 _ _ _ (by omega) (by first | with_reducible assumption | omega | assumption) (by first | with_reducible assumption | omega | assumption) (by first | with_reducible assumption | omega | assumption) hP  hS (lv_sub hl [0, 1, 2] rfl)
        · have t_6 : y_5.toInt = (0 : Int32).toInt := congrArg Int32.toInt c_6
          refine lv_aload_n hx hb dX12_isWhole_34 rfl (lv_at hl 2 rfl) ?_
          refine va_get (ci := 12) (v := .ref g5) (C := RX12) (T := TX12) (N := 34) hx hb hts (fun _ h => List.mem_cons_of_mem _ (List.mem_append_right _ h)) hown hK.1 hP 0 rfl rfl 5 (by decide) (hts (.fieldLink RX12 7 "CutAtlasModel" "kind" "[I") (by decide +kernel)) (fun _ h9 => h9) rfl dX12_isWhole_35 ?_
          refine lv_iload_n hx hb dX12_isWhole_38 rfl (lv_at hl 0 rfl) ?_
          have h_9 : vp_in x2_2 40 := in_I (by omega) (by omega)
          refine va_iald hx hb hK.1 hP 1 0 rfl rfl (i := x2_2) h_9 dX12_isWhole_39 ?_
          refine lv_topi (fun y_10 ey_10 => ?_)
          refine lv_iconst (v := 1) hx hb dX12_isWhole_40 (by decide) ?_
          refine lv_icmp_eq (tgt := 58) hx hb dX12_isWhole_41 (by decide) (fun c_11 => ?_) (fun c_11 => ?_)
          · have t_11 : y_10.toInt = (1 : Int32).toInt := congrArg Int32.toInt c_11
            refine lv_iconst (v := 0) hx hb dX12_isWhole_58 (by decide) ?_
            refine lv_iand hx hb dX12_isWhole_59 ?_
            refine lv_topi (fun y_12 ey_12 => ?_)
            have ty_12 : y_12.toInt = 0 ∨ y_12.toInt = 1 := by rw [ey_12]; exact and01 (by omega) (by omega)
            refine lv_istore_n (lv' := [(1, .int y_12), (2, .int x2_2), (0, .ref mo)]) hx hb dX12_isWhole_60 rfl hl (by decide) rfl (fun ls hl => ?_)
            obtain ⟨y_13, ey_13⟩ : ∃ y : Int32, y = x2_2 + 1 := ⟨_, rfl⟩
            have ty_13 : y_13.toInt = x2_2.toInt + (1 : Int32).toInt := by rw [ey_13]; exact addI (by omega) (by omega)
            refine lv_iinc (v := y_13) (lv' := [(2, .int y_13), (1, .int y_12), (0, .ref mo)]) hx hb dX12_isWhole_61 hl (k := 1) rfl (by rw [ey_13]; rfl) (by decide) rfl (fun ls hl => ?_)
            refine lv_goto (tgt := 16) hx hb dX12_isWhole_64 (by decide) ?_
            exact ih_2 y_13 y_12 _ _ _ (by omega) (by first | with_reducible assumption | omega | assumption) (by first | with_reducible assumption | omega | assumption) (by first | with_reducible assumption | omega | assumption) hP  hS (lv_sub hl [0, 1, 2] rfl)
          · have t_11 : ¬ y_10.toInt = (1 : Int32).toInt := fun h => c_11 (Int32.toInt_inj.mp h)
            refine lv_aload_n hx hb dX12_isWhole_44 rfl (lv_at hl 2 rfl) ?_
            refine va_get (ci := 12) (v := .ref g5) (C := RX12) (T := TX12) (N := 34) hx hb hts (fun _ h => List.mem_cons_of_mem _ (List.mem_append_right _ h)) hown hK.1 hP 0 rfl rfl 5 (by decide) (hts (.fieldLink RX12 7 "CutAtlasModel" "kind" "[I") (by decide +kernel)) (fun _ h9 => h9) rfl dX12_isWhole_45 ?_
            refine lv_iload_n hx hb dX12_isWhole_48 rfl (lv_at hl 0 rfl) ?_
            have h_14 : vp_in x2_2 40 := in_I (by omega) (by omega)
            refine va_iald hx hb hK.1 hP 1 0 rfl rfl (i := x2_2) h_14 dX12_isWhole_49 ?_
            refine lv_topi (fun y_15 ey_15 => ?_)
            have e_ := (ey_15.trans ey_10.symm).symm
            subst e_
            skip
            refine lv_iconst (v := 2) hx hb dX12_isWhole_50 (by decide) ?_
            refine lv_icmp_eq (tgt := 58) hx hb dX12_isWhole_51 (by decide) (fun c_16 => ?_) (fun c_16 => ?_)
            · have t_16 : y_10.toInt = (2 : Int32).toInt := congrArg Int32.toInt c_16
              refine lv_iconst (v := 0) hx hb dX12_isWhole_58 (by decide) ?_
              refine lv_iand hx hb dX12_isWhole_59 ?_
              refine lv_topi (fun y_17 ey_17 => ?_)
              have ty_17 : y_17.toInt = 0 ∨ y_17.toInt = 1 := by rw [ey_17]; exact and01 (by omega) (by omega)
              refine lv_istore_n (lv' := [(1, .int y_17), (2, .int x2_2), (0, .ref mo)]) hx hb dX12_isWhole_60 rfl hl (by decide) rfl (fun ls hl => ?_)
              obtain ⟨y_18, ey_18⟩ : ∃ y : Int32, y = x2_2 + 1 := ⟨_, rfl⟩
              have ty_18 : y_18.toInt = x2_2.toInt + (1 : Int32).toInt := by rw [ey_18]; exact addI (by omega) (by omega)
              refine lv_iinc (v := y_18) (lv' := [(2, .int y_18), (1, .int y_17), (0, .ref mo)]) hx hb dX12_isWhole_61 hl (k := 1) rfl (by rw [ey_18]; rfl) (by decide) rfl (fun ls hl => ?_)
              refine lv_goto (tgt := 16) hx hb dX12_isWhole_64 (by decide) ?_
              exact ih_2 y_18 y_17 _ _ _ (by omega) (by first | with_reducible assumption | omega | assumption) (by first | with_reducible assumption | omega | assumption) (by first | with_reducible assumption | omega | assumption) hP  hS (lv_sub hl [0, 1, 2] rfl)
            · have t_16 : ¬ y_10.toInt = (2 : Int32).toInt := fun h => c_16 (Int32.toInt_inj.mp h)
              refine lv_iconst (v := 1) hx hb dX12_isWhole_54 (by decide) ?_
              refine lv_goto (tgt := 59) hx hb dX12_isWhole_55 (by decide) ?_
              refine lv_iand hx hb dX12_isWhole_59 ?_
              refine lv_topi (fun y_19 ey_19 => ?_)
              have ty_19 : y_19.toInt = 0 ∨ y_19.toInt = 1 := by rw [ey_19]; exact and01 (by omega) (by omega)
              refine lv_istore_n (lv' := [(1, .int y_19), (2, .int x2_2), (0, .ref mo)]) hx hb dX12_isWhole_60 rfl hl (by decide) rfl (fun ls hl => ?_)
              obtain ⟨y_20, ey_20⟩ : ∃ y : Int32, y = x2_2 + 1 := ⟨_, rfl⟩
              have ty_20 : y_20.toInt = x2_2.toInt + (1 : Int32).toInt := by rw [ey_20]; exact addI (by omega) (by omega)
              refine lv_iinc (v := y_20) (lv' := [(2, .int y_20), (1, .int y_19), (0, .ref mo)]) hx hb dX12_isWhole_61 hl (k := 1) rfl (by rw [ey_20]; rfl) (by decide) rfl (fun ls hl => ?_)
              refine lv_goto (tgt := 16) hx hb dX12_isWhole_64 (by decide) ?_
              exact ih_2 y_20 y_19 _ _ _ (by omega) (by first | with_reducible assumption | omega | assumption) (by first | with_reducible assumption | omega | assumption) (by first | with_reducible assumption | omega | assumption) hP  hS (lv_sub hl [0, 1, 2] rfl)
  · have t_1 : ¬ s3.toInt ≤ (1 : Int32).toInt := fun h => c_1 (Int32.le_iff_toInt_le.mpr h)
    refine lv_iconst (v := 1) hx hb dX12_isWhole_8 (by decide) ?_
    refine lv_goto (tgt := 13) hx hb dX12_isWhole_9 (by decide) ?_
    refine lv_istore_n (lv' := [(1, .int 1), (0, .ref mo)]) hx hb dX12_isWhole_13 rfl hl (by decide) rfl (fun ls hl => ?_)
    refine lv_iconst (v := 0) hx hb dX12_isWhole_14 (by decide) ?_
    refine lv_istore_n (lv' := [(2, .int 0), (1, .int 1), (0, .ref mo)]) hx hb dX12_isWhole_15 rfl hl (by decide) rfl (fun ls hl => ?_)
    suffices LOOP_21 : ∀ (n_21 : Nat) (x2_21 : Int32) (x1_21 : Int32) (H : Heap) (locs : List Loc) (ls : Array Slot), s4.toInt - x2_21.toInt < (n_21 : Int) → (0 ≤ x2_21.toInt) → (x2_21.toInt ≤ s4.toInt) → (x1_21.toInt = 0 ∨ x1_21.toInt = 1) → va_P D vwCl [(mo, .inr (12, [.int s0, .int s1, .long t2, .int s3, .int s4, .ref g5, .ref g6, .ref g7, .ref g8, .ref g9, .ref g10, .int s11, .ref g12, .ref g13, .ref g14, .ref g15, .ref g16, .ref g17, .ref g18, .ref g19, .ref g20, .int s21, .ref g22, .ref g23, .ref g24, .int s25, .int s26, .int s27, .int s28, .ref g29, .ref g30, .ref g31, .ref g32, .ref g33])), (g5, .inl (cy 0, 40, .inl f5)), (g10, .inl (cy 2, 40, .inl f10))] H → va_S A s.heap H locs → lv_has ls 3 [(2, .int x2_21), (1, .int x1_21), (0, .ref mo)] → W p l e ({ frames := 0, cells := 0, slots := 0, locals := 0 } : Room) s m (([.ref mo] : List Value).toArray) below meth c H locs 0 0 Q (F0 m 16 ls []) from LOOP_21 ((s4.toInt - (0 : Int32).toInt).toNat + 1) (0 : Int32) (1 : Int32) _ _ _ (by omega) (by first | with_reducible assumption | omega | assumption) (by first | with_reducible assumption | omega | assumption) (by first | with_reducible assumption | omega | assumption) hP  hS (lv_sub hl [0, 1, 2] rfl)
    intro n_21
    induction n_21 with
    | zero =>
      intro x2_21 x1_21 H locs ls hm v0_21 v1_21 v2_21 hP hS hl
      exact absurd hm (by omega)
    | succ n_21 ih_21 =>
      intro x2_21 x1_21 H locs ls hm v0_21 v1_21 v2_21 hP hS hl
      refine lv_iload_n hx hb dX12_isWhole_16 rfl (lv_at hl 0 rfl) ?_
      refine lv_aload_n hx hb dX12_isWhole_17 rfl (lv_at hl 2 rfl) ?_
      refine va_get (ci := 12) (v := .int s4) (C := RX12) (T := TX12) (N := 34) hx hb hts (fun _ h => List.mem_cons_of_mem _ (List.mem_append_right _ h)) hown hK.1 hP 0 rfl rfl 4 (by decide) (hts (.fieldLink RX12 95 "CutAtlasModel" "lines" "I") (by decide +kernel)) (fun _ h9 => h9) rfl dX12_isWhole_18 ?_
      refine lv_icmp_ge (tgt := 67) hx hb dX12_isWhole_21 (by decide) (fun c_22 => ?_) (fun c_22 => ?_)
      · have t_22 : s4.toInt ≤ x2_21.toInt := Int32.le_iff_toInt_le.mp c_22
        refine lv_iload_n hx hb dX12_isWhole_67 rfl (lv_at hl 1 rfl) ?_
        rw [hQ]
        exact W.zret (ty := .boolean) (v := x1_21) hx hb hr (nar_b (by omega)) (fun t ht hW => ⟨⟨x1_21, (), rfl, (by omega), trivial⟩, hS.F ht⟩) hS.2.2 dX12_isWhole_68
      · have t_22 : ¬ s4.toInt ≤ x2_21.toInt := fun h => c_22 (Int32.le_iff_toInt_le.mpr h)
        refine lv_iload_n hx hb dX12_isWhole_24 rfl (lv_at hl 1 rfl) ?_
        refine lv_aload_n hx hb dX12_isWhole_25 rfl (lv_at hl 2 rfl) ?_
        refine va_get (ci := 12) (v := .ref g10) (C := RX12) (T := TX12) (N := 34) hx hb hts (fun _ h => List.mem_cons_of_mem _ (List.mem_append_right _ h)) hown hK.1 hP 0 rfl rfl 10 (by decide) (hts (.fieldLink RX12 25 "CutAtlasModel" "isMissing" "[Z") (by decide +kernel)) (fun _ h9 => h9) rfl dX12_isWhole_26 ?_
        refine lv_iload_n hx hb dX12_isWhole_29 rfl (lv_at hl 0 rfl) ?_
        have h_23 : vp_in x2_21 40 := in_I (by omega) (by omega)
        refine va_zald hx hb hK.1 hP 2 2 rfl rfl (i := x2_21) h_23 dX12_isWhole_30 ?_
        refine lv_topi (fun y_24 ey_24 => ?_)
        refine lv_if_ne (tgt := 54) hx hb dX12_isWhole_31 (by decide) (fun c_25 => ?_) (fun c_25 => ?_)
        · have t_25 : ¬ y_24.toInt = (0 : Int32).toInt := fun h => c_25 (Int32.toInt_inj.mp h)
          refine lv_iconst (v := 1) hx hb dX12_isWhole_54 (by decide) ?_
          refine lv_goto (tgt := 59) hx hb dX12_isWhole_55 (by decide) ?_
          refine lv_iand hx hb dX12_isWhole_59 ?_
          refine lv_topi (fun y_26 ey_26 => ?_)
          have ty_26 : y_26.toInt = 0 ∨ y_26.toInt = 1 := by rw [ey_26]; exact and01 (by omega) (by omega)
          refine lv_istore_n (lv' := [(1, .int y_26), (2, .int x2_21), (0, .ref mo)]) hx hb dX12_isWhole_60 rfl hl (by decide) rfl (fun ls hl => ?_)
          obtain ⟨y_27, ey_27⟩ : ∃ y : Int32, y = x2_21 + 1 := ⟨_, rfl⟩
          have ty_27 : y_27.toInt = x2_21.toInt + (1 : Int32).toInt := by rw [ey_27]; exact addI (by omega) (by omega)
          refine lv_iinc (v := y_27) (lv' := [(2, .int y_27), (1, .int y_26), (0, .ref mo)]) hx hb dX12_isWhole_61 hl (k := 1) rfl (by rw [ey_27]; rfl) (by decide) rfl (fun ls hl => ?_)
          refine lv_goto (tgt := 16) hx hb dX12_isWhole_64 (by decide) ?_
          exact ih_21 y_27 y_26 _ _ _ (by omega) (by first | with_reducible assumption | omega | assumption) (by first | with_reducible assumption | omega | assumption) (by first | with_reducible assumption | omega | assumption) hP  hS (lv_sub hl [0, 1, 2] rfl)
        · have t_25 : y_24.toInt = (0 : Int32).toInt := congrArg Int32.toInt c_25
          refine lv_aload_n hx hb dX12_isWhole_34 rfl (lv_at hl 2 rfl) ?_
          refine va_get (ci := 12) (v := .ref g5) (C := RX12) (T := TX12) (N := 34) hx hb hts (fun _ h => List.mem_cons_of_mem _ (List.mem_append_right _ h)) hown hK.1 hP 0 rfl rfl 5 (by decide) (hts (.fieldLink RX12 7 "CutAtlasModel" "kind" "[I") (by decide +kernel)) (fun _ h9 => h9) rfl dX12_isWhole_35 ?_
          refine lv_iload_n hx hb dX12_isWhole_38 rfl (lv_at hl 0 rfl) ?_
          have h_28 : vp_in x2_21 40 := in_I (by omega) (by omega)
          refine va_iald hx hb hK.1 hP 1 0 rfl rfl (i := x2_21) h_28 dX12_isWhole_39 ?_
          refine lv_topi (fun y_29 ey_29 => ?_)
          refine lv_iconst (v := 1) hx hb dX12_isWhole_40 (by decide) ?_
          refine lv_icmp_eq (tgt := 58) hx hb dX12_isWhole_41 (by decide) (fun c_30 => ?_) (fun c_30 => ?_)
          · have t_30 : y_29.toInt = (1 : Int32).toInt := congrArg Int32.toInt c_30
            refine lv_iconst (v := 0) hx hb dX12_isWhole_58 (by decide) ?_
            refine lv_iand hx hb dX12_isWhole_59 ?_
            refine lv_topi (fun y_31 ey_31 => ?_)
            have ty_31 : y_31.toInt = 0 ∨ y_31.toInt = 1 := by rw [ey_31]; exact and01 (by omega) (by omega)
            refine lv_istore_n (lv' := [(1, .int y_31), (2, .int x2_21), (0, .ref mo)]) hx hb dX12_isWhole_60 rfl hl (by decide) rfl (fun ls hl => ?_)
            obtain ⟨y_32, ey_32⟩ : ∃ y : Int32, y = x2_21 + 1 := ⟨_, rfl⟩
            have ty_32 : y_32.toInt = x2_21.toInt + (1 : Int32).toInt := by rw [ey_32]; exact addI (by omega) (by omega)
            refine lv_iinc (v := y_32) (lv' := [(2, .int y_32), (1, .int y_31), (0, .ref mo)]) hx hb dX12_isWhole_61 hl (k := 1) rfl (by rw [ey_32]; rfl) (by decide) rfl (fun ls hl => ?_)
            refine lv_goto (tgt := 16) hx hb dX12_isWhole_64 (by decide) ?_
            exact ih_21 y_32 y_31 _ _ _ (by omega) (by first | with_reducible assumption | omega | assumption) (by first | with_reducible assumption | omega | assumption) (by first | with_reducible assumption | omega | assumption) hP  hS (lv_sub hl [0, 1, 2] rfl)
          · have t_30 : ¬ y_29.toInt = (1 : Int32).toInt := fun h => c_30 (Int32.toInt_inj.mp h)
            refine lv_aload_n hx hb dX12_isWhole_44 rfl (lv_at hl 2 rfl) ?_
            refine va_get (ci := 12) (v := .ref g5) (C := RX12) (T := TX12) (N := 34) hx hb hts (fun _ h => List.mem_cons_of_mem _ (List.mem_append_right _ h)) hown hK.1 hP 0 rfl rfl 5 (by decide) (hts (.fieldLink RX12 7 "CutAtlasModel" "kind" "[I") (by decide +kernel)) (fun _ h9 => h9) rfl dX12_isWhole_45 ?_
            refine lv_iload_n hx hb dX12_isWhole_48 rfl (lv_at hl 0 rfl) ?_
            have h_33 : vp_in x2_21 40 := in_I (by omega) (by omega)
            refine va_iald hx hb hK.1 hP 1 0 rfl rfl (i := x2_21) h_33 dX12_isWhole_49 ?_
            refine lv_topi (fun y_34 ey_34 => ?_)
            have e_ := (ey_34.trans ey_29.symm).symm
            subst e_
            skip
            refine lv_iconst (v := 2) hx hb dX12_isWhole_50 (by decide) ?_
            refine lv_icmp_eq (tgt := 58) hx hb dX12_isWhole_51 (by decide) (fun c_35 => ?_) (fun c_35 => ?_)
            · have t_35 : y_29.toInt = (2 : Int32).toInt := congrArg Int32.toInt c_35
              refine lv_iconst (v := 0) hx hb dX12_isWhole_58 (by decide) ?_
              refine lv_iand hx hb dX12_isWhole_59 ?_
              refine lv_topi (fun y_36 ey_36 => ?_)
              have ty_36 : y_36.toInt = 0 ∨ y_36.toInt = 1 := by rw [ey_36]; exact and01 (by omega) (by omega)
              refine lv_istore_n (lv' := [(1, .int y_36), (2, .int x2_21), (0, .ref mo)]) hx hb dX12_isWhole_60 rfl hl (by decide) rfl (fun ls hl => ?_)
              obtain ⟨y_37, ey_37⟩ : ∃ y : Int32, y = x2_21 + 1 := ⟨_, rfl⟩
              have ty_37 : y_37.toInt = x2_21.toInt + (1 : Int32).toInt := by rw [ey_37]; exact addI (by omega) (by omega)
              refine lv_iinc (v := y_37) (lv' := [(2, .int y_37), (1, .int y_36), (0, .ref mo)]) hx hb dX12_isWhole_61 hl (k := 1) rfl (by rw [ey_37]; rfl) (by decide) rfl (fun ls hl => ?_)
              refine lv_goto (tgt := 16) hx hb dX12_isWhole_64 (by decide) ?_
              exact ih_21 y_37 y_36 _ _ _ (by omega) (by first | with_reducible assumption | omega | assumption) (by first | with_reducible assumption | omega | assumption) (by first | with_reducible assumption | omega | assumption) hP  hS (lv_sub hl [0, 1, 2] rfl)
            · have t_35 : ¬ y_29.toInt = (2 : Int32).toInt := fun h => c_35 (Int32.toInt_inj.mp h)
              refine lv_iconst (v := 1) hx hb dX12_isWhole_54 (by decide) ?_
              refine lv_goto (tgt := 59) hx hb dX12_isWhole_55 (by decide) ?_
              refine lv_iand hx hb dX12_isWhole_59 ?_
              refine lv_topi (fun y_38 ey_38 => ?_)
              have ty_38 : y_38.toInt = 0 ∨ y_38.toInt = 1 := by rw [ey_38]; exact and01 (by omega) (by omega)
              refine lv_istore_n (lv' := [(1, .int y_38), (2, .int x2_21), (0, .ref mo)]) hx hb dX12_isWhole_60 rfl hl (by decide) rfl (fun ls hl => ?_)
              obtain ⟨y_39, ey_39⟩ : ∃ y : Int32, y = x2_21 + 1 := ⟨_, rfl⟩
              have ty_39 : y_39.toInt = x2_21.toInt + (1 : Int32).toInt := by rw [ey_39]; exact addI (by omega) (by omega)
              refine lv_iinc (v := y_39) (lv' := [(2, .int y_39), (1, .int y_38), (0, .ref mo)]) hx hb dX12_isWhole_61 hl (k := 1) rfl (by rw [ey_39]; rfl) (by decide) rfl (fun ls hl => ?_)
              refine lv_goto (tgt := 16) hx hb dX12_isWhole_64 (by decide) ?_
              exact ih_21 y_39 y_38 _ _ _ (by omega) (by first | with_reducible assumption | omega | assumption) (by first | with_reducible assumption | omega | assumption) (by first | with_reducible assumption | omega | assumption) hP  hS (lv_sub hl [0, 1, 2] rfl)
