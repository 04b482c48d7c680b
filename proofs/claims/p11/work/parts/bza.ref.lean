section
set_option maxHeartbeats 4000000 in
set_option maxRecDepth 100000 in
theorem c_X12_mostOf2 (l : Launch) (D : va_G) (cy : Nat → ClassId) (sz : Nat) (mo : Nat) (g5 : Nat) (g6 : Nat) (g7 : Nat) (g8 : Nat) (g9 : Nat) (g10 : Nat) (g12 : Nat) (g13 : Nat) (g14 : Nat) (g15 : Nat) (g16 : Nat) (g17 : Nat) (g18 : Nat) (g19 : Nat) (g20 : Nat) (g22 : Nat) (g23 : Nat) (g24 : Nat) (g29 : Nat) (g30 : Nat) (g31 : Nat) (g32 : Nat) (g33 : Nat) (s0 : Int32) (s1 : Int32) (s3 : Int32) (s4 : Int32) (s11 : Int32) (s21 : Int32) (s25 : Int32) (s26 : Int32) (s27 : Int32) (s28 : Int32) (t2 : Int64) (f5 : Nat → Int32) (f6 : Nat → Int32) (f7 : Nat → Int32) (f8 : Nat → Int32) (f10 : Nat → Int32) (a1 : Int32) (a2 : Int32) (hN : 0 ≤ s4.toInt ∧ s4.toInt ≤ 40) (hPl : 0 ≤ s3.toInt ∧ s3.toInt ≤ 12) (hnet : netE s3.toInt s4.toInt f6 f7 f10) (q1 : 0 ≤ a1.toInt ∧ a1.toInt < s3.toInt) (q2 : 0 ≤ a2.toInt ∧ a2.toInt < s3.toInt) (r_f6 : rng f6 40 (0) (11)) (r_f7 : rng f7 40 (0) (11)) (r_f8 : rng f8 40 (0) (2000)) : Met l yX12_mostOf wsX12_mostOf ({ frames := 3, cells := 0, slots := 0, locals := 71 }) (va_Pc [.ref mo, .int a1, .int a2] (fun U => U.heap.size = sz ∧ va_P D vwCl [ob12_0_ mo s0 s1 t2 s3 s4 g5 g6 g7 g8 g9 g10 s11 g12 g13 g14 g15 g16 g17 g18 g19 g20 s21 g22 g23 g24 s25 s26 s27 s28 g29 g30 g31 g32 g33, ai_ cy g5 40 f5, ai_ cy g6 40 f6, ai_ cy g7 40 f7, ai_ cy g8 40 f8, az_ cy g10 40 f10] U.heap ∧ kk_ D cy U ∧ va_D (fun _ => True) [ob12_0_ mo s0 s1 t2 s3 s4 g5 g6 g7 g8 g9 g10 s11 g12 g13 g14 g15 g16 g17 g18 g19 g20 s21 g22 g23 g24 s25 s26 s27 s28 g29 g30 g31 g32 g33, ai_ cy g5 40 f5, ai_ cy g6 40 f6, ai_ cy g7 40 f7, ai_ cy g8 40 f8, az_ cy g10 40 f10])) (va_Qi (fun (r : Int32) (_ : Unit) => (mstM (cutR f5 f6 f7 f8 f10 s21.toInt s4.toNatClampNeg) a1.toNatClampNeg a2.toNatClampNeg r.toInt)) (fun (_ : Unit) (_ : State) => True) (va_A [] sz)) 0 0 (va_A [] sz) := by
  refine ofQ (cc := cX12_mostOf) (maxL := 6) (ret := (some .int)) (by decide) rfl ?_
  intro p e s m args below meth c s₁ Q hQ B hml hv
  obtain ⟨rfl, hsz, hP, hK, hD0⟩ := hv
  have hx := B.exec
  have hb := B.bytes
  have hr := B.returns
  have hts := atoms_spec (ws := wsX12_mostOf) B.pre
  have hown : s.vm.findClass RX12 = some m.cls := by have h_ := findClass_of_methodNamed B.named; exact h_
  have hlocks := B.notSynchronized
  subst hsz
  have hD : va_D (va_A [] s.heap.size) [] := dd_nil
  generalize hAe : va_A [] s.heap.size = A at hD hQ
  have hA : ∀ q : Nat, s.heap.size ≤ q → A q := fun q h => by rw [← hAe]; exact Or.inr h
  have hS : va_S A s.heap s.heap [] := va_S.rf
  have hl := lv_entry ([.ref mo, .int a1, .int a2]) (n := 6) (Nat.le_of_ble_eq_true rfl)
  rw [lg_entry_eq]
  generalize (lg_sl ([.ref mo, .int a1, .int a2]) ++ List.replicate (6 - (lg_sl ([.ref mo, .int a1, .int a2])).length) Slot.unset).toArray = ls at hl ⊢
  have hl : lv_has ls 6 [(0, .ref mo), (1, .int a1), (2, .int a2)] := hl
  have z0 : (0 : Int32).toInt = 0 := by decide
  have z1 : (1 : Int32).toInt = 1 := by decide
  have z1000000 : (1000000 : Int32).toInt = 1000000 := by decide
  refine lv_ldc (v := 1000000) hx hb hown (hts (.constant RX12 159 (1000000)) (List.mem_of_getElem? (i := 1) rfl)) dB_3_1_46.1.1.1.1 ?_
  refine lv_istore_n (lv' := [(3, .int 1000000), (0, .ref mo), (1, .int a1), (2, .int a2)]) hx hb dB_3_1_46.1.1.1.2 rfl hl (by decide) rfl (fun ls hl => ?_)
  refine lv_iconst (v := 0) hx hb dB_3_1_46.1.1.2.1 (by decide) ?_
  refine lv_istore (lv' := [(4, .int 0), (3, .int 1000000), (0, .ref mo), (1, .int a1), (2, .int a2)]) hx hb dB_3_1_46.1.1.2.2 hl (by decide) rfl (fun ls hl => ?_)
  suffices LOOP_1 : ∀ (n_1 : Nat) (x4_1 : Int32) (x3_1 : Int32) (H : Heap) (locs : List Loc) (ls : Array Slot), 4096 - x4_1.toInt < (n_1 : Int) → (0 ≤ x4_1.toInt) → (x4_1.toInt ≤ 4096) → (mstW (cutR f5 f6 f7 f8 f10 s21.toInt s4.toNatClampNeg) a1.toNatClampNeg a2.toNatClampNeg x3_1.toInt x4_1.toInt) → va_P D vwCl [ob12_0_ mo s0 s1 t2 s3 s4 g5 g6 g7 g8 g9 g10 s11 g12 g13 g14 g15 g16 g17 g18 g19 g20 s21 g22 g23 g24 s25 s26 s27 s28 g29 g30 g31 g32 g33, ai_ cy g5 40 f5, ai_ cy g6 40 f6, ai_ cy g7 40 f7, ai_ cy g8 40 f8, az_ cy g10 40 f10] H → va_S A s.heap H locs → lv_has ls 6 [(4, .int x4_1), (3, .int x3_1), (0, .ref mo), (1, .int a1), (2, .int a2)] → W p l e ({ frames := 3, cells := 0, slots := 0, locals := 71 } : Room) s m (([.ref mo, .int a1, .int a2] : List Value).toArray) below meth c H locs 0 0 Q (F0 m 6 ls []) from LOOP_1 ((4096 - (0 : Int32).toInt).toNat + 1) (0 : Int32) (1000000 : Int32) _ _ _ (by omega) (by first | with_reducible assumption | omega | assumption) (by first | with_reducible assumption | omega | assumption) (by first | exact mstW_0 | exact mstW_st v_none (by omega) (by omega) ⟨b_tr hbs_ (by omega), bt_fl hbt_ (by omega)⟩ hsz_ (by omega) | exact mstW_no v_none (by omega) (by omega) (fun h => absurd ((bt_fl hbs_ (by omega)).symm.trans h.1) (by decide)) | exact mstW_no v_none (by omega) (by omega) (fun h => absurd ((bt_nz hbt_ (by omega)).symm.trans h.2) (by decide))) hP hS (lv_sub hl [0, 1, 2, 3, 4] rfl)
  intro n_1
  induction n_1 with
  | zero =>
    intro x4_1 x3_1 H locs ls hm v0_1 v1_1 v2_1 hP hS hl
    exact absurd hm (by omega)
  | succ n_1 ih_1 =>
    intro x4_1 x3_1 H locs ls hm v0_1 v1_1 v2_1 hP hS hl
    refine lv_iload hx hb dB_3_1_46.1.2.1.1 (lv_at hl 0 rfl) ?_
    refine lv_iconst (v := 1) hx hb dB_3_1_46.1.2.1.2 (by decide) ?_
    refine lv_aload_n hx hb dB_3_1_46.1.2.2.1 rfl (lv_at hl 2 rfl) ?_
    refine va_get (ci := 12) (v := .int s3) (C := RX12) (T := TX12) (N := 34) hx hb hts (fun _ h => List.mem_cons_of_mem _ (List.mem_append_right _ h)) hown hK.1 hP 0 rfl rfl 3 (by decide) (hts (.fieldLink RX12 88 "CutAtlasModel" "places" "I") (List.mem_of_getElem? (i := 2) rfl)) (fun _ h9 => h9) rfl dB_3_1_46.1.2.2.2 ?_
    refine lv_ishl hx hb dB_3_1_46.2.1.1.1 ?_
    refine lv_topi (fun y_2 ey_2 => ?_)
    have ty_2 : (1 ≤ y_2.toInt ∧ y_2.toInt ≤ 4096) ∧ y_2.toInt = ((2 ^ s3.toNatClampNeg : Nat) : Int) := ⟨by rw [ey_2]; exact shl1 (by omega) (by omega), shl_E (by omega) ey_2⟩
    refine lv_icmp_ge (tgt := 63) hx hb dB_3_1_46.2.1.1.2 (by decide) (fun c_3 => ?_) (fun c_3 => ?_)
    · have t_3 : y_2.toInt ≤ x4_1.toInt := Int32.le_iff_toInt_le.mp c_3
      refine lv_iload_n hx hb dB_3_1_48.2.2.1 rfl (lv_at hl 1 rfl) ?_
      rw [hQ]
      exact W.iret (v := x3_1) hx hb hr (fun t ht hW => ⟨⟨x3_1, (), rfl, (mstW_end v2_1 hPl (by omega) (nc_lt (by omega) (by omega)) (nc_lt (by omega) (by omega)) (fun S T h => cutR_set hnet r_f6 r_f7 hN.2 hPl.1 h)), trivial⟩, hS.F ht⟩) hS.2.2 dB_3_1_48.2.2.2
    · have t_3 : ¬ y_2.toInt ≤ x4_1.toInt := fun h => c_3 (Int32.le_iff_toInt_le.mpr h)
      refine lv_iload hx hb dB_3_1_46.2.1.2.1 (lv_at hl 0 rfl) ?_
      refine lv_iload_n hx hb dB_3_1_46.2.1.2.2 rfl (lv_at hl 3 rfl) ?_
      refine lv_ishr hx hb dB_3_1_46.2.2.1.1 ?_
      refine lv_topi (fun y_4 ey_4 => ?_)
      refine lv_iconst (v := 1) hx hb dB_3_1_46.2.2.1.2 (by decide) ?_
      refine lv_iand hx hb dB_3_1_46.2.2.2.1 ?_
      refine lv_topi (fun y_5 ey_5 => ?_)
      have hbs_ := bI_w (x := x4_1) (y := a1) (by omega) (by omega) ey_4 ey_5
      refine lv_iconst (v := 1) hx hb dB_3_1_46.2.2.2.2 (by decide) ?_
      refine lv_icmp_ne (tgt := 57) hx hb dB_3_1_47.1.1.1.1 (by decide) (fun c_6 => ?_) (fun c_6 => ?_)
      · have t_6 : ¬ y_5.toInt = (1 : Int32).toInt := fun h => c_6 (Int32.toInt_inj.mp h)
        obtain ⟨y_7, ey_7⟩ : ∃ y : Int32, y = x4_1 + 1 := ⟨_, rfl⟩
        have ty_7 : y_7.toInt = x4_1.toInt + (1 : Int32).toInt := by rw [ey_7]; exact addI (by omega) (by omega)
        refine lv_iinc (v := y_7) (lv' := [(4, .int y_7), (3, .int x3_1), (0, .ref mo), (1, .int a1), (2, .int a2)]) hx hb dB_3_1_48.1.2.2 hl (k := 0) rfl (by rw [ey_7]; rfl) (by decide) rfl (fun ls hl => ?_)
        refine lv_goto (tgt := 6) hx hb dB_3_1_48.2.1 (by decide) ?_
        exact ih_1 y_7 x3_1 _ _ _ (by omega) (by first | with_reducible assumption | omega | assumption) (by first | with_reducible assumption | omega | assumption) (by first | exact mstW_0 | exact mstW_st v2_1 (by omega) (by omega) ⟨b_tr hbs_ (by omega), bt_fl hbt_ (by omega)⟩ hsz_ (by omega) | exact mstW_no v2_1 (by omega) (by omega) (fun h => absurd ((bt_fl hbs_ (by omega)).symm.trans h.1) (by decide)) | exact mstW_no v2_1 (by omega) (by omega) (fun h => absurd ((bt_nz hbt_ (by omega)).symm.trans h.2) (by decide))) hP hS (lv_sub hl [0, 1, 2, 3, 4] rfl)
      · have t_6 : y_5.toInt = (1 : Int32).toInt := congrArg Int32.toInt c_6
        refine lv_iload hx hb dB_3_1_47.1.1.1.2 (lv_at hl 0 rfl) ?_
        refine lv_iload_n hx hb dB_3_1_47.1.1.2.1 rfl (lv_at hl 4 rfl) ?_
        refine lv_ishr hx hb dB_3_1_47.1.1.2.2 ?_
        refine lv_topi (fun y_8 ey_8 => ?_)
        refine lv_iconst (v := 1) hx hb dB_3_1_47.1.2.1.1 (by decide) ?_
        refine lv_iand hx hb dB_3_1_47.1.2.1.2 ?_
        refine lv_topi (fun y_9 ey_9 => ?_)
        have hbt_ := bI_w (x := x4_1) (y := a2) (by omega) (by omega) ey_8 ey_9
        refine lv_if_ne (tgt := 57) hx hb dB_3_1_47.1.2.2.1 (by decide) (fun c_10 => ?_) (fun c_10 => ?_)
        · have t_10 : ¬ y_9.toInt = (0 : Int32).toInt := fun h => c_10 (Int32.toInt_inj.mp h)
          obtain ⟨y_11, ey_11⟩ : ∃ y : Int32, y = x4_1 + 1 := ⟨_, rfl⟩
          have ty_11 : y_11.toInt = x4_1.toInt + (1 : Int32).toInt := by rw [ey_11]; exact addI (by omega) (by omega)
          refine lv_iinc (v := y_11) (lv' := [(4, .int y_11), (3, .int x3_1), (0, .ref mo), (1, .int a1), (2, .int a2)]) hx hb dB_3_1_48.1.2.2 hl (k := 0) rfl (by rw [ey_11]; rfl) (by decide) rfl (fun ls hl => ?_)
          refine lv_goto (tgt := 6) hx hb dB_3_1_48.2.1 (by decide) ?_
          exact ih_1 y_11 x3_1 _ _ _ (by omega) (by first | with_reducible assumption | omega | assumption) (by first | with_reducible assumption | omega | assumption) (by first | exact mstW_0 | exact mstW_st v2_1 (by omega) (by omega) ⟨b_tr hbs_ (by omega), bt_fl hbt_ (by omega)⟩ hsz_ (by omega) | exact mstW_no v2_1 (by omega) (by omega) (fun h => absurd ((bt_fl hbs_ (by omega)).symm.trans h.1) (by decide)) | exact mstW_no v2_1 (by omega) (by omega) (fun h => absurd ((bt_nz hbt_ (by omega)).symm.trans h.2) (by decide))) hP hS (lv_sub hl [0, 1, 2, 3, 4] rfl)
        · have t_10 : y_9.toInt = (0 : Int32).toInt := congrArg Int32.toInt c_10
          refine lv_aload_n hx hb dB_3_1_47.1.2.2.2 rfl (lv_at hl 2 rfl) ?_
          refine lv_iload hx hb dB_3_1_47.2.1.1.1 (lv_at hl 0 rfl) ?_
          refine ct_R hP hD0 [ob12_0_ mo s0 s1 t2 s3 s4 g5 g6 g7 g8 g9 g10 s11 g12 g13 g14 g15 g16 g17 g18 g19 g20 s21 g22 g23 g24 s25 s26 s27 s28 g29 g30 g31 g32 g33, ai_ cy g5 40 f5, ai_ cy g6 40 f6, ai_ cy g7 40 f7, ai_ cy g8 40 f8, az_ cy g10 40 f10] [0, 1, 2, 3, 4, 5] (by decide) rfl (fun hPc hDw => ?_)
          have hFc := va_free (wc := []) hD hS hA [] rfl
          refine va_calli (va_runV (As := [.int x4_1]) (rest := []) ⟨hx, hb, hml, hown, hts⟩ (c_X12_sizeOf2 l D cy H.size mo g5 g6 g7 g8 g9 g10 g12 g13 g14 g15 g16 g17 g18 g19 g20 g22 g23 g24 g29 g30 g31 g32 g33 s0 s1 s3 s4 s11 s21 s25 s26 s27 s28 t2 f5 f6 f7 f8 f10 x4_1 (by first | with_reducible assumption | omega | assumption) (by first | with_reducible assumption | assumption | omega) (by first | with_reducible assumption | assumption | omega) (by first | with_reducible assumption | assumption | omega)) (cwV 1 hts gX12_mostOf_X12_sizeOf rfl rfl rfl ⟨rfl, hd_X12_sizeOf⟩ ⟨Nat.le_of_ble_eq_true rfl, Nat.le_of_ble_eq_true rfl⟩) ⟨bl_, va_recvX hK.1 hP (ci := 12) (q0 := 0) rfl rfl, fun U hU hW => ⟨rfl, by rw [hU], by rw [hU]; exact hPc, kk_mv hW hK, hDw⟩⟩ rfl rfl hl.1 rfl (lv_room (Nat.le_of_ble_eq_true rfl)) dB_3_1_47.2.1.1.2 ⟨Nat.le_of_ble_eq_true rfl, Nat.le_of_ble_eq_true rfl⟩) hS (fun q _ h => hFc q h) hFc (fun r_12 u t H locs ht hvm hw hB hz1 hk1 hS => ?_)
          have hP : va_P D vwCl _ H := ro_keep hP hk1
          have f0_r_12 := hw
          have hsz_ := f0_r_12
          refine lv_istore (lv' := [(5, .int r_12), (4, .int x4_1), (3, .int x3_1), (0, .ref mo), (1, .int a1), (2, .int a2)]) hx hb dB_3_1_47.2.1.2.1 hl (by decide) rfl (fun ls hl => ?_)
          refine lv_iload hx hb dB_3_1_47.2.1.2.2 (lv_at hl 0 rfl) ?_
          refine lv_iload_n hx hb dB_3_1_47.2.2.1.1 rfl (lv_at hl 2 rfl) ?_
          refine lv_icmp_ge (tgt := 55) hx hb dB_3_1_47.2.2.1.2 (by decide) (fun c_13 => ?_) (fun c_13 => ?_)
          · have t_13 : x3_1.toInt ≤ r_12.toInt := Int32.le_iff_toInt_le.mp c_13
            refine lv_iload_n hx hb dB_3_1_48.1.1 rfl (lv_at hl 2 rfl) ?_
            refine lv_istore_n (lv' := [(3, .int x3_1), (5, .int r_12), (4, .int x4_1), (0, .ref mo), (1, .int a1), (2, .int a2)]) hx hb dB_3_1_48.1.2.1 rfl hl (by decide) rfl (fun ls hl => ?_)
            obtain ⟨y_14, ey_14⟩ : ∃ y : Int32, y = x4_1 + 1 := ⟨_, rfl⟩
            have ty_14 : y_14.toInt = x4_1.toInt + (1 : Int32).toInt := by rw [ey_14]; exact addI (by omega) (by omega)
            refine lv_iinc (v := y_14) (lv' := [(4, .int y_14), (3, .int x3_1), (5, .int r_12), (0, .ref mo), (1, .int a1), (2, .int a2)]) hx hb dB_3_1_48.1.2.2 hl (k := 2) rfl (by rw [ey_14]; rfl) (by decide) rfl (fun ls hl => ?_)
            refine lv_goto (tgt := 6) hx hb dB_3_1_48.2.1 (by decide) ?_
            exact ih_1 y_14 x3_1 _ _ _ (by omega) (by first | with_reducible assumption | omega | assumption) (by first | with_reducible assumption | omega | assumption) (by first | exact mstW_0 | exact mstW_st v2_1 (by omega) (by omega) ⟨b_tr hbs_ (by omega), bt_fl hbt_ (by omega)⟩ hsz_ (by omega) | exact mstW_no v2_1 (by omega) (by omega) (fun h => absurd ((bt_fl hbs_ (by omega)).symm.trans h.1) (by decide)) | exact mstW_no v2_1 (by omega) (by omega) (fun h => absurd ((bt_nz hbt_ (by omega)).symm.trans h.2) (by decide))) hP hS (lv_sub hl [0, 1, 3, 4, 5] rfl)
          · have t_13 : ¬ x3_1.toInt ≤ r_12.toInt := fun h => c_13 (Int32.le_iff_toInt_le.mpr h)
            refine lv_iload hx hb dB_3_1_47.2.2.2.1 (lv_at hl 0 rfl) ?_
            refine lv_goto (tgt := 56) hx hb dB_3_1_47.2.2.2.2 (by decide) ?_
            refine lv_istore_n (lv' := [(3, .int r_12), (5, .int r_12), (4, .int x4_1), (0, .ref mo), (1, .int a1), (2, .int a2)]) hx hb dB_3_1_48.1.2.1 rfl hl (by decide) rfl (fun ls hl => ?_)
            obtain ⟨y_15, ey_15⟩ : ∃ y : Int32, y = x4_1 + 1 := ⟨_, rfl⟩
            have ty_15 : y_15.toInt = x4_1.toInt + (1 : Int32).toInt := by rw [ey_15]; exact addI (by omega) (by omega)
            refine lv_iinc (v := y_15) (lv' := [(4, .int y_15), (3, .int r_12), (5, .int r_12), (0, .ref mo), (1, .int a1), (2, .int a2)]) hx hb dB_3_1_48.1.2.2 hl (k := 2) rfl (by rw [ey_15]; rfl) (by decide) rfl (fun ls hl => ?_)
            refine lv_goto (tgt := 6) hx hb dB_3_1_48.2.1 (by decide) ?_
            exact ih_1 y_15 r_12 _ _ _ (by omega) (by first | with_reducible assumption | omega | assumption) (by first | with_reducible assumption | omega | assumption) (by first | exact mstW_0 | exact mstW_st v2_1 (by omega) (by omega) ⟨b_tr hbs_ (by omega), bt_fl hbt_ (by omega)⟩ hsz_ (by omega) | exact mstW_no v2_1 (by omega) (by omega) (fun h => absurd ((bt_fl hbs_ (by omega)).symm.trans h.1) (by decide)) | exact mstW_no v2_1 (by omega) (by omega) (fun h => absurd ((bt_nz hbt_ (by omega)).symm.trans h.2) (by decide))) hP hS (lv_sub hl [0, 1, 3, 4, 5] rfl)
end

section
section NF_
variable {C : (Nat → Bool) → Int} {L M : Nat → Nat → Int} {P s t : Nat} {m : Int} {S : Nat → Bool}
end NF_
theorem cutF_fun {vp vn P N : Int32} {fk fs fe fw fp f5 f6 f7 f8 f9 f10 : Nat → Int32} {r : Int} (h : nrel vp vn fk fs fe fw fp P N f5 f6 f7 f8 f9 f10) (r6 : rng f6 40 0 11) (hN : 0 ≤ N.toInt ∧ N.toInt ≤ 40) : cutF fk fs fe fw r vn.toNatClampNeg = cutR f5 f6 f7 f8 f10 r N.toNatClampNeg := funext (fun _ => cut_same h r6 hN)
end

section
section GH
variable {C : (Nat → Bool) → Int} {P s t : Nat} {p p2 : Nat → Nat} {q q2 : Nat → Int} {X : Nat → Bool}
end GH
/-- underway from a and b -/
noncomputable def low (lm : Nat → Nat → Int) (a b x y : Nat) (m : Int) : Prop := (x = y → m = lm a b) ∧ (x ≠ y → (m < lm x y ∧ m = lm a b) ∨ (lm x y ≤ m ∧ lm x y = lm a b))
section LOW
variable {lm : Nat → Nat → Int} {P a b x y : Nat} {p : Nat → Nat} {q : Nat → Int} {d : Nat → Nat} {m m2 : Int}
end LOW
end

section
/-! lines have two ends: both sides' nets, and the kept ones -/
noncomputable def netD (N : Int) (f6 f7 f10 : Nat → Int32) : Prop := ∀ j : Nat, (j : Int) < N → (f10 j).toInt = 0 → (f6 j).toInt ≠ (f7 j).toInt
noncomputable def netDC (N : Int) (fs fe : Nat → Int32) : Prop := ∀ j : Nat, (j : Int) < N → (fs j).toInt ≠ -9 → (fs j).toInt ≠ (fe j).toInt
noncomputable def pstD (U : Int) (f13 f14 : Nat → Int32) : Prop := ∀ k : Nat, (k : Int) < U → ∀ j : Nat, (j : Int) < (f13 k).toInt → (f14 (200 * k + 5 * j + 4)).toInt < 1000 → (f14 (200 * k + 5 * j + 1)).toInt ≠ (f14 (200 * k + 5 * j + 2)).toInt
theorem netDC_rel {vp vn P N : Int32} {fk fs fe fw fp f5 f6 f7 f8 f9 f10 : Nat → Int32} (h : nrel vp vn fk fs fe fw fp P N f5 f6 f7 f8 f9 f10) (hn : netD N.toInt f6 f7 f10) : netDC vn.toInt fs fe := fun j hj hm => by
  rw [h.2.1] at hj
  obtain ⟨_, _, _, a4, a5⟩ := h.2.2 j hj
  have z : (f10 j).toInt = 0 := Decidable.of_not_not (fun w => absurd (a4 w).1 hm)
  obtain ⟨x, y⟩ := a5 z
  rw [x, y]
  exact hn j hj z
section PND
variable {P N n4 a b k w p : Int32} {f5 f6 f7 f8 f9 f10 e5 e6 e7 e8 e9 e10 f12 f13 f14 e12 e13 e14 : Nat → Int32} {U U2 c : Int}
theorem kept_D (h : kept P N f5 f6 f7 f8 f9 f10 U f12 f13 f14 U2 e12 e13 e14) (hn : netD N.toInt f6 f7 f10) (hp : pstD U f13 f14) (hN : N.toInt ≤ 40) (r9 : rng f9 40 0 100) (r13 : rng f13 30 0 40) (hU : 0 ≤ U) : pstD U2 e13 e14 := by
  obtain ⟨m, d, h2, hd, hk, hP, hN2, he⟩ := h
  intro k hk2 j hj h4
  by_cases q : k = m
  · subst q
    rw [hN2] at hj
    obtain ⟨a0, a1, a2, a3, a4⟩ := he j (by omega)
    rw [a4] at h4
    rw [a1, a2]
    refine hn j hj ?_
    have b := r9 j (by omega)
    by_cases z : (f10 j).toInt ≠ 0
    · rw [if_pos z] at h4
      omega
    · omega
  · obtain ⟨a1, a2, a3⟩ := hk k (by omega)
    rw [a2] at hj
    have b := r13 (k + d) (by omega)
    have c1 := a3 (5 * j + 1) (by omega)
    have c2 := a3 (5 * j + 2) (by omega)
    have c4 := a3 (5 * j + 4) (by omega)
    rw [show 200 * k + 5 * j + 4 = 200 * k + (5 * j + 4) by omega, c4] at h4
    rw [show 200 * k + 5 * j + 1 = 200 * k + (5 * j + 1) by omega, c1, show 200 * k + 5 * j + 2 = 200 * k + (5 * j + 2) by omega, c2]
    exact hp (k + d) (by omega) j hj h4
theorem kptd_D (h : kptd c P N f5 f6 f7 f8 f9 f10 U f12 f13 f14 U2 e12 e13 e14) (hn : netD N.toInt f6 f7 f10) (hp : pstD U f13 f14) (hN : N.toInt ≤ 40) (r9 : rng f9 40 0 100) (r13 : rng f13 30 0 40) (hU : 0 ≤ U) : pstD U2 e13 e14 := by
  by_cases z : c = 0
  · exact kept_D (h.1 z) hn hp hN r9 r13 hU
  · obtain ⟨a, _, b, d⟩ := h.2 z
    rw [a, b, d]
    exact hp
theorem netD_line {k a b w p : Int32} {Pl : Int} (hn : netD N.toInt f6 f7 f10) (h0 : 0 ≤ N.toInt) (h : (lnI k.toInt a.toInt b.toInt w.toInt p.toInt Pl N.toInt = 0 → adR N f5 f6 f7 f8 f9 f10 k a b w p n4 e5 e6 e7 e8 e9 e10) ∧ (lnI k.toInt a.toInt b.toInt w.toInt p.toInt Pl N.toInt ≠ 0 → n4 = N ∧ e5 = f5 ∧ e6 = f6 ∧ e7 = f7 ∧ e8 = f8 ∧ e9 = f9 ∧ e10 = f10)) : netD n4.toInt e6 e7 e10 := by
  have c := clI (i := N) h0
  by_cases z : lnI k.toInt a.toInt b.toInt w.toInt p.toInt Pl N.toInt = 0
  · obtain ⟨b1, _, b3, b4, _, _, b7⟩ := h.1 z
    have ab : a.toInt ≠ b.toInt := by
      unfold lnI at z
      split at z
      · omega
      · rename_i q
        intro e
        apply q
        intro g
        omega
    intro j hj h10
    rw [b3, b4]
    rw [b7] at h10
    by_cases q : j = N.toNatClampNeg
    · rw [q, pk_us, pk_us]
      exact ab
    · rw [pk_un q] at h10
      rw [pk_un q, pk_un q]
      exact hn j (by omega) h10
  · obtain ⟨b1, _, b3, b4, _, _, b7⟩ := h.2 z
    rw [b1, b3, b4, b7]
    exact hn
theorem netD_merge {lo hi : Int} {s3 n3 : Int32} {c : Int} (hn : netD N.toInt f6 f7 f10) (h : (c = 0 → n3.toInt = s3.toInt - 1 ∧ mrgd lo hi f6 f7 f10 e6 e7 e10 N.toInt) ∧ (c ≠ 0 → n3 = s3 ∧ e6 = f6 ∧ e7 = f7 ∧ e10 = f10)) : netD N.toInt e6 e7 e10 := by
  by_cases z : c = 0
  · obtain ⟨_, m1, _⟩ := h.1 z
    intro j hj h10
    obtain ⟨x, y⟩ := m1 j hj
    by_cases q : (f10 j).toInt = 0
    · obtain ⟨y1, y2, y3⟩ := y q
      rw [y3] at h10
      rw [y1, y2]
      intro e
      rw [if_pos e] at h10
      omega
    · obtain ⟨x1, x2, x3⟩ := x q
      rw [x3] at h10
      exact absurd h10 q
  · obtain ⟨_, a, b, d⟩ := h.2 z
    rw [a, b, d]
    exact hn
theorem netD_undo {s3 s4 s11 n3 m4 n11 : Int32} (hn : netD s4.toInt f6 f7 f10) (hp : pstD s11.toInt f13 f14) (hU : 0 ≤ s11.toInt) (h40 : m4.toInt ≤ 40) (h : (s11.toInt = 0 → n3 = s3 ∧ m4 = s4 ∧ e5 = f5 ∧ e6 = f6 ∧ e7 = f7 ∧ e8 = f8 ∧ e9 = f9 ∧ e10 = f10 ∧ n11 = s11) ∧ (s11.toInt ≠ 0 → n11.toInt = s11.toInt - 1 ∧ n3 = f12 n11.toNatClampNeg ∧ m4 = f13 n11.toNatClampNeg ∧ ∀ j : Nat, j < 40 → back f14 (200 * n11.toNatClampNeg) e5 e6 e7 e8 e9 e10 j)) : netD m4.toInt e6 e7 e10 ∧ pstD n11.toInt f13 f14 := by
  by_cases z : s11.toInt = 0
  · obtain ⟨_, b2, _, b4, b5, _, _, b8, b9⟩ := h.1 z
    rw [b2, b4, b5, b8, b9]
    exact ⟨hn, hp⟩
  · obtain ⟨b1, _, b3, b4⟩ := h.2 z
    have c := clI (i := n11) (by omega)
    refine ⟨fun j hj h10 => ?_, fun k hk => hp k (by omega)⟩
    obtain ⟨_, c2, c3, _, _, c6⟩ := b4 j (by omega)
    rw [c2, c3]
    rw [c6] at h10
    refine hp n11.toNatClampNeg (by omega) j (by rw [← b3]; exact hj) ?_
    by_cases q : 999 < (f14 (200 * n11.toNatClampNeg + 5 * j + 4)).toInt
    · rw [if_pos q] at h10
      omega
    · omega
theorem netD_rd {U11 : Int} {cc : Int} {f18 f19 : Nat → Int32} {f19l : Nat → Int64} {A : Nat} {P3 rows st : Int} (hn : netD N.toInt f6 f7 f10) (h0 : 0 ≤ N.toInt) (hP : P3 ≤ 12) (hr : rdn (rwR f18 f19l A P3) N.toInt rows cc st) (ha : apR N.toInt cc f5 f6 f7 f8 f9 f10 e5 e6 e7 e8 e9 e10 f19l (30 * A)) (e4 : n4.toInt = N.toInt + cc) : netD n4.toInt e6 e7 e10 := by
  intro j hj h10
  obtain ⟨⟨s5, s10⟩, ap⟩ := ha
  by_cases q : (j : Int) < N.toInt
  · obtain ⟨_, x, y, _, _⟩ := s5 j q
    rw [s10 j q] at h10
    rw [x, y]
    exact hn j q h10
  · obtain ⟨i, hi⟩ : ∃ i : Nat, j = N.toInt.toNat + i := ⟨j - N.toInt.toNat, by omega⟩
    obtain ⟨_, x, y, _, _, _⟩ := ap i (by omega)
    have w := hr.2.1 i (by omega)
    rw [hi, x, y]
    unfold rwR rdI lnI at w
    have cond : (0 ≤ (f19l (30 * A + 5 * i + 1)).toInt ∧ (f19l (30 * A + 5 * i + 1)).toInt < P3) ∧ (0 ≤ (f19l (30 * A + 5 * i + 2)).toInt ∧ (f19l (30 * A + 5 * i + 2)).toInt < P3) ∧ (f19l (30 * A + 5 * i + 1)).toInt ≠ (f19l (30 * A + 5 * i + 2)).toInt := by
      split at w
      · omega
      · split at w
        · omega
        · split at w
          · omega
          · rename_i g
            have g2 := Decidable.of_not_not g
            exact ⟨g2.2.1, g2.2.2.1, g2.2.2.2.1⟩
    rw [l2iI (by omega) (by omega), l2iI (by omega) (by omega)]
    exact cond.2.2
theorem kpn_D {n : Int} (h : kpn n P N f5 f6 f7 f8 f9 f10 U f12 f13 f14 U2 e12 e13 e14 n4 e5 e6 e7 e8 e9 e10) (hn : netD N.toInt f6 f7 f10) (hp : pstD U f13 f14) (hN : N.toInt ≤ 40) (r9 : rng f9 40 0 100) (r13 : rng f13 30 0 40) (hU : 0 ≤ U) : pstD U2 e13 e14 ∧ (n = 0 → netD n4.toInt e6 e7 e10) := by
  by_cases z : n = 0
  · obtain ⟨a1, _, a3, a4, a5, _, a7, a8, _, _, a11⟩ := h.1 z
    rw [a1, a3, a4, a5, a7, a8, a11]
    exact ⟨hp, fun _ => hn⟩
  · exact ⟨kept_D (h.2 z) hn hp hN r9 r13 hU, fun w => absurd w z⟩
end PND
theorem netD_read {P N n4 n1 a s11 n11 : Int32} {f5 f6 f7 f8 f9 f10 e5 e6 e7 e8 e9 e10 f12 f13 f14 e12 e13 e14 f15 f17 f18 : Nat → Int32} {f19 : Nat → Int64} (hn : netD N.toInt f6 f7 f10) (hp : pstD s11.toInt f13 f14) (hN : 0 ≤ N.toInt ∧ N.toInt ≤ 40) (hP : P.toInt ≤ 12) (r9 : rng f9 40 0 100) (r13 : rng f13 30 0 40) (hU : 0 ≤ s11.toInt) (h : (¬ (0 ≤ a.toInt ∧ a.toInt < 4) → n1.toInt = -1 ∧ kpn 0 P N f5 f6 f7 f8 f9 f10 s11.toInt f12 f13 f14 n11.toInt e12 e13 e14 n4 e5 e6 e7 e8 e9 e10) ∧ ((0 ≤ a.toInt ∧ a.toInt < 4) → (f15 a.toNatClampNeg).toInt = 0 → n1.toInt = -11 ∧ kpn 0 P N f5 f6 f7 f8 f9 f10 s11.toInt f12 f13 f14 n11.toInt e12 e13 e14 n4 e5 e6 e7 e8 e9 e10) ∧ ((0 ≤ a.toInt ∧ a.toInt < 4) → (f15 a.toNatClampNeg).toInt ≠ 0 → ∃ c : Int, rdn (rwR f18 f19 a.toNatClampNeg P.toInt) N.toInt (f17 a.toNatClampNeg).toInt c n1.toInt ∧ kpn c P N f5 f6 f7 f8 f9 f10 s11.toInt f12 f13 f14 n11.toInt e12 e13 e14 n4 e5 e6 e7 e8 e9 e10 ∧ apR N.toInt c f5 f6 f7 f8 f9 f10 e5 e6 e7 e8 e9 e10 f19 (30 * a.toNatClampNeg) ∧ n4.toInt = N.toInt + c)) : netD n4.toInt e6 e7 e10 ∧ pstD n11.toInt e13 e14 := by
  by_cases w : 0 ≤ a.toInt ∧ a.toInt < 4
  · by_cases z : (f15 a.toNatClampNeg).toInt = 0
    · have k := kpn_D (h.2.1 w z).2 hn hp hN.2 r9 r13 hU
      exact ⟨k.2 rfl, k.1⟩
    · obtain ⟨c, b1, b2, b3, b4⟩ := h.2.2 w z
      have k := kpn_D b2 hn hp hN.2 r9 r13 hU
      exact ⟨netD_rd (f19 := f18) (U11 := 0) hn hN.1 hP b1 b3 b4, k.1⟩
  · have k := kpn_D (h.1 w).2 hn hp hN.2 r9 r13 hU
    exact ⟨k.2 rfl, k.1⟩
end

section
/-! ===== the search, as both sides do it ===== -/
noncomputable def mmq (q : Nat → Nat) (n y : Nat) : Prop := ∃ i : Nat, i < n ∧ q i = y
/-- place q h looks at k; n places are met, t is not -/
noncomputable def stK (R : Nat → Nat → Prop) (t P h k : Nat) (X : (Nat → Nat) → Nat → (Nat → Nat) → Prop) (q : Nat → Nat) (n : Nat) (c : Nat → Nat) : Prop := (X q n c ∧ k < P ∧ h < n ∧ (mmq q n k ∨ ¬ R (q h) k)) ∨ ∃ (q0 : Nat → Nat) (n0 : Nat) (c0 : Nat → Nat), X q0 n0 c0 ∧ k < P ∧ h < n0 ∧ ¬ mmq q0 n0 k ∧ R (q0 h) k ∧ k ≠ t ∧ n = n0 + 1 ∧ (∀ i : Nat, i < n0 → q i = q0 i) ∧ q n0 = k ∧ (∀ y : Nat, y ≠ k → c y = c0 y) ∧ c k = q0 h
noncomputable def rwK (R : Nat → Nat → Prop) (t P h : Nat) (X : (Nat → Nat) → Nat → (Nat → Nat) → Prop) : Nat → (Nat → Nat) → Nat → (Nat → Nat) → Prop
  | 0 => X
  | k + 1 => stK R t P h k (rwK R t P h X k)
noncomputable def hdK (R : Nat → Nat → Prop) (t P s : Nat) : Nat → (Nat → Nat) → Nat → (Nat → Nat) → Prop
  | 0 => fun q n _ => n = 1 ∧ q 0 = s
  | h + 1 => rwK R t P h (hdK R t P s h) P
/-- place q h looks at places below k; n places are met, t is not -/
noncomputable def bsr (R : Nat → Nat → Prop) (P s t h k : Nat) (q : Nat → Nat) (n : Nat) (c : Nat → Nat) : Prop := rwK R t P h (hdK R t P s h) k q n c
section BSR
variable {R : Nat → Nat → Prop} {P s t : Nat}
theorem bsr.one {q c : Nat → Nat} (e : q 0 = s) : bsr R P s t 0 0 q 1 c := ⟨rfl, e⟩
theorem bsr.old {h k n : Nat} {q c : Nat → Nat} (b : bsr R P s t h k q n c) (hk : k < P) (hh : h < n) (ho : mmq q n k ∨ ¬ R (q h) k) : bsr R P s t h (k + 1) q n c := Or.inl ⟨b, hk, hh, ho⟩
theorem bsr.new {h k n : Nat} {q c q2 c2 : Nat → Nat} (b : bsr R P s t h k q n c) (hk : k < P) (hh : h < n) (hm : ¬ mmq q n k) (hr : R (q h) k) (ht : k ≠ t) (e1 : ∀ i : Nat, i < n → q2 i = q i) (e2 : q2 n = k) (e3 : ∀ y : Nat, y ≠ k → c2 y = c y) (e4 : c2 k = q h) : bsr R P s t h (k + 1) q2 (n + 1) c2 := Or.inr ⟨q, n, c, b, hk, hh, hm, hr, ht, rfl, e1, e2, e3, e4⟩
theorem bsr.nxt {h n : Nat} {q c : Nat → Nat} (b : bsr R P s t h P q n c) : bsr R P s t (h + 1) 0 q n c := b
theorem bsr_S {h k n : Nat} {q c : Nat → Nat} (b : bsr R P s t h (k + 1) q n c) : (bsr R P s t h k q n c ∧ k < P ∧ h < n ∧ (mmq q n k ∨ ¬ R (q h) k)) ∨ ∃ (q0 : Nat → Nat) (n0 : Nat) (c0 : Nat → Nat), bsr R P s t h k q0 n0 c0 ∧ k < P ∧ h < n0 ∧ ¬ mmq q0 n0 k ∧ R (q0 h) k ∧ k ≠ t ∧ n = n0 + 1 ∧ (∀ i : Nat, i < n0 → q i = q0 i) ∧ q n0 = k ∧ (∀ y : Nat, y ≠ k → c y = c0 y) ∧ c k = q0 h := b
theorem bsr_ind (X : Nat → Nat → (Nat → Nat) → Nat → (Nat → Nat) → Prop) (one : ∀ q c : Nat → Nat, q 0 = s → X 0 0 q 1 c)
    (old : ∀ (h k n : Nat) (q c : Nat → Nat), bsr R P s t h k q n c → k < P → h < n → (mmq q n k ∨ ¬ R (q h) k) → X h k q n c → X h (k + 1) q n c)
    (new : ∀ (h k n : Nat) (q c q2 c2 : Nat → Nat), bsr R P s t h k q n c → k < P → h < n → ¬ mmq q n k → R (q h) k → k ≠ t → (∀ i : Nat, i < n → q2 i = q i) → q2 n = k → (∀ y : Nat, y ≠ k → c2 y = c y) → c2 k = q h → X h k q n c → X h (k + 1) q2 (n + 1) c2)
    (nxt : ∀ (h n : Nat) (q c : Nat → Nat), bsr R P s t h P q n c → X h P q n c → X (h + 1) 0 q n c) : ∀ (h k n : Nat) (q c : Nat → Nat), bsr R P s t h k q n c → X h k q n c := by
  have row : ∀ h : Nat, (∀ (n : Nat) (q c : Nat → Nat), bsr R P s t h 0 q n c → X h 0 q n c) → ∀ (k n : Nat) (q c : Nat → Nat), bsr R P s t h k q n c → X h k q n c := fun h h0 k => by
    induction k with
    | zero => exact h0
    | succ k ih =>
      intro n q c b
      rcases bsr_S b with ⟨b, hk, hh, ho⟩ | ⟨q0, n0, c0, b, hk, hh, hm, hr, ht, en, e1, e2, e3, e4⟩
      · exact old h k n q c b hk hh ho (ih n q c b)
      · rw [en]
        exact new h k n0 q0 c0 q c b hk hh hm hr ht e1 e2 e3 e4 (ih n0 q0 c0 b)
  intro h
  induction h with
  | zero =>
    refine row 0 (fun n q c b => ?_)
    have b' : n = 1 ∧ q 0 = s := b
    rw [b'.1]
    exact one q c b'.2
  | succ h ih => exact row (h + 1) (fun n q c b => nxt h n q c b (ih P n q c b))
theorem mmq_cg {q q2 : Nat → Nat} {n y : Nat} (h : ∀ i : Nat, i < n → q i = q2 i) : mmq q n y ↔ mmq q2 n y := by
  constructor
  · rintro ⟨i, hi, e⟩
    exact ⟨i, hi, by rw [← h i hi]; exact e⟩
  · rintro ⟨i, hi, e⟩
    exact ⟨i, hi, by rw [h i hi]; exact e⟩
theorem bsr_pos {h k n : Nat} {q c : Nat → Nat} (b : bsr R P s t h k q n c) : 1 ≤ n ∧ q 0 = s ∧ (∀ i j : Nat, i < j → j < n → q i ≠ q j) ∧ (∀ i : Nat, 0 < i → i < n → q i ≠ t) := by
  refine bsr_ind (fun _ _ q n _ => 1 ≤ n ∧ q 0 = s ∧ (∀ i j : Nat, i < j → j < n → q i ≠ q j) ∧ (∀ i : Nat, 0 < i → i < n → q i ≠ t)) ?_ ?_ ?_ ?_ h k n q c b
  · exact fun q c e => ⟨Nat.le_refl _, e, fun i j h1 h2 => by omega, fun i h1 h2 => by omega⟩
  · exact fun _ _ _ _ _ _ _ _ _ ih => ih
  · intro h0 k0 n0 q0 c0 q9 c9 b hk hh hm hr ht e1 e2 e3 e4 ih
    obtain ⟨a1, a2, a3, a4⟩ := ih
    refine ⟨by omega, by rw [e1 0 (by omega)]; exact a2, fun i j h1 h2 => ?_, fun i h1 h2 => ?_⟩
    · by_cases z : j = n0
      · rw [z, e2, e1 i (by omega)]
        exact fun g => hm ⟨i, by omega, g⟩
      · rw [e1 i (by omega), e1 j (by omega)]
        exact a3 i j h1 (by omega)
    · by_cases z : i = n0
      · rw [z, e2]
        exact ht
      · rw [e1 i (by omega)]
        exact a4 i h1 (by omega)
  · exact fun _ _ _ _ _ ih => ih
/-- one state at each step -/
theorem bsr_un {h k n : Nat} {q c : Nat → Nat} (b : bsr R P s t h k q n c) : ∀ (n2 : Nat) (q2 c2 : Nat → Nat), bsr R P s t h k q2 n2 c2 → n = n2 ∧ (∀ i : Nat, i < n → q i = q2 i) ∧ ∀ i : Nat, 0 < i → i < n → c (q i) = c2 (q i) := by
  refine bsr_ind (fun h k q n c => ∀ (n2 : Nat) (q2 c2 : Nat → Nat), bsr R P s t h k q2 n2 c2 → n = n2 ∧ (∀ i : Nat, i < n → q i = q2 i) ∧ ∀ i : Nat, 0 < i → i < n → c (q i) = c2 (q i)) ?_ ?_ ?_ ?_ h k n q c b
  · intro q c e n2 q2 c2 b2
    have b' : n2 = 1 ∧ q2 0 = s := b2
    refine ⟨b'.1.symm, fun i hi => ?_, fun i h1 h2 => by omega⟩
    rw [show i = 0 by omega, e, b'.2]
  · intro h k n q c b hk hh0 ho ih n2 q2 c2 b2
    rcases bsr_S b2 with ⟨b2, _, _, _⟩ | ⟨q7, n7, c7, b2, _, hh, hm, hr, _, en, _, _, _, _⟩
    · exact ih _ _ _ b2
    · obtain ⟨a1, a2, _⟩ := ih _ _ _ b2
      subst a1
      rcases ho with g | g
      · exact absurd ((mmq_cg a2).mp g) hm
      · exact absurd (by rw [a2 _ hh]; exact hr) g
  · intro h0 k0 n0 q0 c0 q9 c9 b hk hh hm hr ht e1 e2 e3 e4 ih n2 q2 c2 b2
    rcases bsr_S b2 with ⟨b2, _, _, ho⟩ | ⟨q7, n7, c7, b2, _, hh2, hm2, hr2, _, en, d1, d2, d3, d4⟩
    · obtain ⟨a1, a2, _⟩ := ih _ _ _ b2
      subst a1
      rcases ho with g | g
      · exact absurd ((mmq_cg a2).mpr g) hm
      · exact absurd (by rw [← a2 _ hh]; exact hr) g
    · obtain ⟨a1, a2, a3⟩ := ih _ _ _ b2
      subst a1
      refine ⟨en.symm, fun i hi => ?_, fun i h1 h2 => ?_⟩
      · by_cases z : i = n0
        · rw [z, e2, d2]
        · rw [e1 i (by omega), d1 i (by omega)]
          exact a2 i (by omega)
      · by_cases z : i = n0
        · rw [z, e2, e4, d4]
          exact a2 _ hh
        · rw [e1 i (by omega), e3 _ (fun g => hm ⟨i, by omega, g⟩), d3 _ (fun g => hm ⟨i, by omega, g⟩)]
          exact a3 i h1 (by omega)
  · exact fun h n q c b ih n2 q2 c2 b2 => ih n2 q2 c2 b2
theorem bsr_pre {h2 k2 n2 : Nat} {q2 c2 : Nat → Nat} (b : bsr R P s t h2 k2 q2 n2 c2) : ∀ h k : Nat, (h < h2 ∧ k ≤ P) ∨ (h = h2 ∧ k ≤ k2) → ∃ (q : Nat → Nat) (n : Nat) (c : Nat → Nat), bsr R P s t h k q n c ∧ n ≤ n2 := by
  refine bsr_ind (fun h2 k2 _ n2 _ => ∀ h k : Nat, (h < h2 ∧ k ≤ P) ∨ (h = h2 ∧ k ≤ k2) → ∃ (q : Nat → Nat) (n : Nat) (c : Nat → Nat), bsr R P s t h k q n c ∧ n ≤ n2) ?_ ?_ ?_ ?_ h2 k2 n2 q2 c2 b
  · intro q c e h k hk
    have h0 : h = 0 ∧ k = 0 := by omega
    rw [h0.1, h0.2]
    exact ⟨q, 1, c, bsr.one e, Nat.le_refl _⟩
  · intro h0 k0 n0 q0 c0 b hk hh0 ho ih h k hh
    by_cases z : h = h0 ∧ k = k0 + 1
    · rw [z.1, z.2]
      exact ⟨q0, n0, c0, bsr.old b hk hh0 ho, Nat.le_refl _⟩
    · exact ih h k (by omega)
  · intro h0 k0 n0 q0 c0 q9 c9 b hk hh hm hr ht e1 e2 e3 e4 ih h k hg
    by_cases z : h = h0 ∧ k = k0 + 1
    · rw [z.1, z.2]
      exact ⟨q9, n0 + 1, c9, bsr.new b hk hh hm hr ht e1 e2 e3 e4, Nat.le_refl _⟩
    · obtain ⟨q, n, c, w, g⟩ := ih h k (by omega)
      exact ⟨q, n, c, w, by omega⟩
  · intro h0 n0 q0 c0 b ih h k hg
    by_cases z : h = h0 + 1 ∧ k = 0
    · rw [z.1, z.2]
      exact ⟨q0, n0, c0, bsr.nxt b, Nat.le_refl _⟩
    · exact ih h k (by omega)
theorem bsr_fr {h k n : Nat} {q c : Nat → Nat} (b : bsr R P s t h k q n c) : ∀ i : Nat, 0 < i → i < n → ∃ j : Nat, j < i ∧ c (q i) = q j := by
  refine bsr_ind (fun _ _ q n c => ∀ i : Nat, 0 < i → i < n → ∃ j : Nat, j < i ∧ c (q i) = q j) ?_ ?_ ?_ ?_ h k n q c b
  · exact fun _ _ _ i h1 h2 => by omega
  · exact fun _ _ _ _ _ _ _ _ _ ih => ih
  · intro h0 k0 n0 q0 c0 q9 c9 b hk hh hm hr ht e1 e2 e3 e4 ih i h1 h2
    by_cases z : i = n0
    · refine ⟨h0, by omega, ?_⟩
      rw [z, e2, e4, e1 h0 hh]
    · obtain ⟨j, hj, g⟩ := ih i h1 (by omega)
      refine ⟨j, hj, ?_⟩
      rw [e1 i (by omega), e3 _ (fun g => hm ⟨i, by omega, g⟩), e1 j (by omega)]
      exact g
  · exact fun _ _ _ _ _ ih => ih
/-- where t is found the search ends -/
theorem bsr_stop {h n n2 : Nat} {q c q2 c2 : Nat → Nat} (b : bsr R P s t h t q n c) (hh : h < n) (hm : ¬ mmq q n t) (hr : R (q h) t) (b2 : bsr R P s t h (t + 1) q2 n2 c2) : False := by
  rcases bsr_S b2 with ⟨b2, _, _, ho⟩ | ⟨_, _, _, _, _, _, _, _, ht, _⟩
  · obtain ⟨a1, a2, _⟩ := bsr_un b _ _ _ b2
    subst a1
    rcases ho with g | g
    · exact hm ((mmq_cg a2).mpr g)
    · exact g (by rw [← a2 h hh]; exact hr)
  · exact ht rfl
/-- t is found, c9 tells the way -/
noncomputable def fndR (R : Nat → Nat → Prop) (P s t : Nat) (c9 : Nat → Nat) : Prop := ∃ (h n : Nat) (q c : Nat → Nat), bsr R P s t h t q n c ∧ h < n ∧ t < P ∧ ¬ mmq q n t ∧ R (q h) t ∧ (∀ y : Nat, y ≠ t → c9 y = c y) ∧ c9 t = q h
/-- all is looked at, and t is not met -/
noncomputable def ndR (R : Nat → Nat → Prop) (P s t : Nat) : Prop := ∃ (h n : Nat) (q c : Nat → Nat), bsr R P s t h 0 q n c ∧ n ≤ h
theorem bsr_end {h2 k2 n2 : Nat} {q2 c2 : Nat → Nat} (b : bsr R P s t h2 k2 q2 n2 c2) : ∀ (h n : Nat) (q c : Nat → Nat), bsr R P s t h 0 q n c → n ≤ h → h ≤ h2 → n2 = n := by
  refine bsr_ind (fun h2 _ _ n2 _ => ∀ (h n : Nat) (q c : Nat → Nat), bsr R P s t h 0 q n c → n ≤ h → h ≤ h2 → n2 = n) ?_ ?_ ?_ ?_ h2 k2 n2 q2 c2 b
  · intro q0 c0 e h n q c w hn hh
    have h0 : h = 0 := by omega
    have := (bsr_pos w).1
    omega
  · exact fun _ _ _ _ _ _ _ _ _ ih => ih
  · intro h0 k0 n0 q0 c0 q9 c9 b hk hh hm hr ht e1 e2 e3 e4 ih h n q c w hn hg
    have := ih h n q c w hn hg
    omega
  · intro h0 n0 q0 c0 b ih h n q c w hn hg
    by_cases z : h = h0 + 1
    · rw [z] at w
      exact ((bsr_un w _ _ _ (bsr.nxt b)).1).symm
    · exact ih h n q c w hn (by omega)
theorem fnd_no {c9 : Nat → Nat} (hf : fndR R P s t c9) (hn : ndR R P s t) : False := by
  obtain ⟨h, n, q, c, b, hh, tP, hm, hr, _, _⟩ := hf
  obtain ⟨h2, n2, q2, c2, b2, g⟩ := hn
  rcases Nat.lt_or_ge h h2 with w | w
  · obtain ⟨q3, n3, c3, b3, _⟩ := bsr_pre b2 h (t + 1) (Or.inl ⟨w, by omega⟩)
    exact bsr_stop b hh hm hr b3
  · have := bsr_end b h2 n2 q2 c2 b2 g w
    omega
theorem fnd_un {c9 d9 : Nat → Nat} (h1 : fndR R P s t c9) (h2 : fndR R P s t d9) : ∃ (h n : Nat) (q : Nat → Nat), h < n ∧ q 0 = s ∧ c9 t = q h ∧ d9 t = q h ∧ t ≠ s ∧ (∀ i : Nat, i < n → q i ≠ t) ∧ (∀ i : Nat, 0 < i → i < n → c9 (q i) = d9 (q i)) ∧ ∀ i : Nat, 0 < i → i < n → ∃ j : Nat, j < i ∧ c9 (q i) = q j := by
  obtain ⟨h, n, q, c, b, hh, tP, hm, hr, e1, e2⟩ := h1
  obtain ⟨h', n', q', c', b', hh', tP', hm', hr', e1', e2'⟩ := h2
  have eh : h = h' := by
    rcases Nat.lt_trichotomy h h' with w | w | w
    · obtain ⟨q3, n3, c3, b3, _⟩ := bsr_pre b' h (t + 1) (Or.inl ⟨w, by omega⟩)
      exact (bsr_stop b hh hm hr b3).elim
    · exact w
    · obtain ⟨q3, n3, c3, b3, _⟩ := bsr_pre b h' (t + 1) (Or.inl ⟨w, by omega⟩)
      exact (bsr_stop b' hh' hm' hr' b3).elim
  subst eh
  obtain ⟨a1, a2, a3⟩ := bsr_un b _ _ _ b'
  subst a1
  have nt : ∀ i : Nat, i < n → q i ≠ t := fun i hi g => hm ⟨i, hi, g⟩
  have from_ := bsr_fr b
  have ps := bsr_pos b
  refine ⟨h, n, q, hh, ps.2.1, e2, by rw [e2', ← a2 h hh], fun g => nt 0 (by omega) (by rw [ps.2.1, g]), nt, fun i g1 g2 => ?_, fun i g1 g2 => ?_⟩
  · rw [e1 _ (nt i g2), e1' _ (nt i g2)]
    exact a3 i g1 g2
  · rw [e1 _ (nt i g2)]
    exact from_ i g1 g2
end BSR
/-! ===== sending over lines, as both sides do it ===== -/
/-- what line l lets more from x to y, F flowing -/
noncomputable def lfZ (r1 r0 g : Nat → Int) (s e : Nat → Nat) (F : Nat → Int) (x y l : Nat) : Int := if g l ≠ 0 then 0 else if s l = x ∧ e l = y then r1 l - F l else if s l = y ∧ e l = x then r0 l + F l else 0
noncomputable def mnZ (a b : Int) : Int := if a < b then a else b
/-- the line's flow behind it, with tk sent -/
noncomputable def fwZ (g : Nat → Int) (s e : Nat → Nat) (x y l : Nat) (v tk : Int) : Int := if g l ≠ 0 then v else if s l = x ∧ e l = y then v + tk else if s l = y ∧ e l = x then v - tk else v
/-- a is to be sent: what is left of it, and the flows, behind n lines -/
noncomputable def snA (r1 r0 g : Nat → Int) (s e : Nat → Nat) (F : Nat → Int) (x y : Nat) (a : Int) : Nat → Int
  | 0 => a
  | n + 1 => snA r1 r0 g s e F x y a n - mnZ (snA r1 r0 g s e F x y a n) (lfZ r1 r0 g s e F x y n)
noncomputable def snF (r1 r0 g : Nat → Int) (s e : Nat → Nat) (F : Nat → Int) (x y : Nat) (a : Int) (l : Nat) : Int := fwZ g s e x y l (F l) (mnZ (snA r1 r0 g s e F x y a l) (lfZ r1 r0 g s e F x y l))
section SN
variable {r1 r0 g : Nat → Int} {s e : Nat → Nat} {F : Nat → Int} {x y : Nat} {a : Int}
theorem snA_nn (ha : 0 ≤ a) : ∀ n : Nat, 0 ≤ snA r1 r0 g s e F x y a n
  | 0 => ha
  | n + 1 => by
    have h := snA_nn ha n
    show 0 ≤ snA r1 r0 g s e F x y a n - mnZ (snA r1 r0 g s e F x y a n) (lfZ r1 r0 g s e F x y n)
    unfold mnZ
    split <;> omega
theorem snA_0 (hl : ∀ l : Nat, 0 ≤ lfZ r1 r0 g s e F x y l) {n : Nat} (h : snA r1 r0 g s e F x y a n = 0) : ∀ d : Nat, snA r1 r0 g s e F x y a (n + d) = 0
  | 0 => h
  | d + 1 => by
    have i := snA_0 hl h d
    have b := hl (n + d)
    show snA r1 r0 g s e F x y a (n + d) - mnZ (snA r1 r0 g s e F x y a (n + d)) (lfZ r1 r0 g s e F x y (n + d)) = 0
    rw [i]
    unfold mnZ
    split <;> omega
/-- once nothing is left the flows stay -/
theorem snF_0 (hl : ∀ l : Nat, 0 ≤ lfZ r1 r0 g s e F x y l) {n l : Nat} (h : snA r1 r0 g s e F x y a n = 0) (hn : n ≤ l) : snF r1 r0 g s e F x y a l = F l := by
  have i := snA_0 hl h (l - n)
  rw [show n + (l - n) = l by omega] at i
  have b := hl l
  unfold snF
  rw [i]
  have z : mnZ 0 (lfZ r1 r0 g s e F x y l) = 0 := by
    unfold mnZ
    split <;> omega
  rw [z]
  unfold fwZ
  (repeat' split) <;> omega
/-- what was to be sent is sent -/
theorem snA_sum (hl : ∀ l : Nat, 0 ≤ lfZ r1 r0 g s e F x y l) (ha : 0 ≤ a) : ∀ n : Nat, snA r1 r0 g s e F x y a n = (if a < sumI (lfZ r1 r0 g s e F x y) n then 0 else a - sumI (lfZ r1 r0 g s e F x y) n)
  | 0 => by
    show a = if a < 0 then 0 else a - 0
    rw [if_neg (by omega)]
    omega
  | n + 1 => by
    have i := snA_sum hl ha n
    have b := hl n
    have q : sumI (lfZ r1 r0 g s e F x y) (n + 1) = sumI (lfZ r1 r0 g s e F x y) n + lfZ r1 r0 g s e F x y n := rfl
    show snA r1 r0 g s e F x y a n - mnZ (snA r1 r0 g s e F x y a n) (lfZ r1 r0 g s e F x y n) = _
    rw [q, i]
    unfold mnZ
    (repeat' split) <;> omega
/-- rooms behind it -/
theorem sn_lf (hxy : x ≠ y) {l u v : Nat} {tk : Int} {G : Nat → Int} (hG : G l = fwZ g s e x y l (F l) tk) (hse : g l = 0 → s l ≠ e l) : lfZ r1 r0 g s e G u v l = lfZ r1 r0 g s e F u v l + (if u = x ∧ v = y then -tk else if u = y ∧ v = x then tk else 0) * (if g l = 0 ∧ ((s l = x ∧ e l = y) ∨ (s l = y ∧ e l = x)) then 1 else 0) := by
  unfold lfZ
  rw [hG]
  unfold fwZ
  by_cases z : g l = 0
  · have hs := hse z
    have nz : ¬ g l ≠ 0 := fun w => w z
    by_cases p : s l = x ∧ e l = y
    · rw [if_neg nz, if_neg nz, if_neg nz, if_pos p, if_pos (show g l = 0 ∧ ((s l = x ∧ e l = y) ∨ (s l = y ∧ e l = x)) from ⟨z, Or.inl p⟩), p.1, p.2]
      by_cases q : x = u ∧ y = v
      · rw [if_pos q, if_pos q, if_pos ⟨q.1.symm, q.2.symm⟩]
        omega
      · rw [if_neg q, if_neg q, if_neg (show ¬ (u = x ∧ v = y) from fun w => q ⟨w.1.symm, w.2.symm⟩)]
        by_cases r : x = v ∧ y = u
        · rw [if_pos r, if_pos r, if_pos ⟨r.2.symm, r.1.symm⟩]
          omega
        · rw [if_neg r, if_neg r, if_neg (show ¬ (u = y ∧ v = x) from fun w => r ⟨w.2.symm, w.1.symm⟩)]
          omega
    · by_cases p2 : s l = y ∧ e l = x
      · rw [if_neg nz, if_neg nz, if_neg nz, if_neg p, if_pos p2, if_pos (show g l = 0 ∧ ((s l = x ∧ e l = y) ∨ (s l = y ∧ e l = x)) from ⟨z, Or.inr p2⟩), p2.1, p2.2]
        by_cases q : x = u ∧ y = v
        · rw [if_neg (fun w => hxy (by omega)), if_pos ⟨q.2, q.1⟩, if_neg (fun w => hxy (by omega)), if_pos ⟨q.2, q.1⟩, if_pos ⟨q.1.symm, q.2.symm⟩]
          omega
        · by_cases r : x = v ∧ y = u
          · rw [if_pos ⟨r.2, r.1⟩, if_pos ⟨r.2, r.1⟩, if_neg (fun w => q ⟨w.1.symm, w.2.symm⟩), if_pos ⟨r.2.symm, r.1.symm⟩]
            omega
          · rw [if_neg (fun w => r ⟨w.2, w.1⟩), if_neg (fun w => q ⟨w.2, w.1⟩), if_neg (fun w => r ⟨w.2, w.1⟩), if_neg (fun w => q ⟨w.2, w.1⟩), if_neg (fun w => q ⟨w.1.symm, w.2.symm⟩), if_neg (fun w => r ⟨w.2.symm, w.1.symm⟩)]
            omega
      · rw [if_neg nz, if_neg nz, if_neg nz, if_neg p, if_neg p2, if_neg (show ¬ (g l = 0 ∧ ((s l = x ∧ e l = y) ∨ (s l = y ∧ e l = x))) from fun w => by
          rcases w.2 with w | w
          · exact p w
          · exact p2 w)]
        omega
  · rw [if_pos z, if_pos z, if_neg (show ¬ (g l = 0 ∧ ((s l = x ∧ e l = y) ∨ (s l = y ∧ e l = x))) from fun w => z w.1)]
    omega
end SN
/-! ===== the class's search, step by step ===== -/
section STP
variable {R : Nat → Nat → Prop} {P s t : Nat} {h m m2 k k2 x : Int32} {q q2 c c2 : Nat → Int32}
theorem bsr_one {a : Int32} {c : Nat → Nat} {f : Nat → Int32} (e : f = upd q (0 : Int32).toNatClampNeg a) : bsr R P a.toNatClampNeg t (0 : Int32).toNatClampNeg 0 (nF f) (1 : Int32).toNatClampNeg c := by
  rw [cl_0, cl_1]
  refine bsr.one ?_
  unfold nF
  rw [e, ← cl_0, pk_us]
theorem bsr_nxt {P : Int32} {c : Nat → Nat} {n : Nat} {q : Nat → Nat} {h2 : Int32} (b : bsr R P.toNatClampNeg s t h.toNatClampNeg k.toNatClampNeg q n c) (hk : k.toInt = P.toInt) (h0 : 0 ≤ h.toInt) (e : h2.toInt = h.toInt + 1) : bsr R P.toNatClampNeg s t h2.toNatClampNeg 0 q n c := by
  have c1 := clI (i := h) h0
  have c2 := clI (i := h2) (by omega)
  rw [show k = P from Int32.toInt_inj.mp hk] at b
  rw [show h2.toNatClampNeg = h.toNatClampNeg + 1 by omega]
  exact bsr.nxt b
theorem bsr_old {P : Int32} {c : Nat → Nat} {n : Nat} {q : Nat → Nat} {hh : Nat} (b : bsr R P.toNatClampNeg s t hh k.toNatClampNeg q n c) (h0 : 0 ≤ k.toInt) (hk : k.toInt < P.toInt) (e : k2.toInt = k.toInt + 1) (lh : hh < n) (ho : mmq q n k.toNatClampNeg ∨ ¬ R (q hh) k.toNatClampNeg) : bsr R P.toNatClampNeg s t hh k2.toNatClampNeg q n c := by
  have c1 := clI (i := k) h0
  have c2 := clI (i := k2) (by omega)
  have cP := clI (i := P) (by omega)
  rw [show k2.toNatClampNeg = k.toNatClampNeg + 1 by omega]
  exact bsr.old b (by omega) lh ho
theorem bsr_new {P : Int32} {hh : Nat} (b : bsr R P.toNatClampNeg s t hh k.toNatClampNeg (nF q) m.toNatClampNeg (nF c)) (h0 : 0 ≤ k.toInt) (hk : k.toInt < P.toInt) (hm0 : 0 ≤ m.toInt) (lh : hh < m.toNatClampNeg) (hm : ¬ mmq (nF q) m.toNatClampNeg k.toNatClampNeg) (hr : R (nF q hh) k.toNatClampNeg) (ht : k.toNatClampNeg ≠ t) (eq : q2 = upd q m.toNatClampNeg k) (ec : c2 = upd c k.toNatClampNeg x) (ex : x = q hh) (em : m2.toInt = m.toInt + 1) (e : k2.toInt = k.toInt + 1) (_ : 0 ≤ k.toInt) : bsr R P.toNatClampNeg s t hh k2.toNatClampNeg (nF q2) m2.toNatClampNeg (nF c2) := by
  have c1 := clI (i := k) h0
  have c2' := clI (i := k2) (by omega)
  have cP := clI (i := P) (by omega)
  have cm := clI (i := m) hm0
  have cm2 := clI (i := m2) (by omega)
  rw [show k2.toNatClampNeg = k.toNatClampNeg + 1 by omega, show m2.toNatClampNeg = m.toNatClampNeg + 1 by omega]
  refine bsr.new b (by omega) lh hm hr ht (fun i hi => ?_) ?_ (fun y hy => ?_) ?_
  · unfold nF
    rw [eq, pk_un (by omega)]
  · unfold nF
    rw [eq, pk_us]
  · unfold nF
    rw [ec, pk_un hy]
  · unfold nF
    rw [ec, pk_us, ex]
theorem bfq_nm {R2 : Nat → Nat → Prop} {n y : Nat} {met : Int32} (H : bfq R2 P s met q n) (hun : bt met y = false) : ¬ mmq (nF q) n y := by
  rintro ⟨i, hi, e⟩
  have := (H.2.2.1 i hi).2
  rw [e, hun] at this
  cases this
theorem fnd_mk {P : Int32} {hh n : Nat} {tt : Int32} (b : bsr R P.toNatClampNeg s tt.toNatClampNeg hh k.toNatClampNeg (nF q) n (nF c)) (et : tt = k) (lh : hh < n) (hk : k.toNatClampNeg < P.toNatClampNeg) (hm : ¬ mmq (nF q) n k.toNatClampNeg) (hr : R (nF q hh) k.toNatClampNeg) (ec : c2 = upd c k.toNatClampNeg x) (ex : x = q hh) : fndR R P.toNatClampNeg s tt.toNatClampNeg (nF c2) := by
  rw [et] at b ⊢
  refine ⟨hh, n, nF q, nF c, b, lh, hk, hm, hr, fun y hy => ?_, ?_⟩
  · unfold nF
    rw [ec, pk_un hy]
  · unfold nF
    rw [ec, pk_us, ex]
end STP
theorem or_if {a b : Int32} (ha : a.toInt = 0 ∨ a.toInt = 1) (hb : b.toInt = 0 ∨ b.toInt = 1) : (a ||| b).toInt = if a.toInt = 1 ∨ b.toInt = 1 then 1 else 0 := by
  rcases ha with ha | ha <;> rcases hb with hb | hb
  · rw [show a = 0 from Int32.toInt_inj.mp ha, show b = 0 from Int32.toInt_inj.mp hb]
    decide
  · rw [show a = 0 from Int32.toInt_inj.mp ha, show b = 1 from Int32.toInt_inj.mp hb]
    decide
  · rw [show a = 1 from Int32.toInt_inj.mp ha, show b = 0 from Int32.toInt_inj.mp hb]
    decide
  · rw [show a = 1 from Int32.toInt_inj.mp ha, show b = 1 from Int32.toInt_inj.mp hb]
    decide
theorem met_s3 {q : Nat → Int32} {a v v2 b i i2 : Int32} (h : v.toInt ≠ 0 → ∃ j : Nat, (j : Int) < i.toInt ∧ (q j).toInt = a.toInt) (h0 : 0 ≤ i.toInt) (e : i2.toInt = i.toInt + 1) (hv : v.toInt = 0 ∨ v.toInt = 1) (hb : b.toInt = 0 ∨ b.toInt = 1) (ev : v2 = v ||| b) (hq : b.toInt = 1 → (q i.toNatClampNeg).toInt = a.toInt) : v2.toInt ≠ 0 → ∃ j : Nat, (j : Int) < i2.toInt ∧ (q j).toInt = a.toInt := fun w => by
  have c := clI (i := i) h0
  rw [ev, or_if hv hb] at w
  by_cases z : b.toInt = 1
  · exact ⟨i.toNatClampNeg, by omega, hq z⟩
  · obtain ⟨j, hj, g⟩ := h (fun y => w (if_neg (by omega)))
    exact ⟨j, by omega, g⟩
theorem nmt_s {q : Nat → Int32} {a v v2 b i i2 : Int32} (h : v.toInt = 0 → ∀ j : Nat, (j : Int) < i.toInt → (q j).toInt ≠ a.toInt) (h0 : 0 ≤ i.toInt) (e : i2.toInt = i.toInt + 1) (hv : v.toInt = 0 ∨ v.toInt = 1) (hb : b.toInt = 0 ∨ b.toInt = 1) (ev : v2 = v ||| b) (hq : b.toInt = 1 ∨ (q i.toNatClampNeg).toInt ≠ a.toInt) : v2.toInt = 0 → ∀ j : Nat, (j : Int) < i2.toInt → (q j).toInt ≠ a.toInt := fun w j hj => by
  have c := clI (i := i) h0
  rw [ev, or_if hv hb] at w
  by_cases z : v.toInt = 1 ∨ b.toInt = 1
  · rw [if_pos z] at w
    omega
  · by_cases y : j = i.toNatClampNeg
    · rw [y]
      omega
    · exact h (by omega) j (by omega)
theorem mmq_of {q : Nat → Int32} {m y : Int32} (h : ∃ j : Nat, (j : Int) < m.toInt ∧ (q j).toInt = y.toInt) : mmq (nF q) m.toNatClampNeg y.toNatClampNeg := by
  obtain ⟨j, hj, e⟩ := h
  have c : ((m.toNatClampNeg : Nat) : Int) = ((m.toInt.toNat : Nat) : Int) := rfl
  exact ⟨j, by omega, congrArg Int32.toNatClampNeg (Int32.toInt_inj.mp e)⟩
theorem mmq_no {q : Nat → Int32} {m y : Int32} (h : ∀ j : Nat, (j : Int) < m.toInt → (q j).toInt ≠ y.toInt) (h0 : 0 ≤ y.toInt) (hr : rng q 12 0 11) (hm : 0 ≤ m.toInt ∧ m.toInt ≤ 12) : ¬ mmq (nF q) m.toNatClampNeg y.toNatClampNeg := by
  rintro ⟨j, hj, e⟩
  have c := clI (i := m) hm.1
  have r := hr j (by omega)
  have c1 := clI (i := q j) r.1
  have c2 := clI (i := y) h0
  refine h j (by omega) ?_
  unfold nF at e
  omega
/-! ===== flows step by step ===== -/
/-- only lines below N are there -/
noncomputable def gN (N : Nat) (g : Nat → Int) (l : Nat) : Int := if l < N then g l else 1
/-- what lines let more from x to y, F flowing -/
noncomputable def rmF (r1 r0 g : Nat → Int) (st en : Nat → Nat) (N : Nat) (F : Nat → Int) (x y : Nat) : Int := sumI (lfZ r1 r0 g st en F x y) N
/-- the way's places, from its end -/
noncomputable def psW (c : Nat → Nat) (t : Nat) : Nat → Nat
  | 0 => t
  | n + 1 => c (psW c t n)
/-- a sent over the last n pairs of the way -/
noncomputable def flW (r1 r0 g : Nat → Int) (st en : Nat → Nat) (c : Nat → Nat) (t : Nat) (a : Int) (F : Nat → Int) : Nat → Nat → Int
  | 0 => F
  | n + 1 => snF r1 r0 g st en (flW r1 r0 g st en c t a F n) (psW c t (n + 1)) (psW c t n) a
noncomputable def wyN (c : Nat → Nat) (s t n : Nat) : Prop := psW c t n = s ∧ ∀ i : Nat, i < n → psW c t i ≠ s
/-- a is the least room on the way -/
noncomputable def lrW (M : Nat → Nat → Int) (c : Nat → Nat) (t n : Nat) (a : Int) : Prop := (∀ i : Nat, i < n → a ≤ M (psW c t (i + 1)) (psW c t i)) ∧ ∃ i : Nat, i < n ∧ a = M (psW c t (i + 1)) (psW c t i)
/-- one way more -/
noncomputable def stF (r1 r0 g : Nat → Int) (st en : Nat → Nat) (N P s t : Nat) (F F2 : Nat → Int) : Prop := ∃ (c : Nat → Nat) (n : Nat) (a : Int), fndR (rB (rmF r1 r0 g st en N F) 1) P s t c ∧ wyN c s t n ∧ lrW (rmF r1 r0 g st en N F) c t n a ∧ ∀ l : Nat, l < N → F2 l = flW r1 r0 g st en c t a F n l
/-- F is what flows after k ways -/
noncomputable def chF (r1 r0 g : Nat → Int) (st en : Nat → Nat) (N P s t : Nat) : Nat → (Nat → Int) → Prop
  | 0, F => ∀ l : Nat, l < N → F l = 0
  | k + 1, F2 => ∃ F : Nat → Int, chF r1 r0 g st en N P s t k F ∧ stF r1 r0 g st en N P s t F F2
theorem chF.zero {r1 r0 g : Nat → Int} {st en : Nat → Nat} {N P s t : Nat} {F : Nat → Int} (h : ∀ l : Nat, l < N → F l = 0) : chF r1 r0 g st en N P s t 0 F := h
theorem chF.step {r1 r0 g : Nat → Int} {st en : Nat → Nat} {N P s t k : Nat} {F F2 : Nat → Int} (h : chF r1 r0 g st en N P s t k F) (hs : stF r1 r0 g st en N P s t F F2) : chF r1 r0 g st en N P s t (k + 1) F2 := ⟨F, h, hs⟩
/-- and no way is left -/
noncomputable def enF (r1 r0 g : Nat → Int) (st en : Nat → Nat) (N P s t : Nat) (F : Nat → Int) : Prop := (∃ k : Nat, chF r1 r0 g st en N P s t k F) ∧ ndR (rB (rmF r1 r0 g st en N F) 1) P s t
section CH
variable {r1 r0 g r1' r0' g' : Nat → Int} {st en st' en' : Nat → Nat} {N P s t : Nat}
/-- two tellings of the same lines -/
noncomputable def lnS (r1 r0 g : Nat → Int) (st en : Nat → Nat) (r1' r0' g' : Nat → Int) (st' en' : Nat → Nat) (l : Nat) : Prop := (g l = 0 ↔ g' l = 0) ∧ (g l = 0 → r1 l = r1' l ∧ r0 l = r0' l ∧ st l = st' l ∧ en l = en' l)
theorem lfZ_cg {F G : Nat → Int} {x y l : Nat} (h : lnS r1 r0 g st en r1' r0' g' st' en' l) (e : F l = G l) : lfZ r1 r0 g st en F x y l = lfZ r1' r0' g' st' en' G x y l := by
  unfold lfZ
  by_cases z : g l = 0
  · obtain ⟨a1, a2, a3, a4⟩ := h.2 z
    have z' := h.1.mp z
    rw [if_neg (show ¬ g l ≠ 0 from fun q => q z), if_neg (show ¬ g' l ≠ 0 from fun q => q z'), a1, a2, a3, a4, e]
  · rw [if_pos (show g l ≠ 0 from z), if_pos (show g' l ≠ 0 from fun q => z (h.1.mpr q))]
theorem fwZ_cg {x y l : Nat} {v tk : Int} (h : lnS r1 r0 g st en r1' r0' g' st' en' l) : fwZ g st en x y l v tk = fwZ g' st' en' x y l v tk := by
  unfold fwZ
  by_cases z : g l = 0
  · obtain ⟨a1, a2, a3, a4⟩ := h.2 z
    have z' := h.1.mp z
    rw [if_neg (show ¬ g l ≠ 0 from fun q => q z), if_neg (show ¬ g' l ≠ 0 from fun q => q z'), a3, a4]
  · rw [if_pos (show g l ≠ 0 from z), if_pos (show g' l ≠ 0 from fun q => z (h.1.mpr q))]
theorem snA_cg {F G : Nat → Int} {x y : Nat} {a : Int} : ∀ n : Nat, (∀ l : Nat, l < n → lnS r1 r0 g st en r1' r0' g' st' en' l ∧ F l = G l) → snA r1 r0 g st en F x y a n = snA r1' r0' g' st' en' G x y a n
  | 0, _ => rfl
  | n + 1, h => by
    show snA r1 r0 g st en F x y a n - mnZ (snA r1 r0 g st en F x y a n) (lfZ r1 r0 g st en F x y n) = snA r1' r0' g' st' en' G x y a n - mnZ (snA r1' r0' g' st' en' G x y a n) (lfZ r1' r0' g' st' en' G x y n)
    rw [snA_cg n (fun l hl => h l (by omega)), lfZ_cg (h n (by omega)).1 (h n (by omega)).2]
theorem snF_cg {F G : Nat → Int} {x y l : Nat} {a : Int} (h : ∀ j : Nat, j ≤ l → lnS r1 r0 g st en r1' r0' g' st' en' j ∧ F j = G j) : snF r1 r0 g st en F x y a l = snF r1' r0' g' st' en' G x y a l := by
  unfold snF
  rw [snA_cg l (fun j hj => h j (by omega)), lfZ_cg (h l (Nat.le_refl l)).1 (h l (Nat.le_refl l)).2, fwZ_cg (h l (Nat.le_refl l)).1, (h l (Nat.le_refl l)).2]
theorem rmF_cg {F G : Nat → Int} (h : ∀ l : Nat, l < N → lnS r1 r0 g st en r1' r0' g' st' en' l ∧ F l = G l) : rmF r1 r0 g st en N F = rmF r1' r0' g' st' en' N G := by
  funext x y
  exact sumI_congr N (fun l hl => lfZ_cg (h l hl).1 (h l hl).2)
theorem flW_cg {F G : Nat → Int} {c : Nat → Nat} {a : Int} (h : ∀ l : Nat, l < N → lnS r1 r0 g st en r1' r0' g' st' en' l ∧ F l = G l) : ∀ (n l : Nat), l < N → flW r1 r0 g st en c t a F n l = flW r1' r0' g' st' en' c t a G n l
  | 0, l, hl => (h l hl).2
  | n + 1, l, hl => snF_cg (fun j hj => ⟨(h j (by omega)).1, flW_cg h n j (by omega)⟩)
theorem stF_cg {F G F2 G2 : Nat → Int} (hl : ∀ l : Nat, l < N → lnS r1 r0 g st en r1' r0' g' st' en' l) (h1 : ∀ l : Nat, l < N → F l = G l) (h2 : ∀ l : Nat, l < N → F2 l = G2 l) (h : stF r1 r0 g st en N P s t F F2) : stF r1' r0' g' st' en' N P s t G G2 := by
  obtain ⟨c, n, a, f1, f2, f3, f4⟩ := h
  have e := rmF_cg (st := st) (en := en) (st' := st') (en' := en') (F := F) (G := G) (fun l hl' => ⟨hl l hl', h1 l hl'⟩)
  rw [e] at f1 f3
  exact ⟨c, n, a, f1, f2, f3, fun l hl' => by rw [← h2 l hl', f4 l hl']; exact flW_cg (fun j hj => ⟨hl j hj, h1 j hj⟩) n l hl'⟩
theorem chF_cg {F : Nat → Int} (hl : ∀ l : Nat, l < N → lnS r1 r0 g st en r1' r0' g' st' en' l) {k : Nat} (h : chF r1 r0 g st en N P s t k F) : chF r1' r0' g' st' en' N P s t k F := by
  induction k generalizing F with
  | zero => exact h
  | succ k ih =>
    obtain ⟨F0, h0, hs⟩ := h
    exact ⟨F0, ih h0, stF_cg hl (fun _ _ => rfl) (fun _ _ => rfl) hs⟩
theorem enF_cg {F : Nat → Int} (hl : ∀ l : Nat, l < N → lnS r1 r0 g st en r1' r0' g' st' en' l) (h : enF r1 r0 g st en N P s t F) : enF r1' r0' g' st' en' N P s t F := by
  obtain ⟨⟨k, h⟩, hn⟩ := h
  refine ⟨⟨k, chF_cg hl h⟩, ?_⟩
  rw [← rmF_cg (F := F) (G := F) (fun l hl' => ⟨hl l hl', rfl⟩)]
  exact hn
theorem lnS_rfl {l : Nat} : lnS r1 r0 g st en r1 r0 g st en l := ⟨Iff.rfl, fun _ => ⟨rfl, rfl, rfl, rfl⟩⟩
/-- the same way, told by two -/
theorem way_un {R : Nat → Nat → Prop} {c d : Nat → Nat} {n m : Nat} (h1 : fndR R P s t c) (h2 : fndR R P s t d) (w1 : wyN c s t n) (w2 : wyN d s t m) : n = m ∧ ∀ i : Nat, i ≤ n → psW c t i = psW d t i := by
  obtain ⟨h, k, q, hk, q0, e1, e2, hts, hqt, hsm, hfr⟩ := fnd_un h1 h2
  have key : ∀ i : Nat, i ≤ n → i ≤ m → psW c t i = psW d t i ∧ (psW c t i = t ∨ ∃ j : Nat, j < k ∧ psW c t i = q j) := fun i => by
    induction i with
    | zero => exact fun _ _ => ⟨rfl, Or.inl rfl⟩
    | succ i ih =>
      intro hn hm
      obtain ⟨a, b⟩ := ih (by omega) (by omega)
      have ns := w1.2 i (by omega)
      show c (psW c t i) = d (psW d t i) ∧ (c (psW c t i) = t ∨ ∃ j : Nat, j < k ∧ c (psW c t i) = q j)
      rw [← a]
      rcases b with b | ⟨j, hj, b⟩
      · rw [b]
        exact ⟨e1.trans e2.symm, Or.inr ⟨h, hk, e1⟩⟩
      · have j0 : 0 < j := Nat.pos_of_ne_zero (fun z => ns (by rw [b, z, q0]))
        rw [b]
        obtain ⟨j2, hj2, e⟩ := hfr j j0 hj
        exact ⟨hsm j j0 hj, Or.inr ⟨j2, by omega, e⟩⟩
  have enm : n = m := by
    rcases Nat.lt_trichotomy n m with w | w | w
    · exact absurd ((key n (Nat.le_refl n) (by omega)).1.symm.trans w1.1) (w2.2 n w)
    · exact w
    · exact absurd ((key m (by omega) (Nat.le_refl m)).1.trans w2.1) (w1.2 m w)
  exact ⟨enm, fun i hi => (key i hi (by omega)).1⟩
theorem flW_way {c d : Nat → Nat} {a : Int} {F : Nat → Int} : ∀ n : Nat, (∀ i : Nat, i ≤ n → psW c t i = psW d t i) → flW r1 r0 g st en c t a F n = flW r1 r0 g st en d t a F n
  | 0, _ => rfl
  | n + 1, h => by
    show snF r1 r0 g st en (flW r1 r0 g st en c t a F n) (psW c t (n + 1)) (psW c t n) a = snF r1 r0 g st en (flW r1 r0 g st en d t a F n) (psW d t (n + 1)) (psW d t n) a
    rw [flW_way n (fun i hi => h i (by omega)), h (n + 1) (Nat.le_refl _), h n (by omega)]
theorem stF_un {F G F2 G2 : Nat → Int} (e : ∀ l : Nat, l < N → F l = G l) (h1 : stF r1 r0 g st en N P s t F F2) (h2 : stF r1 r0 g st en N P s t G G2) : ∀ l : Nat, l < N → F2 l = G2 l := by
  have h2' := stF_cg (G2 := G2) (fun l _ => lnS_rfl) (fun l hl => (e l hl).symm) (fun _ _ => rfl) h2
  obtain ⟨c, n, a, f1, f2, f3, f4⟩ := h1
  obtain ⟨d, m, b, k1, k2, k3, k4⟩ := h2'
  obtain ⟨enm, ep⟩ := way_un f1 k1 f2 k2
  subst enm
  have eab : a = b := by
    obtain ⟨i, hi, ei⟩ := f3.2
    obtain ⟨j, hj, ej⟩ := k3.2
    have x1 := f3.1 j hj
    have x2 := k3.1 i hi
    rw [ep (j + 1) (by omega), ep j (by omega), ← ej] at x1
    rw [← ep (i + 1) (by omega), ← ep i (by omega), ← ei] at x2
    omega
  subst eab
  intro l hl
  rw [f4 l hl, k4 l hl, flW_way n ep]
theorem ch_un {k : Nat} {F : Nat → Int} (h : chF r1 r0 g st en N P s t k F) : ∀ G : Nat → Int, chF r1 r0 g st en N P s t k G → ∀ l : Nat, l < N → F l = G l := by
  induction k generalizing F with
  | zero =>
    intro G hG l hl
    have a : F l = 0 := h l hl
    have b : G l = 0 := hG l hl
    rw [a, b]
  | succ k ih =>
    intro G hG
    obtain ⟨F0, h0, hs⟩ := h
    obtain ⟨G0, g0, gs⟩ := hG
    exact stF_un (ih h0 _ g0) hs gs
theorem ch_pre {k : Nat} {F : Nat → Int} (h : chF r1 r0 g st en N P s t k F) : ∀ m : Nat, m < k → ∃ G G2 : Nat → Int, chF r1 r0 g st en N P s t m G ∧ stF r1 r0 g st en N P s t G G2 := by
  induction k generalizing F with
  | zero => exact fun m hm => absurd hm (Nat.not_lt_zero _)
  | succ k ih =>
    intro m hm
    obtain ⟨F0, hc, hs⟩ := h
    by_cases e : m = k
    · rw [e]
      exact ⟨_, _, hc, hs⟩
    · exact ih hc m (by omega)
theorem en_lt {k m : Nat} {F G : Nat → Int} (h1 : chF r1 r0 g st en N P s t k F) (hn : ndR (rB (rmF r1 r0 g st en N F) 1) P s t) (h2 : chF r1 r0 g st en N P s t m G) (hk : k < m) : False := by
  obtain ⟨G1, G2, hG, hs⟩ := ch_pre h2 k hk
  have e := ch_un h1 _ hG
  obtain ⟨c, n, a, f1, _⟩ := stF_cg (F2 := G2) (G2 := G2) (G := F) (fun l _ => lnS_rfl) (fun l hl => (e l hl).symm) (fun _ _ => rfl) hs
  exact fnd_no f1 hn
theorem en_un {F G : Nat → Int} (h1 : enF r1 r0 g st en N P s t F) (h2 : enF r1 r0 g st en N P s t G) : ∀ l : Nat, l < N → F l = G l := by
  obtain ⟨⟨k, c1⟩, n1⟩ := h1
  obtain ⟨⟨m, c2⟩, n2⟩ := h2
  rcases Nat.lt_trichotomy k m with w | w | w
  · exact (en_lt c1 n1 c2 w).elim
  · subst w
    exact ch_un c1 _ c2
  · exact (en_lt c2 n2 c1 w).elim
end CH
/-! rooms that differ where nobody looks -/
section BCG
variable {R R2 : Nat → Nat → Prop} {P s t : Nat}
theorem bsr_P (hs : s < P) {h k n : Nat} {q c : Nat → Nat} (b : bsr R P s t h k q n c) : ∀ i : Nat, i < n → q i < P := by
  refine bsr_ind (fun _ _ q n _ => ∀ i : Nat, i < n → q i < P) ?_ ?_ ?_ ?_ h k n q c b
  · exact fun q c e i hi => by rw [show i = 0 by omega, e]; exact hs
  · exact fun _ _ _ _ _ _ _ _ _ ih => ih
  · intro h0 k0 n0 q0 c0 q9 c9 b hk hh hm hr ht e1 e2 e3 e4 ih i hi
    by_cases z : i = n0
    · rw [z, e2]
      exact hk
    · rw [e1 i (by omega)]
      exact ih i (by omega)
  · exact fun _ _ _ _ _ ih => ih
theorem bsr_cg (hs : s < P) (hR : ∀ x y : Nat, x < P → y < P → (R x y ↔ R2 x y)) {h k n : Nat} {q c : Nat → Nat} (b : bsr R P s t h k q n c) : bsr R2 P s t h k q n c := by
  refine bsr_ind (fun h k q n c => bsr R2 P s t h k q n c) ?_ ?_ ?_ ?_ h k n q c b
  · exact fun q c e => bsr.one e
  · exact fun h k n q c b hk hh ho ih => bsr.old ih hk hh (ho.elim Or.inl (fun w => Or.inr (fun r => w ((hR _ _ (bsr_P hs b _ hh) hk).mpr r))))
  · exact fun h k n q c q2 c2 b hk hh hm hr ht e1 e2 e3 e4 ih => bsr.new ih hk hh hm ((hR _ _ (bsr_P hs b _ hh) hk).mp hr) ht e1 e2 e3 e4
  · exact fun h n q c b ih => bsr.nxt ih
theorem fnd_cg (hs : s < P) (hR : ∀ x y : Nat, x < P → y < P → (R x y ↔ R2 x y)) {c9 : Nat → Nat} (h : fndR R P s t c9) : fndR R2 P s t c9 := by
  obtain ⟨h, n, q, c, b, hh, tP, hm, hr, e1, e2⟩ := h
  exact ⟨h, n, q, c, bsr_cg hs hR b, hh, tP, hm, (hR _ _ (bsr_P hs b _ hh) tP).mp hr, e1, e2⟩
theorem nd_cg (hs : s < P) (hR : ∀ x y : Nat, x < P → y < P → (R x y ↔ R2 x y)) (h : ndR R P s t) : ndR R2 P s t := by
  obtain ⟨h, n, q, c, b, hn⟩ := h
  exact ⟨h, n, q, c, bsr_cg hs hR b, hn⟩
end BCG
/-! ===== one pair of the way, over the lines ===== -/
/-- every line that is there carries no more than it lets -/
noncomputable def flK (r1 r0 g : Nat → Int) (F : Nat → Int) : Prop := ∀ l : Nat, g l = 0 → (0 ≤ r1 l ∧ r1 l ≤ 1000000) ∧ (0 ≤ r0 l ∧ r0 l ≤ 1000000) ∧ -(r0 l) ≤ F l ∧ F l ≤ r1 l
section SNI
variable {r1 r0 g : Nat → Int} {st en : Nat → Nat} {F G : Nat → Int} {x y N P : Nat} {a : Int}
theorem flK_lf (h : flK r1 r0 g F) (x y l : Nat) : 0 ≤ lfZ r1 r0 g st en F x y l := by
  unfold lfZ
  by_cases z : g l = 0
  · have b := h l z
    rw [if_neg (fun q => q z)]
    (repeat' split) <;> omega
  · rw [if_pos z]
    exact Int.le_refl 0
theorem mn_rng {p q : Int} (hp : 0 ≤ p) (hq : 0 ≤ q) : 0 ≤ mnZ p q ∧ mnZ p q ≤ q ∧ mnZ p q ≤ p := by
  unfold mnZ
  split <;> omega
theorem flK_sn (h : flK r1 r0 g F) (ha : 0 ≤ a) (hG : ∀ l : Nat, g l = 0 → G l = snF r1 r0 g st en F x y a l) : flK r1 r0 g G := fun l z => by
  have b := h l z
  refine ⟨b.1, b.2.1, ?_⟩
  rw [hG l z]
  have m := mn_rng (snA_nn (r1 := r1) (r0 := r0) (g := g) (s := st) (e := en) (F := F) (x := x) (y := y) ha l) (flK_lf (st := st) (en := en) h x y l)
  unfold snF
  generalize mnZ (snA r1 r0 g st en F x y a l) (lfZ r1 r0 g st en F x y l) = tk at m
  unfold fwZ
  unfold lfZ at m
  rw [if_neg (fun q => q z)]
  rw [if_neg (fun q => q z)] at m
  by_cases p : st l = x ∧ en l = y
  · rw [if_pos p] at m ⊢
    omega
  · rw [if_neg p] at m ⊢
    by_cases p2 : st l = y ∧ en l = x
    · rw [if_pos p2] at m ⊢
      omega
    · rw [if_neg p2] at m ⊢
      omega
/-- rooms behind it -/
theorem sn_rm0 (hk : flK r1 r0 g F) (hxy : x ≠ y) (ha : 0 ≤ a) (hse : ∀ l : Nat, g l = 0 → st l ≠ en l) {u v : Nat} : ∀ n : Nat, (∀ l : Nat, l < n → G l = snF r1 r0 g st en F x y a l) → sumI (lfZ r1 r0 g st en G u v) n = sumI (lfZ r1 r0 g st en F u v) n + (if u = x ∧ v = y then -(a - snA r1 r0 g st en F x y a n) else if u = y ∧ v = x then a - snA r1 r0 g st en F x y a n else 0)
  | 0, _ => by
    have e : snA r1 r0 g st en F x y a 0 = a := rfl
    rw [e]
    show (0 : Int) = 0 + _
    (repeat' split) <;> omega
  | n + 1, h => by
    have i := sn_rm0 hk hxy ha hse (u := u) (v := v) n (fun l hl => h l (by omega))
    have s := sn_lf (r1 := r1) (r0 := r0) hxy (u := u) (v := v) (h n (by omega)) (hse n)
    have nn := snA_nn (r1 := r1) (r0 := r0) (g := g) (s := st) (e := en) (F := F) (x := x) (y := y) ha n
    have e1 : snA r1 r0 g st en F x y a (n + 1) = snA r1 r0 g st en F x y a n - mnZ (snA r1 r0 g st en F x y a n) (lfZ r1 r0 g st en F x y n) := rfl
    have e2 : sumI (lfZ r1 r0 g st en G u v) (n + 1) = sumI (lfZ r1 r0 g st en G u v) n + lfZ r1 r0 g st en G u v n := rfl
    have e3 : sumI (lfZ r1 r0 g st en F u v) (n + 1) = sumI (lfZ r1 r0 g st en F u v) n + lfZ r1 r0 g st en F u v n := rfl
    rw [e1, e2, e3, i, s]
    by_cases m : g n = 0 ∧ ((st n = x ∧ en n = y) ∨ (st n = y ∧ en n = x))
    · rw [if_pos m]
      (repeat' split) <;> omega
    · have z : lfZ r1 r0 g st en F x y n = 0 := by
        unfold lfZ
        by_cases z : g n = 0
        · rw [if_neg (fun q => q z), if_neg (fun q => m ⟨z, Or.inl q⟩), if_neg (fun q => m ⟨z, Or.inr q⟩)]
        · rw [if_pos z]
      have z2 : mnZ (snA r1 r0 g st en F x y a n) 0 = 0 := by
        unfold mnZ
        split <;> omega
      rw [if_neg m, z, z2]
      (repeat' split) <;> omega
theorem sn_rm (hk : flK r1 r0 g F) (hxy : x ≠ y) (ha : 0 ≤ a) (hle : a ≤ rmF r1 r0 g st en N F x y) (hse : ∀ l : Nat, g l = 0 → st l ≠ en l) (hG : ∀ l : Nat, l < N → G l = snF r1 r0 g st en F x y a l) (u v : Nat) : rmF r1 r0 g st en N G u v = rmF r1 r0 g st en N F u v + (if x = u ∧ y = v then -a else 0) + (if y = u ∧ x = v then a else 0) := by
  have i := sn_rm0 hk hxy ha hse (u := u) (v := v) N hG
  have z := snA_sum (r1 := r1) (r0 := r0) (g := g) (s := st) (e := en) (F := F) (x := x) (y := y) (fun l => flK_lf hk x y l) ha N
  unfold rmF at hle ⊢
  have z0 : snA r1 r0 g st en F x y a N = 0 := by
    rw [z]
    split <;> omega
  rw [z0] at i
  rw [i]
  by_cases p : u = x ∧ v = y
  · rw [if_pos p, if_pos (show x = u ∧ y = v from ⟨p.1.symm, p.2.symm⟩), if_neg (show ¬ (y = u ∧ x = v) from fun q => hxy (by rw [← p.1]; exact q.1.symm))]
    omega
  · rw [if_neg p, if_neg (show ¬ (x = u ∧ y = v) from fun q => p ⟨q.1.symm, q.2.symm⟩)]
    by_cases p2 : u = y ∧ v = x
    · rw [if_pos p2, if_pos (show y = u ∧ x = v from ⟨p2.1.symm, p2.2.symm⟩)]
      omega
    · rw [if_neg p2, if_neg (show ¬ (y = u ∧ x = v) from fun q => p2 ⟨q.1.symm, q.2.symm⟩)]
      omega
theorem rmF_diag (hse : ∀ l : Nat, g l = 0 → st l ≠ en l) : rmF r1 r0 g st en N F x x = 0 := by
  unfold rmF
  refine (sumI_congr N (fun l _ => ?_)).trans (sumI_zero N)
  unfold lfZ
  by_cases z : g l = 0
  · have b := hse l z
    rw [if_neg (fun q => q z), if_neg (fun q => b (q.1.trans q.2.symm)), if_neg (fun q => b (q.1.trans q.2.symm))]
  · rw [if_pos z]
/-- the loop over lines: left of a, f behind n lines -/
noncomputable def snI (r1 r0 g : Nat → Int) (st en : Nat → Nat) (f4 f : Nat → Int32) (x y : Nat) (a left : Int) (n : Nat) : Prop := left = snA r1 r0 g st en (kF f4) x y a n ∧ (∀ l : Nat, l < n → kF f l = snF r1 r0 g st en (kF f4) x y a l) ∧ ∀ l : Nat, n ≤ l → f l = f4 l
theorem snI_0 {f4 : Nat → Int32} : snI r1 r0 g st en f4 f4 x y a a (0 : Int32).toNatClampNeg := by
  rw [cl_0]
  exact ⟨rfl, fun l hl => absurd hl (Nat.not_lt_zero l), fun _ _ => rfl⟩
theorem snI_st {f4 f f2 : Nat → Int32} {i i2 v : Int32} {left left2 : Int} (h : snI r1 r0 g st en f4 f x y a left i.toNatClampNeg) (h0 : 0 ≤ i.toInt) (ei : i2.toInt = i.toInt + 1) (e : f2 = upd f i.toNatClampNeg v) (hv : v.toInt = fwZ g st en x y i.toNatClampNeg (kF f4 i.toNatClampNeg) (mnZ left (lfZ r1 r0 g st en (kF f4) x y i.toNatClampNeg))) (el : left2 = left - mnZ left (lfZ r1 r0 g st en (kF f4) x y i.toNatClampNeg)) : snI r1 r0 g st en f4 f2 x y a left2 i2.toNatClampNeg := by
  have c1 := clI (i := i) h0
  have c2 := clI (i := i2) (by omega)
  obtain ⟨b1, b2, b3⟩ := h
  rw [show i2.toNatClampNeg = i.toNatClampNeg + 1 by omega]
  refine ⟨?_, fun l hl => ?_, fun l hl => ?_⟩
  · rw [el, b1]
    rfl
  · by_cases q : l = i.toNatClampNeg
    · rw [q]
      show (f2 i.toNatClampNeg).toInt = _
      rw [e, pk_us, hv, b1]
      rfl
    · have w := b2 l (by omega)
      rw [← w]
      show (f2 l).toInt = (f l).toInt
      rw [e, pk_un q]
  · rw [e, pk_un (by omega)]
    exact b3 l (by omega)
theorem snI_no {f4 f : Nat → Int32} {i i2 : Int32} {left : Int} (h : snI r1 r0 g st en f4 f x y a left i.toNatClampNeg) (h0 : 0 ≤ i.toInt) (ei : i2.toInt = i.toInt + 1) (hl : 0 ≤ left) (no : g i.toNatClampNeg ≠ 0 ∨ (¬ (st i.toNatClampNeg = x ∧ en i.toNatClampNeg = y) ∧ ¬ (st i.toNatClampNeg = y ∧ en i.toNatClampNeg = x))) : snI r1 r0 g st en f4 f x y a left i2.toNatClampNeg := by
  have c1 := clI (i := i) h0
  have c2 := clI (i := i2) (by omega)
  obtain ⟨b1, b2, b3⟩ := h
  have z : lfZ r1 r0 g st en (kF f4) x y i.toNatClampNeg = 0 := by
    unfold lfZ
    rcases no with q | q
    · rw [if_pos q]
    · rw [if_neg q.1, if_neg q.2]
      split <;> rfl
  have z2 : mnZ left 0 = 0 := by
    unfold mnZ
    split <;> omega
  rw [show i2.toNatClampNeg = i.toNatClampNeg + 1 by omega]
  refine ⟨?_, fun l hl => ?_, fun l hl => b3 l (by omega)⟩
  · show left = snA r1 r0 g st en (kF f4) x y a i.toNatClampNeg - mnZ (snA r1 r0 g st en (kF f4) x y a i.toNatClampNeg) (lfZ r1 r0 g st en (kF f4) x y i.toNatClampNeg)
    rw [← b1, z, z2]
    omega
  · by_cases q : l = i.toNatClampNeg
    · rw [q]
      unfold snF
      rw [← b1, z, z2]
      show (f i.toNatClampNeg).toInt = _
      rw [b3 _ (Nat.le_refl _)]
      unfold fwZ
      show kF f4 i.toNatClampNeg = _
      (repeat' split) <;> omega
    · exact b2 l (by omega)
theorem snI_end {f4 f : Nat → Int32} {n : Nat} {left : Int} (h : snI r1 r0 g st en f4 f x y a left n) (hk : flK r1 r0 g (kF f4)) (hn : N ≤ n ∨ left = 0) : ∀ l : Nat, l < N → kF f l = snF r1 r0 g st en (kF f4) x y a l := fun l hl => by
  obtain ⟨b1, b2, b3⟩ := h
  by_cases q : l < n
  · exact b2 l q
  · rcases hn with w | w
    · omega
    · show (f l).toInt = _
      rw [b3 l (by omega)]
      rw [w] at b1
      exact (snF_0 (fun j => flK_lf hk x y j) b1.symm (by omega)).symm
end SNI
section CSN
variable {fs fe f4 f f2 f5 f6 : Nat → Int32} {i i2 v X Y N tk lf lf2 : Int32} {a : Int}
theorem gN_0 (h0 : 0 ≤ i.toInt) (hi : i.toInt < N.toInt) (hs : 0 ≤ (fs i.toNatClampNeg).toInt) : gN N.toNatClampNeg (gF fs) i.toNatClampNeg = 0 := by
  have c1 := clI (i := i) h0
  have c2 := clI (i := N) (by omega)
  unfold gN gF gI
  rw [if_pos (by omega), if_neg (by omega)]
theorem flK_at (h : flK (kF f5) (kF f6) (gN N.toNatClampNeg (gF fs)) (kF f4)) (h0 : 0 ≤ i.toInt) (hi : i.toInt < N.toInt) (hs : 0 ≤ (fs i.toNatClampNeg).toInt) : (0 ≤ (f5 i.toNatClampNeg).toInt ∧ (f5 i.toNatClampNeg).toInt ≤ 1000000) ∧ (0 ≤ (f6 i.toNatClampNeg).toInt ∧ (f6 i.toNatClampNeg).toInt ≤ 1000000) ∧ -(f6 i.toNatClampNeg).toInt ≤ (f4 i.toNatClampNeg).toInt ∧ (f4 i.toNatClampNeg).toInt ≤ (f5 i.toNatClampNeg).toInt := h _ (gN_0 h0 hi hs)
theorem nc_eq {x y : Int32} (e : x.toInt = y.toInt) : x.toNatClampNeg = y.toNatClampNeg := by rw [Int32.toInt_inj.mp e]
theorem mn_lo {p q : Int} : loI p q = mnZ p q := rfl
theorem sni_f (h : snI (kF f5) (kF f6) (gN N.toNatClampNeg (gF fs)) (nF fs) (nF fe) f4 f X.toNatClampNeg Y.toNatClampNeg a lf.toInt i.toNatClampNeg) : f i.toNatClampNeg = f4 i.toNatClampNeg := h.2.2 _ (Nat.le_refl _)
theorem snC_fo (h : snI (kF f5) (kF f6) (gN N.toNatClampNeg (gF fs)) (nF fs) (nF fe) f4 f X.toNatClampNeg Y.toNatClampNeg a lf.toInt i.toNatClampNeg) (h0 : 0 ≤ i.toInt) (hi : i.toInt < N.toInt) (hX : 0 ≤ X.toInt) (es : (fs i.toNatClampNeg).toInt = X.toInt) (ee : (fe i.toNatClampNeg).toInt = Y.toInt) (et : tk.toInt = mnZ lf.toInt ((f5 i.toNatClampNeg).toInt - (f4 i.toNatClampNeg).toInt)) (ev : v.toInt = (f4 i.toNatClampNeg).toInt + tk.toInt) (e : f2 = upd f i.toNatClampNeg v) (el : lf2.toInt = lf.toInt - tk.toInt) (ei : i2.toInt = i.toInt + 1) : snI (kF f5) (kF f6) (gN N.toNatClampNeg (gF fs)) (nF fs) (nF fe) f4 f2 X.toNatClampNeg Y.toNatClampNeg a lf2.toInt i2.toNatClampNeg := by
  have g0 := gN_0 (fs := fs) h0 hi (by omega)
  have m : nF fs i.toNatClampNeg = X.toNatClampNeg ∧ nF fe i.toNatClampNeg = Y.toNatClampNeg := ⟨nc_eq es, nc_eq ee⟩
  have l1 : lfZ (kF f5) (kF f6) (gN N.toNatClampNeg (gF fs)) (nF fs) (nF fe) (kF f4) X.toNatClampNeg Y.toNatClampNeg i.toNatClampNeg = (f5 i.toNatClampNeg).toInt - (f4 i.toNatClampNeg).toInt := by
    unfold lfZ
    rw [if_neg (fun q => q g0), if_pos m]
    rfl
  refine snI_st h h0 ei e ?_ ?_
  · rw [l1, ← et]
    unfold fwZ
    rw [if_neg (fun q => q g0), if_pos m]
    exact ev
  · rw [l1, ← et]
    exact el
theorem snC_bk (h : snI (kF f5) (kF f6) (gN N.toNatClampNeg (gF fs)) (nF fs) (nF fe) f4 f X.toNatClampNeg Y.toNatClampNeg a lf.toInt i.toNatClampNeg) (h0 : 0 ≤ i.toInt) (hi : i.toInt < N.toInt) (hX : 0 ≤ X.toInt) (hY : 0 ≤ Y.toInt) (hn : X.toInt ≠ Y.toInt) (es : (fs i.toNatClampNeg).toInt = Y.toInt) (ee : (fe i.toNatClampNeg).toInt = X.toInt) (et : tk.toInt = mnZ lf.toInt ((f6 i.toNatClampNeg).toInt + (f4 i.toNatClampNeg).toInt)) (ev : v.toInt = (f4 i.toNatClampNeg).toInt - tk.toInt) (e : f2 = upd f i.toNatClampNeg v) (el : lf2.toInt = lf.toInt - tk.toInt) (ei : i2.toInt = i.toInt + 1) : snI (kF f5) (kF f6) (gN N.toNatClampNeg (gF fs)) (nF fs) (nF fe) f4 f2 X.toNatClampNeg Y.toNatClampNeg a lf2.toInt i2.toNatClampNeg := by
  have g0 := gN_0 (fs := fs) h0 hi (by omega)
  have m : nF fs i.toNatClampNeg = Y.toNatClampNeg ∧ nF fe i.toNatClampNeg = X.toNatClampNeg := ⟨nc_eq es, nc_eq ee⟩
  have m0 : ¬ (nF fs i.toNatClampNeg = X.toNatClampNeg ∧ nF fe i.toNatClampNeg = Y.toNatClampNeg) := fun q => nc_ne hX hY hn (q.1.symm.trans m.1)
  have l1 : lfZ (kF f5) (kF f6) (gN N.toNatClampNeg (gF fs)) (nF fs) (nF fe) (kF f4) X.toNatClampNeg Y.toNatClampNeg i.toNatClampNeg = (f6 i.toNatClampNeg).toInt + (f4 i.toNatClampNeg).toInt := by
    unfold lfZ
    rw [if_neg (fun q => q g0), if_neg m0, if_pos m]
    rfl
  refine snI_st h h0 ei e ?_ ?_
  · rw [l1, ← et]
    unfold fwZ
    rw [if_neg (fun q => q g0), if_neg m0, if_pos m]
    exact ev
  · rw [l1, ← et]
    exact el
theorem snC_no (h : snI (kF f5) (kF f6) (gN N.toNatClampNeg (gF fs)) (nF fs) (nF fe) f4 f X.toNatClampNeg Y.toNatClampNeg a lf.toInt i.toNatClampNeg) (hp : prng fs fe 40) (h0 : 0 ≤ i.toInt) (hi : i.toInt < N.toInt) (hN : N.toInt ≤ 40) (hX : 0 ≤ X.toInt) (hY : 0 ≤ Y.toInt) (hl : 0 ≤ lf.toInt) (n1 : (fs i.toNatClampNeg).toInt ≠ X.toInt ∨ (fe i.toNatClampNeg).toInt ≠ Y.toInt) (n2 : (fs i.toNatClampNeg).toInt ≠ Y.toInt ∨ (fe i.toNatClampNeg).toInt ≠ X.toInt) (ei : i2.toInt = i.toInt + 1) : snI (kF f5) (kF f6) (gN N.toNatClampNeg (gF fs)) (nF fs) (nF fe) f4 f X.toNatClampNeg Y.toNatClampNeg a lf.toInt i2.toNatClampNeg := by
  have c1 := clI (i := i) h0
  refine snI_no h h0 ei hl ?_
  by_cases g0 : gN N.toNatClampNeg (gF fs) i.toNatClampNeg = 0
  · refine Or.inr ?_
    have ms : (fs i.toNatClampNeg).toInt ≠ -9 := fun q => by
      have c2 := clI (i := N) (by omega)
      unfold gN gF gI at g0
      rw [if_pos (by omega), if_pos q] at g0
      omega
    have b := hp i.toNatClampNeg (by omega)
    have k1 := clI (i := fs i.toNatClampNeg) (by omega)
    have k2 := clI (i := fe i.toNatClampNeg) (by omega)
    have k3 := clI (i := X) hX
    have k4 := clI (i := Y) hY
    unfold nF
    exact ⟨fun q => by omega, fun q => by omega⟩
  · exact Or.inl g0
end CSN
/-! ===== along the way: the least room, and sending it ===== -/
section WAYS
variable {r1 r0 g : Nat → Int} {st en : Nat → Nat} {N P s t : Nat} {M M2 : Nat → Nat → Int} {c : Nat → Nat}
noncomputable def lwI (M : Nat → Nat → Int) (c : Nat → Nat) (s t n y : Nat) (a : Int) : Prop := y = psW c t n ∧ (∀ i : Nat, i < n → psW c t i ≠ s) ∧ (∀ i : Nat, i < n → a ≤ M (psW c t (i + 1)) (psW c t i)) ∧ ((n = 0 ∧ 160000000 ≤ a) ∨ ∃ i : Nat, i < n ∧ a = M (psW c t (i + 1)) (psW c t i))
theorem lwI_0 {a : Int} (h : 160000000 ≤ a) : lwI M c s t (0 : Int32).toNatClampNeg t a := by
  rw [cl_0]
  exact ⟨rfl, fun i hi => absurd hi (Nat.not_lt_zero i), fun i hi => absurd hi (Nat.not_lt_zero i), Or.inl ⟨rfl, h⟩⟩
theorem lwI_0n {a : Int} (h : 160000000 ≤ a) : lwI M c s t 0 t a := ⟨rfl, fun i hi => absurd hi (Nat.not_lt_zero i), fun i hi => absurd hi (Nat.not_lt_zero i), Or.inl ⟨rfl, h⟩⟩
theorem lwI_s {n y x : Nat} {a a2 : Int} (h : lwI M c s t n y a) (hy : y ≠ s) (ex : x = c y) (hb : M x y ≤ 160000000) (h1 : a2 ≤ a) (h2 : a2 ≤ M x y) (h3 : a2 = a ∨ a2 = M x y) : lwI M c s t (n + 1) x a2 := by
  obtain ⟨b1, b2, b3, b4⟩ := h
  have ex' : x = psW c t (n + 1) := by
    rw [ex, b1]
    rfl
  refine ⟨ex', fun i hi => ?_, fun i hi => ?_, Or.inr ?_⟩
  · by_cases q : i = n
    · rw [q, ← b1]
      exact hy
    · exact b2 i (by omega)
  · by_cases q : i = n
    · rw [q, ← b1, ← ex']
      exact h2
    · exact Int.le_trans h1 (b3 i (by omega))
  · by_cases w : a2 = M x y
    · exact ⟨n, by omega, by rw [← b1, ← ex']; exact w⟩
    · have w2 : a2 = a := by omega
      rcases b4 with q | ⟨i, hi, q⟩
      · omega
      · exact ⟨i, by omega, by rw [w2]; exact q⟩
theorem lwI_st {y x n n2 : Int32} {f8 : Nat → Int32} {a a2 : Int} (h : lwI M (nF f8) s t n.toNatClampNeg y.toNatClampNeg a) (hn : 0 ≤ n.toInt) (hy : y.toNatClampNeg ≠ s) (ex : x = f8 y.toNatClampNeg) (e2 : n2.toInt = n.toInt + 1) (hb : M x.toNatClampNeg y.toNatClampNeg ≤ 160000000) (h1 : a2 ≤ a) (h2 : a2 ≤ M x.toNatClampNeg y.toNatClampNeg) (h3 : a2 = a ∨ a2 = M x.toNatClampNeg y.toNatClampNeg) : lwI M (nF f8) s t n2.toNatClampNeg x.toNatClampNeg a2 := by
  have c1 := clI (i := n) hn
  have c2 := clI (i := n2) (by omega)
  rw [show n2.toNatClampNeg = n.toNatClampNeg + 1 by omega]
  exact lwI_s h hy (by rw [ex]; rfl) hb h1 h2 h3
theorem lwI_end {n y : Nat} {a : Int} (h : lwI M c s t n y a) (hy : y = s) (ht : t ≠ s) : wyN c s t n ∧ lrW M c t n a := by
  obtain ⟨b1, b2, b3, b4⟩ := h
  refine ⟨⟨b1.symm.trans hy, b2⟩, b3, ?_⟩
  rcases b4 with q | q
  · exfalso
    rw [q.1] at b1
    exact ht (by rw [← hy, b1]; rfl)
  · exact q
theorem wyN_un {n m : Nat} (h1 : wyN c s t n) (h2 : wyN c s t m) : n = m := by
  rcases Nat.lt_trichotomy n m with w | w | w
  · exact absurd h1.1 (h2.2 n w)
  · exact w
  · exact absurd h2.1 (h1.2 m w)
/-- rooms tell what lines let more -/
noncomputable def rmE (r1 r0 g : Nat → Int) (st en : Nat → Nat) (N P : Nat) (M : Nat → Nat → Int) (F : Nat → Int) : Prop := ∀ u v : Nat, u < P → v < P → M u v = rmF r1 r0 g st en N F u v
noncomputable def swI (r1 r0 g : Nat → Int) (st en : Nat → Nat) (N : Nat) (c : Nat → Nat) (s t : Nat) (a : Int) (F0 F : Nat → Int) (n y : Nat) : Prop := y = psW c t n ∧ (∀ i : Nat, i < n → psW c t i ≠ s) ∧ ∀ l : Nat, l < N → F l = flW r1 r0 g st en c t a F0 n l
theorem swI_0 {a : Int} {F : Nat → Int} : swI r1 r0 g st en N c s t a F F (0 : Int32).toNatClampNeg t := by
  rw [cl_0]
  exact ⟨rfl, fun i hi => absurd hi (Nat.not_lt_zero i), fun _ _ => rfl⟩
theorem swI_0n {a : Int} {F : Nat → Int} : swI r1 r0 g st en N c s t a F F 0 t := ⟨rfl, fun i hi => absurd hi (Nat.not_lt_zero i), fun _ _ => rfl⟩
theorem swI_s {n y x : Nat} {a : Int} {F0 F F2 : Nat → Int} (h : swI r1 r0 g st en N c s t a F0 F n y) (hy : y ≠ s) (ex : x = c y) (hF : ∀ l : Nat, l < N → F2 l = snF r1 r0 g st en F x y a l) : swI r1 r0 g st en N c s t a F0 F2 (n + 1) x := by
  obtain ⟨b1, b2, b3⟩ := h
  have ex' : x = psW c t (n + 1) := by
    rw [ex, b1]
    rfl
  refine ⟨ex', fun i hi => ?_, fun l hl => ?_⟩
  · by_cases q : i = n
    · rw [q, ← b1]
      exact hy
    · exact b2 i (by omega)
  · rw [hF l hl]
    show _ = snF r1 r0 g st en (flW r1 r0 g st en c t a F0 n) (psW c t (n + 1)) (psW c t n) a l
    rw [← ex', ← b1]
    exact snF_cg (fun j hj => ⟨lnS_rfl, b3 j (by omega)⟩)
theorem swI_st {y x n n2 : Int32} {f8 : Nat → Int32} {a : Int} {F0 F F2 : Nat → Int} (h : swI r1 r0 g st en N (nF f8) s t a F0 F n.toNatClampNeg y.toNatClampNeg) (hn : 0 ≤ n.toInt) (hy : y.toNatClampNeg ≠ s) (ex : x = f8 y.toNatClampNeg) (e2 : n2.toInt = n.toInt + 1) (hF : ∀ l : Nat, l < N → F2 l = snF r1 r0 g st en F x.toNatClampNeg y.toNatClampNeg a l) : swI r1 r0 g st en N (nF f8) s t a F0 F2 n2.toNatClampNeg x.toNatClampNeg := by
  have c1 := clI (i := n) hn
  have c2 := clI (i := n2) (by omega)
  rw [show n2.toNatClampNeg = n.toNatClampNeg + 1 by omega]
  exact swI_s h hy (by rw [ex]; rfl) hF
theorem swI_end {n y : Nat} {a : Int} {F0 F : Nat → Int} (h : swI r1 r0 g st en N c s t a F0 F n y) (hy : y = s) : wyN c s t n ∧ ∀ l : Nat, l < N → F l = flW r1 r0 g st en c t a F0 n l := ⟨⟨h.1.symm.trans hy, h.2.1⟩, h.2.2⟩
/-- what one way has sent -/
noncomputable def wyF (r1 r0 g : Nat → Int) (st en : Nat → Nat) (N : Nat) (c : Nat → Nat) (s t : Nat) (a : Int) (F F2 : Nat → Int) : Prop := ∃ n : Nat, wyN c s t n ∧ lrW (rmF r1 r0 g st en N F) c t n a ∧ ∀ l : Nat, l < N → F2 l = flW r1 r0 g st en c t a F n l
theorem wyF_mk {n1 n2 : Nat} {a : Int} {F F2 : Nat → Int} (h1 : wyN c s t n1 ∧ lrW (rmF r1 r0 g st en N F) c t n1 a) (h2 : wyN c s t n2 ∧ ∀ l : Nat, l < N → F2 l = flW r1 r0 g st en c t a F n2 l) : wyF r1 r0 g st en N c s t a F F2 := by
  have e := wyN_un h1.1 h2.1
  subst e
  exact ⟨n1, h1.1, h1.2, h2.2⟩
theorem ch_way {k : Nat} {a : Int} {F F2 : Nat → Int} (h : chF r1 r0 g st en N P s t k F) (hM : rmE r1 r0 g st en N P M F) (hs : s < P) (hf : fndR (rB M 1) P s t c) (hw : wyF r1 r0 g st en N c s t a F F2) : chF r1 r0 g st en N P s t (k + 1) F2 := by
  obtain ⟨n, w1, w2, w3⟩ := hw
  refine chF.step h ⟨c, n, a, fnd_cg hs (fun x y hx hy => ?_) hf, w1, w2, w3⟩
  unfold rB
  rw [hM x y hx hy]
theorem ch_end {k : Nat} {F : Nat → Int} (h : chF r1 r0 g st en N P s t k F) (hM : rmE r1 r0 g st en N P M F) (hs : s < P) (hn : ndR (rB M 1) P s t) : enF r1 r0 g st en N P s t F := by
  refine ⟨⟨k, h⟩, nd_cg hs (fun x y hx hy => ?_) hn⟩
  unfold rB
  rw [hM x y hx hy]
/-- rooms behind one pair -/
theorem rmE_st {x y : Nat} {a : Int} {F F2 : Nat → Int} (h : rmE r1 r0 g st en N P M F) (hk : flK r1 r0 g F) (hse : ∀ l : Nat, g l = 0 → st l ≠ en l) (hx : x < P) (hy : y < P) (ha : 1 ≤ a) (hle : a ≤ M x y) (he : edg M M2 x y a) (hF : ∀ l : Nat, l < N → F2 l = snF r1 r0 g st en F x y a l) : rmE r1 r0 g st en N P M2 F2 := fun u v hu hv => by
  have hxy : x ≠ y := fun q => by
    rw [h x y hx hy, q, rmF_diag hse] at hle
    omega
  rw [he u v, h u v hu hv]
  rw [h x y hx hy] at hle
  exact (sn_rm hk hxy (by omega) hle hse hF u v).symm
theorem rmE_ne {x y : Nat} {F : Nat → Int} (h : rmE r1 r0 g st en N P M F) (hse : ∀ l : Nat, g l = 0 → st l ≠ en l) (hx : x < P) (hy : y < P) (h1 : 1 ≤ M x y) : x ≠ y := fun q => by
  rw [h x y hx hy, q, rmF_diag hse] at h1
  omega
end WAYS
theorem gN_hN {N : Nat} {g : Nat → Int} {l : Nat} (h : gN N g l = 0) : l < N ∧ g l = 0 := by
  unfold gN at h
  by_cases q : l < N
  · rw [if_pos q] at h
    exact ⟨q, h⟩
  · rw [if_neg q] at h
    omega
theorem se_C {N : Int32} {fs fe : Nat → Int32} (h : netDC N.toInt fs fe) (hp : prng fs fe 40) (hN : 0 ≤ N.toInt ∧ N.toInt ≤ 40) : ∀ l : Nat, gN N.toNatClampNeg (gF fs) l = 0 → nF fs l ≠ nF fe l := fun l hl => by
  have q := gN_hN hl
  have c := clI (i := N) hN.1
  have ms : (fs l).toInt ≠ -9 := fun w => by
    have := q.2
    unfold gF gI at this
    rw [if_pos w] at this
    omega
  have a := h l (by omega) ms
  have b := hp l (by omega)
  have k1 := clI (i := fs l) (by omega)
  have k2 := clI (i := fe l) (by omega)
  unfold nF
  omega
/-- behind load(): nothing flows -/
theorem rmE_0 {M : Nat → Nat → Int32} {P N : Int32} {fk fs fe fw f5 f6 : Nat → Int32} {F : Nat → Int} {r : Int} (h : mtx M P.toInt fk fs fe fw r N.toNatClampNeg) (hl : ltF f5 f6 fk fs fw r N.toNatClampNeg) (hse : ∀ l : Nat, gN N.toNatClampNeg (gF fs) l = 0 → nF fs l ≠ nF fe l) (hP : 0 ≤ P.toInt ∧ P.toInt ≤ 12) (hz : ∀ l : Nat, l < N.toNatClampNeg → F l = 0) : rmE (kF f5) (kF f6) (gN N.toNatClampNeg (gF fs)) (nF fs) (nF fe) N.toNatClampNeg P.toNatClampNeg (zM M) F := fun x y hx hy => by
  have c := clI (i := P) hP.1
  show (M x y).toInt = _
  rw [h x y (by omega) (by omega)]
  refine sumI_congr _ (fun l hl' => ?_)
  have gg : gN N.toNatClampNeg (gF fs) l = gF fs l := if_pos hl'
  unfold mlI lfZ
  rw [gg, hz l hl']
  by_cases z : gF fs l = 0
  · have ms : (fs l).toInt ≠ -9 := fun w => by
      unfold gF gI at z
      rw [if_pos w] at z
      omega
    have b := hl l hl' ms
    have d := hse l (by rw [gg]; exact z)
    have nz : ¬ gF fs l ≠ 0 := fun q => q z
    rw [if_neg nz, if_neg nz]
    unfold kF at b ⊢
    by_cases p : nF fs l = x ∧ nF fe l = y
    · rw [if_pos p, if_pos p, if_neg (fun q => d (by omega)), b.1]
      omega
    · rw [if_neg p, if_neg p]
      by_cases p2 : nF fs l = y ∧ nF fe l = x
      · rw [if_pos ⟨p2.2, p2.1⟩, if_pos p2, b.2]
        omega
      · rw [if_neg (fun q => p2 ⟨q.2, q.1⟩), if_neg p2]
        rfl
  · rw [if_pos z, if_pos z]
theorem flK_0 {N : Int32} {fk fs fw f5 f6 : Nat → Int32} {F : Nat → Int} {r : Int} (hl : ltF f5 f6 fk fs fw r N.toNatClampNeg) (hw : rng fw 40 0 2000) (hN : 0 ≤ N.toInt ∧ N.toInt ≤ 40) (hz : ∀ l : Nat, l < N.toNatClampNeg → F l = 0) : flK (kF f5) (kF f6) (gN N.toNatClampNeg (gF fs)) F := fun l z => by
  have q := gN_hN z
  have c := clI (i := N) hN.1
  have ms : (fs l).toInt ≠ -9 := fun w => by
    have := q.2
    unfold gF gI at this
    rw [if_pos w] at this
    omega
  have b := hl l q.1 ms
  have w := wF_rng (r := r) hw (j := l) (by omega)
  have k1 := rmW_rng (k := kF fk l) (b := 1) w.1 w.2
  have k0 := rmW_rng (k := kF fk l) (b := 0) w.1 w.2
  have e := hz l q.1
  unfold kF at *
  omega
/-- lines as the class has them loaded, and as they are -/
theorem lnS_C {N : Int32} {fk fs fe fw f5 f6 : Nat → Int32} {r : Int} (hl : ltF f5 f6 fk fs fw r N.toNatClampNeg) : ∀ l : Nat, l < N.toNatClampNeg → lnS (kF f5) (kF f6) (gN N.toNatClampNeg (gF fs)) (nF fs) (nF fe) (fun l => rmW (kF fk l) (wF fw r l) 1) (fun l => rmW (kF fk l) (wF fw r l) 0) (gN N.toNatClampNeg (gF fs)) (nF fs) (nF fe) l := fun l hl' => by
  refine ⟨Iff.rfl, fun z => ?_⟩
  have q := gN_hN z
  have ms : (fs l).toInt ≠ -9 := fun w => by
    have := q.2
    unfold gF gI at this
    rw [if_pos w] at this
    omega
  have b := hl l hl' ms
  exact ⟨b.1, b.2, rfl, rfl⟩
/-- what flow() answers -/
noncomputable def flA (C : (Nat → Bool) → Int) (E : (Nat → Int) → Prop) (s t l : Nat) (r : Int) : Prop := ∃ m : Int, mostR C s t m ∧ (m = -5 → r = -1000000) ∧ (m ≠ -5 → ∃ F : Nat → Int, E F ∧ r = F l)
theorem flA_no {C : (Nat → Bool) → Int} {E : (Nat → Int) → Prop} {s t l : Nat} {r m : Int} (h : mostR C s t m) (hm : m = -5) (hr : r = -1000000) : flA C E s t l r := ⟨m, h, fun _ => hr, fun q => absurd hm q⟩
theorem flA_yes {C : (Nat → Bool) → Int} {E : (Nat → Int) → Prop} {s t l : Nat} {r m : Int} {F : Nat → Int} (h : mostR C s t m) (hm : m ≠ -5) (hE : E F) (hr : r = F l) : flA C E s t l r := ⟨m, h, fun q => absurd q hm, fun _ => ⟨F, hE, hr⟩⟩
/-! ===== the reference's lines ===== -/
section REFL
variable {f5 f6 f7 f8 f10 F f f2 c0 : Nat → Int32} {N : Int32}
theorem lfI_Z {n l x y : Nat} (hl : l < n) (h6 : 0 ≤ (f6 l).toInt) (h7 : 0 ≤ (f7 l).toInt) : lfI f5 f6 f7 f8 f10 F (x : Int) (y : Int) l = lfZ (fun l => rmI (f5 l) (f8 l) 1) (fun l => rmI (f5 l) (f8 l) 0) (gN n (kF f10)) (nF f6) (nF f7) (kF F) x y l := by
  have c6 := clI h6
  have c7 := clI h7
  have e1 : ((f6 l).toInt = (x : Int) ∧ (f7 l).toInt = (y : Int)) ↔ (nF f6 l = x ∧ nF f7 l = y) := by
    unfold nF
    omega
  have e2 : ((f6 l).toInt = (y : Int) ∧ (f7 l).toInt = (x : Int)) ↔ (nF f6 l = y ∧ nF f7 l = x) := by
    unfold nF
    omega
  unfold lfI lfZ gN kF
  rw [if_pos hl]
  simp only [e1, e2]
theorem lfI_ZI {n l : Nat} {X Y : Int32} (hl : l < n) (h6 : 0 ≤ (f6 l).toInt) (h7 : 0 ≤ (f7 l).toInt) (hX : 0 ≤ X.toInt) (hY : 0 ≤ Y.toInt) : lfI f5 f6 f7 f8 f10 F X.toInt Y.toInt l = lfZ (fun l => rmI (f5 l) (f8 l) 1) (fun l => rmI (f5 l) (f8 l) 0) (gN n (kF f10)) (nF f6) (nF f7) (kF F) X.toNatClampNeg Y.toNatClampNeg l := by
  have h := lfI_Z (f5 := f5) (f8 := f8) (f10 := f10) (F := F) (x := X.toNatClampNeg) (y := Y.toNatClampNeg) hl h6 h7
  rw [clI hX, clI hY] at h
  exact h
theorem rmF_lo {X Y : Int32} (r6 : rng f6 40 0 11) (r7 : rng f7 40 0 11) (hN : 0 ≤ N.toInt ∧ N.toInt ≤ 40) (hX : 0 ≤ X.toInt) (hY : 0 ≤ Y.toInt) : rmF (fun l => rmI (f5 l) (f8 l) 1) (fun l => rmI (f5 l) (f8 l) 0) (gN N.toNatClampNeg (kF f10)) (nF f6) (nF f7) N.toNatClampNeg (kF F) X.toNatClampNeg Y.toNatClampNeg = sumI (lfI f5 f6 f7 f8 f10 F X.toInt Y.toInt) N.toNatClampNeg := by
  have c := clI (i := N) hN.1
  exact (sumI_congr _ (fun l hl => lfI_ZI hl (r6 l (by omega)).1 (r7 l (by omega)).1 hX hY)).symm
theorem rf_eq (r6 : rng f6 40 0 11) (r7 : rng f7 40 0 11) (hN : 0 ≤ N.toInt ∧ N.toInt ≤ 40) : (fun x y : Nat => 1 ≤ sumI (lfI f5 f6 f7 f8 f10 F (x : Int) (y : Int)) N.toNatClampNeg) = rB (rmF (fun l => rmI (f5 l) (f8 l) 1) (fun l => rmI (f5 l) (f8 l) 0) (gN N.toNatClampNeg (kF f10)) (nF f6) (nF f7) N.toNatClampNeg (kF F)) 1 := by
  have c := clI (i := N) hN.1
  funext x y
  unfold rB rmF
  rw [sumI_congr (g := lfI f5 f6 f7 f8 f10 F (x : Int) (y : Int)) N.toNatClampNeg (fun l hl => lfI_Z hl (r6 l (by omega)).1 (r7 l (by omega)).1)]
theorem lo_bd {x y : Int} (h : flOK f5 f8 F) (hr : rng f8 40 0 2000) (hN : 0 ≤ N.toInt ∧ N.toInt ≤ 40) : sumI (lfI f5 f6 f7 f8 f10 F x y) N.toNatClampNeg ≤ 160000000 := by
  have c := clI (i := N) hN.1
  have b := sumI_rng (g := lfI f5 f6 f7 f8 f10 F x y) (B := 2000000) N.toNatClampNeg (fun j hj => lfI_rng h hr (by omega) x y)
  omega
theorem flK_R (h : flOK f5 f8 F) (hr : rng f8 40 0 2000) (hN : 0 ≤ N.toInt ∧ N.toInt ≤ 40) : flK (fun l => rmI (f5 l) (f8 l) 1) (fun l => rmI (f5 l) (f8 l) 0) (gN N.toNatClampNeg (kF f10)) (kF F) := fun l z => by
  have c := clI (i := N) hN.1
  have q := gN_hN z
  have b := hr l (by omega)
  exact ⟨rmI_rng b.1 b.2, rmI_rng b.1 b.2, h l (by omega)⟩
theorem snR_st {i i2 v X Y : Int32} {a left left2 t : Int} (h : snI (fun l => rmI (f5 l) (f8 l) 1) (fun l => rmI (f5 l) (f8 l) 0) (gN N.toNatClampNeg (kF f10)) (nF f6) (nF f7) c0 f X.toNatClampNeg Y.toNatClampNeg a left i.toNatClampNeg) (r6 : rng f6 40 0 11) (r7 : rng f7 40 0 11) (hN : 0 ≤ N.toInt ∧ N.toInt ≤ 40) (h0 : 0 ≤ i.toInt) (hi : i.toInt < N.toInt) (hX : 0 ≤ X.toInt) (hY : 0 ≤ Y.toInt)
    (hm : t ≤ lfI f5 f6 f7 f8 f10 f X.toInt Y.toInt i.toNatClampNeg ∧ t ≤ left ∧ (t = lfI f5 f6 f7 f8 f10 f X.toInt Y.toInt i.toNatClampNeg ∨ t = left))
    (hv : v.toInt = (f i.toNatClampNeg).toInt + (if (f10 i.toNatClampNeg).toInt ≠ 0 then 0 else if (f6 i.toNatClampNeg).toInt = X.toInt ∧ (f7 i.toNatClampNeg).toInt = Y.toInt then t else if (f6 i.toNatClampNeg).toInt = Y.toInt ∧ (f7 i.toNatClampNeg).toInt = X.toInt then -t else 0)) (e : f2 = upd f i.toNatClampNeg v) (el : left2 = left - t) (ei : i2.toInt = i.toInt + 1) : snI (fun l => rmI (f5 l) (f8 l) 1) (fun l => rmI (f5 l) (f8 l) 0) (gN N.toNatClampNeg (kF f10)) (nF f6) (nF f7) c0 f2 X.toNatClampNeg Y.toNatClampNeg a left2 i2.toNatClampNeg := by
  have cN := clI (i := N) hN.1
  have ci := clI (i := i) h0
  have b6 := r6 i.toNatClampNeg (by omega)
  have b7 := r7 i.toNatClampNeg (by omega)
  have ef : f i.toNatClampNeg = c0 i.toNatClampNeg := h.2.2 _ (Nat.le_refl _)
  have el2 : lfI f5 f6 f7 f8 f10 f X.toInt Y.toInt i.toNatClampNeg = lfI f5 f6 f7 f8 f10 c0 X.toInt Y.toInt i.toNatClampNeg := lfI_same (fun _ => ef)
  have eZ := lfI_ZI (f5 := f5) (f8 := f8) (f10 := f10) (F := c0) (n := N.toNatClampNeg) (l := i.toNatClampNeg) (by omega) b6.1 b7.1 hX hY
  rw [el2, eZ] at hm
  have et : t = mnZ left (lfZ (fun l => rmI (f5 l) (f8 l) 1) (fun l => rmI (f5 l) (f8 l) 0) (gN N.toNatClampNeg (kF f10)) (nF f6) (nF f7) (kF c0) X.toNatClampNeg Y.toNatClampNeg i.toNatClampNeg) := by
    unfold mnZ
    split <;> omega
  refine snI_st h h0 ei e ?_ (by rw [← et]; exact el)
  rw [← et, hv, ef]
  have cX := clI hX
  have cY := clI hY
  have c6 := clI b6.1
  have c7 := clI b7.1
  have gg : gN N.toNatClampNeg (kF f10) i.toNatClampNeg = (f10 i.toNatClampNeg).toInt := if_pos (by omega)
  have e1 : ((f6 i.toNatClampNeg).toInt = X.toInt ∧ (f7 i.toNatClampNeg).toInt = Y.toInt) ↔ (nF f6 i.toNatClampNeg = X.toNatClampNeg ∧ nF f7 i.toNatClampNeg = Y.toNatClampNeg) := by
    unfold nF
    omega
  have e2 : ((f6 i.toNatClampNeg).toInt = Y.toInt ∧ (f7 i.toNatClampNeg).toInt = X.toInt) ↔ (nF f6 i.toNatClampNeg = Y.toNatClampNeg ∧ nF f7 i.toNatClampNeg = X.toNatClampNeg) := by
    unfold nF
    omega
  unfold fwZ
  rw [gg]
  simp only [e1, e2]
  show (c0 i.toNatClampNeg).toInt + _ = _
  unfold kF
  (repeat' split) <;> omega
theorem flA_noR {C : (Nat → Bool) → Int} {E : (Nat → Int) → Prop} {s t l : Nat} {r : Int} {a : Int32} (h : mstM C s t a.toInt) (h0 : ∀ S : Nat → Bool, 0 ≤ C S) (hm : a.toInt = 1000000) (hr : r = -1000000) : flA C E s t l r := flA_no (mst_told (r := (-5)) h h0 (by rw [if_pos hm]; decide)) (by decide) hr
theorem flA_yesR {C : (Nat → Bool) → Int} {E : (Nat → Int) → Prop} {s t l : Nat} {r : Int} {a : Int32} {F : Nat → Int} (h : mstM C s t a.toInt) (h0 : ∀ S : Nat → Bool, 0 ≤ C S) (hm : a.toInt ≠ 1000000) (hE : E F) (hr : r = F l) : flA C E s t l r := by
  have w := mst_told (r := a) h h0 (by rw [if_neg hm])
  refine flA_yes w (fun q => ?_) hE hr
  rcases w with w | w
  · obtain ⟨_, b, _⟩ := h
    rcases b with b | ⟨S, _, b⟩
    · exact hm b
    · have z := h0 S
      unfold mn6 at b
      split at b <;> omega
  · omega
end REFL
theorem rmI_W {k w b : Int32} (h0 : 0 ≤ w.toInt) : rmI k w b = rmW k.toInt w.toInt b.toInt := by
  have i1 : ∀ x y : Int32, x = y ↔ x.toInt = y.toInt := fun x y => Int32.toInt_inj.symm
  have z2 : (2 : Int32).toInt = 2 := by decide
  have z1 : (1 : Int32).toInt = 1 := by decide
  have z0 : (0 : Int32).toInt = 0 := by decide
  have z5 : ((-5) : Int32).toInt = -5 := by decide
  unfold rmI ml_lets rmW
  by_cases h : k = 2
  · rw [if_pos h, if_pos rfl, if_pos (by rw [h, z2])]
  · have h' : ¬ k.toInt = 2 := fun q => h ((i1 _ _).mpr (q.trans z2.symm))
    rw [if_neg h, if_neg h']
    by_cases p : k = 1 ∧ b = 0
    · have p' : k.toInt = 1 ∧ b.toInt = 0 := ⟨by rw [p.1, z1], by rw [p.2, z0]⟩
      rw [if_pos p, if_pos p', if_neg (by decide), z0]
    · have p' : ¬ (k.toInt = 1 ∧ b.toInt = 0) := fun q => p ⟨(i1 _ _).mpr (q.1.trans z1.symm), (i1 _ _).mpr (q.2.trans z0.symm)⟩
      rw [if_neg p, if_neg p', if_neg (fun q => by rw [q, z5] at h0; omega)]
theorem ans_flow {vp vn P N a1 a2 a3 u1 u2 : Int32} {fk fs fe fw fp f5 f6 f7 f8 f9 f10 : Nat → Int32} (h : nrel vp vn fk fs fe fw fp P N f5 f6 f7 f8 f9 f10) (r6 : rng f6 40 0 11) (r7 : rng f7 40 0 11) (r8 : rng f8 40 0 2000) (hN : 0 ≤ N.toInt ∧ N.toInt ≤ 40)
    (w1 : (rsI a1.toInt a2.toInt a3.toInt vp.toInt vn.toInt (gI (fs a3.toNatClampNeg).toInt) = 0 → flA (cutF fk fs fe fw (-9) vn.toNatClampNeg) (fun F => enF (fun l => rmW (kF fk l) (wF fw (-9) l) 1) (fun l => rmW (kF fk l) (wF fw (-9) l) 0) (gN vn.toNatClampNeg (gF fs)) (nF fs) (nF fe) vn.toNatClampNeg vp.toNatClampNeg a1.toNatClampNeg a2.toNatClampNeg F) a1.toNatClampNeg a2.toNatClampNeg a3.toNatClampNeg u1.toInt) ∧ (rsI a1.toInt a2.toInt a3.toInt vp.toInt vn.toInt (gI (fs a3.toNatClampNeg).toInt) ≠ 0 → u1.toInt = -1000000))
    (w2 : (rsI a1.toInt a2.toInt a3.toInt P.toInt N.toInt (f10 a3.toNatClampNeg).toInt = 0 → flA (cutR f5 f6 f7 f8 f10 (-9) N.toNatClampNeg) (fun F => enF (fun l => rmI (f5 l) (f8 l) 1) (fun l => rmI (f5 l) (f8 l) 0) (gN N.toNatClampNeg (kF f10)) (nF f6) (nF f7) N.toNatClampNeg P.toNatClampNeg a1.toNatClampNeg a2.toNatClampNeg F) a1.toNatClampNeg a2.toNatClampNeg a3.toNatClampNeg u2.toInt) ∧ (rsI a1.toInt a2.toInt a3.toInt P.toInt N.toInt (f10 a3.toNatClampNeg).toInt ≠ 0 → u2.toInt = -1000000)) : u1 = u2 := by
  refine Int32.toInt_inj.mp ?_
  have ec := rs_same (a := a1) (b := a2) (l := a3) h r6 hN.2
  have cN := clI (i := N) hN.1
  by_cases e : rsI a1.toInt a2.toInt a3.toInt P.toInt N.toInt (f10 a3.toNatClampNeg).toInt = 0
  · obtain ⟨m1, p1, q1, s1⟩ := w1.1 (ec.trans e)
    obtain ⟨m2, p2, q2, s2⟩ := w2.1 e
    rw [cutF_fun h r6 hN] at p1
    have em := mostR_un p1 p2
    subst em
    by_cases z : m1 = -5
    · rw [q1 z, q2 z]
    · obtain ⟨F1, k1, t1⟩ := s1 z
      obtain ⟨F2, k2, t2⟩ := s2 z
      have hl3 : a3.toNatClampNeg < N.toNatClampNeg := by
        unfold rsI at e
        by_cases w : ¬ ((0 ≤ a1.toInt ∧ a1.toInt < P.toInt) ∧ (0 ≤ a2.toInt ∧ a2.toInt < P.toInt) ∧ a1.toInt ≠ a2.toInt) ∨ ¬ (0 ≤ a3.toInt ∧ a3.toInt < N.toInt)
        · rw [if_pos w] at e
          omega
        · exact nc_lt (by omega) (by omega)
      have hs : ∀ l : Nat, l < N.toNatClampNeg → lnS (fun l => rmW (kF fk l) (wF fw (-9) l) 1) (fun l => rmW (kF fk l) (wF fw (-9) l) 0) (gN N.toNatClampNeg (gF fs)) (nF fs) (nF fe) (fun l => rmI (f5 l) (f8 l) 1) (fun l => rmI (f5 l) (f8 l) 0) (gN N.toNatClampNeg (kF f10)) (nF f6) (nF f7) l := fun l hl => by
        obtain ⟨x1, x2, _, x4, x5⟩ := h.2.2 l (by omega)
        have b6 := r6 l (by omega)
        have b8 := r8 l (by omega)
        have g1 : gN N.toNatClampNeg (gF fs) l = gF fs l := if_pos hl
        have g2 : gN N.toNatClampNeg (kF f10) l = (f10 l).toInt := if_pos hl
        have eg : gF fs l = 0 ↔ (f10 l).toInt = 0 := by
          unfold gF
          by_cases z : (f10 l).toInt = 0
          · rw [gI_0 (by rw [(x5 z).1]; omega)]
            omega
          · rw [gI_1 (x4 z).1]
            omega
        refine ⟨by rw [g1, g2]; exact eg, fun z => ?_⟩
        rw [g1] at z
        obtain ⟨y1, y2⟩ := x5 (eg.mp z)
        have ew : wF fw (-9) l = (f8 l).toInt := by
          unfold wF
          rw [if_neg (by omega), x2]
          omega
        refine ⟨?_, ?_, ?_, ?_⟩
        · show rmW (kF fk l) (wF fw (-9) l) 1 = rmI (f5 l) (f8 l) 1
          rw [ew, rmI_W b8.1]
          unfold kF
          rw [x1]
          rfl
        · show rmW (kF fk l) (wF fw (-9) l) 0 = rmI (f5 l) (f8 l) 0
          rw [ew, rmI_W b8.1]
          unfold kF
          rw [x1]
          rfl
        · unfold nF
          rw [y1]
        · unfold nF
          rw [y2]
      rw [h.1, h.2.1] at k1
      rw [t1, t2]
      exact en_un (enF_cg hs k1) k2 _ hl3
  · rw [w1.2 (fun q => e (ec.symm.trans q)), w2.2 e]
/-! ===== cheapest: what potentials tell ===== -/
noncomputable def wP (pi : Nat → Int) (x y : Nat) : Int := if pi x < pi y then pi y - pi x else 0
theorem wP_df {pi : Nat → Int} {x y : Nat} : wP pi x y - wP pi y x = pi y - pi x := by
  unfold wP
  (repeat' split) <;> omega
/-! lines -/
section LINES
variable {r1 r0 g c : Nat → Int} {st en : Nat → Nat} {N s t : Nat} {k A : Int} {pi : Nat → Int}
end LINES
/-! pairs of places -/
noncomputable def ptZ (M : Nat → Nat → Int) (pi : Nat → Int) (P : Nat) : Int := sumI (fun x => sumI (fun y => wP pi x y * M x y) P) P
theorem ptZ_add {M N : Nat → Nat → Int} {pi : Nat → Int} {P : Nat} : ptZ (fun x y => M x y + N x y) pi P = ptZ M pi P + ptZ N pi P := by
  unfold ptZ
  rw [← sumI_add]
  refine sumI_congr P (fun x _ => ?_)
  rw [← sumI_add]
  refine sumI_congr P (fun y _ => ?_)
  rw [Int.mul_add]
theorem ptZ_one {pi : Nat → Int} {P a b : Nat} {v : Int} (ha : a < P) (hb : b < P) : ptZ (fun x y => if a = x ∧ b = y then v else 0) pi P = wP pi a b * v := by
  have row : ∀ x : Nat, sumI (fun y => wP pi x y * (if a = x ∧ b = y then v else 0)) P = if x = a then wP pi a b * v else 0 := fun x => by
    by_cases e : x = a
    · rw [if_pos e, e]
      refine Eq.trans (sumI_congr P (fun y _ => ?_)) ((sumI_delta (f := fun y => wP pi a y * v) (a := b) P).trans (if_pos hb))
      by_cases q : y = b
      · rw [if_pos q, if_pos (show a = a ∧ b = y from ⟨rfl, q.symm⟩)]
      · rw [if_neg q, if_neg (show ¬ (a = a ∧ b = y) from fun w => q w.2.symm), Int.mul_zero]
    · rw [if_neg e]
      refine (sumI_congr P (fun y _ => ?_)).trans (sumI_zero P)
      rw [if_neg (show ¬ (a = x ∧ b = y) from fun w => e w.1.symm), Int.mul_zero]
  unfold ptZ
  refine Eq.trans (sumI_congr P (fun x _ => row x)) ((sumI_delta (f := fun _ => wP pi a b * v) (a := a) P).trans (if_pos ha))
theorem ptZ_cg {M N : Nat → Nat → Int} {pi : Nat → Int} {P : Nat} (h : ∀ x y : Nat, x < P → y < P → M x y = N x y) : ptZ M pi P = ptZ N pi P := by
  unfold ptZ
  exact sumI_congr P (fun x hx => sumI_congr P (fun y hy => by rw [h x y hx hy]))
theorem ptZ_edg {M M2 : Nat → Nat → Int} {pi : Nat → Int} {P x y : Nat} {a : Int} (h : edg M M2 x y a) (hx : x < P) (hy : y < P) : ptZ M2 pi P = ptZ M pi P - a * (pi y - pi x) := by
  have e : ptZ M2 pi P = ptZ (fun u v => (M u v + (if x = u ∧ y = v then -a else 0)) + (if y = u ∧ x = v then a else 0)) pi P := ptZ_cg (fun u v _ _ => h u v)
  rw [e, ptZ_add (M := fun u v => M u v + (if x = u ∧ y = v then -a else 0)) (N := fun u v => if y = u ∧ x = v then a else 0), ptZ_add (M := M) (N := fun u v => if x = u ∧ y = v then -a else 0), ptZ_one hx hy, ptZ_one hy hx]
  have d := wP_df (pi := pi) (x := x) (y := y)
  rw [← d, Int.mul_sub, Int.mul_neg, Int.mul_comm a, Int.mul_comm a]
  omega
/-- j more flows than in M0, from s to t -/
noncomputable def cnZ (M0 M : Nat → Nat → Int) (P s t : Nat) (j : Int) : Prop := ∀ pi : Nat → Int, ptZ M pi P = ptZ M0 pi P - j * (pi t - pi s)
section CNZ
variable {M0 M M2 : Nat → Nat → Int} {P s t x y : Nat} {a j r : Int}
theorem cnZ_c0 (h : ∀ x y : Nat, x < P → y < P → M x y = M0 x y) : cnZ M0 M P s t 0 := fun pi => by
  rw [ptZ_cg h, Int.zero_mul]
  omega
theorem cnZ_t : cnZ M0 M0 P t t a := fun pi => by
  rw [Int.sub_self, Int.mul_zero]
  omega
theorem cnZ_e (h : cnZ M0 M P y t a) (he : edg M M2 x y a) (hx : x < P) (hy : y < P) : cnZ M0 M2 P x t a := fun pi => by
  rw [ptZ_edg he hx hy, h pi, Int.sub_sub, ← Int.mul_add, show pi t - pi y + (pi y - pi x) = pi t - pi x by omega]
theorem cnZ_at (h : cnZ M0 M P y t a) (e : y = s) : cnZ M0 M P s t a := by
  rw [← e]
  exact h
theorem cnZ_tr (h : cnZ M0 M P s t j) (h2 : cnZ M M2 P s t a) (e : r = j + a) : cnZ M0 M2 P s t r := fun pi => by
  rw [h2 pi, h pi, e, Int.add_mul]
  omega
end CNZ
end

section
set_option maxHeartbeats 4000000 in
set_option maxRecDepth 100000 in
theorem c_X0_findWay3 (l : Launch) (D : va_G) (cy : Nat → ClassId) (sz : Nat) (xc : Nat) (xk : Nat) (clo : Nat) (cro : Nat) (c4 : Nat) (c5 : Nat) (c6 : Nat) (c7 : Nat) (c8 : Nat) (xn : Nat) (n1 : Nat) (n2 : Nat) (n3 : Nat) (n4 : Nat) (n5 : Nat) (vp : Int32) (vn : Int32) (rr : Nat → Nat) (Mr : Nat → Nat → Int32) (f7 : Nat → Int32) (f8 : Nat → Int32) (a1 : Int32) (a2 : Int32) (hvp : 0 ≤ vp.toInt ∧ vp.toInt ≤ 12) (q1 : 0 ≤ a1.toInt ∧ a1.toInt < vp.toInt) (q2 : 0 ≤ a2.toInt ∧ a2.toInt < vp.toInt) (hne : a1.toInt ≠ a2.toInt) (r_f7 : rng f7 12 (0) (11)) (r_f8 : rng f8 12 (0) (11)) : Met l yX0_findWay wsX0_findWay ({ frames := 0, cells := 0, slots := 0, locals := 0 }) (va_Pc [.ref xc, .int a1, .int a2] (fun U => U.heap.size = sz ∧ va_P D vwCl [ob0_0_ xc xn xk clo cro c4 c5 c6 c7 c8, ob3_0_ xn vp vn n1 n2 n3 n4 n5, aq_ cy 6 cro 12 (gf_ rr), ai_ cy (rr 0) 12 (Mr 0), ai_ cy (rr 1) 12 (Mr 1), ai_ cy (rr 2) 12 (Mr 2), ai_ cy (rr 3) 12 (Mr 3), ai_ cy (rr 4) 12 (Mr 4), ai_ cy (rr 5) 12 (Mr 5), ai_ cy (rr 6) 12 (Mr 6), ai_ cy (rr 7) 12 (Mr 7), ai_ cy (rr 8) 12 (Mr 8), ai_ cy (rr 9) 12 (Mr 9), ai_ cy (rr 10) 12 (Mr 10), ai_ cy (rr 11) 12 (Mr 11), ai_ cy c7 12 f7, ai_ cy c8 12 f8] U.heap ∧ kg_ D cy U ∧ va_D (fun _ => True) [ob0_0_ xc xn xk clo cro c4 c5 c6 c7 c8, ob3_0_ xn vp vn n1 n2 n3 n4 n5, aq_ cy 6 cro 12 (gf_ rr), ai_ cy (rr 0) 12 (Mr 0), ai_ cy (rr 1) 12 (Mr 1), ai_ cy (rr 2) 12 (Mr 2), ai_ cy (rr 3) 12 (Mr 3), ai_ cy (rr 4) 12 (Mr 4), ai_ cy (rr 5) 12 (Mr 5), ai_ cy (rr 6) 12 (Mr 6), ai_ cy (rr 7) 12 (Mr 7), ai_ cy (rr 8) 12 (Mr 8), ai_ cy (rr 9) 12 (Mr 9), ai_ cy (rr 10) 12 (Mr 10), ai_ cy (rr 11) 12 (Mr 11), ai_ cy c7 12 f7, ai_ cy c8 12 f8])) (va_Qi (fun (r : Int32) (u : Int32) => u = r ∧ ((r.toInt = 0 ∨ r.toInt = 1))) (fun (u : Int32) (t : State) => ∃ (e7 : Nat → Int32), ∃ (e8 : Nat → Int32), (u.toInt ≠ 0 → ∃ n : Nat, n ≤ 11 ∧ wayA (zM Mr) (nF e8) vp.toNatClampNeg a1.toNatClampNeg 1 n a2.toNatClampNeg) ∧ (u.toInt = 0 → ∃ S : Nat → Bool, sep a1.toNatClampNeg a2.toNatClampNeg S ∧ clsd (zM Mr) vp.toNatClampNeg 1 S) ∧ (u.toInt ≠ 0 → fndR (rB (zM Mr) 1) vp.toNatClampNeg a1.toNatClampNeg a2.toNatClampNeg (nF e8)) ∧ (u.toInt = 0 → ndR (rB (zM Mr) 1) vp.toNatClampNeg a1.toNatClampNeg a2.toNatClampNeg) ∧ (rng e7 12 (0) (11)) ∧ (rng e8 12 (0) (11)) ∧ va_P D vwCl [ob0_0_ xc xn xk clo cro c4 c5 c6 c7 c8, ob3_0_ xn vp vn n1 n2 n3 n4 n5, aq_ cy 6 cro 12 (gf_ rr), ai_ cy (rr 0) 12 (Mr 0), ai_ cy (rr 1) 12 (Mr 1), ai_ cy (rr 2) 12 (Mr 2), ai_ cy (rr 3) 12 (Mr 3), ai_ cy (rr 4) 12 (Mr 4), ai_ cy (rr 5) 12 (Mr 5), ai_ cy (rr 6) 12 (Mr 6), ai_ cy (rr 7) 12 (Mr 7), ai_ cy (rr 8) 12 (Mr 8), ai_ cy (rr 9) 12 (Mr 9), ai_ cy (rr 10) 12 (Mr 10), ai_ cy (rr 11) 12 (Mr 11), ai_ cy c7 12 e7, ai_ cy c8 12 e8] t.heap ∧ va_D (va_A [ob0_0_ xc xn xk clo cro c4 c5 c6 c7 c8, ob3_0_ xn vp vn n1 n2 n3 n4 n5, aq_ cy 6 cro 12 (gf_ rr), ai_ cy (rr 0) 12 (Mr 0), ai_ cy (rr 1) 12 (Mr 1), ai_ cy (rr 2) 12 (Mr 2), ai_ cy (rr 3) 12 (Mr 3), ai_ cy (rr 4) 12 (Mr 4), ai_ cy (rr 5) 12 (Mr 5), ai_ cy (rr 6) 12 (Mr 6), ai_ cy (rr 7) 12 (Mr 7), ai_ cy (rr 8) 12 (Mr 8), ai_ cy (rr 9) 12 (Mr 9), ai_ cy (rr 10) 12 (Mr 10), ai_ cy (rr 11) 12 (Mr 11), ai_ cy c7 12 f7, ai_ cy c8 12 f8] sz) [ob0_0_ xc xn xk clo cro c4 c5 c6 c7 c8, ob3_0_ xn vp vn n1 n2 n3 n4 n5, aq_ cy 6 cro 12 (gf_ rr), ai_ cy (rr 0) 12 (Mr 0), ai_ cy (rr 1) 12 (Mr 1), ai_ cy (rr 2) 12 (Mr 2), ai_ cy (rr 3) 12 (Mr 3), ai_ cy (rr 4) 12 (Mr 4), ai_ cy (rr 5) 12 (Mr 5), ai_ cy (rr 6) 12 (Mr 6), ai_ cy (rr 7) 12 (Mr 7), ai_ cy (rr 8) 12 (Mr 8), ai_ cy (rr 9) 12 (Mr 9), ai_ cy (rr 10) 12 (Mr 10), ai_ cy (rr 11) 12 (Mr 11), ai_ cy c7 12 e7, ai_ cy c8 12 e8]) (va_A [ob0_0_ xc xn xk clo cro c4 c5 c6 c7 c8, ob3_0_ xn vp vn n1 n2 n3 n4 n5, aq_ cy 6 cro 12 (gf_ rr), ai_ cy (rr 0) 12 (Mr 0), ai_ cy (rr 1) 12 (Mr 1), ai_ cy (rr 2) 12 (Mr 2), ai_ cy (rr 3) 12 (Mr 3), ai_ cy (rr 4) 12 (Mr 4), ai_ cy (rr 5) 12 (Mr 5), ai_ cy (rr 6) 12 (Mr 6), ai_ cy (rr 7) 12 (Mr 7), ai_ cy (rr 8) 12 (Mr 8), ai_ cy (rr 9) 12 (Mr 9), ai_ cy (rr 10) 12 (Mr 10), ai_ cy (rr 11) 12 (Mr 11), ai_ cy c7 12 f7, ai_ cy c8 12 f8] sz)) 0 0 (va_A [ob0_0_ xc xn xk clo cro c4 c5 c6 c7 c8, ob3_0_ xn vp vn n1 n2 n3 n4 n5, aq_ cy 6 cro 12 (gf_ rr), ai_ cy (rr 0) 12 (Mr 0), ai_ cy (rr 1) 12 (Mr 1), ai_ cy (rr 2) 12 (Mr 2), ai_ cy (rr 3) 12 (Mr 3), ai_ cy (rr 4) 12 (Mr 4), ai_ cy (rr 5) 12 (Mr 5), ai_ cy (rr 6) 12 (Mr 6), ai_ cy (rr 7) 12 (Mr 7), ai_ cy (rr 8) 12 (Mr 8), ai_ cy (rr 9) 12 (Mr 9), ai_ cy (rr 10) 12 (Mr 10), ai_ cy (rr 11) 12 (Mr 11), ai_ cy c7 12 f7, ai_ cy c8 12 f8] sz) := by
  refine ofQ (cc := cX0_findWay) (maxL := 8) (ret := (some .boolean)) (by decide) rfl ?_
  intro p e s m args below meth c s₁ Q hQ B hml hv
  obtain ⟨rfl, hsz, hP, hK, hD0⟩ := hv
  have hG := hK.2
  have hK := hK.1
  have hx := B.exec
  have hb := B.bytes
  have hr := B.returns
  have hts := atoms_spec (ws := wsX0_findWay) B.pre
  have hown : s.vm.findClass RX0 = some m.cls := by have h_ := findClass_of_methodNamed B.named; exact h_
  have hlocks := B.notSynchronized
  subst hsz
  have hD := hD0.self (sz := s.heap.size)
  generalize hAe : va_A [ob0_0_ xc xn xk clo cro c4 c5 c6 c7 c8, ob3_0_ xn vp vn n1 n2 n3 n4 n5, aq_ cy 6 cro 12 (gf_ rr), ai_ cy (rr 0) 12 (Mr 0), ai_ cy (rr 1) 12 (Mr 1), ai_ cy (rr 2) 12 (Mr 2), ai_ cy (rr 3) 12 (Mr 3), ai_ cy (rr 4) 12 (Mr 4), ai_ cy (rr 5) 12 (Mr 5), ai_ cy (rr 6) 12 (Mr 6), ai_ cy (rr 7) 12 (Mr 7), ai_ cy (rr 8) 12 (Mr 8), ai_ cy (rr 9) 12 (Mr 9), ai_ cy (rr 10) 12 (Mr 10), ai_ cy (rr 11) 12 (Mr 11), ai_ cy c7 12 f7, ai_ cy c8 12 f8] s.heap.size = A at hD hQ
  have hA : ∀ q : Nat, s.heap.size ≤ q → A q := fun q h => by rw [← hAe]; exact Or.inr h
  have hS : va_S A s.heap s.heap [] := va_S.rf
  have hl := lv_entry ([.ref xc, .int a1, .int a2]) (n := 8) (Nat.le_of_ble_eq_true rfl)
  rw [lg_entry_eq]
  generalize (lg_sl ([.ref xc, .int a1, .int a2]) ++ List.replicate (8 - (lg_sl ([.ref xc, .int a1, .int a2])).length) Slot.unset).toArray = ls at hl ⊢
  have hl : lv_has ls 8 [(0, .ref xc), (1, .int a1), (2, .int a2)] := hl
  have z0 : (0 : Int32).toInt = 0 := by decide
  have z1 : (1 : Int32).toInt = 1 := by decide
  have z12 : (12 : Int32).toInt = 12 := by decide
  refine lv_iconst (v := 1) hx hb dB_36_0_8.1.1.1.1 (by decide) ?_
  refine lv_iload_n hx hb dB_36_0_8.1.1.1.2 rfl (lv_at hl 1 rfl) ?_
  refine lv_ishl hx hb dB_36_0_8.1.1.2.1 ?_
  refine lv_topi (fun y_1 ey_1 => ?_)
  refine lv_istore_n (lv' := [(3, .int y_1), (0, .ref xc), (1, .int a1), (2, .int a2)]) hx hb dB_36_0_8.1.1.2.2 rfl hl (by decide) rfl (fun ls hl => ?_)
  refine lv_iconst (v := 1) hx hb dB_36_0_8.1.2.1.1 (by decide) ?_
  refine lv_istore (lv' := [(4, .int 1), (3, .int y_1), (0, .ref xc), (1, .int a1), (2, .int a2)]) hx hb dB_36_0_8.1.2.1.2 hl (by decide) rfl (fun ls hl => ?_)
  refine lv_aload_n hx hb dB_36_0_8.1.2.2.1 rfl (lv_at hl 2 rfl) ?_
  refine va_get (ci := 0) (v := .ref c7) (C := RX0) (T := TX0) (N := 9) hx hb hts (fun _ h => List.mem_cons_of_mem _ (List.mem_append_left _ (List.mem_append_right _ h))) hown hK.1 hP 0 rfl rfl 7 (by decide) (hts (.fieldLink RX0 29 "CutAtlas$Current" "queue" "[I") (List.mem_of_getElem? (i := 1) rfl)) (fun _ h9 => h9) rfl dB_36_0_8.1.2.2.2 ?_
  refine lv_iconst (v := 0) hx hb dB_36_0_8.2.1.1.1 (by decide) ?_
  refine lv_iload_n hx hb dB_36_0_8.2.1.1.2 rfl (lv_at hl 3 rfl) ?_
  have h_2 : vp_in (0 : Int32) 12 := by unfold vp_in; decide
  refine va_iast hx hb hK.1 hP hD hS 15 0 rfl rfl (i := 0) h_2 dB_36_0_8.2.1.2.1 (fun H locs hP hD hS => ?_)
  obtain ⟨f_3, ef_3⟩ : ∃ g : Nat → Int32, g = upd f7 (0 : Int32).toNatClampNeg a1 := ⟨_, rfl⟩
  refine pd_K (D := D) (cl := vwCl) (H := H) (A := A) [ob0_0_ xc xn xk clo cro c4 c5 c6 c7 c8, ob3_0_ xn vp vn n1 n2 n3 n4 n5, aq_ cy 6 cro 12 (gf_ rr), ai_ cy (rr 0) 12 (Mr 0), ai_ cy (rr 1) 12 (Mr 1), ai_ cy (rr 2) 12 (Mr 2), ai_ cy (rr 3) 12 (Mr 3), ai_ cy (rr 4) 12 (Mr 4), ai_ cy (rr 5) 12 (Mr 5), ai_ cy (rr 6) 12 (Mr 6), ai_ cy (rr 7) 12 (Mr 7), ai_ cy (rr 8) 12 (Mr 8), ai_ cy (rr 9) 12 (Mr 9), ai_ cy (rr 10) 12 (Mr 10), ai_ cy (rr 11) 12 (Mr 11), ai_ cy c7 12 f_3, ai_ cy c8 12 f8] (by rw [ef_3]; exact hP) (by rw [ef_3]; exact hD) (fun hP hD => ?_)
  have rf_3 : rng f_3 12 (0) (11) := by rw [ef_3]; exact rng_upd r_f7 (by omega) (by omega)
  have hq_ : mq y_1 f_3 (1 : Int32).toNatClampNeg := mq_one (by assumption) (by assumption) (by omega) (by omega)
  have hbf_ : bfq (rC (zM Mr) f8) vp.toNatClampNeg a1.toNatClampNeg y_1 f_3 (1 : Int32).toNatClampNeg := bfq_one (by assumption) (by assumption) (by omega) (by omega) (nc_lt (by omega) (by omega))
  have hnt_ : bt y_1 a2.toNatClampNeg = false := nt_one (by assumption) (by omega) (by omega) (by omega)
  have hbs0_ : bsr (rB (zM Mr) 1) vp.toNatClampNeg a1.toNatClampNeg a2.toNatClampNeg (0 : Int32).toNatClampNeg 0 (nF f_3) (1 : Int32).toNatClampNeg (nF f8) := bsr_one ef_3
  refine lv_iconst (v := 0) hx hb dB_36_0_8.2.1.2.2 (by decide) ?_
  refine lv_istore (lv' := [(5, .int 0), (4, .int 1), (3, .int y_1), (0, .ref xc), (1, .int a1), (2, .int a2)]) hx hb dB_36_0_8.2.2.1.1 hl (by decide) rfl (fun ls hl => ?_)
  suffices LOOP_4 : ∀ (n_4 : Nat) (x5_4 : Int32) (x4_4 : Int32) (x3_4 : Int32) (c_c7_4 : Nat → Int32) (c_c8_4 : Nat → Int32) (H : Heap) (locs : List Loc) (ls : Array Slot), 12 - x5_4.toInt < (n_4 : Int) → (1 ≤ x4_4.toInt) → (x4_4.toInt ≤ 12) → (0 ≤ x5_4.toInt) → (x5_4.toInt ≤ 12) → (mq x3_4 c_c7_4 x4_4.toNatClampNeg) → (bfq (rC (zM Mr) c_c8_4) vp.toNatClampNeg a1.toNatClampNeg x3_4 c_c7_4 x4_4.toNatClampNeg) → (don (zM Mr) vp.toNatClampNeg 1 x3_4 c_c7_4 x5_4.toNatClampNeg) → (bt x3_4 a2.toNatClampNeg = false) → (bsr (rB (zM Mr) 1) vp.toNatClampNeg a1.toNatClampNeg a2.toNatClampNeg x5_4.toNatClampNeg 0 (nF c_c7_4) x4_4.toNatClampNeg (nF c_c8_4)) → (rng c_c7_4 12 (0) (11)) → (rng c_c8_4 12 (0) (11)) → pd_2 D vwCl A [ob0_0_ xc xn xk clo cro c4 c5 c6 c7 c8, ob3_0_ xn vp vn n1 n2 n3 n4 n5, aq_ cy 6 cro 12 (gf_ rr), ai_ cy (rr 0) 12 (Mr 0), ai_ cy (rr 1) 12 (Mr 1), ai_ cy (rr 2) 12 (Mr 2), ai_ cy (rr 3) 12 (Mr 3), ai_ cy (rr 4) 12 (Mr 4), ai_ cy (rr 5) 12 (Mr 5), ai_ cy (rr 6) 12 (Mr 6), ai_ cy (rr 7) 12 (Mr 7), ai_ cy (rr 8) 12 (Mr 8), ai_ cy (rr 9) 12 (Mr 9), ai_ cy (rr 10) 12 (Mr 10), ai_ cy (rr 11) 12 (Mr 11), ai_ cy c7 12 c_c7_4, ai_ cy c8 12 c_c8_4] H → va_S A s.heap H locs → lv_has ls 8 [(5, .int x5_4), (4, .int x4_4), (3, .int x3_4), (0, .ref xc), (1, .int a1), (2, .int a2)] → W p l e ({ frames := 0, cells := 0, slots := 0, locals := 0 } : Room) s m (([.ref xc, .int a1, .int a2] : List Value).toArray) below meth c H locs 0 0 Q (F0 m 17 ls []) from LOOP_4 ((12 - (0 : Int32).toInt).toNat + 1) (0 : Int32) (1 : Int32) y_1 f_3 f8 _ _ _ (by omega) (by first | with_reducible assumption | omega | assumption) (by first | with_reducible assumption | omega | assumption) (by first | with_reducible assumption | omega | assumption) (by first | with_reducible assumption | omega | assumption) (by first | with_reducible assumption | assumption | omega) (by first | exact hbf_ | assumption) (by first | exact don_0 | exact don_nx v_none v_none (by omega) (by omega) (by omega)) (by first | with_reducible assumption | omega | assumption) (by first | exact hbs0_ | exact bsr_nxt v_none (by omega) (by omega) (by omega)) (by first | with_reducible assumption | assumption | exact rng_zero (by omega) (by omega) | exact orng_zero) (by first | with_reducible assumption | assumption | exact rng_zero (by omega) (by omega) | exact orng_zero) ⟨hP, hD⟩ hS (lv_sub hl [0, 1, 2, 3, 4, 5] rfl)
  intro n_4
  induction n_4 with
  | zero =>
    intro x5_4 x4_4 x3_4 c_c7_4 c_c8_4 H locs ls hm v0_4 v1_4 v2_4 v3_4 v4_4 v5_4 v6_4 v7_4 v8_4 rc_c7_4 rc_c8_4 hPD hS hl; obtain ⟨hP, hD⟩ := hPD
    exact absurd hm (by omega)
  | succ n_4 ih_4 =>
    intro x5_4 x4_4 x3_4 c_c7_4 c_c8_4 H locs ls hm v0_4 v1_4 v2_4 v3_4 v4_4 v5_4 v6_4 v7_4 v8_4 rc_c7_4 rc_c8_4 hPD hS hl; obtain ⟨hP, hD⟩ := hPD
    refine lv_iload hx hb dB_36_0_8.2.2.1.2 (lv_at hl 0 rfl) ?_
    refine lv_iload hx hb dB_36_0_8.2.2.2.1 (lv_at hl 1 rfl) ?_
    refine lv_icmp_ge (tgt := 125) hx hb dB_36_0_8.2.2.2.2 (by decide) (fun c_5 => ?_) (fun c_5 => ?_)
    · have t_5 : x4_4.toInt ≤ x5_4.toInt := Int32.le_iff_toInt_le.mp c_5
      refine lv_iconst (v := 0) hx hb dB_36_0_12.2.2.1 (by decide) ?_
      rw [hQ]
      exact W.zret (ty := .boolean) (v := 0) hx hb hr (by decide) (fun t ht hW => ⟨⟨0, 0, rfl, ⟨rfl, (by omega)⟩, c_c7_4, c_c8_4, (fun h => absurd rfl h), (fun _ => ⟨bt x3_4, ⟨bfq_s v5_4, v7_4⟩, bfq_clsd v5_4 v6_4 (nc_le (by omega) (by omega))⟩), (fun h => absurd rfl h), (fun _ => ⟨_, _, _, _, v8_4, nc_le (by omega) (by omega)⟩), (by first | with_reducible assumption | assumption | exact rng_zero (by omega) (by omega) | omega), (by first | with_reducible assumption | assumption | exact rng_zero (by omega) (by omega) | omega), by rw [ht]; exact hP, hD⟩, hS.F ht⟩) hS.2.2 dB_36_0_12.2.2.2
    · have t_5 : ¬ x4_4.toInt ≤ x5_4.toInt := fun h => c_5 (Int32.le_iff_toInt_le.mpr h)
      refine lv_iload hx hb dB_36_0_9.1.1.1.1 (lv_at hl 0 rfl) ?_
      refine lv_bipush (v := 12) hx hb dB_36_0_9.1.1.1.2 (by decide) ?_
      refine lv_icmp_ge (tgt := 125) hx hb dB_36_0_9.1.1.2.1 (by decide) (fun c_6 => ?_) (fun c_6 => ?_)
      · have t_6 : (12 : Int32).toInt ≤ x5_4.toInt := Int32.le_iff_toInt_le.mp c_6
        refine lv_iconst (v := 0) hx hb dB_36_0_12.2.2.1 (by decide) ?_
        rw [hQ]
        exact W.zret (ty := .boolean) (v := 0) hx hb hr (by decide) (fun t ht hW => ⟨⟨0, 0, rfl, ⟨rfl, (by omega)⟩, c_c7_4, c_c8_4, (fun h => absurd rfl h), (fun _ => ⟨bt x3_4, ⟨bfq_s v5_4, v7_4⟩, bfq_clsd v5_4 v6_4 (nc_le (by omega) (by omega))⟩), (fun h => absurd rfl h), (fun _ => ⟨_, _, _, _, v8_4, nc_le (by omega) (by omega)⟩), (by first | with_reducible assumption | assumption | exact rng_zero (by omega) (by omega) | omega), (by first | with_reducible assumption | assumption | exact rng_zero (by omega) (by omega) | omega), by rw [ht]; exact hP, hD⟩, hS.F ht⟩) hS.2.2 dB_36_0_12.2.2.2
      · have t_6 : ¬ (12 : Int32).toInt ≤ x5_4.toInt := fun h => c_6 (Int32.le_iff_toInt_le.mpr h)
        refine lv_aload_n hx hb dB_36_0_9.1.1.2.2 rfl (lv_at hl 3 rfl) ?_
        refine va_get (ci := 0) (v := .ref c7) (C := RX0) (T := TX0) (N := 9) hx hb hts (fun _ h => List.mem_cons_of_mem _ (List.mem_append_left _ (List.mem_append_right _ h))) hown hK.1 hP 0 rfl rfl 7 (by decide) (hts (.fieldLink RX0 29 "CutAtlas$Current" "queue" "[I") (List.mem_of_getElem? (i := 1) rfl)) (fun _ h9 => h9) rfl dB_36_0_9.1.2.1.1 ?_
        refine lv_iload hx hb dB_36_0_9.1.2.1.2 (lv_at hl 0 rfl) ?_
        have h_7 : vp_in x5_4 12 := in_I (by first | with_reducible assumption | omega) (by omega)
        refine va_iald hx hb hK.1 hP 15 0 rfl rfl (i := x5_4) h_7 dB_36_0_9.1.2.2.1 ?_
        refine lv_topi (fun y_8 ey_8 => ?_)
        have ry_8 : 0 ≤ y_8.toInt ∧ y_8.toInt ≤ 11 := by rw [ey_8]; exact rc_c7_4 _ (in_lt h_7)
        refine lv_istore (lv' := [(6, .int y_8), (5, .int x5_4), (4, .int x4_4), (3, .int x3_4), (0, .ref xc), (1, .int a1), (2, .int a2)]) hx hb dB_36_0_9.1.2.2.2 hl (by decide) rfl (fun ls hl => ?_)
        refine lv_iconst (v := 0) hx hb dB_36_0_9.2.1.1.1 (by decide) ?_
        refine lv_istore (lv' := [(7, .int 0), (6, .int y_8), (5, .int x5_4), (4, .int x4_4), (3, .int x3_4), (0, .ref xc), (1, .int a1), (2, .int a2)]) hx hb dB_36_0_9.2.1.1.2 hl (by decide) rfl (fun ls hl => ?_)
        suffices LOOP_9 : ∀ (n_9 : Nat) (x7_9 : Int32) (x4_9 : Int32) (x3_9 : Int32) (c_c7_9 : Nat → Int32) (c_c8_9 : Nat → Int32) (H : Heap) (locs : List Loc) (ls : Array Slot), vp.toInt - x7_9.toInt < (n_9 : Int) → (1 ≤ x4_9.toInt) → (x4_9.toInt ≤ 12) → (0 ≤ x7_9.toInt) → (x7_9.toInt ≤ vp.toInt) → (mq x3_9 c_c7_9 x4_9.toNatClampNeg) → (bfq (rC (zM Mr) c_c8_9) vp.toNatClampNeg a1.toNatClampNeg x3_9 c_c7_9 x4_9.toNatClampNeg) → (don (zM Mr) vp.toNatClampNeg 1 x3_9 c_c7_9 x5_4.toNatClampNeg) → (x5_4.toInt < x4_9.toInt) → (donY (zM Mr) 1 x3_9 (nF c_c7_9 x5_4.toNatClampNeg) x7_9.toNatClampNeg) → (bt x3_9 a2.toNatClampNeg = false) → (y_8 = c_c7_9 x5_4.toNatClampNeg) → (bsr (rB (zM Mr) 1) vp.toNatClampNeg a1.toNatClampNeg a2.toNatClampNeg x5_4.toNatClampNeg x7_9.toNatClampNeg (nF c_c7_9) x4_9.toNatClampNeg (nF c_c8_9)) → (rng c_c7_9 12 (0) (11)) → (rng c_c8_9 12 (0) (11)) → pd_2 D vwCl A [ob0_0_ xc xn xk clo cro c4 c5 c6 c7 c8, ob3_0_ xn vp vn n1 n2 n3 n4 n5, aq_ cy 6 cro 12 (gf_ rr), ai_ cy (rr 0) 12 (Mr 0), ai_ cy (rr 1) 12 (Mr 1), ai_ cy (rr 2) 12 (Mr 2), ai_ cy (rr 3) 12 (Mr 3), ai_ cy (rr 4) 12 (Mr 4), ai_ cy (rr 5) 12 (Mr 5), ai_ cy (rr 6) 12 (Mr 6), ai_ cy (rr 7) 12 (Mr 7), ai_ cy (rr 8) 12 (Mr 8), ai_ cy (rr 9) 12 (Mr 9), ai_ cy (rr 10) 12 (Mr 10), ai_ cy (rr 11) 12 (Mr 11), ai_ cy c7 12 c_c7_9, ai_ cy c8 12 c_c8_9] H → va_S A s.heap H locs → lv_has ls 8 [(7, .int x7_9), (6, .int y_8), (5, .int x5_4), (4, .int x4_9), (3, .int x3_9), (0, .ref xc), (1, .int a1), (2, .int a2)] → W p l e ({ frames := 0, cells := 0, slots := 0, locals := 0 } : Room) s m (([.ref xc, .int a1, .int a2] : List Value).toArray) below meth c H locs 0 0 Q (F0 m 43 ls []) from LOOP_9 ((vp.toInt - (0 : Int32).toInt).toNat + 1) (0 : Int32) x4_4 x3_4 c_c7_4 c_c8_4 _ _ _ (by omega) (by first | with_reducible assumption | omega | assumption) (by first | with_reducible assumption | omega | assumption) (by first | with_reducible assumption | omega | assumption) (by first | with_reducible assumption | omega | assumption) (by first | with_reducible assumption | assumption | exact hp_ _ (by omega)) (by first | with_reducible assumption | assumption | exact hb2_ _ (by omega)) (by first | with_reducible assumption | assumption | exact hd2_) (by first | with_reducible assumption | omega | assumption) (by first | exact donY_0 | exact hy2_ _ (by omega) | exact donY_met v_none (by omega) (by omega) (Or.inl (bt_nz hbw_ (by omega))) | exact donY_met v_none (by omega) (by omega) (Or.inr (by omega))) (by first | with_reducible assumption | assumption | exact hn2_) (by first | with_reducible assumption | assumption | exact hx2_) (by first | exact v8_4 | exact hbs2_ _ _ (by omega) (by omega) | exact bsr_old v_none (by omega) (by omega) (by omega) (nc_lt (x := x5_4) (P := x4_4) (by omega) (by omega)) (Or.inl (v_none.2.2.2.1 _ (bt_nz hbw_ (by omega)))) | exact bsr_old v_none (by omega) (by omega) (by omega) (nc_lt (x := x5_4) (P := x4_4) (by omega) (by omega)) (Or.inr (fun h_ => absurd (show (1 : Int) ≤ _ from h_) (by omega)))) (by first | with_reducible assumption | assumption | exact rng_zero (by omega) (by omega) | exact orng_zero) (by first | with_reducible assumption | assumption | exact rng_zero (by omega) (by omega) | exact orng_zero) ⟨hP, hD⟩ hS (lv_sub hl [0, 1, 2, 3, 4, 5, 6, 7] rfl)
        intro n_9
        induction n_9 with
        | zero =>
          intro x7_9 x4_9 x3_9 c_c7_9 c_c8_9 H locs ls hm v0_9 v1_9 v2_9 v3_9 v4_9 v5_9 v6_9 v7_9 v8_9 v9_9 v10_9 v11_9 rc_c7_9 rc_c8_9 hPD hS hl; obtain ⟨hP, hD⟩ := hPD
          exact absurd hm (by omega)
        | succ n_9 ih_9 =>
          intro x7_9 x4_9 x3_9 c_c7_9 c_c8_9 H locs ls hm v0_9 v1_9 v2_9 v3_9 v4_9 v5_9 v6_9 v7_9 v8_9 v9_9 v10_9 v11_9 rc_c7_9 rc_c8_9 hPD hS hl; obtain ⟨hP, hD⟩ := hPD
          refine lv_iload hx hb dB_36_0_9.2.1.2.1 (lv_at hl 0 rfl) ?_
          refine lv_aload_n hx hb dB_36_0_9.2.1.2.2 rfl (lv_at hl 5 rfl) ?_
          refine va_get (ci := 0) (v := .ref xn) (C := RX0) (T := TX0) (N := 9) hx hb hts (fun _ h => List.mem_cons_of_mem _ (List.mem_append_left _ (List.mem_append_right _ h))) hown hK.1 hP 0 rfl rfl 0 (by decide) (hts (.fieldLink RX0 35 "CutAtlas$Current" "net" "LCutAtlas$Net;") (List.mem_of_getElem? (i := 2) rfl)) (fun _ h9 => h9) rfl dB_36_0_9.2.2.1.1 ?_
          refine va_get (ci := 3) (v := .int vp) (C := RX3) (T := TX3) (N := 7) hx hb hts (fun _ h => List.mem_cons_of_mem _ (List.mem_append_right _ h)) hown hK.1 hP 1 rfl rfl 0 (by decide) (hts (.fieldLink RX0 43 "CutAtlas$Net" "places" "I") (List.mem_of_getElem? (i := 3) rfl)) (fun _ h9 => h9) rfl dB_36_0_9.2.2.1.2 ?_
          refine lv_icmp_ge (tgt := 119) hx hb dB_36_0_9.2.2.2.1 (by decide) (fun c_10 => ?_) (fun c_10 => ?_)
          · have t_10 : vp.toInt ≤ x7_9.toInt := Int32.le_iff_toInt_le.mp c_10
            obtain ⟨y_11, ey_11⟩ : ∃ y : Int32, y = x5_4 + 1 := ⟨_, rfl⟩
            have ty_11 : y_11.toInt = x5_4.toInt + (1 : Int32).toInt := by rw [ey_11]; exact addI (by omega) (by omega)
            refine lv_iinc (v := y_11) (lv' := [(5, .int y_11), (7, .int x7_9), (6, .int y_8), (4, .int x4_9), (3, .int x3_9), (0, .ref xc), (1, .int a1), (2, .int a2)]) hx hb dB_36_0_12.2.1.1 hl (k := 2) rfl (by rw [ey_11]; rfl) (by decide) rfl (fun ls hl => ?_)
            refine lv_goto (tgt := 17) hx hb dB_36_0_12.2.1.2 (by decide) ?_
            exact ih_4 y_11 x4_9 x3_9 c_c7_9 c_c8_9 _ _ _ (by omega) (by first | with_reducible assumption | omega | assumption) (by first | with_reducible assumption | omega | assumption) (by first | with_reducible assumption | omega | assumption) (by first | with_reducible assumption | omega | assumption) (by first | with_reducible assumption | assumption | omega) (by first | exact hbf_ | assumption) (by first | exact don_0 | exact don_nx v6_9 v8_9 (by omega) (by omega) (by omega)) (by first | with_reducible assumption | omega | assumption) (by first | exact hbs0_ | exact bsr_nxt v11_9 (by omega) (by omega) (by omega)) (by first | with_reducible assumption | assumption | exact rng_zero (by omega) (by omega) | exact orng_zero) (by first | with_reducible assumption | assumption | exact rng_zero (by omega) (by omega) | exact orng_zero) ⟨hP, hD⟩ hS (lv_sub hl [0, 3, 4, 5, 6, 7] rfl)
          · have t_10 : ¬ vp.toInt ≤ x7_9.toInt := fun h => c_10 (Int32.le_iff_toInt_le.mpr h)
            refine lv_iload_n hx hb dB_36_0_9.2.2.2.2 rfl (lv_at hl 4 rfl) ?_
            refine lv_iload hx hb dB_36_0_10.1.1.1.1 (lv_at hl 0 rfl) ?_
            refine lv_ishr hx hb dB_36_0_10.1.1.1.2 ?_
            refine lv_topi (fun y_12 ey_12 => ?_)
            refine lv_iconst (v := 1) hx hb dB_36_0_10.1.1.2.1 (by decide) ?_
            refine lv_iand hx hb dB_36_0_10.1.1.2.2 ?_
            refine lv_topi (fun y_13 ey_13 => ?_)
            have hbw_ := bI_w (x := x3_9) (y := x7_9) (by omega) (by omega) ey_12 ey_13
            refine lv_if_ne (tgt := 113) hx hb dB_36_0_10.1.2.1.1 (by decide) (fun c_14 => ?_) (fun c_14 => ?_)
            · have t_14 : ¬ y_13.toInt = (0 : Int32).toInt := fun h => c_14 (Int32.toInt_inj.mp h)
              obtain ⟨y_15, ey_15⟩ : ∃ y : Int32, y = x7_9 + 1 := ⟨_, rfl⟩
              have ty_15 : y_15.toInt = x7_9.toInt + (1 : Int32).toInt := by rw [ey_15]; exact addI (by omega) (by omega)
              refine lv_iinc (v := y_15) (lv' := [(7, .int y_15), (6, .int y_8), (5, .int x5_4), (4, .int x4_9), (3, .int x3_9), (0, .ref xc), (1, .int a1), (2, .int a2)]) hx hb dB_36_0_12.1.2.1 hl (k := 0) rfl (by rw [ey_15]; rfl) (by decide) rfl (fun ls hl => ?_)
              refine lv_goto (tgt := 43) hx hb dB_36_0_12.1.2.2 (by decide) ?_
              exact ih_9 y_15 x4_9 x3_9 c_c7_9 c_c8_9 _ _ _ (by omega) (by first | with_reducible assumption | omega | assumption) (by first | with_reducible assumption | omega | assumption) (by first | with_reducible assumption | omega | assumption) (by first | with_reducible assumption | omega | assumption) (by first | with_reducible assumption | assumption | exact hp_ _ (by omega)) (by first | with_reducible assumption | assumption | exact hb2_ _ (by omega)) (by first | with_reducible assumption | assumption | exact hd2_) (by first | with_reducible assumption | omega | assumption) (by first | exact donY_0 | exact hy2_ _ (by omega) | exact donY_met v8_9 (by omega) (by omega) (Or.inl (bt_nz hbw_ (by omega))) | exact donY_met v8_9 (by omega) (by omega) (Or.inr (by omega))) (by first | with_reducible assumption | assumption | exact hn2_) (by first | with_reducible assumption | assumption | exact hx2_) (by first | exact v8_4 | exact hbs2_ _ _ (by omega) (by omega) | exact bsr_old v11_9 (by omega) (by omega) (by omega) (nc_lt (x := x5_4) (P := x4_9) (by omega) (by omega)) (Or.inl (v5_9.2.2.2.1 _ (bt_nz hbw_ (by omega)))) | exact bsr_old v11_9 (by omega) (by omega) (by omega) (nc_lt (x := x5_4) (P := x4_9) (by omega) (by omega)) (Or.inr (fun h_ => absurd (show (1 : Int) ≤ _ from h_) (by omega)))) (by first | with_reducible assumption | assumption | exact rng_zero (by omega) (by omega) | exact orng_zero) (by first | with_reducible assumption | assumption | exact rng_zero (by omega) (by omega) | exact orng_zero) ⟨hP, hD⟩ hS (lv_sub hl [0, 1, 2, 3, 4, 5, 6, 7] rfl)
            · have t_14 : y_13.toInt = (0 : Int32).toInt := congrArg Int32.toInt c_14
              have hun_ : bt x3_9 x7_9.toNatClampNeg = false := bt_zero (by omega) (by omega) ey_12 ey_13 (by omega)
              refine lv_aload_n hx hb dB_36_0_10.1.2.1.2 rfl (lv_at hl 5 rfl) ?_
              refine va_get (ci := 0) (v := .ref cro) (C := RX0) (T := TX0) (N := 9) hx hb hts (fun _ h => List.mem_cons_of_mem _ (List.mem_append_left _ (List.mem_append_right _ h))) hown hK.1 hP 0 rfl rfl 3 (by decide) (hts (.fieldLink RX0 16 "CutAtlas$Current" "room" "[[I") (List.mem_of_getElem? (i := 4) rfl)) (fun _ h9 => h9) rfl dB_36_0_10.1.2.2.1 ?_
              refine lv_iload hx hb dB_36_0_10.1.2.2.2 (lv_at hl 1 rfl) ?_
              have h_16 : vp_in y_8 12 := in_I (by first | with_reducible assumption | omega) (by omega)
              refine va_alda hx hb hG hP 2 rfl (i := y_8) h_16 dB_36_0_10.2.1.1.1 ?_
              refine lv_topv (v' := .ref (rr y_8.toNatClampNeg)) (gf_at h_16) ?_
              refine lv_iload hx hb dB_36_0_10.2.1.1.2 (lv_at hl 0 rfl) ?_
              have h_17 : vp_in x7_9 12 := in_I (by first | with_reducible assumption | omega) (by omega)
              have hPg : va_P D vwCl (([ob0_0_ xc xn xk clo cro c4 c5 c6 c7 c8, ob3_0_ xn vp vn n1 n2 n3 n4 n5, aq_ cy 6 cro 12 (gf_ rr)] : va_W) ++ (gro (cy 0) rr Mr ++ ([ai_ cy c7 12 c_c7_9, ai_ cy c8 12 c_c8_9] : va_W))) H := hP
              refine va_gld (X := [ob0_0_ xc xn xk clo cro c4 c5 c6 c7 c8, ob3_0_ xn vp vn n1 n2 n3 n4 n5, aq_ cy 6 cro 12 (gf_ rr)]) (Y := [ai_ cy c7 12 c_c7_9, ai_ cy c8 12 c_c8_9]) (r := rr) (M := Mr) (k := y_8.toNatClampNeg) hx hb hK.1 hPg 0 rfl (in_lt h_16) (i := x7_9) h_17 dB_36_0_10.2.1.2.1 ?_
              refine lv_topi (fun y_18 ey_18 => ?_)
              have hmw_ : y_18.toInt = zM Mr y_8.toNatClampNeg x7_9.toNatClampNeg := by unfold zM; rw [ey_18]
              have hmv_ : y_18.toInt = zM Mr (nF c_c7_9 x5_4.toNatClampNeg) x7_9.toNatClampNeg := by rw [hmw_, v10_9]; rfl
              refine lv_if_le (tgt := 113) hx hb dB_36_0_10.2.1.2.2 (by decide) (fun c_19 => ?_) (fun c_19 => ?_)
              · have t_19 : y_18.toInt ≤ (0 : Int32).toInt := Int32.le_iff_toInt_le.mp c_19
                obtain ⟨y_20, ey_20⟩ : ∃ y : Int32, y = x7_9 + 1 := ⟨_, rfl⟩
                have ty_20 : y_20.toInt = x7_9.toInt + (1 : Int32).toInt := by rw [ey_20]; exact addI (by omega) (by omega)
                refine lv_iinc (v := y_20) (lv' := [(7, .int y_20), (6, .int y_8), (5, .int x5_4), (4, .int x4_9), (3, .int x3_9), (0, .ref xc), (1, .int a1), (2, .int a2)]) hx hb dB_36_0_12.1.2.1 hl (k := 0) rfl (by rw [ey_20]; rfl) (by decide) rfl (fun ls hl => ?_)
                refine lv_goto (tgt := 43) hx hb dB_36_0_12.1.2.2 (by decide) ?_
                exact ih_9 y_20 x4_9 x3_9 c_c7_9 c_c8_9 _ _ _ (by omega) (by first | with_reducible assumption | omega | assumption) (by first | with_reducible assumption | omega | assumption) (by first | with_reducible assumption | omega | assumption) (by first | with_reducible assumption | omega | assumption) (by first | with_reducible assumption | assumption | exact hp_ _ (by omega)) (by first | with_reducible assumption | assumption | exact hb2_ _ (by omega)) (by first | with_reducible assumption | assumption | exact hd2_) (by first | with_reducible assumption | omega | assumption) (by first | exact donY_0 | exact hy2_ _ (by omega) | exact donY_met v8_9 (by omega) (by omega) (Or.inl (bt_nz hbw_ (by omega))) | exact donY_met v8_9 (by omega) (by omega) (Or.inr (by omega))) (by first | with_reducible assumption | assumption | exact hn2_) (by first | with_reducible assumption | assumption | exact hx2_) (by first | exact v8_4 | exact hbs2_ _ _ (by omega) (by omega) | exact bsr_old v11_9 (by omega) (by omega) (by omega) (nc_lt (x := x5_4) (P := x4_9) (by omega) (by omega)) (Or.inl (v5_9.2.2.2.1 _ (bt_nz hbw_ (by omega)))) | exact bsr_old v11_9 (by omega) (by omega) (by omega) (nc_lt (x := x5_4) (P := x4_9) (by omega) (by omega)) (Or.inr (fun h_ => absurd (show (1 : Int) ≤ _ from h_) (by omega)))) (by first | with_reducible assumption | assumption | exact rng_zero (by omega) (by omega) | exact orng_zero) (by first | with_reducible assumption | assumption | exact rng_zero (by omega) (by omega) | exact orng_zero) ⟨hP, hD⟩ hS (lv_sub hl [0, 1, 2, 3, 4, 5, 6, 7] rfl)
              · have t_19 : ¬ y_18.toInt ≤ (0 : Int32).toInt := fun h => c_19 (Int32.le_iff_toInt_le.mpr h)
                have hr_ : x4_9.toInt < 12 := mq_room (x := x3_9) (y := x7_9) (z := y_12) (w := y_13) (q := c_c7_9) (by assumption) (by omega) (by omega) (by assumption) (by assumption) (by omega) (by omega)
                have hnm_ : ¬ mmq (nF c_c7_9) x4_9.toNatClampNeg x7_9.toNatClampNeg := bfq_nm v5_9 hun_
                have hrr_ : rB (zM Mr) 1 (nF c_c7_9 x5_4.toNatClampNeg) x7_9.toNatClampNeg := show (1 : Int) ≤ _ from (by omega)
                refine lv_aload_n hx hb dB_36_0_10.2.2.1.1 rfl (lv_at hl 5 rfl) ?_
                refine va_get (ci := 0) (v := .ref c8) (C := RX0) (T := TX0) (N := 9) hx hb hts (fun _ h => List.mem_cons_of_mem _ (List.mem_append_left _ (List.mem_append_right _ h))) hown hK.1 hP 0 rfl rfl 8 (by decide) (hts (.fieldLink RX0 32 "CutAtlas$Current" "cameFrom" "[I") (List.mem_of_getElem? (i := 5) rfl)) (fun _ h9 => h9) rfl dB_36_0_10.2.2.1.2 ?_
                refine lv_iload hx hb dB_36_0_10.2.2.2.1 (lv_at hl 0 rfl) ?_
                refine lv_iload hx hb dB_36_0_10.2.2.2.2 (lv_at hl 1 rfl) ?_
                refine va_iast hx hb hK.1 hP hD hS 16 0 rfl rfl (i := x7_9) h_17 dB_36_0_11.1.1.1.1 (fun H locs hP hD hS => ?_)
                obtain ⟨f_22, ef_22⟩ : ∃ g : Nat → Int32, g = upd c_c8_9 x7_9.toNatClampNeg y_8 := ⟨_, rfl⟩
                refine pd_K (D := D) (cl := vwCl) (H := H) (A := A) [ob0_0_ xc xn xk clo cro c4 c5 c6 c7 c8, ob3_0_ xn vp vn n1 n2 n3 n4 n5, aq_ cy 6 cro 12 (gf_ rr), ai_ cy (rr 0) 12 (Mr 0), ai_ cy (rr 1) 12 (Mr 1), ai_ cy (rr 2) 12 (Mr 2), ai_ cy (rr 3) 12 (Mr 3), ai_ cy (rr 4) 12 (Mr 4), ai_ cy (rr 5) 12 (Mr 5), ai_ cy (rr 6) 12 (Mr 6), ai_ cy (rr 7) 12 (Mr 7), ai_ cy (rr 8) 12 (Mr 8), ai_ cy (rr 9) 12 (Mr 9), ai_ cy (rr 10) 12 (Mr 10), ai_ cy (rr 11) 12 (Mr 11), ai_ cy c7 12 c_c7_9, ai_ cy c8 12 f_22] (by rw [ef_22]; exact hP) (by rw [ef_22]; exact hD) (fun hP hD => ?_)
                have rf_22 : rng f_22 12 (0) (11) := by rw [ef_22]; exact rng_upd rc_c8_9 (by omega) (by omega)
                refine lv_iload hx hb dB_36_0_11.1.1.1.2 (lv_at hl 0 rfl) ?_
                refine lv_iload_n hx hb dB_36_0_11.1.1.2.1 rfl (lv_at hl 7 rfl) ?_
                refine lv_icmp_ne (tgt := 94) hx hb dB_36_0_11.1.1.2.2 (by decide) (fun c_23 => ?_) (fun c_23 => ?_)
                · have t_23 : ¬ x7_9.toInt = a2.toInt := fun h => c_23 (Int32.toInt_inj.mp h)
                  refine lv_iload_n hx hb dB_36_0_11.1.2.2.1 rfl (lv_at hl 4 rfl) ?_
                  refine lv_iconst (v := 1) hx hb dB_36_0_11.1.2.2.2 (by decide) ?_
                  refine lv_iload hx hb dB_36_0_11.2.1.1.1 (lv_at hl 0 rfl) ?_
                  refine lv_ishl hx hb dB_36_0_11.2.1.1.2 ?_
                  refine lv_topi (fun y_24 ey_24 => ?_)
                  refine lv_ior hx hb dB_36_0_11.2.1.2.1 ?_
                  refine lv_topi (fun y_25 ey_25 => ?_)
                  refine lv_istore_n (lv' := [(3, .int y_25), (7, .int x7_9), (6, .int y_8), (5, .int x5_4), (4, .int x4_9), (0, .ref xc), (1, .int a1), (2, .int a2)]) hx hb dB_36_0_11.2.1.2.2 rfl hl (by decide) rfl (fun ls hl => ?_)
                  refine lv_aload_n hx hb dB_36_0_11.2.2.1.1 rfl (lv_at hl 5 rfl) ?_
                  refine va_get (ci := 0) (v := .ref c7) (C := RX0) (T := TX0) (N := 9) hx hb hts (fun _ h => List.mem_cons_of_mem _ (List.mem_append_left _ (List.mem_append_right _ h))) hown hK.1 hP 0 rfl rfl 7 (by decide) (hts (.fieldLink RX0 29 "CutAtlas$Current" "queue" "[I") (List.mem_of_getElem? (i := 1) rfl)) (fun _ h9 => h9) rfl dB_36_0_11.2.2.1.2 ?_
                  refine lv_iload hx hb dB_36_0_11.2.2.2.1 (lv_at hl 4 rfl) ?_
                  refine lv_iload hx hb dB_36_0_11.2.2.2.2 (lv_at hl 1 rfl) ?_
                  have h_26 : vp_in x4_9 12 := in_I (by first | with_reducible assumption | omega) (by omega)
                  refine va_iast hx hb hK.1 hP hD hS 15 0 rfl rfl (i := x4_9) h_26 dB_36_0_12.1.1.1 (fun H locs hP hD hS => ?_)
                  obtain ⟨f_27, ef_27⟩ : ∃ g : Nat → Int32, g = upd c_c7_9 x4_9.toNatClampNeg x7_9 := ⟨_, rfl⟩
                  refine pd_K (D := D) (cl := vwCl) (H := H) (A := A) [ob0_0_ xc xn xk clo cro c4 c5 c6 c7 c8, ob3_0_ xn vp vn n1 n2 n3 n4 n5, aq_ cy 6 cro 12 (gf_ rr), ai_ cy (rr 0) 12 (Mr 0), ai_ cy (rr 1) 12 (Mr 1), ai_ cy (rr 2) 12 (Mr 2), ai_ cy (rr 3) 12 (Mr 3), ai_ cy (rr 4) 12 (Mr 4), ai_ cy (rr 5) 12 (Mr 5), ai_ cy (rr 6) 12 (Mr 6), ai_ cy (rr 7) 12 (Mr 7), ai_ cy (rr 8) 12 (Mr 8), ai_ cy (rr 9) 12 (Mr 9), ai_ cy (rr 10) 12 (Mr 10), ai_ cy (rr 11) 12 (Mr 11), ai_ cy c7 12 f_27, ai_ cy c8 12 f_22] (by rw [ef_27]; exact hP) (by rw [ef_27]; exact hD) (fun hP hD => ?_)
                  have rf_27 : rng f_27 12 (0) (11) := by rw [ef_27]; exact rng_upd rc_c7_9 (by omega) (by omega)
                  have hp_ : ∀ m2 : Int32, m2.toInt = x4_9.toInt + 1 → mq y_25 f_27 m2.toNatClampNeg := fun m2 em => mq_push (x := x3_9) (y := x7_9) (z := y_12) (w := y_13) (m := x4_9) (b := y_24) (q := c_c7_9) (by assumption) (by omega) (by omega) (by assumption) (by assumption) (by omega) (by omega) (by assumption) (by assumption) (by assumption) em
                  have hb2_ : ∀ m2 : Int32, m2.toInt = x4_9.toInt + 1 → bfq (rC (zM Mr) f_22) vp.toNatClampNeg a1.toNatClampNeg y_25 f_27 m2.toNatClampNeg := fun m2 em => bfq_push (h := x5_4.toNatClampNeg) v5_9 (by omega) (by omega) (nc_lt (by omega) (by omega)) (by omega) ey_24 ey_25 ef_27 em (nc_lt (x := x5_4) (P := x4_9) (by omega) (by omega)) (rC_up ef_22) hun_ (by have h_ := rC_new (M := zM Mr) (x := y_8) ef_22 (by omega); rw [show nF c_c7_9 x5_4.toNatClampNeg = y_8.toNatClampNeg by rw [v10_9]; rfl]; exact h_)
                  have hd2_ : don (zM Mr) vp.toNatClampNeg 1 y_25 f_27 x5_4.toNatClampNeg := don_push v6_9 ey_25 ef_27 (Nat.le_of_lt (nc_lt (x := x5_4) (P := x4_9) (by omega) (by omega)))
                  have hq9_ : f_27 x5_4.toNatClampNeg = c_c7_9 x5_4.toNatClampNeg := by rw [ef_27, pk_un (Nat.ne_of_lt (nc_lt (x := x5_4) (P := x4_9) (by omega) (by omega)))]
                  have hnq_ : nF f_27 x5_4.toNatClampNeg = nF c_c7_9 x5_4.toNatClampNeg := by unfold nF; rw [hq9_]
                  have hy2_ : ∀ y2 : Int32, y2.toInt = x7_9.toInt + 1 → donY (zM Mr) 1 y_25 (nF f_27 x5_4.toNatClampNeg) y2.toNatClampNeg := fun y2 ey => by rw [hnq_]; exact donY_push v8_9 (by omega) (by omega) ey_24 ey_25 ey
                  have hn2_ : bt y_25 a2.toNatClampNeg = false := nt_push v9_9 ey_24 ey_25 (by omega) (by omega) (by omega)
                  have hx2_ : y_8 = f_27 x5_4.toNatClampNeg := v10_9.trans hq9_.symm
                  have hbs2_ : ∀ m2 y2 : Int32, m2.toInt = x4_9.toInt + 1 → y2.toInt = x7_9.toInt + 1 → bsr (rB (zM Mr) 1) vp.toNatClampNeg a1.toNatClampNeg a2.toNatClampNeg x5_4.toNatClampNeg y2.toNatClampNeg (nF f_27) m2.toNatClampNeg (nF f_22) := fun m2 y2 em ey => bsr_new v11_9 (by omega) (by omega) (by omega) (nc_lt (x := x5_4) (P := x4_9) (by omega) (by omega)) hnm_ hrr_ (nc_ne (by omega) (by omega) (by omega)) ef_27 ef_22 v10_9 em ey (by omega)
                  obtain ⟨y_28, ey_28⟩ : ∃ y : Int32, y = x4_9 + 1 := ⟨_, rfl⟩
                  have ty_28 : y_28.toInt = x4_9.toInt + (1 : Int32).toInt := by rw [ey_28]; exact addI (by omega) (by omega)
                  refine lv_iinc (v := y_28) (lv' := [(4, .int y_28), (3, .int y_25), (7, .int x7_9), (6, .int y_8), (5, .int x5_4), (0, .ref xc), (1, .int a1), (2, .int a2)]) hx hb dB_36_0_12.1.1.2 hl (k := 4) rfl (by rw [ey_28]; rfl) (by decide) rfl (fun ls hl => ?_)
                  obtain ⟨y_29, ey_29⟩ : ∃ y : Int32, y = x7_9 + 1 := ⟨_, rfl⟩
                  have ty_29 : y_29.toInt = x7_9.toInt + (1 : Int32).toInt := by rw [ey_29]; exact addI (by omega) (by omega)
                  refine lv_iinc (v := y_29) (lv' := [(7, .int y_29), (4, .int y_28), (3, .int y_25), (6, .int y_8), (5, .int x5_4), (0, .ref xc), (1, .int a1), (2, .int a2)]) hx hb dB_36_0_12.1.2.1 hl (k := 2) rfl (by rw [ey_29]; rfl) (by decide) rfl (fun ls hl => ?_)
                  refine lv_goto (tgt := 43) hx hb dB_36_0_12.1.2.2 (by decide) ?_
                  exact ih_9 y_29 y_28 y_25 f_27 f_22 _ _ _ (by omega) (by first | with_reducible assumption | omega | assumption) (by first | with_reducible assumption | omega | assumption) (by first | with_reducible assumption | omega | assumption) (by first | with_reducible assumption | omega | assumption) (by first | with_reducible assumption | assumption | exact hp_ _ (by omega)) (by first | with_reducible assumption | assumption | exact hb2_ _ (by omega)) (by first | with_reducible assumption | assumption | exact hd2_) (by first | with_reducible assumption | omega | assumption) (by first | exact donY_0 | exact hy2_ _ (by omega) | exact donY_met v8_9 (by omega) (by omega) (Or.inl (bt_nz hbw_ (by omega))) | exact donY_met v8_9 (by omega) (by omega) (Or.inr (by omega))) (by first | with_reducible assumption | assumption | exact hn2_) (by first | with_reducible assumption | assumption | exact hx2_) (by first | exact v8_4 | exact hbs2_ _ _ (by omega) (by omega) | exact bsr_old v11_9 (by omega) (by omega) (by omega) (nc_lt (x := x5_4) (P := y_28) (by omega) (by omega)) (Or.inl (v5_9.2.2.2.1 _ (bt_nz hbw_ (by omega)))) | exact bsr_old v11_9 (by omega) (by omega) (by omega) (nc_lt (x := x5_4) (P := y_28) (by omega) (by omega)) (Or.inr (fun h_ => absurd (show (1 : Int) ≤ _ from h_) (by omega)))) (by first | with_reducible assumption | assumption | exact rng_zero (by omega) (by omega) | exact orng_zero) (by first | with_reducible assumption | assumption | exact rng_zero (by omega) (by omega) | exact orng_zero) ⟨hP, hD⟩ hS (lv_sub hl [0, 3, 4, 1, 2, 5, 6, 7] rfl)
                · have t_23 : x7_9.toInt = a2.toInt := congrArg Int32.toInt c_23
                  refine lv_iconst (v := 1) hx hb dB_36_0_11.1.2.1.1 (by decide) ?_
                  rw [hQ]
                  exact W.zret (ty := .boolean) (v := 1) hx hb hr (by decide) (fun t ht hW => ⟨⟨1, 1, rfl, ⟨rfl, (by omega)⟩, c_c7_9, f_22, (fun _ => by rw [show a2 = x7_9 from Int32.toInt_inj.mp (by omega)]; exact way_yes (x := y_8) v5_9 v4_9 ef_22 hun_ v10_9 (nc_lt (x := x5_4) (P := x4_9) (by omega) (by omega)) (by have c_ := clI (i := x4_9) (by omega); omega) (nc_lt (by omega) (by omega)) (by omega)), (fun h => absurd h (by decide)), (fun _ => fnd_mk v11_9 (show a2 = x7_9 from Int32.toInt_inj.mp (by omega)) (nc_lt (x := x5_4) (P := x4_9) (by omega) (by omega)) (nc_lt (by omega) (by omega)) hnm_ hrr_ ef_22 v10_9), (fun h => absurd h (by decide)), (by first | with_reducible assumption | assumption | exact rng_zero (by omega) (by omega) | omega), (by first | with_reducible assumption | assumption | exact rng_zero (by omega) (by omega) | omega), by rw [ht]; exact hP, hD⟩, hS.F ht⟩) hS.2.2 dB_36_0_11.1.2.1.2
end

section
set_option maxHeartbeats 4000000 in
set_option maxRecDepth 100000 in
theorem c_X12_isMet3 (l : Launch) (D : va_G) (cy : Nat → ClassId) (sz : Nat) (mo : Nat) (g5 : Nat) (g6 : Nat) (g7 : Nat) (g8 : Nat) (g9 : Nat) (g10 : Nat) (g12 : Nat) (g13 : Nat) (g14 : Nat) (g15 : Nat) (g16 : Nat) (g17 : Nat) (g18 : Nat) (g19 : Nat) (g20 : Nat) (g22 : Nat) (g23 : Nat) (g24 : Nat) (g29 : Nat) (g30 : Nat) (g31 : Nat) (g32 : Nat) (g33 : Nat) (s0 : Int32) (s1 : Int32) (s3 : Int32) (s4 : Int32) (s11 : Int32) (s21 : Int32) (s25 : Int32) (s26 : Int32) (s27 : Int32) (s28 : Int32) (t2 : Int64) (f23 : Nat → Int32) (a1 : Int32) (a2 : Int32) (q2 : 0 ≤ a2.toInt ∧ a2.toInt ≤ 12) : Met l yX12_isMet wsX12_isMet ({ frames := 0, cells := 0, slots := 0, locals := 0 }) (va_Pc [.ref mo, .int a1, .int a2] (fun U => U.heap.size = sz ∧ va_P D vwCl [ob12_0_ mo s0 s1 t2 s3 s4 g5 g6 g7 g8 g9 g10 s11 g12 g13 g14 g15 g16 g17 g18 g19 g20 s21 g22 g23 g24 s25 s26 s27 s28 g29 g30 g31 g32 g33, ai_ cy g23 12 f23] U.heap ∧ kk_ D cy U ∧ va_D (fun _ => True) [ob12_0_ mo s0 s1 t2 s3 s4 g5 g6 g7 g8 g9 g10 s11 g12 g13 g14 g15 g16 g17 g18 g19 g20 s21 g22 g23 g24 s25 s26 s27 s28 g29 g30 g31 g32 g33, ai_ cy g23 12 f23])) (va_Qi (fun (r : Int32) (_ : Unit) => (r.toInt = 0 ∨ r.toInt = 1) ∧ (r.toInt = 0 → ∀ j : Nat, (j : Int) < a2.toInt → (f23 j).toInt ≠ a1.toInt) ∧ (r.toInt ≠ 0 → ∃ j : Nat, (j : Int) < a2.toInt ∧ (f23 j).toInt = a1.toInt)) (fun (_ : Unit) (_ : State) => True) (va_A [] sz)) 0 0 (va_A [] sz) := by
  refine ofQ (cc := cX12_isMet) (maxL := 5) (ret := (some .boolean)) (by decide) rfl ?_
  intro p e s m args below meth c s₁ Q hQ B hml hv
  obtain ⟨rfl, hsz, hP, hK, hD0⟩ := hv
  have hx := B.exec
  have hb := B.bytes
  have hr := B.returns
  have hts := atoms_spec (ws := wsX12_isMet) B.pre
  have hown : s.vm.findClass RX12 = some m.cls := by have h_ := findClass_of_methodNamed B.named; exact h_
  have hlocks := B.notSynchronized
  subst hsz
  have hD : va_D (va_A [] s.heap.size) [] := dd_nil
  generalize hAe : va_A [] s.heap.size = A at hD hQ
  have hA : ∀ q : Nat, s.heap.size ≤ q → A q := fun q h => by rw [← hAe]; exact Or.inr h
  have hS : va_S A s.heap s.heap [] := va_S.rf
  have hl := lv_entry ([.ref mo, .int a1, .int a2]) (n := 5) (Nat.le_of_ble_eq_true rfl)
  rw [lg_entry_eq]
  generalize (lg_sl ([.ref mo, .int a1, .int a2]) ++ List.replicate (5 - (lg_sl ([.ref mo, .int a1, .int a2])).length) Slot.unset).toArray = ls at hl ⊢
  have hl : lv_has ls 5 [(0, .ref mo), (1, .int a1), (2, .int a2)] := hl
  have z0 : (0 : Int32).toInt = 0 := by decide
  have z1 : (1 : Int32).toInt = 1 := by decide
  have zq0 : (0 : Int32).toInt = 0 := by decide
  have zq1 : (1 : Int32).toInt = 1 := by decide
  refine lv_iconst (v := 0) hx hb dB_3_1_35.1.1.1.1 (by decide) ?_
  refine lv_istore_n (lv' := [(3, .int 0), (0, .ref mo), (1, .int a1), (2, .int a2)]) hx hb dB_3_1_35.1.1.1.2 rfl hl (by decide) rfl (fun ls hl => ?_)
  refine lv_iconst (v := 0) hx hb dB_3_1_35.1.1.2.1 (by decide) ?_
  refine lv_istore (lv' := [(4, .int 0), (3, .int 0), (0, .ref mo), (1, .int a1), (2, .int a2)]) hx hb dB_3_1_35.1.1.2.2 hl (by decide) rfl (fun ls hl => ?_)
  suffices LOOP_1 : ∀ (n_1 : Nat) (x4_1 : Int32) (x3_1 : Int32) (H : Heap) (locs : List Loc) (ls : Array Slot), a2.toInt - x4_1.toInt < (n_1 : Int) → (0 ≤ x4_1.toInt) → (x4_1.toInt ≤ a2.toInt) → (x3_1.toInt = 0 ∨ x3_1.toInt = 1) → (x3_1.toInt = 0 → ∀ j : Nat, (j : Int) < x4_1.toInt → (f23 j).toInt ≠ a1.toInt) → (x3_1.toInt ≠ 0 → ∃ j : Nat, (j : Int) < x4_1.toInt ∧ (f23 j).toInt = a1.toInt) → va_P D vwCl [ob12_0_ mo s0 s1 t2 s3 s4 g5 g6 g7 g8 g9 g10 s11 g12 g13 g14 g15 g16 g17 g18 g19 g20 s21 g22 g23 g24 s25 s26 s27 s28 g29 g30 g31 g32 g33, ai_ cy g23 12 f23] H → va_S A s.heap H locs → lv_has ls 5 [(4, .int x4_1), (3, .int x3_1), (0, .ref mo), (1, .int a1), (2, .int a2)] → W p l e ({ frames := 0, cells := 0, slots := 0, locals := 0 } : Room) s m (([.ref mo, .int a1, .int a2] : List Value).toArray) below meth c H locs 0 0 Q (F0 m 5 ls []) from LOOP_1 ((a2.toInt - (0 : Int32).toInt).toNat + 1) (0 : Int32) (0 : Int32) _ _ _ (by omega) (by first | with_reducible assumption | omega | assumption) (by first | with_reducible assumption | omega | assumption) (by first | with_reducible assumption | omega | assumption) (by first | (intro _ j hj; omega) | exact nmt_s v_none (by omega) (by omega) (by omega) (by omega) S[o] (by omega)) (by first | exact fun h => absurd zq0 h | exact met_s3 v_none (by omega) (by omega) (by omega) (by omega) S[o] (by first | exact fun _ => (by omega) | exact fun h => absurd h (by decide))) hP hS (lv_sub hl [0, 1, 2, 3, 4] rfl)
  intro n_1
  induction n_1 with
  | zero =>
    intro x4_1 x3_1 H locs ls hm v0_1 v1_1 v2_1 v3_1 v4_1 hP hS hl
    exact absurd hm (by omega)
  | succ n_1 ih_1 =>
    intro x4_1 x3_1 H locs ls hm v0_1 v1_1 v2_1 v3_1 v4_1 hP hS hl
    refine lv_iload hx hb dB_3_1_35.1.2.1.1 (lv_at hl 0 rfl) ?_
    refine lv_iload_n hx hb dB_3_1_35.1.2.1.2 rfl (lv_at hl 4 rfl) ?_
    refine lv_icmp_ge (tgt := 36) hx hb dB_3_1_35.1.2.2.1 (by decide) (fun c_2 => ?_) (fun c_2 => ?_)
    · have t_2 : a2.toInt ≤ x4_1.toInt := Int32.le_iff_toInt_le.mp c_2
      refine lv_iload_n hx hb dB_3_1_36.2.2.1 rfl (lv_at hl 1 rfl) ?_
      rw [hQ]
      exact W.zret (ty := .boolean) (v := x3_1) hx hb hr (nar_b (by omega)) (fun t ht hW => ⟨⟨x3_1, (), rfl, ⟨by omega, by rw [show a2 = x4_1 from Int32.toInt_inj.mp (by omega)]; exact v3_1, by rw [show a2 = x4_1 from Int32.toInt_inj.mp (by omega)]; exact v4_1⟩, trivial⟩, hS.F ht⟩) hS.2.2 dB_3_1_36.2.2.2
    · have t_2 : ¬ a2.toInt ≤ x4_1.toInt := fun h => c_2 (Int32.le_iff_toInt_le.mpr h)
      refine lv_iload_n hx hb dB_3_1_35.1.2.2.2 rfl (lv_at hl 1 rfl) ?_
      refine lv_aload_n hx hb dB_3_1_35.2.1.1.1 rfl (lv_at hl 2 rfl) ?_
      refine va_get (ci := 12) (v := .ref g23) (C := RX12) (T := TX12) (N := 34) hx hb hts (fun _ h => List.mem_cons_of_mem _ (List.mem_append_right _ h)) hown hK.1 hP 0 rfl rfl 23 (by decide) (hts (.fieldLink RX12 64 "CutAtlasModel" "queue" "[I") (List.mem_of_getElem? (i := 1) rfl)) (fun _ h9 => h9) rfl dB_3_1_35.2.1.1.2 ?_
      refine lv_iload hx hb dB_3_1_35.2.1.2.1 (lv_at hl 0 rfl) ?_
      have h_3 : vp_in x4_1 12 := in_I (by first | with_reducible assumption | omega) (by omega)
      refine va_iald hx hb hK.1 hP 1 0 rfl rfl (i := x4_1) h_3 dB_3_1_35.2.1.2.2 ?_
      refine lv_topi (fun y_4 ey_4 => ?_)
      have ky_4 : y_4.toInt = (f23 x4_1.toNatClampNeg).toInt := by rw [ey_4]
      refine lv_iload_n hx hb dB_3_1_35.2.2.1.1 rfl (lv_at hl 3 rfl) ?_
      refine lv_icmp_ne (tgt := 27) hx hb dB_3_1_35.2.2.1.2 (by decide) (fun c_5 => ?_) (fun c_5 => ?_)
      · have t_5 : ¬ y_4.toInt = a1.toInt := fun h => c_5 (Int32.toInt_inj.mp h)
        refine lv_iconst (v := 0) hx hb dB_3_1_36.1.1 (by decide) ?_
        refine lv_ior hx hb dB_3_1_36.1.2.1 ?_
        refine lv_topi (fun y_6 ey_6 => ?_)
        have ty_6 : y_6.toInt = 0 ∨ y_6.toInt = 1 := by rw [ey_6]; exact or01 (by omega) (by omega)
        refine lv_istore_n (lv' := [(3, .int y_6), (4, .int x4_1), (0, .ref mo), (1, .int a1), (2, .int a2)]) hx hb dB_3_1_36.1.2.2 rfl hl (by decide) rfl (fun ls hl => ?_)
        obtain ⟨y_7, ey_7⟩ : ∃ y : Int32, y = x4_1 + 1 := ⟨_, rfl⟩
        have ty_7 : y_7.toInt = x4_1.toInt + (1 : Int32).toInt := by rw [ey_7]; exact addI (by omega) (by omega)
        refine lv_iinc (v := y_7) (lv' := [(4, .int y_7), (3, .int y_6), (0, .ref mo), (1, .int a1), (2, .int a2)]) hx hb dB_3_1_36.2.1.1 hl (k := 1) rfl (by rw [ey_7]; rfl) (by decide) rfl (fun ls hl => ?_)
        refine lv_goto (tgt := 5) hx hb dB_3_1_36.2.1.2 (by decide) ?_
        exact ih_1 y_7 y_6 _ _ _ (by omega) (by first | with_reducible assumption | omega | assumption) (by first | with_reducible assumption | omega | assumption) (by first | with_reducible assumption | omega | assumption) (by first | (intro _ j hj; omega) | exact nmt_s v3_1 (by omega) (by omega) (by omega) (by omega) ey_6 (by omega)) (by first | exact fun h => absurd zq0 h | exact met_s3 v4_1 (by omega) (by omega) (by omega) (by omega) ey_6 (by first | exact fun _ => (by omega) | exact fun h => absurd h (by decide))) hP hS (lv_sub hl [0, 1, 2, 3, 4] rfl)
      · have t_5 : y_4.toInt = a1.toInt := congrArg Int32.toInt c_5
        refine lv_iconst (v := 1) hx hb dB_3_1_35.2.2.2.1 (by decide) ?_
        refine lv_goto (tgt := 28) hx hb dB_3_1_35.2.2.2.2 (by decide) ?_
        refine lv_ior hx hb dB_3_1_36.1.2.1 ?_
        refine lv_topi (fun y_8 ey_8 => ?_)
        have ty_8 : y_8.toInt = 0 ∨ y_8.toInt = 1 := by rw [ey_8]; exact or01 (by omega) (by omega)
        refine lv_istore_n (lv' := [(3, .int y_8), (4, .int x4_1), (0, .ref mo), (1, .int a1), (2, .int a2)]) hx hb dB_3_1_36.1.2.2 rfl hl (by decide) rfl (fun ls hl => ?_)
        obtain ⟨y_9, ey_9⟩ : ∃ y : Int32, y = x4_1 + 1 := ⟨_, rfl⟩
        have ty_9 : y_9.toInt = x4_1.toInt + (1 : Int32).toInt := by rw [ey_9]; exact addI (by omega) (by omega)
        refine lv_iinc (v := y_9) (lv' := [(4, .int y_9), (3, .int y_8), (0, .ref mo), (1, .int a1), (2, .int a2)]) hx hb dB_3_1_36.2.1.1 hl (k := 1) rfl (by rw [ey_9]; rfl) (by decide) rfl (fun ls hl => ?_)
        refine lv_goto (tgt := 5) hx hb dB_3_1_36.2.1.2 (by decide) ?_
        exact ih_1 y_9 y_8 _ _ _ (by omega) (by first | with_reducible assumption | omega | assumption) (by first | with_reducible assumption | omega | assumption) (by first | with_reducible assumption | omega | assumption) (by first | (intro _ j hj; omega) | exact nmt_s v3_1 (by omega) (by omega) (by omega) (by omega) ey_8 (by omega)) (by first | exact fun h => absurd zq0 h | exact met_s3 v4_1 (by omega) (by omega) (by omega) (by omega) ey_8 (by first | exact fun _ => (by omega) | exact fun h => absurd h (by decide))) hP hS (lv_sub hl [0, 1, 2, 3, 4] rfl)

set_option maxHeartbeats 4000000 in
set_option maxRecDepth 100000 in
theorem c_X12_hasWay3 (l : Launch) (D : va_G) (cy : Nat → ClassId) (sz : Nat) (mo : Nat) (g5 : Nat) (g6 : Nat) (g7 : Nat) (g8 : Nat) (g9 : Nat) (g10 : Nat) (g12 : Nat) (g13 : Nat) (g14 : Nat) (g15 : Nat) (g16 : Nat) (g17 : Nat) (g18 : Nat) (g19 : Nat) (g20 : Nat) (g22 : Nat) (g23 : Nat) (g24 : Nat) (g29 : Nat) (g30 : Nat) (g31 : Nat) (g32 : Nat) (g33 : Nat) (s0 : Int32) (s1 : Int32) (s3 : Int32) (s4 : Int32) (s11 : Int32) (s21 : Int32) (s25 : Int32) (s26 : Int32) (s27 : Int32) (s28 : Int32) (t2 : Int64) (f5 : Nat → Int32) (f6 : Nat → Int32) (f7 : Nat → Int32) (f8 : Nat → Int32) (f10 : Nat → Int32) (f22 : Nat → Int32) (f23 : Nat → Int32) (f24 : Nat → Int32) (a1 : Int32) (a2 : Int32) (hN : 0 ≤ s4.toInt ∧ s4.toInt ≤ 40) (hPl : 0 ≤ s3.toInt ∧ s3.toInt ≤ 12) (h21 : s21.toInt = -9) (hfl : flOK f5 f8 f22) (q1 : 0 ≤ a1.toInt ∧ a1.toInt < s3.toInt) (q2 : 0 ≤ a2.toInt ∧ a2.toInt < s3.toInt) (r_f8 : rng f8 40 (0) (2000)) (r_f23 : rng f23 12 (0) (11)) (r_f24 : rng f24 12 (0) (11)) : Met l yX12_hasWay wsX12_hasWay ({ frames := 4, cells := 0, slots := 0, locals := 93 }) (va_Pc [.ref mo, .int a1, .int a2] (fun U => U.heap.size = sz ∧ va_P D vwCl [ob12_0_ mo s0 s1 t2 s3 s4 g5 g6 g7 g8 g9 g10 s11 g12 g13 g14 g15 g16 g17 g18 g19 g20 s21 g22 g23 g24 s25 s26 s27 s28 g29 g30 g31 g32 g33, ai_ cy g5 40 f5, ai_ cy g6 40 f6, ai_ cy g7 40 f7, ai_ cy g8 40 f8, az_ cy g10 40 f10, ai_ cy g22 40 f22, ai_ cy g23 12 f23, ai_ cy g24 12 f24] U.heap ∧ kk_ D cy U ∧ va_D (fun _ => True) [ob12_0_ mo s0 s1 t2 s3 s4 g5 g6 g7 g8 g9 g10 s11 g12 g13 g14 g15 g16 g17 g18 g19 g20 s21 g22 g23 g24 s25 s26 s27 s28 g29 g30 g31 g32 g33, ai_ cy g5 40 f5, ai_ cy g6 40 f6, ai_ cy g7 40 f7, ai_ cy g8 40 f8, az_ cy g10 40 f10, ai_ cy g22 40 f22, ai_ cy g23 12 f23, ai_ cy g24 12 f24])) (va_Qi (fun (r : Int32) (u : Int32) => u = r ∧ ((((0 : Int) ≤ 0) ∧ r = 0) ∨ (((0 : Int) ≤ 0) ∧ r = 1))) (fun (u : Int32) (t : State) => ∃ (e23 : Nat → Int32), ∃ (e24 : Nat → Int32), (u = 1 → ∃ n : Nat, bfs (fun x y => sumI (lfI f5 f6 f7 f8 f10 f22 x y) s4.toNatClampNeg) e23 e24 a1 s3.toInt (n + 1) ∧ e23 n = a2) ∧ (u = 1 → fndR (fun x y : Nat => 1 ≤ sumI (lfI f5 f6 f7 f8 f10 f22 (x : Int) (y : Int)) s4.toNatClampNeg) s3.toNatClampNeg a1.toNatClampNeg a2.toNatClampNeg (nF e24)) ∧ (u = 0 → ndR (fun x y : Nat => 1 ≤ sumI (lfI f5 f6 f7 f8 f10 f22 (x : Int) (y : Int)) s4.toNatClampNeg) s3.toNatClampNeg a1.toNatClampNeg a2.toNatClampNeg) ∧ (rng e23 12 (0) (11)) ∧ (rng e24 12 (0) (11)) ∧ va_P D vwCl [ob12_0_ mo s0 s1 t2 s3 s4 g5 g6 g7 g8 g9 g10 s11 g12 g13 g14 g15 g16 g17 g18 g19 g20 s21 g22 g23 g24 s25 s26 s27 s28 g29 g30 g31 g32 g33, ai_ cy g5 40 f5, ai_ cy g6 40 f6, ai_ cy g7 40 f7, ai_ cy g8 40 f8, az_ cy g10 40 f10, ai_ cy g22 40 f22, ai_ cy g23 12 e23, ai_ cy g24 12 e24] t.heap ∧ va_D (va_A [ob12_0_ mo s0 s1 t2 s3 s4 g5 g6 g7 g8 g9 g10 s11 g12 g13 g14 g15 g16 g17 g18 g19 g20 s21 g22 g23 g24 s25 s26 s27 s28 g29 g30 g31 g32 g33, ai_ cy g5 40 f5, ai_ cy g6 40 f6, ai_ cy g7 40 f7, ai_ cy g8 40 f8, az_ cy g10 40 f10, ai_ cy g22 40 f22, ai_ cy g23 12 f23, ai_ cy g24 12 f24] sz) [ob12_0_ mo s0 s1 t2 s3 s4 g5 g6 g7 g8 g9 g10 s11 g12 g13 g14 g15 g16 g17 g18 g19 g20 s21 g22 g23 g24 s25 s26 s27 s28 g29 g30 g31 g32 g33, ai_ cy g5 40 f5, ai_ cy g6 40 f6, ai_ cy g7 40 f7, ai_ cy g8 40 f8, az_ cy g10 40 f10, ai_ cy g22 40 f22, ai_ cy g23 12 e23, ai_ cy g24 12 e24]) (va_A [ob12_0_ mo s0 s1 t2 s3 s4 g5 g6 g7 g8 g9 g10 s11 g12 g13 g14 g15 g16 g17 g18 g19 g20 s21 g22 g23 g24 s25 s26 s27 s28 g29 g30 g31 g32 g33, ai_ cy g5 40 f5, ai_ cy g6 40 f6, ai_ cy g7 40 f7, ai_ cy g8 40 f8, az_ cy g10 40 f10, ai_ cy g22 40 f22, ai_ cy g23 12 f23, ai_ cy g24 12 f24] sz)) 0 0 (va_A [ob12_0_ mo s0 s1 t2 s3 s4 g5 g6 g7 g8 g9 g10 s11 g12 g13 g14 g15 g16 g17 g18 g19 g20 s21 g22 g23 g24 s25 s26 s27 s28 g29 g30 g31 g32 g33, ai_ cy g5 40 f5, ai_ cy g6 40 f6, ai_ cy g7 40 f7, ai_ cy g8 40 f8, az_ cy g10 40 f10, ai_ cy g22 40 f22, ai_ cy g23 12 f23, ai_ cy g24 12 f24] sz) := by
  refine ofQ (cc := cX12_hasWay) (maxL := 6) (ret := (some .boolean)) (by decide) rfl ?_
  intro p e s m args below meth c s₁ Q hQ B hml hv
  obtain ⟨rfl, hsz, hP, hK, hD0⟩ := hv
  have hx := B.exec
  have hb := B.bytes
  have hr := B.returns
  have hts := atoms_spec (ws := wsX12_hasWay) B.pre
  have hown : s.vm.findClass RX12 = some m.cls := by have h_ := findClass_of_methodNamed B.named; exact h_
  have hlocks := B.notSynchronized
  subst hsz
  have hD := hD0.self (sz := s.heap.size)
  generalize hAe : va_A [ob12_0_ mo s0 s1 t2 s3 s4 g5 g6 g7 g8 g9 g10 s11 g12 g13 g14 g15 g16 g17 g18 g19 g20 s21 g22 g23 g24 s25 s26 s27 s28 g29 g30 g31 g32 g33, ai_ cy g5 40 f5, ai_ cy g6 40 f6, ai_ cy g7 40 f7, ai_ cy g8 40 f8, az_ cy g10 40 f10, ai_ cy g22 40 f22, ai_ cy g23 12 f23, ai_ cy g24 12 f24] s.heap.size = A at hD hQ
  have hA : ∀ q : Nat, s.heap.size ≤ q → A q := fun q h => by rw [← hAe]; exact Or.inr h
  have hS : va_S A s.heap s.heap [] := va_S.rf
  have hl := lv_entry ([.ref mo, .int a1, .int a2]) (n := 6) (Nat.le_of_ble_eq_true rfl)
  rw [lg_entry_eq]
  generalize (lg_sl ([.ref mo, .int a1, .int a2]) ++ List.replicate (6 - (lg_sl ([.ref mo, .int a1, .int a2])).length) Slot.unset).toArray = ls at hl ⊢
  have hl : lv_has ls 6 [(0, .ref mo), (1, .int a1), (2, .int a2)] := hl
  have z0 : (0 : Int32).toInt = 0 := by decide
  have z1 : (1 : Int32).toInt = 1 := by decide
  refine lv_aload_n hx hb dB_3_1_31.1.1.1.1 rfl (lv_at hl 0 rfl) ?_
  refine va_get (ci := 12) (v := .ref g23) (C := RX12) (T := TX12) (N := 34) hx hb hts (fun _ h => List.mem_cons_of_mem _ (List.mem_append_right _ h)) hown hK.1 hP 0 rfl rfl 23 (by decide) (hts (.fieldLink RX12 64 "CutAtlasModel" "queue" "[I") (List.mem_of_getElem? (i := 1) rfl)) (fun _ h9 => h9) rfl dB_3_1_31.1.1.1.2 ?_
  refine lv_iconst (v := 0) hx hb dB_3_1_31.1.1.2.1 (by decide) ?_
  refine lv_iload_n hx hb dB_3_1_31.1.1.2.2 rfl (lv_at hl 1 rfl) ?_
  have h_1 : vp_in (0 : Int32) 12 := by unfold vp_in; decide
  refine va_iast hx hb hK.1 hP hD hS 7 0 rfl rfl (i := 0) h_1 dB_3_1_31.1.2.1.1 (fun H locs hP hD hS => ?_)
  obtain ⟨f_2, ef_2⟩ : ∃ g : Nat → Int32, g = upd f23 (0 : Int32).toNatClampNeg a1 := ⟨_, rfl⟩
  refine pd_K (D := D) (cl := vwCl) (H := H) (A := A) [ob12_0_ mo s0 s1 t2 s3 s4 g5 g6 g7 g8 g9 g10 s11 g12 g13 g14 g15 g16 g17 g18 g19 g20 s21 g22 g23 g24 s25 s26 s27 s28 g29 g30 g31 g32 g33, ai_ cy g5 40 f5, ai_ cy g6 40 f6, ai_ cy g7 40 f7, ai_ cy g8 40 f8, az_ cy g10 40 f10, ai_ cy g22 40 f22, ai_ cy g23 12 f_2, ai_ cy g24 12 f24] (by rw [ef_2]; exact hP) (by rw [ef_2]; exact hD) (fun hP hD => ?_)
  have rf_2 : rng f_2 12 (0) (11) := by rw [ef_2]; exact rng_upd r_f23 (by omega) (by omega)
  refine lv_iconst (v := 1) hx hb dB_3_1_31.1.2.1.2 (by decide) ?_
  refine lv_istore_n (lv' := [(3, .int 1), (0, .ref mo), (1, .int a1), (2, .int a2)]) hx hb dB_3_1_31.1.2.2.1 rfl hl (by decide) rfl (fun ls hl => ?_)
  have hb1 : bfs (fun x y => sumI (lfI f5 f6 f7 f8 f10 f22 x y) s4.toNatClampNeg) f_2 f24 a1 s3.toInt 1 := bfs_one (by assumption) (by omega) (by omega)
  have hbs0_ : bsr (fun x y : Nat => 1 ≤ sumI (lfI f5 f6 f7 f8 f10 f22 (x : Int) (y : Int)) s4.toNatClampNeg) s3.toNatClampNeg a1.toNatClampNeg a2.toNatClampNeg (0 : Int32).toNatClampNeg 0 (nF f_2) (1 : Int32).toNatClampNeg (nF f24) := bsr_one ef_2
  refine lv_iconst (v := 0) hx hb dB_3_1_31.1.2.2.2 (by decide) ?_
  refine lv_istore (lv' := [(4, .int 0), (3, .int 1), (0, .ref mo), (1, .int a1), (2, .int a2)]) hx hb dB_3_1_31.2.1.1.1 hl (by decide) rfl (fun ls hl => ?_)
  suffices LOOP_3 : ∀ (n_3 : Nat) (x4_3 : Int32) (x3_3 : Int32) (c_g23_3 : Nat → Int32) (c_g24_3 : Nat → Int32) (H : Heap) (locs : List Loc) (ls : Array Slot), 12 - x4_3.toInt < (n_3 : Int) → (1 ≤ x3_3.toInt) → (x3_3.toInt ≤ s3.toInt) → (0 ≤ x4_3.toInt) → (x4_3.toInt ≤ x3_3.toInt) → (bfs (fun x y => sumI (lfI f5 f6 f7 f8 f10 f22 x y) s4.toNatClampNeg) c_g23_3 c_g24_3 a1 s3.toInt x3_3.toNatClampNeg) → (bsr (fun x y : Nat => 1 ≤ sumI (lfI f5 f6 f7 f8 f10 f22 (x : Int) (y : Int)) s4.toNatClampNeg) s3.toNatClampNeg a1.toNatClampNeg a2.toNatClampNeg x4_3.toNatClampNeg 0 (nF c_g23_3) x3_3.toNatClampNeg (nF c_g24_3)) → (rng c_g23_3 12 (0) (11)) → (rng c_g24_3 12 (0) (11)) → pd_2 D vwCl A [ob12_0_ mo s0 s1 t2 s3 s4 g5 g6 g7 g8 g9 g10 s11 g12 g13 g14 g15 g16 g17 g18 g19 g20 s21 g22 g23 g24 s25 s26 s27 s28 g29 g30 g31 g32 g33, ai_ cy g5 40 f5, ai_ cy g6 40 f6, ai_ cy g7 40 f7, ai_ cy g8 40 f8, az_ cy g10 40 f10, ai_ cy g22 40 f22, ai_ cy g23 12 c_g23_3, ai_ cy g24 12 c_g24_3] H → va_S A s.heap H locs → lv_has ls 6 [(4, .int x4_3), (3, .int x3_3), (0, .ref mo), (1, .int a1), (2, .int a2)] → W p l e ({ frames := 4, cells := 0, slots := 0, locals := 93 } : Room) s m (([.ref mo, .int a1, .int a2] : List Value).toArray) below meth c H locs 0 0 Q (F0 m 12 ls []) from LOOP_3 ((12 - (0 : Int32).toInt).toNat + 1) (0 : Int32) (1 : Int32) f_2 f24 _ _ _ (by omega) (by first | with_reducible assumption | omega | assumption) (by first | with_reducible assumption | omega | assumption) (by first | with_reducible assumption | omega | assumption) (by first | with_reducible assumption | omega | assumption) (by first | with_reducible assumption | assumption | exact hb1) (by first | exact hbs0_ | exact bsr_nxt v_none (by omega) (by omega) (by omega)) (by first | with_reducible assumption | assumption | exact rng_zero (by omega) (by omega) | exact orng_zero) (by first | with_reducible assumption | assumption | exact rng_zero (by omega) (by omega) | exact orng_zero) ⟨hP, hD⟩ hS (lv_sub hl [0, 1, 2, 3, 4] rfl)
  intro n_3
  induction n_3 with
  | zero =>
    intro x4_3 x3_3 c_g23_3 c_g24_3 H locs ls hm v0_3 v1_3 v2_3 v3_3 v4_3 v5_3 rc_g23_3 rc_g24_3 hPD hS hl; obtain ⟨hP, hD⟩ := hPD
    exact absurd hm (by omega)
  | succ n_3 ih_3 =>
    intro x4_3 x3_3 c_g23_3 c_g24_3 H locs ls hm v0_3 v1_3 v2_3 v3_3 v4_3 v5_3 rc_g23_3 rc_g24_3 hPD hS hl; obtain ⟨hP, hD⟩ := hPD
    refine lv_iload hx hb dB_3_1_31.2.1.1.2 (lv_at hl 0 rfl) ?_
    refine lv_iload_n hx hb dB_3_1_31.2.1.2.1 rfl (lv_at hl 1 rfl) ?_
    refine lv_icmp_ge (tgt := 101) hx hb dB_3_1_31.2.1.2.2 (by decide) (fun c_4 => ?_) (fun c_4 => ?_)
    · have t_4 : x3_3.toInt ≤ x4_3.toInt := Int32.le_iff_toInt_le.mp c_4
      refine lv_iconst (v := 0) hx hb dB_3_1_34.2.2.1 (by decide) ?_
      rw [hQ]
      exact W.zret (ty := .boolean) (v := 0) hx hb hr (by decide) (fun t ht hW => ⟨⟨0, 0, rfl, ⟨rfl, Or.inl (⟨by omega, rfl⟩)⟩, c_g23_3, c_g24_3, (fun h => absurd h (by decide)), (fun h => absurd h (by decide)), (fun _ => ⟨_, _, _, _, v5_3, nc_le (by omega) (by omega)⟩), (by assumption), (by assumption), by rw [ht]; exact hP, hD⟩, hS.F ht⟩) hS.2.2 dB_3_1_34.2.2.2
    · have t_4 : ¬ x3_3.toInt ≤ x4_3.toInt := fun h => c_4 (Int32.le_iff_toInt_le.mpr h)
      refine lv_iconst (v := 0) hx hb dB_3_1_31.2.2.1.1 (by decide) ?_
      refine lv_istore (lv' := [(5, .int 0), (4, .int x4_3), (3, .int x3_3), (0, .ref mo), (1, .int a1), (2, .int a2)]) hx hb dB_3_1_31.2.2.1.2 hl (by decide) rfl (fun ls hl => ?_)
      suffices LOOP_5 : ∀ (n_5 : Nat) (x5_5 : Int32) (x3_5 : Int32) (c_g23_5 : Nat → Int32) (c_g24_5 : Nat → Int32) (H : Heap) (locs : List Loc) (ls : Array Slot), s3.toInt - x5_5.toInt < (n_5 : Int) → (1 ≤ x3_5.toInt) → (x3_5.toInt ≤ s3.toInt) → (x4_3.toInt < x3_5.toInt) → (0 ≤ x5_5.toInt) → (x5_5.toInt ≤ s3.toInt) → (bfs (fun x y => sumI (lfI f5 f6 f7 f8 f10 f22 x y) s4.toNatClampNeg) c_g23_5 c_g24_5 a1 s3.toInt x3_5.toNatClampNeg) → (bsr (fun x y : Nat => 1 ≤ sumI (lfI f5 f6 f7 f8 f10 f22 (x : Int) (y : Int)) s4.toNatClampNeg) s3.toNatClampNeg a1.toNatClampNeg a2.toNatClampNeg x4_3.toNatClampNeg x5_5.toNatClampNeg (nF c_g23_5) x3_5.toNatClampNeg (nF c_g24_5)) → (rng c_g23_5 12 (0) (11)) → (rng c_g24_5 12 (0) (11)) → pd_2 D vwCl A [ob12_0_ mo s0 s1 t2 s3 s4 g5 g6 g7 g8 g9 g10 s11 g12 g13 g14 g15 g16 g17 g18 g19 g20 s21 g22 g23 g24 s25 s26 s27 s28 g29 g30 g31 g32 g33, ai_ cy g5 40 f5, ai_ cy g6 40 f6, ai_ cy g7 40 f7, ai_ cy g8 40 f8, az_ cy g10 40 f10, ai_ cy g22 40 f22, ai_ cy g23 12 c_g23_5, ai_ cy g24 12 c_g24_5] H → va_S A s.heap H locs → lv_has ls 6 [(5, .int x5_5), (4, .int x4_3), (3, .int x3_5), (0, .ref mo), (1, .int a1), (2, .int a2)] → W p l e ({ frames := 4, cells := 0, slots := 0, locals := 93 } : Room) s m (([.ref mo, .int a1, .int a2] : List Value).toArray) below meth c H locs 0 0 Q (F0 m 21 ls []) from LOOP_5 ((s3.toInt - (0 : Int32).toInt).toNat + 1) (0 : Int32) x3_3 c_g23_3 c_g24_3 _ _ _ (by omega) (by first | with_reducible assumption | omega | assumption) (by first | with_reducible assumption | omega | assumption) (by first | with_reducible assumption | omega | assumption) (by first | with_reducible assumption | omega | assumption) (by first | with_reducible assumption | omega | assumption) (by first | with_reducible assumption | assumption | exact bfs_eq hb2 (by omega) (by omega)) (by first | exact v5_3 | exact hbs2_ _ _ (by omega) (by omega) | exact bsr_old v_none (by omega) (by omega) (by omega) (nc_lt (x := x4_3) (P := x3_3) (by omega) (by omega)) (Or.inl (mmq_of (hme_ (by omega)))) | exact bsr_old v_none (by omega) (by omega) (by omega) (nc_lt (x := x4_3) (P := x3_3) (by omega) (by omega)) (Or.inr (fun h_ => absurd (hrf_.mp h_) (by omega)))) (by first | with_reducible assumption | assumption | exact rng_zero (by omega) (by omega) | exact orng_zero) (by first | with_reducible assumption | assumption | exact rng_zero (by omega) (by omega) | exact orng_zero) ⟨hP, hD⟩ hS (lv_sub hl [0, 1, 2, 3, 4, 5] rfl)
      intro n_5
      induction n_5 with
      | zero =>
        intro x5_5 x3_5 c_g23_5 c_g24_5 H locs ls hm v0_5 v1_5 v2_5 v3_5 v4_5 v5_5 v6_5 rc_g23_5 rc_g24_5 hPD hS hl; obtain ⟨hP, hD⟩ := hPD
        exact absurd hm (by omega)
      | succ n_5 ih_5 =>
        intro x5_5 x3_5 c_g23_5 c_g24_5 H locs ls hm v0_5 v1_5 v2_5 v3_5 v4_5 v5_5 v6_5 rc_g23_5 rc_g24_5 hPD hS hl; obtain ⟨hP, hD⟩ := hPD
        refine lv_iload hx hb dB_3_1_31.2.2.2.1 (lv_at hl 0 rfl) ?_
        refine lv_aload_n hx hb dB_3_1_31.2.2.2.2 rfl (lv_at hl 3 rfl) ?_
        refine va_get (ci := 12) (v := .int s3) (C := RX12) (T := TX12) (N := 34) hx hb hts (fun _ h => List.mem_cons_of_mem _ (List.mem_append_right _ h)) hown hK.1 hP 0 rfl rfl 3 (by decide) (hts (.fieldLink RX12 88 "CutAtlasModel" "places" "I") (List.mem_of_getElem? (i := 2) rfl)) (fun _ h9 => h9) rfl dB_3_1_32.1.1.1.1 ?_
        refine lv_icmp_ge (tgt := 95) hx hb dB_3_1_32.1.1.1.2 (by decide) (fun c_6 => ?_) (fun c_6 => ?_)
        · have t_6 : s3.toInt ≤ x5_5.toInt := Int32.le_iff_toInt_le.mp c_6
          obtain ⟨y_7, ey_7⟩ : ∃ y : Int32, y = x4_3 + 1 := ⟨_, rfl⟩
          have ty_7 : y_7.toInt = x4_3.toInt + (1 : Int32).toInt := by rw [ey_7]; exact addI (by omega) (by omega)
          refine lv_iinc (v := y_7) (lv' := [(4, .int y_7), (5, .int x5_5), (3, .int x3_5), (0, .ref mo), (1, .int a1), (2, .int a2)]) hx hb dB_3_1_34.2.1.1 hl (k := 1) rfl (by rw [ey_7]; rfl) (by decide) rfl (fun ls hl => ?_)
          refine lv_goto (tgt := 12) hx hb dB_3_1_34.2.1.2 (by decide) ?_
          exact ih_3 y_7 x3_5 c_g23_5 c_g24_5 _ _ _ (by omega) (by first | with_reducible assumption | omega | assumption) (by first | with_reducible assumption | omega | assumption) (by first | with_reducible assumption | omega | assumption) (by first | with_reducible assumption | omega | assumption) (by first | with_reducible assumption | assumption | exact hb1) (by first | exact hbs0_ | exact bsr_nxt v6_5 (by omega) (by omega) (by omega)) (by first | with_reducible assumption | assumption | exact rng_zero (by omega) (by omega) | exact orng_zero) (by first | with_reducible assumption | assumption | exact rng_zero (by omega) (by omega) | exact orng_zero) ⟨hP, hD⟩ hS (lv_sub hl [0, 2, 3, 4, 5] rfl)
        · have t_6 : ¬ s3.toInt ≤ x5_5.toInt := fun h => c_6 (Int32.le_iff_toInt_le.mpr h)
          refine lv_aload_n hx hb dB_3_1_32.1.1.2.1 rfl (lv_at hl 3 rfl) ?_
          refine lv_iload hx hb dB_3_1_32.1.1.2.2 (lv_at hl 0 rfl) ?_
          refine lv_iload_n hx hb dB_3_1_32.1.2.1.1 rfl (lv_at hl 2 rfl) ?_
          refine ct_R hP hD [ob12_0_ mo s0 s1 t2 s3 s4 g5 g6 g7 g8 g9 g10 s11 g12 g13 g14 g15 g16 g17 g18 g19 g20 s21 g22 g23 g24 s25 s26 s27 s28 g29 g30 g31 g32 g33, ai_ cy g23 12 c_g23_5] [0, 7] (by decide) rfl (fun hPc hDw => ?_)
          have hFc := va_free (wc := []) hD hS hA [] rfl
          refine va_calli (va_runV (As := [.int x5_5, .int x3_5]) (rest := []) ⟨hx, hb, hml, hown, hts⟩ (c_X12_isMet3 l D cy H.size mo g5 g6 g7 g8 g9 g10 g12 g13 g14 g15 g16 g17 g18 g19 g20 g22 g23 g24 g29 g30 g31 g32 g33 s0 s1 s3 s4 s11 s21 s25 s26 s27 s28 t2 c_g23_5 x5_5 x3_5 (by first | with_reducible assumption | omega | assumption)) (cwV 2 hts gX12_hasWay_X12_isMet rfl rfl rfl ⟨rfl, hd_X12_isMet⟩ ⟨Nat.le_of_ble_eq_true rfl, Nat.le_of_ble_eq_true rfl⟩) ⟨bl_, va_recvX hK.1 hP (ci := 12) (q0 := 0) rfl rfl, fun U hU hW => ⟨rfl, by rw [hU], by rw [hU]; exact hPc, kk_mv hW hK, hDw⟩⟩ rfl rfl hl.1 rfl (lv_room (Nat.le_of_ble_eq_true rfl)) dB_3_1_32.1.2.1.2 ⟨Nat.le_of_ble_eq_true rfl, Nat.le_of_ble_eq_true rfl⟩) hS (fun q _ h => hFc q h) hFc (fun r_8 u t H locs ht hvm hw hB hz1 hk1 hS => ?_)
          have hP : va_P D vwCl _ H := ro_keep hP hk1
          obtain ⟨f0_r_8, f1_r_8, f2_r_8⟩ := hw
          have hm_ := f1_r_8
          have hme_ := f2_r_8
          refine lv_if_ne (tgt := 89) hx hb dB_3_1_32.1.2.2.1 (by decide) (fun c_9 => ?_) (fun c_9 => ?_)
          · have t_9 : ¬ r_8.toInt = (0 : Int32).toInt := fun h => c_9 (Int32.toInt_inj.mp h)
            first | (have hbs2_ : ∀ m2 y2 : Int32, m2.toInt = S[m].toInt + 1 → y2.toInt = x5_5.toInt + 1 → bsr (fun x y : Nat => 1 ≤ sumI (lfI f5 f6 f7 f8 f10 f22 (x : Int) (y : Int)) s4.toNatClampNeg) s3.toNatClampNeg a1.toNatClampNeg a2.toNatClampNeg x4_3.toNatClampNeg y2.toNatClampNeg (nF c_g23_5) m2.toNatClampNeg (nF c_g24_5) := fun m2 y2 em ey => bsr_new v6_5 (by omega) (by omega) (by omega) S[lh] hnm_ hrr_ (nc_ne (by omega) (by omega) (by omega)) S[eq] S[ec] hvx_ em ey (by omega)) | skip
            obtain ⟨y_10, ey_10⟩ : ∃ y : Int32, y = x5_5 + 1 := ⟨_, rfl⟩
            have ty_10 : y_10.toInt = x5_5.toInt + (1 : Int32).toInt := by rw [ey_10]; exact addI (by omega) (by omega)
            refine lv_iinc (v := y_10) (lv' := [(5, .int y_10), (4, .int x4_3), (3, .int x3_5), (0, .ref mo), (1, .int a1), (2, .int a2)]) hx hb dB_3_1_34.1.2.1 hl (k := 0) rfl (by rw [ey_10]; rfl) (by decide) rfl (fun ls hl => ?_)
            refine lv_goto (tgt := 21) hx hb dB_3_1_34.1.2.2 (by decide) ?_
            exact ih_5 y_10 x3_5 c_g23_5 c_g24_5 _ _ _ (by omega) (by first | with_reducible assumption | omega | assumption) (by first | with_reducible assumption | omega | assumption) (by first | with_reducible assumption | omega | assumption) (by first | with_reducible assumption | omega | assumption) (by first | with_reducible assumption | omega | assumption) (by first | with_reducible assumption | assumption | exact bfs_eq hb2 (by omega) (by omega)) (by first | exact v5_3 | exact hbs2_ _ _ (by omega) (by omega) | exact bsr_old v6_5 (by omega) (by omega) (by omega) (nc_lt (x := x4_3) (P := x3_5) (by omega) (by omega)) (Or.inl (mmq_of (hme_ (by omega)))) | exact bsr_old v6_5 (by omega) (by omega) (by omega) (nc_lt (x := x4_3) (P := x3_5) (by omega) (by omega)) (Or.inr (fun h_ => absurd (hrf_.mp h_) (by omega)))) (by first | with_reducible assumption | assumption | exact rng_zero (by omega) (by omega) | exact orng_zero) (by first | with_reducible assumption | assumption | exact rng_zero (by omega) (by omega) | exact orng_zero) ⟨hP, hD⟩ hS (lv_sub hl [0, 1, 2, 3, 4, 5] rfl)
          · have t_9 : r_8.toInt = (0 : Int32).toInt := congrArg Int32.toInt c_9
            have hf_ := hm_ (by omega)
            refine lv_aload_n hx hb dB_3_1_32.1.2.2.2 rfl (lv_at hl 3 rfl) ?_
            refine lv_aload_n hx hb dB_3_1_32.2.1.1.1 rfl (lv_at hl 3 rfl) ?_
            refine va_get (ci := 12) (v := .ref g23) (C := RX12) (T := TX12) (N := 34) hx hb hts (fun _ h => List.mem_cons_of_mem _ (List.mem_append_right _ h)) hown hK.1 hP 0 rfl rfl 23 (by decide) (hts (.fieldLink RX12 64 "CutAtlasModel" "queue" "[I") (List.mem_of_getElem? (i := 1) rfl)) (fun _ h9 => h9) rfl dB_3_1_32.2.1.1.2 ?_
            refine lv_iload hx hb dB_3_1_32.2.1.2.1 (lv_at hl 1 rfl) ?_
            have h_11 : vp_in x4_3 12 := in_I (by first | with_reducible assumption | omega) (by omega)
            refine va_iald hx hb hK.1 hP 7 0 rfl rfl (i := x4_3) h_11 dB_3_1_32.2.1.2.2 ?_
            refine lv_topi (fun y_12 ey_12 => ?_)
            have ry_12 : 0 ≤ y_12.toInt ∧ y_12.toInt ≤ 11 := by rw [ey_12]; exact rc_g23_5 _ (in_lt h_11)
            refine lv_iload hx hb dB_3_1_32.2.2.1.1 (lv_at hl 0 rfl) ?_
            refine ct_R hP hD [ob12_0_ mo s0 s1 t2 s3 s4 g5 g6 g7 g8 g9 g10 s11 g12 g13 g14 g15 g16 g17 g18 g19 g20 s21 g22 g23 g24 s25 s26 s27 s28 g29 g30 g31 g32 g33, ai_ cy g5 40 f5, ai_ cy g6 40 f6, ai_ cy g7 40 f7, ai_ cy g8 40 f8, az_ cy g10 40 f10, ai_ cy g22 40 f22] [0, 1, 2, 3, 4, 5, 6] (by decide) rfl (fun hPc hDw => ?_)
            have hFc := va_free (wc := []) hD hS hA [] rfl
            refine va_calli (va_runV (As := [.int y_12, .int x5_5]) (rest := []) ⟨hx, hb, hml, hown, hts⟩ (c_X12_leftOf l D cy H.size mo g5 g6 g7 g8 g9 g10 g12 g13 g14 g15 g16 g17 g18 g19 g20 g22 g23 g24 g29 g30 g31 g32 g33 s0 s1 s3 s4 s11 s21 s25 s26 s27 s28 t2 f5 f6 f7 f8 f10 f22 y_12 x5_5 (by first | with_reducible assumption | omega | assumption) (by first | with_reducible assumption | omega | assumption) (by first | with_reducible assumption | assumption | omega) (by first | with_reducible assumption | assumption | omega)) (cwV 2 hts gX12_hasWay_X12_leftOf rfl rfl rfl ⟨rfl, hd_X12_leftOf⟩ ⟨Nat.le_of_ble_eq_true rfl, Nat.le_of_ble_eq_true rfl⟩) ⟨bl_, va_recvX hK.1 hP (ci := 12) (q0 := 0) rfl rfl, fun U hU hW => ⟨rfl, by rw [hU], by rw [hU]; exact hPc, kk_mv hW hK, hDw⟩⟩ rfl rfl hl.1 rfl (lv_room (Nat.le_of_ble_eq_true rfl)) dB_3_1_32.2.2.1.2 ⟨Nat.le_of_ble_eq_true rfl, Nat.le_of_ble_eq_true rfl⟩) hS (fun q _ h => hFc q h) hFc (fun r_13 u t H locs ht hvm hw hB hz1 hk1 hS => ?_)
            have hP : va_P D vwCl _ H := ro_keep hP hk1
            obtain ⟨f0_r_13, f1_r_13⟩ := hw
            have hlo_ := f0_r_13
            have hxk_ : ((nF c_g23_5 x4_3.toNatClampNeg : Nat) : Int) = y_12.toInt := by rw [ey_12]; exact clI (by rw [← ey_12]; omega)
            have hc5_ := clI (i := x5_5) (by omega)
            have hrf_ : ((1 : Int) ≤ sumI (lfI f5 f6 f7 f8 f10 f22 ((nF c_g23_5 x4_3.toNatClampNeg : Nat) : Int) ((x5_5.toNatClampNeg : Nat) : Int)) s4.toNatClampNeg) ↔ (1 : Int) ≤ r_13.toInt := by rw [hxk_, hc5_, hlo_]
            refine lv_if_le (tgt := 89) hx hb dB_3_1_32.2.2.2.1 (by decide) (fun c_14 => ?_) (fun c_14 => ?_)
            · have t_14 : r_13.toInt ≤ (0 : Int32).toInt := Int32.le_iff_toInt_le.mp c_14
              first | (have hbs2_ : ∀ m2 y2 : Int32, m2.toInt = S[m].toInt + 1 → y2.toInt = x5_5.toInt + 1 → bsr (fun x y : Nat => 1 ≤ sumI (lfI f5 f6 f7 f8 f10 f22 (x : Int) (y : Int)) s4.toNatClampNeg) s3.toNatClampNeg a1.toNatClampNeg a2.toNatClampNeg x4_3.toNatClampNeg y2.toNatClampNeg (nF c_g23_5) m2.toNatClampNeg (nF c_g24_5) := fun m2 y2 em ey => bsr_new v6_5 (by omega) (by omega) (by omega) S[lh] hnm_ hrr_ (nc_ne (by omega) (by omega) (by omega)) S[eq] S[ec] hvx_ em ey (by omega)) | skip
              obtain ⟨y_15, ey_15⟩ : ∃ y : Int32, y = x5_5 + 1 := ⟨_, rfl⟩
              have ty_15 : y_15.toInt = x5_5.toInt + (1 : Int32).toInt := by rw [ey_15]; exact addI (by omega) (by omega)
              refine lv_iinc (v := y_15) (lv' := [(5, .int y_15), (4, .int x4_3), (3, .int x3_5), (0, .ref mo), (1, .int a1), (2, .int a2)]) hx hb dB_3_1_34.1.2.1 hl (k := 0) rfl (by rw [ey_15]; rfl) (by decide) rfl (fun ls hl => ?_)
              refine lv_goto (tgt := 21) hx hb dB_3_1_34.1.2.2 (by decide) ?_
              exact ih_5 y_15 x3_5 c_g23_5 c_g24_5 _ _ _ (by omega) (by first | with_reducible assumption | omega | assumption) (by first | with_reducible assumption | omega | assumption) (by first | with_reducible assumption | omega | assumption) (by first | with_reducible assumption | omega | assumption) (by first | with_reducible assumption | omega | assumption) (by first | with_reducible assumption | assumption | exact bfs_eq hb2 (by omega) (by omega)) (by first | exact v5_3 | exact hbs2_ _ _ (by omega) (by omega) | exact bsr_old v6_5 (by omega) (by omega) (by omega) (nc_lt (x := x4_3) (P := x3_5) (by omega) (by omega)) (Or.inl (mmq_of (hme_ (by omega)))) | exact bsr_old v6_5 (by omega) (by omega) (by omega) (nc_lt (x := x4_3) (P := x3_5) (by omega) (by omega)) (Or.inr (fun h_ => absurd (hrf_.mp h_) (by omega)))) (by first | with_reducible assumption | assumption | exact rng_zero (by omega) (by omega) | exact orng_zero) (by first | with_reducible assumption | assumption | exact rng_zero (by omega) (by omega) | exact orng_zero) ⟨hP, hD⟩ hS (lv_sub hl [0, 1, 2, 3, 4, 5] rfl)
            · have t_14 : ¬ r_13.toInt ≤ (0 : Int32).toInt := fun h => c_14 (Int32.le_iff_toInt_le.mpr h)
              have hroom : x3_5.toInt < s3.toInt := bfs_room (q := c_g23_5) (cf := c_g24_5) (by assumption) (by omega) (by omega) (by omega) hf_
              have hnm_ : ¬ mmq (nF c_g23_5) x3_5.toNatClampNeg x5_5.toNatClampNeg := mmq_no hf_ (by omega) (by assumption) (by omega)
              have hrr_ := hrf_.mpr (by omega)
              refine lv_aload_n hx hb dB_3_1_32.2.2.2.2 rfl (lv_at hl 3 rfl) ?_
              refine va_get (ci := 12) (v := .ref g23) (C := RX12) (T := TX12) (N := 34) hx hb hts (fun _ h => List.mem_cons_of_mem _ (List.mem_append_right _ h)) hown hK.1 hP 0 rfl rfl 23 (by decide) (hts (.fieldLink RX12 64 "CutAtlasModel" "queue" "[I") (List.mem_of_getElem? (i := 1) rfl)) (fun _ h9 => h9) rfl dB_3_1_33.1.1.1.1 ?_
              refine lv_iload_n hx hb dB_3_1_33.1.1.1.2 rfl (lv_at hl 2 rfl) ?_
              refine lv_iload hx hb dB_3_1_33.1.1.2.1 (lv_at hl 0 rfl) ?_
              have h_16 : vp_in x3_5 12 := in_I (by first | with_reducible assumption | omega) (by omega)
              refine va_iast hx hb hK.1 hP hD hS 7 0 rfl rfl (i := x3_5) h_16 dB_3_1_33.1.1.2.2 (fun H locs hP hD hS => ?_)
              obtain ⟨f_17, ef_17⟩ : ∃ g : Nat → Int32, g = upd c_g23_5 x3_5.toNatClampNeg x5_5 := ⟨_, rfl⟩
              refine pd_K (D := D) (cl := vwCl) (H := H) (A := A) [ob12_0_ mo s0 s1 t2 s3 s4 g5 g6 g7 g8 g9 g10 s11 g12 g13 g14 g15 g16 g17 g18 g19 g20 s21 g22 g23 g24 s25 s26 s27 s28 g29 g30 g31 g32 g33, ai_ cy g5 40 f5, ai_ cy g6 40 f6, ai_ cy g7 40 f7, ai_ cy g8 40 f8, az_ cy g10 40 f10, ai_ cy g22 40 f22, ai_ cy g23 12 f_17, ai_ cy g24 12 c_g24_5] (by rw [ef_17]; exact hP) (by rw [ef_17]; exact hD) (fun hP hD => ?_)
              have rf_17 : rng f_17 12 (0) (11) := by rw [ef_17]; exact rng_upd rc_g23_5 (by omega) (by omega)
              obtain ⟨y_18, ey_18⟩ : ∃ y : Int32, y = x3_5 + 1 := ⟨_, rfl⟩
              have ty_18 : y_18.toInt = x3_5.toInt + (1 : Int32).toInt := by rw [ey_18]; exact addI (by omega) (by omega)
              refine lv_iinc (v := y_18) (lv' := [(3, .int y_18), (5, .int x5_5), (4, .int x4_3), (0, .ref mo), (1, .int a1), (2, .int a2)]) hx hb dB_3_1_33.1.2.1.1 hl (k := 2) rfl (by rw [ey_18]; rfl) (by decide) rfl (fun ls hl => ?_)
              refine lv_aload_n hx hb dB_3_1_33.1.2.1.2 rfl (lv_at hl 3 rfl) ?_
              refine va_get (ci := 12) (v := .ref g24) (C := RX12) (T := TX12) (N := 34) hx hb hts (fun _ h => List.mem_cons_of_mem _ (List.mem_append_right _ h)) hown hK.1 hP 0 rfl rfl 24 (by decide) (hts (.fieldLink RX12 67 "CutAtlasModel" "cameFrom" "[I") (List.mem_of_getElem? (i := 3) rfl)) (fun _ h9 => h9) rfl dB_3_1_33.1.2.2.1 ?_
              refine lv_iload hx hb dB_3_1_33.1.2.2.2 (lv_at hl 1 rfl) ?_
              refine lv_aload_n hx hb dB_3_1_33.2.1.1.1 rfl (lv_at hl 3 rfl) ?_
              refine va_get (ci := 12) (v := .ref g23) (C := RX12) (T := TX12) (N := 34) hx hb hts (fun _ h => List.mem_cons_of_mem _ (List.mem_append_right _ h)) hown hK.1 hP 0 rfl rfl 23 (by decide) (hts (.fieldLink RX12 64 "CutAtlasModel" "queue" "[I") (List.mem_of_getElem? (i := 1) rfl)) (fun _ h9 => h9) rfl dB_3_1_33.2.1.1.2 ?_
              refine lv_iload hx hb dB_3_1_33.2.1.2.1 (lv_at hl 2 rfl) ?_
              refine va_iald hx hb hK.1 hP 7 0 rfl rfl (i := x4_3) h_11 dB_3_1_33.2.1.2.2 ?_
              refine lv_topi (fun y_20 ey_20 => ?_)
              have ry_20 : 0 ≤ y_20.toInt ∧ y_20.toInt ≤ 11 := by rw [ey_20]; exact rf_17 _ (in_lt h_11)
              have hvx_ : y_20 = c_g23_5 x4_3.toNatClampNeg := ey_20.trans (by rw [ef_17, pk_un (Nat.ne_of_lt (nc_lt (x := x4_3) (P := x3_5) (by omega) (by omega)))])
              have h_21 : vp_in x5_5 12 := in_I (by first | with_reducible assumption | omega) (by omega)
              refine va_iast hx hb hK.1 hP hD hS 8 0 rfl rfl (i := x5_5) h_21 dB_3_1_33.2.2.1.1 (fun H locs hP hD hS => ?_)
              obtain ⟨f_22, ef_22⟩ : ∃ g : Nat → Int32, g = upd c_g24_5 x5_5.toNatClampNeg y_20 := ⟨_, rfl⟩
              refine pd_K (D := D) (cl := vwCl) (H := H) (A := A) [ob12_0_ mo s0 s1 t2 s3 s4 g5 g6 g7 g8 g9 g10 s11 g12 g13 g14 g15 g16 g17 g18 g19 g20 s21 g22 g23 g24 s25 s26 s27 s28 g29 g30 g31 g32 g33, ai_ cy g5 40 f5, ai_ cy g6 40 f6, ai_ cy g7 40 f7, ai_ cy g8 40 f8, az_ cy g10 40 f10, ai_ cy g22 40 f22, ai_ cy g23 12 f_17, ai_ cy g24 12 f_22] (by rw [ef_22]; exact hP) (by rw [ef_22]; exact hD) (fun hP hD => ?_)
              have rf_22 : rng f_22 12 (0) (11) := by rw [ef_22]; exact rng_upd rc_g24_5 (by omega) (by omega)
              have hb2 : bfs (fun x y => sumI (lfI f5 f6 f7 f8 f10 f22 x y) s4.toNatClampNeg) f_17 f_22 a1 s3.toInt (x3_5.toNatClampNeg + 1) := bfs_push2 (m := x3_5) (k := x4_3) (y := x5_5) (by assumption) (by assumption) (by assumption) (by assumption) (by assumption) (by omega) (by omega) (by omega) (by omega) (by omega) hf_ (pos_of hlo_ (by omega))
              refine lv_iload hx hb dB_3_1_33.2.2.1.2 (lv_at hl 1 rfl) ?_
              refine lv_iload_n hx hb dB_3_1_33.2.2.2.1 rfl (lv_at hl 5 rfl) ?_
              refine lv_icmp_ne (tgt := 89) hx hb dB_3_1_33.2.2.2.2 (by decide) (fun c_23 => ?_) (fun c_23 => ?_)
              · have t_23 : ¬ x5_5.toInt = a2.toInt := fun h => c_23 (Int32.toInt_inj.mp h)
                first | (have hbs2_ : ∀ m2 y2 : Int32, m2.toInt = x3_5.toInt + 1 → y2.toInt = x5_5.toInt + 1 → bsr (fun x y : Nat => 1 ≤ sumI (lfI f5 f6 f7 f8 f10 f22 (x : Int) (y : Int)) s4.toNatClampNeg) s3.toNatClampNeg a1.toNatClampNeg a2.toNatClampNeg x4_3.toNatClampNeg y2.toNatClampNeg (nF f_17) m2.toNatClampNeg (nF f_22) := fun m2 y2 em ey => bsr_new v6_5 (by omega) (by omega) (by omega) (nc_lt (x := x4_3) (P := x3_5) (by omega) (by omega)) hnm_ hrr_ (nc_ne (by omega) (by omega) (by omega)) ef_17 ef_22 hvx_ em ey (by omega)) | skip
                obtain ⟨y_24, ey_24⟩ : ∃ y : Int32, y = x5_5 + 1 := ⟨_, rfl⟩
                have ty_24 : y_24.toInt = x5_5.toInt + (1 : Int32).toInt := by rw [ey_24]; exact addI (by omega) (by omega)
                refine lv_iinc (v := y_24) (lv' := [(5, .int y_24), (3, .int y_18), (4, .int x4_3), (0, .ref mo), (1, .int a1), (2, .int a2)]) hx hb dB_3_1_34.1.2.1 hl (k := 1) rfl (by rw [ey_24]; rfl) (by decide) rfl (fun ls hl => ?_)
                refine lv_goto (tgt := 21) hx hb dB_3_1_34.1.2.2 (by decide) ?_
                exact ih_5 y_24 y_18 f_17 f_22 _ _ _ (by omega) (by first | with_reducible assumption | omega | assumption) (by first | with_reducible assumption | omega | assumption) (by first | with_reducible assumption | omega | assumption) (by first | with_reducible assumption | omega | assumption) (by first | with_reducible assumption | omega | assumption) (by first | with_reducible assumption | assumption | exact bfs_eq hb2 (by omega) (by omega)) (by first | exact v5_3 | exact hbs2_ _ _ (by omega) (by omega) | exact bsr_old v6_5 (by omega) (by omega) (by omega) (nc_lt (x := x4_3) (P := y_18) (by omega) (by omega)) (Or.inl (mmq_of (hme_ (by omega)))) | exact bsr_old v6_5 (by omega) (by omega) (by omega) (nc_lt (x := x4_3) (P := y_18) (by omega) (by omega)) (Or.inr (fun h_ => absurd (hrf_.mp h_) (by omega)))) (by first | with_reducible assumption | assumption | exact rng_zero (by omega) (by omega) | exact orng_zero) (by first | with_reducible assumption | assumption | exact rng_zero (by omega) (by omega) | exact orng_zero) ⟨hP, hD⟩ hS (lv_sub hl [0, 2, 1, 3, 4, 5] rfl)
              · have t_23 : x5_5.toInt = a2.toInt := congrArg Int32.toInt c_23
                refine lv_iconst (v := 1) hx hb dB_3_1_34.1.1.1 (by decide) ?_
                rw [hQ]
                exact W.zret (ty := .boolean) (v := 1) hx hb hr (by decide) (fun t ht hW => ⟨⟨1, 1, rfl, ⟨rfl, Or.inr (⟨by omega, rfl⟩)⟩, f_17, f_22, (fun _ => ⟨x3_5.toNatClampNeg, hb2, at_last (by assumption) (by assumption)⟩), (fun _ => fnd_mk v6_5 (show a2 = x5_5 from Int32.toInt_inj.mp (by omega)) (nc_lt (x := x4_3) (P := x3_5) (by omega) (by omega)) (nc_lt (by omega) (by omega)) hnm_ hrr_ ef_22 hvx_), (fun h => absurd h (by decide)), (by assumption), (by assumption), by rw [ht]; exact hP, hD⟩, hS.F ht⟩) hS.2.2 dB_3_1_34.1.1.2
end

section
set_option maxHeartbeats 4000000 in
set_option maxRecDepth 100000 in
theorem c_X0_sendOver3 (l : Launch) (D : va_G) (cy : Nat → ClassId) (sz : Nat) (xc : Nat) (xk : Nat) (clo : Nat) (cro : Nat) (c4 : Nat) (c5 : Nat) (c6 : Nat) (c7 : Nat) (c8 : Nat) (xn : Nat) (n1 : Nat) (n2 : Nat) (n3 : Nat) (n4 : Nat) (n5 : Nat) (vp : Int32) (vn : Int32) (fs : Nat → Int32) (fe : Nat → Int32) (rr : Nat → Nat) (Mr : Nat → Nat → Int32) (f4 : Nat → Int32) (f5 : Nat → Int32) (f6 : Nat → Int32) (a1 : Int32) (a2 : Int32) (a3 : Int32) (hvp : 0 ≤ vp.toInt ∧ vp.toInt ≤ 12) (hvn : 0 ≤ vn.toInt ∧ vn.toInt ≤ 40) (q1 : 0 ≤ a1.toInt ∧ a1.toInt < vp.toInt) (q2 : 0 ≤ a2.toInt ∧ a2.toInt < vp.toInt) (hrm : rmk (zM Mr) vp.toNatClampNeg) (ha : 0 ≤ a3.toInt ∧ a3.toInt ≤ zM Mr a1.toNatClampNeg a2.toNatClampNeg) (hne : a1.toInt ≠ a2.toInt) (hk : flK (kF f5) (kF f6) (gN vn.toNatClampNeg (gF fs)) (kF f4)) (hpr : prng fs fe 40) : Met l yX0_sendOver wsX0_sendOver ({ frames := 1, cells := 0, slots := 0, locals := 13 }) (va_Pc [.ref xc, .int a1, .int a2, .int a3] (fun U => U.heap.size = sz ∧ va_P D vwCl [ob0_0_ xc xn xk clo cro c4 c5 c6 c7 c8, ob3_0_ xn vp vn n1 n2 n3 n4 n5, ai_ cy n2 40 fs, ai_ cy n3 40 fe, aq_ cy 6 cro 12 (gf_ rr), ai_ cy (rr 0) 12 (Mr 0), ai_ cy (rr 1) 12 (Mr 1), ai_ cy (rr 2) 12 (Mr 2), ai_ cy (rr 3) 12 (Mr 3), ai_ cy (rr 4) 12 (Mr 4), ai_ cy (rr 5) 12 (Mr 5), ai_ cy (rr 6) 12 (Mr 6), ai_ cy (rr 7) 12 (Mr 7), ai_ cy (rr 8) 12 (Mr 8), ai_ cy (rr 9) 12 (Mr 9), ai_ cy (rr 10) 12 (Mr 10), ai_ cy (rr 11) 12 (Mr 11), ai_ cy c4 40 f4, ai_ cy c5 40 f5, ai_ cy c6 40 f6] U.heap ∧ kg_ D cy U ∧ va_D (fun _ => True) [ob0_0_ xc xn xk clo cro c4 c5 c6 c7 c8, ob3_0_ xn vp vn n1 n2 n3 n4 n5, ai_ cy n2 40 fs, ai_ cy n3 40 fe, aq_ cy 6 cro 12 (gf_ rr), ai_ cy (rr 0) 12 (Mr 0), ai_ cy (rr 1) 12 (Mr 1), ai_ cy (rr 2) 12 (Mr 2), ai_ cy (rr 3) 12 (Mr 3), ai_ cy (rr 4) 12 (Mr 4), ai_ cy (rr 5) 12 (Mr 5), ai_ cy (rr 6) 12 (Mr 6), ai_ cy (rr 7) 12 (Mr 7), ai_ cy (rr 8) 12 (Mr 8), ai_ cy (rr 9) 12 (Mr 9), ai_ cy (rr 10) 12 (Mr 10), ai_ cy (rr 11) 12 (Mr 11), ai_ cy c4 40 f4, ai_ cy c5 40 f5, ai_ cy c6 40 f6])) (va_Qv (fun (_ : Unit) => True) (fun (_ : Unit) (t : State) => ∃ (eMr : Nat → Nat → Int32), ∃ (e4 : Nat → Int32), (edg (zM Mr) (zM eMr) a1.toNatClampNeg a2.toNatClampNeg a3.toInt) ∧ (∀ l : Nat, l < vn.toNatClampNeg → kF e4 l = snF (kF f5) (kF f6) (gN vn.toNatClampNeg (gF fs)) (nF fs) (nF fe) (kF f4) a1.toNatClampNeg a2.toNatClampNeg a3.toInt l) ∧ va_P D vwCl [ob0_0_ xc xn xk clo cro c4 c5 c6 c7 c8, ob3_0_ xn vp vn n1 n2 n3 n4 n5, ai_ cy n2 40 fs, ai_ cy n3 40 fe, aq_ cy 6 cro 12 (gf_ rr), ai_ cy (rr 0) 12 (eMr 0), ai_ cy (rr 1) 12 (eMr 1), ai_ cy (rr 2) 12 (eMr 2), ai_ cy (rr 3) 12 (eMr 3), ai_ cy (rr 4) 12 (eMr 4), ai_ cy (rr 5) 12 (eMr 5), ai_ cy (rr 6) 12 (eMr 6), ai_ cy (rr 7) 12 (eMr 7), ai_ cy (rr 8) 12 (eMr 8), ai_ cy (rr 9) 12 (eMr 9), ai_ cy (rr 10) 12 (eMr 10), ai_ cy (rr 11) 12 (eMr 11), ai_ cy c4 40 e4, ai_ cy c5 40 f5, ai_ cy c6 40 f6] t.heap ∧ va_D (va_A [ob0_0_ xc xn xk clo cro c4 c5 c6 c7 c8, ob3_0_ xn vp vn n1 n2 n3 n4 n5, ai_ cy n2 40 fs, ai_ cy n3 40 fe, aq_ cy 6 cro 12 (gf_ rr), ai_ cy (rr 0) 12 (Mr 0), ai_ cy (rr 1) 12 (Mr 1), ai_ cy (rr 2) 12 (Mr 2), ai_ cy (rr 3) 12 (Mr 3), ai_ cy (rr 4) 12 (Mr 4), ai_ cy (rr 5) 12 (Mr 5), ai_ cy (rr 6) 12 (Mr 6), ai_ cy (rr 7) 12 (Mr 7), ai_ cy (rr 8) 12 (Mr 8), ai_ cy (rr 9) 12 (Mr 9), ai_ cy (rr 10) 12 (Mr 10), ai_ cy (rr 11) 12 (Mr 11), ai_ cy c4 40 f4, ai_ cy c5 40 f5, ai_ cy c6 40 f6] sz) [ob0_0_ xc xn xk clo cro c4 c5 c6 c7 c8, ob3_0_ xn vp vn n1 n2 n3 n4 n5, ai_ cy n2 40 fs, ai_ cy n3 40 fe, aq_ cy 6 cro 12 (gf_ rr), ai_ cy (rr 0) 12 (eMr 0), ai_ cy (rr 1) 12 (eMr 1), ai_ cy (rr 2) 12 (eMr 2), ai_ cy (rr 3) 12 (eMr 3), ai_ cy (rr 4) 12 (eMr 4), ai_ cy (rr 5) 12 (eMr 5), ai_ cy (rr 6) 12 (eMr 6), ai_ cy (rr 7) 12 (eMr 7), ai_ cy (rr 8) 12 (eMr 8), ai_ cy (rr 9) 12 (eMr 9), ai_ cy (rr 10) 12 (eMr 10), ai_ cy (rr 11) 12 (eMr 11), ai_ cy c4 40 e4, ai_ cy c5 40 f5, ai_ cy c6 40 f6]) (va_A [ob0_0_ xc xn xk clo cro c4 c5 c6 c7 c8, ob3_0_ xn vp vn n1 n2 n3 n4 n5, ai_ cy n2 40 fs, ai_ cy n3 40 fe, aq_ cy 6 cro 12 (gf_ rr), ai_ cy (rr 0) 12 (Mr 0), ai_ cy (rr 1) 12 (Mr 1), ai_ cy (rr 2) 12 (Mr 2), ai_ cy (rr 3) 12 (Mr 3), ai_ cy (rr 4) 12 (Mr 4), ai_ cy (rr 5) 12 (Mr 5), ai_ cy (rr 6) 12 (Mr 6), ai_ cy (rr 7) 12 (Mr 7), ai_ cy (rr 8) 12 (Mr 8), ai_ cy (rr 9) 12 (Mr 9), ai_ cy (rr 10) 12 (Mr 10), ai_ cy (rr 11) 12 (Mr 11), ai_ cy c4 40 f4, ai_ cy c5 40 f5, ai_ cy c6 40 f6] sz)) 0 0 (va_A [ob0_0_ xc xn xk clo cro c4 c5 c6 c7 c8, ob3_0_ xn vp vn n1 n2 n3 n4 n5, ai_ cy n2 40 fs, ai_ cy n3 40 fe, aq_ cy 6 cro 12 (gf_ rr), ai_ cy (rr 0) 12 (Mr 0), ai_ cy (rr 1) 12 (Mr 1), ai_ cy (rr 2) 12 (Mr 2), ai_ cy (rr 3) 12 (Mr 3), ai_ cy (rr 4) 12 (Mr 4), ai_ cy (rr 5) 12 (Mr 5), ai_ cy (rr 6) 12 (Mr 6), ai_ cy (rr 7) 12 (Mr 7), ai_ cy (rr 8) 12 (Mr 8), ai_ cy (rr 9) 12 (Mr 9), ai_ cy (rr 10) 12 (Mr 10), ai_ cy (rr 11) 12 (Mr 11), ai_ cy c4 40 f4, ai_ cy c5 40 f5, ai_ cy c6 40 f6] sz) := by
  refine ofQ (cc := cX0_sendOver) (maxL := 7) (ret := none) (by decide) rfl ?_
  intro p e s m args below meth c s₁ Q hQ B hml hv
  obtain ⟨rfl, hsz, hP, hK, hD0⟩ := hv
  have hG := hK.2
  have hK := hK.1
  have hx := B.exec
  have hb := B.bytes
  have hr := B.returns
  have hts := atoms_spec (ws := wsX0_sendOver) B.pre
  have hown : s.vm.findClass RX0 = some m.cls := by have h_ := findClass_of_methodNamed B.named; exact h_
  have hlocks := B.notSynchronized
  subst hsz
  have hD := hD0.self (sz := s.heap.size)
  generalize hAe : va_A [ob0_0_ xc xn xk clo cro c4 c5 c6 c7 c8, ob3_0_ xn vp vn n1 n2 n3 n4 n5, ai_ cy n2 40 fs, ai_ cy n3 40 fe, aq_ cy 6 cro 12 (gf_ rr), ai_ cy (rr 0) 12 (Mr 0), ai_ cy (rr 1) 12 (Mr 1), ai_ cy (rr 2) 12 (Mr 2), ai_ cy (rr 3) 12 (Mr 3), ai_ cy (rr 4) 12 (Mr 4), ai_ cy (rr 5) 12 (Mr 5), ai_ cy (rr 6) 12 (Mr 6), ai_ cy (rr 7) 12 (Mr 7), ai_ cy (rr 8) 12 (Mr 8), ai_ cy (rr 9) 12 (Mr 9), ai_ cy (rr 10) 12 (Mr 10), ai_ cy (rr 11) 12 (Mr 11), ai_ cy c4 40 f4, ai_ cy c5 40 f5, ai_ cy c6 40 f6] s.heap.size = A at hD hQ
  have hA : ∀ q : Nat, s.heap.size ≤ q → A q := fun q h => by rw [← hAe]; exact Or.inr h
  have hS : va_S A s.heap s.heap [] := va_S.rf
  have hl := lv_entry ([.ref xc, .int a1, .int a2, .int a3]) (n := 7) (Nat.le_of_ble_eq_true rfl)
  rw [lg_entry_eq]
  generalize (lg_sl ([.ref xc, .int a1, .int a2, .int a3]) ++ List.replicate (7 - (lg_sl ([.ref xc, .int a1, .int a2, .int a3])).length) Slot.unset).toArray = ls at hl ⊢
  have hl : lv_has ls 7 [(0, .ref xc), (1, .int a1), (2, .int a2), (3, .int a3)] := hl
  have z0 : (0 : Int32).toInt = 0 := by decide
  have z1 : (1 : Int32).toInt = 1 := by decide
  have h12_ := hrm _ _ (nc_lt (x := a1) (P := vp) (by omega) (by omega)) (nc_lt (x := a2) (P := vp) (by omega) (by omega))
  have h21_ := hrm _ _ (nc_lt (x := a2) (P := vp) (by omega) (by omega)) (nc_lt (x := a1) (P := vp) (by omega) (by omega))
  refine lv_aload_n hx hb dB_36_0_39.1.1.1.1 rfl (lv_at hl 0 rfl) ?_
  refine va_get (ci := 0) (v := .ref cro) (C := RX0) (T := TX0) (N := 9) hx hb hts (fun _ h => List.mem_cons_of_mem _ (List.mem_append_left _ (List.mem_append_right _ h))) hown hK.1 hP 0 rfl rfl 3 (by decide) (hts (.fieldLink RX0 16 "CutAtlas$Current" "room" "[[I") (List.mem_of_getElem? (i := 1) rfl)) (fun _ h9 => h9) rfl dB_36_0_39.1.1.1.2 ?_
  refine lv_iload_n hx hb dB_36_0_39.1.1.2.1 rfl (lv_at hl 1 rfl) ?_
  have h_1 : vp_in a1 12 := in_I (by first | with_reducible assumption | omega) (by omega)
  refine va_alda hx hb hG hP 4 rfl (i := a1) h_1 dB_36_0_39.1.1.2.2 ?_
  refine lv_topv (v' := .ref (rr a1.toNatClampNeg)) (gf_at h_1) ?_
  refine lv_iload_n hx hb dB_36_0_39.1.2.1.1 rfl (lv_at hl 2 rfl) ?_
  refine lv_dup2_11 hx hb dB_36_0_39.1.2.1.2 rfl rfl ?_
  have h_2 : vp_in a2 12 := in_I (by first | with_reducible assumption | omega) (by omega)
  have hPg : va_P D vwCl (([ob0_0_ xc xn xk clo cro c4 c5 c6 c7 c8, ob3_0_ xn vp vn n1 n2 n3 n4 n5, ai_ cy n2 40 fs, ai_ cy n3 40 fe, aq_ cy 6 cro 12 (gf_ rr)] : va_W) ++ (gro (cy 0) rr Mr ++ ([ai_ cy c4 40 f4, ai_ cy c5 40 f5, ai_ cy c6 40 f6] : va_W))) s.heap := hP
  refine va_gld (X := [ob0_0_ xc xn xk clo cro c4 c5 c6 c7 c8, ob3_0_ xn vp vn n1 n2 n3 n4 n5, ai_ cy n2 40 fs, ai_ cy n3 40 fe, aq_ cy 6 cro 12 (gf_ rr)]) (Y := [ai_ cy c4 40 f4, ai_ cy c5 40 f5, ai_ cy c6 40 f6]) (r := rr) (M := Mr) (k := a1.toNatClampNeg) hx hb hK.1 hPg 0 rfl (in_lt h_1) (i := a2) h_2 dB_36_0_39.1.2.2.1 ?_
  refine lv_topi (fun y_3 ey_3 => ?_)
  have km1_ : y_3.toInt = zM Mr a1.toNatClampNeg a2.toNatClampNeg := by unfold zM; rw [ey_3]
  refine lv_iload_n hx hb dB_36_0_39.1.2.2.2 rfl (lv_at hl 3 rfl) ?_
  refine lv_isub hx hb dB_36_0_39.2.1.1.1 ?_
  refine lv_topi (fun y_4 ey_4 => ?_)
  have ty_4 : y_4.toInt = y_3.toInt - a3.toInt := by rw [ey_4]; exact subI (by omega) (by omega)
  have h1_ : y_4.toInt = (Mr a1.toNatClampNeg a2.toNatClampNeg).toInt - a3.toInt := by rw [show (Mr a1.toNatClampNeg a2.toNatClampNeg).toInt = zM Mr a1.toNatClampNeg a2.toNatClampNeg from rfl]; omega
  have hPg : va_P D vwCl (([ob0_0_ xc xn xk clo cro c4 c5 c6 c7 c8, ob3_0_ xn vp vn n1 n2 n3 n4 n5, ai_ cy n2 40 fs, ai_ cy n3 40 fe, aq_ cy 6 cro 12 (gf_ rr)] : va_W) ++ (gro (cy 0) rr Mr ++ ([ai_ cy c4 40 f4, ai_ cy c5 40 f5, ai_ cy c6 40 f6] : va_W))) s.heap := hP
  have hDg : va_D A (([ob0_0_ xc xn xk clo cro c4 c5 c6 c7 c8, ob3_0_ xn vp vn n1 n2 n3 n4 n5, ai_ cy n2 40 fs, ai_ cy n3 40 fe, aq_ cy 6 cro 12 (gf_ rr)] : va_W) ++ (gro (cy 0) rr Mr ++ ([ai_ cy c4 40 f4, ai_ cy c5 40 f5, ai_ cy c6 40 f6] : va_W))) := hD
  refine va_gst (X := [ob0_0_ xc xn xk clo cro c4 c5 c6 c7 c8, ob3_0_ xn vp vn n1 n2 n3 n4 n5, ai_ cy n2 40 fs, ai_ cy n3 40 fe, aq_ cy 6 cro 12 (gf_ rr)]) (Y := [ai_ cy c4 40 f4, ai_ cy c5 40 f5, ai_ cy c6 40 f6]) (r := rr) (M := Mr) (k := a1.toNatClampNeg) hx hb hK.1 hPg hDg hS 0 rfl (in_lt h_1) (i := a2) h_2 dB_36_0_39.2.1.1.2 (fun H locs hP hD hS => ?_)
  obtain ⟨M_6, eM_6⟩ : ∃ g : Nat → Nat → Int32, g = va_up Mr a1.toNatClampNeg (upd (Mr a1.toNatClampNeg) a2.toNatClampNeg y_4) := ⟨_, rfl⟩
  refine pd_K (D := D) (cl := vwCl) (H := H) (A := A) [ob0_0_ xc xn xk clo cro c4 c5 c6 c7 c8, ob3_0_ xn vp vn n1 n2 n3 n4 n5, ai_ cy n2 40 fs, ai_ cy n3 40 fe, aq_ cy 6 cro 12 (gf_ rr), ai_ cy (rr 0) 12 (M_6 0), ai_ cy (rr 1) 12 (M_6 1), ai_ cy (rr 2) 12 (M_6 2), ai_ cy (rr 3) 12 (M_6 3), ai_ cy (rr 4) 12 (M_6 4), ai_ cy (rr 5) 12 (M_6 5), ai_ cy (rr 6) 12 (M_6 6), ai_ cy (rr 7) 12 (M_6 7), ai_ cy (rr 8) 12 (M_6 8), ai_ cy (rr 9) 12 (M_6 9), ai_ cy (rr 10) 12 (M_6 10), ai_ cy (rr 11) 12 (M_6 11), ai_ cy c4 40 f4, ai_ cy c5 40 f5, ai_ cy c6 40 f6] (by rw [eM_6]; exact hP) (by rw [eM_6]; exact hD) (fun hP hD => ?_)
  refine lv_aload_n hx hb dB_36_0_39.2.1.2.1 rfl (lv_at hl 0 rfl) ?_
  refine va_get (ci := 0) (v := .ref cro) (C := RX0) (T := TX0) (N := 9) hx hb hts (fun _ h => List.mem_cons_of_mem _ (List.mem_append_left _ (List.mem_append_right _ h))) hown hK.1 hP 0 rfl rfl 3 (by decide) (hts (.fieldLink RX0 16 "CutAtlas$Current" "room" "[[I") (List.mem_of_getElem? (i := 1) rfl)) (fun _ h9 => h9) rfl dB_36_0_39.2.1.2.2 ?_
  refine lv_iload_n hx hb dB_36_0_39.2.2.1.1 rfl (lv_at hl 2 rfl) ?_
  refine va_alda hx hb hG hP 4 rfl (i := a2) h_2 dB_36_0_39.2.2.1.2 ?_
  refine lv_topv (v' := .ref (rr a2.toNatClampNeg)) (gf_at h_2) ?_
  refine lv_iload_n hx hb dB_36_0_39.2.2.2.1 rfl (lv_at hl 1 rfl) ?_
  refine lv_dup2_11 hx hb dB_36_0_39.2.2.2.2 rfl rfl ?_
  have hPg : va_P D vwCl (([ob0_0_ xc xn xk clo cro c4 c5 c6 c7 c8, ob3_0_ xn vp vn n1 n2 n3 n4 n5, ai_ cy n2 40 fs, ai_ cy n3 40 fe, aq_ cy 6 cro 12 (gf_ rr)] : va_W) ++ (gro (cy 0) rr M_6 ++ ([ai_ cy c4 40 f4, ai_ cy c5 40 f5, ai_ cy c6 40 f6] : va_W))) H := hP
  refine va_gld (X := [ob0_0_ xc xn xk clo cro c4 c5 c6 c7 c8, ob3_0_ xn vp vn n1 n2 n3 n4 n5, ai_ cy n2 40 fs, ai_ cy n3 40 fe, aq_ cy 6 cro 12 (gf_ rr)]) (Y := [ai_ cy c4 40 f4, ai_ cy c5 40 f5, ai_ cy c6 40 f6]) (r := rr) (M := M_6) (k := a2.toNatClampNeg) hx hb hK.1 hPg 0 rfl (in_lt h_2) (i := a1) h_1 dB_36_0_40.1.1.1.1 ?_
  refine lv_topi (fun y_9 ey_9 => ?_)
  have km2_ : y_9.toInt = (M_6 a2.toNatClampNeg a1.toNatClampNeg).toInt := by rw [ey_9]
  have hv2_ : (M_6 a2.toNatClampNeg a1.toNatClampNeg).toInt = if a2.toNatClampNeg = a1.toNatClampNeg ∧ a1.toNatClampNeg = a2.toNatClampNeg then _ else (Mr a2.toNatClampNeg a1.toNatClampNeg).toInt := m1_v eM_6
  have hz2_ : (Mr a2.toNatClampNeg a1.toNatClampNeg).toInt = zM Mr a2.toNatClampNeg a1.toNatClampNeg := rfl
  have hz1_ : (Mr a1.toNatClampNeg a2.toNatClampNeg).toInt = zM Mr a1.toNatClampNeg a2.toNatClampNeg := rfl
  have hb2_ : -160000000 ≤ y_9.toInt ∧ y_9.toInt ≤ 160000000 := by rw [km2_, hv2_]; split <;> omega
  refine lv_iload_n hx hb dB_36_0_40.1.1.1.2 rfl (lv_at hl 3 rfl) ?_
  refine lv_iadd hx hb dB_36_0_40.1.1.2.1 ?_
  refine lv_topi (fun y_10 ey_10 => ?_)
  have ty_10 : y_10.toInt = y_9.toInt + a3.toInt := by rw [ey_10]; exact addI (by omega) (by omega)
  have h2_ : y_10.toInt = (M_6 a2.toNatClampNeg a1.toNatClampNeg).toInt + a3.toInt := by omega
  have hPg : va_P D vwCl (([ob0_0_ xc xn xk clo cro c4 c5 c6 c7 c8, ob3_0_ xn vp vn n1 n2 n3 n4 n5, ai_ cy n2 40 fs, ai_ cy n3 40 fe, aq_ cy 6 cro 12 (gf_ rr)] : va_W) ++ (gro (cy 0) rr M_6 ++ ([ai_ cy c4 40 f4, ai_ cy c5 40 f5, ai_ cy c6 40 f6] : va_W))) H := hP
  have hDg : va_D A (([ob0_0_ xc xn xk clo cro c4 c5 c6 c7 c8, ob3_0_ xn vp vn n1 n2 n3 n4 n5, ai_ cy n2 40 fs, ai_ cy n3 40 fe, aq_ cy 6 cro 12 (gf_ rr)] : va_W) ++ (gro (cy 0) rr M_6 ++ ([ai_ cy c4 40 f4, ai_ cy c5 40 f5, ai_ cy c6 40 f6] : va_W))) := hD
  refine va_gst (X := [ob0_0_ xc xn xk clo cro c4 c5 c6 c7 c8, ob3_0_ xn vp vn n1 n2 n3 n4 n5, ai_ cy n2 40 fs, ai_ cy n3 40 fe, aq_ cy 6 cro 12 (gf_ rr)]) (Y := [ai_ cy c4 40 f4, ai_ cy c5 40 f5, ai_ cy c6 40 f6]) (r := rr) (M := M_6) (k := a2.toNatClampNeg) hx hb hK.1 hPg hDg hS 0 rfl (in_lt h_2) (i := a1) h_1 dB_36_0_40.1.1.2.2 (fun H locs hP hD hS => ?_)
  obtain ⟨M_12, eM_12⟩ : ∃ g : Nat → Nat → Int32, g = va_up M_6 a2.toNatClampNeg (upd (M_6 a2.toNatClampNeg) a1.toNatClampNeg y_10) := ⟨_, rfl⟩
  refine pd_K (D := D) (cl := vwCl) (H := H) (A := A) [ob0_0_ xc xn xk clo cro c4 c5 c6 c7 c8, ob3_0_ xn vp vn n1 n2 n3 n4 n5, ai_ cy n2 40 fs, ai_ cy n3 40 fe, aq_ cy 6 cro 12 (gf_ rr), ai_ cy (rr 0) 12 (M_12 0), ai_ cy (rr 1) 12 (M_12 1), ai_ cy (rr 2) 12 (M_12 2), ai_ cy (rr 3) 12 (M_12 3), ai_ cy (rr 4) 12 (M_12 4), ai_ cy (rr 5) 12 (M_12 5), ai_ cy (rr 6) 12 (M_12 6), ai_ cy (rr 7) 12 (M_12 7), ai_ cy (rr 8) 12 (M_12 8), ai_ cy (rr 9) 12 (M_12 9), ai_ cy (rr 10) 12 (M_12 10), ai_ cy (rr 11) 12 (M_12 11), ai_ cy c4 40 f4, ai_ cy c5 40 f5, ai_ cy c6 40 f6] (by rw [eM_12]; exact hP) (by rw [eM_12]; exact hD) (fun hP hD => ?_)
  have hed_ : edg (zM Mr) (zM M_12) a1.toNatClampNeg a2.toNatClampNeg a3.toInt := edg_mk eM_6 eM_12 h1_ h2_
  refine lv_iload_n hx hb dB_36_0_40.1.2.1.1 rfl (lv_at hl 3 rfl) ?_
  refine lv_istore (lv' := [(4, .int a3), (0, .ref xc), (1, .int a1), (2, .int a2), (3, .int a3)]) hx hb dB_36_0_40.1.2.1.2 hl (by decide) rfl (fun ls hl => ?_)
  refine lv_iconst (v := 0) hx hb dB_36_0_40.1.2.2.1 (by decide) ?_
  refine lv_istore (lv' := [(5, .int 0), (4, .int a3), (0, .ref xc), (1, .int a1), (2, .int a2), (3, .int a3)]) hx hb dB_36_0_40.1.2.2.2 hl (by decide) rfl (fun ls hl => ?_)
  suffices LOOP_13 : ∀ (n_13 : Nat) (x5_13 : Int32) (x4_13 : Int32) (c_c4_13 : Nat → Int32) (H : Heap) (locs : List Loc) (ls : Array Slot), vn.toInt - x5_13.toInt < (n_13 : Int) → (0 ≤ x5_13.toInt) → (x5_13.toInt ≤ vn.toInt) → (0 ≤ x4_13.toInt) → (snI (kF f5) (kF f6) (gN vn.toNatClampNeg (gF fs)) (nF fs) (nF fe) f4 c_c4_13 a1.toNatClampNeg a2.toNatClampNeg a3.toInt x4_13.toInt x5_13.toNatClampNeg) → pd_2 D vwCl A [ob0_0_ xc xn xk clo cro c4 c5 c6 c7 c8, ob3_0_ xn vp vn n1 n2 n3 n4 n5, ai_ cy n2 40 fs, ai_ cy n3 40 fe, aq_ cy 6 cro 12 (gf_ rr), ai_ cy (rr 0) 12 (M_12 0), ai_ cy (rr 1) 12 (M_12 1), ai_ cy (rr 2) 12 (M_12 2), ai_ cy (rr 3) 12 (M_12 3), ai_ cy (rr 4) 12 (M_12 4), ai_ cy (rr 5) 12 (M_12 5), ai_ cy (rr 6) 12 (M_12 6), ai_ cy (rr 7) 12 (M_12 7), ai_ cy (rr 8) 12 (M_12 8), ai_ cy (rr 9) 12 (M_12 9), ai_ cy (rr 10) 12 (M_12 10), ai_ cy (rr 11) 12 (M_12 11), ai_ cy c4 40 c_c4_13, ai_ cy c5 40 f5, ai_ cy c6 40 f6] H → va_S A s.heap H locs → lv_has ls 7 [(5, .int x5_13), (4, .int x4_13), (0, .ref xc), (1, .int a1), (2, .int a2), (3, .int a3)] → W p l e ({ frames := 1, cells := 0, slots := 0, locals := 13 } : Room) s m (([.ref xc, .int a1, .int a2, .int a3] : List Value).toArray) below meth c H locs 0 0 Q (F0 m 30 ls []) from LOOP_13 ((vn.toInt - (0 : Int32).toInt).toNat + 1) (0 : Int32) a3 f4 _ _ _ (by omega) (by first | with_reducible assumption | omega | assumption) (by first | with_reducible assumption | omega | assumption) (by first | with_reducible assumption | omega | assumption) (by first | exact snI_0 | exact hsn_ _ (by omega) | exact snC_no v_none hpr (by omega) (by omega) (by omega) (by omega) (by omega) (by omega) (by omega) (by omega) (by omega)) ⟨hP, hD⟩ hS (lv_sub hl [0, 1, 2, 3, 4, 5] rfl)
  intro n_13
  induction n_13 with
  | zero =>
    intro x5_13 x4_13 c_c4_13 H locs ls hm v0_13 v1_13 v2_13 v3_13 hPD hS hl; obtain ⟨hP, hD⟩ := hPD
    exact absurd hm (by omega)
  | succ n_13 ih_13 =>
    intro x5_13 x4_13 c_c4_13 H locs ls hm v0_13 v1_13 v2_13 v3_13 hPD hS hl; obtain ⟨hP, hD⟩ := hPD
    refine lv_iload hx hb dB_36_0_40.2.1.1.1 (lv_at hl 0 rfl) ?_
    refine lv_aload_n hx hb dB_36_0_40.2.1.1.2 rfl (lv_at hl 2 rfl) ?_
    refine va_get (ci := 0) (v := .ref xn) (C := RX0) (T := TX0) (N := 9) hx hb hts (fun _ h => List.mem_cons_of_mem _ (List.mem_append_left _ (List.mem_append_right _ h))) hown hK.1 hP 0 rfl rfl 0 (by decide) (hts (.fieldLink RX0 35 "CutAtlas$Current" "net" "LCutAtlas$Net;") (List.mem_of_getElem? (i := 2) rfl)) (fun _ h9 => h9) rfl dB_36_0_40.2.1.2.1 ?_
    refine va_get (ci := 3) (v := .int vn) (C := RX3) (T := TX3) (N := 7) hx hb hts (fun _ h => List.mem_cons_of_mem _ (List.mem_append_right _ h)) hown hK.1 hP 1 rfl rfl 1 (by decide) (hts (.fieldLink RX0 55 "CutAtlas$Net" "lines" "I") (List.mem_of_getElem? (i := 3) rfl)) (fun _ h9 => h9) rfl dB_36_0_40.2.1.2.2 ?_
    refine lv_icmp_ge (tgt := 194) hx hb dB_36_0_40.2.2.1.1 (by decide) (fun c_14 => ?_) (fun c_14 => ?_)
    · have t_14 : vn.toInt ≤ x5_13.toInt := Int32.le_iff_toInt_le.mp c_14
      rw [hQ]
      exact W.vret hx hb hr (fun t ht hW => ⟨⟨(), rfl, trivial, M_12, c_c4_13, (hed_), (by first | exact snI_end v3_13 hk (Or.inr (by omega)) | exact snI_end v3_13 hk (Or.inl (nc_le (by omega) (by omega)))), by rw [ht]; exact hP, hD⟩, hS.F ht⟩) hS.2.2 dB_36_0_45.2.2.2.2
    · have t_14 : ¬ vn.toInt ≤ x5_13.toInt := fun h => c_14 (Int32.le_iff_toInt_le.mpr h)
      refine lv_iload hx hb dB_36_0_40.2.2.1.2 (lv_at hl 1 rfl) ?_
      refine lv_if_le (tgt := 194) hx hb dB_36_0_40.2.2.2.1 (by decide) (fun c_15 => ?_) (fun c_15 => ?_)
      · have t_15 : x4_13.toInt ≤ (0 : Int32).toInt := Int32.le_iff_toInt_le.mp c_15
        rw [hQ]
        exact W.vret hx hb hr (fun t ht hW => ⟨⟨(), rfl, trivial, M_12, c_c4_13, (hed_), (by first | exact snI_end v3_13 hk (Or.inr (by omega)) | exact snI_end v3_13 hk (Or.inl (nc_le (by omega) (by omega)))), by rw [ht]; exact hP, hD⟩, hS.F ht⟩) hS.2.2 dB_36_0_45.2.2.2.2
      · have t_15 : ¬ x4_13.toInt ≤ (0 : Int32).toInt := fun h => c_15 (Int32.le_iff_toInt_le.mpr h)
        refine lv_aload_n hx hb dB_36_0_40.2.2.2.2 rfl (lv_at hl 2 rfl) ?_
        refine va_get (ci := 0) (v := .ref xn) (C := RX0) (T := TX0) (N := 9) hx hb hts (fun _ h => List.mem_cons_of_mem _ (List.mem_append_left _ (List.mem_append_right _ h))) hown hK.1 hP 0 rfl rfl 0 (by decide) (hts (.fieldLink RX0 35 "CutAtlas$Current" "net" "LCutAtlas$Net;") (List.mem_of_getElem? (i := 2) rfl)) (fun _ h9 => h9) rfl dB_36_0_41.1.1.1.1 ?_
        refine va_get (ci := 3) (v := .ref n2) (C := RX3) (T := TX3) (N := 7) hx hb hts (fun _ h => List.mem_cons_of_mem _ (List.mem_append_right _ h)) hown hK.1 hP 1 rfl rfl 3 (by decide) (hts (.fieldLink RX0 76 "CutAtlas$Net" "starts" "[I") (List.mem_of_getElem? (i := 4) rfl)) (fun _ h9 => h9) rfl dB_36_0_41.1.1.1.2 ?_
        refine lv_iload hx hb dB_36_0_41.1.1.2.1 (lv_at hl 0 rfl) ?_
        have h_16 : vp_in x5_13 40 := in_I (by first | with_reducible assumption | omega) (by omega)
        refine va_iald hx hb hK.1 hP 2 0 rfl rfl (i := x5_13) h_16 dB_36_0_41.1.1.2.2 ?_
        refine lv_topi (fun y_17 ey_17 => ?_)
        have ry_17 := hpr _ (in_lt h_16)
        have jy_17 : y_17.toInt = (fs x5_13.toNatClampNeg).toInt := by rw [ey_17]
        have hes_ : (fs x5_13.toNatClampNeg).toInt = y_17.toInt := by rw [ey_17]
        refine lv_iload_n hx hb dB_36_0_41.1.2.1.1 rfl (lv_at hl 3 rfl) ?_
        refine lv_icmp_ne (tgt := 119) hx hb dB_36_0_41.1.2.1.2 (by decide) (fun c_18 => ?_) (fun c_18 => ?_)
        · have t_18 : ¬ y_17.toInt = a1.toInt := fun h => c_18 (Int32.toInt_inj.mp h)
          refine lv_aload_n hx hb dB_36_0_43.1.2.2.1 rfl (lv_at hl 2 rfl) ?_
          refine va_get (ci := 0) (v := .ref xn) (C := RX0) (T := TX0) (N := 9) hx hb hts (fun _ h => List.mem_cons_of_mem _ (List.mem_append_left _ (List.mem_append_right _ h))) hown hK.1 hP 0 rfl rfl 0 (by decide) (hts (.fieldLink RX0 35 "CutAtlas$Current" "net" "LCutAtlas$Net;") (List.mem_of_getElem? (i := 2) rfl)) (fun _ h9 => h9) rfl dB_36_0_43.1.2.2.2 ?_
          refine va_get (ci := 3) (v := .ref n2) (C := RX3) (T := TX3) (N := 7) hx hb hts (fun _ h => List.mem_cons_of_mem _ (List.mem_append_right _ h)) hown hK.1 hP 1 rfl rfl 3 (by decide) (hts (.fieldLink RX0 76 "CutAtlas$Net" "starts" "[I") (List.mem_of_getElem? (i := 4) rfl)) (fun _ h9 => h9) rfl dB_36_0_43.2.1.1.1 ?_
          refine lv_iload hx hb dB_36_0_43.2.1.1.2 (lv_at hl 0 rfl) ?_
          refine va_iald hx hb hK.1 hP 2 0 rfl rfl (i := x5_13) h_16 dB_36_0_43.2.1.2.1 ?_
          refine lv_topi (fun y_20 ey_20 => ?_)
          have e_ := (ey_20.trans ey_17.symm).symm
          subst e_
          skip
          have hes2_ : (fs x5_13.toNatClampNeg).toInt = y_17.toInt := by rw [ey_17]
          refine lv_iload_n hx hb dB_36_0_43.2.1.2.2 rfl (lv_at hl 4 rfl) ?_
          refine lv_icmp_ne (tgt := 188) hx hb dB_36_0_43.2.2.1.1 (by decide) (fun c_21 => ?_) (fun c_21 => ?_)
          · have t_21 : ¬ y_17.toInt = a2.toInt := fun h => c_21 (Int32.toInt_inj.mp h)
            obtain ⟨y_22, ey_22⟩ : ∃ y : Int32, y = x5_13 + 1 := ⟨_, rfl⟩
            have ty_22 : y_22.toInt = x5_13.toInt + (1 : Int32).toInt := by rw [ey_22]; exact addI (by omega) (by omega)
            refine lv_iinc (v := y_22) (lv' := [(5, .int y_22), (4, .int x4_13), (0, .ref xc), (1, .int a1), (2, .int a2), (3, .int a3)]) hx hb dB_36_0_45.2.2.1.2 hl (k := 0) rfl (by rw [ey_22]; rfl) (by decide) rfl (fun ls hl => ?_)
            refine lv_goto (tgt := 30) hx hb dB_36_0_45.2.2.2.1 (by decide) ?_
            exact ih_13 y_22 x4_13 c_c4_13 _ _ _ (by omega) (by first | with_reducible assumption | omega | assumption) (by first | with_reducible assumption | omega | assumption) (by first | with_reducible assumption | omega | assumption) (by first | exact snI_0 | exact hsn_ _ (by omega) | exact snC_no v3_13 hpr (by omega) (by omega) (by omega) (by omega) (by omega) (by omega) (by omega) (by omega) (by omega)) ⟨hP, hD⟩ hS (lv_sub hl [0, 1, 2, 3, 4, 5] rfl)
          · have t_21 : y_17.toInt = a2.toInt := congrArg Int32.toInt c_21
            refine lv_aload_n hx hb dB_36_0_43.2.2.1.2 rfl (lv_at hl 2 rfl) ?_
            refine va_get (ci := 0) (v := .ref xn) (C := RX0) (T := TX0) (N := 9) hx hb hts (fun _ h => List.mem_cons_of_mem _ (List.mem_append_left _ (List.mem_append_right _ h))) hown hK.1 hP 0 rfl rfl 0 (by decide) (hts (.fieldLink RX0 35 "CutAtlas$Current" "net" "LCutAtlas$Net;") (List.mem_of_getElem? (i := 2) rfl)) (fun _ h9 => h9) rfl dB_36_0_43.2.2.2.1 ?_
            refine va_get (ci := 3) (v := .ref n3) (C := RX3) (T := TX3) (N := 7) hx hb hts (fun _ h => List.mem_cons_of_mem _ (List.mem_append_right _ h)) hown hK.1 hP 1 rfl rfl 4 (by decide) (hts (.fieldLink RX0 79 "CutAtlas$Net" "ends" "[I") (List.mem_of_getElem? (i := 5) rfl)) (fun _ h9 => h9) rfl dB_36_0_43.2.2.2.2 ?_
            refine lv_iload hx hb dB_36_0_44.1.1.1.1 (lv_at hl 0 rfl) ?_
            refine va_iald hx hb hK.1 hP 3 0 rfl rfl (i := x5_13) h_16 dB_36_0_44.1.1.1.2 ?_
            refine lv_topi (fun y_24 ey_24 => ?_)
            have ry_24 := hpr _ (in_lt h_16)
            have jy_24 : y_24.toInt = (fe x5_13.toNatClampNeg).toInt := by rw [ey_24]
            have hee2_ : (fe x5_13.toNatClampNeg).toInt = y_24.toInt := by rw [ey_24]
            refine lv_iload_n hx hb dB_36_0_44.1.1.2.1 rfl (lv_at hl 3 rfl) ?_
            refine lv_icmp_ne (tgt := 188) hx hb dB_36_0_44.1.1.2.2 (by decide) (fun c_25 => ?_) (fun c_25 => ?_)
            · have t_25 : ¬ y_24.toInt = a1.toInt := fun h => c_25 (Int32.toInt_inj.mp h)
              obtain ⟨y_26, ey_26⟩ : ∃ y : Int32, y = x5_13 + 1 := ⟨_, rfl⟩
              have ty_26 : y_26.toInt = x5_13.toInt + (1 : Int32).toInt := by rw [ey_26]; exact addI (by omega) (by omega)
              refine lv_iinc (v := y_26) (lv' := [(5, .int y_26), (4, .int x4_13), (0, .ref xc), (1, .int a1), (2, .int a2), (3, .int a3)]) hx hb dB_36_0_45.2.2.1.2 hl (k := 0) rfl (by rw [ey_26]; rfl) (by decide) rfl (fun ls hl => ?_)
              refine lv_goto (tgt := 30) hx hb dB_36_0_45.2.2.2.1 (by decide) ?_
              exact ih_13 y_26 x4_13 c_c4_13 _ _ _ (by omega) (by first | with_reducible assumption | omega | assumption) (by first | with_reducible assumption | omega | assumption) (by first | with_reducible assumption | omega | assumption) (by first | exact snI_0 | exact hsn_ _ (by omega) | exact snC_no v3_13 hpr (by omega) (by omega) (by omega) (by omega) (by omega) (by omega) (by omega) (by omega) (by omega)) ⟨hP, hD⟩ hS (lv_sub hl [0, 1, 2, 3, 4, 5] rfl)
            · have t_25 : y_24.toInt = a1.toInt := congrArg Int32.toInt c_25
              have hfk_ := flK_at hk (i := x5_13) (by omega) (by omega) (by omega)
              have hbl_ := Int32.toInt_lt x4_13
              refine lv_iload hx hb dB_36_0_44.1.2.1.1 (lv_at hl 1 rfl) ?_
              refine lv_aload_n hx hb dB_36_0_44.1.2.1.2 rfl (lv_at hl 2 rfl) ?_
              refine va_get (ci := 0) (v := .ref c6) (C := RX0) (T := TX0) (N := 9) hx hb hts (fun _ h => List.mem_cons_of_mem _ (List.mem_append_left _ (List.mem_append_right _ h))) hown hK.1 hP 0 rfl rfl 6 (by decide) (hts (.fieldLink RX0 26 "CutAtlas$Current" "letsBack" "[I") (List.mem_of_getElem? (i := 12) rfl)) (fun _ h9 => h9) rfl dB_36_0_44.1.2.2.1 ?_
              refine lv_iload hx hb dB_36_0_44.1.2.2.2 (lv_at hl 0 rfl) ?_
              refine va_iald hx hb hK.1 hP 19 0 rfl rfl (i := x5_13) h_16 dB_36_0_44.2.1.1.1 ?_
              refine lv_topi (fun y_28 ey_28 => ?_)
              have hb6_ : y_28.toInt = (f6 x5_13.toNatClampNeg).toInt := by rw [ey_28]
              refine lv_aload_n hx hb dB_36_0_44.2.1.1.2 rfl (lv_at hl 2 rfl) ?_
              refine va_get (ci := 0) (v := .ref c4) (C := RX0) (T := TX0) (N := 9) hx hb hts (fun _ h => List.mem_cons_of_mem _ (List.mem_append_left _ (List.mem_append_right _ h))) hown hK.1 hP 0 rfl rfl 4 (by decide) (hts (.fieldLink RX0 19 "CutAtlas$Current" "flowing" "[I") (List.mem_of_getElem? (i := 7) rfl)) (fun _ h9 => h9) rfl dB_36_0_44.2.1.2.1 ?_
              refine lv_iload hx hb dB_36_0_44.2.1.2.2 (lv_at hl 0 rfl) ?_
              refine va_iald hx hb hK.1 hP 17 0 rfl rfl (i := x5_13) h_16 dB_36_0_44.2.2.1.1 ?_
              refine lv_topi (fun y_30 ey_30 => ?_)
              have hb4_ : y_30.toInt = (f4 x5_13.toNatClampNeg).toInt := by rw [ey_30, sni_f v3_13]
              refine lv_iadd hx hb dB_36_0_44.2.2.1.2 ?_
              refine lv_topi (fun y_31 ey_31 => ?_)
              have ty_31 : y_31.toInt = y_28.toInt + y_30.toInt := by rw [ey_31]; exact addI (by omega) (by omega)
              refine va_mmin hx hb (by rw [hml]; exact hl.1.symm) hown (hts (.methodLink RX0 101 Lib.Math.min.name) (List.mem_of_getElem? (i := 8) rfl)) (hts (.static Lib.Math.min.name) (List.mem_of_getElem? (i := 9) rfl)) (hts (.initialized "java/lang/Math") (List.mem_of_getElem? (i := 10) rfl)) (hts (.code Lib.Math.min.name Lib.Math.min.code 2 (some .int)) (List.mem_of_getElem? (i := 11) rfl)) (Nat.le_of_ble_eq_true rfl) (Nat.le_of_ble_eq_true rfl) (Nat.le_of_ble_eq_true rfl) (Nat.le_of_ble_eq_true rfl) dB_36_0_44.2.2.2.1 ?_
              refine lv_topi (fun y_32 ey_32 => ?_)
              have ty_32 : y_32 = x4_13 ∨ y_32 = y_31 := by rw [ey_32]; split <;> simp
              have iy_32 : y_32.toInt = x4_13.toInt ∨ y_32.toInt = y_31.toInt := by rcases ty_32 with h | h <;> rw [h] <;> simp
              have htk_ : y_32.toInt = mnZ x4_13.toInt ((f6 x5_13.toNatClampNeg).toInt + (f4 x5_13.toNatClampNeg).toInt) := by have h_ := mnI ey_32; rw [mn_lo, show y_31.toInt = (f6 x5_13.toNatClampNeg).toInt + (f4 x5_13.toNatClampNeg).toInt by omega] at h_; exact h_
              have hbt_ := mn_rng (p := x4_13.toInt) (q := (f6 x5_13.toNatClampNeg).toInt + (f4 x5_13.toNatClampNeg).toInt) (by omega) (by omega)
              refine lv_istore (lv' := [(6, .int y_32), (5, .int x5_13), (4, .int x4_13), (0, .ref xc), (1, .int a1), (2, .int a2), (3, .int a3)]) hx hb dB_36_0_44.2.2.2.2 hl (by decide) rfl (fun ls hl => ?_)
              refine lv_aload_n hx hb dB_36_0_45.1.1.1 rfl (lv_at hl 3 rfl) ?_
              refine va_get (ci := 0) (v := .ref c4) (C := RX0) (T := TX0) (N := 9) hx hb hts (fun _ h => List.mem_cons_of_mem _ (List.mem_append_left _ (List.mem_append_right _ h))) hown hK.1 hP 0 rfl rfl 4 (by decide) (hts (.fieldLink RX0 19 "CutAtlas$Current" "flowing" "[I") (List.mem_of_getElem? (i := 7) rfl)) (fun _ h9 => h9) rfl dB_36_0_45.1.1.2.1 ?_
              refine lv_iload hx hb dB_36_0_45.1.1.2.2 (lv_at hl 1 rfl) ?_
              refine lv_dup2_11 hx hb dB_36_0_45.1.2.1.1 rfl rfl ?_
              refine va_iald hx hb hK.1 hP 17 0 rfl rfl (i := x5_13) h_16 dB_36_0_45.1.2.1.2 ?_
              refine lv_topi (fun y_34 ey_34 => ?_)
              have e_ := (ey_34.trans ey_30.symm).symm
              subst e_
              skip
              have hb4b_ : y_30.toInt = (f4 x5_13.toNatClampNeg).toInt := by rw [ey_30, sni_f v3_13]
              refine lv_iload hx hb dB_36_0_45.1.2.2.1 (lv_at hl 0 rfl) ?_
              refine lv_isub hx hb dB_36_0_45.1.2.2.2 ?_
              refine lv_topi (fun y_35 ey_35 => ?_)
              have ty_35 : y_35.toInt = y_30.toInt - y_32.toInt := by rw [ey_35]; exact subI (by omega) (by omega)
              refine va_iast hx hb hK.1 hP hD hS 17 0 rfl rfl (i := x5_13) h_16 dB_36_0_45.2.1.1.1 (fun H locs hP hD hS => ?_)
              obtain ⟨f_37, ef_37⟩ : ∃ g : Nat → Int32, g = upd c_c4_13 x5_13.toNatClampNeg y_35 := ⟨_, rfl⟩
              refine pd_K (D := D) (cl := vwCl) (H := H) (A := A) [ob0_0_ xc xn xk clo cro c4 c5 c6 c7 c8, ob3_0_ xn vp vn n1 n2 n3 n4 n5, ai_ cy n2 40 fs, ai_ cy n3 40 fe, aq_ cy 6 cro 12 (gf_ rr), ai_ cy (rr 0) 12 (M_12 0), ai_ cy (rr 1) 12 (M_12 1), ai_ cy (rr 2) 12 (M_12 2), ai_ cy (rr 3) 12 (M_12 3), ai_ cy (rr 4) 12 (M_12 4), ai_ cy (rr 5) 12 (M_12 5), ai_ cy (rr 6) 12 (M_12 6), ai_ cy (rr 7) 12 (M_12 7), ai_ cy (rr 8) 12 (M_12 8), ai_ cy (rr 9) 12 (M_12 9), ai_ cy (rr 10) 12 (M_12 10), ai_ cy (rr 11) 12 (M_12 11), ai_ cy c4 40 f_37, ai_ cy c5 40 f5, ai_ cy c6 40 f6] (by rw [ef_37]; exact hP) (by rw [ef_37]; exact hD) (fun hP hD => ?_)
              refine lv_iload hx hb dB_36_0_45.2.1.1.2 (lv_at hl 2 rfl) ?_
              refine lv_iload hx hb dB_36_0_45.2.1.2.1 (lv_at hl 0 rfl) ?_
              refine lv_isub hx hb dB_36_0_45.2.1.2.2 ?_
              refine lv_topi (fun y_38 ey_38 => ?_)
              have ty_38 : y_38.toInt = x4_13.toInt - y_32.toInt := by rw [ey_38]; exact subI (by omega) (by omega)
              have hsn_ : ∀ i2 : Int32, i2.toInt = x5_13.toInt + 1 → snI (kF f5) (kF f6) (gN vn.toNatClampNeg (gF fs)) (nF fs) (nF fe) f4 f_37 a1.toNatClampNeg a2.toNatClampNeg a3.toInt y_38.toInt i2.toNatClampNeg := fun i2 ei => snC_bk v3_13 (by omega) (by omega) (by omega) (by omega) hne (by omega) (by omega) htk_ (by omega) ef_37 (by omega) ei
              refine lv_istore (lv' := [(4, .int y_38), (6, .int y_32), (5, .int x5_13), (0, .ref xc), (1, .int a1), (2, .int a2), (3, .int a3)]) hx hb dB_36_0_45.2.2.1.1 hl (by decide) rfl (fun ls hl => ?_)
              obtain ⟨y_39, ey_39⟩ : ∃ y : Int32, y = x5_13 + 1 := ⟨_, rfl⟩
              have ty_39 : y_39.toInt = x5_13.toInt + (1 : Int32).toInt := by rw [ey_39]; exact addI (by omega) (by omega)
              refine lv_iinc (v := y_39) (lv' := [(5, .int y_39), (4, .int y_38), (6, .int y_32), (0, .ref xc), (1, .int a1), (2, .int a2), (3, .int a3)]) hx hb dB_36_0_45.2.2.1.2 hl (k := 2) rfl (by rw [ey_39]; rfl) (by decide) rfl (fun ls hl => ?_)
              refine lv_goto (tgt := 30) hx hb dB_36_0_45.2.2.2.1 (by decide) ?_
              exact ih_13 y_39 y_38 f_37 _ _ _ (by omega) (by first | with_reducible assumption | omega | assumption) (by first | with_reducible assumption | omega | assumption) (by first | with_reducible assumption | omega | assumption) (by first | exact snI_0 | exact hsn_ _ (by omega) | exact snC_no v3_13 hpr (by omega) (by omega) (by omega) (by omega) (by omega) (by omega) (by omega) (by omega) (by omega)) ⟨hP, hD⟩ hS (lv_sub hl [0, 1, 3, 4, 5, 6] rfl)
        · have t_18 : y_17.toInt = a1.toInt := congrArg Int32.toInt c_18
          refine lv_aload_n hx hb dB_36_0_41.1.2.2.1 rfl (lv_at hl 2 rfl) ?_
          refine va_get (ci := 0) (v := .ref xn) (C := RX0) (T := TX0) (N := 9) hx hb hts (fun _ h => List.mem_cons_of_mem _ (List.mem_append_left _ (List.mem_append_right _ h))) hown hK.1 hP 0 rfl rfl 0 (by decide) (hts (.fieldLink RX0 35 "CutAtlas$Current" "net" "LCutAtlas$Net;") (List.mem_of_getElem? (i := 2) rfl)) (fun _ h9 => h9) rfl dB_36_0_41.1.2.2.2 ?_
          refine va_get (ci := 3) (v := .ref n3) (C := RX3) (T := TX3) (N := 7) hx hb hts (fun _ h => List.mem_cons_of_mem _ (List.mem_append_right _ h)) hown hK.1 hP 1 rfl rfl 4 (by decide) (hts (.fieldLink RX0 79 "CutAtlas$Net" "ends" "[I") (List.mem_of_getElem? (i := 5) rfl)) (fun _ h9 => h9) rfl dB_36_0_41.2.1.1.1 ?_
          refine lv_iload hx hb dB_36_0_41.2.1.1.2 (lv_at hl 0 rfl) ?_
          refine va_iald hx hb hK.1 hP 3 0 rfl rfl (i := x5_13) h_16 dB_36_0_41.2.1.2.1 ?_
          refine lv_topi (fun y_41 ey_41 => ?_)
          have ry_41 := hpr _ (in_lt h_16)
          have jy_41 : y_41.toInt = (fe x5_13.toNatClampNeg).toInt := by rw [ey_41]
          have hee_ : (fe x5_13.toNatClampNeg).toInt = y_41.toInt := by rw [ey_41]
          refine lv_iload_n hx hb dB_36_0_41.2.1.2.2 rfl (lv_at hl 4 rfl) ?_
          refine lv_icmp_ne (tgt := 119) hx hb dB_36_0_41.2.2.1.1 (by decide) (fun c_42 => ?_) (fun c_42 => ?_)
          · have t_42 : ¬ y_41.toInt = a2.toInt := fun h => c_42 (Int32.toInt_inj.mp h)
            refine lv_aload_n hx hb dB_36_0_43.1.2.2.1 rfl (lv_at hl 2 rfl) ?_
            refine va_get (ci := 0) (v := .ref xn) (C := RX0) (T := TX0) (N := 9) hx hb hts (fun _ h => List.mem_cons_of_mem _ (List.mem_append_left _ (List.mem_append_right _ h))) hown hK.1 hP 0 rfl rfl 0 (by decide) (hts (.fieldLink RX0 35 "CutAtlas$Current" "net" "LCutAtlas$Net;") (List.mem_of_getElem? (i := 2) rfl)) (fun _ h9 => h9) rfl dB_36_0_43.1.2.2.2 ?_
            refine va_get (ci := 3) (v := .ref n2) (C := RX3) (T := TX3) (N := 7) hx hb hts (fun _ h => List.mem_cons_of_mem _ (List.mem_append_right _ h)) hown hK.1 hP 1 rfl rfl 3 (by decide) (hts (.fieldLink RX0 76 "CutAtlas$Net" "starts" "[I") (List.mem_of_getElem? (i := 4) rfl)) (fun _ h9 => h9) rfl dB_36_0_43.2.1.1.1 ?_
            refine lv_iload hx hb dB_36_0_43.2.1.1.2 (lv_at hl 0 rfl) ?_
            refine va_iald hx hb hK.1 hP 2 0 rfl rfl (i := x5_13) h_16 dB_36_0_43.2.1.2.1 ?_
            refine lv_topi (fun y_44 ey_44 => ?_)
            have e_ := (ey_44.trans ey_17.symm).symm
            subst e_
            skip
            have hes2_ : (fs x5_13.toNatClampNeg).toInt = y_17.toInt := by rw [ey_17]
            refine lv_iload_n hx hb dB_36_0_43.2.1.2.2 rfl (lv_at hl 4 rfl) ?_
            refine lv_icmp_ne (tgt := 188) hx hb dB_36_0_43.2.2.1.1 (by decide) (fun c_45 => ?_) (fun c_45 => ?_)
            · have t_45 : ¬ y_17.toInt = a2.toInt := fun h => c_45 (Int32.toInt_inj.mp h)
              obtain ⟨y_46, ey_46⟩ : ∃ y : Int32, y = x5_13 + 1 := ⟨_, rfl⟩
              have ty_46 : y_46.toInt = x5_13.toInt + (1 : Int32).toInt := by rw [ey_46]; exact addI (by omega) (by omega)
              refine lv_iinc (v := y_46) (lv' := [(5, .int y_46), (4, .int x4_13), (0, .ref xc), (1, .int a1), (2, .int a2), (3, .int a3)]) hx hb dB_36_0_45.2.2.1.2 hl (k := 0) rfl (by rw [ey_46]; rfl) (by decide) rfl (fun ls hl => ?_)
              refine lv_goto (tgt := 30) hx hb dB_36_0_45.2.2.2.1 (by decide) ?_
              exact ih_13 y_46 x4_13 c_c4_13 _ _ _ (by omega) (by first | with_reducible assumption | omega | assumption) (by first | with_reducible assumption | omega | assumption) (by first | with_reducible assumption | omega | assumption) (by first | exact snI_0 | exact hsn_ _ (by omega) | exact snC_no v3_13 hpr (by omega) (by omega) (by omega) (by omega) (by omega) (by omega) (by omega) (by omega) (by omega)) ⟨hP, hD⟩ hS (lv_sub hl [0, 1, 2, 3, 4, 5] rfl)
            · have t_45 : y_17.toInt = a2.toInt := congrArg Int32.toInt c_45
              refine lv_aload_n hx hb dB_36_0_43.2.2.1.2 rfl (lv_at hl 2 rfl) ?_
              refine va_get (ci := 0) (v := .ref xn) (C := RX0) (T := TX0) (N := 9) hx hb hts (fun _ h => List.mem_cons_of_mem _ (List.mem_append_left _ (List.mem_append_right _ h))) hown hK.1 hP 0 rfl rfl 0 (by decide) (hts (.fieldLink RX0 35 "CutAtlas$Current" "net" "LCutAtlas$Net;") (List.mem_of_getElem? (i := 2) rfl)) (fun _ h9 => h9) rfl dB_36_0_43.2.2.2.1 ?_
              refine va_get (ci := 3) (v := .ref n3) (C := RX3) (T := TX3) (N := 7) hx hb hts (fun _ h => List.mem_cons_of_mem _ (List.mem_append_right _ h)) hown hK.1 hP 1 rfl rfl 4 (by decide) (hts (.fieldLink RX0 79 "CutAtlas$Net" "ends" "[I") (List.mem_of_getElem? (i := 5) rfl)) (fun _ h9 => h9) rfl dB_36_0_43.2.2.2.2 ?_
              refine lv_iload hx hb dB_36_0_44.1.1.1.1 (lv_at hl 0 rfl) ?_
              refine va_iald hx hb hK.1 hP 3 0 rfl rfl (i := x5_13) h_16 dB_36_0_44.1.1.1.2 ?_
              refine lv_topi (fun y_48 ey_48 => ?_)
              have e_ := (ey_48.trans ey_41.symm).symm
              subst e_
              skip
              have hee2_ : (fe x5_13.toNatClampNeg).toInt = y_41.toInt := by rw [ey_41]
              refine lv_iload_n hx hb dB_36_0_44.1.1.2.1 rfl (lv_at hl 3 rfl) ?_
              refine lv_icmp_ne (tgt := 188) hx hb dB_36_0_44.1.1.2.2 (by decide) (fun c_49 => ?_) (fun c_49 => ?_)
              · have t_49 : ¬ y_41.toInt = a1.toInt := fun h => c_49 (Int32.toInt_inj.mp h)
                obtain ⟨y_50, ey_50⟩ : ∃ y : Int32, y = x5_13 + 1 := ⟨_, rfl⟩
                have ty_50 : y_50.toInt = x5_13.toInt + (1 : Int32).toInt := by rw [ey_50]; exact addI (by omega) (by omega)
                refine lv_iinc (v := y_50) (lv' := [(5, .int y_50), (4, .int x4_13), (0, .ref xc), (1, .int a1), (2, .int a2), (3, .int a3)]) hx hb dB_36_0_45.2.2.1.2 hl (k := 0) rfl (by rw [ey_50]; rfl) (by decide) rfl (fun ls hl => ?_)
                refine lv_goto (tgt := 30) hx hb dB_36_0_45.2.2.2.1 (by decide) ?_
                exact ih_13 y_50 x4_13 c_c4_13 _ _ _ (by omega) (by first | with_reducible assumption | omega | assumption) (by first | with_reducible assumption | omega | assumption) (by first | with_reducible assumption | omega | assumption) (by first | exact snI_0 | exact hsn_ _ (by omega) | exact snC_no v3_13 hpr (by omega) (by omega) (by omega) (by omega) (by omega) (by omega) (by omega) (by omega) (by omega)) ⟨hP, hD⟩ hS (lv_sub hl [0, 1, 2, 3, 4, 5] rfl)
              · have t_49 : y_41.toInt = a1.toInt := congrArg Int32.toInt c_49
                have hfk_ := flK_at hk (i := x5_13) (by omega) (by omega) (by omega)
                have hbl_ := Int32.toInt_lt x4_13
                refine lv_iload hx hb dB_36_0_44.1.2.1.1 (lv_at hl 1 rfl) ?_
                refine lv_aload_n hx hb dB_36_0_44.1.2.1.2 rfl (lv_at hl 2 rfl) ?_
                refine va_get (ci := 0) (v := .ref c6) (C := RX0) (T := TX0) (N := 9) hx hb hts (fun _ h => List.mem_cons_of_mem _ (List.mem_append_left _ (List.mem_append_right _ h))) hown hK.1 hP 0 rfl rfl 6 (by decide) (hts (.fieldLink RX0 26 "CutAtlas$Current" "letsBack" "[I") (List.mem_of_getElem? (i := 12) rfl)) (fun _ h9 => h9) rfl dB_36_0_44.1.2.2.1 ?_
                refine lv_iload hx hb dB_36_0_44.1.2.2.2 (lv_at hl 0 rfl) ?_
                refine va_iald hx hb hK.1 hP 19 0 rfl rfl (i := x5_13) h_16 dB_36_0_44.2.1.1.1 ?_
                refine lv_topi (fun y_52 ey_52 => ?_)
                have hb6_ : y_52.toInt = (f6 x5_13.toNatClampNeg).toInt := by rw [ey_52]
                refine lv_aload_n hx hb dB_36_0_44.2.1.1.2 rfl (lv_at hl 2 rfl) ?_
                refine va_get (ci := 0) (v := .ref c4) (C := RX0) (T := TX0) (N := 9) hx hb hts (fun _ h => List.mem_cons_of_mem _ (List.mem_append_left _ (List.mem_append_right _ h))) hown hK.1 hP 0 rfl rfl 4 (by decide) (hts (.fieldLink RX0 19 "CutAtlas$Current" "flowing" "[I") (List.mem_of_getElem? (i := 7) rfl)) (fun _ h9 => h9) rfl dB_36_0_44.2.1.2.1 ?_
                refine lv_iload hx hb dB_36_0_44.2.1.2.2 (lv_at hl 0 rfl) ?_
                refine va_iald hx hb hK.1 hP 17 0 rfl rfl (i := x5_13) h_16 dB_36_0_44.2.2.1.1 ?_
                refine lv_topi (fun y_54 ey_54 => ?_)
                have hb4_ : y_54.toInt = (f4 x5_13.toNatClampNeg).toInt := by rw [ey_54, sni_f v3_13]
                refine lv_iadd hx hb dB_36_0_44.2.2.1.2 ?_
                refine lv_topi (fun y_55 ey_55 => ?_)
                have ty_55 : y_55.toInt = y_52.toInt + y_54.toInt := by rw [ey_55]; exact addI (by omega) (by omega)
                refine va_mmin hx hb (by rw [hml]; exact hl.1.symm) hown (hts (.methodLink RX0 101 Lib.Math.min.name) (List.mem_of_getElem? (i := 8) rfl)) (hts (.static Lib.Math.min.name) (List.mem_of_getElem? (i := 9) rfl)) (hts (.initialized "java/lang/Math") (List.mem_of_getElem? (i := 10) rfl)) (hts (.code Lib.Math.min.name Lib.Math.min.code 2 (some .int)) (List.mem_of_getElem? (i := 11) rfl)) (Nat.le_of_ble_eq_true rfl) (Nat.le_of_ble_eq_true rfl) (Nat.le_of_ble_eq_true rfl) (Nat.le_of_ble_eq_true rfl) dB_36_0_44.2.2.2.1 ?_
                refine lv_topi (fun y_56 ey_56 => ?_)
                have ty_56 : y_56 = x4_13 ∨ y_56 = y_55 := by rw [ey_56]; split <;> simp
                have iy_56 : y_56.toInt = x4_13.toInt ∨ y_56.toInt = y_55.toInt := by rcases ty_56 with h | h <;> rw [h] <;> simp
                have htk_ : y_56.toInt = mnZ x4_13.toInt ((f6 x5_13.toNatClampNeg).toInt + (f4 x5_13.toNatClampNeg).toInt) := by have h_ := mnI ey_56; rw [mn_lo, show y_55.toInt = (f6 x5_13.toNatClampNeg).toInt + (f4 x5_13.toNatClampNeg).toInt by omega] at h_; exact h_
                have hbt_ := mn_rng (p := x4_13.toInt) (q := (f6 x5_13.toNatClampNeg).toInt + (f4 x5_13.toNatClampNeg).toInt) (by omega) (by omega)
                refine lv_istore (lv' := [(6, .int y_56), (5, .int x5_13), (4, .int x4_13), (0, .ref xc), (1, .int a1), (2, .int a2), (3, .int a3)]) hx hb dB_36_0_44.2.2.2.2 hl (by decide) rfl (fun ls hl => ?_)
                refine lv_aload_n hx hb dB_36_0_45.1.1.1 rfl (lv_at hl 3 rfl) ?_
                refine va_get (ci := 0) (v := .ref c4) (C := RX0) (T := TX0) (N := 9) hx hb hts (fun _ h => List.mem_cons_of_mem _ (List.mem_append_left _ (List.mem_append_right _ h))) hown hK.1 hP 0 rfl rfl 4 (by decide) (hts (.fieldLink RX0 19 "CutAtlas$Current" "flowing" "[I") (List.mem_of_getElem? (i := 7) rfl)) (fun _ h9 => h9) rfl dB_36_0_45.1.1.2.1 ?_
                refine lv_iload hx hb dB_36_0_45.1.1.2.2 (lv_at hl 1 rfl) ?_
                refine lv_dup2_11 hx hb dB_36_0_45.1.2.1.1 rfl rfl ?_
                refine va_iald hx hb hK.1 hP 17 0 rfl rfl (i := x5_13) h_16 dB_36_0_45.1.2.1.2 ?_
                refine lv_topi (fun y_58 ey_58 => ?_)
                have e_ := (ey_58.trans ey_54.symm).symm
                subst e_
                skip
                have hb4b_ : y_54.toInt = (f4 x5_13.toNatClampNeg).toInt := by rw [ey_54, sni_f v3_13]
                refine lv_iload hx hb dB_36_0_45.1.2.2.1 (lv_at hl 0 rfl) ?_
                refine lv_isub hx hb dB_36_0_45.1.2.2.2 ?_
                refine lv_topi (fun y_59 ey_59 => ?_)
                have ty_59 : y_59.toInt = y_54.toInt - y_56.toInt := by rw [ey_59]; exact subI (by omega) (by omega)
                refine va_iast hx hb hK.1 hP hD hS 17 0 rfl rfl (i := x5_13) h_16 dB_36_0_45.2.1.1.1 (fun H locs hP hD hS => ?_)
                obtain ⟨f_61, ef_61⟩ : ∃ g : Nat → Int32, g = upd c_c4_13 x5_13.toNatClampNeg y_59 := ⟨_, rfl⟩
                refine pd_K (D := D) (cl := vwCl) (H := H) (A := A) [ob0_0_ xc xn xk clo cro c4 c5 c6 c7 c8, ob3_0_ xn vp vn n1 n2 n3 n4 n5, ai_ cy n2 40 fs, ai_ cy n3 40 fe, aq_ cy 6 cro 12 (gf_ rr), ai_ cy (rr 0) 12 (M_12 0), ai_ cy (rr 1) 12 (M_12 1), ai_ cy (rr 2) 12 (M_12 2), ai_ cy (rr 3) 12 (M_12 3), ai_ cy (rr 4) 12 (M_12 4), ai_ cy (rr 5) 12 (M_12 5), ai_ cy (rr 6) 12 (M_12 6), ai_ cy (rr 7) 12 (M_12 7), ai_ cy (rr 8) 12 (M_12 8), ai_ cy (rr 9) 12 (M_12 9), ai_ cy (rr 10) 12 (M_12 10), ai_ cy (rr 11) 12 (M_12 11), ai_ cy c4 40 f_61, ai_ cy c5 40 f5, ai_ cy c6 40 f6] (by rw [ef_61]; exact hP) (by rw [ef_61]; exact hD) (fun hP hD => ?_)
                refine lv_iload hx hb dB_36_0_45.2.1.1.2 (lv_at hl 2 rfl) ?_
                refine lv_iload hx hb dB_36_0_45.2.1.2.1 (lv_at hl 0 rfl) ?_
                refine lv_isub hx hb dB_36_0_45.2.1.2.2 ?_
                refine lv_topi (fun y_62 ey_62 => ?_)
                have ty_62 : y_62.toInt = x4_13.toInt - y_56.toInt := by rw [ey_62]; exact subI (by omega) (by omega)
                have hsn_ : ∀ i2 : Int32, i2.toInt = x5_13.toInt + 1 → snI (kF f5) (kF f6) (gN vn.toNatClampNeg (gF fs)) (nF fs) (nF fe) f4 f_61 a1.toNatClampNeg a2.toNatClampNeg a3.toInt y_62.toInt i2.toNatClampNeg := fun i2 ei => snC_bk v3_13 (by omega) (by omega) (by omega) (by omega) hne (by omega) (by omega) htk_ (by omega) ef_61 (by omega) ei
                refine lv_istore (lv' := [(4, .int y_62), (6, .int y_56), (5, .int x5_13), (0, .ref xc), (1, .int a1), (2, .int a2), (3, .int a3)]) hx hb dB_36_0_45.2.2.1.1 hl (by decide) rfl (fun ls hl => ?_)
                obtain ⟨y_63, ey_63⟩ : ∃ y : Int32, y = x5_13 + 1 := ⟨_, rfl⟩
                have ty_63 : y_63.toInt = x5_13.toInt + (1 : Int32).toInt := by rw [ey_63]; exact addI (by omega) (by omega)
                refine lv_iinc (v := y_63) (lv' := [(5, .int y_63), (4, .int y_62), (6, .int y_56), (0, .ref xc), (1, .int a1), (2, .int a2), (3, .int a3)]) hx hb dB_36_0_45.2.2.1.2 hl (k := 2) rfl (by rw [ey_63]; rfl) (by decide) rfl (fun ls hl => ?_)
                refine lv_goto (tgt := 30) hx hb dB_36_0_45.2.2.2.1 (by decide) ?_
                exact ih_13 y_63 y_62 f_61 _ _ _ (by omega) (by first | with_reducible assumption | omega | assumption) (by first | with_reducible assumption | omega | assumption) (by first | with_reducible assumption | omega | assumption) (by first | exact snI_0 | exact hsn_ _ (by omega) | exact snC_no v3_13 hpr (by omega) (by omega) (by omega) (by omega) (by omega) (by omega) (by omega) (by omega) (by omega)) ⟨hP, hD⟩ hS (lv_sub hl [0, 1, 3, 4, 5, 6] rfl)
          · have t_42 : y_41.toInt = a2.toInt := congrArg Int32.toInt c_42
            have hfk_ := flK_at hk (i := x5_13) (by omega) (by omega) (by omega)
            have hbl_ := Int32.toInt_lt x4_13
            refine lv_iload hx hb dB_36_0_41.2.2.1.2 (lv_at hl 1 rfl) ?_
            refine lv_aload_n hx hb dB_36_0_41.2.2.2.1 rfl (lv_at hl 2 rfl) ?_
            refine va_get (ci := 0) (v := .ref c5) (C := RX0) (T := TX0) (N := 9) hx hb hts (fun _ h => List.mem_cons_of_mem _ (List.mem_append_left _ (List.mem_append_right _ h))) hown hK.1 hP 0 rfl rfl 5 (by decide) (hts (.fieldLink RX0 23 "CutAtlas$Current" "letsForth" "[I") (List.mem_of_getElem? (i := 6) rfl)) (fun _ h9 => h9) rfl dB_36_0_41.2.2.2.2 ?_
            refine lv_iload hx hb dB_36_0_42.1.1.1.1 (lv_at hl 0 rfl) ?_
            refine va_iald hx hb hK.1 hP 18 0 rfl rfl (i := x5_13) h_16 dB_36_0_42.1.1.1.2 ?_
            refine lv_topi (fun y_65 ey_65 => ?_)
            have hb5_ : y_65.toInt = (f5 x5_13.toNatClampNeg).toInt := by rw [ey_65]
            refine lv_aload_n hx hb dB_36_0_42.1.1.2.1 rfl (lv_at hl 2 rfl) ?_
            refine va_get (ci := 0) (v := .ref c4) (C := RX0) (T := TX0) (N := 9) hx hb hts (fun _ h => List.mem_cons_of_mem _ (List.mem_append_left _ (List.mem_append_right _ h))) hown hK.1 hP 0 rfl rfl 4 (by decide) (hts (.fieldLink RX0 19 "CutAtlas$Current" "flowing" "[I") (List.mem_of_getElem? (i := 7) rfl)) (fun _ h9 => h9) rfl dB_36_0_42.1.1.2.2 ?_
            refine lv_iload hx hb dB_36_0_42.1.2.1.1 (lv_at hl 0 rfl) ?_
            refine va_iald hx hb hK.1 hP 17 0 rfl rfl (i := x5_13) h_16 dB_36_0_42.1.2.1.2 ?_
            refine lv_topi (fun y_67 ey_67 => ?_)
            have hb4_ : y_67.toInt = (f4 x5_13.toNatClampNeg).toInt := by rw [ey_67, sni_f v3_13]
            refine lv_isub hx hb dB_36_0_42.1.2.2.1 ?_
            refine lv_topi (fun y_68 ey_68 => ?_)
            have ty_68 : y_68.toInt = y_65.toInt - y_67.toInt := by rw [ey_68]; exact subI (by omega) (by omega)
            refine va_mmin hx hb (by rw [hml]; exact hl.1.symm) hown (hts (.methodLink RX0 101 Lib.Math.min.name) (List.mem_of_getElem? (i := 8) rfl)) (hts (.static Lib.Math.min.name) (List.mem_of_getElem? (i := 9) rfl)) (hts (.initialized "java/lang/Math") (List.mem_of_getElem? (i := 10) rfl)) (hts (.code Lib.Math.min.name Lib.Math.min.code 2 (some .int)) (List.mem_of_getElem? (i := 11) rfl)) (Nat.le_of_ble_eq_true rfl) (Nat.le_of_ble_eq_true rfl) (Nat.le_of_ble_eq_true rfl) (Nat.le_of_ble_eq_true rfl) dB_36_0_42.1.2.2.2 ?_
            refine lv_topi (fun y_69 ey_69 => ?_)
            have ty_69 : y_69 = x4_13 ∨ y_69 = y_68 := by rw [ey_69]; split <;> simp
            have iy_69 : y_69.toInt = x4_13.toInt ∨ y_69.toInt = y_68.toInt := by rcases ty_69 with h | h <;> rw [h] <;> simp
            have htk_ : y_69.toInt = mnZ x4_13.toInt ((f5 x5_13.toNatClampNeg).toInt - (f4 x5_13.toNatClampNeg).toInt) := by have h_ := mnI ey_69; rw [mn_lo, show y_68.toInt = (f5 x5_13.toNatClampNeg).toInt - (f4 x5_13.toNatClampNeg).toInt by omega] at h_; exact h_
            have hbt_ := mn_rng (p := x4_13.toInt) (q := (f5 x5_13.toNatClampNeg).toInt - (f4 x5_13.toNatClampNeg).toInt) (by omega) (by omega)
            refine lv_istore (lv' := [(6, .int y_69), (5, .int x5_13), (4, .int x4_13), (0, .ref xc), (1, .int a1), (2, .int a2), (3, .int a3)]) hx hb dB_36_0_42.2.1.1.1 hl (by decide) rfl (fun ls hl => ?_)
            refine lv_aload_n hx hb dB_36_0_42.2.1.1.2 rfl (lv_at hl 3 rfl) ?_
            refine va_get (ci := 0) (v := .ref c4) (C := RX0) (T := TX0) (N := 9) hx hb hts (fun _ h => List.mem_cons_of_mem _ (List.mem_append_left _ (List.mem_append_right _ h))) hown hK.1 hP 0 rfl rfl 4 (by decide) (hts (.fieldLink RX0 19 "CutAtlas$Current" "flowing" "[I") (List.mem_of_getElem? (i := 7) rfl)) (fun _ h9 => h9) rfl dB_36_0_42.2.1.2.1 ?_
            refine lv_iload hx hb dB_36_0_42.2.1.2.2 (lv_at hl 1 rfl) ?_
            refine lv_dup2_11 hx hb dB_36_0_42.2.2.1.1 rfl rfl ?_
            refine va_iald hx hb hK.1 hP 17 0 rfl rfl (i := x5_13) h_16 dB_36_0_42.2.2.1.2 ?_
            refine lv_topi (fun y_71 ey_71 => ?_)
            have e_ := (ey_71.trans ey_67.symm).symm
            subst e_
            skip
            have hb4b_ : y_67.toInt = (f4 x5_13.toNatClampNeg).toInt := by rw [ey_67, sni_f v3_13]
            refine lv_iload hx hb dB_36_0_42.2.2.2.1 (lv_at hl 0 rfl) ?_
            refine lv_iadd hx hb dB_36_0_42.2.2.2.2 ?_
            refine lv_topi (fun y_72 ey_72 => ?_)
            have ty_72 : y_72.toInt = y_67.toInt + y_69.toInt := by rw [ey_72]; exact addI (by omega) (by omega)
            refine va_iast hx hb hK.1 hP hD hS 17 0 rfl rfl (i := x5_13) h_16 dB_36_0_43.1.1.1.1 (fun H locs hP hD hS => ?_)
            obtain ⟨f_74, ef_74⟩ : ∃ g : Nat → Int32, g = upd c_c4_13 x5_13.toNatClampNeg y_72 := ⟨_, rfl⟩
            refine pd_K (D := D) (cl := vwCl) (H := H) (A := A) [ob0_0_ xc xn xk clo cro c4 c5 c6 c7 c8, ob3_0_ xn vp vn n1 n2 n3 n4 n5, ai_ cy n2 40 fs, ai_ cy n3 40 fe, aq_ cy 6 cro 12 (gf_ rr), ai_ cy (rr 0) 12 (M_12 0), ai_ cy (rr 1) 12 (M_12 1), ai_ cy (rr 2) 12 (M_12 2), ai_ cy (rr 3) 12 (M_12 3), ai_ cy (rr 4) 12 (M_12 4), ai_ cy (rr 5) 12 (M_12 5), ai_ cy (rr 6) 12 (M_12 6), ai_ cy (rr 7) 12 (M_12 7), ai_ cy (rr 8) 12 (M_12 8), ai_ cy (rr 9) 12 (M_12 9), ai_ cy (rr 10) 12 (M_12 10), ai_ cy (rr 11) 12 (M_12 11), ai_ cy c4 40 f_74, ai_ cy c5 40 f5, ai_ cy c6 40 f6] (by rw [ef_74]; exact hP) (by rw [ef_74]; exact hD) (fun hP hD => ?_)
            refine lv_iload hx hb dB_36_0_43.1.1.1.2 (lv_at hl 2 rfl) ?_
            refine lv_iload hx hb dB_36_0_43.1.1.2.1 (lv_at hl 0 rfl) ?_
            refine lv_isub hx hb dB_36_0_43.1.1.2.2 ?_
            refine lv_topi (fun y_75 ey_75 => ?_)
            have ty_75 : y_75.toInt = x4_13.toInt - y_69.toInt := by rw [ey_75]; exact subI (by omega) (by omega)
            have hsn_ : ∀ i2 : Int32, i2.toInt = x5_13.toInt + 1 → snI (kF f5) (kF f6) (gN vn.toNatClampNeg (gF fs)) (nF fs) (nF fe) f4 f_74 a1.toNatClampNeg a2.toNatClampNeg a3.toInt y_75.toInt i2.toNatClampNeg := fun i2 ei => snC_fo v3_13 (by omega) (by omega) (by omega) (by omega) (by omega) htk_ (by omega) ef_74 (by omega) ei
            refine lv_istore (lv' := [(4, .int y_75), (6, .int y_69), (5, .int x5_13), (0, .ref xc), (1, .int a1), (2, .int a2), (3, .int a3)]) hx hb dB_36_0_43.1.2.1.1 hl (by decide) rfl (fun ls hl => ?_)
            refine lv_goto (tgt := 188) hx hb dB_36_0_43.1.2.1.2 (by decide) ?_
            obtain ⟨y_76, ey_76⟩ : ∃ y : Int32, y = x5_13 + 1 := ⟨_, rfl⟩
            have ty_76 : y_76.toInt = x5_13.toInt + (1 : Int32).toInt := by rw [ey_76]; exact addI (by omega) (by omega)
            refine lv_iinc (v := y_76) (lv' := [(5, .int y_76), (4, .int y_75), (6, .int y_69), (0, .ref xc), (1, .int a1), (2, .int a2), (3, .int a3)]) hx hb dB_36_0_45.2.2.1.2 hl (k := 2) rfl (by rw [ey_76]; rfl) (by decide) rfl (fun ls hl => ?_)
            refine lv_goto (tgt := 30) hx hb dB_36_0_45.2.2.2.1 (by decide) ?_
            exact ih_13 y_76 y_75 f_74 _ _ _ (by omega) (by first | with_reducible assumption | omega | assumption) (by first | with_reducible assumption | omega | assumption) (by first | with_reducible assumption | omega | assumption) (by first | exact snI_0 | exact hsn_ _ (by omega) | exact snC_no v3_13 hpr (by omega) (by omega) (by omega) (by omega) (by omega) (by omega) (by omega) (by omega) (by omega)) ⟨hP, hD⟩ hS (lv_sub hl [0, 1, 3, 4, 5, 6] rfl)
end

section
set_option maxHeartbeats 4000000 in
set_option maxRecDepth 100000 in
theorem c_X0_sendAlongWay3 (l : Launch) (D : va_G) (cy : Nat → ClassId) (sz : Nat) (xc : Nat) (xk : Nat) (clo : Nat) (cro : Nat) (c4 : Nat) (c5 : Nat) (c6 : Nat) (c7 : Nat) (c8 : Nat) (xn : Nat) (n1 : Nat) (n2 : Nat) (n3 : Nat) (n4 : Nat) (n5 : Nat) (vp : Int32) (vn : Int32) (fs : Nat → Int32) (fe : Nat → Int32) (rr : Nat → Nat) (Mr : Nat → Nat → Int32) (f4 : Nat → Int32) (f5 : Nat → Int32) (f6 : Nat → Int32) (f8 : Nat → Int32) (a1 : Int32) (a2 : Int32) (hvp : 0 ≤ vp.toInt ∧ vp.toInt ≤ 12) (hvn : 0 ≤ vn.toInt ∧ vn.toInt ≤ 40) (q1 : 0 ≤ a1.toInt ∧ a1.toInt < vp.toInt) (q2 : 0 ≤ a2.toInt ∧ a2.toInt < vp.toInt) (hne : a1.toInt ≠ a2.toInt) (hrm : rmk (zM Mr) vp.toNatClampNeg) (hw : ∃ n : Nat, n ≤ 11 ∧ wayA (zM Mr) (nF f8) vp.toNatClampNeg a1.toNatClampNeg 1 n a2.toNatClampNeg) (hk : flK (kF f5) (kF f6) (gN vn.toNatClampNeg (gF fs)) (kF f4)) (hse : ∀ l : Nat, (gN vn.toNatClampNeg (gF fs)) l = 0 → nF fs l ≠ nF fe l) (hre : rmE (kF f5) (kF f6) (gN vn.toNatClampNeg (gF fs)) (nF fs) (nF fe) vn.toNatClampNeg vp.toNatClampNeg (zM Mr) (kF f4)) (hpr : prng fs fe 40) (r_f8 : rng f8 12 (0) (11)) : Met l yX0_sendAlongWay wsX0_sendAlongWay ({ frames := 2, cells := 0, slots := 0, locals := 39 }) (va_Pc [.ref xc, .int a1, .int a2] (fun U => U.heap.size = sz ∧ va_P D vwCl [ob0_0_ xc xn xk clo cro c4 c5 c6 c7 c8, ob3_0_ xn vp vn n1 n2 n3 n4 n5, ai_ cy n2 40 fs, ai_ cy n3 40 fe, aq_ cy 6 cro 12 (gf_ rr), ai_ cy (rr 0) 12 (Mr 0), ai_ cy (rr 1) 12 (Mr 1), ai_ cy (rr 2) 12 (Mr 2), ai_ cy (rr 3) 12 (Mr 3), ai_ cy (rr 4) 12 (Mr 4), ai_ cy (rr 5) 12 (Mr 5), ai_ cy (rr 6) 12 (Mr 6), ai_ cy (rr 7) 12 (Mr 7), ai_ cy (rr 8) 12 (Mr 8), ai_ cy (rr 9) 12 (Mr 9), ai_ cy (rr 10) 12 (Mr 10), ai_ cy (rr 11) 12 (Mr 11), ai_ cy c4 40 f4, ai_ cy c5 40 f5, ai_ cy c6 40 f6, ai_ cy c8 12 f8] U.heap ∧ kg_ D cy U ∧ va_D (fun _ => True) [ob0_0_ xc xn xk clo cro c4 c5 c6 c7 c8, ob3_0_ xn vp vn n1 n2 n3 n4 n5, ai_ cy n2 40 fs, ai_ cy n3 40 fe, aq_ cy 6 cro 12 (gf_ rr), ai_ cy (rr 0) 12 (Mr 0), ai_ cy (rr 1) 12 (Mr 1), ai_ cy (rr 2) 12 (Mr 2), ai_ cy (rr 3) 12 (Mr 3), ai_ cy (rr 4) 12 (Mr 4), ai_ cy (rr 5) 12 (Mr 5), ai_ cy (rr 6) 12 (Mr 6), ai_ cy (rr 7) 12 (Mr 7), ai_ cy (rr 8) 12 (Mr 8), ai_ cy (rr 9) 12 (Mr 9), ai_ cy (rr 10) 12 (Mr 10), ai_ cy (rr 11) 12 (Mr 11), ai_ cy c4 40 f4, ai_ cy c5 40 f5, ai_ cy c6 40 f6, ai_ cy c8 12 f8])) (va_Qi (fun (r : Int32) (u : Int32) => u = r ∧ ((1 ≤ r.toInt ∧ r.toInt ≤ 160000000))) (fun (u : Int32) (t : State) => ∃ (eMr : Nat → Nat → Int32), ∃ (e4 : Nat → Int32), (rmk (zM eMr) vp.toNatClampNeg) ∧ (∀ S : Nat → Bool, sep a1.toNatClampNeg a2.toNatClampNeg S → outZ (zM eMr) S vp.toNatClampNeg = outZ (zM Mr) S vp.toNatClampNeg - u.toInt) ∧ (wyF (kF f5) (kF f6) (gN vn.toNatClampNeg (gF fs)) (nF fs) (nF fe) vn.toNatClampNeg (nF f8) a1.toNatClampNeg a2.toNatClampNeg u.toInt (kF f4) (kF e4)) ∧ (flK (kF f5) (kF f6) (gN vn.toNatClampNeg (gF fs)) (kF e4)) ∧ (rmE (kF f5) (kF f6) (gN vn.toNatClampNeg (gF fs)) (nF fs) (nF fe) vn.toNatClampNeg vp.toNatClampNeg (zM eMr) (kF e4)) ∧ (cnZ (zM Mr) (zM eMr) vp.toNatClampNeg a1.toNatClampNeg a2.toNatClampNeg u.toInt) ∧ va_P D vwCl [ob0_0_ xc xn xk clo cro c4 c5 c6 c7 c8, ob3_0_ xn vp vn n1 n2 n3 n4 n5, ai_ cy n2 40 fs, ai_ cy n3 40 fe, aq_ cy 6 cro 12 (gf_ rr), ai_ cy (rr 0) 12 (eMr 0), ai_ cy (rr 1) 12 (eMr 1), ai_ cy (rr 2) 12 (eMr 2), ai_ cy (rr 3) 12 (eMr 3), ai_ cy (rr 4) 12 (eMr 4), ai_ cy (rr 5) 12 (eMr 5), ai_ cy (rr 6) 12 (eMr 6), ai_ cy (rr 7) 12 (eMr 7), ai_ cy (rr 8) 12 (eMr 8), ai_ cy (rr 9) 12 (eMr 9), ai_ cy (rr 10) 12 (eMr 10), ai_ cy (rr 11) 12 (eMr 11), ai_ cy c4 40 e4, ai_ cy c5 40 f5, ai_ cy c6 40 f6, ai_ cy c8 12 f8] t.heap ∧ va_D (va_A [ob0_0_ xc xn xk clo cro c4 c5 c6 c7 c8, ob3_0_ xn vp vn n1 n2 n3 n4 n5, ai_ cy n2 40 fs, ai_ cy n3 40 fe, aq_ cy 6 cro 12 (gf_ rr), ai_ cy (rr 0) 12 (Mr 0), ai_ cy (rr 1) 12 (Mr 1), ai_ cy (rr 2) 12 (Mr 2), ai_ cy (rr 3) 12 (Mr 3), ai_ cy (rr 4) 12 (Mr 4), ai_ cy (rr 5) 12 (Mr 5), ai_ cy (rr 6) 12 (Mr 6), ai_ cy (rr 7) 12 (Mr 7), ai_ cy (rr 8) 12 (Mr 8), ai_ cy (rr 9) 12 (Mr 9), ai_ cy (rr 10) 12 (Mr 10), ai_ cy (rr 11) 12 (Mr 11), ai_ cy c4 40 f4, ai_ cy c5 40 f5, ai_ cy c6 40 f6, ai_ cy c8 12 f8] sz) [ob0_0_ xc xn xk clo cro c4 c5 c6 c7 c8, ob3_0_ xn vp vn n1 n2 n3 n4 n5, ai_ cy n2 40 fs, ai_ cy n3 40 fe, aq_ cy 6 cro 12 (gf_ rr), ai_ cy (rr 0) 12 (eMr 0), ai_ cy (rr 1) 12 (eMr 1), ai_ cy (rr 2) 12 (eMr 2), ai_ cy (rr 3) 12 (eMr 3), ai_ cy (rr 4) 12 (eMr 4), ai_ cy (rr 5) 12 (eMr 5), ai_ cy (rr 6) 12 (eMr 6), ai_ cy (rr 7) 12 (eMr 7), ai_ cy (rr 8) 12 (eMr 8), ai_ cy (rr 9) 12 (eMr 9), ai_ cy (rr 10) 12 (eMr 10), ai_ cy (rr 11) 12 (eMr 11), ai_ cy c4 40 e4, ai_ cy c5 40 f5, ai_ cy c6 40 f6, ai_ cy c8 12 f8]) (va_A [ob0_0_ xc xn xk clo cro c4 c5 c6 c7 c8, ob3_0_ xn vp vn n1 n2 n3 n4 n5, ai_ cy n2 40 fs, ai_ cy n3 40 fe, aq_ cy 6 cro 12 (gf_ rr), ai_ cy (rr 0) 12 (Mr 0), ai_ cy (rr 1) 12 (Mr 1), ai_ cy (rr 2) 12 (Mr 2), ai_ cy (rr 3) 12 (Mr 3), ai_ cy (rr 4) 12 (Mr 4), ai_ cy (rr 5) 12 (Mr 5), ai_ cy (rr 6) 12 (Mr 6), ai_ cy (rr 7) 12 (Mr 7), ai_ cy (rr 8) 12 (Mr 8), ai_ cy (rr 9) 12 (Mr 9), ai_ cy (rr 10) 12 (Mr 10), ai_ cy (rr 11) 12 (Mr 11), ai_ cy c4 40 f4, ai_ cy c5 40 f5, ai_ cy c6 40 f6, ai_ cy c8 12 f8] sz)) 0 0 (va_A [ob0_0_ xc xn xk clo cro c4 c5 c6 c7 c8, ob3_0_ xn vp vn n1 n2 n3 n4 n5, ai_ cy n2 40 fs, ai_ cy n3 40 fe, aq_ cy 6 cro 12 (gf_ rr), ai_ cy (rr 0) 12 (Mr 0), ai_ cy (rr 1) 12 (Mr 1), ai_ cy (rr 2) 12 (Mr 2), ai_ cy (rr 3) 12 (Mr 3), ai_ cy (rr 4) 12 (Mr 4), ai_ cy (rr 5) 12 (Mr 5), ai_ cy (rr 6) 12 (Mr 6), ai_ cy (rr 7) 12 (Mr 7), ai_ cy (rr 8) 12 (Mr 8), ai_ cy (rr 9) 12 (Mr 9), ai_ cy (rr 10) 12 (Mr 10), ai_ cy (rr 11) 12 (Mr 11), ai_ cy c4 40 f4, ai_ cy c5 40 f5, ai_ cy c6 40 f6, ai_ cy c8 12 f8] sz) := by
  refine ofQ (cc := cX0_sendAlongWay) (maxL := 6) (ret := (some .int)) (by decide) rfl ?_
  intro p e s m args below meth c s₁ Q hQ B hml hv
  obtain ⟨rfl, hsz, hP, hK, hD0⟩ := hv
  have hG := hK.2
  have hK := hK.1
  have hx := B.exec
  have hb := B.bytes
  have hr := B.returns
  have hts := atoms_spec (ws := wsX0_sendAlongWay) B.pre
  have hown : s.vm.findClass RX0 = some m.cls := by have h_ := findClass_of_methodNamed B.named; exact h_
  have hlocks := B.notSynchronized
  subst hsz
  have hD := hD0.self (sz := s.heap.size)
  generalize hAe : va_A [ob0_0_ xc xn xk clo cro c4 c5 c6 c7 c8, ob3_0_ xn vp vn n1 n2 n3 n4 n5, ai_ cy n2 40 fs, ai_ cy n3 40 fe, aq_ cy 6 cro 12 (gf_ rr), ai_ cy (rr 0) 12 (Mr 0), ai_ cy (rr 1) 12 (Mr 1), ai_ cy (rr 2) 12 (Mr 2), ai_ cy (rr 3) 12 (Mr 3), ai_ cy (rr 4) 12 (Mr 4), ai_ cy (rr 5) 12 (Mr 5), ai_ cy (rr 6) 12 (Mr 6), ai_ cy (rr 7) 12 (Mr 7), ai_ cy (rr 8) 12 (Mr 8), ai_ cy (rr 9) 12 (Mr 9), ai_ cy (rr 10) 12 (Mr 10), ai_ cy (rr 11) 12 (Mr 11), ai_ cy c4 40 f4, ai_ cy c5 40 f5, ai_ cy c6 40 f6, ai_ cy c8 12 f8] s.heap.size = A at hD hQ
  have hA : ∀ q : Nat, s.heap.size ≤ q → A q := fun q h => by rw [← hAe]; exact Or.inr h
  have hS : va_S A s.heap s.heap [] := va_S.rf
  have hl := lv_entry ([.ref xc, .int a1, .int a2]) (n := 6) (Nat.le_of_ble_eq_true rfl)
  rw [lg_entry_eq]
  generalize (lg_sl ([.ref xc, .int a1, .int a2]) ++ List.replicate (6 - (lg_sl ([.ref xc, .int a1, .int a2])).length) Slot.unset).toArray = ls at hl ⊢
  have hl : lv_has ls 6 [(0, .ref xc), (1, .int a1), (2, .int a2)] := hl
  have z0 : (0 : Int32).toInt = 0 := by decide
  have z1 : (1 : Int32).toInt = 1 := by decide
  have z12 : (12 : Int32).toInt = 12 := by decide
  have z1000000000 : (1000000000 : Int32).toInt = 1000000000 := by decide
  obtain ⟨n_, hn_, hw_⟩ := hw
  refine lv_ldc (v := 1000000000) hx hb hown (hts (.constant RX0 100 (1000000000)) (List.mem_of_getElem? (i := 1) rfl)) dB_36_0_35.1.1.1.1 ?_
  refine lv_istore_n (lv' := [(3, .int 1000000000), (0, .ref xc), (1, .int a1), (2, .int a2)]) hx hb dB_36_0_35.1.1.1.2 rfl hl (by decide) rfl (fun ls hl => ?_)
  refine lv_iload_n hx hb dB_36_0_35.1.1.2.1 rfl (lv_at hl 3 rfl) ?_
  refine lv_istore (lv' := [(4, .int a2), (3, .int 1000000000), (0, .ref xc), (1, .int a1), (2, .int a2)]) hx hb dB_36_0_35.1.1.2.2 hl (by decide) rfl (fun ls hl => ?_)
  refine lv_iconst (v := 0) hx hb dB_36_0_35.1.2.1.1 (by decide) ?_
  refine lv_istore (lv' := [(5, .int 0), (4, .int a2), (3, .int 1000000000), (0, .ref xc), (1, .int a1), (2, .int a2)]) hx hb dB_36_0_35.1.2.1.2 hl (by decide) rfl (fun ls hl => ?_)
  suffices LOOP_1 : ∀ (n_1 : Nat) (x5_1 : Int32) (x4_1 : Int32) (x3_1 : Int32) (H : Heap) (locs : List Loc) (ls : Array Slot), 12 - x5_1.toInt < (n_1 : Int) → (0 ≤ x4_1.toInt ∧ x4_1.toInt < vp.toInt) → (0 ≤ x5_1.toInt) → (x5_1.toInt ≤ 12) → (1 ≤ x3_1.toInt) → (0 < x5_1.toInt → x3_1.toInt ≤ 160000000) → (wlp (zM Mr) f8 vp.toNatClampNeg a1.toNatClampNeg a2.toNatClampNeg n_ x3_1.toInt x5_1.toInt x4_1.toNatClampNeg) → (lwI (rmF (kF f5) (kF f6) (gN vn.toNatClampNeg (gF fs)) (nF fs) (nF fe) vn.toNatClampNeg (kF f4)) (nF f8) a1.toNatClampNeg a2.toNatClampNeg x5_1.toNatClampNeg x4_1.toNatClampNeg x3_1.toInt) → pd_2 D vwCl A [ob0_0_ xc xn xk clo cro c4 c5 c6 c7 c8, ob3_0_ xn vp vn n1 n2 n3 n4 n5, ai_ cy n2 40 fs, ai_ cy n3 40 fe, aq_ cy 6 cro 12 (gf_ rr), ai_ cy (rr 0) 12 (Mr 0), ai_ cy (rr 1) 12 (Mr 1), ai_ cy (rr 2) 12 (Mr 2), ai_ cy (rr 3) 12 (Mr 3), ai_ cy (rr 4) 12 (Mr 4), ai_ cy (rr 5) 12 (Mr 5), ai_ cy (rr 6) 12 (Mr 6), ai_ cy (rr 7) 12 (Mr 7), ai_ cy (rr 8) 12 (Mr 8), ai_ cy (rr 9) 12 (Mr 9), ai_ cy (rr 10) 12 (Mr 10), ai_ cy (rr 11) 12 (Mr 11), ai_ cy c4 40 f4, ai_ cy c5 40 f5, ai_ cy c6 40 f6, ai_ cy c8 12 f8] H → va_S A s.heap H locs → lv_has ls 6 [(5, .int x5_1), (4, .int x4_1), (3, .int x3_1), (0, .ref xc), (1, .int a1), (2, .int a2)] → W p l e ({ frames := 2, cells := 0, slots := 0, locals := 39 } : Room) s m (([.ref xc, .int a1, .int a2] : List Value).toArray) below meth c H locs 0 0 Q (F0 m 9 ls []) from LOOP_1 ((12 - (0 : Int32).toInt).toNat + 1) (0 : Int32) a2 (1000000000 : Int32) _ _ _ (by omega) (by first | with_reducible assumption | omega | assumption) (by first | with_reducible assumption | omega | assumption) (by first | with_reducible assumption | omega | assumption) (by first | with_reducible assumption | omega | assumption) (by first | with_reducible assumption | assumption | omega) (by first | exact wlp_0 hw_ | exact wlp_st v_none (by omega) hy_ S[ex] (by omega) (by omega) (by omega)) (by first | exact lwI_0 (by decide) | exact lwI_st v_none (by omega) hy_ S[ex] (by omega) (by omega) (by omega) (by omega) (by omega)) ⟨hP, hD⟩ hS (lv_sub hl [0, 1, 2, 3, 4, 5] rfl)
  intro n_1
  induction n_1 with
  | zero =>
    intro x5_1 x4_1 x3_1 H locs ls hm v0_1 v1_1 v2_1 v3_1 v4_1 v5_1 v6_1 hPD hS hl; obtain ⟨hP, hD⟩ := hPD
    exact absurd hm (by omega)
  | succ n_1 ih_1 =>
    intro x5_1 x4_1 x3_1 H locs ls hm v0_1 v1_1 v2_1 v3_1 v4_1 v5_1 v6_1 hPD hS hl; obtain ⟨hP, hD⟩ := hPD
    refine lv_iload hx hb dB_36_0_35.1.2.2.1 (lv_at hl 0 rfl) ?_
    refine lv_bipush (v := 12) hx hb dB_36_0_35.1.2.2.2 (by decide) ?_
    refine lv_icmp_ge (tgt := 57) hx hb dB_36_0_35.2.1.1.1 (by decide) (fun c_2 => ?_) (fun c_2 => ?_)
    · have t_2 : (12 : Int32).toInt ≤ x5_1.toInt := Int32.le_iff_toInt_le.mp c_2
      have hys_ : x4_1.toInt = a1.toInt := by have h_ := v5_1.1; omega
      have hwe_ := wlp_end v5_1 (congrArg Int32.toNatClampNeg (Int32.toInt_inj.mp hys_))
      have hL5_ : 0 < x5_1.toInt := by rcases Int.lt_or_le 0 x5_1.toInt with h_ | h_; exact h_; exfalso; have h0_ := hwe_.2; have hz_ : n_ = 0 := (by omega); rw [hz_] at hw_; exact nc_ne (x := a2) (y := a1) (by omega) (by omega) (by omega) hw_
      have hle_ := lwI_end v6_1 (nc_eq hys_) (nc_ne (x := a2) (y := a1) (by omega) (by omega) (by omega))
      refine lv_iload_n hx hb dB_36_0_36.2.2.2.2 rfl (lv_at hl 5 rfl) ?_
      refine lv_istore (lv' := [(4, .int a2), (5, .int x5_1), (3, .int x3_1), (0, .ref xc), (1, .int a1), (2, .int a2)]) hx hb dB_36_0_37.1.1.1.1 hl (by decide) rfl (fun ls hl => ?_)
      refine lv_iconst (v := 0) hx hb dB_36_0_37.1.1.1.2 (by decide) ?_
      refine lv_istore (lv' := [(5, .int 0), (4, .int a2), (3, .int x3_1), (0, .ref xc), (1, .int a1), (2, .int a2)]) hx hb dB_36_0_37.1.1.2.1 hl (by decide) rfl (fun ls hl => ?_)
      suffices LOOP_3 : ∀ (n_3 : Nat) (x5_3 : Int32) (x4_3 : Int32) (m_rr_3 : Nat → Nat → Int32) (c_c4_3 : Nat → Int32) (H : Heap) (locs : List Loc) (ls : Array Slot), 12 - x5_3.toInt < (n_3 : Int) → (0 ≤ x4_3.toInt ∧ x4_3.toInt < vp.toInt) → (0 ≤ x5_3.toInt) → (x5_3.toInt ≤ 12) → (wsn (zM Mr) (zM m_rr_3) f8 vp.toNatClampNeg a1.toNatClampNeg a2.toNatClampNeg n_ x3_1.toInt x5_3.toInt x4_3.toNatClampNeg) → (swI (kF f5) (kF f6) (gN vn.toNatClampNeg (gF fs)) (nF fs) (nF fe) vn.toNatClampNeg (nF f8) a1.toNatClampNeg a2.toNatClampNeg x3_1.toInt (kF f4) (kF c_c4_3) x5_3.toNatClampNeg x4_3.toNatClampNeg) → (flK (kF f5) (kF f6) (gN vn.toNatClampNeg (gF fs)) (kF c_c4_3)) → (rmE (kF f5) (kF f6) (gN vn.toNatClampNeg (gF fs)) (nF fs) (nF fe) vn.toNatClampNeg vp.toNatClampNeg (zM m_rr_3) (kF c_c4_3)) → (cnZ (zM Mr) (zM m_rr_3) vp.toNatClampNeg x4_3.toNatClampNeg a2.toNatClampNeg x3_1.toInt) → pd_2 D vwCl A [ob0_0_ xc xn xk clo cro c4 c5 c6 c7 c8, ob3_0_ xn vp vn n1 n2 n3 n4 n5, ai_ cy n2 40 fs, ai_ cy n3 40 fe, aq_ cy 6 cro 12 (gf_ rr), ai_ cy (rr 0) 12 (m_rr_3 0), ai_ cy (rr 1) 12 (m_rr_3 1), ai_ cy (rr 2) 12 (m_rr_3 2), ai_ cy (rr 3) 12 (m_rr_3 3), ai_ cy (rr 4) 12 (m_rr_3 4), ai_ cy (rr 5) 12 (m_rr_3 5), ai_ cy (rr 6) 12 (m_rr_3 6), ai_ cy (rr 7) 12 (m_rr_3 7), ai_ cy (rr 8) 12 (m_rr_3 8), ai_ cy (rr 9) 12 (m_rr_3 9), ai_ cy (rr 10) 12 (m_rr_3 10), ai_ cy (rr 11) 12 (m_rr_3 11), ai_ cy c4 40 c_c4_3, ai_ cy c5 40 f5, ai_ cy c6 40 f6, ai_ cy c8 12 f8] H → va_S A s.heap H locs → lv_has ls 6 [(5, .int x5_3), (4, .int x4_3), (3, .int x3_1), (0, .ref xc), (1, .int a1), (2, .int a2)] → W p l e ({ frames := 2, cells := 0, slots := 0, locals := 39 } : Room) s m (([.ref xc, .int a1, .int a2] : List Value).toArray) below meth c H locs 0 0 Q (F0 m 63 ls []) from LOOP_3 ((12 - (0 : Int32).toInt).toNat + 1) (0 : Int32) a2 Mr f4 _ _ _ (by omega) (by first | with_reducible assumption | omega | assumption) (by first | with_reducible assumption | omega | assumption) (by first | with_reducible assumption | omega | assumption) (by first | exact wsn_0 hwe_.1 hrm | exact wsn_st v_none (by omega) (by omega) hy_ S[ex] (by omega) S[ed]) (by first | exact swI_0 | exact swI_st v_none (by omega) hy_ S[ex] (by omega) S[sn]) (by first | exact hk | exact flK_sn v_none (by omega) (fun l hl => S[sn] l (gN_hN hl).1)) (by first | exact hre | exact rmE_st v_none v_none hse hwm_.2.1 hwm_.1 (by omega) hwm_.2.2.1 S[ed] S[sn]) (by first | exact cnZ_t | exact cnZ_e v_none S[ed] hwm_.2.1 hwm_.1) ⟨hP, hD⟩ hS (lv_sub hl [0, 1, 2, 3, 4, 5] rfl)
      intro n_3
      induction n_3 with
      | zero =>
        intro x5_3 x4_3 m_rr_3 c_c4_3 H locs ls hm v0_3 v1_3 v2_3 v3_3 v4_3 v5_3 v6_3 v7_3 hPD hS hl; obtain ⟨hP, hD⟩ := hPD
        exact absurd hm (by omega)
      | succ n_3 ih_3 =>
        intro x5_3 x4_3 m_rr_3 c_c4_3 H locs ls hm v0_3 v1_3 v2_3 v3_3 v4_3 v5_3 v6_3 v7_3 hPD hS hl; obtain ⟨hP, hD⟩ := hPD
        refine lv_iload hx hb dB_36_0_37.1.1.2.2 (lv_at hl 0 rfl) ?_
        refine lv_bipush (v := 12) hx hb dB_36_0_37.1.2.1.1 (by decide) ?_
        refine lv_icmp_ge (tgt := 105) hx hb dB_36_0_37.1.2.1.2 (by decide) (fun c_4 => ?_) (fun c_4 => ?_)
        · have t_4 : (12 : Int32).toInt ≤ x5_3.toInt := Int32.le_iff_toInt_le.mp c_4
          have hys2_ : x4_3.toInt = a1.toInt := by have h_ := v3_3.1; omega
          have hse_ := wsn_end v3_3 (congrArg Int32.toNatClampNeg (Int32.toInt_inj.mp hys2_))
          refine lv_iload_n hx hb dB_36_0_38.2.2.2.1 rfl (lv_at hl 2 rfl) ?_
          rw [hQ]
          exact W.iret (v := x3_1) hx hb hr (fun t ht hW => ⟨⟨x3_1, x3_1, rfl, ⟨rfl, (by omega)⟩, m_rr_3, c_c4_3, (hse_.1), (hse_.2), (wyF_mk hle_ (swI_end v4_3 (nc_eq hys2_))), (v5_3), (v6_3), (cnZ_at v7_3 (nc_eq hys2_)), by rw [ht]; exact hP, hD⟩, hS.F ht⟩) hS.2.2 dB_36_0_38.2.2.2.2
        · have t_4 : ¬ (12 : Int32).toInt ≤ x5_3.toInt := fun h => c_4 (Int32.le_iff_toInt_le.mpr h)
          refine lv_iload hx hb dB_36_0_37.1.2.2.1 (lv_at hl 1 rfl) ?_
          refine lv_iload_n hx hb dB_36_0_37.1.2.2.2 rfl (lv_at hl 4 rfl) ?_
          refine lv_icmp_eq (tgt := 105) hx hb dB_36_0_37.2.1.1.1 (by decide) (fun c_5 => ?_) (fun c_5 => ?_)
          · have t_5 : x4_3.toInt = a1.toInt := congrArg Int32.toInt c_5
            have hys2_ : x4_3.toInt = a1.toInt := by have h_ := v3_3.1; omega
            have hse_ := wsn_end v3_3 (congrArg Int32.toNatClampNeg (Int32.toInt_inj.mp hys2_))
            refine lv_iload_n hx hb dB_36_0_38.2.2.2.1 rfl (lv_at hl 2 rfl) ?_
            rw [hQ]
            exact W.iret (v := x3_1) hx hb hr (fun t ht hW => ⟨⟨x3_1, x3_1, rfl, ⟨rfl, (by omega)⟩, m_rr_3, c_c4_3, (hse_.1), (hse_.2), (wyF_mk hle_ (swI_end v4_3 (nc_eq hys2_))), (v5_3), (v6_3), (cnZ_at v7_3 (nc_eq hys2_)), by rw [ht]; exact hP, hD⟩, hS.F ht⟩) hS.2.2 dB_36_0_38.2.2.2.2
          · have t_5 : ¬ x4_3.toInt = a1.toInt := fun h => c_5 (Int32.toInt_inj.mp h)
            have hy_ := nc_ne (x := x4_3) (y := a1) (by omega) (by omega) (by omega)
            have hwm_ := wsn_m v3_3 hy_
            have hrk_ := v3_3.2.2.1
            refine lv_aload_n hx hb dB_36_0_37.2.1.1.2 rfl (lv_at hl 3 rfl) ?_
            refine lv_aload_n hx hb dB_36_0_37.2.1.2.1 rfl (lv_at hl 3 rfl) ?_
            refine va_get (ci := 0) (v := .ref c8) (C := RX0) (T := TX0) (N := 9) hx hb hts (fun _ h => List.mem_cons_of_mem _ (List.mem_append_left _ (List.mem_append_right _ h))) hown hK.1 hP 0 rfl rfl 8 (by decide) (hts (.fieldLink RX0 32 "CutAtlas$Current" "cameFrom" "[I") (List.mem_of_getElem? (i := 3) rfl)) (fun _ h9 => h9) rfl dB_36_0_37.2.1.2.2 ?_
            refine lv_iload hx hb dB_36_0_37.2.2.1.1 (lv_at hl 1 rfl) ?_
            have h_6 : vp_in x4_3 12 := in_I (by first | with_reducible assumption | omega) (by omega)
            refine va_iald hx hb hK.1 hP 20 0 rfl rfl (i := x4_3) h_6 dB_36_0_37.2.2.1.2 ?_
            refine lv_topi (fun y_7 ey_7 => ?_)
            have ry_7 : 0 ≤ y_7.toInt ∧ y_7.toInt ≤ 11 := by rw [ey_7]; exact r_f8 _ (in_lt h_6)
            have hxc_ : nF f8 x4_3.toNatClampNeg = y_7.toNatClampNeg := by rw [ey_7]; rfl
            rw [hxc_] at hwm_
            have hcx_ := clI (i := y_7) (by omega)
            have hcv_ := clI (i := vp) (by omega)
            have hxy_ : y_7.toInt ≠ x4_3.toInt := fun q_ => rmE_ne v6_3 hse hwm_.2.1 hwm_.1 (by omega) (nc_eq q_)
            refine lv_iload hx hb dB_36_0_37.2.2.2.1 (lv_at hl 1 rfl) ?_
            refine lv_iload_n hx hb dB_36_0_37.2.2.2.2 rfl (lv_at hl 2 rfl) ?_
            refine ct_S hP hD hS hA [ob0_0_ xc xn xk clo cro c4 c5 c6 c7 c8, ob3_0_ xn vp vn n1 n2 n3 n4 n5, ai_ cy n2 40 fs, ai_ cy n3 40 fe, aq_ cy 6 cro 12 (gf_ rr), ai_ cy (rr 0) 12 (m_rr_3 0), ai_ cy (rr 1) 12 (m_rr_3 1), ai_ cy (rr 2) 12 (m_rr_3 2), ai_ cy (rr 3) 12 (m_rr_3 3), ai_ cy (rr 4) 12 (m_rr_3 4), ai_ cy (rr 5) 12 (m_rr_3 5), ai_ cy (rr 6) 12 (m_rr_3 6), ai_ cy (rr 7) 12 (m_rr_3 7), ai_ cy (rr 8) 12 (m_rr_3 8), ai_ cy (rr 9) 12 (m_rr_3 9), ai_ cy (rr 10) 12 (m_rr_3 10), ai_ cy (rr 11) 12 (m_rr_3 11), ai_ cy c4 40 c_c4_3, ai_ cy c5 40 f5, ai_ cy c6 40 f6] [0, 1, 2, 3, 4, 5, 6, 7, 8, 9, 10, 11, 12, 13, 14, 15, 16, 17, 18, 19] (by decide +kernel) rfl (fun hPc hDw hFc hC_ => ?_)
            refine va_callv (va_runV (As := [.int y_7, .int x4_3, .int x3_1]) (rest := []) ⟨hx, hb, hml, hown, hts⟩ (c_X0_sendOver3 l D cy H.size xc xk clo cro c4 c5 c6 c7 c8 xn n1 n2 n3 n4 n5 vp vn fs fe rr m_rr_3 c_c4_3 f5 f6 y_7 x4_3 x3_1 (by first | with_reducible assumption | omega | assumption) (by first | with_reducible assumption | omega | assumption) (by first | with_reducible assumption | omega | assumption) (by first | with_reducible assumption | omega | assumption) (by first | with_reducible assumption | assumption | omega) (by first | with_reducible assumption | omega | assumption) (by first | with_reducible assumption | assumption | omega) (by first | with_reducible assumption | assumption | omega) (by first | with_reducible assumption | assumption | omega)) (cwV 3 hts gX0_sendAlongWay_X0_sendOver rfl rfl rfl ⟨rfl, hd_X0_sendOver⟩ ⟨Nat.le_of_ble_eq_true rfl, Nat.le_of_ble_eq_true rfl⟩) ⟨bl_g, va_recvX hK.1 hP (ci := 0) (q0 := 0) rfl rfl, fun U hU hW => ⟨rfl, by rw [hU], by rw [hU]; exact hPc, ⟨kk_mv hW hK, arrOfT_moved hW.alike hG⟩, hDw⟩⟩ rfl rfl hl.1 rfl (lv_room (Nat.le_of_ble_eq_true rfl)) dB_36_0_38.1.1.1 ⟨Nat.le_of_ble_eq_true rfl, Nat.le_of_ble_eq_true rfl⟩) hS (fun q _ h => hFc q h) hFc (fun u t H locs ht hvm hw hB hz1 hk1 hS => ?_)
            obtain ⟨eMr_9, e4_10, g_11, g_12, hP1, hD1⟩ := hB
            rw [ht] at hP1
            obtain ⟨hP, hD⟩ := va_join (wr := [ai_ cy c8 12 f8]) (w1 := [ob0_0_ xc xn xk clo cro c4 c5 c6 c7 c8, ob3_0_ xn vp vn n1 n2 n3 n4 n5, ai_ cy n2 40 fs, ai_ cy n3 40 fe, aq_ cy 6 cro 12 (gf_ rr), ai_ cy (rr 0) 12 (eMr_9 0), ai_ cy (rr 1) 12 (eMr_9 1), ai_ cy (rr 2) 12 (eMr_9 2), ai_ cy (rr 3) 12 (eMr_9 3), ai_ cy (rr 4) 12 (eMr_9 4), ai_ cy (rr 5) 12 (eMr_9 5), ai_ cy (rr 6) 12 (eMr_9 6), ai_ cy (rr 7) 12 (eMr_9 7), ai_ cy (rr 8) 12 (eMr_9 8), ai_ cy (rr 9) 12 (eMr_9 9), ai_ cy (rr 10) 12 (eMr_9 10), ai_ cy (rr 11) 12 (eMr_9 11), ai_ cy c4 40 e4_10, ai_ cy c5 40 f5, ai_ cy c6 40 f6]) hP hD [0, 1, 2, 3, 4, 5, 6, 7, 8, 9, 10, 11, 12, 13, 14, 15, 16, 17, 18, 19] [20] hC_ rfl (by decide) (by decide) hk1 hFc hP1 hD1
            refine pd_S hP hD [ob0_0_ xc xn xk clo cro c4 c5 c6 c7 c8, ob3_0_ xn vp vn n1 n2 n3 n4 n5, ai_ cy n2 40 fs, ai_ cy n3 40 fe, aq_ cy 6 cro 12 (gf_ rr), ai_ cy (rr 0) 12 (eMr_9 0), ai_ cy (rr 1) 12 (eMr_9 1), ai_ cy (rr 2) 12 (eMr_9 2), ai_ cy (rr 3) 12 (eMr_9 3), ai_ cy (rr 4) 12 (eMr_9 4), ai_ cy (rr 5) 12 (eMr_9 5), ai_ cy (rr 6) 12 (eMr_9 6), ai_ cy (rr 7) 12 (eMr_9 7), ai_ cy (rr 8) 12 (eMr_9 8), ai_ cy (rr 9) 12 (eMr_9 9), ai_ cy (rr 10) 12 (eMr_9 10), ai_ cy (rr 11) 12 (eMr_9 11), ai_ cy c4 40 e4_10, ai_ cy c5 40 f5, ai_ cy c6 40 f6, ai_ cy c8 12 f8] [1, 2, 3, 4, 5, 6, 7, 8, 9, 10, 11, 12, 13, 14, 15, 16, 17, 18, 19, 20, 0] (by decide +kernel) rfl (fun hP hD => ?_)
            refine lv_aload_n hx hb dB_36_0_38.1.1.2 rfl (lv_at hl 3 rfl) ?_
            refine va_get (ci := 0) (v := .ref c8) (C := RX0) (T := TX0) (N := 9) hx hb hts (fun _ h => List.mem_cons_of_mem _ (List.mem_append_left _ (List.mem_append_right _ h))) hown hK.1 hP 0 rfl rfl 8 (by decide) (hts (.fieldLink RX0 32 "CutAtlas$Current" "cameFrom" "[I") (List.mem_of_getElem? (i := 3) rfl)) (fun _ h9 => h9) rfl dB_36_0_38.1.2.1 ?_
            refine lv_iload hx hb dB_36_0_38.1.2.2.1 (lv_at hl 1 rfl) ?_
            refine va_iald hx hb hK.1 hP 20 0 rfl rfl (i := x4_3) h_6 dB_36_0_38.1.2.2.2 ?_
            refine lv_topi (fun y_14 ey_14 => ?_)
            have e_ := (ey_14.trans ey_7.symm).symm
            subst e_
            skip
            refine lv_istore (lv' := [(4, .int y_7), (5, .int x5_3), (3, .int x3_1), (0, .ref xc), (1, .int a1), (2, .int a2)]) hx hb dB_36_0_38.2.1.1 hl (by decide) rfl (fun ls hl => ?_)
            obtain ⟨y_15, ey_15⟩ : ∃ y : Int32, y = x5_3 + 1 := ⟨_, rfl⟩
            have ty_15 : y_15.toInt = x5_3.toInt + (1 : Int32).toInt := by rw [ey_15]; exact addI (by omega) (by omega)
            refine lv_iinc (v := y_15) (lv' := [(5, .int y_15), (4, .int y_7), (3, .int x3_1), (0, .ref xc), (1, .int a1), (2, .int a2)]) hx hb dB_36_0_38.2.1.2 hl (k := 1) rfl (by rw [ey_15]; rfl) (by decide) rfl (fun ls hl => ?_)
            refine lv_goto (tgt := 63) hx hb dB_36_0_38.2.2.1 (by decide) ?_
            exact ih_3 y_15 y_7 eMr_9 e4_10 _ _ _ (by omega) (by first | with_reducible assumption | omega | assumption) (by first | with_reducible assumption | omega | assumption) (by first | with_reducible assumption | omega | assumption) (by first | exact wsn_0 hwe_.1 hrm | exact wsn_st v3_3 (by omega) (by omega) hy_ ey_7 (by omega) g_11) (by first | exact swI_0 | exact swI_st v4_3 (by omega) hy_ ey_7 (by omega) g_12) (by first | exact hk | exact flK_sn v5_3 (by omega) (fun l hl => g_12 l (gN_hN hl).1)) (by first | exact hre | exact rmE_st v6_3 v5_3 hse hwm_.2.1 hwm_.1 (by omega) hwm_.2.2.1 g_11 g_12) (by first | exact cnZ_t | exact cnZ_e v7_3 g_11 hwm_.2.1 hwm_.1) ⟨hP, hD⟩ hS (lv_sub hl [0, 1, 2, 3, 4, 5] rfl)
    · have t_2 : ¬ (12 : Int32).toInt ≤ x5_1.toInt := fun h => c_2 (Int32.le_iff_toInt_le.mpr h)
      refine lv_iload hx hb dB_36_0_35.2.1.1.2 (lv_at hl 1 rfl) ?_
      refine lv_iload_n hx hb dB_36_0_35.2.1.2.1 rfl (lv_at hl 4 rfl) ?_
      refine lv_icmp_eq (tgt := 57) hx hb dB_36_0_35.2.1.2.2 (by decide) (fun c_16 => ?_) (fun c_16 => ?_)
      · have t_16 : x4_1.toInt = a1.toInt := congrArg Int32.toInt c_16
        have hys_ : x4_1.toInt = a1.toInt := by have h_ := v5_1.1; omega
        have hwe_ := wlp_end v5_1 (congrArg Int32.toNatClampNeg (Int32.toInt_inj.mp hys_))
        have hL5_ : 0 < x5_1.toInt := by rcases Int.lt_or_le 0 x5_1.toInt with h_ | h_; exact h_; exfalso; have h0_ := hwe_.2; have hz_ : n_ = 0 := (by omega); rw [hz_] at hw_; exact nc_ne (x := a2) (y := a1) (by omega) (by omega) (by omega) hw_
        have hle_ := lwI_end v6_1 (nc_eq hys_) (nc_ne (x := a2) (y := a1) (by omega) (by omega) (by omega))
        refine lv_iload_n hx hb dB_36_0_36.2.2.2.2 rfl (lv_at hl 5 rfl) ?_
        refine lv_istore (lv' := [(4, .int a2), (5, .int x5_1), (3, .int x3_1), (0, .ref xc), (1, .int a1), (2, .int a2)]) hx hb dB_36_0_37.1.1.1.1 hl (by decide) rfl (fun ls hl => ?_)
        refine lv_iconst (v := 0) hx hb dB_36_0_37.1.1.1.2 (by decide) ?_
        refine lv_istore (lv' := [(5, .int 0), (4, .int a2), (3, .int x3_1), (0, .ref xc), (1, .int a1), (2, .int a2)]) hx hb dB_36_0_37.1.1.2.1 hl (by decide) rfl (fun ls hl => ?_)
        suffices LOOP_17 : ∀ (n_17 : Nat) (x5_17 : Int32) (x4_17 : Int32) (m_rr_17 : Nat → Nat → Int32) (c_c4_17 : Nat → Int32) (H : Heap) (locs : List Loc) (ls : Array Slot), 12 - x5_17.toInt < (n_17 : Int) → (0 ≤ x4_17.toInt ∧ x4_17.toInt < vp.toInt) → (0 ≤ x5_17.toInt) → (x5_17.toInt ≤ 12) → (wsn (zM Mr) (zM m_rr_17) f8 vp.toNatClampNeg a1.toNatClampNeg a2.toNatClampNeg n_ x3_1.toInt x5_17.toInt x4_17.toNatClampNeg) → (swI (kF f5) (kF f6) (gN vn.toNatClampNeg (gF fs)) (nF fs) (nF fe) vn.toNatClampNeg (nF f8) a1.toNatClampNeg a2.toNatClampNeg x3_1.toInt (kF f4) (kF c_c4_17) x5_17.toNatClampNeg x4_17.toNatClampNeg) → (flK (kF f5) (kF f6) (gN vn.toNatClampNeg (gF fs)) (kF c_c4_17)) → (rmE (kF f5) (kF f6) (gN vn.toNatClampNeg (gF fs)) (nF fs) (nF fe) vn.toNatClampNeg vp.toNatClampNeg (zM m_rr_17) (kF c_c4_17)) → (cnZ (zM Mr) (zM m_rr_17) vp.toNatClampNeg x4_17.toNatClampNeg a2.toNatClampNeg x3_1.toInt) → pd_2 D vwCl A [ob0_0_ xc xn xk clo cro c4 c5 c6 c7 c8, ob3_0_ xn vp vn n1 n2 n3 n4 n5, ai_ cy n2 40 fs, ai_ cy n3 40 fe, aq_ cy 6 cro 12 (gf_ rr), ai_ cy (rr 0) 12 (m_rr_17 0), ai_ cy (rr 1) 12 (m_rr_17 1), ai_ cy (rr 2) 12 (m_rr_17 2), ai_ cy (rr 3) 12 (m_rr_17 3), ai_ cy (rr 4) 12 (m_rr_17 4), ai_ cy (rr 5) 12 (m_rr_17 5), ai_ cy (rr 6) 12 (m_rr_17 6), ai_ cy (rr 7) 12 (m_rr_17 7), ai_ cy (rr 8) 12 (m_rr_17 8), ai_ cy (rr 9) 12 (m_rr_17 9), ai_ cy (rr 10) 12 (m_rr_17 10), ai_ cy (rr 11) 12 (m_rr_17 11), ai_ cy c4 40 c_c4_17, ai_ cy c5 40 f5, ai_ cy c6 40 f6, ai_ cy c8 12 f8] H → va_S A s.heap H locs → lv_has ls 6 [(5, .int x5_17), (4, .int x4_17), (3, .int x3_1), (0, .ref xc), (1, .int a1), (2, .int a2)] → W p l e ({ frames := 2, cells := 0, slots := 0, locals := 39 } : Room) s m (([.ref xc, .int a1, .int a2] : List Value).toArray) below meth c H locs 0 0 Q (F0 m 63 ls []) from LOOP_17 ((12 - (0 : Int32).toInt).toNat + 1) (0 : Int32) a2 Mr f4 _ _ _ (by omega) (by first | with_reducible assumption | omega | assumption) (by first | with_reducible assumption | omega | assumption) (by first | with_reducible assumption | omega | assumption) (by first | exact wsn_0 hwe_.1 hrm | exact wsn_st v_none (by omega) (by omega) hy_ S[ex] (by omega) S[ed]) (by first | exact swI_0 | exact swI_st v_none (by omega) hy_ S[ex] (by omega) S[sn]) (by first | exact hk | exact flK_sn v_none (by omega) (fun l hl => S[sn] l (gN_hN hl).1)) (by first | exact hre | exact rmE_st v_none v_none hse hwm_.2.1 hwm_.1 (by omega) hwm_.2.2.1 S[ed] S[sn]) (by first | exact cnZ_t | exact cnZ_e v_none S[ed] hwm_.2.1 hwm_.1) ⟨hP, hD⟩ hS (lv_sub hl [0, 1, 2, 3, 4, 5] rfl)
        intro n_17
        induction n_17 with
        | zero =>
          intro x5_17 x4_17 m_rr_17 c_c4_17 H locs ls hm v0_17 v1_17 v2_17 v3_17 v4_17 v5_17 v6_17 v7_17 hPD hS hl; obtain ⟨hP, hD⟩ := hPD
          exact absurd hm (by omega)
        | succ n_17 ih_17 =>
          intro x5_17 x4_17 m_rr_17 c_c4_17 H locs ls hm v0_17 v1_17 v2_17 v3_17 v4_17 v5_17 v6_17 v7_17 hPD hS hl; obtain ⟨hP, hD⟩ := hPD
          refine lv_iload hx hb dB_36_0_37.1.1.2.2 (lv_at hl 0 rfl) ?_
          refine lv_bipush (v := 12) hx hb dB_36_0_37.1.2.1.1 (by decide) ?_
          refine lv_icmp_ge (tgt := 105) hx hb dB_36_0_37.1.2.1.2 (by decide) (fun c_18 => ?_) (fun c_18 => ?_)
          · have t_18 : (12 : Int32).toInt ≤ x5_17.toInt := Int32.le_iff_toInt_le.mp c_18
            have hys2_ : x4_17.toInt = a1.toInt := by have h_ := v3_17.1; omega
            have hse_ := wsn_end v3_17 (congrArg Int32.toNatClampNeg (Int32.toInt_inj.mp hys2_))
            refine lv_iload_n hx hb dB_36_0_38.2.2.2.1 rfl (lv_at hl 2 rfl) ?_
            rw [hQ]
            exact W.iret (v := x3_1) hx hb hr (fun t ht hW => ⟨⟨x3_1, x3_1, rfl, ⟨rfl, (by omega)⟩, m_rr_17, c_c4_17, (hse_.1), (hse_.2), (wyF_mk hle_ (swI_end v4_17 (nc_eq hys2_))), (v5_17), (v6_17), (cnZ_at v7_17 (nc_eq hys2_)), by rw [ht]; exact hP, hD⟩, hS.F ht⟩) hS.2.2 dB_36_0_38.2.2.2.2
          · have t_18 : ¬ (12 : Int32).toInt ≤ x5_17.toInt := fun h => c_18 (Int32.le_iff_toInt_le.mpr h)
            refine lv_iload hx hb dB_36_0_37.1.2.2.1 (lv_at hl 1 rfl) ?_
            refine lv_iload_n hx hb dB_36_0_37.1.2.2.2 rfl (lv_at hl 4 rfl) ?_
            refine lv_icmp_eq (tgt := 105) hx hb dB_36_0_37.2.1.1.1 (by decide) (fun c_19 => ?_) (fun c_19 => ?_)
            · have t_19 : x4_17.toInt = a1.toInt := congrArg Int32.toInt c_19
              have hys2_ : x4_17.toInt = a1.toInt := by have h_ := v3_17.1; omega
              have hse_ := wsn_end v3_17 (congrArg Int32.toNatClampNeg (Int32.toInt_inj.mp hys2_))
              refine lv_iload_n hx hb dB_36_0_38.2.2.2.1 rfl (lv_at hl 2 rfl) ?_
              rw [hQ]
              exact W.iret (v := x3_1) hx hb hr (fun t ht hW => ⟨⟨x3_1, x3_1, rfl, ⟨rfl, (by omega)⟩, m_rr_17, c_c4_17, (hse_.1), (hse_.2), (wyF_mk hle_ (swI_end v4_17 (nc_eq hys2_))), (v5_17), (v6_17), (cnZ_at v7_17 (nc_eq hys2_)), by rw [ht]; exact hP, hD⟩, hS.F ht⟩) hS.2.2 dB_36_0_38.2.2.2.2
            · have t_19 : ¬ x4_17.toInt = a1.toInt := fun h => c_19 (Int32.toInt_inj.mp h)
              have hy_ := nc_ne (x := x4_17) (y := a1) (by omega) (by omega) (by omega)
              have hwm_ := wsn_m v3_17 hy_
              have hrk_ := v3_17.2.2.1
              refine lv_aload_n hx hb dB_36_0_37.2.1.1.2 rfl (lv_at hl 3 rfl) ?_
              refine lv_aload_n hx hb dB_36_0_37.2.1.2.1 rfl (lv_at hl 3 rfl) ?_
              refine va_get (ci := 0) (v := .ref c8) (C := RX0) (T := TX0) (N := 9) hx hb hts (fun _ h => List.mem_cons_of_mem _ (List.mem_append_left _ (List.mem_append_right _ h))) hown hK.1 hP 0 rfl rfl 8 (by decide) (hts (.fieldLink RX0 32 "CutAtlas$Current" "cameFrom" "[I") (List.mem_of_getElem? (i := 3) rfl)) (fun _ h9 => h9) rfl dB_36_0_37.2.1.2.2 ?_
              refine lv_iload hx hb dB_36_0_37.2.2.1.1 (lv_at hl 1 rfl) ?_
              have h_20 : vp_in x4_17 12 := in_I (by first | with_reducible assumption | omega) (by omega)
              refine va_iald hx hb hK.1 hP 20 0 rfl rfl (i := x4_17) h_20 dB_36_0_37.2.2.1.2 ?_
              refine lv_topi (fun y_21 ey_21 => ?_)
              have ry_21 : 0 ≤ y_21.toInt ∧ y_21.toInt ≤ 11 := by rw [ey_21]; exact r_f8 _ (in_lt h_20)
              have hxc_ : nF f8 x4_17.toNatClampNeg = y_21.toNatClampNeg := by rw [ey_21]; rfl
              rw [hxc_] at hwm_
              have hcx_ := clI (i := y_21) (by omega)
              have hcv_ := clI (i := vp) (by omega)
              have hxy_ : y_21.toInt ≠ x4_17.toInt := fun q_ => rmE_ne v6_17 hse hwm_.2.1 hwm_.1 (by omega) (nc_eq q_)
              refine lv_iload hx hb dB_36_0_37.2.2.2.1 (lv_at hl 1 rfl) ?_
              refine lv_iload_n hx hb dB_36_0_37.2.2.2.2 rfl (lv_at hl 2 rfl) ?_
              refine ct_S hP hD hS hA [ob0_0_ xc xn xk clo cro c4 c5 c6 c7 c8, ob3_0_ xn vp vn n1 n2 n3 n4 n5, ai_ cy n2 40 fs, ai_ cy n3 40 fe, aq_ cy 6 cro 12 (gf_ rr), ai_ cy (rr 0) 12 (m_rr_17 0), ai_ cy (rr 1) 12 (m_rr_17 1), ai_ cy (rr 2) 12 (m_rr_17 2), ai_ cy (rr 3) 12 (m_rr_17 3), ai_ cy (rr 4) 12 (m_rr_17 4), ai_ cy (rr 5) 12 (m_rr_17 5), ai_ cy (rr 6) 12 (m_rr_17 6), ai_ cy (rr 7) 12 (m_rr_17 7), ai_ cy (rr 8) 12 (m_rr_17 8), ai_ cy (rr 9) 12 (m_rr_17 9), ai_ cy (rr 10) 12 (m_rr_17 10), ai_ cy (rr 11) 12 (m_rr_17 11), ai_ cy c4 40 c_c4_17, ai_ cy c5 40 f5, ai_ cy c6 40 f6] [0, 1, 2, 3, 4, 5, 6, 7, 8, 9, 10, 11, 12, 13, 14, 15, 16, 17, 18, 19] (by decide +kernel) rfl (fun hPc hDw hFc hC_ => ?_)
              refine va_callv (va_runV (As := [.int y_21, .int x4_17, .int x3_1]) (rest := []) ⟨hx, hb, hml, hown, hts⟩ (c_X0_sendOver3 l D cy H.size xc xk clo cro c4 c5 c6 c7 c8 xn n1 n2 n3 n4 n5 vp vn fs fe rr m_rr_17 c_c4_17 f5 f6 y_21 x4_17 x3_1 (by first | with_reducible assumption | omega | assumption) (by first | with_reducible assumption | omega | assumption) (by first | with_reducible assumption | omega | assumption) (by first | with_reducible assumption | omega | assumption) (by first | with_reducible assumption | assumption | omega) (by first | with_reducible assumption | omega | assumption) (by first | with_reducible assumption | assumption | omega) (by first | with_reducible assumption | assumption | omega) (by first | with_reducible assumption | assumption | omega)) (cwV 3 hts gX0_sendAlongWay_X0_sendOver rfl rfl rfl ⟨rfl, hd_X0_sendOver⟩ ⟨Nat.le_of_ble_eq_true rfl, Nat.le_of_ble_eq_true rfl⟩) ⟨bl_g, va_recvX hK.1 hP (ci := 0) (q0 := 0) rfl rfl, fun U hU hW => ⟨rfl, by rw [hU], by rw [hU]; exact hPc, ⟨kk_mv hW hK, arrOfT_moved hW.alike hG⟩, hDw⟩⟩ rfl rfl hl.1 rfl (lv_room (Nat.le_of_ble_eq_true rfl)) dB_36_0_38.1.1.1 ⟨Nat.le_of_ble_eq_true rfl, Nat.le_of_ble_eq_true rfl⟩) hS (fun q _ h => hFc q h) hFc (fun u t H locs ht hvm hw hB hz1 hk1 hS => ?_)
              obtain ⟨eMr_23, e4_24, g_25, g_26, hP1, hD1⟩ := hB
              rw [ht] at hP1
              obtain ⟨hP, hD⟩ := va_join (wr := [ai_ cy c8 12 f8]) (w1 := [ob0_0_ xc xn xk clo cro c4 c5 c6 c7 c8, ob3_0_ xn vp vn n1 n2 n3 n4 n5, ai_ cy n2 40 fs, ai_ cy n3 40 fe, aq_ cy 6 cro 12 (gf_ rr), ai_ cy (rr 0) 12 (eMr_23 0), ai_ cy (rr 1) 12 (eMr_23 1), ai_ cy (rr 2) 12 (eMr_23 2), ai_ cy (rr 3) 12 (eMr_23 3), ai_ cy (rr 4) 12 (eMr_23 4), ai_ cy (rr 5) 12 (eMr_23 5), ai_ cy (rr 6) 12 (eMr_23 6), ai_ cy (rr 7) 12 (eMr_23 7), ai_ cy (rr 8) 12 (eMr_23 8), ai_ cy (rr 9) 12 (eMr_23 9), ai_ cy (rr 10) 12 (eMr_23 10), ai_ cy (rr 11) 12 (eMr_23 11), ai_ cy c4 40 e4_24, ai_ cy c5 40 f5, ai_ cy c6 40 f6]) hP hD [0, 1, 2, 3, 4, 5, 6, 7, 8, 9, 10, 11, 12, 13, 14, 15, 16, 17, 18, 19] [20] hC_ rfl (by decide) (by decide) hk1 hFc hP1 hD1
              refine pd_S hP hD [ob0_0_ xc xn xk clo cro c4 c5 c6 c7 c8, ob3_0_ xn vp vn n1 n2 n3 n4 n5, ai_ cy n2 40 fs, ai_ cy n3 40 fe, aq_ cy 6 cro 12 (gf_ rr), ai_ cy (rr 0) 12 (eMr_23 0), ai_ cy (rr 1) 12 (eMr_23 1), ai_ cy (rr 2) 12 (eMr_23 2), ai_ cy (rr 3) 12 (eMr_23 3), ai_ cy (rr 4) 12 (eMr_23 4), ai_ cy (rr 5) 12 (eMr_23 5), ai_ cy (rr 6) 12 (eMr_23 6), ai_ cy (rr 7) 12 (eMr_23 7), ai_ cy (rr 8) 12 (eMr_23 8), ai_ cy (rr 9) 12 (eMr_23 9), ai_ cy (rr 10) 12 (eMr_23 10), ai_ cy (rr 11) 12 (eMr_23 11), ai_ cy c4 40 e4_24, ai_ cy c5 40 f5, ai_ cy c6 40 f6, ai_ cy c8 12 f8] [1, 2, 3, 4, 5, 6, 7, 8, 9, 10, 11, 12, 13, 14, 15, 16, 17, 18, 19, 20, 0] (by decide +kernel) rfl (fun hP hD => ?_)
              refine lv_aload_n hx hb dB_36_0_38.1.1.2 rfl (lv_at hl 3 rfl) ?_
              refine va_get (ci := 0) (v := .ref c8) (C := RX0) (T := TX0) (N := 9) hx hb hts (fun _ h => List.mem_cons_of_mem _ (List.mem_append_left _ (List.mem_append_right _ h))) hown hK.1 hP 0 rfl rfl 8 (by decide) (hts (.fieldLink RX0 32 "CutAtlas$Current" "cameFrom" "[I") (List.mem_of_getElem? (i := 3) rfl)) (fun _ h9 => h9) rfl dB_36_0_38.1.2.1 ?_
              refine lv_iload hx hb dB_36_0_38.1.2.2.1 (lv_at hl 1 rfl) ?_
              refine va_iald hx hb hK.1 hP 20 0 rfl rfl (i := x4_17) h_20 dB_36_0_38.1.2.2.2 ?_
              refine lv_topi (fun y_28 ey_28 => ?_)
              have e_ := (ey_28.trans ey_21.symm).symm
              subst e_
              skip
              refine lv_istore (lv' := [(4, .int y_21), (5, .int x5_17), (3, .int x3_1), (0, .ref xc), (1, .int a1), (2, .int a2)]) hx hb dB_36_0_38.2.1.1 hl (by decide) rfl (fun ls hl => ?_)
              obtain ⟨y_29, ey_29⟩ : ∃ y : Int32, y = x5_17 + 1 := ⟨_, rfl⟩
              have ty_29 : y_29.toInt = x5_17.toInt + (1 : Int32).toInt := by rw [ey_29]; exact addI (by omega) (by omega)
              refine lv_iinc (v := y_29) (lv' := [(5, .int y_29), (4, .int y_21), (3, .int x3_1), (0, .ref xc), (1, .int a1), (2, .int a2)]) hx hb dB_36_0_38.2.1.2 hl (k := 1) rfl (by rw [ey_29]; rfl) (by decide) rfl (fun ls hl => ?_)
              refine lv_goto (tgt := 63) hx hb dB_36_0_38.2.2.1 (by decide) ?_
              exact ih_17 y_29 y_21 eMr_23 e4_24 _ _ _ (by omega) (by first | with_reducible assumption | omega | assumption) (by first | with_reducible assumption | omega | assumption) (by first | with_reducible assumption | omega | assumption) (by first | exact wsn_0 hwe_.1 hrm | exact wsn_st v3_17 (by omega) (by omega) hy_ ey_21 (by omega) g_25) (by first | exact swI_0 | exact swI_st v4_17 (by omega) hy_ ey_21 (by omega) g_26) (by first | exact hk | exact flK_sn v5_17 (by omega) (fun l hl => g_26 l (gN_hN hl).1)) (by first | exact hre | exact rmE_st v6_17 v5_17 hse hwm_.2.1 hwm_.1 (by omega) hwm_.2.2.1 g_25 g_26) (by first | exact cnZ_t | exact cnZ_e v7_17 g_25 hwm_.2.1 hwm_.1) ⟨hP, hD⟩ hS (lv_sub hl [0, 1, 2, 3, 4, 5] rfl)
      · have t_16 : ¬ x4_1.toInt = a1.toInt := fun h => c_16 (Int32.toInt_inj.mp h)
        have hy_ := nc_ne (x := x4_1) (y := a1) (by omega) (by omega) (by omega)
        have hwm_ := wlp_m v5_1 hy_
        have hrx_ := hrm _ _ hwm_.2.1 hwm_.1
        have hry_ := hrm _ _ hwm_.1 hwm_.2.1
        have hrq_ := hre _ _ hwm_.2.1 hwm_.1
        refine lv_iload_n hx hb dB_36_0_35.2.2.1.1 rfl (lv_at hl 2 rfl) ?_
        refine lv_aload_n hx hb dB_36_0_35.2.2.1.2 rfl (lv_at hl 3 rfl) ?_
        refine va_get (ci := 0) (v := .ref cro) (C := RX0) (T := TX0) (N := 9) hx hb hts (fun _ h => List.mem_cons_of_mem _ (List.mem_append_left _ (List.mem_append_right _ h))) hown hK.1 hP 0 rfl rfl 3 (by decide) (hts (.fieldLink RX0 16 "CutAtlas$Current" "room" "[[I") (List.mem_of_getElem? (i := 2) rfl)) (fun _ h9 => h9) rfl dB_36_0_35.2.2.2.1 ?_
        refine lv_aload_n hx hb dB_36_0_35.2.2.2.2 rfl (lv_at hl 3 rfl) ?_
        refine va_get (ci := 0) (v := .ref c8) (C := RX0) (T := TX0) (N := 9) hx hb hts (fun _ h => List.mem_cons_of_mem _ (List.mem_append_left _ (List.mem_append_right _ h))) hown hK.1 hP 0 rfl rfl 8 (by decide) (hts (.fieldLink RX0 32 "CutAtlas$Current" "cameFrom" "[I") (List.mem_of_getElem? (i := 3) rfl)) (fun _ h9 => h9) rfl dB_36_0_36.1.1.1.1 ?_
        refine lv_iload hx hb dB_36_0_36.1.1.1.2 (lv_at hl 1 rfl) ?_
        have h_30 : vp_in x4_1 12 := in_I (by first | with_reducible assumption | omega) (by omega)
        refine va_iald hx hb hK.1 hP 20 0 rfl rfl (i := x4_1) h_30 dB_36_0_36.1.1.2.1 ?_
        refine lv_topi (fun y_31 ey_31 => ?_)
        have ry_31 : 0 ≤ y_31.toInt ∧ y_31.toInt ≤ 11 := by rw [ey_31]; exact r_f8 _ (in_lt h_30)
        have hxc_ : nF f8 x4_1.toNatClampNeg = y_31.toNatClampNeg := by rw [ey_31]; rfl
        rw [hxc_] at hwm_ hrx_ hry_ hrq_
        have hcx_ := clI (i := y_31) (by omega)
        have hcv_ := clI (i := vp) (by omega)
        have h_32 : vp_in y_31 12 := in_I (by first | with_reducible assumption | omega) (by omega)
        refine va_alda hx hb hG hP 4 rfl (i := y_31) h_32 dB_36_0_36.1.1.2.2 ?_
        refine lv_topv (v' := .ref (rr y_31.toNatClampNeg)) (gf_at h_32) ?_
        refine lv_iload hx hb dB_36_0_36.1.2.1.1 (lv_at hl 1 rfl) ?_
        have hPg : va_P D vwCl (([ob0_0_ xc xn xk clo cro c4 c5 c6 c7 c8, ob3_0_ xn vp vn n1 n2 n3 n4 n5, ai_ cy n2 40 fs, ai_ cy n3 40 fe, aq_ cy 6 cro 12 (gf_ rr)] : va_W) ++ (gro (cy 0) rr Mr ++ ([ai_ cy c4 40 f4, ai_ cy c5 40 f5, ai_ cy c6 40 f6, ai_ cy c8 12 f8] : va_W))) H := hP
        refine va_gld (X := [ob0_0_ xc xn xk clo cro c4 c5 c6 c7 c8, ob3_0_ xn vp vn n1 n2 n3 n4 n5, ai_ cy n2 40 fs, ai_ cy n3 40 fe, aq_ cy 6 cro 12 (gf_ rr)]) (Y := [ai_ cy c4 40 f4, ai_ cy c5 40 f5, ai_ cy c6 40 f6, ai_ cy c8 12 f8]) (r := rr) (M := Mr) (k := y_31.toNatClampNeg) hx hb hK.1 hPg 0 rfl (in_lt h_32) (i := x4_1) h_30 dB_36_0_36.1.2.1.2 ?_
        refine lv_topi (fun y_34 ey_34 => ?_)
        have hmv_ : y_34.toInt = zM Mr y_31.toNatClampNeg x4_1.toNatClampNeg := by unfold zM; rw [ey_34]
        refine va_mmin hx hb (by rw [hml]; exact hl.1.symm) hown (hts (.methodLink RX0 101 Lib.Math.min.name) (List.mem_of_getElem? (i := 4) rfl)) (hts (.static Lib.Math.min.name) (List.mem_of_getElem? (i := 5) rfl)) (hts (.initialized "java/lang/Math") (List.mem_of_getElem? (i := 6) rfl)) (hts (.code Lib.Math.min.name Lib.Math.min.code 2 (some .int)) (List.mem_of_getElem? (i := 7) rfl)) (Nat.le_of_ble_eq_true rfl) (Nat.le_of_ble_eq_true rfl) (Nat.le_of_ble_eq_true rfl) (Nat.le_of_ble_eq_true rfl) dB_36_0_36.1.2.2.1 ?_
        refine lv_topi (fun y_35 ey_35 => ?_)
        have ty_35 : y_35 = x3_1 ∨ y_35 = y_34 := by rw [ey_35]; split <;> simp
        have iy_35 : y_35.toInt = x3_1.toInt ∨ y_35.toInt = y_34.toInt := by rcases ty_35 with h | h <;> rw [h] <;> simp
        have hmn_ : y_35.toInt ≤ x3_1.toInt ∧ y_35.toInt ≤ zM Mr y_31.toNatClampNeg x4_1.toNatClampNeg ∧ (y_35.toInt = x3_1.toInt ∨ y_35.toInt = zM Mr y_31.toNatClampNeg x4_1.toNatClampNeg) := by have h_ := mnI ey_35; unfold loI at h_; split at h_ <;> omega
        refine lv_istore_n (lv' := [(3, .int y_35), (5, .int x5_1), (4, .int x4_1), (0, .ref xc), (1, .int a1), (2, .int a2)]) hx hb dB_36_0_36.1.2.2.2 rfl hl (by decide) rfl (fun ls hl => ?_)
        refine lv_aload_n hx hb dB_36_0_36.2.1.1.1 rfl (lv_at hl 3 rfl) ?_
        refine va_get (ci := 0) (v := .ref c8) (C := RX0) (T := TX0) (N := 9) hx hb hts (fun _ h => List.mem_cons_of_mem _ (List.mem_append_left _ (List.mem_append_right _ h))) hown hK.1 hP 0 rfl rfl 8 (by decide) (hts (.fieldLink RX0 32 "CutAtlas$Current" "cameFrom" "[I") (List.mem_of_getElem? (i := 3) rfl)) (fun _ h9 => h9) rfl dB_36_0_36.2.1.1.2 ?_
        refine lv_iload hx hb dB_36_0_36.2.1.2.1 (lv_at hl 2 rfl) ?_
        refine va_iald hx hb hK.1 hP 20 0 rfl rfl (i := x4_1) h_30 dB_36_0_36.2.1.2.2 ?_
        refine lv_topi (fun y_37 ey_37 => ?_)
        have e_ := (ey_37.trans ey_31.symm).symm
        subst e_
        skip
        refine lv_istore (lv' := [(4, .int y_31), (3, .int y_35), (5, .int x5_1), (0, .ref xc), (1, .int a1), (2, .int a2)]) hx hb dB_36_0_36.2.2.1.1 hl (by decide) rfl (fun ls hl => ?_)
        obtain ⟨y_38, ey_38⟩ : ∃ y : Int32, y = x5_1 + 1 := ⟨_, rfl⟩
        have ty_38 : y_38.toInt = x5_1.toInt + (1 : Int32).toInt := by rw [ey_38]; exact addI (by omega) (by omega)
        refine lv_iinc (v := y_38) (lv' := [(5, .int y_38), (4, .int y_31), (3, .int y_35), (0, .ref xc), (1, .int a1), (2, .int a2)]) hx hb dB_36_0_36.2.2.1.2 hl (k := 2) rfl (by rw [ey_38]; rfl) (by decide) rfl (fun ls hl => ?_)
        refine lv_goto (tgt := 9) hx hb dB_36_0_36.2.2.2.1 (by decide) ?_
        exact ih_1 y_38 y_31 y_35 _ _ _ (by omega) (by first | with_reducible assumption | omega | assumption) (by first | with_reducible assumption | omega | assumption) (by first | with_reducible assumption | omega | assumption) (by first | with_reducible assumption | omega | assumption) (by first | with_reducible assumption | assumption | omega) (by first | exact wlp_0 hw_ | exact wlp_st v5_1 (by omega) hy_ ey_31 (by omega) (by omega) (by omega)) (by first | exact lwI_0 (by decide) | exact lwI_st v6_1 (by omega) hy_ ey_31 (by omega) (by omega) (by omega) (by omega) (by omega)) ⟨hP, hD⟩ hS (lv_sub hl [0, 1, 2, 3, 4, 5] rfl)
end
