section
set_option maxHeartbeats 4000000 in
set_option maxRecDepth 100000 in
theorem c_X12_plants2 (l : Launch) (D : va_G) (cy : Nat → ClassId) (sz : Nat) (mo : Nat) (g5 : Nat) (g6 : Nat) (g7 : Nat) (g8 : Nat) (g9 : Nat) (g10 : Nat) (g12 : Nat) (g13 : Nat) (g14 : Nat) (g15 : Nat) (g16 : Nat) (g17 : Nat) (g18 : Nat) (g19 : Nat) (g20 : Nat) (g22 : Nat) (g23 : Nat) (g24 : Nat) (g29 : Nat) (g30 : Nat) (g31 : Nat) (g32 : Nat) (g33 : Nat) (s0 : Int32) (s1 : Int32) (s3 : Int32) (s4 : Int32) (s11 : Int32) (s21 : Int32) (s25 : Int32) (s26 : Int32) (s27 : Int32) (s28 : Int32) (t2 : Int64) (f5 : Nat → Int32) (f6 : Nat → Int32) (f7 : Nat → Int32) (f8 : Nat → Int32) (f10 : Nat → Int32) (f32 : Nat → Int32) (f33 : Nat → Int32) (hN : 0 ≤ s4.toInt ∧ s4.toInt ≤ 40) (hPl : 0 ≤ s3.toInt ∧ s3.toInt ≤ 12) (hnet : netE s3.toInt s4.toInt f6 f7 f10) (hwc : whC (cutR f5 f6 f7 f8 f10 s21.toInt s4.toNatClampNeg) s3.toNatClampNeg) (r_f6 : rng f6 40 (0) (11)) (r_f7 : rng f7 40 (0) (11)) (r_f8 : rng f8 40 (0) (2000)) (r_f32 : rng f32 12 (0) (11)) : Met l yX12_plants wsX12_plants ({ frames := 4, cells := 0, slots := 0, locals := 96 }) (va_Pc [.ref mo] (fun U => U.heap.size = sz ∧ va_P D vwCl [ob12_0_ mo s0 s1 t2 s3 s4 g5 g6 g7 g8 g9 g10 s11 g12 g13 g14 g15 g16 g17 g18 g19 g20 s21 g22 g23 g24 s25 s26 s27 s28 g29 g30 g31 g32 g33, ai_ cy g5 40 f5, ai_ cy g6 40 f6, ai_ cy g7 40 f7, ai_ cy g8 40 f8, az_ cy g10 40 f10, ai_ cy g32 12 f32, ai_ cy g33 12 f33] U.heap ∧ kk_ D cy U ∧ va_D (fun _ => True) [ob12_0_ mo s0 s1 t2 s3 s4 g5 g6 g7 g8 g9 g10 s11 g12 g13 g14 g15 g16 g17 g18 g19 g20 s21 g22 g23 g24 s25 s26 s27 s28 g29 g30 g31 g32 g33, ai_ cy g5 40 f5, ai_ cy g6 40 f6, ai_ cy g7 40 f7, ai_ cy g8 40 f8, az_ cy g10 40 f10, ai_ cy g32 12 f32, ai_ cy g33 12 f33])) (va_Qv (fun (_ : Unit) => True) (fun (_ : Unit) (t : State) => ∃ (n25 : Int32), ∃ (n26 : Int32), ∃ (n27 : Int32), ∃ (n28 : Int32), ∃ (e32 : Nat → Int32), ∃ (e33 : Nat → Int32), (gtr (cutR f5 f6 f7 f8 f10 s21.toInt s4.toNatClampNeg) s3.toNatClampNeg (s3.toNatClampNeg - 1) e32 e33) ∧ (rng e32 12 (0) (11)) ∧ va_P D vwCl [ob12_0_ mo s0 s1 t2 s3 s4 g5 g6 g7 g8 g9 g10 s11 g12 g13 g14 g15 g16 g17 g18 g19 g20 s21 g22 g23 g24 n25 n26 n27 n28 g29 g30 g31 g32 g33, ai_ cy g5 40 f5, ai_ cy g6 40 f6, ai_ cy g7 40 f7, ai_ cy g8 40 f8, az_ cy g10 40 f10, ai_ cy g32 12 e32, ai_ cy g33 12 e33] t.heap ∧ va_D (va_A [ob12_0_ mo s0 s1 t2 s3 s4 g5 g6 g7 g8 g9 g10 s11 g12 g13 g14 g15 g16 g17 g18 g19 g20 s21 g22 g23 g24 s25 s26 s27 s28 g29 g30 g31 g32 g33, ai_ cy g5 40 f5, ai_ cy g6 40 f6, ai_ cy g7 40 f7, ai_ cy g8 40 f8, az_ cy g10 40 f10, ai_ cy g32 12 f32, ai_ cy g33 12 f33] sz) [ob12_0_ mo s0 s1 t2 s3 s4 g5 g6 g7 g8 g9 g10 s11 g12 g13 g14 g15 g16 g17 g18 g19 g20 s21 g22 g23 g24 n25 n26 n27 n28 g29 g30 g31 g32 g33, ai_ cy g5 40 f5, ai_ cy g6 40 f6, ai_ cy g7 40 f7, ai_ cy g8 40 f8, az_ cy g10 40 f10, ai_ cy g32 12 e32, ai_ cy g33 12 e33]) (va_A [ob12_0_ mo s0 s1 t2 s3 s4 g5 g6 g7 g8 g9 g10 s11 g12 g13 g14 g15 g16 g17 g18 g19 g20 s21 g22 g23 g24 s25 s26 s27 s28 g29 g30 g31 g32 g33, ai_ cy g5 40 f5, ai_ cy g6 40 f6, ai_ cy g7 40 f7, ai_ cy g8 40 f8, az_ cy g10 40 f10, ai_ cy g32 12 f32, ai_ cy g33 12 f33] sz)) 0 0 (va_A [ob12_0_ mo s0 s1 t2 s3 s4 g5 g6 g7 g8 g9 g10 s11 g12 g13 g14 g15 g16 g17 g18 g19 g20 s21 g22 g23 g24 s25 s26 s27 s28 g29 g30 g31 g32 g33, ai_ cy g5 40 f5, ai_ cy g6 40 f6, ai_ cy g7 40 f7, ai_ cy g8 40 f8, az_ cy g10 40 f10, ai_ cy g32 12 f32, ai_ cy g33 12 f33] sz) := by
  refine ofQ (cc := cX12_plants) (maxL := 6) (ret := none) (by decide) rfl ?_
  intro p e s m args below meth c s₁ Q hQ B hml hv
  obtain ⟨rfl, hsz, hP, hK, hD0⟩ := hv
  have hx := B.exec
  have hb := B.bytes
  have hr := B.returns
  have hts := atoms_spec (ws := wsX12_plants) B.pre
  have hown : s.vm.findClass RX12 = some m.cls := by have h_ := findClass_of_methodNamed B.named; exact h_
  have hlocks := B.notSynchronized
  subst hsz
  have hD := hD0.self (sz := s.heap.size)
  generalize hAe : va_A [ob12_0_ mo s0 s1 t2 s3 s4 g5 g6 g7 g8 g9 g10 s11 g12 g13 g14 g15 g16 g17 g18 g19 g20 s21 g22 g23 g24 s25 s26 s27 s28 g29 g30 g31 g32 g33, ai_ cy g5 40 f5, ai_ cy g6 40 f6, ai_ cy g7 40 f7, ai_ cy g8 40 f8, az_ cy g10 40 f10, ai_ cy g32 12 f32, ai_ cy g33 12 f33] s.heap.size = A at hD hQ
  have hA : ∀ q : Nat, s.heap.size ≤ q → A q := fun q h => by rw [← hAe]; exact Or.inr h
  have hS : va_S A s.heap s.heap [] := va_S.rf
  have hl := lv_entry ([.ref mo]) (n := 6) (Nat.le_of_ble_eq_true rfl)
  rw [lg_entry_eq]
  generalize (lg_sl ([.ref mo]) ++ List.replicate (6 - (lg_sl ([.ref mo])).length) Slot.unset).toArray = ls at hl ⊢
  have hl : lv_has ls 6 [(0, .ref mo)] := hl
  have zm9 : ((-9) : Int32).toInt = -9 := by decide
  have z0 : (0 : Int32).toInt = 0 := by decide
  have z1 : (1 : Int32).toInt = 1 := by decide
  have z12 : (12 : Int32).toInt = 12 := by decide
  have cs_ := clI (i := s3) (by omega)
  refine lv_iconst (v := 0) hx hb dB_3_2_43.1.1.1.1 (by decide) ?_
  refine lv_istore_n (lv' := [(1, .int 0), (0, .ref mo)]) hx hb dB_3_2_43.1.1.1.2 rfl hl (by decide) rfl (fun ls hl => ?_)
  suffices LOOP_1 : ∀ (n_1 : Nat) (x1_1 : Int32) (c_g32_1 : Nat → Int32) (c_g33_1 : Nat → Int32) (H : Heap) (locs : List Loc) (ls : Array Slot), 12 - x1_1.toInt < (n_1 : Int) → (0 ≤ x1_1.toInt) → (x1_1.toInt ≤ 12) → (∀ j : Nat, (j : Int) < x1_1.toInt → c_g32_1 j = 0) → (rng c_g32_1 12 (0) (11)) → pd_2 D vwCl A [ob12_0_ mo s0 s1 t2 s3 s4 g5 g6 g7 g8 g9 g10 s11 g12 g13 g14 g15 g16 g17 g18 g19 g20 s21 g22 g23 g24 s25 s26 s27 s28 g29 g30 g31 g32 g33, ai_ cy g5 40 f5, ai_ cy g6 40 f6, ai_ cy g7 40 f7, ai_ cy g8 40 f8, az_ cy g10 40 f10, ai_ cy g32 12 c_g32_1, ai_ cy g33 12 c_g33_1] H → va_S A s.heap H locs → lv_has ls 6 [(1, .int x1_1), (0, .ref mo)] → W p l e ({ frames := 4, cells := 0, slots := 0, locals := 96 } : Room) s m (([.ref mo] : List Value).toArray) below meth c H locs 0 0 Q (F0 m 2 ls []) from LOOP_1 ((12 - (0 : Int32).toInt).toNat + 1) (0 : Int32) f32 f33 _ _ _ (by omega) (by first | with_reducible assumption | omega | assumption) (by first | with_reducible assumption | omega | assumption) (by first | exact fill_st S[qf] v_none (by omega) (by omega) | (intro j hj; omega)) (by first | with_reducible assumption | assumption | exact rng_zero (by omega) (by omega) | exact orng_zero) ⟨hP, hD⟩ hS (lv_sub hl [0, 1] rfl)
  intro n_1
  induction n_1 with
  | zero =>
    intro x1_1 c_g32_1 c_g33_1 H locs ls hm v0_1 v1_1 v2_1 rc_g32_1 hPD hS hl; obtain ⟨hP, hD⟩ := hPD
    exact absurd hm (by omega)
  | succ n_1 ih_1 =>
    intro x1_1 c_g32_1 c_g33_1 H locs ls hm v0_1 v1_1 v2_1 rc_g32_1 hPD hS hl; obtain ⟨hP, hD⟩ := hPD
    refine lv_iload_n hx hb dB_3_2_43.1.1.2.1 rfl (lv_at hl 0 rfl) ?_
    refine lv_bipush (v := 12) hx hb dB_3_2_43.1.1.2.2 (by decide) ?_
    refine lv_icmp_ge (tgt := 29) hx hb dB_3_2_43.1.2.1.1 (by decide) (fun c_2 => ?_) (fun c_2 => ?_)
    · have t_2 : (12 : Int32).toInt ≤ x1_1.toInt := Int32.le_iff_toInt_le.mp c_2
      have hz_ : ∀ j : Nat, j < 12 → (c_g32_1 j).toInt = 0 := fun j hj => by rw [v2_1 j (by omega)]; decide
      refine lv_iconst (v := 1) hx hb dB_3_2_44.1.1.1.2 (by decide) ?_
      refine lv_istore_n (lv' := [(1, .int 1), (0, .ref mo)]) hx hb dB_3_2_44.1.1.2.1 rfl hl (by decide) rfl (fun ls hl => ?_)
      suffices LOOP_3 : ∀ (n_3 : Nat) (x1_3 : Int32) (o25_3 : Int32) (o26_3 : Int32) (o27_3 : Int32) (o28_3 : Int32) (c_g32_3 : Nat → Int32) (c_g33_3 : Nat → Int32) (H : Heap) (locs : List Loc) (ls : Array Slot), 13 - x1_3.toInt < (n_3 : Int) → (1 ≤ x1_3.toInt) → (x1_3.toInt ≤ 13) → (∀ j : Nat, 1 ≤ j → j < 12 → 0 ≤ (c_g32_3 j).toInt ∧ (c_g32_3 j).toInt < x1_3.toInt) → (gtr (cutR f5 f6 f7 f8 f10 s21.toInt s4.toNatClampNeg) s3.toNatClampNeg (x1_3.toNatClampNeg - 1) c_g32_3 c_g33_3) → (x1_3.toInt ≤ s3.toInt ∨ x1_3.toInt = 1) → (rng c_g32_3 12 (0) (11)) → pd_2 D vwCl A [ob12_0_ mo s0 s1 t2 s3 s4 g5 g6 g7 g8 g9 g10 s11 g12 g13 g14 g15 g16 g17 g18 g19 g20 s21 g22 g23 g24 o25_3 o26_3 o27_3 o28_3 g29 g30 g31 g32 g33, ai_ cy g5 40 f5, ai_ cy g6 40 f6, ai_ cy g7 40 f7, ai_ cy g8 40 f8, az_ cy g10 40 f10, ai_ cy g32 12 c_g32_3, ai_ cy g33 12 c_g33_3] H → va_S A s.heap H locs → lv_has ls 6 [(1, .int x1_3), (0, .ref mo)] → W p l e ({ frames := 4, cells := 0, slots := 0, locals := 96 } : Room) s m (([.ref mo] : List Value).toArray) below meth c H locs 0 0 Q (F0 m 31 ls []) from LOOP_3 ((13 - (1 : Int32).toInt).toNat + 1) (1 : Int32) s25 s26 s27 s28 c_g32_1 c_g33_1 _ _ _ (by omega) (by first | with_reducible assumption | omega | assumption) (by first | with_reducible assumption | omega | assumption) (by first | exact fun j h1 h2 => by have h_ := hz_ j h2; omega | exact fun j h1 h2 => by have h_ := hrg2_ j h1 h2; omega) (by first | exact gtr_1 (fun j h1 h2 => hz_ j (by omega)) | exact gtr_nx v_none (by omega) hgs_ (by omega)) (by first | with_reducible assumption | omega | assumption) (by first | with_reducible assumption | assumption | exact rng_zero (by omega) (by omega) | exact orng_zero) ⟨hP, hD⟩ hS (lv_sub hl [0, 1] rfl)
      intro n_3
      induction n_3 with
      | zero =>
        intro x1_3 o25_3 o26_3 o27_3 o28_3 c_g32_3 c_g33_3 H locs ls hm v0_3 v1_3 v2_3 v3_3 v4_3 rc_g32_3 hPD hS hl; obtain ⟨hP, hD⟩ := hPD
        exact absurd hm (by omega)
      | succ n_3 ih_3 =>
        intro x1_3 o25_3 o26_3 o27_3 o28_3 c_g32_3 c_g33_3 H locs ls hm v0_3 v1_3 v2_3 v3_3 v4_3 rc_g32_3 hPD hS hl; obtain ⟨hP, hD⟩ := hPD
        refine lv_iload_n hx hb dB_3_2_44.1.1.2.2 rfl (lv_at hl 0 rfl) ?_
        refine lv_aload_n hx hb dB_3_2_44.1.2.1.1 rfl (lv_at hl 1 rfl) ?_
        refine va_get (ci := 12) (v := .int s3) (C := RX12) (T := TX12) (N := 34) hx hb hts (fun _ h => List.mem_cons_of_mem _ (List.mem_append_right _ h)) hown hK.1 hP 0 rfl rfl 3 (by decide) (hts (.fieldLink RX12 88 "CutAtlasModel" "places" "I") (List.mem_of_getElem? (i := 3) rfl)) (fun _ h9 => h9) rfl dB_3_2_44.1.2.1.2 ?_
        refine lv_icmp_ge (tgt := 197) hx hb dB_3_2_44.1.2.2.1 (by decide) (fun c_4 => ?_) (fun c_4 => ?_)
        · have t_4 : s3.toInt ≤ x1_3.toInt := Int32.le_iff_toInt_le.mp c_4
          rw [hQ]
          exact W.vret hx hb hr (fun t ht hW => ⟨⟨(), rfl, trivial, o25_3, o26_3, o27_3, o28_3, c_g32_3, c_g33_3, (gtr_to v3_3 (by have c_ := clI (i := x1_3) (by omega); omega)), (by first | with_reducible assumption | assumption | exact rng_zero (by omega) (by omega) | omega), by rw [ht]; exact hP, hD⟩, hS.F ht⟩) hS.2.2 dB_3_2_50.2.2.2.2
        · have t_4 : ¬ s3.toInt ≤ x1_3.toInt := fun h => c_4 (Int32.le_iff_toInt_le.mpr h)
          refine lv_aload_n hx hb dB_3_2_44.1.2.2.2 rfl (lv_at hl 1 rfl) ?_
          refine va_get (ci := 12) (v := .ref g32) (C := RX12) (T := TX12) (N := 34) hx hb hts (fun _ h => List.mem_cons_of_mem _ (List.mem_append_right _ h)) hown hK.1 hP 0 rfl rfl 32 (by decide) (hts (.fieldLink RX12 79 "CutAtlasModel" "treeNext" "[I") (List.mem_of_getElem? (i := 1) rfl)) (fun _ h9 => h9) rfl dB_3_2_44.2.1.1.1 ?_
          refine lv_iload_n hx hb dB_3_2_44.2.1.1.2 rfl (lv_at hl 0 rfl) ?_
          have h_5 : vp_in x1_3 12 := in_I (by first | with_reducible assumption | omega) (by omega)
          refine va_iald hx hb hK.1 hP 6 0 rfl rfl (i := x1_3) h_5 dB_3_2_44.2.1.2.1 ?_
          refine lv_topi (fun y_6 ey_6 => ?_)
          have ky_6 : y_6.toInt = (c_g32_3 x1_3.toNatClampNeg).toInt := by rw [ey_6]
          have ry_6 : 0 ≤ y_6.toInt ∧ y_6.toInt ≤ 11 := by rw [ey_6]; exact rc_g32_3 _ (in_lt h_5)
          have ht_ := v2_3 x1_3.toNatClampNeg (by have c_ := clI (i := x1_3) (by omega); omega) (by have c_ := clI (i := x1_3) (by omega); omega)
          refine lv_istore_n (lv' := [(2, .int y_6), (1, .int x1_3), (0, .ref mo)]) hx hb dB_3_2_44.2.1.2.2 rfl hl (by decide) rfl (fun ls hl => ?_)
          refine lv_aload_n hx hb dB_3_2_44.2.2.1.1 rfl (lv_at hl 2 rfl) ?_
          refine lv_iload_n hx hb dB_3_2_44.2.2.1.2 rfl (lv_at hl 1 rfl) ?_
          refine lv_iload_n hx hb dB_3_2_44.2.2.2.1 rfl (lv_at hl 0 rfl) ?_
          refine ct_R hP hD [ob12_0_ mo s0 s1 t2 s3 s4 g5 g6 g7 g8 g9 g10 s11 g12 g13 g14 g15 g16 g17 g18 g19 g20 s21 g22 g23 g24 o25_3 o26_3 o27_3 o28_3 g29 g30 g31 g32 g33, ai_ cy g5 40 f5, ai_ cy g6 40 f6, ai_ cy g7 40 f7, ai_ cy g8 40 f8, az_ cy g10 40 f10] [0, 1, 2, 3, 4, 5] (by decide) rfl (fun hPc hDw => ?_)
          have hFc := va_free (wc := []) hD hS hA [] rfl
          refine va_calli (va_runV (As := [.int x1_3, .int y_6]) (rest := []) ⟨hx, hb, hml, hown, hts⟩ (c_X12_mostOf2 l D cy H.size mo g5 g6 g7 g8 g9 g10 g12 g13 g14 g15 g16 g17 g18 g19 g20 g22 g23 g24 g29 g30 g31 g32 g33 s0 s1 s3 s4 s11 s21 o25_3 o26_3 o27_3 o28_3 t2 f5 f6 f7 f8 f10 x1_3 y_6 (by first | with_reducible assumption | omega | assumption) (by first | with_reducible assumption | omega | assumption) (by first | with_reducible assumption | assumption | omega) (by first | with_reducible assumption | omega | assumption) (by first | with_reducible assumption | omega | assumption) (by first | with_reducible assumption | assumption | omega) (by first | with_reducible assumption | assumption | omega) (by first | with_reducible assumption | assumption | omega)) (cwV 2 hts gX12_plants_X12_mostOf rfl rfl rfl ⟨rfl, hd_X12_mostOf⟩ ⟨Nat.le_of_ble_eq_true rfl, Nat.le_of_ble_eq_true rfl⟩) ⟨bl_, va_recvX hK.1 hP (ci := 12) (q0 := 0) rfl rfl, fun U hU hW => ⟨rfl, by rw [hU], by rw [hU]; exact hPc, kk_mv hW hK, hDw⟩⟩ rfl rfl hl.1 rfl (lv_room (Nat.le_of_ble_eq_true rfl)) dB_3_2_44.2.2.2.2 ⟨Nat.le_of_ble_eq_true rfl, Nat.le_of_ble_eq_true rfl⟩) hS (fun q _ h => hFc q h) hFc (fun r_7 u t H locs ht hvm hw hB hz1 hk1 hS => ?_)
          have hP : va_P D vwCl _ H := ro_keep hP hk1
          have f0_r_7 := hw
          have hmw_ := mst_wh hwc (nc_ne (x := x1_3) (y := y_6) (by omega) (by omega) (by omega)) f0_r_7
          have hmo_ := hmw_.1
          refine lv_istore_n (lv' := [(3, .int r_7), (2, .int y_6), (1, .int x1_3), (0, .ref mo)]) hx hb dB_3_2_45.1.1.1.1 rfl hl (by decide) rfl (fun ls hl => ?_)
          refine lv_aload_n hx hb dB_3_2_45.1.1.1.2 rfl (lv_at hl 3 rfl) ?_
          refine lv_iload_n hx hb dB_3_2_45.1.1.2.1 rfl (lv_at hl 2 rfl) ?_
          refine lv_iload_n hx hb dB_3_2_45.1.1.2.2 rfl (lv_at hl 1 rfl) ?_
          refine lv_iload_n hx hb dB_3_2_45.1.2.1.1 rfl (lv_at hl 0 rfl) ?_
          refine lv_iconst (v := 0) hx hb dB_3_2_45.1.2.1.2 (by decide) ?_
          refine ct_S hP hD hS hA [ob12_0_ mo s0 s1 t2 s3 s4 g5 g6 g7 g8 g9 g10 s11 g12 g13 g14 g15 g16 g17 g18 g19 g20 s21 g22 g23 g24 o25_3 o26_3 o27_3 o28_3 g29 g30 g31 g32 g33, ai_ cy g5 40 f5, ai_ cy g6 40 f6, ai_ cy g7 40 f7, ai_ cy g8 40 f8, az_ cy g10 40 f10] [0, 1, 2, 3, 4, 5] (by decide) rfl (fun hPc hDw hFc hC_ => ?_)
          refine va_callv (va_runV (As := [.int x1_3, .int y_6, .int r_7, .int 0]) (rest := []) ⟨hx, hb, hml, hown, hts⟩ (c_X12_cutsOf2 l D cy H.size mo g5 g6 g7 g8 g9 g10 g12 g13 g14 g15 g16 g17 g18 g19 g20 g22 g23 g24 g29 g30 g31 g32 g33 s0 s1 s3 s4 s11 s21 o25_3 o26_3 o27_3 o28_3 t2 f5 f6 f7 f8 f10 x1_3 y_6 r_7 (0 : Int32) (by first | with_reducible assumption | omega | assumption) (by first | with_reducible assumption | omega | assumption) (by first | with_reducible assumption | omega | assumption) (by first | with_reducible assumption | omega | assumption) (by first | with_reducible assumption | omega | assumption) (by first | with_reducible assumption | assumption | omega) (by first | with_reducible assumption | assumption | omega) (by first | with_reducible assumption | assumption | omega)) (cwV 4 hts gX12_plants_X12_cutsOf rfl rfl rfl ⟨rfl, hd_X12_cutsOf⟩ ⟨Nat.le_of_ble_eq_true rfl, Nat.le_of_ble_eq_true rfl⟩) ⟨bl_, va_recvX hK.1 hP (ci := 12) (q0 := 0) rfl rfl, fun U hU hW => ⟨rfl, by rw [hU], by rw [hU]; exact hPc, kk_mv hW hK, hDw⟩⟩ rfl rfl hl.1 rfl (lv_room (Nat.le_of_ble_eq_true rfl)) dB_3_2_45.1.2.2.1 ⟨Nat.le_of_ble_eq_true rfl, Nat.le_of_ble_eq_true rfl⟩) hS (fun q _ h => hFc q h) hFc (fun u t H locs ht hvm hw hB hz1 hk1 hS => ?_)
          obtain ⟨n25_9, n26_10, n27_11, n28_12, g_13, hP1, hD1⟩ := hB
          rw [ht] at hP1
          obtain ⟨hP, hD⟩ := va_join (wr := [ai_ cy g32 12 c_g32_3, ai_ cy g33 12 c_g33_3]) (w1 := [ob12_0_ mo s0 s1 t2 s3 s4 g5 g6 g7 g8 g9 g10 s11 g12 g13 g14 g15 g16 g17 g18 g19 g20 s21 g22 g23 g24 n25_9 n26_10 n27_11 n28_12 g29 g30 g31 g32 g33, ai_ cy g5 40 f5, ai_ cy g6 40 f6, ai_ cy g7 40 f7, ai_ cy g8 40 f8, az_ cy g10 40 f10]) hP hD [0, 1, 2, 3, 4, 5] [6, 7] hC_ rfl (by decide) (by decide) hk1 hFc hP1 hD1
          refine pd_S hP hD [ob12_0_ mo s0 s1 t2 s3 s4 g5 g6 g7 g8 g9 g10 s11 g12 g13 g14 g15 g16 g17 g18 g19 g20 s21 g22 g23 g24 n25_9 n26_10 n27_11 n28_12 g29 g30 g31 g32 g33, ai_ cy g5 40 f5, ai_ cy g6 40 f6, ai_ cy g7 40 f7, ai_ cy g8 40 f8, az_ cy g10 40 f10, ai_ cy g32 12 c_g32_3, ai_ cy g33 12 c_g33_3] [2, 3, 4, 5, 6, 7, 0, 1] (by decide) rfl (fun hP hD => ?_)
          have hcw_ := g_13
          refine lv_aload_n hx hb dB_3_2_45.1.2.2.2 rfl (lv_at hl 3 rfl) ?_
          refine va_get (ci := 12) (v := .int n26_10) (C := RX12) (T := TX12) (N := 34) hx hb hts (fun _ h => List.mem_cons_of_mem _ (List.mem_append_right _ h)) hown hK.1 hP 0 rfl rfl 26 (by decide) (hts (.fieldLink RX12 195 "CutAtlasModel" "near" "I") (List.mem_of_getElem? (i := 4) rfl)) (fun _ h9 => h9) rfl dB_3_2_45.2.1.1.1 ?_
          have hnp_ := near_ref hwc (nc_ne (x := x1_3) (y := y_6) (by omega) (by omega) (by omega)) (nc_lt (by omega) (by omega)) (nc_lt (by omega) (by omega)) (by omega) hmw_.2.1 hmw_.2.2 hcw_
          refine lv_istore (lv' := [(4, .int n26_10), (3, .int r_7), (2, .int y_6), (1, .int x1_3), (0, .ref mo)]) hx hb dB_3_2_45.2.1.1.2 hl (by decide) rfl (fun ls hl => ?_)
          refine lv_aload_n hx hb dB_3_2_45.2.1.2.1 rfl (lv_at hl 4 rfl) ?_
          refine va_get (ci := 12) (v := .ref g33) (C := RX12) (T := TX12) (N := 34) hx hb hts (fun _ h => List.mem_cons_of_mem _ (List.mem_append_right _ h)) hown hK.1 hP 0 rfl rfl 33 (by decide) (hts (.fieldLink RX12 82 "CutAtlasModel" "treeNumber" "[I") (List.mem_of_getElem? (i := 2) rfl)) (fun _ h9 => h9) rfl dB_3_2_45.2.1.2.2 ?_
          refine lv_iload_n hx hb dB_3_2_45.2.2.1.1 rfl (lv_at hl 3 rfl) ?_
          refine lv_iload_n hx hb dB_3_2_45.2.2.1.2 rfl (lv_at hl 1 rfl) ?_
          refine va_iast hx hb hK.1 hP hD hS 7 0 rfl rfl (i := x1_3) h_5 dB_3_2_45.2.2.2.1 (fun H locs hP hD hS => ?_)
          obtain ⟨f_15, ef_15⟩ : ∃ g : Nat → Int32, g = upd c_g33_3 x1_3.toNatClampNeg r_7 := ⟨_, rfl⟩
          refine pd_K (D := D) (cl := vwCl) (H := H) (A := A) [ob12_0_ mo s0 s1 t2 s3 s4 g5 g6 g7 g8 g9 g10 s11 g12 g13 g14 g15 g16 g17 g18 g19 g20 s21 g22 g23 g24 n25_9 n26_10 n27_11 n28_12 g29 g30 g31 g32 g33, ai_ cy g5 40 f5, ai_ cy g6 40 f6, ai_ cy g7 40 f7, ai_ cy g8 40 f8, az_ cy g10 40 f10, ai_ cy g32 12 c_g32_3, ai_ cy g33 12 f_15] (by rw [ef_15]; exact hP) (by rw [ef_15]; exact hD) (fun hP hD => ?_)
          refine lv_iload_n hx hb dB_3_2_45.2.2.2.2 rfl (lv_at hl 3 rfl) ?_
          refine lv_iconst (v := 1) hx hb dB_3_2_46.1.1.1.1 (by decide) ?_
          refine lv_iadd hx hb dB_3_2_46.1.1.1.2 ?_
          refine lv_topi (fun y_16 ey_16 => ?_)
          have ty_16 : y_16.toInt = x1_3.toInt + (1 : Int32).toInt := by rw [ey_16]; exact addI (by omega) (by omega)
          refine lv_istore (lv' := [(5, .int y_16), (4, .int n26_10), (3, .int r_7), (2, .int y_6), (1, .int x1_3), (0, .ref mo)]) hx hb dB_3_2_46.1.1.2.1 hl (by decide) rfl (fun ls hl => ?_)
          suffices LOOP_17 : ∀ (n_17 : Nat) (x5_17 : Int32) (c_g32_17 : Nat → Int32) (H : Heap) (locs : List Loc) (ls : Array Slot), 13 - x5_17.toInt < (n_17 : Int) → (1 ≤ x5_17.toInt) → (x5_17.toInt ≤ 13) → (x1_3.toInt < x5_17.toInt) → (hgE c_g32_3 c_g32_17 n26_10 y_6.toInt x1_3.toInt x5_17.toInt) → (rng c_g32_17 12 (0) (11)) → pd_2 D vwCl A [ob12_0_ mo s0 s1 t2 s3 s4 g5 g6 g7 g8 g9 g10 s11 g12 g13 g14 g15 g16 g17 g18 g19 g20 s21 g22 g23 g24 n25_9 n26_10 n27_11 n28_12 g29 g30 g31 g32 g33, ai_ cy g5 40 f5, ai_ cy g6 40 f6, ai_ cy g7 40 f7, ai_ cy g8 40 f8, az_ cy g10 40 f10, ai_ cy g32 12 c_g32_17, ai_ cy g33 12 f_15] H → va_S A s.heap H locs → lv_has ls 6 [(5, .int x5_17), (4, .int n26_10), (3, .int r_7), (2, .int y_6), (1, .int x1_3), (0, .ref mo)] → W p l e ({ frames := 4, cells := 0, slots := 0, locals := 96 } : Room) s m (([.ref mo] : List Value).toArray) below meth c H locs 0 0 Q (F0 m 79 ls []) from LOOP_17 ((13 - y_16.toInt).toNat + 1) y_16 c_g32_3 _ _ _ (by omega) (by first | with_reducible assumption | omega | assumption) (by first | with_reducible assumption | omega | assumption) (by first | with_reducible assumption | omega | assumption) (by first | exact hgE_0 (by omega) | exact hgE_eq v_none (by omega) (by omega) (by omega) (by omega) ec_g32_3 (Or.inl ⟨b_tr hbw_ (by omega), by omega, rfl⟩) | exact hgE_eq v_none (by omega) (by omega) (by omega) (by omega) ec_g32_3 (Or.inr ⟨Or.inl (bt_fl hbw_ (by omega)), S[v]⟩) | exact hgE_eq v_none (by omega) (by omega) (by omega) (by omega) ec_g32_3 (Or.inr ⟨Or.inr (by omega), S[v]⟩)) (by first | with_reducible assumption | assumption | exact rng_zero (by omega) (by omega) | exact orng_zero) ⟨hP, hD⟩ hS (lv_sub hl [0, 1, 2, 3, 4, 5] rfl)
          intro n_17
          induction n_17 with
          | zero =>
            intro x5_17 c_g32_17 H locs ls hm v0_17 v1_17 v2_17 v3_17 rc_g32_17 hPD hS hl; obtain ⟨hP, hD⟩ := hPD
            exact absurd hm (by omega)
          | succ n_17 ih_17 =>
            intro x5_17 c_g32_17 H locs ls hm v0_17 v1_17 v2_17 v3_17 rc_g32_17 hPD hS hl; obtain ⟨hP, hD⟩ := hPD
            refine lv_iload hx hb dB_3_2_46.1.1.2.2 (lv_at hl 0 rfl) ?_
            refine lv_aload_n hx hb dB_3_2_46.1.2.1.1 rfl (lv_at hl 5 rfl) ?_
            refine va_get (ci := 12) (v := .int s3) (C := RX12) (T := TX12) (N := 34) hx hb hts (fun _ h => List.mem_cons_of_mem _ (List.mem_append_right _ h)) hown hK.1 hP 0 rfl rfl 3 (by decide) (hts (.fieldLink RX12 88 "CutAtlasModel" "places" "I") (List.mem_of_getElem? (i := 3) rfl)) (fun _ h9 => h9) rfl dB_3_2_46.1.2.1.2 ?_
            refine lv_icmp_ge (tgt := 134) hx hb dB_3_2_46.1.2.2.1 (by decide) (fun c_18 => ?_) (fun c_18 => ?_)
            · have t_18 : s3.toInt ≤ x5_17.toInt := Int32.le_iff_toInt_le.mp c_18
              have hge_ := v3_17
              have hrg_ : ∀ j : Nat, 1 ≤ j → j < 12 → 0 ≤ (c_g32_17 j).toInt ∧ (c_g32_17 j).toInt < x1_3.toInt + 1 := fun j h1 h2 => by have a_ := v2_3 j h1 h2; rw [v3_17 j h2]; split <;> omega
              refine lv_iload_n hx hb dB_3_2_48.1.1.1.1 rfl (lv_at hl 3 rfl) ?_
              refine lv_if_eq (tgt := 191) hx hb dB_3_2_48.1.1.1.2 (by decide) (fun c_19 => ?_) (fun c_19 => ?_)
              · have t_19 : y_6.toInt = (0 : Int32).toInt := congrArg Int32.toInt c_19
                first | (have hgs_ : gst (cutR f5 f6 f7 f8 f10 s21.toInt s4.toNatClampNeg) s3.toNatClampNeg x1_3.toNatClampNeg c_g32_3 c_g33_3 c_g32_17 f_15 := gst_sw (P := s3) (i := x1_3) (t := y_6) (m := r_7) (N := n26_10) (k := x5_17) (by omega) (by omega) ey_6 (by omega) hmo_ hnp_ v3_17 (by omega) ef_15 (by omega) (by have h_ := b_tr hb2_ (by omega); rw [S[ex]] at h_; exact h_) S[v2] S[e1] S[w] S[e2] S[e3] ef_15; have hrg2_ : ∀ j : Nat, 1 ≤ j → j < 12 → 0 ≤ (c_g32_17 j).toInt ∧ (c_g32_17 j).toInt < x1_3.toInt + 1 := rg_sw hrg_ S[v2] S[e1] S[e3] (by omega) (by omega)) | (have hgs_ : gst (cutR f5 f6 f7 f8 f10 s21.toInt s4.toNatClampNeg) s3.toNatClampNeg x1_3.toNatClampNeg c_g32_3 c_g33_3 c_g32_17 f_15 := gst_no (P := s3) (i := x1_3) (t := y_6) (m := r_7) (N := n26_10) (k := x5_17) (by omega) (by omega) ey_6 (by omega) hmo_ hnp_ v3_17 (by omega) ef_15 (Or.inl (by omega)); have hrg2_ := hrg_) | (have hgs_ : gst (cutR f5 f6 f7 f8 f10 s21.toInt s4.toNatClampNeg) s3.toNatClampNeg x1_3.toNatClampNeg c_g32_3 c_g33_3 c_g32_17 f_15 := gst_no (P := s3) (i := x1_3) (t := y_6) (m := r_7) (N := n26_10) (k := x5_17) (by omega) (by omega) ey_6 (by omega) hmo_ hnp_ v3_17 (by omega) ef_15 (Or.inr (by have h_ := bt_fl hb2_ (by omega); rw [S[ex]] at h_; exact h_)); have hrg2_ := hrg_)
                obtain ⟨y_20, ey_20⟩ : ∃ y : Int32, y = x1_3 + 1 := ⟨_, rfl⟩
                have ty_20 : y_20.toInt = x1_3.toInt + (1 : Int32).toInt := by rw [ey_20]; exact addI (by omega) (by omega)
                refine lv_iinc (v := y_20) (lv' := [(1, .int y_20), (5, .int x5_17), (4, .int n26_10), (3, .int r_7), (2, .int y_6), (0, .ref mo)]) hx hb dB_3_2_50.2.2.1 hl (k := 4) rfl (by rw [ey_20]; rfl) (by decide) rfl (fun ls hl => ?_)
                refine lv_goto (tgt := 31) hx hb dB_3_2_50.2.2.2.1 (by decide) ?_
                exact ih_3 y_20 n25_9 n26_10 n27_11 n28_12 c_g32_17 f_15 _ _ _ (by omega) (by first | with_reducible assumption | omega | assumption) (by first | with_reducible assumption | omega | assumption) (by first | exact fun j h1 h2 => by have h_ := hz_ j h2; omega | exact fun j h1 h2 => by have h_ := hrg2_ j h1 h2; omega) (by first | exact gtr_1 (fun j h1 h2 => hz_ j (by omega)) | exact gtr_nx v3_3 (by omega) hgs_ (by omega)) (by first | with_reducible assumption | omega | assumption) (by first | with_reducible assumption | assumption | exact rng_zero (by omega) (by omega) | exact orng_zero) ⟨hP, hD⟩ hS (lv_sub hl [0, 5] rfl)
              · have t_19 : ¬ y_6.toInt = (0 : Int32).toInt := fun h => c_19 (Int32.toInt_inj.mp h)
                refine lv_iload hx hb dB_3_2_48.1.1.2.1 (lv_at hl 1 rfl) ?_
                refine lv_aload_n hx hb dB_3_2_48.1.1.2.2 rfl (lv_at hl 5 rfl) ?_
                refine va_get (ci := 12) (v := .ref g32) (C := RX12) (T := TX12) (N := 34) hx hb hts (fun _ h => List.mem_cons_of_mem _ (List.mem_append_right _ h)) hown hK.1 hP 0 rfl rfl 32 (by decide) (hts (.fieldLink RX12 79 "CutAtlasModel" "treeNext" "[I") (List.mem_of_getElem? (i := 1) rfl)) (fun _ h9 => h9) rfl dB_3_2_48.1.2.1.1 ?_
                refine lv_iload_n hx hb dB_3_2_48.1.2.1.2 rfl (lv_at hl 3 rfl) ?_
                have h_21 : vp_in y_6 12 := in_I (by first | with_reducible assumption | omega) (by omega)
                refine va_iald hx hb hK.1 hP 6 0 rfl rfl (i := y_6) h_21 dB_3_2_48.1.2.2.1 ?_
                refine lv_topi (fun y_22 ey_22 => ?_)
                have ky_22 : y_22.toInt = (c_g32_17 y_6.toNatClampNeg).toInt := by rw [ey_22]
                have ry_22 : 0 ≤ y_22.toInt ∧ y_22.toInt ≤ 11 := by rw [ey_22]; exact rc_g32_17 _ (in_lt h_21)
                refine lv_ishr hx hb dB_3_2_48.1.2.2.2 ?_
                refine lv_topi (fun y_23 ey_23 => ?_)
                refine lv_iconst (v := 1) hx hb dB_3_2_48.2.1.1.1 (by decide) ?_
                refine lv_iand hx hb dB_3_2_48.2.1.1.2 ?_
                refine lv_topi (fun y_24 ey_24 => ?_)
                have hb2_ := bI_w (x := n26_10) (y := y_22) (by omega) (by omega) ey_23 ey_24
                refine lv_iconst (v := 1) hx hb dB_3_2_48.2.1.2.1 (by decide) ?_
                refine lv_icmp_ne (tgt := 191) hx hb dB_3_2_48.2.1.2.2 (by decide) (fun c_25 => ?_) (fun c_25 => ?_)
                · have t_25 : ¬ y_24.toInt = (1 : Int32).toInt := fun h => c_25 (Int32.toInt_inj.mp h)
                  first | (have hgs_ : gst (cutR f5 f6 f7 f8 f10 s21.toInt s4.toNatClampNeg) s3.toNatClampNeg x1_3.toNatClampNeg c_g32_3 c_g33_3 c_g32_17 f_15 := gst_sw (P := s3) (i := x1_3) (t := y_6) (m := r_7) (N := n26_10) (k := x5_17) (by omega) (by omega) ey_6 (by omega) hmo_ hnp_ v3_17 (by omega) ef_15 (by omega) (by have h_ := b_tr hb2_ (by omega); rw [ey_22] at h_; exact h_) S[v2] S[e1] S[w] S[e2] S[e3] ef_15; have hrg2_ : ∀ j : Nat, 1 ≤ j → j < 12 → 0 ≤ (c_g32_17 j).toInt ∧ (c_g32_17 j).toInt < x1_3.toInt + 1 := rg_sw hrg_ S[v2] S[e1] S[e3] (by omega) (by omega)) | (have hgs_ : gst (cutR f5 f6 f7 f8 f10 s21.toInt s4.toNatClampNeg) s3.toNatClampNeg x1_3.toNatClampNeg c_g32_3 c_g33_3 c_g32_17 f_15 := gst_no (P := s3) (i := x1_3) (t := y_6) (m := r_7) (N := n26_10) (k := x5_17) (by omega) (by omega) ey_6 (by omega) hmo_ hnp_ v3_17 (by omega) ef_15 (Or.inl (by omega)); have hrg2_ := hrg_) | (have hgs_ : gst (cutR f5 f6 f7 f8 f10 s21.toInt s4.toNatClampNeg) s3.toNatClampNeg x1_3.toNatClampNeg c_g32_3 c_g33_3 c_g32_17 f_15 := gst_no (P := s3) (i := x1_3) (t := y_6) (m := r_7) (N := n26_10) (k := x5_17) (by omega) (by omega) ey_6 (by omega) hmo_ hnp_ v3_17 (by omega) ef_15 (Or.inr (by have h_ := bt_fl hb2_ (by omega); rw [ey_22] at h_; exact h_)); have hrg2_ := hrg_)
                  obtain ⟨y_26, ey_26⟩ : ∃ y : Int32, y = x1_3 + 1 := ⟨_, rfl⟩
                  have ty_26 : y_26.toInt = x1_3.toInt + (1 : Int32).toInt := by rw [ey_26]; exact addI (by omega) (by omega)
                  refine lv_iinc (v := y_26) (lv' := [(1, .int y_26), (5, .int x5_17), (4, .int n26_10), (3, .int r_7), (2, .int y_6), (0, .ref mo)]) hx hb dB_3_2_50.2.2.1 hl (k := 4) rfl (by rw [ey_26]; rfl) (by decide) rfl (fun ls hl => ?_)
                  refine lv_goto (tgt := 31) hx hb dB_3_2_50.2.2.2.1 (by decide) ?_
                  exact ih_3 y_26 n25_9 n26_10 n27_11 n28_12 c_g32_17 f_15 _ _ _ (by omega) (by first | with_reducible assumption | omega | assumption) (by first | with_reducible assumption | omega | assumption) (by first | exact fun j h1 h2 => by have h_ := hz_ j h2; omega | exact fun j h1 h2 => by have h_ := hrg2_ j h1 h2; omega) (by first | exact gtr_1 (fun j h1 h2 => hz_ j (by omega)) | exact gtr_nx v3_3 (by omega) hgs_ (by omega)) (by first | with_reducible assumption | omega | assumption) (by first | with_reducible assumption | assumption | exact rng_zero (by omega) (by omega) | exact orng_zero) ⟨hP, hD⟩ hS (lv_sub hl [0, 5] rfl)
                · have t_25 : y_24.toInt = (1 : Int32).toInt := congrArg Int32.toInt c_25
                  refine lv_aload_n hx hb dB_3_2_48.2.2.1.1 rfl (lv_at hl 5 rfl) ?_
                  refine va_get (ci := 12) (v := .ref g32) (C := RX12) (T := TX12) (N := 34) hx hb hts (fun _ h => List.mem_cons_of_mem _ (List.mem_append_right _ h)) hown hK.1 hP 0 rfl rfl 32 (by decide) (hts (.fieldLink RX12 79 "CutAtlasModel" "treeNext" "[I") (List.mem_of_getElem? (i := 1) rfl)) (fun _ h9 => h9) rfl dB_3_2_48.2.2.1.2 ?_
                  refine lv_iload_n hx hb dB_3_2_48.2.2.2.1 rfl (lv_at hl 4 rfl) ?_
                  refine lv_aload_n hx hb dB_3_2_48.2.2.2.2 rfl (lv_at hl 5 rfl) ?_
                  refine va_get (ci := 12) (v := .ref g32) (C := RX12) (T := TX12) (N := 34) hx hb hts (fun _ h => List.mem_cons_of_mem _ (List.mem_append_right _ h)) hown hK.1 hP 0 rfl rfl 32 (by decide) (hts (.fieldLink RX12 79 "CutAtlasModel" "treeNext" "[I") (List.mem_of_getElem? (i := 1) rfl)) (fun _ h9 => h9) rfl dB_3_2_49.1.1.1.1 ?_
                  refine lv_iload_n hx hb dB_3_2_49.1.1.1.2 rfl (lv_at hl 3 rfl) ?_
                  refine va_iald hx hb hK.1 hP 6 0 rfl rfl (i := y_6) h_21 dB_3_2_49.1.1.2.1 ?_
                  refine lv_topi (fun y_28 ey_28 => ?_)
                  have e_ := (ey_28.trans ey_22.symm).symm
                  subst e_
                  skip
                  refine va_iast hx hb hK.1 hP hD hS 6 0 rfl rfl (i := x1_3) h_5 dB_3_2_49.1.1.2.2 (fun H locs hP hD hS => ?_)
                  obtain ⟨f_30, ef_30⟩ : ∃ g : Nat → Int32, g = upd c_g32_17 x1_3.toNatClampNeg y_22 := ⟨_, rfl⟩
                  refine pd_K (D := D) (cl := vwCl) (H := H) (A := A) [ob12_0_ mo s0 s1 t2 s3 s4 g5 g6 g7 g8 g9 g10 s11 g12 g13 g14 g15 g16 g17 g18 g19 g20 s21 g22 g23 g24 n25_9 n26_10 n27_11 n28_12 g29 g30 g31 g32 g33, ai_ cy g5 40 f5, ai_ cy g6 40 f6, ai_ cy g7 40 f7, ai_ cy g8 40 f8, az_ cy g10 40 f10, ai_ cy g32 12 f_30, ai_ cy g33 12 f_15] (by rw [ef_30]; exact hP) (by rw [ef_30]; exact hD) (fun hP hD => ?_)
                  have rf_30 : rng f_30 12 (0) (11) := by rw [ef_30]; exact rng_upd rc_g32_17 (by omega) (by omega)
                  refine lv_aload_n hx hb dB_3_2_49.1.2.1.1 rfl (lv_at hl 5 rfl) ?_
                  refine va_get (ci := 12) (v := .ref g33) (C := RX12) (T := TX12) (N := 34) hx hb hts (fun _ h => List.mem_cons_of_mem _ (List.mem_append_right _ h)) hown hK.1 hP 0 rfl rfl 33 (by decide) (hts (.fieldLink RX12 82 "CutAtlasModel" "treeNumber" "[I") (List.mem_of_getElem? (i := 2) rfl)) (fun _ h9 => h9) rfl dB_3_2_49.1.2.1.2 ?_
                  refine lv_iload_n hx hb dB_3_2_49.1.2.2.1 rfl (lv_at hl 4 rfl) ?_
                  refine lv_aload_n hx hb dB_3_2_49.1.2.2.2 rfl (lv_at hl 5 rfl) ?_
                  refine va_get (ci := 12) (v := .ref g33) (C := RX12) (T := TX12) (N := 34) hx hb hts (fun _ h => List.mem_cons_of_mem _ (List.mem_append_right _ h)) hown hK.1 hP 0 rfl rfl 33 (by decide) (hts (.fieldLink RX12 82 "CutAtlasModel" "treeNumber" "[I") (List.mem_of_getElem? (i := 2) rfl)) (fun _ h9 => h9) rfl dB_3_2_49.2.1.1.1 ?_
                  refine lv_iload_n hx hb dB_3_2_49.2.1.1.2 rfl (lv_at hl 3 rfl) ?_
                  refine va_iald hx hb hK.1 hP 7 0 rfl rfl (i := y_6) h_21 dB_3_2_49.2.1.2.1 ?_
                  refine lv_topi (fun y_32 ey_32 => ?_)
                  have ky_32 : y_32.toInt = (f_15 y_6.toNatClampNeg).toInt := by rw [ey_32]
                  refine va_iast hx hb hK.1 hP hD hS 7 0 rfl rfl (i := x1_3) h_5 dB_3_2_49.2.1.2.2 (fun H locs hP hD hS => ?_)
                  obtain ⟨f_34, ef_34⟩ : ∃ g : Nat → Int32, g = upd f_15 x1_3.toNatClampNeg y_32 := ⟨_, rfl⟩
                  refine pd_K (D := D) (cl := vwCl) (H := H) (A := A) [ob12_0_ mo s0 s1 t2 s3 s4 g5 g6 g7 g8 g9 g10 s11 g12 g13 g14 g15 g16 g17 g18 g19 g20 s21 g22 g23 g24 n25_9 n26_10 n27_11 n28_12 g29 g30 g31 g32 g33, ai_ cy g5 40 f5, ai_ cy g6 40 f6, ai_ cy g7 40 f7, ai_ cy g8 40 f8, az_ cy g10 40 f10, ai_ cy g32 12 f_30, ai_ cy g33 12 f_34] (by rw [ef_34]; exact hP) (by rw [ef_34]; exact hD) (fun hP hD => ?_)
                  refine lv_aload_n hx hb dB_3_2_49.2.2.1.1 rfl (lv_at hl 5 rfl) ?_
                  refine va_get (ci := 12) (v := .ref g32) (C := RX12) (T := TX12) (N := 34) hx hb hts (fun _ h => List.mem_cons_of_mem _ (List.mem_append_right _ h)) hown hK.1 hP 0 rfl rfl 32 (by decide) (hts (.fieldLink RX12 79 "CutAtlasModel" "treeNext" "[I") (List.mem_of_getElem? (i := 1) rfl)) (fun _ h9 => h9) rfl dB_3_2_49.2.2.1.2 ?_
                  refine lv_iload_n hx hb dB_3_2_49.2.2.2.1 rfl (lv_at hl 3 rfl) ?_
                  refine lv_iload_n hx hb dB_3_2_49.2.2.2.2 rfl (lv_at hl 4 rfl) ?_
                  refine va_iast hx hb hK.1 hP hD hS 6 0 rfl rfl (i := y_6) h_21 dB_3_2_50.1.1.1 (fun H locs hP hD hS => ?_)
                  obtain ⟨f_36, ef_36⟩ : ∃ g : Nat → Int32, g = upd f_30 y_6.toNatClampNeg x1_3 := ⟨_, rfl⟩
                  refine pd_K (D := D) (cl := vwCl) (H := H) (A := A) [ob12_0_ mo s0 s1 t2 s3 s4 g5 g6 g7 g8 g9 g10 s11 g12 g13 g14 g15 g16 g17 g18 g19 g20 s21 g22 g23 g24 n25_9 n26_10 n27_11 n28_12 g29 g30 g31 g32 g33, ai_ cy g5 40 f5, ai_ cy g6 40 f6, ai_ cy g7 40 f7, ai_ cy g8 40 f8, az_ cy g10 40 f10, ai_ cy g32 12 f_36, ai_ cy g33 12 f_34] (by rw [ef_36]; exact hP) (by rw [ef_36]; exact hD) (fun hP hD => ?_)
                  have rf_36 : rng f_36 12 (0) (11) := by rw [ef_36]; exact rng_upd rf_30 (by omega) (by omega)
                  refine lv_aload_n hx hb dB_3_2_50.1.1.2 rfl (lv_at hl 5 rfl) ?_
                  refine va_get (ci := 12) (v := .ref g33) (C := RX12) (T := TX12) (N := 34) hx hb hts (fun _ h => List.mem_cons_of_mem _ (List.mem_append_right _ h)) hown hK.1 hP 0 rfl rfl 33 (by decide) (hts (.fieldLink RX12 82 "CutAtlasModel" "treeNumber" "[I") (List.mem_of_getElem? (i := 2) rfl)) (fun _ h9 => h9) rfl dB_3_2_50.1.2.1 ?_
                  refine lv_iload_n hx hb dB_3_2_50.1.2.2 rfl (lv_at hl 3 rfl) ?_
                  refine lv_iload_n hx hb dB_3_2_50.2.1.1 rfl (lv_at hl 2 rfl) ?_
                  refine va_iast hx hb hK.1 hP hD hS 7 0 rfl rfl (i := y_6) h_21 dB_3_2_50.2.1.2 (fun H locs hP hD hS => ?_)
                  obtain ⟨f_38, ef_38⟩ : ∃ g : Nat → Int32, g = upd f_34 y_6.toNatClampNeg r_7 := ⟨_, rfl⟩
                  refine pd_K (D := D) (cl := vwCl) (H := H) (A := A) [ob12_0_ mo s0 s1 t2 s3 s4 g5 g6 g7 g8 g9 g10 s11 g12 g13 g14 g15 g16 g17 g18 g19 g20 s21 g22 g23 g24 n25_9 n26_10 n27_11 n28_12 g29 g30 g31 g32 g33, ai_ cy g5 40 f5, ai_ cy g6 40 f6, ai_ cy g7 40 f7, ai_ cy g8 40 f8, az_ cy g10 40 f10, ai_ cy g32 12 f_36, ai_ cy g33 12 f_38] (by rw [ef_38]; exact hP) (by rw [ef_38]; exact hD) (fun hP hD => ?_)
                  first | (have hgs_ : gst (cutR f5 f6 f7 f8 f10 s21.toInt s4.toNatClampNeg) s3.toNatClampNeg x1_3.toNatClampNeg c_g32_3 c_g33_3 f_36 f_38 := gst_sw (P := s3) (i := x1_3) (t := y_6) (m := r_7) (N := n26_10) (k := x5_17) (by omega) (by omega) ey_6 (by omega) hmo_ hnp_ v3_17 (by omega) ef_15 (by omega) (by have h_ := b_tr hb2_ (by omega); rw [ey_22] at h_; exact h_) ey_22 ef_30 ey_32 ef_34 ef_36 ef_38; have hrg2_ : ∀ j : Nat, 1 ≤ j → j < 12 → 0 ≤ (f_36 j).toInt ∧ (f_36 j).toInt < x1_3.toInt + 1 := rg_sw hrg_ ey_22 ef_30 ef_36 (by omega) (by omega)) | (have hgs_ : gst (cutR f5 f6 f7 f8 f10 s21.toInt s4.toNatClampNeg) s3.toNatClampNeg x1_3.toNatClampNeg c_g32_3 c_g33_3 f_36 f_38 := gst_no (P := s3) (i := x1_3) (t := y_6) (m := r_7) (N := n26_10) (k := x5_17) (by omega) (by omega) ey_6 (by omega) hmo_ hnp_ v3_17 (by omega) ef_15 (Or.inl (by omega)); have hrg2_ := hrg_) | (have hgs_ : gst (cutR f5 f6 f7 f8 f10 s21.toInt s4.toNatClampNeg) s3.toNatClampNeg x1_3.toNatClampNeg c_g32_3 c_g33_3 f_36 f_38 := gst_no (P := s3) (i := x1_3) (t := y_6) (m := r_7) (N := n26_10) (k := x5_17) (by omega) (by omega) ey_6 (by omega) hmo_ hnp_ v3_17 (by omega) ef_15 (Or.inr (by have h_ := bt_fl hb2_ (by omega); rw [ey_22] at h_; exact h_)); have hrg2_ := hrg_)
                  obtain ⟨y_39, ey_39⟩ : ∃ y : Int32, y = x1_3 + 1 := ⟨_, rfl⟩
                  have ty_39 : y_39.toInt = x1_3.toInt + (1 : Int32).toInt := by rw [ey_39]; exact addI (by omega) (by omega)
                  refine lv_iinc (v := y_39) (lv' := [(1, .int y_39), (5, .int x5_17), (4, .int n26_10), (3, .int r_7), (2, .int y_6), (0, .ref mo)]) hx hb dB_3_2_50.2.2.1 hl (k := 4) rfl (by rw [ey_39]; rfl) (by decide) rfl (fun ls hl => ?_)
                  refine lv_goto (tgt := 31) hx hb dB_3_2_50.2.2.2.1 (by decide) ?_
                  exact ih_3 y_39 n25_9 n26_10 n27_11 n28_12 f_36 f_38 _ _ _ (by omega) (by first | with_reducible assumption | omega | assumption) (by first | with_reducible assumption | omega | assumption) (by first | exact fun j h1 h2 => by have h_ := hz_ j h2; omega | exact fun j h1 h2 => by have h_ := hrg2_ j h1 h2; omega) (by first | exact gtr_1 (fun j h1 h2 => hz_ j (by omega)) | exact gtr_nx v3_3 (by omega) hgs_ (by omega)) (by first | with_reducible assumption | omega | assumption) (by first | with_reducible assumption | assumption | exact rng_zero (by omega) (by omega) | exact orng_zero) ⟨hP, hD⟩ hS (lv_sub hl [0, 5] rfl)
            · have t_18 : ¬ s3.toInt ≤ x5_17.toInt := fun h => c_18 (Int32.le_iff_toInt_le.mpr h)
              refine lv_aload_n hx hb dB_3_2_46.1.2.2.2 rfl (lv_at hl 5 rfl) ?_
              refine va_get (ci := 12) (v := .ref g32) (C := RX12) (T := TX12) (N := 34) hx hb hts (fun _ h => List.mem_cons_of_mem _ (List.mem_append_right _ h)) hown hK.1 hP 0 rfl rfl 32 (by decide) (hts (.fieldLink RX12 79 "CutAtlasModel" "treeNext" "[I") (List.mem_of_getElem? (i := 1) rfl)) (fun _ h9 => h9) rfl dB_3_2_46.2.1.1.1 ?_
              refine lv_iload hx hb dB_3_2_46.2.1.1.2 (lv_at hl 0 rfl) ?_
              refine lv_iload hx hb dB_3_2_46.2.1.2.1 (lv_at hl 1 rfl) ?_
              refine lv_iload hx hb dB_3_2_46.2.1.2.2 (lv_at hl 0 rfl) ?_
              refine lv_ishr hx hb dB_3_2_46.2.2.1.1 ?_
              refine lv_topi (fun y_40 ey_40 => ?_)
              refine lv_iconst (v := 1) hx hb dB_3_2_46.2.2.1.2 (by decide) ?_
              refine lv_iand hx hb dB_3_2_46.2.2.2.1 ?_
              refine lv_topi (fun y_41 ey_41 => ?_)
              have hbw_ := bI_w (x := n26_10) (y := x5_17) (by omega) (by omega) ey_40 ey_41
              refine lv_iconst (v := 1) hx hb dB_3_2_46.2.2.2.2 (by decide) ?_
              refine lv_icmp_ne (tgt := 120) hx hb dB_3_2_47.1.1.1.1 (by decide) (fun c_42 => ?_) (fun c_42 => ?_)
              · have t_42 : ¬ y_41.toInt = (1 : Int32).toInt := fun h => c_42 (Int32.toInt_inj.mp h)
                refine lv_aload_n hx hb dB_3_2_47.2.1.1.2 rfl (lv_at hl 5 rfl) ?_
                refine va_get (ci := 12) (v := .ref g32) (C := RX12) (T := TX12) (N := 34) hx hb hts (fun _ h => List.mem_cons_of_mem _ (List.mem_append_right _ h)) hown hK.1 hP 0 rfl rfl 32 (by decide) (hts (.fieldLink RX12 79 "CutAtlasModel" "treeNext" "[I") (List.mem_of_getElem? (i := 1) rfl)) (fun _ h9 => h9) rfl dB_3_2_47.2.1.2.1 ?_
                refine lv_iload hx hb dB_3_2_47.2.1.2.2 (lv_at hl 0 rfl) ?_
                have h_43 : vp_in x5_17 12 := in_I (by first | with_reducible assumption | omega) (by omega)
                refine va_iald hx hb hK.1 hP 6 0 rfl rfl (i := x5_17) h_43 dB_3_2_47.2.2.1.1 ?_
                refine lv_topi (fun y_44 ey_44 => ?_)
                have ky_44 : y_44.toInt = (c_g32_17 x5_17.toNatClampNeg).toInt := by rw [ey_44]
                have ry_44 : 0 ≤ y_44.toInt ∧ y_44.toInt ≤ 11 := by rw [ey_44]; exact rc_g32_17 _ (in_lt h_43)
                refine va_iast hx hb hK.1 hP hD hS 6 0 rfl rfl (i := x5_17) h_43 dB_3_2_47.2.2.1.2 (fun H locs hP hD hS => ?_)
                obtain ⟨f_46, ef_46⟩ : ∃ g : Nat → Int32, g = upd c_g32_17 x5_17.toNatClampNeg y_44 := ⟨_, rfl⟩
                refine pd_K (D := D) (cl := vwCl) (H := H) (A := A) [ob12_0_ mo s0 s1 t2 s3 s4 g5 g6 g7 g8 g9 g10 s11 g12 g13 g14 g15 g16 g17 g18 g19 g20 s21 g22 g23 g24 n25_9 n26_10 n27_11 n28_12 g29 g30 g31 g32 g33, ai_ cy g5 40 f5, ai_ cy g6 40 f6, ai_ cy g7 40 f7, ai_ cy g8 40 f8, az_ cy g10 40 f10, ai_ cy g32 12 f_46, ai_ cy g33 12 f_15] (by rw [ef_46]; exact hP) (by rw [ef_46]; exact hD) (fun hP hD => ?_)
                have rf_46 : rng f_46 12 (0) (11) := by rw [ef_46]; exact rng_upd rc_g32_17 (by omega) (by omega)
                obtain ⟨y_47, ey_47⟩ : ∃ y : Int32, y = x5_17 + 1 := ⟨_, rfl⟩
                have ty_47 : y_47.toInt = x5_17.toInt + (1 : Int32).toInt := by rw [ey_47]; exact addI (by omega) (by omega)
                refine lv_iinc (v := y_47) (lv' := [(5, .int y_47), (4, .int n26_10), (3, .int r_7), (2, .int y_6), (1, .int x1_3), (0, .ref mo)]) hx hb dB_3_2_47.2.2.2.1 hl (k := 0) rfl (by rw [ey_47]; rfl) (by decide) rfl (fun ls hl => ?_)
                refine lv_goto (tgt := 79) hx hb dB_3_2_47.2.2.2.2 (by decide) ?_
                exact ih_17 y_47 f_46 _ _ _ (by omega) (by first | with_reducible assumption | omega | assumption) (by first | with_reducible assumption | omega | assumption) (by first | with_reducible assumption | omega | assumption) (by first | exact hgE_0 (by omega) | exact hgE_eq v3_17 (by omega) (by omega) (by omega) (by omega) ef_46 (Or.inl ⟨b_tr hbw_ (by omega), by omega, rfl⟩) | exact hgE_eq v3_17 (by omega) (by omega) (by omega) (by omega) ef_46 (Or.inr ⟨Or.inl (bt_fl hbw_ (by omega)), ey_44⟩) | exact hgE_eq v3_17 (by omega) (by omega) (by omega) (by omega) ef_46 (Or.inr ⟨Or.inr (by omega), ey_44⟩)) (by first | with_reducible assumption | assumption | exact rng_zero (by omega) (by omega) | exact orng_zero) ⟨hP, hD⟩ hS (lv_sub hl [0, 1, 2, 3, 4, 5] rfl)
              · have t_42 : y_41.toInt = (1 : Int32).toInt := congrArg Int32.toInt c_42
                refine lv_aload_n hx hb dB_3_2_47.1.1.1.2 rfl (lv_at hl 5 rfl) ?_
                refine va_get (ci := 12) (v := .ref g32) (C := RX12) (T := TX12) (N := 34) hx hb hts (fun _ h => List.mem_cons_of_mem _ (List.mem_append_right _ h)) hown hK.1 hP 0 rfl rfl 32 (by decide) (hts (.fieldLink RX12 79 "CutAtlasModel" "treeNext" "[I") (List.mem_of_getElem? (i := 1) rfl)) (fun _ h9 => h9) rfl dB_3_2_47.1.1.2.1 ?_
                refine lv_iload hx hb dB_3_2_47.1.1.2.2 (lv_at hl 0 rfl) ?_
                have h_48 : vp_in x5_17 12 := in_I (by first | with_reducible assumption | omega) (by omega)
                refine va_iald hx hb hK.1 hP 6 0 rfl rfl (i := x5_17) h_48 dB_3_2_47.1.2.1.1 ?_
                refine lv_topi (fun y_49 ey_49 => ?_)
                have ky_49 : y_49.toInt = (c_g32_17 x5_17.toNatClampNeg).toInt := by rw [ey_49]
                have ry_49 : 0 ≤ y_49.toInt ∧ y_49.toInt ≤ 11 := by rw [ey_49]; exact rc_g32_17 _ (in_lt h_48)
                refine lv_iload_n hx hb dB_3_2_47.1.2.1.2 rfl (lv_at hl 3 rfl) ?_
                refine lv_icmp_ne (tgt := 120) hx hb dB_3_2_47.1.2.2.1 (by decide) (fun c_50 => ?_) (fun c_50 => ?_)
                · have t_50 : ¬ y_49.toInt = y_6.toInt := fun h => c_50 (Int32.toInt_inj.mp h)
                  refine lv_aload_n hx hb dB_3_2_47.2.1.1.2 rfl (lv_at hl 5 rfl) ?_
                  refine va_get (ci := 12) (v := .ref g32) (C := RX12) (T := TX12) (N := 34) hx hb hts (fun _ h => List.mem_cons_of_mem _ (List.mem_append_right _ h)) hown hK.1 hP 0 rfl rfl 32 (by decide) (hts (.fieldLink RX12 79 "CutAtlasModel" "treeNext" "[I") (List.mem_of_getElem? (i := 1) rfl)) (fun _ h9 => h9) rfl dB_3_2_47.2.1.2.1 ?_
                  refine lv_iload hx hb dB_3_2_47.2.1.2.2 (lv_at hl 0 rfl) ?_
                  refine va_iald hx hb hK.1 hP 6 0 rfl rfl (i := x5_17) h_48 dB_3_2_47.2.2.1.1 ?_
                  refine lv_topi (fun y_52 ey_52 => ?_)
                  have e_ := (ey_52.trans ey_49.symm).symm
                  subst e_
                  skip
                  refine va_iast hx hb hK.1 hP hD hS 6 0 rfl rfl (i := x5_17) h_48 dB_3_2_47.2.2.1.2 (fun H locs hP hD hS => ?_)
                  obtain ⟨f_54, ef_54⟩ : ∃ g : Nat → Int32, g = upd c_g32_17 x5_17.toNatClampNeg y_49 := ⟨_, rfl⟩
                  refine pd_K (D := D) (cl := vwCl) (H := H) (A := A) [ob12_0_ mo s0 s1 t2 s3 s4 g5 g6 g7 g8 g9 g10 s11 g12 g13 g14 g15 g16 g17 g18 g19 g20 s21 g22 g23 g24 n25_9 n26_10 n27_11 n28_12 g29 g30 g31 g32 g33, ai_ cy g5 40 f5, ai_ cy g6 40 f6, ai_ cy g7 40 f7, ai_ cy g8 40 f8, az_ cy g10 40 f10, ai_ cy g32 12 f_54, ai_ cy g33 12 f_15] (by rw [ef_54]; exact hP) (by rw [ef_54]; exact hD) (fun hP hD => ?_)
                  have rf_54 : rng f_54 12 (0) (11) := by rw [ef_54]; exact rng_upd rc_g32_17 (by omega) (by omega)
                  obtain ⟨y_55, ey_55⟩ : ∃ y : Int32, y = x5_17 + 1 := ⟨_, rfl⟩
                  have ty_55 : y_55.toInt = x5_17.toInt + (1 : Int32).toInt := by rw [ey_55]; exact addI (by omega) (by omega)
                  refine lv_iinc (v := y_55) (lv' := [(5, .int y_55), (4, .int n26_10), (3, .int r_7), (2, .int y_6), (1, .int x1_3), (0, .ref mo)]) hx hb dB_3_2_47.2.2.2.1 hl (k := 0) rfl (by rw [ey_55]; rfl) (by decide) rfl (fun ls hl => ?_)
                  refine lv_goto (tgt := 79) hx hb dB_3_2_47.2.2.2.2 (by decide) ?_
                  exact ih_17 y_55 f_54 _ _ _ (by omega) (by first | with_reducible assumption | omega | assumption) (by first | with_reducible assumption | omega | assumption) (by first | with_reducible assumption | omega | assumption) (by first | exact hgE_0 (by omega) | exact hgE_eq v3_17 (by omega) (by omega) (by omega) (by omega) ef_54 (Or.inl ⟨b_tr hbw_ (by omega), by omega, rfl⟩) | exact hgE_eq v3_17 (by omega) (by omega) (by omega) (by omega) ef_54 (Or.inr ⟨Or.inl (bt_fl hbw_ (by omega)), ey_49⟩) | exact hgE_eq v3_17 (by omega) (by omega) (by omega) (by omega) ef_54 (Or.inr ⟨Or.inr (by omega), ey_49⟩)) (by first | with_reducible assumption | assumption | exact rng_zero (by omega) (by omega) | exact orng_zero) ⟨hP, hD⟩ hS (lv_sub hl [0, 1, 2, 3, 4, 5] rfl)
                · have t_50 : y_49.toInt = y_6.toInt := congrArg Int32.toInt c_50
                  refine lv_iload_n hx hb dB_3_2_47.1.2.2.2 rfl (lv_at hl 4 rfl) ?_
                  refine lv_goto (tgt := 127) hx hb dB_3_2_47.2.1.1.1 (by decide) ?_
                  refine va_iast hx hb hK.1 hP hD hS 6 0 rfl rfl (i := x5_17) h_48 dB_3_2_47.2.2.1.2 (fun H locs hP hD hS => ?_)
                  obtain ⟨f_57, ef_57⟩ : ∃ g : Nat → Int32, g = upd c_g32_17 x5_17.toNatClampNeg x1_3 := ⟨_, rfl⟩
                  refine pd_K (D := D) (cl := vwCl) (H := H) (A := A) [ob12_0_ mo s0 s1 t2 s3 s4 g5 g6 g7 g8 g9 g10 s11 g12 g13 g14 g15 g16 g17 g18 g19 g20 s21 g22 g23 g24 n25_9 n26_10 n27_11 n28_12 g29 g30 g31 g32 g33, ai_ cy g5 40 f5, ai_ cy g6 40 f6, ai_ cy g7 40 f7, ai_ cy g8 40 f8, az_ cy g10 40 f10, ai_ cy g32 12 f_57, ai_ cy g33 12 f_15] (by rw [ef_57]; exact hP) (by rw [ef_57]; exact hD) (fun hP hD => ?_)
                  have rf_57 : rng f_57 12 (0) (11) := by rw [ef_57]; exact rng_upd rc_g32_17 (by omega) (by omega)
                  obtain ⟨y_58, ey_58⟩ : ∃ y : Int32, y = x5_17 + 1 := ⟨_, rfl⟩
                  have ty_58 : y_58.toInt = x5_17.toInt + (1 : Int32).toInt := by rw [ey_58]; exact addI (by omega) (by omega)
                  refine lv_iinc (v := y_58) (lv' := [(5, .int y_58), (4, .int n26_10), (3, .int r_7), (2, .int y_6), (1, .int x1_3), (0, .ref mo)]) hx hb dB_3_2_47.2.2.2.1 hl (k := 0) rfl (by rw [ey_58]; rfl) (by decide) rfl (fun ls hl => ?_)
                  refine lv_goto (tgt := 79) hx hb dB_3_2_47.2.2.2.2 (by decide) ?_
                  exact ih_17 y_58 f_57 _ _ _ (by omega) (by first | with_reducible assumption | omega | assumption) (by first | with_reducible assumption | omega | assumption) (by first | with_reducible assumption | omega | assumption) (by first | exact hgE_0 (by omega) | exact hgE_eq v3_17 (by omega) (by omega) (by omega) (by omega) ef_57 (Or.inl ⟨b_tr hbw_ (by omega), by omega, rfl⟩) | exact hgE_eq v3_17 (by omega) (by omega) (by omega) (by omega) ef_57 (Or.inr ⟨Or.inl (bt_fl hbw_ (by omega)), ex1_3⟩) | exact hgE_eq v3_17 (by omega) (by omega) (by omega) (by omega) ef_57 (Or.inr ⟨Or.inr (by omega), ex1_3⟩)) (by first | with_reducible assumption | assumption | exact rng_zero (by omega) (by omega) | exact orng_zero) ⟨hP, hD⟩ hS (lv_sub hl [0, 1, 2, 3, 4, 5] rfl)
    · have t_2 : ¬ (12 : Int32).toInt ≤ x1_1.toInt := fun h => c_2 (Int32.le_iff_toInt_le.mpr h)
      refine lv_aload_n hx hb dB_3_2_43.1.2.1.2 rfl (lv_at hl 1 rfl) ?_
      refine va_get (ci := 12) (v := .ref g32) (C := RX12) (T := TX12) (N := 34) hx hb hts (fun _ h => List.mem_cons_of_mem _ (List.mem_append_right _ h)) hown hK.1 hP 0 rfl rfl 32 (by decide) (hts (.fieldLink RX12 79 "CutAtlasModel" "treeNext" "[I") (List.mem_of_getElem? (i := 1) rfl)) (fun _ h9 => h9) rfl dB_3_2_43.1.2.2.1 ?_
      refine lv_iload_n hx hb dB_3_2_43.1.2.2.2 rfl (lv_at hl 0 rfl) ?_
      refine lv_iconst (v := 0) hx hb dB_3_2_43.2.1.1.1 (by decide) ?_
      have h_59 : vp_in x1_1 12 := in_I (by first | with_reducible assumption | omega) (by omega)
      refine va_iast hx hb hK.1 hP hD hS 6 0 rfl rfl (i := x1_1) h_59 dB_3_2_43.2.1.1.2 (fun H locs hP hD hS => ?_)
      obtain ⟨f_60, ef_60⟩ : ∃ g : Nat → Int32, g = upd c_g32_1 x1_1.toNatClampNeg (0 : Int32) := ⟨_, rfl⟩
      refine pd_K (D := D) (cl := vwCl) (H := H) (A := A) [ob12_0_ mo s0 s1 t2 s3 s4 g5 g6 g7 g8 g9 g10 s11 g12 g13 g14 g15 g16 g17 g18 g19 g20 s21 g22 g23 g24 s25 s26 s27 s28 g29 g30 g31 g32 g33, ai_ cy g5 40 f5, ai_ cy g6 40 f6, ai_ cy g7 40 f7, ai_ cy g8 40 f8, az_ cy g10 40 f10, ai_ cy g32 12 f_60, ai_ cy g33 12 c_g33_1] (by rw [ef_60]; exact hP) (by rw [ef_60]; exact hD) (fun hP hD => ?_)
      have rf_60 : rng f_60 12 (0) (11) := by rw [ef_60]; exact rng_upd rc_g32_1 (by omega) (by omega)
      refine lv_aload_n hx hb dB_3_2_43.2.1.2.1 rfl (lv_at hl 1 rfl) ?_
      refine va_get (ci := 12) (v := .ref g33) (C := RX12) (T := TX12) (N := 34) hx hb hts (fun _ h => List.mem_cons_of_mem _ (List.mem_append_right _ h)) hown hK.1 hP 0 rfl rfl 33 (by decide) (hts (.fieldLink RX12 82 "CutAtlasModel" "treeNumber" "[I") (List.mem_of_getElem? (i := 2) rfl)) (fun _ h9 => h9) rfl dB_3_2_43.2.1.2.2 ?_
      refine lv_iload_n hx hb dB_3_2_43.2.2.1.1 rfl (lv_at hl 0 rfl) ?_
      refine lv_bipush (v := (-9)) hx hb dB_3_2_43.2.2.1.2 (by decide) ?_
      refine va_iast hx hb hK.1 hP hD hS 7 0 rfl rfl (i := x1_1) h_59 dB_3_2_43.2.2.2.1 (fun H locs hP hD hS => ?_)
      obtain ⟨f_62, ef_62⟩ : ∃ g : Nat → Int32, g = upd c_g33_1 x1_1.toNatClampNeg ((-9) : Int32) := ⟨_, rfl⟩
      refine pd_K (D := D) (cl := vwCl) (H := H) (A := A) [ob12_0_ mo s0 s1 t2 s3 s4 g5 g6 g7 g8 g9 g10 s11 g12 g13 g14 g15 g16 g17 g18 g19 g20 s21 g22 g23 g24 s25 s26 s27 s28 g29 g30 g31 g32 g33, ai_ cy g5 40 f5, ai_ cy g6 40 f6, ai_ cy g7 40 f7, ai_ cy g8 40 f8, az_ cy g10 40 f10, ai_ cy g32 12 f_60, ai_ cy g33 12 f_62] (by rw [ef_62]; exact hP) (by rw [ef_62]; exact hD) (fun hP hD => ?_)
      obtain ⟨y_63, ey_63⟩ : ∃ y : Int32, y = x1_1 + 1 := ⟨_, rfl⟩
      have ty_63 : y_63.toInt = x1_1.toInt + (1 : Int32).toInt := by rw [ey_63]; exact addI (by omega) (by omega)
      refine lv_iinc (v := y_63) (lv' := [(1, .int y_63), (0, .ref mo)]) hx hb dB_3_2_43.2.2.2.2 hl (k := 0) rfl (by rw [ey_63]; rfl) (by decide) rfl (fun ls hl => ?_)
      refine lv_goto (tgt := 2) hx hb dB_3_2_44.1.1.1.1 (by decide) ?_
      exact ih_1 y_63 f_60 f_62 _ _ _ (by omega) (by first | with_reducible assumption | omega | assumption) (by first | with_reducible assumption | omega | assumption) (by first | exact fill_st ef_60 v2_1 (by omega) (by omega) | (intro j hj; omega)) (by first | with_reducible assumption | assumption | exact rng_zero (by omega) (by omega) | exact orng_zero) ⟨hP, hD⟩ hS (lv_sub hl [0, 1] rfl)

set_option maxHeartbeats 4000000 in
set_option maxRecDepth 100000 in
theorem c_X12_tree2 (l : Launch) (D : va_G) (cy : Nat → ClassId) (sz : Nat) (mo : Nat) (g5 : Nat) (g6 : Nat) (g7 : Nat) (g8 : Nat) (g9 : Nat) (g10 : Nat) (g12 : Nat) (g13 : Nat) (g14 : Nat) (g15 : Nat) (g16 : Nat) (g17 : Nat) (g18 : Nat) (g19 : Nat) (g20 : Nat) (g22 : Nat) (g23 : Nat) (g24 : Nat) (g29 : Nat) (g30 : Nat) (g31 : Nat) (g32 : Nat) (g33 : Nat) (s0 : Int32) (s1 : Int32) (s3 : Int32) (s4 : Int32) (s11 : Int32) (s21 : Int32) (s25 : Int32) (s26 : Int32) (s27 : Int32) (s28 : Int32) (t2 : Int64) (f5 : Nat → Int32) (f6 : Nat → Int32) (f7 : Nat → Int32) (f8 : Nat → Int32) (f10 : Nat → Int32) (f32 : Nat → Int32) (f33 : Nat → Int32) (a1 : Int32) (a2 : Int32) (hN : 0 ≤ s4.toInt ∧ s4.toInt ≤ 40) (hPl : 0 ≤ s3.toInt ∧ s3.toInt ≤ 12) (h21 : s21 = (-9)) (hnet : netE s3.toInt s4.toInt f6 f7 f10) (r_f6 : rng f6 40 (0) (11)) (r_f7 : rng f7 40 (0) (11)) (r_f8 : rng f8 40 (0) (2000)) (r_f32 : rng f32 12 (0) (11)) : Met l yX12_tree wsX12_tree ({ frames := 5, cells := 0, slots := 0, locals := 121 }) (va_Pc [.ref mo, .int a1, .int a2] (fun U => U.heap.size = sz ∧ va_P D vwCl [ob12_0_ mo s0 s1 t2 s3 s4 g5 g6 g7 g8 g9 g10 s11 g12 g13 g14 g15 g16 g17 g18 g19 g20 s21 g22 g23 g24 s25 s26 s27 s28 g29 g30 g31 g32 g33, ai_ cy g5 40 f5, ai_ cy g6 40 f6, ai_ cy g7 40 f7, ai_ cy g8 40 f8, az_ cy g10 40 f10, ai_ cy g32 12 f32, ai_ cy g33 12 f33] U.heap ∧ kk_ D cy U ∧ va_D (fun _ => True) [ob12_0_ mo s0 s1 t2 s3 s4 g5 g6 g7 g8 g9 g10 s11 g12 g13 g14 g15 g16 g17 g18 g19 g20 s21 g22 g23 g24 s25 s26 s27 s28 g29 g30 g31 g32 g33, ai_ cy g5 40 f5, ai_ cy g6 40 f6, ai_ cy g7 40 f7, ai_ cy g8 40 f8, az_ cy g10 40 f10, ai_ cy g32 12 f32, ai_ cy g33 12 f33])) (va_Qi (fun (r : Int32) (_ : Unit) => ((trI a1.toInt a2.toInt s3.toInt (sumI (bkR f5 f10) s4.toNatClampNeg) = 0 → trA (cutR f5 f6 f7 f8 f10 (-9) s4.toNatClampNeg) s3.toNatClampNeg a1.toNatClampNeg a2.toInt r) ∧ (trI a1.toInt a2.toInt s3.toInt (sumI (bkR f5 f10) s4.toNatClampNeg) ≠ 0 → r.toInt = trI a1.toInt a2.toInt s3.toInt (sumI (bkR f5 f10) s4.toNatClampNeg)))) (fun (_ : Unit) (t : State) => ∃ (n25 : Int32), ∃ (n26 : Int32), ∃ (n27 : Int32), ∃ (n28 : Int32), ∃ (e32 : Nat → Int32), ∃ (e33 : Nat → Int32), (rng e32 12 (0) (11)) ∧ va_P D vwCl [ob12_0_ mo 0 s1 t2 s3 s4 g5 g6 g7 g8 g9 g10 s11 g12 g13 g14 g15 g16 g17 g18 g19 g20 s21 g22 g23 g24 n25 n26 n27 n28 g29 g30 g31 g32 g33, ai_ cy g5 40 f5, ai_ cy g6 40 f6, ai_ cy g7 40 f7, ai_ cy g8 40 f8, az_ cy g10 40 f10, ai_ cy g32 12 e32, ai_ cy g33 12 e33] t.heap ∧ va_D (va_A [ob12_0_ mo s0 s1 t2 s3 s4 g5 g6 g7 g8 g9 g10 s11 g12 g13 g14 g15 g16 g17 g18 g19 g20 s21 g22 g23 g24 s25 s26 s27 s28 g29 g30 g31 g32 g33, ai_ cy g5 40 f5, ai_ cy g6 40 f6, ai_ cy g7 40 f7, ai_ cy g8 40 f8, az_ cy g10 40 f10, ai_ cy g32 12 f32, ai_ cy g33 12 f33] sz) [ob12_0_ mo 0 s1 t2 s3 s4 g5 g6 g7 g8 g9 g10 s11 g12 g13 g14 g15 g16 g17 g18 g19 g20 s21 g22 g23 g24 n25 n26 n27 n28 g29 g30 g31 g32 g33, ai_ cy g5 40 f5, ai_ cy g6 40 f6, ai_ cy g7 40 f7, ai_ cy g8 40 f8, az_ cy g10 40 f10, ai_ cy g32 12 e32, ai_ cy g33 12 e33]) (va_A [ob12_0_ mo s0 s1 t2 s3 s4 g5 g6 g7 g8 g9 g10 s11 g12 g13 g14 g15 g16 g17 g18 g19 g20 s21 g22 g23 g24 s25 s26 s27 s28 g29 g30 g31 g32 g33, ai_ cy g5 40 f5, ai_ cy g6 40 f6, ai_ cy g7 40 f7, ai_ cy g8 40 f8, az_ cy g10 40 f10, ai_ cy g32 12 f32, ai_ cy g33 12 f33] sz)) 0 0 (va_A [ob12_0_ mo s0 s1 t2 s3 s4 g5 g6 g7 g8 g9 g10 s11 g12 g13 g14 g15 g16 g17 g18 g19 g20 s21 g22 g23 g24 s25 s26 s27 s28 g29 g30 g31 g32 g33, ai_ cy g5 40 f5, ai_ cy g6 40 f6, ai_ cy g7 40 f7, ai_ cy g8 40 f8, az_ cy g10 40 f10, ai_ cy g32 12 f32, ai_ cy g33 12 f33] sz) := by
  refine ofQ (cc := cX12_tree) (maxL := 3) (ret := (some .int)) (by decide) rfl ?_
  intro p e s m args below meth c s₁ Q hQ B hml hv
  obtain ⟨rfl, hsz, hP, hK, hD0⟩ := hv
  have hx := B.exec
  have hb := B.bytes
  have hr := B.returns
  have hts := atoms_spec (ws := wsX12_tree) B.pre
  have hown : s.vm.findClass RX12 = some m.cls := by have h_ := findClass_of_methodNamed B.named; exact h_
  have hlocks := B.notSynchronized
  subst hsz
  have hD := hD0.self (sz := s.heap.size)
  generalize hAe : va_A [ob12_0_ mo s0 s1 t2 s3 s4 g5 g6 g7 g8 g9 g10 s11 g12 g13 g14 g15 g16 g17 g18 g19 g20 s21 g22 g23 g24 s25 s26 s27 s28 g29 g30 g31 g32 g33, ai_ cy g5 40 f5, ai_ cy g6 40 f6, ai_ cy g7 40 f7, ai_ cy g8 40 f8, az_ cy g10 40 f10, ai_ cy g32 12 f32, ai_ cy g33 12 f33] s.heap.size = A at hD hQ
  have hA : ∀ q : Nat, s.heap.size ≤ q → A q := fun q h => by rw [← hAe]; exact Or.inr h
  have hS : va_S A s.heap s.heap [] := va_S.rf
  have hl := lv_entry ([.ref mo, .int a1, .int a2]) (n := 3) (Nat.le_of_ble_eq_true rfl)
  rw [lg_entry_eq]
  generalize (lg_sl ([.ref mo, .int a1, .int a2]) ++ List.replicate (3 - (lg_sl ([.ref mo, .int a1, .int a2])).length) Slot.unset).toArray = ls at hl ⊢
  have hl : lv_has ls 3 [(0, .ref mo), (1, .int a1), (2, .int a2)] := hl
  have zm9 : ((-9) : Int32).toInt = -9 := by decide
  have zm2 : ((-2) : Int32).toInt = -2 := by decide
  have zm1 : ((-1) : Int32).toInt = -1 := by decide
  have z0 : (0 : Int32).toInt = 0 := by decide
  have zl0 : (0 : Int64).toInt = 0 := by decide
  have zl1 : (1 : Int64).toInt = 1 := by decide
  have h21i_ : s21.toInt = -9 := by rw [h21]; decide
  have zq0 : (0 : Int32).toInt = 0 := by decide
  have zq1 : (1 : Int32).toInt = 1 := by decide
  have zq2 : (2 : Int32).toInt = 2 := by decide
  have zq3 : (3 : Int32).toInt = 3 := by decide
  have zq4 : (4 : Int32).toInt = 4 := by decide
  have zq5 : (5 : Int32).toInt = 5 := by decide
  have zqm9 : ((-9) : Int32).toInt = -9 := by decide
  have zqm1 : ((-1) : Int32).toInt = -1 := by decide
  have zqm2 : ((-2) : Int32).toInt = -2 := by decide
  refine lv_aload_n hx hb dB_3_2_53.1.1.1.1 rfl (lv_at hl 0 rfl) ?_
  refine lv_iconst (v := 0) hx hb dB_3_2_53.1.1.1.2 (by decide) ?_
  refine va_put (ci := 12) (v := .int 0) (ty := .int) (C := RX12) (T := TX12) (N := 34) hx hb hts (fun _ h => List.mem_cons_of_mem _ (List.mem_append_right _ h)) tyX12 tyX12_ok nmX12 hown hK.1 hP hD hS 0 rfl rfl 0 (by decide) (hts (.fieldLink RX12 85 "CutAtlasModel" "thrown" "I") (List.mem_of_getElem? (i := 1) rfl)) (fun _ h9 => h9) rfl (by decide +kernel) rfl rfl (Nat.le_of_ble_eq_true rfl) dB_3_2_53.1.1.2.1 (fun H locs hP hD hS => ?_)
  refine pd_K [ob12_0_ mo 0 s1 t2 s3 s4 g5 g6 g7 g8 g9 g10 s11 g12 g13 g14 g15 g16 g17 g18 g19 g20 s21 g22 g23 g24 s25 s26 s27 s28 g29 g30 g31 g32 g33, ai_ cy g5 40 f5, ai_ cy g6 40 f6, ai_ cy g7 40 f7, ai_ cy g8 40 f8, az_ cy g10 40 f10, ai_ cy g32 12 f32, ai_ cy g33 12 f33] hP hD (fun hP hD => ?_)
  refine lv_iload_n hx hb dB_3_2_53.1.1.2.2 rfl (lv_at hl 2 rfl) ?_
  refine lv_i2l (v := a2.toInt64) hx hb dB_3_2_53.1.2.1.1 rfl ?_
  have q_6 : (a2.toInt64).toInt = a2.toInt := Int32.toInt_toInt64 a2
  refine lv_lconst (v := 0) hx hb dB_3_2_53.1.2.1.2 (by decide) ?_
  refine lv_lconst (v := 1) hx hb dB_3_2_53.1.2.2.1 (by decide) ?_
  refine ct_R hP hD [] [] (by decide) rfl (fun hPc hDw => ?_)
  have hFc := va_free (wc := []) hD hS hA [] rfl
  refine va_calli (va_runS (As := [.long a2.toInt64, .long 0, .long 1]) (rest := []) ⟨hx, hb, hml, hown, hts⟩ (c_X12_in l D cy H.size a2.toInt64 (0 : Int64) (1 : Int64)) (va_cwS 3 hts gX12_tree_X12_in rfl rfl rfl hd_X12_in ⟨Nat.le_of_ble_eq_true rfl, Nat.le_of_ble_eq_true rfl⟩) ⟨bl_, fun U hU hW => ⟨rfl, by rw [hU], by rw [hU]; exact hPc, kk_mv hW hK, hDw⟩⟩ rfl rfl hl.1 rfl (lv_room (Nat.le_of_ble_eq_true rfl)) dB_3_2_53.1.2.2.2 ⟨Nat.le_of_ble_eq_true rfl, Nat.le_of_ble_eq_true rfl⟩) hS (fun q _ h => hFc q h) hFc (fun r_1 u t H locs ht hvm hw hB hz1 hk1 hS => ?_)
  have hP : va_P D vwCl _ H := ro_keep hP hk1
  rcases hw with ⟨w_2, e_⟩ | ⟨w_2, e_⟩
  · have e_ := e_.symm
    subst e_
    refine lv_if_ne (tgt := 17) hx hb dB_3_2_53.2.1.1.1 (by decide) (fun c_3 => ?_) (fun c_3 => ?_)
    · have _ := c_3
      refine lv_aload_n hx hb dB_3_2_53.2.1.2.2 rfl (lv_at hl 0 rfl) ?_
      refine ct_R hP hD [ob12_0_ mo 0 s1 t2 s3 s4 g5 g6 g7 g8 g9 g10 s11 g12 g13 g14 g15 g16 g17 g18 g19 g20 s21 g22 g23 g24 s25 s26 s27 s28 g29 g30 g31 g32 g33, ai_ cy g5 40 f5, az_ cy g10 40 f10] [0, 1, 5] (by decide) rfl (fun hPc hDw => ?_)
      have hFc := va_free (wc := []) hD hS hA [] rfl
      refine va_calli (va_runV (As := []) (rest := []) ⟨hx, hb, hml, hown, hts⟩ (c_X12_isWhole2 l D cy H.size mo g5 g6 g7 g8 g9 g10 g12 g13 g14 g15 g16 g17 g18 g19 g20 g22 g23 g24 g29 g30 g31 g32 g33 (0 : Int32) s1 s3 s4 s11 s21 s25 s26 s27 s28 t2 f5 f10 (by first | with_reducible assumption | omega | assumption)) (cwV 0 hts gX12_tree_X12_isWhole rfl rfl rfl ⟨rfl, hd_X12_isWhole⟩ ⟨Nat.le_of_ble_eq_true rfl, Nat.le_of_ble_eq_true rfl⟩) ⟨bl_, va_recvX hK.1 hP (ci := 12) (q0 := 0) rfl rfl, fun U hU hW => ⟨rfl, by rw [hU], by rw [hU]; exact hPc, kk_mv hW hK, hDw⟩⟩ rfl rfl hl.1 rfl (lv_room (Nat.le_of_ble_eq_true rfl)) dB_3_2_53.2.2.1.1 ⟨Nat.le_of_ble_eq_true rfl, Nat.le_of_ble_eq_true rfl⟩) hS (fun q _ h => hFc q h) hFc (fun r_4 u t H locs ht hvm hw hB hz1 hk1 hS => ?_)
      have hP : va_P D vwCl _ H := ro_keep hP hk1
      obtain ⟨f0_r_4, f1_r_4⟩ := hw
      have hw1_ := f1_r_4
      refine lv_if_ne (tgt := 27) hx hb dB_3_2_53.2.2.1.2 (by decide) (fun c_5 => ?_) (fun c_5 => ?_)
      · have t_5 : ¬ r_4.toInt = (0 : Int32).toInt := fun h => c_5 (Int32.toInt_inj.mp h)
        have hwi_ : sumI (bkR f5 f10) s4.toNatClampNeg = 0 := (whI_1 (P := s3.toInt) (by omega)).2
        have hwr_ : whC (cutR f5 f6 f7 f8 f10 s21.toInt s4.toNatClampNeg) s3.toNatClampNeg := whR hnet r_f6 r_f7 r_f8 hN.2 hwi_
        refine lv_aload_n hx hb dB_3_2_54.1.1.1.1 rfl (lv_at hl 0 rfl) ?_
        refine lv_iload_n hx hb dB_3_2_54.1.1.1.2 rfl (lv_at hl 1 rfl) ?_
        refine ct_R hP hD [ob12_0_ mo 0 s1 t2 s3 s4 g5 g6 g7 g8 g9 g10 s11 g12 g13 g14 g15 g16 g17 g18 g19 g20 s21 g22 g23 g24 s25 s26 s27 s28 g29 g30 g31 g32 g33] [0] (by decide) rfl (fun hPc hDw => ?_)
        have hFc := va_free (wc := []) hD hS hA [] rfl
        refine va_calli (va_runV (As := [.int a1]) (rest := []) ⟨hx, hb, hml, hown, hts⟩ (c_X12_isPlace l D cy H.size mo g5 g6 g7 g8 g9 g10 g12 g13 g14 g15 g16 g17 g18 g19 g20 g22 g23 g24 g29 g30 g31 g32 g33 (0 : Int32) s1 s3 s4 s11 s21 s25 s26 s27 s28 t2 a1 (by first | with_reducible assumption | omega | assumption)) (cwV 1 hts gX12_tree_X12_isPlace rfl rfl rfl ⟨rfl, hd_X12_isPlace⟩ ⟨Nat.le_of_ble_eq_true rfl, Nat.le_of_ble_eq_true rfl⟩) ⟨bl_, va_recvX hK.1 hP (ci := 12) (q0 := 0) rfl rfl, fun U hU hW => ⟨rfl, by rw [hU], by rw [hU]; exact hPc, kk_mv hW hK, hDw⟩⟩ rfl rfl hl.1 rfl (lv_room (Nat.le_of_ble_eq_true rfl)) dB_3_2_54.1.1.2.1 ⟨Nat.le_of_ble_eq_true rfl, Nat.le_of_ble_eq_true rfl⟩) hS (fun q _ h => hFc q h) hFc (fun r_6 u t H locs ht hvm hw hB hz1 hk1 hS => ?_)
        have hP : va_P D vwCl _ H := ro_keep hP hk1
        rcases hw with ⟨w_7, e_⟩ | ⟨w_7, e_⟩
        · have e_ := e_.symm
          subst e_
          refine lv_if_ne (tgt := 37) hx hb dB_3_2_54.1.1.2.2 (by decide) (fun c_8 => ?_) (fun c_8 => ?_)
          · have _ := c_8
            refine lv_aload_n hx hb dB_3_2_54.1.2.2.1 rfl (lv_at hl 0 rfl) ?_
            refine ct_S hP hD hS hA [ob12_0_ mo 0 s1 t2 s3 s4 g5 g6 g7 g8 g9 g10 s11 g12 g13 g14 g15 g16 g17 g18 g19 g20 s21 g22 g23 g24 s25 s26 s27 s28 g29 g30 g31 g32 g33, ai_ cy g5 40 f5, ai_ cy g6 40 f6, ai_ cy g7 40 f7, ai_ cy g8 40 f8, az_ cy g10 40 f10, ai_ cy g32 12 f32, ai_ cy g33 12 f33] [0, 1, 2, 3, 4, 5, 6, 7] (by decide) rfl (fun hPc hDw hFc hC_ => ?_)
            refine va_callv (va_runV (As := []) (rest := []) ⟨hx, hb, hml, hown, hts⟩ (c_X12_plants2 l D cy H.size mo g5 g6 g7 g8 g9 g10 g12 g13 g14 g15 g16 g17 g18 g19 g20 g22 g23 g24 g29 g30 g31 g32 g33 (0 : Int32) s1 s3 s4 s11 s21 s25 s26 s27 s28 t2 f5 f6 f7 f8 f10 f32 f33 (by first | with_reducible assumption | omega | assumption) (by first | with_reducible assumption | omega | assumption) (by first | with_reducible assumption | assumption | omega) (by first | with_reducible assumption | assumption | omega) (by first | with_reducible assumption | assumption | omega) (by first | with_reducible assumption | assumption | omega) (by first | with_reducible assumption | assumption | omega) (by first | with_reducible assumption | assumption | omega)) (cwV 0 hts gX12_tree_X12_plants rfl rfl rfl ⟨rfl, hd_X12_plants⟩ ⟨Nat.le_of_ble_eq_true rfl, Nat.le_of_ble_eq_true rfl⟩) ⟨bl_, va_recvX hK.1 hP (ci := 12) (q0 := 0) rfl rfl, fun U hU hW => ⟨rfl, by rw [hU], by rw [hU]; exact hPc, kk_mv hW hK, hDw⟩⟩ rfl rfl hl.1 rfl (lv_room (Nat.le_of_ble_eq_true rfl)) dB_3_2_54.1.2.2.2 ⟨Nat.le_of_ble_eq_true rfl, Nat.le_of_ble_eq_true rfl⟩) hS (fun q _ h => hFc q h) hFc (fun u t H locs ht hvm hw hB hz1 hk1 hS => ?_)
            obtain ⟨n25_10, n26_11, n27_12, n28_13, e32_14, e33_15, g_16, g_17, hP1, hD1⟩ := hB
            rw [ht] at hP1
            obtain ⟨hP, hD⟩ := va_join (wr := []) (w1 := [ob12_0_ mo 0 s1 t2 s3 s4 g5 g6 g7 g8 g9 g10 s11 g12 g13 g14 g15 g16 g17 g18 g19 g20 s21 g22 g23 g24 n25_10 n26_11 n27_12 n28_13 g29 g30 g31 g32 g33, ai_ cy g5 40 f5, ai_ cy g6 40 f6, ai_ cy g7 40 f7, ai_ cy g8 40 f8, az_ cy g10 40 f10, ai_ cy g32 12 e32_14, ai_ cy g33 12 e33_15]) hP hD [0, 1, 2, 3, 4, 5, 6, 7] [] hC_ rfl (by decide) (by decide) hk1 hFc hP1 hD1
            refine pd_K [ob12_0_ mo 0 s1 t2 s3 s4 g5 g6 g7 g8 g9 g10 s11 g12 g13 g14 g15 g16 g17 g18 g19 g20 s21 g22 g23 g24 n25_10 n26_11 n27_12 n28_13 g29 g30 g31 g32 g33, ai_ cy g5 40 f5, ai_ cy g6 40 f6, ai_ cy g7 40 f7, ai_ cy g8 40 f8, az_ cy g10 40 f10, ai_ cy g32 12 e32_14, ai_ cy g33 12 e33_15] hP hD (fun hP hD => ?_)
            have hgt_ := g_16
            rw [h21i_] at hgt_
            refine lv_iload_n hx hb dB_3_2_54.2.1.1.1 rfl (lv_at hl 1 rfl) ?_
            refine lv_if_ne (tgt := 50) hx hb dB_3_2_54.2.1.1.2 (by decide) (fun c_18 => ?_) (fun c_18 => ?_)
            · have t_18 : ¬ a1.toInt = (0 : Int32).toInt := fun h => c_18 (Int32.toInt_inj.mp h)
              refine lv_iload_n hx hb dB_3_2_54.2.2.1.1 rfl (lv_at hl 2 rfl) ?_
              refine lv_if_ne (tgt := 63) hx hb dB_3_2_54.2.2.1.2 (by decide) (fun c_19 => ?_) (fun c_19 => ?_)
              · have t_19 : ¬ a2.toInt = (0 : Int32).toInt := fun h => c_19 (Int32.toInt_inj.mp h)
                refine lv_aload_n hx hb dB_3_2_55.1.2.2 rfl (lv_at hl 0 rfl) ?_
                refine va_get (ci := 12) (v := .ref g33) (C := RX12) (T := TX12) (N := 34) hx hb hts (fun _ h => List.mem_cons_of_mem _ (List.mem_append_right _ h)) hown hK.1 hP 0 rfl rfl 33 (by decide) (hts (.fieldLink RX12 82 "CutAtlasModel" "treeNumber" "[I") (List.mem_of_getElem? (i := 3) rfl)) (fun _ h9 => h9) rfl dB_3_2_55.2.1.1 ?_
                refine lv_iload_n hx hb dB_3_2_55.2.1.2 rfl (lv_at hl 1 rfl) ?_
                have h_20 : vp_in a1 12 := in_I (by first | with_reducible assumption | omega) (by omega)
                refine va_iald hx hb hK.1 hP 7 0 rfl rfl (i := a1) h_20 dB_3_2_55.2.2.1 ?_
                refine lv_topi (fun y_21 ey_21 => ?_)
                rw [hQ]
                exact W.iret (v := y_21) hx hb hr (fun t ht hW => ⟨⟨y_21, (), rfl, (by first | exact ⟨fun _ => ⟨e32_14, e33_15, hgt_, fun _ => by decide, fun h => absurd (by rw [show a1 = 0 from Int32.toInt_inj.mp (by omega)]; exact cl_0) h⟩, fun h => absurd (by unfold trI; (repeat' (first | with_reducible refine if_n (by omega) ?_ | with_reducible refine if_ns (by omega) ?_ | with_reducible refine if_nz (by omega) ?_ | with_reducible exact if_p (by omega) (by omega) | with_reducible exact if_ps (by omega) (by omega) | with_reducible exact if_pz (by omega) (by omega))) <;> omega) h⟩ | exact ⟨fun _ => ⟨e32_14, e33_15, hgt_, fun h => absurd h (nc_ne (y := 0) (by omega) (by decide) (by omega)), fun _ => ⟨fun _ => by rw [ey_21], fun h => absurd (by omega) h⟩⟩, fun h => absurd (by unfold trI; (repeat' (first | with_reducible refine if_n (by omega) ?_ | with_reducible refine if_ns (by omega) ?_ | with_reducible refine if_nz (by omega) ?_ | with_reducible exact if_p (by omega) (by omega) | with_reducible exact if_ps (by omega) (by omega) | with_reducible exact if_pz (by omega) (by omega))) <;> omega) h⟩ | exact ⟨fun _ => ⟨e32_14, e33_15, hgt_, fun h => absurd h (nc_ne (y := 0) (by omega) (by decide) (by omega)), fun _ => ⟨fun h => absurd h (by omega), fun _ => by rw [ey_21]⟩⟩, fun h => absurd (by unfold trI; (repeat' (first | with_reducible refine if_n (by omega) ?_ | with_reducible refine if_ns (by omega) ?_ | with_reducible refine if_nz (by omega) ?_ | with_reducible exact if_p (by omega) (by omega) | with_reducible exact if_ps (by omega) (by omega) | with_reducible exact if_pz (by omega) (by omega))) <;> omega) h⟩), n25_10, n26_11, n27_12, n28_13, e32_14, e33_15, (by first | with_reducible assumption | assumption | exact rng_zero (by omega) (by omega) | omega), by rw [ht]; exact hP, hD⟩, hS.F ht⟩) hS.2.2 dB_3_2_55.2.2.2
              · have t_19 : a2.toInt = (0 : Int32).toInt := congrArg Int32.toInt c_19
                refine lv_aload_n hx hb dB_3_2_54.2.2.2.1 rfl (lv_at hl 0 rfl) ?_
                refine va_get (ci := 12) (v := .ref g32) (C := RX12) (T := TX12) (N := 34) hx hb hts (fun _ h => List.mem_cons_of_mem _ (List.mem_append_right _ h)) hown hK.1 hP 0 rfl rfl 32 (by decide) (hts (.fieldLink RX12 79 "CutAtlasModel" "treeNext" "[I") (List.mem_of_getElem? (i := 2) rfl)) (fun _ h9 => h9) rfl dB_3_2_54.2.2.2.2 ?_
                refine lv_iload_n hx hb dB_3_2_55.1.1.1 rfl (lv_at hl 1 rfl) ?_
                have h_22 : vp_in a1 12 := in_I (by first | with_reducible assumption | omega) (by omega)
                refine va_iald hx hb hK.1 hP 6 0 rfl rfl (i := a1) h_22 dB_3_2_55.1.1.2 ?_
                refine lv_topi (fun y_23 ey_23 => ?_)
                have ry_23 : 0 ≤ y_23.toInt ∧ y_23.toInt ≤ 11 := by rw [ey_23]; exact g_17 _ (in_lt h_22)
                refine lv_goto (tgt := 69) hx hb dB_3_2_55.1.2.1 (by decide) ?_
                rw [hQ]
                exact W.iret (v := y_23) hx hb hr (fun t ht hW => ⟨⟨y_23, (), rfl, (by first | exact ⟨fun _ => ⟨e32_14, e33_15, hgt_, fun _ => by decide, fun h => absurd (by rw [show a1 = 0 from Int32.toInt_inj.mp (by omega)]; exact cl_0) h⟩, fun h => absurd (by unfold trI; (repeat' (first | with_reducible refine if_n (by omega) ?_ | with_reducible refine if_ns (by omega) ?_ | with_reducible refine if_nz (by omega) ?_ | with_reducible exact if_p (by omega) (by omega) | with_reducible exact if_ps (by omega) (by omega) | with_reducible exact if_pz (by omega) (by omega))) <;> omega) h⟩ | exact ⟨fun _ => ⟨e32_14, e33_15, hgt_, fun h => absurd h (nc_ne (y := 0) (by omega) (by decide) (by omega)), fun _ => ⟨fun _ => by rw [ey_23], fun h => absurd (by omega) h⟩⟩, fun h => absurd (by unfold trI; (repeat' (first | with_reducible refine if_n (by omega) ?_ | with_reducible refine if_ns (by omega) ?_ | with_reducible refine if_nz (by omega) ?_ | with_reducible exact if_p (by omega) (by omega) | with_reducible exact if_ps (by omega) (by omega) | with_reducible exact if_pz (by omega) (by omega))) <;> omega) h⟩ | exact ⟨fun _ => ⟨e32_14, e33_15, hgt_, fun h => absurd h (nc_ne (y := 0) (by omega) (by decide) (by omega)), fun _ => ⟨fun h => absurd h (by omega), fun _ => by rw [ey_23]⟩⟩, fun h => absurd (by unfold trI; (repeat' (first | with_reducible refine if_n (by omega) ?_ | with_reducible refine if_ns (by omega) ?_ | with_reducible refine if_nz (by omega) ?_ | with_reducible exact if_p (by omega) (by omega) | with_reducible exact if_ps (by omega) (by omega) | with_reducible exact if_pz (by omega) (by omega))) <;> omega) h⟩), n25_10, n26_11, n27_12, n28_13, e32_14, e33_15, (by first | with_reducible assumption | assumption | exact rng_zero (by omega) (by omega) | omega), by rw [ht]; exact hP, hD⟩, hS.F ht⟩) hS.2.2 dB_3_2_55.2.2.2
            · have t_18 : a1.toInt = (0 : Int32).toInt := congrArg Int32.toInt c_18
              refine lv_bipush (v := (-9)) hx hb dB_3_2_54.2.1.2.1 (by decide) ?_
              refine lv_goto (tgt := 69) hx hb dB_3_2_54.2.1.2.2 (by decide) ?_
              rw [hQ]
              exact W.iret (v := (-9)) hx hb hr (fun t ht hW => ⟨⟨(-9), (), rfl, (by first | exact ⟨fun _ => ⟨e32_14, e33_15, hgt_, fun _ => by decide, fun h => absurd (by rw [show a1 = 0 from Int32.toInt_inj.mp (by omega)]; exact cl_0) h⟩, fun h => absurd (by unfold trI; (repeat' (first | with_reducible refine if_n (by omega) ?_ | with_reducible refine if_ns (by omega) ?_ | with_reducible refine if_nz (by omega) ?_ | with_reducible exact if_p (by omega) (by omega) | with_reducible exact if_ps (by omega) (by omega) | with_reducible exact if_pz (by omega) (by omega))) <;> omega) h⟩ | exact ⟨fun _ => ⟨e32_14, e33_15, hgt_, fun h => absurd h (nc_ne (y := 0) (by omega) (by decide) (by omega)), fun _ => ⟨fun _ => by rw [e_lit], fun h => absurd (by omega) h⟩⟩, fun h => absurd (by unfold trI; (repeat' (first | with_reducible refine if_n (by omega) ?_ | with_reducible refine if_ns (by omega) ?_ | with_reducible refine if_nz (by omega) ?_ | with_reducible exact if_p (by omega) (by omega) | with_reducible exact if_ps (by omega) (by omega) | with_reducible exact if_pz (by omega) (by omega))) <;> omega) h⟩ | exact ⟨fun _ => ⟨e32_14, e33_15, hgt_, fun h => absurd h (nc_ne (y := 0) (by omega) (by decide) (by omega)), fun _ => ⟨fun h => absurd h (by omega), fun _ => by rw [e_lit]⟩⟩, fun h => absurd (by unfold trI; (repeat' (first | with_reducible refine if_n (by omega) ?_ | with_reducible refine if_ns (by omega) ?_ | with_reducible refine if_nz (by omega) ?_ | with_reducible exact if_p (by omega) (by omega) | with_reducible exact if_ps (by omega) (by omega) | with_reducible exact if_pz (by omega) (by omega))) <;> omega) h⟩), n25_10, n26_11, n27_12, n28_13, e32_14, e33_15, (by first | with_reducible assumption | assumption | exact rng_zero (by omega) (by omega) | omega), by rw [ht]; exact hP, hD⟩, hS.F ht⟩) hS.2.2 dB_3_2_55.2.2.2
          · exact absurd c_8 (by decide)
        · have e_ := e_.symm
          subst e_
          refine lv_if_ne (tgt := 37) hx hb dB_3_2_54.1.1.2.2 (by decide) (fun c_24 => ?_) (fun c_24 => ?_)
          · exact absurd c_24 (by decide)
          · have _ := c_24
            refine lv_iconst (v := (-1)) hx hb dB_3_2_54.1.2.1.1 (by decide) ?_
            rw [hQ]
            exact W.iret (v := (-1)) hx hb hr (fun t ht hW => ⟨⟨(-1), (), rfl, (⟨fun h => absurd h (by unfold trI; (repeat' (first | with_reducible refine if_n (by omega) ?_ | with_reducible refine if_ns (by omega) ?_ | with_reducible refine if_nz (by omega) ?_ | with_reducible exact if_p (by omega) (by omega) | with_reducible exact if_ps (by omega) (by omega) | with_reducible exact if_pz (by omega) (by omega))) <;> omega), fun _ => (by unfold trI; (repeat' (first | with_reducible refine if_n (by omega) ?_ | with_reducible refine if_ns (by omega) ?_ | with_reducible refine if_nz (by omega) ?_ | with_reducible exact if_p (by omega) (by omega) | with_reducible exact if_ps (by omega) (by omega) | with_reducible exact if_pz (by omega) (by omega))) <;> omega)⟩), s25, s26, s27, s28, f32, f33, (by first | with_reducible assumption | assumption | exact rng_zero (by omega) (by omega) | omega), by rw [ht]; exact hP, hD⟩, hS.F ht⟩) hS.2.2 dB_3_2_54.1.2.1.2
      · have t_5 : r_4.toInt = (0 : Int32).toInt := congrArg Int32.toInt c_5
        refine lv_bipush (v := (-2)) hx hb dB_3_2_53.2.2.2.1 (by decide) ?_
        rw [hQ]
        exact W.iret (v := (-2)) hx hb hr (fun t ht hW => ⟨⟨(-2), (), rfl, (⟨fun h => absurd h (by unfold trI; (repeat' (first | with_reducible refine if_n (by omega) ?_ | with_reducible refine if_ns (by omega) ?_ | with_reducible refine if_nz (by omega) ?_ | with_reducible exact if_p (by omega) (by omega) | with_reducible exact if_ps (by omega) (by omega) | with_reducible exact if_pz (by omega) (by omega))) <;> omega), fun _ => (by unfold trI; (repeat' (first | with_reducible refine if_n (by omega) ?_ | with_reducible refine if_ns (by omega) ?_ | with_reducible refine if_nz (by omega) ?_ | with_reducible exact if_p (by omega) (by omega) | with_reducible exact if_ps (by omega) (by omega) | with_reducible exact if_pz (by omega) (by omega))) <;> omega)⟩), s25, s26, s27, s28, f32, f33, (by first | with_reducible assumption | assumption | exact rng_zero (by omega) (by omega) | omega), by rw [ht]; exact hP, hD⟩, hS.F ht⟩) hS.2.2 dB_3_2_53.2.2.2.2
    · exact absurd c_3 (by decide)
  · have e_ := e_.symm
    subst e_
    refine lv_if_ne (tgt := 17) hx hb dB_3_2_53.2.1.1.1 (by decide) (fun c_25 => ?_) (fun c_25 => ?_)
    · exact absurd c_25 (by decide)
    · have _ := c_25
      refine lv_iconst (v := (-1)) hx hb dB_3_2_53.2.1.1.2 (by decide) ?_
      rw [hQ]
      exact W.iret (v := (-1)) hx hb hr (fun t ht hW => ⟨⟨(-1), (), rfl, (⟨fun h => absurd h (by unfold trI; (repeat' (first | with_reducible refine if_n (by omega) ?_ | with_reducible refine if_ns (by omega) ?_ | with_reducible refine if_nz (by omega) ?_ | with_reducible exact if_p (by omega) (by omega) | with_reducible exact if_ps (by omega) (by omega) | with_reducible exact if_pz (by omega) (by omega))) <;> omega), fun _ => (by unfold trI; (repeat' (first | with_reducible refine if_n (by omega) ?_ | with_reducible refine if_ns (by omega) ?_ | with_reducible refine if_nz (by omega) ?_ | with_reducible exact if_p (by omega) (by omega) | with_reducible exact if_ps (by omega) (by omega) | with_reducible exact if_pz (by omega) (by omega))) <;> omega)⟩), s25, s26, s27, s28, f32, f33, (by first | with_reducible assumption | assumption | exact rng_zero (by omega) (by omega) | omega), by rw [ht]; exact hP, hD⟩, hS.F ht⟩) hS.2.2 dB_3_2_53.2.1.2.1
end

section
/-! ===== the tree tells MOST between any two places ===== -/
noncomputable def dn (p : Nat → Nat) : Nat → Nat → Nat → Prop
  | 0, v, y => y = v
  | m + 1, v, y => y ≠ 0 ∧ dn p m v (p y)
/-- v stands on y's way to the root -/
noncomputable def Dn (p : Nat → Nat) (v y : Nat) : Prop := ∃ m : Nat, dn p m v y
theorem dn_ext {p : Nat → Nat} {v : Nat} (hv : v ≠ 0) : ∀ (m y : Nat), dn p m v y → dn p (m + 1) (p v) y
  | 0, y, h => by
    have e : y = v := h
    rw [e]
    exact ⟨hv, rfl⟩
  | m + 1, y, h => ⟨h.1, dn_ext hv m (p y) h.2⟩
theorem Dn_rf {p : Nat → Nat} {v : Nat} : Dn p v v := ⟨0, rfl⟩
theorem Dn_st {p : Nat → Nat} {v y : Nat} (hy : y ≠ 0) (h : Dn p v (p y)) : Dn p v y := by
  obtain ⟨m, h⟩ := h
  exact ⟨m + 1, hy, h⟩
theorem Dn_up {p : Nat → Nat} {v y : Nat} (hv : v ≠ 0) (h : Dn p v y) : Dn p (p v) y := by
  obtain ⟨m, h⟩ := h
  exact ⟨m + 1, dn_ext hv m y h⟩
noncomputable def ghI (C : (Nat → Bool) → Int) (P k : Nat) (p : Nat → Nat) (q : Nat → Int) : Prop := (∀ u : Nat, k ≤ u → u < P → p u < k ∧ ∀ b : Nat, b < k → lam C u b ≤ lam C u (p u)) ∧ (∀ u v : Nat, k ≤ u → u < P → k ≤ v → v < P → u ≠ v → (∀ b : Nat, b < k → lam C u b < lam C u v) → p u = p v) ∧ (∀ v : Nat, 1 ≤ v → v < k → p v < k ∧ p v ≠ v ∧ q v = lam C v (p v)) ∧ ∀ v y : Nat, 1 ≤ v → v < k → y < k → ¬ Dn p v y → lam C v y ≤ q v
section GH
variable {C : (Nat → Bool) → Int} {P s t : Nat} {p p2 : Nat → Nat} {q q2 : Nat → Int} {X : Nat → Bool}
theorem gh_1 (h : ∀ u : Nat, 1 ≤ u → u < P → p u = 0) : ghI C P 1 p q := by
  refine ⟨fun u h1 h2 => ?_, fun u v h1 h2 h3 h4 _ _ => by rw [h u h1 h2, h v h3 h4], fun v h1 h2 => by omega, fun v y h1 h2 => by omega⟩
  rw [h u h1 h2]
  refine ⟨by omega, fun b hb => ?_⟩
  rw [show b = 0 by omega]
  exact Int.le_refl _
/-- the places that wait -/
theorem gh_A (hw : whC C P) (h : ghI C P s p q) (hs : s < P) (et : p s = t) (hX : sep s t X) (hc : C X = lam C s t) (h2 : ∀ u : Nat, s < u → u < P → p2 u = if X u = true ∧ p u = t then s else p u) : (∀ u : Nat, s + 1 ≤ u → u < P → p2 u < s + 1 ∧ ∀ b : Nat, b < s + 1 → lam C u b ≤ lam C u (p2 u)) ∧ ∀ u v : Nat, s + 1 ≤ u → u < P → s + 1 ≤ v → v < P → u ≠ v → (∀ b : Nat, b < s + 1 → lam C u b < lam C u v) → p2 u = p2 v := by
  obtain ⟨hA, hB, _, _⟩ := h
  have ht : t < s := by
    have := (hA s (Nat.le_refl _) hs).1
    omega
  have st : s ≠ t := by omega
  refine ⟨fun u h1 hu => ?_, fun u v h1 hu h3 hv huv hlt => ?_⟩
  · obtain ⟨a1, a2⟩ := hA u (by omega) hu
    rw [h2 u (by omega) hu]
    by_cases z : X u = true ∧ p u = t
    · rw [if_pos z]
      refine ⟨by omega, fun b hb => ?_⟩
      by_cases e : b = s
      · rw [e]
        exact Int.le_refl _
      · have x1 := a2 b (by omega)
        rw [z.2] at x1
        have x2 : lam C u t ≤ C X := lam_le hw (by rw [z.1, hX.2]; decide)
        have x3 := lam_um hw (a := u) (b := t) (c := s) (by omega) (by omega) (by omega)
        have x4 := lam_cm hw (s := t) (t := s) (by omega)
        rcases x3 with g | g <;> omega
    · rw [if_neg z]
      refine ⟨by omega, fun b hb => ?_⟩
      by_cases e : b = s
      · rw [e]
        by_cases w : p u = t
        · have xu : X u = false := by
            cases g : X u
            · rfl
            · exact absurd ⟨g, w⟩ z
          rw [w]
          have x2 : lam C u s ≤ C X := lam_le hw (by rw [xu, hX.1]; decide)
          have x3 := lam_um hw (a := u) (b := s) (c := t) (by omega) (by omega) (by omega)
          rcases x3 with g | g <;> omega
        · rcases Int.lt_or_le (lam C u (p u)) (lam C u s) with g | g
          · have := hB u s (by omega) hu (Nat.le_refl _) hs (by omega) (fun b hb => by
              have := a2 b hb
              omega)
            rw [et] at this
            exact absurd this w
          · exact g
      · exact a2 b (by omega)
  · have e := hB u v (by omega) hu (by omega) hv huv (fun b hb => hlt b (by omega))
    have j := lam_J hw hX hc (u := u) (v := v) (by omega) (by omega) st huv (hlt s (by omega)) (hlt t (by omega))
    rw [h2 u (by omega) hu, h2 v (by omega) hv, e, j]
theorem gh_no (hw : whC C P) (h : ghI C P s p q) (h0 : 1 ≤ s) (hs : s < P) (et : p s = t) (hX : sep s t X) (hc : C X = lam C s t) (h2 : ∀ u : Nat, s < u → u < P → p2 u = if X u = true ∧ p u = t then s else p u) (e1 : p2 s = t) (e2 : q2 s = lam C s t) (e3 : ∀ v : Nat, 1 ≤ v → v < s → p2 v = p v ∧ q2 v = q v) : ghI C P (s + 1) p2 q2 := by
  obtain ⟨gA, gB⟩ := gh_A hw h hs et hX hc h2
  obtain ⟨hA, hB, hE, hF⟩ := h
  obtain ⟨ht, hmx⟩ := hA s (Nat.le_refl _) hs
  rw [et] at ht hmx
  have sub : ∀ (m v y : Nat), y < s → dn p m v y → dn p2 m v y := fun m => by
    induction m with
    | zero => exact fun v y _ g => g
    | succ m ih => exact fun v y hy g => ⟨g.1, by rw [(e3 y (by have := g.1; omega) hy).1]; exact ih v _ (hE y (by have := g.1; omega) hy).1 g.2⟩
  refine ⟨gA, gB, fun v h1 hv => ?_, fun v y h1 hv hy hD => ?_⟩
  · by_cases z : v = s
    · rw [z, e1, e2]
      exact ⟨by omega, by omega, rfl⟩
    · obtain ⟨a, b⟩ := e3 v h1 (by omega)
      obtain ⟨c1, c2, c3⟩ := hE v h1 (by omega)
      rw [a, b]
      exact ⟨by omega, c2, c3⟩
  · by_cases z : v = s
    · by_cases w : y = s
      · rw [z, w] at hD
        exact absurd Dn_rf hD
      · rw [z, e2]
        exact hmx y (by omega)
    · obtain ⟨a, b⟩ := e3 v h1 (by omega)
      rw [b]
      by_cases w : y = s
      · rw [w] at hD ⊢
        have nt : ¬ Dn p v t := fun g => by
          obtain ⟨m, g⟩ := g
          exact hD (Dn_st (by omega) (by rw [e1]; exact ⟨m, sub m v t ht g⟩))
        have vt : v ≠ t := fun g => nt (by rw [g]; exact Dn_rf)
        have f := hF v t h1 (by omega) ht nt
        have x1 := hmx v (by omega)
        have x2 := lam_cm hw (s := v) (t := s) (by omega)
        have x3 := lam_um hw (a := v) (b := s) (c := t) (by omega) (by omega) vt
        rcases x3 with g | g <;> omega
      · exact hF v y h1 (by omega) (by omega) (fun g => by
          obtain ⟨m, g⟩ := g
          exact hD ⟨m, sub m v y (by omega) g⟩)
theorem gh_sw (hw : whC C P) (h : ghI C P s p q) (h0 : 1 ≤ s) (hs : s < P) (et : p s = t) (hX : sep s t X) (hc : C X = lam C s t) (h2 : ∀ u : Nat, s < u → u < P → p2 u = if X u = true ∧ p u = t then s else p u) (t0 : t ≠ 0) (hpt : X (p t) = true) (e1 : p2 s = p t) (e2 : q2 s = q t) (e4 : p2 t = s) (e5 : q2 t = lam C s t) (e3 : ∀ v : Nat, 1 ≤ v → v < s → v ≠ t → p2 v = p v ∧ q2 v = q v) : ghI C P (s + 1) p2 q2 := by
  obtain ⟨gA, gB⟩ := gh_A hw h hs et hX hc h2
  obtain ⟨hA, hB, hE, hF⟩ := h
  obtain ⟨ht, hmx⟩ := hA s (Nat.le_refl _) hs
  rw [et] at ht hmx
  obtain ⟨pt1, pt2, pt3⟩ := hE t (by omega) ht
  have sub : ∀ (m v y : Nat), y < s → dn p m v y → Dn p2 v y := fun m => by
    induction m with
    | zero => exact fun v y _ g => ⟨0, g⟩
    | succ m ih =>
      intro v y hy g
      by_cases w : y = t
      · have r := ih v (p t) pt1 (by rw [← w]; exact g.2)
        rw [w]
        exact Dn_st t0 (by rw [e4]; exact Dn_st (by omega) (by rw [e1]; exact r))
      · have r := ih v (p y) (hE y (by have := g.1; omega) hy).1 g.2
        exact Dn_st g.1 (by rw [(e3 y (by have := g.1; omega) hy w).1]; exact r)
  have lp : lam C t (p t) ≤ lam C s t := by
    rw [← hc, lam_cm hw (fun g => pt2 g.symm)]
    exact lam_le hw (by rw [hpt, hX.2]; decide)
  have cts := lam_cm hw (s := t) (t := s) (by omega)
  have eq : lam C s (p t) = lam C t (p t) := by
    have x1 := hmx (p t) pt1
    have x2 := lam_um hw (a := s) (b := t) (c := p t) (by omega) (fun g => pt2 g.symm) (by omega)
    have x3 := lam_um hw (a := t) (b := s) (c := p t) (by omega) (by omega) (fun g => pt2 g.symm)
    rcases x2 with g | g <;> rcases x3 with g2 | g2 <;> omega
  refine ⟨gA, gB, fun v h1 hv => ?_, fun v y h1 hv hy hD => ?_⟩
  · by_cases z : v = s
    · rw [z, e1, e2]
      exact ⟨by omega, by omega, by omega⟩
    · by_cases w : v = t
      · rw [w, e4, e5]
        exact ⟨by omega, by omega, by omega⟩
      · obtain ⟨a, b⟩ := e3 v h1 (by omega) w
        obtain ⟨c1, c2, c3⟩ := hE v h1 (by omega)
        rw [a, b]
        exact ⟨by omega, c2, c3⟩
  · by_cases z : v = s
    · rw [z] at hD ⊢
      rw [e2]
      by_cases w : y = s
      · rw [w] at hD
        exact absurd Dn_rf hD
      · have nt : ¬ Dn p t y := fun g => by
          obtain ⟨m, g⟩ := g
          have r := Dn_up t0 (sub m t y (by omega) g)
          rw [e4] at r
          exact hD r
        have ty : t ≠ y := fun g => nt (by rw [g]; exact Dn_rf)
        have f := hF t y (by omega) ht (by omega) nt
        have x1 := hmx y (by omega)
        have x2 := lam_um hw (a := t) (b := s) (c := y) (by omega) (by omega) ty
        rcases x2 with g | g <;> omega
    · by_cases w : v = t
      · rw [w] at hD ⊢
        rw [e5]
        by_cases u : y = s
        · rw [u]
          omega
        · have f := hF t y (by omega) ht (by omega) (fun g => by
            obtain ⟨m, g⟩ := g
            exact hD (sub m t y (by omega) g))
          omega
      · obtain ⟨a, b⟩ := e3 v h1 (by omega) w
        rw [b]
        by_cases u : y = s
        · rw [u] at hD ⊢
          have np : ¬ Dn p v (p t) := fun g => by
            obtain ⟨m, g⟩ := g
            exact hD (Dn_st (by omega) (by rw [e1]; exact sub m v (p t) pt1 g))
          have nt : ¬ Dn p v t := fun g => by
            obtain ⟨m, g⟩ := g
            cases m with
            | zero => exact w (Eq.symm g)
            | succ m => exact np ⟨m, g.2⟩
          have f := hF v t h1 (by omega) ht nt
          have x1 := hmx v (by omega)
          have x2 := lam_cm hw (s := v) (t := s) (by omega)
          have x3 := lam_um hw (a := v) (b := s) (c := t) (by omega) (by omega) w
          rcases x3 with g | g <;> omega
        · exact hF v y h1 (by omega) (by omega) (fun g => by
            obtain ⟨m, g⟩ := g
            exact hD (sub m v y (by omega) g))
end GH
noncomputable def qF_ (f : Nat → Int32) (v : Nat) : Int := (f v).toInt
theorem nF_of {f : Nat → Int32} {j k : Nat} (h : (f j).toInt = (k : Int)) : nF f j = k := by
  have c := clI (i := f j) (by omega)
  unfold nF
  omega
theorem gh_gst {C : (Nat → Bool) → Int} {P s : Nat} {nx nu nx2 nu2 : Nat → Int32} (hw : whC C P) (hr : ∀ j : Nat, 1 ≤ j → j < P → 0 ≤ (nx j).toInt) (h : ghI C P s (nF nx) (qF_ nu)) (h0 : 1 ≤ s) (hs : s < P) (hg : gst C P s nx nu nx2 nu2) : ghI C P (s + 1) (nF nx2) (qF_ nu2) ∧ ∀ j : Nat, 1 ≤ j → j < P → 0 ≤ (nx2 j).toInt := by
  obtain ⟨t, m, N, a1, a2, a3, a4, a5, a6⟩ := hg
  have st : s ≠ t := by omega
  obtain ⟨em, _, _⟩ := lam_most hw st a3
  have hc : C (bt N) = lam C s t := by rw [a4.1.2, em]
  have et : nF nx s = t := nF_of a1
  have nn : ∀ j : Nat, 1 ≤ j → j < P → 0 ≤ (nx2 j).toInt := fun j h1 h2 => by
    rw [a5 j h1 h2]
    unfold gsN
    by_cases z : gsw N t nx = true ∧ j = s
    · rw [if_pos z]
      exact hr t (by have := (gsw_t z.1).1; omega) (by omega)
    · rw [if_neg z]
      split
      · omega
      · split
        · omega
        · exact hr j h1 h2
  have up : ∀ u : Nat, s < u → u < P → nF nx2 u = if bt N u = true ∧ nF nx u = t then s else nF nx u := fun u h1 h2 => by
    have e := a5 u (by omega) h2
    unfold gsN at e
    rw [if_neg (show ¬ (gsw N t nx = true ∧ u = s) from fun w => by omega), if_neg (show ¬ (gsw N t nx = true ∧ u = t) from fun w => by omega)] at e
    have cu := clI (i := nx u) (hr u (by omega) h2)
    by_cases z : bt N u = true ∧ nF nx u = t
    · have z2 : (nx u).toInt = (t : Int) := by
        have := z.2
        unfold nF at this
        omega
      rw [if_pos ⟨h1, z.1, z2⟩] at e
      rw [if_pos z]
      exact nF_of e
    · rw [if_neg (fun w => z ⟨w.2.1, nF_of w.2.2⟩)] at e
      rw [if_neg z]
      unfold nF
      rw [Int32.toInt_inj.mp e]
  refine ⟨?_, nn⟩
  cases sw : gsw N t nx
  · have p_ : ∀ v : Nat, 1 ≤ v → v ≤ s → nF nx2 v = nF nx v := fun v h1 h2 => by
      have e := a5 v h1 (by omega)
      unfold gsN at e
      rw [sw, if_neg (show ¬ (false = true ∧ v = s) from fun w => by cases w.1), if_neg (show ¬ (false = true ∧ v = t) from fun w => by cases w.1), if_neg (fun w => by omega)] at e
      unfold nF
      rw [Int32.toInt_inj.mp e]
    refine gh_no hw h h0 hs et a4.1.1 hc up (by rw [p_ s h0 (Nat.le_refl _)]; exact et) ?_ (fun v h1 h2 => ⟨p_ v h1 (by omega), ?_⟩)
    · have e := a6 s h0 (Nat.le_refl _)
      unfold gsU at e
      rw [sw, if_neg (show ¬ (false = true ∧ s = s) from fun w => by cases w.1), if_pos (Or.inr ⟨rfl, rfl⟩)] at e
      exact e.trans em
    · have e := a6 v h1 (by omega)
      unfold gsU at e
      rw [sw, if_neg (show ¬ (false = true ∧ v = s) from fun w => by cases w.1), if_neg (fun w => by
        rcases w with w | w
        · cases w.1
        · omega)] at e
      exact e
  · obtain ⟨t0, hb⟩ := gsw_t sw
    refine gh_sw hw h h0 hs et a4.1.1 hc up t0 hb ?_ ?_ ?_ ?_ (fun v h1 h2 h3 => ⟨?_, ?_⟩)
    · have e := a5 s h0 hs
      unfold gsN at e
      rw [sw, if_pos ⟨rfl, rfl⟩] at e
      unfold nF
      rw [Int32.toInt_inj.mp e]
    · have e := a6 s h0 (Nat.le_refl _)
      unfold gsU at e
      rw [sw, if_pos ⟨rfl, rfl⟩] at e
      exact e
    · have e := a5 t (by omega) (by omega)
      unfold gsN at e
      rw [sw, if_neg (show ¬ (true = true ∧ t = s) from fun w => by omega), if_pos ⟨rfl, rfl⟩] at e
      exact nF_of e
    · have e := a6 t (by omega) (by omega)
      unfold gsU at e
      rw [sw, if_neg (show ¬ (true = true ∧ t = s) from fun w => by omega), if_pos (Or.inl ⟨rfl, rfl⟩)] at e
      exact e.trans em
    · have e := a5 v h1 (by omega)
      unfold gsN at e
      rw [sw, if_neg (show ¬ (true = true ∧ v = s) from fun w => by omega), if_neg (show ¬ (true = true ∧ v = t) from fun w => h3 w.2), if_neg (fun w => by omega)] at e
      unfold nF
      rw [Int32.toInt_inj.mp e]
    · have e := a6 v h1 (by omega)
      unfold gsU at e
      rw [sw, if_neg (show ¬ (true = true ∧ v = s) from fun w => by omega), if_neg (fun w => by
        rcases w with w | w
        · exact h3 w.2
        · cases w.1)] at e
      exact e
theorem gh_gtr {C : (Nat → Bool) → Int} {P : Nat} (hw : whC C P) : ∀ (k : Nat) (nx nu : Nat → Int32), k < P → gtr C P k nx nu → ghI C P (k + 1) (nF nx) (qF_ nu) ∧ ∀ j : Nat, 1 ≤ j → j < P → 0 ≤ (nx j).toInt := by
  intro k
  induction k with
  | zero =>
    intro nx nu _ h
    exact ⟨gh_1 (fun u h1 h2 => nF_of (h u h1 h2)), fun j h1 h2 => by rw [h j h1 h2]; decide⟩
  | succ k ih =>
    intro nx nu hk h
    obtain ⟨mx, mu, g, s⟩ := h
    obtain ⟨a, b⟩ := ih mx mu (by omega) g
    exact gh_gst hw b a (by omega) hk s
/-! ===== ways on the tree ===== -/
noncomputable def ltr (lm : Nat → Nat → Int) (P : Nat) (p : Nat → Nat) (q : Nat → Int) (d : Nat → Nat) : Prop := (∀ a b : Nat, a < P → b < P → a ≠ b → 0 ≤ lm a b ∧ lm a b ≤ 100000 ∧ lm a b = lm b a) ∧ (∀ a b c : Nat, a < P → b < P → c < P → a ≠ b → b ≠ c → a ≠ c → lm a b ≤ lm a c ∨ lm b c ≤ lm a c) ∧ (∀ v : Nat, 1 ≤ v → v < P → p v < P ∧ p v ≠ v ∧ q v = lm v (p v) ∧ d v = d (p v) + 1) ∧ (∀ x y : Nat, x < P → y < P → x ≠ y → d y ≤ d x → lm x y ≤ q x)
theorem lam_bd {C : (Nat → Bool) → Int} {P : Nat} (h : whC C P) {a b : Nat} (hab : a ≠ b) : 0 ≤ lam C a b ∧ lam C a b ≤ 100000 := by
  obtain ⟨⟨S, _, e⟩, _⟩ := lam_sp h hab
  have := h.1 S
  omega
theorem ltr_of {C : (Nat → Bool) → Int} {P : Nat} {fx fu : Nat → Int32} {d : Nat → Nat} (hw : whC C P) (hP : 1 ≤ P ∧ P ≤ 12) (hd : trd fx d) (hg : gtr C P (P - 1) fx fu) : ltr (lam C) P (nF fx) (qF_ fu) d := by
  obtain ⟨⟨_, _, hE, hF⟩, _⟩ := gh_gtr hw (P - 1) fx fu (by omega) hg
  rw [show P - 1 + 1 = P by omega] at hE hF
  have dd : ∀ v : Nat, 1 ≤ v → v < P → d v = d (nF fx v) + 1 := fun v h1 h2 => (hd.2 v h1 (by omega)).2.2.1
  have ch : ∀ (m x y : Nat), y < P → dn (nF fx) m x y → d y = d x + m := fun m => by
    induction m with
    | zero =>
      intro x y _ g
      rw [show y = x from g]
      rfl
    | succ m ih =>
      intro x y hy g
      have a := ih x _ (hE y (by have := g.1; omega) hy).1 g.2
      have b := dd y (by have := g.1; omega) hy
      omega
  refine ⟨fun a b _ _ hab => ⟨(lam_bd hw hab).1, (lam_bd hw hab).2, lam_cm hw hab⟩, fun a b c _ _ _ h1 h2 h3 => lam_um hw h1 h2 h3, fun v h1 h2 => ?_, fun x y hx hy hxy hdd => ?_⟩
  · obtain ⟨a, b, c⟩ := hE v h1 h2
    exact ⟨a, b, c, dd v h1 h2⟩
  · have x1 : 1 ≤ x := by
      rcases Nat.lt_or_ge x 1 with z | z
      · have e : x = 0 := by omega
        rw [e, hd.1] at hdd
        have := dd y (by omega) hy
        omega
      · exact z
    exact hF x y x1 hx hy (fun g => by
      obtain ⟨m, g⟩ := g
      have a := ch m x y hy g
      have m0 : m = 0 := by omega
      rw [m0] at g
      exact hxy (Eq.symm g))
/-- underway from a and b -/
noncomputable def low (lm : Nat → Nat → Int) (a b x y : Nat) (m : Int) : Prop := (x = y → m = lm a b) ∧ (x ≠ y → (m < lm x y ∧ m = lm a b) ∨ (lm x y ≤ m ∧ lm x y = lm a b))
section LOW
variable {lm : Nat → Nat → Int} {P a b x y : Nat} {p : Nat → Nat} {q : Nat → Int} {d : Nat → Nat} {m m2 : Int}
theorem low_0 (h : ltr lm P p q d) (ha : a < P) (hb : b < P) (hab : a ≠ b) : low lm a b a b (1000000000 : Int32).toInt := by
  have z : (1000000000 : Int32).toInt = 1000000000 := by decide
  have := (h.1 a b ha hb hab).2.1
  exact ⟨fun e => absurd e hab, fun _ => Or.inr ⟨by omega, rfl⟩⟩
theorem low_x (h : ltr lm P p q d) (hx : x < P) (hy : y < P) (hl : low lm a b x y m) (hxy : x ≠ y) (hd : d y ≤ d x) (x1 : 1 ≤ x) (hm : (m2 = m ∧ m ≤ q x) ∨ (m2 = q x ∧ q x ≤ m)) : low lm a b (p x) y m2 := by
  obtain ⟨h1, h2, h3, h4⟩ := h
  obtain ⟨p1, p2, p3, _⟩ := h3 x x1 hx
  have le := h4 x y hx hy hxy hd
  have c := hl.2 hxy
  constructor
  · intro e
    rw [e] at p3
    rcases c with c | c <;> omega
  · intro ne
    have u1 := h2 x (p x) y hx p1 hy (fun g => p2 g.symm) ne hxy
    have u2 := h2 (p x) x y p1 hx hy p2 hxy ne
    have s1 := (h1 x (p x) hx p1 (fun g => p2 g.symm)).2.2
    rcases u1 with u1 | u1 <;> rcases u2 with u2 | u2 <;> rcases c with c | c <;> omega
theorem low_cm (h : ltr lm P p q d) (hx : x < P) (hy : y < P) (hl : low lm a b x y m) : low lm a b y x m := by
  refine ⟨fun e => hl.1 e.symm, fun ne => ?_⟩
  have s1 := (h.1 x y hx hy (fun g => ne g.symm)).2.2
  have c := hl.2 (fun g => ne g.symm)
  omega
end LOW
/-- the least of the tree's numbers -/
noncomputable def lnm (q : Nat → Int) (k : Int) (r : Int) : Prop := (∀ i : Nat, 1 ≤ i → (i : Int) < k → r ≤ q i) ∧ (r = 1000000000 ∨ ∃ i : Nat, 1 ≤ i ∧ (i : Int) < k ∧ r = q i)
theorem lnm_0 {q : Nat → Int} : lnm q (1 : Int32).toInt (1000000000 : Int32).toInt := by
  have z : (1000000000 : Int32).toInt = 1000000000 := by decide
  have z1 : (1 : Int32).toInt = 1 := by decide
  exact ⟨fun i h1 h2 => by omega, Or.inl z⟩
theorem lnm_st {q : Nat → Int} {k k2 : Int32} {r r2 : Int} (h : lnm q k.toInt r) (h1 : 1 ≤ k.toInt) (e : k2.toInt = k.toInt + 1) (hm : (r2 = r ∧ r ≤ q k.toNatClampNeg) ∨ (r2 = q k.toNatClampNeg ∧ q k.toNatClampNeg ≤ r)) : lnm q k2.toInt r2 := by
  have c := clI (i := k) (by omega)
  refine ⟨fun i g1 g2 => ?_, ?_⟩
  · by_cases z : i = k.toNatClampNeg
    · rw [z]
      omega
    · have := h.1 i g1 (by omega)
      omega
  · rcases hm with ⟨a, b⟩ | ⟨a, b⟩
    · rcases h.2 with w | ⟨i, w1, w2, w3⟩
      · exact Or.inl (by omega)
      · exact Or.inr ⟨i, w1, by omega, by omega⟩
    · exact Or.inr ⟨k.toNatClampNeg, by omega, by omega, a⟩
/-- the least of all cuts -/
noncomputable def gmn (lm : Nat → Nat → Int) (P : Nat) (r : Int) : Prop := (∀ a b : Nat, a < P → b < P → a ≠ b → r ≤ lm a b) ∧ ∃ a b : Nat, a < P ∧ b < P ∧ a ≠ b ∧ r = lm a b
theorem gmn_tree {lm : Nat → Nat → Int} {P : Nat} {p : Nat → Nat} {q : Nat → Int} {d : Nat → Nat} {r : Int} (h : ltr lm P p q d) (hP : 2 ≤ P) (hr : lnm q P r) : gmn lm P r := by
  obtain ⟨h1, h2, h3, h4⟩ := h
  have root : ∀ n v : Nat, d v ≤ n → 1 ≤ v → v < P → r ≤ lm v 0 := fun n => by
    induction n with
    | zero =>
      intro v hn v1 v2
      have := (h3 v v1 v2).2.2.2
      omega
    | succ n ih =>
      intro v hn v1 v2
      obtain ⟨a1, a2, a3, a4⟩ := h3 v v1 v2
      have g := hr.1 v v1 (by omega)
      by_cases z : p v = 0
      · rw [z] at a3
        omega
      · have k := ih (p v) (by omega) (by omega) a1
        have u := h2 v (p v) 0 v2 a1 (by omega) (fun e => a2 e.symm) z (by omega)
        rcases u with u | u <;> omega
  have all : ∀ v : Nat, 1 ≤ v → v < P → r ≤ lm v 0 := fun v => root (d v) v (Nat.le_refl _)
  refine ⟨fun a b ha hb hab => ?_, ?_⟩
  · by_cases za : a = 0
    · rw [za, (h1 0 b (by omega) hb (by omega)).2.2]
      exact all b (by omega) hb
    · by_cases zb : b = 0
      · rw [zb]
        exact all a (by omega) ha
      · have u := h2 a 0 b ha (by omega) hb za (by omega) hab
        have s := (h1 0 b (by omega) hb (by omega)).2.2
        have x := all a (by omega) ha
        have y := all b (by omega) hb
        rcases u with u | u <;> omega
  · rcases hr.2 with w | ⟨i, w1, w2, w3⟩
    · have x := all 1 (by omega) (by omega)
      have := (h1 1 0 (by omega) (by omega) (by omega)).2.1
      omega
    · obtain ⟨a1, a2, a3, _⟩ := h3 i w1 (by omega)
      exact ⟨i, p i, by omega, a1, fun e => a2 e.symm, by omega⟩
theorem gmn_ref {C : (Nat → Bool) → Int} {P : Nat} {r : Int} (hw : whC C P) (hP : 2 ≤ P) (h1 : ∀ v : Nat, 1 ≤ v → v < P → r ≤ lam C v 0) (h2 : ∃ v : Nat, 1 ≤ v ∧ v < P ∧ r = lam C v 0) : gmn (lam C) P r := by
  refine ⟨fun a b ha hb hab => ?_, ?_⟩
  · by_cases za : a = 0
    · rw [za, lam_cm hw (by omega)]
      exact h1 b (by omega) hb
    · by_cases zb : b = 0
      · rw [zb]
        exact h1 a (by omega) ha
      · have u := lam_um hw (a := a) (b := 0) (c := b) za (by omega) hab
        have s := lam_cm hw (s := 0) (t := b) (by omega)
        have x := h1 a (by omega) ha
        have y := h1 b (by omega) hb
        rcases u with u | u <;> omega
  · obtain ⟨v, a, b, c⟩ := h2
    exact ⟨v, 0, b, by omega, by omega, c⟩
/-- the reference's least, underway -/
noncomputable def lsW (C : (Nat → Bool) → Int) (k r : Int) : Prop := (∀ v : Nat, 1 ≤ v → (v : Int) < k → r ≤ lam C v 0) ∧ (r = 1000000 ∨ ∃ v : Nat, 1 ≤ v ∧ (v : Int) < k ∧ r = lam C v 0)
theorem lsW_0 {C : (Nat → Bool) → Int} : lsW C (1 : Int32).toInt (1000000 : Int32).toInt := by
  have z : (1000000 : Int32).toInt = 1000000 := by decide
  have z1 : (1 : Int32).toInt = 1 := by decide
  exact ⟨fun i h1 h2 => by omega, Or.inl z⟩
theorem lsW_st {C : (Nat → Bool) → Int} {k k2 : Int32} {r r2 n : Int} (h : lsW C k.toInt r) (h1 : 1 ≤ k.toInt) (e : k2.toInt = k.toInt + 1) (hn : n = lam C k.toNatClampNeg 0) (hm : (r2 = r ∧ r ≤ n) ∨ (r2 = n ∧ n ≤ r)) : lsW C k2.toInt r2 := by
  have c := clI (i := k) (by omega)
  refine ⟨fun i g1 g2 => ?_, ?_⟩
  · by_cases z : i = k.toNatClampNeg
    · rw [z]
      omega
    · have := h.1 i g1 (by omega)
      omega
  · rcases hm with ⟨a, b⟩ | ⟨a, b⟩
    · rcases h.2 with w | ⟨i, w1, w2, w3⟩
      · exact Or.inl (by omega)
      · exact Or.inr ⟨i, w1, by omega, by omega⟩
    · exact Or.inr ⟨k.toNatClampNeg, by omega, by omega, by omega⟩
theorem lsW_end {C : (Nat → Bool) → Int} {P : Int32} {r k : Int} (hw : whC C P.toNatClampNeg) (hP : 2 ≤ P.toInt) (h : lsW C k r) (hk : k = P.toInt) : gmn (lam C) P.toNatClampNeg r := by
  have c := clI (i := P) (by omega)
  refine gmn_ref hw (by omega) (fun v h1 h2 => h.1 v h1 (by omega)) ?_
  rcases h.2 with w | ⟨v, w1, w2, w3⟩
  · have x := h.1 1 (by omega) (by omega)
    have := (lam_bd hw (show 1 ≠ 0 by omega)).2
    omega
  · exact ⟨v, w1, by omega, w3⟩
/-! between(), least() -/
noncomputable def btI (a b P c : Int) : Int := if whI P c = 0 then -2 else if ¬ ((0 ≤ a ∧ a < P) ∧ (0 ≤ b ∧ b < P) ∧ a ≠ b) then -1 else 0
end

section
set_option maxHeartbeats 4000000 in
set_option maxRecDepth 100000 in
theorem c_X1_leastOnWay2 (l : Launch) (D : va_G) (cy : Nat → ClassId) (sz : Nat) (xt : Nat) (xc : Nat) (ta : Nat) (tb : Nat) (fx : Nat → Int32) (d : Nat → Nat) (lm : Nat → Nat → Int) (P_ : Nat) (fu : Nat → Int32) (a1 : Int32) (a2 : Int32) (htr : trd fx d) (q1 : 0 ≤ a1.toInt ∧ a1.toInt < (P_ : Int)) (q2 : 0 ≤ a2.toInt ∧ a2.toInt < (P_ : Int)) (hP12 : P_ ≤ 12) (hL : ltr lm P_ (nF fx) (qF_ fu) d) : Met l yX1_leastOnWay wsX1_leastOnWay ({ frames := 1, cells := 0, slots := 0, locals := 23 }) (va_Pc [.ref xt, .int a1, .int a2] (fun U => U.heap.size = sz ∧ va_P D vwCl [ob1_0_ xt xc ta tb, ai_ cy ta 12 fx, ai_ cy tb 12 fu] U.heap ∧ kk_ D cy U ∧ va_D (fun _ => True) [ob1_0_ xt xc ta tb, ai_ cy ta 12 fx, ai_ cy tb 12 fu])) (va_Qi (fun (r : Int32) (_ : Unit) => (a1.toInt ≠ a2.toInt → r.toInt = lm a1.toNatClampNeg a2.toNatClampNeg) ∧ (a1.toInt = a2.toInt → r.toInt = 1000000000)) (fun (_ : Unit) (_ : State) => True) (va_A [] sz)) 0 0 (va_A [] sz) := by
  refine ofQ (cc := cX1_leastOnWay) (maxL := 9) (ret := (some .int)) (by decide) rfl ?_
  intro p e s m args below meth c s₁ Q hQ B hml hv
  obtain ⟨rfl, hsz, hP, hK, hD0⟩ := hv
  have hx := B.exec
  have hb := B.bytes
  have hr := B.returns
  have hts := atoms_spec (ws := wsX1_leastOnWay) B.pre
  have hown : s.vm.findClass RX1 = some m.cls := by have h_ := findClass_of_methodNamed B.named; exact h_
  have hlocks := B.notSynchronized
  subst hsz
  have hD : va_D (va_A [] s.heap.size) [] := dd_nil
  generalize hAe : va_A [] s.heap.size = A at hD hQ
  have hA : ∀ q : Nat, s.heap.size ≤ q → A q := fun q h => by rw [← hAe]; exact Or.inr h
  have hS : va_S A s.heap s.heap [] := va_S.rf
  have hl := lv_entry ([.ref xt, .int a1, .int a2]) (n := 9) (Nat.le_of_ble_eq_true rfl)
  rw [lg_entry_eq]
  generalize (lg_sl ([.ref xt, .int a1, .int a2]) ++ List.replicate (9 - (lg_sl ([.ref xt, .int a1, .int a2])).length) Slot.unset).toArray = ls at hl ⊢
  have hl : lv_has ls 9 [(0, .ref xt), (1, .int a1), (2, .int a2)] := hl
  have zm1 : ((-1) : Int32).toInt = -1 := by decide
  have z0 : (0 : Int32).toInt = 0 := by decide
  have z1 : (1 : Int32).toInt = 1 := by decide
  have z24 : (24 : Int32).toInt = 24 := by decide
  have z1000000000 : (1000000000 : Int32).toInt = 1000000000 := by decide
  have za := trd_z htr (x := a1) (by omega) (by omega)
  have zb := trd_z htr (x := a2) (by omega) (by omega)
  have ca_ := clI (i := a1) (by omega)
  have cb_ := clI (i := a2) (by omega)
  refine lv_ldc (v := 1000000000) hx hb hown (hts (.constant RX1 54 (1000000000)) (List.mem_of_getElem? (i := 1) rfl)) dB_36_0_58.1.1.1.1 ?_
  refine lv_istore_n (lv' := [(3, .int 1000000000), (0, .ref xt), (1, .int a1), (2, .int a2)]) hx hb dB_36_0_58.1.1.1.2 rfl hl (by decide) rfl (fun ls hl => ?_)
  refine lv_iload_n hx hb dB_36_0_58.1.1.2.1 rfl (lv_at hl 2 rfl) ?_
  refine lv_istore (lv' := [(4, .int a1), (3, .int 1000000000), (0, .ref xt), (1, .int a1), (2, .int a2)]) hx hb dB_36_0_58.1.1.2.2 hl (by decide) rfl (fun ls hl => ?_)
  refine lv_iload_n hx hb dB_36_0_58.1.2.1.1 rfl (lv_at hl 4 rfl) ?_
  refine lv_istore (lv' := [(5, .int a2), (4, .int a1), (3, .int 1000000000), (0, .ref xt), (1, .int a1), (2, .int a2)]) hx hb dB_36_0_58.1.2.1.2 hl (by decide) rfl (fun ls hl => ?_)
  refine lv_aload_n hx hb dB_36_0_58.1.2.2.1 rfl (lv_at hl 3 rfl) ?_
  refine lv_iload_n hx hb dB_36_0_58.1.2.2.2 rfl (lv_at hl 4 rfl) ?_
  refine ct_R hP hD0 [ob1_0_ xt xc ta tb, ai_ cy ta 12 fx] [0, 1] (by decide) rfl (fun hPc hDw => ?_)
  have hFc := va_free (wc := []) hD hS hA [] rfl
  refine va_calli (va_runV (As := [.int a1]) (rest := []) ⟨hx, hb, hml, hown, hts⟩ (c_X1_stepsToRoot l D cy s.heap.size xt xc ta tb fx d a1 (by first | with_reducible assumption | assumption | omega) (by first | with_reducible assumption | omega | assumption)) (cwV 1 hts gX1_leastOnWay_X1_stepsToRoot rfl rfl rfl ⟨rfl, hd_X1_stepsToRoot⟩ ⟨Nat.le_of_ble_eq_true rfl, Nat.le_of_ble_eq_true rfl⟩) ⟨bl_, va_recvX hK.1 hP (ci := 1) (q0 := 0) rfl rfl, fun U hU hW => ⟨rfl, by rw [hU], by rw [hU]; exact hPc, kk_mv hW hK, hDw⟩⟩ rfl rfl hl.1 rfl (lv_room (Nat.le_of_ble_eq_true rfl)) dB_36_0_58.2.1.1.1 ⟨Nat.le_of_ble_eq_true rfl, Nat.le_of_ble_eq_true rfl⟩) hS (fun q _ h => hFc q h) hFc (fun r_1 u t H locs ht hvm hw hB hz1 hk1 hS => ?_)
  have hP : va_P D vwCl _ H := ro_keep hP hk1
  have f0_r_1 := hw
  refine lv_istore (lv' := [(6, .int r_1), (5, .int a2), (4, .int a1), (3, .int 1000000000), (0, .ref xt), (1, .int a1), (2, .int a2)]) hx hb dB_36_0_58.2.1.1.2 hl (by decide) rfl (fun ls hl => ?_)
  refine lv_aload_n hx hb dB_36_0_58.2.1.2.1 rfl (lv_at hl 4 rfl) ?_
  refine lv_iload_n hx hb dB_36_0_58.2.1.2.2 rfl (lv_at hl 6 rfl) ?_
  refine ct_R hP hD0 [ob1_0_ xt xc ta tb, ai_ cy ta 12 fx] [0, 1] (by decide) rfl (fun hPc hDw => ?_)
  have hFc := va_free (wc := []) hD hS hA [] rfl
  refine va_calli (va_runV (As := [.int a2]) (rest := []) ⟨hx, hb, hml, hown, hts⟩ (c_X1_stepsToRoot l D cy H.size xt xc ta tb fx d a2 (by first | with_reducible assumption | assumption | omega) (by first | with_reducible assumption | omega | assumption)) (cwV 1 hts gX1_leastOnWay_X1_stepsToRoot rfl rfl rfl ⟨rfl, hd_X1_stepsToRoot⟩ ⟨Nat.le_of_ble_eq_true rfl, Nat.le_of_ble_eq_true rfl⟩) ⟨bl_, va_recvX hK.1 hP (ci := 1) (q0 := 0) rfl rfl, fun U hU hW => ⟨rfl, by rw [hU], by rw [hU]; exact hPc, kk_mv hW hK, hDw⟩⟩ rfl rfl hl.1 rfl (lv_room (Nat.le_of_ble_eq_true rfl)) dB_36_0_58.2.2.1.1 ⟨Nat.le_of_ble_eq_true rfl, Nat.le_of_ble_eq_true rfl⟩) hS (fun q _ h => hFc q h) hFc (fun r_2 u t H locs ht hvm hw hB hz1 hk1 hS => ?_)
  have hP : va_P D vwCl _ H := ro_keep hP hk1
  have f0_r_2 := hw
  refine lv_istore (lv' := [(7, .int r_2), (6, .int r_1), (5, .int a2), (4, .int a1), (3, .int 1000000000), (0, .ref xt), (1, .int a1), (2, .int a2)]) hx hb dB_36_0_58.2.2.1.2 hl (by decide) rfl (fun ls hl => ?_)
  refine lv_iconst (v := 0) hx hb dB_36_0_58.2.2.2.1 (by decide) ?_
  refine lv_istore (lv' := [(8, .int 0), (7, .int r_2), (6, .int r_1), (5, .int a2), (4, .int a1), (3, .int 1000000000), (0, .ref xt), (1, .int a1), (2, .int a2)]) hx hb dB_36_0_58.2.2.2.2 hl (by decide) rfl (fun ls hl => ?_)
  suffices LOOP_3 : ∀ (n_3 : Nat) (x8_3 : Int32) (x7_3 : Int32) (x6_3 : Int32) (x5_3 : Int32) (x4_3 : Int32) (x3_3 : Int32) (H : Heap) (locs : List Loc) (ls : Array Slot), 24 - x8_3.toInt < (n_3 : Int) → (0 ≤ x4_3.toInt ∧ x4_3.toInt < (P_ : Int)) → (0 ≤ x5_3.toInt ∧ x5_3.toInt < (P_ : Int)) → (x6_3.toInt = (d x4_3.toNatClampNeg : Int)) → (x7_3.toInt = (d x5_3.toNatClampNeg : Int)) → (0 ≤ x8_3.toInt) → (x8_3.toInt + x6_3.toInt + x7_3.toInt ≤ 22) → (a1.toInt ≠ a2.toInt → low lm a1.toNatClampNeg a2.toNatClampNeg x4_3.toNatClampNeg x5_3.toNatClampNeg x3_3.toInt) → (a1.toInt = a2.toInt → x4_3.toInt = x5_3.toInt ∧ x3_3.toInt = 1000000000) → va_P D vwCl [ob1_0_ xt xc ta tb, ai_ cy ta 12 fx, ai_ cy tb 12 fu] H → va_S A s.heap H locs → lv_has ls 9 [(8, .int x8_3), (7, .int x7_3), (6, .int x6_3), (5, .int x5_3), (4, .int x4_3), (3, .int x3_3), (0, .ref xt), (1, .int a1), (2, .int a2)] → W p l e ({ frames := 1, cells := 0, slots := 0, locals := 23 } : Room) s m (([.ref xt, .int a1, .int a2] : List Value).toArray) below meth c H locs 0 0 Q (F0 m 26 ls []) from LOOP_3 ((24 - (0 : Int32).toInt).toNat + 1) (0 : Int32) r_2 r_1 a2 a1 (1000000000 : Int32) _ _ _ (by omega) (by first | with_reducible assumption | omega | assumption) (by first | with_reducible assumption | omega | assumption) (by first | with_reducible assumption | omega | assumption) (by first | with_reducible assumption | omega | assumption) (by first | with_reducible assumption | omega | assumption) (by first | with_reducible assumption | omega | assumption) (by first | exact fun h => low_0 hL (by omega) (by omega) (by omega) | exact fun _ => hlo_) (by first | exact fun h => ⟨by omega, by decide⟩ | exact fun h => absurd h hne_) hP hS (lv_sub hl [0, 1, 2, 3, 4, 5, 6, 7, 8] rfl)
  intro n_3
  induction n_3 with
  | zero =>
    intro x8_3 x7_3 x6_3 x5_3 x4_3 x3_3 H locs ls hm v0_3 v1_3 v2_3 v3_3 v4_3 v5_3 v6_3 v7_3 hP hS hl
    exact absurd hm (by omega)
  | succ n_3 ih_3 =>
    intro x8_3 x7_3 x6_3 x5_3 x4_3 x3_3 H locs ls hm v0_3 v1_3 v2_3 v3_3 v4_3 v5_3 v6_3 v7_3 hP hS hl
    refine lv_iload hx hb dB_36_0_59.1.1.1.1 (lv_at hl 0 rfl) ?_
    refine lv_bipush (v := 24) hx hb dB_36_0_59.1.1.1.2 (by decide) ?_
    refine lv_icmp_ge (tgt := 104) hx hb dB_36_0_59.1.1.2.1 (by decide) (fun c_4 => ?_) (fun c_4 => ?_)
    · have t_4 : (24 : Int32).toInt ≤ x8_3.toInt := Int32.le_iff_toInt_le.mp c_4
      refine lv_iload_n hx hb dB_36_0_61.2.2.1 rfl (lv_at hl 5 rfl) ?_
      rw [hQ]
      exact W.iret (v := x3_3) hx hb hr (fun t ht hW => ⟨⟨x3_3, (), rfl, ⟨fun h_ => (v6_3 h_).1 (congrArg Int32.toNatClampNeg (Int32.toInt_inj.mp (by omega))), fun h_ => (v7_3 h_).2⟩, trivial⟩, hS.F ht⟩) hS.2.2 dB_36_0_61.2.2.2
    · have t_4 : ¬ (24 : Int32).toInt ≤ x8_3.toInt := fun h => c_4 (Int32.le_iff_toInt_le.mpr h)
      refine lv_iload hx hb dB_36_0_59.1.1.2.2 (lv_at hl 4 rfl) ?_
      refine lv_iload hx hb dB_36_0_59.1.2.1.1 (lv_at hl 3 rfl) ?_
      refine lv_icmp_eq (tgt := 104) hx hb dB_36_0_59.1.2.1.2 (by decide) (fun c_5 => ?_) (fun c_5 => ?_)
      · have t_5 : x4_3.toInt = x5_3.toInt := congrArg Int32.toInt c_5
        refine lv_iload_n hx hb dB_36_0_61.2.2.1 rfl (lv_at hl 5 rfl) ?_
        rw [hQ]
        exact W.iret (v := x3_3) hx hb hr (fun t ht hW => ⟨⟨x3_3, (), rfl, ⟨fun h_ => (v6_3 h_).1 (congrArg Int32.toNatClampNeg (Int32.toInt_inj.mp (by omega))), fun h_ => (v7_3 h_).2⟩, trivial⟩, hS.F ht⟩) hS.2.2 dB_36_0_61.2.2.2
      · have t_5 : ¬ x4_3.toInt = x5_3.toInt := fun h => c_5 (Int32.toInt_inj.mp h)
        have z4_ := trd_z htr (x := x4_3) (by omega) (by omega)
        have z5_ := trd_z htr (x := x5_3) (by omega) (by omega)
        have c4_ := clI (i := x4_3) (by omega)
        have c5_ := clI (i := x5_3) (by omega)
        have hxy_ := nc_ne (x := x4_3) (y := x5_3) (by omega) (by omega) (by omega)
        have hne_ : a1.toInt ≠ a2.toInt := fun e_ => absurd (v7_3 e_).1 (by omega)
        have hv6_ := v6_3 hne_
        refine lv_iload hx hb dB_36_0_59.1.2.2.1 (lv_at hl 2 rfl) ?_
        refine lv_iload hx hb dB_36_0_59.1.2.2.2 (lv_at hl 1 rfl) ?_
        refine lv_icmp_lt (tgt := 74) hx hb dB_36_0_59.2.1.1.1 (by decide) (fun c_6 => ?_) (fun c_6 => ?_)
        · have t_6 : x6_3.toInt < x7_3.toInt := Int32.lt_iff_toInt_lt.mp c_6
          have p5_ : 1 ≤ x5_3.toInt := by omega
          have cx_ := clI (i := x5_3) (by omega)
          have hx_ := htr.2 x5_3.toNatClampNeg (by omega) (by omega)
          have hpx_ := hL.2.2.1 x5_3.toNatClampNeg (by omega) (by omega)
          refine lv_iload_n hx hb dB_36_0_60.1.2.2.2 rfl (lv_at hl 5 rfl) ?_
          refine lv_aload_n hx hb dB_36_0_60.2.1.1.1 rfl (lv_at hl 6 rfl) ?_
          refine va_get (ci := 1) (v := .ref tb) (C := RX1) (T := TX1) (N := 3) hx hb hts (fun _ h => List.mem_cons_of_mem _ (List.mem_append_right _ h)) hown hK.1 hP 0 rfl rfl 2 (by decide) (hts (.fieldLink RX1 15 "CutAtlas$CutTree" "numbers" "[I") (List.mem_of_getElem? (i := 2) rfl)) (fun _ h9 => h9) rfl dB_36_0_60.2.1.1.2 ?_
          refine lv_iload hx hb dB_36_0_60.2.1.2.1 (lv_at hl 3 rfl) ?_
          have h_7 : vp_in x5_3 12 := in_I (by first | with_reducible assumption | omega) (by omega)
          refine va_iald hx hb hK.1 hP 2 0 rfl rfl (i := x5_3) h_7 dB_36_0_60.2.1.2.2 ?_
          refine lv_topi (fun y_8 ey_8 => ?_)
          have ky_8 : y_8.toInt = (fu x5_3.toNatClampNeg).toInt := by rw [ey_8]
          have kq_ : y_8.toInt = qF_ fu x5_3.toNatClampNeg := by rw [ey_8]; rfl
          refine va_mmin hx hb (by rw [hml]; exact hl.1.symm) hown (hts (.methodLink RX1 58 Lib.Math.min.name) (List.mem_of_getElem? (i := 3) rfl)) (hts (.static Lib.Math.min.name) (List.mem_of_getElem? (i := 4) rfl)) (hts (.initialized "java/lang/Math") (List.mem_of_getElem? (i := 5) rfl)) (hts (.code Lib.Math.min.name Lib.Math.min.code 2 (some .int)) (List.mem_of_getElem? (i := 6) rfl)) (Nat.le_of_ble_eq_true rfl) (Nat.le_of_ble_eq_true rfl) (Nat.le_of_ble_eq_true rfl) (Nat.le_of_ble_eq_true rfl) dB_36_0_60.2.2.1.1 ?_
          refine lv_topi (fun y_9 ey_9 => ?_)
          have ty_9 : y_9 = x3_3 ∨ y_9 = y_8 := by rw [ey_9]; split <;> simp
          have iy_9 : y_9.toInt = x3_3.toInt ∨ y_9.toInt = y_8.toInt := by rcases ty_9 with h | h <;> rw [h] <;> simp
          have hmn_ : (y_9.toInt = x3_3.toInt ∧ x3_3.toInt ≤ qF_ fu x5_3.toNatClampNeg) ∨ (y_9.toInt = qF_ fu x5_3.toNatClampNeg ∧ qF_ fu x5_3.toNatClampNeg ≤ x3_3.toInt) := by have h_ := mnI ey_9; unfold loI at h_; split at h_ <;> omega
          refine lv_istore_n (lv' := [(3, .int y_9), (8, .int x8_3), (7, .int x7_3), (6, .int x6_3), (5, .int x5_3), (4, .int x4_3), (0, .ref xt), (1, .int a1), (2, .int a2)]) hx hb dB_36_0_60.2.2.1.2 rfl hl (by decide) rfl (fun ls hl => ?_)
          refine lv_aload_n hx hb dB_36_0_60.2.2.2.1 rfl (lv_at hl 6 rfl) ?_
          refine va_get (ci := 1) (v := .ref ta) (C := RX1) (T := TX1) (N := 3) hx hb hts (fun _ h => List.mem_cons_of_mem _ (List.mem_append_right _ h)) hown hK.1 hP 0 rfl rfl 1 (by decide) (hts (.fieldLink RX1 9 "CutAtlas$CutTree" "nexts" "[I") (List.mem_of_getElem? (i := 7) rfl)) (fun _ h9 => h9) rfl dB_36_0_60.2.2.2.2 ?_
          refine lv_iload hx hb dB_36_0_61.1.1.1 (lv_at hl 4 rfl) ?_
          refine va_iald hx hb hK.1 hP 1 0 rfl rfl (i := x5_3) h_7 dB_36_0_61.1.1.2 ?_
          refine lv_topi (fun y_11 ey_11 => ?_)
          have ky_11 : y_11.toInt = (fx x5_3.toNatClampNeg).toInt := by rw [ey_11]
          have hd_ : d x5_3.toNatClampNeg = d y_11.toNatClampNeg + 1 := by rw [ey_11]; exact hx_.2.2.1
          have hxc_ : nF fx x5_3.toNatClampNeg = y_11.toNatClampNeg := by rw [ey_11]; rfl
          rw [hxc_] at hpx_
          have ct_ := clI (i := y_11) (by omega)
          have hlo_ : low lm a1.toNatClampNeg a2.toNatClampNeg x4_3.toNatClampNeg y_11.toNatClampNeg y_9.toInt := by have h_ := low_x hL (by omega) (by omega) (low_cm hL (by omega) (by omega) hv6_) (fun g => hxy_ g.symm) (by omega) (by omega) hmn_; rw [hxc_] at h_; exact low_cm hL (by omega) (by omega) h_
          refine lv_istore (lv' := [(5, .int y_11), (3, .int y_9), (8, .int x8_3), (7, .int x7_3), (6, .int x6_3), (4, .int x4_3), (0, .ref xt), (1, .int a1), (2, .int a2)]) hx hb dB_36_0_61.1.2.1 hl (by decide) rfl (fun ls hl => ?_)
          obtain ⟨y_12, ey_12⟩ : ∃ y : Int32, y = x7_3 + (-1) := ⟨_, rfl⟩
          have ty_12 : y_12.toInt = x7_3.toInt + ((-1) : Int32).toInt := by rw [ey_12]; exact addI (by omega) (by omega)
          refine lv_iinc (v := y_12) (lv' := [(7, .int y_12), (5, .int y_11), (3, .int y_9), (8, .int x8_3), (6, .int x6_3), (4, .int x4_3), (0, .ref xt), (1, .int a1), (2, .int a2)]) hx hb dB_36_0_61.1.2.2 hl (k := 3) rfl (by rw [ey_12]; rfl) (by decide) rfl (fun ls hl => ?_)
          obtain ⟨y_13, ey_13⟩ : ∃ y : Int32, y = x8_3 + 1 := ⟨_, rfl⟩
          have ty_13 : y_13.toInt = x8_3.toInt + (1 : Int32).toInt := by rw [ey_13]; exact addI (by omega) (by omega)
          refine lv_iinc (v := y_13) (lv' := [(8, .int y_13), (7, .int y_12), (5, .int y_11), (3, .int y_9), (6, .int x6_3), (4, .int x4_3), (0, .ref xt), (1, .int a1), (2, .int a2)]) hx hb dB_36_0_61.2.1.1 hl (k := 3) rfl (by rw [ey_13]; rfl) (by decide) rfl (fun ls hl => ?_)
          refine lv_goto (tgt := 26) hx hb dB_36_0_61.2.1.2 (by decide) ?_
          exact ih_3 y_13 y_12 x6_3 y_11 x4_3 y_9 _ _ _ (by omega) (by first | with_reducible assumption | omega | assumption) (by first | with_reducible assumption | omega | assumption) (by first | with_reducible assumption | omega | assumption) (by first | with_reducible assumption | omega | assumption) (by first | with_reducible assumption | omega | assumption) (by first | with_reducible assumption | omega | assumption) (by first | exact fun h => low_0 hL (by omega) (by omega) (by omega) | exact fun _ => hlo_) (by first | exact fun h => ⟨by omega, by decide⟩ | exact fun h => absurd h hne_) hP hS (lv_sub hl [0, 1, 4, 2, 5, 3, 6, 7, 8] rfl)
        · have t_6 : ¬ x6_3.toInt < x7_3.toInt := fun h => c_6 (Int32.lt_iff_toInt_lt.mpr h)
          have p4_ : 1 ≤ x4_3.toInt := by omega
          have cx_ := clI (i := x4_3) (by omega)
          have hx_ := htr.2 x4_3.toNatClampNeg (by omega) (by omega)
          have hpx_ := hL.2.2.1 x4_3.toNatClampNeg (by omega) (by omega)
          refine lv_iload_n hx hb dB_36_0_59.2.1.1.2 rfl (lv_at hl 5 rfl) ?_
          refine lv_aload_n hx hb dB_36_0_59.2.1.2.1 rfl (lv_at hl 6 rfl) ?_
          refine va_get (ci := 1) (v := .ref tb) (C := RX1) (T := TX1) (N := 3) hx hb hts (fun _ h => List.mem_cons_of_mem _ (List.mem_append_right _ h)) hown hK.1 hP 0 rfl rfl 2 (by decide) (hts (.fieldLink RX1 15 "CutAtlas$CutTree" "numbers" "[I") (List.mem_of_getElem? (i := 2) rfl)) (fun _ h9 => h9) rfl dB_36_0_59.2.1.2.2 ?_
          refine lv_iload hx hb dB_36_0_59.2.2.1.1 (lv_at hl 4 rfl) ?_
          have h_14 : vp_in x4_3 12 := in_I (by first | with_reducible assumption | omega) (by omega)
          refine va_iald hx hb hK.1 hP 2 0 rfl rfl (i := x4_3) h_14 dB_36_0_59.2.2.1.2 ?_
          refine lv_topi (fun y_15 ey_15 => ?_)
          have ky_15 : y_15.toInt = (fu x4_3.toNatClampNeg).toInt := by rw [ey_15]
          have kq_ : y_15.toInt = qF_ fu x4_3.toNatClampNeg := by rw [ey_15]; rfl
          refine va_mmin hx hb (by rw [hml]; exact hl.1.symm) hown (hts (.methodLink RX1 58 Lib.Math.min.name) (List.mem_of_getElem? (i := 3) rfl)) (hts (.static Lib.Math.min.name) (List.mem_of_getElem? (i := 4) rfl)) (hts (.initialized "java/lang/Math") (List.mem_of_getElem? (i := 5) rfl)) (hts (.code Lib.Math.min.name Lib.Math.min.code 2 (some .int)) (List.mem_of_getElem? (i := 6) rfl)) (Nat.le_of_ble_eq_true rfl) (Nat.le_of_ble_eq_true rfl) (Nat.le_of_ble_eq_true rfl) (Nat.le_of_ble_eq_true rfl) dB_36_0_59.2.2.2.1 ?_
          refine lv_topi (fun y_16 ey_16 => ?_)
          have ty_16 : y_16 = x3_3 ∨ y_16 = y_15 := by rw [ey_16]; split <;> simp
          have iy_16 : y_16.toInt = x3_3.toInt ∨ y_16.toInt = y_15.toInt := by rcases ty_16 with h | h <;> rw [h] <;> simp
          have hmn_ : (y_16.toInt = x3_3.toInt ∧ x3_3.toInt ≤ qF_ fu x4_3.toNatClampNeg) ∨ (y_16.toInt = qF_ fu x4_3.toNatClampNeg ∧ qF_ fu x4_3.toNatClampNeg ≤ x3_3.toInt) := by have h_ := mnI ey_16; unfold loI at h_; split at h_ <;> omega
          refine lv_istore_n (lv' := [(3, .int y_16), (8, .int x8_3), (7, .int x7_3), (6, .int x6_3), (5, .int x5_3), (4, .int x4_3), (0, .ref xt), (1, .int a1), (2, .int a2)]) hx hb dB_36_0_59.2.2.2.2 rfl hl (by decide) rfl (fun ls hl => ?_)
          refine lv_aload_n hx hb dB_36_0_60.1.1.1.1 rfl (lv_at hl 6 rfl) ?_
          refine va_get (ci := 1) (v := .ref ta) (C := RX1) (T := TX1) (N := 3) hx hb hts (fun _ h => List.mem_cons_of_mem _ (List.mem_append_right _ h)) hown hK.1 hP 0 rfl rfl 1 (by decide) (hts (.fieldLink RX1 9 "CutAtlas$CutTree" "nexts" "[I") (List.mem_of_getElem? (i := 7) rfl)) (fun _ h9 => h9) rfl dB_36_0_60.1.1.1.2 ?_
          refine lv_iload hx hb dB_36_0_60.1.1.2.1 (lv_at hl 5 rfl) ?_
          refine va_iald hx hb hK.1 hP 1 0 rfl rfl (i := x4_3) h_14 dB_36_0_60.1.1.2.2 ?_
          refine lv_topi (fun y_18 ey_18 => ?_)
          have ky_18 : y_18.toInt = (fx x4_3.toNatClampNeg).toInt := by rw [ey_18]
          have hd_ : d x4_3.toNatClampNeg = d y_18.toNatClampNeg + 1 := by rw [ey_18]; exact hx_.2.2.1
          have hxc_ : nF fx x4_3.toNatClampNeg = y_18.toNatClampNeg := by rw [ey_18]; rfl
          rw [hxc_] at hpx_
          have ct_ := clI (i := y_18) (by omega)
          have hlo_ : low lm a1.toNatClampNeg a2.toNatClampNeg y_18.toNatClampNeg x5_3.toNatClampNeg y_16.toInt := by have h_ := low_x hL (by omega) (by omega) hv6_ hxy_ (by omega) (by omega) hmn_; rw [hxc_] at h_; exact h_
          refine lv_istore (lv' := [(4, .int y_18), (3, .int y_16), (8, .int x8_3), (7, .int x7_3), (6, .int x6_3), (5, .int x5_3), (0, .ref xt), (1, .int a1), (2, .int a2)]) hx hb dB_36_0_60.1.2.1.1 hl (by decide) rfl (fun ls hl => ?_)
          obtain ⟨y_19, ey_19⟩ : ∃ y : Int32, y = x6_3 + (-1) := ⟨_, rfl⟩
          have ty_19 : y_19.toInt = x6_3.toInt + ((-1) : Int32).toInt := by rw [ey_19]; exact addI (by omega) (by omega)
          refine lv_iinc (v := y_19) (lv' := [(6, .int y_19), (4, .int y_18), (3, .int y_16), (8, .int x8_3), (7, .int x7_3), (5, .int x5_3), (0, .ref xt), (1, .int a1), (2, .int a2)]) hx hb dB_36_0_60.1.2.1.2 hl (k := 4) rfl (by rw [ey_19]; rfl) (by decide) rfl (fun ls hl => ?_)
          refine lv_goto (tgt := 98) hx hb dB_36_0_60.1.2.2.1 (by decide) ?_
          obtain ⟨y_20, ey_20⟩ : ∃ y : Int32, y = x8_3 + 1 := ⟨_, rfl⟩
          have ty_20 : y_20.toInt = x8_3.toInt + (1 : Int32).toInt := by rw [ey_20]; exact addI (by omega) (by omega)
          refine lv_iinc (v := y_20) (lv' := [(8, .int y_20), (6, .int y_19), (4, .int y_18), (3, .int y_16), (7, .int x7_3), (5, .int x5_3), (0, .ref xt), (1, .int a1), (2, .int a2)]) hx hb dB_36_0_61.2.1.1 hl (k := 3) rfl (by rw [ey_20]; rfl) (by decide) rfl (fun ls hl => ?_)
          refine lv_goto (tgt := 26) hx hb dB_36_0_61.2.1.2 (by decide) ?_
          exact ih_3 y_20 x7_3 y_19 x5_3 y_18 y_16 _ _ _ (by omega) (by first | with_reducible assumption | omega | assumption) (by first | with_reducible assumption | omega | assumption) (by first | with_reducible assumption | omega | assumption) (by first | with_reducible assumption | omega | assumption) (by first | with_reducible assumption | omega | assumption) (by first | with_reducible assumption | omega | assumption) (by first | exact fun h => low_0 hL (by omega) (by omega) (by omega) | exact fun _ => hlo_) (by first | exact fun h => ⟨by omega, by decide⟩ | exact fun h => absurd h hne_) hP hS (lv_sub hl [0, 4, 1, 5, 2, 3, 6, 7, 8] rfl)

set_option maxHeartbeats 4000000 in
set_option maxRecDepth 100000 in
theorem c_X1_leastNumber2 (l : Launch) (D : va_G) (cy : Nat → ClassId) (sz : Nat) (xt : Nat) (xc : Nat) (ta : Nat) (tb : Nat) (fx : Nat → Int32) (d : Nat → Nat) (fu : Nat → Int32) (o1 : Nat) (o2 : Nat) (o3 : Nat) (o4 : Nat) (o5 : Nat) (o6 : Nat) (o7 : Nat) (o8 : Nat) (xn : Nat) (n1 : Nat) (n2 : Nat) (n3 : Nat) (n4 : Nat) (n5 : Nat) (vp : Int32) (vn : Int32) (hvp : 0 ≤ vp.toInt ∧ vp.toInt ≤ 12) (hv2 : 2 ≤ vp.toInt) : Met l yX1_leastNumber wsX1_leastNumber ({ frames := 1, cells := 0, slots := 0, locals := 13 }) (va_Pc [.ref xt] (fun U => U.heap.size = sz ∧ va_P D vwCl [ob1_0_ xt xc ta tb, ai_ cy ta 12 fx, ai_ cy tb 12 fu, ob0_0_ xc xn o1 o2 o3 o4 o5 o6 o7 o8, ob3_0_ xn vp vn n1 n2 n3 n4 n5] U.heap ∧ kk_ D cy U ∧ va_D (fun _ => True) [ob1_0_ xt xc ta tb, ai_ cy ta 12 fx, ai_ cy tb 12 fu, ob0_0_ xc xn o1 o2 o3 o4 o5 o6 o7 o8, ob3_0_ xn vp vn n1 n2 n3 n4 n5])) (va_Qi (fun (r : Int32) (_ : Unit) => (lnm (qF_ fu) vp.toInt r.toInt)) (fun (_ : Unit) (_ : State) => True) (va_A [] sz)) 0 0 (va_A [] sz) := by
  refine ofQ (cc := cX1_leastNumber) (maxL := 3) (ret := (some .int)) (by decide) rfl ?_
  intro p e s m args below meth c s₁ Q hQ B hml hv
  obtain ⟨rfl, hsz, hP, hK, hD0⟩ := hv
  have hx := B.exec
  have hb := B.bytes
  have hr := B.returns
  have hts := atoms_spec (ws := wsX1_leastNumber) B.pre
  have hown : s.vm.findClass RX1 = some m.cls := by have h_ := findClass_of_methodNamed B.named; exact h_
  have hlocks := B.notSynchronized
  subst hsz
  have hD : va_D (va_A [] s.heap.size) [] := dd_nil
  generalize hAe : va_A [] s.heap.size = A at hD hQ
  have hA : ∀ q : Nat, s.heap.size ≤ q → A q := fun q h => by rw [← hAe]; exact Or.inr h
  have hS : va_S A s.heap s.heap [] := va_S.rf
  have hl := lv_entry ([.ref xt]) (n := 3) (Nat.le_of_ble_eq_true rfl)
  rw [lg_entry_eq]
  generalize (lg_sl ([.ref xt]) ++ List.replicate (3 - (lg_sl ([.ref xt])).length) Slot.unset).toArray = ls at hl ⊢
  have hl : lv_has ls 3 [(0, .ref xt)] := hl
  have z1 : (1 : Int32).toInt = 1 := by decide
  have z1000000000 : (1000000000 : Int32).toInt = 1000000000 := by decide
  refine lv_ldc (v := 1000000000) hx hb hown (hts (.constant RX1 54 (1000000000)) (List.mem_of_getElem? (i := 1) rfl)) dB_36_0_56.1.1.1.1 ?_
  refine lv_istore_n (lv' := [(1, .int 1000000000), (0, .ref xt)]) hx hb dB_36_0_56.1.1.1.2 rfl hl (by decide) rfl (fun ls hl => ?_)
  refine lv_iconst (v := 1) hx hb dB_36_0_56.1.1.2.1 (by decide) ?_
  refine lv_istore_n (lv' := [(2, .int 1), (1, .int 1000000000), (0, .ref xt)]) hx hb dB_36_0_56.1.1.2.2 rfl hl (by decide) rfl (fun ls hl => ?_)
  suffices LOOP_1 : ∀ (n_1 : Nat) (x2_1 : Int32) (x1_1 : Int32) (H : Heap) (locs : List Loc) (ls : Array Slot), 13 - x2_1.toInt < (n_1 : Int) → (1 ≤ x2_1.toInt) → (x2_1.toInt ≤ vp.toInt) → (lnm (qF_ fu) x2_1.toInt x1_1.toInt) → va_P D vwCl [ob1_0_ xt xc ta tb, ai_ cy ta 12 fx, ai_ cy tb 12 fu, ob0_0_ xc xn o1 o2 o3 o4 o5 o6 o7 o8, ob3_0_ xn vp vn n1 n2 n3 n4 n5] H → va_S A s.heap H locs → lv_has ls 3 [(2, .int x2_1), (1, .int x1_1), (0, .ref xt)] → W p l e ({ frames := 1, cells := 0, slots := 0, locals := 13 } : Room) s m (([.ref xt] : List Value).toArray) below meth c H locs 0 0 Q (F0 m 5 ls []) from LOOP_1 ((13 - (1 : Int32).toInt).toNat + 1) (1 : Int32) (1000000000 : Int32) _ _ _ (by omega) (by first | with_reducible assumption | omega | assumption) (by first | with_reducible assumption | omega | assumption) (by first | exact lnm_0 | exact lnm_st v_none (by omega) (by omega) hmn_) hP hS (lv_sub hl [0, 1, 2] rfl)
  intro n_1
  induction n_1 with
  | zero =>
    intro x2_1 x1_1 H locs ls hm v0_1 v1_1 v2_1 hP hS hl
    exact absurd hm (by omega)
  | succ n_1 ih_1 =>
    intro x2_1 x1_1 H locs ls hm v0_1 v1_1 v2_1 hP hS hl
    refine lv_iload_n hx hb dB_36_0_56.1.2.1.1 rfl (lv_at hl 0 rfl) ?_
    refine lv_aload_n hx hb dB_36_0_56.1.2.1.2 rfl (lv_at hl 2 rfl) ?_
    refine va_get (ci := 1) (v := .ref xc) (C := RX1) (T := TX1) (N := 3) hx hb hts (fun _ h => List.mem_cons_of_mem _ (List.mem_append_left _ (List.mem_append_left _ (List.mem_append_right _ h)))) hown hK.1 hP 0 rfl rfl 0 (by decide) (hts (.fieldLink RX1 18 "CutAtlas$CutTree" "current" "LCutAtlas$Current;") (List.mem_of_getElem? (i := 2) rfl)) (fun _ h9 => h9) rfl dB_36_0_56.1.2.2.1 ?_
    refine va_get (ci := 0) (v := .ref xn) (C := RX0) (T := TX0) (N := 9) hx hb hts (fun _ h => List.mem_cons_of_mem _ (List.mem_append_left _ (List.mem_append_right _ h))) hown hK.1 hP 3 rfl rfl 0 (by decide) (hts (.fieldLink RX1 34 "CutAtlas$Current" "net" "LCutAtlas$Net;") (List.mem_of_getElem? (i := 3) rfl)) (fun _ h9 => h9) rfl dB_36_0_56.1.2.2.2 ?_
    refine va_get (ci := 3) (v := .int vp) (C := RX3) (T := TX3) (N := 7) hx hb hts (fun _ h => List.mem_cons_of_mem _ (List.mem_append_right _ h)) hown hK.1 hP 4 rfl rfl 0 (by decide) (hts (.fieldLink RX1 38 "CutAtlas$Net" "places" "I") (List.mem_of_getElem? (i := 4) rfl)) (fun _ h9 => h9) rfl dB_36_0_56.2.1.1.1 ?_
    refine lv_icmp_ge (tgt := 36) hx hb dB_36_0_56.2.1.1.2 (by decide) (fun c_2 => ?_) (fun c_2 => ?_)
    · have t_2 : vp.toInt ≤ x2_1.toInt := Int32.le_iff_toInt_le.mp c_2
      refine lv_iload_n hx hb dB_36_0_57.2.2.1 rfl (lv_at hl 1 rfl) ?_
      rw [hQ]
      exact W.iret (v := x1_1) hx hb hr (fun t ht hW => ⟨⟨x1_1, (), rfl, (by rw [show vp = x2_1 from Int32.toInt_inj.mp (by omega)]; exact v2_1), trivial⟩, hS.F ht⟩) hS.2.2 dB_36_0_57.2.2.2
    · have t_2 : ¬ vp.toInt ≤ x2_1.toInt := fun h => c_2 (Int32.le_iff_toInt_le.mpr h)
      refine lv_iload_n hx hb dB_36_0_56.2.1.2.1 rfl (lv_at hl 1 rfl) ?_
      refine lv_aload_n hx hb dB_36_0_56.2.1.2.2 rfl (lv_at hl 2 rfl) ?_
      refine va_get (ci := 1) (v := .ref tb) (C := RX1) (T := TX1) (N := 3) hx hb hts (fun _ h => List.mem_cons_of_mem _ (List.mem_append_left _ (List.mem_append_left _ (List.mem_append_right _ h)))) hown hK.1 hP 0 rfl rfl 2 (by decide) (hts (.fieldLink RX1 15 "CutAtlas$CutTree" "numbers" "[I") (List.mem_of_getElem? (i := 5) rfl)) (fun _ h9 => h9) rfl dB_36_0_56.2.2.1.1 ?_
      refine lv_iload_n hx hb dB_36_0_56.2.2.1.2 rfl (lv_at hl 0 rfl) ?_
      have h_3 : vp_in x2_1 12 := in_I (by first | with_reducible assumption | omega) (by omega)
      refine va_iald hx hb hK.1 hP 2 0 rfl rfl (i := x2_1) h_3 dB_36_0_56.2.2.2.1 ?_
      refine lv_topi (fun y_4 ey_4 => ?_)
      have ky_4 : y_4.toInt = (fu x2_1.toNatClampNeg).toInt := by rw [ey_4]
      have kq_ : y_4.toInt = qF_ fu x2_1.toNatClampNeg := by rw [ey_4]; rfl
      refine va_mmin hx hb (by rw [hml]; exact hl.1.symm) hown (hts (.methodLink RX1 58 Lib.Math.min.name) (List.mem_of_getElem? (i := 6) rfl)) (hts (.static Lib.Math.min.name) (List.mem_of_getElem? (i := 7) rfl)) (hts (.initialized "java/lang/Math") (List.mem_of_getElem? (i := 8) rfl)) (hts (.code Lib.Math.min.name Lib.Math.min.code 2 (some .int)) (List.mem_of_getElem? (i := 9) rfl)) (Nat.le_of_ble_eq_true rfl) (Nat.le_of_ble_eq_true rfl) (Nat.le_of_ble_eq_true rfl) (Nat.le_of_ble_eq_true rfl) dB_36_0_56.2.2.2.2 ?_
      refine lv_topi (fun y_5 ey_5 => ?_)
      have ty_5 : y_5 = x1_1 ∨ y_5 = y_4 := by rw [ey_5]; split <;> simp
      have iy_5 : y_5.toInt = x1_1.toInt ∨ y_5.toInt = y_4.toInt := by rcases ty_5 with h | h <;> rw [h] <;> simp
      have hmn_ : (y_5.toInt = x1_1.toInt ∧ x1_1.toInt ≤ qF_ fu x2_1.toNatClampNeg) ∨ (y_5.toInt = qF_ fu x2_1.toNatClampNeg ∧ qF_ fu x2_1.toNatClampNeg ≤ x1_1.toInt) := by have h_ := mnI ey_5; unfold loI at h_; split at h_ <;> omega
      refine lv_istore_n (lv' := [(1, .int y_5), (2, .int x2_1), (0, .ref xt)]) hx hb dB_36_0_57.1.1 rfl hl (by decide) rfl (fun ls hl => ?_)
      obtain ⟨y_6, ey_6⟩ : ∃ y : Int32, y = x2_1 + 1 := ⟨_, rfl⟩
      have ty_6 : y_6.toInt = x2_1.toInt + (1 : Int32).toInt := by rw [ey_6]; exact addI (by omega) (by omega)
      refine lv_iinc (v := y_6) (lv' := [(2, .int y_6), (1, .int y_5), (0, .ref xt)]) hx hb dB_36_0_57.1.2 hl (k := 1) rfl (by rw [ey_6]; rfl) (by decide) rfl (fun ls hl => ?_)
      refine lv_goto (tgt := 5) hx hb dB_36_0_57.2.1 (by decide) ?_
      exact ih_1 y_6 y_5 _ _ _ (by omega) (by first | with_reducible assumption | omega | assumption) (by first | with_reducible assumption | omega | assumption) (by first | exact lnm_0 | exact lnm_st v2_1 (by omega) (by omega) hmn_) hP hS (lv_sub hl [0, 1, 2] rfl)
end

section
set_option maxHeartbeats 4000000 in
set_option maxRecDepth 100000 in
theorem c_X11_between2 (l : Launch) (D : va_G) (cy : Nat → ClassId) (sz : Nat) (xo : Nat) (xk : Nat) (xn : Nat) (xc : Nat) (xh : Nat) (xt : Nat) (xw : Nat) (xm : Nat) (xp : Nat) (pf : Int32) (ph : Int32) (tr : Int64) (fi : Int32) (n1 : Nat) (n2 : Nat) (n3 : Nat) (n4 : Nat) (n5 : Nat) (vp : Int32) (vn : Int32) (clo : Nat) (cro : Nat) (c4 : Nat) (c5 : Nat) (c6 : Nat) (c7 : Nat) (c8 : Nat) (fk : Nat → Int32) (fs : Nat → Int32) (fe : Nat → Int32) (fw : Nat → Int32) (fp : Nat → Int32) (rl : Nat → Nat) (Ml : Nat → Nat → Int32) (rr : Nat → Nat) (Mr : Nat → Nat → Int32) (f4 : Nat → Int32) (f5 : Nat → Int32) (f6 : Nat → Int32) (f7 : Nat → Int32) (f8 : Nat → Int32) (k0 : Nat) (k1 : Nat) (k2 : Nat) (k3 : Nat) (k4 : Nat) (ta : Nat) (tb : Nat) (fx : Nat → Int32) (fu : Nat → Int32) (a1 : Int32) (a2 : Int32) (hvp : 0 ≤ vp.toInt ∧ vp.toInt ≤ 12) (hvn : 0 ≤ vn.toInt ∧ vn.toInt ≤ 40) (hnc : netC vp.toInt vn.toInt fs fe) (hpr : prng fs fe 40) (r_f7 : rng f7 12 (0) (11)) (r_f8 : rng f8 12 (0) (11)) (r_fk : rng fk 40 (0) (4)) (r_fw : rng fw 40 (0) (2000)) : Met l yX11_between wsX11_between ({ frames := 6, cells := 0, slots := 0, locals := 134 }) (va_Pc [.ref xo, .int a1, .int a2] (fun U => U.heap.size = sz ∧ va_P D vwCl [ob11_0_ xo xk xn xc xh xt xw xm xp pf ph tr fi, ob3_0_ xn vp vn n1 n2 n3 n4 n5, ai_ cy n1 40 fk, ai_ cy n2 40 fs, ai_ cy n3 40 fe, ai_ cy n4 40 fw, ai_ cy n5 40 fp, ob0_0_ xc xn xk clo cro c4 c5 c6 c7 c8, aq_ cy 6 clo 12 (gf_ rl), ai_ cy (rl 0) 12 (Ml 0), ai_ cy (rl 1) 12 (Ml 1), ai_ cy (rl 2) 12 (Ml 2), ai_ cy (rl 3) 12 (Ml 3), ai_ cy (rl 4) 12 (Ml 4), ai_ cy (rl 5) 12 (Ml 5), ai_ cy (rl 6) 12 (Ml 6), ai_ cy (rl 7) 12 (Ml 7), ai_ cy (rl 8) 12 (Ml 8), ai_ cy (rl 9) 12 (Ml 9), ai_ cy (rl 10) 12 (Ml 10), ai_ cy (rl 11) 12 (Ml 11), aq_ cy 6 cro 12 (gf_ rr), ai_ cy (rr 0) 12 (Mr 0), ai_ cy (rr 1) 12 (Mr 1), ai_ cy (rr 2) 12 (Mr 2), ai_ cy (rr 3) 12 (Mr 3), ai_ cy (rr 4) 12 (Mr 4), ai_ cy (rr 5) 12 (Mr 5), ai_ cy (rr 6) 12 (Mr 6), ai_ cy (rr 7) 12 (Mr 7), ai_ cy (rr 8) 12 (Mr 8), ai_ cy (rr 9) 12 (Mr 9), ai_ cy (rr 10) 12 (Mr 10), ai_ cy (rr 11) 12 (Mr 11), ai_ cy c4 40 f4, ai_ cy c5 40 f5, ai_ cy c6 40 f6, ai_ cy c7 12 f7, ai_ cy c8 12 f8, aq_ cy 3 xk 5 (kf_ k0 k1 k2 k3 k4), ob6_0_ k0, ob5_0_ k1, ob9_0_ k2, ob2_0_ k3, ob8_0_ k4, ob1_0_ xt xc ta tb, ai_ cy ta 12 fx, ai_ cy tb 12 fu] U.heap ∧ kg_ D cy U ∧ va_D (fun _ => True) [ob11_0_ xo xk xn xc xh xt xw xm xp pf ph tr fi, ob3_0_ xn vp vn n1 n2 n3 n4 n5, ai_ cy n1 40 fk, ai_ cy n2 40 fs, ai_ cy n3 40 fe, ai_ cy n4 40 fw, ai_ cy n5 40 fp, ob0_0_ xc xn xk clo cro c4 c5 c6 c7 c8, aq_ cy 6 clo 12 (gf_ rl), ai_ cy (rl 0) 12 (Ml 0), ai_ cy (rl 1) 12 (Ml 1), ai_ cy (rl 2) 12 (Ml 2), ai_ cy (rl 3) 12 (Ml 3), ai_ cy (rl 4) 12 (Ml 4), ai_ cy (rl 5) 12 (Ml 5), ai_ cy (rl 6) 12 (Ml 6), ai_ cy (rl 7) 12 (Ml 7), ai_ cy (rl 8) 12 (Ml 8), ai_ cy (rl 9) 12 (Ml 9), ai_ cy (rl 10) 12 (Ml 10), ai_ cy (rl 11) 12 (Ml 11), aq_ cy 6 cro 12 (gf_ rr), ai_ cy (rr 0) 12 (Mr 0), ai_ cy (rr 1) 12 (Mr 1), ai_ cy (rr 2) 12 (Mr 2), ai_ cy (rr 3) 12 (Mr 3), ai_ cy (rr 4) 12 (Mr 4), ai_ cy (rr 5) 12 (Mr 5), ai_ cy (rr 6) 12 (Mr 6), ai_ cy (rr 7) 12 (Mr 7), ai_ cy (rr 8) 12 (Mr 8), ai_ cy (rr 9) 12 (Mr 9), ai_ cy (rr 10) 12 (Mr 10), ai_ cy (rr 11) 12 (Mr 11), ai_ cy c4 40 f4, ai_ cy c5 40 f5, ai_ cy c6 40 f6, ai_ cy c7 12 f7, ai_ cy c8 12 f8, aq_ cy 3 xk 5 (kf_ k0 k1 k2 k3 k4), ob6_0_ k0, ob5_0_ k1, ob9_0_ k2, ob2_0_ k3, ob8_0_ k4, ob1_0_ xt xc ta tb, ai_ cy ta 12 fx, ai_ cy tb 12 fu])) (va_Qi (fun (r : Int32) (_ : Unit) => ((btI a1.toInt a2.toInt vp.toInt (sumI (bkF fk fs) vn.toNatClampNeg) = 0 → r.toInt = lam (cutF fk fs fe fw (-9) vn.toNatClampNeg) a1.toNatClampNeg a2.toNatClampNeg) ∧ (btI a1.toInt a2.toInt vp.toInt (sumI (bkF fk fs) vn.toNatClampNeg) ≠ 0 → r.toInt = btI a1.toInt a2.toInt vp.toInt (sumI (bkF fk fs) vn.toNatClampNeg)))) (fun (_ : Unit) (t : State) => ∃ (eMl : Nat → Nat → Int32), ∃ (eMr : Nat → Nat → Int32), ∃ (e4 : Nat → Int32), ∃ (e5 : Nat → Int32), ∃ (e6 : Nat → Int32), ∃ (e7 : Nat → Int32), ∃ (e8 : Nat → Int32), ∃ (efx : Nat → Int32), ∃ (efu : Nat → Int32), (rng e7 12 (0) (11)) ∧ (rng e8 12 (0) (11)) ∧ va_P D vwCl [ob11_0_ xo xk xn xc xh xt xw xm xp pf ph tr fi, ob3_0_ xn vp vn n1 n2 n3 n4 n5, ai_ cy n1 40 fk, ai_ cy n2 40 fs, ai_ cy n3 40 fe, ai_ cy n4 40 fw, ai_ cy n5 40 fp, ob0_0_ xc xn xk clo cro c4 c5 c6 c7 c8, aq_ cy 6 clo 12 (gf_ rl), ai_ cy (rl 0) 12 (eMl 0), ai_ cy (rl 1) 12 (eMl 1), ai_ cy (rl 2) 12 (eMl 2), ai_ cy (rl 3) 12 (eMl 3), ai_ cy (rl 4) 12 (eMl 4), ai_ cy (rl 5) 12 (eMl 5), ai_ cy (rl 6) 12 (eMl 6), ai_ cy (rl 7) 12 (eMl 7), ai_ cy (rl 8) 12 (eMl 8), ai_ cy (rl 9) 12 (eMl 9), ai_ cy (rl 10) 12 (eMl 10), ai_ cy (rl 11) 12 (eMl 11), aq_ cy 6 cro 12 (gf_ rr), ai_ cy (rr 0) 12 (eMr 0), ai_ cy (rr 1) 12 (eMr 1), ai_ cy (rr 2) 12 (eMr 2), ai_ cy (rr 3) 12 (eMr 3), ai_ cy (rr 4) 12 (eMr 4), ai_ cy (rr 5) 12 (eMr 5), ai_ cy (rr 6) 12 (eMr 6), ai_ cy (rr 7) 12 (eMr 7), ai_ cy (rr 8) 12 (eMr 8), ai_ cy (rr 9) 12 (eMr 9), ai_ cy (rr 10) 12 (eMr 10), ai_ cy (rr 11) 12 (eMr 11), ai_ cy c4 40 e4, ai_ cy c5 40 e5, ai_ cy c6 40 e6, ai_ cy c7 12 e7, ai_ cy c8 12 e8, aq_ cy 3 xk 5 (kf_ k0 k1 k2 k3 k4), ob6_0_ k0, ob5_0_ k1, ob9_0_ k2, ob2_0_ k3, ob8_0_ k4, ob1_0_ xt xc ta tb, ai_ cy ta 12 efx, ai_ cy tb 12 efu] t.heap ∧ va_D (va_A [ob11_0_ xo xk xn xc xh xt xw xm xp pf ph tr fi, ob3_0_ xn vp vn n1 n2 n3 n4 n5, ai_ cy n1 40 fk, ai_ cy n2 40 fs, ai_ cy n3 40 fe, ai_ cy n4 40 fw, ai_ cy n5 40 fp, ob0_0_ xc xn xk clo cro c4 c5 c6 c7 c8, aq_ cy 6 clo 12 (gf_ rl), ai_ cy (rl 0) 12 (Ml 0), ai_ cy (rl 1) 12 (Ml 1), ai_ cy (rl 2) 12 (Ml 2), ai_ cy (rl 3) 12 (Ml 3), ai_ cy (rl 4) 12 (Ml 4), ai_ cy (rl 5) 12 (Ml 5), ai_ cy (rl 6) 12 (Ml 6), ai_ cy (rl 7) 12 (Ml 7), ai_ cy (rl 8) 12 (Ml 8), ai_ cy (rl 9) 12 (Ml 9), ai_ cy (rl 10) 12 (Ml 10), ai_ cy (rl 11) 12 (Ml 11), aq_ cy 6 cro 12 (gf_ rr), ai_ cy (rr 0) 12 (Mr 0), ai_ cy (rr 1) 12 (Mr 1), ai_ cy (rr 2) 12 (Mr 2), ai_ cy (rr 3) 12 (Mr 3), ai_ cy (rr 4) 12 (Mr 4), ai_ cy (rr 5) 12 (Mr 5), ai_ cy (rr 6) 12 (Mr 6), ai_ cy (rr 7) 12 (Mr 7), ai_ cy (rr 8) 12 (Mr 8), ai_ cy (rr 9) 12 (Mr 9), ai_ cy (rr 10) 12 (Mr 10), ai_ cy (rr 11) 12 (Mr 11), ai_ cy c4 40 f4, ai_ cy c5 40 f5, ai_ cy c6 40 f6, ai_ cy c7 12 f7, ai_ cy c8 12 f8, aq_ cy 3 xk 5 (kf_ k0 k1 k2 k3 k4), ob6_0_ k0, ob5_0_ k1, ob9_0_ k2, ob2_0_ k3, ob8_0_ k4, ob1_0_ xt xc ta tb, ai_ cy ta 12 fx, ai_ cy tb 12 fu] sz) [ob11_0_ xo xk xn xc xh xt xw xm xp pf ph tr fi, ob3_0_ xn vp vn n1 n2 n3 n4 n5, ai_ cy n1 40 fk, ai_ cy n2 40 fs, ai_ cy n3 40 fe, ai_ cy n4 40 fw, ai_ cy n5 40 fp, ob0_0_ xc xn xk clo cro c4 c5 c6 c7 c8, aq_ cy 6 clo 12 (gf_ rl), ai_ cy (rl 0) 12 (eMl 0), ai_ cy (rl 1) 12 (eMl 1), ai_ cy (rl 2) 12 (eMl 2), ai_ cy (rl 3) 12 (eMl 3), ai_ cy (rl 4) 12 (eMl 4), ai_ cy (rl 5) 12 (eMl 5), ai_ cy (rl 6) 12 (eMl 6), ai_ cy (rl 7) 12 (eMl 7), ai_ cy (rl 8) 12 (eMl 8), ai_ cy (rl 9) 12 (eMl 9), ai_ cy (rl 10) 12 (eMl 10), ai_ cy (rl 11) 12 (eMl 11), aq_ cy 6 cro 12 (gf_ rr), ai_ cy (rr 0) 12 (eMr 0), ai_ cy (rr 1) 12 (eMr 1), ai_ cy (rr 2) 12 (eMr 2), ai_ cy (rr 3) 12 (eMr 3), ai_ cy (rr 4) 12 (eMr 4), ai_ cy (rr 5) 12 (eMr 5), ai_ cy (rr 6) 12 (eMr 6), ai_ cy (rr 7) 12 (eMr 7), ai_ cy (rr 8) 12 (eMr 8), ai_ cy (rr 9) 12 (eMr 9), ai_ cy (rr 10) 12 (eMr 10), ai_ cy (rr 11) 12 (eMr 11), ai_ cy c4 40 e4, ai_ cy c5 40 e5, ai_ cy c6 40 e6, ai_ cy c7 12 e7, ai_ cy c8 12 e8, aq_ cy 3 xk 5 (kf_ k0 k1 k2 k3 k4), ob6_0_ k0, ob5_0_ k1, ob9_0_ k2, ob2_0_ k3, ob8_0_ k4, ob1_0_ xt xc ta tb, ai_ cy ta 12 efx, ai_ cy tb 12 efu]) (va_A [ob11_0_ xo xk xn xc xh xt xw xm xp pf ph tr fi, ob3_0_ xn vp vn n1 n2 n3 n4 n5, ai_ cy n1 40 fk, ai_ cy n2 40 fs, ai_ cy n3 40 fe, ai_ cy n4 40 fw, ai_ cy n5 40 fp, ob0_0_ xc xn xk clo cro c4 c5 c6 c7 c8, aq_ cy 6 clo 12 (gf_ rl), ai_ cy (rl 0) 12 (Ml 0), ai_ cy (rl 1) 12 (Ml 1), ai_ cy (rl 2) 12 (Ml 2), ai_ cy (rl 3) 12 (Ml 3), ai_ cy (rl 4) 12 (Ml 4), ai_ cy (rl 5) 12 (Ml 5), ai_ cy (rl 6) 12 (Ml 6), ai_ cy (rl 7) 12 (Ml 7), ai_ cy (rl 8) 12 (Ml 8), ai_ cy (rl 9) 12 (Ml 9), ai_ cy (rl 10) 12 (Ml 10), ai_ cy (rl 11) 12 (Ml 11), aq_ cy 6 cro 12 (gf_ rr), ai_ cy (rr 0) 12 (Mr 0), ai_ cy (rr 1) 12 (Mr 1), ai_ cy (rr 2) 12 (Mr 2), ai_ cy (rr 3) 12 (Mr 3), ai_ cy (rr 4) 12 (Mr 4), ai_ cy (rr 5) 12 (Mr 5), ai_ cy (rr 6) 12 (Mr 6), ai_ cy (rr 7) 12 (Mr 7), ai_ cy (rr 8) 12 (Mr 8), ai_ cy (rr 9) 12 (Mr 9), ai_ cy (rr 10) 12 (Mr 10), ai_ cy (rr 11) 12 (Mr 11), ai_ cy c4 40 f4, ai_ cy c5 40 f5, ai_ cy c6 40 f6, ai_ cy c7 12 f7, ai_ cy c8 12 f8, aq_ cy 3 xk 5 (kf_ k0 k1 k2 k3 k4), ob6_0_ k0, ob5_0_ k1, ob9_0_ k2, ob2_0_ k3, ob8_0_ k4, ob1_0_ xt xc ta tb, ai_ cy ta 12 fx, ai_ cy tb 12 fu] sz)) 0 0 (va_A [ob11_0_ xo xk xn xc xh xt xw xm xp pf ph tr fi, ob3_0_ xn vp vn n1 n2 n3 n4 n5, ai_ cy n1 40 fk, ai_ cy n2 40 fs, ai_ cy n3 40 fe, ai_ cy n4 40 fw, ai_ cy n5 40 fp, ob0_0_ xc xn xk clo cro c4 c5 c6 c7 c8, aq_ cy 6 clo 12 (gf_ rl), ai_ cy (rl 0) 12 (Ml 0), ai_ cy (rl 1) 12 (Ml 1), ai_ cy (rl 2) 12 (Ml 2), ai_ cy (rl 3) 12 (Ml 3), ai_ cy (rl 4) 12 (Ml 4), ai_ cy (rl 5) 12 (Ml 5), ai_ cy (rl 6) 12 (Ml 6), ai_ cy (rl 7) 12 (Ml 7), ai_ cy (rl 8) 12 (Ml 8), ai_ cy (rl 9) 12 (Ml 9), ai_ cy (rl 10) 12 (Ml 10), ai_ cy (rl 11) 12 (Ml 11), aq_ cy 6 cro 12 (gf_ rr), ai_ cy (rr 0) 12 (Mr 0), ai_ cy (rr 1) 12 (Mr 1), ai_ cy (rr 2) 12 (Mr 2), ai_ cy (rr 3) 12 (Mr 3), ai_ cy (rr 4) 12 (Mr 4), ai_ cy (rr 5) 12 (Mr 5), ai_ cy (rr 6) 12 (Mr 6), ai_ cy (rr 7) 12 (Mr 7), ai_ cy (rr 8) 12 (Mr 8), ai_ cy (rr 9) 12 (Mr 9), ai_ cy (rr 10) 12 (Mr 10), ai_ cy (rr 11) 12 (Mr 11), ai_ cy c4 40 f4, ai_ cy c5 40 f5, ai_ cy c6 40 f6, ai_ cy c7 12 f7, ai_ cy c8 12 f8, aq_ cy 3 xk 5 (kf_ k0 k1 k2 k3 k4), ob6_0_ k0, ob5_0_ k1, ob9_0_ k2, ob2_0_ k3, ob8_0_ k4, ob1_0_ xt xc ta tb, ai_ cy ta 12 fx, ai_ cy tb 12 fu] sz) := by
  refine ofQ (cc := cX11_between) (maxL := 3) (ret := (some .int)) (by decide) rfl ?_
  intro p e s m args below meth c s₁ Q hQ B hml hv
  obtain ⟨rfl, hsz, hP, hK, hD0⟩ := hv
  have hG := hK.2
  have hK := hK.1
  have hx := B.exec
  have hb := B.bytes
  have hr := B.returns
  have hts := atoms_spec (ws := wsX11_between) B.pre
  have hown : s.vm.findClass RX11 = some m.cls := by have h_ := findClass_of_methodNamed B.named; exact h_
  have hlocks := B.notSynchronized
  subst hsz
  have hD := hD0.self (sz := s.heap.size)
  generalize hAe : va_A [ob11_0_ xo xk xn xc xh xt xw xm xp pf ph tr fi, ob3_0_ xn vp vn n1 n2 n3 n4 n5, ai_ cy n1 40 fk, ai_ cy n2 40 fs, ai_ cy n3 40 fe, ai_ cy n4 40 fw, ai_ cy n5 40 fp, ob0_0_ xc xn xk clo cro c4 c5 c6 c7 c8, aq_ cy 6 clo 12 (gf_ rl), ai_ cy (rl 0) 12 (Ml 0), ai_ cy (rl 1) 12 (Ml 1), ai_ cy (rl 2) 12 (Ml 2), ai_ cy (rl 3) 12 (Ml 3), ai_ cy (rl 4) 12 (Ml 4), ai_ cy (rl 5) 12 (Ml 5), ai_ cy (rl 6) 12 (Ml 6), ai_ cy (rl 7) 12 (Ml 7), ai_ cy (rl 8) 12 (Ml 8), ai_ cy (rl 9) 12 (Ml 9), ai_ cy (rl 10) 12 (Ml 10), ai_ cy (rl 11) 12 (Ml 11), aq_ cy 6 cro 12 (gf_ rr), ai_ cy (rr 0) 12 (Mr 0), ai_ cy (rr 1) 12 (Mr 1), ai_ cy (rr 2) 12 (Mr 2), ai_ cy (rr 3) 12 (Mr 3), ai_ cy (rr 4) 12 (Mr 4), ai_ cy (rr 5) 12 (Mr 5), ai_ cy (rr 6) 12 (Mr 6), ai_ cy (rr 7) 12 (Mr 7), ai_ cy (rr 8) 12 (Mr 8), ai_ cy (rr 9) 12 (Mr 9), ai_ cy (rr 10) 12 (Mr 10), ai_ cy (rr 11) 12 (Mr 11), ai_ cy c4 40 f4, ai_ cy c5 40 f5, ai_ cy c6 40 f6, ai_ cy c7 12 f7, ai_ cy c8 12 f8, aq_ cy 3 xk 5 (kf_ k0 k1 k2 k3 k4), ob6_0_ k0, ob5_0_ k1, ob9_0_ k2, ob2_0_ k3, ob8_0_ k4, ob1_0_ xt xc ta tb, ai_ cy ta 12 fx, ai_ cy tb 12 fu] s.heap.size = A at hD hQ
  have hA : ∀ q : Nat, s.heap.size ≤ q → A q := fun q h => by rw [← hAe]; exact Or.inr h
  have hS : va_S A s.heap s.heap [] := va_S.rf
  have hl := lv_entry ([.ref xo, .int a1, .int a2]) (n := 3) (Nat.le_of_ble_eq_true rfl)
  rw [lg_entry_eq]
  generalize (lg_sl ([.ref xo, .int a1, .int a2]) ++ List.replicate (3 - (lg_sl ([.ref xo, .int a1, .int a2])).length) Slot.unset).toArray = ls at hl ⊢
  have hl : lv_has ls 3 [(0, .ref xo), (1, .int a1), (2, .int a2)] := hl
  have zm2 : ((-2) : Int32).toInt = -2 := by decide
  have zm1 : ((-1) : Int32).toInt = -1 := by decide
  have z0 : (0 : Int32).toInt = 0 := by decide
  have zq0 : (0 : Int32).toInt = 0 := by decide
  have zq1 : (1 : Int32).toInt = 1 := by decide
  have zq2 : (2 : Int32).toInt = 2 := by decide
  have zq3 : (3 : Int32).toInt = 3 := by decide
  have zq4 : (4 : Int32).toInt = 4 := by decide
  have zq5 : (5 : Int32).toInt = 5 := by decide
  have zqm9 : ((-9) : Int32).toInt = -9 := by decide
  have zqm1 : ((-1) : Int32).toInt = -1 := by decide
  have zqm2 : ((-2) : Int32).toInt = -2 := by decide
  have cv_ := clI (i := vp) (by omega)
  refine lv_aload_n hx hb dB_36_3_3.1.1.1.1 rfl (lv_at hl 0 rfl) ?_
  refine va_get (ci := 11) (v := .ref xn) (C := RX11) (T := TX11) (N := 12) hx hb hts (fun _ h => List.mem_cons_of_mem _ (List.mem_append_left _ (List.mem_append_left _ (List.mem_append_left _ (List.mem_append_right _ h))))) hown hK.1 hP 0 rfl rfl 1 (by decide) (hts (.fieldLink RX11 31 "CutAtlas" "net" "LCutAtlas$Net;") (List.mem_of_getElem? (i := 1) rfl)) (fun _ h9 => h9) rfl dB_36_3_3.1.1.1.2 ?_
  refine ct_R hP hD [ob3_0_ xn vp vn n1 n2 n3 n4 n5, ai_ cy n1 40 fk, ai_ cy n2 40 fs] [1, 2, 3] (by decide) rfl (fun hPc hDw => ?_)
  have hFc := va_free (wc := []) hD hS hA [] rfl
  refine va_calli (va_runV (As := []) (rest := []) ⟨hx, hb, hml, hown, hts⟩ (c_X3_isWhole2 l D cy s.heap.size xn n1 n2 n3 n4 n5 vp vn fk fs (by first | with_reducible assumption | omega | assumption)) (cwV 0 hts gX11_between_X3_isWhole rfl rfl rfl ⟨rfl, hd_X3_isWhole⟩ ⟨Nat.le_of_ble_eq_true rfl, Nat.le_of_ble_eq_true rfl⟩) ⟨bl_, va_recvX hK.1 hP (ci := 3) (q0 := 1) rfl rfl, fun U hU hW => ⟨rfl, by rw [hU], by rw [hU]; exact hPc, kk_mv hW hK, hDw⟩⟩ rfl rfl hl.1 rfl (lv_room (Nat.le_of_ble_eq_true rfl)) dB_36_3_3.1.1.2.1 ⟨Nat.le_of_ble_eq_true rfl, Nat.le_of_ble_eq_true rfl⟩) hS (fun q _ h => hFc q h) hFc (fun r_1 u t H locs ht hvm hw hB hz1 hk1 hS => ?_)
  have hP : va_P D vwCl _ H := ro_keep hP hk1
  obtain ⟨f0_r_1, f1_r_1⟩ := hw
  have hw1_ := f1_r_1
  refine lv_if_ne (tgt := 13) hx hb dB_36_3_3.1.1.2.2 (by decide) (fun c_2 => ?_) (fun c_2 => ?_)
  · have t_2 : ¬ r_1.toInt = (0 : Int32).toInt := fun h => c_2 (Int32.toInt_inj.mp h)
    have hwb_ := whI_1 (P := vp.toInt) (c := sumI (bkF fk fs) vn.toNatClampNeg) (by omega)
    have hwi_ := hwb_.2
    refine lv_aload_n hx hb dB_36_3_3.1.2.2.1 rfl (lv_at hl 0 rfl) ?_
    refine va_get (ci := 11) (v := .ref xn) (C := RX11) (T := TX11) (N := 12) hx hb hts (fun _ h => List.mem_cons_of_mem _ (List.mem_append_left _ (List.mem_append_left _ (List.mem_append_left _ (List.mem_append_right _ h))))) hown hK.1 hP 0 rfl rfl 1 (by decide) (hts (.fieldLink RX11 31 "CutAtlas" "net" "LCutAtlas$Net;") (List.mem_of_getElem? (i := 1) rfl)) (fun _ h9 => h9) rfl dB_36_3_3.1.2.2.2 ?_
    refine lv_iload_n hx hb dB_36_3_3.2.1.1.1 rfl (lv_at hl 1 rfl) ?_
    refine lv_i2l (v := a1.toInt64) hx hb dB_36_3_3.2.1.1.2 rfl ?_
    have q_18 : (a1.toInt64).toInt = a1.toInt := Int32.toInt_toInt64 a1
    refine lv_iload_n hx hb dB_36_3_3.2.1.2.1 rfl (lv_at hl 2 rfl) ?_
    refine lv_i2l (v := a2.toInt64) hx hb dB_36_3_3.2.1.2.2 rfl ?_
    have q_20 : (a2.toInt64).toInt = a2.toInt := Int32.toInt_toInt64 a2
    refine ct_R hP hD [ob3_0_ xn vp vn n1 n2 n3 n4 n5] [1] (by decide) rfl (fun hPc hDw => ?_)
    have hFc := va_free (wc := []) hD hS hA [] rfl
    refine va_calli (va_runV (As := [.long a1.toInt64, .long a2.toInt64]) (rest := []) ⟨hx, hb, hml, hown, hts⟩ (c_X3_hasPair l D cy H.size xn n1 n2 n3 n4 n5 vp vn a1.toInt64 a2.toInt64) (cwV 2 hts gX11_between_X3_hasPair rfl rfl rfl ⟨rfl, hd_X3_hasPair⟩ ⟨Nat.le_of_ble_eq_true rfl, Nat.le_of_ble_eq_true rfl⟩) ⟨bl_, va_recvX hK.1 hP (ci := 3) (q0 := 1) rfl rfl, fun U hU hW => ⟨rfl, by rw [hU], by rw [hU]; exact hPc, kk_mv hW hK, hDw⟩⟩ rfl rfl hl.1 rfl (lv_room (Nat.le_of_ble_eq_true rfl)) dB_36_3_3.2.2.1.1 ⟨Nat.le_of_ble_eq_true rfl, Nat.le_of_ble_eq_true rfl⟩) hS (fun q _ h => hFc q h) hFc (fun r_3 u t H locs ht hvm hw hB hz1 hk1 hS => ?_)
    have hP : va_P D vwCl _ H := ro_keep hP hk1
    rcases hw with ⟨w_4, e_⟩ | ⟨w_4, e_⟩
    · have e_ := e_.symm
      subst e_
      refine lv_if_ne (tgt := 29) hx hb dB_36_3_3.2.2.1.2 (by decide) (fun c_5 => ?_) (fun c_5 => ?_)
      · have _ := c_5
        refine lv_aload_n hx hb dB_36_3_4.1.1.1 rfl (lv_at hl 0 rfl) ?_
        refine va_get (ci := 11) (v := .ref xt) (C := RX11) (T := TX11) (N := 12) hx hb hts (fun _ h => List.mem_cons_of_mem _ (List.mem_append_left _ (List.mem_append_left _ (List.mem_append_left _ (List.mem_append_right _ h))))) hown hK.1 hP 0 rfl rfl 4 (by decide) (hts (.fieldLink RX11 56 "CutAtlas" "cutTree" "LCutAtlas$CutTree;") (List.mem_of_getElem? (i := 2) rfl)) (fun _ h9 => h9) rfl dB_36_3_4.1.1.2 ?_
        refine ct_S hP hD hS hA [ob1_0_ xt xc ta tb, ob0_0_ xc xn xk clo cro c4 c5 c6 c7 c8, ob3_0_ xn vp vn n1 n2 n3 n4 n5, ai_ cy ta 12 fx, ai_ cy tb 12 fu, ai_ cy n1 40 fk, ai_ cy n2 40 fs, ai_ cy n3 40 fe, ai_ cy n4 40 fw, aq_ cy 6 clo 12 (gf_ rl), ai_ cy (rl 0) 12 (Ml 0), ai_ cy (rl 1) 12 (Ml 1), ai_ cy (rl 2) 12 (Ml 2), ai_ cy (rl 3) 12 (Ml 3), ai_ cy (rl 4) 12 (Ml 4), ai_ cy (rl 5) 12 (Ml 5), ai_ cy (rl 6) 12 (Ml 6), ai_ cy (rl 7) 12 (Ml 7), ai_ cy (rl 8) 12 (Ml 8), ai_ cy (rl 9) 12 (Ml 9), ai_ cy (rl 10) 12 (Ml 10), ai_ cy (rl 11) 12 (Ml 11), aq_ cy 6 cro 12 (gf_ rr), ai_ cy (rr 0) 12 (Mr 0), ai_ cy (rr 1) 12 (Mr 1), ai_ cy (rr 2) 12 (Mr 2), ai_ cy (rr 3) 12 (Mr 3), ai_ cy (rr 4) 12 (Mr 4), ai_ cy (rr 5) 12 (Mr 5), ai_ cy (rr 6) 12 (Mr 6), ai_ cy (rr 7) 12 (Mr 7), ai_ cy (rr 8) 12 (Mr 8), ai_ cy (rr 9) 12 (Mr 9), ai_ cy (rr 10) 12 (Mr 10), ai_ cy (rr 11) 12 (Mr 11), ai_ cy c4 40 f4, ai_ cy c5 40 f5, ai_ cy c6 40 f6, ai_ cy c7 12 f7, ai_ cy c8 12 f8, aq_ cy 3 xk 5 (kf_ k0 k1 k2 k3 k4), ob6_0_ k0, ob5_0_ k1, ob9_0_ k2, ob2_0_ k3, ob8_0_ k4] [45, 7, 1, 46, 47, 2, 3, 4, 5, 8, 9, 10, 11, 12, 13, 14, 15, 16, 17, 18, 19, 20, 21, 22, 23, 24, 25, 26, 27, 28, 29, 30, 31, 32, 33, 34, 35, 36, 37, 38, 39, 40, 41, 42, 43, 44] (by decide +kernel) rfl (fun hPc hDw hFc hC_ => ?_)
        refine va_callv (va_runV (As := []) (rest := []) ⟨hx, hb, hml, hown, hts⟩ (c_X1_grow2 l D cy H.size xt ta tb xc xk clo cro c4 c5 c6 c7 c8 xn n1 n2 n3 n4 n5 vp vn fx fu fk fs fe fw rl Ml rr Mr f4 f5 f6 f7 f8 k0 k1 k2 k3 k4 (by first | with_reducible assumption | omega | assumption) (by first | with_reducible assumption | omega | assumption) (by first | with_reducible assumption | assumption | omega) (by first | with_reducible assumption | omega | assumption) (by first | with_reducible assumption | assumption | omega) (by first | with_reducible assumption | assumption | omega) (by first | with_reducible assumption | assumption | omega) (by first | with_reducible assumption | assumption | omega) (by first | with_reducible assumption | assumption | omega)) (cwV 0 hts gX11_between_X1_grow rfl rfl rfl ⟨rfl, hd_X1_grow⟩ ⟨Nat.le_of_ble_eq_true rfl, Nat.le_of_ble_eq_true rfl⟩) ⟨bl_g, va_recvX hK.1 hP (ci := 1) (q0 := 45) rfl rfl, fun U hU hW => ⟨rfl, by rw [hU], by rw [hU]; exact hPc, ⟨kk_mv hW hK, arrOfT_moved hW.alike hG⟩, hDw⟩⟩ rfl rfl hl.1 rfl (lv_room (Nat.le_of_ble_eq_true rfl)) dB_36_3_4.1.2.1 ⟨Nat.le_of_ble_eq_true rfl, Nat.le_of_ble_eq_true rfl⟩) hS (fun q _ h => hFc q h) hFc (fun u t H locs ht hvm hw hB hz1 hk1 hS => ?_)
        obtain ⟨eMr_7, efx_8, efu_9, e4_10, e7_11, e8_12, eMl_13, e5_14, e6_15, g_16, g_17, g_18, g_19, g_20, g_21, g_22, hP1, hD1⟩ := hB
        rw [ht] at hP1
        obtain ⟨hP, hD⟩ := va_join (wr := [ob11_0_ xo xk xn xc xh xt xw xm xp pf ph tr fi, ai_ cy n5 40 fp]) (w1 := [ob1_0_ xt xc ta tb, ob0_0_ xc xn xk clo cro c4 c5 c6 c7 c8, ob3_0_ xn vp vn n1 n2 n3 n4 n5, ai_ cy ta 12 efx_8, ai_ cy tb 12 efu_9, ai_ cy n1 40 fk, ai_ cy n2 40 fs, ai_ cy n3 40 fe, ai_ cy n4 40 fw, aq_ cy 6 clo 12 (gf_ rl), ai_ cy (rl 0) 12 (eMl_13 0), ai_ cy (rl 1) 12 (eMl_13 1), ai_ cy (rl 2) 12 (eMl_13 2), ai_ cy (rl 3) 12 (eMl_13 3), ai_ cy (rl 4) 12 (eMl_13 4), ai_ cy (rl 5) 12 (eMl_13 5), ai_ cy (rl 6) 12 (eMl_13 6), ai_ cy (rl 7) 12 (eMl_13 7), ai_ cy (rl 8) 12 (eMl_13 8), ai_ cy (rl 9) 12 (eMl_13 9), ai_ cy (rl 10) 12 (eMl_13 10), ai_ cy (rl 11) 12 (eMl_13 11), aq_ cy 6 cro 12 (gf_ rr), ai_ cy (rr 0) 12 (eMr_7 0), ai_ cy (rr 1) 12 (eMr_7 1), ai_ cy (rr 2) 12 (eMr_7 2), ai_ cy (rr 3) 12 (eMr_7 3), ai_ cy (rr 4) 12 (eMr_7 4), ai_ cy (rr 5) 12 (eMr_7 5), ai_ cy (rr 6) 12 (eMr_7 6), ai_ cy (rr 7) 12 (eMr_7 7), ai_ cy (rr 8) 12 (eMr_7 8), ai_ cy (rr 9) 12 (eMr_7 9), ai_ cy (rr 10) 12 (eMr_7 10), ai_ cy (rr 11) 12 (eMr_7 11), ai_ cy c4 40 e4_10, ai_ cy c5 40 e5_14, ai_ cy c6 40 e6_15, ai_ cy c7 12 e7_11, ai_ cy c8 12 e8_12, aq_ cy 3 xk 5 (kf_ k0 k1 k2 k3 k4), ob6_0_ k0, ob5_0_ k1, ob9_0_ k2, ob2_0_ k3, ob8_0_ k4]) hP hD [45, 7, 1, 46, 47, 2, 3, 4, 5, 8, 9, 10, 11, 12, 13, 14, 15, 16, 17, 18, 19, 20, 21, 22, 23, 24, 25, 26, 27, 28, 29, 30, 31, 32, 33, 34, 35, 36, 37, 38, 39, 40, 41, 42, 43, 44] [0, 6] hC_ rfl (by decide) (by decide) hk1 hFc hP1 hD1
        refine pd_S hP hD [ob11_0_ xo xk xn xc xh xt xw xm xp pf ph tr fi, ob3_0_ xn vp vn n1 n2 n3 n4 n5, ai_ cy n1 40 fk, ai_ cy n2 40 fs, ai_ cy n3 40 fe, ai_ cy n4 40 fw, ai_ cy n5 40 fp, ob0_0_ xc xn xk clo cro c4 c5 c6 c7 c8, aq_ cy 6 clo 12 (gf_ rl), ai_ cy (rl 0) 12 (eMl_13 0), ai_ cy (rl 1) 12 (eMl_13 1), ai_ cy (rl 2) 12 (eMl_13 2), ai_ cy (rl 3) 12 (eMl_13 3), ai_ cy (rl 4) 12 (eMl_13 4), ai_ cy (rl 5) 12 (eMl_13 5), ai_ cy (rl 6) 12 (eMl_13 6), ai_ cy (rl 7) 12 (eMl_13 7), ai_ cy (rl 8) 12 (eMl_13 8), ai_ cy (rl 9) 12 (eMl_13 9), ai_ cy (rl 10) 12 (eMl_13 10), ai_ cy (rl 11) 12 (eMl_13 11), aq_ cy 6 cro 12 (gf_ rr), ai_ cy (rr 0) 12 (eMr_7 0), ai_ cy (rr 1) 12 (eMr_7 1), ai_ cy (rr 2) 12 (eMr_7 2), ai_ cy (rr 3) 12 (eMr_7 3), ai_ cy (rr 4) 12 (eMr_7 4), ai_ cy (rr 5) 12 (eMr_7 5), ai_ cy (rr 6) 12 (eMr_7 6), ai_ cy (rr 7) 12 (eMr_7 7), ai_ cy (rr 8) 12 (eMr_7 8), ai_ cy (rr 9) 12 (eMr_7 9), ai_ cy (rr 10) 12 (eMr_7 10), ai_ cy (rr 11) 12 (eMr_7 11), ai_ cy c4 40 e4_10, ai_ cy c5 40 e5_14, ai_ cy c6 40 e6_15, ai_ cy c7 12 e7_11, ai_ cy c8 12 e8_12, aq_ cy 3 xk 5 (kf_ k0 k1 k2 k3 k4), ob6_0_ k0, ob5_0_ k1, ob9_0_ k2, ob2_0_ k3, ob8_0_ k4, ob1_0_ xt xc ta tb, ai_ cy ta 12 efx_8, ai_ cy tb 12 efu_9] [0, 4, 7, 8, 9, 10, 1, 3, 11, 12, 13, 14, 15, 16, 17, 18, 19, 20, 21, 22, 23, 24, 25, 26, 27, 28, 29, 30, 31, 32, 33, 34, 35, 36, 37, 38, 39, 40, 41, 42, 43, 44, 45, 46, 47, 2, 5, 6] (by decide +kernel) rfl (fun hP hD => ?_)
        obtain ⟨d_, hd_⟩ := g_16
        have hwc_ : whC (cutF fk fs fe fw (-9) vn.toNatClampNeg) vp.toNatClampNeg := whF hnc hpr r_fw hvn.2 hwi_
        have hlt_ : ltr (lam (cutF fk fs fe fw (-9) vn.toNatClampNeg)) vp.toNatClampNeg (nF efx_8) (qF_ efu_9) d_ := ltr_of hwc_ (by omega) hd_ g_17
        refine lv_aload_n hx hb dB_36_3_4.1.2.2 rfl (lv_at hl 0 rfl) ?_
        refine va_get (ci := 11) (v := .ref xt) (C := RX11) (T := TX11) (N := 12) hx hb hts (fun _ h => List.mem_cons_of_mem _ (List.mem_append_left _ (List.mem_append_left _ (List.mem_append_left _ (List.mem_append_right _ h))))) hown hK.1 hP 0 rfl rfl 4 (by decide) (hts (.fieldLink RX11 56 "CutAtlas" "cutTree" "LCutAtlas$CutTree;") (List.mem_of_getElem? (i := 2) rfl)) (fun _ h9 => h9) rfl dB_36_3_4.2.1.1 ?_
        refine lv_iload_n hx hb dB_36_3_4.2.1.2 rfl (lv_at hl 1 rfl) ?_
        refine lv_iload_n hx hb dB_36_3_4.2.2.1 rfl (lv_at hl 2 rfl) ?_
        refine ct_R hP hD [ob1_0_ xt xc ta tb, ai_ cy ta 12 efx_8, ai_ cy tb 12 efu_9] [45, 46, 47] (by decide) rfl (fun hPc hDw => ?_)
        have hFc := va_free (wc := []) hD hS hA [] rfl
        refine va_calli (va_runV (As := [.int a1, .int a2]) (rest := []) ⟨hx, hb, hml, hown, hts⟩ (c_X1_leastOnWay2 l D cy H.size xt xc ta tb efx_8 d_ (lam (cutF fk fs fe fw (-9) vn.toNatClampNeg)) vp.toNatClampNeg efu_9 a1 a2 (by first | with_reducible assumption | assumption | omega) (by first | with_reducible assumption | omega | assumption) (by first | with_reducible assumption | omega | assumption) (by first | with_reducible assumption | assumption | omega) (by first | with_reducible assumption | assumption | omega)) (cwV 2 hts gX11_between_X1_leastOnWay rfl rfl rfl ⟨rfl, hd_X1_leastOnWay⟩ ⟨Nat.le_of_ble_eq_true rfl, Nat.le_of_ble_eq_true rfl⟩) ⟨bl_, va_recvX hK.1 hP (ci := 1) (q0 := 45) rfl rfl, fun U hU hW => ⟨rfl, by rw [hU], by rw [hU]; exact hPc, kk_mv hW hK, hDw⟩⟩ rfl rfl hl.1 rfl (lv_room (Nat.le_of_ble_eq_true rfl)) dB_36_3_4.2.2.2.1 ⟨Nat.le_of_ble_eq_true rfl, Nat.le_of_ble_eq_true rfl⟩) hS (fun q _ h => hFc q h) hFc (fun r_23 u t H locs ht hvm hw hB hz1 hk1 hS => ?_)
        have hP : va_P D vwCl _ H := ro_keep hP hk1
        obtain ⟨f0_r_23, f1_r_23⟩ := hw
        rw [hQ]
        exact W.iret (v := r_23) hx hb hr (fun t ht hW => ⟨⟨r_23, (), rfl, (⟨fun _ => f0_r_23 (by omega), fun h => absurd (by unfold btI; (repeat' (first | with_reducible refine if_n (by omega) ?_ | with_reducible refine if_ns (by omega) ?_ | with_reducible refine if_nz (by omega) ?_ | with_reducible exact if_p (by omega) (by omega) | with_reducible exact if_ps (by omega) (by omega) | with_reducible exact if_pz (by omega) (by omega))) <;> omega) h⟩), eMl_13, eMr_7, e4_10, e5_14, e6_15, e7_11, e8_12, efx_8, efu_9, (by first | with_reducible assumption | assumption | exact rng_zero (by omega) (by omega) | omega), (by first | with_reducible assumption | assumption | exact rng_zero (by omega) (by omega) | omega), by rw [ht]; exact hP, hD⟩, hS.F ht⟩) hS.2.2 dB_36_3_4.2.2.2.2
      · exact absurd c_5 (by decide)
    · have e_ := e_.symm
      subst e_
      refine lv_if_ne (tgt := 29) hx hb dB_36_3_3.2.2.1.2 (by decide) (fun c_24 => ?_) (fun c_24 => ?_)
      · exact absurd c_24 (by decide)
      · have _ := c_24
        refine lv_iconst (v := (-1)) hx hb dB_36_3_3.2.2.2.1 (by decide) ?_
        rw [hQ]
        exact W.iret (v := (-1)) hx hb hr (fun t ht hW => ⟨⟨(-1), (), rfl, (⟨fun h => absurd h (by unfold btI; (repeat' (first | with_reducible refine if_n (by omega) ?_ | with_reducible refine if_ns (by omega) ?_ | with_reducible refine if_nz (by omega) ?_ | with_reducible exact if_p (by omega) (by omega) | with_reducible exact if_ps (by omega) (by omega) | with_reducible exact if_pz (by omega) (by omega))) <;> omega), fun _ => (by unfold btI; (repeat' (first | with_reducible refine if_n (by omega) ?_ | with_reducible refine if_ns (by omega) ?_ | with_reducible refine if_nz (by omega) ?_ | with_reducible exact if_p (by omega) (by omega) | with_reducible exact if_ps (by omega) (by omega) | with_reducible exact if_pz (by omega) (by omega))) <;> omega)⟩), Ml, Mr, f4, f5, f6, f7, f8, fx, fu, (by first | with_reducible assumption | assumption | exact rng_zero (by omega) (by omega) | omega), (by first | with_reducible assumption | assumption | exact rng_zero (by omega) (by omega) | omega), by rw [ht]; exact hP, hD⟩, hS.F ht⟩) hS.2.2 dB_36_3_3.2.2.2.2
  · have t_2 : r_1.toInt = (0 : Int32).toInt := congrArg Int32.toInt c_2
    refine lv_bipush (v := (-2)) hx hb dB_36_3_3.1.2.1.1 (by decide) ?_
    rw [hQ]
    exact W.iret (v := (-2)) hx hb hr (fun t ht hW => ⟨⟨(-2), (), rfl, (⟨fun h => absurd h (by unfold btI; (repeat' (first | with_reducible refine if_n (by omega) ?_ | with_reducible refine if_ns (by omega) ?_ | with_reducible refine if_nz (by omega) ?_ | with_reducible exact if_p (by omega) (by omega) | with_reducible exact if_ps (by omega) (by omega) | with_reducible exact if_pz (by omega) (by omega))) <;> omega), fun _ => (by unfold btI; (repeat' (first | with_reducible refine if_n (by omega) ?_ | with_reducible refine if_ns (by omega) ?_ | with_reducible refine if_nz (by omega) ?_ | with_reducible exact if_p (by omega) (by omega) | with_reducible exact if_ps (by omega) (by omega) | with_reducible exact if_pz (by omega) (by omega))) <;> omega)⟩), Ml, Mr, f4, f5, f6, f7, f8, fx, fu, (by first | with_reducible assumption | assumption | exact rng_zero (by omega) (by omega) | omega), (by first | with_reducible assumption | assumption | exact rng_zero (by omega) (by omega) | omega), by rw [ht]; exact hP, hD⟩, hS.F ht⟩) hS.2.2 dB_36_3_3.1.2.1.2

set_option maxHeartbeats 4000000 in
set_option maxRecDepth 100000 in
theorem c_X11_least2 (l : Launch) (D : va_G) (cy : Nat → ClassId) (sz : Nat) (xo : Nat) (xk : Nat) (xn : Nat) (xc : Nat) (xh : Nat) (xt : Nat) (xw : Nat) (xm : Nat) (xp : Nat) (pf : Int32) (ph : Int32) (tr : Int64) (fi : Int32) (n1 : Nat) (n2 : Nat) (n3 : Nat) (n4 : Nat) (n5 : Nat) (vp : Int32) (vn : Int32) (clo : Nat) (cro : Nat) (c4 : Nat) (c5 : Nat) (c6 : Nat) (c7 : Nat) (c8 : Nat) (fk : Nat → Int32) (fs : Nat → Int32) (fe : Nat → Int32) (fw : Nat → Int32) (fp : Nat → Int32) (rl : Nat → Nat) (Ml : Nat → Nat → Int32) (rr : Nat → Nat) (Mr : Nat → Nat → Int32) (f4 : Nat → Int32) (f5 : Nat → Int32) (f6 : Nat → Int32) (f7 : Nat → Int32) (f8 : Nat → Int32) (k0 : Nat) (k1 : Nat) (k2 : Nat) (k3 : Nat) (k4 : Nat) (ta : Nat) (tb : Nat) (fx : Nat → Int32) (fu : Nat → Int32) (hvp : 0 ≤ vp.toInt ∧ vp.toInt ≤ 12) (hvn : 0 ≤ vn.toInt ∧ vn.toInt ≤ 40) (hnc : netC vp.toInt vn.toInt fs fe) (hpr : prng fs fe 40) (r_f7 : rng f7 12 (0) (11)) (r_f8 : rng f8 12 (0) (11)) (r_fk : rng fk 40 (0) (4)) (r_fw : rng fw 40 (0) (2000)) : Met l yX11_least wsX11_least ({ frames := 6, cells := 0, slots := 0, locals := 134 }) (va_Pc [.ref xo] (fun U => U.heap.size = sz ∧ va_P D vwCl [ob11_0_ xo xk xn xc xh xt xw xm xp pf ph tr fi, ob3_0_ xn vp vn n1 n2 n3 n4 n5, ai_ cy n1 40 fk, ai_ cy n2 40 fs, ai_ cy n3 40 fe, ai_ cy n4 40 fw, ai_ cy n5 40 fp, ob0_0_ xc xn xk clo cro c4 c5 c6 c7 c8, aq_ cy 6 clo 12 (gf_ rl), ai_ cy (rl 0) 12 (Ml 0), ai_ cy (rl 1) 12 (Ml 1), ai_ cy (rl 2) 12 (Ml 2), ai_ cy (rl 3) 12 (Ml 3), ai_ cy (rl 4) 12 (Ml 4), ai_ cy (rl 5) 12 (Ml 5), ai_ cy (rl 6) 12 (Ml 6), ai_ cy (rl 7) 12 (Ml 7), ai_ cy (rl 8) 12 (Ml 8), ai_ cy (rl 9) 12 (Ml 9), ai_ cy (rl 10) 12 (Ml 10), ai_ cy (rl 11) 12 (Ml 11), aq_ cy 6 cro 12 (gf_ rr), ai_ cy (rr 0) 12 (Mr 0), ai_ cy (rr 1) 12 (Mr 1), ai_ cy (rr 2) 12 (Mr 2), ai_ cy (rr 3) 12 (Mr 3), ai_ cy (rr 4) 12 (Mr 4), ai_ cy (rr 5) 12 (Mr 5), ai_ cy (rr 6) 12 (Mr 6), ai_ cy (rr 7) 12 (Mr 7), ai_ cy (rr 8) 12 (Mr 8), ai_ cy (rr 9) 12 (Mr 9), ai_ cy (rr 10) 12 (Mr 10), ai_ cy (rr 11) 12 (Mr 11), ai_ cy c4 40 f4, ai_ cy c5 40 f5, ai_ cy c6 40 f6, ai_ cy c7 12 f7, ai_ cy c8 12 f8, aq_ cy 3 xk 5 (kf_ k0 k1 k2 k3 k4), ob6_0_ k0, ob5_0_ k1, ob9_0_ k2, ob2_0_ k3, ob8_0_ k4, ob1_0_ xt xc ta tb, ai_ cy ta 12 fx, ai_ cy tb 12 fu] U.heap ∧ kg_ D cy U ∧ va_D (fun _ => True) [ob11_0_ xo xk xn xc xh xt xw xm xp pf ph tr fi, ob3_0_ xn vp vn n1 n2 n3 n4 n5, ai_ cy n1 40 fk, ai_ cy n2 40 fs, ai_ cy n3 40 fe, ai_ cy n4 40 fw, ai_ cy n5 40 fp, ob0_0_ xc xn xk clo cro c4 c5 c6 c7 c8, aq_ cy 6 clo 12 (gf_ rl), ai_ cy (rl 0) 12 (Ml 0), ai_ cy (rl 1) 12 (Ml 1), ai_ cy (rl 2) 12 (Ml 2), ai_ cy (rl 3) 12 (Ml 3), ai_ cy (rl 4) 12 (Ml 4), ai_ cy (rl 5) 12 (Ml 5), ai_ cy (rl 6) 12 (Ml 6), ai_ cy (rl 7) 12 (Ml 7), ai_ cy (rl 8) 12 (Ml 8), ai_ cy (rl 9) 12 (Ml 9), ai_ cy (rl 10) 12 (Ml 10), ai_ cy (rl 11) 12 (Ml 11), aq_ cy 6 cro 12 (gf_ rr), ai_ cy (rr 0) 12 (Mr 0), ai_ cy (rr 1) 12 (Mr 1), ai_ cy (rr 2) 12 (Mr 2), ai_ cy (rr 3) 12 (Mr 3), ai_ cy (rr 4) 12 (Mr 4), ai_ cy (rr 5) 12 (Mr 5), ai_ cy (rr 6) 12 (Mr 6), ai_ cy (rr 7) 12 (Mr 7), ai_ cy (rr 8) 12 (Mr 8), ai_ cy (rr 9) 12 (Mr 9), ai_ cy (rr 10) 12 (Mr 10), ai_ cy (rr 11) 12 (Mr 11), ai_ cy c4 40 f4, ai_ cy c5 40 f5, ai_ cy c6 40 f6, ai_ cy c7 12 f7, ai_ cy c8 12 f8, aq_ cy 3 xk 5 (kf_ k0 k1 k2 k3 k4), ob6_0_ k0, ob5_0_ k1, ob9_0_ k2, ob2_0_ k3, ob8_0_ k4, ob1_0_ xt xc ta tb, ai_ cy ta 12 fx, ai_ cy tb 12 fu])) (va_Qi (fun (r : Int32) (_ : Unit) => ((whI vp.toInt (sumI (bkF fk fs) vn.toNatClampNeg) ≠ 0 → gmn (lam (cutF fk fs fe fw (-9) vn.toNatClampNeg)) vp.toNatClampNeg r.toInt) ∧ (whI vp.toInt (sumI (bkF fk fs) vn.toNatClampNeg) = 0 → r.toInt = -2))) (fun (_ : Unit) (t : State) => ∃ (eMl : Nat → Nat → Int32), ∃ (eMr : Nat → Nat → Int32), ∃ (e4 : Nat → Int32), ∃ (e5 : Nat → Int32), ∃ (e6 : Nat → Int32), ∃ (e7 : Nat → Int32), ∃ (e8 : Nat → Int32), ∃ (efx : Nat → Int32), ∃ (efu : Nat → Int32), (rng e7 12 (0) (11)) ∧ (rng e8 12 (0) (11)) ∧ va_P D vwCl [ob11_0_ xo xk xn xc xh xt xw xm xp pf ph tr fi, ob3_0_ xn vp vn n1 n2 n3 n4 n5, ai_ cy n1 40 fk, ai_ cy n2 40 fs, ai_ cy n3 40 fe, ai_ cy n4 40 fw, ai_ cy n5 40 fp, ob0_0_ xc xn xk clo cro c4 c5 c6 c7 c8, aq_ cy 6 clo 12 (gf_ rl), ai_ cy (rl 0) 12 (eMl 0), ai_ cy (rl 1) 12 (eMl 1), ai_ cy (rl 2) 12 (eMl 2), ai_ cy (rl 3) 12 (eMl 3), ai_ cy (rl 4) 12 (eMl 4), ai_ cy (rl 5) 12 (eMl 5), ai_ cy (rl 6) 12 (eMl 6), ai_ cy (rl 7) 12 (eMl 7), ai_ cy (rl 8) 12 (eMl 8), ai_ cy (rl 9) 12 (eMl 9), ai_ cy (rl 10) 12 (eMl 10), ai_ cy (rl 11) 12 (eMl 11), aq_ cy 6 cro 12 (gf_ rr), ai_ cy (rr 0) 12 (eMr 0), ai_ cy (rr 1) 12 (eMr 1), ai_ cy (rr 2) 12 (eMr 2), ai_ cy (rr 3) 12 (eMr 3), ai_ cy (rr 4) 12 (eMr 4), ai_ cy (rr 5) 12 (eMr 5), ai_ cy (rr 6) 12 (eMr 6), ai_ cy (rr 7) 12 (eMr 7), ai_ cy (rr 8) 12 (eMr 8), ai_ cy (rr 9) 12 (eMr 9), ai_ cy (rr 10) 12 (eMr 10), ai_ cy (rr 11) 12 (eMr 11), ai_ cy c4 40 e4, ai_ cy c5 40 e5, ai_ cy c6 40 e6, ai_ cy c7 12 e7, ai_ cy c8 12 e8, aq_ cy 3 xk 5 (kf_ k0 k1 k2 k3 k4), ob6_0_ k0, ob5_0_ k1, ob9_0_ k2, ob2_0_ k3, ob8_0_ k4, ob1_0_ xt xc ta tb, ai_ cy ta 12 efx, ai_ cy tb 12 efu] t.heap ∧ va_D (va_A [ob11_0_ xo xk xn xc xh xt xw xm xp pf ph tr fi, ob3_0_ xn vp vn n1 n2 n3 n4 n5, ai_ cy n1 40 fk, ai_ cy n2 40 fs, ai_ cy n3 40 fe, ai_ cy n4 40 fw, ai_ cy n5 40 fp, ob0_0_ xc xn xk clo cro c4 c5 c6 c7 c8, aq_ cy 6 clo 12 (gf_ rl), ai_ cy (rl 0) 12 (Ml 0), ai_ cy (rl 1) 12 (Ml 1), ai_ cy (rl 2) 12 (Ml 2), ai_ cy (rl 3) 12 (Ml 3), ai_ cy (rl 4) 12 (Ml 4), ai_ cy (rl 5) 12 (Ml 5), ai_ cy (rl 6) 12 (Ml 6), ai_ cy (rl 7) 12 (Ml 7), ai_ cy (rl 8) 12 (Ml 8), ai_ cy (rl 9) 12 (Ml 9), ai_ cy (rl 10) 12 (Ml 10), ai_ cy (rl 11) 12 (Ml 11), aq_ cy 6 cro 12 (gf_ rr), ai_ cy (rr 0) 12 (Mr 0), ai_ cy (rr 1) 12 (Mr 1), ai_ cy (rr 2) 12 (Mr 2), ai_ cy (rr 3) 12 (Mr 3), ai_ cy (rr 4) 12 (Mr 4), ai_ cy (rr 5) 12 (Mr 5), ai_ cy (rr 6) 12 (Mr 6), ai_ cy (rr 7) 12 (Mr 7), ai_ cy (rr 8) 12 (Mr 8), ai_ cy (rr 9) 12 (Mr 9), ai_ cy (rr 10) 12 (Mr 10), ai_ cy (rr 11) 12 (Mr 11), ai_ cy c4 40 f4, ai_ cy c5 40 f5, ai_ cy c6 40 f6, ai_ cy c7 12 f7, ai_ cy c8 12 f8, aq_ cy 3 xk 5 (kf_ k0 k1 k2 k3 k4), ob6_0_ k0, ob5_0_ k1, ob9_0_ k2, ob2_0_ k3, ob8_0_ k4, ob1_0_ xt xc ta tb, ai_ cy ta 12 fx, ai_ cy tb 12 fu] sz) [ob11_0_ xo xk xn xc xh xt xw xm xp pf ph tr fi, ob3_0_ xn vp vn n1 n2 n3 n4 n5, ai_ cy n1 40 fk, ai_ cy n2 40 fs, ai_ cy n3 40 fe, ai_ cy n4 40 fw, ai_ cy n5 40 fp, ob0_0_ xc xn xk clo cro c4 c5 c6 c7 c8, aq_ cy 6 clo 12 (gf_ rl), ai_ cy (rl 0) 12 (eMl 0), ai_ cy (rl 1) 12 (eMl 1), ai_ cy (rl 2) 12 (eMl 2), ai_ cy (rl 3) 12 (eMl 3), ai_ cy (rl 4) 12 (eMl 4), ai_ cy (rl 5) 12 (eMl 5), ai_ cy (rl 6) 12 (eMl 6), ai_ cy (rl 7) 12 (eMl 7), ai_ cy (rl 8) 12 (eMl 8), ai_ cy (rl 9) 12 (eMl 9), ai_ cy (rl 10) 12 (eMl 10), ai_ cy (rl 11) 12 (eMl 11), aq_ cy 6 cro 12 (gf_ rr), ai_ cy (rr 0) 12 (eMr 0), ai_ cy (rr 1) 12 (eMr 1), ai_ cy (rr 2) 12 (eMr 2), ai_ cy (rr 3) 12 (eMr 3), ai_ cy (rr 4) 12 (eMr 4), ai_ cy (rr 5) 12 (eMr 5), ai_ cy (rr 6) 12 (eMr 6), ai_ cy (rr 7) 12 (eMr 7), ai_ cy (rr 8) 12 (eMr 8), ai_ cy (rr 9) 12 (eMr 9), ai_ cy (rr 10) 12 (eMr 10), ai_ cy (rr 11) 12 (eMr 11), ai_ cy c4 40 e4, ai_ cy c5 40 e5, ai_ cy c6 40 e6, ai_ cy c7 12 e7, ai_ cy c8 12 e8, aq_ cy 3 xk 5 (kf_ k0 k1 k2 k3 k4), ob6_0_ k0, ob5_0_ k1, ob9_0_ k2, ob2_0_ k3, ob8_0_ k4, ob1_0_ xt xc ta tb, ai_ cy ta 12 efx, ai_ cy tb 12 efu]) (va_A [ob11_0_ xo xk xn xc xh xt xw xm xp pf ph tr fi, ob3_0_ xn vp vn n1 n2 n3 n4 n5, ai_ cy n1 40 fk, ai_ cy n2 40 fs, ai_ cy n3 40 fe, ai_ cy n4 40 fw, ai_ cy n5 40 fp, ob0_0_ xc xn xk clo cro c4 c5 c6 c7 c8, aq_ cy 6 clo 12 (gf_ rl), ai_ cy (rl 0) 12 (Ml 0), ai_ cy (rl 1) 12 (Ml 1), ai_ cy (rl 2) 12 (Ml 2), ai_ cy (rl 3) 12 (Ml 3), ai_ cy (rl 4) 12 (Ml 4), ai_ cy (rl 5) 12 (Ml 5), ai_ cy (rl 6) 12 (Ml 6), ai_ cy (rl 7) 12 (Ml 7), ai_ cy (rl 8) 12 (Ml 8), ai_ cy (rl 9) 12 (Ml 9), ai_ cy (rl 10) 12 (Ml 10), ai_ cy (rl 11) 12 (Ml 11), aq_ cy 6 cro 12 (gf_ rr), ai_ cy (rr 0) 12 (Mr 0), ai_ cy (rr 1) 12 (Mr 1), ai_ cy (rr 2) 12 (Mr 2), ai_ cy (rr 3) 12 (Mr 3), ai_ cy (rr 4) 12 (Mr 4), ai_ cy (rr 5) 12 (Mr 5), ai_ cy (rr 6) 12 (Mr 6), ai_ cy (rr 7) 12 (Mr 7), ai_ cy (rr 8) 12 (Mr 8), ai_ cy (rr 9) 12 (Mr 9), ai_ cy (rr 10) 12 (Mr 10), ai_ cy (rr 11) 12 (Mr 11), ai_ cy c4 40 f4, ai_ cy c5 40 f5, ai_ cy c6 40 f6, ai_ cy c7 12 f7, ai_ cy c8 12 f8, aq_ cy 3 xk 5 (kf_ k0 k1 k2 k3 k4), ob6_0_ k0, ob5_0_ k1, ob9_0_ k2, ob2_0_ k3, ob8_0_ k4, ob1_0_ xt xc ta tb, ai_ cy ta 12 fx, ai_ cy tb 12 fu] sz)) 0 0 (va_A [ob11_0_ xo xk xn xc xh xt xw xm xp pf ph tr fi, ob3_0_ xn vp vn n1 n2 n3 n4 n5, ai_ cy n1 40 fk, ai_ cy n2 40 fs, ai_ cy n3 40 fe, ai_ cy n4 40 fw, ai_ cy n5 40 fp, ob0_0_ xc xn xk clo cro c4 c5 c6 c7 c8, aq_ cy 6 clo 12 (gf_ rl), ai_ cy (rl 0) 12 (Ml 0), ai_ cy (rl 1) 12 (Ml 1), ai_ cy (rl 2) 12 (Ml 2), ai_ cy (rl 3) 12 (Ml 3), ai_ cy (rl 4) 12 (Ml 4), ai_ cy (rl 5) 12 (Ml 5), ai_ cy (rl 6) 12 (Ml 6), ai_ cy (rl 7) 12 (Ml 7), ai_ cy (rl 8) 12 (Ml 8), ai_ cy (rl 9) 12 (Ml 9), ai_ cy (rl 10) 12 (Ml 10), ai_ cy (rl 11) 12 (Ml 11), aq_ cy 6 cro 12 (gf_ rr), ai_ cy (rr 0) 12 (Mr 0), ai_ cy (rr 1) 12 (Mr 1), ai_ cy (rr 2) 12 (Mr 2), ai_ cy (rr 3) 12 (Mr 3), ai_ cy (rr 4) 12 (Mr 4), ai_ cy (rr 5) 12 (Mr 5), ai_ cy (rr 6) 12 (Mr 6), ai_ cy (rr 7) 12 (Mr 7), ai_ cy (rr 8) 12 (Mr 8), ai_ cy (rr 9) 12 (Mr 9), ai_ cy (rr 10) 12 (Mr 10), ai_ cy (rr 11) 12 (Mr 11), ai_ cy c4 40 f4, ai_ cy c5 40 f5, ai_ cy c6 40 f6, ai_ cy c7 12 f7, ai_ cy c8 12 f8, aq_ cy 3 xk 5 (kf_ k0 k1 k2 k3 k4), ob6_0_ k0, ob5_0_ k1, ob9_0_ k2, ob2_0_ k3, ob8_0_ k4, ob1_0_ xt xc ta tb, ai_ cy ta 12 fx, ai_ cy tb 12 fu] sz) := by
  refine ofQ (cc := cX11_least) (maxL := 1) (ret := (some .int)) (by decide) rfl ?_
  intro p e s m args below meth c s₁ Q hQ B hml hv
  obtain ⟨rfl, hsz, hP, hK, hD0⟩ := hv
  have hG := hK.2
  have hK := hK.1
  have hx := B.exec
  have hb := B.bytes
  have hr := B.returns
  have hts := atoms_spec (ws := wsX11_least) B.pre
  have hown : s.vm.findClass RX11 = some m.cls := by have h_ := findClass_of_methodNamed B.named; exact h_
  have hlocks := B.notSynchronized
  subst hsz
  have hD := hD0.self (sz := s.heap.size)
  generalize hAe : va_A [ob11_0_ xo xk xn xc xh xt xw xm xp pf ph tr fi, ob3_0_ xn vp vn n1 n2 n3 n4 n5, ai_ cy n1 40 fk, ai_ cy n2 40 fs, ai_ cy n3 40 fe, ai_ cy n4 40 fw, ai_ cy n5 40 fp, ob0_0_ xc xn xk clo cro c4 c5 c6 c7 c8, aq_ cy 6 clo 12 (gf_ rl), ai_ cy (rl 0) 12 (Ml 0), ai_ cy (rl 1) 12 (Ml 1), ai_ cy (rl 2) 12 (Ml 2), ai_ cy (rl 3) 12 (Ml 3), ai_ cy (rl 4) 12 (Ml 4), ai_ cy (rl 5) 12 (Ml 5), ai_ cy (rl 6) 12 (Ml 6), ai_ cy (rl 7) 12 (Ml 7), ai_ cy (rl 8) 12 (Ml 8), ai_ cy (rl 9) 12 (Ml 9), ai_ cy (rl 10) 12 (Ml 10), ai_ cy (rl 11) 12 (Ml 11), aq_ cy 6 cro 12 (gf_ rr), ai_ cy (rr 0) 12 (Mr 0), ai_ cy (rr 1) 12 (Mr 1), ai_ cy (rr 2) 12 (Mr 2), ai_ cy (rr 3) 12 (Mr 3), ai_ cy (rr 4) 12 (Mr 4), ai_ cy (rr 5) 12 (Mr 5), ai_ cy (rr 6) 12 (Mr 6), ai_ cy (rr 7) 12 (Mr 7), ai_ cy (rr 8) 12 (Mr 8), ai_ cy (rr 9) 12 (Mr 9), ai_ cy (rr 10) 12 (Mr 10), ai_ cy (rr 11) 12 (Mr 11), ai_ cy c4 40 f4, ai_ cy c5 40 f5, ai_ cy c6 40 f6, ai_ cy c7 12 f7, ai_ cy c8 12 f8, aq_ cy 3 xk 5 (kf_ k0 k1 k2 k3 k4), ob6_0_ k0, ob5_0_ k1, ob9_0_ k2, ob2_0_ k3, ob8_0_ k4, ob1_0_ xt xc ta tb, ai_ cy ta 12 fx, ai_ cy tb 12 fu] s.heap.size = A at hD hQ
  have hA : ∀ q : Nat, s.heap.size ≤ q → A q := fun q h => by rw [← hAe]; exact Or.inr h
  have hS : va_S A s.heap s.heap [] := va_S.rf
  have hl := lv_entry ([.ref xo]) (n := 1) (Nat.le_of_ble_eq_true rfl)
  rw [lg_entry_eq]
  generalize (lg_sl ([.ref xo]) ++ List.replicate (1 - (lg_sl ([.ref xo])).length) Slot.unset).toArray = ls at hl ⊢
  have hl : lv_has ls 1 [(0, .ref xo)] := hl
  have zm2 : ((-2) : Int32).toInt = -2 := by decide
  have z0 : (0 : Int32).toInt = 0 := by decide
  have zq0 : (0 : Int32).toInt = 0 := by decide
  have zq1 : (1 : Int32).toInt = 1 := by decide
  have zq2 : (2 : Int32).toInt = 2 := by decide
  have zq3 : (3 : Int32).toInt = 3 := by decide
  have zq4 : (4 : Int32).toInt = 4 := by decide
  have zq5 : (5 : Int32).toInt = 5 := by decide
  have zqm9 : ((-9) : Int32).toInt = -9 := by decide
  have zqm1 : ((-1) : Int32).toInt = -1 := by decide
  have zqm2 : ((-2) : Int32).toInt = -2 := by decide
  have cv_ := clI (i := vp) (by omega)
  refine lv_aload_n hx hb dB_36_3_26.1.1.1 rfl (lv_at hl 0 rfl) ?_
  refine va_get (ci := 11) (v := .ref xn) (C := RX11) (T := TX11) (N := 12) hx hb hts (fun _ h => List.mem_cons_of_mem _ (List.mem_append_left _ (List.mem_append_left _ (List.mem_append_left _ (List.mem_append_right _ h))))) hown hK.1 hP 0 rfl rfl 1 (by decide) (hts (.fieldLink RX11 31 "CutAtlas" "net" "LCutAtlas$Net;") (List.mem_of_getElem? (i := 1) rfl)) (fun _ h9 => h9) rfl dB_36_3_26.1.1.2.1 ?_
  refine ct_R hP hD [ob3_0_ xn vp vn n1 n2 n3 n4 n5, ai_ cy n1 40 fk, ai_ cy n2 40 fs] [1, 2, 3] (by decide) rfl (fun hPc hDw => ?_)
  have hFc := va_free (wc := []) hD hS hA [] rfl
  refine va_calli (va_runV (As := []) (rest := []) ⟨hx, hb, hml, hown, hts⟩ (c_X3_isWhole2 l D cy s.heap.size xn n1 n2 n3 n4 n5 vp vn fk fs (by first | with_reducible assumption | omega | assumption)) (cwV 0 hts gX11_least_X3_isWhole rfl rfl rfl ⟨rfl, hd_X3_isWhole⟩ ⟨Nat.le_of_ble_eq_true rfl, Nat.le_of_ble_eq_true rfl⟩) ⟨bl_, va_recvX hK.1 hP (ci := 3) (q0 := 1) rfl rfl, fun U hU hW => ⟨rfl, by rw [hU], by rw [hU]; exact hPc, kk_mv hW hK, hDw⟩⟩ rfl rfl hl.1 rfl (lv_room (Nat.le_of_ble_eq_true rfl)) dB_36_3_26.1.1.2.2 ⟨Nat.le_of_ble_eq_true rfl, Nat.le_of_ble_eq_true rfl⟩) hS (fun q _ h => hFc q h) hFc (fun r_1 u t H locs ht hvm hw hB hz1 hk1 hS => ?_)
  have hP : va_P D vwCl _ H := ro_keep hP hk1
  obtain ⟨f0_r_1, f1_r_1⟩ := hw
  have hw1_ := f1_r_1
  refine lv_if_ne (tgt := 13) hx hb dB_36_3_26.1.2.1 (by decide) (fun c_2 => ?_) (fun c_2 => ?_)
  · have t_2 : ¬ r_1.toInt = (0 : Int32).toInt := fun h => c_2 (Int32.toInt_inj.mp h)
    have hwb_ := whI_1 (P := vp.toInt) (c := sumI (bkF fk fs) vn.toNatClampNeg) (by omega)
    have hwi_ := hwb_.2
    refine lv_aload_n hx hb dB_36_3_26.2.1.1 rfl (lv_at hl 0 rfl) ?_
    refine va_get (ci := 11) (v := .ref xt) (C := RX11) (T := TX11) (N := 12) hx hb hts (fun _ h => List.mem_cons_of_mem _ (List.mem_append_left _ (List.mem_append_left _ (List.mem_append_left _ (List.mem_append_right _ h))))) hown hK.1 hP 0 rfl rfl 4 (by decide) (hts (.fieldLink RX11 56 "CutAtlas" "cutTree" "LCutAtlas$CutTree;") (List.mem_of_getElem? (i := 2) rfl)) (fun _ h9 => h9) rfl dB_36_3_26.2.1.2.1 ?_
    refine ct_S hP hD hS hA [ob1_0_ xt xc ta tb, ob0_0_ xc xn xk clo cro c4 c5 c6 c7 c8, ob3_0_ xn vp vn n1 n2 n3 n4 n5, ai_ cy ta 12 fx, ai_ cy tb 12 fu, ai_ cy n1 40 fk, ai_ cy n2 40 fs, ai_ cy n3 40 fe, ai_ cy n4 40 fw, aq_ cy 6 clo 12 (gf_ rl), ai_ cy (rl 0) 12 (Ml 0), ai_ cy (rl 1) 12 (Ml 1), ai_ cy (rl 2) 12 (Ml 2), ai_ cy (rl 3) 12 (Ml 3), ai_ cy (rl 4) 12 (Ml 4), ai_ cy (rl 5) 12 (Ml 5), ai_ cy (rl 6) 12 (Ml 6), ai_ cy (rl 7) 12 (Ml 7), ai_ cy (rl 8) 12 (Ml 8), ai_ cy (rl 9) 12 (Ml 9), ai_ cy (rl 10) 12 (Ml 10), ai_ cy (rl 11) 12 (Ml 11), aq_ cy 6 cro 12 (gf_ rr), ai_ cy (rr 0) 12 (Mr 0), ai_ cy (rr 1) 12 (Mr 1), ai_ cy (rr 2) 12 (Mr 2), ai_ cy (rr 3) 12 (Mr 3), ai_ cy (rr 4) 12 (Mr 4), ai_ cy (rr 5) 12 (Mr 5), ai_ cy (rr 6) 12 (Mr 6), ai_ cy (rr 7) 12 (Mr 7), ai_ cy (rr 8) 12 (Mr 8), ai_ cy (rr 9) 12 (Mr 9), ai_ cy (rr 10) 12 (Mr 10), ai_ cy (rr 11) 12 (Mr 11), ai_ cy c4 40 f4, ai_ cy c5 40 f5, ai_ cy c6 40 f6, ai_ cy c7 12 f7, ai_ cy c8 12 f8, aq_ cy 3 xk 5 (kf_ k0 k1 k2 k3 k4), ob6_0_ k0, ob5_0_ k1, ob9_0_ k2, ob2_0_ k3, ob8_0_ k4] [45, 7, 1, 46, 47, 2, 3, 4, 5, 8, 9, 10, 11, 12, 13, 14, 15, 16, 17, 18, 19, 20, 21, 22, 23, 24, 25, 26, 27, 28, 29, 30, 31, 32, 33, 34, 35, 36, 37, 38, 39, 40, 41, 42, 43, 44] (by decide +kernel) rfl (fun hPc hDw hFc hC_ => ?_)
    refine va_callv (va_runV (As := []) (rest := []) ⟨hx, hb, hml, hown, hts⟩ (c_X1_grow2 l D cy H.size xt ta tb xc xk clo cro c4 c5 c6 c7 c8 xn n1 n2 n3 n4 n5 vp vn fx fu fk fs fe fw rl Ml rr Mr f4 f5 f6 f7 f8 k0 k1 k2 k3 k4 (by first | with_reducible assumption | omega | assumption) (by first | with_reducible assumption | omega | assumption) (by first | with_reducible assumption | assumption | omega) (by first | with_reducible assumption | omega | assumption) (by first | with_reducible assumption | assumption | omega) (by first | with_reducible assumption | assumption | omega) (by first | with_reducible assumption | assumption | omega) (by first | with_reducible assumption | assumption | omega) (by first | with_reducible assumption | assumption | omega)) (cwV 0 hts gX11_least_X1_grow rfl rfl rfl ⟨rfl, hd_X1_grow⟩ ⟨Nat.le_of_ble_eq_true rfl, Nat.le_of_ble_eq_true rfl⟩) ⟨bl_g, va_recvX hK.1 hP (ci := 1) (q0 := 45) rfl rfl, fun U hU hW => ⟨rfl, by rw [hU], by rw [hU]; exact hPc, ⟨kk_mv hW hK, arrOfT_moved hW.alike hG⟩, hDw⟩⟩ rfl rfl hl.1 rfl (lv_room (Nat.le_of_ble_eq_true rfl)) dB_36_3_26.2.1.2.2 ⟨Nat.le_of_ble_eq_true rfl, Nat.le_of_ble_eq_true rfl⟩) hS (fun q _ h => hFc q h) hFc (fun u t H locs ht hvm hw hB hz1 hk1 hS => ?_)
    obtain ⟨eMr_4, efx_5, efu_6, e4_7, e7_8, e8_9, eMl_10, e5_11, e6_12, g_13, g_14, g_15, g_16, g_17, g_18, g_19, hP1, hD1⟩ := hB
    rw [ht] at hP1
    obtain ⟨hP, hD⟩ := va_join (wr := [ob11_0_ xo xk xn xc xh xt xw xm xp pf ph tr fi, ai_ cy n5 40 fp]) (w1 := [ob1_0_ xt xc ta tb, ob0_0_ xc xn xk clo cro c4 c5 c6 c7 c8, ob3_0_ xn vp vn n1 n2 n3 n4 n5, ai_ cy ta 12 efx_5, ai_ cy tb 12 efu_6, ai_ cy n1 40 fk, ai_ cy n2 40 fs, ai_ cy n3 40 fe, ai_ cy n4 40 fw, aq_ cy 6 clo 12 (gf_ rl), ai_ cy (rl 0) 12 (eMl_10 0), ai_ cy (rl 1) 12 (eMl_10 1), ai_ cy (rl 2) 12 (eMl_10 2), ai_ cy (rl 3) 12 (eMl_10 3), ai_ cy (rl 4) 12 (eMl_10 4), ai_ cy (rl 5) 12 (eMl_10 5), ai_ cy (rl 6) 12 (eMl_10 6), ai_ cy (rl 7) 12 (eMl_10 7), ai_ cy (rl 8) 12 (eMl_10 8), ai_ cy (rl 9) 12 (eMl_10 9), ai_ cy (rl 10) 12 (eMl_10 10), ai_ cy (rl 11) 12 (eMl_10 11), aq_ cy 6 cro 12 (gf_ rr), ai_ cy (rr 0) 12 (eMr_4 0), ai_ cy (rr 1) 12 (eMr_4 1), ai_ cy (rr 2) 12 (eMr_4 2), ai_ cy (rr 3) 12 (eMr_4 3), ai_ cy (rr 4) 12 (eMr_4 4), ai_ cy (rr 5) 12 (eMr_4 5), ai_ cy (rr 6) 12 (eMr_4 6), ai_ cy (rr 7) 12 (eMr_4 7), ai_ cy (rr 8) 12 (eMr_4 8), ai_ cy (rr 9) 12 (eMr_4 9), ai_ cy (rr 10) 12 (eMr_4 10), ai_ cy (rr 11) 12 (eMr_4 11), ai_ cy c4 40 e4_7, ai_ cy c5 40 e5_11, ai_ cy c6 40 e6_12, ai_ cy c7 12 e7_8, ai_ cy c8 12 e8_9, aq_ cy 3 xk 5 (kf_ k0 k1 k2 k3 k4), ob6_0_ k0, ob5_0_ k1, ob9_0_ k2, ob2_0_ k3, ob8_0_ k4]) hP hD [45, 7, 1, 46, 47, 2, 3, 4, 5, 8, 9, 10, 11, 12, 13, 14, 15, 16, 17, 18, 19, 20, 21, 22, 23, 24, 25, 26, 27, 28, 29, 30, 31, 32, 33, 34, 35, 36, 37, 38, 39, 40, 41, 42, 43, 44] [0, 6] hC_ rfl (by decide) (by decide) hk1 hFc hP1 hD1
    refine pd_S hP hD [ob11_0_ xo xk xn xc xh xt xw xm xp pf ph tr fi, ob3_0_ xn vp vn n1 n2 n3 n4 n5, ai_ cy n1 40 fk, ai_ cy n2 40 fs, ai_ cy n3 40 fe, ai_ cy n4 40 fw, ai_ cy n5 40 fp, ob0_0_ xc xn xk clo cro c4 c5 c6 c7 c8, aq_ cy 6 clo 12 (gf_ rl), ai_ cy (rl 0) 12 (eMl_10 0), ai_ cy (rl 1) 12 (eMl_10 1), ai_ cy (rl 2) 12 (eMl_10 2), ai_ cy (rl 3) 12 (eMl_10 3), ai_ cy (rl 4) 12 (eMl_10 4), ai_ cy (rl 5) 12 (eMl_10 5), ai_ cy (rl 6) 12 (eMl_10 6), ai_ cy (rl 7) 12 (eMl_10 7), ai_ cy (rl 8) 12 (eMl_10 8), ai_ cy (rl 9) 12 (eMl_10 9), ai_ cy (rl 10) 12 (eMl_10 10), ai_ cy (rl 11) 12 (eMl_10 11), aq_ cy 6 cro 12 (gf_ rr), ai_ cy (rr 0) 12 (eMr_4 0), ai_ cy (rr 1) 12 (eMr_4 1), ai_ cy (rr 2) 12 (eMr_4 2), ai_ cy (rr 3) 12 (eMr_4 3), ai_ cy (rr 4) 12 (eMr_4 4), ai_ cy (rr 5) 12 (eMr_4 5), ai_ cy (rr 6) 12 (eMr_4 6), ai_ cy (rr 7) 12 (eMr_4 7), ai_ cy (rr 8) 12 (eMr_4 8), ai_ cy (rr 9) 12 (eMr_4 9), ai_ cy (rr 10) 12 (eMr_4 10), ai_ cy (rr 11) 12 (eMr_4 11), ai_ cy c4 40 e4_7, ai_ cy c5 40 e5_11, ai_ cy c6 40 e6_12, ai_ cy c7 12 e7_8, ai_ cy c8 12 e8_9, aq_ cy 3 xk 5 (kf_ k0 k1 k2 k3 k4), ob6_0_ k0, ob5_0_ k1, ob9_0_ k2, ob2_0_ k3, ob8_0_ k4, ob1_0_ xt xc ta tb, ai_ cy ta 12 efx_5, ai_ cy tb 12 efu_6] [0, 4, 7, 8, 9, 10, 1, 3, 11, 12, 13, 14, 15, 16, 17, 18, 19, 20, 21, 22, 23, 24, 25, 26, 27, 28, 29, 30, 31, 32, 33, 34, 35, 36, 37, 38, 39, 40, 41, 42, 43, 44, 45, 46, 47, 2, 5, 6] (by decide +kernel) rfl (fun hP hD => ?_)
    obtain ⟨d_, hd_⟩ := g_13
    have hwc_ : whC (cutF fk fs fe fw (-9) vn.toNatClampNeg) vp.toNatClampNeg := whF hnc hpr r_fw hvn.2 hwi_
    have hlt_ : ltr (lam (cutF fk fs fe fw (-9) vn.toNatClampNeg)) vp.toNatClampNeg (nF efx_5) (qF_ efu_6) d_ := ltr_of hwc_ (by omega) hd_ g_14
    refine lv_aload_n hx hb dB_36_3_26.2.2.1.1 rfl (lv_at hl 0 rfl) ?_
    refine va_get (ci := 11) (v := .ref xt) (C := RX11) (T := TX11) (N := 12) hx hb hts (fun _ h => List.mem_cons_of_mem _ (List.mem_append_left _ (List.mem_append_left _ (List.mem_append_left _ (List.mem_append_right _ h))))) hown hK.1 hP 0 rfl rfl 4 (by decide) (hts (.fieldLink RX11 56 "CutAtlas" "cutTree" "LCutAtlas$CutTree;") (List.mem_of_getElem? (i := 2) rfl)) (fun _ h9 => h9) rfl dB_36_3_26.2.2.1.2 ?_
    refine ct_R hP hD [ob1_0_ xt xc ta tb, ai_ cy ta 12 efx_5, ai_ cy tb 12 efu_6, ob0_0_ xc xn xk clo cro c4 c5 c6 c7 c8, ob3_0_ xn vp vn n1 n2 n3 n4 n5] [45, 46, 47, 7, 1] (by decide) rfl (fun hPc hDw => ?_)
    have hFc := va_free (wc := []) hD hS hA [] rfl
    refine va_calli (va_runV (As := []) (rest := []) ⟨hx, hb, hml, hown, hts⟩ (c_X1_leastNumber2 l D cy H.size xt xc ta tb efx_5 d_ efu_6 xk clo cro c4 c5 c6 c7 c8 xn n1 n2 n3 n4 n5 vp vn (by first | with_reducible assumption | omega | assumption) (by first | with_reducible assumption | omega | assumption)) (cwV 0 hts gX11_least_X1_leastNumber rfl rfl rfl ⟨rfl, hd_X1_leastNumber⟩ ⟨Nat.le_of_ble_eq_true rfl, Nat.le_of_ble_eq_true rfl⟩) ⟨bl_, va_recvX hK.1 hP (ci := 1) (q0 := 45) rfl rfl, fun U hU hW => ⟨rfl, by rw [hU], by rw [hU]; exact hPc, kk_mv hW hK, hDw⟩⟩ rfl rfl hl.1 rfl (lv_room (Nat.le_of_ble_eq_true rfl)) dB_36_3_26.2.2.2.1 ⟨Nat.le_of_ble_eq_true rfl, Nat.le_of_ble_eq_true rfl⟩) hS (fun q _ h => hFc q h) hFc (fun r_20 u t H locs ht hvm hw hB hz1 hk1 hS => ?_)
    have hP : va_P D vwCl _ H := ro_keep hP hk1
    have f0_r_20 := hw
    have hgm_ := gmn_tree hlt_ (by omega) (by rw [cv_]; exact f0_r_20)
    rw [hQ]
    exact W.iret (v := r_20) hx hb hr (fun t ht hW => ⟨⟨r_20, (), rfl, (⟨fun _ => hgm_, fun h => absurd h (by omega)⟩), eMl_10, eMr_4, e4_7, e5_11, e6_12, e7_8, e8_9, efx_5, efu_6, (by first | with_reducible assumption | assumption | exact rng_zero (by omega) (by omega) | omega), (by first | with_reducible assumption | assumption | exact rng_zero (by omega) (by omega) | omega), by rw [ht]; exact hP, hD⟩, hS.F ht⟩) hS.2.2 dB_36_3_26.2.2.2.2
  · have t_2 : r_1.toInt = (0 : Int32).toInt := congrArg Int32.toInt c_2
    refine lv_bipush (v := (-2)) hx hb dB_36_3_26.1.2.2.1 (by decide) ?_
    rw [hQ]
    exact W.iret (v := (-2)) hx hb hr (fun t ht hW => ⟨⟨(-2), (), rfl, (⟨fun h => absurd (by omega) h, fun _ => by decide⟩), Ml, Mr, f4, f5, f6, f7, f8, fx, fu, (by first | with_reducible assumption | assumption | exact rng_zero (by omega) (by omega) | omega), (by first | with_reducible assumption | assumption | exact rng_zero (by omega) (by omega) | omega), by rw [ht]; exact hP, hD⟩, hS.F ht⟩) hS.2.2 dB_36_3_26.1.2.2.2
end

section
set_option maxHeartbeats 4000000 in
set_option maxRecDepth 100000 in
theorem c_X12_leastOf2 (l : Launch) (D : va_G) (cy : Nat → ClassId) (sz : Nat) (mo : Nat) (g5 : Nat) (g6 : Nat) (g7 : Nat) (g8 : Nat) (g9 : Nat) (g10 : Nat) (g12 : Nat) (g13 : Nat) (g14 : Nat) (g15 : Nat) (g16 : Nat) (g17 : Nat) (g18 : Nat) (g19 : Nat) (g20 : Nat) (g22 : Nat) (g23 : Nat) (g24 : Nat) (g29 : Nat) (g30 : Nat) (g31 : Nat) (g32 : Nat) (g33 : Nat) (s0 : Int32) (s1 : Int32) (s3 : Int32) (s4 : Int32) (s11 : Int32) (s21 : Int32) (s25 : Int32) (s26 : Int32) (s27 : Int32) (s28 : Int32) (t2 : Int64) (f5 : Nat → Int32) (f6 : Nat → Int32) (f7 : Nat → Int32) (f8 : Nat → Int32) (f10 : Nat → Int32) (hN : 0 ≤ s4.toInt ∧ s4.toInt ≤ 40) (hPl : 0 ≤ s3.toInt ∧ s3.toInt ≤ 12) (hnet : netE s3.toInt s4.toInt f6 f7 f10) (hwc : whC (cutR f5 f6 f7 f8 f10 s21.toInt s4.toNatClampNeg) s3.toNatClampNeg) (h2s : 2 ≤ s3.toInt) (r_f6 : rng f6 40 (0) (11)) (r_f7 : rng f7 40 (0) (11)) (r_f8 : rng f8 40 (0) (2000)) : Met l yX12_leastOf wsX12_leastOf ({ frames := 4, cells := 0, slots := 0, locals := 96 }) (va_Pc [.ref mo] (fun U => U.heap.size = sz ∧ va_P D vwCl [ob12_0_ mo s0 s1 t2 s3 s4 g5 g6 g7 g8 g9 g10 s11 g12 g13 g14 g15 g16 g17 g18 g19 g20 s21 g22 g23 g24 s25 s26 s27 s28 g29 g30 g31 g32 g33, ai_ cy g5 40 f5, ai_ cy g6 40 f6, ai_ cy g7 40 f7, ai_ cy g8 40 f8, az_ cy g10 40 f10] U.heap ∧ kk_ D cy U ∧ va_D (fun _ => True) [ob12_0_ mo s0 s1 t2 s3 s4 g5 g6 g7 g8 g9 g10 s11 g12 g13 g14 g15 g16 g17 g18 g19 g20 s21 g22 g23 g24 s25 s26 s27 s28 g29 g30 g31 g32 g33, ai_ cy g5 40 f5, ai_ cy g6 40 f6, ai_ cy g7 40 f7, ai_ cy g8 40 f8, az_ cy g10 40 f10])) (va_Qi (fun (r : Int32) (_ : Unit) => (gmn (lam (cutR f5 f6 f7 f8 f10 s21.toInt s4.toNatClampNeg)) s3.toNatClampNeg r.toInt)) (fun (_ : Unit) (_ : State) => True) (va_A [] sz)) 0 0 (va_A [] sz) := by
  refine ofQ (cc := cX12_leastOf) (maxL := 4) (ret := (some .int)) (by decide) rfl ?_
  intro p e s m args below meth c s₁ Q hQ B hml hv
  obtain ⟨rfl, hsz, hP, hK, hD0⟩ := hv
  have hx := B.exec
  have hb := B.bytes
  have hr := B.returns
  have hts := atoms_spec (ws := wsX12_leastOf) B.pre
  have hown : s.vm.findClass RX12 = some m.cls := by have h_ := findClass_of_methodNamed B.named; exact h_
  have hlocks := B.notSynchronized
  subst hsz
  have hD : va_D (va_A [] s.heap.size) [] := dd_nil
  generalize hAe : va_A [] s.heap.size = A at hD hQ
  have hA : ∀ q : Nat, s.heap.size ≤ q → A q := fun q h => by rw [← hAe]; exact Or.inr h
  have hS : va_S A s.heap s.heap [] := va_S.rf
  have hl := lv_entry ([.ref mo]) (n := 4) (Nat.le_of_ble_eq_true rfl)
  rw [lg_entry_eq]
  generalize (lg_sl ([.ref mo]) ++ List.replicate (4 - (lg_sl ([.ref mo])).length) Slot.unset).toArray = ls at hl ⊢
  have hl : lv_has ls 4 [(0, .ref mo)] := hl
  have z0 : (0 : Int32).toInt = 0 := by decide
  have z1 : (1 : Int32).toInt = 1 := by decide
  have z1000000 : (1000000 : Int32).toInt = 1000000 := by decide
  refine lv_ldc (v := 1000000) hx hb hown (hts (.constant RX12 159 (1000000)) (List.mem_of_getElem? (i := 1) rfl)) dB_3_2_35.1.1.1.1 ?_
  refine lv_istore_n (lv' := [(1, .int 1000000), (0, .ref mo)]) hx hb dB_3_2_35.1.1.1.2 rfl hl (by decide) rfl (fun ls hl => ?_)
  refine lv_iconst (v := 1) hx hb dB_3_2_35.1.1.2.1 (by decide) ?_
  refine lv_istore_n (lv' := [(2, .int 1), (1, .int 1000000), (0, .ref mo)]) hx hb dB_3_2_35.1.1.2.2 rfl hl (by decide) rfl (fun ls hl => ?_)
  suffices LOOP_1 : ∀ (n_1 : Nat) (x2_1 : Int32) (x1_1 : Int32) (H : Heap) (locs : List Loc) (ls : Array Slot), 13 - x2_1.toInt < (n_1 : Int) → (1 ≤ x2_1.toInt) → (x2_1.toInt ≤ s3.toInt) → (lsW (cutR f5 f6 f7 f8 f10 s21.toInt s4.toNatClampNeg) x2_1.toInt x1_1.toInt) → va_P D vwCl [ob12_0_ mo s0 s1 t2 s3 s4 g5 g6 g7 g8 g9 g10 s11 g12 g13 g14 g15 g16 g17 g18 g19 g20 s21 g22 g23 g24 s25 s26 s27 s28 g29 g30 g31 g32 g33, ai_ cy g5 40 f5, ai_ cy g6 40 f6, ai_ cy g7 40 f7, ai_ cy g8 40 f8, az_ cy g10 40 f10] H → va_S A s.heap H locs → lv_has ls 4 [(2, .int x2_1), (1, .int x1_1), (0, .ref mo)] → W p l e ({ frames := 4, cells := 0, slots := 0, locals := 96 } : Room) s m (([.ref mo] : List Value).toArray) below meth c H locs 0 0 Q (F0 m 5 ls []) from LOOP_1 ((13 - (1 : Int32).toInt).toNat + 1) (1 : Int32) (1000000 : Int32) _ _ _ (by omega) (by first | with_reducible assumption | omega | assumption) (by first | with_reducible assumption | omega | assumption) (by first | exact lsW_0 | exact lsW_st v_none (by omega) (by omega) hla_ (by omega)) hP hS (lv_sub hl [0, 1, 2] rfl)
  intro n_1
  induction n_1 with
  | zero =>
    intro x2_1 x1_1 H locs ls hm v0_1 v1_1 v2_1 hP hS hl
    exact absurd hm (by omega)
  | succ n_1 ih_1 =>
    intro x2_1 x1_1 H locs ls hm v0_1 v1_1 v2_1 hP hS hl
    refine lv_iload_n hx hb dB_3_2_35.1.2.1.1 rfl (lv_at hl 0 rfl) ?_
    refine lv_aload_n hx hb dB_3_2_35.1.2.1.2 rfl (lv_at hl 2 rfl) ?_
    refine va_get (ci := 12) (v := .int s3) (C := RX12) (T := TX12) (N := 34) hx hb hts (fun _ h => List.mem_cons_of_mem _ (List.mem_append_right _ h)) hown hK.1 hP 0 rfl rfl 3 (by decide) (hts (.fieldLink RX12 88 "CutAtlasModel" "places" "I") (List.mem_of_getElem? (i := 2) rfl)) (fun _ h9 => h9) rfl dB_3_2_35.1.2.2.1 ?_
    refine lv_icmp_ge (tgt := 37) hx hb dB_3_2_35.1.2.2.2 (by decide) (fun c_2 => ?_) (fun c_2 => ?_)
    · have t_2 : s3.toInt ≤ x2_1.toInt := Int32.le_iff_toInt_le.mp c_2
      refine lv_iload_n hx hb dB_3_2_36.2.2.1 rfl (lv_at hl 1 rfl) ?_
      rw [hQ]
      exact W.iret (v := x1_1) hx hb hr (fun t ht hW => ⟨⟨x1_1, (), rfl, (lsW_end hwc h2s v2_1 (by omega)), trivial⟩, hS.F ht⟩) hS.2.2 dB_3_2_36.2.2.2
    · have t_2 : ¬ s3.toInt ≤ x2_1.toInt := fun h => c_2 (Int32.le_iff_toInt_le.mpr h)
      refine lv_aload_n hx hb dB_3_2_35.2.1.1.1 rfl (lv_at hl 2 rfl) ?_
      refine lv_iload_n hx hb dB_3_2_35.2.1.1.2 rfl (lv_at hl 0 rfl) ?_
      refine lv_iconst (v := 0) hx hb dB_3_2_35.2.1.2.1 (by decide) ?_
      refine ct_R hP hD0 [ob12_0_ mo s0 s1 t2 s3 s4 g5 g6 g7 g8 g9 g10 s11 g12 g13 g14 g15 g16 g17 g18 g19 g20 s21 g22 g23 g24 s25 s26 s27 s28 g29 g30 g31 g32 g33, ai_ cy g5 40 f5, ai_ cy g6 40 f6, ai_ cy g7 40 f7, ai_ cy g8 40 f8, az_ cy g10 40 f10] [0, 1, 2, 3, 4, 5] (by decide) rfl (fun hPc hDw => ?_)
      have hFc := va_free (wc := []) hD hS hA [] rfl
      refine va_calli (va_runV (As := [.int x2_1, .int 0]) (rest := []) ⟨hx, hb, hml, hown, hts⟩ (c_X12_mostOf2 l D cy H.size mo g5 g6 g7 g8 g9 g10 g12 g13 g14 g15 g16 g17 g18 g19 g20 g22 g23 g24 g29 g30 g31 g32 g33 s0 s1 s3 s4 s11 s21 s25 s26 s27 s28 t2 f5 f6 f7 f8 f10 x2_1 (0 : Int32) (by first | with_reducible assumption | omega | assumption) (by first | with_reducible assumption | omega | assumption) (by first | with_reducible assumption | assumption | omega) (by first | with_reducible assumption | omega | assumption) (by first | with_reducible assumption | omega | assumption) (by first | with_reducible assumption | assumption | omega) (by first | with_reducible assumption | assumption | omega) (by first | with_reducible assumption | assumption | omega)) (cwV 2 hts gX12_leastOf_X12_mostOf rfl rfl rfl ⟨rfl, hd_X12_mostOf⟩ ⟨Nat.le_of_ble_eq_true rfl, Nat.le_of_ble_eq_true rfl⟩) ⟨bl_, va_recvX hK.1 hP (ci := 12) (q0 := 0) rfl rfl, fun U hU hW => ⟨rfl, by rw [hU], by rw [hU]; exact hPc, kk_mv hW hK, hDw⟩⟩ rfl rfl hl.1 rfl (lv_room (Nat.le_of_ble_eq_true rfl)) dB_3_2_35.2.1.2.2 ⟨Nat.le_of_ble_eq_true rfl, Nat.le_of_ble_eq_true rfl⟩) hS (fun q _ h => hFc q h) hFc (fun r_3 u t H locs ht hvm hw hB hz1 hk1 hS => ?_)
      have hP : va_P D vwCl _ H := ro_keep hP hk1
      have f0_r_3 := hw
      have hla_ : r_3.toInt = lam (cutR f5 f6 f7 f8 f10 s21.toInt s4.toNatClampNeg) x2_1.toNatClampNeg 0 := (mst_wh hwc (nc_ne (x := x2_1) (y := 0) (by omega) (by decide) (by omega)) f0_r_3).2.1
      refine lv_istore_n (lv' := [(3, .int r_3), (2, .int x2_1), (1, .int x1_1), (0, .ref mo)]) hx hb dB_3_2_35.2.2.1.1 rfl hl (by decide) rfl (fun ls hl => ?_)
      refine lv_iload_n hx hb dB_3_2_35.2.2.1.2 rfl (lv_at hl 0 rfl) ?_
      refine lv_iload_n hx hb dB_3_2_35.2.2.2.1 rfl (lv_at hl 2 rfl) ?_
      refine lv_icmp_ge (tgt := 29) hx hb dB_3_2_35.2.2.2.2 (by decide) (fun c_4 => ?_) (fun c_4 => ?_)
      · have t_4 : x1_1.toInt ≤ r_3.toInt := Int32.le_iff_toInt_le.mp c_4
        refine lv_iload_n hx hb dB_3_2_36.1.2.1 rfl (lv_at hl 2 rfl) ?_
        refine lv_istore_n (lv' := [(1, .int x1_1), (3, .int r_3), (2, .int x2_1), (0, .ref mo)]) hx hb dB_3_2_36.1.2.2 rfl hl (by decide) rfl (fun ls hl => ?_)
        obtain ⟨y_5, ey_5⟩ : ∃ y : Int32, y = x2_1 + 1 := ⟨_, rfl⟩
        have ty_5 : y_5.toInt = x2_1.toInt + (1 : Int32).toInt := by rw [ey_5]; exact addI (by omega) (by omega)
        refine lv_iinc (v := y_5) (lv' := [(2, .int y_5), (1, .int x1_1), (3, .int r_3), (0, .ref mo)]) hx hb dB_3_2_36.2.1.1 hl (k := 2) rfl (by rw [ey_5]; rfl) (by decide) rfl (fun ls hl => ?_)
        refine lv_goto (tgt := 5) hx hb dB_3_2_36.2.1.2 (by decide) ?_
        exact ih_1 y_5 x1_1 _ _ _ (by omega) (by first | with_reducible assumption | omega | assumption) (by first | with_reducible assumption | omega | assumption) (by first | exact lsW_0 | exact lsW_st v2_1 (by omega) (by omega) hla_ (by omega)) hP hS (lv_sub hl [0, 1, 3] rfl)
      · have t_4 : ¬ x1_1.toInt ≤ r_3.toInt := fun h => c_4 (Int32.le_iff_toInt_le.mpr h)
        refine lv_iload_n hx hb dB_3_2_36.1.1.1 rfl (lv_at hl 0 rfl) ?_
        refine lv_goto (tgt := 30) hx hb dB_3_2_36.1.1.2 (by decide) ?_
        refine lv_istore_n (lv' := [(1, .int r_3), (3, .int r_3), (2, .int x2_1), (0, .ref mo)]) hx hb dB_3_2_36.1.2.2 rfl hl (by decide) rfl (fun ls hl => ?_)
        obtain ⟨y_6, ey_6⟩ : ∃ y : Int32, y = x2_1 + 1 := ⟨_, rfl⟩
        have ty_6 : y_6.toInt = x2_1.toInt + (1 : Int32).toInt := by rw [ey_6]; exact addI (by omega) (by omega)
        refine lv_iinc (v := y_6) (lv' := [(2, .int y_6), (1, .int r_3), (3, .int r_3), (0, .ref mo)]) hx hb dB_3_2_36.2.1.1 hl (k := 2) rfl (by rw [ey_6]; rfl) (by decide) rfl (fun ls hl => ?_)
        refine lv_goto (tgt := 5) hx hb dB_3_2_36.2.1.2 (by decide) ?_
        exact ih_1 y_6 r_3 _ _ _ (by omega) (by first | with_reducible assumption | omega | assumption) (by first | with_reducible assumption | omega | assumption) (by first | exact lsW_0 | exact lsW_st v2_1 (by omega) (by omega) hla_ (by omega)) hP hS (lv_sub hl [0, 1, 3] rfl)

set_option maxHeartbeats 4000000 in
set_option maxRecDepth 100000 in
theorem c_X12_between2 (l : Launch) (D : va_G) (cy : Nat → ClassId) (sz : Nat) (mo : Nat) (g5 : Nat) (g6 : Nat) (g7 : Nat) (g8 : Nat) (g9 : Nat) (g10 : Nat) (g12 : Nat) (g13 : Nat) (g14 : Nat) (g15 : Nat) (g16 : Nat) (g17 : Nat) (g18 : Nat) (g19 : Nat) (g20 : Nat) (g22 : Nat) (g23 : Nat) (g24 : Nat) (g29 : Nat) (g30 : Nat) (g31 : Nat) (g32 : Nat) (g33 : Nat) (s0 : Int32) (s1 : Int32) (s3 : Int32) (s4 : Int32) (s11 : Int32) (s21 : Int32) (s25 : Int32) (s26 : Int32) (s27 : Int32) (s28 : Int32) (t2 : Int64) (f5 : Nat → Int32) (f6 : Nat → Int32) (f7 : Nat → Int32) (f8 : Nat → Int32) (f10 : Nat → Int32) (a1 : Int32) (a2 : Int32) (hN : 0 ≤ s4.toInt ∧ s4.toInt ≤ 40) (hPl : 0 ≤ s3.toInt ∧ s3.toInt ≤ 12) (h21 : s21 = (-9)) (hnet : netE s3.toInt s4.toInt f6 f7 f10) (r_f6 : rng f6 40 (0) (11)) (r_f7 : rng f7 40 (0) (11)) (r_f8 : rng f8 40 (0) (2000)) : Met l yX12_between wsX12_between ({ frames := 4, cells := 0, slots := 0, locals := 96 }) (va_Pc [.ref mo, .int a1, .int a2] (fun U => U.heap.size = sz ∧ va_P D vwCl [ob12_0_ mo s0 s1 t2 s3 s4 g5 g6 g7 g8 g9 g10 s11 g12 g13 g14 g15 g16 g17 g18 g19 g20 s21 g22 g23 g24 s25 s26 s27 s28 g29 g30 g31 g32 g33, ai_ cy g5 40 f5, ai_ cy g6 40 f6, ai_ cy g7 40 f7, ai_ cy g8 40 f8, az_ cy g10 40 f10] U.heap ∧ kk_ D cy U ∧ va_D (fun _ => True) [ob12_0_ mo s0 s1 t2 s3 s4 g5 g6 g7 g8 g9 g10 s11 g12 g13 g14 g15 g16 g17 g18 g19 g20 s21 g22 g23 g24 s25 s26 s27 s28 g29 g30 g31 g32 g33, ai_ cy g5 40 f5, ai_ cy g6 40 f6, ai_ cy g7 40 f7, ai_ cy g8 40 f8, az_ cy g10 40 f10])) (va_Qi (fun (r : Int32) (_ : Unit) => ((btI a1.toInt a2.toInt s3.toInt (sumI (bkR f5 f10) s4.toNatClampNeg) = 0 → r.toInt = lam (cutR f5 f6 f7 f8 f10 (-9) s4.toNatClampNeg) a1.toNatClampNeg a2.toNatClampNeg) ∧ (btI a1.toInt a2.toInt s3.toInt (sumI (bkR f5 f10) s4.toNatClampNeg) ≠ 0 → r.toInt = btI a1.toInt a2.toInt s3.toInt (sumI (bkR f5 f10) s4.toNatClampNeg)))) (fun (_ : Unit) (t : State) => va_P D vwCl [ob12_0_ mo 0 s1 t2 s3 s4 g5 g6 g7 g8 g9 g10 s11 g12 g13 g14 g15 g16 g17 g18 g19 g20 s21 g22 g23 g24 s25 s26 s27 s28 g29 g30 g31 g32 g33, ai_ cy g5 40 f5, ai_ cy g6 40 f6, ai_ cy g7 40 f7, ai_ cy g8 40 f8, az_ cy g10 40 f10] t.heap ∧ va_D (va_A [ob12_0_ mo s0 s1 t2 s3 s4 g5 g6 g7 g8 g9 g10 s11 g12 g13 g14 g15 g16 g17 g18 g19 g20 s21 g22 g23 g24 s25 s26 s27 s28 g29 g30 g31 g32 g33, ai_ cy g5 40 f5, ai_ cy g6 40 f6, ai_ cy g7 40 f7, ai_ cy g8 40 f8, az_ cy g10 40 f10] sz) [ob12_0_ mo 0 s1 t2 s3 s4 g5 g6 g7 g8 g9 g10 s11 g12 g13 g14 g15 g16 g17 g18 g19 g20 s21 g22 g23 g24 s25 s26 s27 s28 g29 g30 g31 g32 g33, ai_ cy g5 40 f5, ai_ cy g6 40 f6, ai_ cy g7 40 f7, ai_ cy g8 40 f8, az_ cy g10 40 f10]) (va_A [ob12_0_ mo s0 s1 t2 s3 s4 g5 g6 g7 g8 g9 g10 s11 g12 g13 g14 g15 g16 g17 g18 g19 g20 s21 g22 g23 g24 s25 s26 s27 s28 g29 g30 g31 g32 g33, ai_ cy g5 40 f5, ai_ cy g6 40 f6, ai_ cy g7 40 f7, ai_ cy g8 40 f8, az_ cy g10 40 f10] sz)) 0 0 (va_A [ob12_0_ mo s0 s1 t2 s3 s4 g5 g6 g7 g8 g9 g10 s11 g12 g13 g14 g15 g16 g17 g18 g19 g20 s21 g22 g23 g24 s25 s26 s27 s28 g29 g30 g31 g32 g33, ai_ cy g5 40 f5, ai_ cy g6 40 f6, ai_ cy g7 40 f7, ai_ cy g8 40 f8, az_ cy g10 40 f10] sz) := by
  refine ofQ (cc := cX12_between) (maxL := 3) (ret := (some .int)) (by decide) rfl ?_
  intro p e s m args below meth c s₁ Q hQ B hml hv
  obtain ⟨rfl, hsz, hP, hK, hD0⟩ := hv
  have hx := B.exec
  have hb := B.bytes
  have hr := B.returns
  have hts := atoms_spec (ws := wsX12_between) B.pre
  have hown : s.vm.findClass RX12 = some m.cls := by have h_ := findClass_of_methodNamed B.named; exact h_
  have hlocks := B.notSynchronized
  subst hsz
  have hD := hD0.self (sz := s.heap.size)
  generalize hAe : va_A [ob12_0_ mo s0 s1 t2 s3 s4 g5 g6 g7 g8 g9 g10 s11 g12 g13 g14 g15 g16 g17 g18 g19 g20 s21 g22 g23 g24 s25 s26 s27 s28 g29 g30 g31 g32 g33, ai_ cy g5 40 f5, ai_ cy g6 40 f6, ai_ cy g7 40 f7, ai_ cy g8 40 f8, az_ cy g10 40 f10] s.heap.size = A at hD hQ
  have hA : ∀ q : Nat, s.heap.size ≤ q → A q := fun q h => by rw [← hAe]; exact Or.inr h
  have hS : va_S A s.heap s.heap [] := va_S.rf
  have hl := lv_entry ([.ref mo, .int a1, .int a2]) (n := 3) (Nat.le_of_ble_eq_true rfl)
  rw [lg_entry_eq]
  generalize (lg_sl ([.ref mo, .int a1, .int a2]) ++ List.replicate (3 - (lg_sl ([.ref mo, .int a1, .int a2])).length) Slot.unset).toArray = ls at hl ⊢
  have hl : lv_has ls 3 [(0, .ref mo), (1, .int a1), (2, .int a2)] := hl
  have zm2 : ((-2) : Int32).toInt = -2 := by decide
  have zm1 : ((-1) : Int32).toInt = -1 := by decide
  have z0 : (0 : Int32).toInt = 0 := by decide
  have h21i_ : s21.toInt = -9 := by rw [h21]; decide
  have zq0 : (0 : Int32).toInt = 0 := by decide
  have zq1 : (1 : Int32).toInt = 1 := by decide
  have zq2 : (2 : Int32).toInt = 2 := by decide
  have zq3 : (3 : Int32).toInt = 3 := by decide
  have zq4 : (4 : Int32).toInt = 4 := by decide
  have zq5 : (5 : Int32).toInt = 5 := by decide
  have zqm9 : ((-9) : Int32).toInt = -9 := by decide
  have zqm1 : ((-1) : Int32).toInt = -1 := by decide
  have zqm2 : ((-2) : Int32).toInt = -2 := by decide
  refine lv_aload_n hx hb dB_3_2_3.1.1.1.1 rfl (lv_at hl 0 rfl) ?_
  refine lv_iconst (v := 0) hx hb dB_3_2_3.1.1.1.2 (by decide) ?_
  refine va_put (ci := 12) (v := .int 0) (ty := .int) (C := RX12) (T := TX12) (N := 34) hx hb hts (fun _ h => List.mem_cons_of_mem _ (List.mem_append_right _ h)) tyX12 tyX12_ok nmX12 hown hK.1 hP hD hS 0 rfl rfl 0 (by decide) (hts (.fieldLink RX12 85 "CutAtlasModel" "thrown" "I") (List.mem_of_getElem? (i := 1) rfl)) (fun _ h9 => h9) rfl (by decide +kernel) rfl rfl (Nat.le_of_ble_eq_true rfl) dB_3_2_3.1.1.2.1 (fun H locs hP hD hS => ?_)
  refine pd_K [ob12_0_ mo 0 s1 t2 s3 s4 g5 g6 g7 g8 g9 g10 s11 g12 g13 g14 g15 g16 g17 g18 g19 g20 s21 g22 g23 g24 s25 s26 s27 s28 g29 g30 g31 g32 g33, ai_ cy g5 40 f5, ai_ cy g6 40 f6, ai_ cy g7 40 f7, ai_ cy g8 40 f8, az_ cy g10 40 f10] hP hD (fun hP hD => ?_)
  refine lv_aload_n hx hb dB_3_2_3.1.1.2.2 rfl (lv_at hl 0 rfl) ?_
  refine ct_R hP hD [ob12_0_ mo 0 s1 t2 s3 s4 g5 g6 g7 g8 g9 g10 s11 g12 g13 g14 g15 g16 g17 g18 g19 g20 s21 g22 g23 g24 s25 s26 s27 s28 g29 g30 g31 g32 g33, ai_ cy g5 40 f5, az_ cy g10 40 f10] [0, 1, 5] (by decide) rfl (fun hPc hDw => ?_)
  have hFc := va_free (wc := []) hD hS hA [] rfl
  refine va_calli (va_runV (As := []) (rest := []) ⟨hx, hb, hml, hown, hts⟩ (c_X12_isWhole2 l D cy H.size mo g5 g6 g7 g8 g9 g10 g12 g13 g14 g15 g16 g17 g18 g19 g20 g22 g23 g24 g29 g30 g31 g32 g33 (0 : Int32) s1 s3 s4 s11 s21 s25 s26 s27 s28 t2 f5 f10 (by first | with_reducible assumption | omega | assumption)) (cwV 0 hts gX12_between_X12_isWhole rfl rfl rfl ⟨rfl, hd_X12_isWhole⟩ ⟨Nat.le_of_ble_eq_true rfl, Nat.le_of_ble_eq_true rfl⟩) ⟨bl_, va_recvX hK.1 hP (ci := 12) (q0 := 0) rfl rfl, fun U hU hW => ⟨rfl, by rw [hU], by rw [hU]; exact hPc, kk_mv hW hK, hDw⟩⟩ rfl rfl hl.1 rfl (lv_room (Nat.le_of_ble_eq_true rfl)) dB_3_2_3.1.2.1.1 ⟨Nat.le_of_ble_eq_true rfl, Nat.le_of_ble_eq_true rfl⟩) hS (fun q _ h => hFc q h) hFc (fun r_1 u t H locs ht hvm hw hB hz1 hk1 hS => ?_)
  have hP : va_P D vwCl _ H := ro_keep hP hk1
  obtain ⟨f0_r_1, f1_r_1⟩ := hw
  have hw1_ := f1_r_1
  refine lv_if_ne (tgt := 15) hx hb dB_3_2_3.1.2.1.2 (by decide) (fun c_2 => ?_) (fun c_2 => ?_)
  · have t_2 : ¬ r_1.toInt = (0 : Int32).toInt := fun h => c_2 (Int32.toInt_inj.mp h)
    have hwb_ := whI_1 (P := s3.toInt) (c := sumI (bkR f5 f10) s4.toNatClampNeg) (by omega)
    have hwr_ : whC (cutR f5 f6 f7 f8 f10 s21.toInt s4.toNatClampNeg) s3.toNatClampNeg := whR hnet r_f6 r_f7 r_f8 hN.2 hwb_.2
    have hw2s_ := hwb_.1
    refine lv_aload_n hx hb dB_3_2_3.2.1.1.1 rfl (lv_at hl 0 rfl) ?_
    refine lv_iload_n hx hb dB_3_2_3.2.1.1.2 rfl (lv_at hl 1 rfl) ?_
    refine lv_iload_n hx hb dB_3_2_3.2.1.2.1 rfl (lv_at hl 2 rfl) ?_
    refine ct_R hP hD [ob12_0_ mo 0 s1 t2 s3 s4 g5 g6 g7 g8 g9 g10 s11 g12 g13 g14 g15 g16 g17 g18 g19 g20 s21 g22 g23 g24 s25 s26 s27 s28 g29 g30 g31 g32 g33] [0] (by decide) rfl (fun hPc hDw => ?_)
    have hFc := va_free (wc := []) hD hS hA [] rfl
    refine va_calli (va_runV (As := [.int a1, .int a2]) (rest := []) ⟨hx, hb, hml, hown, hts⟩ (c_X12_arePlaces l D cy H.size mo g5 g6 g7 g8 g9 g10 g12 g13 g14 g15 g16 g17 g18 g19 g20 g22 g23 g24 g29 g30 g31 g32 g33 (0 : Int32) s1 s3 s4 s11 s21 s25 s26 s27 s28 t2 a1 a2 (by first | with_reducible assumption | omega | assumption)) (cwV 2 hts gX12_between_X12_arePlaces rfl rfl rfl ⟨rfl, hd_X12_arePlaces⟩ ⟨Nat.le_of_ble_eq_true rfl, Nat.le_of_ble_eq_true rfl⟩) ⟨bl_, va_recvX hK.1 hP (ci := 12) (q0 := 0) rfl rfl, fun U hU hW => ⟨rfl, by rw [hU], by rw [hU]; exact hPc, kk_mv hW hK, hDw⟩⟩ rfl rfl hl.1 rfl (lv_room (Nat.le_of_ble_eq_true rfl)) dB_3_2_3.2.1.2.2 ⟨Nat.le_of_ble_eq_true rfl, Nat.le_of_ble_eq_true rfl⟩) hS (fun q _ h => hFc q h) hFc (fun r_3 u t H locs ht hvm hw hB hz1 hk1 hS => ?_)
    have hP : va_P D vwCl _ H := ro_keep hP hk1
    rcases hw with ⟨w_4, e_⟩ | ⟨w_4, e_⟩
    · have e_ := e_.symm
      subst e_
      refine lv_if_eq (tgt := 33) hx hb dB_3_2_3.2.2.1.1 (by decide) (fun c_5 => ?_) (fun c_5 => ?_)
      · exact absurd c_5 (by decide)
      · have _ := c_5
        have hb1_ : btI a1.toInt a2.toInt s3.toInt (sumI (bkR f5 f10) s4.toNatClampNeg) = 0 := by unfold btI; (repeat' (first | with_reducible refine if_n (by omega) ?_ | with_reducible refine if_ns (by omega) ?_ | with_reducible refine if_nz (by omega) ?_ | with_reducible exact if_p (by omega) (by omega) | with_reducible exact if_ps (by omega) (by omega) | with_reducible exact if_pz (by omega) (by omega))) <;> omega
        refine lv_aload_n hx hb dB_3_2_3.2.2.1.2 rfl (lv_at hl 0 rfl) ?_
        refine lv_iload_n hx hb dB_3_2_3.2.2.2.1 rfl (lv_at hl 1 rfl) ?_
        refine lv_iload_n hx hb dB_3_2_3.2.2.2.2 rfl (lv_at hl 2 rfl) ?_
        refine ct_R hP hD [ob12_0_ mo 0 s1 t2 s3 s4 g5 g6 g7 g8 g9 g10 s11 g12 g13 g14 g15 g16 g17 g18 g19 g20 s21 g22 g23 g24 s25 s26 s27 s28 g29 g30 g31 g32 g33, ai_ cy g5 40 f5, ai_ cy g6 40 f6, ai_ cy g7 40 f7, ai_ cy g8 40 f8, az_ cy g10 40 f10] [0, 1, 2, 3, 4, 5] (by decide) rfl (fun hPc hDw => ?_)
        have hFc := va_free (wc := []) hD hS hA [] rfl
        refine va_calli (va_runV (As := [.int a1, .int a2]) (rest := []) ⟨hx, hb, hml, hown, hts⟩ (c_X12_mostOf2 l D cy H.size mo g5 g6 g7 g8 g9 g10 g12 g13 g14 g15 g16 g17 g18 g19 g20 g22 g23 g24 g29 g30 g31 g32 g33 (0 : Int32) s1 s3 s4 s11 s21 s25 s26 s27 s28 t2 f5 f6 f7 f8 f10 a1 a2 (by first | with_reducible assumption | omega | assumption) (by first | with_reducible assumption | omega | assumption) (by first | with_reducible assumption | assumption | omega) (by first | with_reducible assumption | omega | assumption) (by first | with_reducible assumption | omega | assumption) (by first | with_reducible assumption | assumption | omega) (by first | with_reducible assumption | assumption | omega) (by first | with_reducible assumption | assumption | omega)) (cwV 2 hts gX12_between_X12_mostOf rfl rfl rfl ⟨rfl, hd_X12_mostOf⟩ ⟨Nat.le_of_ble_eq_true rfl, Nat.le_of_ble_eq_true rfl⟩) ⟨bl_, va_recvX hK.1 hP (ci := 12) (q0 := 0) rfl rfl, fun U hU hW => ⟨rfl, by rw [hU], by rw [hU]; exact hPc, kk_mv hW hK, hDw⟩⟩ rfl rfl hl.1 rfl (lv_room (Nat.le_of_ble_eq_true rfl)) dB_3_2_4.1.1 ⟨Nat.le_of_ble_eq_true rfl, Nat.le_of_ble_eq_true rfl⟩) hS (fun q _ h => hFc q h) hFc (fun r_6 u t H locs ht hvm hw hB hz1 hk1 hS => ?_)
        have hP : va_P D vwCl _ H := ro_keep hP hk1
        have f0_r_6 := hw
        have hla_ : r_6.toInt = lam (cutR f5 f6 f7 f8 f10 (-9) s4.toNatClampNeg) a1.toNatClampNeg a2.toNatClampNeg := by have h_ := (mst_wh hwr_ (nc_ne (x := a1) (y := a2) (by omega) (by omega) (by omega)) f0_r_6).2.1; rw [h21i_] at h_; exact h_
        refine lv_goto (tgt := 34) hx hb dB_3_2_4.1.2 (by decide) ?_
        rw [hQ]
        exact W.iret (v := r_6) hx hb hr (fun t ht hW => ⟨⟨r_6, (), rfl, (by first | exact ⟨fun _ => hla_, fun h => absurd hb1_ h⟩ | exact ⟨fun h => absurd h hb9_, fun _ => zqm1.trans hb0_.symm⟩), by rw [ht]; exact hP, hD⟩, hS.F ht⟩) hS.2.2 dB_3_2_4.2.2
    · have e_ := e_.symm
      subst e_
      refine lv_if_eq (tgt := 33) hx hb dB_3_2_3.2.2.1.1 (by decide) (fun c_7 => ?_) (fun c_7 => ?_)
      · have _ := c_7
        have hb0_ : btI a1.toInt a2.toInt s3.toInt (sumI (bkR f5 f10) s4.toNatClampNeg) = -1 := by unfold btI; (repeat' (first | with_reducible refine if_n (by omega) ?_ | with_reducible refine if_ns (by omega) ?_ | with_reducible refine if_nz (by omega) ?_ | with_reducible exact if_p (by omega) (by omega) | with_reducible exact if_ps (by omega) (by omega) | with_reducible exact if_pz (by omega) (by omega))) <;> omega
        have hb9_ : btI a1.toInt a2.toInt s3.toInt (sumI (bkR f5 f10) s4.toNatClampNeg) ≠ 0 := by omega
        refine lv_iconst (v := (-1)) hx hb dB_3_2_4.2.1 (by decide) ?_
        rw [hQ]
        exact W.iret (v := (-1)) hx hb hr (fun t ht hW => ⟨⟨(-1), (), rfl, (by first | exact ⟨fun _ => hla_, fun h => absurd hb1_ h⟩ | exact ⟨fun h => absurd h hb9_, fun _ => zqm1.trans hb0_.symm⟩), by rw [ht]; exact hP, hD⟩, hS.F ht⟩) hS.2.2 dB_3_2_4.2.2
      · exact absurd c_7 (by decide)
  · have t_2 : r_1.toInt = (0 : Int32).toInt := congrArg Int32.toInt c_2
    refine lv_bipush (v := (-2)) hx hb dB_3_2_3.1.2.2.1 (by decide) ?_
    rw [hQ]
    exact W.iret (v := (-2)) hx hb hr (fun t ht hW => ⟨⟨(-2), (), rfl, (⟨fun h => absurd h (by unfold btI; (repeat' (first | with_reducible refine if_n (by omega) ?_ | with_reducible refine if_ns (by omega) ?_ | with_reducible refine if_nz (by omega) ?_ | with_reducible exact if_p (by omega) (by omega) | with_reducible exact if_ps (by omega) (by omega) | with_reducible exact if_pz (by omega) (by omega))) <;> omega), fun _ => (by unfold btI; (repeat' (first | with_reducible refine if_n (by omega) ?_ | with_reducible refine if_ns (by omega) ?_ | with_reducible refine if_nz (by omega) ?_ | with_reducible exact if_p (by omega) (by omega) | with_reducible exact if_ps (by omega) (by omega) | with_reducible exact if_pz (by omega) (by omega))) <;> omega)⟩), by rw [ht]; exact hP, hD⟩, hS.F ht⟩) hS.2.2 dB_3_2_3.1.2.2.2

set_option maxHeartbeats 4000000 in
set_option maxRecDepth 100000 in
theorem c_X12_least2 (l : Launch) (D : va_G) (cy : Nat → ClassId) (sz : Nat) (mo : Nat) (g5 : Nat) (g6 : Nat) (g7 : Nat) (g8 : Nat) (g9 : Nat) (g10 : Nat) (g12 : Nat) (g13 : Nat) (g14 : Nat) (g15 : Nat) (g16 : Nat) (g17 : Nat) (g18 : Nat) (g19 : Nat) (g20 : Nat) (g22 : Nat) (g23 : Nat) (g24 : Nat) (g29 : Nat) (g30 : Nat) (g31 : Nat) (g32 : Nat) (g33 : Nat) (s0 : Int32) (s1 : Int32) (s3 : Int32) (s4 : Int32) (s11 : Int32) (s21 : Int32) (s25 : Int32) (s26 : Int32) (s27 : Int32) (s28 : Int32) (t2 : Int64) (f5 : Nat → Int32) (f6 : Nat → Int32) (f7 : Nat → Int32) (f8 : Nat → Int32) (f10 : Nat → Int32) (hN : 0 ≤ s4.toInt ∧ s4.toInt ≤ 40) (hPl : 0 ≤ s3.toInt ∧ s3.toInt ≤ 12) (h21 : s21 = (-9)) (hnet : netE s3.toInt s4.toInt f6 f7 f10) (r_f6 : rng f6 40 (0) (11)) (r_f7 : rng f7 40 (0) (11)) (r_f8 : rng f8 40 (0) (2000)) : Met l yX12_least wsX12_least ({ frames := 5, cells := 0, slots := 0, locals := 119 }) (va_Pc [.ref mo] (fun U => U.heap.size = sz ∧ va_P D vwCl [ob12_0_ mo s0 s1 t2 s3 s4 g5 g6 g7 g8 g9 g10 s11 g12 g13 g14 g15 g16 g17 g18 g19 g20 s21 g22 g23 g24 s25 s26 s27 s28 g29 g30 g31 g32 g33, ai_ cy g5 40 f5, ai_ cy g6 40 f6, ai_ cy g7 40 f7, ai_ cy g8 40 f8, az_ cy g10 40 f10] U.heap ∧ kk_ D cy U ∧ va_D (fun _ => True) [ob12_0_ mo s0 s1 t2 s3 s4 g5 g6 g7 g8 g9 g10 s11 g12 g13 g14 g15 g16 g17 g18 g19 g20 s21 g22 g23 g24 s25 s26 s27 s28 g29 g30 g31 g32 g33, ai_ cy g5 40 f5, ai_ cy g6 40 f6, ai_ cy g7 40 f7, ai_ cy g8 40 f8, az_ cy g10 40 f10])) (va_Qi (fun (r : Int32) (_ : Unit) => ((whI s3.toInt (sumI (bkR f5 f10) s4.toNatClampNeg) ≠ 0 → gmn (lam (cutR f5 f6 f7 f8 f10 (-9) s4.toNatClampNeg)) s3.toNatClampNeg r.toInt) ∧ (whI s3.toInt (sumI (bkR f5 f10) s4.toNatClampNeg) = 0 → r.toInt = -2))) (fun (_ : Unit) (t : State) => va_P D vwCl [ob12_0_ mo 0 s1 t2 s3 s4 g5 g6 g7 g8 g9 g10 s11 g12 g13 g14 g15 g16 g17 g18 g19 g20 s21 g22 g23 g24 s25 s26 s27 s28 g29 g30 g31 g32 g33, ai_ cy g5 40 f5, ai_ cy g6 40 f6, ai_ cy g7 40 f7, ai_ cy g8 40 f8, az_ cy g10 40 f10] t.heap ∧ va_D (va_A [ob12_0_ mo s0 s1 t2 s3 s4 g5 g6 g7 g8 g9 g10 s11 g12 g13 g14 g15 g16 g17 g18 g19 g20 s21 g22 g23 g24 s25 s26 s27 s28 g29 g30 g31 g32 g33, ai_ cy g5 40 f5, ai_ cy g6 40 f6, ai_ cy g7 40 f7, ai_ cy g8 40 f8, az_ cy g10 40 f10] sz) [ob12_0_ mo 0 s1 t2 s3 s4 g5 g6 g7 g8 g9 g10 s11 g12 g13 g14 g15 g16 g17 g18 g19 g20 s21 g22 g23 g24 s25 s26 s27 s28 g29 g30 g31 g32 g33, ai_ cy g5 40 f5, ai_ cy g6 40 f6, ai_ cy g7 40 f7, ai_ cy g8 40 f8, az_ cy g10 40 f10]) (va_A [ob12_0_ mo s0 s1 t2 s3 s4 g5 g6 g7 g8 g9 g10 s11 g12 g13 g14 g15 g16 g17 g18 g19 g20 s21 g22 g23 g24 s25 s26 s27 s28 g29 g30 g31 g32 g33, ai_ cy g5 40 f5, ai_ cy g6 40 f6, ai_ cy g7 40 f7, ai_ cy g8 40 f8, az_ cy g10 40 f10] sz)) 0 0 (va_A [ob12_0_ mo s0 s1 t2 s3 s4 g5 g6 g7 g8 g9 g10 s11 g12 g13 g14 g15 g16 g17 g18 g19 g20 s21 g22 g23 g24 s25 s26 s27 s28 g29 g30 g31 g32 g33, ai_ cy g5 40 f5, ai_ cy g6 40 f6, ai_ cy g7 40 f7, ai_ cy g8 40 f8, az_ cy g10 40 f10] sz) := by
  refine ofQ (cc := cX12_least) (maxL := 1) (ret := (some .int)) (by decide) rfl ?_
  intro p e s m args below meth c s₁ Q hQ B hml hv
  obtain ⟨rfl, hsz, hP, hK, hD0⟩ := hv
  have hx := B.exec
  have hb := B.bytes
  have hr := B.returns
  have hts := atoms_spec (ws := wsX12_least) B.pre
  have hown : s.vm.findClass RX12 = some m.cls := by have h_ := findClass_of_methodNamed B.named; exact h_
  have hlocks := B.notSynchronized
  subst hsz
  have hD := hD0.self (sz := s.heap.size)
  generalize hAe : va_A [ob12_0_ mo s0 s1 t2 s3 s4 g5 g6 g7 g8 g9 g10 s11 g12 g13 g14 g15 g16 g17 g18 g19 g20 s21 g22 g23 g24 s25 s26 s27 s28 g29 g30 g31 g32 g33, ai_ cy g5 40 f5, ai_ cy g6 40 f6, ai_ cy g7 40 f7, ai_ cy g8 40 f8, az_ cy g10 40 f10] s.heap.size = A at hD hQ
  have hA : ∀ q : Nat, s.heap.size ≤ q → A q := fun q h => by rw [← hAe]; exact Or.inr h
  have hS : va_S A s.heap s.heap [] := va_S.rf
  have hl := lv_entry ([.ref mo]) (n := 1) (Nat.le_of_ble_eq_true rfl)
  rw [lg_entry_eq]
  generalize (lg_sl ([.ref mo]) ++ List.replicate (1 - (lg_sl ([.ref mo])).length) Slot.unset).toArray = ls at hl ⊢
  have hl : lv_has ls 1 [(0, .ref mo)] := hl
  have zm2 : ((-2) : Int32).toInt = -2 := by decide
  have z0 : (0 : Int32).toInt = 0 := by decide
  have h21i_ : s21.toInt = -9 := by rw [h21]; decide
  have zq0 : (0 : Int32).toInt = 0 := by decide
  have zq1 : (1 : Int32).toInt = 1 := by decide
  have zq2 : (2 : Int32).toInt = 2 := by decide
  have zq3 : (3 : Int32).toInt = 3 := by decide
  have zq4 : (4 : Int32).toInt = 4 := by decide
  have zq5 : (5 : Int32).toInt = 5 := by decide
  have zqm9 : ((-9) : Int32).toInt = -9 := by decide
  have zqm1 : ((-1) : Int32).toInt = -1 := by decide
  have zqm2 : ((-2) : Int32).toInt = -2 := by decide
  refine lv_aload_n hx hb dB_3_2_34.1.1.1 rfl (lv_at hl 0 rfl) ?_
  refine lv_iconst (v := 0) hx hb dB_3_2_34.1.1.2 (by decide) ?_
  refine va_put (ci := 12) (v := .int 0) (ty := .int) (C := RX12) (T := TX12) (N := 34) hx hb hts (fun _ h => List.mem_cons_of_mem _ (List.mem_append_right _ h)) tyX12 tyX12_ok nmX12 hown hK.1 hP hD hS 0 rfl rfl 0 (by decide) (hts (.fieldLink RX12 85 "CutAtlasModel" "thrown" "I") (List.mem_of_getElem? (i := 1) rfl)) (fun _ h9 => h9) rfl (by decide +kernel) rfl rfl (Nat.le_of_ble_eq_true rfl) dB_3_2_34.1.2.1 (fun H locs hP hD hS => ?_)
  refine pd_K [ob12_0_ mo 0 s1 t2 s3 s4 g5 g6 g7 g8 g9 g10 s11 g12 g13 g14 g15 g16 g17 g18 g19 g20 s21 g22 g23 g24 s25 s26 s27 s28 g29 g30 g31 g32 g33, ai_ cy g5 40 f5, ai_ cy g6 40 f6, ai_ cy g7 40 f7, ai_ cy g8 40 f8, az_ cy g10 40 f10] hP hD (fun hP hD => ?_)
  refine lv_aload_n hx hb dB_3_2_34.1.2.2.1 rfl (lv_at hl 0 rfl) ?_
  refine ct_R hP hD [ob12_0_ mo 0 s1 t2 s3 s4 g5 g6 g7 g8 g9 g10 s11 g12 g13 g14 g15 g16 g17 g18 g19 g20 s21 g22 g23 g24 s25 s26 s27 s28 g29 g30 g31 g32 g33, ai_ cy g5 40 f5, az_ cy g10 40 f10] [0, 1, 5] (by decide) rfl (fun hPc hDw => ?_)
  have hFc := va_free (wc := []) hD hS hA [] rfl
  refine va_calli (va_runV (As := []) (rest := []) ⟨hx, hb, hml, hown, hts⟩ (c_X12_isWhole2 l D cy H.size mo g5 g6 g7 g8 g9 g10 g12 g13 g14 g15 g16 g17 g18 g19 g20 g22 g23 g24 g29 g30 g31 g32 g33 (0 : Int32) s1 s3 s4 s11 s21 s25 s26 s27 s28 t2 f5 f10 (by first | with_reducible assumption | omega | assumption)) (cwV 0 hts gX12_least_X12_isWhole rfl rfl rfl ⟨rfl, hd_X12_isWhole⟩ ⟨Nat.le_of_ble_eq_true rfl, Nat.le_of_ble_eq_true rfl⟩) ⟨bl_, va_recvX hK.1 hP (ci := 12) (q0 := 0) rfl rfl, fun U hU hW => ⟨rfl, by rw [hU], by rw [hU]; exact hPc, kk_mv hW hK, hDw⟩⟩ rfl rfl hl.1 rfl (lv_room (Nat.le_of_ble_eq_true rfl)) dB_3_2_34.1.2.2.2 ⟨Nat.le_of_ble_eq_true rfl, Nat.le_of_ble_eq_true rfl⟩) hS (fun q _ h => hFc q h) hFc (fun r_1 u t H locs ht hvm hw hB hz1 hk1 hS => ?_)
  have hP : va_P D vwCl _ H := ro_keep hP hk1
  obtain ⟨f0_r_1, f1_r_1⟩ := hw
  have hw1_ := f1_r_1
  refine lv_if_eq (tgt := 19) hx hb dB_3_2_34.2.1.1 (by decide) (fun c_2 => ?_) (fun c_2 => ?_)
  · have t_2 : r_1.toInt = (0 : Int32).toInt := congrArg Int32.toInt c_2
    refine lv_bipush (v := (-2)) hx hb dB_3_2_34.2.2.2.1 (by decide) ?_
    rw [hQ]
    exact W.iret (v := (-2)) hx hb hr (fun t ht hW => ⟨⟨(-2), (), rfl, (by first | exact ⟨fun h => absurd (by omega) h, fun _ => by decide⟩ | exact ⟨fun _ => hgm_, fun h => absurd h (by omega)⟩), by rw [ht]; exact hP, hD⟩, hS.F ht⟩) hS.2.2 dB_3_2_34.2.2.2.2
  · have t_2 : ¬ r_1.toInt = (0 : Int32).toInt := fun h => c_2 (Int32.toInt_inj.mp h)
    have hwb_ := whI_1 (P := s3.toInt) (c := sumI (bkR f5 f10) s4.toNatClampNeg) (by omega)
    have hwr_ : whC (cutR f5 f6 f7 f8 f10 s21.toInt s4.toNatClampNeg) s3.toNatClampNeg := whR hnet r_f6 r_f7 r_f8 hN.2 hwb_.2
    have hw2s_ := hwb_.1
    refine lv_aload_n hx hb dB_3_2_34.2.1.2.1 rfl (lv_at hl 0 rfl) ?_
    refine ct_R hP hD [ob12_0_ mo 0 s1 t2 s3 s4 g5 g6 g7 g8 g9 g10 s11 g12 g13 g14 g15 g16 g17 g18 g19 g20 s21 g22 g23 g24 s25 s26 s27 s28 g29 g30 g31 g32 g33, ai_ cy g5 40 f5, ai_ cy g6 40 f6, ai_ cy g7 40 f7, ai_ cy g8 40 f8, az_ cy g10 40 f10] [0, 1, 2, 3, 4, 5] (by decide) rfl (fun hPc hDw => ?_)
    have hFc := va_free (wc := []) hD hS hA [] rfl
    refine va_calli (va_runV (As := []) (rest := []) ⟨hx, hb, hml, hown, hts⟩ (c_X12_leastOf2 l D cy H.size mo g5 g6 g7 g8 g9 g10 g12 g13 g14 g15 g16 g17 g18 g19 g20 g22 g23 g24 g29 g30 g31 g32 g33 (0 : Int32) s1 s3 s4 s11 s21 s25 s26 s27 s28 t2 f5 f6 f7 f8 f10 (by first | with_reducible assumption | omega | assumption) (by first | with_reducible assumption | omega | assumption) (by first | with_reducible assumption | assumption | omega) (by first | with_reducible assumption | assumption | omega) (by first | with_reducible assumption | omega | assumption) (by first | with_reducible assumption | assumption | omega) (by first | with_reducible assumption | assumption | omega) (by first | with_reducible assumption | assumption | omega)) (cwV 0 hts gX12_least_X12_leastOf rfl rfl rfl ⟨rfl, hd_X12_leastOf⟩ ⟨Nat.le_of_ble_eq_true rfl, Nat.le_of_ble_eq_true rfl⟩) ⟨bl_, va_recvX hK.1 hP (ci := 12) (q0 := 0) rfl rfl, fun U hU hW => ⟨rfl, by rw [hU], by rw [hU]; exact hPc, kk_mv hW hK, hDw⟩⟩ rfl rfl hl.1 rfl (lv_room (Nat.le_of_ble_eq_true rfl)) dB_3_2_34.2.1.2.2 ⟨Nat.le_of_ble_eq_true rfl, Nat.le_of_ble_eq_true rfl⟩) hS (fun q _ h => hFc q h) hFc (fun r_3 u t H locs ht hvm hw hB hz1 hk1 hS => ?_)
    have hP : va_P D vwCl _ H := ro_keep hP hk1
    have f0_r_3 := hw
    have hgm_ := f0_r_3
    rw [h21i_] at hgm_
    refine lv_goto (tgt := 21) hx hb dB_3_2_34.2.2.1 (by decide) ?_
    rw [hQ]
    exact W.iret (v := r_3) hx hb hr (fun t ht hW => ⟨⟨r_3, (), rfl, (by first | exact ⟨fun h => absurd (by omega) h, fun _ => by decide⟩ | exact ⟨fun _ => hgm_, fun h => absurd h (by omega)⟩), by rw [ht]; exact hP, hD⟩, hS.F ht⟩) hS.2.2 dB_3_2_34.2.2.2.2
end

section
/-! ===== all least cuts of the whole; weak lines; parts ===== -/
noncomputable def wQ (C : (Nat → Bool) → Int) (m : Int) (n : Nat) : Bool := decide (n % 2 = 0) && decide (2 ≤ n) && decide (mn6 (C (bt (nI n))) = m)
noncomputable def ctV (p : Nat → Bool) (i : Int) (k : Nat) (cuts chosen : Int32) : Prop := cuts.toInt = cnQ p k ∧ ((cnQ p k ≤ i ∧ chosen.toInt = -9) ∨ ∃ j : Nat, j < k ∧ p j = true ∧ cnQ p j = i ∧ chosen = nI j)
theorem wQ_odd {C : (Nat → Bool) → Int} {m : Int} {n : Nat} (h : n % 2 = 1) : wQ C m n = false := by
  unfold wQ
  rw [decide_eq_false (by omega), Bool.false_and, Bool.false_and]
theorem wQ_lo {C : (Nat → Bool) → Int} {m : Int} {n : Nat} (h : n < 2) : wQ C m n = false := by
  unfold wQ
  rw [decide_eq_false (show ¬ 2 ≤ n by omega), Bool.and_false, Bool.false_and]
theorem cnQ_no {p : Nat → Bool} {k : Nat} (h : p k = false) : cnQ p (k + 1) = cnQ p k := by
  show cnQ p k + (if p k = true then 1 else 0) = _
  rw [if_neg (by rw [h]; decide)]
  omega
theorem cnQ_ye {p : Nat → Bool} {k : Nat} (h : p k = true) : cnQ p (k + 1) = cnQ p k + 1 := by
  show cnQ p k + (if p k = true then 1 else 0) = _
  rw [if_pos h]
theorem ctV_0 {C : (Nat → Bool) → Int} {m i : Int} (hi : 0 ≤ i) : ctV (wQ C m) i (2 : Int32).toNatClampNeg 0 (-9) := by
  have z : ((-9) : Int32).toInt = -9 := by decide
  have e : cnQ (wQ C m) 2 = 0 := by
    rw [cnQ_no (wQ_lo (by omega)), cnQ_no (wQ_lo (by omega))]
    rfl
  rw [cl_2]
  exact ⟨by rw [e]; decide, Or.inl ⟨by omega, z⟩⟩
theorem ctV_st {C : (Nat → Bool) → Int} {m i : Int} {k k2 cu ch cu2 ch2 : Int32} (h : ctV (wQ C m) i k.toNatClampNeg cu ch) (h0 : 2 ≤ k.toInt) (hev : k.toInt % 2 = 0) (e : k2.toInt = k.toInt + 2) (hn : (mn6 (C (bt k)) = m ∧ cu2.toInt = cu.toInt + 1 ∧ ((ch2 = k ∧ cu.toInt = i) ∨ (ch2 = ch ∧ cu.toInt ≠ i))) ∨ (mn6 (C (bt k)) ≠ m ∧ cu2 = cu ∧ ch2 = ch)) : ctV (wQ C m) i k2.toNatClampNeg cu2 ch2 := by
  have c := clI (i := k) (by omega)
  have c2 := clI (i := k2) (by omega)
  have ek := nI_cl (y := k) (by omega)
  rw [show k2.toNatClampNeg = k.toNatClampNeg + 1 + 1 by omega]
  have o : wQ C m (k.toNatClampNeg + 1) = false := wQ_odd (by omega)
  have pk : wQ C m k.toNatClampNeg = decide (mn6 (C (bt k)) = m) := by
    unfold wQ
    rw [← ek, decide_eq_true (show k.toNatClampNeg % 2 = 0 by omega), decide_eq_true (show 2 ≤ k.toNatClampNeg by omega), Bool.true_and, Bool.true_and]
  obtain ⟨a1, a2⟩ := h
  rcases hn with ⟨b1, b2, b3⟩ | ⟨b1, b2, b3⟩
  · rw [decide_eq_true b1] at pk
    have q : cnQ (wQ C m) (k.toNatClampNeg + 1 + 1) = cnQ (wQ C m) k.toNatClampNeg + 1 := by rw [cnQ_no o, cnQ_ye pk]
    refine ⟨by omega, ?_⟩
    rcases b3 with ⟨d1, d2⟩ | ⟨d1, d2⟩
    · exact Or.inr ⟨k.toNatClampNeg, by omega, pk, by omega, by rw [d1]; exact ek⟩
    · rw [d1]
      rcases a2 with w | ⟨j, hj, w⟩
      · exact Or.inl ⟨by omega, w.2⟩
      · exact Or.inr ⟨j, by omega, w⟩
  · rw [decide_eq_false b1] at pk
    have q : cnQ (wQ C m) (k.toNatClampNeg + 1 + 1) = cnQ (wQ C m) k.toNatClampNeg := by rw [cnQ_no o, cnQ_no pk]
    rw [b2, b3]
    refine ⟨by omega, ?_⟩
    rcases a2 with w | ⟨j, hj, w⟩
    · exact Or.inl ⟨by omega, w.2⟩
    · exact Or.inr ⟨j, by omega, w⟩
theorem qF_wh {C : (Nat → Bool) → Int} {M : Nat → Nat → Int} {P : Nat} {m : Int} (hO : ∀ S : Nat → Bool, outZ M S P = C S) (hm : 0 ≤ m ∧ m < 1000000) {n : Nat} (hn : n < 5000) : qF M P 0 1 m n = wQ C m n := by
  have b0 : ∀ i : Nat, i < 12 → bt 0 i = false := by decide +kernel
  have tb : bt (nI n) 0 = decide (n % 2 = 1) := by rw [bt_nI (by omega), Nat.testBit_zero]
  have e1 : (∀ i : Nat, i < 12 → (bt 0 i = true → bt (nI n) i = true) ∧ (bt 1 i = true → bt (nI n) i = false)) ↔ n % 2 = 0 := by
    constructor
    · intro h
      have a := (h 0 (by omega)).2 (by decide)
      rw [tb] at a
      have := of_decide_eq_false a
      omega
    · intro h i hi
      refine ⟨fun w => (by rw [b0 i hi] at w; cases w), fun w => ?_⟩
      rw [bt_o i (by omega)] at w
      rw [of_decide_eq_true w, tb]
      exact decide_eq_false (by omega)
  have e2 : outZ M (bt (nI n)) P = m ↔ mn6 (C (bt (nI n))) = m := by
    rw [hO]
    unfold mn6
    split <;> omega
  unfold qF wQ
  by_cases a : n % 2 = 0
  · rw [decide_eq_true (e1.mpr a), decide_eq_true a, Bool.true_and, Bool.true_and]
    by_cases b : outZ M (bt (nI n)) P = m
    · rw [decide_eq_true b, decide_eq_true (e2.mp b), Bool.true_and, Bool.and_true]
      by_cases c : n ≠ 0
      · rw [decide_eq_true c, decide_eq_true (show 2 ≤ n by omega)]
      · rw [decide_eq_false c, decide_eq_false (show ¬ 2 ≤ n by omega)]
    · rw [decide_eq_false b, decide_eq_false (fun w => b (e2.mpr w)), Bool.false_and, Bool.and_false]
  · rw [decide_eq_false (fun w => a (e1.mp w)), decide_eq_false a, Bool.false_and, Bool.false_and, Bool.false_and, Bool.false_and]
noncomputable def cwA (C : (Nat → Bool) → Int) (P : Nat) (r : Int32) : Prop := ∃ m : Int, gmn (lam C) P m ∧ r.toInt = cnQ (wQ C m) (2 ^ P)
noncomputable def cwX (C : (Nat → Bool) → Int) (P : Nat) (i : Int) (r : Int32) : Prop := ∃ m : Int, gmn (lam C) P m ∧ scf (wQ C m) i (2 ^ P) r
noncomputable def cwY (C : (Nat → Bool) → Int) (P : Nat) (i : Int) (r : Int32) : Prop := ∃ m : Int, gmn (lam C) P m ∧ ((cnQ (wQ C m) (2 ^ P) ≤ i ∧ r.toInt = -9) ∨ ∃ j : Nat, j < 2 ^ P ∧ wQ C m j = true ∧ cnQ (wQ C m) j = i ∧ r = nI j)
noncomputable def caI (i P c : Int) : Int := if i < 0 then -1 else if whI P c = 0 then -2 else 0
/-! weak() -/
noncomputable def wkQ (C : (Nat → Bool) → Int) (m : Int) (a b n : Nat) : Prop := n % 2 = 0 ∧ 2 ≤ n ∧ bt (nI n) a ≠ bt (nI n) b ∧ mn6 (C (bt (nI n))) = m
theorem wk_iff {C : (Nat → Bool) → Int} {P : Nat} {m : Int} {a b : Nat} (hw : whC C P) (hP : P ≤ 12) (h1 : 1 ≤ P) (ha : a < P) (hb : b < P) (hm : gmn (lam C) P m) : (∃ n : Nat, n < 2 ^ P ∧ wkQ C m a b n) ↔ (a ≠ b ∧ lam C a b = m) := by
  have m6 : m < 1000000 := by
    obtain ⟨_, x, y, _, _, xy, e⟩ := hm
    have := (lam_bd hw xy).2
    omega
  have mn : ∀ S : Nat → Bool, mn6 (C S) = C S := fun S => if_pos (by have := (hw.1 S).2; omega)
  constructor
  · rintro ⟨n, hn, q1, q2, q3, q4⟩
    have ab : a ≠ b := fun e => q3 (by rw [e])
    rw [mn] at q4
    have x := lam_le hw q3
    have y := hm.1 a b ha hb ab
    exact ⟨ab, by omega⟩
  · rintro ⟨ab, e⟩
    obtain ⟨⟨S, hS, eS⟩, _⟩ := lam_sp hw ab
    have fin : ∀ T : Nat → Bool, T 0 = false → T a ≠ T b → C T = m → ∃ n : Nat, n < 2 ^ P ∧ wkQ C m a b n := fun T t0 tab tc => by
      obtain ⟨k, hk, g⟩ := mask_ex T P hP
      have ga := g a ha
      have gb := g b hb
      have k0 : k % 2 = 0 := by
        have z := (g 0 (by omega)).trans t0
        rw [bt_nI (by omega), Nat.testBit_zero] at z
        have := of_decide_eq_false z
        omega
      have kz : k ≠ 0 := fun w => by
        rw [w] at ga gb
        have q : ∀ i : Nat, i < 12 → bt (nI 0) i = false := by decide +kernel
        rw [q a (by omega)] at ga
        rw [q b (by omega)] at gb
        exact tab (ga.symm.trans gb)
      exact ⟨k, hk, k0, by omega, by rw [ga, gb]; exact tab, by rw [mn, hw.2.1 _ T g]; exact tc⟩
    cases z : S 0
    · exact fin S z (by rw [hS.1, hS.2]; decide) (by omega)
    · refine fin (fun x => !S x) (by show (!S 0) = false; rw [z]; rfl) ?_ (by rw [hw.2.2.1]; omega)
      show (!S a) ≠ (!S b)
      rw [hS.1, hS.2]
      decide
noncomputable def wkI (l P N c g : Int) : Int := if ¬ (0 ≤ l ∧ l < N) then -1 else if whI P c = 0 ∨ g ≠ 0 then -2 else 0
/-- both sides' answer: 1, if the line lies in a least cut -/
noncomputable def wkA (C : (Nat → Bool) → Int) (P a b : Nat) (r : Int32) : Prop := ∃ m : Int, gmn (lam C) P m ∧ ((a ≠ b ∧ lam C a b = m) → r.toInt = 1) ∧ (¬ (a ≠ b ∧ lam C a b = m) → r.toInt = 0)
/-! part() -/
/-- no place below hangs with p by k -/
noncomputable def nwP (lm : Nat → Nat → Int) (k : Int) (p : Nat) : Bool := decide (∀ q : Nat, q < p → lm q p < k)
noncomputable def alk (lm : Nat → Nat → Int) (k : Int) (p o : Nat) : Prop := o ≤ p ∧ (o < p → k ≤ lm o p) ∧ ∀ q : Nat, q < o → lm q p < k
theorem alk_nw {lm : Nat → Nat → Int} {k : Int} {p o : Nat} (h : alk lm k p o) : (o = p ↔ nwP lm k p = true) := by
  unfold nwP
  rw [decide_eq_true_iff]
  constructor
  · intro e
    have := h.2.2
    rw [e] at this
    exact this
  · intro g
    rcases Nat.lt_or_ge o p with w | w
    · have a := h.2.1 w
      have b := g o w
      omega
    · have := h.1
      omega
/-- the least place alike is new -/
theorem alk_new {lm : Nat → Nat → Int} {P : Nat} {k : Int} {p o : Nat} (hs : ∀ a b : Nat, a < P → b < P → a ≠ b → lm a b = lm b a) (hu : ∀ a b c : Nat, a < P → b < P → c < P → a ≠ b → b ≠ c → a ≠ c → lm a b ≤ lm a c ∨ lm b c ≤ lm a c) (hp : p < P) (h : alk lm k p o) : nwP lm k o = true := by
  unfold nwP
  refine decide_eq_true (fun q hq => ?_)
  obtain ⟨h1, h2, h3⟩ := h
  have a := h3 q hq
  rcases Nat.lt_or_ge o p with w | w
  · have b := h2 w
    have u := hu q o p (by omega) (by omega) hp (by omega) (by omega) (by omega)
    rcases u with u | u <;> omega
  · rw [show o = p by omega]
    exact a
noncomputable def prI (k p P c : Int) : Int := if k < 0 then -1 else if whI P c = 0 then -2 else if p ≠ -1 ∧ ¬ (0 ≤ p ∧ p < P) then -1 else 0
noncomputable def prA (lm : Nat → Nat → Int) (P : Nat) (k : Int) (p r : Int32) : Prop := (p.toInt = -1 → r.toInt = cnQ (nwP lm k) P) ∧ (p.toInt ≠ -1 → ∃ o : Nat, alk lm k p.toNatClampNeg o ∧ r.toInt = cnQ (nwP lm k) o)
/-- the reference's parts, underway: n new ones below p, of the place's part's number -/
noncomputable def prW (lm : Nat → Nat → Int) (k : Int) (pl : Int) (p : Nat) (n of : Int32) : Prop := n.toInt = cnQ (nwP lm k) p ∧ ((of.toInt = -9 ∧ ∀ q : Nat, q < p → nwP lm k q = true → ¬ ((q : Int) = pl ∨ (0 ≤ pl ∧ k ≤ lm q pl.toNat))) ∨ ∃ q : Nat, q < p ∧ nwP lm k q = true ∧ ((q : Int) = pl ∨ (0 ≤ pl ∧ k ≤ lm q pl.toNat)) ∧ (∀ j : Nat, j < q → nwP lm k j = true → ¬ ((j : Int) = pl ∨ (0 ≤ pl ∧ k ≤ lm j pl.toNat))) ∧ of.toInt = cnQ (nwP lm k) q)
theorem prW_0 {lm : Nat → Nat → Int} {k pl : Int} : prW lm k pl (0 : Int32).toNatClampNeg 0 (-9) := by
  rw [cl_0]
  exact ⟨rfl, Or.inl ⟨by decide, fun q hq => by omega⟩⟩
theorem prW_st {lm : Nat → Nat → Int} {k pl : Int} {p p2 n of n2 of2 : Int32} {nw has : Bool} (h : prW lm k pl p.toNatClampNeg n of) (h0 : 0 ≤ p.toInt) (h12 : p.toInt ≤ 12) (e : p2.toInt = p.toInt + 1) (hnw : nwP lm k p.toNatClampNeg = nw) (hh : (has = true ↔ (p.toInt = pl ∨ (0 ≤ pl ∧ k ≤ lm p.toNatClampNeg pl.toNat)))) (hn : (nw = true ∧ n2.toInt = n.toInt + 1) ∨ (nw = false ∧ n2.toInt = n.toInt)) (ho : (nw = true ∧ has = true ∧ of.toInt = -9 ∧ of2 = n) ∨ (¬ (nw = true ∧ has = true ∧ of.toInt = -9) ∧ of2 = of)) : prW lm k pl p2.toNatClampNeg n2 of2 := by
  have c := clI (i := p) h0
  have c2 := clI (i := p2) (by omega)
  rw [show p2.toNatClampNeg = p.toNatClampNeg + 1 by omega]
  obtain ⟨a1, a2⟩ := h
  have hh2 : has = true ↔ (((p.toNatClampNeg : Nat) : Int) = pl ∨ (0 ≤ pl ∧ k ≤ lm p.toNatClampNeg pl.toNat)) := by rw [c]; exact hh
  refine ⟨?_, ?_⟩
  · rcases hn with ⟨w, g⟩ | ⟨w, g⟩
    · rw [cnQ_ye (hnw.trans w)]
      omega
    · rw [cnQ_no (hnw.trans w)]
      omega
  · rcases a2 with ⟨b1, b2⟩ | ⟨q, b1, b2, b3, b4, b5⟩
    · rcases ho with ⟨o1, o2, o3, o4⟩ | ⟨o1, o2⟩
      · exact Or.inr ⟨p.toNatClampNeg, by omega, hnw.trans o1, hh2.mp o2, b2, by rw [o4]; exact a1⟩
      · refine Or.inl ⟨by rw [o2]; exact b1, fun q hq gq => ?_⟩
        by_cases z : q = p.toNatClampNeg
        · rw [z] at gq ⊢
          intro w
          exact o1 ⟨hnw.symm.trans gq, hh2.mpr w, b1⟩
        · exact b2 q (by omega) gq
    · rcases ho with ⟨_, _, o3, _⟩ | ⟨_, o2⟩
      · have := (cnQ_nn (p := nwP lm k) (k := q)).1
        omega
      · exact Or.inr ⟨q, by omega, b2, b3, b4, by rw [o2]; exact b5⟩
theorem prW_end {lm : Nat → Nat → Int} {P : Nat} {k : Int} {pl n of r : Int32} (hs : ∀ a b : Nat, a < P → b < P → a ≠ b → lm a b = lm b a) (hu : ∀ a b c : Nat, a < P → b < P → c < P → a ≠ b → b ≠ c → a ≠ c → lm a b ≤ lm a c ∨ lm b c ≤ lm a c) (h : prW lm k pl.toInt P n of) (hpl : pl.toInt = -1 ∨ (0 ≤ pl.toInt ∧ pl.toInt < P)) (hr : (pl.toInt = -1 ∧ r = n) ∨ (pl.toInt ≠ -1 ∧ r = of)) : prA lm P k pl r := by
  refine ⟨fun z => ?_, fun z => ?_⟩
  · rcases hr with ⟨_, g⟩ | ⟨g, _⟩
    · rw [g]
      exact h.1
    · exact absurd z g
  · have rg : 0 ≤ pl.toInt ∧ pl.toInt < P := by omega
    have c := clI (i := pl) rg.1
    have en : pl.toInt.toNat = pl.toNatClampNeg := rfl
    have er : r = of := by
      rcases hr with ⟨g, _⟩ | ⟨_, g⟩
      · exact absurd g z
      · exact g
    obtain ⟨o, ho⟩ : ∃ o : Nat, alk lm k pl.toNatClampNeg o := by
      have go : ∀ m : Nat, m ≤ pl.toNatClampNeg → (∃ o : Nat, alk lm k pl.toNatClampNeg o) ∨ ∀ q : Nat, q < m → lm q pl.toNatClampNeg < k := fun m => by
        induction m with
        | zero => exact fun _ => Or.inr (fun q hq => by omega)
        | succ m ih =>
          intro hm
          rcases ih (by omega) with w | w
          · exact Or.inl w
          · rcases Int.lt_or_le (lm m pl.toNatClampNeg) k with g | g
            · refine Or.inr (fun q hq => ?_)
              by_cases z : q = m
              · rw [z]
                exact g
              · exact w q (by omega)
            · exact Or.inl ⟨m, by omega, fun _ => g, w⟩
      rcases go pl.toNatClampNeg (Nat.le_refl _) with w | w
      · exact w
      · exact ⟨pl.toNatClampNeg, Nat.le_refl _, fun g => by omega, w⟩
    refine ⟨o, ho, ?_⟩
    have on := alk_new hs hu (by omega) ho
    have oh : ((o : Int) = pl.toInt ∨ (0 ≤ pl.toInt ∧ k ≤ lm o pl.toInt.toNat)) := by
      rcases Nat.lt_or_ge o pl.toNatClampNeg with w | w
      · exact Or.inr ⟨rg.1, by rw [en]; exact ho.2.1 w⟩
      · have := ho.1
        exact Or.inl (by omega)
    rw [er]
    rcases h.2 with ⟨b1, b2⟩ | ⟨q, b1, b2, b3, b4, b5⟩
    · exact absurd oh (b2 o (by have := ho.1; omega) on)
    · rw [b5]
      rcases Nat.lt_trichotomy q o with w | w | w
      · have := ho.2.2 q w
        rw [en] at b3
        have := ho.1
        rcases b3 with b3 | b3 <;> omega
      · rw [w]
      · exact absurd oh (b4 o w on)
theorem bt_z0 : ∀ i : Nat, i < 32 → bt 0 i = false := by decide +kernel
theorem p2_ev {P : Int32} (h : 1 ≤ P.toInt ∨ 2 ≤ P.toInt ∨ 0 ≤ P.toInt) : 1 ≤ P.toInt → ((2 ^ P.toNatClampNeg : Nat) : Int) % 2 = 0 := fun h1 => by
  have c := clI (i := P) (by omega)
  obtain ⟨k, e⟩ : ∃ k : Nat, P.toNatClampNeg = k + 1 := ⟨P.toNatClampNeg - 1, by omega⟩
  rw [e, Nat.pow_succ]
  omega
theorem p2_ge2 {P : Int32} (h : 2 ≤ P.toInt) : (2 : Int32).toInt ≤ ((2 ^ P.toNatClampNeg : Nat) : Int) := by
  have c := clI (i := P) (by omega)
  have a : 2 ^ 1 ≤ 2 ^ P.toNatClampNeg := Nat.pow_le_pow_right (by decide) (by omega)
  have z : (2 : Int32).toInt = 2 := by decide
  omega
/-- the class's way of asking whether a line is weak -/
theorem wk_cls {lm : Nat → Nat → Int} {s e w : Int32} {a b : Nat} {m : Int} (hs : s.toNatClampNeg = a) (he : e.toNatClampNeg = b) (s0 : 0 ≤ s.toInt) (e0 : 0 ≤ e.toInt) (h0 : s.toInt ≠ e.toInt → w.toInt = lm s.toNatClampNeg e.toNatClampNeg) (h1 : s.toInt = e.toInt → w.toInt = 1000000000) (hm : m < 1000000) : (a ≠ b ∧ lm a b = m) ↔ w.toInt = m := by
  have cs := clI (i := s) s0
  have ce := clI (i := e) e0
  by_cases z : s.toInt = e.toInt
  · have := h1 z
    constructor
    · intro h
      exact absurd (by omega) h.1
    · intro h
      omega
  · have q := h0 z
    rw [hs, he] at q
    constructor
    · intro h
      omega
    · intro h
      exact ⟨by omega, by omega⟩
theorem alk_st {lm : Nat → Nat → Int} {k i i2 : Int32} {p : Nat} {w : Int} (h : ∀ q : Nat, (q : Int) < i.toInt → lm q p < k.toInt) (h0 : 0 ≤ i.toInt) (e : i2.toInt = i.toInt + 1) (hw : w = lm i.toNatClampNeg p) (hk : w < k.toInt) : ∀ q : Nat, (q : Int) < i2.toInt → lm q p < k.toInt := fun q hq => by
  have c := clI (i := i) h0
  by_cases z : q = i.toNatClampNeg
  · rw [z]
    omega
  · exact h q (by omega)
theorem cnt_nw {lm : Nat → Nat → Int} {k a a2 i i2 o : Int32} (h : a.toInt = cnQ (nwP lm k.toInt) i.toNatClampNeg) (h0 : 0 ≤ i.toInt) (e : i2.toInt = i.toInt + 1) (ho : alk lm k.toInt i.toNatClampNeg o.toNatClampNeg) (hr : (o.toInt = i.toInt ∧ a2.toInt = a.toInt + 1) ∨ (o.toInt ≠ i.toInt ∧ 0 ≤ o.toInt ∧ a2.toInt = a.toInt)) : a2.toInt = cnQ (nwP lm k.toInt) i2.toNatClampNeg := by
  have c := clI (i := i) h0
  have c2 := clI (i := i2) (by omega)
  rw [show i2.toNatClampNeg = i.toNatClampNeg + 1 by omega]
  have q := alk_nw ho
  rcases hr with ⟨w, g⟩ | ⟨w, w0, g⟩
  · have co := clI (i := o) (by omega)
    rw [cnQ_ye (q.mp (by omega))]
    omega
  · have co := clI (i := o) w0
    have z : nwP lm k.toInt i.toNatClampNeg = false := by
      cases y : nwP lm k.toInt i.toNatClampNeg
      · rfl
      · have := q.mpr y
        omega
    rw [cnQ_no z]
    omega
theorem wk_lo {C : (Nat → Bool) → Int} {m : Int} {a b n : Nat} (h : (n : Int) < 2) (hq : wkQ C m a b n) : False := by
  have := hq.2.1
  omega
theorem wk_st {C : (Nat → Bool) → Int} {m : Int} {a b : Nat} {k k2 : Int32} (h : ∀ n : Nat, (n : Int) < k.toInt → ¬ wkQ C m a b n) (h0 : 2 ≤ k.toInt) (hev : k.toInt % 2 = 0) (e : k2.toInt = k.toInt + 2) (hn : bt k a = bt k b ∨ mn6 (C (bt k)) ≠ m) : ∀ n : Nat, (n : Int) < k2.toInt → ¬ wkQ C m a b n := fun n hn2 hq => by
  have c := clI (i := k) (by omega)
  by_cases z : n = k.toNatClampNeg
  · obtain ⟨_, _, q3, q4⟩ := hq
    rw [z, ← nI_cl (by omega)] at q3 q4
    rcases hn with w | w
    · exact q3 w
    · exact w q4
  · by_cases y : (n : Int) < k.toInt
    · exact h n y hq
    · have := hq.1
      omega
theorem wk_at {C : (Nat → Bool) → Int} {m : Int} {a b : Nat} {k : Int32} (h0 : 2 ≤ k.toInt) (hev : k.toInt % 2 = 0) (h1 : bt k a ≠ bt k b) (h2 : mn6 (C (bt k)) = m) : wkQ C m a b k.toNatClampNeg := by
  have c := clI (i := k) (by omega)
  refine ⟨by omega, by omega, ?_, ?_⟩
  · rw [← nI_cl (by omega)]
    exact h1
  · rw [← nI_cl (by omega)]
    exact h2
theorem bt_eqv {a b : Bool} {x y : Int32} (h1 : x.toInt = if a = true then 1 else 0) (h2 : y.toInt = if b = true then 1 else 0) (h : x.toInt = y.toInt) : a = b := by
  cases a <;> cases b
  · rfl
  · rw [if_neg (by decide)] at h1
    rw [if_pos rfl] at h2
    omega
  · rw [if_pos rfl] at h1
    rw [if_neg (by decide)] at h2
    omega
  · rfl
theorem bt_neq {a b : Bool} {x y : Int32} (h1 : x.toInt = if a = true then 1 else 0) (h2 : y.toInt = if b = true then 1 else 0) (h : x.toInt ≠ y.toInt) : a ≠ b := fun e => by
  rw [e] at h1
  exact h (h1.trans h2.symm)
theorem nw_0 {lm : Nat → Nat → Int} {k : Int} {p : Nat} : ((1 : Int32).toInt = 1 ↔ ∀ q : Nat, (q : Int) < (0 : Int32).toInt → lm q p < k) := by
  have z : (0 : Int32).toInt = 0 := by decide
  exact ⟨fun _ q hq => by omega, fun _ => by decide⟩
theorem nw_st {lm : Nat → Nat → Int} {k : Int} {p : Nat} {a a2 i i2 n : Int32} (h : (a.toInt = 1 ↔ ∀ q : Nat, (q : Int) < i.toInt → lm q p < k)) (h0 : 0 ≤ i.toInt) (e : i2.toInt = i.toInt + 1) (hn : n.toInt = lm i.toNatClampNeg p) (hr : (n.toInt < k ∧ (a2.toInt = 1 ↔ a.toInt = 1)) ∨ (k ≤ n.toInt ∧ a2.toInt = 0)) : (a2.toInt = 1 ↔ ∀ q : Nat, (q : Int) < i2.toInt → lm q p < k) := by
  have c := clI (i := i) h0
  rcases hr with ⟨w, g⟩ | ⟨w, g⟩
  · rw [g, h]
    constructor
    · intro f q hq
      by_cases z : q = i.toNatClampNeg
      · rw [z]
        omega
      · exact f q (by omega)
    · intro f q hq
      exact f q (by omega)
  · constructor
    · intro f
      omega
    · intro f
      have := f i.toNatClampNeg (by omega)
      omega
theorem nw_end {lm : Nat → Nat → Int} {k : Int} {a p i : Int32} (h : (a.toInt = 1 ↔ ∀ q : Nat, (q : Int) < i.toInt → lm q p.toNatClampNeg < k)) (e : i.toInt = p.toInt ∧ 0 ≤ p.toInt) : nwP lm k p.toNatClampNeg = decide (a.toInt = 1) := by
  have c := clI (i := p) e.2
  unfold nwP
  refine decide_eq_decide.mpr ?_
  rw [h]
  constructor
  · intro f q hq
    exact f q (by omega)
  · intro f q hq
    exact f q (by omega)
theorem has_1 {t : Int32} {A : Prop} (ht : t.toInt = 1) (h : A) : decide (t.toInt = 1) = true ↔ A := ⟨fun _ => h, fun _ => decide_eq_true ht⟩
theorem has_0 {t : Int32} {A B D : Prop} (ht : t.toInt = 0) (h1 : ¬ A) (h2 : B → ¬ D) : decide (t.toInt = 1) = true ↔ (A ∨ (B ∧ D)) := by
  rw [decide_eq_true_iff]
  constructor
  · intro h
    omega
  · intro h
    rcases h with h | h
    · exact absurd h h1
    · exact absurd h.2 (h2 h.1)
end

section
set_option maxHeartbeats 4000000 in
set_option maxRecDepth 100000 in
theorem c_X11_cuts2 (l : Launch) (D : va_G) (cy : Nat → ClassId) (sz : Nat) (xo : Nat) (xk : Nat) (xn : Nat) (xc : Nat) (xh : Nat) (xt : Nat) (xw : Nat) (xm : Nat) (xp : Nat) (pf : Int32) (ph : Int32) (tr : Int64) (fi : Int32) (n1 : Nat) (n2 : Nat) (n3 : Nat) (n4 : Nat) (n5 : Nat) (vp : Int32) (vn : Int32) (clo : Nat) (cro : Nat) (c4 : Nat) (c5 : Nat) (c6 : Nat) (c7 : Nat) (c8 : Nat) (fk : Nat → Int32) (fs : Nat → Int32) (fe : Nat → Int32) (fw : Nat → Int32) (fp : Nat → Int32) (rl : Nat → Nat) (Ml : Nat → Nat → Int32) (rr : Nat → Nat) (Mr : Nat → Nat → Int32) (f4 : Nat → Int32) (f5 : Nat → Int32) (f6 : Nat → Int32) (f7 : Nat → Int32) (f8 : Nat → Int32) (k0 : Nat) (k1 : Nat) (k2 : Nat) (k3 : Nat) (k4 : Nat) (u1 : Int32) (u2 : Int32) (u3 : Int32) (u4 : Int32) (u5 : Int32) (u6 : Int32) (u7 : Int32) (u8 : Int32) (ta : Nat) (tb : Nat) (fx : Nat → Int32) (fu : Nat → Int32) (hvp : 0 ≤ vp.toInt ∧ vp.toInt ≤ 12) (hvn : 0 ≤ vn.toInt ∧ vn.toInt ≤ 40) (hnc : netC vp.toInt vn.toInt fs fe) (hpr : prng fs fe 40) (r_f7 : rng f7 12 (0) (11)) (r_f8 : rng f8 12 (0) (11)) (r_fk : rng fk 40 (0) (4)) (r_fw : rng fw 40 (0) (2000)) : Met l yX11_cuts wsX11_cuts ({ frames := 16, cells := 0, slots := 0, locals := 381 }) (va_Pc [.ref xo] (fun U => U.heap.size = sz ∧ va_P D vwCl [ob11_0_ xo xk xn xc xh xt xw xm xp pf ph tr fi, ob3_0_ xn vp vn n1 n2 n3 n4 n5, ai_ cy n1 40 fk, ai_ cy n2 40 fs, ai_ cy n3 40 fe, ai_ cy n4 40 fw, ai_ cy n5 40 fp, ob0_0_ xc xn xk clo cro c4 c5 c6 c7 c8, aq_ cy 6 clo 12 (gf_ rl), ai_ cy (rl 0) 12 (Ml 0), ai_ cy (rl 1) 12 (Ml 1), ai_ cy (rl 2) 12 (Ml 2), ai_ cy (rl 3) 12 (Ml 3), ai_ cy (rl 4) 12 (Ml 4), ai_ cy (rl 5) 12 (Ml 5), ai_ cy (rl 6) 12 (Ml 6), ai_ cy (rl 7) 12 (Ml 7), ai_ cy (rl 8) 12 (Ml 8), ai_ cy (rl 9) 12 (Ml 9), ai_ cy (rl 10) 12 (Ml 10), ai_ cy (rl 11) 12 (Ml 11), aq_ cy 6 cro 12 (gf_ rr), ai_ cy (rr 0) 12 (Mr 0), ai_ cy (rr 1) 12 (Mr 1), ai_ cy (rr 2) 12 (Mr 2), ai_ cy (rr 3) 12 (Mr 3), ai_ cy (rr 4) 12 (Mr 4), ai_ cy (rr 5) 12 (Mr 5), ai_ cy (rr 6) 12 (Mr 6), ai_ cy (rr 7) 12 (Mr 7), ai_ cy (rr 8) 12 (Mr 8), ai_ cy (rr 9) 12 (Mr 9), ai_ cy (rr 10) 12 (Mr 10), ai_ cy (rr 11) 12 (Mr 11), ai_ cy c4 40 f4, ai_ cy c5 40 f5, ai_ cy c6 40 f6, ai_ cy c7 12 f7, ai_ cy c8 12 f8, aq_ cy 3 xk 5 (kf_ k0 k1 k2 k3 k4), ob6_0_ k0, ob5_0_ k1, ob9_0_ k2, ob2_0_ k3, ob8_0_ k4, ob7_0_ xh xc u1 u2 u3 u4 u5 u6 u7 u8, ob1_0_ xt xc ta tb, ai_ cy ta 12 fx, ai_ cy tb 12 fu] U.heap ∧ kg_ D cy U ∧ va_D (fun _ => True) [ob11_0_ xo xk xn xc xh xt xw xm xp pf ph tr fi, ob3_0_ xn vp vn n1 n2 n3 n4 n5, ai_ cy n1 40 fk, ai_ cy n2 40 fs, ai_ cy n3 40 fe, ai_ cy n4 40 fw, ai_ cy n5 40 fp, ob0_0_ xc xn xk clo cro c4 c5 c6 c7 c8, aq_ cy 6 clo 12 (gf_ rl), ai_ cy (rl 0) 12 (Ml 0), ai_ cy (rl 1) 12 (Ml 1), ai_ cy (rl 2) 12 (Ml 2), ai_ cy (rl 3) 12 (Ml 3), ai_ cy (rl 4) 12 (Ml 4), ai_ cy (rl 5) 12 (Ml 5), ai_ cy (rl 6) 12 (Ml 6), ai_ cy (rl 7) 12 (Ml 7), ai_ cy (rl 8) 12 (Ml 8), ai_ cy (rl 9) 12 (Ml 9), ai_ cy (rl 10) 12 (Ml 10), ai_ cy (rl 11) 12 (Ml 11), aq_ cy 6 cro 12 (gf_ rr), ai_ cy (rr 0) 12 (Mr 0), ai_ cy (rr 1) 12 (Mr 1), ai_ cy (rr 2) 12 (Mr 2), ai_ cy (rr 3) 12 (Mr 3), ai_ cy (rr 4) 12 (Mr 4), ai_ cy (rr 5) 12 (Mr 5), ai_ cy (rr 6) 12 (Mr 6), ai_ cy (rr 7) 12 (Mr 7), ai_ cy (rr 8) 12 (Mr 8), ai_ cy (rr 9) 12 (Mr 9), ai_ cy (rr 10) 12 (Mr 10), ai_ cy (rr 11) 12 (Mr 11), ai_ cy c4 40 f4, ai_ cy c5 40 f5, ai_ cy c6 40 f6, ai_ cy c7 12 f7, ai_ cy c8 12 f8, aq_ cy 3 xk 5 (kf_ k0 k1 k2 k3 k4), ob6_0_ k0, ob5_0_ k1, ob9_0_ k2, ob2_0_ k3, ob8_0_ k4, ob7_0_ xh xc u1 u2 u3 u4 u5 u6 u7 u8, ob1_0_ xt xc ta tb, ai_ cy ta 12 fx, ai_ cy tb 12 fu])) (va_Qi (fun (r : Int32) (_ : Unit) => ((whI vp.toInt (sumI (bkF fk fs) vn.toNatClampNeg) ≠ 0 → cwA (cutF fk fs fe fw (-9) vn.toNatClampNeg) vp.toNatClampNeg r) ∧ (whI vp.toInt (sumI (bkF fk fs) vn.toNatClampNeg) = 0 → r.toInt = -2))) (fun (_ : Unit) (t : State) => ∃ (eMl : Nat → Nat → Int32), ∃ (eMr : Nat → Nat → Int32), ∃ (e4 : Nat → Int32), ∃ (e5 : Nat → Int32), ∃ (e6 : Nat → Int32), ∃ (e7 : Nat → Int32), ∃ (e8 : Nat → Int32), ∃ (v1 : Int32), ∃ (v2 : Int32), ∃ (v3 : Int32), ∃ (v4 : Int32), ∃ (v5 : Int32), ∃ (v6 : Int32), ∃ (efx : Nat → Int32), ∃ (efu : Nat → Int32), (rng e7 12 (0) (11)) ∧ (rng e8 12 (0) (11)) ∧ va_P D vwCl [ob11_0_ xo xk xn xc xh xt xw xm xp pf ph tr fi, ob3_0_ xn vp vn n1 n2 n3 n4 n5, ai_ cy n1 40 fk, ai_ cy n2 40 fs, ai_ cy n3 40 fe, ai_ cy n4 40 fw, ai_ cy n5 40 fp, ob0_0_ xc xn xk clo cro c4 c5 c6 c7 c8, aq_ cy 6 clo 12 (gf_ rl), ai_ cy (rl 0) 12 (eMl 0), ai_ cy (rl 1) 12 (eMl 1), ai_ cy (rl 2) 12 (eMl 2), ai_ cy (rl 3) 12 (eMl 3), ai_ cy (rl 4) 12 (eMl 4), ai_ cy (rl 5) 12 (eMl 5), ai_ cy (rl 6) 12 (eMl 6), ai_ cy (rl 7) 12 (eMl 7), ai_ cy (rl 8) 12 (eMl 8), ai_ cy (rl 9) 12 (eMl 9), ai_ cy (rl 10) 12 (eMl 10), ai_ cy (rl 11) 12 (eMl 11), aq_ cy 6 cro 12 (gf_ rr), ai_ cy (rr 0) 12 (eMr 0), ai_ cy (rr 1) 12 (eMr 1), ai_ cy (rr 2) 12 (eMr 2), ai_ cy (rr 3) 12 (eMr 3), ai_ cy (rr 4) 12 (eMr 4), ai_ cy (rr 5) 12 (eMr 5), ai_ cy (rr 6) 12 (eMr 6), ai_ cy (rr 7) 12 (eMr 7), ai_ cy (rr 8) 12 (eMr 8), ai_ cy (rr 9) 12 (eMr 9), ai_ cy (rr 10) 12 (eMr 10), ai_ cy (rr 11) 12 (eMr 11), ai_ cy c4 40 e4, ai_ cy c5 40 e5, ai_ cy c6 40 e6, ai_ cy c7 12 e7, ai_ cy c8 12 e8, aq_ cy 3 xk 5 (kf_ k0 k1 k2 k3 k4), ob6_0_ k0, ob5_0_ k1, ob9_0_ k2, ob2_0_ k3, ob8_0_ k4, ob7_0_ xh xc v1 v2 v3 v4 v5 v6 u7 u8, ob1_0_ xt xc ta tb, ai_ cy ta 12 efx, ai_ cy tb 12 efu] t.heap ∧ va_D (va_A [ob11_0_ xo xk xn xc xh xt xw xm xp pf ph tr fi, ob3_0_ xn vp vn n1 n2 n3 n4 n5, ai_ cy n1 40 fk, ai_ cy n2 40 fs, ai_ cy n3 40 fe, ai_ cy n4 40 fw, ai_ cy n5 40 fp, ob0_0_ xc xn xk clo cro c4 c5 c6 c7 c8, aq_ cy 6 clo 12 (gf_ rl), ai_ cy (rl 0) 12 (Ml 0), ai_ cy (rl 1) 12 (Ml 1), ai_ cy (rl 2) 12 (Ml 2), ai_ cy (rl 3) 12 (Ml 3), ai_ cy (rl 4) 12 (Ml 4), ai_ cy (rl 5) 12 (Ml 5), ai_ cy (rl 6) 12 (Ml 6), ai_ cy (rl 7) 12 (Ml 7), ai_ cy (rl 8) 12 (Ml 8), ai_ cy (rl 9) 12 (Ml 9), ai_ cy (rl 10) 12 (Ml 10), ai_ cy (rl 11) 12 (Ml 11), aq_ cy 6 cro 12 (gf_ rr), ai_ cy (rr 0) 12 (Mr 0), ai_ cy (rr 1) 12 (Mr 1), ai_ cy (rr 2) 12 (Mr 2), ai_ cy (rr 3) 12 (Mr 3), ai_ cy (rr 4) 12 (Mr 4), ai_ cy (rr 5) 12 (Mr 5), ai_ cy (rr 6) 12 (Mr 6), ai_ cy (rr 7) 12 (Mr 7), ai_ cy (rr 8) 12 (Mr 8), ai_ cy (rr 9) 12 (Mr 9), ai_ cy (rr 10) 12 (Mr 10), ai_ cy (rr 11) 12 (Mr 11), ai_ cy c4 40 f4, ai_ cy c5 40 f5, ai_ cy c6 40 f6, ai_ cy c7 12 f7, ai_ cy c8 12 f8, aq_ cy 3 xk 5 (kf_ k0 k1 k2 k3 k4), ob6_0_ k0, ob5_0_ k1, ob9_0_ k2, ob2_0_ k3, ob8_0_ k4, ob7_0_ xh xc u1 u2 u3 u4 u5 u6 u7 u8, ob1_0_ xt xc ta tb, ai_ cy ta 12 fx, ai_ cy tb 12 fu] sz) [ob11_0_ xo xk xn xc xh xt xw xm xp pf ph tr fi, ob3_0_ xn vp vn n1 n2 n3 n4 n5, ai_ cy n1 40 fk, ai_ cy n2 40 fs, ai_ cy n3 40 fe, ai_ cy n4 40 fw, ai_ cy n5 40 fp, ob0_0_ xc xn xk clo cro c4 c5 c6 c7 c8, aq_ cy 6 clo 12 (gf_ rl), ai_ cy (rl 0) 12 (eMl 0), ai_ cy (rl 1) 12 (eMl 1), ai_ cy (rl 2) 12 (eMl 2), ai_ cy (rl 3) 12 (eMl 3), ai_ cy (rl 4) 12 (eMl 4), ai_ cy (rl 5) 12 (eMl 5), ai_ cy (rl 6) 12 (eMl 6), ai_ cy (rl 7) 12 (eMl 7), ai_ cy (rl 8) 12 (eMl 8), ai_ cy (rl 9) 12 (eMl 9), ai_ cy (rl 10) 12 (eMl 10), ai_ cy (rl 11) 12 (eMl 11), aq_ cy 6 cro 12 (gf_ rr), ai_ cy (rr 0) 12 (eMr 0), ai_ cy (rr 1) 12 (eMr 1), ai_ cy (rr 2) 12 (eMr 2), ai_ cy (rr 3) 12 (eMr 3), ai_ cy (rr 4) 12 (eMr 4), ai_ cy (rr 5) 12 (eMr 5), ai_ cy (rr 6) 12 (eMr 6), ai_ cy (rr 7) 12 (eMr 7), ai_ cy (rr 8) 12 (eMr 8), ai_ cy (rr 9) 12 (eMr 9), ai_ cy (rr 10) 12 (eMr 10), ai_ cy (rr 11) 12 (eMr 11), ai_ cy c4 40 e4, ai_ cy c5 40 e5, ai_ cy c6 40 e6, ai_ cy c7 12 e7, ai_ cy c8 12 e8, aq_ cy 3 xk 5 (kf_ k0 k1 k2 k3 k4), ob6_0_ k0, ob5_0_ k1, ob9_0_ k2, ob2_0_ k3, ob8_0_ k4, ob7_0_ xh xc v1 v2 v3 v4 v5 v6 u7 u8, ob1_0_ xt xc ta tb, ai_ cy ta 12 efx, ai_ cy tb 12 efu]) (va_A [ob11_0_ xo xk xn xc xh xt xw xm xp pf ph tr fi, ob3_0_ xn vp vn n1 n2 n3 n4 n5, ai_ cy n1 40 fk, ai_ cy n2 40 fs, ai_ cy n3 40 fe, ai_ cy n4 40 fw, ai_ cy n5 40 fp, ob0_0_ xc xn xk clo cro c4 c5 c6 c7 c8, aq_ cy 6 clo 12 (gf_ rl), ai_ cy (rl 0) 12 (Ml 0), ai_ cy (rl 1) 12 (Ml 1), ai_ cy (rl 2) 12 (Ml 2), ai_ cy (rl 3) 12 (Ml 3), ai_ cy (rl 4) 12 (Ml 4), ai_ cy (rl 5) 12 (Ml 5), ai_ cy (rl 6) 12 (Ml 6), ai_ cy (rl 7) 12 (Ml 7), ai_ cy (rl 8) 12 (Ml 8), ai_ cy (rl 9) 12 (Ml 9), ai_ cy (rl 10) 12 (Ml 10), ai_ cy (rl 11) 12 (Ml 11), aq_ cy 6 cro 12 (gf_ rr), ai_ cy (rr 0) 12 (Mr 0), ai_ cy (rr 1) 12 (Mr 1), ai_ cy (rr 2) 12 (Mr 2), ai_ cy (rr 3) 12 (Mr 3), ai_ cy (rr 4) 12 (Mr 4), ai_ cy (rr 5) 12 (Mr 5), ai_ cy (rr 6) 12 (Mr 6), ai_ cy (rr 7) 12 (Mr 7), ai_ cy (rr 8) 12 (Mr 8), ai_ cy (rr 9) 12 (Mr 9), ai_ cy (rr 10) 12 (Mr 10), ai_ cy (rr 11) 12 (Mr 11), ai_ cy c4 40 f4, ai_ cy c5 40 f5, ai_ cy c6 40 f6, ai_ cy c7 12 f7, ai_ cy c8 12 f8, aq_ cy 3 xk 5 (kf_ k0 k1 k2 k3 k4), ob6_0_ k0, ob5_0_ k1, ob9_0_ k2, ob2_0_ k3, ob8_0_ k4, ob7_0_ xh xc u1 u2 u3 u4 u5 u6 u7 u8, ob1_0_ xt xc ta tb, ai_ cy ta 12 fx, ai_ cy tb 12 fu] sz)) 0 0 (va_A [ob11_0_ xo xk xn xc xh xt xw xm xp pf ph tr fi, ob3_0_ xn vp vn n1 n2 n3 n4 n5, ai_ cy n1 40 fk, ai_ cy n2 40 fs, ai_ cy n3 40 fe, ai_ cy n4 40 fw, ai_ cy n5 40 fp, ob0_0_ xc xn xk clo cro c4 c5 c6 c7 c8, aq_ cy 6 clo 12 (gf_ rl), ai_ cy (rl 0) 12 (Ml 0), ai_ cy (rl 1) 12 (Ml 1), ai_ cy (rl 2) 12 (Ml 2), ai_ cy (rl 3) 12 (Ml 3), ai_ cy (rl 4) 12 (Ml 4), ai_ cy (rl 5) 12 (Ml 5), ai_ cy (rl 6) 12 (Ml 6), ai_ cy (rl 7) 12 (Ml 7), ai_ cy (rl 8) 12 (Ml 8), ai_ cy (rl 9) 12 (Ml 9), ai_ cy (rl 10) 12 (Ml 10), ai_ cy (rl 11) 12 (Ml 11), aq_ cy 6 cro 12 (gf_ rr), ai_ cy (rr 0) 12 (Mr 0), ai_ cy (rr 1) 12 (Mr 1), ai_ cy (rr 2) 12 (Mr 2), ai_ cy (rr 3) 12 (Mr 3), ai_ cy (rr 4) 12 (Mr 4), ai_ cy (rr 5) 12 (Mr 5), ai_ cy (rr 6) 12 (Mr 6), ai_ cy (rr 7) 12 (Mr 7), ai_ cy (rr 8) 12 (Mr 8), ai_ cy (rr 9) 12 (Mr 9), ai_ cy (rr 10) 12 (Mr 10), ai_ cy (rr 11) 12 (Mr 11), ai_ cy c4 40 f4, ai_ cy c5 40 f5, ai_ cy c6 40 f6, ai_ cy c7 12 f7, ai_ cy c8 12 f8, aq_ cy 3 xk 5 (kf_ k0 k1 k2 k3 k4), ob6_0_ k0, ob5_0_ k1, ob9_0_ k2, ob2_0_ k3, ob8_0_ k4, ob7_0_ xh xc u1 u2 u3 u4 u5 u6 u7 u8, ob1_0_ xt xc ta tb, ai_ cy ta 12 fx, ai_ cy tb 12 fu] sz) := by
  refine ofQ (cc := cX11_cuts) (maxL := 1) (ret := (some .int)) (by decide) rfl ?_
  intro p e s m args below meth c s₁ Q hQ B hml hv
  obtain ⟨rfl, hsz, hP, hK, hD0⟩ := hv
  have hG := hK.2
  have hK := hK.1
  have hx := B.exec
  have hb := B.bytes
  have hr := B.returns
  have hts := atoms_spec (ws := wsX11_cuts) B.pre
  have hown : s.vm.findClass RX11 = some m.cls := by have h_ := findClass_of_methodNamed B.named; exact h_
  have hlocks := B.notSynchronized
  subst hsz
  have hD := hD0.self (sz := s.heap.size)
  generalize hAe : va_A [ob11_0_ xo xk xn xc xh xt xw xm xp pf ph tr fi, ob3_0_ xn vp vn n1 n2 n3 n4 n5, ai_ cy n1 40 fk, ai_ cy n2 40 fs, ai_ cy n3 40 fe, ai_ cy n4 40 fw, ai_ cy n5 40 fp, ob0_0_ xc xn xk clo cro c4 c5 c6 c7 c8, aq_ cy 6 clo 12 (gf_ rl), ai_ cy (rl 0) 12 (Ml 0), ai_ cy (rl 1) 12 (Ml 1), ai_ cy (rl 2) 12 (Ml 2), ai_ cy (rl 3) 12 (Ml 3), ai_ cy (rl 4) 12 (Ml 4), ai_ cy (rl 5) 12 (Ml 5), ai_ cy (rl 6) 12 (Ml 6), ai_ cy (rl 7) 12 (Ml 7), ai_ cy (rl 8) 12 (Ml 8), ai_ cy (rl 9) 12 (Ml 9), ai_ cy (rl 10) 12 (Ml 10), ai_ cy (rl 11) 12 (Ml 11), aq_ cy 6 cro 12 (gf_ rr), ai_ cy (rr 0) 12 (Mr 0), ai_ cy (rr 1) 12 (Mr 1), ai_ cy (rr 2) 12 (Mr 2), ai_ cy (rr 3) 12 (Mr 3), ai_ cy (rr 4) 12 (Mr 4), ai_ cy (rr 5) 12 (Mr 5), ai_ cy (rr 6) 12 (Mr 6), ai_ cy (rr 7) 12 (Mr 7), ai_ cy (rr 8) 12 (Mr 8), ai_ cy (rr 9) 12 (Mr 9), ai_ cy (rr 10) 12 (Mr 10), ai_ cy (rr 11) 12 (Mr 11), ai_ cy c4 40 f4, ai_ cy c5 40 f5, ai_ cy c6 40 f6, ai_ cy c7 12 f7, ai_ cy c8 12 f8, aq_ cy 3 xk 5 (kf_ k0 k1 k2 k3 k4), ob6_0_ k0, ob5_0_ k1, ob9_0_ k2, ob2_0_ k3, ob8_0_ k4, ob7_0_ xh xc u1 u2 u3 u4 u5 u6 u7 u8, ob1_0_ xt xc ta tb, ai_ cy ta 12 fx, ai_ cy tb 12 fu] s.heap.size = A at hD hQ
  have hA : ∀ q : Nat, s.heap.size ≤ q → A q := fun q h => by rw [← hAe]; exact Or.inr h
  have hS : va_S A s.heap s.heap [] := va_S.rf
  have hl := lv_entry ([.ref xo]) (n := 1) (Nat.le_of_ble_eq_true rfl)
  rw [lg_entry_eq]
  generalize (lg_sl ([.ref xo]) ++ List.replicate (1 - (lg_sl ([.ref xo])).length) Slot.unset).toArray = ls at hl ⊢
  have hl : lv_has ls 1 [(0, .ref xo)] := hl
  have zm2 : ((-2) : Int32).toInt = -2 := by decide
  have z0 : (0 : Int32).toInt = 0 := by decide
  have z1 : (1 : Int32).toInt = 1 := by decide
  have z1000000000 : (1000000000 : Int32).toInt = 1000000000 := by decide
  have zq0 : (0 : Int32).toInt = 0 := by decide
  have zq1 : (1 : Int32).toInt = 1 := by decide
  have zq2 : (2 : Int32).toInt = 2 := by decide
  have zq3 : (3 : Int32).toInt = 3 := by decide
  have zq4 : (4 : Int32).toInt = 4 := by decide
  have zq5 : (5 : Int32).toInt = 5 := by decide
  have zqm9 : ((-9) : Int32).toInt = -9 := by decide
  have zqm1 : ((-1) : Int32).toInt = -1 := by decide
  have zqm2 : ((-2) : Int32).toInt = -2 := by decide
  have cv_ := clI (i := vp) (by omega)
  refine lv_aload_n hx hb dB_36_3_17.1.1.1.1 rfl (lv_at hl 0 rfl) ?_
  refine va_get (ci := 11) (v := .ref xn) (C := RX11) (T := TX11) (N := 12) hx hb hts (fun _ h => List.mem_cons_of_mem _ (List.mem_append_left _ (List.mem_append_left _ (List.mem_append_left _ (List.mem_append_left _ (List.mem_append_right _ h)))))) hown hK.1 hP 0 rfl rfl 1 (by decide) (hts (.fieldLink RX11 31 "CutAtlas" "net" "LCutAtlas$Net;") (List.mem_of_getElem? (i := 1) rfl)) (fun _ h9 => h9) rfl dB_36_3_17.1.1.1.2 ?_
  refine ct_R hP hD [ob3_0_ xn vp vn n1 n2 n3 n4 n5, ai_ cy n1 40 fk, ai_ cy n2 40 fs] [1, 2, 3] (by decide) rfl (fun hPc hDw => ?_)
  have hFc := va_free (wc := []) hD hS hA [] rfl
  refine va_calli (va_runV (As := []) (rest := []) ⟨hx, hb, hml, hown, hts⟩ (c_X3_isWhole2 l D cy s.heap.size xn n1 n2 n3 n4 n5 vp vn fk fs (by first | with_reducible assumption | omega | assumption)) (cwV 0 hts gX11_cuts_X3_isWhole rfl rfl rfl ⟨rfl, hd_X3_isWhole⟩ ⟨Nat.le_of_ble_eq_true rfl, Nat.le_of_ble_eq_true rfl⟩) ⟨bl_, va_recvX hK.1 hP (ci := 3) (q0 := 1) rfl rfl, fun U hU hW => ⟨rfl, by rw [hU], by rw [hU]; exact hPc, kk_mv hW hK, hDw⟩⟩ rfl rfl hl.1 rfl (lv_room (Nat.le_of_ble_eq_true rfl)) dB_36_3_17.1.1.2.1 ⟨Nat.le_of_ble_eq_true rfl, Nat.le_of_ble_eq_true rfl⟩) hS (fun q _ h => hFc q h) hFc (fun r_1 u t H locs ht hvm hw hB hz1 hk1 hS => ?_)
  have hP : va_P D vwCl _ H := ro_keep hP hk1
  obtain ⟨f0_r_1, f1_r_1⟩ := hw
  have hw1_ := f1_r_1
  refine lv_if_ne (tgt := 13) hx hb dB_36_3_17.1.1.2.2 (by decide) (fun c_2 => ?_) (fun c_2 => ?_)
  · have t_2 : ¬ r_1.toInt = (0 : Int32).toInt := fun h => c_2 (Int32.toInt_inj.mp h)
    have hwb_ := whI_1 (P := vp.toInt) (c := sumI (bkF fk fs) vn.toNatClampNeg) (by omega)
    have hwi_ := hwb_.2
    refine lv_aload_n hx hb dB_36_3_17.1.2.2.1 rfl (lv_at hl 0 rfl) ?_
    refine va_get (ci := 11) (v := .ref xt) (C := RX11) (T := TX11) (N := 12) hx hb hts (fun _ h => List.mem_cons_of_mem _ (List.mem_append_left _ (List.mem_append_left _ (List.mem_append_left _ (List.mem_append_left _ (List.mem_append_right _ h)))))) hown hK.1 hP 0 rfl rfl 4 (by decide) (hts (.fieldLink RX11 56 "CutAtlas" "cutTree" "LCutAtlas$CutTree;") (List.mem_of_getElem? (i := 2) rfl)) (fun _ h9 => h9) rfl dB_36_3_17.1.2.2.2 ?_
    refine ct_S hP hD hS hA [ob1_0_ xt xc ta tb, ob0_0_ xc xn xk clo cro c4 c5 c6 c7 c8, ob3_0_ xn vp vn n1 n2 n3 n4 n5, ai_ cy ta 12 fx, ai_ cy tb 12 fu, ai_ cy n1 40 fk, ai_ cy n2 40 fs, ai_ cy n3 40 fe, ai_ cy n4 40 fw, aq_ cy 6 clo 12 (gf_ rl), ai_ cy (rl 0) 12 (Ml 0), ai_ cy (rl 1) 12 (Ml 1), ai_ cy (rl 2) 12 (Ml 2), ai_ cy (rl 3) 12 (Ml 3), ai_ cy (rl 4) 12 (Ml 4), ai_ cy (rl 5) 12 (Ml 5), ai_ cy (rl 6) 12 (Ml 6), ai_ cy (rl 7) 12 (Ml 7), ai_ cy (rl 8) 12 (Ml 8), ai_ cy (rl 9) 12 (Ml 9), ai_ cy (rl 10) 12 (Ml 10), ai_ cy (rl 11) 12 (Ml 11), aq_ cy 6 cro 12 (gf_ rr), ai_ cy (rr 0) 12 (Mr 0), ai_ cy (rr 1) 12 (Mr 1), ai_ cy (rr 2) 12 (Mr 2), ai_ cy (rr 3) 12 (Mr 3), ai_ cy (rr 4) 12 (Mr 4), ai_ cy (rr 5) 12 (Mr 5), ai_ cy (rr 6) 12 (Mr 6), ai_ cy (rr 7) 12 (Mr 7), ai_ cy (rr 8) 12 (Mr 8), ai_ cy (rr 9) 12 (Mr 9), ai_ cy (rr 10) 12 (Mr 10), ai_ cy (rr 11) 12 (Mr 11), ai_ cy c4 40 f4, ai_ cy c5 40 f5, ai_ cy c6 40 f6, ai_ cy c7 12 f7, ai_ cy c8 12 f8, aq_ cy 3 xk 5 (kf_ k0 k1 k2 k3 k4), ob6_0_ k0, ob5_0_ k1, ob9_0_ k2, ob2_0_ k3, ob8_0_ k4] [46, 7, 1, 47, 48, 2, 3, 4, 5, 8, 9, 10, 11, 12, 13, 14, 15, 16, 17, 18, 19, 20, 21, 22, 23, 24, 25, 26, 27, 28, 29, 30, 31, 32, 33, 34, 35, 36, 37, 38, 39, 40, 41, 42, 43, 44] (by decide +kernel) rfl (fun hPc hDw hFc hC_ => ?_)
    refine va_callv (va_runV (As := []) (rest := []) ⟨hx, hb, hml, hown, hts⟩ (c_X1_grow2 l D cy H.size xt ta tb xc xk clo cro c4 c5 c6 c7 c8 xn n1 n2 n3 n4 n5 vp vn fx fu fk fs fe fw rl Ml rr Mr f4 f5 f6 f7 f8 k0 k1 k2 k3 k4 (by first | with_reducible assumption | omega | assumption) (by first | with_reducible assumption | omega | assumption) (by first | with_reducible assumption | assumption | omega) (by first | with_reducible assumption | omega | assumption) (by first | with_reducible assumption | assumption | omega) (by first | with_reducible assumption | assumption | omega) (by first | with_reducible assumption | assumption | omega) (by first | with_reducible assumption | assumption | omega) (by first | with_reducible assumption | assumption | omega)) (cwV 0 hts gX11_cuts_X1_grow rfl rfl rfl ⟨rfl, hd_X1_grow⟩ ⟨Nat.le_of_ble_eq_true rfl, Nat.le_of_ble_eq_true rfl⟩) ⟨bl_g, va_recvX hK.1 hP (ci := 1) (q0 := 46) rfl rfl, fun U hU hW => ⟨rfl, by rw [hU], by rw [hU]; exact hPc, ⟨kk_mv hW hK, arrOfT_moved hW.alike hG⟩, hDw⟩⟩ rfl rfl hl.1 rfl (lv_room (Nat.le_of_ble_eq_true rfl)) dB_36_3_17.2.1.1.1 ⟨Nat.le_of_ble_eq_true rfl, Nat.le_of_ble_eq_true rfl⟩) hS (fun q _ h => hFc q h) hFc (fun u t H locs ht hvm hw hB hz1 hk1 hS => ?_)
    obtain ⟨eMr_4, efx_5, efu_6, e4_7, e7_8, e8_9, eMl_10, e5_11, e6_12, g_13, g_14, g_15, g_16, g_17, g_18, g_19, hP1, hD1⟩ := hB
    rw [ht] at hP1
    obtain ⟨hP, hD⟩ := va_join (wr := [ob11_0_ xo xk xn xc xh xt xw xm xp pf ph tr fi, ai_ cy n5 40 fp, ob7_0_ xh xc u1 u2 u3 u4 u5 u6 u7 u8]) (w1 := [ob1_0_ xt xc ta tb, ob0_0_ xc xn xk clo cro c4 c5 c6 c7 c8, ob3_0_ xn vp vn n1 n2 n3 n4 n5, ai_ cy ta 12 efx_5, ai_ cy tb 12 efu_6, ai_ cy n1 40 fk, ai_ cy n2 40 fs, ai_ cy n3 40 fe, ai_ cy n4 40 fw, aq_ cy 6 clo 12 (gf_ rl), ai_ cy (rl 0) 12 (eMl_10 0), ai_ cy (rl 1) 12 (eMl_10 1), ai_ cy (rl 2) 12 (eMl_10 2), ai_ cy (rl 3) 12 (eMl_10 3), ai_ cy (rl 4) 12 (eMl_10 4), ai_ cy (rl 5) 12 (eMl_10 5), ai_ cy (rl 6) 12 (eMl_10 6), ai_ cy (rl 7) 12 (eMl_10 7), ai_ cy (rl 8) 12 (eMl_10 8), ai_ cy (rl 9) 12 (eMl_10 9), ai_ cy (rl 10) 12 (eMl_10 10), ai_ cy (rl 11) 12 (eMl_10 11), aq_ cy 6 cro 12 (gf_ rr), ai_ cy (rr 0) 12 (eMr_4 0), ai_ cy (rr 1) 12 (eMr_4 1), ai_ cy (rr 2) 12 (eMr_4 2), ai_ cy (rr 3) 12 (eMr_4 3), ai_ cy (rr 4) 12 (eMr_4 4), ai_ cy (rr 5) 12 (eMr_4 5), ai_ cy (rr 6) 12 (eMr_4 6), ai_ cy (rr 7) 12 (eMr_4 7), ai_ cy (rr 8) 12 (eMr_4 8), ai_ cy (rr 9) 12 (eMr_4 9), ai_ cy (rr 10) 12 (eMr_4 10), ai_ cy (rr 11) 12 (eMr_4 11), ai_ cy c4 40 e4_7, ai_ cy c5 40 e5_11, ai_ cy c6 40 e6_12, ai_ cy c7 12 e7_8, ai_ cy c8 12 e8_9, aq_ cy 3 xk 5 (kf_ k0 k1 k2 k3 k4), ob6_0_ k0, ob5_0_ k1, ob9_0_ k2, ob2_0_ k3, ob8_0_ k4]) hP hD [46, 7, 1, 47, 48, 2, 3, 4, 5, 8, 9, 10, 11, 12, 13, 14, 15, 16, 17, 18, 19, 20, 21, 22, 23, 24, 25, 26, 27, 28, 29, 30, 31, 32, 33, 34, 35, 36, 37, 38, 39, 40, 41, 42, 43, 44] [0, 6, 45] hC_ rfl (by decide) (by decide) hk1 hFc hP1 hD1
    refine pd_S hP hD [ob11_0_ xo xk xn xc xh xt xw xm xp pf ph tr fi, ob3_0_ xn vp vn n1 n2 n3 n4 n5, ai_ cy n1 40 fk, ai_ cy n2 40 fs, ai_ cy n3 40 fe, ai_ cy n4 40 fw, ai_ cy n5 40 fp, ob0_0_ xc xn xk clo cro c4 c5 c6 c7 c8, aq_ cy 6 clo 12 (gf_ rl), ai_ cy (rl 0) 12 (eMl_10 0), ai_ cy (rl 1) 12 (eMl_10 1), ai_ cy (rl 2) 12 (eMl_10 2), ai_ cy (rl 3) 12 (eMl_10 3), ai_ cy (rl 4) 12 (eMl_10 4), ai_ cy (rl 5) 12 (eMl_10 5), ai_ cy (rl 6) 12 (eMl_10 6), ai_ cy (rl 7) 12 (eMl_10 7), ai_ cy (rl 8) 12 (eMl_10 8), ai_ cy (rl 9) 12 (eMl_10 9), ai_ cy (rl 10) 12 (eMl_10 10), ai_ cy (rl 11) 12 (eMl_10 11), aq_ cy 6 cro 12 (gf_ rr), ai_ cy (rr 0) 12 (eMr_4 0), ai_ cy (rr 1) 12 (eMr_4 1), ai_ cy (rr 2) 12 (eMr_4 2), ai_ cy (rr 3) 12 (eMr_4 3), ai_ cy (rr 4) 12 (eMr_4 4), ai_ cy (rr 5) 12 (eMr_4 5), ai_ cy (rr 6) 12 (eMr_4 6), ai_ cy (rr 7) 12 (eMr_4 7), ai_ cy (rr 8) 12 (eMr_4 8), ai_ cy (rr 9) 12 (eMr_4 9), ai_ cy (rr 10) 12 (eMr_4 10), ai_ cy (rr 11) 12 (eMr_4 11), ai_ cy c4 40 e4_7, ai_ cy c5 40 e5_11, ai_ cy c6 40 e6_12, ai_ cy c7 12 e7_8, ai_ cy c8 12 e8_9, aq_ cy 3 xk 5 (kf_ k0 k1 k2 k3 k4), ob6_0_ k0, ob5_0_ k1, ob9_0_ k2, ob2_0_ k3, ob8_0_ k4, ob7_0_ xh xc u1 u2 u3 u4 u5 u6 u7 u8, ob1_0_ xt xc ta tb, ai_ cy ta 12 efx_5, ai_ cy tb 12 efu_6] [0, 5, 8, 9, 10, 11, 1, 4, 12, 13, 14, 15, 16, 17, 18, 19, 20, 21, 22, 23, 24, 25, 26, 27, 28, 29, 30, 31, 32, 33, 34, 35, 36, 37, 38, 39, 40, 41, 42, 43, 44, 45, 46, 47, 48, 2, 3, 6, 7] (by decide +kernel) rfl (fun hP hD => ?_)
    obtain ⟨d_, hd_⟩ := g_13
    have hwc_ : whC (cutF fk fs fe fw (-9) vn.toNatClampNeg) vp.toNatClampNeg := whF hnc hpr r_fw hvn.2 hwi_
    have hlt_ : ltr (lam (cutF fk fs fe fw (-9) vn.toNatClampNeg)) vp.toNatClampNeg (nF efx_5) (qF_ efu_6) d_ := ltr_of hwc_ (by omega) hd_ g_14
    have hMl_ := g_16
    have hOl_ := g_17
    refine lv_aload_n hx hb dB_36_3_17.2.1.1.2 rfl (lv_at hl 0 rfl) ?_
    refine va_get (ci := 11) (v := .ref xh) (C := RX11) (T := TX11) (N := 12) hx hb hts (fun _ h => List.mem_cons_of_mem _ (List.mem_append_left _ (List.mem_append_left _ (List.mem_append_left _ (List.mem_append_left _ (List.mem_append_right _ h)))))) hown hK.1 hP 0 rfl rfl 3 (by decide) (hts (.fieldLink RX11 49 "CutAtlas" "hunt" "LCutAtlas$SetHunt;") (List.mem_of_getElem? (i := 3) rfl)) (fun _ h9 => h9) rfl dB_36_3_17.2.1.2.1 ?_
    refine lv_iconst (v := 0) hx hb dB_36_3_17.2.1.2.2 (by decide) ?_
    refine lv_iconst (v := 1) hx hb dB_36_3_17.2.2.1.1 (by decide) ?_
    refine lv_aload_n hx hb dB_36_3_17.2.2.1.2 rfl (lv_at hl 0 rfl) ?_
    refine va_get (ci := 11) (v := .ref xt) (C := RX11) (T := TX11) (N := 12) hx hb hts (fun _ h => List.mem_cons_of_mem _ (List.mem_append_left _ (List.mem_append_left _ (List.mem_append_left _ (List.mem_append_left _ (List.mem_append_right _ h)))))) hown hK.1 hP 0 rfl rfl 4 (by decide) (hts (.fieldLink RX11 56 "CutAtlas" "cutTree" "LCutAtlas$CutTree;") (List.mem_of_getElem? (i := 2) rfl)) (fun _ h9 => h9) rfl dB_36_3_17.2.2.2.1 ?_
    refine ct_R hP hD [ob1_0_ xt xc ta tb, ai_ cy ta 12 efx_5, ai_ cy tb 12 efu_6, ob0_0_ xc xn xk clo cro c4 c5 c6 c7 c8, ob3_0_ xn vp vn n1 n2 n3 n4 n5] [46, 47, 48, 7, 1] (by decide) rfl (fun hPc hDw => ?_)
    have hFc := va_free (wc := []) hD hS hA [] rfl
    refine va_calli (va_runV (As := []) (rest := [.int 1, .int 0, .ref xh]) ⟨hx, hb, hml, hown, hts⟩ (c_X1_leastNumber2 l D cy H.size xt xc ta tb efx_5 d_ efu_6 xk clo cro c4 c5 c6 c7 c8 xn n1 n2 n3 n4 n5 vp vn (by first | with_reducible assumption | omega | assumption) (by first | with_reducible assumption | omega | assumption)) (cwV 0 hts gX11_cuts_X1_leastNumber rfl rfl rfl ⟨rfl, hd_X1_leastNumber⟩ ⟨Nat.le_of_ble_eq_true rfl, Nat.le_of_ble_eq_true rfl⟩) ⟨bl_, va_recvX hK.1 hP (ci := 1) (q0 := 46) rfl rfl, fun U hU hW => ⟨rfl, by rw [hU], by rw [hU]; exact hPc, kk_mv hW hK, hDw⟩⟩ rfl rfl hl.1 rfl (lv_room (Nat.le_of_ble_eq_true rfl)) dB_36_3_17.2.2.2.2 ⟨Nat.le_of_ble_eq_true rfl, Nat.le_of_ble_eq_true rfl⟩) hS (fun q _ h => hFc q h) hFc (fun r_20 u t H locs ht hvm hw hB hz1 hk1 hS => ?_)
    have hP : va_P D vwCl _ H := ro_keep hP hk1
    have f0_r_20 := hw
    have hgm_ : gmn (lam (cutF fk fs fe fw (-9) vn.toNatClampNeg)) vp.toNatClampNeg r_20.toInt := gmn_tree hlt_ (by omega) (by rw [cv_]; exact f0_r_20)
    have hmb_ : 0 ≤ r_20.toInt ∧ r_20.toInt < 1000000 := by obtain ⟨_, x_, y_, _, _, xy_, e_⟩ := hgm_; have b_ := lam_bd hwc_ xy_; omega
    have hmu_ : ∀ i : Nat, i < 12 → vp.toNatClampNeg ≤ i → bt (0 : Int32) i = false ∧ bt (1 : Int32) i = false := fun i hi hk => ⟨bt_z0 i (by omega), by rw [bt_o i (by omega)]; exact decide_eq_false (by omega)⟩
    refine ct_S hP hD hS hA [ob7_0_ xh xc u1 u2 u3 u4 u5 u6 u7 u8, ob0_0_ xc xn xk clo cro c4 c5 c6 c7 c8, ob3_0_ xn vp vn n1 n2 n3 n4 n5, aq_ cy 6 clo 12 (gf_ rl), ai_ cy (rl 0) 12 (eMl_10 0), ai_ cy (rl 1) 12 (eMl_10 1), ai_ cy (rl 2) 12 (eMl_10 2), ai_ cy (rl 3) 12 (eMl_10 3), ai_ cy (rl 4) 12 (eMl_10 4), ai_ cy (rl 5) 12 (eMl_10 5), ai_ cy (rl 6) 12 (eMl_10 6), ai_ cy (rl 7) 12 (eMl_10 7), ai_ cy (rl 8) 12 (eMl_10 8), ai_ cy (rl 9) 12 (eMl_10 9), ai_ cy (rl 10) 12 (eMl_10 10), ai_ cy (rl 11) 12 (eMl_10 11)] [45, 7, 1, 8, 9, 10, 11, 12, 13, 14, 15, 16, 17, 18, 19, 20] (by decide +kernel) rfl (fun hPc hDw hFc hC_ => ?_)
    refine va_calli (va_runV (As := [.int 0, .int 1, .int r_20]) (rest := []) ⟨hx, hb, hml, hown, hts⟩ (c_X7_countCuts2 l D cy H.size xh u1 u2 u3 u4 u5 u6 u7 u8 xc xk clo cro c4 c5 c6 c7 c8 xn n1 n2 n3 n4 n5 vp vn rl eMl_10 (0 : Int32) (1 : Int32) r_20 (by first | with_reducible assumption | omega | assumption) (by first | with_reducible assumption | assumption | omega) (by first | with_reducible assumption | omega | assumption) (by first | with_reducible assumption | assumption | omega)) (cwV 3 hts gX11_cuts_X7_countCuts rfl rfl rfl ⟨rfl, hd_X7_countCuts⟩ ⟨Nat.le_of_ble_eq_true rfl, Nat.le_of_ble_eq_true rfl⟩) ⟨bl_g, va_recvX hK.1 hP (ci := 7) (q0 := 45) rfl rfl, fun U hU hW => ⟨rfl, by rw [hU], by rw [hU]; exact hPc, ⟨kk_mv hW hK, arrOfT_moved hW.alike hG⟩, hDw⟩⟩ rfl rfl hl.1 rfl (lv_room (Nat.le_of_ble_eq_true rfl)) dB_36_3_18.1 ⟨Nat.le_of_ble_eq_true rfl, Nat.le_of_ble_eq_true rfl⟩) hS (fun q _ h => hFc q h) hFc (fun r_21 u t H locs ht hvm hw hB hz1 hk1 hS => ?_)
    obtain ⟨v5_22, v6_23, hP1, hD1⟩ := hB
    rw [ht] at hP1
    obtain ⟨hP, hD⟩ := va_join (wr := [ob11_0_ xo xk xn xc xh xt xw xm xp pf ph tr fi, ai_ cy n1 40 fk, ai_ cy n2 40 fs, ai_ cy n3 40 fe, ai_ cy n4 40 fw, ai_ cy n5 40 fp, aq_ cy 6 cro 12 (gf_ rr), ai_ cy (rr 0) 12 (eMr_4 0), ai_ cy (rr 1) 12 (eMr_4 1), ai_ cy (rr 2) 12 (eMr_4 2), ai_ cy (rr 3) 12 (eMr_4 3), ai_ cy (rr 4) 12 (eMr_4 4), ai_ cy (rr 5) 12 (eMr_4 5), ai_ cy (rr 6) 12 (eMr_4 6), ai_ cy (rr 7) 12 (eMr_4 7), ai_ cy (rr 8) 12 (eMr_4 8), ai_ cy (rr 9) 12 (eMr_4 9), ai_ cy (rr 10) 12 (eMr_4 10), ai_ cy (rr 11) 12 (eMr_4 11), ai_ cy c4 40 e4_7, ai_ cy c5 40 e5_11, ai_ cy c6 40 e6_12, ai_ cy c7 12 e7_8, ai_ cy c8 12 e8_9, aq_ cy 3 xk 5 (kf_ k0 k1 k2 k3 k4), ob6_0_ k0, ob5_0_ k1, ob9_0_ k2, ob2_0_ k3, ob8_0_ k4, ob1_0_ xt xc ta tb, ai_ cy ta 12 efx_5, ai_ cy tb 12 efu_6]) (w1 := [ob7_0_ xh xc 0 1 r_20 1000000000 v5_22 v6_23 u7 u8, ob0_0_ xc xn xk clo cro c4 c5 c6 c7 c8, ob3_0_ xn vp vn n1 n2 n3 n4 n5, aq_ cy 6 clo 12 (gf_ rl), ai_ cy (rl 0) 12 (eMl_10 0), ai_ cy (rl 1) 12 (eMl_10 1), ai_ cy (rl 2) 12 (eMl_10 2), ai_ cy (rl 3) 12 (eMl_10 3), ai_ cy (rl 4) 12 (eMl_10 4), ai_ cy (rl 5) 12 (eMl_10 5), ai_ cy (rl 6) 12 (eMl_10 6), ai_ cy (rl 7) 12 (eMl_10 7), ai_ cy (rl 8) 12 (eMl_10 8), ai_ cy (rl 9) 12 (eMl_10 9), ai_ cy (rl 10) 12 (eMl_10 10), ai_ cy (rl 11) 12 (eMl_10 11)]) hP hD [45, 7, 1, 8, 9, 10, 11, 12, 13, 14, 15, 16, 17, 18, 19, 20] [0, 2, 3, 4, 5, 6, 21, 22, 23, 24, 25, 26, 27, 28, 29, 30, 31, 32, 33, 34, 35, 36, 37, 38, 39, 40, 41, 42, 43, 44, 46, 47, 48] hC_ rfl (by decide +kernel) (by decide +kernel) hk1 hFc hP1 hD1
    refine pd_S hP hD [ob11_0_ xo xk xn xc xh xt xw xm xp pf ph tr fi, ob3_0_ xn vp vn n1 n2 n3 n4 n5, ai_ cy n1 40 fk, ai_ cy n2 40 fs, ai_ cy n3 40 fe, ai_ cy n4 40 fw, ai_ cy n5 40 fp, ob0_0_ xc xn xk clo cro c4 c5 c6 c7 c8, aq_ cy 6 clo 12 (gf_ rl), ai_ cy (rl 0) 12 (eMl_10 0), ai_ cy (rl 1) 12 (eMl_10 1), ai_ cy (rl 2) 12 (eMl_10 2), ai_ cy (rl 3) 12 (eMl_10 3), ai_ cy (rl 4) 12 (eMl_10 4), ai_ cy (rl 5) 12 (eMl_10 5), ai_ cy (rl 6) 12 (eMl_10 6), ai_ cy (rl 7) 12 (eMl_10 7), ai_ cy (rl 8) 12 (eMl_10 8), ai_ cy (rl 9) 12 (eMl_10 9), ai_ cy (rl 10) 12 (eMl_10 10), ai_ cy (rl 11) 12 (eMl_10 11), aq_ cy 6 cro 12 (gf_ rr), ai_ cy (rr 0) 12 (eMr_4 0), ai_ cy (rr 1) 12 (eMr_4 1), ai_ cy (rr 2) 12 (eMr_4 2), ai_ cy (rr 3) 12 (eMr_4 3), ai_ cy (rr 4) 12 (eMr_4 4), ai_ cy (rr 5) 12 (eMr_4 5), ai_ cy (rr 6) 12 (eMr_4 6), ai_ cy (rr 7) 12 (eMr_4 7), ai_ cy (rr 8) 12 (eMr_4 8), ai_ cy (rr 9) 12 (eMr_4 9), ai_ cy (rr 10) 12 (eMr_4 10), ai_ cy (rr 11) 12 (eMr_4 11), ai_ cy c4 40 e4_7, ai_ cy c5 40 e5_11, ai_ cy c6 40 e6_12, ai_ cy c7 12 e7_8, ai_ cy c8 12 e8_9, aq_ cy 3 xk 5 (kf_ k0 k1 k2 k3 k4), ob6_0_ k0, ob5_0_ k1, ob9_0_ k2, ob2_0_ k3, ob8_0_ k4, ob7_0_ xh xc 0 1 r_20 1000000000 v5_22 v6_23 u7 u8, ob1_0_ xt xc ta tb, ai_ cy ta 12 efx_5, ai_ cy tb 12 efu_6] [0, 35, 1, 2, 3, 4, 5, 34, 36, 37, 38, 39, 40, 41, 42, 43, 44, 45, 46, 47, 48, 6, 7, 8, 9, 10, 11, 12, 13, 14, 15, 16, 17, 18, 19, 20, 21, 22, 23, 24, 25, 26, 27, 28, 29, 33, 30, 31, 32] (by decide +kernel) rfl (fun hP hD => ?_)
    have f0_r_21 := hw
    have hcn_ := f0_r_21.trans (cnQ_cg (fun j hj => qF_wh hOl_ hmb_ (by have h_ := p2_le hvp; omega)))
    rw [hQ]
    exact W.iret (v := r_21) hx hb hr (fun t ht hW => ⟨⟨r_21, (), rfl, (⟨fun _ => ⟨_, hgm_, hcn_⟩, fun h => absurd h (by omega)⟩), eMl_10, eMr_4, e4_7, e5_11, e6_12, e7_8, e8_9, (0 : Int32), (1 : Int32), r_20, (1000000000 : Int32), v5_22, v6_23, efx_5, efu_6, (by first | with_reducible assumption | assumption | exact rng_zero (by omega) (by omega) | omega), (by first | with_reducible assumption | assumption | exact rng_zero (by omega) (by omega) | omega), by rw [ht]; exact hP, hD⟩, hS.F ht⟩) hS.2.2 dB_36_3_18.2
  · have t_2 : r_1.toInt = (0 : Int32).toInt := congrArg Int32.toInt c_2
    refine lv_bipush (v := (-2)) hx hb dB_36_3_17.1.2.1.1 (by decide) ?_
    rw [hQ]
    exact W.iret (v := (-2)) hx hb hr (fun t ht hW => ⟨⟨(-2), (), rfl, (⟨fun h => absurd (by omega) h, fun _ => by decide⟩), Ml, Mr, f4, f5, f6, f7, f8, u1, u2, u3, u4, u5, u6, fx, fu, (by first | with_reducible assumption | assumption | exact rng_zero (by omega) (by omega) | omega), (by first | with_reducible assumption | assumption | exact rng_zero (by omega) (by omega) | omega), by rw [ht]; exact hP, hD⟩, hS.F ht⟩) hS.2.2 dB_36_3_17.1.2.1.2

set_option maxHeartbeats 4000000 in
set_option maxRecDepth 100000 in
theorem c_X11_cutAt2 (l : Launch) (D : va_G) (cy : Nat → ClassId) (sz : Nat) (xo : Nat) (xk : Nat) (xn : Nat) (xc : Nat) (xh : Nat) (xt : Nat) (xw : Nat) (xm : Nat) (xp : Nat) (pf : Int32) (ph : Int32) (tr : Int64) (fi : Int32) (n1 : Nat) (n2 : Nat) (n3 : Nat) (n4 : Nat) (n5 : Nat) (vp : Int32) (vn : Int32) (clo : Nat) (cro : Nat) (c4 : Nat) (c5 : Nat) (c6 : Nat) (c7 : Nat) (c8 : Nat) (fk : Nat → Int32) (fs : Nat → Int32) (fe : Nat → Int32) (fw : Nat → Int32) (fp : Nat → Int32) (rl : Nat → Nat) (Ml : Nat → Nat → Int32) (rr : Nat → Nat) (Mr : Nat → Nat → Int32) (f4 : Nat → Int32) (f5 : Nat → Int32) (f6 : Nat → Int32) (f7 : Nat → Int32) (f8 : Nat → Int32) (k0 : Nat) (k1 : Nat) (k2 : Nat) (k3 : Nat) (k4 : Nat) (u1 : Int32) (u2 : Int32) (u3 : Int32) (u4 : Int32) (u5 : Int32) (u6 : Int32) (u7 : Int32) (u8 : Int32) (ta : Nat) (tb : Nat) (fx : Nat → Int32) (fu : Nat → Int32) (a1 : Int32) (hvp : 0 ≤ vp.toInt ∧ vp.toInt ≤ 12) (hvn : 0 ≤ vn.toInt ∧ vn.toInt ≤ 40) (hnc : netC vp.toInt vn.toInt fs fe) (hpr : prng fs fe 40) (r_f7 : rng f7 12 (0) (11)) (r_f8 : rng f8 12 (0) (11)) (r_fk : rng fk 40 (0) (4)) (r_fw : rng fw 40 (0) (2000)) : Met l yX11_cutAt wsX11_cutAt ({ frames := 16, cells := 0, slots := 0, locals := 382 }) (va_Pc [.ref xo, .int a1] (fun U => U.heap.size = sz ∧ va_P D vwCl [ob11_0_ xo xk xn xc xh xt xw xm xp pf ph tr fi, ob3_0_ xn vp vn n1 n2 n3 n4 n5, ai_ cy n1 40 fk, ai_ cy n2 40 fs, ai_ cy n3 40 fe, ai_ cy n4 40 fw, ai_ cy n5 40 fp, ob0_0_ xc xn xk clo cro c4 c5 c6 c7 c8, aq_ cy 6 clo 12 (gf_ rl), ai_ cy (rl 0) 12 (Ml 0), ai_ cy (rl 1) 12 (Ml 1), ai_ cy (rl 2) 12 (Ml 2), ai_ cy (rl 3) 12 (Ml 3), ai_ cy (rl 4) 12 (Ml 4), ai_ cy (rl 5) 12 (Ml 5), ai_ cy (rl 6) 12 (Ml 6), ai_ cy (rl 7) 12 (Ml 7), ai_ cy (rl 8) 12 (Ml 8), ai_ cy (rl 9) 12 (Ml 9), ai_ cy (rl 10) 12 (Ml 10), ai_ cy (rl 11) 12 (Ml 11), aq_ cy 6 cro 12 (gf_ rr), ai_ cy (rr 0) 12 (Mr 0), ai_ cy (rr 1) 12 (Mr 1), ai_ cy (rr 2) 12 (Mr 2), ai_ cy (rr 3) 12 (Mr 3), ai_ cy (rr 4) 12 (Mr 4), ai_ cy (rr 5) 12 (Mr 5), ai_ cy (rr 6) 12 (Mr 6), ai_ cy (rr 7) 12 (Mr 7), ai_ cy (rr 8) 12 (Mr 8), ai_ cy (rr 9) 12 (Mr 9), ai_ cy (rr 10) 12 (Mr 10), ai_ cy (rr 11) 12 (Mr 11), ai_ cy c4 40 f4, ai_ cy c5 40 f5, ai_ cy c6 40 f6, ai_ cy c7 12 f7, ai_ cy c8 12 f8, aq_ cy 3 xk 5 (kf_ k0 k1 k2 k3 k4), ob6_0_ k0, ob5_0_ k1, ob9_0_ k2, ob2_0_ k3, ob8_0_ k4, ob7_0_ xh xc u1 u2 u3 u4 u5 u6 u7 u8, ob1_0_ xt xc ta tb, ai_ cy ta 12 fx, ai_ cy tb 12 fu] U.heap ∧ kg_ D cy U ∧ va_D (fun _ => True) [ob11_0_ xo xk xn xc xh xt xw xm xp pf ph tr fi, ob3_0_ xn vp vn n1 n2 n3 n4 n5, ai_ cy n1 40 fk, ai_ cy n2 40 fs, ai_ cy n3 40 fe, ai_ cy n4 40 fw, ai_ cy n5 40 fp, ob0_0_ xc xn xk clo cro c4 c5 c6 c7 c8, aq_ cy 6 clo 12 (gf_ rl), ai_ cy (rl 0) 12 (Ml 0), ai_ cy (rl 1) 12 (Ml 1), ai_ cy (rl 2) 12 (Ml 2), ai_ cy (rl 3) 12 (Ml 3), ai_ cy (rl 4) 12 (Ml 4), ai_ cy (rl 5) 12 (Ml 5), ai_ cy (rl 6) 12 (Ml 6), ai_ cy (rl 7) 12 (Ml 7), ai_ cy (rl 8) 12 (Ml 8), ai_ cy (rl 9) 12 (Ml 9), ai_ cy (rl 10) 12 (Ml 10), ai_ cy (rl 11) 12 (Ml 11), aq_ cy 6 cro 12 (gf_ rr), ai_ cy (rr 0) 12 (Mr 0), ai_ cy (rr 1) 12 (Mr 1), ai_ cy (rr 2) 12 (Mr 2), ai_ cy (rr 3) 12 (Mr 3), ai_ cy (rr 4) 12 (Mr 4), ai_ cy (rr 5) 12 (Mr 5), ai_ cy (rr 6) 12 (Mr 6), ai_ cy (rr 7) 12 (Mr 7), ai_ cy (rr 8) 12 (Mr 8), ai_ cy (rr 9) 12 (Mr 9), ai_ cy (rr 10) 12 (Mr 10), ai_ cy (rr 11) 12 (Mr 11), ai_ cy c4 40 f4, ai_ cy c5 40 f5, ai_ cy c6 40 f6, ai_ cy c7 12 f7, ai_ cy c8 12 f8, aq_ cy 3 xk 5 (kf_ k0 k1 k2 k3 k4), ob6_0_ k0, ob5_0_ k1, ob9_0_ k2, ob2_0_ k3, ob8_0_ k4, ob7_0_ xh xc u1 u2 u3 u4 u5 u6 u7 u8, ob1_0_ xt xc ta tb, ai_ cy ta 12 fx, ai_ cy tb 12 fu])) (va_Qi (fun (r : Int32) (_ : Unit) => ((caI a1.toInt vp.toInt (sumI (bkF fk fs) vn.toNatClampNeg) = 0 → cwX (cutF fk fs fe fw (-9) vn.toNatClampNeg) vp.toNatClampNeg a1.toInt r) ∧ (caI a1.toInt vp.toInt (sumI (bkF fk fs) vn.toNatClampNeg) ≠ 0 → r.toInt = caI a1.toInt vp.toInt (sumI (bkF fk fs) vn.toNatClampNeg)))) (fun (_ : Unit) (t : State) => ∃ (eMl : Nat → Nat → Int32), ∃ (eMr : Nat → Nat → Int32), ∃ (e4 : Nat → Int32), ∃ (e5 : Nat → Int32), ∃ (e6 : Nat → Int32), ∃ (e7 : Nat → Int32), ∃ (e8 : Nat → Int32), ∃ (v1 : Int32), ∃ (v2 : Int32), ∃ (v3 : Int32), ∃ (v4 : Int32), ∃ (v5 : Int32), ∃ (v6 : Int32), ∃ (efx : Nat → Int32), ∃ (efu : Nat → Int32), (rng e7 12 (0) (11)) ∧ (rng e8 12 (0) (11)) ∧ va_P D vwCl [ob11_0_ xo xk xn xc xh xt xw xm xp pf ph tr fi, ob3_0_ xn vp vn n1 n2 n3 n4 n5, ai_ cy n1 40 fk, ai_ cy n2 40 fs, ai_ cy n3 40 fe, ai_ cy n4 40 fw, ai_ cy n5 40 fp, ob0_0_ xc xn xk clo cro c4 c5 c6 c7 c8, aq_ cy 6 clo 12 (gf_ rl), ai_ cy (rl 0) 12 (eMl 0), ai_ cy (rl 1) 12 (eMl 1), ai_ cy (rl 2) 12 (eMl 2), ai_ cy (rl 3) 12 (eMl 3), ai_ cy (rl 4) 12 (eMl 4), ai_ cy (rl 5) 12 (eMl 5), ai_ cy (rl 6) 12 (eMl 6), ai_ cy (rl 7) 12 (eMl 7), ai_ cy (rl 8) 12 (eMl 8), ai_ cy (rl 9) 12 (eMl 9), ai_ cy (rl 10) 12 (eMl 10), ai_ cy (rl 11) 12 (eMl 11), aq_ cy 6 cro 12 (gf_ rr), ai_ cy (rr 0) 12 (eMr 0), ai_ cy (rr 1) 12 (eMr 1), ai_ cy (rr 2) 12 (eMr 2), ai_ cy (rr 3) 12 (eMr 3), ai_ cy (rr 4) 12 (eMr 4), ai_ cy (rr 5) 12 (eMr 5), ai_ cy (rr 6) 12 (eMr 6), ai_ cy (rr 7) 12 (eMr 7), ai_ cy (rr 8) 12 (eMr 8), ai_ cy (rr 9) 12 (eMr 9), ai_ cy (rr 10) 12 (eMr 10), ai_ cy (rr 11) 12 (eMr 11), ai_ cy c4 40 e4, ai_ cy c5 40 e5, ai_ cy c6 40 e6, ai_ cy c7 12 e7, ai_ cy c8 12 e8, aq_ cy 3 xk 5 (kf_ k0 k1 k2 k3 k4), ob6_0_ k0, ob5_0_ k1, ob9_0_ k2, ob2_0_ k3, ob8_0_ k4, ob7_0_ xh xc v1 v2 v3 v4 v5 v6 u7 u8, ob1_0_ xt xc ta tb, ai_ cy ta 12 efx, ai_ cy tb 12 efu] t.heap ∧ va_D (va_A [ob11_0_ xo xk xn xc xh xt xw xm xp pf ph tr fi, ob3_0_ xn vp vn n1 n2 n3 n4 n5, ai_ cy n1 40 fk, ai_ cy n2 40 fs, ai_ cy n3 40 fe, ai_ cy n4 40 fw, ai_ cy n5 40 fp, ob0_0_ xc xn xk clo cro c4 c5 c6 c7 c8, aq_ cy 6 clo 12 (gf_ rl), ai_ cy (rl 0) 12 (Ml 0), ai_ cy (rl 1) 12 (Ml 1), ai_ cy (rl 2) 12 (Ml 2), ai_ cy (rl 3) 12 (Ml 3), ai_ cy (rl 4) 12 (Ml 4), ai_ cy (rl 5) 12 (Ml 5), ai_ cy (rl 6) 12 (Ml 6), ai_ cy (rl 7) 12 (Ml 7), ai_ cy (rl 8) 12 (Ml 8), ai_ cy (rl 9) 12 (Ml 9), ai_ cy (rl 10) 12 (Ml 10), ai_ cy (rl 11) 12 (Ml 11), aq_ cy 6 cro 12 (gf_ rr), ai_ cy (rr 0) 12 (Mr 0), ai_ cy (rr 1) 12 (Mr 1), ai_ cy (rr 2) 12 (Mr 2), ai_ cy (rr 3) 12 (Mr 3), ai_ cy (rr 4) 12 (Mr 4), ai_ cy (rr 5) 12 (Mr 5), ai_ cy (rr 6) 12 (Mr 6), ai_ cy (rr 7) 12 (Mr 7), ai_ cy (rr 8) 12 (Mr 8), ai_ cy (rr 9) 12 (Mr 9), ai_ cy (rr 10) 12 (Mr 10), ai_ cy (rr 11) 12 (Mr 11), ai_ cy c4 40 f4, ai_ cy c5 40 f5, ai_ cy c6 40 f6, ai_ cy c7 12 f7, ai_ cy c8 12 f8, aq_ cy 3 xk 5 (kf_ k0 k1 k2 k3 k4), ob6_0_ k0, ob5_0_ k1, ob9_0_ k2, ob2_0_ k3, ob8_0_ k4, ob7_0_ xh xc u1 u2 u3 u4 u5 u6 u7 u8, ob1_0_ xt xc ta tb, ai_ cy ta 12 fx, ai_ cy tb 12 fu] sz) [ob11_0_ xo xk xn xc xh xt xw xm xp pf ph tr fi, ob3_0_ xn vp vn n1 n2 n3 n4 n5, ai_ cy n1 40 fk, ai_ cy n2 40 fs, ai_ cy n3 40 fe, ai_ cy n4 40 fw, ai_ cy n5 40 fp, ob0_0_ xc xn xk clo cro c4 c5 c6 c7 c8, aq_ cy 6 clo 12 (gf_ rl), ai_ cy (rl 0) 12 (eMl 0), ai_ cy (rl 1) 12 (eMl 1), ai_ cy (rl 2) 12 (eMl 2), ai_ cy (rl 3) 12 (eMl 3), ai_ cy (rl 4) 12 (eMl 4), ai_ cy (rl 5) 12 (eMl 5), ai_ cy (rl 6) 12 (eMl 6), ai_ cy (rl 7) 12 (eMl 7), ai_ cy (rl 8) 12 (eMl 8), ai_ cy (rl 9) 12 (eMl 9), ai_ cy (rl 10) 12 (eMl 10), ai_ cy (rl 11) 12 (eMl 11), aq_ cy 6 cro 12 (gf_ rr), ai_ cy (rr 0) 12 (eMr 0), ai_ cy (rr 1) 12 (eMr 1), ai_ cy (rr 2) 12 (eMr 2), ai_ cy (rr 3) 12 (eMr 3), ai_ cy (rr 4) 12 (eMr 4), ai_ cy (rr 5) 12 (eMr 5), ai_ cy (rr 6) 12 (eMr 6), ai_ cy (rr 7) 12 (eMr 7), ai_ cy (rr 8) 12 (eMr 8), ai_ cy (rr 9) 12 (eMr 9), ai_ cy (rr 10) 12 (eMr 10), ai_ cy (rr 11) 12 (eMr 11), ai_ cy c4 40 e4, ai_ cy c5 40 e5, ai_ cy c6 40 e6, ai_ cy c7 12 e7, ai_ cy c8 12 e8, aq_ cy 3 xk 5 (kf_ k0 k1 k2 k3 k4), ob6_0_ k0, ob5_0_ k1, ob9_0_ k2, ob2_0_ k3, ob8_0_ k4, ob7_0_ xh xc v1 v2 v3 v4 v5 v6 u7 u8, ob1_0_ xt xc ta tb, ai_ cy ta 12 efx, ai_ cy tb 12 efu]) (va_A [ob11_0_ xo xk xn xc xh xt xw xm xp pf ph tr fi, ob3_0_ xn vp vn n1 n2 n3 n4 n5, ai_ cy n1 40 fk, ai_ cy n2 40 fs, ai_ cy n3 40 fe, ai_ cy n4 40 fw, ai_ cy n5 40 fp, ob0_0_ xc xn xk clo cro c4 c5 c6 c7 c8, aq_ cy 6 clo 12 (gf_ rl), ai_ cy (rl 0) 12 (Ml 0), ai_ cy (rl 1) 12 (Ml 1), ai_ cy (rl 2) 12 (Ml 2), ai_ cy (rl 3) 12 (Ml 3), ai_ cy (rl 4) 12 (Ml 4), ai_ cy (rl 5) 12 (Ml 5), ai_ cy (rl 6) 12 (Ml 6), ai_ cy (rl 7) 12 (Ml 7), ai_ cy (rl 8) 12 (Ml 8), ai_ cy (rl 9) 12 (Ml 9), ai_ cy (rl 10) 12 (Ml 10), ai_ cy (rl 11) 12 (Ml 11), aq_ cy 6 cro 12 (gf_ rr), ai_ cy (rr 0) 12 (Mr 0), ai_ cy (rr 1) 12 (Mr 1), ai_ cy (rr 2) 12 (Mr 2), ai_ cy (rr 3) 12 (Mr 3), ai_ cy (rr 4) 12 (Mr 4), ai_ cy (rr 5) 12 (Mr 5), ai_ cy (rr 6) 12 (Mr 6), ai_ cy (rr 7) 12 (Mr 7), ai_ cy (rr 8) 12 (Mr 8), ai_ cy (rr 9) 12 (Mr 9), ai_ cy (rr 10) 12 (Mr 10), ai_ cy (rr 11) 12 (Mr 11), ai_ cy c4 40 f4, ai_ cy c5 40 f5, ai_ cy c6 40 f6, ai_ cy c7 12 f7, ai_ cy c8 12 f8, aq_ cy 3 xk 5 (kf_ k0 k1 k2 k3 k4), ob6_0_ k0, ob5_0_ k1, ob9_0_ k2, ob2_0_ k3, ob8_0_ k4, ob7_0_ xh xc u1 u2 u3 u4 u5 u6 u7 u8, ob1_0_ xt xc ta tb, ai_ cy ta 12 fx, ai_ cy tb 12 fu] sz)) 0 0 (va_A [ob11_0_ xo xk xn xc xh xt xw xm xp pf ph tr fi, ob3_0_ xn vp vn n1 n2 n3 n4 n5, ai_ cy n1 40 fk, ai_ cy n2 40 fs, ai_ cy n3 40 fe, ai_ cy n4 40 fw, ai_ cy n5 40 fp, ob0_0_ xc xn xk clo cro c4 c5 c6 c7 c8, aq_ cy 6 clo 12 (gf_ rl), ai_ cy (rl 0) 12 (Ml 0), ai_ cy (rl 1) 12 (Ml 1), ai_ cy (rl 2) 12 (Ml 2), ai_ cy (rl 3) 12 (Ml 3), ai_ cy (rl 4) 12 (Ml 4), ai_ cy (rl 5) 12 (Ml 5), ai_ cy (rl 6) 12 (Ml 6), ai_ cy (rl 7) 12 (Ml 7), ai_ cy (rl 8) 12 (Ml 8), ai_ cy (rl 9) 12 (Ml 9), ai_ cy (rl 10) 12 (Ml 10), ai_ cy (rl 11) 12 (Ml 11), aq_ cy 6 cro 12 (gf_ rr), ai_ cy (rr 0) 12 (Mr 0), ai_ cy (rr 1) 12 (Mr 1), ai_ cy (rr 2) 12 (Mr 2), ai_ cy (rr 3) 12 (Mr 3), ai_ cy (rr 4) 12 (Mr 4), ai_ cy (rr 5) 12 (Mr 5), ai_ cy (rr 6) 12 (Mr 6), ai_ cy (rr 7) 12 (Mr 7), ai_ cy (rr 8) 12 (Mr 8), ai_ cy (rr 9) 12 (Mr 9), ai_ cy (rr 10) 12 (Mr 10), ai_ cy (rr 11) 12 (Mr 11), ai_ cy c4 40 f4, ai_ cy c5 40 f5, ai_ cy c6 40 f6, ai_ cy c7 12 f7, ai_ cy c8 12 f8, aq_ cy 3 xk 5 (kf_ k0 k1 k2 k3 k4), ob6_0_ k0, ob5_0_ k1, ob9_0_ k2, ob2_0_ k3, ob8_0_ k4, ob7_0_ xh xc u1 u2 u3 u4 u5 u6 u7 u8, ob1_0_ xt xc ta tb, ai_ cy ta 12 fx, ai_ cy tb 12 fu] sz) := by
  refine ofQ (cc := cX11_cutAt) (maxL := 2) (ret := (some .int)) (by decide) rfl ?_
  intro p e s m args below meth c s₁ Q hQ B hml hv
  obtain ⟨rfl, hsz, hP, hK, hD0⟩ := hv
  have hG := hK.2
  have hK := hK.1
  have hx := B.exec
  have hb := B.bytes
  have hr := B.returns
  have hts := atoms_spec (ws := wsX11_cutAt) B.pre
  have hown : s.vm.findClass RX11 = some m.cls := by have h_ := findClass_of_methodNamed B.named; exact h_
  have hlocks := B.notSynchronized
  subst hsz
  have hD := hD0.self (sz := s.heap.size)
  generalize hAe : va_A [ob11_0_ xo xk xn xc xh xt xw xm xp pf ph tr fi, ob3_0_ xn vp vn n1 n2 n3 n4 n5, ai_ cy n1 40 fk, ai_ cy n2 40 fs, ai_ cy n3 40 fe, ai_ cy n4 40 fw, ai_ cy n5 40 fp, ob0_0_ xc xn xk clo cro c4 c5 c6 c7 c8, aq_ cy 6 clo 12 (gf_ rl), ai_ cy (rl 0) 12 (Ml 0), ai_ cy (rl 1) 12 (Ml 1), ai_ cy (rl 2) 12 (Ml 2), ai_ cy (rl 3) 12 (Ml 3), ai_ cy (rl 4) 12 (Ml 4), ai_ cy (rl 5) 12 (Ml 5), ai_ cy (rl 6) 12 (Ml 6), ai_ cy (rl 7) 12 (Ml 7), ai_ cy (rl 8) 12 (Ml 8), ai_ cy (rl 9) 12 (Ml 9), ai_ cy (rl 10) 12 (Ml 10), ai_ cy (rl 11) 12 (Ml 11), aq_ cy 6 cro 12 (gf_ rr), ai_ cy (rr 0) 12 (Mr 0), ai_ cy (rr 1) 12 (Mr 1), ai_ cy (rr 2) 12 (Mr 2), ai_ cy (rr 3) 12 (Mr 3), ai_ cy (rr 4) 12 (Mr 4), ai_ cy (rr 5) 12 (Mr 5), ai_ cy (rr 6) 12 (Mr 6), ai_ cy (rr 7) 12 (Mr 7), ai_ cy (rr 8) 12 (Mr 8), ai_ cy (rr 9) 12 (Mr 9), ai_ cy (rr 10) 12 (Mr 10), ai_ cy (rr 11) 12 (Mr 11), ai_ cy c4 40 f4, ai_ cy c5 40 f5, ai_ cy c6 40 f6, ai_ cy c7 12 f7, ai_ cy c8 12 f8, aq_ cy 3 xk 5 (kf_ k0 k1 k2 k3 k4), ob6_0_ k0, ob5_0_ k1, ob9_0_ k2, ob2_0_ k3, ob8_0_ k4, ob7_0_ xh xc u1 u2 u3 u4 u5 u6 u7 u8, ob1_0_ xt xc ta tb, ai_ cy ta 12 fx, ai_ cy tb 12 fu] s.heap.size = A at hD hQ
  have hA : ∀ q : Nat, s.heap.size ≤ q → A q := fun q h => by rw [← hAe]; exact Or.inr h
  have hS : va_S A s.heap s.heap [] := va_S.rf
  have hl := lv_entry ([.ref xo, .int a1]) (n := 2) (Nat.le_of_ble_eq_true rfl)
  rw [lg_entry_eq]
  generalize (lg_sl ([.ref xo, .int a1]) ++ List.replicate (2 - (lg_sl ([.ref xo, .int a1])).length) Slot.unset).toArray = ls at hl ⊢
  have hl : lv_has ls 2 [(0, .ref xo), (1, .int a1)] := hl
  have zm2 : ((-2) : Int32).toInt = -2 := by decide
  have zm1 : ((-1) : Int32).toInt = -1 := by decide
  have z0 : (0 : Int32).toInt = 0 := by decide
  have z1 : (1 : Int32).toInt = 1 := by decide
  have zq0 : (0 : Int32).toInt = 0 := by decide
  have zq1 : (1 : Int32).toInt = 1 := by decide
  have zq2 : (2 : Int32).toInt = 2 := by decide
  have zq3 : (3 : Int32).toInt = 3 := by decide
  have zq4 : (4 : Int32).toInt = 4 := by decide
  have zq5 : (5 : Int32).toInt = 5 := by decide
  have zqm9 : ((-9) : Int32).toInt = -9 := by decide
  have zqm1 : ((-1) : Int32).toInt = -1 := by decide
  have zqm2 : ((-2) : Int32).toInt = -2 := by decide
  have cv_ := clI (i := vp) (by omega)
  refine lv_iload_n hx hb dB_36_3_15.1.1.1.1 rfl (lv_at hl 1 rfl) ?_
  refine lv_if_ge (tgt := 6) hx hb dB_36_3_15.1.1.1.2 (by decide) (fun c_1 => ?_) (fun c_1 => ?_)
  · have t_1 : (0 : Int32).toInt ≤ a1.toInt := Int32.le_iff_toInt_le.mp c_1
    refine lv_aload_n hx hb dB_36_3_15.1.2.1.1 rfl (lv_at hl 0 rfl) ?_
    refine va_get (ci := 11) (v := .ref xn) (C := RX11) (T := TX11) (N := 12) hx hb hts (fun _ h => List.mem_cons_of_mem _ (List.mem_append_left _ (List.mem_append_left _ (List.mem_append_left _ (List.mem_append_left _ (List.mem_append_right _ h)))))) hown hK.1 hP 0 rfl rfl 1 (by decide) (hts (.fieldLink RX11 31 "CutAtlas" "net" "LCutAtlas$Net;") (List.mem_of_getElem? (i := 1) rfl)) (fun _ h9 => h9) rfl dB_36_3_15.1.2.1.2 ?_
    refine ct_R hP hD [ob3_0_ xn vp vn n1 n2 n3 n4 n5, ai_ cy n1 40 fk, ai_ cy n2 40 fs] [1, 2, 3] (by decide) rfl (fun hPc hDw => ?_)
    have hFc := va_free (wc := []) hD hS hA [] rfl
    refine va_calli (va_runV (As := []) (rest := []) ⟨hx, hb, hml, hown, hts⟩ (c_X3_isWhole2 l D cy s.heap.size xn n1 n2 n3 n4 n5 vp vn fk fs (by first | with_reducible assumption | omega | assumption)) (cwV 0 hts gX11_cutAt_X3_isWhole rfl rfl rfl ⟨rfl, hd_X3_isWhole⟩ ⟨Nat.le_of_ble_eq_true rfl, Nat.le_of_ble_eq_true rfl⟩) ⟨bl_, va_recvX hK.1 hP (ci := 3) (q0 := 1) rfl rfl, fun U hU hW => ⟨rfl, by rw [hU], by rw [hU]; exact hPc, kk_mv hW hK, hDw⟩⟩ rfl rfl hl.1 rfl (lv_room (Nat.le_of_ble_eq_true rfl)) dB_36_3_15.1.2.2.1 ⟨Nat.le_of_ble_eq_true rfl, Nat.le_of_ble_eq_true rfl⟩) hS (fun q _ h => hFc q h) hFc (fun r_2 u t H locs ht hvm hw hB hz1 hk1 hS => ?_)
    have hP : va_P D vwCl _ H := ro_keep hP hk1
    obtain ⟨f0_r_2, f1_r_2⟩ := hw
    have hw1_ := f1_r_2
    refine lv_if_ne (tgt := 19) hx hb dB_36_3_15.1.2.2.2 (by decide) (fun c_3 => ?_) (fun c_3 => ?_)
    · have t_3 : ¬ r_2.toInt = (0 : Int32).toInt := fun h => c_3 (Int32.toInt_inj.mp h)
      have hwb_ := whI_1 (P := vp.toInt) (c := sumI (bkF fk fs) vn.toNatClampNeg) (by omega)
      have hwi_ := hwb_.2
      refine lv_aload_n hx hb dB_36_3_15.2.1.2.1 rfl (lv_at hl 0 rfl) ?_
      refine va_get (ci := 11) (v := .ref xt) (C := RX11) (T := TX11) (N := 12) hx hb hts (fun _ h => List.mem_cons_of_mem _ (List.mem_append_left _ (List.mem_append_left _ (List.mem_append_left _ (List.mem_append_left _ (List.mem_append_right _ h)))))) hown hK.1 hP 0 rfl rfl 4 (by decide) (hts (.fieldLink RX11 56 "CutAtlas" "cutTree" "LCutAtlas$CutTree;") (List.mem_of_getElem? (i := 2) rfl)) (fun _ h9 => h9) rfl dB_36_3_15.2.1.2.2 ?_
      refine ct_S hP hD hS hA [ob1_0_ xt xc ta tb, ob0_0_ xc xn xk clo cro c4 c5 c6 c7 c8, ob3_0_ xn vp vn n1 n2 n3 n4 n5, ai_ cy ta 12 fx, ai_ cy tb 12 fu, ai_ cy n1 40 fk, ai_ cy n2 40 fs, ai_ cy n3 40 fe, ai_ cy n4 40 fw, aq_ cy 6 clo 12 (gf_ rl), ai_ cy (rl 0) 12 (Ml 0), ai_ cy (rl 1) 12 (Ml 1), ai_ cy (rl 2) 12 (Ml 2), ai_ cy (rl 3) 12 (Ml 3), ai_ cy (rl 4) 12 (Ml 4), ai_ cy (rl 5) 12 (Ml 5), ai_ cy (rl 6) 12 (Ml 6), ai_ cy (rl 7) 12 (Ml 7), ai_ cy (rl 8) 12 (Ml 8), ai_ cy (rl 9) 12 (Ml 9), ai_ cy (rl 10) 12 (Ml 10), ai_ cy (rl 11) 12 (Ml 11), aq_ cy 6 cro 12 (gf_ rr), ai_ cy (rr 0) 12 (Mr 0), ai_ cy (rr 1) 12 (Mr 1), ai_ cy (rr 2) 12 (Mr 2), ai_ cy (rr 3) 12 (Mr 3), ai_ cy (rr 4) 12 (Mr 4), ai_ cy (rr 5) 12 (Mr 5), ai_ cy (rr 6) 12 (Mr 6), ai_ cy (rr 7) 12 (Mr 7), ai_ cy (rr 8) 12 (Mr 8), ai_ cy (rr 9) 12 (Mr 9), ai_ cy (rr 10) 12 (Mr 10), ai_ cy (rr 11) 12 (Mr 11), ai_ cy c4 40 f4, ai_ cy c5 40 f5, ai_ cy c6 40 f6, ai_ cy c7 12 f7, ai_ cy c8 12 f8, aq_ cy 3 xk 5 (kf_ k0 k1 k2 k3 k4), ob6_0_ k0, ob5_0_ k1, ob9_0_ k2, ob2_0_ k3, ob8_0_ k4] [46, 7, 1, 47, 48, 2, 3, 4, 5, 8, 9, 10, 11, 12, 13, 14, 15, 16, 17, 18, 19, 20, 21, 22, 23, 24, 25, 26, 27, 28, 29, 30, 31, 32, 33, 34, 35, 36, 37, 38, 39, 40, 41, 42, 43, 44] (by decide +kernel) rfl (fun hPc hDw hFc hC_ => ?_)
      refine va_callv (va_runV (As := []) (rest := []) ⟨hx, hb, hml, hown, hts⟩ (c_X1_grow2 l D cy H.size xt ta tb xc xk clo cro c4 c5 c6 c7 c8 xn n1 n2 n3 n4 n5 vp vn fx fu fk fs fe fw rl Ml rr Mr f4 f5 f6 f7 f8 k0 k1 k2 k3 k4 (by first | with_reducible assumption | omega | assumption) (by first | with_reducible assumption | omega | assumption) (by first | with_reducible assumption | assumption | omega) (by first | with_reducible assumption | omega | assumption) (by first | with_reducible assumption | assumption | omega) (by first | with_reducible assumption | assumption | omega) (by first | with_reducible assumption | assumption | omega) (by first | with_reducible assumption | assumption | omega) (by first | with_reducible assumption | assumption | omega)) (cwV 0 hts gX11_cutAt_X1_grow rfl rfl rfl ⟨rfl, hd_X1_grow⟩ ⟨Nat.le_of_ble_eq_true rfl, Nat.le_of_ble_eq_true rfl⟩) ⟨bl_g, va_recvX hK.1 hP (ci := 1) (q0 := 46) rfl rfl, fun U hU hW => ⟨rfl, by rw [hU], by rw [hU]; exact hPc, ⟨kk_mv hW hK, arrOfT_moved hW.alike hG⟩, hDw⟩⟩ rfl rfl hl.1 rfl (lv_room (Nat.le_of_ble_eq_true rfl)) dB_36_3_15.2.2.1.1 ⟨Nat.le_of_ble_eq_true rfl, Nat.le_of_ble_eq_true rfl⟩) hS (fun q _ h => hFc q h) hFc (fun u t H locs ht hvm hw hB hz1 hk1 hS => ?_)
      obtain ⟨eMr_5, efx_6, efu_7, e4_8, e7_9, e8_10, eMl_11, e5_12, e6_13, g_14, g_15, g_16, g_17, g_18, g_19, g_20, hP1, hD1⟩ := hB
      rw [ht] at hP1
      obtain ⟨hP, hD⟩ := va_join (wr := [ob11_0_ xo xk xn xc xh xt xw xm xp pf ph tr fi, ai_ cy n5 40 fp, ob7_0_ xh xc u1 u2 u3 u4 u5 u6 u7 u8]) (w1 := [ob1_0_ xt xc ta tb, ob0_0_ xc xn xk clo cro c4 c5 c6 c7 c8, ob3_0_ xn vp vn n1 n2 n3 n4 n5, ai_ cy ta 12 efx_6, ai_ cy tb 12 efu_7, ai_ cy n1 40 fk, ai_ cy n2 40 fs, ai_ cy n3 40 fe, ai_ cy n4 40 fw, aq_ cy 6 clo 12 (gf_ rl), ai_ cy (rl 0) 12 (eMl_11 0), ai_ cy (rl 1) 12 (eMl_11 1), ai_ cy (rl 2) 12 (eMl_11 2), ai_ cy (rl 3) 12 (eMl_11 3), ai_ cy (rl 4) 12 (eMl_11 4), ai_ cy (rl 5) 12 (eMl_11 5), ai_ cy (rl 6) 12 (eMl_11 6), ai_ cy (rl 7) 12 (eMl_11 7), ai_ cy (rl 8) 12 (eMl_11 8), ai_ cy (rl 9) 12 (eMl_11 9), ai_ cy (rl 10) 12 (eMl_11 10), ai_ cy (rl 11) 12 (eMl_11 11), aq_ cy 6 cro 12 (gf_ rr), ai_ cy (rr 0) 12 (eMr_5 0), ai_ cy (rr 1) 12 (eMr_5 1), ai_ cy (rr 2) 12 (eMr_5 2), ai_ cy (rr 3) 12 (eMr_5 3), ai_ cy (rr 4) 12 (eMr_5 4), ai_ cy (rr 5) 12 (eMr_5 5), ai_ cy (rr 6) 12 (eMr_5 6), ai_ cy (rr 7) 12 (eMr_5 7), ai_ cy (rr 8) 12 (eMr_5 8), ai_ cy (rr 9) 12 (eMr_5 9), ai_ cy (rr 10) 12 (eMr_5 10), ai_ cy (rr 11) 12 (eMr_5 11), ai_ cy c4 40 e4_8, ai_ cy c5 40 e5_12, ai_ cy c6 40 e6_13, ai_ cy c7 12 e7_9, ai_ cy c8 12 e8_10, aq_ cy 3 xk 5 (kf_ k0 k1 k2 k3 k4), ob6_0_ k0, ob5_0_ k1, ob9_0_ k2, ob2_0_ k3, ob8_0_ k4]) hP hD [46, 7, 1, 47, 48, 2, 3, 4, 5, 8, 9, 10, 11, 12, 13, 14, 15, 16, 17, 18, 19, 20, 21, 22, 23, 24, 25, 26, 27, 28, 29, 30, 31, 32, 33, 34, 35, 36, 37, 38, 39, 40, 41, 42, 43, 44] [0, 6, 45] hC_ rfl (by decide) (by decide) hk1 hFc hP1 hD1
      refine pd_S hP hD [ob11_0_ xo xk xn xc xh xt xw xm xp pf ph tr fi, ob3_0_ xn vp vn n1 n2 n3 n4 n5, ai_ cy n1 40 fk, ai_ cy n2 40 fs, ai_ cy n3 40 fe, ai_ cy n4 40 fw, ai_ cy n5 40 fp, ob0_0_ xc xn xk clo cro c4 c5 c6 c7 c8, aq_ cy 6 clo 12 (gf_ rl), ai_ cy (rl 0) 12 (eMl_11 0), ai_ cy (rl 1) 12 (eMl_11 1), ai_ cy (rl 2) 12 (eMl_11 2), ai_ cy (rl 3) 12 (eMl_11 3), ai_ cy (rl 4) 12 (eMl_11 4), ai_ cy (rl 5) 12 (eMl_11 5), ai_ cy (rl 6) 12 (eMl_11 6), ai_ cy (rl 7) 12 (eMl_11 7), ai_ cy (rl 8) 12 (eMl_11 8), ai_ cy (rl 9) 12 (eMl_11 9), ai_ cy (rl 10) 12 (eMl_11 10), ai_ cy (rl 11) 12 (eMl_11 11), aq_ cy 6 cro 12 (gf_ rr), ai_ cy (rr 0) 12 (eMr_5 0), ai_ cy (rr 1) 12 (eMr_5 1), ai_ cy (rr 2) 12 (eMr_5 2), ai_ cy (rr 3) 12 (eMr_5 3), ai_ cy (rr 4) 12 (eMr_5 4), ai_ cy (rr 5) 12 (eMr_5 5), ai_ cy (rr 6) 12 (eMr_5 6), ai_ cy (rr 7) 12 (eMr_5 7), ai_ cy (rr 8) 12 (eMr_5 8), ai_ cy (rr 9) 12 (eMr_5 9), ai_ cy (rr 10) 12 (eMr_5 10), ai_ cy (rr 11) 12 (eMr_5 11), ai_ cy c4 40 e4_8, ai_ cy c5 40 e5_12, ai_ cy c6 40 e6_13, ai_ cy c7 12 e7_9, ai_ cy c8 12 e8_10, aq_ cy 3 xk 5 (kf_ k0 k1 k2 k3 k4), ob6_0_ k0, ob5_0_ k1, ob9_0_ k2, ob2_0_ k3, ob8_0_ k4, ob7_0_ xh xc u1 u2 u3 u4 u5 u6 u7 u8, ob1_0_ xt xc ta tb, ai_ cy ta 12 efx_6, ai_ cy tb 12 efu_7] [0, 5, 8, 9, 10, 11, 1, 4, 12, 13, 14, 15, 16, 17, 18, 19, 20, 21, 22, 23, 24, 25, 26, 27, 28, 29, 30, 31, 32, 33, 34, 35, 36, 37, 38, 39, 40, 41, 42, 43, 44, 45, 46, 47, 48, 2, 3, 6, 7] (by decide +kernel) rfl (fun hP hD => ?_)
      obtain ⟨d_, hd_⟩ := g_14
      have hwc_ : whC (cutF fk fs fe fw (-9) vn.toNatClampNeg) vp.toNatClampNeg := whF hnc hpr r_fw hvn.2 hwi_
      have hlt_ : ltr (lam (cutF fk fs fe fw (-9) vn.toNatClampNeg)) vp.toNatClampNeg (nF efx_6) (qF_ efu_7) d_ := ltr_of hwc_ (by omega) hd_ g_15
      have hMl_ := g_17
      have hOl_ := g_18
      refine lv_aload_n hx hb dB_36_3_15.2.2.1.2 rfl (lv_at hl 0 rfl) ?_
      refine va_get (ci := 11) (v := .ref xh) (C := RX11) (T := TX11) (N := 12) hx hb hts (fun _ h => List.mem_cons_of_mem _ (List.mem_append_left _ (List.mem_append_left _ (List.mem_append_left _ (List.mem_append_left _ (List.mem_append_right _ h)))))) hown hK.1 hP 0 rfl rfl 3 (by decide) (hts (.fieldLink RX11 49 "CutAtlas" "hunt" "LCutAtlas$SetHunt;") (List.mem_of_getElem? (i := 3) rfl)) (fun _ h9 => h9) rfl dB_36_3_15.2.2.2.1 ?_
      refine lv_iconst (v := 0) hx hb dB_36_3_15.2.2.2.2 (by decide) ?_
      refine lv_iconst (v := 1) hx hb dB_36_3_16.1.1 (by decide) ?_
      refine lv_aload_n hx hb dB_36_3_16.1.2.1 rfl (lv_at hl 0 rfl) ?_
      refine va_get (ci := 11) (v := .ref xt) (C := RX11) (T := TX11) (N := 12) hx hb hts (fun _ h => List.mem_cons_of_mem _ (List.mem_append_left _ (List.mem_append_left _ (List.mem_append_left _ (List.mem_append_left _ (List.mem_append_right _ h)))))) hown hK.1 hP 0 rfl rfl 4 (by decide) (hts (.fieldLink RX11 56 "CutAtlas" "cutTree" "LCutAtlas$CutTree;") (List.mem_of_getElem? (i := 2) rfl)) (fun _ h9 => h9) rfl dB_36_3_16.1.2.2 ?_
      refine ct_R hP hD [ob1_0_ xt xc ta tb, ai_ cy ta 12 efx_6, ai_ cy tb 12 efu_7, ob0_0_ xc xn xk clo cro c4 c5 c6 c7 c8, ob3_0_ xn vp vn n1 n2 n3 n4 n5] [46, 47, 48, 7, 1] (by decide) rfl (fun hPc hDw => ?_)
      have hFc := va_free (wc := []) hD hS hA [] rfl
      refine va_calli (va_runV (As := []) (rest := [.int 1, .int 0, .ref xh]) ⟨hx, hb, hml, hown, hts⟩ (c_X1_leastNumber2 l D cy H.size xt xc ta tb efx_6 d_ efu_7 xk clo cro c4 c5 c6 c7 c8 xn n1 n2 n3 n4 n5 vp vn (by first | with_reducible assumption | omega | assumption) (by first | with_reducible assumption | omega | assumption)) (cwV 0 hts gX11_cutAt_X1_leastNumber rfl rfl rfl ⟨rfl, hd_X1_leastNumber⟩ ⟨Nat.le_of_ble_eq_true rfl, Nat.le_of_ble_eq_true rfl⟩) ⟨bl_, va_recvX hK.1 hP (ci := 1) (q0 := 46) rfl rfl, fun U hU hW => ⟨rfl, by rw [hU], by rw [hU]; exact hPc, kk_mv hW hK, hDw⟩⟩ rfl rfl hl.1 rfl (lv_room (Nat.le_of_ble_eq_true rfl)) dB_36_3_16.2.1.1 ⟨Nat.le_of_ble_eq_true rfl, Nat.le_of_ble_eq_true rfl⟩) hS (fun q _ h => hFc q h) hFc (fun r_21 u t H locs ht hvm hw hB hz1 hk1 hS => ?_)
      have hP : va_P D vwCl _ H := ro_keep hP hk1
      have f0_r_21 := hw
      have hgm_ : gmn (lam (cutF fk fs fe fw (-9) vn.toNatClampNeg)) vp.toNatClampNeg r_21.toInt := gmn_tree hlt_ (by omega) (by rw [cv_]; exact f0_r_21)
      have hmb_ : 0 ≤ r_21.toInt ∧ r_21.toInt < 1000000 := by obtain ⟨_, x_, y_, _, _, xy_, e_⟩ := hgm_; have b_ := lam_bd hwc_ xy_; omega
      have hmu_ : ∀ i : Nat, i < 12 → vp.toNatClampNeg ≤ i → bt (0 : Int32) i = false ∧ bt (1 : Int32) i = false := fun i hi hk => ⟨bt_z0 i (by omega), by rw [bt_o i (by omega)]; exact decide_eq_false (by omega)⟩
      refine lv_iload_n hx hb dB_36_3_16.2.1.2 rfl (lv_at hl 1 rfl) ?_
      refine ct_S hP hD hS hA [ob7_0_ xh xc u1 u2 u3 u4 u5 u6 u7 u8, ob0_0_ xc xn xk clo cro c4 c5 c6 c7 c8, ob3_0_ xn vp vn n1 n2 n3 n4 n5, aq_ cy 6 clo 12 (gf_ rl), ai_ cy (rl 0) 12 (eMl_11 0), ai_ cy (rl 1) 12 (eMl_11 1), ai_ cy (rl 2) 12 (eMl_11 2), ai_ cy (rl 3) 12 (eMl_11 3), ai_ cy (rl 4) 12 (eMl_11 4), ai_ cy (rl 5) 12 (eMl_11 5), ai_ cy (rl 6) 12 (eMl_11 6), ai_ cy (rl 7) 12 (eMl_11 7), ai_ cy (rl 8) 12 (eMl_11 8), ai_ cy (rl 9) 12 (eMl_11 9), ai_ cy (rl 10) 12 (eMl_11 10), ai_ cy (rl 11) 12 (eMl_11 11)] [45, 7, 1, 8, 9, 10, 11, 12, 13, 14, 15, 16, 17, 18, 19, 20] (by decide +kernel) rfl (fun hPc hDw hFc hC_ => ?_)
      refine va_calli (va_runV (As := [.int 0, .int 1, .int r_21, .int a1]) (rest := []) ⟨hx, hb, hml, hown, hts⟩ (c_X7_findCut2 l D cy H.size xh u1 u2 u3 u4 u5 u6 u7 u8 xc xk clo cro c4 c5 c6 c7 c8 xn n1 n2 n3 n4 n5 vp vn rl eMl_11 (0 : Int32) (1 : Int32) r_21 a1 (by first | with_reducible assumption | omega | assumption) (by first | with_reducible assumption | assumption | omega) (by first | with_reducible assumption | omega | assumption) (by first | with_reducible assumption | assumption | omega)) (cwV 4 hts gX11_cutAt_X7_findCut rfl rfl rfl ⟨rfl, hd_X7_findCut⟩ ⟨Nat.le_of_ble_eq_true rfl, Nat.le_of_ble_eq_true rfl⟩) ⟨bl_g, va_recvX hK.1 hP (ci := 7) (q0 := 45) rfl rfl, fun U hU hW => ⟨rfl, by rw [hU], by rw [hU]; exact hPc, ⟨kk_mv hW hK, arrOfT_moved hW.alike hG⟩, hDw⟩⟩ rfl rfl hl.1 rfl (lv_room (Nat.le_of_ble_eq_true rfl)) dB_36_3_16.2.2.1 ⟨Nat.le_of_ble_eq_true rfl, Nat.le_of_ble_eq_true rfl⟩) hS (fun q _ h => hFc q h) hFc (fun r_22 u t H locs ht hvm hw hB hz1 hk1 hS => ?_)
      obtain ⟨v5_23, v6_24, hP1, hD1⟩ := hB
      rw [ht] at hP1
      obtain ⟨hP, hD⟩ := va_join (wr := [ob11_0_ xo xk xn xc xh xt xw xm xp pf ph tr fi, ai_ cy n1 40 fk, ai_ cy n2 40 fs, ai_ cy n3 40 fe, ai_ cy n4 40 fw, ai_ cy n5 40 fp, aq_ cy 6 cro 12 (gf_ rr), ai_ cy (rr 0) 12 (eMr_5 0), ai_ cy (rr 1) 12 (eMr_5 1), ai_ cy (rr 2) 12 (eMr_5 2), ai_ cy (rr 3) 12 (eMr_5 3), ai_ cy (rr 4) 12 (eMr_5 4), ai_ cy (rr 5) 12 (eMr_5 5), ai_ cy (rr 6) 12 (eMr_5 6), ai_ cy (rr 7) 12 (eMr_5 7), ai_ cy (rr 8) 12 (eMr_5 8), ai_ cy (rr 9) 12 (eMr_5 9), ai_ cy (rr 10) 12 (eMr_5 10), ai_ cy (rr 11) 12 (eMr_5 11), ai_ cy c4 40 e4_8, ai_ cy c5 40 e5_12, ai_ cy c6 40 e6_13, ai_ cy c7 12 e7_9, ai_ cy c8 12 e8_10, aq_ cy 3 xk 5 (kf_ k0 k1 k2 k3 k4), ob6_0_ k0, ob5_0_ k1, ob9_0_ k2, ob2_0_ k3, ob8_0_ k4, ob1_0_ xt xc ta tb, ai_ cy ta 12 efx_6, ai_ cy tb 12 efu_7]) (w1 := [ob7_0_ xh xc 0 1 r_21 a1 v5_23 v6_24 u7 u8, ob0_0_ xc xn xk clo cro c4 c5 c6 c7 c8, ob3_0_ xn vp vn n1 n2 n3 n4 n5, aq_ cy 6 clo 12 (gf_ rl), ai_ cy (rl 0) 12 (eMl_11 0), ai_ cy (rl 1) 12 (eMl_11 1), ai_ cy (rl 2) 12 (eMl_11 2), ai_ cy (rl 3) 12 (eMl_11 3), ai_ cy (rl 4) 12 (eMl_11 4), ai_ cy (rl 5) 12 (eMl_11 5), ai_ cy (rl 6) 12 (eMl_11 6), ai_ cy (rl 7) 12 (eMl_11 7), ai_ cy (rl 8) 12 (eMl_11 8), ai_ cy (rl 9) 12 (eMl_11 9), ai_ cy (rl 10) 12 (eMl_11 10), ai_ cy (rl 11) 12 (eMl_11 11)]) hP hD [45, 7, 1, 8, 9, 10, 11, 12, 13, 14, 15, 16, 17, 18, 19, 20] [0, 2, 3, 4, 5, 6, 21, 22, 23, 24, 25, 26, 27, 28, 29, 30, 31, 32, 33, 34, 35, 36, 37, 38, 39, 40, 41, 42, 43, 44, 46, 47, 48] hC_ rfl (by decide +kernel) (by decide +kernel) hk1 hFc hP1 hD1
      refine pd_S hP hD [ob11_0_ xo xk xn xc xh xt xw xm xp pf ph tr fi, ob3_0_ xn vp vn n1 n2 n3 n4 n5, ai_ cy n1 40 fk, ai_ cy n2 40 fs, ai_ cy n3 40 fe, ai_ cy n4 40 fw, ai_ cy n5 40 fp, ob0_0_ xc xn xk clo cro c4 c5 c6 c7 c8, aq_ cy 6 clo 12 (gf_ rl), ai_ cy (rl 0) 12 (eMl_11 0), ai_ cy (rl 1) 12 (eMl_11 1), ai_ cy (rl 2) 12 (eMl_11 2), ai_ cy (rl 3) 12 (eMl_11 3), ai_ cy (rl 4) 12 (eMl_11 4), ai_ cy (rl 5) 12 (eMl_11 5), ai_ cy (rl 6) 12 (eMl_11 6), ai_ cy (rl 7) 12 (eMl_11 7), ai_ cy (rl 8) 12 (eMl_11 8), ai_ cy (rl 9) 12 (eMl_11 9), ai_ cy (rl 10) 12 (eMl_11 10), ai_ cy (rl 11) 12 (eMl_11 11), aq_ cy 6 cro 12 (gf_ rr), ai_ cy (rr 0) 12 (eMr_5 0), ai_ cy (rr 1) 12 (eMr_5 1), ai_ cy (rr 2) 12 (eMr_5 2), ai_ cy (rr 3) 12 (eMr_5 3), ai_ cy (rr 4) 12 (eMr_5 4), ai_ cy (rr 5) 12 (eMr_5 5), ai_ cy (rr 6) 12 (eMr_5 6), ai_ cy (rr 7) 12 (eMr_5 7), ai_ cy (rr 8) 12 (eMr_5 8), ai_ cy (rr 9) 12 (eMr_5 9), ai_ cy (rr 10) 12 (eMr_5 10), ai_ cy (rr 11) 12 (eMr_5 11), ai_ cy c4 40 e4_8, ai_ cy c5 40 e5_12, ai_ cy c6 40 e6_13, ai_ cy c7 12 e7_9, ai_ cy c8 12 e8_10, aq_ cy 3 xk 5 (kf_ k0 k1 k2 k3 k4), ob6_0_ k0, ob5_0_ k1, ob9_0_ k2, ob2_0_ k3, ob8_0_ k4, ob7_0_ xh xc 0 1 r_21 a1 v5_23 v6_24 u7 u8, ob1_0_ xt xc ta tb, ai_ cy ta 12 efx_6, ai_ cy tb 12 efu_7] [0, 35, 1, 2, 3, 4, 5, 34, 36, 37, 38, 39, 40, 41, 42, 43, 44, 45, 46, 47, 48, 6, 7, 8, 9, 10, 11, 12, 13, 14, 15, 16, 17, 18, 19, 20, 21, 22, 23, 24, 25, 26, 27, 28, 29, 33, 30, 31, 32] (by decide +kernel) rfl (fun hP hD => ?_)
      have f0_r_22 := hw
      have hcn_ := scf_cg (fun j hj => qF_wh hOl_ hmb_ (by have h_ := p2_le hvp; omega)) f0_r_22
      rw [hQ]
      exact W.iret (v := r_22) hx hb hr (fun t ht hW => ⟨⟨r_22, (), rfl, (⟨fun _ => ⟨_, hgm_, hcn_⟩, fun h => absurd (by unfold caI; (repeat' (first | with_reducible refine if_n (by omega) ?_ | with_reducible refine if_ns (by omega) ?_ | with_reducible refine if_nz (by omega) ?_ | with_reducible exact if_p (by omega) (by omega) | with_reducible exact if_ps (by omega) (by omega) | with_reducible exact if_pz (by omega) (by omega))) <;> omega) h⟩), eMl_11, eMr_5, e4_8, e5_12, e6_13, e7_9, e8_10, (0 : Int32), (1 : Int32), r_21, a1, v5_23, v6_24, efx_6, efu_7, (by first | with_reducible assumption | assumption | exact rng_zero (by omega) (by omega) | omega), (by first | with_reducible assumption | assumption | exact rng_zero (by omega) (by omega) | omega), by rw [ht]; exact hP, hD⟩, hS.F ht⟩) hS.2.2 dB_36_3_16.2.2.2
    · have t_3 : r_2.toInt = (0 : Int32).toInt := congrArg Int32.toInt c_3
      refine lv_bipush (v := (-2)) hx hb dB_36_3_15.2.1.1.1 (by decide) ?_
      rw [hQ]
      exact W.iret (v := (-2)) hx hb hr (fun t ht hW => ⟨⟨(-2), (), rfl, (⟨fun h => absurd h (by unfold caI; (repeat' (first | with_reducible refine if_n (by omega) ?_ | with_reducible refine if_ns (by omega) ?_ | with_reducible refine if_nz (by omega) ?_ | with_reducible exact if_p (by omega) (by omega) | with_reducible exact if_ps (by omega) (by omega) | with_reducible exact if_pz (by omega) (by omega))) <;> omega), fun _ => (by unfold caI; (repeat' (first | with_reducible refine if_n (by omega) ?_ | with_reducible refine if_ns (by omega) ?_ | with_reducible refine if_nz (by omega) ?_ | with_reducible exact if_p (by omega) (by omega) | with_reducible exact if_ps (by omega) (by omega) | with_reducible exact if_pz (by omega) (by omega))) <;> omega)⟩), Ml, Mr, f4, f5, f6, f7, f8, u1, u2, u3, u4, u5, u6, fx, fu, (by first | with_reducible assumption | assumption | exact rng_zero (by omega) (by omega) | omega), (by first | with_reducible assumption | assumption | exact rng_zero (by omega) (by omega) | omega), by rw [ht]; exact hP, hD⟩, hS.F ht⟩) hS.2.2 dB_36_3_15.2.1.1.2
  · have t_1 : ¬ (0 : Int32).toInt ≤ a1.toInt := fun h => c_1 (Int32.le_iff_toInt_le.mpr h)
    refine lv_iconst (v := (-1)) hx hb dB_36_3_15.1.1.2.1 (by decide) ?_
    rw [hQ]
    exact W.iret (v := (-1)) hx hb hr (fun t ht hW => ⟨⟨(-1), (), rfl, (⟨fun h => absurd h (by unfold caI; (repeat' (first | with_reducible refine if_n (by omega) ?_ | with_reducible refine if_ns (by omega) ?_ | with_reducible refine if_nz (by omega) ?_ | with_reducible exact if_p (by omega) (by omega) | with_reducible exact if_ps (by omega) (by omega) | with_reducible exact if_pz (by omega) (by omega))) <;> omega), fun _ => (by unfold caI; (repeat' (first | with_reducible refine if_n (by omega) ?_ | with_reducible refine if_ns (by omega) ?_ | with_reducible refine if_nz (by omega) ?_ | with_reducible exact if_p (by omega) (by omega) | with_reducible exact if_ps (by omega) (by omega) | with_reducible exact if_pz (by omega) (by omega))) <;> omega)⟩), Ml, Mr, f4, f5, f6, f7, f8, u1, u2, u3, u4, u5, u6, fx, fu, (by first | with_reducible assumption | assumption | exact rng_zero (by omega) (by omega) | omega), (by first | with_reducible assumption | assumption | exact rng_zero (by omega) (by omega) | omega), by rw [ht]; exact hP, hD⟩, hS.F ht⟩) hS.2.2 dB_36_3_15.1.1.2.2

set_option maxHeartbeats 4000000 in
set_option maxRecDepth 100000 in
theorem c_X11_weak2 (l : Launch) (D : va_G) (cy : Nat → ClassId) (sz : Nat) (xo : Nat) (xk : Nat) (xn : Nat) (xc : Nat) (xh : Nat) (xt : Nat) (xw : Nat) (xm : Nat) (xp : Nat) (pf : Int32) (ph : Int32) (tr : Int64) (fi : Int32) (n1 : Nat) (n2 : Nat) (n3 : Nat) (n4 : Nat) (n5 : Nat) (vp : Int32) (vn : Int32) (clo : Nat) (cro : Nat) (c4 : Nat) (c5 : Nat) (c6 : Nat) (c7 : Nat) (c8 : Nat) (fk : Nat → Int32) (fs : Nat → Int32) (fe : Nat → Int32) (fw : Nat → Int32) (fp : Nat → Int32) (rl : Nat → Nat) (Ml : Nat → Nat → Int32) (rr : Nat → Nat) (Mr : Nat → Nat → Int32) (f4 : Nat → Int32) (f5 : Nat → Int32) (f6 : Nat → Int32) (f7 : Nat → Int32) (f8 : Nat → Int32) (k0 : Nat) (k1 : Nat) (k2 : Nat) (k3 : Nat) (k4 : Nat) (ta : Nat) (tb : Nat) (fx : Nat → Int32) (fu : Nat → Int32) (a1 : Int32) (hvp : 0 ≤ vp.toInt ∧ vp.toInt ≤ 12) (hvn : 0 ≤ vn.toInt ∧ vn.toInt ≤ 40) (hnc : netC vp.toInt vn.toInt fs fe) (hpr : prng fs fe 40) (r_f7 : rng f7 12 (0) (11)) (r_f8 : rng f8 12 (0) (11)) (r_fk : rng fk 40 (0) (4)) (r_fw : rng fw 40 (0) (2000)) : Met l yX11_weak wsX11_weak ({ frames := 6, cells := 0, slots := 0, locals := 134 }) (va_Pc [.ref xo, .int a1] (fun U => U.heap.size = sz ∧ va_P D vwCl [ob11_0_ xo xk xn xc xh xt xw xm xp pf ph tr fi, ob3_0_ xn vp vn n1 n2 n3 n4 n5, ai_ cy n1 40 fk, ai_ cy n2 40 fs, ai_ cy n3 40 fe, ai_ cy n4 40 fw, ai_ cy n5 40 fp, ob0_0_ xc xn xk clo cro c4 c5 c6 c7 c8, aq_ cy 6 clo 12 (gf_ rl), ai_ cy (rl 0) 12 (Ml 0), ai_ cy (rl 1) 12 (Ml 1), ai_ cy (rl 2) 12 (Ml 2), ai_ cy (rl 3) 12 (Ml 3), ai_ cy (rl 4) 12 (Ml 4), ai_ cy (rl 5) 12 (Ml 5), ai_ cy (rl 6) 12 (Ml 6), ai_ cy (rl 7) 12 (Ml 7), ai_ cy (rl 8) 12 (Ml 8), ai_ cy (rl 9) 12 (Ml 9), ai_ cy (rl 10) 12 (Ml 10), ai_ cy (rl 11) 12 (Ml 11), aq_ cy 6 cro 12 (gf_ rr), ai_ cy (rr 0) 12 (Mr 0), ai_ cy (rr 1) 12 (Mr 1), ai_ cy (rr 2) 12 (Mr 2), ai_ cy (rr 3) 12 (Mr 3), ai_ cy (rr 4) 12 (Mr 4), ai_ cy (rr 5) 12 (Mr 5), ai_ cy (rr 6) 12 (Mr 6), ai_ cy (rr 7) 12 (Mr 7), ai_ cy (rr 8) 12 (Mr 8), ai_ cy (rr 9) 12 (Mr 9), ai_ cy (rr 10) 12 (Mr 10), ai_ cy (rr 11) 12 (Mr 11), ai_ cy c4 40 f4, ai_ cy c5 40 f5, ai_ cy c6 40 f6, ai_ cy c7 12 f7, ai_ cy c8 12 f8, aq_ cy 3 xk 5 (kf_ k0 k1 k2 k3 k4), ob6_0_ k0, ob5_0_ k1, ob9_0_ k2, ob2_0_ k3, ob8_0_ k4, ob1_0_ xt xc ta tb, ai_ cy ta 12 fx, ai_ cy tb 12 fu] U.heap ∧ kg_ D cy U ∧ va_D (fun _ => True) [ob11_0_ xo xk xn xc xh xt xw xm xp pf ph tr fi, ob3_0_ xn vp vn n1 n2 n3 n4 n5, ai_ cy n1 40 fk, ai_ cy n2 40 fs, ai_ cy n3 40 fe, ai_ cy n4 40 fw, ai_ cy n5 40 fp, ob0_0_ xc xn xk clo cro c4 c5 c6 c7 c8, aq_ cy 6 clo 12 (gf_ rl), ai_ cy (rl 0) 12 (Ml 0), ai_ cy (rl 1) 12 (Ml 1), ai_ cy (rl 2) 12 (Ml 2), ai_ cy (rl 3) 12 (Ml 3), ai_ cy (rl 4) 12 (Ml 4), ai_ cy (rl 5) 12 (Ml 5), ai_ cy (rl 6) 12 (Ml 6), ai_ cy (rl 7) 12 (Ml 7), ai_ cy (rl 8) 12 (Ml 8), ai_ cy (rl 9) 12 (Ml 9), ai_ cy (rl 10) 12 (Ml 10), ai_ cy (rl 11) 12 (Ml 11), aq_ cy 6 cro 12 (gf_ rr), ai_ cy (rr 0) 12 (Mr 0), ai_ cy (rr 1) 12 (Mr 1), ai_ cy (rr 2) 12 (Mr 2), ai_ cy (rr 3) 12 (Mr 3), ai_ cy (rr 4) 12 (Mr 4), ai_ cy (rr 5) 12 (Mr 5), ai_ cy (rr 6) 12 (Mr 6), ai_ cy (rr 7) 12 (Mr 7), ai_ cy (rr 8) 12 (Mr 8), ai_ cy (rr 9) 12 (Mr 9), ai_ cy (rr 10) 12 (Mr 10), ai_ cy (rr 11) 12 (Mr 11), ai_ cy c4 40 f4, ai_ cy c5 40 f5, ai_ cy c6 40 f6, ai_ cy c7 12 f7, ai_ cy c8 12 f8, aq_ cy 3 xk 5 (kf_ k0 k1 k2 k3 k4), ob6_0_ k0, ob5_0_ k1, ob9_0_ k2, ob2_0_ k3, ob8_0_ k4, ob1_0_ xt xc ta tb, ai_ cy ta 12 fx, ai_ cy tb 12 fu])) (va_Qi (fun (r : Int32) (_ : Unit) => ((wkI a1.toInt vp.toInt vn.toInt (sumI (bkF fk fs) vn.toNatClampNeg) (gI (fs a1.toNatClampNeg).toInt) = 0 → wkA (cutF fk fs fe fw (-9) vn.toNatClampNeg) vp.toNatClampNeg (nF fs a1.toNatClampNeg) (nF fe a1.toNatClampNeg) r) ∧ (wkI a1.toInt vp.toInt vn.toInt (sumI (bkF fk fs) vn.toNatClampNeg) (gI (fs a1.toNatClampNeg).toInt) ≠ 0 → r.toInt = wkI a1.toInt vp.toInt vn.toInt (sumI (bkF fk fs) vn.toNatClampNeg) (gI (fs a1.toNatClampNeg).toInt)))) (fun (_ : Unit) (t : State) => ∃ (eMl : Nat → Nat → Int32), ∃ (eMr : Nat → Nat → Int32), ∃ (e4 : Nat → Int32), ∃ (e5 : Nat → Int32), ∃ (e6 : Nat → Int32), ∃ (e7 : Nat → Int32), ∃ (e8 : Nat → Int32), ∃ (efx : Nat → Int32), ∃ (efu : Nat → Int32), (rng e7 12 (0) (11)) ∧ (rng e8 12 (0) (11)) ∧ va_P D vwCl [ob11_0_ xo xk xn xc xh xt xw xm xp pf ph tr fi, ob3_0_ xn vp vn n1 n2 n3 n4 n5, ai_ cy n1 40 fk, ai_ cy n2 40 fs, ai_ cy n3 40 fe, ai_ cy n4 40 fw, ai_ cy n5 40 fp, ob0_0_ xc xn xk clo cro c4 c5 c6 c7 c8, aq_ cy 6 clo 12 (gf_ rl), ai_ cy (rl 0) 12 (eMl 0), ai_ cy (rl 1) 12 (eMl 1), ai_ cy (rl 2) 12 (eMl 2), ai_ cy (rl 3) 12 (eMl 3), ai_ cy (rl 4) 12 (eMl 4), ai_ cy (rl 5) 12 (eMl 5), ai_ cy (rl 6) 12 (eMl 6), ai_ cy (rl 7) 12 (eMl 7), ai_ cy (rl 8) 12 (eMl 8), ai_ cy (rl 9) 12 (eMl 9), ai_ cy (rl 10) 12 (eMl 10), ai_ cy (rl 11) 12 (eMl 11), aq_ cy 6 cro 12 (gf_ rr), ai_ cy (rr 0) 12 (eMr 0), ai_ cy (rr 1) 12 (eMr 1), ai_ cy (rr 2) 12 (eMr 2), ai_ cy (rr 3) 12 (eMr 3), ai_ cy (rr 4) 12 (eMr 4), ai_ cy (rr 5) 12 (eMr 5), ai_ cy (rr 6) 12 (eMr 6), ai_ cy (rr 7) 12 (eMr 7), ai_ cy (rr 8) 12 (eMr 8), ai_ cy (rr 9) 12 (eMr 9), ai_ cy (rr 10) 12 (eMr 10), ai_ cy (rr 11) 12 (eMr 11), ai_ cy c4 40 e4, ai_ cy c5 40 e5, ai_ cy c6 40 e6, ai_ cy c7 12 e7, ai_ cy c8 12 e8, aq_ cy 3 xk 5 (kf_ k0 k1 k2 k3 k4), ob6_0_ k0, ob5_0_ k1, ob9_0_ k2, ob2_0_ k3, ob8_0_ k4, ob1_0_ xt xc ta tb, ai_ cy ta 12 efx, ai_ cy tb 12 efu] t.heap ∧ va_D (va_A [ob11_0_ xo xk xn xc xh xt xw xm xp pf ph tr fi, ob3_0_ xn vp vn n1 n2 n3 n4 n5, ai_ cy n1 40 fk, ai_ cy n2 40 fs, ai_ cy n3 40 fe, ai_ cy n4 40 fw, ai_ cy n5 40 fp, ob0_0_ xc xn xk clo cro c4 c5 c6 c7 c8, aq_ cy 6 clo 12 (gf_ rl), ai_ cy (rl 0) 12 (Ml 0), ai_ cy (rl 1) 12 (Ml 1), ai_ cy (rl 2) 12 (Ml 2), ai_ cy (rl 3) 12 (Ml 3), ai_ cy (rl 4) 12 (Ml 4), ai_ cy (rl 5) 12 (Ml 5), ai_ cy (rl 6) 12 (Ml 6), ai_ cy (rl 7) 12 (Ml 7), ai_ cy (rl 8) 12 (Ml 8), ai_ cy (rl 9) 12 (Ml 9), ai_ cy (rl 10) 12 (Ml 10), ai_ cy (rl 11) 12 (Ml 11), aq_ cy 6 cro 12 (gf_ rr), ai_ cy (rr 0) 12 (Mr 0), ai_ cy (rr 1) 12 (Mr 1), ai_ cy (rr 2) 12 (Mr 2), ai_ cy (rr 3) 12 (Mr 3), ai_ cy (rr 4) 12 (Mr 4), ai_ cy (rr 5) 12 (Mr 5), ai_ cy (rr 6) 12 (Mr 6), ai_ cy (rr 7) 12 (Mr 7), ai_ cy (rr 8) 12 (Mr 8), ai_ cy (rr 9) 12 (Mr 9), ai_ cy (rr 10) 12 (Mr 10), ai_ cy (rr 11) 12 (Mr 11), ai_ cy c4 40 f4, ai_ cy c5 40 f5, ai_ cy c6 40 f6, ai_ cy c7 12 f7, ai_ cy c8 12 f8, aq_ cy 3 xk 5 (kf_ k0 k1 k2 k3 k4), ob6_0_ k0, ob5_0_ k1, ob9_0_ k2, ob2_0_ k3, ob8_0_ k4, ob1_0_ xt xc ta tb, ai_ cy ta 12 fx, ai_ cy tb 12 fu] sz) [ob11_0_ xo xk xn xc xh xt xw xm xp pf ph tr fi, ob3_0_ xn vp vn n1 n2 n3 n4 n5, ai_ cy n1 40 fk, ai_ cy n2 40 fs, ai_ cy n3 40 fe, ai_ cy n4 40 fw, ai_ cy n5 40 fp, ob0_0_ xc xn xk clo cro c4 c5 c6 c7 c8, aq_ cy 6 clo 12 (gf_ rl), ai_ cy (rl 0) 12 (eMl 0), ai_ cy (rl 1) 12 (eMl 1), ai_ cy (rl 2) 12 (eMl 2), ai_ cy (rl 3) 12 (eMl 3), ai_ cy (rl 4) 12 (eMl 4), ai_ cy (rl 5) 12 (eMl 5), ai_ cy (rl 6) 12 (eMl 6), ai_ cy (rl 7) 12 (eMl 7), ai_ cy (rl 8) 12 (eMl 8), ai_ cy (rl 9) 12 (eMl 9), ai_ cy (rl 10) 12 (eMl 10), ai_ cy (rl 11) 12 (eMl 11), aq_ cy 6 cro 12 (gf_ rr), ai_ cy (rr 0) 12 (eMr 0), ai_ cy (rr 1) 12 (eMr 1), ai_ cy (rr 2) 12 (eMr 2), ai_ cy (rr 3) 12 (eMr 3), ai_ cy (rr 4) 12 (eMr 4), ai_ cy (rr 5) 12 (eMr 5), ai_ cy (rr 6) 12 (eMr 6), ai_ cy (rr 7) 12 (eMr 7), ai_ cy (rr 8) 12 (eMr 8), ai_ cy (rr 9) 12 (eMr 9), ai_ cy (rr 10) 12 (eMr 10), ai_ cy (rr 11) 12 (eMr 11), ai_ cy c4 40 e4, ai_ cy c5 40 e5, ai_ cy c6 40 e6, ai_ cy c7 12 e7, ai_ cy c8 12 e8, aq_ cy 3 xk 5 (kf_ k0 k1 k2 k3 k4), ob6_0_ k0, ob5_0_ k1, ob9_0_ k2, ob2_0_ k3, ob8_0_ k4, ob1_0_ xt xc ta tb, ai_ cy ta 12 efx, ai_ cy tb 12 efu]) (va_A [ob11_0_ xo xk xn xc xh xt xw xm xp pf ph tr fi, ob3_0_ xn vp vn n1 n2 n3 n4 n5, ai_ cy n1 40 fk, ai_ cy n2 40 fs, ai_ cy n3 40 fe, ai_ cy n4 40 fw, ai_ cy n5 40 fp, ob0_0_ xc xn xk clo cro c4 c5 c6 c7 c8, aq_ cy 6 clo 12 (gf_ rl), ai_ cy (rl 0) 12 (Ml 0), ai_ cy (rl 1) 12 (Ml 1), ai_ cy (rl 2) 12 (Ml 2), ai_ cy (rl 3) 12 (Ml 3), ai_ cy (rl 4) 12 (Ml 4), ai_ cy (rl 5) 12 (Ml 5), ai_ cy (rl 6) 12 (Ml 6), ai_ cy (rl 7) 12 (Ml 7), ai_ cy (rl 8) 12 (Ml 8), ai_ cy (rl 9) 12 (Ml 9), ai_ cy (rl 10) 12 (Ml 10), ai_ cy (rl 11) 12 (Ml 11), aq_ cy 6 cro 12 (gf_ rr), ai_ cy (rr 0) 12 (Mr 0), ai_ cy (rr 1) 12 (Mr 1), ai_ cy (rr 2) 12 (Mr 2), ai_ cy (rr 3) 12 (Mr 3), ai_ cy (rr 4) 12 (Mr 4), ai_ cy (rr 5) 12 (Mr 5), ai_ cy (rr 6) 12 (Mr 6), ai_ cy (rr 7) 12 (Mr 7), ai_ cy (rr 8) 12 (Mr 8), ai_ cy (rr 9) 12 (Mr 9), ai_ cy (rr 10) 12 (Mr 10), ai_ cy (rr 11) 12 (Mr 11), ai_ cy c4 40 f4, ai_ cy c5 40 f5, ai_ cy c6 40 f6, ai_ cy c7 12 f7, ai_ cy c8 12 f8, aq_ cy 3 xk 5 (kf_ k0 k1 k2 k3 k4), ob6_0_ k0, ob5_0_ k1, ob9_0_ k2, ob2_0_ k3, ob8_0_ k4, ob1_0_ xt xc ta tb, ai_ cy ta 12 fx, ai_ cy tb 12 fu] sz)) 0 0 (va_A [ob11_0_ xo xk xn xc xh xt xw xm xp pf ph tr fi, ob3_0_ xn vp vn n1 n2 n3 n4 n5, ai_ cy n1 40 fk, ai_ cy n2 40 fs, ai_ cy n3 40 fe, ai_ cy n4 40 fw, ai_ cy n5 40 fp, ob0_0_ xc xn xk clo cro c4 c5 c6 c7 c8, aq_ cy 6 clo 12 (gf_ rl), ai_ cy (rl 0) 12 (Ml 0), ai_ cy (rl 1) 12 (Ml 1), ai_ cy (rl 2) 12 (Ml 2), ai_ cy (rl 3) 12 (Ml 3), ai_ cy (rl 4) 12 (Ml 4), ai_ cy (rl 5) 12 (Ml 5), ai_ cy (rl 6) 12 (Ml 6), ai_ cy (rl 7) 12 (Ml 7), ai_ cy (rl 8) 12 (Ml 8), ai_ cy (rl 9) 12 (Ml 9), ai_ cy (rl 10) 12 (Ml 10), ai_ cy (rl 11) 12 (Ml 11), aq_ cy 6 cro 12 (gf_ rr), ai_ cy (rr 0) 12 (Mr 0), ai_ cy (rr 1) 12 (Mr 1), ai_ cy (rr 2) 12 (Mr 2), ai_ cy (rr 3) 12 (Mr 3), ai_ cy (rr 4) 12 (Mr 4), ai_ cy (rr 5) 12 (Mr 5), ai_ cy (rr 6) 12 (Mr 6), ai_ cy (rr 7) 12 (Mr 7), ai_ cy (rr 8) 12 (Mr 8), ai_ cy (rr 9) 12 (Mr 9), ai_ cy (rr 10) 12 (Mr 10), ai_ cy (rr 11) 12 (Mr 11), ai_ cy c4 40 f4, ai_ cy c5 40 f5, ai_ cy c6 40 f6, ai_ cy c7 12 f7, ai_ cy c8 12 f8, aq_ cy 3 xk 5 (kf_ k0 k1 k2 k3 k4), ob6_0_ k0, ob5_0_ k1, ob9_0_ k2, ob2_0_ k3, ob8_0_ k4, ob1_0_ xt xc ta tb, ai_ cy ta 12 fx, ai_ cy tb 12 fu] sz) := by
  refine ofQ (cc := cX11_weak) (maxL := 2) (ret := (some .int)) (by decide) rfl ?_
  intro p e s m args below meth c s₁ Q hQ B hml hv
  obtain ⟨rfl, hsz, hP, hK, hD0⟩ := hv
  have hG := hK.2
  have hK := hK.1
  have hx := B.exec
  have hb := B.bytes
  have hr := B.returns
  have hts := atoms_spec (ws := wsX11_weak) B.pre
  have hown : s.vm.findClass RX11 = some m.cls := by have h_ := findClass_of_methodNamed B.named; exact h_
  have hlocks := B.notSynchronized
  subst hsz
  have hD := hD0.self (sz := s.heap.size)
  generalize hAe : va_A [ob11_0_ xo xk xn xc xh xt xw xm xp pf ph tr fi, ob3_0_ xn vp vn n1 n2 n3 n4 n5, ai_ cy n1 40 fk, ai_ cy n2 40 fs, ai_ cy n3 40 fe, ai_ cy n4 40 fw, ai_ cy n5 40 fp, ob0_0_ xc xn xk clo cro c4 c5 c6 c7 c8, aq_ cy 6 clo 12 (gf_ rl), ai_ cy (rl 0) 12 (Ml 0), ai_ cy (rl 1) 12 (Ml 1), ai_ cy (rl 2) 12 (Ml 2), ai_ cy (rl 3) 12 (Ml 3), ai_ cy (rl 4) 12 (Ml 4), ai_ cy (rl 5) 12 (Ml 5), ai_ cy (rl 6) 12 (Ml 6), ai_ cy (rl 7) 12 (Ml 7), ai_ cy (rl 8) 12 (Ml 8), ai_ cy (rl 9) 12 (Ml 9), ai_ cy (rl 10) 12 (Ml 10), ai_ cy (rl 11) 12 (Ml 11), aq_ cy 6 cro 12 (gf_ rr), ai_ cy (rr 0) 12 (Mr 0), ai_ cy (rr 1) 12 (Mr 1), ai_ cy (rr 2) 12 (Mr 2), ai_ cy (rr 3) 12 (Mr 3), ai_ cy (rr 4) 12 (Mr 4), ai_ cy (rr 5) 12 (Mr 5), ai_ cy (rr 6) 12 (Mr 6), ai_ cy (rr 7) 12 (Mr 7), ai_ cy (rr 8) 12 (Mr 8), ai_ cy (rr 9) 12 (Mr 9), ai_ cy (rr 10) 12 (Mr 10), ai_ cy (rr 11) 12 (Mr 11), ai_ cy c4 40 f4, ai_ cy c5 40 f5, ai_ cy c6 40 f6, ai_ cy c7 12 f7, ai_ cy c8 12 f8, aq_ cy 3 xk 5 (kf_ k0 k1 k2 k3 k4), ob6_0_ k0, ob5_0_ k1, ob9_0_ k2, ob2_0_ k3, ob8_0_ k4, ob1_0_ xt xc ta tb, ai_ cy ta 12 fx, ai_ cy tb 12 fu] s.heap.size = A at hD hQ
  have hA : ∀ q : Nat, s.heap.size ≤ q → A q := fun q h => by rw [← hAe]; exact Or.inr h
  have hS : va_S A s.heap s.heap [] := va_S.rf
  have hl := lv_entry ([.ref xo, .int a1]) (n := 2) (Nat.le_of_ble_eq_true rfl)
  rw [lg_entry_eq]
  generalize (lg_sl ([.ref xo, .int a1]) ++ List.replicate (2 - (lg_sl ([.ref xo, .int a1])).length) Slot.unset).toArray = ls at hl ⊢
  have hl : lv_has ls 2 [(0, .ref xo), (1, .int a1)] := hl
  have zm2 : ((-2) : Int32).toInt = -2 := by decide
  have zm1 : ((-1) : Int32).toInt = -1 := by decide
  have z0 : (0 : Int32).toInt = 0 := by decide
  have z1 : (1 : Int32).toInt = 1 := by decide
  have zq0 : (0 : Int32).toInt = 0 := by decide
  have zq1 : (1 : Int32).toInt = 1 := by decide
  have zq2 : (2 : Int32).toInt = 2 := by decide
  have zq3 : (3 : Int32).toInt = 3 := by decide
  have zq4 : (4 : Int32).toInt = 4 := by decide
  have zq5 : (5 : Int32).toInt = 5 := by decide
  have zqm9 : ((-9) : Int32).toInt = -9 := by decide
  have zqm1 : ((-1) : Int32).toInt = -1 := by decide
  have zqm2 : ((-2) : Int32).toInt = -2 := by decide
  have cv_ := clI (i := vp) (by omega)
  refine lv_aload_n hx hb dB_36_3_69.1.1.1.1 rfl (lv_at hl 0 rfl) ?_
  refine va_get (ci := 11) (v := .ref xn) (C := RX11) (T := TX11) (N := 12) hx hb hts (fun _ h => List.mem_cons_of_mem _ (List.mem_append_left _ (List.mem_append_left _ (List.mem_append_left _ (List.mem_append_right _ h))))) hown hK.1 hP 0 rfl rfl 1 (by decide) (hts (.fieldLink RX11 31 "CutAtlas" "net" "LCutAtlas$Net;") (List.mem_of_getElem? (i := 1) rfl)) (fun _ h9 => h9) rfl dB_36_3_69.1.1.1.2 ?_
  refine lv_iload_n hx hb dB_36_3_69.1.1.2.1 rfl (lv_at hl 1 rfl) ?_
  refine ct_R hP hD [ob3_0_ xn vp vn n1 n2 n3 n4 n5] [1] (by decide) rfl (fun hPc hDw => ?_)
  have hFc := va_free (wc := []) hD hS hA [] rfl
  refine va_calli (va_runV (As := [.int a1]) (rest := []) ⟨hx, hb, hml, hown, hts⟩ (c_X3_hasLine l D cy s.heap.size xn n1 n2 n3 n4 n5 vp vn a1) (cwV 1 hts gX11_weak_X3_hasLine rfl rfl rfl ⟨rfl, hd_X3_hasLine⟩ ⟨Nat.le_of_ble_eq_true rfl, Nat.le_of_ble_eq_true rfl⟩) ⟨bl_, va_recvX hK.1 hP (ci := 3) (q0 := 1) rfl rfl, fun U hU hW => ⟨rfl, by rw [hU], by rw [hU]; exact hPc, kk_mv hW hK, hDw⟩⟩ rfl rfl hl.1 rfl (lv_room (Nat.le_of_ble_eq_true rfl)) dB_36_3_69.1.1.2.2 ⟨Nat.le_of_ble_eq_true rfl, Nat.le_of_ble_eq_true rfl⟩) hS (fun q _ h => hFc q h) hFc (fun r_1 u t H locs ht hvm hw hB hz1 hk1 hS => ?_)
  have hP : va_P D vwCl _ H := ro_keep hP hk1
  rcases hw with ⟨w_2, e_⟩ | ⟨w_2, e_⟩
  · have e_ := e_.symm
    subst e_
    refine lv_if_ne (tgt := 13) hx hb dB_36_3_69.1.2.1.1 (by decide) (fun c_3 => ?_) (fun c_3 => ?_)
    · have _ := c_3
      refine lv_aload_n hx hb dB_36_3_69.1.2.2.2 rfl (lv_at hl 0 rfl) ?_
      refine va_get (ci := 11) (v := .ref xn) (C := RX11) (T := TX11) (N := 12) hx hb hts (fun _ h => List.mem_cons_of_mem _ (List.mem_append_left _ (List.mem_append_left _ (List.mem_append_left _ (List.mem_append_right _ h))))) hown hK.1 hP 0 rfl rfl 1 (by decide) (hts (.fieldLink RX11 31 "CutAtlas" "net" "LCutAtlas$Net;") (List.mem_of_getElem? (i := 1) rfl)) (fun _ h9 => h9) rfl dB_36_3_69.2.1.1.1 ?_
      refine ct_R hP hD [ob3_0_ xn vp vn n1 n2 n3 n4 n5, ai_ cy n1 40 fk, ai_ cy n2 40 fs] [1, 2, 3] (by decide) rfl (fun hPc hDw => ?_)
      have hFc := va_free (wc := []) hD hS hA [] rfl
      refine va_calli (va_runV (As := []) (rest := []) ⟨hx, hb, hml, hown, hts⟩ (c_X3_isWhole2 l D cy H.size xn n1 n2 n3 n4 n5 vp vn fk fs (by first | with_reducible assumption | omega | assumption)) (cwV 0 hts gX11_weak_X3_isWhole rfl rfl rfl ⟨rfl, hd_X3_isWhole⟩ ⟨Nat.le_of_ble_eq_true rfl, Nat.le_of_ble_eq_true rfl⟩) ⟨bl_, va_recvX hK.1 hP (ci := 3) (q0 := 1) rfl rfl, fun U hU hW => ⟨rfl, by rw [hU], by rw [hU]; exact hPc, kk_mv hW hK, hDw⟩⟩ rfl rfl hl.1 rfl (lv_room (Nat.le_of_ble_eq_true rfl)) dB_36_3_69.2.1.1.2 ⟨Nat.le_of_ble_eq_true rfl, Nat.le_of_ble_eq_true rfl⟩) hS (fun q _ h => hFc q h) hFc (fun r_4 u t H locs ht hvm hw hB hz1 hk1 hS => ?_)
      have hP : va_P D vwCl _ H := ro_keep hP hk1
      obtain ⟨f0_r_4, f1_r_4⟩ := hw
      have hw1_ := f1_r_4
      refine lv_if_eq (tgt := 34) hx hb dB_36_3_69.2.1.2.1 (by decide) (fun c_5 => ?_) (fun c_5 => ?_)
      · have t_5 : r_4.toInt = (0 : Int32).toInt := congrArg Int32.toInt c_5
        refine lv_bipush (v := (-2)) hx hb dB_36_3_70.1.1.1.1 (by decide) ?_
        rw [hQ]
        exact W.iret (v := (-2)) hx hb hr (fun t ht hW => ⟨⟨(-2), (), rfl, (⟨fun h => absurd h (by first | (rw [gI_0 (by omega)]; unfold wkI; (repeat' (first | with_reducible refine if_n (by omega) ?_ | with_reducible refine if_ns (by omega) ?_ | with_reducible refine if_nz (by omega) ?_ | with_reducible exact if_p (by omega) (by omega) | with_reducible exact if_ps (by omega) (by omega) | with_reducible exact if_pz (by omega) (by omega))) <;> omega) | (rw [gI_1 (by omega)]; unfold wkI; (repeat' (first | with_reducible refine if_n (by omega) ?_ | with_reducible refine if_ns (by omega) ?_ | with_reducible refine if_nz (by omega) ?_ | with_reducible exact if_p (by omega) (by omega) | with_reducible exact if_ps (by omega) (by omega) | with_reducible exact if_pz (by omega) (by omega))) <;> omega) | (unfold wkI; (repeat' (first | with_reducible refine if_n (by omega) ?_ | with_reducible refine if_ns (by omega) ?_ | with_reducible refine if_nz (by omega) ?_ | with_reducible exact if_p (by omega) (by omega) | with_reducible exact if_ps (by omega) (by omega) | with_reducible exact if_pz (by omega) (by omega))) <;> omega)), fun _ => (by first | (rw [gI_0 (by omega)]; unfold wkI; (repeat' (first | with_reducible refine if_n (by omega) ?_ | with_reducible refine if_ns (by omega) ?_ | with_reducible refine if_nz (by omega) ?_ | with_reducible exact if_p (by omega) (by omega) | with_reducible exact if_ps (by omega) (by omega) | with_reducible exact if_pz (by omega) (by omega))) <;> omega) | (rw [gI_1 (by omega)]; unfold wkI; (repeat' (first | with_reducible refine if_n (by omega) ?_ | with_reducible refine if_ns (by omega) ?_ | with_reducible refine if_nz (by omega) ?_ | with_reducible exact if_p (by omega) (by omega) | with_reducible exact if_ps (by omega) (by omega) | with_reducible exact if_pz (by omega) (by omega))) <;> omega) | (unfold wkI; (repeat' (first | with_reducible refine if_n (by omega) ?_ | with_reducible refine if_ns (by omega) ?_ | with_reducible refine if_nz (by omega) ?_ | with_reducible exact if_p (by omega) (by omega) | with_reducible exact if_ps (by omega) (by omega) | with_reducible exact if_pz (by omega) (by omega))) <;> omega))⟩), Ml, Mr, f4, f5, f6, f7, f8, fx, fu, (by first | with_reducible assumption | assumption | exact rng_zero (by omega) (by omega) | omega), (by first | with_reducible assumption | assumption | exact rng_zero (by omega) (by omega) | omega), by rw [ht]; exact hP, hD⟩, hS.F ht⟩) hS.2.2 dB_36_3_70.1.1.1.2
      · have t_5 : ¬ r_4.toInt = (0 : Int32).toInt := fun h => c_5 (Int32.toInt_inj.mp h)
        have hwb_ := whI_1 (P := vp.toInt) (c := sumI (bkF fk fs) vn.toNatClampNeg) (by omega)
        have hwi_ := hwb_.2
        refine lv_aload_n hx hb dB_36_3_69.2.1.2.2 rfl (lv_at hl 0 rfl) ?_
        refine va_get (ci := 11) (v := .ref xn) (C := RX11) (T := TX11) (N := 12) hx hb hts (fun _ h => List.mem_cons_of_mem _ (List.mem_append_left _ (List.mem_append_left _ (List.mem_append_left _ (List.mem_append_right _ h))))) hown hK.1 hP 0 rfl rfl 1 (by decide) (hts (.fieldLink RX11 31 "CutAtlas" "net" "LCutAtlas$Net;") (List.mem_of_getElem? (i := 1) rfl)) (fun _ h9 => h9) rfl dB_36_3_69.2.2.1.1 ?_
        refine lv_iload_n hx hb dB_36_3_69.2.2.1.2 rfl (lv_at hl 1 rfl) ?_
        refine ct_R hP hD [ob3_0_ xn vp vn n1 n2 n3 n4 n5, ai_ cy n2 40 fs] [1, 3] (by decide) rfl (fun hPc hDw => ?_)
        have hFc := va_free (wc := []) hD hS hA [] rfl
        refine va_calli (va_runV (As := [.int a1]) (rest := []) ⟨hx, hb, hml, hown, hts⟩ (c_X3_isMissing l D cy H.size xn n1 n2 n3 n4 n5 vp vn fs a1 (by first | with_reducible assumption | omega | assumption)) (cwV 1 hts gX11_weak_X3_isMissing rfl rfl rfl ⟨rfl, hd_X3_isMissing⟩ ⟨Nat.le_of_ble_eq_true rfl, Nat.le_of_ble_eq_true rfl⟩) ⟨bl_, va_recvX hK.1 hP (ci := 3) (q0 := 1) rfl rfl, fun U hU hW => ⟨rfl, by rw [hU], by rw [hU]; exact hPc, kk_mv hW hK, hDw⟩⟩ rfl rfl hl.1 rfl (lv_room (Nat.le_of_ble_eq_true rfl)) dB_36_3_69.2.2.2.1 ⟨Nat.le_of_ble_eq_true rfl, Nat.le_of_ble_eq_true rfl⟩) hS (fun q _ h => hFc q h) hFc (fun r_6 u t H locs ht hvm hw hB hz1 hk1 hS => ?_)
        have hP : va_P D vwCl _ H := ro_keep hP hk1
        rcases hw with ⟨w_7, e_⟩ | ⟨w_7, e_⟩
        · have e_ := e_.symm
          subst e_
          refine lv_if_eq (tgt := 37) hx hb dB_36_3_69.2.2.2.2 (by decide) (fun c_8 => ?_) (fun c_8 => ?_)
          · exact absurd c_8 (by decide)
          · have _ := c_8
            refine lv_bipush (v := (-2)) hx hb dB_36_3_70.1.1.1.1 (by decide) ?_
            rw [hQ]
            exact W.iret (v := (-2)) hx hb hr (fun t ht hW => ⟨⟨(-2), (), rfl, (⟨fun h => absurd h (by first | (rw [gI_0 (by omega)]; unfold wkI; (repeat' (first | with_reducible refine if_n (by omega) ?_ | with_reducible refine if_ns (by omega) ?_ | with_reducible refine if_nz (by omega) ?_ | with_reducible exact if_p (by omega) (by omega) | with_reducible exact if_ps (by omega) (by omega) | with_reducible exact if_pz (by omega) (by omega))) <;> omega) | (rw [gI_1 (by omega)]; unfold wkI; (repeat' (first | with_reducible refine if_n (by omega) ?_ | with_reducible refine if_ns (by omega) ?_ | with_reducible refine if_nz (by omega) ?_ | with_reducible exact if_p (by omega) (by omega) | with_reducible exact if_ps (by omega) (by omega) | with_reducible exact if_pz (by omega) (by omega))) <;> omega) | (unfold wkI; (repeat' (first | with_reducible refine if_n (by omega) ?_ | with_reducible refine if_ns (by omega) ?_ | with_reducible refine if_nz (by omega) ?_ | with_reducible exact if_p (by omega) (by omega) | with_reducible exact if_ps (by omega) (by omega) | with_reducible exact if_pz (by omega) (by omega))) <;> omega)), fun _ => (by first | (rw [gI_0 (by omega)]; unfold wkI; (repeat' (first | with_reducible refine if_n (by omega) ?_ | with_reducible refine if_ns (by omega) ?_ | with_reducible refine if_nz (by omega) ?_ | with_reducible exact if_p (by omega) (by omega) | with_reducible exact if_ps (by omega) (by omega) | with_reducible exact if_pz (by omega) (by omega))) <;> omega) | (rw [gI_1 (by omega)]; unfold wkI; (repeat' (first | with_reducible refine if_n (by omega) ?_ | with_reducible refine if_ns (by omega) ?_ | with_reducible refine if_nz (by omega) ?_ | with_reducible exact if_p (by omega) (by omega) | with_reducible exact if_ps (by omega) (by omega) | with_reducible exact if_pz (by omega) (by omega))) <;> omega) | (unfold wkI; (repeat' (first | with_reducible refine if_n (by omega) ?_ | with_reducible refine if_ns (by omega) ?_ | with_reducible refine if_nz (by omega) ?_ | with_reducible exact if_p (by omega) (by omega) | with_reducible exact if_ps (by omega) (by omega) | with_reducible exact if_pz (by omega) (by omega))) <;> omega))⟩), Ml, Mr, f4, f5, f6, f7, f8, fx, fu, (by first | with_reducible assumption | assumption | exact rng_zero (by omega) (by omega) | omega), (by first | with_reducible assumption | assumption | exact rng_zero (by omega) (by omega) | omega), by rw [ht]; exact hP, hD⟩, hS.F ht⟩) hS.2.2 dB_36_3_70.1.1.1.2
        · have e_ := e_.symm
          subst e_
          refine lv_if_eq (tgt := 37) hx hb dB_36_3_69.2.2.2.2 (by decide) (fun c_9 => ?_) (fun c_9 => ?_)
          · have _ := c_9
            have hms_ : (fs a1.toNatClampNeg).toInt ≠ -9 := by omega
            have cA_ := clI (i := a1) (by omega)
            have hpc_ := hnc a1.toNatClampNeg (by omega) hms_
            refine lv_aload_n hx hb dB_36_3_70.1.1.2.1 rfl (lv_at hl 0 rfl) ?_
            refine va_get (ci := 11) (v := .ref xt) (C := RX11) (T := TX11) (N := 12) hx hb hts (fun _ h => List.mem_cons_of_mem _ (List.mem_append_left _ (List.mem_append_left _ (List.mem_append_left _ (List.mem_append_right _ h))))) hown hK.1 hP 0 rfl rfl 4 (by decide) (hts (.fieldLink RX11 56 "CutAtlas" "cutTree" "LCutAtlas$CutTree;") (List.mem_of_getElem? (i := 2) rfl)) (fun _ h9 => h9) rfl dB_36_3_70.1.1.2.2 ?_
            refine ct_S hP hD hS hA [ob1_0_ xt xc ta tb, ob0_0_ xc xn xk clo cro c4 c5 c6 c7 c8, ob3_0_ xn vp vn n1 n2 n3 n4 n5, ai_ cy ta 12 fx, ai_ cy tb 12 fu, ai_ cy n1 40 fk, ai_ cy n2 40 fs, ai_ cy n3 40 fe, ai_ cy n4 40 fw, aq_ cy 6 clo 12 (gf_ rl), ai_ cy (rl 0) 12 (Ml 0), ai_ cy (rl 1) 12 (Ml 1), ai_ cy (rl 2) 12 (Ml 2), ai_ cy (rl 3) 12 (Ml 3), ai_ cy (rl 4) 12 (Ml 4), ai_ cy (rl 5) 12 (Ml 5), ai_ cy (rl 6) 12 (Ml 6), ai_ cy (rl 7) 12 (Ml 7), ai_ cy (rl 8) 12 (Ml 8), ai_ cy (rl 9) 12 (Ml 9), ai_ cy (rl 10) 12 (Ml 10), ai_ cy (rl 11) 12 (Ml 11), aq_ cy 6 cro 12 (gf_ rr), ai_ cy (rr 0) 12 (Mr 0), ai_ cy (rr 1) 12 (Mr 1), ai_ cy (rr 2) 12 (Mr 2), ai_ cy (rr 3) 12 (Mr 3), ai_ cy (rr 4) 12 (Mr 4), ai_ cy (rr 5) 12 (Mr 5), ai_ cy (rr 6) 12 (Mr 6), ai_ cy (rr 7) 12 (Mr 7), ai_ cy (rr 8) 12 (Mr 8), ai_ cy (rr 9) 12 (Mr 9), ai_ cy (rr 10) 12 (Mr 10), ai_ cy (rr 11) 12 (Mr 11), ai_ cy c4 40 f4, ai_ cy c5 40 f5, ai_ cy c6 40 f6, ai_ cy c7 12 f7, ai_ cy c8 12 f8, aq_ cy 3 xk 5 (kf_ k0 k1 k2 k3 k4), ob6_0_ k0, ob5_0_ k1, ob9_0_ k2, ob2_0_ k3, ob8_0_ k4] [45, 7, 1, 46, 47, 2, 3, 4, 5, 8, 9, 10, 11, 12, 13, 14, 15, 16, 17, 18, 19, 20, 21, 22, 23, 24, 25, 26, 27, 28, 29, 30, 31, 32, 33, 34, 35, 36, 37, 38, 39, 40, 41, 42, 43, 44] (by decide +kernel) rfl (fun hPc hDw hFc hC_ => ?_)
            refine va_callv (va_runV (As := []) (rest := []) ⟨hx, hb, hml, hown, hts⟩ (c_X1_grow2 l D cy H.size xt ta tb xc xk clo cro c4 c5 c6 c7 c8 xn n1 n2 n3 n4 n5 vp vn fx fu fk fs fe fw rl Ml rr Mr f4 f5 f6 f7 f8 k0 k1 k2 k3 k4 (by first | with_reducible assumption | omega | assumption) (by first | with_reducible assumption | omega | assumption) (by first | with_reducible assumption | assumption | omega) (by first | with_reducible assumption | omega | assumption) (by first | with_reducible assumption | assumption | omega) (by first | with_reducible assumption | assumption | omega) (by first | with_reducible assumption | assumption | omega) (by first | with_reducible assumption | assumption | omega) (by first | with_reducible assumption | assumption | omega)) (cwV 0 hts gX11_weak_X1_grow rfl rfl rfl ⟨rfl, hd_X1_grow⟩ ⟨Nat.le_of_ble_eq_true rfl, Nat.le_of_ble_eq_true rfl⟩) ⟨bl_g, va_recvX hK.1 hP (ci := 1) (q0 := 45) rfl rfl, fun U hU hW => ⟨rfl, by rw [hU], by rw [hU]; exact hPc, ⟨kk_mv hW hK, arrOfT_moved hW.alike hG⟩, hDw⟩⟩ rfl rfl hl.1 rfl (lv_room (Nat.le_of_ble_eq_true rfl)) dB_36_3_70.1.2.1.1 ⟨Nat.le_of_ble_eq_true rfl, Nat.le_of_ble_eq_true rfl⟩) hS (fun q _ h => hFc q h) hFc (fun u t H locs ht hvm hw hB hz1 hk1 hS => ?_)
            obtain ⟨eMr_11, efx_12, efu_13, e4_14, e7_15, e8_16, eMl_17, e5_18, e6_19, g_20, g_21, g_22, g_23, g_24, g_25, g_26, hP1, hD1⟩ := hB
            rw [ht] at hP1
            obtain ⟨hP, hD⟩ := va_join (wr := [ob11_0_ xo xk xn xc xh xt xw xm xp pf ph tr fi, ai_ cy n5 40 fp]) (w1 := [ob1_0_ xt xc ta tb, ob0_0_ xc xn xk clo cro c4 c5 c6 c7 c8, ob3_0_ xn vp vn n1 n2 n3 n4 n5, ai_ cy ta 12 efx_12, ai_ cy tb 12 efu_13, ai_ cy n1 40 fk, ai_ cy n2 40 fs, ai_ cy n3 40 fe, ai_ cy n4 40 fw, aq_ cy 6 clo 12 (gf_ rl), ai_ cy (rl 0) 12 (eMl_17 0), ai_ cy (rl 1) 12 (eMl_17 1), ai_ cy (rl 2) 12 (eMl_17 2), ai_ cy (rl 3) 12 (eMl_17 3), ai_ cy (rl 4) 12 (eMl_17 4), ai_ cy (rl 5) 12 (eMl_17 5), ai_ cy (rl 6) 12 (eMl_17 6), ai_ cy (rl 7) 12 (eMl_17 7), ai_ cy (rl 8) 12 (eMl_17 8), ai_ cy (rl 9) 12 (eMl_17 9), ai_ cy (rl 10) 12 (eMl_17 10), ai_ cy (rl 11) 12 (eMl_17 11), aq_ cy 6 cro 12 (gf_ rr), ai_ cy (rr 0) 12 (eMr_11 0), ai_ cy (rr 1) 12 (eMr_11 1), ai_ cy (rr 2) 12 (eMr_11 2), ai_ cy (rr 3) 12 (eMr_11 3), ai_ cy (rr 4) 12 (eMr_11 4), ai_ cy (rr 5) 12 (eMr_11 5), ai_ cy (rr 6) 12 (eMr_11 6), ai_ cy (rr 7) 12 (eMr_11 7), ai_ cy (rr 8) 12 (eMr_11 8), ai_ cy (rr 9) 12 (eMr_11 9), ai_ cy (rr 10) 12 (eMr_11 10), ai_ cy (rr 11) 12 (eMr_11 11), ai_ cy c4 40 e4_14, ai_ cy c5 40 e5_18, ai_ cy c6 40 e6_19, ai_ cy c7 12 e7_15, ai_ cy c8 12 e8_16, aq_ cy 3 xk 5 (kf_ k0 k1 k2 k3 k4), ob6_0_ k0, ob5_0_ k1, ob9_0_ k2, ob2_0_ k3, ob8_0_ k4]) hP hD [45, 7, 1, 46, 47, 2, 3, 4, 5, 8, 9, 10, 11, 12, 13, 14, 15, 16, 17, 18, 19, 20, 21, 22, 23, 24, 25, 26, 27, 28, 29, 30, 31, 32, 33, 34, 35, 36, 37, 38, 39, 40, 41, 42, 43, 44] [0, 6] hC_ rfl (by decide) (by decide) hk1 hFc hP1 hD1
            refine pd_S hP hD [ob11_0_ xo xk xn xc xh xt xw xm xp pf ph tr fi, ob3_0_ xn vp vn n1 n2 n3 n4 n5, ai_ cy n1 40 fk, ai_ cy n2 40 fs, ai_ cy n3 40 fe, ai_ cy n4 40 fw, ai_ cy n5 40 fp, ob0_0_ xc xn xk clo cro c4 c5 c6 c7 c8, aq_ cy 6 clo 12 (gf_ rl), ai_ cy (rl 0) 12 (eMl_17 0), ai_ cy (rl 1) 12 (eMl_17 1), ai_ cy (rl 2) 12 (eMl_17 2), ai_ cy (rl 3) 12 (eMl_17 3), ai_ cy (rl 4) 12 (eMl_17 4), ai_ cy (rl 5) 12 (eMl_17 5), ai_ cy (rl 6) 12 (eMl_17 6), ai_ cy (rl 7) 12 (eMl_17 7), ai_ cy (rl 8) 12 (eMl_17 8), ai_ cy (rl 9) 12 (eMl_17 9), ai_ cy (rl 10) 12 (eMl_17 10), ai_ cy (rl 11) 12 (eMl_17 11), aq_ cy 6 cro 12 (gf_ rr), ai_ cy (rr 0) 12 (eMr_11 0), ai_ cy (rr 1) 12 (eMr_11 1), ai_ cy (rr 2) 12 (eMr_11 2), ai_ cy (rr 3) 12 (eMr_11 3), ai_ cy (rr 4) 12 (eMr_11 4), ai_ cy (rr 5) 12 (eMr_11 5), ai_ cy (rr 6) 12 (eMr_11 6), ai_ cy (rr 7) 12 (eMr_11 7), ai_ cy (rr 8) 12 (eMr_11 8), ai_ cy (rr 9) 12 (eMr_11 9), ai_ cy (rr 10) 12 (eMr_11 10), ai_ cy (rr 11) 12 (eMr_11 11), ai_ cy c4 40 e4_14, ai_ cy c5 40 e5_18, ai_ cy c6 40 e6_19, ai_ cy c7 12 e7_15, ai_ cy c8 12 e8_16, aq_ cy 3 xk 5 (kf_ k0 k1 k2 k3 k4), ob6_0_ k0, ob5_0_ k1, ob9_0_ k2, ob2_0_ k3, ob8_0_ k4, ob1_0_ xt xc ta tb, ai_ cy ta 12 efx_12, ai_ cy tb 12 efu_13] [0, 4, 7, 8, 9, 10, 1, 3, 11, 12, 13, 14, 15, 16, 17, 18, 19, 20, 21, 22, 23, 24, 25, 26, 27, 28, 29, 30, 31, 32, 33, 34, 35, 36, 37, 38, 39, 40, 41, 42, 43, 44, 45, 46, 47, 2, 5, 6] (by decide +kernel) rfl (fun hP hD => ?_)
            obtain ⟨d_, hd_⟩ := g_20
            have hwc_ : whC (cutF fk fs fe fw (-9) vn.toNatClampNeg) vp.toNatClampNeg := whF hnc hpr r_fw hvn.2 hwi_
            have hlt_ : ltr (lam (cutF fk fs fe fw (-9) vn.toNatClampNeg)) vp.toNatClampNeg (nF efx_12) (qF_ efu_13) d_ := ltr_of hwc_ (by omega) hd_ g_21
            refine lv_aload_n hx hb dB_36_3_70.1.2.1.2 rfl (lv_at hl 0 rfl) ?_
            refine va_get (ci := 11) (v := .ref xt) (C := RX11) (T := TX11) (N := 12) hx hb hts (fun _ h => List.mem_cons_of_mem _ (List.mem_append_left _ (List.mem_append_left _ (List.mem_append_left _ (List.mem_append_right _ h))))) hown hK.1 hP 0 rfl rfl 4 (by decide) (hts (.fieldLink RX11 56 "CutAtlas" "cutTree" "LCutAtlas$CutTree;") (List.mem_of_getElem? (i := 2) rfl)) (fun _ h9 => h9) rfl dB_36_3_70.1.2.2.1 ?_
            refine lv_aload_n hx hb dB_36_3_70.1.2.2.2 rfl (lv_at hl 0 rfl) ?_
            refine va_get (ci := 11) (v := .ref xn) (C := RX11) (T := TX11) (N := 12) hx hb hts (fun _ h => List.mem_cons_of_mem _ (List.mem_append_left _ (List.mem_append_left _ (List.mem_append_left _ (List.mem_append_right _ h))))) hown hK.1 hP 0 rfl rfl 1 (by decide) (hts (.fieldLink RX11 31 "CutAtlas" "net" "LCutAtlas$Net;") (List.mem_of_getElem? (i := 1) rfl)) (fun _ h9 => h9) rfl dB_36_3_70.2.1.1.1 ?_
            refine va_get (ci := 3) (v := .ref n2) (C := RX3) (T := TX3) (N := 7) hx hb hts (fun _ h => List.mem_cons_of_mem _ (List.mem_append_left _ (List.mem_append_left _ (List.mem_append_right _ h)))) hown hK.1 hP 1 rfl rfl 3 (by decide) (hts (.fieldLink RX11 155 "CutAtlas$Net" "starts" "[I") (List.mem_of_getElem? (i := 3) rfl)) (fun _ h9 => h9) rfl dB_36_3_70.2.1.1.2 ?_
            refine lv_iload_n hx hb dB_36_3_70.2.1.2.1 rfl (lv_at hl 1 rfl) ?_
            have h_27 : vp_in a1 40 := in_I (by first | with_reducible assumption | omega) (by omega)
            refine va_iald hx hb hK.1 hP 3 0 rfl rfl (i := a1) h_27 dB_36_3_70.2.1.2.2 ?_
            refine lv_topi (fun y_28 ey_28 => ?_)
            have ky_28 : y_28.toInt = (fs a1.toNatClampNeg).toInt := by rw [ey_28]
            have ry_28 := hpr _ (in_lt h_27)
            have jy_28 : y_28.toInt = (fs a1.toNatClampNeg).toInt := by rw [ey_28]
            refine lv_aload_n hx hb dB_36_3_70.2.2.1.1 rfl (lv_at hl 0 rfl) ?_
            refine va_get (ci := 11) (v := .ref xn) (C := RX11) (T := TX11) (N := 12) hx hb hts (fun _ h => List.mem_cons_of_mem _ (List.mem_append_left _ (List.mem_append_left _ (List.mem_append_left _ (List.mem_append_right _ h))))) hown hK.1 hP 0 rfl rfl 1 (by decide) (hts (.fieldLink RX11 31 "CutAtlas" "net" "LCutAtlas$Net;") (List.mem_of_getElem? (i := 1) rfl)) (fun _ h9 => h9) rfl dB_36_3_70.2.2.1.2 ?_
            refine va_get (ci := 3) (v := .ref n3) (C := RX3) (T := TX3) (N := 7) hx hb hts (fun _ h => List.mem_cons_of_mem _ (List.mem_append_left _ (List.mem_append_left _ (List.mem_append_right _ h)))) hown hK.1 hP 1 rfl rfl 4 (by decide) (hts (.fieldLink RX11 158 "CutAtlas$Net" "ends" "[I") (List.mem_of_getElem? (i := 4) rfl)) (fun _ h9 => h9) rfl dB_36_3_70.2.2.2.1 ?_
            refine lv_iload_n hx hb dB_36_3_70.2.2.2.2 rfl (lv_at hl 1 rfl) ?_
            refine va_iald hx hb hK.1 hP 4 0 rfl rfl (i := a1) h_27 dB_36_3_71.1.1.1 ?_
            refine lv_topi (fun y_30 ey_30 => ?_)
            have ky_30 : y_30.toInt = (fe a1.toNatClampNeg).toInt := by rw [ey_30]
            have ry_30 := hpr _ (in_lt h_27)
            have jy_30 : y_30.toInt = (fe a1.toNatClampNeg).toInt := by rw [ey_30]
            refine ct_R hP hD [ob1_0_ xt xc ta tb, ai_ cy ta 12 efx_12, ai_ cy tb 12 efu_13] [45, 46, 47] (by decide) rfl (fun hPc hDw => ?_)
            have hFc := va_free (wc := []) hD hS hA [] rfl
            refine va_calli (va_runV (As := [.int y_28, .int y_30]) (rest := []) ⟨hx, hb, hml, hown, hts⟩ (c_X1_leastOnWay2 l D cy H.size xt xc ta tb efx_12 d_ (lam (cutF fk fs fe fw (-9) vn.toNatClampNeg)) vp.toNatClampNeg efu_13 y_28 y_30 (by first | with_reducible assumption | assumption | omega) (by first | with_reducible assumption | omega | assumption) (by first | with_reducible assumption | omega | assumption) (by first | with_reducible assumption | assumption | omega) (by first | with_reducible assumption | assumption | omega)) (cwV 2 hts gX11_weak_X1_leastOnWay rfl rfl rfl ⟨rfl, hd_X1_leastOnWay⟩ ⟨Nat.le_of_ble_eq_true rfl, Nat.le_of_ble_eq_true rfl⟩) ⟨bl_, va_recvX hK.1 hP (ci := 1) (q0 := 45) rfl rfl, fun U hU hW => ⟨rfl, by rw [hU], by rw [hU]; exact hPc, kk_mv hW hK, hDw⟩⟩ rfl rfl hl.1 rfl (lv_room (Nat.le_of_ble_eq_true rfl)) dB_36_3_71.1.1.2 ⟨Nat.le_of_ble_eq_true rfl, Nat.le_of_ble_eq_true rfl⟩) hS (fun q _ h => hFc q h) hFc (fun r_31 u t H locs ht hvm hw hB hz1 hk1 hS => ?_)
            have hP : va_P D vwCl _ H := ro_keep hP hk1
            obtain ⟨f0_r_31, f1_r_31⟩ := hw
            have hlw0_ := f0_r_31
            have hlw1_ := f1_r_31
            have hss_ : y_28.toNatClampNeg = nF fs a1.toNatClampNeg := by rw [ey_28]; rfl
            have hse_ : y_30.toNatClampNeg = nF fe a1.toNatClampNeg := by rw [ey_30]; rfl
            refine lv_aload_n hx hb dB_36_3_71.1.2.1 rfl (lv_at hl 0 rfl) ?_
            refine va_get (ci := 11) (v := .ref xt) (C := RX11) (T := TX11) (N := 12) hx hb hts (fun _ h => List.mem_cons_of_mem _ (List.mem_append_left _ (List.mem_append_left _ (List.mem_append_left _ (List.mem_append_right _ h))))) hown hK.1 hP 0 rfl rfl 4 (by decide) (hts (.fieldLink RX11 56 "CutAtlas" "cutTree" "LCutAtlas$CutTree;") (List.mem_of_getElem? (i := 2) rfl)) (fun _ h9 => h9) rfl dB_36_3_71.1.2.2.1 ?_
            refine ct_R hP hD [ob1_0_ xt xc ta tb, ai_ cy ta 12 efx_12, ai_ cy tb 12 efu_13, ob0_0_ xc xn xk clo cro c4 c5 c6 c7 c8, ob3_0_ xn vp vn n1 n2 n3 n4 n5] [45, 46, 47, 7, 1] (by decide) rfl (fun hPc hDw => ?_)
            have hFc := va_free (wc := []) hD hS hA [] rfl
            refine va_calli (va_runV (As := []) (rest := [.int r_31]) ⟨hx, hb, hml, hown, hts⟩ (c_X1_leastNumber2 l D cy H.size xt xc ta tb efx_12 d_ efu_13 xk clo cro c4 c5 c6 c7 c8 xn n1 n2 n3 n4 n5 vp vn (by first | with_reducible assumption | omega | assumption) (by first | with_reducible assumption | omega | assumption)) (cwV 0 hts gX11_weak_X1_leastNumber rfl rfl rfl ⟨rfl, hd_X1_leastNumber⟩ ⟨Nat.le_of_ble_eq_true rfl, Nat.le_of_ble_eq_true rfl⟩) ⟨bl_, va_recvX hK.1 hP (ci := 1) (q0 := 45) rfl rfl, fun U hU hW => ⟨rfl, by rw [hU], by rw [hU]; exact hPc, kk_mv hW hK, hDw⟩⟩ rfl rfl hl.1 rfl (lv_room (Nat.le_of_ble_eq_true rfl)) dB_36_3_71.1.2.2.2 ⟨Nat.le_of_ble_eq_true rfl, Nat.le_of_ble_eq_true rfl⟩) hS (fun q _ h => hFc q h) hFc (fun r_32 u t H locs ht hvm hw hB hz1 hk1 hS => ?_)
            have hP : va_P D vwCl _ H := ro_keep hP hk1
            have f0_r_32 := hw
            have hgm_ : gmn (lam (cutF fk fs fe fw (-9) vn.toNatClampNeg)) vp.toNatClampNeg r_32.toInt := gmn_tree hlt_ (by omega) (by rw [cv_]; exact f0_r_32)
            have hmb_ : 0 ≤ r_32.toInt ∧ r_32.toInt < 1000000 := by obtain ⟨_, x_, y_, _, _, xy_, e_⟩ := hgm_; have b_ := lam_bd hwc_ xy_; omega
            have hwq_ : (nF fs a1.toNatClampNeg ≠ nF fe a1.toNatClampNeg ∧ lam (cutF fk fs fe fw (-9) vn.toNatClampNeg) (nF fs a1.toNatClampNeg) (nF fe a1.toNatClampNeg) = r_32.toInt) ↔ r_31.toInt = r_32.toInt := wk_cls hss_ hse_ (by omega) (by omega) hlw0_ hlw1_ (by omega)
            have hwk_ : wkI a1.toInt vp.toInt vn.toInt (sumI (bkF fk fs) vn.toNatClampNeg) (gI (fs a1.toNatClampNeg).toInt) = 0 := by first | (rw [gI_0 (by omega)]; unfold wkI; (repeat' (first | with_reducible refine if_n (by omega) ?_ | with_reducible refine if_ns (by omega) ?_ | with_reducible refine if_nz (by omega) ?_ | with_reducible exact if_p (by omega) (by omega) | with_reducible exact if_ps (by omega) (by omega) | with_reducible exact if_pz (by omega) (by omega))) <;> omega) | (rw [gI_1 (by omega)]; unfold wkI; (repeat' (first | with_reducible refine if_n (by omega) ?_ | with_reducible refine if_ns (by omega) ?_ | with_reducible refine if_nz (by omega) ?_ | with_reducible exact if_p (by omega) (by omega) | with_reducible exact if_ps (by omega) (by omega) | with_reducible exact if_pz (by omega) (by omega))) <;> omega) | (unfold wkI; (repeat' (first | with_reducible refine if_n (by omega) ?_ | with_reducible refine if_ns (by omega) ?_ | with_reducible refine if_nz (by omega) ?_ | with_reducible exact if_p (by omega) (by omega) | with_reducible exact if_ps (by omega) (by omega) | with_reducible exact if_pz (by omega) (by omega))) <;> omega)
            refine lv_icmp_ne (tgt := 83) hx hb dB_36_3_71.2.1.1 (by decide) (fun c_33 => ?_) (fun c_33 => ?_)
            · have t_33 : ¬ r_31.toInt = r_32.toInt := fun h => c_33 (Int32.toInt_inj.mp h)
              refine lv_iconst (v := 0) hx hb dB_36_3_71.2.2.2.1 (by decide) ?_
              rw [hQ]
              exact W.iret (v := 0) hx hb hr (fun t ht hW => ⟨⟨0, (), rfl, (by first | exact ⟨fun _ => ⟨_, hgm_, fun _ => by decide, fun h => absurd (hwq_.mpr (by omega)) h⟩, fun h => absurd hwk_ h⟩ | exact ⟨fun _ => ⟨_, hgm_, fun h => absurd (hwq_.mp h) (by omega), fun _ => by decide⟩, fun h => absurd hwk_ h⟩), eMl_17, eMr_11, e4_14, e5_18, e6_19, e7_15, e8_16, efx_12, efu_13, (by first | with_reducible assumption | assumption | exact rng_zero (by omega) (by omega) | omega), (by first | with_reducible assumption | assumption | exact rng_zero (by omega) (by omega) | omega), by rw [ht]; exact hP, hD⟩, hS.F ht⟩) hS.2.2 dB_36_3_71.2.2.2.2
            · have t_33 : r_31.toInt = r_32.toInt := congrArg Int32.toInt c_33
              refine lv_iconst (v := 1) hx hb dB_36_3_71.2.1.2 (by decide) ?_
              refine lv_goto (tgt := 84) hx hb dB_36_3_71.2.2.1 (by decide) ?_
              rw [hQ]
              exact W.iret (v := 1) hx hb hr (fun t ht hW => ⟨⟨1, (), rfl, (by first | exact ⟨fun _ => ⟨_, hgm_, fun _ => by decide, fun h => absurd (hwq_.mpr (by omega)) h⟩, fun h => absurd hwk_ h⟩ | exact ⟨fun _ => ⟨_, hgm_, fun h => absurd (hwq_.mp h) (by omega), fun _ => by decide⟩, fun h => absurd hwk_ h⟩), eMl_17, eMr_11, e4_14, e5_18, e6_19, e7_15, e8_16, efx_12, efu_13, (by first | with_reducible assumption | assumption | exact rng_zero (by omega) (by omega) | omega), (by first | with_reducible assumption | assumption | exact rng_zero (by omega) (by omega) | omega), by rw [ht]; exact hP, hD⟩, hS.F ht⟩) hS.2.2 dB_36_3_71.2.2.2.2
          · exact absurd c_9 (by decide)
    · exact absurd c_3 (by decide)
  · have e_ := e_.symm
    subst e_
    refine lv_if_ne (tgt := 13) hx hb dB_36_3_69.1.2.1.1 (by decide) (fun c_34 => ?_) (fun c_34 => ?_)
    · exact absurd c_34 (by decide)
    · have _ := c_34
      refine lv_iconst (v := (-1)) hx hb dB_36_3_69.1.2.1.2 (by decide) ?_
      rw [hQ]
      exact W.iret (v := (-1)) hx hb hr (fun t ht hW => ⟨⟨(-1), (), rfl, (⟨fun h => absurd h (by first | (rw [gI_0 (by omega)]; unfold wkI; (repeat' (first | with_reducible refine if_n (by omega) ?_ | with_reducible refine if_ns (by omega) ?_ | with_reducible refine if_nz (by omega) ?_ | with_reducible exact if_p (by omega) (by omega) | with_reducible exact if_ps (by omega) (by omega) | with_reducible exact if_pz (by omega) (by omega))) <;> omega) | (rw [gI_1 (by omega)]; unfold wkI; (repeat' (first | with_reducible refine if_n (by omega) ?_ | with_reducible refine if_ns (by omega) ?_ | with_reducible refine if_nz (by omega) ?_ | with_reducible exact if_p (by omega) (by omega) | with_reducible exact if_ps (by omega) (by omega) | with_reducible exact if_pz (by omega) (by omega))) <;> omega) | (unfold wkI; (repeat' (first | with_reducible refine if_n (by omega) ?_ | with_reducible refine if_ns (by omega) ?_ | with_reducible refine if_nz (by omega) ?_ | with_reducible exact if_p (by omega) (by omega) | with_reducible exact if_ps (by omega) (by omega) | with_reducible exact if_pz (by omega) (by omega))) <;> omega)), fun _ => (by first | (rw [gI_0 (by omega)]; unfold wkI; (repeat' (first | with_reducible refine if_n (by omega) ?_ | with_reducible refine if_ns (by omega) ?_ | with_reducible refine if_nz (by omega) ?_ | with_reducible exact if_p (by omega) (by omega) | with_reducible exact if_ps (by omega) (by omega) | with_reducible exact if_pz (by omega) (by omega))) <;> omega) | (rw [gI_1 (by omega)]; unfold wkI; (repeat' (first | with_reducible refine if_n (by omega) ?_ | with_reducible refine if_ns (by omega) ?_ | with_reducible refine if_nz (by omega) ?_ | with_reducible exact if_p (by omega) (by omega) | with_reducible exact if_ps (by omega) (by omega) | with_reducible exact if_pz (by omega) (by omega))) <;> omega) | (unfold wkI; (repeat' (first | with_reducible refine if_n (by omega) ?_ | with_reducible refine if_ns (by omega) ?_ | with_reducible refine if_nz (by omega) ?_ | with_reducible exact if_p (by omega) (by omega) | with_reducible exact if_ps (by omega) (by omega) | with_reducible exact if_pz (by omega) (by omega))) <;> omega))⟩), Ml, Mr, f4, f5, f6, f7, f8, fx, fu, (by first | with_reducible assumption | assumption | exact rng_zero (by omega) (by omega) | omega), (by first | with_reducible assumption | assumption | exact rng_zero (by omega) (by omega) | omega), by rw [ht]; exact hP, hD⟩, hS.F ht⟩) hS.2.2 dB_36_3_69.1.2.2.1
end
