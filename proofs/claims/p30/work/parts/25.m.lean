section
set_option maxHeartbeats 4000000 in
set_option maxRecDepth 100000 in
theorem c_X12_plants (l : Launch) (D : va_G) (cy : Nat → ClassId) (sz : Nat) (mo : Nat) (g5 : Nat) (g6 : Nat) (g7 : Nat) (g8 : Nat) (g9 : Nat) (g10 : Nat) (g12 : Nat) (g13 : Nat) (g14 : Nat) (g15 : Nat) (g16 : Nat) (g17 : Nat) (g18 : Nat) (g19 : Nat) (g20 : Nat) (g22 : Nat) (g23 : Nat) (g24 : Nat) (g29 : Nat) (g30 : Nat) (g31 : Nat) (g32 : Nat) (g33 : Nat) (s0 : Int32) (s1 : Int32) (s3 : Int32) (s4 : Int32) (s11 : Int32) (s21 : Int32) (s25 : Int32) (s26 : Int32) (s27 : Int32) (s28 : Int32) (t2 : Int64) (f5 : Nat → Int32) (f6 : Nat → Int32) (f7 : Nat → Int32) (f8 : Nat → Int32) (f10 : Nat → Int32) (f32 : Nat → Int32) (f33 : Nat → Int32) (hN : 0 ≤ s4.toInt ∧ s4.toInt ≤ 40) (hPl : 0 ≤ s3.toInt ∧ s3.toInt ≤ 12) (r_f32 : rng f32 12 (0) (11)) : Met l yX12_plants wsX12_plants ({ frames := 4, cells := 0, slots := 0, locals := 96 }) (va_Pc [.ref mo] (fun U => U.heap.size = sz ∧ va_P D vwCl [ob12_0_ mo s0 s1 t2 s3 s4 g5 g6 g7 g8 g9 g10 s11 g12 g13 g14 g15 g16 g17 g18 g19 g20 s21 g22 g23 g24 s25 s26 s27 s28 g29 g30 g31 g32 g33, ai_ cy g5 40 f5, ai_ cy g6 40 f6, ai_ cy g7 40 f7, ai_ cy g8 40 f8, az_ cy g10 40 f10, ai_ cy g32 12 f32, ai_ cy g33 12 f33] U.heap ∧ kk_ D cy U ∧ va_D (fun _ => True) [ob12_0_ mo s0 s1 t2 s3 s4 g5 g6 g7 g8 g9 g10 s11 g12 g13 g14 g15 g16 g17 g18 g19 g20 s21 g22 g23 g24 s25 s26 s27 s28 g29 g30 g31 g32 g33, ai_ cy g5 40 f5, ai_ cy g6 40 f6, ai_ cy g7 40 f7, ai_ cy g8 40 f8, az_ cy g10 40 f10, ai_ cy g32 12 f32, ai_ cy g33 12 f33])) (va_Qv (fun (_ : Unit) => True) (fun (_ : Unit) (t : State) => ∃ (n25 : Int32), ∃ (n26 : Int32), ∃ (n27 : Int32), ∃ (n28 : Int32), ∃ (e32 : Nat → Int32), ∃ (e33 : Nat → Int32), (rng e32 12 (0) (11)) ∧ va_P D vwCl [ob12_0_ mo s0 s1 t2 s3 s4 g5 g6 g7 g8 g9 g10 s11 g12 g13 g14 g15 g16 g17 g18 g19 g20 s21 g22 g23 g24 n25 n26 n27 n28 g29 g30 g31 g32 g33, ai_ cy g5 40 f5, ai_ cy g6 40 f6, ai_ cy g7 40 f7, ai_ cy g8 40 f8, az_ cy g10 40 f10, ai_ cy g32 12 e32, ai_ cy g33 12 e33] t.heap ∧ va_D (va_A [ob12_0_ mo s0 s1 t2 s3 s4 g5 g6 g7 g8 g9 g10 s11 g12 g13 g14 g15 g16 g17 g18 g19 g20 s21 g22 g23 g24 s25 s26 s27 s28 g29 g30 g31 g32 g33, ai_ cy g5 40 f5, ai_ cy g6 40 f6, ai_ cy g7 40 f7, ai_ cy g8 40 f8, az_ cy g10 40 f10, ai_ cy g32 12 f32, ai_ cy g33 12 f33] sz) [ob12_0_ mo s0 s1 t2 s3 s4 g5 g6 g7 g8 g9 g10 s11 g12 g13 g14 g15 g16 g17 g18 g19 g20 s21 g22 g23 g24 n25 n26 n27 n28 g29 g30 g31 g32 g33, ai_ cy g5 40 f5, ai_ cy g6 40 f6, ai_ cy g7 40 f7, ai_ cy g8 40 f8, az_ cy g10 40 f10, ai_ cy g32 12 e32, ai_ cy g33 12 e33]) (va_A [ob12_0_ mo s0 s1 t2 s3 s4 g5 g6 g7 g8 g9 g10 s11 g12 g13 g14 g15 g16 g17 g18 g19 g20 s21 g22 g23 g24 s25 s26 s27 s28 g29 g30 g31 g32 g33, ai_ cy g5 40 f5, ai_ cy g6 40 f6, ai_ cy g7 40 f7, ai_ cy g8 40 f8, az_ cy g10 40 f10, ai_ cy g32 12 f32, ai_ cy g33 12 f33] sz)) 0 0 (va_A [ob12_0_ mo s0 s1 t2 s3 s4 g5 g6 g7 g8 g9 g10 s11 g12 g13 g14 g15 g16 g17 g18 g19 g20 s21 g22 g23 g24 s25 s26 s27 s28 g29 g30 g31 g32 g33, ai_ cy g5 40 f5, ai_ cy g6 40 f6, ai_ cy g7 40 f7, ai_ cy g8 40 f8, az_ cy g10 40 f10, ai_ cy g32 12 f32, ai_ cy g33 12 f33] sz) := by
  refine ofQ (cc := cX12_plants) (maxL := 6) (ret := none) (by decide) rfl ?_
  intro p e s m args below meth c s₁ Q hQ B hml hv
  obtain ⟨rfl, hsz, hP, hK, hD0⟩ := hv
  have hx := B.exec
  have hb := B.bytes
  have hr := B.returns
  have hts := atoms_spec (ws := wsX12_plants) B.pre
  have hown : s.vm.findClass RX12 = some m.cls := by have h_ := findClass_of_methodNamed B.named; exact h_
  have hlocks := B.notSynchronized
  subst hsz
  have hD := hD0.self (sz := s.heap.size)
  generalize hAe : va_A [ob12_0_ mo s0 s1 t2 s3 s4 g5 g6 g7 g8 g9 g10 s11 g12 g13 g14 g15 g16 g17 g18 g19 g20 s21 g22 g23 g24 s25 s26 s27 s28 g29 g30 g31 g32 g33, ai_ cy g5 40 f5, ai_ cy g6 40 f6, ai_ cy g7 40 f7, ai_ cy g8 40 f8, az_ cy g10 40 f10, ai_ cy g32 12 f32, ai_ cy g33 12 f33] s.heap.size = A at hD hQ
  have hA : ∀ q : Nat, s.heap.size ≤ q → A q := fun q h => by rw [← hAe]; exact Or.inr h
  have hS : va_S A s.heap s.heap [] := va_S.rf
  have hl := lv_entry ([.ref mo]) (n := 6) (Nat.le_of_ble_eq_true rfl)
  rw [lg_entry_eq]
  generalize (lg_sl ([.ref mo]) ++ List.replicate (6 - (lg_sl ([.ref mo])).length) Slot.unset).toArray = ls at hl ⊢
  have hl : lv_has ls 6 [(0, .ref mo)] := hl
  have zm9 : ((-9) : Int32).toInt = -9 := by decide
  have z0 : (0 : Int32).toInt = 0 := by decide
  have z1 : (1 : Int32).toInt = 1 := by decide
  have z12 : (12 : Int32).toInt = 12 := by decide
  refine lv_iconst (v := 0) hx hb dB_3_2_24.2.2.2.2 (by decide) ?_
  refine lv_istore_n (lv' := [(1, .int 0), (0, .ref mo)]) hx hb dB_3_2_25.1.1.1.1 rfl hl (by decide) rfl (fun ls hl => ?_)
  suffices LOOP_1 : ∀ (n_1 : Nat) (x1_1 : Int32) (c_g32_1 : Nat → Int32) (c_g33_1 : Nat → Int32) (H : Heap) (locs : List Loc) (ls : Array Slot), 12 - x1_1.toInt < (n_1 : Int) → (0 ≤ x1_1.toInt) → (x1_1.toInt ≤ 12) → (rng c_g32_1 12 (0) (11)) → pd_2 D vwCl A [ob12_0_ mo s0 s1 t2 s3 s4 g5 g6 g7 g8 g9 g10 s11 g12 g13 g14 g15 g16 g17 g18 g19 g20 s21 g22 g23 g24 s25 s26 s27 s28 g29 g30 g31 g32 g33, ai_ cy g5 40 f5, ai_ cy g6 40 f6, ai_ cy g7 40 f7, ai_ cy g8 40 f8, az_ cy g10 40 f10, ai_ cy g32 12 c_g32_1, ai_ cy g33 12 c_g33_1] H → va_S A s.heap H locs → lv_has ls 6 [(1, .int x1_1), (0, .ref mo)] → W p l e ({ frames := 4, cells := 0, slots := 0, locals := 96 } : Room) s m (([.ref mo] : List Value).toArray) below meth c H locs 0 0 Q (F0 m 2 ls []) from LOOP_1 ((12 - (0 : Int32).toInt).toNat + 1) (0 : Int32) f32 f33 _ _ _ (by omega) (by first | with_reducible assumption | omega | assumption) (by first | with_reducible assumption | omega | assumption) (by first | with_reducible assumption | assumption | exact rng_zero (by omega) (by omega) | exact orng_zero) ⟨hP, hD⟩ hS (lv_sub hl [0, 1] rfl)
  intro n_1
  induction n_1 with
  | zero =>
    intro x1_1 c_g32_1 c_g33_1 H locs ls hm v0_1 v1_1 rc_g32_1 hPD hS hl; obtain ⟨hP, hD⟩ := hPD
    exact absurd hm (by omega)
  | succ n_1 ih_1 =>
    intro x1_1 c_g32_1 c_g33_1 H locs ls hm v0_1 v1_1 rc_g32_1 hPD hS hl; obtain ⟨hP, hD⟩ := hPD
    refine lv_iload_n hx hb dB_3_2_25.1.1.1.2 rfl (lv_at hl 0 rfl) ?_
    refine lv_bipush (v := 12) hx hb dB_3_2_25.1.1.2.1 (by decide) ?_
    refine lv_icmp_ge (tgt := 29) hx hb dB_3_2_25.1.1.2.2 (by decide) (fun c_2 => ?_) (fun c_2 => ?_)
    · have t_2 : (12 : Int32).toInt ≤ x1_1.toInt := Int32.le_iff_toInt_le.mp c_2
      refine lv_iconst (v := 1) hx hb dB_3_2_26.1.1.1.1 (by decide) ?_
      refine lv_istore_n (lv' := [(1, .int 1), (0, .ref mo)]) hx hb dB_3_2_26.1.1.1.2 rfl hl (by decide) rfl (fun ls hl => ?_)
      suffices LOOP_3 : ∀ (n_3 : Nat) (x1_3 : Int32) (o25_3 : Int32) (o26_3 : Int32) (o27_3 : Int32) (o28_3 : Int32) (c_g32_3 : Nat → Int32) (c_g33_3 : Nat → Int32) (H : Heap) (locs : List Loc) (ls : Array Slot), 13 - x1_3.toInt < (n_3 : Int) → (1 ≤ x1_3.toInt) → (x1_3.toInt ≤ 13) → (rng c_g32_3 12 (0) (11)) → pd_2 D vwCl A [ob12_0_ mo s0 s1 t2 s3 s4 g5 g6 g7 g8 g9 g10 s11 g12 g13 g14 g15 g16 g17 g18 g19 g20 s21 g22 g23 g24 o25_3 o26_3 o27_3 o28_3 g29 g30 g31 g32 g33, ai_ cy g5 40 f5, ai_ cy g6 40 f6, ai_ cy g7 40 f7, ai_ cy g8 40 f8, az_ cy g10 40 f10, ai_ cy g32 12 c_g32_3, ai_ cy g33 12 c_g33_3] H → va_S A s.heap H locs → lv_has ls 6 [(1, .int x1_3), (0, .ref mo)] → W p l e ({ frames := 4, cells := 0, slots := 0, locals := 96 } : Room) s m (([.ref mo] : List Value).toArray) below meth c H locs 0 0 Q (F0 m 31 ls []) from LOOP_3 ((13 - (1 : Int32).toInt).toNat + 1) (1 : Int32) s25 s26 s27 s28 c_g32_1 c_g33_1 _ _ _ (by omega) (by first | with_reducible assumption | omega | assumption) (by first | with_reducible assumption | omega | assumption) (by first | with_reducible assumption | assumption | exact rng_zero (by omega) (by omega) | exact orng_zero) ⟨hP, hD⟩ hS (lv_sub hl [0, 1] rfl)
      intro n_3
      induction n_3 with
      | zero =>
        intro x1_3 o25_3 o26_3 o27_3 o28_3 c_g32_3 c_g33_3 H locs ls hm v0_3 v1_3 rc_g32_3 hPD hS hl; obtain ⟨hP, hD⟩ := hPD
        exact absurd hm (by omega)
      | succ n_3 ih_3 =>
        intro x1_3 o25_3 o26_3 o27_3 o28_3 c_g32_3 c_g33_3 H locs ls hm v0_3 v1_3 rc_g32_3 hPD hS hl; obtain ⟨hP, hD⟩ := hPD
        refine lv_iload_n hx hb dB_3_2_26.1.1.2.1 rfl (lv_at hl 0 rfl) ?_
        refine lv_aload_n hx hb dB_3_2_26.1.1.2.2 rfl (lv_at hl 1 rfl) ?_
        refine va_get (ci := 12) (v := .int s3) (C := RX12) (T := TX12) (N := 34) hx hb hts (fun _ h => List.mem_cons_of_mem _ (List.mem_append_right _ h)) hown hK.1 hP 0 rfl rfl 3 (by decide) (hts (.fieldLink RX12 88 "CutAtlasModel" "places" "I") (List.mem_of_getElem? (i := 3) rfl)) (fun _ h9 => h9) rfl dB_3_2_26.1.2.1.1 ?_
        refine lv_icmp_ge (tgt := 197) hx hb dB_3_2_26.1.2.1.2 (by decide) (fun c_4 => ?_) (fun c_4 => ?_)
        · have t_4 : s3.toInt ≤ x1_3.toInt := Int32.le_iff_toInt_le.mp c_4
          rw [hQ]
          exact W.vret hx hb hr (fun t ht hW => ⟨⟨(), rfl, trivial, o25_3, o26_3, o27_3, o28_3, c_g32_3, c_g33_3, (by first | with_reducible assumption | assumption | exact rng_zero (by omega) (by omega) | omega), by rw [ht]; exact hP, hD⟩, hS.F ht⟩) hS.2.2 dB_3_2_32.1.2.2.2
        · have t_4 : ¬ s3.toInt ≤ x1_3.toInt := fun h => c_4 (Int32.le_iff_toInt_le.mpr h)
          refine lv_aload_n hx hb dB_3_2_26.1.2.2.1 rfl (lv_at hl 1 rfl) ?_
          refine va_get (ci := 12) (v := .ref g32) (C := RX12) (T := TX12) (N := 34) hx hb hts (fun _ h => List.mem_cons_of_mem _ (List.mem_append_right _ h)) hown hK.1 hP 0 rfl rfl 32 (by decide) (hts (.fieldLink RX12 79 "CutAtlasModel" "treeNext" "[I") (List.mem_of_getElem? (i := 1) rfl)) (fun _ h9 => h9) rfl dB_3_2_26.1.2.2.2 ?_
          refine lv_iload_n hx hb dB_3_2_26.2.1.1.1 rfl (lv_at hl 0 rfl) ?_
          have h_5 : vp_in x1_3 12 := in_I (by omega) (by omega)
          refine va_iald hx hb hK.1 hP 6 0 rfl rfl (i := x1_3) h_5 dB_3_2_26.2.1.1.2 ?_
          refine lv_topi (fun y_6 ey_6 => ?_)
          have ry_6 : 0 ≤ y_6.toInt ∧ y_6.toInt ≤ 11 := by rw [ey_6]; exact rc_g32_3 _ (in_lt h_5)
          refine lv_istore_n (lv' := [(2, .int y_6), (1, .int x1_3), (0, .ref mo)]) hx hb dB_3_2_26.2.1.2.1 rfl hl (by decide) rfl (fun ls hl => ?_)
          refine lv_aload_n hx hb dB_3_2_26.2.1.2.2 rfl (lv_at hl 2 rfl) ?_
          refine lv_iload_n hx hb dB_3_2_26.2.2.1.1 rfl (lv_at hl 1 rfl) ?_
          refine lv_iload_n hx hb dB_3_2_26.2.2.1.2 rfl (lv_at hl 0 rfl) ?_
          refine ct_R hP hD [ob12_0_ mo s0 s1 t2 s3 s4 g5 g6 g7 g8 g9 g10 s11 g12 g13 g14 g15 g16 g17 g18 g19 g20 s21 g22 g23 g24 o25_3 o26_3 o27_3 o28_3 g29 g30 g31 g32 g33, ai_ cy g5 40 f5, ai_ cy g6 40 f6, ai_ cy g7 40 f7, ai_ cy g8 40 f8, az_ cy g10 40 f10] [0, 1, 2, 3, 4, 5] (by decide) rfl (fun hPc hDw => ?_)
          have hFc := va_free (wc := []) hD hS hA [] rfl
          refine va_calli (va_runV (As := [.int x1_3, .int y_6]) (rest := []) ⟨hx, hb, hml, hown, hts⟩ (c_X12_mostOf l D cy H.size mo g5 g6 g7 g8 g9 g10 g12 g13 g14 g15 g16 g17 g18 g19 g20 g22 g23 g24 g29 g30 g31 g32 g33 s0 s1 s3 s4 s11 s21 o25_3 o26_3 o27_3 o28_3 t2 f5 f6 f7 f8 f10 x1_3 y_6 (by first | with_reducible assumption | omega | assumption) (by first | with_reducible assumption | omega | assumption)) (cwV 2 hts gX12_plants_X12_mostOf rfl rfl rfl ⟨rfl, hd_X12_mostOf⟩ ⟨Nat.le_of_ble_eq_true rfl, Nat.le_of_ble_eq_true rfl⟩) ⟨bl_, va_recvX hK.1 hP (ci := 12) (q0 := 0) rfl rfl, fun U hU hW => ⟨rfl, by rw [hU], by rw [hU]; exact hPc, kk_mv hW hK, hDw⟩⟩ rfl rfl hl.1 rfl (lv_room (Nat.le_of_ble_eq_true rfl)) dB_3_2_26.2.2.2.1 ⟨Nat.le_of_ble_eq_true rfl, Nat.le_of_ble_eq_true rfl⟩) hS (fun q _ h => hFc q h) hFc (fun r_7 u t H locs ht hvm hw hB hz1 hk1 hS => ?_)
          have hP : va_P D vwCl _ H := ro_keep hP hk1
          refine lv_istore_n (lv' := [(3, .int r_7), (2, .int y_6), (1, .int x1_3), (0, .ref mo)]) hx hb dB_3_2_26.2.2.2.2 rfl hl (by decide) rfl (fun ls hl => ?_)
          refine lv_aload_n hx hb dB_3_2_27.1.1.1.1 rfl (lv_at hl 3 rfl) ?_
          refine lv_iload_n hx hb dB_3_2_27.1.1.1.2 rfl (lv_at hl 2 rfl) ?_
          refine lv_iload_n hx hb dB_3_2_27.1.1.2.1 rfl (lv_at hl 1 rfl) ?_
          refine lv_iload_n hx hb dB_3_2_27.1.1.2.2 rfl (lv_at hl 0 rfl) ?_
          refine lv_iconst (v := 0) hx hb dB_3_2_27.1.2.1.1 (by decide) ?_
          refine ct_S hP hD hS hA [ob12_0_ mo s0 s1 t2 s3 s4 g5 g6 g7 g8 g9 g10 s11 g12 g13 g14 g15 g16 g17 g18 g19 g20 s21 g22 g23 g24 o25_3 o26_3 o27_3 o28_3 g29 g30 g31 g32 g33, ai_ cy g5 40 f5, ai_ cy g6 40 f6, ai_ cy g7 40 f7, ai_ cy g8 40 f8, az_ cy g10 40 f10] [0, 1, 2, 3, 4, 5] (by decide) rfl (fun hPc hDw hFc hC_ => ?_)
          refine va_callv (va_runV (As := [.int x1_3, .int y_6, .int r_7, .int 0]) (rest := []) ⟨hx, hb, hml, hown, hts⟩ (c_X12_cutsOf l D cy H.size mo g5 g6 g7 g8 g9 g10 g12 g13 g14 g15 g16 g17 g18 g19 g20 g22 g23 g24 g29 g30 g31 g32 g33 s0 s1 s3 s4 s11 s21 o25_3 o26_3 o27_3 o28_3 t2 f5 f6 f7 f8 f10 x1_3 y_6 r_7 (0 : Int32) (by first | with_reducible assumption | omega | assumption) (by first | with_reducible assumption | omega | assumption)) (cwV 4 hts gX12_plants_X12_cutsOf rfl rfl rfl ⟨rfl, hd_X12_cutsOf⟩ ⟨Nat.le_of_ble_eq_true rfl, Nat.le_of_ble_eq_true rfl⟩) ⟨bl_, va_recvX hK.1 hP (ci := 12) (q0 := 0) rfl rfl, fun U hU hW => ⟨rfl, by rw [hU], by rw [hU]; exact hPc, kk_mv hW hK, hDw⟩⟩ rfl rfl hl.1 rfl (lv_room (Nat.le_of_ble_eq_true rfl)) dB_3_2_27.1.2.1.2 ⟨Nat.le_of_ble_eq_true rfl, Nat.le_of_ble_eq_true rfl⟩) hS (fun q _ h => hFc q h) hFc (fun u t H locs ht hvm hw hB hz1 hk1 hS => ?_)
          obtain ⟨n25_9, n26_10, n27_11, n28_12, hP1, hD1⟩ := hB
          rw [ht] at hP1
          obtain ⟨hP, hD⟩ := va_join (wr := [ai_ cy g32 12 c_g32_3, ai_ cy g33 12 c_g33_3]) (w1 := [ob12_0_ mo s0 s1 t2 s3 s4 g5 g6 g7 g8 g9 g10 s11 g12 g13 g14 g15 g16 g17 g18 g19 g20 s21 g22 g23 g24 n25_9 n26_10 n27_11 n28_12 g29 g30 g31 g32 g33, ai_ cy g5 40 f5, ai_ cy g6 40 f6, ai_ cy g7 40 f7, ai_ cy g8 40 f8, az_ cy g10 40 f10]) hP hD [0, 1, 2, 3, 4, 5] [6, 7] hC_ rfl (by decide) (by decide) hk1 hFc hP1 hD1
          refine pd_S hP hD [ob12_0_ mo s0 s1 t2 s3 s4 g5 g6 g7 g8 g9 g10 s11 g12 g13 g14 g15 g16 g17 g18 g19 g20 s21 g22 g23 g24 n25_9 n26_10 n27_11 n28_12 g29 g30 g31 g32 g33, ai_ cy g5 40 f5, ai_ cy g6 40 f6, ai_ cy g7 40 f7, ai_ cy g8 40 f8, az_ cy g10 40 f10, ai_ cy g32 12 c_g32_3, ai_ cy g33 12 c_g33_3] [2, 3, 4, 5, 6, 7, 0, 1] (by decide) rfl (fun hP hD => ?_)
          refine lv_aload_n hx hb dB_3_2_27.1.2.2.1 rfl (lv_at hl 3 rfl) ?_
          refine va_get (ci := 12) (v := .int n26_10) (C := RX12) (T := TX12) (N := 34) hx hb hts (fun _ h => List.mem_cons_of_mem _ (List.mem_append_right _ h)) hown hK.1 hP 0 rfl rfl 26 (by decide) (hts (.fieldLink RX12 195 "CutAtlasModel" "near" "I") (List.mem_of_getElem? (i := 4) rfl)) (fun _ h9 => h9) rfl dB_3_2_27.1.2.2.2 ?_
          refine lv_istore (lv' := [(4, .int n26_10), (3, .int r_7), (2, .int y_6), (1, .int x1_3), (0, .ref mo)]) hx hb dB_3_2_27.2.1.1.1 hl (by decide) rfl (fun ls hl => ?_)
          refine lv_aload_n hx hb dB_3_2_27.2.1.1.2 rfl (lv_at hl 4 rfl) ?_
          refine va_get (ci := 12) (v := .ref g33) (C := RX12) (T := TX12) (N := 34) hx hb hts (fun _ h => List.mem_cons_of_mem _ (List.mem_append_right _ h)) hown hK.1 hP 0 rfl rfl 33 (by decide) (hts (.fieldLink RX12 82 "CutAtlasModel" "treeNumber" "[I") (List.mem_of_getElem? (i := 2) rfl)) (fun _ h9 => h9) rfl dB_3_2_27.2.1.2.1 ?_
          refine lv_iload_n hx hb dB_3_2_27.2.1.2.2 rfl (lv_at hl 3 rfl) ?_
          refine lv_iload_n hx hb dB_3_2_27.2.2.1.1 rfl (lv_at hl 1 rfl) ?_
          have h_13 : vp_in x1_3 12 := in_I (by omega) (by omega)
          refine va_iast hx hb hK.1 hP hD hS 7 0 rfl rfl (i := x1_3) h_13 dB_3_2_27.2.2.1.2 (fun H locs hP hD hS => ?_)
          obtain ⟨f_14, ef_14⟩ : ∃ g : Nat → Int32, g = upd c_g33_3 x1_3.toNatClampNeg r_7 := ⟨_, rfl⟩
          refine pd_K (D := D) (cl := vwCl) (H := H) (A := A) [ob12_0_ mo s0 s1 t2 s3 s4 g5 g6 g7 g8 g9 g10 s11 g12 g13 g14 g15 g16 g17 g18 g19 g20 s21 g22 g23 g24 n25_9 n26_10 n27_11 n28_12 g29 g30 g31 g32 g33, ai_ cy g5 40 f5, ai_ cy g6 40 f6, ai_ cy g7 40 f7, ai_ cy g8 40 f8, az_ cy g10 40 f10, ai_ cy g32 12 c_g32_3, ai_ cy g33 12 f_14] (by rw [ef_14]; exact hP) (by rw [ef_14]; exact hD) (fun hP hD => ?_)
          refine lv_iload_n hx hb dB_3_2_27.2.2.2.1 rfl (lv_at hl 3 rfl) ?_
          refine lv_iconst (v := 1) hx hb dB_3_2_27.2.2.2.2 (by decide) ?_
          refine lv_iadd hx hb dB_3_2_28.1.1.1.1 ?_
          refine lv_topi (fun y_15 ey_15 => ?_)
          have ty_15 : y_15.toInt = x1_3.toInt + (1 : Int32).toInt := by rw [ey_15]; exact addI (by omega) (by omega)
          refine lv_istore (lv' := [(5, .int y_15), (4, .int n26_10), (3, .int r_7), (2, .int y_6), (1, .int x1_3), (0, .ref mo)]) hx hb dB_3_2_28.1.1.1.2 hl (by decide) rfl (fun ls hl => ?_)
          suffices LOOP_16 : ∀ (n_16 : Nat) (x5_16 : Int32) (c_g32_16 : Nat → Int32) (H : Heap) (locs : List Loc) (ls : Array Slot), 13 - x5_16.toInt < (n_16 : Int) → (1 ≤ x5_16.toInt) → (x5_16.toInt ≤ 13) → (rng c_g32_16 12 (0) (11)) → pd_2 D vwCl A [ob12_0_ mo s0 s1 t2 s3 s4 g5 g6 g7 g8 g9 g10 s11 g12 g13 g14 g15 g16 g17 g18 g19 g20 s21 g22 g23 g24 n25_9 n26_10 n27_11 n28_12 g29 g30 g31 g32 g33, ai_ cy g5 40 f5, ai_ cy g6 40 f6, ai_ cy g7 40 f7, ai_ cy g8 40 f8, az_ cy g10 40 f10, ai_ cy g32 12 c_g32_16, ai_ cy g33 12 f_14] H → va_S A s.heap H locs → lv_has ls 6 [(5, .int x5_16), (4, .int n26_10), (3, .int r_7), (2, .int y_6), (1, .int x1_3), (0, .ref mo)] → W p l e ({ frames := 4, cells := 0, slots := 0, locals := 96 } : Room) s m (([.ref mo] : List Value).toArray) below meth c H locs 0 0 Q (F0 m 79 ls []) from LOOP_16 ((13 - y_15.toInt).toNat + 1) y_15 c_g32_3 _ _ _ (by omega) (by first | with_reducible assumption | omega | assumption) (by first | with_reducible assumption | omega | assumption) (by first | with_reducible assumption | assumption | exact rng_zero (by omega) (by omega) | exact orng_zero) ⟨hP, hD⟩ hS (lv_sub hl [0, 1, 2, 3, 4, 5] rfl)
          intro n_16
          induction n_16 with
          | zero =>
            intro x5_16 c_g32_16 H locs ls hm v0_16 v1_16 rc_g32_16 hPD hS hl; obtain ⟨hP, hD⟩ := hPD
            exact absurd hm (by omega)
          | succ n_16 ih_16 =>
            intro x5_16 c_g32_16 H locs ls hm v0_16 v1_16 rc_g32_16 hPD hS hl; obtain ⟨hP, hD⟩ := hPD
            refine lv_iload hx hb dB_3_2_28.1.1.2.1 (lv_at hl 0 rfl) ?_
            refine lv_aload_n hx hb dB_3_2_28.1.1.2.2 rfl (lv_at hl 5 rfl) ?_
            refine va_get (ci := 12) (v := .int s3) (C := RX12) (T := TX12) (N := 34) hx hb hts (fun _ h => List.mem_cons_of_mem _ (List.mem_append_right _ h)) hown hK.1 hP 0 rfl rfl 3 (by decide) (hts (.fieldLink RX12 88 "CutAtlasModel" "places" "I") (List.mem_of_getElem? (i := 3) rfl)) (fun _ h9 => h9) rfl dB_3_2_28.1.2.1.1 ?_
            refine lv_icmp_ge (tgt := 134) hx hb dB_3_2_28.1.2.1.2 (by decide) (fun c_17 => ?_) (fun c_17 => ?_)
            · have t_17 : s3.toInt ≤ x5_16.toInt := Int32.le_iff_toInt_le.mp c_17
              refine lv_iload_n hx hb dB_3_2_29.2.2.2.2 rfl (lv_at hl 3 rfl) ?_
              refine lv_if_eq (tgt := 191) hx hb dB_3_2_30.1.1.1.1 (by decide) (fun c_18 => ?_) (fun c_18 => ?_)
              · have t_18 : y_6.toInt = (0 : Int32).toInt := congrArg Int32.toInt c_18
                obtain ⟨y_19, ey_19⟩ : ∃ y : Int32, y = x1_3 + 1 := ⟨_, rfl⟩
                have ty_19 : y_19.toInt = x1_3.toInt + (1 : Int32).toInt := by rw [ey_19]; exact addI (by omega) (by omega)
                refine lv_iinc (v := y_19) (lv' := [(1, .int y_19), (5, .int x5_16), (4, .int n26_10), (3, .int r_7), (2, .int y_6), (0, .ref mo)]) hx hb dB_3_2_32.1.2.1.2 hl (k := 4) rfl (by rw [ey_19]; rfl) (by decide) rfl (fun ls hl => ?_)
                refine lv_goto (tgt := 31) hx hb dB_3_2_32.1.2.2.1 (by decide) ?_
                exact ih_3 y_19 n25_9 n26_10 n27_11 n28_12 c_g32_16 f_14 _ _ _ (by omega) (by first | with_reducible assumption | omega | assumption) (by first | with_reducible assumption | omega | assumption) (by first | with_reducible assumption | assumption | exact rng_zero (by omega) (by omega) | exact orng_zero) ⟨hP, hD⟩ hS (lv_sub hl [0, 5] rfl)
              · have t_18 : ¬ y_6.toInt = (0 : Int32).toInt := fun h => c_18 (Int32.toInt_inj.mp h)
                refine lv_iload hx hb dB_3_2_30.1.1.1.2 (lv_at hl 1 rfl) ?_
                refine lv_aload_n hx hb dB_3_2_30.1.1.2.1 rfl (lv_at hl 5 rfl) ?_
                refine va_get (ci := 12) (v := .ref g32) (C := RX12) (T := TX12) (N := 34) hx hb hts (fun _ h => List.mem_cons_of_mem _ (List.mem_append_right _ h)) hown hK.1 hP 0 rfl rfl 32 (by decide) (hts (.fieldLink RX12 79 "CutAtlasModel" "treeNext" "[I") (List.mem_of_getElem? (i := 1) rfl)) (fun _ h9 => h9) rfl dB_3_2_30.1.1.2.2 ?_
                refine lv_iload_n hx hb dB_3_2_30.1.2.1.1 rfl (lv_at hl 3 rfl) ?_
                have h_20 : vp_in y_6 12 := in_I (by omega) (by omega)
                refine va_iald hx hb hK.1 hP 6 0 rfl rfl (i := y_6) h_20 dB_3_2_30.1.2.1.2 ?_
                refine lv_topi (fun y_21 ey_21 => ?_)
                have ry_21 : 0 ≤ y_21.toInt ∧ y_21.toInt ≤ 11 := by rw [ey_21]; exact rc_g32_16 _ (in_lt h_20)
                refine lv_ishr hx hb dB_3_2_30.1.2.2.1 ?_
                refine lv_topi (fun y_22 ey_22 => ?_)
                refine lv_iconst (v := 1) hx hb dB_3_2_30.1.2.2.2 (by decide) ?_
                refine lv_iand hx hb dB_3_2_30.2.1.1.1 ?_
                refine lv_topi (fun y_23 ey_23 => ?_)
                refine lv_iconst (v := 1) hx hb dB_3_2_30.2.1.1.2 (by decide) ?_
                refine lv_icmp_ne (tgt := 191) hx hb dB_3_2_30.2.1.2.1 (by decide) (fun c_24 => ?_) (fun c_24 => ?_)
                · have t_24 : ¬ y_23.toInt = (1 : Int32).toInt := fun h => c_24 (Int32.toInt_inj.mp h)
                  obtain ⟨y_25, ey_25⟩ : ∃ y : Int32, y = x1_3 + 1 := ⟨_, rfl⟩
                  have ty_25 : y_25.toInt = x1_3.toInt + (1 : Int32).toInt := by rw [ey_25]; exact addI (by omega) (by omega)
                  refine lv_iinc (v := y_25) (lv' := [(1, .int y_25), (5, .int x5_16), (4, .int n26_10), (3, .int r_7), (2, .int y_6), (0, .ref mo)]) hx hb dB_3_2_32.1.2.1.2 hl (k := 4) rfl (by rw [ey_25]; rfl) (by decide) rfl (fun ls hl => ?_)
                  refine lv_goto (tgt := 31) hx hb dB_3_2_32.1.2.2.1 (by decide) ?_
                  exact ih_3 y_25 n25_9 n26_10 n27_11 n28_12 c_g32_16 f_14 _ _ _ (by omega) (by first | with_reducible assumption | omega | assumption) (by first | with_reducible assumption | omega | assumption) (by first | with_reducible assumption | assumption | exact rng_zero (by omega) (by omega) | exact orng_zero) ⟨hP, hD⟩ hS (lv_sub hl [0, 5] rfl)
                · have t_24 : y_23.toInt = (1 : Int32).toInt := congrArg Int32.toInt c_24
                  refine lv_aload_n hx hb dB_3_2_30.2.1.2.2 rfl (lv_at hl 5 rfl) ?_
                  refine va_get (ci := 12) (v := .ref g32) (C := RX12) (T := TX12) (N := 34) hx hb hts (fun _ h => List.mem_cons_of_mem _ (List.mem_append_right _ h)) hown hK.1 hP 0 rfl rfl 32 (by decide) (hts (.fieldLink RX12 79 "CutAtlasModel" "treeNext" "[I") (List.mem_of_getElem? (i := 1) rfl)) (fun _ h9 => h9) rfl dB_3_2_30.2.2.1.1 ?_
                  refine lv_iload_n hx hb dB_3_2_30.2.2.1.2 rfl (lv_at hl 4 rfl) ?_
                  refine lv_aload_n hx hb dB_3_2_30.2.2.2.1 rfl (lv_at hl 5 rfl) ?_
                  refine va_get (ci := 12) (v := .ref g32) (C := RX12) (T := TX12) (N := 34) hx hb hts (fun _ h => List.mem_cons_of_mem _ (List.mem_append_right _ h)) hown hK.1 hP 0 rfl rfl 32 (by decide) (hts (.fieldLink RX12 79 "CutAtlasModel" "treeNext" "[I") (List.mem_of_getElem? (i := 1) rfl)) (fun _ h9 => h9) rfl dB_3_2_30.2.2.2.2 ?_
                  refine lv_iload_n hx hb dB_3_2_31.1.1.1.1 rfl (lv_at hl 3 rfl) ?_
                  have h_26 : vp_in y_6 12 := in_I (by omega) (by omega)
                  refine va_iald hx hb hK.1 hP 6 0 rfl rfl (i := y_6) h_26 dB_3_2_31.1.1.1.2 ?_
                  refine lv_topi (fun y_27 ey_27 => ?_)
                  have e_ := (ey_27.trans ey_21.symm).symm
                  subst e_
                  skip
                  have h_28 : vp_in x1_3 12 := in_I (by omega) (by omega)
                  refine va_iast hx hb hK.1 hP hD hS 6 0 rfl rfl (i := x1_3) h_28 dB_3_2_31.1.1.2.1 (fun H locs hP hD hS => ?_)
                  obtain ⟨f_29, ef_29⟩ : ∃ g : Nat → Int32, g = upd c_g32_16 x1_3.toNatClampNeg y_21 := ⟨_, rfl⟩
                  refine pd_K (D := D) (cl := vwCl) (H := H) (A := A) [ob12_0_ mo s0 s1 t2 s3 s4 g5 g6 g7 g8 g9 g10 s11 g12 g13 g14 g15 g16 g17 g18 g19 g20 s21 g22 g23 g24 n25_9 n26_10 n27_11 n28_12 g29 g30 g31 g32 g33, ai_ cy g5 40 f5, ai_ cy g6 40 f6, ai_ cy g7 40 f7, ai_ cy g8 40 f8, az_ cy g10 40 f10, ai_ cy g32 12 f_29, ai_ cy g33 12 f_14] (by rw [ef_29]; exact hP) (by rw [ef_29]; exact hD) (fun hP hD => ?_)
                  have rf_29 : rng f_29 12 (0) (11) := by rw [ef_29]; exact rng_upd rc_g32_16 (by omega) (by omega)
                  refine lv_aload_n hx hb dB_3_2_31.1.1.2.2 rfl (lv_at hl 5 rfl) ?_
                  refine va_get (ci := 12) (v := .ref g33) (C := RX12) (T := TX12) (N := 34) hx hb hts (fun _ h => List.mem_cons_of_mem _ (List.mem_append_right _ h)) hown hK.1 hP 0 rfl rfl 33 (by decide) (hts (.fieldLink RX12 82 "CutAtlasModel" "treeNumber" "[I") (List.mem_of_getElem? (i := 2) rfl)) (fun _ h9 => h9) rfl dB_3_2_31.1.2.1.1 ?_
                  refine lv_iload_n hx hb dB_3_2_31.1.2.1.2 rfl (lv_at hl 4 rfl) ?_
                  refine lv_aload_n hx hb dB_3_2_31.1.2.2.1 rfl (lv_at hl 5 rfl) ?_
                  refine va_get (ci := 12) (v := .ref g33) (C := RX12) (T := TX12) (N := 34) hx hb hts (fun _ h => List.mem_cons_of_mem _ (List.mem_append_right _ h)) hown hK.1 hP 0 rfl rfl 33 (by decide) (hts (.fieldLink RX12 82 "CutAtlasModel" "treeNumber" "[I") (List.mem_of_getElem? (i := 2) rfl)) (fun _ h9 => h9) rfl dB_3_2_31.1.2.2.2 ?_
                  refine lv_iload_n hx hb dB_3_2_31.2.1.1.1 rfl (lv_at hl 3 rfl) ?_
                  have h_30 : vp_in y_6 12 := in_I (by omega) (by omega)
                  refine va_iald hx hb hK.1 hP 7 0 rfl rfl (i := y_6) h_30 dB_3_2_31.2.1.1.2 ?_
                  refine lv_topi (fun y_31 ey_31 => ?_)
                  have h_32 : vp_in x1_3 12 := in_I (by omega) (by omega)
                  refine va_iast hx hb hK.1 hP hD hS 7 0 rfl rfl (i := x1_3) h_32 dB_3_2_31.2.1.2.1 (fun H locs hP hD hS => ?_)
                  obtain ⟨f_33, ef_33⟩ : ∃ g : Nat → Int32, g = upd f_14 x1_3.toNatClampNeg y_31 := ⟨_, rfl⟩
                  refine pd_K (D := D) (cl := vwCl) (H := H) (A := A) [ob12_0_ mo s0 s1 t2 s3 s4 g5 g6 g7 g8 g9 g10 s11 g12 g13 g14 g15 g16 g17 g18 g19 g20 s21 g22 g23 g24 n25_9 n26_10 n27_11 n28_12 g29 g30 g31 g32 g33, ai_ cy g5 40 f5, ai_ cy g6 40 f6, ai_ cy g7 40 f7, ai_ cy g8 40 f8, az_ cy g10 40 f10, ai_ cy g32 12 f_29, ai_ cy g33 12 f_33] (by rw [ef_33]; exact hP) (by rw [ef_33]; exact hD) (fun hP hD => ?_)
                  refine lv_aload_n hx hb dB_3_2_31.2.1.2.2 rfl (lv_at hl 5 rfl) ?_
                  refine va_get (ci := 12) (v := .ref g32) (C := RX12) (T := TX12) (N := 34) hx hb hts (fun _ h => List.mem_cons_of_mem _ (List.mem_append_right _ h)) hown hK.1 hP 0 rfl rfl 32 (by decide) (hts (.fieldLink RX12 79 "CutAtlasModel" "treeNext" "[I") (List.mem_of_getElem? (i := 1) rfl)) (fun _ h9 => h9) rfl dB_3_2_31.2.2.1.1 ?_
                  refine lv_iload_n hx hb dB_3_2_31.2.2.1.2 rfl (lv_at hl 3 rfl) ?_
                  refine lv_iload_n hx hb dB_3_2_31.2.2.2.1 rfl (lv_at hl 4 rfl) ?_
                  have h_34 : vp_in y_6 12 := in_I (by omega) (by omega)
                  refine va_iast hx hb hK.1 hP hD hS 6 0 rfl rfl (i := y_6) h_34 dB_3_2_31.2.2.2.2 (fun H locs hP hD hS => ?_)
                  obtain ⟨f_35, ef_35⟩ : ∃ g : Nat → Int32, g = upd f_29 y_6.toNatClampNeg x1_3 := ⟨_, rfl⟩
                  refine pd_K (D := D) (cl := vwCl) (H := H) (A := A) [ob12_0_ mo s0 s1 t2 s3 s4 g5 g6 g7 g8 g9 g10 s11 g12 g13 g14 g15 g16 g17 g18 g19 g20 s21 g22 g23 g24 n25_9 n26_10 n27_11 n28_12 g29 g30 g31 g32 g33, ai_ cy g5 40 f5, ai_ cy g6 40 f6, ai_ cy g7 40 f7, ai_ cy g8 40 f8, az_ cy g10 40 f10, ai_ cy g32 12 f_35, ai_ cy g33 12 f_33] (by rw [ef_35]; exact hP) (by rw [ef_35]; exact hD) (fun hP hD => ?_)
                  have rf_35 : rng f_35 12 (0) (11) := by rw [ef_35]; exact rng_upd rf_29 (by omega) (by omega)
                  refine lv_aload_n hx hb dB_3_2_32.1.1.1.1 rfl (lv_at hl 5 rfl) ?_
                  refine va_get (ci := 12) (v := .ref g33) (C := RX12) (T := TX12) (N := 34) hx hb hts (fun _ h => List.mem_cons_of_mem _ (List.mem_append_right _ h)) hown hK.1 hP 0 rfl rfl 33 (by decide) (hts (.fieldLink RX12 82 "CutAtlasModel" "treeNumber" "[I") (List.mem_of_getElem? (i := 2) rfl)) (fun _ h9 => h9) rfl dB_3_2_32.1.1.1.2 ?_
                  refine lv_iload_n hx hb dB_3_2_32.1.1.2.1 rfl (lv_at hl 3 rfl) ?_
                  refine lv_iload_n hx hb dB_3_2_32.1.1.2.2 rfl (lv_at hl 2 rfl) ?_
                  have h_36 : vp_in y_6 12 := in_I (by omega) (by omega)
                  refine va_iast hx hb hK.1 hP hD hS 7 0 rfl rfl (i := y_6) h_36 dB_3_2_32.1.2.1.1 (fun H locs hP hD hS => ?_)
                  obtain ⟨f_37, ef_37⟩ : ∃ g : Nat → Int32, g = upd f_33 y_6.toNatClampNeg r_7 := ⟨_, rfl⟩
                  refine pd_K (D := D) (cl := vwCl) (H := H) (A := A) [ob12_0_ mo s0 s1 t2 s3 s4 g5 g6 g7 g8 g9 g10 s11 g12 g13 g14 g15 g16 g17 g18 g19 g20 s21 g22 g23 g24 n25_9 n26_10 n27_11 n28_12 g29 g30 g31 g32 g33, ai_ cy g5 40 f5, ai_ cy g6 40 f6, ai_ cy g7 40 f7, ai_ cy g8 40 f8, az_ cy g10 40 f10, ai_ cy g32 12 f_35, ai_ cy g33 12 f_37] (by rw [ef_37]; exact hP) (by rw [ef_37]; exact hD) (fun hP hD => ?_)
                  obtain ⟨y_38, ey_38⟩ : ∃ y : Int32, y = x1_3 + 1 := ⟨_, rfl⟩
                  have ty_38 : y_38.toInt = x1_3.toInt + (1 : Int32).toInt := by rw [ey_38]; exact addI (by omega) (by omega)
                  refine lv_iinc (v := y_38) (lv' := [(1, .int y_38), (5, .int x5_16), (4, .int n26_10), (3, .int r_7), (2, .int y_6), (0, .ref mo)]) hx hb dB_3_2_32.1.2.1.2 hl (k := 4) rfl (by rw [ey_38]; rfl) (by decide) rfl (fun ls hl => ?_)
                  refine lv_goto (tgt := 31) hx hb dB_3_2_32.1.2.2.1 (by decide) ?_
                  exact ih_3 y_38 n25_9 n26_10 n27_11 n28_12 f_35 f_37 _ _ _ (by omega) (by first | with_reducible assumption | omega | assumption) (by first | with_reducible assumption | omega | assumption) (by first | with_reducible assumption | assumption | exact rng_zero (by omega) (by omega) | exact orng_zero) ⟨hP, hD⟩ hS (lv_sub hl [0, 5] rfl)
            · have t_17 : ¬ s3.toInt ≤ x5_16.toInt := fun h => c_17 (Int32.le_iff_toInt_le.mpr h)
              refine lv_aload_n hx hb dB_3_2_28.1.2.2.1 rfl (lv_at hl 5 rfl) ?_
              refine va_get (ci := 12) (v := .ref g32) (C := RX12) (T := TX12) (N := 34) hx hb hts (fun _ h => List.mem_cons_of_mem _ (List.mem_append_right _ h)) hown hK.1 hP 0 rfl rfl 32 (by decide) (hts (.fieldLink RX12 79 "CutAtlasModel" "treeNext" "[I") (List.mem_of_getElem? (i := 1) rfl)) (fun _ h9 => h9) rfl dB_3_2_28.1.2.2.2 ?_
              refine lv_iload hx hb dB_3_2_28.2.1.1.1 (lv_at hl 0 rfl) ?_
              refine lv_iload hx hb dB_3_2_28.2.1.1.2 (lv_at hl 1 rfl) ?_
              refine lv_iload hx hb dB_3_2_28.2.1.2.1 (lv_at hl 0 rfl) ?_
              refine lv_ishr hx hb dB_3_2_28.2.1.2.2 ?_
              refine lv_topi (fun y_39 ey_39 => ?_)
              refine lv_iconst (v := 1) hx hb dB_3_2_28.2.2.1.1 (by decide) ?_
              refine lv_iand hx hb dB_3_2_28.2.2.1.2 ?_
              refine lv_topi (fun y_40 ey_40 => ?_)
              refine lv_iconst (v := 1) hx hb dB_3_2_28.2.2.2.1 (by decide) ?_
              refine lv_icmp_ne (tgt := 120) hx hb dB_3_2_28.2.2.2.2 (by decide) (fun c_41 => ?_) (fun c_41 => ?_)
              · have t_41 : ¬ y_40.toInt = (1 : Int32).toInt := fun h => c_41 (Int32.toInt_inj.mp h)
                refine lv_aload_n hx hb dB_3_2_29.2.1.1.1 rfl (lv_at hl 5 rfl) ?_
                refine va_get (ci := 12) (v := .ref g32) (C := RX12) (T := TX12) (N := 34) hx hb hts (fun _ h => List.mem_cons_of_mem _ (List.mem_append_right _ h)) hown hK.1 hP 0 rfl rfl 32 (by decide) (hts (.fieldLink RX12 79 "CutAtlasModel" "treeNext" "[I") (List.mem_of_getElem? (i := 1) rfl)) (fun _ h9 => h9) rfl dB_3_2_29.2.1.1.2 ?_
                refine lv_iload hx hb dB_3_2_29.2.1.2.1 (lv_at hl 0 rfl) ?_
                have h_42 : vp_in x5_16 12 := in_I (by omega) (by omega)
                refine va_iald hx hb hK.1 hP 6 0 rfl rfl (i := x5_16) h_42 dB_3_2_29.2.1.2.2 ?_
                refine lv_topi (fun y_43 ey_43 => ?_)
                have ry_43 : 0 ≤ y_43.toInt ∧ y_43.toInt ≤ 11 := by rw [ey_43]; exact rc_g32_16 _ (in_lt h_42)
                have h_44 : vp_in x5_16 12 := in_I (by omega) (by omega)
                refine va_iast hx hb hK.1 hP hD hS 6 0 rfl rfl (i := x5_16) h_44 dB_3_2_29.2.2.1.1 (fun H locs hP hD hS => ?_)
                obtain ⟨f_45, ef_45⟩ : ∃ g : Nat → Int32, g = upd c_g32_16 x5_16.toNatClampNeg y_43 := ⟨_, rfl⟩
                refine pd_K (D := D) (cl := vwCl) (H := H) (A := A) [ob12_0_ mo s0 s1 t2 s3 s4 g5 g6 g7 g8 g9 g10 s11 g12 g13 g14 g15 g16 g17 g18 g19 g20 s21 g22 g23 g24 n25_9 n26_10 n27_11 n28_12 g29 g30 g31 g32 g33, ai_ cy g5 40 f5, ai_ cy g6 40 f6, ai_ cy g7 40 f7, ai_ cy g8 40 f8, az_ cy g10 40 f10, ai_ cy g32 12 f_45, ai_ cy g33 12 f_14] (by rw [ef_45]; exact hP) (by rw [ef_45]; exact hD) (fun hP hD => ?_)
                have rf_45 : rng f_45 12 (0) (11) := by rw [ef_45]; exact rng_upd rc_g32_16 (by omega) (by omega)
                obtain ⟨y_46, ey_46⟩ : ∃ y : Int32, y = x5_16 + 1 := ⟨_, rfl⟩
                have ty_46 : y_46.toInt = x5_16.toInt + (1 : Int32).toInt := by rw [ey_46]; exact addI (by omega) (by omega)
                refine lv_iinc (v := y_46) (lv' := [(5, .int y_46), (4, .int n26_10), (3, .int r_7), (2, .int y_6), (1, .int x1_3), (0, .ref mo)]) hx hb dB_3_2_29.2.2.1.2 hl (k := 0) rfl (by rw [ey_46]; rfl) (by decide) rfl (fun ls hl => ?_)
                refine lv_goto (tgt := 79) hx hb dB_3_2_29.2.2.2.1 (by decide) ?_
                exact ih_16 y_46 f_45 _ _ _ (by omega) (by first | with_reducible assumption | omega | assumption) (by first | with_reducible assumption | omega | assumption) (by first | with_reducible assumption | assumption | exact rng_zero (by omega) (by omega) | exact orng_zero) ⟨hP, hD⟩ hS (lv_sub hl [0, 1, 2, 3, 4, 5] rfl)
              · have t_41 : y_40.toInt = (1 : Int32).toInt := congrArg Int32.toInt c_41
                refine lv_aload_n hx hb dB_3_2_29.1.1.1.1 rfl (lv_at hl 5 rfl) ?_
                refine va_get (ci := 12) (v := .ref g32) (C := RX12) (T := TX12) (N := 34) hx hb hts (fun _ h => List.mem_cons_of_mem _ (List.mem_append_right _ h)) hown hK.1 hP 0 rfl rfl 32 (by decide) (hts (.fieldLink RX12 79 "CutAtlasModel" "treeNext" "[I") (List.mem_of_getElem? (i := 1) rfl)) (fun _ h9 => h9) rfl dB_3_2_29.1.1.1.2 ?_
                refine lv_iload hx hb dB_3_2_29.1.1.2.1 (lv_at hl 0 rfl) ?_
                have h_47 : vp_in x5_16 12 := in_I (by omega) (by omega)
                refine va_iald hx hb hK.1 hP 6 0 rfl rfl (i := x5_16) h_47 dB_3_2_29.1.1.2.2 ?_
                refine lv_topi (fun y_48 ey_48 => ?_)
                have ry_48 : 0 ≤ y_48.toInt ∧ y_48.toInt ≤ 11 := by rw [ey_48]; exact rc_g32_16 _ (in_lt h_47)
                refine lv_iload_n hx hb dB_3_2_29.1.2.1.1 rfl (lv_at hl 3 rfl) ?_
                refine lv_icmp_ne (tgt := 120) hx hb dB_3_2_29.1.2.1.2 (by decide) (fun c_49 => ?_) (fun c_49 => ?_)
                · have t_49 : ¬ y_48.toInt = y_6.toInt := fun h => c_49 (Int32.toInt_inj.mp h)
                  refine lv_aload_n hx hb dB_3_2_29.2.1.1.1 rfl (lv_at hl 5 rfl) ?_
                  refine va_get (ci := 12) (v := .ref g32) (C := RX12) (T := TX12) (N := 34) hx hb hts (fun _ h => List.mem_cons_of_mem _ (List.mem_append_right _ h)) hown hK.1 hP 0 rfl rfl 32 (by decide) (hts (.fieldLink RX12 79 "CutAtlasModel" "treeNext" "[I") (List.mem_of_getElem? (i := 1) rfl)) (fun _ h9 => h9) rfl dB_3_2_29.2.1.1.2 ?_
                  refine lv_iload hx hb dB_3_2_29.2.1.2.1 (lv_at hl 0 rfl) ?_
                  have h_50 : vp_in x5_16 12 := in_I (by omega) (by omega)
                  refine va_iald hx hb hK.1 hP 6 0 rfl rfl (i := x5_16) h_50 dB_3_2_29.2.1.2.2 ?_
                  refine lv_topi (fun y_51 ey_51 => ?_)
                  have e_ := (ey_51.trans ey_48.symm).symm
                  subst e_
                  skip
                  have h_52 : vp_in x5_16 12 := in_I (by omega) (by omega)
                  refine va_iast hx hb hK.1 hP hD hS 6 0 rfl rfl (i := x5_16) h_52 dB_3_2_29.2.2.1.1 (fun H locs hP hD hS => ?_)
                  obtain ⟨f_53, ef_53⟩ : ∃ g : Nat → Int32, g = upd c_g32_16 x5_16.toNatClampNeg y_48 := ⟨_, rfl⟩
                  refine pd_K (D := D) (cl := vwCl) (H := H) (A := A) [ob12_0_ mo s0 s1 t2 s3 s4 g5 g6 g7 g8 g9 g10 s11 g12 g13 g14 g15 g16 g17 g18 g19 g20 s21 g22 g23 g24 n25_9 n26_10 n27_11 n28_12 g29 g30 g31 g32 g33, ai_ cy g5 40 f5, ai_ cy g6 40 f6, ai_ cy g7 40 f7, ai_ cy g8 40 f8, az_ cy g10 40 f10, ai_ cy g32 12 f_53, ai_ cy g33 12 f_14] (by rw [ef_53]; exact hP) (by rw [ef_53]; exact hD) (fun hP hD => ?_)
                  have rf_53 : rng f_53 12 (0) (11) := by rw [ef_53]; exact rng_upd rc_g32_16 (by omega) (by omega)
                  obtain ⟨y_54, ey_54⟩ : ∃ y : Int32, y = x5_16 + 1 := ⟨_, rfl⟩
                  have ty_54 : y_54.toInt = x5_16.toInt + (1 : Int32).toInt := by rw [ey_54]; exact addI (by omega) (by omega)
                  refine lv_iinc (v := y_54) (lv' := [(5, .int y_54), (4, .int n26_10), (3, .int r_7), (2, .int y_6), (1, .int x1_3), (0, .ref mo)]) hx hb dB_3_2_29.2.2.1.2 hl (k := 0) rfl (by rw [ey_54]; rfl) (by decide) rfl (fun ls hl => ?_)
                  refine lv_goto (tgt := 79) hx hb dB_3_2_29.2.2.2.1 (by decide) ?_
                  exact ih_16 y_54 f_53 _ _ _ (by omega) (by first | with_reducible assumption | omega | assumption) (by first | with_reducible assumption | omega | assumption) (by first | with_reducible assumption | assumption | exact rng_zero (by omega) (by omega) | exact orng_zero) ⟨hP, hD⟩ hS (lv_sub hl [0, 1, 2, 3, 4, 5] rfl)
                · have t_49 : y_48.toInt = y_6.toInt := congrArg Int32.toInt c_49
                  refine lv_iload_n hx hb dB_3_2_29.1.2.2.1 rfl (lv_at hl 4 rfl) ?_
                  refine lv_goto (tgt := 127) hx hb dB_3_2_29.1.2.2.2 (by decide) ?_
                  have h_55 : vp_in x5_16 12 := in_I (by omega) (by omega)
                  refine va_iast hx hb hK.1 hP hD hS 6 0 rfl rfl (i := x5_16) h_55 dB_3_2_29.2.2.1.1 (fun H locs hP hD hS => ?_)
                  obtain ⟨f_56, ef_56⟩ : ∃ g : Nat → Int32, g = upd c_g32_16 x5_16.toNatClampNeg x1_3 := ⟨_, rfl⟩
                  refine pd_K (D := D) (cl := vwCl) (H := H) (A := A) [ob12_0_ mo s0 s1 t2 s3 s4 g5 g6 g7 g8 g9 g10 s11 g12 g13 g14 g15 g16 g17 g18 g19 g20 s21 g22 g23 g24 n25_9 n26_10 n27_11 n28_12 g29 g30 g31 g32 g33, ai_ cy g5 40 f5, ai_ cy g6 40 f6, ai_ cy g7 40 f7, ai_ cy g8 40 f8, az_ cy g10 40 f10, ai_ cy g32 12 f_56, ai_ cy g33 12 f_14] (by rw [ef_56]; exact hP) (by rw [ef_56]; exact hD) (fun hP hD => ?_)
                  have rf_56 : rng f_56 12 (0) (11) := by rw [ef_56]; exact rng_upd rc_g32_16 (by omega) (by omega)
                  obtain ⟨y_57, ey_57⟩ : ∃ y : Int32, y = x5_16 + 1 := ⟨_, rfl⟩
                  have ty_57 : y_57.toInt = x5_16.toInt + (1 : Int32).toInt := by rw [ey_57]; exact addI (by omega) (by omega)
                  refine lv_iinc (v := y_57) (lv' := [(5, .int y_57), (4, .int n26_10), (3, .int r_7), (2, .int y_6), (1, .int x1_3), (0, .ref mo)]) hx hb dB_3_2_29.2.2.1.2 hl (k := 0) rfl (by rw [ey_57]; rfl) (by decide) rfl (fun ls hl => ?_)
                  refine lv_goto (tgt := 79) hx hb dB_3_2_29.2.2.2.1 (by decide) ?_
                  exact ih_16 y_57 f_56 _ _ _ (by omega) (by first | with_reducible assumption | omega | assumption) (by first | with_reducible assumption | omega | assumption) (by first | with_reducible assumption | assumption | exact rng_zero (by omega) (by omega) | exact orng_zero) ⟨hP, hD⟩ hS (lv_sub hl [0, 1, 2, 3, 4, 5] rfl)
    · have t_2 : ¬ (12 : Int32).toInt ≤ x1_1.toInt := fun h => c_2 (Int32.le_iff_toInt_le.mpr h)
      refine lv_aload_n hx hb dB_3_2_25.1.2.1.1 rfl (lv_at hl 1 rfl) ?_
      refine va_get (ci := 12) (v := .ref g32) (C := RX12) (T := TX12) (N := 34) hx hb hts (fun _ h => List.mem_cons_of_mem _ (List.mem_append_right _ h)) hown hK.1 hP 0 rfl rfl 32 (by decide) (hts (.fieldLink RX12 79 "CutAtlasModel" "treeNext" "[I") (List.mem_of_getElem? (i := 1) rfl)) (fun _ h9 => h9) rfl dB_3_2_25.1.2.1.2 ?_
      refine lv_iload_n hx hb dB_3_2_25.1.2.2.1 rfl (lv_at hl 0 rfl) ?_
      refine lv_iconst (v := 0) hx hb dB_3_2_25.1.2.2.2 (by decide) ?_
      have h_58 : vp_in x1_1 12 := in_I (by omega) (by omega)
      refine va_iast hx hb hK.1 hP hD hS 6 0 rfl rfl (i := x1_1) h_58 dB_3_2_25.2.1.1.1 (fun H locs hP hD hS => ?_)
      obtain ⟨f_59, ef_59⟩ : ∃ g : Nat → Int32, g = upd c_g32_1 x1_1.toNatClampNeg (0 : Int32) := ⟨_, rfl⟩
      refine pd_K (D := D) (cl := vwCl) (H := H) (A := A) [ob12_0_ mo s0 s1 t2 s3 s4 g5 g6 g7 g8 g9 g10 s11 g12 g13 g14 g15 g16 g17 g18 g19 g20 s21 g22 g23 g24 s25 s26 s27 s28 g29 g30 g31 g32 g33, ai_ cy g5 40 f5, ai_ cy g6 40 f6, ai_ cy g7 40 f7, ai_ cy g8 40 f8, az_ cy g10 40 f10, ai_ cy g32 12 f_59, ai_ cy g33 12 c_g33_1] (by rw [ef_59]; exact hP) (by rw [ef_59]; exact hD) (fun hP hD => ?_)
      have rf_59 : rng f_59 12 (0) (11) := by rw [ef_59]; exact rng_upd rc_g32_1 (by omega) (by omega)
      refine lv_aload_n hx hb dB_3_2_25.2.1.1.2 rfl (lv_at hl 1 rfl) ?_
      refine va_get (ci := 12) (v := .ref g33) (C := RX12) (T := TX12) (N := 34) hx hb hts (fun _ h => List.mem_cons_of_mem _ (List.mem_append_right _ h)) hown hK.1 hP 0 rfl rfl 33 (by decide) (hts (.fieldLink RX12 82 "CutAtlasModel" "treeNumber" "[I") (List.mem_of_getElem? (i := 2) rfl)) (fun _ h9 => h9) rfl dB_3_2_25.2.1.2.1 ?_
      refine lv_iload_n hx hb dB_3_2_25.2.1.2.2 rfl (lv_at hl 0 rfl) ?_
      refine lv_bipush (v := (-9)) hx hb dB_3_2_25.2.2.1.1 (by decide) ?_
      have h_60 : vp_in x1_1 12 := in_I (by omega) (by omega)
      refine va_iast hx hb hK.1 hP hD hS 7 0 rfl rfl (i := x1_1) h_60 dB_3_2_25.2.2.1.2 (fun H locs hP hD hS => ?_)
      obtain ⟨f_61, ef_61⟩ : ∃ g : Nat → Int32, g = upd c_g33_1 x1_1.toNatClampNeg ((-9) : Int32) := ⟨_, rfl⟩
      refine pd_K (D := D) (cl := vwCl) (H := H) (A := A) [ob12_0_ mo s0 s1 t2 s3 s4 g5 g6 g7 g8 g9 g10 s11 g12 g13 g14 g15 g16 g17 g18 g19 g20 s21 g22 g23 g24 s25 s26 s27 s28 g29 g30 g31 g32 g33, ai_ cy g5 40 f5, ai_ cy g6 40 f6, ai_ cy g7 40 f7, ai_ cy g8 40 f8, az_ cy g10 40 f10, ai_ cy g32 12 f_59, ai_ cy g33 12 f_61] (by rw [ef_61]; exact hP) (by rw [ef_61]; exact hD) (fun hP hD => ?_)
      obtain ⟨y_62, ey_62⟩ : ∃ y : Int32, y = x1_1 + 1 := ⟨_, rfl⟩
      have ty_62 : y_62.toInt = x1_1.toInt + (1 : Int32).toInt := by rw [ey_62]; exact addI (by omega) (by omega)
      refine lv_iinc (v := y_62) (lv' := [(1, .int y_62), (0, .ref mo)]) hx hb dB_3_2_25.2.2.2.1 hl (k := 0) rfl (by rw [ey_62]; rfl) (by decide) rfl (fun ls hl => ?_)
      refine lv_goto (tgt := 2) hx hb dB_3_2_25.2.2.2.2 (by decide) ?_
      exact ih_1 y_62 f_59 f_61 _ _ _ (by omega) (by first | with_reducible assumption | omega | assumption) (by first | with_reducible assumption | omega | assumption) (by first | with_reducible assumption | assumption | exact rng_zero (by omega) (by omega) | exact orng_zero) ⟨hP, hD⟩ hS (lv_sub hl [0, 1] rfl)

set_option maxHeartbeats 4000000 in
set_option maxRecDepth 100000 in
theorem c_X12_tree (l : Launch) (D : va_G) (cy : Nat → ClassId) (sz : Nat) (mo : Nat) (g5 : Nat) (g6 : Nat) (g7 : Nat) (g8 : Nat) (g9 : Nat) (g10 : Nat) (g12 : Nat) (g13 : Nat) (g14 : Nat) (g15 : Nat) (g16 : Nat) (g17 : Nat) (g18 : Nat) (g19 : Nat) (g20 : Nat) (g22 : Nat) (g23 : Nat) (g24 : Nat) (g29 : Nat) (g30 : Nat) (g31 : Nat) (g32 : Nat) (g33 : Nat) (s0 : Int32) (s1 : Int32) (s3 : Int32) (s4 : Int32) (s11 : Int32) (s21 : Int32) (s25 : Int32) (s26 : Int32) (s27 : Int32) (s28 : Int32) (t2 : Int64) (f5 : Nat → Int32) (f6 : Nat → Int32) (f7 : Nat → Int32) (f8 : Nat → Int32) (f10 : Nat → Int32) (f32 : Nat → Int32) (f33 : Nat → Int32) (a1 : Int32) (a2 : Int32) (hN : 0 ≤ s4.toInt ∧ s4.toInt ≤ 40) (hPl : 0 ≤ s3.toInt ∧ s3.toInt ≤ 12) (r_f32 : rng f32 12 (0) (11)) : Met l yX12_tree wsX12_tree ({ frames := 5, cells := 0, slots := 0, locals := 121 }) (va_Pc [.ref mo, .int a1, .int a2] (fun U => U.heap.size = sz ∧ va_P D vwCl [ob12_0_ mo s0 s1 t2 s3 s4 g5 g6 g7 g8 g9 g10 s11 g12 g13 g14 g15 g16 g17 g18 g19 g20 s21 g22 g23 g24 s25 s26 s27 s28 g29 g30 g31 g32 g33, ai_ cy g5 40 f5, ai_ cy g6 40 f6, ai_ cy g7 40 f7, ai_ cy g8 40 f8, az_ cy g10 40 f10, ai_ cy g32 12 f32, ai_ cy g33 12 f33] U.heap ∧ kk_ D cy U ∧ va_D (fun _ => True) [ob12_0_ mo s0 s1 t2 s3 s4 g5 g6 g7 g8 g9 g10 s11 g12 g13 g14 g15 g16 g17 g18 g19 g20 s21 g22 g23 g24 s25 s26 s27 s28 g29 g30 g31 g32 g33, ai_ cy g5 40 f5, ai_ cy g6 40 f6, ai_ cy g7 40 f7, ai_ cy g8 40 f8, az_ cy g10 40 f10, ai_ cy g32 12 f32, ai_ cy g33 12 f33])) (va_Qi (fun (r : Int32) (_ : Unit) => True) (fun (_ : Unit) (t : State) => ∃ (n25 : Int32), ∃ (n26 : Int32), ∃ (n27 : Int32), ∃ (n28 : Int32), ∃ (e32 : Nat → Int32), ∃ (e33 : Nat → Int32), (rng e32 12 (0) (11)) ∧ va_P D vwCl [ob12_0_ mo 0 s1 t2 s3 s4 g5 g6 g7 g8 g9 g10 s11 g12 g13 g14 g15 g16 g17 g18 g19 g20 s21 g22 g23 g24 n25 n26 n27 n28 g29 g30 g31 g32 g33, ai_ cy g5 40 f5, ai_ cy g6 40 f6, ai_ cy g7 40 f7, ai_ cy g8 40 f8, az_ cy g10 40 f10, ai_ cy g32 12 e32, ai_ cy g33 12 e33] t.heap ∧ va_D (va_A [ob12_0_ mo s0 s1 t2 s3 s4 g5 g6 g7 g8 g9 g10 s11 g12 g13 g14 g15 g16 g17 g18 g19 g20 s21 g22 g23 g24 s25 s26 s27 s28 g29 g30 g31 g32 g33, ai_ cy g5 40 f5, ai_ cy g6 40 f6, ai_ cy g7 40 f7, ai_ cy g8 40 f8, az_ cy g10 40 f10, ai_ cy g32 12 f32, ai_ cy g33 12 f33] sz) [ob12_0_ mo 0 s1 t2 s3 s4 g5 g6 g7 g8 g9 g10 s11 g12 g13 g14 g15 g16 g17 g18 g19 g20 s21 g22 g23 g24 n25 n26 n27 n28 g29 g30 g31 g32 g33, ai_ cy g5 40 f5, ai_ cy g6 40 f6, ai_ cy g7 40 f7, ai_ cy g8 40 f8, az_ cy g10 40 f10, ai_ cy g32 12 e32, ai_ cy g33 12 e33]) (va_A [ob12_0_ mo s0 s1 t2 s3 s4 g5 g6 g7 g8 g9 g10 s11 g12 g13 g14 g15 g16 g17 g18 g19 g20 s21 g22 g23 g24 s25 s26 s27 s28 g29 g30 g31 g32 g33, ai_ cy g5 40 f5, ai_ cy g6 40 f6, ai_ cy g7 40 f7, ai_ cy g8 40 f8, az_ cy g10 40 f10, ai_ cy g32 12 f32, ai_ cy g33 12 f33] sz)) 0 0 (va_A [ob12_0_ mo s0 s1 t2 s3 s4 g5 g6 g7 g8 g9 g10 s11 g12 g13 g14 g15 g16 g17 g18 g19 g20 s21 g22 g23 g24 s25 s26 s27 s28 g29 g30 g31 g32 g33, ai_ cy g5 40 f5, ai_ cy g6 40 f6, ai_ cy g7 40 f7, ai_ cy g8 40 f8, az_ cy g10 40 f10, ai_ cy g32 12 f32, ai_ cy g33 12 f33] sz) := by
  refine ofQ (cc := cX12_tree) (maxL := 3) (ret := (some .int)) (by decide) rfl ?_
  intro p e s m args below meth c s₁ Q hQ B hml hv
  obtain ⟨rfl, hsz, hP, hK, hD0⟩ := hv
  have hx := B.exec
  have hb := B.bytes
  have hr := B.returns
  have hts := atoms_spec (ws := wsX12_tree) B.pre
  have hown : s.vm.findClass RX12 = some m.cls := by have h_ := findClass_of_methodNamed B.named; exact h_
  have hlocks := B.notSynchronized
  subst hsz
  have hD := hD0.self (sz := s.heap.size)
  generalize hAe : va_A [ob12_0_ mo s0 s1 t2 s3 s4 g5 g6 g7 g8 g9 g10 s11 g12 g13 g14 g15 g16 g17 g18 g19 g20 s21 g22 g23 g24 s25 s26 s27 s28 g29 g30 g31 g32 g33, ai_ cy g5 40 f5, ai_ cy g6 40 f6, ai_ cy g7 40 f7, ai_ cy g8 40 f8, az_ cy g10 40 f10, ai_ cy g32 12 f32, ai_ cy g33 12 f33] s.heap.size = A at hD hQ
  have hA : ∀ q : Nat, s.heap.size ≤ q → A q := fun q h => by rw [← hAe]; exact Or.inr h
  have hS : va_S A s.heap s.heap [] := va_S.rf
  have hl := lv_entry ([.ref mo, .int a1, .int a2]) (n := 3) (Nat.le_of_ble_eq_true rfl)
  rw [lg_entry_eq]
  generalize (lg_sl ([.ref mo, .int a1, .int a2]) ++ List.replicate (3 - (lg_sl ([.ref mo, .int a1, .int a2])).length) Slot.unset).toArray = ls at hl ⊢
  have hl : lv_has ls 3 [(0, .ref mo), (1, .int a1), (2, .int a2)] := hl
  have zm9 : ((-9) : Int32).toInt = -9 := by decide
  have zm2 : ((-2) : Int32).toInt = -2 := by decide
  have zm1 : ((-1) : Int32).toInt = -1 := by decide
  have z0 : (0 : Int32).toInt = 0 := by decide
  have zl0 : (0 : Int64).toInt = 0 := by decide
  have zl1 : (1 : Int64).toInt = 1 := by decide
  refine lv_aload_n hx hb dB_3_2_32.2.1.1.1 rfl (lv_at hl 0 rfl) ?_
  refine lv_iconst (v := 0) hx hb dB_3_2_32.2.1.1.2 (by decide) ?_
  refine va_put (ci := 12) (v := .int 0) (ty := .int) (C := RX12) (T := TX12) (N := 34) hx hb hts (fun _ h => List.mem_cons_of_mem _ (List.mem_append_right _ h)) tyX12 tyX12_ok nmX12 hown hK.1 hP hD hS 0 rfl rfl 0 (by decide) (hts (.fieldLink RX12 85 "CutAtlasModel" "thrown" "I") (List.mem_of_getElem? (i := 1) rfl)) (fun _ h9 => h9) rfl (by decide +kernel) rfl rfl (Nat.le_of_ble_eq_true rfl) dB_3_2_32.2.1.2.1 (fun H locs hP hD hS => ?_)
  refine pd_K [ob12_0_ mo 0 s1 t2 s3 s4 g5 g6 g7 g8 g9 g10 s11 g12 g13 g14 g15 g16 g17 g18 g19 g20 s21 g22 g23 g24 s25 s26 s27 s28 g29 g30 g31 g32 g33, ai_ cy g5 40 f5, ai_ cy g6 40 f6, ai_ cy g7 40 f7, ai_ cy g8 40 f8, az_ cy g10 40 f10, ai_ cy g32 12 f32, ai_ cy g33 12 f33] hP hD (fun hP hD => ?_)
  refine lv_iload_n hx hb dB_3_2_32.2.1.2.2 rfl (lv_at hl 2 rfl) ?_
  refine lv_i2l (v := a2.toInt64) hx hb dB_3_2_32.2.2.1.1 rfl ?_
  have q_6 : (a2.toInt64).toInt = a2.toInt := Int32.toInt_toInt64 a2
  refine lv_lconst (v := 0) hx hb dB_3_2_32.2.2.1.2 (by decide) ?_
  refine lv_lconst (v := 1) hx hb dB_3_2_32.2.2.2.1 (by decide) ?_
  refine ct_R hP hD [] [] (by decide) rfl (fun hPc hDw => ?_)
  have hFc := va_free (wc := []) hD hS hA [] rfl
  refine va_calli (va_runS (As := [.long a2.toInt64, .long 0, .long 1]) (rest := []) ⟨hx, hb, hml, hown, hts⟩ (c_X12_in l D cy H.size a2.toInt64 (0 : Int64) (1 : Int64)) (va_cwS 3 hts gX12_tree_X12_in rfl rfl rfl hd_X12_in ⟨Nat.le_of_ble_eq_true rfl, Nat.le_of_ble_eq_true rfl⟩) ⟨bl_, fun U hU hW => ⟨rfl, by rw [hU], by rw [hU]; exact hPc, kk_mv hW hK, hDw⟩⟩ rfl rfl hl.1 rfl (lv_room (Nat.le_of_ble_eq_true rfl)) dB_3_2_32.2.2.2.2 ⟨Nat.le_of_ble_eq_true rfl, Nat.le_of_ble_eq_true rfl⟩) hS (fun q _ h => hFc q h) hFc (fun r_1 u t H locs ht hvm hw hB hz1 hk1 hS => ?_)
  have hP : va_P D vwCl _ H := ro_keep hP hk1
  rcases hw with ⟨w_2, e_⟩ | ⟨w_2, e_⟩
  · have e_ := e_.symm
    subst e_
    refine lv_if_ne (tgt := 17) hx hb dB_3_2_33.1.1.1.1 (by decide) (fun c_3 => ?_) (fun c_3 => ?_)
    · have _ := c_3
      refine lv_aload_n hx hb dB_3_2_33.1.1.2.2 rfl (lv_at hl 0 rfl) ?_
      refine ct_R hP hD [ob12_0_ mo 0 s1 t2 s3 s4 g5 g6 g7 g8 g9 g10 s11 g12 g13 g14 g15 g16 g17 g18 g19 g20 s21 g22 g23 g24 s25 s26 s27 s28 g29 g30 g31 g32 g33, ai_ cy g5 40 f5, az_ cy g10 40 f10] [0, 1, 5] (by decide) rfl (fun hPc hDw => ?_)
      have hFc := va_free (wc := []) hD hS hA [] rfl
      refine va_calli (va_runV (As := []) (rest := []) ⟨hx, hb, hml, hown, hts⟩ (c_X12_isWhole l D cy H.size mo g5 g6 g7 g8 g9 g10 g12 g13 g14 g15 g16 g17 g18 g19 g20 g22 g23 g24 g29 g30 g31 g32 g33 (0 : Int32) s1 s3 s4 s11 s21 s25 s26 s27 s28 t2 f5 f10 (by first | with_reducible assumption | omega | assumption)) (cwV 0 hts gX12_tree_X12_isWhole rfl rfl rfl ⟨rfl, hd_X12_isWhole⟩ ⟨Nat.le_of_ble_eq_true rfl, Nat.le_of_ble_eq_true rfl⟩) ⟨bl_, va_recvX hK.1 hP (ci := 12) (q0 := 0) rfl rfl, fun U hU hW => ⟨rfl, by rw [hU], by rw [hU]; exact hPc, kk_mv hW hK, hDw⟩⟩ rfl rfl hl.1 rfl (lv_room (Nat.le_of_ble_eq_true rfl)) dB_3_2_33.1.2.1.1 ⟨Nat.le_of_ble_eq_true rfl, Nat.le_of_ble_eq_true rfl⟩) hS (fun q _ h => hFc q h) hFc (fun r_4 u t H locs ht hvm hw hB hz1 hk1 hS => ?_)
      have hP : va_P D vwCl _ H := ro_keep hP hk1
      have f0_r_4 := hw
      refine lv_if_ne (tgt := 27) hx hb dB_3_2_33.1.2.1.2 (by decide) (fun c_5 => ?_) (fun c_5 => ?_)
      · have t_5 : ¬ r_4.toInt = (0 : Int32).toInt := fun h => c_5 (Int32.toInt_inj.mp h)
        refine lv_aload_n hx hb dB_3_2_33.2.1.1.1 rfl (lv_at hl 0 rfl) ?_
        refine lv_iload_n hx hb dB_3_2_33.2.1.1.2 rfl (lv_at hl 1 rfl) ?_
        refine ct_R hP hD [ob12_0_ mo 0 s1 t2 s3 s4 g5 g6 g7 g8 g9 g10 s11 g12 g13 g14 g15 g16 g17 g18 g19 g20 s21 g22 g23 g24 s25 s26 s27 s28 g29 g30 g31 g32 g33] [0] (by decide) rfl (fun hPc hDw => ?_)
        have hFc := va_free (wc := []) hD hS hA [] rfl
        refine va_calli (va_runV (As := [.int a1]) (rest := []) ⟨hx, hb, hml, hown, hts⟩ (c_X12_isPlace l D cy H.size mo g5 g6 g7 g8 g9 g10 g12 g13 g14 g15 g16 g17 g18 g19 g20 g22 g23 g24 g29 g30 g31 g32 g33 (0 : Int32) s1 s3 s4 s11 s21 s25 s26 s27 s28 t2 a1 (by first | with_reducible assumption | omega | assumption)) (cwV 1 hts gX12_tree_X12_isPlace rfl rfl rfl ⟨rfl, hd_X12_isPlace⟩ ⟨Nat.le_of_ble_eq_true rfl, Nat.le_of_ble_eq_true rfl⟩) ⟨bl_, va_recvX hK.1 hP (ci := 12) (q0 := 0) rfl rfl, fun U hU hW => ⟨rfl, by rw [hU], by rw [hU]; exact hPc, kk_mv hW hK, hDw⟩⟩ rfl rfl hl.1 rfl (lv_room (Nat.le_of_ble_eq_true rfl)) dB_3_2_33.2.1.2.1 ⟨Nat.le_of_ble_eq_true rfl, Nat.le_of_ble_eq_true rfl⟩) hS (fun q _ h => hFc q h) hFc (fun r_6 u t H locs ht hvm hw hB hz1 hk1 hS => ?_)
        have hP : va_P D vwCl _ H := ro_keep hP hk1
        rcases hw with ⟨w_7, e_⟩ | ⟨w_7, e_⟩
        · have e_ := e_.symm
          subst e_
          refine lv_if_ne (tgt := 37) hx hb dB_3_2_33.2.1.2.2 (by decide) (fun c_8 => ?_) (fun c_8 => ?_)
          · have _ := c_8
            refine lv_aload_n hx hb dB_3_2_33.2.2.2.1 rfl (lv_at hl 0 rfl) ?_
            refine ct_S hP hD hS hA [ob12_0_ mo 0 s1 t2 s3 s4 g5 g6 g7 g8 g9 g10 s11 g12 g13 g14 g15 g16 g17 g18 g19 g20 s21 g22 g23 g24 s25 s26 s27 s28 g29 g30 g31 g32 g33, ai_ cy g5 40 f5, ai_ cy g6 40 f6, ai_ cy g7 40 f7, ai_ cy g8 40 f8, az_ cy g10 40 f10, ai_ cy g32 12 f32, ai_ cy g33 12 f33] [0, 1, 2, 3, 4, 5, 6, 7] (by decide) rfl (fun hPc hDw hFc hC_ => ?_)
            refine va_callv (va_runV (As := []) (rest := []) ⟨hx, hb, hml, hown, hts⟩ (c_X12_plants l D cy H.size mo g5 g6 g7 g8 g9 g10 g12 g13 g14 g15 g16 g17 g18 g19 g20 g22 g23 g24 g29 g30 g31 g32 g33 (0 : Int32) s1 s3 s4 s11 s21 s25 s26 s27 s28 t2 f5 f6 f7 f8 f10 f32 f33 (by first | with_reducible assumption | omega | assumption) (by first | with_reducible assumption | omega | assumption) (by first | with_reducible assumption | assumption | omega)) (cwV 0 hts gX12_tree_X12_plants rfl rfl rfl ⟨rfl, hd_X12_plants⟩ ⟨Nat.le_of_ble_eq_true rfl, Nat.le_of_ble_eq_true rfl⟩) ⟨bl_, va_recvX hK.1 hP (ci := 12) (q0 := 0) rfl rfl, fun U hU hW => ⟨rfl, by rw [hU], by rw [hU]; exact hPc, kk_mv hW hK, hDw⟩⟩ rfl rfl hl.1 rfl (lv_room (Nat.le_of_ble_eq_true rfl)) dB_3_2_33.2.2.2.2 ⟨Nat.le_of_ble_eq_true rfl, Nat.le_of_ble_eq_true rfl⟩) hS (fun q _ h => hFc q h) hFc (fun u t H locs ht hvm hw hB hz1 hk1 hS => ?_)
            obtain ⟨n25_10, n26_11, n27_12, n28_13, e32_14, e33_15, g_16, hP1, hD1⟩ := hB
            rw [ht] at hP1
            obtain ⟨hP, hD⟩ := va_join (wr := []) (w1 := [ob12_0_ mo 0 s1 t2 s3 s4 g5 g6 g7 g8 g9 g10 s11 g12 g13 g14 g15 g16 g17 g18 g19 g20 s21 g22 g23 g24 n25_10 n26_11 n27_12 n28_13 g29 g30 g31 g32 g33, ai_ cy g5 40 f5, ai_ cy g6 40 f6, ai_ cy g7 40 f7, ai_ cy g8 40 f8, az_ cy g10 40 f10, ai_ cy g32 12 e32_14, ai_ cy g33 12 e33_15]) hP hD [0, 1, 2, 3, 4, 5, 6, 7] [] hC_ rfl (by decide) (by decide) hk1 hFc hP1 hD1
            refine pd_K [ob12_0_ mo 0 s1 t2 s3 s4 g5 g6 g7 g8 g9 g10 s11 g12 g13 g14 g15 g16 g17 g18 g19 g20 s21 g22 g23 g24 n25_10 n26_11 n27_12 n28_13 g29 g30 g31 g32 g33, ai_ cy g5 40 f5, ai_ cy g6 40 f6, ai_ cy g7 40 f7, ai_ cy g8 40 f8, az_ cy g10 40 f10, ai_ cy g32 12 e32_14, ai_ cy g33 12 e33_15] hP hD (fun hP hD => ?_)
            refine lv_iload_n hx hb dB_3_2_34.1.1.1.1 rfl (lv_at hl 1 rfl) ?_
            refine lv_if_ne (tgt := 50) hx hb dB_3_2_34.1.1.1.2 (by decide) (fun c_17 => ?_) (fun c_17 => ?_)
            · have t_17 : ¬ a1.toInt = (0 : Int32).toInt := fun h => c_17 (Int32.toInt_inj.mp h)
              refine lv_iload_n hx hb dB_3_2_34.1.2.1.1 rfl (lv_at hl 2 rfl) ?_
              refine lv_if_ne (tgt := 63) hx hb dB_3_2_34.1.2.1.2 (by decide) (fun c_18 => ?_) (fun c_18 => ?_)
              · have t_18 : ¬ a2.toInt = (0 : Int32).toInt := fun h => c_18 (Int32.toInt_inj.mp h)
                refine lv_aload_n hx hb dB_3_2_34.2.1.2.2 rfl (lv_at hl 0 rfl) ?_
                refine va_get (ci := 12) (v := .ref g33) (C := RX12) (T := TX12) (N := 34) hx hb hts (fun _ h => List.mem_cons_of_mem _ (List.mem_append_right _ h)) hown hK.1 hP 0 rfl rfl 33 (by decide) (hts (.fieldLink RX12 82 "CutAtlasModel" "treeNumber" "[I") (List.mem_of_getElem? (i := 3) rfl)) (fun _ h9 => h9) rfl dB_3_2_34.2.2.1.1 ?_
                refine lv_iload_n hx hb dB_3_2_34.2.2.1.2 rfl (lv_at hl 1 rfl) ?_
                have h_19 : vp_in a1 12 := in_I (by omega) (by omega)
                refine va_iald hx hb hK.1 hP 7 0 rfl rfl (i := a1) h_19 dB_3_2_34.2.2.2.1 ?_
                refine lv_topi (fun y_20 ey_20 => ?_)
                rw [hQ]
                exact W.iret (v := y_20) hx hb hr (fun t ht hW => ⟨⟨y_20, (), rfl, trivial, n25_10, n26_11, n27_12, n28_13, e32_14, e33_15, (by first | with_reducible assumption | assumption | exact rng_zero (by omega) (by omega) | omega), by rw [ht]; exact hP, hD⟩, hS.F ht⟩) hS.2.2 dB_3_2_34.2.2.2.2
              · have t_18 : a2.toInt = (0 : Int32).toInt := congrArg Int32.toInt c_18
                refine lv_aload_n hx hb dB_3_2_34.1.2.2.1 rfl (lv_at hl 0 rfl) ?_
                refine va_get (ci := 12) (v := .ref g32) (C := RX12) (T := TX12) (N := 34) hx hb hts (fun _ h => List.mem_cons_of_mem _ (List.mem_append_right _ h)) hown hK.1 hP 0 rfl rfl 32 (by decide) (hts (.fieldLink RX12 79 "CutAtlasModel" "treeNext" "[I") (List.mem_of_getElem? (i := 2) rfl)) (fun _ h9 => h9) rfl dB_3_2_34.1.2.2.2 ?_
                refine lv_iload_n hx hb dB_3_2_34.2.1.1.1 rfl (lv_at hl 1 rfl) ?_
                have h_21 : vp_in a1 12 := in_I (by omega) (by omega)
                refine va_iald hx hb hK.1 hP 6 0 rfl rfl (i := a1) h_21 dB_3_2_34.2.1.1.2 ?_
                refine lv_topi (fun y_22 ey_22 => ?_)
                have ry_22 : 0 ≤ y_22.toInt ∧ y_22.toInt ≤ 11 := by rw [ey_22]; exact g_16 _ (in_lt h_21)
                refine lv_goto (tgt := 69) hx hb dB_3_2_34.2.1.2.1 (by decide) ?_
                rw [hQ]
                exact W.iret (v := y_22) hx hb hr (fun t ht hW => ⟨⟨y_22, (), rfl, trivial, n25_10, n26_11, n27_12, n28_13, e32_14, e33_15, (by first | with_reducible assumption | assumption | exact rng_zero (by omega) (by omega) | omega), by rw [ht]; exact hP, hD⟩, hS.F ht⟩) hS.2.2 dB_3_2_34.2.2.2.2
            · have t_17 : a1.toInt = (0 : Int32).toInt := congrArg Int32.toInt c_17
              refine lv_bipush (v := (-9)) hx hb dB_3_2_34.1.1.2.1 (by decide) ?_
              refine lv_goto (tgt := 69) hx hb dB_3_2_34.1.1.2.2 (by decide) ?_
              rw [hQ]
              exact W.iret (v := (-9)) hx hb hr (fun t ht hW => ⟨⟨(-9), (), rfl, trivial, n25_10, n26_11, n27_12, n28_13, e32_14, e33_15, (by first | with_reducible assumption | assumption | exact rng_zero (by omega) (by omega) | omega), by rw [ht]; exact hP, hD⟩, hS.F ht⟩) hS.2.2 dB_3_2_34.2.2.2.2
          · exact absurd c_8 (by decide)
        · have e_ := e_.symm
          subst e_
          refine lv_if_ne (tgt := 37) hx hb dB_3_2_33.2.1.2.2 (by decide) (fun c_23 => ?_) (fun c_23 => ?_)
          · exact absurd c_23 (by decide)
          · have _ := c_23
            refine lv_iconst (v := (-1)) hx hb dB_3_2_33.2.2.1.1 (by decide) ?_
            rw [hQ]
            exact W.iret (v := (-1)) hx hb hr (fun t ht hW => ⟨⟨(-1), (), rfl, trivial, s25, s26, s27, s28, f32, f33, (by first | with_reducible assumption | assumption | exact rng_zero (by omega) (by omega) | omega), by rw [ht]; exact hP, hD⟩, hS.F ht⟩) hS.2.2 dB_3_2_33.2.2.1.2
      · have t_5 : r_4.toInt = (0 : Int32).toInt := congrArg Int32.toInt c_5
        refine lv_bipush (v := (-2)) hx hb dB_3_2_33.1.2.2.1 (by decide) ?_
        rw [hQ]
        exact W.iret (v := (-2)) hx hb hr (fun t ht hW => ⟨⟨(-2), (), rfl, trivial, s25, s26, s27, s28, f32, f33, (by first | with_reducible assumption | assumption | exact rng_zero (by omega) (by omega) | omega), by rw [ht]; exact hP, hD⟩, hS.F ht⟩) hS.2.2 dB_3_2_33.1.2.2.2
    · exact absurd c_3 (by decide)
  · have e_ := e_.symm
    subst e_
    refine lv_if_ne (tgt := 17) hx hb dB_3_2_33.1.1.1.1 (by decide) (fun c_24 => ?_) (fun c_24 => ?_)
    · exact absurd c_24 (by decide)
    · have _ := c_24
      refine lv_iconst (v := (-1)) hx hb dB_3_2_33.1.1.1.2 (by decide) ?_
      rw [hQ]
      exact W.iret (v := (-1)) hx hb hr (fun t ht hW => ⟨⟨(-1), (), rfl, trivial, s25, s26, s27, s28, f32, f33, (by first | with_reducible assumption | assumption | exact rng_zero (by omega) (by omega) | omega), by rw [ht]; exact hP, hD⟩, hS.F ht⟩) hS.2.2 dB_3_2_33.1.1.2.1

set_option maxHeartbeats 4000000 in
set_option maxRecDepth 100000 in
theorem c_X12_about (l : Launch) (D : va_G) (cy : Nat → ClassId) (sz : Nat) (mo : Nat) (g5 : Nat) (g6 : Nat) (g7 : Nat) (g8 : Nat) (g9 : Nat) (g10 : Nat) (g12 : Nat) (g13 : Nat) (g14 : Nat) (g15 : Nat) (g16 : Nat) (g17 : Nat) (g18 : Nat) (g19 : Nat) (g20 : Nat) (g22 : Nat) (g23 : Nat) (g24 : Nat) (g29 : Nat) (g30 : Nat) (g31 : Nat) (g32 : Nat) (g33 : Nat) (s0 : Int32) (s1 : Int32) (s3 : Int32) (s4 : Int32) (s11 : Int32) (s21 : Int32) (s25 : Int32) (s26 : Int32) (s27 : Int32) (s28 : Int32) (t2 : Int64) (f5 : Nat → Int32) (f10 : Nat → Int32) (a1 : Int32) (hN : 0 ≤ s4.toInt ∧ s4.toInt ≤ 40) : Met l yX12_about wsX12_about ({ frames := 1, cells := 0, slots := 0, locals := 22 }) (va_Pc [.ref mo, .int a1] (fun U => U.heap.size = sz ∧ va_P D vwCl [ob12_0_ mo s0 s1 t2 s3 s4 g5 g6 g7 g8 g9 g10 s11 g12 g13 g14 g15 g16 g17 g18 g19 g20 s21 g22 g23 g24 s25 s26 s27 s28 g29 g30 g31 g32 g33, ai_ cy g5 40 f5, az_ cy g10 40 f10] U.heap ∧ kk_ D cy U ∧ va_D (fun _ => True) [ob12_0_ mo s0 s1 t2 s3 s4 g5 g6 g7 g8 g9 g10 s11 g12 g13 g14 g15 g16 g17 g18 g19 g20 s21 g22 g23 g24 s25 s26 s27 s28 g29 g30 g31 g32 g33, ai_ cy g5 40 f5, az_ cy g10 40 f10])) (va_Qi (fun (r : Int32) (_ : Unit) => True) (fun (_ : Unit) (t : State) => va_P D vwCl [ob12_0_ mo 0 s1 t2 s3 s4 g5 g6 g7 g8 g9 g10 s11 g12 g13 g14 g15 g16 g17 g18 g19 g20 s21 g22 g23 g24 s25 s26 s27 s28 g29 g30 g31 g32 g33, ai_ cy g5 40 f5, az_ cy g10 40 f10] t.heap ∧ va_D (va_A [ob12_0_ mo s0 s1 t2 s3 s4 g5 g6 g7 g8 g9 g10 s11 g12 g13 g14 g15 g16 g17 g18 g19 g20 s21 g22 g23 g24 s25 s26 s27 s28 g29 g30 g31 g32 g33, ai_ cy g5 40 f5, az_ cy g10 40 f10] sz) [ob12_0_ mo 0 s1 t2 s3 s4 g5 g6 g7 g8 g9 g10 s11 g12 g13 g14 g15 g16 g17 g18 g19 g20 s21 g22 g23 g24 s25 s26 s27 s28 g29 g30 g31 g32 g33, ai_ cy g5 40 f5, az_ cy g10 40 f10]) (va_A [ob12_0_ mo s0 s1 t2 s3 s4 g5 g6 g7 g8 g9 g10 s11 g12 g13 g14 g15 g16 g17 g18 g19 g20 s21 g22 g23 g24 s25 s26 s27 s28 g29 g30 g31 g32 g33, ai_ cy g5 40 f5, az_ cy g10 40 f10] sz)) 0 0 (va_A [ob12_0_ mo s0 s1 t2 s3 s4 g5 g6 g7 g8 g9 g10 s11 g12 g13 g14 g15 g16 g17 g18 g19 g20 s21 g22 g23 g24 s25 s26 s27 s28 g29 g30 g31 g32 g33, ai_ cy g5 40 f5, az_ cy g10 40 f10] sz) := by
  refine ofQ (cc := cX12_about) (maxL := 4) (ret := (some .int)) (by decide) rfl ?_
  intro p e s m args below meth c s₁ Q hQ B hml hv
  obtain ⟨rfl, hsz, hP, hK, hD0⟩ := hv
  have hx := B.exec
  have hb := B.bytes
  have hr := B.returns
  have hts := atoms_spec (ws := wsX12_about) B.pre
  have hown : s.vm.findClass RX12 = some m.cls := by have h_ := findClass_of_methodNamed B.named; exact h_
  have hlocks := B.notSynchronized
  subst hsz
  have hD := hD0.self (sz := s.heap.size)
  generalize hAe : va_A [ob12_0_ mo s0 s1 t2 s3 s4 g5 g6 g7 g8 g9 g10 s11 g12 g13 g14 g15 g16 g17 g18 g19 g20 s21 g22 g23 g24 s25 s26 s27 s28 g29 g30 g31 g32 g33, ai_ cy g5 40 f5, az_ cy g10 40 f10] s.heap.size = A at hD hQ
  have hA : ∀ q : Nat, s.heap.size ≤ q → A q := fun q h => by rw [← hAe]; exact Or.inr h
  have hS : va_S A s.heap s.heap [] := va_S.rf
  have hl := lv_entry ([.ref mo, .int a1]) (n := 4) (Nat.le_of_ble_eq_true rfl)
  rw [lg_entry_eq]
  generalize (lg_sl ([.ref mo, .int a1]) ++ List.replicate (4 - (lg_sl ([.ref mo, .int a1])).length) Slot.unset).toArray = ls at hl ⊢
  have hl : lv_has ls 4 [(0, .ref mo), (1, .int a1)] := hl
  have zm1 : ((-1) : Int32).toInt = -1 := by decide
  have z0 : (0 : Int32).toInt = 0 := by decide
  have z1 : (1 : Int32).toInt = 1 := by decide
  have z2 : (2 : Int32).toInt = 2 := by decide
  have z3 : (3 : Int32).toInt = 3 := by decide
  have z4 : (4 : Int32).toInt = 4 := by decide
  refine lv_aload_n hx hb dB_3_3_41.2.1.2.1 rfl (lv_at hl 0 rfl) ?_
  refine lv_iconst (v := 0) hx hb dB_3_3_41.2.1.2.2 (by decide) ?_
  refine va_put (ci := 12) (v := .int 0) (ty := .int) (C := RX12) (T := TX12) (N := 34) hx hb hts (fun _ h => List.mem_cons_of_mem _ (List.mem_append_right _ h)) tyX12 tyX12_ok nmX12 hown hK.1 hP hD hS 0 rfl rfl 0 (by decide) (hts (.fieldLink RX12 85 "CutAtlasModel" "thrown" "I") (List.mem_of_getElem? (i := 1) rfl)) (fun _ h9 => h9) rfl (by decide +kernel) rfl rfl (Nat.le_of_ble_eq_true rfl) dB_3_3_41.2.2.1.1 (fun H locs hP hD hS => ?_)
  refine pd_K [ob12_0_ mo 0 s1 t2 s3 s4 g5 g6 g7 g8 g9 g10 s11 g12 g13 g14 g15 g16 g17 g18 g19 g20 s21 g22 g23 g24 s25 s26 s27 s28 g29 g30 g31 g32 g33, ai_ cy g5 40 f5, az_ cy g10 40 f10] hP hD (fun hP hD => ?_)
  refine lv_iconst (v := 0) hx hb dB_3_3_41.2.2.1.2 (by decide) ?_
  refine lv_istore_n (lv' := [(2, .int 0), (0, .ref mo), (1, .int a1)]) hx hb dB_3_3_41.2.2.2.1 rfl hl (by decide) rfl (fun ls hl => ?_)
  refine lv_iconst (v := 0) hx hb dB_3_3_41.2.2.2.2 (by decide) ?_
  refine lv_istore_n (lv' := [(3, .int 0), (2, .int 0), (0, .ref mo), (1, .int a1)]) hx hb dB_3_3_42.1.1.1.1 rfl hl (by decide) rfl (fun ls hl => ?_)
  suffices LOOP_1 : ∀ (n_1 : Nat) (x3_1 : Int32) (x2_1 : Int32) (H : Heap) (locs : List Loc) (ls : Array Slot), s4.toInt - x3_1.toInt < (n_1 : Int) → (0 ≤ x3_1.toInt) → (x3_1.toInt ≤ s4.toInt) → pd_2 D vwCl A [ob12_0_ mo 0 s1 t2 s3 s4 g5 g6 g7 g8 g9 g10 s11 g12 g13 g14 g15 g16 g17 g18 g19 g20 s21 g22 g23 g24 s25 s26 s27 s28 g29 g30 g31 g32 g33, ai_ cy g5 40 f5, az_ cy g10 40 f10] H → va_S A s.heap H locs → lv_has ls 4 [(3, .int x3_1), (2, .int x2_1), (0, .ref mo), (1, .int a1)] → W p l e ({ frames := 1, cells := 0, slots := 0, locals := 22 } : Room) s m (([.ref mo, .int a1] : List Value).toArray) below meth c H locs 0 0 Q (F0 m 9 ls []) from LOOP_1 ((s4.toInt - (0 : Int32).toInt).toNat + 1) (0 : Int32) (0 : Int32) _ _ _ (by omega) (by first | with_reducible assumption | omega | assumption) (by first | with_reducible assumption | omega | assumption) ⟨hP, hD⟩ hS (lv_sub hl [0, 1, 2, 3] rfl)
  intro n_1
  induction n_1 with
  | zero =>
    intro x3_1 x2_1 H locs ls hm v0_1 v1_1 hPD hS hl; obtain ⟨hP, hD⟩ := hPD
    exact absurd hm (by omega)
  | succ n_1 ih_1 =>
    intro x3_1 x2_1 H locs ls hm v0_1 v1_1 hPD hS hl; obtain ⟨hP, hD⟩ := hPD
    refine lv_iload_n hx hb dB_3_3_42.1.1.1.2 rfl (lv_at hl 0 rfl) ?_
    refine lv_aload_n hx hb dB_3_3_42.1.1.2.1 rfl (lv_at hl 2 rfl) ?_
    refine va_get (ci := 12) (v := .int s4) (C := RX12) (T := TX12) (N := 34) hx hb hts (fun _ h => List.mem_cons_of_mem _ (List.mem_append_right _ h)) hown hK.1 hP 0 rfl rfl 4 (by decide) (hts (.fieldLink RX12 95 "CutAtlasModel" "lines" "I") (List.mem_of_getElem? (i := 2) rfl)) (fun _ h9 => h9) rfl dB_3_3_42.1.1.2.2 ?_
    refine lv_icmp_ge (tgt := 40) hx hb dB_3_3_42.1.2.1.1 (by decide) (fun c_2 => ?_) (fun c_2 => ?_)
    · have t_2 : s4.toInt ≤ x3_1.toInt := Int32.le_iff_toInt_le.mp c_2
      refine lv_iload_n hx hb dB_3_3_43.1.1.2.1 rfl (lv_at hl 3 rfl) ?_
      refine lv_if_ne (tgt := 51) hx hb dB_3_3_43.1.1.2.2 (by decide) (fun c_3 => ?_) (fun c_3 => ?_)
      · have t_3 : ¬ a1.toInt = (0 : Int32).toInt := fun h => c_3 (Int32.toInt_inj.mp h)
        refine lv_iload_n hx hb dB_3_3_43.1.2.2.2 rfl (lv_at hl 3 rfl) ?_
        refine lv_iconst (v := 1) hx hb dB_3_3_43.2.1.1.1 (by decide) ?_
        refine lv_icmp_ne (tgt := 63) hx hb dB_3_3_43.2.1.1.2 (by decide) (fun c_4 => ?_) (fun c_4 => ?_)
        · have t_4 : ¬ a1.toInt = (1 : Int32).toInt := fun h => c_4 (Int32.toInt_inj.mp h)
          refine lv_iload_n hx hb dB_3_3_43.2.2.1.2 rfl (lv_at hl 3 rfl) ?_
          refine lv_iconst (v := 2) hx hb dB_3_3_43.2.2.2.1 (by decide) ?_
          refine lv_icmp_ne (tgt := 72) hx hb dB_3_3_43.2.2.2.2 (by decide) (fun c_5 => ?_) (fun c_5 => ?_)
          · have t_5 : ¬ a1.toInt = (2 : Int32).toInt := fun h => c_5 (Int32.toInt_inj.mp h)
            refine lv_iload_n hx hb dB_3_3_44.1.1.2.1 rfl (lv_at hl 3 rfl) ?_
            refine lv_iconst (v := 3) hx hb dB_3_3_44.1.1.2.2 (by decide) ?_
            refine lv_icmp_ne (tgt := 84) hx hb dB_3_3_44.1.2.1.1 (by decide) (fun c_6 => ?_) (fun c_6 => ?_)
            · have t_6 : ¬ a1.toInt = (3 : Int32).toInt := fun h => c_6 (Int32.toInt_inj.mp h)
              refine lv_iload_n hx hb dB_3_3_44.2.1.1.1 rfl (lv_at hl 3 rfl) ?_
              refine lv_iconst (v := 4) hx hb dB_3_3_44.2.1.1.2 (by decide) ?_
              refine lv_icmp_ne (tgt := 104) hx hb dB_3_3_44.2.1.2.1 (by decide) (fun c_7 => ?_) (fun c_7 => ?_)
              · have t_7 : ¬ a1.toInt = (4 : Int32).toInt := fun h => c_7 (Int32.toInt_inj.mp h)
                refine lv_iconst (v := (-1)) hx hb dB_3_3_45.1.1.2.1 (by decide) ?_
                rw [hQ]
                exact W.iret (v := (-1)) hx hb hr (fun t ht hW => ⟨⟨(-1), (), rfl, trivial, by rw [ht]; exact hP, hD⟩, hS.F ht⟩) hS.2.2 dB_3_3_45.1.1.2.2
              · have t_7 : a1.toInt = (4 : Int32).toInt := congrArg Int32.toInt c_7
                refine lv_aload_n hx hb dB_3_3_44.2.1.2.2 rfl (lv_at hl 2 rfl) ?_
                refine ct_R hP hD [ob12_0_ mo 0 s1 t2 s3 s4 g5 g6 g7 g8 g9 g10 s11 g12 g13 g14 g15 g16 g17 g18 g19 g20 s21 g22 g23 g24 s25 s26 s27 s28 g29 g30 g31 g32 g33, ai_ cy g5 40 f5, az_ cy g10 40 f10] [0, 1, 2] (by decide) rfl (fun hPc hDw => ?_)
                have hFc := va_free (wc := []) hD hS hA [] rfl
                refine va_calli (va_runV (As := []) (rest := []) ⟨hx, hb, hml, hown, hts⟩ (c_X12_isWhole l D cy H.size mo g5 g6 g7 g8 g9 g10 g12 g13 g14 g15 g16 g17 g18 g19 g20 g22 g23 g24 g29 g30 g31 g32 g33 (0 : Int32) s1 s3 s4 s11 s21 s25 s26 s27 s28 t2 f5 f10 (by first | with_reducible assumption | omega | assumption)) (cwV 0 hts gX12_about_X12_isWhole rfl rfl rfl ⟨rfl, hd_X12_isWhole⟩ ⟨Nat.le_of_ble_eq_true rfl, Nat.le_of_ble_eq_true rfl⟩) ⟨bl_, va_recvX hK.1 hP (ci := 12) (q0 := 0) rfl rfl, fun U hU hW => ⟨rfl, by rw [hU], by rw [hU]; exact hPc, kk_mv hW hK, hDw⟩⟩ rfl rfl hl.1 rfl (lv_room (Nat.le_of_ble_eq_true rfl)) dB_3_3_44.2.2.1.1 ⟨Nat.le_of_ble_eq_true rfl, Nat.le_of_ble_eq_true rfl⟩) hS (fun q _ h => hFc q h) hFc (fun r_8 u t H locs ht hvm hw hB hz1 hk1 hS => ?_)
                have hP : va_P D vwCl _ H := ro_keep hP hk1
                have f0_r_8 := hw
                refine lv_if_eq (tgt := 100) hx hb dB_3_3_44.2.2.1.2 (by decide) (fun c_9 => ?_) (fun c_9 => ?_)
                · have t_9 : r_8.toInt = (0 : Int32).toInt := congrArg Int32.toInt c_9
                  refine lv_iconst (v := 0) hx hb dB_3_3_45.1.1.1.1 (by decide) ?_
                  refine lv_goto (tgt := 105) hx hb dB_3_3_45.1.1.1.2 (by decide) ?_
                  rw [hQ]
                  exact W.iret (v := 0) hx hb hr (fun t ht hW => ⟨⟨0, (), rfl, trivial, by rw [ht]; exact hP, hD⟩, hS.F ht⟩) hS.2.2 dB_3_3_45.1.1.2.2
                · have t_9 : ¬ r_8.toInt = (0 : Int32).toInt := fun h => c_9 (Int32.toInt_inj.mp h)
                  refine lv_iconst (v := 1) hx hb dB_3_3_44.2.2.2.1 (by decide) ?_
                  refine lv_goto (tgt := 105) hx hb dB_3_3_44.2.2.2.2 (by decide) ?_
                  rw [hQ]
                  exact W.iret (v := 1) hx hb hr (fun t ht hW => ⟨⟨1, (), rfl, trivial, by rw [ht]; exact hP, hD⟩, hS.F ht⟩) hS.2.2 dB_3_3_45.1.1.2.2
            · have t_6 : a1.toInt = (3 : Int32).toInt := congrArg Int32.toInt c_6
              refine lv_aload_n hx hb dB_3_3_44.1.2.1.2 rfl (lv_at hl 2 rfl) ?_
              refine va_get (ci := 12) (v := .int s11) (C := RX12) (T := TX12) (N := 34) hx hb hts (fun _ h => List.mem_cons_of_mem _ (List.mem_append_right _ h)) hown hK.1 hP 0 rfl rfl 11 (by decide) (hts (.fieldLink RX12 102 "CutAtlasModel" "undone" "I") (List.mem_of_getElem? (i := 5) rfl)) (fun _ h9 => h9) rfl dB_3_3_44.1.2.2.1 ?_
              refine lv_goto (tgt := 105) hx hb dB_3_3_44.1.2.2.2 (by decide) ?_
              rw [hQ]
              exact W.iret (v := s11) hx hb hr (fun t ht hW => ⟨⟨s11, (), rfl, trivial, by rw [ht]; exact hP, hD⟩, hS.F ht⟩) hS.2.2 dB_3_3_45.1.1.2.2
          · have t_5 : a1.toInt = (2 : Int32).toInt := congrArg Int32.toInt c_5
            refine lv_iload_n hx hb dB_3_3_44.1.1.1.1 rfl (lv_at hl 1 rfl) ?_
            refine lv_goto (tgt := 105) hx hb dB_3_3_44.1.1.1.2 (by decide) ?_
            rw [hQ]
            exact W.iret (v := x2_1) hx hb hr (fun t ht hW => ⟨⟨x2_1, (), rfl, trivial, by rw [ht]; exact hP, hD⟩, hS.F ht⟩) hS.2.2 dB_3_3_45.1.1.2.2
        · have t_4 : a1.toInt = (1 : Int32).toInt := congrArg Int32.toInt c_4
          refine lv_aload_n hx hb dB_3_3_43.2.1.2.1 rfl (lv_at hl 2 rfl) ?_
          refine va_get (ci := 12) (v := .int s4) (C := RX12) (T := TX12) (N := 34) hx hb hts (fun _ h => List.mem_cons_of_mem _ (List.mem_append_right _ h)) hown hK.1 hP 0 rfl rfl 4 (by decide) (hts (.fieldLink RX12 95 "CutAtlasModel" "lines" "I") (List.mem_of_getElem? (i := 2) rfl)) (fun _ h9 => h9) rfl dB_3_3_43.2.1.2.2 ?_
          refine lv_goto (tgt := 105) hx hb dB_3_3_43.2.2.1.1 (by decide) ?_
          rw [hQ]
          exact W.iret (v := s4) hx hb hr (fun t ht hW => ⟨⟨s4, (), rfl, trivial, by rw [ht]; exact hP, hD⟩, hS.F ht⟩) hS.2.2 dB_3_3_45.1.1.2.2
      · have t_3 : a1.toInt = (0 : Int32).toInt := congrArg Int32.toInt c_3
        refine lv_aload_n hx hb dB_3_3_43.1.2.1.1 rfl (lv_at hl 2 rfl) ?_
        refine va_get (ci := 12) (v := .int s3) (C := RX12) (T := TX12) (N := 34) hx hb hts (fun _ h => List.mem_cons_of_mem _ (List.mem_append_right _ h)) hown hK.1 hP 0 rfl rfl 3 (by decide) (hts (.fieldLink RX12 88 "CutAtlasModel" "places" "I") (List.mem_of_getElem? (i := 4) rfl)) (fun _ h9 => h9) rfl dB_3_3_43.1.2.1.2 ?_
        refine lv_goto (tgt := 105) hx hb dB_3_3_43.1.2.2.1 (by decide) ?_
        rw [hQ]
        exact W.iret (v := s3) hx hb hr (fun t ht hW => ⟨⟨s3, (), rfl, trivial, by rw [ht]; exact hP, hD⟩, hS.F ht⟩) hS.2.2 dB_3_3_45.1.1.2.2
    · have t_2 : ¬ s4.toInt ≤ x3_1.toInt := fun h => c_2 (Int32.le_iff_toInt_le.mpr h)
      refine lv_iload_n hx hb dB_3_3_42.1.2.1.2 rfl (lv_at hl 1 rfl) ?_
      refine lv_aload_n hx hb dB_3_3_42.1.2.2.1 rfl (lv_at hl 2 rfl) ?_
      refine va_get (ci := 12) (v := .ref g10) (C := RX12) (T := TX12) (N := 34) hx hb hts (fun _ h => List.mem_cons_of_mem _ (List.mem_append_right _ h)) hown hK.1 hP 0 rfl rfl 10 (by decide) (hts (.fieldLink RX12 25 "CutAtlasModel" "isMissing" "[Z") (List.mem_of_getElem? (i := 3) rfl)) (fun _ h9 => h9) rfl dB_3_3_42.1.2.2.2 ?_
      refine lv_iload_n hx hb dB_3_3_42.2.1.1.1 rfl (lv_at hl 0 rfl) ?_
      have h_10 : vp_in x3_1 40 := in_I (by omega) (by omega)
      refine va_zald hx hb hK.1 hP 2 2 rfl rfl (i := x3_1) h_10 dB_3_3_42.2.1.1.2 ?_
      refine lv_topi (fun y_11 ey_11 => ?_)
      refine lv_if_eq (tgt := 31) hx hb dB_3_3_42.2.1.2.1 (by decide) (fun c_12 => ?_) (fun c_12 => ?_)
      · have t_12 : y_11.toInt = (0 : Int32).toInt := congrArg Int32.toInt c_12
        refine lv_iconst (v := 0) hx hb dB_3_3_42.2.2.1.2 (by decide) ?_
        refine lv_iadd hx hb dB_3_3_42.2.2.2.1 ?_
        refine lv_topi (fun y_13 ey_13 => ?_)
        refine lv_istore_n (lv' := [(2, .int y_13), (3, .int x3_1), (0, .ref mo), (1, .int a1)]) hx hb dB_3_3_42.2.2.2.2 rfl hl (by decide) rfl (fun ls hl => ?_)
        obtain ⟨y_14, ey_14⟩ : ∃ y : Int32, y = x3_1 + 1 := ⟨_, rfl⟩
        have ty_14 : y_14.toInt = x3_1.toInt + (1 : Int32).toInt := by rw [ey_14]; exact addI (by omega) (by omega)
        refine lv_iinc (v := y_14) (lv' := [(3, .int y_14), (2, .int y_13), (0, .ref mo), (1, .int a1)]) hx hb dB_3_3_43.1.1.1.1 hl (k := 1) rfl (by rw [ey_14]; rfl) (by decide) rfl (fun ls hl => ?_)
        refine lv_goto (tgt := 9) hx hb dB_3_3_43.1.1.1.2 (by decide) ?_
        exact ih_1 y_14 y_13 _ _ _ (by omega) (by first | with_reducible assumption | omega | assumption) (by first | with_reducible assumption | omega | assumption) ⟨hP, hD⟩ hS (lv_sub hl [0, 1, 2, 3] rfl)
      · have t_12 : ¬ y_11.toInt = (0 : Int32).toInt := fun h => c_12 (Int32.toInt_inj.mp h)
        refine lv_iconst (v := 1) hx hb dB_3_3_42.2.1.2.2 (by decide) ?_
        refine lv_goto (tgt := 32) hx hb dB_3_3_42.2.2.1.1 (by decide) ?_
        refine lv_iadd hx hb dB_3_3_42.2.2.2.1 ?_
        refine lv_topi (fun y_15 ey_15 => ?_)
        refine lv_istore_n (lv' := [(2, .int y_15), (3, .int x3_1), (0, .ref mo), (1, .int a1)]) hx hb dB_3_3_42.2.2.2.2 rfl hl (by decide) rfl (fun ls hl => ?_)
        obtain ⟨y_16, ey_16⟩ : ∃ y : Int32, y = x3_1 + 1 := ⟨_, rfl⟩
        have ty_16 : y_16.toInt = x3_1.toInt + (1 : Int32).toInt := by rw [ey_16]; exact addI (by omega) (by omega)
        refine lv_iinc (v := y_16) (lv' := [(3, .int y_16), (2, .int y_15), (0, .ref mo), (1, .int a1)]) hx hb dB_3_3_43.1.1.1.1 hl (k := 1) rfl (by rw [ey_16]; rfl) (by decide) rfl (fun ls hl => ?_)
        refine lv_goto (tgt := 9) hx hb dB_3_3_43.1.1.1.2 (by decide) ?_
        exact ih_1 y_16 y_15 _ _ _ (by omega) (by first | with_reducible assumption | omega | assumption) (by first | with_reducible assumption | omega | assumption) ⟨hP, hD⟩ hS (lv_sub hl [0, 1, 2, 3] rfl)

set_option maxHeartbeats 4000000 in
set_option maxRecDepth 100000 in
theorem c_X12_told (l : Launch) (D : va_G) (cy : Nat → ClassId) (sz : Nat) (mo : Nat) (g5 : Nat) (g6 : Nat) (g7 : Nat) (g8 : Nat) (g9 : Nat) (g10 : Nat) (g12 : Nat) (g13 : Nat) (g14 : Nat) (g15 : Nat) (g16 : Nat) (g17 : Nat) (g18 : Nat) (g19 : Nat) (g20 : Nat) (g22 : Nat) (g23 : Nat) (g24 : Nat) (g29 : Nat) (g30 : Nat) (g31 : Nat) (g32 : Nat) (g33 : Nat) (s0 : Int32) (s1 : Int32) (s3 : Int32) (s4 : Int32) (s11 : Int32) (s21 : Int32) (s25 : Int32) (s26 : Int32) (s27 : Int32) (s28 : Int32) (t2 : Int64) (f5 : Nat → Int32) (f6 : Nat → Int32) (f7 : Nat → Int32) (f8 : Nat → Int32) (f9 : Nat → Int32) (f10 : Nat → Int32) (a1 : Int32) (a2 : Int32) (hN : 0 ≤ s4.toInt ∧ s4.toInt ≤ 40) : Met l yX12_told wsX12_told ({ frames := 2, cells := 0, slots := 0, locals := 46 }) (va_Pc [.ref mo, .int a1, .int a2] (fun U => U.heap.size = sz ∧ va_P D vwCl [ob12_0_ mo s0 s1 t2 s3 s4 g5 g6 g7 g8 g9 g10 s11 g12 g13 g14 g15 g16 g17 g18 g19 g20 s21 g22 g23 g24 s25 s26 s27 s28 g29 g30 g31 g32 g33, ai_ cy g5 40 f5, ai_ cy g6 40 f6, ai_ cy g7 40 f7, ai_ cy g8 40 f8, ai_ cy g9 40 f9, az_ cy g10 40 f10] U.heap ∧ kk_ D cy U ∧ va_D (fun _ => True) [ob12_0_ mo s0 s1 t2 s3 s4 g5 g6 g7 g8 g9 g10 s11 g12 g13 g14 g15 g16 g17 g18 g19 g20 s21 g22 g23 g24 s25 s26 s27 s28 g29 g30 g31 g32 g33, ai_ cy g5 40 f5, ai_ cy g6 40 f6, ai_ cy g7 40 f7, ai_ cy g8 40 f8, ai_ cy g9 40 f9, az_ cy g10 40 f10])) (va_Qi (fun (r : Int32) (_ : Unit) => True) (fun (_ : Unit) (t : State) => va_P D vwCl [ob12_0_ mo 0 s1 t2 s3 s4 g5 g6 g7 g8 g9 g10 s11 g12 g13 g14 g15 g16 g17 g18 g19 g20 s21 g22 g23 g24 s25 s26 s27 s28 g29 g30 g31 g32 g33, ai_ cy g5 40 f5, ai_ cy g6 40 f6, ai_ cy g7 40 f7, ai_ cy g8 40 f8, ai_ cy g9 40 f9, az_ cy g10 40 f10] t.heap ∧ va_D (va_A [ob12_0_ mo s0 s1 t2 s3 s4 g5 g6 g7 g8 g9 g10 s11 g12 g13 g14 g15 g16 g17 g18 g19 g20 s21 g22 g23 g24 s25 s26 s27 s28 g29 g30 g31 g32 g33, ai_ cy g5 40 f5, ai_ cy g6 40 f6, ai_ cy g7 40 f7, ai_ cy g8 40 f8, ai_ cy g9 40 f9, az_ cy g10 40 f10] sz) [ob12_0_ mo 0 s1 t2 s3 s4 g5 g6 g7 g8 g9 g10 s11 g12 g13 g14 g15 g16 g17 g18 g19 g20 s21 g22 g23 g24 s25 s26 s27 s28 g29 g30 g31 g32 g33, ai_ cy g5 40 f5, ai_ cy g6 40 f6, ai_ cy g7 40 f7, ai_ cy g8 40 f8, ai_ cy g9 40 f9, az_ cy g10 40 f10]) (va_A [ob12_0_ mo s0 s1 t2 s3 s4 g5 g6 g7 g8 g9 g10 s11 g12 g13 g14 g15 g16 g17 g18 g19 g20 s21 g22 g23 g24 s25 s26 s27 s28 g29 g30 g31 g32 g33, ai_ cy g5 40 f5, ai_ cy g6 40 f6, ai_ cy g7 40 f7, ai_ cy g8 40 f8, ai_ cy g9 40 f9, az_ cy g10 40 f10] sz)) 0 0 (va_A [ob12_0_ mo s0 s1 t2 s3 s4 g5 g6 g7 g8 g9 g10 s11 g12 g13 g14 g15 g16 g17 g18 g19 g20 s21 g22 g23 g24 s25 s26 s27 s28 g29 g30 g31 g32 g33, ai_ cy g5 40 f5, ai_ cy g6 40 f6, ai_ cy g7 40 f7, ai_ cy g8 40 f8, ai_ cy g9 40 f9, az_ cy g10 40 f10] sz) := by
  refine ofQ (cc := cX12_told) (maxL := 4) (ret := (some .int)) (by decide) rfl ?_
  intro p e s m args below meth c s₁ Q hQ B hml hv
  obtain ⟨rfl, hsz, hP, hK, hD0⟩ := hv
  have hx := B.exec
  have hb := B.bytes
  have hr := B.returns
  have hts := atoms_spec (ws := wsX12_told) B.pre
  have hown : s.vm.findClass RX12 = some m.cls := by have h_ := findClass_of_methodNamed B.named; exact h_
  have hlocks := B.notSynchronized
  subst hsz
  have hD := hD0.self (sz := s.heap.size)
  generalize hAe : va_A [ob12_0_ mo s0 s1 t2 s3 s4 g5 g6 g7 g8 g9 g10 s11 g12 g13 g14 g15 g16 g17 g18 g19 g20 s21 g22 g23 g24 s25 s26 s27 s28 g29 g30 g31 g32 g33, ai_ cy g5 40 f5, ai_ cy g6 40 f6, ai_ cy g7 40 f7, ai_ cy g8 40 f8, ai_ cy g9 40 f9, az_ cy g10 40 f10] s.heap.size = A at hD hQ
  have hA : ∀ q : Nat, s.heap.size ≤ q → A q := fun q h => by rw [← hAe]; exact Or.inr h
  have hS : va_S A s.heap s.heap [] := va_S.rf
  have hl := lv_entry ([.ref mo, .int a1, .int a2]) (n := 4) (Nat.le_of_ble_eq_true rfl)
  rw [lg_entry_eq]
  generalize (lg_sl ([.ref mo, .int a1, .int a2]) ++ List.replicate (4 - (lg_sl ([.ref mo, .int a1, .int a2])).length) Slot.unset).toArray = ls at hl ⊢
  have hl : lv_has ls 4 [(0, .ref mo), (1, .int a1), (2, .int a2)] := hl
  have zm9 : ((-9) : Int32).toInt = -9 := by decide
  have zm1 : ((-1) : Int32).toInt = -1 := by decide
  have z0 : (0 : Int32).toInt = 0 := by decide
  have zl0 : (0 : Int64).toInt = 0 := by decide
  have z1 : (1 : Int32).toInt = 1 := by decide
  have z2 : (2 : Int32).toInt = 2 := by decide
  have z3 : (3 : Int32).toInt = 3 := by decide
  have z4 : (4 : Int32).toInt = 4 := by decide
  have zl5 : (5 : Int64).toInt = 5 := by decide
  refine lv_aload_n hx hb dB_3_0_52.2.2.2.1 rfl (lv_at hl 0 rfl) ?_
  refine lv_iconst (v := 0) hx hb dB_3_0_52.2.2.2.2 (by decide) ?_
  refine va_put (ci := 12) (v := .int 0) (ty := .int) (C := RX12) (T := TX12) (N := 34) hx hb hts (fun _ h => List.mem_cons_of_mem _ (List.mem_append_right _ h)) tyX12 tyX12_ok nmX12 hown hK.1 hP hD hS 0 rfl rfl 0 (by decide) (hts (.fieldLink RX12 85 "CutAtlasModel" "thrown" "I") (List.mem_of_getElem? (i := 1) rfl)) (fun _ h9 => h9) rfl (by decide +kernel) rfl rfl (Nat.le_of_ble_eq_true rfl) dB_3_0_53.1.1.1.1 (fun H locs hP hD hS => ?_)
  refine pd_K [ob12_0_ mo 0 s1 t2 s3 s4 g5 g6 g7 g8 g9 g10 s11 g12 g13 g14 g15 g16 g17 g18 g19 g20 s21 g22 g23 g24 s25 s26 s27 s28 g29 g30 g31 g32 g33, ai_ cy g5 40 f5, ai_ cy g6 40 f6, ai_ cy g7 40 f7, ai_ cy g8 40 f8, ai_ cy g9 40 f9, az_ cy g10 40 f10] hP hD (fun hP hD => ?_)
  refine lv_aload_n hx hb dB_3_0_53.1.1.1.2 rfl (lv_at hl 0 rfl) ?_
  refine lv_iload_n hx hb dB_3_0_53.1.1.2.1 rfl (lv_at hl 1 rfl) ?_
  refine ct_R hP hD [ob12_0_ mo 0 s1 t2 s3 s4 g5 g6 g7 g8 g9 g10 s11 g12 g13 g14 g15 g16 g17 g18 g19 g20 s21 g22 g23 g24 s25 s26 s27 s28 g29 g30 g31 g32 g33] [0] (by decide) rfl (fun hPc hDw => ?_)
  have hFc := va_free (wc := []) hD hS hA [] rfl
  refine va_calli (va_runV (As := [.int a1]) (rest := []) ⟨hx, hb, hml, hown, hts⟩ (c_X12_isLine l D cy H.size mo g5 g6 g7 g8 g9 g10 g12 g13 g14 g15 g16 g17 g18 g19 g20 g22 g23 g24 g29 g30 g31 g32 g33 (0 : Int32) s1 s3 s4 s11 s21 s25 s26 s27 s28 t2 a1 (by first | with_reducible assumption | omega | assumption)) (cwV 1 hts gX12_told_X12_isLine rfl rfl rfl ⟨rfl, hd_X12_isLine⟩ ⟨Nat.le_of_ble_eq_true rfl, Nat.le_of_ble_eq_true rfl⟩) ⟨bl_, va_recvX hK.1 hP (ci := 12) (q0 := 0) rfl rfl, fun U hU hW => ⟨rfl, by rw [hU], by rw [hU]; exact hPc, kk_mv hW hK, hDw⟩⟩ rfl rfl hl.1 rfl (lv_room (Nat.le_of_ble_eq_true rfl)) dB_3_0_53.1.1.2.2 ⟨Nat.le_of_ble_eq_true rfl, Nat.le_of_ble_eq_true rfl⟩) hS (fun q _ h => hFc q h) hFc (fun r_1 u t H locs ht hvm hw hB hz1 hk1 hS => ?_)
  have hP : va_P D vwCl _ H := ro_keep hP hk1
  rcases hw with ⟨w_2, e_⟩ | ⟨w_2, e_⟩
  · have e_ := e_.symm
    subst e_
    refine lv_if_eq (tgt := 25) hx hb dB_3_0_53.1.2.1.1 (by decide) (fun c_3 => ?_) (fun c_3 => ?_)
    · exact absurd c_3 (by decide)
    · have _ := c_3
      refine lv_iload_n hx hb dB_3_0_53.1.2.1.2 rfl (lv_at hl 2 rfl) ?_
      refine lv_i2l (v := a2.toInt64) hx hb dB_3_0_53.1.2.2.1 rfl ?_
      have q_14 : (a2.toInt64).toInt = a2.toInt := Int32.toInt_toInt64 a2
      refine lv_lconst (v := 0) hx hb dB_3_0_53.1.2.2.2 (by decide) ?_
      refine lv_ldc2 (v := 5) hx hb hown (hts (.constantLong RX12 147 (5)) (List.mem_of_getElem? (i := 2) rfl)) dB_3_0_53.2.1.1.1 ?_
      refine ct_R hP hD [] [] (by decide) rfl (fun hPc hDw => ?_)
      have hFc := va_free (wc := []) hD hS hA [] rfl
      refine va_calli (va_runS (As := [.long a2.toInt64, .long 0, .long 5]) (rest := []) ⟨hx, hb, hml, hown, hts⟩ (c_X12_in l D cy H.size a2.toInt64 (0 : Int64) (5 : Int64)) (va_cwS 3 hts gX12_told_X12_in rfl rfl rfl hd_X12_in ⟨Nat.le_of_ble_eq_true rfl, Nat.le_of_ble_eq_true rfl⟩) ⟨bl_, fun U hU hW => ⟨rfl, by rw [hU], by rw [hU]; exact hPc, kk_mv hW hK, hDw⟩⟩ rfl rfl hl.1 rfl (lv_room (Nat.le_of_ble_eq_true rfl)) dB_3_0_53.2.1.1.2 ⟨Nat.le_of_ble_eq_true rfl, Nat.le_of_ble_eq_true rfl⟩) hS (fun q _ h => hFc q h) hFc (fun r_4 u t H locs ht hvm hw hB hz1 hk1 hS => ?_)
      have hP : va_P D vwCl _ H := ro_keep hP hk1
      rcases hw with ⟨w_5, e_⟩ | ⟨w_5, e_⟩
      · have e_ := e_.symm
        subst e_
        refine lv_if_ne (tgt := 27) hx hb dB_3_0_53.2.1.2.1 (by decide) (fun c_6 => ?_) (fun c_6 => ?_)
        · have _ := c_6
          refine lv_aload_n hx hb dB_3_0_53.2.2.1.2 rfl (lv_at hl 0 rfl) ?_
          refine va_get (ci := 12) (v := .ref g10) (C := RX12) (T := TX12) (N := 34) hx hb hts (fun _ h => List.mem_cons_of_mem _ (List.mem_append_right _ h)) hown hK.1 hP 0 rfl rfl 10 (by decide) (hts (.fieldLink RX12 25 "CutAtlasModel" "isMissing" "[Z") (List.mem_of_getElem? (i := 3) rfl)) (fun _ h9 => h9) rfl dB_3_0_53.2.2.2.1 ?_
          refine lv_iload_n hx hb dB_3_0_53.2.2.2.2 rfl (lv_at hl 1 rfl) ?_
          have h_7 : vp_in a1 40 := in_I (by omega) (by omega)
          refine va_zald hx hb hK.1 hP 6 2 rfl rfl (i := a1) h_7 dB_3_0_54.1.1.1.1 ?_
          refine lv_topi (fun y_8 ey_8 => ?_)
          refine lv_istore_n (lv' := [(3, .int y_8), (0, .ref mo), (1, .int a1), (2, .int a2)]) hx hb dB_3_0_54.1.1.1.2 rfl hl (by decide) rfl (fun ls hl => ?_)
          refine lv_iload_n hx hb dB_3_0_54.1.1.2.1 rfl (lv_at hl 3 rfl) ?_
          refine lv_if_ne (tgt := 47) hx hb dB_3_0_54.1.1.2.2 (by decide) (fun c_9 => ?_) (fun c_9 => ?_)
          · have t_9 : ¬ a2.toInt = (0 : Int32).toInt := fun h => c_9 (Int32.toInt_inj.mp h)
            refine lv_iload_n hx hb dB_3_0_54.2.1.1.2 rfl (lv_at hl 3 rfl) ?_
            refine lv_iconst (v := 1) hx hb dB_3_0_54.2.1.2.1 (by decide) ?_
            refine lv_icmp_ne (tgt := 70) hx hb dB_3_0_54.2.1.2.2 (by decide) (fun c_10 => ?_) (fun c_10 => ?_)
            · have t_10 : ¬ a2.toInt = (1 : Int32).toInt := fun h => c_10 (Int32.toInt_inj.mp h)
              refine lv_iload_n hx hb dB_3_0_55.1.2.1.2 rfl (lv_at hl 3 rfl) ?_
              refine lv_iconst (v := 2) hx hb dB_3_0_55.1.2.2.1 (by decide) ?_
              refine lv_icmp_ne (tgt := 93) hx hb dB_3_0_55.1.2.2.2 (by decide) (fun c_11 => ?_) (fun c_11 => ?_)
              · have t_11 : ¬ a2.toInt = (2 : Int32).toInt := fun h => c_11 (Int32.toInt_inj.mp h)
                refine lv_iload_n hx hb dB_3_0_56.1.2 rfl (lv_at hl 3 rfl) ?_
                refine lv_iconst (v := 3) hx hb dB_3_0_56.2.1 (by decide) ?_
                refine lv_icmp_ne (tgt := 107) hx hb dB_3_0_56.2.2 (by decide) (fun c_12 => ?_) (fun c_12 => ?_)
                · have t_12 : ¬ a2.toInt = (3 : Int32).toInt := fun h => c_12 (Int32.toInt_inj.mp h)
                  refine lv_iload_n hx hb dB_3_1_0.1.2.1.2 rfl (lv_at hl 3 rfl) ?_
                  refine lv_iconst (v := 4) hx hb dB_3_1_0.1.2.2.1 (by decide) ?_
                  refine lv_icmp_ne (tgt := 121) hx hb dB_3_1_0.1.2.2.2 (by decide) (fun c_13 => ?_) (fun c_13 => ?_)
                  · have t_13 : ¬ a2.toInt = (4 : Int32).toInt := fun h => c_13 (Int32.toInt_inj.mp h)
                    refine lv_iload_n hx hb dB_3_1_0.2.2.1.2 rfl (lv_at hl 0 rfl) ?_
                    refine lv_if_eq (tgt := 129) hx hb dB_3_1_0.2.2.2.1 (by decide) (fun c_14 => ?_) (fun c_14 => ?_)
                    · have t_14 : y_8.toInt = (0 : Int32).toInt := congrArg Int32.toInt c_14
                      refine lv_iconst (v := 0) hx hb dB_3_1_1.1.1.1.2 (by decide) ?_
                      rw [hQ]
                      exact W.iret (v := 0) hx hb hr (fun t ht hW => ⟨⟨0, (), rfl, trivial, by rw [ht]; exact hP, hD⟩, hS.F ht⟩) hS.2.2 dB_3_1_1.1.1.2.1
                    · have t_14 : ¬ y_8.toInt = (0 : Int32).toInt := fun h => c_14 (Int32.toInt_inj.mp h)
                      refine lv_iconst (v := 1) hx hb dB_3_1_0.2.2.2.2 (by decide) ?_
                      refine lv_goto (tgt := 130) hx hb dB_3_1_1.1.1.1.1 (by decide) ?_
                      rw [hQ]
                      exact W.iret (v := 1) hx hb hr (fun t ht hW => ⟨⟨1, (), rfl, trivial, by rw [ht]; exact hP, hD⟩, hS.F ht⟩) hS.2.2 dB_3_1_1.1.1.2.1
                  · have t_13 : a2.toInt = (4 : Int32).toInt := congrArg Int32.toInt c_13
                    refine lv_aload_n hx hb dB_3_1_0.2.1.1.1 rfl (lv_at hl 1 rfl) ?_
                    refine va_get (ci := 12) (v := .ref g9) (C := RX12) (T := TX12) (N := 34) hx hb hts (fun _ h => List.mem_cons_of_mem _ (List.mem_append_right _ h)) hown hK.1 hP 0 rfl rfl 9 (by decide) (hts (.fieldLink RX12 22 "CutAtlasModel" "price" "[I") (List.mem_of_getElem? (i := 8) rfl)) (fun _ h9 => h9) rfl dB_3_1_0.2.1.1.2 ?_
                    refine lv_iload_n hx hb dB_3_1_0.2.1.2.1 rfl (lv_at hl 2 rfl) ?_
                    have h_15 : vp_in a1 40 := in_I (by omega) (by omega)
                    refine va_iald hx hb hK.1 hP 5 0 rfl rfl (i := a1) h_15 dB_3_1_0.2.1.2.2 ?_
                    refine lv_topi (fun y_16 ey_16 => ?_)
                    refine lv_goto (tgt := 130) hx hb dB_3_1_0.2.2.1.1 (by decide) ?_
                    rw [hQ]
                    exact W.iret (v := y_16) hx hb hr (fun t ht hW => ⟨⟨y_16, (), rfl, trivial, by rw [ht]; exact hP, hD⟩, hS.F ht⟩) hS.2.2 dB_3_1_1.1.1.2.1
                · have t_12 : a2.toInt = (3 : Int32).toInt := congrArg Int32.toInt c_12
                  refine lv_aload_n hx hb dB_3_1_0.1.1.1.1 rfl (lv_at hl 1 rfl) ?_
                  refine va_get (ci := 12) (v := .ref g8) (C := RX12) (T := TX12) (N := 34) hx hb hts (fun _ h => List.mem_cons_of_mem _ (List.mem_append_right _ h)) hown hK.1 hP 0 rfl rfl 8 (by decide) (hts (.fieldLink RX12 19 "CutAtlasModel" "width" "[I") (List.mem_of_getElem? (i := 7) rfl)) (fun _ h9 => h9) rfl dB_3_1_0.1.1.1.2 ?_
                  refine lv_iload_n hx hb dB_3_1_0.1.1.2.1 rfl (lv_at hl 2 rfl) ?_
                  have h_17 : vp_in a1 40 := in_I (by omega) (by omega)
                  refine va_iald hx hb hK.1 hP 4 0 rfl rfl (i := a1) h_17 dB_3_1_0.1.1.2.2 ?_
                  refine lv_topi (fun y_18 ey_18 => ?_)
                  refine lv_goto (tgt := 130) hx hb dB_3_1_0.1.2.1.1 (by decide) ?_
                  rw [hQ]
                  exact W.iret (v := y_18) hx hb hr (fun t ht hW => ⟨⟨y_18, (), rfl, trivial, by rw [ht]; exact hP, hD⟩, hS.F ht⟩) hS.2.2 dB_3_1_1.1.1.2.1
              · have t_11 : a2.toInt = (2 : Int32).toInt := congrArg Int32.toInt c_11
                refine lv_iload_n hx hb dB_3_0_55.2.1.1.1 rfl (lv_at hl 0 rfl) ?_
                refine lv_if_eq (tgt := 84) hx hb dB_3_0_55.2.1.1.2 (by decide) (fun c_19 => ?_) (fun c_19 => ?_)
                · have t_19 : y_8.toInt = (0 : Int32).toInt := congrArg Int32.toInt c_19
                  refine lv_aload_n hx hb dB_3_0_55.2.2.1.1 rfl (lv_at hl 1 rfl) ?_
                  refine va_get (ci := 12) (v := .ref g7) (C := RX12) (T := TX12) (N := 34) hx hb hts (fun _ h => List.mem_cons_of_mem _ (List.mem_append_right _ h)) hown hK.1 hP 0 rfl rfl 7 (by decide) (hts (.fieldLink RX12 16 "CutAtlasModel" "to" "[I") (List.mem_of_getElem? (i := 6) rfl)) (fun _ h9 => h9) rfl dB_3_0_55.2.2.1.2 ?_
                  refine lv_iload_n hx hb dB_3_0_55.2.2.2.1 rfl (lv_at hl 2 rfl) ?_
                  have h_20 : vp_in a1 40 := in_I (by omega) (by omega)
                  refine va_iald hx hb hK.1 hP 3 0 rfl rfl (i := a1) h_20 dB_3_0_55.2.2.2.2 ?_
                  refine lv_topi (fun y_21 ey_21 => ?_)
                  refine lv_goto (tgt := 130) hx hb dB_3_0_56.1.1 (by decide) ?_
                  rw [hQ]
                  exact W.iret (v := y_21) hx hb hr (fun t ht hW => ⟨⟨y_21, (), rfl, trivial, by rw [ht]; exact hP, hD⟩, hS.F ht⟩) hS.2.2 dB_3_1_1.1.1.2.1
                · have t_19 : ¬ y_8.toInt = (0 : Int32).toInt := fun h => c_19 (Int32.toInt_inj.mp h)
                  refine lv_bipush (v := (-9)) hx hb dB_3_0_55.2.1.2.1 (by decide) ?_
                  refine lv_goto (tgt := 130) hx hb dB_3_0_55.2.1.2.2 (by decide) ?_
                  rw [hQ]
                  exact W.iret (v := (-9)) hx hb hr (fun t ht hW => ⟨⟨(-9), (), rfl, trivial, by rw [ht]; exact hP, hD⟩, hS.F ht⟩) hS.2.2 dB_3_1_1.1.1.2.1
            · have t_10 : a2.toInt = (1 : Int32).toInt := congrArg Int32.toInt c_10
              refine lv_iload_n hx hb dB_3_0_54.2.2.1.1 rfl (lv_at hl 0 rfl) ?_
              refine lv_if_eq (tgt := 61) hx hb dB_3_0_54.2.2.1.2 (by decide) (fun c_22 => ?_) (fun c_22 => ?_)
              · have t_22 : y_8.toInt = (0 : Int32).toInt := congrArg Int32.toInt c_22
                refine lv_aload_n hx hb dB_3_0_55.1.1.1.1 rfl (lv_at hl 1 rfl) ?_
                refine va_get (ci := 12) (v := .ref g6) (C := RX12) (T := TX12) (N := 34) hx hb hts (fun _ h => List.mem_cons_of_mem _ (List.mem_append_right _ h)) hown hK.1 hP 0 rfl rfl 6 (by decide) (hts (.fieldLink RX12 13 "CutAtlasModel" "from" "[I") (List.mem_of_getElem? (i := 5) rfl)) (fun _ h9 => h9) rfl dB_3_0_55.1.1.1.2 ?_
                refine lv_iload_n hx hb dB_3_0_55.1.1.2.1 rfl (lv_at hl 2 rfl) ?_
                have h_23 : vp_in a1 40 := in_I (by omega) (by omega)
                refine va_iald hx hb hK.1 hP 2 0 rfl rfl (i := a1) h_23 dB_3_0_55.1.1.2.2 ?_
                refine lv_topi (fun y_24 ey_24 => ?_)
                refine lv_goto (tgt := 130) hx hb dB_3_0_55.1.2.1.1 (by decide) ?_
                rw [hQ]
                exact W.iret (v := y_24) hx hb hr (fun t ht hW => ⟨⟨y_24, (), rfl, trivial, by rw [ht]; exact hP, hD⟩, hS.F ht⟩) hS.2.2 dB_3_1_1.1.1.2.1
              · have t_22 : ¬ y_8.toInt = (0 : Int32).toInt := fun h => c_22 (Int32.toInt_inj.mp h)
                refine lv_bipush (v := (-9)) hx hb dB_3_0_54.2.2.2.1 (by decide) ?_
                refine lv_goto (tgt := 130) hx hb dB_3_0_54.2.2.2.2 (by decide) ?_
                rw [hQ]
                exact W.iret (v := (-9)) hx hb hr (fun t ht hW => ⟨⟨(-9), (), rfl, trivial, by rw [ht]; exact hP, hD⟩, hS.F ht⟩) hS.2.2 dB_3_1_1.1.1.2.1
          · have t_9 : a2.toInt = (0 : Int32).toInt := congrArg Int32.toInt c_9
            refine lv_aload_n hx hb dB_3_0_54.1.2.1.1 rfl (lv_at hl 1 rfl) ?_
            refine va_get (ci := 12) (v := .ref g5) (C := RX12) (T := TX12) (N := 34) hx hb hts (fun _ h => List.mem_cons_of_mem _ (List.mem_append_right _ h)) hown hK.1 hP 0 rfl rfl 5 (by decide) (hts (.fieldLink RX12 7 "CutAtlasModel" "kind" "[I") (List.mem_of_getElem? (i := 4) rfl)) (fun _ h9 => h9) rfl dB_3_0_54.1.2.1.2 ?_
            refine lv_iload_n hx hb dB_3_0_54.1.2.2.1 rfl (lv_at hl 2 rfl) ?_
            have h_25 : vp_in a1 40 := in_I (by omega) (by omega)
            refine va_iald hx hb hK.1 hP 1 0 rfl rfl (i := a1) h_25 dB_3_0_54.1.2.2.2 ?_
            refine lv_topi (fun y_26 ey_26 => ?_)
            refine lv_goto (tgt := 130) hx hb dB_3_0_54.2.1.1.1 (by decide) ?_
            rw [hQ]
            exact W.iret (v := y_26) hx hb hr (fun t ht hW => ⟨⟨y_26, (), rfl, trivial, by rw [ht]; exact hP, hD⟩, hS.F ht⟩) hS.2.2 dB_3_1_1.1.1.2.1
        · exact absurd c_6 (by decide)
      · have e_ := e_.symm
        subst e_
        refine lv_if_ne (tgt := 27) hx hb dB_3_0_53.2.1.2.1 (by decide) (fun c_27 => ?_) (fun c_27 => ?_)
        · exact absurd c_27 (by decide)
        · have _ := c_27
          refine lv_iconst (v := (-1)) hx hb dB_3_0_53.2.1.2.2 (by decide) ?_
          rw [hQ]
          exact W.iret (v := (-1)) hx hb hr (fun t ht hW => ⟨⟨(-1), (), rfl, trivial, by rw [ht]; exact hP, hD⟩, hS.F ht⟩) hS.2.2 dB_3_0_53.2.2.1.1
  · have e_ := e_.symm
    subst e_
    refine lv_if_eq (tgt := 25) hx hb dB_3_0_53.1.2.1.1 (by decide) (fun c_28 => ?_) (fun c_28 => ?_)
    · have _ := c_28
      refine lv_iconst (v := (-1)) hx hb dB_3_0_53.2.1.2.2 (by decide) ?_
      rw [hQ]
      exact W.iret (v := (-1)) hx hb hr (fun t ht hW => ⟨⟨(-1), (), rfl, trivial, by rw [ht]; exact hP, hD⟩, hS.F ht⟩) hS.2.2 dB_3_0_53.2.2.1.1
    · exact absurd c_28 (by decide)

set_option maxHeartbeats 4000000 in
set_option maxRecDepth 100000 in
theorem c_X12_ask (l : Launch) (D : va_G) (cy : Nat → ClassId) (sz : Nat) (mo : Nat) (g5 : Nat) (g6 : Nat) (g7 : Nat) (g8 : Nat) (g9 : Nat) (g10 : Nat) (g12 : Nat) (g13 : Nat) (g14 : Nat) (g15 : Nat) (g16 : Nat) (g17 : Nat) (g18 : Nat) (g19 : Nat) (g20 : Nat) (g22 : Nat) (g23 : Nat) (g24 : Nat) (g29 : Nat) (g30 : Nat) (g31 : Nat) (g32 : Nat) (g33 : Nat) (s0 : Int32) (s1 : Int32) (s3 : Int32) (s4 : Int32) (s11 : Int32) (s21 : Int32) (s25 : Int32) (s26 : Int32) (s27 : Int32) (s28 : Int32) (t2 : Int64) (f5 : Nat → Int32) (f8 : Nat → Int32) (f9 : Nat → Int32) (a1 : Int32) (a2 : Int32) (hN : 0 ≤ s4.toInt ∧ s4.toInt ≤ 40) : Met l yX12_ask wsX12_ask ({ frames := 2, cells := 0, slots := 0, locals := 46 }) (va_Pc [.ref mo, .int a1, .int a2] (fun U => U.heap.size = sz ∧ va_P D vwCl [ob12_0_ mo s0 s1 t2 s3 s4 g5 g6 g7 g8 g9 g10 s11 g12 g13 g14 g15 g16 g17 g18 g19 g20 s21 g22 g23 g24 s25 s26 s27 s28 g29 g30 g31 g32 g33, ai_ cy g5 40 f5, ai_ cy g8 40 f8, ai_ cy g9 40 f9] U.heap ∧ kk_ D cy U ∧ va_D (fun _ => True) [ob12_0_ mo s0 s1 t2 s3 s4 g5 g6 g7 g8 g9 g10 s11 g12 g13 g14 g15 g16 g17 g18 g19 g20 s21 g22 g23 g24 s25 s26 s27 s28 g29 g30 g31 g32 g33, ai_ cy g5 40 f5, ai_ cy g8 40 f8, ai_ cy g9 40 f9])) (va_Qi (fun (r : Int32) (_ : Unit) => True) (fun (_ : Unit) (t : State) => ∃ (n2 : Int64), va_P D vwCl [ob12_0_ mo 0 s1 n2 s3 s4 g5 g6 g7 g8 g9 g10 s11 g12 g13 g14 g15 g16 g17 g18 g19 g20 s21 g22 g23 g24 s25 s26 s27 s28 g29 g30 g31 g32 g33, ai_ cy g5 40 f5, ai_ cy g8 40 f8, ai_ cy g9 40 f9] t.heap ∧ va_D (va_A [ob12_0_ mo s0 s1 t2 s3 s4 g5 g6 g7 g8 g9 g10 s11 g12 g13 g14 g15 g16 g17 g18 g19 g20 s21 g22 g23 g24 s25 s26 s27 s28 g29 g30 g31 g32 g33, ai_ cy g5 40 f5, ai_ cy g8 40 f8, ai_ cy g9 40 f9] sz) [ob12_0_ mo 0 s1 n2 s3 s4 g5 g6 g7 g8 g9 g10 s11 g12 g13 g14 g15 g16 g17 g18 g19 g20 s21 g22 g23 g24 s25 s26 s27 s28 g29 g30 g31 g32 g33, ai_ cy g5 40 f5, ai_ cy g8 40 f8, ai_ cy g9 40 f9]) (va_A [ob12_0_ mo s0 s1 t2 s3 s4 g5 g6 g7 g8 g9 g10 s11 g12 g13 g14 g15 g16 g17 g18 g19 g20 s21 g22 g23 g24 s25 s26 s27 s28 g29 g30 g31 g32 g33, ai_ cy g5 40 f5, ai_ cy g8 40 f8, ai_ cy g9 40 f9] sz)) 0 0 (va_A [ob12_0_ mo s0 s1 t2 s3 s4 g5 g6 g7 g8 g9 g10 s11 g12 g13 g14 g15 g16 g17 g18 g19 g20 s21 g22 g23 g24 s25 s26 s27 s28 g29 g30 g31 g32 g33, ai_ cy g5 40 f5, ai_ cy g8 40 f8, ai_ cy g9 40 f9] sz) := by
  refine ofQ (cc := cX12_ask) (maxL := 4) (ret := (some .int)) (by decide) rfl ?_
  intro p e s m args below meth c s₁ Q hQ B hml hv
  obtain ⟨rfl, hsz, hP, hK, hD0⟩ := hv
  have hx := B.exec
  have hb := B.bytes
  have hr := B.returns
  have hts := atoms_spec (ws := wsX12_ask) B.pre
  have hown : s.vm.findClass RX12 = some m.cls := by have h_ := findClass_of_methodNamed B.named; exact h_
  have hlocks := B.notSynchronized
  subst hsz
  have hD := hD0.self (sz := s.heap.size)
  generalize hAe : va_A [ob12_0_ mo s0 s1 t2 s3 s4 g5 g6 g7 g8 g9 g10 s11 g12 g13 g14 g15 g16 g17 g18 g19 g20 s21 g22 g23 g24 s25 s26 s27 s28 g29 g30 g31 g32 g33, ai_ cy g5 40 f5, ai_ cy g8 40 f8, ai_ cy g9 40 f9] s.heap.size = A at hD hQ
  have hA : ∀ q : Nat, s.heap.size ≤ q → A q := fun q h => by rw [← hAe]; exact Or.inr h
  have hS : va_S A s.heap s.heap [] := va_S.rf
  have hl := lv_entry ([.ref mo, .int a1, .int a2]) (n := 4) (Nat.le_of_ble_eq_true rfl)
  rw [lg_entry_eq]
  generalize (lg_sl ([.ref mo, .int a1, .int a2]) ++ List.replicate (4 - (lg_sl ([.ref mo, .int a1, .int a2])).length) Slot.unset).toArray = ls at hl ⊢
  have hl : lv_has ls 4 [(0, .ref mo), (1, .int a1), (2, .int a2)] := hl
  have zm1 : ((-1) : Int32).toInt = -1 := by decide
  have z0 : (0 : Int32).toInt = 0 := by decide
  have zl0 : (0 : Int64).toInt = 0 := by decide
  have z1 : (1 : Int32).toInt = 1 := by decide
  have z2 : (2 : Int32).toInt = 2 := by decide
  have zl2 : (2 : Int64).toInt = 2 := by decide
  refine lv_aload_n hx hb dB_3_1_2.2.1.2.1 rfl (lv_at hl 0 rfl) ?_
  refine lv_iconst (v := 0) hx hb dB_3_1_2.2.1.2.2 (by decide) ?_
  refine va_put (ci := 12) (v := .int 0) (ty := .int) (C := RX12) (T := TX12) (N := 34) hx hb hts (fun _ h => List.mem_cons_of_mem _ (List.mem_append_right _ h)) tyX12 tyX12_ok nmX12 hown hK.1 hP hD hS 0 rfl rfl 0 (by decide) (hts (.fieldLink RX12 85 "CutAtlasModel" "thrown" "I") (List.mem_of_getElem? (i := 1) rfl)) (fun _ h9 => h9) rfl (by decide +kernel) rfl rfl (Nat.le_of_ble_eq_true rfl) dB_3_1_2.2.2.1.1 (fun H locs hP hD hS => ?_)
  refine pd_K [ob12_0_ mo 0 s1 t2 s3 s4 g5 g6 g7 g8 g9 g10 s11 g12 g13 g14 g15 g16 g17 g18 g19 g20 s21 g22 g23 g24 s25 s26 s27 s28 g29 g30 g31 g32 g33, ai_ cy g5 40 f5, ai_ cy g8 40 f8, ai_ cy g9 40 f9] hP hD (fun hP hD => ?_)
  refine lv_aload_n hx hb dB_3_1_2.2.2.1.2 rfl (lv_at hl 0 rfl) ?_
  refine lv_iload_n hx hb dB_3_1_2.2.2.2.1 rfl (lv_at hl 1 rfl) ?_
  refine ct_R hP hD [ob12_0_ mo 0 s1 t2 s3 s4 g5 g6 g7 g8 g9 g10 s11 g12 g13 g14 g15 g16 g17 g18 g19 g20 s21 g22 g23 g24 s25 s26 s27 s28 g29 g30 g31 g32 g33] [0] (by decide) rfl (fun hPc hDw => ?_)
  have hFc := va_free (wc := []) hD hS hA [] rfl
  refine va_calli (va_runV (As := [.int a1]) (rest := []) ⟨hx, hb, hml, hown, hts⟩ (c_X12_isLine l D cy H.size mo g5 g6 g7 g8 g9 g10 g12 g13 g14 g15 g16 g17 g18 g19 g20 g22 g23 g24 g29 g30 g31 g32 g33 (0 : Int32) s1 s3 s4 s11 s21 s25 s26 s27 s28 t2 a1 (by first | with_reducible assumption | omega | assumption)) (cwV 1 hts gX12_ask_X12_isLine rfl rfl rfl ⟨rfl, hd_X12_isLine⟩ ⟨Nat.le_of_ble_eq_true rfl, Nat.le_of_ble_eq_true rfl⟩) ⟨bl_, va_recvX hK.1 hP (ci := 12) (q0 := 0) rfl rfl, fun U hU hW => ⟨rfl, by rw [hU], by rw [hU]; exact hPc, kk_mv hW hK, hDw⟩⟩ rfl rfl hl.1 rfl (lv_room (Nat.le_of_ble_eq_true rfl)) dB_3_1_2.2.2.2.2 ⟨Nat.le_of_ble_eq_true rfl, Nat.le_of_ble_eq_true rfl⟩) hS (fun q _ h => hFc q h) hFc (fun r_1 u t H locs ht hvm hw hB hz1 hk1 hS => ?_)
  have hP : va_P D vwCl _ H := ro_keep hP hk1
  rcases hw with ⟨w_2, e_⟩ | ⟨w_2, e_⟩
  · have e_ := e_.symm
    subst e_
    refine lv_if_eq (tgt := 25) hx hb dB_3_1_3.1.1.1.1 (by decide) (fun c_3 => ?_) (fun c_3 => ?_)
    · exact absurd c_3 (by decide)
    · have _ := c_3
      refine lv_iload_n hx hb dB_3_1_3.1.1.1.2 rfl (lv_at hl 2 rfl) ?_
      refine lv_i2l (v := a2.toInt64) hx hb dB_3_1_3.1.1.2.1 rfl ?_
      have q_14 : (a2.toInt64).toInt = a2.toInt := Int32.toInt_toInt64 a2
      refine lv_lconst (v := 0) hx hb dB_3_1_3.1.1.2.2 (by decide) ?_
      refine lv_ldc2 (v := 2) hx hb hown (hts (.constantLong RX12 149 (2)) (List.mem_of_getElem? (i := 2) rfl)) dB_3_1_3.1.2.1.1 ?_
      refine ct_R hP hD [] [] (by decide) rfl (fun hPc hDw => ?_)
      have hFc := va_free (wc := []) hD hS hA [] rfl
      refine va_calli (va_runS (As := [.long a2.toInt64, .long 0, .long 2]) (rest := []) ⟨hx, hb, hml, hown, hts⟩ (c_X12_in l D cy H.size a2.toInt64 (0 : Int64) (2 : Int64)) (va_cwS 3 hts gX12_ask_X12_in rfl rfl rfl hd_X12_in ⟨Nat.le_of_ble_eq_true rfl, Nat.le_of_ble_eq_true rfl⟩) ⟨bl_, fun U hU hW => ⟨rfl, by rw [hU], by rw [hU]; exact hPc, kk_mv hW hK, hDw⟩⟩ rfl rfl hl.1 rfl (lv_room (Nat.le_of_ble_eq_true rfl)) dB_3_1_3.1.2.1.2 ⟨Nat.le_of_ble_eq_true rfl, Nat.le_of_ble_eq_true rfl⟩) hS (fun q _ h => hFc q h) hFc (fun r_4 u t H locs ht hvm hw hB hz1 hk1 hS => ?_)
      have hP : va_P D vwCl _ H := ro_keep hP hk1
      rcases hw with ⟨w_5, e_⟩ | ⟨w_5, e_⟩
      · have e_ := e_.symm
        subst e_
        refine lv_if_ne (tgt := 27) hx hb dB_3_1_3.1.2.2.1 (by decide) (fun c_6 => ?_) (fun c_6 => ?_)
        · have _ := c_6
          refine lv_iload_n hx hb dB_3_1_3.2.1.1.2 rfl (lv_at hl 2 rfl) ?_
          refine lv_iconst (v := 2) hx hb dB_3_1_3.2.1.2.1 (by decide) ?_
          refine lv_icmp_ne (tgt := 52) hx hb dB_3_1_3.2.1.2.2 (by decide) (fun c_7 => ?_) (fun c_7 => ?_)
          · have t_7 : ¬ a2.toInt = (2 : Int32).toInt := fun h => c_7 (Int32.toInt_inj.mp h)
            refine lv_iload_n hx hb dB_3_1_4.2.1.1.1 rfl (lv_at hl 2 rfl) ?_
            refine lv_if_ne (tgt := 60) hx hb dB_3_1_4.2.1.1.2 (by decide) (fun c_8 => ?_) (fun c_8 => ?_)
            · have t_8 : ¬ a2.toInt = (0 : Int32).toInt := fun h => c_8 (Int32.toInt_inj.mp h)
              refine lv_iconst (v := 0) hx hb dB_3_1_4.2.2.1.1 (by decide) ?_
              refine lv_istore_n (lv' := [(3, .int 0), (0, .ref mo), (1, .int a1), (2, .int a2)]) hx hb dB_3_1_4.2.2.1.2 rfl hl (by decide) rfl (fun ls hl => ?_)
              refine lv_aload_n hx hb dB_3_1_4.2.2.2.1 rfl (lv_at hl 1 rfl) ?_
              refine lv_dup hx hb dB_3_1_4.2.2.2.2 rfl ?_
              refine va_get (ci := 12) (v := .long t2) (C := RX12) (T := TX12) (N := 34) hx hb hts (fun _ h => List.mem_cons_of_mem _ (List.mem_append_right _ h)) hown hK.1 hP 0 rfl rfl 2 (by decide) (hts (.fieldLink RX12 114 "CutAtlasModel" "trace" "J") (List.mem_of_getElem? (i := 3) rfl)) (fun _ h9 => h9) rfl dB_3_1_5.1.1.1.1 ?_
              refine lv_aload_n hx hb dB_3_1_5.1.1.1.2 rfl (lv_at hl 1 rfl) ?_
              refine va_get (ci := 12) (v := .ref g5) (C := RX12) (T := TX12) (N := 34) hx hb hts (fun _ h => List.mem_cons_of_mem _ (List.mem_append_right _ h)) hown hK.1 hP 0 rfl rfl 5 (by decide) (hts (.fieldLink RX12 7 "CutAtlasModel" "kind" "[I") (List.mem_of_getElem? (i := 4) rfl)) (fun _ h9 => h9) rfl dB_3_1_5.1.1.2.1 ?_
              refine lv_iload_n hx hb dB_3_1_5.1.1.2.2 rfl (lv_at hl 2 rfl) ?_
              have h_9 : vp_in a1 40 := in_I (by omega) (by omega)
              refine va_iald hx hb hK.1 hP 1 0 rfl rfl (i := a1) h_9 dB_3_1_5.1.2.1.1 ?_
              refine lv_topi (fun y_10 ey_10 => ?_)
              refine lv_iconst (v := 2) hx hb dB_3_1_5.1.2.1.2 (by decide) ?_
              refine lv_icmp_ne (tgt := 83) hx hb dB_3_1_5.1.2.2.1 (by decide) (fun c_11 => ?_) (fun c_11 => ?_)
              · have t_11 : ¬ y_10.toInt = (2 : Int32).toInt := fun h => c_11 (Int32.toInt_inj.mp h)
                refine lv_aload_n hx hb dB_3_1_5.2.1.1.2 rfl (lv_at hl 1 rfl) ?_
                refine va_get (ci := 12) (v := .ref g5) (C := RX12) (T := TX12) (N := 34) hx hb hts (fun _ h => List.mem_cons_of_mem _ (List.mem_append_right _ h)) hown hK.1 hP 0 rfl rfl 5 (by decide) (hts (.fieldLink RX12 7 "CutAtlasModel" "kind" "[I") (List.mem_of_getElem? (i := 4) rfl)) (fun _ h9 => h9) rfl dB_3_1_5.2.1.2.1 ?_
                refine lv_iload_n hx hb dB_3_1_5.2.1.2.2 rfl (lv_at hl 2 rfl) ?_
                have h_12 : vp_in a1 40 := in_I (by omega) (by omega)
                refine va_iald hx hb hK.1 hP 1 0 rfl rfl (i := a1) h_12 dB_3_1_5.2.2.1.1 ?_
                refine lv_topi (fun y_13 ey_13 => ?_)
                have e_ := (ey_13.trans ey_10.symm).symm
                subst e_
                skip
                refine lv_iconst (v := 1) hx hb dB_3_1_5.2.2.1.2 (by decide) ?_
                refine lv_icmp_ne (tgt := 109) hx hb dB_3_1_5.2.2.2.1 (by decide) (fun c_14 => ?_) (fun c_14 => ?_)
                · have t_14 : ¬ y_10.toInt = (1 : Int32).toInt := fun h => c_14 (Int32.toInt_inj.mp h)
                  refine lv_lconst (v := 1) hx hb dB_3_1_6.1.2.1.2 (by decide) ?_
                  refine lv_ladd hx hb dB_3_1_6.1.2.2.1 ?_
                  refine lv_topl (fun y_15 ey_15 => ?_)
                  refine va_put (ci := 12) (v := .long y_15) (ty := .long) (C := RX12) (T := TX12) (N := 34) hx hb hts (fun _ h => List.mem_cons_of_mem _ (List.mem_append_right _ h)) tyX12 tyX12_ok nmX12 hown hK.1 hP hD hS 0 rfl rfl 2 (by decide) (hts (.fieldLink RX12 114 "CutAtlasModel" "trace" "J") (List.mem_of_getElem? (i := 3) rfl)) (fun _ h9 => h9) rfl (by decide +kernel) rfl rfl (Nat.le_of_ble_eq_true rfl) dB_3_1_6.1.2.2.2 (fun H locs hP hD hS => ?_)
                  refine pd_K [ob12_0_ mo 0 s1 y_15 s3 s4 g5 g6 g7 g8 g9 g10 s11 g12 g13 g14 g15 g16 g17 g18 g19 g20 s21 g22 g23 g24 s25 s26 s27 s28 g29 g30 g31 g32 g33, ai_ cy g5 40 f5, ai_ cy g8 40 f8, ai_ cy g9 40 f9] hP hD (fun hP hD => ?_)
                  refine lv_aload_n hx hb dB_3_1_6.2.1.1.1 rfl (lv_at hl 1 rfl) ?_
                  refine lv_iload_n hx hb dB_3_1_6.2.1.1.2 rfl (lv_at hl 2 rfl) ?_
                  refine lv_iload_n hx hb dB_3_1_6.2.1.2.1 rfl (lv_at hl 0 rfl) ?_
                  refine ct_R hP hD [ob12_0_ mo 0 s1 y_15 s3 s4 g5 g6 g7 g8 g9 g10 s11 g12 g13 g14 g15 g16 g17 g18 g19 g20 s21 g22 g23 g24 s25 s26 s27 s28 g29 g30 g31 g32 g33, ai_ cy g5 40 f5, ai_ cy g8 40 f8] [0, 1, 2] (by decide) rfl (fun hPc hDw => ?_)
                  have hFc := va_free (wc := []) hD hS hA [] rfl
                  refine va_calli (va_runV (As := [.int a1, .int 0]) (rest := []) ⟨hx, hb, hml, hown, hts⟩ (c_X12_lets l D cy H.size mo g5 g6 g7 g8 g9 g10 g12 g13 g14 g15 g16 g17 g18 g19 g20 g22 g23 g24 g29 g30 g31 g32 g33 (0 : Int32) s1 s3 s4 s11 s21 s25 s26 s27 s28 y_15 f5 f8 a1 (0 : Int32) (by first | with_reducible assumption | omega | assumption)) (cwV 2 hts gX12_ask_X12_lets rfl rfl rfl ⟨rfl, hd_X12_lets⟩ ⟨Nat.le_of_ble_eq_true rfl, Nat.le_of_ble_eq_true rfl⟩) ⟨bl_, va_recvX hK.1 hP (ci := 12) (q0 := 0) rfl rfl, fun U hU hW => ⟨rfl, by rw [hU], by rw [hU]; exact hPc, kk_mv hW hK, hDw⟩⟩ rfl rfl hl.1 rfl (lv_room (Nat.le_of_ble_eq_true rfl)) dB_3_1_6.2.1.2.2 ⟨Nat.le_of_ble_eq_true rfl, Nat.le_of_ble_eq_true rfl⟩) hS (fun q _ h => hFc q h) hFc (fun r_16 u t H locs ht hvm hw hB hz1 hk1 hS => ?_)
                  have hP : va_P D vwCl _ H := ro_keep hP hk1
                  have f0_r_16 := hw
                  rw [hQ]
                  exact W.iret (v := r_16) hx hb hr (fun t ht hW => ⟨⟨r_16, (), rfl, trivial, y_15, by rw [ht]; exact hP, hD⟩, hS.F ht⟩) hS.2.2 dB_3_1_6.2.2.1.1
                · have t_14 : y_10.toInt = (1 : Int32).toInt := congrArg Int32.toInt c_14
                  refine lv_iload_n hx hb dB_3_1_5.2.2.2.2 rfl (lv_at hl 0 rfl) ?_
                  refine lv_if_eq (tgt := 103) hx hb dB_3_1_6.1.1.1.1 (by decide) (fun c_17 => ?_) (fun c_17 => ?_)
                  · have _ := c_17
                    refine lv_ldc2 (v := 10) hx hb hown (hts (.constantLong RX12 153 (10)) (List.mem_of_getElem? (i := 7) rfl)) dB_3_1_6.1.1.2.2 ?_
                    refine lv_goto (tgt := 110) hx hb dB_3_1_6.1.2.1.1 (by decide) ?_
                    refine lv_ladd hx hb dB_3_1_6.1.2.2.1 ?_
                    refine lv_topl (fun y_18 ey_18 => ?_)
                    refine va_put (ci := 12) (v := .long y_18) (ty := .long) (C := RX12) (T := TX12) (N := 34) hx hb hts (fun _ h => List.mem_cons_of_mem _ (List.mem_append_right _ h)) tyX12 tyX12_ok nmX12 hown hK.1 hP hD hS 0 rfl rfl 2 (by decide) (hts (.fieldLink RX12 114 "CutAtlasModel" "trace" "J") (List.mem_of_getElem? (i := 3) rfl)) (fun _ h9 => h9) rfl (by decide +kernel) rfl rfl (Nat.le_of_ble_eq_true rfl) dB_3_1_6.1.2.2.2 (fun H locs hP hD hS => ?_)
                    refine pd_K [ob12_0_ mo 0 s1 y_18 s3 s4 g5 g6 g7 g8 g9 g10 s11 g12 g13 g14 g15 g16 g17 g18 g19 g20 s21 g22 g23 g24 s25 s26 s27 s28 g29 g30 g31 g32 g33, ai_ cy g5 40 f5, ai_ cy g8 40 f8, ai_ cy g9 40 f9] hP hD (fun hP hD => ?_)
                    refine lv_aload_n hx hb dB_3_1_6.2.1.1.1 rfl (lv_at hl 1 rfl) ?_
                    refine lv_iload_n hx hb dB_3_1_6.2.1.1.2 rfl (lv_at hl 2 rfl) ?_
                    refine lv_iload_n hx hb dB_3_1_6.2.1.2.1 rfl (lv_at hl 0 rfl) ?_
                    refine ct_R hP hD [ob12_0_ mo 0 s1 y_18 s3 s4 g5 g6 g7 g8 g9 g10 s11 g12 g13 g14 g15 g16 g17 g18 g19 g20 s21 g22 g23 g24 s25 s26 s27 s28 g29 g30 g31 g32 g33, ai_ cy g5 40 f5, ai_ cy g8 40 f8] [0, 1, 2] (by decide) rfl (fun hPc hDw => ?_)
                    have hFc := va_free (wc := []) hD hS hA [] rfl
                    refine va_calli (va_runV (As := [.int a1, .int 0]) (rest := []) ⟨hx, hb, hml, hown, hts⟩ (c_X12_lets l D cy H.size mo g5 g6 g7 g8 g9 g10 g12 g13 g14 g15 g16 g17 g18 g19 g20 g22 g23 g24 g29 g30 g31 g32 g33 (0 : Int32) s1 s3 s4 s11 s21 s25 s26 s27 s28 y_18 f5 f8 a1 (0 : Int32) (by first | with_reducible assumption | omega | assumption)) (cwV 2 hts gX12_ask_X12_lets rfl rfl rfl ⟨rfl, hd_X12_lets⟩ ⟨Nat.le_of_ble_eq_true rfl, Nat.le_of_ble_eq_true rfl⟩) ⟨bl_, va_recvX hK.1 hP (ci := 12) (q0 := 0) rfl rfl, fun U hU hW => ⟨rfl, by rw [hU], by rw [hU]; exact hPc, kk_mv hW hK, hDw⟩⟩ rfl rfl hl.1 rfl (lv_room (Nat.le_of_ble_eq_true rfl)) dB_3_1_6.2.1.2.2 ⟨Nat.le_of_ble_eq_true rfl, Nat.le_of_ble_eq_true rfl⟩) hS (fun q _ h => hFc q h) hFc (fun r_19 u t H locs ht hvm hw hB hz1 hk1 hS => ?_)
                    have hP : va_P D vwCl _ H := ro_keep hP hk1
                    have f0_r_19 := hw
                    rw [hQ]
                    exact W.iret (v := r_19) hx hb hr (fun t ht hW => ⟨⟨r_19, (), rfl, trivial, y_18, by rw [ht]; exact hP, hD⟩, hS.F ht⟩) hS.2.2 dB_3_1_6.2.2.1.1
                  · exact absurd c_17 (by decide)
              · have t_11 : y_10.toInt = (2 : Int32).toInt := congrArg Int32.toInt c_11
                refine lv_ldc2 (v := 100) hx hb hown (hts (.constantLong RX12 112 (100)) (List.mem_of_getElem? (i := 5) rfl)) dB_3_1_5.1.2.2.2 ?_
                refine lv_goto (tgt := 110) hx hb dB_3_1_5.2.1.1.1 (by decide) ?_
                refine lv_ladd hx hb dB_3_1_6.1.2.2.1 ?_
                refine lv_topl (fun y_20 ey_20 => ?_)
                refine va_put (ci := 12) (v := .long y_20) (ty := .long) (C := RX12) (T := TX12) (N := 34) hx hb hts (fun _ h => List.mem_cons_of_mem _ (List.mem_append_right _ h)) tyX12 tyX12_ok nmX12 hown hK.1 hP hD hS 0 rfl rfl 2 (by decide) (hts (.fieldLink RX12 114 "CutAtlasModel" "trace" "J") (List.mem_of_getElem? (i := 3) rfl)) (fun _ h9 => h9) rfl (by decide +kernel) rfl rfl (Nat.le_of_ble_eq_true rfl) dB_3_1_6.1.2.2.2 (fun H locs hP hD hS => ?_)
                refine pd_K [ob12_0_ mo 0 s1 y_20 s3 s4 g5 g6 g7 g8 g9 g10 s11 g12 g13 g14 g15 g16 g17 g18 g19 g20 s21 g22 g23 g24 s25 s26 s27 s28 g29 g30 g31 g32 g33, ai_ cy g5 40 f5, ai_ cy g8 40 f8, ai_ cy g9 40 f9] hP hD (fun hP hD => ?_)
                refine lv_aload_n hx hb dB_3_1_6.2.1.1.1 rfl (lv_at hl 1 rfl) ?_
                refine lv_iload_n hx hb dB_3_1_6.2.1.1.2 rfl (lv_at hl 2 rfl) ?_
                refine lv_iload_n hx hb dB_3_1_6.2.1.2.1 rfl (lv_at hl 0 rfl) ?_
                refine ct_R hP hD [ob12_0_ mo 0 s1 y_20 s3 s4 g5 g6 g7 g8 g9 g10 s11 g12 g13 g14 g15 g16 g17 g18 g19 g20 s21 g22 g23 g24 s25 s26 s27 s28 g29 g30 g31 g32 g33, ai_ cy g5 40 f5, ai_ cy g8 40 f8] [0, 1, 2] (by decide) rfl (fun hPc hDw => ?_)
                have hFc := va_free (wc := []) hD hS hA [] rfl
                refine va_calli (va_runV (As := [.int a1, .int 0]) (rest := []) ⟨hx, hb, hml, hown, hts⟩ (c_X12_lets l D cy H.size mo g5 g6 g7 g8 g9 g10 g12 g13 g14 g15 g16 g17 g18 g19 g20 g22 g23 g24 g29 g30 g31 g32 g33 (0 : Int32) s1 s3 s4 s11 s21 s25 s26 s27 s28 y_20 f5 f8 a1 (0 : Int32) (by first | with_reducible assumption | omega | assumption)) (cwV 2 hts gX12_ask_X12_lets rfl rfl rfl ⟨rfl, hd_X12_lets⟩ ⟨Nat.le_of_ble_eq_true rfl, Nat.le_of_ble_eq_true rfl⟩) ⟨bl_, va_recvX hK.1 hP (ci := 12) (q0 := 0) rfl rfl, fun U hU hW => ⟨rfl, by rw [hU], by rw [hU]; exact hPc, kk_mv hW hK, hDw⟩⟩ rfl rfl hl.1 rfl (lv_room (Nat.le_of_ble_eq_true rfl)) dB_3_1_6.2.1.2.2 ⟨Nat.le_of_ble_eq_true rfl, Nat.le_of_ble_eq_true rfl⟩) hS (fun q _ h => hFc q h) hFc (fun r_21 u t H locs ht hvm hw hB hz1 hk1 hS => ?_)
                have hP : va_P D vwCl _ H := ro_keep hP hk1
                have f0_r_21 := hw
                rw [hQ]
                exact W.iret (v := r_21) hx hb hr (fun t ht hW => ⟨⟨r_21, (), rfl, trivial, y_20, by rw [ht]; exact hP, hD⟩, hS.F ht⟩) hS.2.2 dB_3_1_6.2.2.1.1
            · have t_8 : a2.toInt = (0 : Int32).toInt := congrArg Int32.toInt c_8
              refine lv_iconst (v := 1) hx hb dB_3_1_4.2.1.2.1 (by decide) ?_
              refine lv_goto (tgt := 61) hx hb dB_3_1_4.2.1.2.2 (by decide) ?_
              refine lv_istore_n (lv' := [(3, .int 1), (0, .ref mo), (1, .int a1), (2, .int a2)]) hx hb dB_3_1_4.2.2.1.2 rfl hl (by decide) rfl (fun ls hl => ?_)
              refine lv_aload_n hx hb dB_3_1_4.2.2.2.1 rfl (lv_at hl 1 rfl) ?_
              refine lv_dup hx hb dB_3_1_4.2.2.2.2 rfl ?_
              refine va_get (ci := 12) (v := .long t2) (C := RX12) (T := TX12) (N := 34) hx hb hts (fun _ h => List.mem_cons_of_mem _ (List.mem_append_right _ h)) hown hK.1 hP 0 rfl rfl 2 (by decide) (hts (.fieldLink RX12 114 "CutAtlasModel" "trace" "J") (List.mem_of_getElem? (i := 3) rfl)) (fun _ h9 => h9) rfl dB_3_1_5.1.1.1.1 ?_
              refine lv_aload_n hx hb dB_3_1_5.1.1.1.2 rfl (lv_at hl 1 rfl) ?_
              refine va_get (ci := 12) (v := .ref g5) (C := RX12) (T := TX12) (N := 34) hx hb hts (fun _ h => List.mem_cons_of_mem _ (List.mem_append_right _ h)) hown hK.1 hP 0 rfl rfl 5 (by decide) (hts (.fieldLink RX12 7 "CutAtlasModel" "kind" "[I") (List.mem_of_getElem? (i := 4) rfl)) (fun _ h9 => h9) rfl dB_3_1_5.1.1.2.1 ?_
              refine lv_iload_n hx hb dB_3_1_5.1.1.2.2 rfl (lv_at hl 2 rfl) ?_
              have h_22 : vp_in a1 40 := in_I (by omega) (by omega)
              refine va_iald hx hb hK.1 hP 1 0 rfl rfl (i := a1) h_22 dB_3_1_5.1.2.1.1 ?_
              refine lv_topi (fun y_23 ey_23 => ?_)
              refine lv_iconst (v := 2) hx hb dB_3_1_5.1.2.1.2 (by decide) ?_
              refine lv_icmp_ne (tgt := 83) hx hb dB_3_1_5.1.2.2.1 (by decide) (fun c_24 => ?_) (fun c_24 => ?_)
              · have t_24 : ¬ y_23.toInt = (2 : Int32).toInt := fun h => c_24 (Int32.toInt_inj.mp h)
                refine lv_aload_n hx hb dB_3_1_5.2.1.1.2 rfl (lv_at hl 1 rfl) ?_
                refine va_get (ci := 12) (v := .ref g5) (C := RX12) (T := TX12) (N := 34) hx hb hts (fun _ h => List.mem_cons_of_mem _ (List.mem_append_right _ h)) hown hK.1 hP 0 rfl rfl 5 (by decide) (hts (.fieldLink RX12 7 "CutAtlasModel" "kind" "[I") (List.mem_of_getElem? (i := 4) rfl)) (fun _ h9 => h9) rfl dB_3_1_5.2.1.2.1 ?_
                refine lv_iload_n hx hb dB_3_1_5.2.1.2.2 rfl (lv_at hl 2 rfl) ?_
                have h_25 : vp_in a1 40 := in_I (by omega) (by omega)
                refine va_iald hx hb hK.1 hP 1 0 rfl rfl (i := a1) h_25 dB_3_1_5.2.2.1.1 ?_
                refine lv_topi (fun y_26 ey_26 => ?_)
                have e_ := (ey_26.trans ey_23.symm).symm
                subst e_
                skip
                refine lv_iconst (v := 1) hx hb dB_3_1_5.2.2.1.2 (by decide) ?_
                refine lv_icmp_ne (tgt := 109) hx hb dB_3_1_5.2.2.2.1 (by decide) (fun c_27 => ?_) (fun c_27 => ?_)
                · have t_27 : ¬ y_23.toInt = (1 : Int32).toInt := fun h => c_27 (Int32.toInt_inj.mp h)
                  refine lv_lconst (v := 1) hx hb dB_3_1_6.1.2.1.2 (by decide) ?_
                  refine lv_ladd hx hb dB_3_1_6.1.2.2.1 ?_
                  refine lv_topl (fun y_28 ey_28 => ?_)
                  refine va_put (ci := 12) (v := .long y_28) (ty := .long) (C := RX12) (T := TX12) (N := 34) hx hb hts (fun _ h => List.mem_cons_of_mem _ (List.mem_append_right _ h)) tyX12 tyX12_ok nmX12 hown hK.1 hP hD hS 0 rfl rfl 2 (by decide) (hts (.fieldLink RX12 114 "CutAtlasModel" "trace" "J") (List.mem_of_getElem? (i := 3) rfl)) (fun _ h9 => h9) rfl (by decide +kernel) rfl rfl (Nat.le_of_ble_eq_true rfl) dB_3_1_6.1.2.2.2 (fun H locs hP hD hS => ?_)
                  refine pd_K [ob12_0_ mo 0 s1 y_28 s3 s4 g5 g6 g7 g8 g9 g10 s11 g12 g13 g14 g15 g16 g17 g18 g19 g20 s21 g22 g23 g24 s25 s26 s27 s28 g29 g30 g31 g32 g33, ai_ cy g5 40 f5, ai_ cy g8 40 f8, ai_ cy g9 40 f9] hP hD (fun hP hD => ?_)
                  refine lv_aload_n hx hb dB_3_1_6.2.1.1.1 rfl (lv_at hl 1 rfl) ?_
                  refine lv_iload_n hx hb dB_3_1_6.2.1.1.2 rfl (lv_at hl 2 rfl) ?_
                  refine lv_iload_n hx hb dB_3_1_6.2.1.2.1 rfl (lv_at hl 0 rfl) ?_
                  refine ct_R hP hD [ob12_0_ mo 0 s1 y_28 s3 s4 g5 g6 g7 g8 g9 g10 s11 g12 g13 g14 g15 g16 g17 g18 g19 g20 s21 g22 g23 g24 s25 s26 s27 s28 g29 g30 g31 g32 g33, ai_ cy g5 40 f5, ai_ cy g8 40 f8] [0, 1, 2] (by decide) rfl (fun hPc hDw => ?_)
                  have hFc := va_free (wc := []) hD hS hA [] rfl
                  refine va_calli (va_runV (As := [.int a1, .int 1]) (rest := []) ⟨hx, hb, hml, hown, hts⟩ (c_X12_lets l D cy H.size mo g5 g6 g7 g8 g9 g10 g12 g13 g14 g15 g16 g17 g18 g19 g20 g22 g23 g24 g29 g30 g31 g32 g33 (0 : Int32) s1 s3 s4 s11 s21 s25 s26 s27 s28 y_28 f5 f8 a1 (1 : Int32) (by first | with_reducible assumption | omega | assumption)) (cwV 2 hts gX12_ask_X12_lets rfl rfl rfl ⟨rfl, hd_X12_lets⟩ ⟨Nat.le_of_ble_eq_true rfl, Nat.le_of_ble_eq_true rfl⟩) ⟨bl_, va_recvX hK.1 hP (ci := 12) (q0 := 0) rfl rfl, fun U hU hW => ⟨rfl, by rw [hU], by rw [hU]; exact hPc, kk_mv hW hK, hDw⟩⟩ rfl rfl hl.1 rfl (lv_room (Nat.le_of_ble_eq_true rfl)) dB_3_1_6.2.1.2.2 ⟨Nat.le_of_ble_eq_true rfl, Nat.le_of_ble_eq_true rfl⟩) hS (fun q _ h => hFc q h) hFc (fun r_29 u t H locs ht hvm hw hB hz1 hk1 hS => ?_)
                  have hP : va_P D vwCl _ H := ro_keep hP hk1
                  have f0_r_29 := hw
                  rw [hQ]
                  exact W.iret (v := r_29) hx hb hr (fun t ht hW => ⟨⟨r_29, (), rfl, trivial, y_28, by rw [ht]; exact hP, hD⟩, hS.F ht⟩) hS.2.2 dB_3_1_6.2.2.1.1
                · have t_27 : y_23.toInt = (1 : Int32).toInt := congrArg Int32.toInt c_27
                  refine lv_iload_n hx hb dB_3_1_5.2.2.2.2 rfl (lv_at hl 0 rfl) ?_
                  refine lv_if_eq (tgt := 103) hx hb dB_3_1_6.1.1.1.1 (by decide) (fun c_30 => ?_) (fun c_30 => ?_)
                  · exact absurd c_30 (by decide)
                  · have _ := c_30
                    refine lv_ldc2 (v := 11) hx hb hown (hts (.constantLong RX12 151 (11)) (List.mem_of_getElem? (i := 6) rfl)) dB_3_1_6.1.1.1.2 ?_
                    refine lv_goto (tgt := 110) hx hb dB_3_1_6.1.1.2.1 (by decide) ?_
                    refine lv_ladd hx hb dB_3_1_6.1.2.2.1 ?_
                    refine lv_topl (fun y_31 ey_31 => ?_)
                    refine va_put (ci := 12) (v := .long y_31) (ty := .long) (C := RX12) (T := TX12) (N := 34) hx hb hts (fun _ h => List.mem_cons_of_mem _ (List.mem_append_right _ h)) tyX12 tyX12_ok nmX12 hown hK.1 hP hD hS 0 rfl rfl 2 (by decide) (hts (.fieldLink RX12 114 "CutAtlasModel" "trace" "J") (List.mem_of_getElem? (i := 3) rfl)) (fun _ h9 => h9) rfl (by decide +kernel) rfl rfl (Nat.le_of_ble_eq_true rfl) dB_3_1_6.1.2.2.2 (fun H locs hP hD hS => ?_)
                    refine pd_K [ob12_0_ mo 0 s1 y_31 s3 s4 g5 g6 g7 g8 g9 g10 s11 g12 g13 g14 g15 g16 g17 g18 g19 g20 s21 g22 g23 g24 s25 s26 s27 s28 g29 g30 g31 g32 g33, ai_ cy g5 40 f5, ai_ cy g8 40 f8, ai_ cy g9 40 f9] hP hD (fun hP hD => ?_)
                    refine lv_aload_n hx hb dB_3_1_6.2.1.1.1 rfl (lv_at hl 1 rfl) ?_
                    refine lv_iload_n hx hb dB_3_1_6.2.1.1.2 rfl (lv_at hl 2 rfl) ?_
                    refine lv_iload_n hx hb dB_3_1_6.2.1.2.1 rfl (lv_at hl 0 rfl) ?_
                    refine ct_R hP hD [ob12_0_ mo 0 s1 y_31 s3 s4 g5 g6 g7 g8 g9 g10 s11 g12 g13 g14 g15 g16 g17 g18 g19 g20 s21 g22 g23 g24 s25 s26 s27 s28 g29 g30 g31 g32 g33, ai_ cy g5 40 f5, ai_ cy g8 40 f8] [0, 1, 2] (by decide) rfl (fun hPc hDw => ?_)
                    have hFc := va_free (wc := []) hD hS hA [] rfl
                    refine va_calli (va_runV (As := [.int a1, .int 1]) (rest := []) ⟨hx, hb, hml, hown, hts⟩ (c_X12_lets l D cy H.size mo g5 g6 g7 g8 g9 g10 g12 g13 g14 g15 g16 g17 g18 g19 g20 g22 g23 g24 g29 g30 g31 g32 g33 (0 : Int32) s1 s3 s4 s11 s21 s25 s26 s27 s28 y_31 f5 f8 a1 (1 : Int32) (by first | with_reducible assumption | omega | assumption)) (cwV 2 hts gX12_ask_X12_lets rfl rfl rfl ⟨rfl, hd_X12_lets⟩ ⟨Nat.le_of_ble_eq_true rfl, Nat.le_of_ble_eq_true rfl⟩) ⟨bl_, va_recvX hK.1 hP (ci := 12) (q0 := 0) rfl rfl, fun U hU hW => ⟨rfl, by rw [hU], by rw [hU]; exact hPc, kk_mv hW hK, hDw⟩⟩ rfl rfl hl.1 rfl (lv_room (Nat.le_of_ble_eq_true rfl)) dB_3_1_6.2.1.2.2 ⟨Nat.le_of_ble_eq_true rfl, Nat.le_of_ble_eq_true rfl⟩) hS (fun q _ h => hFc q h) hFc (fun r_32 u t H locs ht hvm hw hB hz1 hk1 hS => ?_)
                    have hP : va_P D vwCl _ H := ro_keep hP hk1
                    have f0_r_32 := hw
                    rw [hQ]
                    exact W.iret (v := r_32) hx hb hr (fun t ht hW => ⟨⟨r_32, (), rfl, trivial, y_31, by rw [ht]; exact hP, hD⟩, hS.F ht⟩) hS.2.2 dB_3_1_6.2.2.1.1
              · have t_24 : y_23.toInt = (2 : Int32).toInt := congrArg Int32.toInt c_24
                refine lv_ldc2 (v := 100) hx hb hown (hts (.constantLong RX12 112 (100)) (List.mem_of_getElem? (i := 5) rfl)) dB_3_1_5.1.2.2.2 ?_
                refine lv_goto (tgt := 110) hx hb dB_3_1_5.2.1.1.1 (by decide) ?_
                refine lv_ladd hx hb dB_3_1_6.1.2.2.1 ?_
                refine lv_topl (fun y_33 ey_33 => ?_)
                refine va_put (ci := 12) (v := .long y_33) (ty := .long) (C := RX12) (T := TX12) (N := 34) hx hb hts (fun _ h => List.mem_cons_of_mem _ (List.mem_append_right _ h)) tyX12 tyX12_ok nmX12 hown hK.1 hP hD hS 0 rfl rfl 2 (by decide) (hts (.fieldLink RX12 114 "CutAtlasModel" "trace" "J") (List.mem_of_getElem? (i := 3) rfl)) (fun _ h9 => h9) rfl (by decide +kernel) rfl rfl (Nat.le_of_ble_eq_true rfl) dB_3_1_6.1.2.2.2 (fun H locs hP hD hS => ?_)
                refine pd_K [ob12_0_ mo 0 s1 y_33 s3 s4 g5 g6 g7 g8 g9 g10 s11 g12 g13 g14 g15 g16 g17 g18 g19 g20 s21 g22 g23 g24 s25 s26 s27 s28 g29 g30 g31 g32 g33, ai_ cy g5 40 f5, ai_ cy g8 40 f8, ai_ cy g9 40 f9] hP hD (fun hP hD => ?_)
                refine lv_aload_n hx hb dB_3_1_6.2.1.1.1 rfl (lv_at hl 1 rfl) ?_
                refine lv_iload_n hx hb dB_3_1_6.2.1.1.2 rfl (lv_at hl 2 rfl) ?_
                refine lv_iload_n hx hb dB_3_1_6.2.1.2.1 rfl (lv_at hl 0 rfl) ?_
                refine ct_R hP hD [ob12_0_ mo 0 s1 y_33 s3 s4 g5 g6 g7 g8 g9 g10 s11 g12 g13 g14 g15 g16 g17 g18 g19 g20 s21 g22 g23 g24 s25 s26 s27 s28 g29 g30 g31 g32 g33, ai_ cy g5 40 f5, ai_ cy g8 40 f8] [0, 1, 2] (by decide) rfl (fun hPc hDw => ?_)
                have hFc := va_free (wc := []) hD hS hA [] rfl
                refine va_calli (va_runV (As := [.int a1, .int 1]) (rest := []) ⟨hx, hb, hml, hown, hts⟩ (c_X12_lets l D cy H.size mo g5 g6 g7 g8 g9 g10 g12 g13 g14 g15 g16 g17 g18 g19 g20 g22 g23 g24 g29 g30 g31 g32 g33 (0 : Int32) s1 s3 s4 s11 s21 s25 s26 s27 s28 y_33 f5 f8 a1 (1 : Int32) (by first | with_reducible assumption | omega | assumption)) (cwV 2 hts gX12_ask_X12_lets rfl rfl rfl ⟨rfl, hd_X12_lets⟩ ⟨Nat.le_of_ble_eq_true rfl, Nat.le_of_ble_eq_true rfl⟩) ⟨bl_, va_recvX hK.1 hP (ci := 12) (q0 := 0) rfl rfl, fun U hU hW => ⟨rfl, by rw [hU], by rw [hU]; exact hPc, kk_mv hW hK, hDw⟩⟩ rfl rfl hl.1 rfl (lv_room (Nat.le_of_ble_eq_true rfl)) dB_3_1_6.2.1.2.2 ⟨Nat.le_of_ble_eq_true rfl, Nat.le_of_ble_eq_true rfl⟩) hS (fun q _ h => hFc q h) hFc (fun r_34 u t H locs ht hvm hw hB hz1 hk1 hS => ?_)
                have hP : va_P D vwCl _ H := ro_keep hP hk1
                have f0_r_34 := hw
                rw [hQ]
                exact W.iret (v := r_34) hx hb hr (fun t ht hW => ⟨⟨r_34, (), rfl, trivial, y_33, by rw [ht]; exact hP, hD⟩, hS.F ht⟩) hS.2.2 dB_3_1_6.2.2.1.1
          · have t_7 : a2.toInt = (2 : Int32).toInt := congrArg Int32.toInt c_7
            refine lv_aload_n hx hb dB_3_1_3.2.2.1.1 rfl (lv_at hl 0 rfl) ?_
            refine lv_dup hx hb dB_3_1_3.2.2.1.2 rfl ?_
            refine va_get (ci := 12) (v := .long t2) (C := RX12) (T := TX12) (N := 34) hx hb hts (fun _ h => List.mem_cons_of_mem _ (List.mem_append_right _ h)) hown hK.1 hP 0 rfl rfl 2 (by decide) (hts (.fieldLink RX12 114 "CutAtlasModel" "trace" "J") (List.mem_of_getElem? (i := 3) rfl)) (fun _ h9 => h9) rfl dB_3_1_3.2.2.2.1 ?_
            refine lv_aload_n hx hb dB_3_1_3.2.2.2.2 rfl (lv_at hl 0 rfl) ?_
            refine lv_iload_n hx hb dB_3_1_4.1.1.1.1 rfl (lv_at hl 1 rfl) ?_
            refine ct_R hP hD [ob12_0_ mo 0 s1 t2 s3 s4 g5 g6 g7 g8 g9 g10 s11 g12 g13 g14 g15 g16 g17 g18 g19 g20 s21 g22 g23 g24 s25 s26 s27 s28 g29 g30 g31 g32 g33, ai_ cy g5 40 f5] [0, 1] (by decide) rfl (fun hPc hDw => ?_)
            have hFc := va_free (wc := []) hD hS hA [] rfl
            refine va_calll (va_runV (As := [.int a1]) (rest := [.long t2, .ref mo]) ⟨hx, hb, hml, hown, hts⟩ (c_X12_costsTrace l D cy H.size mo g5 g6 g7 g8 g9 g10 g12 g13 g14 g15 g16 g17 g18 g19 g20 g22 g23 g24 g29 g30 g31 g32 g33 (0 : Int32) s1 s3 s4 s11 s21 s25 s26 s27 s28 t2 f5 a1 (by first | with_reducible assumption | omega | assumption)) (cwV 1 hts gX12_ask_X12_costsTrace rfl rfl rfl ⟨rfl, hd_X12_costsTrace⟩ ⟨Nat.le_of_ble_eq_true rfl, Nat.le_of_ble_eq_true rfl⟩) ⟨bl_, va_recvX hK.1 hP (ci := 12) (q0 := 0) rfl rfl, fun U hU hW => ⟨rfl, by rw [hU], by rw [hU]; exact hPc, kk_mv hW hK, hDw⟩⟩ rfl rfl hl.1 rfl (lv_room (Nat.le_of_ble_eq_true rfl)) dB_3_1_4.1.1.1.2 ⟨Nat.le_of_ble_eq_true rfl, Nat.le_of_ble_eq_true rfl⟩) hS (fun q _ h => hFc q h) hFc (fun r_35 u t H locs ht hvm hw hB hz1 hk1 hS => ?_)
            have hP : va_P D vwCl _ H := ro_keep hP hk1
            refine lv_ladd hx hb dB_3_1_4.1.1.2.1 ?_
            refine lv_topl (fun y_36 ey_36 => ?_)
            refine va_put (ci := 12) (v := .long y_36) (ty := .long) (C := RX12) (T := TX12) (N := 34) hx hb hts (fun _ h => List.mem_cons_of_mem _ (List.mem_append_right _ h)) tyX12 tyX12_ok nmX12 hown hK.1 hP hD hS 0 rfl rfl 2 (by decide) (hts (.fieldLink RX12 114 "CutAtlasModel" "trace" "J") (List.mem_of_getElem? (i := 3) rfl)) (fun _ h9 => h9) rfl (by decide +kernel) rfl rfl (Nat.le_of_ble_eq_true rfl) dB_3_1_4.1.1.2.2 (fun H locs hP hD hS => ?_)
            refine pd_K [ob12_0_ mo 0 s1 y_36 s3 s4 g5 g6 g7 g8 g9 g10 s11 g12 g13 g14 g15 g16 g17 g18 g19 g20 s21 g22 g23 g24 s25 s26 s27 s28 g29 g30 g31 g32 g33, ai_ cy g5 40 f5, ai_ cy g8 40 f8, ai_ cy g9 40 f9] hP hD (fun hP hD => ?_)
            refine lv_aload_n hx hb dB_3_1_4.1.2.1.1 rfl (lv_at hl 0 rfl) ?_
            refine lv_iload_n hx hb dB_3_1_4.1.2.1.2 rfl (lv_at hl 1 rfl) ?_
            refine ct_R hP hD [ob12_0_ mo 0 s1 y_36 s3 s4 g5 g6 g7 g8 g9 g10 s11 g12 g13 g14 g15 g16 g17 g18 g19 g20 s21 g22 g23 g24 s25 s26 s27 s28 g29 g30 g31 g32 g33, ai_ cy g5 40 f5, ai_ cy g9 40 f9] [0, 1, 3] (by decide) rfl (fun hPc hDw => ?_)
            have hFc := va_free (wc := []) hD hS hA [] rfl
            refine va_calli (va_runV (As := [.int a1]) (rest := []) ⟨hx, hb, hml, hown, hts⟩ (c_X12_costs l D cy H.size mo g5 g6 g7 g8 g9 g10 g12 g13 g14 g15 g16 g17 g18 g19 g20 g22 g23 g24 g29 g30 g31 g32 g33 (0 : Int32) s1 s3 s4 s11 s21 s25 s26 s27 s28 y_36 f5 f9 a1 (by first | with_reducible assumption | omega | assumption)) (cwV 1 hts gX12_ask_X12_costs rfl rfl rfl ⟨rfl, hd_X12_costs⟩ ⟨Nat.le_of_ble_eq_true rfl, Nat.le_of_ble_eq_true rfl⟩) ⟨bl_, va_recvX hK.1 hP (ci := 12) (q0 := 0) rfl rfl, fun U hU hW => ⟨rfl, by rw [hU], by rw [hU]; exact hPc, kk_mv hW hK, hDw⟩⟩ rfl rfl hl.1 rfl (lv_room (Nat.le_of_ble_eq_true rfl)) dB_3_1_4.1.2.2.1 ⟨Nat.le_of_ble_eq_true rfl, Nat.le_of_ble_eq_true rfl⟩) hS (fun q _ h => hFc q h) hFc (fun r_37 u t H locs ht hvm hw hB hz1 hk1 hS => ?_)
            have hP : va_P D vwCl _ H := ro_keep hP hk1
            rw [hQ]
            exact W.iret (v := r_37) hx hb hr (fun t ht hW => ⟨⟨r_37, (), rfl, trivial, y_36, by rw [ht]; exact hP, hD⟩, hS.F ht⟩) hS.2.2 dB_3_1_4.1.2.2.2
        · exact absurd c_6 (by decide)
      · have e_ := e_.symm
        subst e_
        refine lv_if_ne (tgt := 27) hx hb dB_3_1_3.1.2.2.1 (by decide) (fun c_38 => ?_) (fun c_38 => ?_)
        · exact absurd c_38 (by decide)
        · have _ := c_38
          refine lv_iconst (v := (-1)) hx hb dB_3_1_3.1.2.2.2 (by decide) ?_
          rw [hQ]
          exact W.iret (v := (-1)) hx hb hr (fun t ht hW => ⟨⟨(-1), (), rfl, trivial, t2, by rw [ht]; exact hP, hD⟩, hS.F ht⟩) hS.2.2 dB_3_1_3.2.1.1.1
  · have e_ := e_.symm
    subst e_
    refine lv_if_eq (tgt := 25) hx hb dB_3_1_3.1.1.1.1 (by decide) (fun c_39 => ?_) (fun c_39 => ?_)
    · have _ := c_39
      refine lv_iconst (v := (-1)) hx hb dB_3_1_3.1.2.2.2 (by decide) ?_
      rw [hQ]
      exact W.iret (v := (-1)) hx hb hr (fun t ht hW => ⟨⟨(-1), (), rfl, trivial, t2, by rw [ht]; exact hP, hD⟩, hS.F ht⟩) hS.2.2 dB_3_1_3.2.1.1.1
    · exact absurd c_39 (by decide)

set_option maxHeartbeats 4000000 in
set_option maxRecDepth 100000 in
theorem c_X12_trace (l : Launch) (D : va_G) (cy : Nat → ClassId) (sz : Nat) (mo : Nat) (g5 : Nat) (g6 : Nat) (g7 : Nat) (g8 : Nat) (g9 : Nat) (g10 : Nat) (g12 : Nat) (g13 : Nat) (g14 : Nat) (g15 : Nat) (g16 : Nat) (g17 : Nat) (g18 : Nat) (g19 : Nat) (g20 : Nat) (g22 : Nat) (g23 : Nat) (g24 : Nat) (g29 : Nat) (g30 : Nat) (g31 : Nat) (g32 : Nat) (g33 : Nat) (s0 : Int32) (s1 : Int32) (s3 : Int32) (s4 : Int32) (s11 : Int32) (s21 : Int32) (s25 : Int32) (s26 : Int32) (s27 : Int32) (s28 : Int32) (t2 : Int64) : Met l yX12_trace wsX12_trace ({ frames := 0, cells := 0, slots := 0, locals := 0 }) (va_Pc [.ref mo] (fun U => U.heap.size = sz ∧ va_P D vwCl [ob12_0_ mo s0 s1 t2 s3 s4 g5 g6 g7 g8 g9 g10 s11 g12 g13 g14 g15 g16 g17 g18 g19 g20 s21 g22 g23 g24 s25 s26 s27 s28 g29 g30 g31 g32 g33] U.heap ∧ kk_ D cy U ∧ va_D (fun _ => True) [ob12_0_ mo s0 s1 t2 s3 s4 g5 g6 g7 g8 g9 g10 s11 g12 g13 g14 g15 g16 g17 g18 g19 g20 s21 g22 g23 g24 s25 s26 s27 s28 g29 g30 g31 g32 g33])) (va_Ql (fun (r : Int64) (_ : Unit) => True) (fun (_ : Unit) (t : State) => va_P D vwCl [ob12_0_ mo 0 s1 t2 s3 s4 g5 g6 g7 g8 g9 g10 s11 g12 g13 g14 g15 g16 g17 g18 g19 g20 s21 g22 g23 g24 s25 s26 s27 s28 g29 g30 g31 g32 g33] t.heap ∧ va_D (va_A [ob12_0_ mo s0 s1 t2 s3 s4 g5 g6 g7 g8 g9 g10 s11 g12 g13 g14 g15 g16 g17 g18 g19 g20 s21 g22 g23 g24 s25 s26 s27 s28 g29 g30 g31 g32 g33] sz) [ob12_0_ mo 0 s1 t2 s3 s4 g5 g6 g7 g8 g9 g10 s11 g12 g13 g14 g15 g16 g17 g18 g19 g20 s21 g22 g23 g24 s25 s26 s27 s28 g29 g30 g31 g32 g33]) (va_A [ob12_0_ mo s0 s1 t2 s3 s4 g5 g6 g7 g8 g9 g10 s11 g12 g13 g14 g15 g16 g17 g18 g19 g20 s21 g22 g23 g24 s25 s26 s27 s28 g29 g30 g31 g32 g33] sz)) 0 0 (va_A [ob12_0_ mo s0 s1 t2 s3 s4 g5 g6 g7 g8 g9 g10 s11 g12 g13 g14 g15 g16 g17 g18 g19 g20 s21 g22 g23 g24 s25 s26 s27 s28 g29 g30 g31 g32 g33] sz) := by
  refine ofQ (cc := cX12_trace) (maxL := 1) (ret := (some .long)) (by decide) rfl ?_
  intro p e s m args below meth c s₁ Q hQ B hml hv
  obtain ⟨rfl, hsz, hP, hK, hD0⟩ := hv
  have hx := B.exec
  have hb := B.bytes
  have hr := B.returns
  have hts := atoms_spec (ws := wsX12_trace) B.pre
  have hown : s.vm.findClass RX12 = some m.cls := by have h_ := findClass_of_methodNamed B.named; exact h_
  have hlocks := B.notSynchronized
  subst hsz
  have hD := hD0.self (sz := s.heap.size)
  generalize hAe : va_A [ob12_0_ mo s0 s1 t2 s3 s4 g5 g6 g7 g8 g9 g10 s11 g12 g13 g14 g15 g16 g17 g18 g19 g20 s21 g22 g23 g24 s25 s26 s27 s28 g29 g30 g31 g32 g33] s.heap.size = A at hD hQ
  have hA : ∀ q : Nat, s.heap.size ≤ q → A q := fun q h => by rw [← hAe]; exact Or.inr h
  have hS : va_S A s.heap s.heap [] := va_S.rf
  have hl := lv_entry ([.ref mo]) (n := 1) (Nat.le_of_ble_eq_true rfl)
  rw [lg_entry_eq]
  generalize (lg_sl ([.ref mo]) ++ List.replicate (1 - (lg_sl ([.ref mo])).length) Slot.unset).toArray = ls at hl ⊢
  have hl : lv_has ls 1 [(0, .ref mo)] := hl
  refine lv_aload_n hx hb dB_3_3_45.1.2.1.1 rfl (lv_at hl 0 rfl) ?_
  refine lv_iconst (v := 0) hx hb dB_3_3_45.1.2.1.2 (by decide) ?_
  refine va_put (ci := 12) (v := .int 0) (ty := .int) (C := RX12) (T := TX12) (N := 34) hx hb hts (fun _ h => List.mem_cons_of_mem _ (List.mem_append_right _ h)) tyX12 tyX12_ok nmX12 hown hK.1 hP hD hS 0 rfl rfl 0 (by decide) (hts (.fieldLink RX12 85 "CutAtlasModel" "thrown" "I") (List.mem_of_getElem? (i := 1) rfl)) (fun _ h9 => h9) rfl (by decide +kernel) rfl rfl (Nat.le_of_ble_eq_true rfl) dB_3_3_45.1.2.2.1 (fun H locs hP hD hS => ?_)
  refine pd_K [ob12_0_ mo 0 s1 t2 s3 s4 g5 g6 g7 g8 g9 g10 s11 g12 g13 g14 g15 g16 g17 g18 g19 g20 s21 g22 g23 g24 s25 s26 s27 s28 g29 g30 g31 g32 g33] hP hD (fun hP hD => ?_)
  refine lv_aload_n hx hb dB_3_3_45.1.2.2.2 rfl (lv_at hl 0 rfl) ?_
  refine va_get (ci := 12) (v := .long t2) (C := RX12) (T := TX12) (N := 34) hx hb hts (fun _ h => List.mem_cons_of_mem _ (List.mem_append_right _ h)) hown hK.1 hP 0 rfl rfl 2 (by decide) (hts (.fieldLink RX12 114 "CutAtlasModel" "trace" "J") (List.mem_of_getElem? (i := 2) rfl)) (fun _ h9 => h9) rfl dB_3_3_45.2.1.1.1 ?_
  rw [hQ]
  exact W.lret (v := t2) hx hb hr (fun t ht hW => ⟨⟨t2, (), rfl, trivial, by rw [ht]; exact hP, hD⟩, hS.F ht⟩) hS.2.2 dB_3_3_45.2.1.1.2

set_option maxHeartbeats 4000000 in
set_option maxRecDepth 100000 in
theorem c_X12_status (l : Launch) (D : va_G) (cy : Nat → ClassId) (sz : Nat) (mo : Nat) (g5 : Nat) (g6 : Nat) (g7 : Nat) (g8 : Nat) (g9 : Nat) (g10 : Nat) (g12 : Nat) (g13 : Nat) (g14 : Nat) (g15 : Nat) (g16 : Nat) (g17 : Nat) (g18 : Nat) (g19 : Nat) (g20 : Nat) (g22 : Nat) (g23 : Nat) (g24 : Nat) (g29 : Nat) (g30 : Nat) (g31 : Nat) (g32 : Nat) (g33 : Nat) (s0 : Int32) (s1 : Int32) (s3 : Int32) (s4 : Int32) (s11 : Int32) (s21 : Int32) (s25 : Int32) (s26 : Int32) (s27 : Int32) (s28 : Int32) (t2 : Int64) : Met l yX12_status wsX12_status ({ frames := 0, cells := 0, slots := 0, locals := 0 }) (va_Pc [.ref mo] (fun U => U.heap.size = sz ∧ va_P D vwCl [ob12_0_ mo s0 s1 t2 s3 s4 g5 g6 g7 g8 g9 g10 s11 g12 g13 g14 g15 g16 g17 g18 g19 g20 s21 g22 g23 g24 s25 s26 s27 s28 g29 g30 g31 g32 g33] U.heap ∧ kk_ D cy U ∧ va_D (fun _ => True) [ob12_0_ mo s0 s1 t2 s3 s4 g5 g6 g7 g8 g9 g10 s11 g12 g13 g14 g15 g16 g17 g18 g19 g20 s21 g22 g23 g24 s25 s26 s27 s28 g29 g30 g31 g32 g33])) (va_Qi (fun (r : Int32) (_ : Unit) => True) (fun (_ : Unit) (t : State) => va_P D vwCl [ob12_0_ mo 0 s1 t2 s3 s4 g5 g6 g7 g8 g9 g10 s11 g12 g13 g14 g15 g16 g17 g18 g19 g20 s21 g22 g23 g24 s25 s26 s27 s28 g29 g30 g31 g32 g33] t.heap ∧ va_D (va_A [ob12_0_ mo s0 s1 t2 s3 s4 g5 g6 g7 g8 g9 g10 s11 g12 g13 g14 g15 g16 g17 g18 g19 g20 s21 g22 g23 g24 s25 s26 s27 s28 g29 g30 g31 g32 g33] sz) [ob12_0_ mo 0 s1 t2 s3 s4 g5 g6 g7 g8 g9 g10 s11 g12 g13 g14 g15 g16 g17 g18 g19 g20 s21 g22 g23 g24 s25 s26 s27 s28 g29 g30 g31 g32 g33]) (va_A [ob12_0_ mo s0 s1 t2 s3 s4 g5 g6 g7 g8 g9 g10 s11 g12 g13 g14 g15 g16 g17 g18 g19 g20 s21 g22 g23 g24 s25 s26 s27 s28 g29 g30 g31 g32 g33] sz)) 0 0 (va_A [ob12_0_ mo s0 s1 t2 s3 s4 g5 g6 g7 g8 g9 g10 s11 g12 g13 g14 g15 g16 g17 g18 g19 g20 s21 g22 g23 g24 s25 s26 s27 s28 g29 g30 g31 g32 g33] sz) := by
  refine ofQ (cc := cX12_status) (maxL := 1) (ret := (some .int)) (by decide) rfl ?_
  intro p e s m args below meth c s₁ Q hQ B hml hv
  obtain ⟨rfl, hsz, hP, hK, hD0⟩ := hv
  have hx := B.exec
  have hb := B.bytes
  have hr := B.returns
  have hts := atoms_spec (ws := wsX12_status) B.pre
  have hown : s.vm.findClass RX12 = some m.cls := by have h_ := findClass_of_methodNamed B.named; exact h_
  have hlocks := B.notSynchronized
  subst hsz
  have hD := hD0.self (sz := s.heap.size)
  generalize hAe : va_A [ob12_0_ mo s0 s1 t2 s3 s4 g5 g6 g7 g8 g9 g10 s11 g12 g13 g14 g15 g16 g17 g18 g19 g20 s21 g22 g23 g24 s25 s26 s27 s28 g29 g30 g31 g32 g33] s.heap.size = A at hD hQ
  have hA : ∀ q : Nat, s.heap.size ≤ q → A q := fun q h => by rw [← hAe]; exact Or.inr h
  have hS : va_S A s.heap s.heap [] := va_S.rf
  have hl := lv_entry ([.ref mo]) (n := 1) (Nat.le_of_ble_eq_true rfl)
  rw [lg_entry_eq]
  generalize (lg_sl ([.ref mo]) ++ List.replicate (1 - (lg_sl ([.ref mo])).length) Slot.unset).toArray = ls at hl ⊢
  have hl : lv_has ls 1 [(0, .ref mo)] := hl
  refine lv_aload_n hx hb dB_3_3_45.2.1.2.1 rfl (lv_at hl 0 rfl) ?_
  refine lv_iconst (v := 0) hx hb dB_3_3_45.2.1.2.2 (by decide) ?_
  refine va_put (ci := 12) (v := .int 0) (ty := .int) (C := RX12) (T := TX12) (N := 34) hx hb hts (fun _ h => List.mem_cons_of_mem _ (List.mem_append_right _ h)) tyX12 tyX12_ok nmX12 hown hK.1 hP hD hS 0 rfl rfl 0 (by decide) (hts (.fieldLink RX12 85 "CutAtlasModel" "thrown" "I") (List.mem_of_getElem? (i := 1) rfl)) (fun _ h9 => h9) rfl (by decide +kernel) rfl rfl (Nat.le_of_ble_eq_true rfl) dB_3_3_45.2.2.1.1 (fun H locs hP hD hS => ?_)
  refine pd_K [ob12_0_ mo 0 s1 t2 s3 s4 g5 g6 g7 g8 g9 g10 s11 g12 g13 g14 g15 g16 g17 g18 g19 g20 s21 g22 g23 g24 s25 s26 s27 s28 g29 g30 g31 g32 g33] hP hD (fun hP hD => ?_)
  refine lv_aload_n hx hb dB_3_3_45.2.2.1.2 rfl (lv_at hl 0 rfl) ?_
  refine va_get (ci := 12) (v := .int s1) (C := RX12) (T := TX12) (N := 34) hx hb hts (fun _ h => List.mem_cons_of_mem _ (List.mem_append_right _ h)) hown hK.1 hP 0 rfl rfl 1 (by decide) (hts (.fieldLink RX12 240 "CutAtlasModel" "status" "I") (List.mem_of_getElem? (i := 2) rfl)) (fun _ h9 => h9) rfl dB_3_3_45.2.2.2.1 ?_
  rw [hQ]
  exact W.iret (v := s1) hx hb hr (fun t ht hW => ⟨⟨s1, (), rfl, trivial, by rw [ht]; exact hP, hD⟩, hS.F ht⟩) hS.2.2 dB_3_3_45.2.2.2.2
end

section
set_option maxHeartbeats 4000000 in
set_option maxRecDepth 100000 in
theorem c_X12_refused (l : Launch) (D : va_G) (cy : Nat → ClassId) (sz : Nat) (mo : Nat) (g5 : Nat) (g6 : Nat) (g7 : Nat) (g8 : Nat) (g9 : Nat) (g10 : Nat) (g12 : Nat) (g13 : Nat) (g14 : Nat) (g15 : Nat) (g16 : Nat) (g17 : Nat) (g18 : Nat) (g19 : Nat) (g20 : Nat) (g22 : Nat) (g23 : Nat) (g24 : Nat) (g29 : Nat) (g30 : Nat) (g31 : Nat) (g32 : Nat) (g33 : Nat) (s0 : Int32) (s1 : Int32) (s3 : Int32) (s4 : Int32) (s11 : Int32) (s21 : Int32) (s25 : Int32) (s26 : Int32) (s27 : Int32) (s28 : Int32) (t2 : Int64) (a1 : Int64) (a2 : Int64) (a3 : Int64) (a4 : Int64) (a5 : Int64) (hN : 0 ≤ s4.toInt ∧ s4.toInt ≤ 40) (hPl : 0 ≤ s3.toInt ∧ s3.toInt ≤ 12) : Met l yX12_refused wsX12_refused ({ frames := 1, cells := 0, slots := 0, locals := 25 }) (va_Pc [.ref mo, .long a1, .long a2, .long a3, .long a4, .long a5] (fun U => U.heap.size = sz ∧ va_P D vwCl [ob12_0_ mo s0 s1 t2 s3 s4 g5 g6 g7 g8 g9 g10 s11 g12 g13 g14 g15 g16 g17 g18 g19 g20 s21 g22 g23 g24 s25 s26 s27 s28 g29 g30 g31 g32 g33] U.heap ∧ kk_ D cy U ∧ va_D (fun _ => True) [ob12_0_ mo s0 s1 t2 s3 s4 g5 g6 g7 g8 g9 g10 s11 g12 g13 g14 g15 g16 g17 g18 g19 g20 s21 g22 g23 g24 s25 s26 s27 s28 g29 g30 g31 g32 g33])) (va_Qi (fun (r : Int32) (_ : Unit) => ((¬ ((0 ≤ a1.toInt ∧ a1.toInt ≤ 4) ∧ (0 ≤ a2.toInt ∧ a2.toInt < s3.toInt) ∧ (0 ≤ a3.toInt ∧ a3.toInt < s3.toInt) ∧ a2.toInt ≠ a3.toInt ∧ (0 ≤ a4.toInt ∧ a4.toInt ≤ 1000) ∧ (0 ≤ a5.toInt ∧ a5.toInt ≤ 100))) ∧ r = (-1)) ∨ ((((0 ≤ a1.toInt ∧ a1.toInt ≤ 4) ∧ (0 ≤ a2.toInt ∧ a2.toInt < s3.toInt) ∧ (0 ≤ a3.toInt ∧ a3.toInt < s3.toInt) ∧ a2.toInt ≠ a3.toInt ∧ (0 ≤ a4.toInt ∧ a4.toInt ≤ 1000) ∧ (0 ≤ a5.toInt ∧ a5.toInt ≤ 100)) ∧ s4.toInt = 40) ∧ r = (-3)) ∨ ((((0 ≤ a1.toInt ∧ a1.toInt ≤ 4) ∧ (0 ≤ a2.toInt ∧ a2.toInt < s3.toInt) ∧ (0 ≤ a3.toInt ∧ a3.toInt < s3.toInt) ∧ a2.toInt ≠ a3.toInt ∧ (0 ≤ a4.toInt ∧ a4.toInt ≤ 1000) ∧ (0 ≤ a5.toInt ∧ a5.toInt ≤ 100)) ∧ s4.toInt < 40) ∧ r = 0)) (fun (_ : Unit) (_ : State) => True) (va_A [] sz)) 0 0 (va_A [] sz) := by
  refine ofQ (cc := cX12_refused) (maxL := 12) (ret := (some .int)) (by decide) rfl ?_
  intro p e s m args below meth c s₁ Q hQ B hml hv
  obtain ⟨rfl, hsz, hP, hK, hD0⟩ := hv
  have hx := B.exec
  have hb := B.bytes
  have hr := B.returns
  have hts := atoms_spec (ws := wsX12_refused) B.pre
  have hown : s.vm.findClass RX12 = some m.cls := by have h_ := findClass_of_methodNamed B.named; exact h_
  have hlocks := B.notSynchronized
  subst hsz
  have hD : va_D (va_A [] s.heap.size) [] := dd_nil
  generalize hAe : va_A [] s.heap.size = A at hD hQ
  have hA : ∀ q : Nat, s.heap.size ≤ q → A q := fun q h => by rw [← hAe]; exact Or.inr h
  have hS : va_S A s.heap s.heap [] := va_S.rf
  have hl := lv_entry ([.ref mo, .long a1, .long a2, .long a3, .long a4, .long a5]) (n := 12) (Nat.le_of_ble_eq_true rfl)
  rw [lg_entry_eq]
  generalize (lg_sl ([.ref mo, .long a1, .long a2, .long a3, .long a4, .long a5]) ++ List.replicate (12 - (lg_sl ([.ref mo, .long a1, .long a2, .long a3, .long a4, .long a5])).length) Slot.unset).toArray = ls at hl ⊢
  have hl : lv_has ls 12 [(0, .ref mo), (1, .long a1), (3, .long a2), (5, .long a3), (7, .long a4), (9, .long a5)] := hl
  have zm3 : ((-3) : Int32).toInt = -3 := by decide
  have zm1 : ((-1) : Int32).toInt = -1 := by decide
  have z0 : (0 : Int32).toInt = 0 := by decide
  have zl0 : (0 : Int64).toInt = 0 := by decide
  have z1 : (1 : Int32).toInt = 1 := by decide
  have zl4 : (4 : Int64).toInt = 4 := by decide
  have z40 : (40 : Int32).toInt = 40 := by decide
  have zl100 : (100 : Int64).toInt = 100 := by decide
  have zl1000 : (1000 : Int64).toInt = 1000 := by decide
  refine lv_lload_n hx hb dB_3_0_19.2.1.2.2 rfl (lv_at hl 1 rfl) ?_
  refine lv_lconst (v := 0) hx hb dB_3_0_19.2.2.1.1 (by decide) ?_
  refine lv_ldc2 (v := 4) hx hb hown (hts (.constantLong RX12 108 (4)) (List.mem_of_getElem? (i := 1) rfl)) dB_3_0_19.2.2.1.2 ?_
  refine ct_R hP hD0 [] [] (by decide) rfl (fun hPc hDw => ?_)
  have hFc := va_free (wc := []) hD hS hA [] rfl
  refine va_calli (va_runS (As := [.long a1, .long 0, .long 4]) (rest := []) ⟨hx, hb, hml, hown, hts⟩ (c_X12_in l D cy s.heap.size a1 (0 : Int64) (4 : Int64)) (va_cwS 3 hts gX12_refused_X12_in rfl rfl rfl hd_X12_in ⟨Nat.le_of_ble_eq_true rfl, Nat.le_of_ble_eq_true rfl⟩) ⟨bl_, fun U hU hW => ⟨rfl, by rw [hU], by rw [hU]; exact hPc, kk_mv hW hK, hDw⟩⟩ rfl rfl hl.1 rfl (lv_room (Nat.le_of_ble_eq_true rfl)) dB_3_0_19.2.2.2.1 ⟨Nat.le_of_ble_eq_true rfl, Nat.le_of_ble_eq_true rfl⟩) hS (fun q _ h => hFc q h) hFc (fun r_1 u t H locs ht hvm hw hB hz1 hk1 hS => ?_)
  have hP : va_P D vwCl _ H := ro_keep hP hk1
  rcases hw with ⟨w_2, e_⟩ | ⟨w_2, e_⟩
  · have e_ := e_.symm
    subst e_
    refine lv_if_eq (tgt := 77) hx hb dB_3_0_19.2.2.2.2 (by decide) (fun c_3 => ?_) (fun c_3 => ?_)
    · exact absurd c_3 (by decide)
    · have _ := c_3
      refine lv_lload_n hx hb dB_3_0_20.1.1.1.1 rfl (lv_at hl 2 rfl) ?_
      refine lv_lconst (v := 0) hx hb dB_3_0_20.1.1.1.2 (by decide) ?_
      refine lv_aload_n hx hb dB_3_0_20.1.1.2.1 rfl (lv_at hl 0 rfl) ?_
      refine va_get (ci := 12) (v := .int s3) (C := RX12) (T := TX12) (N := 34) hx hb hts (fun _ h => List.mem_cons_of_mem _ (List.mem_append_right _ h)) hown hK.1 hP 0 rfl rfl 3 (by decide) (hts (.fieldLink RX12 88 "CutAtlasModel" "places" "I") (List.mem_of_getElem? (i := 2) rfl)) (fun _ h9 => h9) rfl dB_3_0_20.1.1.2.2 ?_
      refine lv_iconst (v := 1) hx hb dB_3_0_20.1.2.1.1 (by decide) ?_
      refine lv_isub hx hb dB_3_0_20.1.2.1.2 ?_
      refine lv_topi (fun y_4 ey_4 => ?_)
      have ty_4 : y_4.toInt = s3.toInt - (1 : Int32).toInt := by rw [ey_4]; exact subI (by omega) (by omega)
      refine lv_i2l (v := y_4.toInt64) hx hb dB_3_0_20.1.2.2.1 rfl ?_
      have q_19 : (y_4.toInt64).toInt = y_4.toInt := Int32.toInt_toInt64 y_4
      refine ct_R hP hD0 [] [] (by decide) rfl (fun hPc hDw => ?_)
      have hFc := va_free (wc := []) hD hS hA [] rfl
      refine va_calli (va_runS (As := [.long a2, .long 0, .long y_4.toInt64]) (rest := []) ⟨hx, hb, hml, hown, hts⟩ (c_X12_in l D cy H.size a2 (0 : Int64) y_4.toInt64) (va_cwS 3 hts gX12_refused_X12_in rfl rfl rfl hd_X12_in ⟨Nat.le_of_ble_eq_true rfl, Nat.le_of_ble_eq_true rfl⟩) ⟨bl_, fun U hU hW => ⟨rfl, by rw [hU], by rw [hU]; exact hPc, kk_mv hW hK, hDw⟩⟩ rfl rfl hl.1 rfl (lv_room (Nat.le_of_ble_eq_true rfl)) dB_3_0_20.1.2.2.2 ⟨Nat.le_of_ble_eq_true rfl, Nat.le_of_ble_eq_true rfl⟩) hS (fun q _ h => hFc q h) hFc (fun r_5 u t H locs ht hvm hw hB hz1 hk1 hS => ?_)
      have hP : va_P D vwCl _ H := ro_keep hP hk1
      rcases hw with ⟨w_6, e_⟩ | ⟨w_6, e_⟩
      · have e_ := e_.symm
        subst e_
        refine lv_if_eq (tgt := 77) hx hb dB_3_0_20.2.1.1.1 (by decide) (fun c_7 => ?_) (fun c_7 => ?_)
        · exact absurd c_7 (by decide)
        · have _ := c_7
          refine lv_lload hx hb dB_3_0_20.2.1.1.2 (lv_at hl 3 rfl) ?_
          refine lv_lconst (v := 0) hx hb dB_3_0_20.2.1.2.1 (by decide) ?_
          refine lv_aload_n hx hb dB_3_0_20.2.1.2.2 rfl (lv_at hl 0 rfl) ?_
          refine va_get (ci := 12) (v := .int s3) (C := RX12) (T := TX12) (N := 34) hx hb hts (fun _ h => List.mem_cons_of_mem _ (List.mem_append_right _ h)) hown hK.1 hP 0 rfl rfl 3 (by decide) (hts (.fieldLink RX12 88 "CutAtlasModel" "places" "I") (List.mem_of_getElem? (i := 2) rfl)) (fun _ h9 => h9) rfl dB_3_0_20.2.2.1.1 ?_
          refine lv_iconst (v := 1) hx hb dB_3_0_20.2.2.1.2 (by decide) ?_
          refine lv_isub hx hb dB_3_0_20.2.2.2.1 ?_
          refine lv_topi (fun y_8 ey_8 => ?_)
          have e_ := (ey_8.trans ey_4.symm).symm
          subst e_
          refine lv_i2l (v := y_4.toInt64) hx hb dB_3_0_20.2.2.2.2 rfl ?_
          have q_35 : (y_4.toInt64).toInt = y_4.toInt := Int32.toInt_toInt64 y_4
          refine ct_R hP hD0 [] [] (by decide) rfl (fun hPc hDw => ?_)
          have hFc := va_free (wc := []) hD hS hA [] rfl
          refine va_calli (va_runS (As := [.long a3, .long 0, .long y_4.toInt64]) (rest := []) ⟨hx, hb, hml, hown, hts⟩ (c_X12_in l D cy H.size a3 (0 : Int64) y_4.toInt64) (va_cwS 3 hts gX12_refused_X12_in rfl rfl rfl hd_X12_in ⟨Nat.le_of_ble_eq_true rfl, Nat.le_of_ble_eq_true rfl⟩) ⟨bl_, fun U hU hW => ⟨rfl, by rw [hU], by rw [hU]; exact hPc, kk_mv hW hK, hDw⟩⟩ rfl rfl hl.1 rfl (lv_room (Nat.le_of_ble_eq_true rfl)) dB_3_0_21.1.1.1.1 ⟨Nat.le_of_ble_eq_true rfl, Nat.le_of_ble_eq_true rfl⟩) hS (fun q _ h => hFc q h) hFc (fun r_9 u t H locs ht hvm hw hB hz1 hk1 hS => ?_)
          have hP : va_P D vwCl _ H := ro_keep hP hk1
          rcases hw with ⟨w_10, e_⟩ | ⟨w_10, e_⟩
          · have e_ := e_.symm
            subst e_
            refine lv_if_eq (tgt := 77) hx hb dB_3_0_21.1.1.1.2 (by decide) (fun c_11 => ?_) (fun c_11 => ?_)
            · exact absurd c_11 (by decide)
            · have _ := c_11
              refine lv_lload_n hx hb dB_3_0_21.1.1.2.1 rfl (lv_at hl 2 rfl) ?_
              refine lv_lload hx hb dB_3_0_21.1.1.2.2 (lv_at hl 3 rfl) ?_
              refine W.lcmp hx hb dB_3_0_21.1.2.1.1 ?_
              refine lv_if_eq (tgt := 77) hx hb dB_3_0_21.1.2.1.2 (by decide) (fun c_12 => ?_) (fun c_12 => ?_)
              · have t_12 : a2.toInt = a3.toInt := congrArg Int64.toInt ((lg_cmp_eq a2 a3).mp c_12)
                refine lv_iconst (v := 0) hx hb dB_3_0_22.1.1.2.1 (by decide) ?_
                refine lv_istore (lv' := [(11, .int 0), (0, .ref mo), (1, .long a1), (3, .long a2), (5, .long a3), (7, .long a4), (9, .long a5)]) hx hb dB_3_0_22.1.1.2.2 hl (by decide) rfl (fun ls hl => ?_)
                refine lv_iload hx hb dB_3_0_22.1.2.1.1 (lv_at hl 0 rfl) ?_
                refine lv_if_ne (tgt := 89) hx hb dB_3_0_22.1.2.1.2 (by decide) (fun c_13 => ?_) (fun c_13 => ?_)
                · exact absurd c_13 (by decide)
                · have _ := c_13
                  refine lv_iconst (v := (-1)) hx hb dB_3_0_22.1.2.2.1 (by decide) ?_
                  refine lv_goto (tgt := 104) hx hb dB_3_0_22.1.2.2.2 (by decide) ?_
                  rw [hQ]
                  exact W.iret (v := (-1)) hx hb hr (fun t ht hW => ⟨⟨(-1), (), rfl, Or.inl (⟨by omega, rfl⟩), trivial⟩, hS.F ht⟩) hS.2.2 dB_3_0_22.2.2.2.2
              · have t_12 : ¬ a2.toInt = a3.toInt := fun h => c_12 ((lg_cmp_eq a2 a3).mpr (Int64.toInt_inj.mp h))
                refine lv_lload hx hb dB_3_0_21.1.2.2.1 (lv_at hl 4 rfl) ?_
                refine lv_lconst (v := 0) hx hb dB_3_0_21.1.2.2.2 (by decide) ?_
                refine lv_ldc2 (v := 1000) hx hb hown (hts (.constantLong RX12 110 (1000)) (List.mem_of_getElem? (i := 3) rfl)) dB_3_0_21.2.1.1.1 ?_
                refine ct_R hP hD0 [] [] (by decide) rfl (fun hPc hDw => ?_)
                have hFc := va_free (wc := []) hD hS hA [] rfl
                refine va_calli (va_runS (As := [.long a4, .long 0, .long 1000]) (rest := []) ⟨hx, hb, hml, hown, hts⟩ (c_X12_in l D cy H.size a4 (0 : Int64) (1000 : Int64)) (va_cwS 3 hts gX12_refused_X12_in rfl rfl rfl hd_X12_in ⟨Nat.le_of_ble_eq_true rfl, Nat.le_of_ble_eq_true rfl⟩) ⟨bl_, fun U hU hW => ⟨rfl, by rw [hU], by rw [hU]; exact hPc, kk_mv hW hK, hDw⟩⟩ rfl rfl hl.1 rfl (lv_room (Nat.le_of_ble_eq_true rfl)) dB_3_0_21.2.1.1.2 ⟨Nat.le_of_ble_eq_true rfl, Nat.le_of_ble_eq_true rfl⟩) hS (fun q _ h => hFc q h) hFc (fun r_14 u t H locs ht hvm hw hB hz1 hk1 hS => ?_)
                have hP : va_P D vwCl _ H := ro_keep hP hk1
                rcases hw with ⟨w_15, e_⟩ | ⟨w_15, e_⟩
                · have e_ := e_.symm
                  subst e_
                  refine lv_if_eq (tgt := 77) hx hb dB_3_0_21.2.1.2.1 (by decide) (fun c_16 => ?_) (fun c_16 => ?_)
                  · exact absurd c_16 (by decide)
                  · have _ := c_16
                    refine lv_lload hx hb dB_3_0_21.2.1.2.2 (lv_at hl 5 rfl) ?_
                    refine lv_lconst (v := 0) hx hb dB_3_0_21.2.2.1.1 (by decide) ?_
                    refine lv_ldc2 (v := 100) hx hb hown (hts (.constantLong RX12 112 (100)) (List.mem_of_getElem? (i := 4) rfl)) dB_3_0_21.2.2.1.2 ?_
                    refine ct_R hP hD0 [] [] (by decide) rfl (fun hPc hDw => ?_)
                    have hFc := va_free (wc := []) hD hS hA [] rfl
                    refine va_calli (va_runS (As := [.long a5, .long 0, .long 100]) (rest := []) ⟨hx, hb, hml, hown, hts⟩ (c_X12_in l D cy H.size a5 (0 : Int64) (100 : Int64)) (va_cwS 3 hts gX12_refused_X12_in rfl rfl rfl hd_X12_in ⟨Nat.le_of_ble_eq_true rfl, Nat.le_of_ble_eq_true rfl⟩) ⟨bl_, fun U hU hW => ⟨rfl, by rw [hU], by rw [hU]; exact hPc, kk_mv hW hK, hDw⟩⟩ rfl rfl hl.1 rfl (lv_room (Nat.le_of_ble_eq_true rfl)) dB_3_0_21.2.2.2.1 ⟨Nat.le_of_ble_eq_true rfl, Nat.le_of_ble_eq_true rfl⟩) hS (fun q _ h => hFc q h) hFc (fun r_17 u t H locs ht hvm hw hB hz1 hk1 hS => ?_)
                    have hP : va_P D vwCl _ H := ro_keep hP hk1
                    rcases hw with ⟨w_18, e_⟩ | ⟨w_18, e_⟩
                    · have e_ := e_.symm
                      subst e_
                      refine lv_if_eq (tgt := 77) hx hb dB_3_0_21.2.2.2.2 (by decide) (fun c_19 => ?_) (fun c_19 => ?_)
                      · exact absurd c_19 (by decide)
                      · have _ := c_19
                        refine lv_iconst (v := 1) hx hb dB_3_0_22.1.1.1.1 (by decide) ?_
                        refine lv_goto (tgt := 78) hx hb dB_3_0_22.1.1.1.2 (by decide) ?_
                        refine lv_istore (lv' := [(11, .int 1), (0, .ref mo), (1, .long a1), (3, .long a2), (5, .long a3), (7, .long a4), (9, .long a5)]) hx hb dB_3_0_22.1.1.2.2 hl (by decide) rfl (fun ls hl => ?_)
                        refine lv_iload hx hb dB_3_0_22.1.2.1.1 (lv_at hl 0 rfl) ?_
                        refine lv_if_ne (tgt := 89) hx hb dB_3_0_22.1.2.1.2 (by decide) (fun c_20 => ?_) (fun c_20 => ?_)
                        · have _ := c_20
                          refine lv_aload_n hx hb dB_3_0_22.2.1.1.1 rfl (lv_at hl 1 rfl) ?_
                          refine va_get (ci := 12) (v := .int s4) (C := RX12) (T := TX12) (N := 34) hx hb hts (fun _ h => List.mem_cons_of_mem _ (List.mem_append_right _ h)) hown hK.1 hP 0 rfl rfl 4 (by decide) (hts (.fieldLink RX12 95 "CutAtlasModel" "lines" "I") (List.mem_of_getElem? (i := 5) rfl)) (fun _ h9 => h9) rfl dB_3_0_22.2.1.1.2 ?_
                          refine lv_bipush (v := 40) hx hb dB_3_0_22.2.1.2.1 (by decide) ?_
                          refine lv_icmp_ne (tgt := 103) hx hb dB_3_0_22.2.1.2.2 (by decide) (fun c_21 => ?_) (fun c_21 => ?_)
                          · have t_21 : ¬ s4.toInt = (40 : Int32).toInt := fun h => c_21 (Int32.toInt_inj.mp h)
                            refine lv_iconst (v := 0) hx hb dB_3_0_22.2.2.2.1 (by decide) ?_
                            rw [hQ]
                            exact W.iret (v := 0) hx hb hr (fun t ht hW => ⟨⟨0, (), rfl, Or.inr (Or.inr (⟨by omega, rfl⟩)), trivial⟩, hS.F ht⟩) hS.2.2 dB_3_0_22.2.2.2.2
                          · have t_21 : s4.toInt = (40 : Int32).toInt := congrArg Int32.toInt c_21
                            refine lv_bipush (v := (-3)) hx hb dB_3_0_22.2.2.1.1 (by decide) ?_
                            refine lv_goto (tgt := 104) hx hb dB_3_0_22.2.2.1.2 (by decide) ?_
                            rw [hQ]
                            exact W.iret (v := (-3)) hx hb hr (fun t ht hW => ⟨⟨(-3), (), rfl, Or.inr (Or.inl (⟨by omega, rfl⟩)), trivial⟩, hS.F ht⟩) hS.2.2 dB_3_0_22.2.2.2.2
                        · exact absurd c_20 (by decide)
                    · have e_ := e_.symm
                      subst e_
                      refine lv_if_eq (tgt := 77) hx hb dB_3_0_21.2.2.2.2 (by decide) (fun c_22 => ?_) (fun c_22 => ?_)
                      · have _ := c_22
                        refine lv_iconst (v := 0) hx hb dB_3_0_22.1.1.2.1 (by decide) ?_
                        refine lv_istore (lv' := [(11, .int 0), (0, .ref mo), (1, .long a1), (3, .long a2), (5, .long a3), (7, .long a4), (9, .long a5)]) hx hb dB_3_0_22.1.1.2.2 hl (by decide) rfl (fun ls hl => ?_)
                        refine lv_iload hx hb dB_3_0_22.1.2.1.1 (lv_at hl 0 rfl) ?_
                        refine lv_if_ne (tgt := 89) hx hb dB_3_0_22.1.2.1.2 (by decide) (fun c_23 => ?_) (fun c_23 => ?_)
                        · exact absurd c_23 (by decide)
                        · have _ := c_23
                          refine lv_iconst (v := (-1)) hx hb dB_3_0_22.1.2.2.1 (by decide) ?_
                          refine lv_goto (tgt := 104) hx hb dB_3_0_22.1.2.2.2 (by decide) ?_
                          rw [hQ]
                          exact W.iret (v := (-1)) hx hb hr (fun t ht hW => ⟨⟨(-1), (), rfl, Or.inl (⟨by omega, rfl⟩), trivial⟩, hS.F ht⟩) hS.2.2 dB_3_0_22.2.2.2.2
                      · exact absurd c_22 (by decide)
                · have e_ := e_.symm
                  subst e_
                  refine lv_if_eq (tgt := 77) hx hb dB_3_0_21.2.1.2.1 (by decide) (fun c_24 => ?_) (fun c_24 => ?_)
                  · have _ := c_24
                    refine lv_iconst (v := 0) hx hb dB_3_0_22.1.1.2.1 (by decide) ?_
                    refine lv_istore (lv' := [(11, .int 0), (0, .ref mo), (1, .long a1), (3, .long a2), (5, .long a3), (7, .long a4), (9, .long a5)]) hx hb dB_3_0_22.1.1.2.2 hl (by decide) rfl (fun ls hl => ?_)
                    refine lv_iload hx hb dB_3_0_22.1.2.1.1 (lv_at hl 0 rfl) ?_
                    refine lv_if_ne (tgt := 89) hx hb dB_3_0_22.1.2.1.2 (by decide) (fun c_25 => ?_) (fun c_25 => ?_)
                    · exact absurd c_25 (by decide)
                    · have _ := c_25
                      refine lv_iconst (v := (-1)) hx hb dB_3_0_22.1.2.2.1 (by decide) ?_
                      refine lv_goto (tgt := 104) hx hb dB_3_0_22.1.2.2.2 (by decide) ?_
                      rw [hQ]
                      exact W.iret (v := (-1)) hx hb hr (fun t ht hW => ⟨⟨(-1), (), rfl, Or.inl (⟨by omega, rfl⟩), trivial⟩, hS.F ht⟩) hS.2.2 dB_3_0_22.2.2.2.2
                  · exact absurd c_24 (by decide)
          · have e_ := e_.symm
            subst e_
            refine lv_if_eq (tgt := 77) hx hb dB_3_0_21.1.1.1.2 (by decide) (fun c_26 => ?_) (fun c_26 => ?_)
            · have _ := c_26
              refine lv_iconst (v := 0) hx hb dB_3_0_22.1.1.2.1 (by decide) ?_
              refine lv_istore (lv' := [(11, .int 0), (0, .ref mo), (1, .long a1), (3, .long a2), (5, .long a3), (7, .long a4), (9, .long a5)]) hx hb dB_3_0_22.1.1.2.2 hl (by decide) rfl (fun ls hl => ?_)
              refine lv_iload hx hb dB_3_0_22.1.2.1.1 (lv_at hl 0 rfl) ?_
              refine lv_if_ne (tgt := 89) hx hb dB_3_0_22.1.2.1.2 (by decide) (fun c_27 => ?_) (fun c_27 => ?_)
              · exact absurd c_27 (by decide)
              · have _ := c_27
                refine lv_iconst (v := (-1)) hx hb dB_3_0_22.1.2.2.1 (by decide) ?_
                refine lv_goto (tgt := 104) hx hb dB_3_0_22.1.2.2.2 (by decide) ?_
                rw [hQ]
                exact W.iret (v := (-1)) hx hb hr (fun t ht hW => ⟨⟨(-1), (), rfl, Or.inl (⟨by omega, rfl⟩), trivial⟩, hS.F ht⟩) hS.2.2 dB_3_0_22.2.2.2.2
            · exact absurd c_26 (by decide)
      · have e_ := e_.symm
        subst e_
        refine lv_if_eq (tgt := 77) hx hb dB_3_0_20.2.1.1.1 (by decide) (fun c_28 => ?_) (fun c_28 => ?_)
        · have _ := c_28
          refine lv_iconst (v := 0) hx hb dB_3_0_22.1.1.2.1 (by decide) ?_
          refine lv_istore (lv' := [(11, .int 0), (0, .ref mo), (1, .long a1), (3, .long a2), (5, .long a3), (7, .long a4), (9, .long a5)]) hx hb dB_3_0_22.1.1.2.2 hl (by decide) rfl (fun ls hl => ?_)
          refine lv_iload hx hb dB_3_0_22.1.2.1.1 (lv_at hl 0 rfl) ?_
          refine lv_if_ne (tgt := 89) hx hb dB_3_0_22.1.2.1.2 (by decide) (fun c_29 => ?_) (fun c_29 => ?_)
          · exact absurd c_29 (by decide)
          · have _ := c_29
            refine lv_iconst (v := (-1)) hx hb dB_3_0_22.1.2.2.1 (by decide) ?_
            refine lv_goto (tgt := 104) hx hb dB_3_0_22.1.2.2.2 (by decide) ?_
            rw [hQ]
            exact W.iret (v := (-1)) hx hb hr (fun t ht hW => ⟨⟨(-1), (), rfl, Or.inl (⟨by omega, rfl⟩), trivial⟩, hS.F ht⟩) hS.2.2 dB_3_0_22.2.2.2.2
        · exact absurd c_28 (by decide)
  · have e_ := e_.symm
    subst e_
    refine lv_if_eq (tgt := 77) hx hb dB_3_0_19.2.2.2.2 (by decide) (fun c_30 => ?_) (fun c_30 => ?_)
    · have _ := c_30
      refine lv_iconst (v := 0) hx hb dB_3_0_22.1.1.2.1 (by decide) ?_
      refine lv_istore (lv' := [(11, .int 0), (0, .ref mo), (1, .long a1), (3, .long a2), (5, .long a3), (7, .long a4), (9, .long a5)]) hx hb dB_3_0_22.1.1.2.2 hl (by decide) rfl (fun ls hl => ?_)
      refine lv_iload hx hb dB_3_0_22.1.2.1.1 (lv_at hl 0 rfl) ?_
      refine lv_if_ne (tgt := 89) hx hb dB_3_0_22.1.2.1.2 (by decide) (fun c_31 => ?_) (fun c_31 => ?_)
      · exact absurd c_31 (by decide)
      · have _ := c_31
        refine lv_iconst (v := (-1)) hx hb dB_3_0_22.1.2.2.1 (by decide) ?_
        refine lv_goto (tgt := 104) hx hb dB_3_0_22.1.2.2.2 (by decide) ?_
        rw [hQ]
        exact W.iret (v := (-1)) hx hb hr (fun t ht hW => ⟨⟨(-1), (), rfl, Or.inl (⟨by omega, rfl⟩), trivial⟩, hS.F ht⟩) hS.2.2 dB_3_0_22.2.2.2.2
    · exact absurd c_30 (by decide)
end

section
set_option maxHeartbeats 4000000 in
set_option maxRecDepth 100000 in
theorem c_X12_no (l : Launch) (D : va_G) (cy : Nat → ClassId) (sz : Nat) (mo : Nat) (g5 : Nat) (g6 : Nat) (g7 : Nat) (g8 : Nat) (g9 : Nat) (g10 : Nat) (g12 : Nat) (g13 : Nat) (g14 : Nat) (g15 : Nat) (g16 : Nat) (g17 : Nat) (g18 : Nat) (g19 : Nat) (g20 : Nat) (g22 : Nat) (g23 : Nat) (g24 : Nat) (g29 : Nat) (g30 : Nat) (g31 : Nat) (g32 : Nat) (g33 : Nat) (s0 : Int32) (s1 : Int32) (s3 : Int32) (s4 : Int32) (s11 : Int32) (s21 : Int32) (s25 : Int32) (s26 : Int32) (s27 : Int32) (s28 : Int32) (t2 : Int64) (a1 : Int32) : Met l yX12_no wsX12_no ({ frames := 0, cells := 0, slots := 0, locals := 0 }) (va_Pc [.ref mo, .int a1] (fun U => U.heap.size = sz ∧ va_P D vwCl [ob12_0_ mo s0 s1 t2 s3 s4 g5 g6 g7 g8 g9 g10 s11 g12 g13 g14 g15 g16 g17 g18 g19 g20 s21 g22 g23 g24 s25 s26 s27 s28 g29 g30 g31 g32 g33] U.heap ∧ kk_ D cy U ∧ va_D (fun _ => True) [ob12_0_ mo s0 s1 t2 s3 s4 g5 g6 g7 g8 g9 g10 s11 g12 g13 g14 g15 g16 g17 g18 g19 g20 s21 g22 g23 g24 s25 s26 s27 s28 g29 g30 g31 g32 g33])) (va_Qi (fun (r : Int32) (_ : Unit) => r = a1) (fun (_ : Unit) (t : State) => ∃ (n1 : Int32), va_P D vwCl [ob12_0_ mo s0 n1 t2 s3 s4 g5 g6 g7 g8 g9 g10 s11 g12 g13 g14 g15 g16 g17 g18 g19 g20 s21 g22 g23 g24 s25 s26 s27 s28 g29 g30 g31 g32 g33] t.heap ∧ va_D (va_A [ob12_0_ mo s0 s1 t2 s3 s4 g5 g6 g7 g8 g9 g10 s11 g12 g13 g14 g15 g16 g17 g18 g19 g20 s21 g22 g23 g24 s25 s26 s27 s28 g29 g30 g31 g32 g33] sz) [ob12_0_ mo s0 n1 t2 s3 s4 g5 g6 g7 g8 g9 g10 s11 g12 g13 g14 g15 g16 g17 g18 g19 g20 s21 g22 g23 g24 s25 s26 s27 s28 g29 g30 g31 g32 g33]) (va_A [ob12_0_ mo s0 s1 t2 s3 s4 g5 g6 g7 g8 g9 g10 s11 g12 g13 g14 g15 g16 g17 g18 g19 g20 s21 g22 g23 g24 s25 s26 s27 s28 g29 g30 g31 g32 g33] sz)) 0 0 (va_A [ob12_0_ mo s0 s1 t2 s3 s4 g5 g6 g7 g8 g9 g10 s11 g12 g13 g14 g15 g16 g17 g18 g19 g20 s21 g22 g23 g24 s25 s26 s27 s28 g29 g30 g31 g32 g33] sz) := by
  refine ofQ (cc := cX12_no) (maxL := 2) (ret := (some .int)) (by decide) rfl ?_
  intro p e s m args below meth c s₁ Q hQ B hml hv
  obtain ⟨rfl, hsz, hP, hK, hD0⟩ := hv
  have hx := B.exec
  have hb := B.bytes
  have hr := B.returns
  have hts := atoms_spec (ws := wsX12_no) B.pre
  have hown : s.vm.findClass RX12 = some m.cls := by have h_ := findClass_of_methodNamed B.named; exact h_
  have hlocks := B.notSynchronized
  subst hsz
  have hD := hD0.self (sz := s.heap.size)
  generalize hAe : va_A [ob12_0_ mo s0 s1 t2 s3 s4 g5 g6 g7 g8 g9 g10 s11 g12 g13 g14 g15 g16 g17 g18 g19 g20 s21 g22 g23 g24 s25 s26 s27 s28 g29 g30 g31 g32 g33] s.heap.size = A at hD hQ
  have hA : ∀ q : Nat, s.heap.size ≤ q → A q := fun q h => by rw [← hAe]; exact Or.inr h
  have hS : va_S A s.heap s.heap [] := va_S.rf
  have hl := lv_entry ([.ref mo, .int a1]) (n := 2) (Nat.le_of_ble_eq_true rfl)
  rw [lg_entry_eq]
  generalize (lg_sl ([.ref mo, .int a1]) ++ List.replicate (2 - (lg_sl ([.ref mo, .int a1])).length) Slot.unset).toArray = ls at hl ⊢
  have hl : lv_has ls 2 [(0, .ref mo), (1, .int a1)] := hl
  refine lv_aload_n hx hb dB_3_3_3.2.2.1.1 rfl (lv_at hl 0 rfl) ?_
  refine lv_iload_n hx hb dB_3_3_3.2.2.1.2 rfl (lv_at hl 1 rfl) ?_
  refine va_put (ci := 12) (v := .int a1) (ty := .int) (C := RX12) (T := TX12) (N := 34) hx hb hts (fun _ h => List.mem_cons_of_mem _ (List.mem_append_right _ h)) tyX12 tyX12_ok nmX12 hown hK.1 hP hD hS 0 rfl rfl 1 (by decide) (hts (.fieldLink RX12 240 "CutAtlasModel" "status" "I") (List.mem_of_getElem? (i := 1) rfl)) (fun _ h9 => h9) rfl (by decide +kernel) rfl rfl (Nat.le_of_ble_eq_true rfl) dB_3_3_3.2.2.2.1 (fun H locs hP hD hS => ?_)
  refine pd_K [ob12_0_ mo s0 a1 t2 s3 s4 g5 g6 g7 g8 g9 g10 s11 g12 g13 g14 g15 g16 g17 g18 g19 g20 s21 g22 g23 g24 s25 s26 s27 s28 g29 g30 g31 g32 g33] hP hD (fun hP hD => ?_)
  refine lv_iload_n hx hb dB_3_3_3.2.2.2.2 rfl (lv_at hl 1 rfl) ?_
  rw [hQ]
  exact W.iret (v := a1) hx hb hr (fun t ht hW => ⟨⟨a1, (), rfl, rfl, a1, by rw [ht]; exact hP, hD⟩, hS.F ht⟩) hS.2.2 dB_3_3_4.1.1.1.1
end

section
set_option maxHeartbeats 4000000 in
set_option maxRecDepth 100000 in
theorem c_X12_areThere (l : Launch) (D : va_G) (cy : Nat → ClassId) (sz : Nat) (a1 : Int32) (a2 : Int32) (a3 : Int32) : Met l yX12_areThere wsX12_areThere ({ frames := 0, cells := 0, slots := 0, locals := 0 }) (va_Pc [.int a1, .int a2, .int a3] (fun U => U.heap.size = sz ∧ va_P D vwCl [] U.heap ∧ kk_ D cy U ∧ va_D (fun _ => True) [])) (va_Qi (fun (r : Int32) (_ : Unit) => ((0 ≤ a1.toInt ∧ 0 ≤ a2.toInt ∧ a1.toInt + a2.toInt ≤ a3.toInt) ∧ r = 1) ∨ ((¬ (0 ≤ a1.toInt ∧ 0 ≤ a2.toInt ∧ a1.toInt + a2.toInt ≤ a3.toInt)) ∧ r = 0)) (fun (_ : Unit) (_ : State) => True) (va_A [] sz)) 0 0 (va_A [] sz) := by
  refine ofQ (cc := cX12_areThere) (maxL := 3) (ret := (some .boolean)) (by decide) rfl ?_
  intro p e s m args below meth c s₁ Q hQ B hml hv
  obtain ⟨rfl, hsz, hP, hK, hD0⟩ := hv
  have hx := B.exec
  have hb := B.bytes
  have hr := B.returns
  have hts := atoms_spec (ws := wsX12_areThere) B.pre
  have hown : s.vm.findClass RX12 = some m.cls := by have h_ := findClass_of_methodNamed B.named; exact h_
  have hlocks := B.notSynchronized
  subst hsz
  have hD : va_D (va_A [] s.heap.size) [] := dd_nil
  generalize hAe : va_A [] s.heap.size = A at hD hQ
  have hA : ∀ q : Nat, s.heap.size ≤ q → A q := fun q h => by rw [← hAe]; exact Or.inr h
  have hS : va_S A s.heap s.heap [] := va_S.rf
  have hl := lv_entry ([.int a1, .int a2, .int a3]) (n := 3) (Nat.le_of_ble_eq_true rfl)
  rw [lg_entry_eq]
  generalize (lg_sl ([.int a1, .int a2, .int a3]) ++ List.replicate (3 - (lg_sl ([.int a1, .int a2, .int a3])).length) Slot.unset).toArray = ls at hl ⊢
  have hl : lv_has ls 3 [(0, .int a1), (1, .int a2), (2, .int a3)] := hl
  have z0 : (0 : Int32).toInt = 0 := by decide
  have z1 : (1 : Int32).toInt = 1 := by decide
  refine lv_iload_n hx hb dB_3_3_20.2.1.1.1 rfl (lv_at hl 0 rfl) ?_
  refine lv_if_lt (tgt := 23) hx hb dB_3_3_20.2.1.1.2 (by decide) (fun c_1 => ?_) (fun c_1 => ?_)
  · have t_1 : a1.toInt < (0 : Int32).toInt := Int32.lt_iff_toInt_lt.mp c_1
    refine lv_iconst (v := 0) hx hb dB_3_3_21.1.2.2.2 (by decide) ?_
    rw [hQ]
    exact W.zret (ty := .boolean) (v := 0) hx hb hr (by decide) (fun t ht hW => ⟨⟨0, (), rfl, Or.inr (⟨by omega, rfl⟩), trivial⟩, hS.F ht⟩) hS.2.2 dB_3_3_21.2.1.1.1
  · have t_1 : ¬ a1.toInt < (0 : Int32).toInt := fun h => c_1 (Int32.lt_iff_toInt_lt.mpr h)
    refine lv_iload_n hx hb dB_3_3_20.2.1.2.1 rfl (lv_at hl 1 rfl) ?_
    refine lv_if_lt (tgt := 23) hx hb dB_3_3_20.2.1.2.2 (by decide) (fun c_2 => ?_) (fun c_2 => ?_)
    · have t_2 : a2.toInt < (0 : Int32).toInt := Int32.lt_iff_toInt_lt.mp c_2
      refine lv_iconst (v := 0) hx hb dB_3_3_21.1.2.2.2 (by decide) ?_
      rw [hQ]
      exact W.zret (ty := .boolean) (v := 0) hx hb hr (by decide) (fun t ht hW => ⟨⟨0, (), rfl, Or.inr (⟨by omega, rfl⟩), trivial⟩, hS.F ht⟩) hS.2.2 dB_3_3_21.2.1.1.1
    · have t_2 : ¬ a2.toInt < (0 : Int32).toInt := fun h => c_2 (Int32.lt_iff_toInt_lt.mpr h)
      refine lv_iload_n hx hb dB_3_3_20.2.2.1.1 rfl (lv_at hl 0 rfl) ?_
      refine lv_i2l (v := a1.toInt64) hx hb dB_3_3_20.2.2.1.2 rfl ?_
      have q_9 : (a1.toInt64).toInt = a1.toInt := Int32.toInt_toInt64 a1
      refine lv_iload_n hx hb dB_3_3_20.2.2.2.1 rfl (lv_at hl 1 rfl) ?_
      refine lv_i2l (v := a2.toInt64) hx hb dB_3_3_20.2.2.2.2 rfl ?_
      have q_11 : (a2.toInt64).toInt = a2.toInt := Int32.toInt_toInt64 a2
      refine lv_ladd hx hb dB_3_3_21.1.1.1.1 ?_
      refine lv_topl (fun y_3 ey_3 => ?_)
      have ty_3 : y_3.toInt = a1.toInt64.toInt + a2.toInt64.toInt := by rw [ey_3]; exact addL (by have := Int32.toInt_lt a1; have := Int32.toInt_lt a2; omega) (by have := Int32.toInt_lt a1; have := Int32.toInt_lt a2; omega)
      refine lv_iload_n hx hb dB_3_3_21.1.1.1.2 rfl (lv_at hl 2 rfl) ?_
      refine lv_i2l (v := a3.toInt64) hx hb dB_3_3_21.1.1.2.1 rfl ?_
      have q_14 : (a3.toInt64).toInt = a3.toInt := Int32.toInt_toInt64 a3
      refine W.lcmp hx hb dB_3_3_21.1.1.2.2 ?_
      refine lv_if_gt (tgt := 23) hx hb dB_3_3_21.1.2.1.1 (by decide) (fun c_4 => ?_) (fun c_4 => ?_)
      · have t_4 : a3.toInt64.toInt < y_3.toInt := Int64.lt_iff_toInt_lt.mp ((lg_cmp_gt y_3 a3.toInt64).mp c_4)
        refine lv_iconst (v := 0) hx hb dB_3_3_21.1.2.2.2 (by decide) ?_
        rw [hQ]
        exact W.zret (ty := .boolean) (v := 0) hx hb hr (by decide) (fun t ht hW => ⟨⟨0, (), rfl, Or.inr (⟨by omega, rfl⟩), trivial⟩, hS.F ht⟩) hS.2.2 dB_3_3_21.2.1.1.1
      · have t_4 : ¬ a3.toInt64.toInt < y_3.toInt := fun h => c_4 ((lg_cmp_gt y_3 a3.toInt64).mpr (Int64.lt_iff_toInt_lt.mpr h))
        refine lv_iconst (v := 1) hx hb dB_3_3_21.1.2.1.2 (by decide) ?_
        refine lv_goto (tgt := 24) hx hb dB_3_3_21.1.2.2.1 (by decide) ?_
        rw [hQ]
        exact W.zret (ty := .boolean) (v := 1) hx hb hr (by decide) (fun t ht hW => ⟨⟨1, (), rfl, Or.inl (⟨by omega, rfl⟩), trivial⟩, hS.F ht⟩) hS.2.2 dB_3_3_21.2.1.1.1
end

section
theorem l2iI {y : Int64} (h1 : -2147483648 ≤ y.toInt) (h2 : y.toInt ≤ 2147483647) : y.toInt32.toInt = y.toInt := by
  rw [Int64.toInt_toInt32]
  exact Int.bmod_eq_of_le (by omega) (by omega)
end
