set_option maxHeartbeats 4000000 in
set_option maxRecDepth 100000 in
theorem whole_start {p : Program} {e : Env} {s : State} {m : MethodId} {below : List Frame} {meth : Method} {c : Code} (l : Launch) {b L : Nat} {xs : Nat → Int32} (hL : L ≤ 7) (C0 : lw_At p s m meth c b L xs) : W p l e room_1 s m #[Value.ref b] below meth c s.heap [] 0 0 (lw_Z below #[Value.ref b] s) (entryFrame m ([Value.ref b] : List Value).toArray 4) := by
  obtain ⟨hx, hb, hr, hml, hown, hts, hX, hbl, hlocks, hgv⟩ := id C0
  have hown : s.vm.findClass RL = some m.cls := hown
  have hA : ∀ q : Nat, s.heap.size ≤ q → (fun q : Nat => s.heap.size ≤ q) q := fun _ h => h
  have hbA : ¬ (fun q : Nat => s.heap.size ≤ q) b := Nat.not_le.mpr hbl
  have hS : va_S (fun q : Nat => s.heap.size ≤ q) s.heap s.heap [] := va_S.rf
  obtain ⟨D, cy, hK⟩ := kk_start C0
  have hP : va_P D vwCl [] s.heap := pp_nil
  have hD : va_D (fun q : Nat => s.heap.size ≤ q) [] := dd_nil
  have hl := lv_entry ([.ref b]) (n := 4) (Nat.le_of_ble_eq_true rfl)
  rw [lg_entry_eq]
  generalize (lg_sl ([.ref b]) ++ List.replicate (4 - (lg_sl ([.ref b])).length) Slot.unset).toArray = ls at hl ⊢
  have hl : lv_has ls 4 [(0, .ref b)] := hl
  refine va_new (ci := 11) (fs := [.null, .null, .null, .null, .null, .null, .null, .null, .int 0, .int 0, .long 0, .int 0]) (C := RX11) (T := TX11) (N := 12) hx hb hts inf_X11 tyX11 tyX11_ok hown (hts (.classLink RL 7 RX11) kw_1082) (hts (.instantiable RX11 12) kw_1083) (hts (.initialized RX11) kw_227) hK.1 hP hD hS hA rfl (by decide +kernel) (Nat.le_of_ble_eq_true rfl) (Nat.le_of_ble_eq_true rfl) dL_law_0 (fun q_1 H hP hD hS => ?_)
  have hP : va_P D vwCl [(q_1, .inr (11, [.null, .null, .null, .null, .null, .null, .null, .null, .int 0, .int 0, .long 0, .int 0]))] H := hP
  have hD : va_D (fun q : Nat => s.heap.size ≤ q) [(q_1, .inr (11, [.null, .null, .null, .null, .null, .null, .null, .null, .int 0, .int 0, .long 0, .int 0]))] := hD
  refine lv_dup hx hb dL_law_3 rfl ?_
  have hPc := hP.sub (ws' := [(q_1, .inr (11, [.null, .null, .null, .null, .null, .null, .null, .null, .int 0, .int 0, .long 0, .int 0]))]) [0] rfl
  have hDc := hD.sub (ws' := [(q_1, .inr (11, [.null, .null, .null, .null, .null, .null, .null, .null, .int 0, .int 0, .long 0, .int 0]))]) [0] (by decide) rfl
  have hDw : va_D (fun _ => True) [(q_1, .inr (11, [.null, .null, .null, .null, .null, .null, .null, .null, .int 0, .int 0, .long 0, .int 0]))] := hDc.weaken (fun _ _ _ _ => trivial)
  have hFc := va_free (wc := [(q_1, .inr (11, [.null, .null, .null, .null, .null, .null, .null, .null, .int 0, .int 0, .long 0, .int 0]))]) hD hS hA [0] rfl
  refine va_callv (va_runI (As := []) (rest := [.ref q_1]) ⟨hx, hb, hml, hown, hts⟩ (c_X11_init l D cy H.size q_1) (cwI 0 hts lg_X11_init rfl rfl rfl (hts (.initialized RX11) kw_227) (hts (.methodLink RL 9 yX11_init) kw_1084) (hts (.instanceMethod yX11_init) kw_1085) rfl (by decide +kernel) ⟨Nat.le_of_ble_eq_true rfl, Nat.le_of_ble_eq_true rfl⟩) ⟨bl_, fun U hU hW => ⟨rfl, by rw [hU], by rw [hU]; exact hPc, kk_mv hW hK, hDw⟩⟩ rfl rfl hl.1 rfl (lv_room (Nat.le_of_ble_eq_true rfl)) dL_law_4 ⟨Nat.le_of_ble_eq_true rfl, Nat.le_of_ble_eq_true rfl⟩) hS (fun q _ h => hFc q h) hFc (fun u t H locs ht hvm hw hB hz1 hk1 hS => ?_)
  obtain ⟨xk_3, xn_4, xc_5, xh_6, xt_7, xw_8, xm_9, xp_10, n1_11, n2_12, n3_13, n4_14, n5_15, m0_16, m1_17, m2_18, m3_19, l0_20, l1_21, l2_22, l3_23, u0_24, u1_25, u2_26, u3_27, hP1, hD1⟩ := hB
  rw [ht] at hP1
  obtain ⟨hP, hD⟩ := va_join (wr := []) (w1 := [(q_1, .inr (11, [.ref xk_3, .ref xn_4, .ref xc_5, .ref xh_6, .ref xt_7, .ref xw_8, .ref xm_9, .ref xp_10, .int 0, .int 0, .long 0, .int 0])), (xn_4, .inr (3, [.int 0, .int 0, .ref n1_11, .ref n2_12, .ref n3_13, .ref n4_14, .ref n5_15])), (n1_11, .inl (cy 0, 40, .inl (fun _ => 0))), (n2_12, .inl (cy 0, 40, .inl (fun _ => 0))), (n3_13, .inl (cy 0, 40, .inl (fun _ => 0))), (n4_14, .inl (cy 0, 40, .inl (fun _ => 0))), (n5_15, .inl (cy 0, 40, .inl (fun _ => 0))), (xm_9, .inl (cy 4, 4, .inr (.inr (.inr (.inr (mf_ m0_16 m1_17 m2_18 m3_19)))))), (m0_16, .inr (4, [.int 0, .int (-9), .ref l0_20, .ref u0_24])), (m1_17, .inr (4, [.int 0, .int (-9), .ref l1_21, .ref u1_25])), (m2_18, .inr (4, [.int 0, .int (-9), .ref l2_22, .ref u2_26])), (m3_19, .inr (4, [.int 0, .int (-9), .ref l3_23, .ref u3_27])), (l0_20, .inl (cy 0, 6, .inl (fun _ => 0))), (l1_21, .inl (cy 0, 6, .inl (fun _ => 0))), (l2_22, .inl (cy 0, 6, .inl (fun _ => 0))), (l3_23, .inl (cy 0, 6, .inl (fun _ => 0))), (xp_10, .inl (cy 5, 30, .inr (.inr (.inr (.inr (fun _ => none))))))]) hP hD [0] [] rfl rfl (by decide) (by decide) hk1 hFc hP1 hD1
  have hP : va_P D vwCl [(q_1, .inr (11, [.ref xk_3, .ref xn_4, .ref xc_5, .ref xh_6, .ref xt_7, .ref xw_8, .ref xm_9, .ref xp_10, .int 0, .int 0, .long 0, .int 0])), (xn_4, .inr (3, [.int 0, .int 0, .ref n1_11, .ref n2_12, .ref n3_13, .ref n4_14, .ref n5_15])), (n1_11, .inl (cy 0, 40, .inl (fun _ => 0))), (n2_12, .inl (cy 0, 40, .inl (fun _ => 0))), (n3_13, .inl (cy 0, 40, .inl (fun _ => 0))), (n4_14, .inl (cy 0, 40, .inl (fun _ => 0))), (n5_15, .inl (cy 0, 40, .inl (fun _ => 0))), (xm_9, .inl (cy 4, 4, .inr (.inr (.inr (.inr (mf_ m0_16 m1_17 m2_18 m3_19)))))), (m0_16, .inr (4, [.int 0, .int (-9), .ref l0_20, .ref u0_24])), (m1_17, .inr (4, [.int 0, .int (-9), .ref l1_21, .ref u1_25])), (m2_18, .inr (4, [.int 0, .int (-9), .ref l2_22, .ref u2_26])), (m3_19, .inr (4, [.int 0, .int (-9), .ref l3_23, .ref u3_27])), (l0_20, .inl (cy 0, 6, .inl (fun _ => 0))), (l1_21, .inl (cy 0, 6, .inl (fun _ => 0))), (l2_22, .inl (cy 0, 6, .inl (fun _ => 0))), (l3_23, .inl (cy 0, 6, .inl (fun _ => 0))), (xp_10, .inl (cy 5, 30, .inr (.inr (.inr (.inr (fun _ => none))))))] H := hP
  have hD : va_D (fun q : Nat => s.heap.size ≤ q) [(q_1, .inr (11, [.ref xk_3, .ref xn_4, .ref xc_5, .ref xh_6, .ref xt_7, .ref xw_8, .ref xm_9, .ref xp_10, .int 0, .int 0, .long 0, .int 0])), (xn_4, .inr (3, [.int 0, .int 0, .ref n1_11, .ref n2_12, .ref n3_13, .ref n4_14, .ref n5_15])), (n1_11, .inl (cy 0, 40, .inl (fun _ => 0))), (n2_12, .inl (cy 0, 40, .inl (fun _ => 0))), (n3_13, .inl (cy 0, 40, .inl (fun _ => 0))), (n4_14, .inl (cy 0, 40, .inl (fun _ => 0))), (n5_15, .inl (cy 0, 40, .inl (fun _ => 0))), (xm_9, .inl (cy 4, 4, .inr (.inr (.inr (.inr (mf_ m0_16 m1_17 m2_18 m3_19)))))), (m0_16, .inr (4, [.int 0, .int (-9), .ref l0_20, .ref u0_24])), (m1_17, .inr (4, [.int 0, .int (-9), .ref l1_21, .ref u1_25])), (m2_18, .inr (4, [.int 0, .int (-9), .ref l2_22, .ref u2_26])), (m3_19, .inr (4, [.int 0, .int (-9), .ref l3_23, .ref u3_27])), (l0_20, .inl (cy 0, 6, .inl (fun _ => 0))), (l1_21, .inl (cy 0, 6, .inl (fun _ => 0))), (l2_22, .inl (cy 0, 6, .inl (fun _ => 0))), (l3_23, .inl (cy 0, 6, .inl (fun _ => 0))), (xp_10, .inl (cy 5, 30, .inr (.inr (.inr (.inr (fun _ => none))))))] := hD
  refine lv_astore_n (lv' := [(1, .ref q_1), (0, .ref b)]) hx hb dL_law_7 rfl hl (by decide) rfl (fun ls hl => ?_)
  refine va_new (ci := 12) (fs := [.int 0, .int 0, .long 0, .int 0, .int 0, .null, .null, .null, .null, .null, .null, .int 0, .null, .null, .null, .null, .null, .null, .null, .null, .null, .int 0, .null, .null, .null, .int 0, .int 0, .int 0, .int 0, .null, .null, .null, .null, .null]) (C := RX12) (T := TX12) (N := 34) hx hb hts inf_X12 tyX12 tyX12_ok hown (hts (.classLink RL 10 RX12) kw_1086) (hts (.instantiable RX12 34) kw_1087) (hts (.initialized RX12) kw_247) hK.1 hP hD hS hA rfl (by decide +kernel) (Nat.le_of_ble_eq_true rfl) (Nat.le_of_ble_eq_true rfl) dL_law_8 (fun q_28 H hP hD hS => ?_)
  have hP : va_P D vwCl [(q_1, .inr (11, [.ref xk_3, .ref xn_4, .ref xc_5, .ref xh_6, .ref xt_7, .ref xw_8, .ref xm_9, .ref xp_10, .int 0, .int 0, .long 0, .int 0])), (xn_4, .inr (3, [.int 0, .int 0, .ref n1_11, .ref n2_12, .ref n3_13, .ref n4_14, .ref n5_15])), (n1_11, .inl (cy 0, 40, .inl (fun _ => 0))), (n2_12, .inl (cy 0, 40, .inl (fun _ => 0))), (n3_13, .inl (cy 0, 40, .inl (fun _ => 0))), (n4_14, .inl (cy 0, 40, .inl (fun _ => 0))), (n5_15, .inl (cy 0, 40, .inl (fun _ => 0))), (xm_9, .inl (cy 4, 4, .inr (.inr (.inr (.inr (mf_ m0_16 m1_17 m2_18 m3_19)))))), (m0_16, .inr (4, [.int 0, .int (-9), .ref l0_20, .ref u0_24])), (m1_17, .inr (4, [.int 0, .int (-9), .ref l1_21, .ref u1_25])), (m2_18, .inr (4, [.int 0, .int (-9), .ref l2_22, .ref u2_26])), (m3_19, .inr (4, [.int 0, .int (-9), .ref l3_23, .ref u3_27])), (l0_20, .inl (cy 0, 6, .inl (fun _ => 0))), (l1_21, .inl (cy 0, 6, .inl (fun _ => 0))), (l2_22, .inl (cy 0, 6, .inl (fun _ => 0))), (l3_23, .inl (cy 0, 6, .inl (fun _ => 0))), (xp_10, .inl (cy 5, 30, .inr (.inr (.inr (.inr (fun _ => none)))))), (q_28, .inr (12, [.int 0, .int 0, .long 0, .int 0, .int 0, .null, .null, .null, .null, .null, .null, .int 0, .null, .null, .null, .null, .null, .null, .null, .null, .null, .int 0, .null, .null, .null, .int 0, .int 0, .int 0, .int 0, .null, .null, .null, .null, .null]))] H := hP
  have hD : va_D (fun q : Nat => s.heap.size ≤ q) [(q_1, .inr (11, [.ref xk_3, .ref xn_4, .ref xc_5, .ref xh_6, .ref xt_7, .ref xw_8, .ref xm_9, .ref xp_10, .int 0, .int 0, .long 0, .int 0])), (xn_4, .inr (3, [.int 0, .int 0, .ref n1_11, .ref n2_12, .ref n3_13, .ref n4_14, .ref n5_15])), (n1_11, .inl (cy 0, 40, .inl (fun _ => 0))), (n2_12, .inl (cy 0, 40, .inl (fun _ => 0))), (n3_13, .inl (cy 0, 40, .inl (fun _ => 0))), (n4_14, .inl (cy 0, 40, .inl (fun _ => 0))), (n5_15, .inl (cy 0, 40, .inl (fun _ => 0))), (xm_9, .inl (cy 4, 4, .inr (.inr (.inr (.inr (mf_ m0_16 m1_17 m2_18 m3_19)))))), (m0_16, .inr (4, [.int 0, .int (-9), .ref l0_20, .ref u0_24])), (m1_17, .inr (4, [.int 0, .int (-9), .ref l1_21, .ref u1_25])), (m2_18, .inr (4, [.int 0, .int (-9), .ref l2_22, .ref u2_26])), (m3_19, .inr (4, [.int 0, .int (-9), .ref l3_23, .ref u3_27])), (l0_20, .inl (cy 0, 6, .inl (fun _ => 0))), (l1_21, .inl (cy 0, 6, .inl (fun _ => 0))), (l2_22, .inl (cy 0, 6, .inl (fun _ => 0))), (l3_23, .inl (cy 0, 6, .inl (fun _ => 0))), (xp_10, .inl (cy 5, 30, .inr (.inr (.inr (.inr (fun _ => none)))))), (q_28, .inr (12, [.int 0, .int 0, .long 0, .int 0, .int 0, .null, .null, .null, .null, .null, .null, .int 0, .null, .null, .null, .null, .null, .null, .null, .null, .null, .int 0, .null, .null, .null, .int 0, .int 0, .int 0, .int 0, .null, .null, .null, .null, .null]))] := hD
  refine lv_dup hx hb dL_law_11 rfl ?_
  have hPc := hP.sub (ws' := [(q_28, .inr (12, [.int 0, .int 0, .long 0, .int 0, .int 0, .null, .null, .null, .null, .null, .null, .int 0, .null, .null, .null, .null, .null, .null, .null, .null, .null, .int 0, .null, .null, .null, .int 0, .int 0, .int 0, .int 0, .null, .null, .null, .null, .null]))]) [17] rfl
  have hDc := hD.sub (ws' := [(q_28, .inr (12, [.int 0, .int 0, .long 0, .int 0, .int 0, .null, .null, .null, .null, .null, .null, .int 0, .null, .null, .null, .null, .null, .null, .null, .null, .null, .int 0, .null, .null, .null, .int 0, .int 0, .int 0, .int 0, .null, .null, .null, .null, .null]))]) [17] (by decide) rfl
  have hDw : va_D (fun _ => True) [(q_28, .inr (12, [.int 0, .int 0, .long 0, .int 0, .int 0, .null, .null, .null, .null, .null, .null, .int 0, .null, .null, .null, .null, .null, .null, .null, .null, .null, .int 0, .null, .null, .null, .int 0, .int 0, .int 0, .int 0, .null, .null, .null, .null, .null]))] := hDc.weaken (fun _ _ _ _ => trivial)
  have hFc := va_free (wc := [(q_28, .inr (12, [.int 0, .int 0, .long 0, .int 0, .int 0, .null, .null, .null, .null, .null, .null, .int 0, .null, .null, .null, .null, .null, .null, .null, .null, .null, .int 0, .null, .null, .null, .int 0, .int 0, .int 0, .int 0, .null, .null, .null, .null, .null]))]) hD hS hA [17] rfl
  refine va_callv (va_runI (As := []) (rest := [.ref q_28]) ⟨hx, hb, hml, hown, hts⟩ (c_X12_init l D cy H.size q_28) (cwI 0 hts lg_X12_init rfl rfl rfl (hts (.initialized RX12) kw_247) (hts (.methodLink RL 12 yX12_init) kw_1088) (hts (.instanceMethod yX12_init) kw_1089) rfl (by decide +kernel) ⟨Nat.le_of_ble_eq_true rfl, Nat.le_of_ble_eq_true rfl⟩) ⟨bl_, fun U hU hW => ⟨rfl, by rw [hU], by rw [hU]; exact hPc, kk_mv hW hK, hDw⟩⟩ rfl rfl hl.1 rfl (lv_room (Nat.le_of_ble_eq_true rfl)) dL_law_12 ⟨Nat.le_of_ble_eq_true rfl, Nat.le_of_ble_eq_true rfl⟩) hS (fun q _ h => hFc q h) hFc (fun u t H locs ht hvm hw hB hz1 hk1 hS => ?_)
  obtain ⟨g5_30, g6_31, g7_32, g8_33, g9_34, g10_35, g12_36, g13_37, g14_38, g15_39, g16_40, g17_41, g18_42, g19_43, g20_44, g22_45, g23_46, g24_47, g29_48, g30_49, g31_50, g32_51, g33_52, hP1, hD1⟩ := hB
  rw [ht] at hP1
  obtain ⟨hP, hD⟩ := va_join (wr := [(q_1, .inr (11, [.ref xk_3, .ref xn_4, .ref xc_5, .ref xh_6, .ref xt_7, .ref xw_8, .ref xm_9, .ref xp_10, .int 0, .int 0, .long 0, .int 0])), (xn_4, .inr (3, [.int 0, .int 0, .ref n1_11, .ref n2_12, .ref n3_13, .ref n4_14, .ref n5_15])), (n1_11, .inl (cy 0, 40, .inl (fun _ => 0))), (n2_12, .inl (cy 0, 40, .inl (fun _ => 0))), (n3_13, .inl (cy 0, 40, .inl (fun _ => 0))), (n4_14, .inl (cy 0, 40, .inl (fun _ => 0))), (n5_15, .inl (cy 0, 40, .inl (fun _ => 0))), (xm_9, .inl (cy 4, 4, .inr (.inr (.inr (.inr (mf_ m0_16 m1_17 m2_18 m3_19)))))), (m0_16, .inr (4, [.int 0, .int (-9), .ref l0_20, .ref u0_24])), (m1_17, .inr (4, [.int 0, .int (-9), .ref l1_21, .ref u1_25])), (m2_18, .inr (4, [.int 0, .int (-9), .ref l2_22, .ref u2_26])), (m3_19, .inr (4, [.int 0, .int (-9), .ref l3_23, .ref u3_27])), (l0_20, .inl (cy 0, 6, .inl (fun _ => 0))), (l1_21, .inl (cy 0, 6, .inl (fun _ => 0))), (l2_22, .inl (cy 0, 6, .inl (fun _ => 0))), (l3_23, .inl (cy 0, 6, .inl (fun _ => 0))), (xp_10, .inl (cy 5, 30, .inr (.inr (.inr (.inr (fun _ => none))))))]) (w1 := [(q_28, .inr (12, [.int 0, .int 0, .long 0, .int 0, .int 0, .ref g5_30, .ref g6_31, .ref g7_32, .ref g8_33, .ref g9_34, .ref g10_35, .int 0, .ref g12_36, .ref g13_37, .ref g14_38, .ref g15_39, .ref g16_40, .ref g17_41, .ref g18_42, .ref g19_43, .ref g20_44, .int (-9), .ref g22_45, .ref g23_46, .ref g24_47, .int 0, .int 0, .int 0, .int 0, .ref g29_48, .ref g30_49, .ref g31_50, .ref g32_51, .ref g33_52])), (g5_30, .inl (cy 0, 40, .inl (fun _ => 0))), (g6_31, .inl (cy 0, 40, .inl (fun _ => 0))), (g7_32, .inl (cy 0, 40, .inl (fun _ => 0))), (g8_33, .inl (cy 0, 40, .inl (fun _ => 0))), (g9_34, .inl (cy 0, 40, .inl (fun _ => 0))), (g10_35, .inl (cy 2, 40, .inl (fun _ => 0))), (g12_36, .inl (cy 0, 30, .inl (fun _ => 0))), (g13_37, .inl (cy 0, 30, .inl (fun _ => 0))), (g14_38, .inl (cy 0, 6000, .inl (fun _ => 0))), (g15_39, .inl (cy 2, 4, .inl (fun _ => 0))), (g16_40, .inl (cy 0, 4, .inl (fun _ => 0))), (g17_41, .inl (cy 0, 4, .inl (fun _ => 0))), (g18_42, .inl (cy 0, 24, .inl (fun _ => 0)))]) hP hD [17] [0, 1, 2, 3, 4, 5, 6, 7, 8, 9, 10, 11, 12, 13, 14, 15, 16] rfl rfl (by decide) (by decide) hk1 hFc hP1 hD1
  have hP : va_P D vwCl [(q_1, .inr (11, [.ref xk_3, .ref xn_4, .ref xc_5, .ref xh_6, .ref xt_7, .ref xw_8, .ref xm_9, .ref xp_10, .int 0, .int 0, .long 0, .int 0])), (xn_4, .inr (3, [.int 0, .int 0, .ref n1_11, .ref n2_12, .ref n3_13, .ref n4_14, .ref n5_15])), (n1_11, .inl (cy 0, 40, .inl (fun _ => 0))), (n2_12, .inl (cy 0, 40, .inl (fun _ => 0))), (n3_13, .inl (cy 0, 40, .inl (fun _ => 0))), (n4_14, .inl (cy 0, 40, .inl (fun _ => 0))), (n5_15, .inl (cy 0, 40, .inl (fun _ => 0))), (xm_9, .inl (cy 4, 4, .inr (.inr (.inr (.inr (mf_ m0_16 m1_17 m2_18 m3_19)))))), (m0_16, .inr (4, [.int 0, .int (-9), .ref l0_20, .ref u0_24])), (m1_17, .inr (4, [.int 0, .int (-9), .ref l1_21, .ref u1_25])), (m2_18, .inr (4, [.int 0, .int (-9), .ref l2_22, .ref u2_26])), (m3_19, .inr (4, [.int 0, .int (-9), .ref l3_23, .ref u3_27])), (l0_20, .inl (cy 0, 6, .inl (fun _ => 0))), (l1_21, .inl (cy 0, 6, .inl (fun _ => 0))), (l2_22, .inl (cy 0, 6, .inl (fun _ => 0))), (l3_23, .inl (cy 0, 6, .inl (fun _ => 0))), (xp_10, .inl (cy 5, 30, .inr (.inr (.inr (.inr (fun _ => none)))))), (q_28, .inr (12, [.int 0, .int 0, .long 0, .int 0, .int 0, .ref g5_30, .ref g6_31, .ref g7_32, .ref g8_33, .ref g9_34, .ref g10_35, .int 0, .ref g12_36, .ref g13_37, .ref g14_38, .ref g15_39, .ref g16_40, .ref g17_41, .ref g18_42, .ref g19_43, .ref g20_44, .int (-9), .ref g22_45, .ref g23_46, .ref g24_47, .int 0, .int 0, .int 0, .int 0, .ref g29_48, .ref g30_49, .ref g31_50, .ref g32_51, .ref g33_52])), (g5_30, .inl (cy 0, 40, .inl (fun _ => 0))), (g6_31, .inl (cy 0, 40, .inl (fun _ => 0))), (g7_32, .inl (cy 0, 40, .inl (fun _ => 0))), (g8_33, .inl (cy 0, 40, .inl (fun _ => 0))), (g9_34, .inl (cy 0, 40, .inl (fun _ => 0))), (g10_35, .inl (cy 2, 40, .inl (fun _ => 0))), (g12_36, .inl (cy 0, 30, .inl (fun _ => 0))), (g13_37, .inl (cy 0, 30, .inl (fun _ => 0))), (g14_38, .inl (cy 0, 6000, .inl (fun _ => 0))), (g15_39, .inl (cy 2, 4, .inl (fun _ => 0))), (g16_40, .inl (cy 0, 4, .inl (fun _ => 0))), (g17_41, .inl (cy 0, 4, .inl (fun _ => 0))), (g18_42, .inl (cy 0, 24, .inl (fun _ => 0)))] H := hP
  have hD : va_D (fun q : Nat => s.heap.size ≤ q) [(q_1, .inr (11, [.ref xk_3, .ref xn_4, .ref xc_5, .ref xh_6, .ref xt_7, .ref xw_8, .ref xm_9, .ref xp_10, .int 0, .int 0, .long 0, .int 0])), (xn_4, .inr (3, [.int 0, .int 0, .ref n1_11, .ref n2_12, .ref n3_13, .ref n4_14, .ref n5_15])), (n1_11, .inl (cy 0, 40, .inl (fun _ => 0))), (n2_12, .inl (cy 0, 40, .inl (fun _ => 0))), (n3_13, .inl (cy 0, 40, .inl (fun _ => 0))), (n4_14, .inl (cy 0, 40, .inl (fun _ => 0))), (n5_15, .inl (cy 0, 40, .inl (fun _ => 0))), (xm_9, .inl (cy 4, 4, .inr (.inr (.inr (.inr (mf_ m0_16 m1_17 m2_18 m3_19)))))), (m0_16, .inr (4, [.int 0, .int (-9), .ref l0_20, .ref u0_24])), (m1_17, .inr (4, [.int 0, .int (-9), .ref l1_21, .ref u1_25])), (m2_18, .inr (4, [.int 0, .int (-9), .ref l2_22, .ref u2_26])), (m3_19, .inr (4, [.int 0, .int (-9), .ref l3_23, .ref u3_27])), (l0_20, .inl (cy 0, 6, .inl (fun _ => 0))), (l1_21, .inl (cy 0, 6, .inl (fun _ => 0))), (l2_22, .inl (cy 0, 6, .inl (fun _ => 0))), (l3_23, .inl (cy 0, 6, .inl (fun _ => 0))), (xp_10, .inl (cy 5, 30, .inr (.inr (.inr (.inr (fun _ => none)))))), (q_28, .inr (12, [.int 0, .int 0, .long 0, .int 0, .int 0, .ref g5_30, .ref g6_31, .ref g7_32, .ref g8_33, .ref g9_34, .ref g10_35, .int 0, .ref g12_36, .ref g13_37, .ref g14_38, .ref g15_39, .ref g16_40, .ref g17_41, .ref g18_42, .ref g19_43, .ref g20_44, .int (-9), .ref g22_45, .ref g23_46, .ref g24_47, .int 0, .int 0, .int 0, .int 0, .ref g29_48, .ref g30_49, .ref g31_50, .ref g32_51, .ref g33_52])), (g5_30, .inl (cy 0, 40, .inl (fun _ => 0))), (g6_31, .inl (cy 0, 40, .inl (fun _ => 0))), (g7_32, .inl (cy 0, 40, .inl (fun _ => 0))), (g8_33, .inl (cy 0, 40, .inl (fun _ => 0))), (g9_34, .inl (cy 0, 40, .inl (fun _ => 0))), (g10_35, .inl (cy 2, 40, .inl (fun _ => 0))), (g12_36, .inl (cy 0, 30, .inl (fun _ => 0))), (g13_37, .inl (cy 0, 30, .inl (fun _ => 0))), (g14_38, .inl (cy 0, 6000, .inl (fun _ => 0))), (g15_39, .inl (cy 2, 4, .inl (fun _ => 0))), (g16_40, .inl (cy 0, 4, .inl (fun _ => 0))), (g17_41, .inl (cy 0, 4, .inl (fun _ => 0))), (g18_42, .inl (cy 0, 24, .inl (fun _ => 0)))] := hD
  refine lv_astore_n (lv' := [(2, .ref q_28), (1, .ref q_1), (0, .ref b)]) hx hb dL_law_15 rfl hl (by decide) rfl (fun ls hl => ?_)
  refine lv_iconst (v := 0) hx hb dL_law_16 (by decide) ?_
  refine lv_istore_n (lv' := [(3, .int 0), (2, .ref q_28), (1, .ref q_1), (0, .ref b)]) hx hb dL_law_17 rfl hl (by decide) rfl (fun ls hl => ?_)
  refine W.widen (k := 103) (n := 7723) (Nat.le_of_ble_eq_true rfl) (Nat.le_of_ble_eq_true rfl) ?_
  have hL8 : L = 0 ∨ L = 1 ∨ L = 2 ∨ L = 3 ∨ L = 4 ∨ L = 5 ∨ L = 6 ∨ L = 7 := by omega
  rcases hL8 with rfl | rfl | rfl | rfl | rfl | rfl | rfl | rfl
  · refine lv_iload_n hx hb dL_law_18 rfl (lv_at hl 0 rfl) ?_
    refine lv_aload_n hx hb dL_law_19 rfl (lv_at hl 3 rfl) ?_
    refine va_slen hx hb hX hbl hbA hS dL_law_20 ?_
    refine lv_topv (v' := .int 0) rfl ?_
    refine lv_bipush (v := 7) hx hb dL_law_21 (by decide) ?_
    refine lv_isub hx hb dL_law_23 ?_
    refine lv_topi (fun y_ ey_ => ?_)
    have ey_ := (ey_.trans (show _ = ((-7) : Int32) by decide)).symm
    subst ey_
    refine lv_icmp_gt (tgt := 1341) hx hb dL_law_24 (by decide) (fun _ => ?_) (fun k_ => absurd (by decide) k_)
    refine lv_iconst (v := 1) hx hb dL_law_1341 (by decide) ?_
    refine va_forget (fun q hq => hS.2.2 q hq) ?_
    refine W.widen (k := 600000) (n := 7302250) (Nat.le_of_ble_eq_true rfl) (Nat.le_of_ble_eq_true rfl) ?_
    exact lw_ret hx hb hr hlocks dL_law_1342
  · refine lv_iload_n hx hb dL_law_18 rfl (lv_at hl 0 rfl) ?_
    refine lv_aload_n hx hb dL_law_19 rfl (lv_at hl 3 rfl) ?_
    refine va_slen hx hb hX hbl hbA hS dL_law_20 ?_
    refine lv_topv (v' := .int 1) rfl ?_
    refine lv_bipush (v := 7) hx hb dL_law_21 (by decide) ?_
    refine lv_isub hx hb dL_law_23 ?_
    refine lv_topi (fun y_ ey_ => ?_)
    have ey_ := (ey_.trans (show _ = ((-6) : Int32) by decide)).symm
    subst ey_
    refine lv_icmp_gt (tgt := 1341) hx hb dL_law_24 (by decide) (fun _ => ?_) (fun k_ => absurd (by decide) k_)
    refine lv_iconst (v := 1) hx hb dL_law_1341 (by decide) ?_
    refine va_forget (fun q hq => hS.2.2 q hq) ?_
    refine W.widen (k := 600000) (n := 7302250) (Nat.le_of_ble_eq_true rfl) (Nat.le_of_ble_eq_true rfl) ?_
    exact lw_ret hx hb hr hlocks dL_law_1342
  · refine lv_iload_n hx hb dL_law_18 rfl (lv_at hl 0 rfl) ?_
    refine lv_aload_n hx hb dL_law_19 rfl (lv_at hl 3 rfl) ?_
    refine va_slen hx hb hX hbl hbA hS dL_law_20 ?_
    refine lv_topv (v' := .int 2) rfl ?_
    refine lv_bipush (v := 7) hx hb dL_law_21 (by decide) ?_
    refine lv_isub hx hb dL_law_23 ?_
    refine lv_topi (fun y_ ey_ => ?_)
    have ey_ := (ey_.trans (show _ = ((-5) : Int32) by decide)).symm
    subst ey_
    refine lv_icmp_gt (tgt := 1341) hx hb dL_law_24 (by decide) (fun _ => ?_) (fun k_ => absurd (by decide) k_)
    refine lv_iconst (v := 1) hx hb dL_law_1341 (by decide) ?_
    refine va_forget (fun q hq => hS.2.2 q hq) ?_
    refine W.widen (k := 600000) (n := 7302250) (Nat.le_of_ble_eq_true rfl) (Nat.le_of_ble_eq_true rfl) ?_
    exact lw_ret hx hb hr hlocks dL_law_1342
  · refine lv_iload_n hx hb dL_law_18 rfl (lv_at hl 0 rfl) ?_
    refine lv_aload_n hx hb dL_law_19 rfl (lv_at hl 3 rfl) ?_
    refine va_slen hx hb hX hbl hbA hS dL_law_20 ?_
    refine lv_topv (v' := .int 3) rfl ?_
    refine lv_bipush (v := 7) hx hb dL_law_21 (by decide) ?_
    refine lv_isub hx hb dL_law_23 ?_
    refine lv_topi (fun y_ ey_ => ?_)
    have ey_ := (ey_.trans (show _ = ((-4) : Int32) by decide)).symm
    subst ey_
    refine lv_icmp_gt (tgt := 1341) hx hb dL_law_24 (by decide) (fun _ => ?_) (fun k_ => absurd (by decide) k_)
    refine lv_iconst (v := 1) hx hb dL_law_1341 (by decide) ?_
    refine va_forget (fun q hq => hS.2.2 q hq) ?_
    refine W.widen (k := 600000) (n := 7302250) (Nat.le_of_ble_eq_true rfl) (Nat.le_of_ble_eq_true rfl) ?_
    exact lw_ret hx hb hr hlocks dL_law_1342
  · refine lv_iload_n hx hb dL_law_18 rfl (lv_at hl 0 rfl) ?_
    refine lv_aload_n hx hb dL_law_19 rfl (lv_at hl 3 rfl) ?_
    refine va_slen hx hb hX hbl hbA hS dL_law_20 ?_
    refine lv_topv (v' := .int 4) rfl ?_
    refine lv_bipush (v := 7) hx hb dL_law_21 (by decide) ?_
    refine lv_isub hx hb dL_law_23 ?_
    refine lv_topi (fun y_ ey_ => ?_)
    have ey_ := (ey_.trans (show _ = ((-3) : Int32) by decide)).symm
    subst ey_
    refine lv_icmp_gt (tgt := 1341) hx hb dL_law_24 (by decide) (fun _ => ?_) (fun k_ => absurd (by decide) k_)
    refine lv_iconst (v := 1) hx hb dL_law_1341 (by decide) ?_
    refine va_forget (fun q hq => hS.2.2 q hq) ?_
    refine W.widen (k := 600000) (n := 7302250) (Nat.le_of_ble_eq_true rfl) (Nat.le_of_ble_eq_true rfl) ?_
    exact lw_ret hx hb hr hlocks dL_law_1342
  · refine lv_iload_n hx hb dL_law_18 rfl (lv_at hl 0 rfl) ?_
    refine lv_aload_n hx hb dL_law_19 rfl (lv_at hl 3 rfl) ?_
    refine va_slen hx hb hX hbl hbA hS dL_law_20 ?_
    refine lv_topv (v' := .int 5) rfl ?_
    refine lv_bipush (v := 7) hx hb dL_law_21 (by decide) ?_
    refine lv_isub hx hb dL_law_23 ?_
    refine lv_topi (fun y_ ey_ => ?_)
    have ey_ := (ey_.trans (show _ = ((-2) : Int32) by decide)).symm
    subst ey_
    refine lv_icmp_gt (tgt := 1341) hx hb dL_law_24 (by decide) (fun _ => ?_) (fun k_ => absurd (by decide) k_)
    refine lv_iconst (v := 1) hx hb dL_law_1341 (by decide) ?_
    refine va_forget (fun q hq => hS.2.2 q hq) ?_
    refine W.widen (k := 600000) (n := 7302250) (Nat.le_of_ble_eq_true rfl) (Nat.le_of_ble_eq_true rfl) ?_
    exact lw_ret hx hb hr hlocks dL_law_1342
  · refine lv_iload_n hx hb dL_law_18 rfl (lv_at hl 0 rfl) ?_
    refine lv_aload_n hx hb dL_law_19 rfl (lv_at hl 3 rfl) ?_
    refine va_slen hx hb hX hbl hbA hS dL_law_20 ?_
    refine lv_topv (v' := .int 6) rfl ?_
    refine lv_bipush (v := 7) hx hb dL_law_21 (by decide) ?_
    refine lv_isub hx hb dL_law_23 ?_
    refine lv_topi (fun y_ ey_ => ?_)
    have ey_ := (ey_.trans (show _ = ((-1) : Int32) by decide)).symm
    subst ey_
    refine lv_icmp_gt (tgt := 1341) hx hb dL_law_24 (by decide) (fun _ => ?_) (fun k_ => absurd (by decide) k_)
    refine lv_iconst (v := 1) hx hb dL_law_1341 (by decide) ?_
    refine va_forget (fun q hq => hS.2.2 q hq) ?_
    refine W.widen (k := 600000) (n := 7302250) (Nat.le_of_ble_eq_true rfl) (Nat.le_of_ble_eq_true rfl) ?_
    exact lw_ret hx hb hr hlocks dL_law_1342
  · refine lv_iload_n hx hb dL_law_18 rfl (lv_at hl 0 rfl) ?_
    refine lv_aload_n hx hb dL_law_19 rfl (lv_at hl 3 rfl) ?_
    refine va_slen hx hb hX hbl hbA hS dL_law_20 ?_
    refine lv_topv (v' := .int 7) rfl ?_
    refine lv_bipush (v := 7) hx hb dL_law_21 (by decide) ?_
    refine lv_isub hx hb dL_law_23 ?_
    refine lv_topi (fun y_ ey_ => ?_)
    have ey_ := (ey_.trans (show _ = (0 : Int32) by decide)).symm
    subst ey_
    refine lv_icmp_gt (tgt := 1341) hx hb dL_law_24 (by decide) (fun k_ => absurd k_ (by decide)) (fun _ => ?_)
    refine lv_aload_n hx hb dL_law_27 rfl (lv_at hl 3 rfl) ?_
    refine lv_iload_n hx hb dL_law_28 rfl (lv_at hl 0 rfl) ?_
    refine va_sld hx hb hX hbl hbA hS (i := 0) (by unfold vp_in; decide) dL_law_29 ?_
    refine lv_bipush (v := 63) hx hb dL_law_30 (by decide) ?_
    refine lv_iand hx hb dL_law_32 ?_
    obtain ⟨j, hj, ej⟩ := pk_andE (xs (0 : Int32).toNatClampNeg) (m := 63) 6 rfl
    refine lv_topv (v' := .int (nI j)) (congrArg Value.int ej) ?_
    have hj33 : j = 0 ∨ j = 1 ∨ j = 2 ∨ j = 3 ∨ j = 4 ∨ j = 5 ∨ j = 6 ∨ j = 7 ∨ j = 8 ∨ j = 9 ∨ j = 10 ∨ j = 11 ∨ j = 12 ∨ j = 13 ∨ j = 14 ∨ j = 15 ∨ j = 16 ∨ j = 17 ∨ j = 18 ∨ j = 19 ∨ j = 20 ∨ j = 21 ∨ j = 22 ∨ j = 23 ∨ j = 24 ∨ j = 25 ∨ j = 26 ∨ j = 27 ∨ j = 28 ∨ j = 29 ∨ j = 30 ∨ j = 31 ∨ j = 32 ∨ 33 ≤ j := by omega
    rcases hj33 with rfl | rfl | rfl | rfl | rfl | rfl | rfl | rfl | rfl | rfl | rfl | rfl | rfl | rfl | rfl | rfl | rfl | rfl | rfl | rfl | rfl | rfl | rfl | rfl | rfl | rfl | rfl | rfl | rfl | rfl | rfl | rfl | rfl | hj33
    · refine lv_tableIn (off := 147) (tgt := 180) hx hb dL_law_33 (by decide) (by decide) (by decide) (by decide) ?_
      exact law_0 l C0 hK (hP.sub [0, 1, 2, 3, 4, 5, 6, 7, 8, 9, 10, 11, 12, 13, 14, 15, 16, 17, 18, 19, 20, 21, 22, 23, 24, 25, 26, 27, 28, 29, 30] rfl) (hD.sub [0, 1, 2, 3, 4, 5, 6, 7, 8, 9, 10, 11, 12, 13, 14, 15, 16, 17, 18, 19, 20, 21, 22, 23, 24, 25, 26, 27, 28, 29, 30] (by decide) rfl) hS (lv_sub hl [0, 1, 2, 3] rfl)
    · refine lv_tableIn (off := 160) (tgt := 193) hx hb dL_law_33 (by decide) (by decide) (by decide) (by decide) ?_
      exact law_1 l C0 hK (hP.sub [0, 1, 2, 3, 4, 5, 6, 7, 8, 9, 10, 11, 12, 13, 14, 15, 16, 17, 18, 19, 20, 21, 22, 23, 24, 25, 26, 27, 28, 29, 30] rfl) (hD.sub [0, 1, 2, 3, 4, 5, 6, 7, 8, 9, 10, 11, 12, 13, 14, 15, 16, 17, 18, 19, 20, 21, 22, 23, 24, 25, 26, 27, 28, 29, 30] (by decide) rfl) hS (lv_sub hl [0, 1, 2, 3] rfl)
    · refine lv_tableIn (off := 223) (tgt := 256) hx hb dL_law_33 (by decide) (by decide) (by decide) (by decide) ?_
      exact law_2 l C0 hK (hP.sub [0, 1, 2, 3, 4, 5, 6, 7, 8, 9, 10, 11, 12, 13, 14, 15, 16, 17, 18, 19, 20, 21, 22, 23, 24, 25, 26, 27, 28, 29, 30] rfl) (hD.sub [0, 1, 2, 3, 4, 5, 6, 7, 8, 9, 10, 11, 12, 13, 14, 15, 16, 17, 18, 19, 20, 21, 22, 23, 24, 25, 26, 27, 28, 29, 30] (by decide) rfl) hS (lv_sub hl [0, 1, 2, 3] rfl)
    · refine lv_tableIn (off := 256) (tgt := 289) hx hb dL_law_33 (by decide) (by decide) (by decide) (by decide) ?_
      exact law_3 l C0 hK (hP.sub [0, 1, 2, 3, 4, 5, 6, 7, 8, 9, 10, 11, 12, 13, 14, 15, 16, 17, 18, 19, 20, 21, 22, 23, 24, 25, 26, 27, 28, 29, 30] rfl) (hD.sub [0, 1, 2, 3, 4, 5, 6, 7, 8, 9, 10, 11, 12, 13, 14, 15, 16, 17, 18, 19, 20, 21, 22, 23, 24, 25, 26, 27, 28, 29, 30] (by decide) rfl) hS (lv_sub hl [0, 1, 2, 3] rfl)
    · refine lv_tableIn (off := 289) (tgt := 322) hx hb dL_law_33 (by decide) (by decide) (by decide) (by decide) ?_
      exact law_4 l C0 hK (hP.sub [0, 1, 2, 3, 4, 5, 6, 7, 8, 9, 10, 11, 12, 13, 14, 15, 16, 17, 18, 19, 20, 21, 22, 23, 24, 25, 26, 27, 28, 29, 30] rfl) (hD.sub [0, 1, 2, 3, 4, 5, 6, 7, 8, 9, 10, 11, 12, 13, 14, 15, 16, 17, 18, 19, 20, 21, 22, 23, 24, 25, 26, 27, 28, 29, 30] (by decide) rfl) hS (lv_sub hl [0, 1, 2, 3] rfl)
    · refine lv_tableIn (off := 322) (tgt := 355) hx hb dL_law_33 (by decide) (by decide) (by decide) (by decide) ?_
      exact law_5 l C0 hK (hP.sub [0, 1, 2, 3, 4, 5, 6, 7, 8, 9, 10, 11, 12, 13, 14, 15, 16, 17, 18, 19, 20, 21, 22, 23, 24, 25, 26, 27, 28, 29, 30] rfl) (hD.sub [0, 1, 2, 3, 4, 5, 6, 7, 8, 9, 10, 11, 12, 13, 14, 15, 16, 17, 18, 19, 20, 21, 22, 23, 24, 25, 26, 27, 28, 29, 30] (by decide) rfl) hS (lv_sub hl [0, 1, 2, 3] rfl)
    · refine lv_tableIn (off := 335) (tgt := 368) hx hb dL_law_33 (by decide) (by decide) (by decide) (by decide) ?_
      exact law_6 l C0 hK (hP.sub [0, 1, 2, 3, 4, 5, 6, 7, 8, 9, 10, 11, 12, 13, 14, 15, 16, 17, 18, 19, 20, 21, 22, 23, 24, 25, 26, 27, 28, 29, 30] rfl) (hD.sub [0, 1, 2, 3, 4, 5, 6, 7, 8, 9, 10, 11, 12, 13, 14, 15, 16, 17, 18, 19, 20, 21, 22, 23, 24, 25, 26, 27, 28, 29, 30] (by decide) rfl) hS (lv_sub hl [0, 1, 2, 3] rfl)
    · refine lv_tableIn (off := 368) (tgt := 401) hx hb dL_law_33 (by decide) (by decide) (by decide) (by decide) ?_
      exact law_7 l C0 hK (hP.sub [0, 1, 2, 3, 4, 5, 6, 7, 8, 9, 10, 11, 12, 13, 14, 15, 16, 17, 18, 19, 20, 21, 22, 23, 24, 25, 26, 27, 28, 29, 30] rfl) (hD.sub [0, 1, 2, 3, 4, 5, 6, 7, 8, 9, 10, 11, 12, 13, 14, 15, 16, 17, 18, 19, 20, 21, 22, 23, 24, 25, 26, 27, 28, 29, 30] (by decide) rfl) hS (lv_sub hl [0, 1, 2, 3] rfl)
    · refine lv_tableIn (off := 401) (tgt := 434) hx hb dL_law_33 (by decide) (by decide) (by decide) (by decide) ?_
      exact law_8 l C0 hK (hP.sub [0, 1, 2, 3, 4, 5, 6, 7, 8, 9, 10, 11, 12, 13, 14, 15, 16, 17, 18, 19, 20, 21, 22, 23, 24, 25, 26, 27, 28, 29, 30] rfl) (hD.sub [0, 1, 2, 3, 4, 5, 6, 7, 8, 9, 10, 11, 12, 13, 14, 15, 16, 17, 18, 19, 20, 21, 22, 23, 24, 25, 26, 27, 28, 29, 30] (by decide) rfl) hS (lv_sub hl [0, 1, 2, 3] rfl)
    · refine lv_tableIn (off := 434) (tgt := 467) hx hb dL_law_33 (by decide) (by decide) (by decide) (by decide) ?_
      exact law_9 l C0 hK (hP.sub [0, 1, 2, 3, 4, 5, 6, 7, 8, 9, 10, 11, 12, 13, 14, 15, 16, 17, 18, 19, 20, 21, 22, 23, 24, 25, 26, 27, 28, 29, 30] rfl) (hD.sub [0, 1, 2, 3, 4, 5, 6, 7, 8, 9, 10, 11, 12, 13, 14, 15, 16, 17, 18, 19, 20, 21, 22, 23, 24, 25, 26, 27, 28, 29, 30] (by decide) rfl) hS (lv_sub hl [0, 1, 2, 3] rfl)
    · refine lv_tableIn (off := 477) (tgt := 510) hx hb dL_law_33 (by decide) (by decide) (by decide) (by decide) ?_
      exact law_10 l C0 hK (hP.sub [0, 1, 2, 3, 4, 5, 6, 7, 8, 9, 10, 11, 12, 13, 14, 15, 16, 17, 18, 19, 20, 21, 22, 23, 24, 25, 26, 27, 28, 29, 30] rfl) (hD.sub [0, 1, 2, 3, 4, 5, 6, 7, 8, 9, 10, 11, 12, 13, 14, 15, 16, 17, 18, 19, 20, 21, 22, 23, 24, 25, 26, 27, 28, 29, 30] (by decide) rfl) hS (lv_sub hl [0, 1, 2, 3] rfl)
    · refine lv_tableIn (off := 520) (tgt := 553) hx hb dL_law_33 (by decide) (by decide) (by decide) (by decide) ?_
      exact law_11 l C0 hK (hP.sub [0, 1, 2, 3, 4, 5, 6, 7, 8, 9, 10, 11, 12, 13, 14, 15, 16, 17, 18, 19, 20, 21, 22, 23, 24, 25, 26, 27, 28, 29, 30] rfl) (hD.sub [0, 1, 2, 3, 4, 5, 6, 7, 8, 9, 10, 11, 12, 13, 14, 15, 16, 17, 18, 19, 20, 21, 22, 23, 24, 25, 26, 27, 28, 29, 30] (by decide) rfl) hS (lv_sub hl [0, 1, 2, 3] rfl)
    · refine lv_tableIn (off := 553) (tgt := 586) hx hb dL_law_33 (by decide) (by decide) (by decide) (by decide) ?_
      exact law_12 l C0 hK (hP.sub [0, 1, 2, 3, 4, 5, 6, 7, 8, 9, 10, 11, 12, 13, 14, 15, 16, 17, 18, 19, 20, 21, 22, 23, 24, 25, 26, 27, 28, 29, 30] rfl) (hD.sub [0, 1, 2, 3, 4, 5, 6, 7, 8, 9, 10, 11, 12, 13, 14, 15, 16, 17, 18, 19, 20, 21, 22, 23, 24, 25, 26, 27, 28, 29, 30] (by decide) rfl) hS (lv_sub hl [0, 1, 2, 3] rfl)
    · refine lv_tableIn (off := 596) (tgt := 629) hx hb dL_law_33 (by decide) (by decide) (by decide) (by decide) ?_
      exact law_13 l C0 hK (hP.sub [0, 1, 2, 3, 4, 5, 6, 7, 8, 9, 10, 11, 12, 13, 14, 15, 16, 17, 18, 19, 20, 21, 22, 23, 24, 25, 26, 27, 28, 29, 30] rfl) (hD.sub [0, 1, 2, 3, 4, 5, 6, 7, 8, 9, 10, 11, 12, 13, 14, 15, 16, 17, 18, 19, 20, 21, 22, 23, 24, 25, 26, 27, 28, 29, 30] (by decide) rfl) hS (lv_sub hl [0, 1, 2, 3] rfl)
    · refine lv_tableIn (off := 639) (tgt := 672) hx hb dL_law_33 (by decide) (by decide) (by decide) (by decide) ?_
      exact law_14 l C0 hK (hP.sub [0, 1, 2, 3, 4, 5, 6, 7, 8, 9, 10, 11, 12, 13, 14, 15, 16, 17, 18, 19, 20, 21, 22, 23, 24, 25, 26, 27, 28, 29, 30] rfl) (hD.sub [0, 1, 2, 3, 4, 5, 6, 7, 8, 9, 10, 11, 12, 13, 14, 15, 16, 17, 18, 19, 20, 21, 22, 23, 24, 25, 26, 27, 28, 29, 30] (by decide) rfl) hS (lv_sub hl [0, 1, 2, 3] rfl)
    · refine lv_tableIn (off := 682) (tgt := 715) hx hb dL_law_33 (by decide) (by decide) (by decide) (by decide) ?_
      exact law_15 l C0 hK (hP.sub [0, 1, 2, 3, 4, 5, 6, 7, 8, 9, 10, 11, 12, 13, 14, 15, 16, 17, 18, 19, 20, 21, 22, 23, 24, 25, 26, 27, 28, 29, 30] rfl) (hD.sub [0, 1, 2, 3, 4, 5, 6, 7, 8, 9, 10, 11, 12, 13, 14, 15, 16, 17, 18, 19, 20, 21, 22, 23, 24, 25, 26, 27, 28, 29, 30] (by decide) rfl) hS (lv_sub hl [0, 1, 2, 3] rfl)
    · refine lv_tableIn (off := 725) (tgt := 758) hx hb dL_law_33 (by decide) (by decide) (by decide) (by decide) ?_
      exact law_16 l C0 hK (hP.sub [0, 1, 2, 3, 4, 5, 6, 7, 8, 9, 10, 11, 12, 13, 14, 15, 16, 17, 18, 19, 20, 21, 22, 23, 24, 25, 26, 27, 28, 29, 30] rfl) (hD.sub [0, 1, 2, 3, 4, 5, 6, 7, 8, 9, 10, 11, 12, 13, 14, 15, 16, 17, 18, 19, 20, 21, 22, 23, 24, 25, 26, 27, 28, 29, 30] (by decide) rfl) hS (lv_sub hl [0, 1, 2, 3] rfl)
    · refine lv_tableIn (off := 758) (tgt := 791) hx hb dL_law_33 (by decide) (by decide) (by decide) (by decide) ?_
      exact law_17 l C0 hK (hP.sub [0, 1, 2, 3, 4, 5, 6, 7, 8, 9, 10, 11, 12, 13, 14, 15, 16, 17, 18, 19, 20, 21, 22, 23, 24, 25, 26, 27, 28, 29, 30] rfl) (hD.sub [0, 1, 2, 3, 4, 5, 6, 7, 8, 9, 10, 11, 12, 13, 14, 15, 16, 17, 18, 19, 20, 21, 22, 23, 24, 25, 26, 27, 28, 29, 30] (by decide) rfl) hS (lv_sub hl [0, 1, 2, 3] rfl)
    · refine lv_tableIn (off := 791) (tgt := 824) hx hb dL_law_33 (by decide) (by decide) (by decide) (by decide) ?_
      exact law_18 l C0 hK (hP.sub [0, 1, 2, 3, 4, 5, 6, 7, 8, 9, 10, 11, 12, 13, 14, 15, 16, 17, 18, 19, 20, 21, 22, 23, 24, 25, 26, 27, 28, 29, 30] rfl) (hD.sub [0, 1, 2, 3, 4, 5, 6, 7, 8, 9, 10, 11, 12, 13, 14, 15, 16, 17, 18, 19, 20, 21, 22, 23, 24, 25, 26, 27, 28, 29, 30] (by decide) rfl) hS (lv_sub hl [0, 1, 2, 3] rfl)
    · refine lv_tableIn (off := 804) (tgt := 837) hx hb dL_law_33 (by decide) (by decide) (by decide) (by decide) ?_
      exact law_19 l C0 hK (hP.sub [0, 1, 2, 3, 4, 5, 6, 7, 8, 9, 10, 11, 12, 13, 14, 15, 16, 17, 18, 19, 20, 21, 22, 23, 24, 25, 26, 27, 28, 29, 30] rfl) (hD.sub [0, 1, 2, 3, 4, 5, 6, 7, 8, 9, 10, 11, 12, 13, 14, 15, 16, 17, 18, 19, 20, 21, 22, 23, 24, 25, 26, 27, 28, 29, 30] (by decide) rfl) hS (lv_sub hl [0, 1, 2, 3] rfl)
    · refine lv_tableIn (off := 817) (tgt := 850) hx hb dL_law_33 (by decide) (by decide) (by decide) (by decide) ?_
      exact law_20 l C0 hK (hP.sub [0, 1, 2, 3, 4, 5, 6, 7, 8, 9, 10, 11, 12, 13, 14, 15, 16, 17, 18, 19, 20, 21, 22, 23, 24, 25, 26, 27, 28, 29, 30] rfl) (hD.sub [0, 1, 2, 3, 4, 5, 6, 7, 8, 9, 10, 11, 12, 13, 14, 15, 16, 17, 18, 19, 20, 21, 22, 23, 24, 25, 26, 27, 28, 29, 30] (by decide) rfl) hS (lv_sub hl [0, 1, 2, 3] rfl)
    · refine lv_tableIn (off := 840) (tgt := 873) hx hb dL_law_33 (by decide) (by decide) (by decide) (by decide) ?_
      exact law_21 l C0 hK (hP.sub [0, 1, 2, 3, 4, 5, 6, 7, 8, 9, 10, 11, 12, 13, 14, 15, 16, 17, 18, 19, 20, 21, 22, 23, 24, 25, 26, 27, 28, 29, 30] rfl) (hD.sub [0, 1, 2, 3, 4, 5, 6, 7, 8, 9, 10, 11, 12, 13, 14, 15, 16, 17, 18, 19, 20, 21, 22, 23, 24, 25, 26, 27, 28, 29, 30] (by decide) rfl) hS (lv_sub hl [0, 1, 2, 3] rfl)
    · refine lv_tableIn (off := 863) (tgt := 896) hx hb dL_law_33 (by decide) (by decide) (by decide) (by decide) ?_
      exact law_22 l C0 hK (hP.sub [0, 1, 2, 3, 4, 5, 6, 7, 8, 9, 10, 11, 12, 13, 14, 15, 16, 17, 18, 19, 20, 21, 22, 23, 24, 25, 26, 27, 28, 29, 30] rfl) (hD.sub [0, 1, 2, 3, 4, 5, 6, 7, 8, 9, 10, 11, 12, 13, 14, 15, 16, 17, 18, 19, 20, 21, 22, 23, 24, 25, 26, 27, 28, 29, 30] (by decide) rfl) hS (lv_sub hl [0, 1, 2, 3] rfl)
    · refine lv_tableIn (off := 896) (tgt := 929) hx hb dL_law_33 (by decide) (by decide) (by decide) (by decide) ?_
      exact law_23 l C0 hK (hP.sub [0, 1, 2, 3, 4, 5, 6, 7, 8, 9, 10, 11, 12, 13, 14, 15, 16, 17, 18, 19, 20, 21, 22, 23, 24, 25, 26, 27, 28, 29, 30] rfl) (hD.sub [0, 1, 2, 3, 4, 5, 6, 7, 8, 9, 10, 11, 12, 13, 14, 15, 16, 17, 18, 19, 20, 21, 22, 23, 24, 25, 26, 27, 28, 29, 30] (by decide) rfl) hS (lv_sub hl [0, 1, 2, 3] rfl)
    · refine lv_tableIn (off := 919) (tgt := 952) hx hb dL_law_33 (by decide) (by decide) (by decide) (by decide) ?_
      exact law_24 l C0 hK (hP.sub [0, 1, 2, 3, 4, 5, 6, 7, 8, 9, 10, 11, 12, 13, 14, 15, 16, 17, 18, 19, 20, 21, 22, 23, 24, 25, 26, 27, 28, 29, 30] rfl) (hD.sub [0, 1, 2, 3, 4, 5, 6, 7, 8, 9, 10, 11, 12, 13, 14, 15, 16, 17, 18, 19, 20, 21, 22, 23, 24, 25, 26, 27, 28, 29, 30] (by decide) rfl) hS (lv_sub hl [0, 1, 2, 3] rfl)
    · refine lv_tableIn (off := 962) (tgt := 995) hx hb dL_law_33 (by decide) (by decide) (by decide) (by decide) ?_
      exact law_25 l C0 hK (hP.sub [0, 1, 2, 3, 4, 5, 6, 7, 8, 9, 10, 11, 12, 13, 14, 15, 16, 17, 18, 19, 20, 21, 22, 23, 24, 25, 26, 27, 28, 29, 30] rfl) (hD.sub [0, 1, 2, 3, 4, 5, 6, 7, 8, 9, 10, 11, 12, 13, 14, 15, 16, 17, 18, 19, 20, 21, 22, 23, 24, 25, 26, 27, 28, 29, 30] (by decide) rfl) hS (lv_sub hl [0, 1, 2, 3] rfl)
    · refine lv_tableIn (off := 1005) (tgt := 1038) hx hb dL_law_33 (by decide) (by decide) (by decide) (by decide) ?_
      exact law_26 l C0 hK (hP.sub [0, 1, 2, 3, 4, 5, 6, 7, 8, 9, 10, 11, 12, 13, 14, 15, 16, 17, 18, 19, 20, 21, 22, 23, 24, 25, 26, 27, 28, 29, 30] rfl) (hD.sub [0, 1, 2, 3, 4, 5, 6, 7, 8, 9, 10, 11, 12, 13, 14, 15, 16, 17, 18, 19, 20, 21, 22, 23, 24, 25, 26, 27, 28, 29, 30] (by decide) rfl) hS (lv_sub hl [0, 1, 2, 3] rfl)
    · refine lv_tableIn (off := 1100) (tgt := 1133) hx hb dL_law_33 (by decide) (by decide) (by decide) (by decide) ?_
      exact law_27 l C0 hK (hP.sub [0, 1, 2, 3, 4, 5, 6, 7, 8, 9, 10, 11, 12, 13, 14, 15, 16, 17, 18, 19, 20, 21, 22, 23, 24, 25, 26, 27, 28, 29, 30] rfl) (hD.sub [0, 1, 2, 3, 4, 5, 6, 7, 8, 9, 10, 11, 12, 13, 14, 15, 16, 17, 18, 19, 20, 21, 22, 23, 24, 25, 26, 27, 28, 29, 30] (by decide) rfl) hS (lv_sub hl [0, 1, 2, 3] rfl)
    · refine lv_tableIn (off := 1175) (tgt := 1208) hx hb dL_law_33 (by decide) (by decide) (by decide) (by decide) ?_
      exact law_28 l C0 hK (hP.sub [0, 1, 2, 3, 4, 5, 6, 7, 8, 9, 10, 11, 12, 13, 14, 15, 16, 17, 18, 19, 20, 21, 22, 23, 24, 25, 26, 27, 28, 29, 30] rfl) (hD.sub [0, 1, 2, 3, 4, 5, 6, 7, 8, 9, 10, 11, 12, 13, 14, 15, 16, 17, 18, 19, 20, 21, 22, 23, 24, 25, 26, 27, 28, 29, 30] (by decide) rfl) hS (lv_sub hl [0, 1, 2, 3] rfl)
    · refine lv_tableIn (off := 1229) (tgt := 1262) hx hb dL_law_33 (by decide) (by decide) (by decide) (by decide) ?_
      exact law_29 l C0 hK (hP.sub [0, 1, 2, 3, 4, 5, 6, 7, 8, 9, 10, 11, 12, 13, 14, 15, 16, 17, 18, 19, 20, 21, 22, 23, 24, 25, 26, 27, 28, 29, 30] rfl) (hD.sub [0, 1, 2, 3, 4, 5, 6, 7, 8, 9, 10, 11, 12, 13, 14, 15, 16, 17, 18, 19, 20, 21, 22, 23, 24, 25, 26, 27, 28, 29, 30] (by decide) rfl) hS (lv_sub hl [0, 1, 2, 3] rfl)
    · refine lv_tableIn (off := 1252) (tgt := 1285) hx hb dL_law_33 (by decide) (by decide) (by decide) (by decide) ?_
      exact law_30 l C0 hK (hP.sub [0, 1, 2, 3, 4, 5, 6, 7, 8, 9, 10, 11, 12, 13, 14, 15, 16, 17, 18, 19, 20, 21, 22, 23, 24, 25, 26, 27, 28, 29, 30] rfl) (hD.sub [0, 1, 2, 3, 4, 5, 6, 7, 8, 9, 10, 11, 12, 13, 14, 15, 16, 17, 18, 19, 20, 21, 22, 23, 24, 25, 26, 27, 28, 29, 30] (by decide) rfl) hS (lv_sub hl [0, 1, 2, 3] rfl)
    · refine lv_tableIn (off := 1275) (tgt := 1308) hx hb dL_law_33 (by decide) (by decide) (by decide) (by decide) ?_
      exact law_31 l C0 hK (hP.sub [0, 1, 2, 3, 4, 5, 6, 7, 8, 9, 10, 11, 12, 13, 14, 15, 16, 17, 18, 19, 20, 21, 22, 23, 24, 25, 26, 27, 28, 29, 30] rfl) (hD.sub [0, 1, 2, 3, 4, 5, 6, 7, 8, 9, 10, 11, 12, 13, 14, 15, 16, 17, 18, 19, 20, 21, 22, 23, 24, 25, 26, 27, 28, 29, 30] (by decide) rfl) hS (lv_sub hl [0, 1, 2, 3] rfl)
    · refine lv_tableIn (off := 1289) (tgt := 1322) hx hb dL_law_33 (by decide) (by decide) (by decide) (by decide) ?_
      exact law_32 l C0 hK (hP.sub [0, 1, 2, 3, 4, 5, 6, 7, 8, 9, 10, 11, 12, 13, 14, 15, 16, 17, 18, 19, 20, 21, 22, 23, 24, 25, 26, 27, 28, 29, 30] rfl) (hD.sub [0, 1, 2, 3, 4, 5, 6, 7, 8, 9, 10, 11, 12, 13, 14, 15, 16, 17, 18, 19, 20, 21, 22, 23, 24, 25, 26, 27, 28, 29, 30] (by decide) rfl) hS (lv_sub hl [0, 1, 2, 3] rfl)
    · refine lv_tableOut (tgt := 1335) hx hb dL_law_33 (Or.inr (by rw [nI_toInt (by omega)]; omega)) (by decide) ?_
      exact law_end l C0 (Nat.le_of_ble_eq_true rfl) (Nat.le_of_ble_eq_true rfl) hS (lv_sub hl [3, 0] rfl)
