set_option maxHeartbeats 8000000 in
set_option maxRecDepth 100000 in
theorem law_24 {p : Program} {e : Env} {s : State} {m : MethodId} {below : List Frame} {meth : Method} {c : Code} (l : Launch) {b L : Nat} {xs : Nat → Int32} (C0 : lw_At p s m meth c b L xs) {D : va_G} {cy : Nat → ClassId} (hK : kk_ D cy s) (hG : ArrOfT s (cy 6) (.array .int)) {xo mo : Nat} {i : Int32} {cells slots : Nat} (hi0 : 0 ≤ i.toInt) (hiL : i.toInt + 7 ≤ L) (hL : L ≤ 3584) (hcc : cells ≤ 500000) (hss : slots ≤ 7000000) (cont : lawQ p l e s m below meth c b D cy xo mo i 1333 (cells + 6) (slots + 207)) : lawQ p l e s m below meth c b D cy xo mo i 952 cells slots := by
  have hfe : (600000 : Nat) = 600000 := rfl
  obtain ⟨hx, hb, hr, hml, hown, hts, hX, hbl, hlocks, hgv⟩ := id C0
  have hown : s.vm.findClass RL = some m.cls := hown
  have hA : ∀ q : Nat, s.heap.size ≤ q → (fun q : Nat => s.heap.size ≤ q) q := fun _ h => h
  have hbA : ¬ (fun q : Nat => s.heap.size ≤ q) b := Nat.not_le.mpr hbl
  have z0 : (0 : Int32).toInt = 0 := by decide
  have z1 : (1 : Int32).toInt = 1 := by decide
  have z2 : (2 : Int32).toInt = 2 := by decide
  have z3 : (3 : Int32).toInt = 3 := by decide
  intro xk xn xc xh xt xw xm xp n1 n2 n3 n4 n5 k0 k1 k2 k3 k4 clo cro c4 c5 c6 c7 c8 ta tb wpo wc wf m0 l0 u0 m1 l1 u1 m2 l2 u2 m3 l3 u3 g5 g6 g7 g8 g9 g10 g12 g13 g14 g15 g16 g17 g18 g19 g20 g22 g23 g24 g29 g30 g31 g32 g33 rl rr rp Ml Mr Mp pf ph fi vp vn hu1 hu2 hu3 hu4 hu5 hu6 hu7 hu8 mk0 mk1 mk2 mk3 mr0 mr1 mr2 mr3 s0 s1 s3 s4 s11 s21 s25 s26 s27 s28 tr t2 fk fs fe fw fp w4 w5 w6 w7 w8 fx fu fc ff fl0 fl1 fl2 fl3 fn0 fn1 fn2 fn3 f5 f6 f7 f8 f9 f10 f12 f13 f14 f15 f16 f17 f18 f19 f20 f22 f23 f24 f29 f30 f31 f32 f33 pa pv pg pm H locs ls hP hD hnk hpk hrk hpr r_fk r_fw r_fp hmr0 hmr1 hmr2 hmr3 r_fl0 r_fl1 r_fl2 r_fl3 r_w7 r_w8 r_ff hN hPl hU h21 hnet hpast r_f6 r_f7 r_f8 r_f9 r_f12 r_f13 r_f17 r_f18 r_f23 r_f24 r_f30 r_f31 r_f32 r_f14 hlk hmr hnr hpl hst hS hl
  have hvp := hnk.1
  have hvn := hnk.2.1
  have h21i : s21.toInt = -9 := by rw [h21]; decide
  have h6_ : ∀ q : Nat, q < 4 → ((f4_ mr0 mr1 mr2 mr3) q).toInt ≤ 6 := f4_all (by omega) (by omega) (by omega) (by omega)
  have h5_ : ∀ q p : Nat, q < 4 → p < 6 → ((f4_ fl0 fl1 fl2 fl3) q p).toInt ≤ 5 := f4_rng r_fl0 r_fl1 r_fl2 r_fl3
  refine lv_aload_n hx hb dB_law_42.1.2.1.1 rfl (lv_at hl 2 rfl) ?_
  refine lv_aload_n hx hb dB_law_42.1.2.1.2 rfl (lv_at hl 3 rfl) ?_
  refine lv_iload_n hx hb dB_law_42.1.2.2.1 rfl (lv_at hl 0 rfl) ?_
  refine lv_iconst (v := 1) hx hb dB_law_42.1.2.2.2 (by decide) ?_
  refine lv_iadd hx hb dB_law_42.2.1.1.1 ?_
  refine lv_topi (fun y_1 ey_1 => ?_)
  have ty_1 : y_1.toInt = i.toInt + (1 : Int32).toInt := by rw [ey_1]; exact addI (by omega) (by omega)
  have h_2 : vp_in y_1 L := in_I (by omega) (by omega)
  refine va_sld hx hb hX hbl hbA hS (i := y_1) h_2 dB_law_42.2.1.1.2 ?_
  refine lv_topi (fun y_3 ey_3 => ?_)
  refine lv_aload_n hx hb dB_law_42.2.1.2.1 rfl (lv_at hl 3 rfl) ?_
  refine lv_iload_n hx hb dB_law_42.2.1.2.2 rfl (lv_at hl 0 rfl) ?_
  refine lv_iconst (v := 2) hx hb dB_law_42.2.2.1.1 (by decide) ?_
  refine lv_iadd hx hb dB_law_42.2.2.1.2 ?_
  refine lv_topi (fun y_4 ey_4 => ?_)
  have ty_4 : y_4.toInt = i.toInt + (2 : Int32).toInt := by rw [ey_4]; exact addI (by omega) (by omega)
  have h_5 : vp_in y_4 L := in_I (by omega) (by omega)
  refine va_sld hx hb hX hbl hbA hS (i := y_4) h_5 dB_law_42.2.2.2.1 ?_
  refine lv_topi (fun y_6 ey_6 => ?_)
  refine lv_aload_n hx hb dB_law_42.2.2.2.2 rfl (lv_at hl 3 rfl) ?_
  refine lv_iload_n hx hb dB_law_43.1.1.1.1 rfl (lv_at hl 0 rfl) ?_
  refine lv_iconst (v := 3) hx hb dB_law_43.1.1.1.2 (by decide) ?_
  refine lv_iadd hx hb dB_law_43.1.1.2.1 ?_
  refine lv_topi (fun y_7 ey_7 => ?_)
  have ty_7 : y_7.toInt = i.toInt + (3 : Int32).toInt := by rw [ey_7]; exact addI (by omega) (by omega)
  have h_8 : vp_in y_7 L := in_I (by omega) (by omega)
  refine va_sld hx hb hX hbl hbA hS (i := y_7) h_8 dB_law_43.1.1.2.2 ?_
  refine lv_topi (fun y_9 ey_9 => ?_)
  have hPx := pp_left hP
  have hDx := dd_left hD
  refine ct_S hPx hDx hS hA [ob11_0_ xo xk xn xc xh xt xw xm xp pf ph tr fi, aq_ cy 4 xm 4 (mf_ m0 m1 m2 m3), ob4_0_ m0 mk0 mr0 l0 u0, ob4_0_ m1 mk1 mr1 l1 u1, ob4_0_ m2 mk2 mr2 l2 u2, ob4_0_ m3 mk3 mr3 l3 u3, ai_ cy l0 6 fl0, ai_ cy l1 6 fl1, ai_ cy l2 6 fl2, ai_ cy l3 6 fl3] [0, 65, 66, 67, 68, 69, 70, 71, 72, 73] (by decide) rfl (fun hPc hDw hFc hC_ => ?_)
  refine va_calli (va_runV (As := [.int y_3, .int y_6, .int y_9]) (rest := []) ⟨hx, hb, hml, hown, hts⟩ (c_X11_map2 l D cy H.size xo xk xn xc xh xt xw xm xp pf ph tr fi m0 l0 u0 m1 l1 u1 m2 l2 u2 m3 l3 u3 mk0 mr0 mk1 mr1 mk2 mr2 mk3 mr3 fl0 fl1 fl2 fl3 y_3 y_6 y_9 (by first | with_reducible assumption | assumption | omega) (by first | with_reducible assumption | assumption | omega) (by first | with_reducible assumption | assumption | omega) (by first | with_reducible assumption | assumption | omega) (by first | with_reducible assumption | assumption | omega) (by first | with_reducible assumption | assumption | omega) (by first | with_reducible assumption | assumption | omega) (by first | with_reducible assumption | assumption | omega)) (cwV 3 hts lg_X11_map rfl rfl rfl ⟨rfl, hd_X11_map⟩ ⟨Nat.le_of_ble_eq_true rfl, Nat.le_of_ble_eq_true rfl⟩) ⟨bl_, va_recvX hK.1 hPx (ci := 11) (q0 := 0) rfl rfl, fun U hU hW => ⟨rfl, by rw [hU], by rw [hU]; exact hPc, kk_mv hW hK, hDw⟩⟩ rfl rfl hl.1 rfl (lv_room (Nat.le_of_ble_eq_true rfl)) dB_law_43.1.2.1.1 ⟨(by show _ ≤ 600000; omega), (by show _ ≤ 7302250; omega)⟩) hS (fun q _ h => hFc q h) hFc (fun r_10 u t H locs ht hvm hw hB hz1 hk1 hS => ?_)
  obtain ⟨efi_11, emk0_12, emk1_13, emk2_14, emk3_15, emr0_16, emr1_17, emr2_18, emr3_19, efl0_20, efl1_21, efl2_22, efl3_23, g_24, g_25, g_26, g_27, g_28, g_29, g_30, g_31, g_32, g_33, hP1, hD1⟩ := hB
  rw [ht] at hP1
  obtain ⟨hP, hD⟩ := va_joinQ (wr := [ob3_0_ xn vp vn n1 n2 n3 n4 n5, ai_ cy n1 40 fk, ai_ cy n2 40 fs, ai_ cy n3 40 fe, ai_ cy n4 40 fw, ai_ cy n5 40 fp, aq_ cy 3 xk 5 (kf_ k0 k1 k2 k3 k4), ob6_0_ k0, ob5_0_ k1, ob9_0_ k2, ob2_0_ k3, ob8_0_ k4, ob0_0_ xc xn xk clo cro c4 c5 c6 c7 c8, aq_ cy 6 clo 12 (gf_ rl), ai_ cy (rl 0) 12 (Ml 0), ai_ cy (rl 1) 12 (Ml 1), ai_ cy (rl 2) 12 (Ml 2), ai_ cy (rl 3) 12 (Ml 3), ai_ cy (rl 4) 12 (Ml 4), ai_ cy (rl 5) 12 (Ml 5), ai_ cy (rl 6) 12 (Ml 6), ai_ cy (rl 7) 12 (Ml 7), ai_ cy (rl 8) 12 (Ml 8), ai_ cy (rl 9) 12 (Ml 9), ai_ cy (rl 10) 12 (Ml 10), ai_ cy (rl 11) 12 (Ml 11), aq_ cy 6 cro 12 (gf_ rr), ai_ cy (rr 0) 12 (Mr 0), ai_ cy (rr 1) 12 (Mr 1), ai_ cy (rr 2) 12 (Mr 2), ai_ cy (rr 3) 12 (Mr 3), ai_ cy (rr 4) 12 (Mr 4), ai_ cy (rr 5) 12 (Mr 5), ai_ cy (rr 6) 12 (Mr 6), ai_ cy (rr 7) 12 (Mr 7), ai_ cy (rr 8) 12 (Mr 8), ai_ cy (rr 9) 12 (Mr 9), ai_ cy (rr 10) 12 (Mr 10), ai_ cy (rr 11) 12 (Mr 11), ai_ cy c4 40 w4, ai_ cy c5 40 w5, ai_ cy c6 40 w6, ai_ cy c7 12 w7, ai_ cy c8 12 w8, ob7_0_ xh xc hu1 hu2 hu3 hu4 hu5 hu6 hu7 hu8, ob1_0_ xt xc ta tb, ai_ cy ta 12 fx, ai_ cy tb 12 fu, ob10_0_ xw xc xk wpo wc wf, aq_ cy 6 wpo 12 (gf_ rp), ai_ cy (rp 0) 12 (Mp 0), ai_ cy (rp 1) 12 (Mp 1), ai_ cy (rp 2) 12 (Mp 2), ai_ cy (rp 3) 12 (Mp 3), ai_ cy (rp 4) 12 (Mp 4), ai_ cy (rp 5) 12 (Mp 5), ai_ cy (rp 6) 12 (Mp 6), ai_ cy (rp 7) 12 (Mp 7), ai_ cy (rp 8) 12 (Mp 8), ai_ cy (rp 9) 12 (Mp 9), ai_ cy (rp 10) 12 (Mp 10), ai_ cy (rp 11) 12 (Mp 11), ai_ cy wc 12 fc, ai_ cy wf 12 ff, aj_ cy u0 30 fn0, aj_ cy u1 30 fn1, aj_ cy u2 30 fn2, aj_ cy u3 30 fn3, aq_ cy 5 xp 30 (pst pa pm), ob12_0_ mo s0 s1 t2 s3 s4 g5 g6 g7 g8 g9 g10 s11 g12 g13 g14 g15 g16 g17 g18 g19 g20 s21 g22 g23 g24 s25 s26 s27 s28 g29 g30 g31 g32 g33, ai_ cy g5 40 f5, ai_ cy g6 40 f6, ai_ cy g7 40 f7, ai_ cy g8 40 f8, ai_ cy g9 40 f9, az_ cy g10 40 f10, ai_ cy g12 30 f12, ai_ cy g13 30 f13, ai_ cy g14 6000 f14, az_ cy g15 4 f15, ai_ cy g16 4 f16, ai_ cy g17 4 f17, ai_ cy g18 24 f18, aj_ cy g19 120 f19, aj_ cy g20 5 f20, ai_ cy g22 40 f22, ai_ cy g23 12 f23, ai_ cy g24 12 f24, aj_ cy g29 12 f29, ai_ cy g30 12 f30, ai_ cy g31 12 f31, ai_ cy g32 12 f32, ai_ cy g33 12 f33]) (w1 := [ob11_0_ xo xk xn xc xh xt xw xm xp pf ph tr efi_11, aq_ cy 4 xm 4 (mf_ m0 m1 m2 m3), ob4_0_ m0 emk0_12 emr0_16 l0 u0, ob4_0_ m1 emk1_13 emr1_17 l1 u1, ob4_0_ m2 emk2_14 emr2_18 l2 u2, ob4_0_ m3 emk3_15 emr3_19 l3 u3, ai_ cy l0 6 efl0_20, ai_ cy l1 6 efl1_21, ai_ cy l2 6 efl2_22, ai_ cy l3 6 efl3_23]) hP hD [0, 65, 66, 67, 68, 69, 70, 71, 72, 73] [1, 2, 3, 4, 5, 6, 7, 8, 9, 10, 11, 12, 13, 14, 15, 16, 17, 18, 19, 20, 21, 22, 23, 24, 25, 26, 27, 28, 29, 30, 31, 32, 33, 34, 35, 36, 37, 38, 39, 40, 41, 42, 43, 44, 45, 46, 47, 48, 49, 50, 51, 52, 53, 54, 55, 56, 57, 58, 59, 60, 61, 62, 63, 64, 74, 75, 76, 77, 78, 79, 80, 81, 82, 83, 84, 85, 86, 87, 88, 89, 90, 91, 92, 93, 94, 95, 96, 97, 98, 99, 100, 101, 102] hC_ rfl (by decide +kernel) (by decide +kernel) hk1 hFc hP1 hD1
  refine pd_K (([ob3_0_ xn vp vn n1 n2 n3 n4 n5, ai_ cy n1 40 fk, ai_ cy n2 40 fs, ai_ cy n3 40 fe, ai_ cy n4 40 fw, ai_ cy n5 40 fp, aq_ cy 3 xk 5 (kf_ k0 k1 k2 k3 k4), ob6_0_ k0, ob5_0_ k1, ob9_0_ k2, ob2_0_ k3, ob8_0_ k4, ob0_0_ xc xn xk clo cro c4 c5 c6 c7 c8, aq_ cy 6 clo 12 (gf_ rl), ai_ cy (rl 0) 12 (Ml 0), ai_ cy (rl 1) 12 (Ml 1), ai_ cy (rl 2) 12 (Ml 2), ai_ cy (rl 3) 12 (Ml 3), ai_ cy (rl 4) 12 (Ml 4), ai_ cy (rl 5) 12 (Ml 5), ai_ cy (rl 6) 12 (Ml 6), ai_ cy (rl 7) 12 (Ml 7), ai_ cy (rl 8) 12 (Ml 8), ai_ cy (rl 9) 12 (Ml 9), ai_ cy (rl 10) 12 (Ml 10), ai_ cy (rl 11) 12 (Ml 11), aq_ cy 6 cro 12 (gf_ rr), ai_ cy (rr 0) 12 (Mr 0), ai_ cy (rr 1) 12 (Mr 1), ai_ cy (rr 2) 12 (Mr 2), ai_ cy (rr 3) 12 (Mr 3), ai_ cy (rr 4) 12 (Mr 4), ai_ cy (rr 5) 12 (Mr 5), ai_ cy (rr 6) 12 (Mr 6), ai_ cy (rr 7) 12 (Mr 7), ai_ cy (rr 8) 12 (Mr 8), ai_ cy (rr 9) 12 (Mr 9), ai_ cy (rr 10) 12 (Mr 10), ai_ cy (rr 11) 12 (Mr 11), ai_ cy c4 40 w4, ai_ cy c5 40 w5, ai_ cy c6 40 w6, ai_ cy c7 12 w7, ai_ cy c8 12 w8, ob7_0_ xh xc hu1 hu2 hu3 hu4 hu5 hu6 hu7 hu8, ob1_0_ xt xc ta tb, ai_ cy ta 12 fx, ai_ cy tb 12 fu, ob10_0_ xw xc xk wpo wc wf, aq_ cy 6 wpo 12 (gf_ rp), ai_ cy (rp 0) 12 (Mp 0), ai_ cy (rp 1) 12 (Mp 1), ai_ cy (rp 2) 12 (Mp 2), ai_ cy (rp 3) 12 (Mp 3), ai_ cy (rp 4) 12 (Mp 4), ai_ cy (rp 5) 12 (Mp 5), ai_ cy (rp 6) 12 (Mp 6), ai_ cy (rp 7) 12 (Mp 7), ai_ cy (rp 8) 12 (Mp 8), ai_ cy (rp 9) 12 (Mp 9), ai_ cy (rp 10) 12 (Mp 10), ai_ cy (rp 11) 12 (Mp 11), ai_ cy wc 12 fc, ai_ cy wf 12 ff, aj_ cy u0 30 fn0, aj_ cy u1 30 fn1, aj_ cy u2 30 fn2, aj_ cy u3 30 fn3, aq_ cy 5 xp 30 (pst pa pm), ob12_0_ mo s0 s1 t2 s3 s4 g5 g6 g7 g8 g9 g10 s11 g12 g13 g14 g15 g16 g17 g18 g19 g20 s21 g22 g23 g24 s25 s26 s27 s28 g29 g30 g31 g32 g33, ai_ cy g5 40 f5, ai_ cy g6 40 f6, ai_ cy g7 40 f7, ai_ cy g8 40 f8, ai_ cy g9 40 f9, az_ cy g10 40 f10, ai_ cy g12 30 f12, ai_ cy g13 30 f13, ai_ cy g14 6000 f14, az_ cy g15 4 f15, ai_ cy g16 4 f16, ai_ cy g17 4 f17, ai_ cy g18 24 f18, aj_ cy g19 120 f19, aj_ cy g20 5 f20, ai_ cy g22 40 f22, ai_ cy g23 12 f23, ai_ cy g24 12 f24, aj_ cy g29 12 f29, ai_ cy g30 12 f30, ai_ cy g31 12 f31, ai_ cy g32 12 f32, ai_ cy g33 12 f33, ob11_0_ xo xk xn xc xh xt xw xm xp pf ph tr efi_11, aq_ cy 4 xm 4 (mf_ m0 m1 m2 m3), ob4_0_ m0 emk0_12 emr0_16 l0 u0, ob4_0_ m1 emk1_13 emr1_17 l1 u1, ob4_0_ m2 emk2_14 emr2_18 l2 u2, ob4_0_ m3 emk3_15 emr3_19 l3 u3, ai_ cy l0 6 efl0_20, ai_ cy l1 6 efl1_21, ai_ cy l2 6 efl2_22, ai_ cy l3 6 efl3_23] : va_W) ++ (pool cy pa pv pg pm)) hP hD (fun hP hD => ?_)
  have hw_r_10 := hw
  refine lv_pop hx hb dB_law_43.1.2.1.2 rfl ?_
  refine lv_aload_n hx hb dB_law_43.1.2.2.1 rfl (lv_at hl 1 rfl) ?_
  refine lv_aload_n hx hb dB_law_43.1.2.2.2 rfl (lv_at hl 3 rfl) ?_
  refine lv_iload_n hx hb dB_law_43.2.1.1.1 rfl (lv_at hl 0 rfl) ?_
  refine lv_iconst (v := 1) hx hb dB_law_43.2.1.1.2 (by decide) ?_
  refine lv_iadd hx hb dB_law_43.2.1.2.1 ?_
  refine lv_topi (fun y_34 ey_34 => ?_)
  have e_ := (ey_34.trans ey_1.symm).symm
  subst e_
  refine va_sld hx hb hX hbl hbA hS (i := y_1) h_2 dB_law_43.2.1.2.2 ?_
  refine lv_topi (fun y_36 ey_36 => ?_)
  have e_ := (ey_36.trans ey_3.symm).symm
  subst e_
  refine lv_aload_n hx hb dB_law_43.2.2.1.1 rfl (lv_at hl 3 rfl) ?_
  refine lv_iload_n hx hb dB_law_43.2.2.1.2 rfl (lv_at hl 0 rfl) ?_
  refine lv_iconst (v := 2) hx hb dB_law_43.2.2.2.1 (by decide) ?_
  refine lv_iadd hx hb dB_law_43.2.2.2.2 ?_
  refine lv_topi (fun y_37 ey_37 => ?_)
  have e_ := (ey_37.trans ey_4.symm).symm
  subst e_
  refine va_sld hx hb hX hbl hbA hS (i := y_4) h_5 dB_law_44.1.1.1.1 ?_
  refine lv_topi (fun y_39 ey_39 => ?_)
  have e_ := (ey_39.trans ey_6.symm).symm
  subst e_
  refine lv_aload_n hx hb dB_law_44.1.1.1.2 rfl (lv_at hl 3 rfl) ?_
  refine lv_iload_n hx hb dB_law_44.1.1.2.1 rfl (lv_at hl 0 rfl) ?_
  refine lv_iconst (v := 3) hx hb dB_law_44.1.1.2.2 (by decide) ?_
  refine lv_iadd hx hb dB_law_44.1.2.1.1 ?_
  refine lv_topi (fun y_40 ey_40 => ?_)
  have e_ := (ey_40.trans ey_7.symm).symm
  subst e_
  refine va_sld hx hb hX hbl hbA hS (i := y_7) h_8 dB_law_44.1.2.1.2 ?_
  refine lv_topi (fun y_42 ey_42 => ?_)
  have e_ := (ey_42.trans ey_9.symm).symm
  subst e_
  have hPx := pp_left hP
  have hDx := dd_left hD
  refine ct_S hPx hDx hS hA [ob12_0_ mo s0 s1 t2 s3 s4 g5 g6 g7 g8 g9 g10 s11 g12 g13 g14 g15 g16 g17 g18 g19 g20 s21 g22 g23 g24 s25 s26 s27 s28 g29 g30 g31 g32 g33, az_ cy g15 4 f15, ai_ cy g16 4 f16, ai_ cy g17 4 f17, ai_ cy g18 24 f18] [69, 79, 80, 81, 82] (by decide) rfl (fun hPc hDw hFc hC_ => ?_)
  refine va_calli (va_runV (As := [.int y_3, .int y_6, .int y_9]) (rest := []) ⟨hx, hb, hml, hown, hts⟩ (c_X12_map2 l D cy H.size mo g5 g6 g7 g8 g9 g10 g12 g13 g14 g15 g16 g17 g18 g19 g20 g22 g23 g24 g29 g30 g31 g32 g33 s0 s1 s3 s4 s11 s21 s25 s26 s27 s28 t2 f15 f16 f17 f18 y_3 y_6 y_9 (by first | with_reducible assumption | assumption | omega) (by first | with_reducible assumption | assumption | omega) (by first | with_reducible assumption | assumption | omega)) (cwV 3 hts lg_X12_map rfl rfl rfl ⟨rfl, hd_X12_map⟩ ⟨Nat.le_of_ble_eq_true rfl, Nat.le_of_ble_eq_true rfl⟩) ⟨bl_, va_recvX hK.1 hPx (ci := 12) (q0 := 69) rfl rfl, fun U hU hW => ⟨rfl, by rw [hU], by rw [hU]; exact hPc, kk_mv hW hK, hDw⟩⟩ rfl rfl hl.1 rfl (lv_room (Nat.le_of_ble_eq_true rfl)) dB_law_44.1.2.2.1 ⟨(by show _ ≤ 600000; omega), (by show _ ≤ 7302250; omega)⟩) hS (fun q _ h => hFc q h) hFc (fun r_43 u t H locs ht hvm hw hB hz1 hk1 hS => ?_)
  obtain ⟨n1_44, e15_45, e16_46, e17_47, e18_48, g_49, g_50, g_51, g_52, g_53, hP1, hD1⟩ := hB
  rw [ht] at hP1
  obtain ⟨hP, hD⟩ := va_joinQ (wr := [ob3_0_ xn vp vn n1 n2 n3 n4 n5, ai_ cy n1 40 fk, ai_ cy n2 40 fs, ai_ cy n3 40 fe, ai_ cy n4 40 fw, ai_ cy n5 40 fp, aq_ cy 3 xk 5 (kf_ k0 k1 k2 k3 k4), ob6_0_ k0, ob5_0_ k1, ob9_0_ k2, ob2_0_ k3, ob8_0_ k4, ob0_0_ xc xn xk clo cro c4 c5 c6 c7 c8, aq_ cy 6 clo 12 (gf_ rl), ai_ cy (rl 0) 12 (Ml 0), ai_ cy (rl 1) 12 (Ml 1), ai_ cy (rl 2) 12 (Ml 2), ai_ cy (rl 3) 12 (Ml 3), ai_ cy (rl 4) 12 (Ml 4), ai_ cy (rl 5) 12 (Ml 5), ai_ cy (rl 6) 12 (Ml 6), ai_ cy (rl 7) 12 (Ml 7), ai_ cy (rl 8) 12 (Ml 8), ai_ cy (rl 9) 12 (Ml 9), ai_ cy (rl 10) 12 (Ml 10), ai_ cy (rl 11) 12 (Ml 11), aq_ cy 6 cro 12 (gf_ rr), ai_ cy (rr 0) 12 (Mr 0), ai_ cy (rr 1) 12 (Mr 1), ai_ cy (rr 2) 12 (Mr 2), ai_ cy (rr 3) 12 (Mr 3), ai_ cy (rr 4) 12 (Mr 4), ai_ cy (rr 5) 12 (Mr 5), ai_ cy (rr 6) 12 (Mr 6), ai_ cy (rr 7) 12 (Mr 7), ai_ cy (rr 8) 12 (Mr 8), ai_ cy (rr 9) 12 (Mr 9), ai_ cy (rr 10) 12 (Mr 10), ai_ cy (rr 11) 12 (Mr 11), ai_ cy c4 40 w4, ai_ cy c5 40 w5, ai_ cy c6 40 w6, ai_ cy c7 12 w7, ai_ cy c8 12 w8, ob7_0_ xh xc hu1 hu2 hu3 hu4 hu5 hu6 hu7 hu8, ob1_0_ xt xc ta tb, ai_ cy ta 12 fx, ai_ cy tb 12 fu, ob10_0_ xw xc xk wpo wc wf, aq_ cy 6 wpo 12 (gf_ rp), ai_ cy (rp 0) 12 (Mp 0), ai_ cy (rp 1) 12 (Mp 1), ai_ cy (rp 2) 12 (Mp 2), ai_ cy (rp 3) 12 (Mp 3), ai_ cy (rp 4) 12 (Mp 4), ai_ cy (rp 5) 12 (Mp 5), ai_ cy (rp 6) 12 (Mp 6), ai_ cy (rp 7) 12 (Mp 7), ai_ cy (rp 8) 12 (Mp 8), ai_ cy (rp 9) 12 (Mp 9), ai_ cy (rp 10) 12 (Mp 10), ai_ cy (rp 11) 12 (Mp 11), ai_ cy wc 12 fc, ai_ cy wf 12 ff, aj_ cy u0 30 fn0, aj_ cy u1 30 fn1, aj_ cy u2 30 fn2, aj_ cy u3 30 fn3, aq_ cy 5 xp 30 (pst pa pm), ai_ cy g5 40 f5, ai_ cy g6 40 f6, ai_ cy g7 40 f7, ai_ cy g8 40 f8, ai_ cy g9 40 f9, az_ cy g10 40 f10, ai_ cy g12 30 f12, ai_ cy g13 30 f13, ai_ cy g14 6000 f14, aj_ cy g19 120 f19, aj_ cy g20 5 f20, ai_ cy g22 40 f22, ai_ cy g23 12 f23, ai_ cy g24 12 f24, aj_ cy g29 12 f29, ai_ cy g30 12 f30, ai_ cy g31 12 f31, ai_ cy g32 12 f32, ai_ cy g33 12 f33, ob11_0_ xo xk xn xc xh xt xw xm xp pf ph tr efi_11, aq_ cy 4 xm 4 (mf_ m0 m1 m2 m3), ob4_0_ m0 emk0_12 emr0_16 l0 u0, ob4_0_ m1 emk1_13 emr1_17 l1 u1, ob4_0_ m2 emk2_14 emr2_18 l2 u2, ob4_0_ m3 emk3_15 emr3_19 l3 u3, ai_ cy l0 6 efl0_20, ai_ cy l1 6 efl1_21, ai_ cy l2 6 efl2_22, ai_ cy l3 6 efl3_23]) (w1 := [ob12_0_ mo 0 n1_44 t2 s3 s4 g5 g6 g7 g8 g9 g10 s11 g12 g13 g14 g15 g16 g17 g18 g19 g20 s21 g22 g23 g24 s25 s26 s27 s28 g29 g30 g31 g32 g33, az_ cy g15 4 e15_45, ai_ cy g16 4 e16_46, ai_ cy g17 4 e17_47, ai_ cy g18 24 e18_48]) hP hD [69, 79, 80, 81, 82] [0, 1, 2, 3, 4, 5, 6, 7, 8, 9, 10, 11, 12, 13, 14, 15, 16, 17, 18, 19, 20, 21, 22, 23, 24, 25, 26, 27, 28, 29, 30, 31, 32, 33, 34, 35, 36, 37, 38, 39, 40, 41, 42, 43, 44, 45, 46, 47, 48, 49, 50, 51, 52, 53, 54, 55, 56, 57, 58, 59, 60, 61, 62, 63, 64, 65, 66, 67, 68, 70, 71, 72, 73, 74, 75, 76, 77, 78, 83, 84, 85, 86, 87, 88, 89, 90, 91, 92, 93, 94, 95, 96, 97, 98, 99, 100, 101, 102] hC_ rfl (by decide +kernel) (by decide +kernel) hk1 hFc hP1 hD1
  refine pd_K (([ob3_0_ xn vp vn n1 n2 n3 n4 n5, ai_ cy n1 40 fk, ai_ cy n2 40 fs, ai_ cy n3 40 fe, ai_ cy n4 40 fw, ai_ cy n5 40 fp, aq_ cy 3 xk 5 (kf_ k0 k1 k2 k3 k4), ob6_0_ k0, ob5_0_ k1, ob9_0_ k2, ob2_0_ k3, ob8_0_ k4, ob0_0_ xc xn xk clo cro c4 c5 c6 c7 c8, aq_ cy 6 clo 12 (gf_ rl), ai_ cy (rl 0) 12 (Ml 0), ai_ cy (rl 1) 12 (Ml 1), ai_ cy (rl 2) 12 (Ml 2), ai_ cy (rl 3) 12 (Ml 3), ai_ cy (rl 4) 12 (Ml 4), ai_ cy (rl 5) 12 (Ml 5), ai_ cy (rl 6) 12 (Ml 6), ai_ cy (rl 7) 12 (Ml 7), ai_ cy (rl 8) 12 (Ml 8), ai_ cy (rl 9) 12 (Ml 9), ai_ cy (rl 10) 12 (Ml 10), ai_ cy (rl 11) 12 (Ml 11), aq_ cy 6 cro 12 (gf_ rr), ai_ cy (rr 0) 12 (Mr 0), ai_ cy (rr 1) 12 (Mr 1), ai_ cy (rr 2) 12 (Mr 2), ai_ cy (rr 3) 12 (Mr 3), ai_ cy (rr 4) 12 (Mr 4), ai_ cy (rr 5) 12 (Mr 5), ai_ cy (rr 6) 12 (Mr 6), ai_ cy (rr 7) 12 (Mr 7), ai_ cy (rr 8) 12 (Mr 8), ai_ cy (rr 9) 12 (Mr 9), ai_ cy (rr 10) 12 (Mr 10), ai_ cy (rr 11) 12 (Mr 11), ai_ cy c4 40 w4, ai_ cy c5 40 w5, ai_ cy c6 40 w6, ai_ cy c7 12 w7, ai_ cy c8 12 w8, ob7_0_ xh xc hu1 hu2 hu3 hu4 hu5 hu6 hu7 hu8, ob1_0_ xt xc ta tb, ai_ cy ta 12 fx, ai_ cy tb 12 fu, ob10_0_ xw xc xk wpo wc wf, aq_ cy 6 wpo 12 (gf_ rp), ai_ cy (rp 0) 12 (Mp 0), ai_ cy (rp 1) 12 (Mp 1), ai_ cy (rp 2) 12 (Mp 2), ai_ cy (rp 3) 12 (Mp 3), ai_ cy (rp 4) 12 (Mp 4), ai_ cy (rp 5) 12 (Mp 5), ai_ cy (rp 6) 12 (Mp 6), ai_ cy (rp 7) 12 (Mp 7), ai_ cy (rp 8) 12 (Mp 8), ai_ cy (rp 9) 12 (Mp 9), ai_ cy (rp 10) 12 (Mp 10), ai_ cy (rp 11) 12 (Mp 11), ai_ cy wc 12 fc, ai_ cy wf 12 ff, aj_ cy u0 30 fn0, aj_ cy u1 30 fn1, aj_ cy u2 30 fn2, aj_ cy u3 30 fn3, aq_ cy 5 xp 30 (pst pa pm), ai_ cy g5 40 f5, ai_ cy g6 40 f6, ai_ cy g7 40 f7, ai_ cy g8 40 f8, ai_ cy g9 40 f9, az_ cy g10 40 f10, ai_ cy g12 30 f12, ai_ cy g13 30 f13, ai_ cy g14 6000 f14, aj_ cy g19 120 f19, aj_ cy g20 5 f20, ai_ cy g22 40 f22, ai_ cy g23 12 f23, ai_ cy g24 12 f24, aj_ cy g29 12 f29, ai_ cy g30 12 f30, ai_ cy g31 12 f31, ai_ cy g32 12 f32, ai_ cy g33 12 f33, ob11_0_ xo xk xn xc xh xt xw xm xp pf ph tr efi_11, aq_ cy 4 xm 4 (mf_ m0 m1 m2 m3), ob4_0_ m0 emk0_12 emr0_16 l0 u0, ob4_0_ m1 emk1_13 emr1_17 l1 u1, ob4_0_ m2 emk2_14 emr2_18 l2 u2, ob4_0_ m3 emk3_15 emr3_19 l3 u3, ai_ cy l0 6 efl0_20, ai_ cy l1 6 efl1_21, ai_ cy l2 6 efl2_22, ai_ cy l3 6 efl3_23, ob12_0_ mo 0 n1_44 t2 s3 s4 g5 g6 g7 g8 g9 g10 s11 g12 g13 g14 g15 g16 g17 g18 g19 g20 s21 g22 g23 g24 s25 s26 s27 s28 g29 g30 g31 g32 g33, az_ cy g15 4 e15_45, ai_ cy g16 4 e16_46, ai_ cy g17 4 e17_47, ai_ cy g18 24 e18_48] : va_W) ++ (pool cy pa pv pg pm)) hP hD (fun hP hD => ?_)
  have hw_r_43 := hw
  refine lv_pop hx hb dB_law_44.1.2.2.2 rfl ?_
  refine lv_goto (tgt := 1333) hx hb dB_law_44.2.1.1.1 (by decide) ?_
  have hmr2_ := mrel_map hmr g_28 g_29 g_49 g_50
  have hst2_ := Int32.toInt_inj.mp (g_28.trans g_49.symm)
  refine pd_P hP hD [ob11_0_ xo xk xn xc xh xt xw xm xp pf ph tr efi_11, ob3_0_ xn vp vn n1 n2 n3 n4 n5, ai_ cy n1 40 fk, ai_ cy n2 40 fs, ai_ cy n3 40 fe, ai_ cy n4 40 fw, ai_ cy n5 40 fp, aq_ cy 3 xk 5 (kf_ k0 k1 k2 k3 k4), ob6_0_ k0, ob5_0_ k1, ob9_0_ k2, ob2_0_ k3, ob8_0_ k4, ob0_0_ xc xn xk clo cro c4 c5 c6 c7 c8, aq_ cy 6 clo 12 (gf_ rl), ai_ cy (rl 0) 12 (Ml 0), ai_ cy (rl 1) 12 (Ml 1), ai_ cy (rl 2) 12 (Ml 2), ai_ cy (rl 3) 12 (Ml 3), ai_ cy (rl 4) 12 (Ml 4), ai_ cy (rl 5) 12 (Ml 5), ai_ cy (rl 6) 12 (Ml 6), ai_ cy (rl 7) 12 (Ml 7), ai_ cy (rl 8) 12 (Ml 8), ai_ cy (rl 9) 12 (Ml 9), ai_ cy (rl 10) 12 (Ml 10), ai_ cy (rl 11) 12 (Ml 11), aq_ cy 6 cro 12 (gf_ rr), ai_ cy (rr 0) 12 (Mr 0), ai_ cy (rr 1) 12 (Mr 1), ai_ cy (rr 2) 12 (Mr 2), ai_ cy (rr 3) 12 (Mr 3), ai_ cy (rr 4) 12 (Mr 4), ai_ cy (rr 5) 12 (Mr 5), ai_ cy (rr 6) 12 (Mr 6), ai_ cy (rr 7) 12 (Mr 7), ai_ cy (rr 8) 12 (Mr 8), ai_ cy (rr 9) 12 (Mr 9), ai_ cy (rr 10) 12 (Mr 10), ai_ cy (rr 11) 12 (Mr 11), ai_ cy c4 40 w4, ai_ cy c5 40 w5, ai_ cy c6 40 w6, ai_ cy c7 12 w7, ai_ cy c8 12 w8, ob7_0_ xh xc hu1 hu2 hu3 hu4 hu5 hu6 hu7 hu8, ob1_0_ xt xc ta tb, ai_ cy ta 12 fx, ai_ cy tb 12 fu, ob10_0_ xw xc xk wpo wc wf, aq_ cy 6 wpo 12 (gf_ rp), ai_ cy (rp 0) 12 (Mp 0), ai_ cy (rp 1) 12 (Mp 1), ai_ cy (rp 2) 12 (Mp 2), ai_ cy (rp 3) 12 (Mp 3), ai_ cy (rp 4) 12 (Mp 4), ai_ cy (rp 5) 12 (Mp 5), ai_ cy (rp 6) 12 (Mp 6), ai_ cy (rp 7) 12 (Mp 7), ai_ cy (rp 8) 12 (Mp 8), ai_ cy (rp 9) 12 (Mp 9), ai_ cy (rp 10) 12 (Mp 10), ai_ cy (rp 11) 12 (Mp 11), ai_ cy wc 12 fc, ai_ cy wf 12 ff, aq_ cy 4 xm 4 (mf_ m0 m1 m2 m3), ob4_0_ m0 emk0_12 emr0_16 l0 u0, ob4_0_ m1 emk1_13 emr1_17 l1 u1, ob4_0_ m2 emk2_14 emr2_18 l2 u2, ob4_0_ m3 emk3_15 emr3_19 l3 u3, ai_ cy l0 6 efl0_20, ai_ cy l1 6 efl1_21, ai_ cy l2 6 efl2_22, ai_ cy l3 6 efl3_23, aj_ cy u0 30 fn0, aj_ cy u1 30 fn1, aj_ cy u2 30 fn2, aj_ cy u3 30 fn3, aq_ cy 5 xp 30 (pst pa pm), ob12_0_ mo 0 n1_44 t2 s3 s4 g5 g6 g7 g8 g9 g10 s11 g12 g13 g14 g15 g16 g17 g18 g19 g20 s21 g22 g23 g24 s25 s26 s27 s28 g29 g30 g31 g32 g33, ai_ cy g5 40 f5, ai_ cy g6 40 f6, ai_ cy g7 40 f7, ai_ cy g8 40 f8, ai_ cy g9 40 f9, az_ cy g10 40 f10, ai_ cy g12 30 f12, ai_ cy g13 30 f13, ai_ cy g14 6000 f14, az_ cy g15 4 e15_45, ai_ cy g16 4 e16_46, ai_ cy g17 4 e17_47, ai_ cy g18 24 e18_48, aj_ cy g19 120 f19, aj_ cy g20 5 f20, ai_ cy g22 40 f22, ai_ cy g23 12 f23, ai_ cy g24 12 f24, aj_ cy g29 12 f29, ai_ cy g30 12 f30, ai_ cy g31 12 f31, ai_ cy g32 12 f32, ai_ cy g33 12 f33] [88, 0, 1, 2, 3, 4, 5, 6, 7, 8, 9, 10, 11, 12, 13, 14, 15, 16, 17, 18, 19, 20, 21, 22, 23, 24, 25, 26, 27, 28, 29, 30, 31, 32, 33, 34, 35, 36, 37, 38, 39, 40, 41, 42, 43, 44, 45, 46, 47, 48, 49, 50, 51, 52, 53, 54, 55, 56, 57, 58, 59, 60, 61, 62, 63, 89, 90, 91, 92, 93, 94, 95, 96, 97, 64, 65, 66, 67, 68, 98, 69, 70, 71, 72, 73, 74, 75, 76, 77, 99, 100, 101, 102, 78, 79, 80, 81, 82, 83, 84, 85, 86, 87] (by decide +kernel) rfl (fun hP hD => ?_)
  refine W.widen (k := cells + 6) (n := slots + 207) (by omega) (by omega) ?_
  exact cont xk xn xc xh xt xw xm xp n1 n2 n3 n4 n5 k0 k1 k2 k3 k4 clo cro c4 c5 c6 c7 c8 ta tb wpo wc wf m0 l0 u0 m1 l1 u1 m2 l2 u2 m3 l3 u3 g5 g6 g7 g8 g9 g10 g12 g13 g14 g15 g16 g17 g18 g19 g20 g22 g23 g24 g29 g30 g31 g32 g33 rl rr rp Ml Mr Mp pf ph efi_11 vp vn hu1 hu2 hu3 hu4 hu5 hu6 hu7 hu8 emk0_12 emk1_13 emk2_14 emk3_15 emr0_16 emr1_17 emr2_18 emr3_19 (0 : Int32) n1_44 s3 s4 s11 s21 s25 s26 s27 s28 tr t2 fk fs fe fw fp w4 w5 w6 w7 w8 fx fu fc ff efl0_20 efl1_21 efl2_22 efl3_23 fn0 fn1 fn2 fn3 f5 f6 f7 f8 f9 f10 f12 f13 f14 e15_45 e16_46 e17_47 e18_48 f19 f20 f22 f23 f24 f29 f30 f31 f32 f33 pa pv pg pm H locs ls hP hD (by first | with_reducible assumption | assumption | omega) (by first | with_reducible assumption | assumption | omega) (by first | with_reducible assumption | assumption | omega) (by first | with_reducible assumption | assumption | exact (show nok vp vn fk fs fe fw fp by assumption).2.2.2.1) (by first | with_reducible assumption | assumption | exact (show nok vp vn fk fs fe fw fp by assumption).2.2.1) (by first | with_reducible assumption | assumption | exact (show nok vp vn fk fs fe fw fp by assumption).2.2.2.2.1) (by first | with_reducible assumption | assumption | exact (show nok vp vn fk fs fe fw fp by assumption).2.2.2.2.2) (by first | with_reducible assumption | assumption | omega) (by first | with_reducible assumption | assumption | omega) (by first | with_reducible assumption | assumption | omega) (by first | with_reducible assumption | assumption | omega) (by first | with_reducible assumption | assumption | omega) (by first | with_reducible assumption | assumption | omega) (by first | with_reducible assumption | assumption | omega) (by first | with_reducible assumption | assumption | omega) (by first | with_reducible assumption | assumption | omega) (by first | with_reducible assumption | assumption | omega) (by first | with_reducible assumption | assumption | omega) (by first | with_reducible assumption | assumption | omega) (by first | with_reducible assumption | assumption | omega) (by first | with_reducible assumption | assumption | omega) (by first | with_reducible assumption | assumption | omega) (by first | with_reducible assumption | assumption | omega) (by first | with_reducible assumption | assumption | omega) (by first | with_reducible assumption | assumption | omega) (by first | with_reducible assumption | assumption | omega) (by first | with_reducible assumption | assumption | omega) (by first | with_reducible assumption | assumption | omega) (by first | with_reducible assumption | assumption | omega) (by first | with_reducible assumption | assumption | omega) (by first | with_reducible assumption | assumption | omega) (by first | with_reducible assumption | assumption | omega) (by first | with_reducible assumption | assumption | omega) (by first | with_reducible assumption | assumption | omega) (by first | with_reducible assumption | assumption | omega) (by first | with_reducible assumption | assumption | omega) (by first | with_reducible assumption | assumption | omega) (by first | with_reducible assumption | assumption | omega) (by first | with_reducible assumption | assumption | omega) (hmr2_) (by first | with_reducible assumption | assumption | omega) (by first | with_reducible assumption | assumption | omega) (hst2_) hS (lv_sub hl [0, 1, 2, 3] rfl)

set_option maxHeartbeats 8000000 in
set_option maxRecDepth 100000 in
theorem law_25 {p : Program} {e : Env} {s : State} {m : MethodId} {below : List Frame} {meth : Method} {c : Code} (l : Launch) {b L : Nat} {xs : Nat → Int32} (C0 : lw_At p s m meth c b L xs) {D : va_G} {cy : Nat → ClassId} (hK : kk_ D cy s) (hG : ArrOfT s (cy 6) (.array .int)) {xo mo : Nat} {i : Int32} {cells slots : Nat} (hi0 : 0 ≤ i.toInt) (hiL : i.toInt + 7 ≤ L) (hL : L ≤ 3584) (hcc : cells ≤ 500000) (hss : slots ≤ 7000000) (cont : lawQ p l e s m below meth c b D cy xo mo i 1333 (cells + 6) (slots + 207)) : lawQ p l e s m below meth c b D cy xo mo i 995 cells slots := by
  have hfe : (600000 : Nat) = 600000 := rfl
  obtain ⟨hx, hb, hr, hml, hown, hts, hX, hbl, hlocks, hgv⟩ := id C0
  have hown : s.vm.findClass RL = some m.cls := hown
  have hA : ∀ q : Nat, s.heap.size ≤ q → (fun q : Nat => s.heap.size ≤ q) q := fun _ h => h
  have hbA : ¬ (fun q : Nat => s.heap.size ≤ q) b := Nat.not_le.mpr hbl
  have z0 : (0 : Int32).toInt = 0 := by decide
  have z1 : (1 : Int32).toInt = 1 := by decide
  have z2 : (2 : Int32).toInt = 2 := by decide
  have z3 : (3 : Int32).toInt = 3 := by decide
  intro xk xn xc xh xt xw xm xp n1 n2 n3 n4 n5 k0 k1 k2 k3 k4 clo cro c4 c5 c6 c7 c8 ta tb wpo wc wf m0 l0 u0 m1 l1 u1 m2 l2 u2 m3 l3 u3 g5 g6 g7 g8 g9 g10 g12 g13 g14 g15 g16 g17 g18 g19 g20 g22 g23 g24 g29 g30 g31 g32 g33 rl rr rp Ml Mr Mp pf ph fi vp vn hu1 hu2 hu3 hu4 hu5 hu6 hu7 hu8 mk0 mk1 mk2 mk3 mr0 mr1 mr2 mr3 s0 s1 s3 s4 s11 s21 s25 s26 s27 s28 tr t2 fk fs fe fw fp w4 w5 w6 w7 w8 fx fu fc ff fl0 fl1 fl2 fl3 fn0 fn1 fn2 fn3 f5 f6 f7 f8 f9 f10 f12 f13 f14 f15 f16 f17 f18 f19 f20 f22 f23 f24 f29 f30 f31 f32 f33 pa pv pg pm H locs ls hP hD hnk hpk hrk hpr r_fk r_fw r_fp hmr0 hmr1 hmr2 hmr3 r_fl0 r_fl1 r_fl2 r_fl3 r_w7 r_w8 r_ff hN hPl hU h21 hnet hpast r_f6 r_f7 r_f8 r_f9 r_f12 r_f13 r_f17 r_f18 r_f23 r_f24 r_f30 r_f31 r_f32 r_f14 hlk hmr hnr hpl hst hS hl
  have hvp := hnk.1
  have hvn := hnk.2.1
  have h21i : s21.toInt = -9 := by rw [h21]; decide
  have h6_ : ∀ q : Nat, q < 4 → ((f4_ mr0 mr1 mr2 mr3) q).toInt ≤ 6 := f4_all (by omega) (by omega) (by omega) (by omega)
  have h5_ : ∀ q p : Nat, q < 4 → p < 6 → ((f4_ fl0 fl1 fl2 fl3) q p).toInt ≤ 5 := f4_rng r_fl0 r_fl1 r_fl2 r_fl3
  refine lv_aload_n hx hb dB_law_44.2.1.1.2 rfl (lv_at hl 2 rfl) ?_
  refine lv_aload_n hx hb dB_law_44.2.1.2.1 rfl (lv_at hl 3 rfl) ?_
  refine lv_iload_n hx hb dB_law_44.2.1.2.2 rfl (lv_at hl 0 rfl) ?_
  refine lv_iconst (v := 1) hx hb dB_law_44.2.2.1.1 (by decide) ?_
  refine lv_iadd hx hb dB_law_44.2.2.1.2 ?_
  refine lv_topi (fun y_1 ey_1 => ?_)
  have ty_1 : y_1.toInt = i.toInt + (1 : Int32).toInt := by rw [ey_1]; exact addI (by omega) (by omega)
  have h_2 : vp_in y_1 L := in_I (by omega) (by omega)
  refine va_sld hx hb hX hbl hbA hS (i := y_1) h_2 dB_law_44.2.2.2.1 ?_
  refine lv_topi (fun y_3 ey_3 => ?_)
  refine lv_aload_n hx hb dB_law_44.2.2.2.2 rfl (lv_at hl 3 rfl) ?_
  refine lv_iload_n hx hb dB_law_45.1.1.1.1 rfl (lv_at hl 0 rfl) ?_
  refine lv_iconst (v := 2) hx hb dB_law_45.1.1.1.2 (by decide) ?_
  refine lv_iadd hx hb dB_law_45.1.1.2.1 ?_
  refine lv_topi (fun y_4 ey_4 => ?_)
  have ty_4 : y_4.toInt = i.toInt + (2 : Int32).toInt := by rw [ey_4]; exact addI (by omega) (by omega)
  have h_5 : vp_in y_4 L := in_I (by omega) (by omega)
  refine va_sld hx hb hX hbl hbA hS (i := y_4) h_5 dB_law_45.1.1.2.2 ?_
  refine lv_topi (fun y_6 ey_6 => ?_)
  refine lv_aload_n hx hb dB_law_45.1.2.1.1 rfl (lv_at hl 3 rfl) ?_
  refine lv_iload_n hx hb dB_law_45.1.2.1.2 rfl (lv_at hl 0 rfl) ?_
  refine lv_iconst (v := 3) hx hb dB_law_45.1.2.2.1 (by decide) ?_
  refine lv_iadd hx hb dB_law_45.1.2.2.2 ?_
  refine lv_topi (fun y_7 ey_7 => ?_)
  have ty_7 : y_7.toInt = i.toInt + (3 : Int32).toInt := by rw [ey_7]; exact addI (by omega) (by omega)
  have h_8 : vp_in y_7 L := in_I (by omega) (by omega)
  refine va_sld hx hb hX hbl hbA hS (i := y_7) h_8 dB_law_45.2.1.1.1 ?_
  refine lv_topi (fun y_9 ey_9 => ?_)
  have hPx := pp_left hP
  have hDx := dd_left hD
  refine ct_S hPx hDx hS hA [ob11_0_ xo xk xn xc xh xt xw xm xp pf ph tr fi, aq_ cy 4 xm 4 (mf_ m0 m1 m2 m3), ob4_0_ m0 mk0 mr0 l0 u0, ob4_0_ m1 mk1 mr1 l1 u1, ob4_0_ m2 mk2 mr2 l2 u2, ob4_0_ m3 mk3 mr3 l3 u3, ai_ cy l0 6 fl0, ai_ cy l1 6 fl1, ai_ cy l2 6 fl2, ai_ cy l3 6 fl3, aj_ cy u0 30 fn0, aj_ cy u1 30 fn1, aj_ cy u2 30 fn2, aj_ cy u3 30 fn3] [0, 65, 66, 67, 68, 69, 70, 71, 72, 73, 74, 75, 76, 77] (by decide +kernel) rfl (fun hPc hDw hFc hC_ => ?_)
  refine va_calli (va_runV (As := [.int y_3, .int y_6, .int y_9]) (rest := []) ⟨hx, hb, hml, hown, hts⟩ (c_X11_row2 l D cy H.size xo xk xn xc xh xt xw xm xp pf ph tr fi m0 l0 u0 m1 l1 u1 m2 l2 u2 m3 l3 u3 mk0 mr0 mk1 mr1 mk2 mr2 mk3 mr3 fl0 fl1 fl2 fl3 fn0 fn1 fn2 fn3 y_3 y_6 y_9 (by first | with_reducible assumption | assumption | omega) (by first | with_reducible assumption | assumption | omega) (by first | with_reducible assumption | assumption | omega) (by first | with_reducible assumption | assumption | omega) (by first | with_reducible assumption | assumption | omega) (by first | with_reducible assumption | assumption | omega) (by first | with_reducible assumption | assumption | omega) (by first | with_reducible assumption | assumption | omega)) (cwV 3 hts lg_X11_row rfl rfl rfl ⟨rfl, hd_X11_row⟩ ⟨Nat.le_of_ble_eq_true rfl, Nat.le_of_ble_eq_true rfl⟩) ⟨bl_, va_recvX hK.1 hPx (ci := 11) (q0 := 0) rfl rfl, fun U hU hW => ⟨rfl, by rw [hU], by rw [hU]; exact hPc, kk_mv hW hK, hDw⟩⟩ rfl rfl hl.1 rfl (lv_room (Nat.le_of_ble_eq_true rfl)) dB_law_45.2.1.1.2 ⟨(by show _ ≤ 600000; omega), (by show _ ≤ 7302250; omega)⟩) hS (fun q _ h => hFc q h) hFc (fun r_10 u t H locs ht hvm hw hB hz1 hk1 hS => ?_)
  obtain ⟨efi_11, efl0_12, efl1_13, efl2_14, efl3_15, efn0_16, efn1_17, efn2_18, efn3_19, g_20, g_21, g_22, g_23, g_24, g_25, hP1, hD1⟩ := hB
  rw [ht] at hP1
  obtain ⟨hP, hD⟩ := va_joinQ (wr := [ob3_0_ xn vp vn n1 n2 n3 n4 n5, ai_ cy n1 40 fk, ai_ cy n2 40 fs, ai_ cy n3 40 fe, ai_ cy n4 40 fw, ai_ cy n5 40 fp, aq_ cy 3 xk 5 (kf_ k0 k1 k2 k3 k4), ob6_0_ k0, ob5_0_ k1, ob9_0_ k2, ob2_0_ k3, ob8_0_ k4, ob0_0_ xc xn xk clo cro c4 c5 c6 c7 c8, aq_ cy 6 clo 12 (gf_ rl), ai_ cy (rl 0) 12 (Ml 0), ai_ cy (rl 1) 12 (Ml 1), ai_ cy (rl 2) 12 (Ml 2), ai_ cy (rl 3) 12 (Ml 3), ai_ cy (rl 4) 12 (Ml 4), ai_ cy (rl 5) 12 (Ml 5), ai_ cy (rl 6) 12 (Ml 6), ai_ cy (rl 7) 12 (Ml 7), ai_ cy (rl 8) 12 (Ml 8), ai_ cy (rl 9) 12 (Ml 9), ai_ cy (rl 10) 12 (Ml 10), ai_ cy (rl 11) 12 (Ml 11), aq_ cy 6 cro 12 (gf_ rr), ai_ cy (rr 0) 12 (Mr 0), ai_ cy (rr 1) 12 (Mr 1), ai_ cy (rr 2) 12 (Mr 2), ai_ cy (rr 3) 12 (Mr 3), ai_ cy (rr 4) 12 (Mr 4), ai_ cy (rr 5) 12 (Mr 5), ai_ cy (rr 6) 12 (Mr 6), ai_ cy (rr 7) 12 (Mr 7), ai_ cy (rr 8) 12 (Mr 8), ai_ cy (rr 9) 12 (Mr 9), ai_ cy (rr 10) 12 (Mr 10), ai_ cy (rr 11) 12 (Mr 11), ai_ cy c4 40 w4, ai_ cy c5 40 w5, ai_ cy c6 40 w6, ai_ cy c7 12 w7, ai_ cy c8 12 w8, ob7_0_ xh xc hu1 hu2 hu3 hu4 hu5 hu6 hu7 hu8, ob1_0_ xt xc ta tb, ai_ cy ta 12 fx, ai_ cy tb 12 fu, ob10_0_ xw xc xk wpo wc wf, aq_ cy 6 wpo 12 (gf_ rp), ai_ cy (rp 0) 12 (Mp 0), ai_ cy (rp 1) 12 (Mp 1), ai_ cy (rp 2) 12 (Mp 2), ai_ cy (rp 3) 12 (Mp 3), ai_ cy (rp 4) 12 (Mp 4), ai_ cy (rp 5) 12 (Mp 5), ai_ cy (rp 6) 12 (Mp 6), ai_ cy (rp 7) 12 (Mp 7), ai_ cy (rp 8) 12 (Mp 8), ai_ cy (rp 9) 12 (Mp 9), ai_ cy (rp 10) 12 (Mp 10), ai_ cy (rp 11) 12 (Mp 11), ai_ cy wc 12 fc, ai_ cy wf 12 ff, aq_ cy 5 xp 30 (pst pa pm), ob12_0_ mo s0 s1 t2 s3 s4 g5 g6 g7 g8 g9 g10 s11 g12 g13 g14 g15 g16 g17 g18 g19 g20 s21 g22 g23 g24 s25 s26 s27 s28 g29 g30 g31 g32 g33, ai_ cy g5 40 f5, ai_ cy g6 40 f6, ai_ cy g7 40 f7, ai_ cy g8 40 f8, ai_ cy g9 40 f9, az_ cy g10 40 f10, ai_ cy g12 30 f12, ai_ cy g13 30 f13, ai_ cy g14 6000 f14, az_ cy g15 4 f15, ai_ cy g16 4 f16, ai_ cy g17 4 f17, ai_ cy g18 24 f18, aj_ cy g19 120 f19, aj_ cy g20 5 f20, ai_ cy g22 40 f22, ai_ cy g23 12 f23, ai_ cy g24 12 f24, aj_ cy g29 12 f29, ai_ cy g30 12 f30, ai_ cy g31 12 f31, ai_ cy g32 12 f32, ai_ cy g33 12 f33]) (w1 := [ob11_0_ xo xk xn xc xh xt xw xm xp pf ph tr efi_11, aq_ cy 4 xm 4 (mf_ m0 m1 m2 m3), ob4_0_ m0 mk0 mr0 l0 u0, ob4_0_ m1 mk1 mr1 l1 u1, ob4_0_ m2 mk2 mr2 l2 u2, ob4_0_ m3 mk3 mr3 l3 u3, ai_ cy l0 6 efl0_12, ai_ cy l1 6 efl1_13, ai_ cy l2 6 efl2_14, ai_ cy l3 6 efl3_15, aj_ cy u0 30 efn0_16, aj_ cy u1 30 efn1_17, aj_ cy u2 30 efn2_18, aj_ cy u3 30 efn3_19]) hP hD [0, 65, 66, 67, 68, 69, 70, 71, 72, 73, 74, 75, 76, 77] [1, 2, 3, 4, 5, 6, 7, 8, 9, 10, 11, 12, 13, 14, 15, 16, 17, 18, 19, 20, 21, 22, 23, 24, 25, 26, 27, 28, 29, 30, 31, 32, 33, 34, 35, 36, 37, 38, 39, 40, 41, 42, 43, 44, 45, 46, 47, 48, 49, 50, 51, 52, 53, 54, 55, 56, 57, 58, 59, 60, 61, 62, 63, 64, 78, 79, 80, 81, 82, 83, 84, 85, 86, 87, 88, 89, 90, 91, 92, 93, 94, 95, 96, 97, 98, 99, 100, 101, 102] hC_ rfl (by decide +kernel) (by decide +kernel) hk1 hFc hP1 hD1
  refine pd_K (([ob3_0_ xn vp vn n1 n2 n3 n4 n5, ai_ cy n1 40 fk, ai_ cy n2 40 fs, ai_ cy n3 40 fe, ai_ cy n4 40 fw, ai_ cy n5 40 fp, aq_ cy 3 xk 5 (kf_ k0 k1 k2 k3 k4), ob6_0_ k0, ob5_0_ k1, ob9_0_ k2, ob2_0_ k3, ob8_0_ k4, ob0_0_ xc xn xk clo cro c4 c5 c6 c7 c8, aq_ cy 6 clo 12 (gf_ rl), ai_ cy (rl 0) 12 (Ml 0), ai_ cy (rl 1) 12 (Ml 1), ai_ cy (rl 2) 12 (Ml 2), ai_ cy (rl 3) 12 (Ml 3), ai_ cy (rl 4) 12 (Ml 4), ai_ cy (rl 5) 12 (Ml 5), ai_ cy (rl 6) 12 (Ml 6), ai_ cy (rl 7) 12 (Ml 7), ai_ cy (rl 8) 12 (Ml 8), ai_ cy (rl 9) 12 (Ml 9), ai_ cy (rl 10) 12 (Ml 10), ai_ cy (rl 11) 12 (Ml 11), aq_ cy 6 cro 12 (gf_ rr), ai_ cy (rr 0) 12 (Mr 0), ai_ cy (rr 1) 12 (Mr 1), ai_ cy (rr 2) 12 (Mr 2), ai_ cy (rr 3) 12 (Mr 3), ai_ cy (rr 4) 12 (Mr 4), ai_ cy (rr 5) 12 (Mr 5), ai_ cy (rr 6) 12 (Mr 6), ai_ cy (rr 7) 12 (Mr 7), ai_ cy (rr 8) 12 (Mr 8), ai_ cy (rr 9) 12 (Mr 9), ai_ cy (rr 10) 12 (Mr 10), ai_ cy (rr 11) 12 (Mr 11), ai_ cy c4 40 w4, ai_ cy c5 40 w5, ai_ cy c6 40 w6, ai_ cy c7 12 w7, ai_ cy c8 12 w8, ob7_0_ xh xc hu1 hu2 hu3 hu4 hu5 hu6 hu7 hu8, ob1_0_ xt xc ta tb, ai_ cy ta 12 fx, ai_ cy tb 12 fu, ob10_0_ xw xc xk wpo wc wf, aq_ cy 6 wpo 12 (gf_ rp), ai_ cy (rp 0) 12 (Mp 0), ai_ cy (rp 1) 12 (Mp 1), ai_ cy (rp 2) 12 (Mp 2), ai_ cy (rp 3) 12 (Mp 3), ai_ cy (rp 4) 12 (Mp 4), ai_ cy (rp 5) 12 (Mp 5), ai_ cy (rp 6) 12 (Mp 6), ai_ cy (rp 7) 12 (Mp 7), ai_ cy (rp 8) 12 (Mp 8), ai_ cy (rp 9) 12 (Mp 9), ai_ cy (rp 10) 12 (Mp 10), ai_ cy (rp 11) 12 (Mp 11), ai_ cy wc 12 fc, ai_ cy wf 12 ff, aq_ cy 5 xp 30 (pst pa pm), ob12_0_ mo s0 s1 t2 s3 s4 g5 g6 g7 g8 g9 g10 s11 g12 g13 g14 g15 g16 g17 g18 g19 g20 s21 g22 g23 g24 s25 s26 s27 s28 g29 g30 g31 g32 g33, ai_ cy g5 40 f5, ai_ cy g6 40 f6, ai_ cy g7 40 f7, ai_ cy g8 40 f8, ai_ cy g9 40 f9, az_ cy g10 40 f10, ai_ cy g12 30 f12, ai_ cy g13 30 f13, ai_ cy g14 6000 f14, az_ cy g15 4 f15, ai_ cy g16 4 f16, ai_ cy g17 4 f17, ai_ cy g18 24 f18, aj_ cy g19 120 f19, aj_ cy g20 5 f20, ai_ cy g22 40 f22, ai_ cy g23 12 f23, ai_ cy g24 12 f24, aj_ cy g29 12 f29, ai_ cy g30 12 f30, ai_ cy g31 12 f31, ai_ cy g32 12 f32, ai_ cy g33 12 f33, ob11_0_ xo xk xn xc xh xt xw xm xp pf ph tr efi_11, aq_ cy 4 xm 4 (mf_ m0 m1 m2 m3), ob4_0_ m0 mk0 mr0 l0 u0, ob4_0_ m1 mk1 mr1 l1 u1, ob4_0_ m2 mk2 mr2 l2 u2, ob4_0_ m3 mk3 mr3 l3 u3, ai_ cy l0 6 efl0_12, ai_ cy l1 6 efl1_13, ai_ cy l2 6 efl2_14, ai_ cy l3 6 efl3_15, aj_ cy u0 30 efn0_16, aj_ cy u1 30 efn1_17, aj_ cy u2 30 efn2_18, aj_ cy u3 30 efn3_19] : va_W) ++ (pool cy pa pv pg pm)) hP hD (fun hP hD => ?_)
  have hw_r_10 := hw
  refine lv_pop hx hb dB_law_45.2.1.2.1 rfl ?_
  refine lv_aload_n hx hb dB_law_45.2.1.2.2 rfl (lv_at hl 1 rfl) ?_
  refine lv_aload_n hx hb dB_law_45.2.2.1.1 rfl (lv_at hl 3 rfl) ?_
  refine lv_iload_n hx hb dB_law_45.2.2.1.2 rfl (lv_at hl 0 rfl) ?_
  refine lv_iconst (v := 1) hx hb dB_law_45.2.2.2.1 (by decide) ?_
  refine lv_iadd hx hb dB_law_45.2.2.2.2 ?_
  refine lv_topi (fun y_26 ey_26 => ?_)
  have e_ := (ey_26.trans ey_1.symm).symm
  subst e_
  refine va_sld hx hb hX hbl hbA hS (i := y_1) h_2 dB_law_46.1.1.1.1 ?_
  refine lv_topi (fun y_28 ey_28 => ?_)
  have e_ := (ey_28.trans ey_3.symm).symm
  subst e_
  refine lv_aload_n hx hb dB_law_46.1.1.1.2 rfl (lv_at hl 3 rfl) ?_
  refine lv_iload_n hx hb dB_law_46.1.1.2.1 rfl (lv_at hl 0 rfl) ?_
  refine lv_iconst (v := 2) hx hb dB_law_46.1.1.2.2 (by decide) ?_
  refine lv_iadd hx hb dB_law_46.1.2.1.1 ?_
  refine lv_topi (fun y_29 ey_29 => ?_)
  have e_ := (ey_29.trans ey_4.symm).symm
  subst e_
  refine va_sld hx hb hX hbl hbA hS (i := y_4) h_5 dB_law_46.1.2.1.2 ?_
  refine lv_topi (fun y_31 ey_31 => ?_)
  have e_ := (ey_31.trans ey_6.symm).symm
  subst e_
  refine lv_aload_n hx hb dB_law_46.1.2.2.1 rfl (lv_at hl 3 rfl) ?_
  refine lv_iload_n hx hb dB_law_46.1.2.2.2 rfl (lv_at hl 0 rfl) ?_
  refine lv_iconst (v := 3) hx hb dB_law_46.2.1.1.1 (by decide) ?_
  refine lv_iadd hx hb dB_law_46.2.1.1.2 ?_
  refine lv_topi (fun y_32 ey_32 => ?_)
  have e_ := (ey_32.trans ey_7.symm).symm
  subst e_
  refine va_sld hx hb hX hbl hbA hS (i := y_7) h_8 dB_law_46.2.1.2.1 ?_
  refine lv_topi (fun y_34 ey_34 => ?_)
  have e_ := (ey_34.trans ey_9.symm).symm
  subst e_
  have hPx := pp_left hP
  have hDx := dd_left hD
  refine ct_S hPx hDx hS hA [ob12_0_ mo s0 s1 t2 s3 s4 g5 g6 g7 g8 g9 g10 s11 g12 g13 g14 g15 g16 g17 g18 g19 g20 s21 g22 g23 g24 s25 s26 s27 s28 g29 g30 g31 g32 g33, az_ cy g15 4 f15, ai_ cy g17 4 f17, ai_ cy g18 24 f18, aj_ cy g19 120 f19] [65, 75, 77, 78, 79] (by decide) rfl (fun hPc hDw hFc hC_ => ?_)
  refine va_calli (va_runV (As := [.int y_3, .int y_6, .int y_9]) (rest := []) ⟨hx, hb, hml, hown, hts⟩ (c_X12_row2 l D cy H.size mo g5 g6 g7 g8 g9 g10 g12 g13 g14 g15 g16 g17 g18 g19 g20 g22 g23 g24 g29 g30 g31 g32 g33 s0 s1 s3 s4 s11 s21 s25 s26 s27 s28 t2 f15 f17 f18 f19 y_3 y_6 y_9 (by first | with_reducible assumption | assumption | omega) (by first | with_reducible assumption | assumption | omega) (by first | with_reducible assumption | assumption | omega)) (cwV 3 hts lg_X12_row rfl rfl rfl ⟨rfl, hd_X12_row⟩ ⟨Nat.le_of_ble_eq_true rfl, Nat.le_of_ble_eq_true rfl⟩) ⟨bl_, va_recvX hK.1 hPx (ci := 12) (q0 := 65) rfl rfl, fun U hU hW => ⟨rfl, by rw [hU], by rw [hU]; exact hPc, kk_mv hW hK, hDw⟩⟩ rfl rfl hl.1 rfl (lv_room (Nat.le_of_ble_eq_true rfl)) dB_law_46.2.1.2.2 ⟨(by show _ ≤ 600000; omega), (by show _ ≤ 7302250; omega)⟩) hS (fun q _ h => hFc q h) hFc (fun r_35 u t H locs ht hvm hw hB hz1 hk1 hS => ?_)
  obtain ⟨n1_36, e18_37, e19_38, g_39, g_40, g_41, g_42, hP1, hD1⟩ := hB
  rw [ht] at hP1
  obtain ⟨hP, hD⟩ := va_joinQ (wr := [ob3_0_ xn vp vn n1 n2 n3 n4 n5, ai_ cy n1 40 fk, ai_ cy n2 40 fs, ai_ cy n3 40 fe, ai_ cy n4 40 fw, ai_ cy n5 40 fp, aq_ cy 3 xk 5 (kf_ k0 k1 k2 k3 k4), ob6_0_ k0, ob5_0_ k1, ob9_0_ k2, ob2_0_ k3, ob8_0_ k4, ob0_0_ xc xn xk clo cro c4 c5 c6 c7 c8, aq_ cy 6 clo 12 (gf_ rl), ai_ cy (rl 0) 12 (Ml 0), ai_ cy (rl 1) 12 (Ml 1), ai_ cy (rl 2) 12 (Ml 2), ai_ cy (rl 3) 12 (Ml 3), ai_ cy (rl 4) 12 (Ml 4), ai_ cy (rl 5) 12 (Ml 5), ai_ cy (rl 6) 12 (Ml 6), ai_ cy (rl 7) 12 (Ml 7), ai_ cy (rl 8) 12 (Ml 8), ai_ cy (rl 9) 12 (Ml 9), ai_ cy (rl 10) 12 (Ml 10), ai_ cy (rl 11) 12 (Ml 11), aq_ cy 6 cro 12 (gf_ rr), ai_ cy (rr 0) 12 (Mr 0), ai_ cy (rr 1) 12 (Mr 1), ai_ cy (rr 2) 12 (Mr 2), ai_ cy (rr 3) 12 (Mr 3), ai_ cy (rr 4) 12 (Mr 4), ai_ cy (rr 5) 12 (Mr 5), ai_ cy (rr 6) 12 (Mr 6), ai_ cy (rr 7) 12 (Mr 7), ai_ cy (rr 8) 12 (Mr 8), ai_ cy (rr 9) 12 (Mr 9), ai_ cy (rr 10) 12 (Mr 10), ai_ cy (rr 11) 12 (Mr 11), ai_ cy c4 40 w4, ai_ cy c5 40 w5, ai_ cy c6 40 w6, ai_ cy c7 12 w7, ai_ cy c8 12 w8, ob7_0_ xh xc hu1 hu2 hu3 hu4 hu5 hu6 hu7 hu8, ob1_0_ xt xc ta tb, ai_ cy ta 12 fx, ai_ cy tb 12 fu, ob10_0_ xw xc xk wpo wc wf, aq_ cy 6 wpo 12 (gf_ rp), ai_ cy (rp 0) 12 (Mp 0), ai_ cy (rp 1) 12 (Mp 1), ai_ cy (rp 2) 12 (Mp 2), ai_ cy (rp 3) 12 (Mp 3), ai_ cy (rp 4) 12 (Mp 4), ai_ cy (rp 5) 12 (Mp 5), ai_ cy (rp 6) 12 (Mp 6), ai_ cy (rp 7) 12 (Mp 7), ai_ cy (rp 8) 12 (Mp 8), ai_ cy (rp 9) 12 (Mp 9), ai_ cy (rp 10) 12 (Mp 10), ai_ cy (rp 11) 12 (Mp 11), ai_ cy wc 12 fc, ai_ cy wf 12 ff, aq_ cy 5 xp 30 (pst pa pm), ai_ cy g5 40 f5, ai_ cy g6 40 f6, ai_ cy g7 40 f7, ai_ cy g8 40 f8, ai_ cy g9 40 f9, az_ cy g10 40 f10, ai_ cy g12 30 f12, ai_ cy g13 30 f13, ai_ cy g14 6000 f14, ai_ cy g16 4 f16, aj_ cy g20 5 f20, ai_ cy g22 40 f22, ai_ cy g23 12 f23, ai_ cy g24 12 f24, aj_ cy g29 12 f29, ai_ cy g30 12 f30, ai_ cy g31 12 f31, ai_ cy g32 12 f32, ai_ cy g33 12 f33, ob11_0_ xo xk xn xc xh xt xw xm xp pf ph tr efi_11, aq_ cy 4 xm 4 (mf_ m0 m1 m2 m3), ob4_0_ m0 mk0 mr0 l0 u0, ob4_0_ m1 mk1 mr1 l1 u1, ob4_0_ m2 mk2 mr2 l2 u2, ob4_0_ m3 mk3 mr3 l3 u3, ai_ cy l0 6 efl0_12, ai_ cy l1 6 efl1_13, ai_ cy l2 6 efl2_14, ai_ cy l3 6 efl3_15, aj_ cy u0 30 efn0_16, aj_ cy u1 30 efn1_17, aj_ cy u2 30 efn2_18, aj_ cy u3 30 efn3_19]) (w1 := [ob12_0_ mo 0 n1_36 t2 s3 s4 g5 g6 g7 g8 g9 g10 s11 g12 g13 g14 g15 g16 g17 g18 g19 g20 s21 g22 g23 g24 s25 s26 s27 s28 g29 g30 g31 g32 g33, az_ cy g15 4 f15, ai_ cy g17 4 f17, ai_ cy g18 24 e18_37, aj_ cy g19 120 e19_38]) hP hD [65, 75, 77, 78, 79] [0, 1, 2, 3, 4, 5, 6, 7, 8, 9, 10, 11, 12, 13, 14, 15, 16, 17, 18, 19, 20, 21, 22, 23, 24, 25, 26, 27, 28, 29, 30, 31, 32, 33, 34, 35, 36, 37, 38, 39, 40, 41, 42, 43, 44, 45, 46, 47, 48, 49, 50, 51, 52, 53, 54, 55, 56, 57, 58, 59, 60, 61, 62, 63, 64, 66, 67, 68, 69, 70, 71, 72, 73, 74, 76, 80, 81, 82, 83, 84, 85, 86, 87, 88, 89, 90, 91, 92, 93, 94, 95, 96, 97, 98, 99, 100, 101, 102] hC_ rfl (by decide +kernel) (by decide +kernel) hk1 hFc hP1 hD1
  refine pd_K (([ob3_0_ xn vp vn n1 n2 n3 n4 n5, ai_ cy n1 40 fk, ai_ cy n2 40 fs, ai_ cy n3 40 fe, ai_ cy n4 40 fw, ai_ cy n5 40 fp, aq_ cy 3 xk 5 (kf_ k0 k1 k2 k3 k4), ob6_0_ k0, ob5_0_ k1, ob9_0_ k2, ob2_0_ k3, ob8_0_ k4, ob0_0_ xc xn xk clo cro c4 c5 c6 c7 c8, aq_ cy 6 clo 12 (gf_ rl), ai_ cy (rl 0) 12 (Ml 0), ai_ cy (rl 1) 12 (Ml 1), ai_ cy (rl 2) 12 (Ml 2), ai_ cy (rl 3) 12 (Ml 3), ai_ cy (rl 4) 12 (Ml 4), ai_ cy (rl 5) 12 (Ml 5), ai_ cy (rl 6) 12 (Ml 6), ai_ cy (rl 7) 12 (Ml 7), ai_ cy (rl 8) 12 (Ml 8), ai_ cy (rl 9) 12 (Ml 9), ai_ cy (rl 10) 12 (Ml 10), ai_ cy (rl 11) 12 (Ml 11), aq_ cy 6 cro 12 (gf_ rr), ai_ cy (rr 0) 12 (Mr 0), ai_ cy (rr 1) 12 (Mr 1), ai_ cy (rr 2) 12 (Mr 2), ai_ cy (rr 3) 12 (Mr 3), ai_ cy (rr 4) 12 (Mr 4), ai_ cy (rr 5) 12 (Mr 5), ai_ cy (rr 6) 12 (Mr 6), ai_ cy (rr 7) 12 (Mr 7), ai_ cy (rr 8) 12 (Mr 8), ai_ cy (rr 9) 12 (Mr 9), ai_ cy (rr 10) 12 (Mr 10), ai_ cy (rr 11) 12 (Mr 11), ai_ cy c4 40 w4, ai_ cy c5 40 w5, ai_ cy c6 40 w6, ai_ cy c7 12 w7, ai_ cy c8 12 w8, ob7_0_ xh xc hu1 hu2 hu3 hu4 hu5 hu6 hu7 hu8, ob1_0_ xt xc ta tb, ai_ cy ta 12 fx, ai_ cy tb 12 fu, ob10_0_ xw xc xk wpo wc wf, aq_ cy 6 wpo 12 (gf_ rp), ai_ cy (rp 0) 12 (Mp 0), ai_ cy (rp 1) 12 (Mp 1), ai_ cy (rp 2) 12 (Mp 2), ai_ cy (rp 3) 12 (Mp 3), ai_ cy (rp 4) 12 (Mp 4), ai_ cy (rp 5) 12 (Mp 5), ai_ cy (rp 6) 12 (Mp 6), ai_ cy (rp 7) 12 (Mp 7), ai_ cy (rp 8) 12 (Mp 8), ai_ cy (rp 9) 12 (Mp 9), ai_ cy (rp 10) 12 (Mp 10), ai_ cy (rp 11) 12 (Mp 11), ai_ cy wc 12 fc, ai_ cy wf 12 ff, aq_ cy 5 xp 30 (pst pa pm), ai_ cy g5 40 f5, ai_ cy g6 40 f6, ai_ cy g7 40 f7, ai_ cy g8 40 f8, ai_ cy g9 40 f9, az_ cy g10 40 f10, ai_ cy g12 30 f12, ai_ cy g13 30 f13, ai_ cy g14 6000 f14, ai_ cy g16 4 f16, aj_ cy g20 5 f20, ai_ cy g22 40 f22, ai_ cy g23 12 f23, ai_ cy g24 12 f24, aj_ cy g29 12 f29, ai_ cy g30 12 f30, ai_ cy g31 12 f31, ai_ cy g32 12 f32, ai_ cy g33 12 f33, ob11_0_ xo xk xn xc xh xt xw xm xp pf ph tr efi_11, aq_ cy 4 xm 4 (mf_ m0 m1 m2 m3), ob4_0_ m0 mk0 mr0 l0 u0, ob4_0_ m1 mk1 mr1 l1 u1, ob4_0_ m2 mk2 mr2 l2 u2, ob4_0_ m3 mk3 mr3 l3 u3, ai_ cy l0 6 efl0_12, ai_ cy l1 6 efl1_13, ai_ cy l2 6 efl2_14, ai_ cy l3 6 efl3_15, aj_ cy u0 30 efn0_16, aj_ cy u1 30 efn1_17, aj_ cy u2 30 efn2_18, aj_ cy u3 30 efn3_19, ob12_0_ mo 0 n1_36 t2 s3 s4 g5 g6 g7 g8 g9 g10 s11 g12 g13 g14 g15 g16 g17 g18 g19 g20 s21 g22 g23 g24 s25 s26 s27 s28 g29 g30 g31 g32 g33, az_ cy g15 4 f15, ai_ cy g17 4 f17, ai_ cy g18 24 e18_37, aj_ cy g19 120 e19_38] : va_W) ++ (pool cy pa pv pg pm)) hP hD (fun hP hD => ?_)
  have hw_r_35 := hw
  refine lv_pop hx hb dB_law_46.2.2.1.1 rfl ?_
  refine lv_goto (tgt := 1333) hx hb dB_law_46.2.2.1.2 (by decide) ?_
  have hmr2_ := mrel_row hmr h6_ g_20 g_21 g_39 g_40
  have hst2_ := Int32.toInt_inj.mp (g_20.trans ((row_same hmr).trans g_39.symm))
  refine pd_P hP hD [ob11_0_ xo xk xn xc xh xt xw xm xp pf ph tr efi_11, ob3_0_ xn vp vn n1 n2 n3 n4 n5, ai_ cy n1 40 fk, ai_ cy n2 40 fs, ai_ cy n3 40 fe, ai_ cy n4 40 fw, ai_ cy n5 40 fp, aq_ cy 3 xk 5 (kf_ k0 k1 k2 k3 k4), ob6_0_ k0, ob5_0_ k1, ob9_0_ k2, ob2_0_ k3, ob8_0_ k4, ob0_0_ xc xn xk clo cro c4 c5 c6 c7 c8, aq_ cy 6 clo 12 (gf_ rl), ai_ cy (rl 0) 12 (Ml 0), ai_ cy (rl 1) 12 (Ml 1), ai_ cy (rl 2) 12 (Ml 2), ai_ cy (rl 3) 12 (Ml 3), ai_ cy (rl 4) 12 (Ml 4), ai_ cy (rl 5) 12 (Ml 5), ai_ cy (rl 6) 12 (Ml 6), ai_ cy (rl 7) 12 (Ml 7), ai_ cy (rl 8) 12 (Ml 8), ai_ cy (rl 9) 12 (Ml 9), ai_ cy (rl 10) 12 (Ml 10), ai_ cy (rl 11) 12 (Ml 11), aq_ cy 6 cro 12 (gf_ rr), ai_ cy (rr 0) 12 (Mr 0), ai_ cy (rr 1) 12 (Mr 1), ai_ cy (rr 2) 12 (Mr 2), ai_ cy (rr 3) 12 (Mr 3), ai_ cy (rr 4) 12 (Mr 4), ai_ cy (rr 5) 12 (Mr 5), ai_ cy (rr 6) 12 (Mr 6), ai_ cy (rr 7) 12 (Mr 7), ai_ cy (rr 8) 12 (Mr 8), ai_ cy (rr 9) 12 (Mr 9), ai_ cy (rr 10) 12 (Mr 10), ai_ cy (rr 11) 12 (Mr 11), ai_ cy c4 40 w4, ai_ cy c5 40 w5, ai_ cy c6 40 w6, ai_ cy c7 12 w7, ai_ cy c8 12 w8, ob7_0_ xh xc hu1 hu2 hu3 hu4 hu5 hu6 hu7 hu8, ob1_0_ xt xc ta tb, ai_ cy ta 12 fx, ai_ cy tb 12 fu, ob10_0_ xw xc xk wpo wc wf, aq_ cy 6 wpo 12 (gf_ rp), ai_ cy (rp 0) 12 (Mp 0), ai_ cy (rp 1) 12 (Mp 1), ai_ cy (rp 2) 12 (Mp 2), ai_ cy (rp 3) 12 (Mp 3), ai_ cy (rp 4) 12 (Mp 4), ai_ cy (rp 5) 12 (Mp 5), ai_ cy (rp 6) 12 (Mp 6), ai_ cy (rp 7) 12 (Mp 7), ai_ cy (rp 8) 12 (Mp 8), ai_ cy (rp 9) 12 (Mp 9), ai_ cy (rp 10) 12 (Mp 10), ai_ cy (rp 11) 12 (Mp 11), ai_ cy wc 12 fc, ai_ cy wf 12 ff, aq_ cy 4 xm 4 (mf_ m0 m1 m2 m3), ob4_0_ m0 mk0 mr0 l0 u0, ob4_0_ m1 mk1 mr1 l1 u1, ob4_0_ m2 mk2 mr2 l2 u2, ob4_0_ m3 mk3 mr3 l3 u3, ai_ cy l0 6 efl0_12, ai_ cy l1 6 efl1_13, ai_ cy l2 6 efl2_14, ai_ cy l3 6 efl3_15, aj_ cy u0 30 efn0_16, aj_ cy u1 30 efn1_17, aj_ cy u2 30 efn2_18, aj_ cy u3 30 efn3_19, aq_ cy 5 xp 30 (pst pa pm), ob12_0_ mo 0 n1_36 t2 s3 s4 g5 g6 g7 g8 g9 g10 s11 g12 g13 g14 g15 g16 g17 g18 g19 g20 s21 g22 g23 g24 s25 s26 s27 s28 g29 g30 g31 g32 g33, ai_ cy g5 40 f5, ai_ cy g6 40 f6, ai_ cy g7 40 f7, ai_ cy g8 40 f8, ai_ cy g9 40 f9, az_ cy g10 40 f10, ai_ cy g12 30 f12, ai_ cy g13 30 f13, ai_ cy g14 6000 f14, az_ cy g15 4 f15, ai_ cy g16 4 f16, ai_ cy g17 4 f17, ai_ cy g18 24 e18_37, aj_ cy g19 120 e19_38, aj_ cy g20 5 f20, ai_ cy g22 40 f22, ai_ cy g23 12 f23, ai_ cy g24 12 f24, aj_ cy g29 12 f29, ai_ cy g30 12 f30, ai_ cy g31 12 f31, ai_ cy g32 12 f32, ai_ cy g33 12 f33] [84, 0, 1, 2, 3, 4, 5, 6, 7, 8, 9, 10, 11, 12, 13, 14, 15, 16, 17, 18, 19, 20, 21, 22, 23, 24, 25, 26, 27, 28, 29, 30, 31, 32, 33, 34, 35, 36, 37, 38, 39, 40, 41, 42, 43, 44, 45, 46, 47, 48, 49, 50, 51, 52, 53, 54, 55, 56, 57, 58, 59, 60, 61, 62, 63, 85, 86, 87, 88, 89, 90, 91, 92, 93, 94, 95, 96, 97, 64, 98, 65, 66, 67, 68, 69, 70, 71, 72, 73, 99, 74, 100, 101, 102, 75, 76, 77, 78, 79, 80, 81, 82, 83] (by decide +kernel) rfl (fun hP hD => ?_)
  refine W.widen (k := cells + 6) (n := slots + 207) (by omega) (by omega) ?_
  exact cont xk xn xc xh xt xw xm xp n1 n2 n3 n4 n5 k0 k1 k2 k3 k4 clo cro c4 c5 c6 c7 c8 ta tb wpo wc wf m0 l0 u0 m1 l1 u1 m2 l2 u2 m3 l3 u3 g5 g6 g7 g8 g9 g10 g12 g13 g14 g15 g16 g17 g18 g19 g20 g22 g23 g24 g29 g30 g31 g32 g33 rl rr rp Ml Mr Mp pf ph efi_11 vp vn hu1 hu2 hu3 hu4 hu5 hu6 hu7 hu8 mk0 mk1 mk2 mk3 mr0 mr1 mr2 mr3 (0 : Int32) n1_36 s3 s4 s11 s21 s25 s26 s27 s28 tr t2 fk fs fe fw fp w4 w5 w6 w7 w8 fx fu fc ff efl0_12 efl1_13 efl2_14 efl3_15 efn0_16 efn1_17 efn2_18 efn3_19 f5 f6 f7 f8 f9 f10 f12 f13 f14 f15 f16 f17 e18_37 e19_38 f20 f22 f23 f24 f29 f30 f31 f32 f33 pa pv pg pm H locs ls hP hD (by first | with_reducible assumption | assumption | omega) (by first | with_reducible assumption | assumption | omega) (by first | with_reducible assumption | assumption | omega) (by first | with_reducible assumption | assumption | exact (show nok vp vn fk fs fe fw fp by assumption).2.2.2.1) (by first | with_reducible assumption | assumption | exact (show nok vp vn fk fs fe fw fp by assumption).2.2.1) (by first | with_reducible assumption | assumption | exact (show nok vp vn fk fs fe fw fp by assumption).2.2.2.2.1) (by first | with_reducible assumption | assumption | exact (show nok vp vn fk fs fe fw fp by assumption).2.2.2.2.2) (by first | with_reducible assumption | assumption | omega) (by first | with_reducible assumption | assumption | omega) (by first | with_reducible assumption | assumption | omega) (by first | with_reducible assumption | assumption | omega) (by first | with_reducible assumption | assumption | omega) (by first | with_reducible assumption | assumption | omega) (by first | with_reducible assumption | assumption | omega) (by first | with_reducible assumption | assumption | omega) (by first | with_reducible assumption | assumption | omega) (by first | with_reducible assumption | assumption | omega) (by first | with_reducible assumption | assumption | omega) (by first | with_reducible assumption | assumption | omega) (by first | with_reducible assumption | assumption | omega) (by first | with_reducible assumption | assumption | omega) (by first | with_reducible assumption | assumption | omega) (by first | with_reducible assumption | assumption | omega) (by first | with_reducible assumption | assumption | omega) (by first | with_reducible assumption | assumption | omega) (by first | with_reducible assumption | assumption | omega) (by first | with_reducible assumption | assumption | omega) (by first | with_reducible assumption | assumption | omega) (by first | with_reducible assumption | assumption | omega) (by first | with_reducible assumption | assumption | omega) (by first | with_reducible assumption | assumption | omega) (by first | with_reducible assumption | assumption | omega) (by first | with_reducible assumption | assumption | omega) (by first | with_reducible assumption | assumption | omega) (by first | with_reducible assumption | assumption | omega) (by first | with_reducible assumption | assumption | omega) (by first | with_reducible assumption | assumption | omega) (by first | with_reducible assumption | assumption | omega) (by first | with_reducible assumption | assumption | omega) (hmr2_) (by first | with_reducible assumption | assumption | omega) (by first | with_reducible assumption | assumption | omega) (hst2_) hS (lv_sub hl [0, 1, 2, 3] rfl)

set_option maxHeartbeats 8000000 in
set_option maxRecDepth 100000 in
theorem law_26 {p : Program} {e : Env} {s : State} {m : MethodId} {below : List Frame} {meth : Method} {c : Code} (l : Launch) {b L : Nat} {xs : Nat → Int32} (C0 : lw_At p s m meth c b L xs) {D : va_G} {cy : Nat → ClassId} (hK : kk_ D cy s) (hG : ArrOfT s (cy 6) (.array .int)) {xo mo : Nat} {i : Int32} {cells slots : Nat} (hi0 : 0 ≤ i.toInt) (hiL : i.toInt + 7 ≤ L) (hL : L ≤ 3584) (hcc : cells ≤ 500000) (hss : slots ≤ 7000000) (cont : lawQ p l e s m below meth c b D cy xo mo i 1333 (cells + 6) (slots + 207)) : lawQ p l e s m below meth c b D cy xo mo i 1038 cells slots := by
  have hfe : (600000 : Nat) = 600000 := rfl
  obtain ⟨hx, hb, hr, hml, hown, hts, hX, hbl, hlocks, hgv⟩ := id C0
  have hown : s.vm.findClass RL = some m.cls := hown
  have hA : ∀ q : Nat, s.heap.size ≤ q → (fun q : Nat => s.heap.size ≤ q) q := fun _ h => h
  have hbA : ¬ (fun q : Nat => s.heap.size ≤ q) b := Nat.not_le.mpr hbl
  have z0 : (0 : Int32).toInt = 0 := by decide
  have z1 : (1 : Int32).toInt = 1 := by decide
  have z2 : (2 : Int32).toInt = 2 := by decide
  have z3 : (3 : Int32).toInt = 3 := by decide
  have z4 : (4 : Int32).toInt = 4 := by decide
  have z5 : (5 : Int32).toInt = 5 := by decide
  have z6 : (6 : Int32).toInt = 6 := by decide
  intro xk xn xc xh xt xw xm xp n1 n2 n3 n4 n5 k0 k1 k2 k3 k4 clo cro c4 c5 c6 c7 c8 ta tb wpo wc wf m0 l0 u0 m1 l1 u1 m2 l2 u2 m3 l3 u3 g5 g6 g7 g8 g9 g10 g12 g13 g14 g15 g16 g17 g18 g19 g20 g22 g23 g24 g29 g30 g31 g32 g33 rl rr rp Ml Mr Mp pf ph fi vp vn hu1 hu2 hu3 hu4 hu5 hu6 hu7 hu8 mk0 mk1 mk2 mk3 mr0 mr1 mr2 mr3 s0 s1 s3 s4 s11 s21 s25 s26 s27 s28 tr t2 fk fs fe fw fp w4 w5 w6 w7 w8 fx fu fc ff fl0 fl1 fl2 fl3 fn0 fn1 fn2 fn3 f5 f6 f7 f8 f9 f10 f12 f13 f14 f15 f16 f17 f18 f19 f20 f22 f23 f24 f29 f30 f31 f32 f33 pa pv pg pm H locs ls hP hD hnk hpk hrk hpr r_fk r_fw r_fp hmr0 hmr1 hmr2 hmr3 r_fl0 r_fl1 r_fl2 r_fl3 r_w7 r_w8 r_ff hN hPl hU h21 hnet hpast r_f6 r_f7 r_f8 r_f9 r_f12 r_f13 r_f17 r_f18 r_f23 r_f24 r_f30 r_f31 r_f32 r_f14 hlk hmr hnr hpl hst hS hl
  have hvp := hnk.1
  have hvn := hnk.2.1
  have h21i : s21.toInt = -9 := by rw [h21]; decide
  have h6_ : ∀ q : Nat, q < 4 → ((f4_ mr0 mr1 mr2 mr3) q).toInt ≤ 6 := f4_all (by omega) (by omega) (by omega) (by omega)
  have h5_ : ∀ q p : Nat, q < 4 → p < 6 → ((f4_ fl0 fl1 fl2 fl3) q p).toInt ≤ 5 := f4_rng r_fl0 r_fl1 r_fl2 r_fl3
  refine lv_aload_n hx hb dB_law_46.2.2.2.1 rfl (lv_at hl 2 rfl) ?_
  refine lv_aload_n hx hb dB_law_46.2.2.2.2 rfl (lv_at hl 3 rfl) ?_
  refine lv_iload_n hx hb dB_law_47.1.1.1.1 rfl (lv_at hl 0 rfl) ?_
  refine lv_iconst (v := 1) hx hb dB_law_47.1.1.1.2 (by decide) ?_
  refine lv_iadd hx hb dB_law_47.1.1.2.1 ?_
  refine lv_topi (fun y_1 ey_1 => ?_)
  have ty_1 : y_1.toInt = i.toInt + (1 : Int32).toInt := by rw [ey_1]; exact addI (by omega) (by omega)
  have h_2 : vp_in y_1 L := in_I (by omega) (by omega)
  refine va_sld hx hb hX hbl hbA hS (i := y_1) h_2 dB_law_47.1.1.2.2 ?_
  refine lv_topi (fun y_3 ey_3 => ?_)
  refine lv_aload_n hx hb dB_law_47.1.2.1.1 rfl (lv_at hl 3 rfl) ?_
  refine lv_iload_n hx hb dB_law_47.1.2.1.2 rfl (lv_at hl 0 rfl) ?_
  refine lv_iconst (v := 2) hx hb dB_law_47.1.2.2.1 (by decide) ?_
  refine lv_iadd hx hb dB_law_47.1.2.2.2 ?_
  refine lv_topi (fun y_4 ey_4 => ?_)
  have ty_4 : y_4.toInt = i.toInt + (2 : Int32).toInt := by rw [ey_4]; exact addI (by omega) (by omega)
  have h_5 : vp_in y_4 L := in_I (by omega) (by omega)
  refine va_sld hx hb hX hbl hbA hS (i := y_4) h_5 dB_law_47.2.1.1.1 ?_
  refine lv_topi (fun y_6 ey_6 => ?_)
  refine lv_aload_n hx hb dB_law_47.2.1.1.2 rfl (lv_at hl 3 rfl) ?_
  refine lv_iload_n hx hb dB_law_47.2.1.2.1 rfl (lv_at hl 0 rfl) ?_
  refine lv_iconst (v := 3) hx hb dB_law_47.2.1.2.2 (by decide) ?_
  refine lv_iadd hx hb dB_law_47.2.2.1.1 ?_
  refine lv_topi (fun y_7 ey_7 => ?_)
  have ty_7 : y_7.toInt = i.toInt + (3 : Int32).toInt := by rw [ey_7]; exact addI (by omega) (by omega)
  have h_8 : vp_in y_7 L := in_I (by omega) (by omega)
  refine va_sld hx hb hX hbl hbA hS (i := y_7) h_8 dB_law_47.2.2.1.2 ?_
  refine lv_topi (fun y_9 ey_9 => ?_)
  refine lv_aload_n hx hb dB_law_47.2.2.2.1 rfl (lv_at hl 3 rfl) ?_
  refine lv_iload_n hx hb dB_law_47.2.2.2.2 rfl (lv_at hl 0 rfl) ?_
  refine lv_iconst (v := 4) hx hb dB_law_48.1.1.1.1 (by decide) ?_
  refine lv_iadd hx hb dB_law_48.1.1.1.2 ?_
  refine lv_topi (fun y_10 ey_10 => ?_)
  have ty_10 : y_10.toInt = i.toInt + (4 : Int32).toInt := by rw [ey_10]; exact addI (by omega) (by omega)
  have h_11 : vp_in y_10 L := in_I (by omega) (by omega)
  refine va_sld hx hb hX hbl hbA hS (i := y_10) h_11 dB_law_48.1.1.2.1 ?_
  refine lv_topi (fun y_12 ey_12 => ?_)
  refine lv_aload_n hx hb dB_law_48.1.1.2.2 rfl (lv_at hl 3 rfl) ?_
  refine lv_iload_n hx hb dB_law_48.1.2.1.1 rfl (lv_at hl 0 rfl) ?_
  refine lv_iconst (v := 5) hx hb dB_law_48.1.2.1.2 (by decide) ?_
  refine lv_iadd hx hb dB_law_48.1.2.2.1 ?_
  refine lv_topi (fun y_13 ey_13 => ?_)
  have ty_13 : y_13.toInt = i.toInt + (5 : Int32).toInt := by rw [ey_13]; exact addI (by omega) (by omega)
  have h_14 : vp_in y_13 L := in_I (by omega) (by omega)
  refine va_sld hx hb hX hbl hbA hS (i := y_13) h_14 dB_law_48.1.2.2.2 ?_
  refine lv_topi (fun y_15 ey_15 => ?_)
  refine lv_i2l (v := y_15.toInt64) hx hb dB_law_48.2.1.1.1 rfl ?_
  have q_1064 : (y_15.toInt64).toInt = y_15.toInt := Int32.toInt_toInt64 y_15
  refine lv_bipush (v := 32) hx hb dB_law_48.2.1.1.2 (by decide) ?_
  refine lv_lshl hx hb dB_law_48.2.1.2.1 rfl ?_
  refine lv_topl (fun y_16 ey_16 => ?_)
  refine lv_aload_n hx hb dB_law_48.2.1.2.2 rfl (lv_at hl 3 rfl) ?_
  refine lv_iload_n hx hb dB_law_48.2.2.1.1 rfl (lv_at hl 0 rfl) ?_
  refine lv_bipush (v := 6) hx hb dB_law_48.2.2.1.2 (by decide) ?_
  refine lv_iadd hx hb dB_law_48.2.2.2.1 ?_
  refine lv_topi (fun y_17 ey_17 => ?_)
  have ty_17 : y_17.toInt = i.toInt + (6 : Int32).toInt := by rw [ey_17]; exact addI (by omega) (by omega)
  have h_18 : vp_in y_17 L := in_I (by omega) (by omega)
  refine va_sld hx hb hX hbl hbA hS (i := y_17) h_18 dB_law_48.2.2.2.2 ?_
  refine lv_topi (fun y_19 ey_19 => ?_)
  refine lv_i2l (v := y_19.toInt64) hx hb dB_law_49.1.1.1.1 rfl ?_
  have q_1074 : (y_19.toInt64).toInt = y_19.toInt := Int32.toInt_toInt64 y_19
  refine lv_ldc2 (v := 4294967295) hx hb hown (hts (.constantLong RL 122 (4294967295)) kw_1081) dB_law_49.1.1.1.2 ?_
  refine lv_land hx hb dB_law_49.1.1.2.1 ?_
  refine lv_topl (fun y_20 ey_20 => ?_)
  refine lv_lor hx hb dB_law_49.1.1.2.2 ?_
  refine lv_topl (fun y_21 ey_21 => ?_)
  have hPx := pp_left hP
  have hDx := dd_left hD
  refine ct_S hPx hDx hS hA [ob11_0_ xo xk xn xc xh xt xw xm xp pf ph tr fi, aq_ cy 4 xm 4 (mf_ m0 m1 m2 m3), ob4_0_ m0 mk0 mr0 l0 u0, ob4_0_ m1 mk1 mr1 l1 u1, ob4_0_ m2 mk2 mr2 l2 u2, ob4_0_ m3 mk3 mr3 l3 u3, ai_ cy l0 6 fl0, ai_ cy l1 6 fl1, ai_ cy l2 6 fl2, ai_ cy l3 6 fl3, aj_ cy u0 30 fn0, aj_ cy u1 30 fn1, aj_ cy u2 30 fn2, aj_ cy u3 30 fn3] [0, 65, 66, 67, 68, 69, 70, 71, 72, 73, 74, 75, 76, 77] (by decide +kernel) rfl (fun hPc hDw hFc hC_ => ?_)
  refine va_calli (va_runV (As := [.int y_3, .int y_6, .int y_9, .int y_12, .long y_21]) (rest := []) ⟨hx, hb, hml, hown, hts⟩ (c_X11_put2 l D cy H.size xo xk xn xc xh xt xw xm xp pf ph tr fi m0 l0 u0 m1 l1 u1 m2 l2 u2 m3 l3 u3 mk0 mr0 mk1 mr1 mk2 mr2 mk3 mr3 fl0 fl1 fl2 fl3 fn0 fn1 fn2 fn3 y_3 y_6 y_9 y_12 y_21 (by first | with_reducible assumption | assumption | omega) (by first | with_reducible assumption | assumption | omega) (by first | with_reducible assumption | assumption | omega) (by first | with_reducible assumption | assumption | omega) (by first | with_reducible assumption | assumption | omega) (by first | with_reducible assumption | assumption | omega) (by first | with_reducible assumption | assumption | omega) (by first | with_reducible assumption | assumption | omega)) (cwV 5 hts lg_X11_put rfl rfl rfl ⟨rfl, hd_X11_put⟩ ⟨Nat.le_of_ble_eq_true rfl, Nat.le_of_ble_eq_true rfl⟩) ⟨bl_, va_recvX hK.1 hPx (ci := 11) (q0 := 0) rfl rfl, fun U hU hW => ⟨rfl, by rw [hU], by rw [hU]; exact hPc, kk_mv hW hK, hDw⟩⟩ rfl rfl hl.1 rfl (lv_room (Nat.le_of_ble_eq_true rfl)) dB_law_49.1.2.1.1 ⟨(by show _ ≤ 600000; omega), (by show _ ≤ 7302250; omega)⟩) hS (fun q _ h => hFc q h) hFc (fun r_22 u t H locs ht hvm hw hB hz1 hk1 hS => ?_)
  obtain ⟨efi_23, efn0_24, efn1_25, efn2_26, efn3_27, g_28, g_29, hP1, hD1⟩ := hB
  rw [ht] at hP1
  obtain ⟨hP, hD⟩ := va_joinQ (wr := [ob3_0_ xn vp vn n1 n2 n3 n4 n5, ai_ cy n1 40 fk, ai_ cy n2 40 fs, ai_ cy n3 40 fe, ai_ cy n4 40 fw, ai_ cy n5 40 fp, aq_ cy 3 xk 5 (kf_ k0 k1 k2 k3 k4), ob6_0_ k0, ob5_0_ k1, ob9_0_ k2, ob2_0_ k3, ob8_0_ k4, ob0_0_ xc xn xk clo cro c4 c5 c6 c7 c8, aq_ cy 6 clo 12 (gf_ rl), ai_ cy (rl 0) 12 (Ml 0), ai_ cy (rl 1) 12 (Ml 1), ai_ cy (rl 2) 12 (Ml 2), ai_ cy (rl 3) 12 (Ml 3), ai_ cy (rl 4) 12 (Ml 4), ai_ cy (rl 5) 12 (Ml 5), ai_ cy (rl 6) 12 (Ml 6), ai_ cy (rl 7) 12 (Ml 7), ai_ cy (rl 8) 12 (Ml 8), ai_ cy (rl 9) 12 (Ml 9), ai_ cy (rl 10) 12 (Ml 10), ai_ cy (rl 11) 12 (Ml 11), aq_ cy 6 cro 12 (gf_ rr), ai_ cy (rr 0) 12 (Mr 0), ai_ cy (rr 1) 12 (Mr 1), ai_ cy (rr 2) 12 (Mr 2), ai_ cy (rr 3) 12 (Mr 3), ai_ cy (rr 4) 12 (Mr 4), ai_ cy (rr 5) 12 (Mr 5), ai_ cy (rr 6) 12 (Mr 6), ai_ cy (rr 7) 12 (Mr 7), ai_ cy (rr 8) 12 (Mr 8), ai_ cy (rr 9) 12 (Mr 9), ai_ cy (rr 10) 12 (Mr 10), ai_ cy (rr 11) 12 (Mr 11), ai_ cy c4 40 w4, ai_ cy c5 40 w5, ai_ cy c6 40 w6, ai_ cy c7 12 w7, ai_ cy c8 12 w8, ob7_0_ xh xc hu1 hu2 hu3 hu4 hu5 hu6 hu7 hu8, ob1_0_ xt xc ta tb, ai_ cy ta 12 fx, ai_ cy tb 12 fu, ob10_0_ xw xc xk wpo wc wf, aq_ cy 6 wpo 12 (gf_ rp), ai_ cy (rp 0) 12 (Mp 0), ai_ cy (rp 1) 12 (Mp 1), ai_ cy (rp 2) 12 (Mp 2), ai_ cy (rp 3) 12 (Mp 3), ai_ cy (rp 4) 12 (Mp 4), ai_ cy (rp 5) 12 (Mp 5), ai_ cy (rp 6) 12 (Mp 6), ai_ cy (rp 7) 12 (Mp 7), ai_ cy (rp 8) 12 (Mp 8), ai_ cy (rp 9) 12 (Mp 9), ai_ cy (rp 10) 12 (Mp 10), ai_ cy (rp 11) 12 (Mp 11), ai_ cy wc 12 fc, ai_ cy wf 12 ff, aq_ cy 5 xp 30 (pst pa pm), ob12_0_ mo s0 s1 t2 s3 s4 g5 g6 g7 g8 g9 g10 s11 g12 g13 g14 g15 g16 g17 g18 g19 g20 s21 g22 g23 g24 s25 s26 s27 s28 g29 g30 g31 g32 g33, ai_ cy g5 40 f5, ai_ cy g6 40 f6, ai_ cy g7 40 f7, ai_ cy g8 40 f8, ai_ cy g9 40 f9, az_ cy g10 40 f10, ai_ cy g12 30 f12, ai_ cy g13 30 f13, ai_ cy g14 6000 f14, az_ cy g15 4 f15, ai_ cy g16 4 f16, ai_ cy g17 4 f17, ai_ cy g18 24 f18, aj_ cy g19 120 f19, aj_ cy g20 5 f20, ai_ cy g22 40 f22, ai_ cy g23 12 f23, ai_ cy g24 12 f24, aj_ cy g29 12 f29, ai_ cy g30 12 f30, ai_ cy g31 12 f31, ai_ cy g32 12 f32, ai_ cy g33 12 f33]) (w1 := [ob11_0_ xo xk xn xc xh xt xw xm xp pf ph tr efi_23, aq_ cy 4 xm 4 (mf_ m0 m1 m2 m3), ob4_0_ m0 mk0 mr0 l0 u0, ob4_0_ m1 mk1 mr1 l1 u1, ob4_0_ m2 mk2 mr2 l2 u2, ob4_0_ m3 mk3 mr3 l3 u3, ai_ cy l0 6 fl0, ai_ cy l1 6 fl1, ai_ cy l2 6 fl2, ai_ cy l3 6 fl3, aj_ cy u0 30 efn0_24, aj_ cy u1 30 efn1_25, aj_ cy u2 30 efn2_26, aj_ cy u3 30 efn3_27]) hP hD [0, 65, 66, 67, 68, 69, 70, 71, 72, 73, 74, 75, 76, 77] [1, 2, 3, 4, 5, 6, 7, 8, 9, 10, 11, 12, 13, 14, 15, 16, 17, 18, 19, 20, 21, 22, 23, 24, 25, 26, 27, 28, 29, 30, 31, 32, 33, 34, 35, 36, 37, 38, 39, 40, 41, 42, 43, 44, 45, 46, 47, 48, 49, 50, 51, 52, 53, 54, 55, 56, 57, 58, 59, 60, 61, 62, 63, 64, 78, 79, 80, 81, 82, 83, 84, 85, 86, 87, 88, 89, 90, 91, 92, 93, 94, 95, 96, 97, 98, 99, 100, 101, 102] hC_ rfl (by decide +kernel) (by decide +kernel) hk1 hFc hP1 hD1
  refine pd_K (([ob3_0_ xn vp vn n1 n2 n3 n4 n5, ai_ cy n1 40 fk, ai_ cy n2 40 fs, ai_ cy n3 40 fe, ai_ cy n4 40 fw, ai_ cy n5 40 fp, aq_ cy 3 xk 5 (kf_ k0 k1 k2 k3 k4), ob6_0_ k0, ob5_0_ k1, ob9_0_ k2, ob2_0_ k3, ob8_0_ k4, ob0_0_ xc xn xk clo cro c4 c5 c6 c7 c8, aq_ cy 6 clo 12 (gf_ rl), ai_ cy (rl 0) 12 (Ml 0), ai_ cy (rl 1) 12 (Ml 1), ai_ cy (rl 2) 12 (Ml 2), ai_ cy (rl 3) 12 (Ml 3), ai_ cy (rl 4) 12 (Ml 4), ai_ cy (rl 5) 12 (Ml 5), ai_ cy (rl 6) 12 (Ml 6), ai_ cy (rl 7) 12 (Ml 7), ai_ cy (rl 8) 12 (Ml 8), ai_ cy (rl 9) 12 (Ml 9), ai_ cy (rl 10) 12 (Ml 10), ai_ cy (rl 11) 12 (Ml 11), aq_ cy 6 cro 12 (gf_ rr), ai_ cy (rr 0) 12 (Mr 0), ai_ cy (rr 1) 12 (Mr 1), ai_ cy (rr 2) 12 (Mr 2), ai_ cy (rr 3) 12 (Mr 3), ai_ cy (rr 4) 12 (Mr 4), ai_ cy (rr 5) 12 (Mr 5), ai_ cy (rr 6) 12 (Mr 6), ai_ cy (rr 7) 12 (Mr 7), ai_ cy (rr 8) 12 (Mr 8), ai_ cy (rr 9) 12 (Mr 9), ai_ cy (rr 10) 12 (Mr 10), ai_ cy (rr 11) 12 (Mr 11), ai_ cy c4 40 w4, ai_ cy c5 40 w5, ai_ cy c6 40 w6, ai_ cy c7 12 w7, ai_ cy c8 12 w8, ob7_0_ xh xc hu1 hu2 hu3 hu4 hu5 hu6 hu7 hu8, ob1_0_ xt xc ta tb, ai_ cy ta 12 fx, ai_ cy tb 12 fu, ob10_0_ xw xc xk wpo wc wf, aq_ cy 6 wpo 12 (gf_ rp), ai_ cy (rp 0) 12 (Mp 0), ai_ cy (rp 1) 12 (Mp 1), ai_ cy (rp 2) 12 (Mp 2), ai_ cy (rp 3) 12 (Mp 3), ai_ cy (rp 4) 12 (Mp 4), ai_ cy (rp 5) 12 (Mp 5), ai_ cy (rp 6) 12 (Mp 6), ai_ cy (rp 7) 12 (Mp 7), ai_ cy (rp 8) 12 (Mp 8), ai_ cy (rp 9) 12 (Mp 9), ai_ cy (rp 10) 12 (Mp 10), ai_ cy (rp 11) 12 (Mp 11), ai_ cy wc 12 fc, ai_ cy wf 12 ff, aq_ cy 5 xp 30 (pst pa pm), ob12_0_ mo s0 s1 t2 s3 s4 g5 g6 g7 g8 g9 g10 s11 g12 g13 g14 g15 g16 g17 g18 g19 g20 s21 g22 g23 g24 s25 s26 s27 s28 g29 g30 g31 g32 g33, ai_ cy g5 40 f5, ai_ cy g6 40 f6, ai_ cy g7 40 f7, ai_ cy g8 40 f8, ai_ cy g9 40 f9, az_ cy g10 40 f10, ai_ cy g12 30 f12, ai_ cy g13 30 f13, ai_ cy g14 6000 f14, az_ cy g15 4 f15, ai_ cy g16 4 f16, ai_ cy g17 4 f17, ai_ cy g18 24 f18, aj_ cy g19 120 f19, aj_ cy g20 5 f20, ai_ cy g22 40 f22, ai_ cy g23 12 f23, ai_ cy g24 12 f24, aj_ cy g29 12 f29, ai_ cy g30 12 f30, ai_ cy g31 12 f31, ai_ cy g32 12 f32, ai_ cy g33 12 f33, ob11_0_ xo xk xn xc xh xt xw xm xp pf ph tr efi_23, aq_ cy 4 xm 4 (mf_ m0 m1 m2 m3), ob4_0_ m0 mk0 mr0 l0 u0, ob4_0_ m1 mk1 mr1 l1 u1, ob4_0_ m2 mk2 mr2 l2 u2, ob4_0_ m3 mk3 mr3 l3 u3, ai_ cy l0 6 fl0, ai_ cy l1 6 fl1, ai_ cy l2 6 fl2, ai_ cy l3 6 fl3, aj_ cy u0 30 efn0_24, aj_ cy u1 30 efn1_25, aj_ cy u2 30 efn2_26, aj_ cy u3 30 efn3_27] : va_W) ++ (pool cy pa pv pg pm)) hP hD (fun hP hD => ?_)
  have hw_r_22 := hw
  refine lv_pop hx hb dB_law_49.1.2.1.2 rfl ?_
  refine lv_aload_n hx hb dB_law_49.1.2.2.1 rfl (lv_at hl 1 rfl) ?_
  refine lv_aload_n hx hb dB_law_49.1.2.2.2 rfl (lv_at hl 3 rfl) ?_
  refine lv_iload_n hx hb dB_law_49.2.1.1.1 rfl (lv_at hl 0 rfl) ?_
  refine lv_iconst (v := 1) hx hb dB_law_49.2.1.1.2 (by decide) ?_
  refine lv_iadd hx hb dB_law_49.2.1.2.1 ?_
  refine lv_topi (fun y_30 ey_30 => ?_)
  have e_ := (ey_30.trans ey_1.symm).symm
  subst e_
  refine va_sld hx hb hX hbl hbA hS (i := y_1) h_2 dB_law_49.2.1.2.2 ?_
  refine lv_topi (fun y_32 ey_32 => ?_)
  have e_ := (ey_32.trans ey_3.symm).symm
  subst e_
  refine lv_aload_n hx hb dB_law_49.2.2.1.1 rfl (lv_at hl 3 rfl) ?_
  refine lv_iload_n hx hb dB_law_49.2.2.1.2 rfl (lv_at hl 0 rfl) ?_
  refine lv_iconst (v := 2) hx hb dB_law_49.2.2.2.1 (by decide) ?_
  refine lv_iadd hx hb dB_law_49.2.2.2.2 ?_
  refine lv_topi (fun y_33 ey_33 => ?_)
  have e_ := (ey_33.trans ey_4.symm).symm
  subst e_
  refine va_sld hx hb hX hbl hbA hS (i := y_4) h_5 dB_law_50.1.1.1.1 ?_
  refine lv_topi (fun y_35 ey_35 => ?_)
  have e_ := (ey_35.trans ey_6.symm).symm
  subst e_
  refine lv_aload_n hx hb dB_law_50.1.1.1.2 rfl (lv_at hl 3 rfl) ?_
  refine lv_iload_n hx hb dB_law_50.1.1.2.1 rfl (lv_at hl 0 rfl) ?_
  refine lv_iconst (v := 3) hx hb dB_law_50.1.1.2.2 (by decide) ?_
  refine lv_iadd hx hb dB_law_50.1.2.1.1 ?_
  refine lv_topi (fun y_36 ey_36 => ?_)
  have e_ := (ey_36.trans ey_7.symm).symm
  subst e_
  refine va_sld hx hb hX hbl hbA hS (i := y_7) h_8 dB_law_50.1.2.1.2 ?_
  refine lv_topi (fun y_38 ey_38 => ?_)
  have e_ := (ey_38.trans ey_9.symm).symm
  subst e_
  refine lv_aload_n hx hb dB_law_50.1.2.2.1 rfl (lv_at hl 3 rfl) ?_
  refine lv_iload_n hx hb dB_law_50.1.2.2.2 rfl (lv_at hl 0 rfl) ?_
  refine lv_iconst (v := 4) hx hb dB_law_50.2.1.1.1 (by decide) ?_
  refine lv_iadd hx hb dB_law_50.2.1.1.2 ?_
  refine lv_topi (fun y_39 ey_39 => ?_)
  have e_ := (ey_39.trans ey_10.symm).symm
  subst e_
  refine va_sld hx hb hX hbl hbA hS (i := y_10) h_11 dB_law_50.2.1.2.1 ?_
  refine lv_topi (fun y_41 ey_41 => ?_)
  have e_ := (ey_41.trans ey_12.symm).symm
  subst e_
  refine lv_aload_n hx hb dB_law_50.2.1.2.2 rfl (lv_at hl 3 rfl) ?_
  refine lv_iload_n hx hb dB_law_50.2.2.1.1 rfl (lv_at hl 0 rfl) ?_
  refine lv_iconst (v := 5) hx hb dB_law_50.2.2.1.2 (by decide) ?_
  refine lv_iadd hx hb dB_law_50.2.2.2.1 ?_
  refine lv_topi (fun y_42 ey_42 => ?_)
  have e_ := (ey_42.trans ey_13.symm).symm
  subst e_
  refine va_sld hx hb hX hbl hbA hS (i := y_13) h_14 dB_law_50.2.2.2.2 ?_
  refine lv_topi (fun y_44 ey_44 => ?_)
  have e_ := (ey_44.trans ey_15.symm).symm
  subst e_
  refine lv_i2l (v := y_15.toInt64) hx hb dB_law_51.1.1.1.1 rfl ?_
  have q_1110 : (y_15.toInt64).toInt = y_15.toInt := Int32.toInt_toInt64 y_15
  refine lv_bipush (v := 32) hx hb dB_law_51.1.1.1.2 (by decide) ?_
  refine lv_lshl hx hb dB_law_51.1.1.2.1 rfl ?_
  refine lv_topl (fun y_45 ey_45 => ?_)
  have e_ := (ey_45.trans ey_16.symm).symm
  subst e_
  refine lv_aload_n hx hb dB_law_51.1.1.2.2 rfl (lv_at hl 3 rfl) ?_
  refine lv_iload_n hx hb dB_law_51.1.2.1.1 rfl (lv_at hl 0 rfl) ?_
  refine lv_bipush (v := 6) hx hb dB_law_51.1.2.1.2 (by decide) ?_
  refine lv_iadd hx hb dB_law_51.1.2.2.1 ?_
  refine lv_topi (fun y_46 ey_46 => ?_)
  have e_ := (ey_46.trans ey_17.symm).symm
  subst e_
  refine va_sld hx hb hX hbl hbA hS (i := y_17) h_18 dB_law_51.1.2.2.2 ?_
  refine lv_topi (fun y_48 ey_48 => ?_)
  have e_ := (ey_48.trans ey_19.symm).symm
  subst e_
  refine lv_i2l (v := y_19.toInt64) hx hb dB_law_51.2.1.1.1 rfl ?_
  have q_1120 : (y_19.toInt64).toInt = y_19.toInt := Int32.toInt_toInt64 y_19
  refine lv_ldc2 (v := 4294967295) hx hb hown (hts (.constantLong RL 122 (4294967295)) kw_1081) dB_law_51.2.1.1.2 ?_
  refine lv_land hx hb dB_law_51.2.1.2.1 ?_
  refine lv_topl (fun y_49 ey_49 => ?_)
  have e_ := (ey_49.trans ey_20.symm).symm
  subst e_
  refine lv_lor hx hb dB_law_51.2.1.2.2 ?_
  refine lv_topl (fun y_50 ey_50 => ?_)
  have e_ := (ey_50.trans ey_21.symm).symm
  subst e_
  have hPx := pp_left hP
  have hDx := dd_left hD
  refine ct_S hPx hDx hS hA [ob12_0_ mo s0 s1 t2 s3 s4 g5 g6 g7 g8 g9 g10 s11 g12 g13 g14 g15 g16 g17 g18 g19 g20 s21 g22 g23 g24 s25 s26 s27 s28 g29 g30 g31 g32 g33, az_ cy g15 4 f15, ai_ cy g16 4 f16, ai_ cy g17 4 f17, ai_ cy g18 24 f18, aj_ cy g19 120 f19] [65, 75, 76, 77, 78, 79] (by decide) rfl (fun hPc hDw hFc hC_ => ?_)
  refine va_calli (va_runV (As := [.int y_3, .int y_6, .int y_9, .int y_12, .long y_21]) (rest := []) ⟨hx, hb, hml, hown, hts⟩ (c_X12_put2 l D cy H.size mo g5 g6 g7 g8 g9 g10 g12 g13 g14 g15 g16 g17 g18 g19 g20 g22 g23 g24 g29 g30 g31 g32 g33 s0 s1 s3 s4 s11 s21 s25 s26 s27 s28 t2 f15 f16 f17 f18 f19 y_3 y_6 y_9 y_12 y_21 (by first | with_reducible assumption | assumption | omega) (by first | with_reducible assumption | assumption | omega) (by first | with_reducible assumption | assumption | omega)) (cwV 5 hts lg_X12_put rfl rfl rfl ⟨rfl, hd_X12_put⟩ ⟨Nat.le_of_ble_eq_true rfl, Nat.le_of_ble_eq_true rfl⟩) ⟨bl_, va_recvX hK.1 hPx (ci := 12) (q0 := 65) rfl rfl, fun U hU hW => ⟨rfl, by rw [hU], by rw [hU]; exact hPc, kk_mv hW hK, hDw⟩⟩ rfl rfl hl.1 rfl (lv_room (Nat.le_of_ble_eq_true rfl)) dB_law_51.2.2.1.1 ⟨(by show _ ≤ 600000; omega), (by show _ ≤ 7302250; omega)⟩) hS (fun q _ h => hFc q h) hFc (fun r_51 u t H locs ht hvm hw hB hz1 hk1 hS => ?_)
  obtain ⟨n1_52, e19_53, g_54, g_55, hP1, hD1⟩ := hB
  rw [ht] at hP1
  obtain ⟨hP, hD⟩ := va_joinQ (wr := [ob3_0_ xn vp vn n1 n2 n3 n4 n5, ai_ cy n1 40 fk, ai_ cy n2 40 fs, ai_ cy n3 40 fe, ai_ cy n4 40 fw, ai_ cy n5 40 fp, aq_ cy 3 xk 5 (kf_ k0 k1 k2 k3 k4), ob6_0_ k0, ob5_0_ k1, ob9_0_ k2, ob2_0_ k3, ob8_0_ k4, ob0_0_ xc xn xk clo cro c4 c5 c6 c7 c8, aq_ cy 6 clo 12 (gf_ rl), ai_ cy (rl 0) 12 (Ml 0), ai_ cy (rl 1) 12 (Ml 1), ai_ cy (rl 2) 12 (Ml 2), ai_ cy (rl 3) 12 (Ml 3), ai_ cy (rl 4) 12 (Ml 4), ai_ cy (rl 5) 12 (Ml 5), ai_ cy (rl 6) 12 (Ml 6), ai_ cy (rl 7) 12 (Ml 7), ai_ cy (rl 8) 12 (Ml 8), ai_ cy (rl 9) 12 (Ml 9), ai_ cy (rl 10) 12 (Ml 10), ai_ cy (rl 11) 12 (Ml 11), aq_ cy 6 cro 12 (gf_ rr), ai_ cy (rr 0) 12 (Mr 0), ai_ cy (rr 1) 12 (Mr 1), ai_ cy (rr 2) 12 (Mr 2), ai_ cy (rr 3) 12 (Mr 3), ai_ cy (rr 4) 12 (Mr 4), ai_ cy (rr 5) 12 (Mr 5), ai_ cy (rr 6) 12 (Mr 6), ai_ cy (rr 7) 12 (Mr 7), ai_ cy (rr 8) 12 (Mr 8), ai_ cy (rr 9) 12 (Mr 9), ai_ cy (rr 10) 12 (Mr 10), ai_ cy (rr 11) 12 (Mr 11), ai_ cy c4 40 w4, ai_ cy c5 40 w5, ai_ cy c6 40 w6, ai_ cy c7 12 w7, ai_ cy c8 12 w8, ob7_0_ xh xc hu1 hu2 hu3 hu4 hu5 hu6 hu7 hu8, ob1_0_ xt xc ta tb, ai_ cy ta 12 fx, ai_ cy tb 12 fu, ob10_0_ xw xc xk wpo wc wf, aq_ cy 6 wpo 12 (gf_ rp), ai_ cy (rp 0) 12 (Mp 0), ai_ cy (rp 1) 12 (Mp 1), ai_ cy (rp 2) 12 (Mp 2), ai_ cy (rp 3) 12 (Mp 3), ai_ cy (rp 4) 12 (Mp 4), ai_ cy (rp 5) 12 (Mp 5), ai_ cy (rp 6) 12 (Mp 6), ai_ cy (rp 7) 12 (Mp 7), ai_ cy (rp 8) 12 (Mp 8), ai_ cy (rp 9) 12 (Mp 9), ai_ cy (rp 10) 12 (Mp 10), ai_ cy (rp 11) 12 (Mp 11), ai_ cy wc 12 fc, ai_ cy wf 12 ff, aq_ cy 5 xp 30 (pst pa pm), ai_ cy g5 40 f5, ai_ cy g6 40 f6, ai_ cy g7 40 f7, ai_ cy g8 40 f8, ai_ cy g9 40 f9, az_ cy g10 40 f10, ai_ cy g12 30 f12, ai_ cy g13 30 f13, ai_ cy g14 6000 f14, aj_ cy g20 5 f20, ai_ cy g22 40 f22, ai_ cy g23 12 f23, ai_ cy g24 12 f24, aj_ cy g29 12 f29, ai_ cy g30 12 f30, ai_ cy g31 12 f31, ai_ cy g32 12 f32, ai_ cy g33 12 f33, ob11_0_ xo xk xn xc xh xt xw xm xp pf ph tr efi_23, aq_ cy 4 xm 4 (mf_ m0 m1 m2 m3), ob4_0_ m0 mk0 mr0 l0 u0, ob4_0_ m1 mk1 mr1 l1 u1, ob4_0_ m2 mk2 mr2 l2 u2, ob4_0_ m3 mk3 mr3 l3 u3, ai_ cy l0 6 fl0, ai_ cy l1 6 fl1, ai_ cy l2 6 fl2, ai_ cy l3 6 fl3, aj_ cy u0 30 efn0_24, aj_ cy u1 30 efn1_25, aj_ cy u2 30 efn2_26, aj_ cy u3 30 efn3_27]) (w1 := [ob12_0_ mo 0 n1_52 t2 s3 s4 g5 g6 g7 g8 g9 g10 s11 g12 g13 g14 g15 g16 g17 g18 g19 g20 s21 g22 g23 g24 s25 s26 s27 s28 g29 g30 g31 g32 g33, az_ cy g15 4 f15, ai_ cy g16 4 f16, ai_ cy g17 4 f17, ai_ cy g18 24 f18, aj_ cy g19 120 e19_53]) hP hD [65, 75, 76, 77, 78, 79] [0, 1, 2, 3, 4, 5, 6, 7, 8, 9, 10, 11, 12, 13, 14, 15, 16, 17, 18, 19, 20, 21, 22, 23, 24, 25, 26, 27, 28, 29, 30, 31, 32, 33, 34, 35, 36, 37, 38, 39, 40, 41, 42, 43, 44, 45, 46, 47, 48, 49, 50, 51, 52, 53, 54, 55, 56, 57, 58, 59, 60, 61, 62, 63, 64, 66, 67, 68, 69, 70, 71, 72, 73, 74, 80, 81, 82, 83, 84, 85, 86, 87, 88, 89, 90, 91, 92, 93, 94, 95, 96, 97, 98, 99, 100, 101, 102] hC_ rfl (by decide +kernel) (by decide +kernel) hk1 hFc hP1 hD1
  refine pd_K (([ob3_0_ xn vp vn n1 n2 n3 n4 n5, ai_ cy n1 40 fk, ai_ cy n2 40 fs, ai_ cy n3 40 fe, ai_ cy n4 40 fw, ai_ cy n5 40 fp, aq_ cy 3 xk 5 (kf_ k0 k1 k2 k3 k4), ob6_0_ k0, ob5_0_ k1, ob9_0_ k2, ob2_0_ k3, ob8_0_ k4, ob0_0_ xc xn xk clo cro c4 c5 c6 c7 c8, aq_ cy 6 clo 12 (gf_ rl), ai_ cy (rl 0) 12 (Ml 0), ai_ cy (rl 1) 12 (Ml 1), ai_ cy (rl 2) 12 (Ml 2), ai_ cy (rl 3) 12 (Ml 3), ai_ cy (rl 4) 12 (Ml 4), ai_ cy (rl 5) 12 (Ml 5), ai_ cy (rl 6) 12 (Ml 6), ai_ cy (rl 7) 12 (Ml 7), ai_ cy (rl 8) 12 (Ml 8), ai_ cy (rl 9) 12 (Ml 9), ai_ cy (rl 10) 12 (Ml 10), ai_ cy (rl 11) 12 (Ml 11), aq_ cy 6 cro 12 (gf_ rr), ai_ cy (rr 0) 12 (Mr 0), ai_ cy (rr 1) 12 (Mr 1), ai_ cy (rr 2) 12 (Mr 2), ai_ cy (rr 3) 12 (Mr 3), ai_ cy (rr 4) 12 (Mr 4), ai_ cy (rr 5) 12 (Mr 5), ai_ cy (rr 6) 12 (Mr 6), ai_ cy (rr 7) 12 (Mr 7), ai_ cy (rr 8) 12 (Mr 8), ai_ cy (rr 9) 12 (Mr 9), ai_ cy (rr 10) 12 (Mr 10), ai_ cy (rr 11) 12 (Mr 11), ai_ cy c4 40 w4, ai_ cy c5 40 w5, ai_ cy c6 40 w6, ai_ cy c7 12 w7, ai_ cy c8 12 w8, ob7_0_ xh xc hu1 hu2 hu3 hu4 hu5 hu6 hu7 hu8, ob1_0_ xt xc ta tb, ai_ cy ta 12 fx, ai_ cy tb 12 fu, ob10_0_ xw xc xk wpo wc wf, aq_ cy 6 wpo 12 (gf_ rp), ai_ cy (rp 0) 12 (Mp 0), ai_ cy (rp 1) 12 (Mp 1), ai_ cy (rp 2) 12 (Mp 2), ai_ cy (rp 3) 12 (Mp 3), ai_ cy (rp 4) 12 (Mp 4), ai_ cy (rp 5) 12 (Mp 5), ai_ cy (rp 6) 12 (Mp 6), ai_ cy (rp 7) 12 (Mp 7), ai_ cy (rp 8) 12 (Mp 8), ai_ cy (rp 9) 12 (Mp 9), ai_ cy (rp 10) 12 (Mp 10), ai_ cy (rp 11) 12 (Mp 11), ai_ cy wc 12 fc, ai_ cy wf 12 ff, aq_ cy 5 xp 30 (pst pa pm), ai_ cy g5 40 f5, ai_ cy g6 40 f6, ai_ cy g7 40 f7, ai_ cy g8 40 f8, ai_ cy g9 40 f9, az_ cy g10 40 f10, ai_ cy g12 30 f12, ai_ cy g13 30 f13, ai_ cy g14 6000 f14, aj_ cy g20 5 f20, ai_ cy g22 40 f22, ai_ cy g23 12 f23, ai_ cy g24 12 f24, aj_ cy g29 12 f29, ai_ cy g30 12 f30, ai_ cy g31 12 f31, ai_ cy g32 12 f32, ai_ cy g33 12 f33, ob11_0_ xo xk xn xc xh xt xw xm xp pf ph tr efi_23, aq_ cy 4 xm 4 (mf_ m0 m1 m2 m3), ob4_0_ m0 mk0 mr0 l0 u0, ob4_0_ m1 mk1 mr1 l1 u1, ob4_0_ m2 mk2 mr2 l2 u2, ob4_0_ m3 mk3 mr3 l3 u3, ai_ cy l0 6 fl0, ai_ cy l1 6 fl1, ai_ cy l2 6 fl2, ai_ cy l3 6 fl3, aj_ cy u0 30 efn0_24, aj_ cy u1 30 efn1_25, aj_ cy u2 30 efn2_26, aj_ cy u3 30 efn3_27, ob12_0_ mo 0 n1_52 t2 s3 s4 g5 g6 g7 g8 g9 g10 s11 g12 g13 g14 g15 g16 g17 g18 g19 g20 s21 g22 g23 g24 s25 s26 s27 s28 g29 g30 g31 g32 g33, az_ cy g15 4 f15, ai_ cy g16 4 f16, ai_ cy g17 4 f17, ai_ cy g18 24 f18, aj_ cy g19 120 e19_53] : va_W) ++ (pool cy pa pv pg pm)) hP hD (fun hP hD => ?_)
  have hw_r_51 := hw
  refine lv_pop hx hb dB_law_51.2.2.1.2 rfl ?_
  refine lv_goto (tgt := 1333) hx hb dB_law_51.2.2.2.1 (by decide) ?_
  have hmr2_ := mrel_put hmr h6_ h5_ g_28 g_29 g_54 g_55
  have hst2_ := Int32.toInt_inj.mp (g_28.trans ((wrg_same hmr h6_).trans g_54.symm))
  refine pd_P hP hD [ob11_0_ xo xk xn xc xh xt xw xm xp pf ph tr efi_23, ob3_0_ xn vp vn n1 n2 n3 n4 n5, ai_ cy n1 40 fk, ai_ cy n2 40 fs, ai_ cy n3 40 fe, ai_ cy n4 40 fw, ai_ cy n5 40 fp, aq_ cy 3 xk 5 (kf_ k0 k1 k2 k3 k4), ob6_0_ k0, ob5_0_ k1, ob9_0_ k2, ob2_0_ k3, ob8_0_ k4, ob0_0_ xc xn xk clo cro c4 c5 c6 c7 c8, aq_ cy 6 clo 12 (gf_ rl), ai_ cy (rl 0) 12 (Ml 0), ai_ cy (rl 1) 12 (Ml 1), ai_ cy (rl 2) 12 (Ml 2), ai_ cy (rl 3) 12 (Ml 3), ai_ cy (rl 4) 12 (Ml 4), ai_ cy (rl 5) 12 (Ml 5), ai_ cy (rl 6) 12 (Ml 6), ai_ cy (rl 7) 12 (Ml 7), ai_ cy (rl 8) 12 (Ml 8), ai_ cy (rl 9) 12 (Ml 9), ai_ cy (rl 10) 12 (Ml 10), ai_ cy (rl 11) 12 (Ml 11), aq_ cy 6 cro 12 (gf_ rr), ai_ cy (rr 0) 12 (Mr 0), ai_ cy (rr 1) 12 (Mr 1), ai_ cy (rr 2) 12 (Mr 2), ai_ cy (rr 3) 12 (Mr 3), ai_ cy (rr 4) 12 (Mr 4), ai_ cy (rr 5) 12 (Mr 5), ai_ cy (rr 6) 12 (Mr 6), ai_ cy (rr 7) 12 (Mr 7), ai_ cy (rr 8) 12 (Mr 8), ai_ cy (rr 9) 12 (Mr 9), ai_ cy (rr 10) 12 (Mr 10), ai_ cy (rr 11) 12 (Mr 11), ai_ cy c4 40 w4, ai_ cy c5 40 w5, ai_ cy c6 40 w6, ai_ cy c7 12 w7, ai_ cy c8 12 w8, ob7_0_ xh xc hu1 hu2 hu3 hu4 hu5 hu6 hu7 hu8, ob1_0_ xt xc ta tb, ai_ cy ta 12 fx, ai_ cy tb 12 fu, ob10_0_ xw xc xk wpo wc wf, aq_ cy 6 wpo 12 (gf_ rp), ai_ cy (rp 0) 12 (Mp 0), ai_ cy (rp 1) 12 (Mp 1), ai_ cy (rp 2) 12 (Mp 2), ai_ cy (rp 3) 12 (Mp 3), ai_ cy (rp 4) 12 (Mp 4), ai_ cy (rp 5) 12 (Mp 5), ai_ cy (rp 6) 12 (Mp 6), ai_ cy (rp 7) 12 (Mp 7), ai_ cy (rp 8) 12 (Mp 8), ai_ cy (rp 9) 12 (Mp 9), ai_ cy (rp 10) 12 (Mp 10), ai_ cy (rp 11) 12 (Mp 11), ai_ cy wc 12 fc, ai_ cy wf 12 ff, aq_ cy 4 xm 4 (mf_ m0 m1 m2 m3), ob4_0_ m0 mk0 mr0 l0 u0, ob4_0_ m1 mk1 mr1 l1 u1, ob4_0_ m2 mk2 mr2 l2 u2, ob4_0_ m3 mk3 mr3 l3 u3, ai_ cy l0 6 fl0, ai_ cy l1 6 fl1, ai_ cy l2 6 fl2, ai_ cy l3 6 fl3, aj_ cy u0 30 efn0_24, aj_ cy u1 30 efn1_25, aj_ cy u2 30 efn2_26, aj_ cy u3 30 efn3_27, aq_ cy 5 xp 30 (pst pa pm), ob12_0_ mo 0 n1_52 t2 s3 s4 g5 g6 g7 g8 g9 g10 s11 g12 g13 g14 g15 g16 g17 g18 g19 g20 s21 g22 g23 g24 s25 s26 s27 s28 g29 g30 g31 g32 g33, ai_ cy g5 40 f5, ai_ cy g6 40 f6, ai_ cy g7 40 f7, ai_ cy g8 40 f8, ai_ cy g9 40 f9, az_ cy g10 40 f10, ai_ cy g12 30 f12, ai_ cy g13 30 f13, ai_ cy g14 6000 f14, az_ cy g15 4 f15, ai_ cy g16 4 f16, ai_ cy g17 4 f17, ai_ cy g18 24 f18, aj_ cy g19 120 e19_53, aj_ cy g20 5 f20, ai_ cy g22 40 f22, ai_ cy g23 12 f23, ai_ cy g24 12 f24, aj_ cy g29 12 f29, ai_ cy g30 12 f30, ai_ cy g31 12 f31, ai_ cy g32 12 f32, ai_ cy g33 12 f33] [83, 0, 1, 2, 3, 4, 5, 6, 7, 8, 9, 10, 11, 12, 13, 14, 15, 16, 17, 18, 19, 20, 21, 22, 23, 24, 25, 26, 27, 28, 29, 30, 31, 32, 33, 34, 35, 36, 37, 38, 39, 40, 41, 42, 43, 44, 45, 46, 47, 48, 49, 50, 51, 52, 53, 54, 55, 56, 57, 58, 59, 60, 61, 62, 63, 84, 85, 86, 87, 88, 89, 90, 91, 92, 93, 94, 95, 96, 64, 97, 65, 66, 67, 68, 69, 70, 71, 72, 73, 98, 99, 100, 101, 102, 74, 75, 76, 77, 78, 79, 80, 81, 82] (by decide +kernel) rfl (fun hP hD => ?_)
  refine W.widen (k := cells + 6) (n := slots + 207) (by omega) (by omega) ?_
  exact cont xk xn xc xh xt xw xm xp n1 n2 n3 n4 n5 k0 k1 k2 k3 k4 clo cro c4 c5 c6 c7 c8 ta tb wpo wc wf m0 l0 u0 m1 l1 u1 m2 l2 u2 m3 l3 u3 g5 g6 g7 g8 g9 g10 g12 g13 g14 g15 g16 g17 g18 g19 g20 g22 g23 g24 g29 g30 g31 g32 g33 rl rr rp Ml Mr Mp pf ph efi_23 vp vn hu1 hu2 hu3 hu4 hu5 hu6 hu7 hu8 mk0 mk1 mk2 mk3 mr0 mr1 mr2 mr3 (0 : Int32) n1_52 s3 s4 s11 s21 s25 s26 s27 s28 tr t2 fk fs fe fw fp w4 w5 w6 w7 w8 fx fu fc ff fl0 fl1 fl2 fl3 efn0_24 efn1_25 efn2_26 efn3_27 f5 f6 f7 f8 f9 f10 f12 f13 f14 f15 f16 f17 f18 e19_53 f20 f22 f23 f24 f29 f30 f31 f32 f33 pa pv pg pm H locs ls hP hD (by first | with_reducible assumption | assumption | omega) (by first | with_reducible assumption | assumption | omega) (by first | with_reducible assumption | assumption | omega) (by first | with_reducible assumption | assumption | exact (show nok vp vn fk fs fe fw fp by assumption).2.2.2.1) (by first | with_reducible assumption | assumption | exact (show nok vp vn fk fs fe fw fp by assumption).2.2.1) (by first | with_reducible assumption | assumption | exact (show nok vp vn fk fs fe fw fp by assumption).2.2.2.2.1) (by first | with_reducible assumption | assumption | exact (show nok vp vn fk fs fe fw fp by assumption).2.2.2.2.2) (by first | with_reducible assumption | assumption | omega) (by first | with_reducible assumption | assumption | omega) (by first | with_reducible assumption | assumption | omega) (by first | with_reducible assumption | assumption | omega) (by first | with_reducible assumption | assumption | omega) (by first | with_reducible assumption | assumption | omega) (by first | with_reducible assumption | assumption | omega) (by first | with_reducible assumption | assumption | omega) (by first | with_reducible assumption | assumption | omega) (by first | with_reducible assumption | assumption | omega) (by first | with_reducible assumption | assumption | omega) (by first | with_reducible assumption | assumption | omega) (by first | with_reducible assumption | assumption | omega) (by first | with_reducible assumption | assumption | omega) (by first | with_reducible assumption | assumption | omega) (by first | with_reducible assumption | assumption | omega) (by first | with_reducible assumption | assumption | omega) (by first | with_reducible assumption | assumption | omega) (by first | with_reducible assumption | assumption | omega) (by first | with_reducible assumption | assumption | omega) (by first | with_reducible assumption | assumption | omega) (by first | with_reducible assumption | assumption | omega) (by first | with_reducible assumption | assumption | omega) (by first | with_reducible assumption | assumption | omega) (by first | with_reducible assumption | assumption | omega) (by first | with_reducible assumption | assumption | omega) (by first | with_reducible assumption | assumption | omega) (by first | with_reducible assumption | assumption | omega) (by first | with_reducible assumption | assumption | omega) (by first | with_reducible assumption | assumption | omega) (by first | with_reducible assumption | assumption | omega) (by first | with_reducible assumption | assumption | omega) (hmr2_) (by first | with_reducible assumption | assumption | omega) (by first | with_reducible assumption | assumption | omega) (hst2_) hS (lv_sub hl [0, 1, 2, 3] rfl)

set_option maxHeartbeats 8000000 in
set_option maxRecDepth 100000 in
theorem law_27 {p : Program} {e : Env} {s : State} {m : MethodId} {below : List Frame} {meth : Method} {c : Code} (l : Launch) {b L : Nat} {xs : Nat → Int32} (C0 : lw_At p s m meth c b L xs) {D : va_G} {cy : Nat → ClassId} (hK : kk_ D cy s) (hG : ArrOfT s (cy 6) (.array .int)) {xo mo : Nat} {i : Int32} {cells slots : Nat} (hi0 : 0 ≤ i.toInt) (hiL : i.toInt + 7 ≤ L) (hL : L ≤ 3584) (hcc : cells ≤ 500000) (hss : slots ≤ 7000000) (cont : lawQ p l e s m below meth c b D cy xo mo i 1333 (cells + 6) (slots + 207)) : lawQ p l e s m below meth c b D cy xo mo i 1133 cells slots := by
  have hfe : (600000 : Nat) = 600000 := rfl
  obtain ⟨hx, hb, hr, hml, hown, hts, hX, hbl, hlocks, hgv⟩ := id C0
  have hown : s.vm.findClass RL = some m.cls := hown
  have hA : ∀ q : Nat, s.heap.size ≤ q → (fun q : Nat => s.heap.size ≤ q) q := fun _ h => h
  have hbA : ¬ (fun q : Nat => s.heap.size ≤ q) b := Nat.not_le.mpr hbl
  have z0 : (0 : Int32).toInt = 0 := by decide
  have z1 : (1 : Int32).toInt = 1 := by decide
  have z2 : (2 : Int32).toInt = 2 := by decide
  have z3 : (3 : Int32).toInt = 3 := by decide
  have z4 : (4 : Int32).toInt = 4 := by decide
  have z5 : (5 : Int32).toInt = 5 := by decide
  have z6 : (6 : Int32).toInt = 6 := by decide
  intro xk xn xc xh xt xw xm xp n1 n2 n3 n4 n5 k0 k1 k2 k3 k4 clo cro c4 c5 c6 c7 c8 ta tb wpo wc wf m0 l0 u0 m1 l1 u1 m2 l2 u2 m3 l3 u3 g5 g6 g7 g8 g9 g10 g12 g13 g14 g15 g16 g17 g18 g19 g20 g22 g23 g24 g29 g30 g31 g32 g33 rl rr rp Ml Mr Mp pf ph fi vp vn hu1 hu2 hu3 hu4 hu5 hu6 hu7 hu8 mk0 mk1 mk2 mk3 mr0 mr1 mr2 mr3 s0 s1 s3 s4 s11 s21 s25 s26 s27 s28 tr t2 fk fs fe fw fp w4 w5 w6 w7 w8 fx fu fc ff fl0 fl1 fl2 fl3 fn0 fn1 fn2 fn3 f5 f6 f7 f8 f9 f10 f12 f13 f14 f15 f16 f17 f18 f19 f20 f22 f23 f24 f29 f30 f31 f32 f33 pa pv pg pm H locs ls hP hD hnk hpk hrk hpr r_fk r_fw r_fp hmr0 hmr1 hmr2 hmr3 r_fl0 r_fl1 r_fl2 r_fl3 r_w7 r_w8 r_ff hN hPl hU h21 hnet hpast r_f6 r_f7 r_f8 r_f9 r_f12 r_f13 r_f17 r_f18 r_f23 r_f24 r_f30 r_f31 r_f32 r_f14 hlk hmr hnr hpl hst hS hl
  have hvp := hnk.1
  have hvn := hnk.2.1
  have h21i : s21.toInt = -9 := by rw [h21]; decide
  have h6_ : ∀ q : Nat, q < 4 → ((f4_ mr0 mr1 mr2 mr3) q).toInt ≤ 6 := f4_all (by omega) (by omega) (by omega) (by omega)
  have h5_ : ∀ q p : Nat, q < 4 → p < 6 → ((f4_ fl0 fl1 fl2 fl3) q p).toInt ≤ 5 := f4_rng r_fl0 r_fl1 r_fl2 r_fl3
  refine lv_aload_n hx hb dB_law_51.2.2.2.2 rfl (lv_at hl 2 rfl) ?_
  refine lv_aload_n hx hb dB_law_52.1.1.1.1 rfl (lv_at hl 3 rfl) ?_
  refine lv_iload_n hx hb dB_law_52.1.1.1.2 rfl (lv_at hl 0 rfl) ?_
  refine lv_iconst (v := 1) hx hb dB_law_52.1.1.2.1 (by decide) ?_
  refine lv_iadd hx hb dB_law_52.1.1.2.2 ?_
  refine lv_topi (fun y_1 ey_1 => ?_)
  have ty_1 : y_1.toInt = i.toInt + (1 : Int32).toInt := by rw [ey_1]; exact addI (by omega) (by omega)
  have h_2 : vp_in y_1 L := in_I (by omega) (by omega)
  refine va_sld hx hb hX hbl hbA hS (i := y_1) h_2 dB_law_52.1.2.1.1 ?_
  refine lv_topi (fun y_3 ey_3 => ?_)
  refine lv_aload_n hx hb dB_law_52.1.2.1.2 rfl (lv_at hl 3 rfl) ?_
  refine lv_iload_n hx hb dB_law_52.1.2.2.1 rfl (lv_at hl 0 rfl) ?_
  refine lv_iconst (v := 2) hx hb dB_law_52.1.2.2.2 (by decide) ?_
  refine lv_iadd hx hb dB_law_52.2.1.1.1 ?_
  refine lv_topi (fun y_4 ey_4 => ?_)
  have ty_4 : y_4.toInt = i.toInt + (2 : Int32).toInt := by rw [ey_4]; exact addI (by omega) (by omega)
  have h_5 : vp_in y_4 L := in_I (by omega) (by omega)
  refine va_sld hx hb hX hbl hbA hS (i := y_4) h_5 dB_law_52.2.1.1.2 ?_
  refine lv_topi (fun y_6 ey_6 => ?_)
  refine lv_aload_n hx hb dB_law_52.2.1.2.1 rfl (lv_at hl 3 rfl) ?_
  refine lv_iload_n hx hb dB_law_52.2.1.2.2 rfl (lv_at hl 0 rfl) ?_
  refine lv_iconst (v := 3) hx hb dB_law_52.2.2.1.1 (by decide) ?_
  refine lv_iadd hx hb dB_law_52.2.2.1.2 ?_
  refine lv_topi (fun y_7 ey_7 => ?_)
  have ty_7 : y_7.toInt = i.toInt + (3 : Int32).toInt := by rw [ey_7]; exact addI (by omega) (by omega)
  have h_8 : vp_in y_7 L := in_I (by omega) (by omega)
  refine va_sld hx hb hX hbl hbA hS (i := y_7) h_8 dB_law_52.2.2.2.1 ?_
  refine lv_topi (fun y_9 ey_9 => ?_)
  refine lv_aload_n hx hb dB_law_52.2.2.2.2 rfl (lv_at hl 3 rfl) ?_
  refine lv_iload_n hx hb dB_law_53.1.1.1.1 rfl (lv_at hl 0 rfl) ?_
  refine lv_iconst (v := 4) hx hb dB_law_53.1.1.1.2 (by decide) ?_
  refine lv_iadd hx hb dB_law_53.1.1.2.1 ?_
  refine lv_topi (fun y_10 ey_10 => ?_)
  have ty_10 : y_10.toInt = i.toInt + (4 : Int32).toInt := by rw [ey_10]; exact addI (by omega) (by omega)
  have h_11 : vp_in y_10 L := in_I (by omega) (by omega)
  refine va_sld hx hb hX hbl hbA hS (i := y_10) h_11 dB_law_53.1.1.2.2 ?_
  refine lv_topi (fun y_12 ey_12 => ?_)
  refine lv_aload_n hx hb dB_law_53.1.2.1.1 rfl (lv_at hl 3 rfl) ?_
  refine lv_iload_n hx hb dB_law_53.1.2.1.2 rfl (lv_at hl 0 rfl) ?_
  refine lv_iconst (v := 5) hx hb dB_law_53.1.2.2.1 (by decide) ?_
  refine lv_iadd hx hb dB_law_53.1.2.2.2 ?_
  refine lv_topi (fun y_13 ey_13 => ?_)
  have ty_13 : y_13.toInt = i.toInt + (5 : Int32).toInt := by rw [ey_13]; exact addI (by omega) (by omega)
  have h_14 : vp_in y_13 L := in_I (by omega) (by omega)
  refine va_sld hx hb hX hbl hbA hS (i := y_13) h_14 dB_law_53.2.1.1.1 ?_
  refine lv_topi (fun y_15 ey_15 => ?_)
  refine lv_aload_n hx hb dB_law_53.2.1.1.2 rfl (lv_at hl 3 rfl) ?_
  refine lv_iload_n hx hb dB_law_53.2.1.2.1 rfl (lv_at hl 0 rfl) ?_
  refine lv_bipush (v := 6) hx hb dB_law_53.2.1.2.2 (by decide) ?_
  refine lv_iadd hx hb dB_law_53.2.2.1.1 ?_
  refine lv_topi (fun y_16 ey_16 => ?_)
  have ty_16 : y_16.toInt = i.toInt + (6 : Int32).toInt := by rw [ey_16]; exact addI (by omega) (by omega)
  have h_17 : vp_in y_16 L := in_I (by omega) (by omega)
  refine va_sld hx hb hX hbl hbA hS (i := y_16) h_17 dB_law_53.2.2.1.2 ?_
  refine lv_topi (fun y_18 ey_18 => ?_)
  have hPx := pp_left hP
  have hDx := dd_left hD
  refine ct_S hPx hDx hS hA [ob11_0_ xo xk xn xc xh xt xw xm xp pf ph tr fi, aq_ cy 4 xm 4 (mf_ m0 m1 m2 m3), ob4_0_ m0 mk0 mr0 l0 u0, ob4_0_ m1 mk1 mr1 l1 u1, ob4_0_ m2 mk2 mr2 l2 u2, ob4_0_ m3 mk3 mr3 l3 u3, ai_ cy l0 6 fl0, ai_ cy l1 6 fl1, ai_ cy l2 6 fl2, ai_ cy l3 6 fl3, aj_ cy u0 30 fn0, aj_ cy u1 30 fn1, aj_ cy u2 30 fn2, aj_ cy u3 30 fn3] [0, 65, 66, 67, 68, 69, 70, 71, 72, 73, 74, 75, 76, 77] (by decide +kernel) rfl (fun hPc hDw hFc hC_ => ?_)
  refine va_calli (va_runV (As := [.int y_3, .int y_6, .int y_9, .int y_12, .int y_15, .int y_18]) (rest := []) ⟨hx, hb, hml, hown, hts⟩ (c_X11_copy2 l D cy H.size xo xk xn xc xh xt xw xm xp pf ph tr fi m0 l0 u0 m1 l1 u1 m2 l2 u2 m3 l3 u3 mk0 mr0 mk1 mr1 mk2 mr2 mk3 mr3 fl0 fl1 fl2 fl3 fn0 fn1 fn2 fn3 y_3 y_6 y_9 y_12 y_15 y_18 (by first | with_reducible assumption | assumption | omega) (by first | with_reducible assumption | assumption | omega) (by first | with_reducible assumption | assumption | omega) (by first | with_reducible assumption | assumption | omega) (by first | with_reducible assumption | assumption | omega) (by first | with_reducible assumption | assumption | omega) (by first | with_reducible assumption | assumption | omega) (by first | with_reducible assumption | assumption | omega)) (cwV 6 hts lg_X11_copy rfl rfl rfl ⟨rfl, hd_X11_copy⟩ ⟨Nat.le_of_ble_eq_true rfl, Nat.le_of_ble_eq_true rfl⟩) ⟨bl_, va_recvX hK.1 hPx (ci := 11) (q0 := 0) rfl rfl, fun U hU hW => ⟨rfl, by rw [hU], by rw [hU]; exact hPc, kk_mv hW hK, hDw⟩⟩ rfl rfl hl.1 rfl (lv_room (Nat.le_of_ble_eq_true rfl)) dB_law_53.2.2.2.1 ⟨(by show _ ≤ 600000; omega), (by show _ ≤ 7302250; omega)⟩) hS (fun q _ h => hFc q h) hFc (fun r_19 u t H locs ht hvm hw hB hz1 hk1 hS => ?_)
  obtain ⟨efi_20, efn0_21, efn1_22, efn2_23, efn3_24, g_25, g_26, hP1, hD1⟩ := hB
  rw [ht] at hP1
  obtain ⟨hP, hD⟩ := va_joinQ (wr := [ob3_0_ xn vp vn n1 n2 n3 n4 n5, ai_ cy n1 40 fk, ai_ cy n2 40 fs, ai_ cy n3 40 fe, ai_ cy n4 40 fw, ai_ cy n5 40 fp, aq_ cy 3 xk 5 (kf_ k0 k1 k2 k3 k4), ob6_0_ k0, ob5_0_ k1, ob9_0_ k2, ob2_0_ k3, ob8_0_ k4, ob0_0_ xc xn xk clo cro c4 c5 c6 c7 c8, aq_ cy 6 clo 12 (gf_ rl), ai_ cy (rl 0) 12 (Ml 0), ai_ cy (rl 1) 12 (Ml 1), ai_ cy (rl 2) 12 (Ml 2), ai_ cy (rl 3) 12 (Ml 3), ai_ cy (rl 4) 12 (Ml 4), ai_ cy (rl 5) 12 (Ml 5), ai_ cy (rl 6) 12 (Ml 6), ai_ cy (rl 7) 12 (Ml 7), ai_ cy (rl 8) 12 (Ml 8), ai_ cy (rl 9) 12 (Ml 9), ai_ cy (rl 10) 12 (Ml 10), ai_ cy (rl 11) 12 (Ml 11), aq_ cy 6 cro 12 (gf_ rr), ai_ cy (rr 0) 12 (Mr 0), ai_ cy (rr 1) 12 (Mr 1), ai_ cy (rr 2) 12 (Mr 2), ai_ cy (rr 3) 12 (Mr 3), ai_ cy (rr 4) 12 (Mr 4), ai_ cy (rr 5) 12 (Mr 5), ai_ cy (rr 6) 12 (Mr 6), ai_ cy (rr 7) 12 (Mr 7), ai_ cy (rr 8) 12 (Mr 8), ai_ cy (rr 9) 12 (Mr 9), ai_ cy (rr 10) 12 (Mr 10), ai_ cy (rr 11) 12 (Mr 11), ai_ cy c4 40 w4, ai_ cy c5 40 w5, ai_ cy c6 40 w6, ai_ cy c7 12 w7, ai_ cy c8 12 w8, ob7_0_ xh xc hu1 hu2 hu3 hu4 hu5 hu6 hu7 hu8, ob1_0_ xt xc ta tb, ai_ cy ta 12 fx, ai_ cy tb 12 fu, ob10_0_ xw xc xk wpo wc wf, aq_ cy 6 wpo 12 (gf_ rp), ai_ cy (rp 0) 12 (Mp 0), ai_ cy (rp 1) 12 (Mp 1), ai_ cy (rp 2) 12 (Mp 2), ai_ cy (rp 3) 12 (Mp 3), ai_ cy (rp 4) 12 (Mp 4), ai_ cy (rp 5) 12 (Mp 5), ai_ cy (rp 6) 12 (Mp 6), ai_ cy (rp 7) 12 (Mp 7), ai_ cy (rp 8) 12 (Mp 8), ai_ cy (rp 9) 12 (Mp 9), ai_ cy (rp 10) 12 (Mp 10), ai_ cy (rp 11) 12 (Mp 11), ai_ cy wc 12 fc, ai_ cy wf 12 ff, aq_ cy 5 xp 30 (pst pa pm), ob12_0_ mo s0 s1 t2 s3 s4 g5 g6 g7 g8 g9 g10 s11 g12 g13 g14 g15 g16 g17 g18 g19 g20 s21 g22 g23 g24 s25 s26 s27 s28 g29 g30 g31 g32 g33, ai_ cy g5 40 f5, ai_ cy g6 40 f6, ai_ cy g7 40 f7, ai_ cy g8 40 f8, ai_ cy g9 40 f9, az_ cy g10 40 f10, ai_ cy g12 30 f12, ai_ cy g13 30 f13, ai_ cy g14 6000 f14, az_ cy g15 4 f15, ai_ cy g16 4 f16, ai_ cy g17 4 f17, ai_ cy g18 24 f18, aj_ cy g19 120 f19, aj_ cy g20 5 f20, ai_ cy g22 40 f22, ai_ cy g23 12 f23, ai_ cy g24 12 f24, aj_ cy g29 12 f29, ai_ cy g30 12 f30, ai_ cy g31 12 f31, ai_ cy g32 12 f32, ai_ cy g33 12 f33]) (w1 := [ob11_0_ xo xk xn xc xh xt xw xm xp pf ph tr efi_20, aq_ cy 4 xm 4 (mf_ m0 m1 m2 m3), ob4_0_ m0 mk0 mr0 l0 u0, ob4_0_ m1 mk1 mr1 l1 u1, ob4_0_ m2 mk2 mr2 l2 u2, ob4_0_ m3 mk3 mr3 l3 u3, ai_ cy l0 6 fl0, ai_ cy l1 6 fl1, ai_ cy l2 6 fl2, ai_ cy l3 6 fl3, aj_ cy u0 30 efn0_21, aj_ cy u1 30 efn1_22, aj_ cy u2 30 efn2_23, aj_ cy u3 30 efn3_24]) hP hD [0, 65, 66, 67, 68, 69, 70, 71, 72, 73, 74, 75, 76, 77] [1, 2, 3, 4, 5, 6, 7, 8, 9, 10, 11, 12, 13, 14, 15, 16, 17, 18, 19, 20, 21, 22, 23, 24, 25, 26, 27, 28, 29, 30, 31, 32, 33, 34, 35, 36, 37, 38, 39, 40, 41, 42, 43, 44, 45, 46, 47, 48, 49, 50, 51, 52, 53, 54, 55, 56, 57, 58, 59, 60, 61, 62, 63, 64, 78, 79, 80, 81, 82, 83, 84, 85, 86, 87, 88, 89, 90, 91, 92, 93, 94, 95, 96, 97, 98, 99, 100, 101, 102] hC_ rfl (by decide +kernel) (by decide +kernel) hk1 hFc hP1 hD1
  refine pd_K (([ob3_0_ xn vp vn n1 n2 n3 n4 n5, ai_ cy n1 40 fk, ai_ cy n2 40 fs, ai_ cy n3 40 fe, ai_ cy n4 40 fw, ai_ cy n5 40 fp, aq_ cy 3 xk 5 (kf_ k0 k1 k2 k3 k4), ob6_0_ k0, ob5_0_ k1, ob9_0_ k2, ob2_0_ k3, ob8_0_ k4, ob0_0_ xc xn xk clo cro c4 c5 c6 c7 c8, aq_ cy 6 clo 12 (gf_ rl), ai_ cy (rl 0) 12 (Ml 0), ai_ cy (rl 1) 12 (Ml 1), ai_ cy (rl 2) 12 (Ml 2), ai_ cy (rl 3) 12 (Ml 3), ai_ cy (rl 4) 12 (Ml 4), ai_ cy (rl 5) 12 (Ml 5), ai_ cy (rl 6) 12 (Ml 6), ai_ cy (rl 7) 12 (Ml 7), ai_ cy (rl 8) 12 (Ml 8), ai_ cy (rl 9) 12 (Ml 9), ai_ cy (rl 10) 12 (Ml 10), ai_ cy (rl 11) 12 (Ml 11), aq_ cy 6 cro 12 (gf_ rr), ai_ cy (rr 0) 12 (Mr 0), ai_ cy (rr 1) 12 (Mr 1), ai_ cy (rr 2) 12 (Mr 2), ai_ cy (rr 3) 12 (Mr 3), ai_ cy (rr 4) 12 (Mr 4), ai_ cy (rr 5) 12 (Mr 5), ai_ cy (rr 6) 12 (Mr 6), ai_ cy (rr 7) 12 (Mr 7), ai_ cy (rr 8) 12 (Mr 8), ai_ cy (rr 9) 12 (Mr 9), ai_ cy (rr 10) 12 (Mr 10), ai_ cy (rr 11) 12 (Mr 11), ai_ cy c4 40 w4, ai_ cy c5 40 w5, ai_ cy c6 40 w6, ai_ cy c7 12 w7, ai_ cy c8 12 w8, ob7_0_ xh xc hu1 hu2 hu3 hu4 hu5 hu6 hu7 hu8, ob1_0_ xt xc ta tb, ai_ cy ta 12 fx, ai_ cy tb 12 fu, ob10_0_ xw xc xk wpo wc wf, aq_ cy 6 wpo 12 (gf_ rp), ai_ cy (rp 0) 12 (Mp 0), ai_ cy (rp 1) 12 (Mp 1), ai_ cy (rp 2) 12 (Mp 2), ai_ cy (rp 3) 12 (Mp 3), ai_ cy (rp 4) 12 (Mp 4), ai_ cy (rp 5) 12 (Mp 5), ai_ cy (rp 6) 12 (Mp 6), ai_ cy (rp 7) 12 (Mp 7), ai_ cy (rp 8) 12 (Mp 8), ai_ cy (rp 9) 12 (Mp 9), ai_ cy (rp 10) 12 (Mp 10), ai_ cy (rp 11) 12 (Mp 11), ai_ cy wc 12 fc, ai_ cy wf 12 ff, aq_ cy 5 xp 30 (pst pa pm), ob12_0_ mo s0 s1 t2 s3 s4 g5 g6 g7 g8 g9 g10 s11 g12 g13 g14 g15 g16 g17 g18 g19 g20 s21 g22 g23 g24 s25 s26 s27 s28 g29 g30 g31 g32 g33, ai_ cy g5 40 f5, ai_ cy g6 40 f6, ai_ cy g7 40 f7, ai_ cy g8 40 f8, ai_ cy g9 40 f9, az_ cy g10 40 f10, ai_ cy g12 30 f12, ai_ cy g13 30 f13, ai_ cy g14 6000 f14, az_ cy g15 4 f15, ai_ cy g16 4 f16, ai_ cy g17 4 f17, ai_ cy g18 24 f18, aj_ cy g19 120 f19, aj_ cy g20 5 f20, ai_ cy g22 40 f22, ai_ cy g23 12 f23, ai_ cy g24 12 f24, aj_ cy g29 12 f29, ai_ cy g30 12 f30, ai_ cy g31 12 f31, ai_ cy g32 12 f32, ai_ cy g33 12 f33, ob11_0_ xo xk xn xc xh xt xw xm xp pf ph tr efi_20, aq_ cy 4 xm 4 (mf_ m0 m1 m2 m3), ob4_0_ m0 mk0 mr0 l0 u0, ob4_0_ m1 mk1 mr1 l1 u1, ob4_0_ m2 mk2 mr2 l2 u2, ob4_0_ m3 mk3 mr3 l3 u3, ai_ cy l0 6 fl0, ai_ cy l1 6 fl1, ai_ cy l2 6 fl2, ai_ cy l3 6 fl3, aj_ cy u0 30 efn0_21, aj_ cy u1 30 efn1_22, aj_ cy u2 30 efn2_23, aj_ cy u3 30 efn3_24] : va_W) ++ (pool cy pa pv pg pm)) hP hD (fun hP hD => ?_)
  have hw_r_19 := hw
  refine lv_pop hx hb dB_law_53.2.2.2.2 rfl ?_
  refine lv_aload_n hx hb dB_law_54.1.1.1.1 rfl (lv_at hl 1 rfl) ?_
  refine lv_aload_n hx hb dB_law_54.1.1.1.2 rfl (lv_at hl 3 rfl) ?_
  refine lv_iload_n hx hb dB_law_54.1.1.2.1 rfl (lv_at hl 0 rfl) ?_
  refine lv_iconst (v := 1) hx hb dB_law_54.1.1.2.2 (by decide) ?_
  refine lv_iadd hx hb dB_law_54.1.2.1.1 ?_
  refine lv_topi (fun y_27 ey_27 => ?_)
  have e_ := (ey_27.trans ey_1.symm).symm
  subst e_
  refine va_sld hx hb hX hbl hbA hS (i := y_1) h_2 dB_law_54.1.2.1.2 ?_
  refine lv_topi (fun y_29 ey_29 => ?_)
  have e_ := (ey_29.trans ey_3.symm).symm
  subst e_
  refine lv_aload_n hx hb dB_law_54.1.2.2.1 rfl (lv_at hl 3 rfl) ?_
  refine lv_iload_n hx hb dB_law_54.1.2.2.2 rfl (lv_at hl 0 rfl) ?_
  refine lv_iconst (v := 2) hx hb dB_law_54.2.1.1.1 (by decide) ?_
  refine lv_iadd hx hb dB_law_54.2.1.1.2 ?_
  refine lv_topi (fun y_30 ey_30 => ?_)
  have e_ := (ey_30.trans ey_4.symm).symm
  subst e_
  refine va_sld hx hb hX hbl hbA hS (i := y_4) h_5 dB_law_54.2.1.2.1 ?_
  refine lv_topi (fun y_32 ey_32 => ?_)
  have e_ := (ey_32.trans ey_6.symm).symm
  subst e_
  refine lv_aload_n hx hb dB_law_54.2.1.2.2 rfl (lv_at hl 3 rfl) ?_
  refine lv_iload_n hx hb dB_law_54.2.2.1.1 rfl (lv_at hl 0 rfl) ?_
  refine lv_iconst (v := 3) hx hb dB_law_54.2.2.1.2 (by decide) ?_
  refine lv_iadd hx hb dB_law_54.2.2.2.1 ?_
  refine lv_topi (fun y_33 ey_33 => ?_)
  have e_ := (ey_33.trans ey_7.symm).symm
  subst e_
  refine va_sld hx hb hX hbl hbA hS (i := y_7) h_8 dB_law_54.2.2.2.2 ?_
  refine lv_topi (fun y_35 ey_35 => ?_)
  have e_ := (ey_35.trans ey_9.symm).symm
  subst e_
  refine lv_aload_n hx hb dB_law_55.1.1.1.1 rfl (lv_at hl 3 rfl) ?_
  refine lv_iload_n hx hb dB_law_55.1.1.1.2 rfl (lv_at hl 0 rfl) ?_
  refine lv_iconst (v := 4) hx hb dB_law_55.1.1.2.1 (by decide) ?_
  refine lv_iadd hx hb dB_law_55.1.1.2.2 ?_
  refine lv_topi (fun y_36 ey_36 => ?_)
  have e_ := (ey_36.trans ey_10.symm).symm
  subst e_
  refine va_sld hx hb hX hbl hbA hS (i := y_10) h_11 dB_law_55.1.2.1.1 ?_
  refine lv_topi (fun y_38 ey_38 => ?_)
  have e_ := (ey_38.trans ey_12.symm).symm
  subst e_
  refine lv_aload_n hx hb dB_law_55.1.2.1.2 rfl (lv_at hl 3 rfl) ?_
  refine lv_iload_n hx hb dB_law_55.1.2.2.1 rfl (lv_at hl 0 rfl) ?_
  refine lv_iconst (v := 5) hx hb dB_law_55.1.2.2.2 (by decide) ?_
  refine lv_iadd hx hb dB_law_55.2.1.1.1 ?_
  refine lv_topi (fun y_39 ey_39 => ?_)
  have e_ := (ey_39.trans ey_13.symm).symm
  subst e_
  refine va_sld hx hb hX hbl hbA hS (i := y_13) h_14 dB_law_55.2.1.1.2 ?_
  refine lv_topi (fun y_41 ey_41 => ?_)
  have e_ := (ey_41.trans ey_15.symm).symm
  subst e_
  refine lv_aload_n hx hb dB_law_55.2.1.2.1 rfl (lv_at hl 3 rfl) ?_
  refine lv_iload_n hx hb dB_law_55.2.1.2.2 rfl (lv_at hl 0 rfl) ?_
  refine lv_bipush (v := 6) hx hb dB_law_55.2.2.1.1 (by decide) ?_
  refine lv_iadd hx hb dB_law_55.2.2.1.2 ?_
  refine lv_topi (fun y_42 ey_42 => ?_)
  have e_ := (ey_42.trans ey_16.symm).symm
  subst e_
  refine va_sld hx hb hX hbl hbA hS (i := y_16) h_17 dB_law_55.2.2.2.1 ?_
  refine lv_topi (fun y_44 ey_44 => ?_)
  have e_ := (ey_44.trans ey_18.symm).symm
  subst e_
  have hPx := pp_left hP
  have hDx := dd_left hD
  refine ct_S hPx hDx hS hA [ob12_0_ mo s0 s1 t2 s3 s4 g5 g6 g7 g8 g9 g10 s11 g12 g13 g14 g15 g16 g17 g18 g19 g20 s21 g22 g23 g24 s25 s26 s27 s28 g29 g30 g31 g32 g33, az_ cy g15 4 f15, ai_ cy g17 4 f17, ai_ cy g18 24 f18, aj_ cy g19 120 f19, aj_ cy g20 5 f20] [65, 75, 77, 78, 79, 80] (by decide) rfl (fun hPc hDw hFc hC_ => ?_)
  refine va_calli (va_runV (As := [.int y_3, .int y_6, .int y_9, .int y_12, .int y_15, .int y_18]) (rest := []) ⟨hx, hb, hml, hown, hts⟩ (c_X12_copy2 l D cy H.size mo g5 g6 g7 g8 g9 g10 g12 g13 g14 g15 g16 g17 g18 g19 g20 g22 g23 g24 g29 g30 g31 g32 g33 s0 s1 s3 s4 s11 s21 s25 s26 s27 s28 t2 f15 f17 f18 f19 f20 y_3 y_6 y_9 y_12 y_15 y_18 (by first | with_reducible assumption | assumption | omega) (by first | with_reducible assumption | assumption | omega) (by first | with_reducible assumption | assumption | omega)) (cwV 6 hts lg_X12_copy rfl rfl rfl ⟨rfl, hd_X12_copy⟩ ⟨Nat.le_of_ble_eq_true rfl, Nat.le_of_ble_eq_true rfl⟩) ⟨bl_, va_recvX hK.1 hPx (ci := 12) (q0 := 65) rfl rfl, fun U hU hW => ⟨rfl, by rw [hU], by rw [hU]; exact hPc, kk_mv hW hK, hDw⟩⟩ rfl rfl hl.1 rfl (lv_room (Nat.le_of_ble_eq_true rfl)) dB_law_55.2.2.2.2 ⟨(by show _ ≤ 600000; omega), (by show _ ≤ 7302250; omega)⟩) hS (fun q _ h => hFc q h) hFc (fun r_45 u t H locs ht hvm hw hB hz1 hk1 hS => ?_)
  obtain ⟨n1_46, e19_47, e20_48, g_49, g_50, hP1, hD1⟩ := hB
  rw [ht] at hP1
  obtain ⟨hP, hD⟩ := va_joinQ (wr := [ob3_0_ xn vp vn n1 n2 n3 n4 n5, ai_ cy n1 40 fk, ai_ cy n2 40 fs, ai_ cy n3 40 fe, ai_ cy n4 40 fw, ai_ cy n5 40 fp, aq_ cy 3 xk 5 (kf_ k0 k1 k2 k3 k4), ob6_0_ k0, ob5_0_ k1, ob9_0_ k2, ob2_0_ k3, ob8_0_ k4, ob0_0_ xc xn xk clo cro c4 c5 c6 c7 c8, aq_ cy 6 clo 12 (gf_ rl), ai_ cy (rl 0) 12 (Ml 0), ai_ cy (rl 1) 12 (Ml 1), ai_ cy (rl 2) 12 (Ml 2), ai_ cy (rl 3) 12 (Ml 3), ai_ cy (rl 4) 12 (Ml 4), ai_ cy (rl 5) 12 (Ml 5), ai_ cy (rl 6) 12 (Ml 6), ai_ cy (rl 7) 12 (Ml 7), ai_ cy (rl 8) 12 (Ml 8), ai_ cy (rl 9) 12 (Ml 9), ai_ cy (rl 10) 12 (Ml 10), ai_ cy (rl 11) 12 (Ml 11), aq_ cy 6 cro 12 (gf_ rr), ai_ cy (rr 0) 12 (Mr 0), ai_ cy (rr 1) 12 (Mr 1), ai_ cy (rr 2) 12 (Mr 2), ai_ cy (rr 3) 12 (Mr 3), ai_ cy (rr 4) 12 (Mr 4), ai_ cy (rr 5) 12 (Mr 5), ai_ cy (rr 6) 12 (Mr 6), ai_ cy (rr 7) 12 (Mr 7), ai_ cy (rr 8) 12 (Mr 8), ai_ cy (rr 9) 12 (Mr 9), ai_ cy (rr 10) 12 (Mr 10), ai_ cy (rr 11) 12 (Mr 11), ai_ cy c4 40 w4, ai_ cy c5 40 w5, ai_ cy c6 40 w6, ai_ cy c7 12 w7, ai_ cy c8 12 w8, ob7_0_ xh xc hu1 hu2 hu3 hu4 hu5 hu6 hu7 hu8, ob1_0_ xt xc ta tb, ai_ cy ta 12 fx, ai_ cy tb 12 fu, ob10_0_ xw xc xk wpo wc wf, aq_ cy 6 wpo 12 (gf_ rp), ai_ cy (rp 0) 12 (Mp 0), ai_ cy (rp 1) 12 (Mp 1), ai_ cy (rp 2) 12 (Mp 2), ai_ cy (rp 3) 12 (Mp 3), ai_ cy (rp 4) 12 (Mp 4), ai_ cy (rp 5) 12 (Mp 5), ai_ cy (rp 6) 12 (Mp 6), ai_ cy (rp 7) 12 (Mp 7), ai_ cy (rp 8) 12 (Mp 8), ai_ cy (rp 9) 12 (Mp 9), ai_ cy (rp 10) 12 (Mp 10), ai_ cy (rp 11) 12 (Mp 11), ai_ cy wc 12 fc, ai_ cy wf 12 ff, aq_ cy 5 xp 30 (pst pa pm), ai_ cy g5 40 f5, ai_ cy g6 40 f6, ai_ cy g7 40 f7, ai_ cy g8 40 f8, ai_ cy g9 40 f9, az_ cy g10 40 f10, ai_ cy g12 30 f12, ai_ cy g13 30 f13, ai_ cy g14 6000 f14, ai_ cy g16 4 f16, ai_ cy g22 40 f22, ai_ cy g23 12 f23, ai_ cy g24 12 f24, aj_ cy g29 12 f29, ai_ cy g30 12 f30, ai_ cy g31 12 f31, ai_ cy g32 12 f32, ai_ cy g33 12 f33, ob11_0_ xo xk xn xc xh xt xw xm xp pf ph tr efi_20, aq_ cy 4 xm 4 (mf_ m0 m1 m2 m3), ob4_0_ m0 mk0 mr0 l0 u0, ob4_0_ m1 mk1 mr1 l1 u1, ob4_0_ m2 mk2 mr2 l2 u2, ob4_0_ m3 mk3 mr3 l3 u3, ai_ cy l0 6 fl0, ai_ cy l1 6 fl1, ai_ cy l2 6 fl2, ai_ cy l3 6 fl3, aj_ cy u0 30 efn0_21, aj_ cy u1 30 efn1_22, aj_ cy u2 30 efn2_23, aj_ cy u3 30 efn3_24]) (w1 := [ob12_0_ mo 0 n1_46 t2 s3 s4 g5 g6 g7 g8 g9 g10 s11 g12 g13 g14 g15 g16 g17 g18 g19 g20 s21 g22 g23 g24 s25 s26 s27 s28 g29 g30 g31 g32 g33, az_ cy g15 4 f15, ai_ cy g17 4 f17, ai_ cy g18 24 f18, aj_ cy g19 120 e19_47, aj_ cy g20 5 e20_48]) hP hD [65, 75, 77, 78, 79, 80] [0, 1, 2, 3, 4, 5, 6, 7, 8, 9, 10, 11, 12, 13, 14, 15, 16, 17, 18, 19, 20, 21, 22, 23, 24, 25, 26, 27, 28, 29, 30, 31, 32, 33, 34, 35, 36, 37, 38, 39, 40, 41, 42, 43, 44, 45, 46, 47, 48, 49, 50, 51, 52, 53, 54, 55, 56, 57, 58, 59, 60, 61, 62, 63, 64, 66, 67, 68, 69, 70, 71, 72, 73, 74, 76, 81, 82, 83, 84, 85, 86, 87, 88, 89, 90, 91, 92, 93, 94, 95, 96, 97, 98, 99, 100, 101, 102] hC_ rfl (by decide +kernel) (by decide +kernel) hk1 hFc hP1 hD1
  refine pd_K (([ob3_0_ xn vp vn n1 n2 n3 n4 n5, ai_ cy n1 40 fk, ai_ cy n2 40 fs, ai_ cy n3 40 fe, ai_ cy n4 40 fw, ai_ cy n5 40 fp, aq_ cy 3 xk 5 (kf_ k0 k1 k2 k3 k4), ob6_0_ k0, ob5_0_ k1, ob9_0_ k2, ob2_0_ k3, ob8_0_ k4, ob0_0_ xc xn xk clo cro c4 c5 c6 c7 c8, aq_ cy 6 clo 12 (gf_ rl), ai_ cy (rl 0) 12 (Ml 0), ai_ cy (rl 1) 12 (Ml 1), ai_ cy (rl 2) 12 (Ml 2), ai_ cy (rl 3) 12 (Ml 3), ai_ cy (rl 4) 12 (Ml 4), ai_ cy (rl 5) 12 (Ml 5), ai_ cy (rl 6) 12 (Ml 6), ai_ cy (rl 7) 12 (Ml 7), ai_ cy (rl 8) 12 (Ml 8), ai_ cy (rl 9) 12 (Ml 9), ai_ cy (rl 10) 12 (Ml 10), ai_ cy (rl 11) 12 (Ml 11), aq_ cy 6 cro 12 (gf_ rr), ai_ cy (rr 0) 12 (Mr 0), ai_ cy (rr 1) 12 (Mr 1), ai_ cy (rr 2) 12 (Mr 2), ai_ cy (rr 3) 12 (Mr 3), ai_ cy (rr 4) 12 (Mr 4), ai_ cy (rr 5) 12 (Mr 5), ai_ cy (rr 6) 12 (Mr 6), ai_ cy (rr 7) 12 (Mr 7), ai_ cy (rr 8) 12 (Mr 8), ai_ cy (rr 9) 12 (Mr 9), ai_ cy (rr 10) 12 (Mr 10), ai_ cy (rr 11) 12 (Mr 11), ai_ cy c4 40 w4, ai_ cy c5 40 w5, ai_ cy c6 40 w6, ai_ cy c7 12 w7, ai_ cy c8 12 w8, ob7_0_ xh xc hu1 hu2 hu3 hu4 hu5 hu6 hu7 hu8, ob1_0_ xt xc ta tb, ai_ cy ta 12 fx, ai_ cy tb 12 fu, ob10_0_ xw xc xk wpo wc wf, aq_ cy 6 wpo 12 (gf_ rp), ai_ cy (rp 0) 12 (Mp 0), ai_ cy (rp 1) 12 (Mp 1), ai_ cy (rp 2) 12 (Mp 2), ai_ cy (rp 3) 12 (Mp 3), ai_ cy (rp 4) 12 (Mp 4), ai_ cy (rp 5) 12 (Mp 5), ai_ cy (rp 6) 12 (Mp 6), ai_ cy (rp 7) 12 (Mp 7), ai_ cy (rp 8) 12 (Mp 8), ai_ cy (rp 9) 12 (Mp 9), ai_ cy (rp 10) 12 (Mp 10), ai_ cy (rp 11) 12 (Mp 11), ai_ cy wc 12 fc, ai_ cy wf 12 ff, aq_ cy 5 xp 30 (pst pa pm), ai_ cy g5 40 f5, ai_ cy g6 40 f6, ai_ cy g7 40 f7, ai_ cy g8 40 f8, ai_ cy g9 40 f9, az_ cy g10 40 f10, ai_ cy g12 30 f12, ai_ cy g13 30 f13, ai_ cy g14 6000 f14, ai_ cy g16 4 f16, ai_ cy g22 40 f22, ai_ cy g23 12 f23, ai_ cy g24 12 f24, aj_ cy g29 12 f29, ai_ cy g30 12 f30, ai_ cy g31 12 f31, ai_ cy g32 12 f32, ai_ cy g33 12 f33, ob11_0_ xo xk xn xc xh xt xw xm xp pf ph tr efi_20, aq_ cy 4 xm 4 (mf_ m0 m1 m2 m3), ob4_0_ m0 mk0 mr0 l0 u0, ob4_0_ m1 mk1 mr1 l1 u1, ob4_0_ m2 mk2 mr2 l2 u2, ob4_0_ m3 mk3 mr3 l3 u3, ai_ cy l0 6 fl0, ai_ cy l1 6 fl1, ai_ cy l2 6 fl2, ai_ cy l3 6 fl3, aj_ cy u0 30 efn0_21, aj_ cy u1 30 efn1_22, aj_ cy u2 30 efn2_23, aj_ cy u3 30 efn3_24, ob12_0_ mo 0 n1_46 t2 s3 s4 g5 g6 g7 g8 g9 g10 s11 g12 g13 g14 g15 g16 g17 g18 g19 g20 s21 g22 g23 g24 s25 s26 s27 s28 g29 g30 g31 g32 g33, az_ cy g15 4 f15, ai_ cy g17 4 f17, ai_ cy g18 24 f18, aj_ cy g19 120 e19_47, aj_ cy g20 5 e20_48] : va_W) ++ (pool cy pa pv pg pm)) hP hD (fun hP hD => ?_)
  have hw_r_45 := hw
  refine lv_pop hx hb dB_law_56.1.1.1.1 rfl ?_
  refine lv_goto (tgt := 1333) hx hb dB_law_56.1.1.1.2 (by decide) ?_
  have hmr2_ := mrel_copy hmr h6_ h5_ g_25 g_26 g_49 g_50
  have hst2_ := Int32.toInt_inj.mp (g_25.trans ((cpy_same hmr h6_).trans g_49.symm))
  refine pd_P hP hD [ob11_0_ xo xk xn xc xh xt xw xm xp pf ph tr efi_20, ob3_0_ xn vp vn n1 n2 n3 n4 n5, ai_ cy n1 40 fk, ai_ cy n2 40 fs, ai_ cy n3 40 fe, ai_ cy n4 40 fw, ai_ cy n5 40 fp, aq_ cy 3 xk 5 (kf_ k0 k1 k2 k3 k4), ob6_0_ k0, ob5_0_ k1, ob9_0_ k2, ob2_0_ k3, ob8_0_ k4, ob0_0_ xc xn xk clo cro c4 c5 c6 c7 c8, aq_ cy 6 clo 12 (gf_ rl), ai_ cy (rl 0) 12 (Ml 0), ai_ cy (rl 1) 12 (Ml 1), ai_ cy (rl 2) 12 (Ml 2), ai_ cy (rl 3) 12 (Ml 3), ai_ cy (rl 4) 12 (Ml 4), ai_ cy (rl 5) 12 (Ml 5), ai_ cy (rl 6) 12 (Ml 6), ai_ cy (rl 7) 12 (Ml 7), ai_ cy (rl 8) 12 (Ml 8), ai_ cy (rl 9) 12 (Ml 9), ai_ cy (rl 10) 12 (Ml 10), ai_ cy (rl 11) 12 (Ml 11), aq_ cy 6 cro 12 (gf_ rr), ai_ cy (rr 0) 12 (Mr 0), ai_ cy (rr 1) 12 (Mr 1), ai_ cy (rr 2) 12 (Mr 2), ai_ cy (rr 3) 12 (Mr 3), ai_ cy (rr 4) 12 (Mr 4), ai_ cy (rr 5) 12 (Mr 5), ai_ cy (rr 6) 12 (Mr 6), ai_ cy (rr 7) 12 (Mr 7), ai_ cy (rr 8) 12 (Mr 8), ai_ cy (rr 9) 12 (Mr 9), ai_ cy (rr 10) 12 (Mr 10), ai_ cy (rr 11) 12 (Mr 11), ai_ cy c4 40 w4, ai_ cy c5 40 w5, ai_ cy c6 40 w6, ai_ cy c7 12 w7, ai_ cy c8 12 w8, ob7_0_ xh xc hu1 hu2 hu3 hu4 hu5 hu6 hu7 hu8, ob1_0_ xt xc ta tb, ai_ cy ta 12 fx, ai_ cy tb 12 fu, ob10_0_ xw xc xk wpo wc wf, aq_ cy 6 wpo 12 (gf_ rp), ai_ cy (rp 0) 12 (Mp 0), ai_ cy (rp 1) 12 (Mp 1), ai_ cy (rp 2) 12 (Mp 2), ai_ cy (rp 3) 12 (Mp 3), ai_ cy (rp 4) 12 (Mp 4), ai_ cy (rp 5) 12 (Mp 5), ai_ cy (rp 6) 12 (Mp 6), ai_ cy (rp 7) 12 (Mp 7), ai_ cy (rp 8) 12 (Mp 8), ai_ cy (rp 9) 12 (Mp 9), ai_ cy (rp 10) 12 (Mp 10), ai_ cy (rp 11) 12 (Mp 11), ai_ cy wc 12 fc, ai_ cy wf 12 ff, aq_ cy 4 xm 4 (mf_ m0 m1 m2 m3), ob4_0_ m0 mk0 mr0 l0 u0, ob4_0_ m1 mk1 mr1 l1 u1, ob4_0_ m2 mk2 mr2 l2 u2, ob4_0_ m3 mk3 mr3 l3 u3, ai_ cy l0 6 fl0, ai_ cy l1 6 fl1, ai_ cy l2 6 fl2, ai_ cy l3 6 fl3, aj_ cy u0 30 efn0_21, aj_ cy u1 30 efn1_22, aj_ cy u2 30 efn2_23, aj_ cy u3 30 efn3_24, aq_ cy 5 xp 30 (pst pa pm), ob12_0_ mo 0 n1_46 t2 s3 s4 g5 g6 g7 g8 g9 g10 s11 g12 g13 g14 g15 g16 g17 g18 g19 g20 s21 g22 g23 g24 s25 s26 s27 s28 g29 g30 g31 g32 g33, ai_ cy g5 40 f5, ai_ cy g6 40 f6, ai_ cy g7 40 f7, ai_ cy g8 40 f8, ai_ cy g9 40 f9, az_ cy g10 40 f10, ai_ cy g12 30 f12, ai_ cy g13 30 f13, ai_ cy g14 6000 f14, az_ cy g15 4 f15, ai_ cy g16 4 f16, ai_ cy g17 4 f17, ai_ cy g18 24 f18, aj_ cy g19 120 e19_47, aj_ cy g20 5 e20_48, ai_ cy g22 40 f22, ai_ cy g23 12 f23, ai_ cy g24 12 f24, aj_ cy g29 12 f29, ai_ cy g30 12 f30, ai_ cy g31 12 f31, ai_ cy g32 12 f32, ai_ cy g33 12 f33] [83, 0, 1, 2, 3, 4, 5, 6, 7, 8, 9, 10, 11, 12, 13, 14, 15, 16, 17, 18, 19, 20, 21, 22, 23, 24, 25, 26, 27, 28, 29, 30, 31, 32, 33, 34, 35, 36, 37, 38, 39, 40, 41, 42, 43, 44, 45, 46, 47, 48, 49, 50, 51, 52, 53, 54, 55, 56, 57, 58, 59, 60, 61, 62, 63, 84, 85, 86, 87, 88, 89, 90, 91, 92, 93, 94, 95, 96, 64, 97, 65, 66, 67, 68, 69, 70, 71, 72, 73, 98, 74, 99, 100, 101, 102, 75, 76, 77, 78, 79, 80, 81, 82] (by decide +kernel) rfl (fun hP hD => ?_)
  refine W.widen (k := cells + 6) (n := slots + 207) (by omega) (by omega) ?_
  exact cont xk xn xc xh xt xw xm xp n1 n2 n3 n4 n5 k0 k1 k2 k3 k4 clo cro c4 c5 c6 c7 c8 ta tb wpo wc wf m0 l0 u0 m1 l1 u1 m2 l2 u2 m3 l3 u3 g5 g6 g7 g8 g9 g10 g12 g13 g14 g15 g16 g17 g18 g19 g20 g22 g23 g24 g29 g30 g31 g32 g33 rl rr rp Ml Mr Mp pf ph efi_20 vp vn hu1 hu2 hu3 hu4 hu5 hu6 hu7 hu8 mk0 mk1 mk2 mk3 mr0 mr1 mr2 mr3 (0 : Int32) n1_46 s3 s4 s11 s21 s25 s26 s27 s28 tr t2 fk fs fe fw fp w4 w5 w6 w7 w8 fx fu fc ff fl0 fl1 fl2 fl3 efn0_21 efn1_22 efn2_23 efn3_24 f5 f6 f7 f8 f9 f10 f12 f13 f14 f15 f16 f17 f18 e19_47 e20_48 f22 f23 f24 f29 f30 f31 f32 f33 pa pv pg pm H locs ls hP hD (by first | with_reducible assumption | assumption | omega) (by first | with_reducible assumption | assumption | omega) (by first | with_reducible assumption | assumption | omega) (by first | with_reducible assumption | assumption | exact (show nok vp vn fk fs fe fw fp by assumption).2.2.2.1) (by first | with_reducible assumption | assumption | exact (show nok vp vn fk fs fe fw fp by assumption).2.2.1) (by first | with_reducible assumption | assumption | exact (show nok vp vn fk fs fe fw fp by assumption).2.2.2.2.1) (by first | with_reducible assumption | assumption | exact (show nok vp vn fk fs fe fw fp by assumption).2.2.2.2.2) (by first | with_reducible assumption | assumption | omega) (by first | with_reducible assumption | assumption | omega) (by first | with_reducible assumption | assumption | omega) (by first | with_reducible assumption | assumption | omega) (by first | with_reducible assumption | assumption | omega) (by first | with_reducible assumption | assumption | omega) (by first | with_reducible assumption | assumption | omega) (by first | with_reducible assumption | assumption | omega) (by first | with_reducible assumption | assumption | omega) (by first | with_reducible assumption | assumption | omega) (by first | with_reducible assumption | assumption | omega) (by first | with_reducible assumption | assumption | omega) (by first | with_reducible assumption | assumption | omega) (by first | with_reducible assumption | assumption | omega) (by first | with_reducible assumption | assumption | omega) (by first | with_reducible assumption | assumption | omega) (by first | with_reducible assumption | assumption | omega) (by first | with_reducible assumption | assumption | omega) (by first | with_reducible assumption | assumption | omega) (by first | with_reducible assumption | assumption | omega) (by first | with_reducible assumption | assumption | omega) (by first | with_reducible assumption | assumption | omega) (by first | with_reducible assumption | assumption | omega) (by first | with_reducible assumption | assumption | omega) (by first | with_reducible assumption | assumption | omega) (by first | with_reducible assumption | assumption | omega) (by first | with_reducible assumption | assumption | omega) (by first | with_reducible assumption | assumption | omega) (by first | with_reducible assumption | assumption | omega) (by first | with_reducible assumption | assumption | omega) (by first | with_reducible assumption | assumption | omega) (by first | with_reducible assumption | assumption | omega) (hmr2_) (by first | with_reducible assumption | assumption | omega) (by first | with_reducible assumption | assumption | omega) (hst2_) hS (lv_sub hl [0, 1, 2, 3] rfl)
