section
set_option maxHeartbeats 4000000 in
set_option maxRecDepth 100000 in
theorem c_X11_remember (l : Launch) (D : va_G) (cy : Nat → ClassId) (sz : Nat) (xo : Nat) (xk : Nat) (xn : Nat) (xc : Nat) (xh : Nat) (xt : Nat) (xw : Nat) (xm : Nat) (xp : Nat) (pf : Int32) (ph : Int32) (tr : Int64) (fi : Int32) (n1 : Nat) (n2 : Nat) (n3 : Nat) (n4 : Nat) (n5 : Nat) (vp : Int32) (vn : Int32) (fk : Nat → Int32) (fs : Nat → Int32) (fe : Nat → Int32) (fw : Nat → Int32) (fp : Nat → Int32) (pa : Nat → Nat → Nat) (pv : Nat → Nat → Int32) (pg : Nat → Nat → Nat → Int32) (pm : Nat) (hnk : nok vp vn fk fs fe fw fp) (hpk : pok pv pg pm) (hrk : rok pf ph pm) (hpr : prng fs fe 40) (r_fk : rng fk 40 (0) (4)) (r_fw : rng fw 40 (0) (2000)) (r_fp : rng fp 40 (0) (100)) : Met l yX11_remember wsX11_remember ({ frames := 2, cells := 6, slots := 207, locals := 61 }) (va_Pc [.ref xo] (fun U => U.heap.size = sz ∧ va_P D vwCl (([ob11_0_ xo xk xn xc xh xt xw xm xp pf ph tr fi, ob3_0_ xn vp vn n1 n2 n3 n4 n5, ai_ cy n1 40 fk, ai_ cy n2 40 fs, ai_ cy n3 40 fe, ai_ cy n4 40 fw, ai_ cy n5 40 fp, aq_ cy 5 xp 30 (pst pa pm)] : va_W) ++ (pool cy pa pv pg pm)) U.heap ∧ kk_ D cy U ∧ va_D (fun _ => True) (([ob11_0_ xo xk xn xc xh xt xw xm xp pf ph tr fi, ob3_0_ xn vp vn n1 n2 n3 n4 n5, ai_ cy n1 40 fk, ai_ cy n2 40 fs, ai_ cy n3 40 fe, ai_ cy n4 40 fw, ai_ cy n5 40 fp, aq_ cy 5 xp 30 (pst pa pm)] : va_W) ++ (pool cy pa pv pg pm)))) (va_Qv (fun (_ : Unit) => True) (fun (_ : Unit) (t : State) => ∃ (epf : Int32), ∃ (eph : Int32), ∃ (epa : Nat → Nat → Nat), ∃ (epv : Nat → Nat → Int32), ∃ (epg : Nat → Nat → Nat → Int32), ∃ (epm : Nat), (nok vp vn fk fs fe fw fp) ∧ (pok epv epg epm) ∧ (rok epf eph epm) ∧ va_P D vwCl (([ob11_0_ xo xk xn xc xh xt xw xm xp epf eph tr fi, ob3_0_ xn vp vn n1 n2 n3 n4 n5, ai_ cy n1 40 fk, ai_ cy n2 40 fs, ai_ cy n3 40 fe, ai_ cy n4 40 fw, ai_ cy n5 40 fp, aq_ cy 5 xp 30 (pst epa epm)] : va_W) ++ (pool cy epa epv epg epm)) t.heap ∧ va_D (va_A (([ob11_0_ xo xk xn xc xh xt xw xm xp pf ph tr fi, ob3_0_ xn vp vn n1 n2 n3 n4 n5, ai_ cy n1 40 fk, ai_ cy n2 40 fs, ai_ cy n3 40 fe, ai_ cy n4 40 fw, ai_ cy n5 40 fp, aq_ cy 5 xp 30 (pst pa pm)] : va_W) ++ (pool cy pa pv pg pm)) sz) (([ob11_0_ xo xk xn xc xh xt xw xm xp epf eph tr fi, ob3_0_ xn vp vn n1 n2 n3 n4 n5, ai_ cy n1 40 fk, ai_ cy n2 40 fs, ai_ cy n3 40 fe, ai_ cy n4 40 fw, ai_ cy n5 40 fp, aq_ cy 5 xp 30 (pst epa epm)] : va_W) ++ (pool cy epa epv epg epm))) (va_A (([ob11_0_ xo xk xn xc xh xt xw xm xp pf ph tr fi, ob3_0_ xn vp vn n1 n2 n3 n4 n5, ai_ cy n1 40 fk, ai_ cy n2 40 fs, ai_ cy n3 40 fe, ai_ cy n4 40 fw, ai_ cy n5 40 fp, aq_ cy 5 xp 30 (pst pa pm)] : va_W) ++ (pool cy pa pv pg pm)) sz)) 6 207 (va_A (([ob11_0_ xo xk xn xc xh xt xw xm xp pf ph tr fi, ob3_0_ xn vp vn n1 n2 n3 n4 n5, ai_ cy n1 40 fk, ai_ cy n2 40 fs, ai_ cy n3 40 fe, ai_ cy n4 40 fw, ai_ cy n5 40 fp, aq_ cy 5 xp 30 (pst pa pm)] : va_W) ++ (pool cy pa pv pg pm)) sz) := by
  refine ofQ (cc := cX11_remember) (maxL := 2) (ret := none) (by decide) rfl ?_
  intro p e s m args below meth c s₁ Q hQ B hml hv
  obtain ⟨rfl, hsz, hP, hK, hD0⟩ := hv
  have hx := B.exec
  have hb := B.bytes
  have hr := B.returns
  have hts := atoms_spec (ws := wsX11_remember) B.pre
  have hown : s.vm.findClass RX11 = some m.cls := by have h_ := findClass_of_methodNamed B.named; exact h_
  have hlocks := B.notSynchronized
  subst hsz
  have hD := hD0.self (sz := s.heap.size)
  generalize hAe : va_A (([ob11_0_ xo xk xn xc xh xt xw xm xp pf ph tr fi, ob3_0_ xn vp vn n1 n2 n3 n4 n5, ai_ cy n1 40 fk, ai_ cy n2 40 fs, ai_ cy n3 40 fe, ai_ cy n4 40 fw, ai_ cy n5 40 fp, aq_ cy 5 xp 30 (pst pa pm)] : va_W) ++ (pool cy pa pv pg pm)) s.heap.size = A at hD hQ
  have hA : ∀ q : Nat, s.heap.size ≤ q → A q := fun q h => by rw [← hAe]; exact Or.inr h
  have hS : va_S A s.heap s.heap [] := va_S.rf
  have hl := lv_entry ([.ref xo]) (n := 2) (Nat.le_of_ble_eq_true rfl)
  rw [lg_entry_eq]
  generalize (lg_sl ([.ref xo]) ++ List.replicate (2 - (lg_sl ([.ref xo])).length) Slot.unset).toArray = ls at hl ⊢
  have hl : lv_has ls 2 [(0, .ref xo)] := hl
  have z0 : (0 : Int32).toInt = 0 := by decide
  have z1 : (1 : Int32).toInt = 1 := by decide
  have z30 : (30 : Int32).toInt = 30 := by decide
  have hvp := hnk.1
  have hvn := hnk.2.1
  have hr_ := hrk
  unfold rok at hr_
  refine lv_aload_n hx hb dB_36_3_41.2.2.1.1 rfl (lv_at hl 0 rfl) ?_
  refine va_get (ci := 11) (v := .int pf) (C := RX11) (T := TX11) (N := 12) hx hb hts (fun _ h => List.mem_cons_of_mem _ (List.mem_append_left _ (List.mem_append_right _ h))) hown hK.1 hP 0 rfl rfl 8 (by decide) (hts (.fieldLink RX11 80 "CutAtlas" "pastFirst" "I") (List.mem_of_getElem? (i := 1) rfl)) (fun _ h9 => h9) rfl dB_36_3_41.2.2.1.2 ?_
  refine lv_aload_n hx hb dB_36_3_41.2.2.2.1 rfl (lv_at hl 0 rfl) ?_
  refine va_get (ci := 11) (v := .int ph) (C := RX11) (T := TX11) (N := 12) hx hb hts (fun _ h => List.mem_cons_of_mem _ (List.mem_append_left _ (List.mem_append_right _ h))) hown hK.1 hP 0 rfl rfl 9 (by decide) (hts (.fieldLink RX11 84 "CutAtlas" "pastHeld" "I") (List.mem_of_getElem? (i := 2) rfl)) (fun _ h9 => h9) rfl dB_36_3_41.2.2.2.2 ?_
  refine lv_iadd hx hb dB_36_3_42.1.1.1.1 ?_
  refine lv_topi (fun y_1 ey_1 => ?_)
  have ty_1 : y_1.toInt = pf.toInt + ph.toInt := by rw [ey_1]; exact addI (by omega) (by omega)
  refine lv_bipush (v := 30) hx hb dB_36_3_42.1.1.1.2 (by decide) ?_
  refine lv_irem hx hb dB_36_3_42.1.1.2.1 (by decide) ?_
  refine lv_topi (fun y_2 ey_2 => ?_)
  have ty_2 : y_2.toInt = y_1.toInt % 30 := by rw [ey_2]; exact rem30 (by omega)
  refine lv_istore_n (lv' := [(1, .int y_2), (0, .ref xo)]) hx hb dB_36_3_42.1.1.2.2 rfl hl (by decide) rfl (fun ls hl => ?_)
  have cs_ := clI (i := y_2) (by omega)
  refine lv_aload_n hx hb dB_36_3_42.1.2.1.1 rfl (lv_at hl 1 rfl) ?_
  refine va_get (ci := 11) (v := .int ph) (C := RX11) (T := TX11) (N := 12) hx hb hts (fun _ h => List.mem_cons_of_mem _ (List.mem_append_left _ (List.mem_append_right _ h))) hown hK.1 hP 0 rfl rfl 9 (by decide) (hts (.fieldLink RX11 84 "CutAtlas" "pastHeld" "I") (List.mem_of_getElem? (i := 2) rfl)) (fun _ h9 => h9) rfl dB_36_3_42.1.2.1.2 ?_
  refine lv_bipush (v := 30) hx hb dB_36_3_42.1.2.2.1 (by decide) ?_
  refine lv_icmp_ge (tgt := 35) hx hb dB_36_3_42.1.2.2.2 (by decide) (fun c_3 => ?_) (fun c_3 => ?_)
  · have t_3 : (30 : Int32).toInt ≤ ph.toInt := Int32.le_iff_toInt_le.mp c_3
    refine lv_aload_n hx hb dB_36_3_42.2.2.2.2 rfl (lv_at hl 1 rfl) ?_
    refine lv_aload_n hx hb dB_36_3_43.1.1.1.1 rfl (lv_at hl 1 rfl) ?_
    refine va_get (ci := 11) (v := .int pf) (C := RX11) (T := TX11) (N := 12) hx hb hts (fun _ h => List.mem_cons_of_mem _ (List.mem_append_left _ (List.mem_append_right _ h))) hown hK.1 hP 0 rfl rfl 8 (by decide) (hts (.fieldLink RX11 80 "CutAtlas" "pastFirst" "I") (List.mem_of_getElem? (i := 1) rfl)) (fun _ h9 => h9) rfl dB_36_3_43.1.1.1.2 ?_
    refine lv_iconst (v := 1) hx hb dB_36_3_43.1.1.2.1 (by decide) ?_
    refine lv_iadd hx hb dB_36_3_43.1.1.2.2 ?_
    refine lv_topi (fun y_4 ey_4 => ?_)
    have ty_4 : y_4.toInt = pf.toInt + (1 : Int32).toInt := by rw [ey_4]; exact addI (by omega) (by omega)
    refine lv_bipush (v := 30) hx hb dB_36_3_43.1.2.1.1 (by decide) ?_
    refine lv_irem hx hb dB_36_3_43.1.2.1.2 (by decide) ?_
    refine lv_topi (fun y_5 ey_5 => ?_)
    have ty_5 : y_5.toInt = y_4.toInt % 30 := by rw [ey_5]; exact rem30 (by omega)
    refine va_put (ci := 11) (v := .int y_5) (ty := .int) (C := RX11) (T := TX11) (N := 12) hx hb hts (fun _ h => List.mem_cons_of_mem _ (List.mem_append_left _ (List.mem_append_right _ h))) tyX11 tyX11_ok nmX11 hown hK.1 hP hD hS 0 rfl rfl 8 (by decide) (hts (.fieldLink RX11 80 "CutAtlas" "pastFirst" "I") (List.mem_of_getElem? (i := 1) rfl)) (fun _ h9 => h9) rfl (by decide +kernel) rfl rfl (Nat.le_of_ble_eq_true rfl) dB_36_3_43.1.2.2.1 (fun H locs hP hD hS => ?_)
    refine pd_K (([ob11_0_ xo xk xn xc xh xt xw xm xp y_5 ph tr fi, ob3_0_ xn vp vn n1 n2 n3 n4 n5, ai_ cy n1 40 fk, ai_ cy n2 40 fs, ai_ cy n3 40 fe, ai_ cy n4 40 fw, ai_ cy n5 40 fp, aq_ cy 5 xp 30 (pst pa pm)] : va_W) ++ (pool cy pa pv pg pm)) hP hD (fun hP hD => ?_)
    refine lv_aload_n hx hb dB_36_3_43.1.2.2.2 rfl (lv_at hl 1 rfl) ?_
    refine va_get (ci := 11) (v := .ref xp) (C := RX11) (T := TX11) (N := 12) hx hb hts (fun _ h => List.mem_cons_of_mem _ (List.mem_append_left _ (List.mem_append_right _ h))) hown hK.1 hP 0 rfl rfl 7 (by decide) (hts (.fieldLink RX11 76 "CutAtlas" "past" "[LCutAtlas$Net;") (List.mem_of_getElem? (i := 3) rfl)) (fun _ h9 => h9) rfl dB_36_3_43.2.1.1.1 ?_
    refine lv_iload_n hx hb dB_36_3_43.2.1.1.2 rfl (lv_at hl 0 rfl) ?_
    have h_6 : vp_in y_2 30 := in_I (by omega) (by omega)
    refine va_aldq hx hb hK.1 hP 7 5 rfl rfl (i := y_2) h_6 dB_36_3_43.2.1.2.1 ?_
    by_cases hlt_ : y_2.toNatClampNeg < pm
    · refine lv_topv (v' := .ref (pa y_2.toNatClampNeg 0)) (pst_some hlt_) ?_
      refine lv_ifnonnull (tgt := 70) hx hb dB_36_3_43.2.1.2.2 (by decide) ?_
      refine lv_aload_n hx hb dB_36_3_44.1.1.2.2 rfl (lv_at hl 1 rfl) ?_
      refine va_get (ci := 11) (v := .ref xp) (C := RX11) (T := TX11) (N := 12) hx hb hts (fun _ h => List.mem_cons_of_mem _ (List.mem_append_left _ (List.mem_append_right _ h))) hown hK.1 hP 0 rfl rfl 7 (by decide) (hts (.fieldLink RX11 76 "CutAtlas" "past" "[LCutAtlas$Net;") (List.mem_of_getElem? (i := 3) rfl)) (fun _ h9 => h9) rfl dB_36_3_44.1.2.1.1 ?_
      refine lv_iload_n hx hb dB_36_3_44.1.2.1.2 rfl (lv_at hl 0 rfl) ?_
      have h_7 : vp_in y_2 30 := in_I (by omega) (by omega)
      refine va_aldq hx hb hK.1 hP 7 5 rfl rfl (i := y_2) h_7 dB_36_3_44.1.2.2.1 ?_
      have hlt_ : y_2.toNatClampNeg < pm := hlt_
      refine lv_topv (v' := .ref (pa y_2.toNatClampNeg 0)) (pst_some hlt_) ?_
      have hk_ : y_2.toNatClampNeg < pm := hlt_
      have hP := foc_P hk_ hP
      have hD := foc_D hk_ hD
      refine pd_K (([ob11_0_ xo xk xn xc xh xt xw xm xp y_5 ph tr fi, ob3_0_ xn vp vn n1 n2 n3 n4 n5, ai_ cy n1 40 fk, ai_ cy n2 40 fs, ai_ cy n3 40 fe, ai_ cy n4 40 fw, ai_ cy n5 40 fp, aq_ cy 5 xp 30 (pst pa pm), ob3_0_ (pa y_2.toNatClampNeg 0) (pv y_2.toNatClampNeg 0) (pv y_2.toNatClampNeg 1) (pa y_2.toNatClampNeg 1) (pa y_2.toNatClampNeg 2) (pa y_2.toNatClampNeg 3) (pa y_2.toNatClampNeg 4) (pa y_2.toNatClampNeg 5), ai_ cy (pa y_2.toNatClampNeg 1) 40 (pg y_2.toNatClampNeg 1), ai_ cy (pa y_2.toNatClampNeg 2) 40 (pg y_2.toNatClampNeg 2), ai_ cy (pa y_2.toNatClampNeg 3) 40 (pg y_2.toNatClampNeg 3), ai_ cy (pa y_2.toNatClampNeg 4) 40 (pg y_2.toNatClampNeg 4), ai_ cy (pa y_2.toNatClampNeg 5) 40 (pg y_2.toNatClampNeg 5)] : va_W) ++ (prest cy pa pv pg pm y_2.toNatClampNeg)) hP hD (fun hP hD => ?_)
      have hn_8 := hpk y_2.toNatClampNeg hk_
      have rr_9 : rng (pg y_2.toNatClampNeg 1) 40 (0) (4) := hn_8.2.2.1
      have rr_10 : rng (pg y_2.toNatClampNeg 4) 40 (0) (2000) := hn_8.2.2.2.2.1
      have rr_11 : rng (pg y_2.toNatClampNeg 5) 40 (0) (100) := hn_8.2.2.2.2.2
      have hnp_ := hn_8.1; have hnl_ := hn_8.2.1; have hnpr_ := hn_8.2.2.2.1
      refine lv_aload_n hx hb dB_36_3_44.1.2.2.2 rfl (lv_at hl 1 rfl) ?_
      refine va_get (ci := 11) (v := .ref xn) (C := RX11) (T := TX11) (N := 12) hx hb hts (fun _ h => List.mem_cons_of_mem _ (List.mem_append_left _ (List.mem_append_right _ h))) hown hK.1 hP 0 rfl rfl 1 (by decide) (hts (.fieldLink RX11 31 "CutAtlas" "net" "LCutAtlas$Net;") (List.mem_of_getElem? (i := 7) rfl)) (fun _ h9 => h9) rfl dB_36_3_44.2.1.1.1 ?_
      have hPx := pp_left hP
      have hDx := dd_left hD
      refine ct_S hPx hDx hS hA [ob3_0_ (pa y_2.toNatClampNeg 0) (pv y_2.toNatClampNeg 0) (pv y_2.toNatClampNeg 1) (pa y_2.toNatClampNeg 1) (pa y_2.toNatClampNeg 2) (pa y_2.toNatClampNeg 3) (pa y_2.toNatClampNeg 4) (pa y_2.toNatClampNeg 5), ai_ cy (pa y_2.toNatClampNeg 1) 40 (pg y_2.toNatClampNeg 1), ai_ cy (pa y_2.toNatClampNeg 2) 40 (pg y_2.toNatClampNeg 2), ai_ cy (pa y_2.toNatClampNeg 3) 40 (pg y_2.toNatClampNeg 3), ai_ cy (pa y_2.toNatClampNeg 4) 40 (pg y_2.toNatClampNeg 4), ai_ cy (pa y_2.toNatClampNeg 5) 40 (pg y_2.toNatClampNeg 5), ob3_0_ xn vp vn n1 n2 n3 n4 n5, ai_ cy n1 40 fk, ai_ cy n2 40 fs, ai_ cy n3 40 fe, ai_ cy n4 40 fw, ai_ cy n5 40 fp] [8, 9, 10, 11, 12, 13, 1, 2, 3, 4, 5, 6] (by decide +kernel) rfl (fun hPc hDw hFc hC_ => ?_)
      refine va_callv (va_runV (As := [.ref xn]) (rest := []) ⟨hx, hb, hml, hown, hts⟩ (c_X3_become l D cy H.size (pa y_2.toNatClampNeg 0) (pa y_2.toNatClampNeg 1) (pa y_2.toNatClampNeg 2) (pa y_2.toNatClampNeg 3) (pa y_2.toNatClampNeg 4) (pa y_2.toNatClampNeg 5) (pv y_2.toNatClampNeg 0) (pv y_2.toNatClampNeg 1) xn n1 n2 n3 n4 n5 vp vn (pg y_2.toNatClampNeg 1) (pg y_2.toNatClampNeg 2) (pg y_2.toNatClampNeg 3) (pg y_2.toNatClampNeg 4) (pg y_2.toNatClampNeg 5) fk fs fe fw fp (by first | with_reducible assumption | omega | assumption) (by first | with_reducible assumption | omega | assumption) (by first | exact hnpr_ | exact prng_zero) (hpr) (by first | with_reducible assumption | assumption | exact rng_zero (by omega) (by omega)) (by first | with_reducible assumption | assumption | exact rng_zero (by omega) (by omega)) (by first | with_reducible assumption | assumption | exact rng_zero (by omega) (by omega)) (by first | with_reducible assumption | assumption | omega) (by first | with_reducible assumption | assumption | omega) (by first | with_reducible assumption | assumption | omega)) (cwV 1 hts gX11_remember_X3_become rfl rfl rfl ⟨rfl, hd_X3_become⟩ ⟨Nat.le_of_ble_eq_true rfl, Nat.le_of_ble_eq_true rfl⟩) ⟨bl_, va_recvX hK.1 hPx (ci := 3) (q0 := 8) rfl rfl, fun U hU hW => ⟨rfl, by rw [hU], by rw [hU]; exact hPc, kk_mv hW hK, hDw⟩⟩ rfl rfl hl.1 rfl (lv_room (Nat.le_of_ble_eq_true rfl)) dB_36_3_44.2.1.1.2 ⟨Nat.le_of_ble_eq_true rfl, Nat.le_of_ble_eq_true rfl⟩) hS (fun q _ h => hFc q h) hFc (fun u t H locs ht hvm hw hB hz1 hk1 hS => ?_)
      obtain ⟨fk9_13, fs9_14, fe9_15, fw9_16, fp9_17, g_18, g_19, g_20, g_21, hP1, hD1⟩ := hB
      rw [ht] at hP1
      obtain ⟨hP, hD⟩ := va_joinQ (wr := [ob11_0_ xo xk xn xc xh xt xw xm xp y_5 ph tr fi, aq_ cy 5 xp 30 (pst pa pm)]) (w1 := [ob3_0_ (pa y_2.toNatClampNeg 0) vp vn (pa y_2.toNatClampNeg 1) (pa y_2.toNatClampNeg 2) (pa y_2.toNatClampNeg 3) (pa y_2.toNatClampNeg 4) (pa y_2.toNatClampNeg 5), ai_ cy (pa y_2.toNatClampNeg 1) 40 fk9_13, ai_ cy (pa y_2.toNatClampNeg 2) 40 fs9_14, ai_ cy (pa y_2.toNatClampNeg 3) 40 fe9_15, ai_ cy (pa y_2.toNatClampNeg 4) 40 fw9_16, ai_ cy (pa y_2.toNatClampNeg 5) 40 fp9_17, ob3_0_ xn vp vn n1 n2 n3 n4 n5, ai_ cy n1 40 fk, ai_ cy n2 40 fs, ai_ cy n3 40 fe, ai_ cy n4 40 fw, ai_ cy n5 40 fp]) hP hD [8, 9, 10, 11, 12, 13, 1, 2, 3, 4, 5, 6] [0, 7] hC_ rfl (by decide) (by decide) hk1 hFc hP1 hD1
      refine pd_K (([ob11_0_ xo xk xn xc xh xt xw xm xp y_5 ph tr fi, aq_ cy 5 xp 30 (pst pa pm), ob3_0_ (pa y_2.toNatClampNeg 0) vp vn (pa y_2.toNatClampNeg 1) (pa y_2.toNatClampNeg 2) (pa y_2.toNatClampNeg 3) (pa y_2.toNatClampNeg 4) (pa y_2.toNatClampNeg 5), ai_ cy (pa y_2.toNatClampNeg 1) 40 fk9_13, ai_ cy (pa y_2.toNatClampNeg 2) 40 fs9_14, ai_ cy (pa y_2.toNatClampNeg 3) 40 fe9_15, ai_ cy (pa y_2.toNatClampNeg 4) 40 fw9_16, ai_ cy (pa y_2.toNatClampNeg 5) 40 fp9_17, ob3_0_ xn vp vn n1 n2 n3 n4 n5, ai_ cy n1 40 fk, ai_ cy n2 40 fs, ai_ cy n3 40 fe, ai_ cy n4 40 fw, ai_ cy n5 40 fp] : va_W) ++ (prest cy pa pv pg pm y_2.toNatClampNeg)) hP hD (fun hP hD => ?_)
      refine pd_P hP hD [ob11_0_ xo xk xn xc xh xt xw xm xp y_5 ph tr fi, ob3_0_ xn vp vn n1 n2 n3 n4 n5, ai_ cy n1 40 fk, ai_ cy n2 40 fs, ai_ cy n3 40 fe, ai_ cy n4 40 fw, ai_ cy n5 40 fp, aq_ cy 5 xp 30 (pst pa pm), ob3_0_ (pa y_2.toNatClampNeg 0) vp vn (pa y_2.toNatClampNeg 1) (pa y_2.toNatClampNeg 2) (pa y_2.toNatClampNeg 3) (pa y_2.toNatClampNeg 4) (pa y_2.toNatClampNeg 5), ai_ cy (pa y_2.toNatClampNeg 1) 40 fk9_13, ai_ cy (pa y_2.toNatClampNeg 2) 40 fs9_14, ai_ cy (pa y_2.toNatClampNeg 3) 40 fe9_15, ai_ cy (pa y_2.toNatClampNeg 4) 40 fw9_16, ai_ cy (pa y_2.toNatClampNeg 5) 40 fp9_17] [0, 8, 9, 10, 11, 12, 13, 1, 2, 3, 4, 5, 6, 7] (by decide +kernel) rfl (fun hP hD => ?_)
      obtain ⟨pvk_22, epvk_22⟩ : ∃ g : Nat → Nat → Int32, g = va_up pv y_2.toNatClampNeg (qn2 vp vn) := ⟨_, rfl⟩
      obtain ⟨pgk_22, epgk_22⟩ : ∃ g : Nat → Nat → Nat → Int32, g = va_up pg y_2.toNatClampNeg (qn5 fk9_13 fs9_14 fe9_15 fw9_16 fp9_17) := ⟨_, rfl⟩
      have hcg_ : ∀ i : Nat, i ≠ y_2.toNatClampNeg → pvk_22 i = pv i ∧ pgk_22 i = pg i := fun i hi => by rw [epvk_22, epgk_22]; exact ⟨va_up_ne _ _ hi, va_up_ne _ _ hi⟩
      have hP : va_P D vwCl ((([ob11_0_ xo xk xn xc xh xt xw xm xp y_5 ph tr fi, ob3_0_ xn vp vn n1 n2 n3 n4 n5, ai_ cy n1 40 fk, ai_ cy n2 40 fs, ai_ cy n3 40 fe, ai_ cy n4 40 fw, ai_ cy n5 40 fp, aq_ cy 5 xp 30 (pst pa pm)] : va_W) ++ pnet cy pa pvk_22 pgk_22 y_2.toNatClampNeg) ++ (prest cy pa pv pg pm y_2.toNatClampNeg)) H := by rw [show pnet cy pa pvk_22 pgk_22 y_2.toNatClampNeg = [ob3_0_ (pa y_2.toNatClampNeg 0) vp vn (pa y_2.toNatClampNeg 1) (pa y_2.toNatClampNeg 2) (pa y_2.toNatClampNeg 3) (pa y_2.toNatClampNeg 4) (pa y_2.toNatClampNeg 5), ai_ cy (pa y_2.toNatClampNeg 1) 40 fk9_13, ai_ cy (pa y_2.toNatClampNeg 2) 40 fs9_14, ai_ cy (pa y_2.toNatClampNeg 3) 40 fe9_15, ai_ cy (pa y_2.toNatClampNeg 4) 40 fw9_16, ai_ cy (pa y_2.toNatClampNeg 5) 40 fp9_17] by unfold pnet; rw [epvk_22, epgk_22, va_up_self, va_up_self]; rfl]; exact hP
      have hD : va_D A ((([ob11_0_ xo xk xn xc xh xt xw xm xp y_5 ph tr fi, ob3_0_ xn vp vn n1 n2 n3 n4 n5, ai_ cy n1 40 fk, ai_ cy n2 40 fs, ai_ cy n3 40 fe, ai_ cy n4 40 fw, ai_ cy n5 40 fp, aq_ cy 5 xp 30 (pst pa pm)] : va_W) ++ pnet cy pa pvk_22 pgk_22 y_2.toNatClampNeg) ++ (prest cy pa pv pg pm y_2.toNatClampNeg)) := by rw [show pnet cy pa pvk_22 pgk_22 y_2.toNatClampNeg = [ob3_0_ (pa y_2.toNatClampNeg 0) vp vn (pa y_2.toNatClampNeg 1) (pa y_2.toNatClampNeg 2) (pa y_2.toNatClampNeg 3) (pa y_2.toNatClampNeg 4) (pa y_2.toNatClampNeg 5), ai_ cy (pa y_2.toNatClampNeg 1) 40 fk9_13, ai_ cy (pa y_2.toNatClampNeg 2) 40 fs9_14, ai_ cy (pa y_2.toNatClampNeg 3) 40 fe9_15, ai_ cy (pa y_2.toNatClampNeg 4) 40 fw9_16, ai_ cy (pa y_2.toNatClampNeg 5) 40 fp9_17] by unfold pnet; rw [epvk_22, epgk_22, va_up_self, va_up_self]; rfl]; exact hD
      have hP := unf_P hk_ hcg_ hP
      have hD := unf_D hk_ hcg_ hD
      refine pd_K (([ob11_0_ xo xk xn xc xh xt xw xm xp y_5 ph tr fi, ob3_0_ xn vp vn n1 n2 n3 n4 n5, ai_ cy n1 40 fk, ai_ cy n2 40 fs, ai_ cy n3 40 fe, ai_ cy n4 40 fw, ai_ cy n5 40 fp, aq_ cy 5 xp 30 (pst pa pm)] : va_W) ++ (pool cy pa pvk_22 pgk_22 pm)) hP hD (fun hP hD => ?_)
      have pk_23 : pok pvk_22 pgk_22 pm := by rw [epvk_22, epgk_22]; exact pok_st hpk (by omega) (⟨hnk.1, hnk.2.1, g_19, g_18, g_20, g_21⟩)
      refine W.widen (k := 6) (n := 207) (Nat.le_of_ble_eq_true rfl) (Nat.le_of_ble_eq_true rfl) ?_
      rw [hQ]
      exact W.vret hx hb hr (fun t ht hW => ⟨⟨(), rfl, trivial, y_5, ph, pa, pvk_22, pgk_22, pm, (hnk), (by assumption), (by unfold rok; omega), by rw [ht]; exact hP, hD⟩, hS.F ht⟩) hS.2.2 dB_36_3_44.2.1.2.1
    · refine lv_topv (v' := .null) (pst_none hlt_) ?_
      refine lv_ifnonnullN hx hb dB_36_3_43.2.1.2.2 ?_
      refine lv_aload_n hx hb dB_36_3_43.2.2.1.1 rfl (lv_at hl 1 rfl) ?_
      refine va_get (ci := 11) (v := .ref xp) (C := RX11) (T := TX11) (N := 12) hx hb hts (fun _ h => List.mem_cons_of_mem _ (List.mem_append_left _ (List.mem_append_right _ h))) hown hK.1 hP 0 rfl rfl 7 (by decide) (hts (.fieldLink RX11 76 "CutAtlas" "past" "[LCutAtlas$Net;") (List.mem_of_getElem? (i := 3) rfl)) (fun _ h9 => h9) rfl dB_36_3_43.2.2.1.2 ?_
      refine lv_iload_n hx hb dB_36_3_43.2.2.2.1 rfl (lv_at hl 0 rfl) ?_
      refine va_new (ci := 3) (fs := [.int 0, .int 0, .null, .null, .null, .null, .null]) (C := RX3) (T := TX3) (N := 7) hx hb hts (fun _ h => List.mem_cons_of_mem _ (List.mem_append_right _ h)) tyX3 tyX3_ok hown (hts (.classLink RX11 28 RX3) (List.mem_of_getElem? (i := 4) rfl)) (hts (.instantiable RX3 7) (List.mem_of_getElem? (i := 5) rfl)) (hts (.initialized RX3) (List.mem_of_getElem? (i := 6) rfl)) hK.1 hP hD hS hA rfl (by decide +kernel) (Nat.le_of_ble_eq_true rfl) (Nat.le_of_ble_eq_true rfl) dB_36_3_43.2.2.2.2 (fun q_24 H hP hD hS => ?_)
      have hP := va_P.swap hP
      have hD := va_D.swap hD
      refine pd_K (([ob11_0_ xo xk xn xc xh xt xw xm xp y_5 ph tr fi, ob3_0_ xn vp vn n1 n2 n3 n4 n5, ai_ cy n1 40 fk, ai_ cy n2 40 fs, ai_ cy n3 40 fe, ai_ cy n4 40 fw, ai_ cy n5 40 fp, aq_ cy 5 xp 30 (pst pa pm), ob3_1_ q_24 0 0] : va_W) ++ (pool cy pa pv pg pm)) hP hD (fun hP hD => ?_)
      refine lv_dup hx hb dB_36_3_44.1.1.1.1 rfl ?_
      have hPc := hP.sub (ws' := [ob3_1_ q_24 0 0]) [8] rfl
      have hDc := hD.sub (ws' := [ob3_1_ q_24 0 0]) [8] (by decide) rfl
      have hDw : va_D (fun _ => True) [ob3_1_ q_24 0 0] := hDc.weaken (fun _ _ _ _ => trivial)
      have hFc := va_free (wc := [ob3_1_ q_24 0 0]) hD hS hA [8] rfl
      refine va_callv (va_runIN (As := []) (rest := [.ref q_24, .int y_2, .ref xp]) ⟨hx, hb, hml, hown, hts⟩ (c_X3_init l D cy H.size q_24) ⟨va_cnB 0 hts gX11_remember_X3_init_n30 rfl rfl rfl (kk_nX11_30 hK) (hts (.initialized RX3) (List.mem_of_getElem? (i := 6) rfl)) (by decide +kernel) ⟨Nat.le_of_ble_eq_true rfl, Nat.le_of_ble_eq_true rfl⟩, rfl, (hts (.instanceMethod yX3_init) (List.mem_of_getElem? (i := 8) rfl))⟩ ⟨bl_, fun U hU hW => ⟨rfl, by rw [hU], by rw [hU]; exact hPc, kk_mv hW hK, hDw⟩⟩ rfl rfl hl.1 rfl (lv_room (Nat.le_of_ble_eq_true rfl)) dB_36_3_44.1.1.1.2 ⟨Nat.le_of_ble_eq_true rfl, Nat.le_of_ble_eq_true rfl⟩) hS (fun q _ h => hFc q h) hFc (fun u t H locs ht hvm hw hB hz1 hk1 hS => ?_)
      obtain ⟨n1_26, n2_27, n3_28, n4_29, n5_30, hP1, hD1⟩ := hB
      rw [ht] at hP1
      obtain ⟨hP, hD⟩ := va_joinQ (cx := [ob3_1_ q_24 0 0]) (wr := [ob11_0_ xo xk xn xc xh xt xw xm xp y_5 ph tr fi, ob3_0_ xn vp vn n1 n2 n3 n4 n5, ai_ cy n1 40 fk, ai_ cy n2 40 fs, ai_ cy n3 40 fe, ai_ cy n4 40 fw, ai_ cy n5 40 fp, aq_ cy 5 xp 30 (pst pa pm)]) (w1 := [ob3_0_ q_24 0 0 n1_26 n2_27 n3_28 n4_29 n5_30, ai_ cy n1_26 40 (fun _ => 0), ai_ cy n2_27 40 (fun _ => 0), ai_ cy n3_28 40 (fun _ => 0), ai_ cy n4_29 40 (fun _ => 0), ai_ cy n5_30 40 (fun _ => 0)]) hP hD [8] [0, 1, 2, 3, 4, 5, 6, 7] rfl rfl (by decide) (by decide) hk1 hFc hP1 hD1
      refine pd_K (([ob11_0_ xo xk xn xc xh xt xw xm xp y_5 ph tr fi, ob3_0_ xn vp vn n1 n2 n3 n4 n5, ai_ cy n1 40 fk, ai_ cy n2 40 fs, ai_ cy n3 40 fe, ai_ cy n4 40 fw, ai_ cy n5 40 fp, aq_ cy 5 xp 30 (pst pa pm), ob3_0_ q_24 0 0 n1_26 n2_27 n3_28 n4_29 n5_30, ai_ cy n1_26 40 (fun _ => 0), ai_ cy n2_27 40 (fun _ => 0), ai_ cy n3_28 40 (fun _ => 0), ai_ cy n4_29 40 (fun _ => 0), ai_ cy n5_30 40 (fun _ => 0)] : va_W) ++ (pool cy pa pv pg pm)) hP hD (fun hP hD => ?_)
      have h_31 : vp_in y_2 30 := in_I (by omega) (by omega)
      refine va_astq hx hb hK.1 hP hD hS 7 5 8 3 rfl rfl rfl rfl (i := y_2) h_31 dB_36_3_44.1.1.2.1 (fun H locs hP hD hS => ?_)
      refine pd_K (([ob11_0_ xo xk xn xc xh xt xw xm xp y_5 ph tr fi, ob3_0_ xn vp vn n1 n2 n3 n4 n5, ai_ cy n1 40 fk, ai_ cy n2 40 fs, ai_ cy n3 40 fe, ai_ cy n4 40 fw, ai_ cy n5 40 fp, aq_ cy 5 xp 30 (va_up (pst pa pm) y_2.toNatClampNeg (some q_24)), ob3_0_ q_24 0 0 n1_26 n2_27 n3_28 n4_29 n5_30, ai_ cy n1_26 40 (fun _ => 0), ai_ cy n2_27 40 (fun _ => 0), ai_ cy n3_28 40 (fun _ => 0), ai_ cy n4_29 40 (fun _ => 0), ai_ cy n5_30 40 (fun _ => 0)] : va_W) ++ (pool cy pa pv pg pm)) hP hD (fun hP hD => ?_)
      refine lv_aload_n hx hb dB_36_3_44.1.1.2.2 rfl (lv_at hl 1 rfl) ?_
      refine va_get (ci := 11) (v := .ref xp) (C := RX11) (T := TX11) (N := 12) hx hb hts (fun _ h => List.mem_cons_of_mem _ (List.mem_append_left _ (List.mem_append_right _ h))) hown hK.1 hP 0 rfl rfl 7 (by decide) (hts (.fieldLink RX11 76 "CutAtlas" "past" "[LCutAtlas$Net;") (List.mem_of_getElem? (i := 3) rfl)) (fun _ h9 => h9) rfl dB_36_3_44.1.2.1.1 ?_
      refine lv_iload_n hx hb dB_36_3_44.1.2.1.2 rfl (lv_at hl 0 rfl) ?_
      have h_32 : vp_in y_2 30 := in_I (by omega) (by omega)
      refine va_aldq hx hb hK.1 hP 7 5 rfl rfl (i := y_2) h_32 dB_36_3_44.1.2.2.1 ?_
      refine lv_topv (v' := .ref q_24) (by rw [va_up_self]; rfl) ?_
      refine lv_aload_n hx hb dB_36_3_44.1.2.2.2 rfl (lv_at hl 1 rfl) ?_
      refine va_get (ci := 11) (v := .ref xn) (C := RX11) (T := TX11) (N := 12) hx hb hts (fun _ h => List.mem_cons_of_mem _ (List.mem_append_left _ (List.mem_append_right _ h))) hown hK.1 hP 0 rfl rfl 1 (by decide) (hts (.fieldLink RX11 31 "CutAtlas" "net" "LCutAtlas$Net;") (List.mem_of_getElem? (i := 7) rfl)) (fun _ h9 => h9) rfl dB_36_3_44.2.1.1.1 ?_
      have hPx := pp_left hP
      have hDx := dd_left hD
      refine ct_S hPx hDx hS hA [ob3_0_ q_24 0 0 n1_26 n2_27 n3_28 n4_29 n5_30, ai_ cy n1_26 40 (fun _ => 0), ai_ cy n2_27 40 (fun _ => 0), ai_ cy n3_28 40 (fun _ => 0), ai_ cy n4_29 40 (fun _ => 0), ai_ cy n5_30 40 (fun _ => 0), ob3_0_ xn vp vn n1 n2 n3 n4 n5, ai_ cy n1 40 fk, ai_ cy n2 40 fs, ai_ cy n3 40 fe, ai_ cy n4 40 fw, ai_ cy n5 40 fp] [8, 9, 10, 11, 12, 13, 1, 2, 3, 4, 5, 6] (by decide +kernel) rfl (fun hPc hDw hFc hC_ => ?_)
      refine va_callv (va_runV (As := [.ref xn]) (rest := []) ⟨hx, hb, hml, hown, hts⟩ (c_X3_become l D cy H.size q_24 n1_26 n2_27 n3_28 n4_29 n5_30 (0 : Int32) (0 : Int32) xn n1 n2 n3 n4 n5 vp vn (fun _ => 0) (fun _ => 0) (fun _ => 0) (fun _ => 0) (fun _ => 0) fk fs fe fw fp (by first | with_reducible assumption | omega | assumption) (by first | with_reducible assumption | omega | assumption) (by first | exact hnpr_ | exact prng_zero) (hpr) (by first | with_reducible assumption | assumption | exact rng_zero (by omega) (by omega)) (by first | with_reducible assumption | assumption | exact rng_zero (by omega) (by omega)) (by first | with_reducible assumption | assumption | exact rng_zero (by omega) (by omega)) (by first | with_reducible assumption | assumption | omega) (by first | with_reducible assumption | assumption | omega) (by first | with_reducible assumption | assumption | omega)) (cwV 1 hts gX11_remember_X3_become rfl rfl rfl ⟨rfl, hd_X3_become⟩ ⟨Nat.le_of_ble_eq_true rfl, Nat.le_of_ble_eq_true rfl⟩) ⟨bl_, va_recvX hK.1 hPx (ci := 3) (q0 := 8) rfl rfl, fun U hU hW => ⟨rfl, by rw [hU], by rw [hU]; exact hPc, kk_mv hW hK, hDw⟩⟩ rfl rfl hl.1 rfl (lv_room (Nat.le_of_ble_eq_true rfl)) dB_36_3_44.2.1.1.2 ⟨Nat.le_of_ble_eq_true rfl, Nat.le_of_ble_eq_true rfl⟩) hS (fun q _ h => hFc q h) hFc (fun u t H locs ht hvm hw hB hz1 hk1 hS => ?_)
      obtain ⟨fk9_34, fs9_35, fe9_36, fw9_37, fp9_38, g_39, g_40, g_41, g_42, hP1, hD1⟩ := hB
      rw [ht] at hP1
      obtain ⟨hP, hD⟩ := va_joinQ (wr := [ob11_0_ xo xk xn xc xh xt xw xm xp y_5 ph tr fi, aq_ cy 5 xp 30 (va_up (pst pa pm) y_2.toNatClampNeg (some q_24))]) (w1 := [ob3_0_ q_24 vp vn n1_26 n2_27 n3_28 n4_29 n5_30, ai_ cy n1_26 40 fk9_34, ai_ cy n2_27 40 fs9_35, ai_ cy n3_28 40 fe9_36, ai_ cy n4_29 40 fw9_37, ai_ cy n5_30 40 fp9_38, ob3_0_ xn vp vn n1 n2 n3 n4 n5, ai_ cy n1 40 fk, ai_ cy n2 40 fs, ai_ cy n3 40 fe, ai_ cy n4 40 fw, ai_ cy n5 40 fp]) hP hD [8, 9, 10, 11, 12, 13, 1, 2, 3, 4, 5, 6] [0, 7] hC_ rfl (by decide) (by decide) hk1 hFc hP1 hD1
      refine pd_K (([ob11_0_ xo xk xn xc xh xt xw xm xp y_5 ph tr fi, aq_ cy 5 xp 30 (va_up (pst pa pm) y_2.toNatClampNeg (some q_24)), ob3_0_ q_24 vp vn n1_26 n2_27 n3_28 n4_29 n5_30, ai_ cy n1_26 40 fk9_34, ai_ cy n2_27 40 fs9_35, ai_ cy n3_28 40 fe9_36, ai_ cy n4_29 40 fw9_37, ai_ cy n5_30 40 fp9_38, ob3_0_ xn vp vn n1 n2 n3 n4 n5, ai_ cy n1 40 fk, ai_ cy n2 40 fs, ai_ cy n3 40 fe, ai_ cy n4 40 fw, ai_ cy n5 40 fp] : va_W) ++ (pool cy pa pv pg pm)) hP hD (fun hP hD => ?_)
      refine pd_P hP hD [ob11_0_ xo xk xn xc xh xt xw xm xp y_5 ph tr fi, ob3_0_ xn vp vn n1 n2 n3 n4 n5, ai_ cy n1 40 fk, ai_ cy n2 40 fs, ai_ cy n3 40 fe, ai_ cy n4 40 fw, ai_ cy n5 40 fp, aq_ cy 5 xp 30 (va_up (pst pa pm) y_2.toNatClampNeg (some q_24)), ob3_0_ q_24 vp vn n1_26 n2_27 n3_28 n4_29 n5_30, ai_ cy n1_26 40 fk9_34, ai_ cy n2_27 40 fs9_35, ai_ cy n3_28 40 fe9_36, ai_ cy n4_29 40 fw9_37, ai_ cy n5_30 40 fp9_38] [0, 8, 9, 10, 11, 12, 13, 1, 2, 3, 4, 5, 6, 7] (by decide +kernel) rfl (fun hP hD => ?_)
      obtain ⟨pvk_43, epvk_43⟩ : ∃ g : Nat → Nat → Int32, g = va_up pv pm (qn2 vp vn) := ⟨_, rfl⟩
      obtain ⟨pgk_43, epgk_43⟩ : ∃ g : Nat → Nat → Nat → Int32, g = va_up pg pm (qn5 fk9_34 fs9_35 fe9_36 fw9_37 fp9_38) := ⟨_, rfl⟩
      obtain ⟨pak_43, epak_43⟩ : ∃ g : Nat → Nat → Nat, g = va_up pa pm (qn6 q_24 n1_26 n2_27 n3_28 n4_29 n5_30) := ⟨_, rfl⟩
      have hcg_ : ∀ i : Nat, i < pm → pak_43 i = pa i ∧ pvk_43 i = pv i ∧ pgk_43 i = pg i := fun i hi => by rw [epak_43, epvk_43, epgk_43]; exact ⟨va_up_ne _ _ (by omega), va_up_ne _ _ (by omega), va_up_ne _ _ (by omega)⟩
      have hP : va_P D vwCl ((([ob11_0_ xo xk xn xc xh xt xw xm xp y_5 ph tr fi, ob3_0_ xn vp vn n1 n2 n3 n4 n5, ai_ cy n1 40 fk, ai_ cy n2 40 fs, ai_ cy n3 40 fe, ai_ cy n4 40 fw, ai_ cy n5 40 fp, aq_ cy 5 xp 30 (va_up (pst pa pm) y_2.toNatClampNeg (some q_24))] : va_W) ++ pnet cy pak_43 pvk_43 pgk_43 pm) ++ (pool cy pa pv pg pm)) H := by rw [show pnet cy pak_43 pvk_43 pgk_43 pm = [ob3_0_ q_24 vp vn n1_26 n2_27 n3_28 n4_29 n5_30, ai_ cy n1_26 40 fk9_34, ai_ cy n2_27 40 fs9_35, ai_ cy n3_28 40 fe9_36, ai_ cy n4_29 40 fw9_37, ai_ cy n5_30 40 fp9_38] by unfold pnet; rw [epak_43, epvk_43, epgk_43, va_up_self, va_up_self, va_up_self]; rfl]; exact hP
      have hD : va_D A ((([ob11_0_ xo xk xn xc xh xt xw xm xp y_5 ph tr fi, ob3_0_ xn vp vn n1 n2 n3 n4 n5, ai_ cy n1 40 fk, ai_ cy n2 40 fs, ai_ cy n3 40 fe, ai_ cy n4 40 fw, ai_ cy n5 40 fp, aq_ cy 5 xp 30 (va_up (pst pa pm) y_2.toNatClampNeg (some q_24))] : va_W) ++ pnet cy pak_43 pvk_43 pgk_43 pm) ++ (pool cy pa pv pg pm)) := by rw [show pnet cy pak_43 pvk_43 pgk_43 pm = [ob3_0_ q_24 vp vn n1_26 n2_27 n3_28 n4_29 n5_30, ai_ cy n1_26 40 fk9_34, ai_ cy n2_27 40 fs9_35, ai_ cy n3_28 40 fe9_36, ai_ cy n4_29 40 fw9_37, ai_ cy n5_30 40 fp9_38] by unfold pnet; rw [epak_43, epvk_43, epgk_43, va_up_self, va_up_self, va_up_self]; rfl]; exact hD
      have hP := more_P hcg_ hP
      have hD := more_D hcg_ hD
      obtain ⟨mk_43, emk_43⟩ : ∃ x : Nat, x = pm + 1 := ⟨_, rfl⟩
      rw [← emk_43] at hP hD
      have ep_ : (va_up (pst pa pm) y_2.toNatClampNeg (some q_24)) = pst pak_43 mk_43 := by rw [emk_43]; exact pst_more (by omega) (by rw [epak_43, va_up_self]; rfl) (fun i hi => (hcg_ i hi).1)
      rw [ep_] at hP hD
      refine pd_K (([ob11_0_ xo xk xn xc xh xt xw xm xp y_5 ph tr fi, ob3_0_ xn vp vn n1 n2 n3 n4 n5, ai_ cy n1 40 fk, ai_ cy n2 40 fs, ai_ cy n3 40 fe, ai_ cy n4 40 fw, ai_ cy n5 40 fp, aq_ cy 5 xp 30 (pst pak_43 mk_43)] : va_W) ++ (pool cy pak_43 pvk_43 pgk_43 mk_43)) hP hD (fun hP hD => ?_)
      have pk_44 : pok pvk_43 pgk_43 mk_43 := by rw [epvk_43, epgk_43]; exact pok_st hpk (by omega) (⟨hnk.1, hnk.2.1, g_40, g_39, g_41, g_42⟩)
      rw [hQ]
      exact W.vret hx hb hr (fun t ht hW => ⟨⟨(), rfl, trivial, y_5, ph, pak_43, pvk_43, pgk_43, mk_43, (hnk), (by assumption), (by unfold rok; omega), by rw [ht]; exact hP, hD⟩, hS.F ht⟩) hS.2.2 dB_36_3_44.2.1.2.1
  · have t_3 : ¬ (30 : Int32).toInt ≤ ph.toInt := fun h => c_3 (Int32.le_iff_toInt_le.mpr h)
    refine lv_aload_n hx hb dB_36_3_42.2.1.1.1 rfl (lv_at hl 1 rfl) ?_
    refine lv_dup hx hb dB_36_3_42.2.1.1.2 rfl ?_
    refine va_get (ci := 11) (v := .int ph) (C := RX11) (T := TX11) (N := 12) hx hb hts (fun _ h => List.mem_cons_of_mem _ (List.mem_append_left _ (List.mem_append_right _ h))) hown hK.1 hP 0 rfl rfl 9 (by decide) (hts (.fieldLink RX11 84 "CutAtlas" "pastHeld" "I") (List.mem_of_getElem? (i := 2) rfl)) (fun _ h9 => h9) rfl dB_36_3_42.2.1.2.1 ?_
    refine lv_iconst (v := 1) hx hb dB_36_3_42.2.1.2.2 (by decide) ?_
    refine lv_iadd hx hb dB_36_3_42.2.2.1.1 ?_
    refine lv_topi (fun y_45 ey_45 => ?_)
    have ty_45 : y_45.toInt = ph.toInt + (1 : Int32).toInt := by rw [ey_45]; exact addI (by omega) (by omega)
    refine va_put (ci := 11) (v := .int y_45) (ty := .int) (C := RX11) (T := TX11) (N := 12) hx hb hts (fun _ h => List.mem_cons_of_mem _ (List.mem_append_left _ (List.mem_append_right _ h))) tyX11 tyX11_ok nmX11 hown hK.1 hP hD hS 0 rfl rfl 9 (by decide) (hts (.fieldLink RX11 84 "CutAtlas" "pastHeld" "I") (List.mem_of_getElem? (i := 2) rfl)) (fun _ h9 => h9) rfl (by decide +kernel) rfl rfl (Nat.le_of_ble_eq_true rfl) dB_36_3_42.2.2.1.2 (fun H locs hP hD hS => ?_)
    refine pd_K (([ob11_0_ xo xk xn xc xh xt xw xm xp pf y_45 tr fi, ob3_0_ xn vp vn n1 n2 n3 n4 n5, ai_ cy n1 40 fk, ai_ cy n2 40 fs, ai_ cy n3 40 fe, ai_ cy n4 40 fw, ai_ cy n5 40 fp, aq_ cy 5 xp 30 (pst pa pm)] : va_W) ++ (pool cy pa pv pg pm)) hP hD (fun hP hD => ?_)
    refine lv_goto (tgt := 48) hx hb dB_36_3_42.2.2.2.1 (by decide) ?_
    refine lv_aload_n hx hb dB_36_3_43.1.2.2.2 rfl (lv_at hl 1 rfl) ?_
    refine va_get (ci := 11) (v := .ref xp) (C := RX11) (T := TX11) (N := 12) hx hb hts (fun _ h => List.mem_cons_of_mem _ (List.mem_append_left _ (List.mem_append_right _ h))) hown hK.1 hP 0 rfl rfl 7 (by decide) (hts (.fieldLink RX11 76 "CutAtlas" "past" "[LCutAtlas$Net;") (List.mem_of_getElem? (i := 3) rfl)) (fun _ h9 => h9) rfl dB_36_3_43.2.1.1.1 ?_
    refine lv_iload_n hx hb dB_36_3_43.2.1.1.2 rfl (lv_at hl 0 rfl) ?_
    have h_46 : vp_in y_2 30 := in_I (by omega) (by omega)
    refine va_aldq hx hb hK.1 hP 7 5 rfl rfl (i := y_2) h_46 dB_36_3_43.2.1.2.1 ?_
    by_cases hlt_ : y_2.toNatClampNeg < pm
    · refine lv_topv (v' := .ref (pa y_2.toNatClampNeg 0)) (pst_some hlt_) ?_
      refine lv_ifnonnull (tgt := 70) hx hb dB_36_3_43.2.1.2.2 (by decide) ?_
      refine lv_aload_n hx hb dB_36_3_44.1.1.2.2 rfl (lv_at hl 1 rfl) ?_
      refine va_get (ci := 11) (v := .ref xp) (C := RX11) (T := TX11) (N := 12) hx hb hts (fun _ h => List.mem_cons_of_mem _ (List.mem_append_left _ (List.mem_append_right _ h))) hown hK.1 hP 0 rfl rfl 7 (by decide) (hts (.fieldLink RX11 76 "CutAtlas" "past" "[LCutAtlas$Net;") (List.mem_of_getElem? (i := 3) rfl)) (fun _ h9 => h9) rfl dB_36_3_44.1.2.1.1 ?_
      refine lv_iload_n hx hb dB_36_3_44.1.2.1.2 rfl (lv_at hl 0 rfl) ?_
      have h_47 : vp_in y_2 30 := in_I (by omega) (by omega)
      refine va_aldq hx hb hK.1 hP 7 5 rfl rfl (i := y_2) h_47 dB_36_3_44.1.2.2.1 ?_
      have hlt_ : y_2.toNatClampNeg < pm := hlt_
      refine lv_topv (v' := .ref (pa y_2.toNatClampNeg 0)) (pst_some hlt_) ?_
      have hk_ : y_2.toNatClampNeg < pm := hlt_
      have hP := foc_P hk_ hP
      have hD := foc_D hk_ hD
      refine pd_K (([ob11_0_ xo xk xn xc xh xt xw xm xp pf y_45 tr fi, ob3_0_ xn vp vn n1 n2 n3 n4 n5, ai_ cy n1 40 fk, ai_ cy n2 40 fs, ai_ cy n3 40 fe, ai_ cy n4 40 fw, ai_ cy n5 40 fp, aq_ cy 5 xp 30 (pst pa pm), ob3_0_ (pa y_2.toNatClampNeg 0) (pv y_2.toNatClampNeg 0) (pv y_2.toNatClampNeg 1) (pa y_2.toNatClampNeg 1) (pa y_2.toNatClampNeg 2) (pa y_2.toNatClampNeg 3) (pa y_2.toNatClampNeg 4) (pa y_2.toNatClampNeg 5), ai_ cy (pa y_2.toNatClampNeg 1) 40 (pg y_2.toNatClampNeg 1), ai_ cy (pa y_2.toNatClampNeg 2) 40 (pg y_2.toNatClampNeg 2), ai_ cy (pa y_2.toNatClampNeg 3) 40 (pg y_2.toNatClampNeg 3), ai_ cy (pa y_2.toNatClampNeg 4) 40 (pg y_2.toNatClampNeg 4), ai_ cy (pa y_2.toNatClampNeg 5) 40 (pg y_2.toNatClampNeg 5)] : va_W) ++ (prest cy pa pv pg pm y_2.toNatClampNeg)) hP hD (fun hP hD => ?_)
      have hn_48 := hpk y_2.toNatClampNeg hk_
      have rr_49 : rng (pg y_2.toNatClampNeg 1) 40 (0) (4) := hn_48.2.2.1
      have rr_50 : rng (pg y_2.toNatClampNeg 4) 40 (0) (2000) := hn_48.2.2.2.2.1
      have rr_51 : rng (pg y_2.toNatClampNeg 5) 40 (0) (100) := hn_48.2.2.2.2.2
      have hnp_ := hn_48.1; have hnl_ := hn_48.2.1; have hnpr_ := hn_48.2.2.2.1
      refine lv_aload_n hx hb dB_36_3_44.1.2.2.2 rfl (lv_at hl 1 rfl) ?_
      refine va_get (ci := 11) (v := .ref xn) (C := RX11) (T := TX11) (N := 12) hx hb hts (fun _ h => List.mem_cons_of_mem _ (List.mem_append_left _ (List.mem_append_right _ h))) hown hK.1 hP 0 rfl rfl 1 (by decide) (hts (.fieldLink RX11 31 "CutAtlas" "net" "LCutAtlas$Net;") (List.mem_of_getElem? (i := 7) rfl)) (fun _ h9 => h9) rfl dB_36_3_44.2.1.1.1 ?_
      have hPx := pp_left hP
      have hDx := dd_left hD
      refine ct_S hPx hDx hS hA [ob3_0_ (pa y_2.toNatClampNeg 0) (pv y_2.toNatClampNeg 0) (pv y_2.toNatClampNeg 1) (pa y_2.toNatClampNeg 1) (pa y_2.toNatClampNeg 2) (pa y_2.toNatClampNeg 3) (pa y_2.toNatClampNeg 4) (pa y_2.toNatClampNeg 5), ai_ cy (pa y_2.toNatClampNeg 1) 40 (pg y_2.toNatClampNeg 1), ai_ cy (pa y_2.toNatClampNeg 2) 40 (pg y_2.toNatClampNeg 2), ai_ cy (pa y_2.toNatClampNeg 3) 40 (pg y_2.toNatClampNeg 3), ai_ cy (pa y_2.toNatClampNeg 4) 40 (pg y_2.toNatClampNeg 4), ai_ cy (pa y_2.toNatClampNeg 5) 40 (pg y_2.toNatClampNeg 5), ob3_0_ xn vp vn n1 n2 n3 n4 n5, ai_ cy n1 40 fk, ai_ cy n2 40 fs, ai_ cy n3 40 fe, ai_ cy n4 40 fw, ai_ cy n5 40 fp] [8, 9, 10, 11, 12, 13, 1, 2, 3, 4, 5, 6] (by decide +kernel) rfl (fun hPc hDw hFc hC_ => ?_)
      refine va_callv (va_runV (As := [.ref xn]) (rest := []) ⟨hx, hb, hml, hown, hts⟩ (c_X3_become l D cy H.size (pa y_2.toNatClampNeg 0) (pa y_2.toNatClampNeg 1) (pa y_2.toNatClampNeg 2) (pa y_2.toNatClampNeg 3) (pa y_2.toNatClampNeg 4) (pa y_2.toNatClampNeg 5) (pv y_2.toNatClampNeg 0) (pv y_2.toNatClampNeg 1) xn n1 n2 n3 n4 n5 vp vn (pg y_2.toNatClampNeg 1) (pg y_2.toNatClampNeg 2) (pg y_2.toNatClampNeg 3) (pg y_2.toNatClampNeg 4) (pg y_2.toNatClampNeg 5) fk fs fe fw fp (by first | with_reducible assumption | omega | assumption) (by first | with_reducible assumption | omega | assumption) (by first | exact hnpr_ | exact prng_zero) (hpr) (by first | with_reducible assumption | assumption | exact rng_zero (by omega) (by omega)) (by first | with_reducible assumption | assumption | exact rng_zero (by omega) (by omega)) (by first | with_reducible assumption | assumption | exact rng_zero (by omega) (by omega)) (by first | with_reducible assumption | assumption | omega) (by first | with_reducible assumption | assumption | omega) (by first | with_reducible assumption | assumption | omega)) (cwV 1 hts gX11_remember_X3_become rfl rfl rfl ⟨rfl, hd_X3_become⟩ ⟨Nat.le_of_ble_eq_true rfl, Nat.le_of_ble_eq_true rfl⟩) ⟨bl_, va_recvX hK.1 hPx (ci := 3) (q0 := 8) rfl rfl, fun U hU hW => ⟨rfl, by rw [hU], by rw [hU]; exact hPc, kk_mv hW hK, hDw⟩⟩ rfl rfl hl.1 rfl (lv_room (Nat.le_of_ble_eq_true rfl)) dB_36_3_44.2.1.1.2 ⟨Nat.le_of_ble_eq_true rfl, Nat.le_of_ble_eq_true rfl⟩) hS (fun q _ h => hFc q h) hFc (fun u t H locs ht hvm hw hB hz1 hk1 hS => ?_)
      obtain ⟨fk9_53, fs9_54, fe9_55, fw9_56, fp9_57, g_58, g_59, g_60, g_61, hP1, hD1⟩ := hB
      rw [ht] at hP1
      obtain ⟨hP, hD⟩ := va_joinQ (wr := [ob11_0_ xo xk xn xc xh xt xw xm xp pf y_45 tr fi, aq_ cy 5 xp 30 (pst pa pm)]) (w1 := [ob3_0_ (pa y_2.toNatClampNeg 0) vp vn (pa y_2.toNatClampNeg 1) (pa y_2.toNatClampNeg 2) (pa y_2.toNatClampNeg 3) (pa y_2.toNatClampNeg 4) (pa y_2.toNatClampNeg 5), ai_ cy (pa y_2.toNatClampNeg 1) 40 fk9_53, ai_ cy (pa y_2.toNatClampNeg 2) 40 fs9_54, ai_ cy (pa y_2.toNatClampNeg 3) 40 fe9_55, ai_ cy (pa y_2.toNatClampNeg 4) 40 fw9_56, ai_ cy (pa y_2.toNatClampNeg 5) 40 fp9_57, ob3_0_ xn vp vn n1 n2 n3 n4 n5, ai_ cy n1 40 fk, ai_ cy n2 40 fs, ai_ cy n3 40 fe, ai_ cy n4 40 fw, ai_ cy n5 40 fp]) hP hD [8, 9, 10, 11, 12, 13, 1, 2, 3, 4, 5, 6] [0, 7] hC_ rfl (by decide) (by decide) hk1 hFc hP1 hD1
      refine pd_K (([ob11_0_ xo xk xn xc xh xt xw xm xp pf y_45 tr fi, aq_ cy 5 xp 30 (pst pa pm), ob3_0_ (pa y_2.toNatClampNeg 0) vp vn (pa y_2.toNatClampNeg 1) (pa y_2.toNatClampNeg 2) (pa y_2.toNatClampNeg 3) (pa y_2.toNatClampNeg 4) (pa y_2.toNatClampNeg 5), ai_ cy (pa y_2.toNatClampNeg 1) 40 fk9_53, ai_ cy (pa y_2.toNatClampNeg 2) 40 fs9_54, ai_ cy (pa y_2.toNatClampNeg 3) 40 fe9_55, ai_ cy (pa y_2.toNatClampNeg 4) 40 fw9_56, ai_ cy (pa y_2.toNatClampNeg 5) 40 fp9_57, ob3_0_ xn vp vn n1 n2 n3 n4 n5, ai_ cy n1 40 fk, ai_ cy n2 40 fs, ai_ cy n3 40 fe, ai_ cy n4 40 fw, ai_ cy n5 40 fp] : va_W) ++ (prest cy pa pv pg pm y_2.toNatClampNeg)) hP hD (fun hP hD => ?_)
      refine pd_P hP hD [ob11_0_ xo xk xn xc xh xt xw xm xp pf y_45 tr fi, ob3_0_ xn vp vn n1 n2 n3 n4 n5, ai_ cy n1 40 fk, ai_ cy n2 40 fs, ai_ cy n3 40 fe, ai_ cy n4 40 fw, ai_ cy n5 40 fp, aq_ cy 5 xp 30 (pst pa pm), ob3_0_ (pa y_2.toNatClampNeg 0) vp vn (pa y_2.toNatClampNeg 1) (pa y_2.toNatClampNeg 2) (pa y_2.toNatClampNeg 3) (pa y_2.toNatClampNeg 4) (pa y_2.toNatClampNeg 5), ai_ cy (pa y_2.toNatClampNeg 1) 40 fk9_53, ai_ cy (pa y_2.toNatClampNeg 2) 40 fs9_54, ai_ cy (pa y_2.toNatClampNeg 3) 40 fe9_55, ai_ cy (pa y_2.toNatClampNeg 4) 40 fw9_56, ai_ cy (pa y_2.toNatClampNeg 5) 40 fp9_57] [0, 8, 9, 10, 11, 12, 13, 1, 2, 3, 4, 5, 6, 7] (by decide +kernel) rfl (fun hP hD => ?_)
      obtain ⟨pvk_62, epvk_62⟩ : ∃ g : Nat → Nat → Int32, g = va_up pv y_2.toNatClampNeg (qn2 vp vn) := ⟨_, rfl⟩
      obtain ⟨pgk_62, epgk_62⟩ : ∃ g : Nat → Nat → Nat → Int32, g = va_up pg y_2.toNatClampNeg (qn5 fk9_53 fs9_54 fe9_55 fw9_56 fp9_57) := ⟨_, rfl⟩
      have hcg_ : ∀ i : Nat, i ≠ y_2.toNatClampNeg → pvk_62 i = pv i ∧ pgk_62 i = pg i := fun i hi => by rw [epvk_62, epgk_62]; exact ⟨va_up_ne _ _ hi, va_up_ne _ _ hi⟩
      have hP : va_P D vwCl ((([ob11_0_ xo xk xn xc xh xt xw xm xp pf y_45 tr fi, ob3_0_ xn vp vn n1 n2 n3 n4 n5, ai_ cy n1 40 fk, ai_ cy n2 40 fs, ai_ cy n3 40 fe, ai_ cy n4 40 fw, ai_ cy n5 40 fp, aq_ cy 5 xp 30 (pst pa pm)] : va_W) ++ pnet cy pa pvk_62 pgk_62 y_2.toNatClampNeg) ++ (prest cy pa pv pg pm y_2.toNatClampNeg)) H := by rw [show pnet cy pa pvk_62 pgk_62 y_2.toNatClampNeg = [ob3_0_ (pa y_2.toNatClampNeg 0) vp vn (pa y_2.toNatClampNeg 1) (pa y_2.toNatClampNeg 2) (pa y_2.toNatClampNeg 3) (pa y_2.toNatClampNeg 4) (pa y_2.toNatClampNeg 5), ai_ cy (pa y_2.toNatClampNeg 1) 40 fk9_53, ai_ cy (pa y_2.toNatClampNeg 2) 40 fs9_54, ai_ cy (pa y_2.toNatClampNeg 3) 40 fe9_55, ai_ cy (pa y_2.toNatClampNeg 4) 40 fw9_56, ai_ cy (pa y_2.toNatClampNeg 5) 40 fp9_57] by unfold pnet; rw [epvk_62, epgk_62, va_up_self, va_up_self]; rfl]; exact hP
      have hD : va_D A ((([ob11_0_ xo xk xn xc xh xt xw xm xp pf y_45 tr fi, ob3_0_ xn vp vn n1 n2 n3 n4 n5, ai_ cy n1 40 fk, ai_ cy n2 40 fs, ai_ cy n3 40 fe, ai_ cy n4 40 fw, ai_ cy n5 40 fp, aq_ cy 5 xp 30 (pst pa pm)] : va_W) ++ pnet cy pa pvk_62 pgk_62 y_2.toNatClampNeg) ++ (prest cy pa pv pg pm y_2.toNatClampNeg)) := by rw [show pnet cy pa pvk_62 pgk_62 y_2.toNatClampNeg = [ob3_0_ (pa y_2.toNatClampNeg 0) vp vn (pa y_2.toNatClampNeg 1) (pa y_2.toNatClampNeg 2) (pa y_2.toNatClampNeg 3) (pa y_2.toNatClampNeg 4) (pa y_2.toNatClampNeg 5), ai_ cy (pa y_2.toNatClampNeg 1) 40 fk9_53, ai_ cy (pa y_2.toNatClampNeg 2) 40 fs9_54, ai_ cy (pa y_2.toNatClampNeg 3) 40 fe9_55, ai_ cy (pa y_2.toNatClampNeg 4) 40 fw9_56, ai_ cy (pa y_2.toNatClampNeg 5) 40 fp9_57] by unfold pnet; rw [epvk_62, epgk_62, va_up_self, va_up_self]; rfl]; exact hD
      have hP := unf_P hk_ hcg_ hP
      have hD := unf_D hk_ hcg_ hD
      refine pd_K (([ob11_0_ xo xk xn xc xh xt xw xm xp pf y_45 tr fi, ob3_0_ xn vp vn n1 n2 n3 n4 n5, ai_ cy n1 40 fk, ai_ cy n2 40 fs, ai_ cy n3 40 fe, ai_ cy n4 40 fw, ai_ cy n5 40 fp, aq_ cy 5 xp 30 (pst pa pm)] : va_W) ++ (pool cy pa pvk_62 pgk_62 pm)) hP hD (fun hP hD => ?_)
      have pk_63 : pok pvk_62 pgk_62 pm := by rw [epvk_62, epgk_62]; exact pok_st hpk (by omega) (⟨hnk.1, hnk.2.1, g_59, g_58, g_60, g_61⟩)
      refine W.widen (k := 6) (n := 207) (Nat.le_of_ble_eq_true rfl) (Nat.le_of_ble_eq_true rfl) ?_
      rw [hQ]
      exact W.vret hx hb hr (fun t ht hW => ⟨⟨(), rfl, trivial, pf, y_45, pa, pvk_62, pgk_62, pm, (hnk), (by assumption), (by unfold rok; omega), by rw [ht]; exact hP, hD⟩, hS.F ht⟩) hS.2.2 dB_36_3_44.2.1.2.1
    · refine lv_topv (v' := .null) (pst_none hlt_) ?_
      refine lv_ifnonnullN hx hb dB_36_3_43.2.1.2.2 ?_
      refine lv_aload_n hx hb dB_36_3_43.2.2.1.1 rfl (lv_at hl 1 rfl) ?_
      refine va_get (ci := 11) (v := .ref xp) (C := RX11) (T := TX11) (N := 12) hx hb hts (fun _ h => List.mem_cons_of_mem _ (List.mem_append_left _ (List.mem_append_right _ h))) hown hK.1 hP 0 rfl rfl 7 (by decide) (hts (.fieldLink RX11 76 "CutAtlas" "past" "[LCutAtlas$Net;") (List.mem_of_getElem? (i := 3) rfl)) (fun _ h9 => h9) rfl dB_36_3_43.2.2.1.2 ?_
      refine lv_iload_n hx hb dB_36_3_43.2.2.2.1 rfl (lv_at hl 0 rfl) ?_
      refine va_new (ci := 3) (fs := [.int 0, .int 0, .null, .null, .null, .null, .null]) (C := RX3) (T := TX3) (N := 7) hx hb hts (fun _ h => List.mem_cons_of_mem _ (List.mem_append_right _ h)) tyX3 tyX3_ok hown (hts (.classLink RX11 28 RX3) (List.mem_of_getElem? (i := 4) rfl)) (hts (.instantiable RX3 7) (List.mem_of_getElem? (i := 5) rfl)) (hts (.initialized RX3) (List.mem_of_getElem? (i := 6) rfl)) hK.1 hP hD hS hA rfl (by decide +kernel) (Nat.le_of_ble_eq_true rfl) (Nat.le_of_ble_eq_true rfl) dB_36_3_43.2.2.2.2 (fun q_64 H hP hD hS => ?_)
      have hP := va_P.swap hP
      have hD := va_D.swap hD
      refine pd_K (([ob11_0_ xo xk xn xc xh xt xw xm xp pf y_45 tr fi, ob3_0_ xn vp vn n1 n2 n3 n4 n5, ai_ cy n1 40 fk, ai_ cy n2 40 fs, ai_ cy n3 40 fe, ai_ cy n4 40 fw, ai_ cy n5 40 fp, aq_ cy 5 xp 30 (pst pa pm), ob3_1_ q_64 0 0] : va_W) ++ (pool cy pa pv pg pm)) hP hD (fun hP hD => ?_)
      refine lv_dup hx hb dB_36_3_44.1.1.1.1 rfl ?_
      have hPc := hP.sub (ws' := [ob3_1_ q_64 0 0]) [8] rfl
      have hDc := hD.sub (ws' := [ob3_1_ q_64 0 0]) [8] (by decide) rfl
      have hDw : va_D (fun _ => True) [ob3_1_ q_64 0 0] := hDc.weaken (fun _ _ _ _ => trivial)
      have hFc := va_free (wc := [ob3_1_ q_64 0 0]) hD hS hA [8] rfl
      refine va_callv (va_runIN (As := []) (rest := [.ref q_64, .int y_2, .ref xp]) ⟨hx, hb, hml, hown, hts⟩ (c_X3_init l D cy H.size q_64) ⟨va_cnB 0 hts gX11_remember_X3_init_n30 rfl rfl rfl (kk_nX11_30 hK) (hts (.initialized RX3) (List.mem_of_getElem? (i := 6) rfl)) (by decide +kernel) ⟨Nat.le_of_ble_eq_true rfl, Nat.le_of_ble_eq_true rfl⟩, rfl, (hts (.instanceMethod yX3_init) (List.mem_of_getElem? (i := 8) rfl))⟩ ⟨bl_, fun U hU hW => ⟨rfl, by rw [hU], by rw [hU]; exact hPc, kk_mv hW hK, hDw⟩⟩ rfl rfl hl.1 rfl (lv_room (Nat.le_of_ble_eq_true rfl)) dB_36_3_44.1.1.1.2 ⟨Nat.le_of_ble_eq_true rfl, Nat.le_of_ble_eq_true rfl⟩) hS (fun q _ h => hFc q h) hFc (fun u t H locs ht hvm hw hB hz1 hk1 hS => ?_)
      obtain ⟨n1_66, n2_67, n3_68, n4_69, n5_70, hP1, hD1⟩ := hB
      rw [ht] at hP1
      obtain ⟨hP, hD⟩ := va_joinQ (cx := [ob3_1_ q_64 0 0]) (wr := [ob11_0_ xo xk xn xc xh xt xw xm xp pf y_45 tr fi, ob3_0_ xn vp vn n1 n2 n3 n4 n5, ai_ cy n1 40 fk, ai_ cy n2 40 fs, ai_ cy n3 40 fe, ai_ cy n4 40 fw, ai_ cy n5 40 fp, aq_ cy 5 xp 30 (pst pa pm)]) (w1 := [ob3_0_ q_64 0 0 n1_66 n2_67 n3_68 n4_69 n5_70, ai_ cy n1_66 40 (fun _ => 0), ai_ cy n2_67 40 (fun _ => 0), ai_ cy n3_68 40 (fun _ => 0), ai_ cy n4_69 40 (fun _ => 0), ai_ cy n5_70 40 (fun _ => 0)]) hP hD [8] [0, 1, 2, 3, 4, 5, 6, 7] rfl rfl (by decide) (by decide) hk1 hFc hP1 hD1
      refine pd_K (([ob11_0_ xo xk xn xc xh xt xw xm xp pf y_45 tr fi, ob3_0_ xn vp vn n1 n2 n3 n4 n5, ai_ cy n1 40 fk, ai_ cy n2 40 fs, ai_ cy n3 40 fe, ai_ cy n4 40 fw, ai_ cy n5 40 fp, aq_ cy 5 xp 30 (pst pa pm), ob3_0_ q_64 0 0 n1_66 n2_67 n3_68 n4_69 n5_70, ai_ cy n1_66 40 (fun _ => 0), ai_ cy n2_67 40 (fun _ => 0), ai_ cy n3_68 40 (fun _ => 0), ai_ cy n4_69 40 (fun _ => 0), ai_ cy n5_70 40 (fun _ => 0)] : va_W) ++ (pool cy pa pv pg pm)) hP hD (fun hP hD => ?_)
      have h_71 : vp_in y_2 30 := in_I (by omega) (by omega)
      refine va_astq hx hb hK.1 hP hD hS 7 5 8 3 rfl rfl rfl rfl (i := y_2) h_71 dB_36_3_44.1.1.2.1 (fun H locs hP hD hS => ?_)
      refine pd_K (([ob11_0_ xo xk xn xc xh xt xw xm xp pf y_45 tr fi, ob3_0_ xn vp vn n1 n2 n3 n4 n5, ai_ cy n1 40 fk, ai_ cy n2 40 fs, ai_ cy n3 40 fe, ai_ cy n4 40 fw, ai_ cy n5 40 fp, aq_ cy 5 xp 30 (va_up (pst pa pm) y_2.toNatClampNeg (some q_64)), ob3_0_ q_64 0 0 n1_66 n2_67 n3_68 n4_69 n5_70, ai_ cy n1_66 40 (fun _ => 0), ai_ cy n2_67 40 (fun _ => 0), ai_ cy n3_68 40 (fun _ => 0), ai_ cy n4_69 40 (fun _ => 0), ai_ cy n5_70 40 (fun _ => 0)] : va_W) ++ (pool cy pa pv pg pm)) hP hD (fun hP hD => ?_)
      refine lv_aload_n hx hb dB_36_3_44.1.1.2.2 rfl (lv_at hl 1 rfl) ?_
      refine va_get (ci := 11) (v := .ref xp) (C := RX11) (T := TX11) (N := 12) hx hb hts (fun _ h => List.mem_cons_of_mem _ (List.mem_append_left _ (List.mem_append_right _ h))) hown hK.1 hP 0 rfl rfl 7 (by decide) (hts (.fieldLink RX11 76 "CutAtlas" "past" "[LCutAtlas$Net;") (List.mem_of_getElem? (i := 3) rfl)) (fun _ h9 => h9) rfl dB_36_3_44.1.2.1.1 ?_
      refine lv_iload_n hx hb dB_36_3_44.1.2.1.2 rfl (lv_at hl 0 rfl) ?_
      have h_72 : vp_in y_2 30 := in_I (by omega) (by omega)
      refine va_aldq hx hb hK.1 hP 7 5 rfl rfl (i := y_2) h_72 dB_36_3_44.1.2.2.1 ?_
      refine lv_topv (v' := .ref q_64) (by rw [va_up_self]; rfl) ?_
      refine lv_aload_n hx hb dB_36_3_44.1.2.2.2 rfl (lv_at hl 1 rfl) ?_
      refine va_get (ci := 11) (v := .ref xn) (C := RX11) (T := TX11) (N := 12) hx hb hts (fun _ h => List.mem_cons_of_mem _ (List.mem_append_left _ (List.mem_append_right _ h))) hown hK.1 hP 0 rfl rfl 1 (by decide) (hts (.fieldLink RX11 31 "CutAtlas" "net" "LCutAtlas$Net;") (List.mem_of_getElem? (i := 7) rfl)) (fun _ h9 => h9) rfl dB_36_3_44.2.1.1.1 ?_
      have hPx := pp_left hP
      have hDx := dd_left hD
      refine ct_S hPx hDx hS hA [ob3_0_ q_64 0 0 n1_66 n2_67 n3_68 n4_69 n5_70, ai_ cy n1_66 40 (fun _ => 0), ai_ cy n2_67 40 (fun _ => 0), ai_ cy n3_68 40 (fun _ => 0), ai_ cy n4_69 40 (fun _ => 0), ai_ cy n5_70 40 (fun _ => 0), ob3_0_ xn vp vn n1 n2 n3 n4 n5, ai_ cy n1 40 fk, ai_ cy n2 40 fs, ai_ cy n3 40 fe, ai_ cy n4 40 fw, ai_ cy n5 40 fp] [8, 9, 10, 11, 12, 13, 1, 2, 3, 4, 5, 6] (by decide +kernel) rfl (fun hPc hDw hFc hC_ => ?_)
      refine va_callv (va_runV (As := [.ref xn]) (rest := []) ⟨hx, hb, hml, hown, hts⟩ (c_X3_become l D cy H.size q_64 n1_66 n2_67 n3_68 n4_69 n5_70 (0 : Int32) (0 : Int32) xn n1 n2 n3 n4 n5 vp vn (fun _ => 0) (fun _ => 0) (fun _ => 0) (fun _ => 0) (fun _ => 0) fk fs fe fw fp (by first | with_reducible assumption | omega | assumption) (by first | with_reducible assumption | omega | assumption) (by first | exact hnpr_ | exact prng_zero) (hpr) (by first | with_reducible assumption | assumption | exact rng_zero (by omega) (by omega)) (by first | with_reducible assumption | assumption | exact rng_zero (by omega) (by omega)) (by first | with_reducible assumption | assumption | exact rng_zero (by omega) (by omega)) (by first | with_reducible assumption | assumption | omega) (by first | with_reducible assumption | assumption | omega) (by first | with_reducible assumption | assumption | omega)) (cwV 1 hts gX11_remember_X3_become rfl rfl rfl ⟨rfl, hd_X3_become⟩ ⟨Nat.le_of_ble_eq_true rfl, Nat.le_of_ble_eq_true rfl⟩) ⟨bl_, va_recvX hK.1 hPx (ci := 3) (q0 := 8) rfl rfl, fun U hU hW => ⟨rfl, by rw [hU], by rw [hU]; exact hPc, kk_mv hW hK, hDw⟩⟩ rfl rfl hl.1 rfl (lv_room (Nat.le_of_ble_eq_true rfl)) dB_36_3_44.2.1.1.2 ⟨Nat.le_of_ble_eq_true rfl, Nat.le_of_ble_eq_true rfl⟩) hS (fun q _ h => hFc q h) hFc (fun u t H locs ht hvm hw hB hz1 hk1 hS => ?_)
      obtain ⟨fk9_74, fs9_75, fe9_76, fw9_77, fp9_78, g_79, g_80, g_81, g_82, hP1, hD1⟩ := hB
      rw [ht] at hP1
      obtain ⟨hP, hD⟩ := va_joinQ (wr := [ob11_0_ xo xk xn xc xh xt xw xm xp pf y_45 tr fi, aq_ cy 5 xp 30 (va_up (pst pa pm) y_2.toNatClampNeg (some q_64))]) (w1 := [ob3_0_ q_64 vp vn n1_66 n2_67 n3_68 n4_69 n5_70, ai_ cy n1_66 40 fk9_74, ai_ cy n2_67 40 fs9_75, ai_ cy n3_68 40 fe9_76, ai_ cy n4_69 40 fw9_77, ai_ cy n5_70 40 fp9_78, ob3_0_ xn vp vn n1 n2 n3 n4 n5, ai_ cy n1 40 fk, ai_ cy n2 40 fs, ai_ cy n3 40 fe, ai_ cy n4 40 fw, ai_ cy n5 40 fp]) hP hD [8, 9, 10, 11, 12, 13, 1, 2, 3, 4, 5, 6] [0, 7] hC_ rfl (by decide) (by decide) hk1 hFc hP1 hD1
      refine pd_K (([ob11_0_ xo xk xn xc xh xt xw xm xp pf y_45 tr fi, aq_ cy 5 xp 30 (va_up (pst pa pm) y_2.toNatClampNeg (some q_64)), ob3_0_ q_64 vp vn n1_66 n2_67 n3_68 n4_69 n5_70, ai_ cy n1_66 40 fk9_74, ai_ cy n2_67 40 fs9_75, ai_ cy n3_68 40 fe9_76, ai_ cy n4_69 40 fw9_77, ai_ cy n5_70 40 fp9_78, ob3_0_ xn vp vn n1 n2 n3 n4 n5, ai_ cy n1 40 fk, ai_ cy n2 40 fs, ai_ cy n3 40 fe, ai_ cy n4 40 fw, ai_ cy n5 40 fp] : va_W) ++ (pool cy pa pv pg pm)) hP hD (fun hP hD => ?_)
      refine pd_P hP hD [ob11_0_ xo xk xn xc xh xt xw xm xp pf y_45 tr fi, ob3_0_ xn vp vn n1 n2 n3 n4 n5, ai_ cy n1 40 fk, ai_ cy n2 40 fs, ai_ cy n3 40 fe, ai_ cy n4 40 fw, ai_ cy n5 40 fp, aq_ cy 5 xp 30 (va_up (pst pa pm) y_2.toNatClampNeg (some q_64)), ob3_0_ q_64 vp vn n1_66 n2_67 n3_68 n4_69 n5_70, ai_ cy n1_66 40 fk9_74, ai_ cy n2_67 40 fs9_75, ai_ cy n3_68 40 fe9_76, ai_ cy n4_69 40 fw9_77, ai_ cy n5_70 40 fp9_78] [0, 8, 9, 10, 11, 12, 13, 1, 2, 3, 4, 5, 6, 7] (by decide +kernel) rfl (fun hP hD => ?_)
      obtain ⟨pvk_83, epvk_83⟩ : ∃ g : Nat → Nat → Int32, g = va_up pv pm (qn2 vp vn) := ⟨_, rfl⟩
      obtain ⟨pgk_83, epgk_83⟩ : ∃ g : Nat → Nat → Nat → Int32, g = va_up pg pm (qn5 fk9_74 fs9_75 fe9_76 fw9_77 fp9_78) := ⟨_, rfl⟩
      obtain ⟨pak_83, epak_83⟩ : ∃ g : Nat → Nat → Nat, g = va_up pa pm (qn6 q_64 n1_66 n2_67 n3_68 n4_69 n5_70) := ⟨_, rfl⟩
      have hcg_ : ∀ i : Nat, i < pm → pak_83 i = pa i ∧ pvk_83 i = pv i ∧ pgk_83 i = pg i := fun i hi => by rw [epak_83, epvk_83, epgk_83]; exact ⟨va_up_ne _ _ (by omega), va_up_ne _ _ (by omega), va_up_ne _ _ (by omega)⟩
      have hP : va_P D vwCl ((([ob11_0_ xo xk xn xc xh xt xw xm xp pf y_45 tr fi, ob3_0_ xn vp vn n1 n2 n3 n4 n5, ai_ cy n1 40 fk, ai_ cy n2 40 fs, ai_ cy n3 40 fe, ai_ cy n4 40 fw, ai_ cy n5 40 fp, aq_ cy 5 xp 30 (va_up (pst pa pm) y_2.toNatClampNeg (some q_64))] : va_W) ++ pnet cy pak_83 pvk_83 pgk_83 pm) ++ (pool cy pa pv pg pm)) H := by rw [show pnet cy pak_83 pvk_83 pgk_83 pm = [ob3_0_ q_64 vp vn n1_66 n2_67 n3_68 n4_69 n5_70, ai_ cy n1_66 40 fk9_74, ai_ cy n2_67 40 fs9_75, ai_ cy n3_68 40 fe9_76, ai_ cy n4_69 40 fw9_77, ai_ cy n5_70 40 fp9_78] by unfold pnet; rw [epak_83, epvk_83, epgk_83, va_up_self, va_up_self, va_up_self]; rfl]; exact hP
      have hD : va_D A ((([ob11_0_ xo xk xn xc xh xt xw xm xp pf y_45 tr fi, ob3_0_ xn vp vn n1 n2 n3 n4 n5, ai_ cy n1 40 fk, ai_ cy n2 40 fs, ai_ cy n3 40 fe, ai_ cy n4 40 fw, ai_ cy n5 40 fp, aq_ cy 5 xp 30 (va_up (pst pa pm) y_2.toNatClampNeg (some q_64))] : va_W) ++ pnet cy pak_83 pvk_83 pgk_83 pm) ++ (pool cy pa pv pg pm)) := by rw [show pnet cy pak_83 pvk_83 pgk_83 pm = [ob3_0_ q_64 vp vn n1_66 n2_67 n3_68 n4_69 n5_70, ai_ cy n1_66 40 fk9_74, ai_ cy n2_67 40 fs9_75, ai_ cy n3_68 40 fe9_76, ai_ cy n4_69 40 fw9_77, ai_ cy n5_70 40 fp9_78] by unfold pnet; rw [epak_83, epvk_83, epgk_83, va_up_self, va_up_self, va_up_self]; rfl]; exact hD
      have hP := more_P hcg_ hP
      have hD := more_D hcg_ hD
      obtain ⟨mk_83, emk_83⟩ : ∃ x : Nat, x = pm + 1 := ⟨_, rfl⟩
      rw [← emk_83] at hP hD
      have ep_ : (va_up (pst pa pm) y_2.toNatClampNeg (some q_64)) = pst pak_83 mk_83 := by rw [emk_83]; exact pst_more (by omega) (by rw [epak_83, va_up_self]; rfl) (fun i hi => (hcg_ i hi).1)
      rw [ep_] at hP hD
      refine pd_K (([ob11_0_ xo xk xn xc xh xt xw xm xp pf y_45 tr fi, ob3_0_ xn vp vn n1 n2 n3 n4 n5, ai_ cy n1 40 fk, ai_ cy n2 40 fs, ai_ cy n3 40 fe, ai_ cy n4 40 fw, ai_ cy n5 40 fp, aq_ cy 5 xp 30 (pst pak_83 mk_83)] : va_W) ++ (pool cy pak_83 pvk_83 pgk_83 mk_83)) hP hD (fun hP hD => ?_)
      have pk_84 : pok pvk_83 pgk_83 mk_83 := by rw [epvk_83, epgk_83]; exact pok_st hpk (by omega) (⟨hnk.1, hnk.2.1, g_80, g_79, g_81, g_82⟩)
      rw [hQ]
      exact W.vret hx hb hr (fun t ht hW => ⟨⟨(), rfl, trivial, pf, y_45, pak_83, pvk_83, pgk_83, mk_83, (hnk), (by assumption), (by unfold rok; omega), by rw [ht]; exact hP, hD⟩, hS.F ht⟩) hS.2.2 dB_36_3_44.2.1.2.1
end

section
set_option maxHeartbeats 4000000 in
set_option maxRecDepth 100000 in
theorem c_X11_undo (l : Launch) (D : va_G) (cy : Nat → ClassId) (sz : Nat) (xo : Nat) (xk : Nat) (xn : Nat) (xc : Nat) (xh : Nat) (xt : Nat) (xw : Nat) (xm : Nat) (xp : Nat) (pf : Int32) (ph : Int32) (tr : Int64) (fi : Int32) (n1 : Nat) (n2 : Nat) (n3 : Nat) (n4 : Nat) (n5 : Nat) (vp : Int32) (vn : Int32) (fk : Nat → Int32) (fs : Nat → Int32) (fe : Nat → Int32) (fw : Nat → Int32) (fp : Nat → Int32) (pa : Nat → Nat → Nat) (pv : Nat → Nat → Int32) (pg : Nat → Nat → Nat → Int32) (pm : Nat) (hnk : nok vp vn fk fs fe fw fp) (hpk : pok pv pg pm) (hrk : rok pf ph pm) (hpr : prng fs fe 40) (r_fk : rng fk 40 (0) (4)) (r_fw : rng fw 40 (0) (2000)) (r_fp : rng fp 40 (0) (100)) : Met l yX11_undo wsX11_undo ({ frames := 2, cells := 0, slots := 0, locals := 61 }) (va_Pc [.ref xo] (fun U => U.heap.size = sz ∧ va_P D vwCl (([ob11_0_ xo xk xn xc xh xt xw xm xp pf ph tr fi, ob3_0_ xn vp vn n1 n2 n3 n4 n5, ai_ cy n1 40 fk, ai_ cy n2 40 fs, ai_ cy n3 40 fe, ai_ cy n4 40 fw, ai_ cy n5 40 fp, aq_ cy 5 xp 30 (pst pa pm)] : va_W) ++ (pool cy pa pv pg pm)) U.heap ∧ kk_ D cy U ∧ va_D (fun _ => True) (([ob11_0_ xo xk xn xc xh xt xw xm xp pf ph tr fi, ob3_0_ xn vp vn n1 n2 n3 n4 n5, ai_ cy n1 40 fk, ai_ cy n2 40 fs, ai_ cy n3 40 fe, ai_ cy n4 40 fw, ai_ cy n5 40 fp, aq_ cy 5 xp 30 (pst pa pm)] : va_W) ++ (pool cy pa pv pg pm)))) (va_Qi (fun (r : Int32) (_ : Unit) => True) (fun (_ : Unit) (t : State) => ∃ (epf : Int32), ∃ (eph : Int32), ∃ (evp : Int32), ∃ (evn : Int32), ∃ (efk : Nat → Int32), ∃ (efs : Nat → Int32), ∃ (efe : Nat → Int32), ∃ (efw : Nat → Int32), ∃ (efp : Nat → Int32), ∃ (epa : Nat → Nat → Nat), ∃ (epv : Nat → Nat → Int32), ∃ (epg : Nat → Nat → Nat → Int32), ∃ (epm : Nat), (nok evp evn efk efs efe efw efp) ∧ (pok epv epg epm) ∧ (rok epf eph epm) ∧ va_P D vwCl (([ob11_0_ xo xk xn xc xh xt xw xm xp epf eph tr fi, ob3_0_ xn evp evn n1 n2 n3 n4 n5, ai_ cy n1 40 efk, ai_ cy n2 40 efs, ai_ cy n3 40 efe, ai_ cy n4 40 efw, ai_ cy n5 40 efp, aq_ cy 5 xp 30 (pst epa epm)] : va_W) ++ (pool cy epa epv epg epm)) t.heap ∧ va_D (va_A (([ob11_0_ xo xk xn xc xh xt xw xm xp pf ph tr fi, ob3_0_ xn vp vn n1 n2 n3 n4 n5, ai_ cy n1 40 fk, ai_ cy n2 40 fs, ai_ cy n3 40 fe, ai_ cy n4 40 fw, ai_ cy n5 40 fp, aq_ cy 5 xp 30 (pst pa pm)] : va_W) ++ (pool cy pa pv pg pm)) sz) (([ob11_0_ xo xk xn xc xh xt xw xm xp epf eph tr fi, ob3_0_ xn evp evn n1 n2 n3 n4 n5, ai_ cy n1 40 efk, ai_ cy n2 40 efs, ai_ cy n3 40 efe, ai_ cy n4 40 efw, ai_ cy n5 40 efp, aq_ cy 5 xp 30 (pst epa epm)] : va_W) ++ (pool cy epa epv epg epm))) (va_A (([ob11_0_ xo xk xn xc xh xt xw xm xp pf ph tr fi, ob3_0_ xn vp vn n1 n2 n3 n4 n5, ai_ cy n1 40 fk, ai_ cy n2 40 fs, ai_ cy n3 40 fe, ai_ cy n4 40 fw, ai_ cy n5 40 fp, aq_ cy 5 xp 30 (pst pa pm)] : va_W) ++ (pool cy pa pv pg pm)) sz)) 0 0 (va_A (([ob11_0_ xo xk xn xc xh xt xw xm xp pf ph tr fi, ob3_0_ xn vp vn n1 n2 n3 n4 n5, ai_ cy n1 40 fk, ai_ cy n2 40 fs, ai_ cy n3 40 fe, ai_ cy n4 40 fw, ai_ cy n5 40 fp, aq_ cy 5 xp 30 (pst pa pm)] : va_W) ++ (pool cy pa pv pg pm)) sz) := by
  refine ofQ (cc := cX11_undo) (maxL := 2) (ret := (some .int)) (by decide) rfl ?_
  intro p e s m args below meth c s₁ Q hQ B hml hv
  obtain ⟨rfl, hsz, hP, hK, hD0⟩ := hv
  have hx := B.exec
  have hb := B.bytes
  have hr := B.returns
  have hts := atoms_spec (ws := wsX11_undo) B.pre
  have hown : s.vm.findClass RX11 = some m.cls := by have h_ := findClass_of_methodNamed B.named; exact h_
  have hlocks := B.notSynchronized
  subst hsz
  have hD := hD0.self (sz := s.heap.size)
  generalize hAe : va_A (([ob11_0_ xo xk xn xc xh xt xw xm xp pf ph tr fi, ob3_0_ xn vp vn n1 n2 n3 n4 n5, ai_ cy n1 40 fk, ai_ cy n2 40 fs, ai_ cy n3 40 fe, ai_ cy n4 40 fw, ai_ cy n5 40 fp, aq_ cy 5 xp 30 (pst pa pm)] : va_W) ++ (pool cy pa pv pg pm)) s.heap.size = A at hD hQ
  have hA : ∀ q : Nat, s.heap.size ≤ q → A q := fun q h => by rw [← hAe]; exact Or.inr h
  have hS : va_S A s.heap s.heap [] := va_S.rf
  have hl := lv_entry ([.ref xo]) (n := 2) (Nat.le_of_ble_eq_true rfl)
  rw [lg_entry_eq]
  generalize (lg_sl ([.ref xo]) ++ List.replicate (2 - (lg_sl ([.ref xo])).length) Slot.unset).toArray = ls at hl ⊢
  have hl : lv_has ls 2 [(0, .ref xo)] := hl
  have zm2 : ((-2) : Int32).toInt = -2 := by decide
  have z0 : (0 : Int32).toInt = 0 := by decide
  have z1 : (1 : Int32).toInt = 1 := by decide
  have z30 : (30 : Int32).toInt = 30 := by decide
  have hvp := hnk.1
  have hvn := hnk.2.1
  have hr_ := hrk
  unfold rok at hr_
  refine lv_aload_n hx hb dB_36_2_43.2.1.2.1 rfl (lv_at hl 0 rfl) ?_
  refine va_get (ci := 11) (v := .int ph) (C := RX11) (T := TX11) (N := 12) hx hb hts (fun _ h => List.mem_cons_of_mem _ (List.mem_append_left _ (List.mem_append_right _ h))) hown hK.1 hP 0 rfl rfl 9 (by decide) (hts (.fieldLink RX11 84 "CutAtlas" "pastHeld" "I") (List.mem_of_getElem? (i := 1) rfl)) (fun _ h9 => h9) rfl dB_36_2_43.2.1.2.2 ?_
  refine lv_if_ne (tgt := 10) hx hb dB_36_2_43.2.2.1.1 (by decide) (fun c_1 => ?_) (fun c_1 => ?_)
  · have t_1 : ¬ ph.toInt = (0 : Int32).toInt := fun h => c_1 (Int32.toInt_inj.mp h)
    refine lv_aload_n hx hb dB_36_2_43.2.2.2.2 rfl (lv_at hl 0 rfl) ?_
    refine lv_dup hx hb dB_36_2_44.1.1.1.1 rfl ?_
    refine va_get (ci := 11) (v := .int ph) (C := RX11) (T := TX11) (N := 12) hx hb hts (fun _ h => List.mem_cons_of_mem _ (List.mem_append_left _ (List.mem_append_right _ h))) hown hK.1 hP 0 rfl rfl 9 (by decide) (hts (.fieldLink RX11 84 "CutAtlas" "pastHeld" "I") (List.mem_of_getElem? (i := 1) rfl)) (fun _ h9 => h9) rfl dB_36_2_44.1.1.1.2 ?_
    refine lv_iconst (v := 1) hx hb dB_36_2_44.1.1.2.1 (by decide) ?_
    refine lv_isub hx hb dB_36_2_44.1.1.2.2 ?_
    refine lv_topi (fun y_2 ey_2 => ?_)
    have ty_2 : y_2.toInt = ph.toInt - (1 : Int32).toInt := by rw [ey_2]; exact subI (by omega) (by omega)
    refine va_put (ci := 11) (v := .int y_2) (ty := .int) (C := RX11) (T := TX11) (N := 12) hx hb hts (fun _ h => List.mem_cons_of_mem _ (List.mem_append_left _ (List.mem_append_right _ h))) tyX11 tyX11_ok nmX11 hown hK.1 hP hD hS 0 rfl rfl 9 (by decide) (hts (.fieldLink RX11 84 "CutAtlas" "pastHeld" "I") (List.mem_of_getElem? (i := 1) rfl)) (fun _ h9 => h9) rfl (by decide +kernel) rfl rfl (Nat.le_of_ble_eq_true rfl) dB_36_2_44.1.2.1.1 (fun H locs hP hD hS => ?_)
    refine pd_K (([ob11_0_ xo xk xn xc xh xt xw xm xp pf y_2 tr fi, ob3_0_ xn vp vn n1 n2 n3 n4 n5, ai_ cy n1 40 fk, ai_ cy n2 40 fs, ai_ cy n3 40 fe, ai_ cy n4 40 fw, ai_ cy n5 40 fp, aq_ cy 5 xp 30 (pst pa pm)] : va_W) ++ (pool cy pa pv pg pm)) hP hD (fun hP hD => ?_)
    refine lv_aload_n hx hb dB_36_2_44.1.2.1.2 rfl (lv_at hl 0 rfl) ?_
    refine va_get (ci := 11) (v := .ref xp) (C := RX11) (T := TX11) (N := 12) hx hb hts (fun _ h => List.mem_cons_of_mem _ (List.mem_append_left _ (List.mem_append_right _ h))) hown hK.1 hP 0 rfl rfl 7 (by decide) (hts (.fieldLink RX11 76 "CutAtlas" "past" "[LCutAtlas$Net;") (List.mem_of_getElem? (i := 2) rfl)) (fun _ h9 => h9) rfl dB_36_2_44.1.2.2.1 ?_
    refine lv_aload_n hx hb dB_36_2_44.1.2.2.2 rfl (lv_at hl 0 rfl) ?_
    refine va_get (ci := 11) (v := .int pf) (C := RX11) (T := TX11) (N := 12) hx hb hts (fun _ h => List.mem_cons_of_mem _ (List.mem_append_left _ (List.mem_append_right _ h))) hown hK.1 hP 0 rfl rfl 8 (by decide) (hts (.fieldLink RX11 80 "CutAtlas" "pastFirst" "I") (List.mem_of_getElem? (i := 3) rfl)) (fun _ h9 => h9) rfl dB_36_2_44.2.1.1.1 ?_
    refine lv_aload_n hx hb dB_36_2_44.2.1.1.2 rfl (lv_at hl 0 rfl) ?_
    refine va_get (ci := 11) (v := .int y_2) (C := RX11) (T := TX11) (N := 12) hx hb hts (fun _ h => List.mem_cons_of_mem _ (List.mem_append_left _ (List.mem_append_right _ h))) hown hK.1 hP 0 rfl rfl 9 (by decide) (hts (.fieldLink RX11 84 "CutAtlas" "pastHeld" "I") (List.mem_of_getElem? (i := 1) rfl)) (fun _ h9 => h9) rfl dB_36_2_44.2.1.2.1 ?_
    refine lv_iadd hx hb dB_36_2_44.2.1.2.2 ?_
    refine lv_topi (fun y_3 ey_3 => ?_)
    have ty_3 : y_3.toInt = pf.toInt + y_2.toInt := by rw [ey_3]; exact addI (by omega) (by omega)
    refine lv_bipush (v := 30) hx hb dB_36_2_44.2.2.1.1 (by decide) ?_
    refine lv_irem hx hb dB_36_2_44.2.2.1.2 (by decide) ?_
    refine lv_topi (fun y_4 ey_4 => ?_)
    have ty_4 : y_4.toInt = y_3.toInt % 30 := by rw [ey_4]; exact rem30 (by omega)
    have cs_ := clI (i := y_4) (by omega)
    have h_5 : vp_in y_4 30 := in_I (by omega) (by omega)
    refine va_aldq hx hb hK.1 hP 7 5 rfl rfl (i := y_4) h_5 dB_36_2_44.2.2.2.1 ?_
    have hlt_ : y_4.toNatClampNeg < pm := by omega
    refine lv_topv (v' := .ref (pa y_4.toNatClampNeg 0)) (pst_some hlt_) ?_
    refine lv_astore_n (lv' := [(1, .ref (pa y_4.toNatClampNeg 0)), (0, .ref xo)]) hx hb dB_36_2_44.2.2.2.2 rfl hl (by decide) rfl (fun ls hl => ?_)
    refine lv_aload_n hx hb dB_36_2_45.1.1.1.1 rfl (lv_at hl 0 rfl) ?_
    refine lv_ifnull hx hb dB_36_2_45.1.1.1.2 ?_
    have hk_ : y_4.toNatClampNeg < pm := hlt_
    have hP := foc_P hk_ hP
    have hD := foc_D hk_ hD
    refine pd_K (([ob11_0_ xo xk xn xc xh xt xw xm xp pf y_2 tr fi, ob3_0_ xn vp vn n1 n2 n3 n4 n5, ai_ cy n1 40 fk, ai_ cy n2 40 fs, ai_ cy n3 40 fe, ai_ cy n4 40 fw, ai_ cy n5 40 fp, aq_ cy 5 xp 30 (pst pa pm), ob3_0_ (pa y_4.toNatClampNeg 0) (pv y_4.toNatClampNeg 0) (pv y_4.toNatClampNeg 1) (pa y_4.toNatClampNeg 1) (pa y_4.toNatClampNeg 2) (pa y_4.toNatClampNeg 3) (pa y_4.toNatClampNeg 4) (pa y_4.toNatClampNeg 5), ai_ cy (pa y_4.toNatClampNeg 1) 40 (pg y_4.toNatClampNeg 1), ai_ cy (pa y_4.toNatClampNeg 2) 40 (pg y_4.toNatClampNeg 2), ai_ cy (pa y_4.toNatClampNeg 3) 40 (pg y_4.toNatClampNeg 3), ai_ cy (pa y_4.toNatClampNeg 4) 40 (pg y_4.toNatClampNeg 4), ai_ cy (pa y_4.toNatClampNeg 5) 40 (pg y_4.toNatClampNeg 5)] : va_W) ++ (prest cy pa pv pg pm y_4.toNatClampNeg)) hP hD (fun hP hD => ?_)
    have hn_6 := hpk y_4.toNatClampNeg hk_
    have rr_7 : rng (pg y_4.toNatClampNeg 1) 40 (0) (4) := hn_6.2.2.1
    have rr_8 : rng (pg y_4.toNatClampNeg 4) 40 (0) (2000) := hn_6.2.2.2.2.1
    have rr_9 : rng (pg y_4.toNatClampNeg 5) 40 (0) (100) := hn_6.2.2.2.2.2
    have hnp_ := hn_6.1; have hnl_ := hn_6.2.1; have hnpr_ := hn_6.2.2.2.1
    refine lv_aload_n hx hb dB_36_2_45.1.1.2.1 rfl (lv_at hl 1 rfl) ?_
    refine va_get (ci := 11) (v := .ref xn) (C := RX11) (T := TX11) (N := 12) hx hb hts (fun _ h => List.mem_cons_of_mem _ (List.mem_append_left _ (List.mem_append_right _ h))) hown hK.1 hP 0 rfl rfl 1 (by decide) (hts (.fieldLink RX11 31 "CutAtlas" "net" "LCutAtlas$Net;") (List.mem_of_getElem? (i := 4) rfl)) (fun _ h9 => h9) rfl dB_36_2_45.1.1.2.2 ?_
    refine lv_aload_n hx hb dB_36_2_45.1.2.1.1 rfl (lv_at hl 0 rfl) ?_
    have hPx := pp_left hP
    have hDx := dd_left hD
    refine ct_S hPx hDx hS hA [ob3_0_ xn vp vn n1 n2 n3 n4 n5, ai_ cy n1 40 fk, ai_ cy n2 40 fs, ai_ cy n3 40 fe, ai_ cy n4 40 fw, ai_ cy n5 40 fp, ob3_0_ (pa y_4.toNatClampNeg 0) (pv y_4.toNatClampNeg 0) (pv y_4.toNatClampNeg 1) (pa y_4.toNatClampNeg 1) (pa y_4.toNatClampNeg 2) (pa y_4.toNatClampNeg 3) (pa y_4.toNatClampNeg 4) (pa y_4.toNatClampNeg 5), ai_ cy (pa y_4.toNatClampNeg 1) 40 (pg y_4.toNatClampNeg 1), ai_ cy (pa y_4.toNatClampNeg 2) 40 (pg y_4.toNatClampNeg 2), ai_ cy (pa y_4.toNatClampNeg 3) 40 (pg y_4.toNatClampNeg 3), ai_ cy (pa y_4.toNatClampNeg 4) 40 (pg y_4.toNatClampNeg 4), ai_ cy (pa y_4.toNatClampNeg 5) 40 (pg y_4.toNatClampNeg 5)] [1, 2, 3, 4, 5, 6, 8, 9, 10, 11, 12, 13] (by decide +kernel) rfl (fun hPc hDw hFc hC_ => ?_)
    refine va_callv (va_runV (As := [.ref (pa y_4.toNatClampNeg 0)]) (rest := []) ⟨hx, hb, hml, hown, hts⟩ (c_X3_become l D cy H.size xn n1 n2 n3 n4 n5 vp vn (pa y_4.toNatClampNeg 0) (pa y_4.toNatClampNeg 1) (pa y_4.toNatClampNeg 2) (pa y_4.toNatClampNeg 3) (pa y_4.toNatClampNeg 4) (pa y_4.toNatClampNeg 5) (pv y_4.toNatClampNeg 0) (pv y_4.toNatClampNeg 1) fk fs fe fw fp (pg y_4.toNatClampNeg 1) (pg y_4.toNatClampNeg 2) (pg y_4.toNatClampNeg 3) (pg y_4.toNatClampNeg 4) (pg y_4.toNatClampNeg 5) (by first | with_reducible assumption | omega | assumption) (by first | with_reducible assumption | omega | assumption) (hpr) (hnpr_) (by first | with_reducible assumption | assumption | omega) (by first | with_reducible assumption | assumption | omega) (by first | with_reducible assumption | assumption | omega) (by first | with_reducible assumption | assumption | omega) (by first | with_reducible assumption | assumption | omega) (by first | with_reducible assumption | assumption | omega)) (cwV 1 hts gX11_undo_X3_become rfl rfl rfl ⟨rfl, hd_X3_become⟩ ⟨Nat.le_of_ble_eq_true rfl, Nat.le_of_ble_eq_true rfl⟩) ⟨bl_, va_recvX hK.1 hPx (ci := 3) (q0 := 1) rfl rfl, fun U hU hW => ⟨rfl, by rw [hU], by rw [hU]; exact hPc, kk_mv hW hK, hDw⟩⟩ rfl rfl hl.1 rfl (lv_room (Nat.le_of_ble_eq_true rfl)) dB_36_2_45.1.2.1.2 ⟨Nat.le_of_ble_eq_true rfl, Nat.le_of_ble_eq_true rfl⟩) hS (fun q _ h => hFc q h) hFc (fun u t H locs ht hvm hw hB hz1 hk1 hS => ?_)
    obtain ⟨fk9_11, fs9_12, fe9_13, fw9_14, fp9_15, g_16, g_17, g_18, g_19, hP1, hD1⟩ := hB
    rw [ht] at hP1
    obtain ⟨hP, hD⟩ := va_joinQ (wr := [ob11_0_ xo xk xn xc xh xt xw xm xp pf y_2 tr fi, aq_ cy 5 xp 30 (pst pa pm)]) (w1 := [ob3_0_ xn (pv y_4.toNatClampNeg 0) (pv y_4.toNatClampNeg 1) n1 n2 n3 n4 n5, ai_ cy n1 40 fk9_11, ai_ cy n2 40 fs9_12, ai_ cy n3 40 fe9_13, ai_ cy n4 40 fw9_14, ai_ cy n5 40 fp9_15, ob3_0_ (pa y_4.toNatClampNeg 0) (pv y_4.toNatClampNeg 0) (pv y_4.toNatClampNeg 1) (pa y_4.toNatClampNeg 1) (pa y_4.toNatClampNeg 2) (pa y_4.toNatClampNeg 3) (pa y_4.toNatClampNeg 4) (pa y_4.toNatClampNeg 5), ai_ cy (pa y_4.toNatClampNeg 1) 40 (pg y_4.toNatClampNeg 1), ai_ cy (pa y_4.toNatClampNeg 2) 40 (pg y_4.toNatClampNeg 2), ai_ cy (pa y_4.toNatClampNeg 3) 40 (pg y_4.toNatClampNeg 3), ai_ cy (pa y_4.toNatClampNeg 4) 40 (pg y_4.toNatClampNeg 4), ai_ cy (pa y_4.toNatClampNeg 5) 40 (pg y_4.toNatClampNeg 5)]) hP hD [1, 2, 3, 4, 5, 6, 8, 9, 10, 11, 12, 13] [0, 7] hC_ rfl (by decide) (by decide) hk1 hFc hP1 hD1
    refine pd_K (([ob11_0_ xo xk xn xc xh xt xw xm xp pf y_2 tr fi, aq_ cy 5 xp 30 (pst pa pm), ob3_0_ xn (pv y_4.toNatClampNeg 0) (pv y_4.toNatClampNeg 1) n1 n2 n3 n4 n5, ai_ cy n1 40 fk9_11, ai_ cy n2 40 fs9_12, ai_ cy n3 40 fe9_13, ai_ cy n4 40 fw9_14, ai_ cy n5 40 fp9_15, ob3_0_ (pa y_4.toNatClampNeg 0) (pv y_4.toNatClampNeg 0) (pv y_4.toNatClampNeg 1) (pa y_4.toNatClampNeg 1) (pa y_4.toNatClampNeg 2) (pa y_4.toNatClampNeg 3) (pa y_4.toNatClampNeg 4) (pa y_4.toNatClampNeg 5), ai_ cy (pa y_4.toNatClampNeg 1) 40 (pg y_4.toNatClampNeg 1), ai_ cy (pa y_4.toNatClampNeg 2) 40 (pg y_4.toNatClampNeg 2), ai_ cy (pa y_4.toNatClampNeg 3) 40 (pg y_4.toNatClampNeg 3), ai_ cy (pa y_4.toNatClampNeg 4) 40 (pg y_4.toNatClampNeg 4), ai_ cy (pa y_4.toNatClampNeg 5) 40 (pg y_4.toNatClampNeg 5)] : va_W) ++ (prest cy pa pv pg pm y_4.toNatClampNeg)) hP hD (fun hP hD => ?_)
    refine pd_P hP hD [ob11_0_ xo xk xn xc xh xt xw xm xp pf y_2 tr fi, ob3_0_ xn (pv y_4.toNatClampNeg 0) (pv y_4.toNatClampNeg 1) n1 n2 n3 n4 n5, ai_ cy n1 40 fk9_11, ai_ cy n2 40 fs9_12, ai_ cy n3 40 fe9_13, ai_ cy n4 40 fw9_14, ai_ cy n5 40 fp9_15, aq_ cy 5 xp 30 (pst pa pm), ob3_0_ (pa y_4.toNatClampNeg 0) (pv y_4.toNatClampNeg 0) (pv y_4.toNatClampNeg 1) (pa y_4.toNatClampNeg 1) (pa y_4.toNatClampNeg 2) (pa y_4.toNatClampNeg 3) (pa y_4.toNatClampNeg 4) (pa y_4.toNatClampNeg 5), ai_ cy (pa y_4.toNatClampNeg 1) 40 (pg y_4.toNatClampNeg 1), ai_ cy (pa y_4.toNatClampNeg 2) 40 (pg y_4.toNatClampNeg 2), ai_ cy (pa y_4.toNatClampNeg 3) 40 (pg y_4.toNatClampNeg 3), ai_ cy (pa y_4.toNatClampNeg 4) 40 (pg y_4.toNatClampNeg 4), ai_ cy (pa y_4.toNatClampNeg 5) 40 (pg y_4.toNatClampNeg 5)] [0, 2, 3, 4, 5, 6, 7, 1, 8, 9, 10, 11, 12, 13] (by decide +kernel) rfl (fun hP hD => ?_)
    have hnn_ : nok (pv y_4.toNatClampNeg 0) (pv y_4.toNatClampNeg 1) fk9_11 fs9_12 fe9_13 fw9_14 fp9_15 := ⟨hnp_, hnl_, g_17, g_16, g_18, g_19⟩
    obtain ⟨pvk_20, epvk_20⟩ : ∃ g : Nat → Nat → Int32, g = va_up pv y_4.toNatClampNeg (qn2 (pv y_4.toNatClampNeg 0) (pv y_4.toNatClampNeg 1)) := ⟨_, rfl⟩
    obtain ⟨pgk_20, epgk_20⟩ : ∃ g : Nat → Nat → Nat → Int32, g = va_up pg y_4.toNatClampNeg (qn5 (pg y_4.toNatClampNeg 1) (pg y_4.toNatClampNeg 2) (pg y_4.toNatClampNeg 3) (pg y_4.toNatClampNeg 4) (pg y_4.toNatClampNeg 5)) := ⟨_, rfl⟩
    have hcg_ : ∀ i : Nat, i ≠ y_4.toNatClampNeg → pvk_20 i = pv i ∧ pgk_20 i = pg i := fun i hi => by rw [epvk_20, epgk_20]; exact ⟨va_up_ne _ _ hi, va_up_ne _ _ hi⟩
    have hP : va_P D vwCl ((([ob11_0_ xo xk xn xc xh xt xw xm xp pf y_2 tr fi, ob3_0_ xn (pv y_4.toNatClampNeg 0) (pv y_4.toNatClampNeg 1) n1 n2 n3 n4 n5, ai_ cy n1 40 fk9_11, ai_ cy n2 40 fs9_12, ai_ cy n3 40 fe9_13, ai_ cy n4 40 fw9_14, ai_ cy n5 40 fp9_15, aq_ cy 5 xp 30 (pst pa pm)] : va_W) ++ pnet cy pa pvk_20 pgk_20 y_4.toNatClampNeg) ++ (prest cy pa pv pg pm y_4.toNatClampNeg)) H := by rw [show pnet cy pa pvk_20 pgk_20 y_4.toNatClampNeg = [ob3_0_ (pa y_4.toNatClampNeg 0) (pv y_4.toNatClampNeg 0) (pv y_4.toNatClampNeg 1) (pa y_4.toNatClampNeg 1) (pa y_4.toNatClampNeg 2) (pa y_4.toNatClampNeg 3) (pa y_4.toNatClampNeg 4) (pa y_4.toNatClampNeg 5), ai_ cy (pa y_4.toNatClampNeg 1) 40 (pg y_4.toNatClampNeg 1), ai_ cy (pa y_4.toNatClampNeg 2) 40 (pg y_4.toNatClampNeg 2), ai_ cy (pa y_4.toNatClampNeg 3) 40 (pg y_4.toNatClampNeg 3), ai_ cy (pa y_4.toNatClampNeg 4) 40 (pg y_4.toNatClampNeg 4), ai_ cy (pa y_4.toNatClampNeg 5) 40 (pg y_4.toNatClampNeg 5)] by unfold pnet; rw [epvk_20, epgk_20, va_up_self, va_up_self]; rfl]; exact hP
    have hD : va_D A ((([ob11_0_ xo xk xn xc xh xt xw xm xp pf y_2 tr fi, ob3_0_ xn (pv y_4.toNatClampNeg 0) (pv y_4.toNatClampNeg 1) n1 n2 n3 n4 n5, ai_ cy n1 40 fk9_11, ai_ cy n2 40 fs9_12, ai_ cy n3 40 fe9_13, ai_ cy n4 40 fw9_14, ai_ cy n5 40 fp9_15, aq_ cy 5 xp 30 (pst pa pm)] : va_W) ++ pnet cy pa pvk_20 pgk_20 y_4.toNatClampNeg) ++ (prest cy pa pv pg pm y_4.toNatClampNeg)) := by rw [show pnet cy pa pvk_20 pgk_20 y_4.toNatClampNeg = [ob3_0_ (pa y_4.toNatClampNeg 0) (pv y_4.toNatClampNeg 0) (pv y_4.toNatClampNeg 1) (pa y_4.toNatClampNeg 1) (pa y_4.toNatClampNeg 2) (pa y_4.toNatClampNeg 3) (pa y_4.toNatClampNeg 4) (pa y_4.toNatClampNeg 5), ai_ cy (pa y_4.toNatClampNeg 1) 40 (pg y_4.toNatClampNeg 1), ai_ cy (pa y_4.toNatClampNeg 2) 40 (pg y_4.toNatClampNeg 2), ai_ cy (pa y_4.toNatClampNeg 3) 40 (pg y_4.toNatClampNeg 3), ai_ cy (pa y_4.toNatClampNeg 4) 40 (pg y_4.toNatClampNeg 4), ai_ cy (pa y_4.toNatClampNeg 5) 40 (pg y_4.toNatClampNeg 5)] by unfold pnet; rw [epvk_20, epgk_20, va_up_self, va_up_self]; rfl]; exact hD
    have hP := unf_P hk_ hcg_ hP
    have hD := unf_D hk_ hcg_ hD
    refine pd_K (([ob11_0_ xo xk xn xc xh xt xw xm xp pf y_2 tr fi, ob3_0_ xn (pv y_4.toNatClampNeg 0) (pv y_4.toNatClampNeg 1) n1 n2 n3 n4 n5, ai_ cy n1 40 fk9_11, ai_ cy n2 40 fs9_12, ai_ cy n3 40 fe9_13, ai_ cy n4 40 fw9_14, ai_ cy n5 40 fp9_15, aq_ cy 5 xp 30 (pst pa pm)] : va_W) ++ (pool cy pa pvk_20 pgk_20 pm)) hP hD (fun hP hD => ?_)
    have pk_21 : pok pvk_20 pgk_20 pm := by rw [epvk_20, epgk_20]; exact pok_st hpk (by omega) (hn_6)
    refine lv_aload_n hx hb dB_36_2_45.1.2.2.1 rfl (lv_at hl 1 rfl) ?_
    refine va_get (ci := 11) (v := .int y_2) (C := RX11) (T := TX11) (N := 12) hx hb hts (fun _ h => List.mem_cons_of_mem _ (List.mem_append_left _ (List.mem_append_right _ h))) hown hK.1 hP 0 rfl rfl 9 (by decide) (hts (.fieldLink RX11 84 "CutAtlas" "pastHeld" "I") (List.mem_of_getElem? (i := 1) rfl)) (fun _ h9 => h9) rfl dB_36_2_45.1.2.2.2 ?_
    rw [hQ]
    exact W.iret (v := y_2) hx hb hr (fun t ht hW => ⟨⟨y_2, (), rfl, trivial, pf, y_2, (pv y_4.toNatClampNeg 0), (pv y_4.toNatClampNeg 1), fk9_11, fs9_12, fe9_13, fw9_14, fp9_15, pa, pvk_20, pgk_20, pm, (by first | exact hnk | exact hnn_), (by assumption), (by unfold rok; omega), by rw [ht]; exact hP, hD⟩, hS.F ht⟩) hS.2.2 dB_36_2_45.2.1.1.1
  · have t_1 : ph.toInt = (0 : Int32).toInt := congrArg Int32.toInt c_1
    refine lv_bipush (v := (-2)) hx hb dB_36_2_43.2.2.1.2 (by decide) ?_
    rw [hQ]
    exact W.iret (v := (-2)) hx hb hr (fun t ht hW => ⟨⟨(-2), (), rfl, trivial, pf, ph, vp, vn, fk, fs, fe, fw, fp, pa, pv, pg, pm, (by first | exact hnk | exact hnn_), (by assumption), (by unfold rok; omega), by rw [ht]; exact hP, hD⟩, hS.F ht⟩) hS.2.2 dB_36_2_43.2.2.2.1
end
