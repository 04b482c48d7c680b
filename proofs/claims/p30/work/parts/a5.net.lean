set_option maxHeartbeats 4000000 in
set_option maxRecDepth 100000 in
theorem c_X11_place (l : Launch) (D : va_G) (cy : Nat → ClassId) (sz : Nat) (xo : Nat) (xk : Nat) (xn : Nat) (xc : Nat) (xh : Nat) (xt : Nat) (xw : Nat) (xm : Nat) (xp : Nat) (pf : Int32) (ph : Int32) (tr : Int64) (fi : Int32) (n1 : Nat) (n2 : Nat) (n3 : Nat) (n4 : Nat) (n5 : Nat) (vp : Int32) (vn : Int32) (fk : Nat → Int32) (fs : Nat → Int32) (fe : Nat → Int32) (fw : Nat → Int32) (fp : Nat → Int32) (pa : Nat → Nat → Nat) (pv : Nat → Nat → Int32) (pg : Nat → Nat → Nat → Int32) (pm : Nat) (hnk : nok vp vn fk fs fe fw fp) (hpk : pok pv pg pm) (hrk : rok pf ph pm) (hpr : prng fs fe 40) (r_fk : rng fk 40 (0) (4)) (r_fw : rng fw 40 (0) (2000)) (r_fp : rng fp 40 (0) (100)) : Met l yX11_place wsX11_place ({ frames := 3, cells := 6, slots := 207, locals := 82 }) (va_Pc [.ref xo] (fun U => U.heap.size = sz ∧ va_P D vwCl (([ob11_0_ xo xk xn xc xh xt xw xm xp pf ph tr fi, ob3_0_ xn vp vn n1 n2 n3 n4 n5, ai_ cy n1 40 fk, ai_ cy n2 40 fs, ai_ cy n3 40 fe, ai_ cy n4 40 fw, ai_ cy n5 40 fp, aq_ cy 5 xp 30 (pst pa pm)] : va_W) ++ (pool cy pa pv pg pm)) U.heap ∧ kk_ D cy U ∧ va_D (fun _ => True) (([ob11_0_ xo xk xn xc xh xt xw xm xp pf ph tr fi, ob3_0_ xn vp vn n1 n2 n3 n4 n5, ai_ cy n1 40 fk, ai_ cy n2 40 fs, ai_ cy n3 40 fe, ai_ cy n4 40 fw, ai_ cy n5 40 fp, aq_ cy 5 xp 30 (pst pa pm)] : va_W) ++ (pool cy pa pv pg pm)))) (va_Qi (fun (r : Int32) (_ : Unit) => True) (fun (_ : Unit) (t : State) => ∃ (epf : Int32), ∃ (eph : Int32), ∃ (evp : Int32), ∃ (epa : Nat → Nat → Nat), ∃ (epv : Nat → Nat → Int32), ∃ (epg : Nat → Nat → Nat → Int32), ∃ (epm : Nat), (nok evp vn fk fs fe fw fp) ∧ (pok epv epg epm) ∧ (rok epf eph epm) ∧ va_P D vwCl (([ob11_0_ xo xk xn xc xh xt xw xm xp epf eph tr fi, ob3_0_ xn evp vn n1 n2 n3 n4 n5, ai_ cy n1 40 fk, ai_ cy n2 40 fs, ai_ cy n3 40 fe, ai_ cy n4 40 fw, ai_ cy n5 40 fp, aq_ cy 5 xp 30 (pst epa epm)] : va_W) ++ (pool cy epa epv epg epm)) t.heap ∧ va_D (va_A (([ob11_0_ xo xk xn xc xh xt xw xm xp pf ph tr fi, ob3_0_ xn vp vn n1 n2 n3 n4 n5, ai_ cy n1 40 fk, ai_ cy n2 40 fs, ai_ cy n3 40 fe, ai_ cy n4 40 fw, ai_ cy n5 40 fp, aq_ cy 5 xp 30 (pst pa pm)] : va_W) ++ (pool cy pa pv pg pm)) sz) (([ob11_0_ xo xk xn xc xh xt xw xm xp epf eph tr fi, ob3_0_ xn evp vn n1 n2 n3 n4 n5, ai_ cy n1 40 fk, ai_ cy n2 40 fs, ai_ cy n3 40 fe, ai_ cy n4 40 fw, ai_ cy n5 40 fp, aq_ cy 5 xp 30 (pst epa epm)] : va_W) ++ (pool cy epa epv epg epm))) (va_A (([ob11_0_ xo xk xn xc xh xt xw xm xp pf ph tr fi, ob3_0_ xn vp vn n1 n2 n3 n4 n5, ai_ cy n1 40 fk, ai_ cy n2 40 fs, ai_ cy n3 40 fe, ai_ cy n4 40 fw, ai_ cy n5 40 fp, aq_ cy 5 xp 30 (pst pa pm)] : va_W) ++ (pool cy pa pv pg pm)) sz)) 6 207 (va_A (([ob11_0_ xo xk xn xc xh xt xw xm xp pf ph tr fi, ob3_0_ xn vp vn n1 n2 n3 n4 n5, ai_ cy n1 40 fk, ai_ cy n2 40 fs, ai_ cy n3 40 fe, ai_ cy n4 40 fw, ai_ cy n5 40 fp, aq_ cy 5 xp 30 (pst pa pm)] : va_W) ++ (pool cy pa pv pg pm)) sz) := by
  refine ofQ (cc := cX11_place) (maxL := 1) (ret := (some .int)) (by decide) rfl ?_
  intro p e s m args below meth c s₁ Q hQ B hml hv
  obtain ⟨rfl, hsz, hP, hK, hD0⟩ := hv
  have hx := B.exec
  have hb := B.bytes
  have hr := B.returns
  have hts := atoms_spec (ws := wsX11_place) B.pre
  have hown : s.vm.findClass RX11 = some m.cls := by have h_ := findClass_of_methodNamed B.named; exact h_
  have hlocks := B.notSynchronized
  subst hsz
  have hD := hD0.self (sz := s.heap.size)
  generalize hAe : va_A (([ob11_0_ xo xk xn xc xh xt xw xm xp pf ph tr fi, ob3_0_ xn vp vn n1 n2 n3 n4 n5, ai_ cy n1 40 fk, ai_ cy n2 40 fs, ai_ cy n3 40 fe, ai_ cy n4 40 fw, ai_ cy n5 40 fp, aq_ cy 5 xp 30 (pst pa pm)] : va_W) ++ (pool cy pa pv pg pm)) s.heap.size = A at hD hQ
  have hA : ∀ q : Nat, s.heap.size ≤ q → A q := fun q h => by rw [← hAe]; exact Or.inr h
  have hS : va_S A s.heap s.heap [] := va_S.rf
  have hl := lv_entry ([.ref xo]) (n := 1) (Nat.le_of_ble_eq_true rfl)
  rw [lg_entry_eq]
  generalize (lg_sl ([.ref xo]) ++ List.replicate (1 - (lg_sl ([.ref xo])).length) Slot.unset).toArray = ls at hl ⊢
  have hl : lv_has ls 1 [(0, .ref xo)] := hl
  have zm3 : ((-3) : Int32).toInt = -3 := by decide
  have z1 : (1 : Int32).toInt = 1 := by decide
  have z12 : (12 : Int32).toInt = 12 := by decide
  have hvp := hnk.1
  have hvn := hnk.2.1
  have hr_ := hrk
  unfold rok at hr_
  refine lv_aload_n hx hb dB_36_2_31.2.2.2.1 rfl (lv_at hl 0 rfl) ?_
  refine va_get (ci := 11) (v := .ref xn) (C := RX11) (T := TX11) (N := 12) hx hb hts (fun _ h => List.mem_cons_of_mem _ (List.mem_append_left _ (List.mem_append_right _ h))) hown hK.1 hP 0 rfl rfl 1 (by decide) (hts (.fieldLink RX11 31 "CutAtlas" "net" "LCutAtlas$Net;") (List.mem_of_getElem? (i := 1) rfl)) (fun _ h9 => h9) rfl dB_36_2_31.2.2.2.2 ?_
  refine va_get (ci := 3) (v := .int vp) (C := RX3) (T := TX3) (N := 7) hx hb hts (fun _ h => List.mem_cons_of_mem _ (List.mem_append_right _ h)) hown hK.1 hP 1 rfl rfl 0 (by decide) (hts (.fieldLink RX11 94 "CutAtlas$Net" "places" "I") (List.mem_of_getElem? (i := 2) rfl)) (fun _ h9 => h9) rfl dB_36_2_32.1.1.1.1 ?_
  refine lv_bipush (v := 12) hx hb dB_36_2_32.1.1.1.2 (by decide) ?_
  refine lv_icmp_lt (tgt := 15) hx hb dB_36_2_32.1.1.2.1 (by decide) (fun c_1 => ?_) (fun c_1 => ?_)
  · have t_1 : vp.toInt < (12 : Int32).toInt := Int32.lt_iff_toInt_lt.mp c_1
    refine lv_aload_n hx hb dB_36_2_32.1.2.1.2 rfl (lv_at hl 0 rfl) ?_
    refine ct_P hP hD hS hA [ob11_0_ xo xk xn xc xh xt xw xm xp pf ph tr fi, ob3_0_ xn vp vn n1 n2 n3 n4 n5, ai_ cy n1 40 fk, ai_ cy n2 40 fs, ai_ cy n3 40 fe, ai_ cy n4 40 fw, ai_ cy n5 40 fp, aq_ cy 5 xp 30 (pst pa pm)] [0, 1, 2, 3, 4, 5, 6, 7] (by decide) rfl (fun hPc hDw hFc hC_ => ?_)
    have hPx := pp_left hP
    refine va_callv (va_runV (As := []) (rest := []) ⟨hx, hb, hml, hown, hts⟩ (c_X11_remember l D cy s.heap.size xo xk xn xc xh xt xw xm xp pf ph tr fi n1 n2 n3 n4 n5 vp vn fk fs fe fw fp pa pv pg pm (by first | with_reducible assumption | assumption | omega) (by first | with_reducible assumption | assumption | omega) (by first | with_reducible assumption | assumption | omega) (by first | with_reducible assumption | assumption | omega) (by first | with_reducible assumption | assumption | omega) (by first | with_reducible assumption | assumption | omega) (by first | with_reducible assumption | assumption | omega)) (cwV 0 hts gX11_place_X11_remember rfl rfl rfl ⟨rfl, hd_X11_remember⟩ ⟨Nat.le_of_ble_eq_true rfl, Nat.le_of_ble_eq_true rfl⟩) ⟨bl_, va_recvX hK.1 hPx (ci := 11) (q0 := 0) rfl rfl, fun U hU hW => ⟨rfl, by rw [hU], by rw [hU]; exact hPc, kk_mv hW hK, hDw⟩⟩ rfl rfl hl.1 rfl (lv_room (Nat.le_of_ble_eq_true rfl)) dB_36_2_32.1.2.2.1 ⟨Nat.le_of_ble_eq_true rfl, Nat.le_of_ble_eq_true rfl⟩) hS (fun q _ h => hFc q h) hFc (fun u t H locs ht hvm hw hB hz1 hk1 hS => ?_)
    obtain ⟨epf_3, eph_4, epa_5, epv_6, epg_7, epm_8, g_9, g_10, g_11, hP1, hD1⟩ := hB
    rw [ht] at hP1
    obtain ⟨hP, hD⟩ := va_joinP (wr := []) (rx := [ob11_0_ xo xk xn xc xh xt xw xm xp epf_3 eph_4 tr fi, ob3_0_ xn vp vn n1 n2 n3 n4 n5, ai_ cy n1 40 fk, ai_ cy n2 40 fs, ai_ cy n3 40 fe, ai_ cy n4 40 fw, ai_ cy n5 40 fp, aq_ cy 5 xp 30 (pst epa_5 epm_8)]) (pl1 := (pool cy epa_5 epv_6 epg_7 epm_8)) hP hD [0, 1, 2, 3, 4, 5, 6, 7] [] hC_ rfl (by decide) (by decide) hk1 hFc hP1 hD1
    refine pd_K (([ob11_0_ xo xk xn xc xh xt xw xm xp epf_3 eph_4 tr fi, ob3_0_ xn vp vn n1 n2 n3 n4 n5, ai_ cy n1 40 fk, ai_ cy n2 40 fs, ai_ cy n3 40 fe, ai_ cy n4 40 fw, ai_ cy n5 40 fp, aq_ cy 5 xp 30 (pst epa_5 epm_8)] : va_W) ++ (pool cy epa_5 epv_6 epg_7 epm_8)) hP hD (fun hP hD => ?_)
    refine lv_aload_n hx hb dB_36_2_32.1.2.2.2 rfl (lv_at hl 0 rfl) ?_
    refine va_get (ci := 11) (v := .ref xn) (C := RX11) (T := TX11) (N := 12) hx hb hts (fun _ h => List.mem_cons_of_mem _ (List.mem_append_left _ (List.mem_append_right _ h))) hown hK.1 hP 0 rfl rfl 1 (by decide) (hts (.fieldLink RX11 31 "CutAtlas" "net" "LCutAtlas$Net;") (List.mem_of_getElem? (i := 1) rfl)) (fun _ h9 => h9) rfl dB_36_2_32.2.1.1.1 ?_
    refine lv_dup hx hb dB_36_2_32.2.1.1.2 rfl ?_
    refine va_get (ci := 3) (v := .int vp) (C := RX3) (T := TX3) (N := 7) hx hb hts (fun _ h => List.mem_cons_of_mem _ (List.mem_append_right _ h)) hown hK.1 hP 1 rfl rfl 0 (by decide) (hts (.fieldLink RX11 94 "CutAtlas$Net" "places" "I") (List.mem_of_getElem? (i := 2) rfl)) (fun _ h9 => h9) rfl dB_36_2_32.2.1.2.1 ?_
    refine lv_iconst (v := 1) hx hb dB_36_2_32.2.1.2.2 (by decide) ?_
    refine lv_iadd hx hb dB_36_2_32.2.2.1.1 ?_
    refine lv_topi (fun y_12 ey_12 => ?_)
    have ty_12 : y_12.toInt = vp.toInt + (1 : Int32).toInt := by rw [ey_12]; exact addI (by omega) (by omega)
    refine va_put (ci := 3) (v := .int y_12) (ty := .int) (C := RX3) (T := TX3) (N := 7) hx hb hts (fun _ h => List.mem_cons_of_mem _ (List.mem_append_right _ h)) tyX3 tyX3_ok nmX3 hown hK.1 hP hD hS 1 rfl rfl 0 (by decide) (hts (.fieldLink RX11 94 "CutAtlas$Net" "places" "I") (List.mem_of_getElem? (i := 2) rfl)) (fun _ h9 => h9) rfl (by decide +kernel) rfl rfl (Nat.le_of_ble_eq_true rfl) dB_36_2_32.2.2.1.2 (fun H locs hP hD hS => ?_)
    refine pd_K (([ob11_0_ xo xk xn xc xh xt xw xm xp epf_3 eph_4 tr fi, ob3_0_ xn y_12 vn n1 n2 n3 n4 n5, ai_ cy n1 40 fk, ai_ cy n2 40 fs, ai_ cy n3 40 fe, ai_ cy n4 40 fw, ai_ cy n5 40 fp, aq_ cy 5 xp 30 (pst epa_5 epm_8)] : va_W) ++ (pool cy epa_5 epv_6 epg_7 epm_8)) hP hD (fun hP hD => ?_)
    refine lv_aload_n hx hb dB_36_2_32.2.2.2.1 rfl (lv_at hl 0 rfl) ?_
    refine va_get (ci := 11) (v := .ref xn) (C := RX11) (T := TX11) (N := 12) hx hb hts (fun _ h => List.mem_cons_of_mem _ (List.mem_append_left _ (List.mem_append_right _ h))) hown hK.1 hP 0 rfl rfl 1 (by decide) (hts (.fieldLink RX11 31 "CutAtlas" "net" "LCutAtlas$Net;") (List.mem_of_getElem? (i := 1) rfl)) (fun _ h9 => h9) rfl dB_36_2_32.2.2.2.2 ?_
    refine va_get (ci := 3) (v := .int y_12) (C := RX3) (T := TX3) (N := 7) hx hb hts (fun _ h => List.mem_cons_of_mem _ (List.mem_append_right _ h)) hown hK.1 hP 1 rfl rfl 0 (by decide) (hts (.fieldLink RX11 94 "CutAtlas$Net" "places" "I") (List.mem_of_getElem? (i := 2) rfl)) (fun _ h9 => h9) rfl dB_36_2_33.1.1.1.1 ?_
    refine lv_iconst (v := 1) hx hb dB_36_2_33.1.1.1.2 (by decide) ?_
    refine lv_isub hx hb dB_36_2_33.1.1.2.1 ?_
    refine lv_topi (fun y_13 ey_13 => ?_)
    have ty_13 : y_13.toInt = y_12.toInt - (1 : Int32).toInt := by rw [ey_13]; exact subI (by omega) (by omega)
    rw [hQ]
    exact W.iret (v := y_13) hx hb hr (fun t ht hW => ⟨⟨y_13, (), rfl, trivial, epf_3, eph_4, y_12, epa_5, epv_6, epg_7, epm_8, (by first | exact hnk | exact ⟨by omega, hnk.2⟩), (by assumption), (by first | with_reducible assumption | assumption | (unfold rok; omega)), by rw [ht]; exact hP, hD⟩, hS.F ht⟩) hS.2.2 dB_36_2_33.1.1.2.2
  · have t_1 : ¬ vp.toInt < (12 : Int32).toInt := fun h => c_1 (Int32.lt_iff_toInt_lt.mpr h)
    refine lv_bipush (v := (-3)) hx hb dB_36_2_32.1.1.2.2 (by decide) ?_
    refine W.widen (k := 6) (n := 207) (Nat.le_of_ble_eq_true rfl) (Nat.le_of_ble_eq_true rfl) ?_
    rw [hQ]
    exact W.iret (v := (-3)) hx hb hr (fun t ht hW => ⟨⟨(-3), (), rfl, trivial, pf, ph, vp, pa, pv, pg, pm, (by first | exact hnk | exact ⟨by omega, hnk.2⟩), (by assumption), (by first | with_reducible assumption | assumption | (unfold rok; omega)), by rw [ht]; exact hP, hD⟩, hS.F ht⟩) hS.2.2 dB_36_2_32.1.2.1.1

set_option maxHeartbeats 4000000 in
set_option maxRecDepth 100000 in
theorem c_X11_line (l : Launch) (D : va_G) (cy : Nat → ClassId) (sz : Nat) (xo : Nat) (xk : Nat) (xn : Nat) (xc : Nat) (xh : Nat) (xt : Nat) (xw : Nat) (xm : Nat) (xp : Nat) (pf : Int32) (ph : Int32) (tr : Int64) (fi : Int32) (n1 : Nat) (n2 : Nat) (n3 : Nat) (n4 : Nat) (n5 : Nat) (vp : Int32) (vn : Int32) (fk : Nat → Int32) (fs : Nat → Int32) (fe : Nat → Int32) (fw : Nat → Int32) (fp : Nat → Int32) (pa : Nat → Nat → Nat) (pv : Nat → Nat → Int32) (pg : Nat → Nat → Nat → Int32) (pm : Nat) (k0 : Nat) (k1 : Nat) (k2 : Nat) (k3 : Nat) (k4 : Nat) (a1 : Int32) (a2 : Int32) (a3 : Int32) (a4 : Int32) (a5 : Int32) (hnk : nok vp vn fk fs fe fw fp) (hpk : pok pv pg pm) (hrk : rok pf ph pm) (hpr : prng fs fe 40) (r_fk : rng fk 40 (0) (4)) (r_fw : rng fw 40 (0) (2000)) (r_fp : rng fp 40 (0) (100)) : Met l yX11_line wsX11_line ({ frames := 3, cells := 6, slots := 207, locals := 82 }) (va_Pc [.ref xo, .int a1, .int a2, .int a3, .int a4, .int a5] (fun U => U.heap.size = sz ∧ va_P D vwCl (([ob11_0_ xo xk xn xc xh xt xw xm xp pf ph tr fi, ob3_0_ xn vp vn n1 n2 n3 n4 n5, ai_ cy n1 40 fk, ai_ cy n2 40 fs, ai_ cy n3 40 fe, ai_ cy n4 40 fw, ai_ cy n5 40 fp, aq_ cy 3 xk 5 (kf_ k0 k1 k2 k3 k4), ob6_0_ k0, ob5_0_ k1, ob9_0_ k2, ob2_0_ k3, ob8_0_ k4, aq_ cy 5 xp 30 (pst pa pm)] : va_W) ++ (pool cy pa pv pg pm)) U.heap ∧ kk_ D cy U ∧ va_D (fun _ => True) (([ob11_0_ xo xk xn xc xh xt xw xm xp pf ph tr fi, ob3_0_ xn vp vn n1 n2 n3 n4 n5, ai_ cy n1 40 fk, ai_ cy n2 40 fs, ai_ cy n3 40 fe, ai_ cy n4 40 fw, ai_ cy n5 40 fp, aq_ cy 3 xk 5 (kf_ k0 k1 k2 k3 k4), ob6_0_ k0, ob5_0_ k1, ob9_0_ k2, ob2_0_ k3, ob8_0_ k4, aq_ cy 5 xp 30 (pst pa pm)] : va_W) ++ (pool cy pa pv pg pm)))) (va_Qi (fun (r : Int32) (_ : Unit) => True) (fun (_ : Unit) (t : State) => ∃ (epf : Int32), ∃ (eph : Int32), ∃ (etr : Int64), ∃ (evn : Int32), ∃ (efk : Nat → Int32), ∃ (efs : Nat → Int32), ∃ (efe : Nat → Int32), ∃ (efw : Nat → Int32), ∃ (efp : Nat → Int32), ∃ (epa : Nat → Nat → Nat), ∃ (epv : Nat → Nat → Int32), ∃ (epg : Nat → Nat → Nat → Int32), ∃ (epm : Nat), (nok vp evn efk efs efe efw efp) ∧ (pok epv epg epm) ∧ (rok epf eph epm) ∧ va_P D vwCl (([ob11_0_ xo xk xn xc xh xt xw xm xp epf eph etr fi, ob3_0_ xn vp evn n1 n2 n3 n4 n5, ai_ cy n1 40 efk, ai_ cy n2 40 efs, ai_ cy n3 40 efe, ai_ cy n4 40 efw, ai_ cy n5 40 efp, aq_ cy 3 xk 5 (kf_ k0 k1 k2 k3 k4), ob6_0_ k0, ob5_0_ k1, ob9_0_ k2, ob2_0_ k3, ob8_0_ k4, aq_ cy 5 xp 30 (pst epa epm)] : va_W) ++ (pool cy epa epv epg epm)) t.heap ∧ va_D (va_A (([ob11_0_ xo xk xn xc xh xt xw xm xp pf ph tr fi, ob3_0_ xn vp vn n1 n2 n3 n4 n5, ai_ cy n1 40 fk, ai_ cy n2 40 fs, ai_ cy n3 40 fe, ai_ cy n4 40 fw, ai_ cy n5 40 fp, aq_ cy 3 xk 5 (kf_ k0 k1 k2 k3 k4), ob6_0_ k0, ob5_0_ k1, ob9_0_ k2, ob2_0_ k3, ob8_0_ k4, aq_ cy 5 xp 30 (pst pa pm)] : va_W) ++ (pool cy pa pv pg pm)) sz) (([ob11_0_ xo xk xn xc xh xt xw xm xp epf eph etr fi, ob3_0_ xn vp evn n1 n2 n3 n4 n5, ai_ cy n1 40 efk, ai_ cy n2 40 efs, ai_ cy n3 40 efe, ai_ cy n4 40 efw, ai_ cy n5 40 efp, aq_ cy 3 xk 5 (kf_ k0 k1 k2 k3 k4), ob6_0_ k0, ob5_0_ k1, ob9_0_ k2, ob2_0_ k3, ob8_0_ k4, aq_ cy 5 xp 30 (pst epa epm)] : va_W) ++ (pool cy epa epv epg epm))) (va_A (([ob11_0_ xo xk xn xc xh xt xw xm xp pf ph tr fi, ob3_0_ xn vp vn n1 n2 n3 n4 n5, ai_ cy n1 40 fk, ai_ cy n2 40 fs, ai_ cy n3 40 fe, ai_ cy n4 40 fw, ai_ cy n5 40 fp, aq_ cy 3 xk 5 (kf_ k0 k1 k2 k3 k4), ob6_0_ k0, ob5_0_ k1, ob9_0_ k2, ob2_0_ k3, ob8_0_ k4, aq_ cy 5 xp 30 (pst pa pm)] : va_W) ++ (pool cy pa pv pg pm)) sz)) 6 207 (va_A (([ob11_0_ xo xk xn xc xh xt xw xm xp pf ph tr fi, ob3_0_ xn vp vn n1 n2 n3 n4 n5, ai_ cy n1 40 fk, ai_ cy n2 40 fs, ai_ cy n3 40 fe, ai_ cy n4 40 fw, ai_ cy n5 40 fp, aq_ cy 3 xk 5 (kf_ k0 k1 k2 k3 k4), ob6_0_ k0, ob5_0_ k1, ob9_0_ k2, ob2_0_ k3, ob8_0_ k4, aq_ cy 5 xp 30 (pst pa pm)] : va_W) ++ (pool cy pa pv pg pm)) sz) := by
  refine ofQ (cc := cX11_line) (maxL := 7) (ret := (some .int)) (by decide) rfl ?_
  intro p e s m args below meth c s₁ Q hQ B hml hv
  obtain ⟨rfl, hsz, hP, hK, hD0⟩ := hv
  have hx := B.exec
  have hb := B.bytes
  have hr := B.returns
  have hts := atoms_spec (ws := wsX11_line) B.pre
  have hown : s.vm.findClass RX11 = some m.cls := by have h_ := findClass_of_methodNamed B.named; exact h_
  have hlocks := B.notSynchronized
  subst hsz
  have hD := hD0.self (sz := s.heap.size)
  generalize hAe : va_A (([ob11_0_ xo xk xn xc xh xt xw xm xp pf ph tr fi, ob3_0_ xn vp vn n1 n2 n3 n4 n5, ai_ cy n1 40 fk, ai_ cy n2 40 fs, ai_ cy n3 40 fe, ai_ cy n4 40 fw, ai_ cy n5 40 fp, aq_ cy 3 xk 5 (kf_ k0 k1 k2 k3 k4), ob6_0_ k0, ob5_0_ k1, ob9_0_ k2, ob2_0_ k3, ob8_0_ k4, aq_ cy 5 xp 30 (pst pa pm)] : va_W) ++ (pool cy pa pv pg pm)) s.heap.size = A at hD hQ
  have hA : ∀ q : Nat, s.heap.size ≤ q → A q := fun q h => by rw [← hAe]; exact Or.inr h
  have hS : va_S A s.heap s.heap [] := va_S.rf
  have hl := lv_entry ([.ref xo, .int a1, .int a2, .int a3, .int a4, .int a5]) (n := 7) (Nat.le_of_ble_eq_true rfl)
  rw [lg_entry_eq]
  generalize (lg_sl ([.ref xo, .int a1, .int a2, .int a3, .int a4, .int a5]) ++ List.replicate (7 - (lg_sl ([.ref xo, .int a1, .int a2, .int a3, .int a4, .int a5])).length) Slot.unset).toArray = ls at hl ⊢
  have hl : lv_has ls 7 [(0, .ref xo), (1, .int a1), (2, .int a2), (3, .int a3), (4, .int a4), (5, .int a5)] := hl
  have zm3 : ((-3) : Int32).toInt = -3 := by decide
  have zm1 : ((-1) : Int32).toInt = -1 := by decide
  have z0 : (0 : Int32).toInt = 0 := by decide
  have z1 : (1 : Int32).toInt = 1 := by decide
  have z2 : (2 : Int32).toInt = 2 := by decide
  have z3 : (3 : Int32).toInt = 3 := by decide
  have z4 : (4 : Int32).toInt = 4 := by decide
  have hvp := hnk.1
  have hvn := hnk.2.1
  have hr_ := hrk
  unfold rok at hr_
  refine lv_aload_n hx hb dB_36_2_33.1.2.1.1 rfl (lv_at hl 0 rfl) ?_
  refine lv_iload_n hx hb dB_36_2_33.1.2.1.2 rfl (lv_at hl 1 rfl) ?_
  refine lv_i2l (v := a1.toInt64) hx hb dB_36_2_33.1.2.2.1 rfl ?_
  have q_2 : (a1.toInt64).toInt = a1.toInt := Int32.toInt_toInt64 a1
  refine lv_iload_n hx hb dB_36_2_33.1.2.2.2 rfl (lv_at hl 2 rfl) ?_
  refine lv_i2l (v := a2.toInt64) hx hb dB_36_2_33.2.1.1.1 rfl ?_
  have q_4 : (a2.toInt64).toInt = a2.toInt := Int32.toInt_toInt64 a2
  refine lv_iload_n hx hb dB_36_2_33.2.1.1.2 rfl (lv_at hl 3 rfl) ?_
  refine lv_i2l (v := a3.toInt64) hx hb dB_36_2_33.2.1.2.1 rfl ?_
  have q_6 : (a3.toInt64).toInt = a3.toInt := Int32.toInt_toInt64 a3
  refine lv_iload hx hb dB_36_2_33.2.1.2.2 (lv_at hl 4 rfl) ?_
  refine lv_i2l (v := a4.toInt64) hx hb dB_36_2_33.2.2.1.1 rfl ?_
  have q_9 : (a4.toInt64).toInt = a4.toInt := Int32.toInt_toInt64 a4
  refine lv_iload hx hb dB_36_2_33.2.2.1.2 (lv_at hl 5 rfl) ?_
  refine lv_i2l (v := a5.toInt64) hx hb dB_36_2_33.2.2.2.1 rfl ?_
  have q_12 : (a5.toInt64).toInt = a5.toInt := Int32.toInt_toInt64 a5
  have hPx := pp_left hP
  have hDx := dd_left hD
  refine ct_R hPx hDx [ob11_0_ xo xk xn xc xh xt xw xm xp pf ph tr fi, ob3_0_ xn vp vn n1 n2 n3 n4 n5] [0, 1] (by decide) rfl (fun hPc hDw => ?_)
  have hFc := va_free (wc := []) hD hS hA [] rfl
  refine va_calli (va_runV (As := [.long a1.toInt64, .long a2.toInt64, .long a3.toInt64, .long a4.toInt64, .long a5.toInt64]) (rest := []) ⟨hx, hb, hml, hown, hts⟩ (c_X11_lineRefusal l D cy s.heap.size xo xk xn xc xh xt xw xm xp pf ph tr fi n1 n2 n3 n4 n5 vp vn a1.toInt64 a2.toInt64 a3.toInt64 a4.toInt64 a5.toInt64 (by first | with_reducible assumption | omega | assumption) (by first | with_reducible assumption | omega | assumption)) (cwV 5 hts gX11_line_X11_lineRefusal rfl rfl rfl ⟨rfl, hd_X11_lineRefusal⟩ ⟨Nat.le_of_ble_eq_true rfl, Nat.le_of_ble_eq_true rfl⟩) ⟨bl_, va_recvX hK.1 hPx (ci := 11) (q0 := 0) rfl rfl, fun U hU hW => ⟨rfl, by rw [hU], by rw [hU]; exact hPc, kk_mv hW hK, hDw⟩⟩ rfl rfl hl.1 rfl (lv_room (Nat.le_of_ble_eq_true rfl)) dB_36_2_33.2.2.2.2 ⟨Nat.le_of_ble_eq_true rfl, Nat.le_of_ble_eq_true rfl⟩) hS (fun q _ h => hFc q h) hFc (fun r_1 u t H locs ht hvm hw hB hz1 hk1 hS => ?_)
  have hP : va_P D vwCl _ H := ro_keep hP hk1
  rcases hw with ⟨w_2, e_⟩ | ⟨w_2, e_⟩ | ⟨w_2, e_⟩
  · have e_ := e_.symm
    subst e_
    refine lv_istore (lv' := [(6, .int (-1)), (0, .ref xo), (1, .int a1), (2, .int a2), (3, .int a3), (4, .int a4), (5, .int a5)]) hx hb dB_36_2_34.1.1.1.1 hl (by decide) rfl (fun ls hl => ?_)
    refine lv_iload hx hb dB_36_2_34.1.1.1.2 (lv_at hl 0 rfl) ?_
    refine lv_if_eq (tgt := 26) hx hb dB_36_2_34.1.1.2.1 (by decide) (fun c_3 => ?_) (fun c_3 => ?_)
    · exact absurd c_3 (by decide)
    · have _ := c_3
      refine lv_iload hx hb dB_36_2_34.1.1.2.2 (lv_at hl 0 rfl) ?_
      refine W.widen (k := 6) (n := 207) (Nat.le_of_ble_eq_true rfl) (Nat.le_of_ble_eq_true rfl) ?_
      rw [hQ]
      exact W.iret (v := (-1)) hx hb hr (fun t ht hW => ⟨⟨(-1), (), rfl, trivial, pf, ph, tr, vn, fk, fs, fe, fw, fp, pa, pv, pg, pm, (by first | exact hnk | exact hnn_), (by assumption), (by first | with_reducible assumption | assumption | (unfold rok; omega)), by rw [ht]; exact hP, hD⟩, hS.F ht⟩) hS.2.2 dB_36_2_34.1.2.1.1
  · have e_ := e_.symm
    subst e_
    refine lv_istore (lv' := [(6, .int (-3)), (0, .ref xo), (1, .int a1), (2, .int a2), (3, .int a3), (4, .int a4), (5, .int a5)]) hx hb dB_36_2_34.1.1.1.1 hl (by decide) rfl (fun ls hl => ?_)
    refine lv_iload hx hb dB_36_2_34.1.1.1.2 (lv_at hl 0 rfl) ?_
    refine lv_if_eq (tgt := 26) hx hb dB_36_2_34.1.1.2.1 (by decide) (fun c_4 => ?_) (fun c_4 => ?_)
    · exact absurd c_4 (by decide)
    · have _ := c_4
      refine lv_iload hx hb dB_36_2_34.1.1.2.2 (lv_at hl 0 rfl) ?_
      refine W.widen (k := 6) (n := 207) (Nat.le_of_ble_eq_true rfl) (Nat.le_of_ble_eq_true rfl) ?_
      rw [hQ]
      exact W.iret (v := (-3)) hx hb hr (fun t ht hW => ⟨⟨(-3), (), rfl, trivial, pf, ph, tr, vn, fk, fs, fe, fw, fp, pa, pv, pg, pm, (by first | exact hnk | exact hnn_), (by assumption), (by first | with_reducible assumption | assumption | (unfold rok; omega)), by rw [ht]; exact hP, hD⟩, hS.F ht⟩) hS.2.2 dB_36_2_34.1.2.1.1
  · have e_ := e_.symm
    subst e_
    refine lv_istore (lv' := [(6, .int 0), (0, .ref xo), (1, .int a1), (2, .int a2), (3, .int a3), (4, .int a4), (5, .int a5)]) hx hb dB_36_2_34.1.1.1.1 hl (by decide) rfl (fun ls hl => ?_)
    refine lv_iload hx hb dB_36_2_34.1.1.1.2 (lv_at hl 0 rfl) ?_
    refine lv_if_eq (tgt := 26) hx hb dB_36_2_34.1.1.2.1 (by decide) (fun c_5 => ?_) (fun c_5 => ?_)
    · have _ := c_5
      refine lv_aload_n hx hb dB_36_2_34.1.2.1.2 rfl (lv_at hl 1 rfl) ?_
      refine ct_P hP hD hS hA [ob11_0_ xo xk xn xc xh xt xw xm xp pf ph tr fi, ob3_0_ xn vp vn n1 n2 n3 n4 n5, ai_ cy n1 40 fk, ai_ cy n2 40 fs, ai_ cy n3 40 fe, ai_ cy n4 40 fw, ai_ cy n5 40 fp, aq_ cy 5 xp 30 (pst pa pm)] [0, 1, 2, 3, 4, 5, 6, 13] (by decide) rfl (fun hPc hDw hFc hC_ => ?_)
      have hPx := pp_left hP
      refine va_callv (va_runV (As := []) (rest := []) ⟨hx, hb, hml, hown, hts⟩ (c_X11_remember l D cy H.size xo xk xn xc xh xt xw xm xp pf ph tr fi n1 n2 n3 n4 n5 vp vn fk fs fe fw fp pa pv pg pm (by first | with_reducible assumption | assumption | omega) (by first | with_reducible assumption | assumption | omega) (by first | with_reducible assumption | assumption | omega) (by first | with_reducible assumption | assumption | omega) (by first | with_reducible assumption | assumption | omega) (by first | with_reducible assumption | assumption | omega) (by first | with_reducible assumption | assumption | omega)) (cwV 0 hts gX11_line_X11_remember rfl rfl rfl ⟨rfl, hd_X11_remember⟩ ⟨Nat.le_of_ble_eq_true rfl, Nat.le_of_ble_eq_true rfl⟩) ⟨bl_, va_recvX hK.1 hPx (ci := 11) (q0 := 0) rfl rfl, fun U hU hW => ⟨rfl, by rw [hU], by rw [hU]; exact hPc, kk_mv hW hK, hDw⟩⟩ rfl rfl hl.1 rfl (lv_room (Nat.le_of_ble_eq_true rfl)) dB_36_2_34.1.2.2.1 ⟨Nat.le_of_ble_eq_true rfl, Nat.le_of_ble_eq_true rfl⟩) hS (fun q _ h => hFc q h) hFc (fun u t H locs ht hvm hw hB hz1 hk1 hS => ?_)
      obtain ⟨epf_7, eph_8, epa_9, epv_10, epg_11, epm_12, g_13, g_14, g_15, hP1, hD1⟩ := hB
      rw [ht] at hP1
      obtain ⟨hP, hD⟩ := va_joinP (wr := [aq_ cy 3 xk 5 (kf_ k0 k1 k2 k3 k4), ob6_0_ k0, ob5_0_ k1, ob9_0_ k2, ob2_0_ k3, ob8_0_ k4]) (rx := [ob11_0_ xo xk xn xc xh xt xw xm xp epf_7 eph_8 tr fi, ob3_0_ xn vp vn n1 n2 n3 n4 n5, ai_ cy n1 40 fk, ai_ cy n2 40 fs, ai_ cy n3 40 fe, ai_ cy n4 40 fw, ai_ cy n5 40 fp, aq_ cy 5 xp 30 (pst epa_9 epm_12)]) (pl1 := (pool cy epa_9 epv_10 epg_11 epm_12)) hP hD [0, 1, 2, 3, 4, 5, 6, 13] [7, 8, 9, 10, 11, 12] hC_ rfl (by decide) (by decide) hk1 hFc hP1 hD1
      refine pd_K (([aq_ cy 3 xk 5 (kf_ k0 k1 k2 k3 k4), ob6_0_ k0, ob5_0_ k1, ob9_0_ k2, ob2_0_ k3, ob8_0_ k4, ob11_0_ xo xk xn xc xh xt xw xm xp epf_7 eph_8 tr fi, ob3_0_ xn vp vn n1 n2 n3 n4 n5, ai_ cy n1 40 fk, ai_ cy n2 40 fs, ai_ cy n3 40 fe, ai_ cy n4 40 fw, ai_ cy n5 40 fp, aq_ cy 5 xp 30 (pst epa_9 epm_12)] : va_W) ++ (pool cy epa_9 epv_10 epg_11 epm_12)) hP hD (fun hP hD => ?_)
      refine pd_P hP hD [ob11_0_ xo xk xn xc xh xt xw xm xp epf_7 eph_8 tr fi, ob3_0_ xn vp vn n1 n2 n3 n4 n5, ai_ cy n1 40 fk, ai_ cy n2 40 fs, ai_ cy n3 40 fe, ai_ cy n4 40 fw, ai_ cy n5 40 fp, aq_ cy 3 xk 5 (kf_ k0 k1 k2 k3 k4), ob6_0_ k0, ob5_0_ k1, ob9_0_ k2, ob2_0_ k3, ob8_0_ k4, aq_ cy 5 xp 30 (pst epa_9 epm_12)] [6, 7, 8, 9, 10, 11, 12, 0, 1, 2, 3, 4, 5, 13] (by decide +kernel) rfl (fun hP hD => ?_)
      refine lv_aload_n hx hb dB_36_2_34.1.2.2.2 rfl (lv_at hl 1 rfl) ?_
      refine lv_dup hx hb dB_36_2_34.2.1.1.1 rfl ?_
      refine va_get (ci := 11) (v := .long tr) (C := RX11) (T := TX11) (N := 12) hx hb hts (fun _ h => List.mem_cons_of_mem _ (List.mem_append_left _ (List.mem_append_right _ h))) hown hK.1 hP 0 rfl rfl 10 (by decide) (hts (.fieldLink RX11 87 "CutAtlas" "traced" "J") (List.mem_of_getElem? (i := 1) rfl)) (fun _ h9 => h9) rfl dB_36_2_34.2.1.1.2 ?_
      rcases sp_5 (x := a1) (by omega) with rfl | rfl | rfl | rfl | rfl
      · refine lv_aload_n hx hb dB_36_2_34.2.1.2.1 rfl (lv_at hl 1 rfl) ?_
        refine va_get (ci := 11) (v := .ref xk) (C := RX11) (T := TX11) (N := 12) hx hb hts (fun _ h => List.mem_cons_of_mem _ (List.mem_append_left _ (List.mem_append_right _ h))) hown hK.1 hP 0 rfl rfl 0 (by decide) (hts (.fieldLink RX11 22 "CutAtlas" "kinds" "[LCutAtlas$PlainKind;") (List.mem_of_getElem? (i := 2) rfl)) (fun _ h9 => h9) rfl dB_36_2_34.2.1.2.2 ?_
        refine lv_iload_n hx hb dB_36_2_34.2.2.1.1 rfl (lv_at hl 2 rfl) ?_
        refine va_aldq hx hb hK.1 hP 7 3 rfl rfl (i := 0) (by unfold vp_in; decide) dB_36_2_34.2.2.1.2 ?_
        refine lv_topv (v' := .ref k0) (by simp [va_up, va_rf, mf_, cl_0, cl_1, cl_2, cl_3, cl_4, kf_]) ?_
        have hPx := pp_left hP
        have hDx := dd_left hD
        refine ct_R hPx hDx [] [] (by decide) rfl (fun hPc hDw => ?_)
        have hFc := va_free (wc := []) hD hS hA [] rfl
        refine va_calli (va_runV (As := []) (rest := [.long tr, .ref xo]) ⟨hx, hb, hml, hown, hts⟩ (c_X6_beginsMark l D cy H.size k0) (cwV 0 hts gX11_line_X6_beginsMark rfl rfl rfl ⟨rfl, hd_X6_beginsMark⟩ ⟨Nat.le_of_ble_eq_true rfl, Nat.le_of_ble_eq_true rfl⟩) ⟨bl_, va_recvX hK.1 hPx (ci := 6) (q0 := 8) rfl rfl, fun U hU hW => ⟨rfl, by rw [hU], by rw [hU]; exact hPc, kk_mv hW hK, hDw⟩⟩ rfl rfl hl.1 rfl (lv_room (Nat.le_of_ble_eq_true rfl)) dB_36_2_34.2.2.2.1 ⟨Nat.le_of_ble_eq_true rfl, Nat.le_of_ble_eq_true rfl⟩) hS (fun q _ h => hFc q h) hFc (fun r_16 u t H locs ht hvm hw hB hz1 hk1 hS => ?_)
        have hP : va_P D vwCl _ H := ro_keep hP hk1
        refine lv_i2l (v := r_16.toInt64) hx hb dB_36_2_34.2.2.2.2 rfl ?_
        have q_44 : (r_16.toInt64).toInt = r_16.toInt := Int32.toInt_toInt64 r_16
        refine lv_ladd hx hb dB_36_2_35.1.1.1.1 ?_
        refine lv_topl (fun y_17 ey_17 => ?_)
        refine va_put (ci := 11) (v := .long y_17) (ty := .long) (C := RX11) (T := TX11) (N := 12) hx hb hts (fun _ h => List.mem_cons_of_mem _ (List.mem_append_left _ (List.mem_append_right _ h))) tyX11 tyX11_ok nmX11 hown hK.1 hP hD hS 0 rfl rfl 10 (by decide) (hts (.fieldLink RX11 87 "CutAtlas" "traced" "J") (List.mem_of_getElem? (i := 1) rfl)) (fun _ h9 => h9) rfl (by decide +kernel) rfl rfl (Nat.le_of_ble_eq_true rfl) dB_36_2_35.1.1.1.2 (fun H locs hP hD hS => ?_)
        refine pd_K (([ob11_0_ xo xk xn xc xh xt xw xm xp epf_7 eph_8 y_17 fi, ob3_0_ xn vp vn n1 n2 n3 n4 n5, ai_ cy n1 40 fk, ai_ cy n2 40 fs, ai_ cy n3 40 fe, ai_ cy n4 40 fw, ai_ cy n5 40 fp, aq_ cy 3 xk 5 (kf_ k0 k1 k2 k3 k4), ob6_0_ k0, ob5_0_ k1, ob9_0_ k2, ob2_0_ k3, ob8_0_ k4, aq_ cy 5 xp 30 (pst epa_9 epm_12)] : va_W) ++ (pool cy epa_9 epv_10 epg_11 epm_12)) hP hD (fun hP hD => ?_)
        refine lv_aload_n hx hb dB_36_2_35.1.1.2.1 rfl (lv_at hl 1 rfl) ?_
        refine lv_iload_n hx hb dB_36_2_35.1.1.2.2 rfl (lv_at hl 2 rfl) ?_
        refine lv_iload_n hx hb dB_36_2_35.1.2.1.1 rfl (lv_at hl 3 rfl) ?_
        refine lv_iload_n hx hb dB_36_2_35.1.2.1.2 rfl (lv_at hl 4 rfl) ?_
        refine lv_iload hx hb dB_36_2_35.1.2.2.1 (lv_at hl 5 rfl) ?_
        refine lv_iload hx hb dB_36_2_35.1.2.2.2 (lv_at hl 6 rfl) ?_
        have hPx := pp_left hP
        have hDx := dd_left hD
        refine ct_S hPx hDx hS hA [ob11_0_ xo xk xn xc xh xt xw xm xp epf_7 eph_8 y_17 fi, ob3_0_ xn vp vn n1 n2 n3 n4 n5, ai_ cy n1 40 fk, ai_ cy n2 40 fs, ai_ cy n3 40 fe, ai_ cy n4 40 fw, ai_ cy n5 40 fp, aq_ cy 3 xk 5 (kf_ k0 k1 k2 k3 k4), ob6_0_ k0, ob5_0_ k1, ob9_0_ k2, ob2_0_ k3, ob8_0_ k4] [0, 1, 2, 3, 4, 5, 6, 7, 8, 9, 10, 11, 12] (by decide +kernel) rfl (fun hPc hDw hFc hC_ => ?_)
        refine va_calli (va_runV (As := [.int 0, .int a2, .int a3, .int a4, .int a5]) (rest := []) ⟨hx, hb, hml, hown, hts⟩ (c_X11_addLine l D cy H.size xo xk xn xc xh xt xw xm xp epf_7 eph_8 y_17 fi n1 n2 n3 n4 n5 vp vn fk fs fe fw fp k0 k1 k2 k3 k4 (0 : Int32) a2 a3 a4 a5 (by first | with_reducible assumption | omega | assumption) (by first | with_reducible assumption | omega | assumption) (by first | with_reducible assumption | omega | assumption) (by first | with_reducible assumption | omega | assumption) (by first | with_reducible assumption | omega | assumption) (by first | with_reducible assumption | omega | assumption) (by first | with_reducible assumption | assumption | omega) (by first | with_reducible assumption | assumption | omega) (by first | with_reducible assumption | assumption | omega) (by first | with_reducible assumption | assumption | omega)) (cwV 5 hts gX11_line_X11_addLine rfl rfl rfl ⟨rfl, hd_X11_addLine⟩ ⟨Nat.le_of_ble_eq_true rfl, Nat.le_of_ble_eq_true rfl⟩) ⟨bl_, va_recvX hK.1 hPx (ci := 11) (q0 := 0) rfl rfl, fun U hU hW => ⟨rfl, by rw [hU], by rw [hU]; exact hPc, kk_mv hW hK, hDw⟩⟩ rfl rfl hl.1 rfl (lv_room (Nat.le_of_ble_eq_true rfl)) dB_36_2_35.2.1.1.1 ⟨Nat.le_of_ble_eq_true rfl, Nat.le_of_ble_eq_true rfl⟩) hS (fun q _ h => hFc q h) hFc (fun r_18 u t H locs ht hvm hw hB hz1 hk1 hS => ?_)
        obtain ⟨evn_19, efk_20, efs_21, efe_22, efw_23, efp_24, g_25, g_26, g_27, g_28, g_29, hP1, hD1⟩ := hB
        rw [ht] at hP1
        obtain ⟨hP, hD⟩ := va_joinQ (wr := [aq_ cy 5 xp 30 (pst epa_9 epm_12)]) (w1 := [ob11_0_ xo xk xn xc xh xt xw xm xp epf_7 eph_8 y_17 fi, ob3_0_ xn vp evn_19 n1 n2 n3 n4 n5, ai_ cy n1 40 efk_20, ai_ cy n2 40 efs_21, ai_ cy n3 40 efe_22, ai_ cy n4 40 efw_23, ai_ cy n5 40 efp_24, aq_ cy 3 xk 5 (kf_ k0 k1 k2 k3 k4), ob6_0_ k0, ob5_0_ k1, ob9_0_ k2, ob2_0_ k3, ob8_0_ k4]) hP hD [0, 1, 2, 3, 4, 5, 6, 7, 8, 9, 10, 11, 12] [13] hC_ rfl (by decide) (by decide) hk1 hFc hP1 hD1
        refine pd_K (([aq_ cy 5 xp 30 (pst epa_9 epm_12), ob11_0_ xo xk xn xc xh xt xw xm xp epf_7 eph_8 y_17 fi, ob3_0_ xn vp evn_19 n1 n2 n3 n4 n5, ai_ cy n1 40 efk_20, ai_ cy n2 40 efs_21, ai_ cy n3 40 efe_22, ai_ cy n4 40 efw_23, ai_ cy n5 40 efp_24, aq_ cy 3 xk 5 (kf_ k0 k1 k2 k3 k4), ob6_0_ k0, ob5_0_ k1, ob9_0_ k2, ob2_0_ k3, ob8_0_ k4] : va_W) ++ (pool cy epa_9 epv_10 epg_11 epm_12)) hP hD (fun hP hD => ?_)
        refine pd_P hP hD [ob11_0_ xo xk xn xc xh xt xw xm xp epf_7 eph_8 y_17 fi, ob3_0_ xn vp evn_19 n1 n2 n3 n4 n5, ai_ cy n1 40 efk_20, ai_ cy n2 40 efs_21, ai_ cy n3 40 efe_22, ai_ cy n4 40 efw_23, ai_ cy n5 40 efp_24, aq_ cy 3 xk 5 (kf_ k0 k1 k2 k3 k4), ob6_0_ k0, ob5_0_ k1, ob9_0_ k2, ob2_0_ k3, ob8_0_ k4, aq_ cy 5 xp 30 (pst epa_9 epm_12)] [1, 2, 3, 4, 5, 6, 7, 8, 9, 10, 11, 12, 13, 0] (by decide +kernel) rfl (fun hP hD => ?_)
        have hnn_ : nok vp evn_19 efk_20 efs_21 efe_22 efw_23 efp_24 := ⟨hnk.1, by omega, g_27, g_26, g_28, g_29⟩
        rw [hQ]
        exact W.iret (v := r_18) hx hb hr (fun t ht hW => ⟨⟨r_18, (), rfl, trivial, epf_7, eph_8, y_17, evn_19, efk_20, efs_21, efe_22, efw_23, efp_24, epa_9, epv_10, epg_11, epm_12, (by first | exact hnk | exact hnn_), (by assumption), (by first | with_reducible assumption | assumption | (unfold rok; omega)), by rw [ht]; exact hP, hD⟩, hS.F ht⟩) hS.2.2 dB_36_2_35.2.1.1.2
      · refine lv_aload_n hx hb dB_36_2_34.2.1.2.1 rfl (lv_at hl 1 rfl) ?_
        refine va_get (ci := 11) (v := .ref xk) (C := RX11) (T := TX11) (N := 12) hx hb hts (fun _ h => List.mem_cons_of_mem _ (List.mem_append_left _ (List.mem_append_right _ h))) hown hK.1 hP 0 rfl rfl 0 (by decide) (hts (.fieldLink RX11 22 "CutAtlas" "kinds" "[LCutAtlas$PlainKind;") (List.mem_of_getElem? (i := 2) rfl)) (fun _ h9 => h9) rfl dB_36_2_34.2.1.2.2 ?_
        refine lv_iload_n hx hb dB_36_2_34.2.2.1.1 rfl (lv_at hl 2 rfl) ?_
        refine va_aldq hx hb hK.1 hP 7 3 rfl rfl (i := 1) (by unfold vp_in; decide) dB_36_2_34.2.2.1.2 ?_
        refine lv_topv (v' := .ref k1) (by simp [va_up, va_rf, mf_, cl_0, cl_1, cl_2, cl_3, cl_4, kf_]) ?_
        have hPx := pp_left hP
        have hDx := dd_left hD
        refine ct_R hPx hDx [] [] (by decide) rfl (fun hPc hDw => ?_)
        have hFc := va_free (wc := []) hD hS hA [] rfl
        refine va_calli (va_runU (As := []) (rest := [.long tr, .ref xo]) ⟨hx, hb, hml, hown, hts⟩ (c_X6_beginsMark l D cy H.size k1) (va_cwU 0 hts gX11_line_X6_beginsMark_u104X5 rfl rfl rfl rfl (by decide +kernel) ⟨Nat.le_of_ble_eq_true rfl, Nat.le_of_ble_eq_true rfl⟩) ⟨bl_, va_recvX hK.1 hPx (ci := 5) (q0 := 9) rfl rfl, fun U hU hW => ⟨rfl, by rw [hU], by rw [hU]; exact hPc, kk_mv hW hK, hDw⟩⟩ rfl rfl hl.1 rfl (lv_room (Nat.le_of_ble_eq_true rfl)) dB_36_2_34.2.2.2.1 ⟨Nat.le_of_ble_eq_true rfl, Nat.le_of_ble_eq_true rfl⟩) hS (fun q _ h => hFc q h) hFc (fun r_30 u t H locs ht hvm hw hB hz1 hk1 hS => ?_)
        have hP : va_P D vwCl _ H := ro_keep hP hk1
        refine lv_i2l (v := r_30.toInt64) hx hb dB_36_2_34.2.2.2.2 rfl ?_
        have q_44 : (r_30.toInt64).toInt = r_30.toInt := Int32.toInt_toInt64 r_30
        refine lv_ladd hx hb dB_36_2_35.1.1.1.1 ?_
        refine lv_topl (fun y_31 ey_31 => ?_)
        refine va_put (ci := 11) (v := .long y_31) (ty := .long) (C := RX11) (T := TX11) (N := 12) hx hb hts (fun _ h => List.mem_cons_of_mem _ (List.mem_append_left _ (List.mem_append_right _ h))) tyX11 tyX11_ok nmX11 hown hK.1 hP hD hS 0 rfl rfl 10 (by decide) (hts (.fieldLink RX11 87 "CutAtlas" "traced" "J") (List.mem_of_getElem? (i := 1) rfl)) (fun _ h9 => h9) rfl (by decide +kernel) rfl rfl (Nat.le_of_ble_eq_true rfl) dB_36_2_35.1.1.1.2 (fun H locs hP hD hS => ?_)
        refine pd_K (([ob11_0_ xo xk xn xc xh xt xw xm xp epf_7 eph_8 y_31 fi, ob3_0_ xn vp vn n1 n2 n3 n4 n5, ai_ cy n1 40 fk, ai_ cy n2 40 fs, ai_ cy n3 40 fe, ai_ cy n4 40 fw, ai_ cy n5 40 fp, aq_ cy 3 xk 5 (kf_ k0 k1 k2 k3 k4), ob6_0_ k0, ob5_0_ k1, ob9_0_ k2, ob2_0_ k3, ob8_0_ k4, aq_ cy 5 xp 30 (pst epa_9 epm_12)] : va_W) ++ (pool cy epa_9 epv_10 epg_11 epm_12)) hP hD (fun hP hD => ?_)
        refine lv_aload_n hx hb dB_36_2_35.1.1.2.1 rfl (lv_at hl 1 rfl) ?_
        refine lv_iload_n hx hb dB_36_2_35.1.1.2.2 rfl (lv_at hl 2 rfl) ?_
        refine lv_iload_n hx hb dB_36_2_35.1.2.1.1 rfl (lv_at hl 3 rfl) ?_
        refine lv_iload_n hx hb dB_36_2_35.1.2.1.2 rfl (lv_at hl 4 rfl) ?_
        refine lv_iload hx hb dB_36_2_35.1.2.2.1 (lv_at hl 5 rfl) ?_
        refine lv_iload hx hb dB_36_2_35.1.2.2.2 (lv_at hl 6 rfl) ?_
        have hPx := pp_left hP
        have hDx := dd_left hD
        refine ct_S hPx hDx hS hA [ob11_0_ xo xk xn xc xh xt xw xm xp epf_7 eph_8 y_31 fi, ob3_0_ xn vp vn n1 n2 n3 n4 n5, ai_ cy n1 40 fk, ai_ cy n2 40 fs, ai_ cy n3 40 fe, ai_ cy n4 40 fw, ai_ cy n5 40 fp, aq_ cy 3 xk 5 (kf_ k0 k1 k2 k3 k4), ob6_0_ k0, ob5_0_ k1, ob9_0_ k2, ob2_0_ k3, ob8_0_ k4] [0, 1, 2, 3, 4, 5, 6, 7, 8, 9, 10, 11, 12] (by decide +kernel) rfl (fun hPc hDw hFc hC_ => ?_)
        refine va_calli (va_runV (As := [.int 1, .int a2, .int a3, .int a4, .int a5]) (rest := []) ⟨hx, hb, hml, hown, hts⟩ (c_X11_addLine l D cy H.size xo xk xn xc xh xt xw xm xp epf_7 eph_8 y_31 fi n1 n2 n3 n4 n5 vp vn fk fs fe fw fp k0 k1 k2 k3 k4 (1 : Int32) a2 a3 a4 a5 (by first | with_reducible assumption | omega | assumption) (by first | with_reducible assumption | omega | assumption) (by first | with_reducible assumption | omega | assumption) (by first | with_reducible assumption | omega | assumption) (by first | with_reducible assumption | omega | assumption) (by first | with_reducible assumption | omega | assumption) (by first | with_reducible assumption | assumption | omega) (by first | with_reducible assumption | assumption | omega) (by first | with_reducible assumption | assumption | omega) (by first | with_reducible assumption | assumption | omega)) (cwV 5 hts gX11_line_X11_addLine rfl rfl rfl ⟨rfl, hd_X11_addLine⟩ ⟨Nat.le_of_ble_eq_true rfl, Nat.le_of_ble_eq_true rfl⟩) ⟨bl_, va_recvX hK.1 hPx (ci := 11) (q0 := 0) rfl rfl, fun U hU hW => ⟨rfl, by rw [hU], by rw [hU]; exact hPc, kk_mv hW hK, hDw⟩⟩ rfl rfl hl.1 rfl (lv_room (Nat.le_of_ble_eq_true rfl)) dB_36_2_35.2.1.1.1 ⟨Nat.le_of_ble_eq_true rfl, Nat.le_of_ble_eq_true rfl⟩) hS (fun q _ h => hFc q h) hFc (fun r_32 u t H locs ht hvm hw hB hz1 hk1 hS => ?_)
        obtain ⟨evn_33, efk_34, efs_35, efe_36, efw_37, efp_38, g_39, g_40, g_41, g_42, g_43, hP1, hD1⟩ := hB
        rw [ht] at hP1
        obtain ⟨hP, hD⟩ := va_joinQ (wr := [aq_ cy 5 xp 30 (pst epa_9 epm_12)]) (w1 := [ob11_0_ xo xk xn xc xh xt xw xm xp epf_7 eph_8 y_31 fi, ob3_0_ xn vp evn_33 n1 n2 n3 n4 n5, ai_ cy n1 40 efk_34, ai_ cy n2 40 efs_35, ai_ cy n3 40 efe_36, ai_ cy n4 40 efw_37, ai_ cy n5 40 efp_38, aq_ cy 3 xk 5 (kf_ k0 k1 k2 k3 k4), ob6_0_ k0, ob5_0_ k1, ob9_0_ k2, ob2_0_ k3, ob8_0_ k4]) hP hD [0, 1, 2, 3, 4, 5, 6, 7, 8, 9, 10, 11, 12] [13] hC_ rfl (by decide) (by decide) hk1 hFc hP1 hD1
        refine pd_K (([aq_ cy 5 xp 30 (pst epa_9 epm_12), ob11_0_ xo xk xn xc xh xt xw xm xp epf_7 eph_8 y_31 fi, ob3_0_ xn vp evn_33 n1 n2 n3 n4 n5, ai_ cy n1 40 efk_34, ai_ cy n2 40 efs_35, ai_ cy n3 40 efe_36, ai_ cy n4 40 efw_37, ai_ cy n5 40 efp_38, aq_ cy 3 xk 5 (kf_ k0 k1 k2 k3 k4), ob6_0_ k0, ob5_0_ k1, ob9_0_ k2, ob2_0_ k3, ob8_0_ k4] : va_W) ++ (pool cy epa_9 epv_10 epg_11 epm_12)) hP hD (fun hP hD => ?_)
        refine pd_P hP hD [ob11_0_ xo xk xn xc xh xt xw xm xp epf_7 eph_8 y_31 fi, ob3_0_ xn vp evn_33 n1 n2 n3 n4 n5, ai_ cy n1 40 efk_34, ai_ cy n2 40 efs_35, ai_ cy n3 40 efe_36, ai_ cy n4 40 efw_37, ai_ cy n5 40 efp_38, aq_ cy 3 xk 5 (kf_ k0 k1 k2 k3 k4), ob6_0_ k0, ob5_0_ k1, ob9_0_ k2, ob2_0_ k3, ob8_0_ k4, aq_ cy 5 xp 30 (pst epa_9 epm_12)] [1, 2, 3, 4, 5, 6, 7, 8, 9, 10, 11, 12, 13, 0] (by decide +kernel) rfl (fun hP hD => ?_)
        have hnn_ : nok vp evn_33 efk_34 efs_35 efe_36 efw_37 efp_38 := ⟨hnk.1, by omega, g_41, g_40, g_42, g_43⟩
        rw [hQ]
        exact W.iret (v := r_32) hx hb hr (fun t ht hW => ⟨⟨r_32, (), rfl, trivial, epf_7, eph_8, y_31, evn_33, efk_34, efs_35, efe_36, efw_37, efp_38, epa_9, epv_10, epg_11, epm_12, (by first | exact hnk | exact hnn_), (by assumption), (by first | with_reducible assumption | assumption | (unfold rok; omega)), by rw [ht]; exact hP, hD⟩, hS.F ht⟩) hS.2.2 dB_36_2_35.2.1.1.2
      · refine lv_aload_n hx hb dB_36_2_34.2.1.2.1 rfl (lv_at hl 1 rfl) ?_
        refine va_get (ci := 11) (v := .ref xk) (C := RX11) (T := TX11) (N := 12) hx hb hts (fun _ h => List.mem_cons_of_mem _ (List.mem_append_left _ (List.mem_append_right _ h))) hown hK.1 hP 0 rfl rfl 0 (by decide) (hts (.fieldLink RX11 22 "CutAtlas" "kinds" "[LCutAtlas$PlainKind;") (List.mem_of_getElem? (i := 2) rfl)) (fun _ h9 => h9) rfl dB_36_2_34.2.1.2.2 ?_
        refine lv_iload_n hx hb dB_36_2_34.2.2.1.1 rfl (lv_at hl 2 rfl) ?_
        refine va_aldq hx hb hK.1 hP 7 3 rfl rfl (i := 2) (by unfold vp_in; decide) dB_36_2_34.2.2.1.2 ?_
        refine lv_topv (v' := .ref k2) (by simp [va_up, va_rf, mf_, cl_0, cl_1, cl_2, cl_3, cl_4, kf_]) ?_
        have hPx := pp_left hP
        have hDx := dd_left hD
        refine ct_R hPx hDx [] [] (by decide) rfl (fun hPc hDw => ?_)
        have hFc := va_free (wc := []) hD hS hA [] rfl
        refine va_calli (va_runU (As := []) (rest := [.long tr, .ref xo]) ⟨hx, hb, hml, hown, hts⟩ (c_X6_beginsMark l D cy H.size k2) (va_cwU 0 hts gX11_line_X6_beginsMark_u104X9 rfl rfl rfl rfl (by decide +kernel) ⟨Nat.le_of_ble_eq_true rfl, Nat.le_of_ble_eq_true rfl⟩) ⟨bl_, va_recvX hK.1 hPx (ci := 9) (q0 := 10) rfl rfl, fun U hU hW => ⟨rfl, by rw [hU], by rw [hU]; exact hPc, kk_mv hW hK, hDw⟩⟩ rfl rfl hl.1 rfl (lv_room (Nat.le_of_ble_eq_true rfl)) dB_36_2_34.2.2.2.1 ⟨Nat.le_of_ble_eq_true rfl, Nat.le_of_ble_eq_true rfl⟩) hS (fun q _ h => hFc q h) hFc (fun r_44 u t H locs ht hvm hw hB hz1 hk1 hS => ?_)
        have hP : va_P D vwCl _ H := ro_keep hP hk1
        refine lv_i2l (v := r_44.toInt64) hx hb dB_36_2_34.2.2.2.2 rfl ?_
        have q_44 : (r_44.toInt64).toInt = r_44.toInt := Int32.toInt_toInt64 r_44
        refine lv_ladd hx hb dB_36_2_35.1.1.1.1 ?_
        refine lv_topl (fun y_45 ey_45 => ?_)
        refine va_put (ci := 11) (v := .long y_45) (ty := .long) (C := RX11) (T := TX11) (N := 12) hx hb hts (fun _ h => List.mem_cons_of_mem _ (List.mem_append_left _ (List.mem_append_right _ h))) tyX11 tyX11_ok nmX11 hown hK.1 hP hD hS 0 rfl rfl 10 (by decide) (hts (.fieldLink RX11 87 "CutAtlas" "traced" "J") (List.mem_of_getElem? (i := 1) rfl)) (fun _ h9 => h9) rfl (by decide +kernel) rfl rfl (Nat.le_of_ble_eq_true rfl) dB_36_2_35.1.1.1.2 (fun H locs hP hD hS => ?_)
        refine pd_K (([ob11_0_ xo xk xn xc xh xt xw xm xp epf_7 eph_8 y_45 fi, ob3_0_ xn vp vn n1 n2 n3 n4 n5, ai_ cy n1 40 fk, ai_ cy n2 40 fs, ai_ cy n3 40 fe, ai_ cy n4 40 fw, ai_ cy n5 40 fp, aq_ cy 3 xk 5 (kf_ k0 k1 k2 k3 k4), ob6_0_ k0, ob5_0_ k1, ob9_0_ k2, ob2_0_ k3, ob8_0_ k4, aq_ cy 5 xp 30 (pst epa_9 epm_12)] : va_W) ++ (pool cy epa_9 epv_10 epg_11 epm_12)) hP hD (fun hP hD => ?_)
        refine lv_aload_n hx hb dB_36_2_35.1.1.2.1 rfl (lv_at hl 1 rfl) ?_
        refine lv_iload_n hx hb dB_36_2_35.1.1.2.2 rfl (lv_at hl 2 rfl) ?_
        refine lv_iload_n hx hb dB_36_2_35.1.2.1.1 rfl (lv_at hl 3 rfl) ?_
        refine lv_iload_n hx hb dB_36_2_35.1.2.1.2 rfl (lv_at hl 4 rfl) ?_
        refine lv_iload hx hb dB_36_2_35.1.2.2.1 (lv_at hl 5 rfl) ?_
        refine lv_iload hx hb dB_36_2_35.1.2.2.2 (lv_at hl 6 rfl) ?_
        have hPx := pp_left hP
        have hDx := dd_left hD
        refine ct_S hPx hDx hS hA [ob11_0_ xo xk xn xc xh xt xw xm xp epf_7 eph_8 y_45 fi, ob3_0_ xn vp vn n1 n2 n3 n4 n5, ai_ cy n1 40 fk, ai_ cy n2 40 fs, ai_ cy n3 40 fe, ai_ cy n4 40 fw, ai_ cy n5 40 fp, aq_ cy 3 xk 5 (kf_ k0 k1 k2 k3 k4), ob6_0_ k0, ob5_0_ k1, ob9_0_ k2, ob2_0_ k3, ob8_0_ k4] [0, 1, 2, 3, 4, 5, 6, 7, 8, 9, 10, 11, 12] (by decide +kernel) rfl (fun hPc hDw hFc hC_ => ?_)
        refine va_calli (va_runV (As := [.int 2, .int a2, .int a3, .int a4, .int a5]) (rest := []) ⟨hx, hb, hml, hown, hts⟩ (c_X11_addLine l D cy H.size xo xk xn xc xh xt xw xm xp epf_7 eph_8 y_45 fi n1 n2 n3 n4 n5 vp vn fk fs fe fw fp k0 k1 k2 k3 k4 (2 : Int32) a2 a3 a4 a5 (by first | with_reducible assumption | omega | assumption) (by first | with_reducible assumption | omega | assumption) (by first | with_reducible assumption | omega | assumption) (by first | with_reducible assumption | omega | assumption) (by first | with_reducible assumption | omega | assumption) (by first | with_reducible assumption | omega | assumption) (by first | with_reducible assumption | assumption | omega) (by first | with_reducible assumption | assumption | omega) (by first | with_reducible assumption | assumption | omega) (by first | with_reducible assumption | assumption | omega)) (cwV 5 hts gX11_line_X11_addLine rfl rfl rfl ⟨rfl, hd_X11_addLine⟩ ⟨Nat.le_of_ble_eq_true rfl, Nat.le_of_ble_eq_true rfl⟩) ⟨bl_, va_recvX hK.1 hPx (ci := 11) (q0 := 0) rfl rfl, fun U hU hW => ⟨rfl, by rw [hU], by rw [hU]; exact hPc, kk_mv hW hK, hDw⟩⟩ rfl rfl hl.1 rfl (lv_room (Nat.le_of_ble_eq_true rfl)) dB_36_2_35.2.1.1.1 ⟨Nat.le_of_ble_eq_true rfl, Nat.le_of_ble_eq_true rfl⟩) hS (fun q _ h => hFc q h) hFc (fun r_46 u t H locs ht hvm hw hB hz1 hk1 hS => ?_)
        obtain ⟨evn_47, efk_48, efs_49, efe_50, efw_51, efp_52, g_53, g_54, g_55, g_56, g_57, hP1, hD1⟩ := hB
        rw [ht] at hP1
        obtain ⟨hP, hD⟩ := va_joinQ (wr := [aq_ cy 5 xp 30 (pst epa_9 epm_12)]) (w1 := [ob11_0_ xo xk xn xc xh xt xw xm xp epf_7 eph_8 y_45 fi, ob3_0_ xn vp evn_47 n1 n2 n3 n4 n5, ai_ cy n1 40 efk_48, ai_ cy n2 40 efs_49, ai_ cy n3 40 efe_50, ai_ cy n4 40 efw_51, ai_ cy n5 40 efp_52, aq_ cy 3 xk 5 (kf_ k0 k1 k2 k3 k4), ob6_0_ k0, ob5_0_ k1, ob9_0_ k2, ob2_0_ k3, ob8_0_ k4]) hP hD [0, 1, 2, 3, 4, 5, 6, 7, 8, 9, 10, 11, 12] [13] hC_ rfl (by decide) (by decide) hk1 hFc hP1 hD1
        refine pd_K (([aq_ cy 5 xp 30 (pst epa_9 epm_12), ob11_0_ xo xk xn xc xh xt xw xm xp epf_7 eph_8 y_45 fi, ob3_0_ xn vp evn_47 n1 n2 n3 n4 n5, ai_ cy n1 40 efk_48, ai_ cy n2 40 efs_49, ai_ cy n3 40 efe_50, ai_ cy n4 40 efw_51, ai_ cy n5 40 efp_52, aq_ cy 3 xk 5 (kf_ k0 k1 k2 k3 k4), ob6_0_ k0, ob5_0_ k1, ob9_0_ k2, ob2_0_ k3, ob8_0_ k4] : va_W) ++ (pool cy epa_9 epv_10 epg_11 epm_12)) hP hD (fun hP hD => ?_)
        refine pd_P hP hD [ob11_0_ xo xk xn xc xh xt xw xm xp epf_7 eph_8 y_45 fi, ob3_0_ xn vp evn_47 n1 n2 n3 n4 n5, ai_ cy n1 40 efk_48, ai_ cy n2 40 efs_49, ai_ cy n3 40 efe_50, ai_ cy n4 40 efw_51, ai_ cy n5 40 efp_52, aq_ cy 3 xk 5 (kf_ k0 k1 k2 k3 k4), ob6_0_ k0, ob5_0_ k1, ob9_0_ k2, ob2_0_ k3, ob8_0_ k4, aq_ cy 5 xp 30 (pst epa_9 epm_12)] [1, 2, 3, 4, 5, 6, 7, 8, 9, 10, 11, 12, 13, 0] (by decide +kernel) rfl (fun hP hD => ?_)
        have hnn_ : nok vp evn_47 efk_48 efs_49 efe_50 efw_51 efp_52 := ⟨hnk.1, by omega, g_55, g_54, g_56, g_57⟩
        rw [hQ]
        exact W.iret (v := r_46) hx hb hr (fun t ht hW => ⟨⟨r_46, (), rfl, trivial, epf_7, eph_8, y_45, evn_47, efk_48, efs_49, efe_50, efw_51, efp_52, epa_9, epv_10, epg_11, epm_12, (by first | exact hnk | exact hnn_), (by assumption), (by first | with_reducible assumption | assumption | (unfold rok; omega)), by rw [ht]; exact hP, hD⟩, hS.F ht⟩) hS.2.2 dB_36_2_35.2.1.1.2
      · refine lv_aload_n hx hb dB_36_2_34.2.1.2.1 rfl (lv_at hl 1 rfl) ?_
        refine va_get (ci := 11) (v := .ref xk) (C := RX11) (T := TX11) (N := 12) hx hb hts (fun _ h => List.mem_cons_of_mem _ (List.mem_append_left _ (List.mem_append_right _ h))) hown hK.1 hP 0 rfl rfl 0 (by decide) (hts (.fieldLink RX11 22 "CutAtlas" "kinds" "[LCutAtlas$PlainKind;") (List.mem_of_getElem? (i := 2) rfl)) (fun _ h9 => h9) rfl dB_36_2_34.2.1.2.2 ?_
        refine lv_iload_n hx hb dB_36_2_34.2.2.1.1 rfl (lv_at hl 2 rfl) ?_
        refine va_aldq hx hb hK.1 hP 7 3 rfl rfl (i := 3) (by unfold vp_in; decide) dB_36_2_34.2.2.1.2 ?_
        refine lv_topv (v' := .ref k3) (by simp [va_up, va_rf, mf_, cl_0, cl_1, cl_2, cl_3, cl_4, kf_]) ?_
        have hPx := pp_left hP
        have hDx := dd_left hD
        refine ct_R hPx hDx [] [] (by decide) rfl (fun hPc hDw => ?_)
        have hFc := va_free (wc := []) hD hS hA [] rfl
        refine va_calli (va_runU (As := []) (rest := [.long tr, .ref xo]) ⟨hx, hb, hml, hown, hts⟩ (c_X6_beginsMark l D cy H.size k3) (va_cwU 0 hts gX11_line_X6_beginsMark_u104X2 rfl rfl rfl rfl (by decide +kernel) ⟨Nat.le_of_ble_eq_true rfl, Nat.le_of_ble_eq_true rfl⟩) ⟨bl_, va_recvX hK.1 hPx (ci := 2) (q0 := 11) rfl rfl, fun U hU hW => ⟨rfl, by rw [hU], by rw [hU]; exact hPc, kk_mv hW hK, hDw⟩⟩ rfl rfl hl.1 rfl (lv_room (Nat.le_of_ble_eq_true rfl)) dB_36_2_34.2.2.2.1 ⟨Nat.le_of_ble_eq_true rfl, Nat.le_of_ble_eq_true rfl⟩) hS (fun q _ h => hFc q h) hFc (fun r_58 u t H locs ht hvm hw hB hz1 hk1 hS => ?_)
        have hP : va_P D vwCl _ H := ro_keep hP hk1
        refine lv_i2l (v := r_58.toInt64) hx hb dB_36_2_34.2.2.2.2 rfl ?_
        have q_44 : (r_58.toInt64).toInt = r_58.toInt := Int32.toInt_toInt64 r_58
        refine lv_ladd hx hb dB_36_2_35.1.1.1.1 ?_
        refine lv_topl (fun y_59 ey_59 => ?_)
        refine va_put (ci := 11) (v := .long y_59) (ty := .long) (C := RX11) (T := TX11) (N := 12) hx hb hts (fun _ h => List.mem_cons_of_mem _ (List.mem_append_left _ (List.mem_append_right _ h))) tyX11 tyX11_ok nmX11 hown hK.1 hP hD hS 0 rfl rfl 10 (by decide) (hts (.fieldLink RX11 87 "CutAtlas" "traced" "J") (List.mem_of_getElem? (i := 1) rfl)) (fun _ h9 => h9) rfl (by decide +kernel) rfl rfl (Nat.le_of_ble_eq_true rfl) dB_36_2_35.1.1.1.2 (fun H locs hP hD hS => ?_)
        refine pd_K (([ob11_0_ xo xk xn xc xh xt xw xm xp epf_7 eph_8 y_59 fi, ob3_0_ xn vp vn n1 n2 n3 n4 n5, ai_ cy n1 40 fk, ai_ cy n2 40 fs, ai_ cy n3 40 fe, ai_ cy n4 40 fw, ai_ cy n5 40 fp, aq_ cy 3 xk 5 (kf_ k0 k1 k2 k3 k4), ob6_0_ k0, ob5_0_ k1, ob9_0_ k2, ob2_0_ k3, ob8_0_ k4, aq_ cy 5 xp 30 (pst epa_9 epm_12)] : va_W) ++ (pool cy epa_9 epv_10 epg_11 epm_12)) hP hD (fun hP hD => ?_)
        refine lv_aload_n hx hb dB_36_2_35.1.1.2.1 rfl (lv_at hl 1 rfl) ?_
        refine lv_iload_n hx hb dB_36_2_35.1.1.2.2 rfl (lv_at hl 2 rfl) ?_
        refine lv_iload_n hx hb dB_36_2_35.1.2.1.1 rfl (lv_at hl 3 rfl) ?_
        refine lv_iload_n hx hb dB_36_2_35.1.2.1.2 rfl (lv_at hl 4 rfl) ?_
        refine lv_iload hx hb dB_36_2_35.1.2.2.1 (lv_at hl 5 rfl) ?_
        refine lv_iload hx hb dB_36_2_35.1.2.2.2 (lv_at hl 6 rfl) ?_
        have hPx := pp_left hP
        have hDx := dd_left hD
        refine ct_S hPx hDx hS hA [ob11_0_ xo xk xn xc xh xt xw xm xp epf_7 eph_8 y_59 fi, ob3_0_ xn vp vn n1 n2 n3 n4 n5, ai_ cy n1 40 fk, ai_ cy n2 40 fs, ai_ cy n3 40 fe, ai_ cy n4 40 fw, ai_ cy n5 40 fp, aq_ cy 3 xk 5 (kf_ k0 k1 k2 k3 k4), ob6_0_ k0, ob5_0_ k1, ob9_0_ k2, ob2_0_ k3, ob8_0_ k4] [0, 1, 2, 3, 4, 5, 6, 7, 8, 9, 10, 11, 12] (by decide +kernel) rfl (fun hPc hDw hFc hC_ => ?_)
        refine va_calli (va_runV (As := [.int 3, .int a2, .int a3, .int a4, .int a5]) (rest := []) ⟨hx, hb, hml, hown, hts⟩ (c_X11_addLine l D cy H.size xo xk xn xc xh xt xw xm xp epf_7 eph_8 y_59 fi n1 n2 n3 n4 n5 vp vn fk fs fe fw fp k0 k1 k2 k3 k4 (3 : Int32) a2 a3 a4 a5 (by first | with_reducible assumption | omega | assumption) (by first | with_reducible assumption | omega | assumption) (by first | with_reducible assumption | omega | assumption) (by first | with_reducible assumption | omega | assumption) (by first | with_reducible assumption | omega | assumption) (by first | with_reducible assumption | omega | assumption) (by first | with_reducible assumption | assumption | omega) (by first | with_reducible assumption | assumption | omega) (by first | with_reducible assumption | assumption | omega) (by first | with_reducible assumption | assumption | omega)) (cwV 5 hts gX11_line_X11_addLine rfl rfl rfl ⟨rfl, hd_X11_addLine⟩ ⟨Nat.le_of_ble_eq_true rfl, Nat.le_of_ble_eq_true rfl⟩) ⟨bl_, va_recvX hK.1 hPx (ci := 11) (q0 := 0) rfl rfl, fun U hU hW => ⟨rfl, by rw [hU], by rw [hU]; exact hPc, kk_mv hW hK, hDw⟩⟩ rfl rfl hl.1 rfl (lv_room (Nat.le_of_ble_eq_true rfl)) dB_36_2_35.2.1.1.1 ⟨Nat.le_of_ble_eq_true rfl, Nat.le_of_ble_eq_true rfl⟩) hS (fun q _ h => hFc q h) hFc (fun r_60 u t H locs ht hvm hw hB hz1 hk1 hS => ?_)
        obtain ⟨evn_61, efk_62, efs_63, efe_64, efw_65, efp_66, g_67, g_68, g_69, g_70, g_71, hP1, hD1⟩ := hB
        rw [ht] at hP1
        obtain ⟨hP, hD⟩ := va_joinQ (wr := [aq_ cy 5 xp 30 (pst epa_9 epm_12)]) (w1 := [ob11_0_ xo xk xn xc xh xt xw xm xp epf_7 eph_8 y_59 fi, ob3_0_ xn vp evn_61 n1 n2 n3 n4 n5, ai_ cy n1 40 efk_62, ai_ cy n2 40 efs_63, ai_ cy n3 40 efe_64, ai_ cy n4 40 efw_65, ai_ cy n5 40 efp_66, aq_ cy 3 xk 5 (kf_ k0 k1 k2 k3 k4), ob6_0_ k0, ob5_0_ k1, ob9_0_ k2, ob2_0_ k3, ob8_0_ k4]) hP hD [0, 1, 2, 3, 4, 5, 6, 7, 8, 9, 10, 11, 12] [13] hC_ rfl (by decide) (by decide) hk1 hFc hP1 hD1
        refine pd_K (([aq_ cy 5 xp 30 (pst epa_9 epm_12), ob11_0_ xo xk xn xc xh xt xw xm xp epf_7 eph_8 y_59 fi, ob3_0_ xn vp evn_61 n1 n2 n3 n4 n5, ai_ cy n1 40 efk_62, ai_ cy n2 40 efs_63, ai_ cy n3 40 efe_64, ai_ cy n4 40 efw_65, ai_ cy n5 40 efp_66, aq_ cy 3 xk 5 (kf_ k0 k1 k2 k3 k4), ob6_0_ k0, ob5_0_ k1, ob9_0_ k2, ob2_0_ k3, ob8_0_ k4] : va_W) ++ (pool cy epa_9 epv_10 epg_11 epm_12)) hP hD (fun hP hD => ?_)
        refine pd_P hP hD [ob11_0_ xo xk xn xc xh xt xw xm xp epf_7 eph_8 y_59 fi, ob3_0_ xn vp evn_61 n1 n2 n3 n4 n5, ai_ cy n1 40 efk_62, ai_ cy n2 40 efs_63, ai_ cy n3 40 efe_64, ai_ cy n4 40 efw_65, ai_ cy n5 40 efp_66, aq_ cy 3 xk 5 (kf_ k0 k1 k2 k3 k4), ob6_0_ k0, ob5_0_ k1, ob9_0_ k2, ob2_0_ k3, ob8_0_ k4, aq_ cy 5 xp 30 (pst epa_9 epm_12)] [1, 2, 3, 4, 5, 6, 7, 8, 9, 10, 11, 12, 13, 0] (by decide +kernel) rfl (fun hP hD => ?_)
        have hnn_ : nok vp evn_61 efk_62 efs_63 efe_64 efw_65 efp_66 := ⟨hnk.1, by omega, g_69, g_68, g_70, g_71⟩
        rw [hQ]
        exact W.iret (v := r_60) hx hb hr (fun t ht hW => ⟨⟨r_60, (), rfl, trivial, epf_7, eph_8, y_59, evn_61, efk_62, efs_63, efe_64, efw_65, efp_66, epa_9, epv_10, epg_11, epm_12, (by first | exact hnk | exact hnn_), (by assumption), (by first | with_reducible assumption | assumption | (unfold rok; omega)), by rw [ht]; exact hP, hD⟩, hS.F ht⟩) hS.2.2 dB_36_2_35.2.1.1.2
      · refine lv_aload_n hx hb dB_36_2_34.2.1.2.1 rfl (lv_at hl 1 rfl) ?_
        refine va_get (ci := 11) (v := .ref xk) (C := RX11) (T := TX11) (N := 12) hx hb hts (fun _ h => List.mem_cons_of_mem _ (List.mem_append_left _ (List.mem_append_right _ h))) hown hK.1 hP 0 rfl rfl 0 (by decide) (hts (.fieldLink RX11 22 "CutAtlas" "kinds" "[LCutAtlas$PlainKind;") (List.mem_of_getElem? (i := 2) rfl)) (fun _ h9 => h9) rfl dB_36_2_34.2.1.2.2 ?_
        refine lv_iload_n hx hb dB_36_2_34.2.2.1.1 rfl (lv_at hl 2 rfl) ?_
        refine va_aldq hx hb hK.1 hP 7 3 rfl rfl (i := 4) (by unfold vp_in; decide) dB_36_2_34.2.2.1.2 ?_
        refine lv_topv (v' := .ref k4) (by simp [va_up, va_rf, mf_, cl_0, cl_1, cl_2, cl_3, cl_4, kf_]) ?_
        have hPx := pp_left hP
        have hDx := dd_left hD
        refine ct_R hPx hDx [] [] (by decide) rfl (fun hPc hDw => ?_)
        have hFc := va_free (wc := []) hD hS hA [] rfl
        refine va_calli (va_runU (As := []) (rest := [.long tr, .ref xo]) ⟨hx, hb, hml, hown, hts⟩ (c_X8_beginsMark l D cy H.size k4) (va_cwO 0 hts gX11_line_X8_beginsMark_u104X8 rfl rfl rfl (b0 := cX6_beginsMark) (m0 := 1) (r0 := (some .int)) (by decide +kernel) (by decide +kernel) ⟨Nat.le_of_ble_eq_true rfl, Nat.le_of_ble_eq_true rfl⟩) ⟨bl_, va_recvX hK.1 hPx (ci := 8) (q0 := 12) rfl rfl, fun U hU hW => ⟨rfl, by rw [hU], by rw [hU]; exact hPc, kk_mv hW hK, hDw⟩⟩ rfl rfl hl.1 rfl (lv_room (Nat.le_of_ble_eq_true rfl)) dB_36_2_34.2.2.2.1 ⟨Nat.le_of_ble_eq_true rfl, Nat.le_of_ble_eq_true rfl⟩) hS (fun q _ h => hFc q h) hFc (fun r_72 u t H locs ht hvm hw hB hz1 hk1 hS => ?_)
        have hP : va_P D vwCl _ H := ro_keep hP hk1
        refine lv_i2l (v := r_72.toInt64) hx hb dB_36_2_34.2.2.2.2 rfl ?_
        have q_44 : (r_72.toInt64).toInt = r_72.toInt := Int32.toInt_toInt64 r_72
        refine lv_ladd hx hb dB_36_2_35.1.1.1.1 ?_
        refine lv_topl (fun y_73 ey_73 => ?_)
        refine va_put (ci := 11) (v := .long y_73) (ty := .long) (C := RX11) (T := TX11) (N := 12) hx hb hts (fun _ h => List.mem_cons_of_mem _ (List.mem_append_left _ (List.mem_append_right _ h))) tyX11 tyX11_ok nmX11 hown hK.1 hP hD hS 0 rfl rfl 10 (by decide) (hts (.fieldLink RX11 87 "CutAtlas" "traced" "J") (List.mem_of_getElem? (i := 1) rfl)) (fun _ h9 => h9) rfl (by decide +kernel) rfl rfl (Nat.le_of_ble_eq_true rfl) dB_36_2_35.1.1.1.2 (fun H locs hP hD hS => ?_)
        refine pd_K (([ob11_0_ xo xk xn xc xh xt xw xm xp epf_7 eph_8 y_73 fi, ob3_0_ xn vp vn n1 n2 n3 n4 n5, ai_ cy n1 40 fk, ai_ cy n2 40 fs, ai_ cy n3 40 fe, ai_ cy n4 40 fw, ai_ cy n5 40 fp, aq_ cy 3 xk 5 (kf_ k0 k1 k2 k3 k4), ob6_0_ k0, ob5_0_ k1, ob9_0_ k2, ob2_0_ k3, ob8_0_ k4, aq_ cy 5 xp 30 (pst epa_9 epm_12)] : va_W) ++ (pool cy epa_9 epv_10 epg_11 epm_12)) hP hD (fun hP hD => ?_)
        refine lv_aload_n hx hb dB_36_2_35.1.1.2.1 rfl (lv_at hl 1 rfl) ?_
        refine lv_iload_n hx hb dB_36_2_35.1.1.2.2 rfl (lv_at hl 2 rfl) ?_
        refine lv_iload_n hx hb dB_36_2_35.1.2.1.1 rfl (lv_at hl 3 rfl) ?_
        refine lv_iload_n hx hb dB_36_2_35.1.2.1.2 rfl (lv_at hl 4 rfl) ?_
        refine lv_iload hx hb dB_36_2_35.1.2.2.1 (lv_at hl 5 rfl) ?_
        refine lv_iload hx hb dB_36_2_35.1.2.2.2 (lv_at hl 6 rfl) ?_
        have hPx := pp_left hP
        have hDx := dd_left hD
        refine ct_S hPx hDx hS hA [ob11_0_ xo xk xn xc xh xt xw xm xp epf_7 eph_8 y_73 fi, ob3_0_ xn vp vn n1 n2 n3 n4 n5, ai_ cy n1 40 fk, ai_ cy n2 40 fs, ai_ cy n3 40 fe, ai_ cy n4 40 fw, ai_ cy n5 40 fp, aq_ cy 3 xk 5 (kf_ k0 k1 k2 k3 k4), ob6_0_ k0, ob5_0_ k1, ob9_0_ k2, ob2_0_ k3, ob8_0_ k4] [0, 1, 2, 3, 4, 5, 6, 7, 8, 9, 10, 11, 12] (by decide +kernel) rfl (fun hPc hDw hFc hC_ => ?_)
        refine va_calli (va_runV (As := [.int 4, .int a2, .int a3, .int a4, .int a5]) (rest := []) ⟨hx, hb, hml, hown, hts⟩ (c_X11_addLine l D cy H.size xo xk xn xc xh xt xw xm xp epf_7 eph_8 y_73 fi n1 n2 n3 n4 n5 vp vn fk fs fe fw fp k0 k1 k2 k3 k4 (4 : Int32) a2 a3 a4 a5 (by first | with_reducible assumption | omega | assumption) (by first | with_reducible assumption | omega | assumption) (by first | with_reducible assumption | omega | assumption) (by first | with_reducible assumption | omega | assumption) (by first | with_reducible assumption | omega | assumption) (by first | with_reducible assumption | omega | assumption) (by first | with_reducible assumption | assumption | omega) (by first | with_reducible assumption | assumption | omega) (by first | with_reducible assumption | assumption | omega) (by first | with_reducible assumption | assumption | omega)) (cwV 5 hts gX11_line_X11_addLine rfl rfl rfl ⟨rfl, hd_X11_addLine⟩ ⟨Nat.le_of_ble_eq_true rfl, Nat.le_of_ble_eq_true rfl⟩) ⟨bl_, va_recvX hK.1 hPx (ci := 11) (q0 := 0) rfl rfl, fun U hU hW => ⟨rfl, by rw [hU], by rw [hU]; exact hPc, kk_mv hW hK, hDw⟩⟩ rfl rfl hl.1 rfl (lv_room (Nat.le_of_ble_eq_true rfl)) dB_36_2_35.2.1.1.1 ⟨Nat.le_of_ble_eq_true rfl, Nat.le_of_ble_eq_true rfl⟩) hS (fun q _ h => hFc q h) hFc (fun r_74 u t H locs ht hvm hw hB hz1 hk1 hS => ?_)
        obtain ⟨evn_75, efk_76, efs_77, efe_78, efw_79, efp_80, g_81, g_82, g_83, g_84, g_85, hP1, hD1⟩ := hB
        rw [ht] at hP1
        obtain ⟨hP, hD⟩ := va_joinQ (wr := [aq_ cy 5 xp 30 (pst epa_9 epm_12)]) (w1 := [ob11_0_ xo xk xn xc xh xt xw xm xp epf_7 eph_8 y_73 fi, ob3_0_ xn vp evn_75 n1 n2 n3 n4 n5, ai_ cy n1 40 efk_76, ai_ cy n2 40 efs_77, ai_ cy n3 40 efe_78, ai_ cy n4 40 efw_79, ai_ cy n5 40 efp_80, aq_ cy 3 xk 5 (kf_ k0 k1 k2 k3 k4), ob6_0_ k0, ob5_0_ k1, ob9_0_ k2, ob2_0_ k3, ob8_0_ k4]) hP hD [0, 1, 2, 3, 4, 5, 6, 7, 8, 9, 10, 11, 12] [13] hC_ rfl (by decide) (by decide) hk1 hFc hP1 hD1
        refine pd_K (([aq_ cy 5 xp 30 (pst epa_9 epm_12), ob11_0_ xo xk xn xc xh xt xw xm xp epf_7 eph_8 y_73 fi, ob3_0_ xn vp evn_75 n1 n2 n3 n4 n5, ai_ cy n1 40 efk_76, ai_ cy n2 40 efs_77, ai_ cy n3 40 efe_78, ai_ cy n4 40 efw_79, ai_ cy n5 40 efp_80, aq_ cy 3 xk 5 (kf_ k0 k1 k2 k3 k4), ob6_0_ k0, ob5_0_ k1, ob9_0_ k2, ob2_0_ k3, ob8_0_ k4] : va_W) ++ (pool cy epa_9 epv_10 epg_11 epm_12)) hP hD (fun hP hD => ?_)
        refine pd_P hP hD [ob11_0_ xo xk xn xc xh xt xw xm xp epf_7 eph_8 y_73 fi, ob3_0_ xn vp evn_75 n1 n2 n3 n4 n5, ai_ cy n1 40 efk_76, ai_ cy n2 40 efs_77, ai_ cy n3 40 efe_78, ai_ cy n4 40 efw_79, ai_ cy n5 40 efp_80, aq_ cy 3 xk 5 (kf_ k0 k1 k2 k3 k4), ob6_0_ k0, ob5_0_ k1, ob9_0_ k2, ob2_0_ k3, ob8_0_ k4, aq_ cy 5 xp 30 (pst epa_9 epm_12)] [1, 2, 3, 4, 5, 6, 7, 8, 9, 10, 11, 12, 13, 0] (by decide +kernel) rfl (fun hP hD => ?_)
        have hnn_ : nok vp evn_75 efk_76 efs_77 efe_78 efw_79 efp_80 := ⟨hnk.1, by omega, g_83, g_82, g_84, g_85⟩
        rw [hQ]
        exact W.iret (v := r_74) hx hb hr (fun t ht hW => ⟨⟨r_74, (), rfl, trivial, epf_7, eph_8, y_73, evn_75, efk_76, efs_77, efe_78, efw_79, efp_80, epa_9, epv_10, epg_11, epm_12, (by first | exact hnk | exact hnn_), (by assumption), (by first | with_reducible assumption | assumption | (unfold rok; omega)), by rw [ht]; exact hP, hD⟩, hS.F ht⟩) hS.2.2 dB_36_2_35.2.1.1.2
    · exact absurd c_5 (by decide)

set_option maxHeartbeats 4000000 in
set_option maxRecDepth 100000 in
theorem c_X11_widen (l : Launch) (D : va_G) (cy : Nat → ClassId) (sz : Nat) (xo : Nat) (xk : Nat) (xn : Nat) (xc : Nat) (xh : Nat) (xt : Nat) (xw : Nat) (xm : Nat) (xp : Nat) (pf : Int32) (ph : Int32) (tr : Int64) (fi : Int32) (n1 : Nat) (n2 : Nat) (n3 : Nat) (n4 : Nat) (n5 : Nat) (vp : Int32) (vn : Int32) (fk : Nat → Int32) (fs : Nat → Int32) (fe : Nat → Int32) (fw : Nat → Int32) (fp : Nat → Int32) (pa : Nat → Nat → Nat) (pv : Nat → Nat → Int32) (pg : Nat → Nat → Nat → Int32) (pm : Nat) (k0 : Nat) (k1 : Nat) (k2 : Nat) (k3 : Nat) (k4 : Nat) (a1 : Int32) (a2 : Int32) (hnk : nok vp vn fk fs fe fw fp) (hpk : pok pv pg pm) (hrk : rok pf ph pm) (hpr : prng fs fe 40) (r_fk : rng fk 40 (0) (4)) (r_fw : rng fw 40 (0) (2000)) (r_fp : rng fp 40 (0) (100)) : Met l yX11_widen wsX11_widen ({ frames := 3, cells := 6, slots := 207, locals := 82 }) (va_Pc [.ref xo, .int a1, .int a2] (fun U => U.heap.size = sz ∧ va_P D vwCl (([ob11_0_ xo xk xn xc xh xt xw xm xp pf ph tr fi, ob3_0_ xn vp vn n1 n2 n3 n4 n5, ai_ cy n1 40 fk, ai_ cy n2 40 fs, ai_ cy n3 40 fe, ai_ cy n4 40 fw, ai_ cy n5 40 fp, aq_ cy 3 xk 5 (kf_ k0 k1 k2 k3 k4), ob6_0_ k0, ob5_0_ k1, ob9_0_ k2, ob2_0_ k3, ob8_0_ k4, aq_ cy 5 xp 30 (pst pa pm)] : va_W) ++ (pool cy pa pv pg pm)) U.heap ∧ kk_ D cy U ∧ va_D (fun _ => True) (([ob11_0_ xo xk xn xc xh xt xw xm xp pf ph tr fi, ob3_0_ xn vp vn n1 n2 n3 n4 n5, ai_ cy n1 40 fk, ai_ cy n2 40 fs, ai_ cy n3 40 fe, ai_ cy n4 40 fw, ai_ cy n5 40 fp, aq_ cy 3 xk 5 (kf_ k0 k1 k2 k3 k4), ob6_0_ k0, ob5_0_ k1, ob9_0_ k2, ob2_0_ k3, ob8_0_ k4, aq_ cy 5 xp 30 (pst pa pm)] : va_W) ++ (pool cy pa pv pg pm)))) (va_Qi (fun (r : Int32) (_ : Unit) => True) (fun (_ : Unit) (t : State) => ∃ (epf : Int32), ∃ (eph : Int32), ∃ (etr : Int64), ∃ (efw : Nat → Int32), ∃ (epa : Nat → Nat → Nat), ∃ (epv : Nat → Nat → Int32), ∃ (epg : Nat → Nat → Nat → Int32), ∃ (epm : Nat), (nok vp vn fk fs fe efw fp) ∧ (pok epv epg epm) ∧ (rok epf eph epm) ∧ va_P D vwCl (([ob11_0_ xo xk xn xc xh xt xw xm xp epf eph etr fi, ob3_0_ xn vp vn n1 n2 n3 n4 n5, ai_ cy n1 40 fk, ai_ cy n2 40 fs, ai_ cy n3 40 fe, ai_ cy n4 40 efw, ai_ cy n5 40 fp, aq_ cy 3 xk 5 (kf_ k0 k1 k2 k3 k4), ob6_0_ k0, ob5_0_ k1, ob9_0_ k2, ob2_0_ k3, ob8_0_ k4, aq_ cy 5 xp 30 (pst epa epm)] : va_W) ++ (pool cy epa epv epg epm)) t.heap ∧ va_D (va_A (([ob11_0_ xo xk xn xc xh xt xw xm xp pf ph tr fi, ob3_0_ xn vp vn n1 n2 n3 n4 n5, ai_ cy n1 40 fk, ai_ cy n2 40 fs, ai_ cy n3 40 fe, ai_ cy n4 40 fw, ai_ cy n5 40 fp, aq_ cy 3 xk 5 (kf_ k0 k1 k2 k3 k4), ob6_0_ k0, ob5_0_ k1, ob9_0_ k2, ob2_0_ k3, ob8_0_ k4, aq_ cy 5 xp 30 (pst pa pm)] : va_W) ++ (pool cy pa pv pg pm)) sz) (([ob11_0_ xo xk xn xc xh xt xw xm xp epf eph etr fi, ob3_0_ xn vp vn n1 n2 n3 n4 n5, ai_ cy n1 40 fk, ai_ cy n2 40 fs, ai_ cy n3 40 fe, ai_ cy n4 40 efw, ai_ cy n5 40 fp, aq_ cy 3 xk 5 (kf_ k0 k1 k2 k3 k4), ob6_0_ k0, ob5_0_ k1, ob9_0_ k2, ob2_0_ k3, ob8_0_ k4, aq_ cy 5 xp 30 (pst epa epm)] : va_W) ++ (pool cy epa epv epg epm))) (va_A (([ob11_0_ xo xk xn xc xh xt xw xm xp pf ph tr fi, ob3_0_ xn vp vn n1 n2 n3 n4 n5, ai_ cy n1 40 fk, ai_ cy n2 40 fs, ai_ cy n3 40 fe, ai_ cy n4 40 fw, ai_ cy n5 40 fp, aq_ cy 3 xk 5 (kf_ k0 k1 k2 k3 k4), ob6_0_ k0, ob5_0_ k1, ob9_0_ k2, ob2_0_ k3, ob8_0_ k4, aq_ cy 5 xp 30 (pst pa pm)] : va_W) ++ (pool cy pa pv pg pm)) sz)) 6 207 (va_A (([ob11_0_ xo xk xn xc xh xt xw xm xp pf ph tr fi, ob3_0_ xn vp vn n1 n2 n3 n4 n5, ai_ cy n1 40 fk, ai_ cy n2 40 fs, ai_ cy n3 40 fe, ai_ cy n4 40 fw, ai_ cy n5 40 fp, aq_ cy 3 xk 5 (kf_ k0 k1 k2 k3 k4), ob6_0_ k0, ob5_0_ k1, ob9_0_ k2, ob2_0_ k3, ob8_0_ k4, aq_ cy 5 xp 30 (pst pa pm)] : va_W) ++ (pool cy pa pv pg pm)) sz) := by
  refine ofQ (cc := cX11_widen) (maxL := 5) (ret := (some .int)) (by decide) rfl ?_
  intro p e s m args below meth c s₁ Q hQ B hml hv
  obtain ⟨rfl, hsz, hP, hK, hD0⟩ := hv
  have hx := B.exec
  have hb := B.bytes
  have hr := B.returns
  have hts := atoms_spec (ws := wsX11_widen) B.pre
  have hown : s.vm.findClass RX11 = some m.cls := by have h_ := findClass_of_methodNamed B.named; exact h_
  have hlocks := B.notSynchronized
  subst hsz
  have hD := hD0.self (sz := s.heap.size)
  generalize hAe : va_A (([ob11_0_ xo xk xn xc xh xt xw xm xp pf ph tr fi, ob3_0_ xn vp vn n1 n2 n3 n4 n5, ai_ cy n1 40 fk, ai_ cy n2 40 fs, ai_ cy n3 40 fe, ai_ cy n4 40 fw, ai_ cy n5 40 fp, aq_ cy 3 xk 5 (kf_ k0 k1 k2 k3 k4), ob6_0_ k0, ob5_0_ k1, ob9_0_ k2, ob2_0_ k3, ob8_0_ k4, aq_ cy 5 xp 30 (pst pa pm)] : va_W) ++ (pool cy pa pv pg pm)) s.heap.size = A at hD hQ
  have hA : ∀ q : Nat, s.heap.size ≤ q → A q := fun q h => by rw [← hAe]; exact Or.inr h
  have hS : va_S A s.heap s.heap [] := va_S.rf
  have hl := lv_entry ([.ref xo, .int a1, .int a2]) (n := 5) (Nat.le_of_ble_eq_true rfl)
  rw [lg_entry_eq]
  generalize (lg_sl ([.ref xo, .int a1, .int a2]) ++ List.replicate (5 - (lg_sl ([.ref xo, .int a1, .int a2])).length) Slot.unset).toArray = ls at hl ⊢
  have hl : lv_has ls 5 [(0, .ref xo), (1, .int a1), (2, .int a2)] := hl
  have zm9 : ((-9) : Int32).toInt = -9 := by decide
  have zm2 : ((-2) : Int32).toInt = -2 := by decide
  have zm1 : ((-1) : Int32).toInt = -1 := by decide
  have z0 : (0 : Int32).toInt = 0 := by decide
  have z1000 : (1000 : Int32).toInt = 1000 := by decide
  have z2000 : (2000 : Int32).toInt = 2000 := by decide
  have hvp := hnk.1
  have hvn := hnk.2.1
  have hr_ := hrk
  unfold rok at hr_
  refine lv_aload_n hx hb dB_36_2_35.2.1.2.1 rfl (lv_at hl 0 rfl) ?_
  refine va_get (ci := 11) (v := .ref xn) (C := RX11) (T := TX11) (N := 12) hx hb hts (fun _ h => List.mem_cons_of_mem _ (List.mem_append_left _ (List.mem_append_right _ h))) hown hK.1 hP 0 rfl rfl 1 (by decide) (hts (.fieldLink RX11 31 "CutAtlas" "net" "LCutAtlas$Net;") (List.mem_of_getElem? (i := 1) rfl)) (fun _ h9 => h9) rfl dB_36_2_35.2.1.2.2 ?_
  refine lv_iload_n hx hb dB_36_2_35.2.2.1.1 rfl (lv_at hl 1 rfl) ?_
  have hPx := pp_left hP
  have hDx := dd_left hD
  refine ct_R hPx hDx [ob3_0_ xn vp vn n1 n2 n3 n4 n5] [1] (by decide) rfl (fun hPc hDw => ?_)
  have hFc := va_free (wc := []) hD hS hA [] rfl
  refine va_calli (va_runV (As := [.int a1]) (rest := []) ⟨hx, hb, hml, hown, hts⟩ (c_X3_hasLine l D cy s.heap.size xn n1 n2 n3 n4 n5 vp vn a1) (cwV 1 hts gX11_widen_X3_hasLine rfl rfl rfl ⟨rfl, hd_X3_hasLine⟩ ⟨Nat.le_of_ble_eq_true rfl, Nat.le_of_ble_eq_true rfl⟩) ⟨bl_, va_recvX hK.1 hPx (ci := 3) (q0 := 1) rfl rfl, fun U hU hW => ⟨rfl, by rw [hU], by rw [hU]; exact hPc, kk_mv hW hK, hDw⟩⟩ rfl rfl hl.1 rfl (lv_room (Nat.le_of_ble_eq_true rfl)) dB_36_2_35.2.2.1.2 ⟨Nat.le_of_ble_eq_true rfl, Nat.le_of_ble_eq_true rfl⟩) hS (fun q _ h => hFc q h) hFc (fun r_1 u t H locs ht hvm hw hB hz1 hk1 hS => ?_)
  have hP : va_P D vwCl _ H := ro_keep hP hk1
  rcases hw with ⟨w_2, e_⟩ | ⟨w_2, e_⟩
  · have e_ := e_.symm
    subst e_
    refine lv_if_eq (tgt := 22) hx hb dB_36_2_35.2.2.2.1 (by decide) (fun c_3 => ?_) (fun c_3 => ?_)
    · exact absurd c_3 (by decide)
    · have _ := c_3
      refine lv_iload_n hx hb dB_36_2_35.2.2.2.2 rfl (lv_at hl 2 rfl) ?_
      refine lv_if_lt (tgt := 22) hx hb dB_36_2_36.1.1.1.1 (by decide) (fun c_4 => ?_) (fun c_4 => ?_)
      · have t_4 : a2.toInt < (0 : Int32).toInt := Int32.lt_iff_toInt_lt.mp c_4
        refine lv_iconst (v := (-1)) hx hb dB_36_2_36.1.2.1.1 (by decide) ?_
        refine W.widen (k := 6) (n := 207) (Nat.le_of_ble_eq_true rfl) (Nat.le_of_ble_eq_true rfl) ?_
        rw [hQ]
        exact W.iret (v := (-1)) hx hb hr (fun t ht hW => ⟨⟨(-1), (), rfl, trivial, pf, ph, tr, fw, pa, pv, pg, pm, (by first | exact hnk | exact hnn_), (by assumption), (by first | with_reducible assumption | assumption | (unfold rok; omega)), by rw [ht]; exact hP, hD⟩, hS.F ht⟩) hS.2.2 dB_36_2_36.1.2.1.2
      · have t_4 : ¬ a2.toInt < (0 : Int32).toInt := fun h => c_4 (Int32.lt_iff_toInt_lt.mpr h)
        refine lv_iload_n hx hb dB_36_2_36.1.1.1.2 rfl (lv_at hl 2 rfl) ?_
        refine lv_sipush (v := 1000) hx hb dB_36_2_36.1.1.2.1 (by decide) ?_
        refine lv_icmp_le (tgt := 24) hx hb dB_36_2_36.1.1.2.2 (by decide) (fun c_5 => ?_) (fun c_5 => ?_)
        · have t_5 : a2.toInt ≤ (1000 : Int32).toInt := Int32.le_iff_toInt_le.mp c_5
          refine lv_aload_n hx hb dB_36_2_36.1.2.2.1 rfl (lv_at hl 0 rfl) ?_
          refine va_get (ci := 11) (v := .ref xk) (C := RX11) (T := TX11) (N := 12) hx hb hts (fun _ h => List.mem_cons_of_mem _ (List.mem_append_left _ (List.mem_append_right _ h))) hown hK.1 hP 0 rfl rfl 0 (by decide) (hts (.fieldLink RX11 22 "CutAtlas" "kinds" "[LCutAtlas$PlainKind;") (List.mem_of_getElem? (i := 2) rfl)) (fun _ h9 => h9) rfl dB_36_2_36.1.2.2.2 ?_
          refine lv_aload_n hx hb dB_36_2_36.2.1.1.1 rfl (lv_at hl 0 rfl) ?_
          refine va_get (ci := 11) (v := .ref xn) (C := RX11) (T := TX11) (N := 12) hx hb hts (fun _ h => List.mem_cons_of_mem _ (List.mem_append_left _ (List.mem_append_right _ h))) hown hK.1 hP 0 rfl rfl 1 (by decide) (hts (.fieldLink RX11 31 "CutAtlas" "net" "LCutAtlas$Net;") (List.mem_of_getElem? (i := 1) rfl)) (fun _ h9 => h9) rfl dB_36_2_36.2.1.1.2 ?_
          refine va_get (ci := 3) (v := .ref n1) (C := RX3) (T := TX3) (N := 7) hx hb hts (fun _ h => List.mem_cons_of_mem _ (List.mem_append_right _ h)) hown hK.1 hP 1 rfl rfl 2 (by decide) (hts (.fieldLink RX11 116 "CutAtlas$Net" "kinds" "[I") (List.mem_of_getElem? (i := 3) rfl)) (fun _ h9 => h9) rfl dB_36_2_36.2.1.2.1 ?_
          refine lv_iload_n hx hb dB_36_2_36.2.1.2.2 rfl (lv_at hl 1 rfl) ?_
          have h_6 : vp_in a1 40 := in_I (by omega) (by omega)
          refine va_iald hx hb hK.1 hP 2 0 rfl rfl (i := a1) h_6 dB_36_2_36.2.2.1.1 ?_
          refine lv_topi (fun y_7 ey_7 => ?_)
          have ky_7 : y_7.toInt = (fk a1.toNatClampNeg).toInt := by rw [ey_7]
          have ry_7 : 0 ≤ y_7.toInt ∧ y_7.toInt ≤ 4 := by rw [ey_7]; exact r_fk _ (in_lt h_6)
          rcases sp_5 (x := y_7) (by omega) with rfl | rfl | rfl | rfl | rfl
          · refine va_aldq hx hb hK.1 hP 7 3 rfl rfl (i := 0) (by unfold vp_in; decide) dB_36_2_36.2.2.1.2 ?_
            refine lv_topv (v' := .ref k0) (by simp [va_up, va_rf, mf_, cl_0, cl_1, cl_2, cl_3, cl_4, kf_]) ?_
            refine lv_astore_n (lv' := [(3, .ref k0), (0, .ref xo), (1, .int a1), (2, .int a2)]) hx hb dB_36_2_36.2.2.2.1 rfl hl (by decide) rfl (fun ls hl => ?_)
            refine lv_aload_n hx hb dB_36_2_36.2.2.2.2 rfl (lv_at hl 0 rfl) ?_
            refine lv_aload_n hx hb dB_36_2_37.1.1.1.1 rfl (lv_at hl 1 rfl) ?_
            refine va_get (ci := 11) (v := .ref xn) (C := RX11) (T := TX11) (N := 12) hx hb hts (fun _ h => List.mem_cons_of_mem _ (List.mem_append_left _ (List.mem_append_right _ h))) hown hK.1 hP 0 rfl rfl 1 (by decide) (hts (.fieldLink RX11 31 "CutAtlas" "net" "LCutAtlas$Net;") (List.mem_of_getElem? (i := 1) rfl)) (fun _ h9 => h9) rfl dB_36_2_37.1.1.1.2 ?_
            refine va_get (ci := 3) (v := .ref n5) (C := RX3) (T := TX3) (N := 7) hx hb hts (fun _ h => List.mem_cons_of_mem _ (List.mem_append_right _ h)) hown hK.1 hP 1 rfl rfl 6 (by decide) (hts (.fieldLink RX11 119 "CutAtlas$Net" "prices" "[I") (List.mem_of_getElem? (i := 4) rfl)) (fun _ h9 => h9) rfl dB_36_2_37.1.1.2.1 ?_
            refine lv_iload_n hx hb dB_36_2_37.1.1.2.2 rfl (lv_at hl 2 rfl) ?_
            have h_8 : vp_in a1 40 := in_I (by omega) (by omega)
            refine va_iald hx hb hK.1 hP 6 0 rfl rfl (i := a1) h_8 dB_36_2_37.1.2.1.1 ?_
            refine lv_topi (fun y_9 ey_9 => ?_)
            have ky_9 : y_9.toInt = (fp a1.toNatClampNeg).toInt := by rw [ey_9]
            have ry_9 : 0 ≤ y_9.toInt ∧ y_9.toInt ≤ 100 := by rw [ey_9]; exact r_fp _ (in_lt h_8)
            have hPx := pp_left hP
            have hDx := dd_left hD
            refine ct_R hPx hDx [] [] (by decide) rfl (fun hPc hDw => ?_)
            have hFc := va_free (wc := []) hD hS hA [] rfl
            refine va_calli (va_runV (As := [.int y_9]) (rest := []) ⟨hx, hb, hml, hown, hts⟩ (c_X6_costs l D cy H.size k0 y_9) (cwV 1 hts gX11_widen_X6_costs rfl rfl rfl ⟨rfl, hd_X6_costs⟩ ⟨Nat.le_of_ble_eq_true rfl, Nat.le_of_ble_eq_true rfl⟩) ⟨bl_, va_recvX hK.1 hPx (ci := 6) (q0 := 8) rfl rfl, fun U hU hW => ⟨rfl, by rw [hU], by rw [hU]; exact hPc, kk_mv hW hK, hDw⟩⟩ rfl rfl hl.1 rfl (lv_room (Nat.le_of_ble_eq_true rfl)) dB_36_2_37.1.2.1.2 ⟨Nat.le_of_ble_eq_true rfl, Nat.le_of_ble_eq_true rfl⟩) hS (fun q _ h => hFc q h) hFc (fun r_10 u t H locs ht hvm hw hB hz1 hk1 hS => ?_)
            have hP : va_P D vwCl _ H := ro_keep hP hk1
            have f0_r_10 := hw
            refine lv_istore (lv' := [(4, .int r_10), (3, .ref k0), (0, .ref xo), (1, .int a1), (2, .int a2)]) hx hb dB_36_2_37.1.2.2.1 hl (by decide) rfl (fun ls hl => ?_)
            refine lv_iload hx hb dB_36_2_37.1.2.2.2 (lv_at hl 0 rfl) ?_
            refine lv_bipush (v := (-9)) hx hb dB_36_2_37.2.1.1.1 (by decide) ?_
            refine lv_icmp_eq (tgt := 89) hx hb dB_36_2_37.2.1.1.2 (by decide) (fun c_11 => ?_) (fun c_11 => ?_)
            · have t_11 : r_10.toInt = ((-9) : Int32).toInt := congrArg Int32.toInt c_11
              refine lv_bipush (v := (-2)) hx hb dB_36_2_38.2.1.1.1 (by decide) ?_
              refine W.widen (k := 6) (n := 207) (Nat.le_of_ble_eq_true rfl) (Nat.le_of_ble_eq_true rfl) ?_
              rw [hQ]
              exact W.iret (v := (-2)) hx hb hr (fun t ht hW => ⟨⟨(-2), (), rfl, trivial, pf, ph, tr, fw, pa, pv, pg, pm, (by first | exact hnk | exact hnn_), (by assumption), (by first | with_reducible assumption | assumption | (unfold rok; omega)), by rw [ht]; exact hP, hD⟩, hS.F ht⟩) hS.2.2 dB_36_2_38.2.1.1.2
            · have t_11 : ¬ r_10.toInt = ((-9) : Int32).toInt := fun h => c_11 (Int32.toInt_inj.mp h)
              refine lv_aload_n hx hb dB_36_2_37.2.1.2.1 rfl (lv_at hl 2 rfl) ?_
              refine va_get (ci := 11) (v := .ref xn) (C := RX11) (T := TX11) (N := 12) hx hb hts (fun _ h => List.mem_cons_of_mem _ (List.mem_append_left _ (List.mem_append_right _ h))) hown hK.1 hP 0 rfl rfl 1 (by decide) (hts (.fieldLink RX11 31 "CutAtlas" "net" "LCutAtlas$Net;") (List.mem_of_getElem? (i := 1) rfl)) (fun _ h9 => h9) rfl dB_36_2_37.2.1.2.2 ?_
              refine lv_iload_n hx hb dB_36_2_37.2.2.1.1 rfl (lv_at hl 3 rfl) ?_
              have hPx := pp_left hP
              have hDx := dd_left hD
              refine ct_R hPx hDx [ob3_0_ xn vp vn n1 n2 n3 n4 n5, ai_ cy n2 40 fs] [1, 3] (by decide) rfl (fun hPc hDw => ?_)
              have hFc := va_free (wc := []) hD hS hA [] rfl
              refine va_calli (va_runV (As := [.int a1]) (rest := []) ⟨hx, hb, hml, hown, hts⟩ (c_X3_isMissing l D cy H.size xn n1 n2 n3 n4 n5 vp vn fs a1 (by first | with_reducible assumption | omega | assumption)) (cwV 1 hts gX11_widen_X3_isMissing rfl rfl rfl ⟨rfl, hd_X3_isMissing⟩ ⟨Nat.le_of_ble_eq_true rfl, Nat.le_of_ble_eq_true rfl⟩) ⟨bl_, va_recvX hK.1 hPx (ci := 3) (q0 := 1) rfl rfl, fun U hU hW => ⟨rfl, by rw [hU], by rw [hU]; exact hPc, kk_mv hW hK, hDw⟩⟩ rfl rfl hl.1 rfl (lv_room (Nat.le_of_ble_eq_true rfl)) dB_36_2_37.2.2.1.2 ⟨Nat.le_of_ble_eq_true rfl, Nat.le_of_ble_eq_true rfl⟩) hS (fun q _ h => hFc q h) hFc (fun r_12 u t H locs ht hvm hw hB hz1 hk1 hS => ?_)
              have hP : va_P D vwCl _ H := ro_keep hP hk1
              rcases hw with ⟨w_13, e_⟩ | ⟨w_13, e_⟩
              · have e_ := e_.symm
                subst e_
                refine lv_if_ne (tgt := 89) hx hb dB_36_2_37.2.2.2.1 (by decide) (fun c_14 => ?_) (fun c_14 => ?_)
                · have _ := c_14
                  refine lv_bipush (v := (-2)) hx hb dB_36_2_38.2.1.1.1 (by decide) ?_
                  refine W.widen (k := 6) (n := 207) (Nat.le_of_ble_eq_true rfl) (Nat.le_of_ble_eq_true rfl) ?_
                  rw [hQ]
                  exact W.iret (v := (-2)) hx hb hr (fun t ht hW => ⟨⟨(-2), (), rfl, trivial, pf, ph, tr, fw, pa, pv, pg, pm, (by first | exact hnk | exact hnn_), (by assumption), (by first | with_reducible assumption | assumption | (unfold rok; omega)), by rw [ht]; exact hP, hD⟩, hS.F ht⟩) hS.2.2 dB_36_2_38.2.1.1.2
                · exact absurd c_14 (by decide)
              · have e_ := e_.symm
                subst e_
                refine lv_if_ne (tgt := 89) hx hb dB_36_2_37.2.2.2.1 (by decide) (fun c_15 => ?_) (fun c_15 => ?_)
                · exact absurd c_15 (by decide)
                · have _ := c_15
                  refine lv_aload_n hx hb dB_36_2_37.2.2.2.2 rfl (lv_at hl 2 rfl) ?_
                  refine va_get (ci := 11) (v := .ref xn) (C := RX11) (T := TX11) (N := 12) hx hb hts (fun _ h => List.mem_cons_of_mem _ (List.mem_append_left _ (List.mem_append_right _ h))) hown hK.1 hP 0 rfl rfl 1 (by decide) (hts (.fieldLink RX11 31 "CutAtlas" "net" "LCutAtlas$Net;") (List.mem_of_getElem? (i := 1) rfl)) (fun _ h9 => h9) rfl dB_36_2_38.1.1.1.1 ?_
                  refine va_get (ci := 3) (v := .ref n4) (C := RX3) (T := TX3) (N := 7) hx hb hts (fun _ h => List.mem_cons_of_mem _ (List.mem_append_right _ h)) hown hK.1 hP 1 rfl rfl 5 (by decide) (hts (.fieldLink RX11 129 "CutAtlas$Net" "widths" "[I") (List.mem_of_getElem? (i := 5) rfl)) (fun _ h9 => h9) rfl dB_36_2_38.1.1.1.2 ?_
                  refine lv_iload_n hx hb dB_36_2_38.1.1.2.1 rfl (lv_at hl 3 rfl) ?_
                  have h_16 : vp_in a1 40 := in_I (by omega) (by omega)
                  refine va_iald hx hb hK.1 hP 5 0 rfl rfl (i := a1) h_16 dB_36_2_38.1.1.2.2 ?_
                  refine lv_topi (fun y_17 ey_17 => ?_)
                  have ky_17 : y_17.toInt = (fw a1.toNatClampNeg).toInt := by rw [ey_17]
                  have ry_17 : 0 ≤ y_17.toInt ∧ y_17.toInt ≤ 2000 := by rw [ey_17]; exact r_fw _ (in_lt h_16)
                  refine lv_iload_n hx hb dB_36_2_38.1.2.1.1 rfl (lv_at hl 4 rfl) ?_
                  refine lv_iadd hx hb dB_36_2_38.1.2.1.2 ?_
                  refine lv_topi (fun y_18 ey_18 => ?_)
                  have ty_18 : y_18.toInt = y_17.toInt + a2.toInt := by rw [ey_18]; exact addI (by omega) (by omega)
                  refine lv_sipush (v := 2000) hx hb dB_36_2_38.1.2.2.1 (by decide) ?_
                  refine lv_icmp_le (tgt := 92) hx hb dB_36_2_38.1.2.2.2 (by decide) (fun c_19 => ?_) (fun c_19 => ?_)
                  · have t_19 : y_18.toInt ≤ (2000 : Int32).toInt := Int32.le_iff_toInt_le.mp c_19
                    refine lv_aload_n hx hb dB_36_2_38.2.1.2.1 rfl (lv_at hl 2 rfl) ?_
                    refine ct_P hP hD hS hA [ob11_0_ xo xk xn xc xh xt xw xm xp pf ph tr fi, ob3_0_ xn vp vn n1 n2 n3 n4 n5, ai_ cy n1 40 fk, ai_ cy n2 40 fs, ai_ cy n3 40 fe, ai_ cy n4 40 fw, ai_ cy n5 40 fp, aq_ cy 5 xp 30 (pst pa pm)] [0, 1, 2, 3, 4, 5, 6, 13] (by decide) rfl (fun hPc hDw hFc hC_ => ?_)
                    have hPx := pp_left hP
                    refine va_callv (va_runV (As := []) (rest := []) ⟨hx, hb, hml, hown, hts⟩ (c_X11_remember l D cy H.size xo xk xn xc xh xt xw xm xp pf ph tr fi n1 n2 n3 n4 n5 vp vn fk fs fe fw fp pa pv pg pm (by first | with_reducible assumption | assumption | omega) (by first | with_reducible assumption | assumption | omega) (by first | with_reducible assumption | assumption | omega) (by first | with_reducible assumption | assumption | omega) (by first | with_reducible assumption | assumption | omega) (by first | with_reducible assumption | assumption | omega) (by first | with_reducible assumption | assumption | omega)) (cwV 0 hts gX11_widen_X11_remember rfl rfl rfl ⟨rfl, hd_X11_remember⟩ ⟨Nat.le_of_ble_eq_true rfl, Nat.le_of_ble_eq_true rfl⟩) ⟨bl_, va_recvX hK.1 hPx (ci := 11) (q0 := 0) rfl rfl, fun U hU hW => ⟨rfl, by rw [hU], by rw [hU]; exact hPc, kk_mv hW hK, hDw⟩⟩ rfl rfl hl.1 rfl (lv_room (Nat.le_of_ble_eq_true rfl)) dB_36_2_38.2.1.2.2 ⟨Nat.le_of_ble_eq_true rfl, Nat.le_of_ble_eq_true rfl⟩) hS (fun q _ h => hFc q h) hFc (fun u t H locs ht hvm hw hB hz1 hk1 hS => ?_)
                    obtain ⟨epf_21, eph_22, epa_23, epv_24, epg_25, epm_26, g_27, g_28, g_29, hP1, hD1⟩ := hB
                    rw [ht] at hP1
                    obtain ⟨hP, hD⟩ := va_joinP (wr := [aq_ cy 3 xk 5 (kf_ k0 k1 k2 k3 k4), ob6_0_ k0, ob5_0_ k1, ob9_0_ k2, ob2_0_ k3, ob8_0_ k4]) (rx := [ob11_0_ xo xk xn xc xh xt xw xm xp epf_21 eph_22 tr fi, ob3_0_ xn vp vn n1 n2 n3 n4 n5, ai_ cy n1 40 fk, ai_ cy n2 40 fs, ai_ cy n3 40 fe, ai_ cy n4 40 fw, ai_ cy n5 40 fp, aq_ cy 5 xp 30 (pst epa_23 epm_26)]) (pl1 := (pool cy epa_23 epv_24 epg_25 epm_26)) hP hD [0, 1, 2, 3, 4, 5, 6, 13] [7, 8, 9, 10, 11, 12] hC_ rfl (by decide) (by decide) hk1 hFc hP1 hD1
                    refine pd_K (([aq_ cy 3 xk 5 (kf_ k0 k1 k2 k3 k4), ob6_0_ k0, ob5_0_ k1, ob9_0_ k2, ob2_0_ k3, ob8_0_ k4, ob11_0_ xo xk xn xc xh xt xw xm xp epf_21 eph_22 tr fi, ob3_0_ xn vp vn n1 n2 n3 n4 n5, ai_ cy n1 40 fk, ai_ cy n2 40 fs, ai_ cy n3 40 fe, ai_ cy n4 40 fw, ai_ cy n5 40 fp, aq_ cy 5 xp 30 (pst epa_23 epm_26)] : va_W) ++ (pool cy epa_23 epv_24 epg_25 epm_26)) hP hD (fun hP hD => ?_)
                    refine pd_P hP hD [ob11_0_ xo xk xn xc xh xt xw xm xp epf_21 eph_22 tr fi, ob3_0_ xn vp vn n1 n2 n3 n4 n5, ai_ cy n1 40 fk, ai_ cy n2 40 fs, ai_ cy n3 40 fe, ai_ cy n4 40 fw, ai_ cy n5 40 fp, aq_ cy 3 xk 5 (kf_ k0 k1 k2 k3 k4), ob6_0_ k0, ob5_0_ k1, ob9_0_ k2, ob2_0_ k3, ob8_0_ k4, aq_ cy 5 xp 30 (pst epa_23 epm_26)] [6, 7, 8, 9, 10, 11, 12, 0, 1, 2, 3, 4, 5, 13] (by decide +kernel) rfl (fun hP hD => ?_)
                    refine lv_aload_n hx hb dB_36_2_38.2.2.1.1 rfl (lv_at hl 2 rfl) ?_
                    refine lv_dup hx hb dB_36_2_38.2.2.1.2 rfl ?_
                    refine va_get (ci := 11) (v := .long tr) (C := RX11) (T := TX11) (N := 12) hx hb hts (fun _ h => List.mem_cons_of_mem _ (List.mem_append_left _ (List.mem_append_right _ h))) hown hK.1 hP 0 rfl rfl 10 (by decide) (hts (.fieldLink RX11 87 "CutAtlas" "traced" "J") (List.mem_of_getElem? (i := 6) rfl)) (fun _ h9 => h9) rfl dB_36_2_38.2.2.2.1 ?_
                    refine lv_aload_n hx hb dB_36_2_38.2.2.2.2 rfl (lv_at hl 1 rfl) ?_
                    have hPx := pp_left hP
                    have hDx := dd_left hD
                    refine ct_R hPx hDx [] [] (by decide) rfl (fun hPc hDw => ?_)
                    have hFc := va_free (wc := []) hD hS hA [] rfl
                    refine va_calli (va_runV (As := []) (rest := [.long tr, .ref xo]) ⟨hx, hb, hml, hown, hts⟩ (c_X6_costsMark l D cy H.size k0) (cwV 0 hts gX11_widen_X6_costsMark rfl rfl rfl ⟨rfl, hd_X6_costsMark⟩ ⟨Nat.le_of_ble_eq_true rfl, Nat.le_of_ble_eq_true rfl⟩) ⟨bl_, va_recvX hK.1 hPx (ci := 6) (q0 := 8) rfl rfl, fun U hU hW => ⟨rfl, by rw [hU], by rw [hU]; exact hPc, kk_mv hW hK, hDw⟩⟩ rfl rfl hl.1 rfl (lv_room (Nat.le_of_ble_eq_true rfl)) dB_36_2_39.1.1.1.1 ⟨Nat.le_of_ble_eq_true rfl, Nat.le_of_ble_eq_true rfl⟩) hS (fun q _ h => hFc q h) hFc (fun r_30 u t H locs ht hvm hw hB hz1 hk1 hS => ?_)
                    have hP : va_P D vwCl _ H := ro_keep hP hk1
                    refine lv_i2l (v := r_30.toInt64) hx hb dB_36_2_39.1.1.1.2 rfl ?_
                    have q_105 : (r_30.toInt64).toInt = r_30.toInt := Int32.toInt_toInt64 r_30
                    refine lv_ladd hx hb dB_36_2_39.1.1.2.1 ?_
                    refine lv_topl (fun y_31 ey_31 => ?_)
                    refine va_put (ci := 11) (v := .long y_31) (ty := .long) (C := RX11) (T := TX11) (N := 12) hx hb hts (fun _ h => List.mem_cons_of_mem _ (List.mem_append_left _ (List.mem_append_right _ h))) tyX11 tyX11_ok nmX11 hown hK.1 hP hD hS 0 rfl rfl 10 (by decide) (hts (.fieldLink RX11 87 "CutAtlas" "traced" "J") (List.mem_of_getElem? (i := 6) rfl)) (fun _ h9 => h9) rfl (by decide +kernel) rfl rfl (Nat.le_of_ble_eq_true rfl) dB_36_2_39.1.1.2.2 (fun H locs hP hD hS => ?_)
                    refine pd_K (([ob11_0_ xo xk xn xc xh xt xw xm xp epf_21 eph_22 y_31 fi, ob3_0_ xn vp vn n1 n2 n3 n4 n5, ai_ cy n1 40 fk, ai_ cy n2 40 fs, ai_ cy n3 40 fe, ai_ cy n4 40 fw, ai_ cy n5 40 fp, aq_ cy 3 xk 5 (kf_ k0 k1 k2 k3 k4), ob6_0_ k0, ob5_0_ k1, ob9_0_ k2, ob2_0_ k3, ob8_0_ k4, aq_ cy 5 xp 30 (pst epa_23 epm_26)] : va_W) ++ (pool cy epa_23 epv_24 epg_25 epm_26)) hP hD (fun hP hD => ?_)
                    refine lv_aload_n hx hb dB_36_2_39.1.2.1.1 rfl (lv_at hl 2 rfl) ?_
                    refine va_get (ci := 11) (v := .ref xn) (C := RX11) (T := TX11) (N := 12) hx hb hts (fun _ h => List.mem_cons_of_mem _ (List.mem_append_left _ (List.mem_append_right _ h))) hown hK.1 hP 0 rfl rfl 1 (by decide) (hts (.fieldLink RX11 31 "CutAtlas" "net" "LCutAtlas$Net;") (List.mem_of_getElem? (i := 1) rfl)) (fun _ h9 => h9) rfl dB_36_2_39.1.2.1.2 ?_
                    refine va_get (ci := 3) (v := .ref n4) (C := RX3) (T := TX3) (N := 7) hx hb hts (fun _ h => List.mem_cons_of_mem _ (List.mem_append_right _ h)) hown hK.1 hP 1 rfl rfl 5 (by decide) (hts (.fieldLink RX11 129 "CutAtlas$Net" "widths" "[I") (List.mem_of_getElem? (i := 5) rfl)) (fun _ h9 => h9) rfl dB_36_2_39.1.2.2.1 ?_
                    refine lv_iload_n hx hb dB_36_2_39.1.2.2.2 rfl (lv_at hl 3 rfl) ?_
                    refine lv_dup2_11 hx hb dB_36_2_39.2.1.1.1 rfl rfl ?_
                    have h_32 : vp_in a1 40 := in_I (by omega) (by omega)
                    refine va_iald hx hb hK.1 hP 5 0 rfl rfl (i := a1) h_32 dB_36_2_39.2.1.1.2 ?_
                    refine lv_topi (fun y_33 ey_33 => ?_)
                    have e_ := (ey_33.trans ey_17.symm).symm
                    subst e_
                    skip
                    refine lv_iload_n hx hb dB_36_2_39.2.1.2.1 rfl (lv_at hl 4 rfl) ?_
                    refine lv_iadd hx hb dB_36_2_39.2.1.2.2 ?_
                    refine lv_topi (fun y_34 ey_34 => ?_)
                    have e_ := (ey_34.trans ey_18.symm).symm
                    subst e_
                    have h_35 : vp_in a1 40 := in_I (by omega) (by omega)
                    refine va_iast hx hb hK.1 hP hD hS 5 0 rfl rfl (i := a1) h_35 dB_36_2_39.2.2.1.1 (fun H locs hP hD hS => ?_)
                    obtain ⟨f_36, ef_36⟩ : ∃ g : Nat → Int32, g = upd fw a1.toNatClampNeg y_18 := ⟨_, rfl⟩
                    refine pd_K (D := D) (cl := vwCl) (H := H) (A := A) (([ob11_0_ xo xk xn xc xh xt xw xm xp epf_21 eph_22 y_31 fi, ob3_0_ xn vp vn n1 n2 n3 n4 n5, ai_ cy n1 40 fk, ai_ cy n2 40 fs, ai_ cy n3 40 fe, ai_ cy n4 40 f_36, ai_ cy n5 40 fp, aq_ cy 3 xk 5 (kf_ k0 k1 k2 k3 k4), ob6_0_ k0, ob5_0_ k1, ob9_0_ k2, ob2_0_ k3, ob8_0_ k4, aq_ cy 5 xp 30 (pst epa_23 epm_26)] : va_W) ++ (pool cy epa_23 epv_24 epg_25 epm_26)) (by rw [ef_36]; exact hP) (by rw [ef_36]; exact hD) (fun hP hD => ?_)
                    have rf_36 : rng f_36 40 (0) (2000) := by rw [ef_36]; exact rng_upd r_fw (by omega) (by omega)
                    have hnn_ : nok vp vn fk fs fe f_36 fp := ⟨hnk.1, hnk.2.1, hnk.2.2.1, hnk.2.2.2.1, by assumption, hnk.2.2.2.2.2⟩
                    refine lv_iload hx hb dB_36_2_39.2.2.1.2 (lv_at hl 0 rfl) ?_
                    refine lv_iload_n hx hb dB_36_2_39.2.2.2.1 rfl (lv_at hl 4 rfl) ?_
                    refine lv_imul hx hb dB_36_2_39.2.2.2.2 ?_
                    refine lv_topi (fun y_37 ey_37 => ?_)
                    rw [hQ]
                    exact W.iret (v := y_37) hx hb hr (fun t ht hW => ⟨⟨y_37, (), rfl, trivial, epf_21, eph_22, y_31, f_36, epa_23, epv_24, epg_25, epm_26, (by first | exact hnk | exact hnn_), (by assumption), (by first | with_reducible assumption | assumption | (unfold rok; omega)), by rw [ht]; exact hP, hD⟩, hS.F ht⟩) hS.2.2 dB_36_2_40.1.1.1.1
                  · have t_19 : ¬ y_18.toInt ≤ (2000 : Int32).toInt := fun h => c_19 (Int32.le_iff_toInt_le.mpr h)
                    refine lv_bipush (v := (-2)) hx hb dB_36_2_38.2.1.1.1 (by decide) ?_
                    refine W.widen (k := 6) (n := 207) (Nat.le_of_ble_eq_true rfl) (Nat.le_of_ble_eq_true rfl) ?_
                    rw [hQ]
                    exact W.iret (v := (-2)) hx hb hr (fun t ht hW => ⟨⟨(-2), (), rfl, trivial, pf, ph, tr, fw, pa, pv, pg, pm, (by first | exact hnk | exact hnn_), (by assumption), (by first | with_reducible assumption | assumption | (unfold rok; omega)), by rw [ht]; exact hP, hD⟩, hS.F ht⟩) hS.2.2 dB_36_2_38.2.1.1.2
          · refine va_aldq hx hb hK.1 hP 7 3 rfl rfl (i := 1) (by unfold vp_in; decide) dB_36_2_36.2.2.1.2 ?_
            refine lv_topv (v' := .ref k1) (by simp [va_up, va_rf, mf_, cl_0, cl_1, cl_2, cl_3, cl_4, kf_]) ?_
            refine lv_astore_n (lv' := [(3, .ref k1), (0, .ref xo), (1, .int a1), (2, .int a2)]) hx hb dB_36_2_36.2.2.2.1 rfl hl (by decide) rfl (fun ls hl => ?_)
            refine lv_aload_n hx hb dB_36_2_36.2.2.2.2 rfl (lv_at hl 0 rfl) ?_
            refine lv_aload_n hx hb dB_36_2_37.1.1.1.1 rfl (lv_at hl 1 rfl) ?_
            refine va_get (ci := 11) (v := .ref xn) (C := RX11) (T := TX11) (N := 12) hx hb hts (fun _ h => List.mem_cons_of_mem _ (List.mem_append_left _ (List.mem_append_right _ h))) hown hK.1 hP 0 rfl rfl 1 (by decide) (hts (.fieldLink RX11 31 "CutAtlas" "net" "LCutAtlas$Net;") (List.mem_of_getElem? (i := 1) rfl)) (fun _ h9 => h9) rfl dB_36_2_37.1.1.1.2 ?_
            refine va_get (ci := 3) (v := .ref n5) (C := RX3) (T := TX3) (N := 7) hx hb hts (fun _ h => List.mem_cons_of_mem _ (List.mem_append_right _ h)) hown hK.1 hP 1 rfl rfl 6 (by decide) (hts (.fieldLink RX11 119 "CutAtlas$Net" "prices" "[I") (List.mem_of_getElem? (i := 4) rfl)) (fun _ h9 => h9) rfl dB_36_2_37.1.1.2.1 ?_
            refine lv_iload_n hx hb dB_36_2_37.1.1.2.2 rfl (lv_at hl 2 rfl) ?_
            have h_38 : vp_in a1 40 := in_I (by omega) (by omega)
            refine va_iald hx hb hK.1 hP 6 0 rfl rfl (i := a1) h_38 dB_36_2_37.1.2.1.1 ?_
            refine lv_topi (fun y_39 ey_39 => ?_)
            have ky_39 : y_39.toInt = (fp a1.toNatClampNeg).toInt := by rw [ey_39]
            have ry_39 : 0 ≤ y_39.toInt ∧ y_39.toInt ≤ 100 := by rw [ey_39]; exact r_fp _ (in_lt h_38)
            have hPx := pp_left hP
            have hDx := dd_left hD
            refine ct_R hPx hDx [] [] (by decide) rfl (fun hPc hDw => ?_)
            have hFc := va_free (wc := []) hD hS hA [] rfl
            refine va_calli (va_runU (As := [.int y_39]) (rest := []) ⟨hx, hb, hml, hown, hts⟩ (c_X6_costs l D cy H.size k1 y_39) (va_cwU 1 hts gX11_widen_X6_costs_u122X5 rfl rfl rfl rfl (by decide +kernel) ⟨Nat.le_of_ble_eq_true rfl, Nat.le_of_ble_eq_true rfl⟩) ⟨bl_, va_recvX hK.1 hPx (ci := 5) (q0 := 9) rfl rfl, fun U hU hW => ⟨rfl, by rw [hU], by rw [hU]; exact hPc, kk_mv hW hK, hDw⟩⟩ rfl rfl hl.1 rfl (lv_room (Nat.le_of_ble_eq_true rfl)) dB_36_2_37.1.2.1.2 ⟨Nat.le_of_ble_eq_true rfl, Nat.le_of_ble_eq_true rfl⟩) hS (fun q _ h => hFc q h) hFc (fun r_40 u t H locs ht hvm hw hB hz1 hk1 hS => ?_)
            have hP : va_P D vwCl _ H := ro_keep hP hk1
            have f0_r_40 := hw
            refine lv_istore (lv' := [(4, .int r_40), (3, .ref k1), (0, .ref xo), (1, .int a1), (2, .int a2)]) hx hb dB_36_2_37.1.2.2.1 hl (by decide) rfl (fun ls hl => ?_)
            refine lv_iload hx hb dB_36_2_37.1.2.2.2 (lv_at hl 0 rfl) ?_
            refine lv_bipush (v := (-9)) hx hb dB_36_2_37.2.1.1.1 (by decide) ?_
            refine lv_icmp_eq (tgt := 89) hx hb dB_36_2_37.2.1.1.2 (by decide) (fun c_41 => ?_) (fun c_41 => ?_)
            · have t_41 : r_40.toInt = ((-9) : Int32).toInt := congrArg Int32.toInt c_41
              refine lv_bipush (v := (-2)) hx hb dB_36_2_38.2.1.1.1 (by decide) ?_
              refine W.widen (k := 6) (n := 207) (Nat.le_of_ble_eq_true rfl) (Nat.le_of_ble_eq_true rfl) ?_
              rw [hQ]
              exact W.iret (v := (-2)) hx hb hr (fun t ht hW => ⟨⟨(-2), (), rfl, trivial, pf, ph, tr, fw, pa, pv, pg, pm, (by first | exact hnk | exact hnn_), (by assumption), (by first | with_reducible assumption | assumption | (unfold rok; omega)), by rw [ht]; exact hP, hD⟩, hS.F ht⟩) hS.2.2 dB_36_2_38.2.1.1.2
            · have t_41 : ¬ r_40.toInt = ((-9) : Int32).toInt := fun h => c_41 (Int32.toInt_inj.mp h)
              refine lv_aload_n hx hb dB_36_2_37.2.1.2.1 rfl (lv_at hl 2 rfl) ?_
              refine va_get (ci := 11) (v := .ref xn) (C := RX11) (T := TX11) (N := 12) hx hb hts (fun _ h => List.mem_cons_of_mem _ (List.mem_append_left _ (List.mem_append_right _ h))) hown hK.1 hP 0 rfl rfl 1 (by decide) (hts (.fieldLink RX11 31 "CutAtlas" "net" "LCutAtlas$Net;") (List.mem_of_getElem? (i := 1) rfl)) (fun _ h9 => h9) rfl dB_36_2_37.2.1.2.2 ?_
              refine lv_iload_n hx hb dB_36_2_37.2.2.1.1 rfl (lv_at hl 3 rfl) ?_
              have hPx := pp_left hP
              have hDx := dd_left hD
              refine ct_R hPx hDx [ob3_0_ xn vp vn n1 n2 n3 n4 n5, ai_ cy n2 40 fs] [1, 3] (by decide) rfl (fun hPc hDw => ?_)
              have hFc := va_free (wc := []) hD hS hA [] rfl
              refine va_calli (va_runV (As := [.int a1]) (rest := []) ⟨hx, hb, hml, hown, hts⟩ (c_X3_isMissing l D cy H.size xn n1 n2 n3 n4 n5 vp vn fs a1 (by first | with_reducible assumption | omega | assumption)) (cwV 1 hts gX11_widen_X3_isMissing rfl rfl rfl ⟨rfl, hd_X3_isMissing⟩ ⟨Nat.le_of_ble_eq_true rfl, Nat.le_of_ble_eq_true rfl⟩) ⟨bl_, va_recvX hK.1 hPx (ci := 3) (q0 := 1) rfl rfl, fun U hU hW => ⟨rfl, by rw [hU], by rw [hU]; exact hPc, kk_mv hW hK, hDw⟩⟩ rfl rfl hl.1 rfl (lv_room (Nat.le_of_ble_eq_true rfl)) dB_36_2_37.2.2.1.2 ⟨Nat.le_of_ble_eq_true rfl, Nat.le_of_ble_eq_true rfl⟩) hS (fun q _ h => hFc q h) hFc (fun r_42 u t H locs ht hvm hw hB hz1 hk1 hS => ?_)
              have hP : va_P D vwCl _ H := ro_keep hP hk1
              rcases hw with ⟨w_43, e_⟩ | ⟨w_43, e_⟩
              · have e_ := e_.symm
                subst e_
                refine lv_if_ne (tgt := 89) hx hb dB_36_2_37.2.2.2.1 (by decide) (fun c_44 => ?_) (fun c_44 => ?_)
                · have _ := c_44
                  refine lv_bipush (v := (-2)) hx hb dB_36_2_38.2.1.1.1 (by decide) ?_
                  refine W.widen (k := 6) (n := 207) (Nat.le_of_ble_eq_true rfl) (Nat.le_of_ble_eq_true rfl) ?_
                  rw [hQ]
                  exact W.iret (v := (-2)) hx hb hr (fun t ht hW => ⟨⟨(-2), (), rfl, trivial, pf, ph, tr, fw, pa, pv, pg, pm, (by first | exact hnk | exact hnn_), (by assumption), (by first | with_reducible assumption | assumption | (unfold rok; omega)), by rw [ht]; exact hP, hD⟩, hS.F ht⟩) hS.2.2 dB_36_2_38.2.1.1.2
                · exact absurd c_44 (by decide)
              · have e_ := e_.symm
                subst e_
                refine lv_if_ne (tgt := 89) hx hb dB_36_2_37.2.2.2.1 (by decide) (fun c_45 => ?_) (fun c_45 => ?_)
                · exact absurd c_45 (by decide)
                · have _ := c_45
                  refine lv_aload_n hx hb dB_36_2_37.2.2.2.2 rfl (lv_at hl 2 rfl) ?_
                  refine va_get (ci := 11) (v := .ref xn) (C := RX11) (T := TX11) (N := 12) hx hb hts (fun _ h => List.mem_cons_of_mem _ (List.mem_append_left _ (List.mem_append_right _ h))) hown hK.1 hP 0 rfl rfl 1 (by decide) (hts (.fieldLink RX11 31 "CutAtlas" "net" "LCutAtlas$Net;") (List.mem_of_getElem? (i := 1) rfl)) (fun _ h9 => h9) rfl dB_36_2_38.1.1.1.1 ?_
                  refine va_get (ci := 3) (v := .ref n4) (C := RX3) (T := TX3) (N := 7) hx hb hts (fun _ h => List.mem_cons_of_mem _ (List.mem_append_right _ h)) hown hK.1 hP 1 rfl rfl 5 (by decide) (hts (.fieldLink RX11 129 "CutAtlas$Net" "widths" "[I") (List.mem_of_getElem? (i := 5) rfl)) (fun _ h9 => h9) rfl dB_36_2_38.1.1.1.2 ?_
                  refine lv_iload_n hx hb dB_36_2_38.1.1.2.1 rfl (lv_at hl 3 rfl) ?_
                  have h_46 : vp_in a1 40 := in_I (by omega) (by omega)
                  refine va_iald hx hb hK.1 hP 5 0 rfl rfl (i := a1) h_46 dB_36_2_38.1.1.2.2 ?_
                  refine lv_topi (fun y_47 ey_47 => ?_)
                  have ky_47 : y_47.toInt = (fw a1.toNatClampNeg).toInt := by rw [ey_47]
                  have ry_47 : 0 ≤ y_47.toInt ∧ y_47.toInt ≤ 2000 := by rw [ey_47]; exact r_fw _ (in_lt h_46)
                  refine lv_iload_n hx hb dB_36_2_38.1.2.1.1 rfl (lv_at hl 4 rfl) ?_
                  refine lv_iadd hx hb dB_36_2_38.1.2.1.2 ?_
                  refine lv_topi (fun y_48 ey_48 => ?_)
                  have ty_48 : y_48.toInt = y_47.toInt + a2.toInt := by rw [ey_48]; exact addI (by omega) (by omega)
                  refine lv_sipush (v := 2000) hx hb dB_36_2_38.1.2.2.1 (by decide) ?_
                  refine lv_icmp_le (tgt := 92) hx hb dB_36_2_38.1.2.2.2 (by decide) (fun c_49 => ?_) (fun c_49 => ?_)
                  · have t_49 : y_48.toInt ≤ (2000 : Int32).toInt := Int32.le_iff_toInt_le.mp c_49
                    refine lv_aload_n hx hb dB_36_2_38.2.1.2.1 rfl (lv_at hl 2 rfl) ?_
                    refine ct_P hP hD hS hA [ob11_0_ xo xk xn xc xh xt xw xm xp pf ph tr fi, ob3_0_ xn vp vn n1 n2 n3 n4 n5, ai_ cy n1 40 fk, ai_ cy n2 40 fs, ai_ cy n3 40 fe, ai_ cy n4 40 fw, ai_ cy n5 40 fp, aq_ cy 5 xp 30 (pst pa pm)] [0, 1, 2, 3, 4, 5, 6, 13] (by decide) rfl (fun hPc hDw hFc hC_ => ?_)
                    have hPx := pp_left hP
                    refine va_callv (va_runV (As := []) (rest := []) ⟨hx, hb, hml, hown, hts⟩ (c_X11_remember l D cy H.size xo xk xn xc xh xt xw xm xp pf ph tr fi n1 n2 n3 n4 n5 vp vn fk fs fe fw fp pa pv pg pm (by first | with_reducible assumption | assumption | omega) (by first | with_reducible assumption | assumption | omega) (by first | with_reducible assumption | assumption | omega) (by first | with_reducible assumption | assumption | omega) (by first | with_reducible assumption | assumption | omega) (by first | with_reducible assumption | assumption | omega) (by first | with_reducible assumption | assumption | omega)) (cwV 0 hts gX11_widen_X11_remember rfl rfl rfl ⟨rfl, hd_X11_remember⟩ ⟨Nat.le_of_ble_eq_true rfl, Nat.le_of_ble_eq_true rfl⟩) ⟨bl_, va_recvX hK.1 hPx (ci := 11) (q0 := 0) rfl rfl, fun U hU hW => ⟨rfl, by rw [hU], by rw [hU]; exact hPc, kk_mv hW hK, hDw⟩⟩ rfl rfl hl.1 rfl (lv_room (Nat.le_of_ble_eq_true rfl)) dB_36_2_38.2.1.2.2 ⟨Nat.le_of_ble_eq_true rfl, Nat.le_of_ble_eq_true rfl⟩) hS (fun q _ h => hFc q h) hFc (fun u t H locs ht hvm hw hB hz1 hk1 hS => ?_)
                    obtain ⟨epf_51, eph_52, epa_53, epv_54, epg_55, epm_56, g_57, g_58, g_59, hP1, hD1⟩ := hB
                    rw [ht] at hP1
                    obtain ⟨hP, hD⟩ := va_joinP (wr := [aq_ cy 3 xk 5 (kf_ k0 k1 k2 k3 k4), ob6_0_ k0, ob5_0_ k1, ob9_0_ k2, ob2_0_ k3, ob8_0_ k4]) (rx := [ob11_0_ xo xk xn xc xh xt xw xm xp epf_51 eph_52 tr fi, ob3_0_ xn vp vn n1 n2 n3 n4 n5, ai_ cy n1 40 fk, ai_ cy n2 40 fs, ai_ cy n3 40 fe, ai_ cy n4 40 fw, ai_ cy n5 40 fp, aq_ cy 5 xp 30 (pst epa_53 epm_56)]) (pl1 := (pool cy epa_53 epv_54 epg_55 epm_56)) hP hD [0, 1, 2, 3, 4, 5, 6, 13] [7, 8, 9, 10, 11, 12] hC_ rfl (by decide) (by decide) hk1 hFc hP1 hD1
                    refine pd_K (([aq_ cy 3 xk 5 (kf_ k0 k1 k2 k3 k4), ob6_0_ k0, ob5_0_ k1, ob9_0_ k2, ob2_0_ k3, ob8_0_ k4, ob11_0_ xo xk xn xc xh xt xw xm xp epf_51 eph_52 tr fi, ob3_0_ xn vp vn n1 n2 n3 n4 n5, ai_ cy n1 40 fk, ai_ cy n2 40 fs, ai_ cy n3 40 fe, ai_ cy n4 40 fw, ai_ cy n5 40 fp, aq_ cy 5 xp 30 (pst epa_53 epm_56)] : va_W) ++ (pool cy epa_53 epv_54 epg_55 epm_56)) hP hD (fun hP hD => ?_)
                    refine pd_P hP hD [ob11_0_ xo xk xn xc xh xt xw xm xp epf_51 eph_52 tr fi, ob3_0_ xn vp vn n1 n2 n3 n4 n5, ai_ cy n1 40 fk, ai_ cy n2 40 fs, ai_ cy n3 40 fe, ai_ cy n4 40 fw, ai_ cy n5 40 fp, aq_ cy 3 xk 5 (kf_ k0 k1 k2 k3 k4), ob6_0_ k0, ob5_0_ k1, ob9_0_ k2, ob2_0_ k3, ob8_0_ k4, aq_ cy 5 xp 30 (pst epa_53 epm_56)] [6, 7, 8, 9, 10, 11, 12, 0, 1, 2, 3, 4, 5, 13] (by decide +kernel) rfl (fun hP hD => ?_)
                    refine lv_aload_n hx hb dB_36_2_38.2.2.1.1 rfl (lv_at hl 2 rfl) ?_
                    refine lv_dup hx hb dB_36_2_38.2.2.1.2 rfl ?_
                    refine va_get (ci := 11) (v := .long tr) (C := RX11) (T := TX11) (N := 12) hx hb hts (fun _ h => List.mem_cons_of_mem _ (List.mem_append_left _ (List.mem_append_right _ h))) hown hK.1 hP 0 rfl rfl 10 (by decide) (hts (.fieldLink RX11 87 "CutAtlas" "traced" "J") (List.mem_of_getElem? (i := 6) rfl)) (fun _ h9 => h9) rfl dB_36_2_38.2.2.2.1 ?_
                    refine lv_aload_n hx hb dB_36_2_38.2.2.2.2 rfl (lv_at hl 1 rfl) ?_
                    have hPx := pp_left hP
                    have hDx := dd_left hD
                    refine ct_R hPx hDx [] [] (by decide) rfl (fun hPc hDw => ?_)
                    have hFc := va_free (wc := []) hD hS hA [] rfl
                    refine va_calli (va_runU (As := []) (rest := [.long tr, .ref xo]) ⟨hx, hb, hml, hown, hts⟩ (c_X6_costsMark l D cy H.size k1) (va_cwU 0 hts gX11_widen_X6_costsMark_u132X5 rfl rfl rfl rfl (by decide +kernel) ⟨Nat.le_of_ble_eq_true rfl, Nat.le_of_ble_eq_true rfl⟩) ⟨bl_, va_recvX hK.1 hPx (ci := 5) (q0 := 9) rfl rfl, fun U hU hW => ⟨rfl, by rw [hU], by rw [hU]; exact hPc, kk_mv hW hK, hDw⟩⟩ rfl rfl hl.1 rfl (lv_room (Nat.le_of_ble_eq_true rfl)) dB_36_2_39.1.1.1.1 ⟨Nat.le_of_ble_eq_true rfl, Nat.le_of_ble_eq_true rfl⟩) hS (fun q _ h => hFc q h) hFc (fun r_60 u t H locs ht hvm hw hB hz1 hk1 hS => ?_)
                    have hP : va_P D vwCl _ H := ro_keep hP hk1
                    refine lv_i2l (v := r_60.toInt64) hx hb dB_36_2_39.1.1.1.2 rfl ?_
                    have q_105 : (r_60.toInt64).toInt = r_60.toInt := Int32.toInt_toInt64 r_60
                    refine lv_ladd hx hb dB_36_2_39.1.1.2.1 ?_
                    refine lv_topl (fun y_61 ey_61 => ?_)
                    refine va_put (ci := 11) (v := .long y_61) (ty := .long) (C := RX11) (T := TX11) (N := 12) hx hb hts (fun _ h => List.mem_cons_of_mem _ (List.mem_append_left _ (List.mem_append_right _ h))) tyX11 tyX11_ok nmX11 hown hK.1 hP hD hS 0 rfl rfl 10 (by decide) (hts (.fieldLink RX11 87 "CutAtlas" "traced" "J") (List.mem_of_getElem? (i := 6) rfl)) (fun _ h9 => h9) rfl (by decide +kernel) rfl rfl (Nat.le_of_ble_eq_true rfl) dB_36_2_39.1.1.2.2 (fun H locs hP hD hS => ?_)
                    refine pd_K (([ob11_0_ xo xk xn xc xh xt xw xm xp epf_51 eph_52 y_61 fi, ob3_0_ xn vp vn n1 n2 n3 n4 n5, ai_ cy n1 40 fk, ai_ cy n2 40 fs, ai_ cy n3 40 fe, ai_ cy n4 40 fw, ai_ cy n5 40 fp, aq_ cy 3 xk 5 (kf_ k0 k1 k2 k3 k4), ob6_0_ k0, ob5_0_ k1, ob9_0_ k2, ob2_0_ k3, ob8_0_ k4, aq_ cy 5 xp 30 (pst epa_53 epm_56)] : va_W) ++ (pool cy epa_53 epv_54 epg_55 epm_56)) hP hD (fun hP hD => ?_)
                    refine lv_aload_n hx hb dB_36_2_39.1.2.1.1 rfl (lv_at hl 2 rfl) ?_
                    refine va_get (ci := 11) (v := .ref xn) (C := RX11) (T := TX11) (N := 12) hx hb hts (fun _ h => List.mem_cons_of_mem _ (List.mem_append_left _ (List.mem_append_right _ h))) hown hK.1 hP 0 rfl rfl 1 (by decide) (hts (.fieldLink RX11 31 "CutAtlas" "net" "LCutAtlas$Net;") (List.mem_of_getElem? (i := 1) rfl)) (fun _ h9 => h9) rfl dB_36_2_39.1.2.1.2 ?_
                    refine va_get (ci := 3) (v := .ref n4) (C := RX3) (T := TX3) (N := 7) hx hb hts (fun _ h => List.mem_cons_of_mem _ (List.mem_append_right _ h)) hown hK.1 hP 1 rfl rfl 5 (by decide) (hts (.fieldLink RX11 129 "CutAtlas$Net" "widths" "[I") (List.mem_of_getElem? (i := 5) rfl)) (fun _ h9 => h9) rfl dB_36_2_39.1.2.2.1 ?_
                    refine lv_iload_n hx hb dB_36_2_39.1.2.2.2 rfl (lv_at hl 3 rfl) ?_
                    refine lv_dup2_11 hx hb dB_36_2_39.2.1.1.1 rfl rfl ?_
                    have h_62 : vp_in a1 40 := in_I (by omega) (by omega)
                    refine va_iald hx hb hK.1 hP 5 0 rfl rfl (i := a1) h_62 dB_36_2_39.2.1.1.2 ?_
                    refine lv_topi (fun y_63 ey_63 => ?_)
                    have e_ := (ey_63.trans ey_47.symm).symm
                    subst e_
                    skip
                    refine lv_iload_n hx hb dB_36_2_39.2.1.2.1 rfl (lv_at hl 4 rfl) ?_
                    refine lv_iadd hx hb dB_36_2_39.2.1.2.2 ?_
                    refine lv_topi (fun y_64 ey_64 => ?_)
                    have e_ := (ey_64.trans ey_48.symm).symm
                    subst e_
                    have h_65 : vp_in a1 40 := in_I (by omega) (by omega)
                    refine va_iast hx hb hK.1 hP hD hS 5 0 rfl rfl (i := a1) h_65 dB_36_2_39.2.2.1.1 (fun H locs hP hD hS => ?_)
                    obtain ⟨f_66, ef_66⟩ : ∃ g : Nat → Int32, g = upd fw a1.toNatClampNeg y_48 := ⟨_, rfl⟩
                    refine pd_K (D := D) (cl := vwCl) (H := H) (A := A) (([ob11_0_ xo xk xn xc xh xt xw xm xp epf_51 eph_52 y_61 fi, ob3_0_ xn vp vn n1 n2 n3 n4 n5, ai_ cy n1 40 fk, ai_ cy n2 40 fs, ai_ cy n3 40 fe, ai_ cy n4 40 f_66, ai_ cy n5 40 fp, aq_ cy 3 xk 5 (kf_ k0 k1 k2 k3 k4), ob6_0_ k0, ob5_0_ k1, ob9_0_ k2, ob2_0_ k3, ob8_0_ k4, aq_ cy 5 xp 30 (pst epa_53 epm_56)] : va_W) ++ (pool cy epa_53 epv_54 epg_55 epm_56)) (by rw [ef_66]; exact hP) (by rw [ef_66]; exact hD) (fun hP hD => ?_)
                    have rf_66 : rng f_66 40 (0) (2000) := by rw [ef_66]; exact rng_upd r_fw (by omega) (by omega)
                    have hnn_ : nok vp vn fk fs fe f_66 fp := ⟨hnk.1, hnk.2.1, hnk.2.2.1, hnk.2.2.2.1, by assumption, hnk.2.2.2.2.2⟩
                    refine lv_iload hx hb dB_36_2_39.2.2.1.2 (lv_at hl 0 rfl) ?_
                    refine lv_iload_n hx hb dB_36_2_39.2.2.2.1 rfl (lv_at hl 4 rfl) ?_
                    refine lv_imul hx hb dB_36_2_39.2.2.2.2 ?_
                    refine lv_topi (fun y_67 ey_67 => ?_)
                    rw [hQ]
                    exact W.iret (v := y_67) hx hb hr (fun t ht hW => ⟨⟨y_67, (), rfl, trivial, epf_51, eph_52, y_61, f_66, epa_53, epv_54, epg_55, epm_56, (by first | exact hnk | exact hnn_), (by assumption), (by first | with_reducible assumption | assumption | (unfold rok; omega)), by rw [ht]; exact hP, hD⟩, hS.F ht⟩) hS.2.2 dB_36_2_40.1.1.1.1
                  · have t_49 : ¬ y_48.toInt ≤ (2000 : Int32).toInt := fun h => c_49 (Int32.le_iff_toInt_le.mpr h)
                    refine lv_bipush (v := (-2)) hx hb dB_36_2_38.2.1.1.1 (by decide) ?_
                    refine W.widen (k := 6) (n := 207) (Nat.le_of_ble_eq_true rfl) (Nat.le_of_ble_eq_true rfl) ?_
                    rw [hQ]
                    exact W.iret (v := (-2)) hx hb hr (fun t ht hW => ⟨⟨(-2), (), rfl, trivial, pf, ph, tr, fw, pa, pv, pg, pm, (by first | exact hnk | exact hnn_), (by assumption), (by first | with_reducible assumption | assumption | (unfold rok; omega)), by rw [ht]; exact hP, hD⟩, hS.F ht⟩) hS.2.2 dB_36_2_38.2.1.1.2
          · refine va_aldq hx hb hK.1 hP 7 3 rfl rfl (i := 2) (by unfold vp_in; decide) dB_36_2_36.2.2.1.2 ?_
            refine lv_topv (v' := .ref k2) (by simp [va_up, va_rf, mf_, cl_0, cl_1, cl_2, cl_3, cl_4, kf_]) ?_
            refine lv_astore_n (lv' := [(3, .ref k2), (0, .ref xo), (1, .int a1), (2, .int a2)]) hx hb dB_36_2_36.2.2.2.1 rfl hl (by decide) rfl (fun ls hl => ?_)
            refine lv_aload_n hx hb dB_36_2_36.2.2.2.2 rfl (lv_at hl 0 rfl) ?_
            refine lv_aload_n hx hb dB_36_2_37.1.1.1.1 rfl (lv_at hl 1 rfl) ?_
            refine va_get (ci := 11) (v := .ref xn) (C := RX11) (T := TX11) (N := 12) hx hb hts (fun _ h => List.mem_cons_of_mem _ (List.mem_append_left _ (List.mem_append_right _ h))) hown hK.1 hP 0 rfl rfl 1 (by decide) (hts (.fieldLink RX11 31 "CutAtlas" "net" "LCutAtlas$Net;") (List.mem_of_getElem? (i := 1) rfl)) (fun _ h9 => h9) rfl dB_36_2_37.1.1.1.2 ?_
            refine va_get (ci := 3) (v := .ref n5) (C := RX3) (T := TX3) (N := 7) hx hb hts (fun _ h => List.mem_cons_of_mem _ (List.mem_append_right _ h)) hown hK.1 hP 1 rfl rfl 6 (by decide) (hts (.fieldLink RX11 119 "CutAtlas$Net" "prices" "[I") (List.mem_of_getElem? (i := 4) rfl)) (fun _ h9 => h9) rfl dB_36_2_37.1.1.2.1 ?_
            refine lv_iload_n hx hb dB_36_2_37.1.1.2.2 rfl (lv_at hl 2 rfl) ?_
            have h_68 : vp_in a1 40 := in_I (by omega) (by omega)
            refine va_iald hx hb hK.1 hP 6 0 rfl rfl (i := a1) h_68 dB_36_2_37.1.2.1.1 ?_
            refine lv_topi (fun y_69 ey_69 => ?_)
            have ky_69 : y_69.toInt = (fp a1.toNatClampNeg).toInt := by rw [ey_69]
            have ry_69 : 0 ≤ y_69.toInt ∧ y_69.toInt ≤ 100 := by rw [ey_69]; exact r_fp _ (in_lt h_68)
            have hPx := pp_left hP
            have hDx := dd_left hD
            refine ct_R hPx hDx [] [] (by decide) rfl (fun hPc hDw => ?_)
            have hFc := va_free (wc := []) hD hS hA [] rfl
            refine va_calli (va_runU (As := [.int y_69]) (rest := []) ⟨hx, hb, hml, hown, hts⟩ (c_X6_costs l D cy H.size k2 y_69) (va_cwU 1 hts gX11_widen_X6_costs_u122X9 rfl rfl rfl rfl (by decide +kernel) ⟨Nat.le_of_ble_eq_true rfl, Nat.le_of_ble_eq_true rfl⟩) ⟨bl_, va_recvX hK.1 hPx (ci := 9) (q0 := 10) rfl rfl, fun U hU hW => ⟨rfl, by rw [hU], by rw [hU]; exact hPc, kk_mv hW hK, hDw⟩⟩ rfl rfl hl.1 rfl (lv_room (Nat.le_of_ble_eq_true rfl)) dB_36_2_37.1.2.1.2 ⟨Nat.le_of_ble_eq_true rfl, Nat.le_of_ble_eq_true rfl⟩) hS (fun q _ h => hFc q h) hFc (fun r_70 u t H locs ht hvm hw hB hz1 hk1 hS => ?_)
            have hP : va_P D vwCl _ H := ro_keep hP hk1
            have f0_r_70 := hw
            refine lv_istore (lv' := [(4, .int r_70), (3, .ref k2), (0, .ref xo), (1, .int a1), (2, .int a2)]) hx hb dB_36_2_37.1.2.2.1 hl (by decide) rfl (fun ls hl => ?_)
            refine lv_iload hx hb dB_36_2_37.1.2.2.2 (lv_at hl 0 rfl) ?_
            refine lv_bipush (v := (-9)) hx hb dB_36_2_37.2.1.1.1 (by decide) ?_
            refine lv_icmp_eq (tgt := 89) hx hb dB_36_2_37.2.1.1.2 (by decide) (fun c_71 => ?_) (fun c_71 => ?_)
            · have t_71 : r_70.toInt = ((-9) : Int32).toInt := congrArg Int32.toInt c_71
              refine lv_bipush (v := (-2)) hx hb dB_36_2_38.2.1.1.1 (by decide) ?_
              refine W.widen (k := 6) (n := 207) (Nat.le_of_ble_eq_true rfl) (Nat.le_of_ble_eq_true rfl) ?_
              rw [hQ]
              exact W.iret (v := (-2)) hx hb hr (fun t ht hW => ⟨⟨(-2), (), rfl, trivial, pf, ph, tr, fw, pa, pv, pg, pm, (by first | exact hnk | exact hnn_), (by assumption), (by first | with_reducible assumption | assumption | (unfold rok; omega)), by rw [ht]; exact hP, hD⟩, hS.F ht⟩) hS.2.2 dB_36_2_38.2.1.1.2
            · have t_71 : ¬ r_70.toInt = ((-9) : Int32).toInt := fun h => c_71 (Int32.toInt_inj.mp h)
              refine lv_aload_n hx hb dB_36_2_37.2.1.2.1 rfl (lv_at hl 2 rfl) ?_
              refine va_get (ci := 11) (v := .ref xn) (C := RX11) (T := TX11) (N := 12) hx hb hts (fun _ h => List.mem_cons_of_mem _ (List.mem_append_left _ (List.mem_append_right _ h))) hown hK.1 hP 0 rfl rfl 1 (by decide) (hts (.fieldLink RX11 31 "CutAtlas" "net" "LCutAtlas$Net;") (List.mem_of_getElem? (i := 1) rfl)) (fun _ h9 => h9) rfl dB_36_2_37.2.1.2.2 ?_
              refine lv_iload_n hx hb dB_36_2_37.2.2.1.1 rfl (lv_at hl 3 rfl) ?_
              have hPx := pp_left hP
              have hDx := dd_left hD
              refine ct_R hPx hDx [ob3_0_ xn vp vn n1 n2 n3 n4 n5, ai_ cy n2 40 fs] [1, 3] (by decide) rfl (fun hPc hDw => ?_)
              have hFc := va_free (wc := []) hD hS hA [] rfl
              refine va_calli (va_runV (As := [.int a1]) (rest := []) ⟨hx, hb, hml, hown, hts⟩ (c_X3_isMissing l D cy H.size xn n1 n2 n3 n4 n5 vp vn fs a1 (by first | with_reducible assumption | omega | assumption)) (cwV 1 hts gX11_widen_X3_isMissing rfl rfl rfl ⟨rfl, hd_X3_isMissing⟩ ⟨Nat.le_of_ble_eq_true rfl, Nat.le_of_ble_eq_true rfl⟩) ⟨bl_, va_recvX hK.1 hPx (ci := 3) (q0 := 1) rfl rfl, fun U hU hW => ⟨rfl, by rw [hU], by rw [hU]; exact hPc, kk_mv hW hK, hDw⟩⟩ rfl rfl hl.1 rfl (lv_room (Nat.le_of_ble_eq_true rfl)) dB_36_2_37.2.2.1.2 ⟨Nat.le_of_ble_eq_true rfl, Nat.le_of_ble_eq_true rfl⟩) hS (fun q _ h => hFc q h) hFc (fun r_72 u t H locs ht hvm hw hB hz1 hk1 hS => ?_)
              have hP : va_P D vwCl _ H := ro_keep hP hk1
              rcases hw with ⟨w_73, e_⟩ | ⟨w_73, e_⟩
              · have e_ := e_.symm
                subst e_
                refine lv_if_ne (tgt := 89) hx hb dB_36_2_37.2.2.2.1 (by decide) (fun c_74 => ?_) (fun c_74 => ?_)
                · have _ := c_74
                  refine lv_bipush (v := (-2)) hx hb dB_36_2_38.2.1.1.1 (by decide) ?_
                  refine W.widen (k := 6) (n := 207) (Nat.le_of_ble_eq_true rfl) (Nat.le_of_ble_eq_true rfl) ?_
                  rw [hQ]
                  exact W.iret (v := (-2)) hx hb hr (fun t ht hW => ⟨⟨(-2), (), rfl, trivial, pf, ph, tr, fw, pa, pv, pg, pm, (by first | exact hnk | exact hnn_), (by assumption), (by first | with_reducible assumption | assumption | (unfold rok; omega)), by rw [ht]; exact hP, hD⟩, hS.F ht⟩) hS.2.2 dB_36_2_38.2.1.1.2
                · exact absurd c_74 (by decide)
              · have e_ := e_.symm
                subst e_
                refine lv_if_ne (tgt := 89) hx hb dB_36_2_37.2.2.2.1 (by decide) (fun c_75 => ?_) (fun c_75 => ?_)
                · exact absurd c_75 (by decide)
                · have _ := c_75
                  refine lv_aload_n hx hb dB_36_2_37.2.2.2.2 rfl (lv_at hl 2 rfl) ?_
                  refine va_get (ci := 11) (v := .ref xn) (C := RX11) (T := TX11) (N := 12) hx hb hts (fun _ h => List.mem_cons_of_mem _ (List.mem_append_left _ (List.mem_append_right _ h))) hown hK.1 hP 0 rfl rfl 1 (by decide) (hts (.fieldLink RX11 31 "CutAtlas" "net" "LCutAtlas$Net;") (List.mem_of_getElem? (i := 1) rfl)) (fun _ h9 => h9) rfl dB_36_2_38.1.1.1.1 ?_
                  refine va_get (ci := 3) (v := .ref n4) (C := RX3) (T := TX3) (N := 7) hx hb hts (fun _ h => List.mem_cons_of_mem _ (List.mem_append_right _ h)) hown hK.1 hP 1 rfl rfl 5 (by decide) (hts (.fieldLink RX11 129 "CutAtlas$Net" "widths" "[I") (List.mem_of_getElem? (i := 5) rfl)) (fun _ h9 => h9) rfl dB_36_2_38.1.1.1.2 ?_
                  refine lv_iload_n hx hb dB_36_2_38.1.1.2.1 rfl (lv_at hl 3 rfl) ?_
                  have h_76 : vp_in a1 40 := in_I (by omega) (by omega)
                  refine va_iald hx hb hK.1 hP 5 0 rfl rfl (i := a1) h_76 dB_36_2_38.1.1.2.2 ?_
                  refine lv_topi (fun y_77 ey_77 => ?_)
                  have ky_77 : y_77.toInt = (fw a1.toNatClampNeg).toInt := by rw [ey_77]
                  have ry_77 : 0 ≤ y_77.toInt ∧ y_77.toInt ≤ 2000 := by rw [ey_77]; exact r_fw _ (in_lt h_76)
                  refine lv_iload_n hx hb dB_36_2_38.1.2.1.1 rfl (lv_at hl 4 rfl) ?_
                  refine lv_iadd hx hb dB_36_2_38.1.2.1.2 ?_
                  refine lv_topi (fun y_78 ey_78 => ?_)
                  have ty_78 : y_78.toInt = y_77.toInt + a2.toInt := by rw [ey_78]; exact addI (by omega) (by omega)
                  refine lv_sipush (v := 2000) hx hb dB_36_2_38.1.2.2.1 (by decide) ?_
                  refine lv_icmp_le (tgt := 92) hx hb dB_36_2_38.1.2.2.2 (by decide) (fun c_79 => ?_) (fun c_79 => ?_)
                  · have t_79 : y_78.toInt ≤ (2000 : Int32).toInt := Int32.le_iff_toInt_le.mp c_79
                    refine lv_aload_n hx hb dB_36_2_38.2.1.2.1 rfl (lv_at hl 2 rfl) ?_
                    refine ct_P hP hD hS hA [ob11_0_ xo xk xn xc xh xt xw xm xp pf ph tr fi, ob3_0_ xn vp vn n1 n2 n3 n4 n5, ai_ cy n1 40 fk, ai_ cy n2 40 fs, ai_ cy n3 40 fe, ai_ cy n4 40 fw, ai_ cy n5 40 fp, aq_ cy 5 xp 30 (pst pa pm)] [0, 1, 2, 3, 4, 5, 6, 13] (by decide) rfl (fun hPc hDw hFc hC_ => ?_)
                    have hPx := pp_left hP
                    refine va_callv (va_runV (As := []) (rest := []) ⟨hx, hb, hml, hown, hts⟩ (c_X11_remember l D cy H.size xo xk xn xc xh xt xw xm xp pf ph tr fi n1 n2 n3 n4 n5 vp vn fk fs fe fw fp pa pv pg pm (by first | with_reducible assumption | assumption | omega) (by first | with_reducible assumption | assumption | omega) (by first | with_reducible assumption | assumption | omega) (by first | with_reducible assumption | assumption | omega) (by first | with_reducible assumption | assumption | omega) (by first | with_reducible assumption | assumption | omega) (by first | with_reducible assumption | assumption | omega)) (cwV 0 hts gX11_widen_X11_remember rfl rfl rfl ⟨rfl, hd_X11_remember⟩ ⟨Nat.le_of_ble_eq_true rfl, Nat.le_of_ble_eq_true rfl⟩) ⟨bl_, va_recvX hK.1 hPx (ci := 11) (q0 := 0) rfl rfl, fun U hU hW => ⟨rfl, by rw [hU], by rw [hU]; exact hPc, kk_mv hW hK, hDw⟩⟩ rfl rfl hl.1 rfl (lv_room (Nat.le_of_ble_eq_true rfl)) dB_36_2_38.2.1.2.2 ⟨Nat.le_of_ble_eq_true rfl, Nat.le_of_ble_eq_true rfl⟩) hS (fun q _ h => hFc q h) hFc (fun u t H locs ht hvm hw hB hz1 hk1 hS => ?_)
                    obtain ⟨epf_81, eph_82, epa_83, epv_84, epg_85, epm_86, g_87, g_88, g_89, hP1, hD1⟩ := hB
                    rw [ht] at hP1
                    obtain ⟨hP, hD⟩ := va_joinP (wr := [aq_ cy 3 xk 5 (kf_ k0 k1 k2 k3 k4), ob6_0_ k0, ob5_0_ k1, ob9_0_ k2, ob2_0_ k3, ob8_0_ k4]) (rx := [ob11_0_ xo xk xn xc xh xt xw xm xp epf_81 eph_82 tr fi, ob3_0_ xn vp vn n1 n2 n3 n4 n5, ai_ cy n1 40 fk, ai_ cy n2 40 fs, ai_ cy n3 40 fe, ai_ cy n4 40 fw, ai_ cy n5 40 fp, aq_ cy 5 xp 30 (pst epa_83 epm_86)]) (pl1 := (pool cy epa_83 epv_84 epg_85 epm_86)) hP hD [0, 1, 2, 3, 4, 5, 6, 13] [7, 8, 9, 10, 11, 12] hC_ rfl (by decide) (by decide) hk1 hFc hP1 hD1
                    refine pd_K (([aq_ cy 3 xk 5 (kf_ k0 k1 k2 k3 k4), ob6_0_ k0, ob5_0_ k1, ob9_0_ k2, ob2_0_ k3, ob8_0_ k4, ob11_0_ xo xk xn xc xh xt xw xm xp epf_81 eph_82 tr fi, ob3_0_ xn vp vn n1 n2 n3 n4 n5, ai_ cy n1 40 fk, ai_ cy n2 40 fs, ai_ cy n3 40 fe, ai_ cy n4 40 fw, ai_ cy n5 40 fp, aq_ cy 5 xp 30 (pst epa_83 epm_86)] : va_W) ++ (pool cy epa_83 epv_84 epg_85 epm_86)) hP hD (fun hP hD => ?_)
                    refine pd_P hP hD [ob11_0_ xo xk xn xc xh xt xw xm xp epf_81 eph_82 tr fi, ob3_0_ xn vp vn n1 n2 n3 n4 n5, ai_ cy n1 40 fk, ai_ cy n2 40 fs, ai_ cy n3 40 fe, ai_ cy n4 40 fw, ai_ cy n5 40 fp, aq_ cy 3 xk 5 (kf_ k0 k1 k2 k3 k4), ob6_0_ k0, ob5_0_ k1, ob9_0_ k2, ob2_0_ k3, ob8_0_ k4, aq_ cy 5 xp 30 (pst epa_83 epm_86)] [6, 7, 8, 9, 10, 11, 12, 0, 1, 2, 3, 4, 5, 13] (by decide +kernel) rfl (fun hP hD => ?_)
                    refine lv_aload_n hx hb dB_36_2_38.2.2.1.1 rfl (lv_at hl 2 rfl) ?_
                    refine lv_dup hx hb dB_36_2_38.2.2.1.2 rfl ?_
                    refine va_get (ci := 11) (v := .long tr) (C := RX11) (T := TX11) (N := 12) hx hb hts (fun _ h => List.mem_cons_of_mem _ (List.mem_append_left _ (List.mem_append_right _ h))) hown hK.1 hP 0 rfl rfl 10 (by decide) (hts (.fieldLink RX11 87 "CutAtlas" "traced" "J") (List.mem_of_getElem? (i := 6) rfl)) (fun _ h9 => h9) rfl dB_36_2_38.2.2.2.1 ?_
                    refine lv_aload_n hx hb dB_36_2_38.2.2.2.2 rfl (lv_at hl 1 rfl) ?_
                    have hPx := pp_left hP
                    have hDx := dd_left hD
                    refine ct_R hPx hDx [] [] (by decide) rfl (fun hPc hDw => ?_)
                    have hFc := va_free (wc := []) hD hS hA [] rfl
                    refine va_calli (va_runU (As := []) (rest := [.long tr, .ref xo]) ⟨hx, hb, hml, hown, hts⟩ (c_X6_costsMark l D cy H.size k2) (va_cwU 0 hts gX11_widen_X6_costsMark_u132X9 rfl rfl rfl rfl (by decide +kernel) ⟨Nat.le_of_ble_eq_true rfl, Nat.le_of_ble_eq_true rfl⟩) ⟨bl_, va_recvX hK.1 hPx (ci := 9) (q0 := 10) rfl rfl, fun U hU hW => ⟨rfl, by rw [hU], by rw [hU]; exact hPc, kk_mv hW hK, hDw⟩⟩ rfl rfl hl.1 rfl (lv_room (Nat.le_of_ble_eq_true rfl)) dB_36_2_39.1.1.1.1 ⟨Nat.le_of_ble_eq_true rfl, Nat.le_of_ble_eq_true rfl⟩) hS (fun q _ h => hFc q h) hFc (fun r_90 u t H locs ht hvm hw hB hz1 hk1 hS => ?_)
                    have hP : va_P D vwCl _ H := ro_keep hP hk1
                    refine lv_i2l (v := r_90.toInt64) hx hb dB_36_2_39.1.1.1.2 rfl ?_
                    have q_105 : (r_90.toInt64).toInt = r_90.toInt := Int32.toInt_toInt64 r_90
                    refine lv_ladd hx hb dB_36_2_39.1.1.2.1 ?_
                    refine lv_topl (fun y_91 ey_91 => ?_)
                    refine va_put (ci := 11) (v := .long y_91) (ty := .long) (C := RX11) (T := TX11) (N := 12) hx hb hts (fun _ h => List.mem_cons_of_mem _ (List.mem_append_left _ (List.mem_append_right _ h))) tyX11 tyX11_ok nmX11 hown hK.1 hP hD hS 0 rfl rfl 10 (by decide) (hts (.fieldLink RX11 87 "CutAtlas" "traced" "J") (List.mem_of_getElem? (i := 6) rfl)) (fun _ h9 => h9) rfl (by decide +kernel) rfl rfl (Nat.le_of_ble_eq_true rfl) dB_36_2_39.1.1.2.2 (fun H locs hP hD hS => ?_)
                    refine pd_K (([ob11_0_ xo xk xn xc xh xt xw xm xp epf_81 eph_82 y_91 fi, ob3_0_ xn vp vn n1 n2 n3 n4 n5, ai_ cy n1 40 fk, ai_ cy n2 40 fs, ai_ cy n3 40 fe, ai_ cy n4 40 fw, ai_ cy n5 40 fp, aq_ cy 3 xk 5 (kf_ k0 k1 k2 k3 k4), ob6_0_ k0, ob5_0_ k1, ob9_0_ k2, ob2_0_ k3, ob8_0_ k4, aq_ cy 5 xp 30 (pst epa_83 epm_86)] : va_W) ++ (pool cy epa_83 epv_84 epg_85 epm_86)) hP hD (fun hP hD => ?_)
                    refine lv_aload_n hx hb dB_36_2_39.1.2.1.1 rfl (lv_at hl 2 rfl) ?_
                    refine va_get (ci := 11) (v := .ref xn) (C := RX11) (T := TX11) (N := 12) hx hb hts (fun _ h => List.mem_cons_of_mem _ (List.mem_append_left _ (List.mem_append_right _ h))) hown hK.1 hP 0 rfl rfl 1 (by decide) (hts (.fieldLink RX11 31 "CutAtlas" "net" "LCutAtlas$Net;") (List.mem_of_getElem? (i := 1) rfl)) (fun _ h9 => h9) rfl dB_36_2_39.1.2.1.2 ?_
                    refine va_get (ci := 3) (v := .ref n4) (C := RX3) (T := TX3) (N := 7) hx hb hts (fun _ h => List.mem_cons_of_mem _ (List.mem_append_right _ h)) hown hK.1 hP 1 rfl rfl 5 (by decide) (hts (.fieldLink RX11 129 "CutAtlas$Net" "widths" "[I") (List.mem_of_getElem? (i := 5) rfl)) (fun _ h9 => h9) rfl dB_36_2_39.1.2.2.1 ?_
                    refine lv_iload_n hx hb dB_36_2_39.1.2.2.2 rfl (lv_at hl 3 rfl) ?_
                    refine lv_dup2_11 hx hb dB_36_2_39.2.1.1.1 rfl rfl ?_
                    have h_92 : vp_in a1 40 := in_I (by omega) (by omega)
                    refine va_iald hx hb hK.1 hP 5 0 rfl rfl (i := a1) h_92 dB_36_2_39.2.1.1.2 ?_
                    refine lv_topi (fun y_93 ey_93 => ?_)
                    have e_ := (ey_93.trans ey_77.symm).symm
                    subst e_
                    skip
                    refine lv_iload_n hx hb dB_36_2_39.2.1.2.1 rfl (lv_at hl 4 rfl) ?_
                    refine lv_iadd hx hb dB_36_2_39.2.1.2.2 ?_
                    refine lv_topi (fun y_94 ey_94 => ?_)
                    have e_ := (ey_94.trans ey_78.symm).symm
                    subst e_
                    have h_95 : vp_in a1 40 := in_I (by omega) (by omega)
                    refine va_iast hx hb hK.1 hP hD hS 5 0 rfl rfl (i := a1) h_95 dB_36_2_39.2.2.1.1 (fun H locs hP hD hS => ?_)
                    obtain ⟨f_96, ef_96⟩ : ∃ g : Nat → Int32, g = upd fw a1.toNatClampNeg y_78 := ⟨_, rfl⟩
                    refine pd_K (D := D) (cl := vwCl) (H := H) (A := A) (([ob11_0_ xo xk xn xc xh xt xw xm xp epf_81 eph_82 y_91 fi, ob3_0_ xn vp vn n1 n2 n3 n4 n5, ai_ cy n1 40 fk, ai_ cy n2 40 fs, ai_ cy n3 40 fe, ai_ cy n4 40 f_96, ai_ cy n5 40 fp, aq_ cy 3 xk 5 (kf_ k0 k1 k2 k3 k4), ob6_0_ k0, ob5_0_ k1, ob9_0_ k2, ob2_0_ k3, ob8_0_ k4, aq_ cy 5 xp 30 (pst epa_83 epm_86)] : va_W) ++ (pool cy epa_83 epv_84 epg_85 epm_86)) (by rw [ef_96]; exact hP) (by rw [ef_96]; exact hD) (fun hP hD => ?_)
                    have rf_96 : rng f_96 40 (0) (2000) := by rw [ef_96]; exact rng_upd r_fw (by omega) (by omega)
                    have hnn_ : nok vp vn fk fs fe f_96 fp := ⟨hnk.1, hnk.2.1, hnk.2.2.1, hnk.2.2.2.1, by assumption, hnk.2.2.2.2.2⟩
                    refine lv_iload hx hb dB_36_2_39.2.2.1.2 (lv_at hl 0 rfl) ?_
                    refine lv_iload_n hx hb dB_36_2_39.2.2.2.1 rfl (lv_at hl 4 rfl) ?_
                    refine lv_imul hx hb dB_36_2_39.2.2.2.2 ?_
                    refine lv_topi (fun y_97 ey_97 => ?_)
                    rw [hQ]
                    exact W.iret (v := y_97) hx hb hr (fun t ht hW => ⟨⟨y_97, (), rfl, trivial, epf_81, eph_82, y_91, f_96, epa_83, epv_84, epg_85, epm_86, (by first | exact hnk | exact hnn_), (by assumption), (by first | with_reducible assumption | assumption | (unfold rok; omega)), by rw [ht]; exact hP, hD⟩, hS.F ht⟩) hS.2.2 dB_36_2_40.1.1.1.1
                  · have t_79 : ¬ y_78.toInt ≤ (2000 : Int32).toInt := fun h => c_79 (Int32.le_iff_toInt_le.mpr h)
                    refine lv_bipush (v := (-2)) hx hb dB_36_2_38.2.1.1.1 (by decide) ?_
                    refine W.widen (k := 6) (n := 207) (Nat.le_of_ble_eq_true rfl) (Nat.le_of_ble_eq_true rfl) ?_
                    rw [hQ]
                    exact W.iret (v := (-2)) hx hb hr (fun t ht hW => ⟨⟨(-2), (), rfl, trivial, pf, ph, tr, fw, pa, pv, pg, pm, (by first | exact hnk | exact hnn_), (by assumption), (by first | with_reducible assumption | assumption | (unfold rok; omega)), by rw [ht]; exact hP, hD⟩, hS.F ht⟩) hS.2.2 dB_36_2_38.2.1.1.2
          · refine va_aldq hx hb hK.1 hP 7 3 rfl rfl (i := 3) (by unfold vp_in; decide) dB_36_2_36.2.2.1.2 ?_
            refine lv_topv (v' := .ref k3) (by simp [va_up, va_rf, mf_, cl_0, cl_1, cl_2, cl_3, cl_4, kf_]) ?_
            refine lv_astore_n (lv' := [(3, .ref k3), (0, .ref xo), (1, .int a1), (2, .int a2)]) hx hb dB_36_2_36.2.2.2.1 rfl hl (by decide) rfl (fun ls hl => ?_)
            refine lv_aload_n hx hb dB_36_2_36.2.2.2.2 rfl (lv_at hl 0 rfl) ?_
            refine lv_aload_n hx hb dB_36_2_37.1.1.1.1 rfl (lv_at hl 1 rfl) ?_
            refine va_get (ci := 11) (v := .ref xn) (C := RX11) (T := TX11) (N := 12) hx hb hts (fun _ h => List.mem_cons_of_mem _ (List.mem_append_left _ (List.mem_append_right _ h))) hown hK.1 hP 0 rfl rfl 1 (by decide) (hts (.fieldLink RX11 31 "CutAtlas" "net" "LCutAtlas$Net;") (List.mem_of_getElem? (i := 1) rfl)) (fun _ h9 => h9) rfl dB_36_2_37.1.1.1.2 ?_
            refine va_get (ci := 3) (v := .ref n5) (C := RX3) (T := TX3) (N := 7) hx hb hts (fun _ h => List.mem_cons_of_mem _ (List.mem_append_right _ h)) hown hK.1 hP 1 rfl rfl 6 (by decide) (hts (.fieldLink RX11 119 "CutAtlas$Net" "prices" "[I") (List.mem_of_getElem? (i := 4) rfl)) (fun _ h9 => h9) rfl dB_36_2_37.1.1.2.1 ?_
            refine lv_iload_n hx hb dB_36_2_37.1.1.2.2 rfl (lv_at hl 2 rfl) ?_
            have h_98 : vp_in a1 40 := in_I (by omega) (by omega)
            refine va_iald hx hb hK.1 hP 6 0 rfl rfl (i := a1) h_98 dB_36_2_37.1.2.1.1 ?_
            refine lv_topi (fun y_99 ey_99 => ?_)
            have ky_99 : y_99.toInt = (fp a1.toNatClampNeg).toInt := by rw [ey_99]
            have ry_99 : 0 ≤ y_99.toInt ∧ y_99.toInt ≤ 100 := by rw [ey_99]; exact r_fp _ (in_lt h_98)
            have hPx := pp_left hP
            have hDx := dd_left hD
            refine ct_R hPx hDx [] [] (by decide) rfl (fun hPc hDw => ?_)
            have hFc := va_free (wc := []) hD hS hA [] rfl
            refine va_calli (va_runU (As := [.int y_99]) (rest := []) ⟨hx, hb, hml, hown, hts⟩ (c_X2_costs l D cy H.size k3 y_99) (va_cwO 1 hts gX11_widen_X2_costs_u122X2 rfl rfl rfl (b0 := cX6_costs) (m0 := 2) (r0 := (some .int)) (by decide +kernel) (by decide +kernel) ⟨Nat.le_of_ble_eq_true rfl, Nat.le_of_ble_eq_true rfl⟩) ⟨bl_, va_recvX hK.1 hPx (ci := 2) (q0 := 11) rfl rfl, fun U hU hW => ⟨rfl, by rw [hU], by rw [hU]; exact hPc, kk_mv hW hK, hDw⟩⟩ rfl rfl hl.1 rfl (lv_room (Nat.le_of_ble_eq_true rfl)) dB_36_2_37.1.2.1.2 ⟨Nat.le_of_ble_eq_true rfl, Nat.le_of_ble_eq_true rfl⟩) hS (fun q _ h => hFc q h) hFc (fun r_100 u t H locs ht hvm hw hB hz1 hk1 hS => ?_)
            have hP : va_P D vwCl _ H := ro_keep hP hk1
            have f0_r_100 := hw
            refine lv_istore (lv' := [(4, .int r_100), (3, .ref k3), (0, .ref xo), (1, .int a1), (2, .int a2)]) hx hb dB_36_2_37.1.2.2.1 hl (by decide) rfl (fun ls hl => ?_)
            refine lv_iload hx hb dB_36_2_37.1.2.2.2 (lv_at hl 0 rfl) ?_
            refine lv_bipush (v := (-9)) hx hb dB_36_2_37.2.1.1.1 (by decide) ?_
            refine lv_icmp_eq (tgt := 89) hx hb dB_36_2_37.2.1.1.2 (by decide) (fun c_101 => ?_) (fun c_101 => ?_)
            · have t_101 : r_100.toInt = ((-9) : Int32).toInt := congrArg Int32.toInt c_101
              refine lv_bipush (v := (-2)) hx hb dB_36_2_38.2.1.1.1 (by decide) ?_
              refine W.widen (k := 6) (n := 207) (Nat.le_of_ble_eq_true rfl) (Nat.le_of_ble_eq_true rfl) ?_
              rw [hQ]
              exact W.iret (v := (-2)) hx hb hr (fun t ht hW => ⟨⟨(-2), (), rfl, trivial, pf, ph, tr, fw, pa, pv, pg, pm, (by first | exact hnk | exact hnn_), (by assumption), (by first | with_reducible assumption | assumption | (unfold rok; omega)), by rw [ht]; exact hP, hD⟩, hS.F ht⟩) hS.2.2 dB_36_2_38.2.1.1.2
            · have t_101 : ¬ r_100.toInt = ((-9) : Int32).toInt := fun h => c_101 (Int32.toInt_inj.mp h)
              refine lv_aload_n hx hb dB_36_2_37.2.1.2.1 rfl (lv_at hl 2 rfl) ?_
              refine va_get (ci := 11) (v := .ref xn) (C := RX11) (T := TX11) (N := 12) hx hb hts (fun _ h => List.mem_cons_of_mem _ (List.mem_append_left _ (List.mem_append_right _ h))) hown hK.1 hP 0 rfl rfl 1 (by decide) (hts (.fieldLink RX11 31 "CutAtlas" "net" "LCutAtlas$Net;") (List.mem_of_getElem? (i := 1) rfl)) (fun _ h9 => h9) rfl dB_36_2_37.2.1.2.2 ?_
              refine lv_iload_n hx hb dB_36_2_37.2.2.1.1 rfl (lv_at hl 3 rfl) ?_
              have hPx := pp_left hP
              have hDx := dd_left hD
              refine ct_R hPx hDx [ob3_0_ xn vp vn n1 n2 n3 n4 n5, ai_ cy n2 40 fs] [1, 3] (by decide) rfl (fun hPc hDw => ?_)
              have hFc := va_free (wc := []) hD hS hA [] rfl
              refine va_calli (va_runV (As := [.int a1]) (rest := []) ⟨hx, hb, hml, hown, hts⟩ (c_X3_isMissing l D cy H.size xn n1 n2 n3 n4 n5 vp vn fs a1 (by first | with_reducible assumption | omega | assumption)) (cwV 1 hts gX11_widen_X3_isMissing rfl rfl rfl ⟨rfl, hd_X3_isMissing⟩ ⟨Nat.le_of_ble_eq_true rfl, Nat.le_of_ble_eq_true rfl⟩) ⟨bl_, va_recvX hK.1 hPx (ci := 3) (q0 := 1) rfl rfl, fun U hU hW => ⟨rfl, by rw [hU], by rw [hU]; exact hPc, kk_mv hW hK, hDw⟩⟩ rfl rfl hl.1 rfl (lv_room (Nat.le_of_ble_eq_true rfl)) dB_36_2_37.2.2.1.2 ⟨Nat.le_of_ble_eq_true rfl, Nat.le_of_ble_eq_true rfl⟩) hS (fun q _ h => hFc q h) hFc (fun r_102 u t H locs ht hvm hw hB hz1 hk1 hS => ?_)
              have hP : va_P D vwCl _ H := ro_keep hP hk1
              rcases hw with ⟨w_103, e_⟩ | ⟨w_103, e_⟩
              · have e_ := e_.symm
                subst e_
                refine lv_if_ne (tgt := 89) hx hb dB_36_2_37.2.2.2.1 (by decide) (fun c_104 => ?_) (fun c_104 => ?_)
                · have _ := c_104
                  refine lv_bipush (v := (-2)) hx hb dB_36_2_38.2.1.1.1 (by decide) ?_
                  refine W.widen (k := 6) (n := 207) (Nat.le_of_ble_eq_true rfl) (Nat.le_of_ble_eq_true rfl) ?_
                  rw [hQ]
                  exact W.iret (v := (-2)) hx hb hr (fun t ht hW => ⟨⟨(-2), (), rfl, trivial, pf, ph, tr, fw, pa, pv, pg, pm, (by first | exact hnk | exact hnn_), (by assumption), (by first | with_reducible assumption | assumption | (unfold rok; omega)), by rw [ht]; exact hP, hD⟩, hS.F ht⟩) hS.2.2 dB_36_2_38.2.1.1.2
                · exact absurd c_104 (by decide)
              · have e_ := e_.symm
                subst e_
                refine lv_if_ne (tgt := 89) hx hb dB_36_2_37.2.2.2.1 (by decide) (fun c_105 => ?_) (fun c_105 => ?_)
                · exact absurd c_105 (by decide)
                · have _ := c_105
                  refine lv_aload_n hx hb dB_36_2_37.2.2.2.2 rfl (lv_at hl 2 rfl) ?_
                  refine va_get (ci := 11) (v := .ref xn) (C := RX11) (T := TX11) (N := 12) hx hb hts (fun _ h => List.mem_cons_of_mem _ (List.mem_append_left _ (List.mem_append_right _ h))) hown hK.1 hP 0 rfl rfl 1 (by decide) (hts (.fieldLink RX11 31 "CutAtlas" "net" "LCutAtlas$Net;") (List.mem_of_getElem? (i := 1) rfl)) (fun _ h9 => h9) rfl dB_36_2_38.1.1.1.1 ?_
                  refine va_get (ci := 3) (v := .ref n4) (C := RX3) (T := TX3) (N := 7) hx hb hts (fun _ h => List.mem_cons_of_mem _ (List.mem_append_right _ h)) hown hK.1 hP 1 rfl rfl 5 (by decide) (hts (.fieldLink RX11 129 "CutAtlas$Net" "widths" "[I") (List.mem_of_getElem? (i := 5) rfl)) (fun _ h9 => h9) rfl dB_36_2_38.1.1.1.2 ?_
                  refine lv_iload_n hx hb dB_36_2_38.1.1.2.1 rfl (lv_at hl 3 rfl) ?_
                  have h_106 : vp_in a1 40 := in_I (by omega) (by omega)
                  refine va_iald hx hb hK.1 hP 5 0 rfl rfl (i := a1) h_106 dB_36_2_38.1.1.2.2 ?_
                  refine lv_topi (fun y_107 ey_107 => ?_)
                  have ky_107 : y_107.toInt = (fw a1.toNatClampNeg).toInt := by rw [ey_107]
                  have ry_107 : 0 ≤ y_107.toInt ∧ y_107.toInt ≤ 2000 := by rw [ey_107]; exact r_fw _ (in_lt h_106)
                  refine lv_iload_n hx hb dB_36_2_38.1.2.1.1 rfl (lv_at hl 4 rfl) ?_
                  refine lv_iadd hx hb dB_36_2_38.1.2.1.2 ?_
                  refine lv_topi (fun y_108 ey_108 => ?_)
                  have ty_108 : y_108.toInt = y_107.toInt + a2.toInt := by rw [ey_108]; exact addI (by omega) (by omega)
                  refine lv_sipush (v := 2000) hx hb dB_36_2_38.1.2.2.1 (by decide) ?_
                  refine lv_icmp_le (tgt := 92) hx hb dB_36_2_38.1.2.2.2 (by decide) (fun c_109 => ?_) (fun c_109 => ?_)
                  · have t_109 : y_108.toInt ≤ (2000 : Int32).toInt := Int32.le_iff_toInt_le.mp c_109
                    refine lv_aload_n hx hb dB_36_2_38.2.1.2.1 rfl (lv_at hl 2 rfl) ?_
                    refine ct_P hP hD hS hA [ob11_0_ xo xk xn xc xh xt xw xm xp pf ph tr fi, ob3_0_ xn vp vn n1 n2 n3 n4 n5, ai_ cy n1 40 fk, ai_ cy n2 40 fs, ai_ cy n3 40 fe, ai_ cy n4 40 fw, ai_ cy n5 40 fp, aq_ cy 5 xp 30 (pst pa pm)] [0, 1, 2, 3, 4, 5, 6, 13] (by decide) rfl (fun hPc hDw hFc hC_ => ?_)
                    have hPx := pp_left hP
                    refine va_callv (va_runV (As := []) (rest := []) ⟨hx, hb, hml, hown, hts⟩ (c_X11_remember l D cy H.size xo xk xn xc xh xt xw xm xp pf ph tr fi n1 n2 n3 n4 n5 vp vn fk fs fe fw fp pa pv pg pm (by first | with_reducible assumption | assumption | omega) (by first | with_reducible assumption | assumption | omega) (by first | with_reducible assumption | assumption | omega) (by first | with_reducible assumption | assumption | omega) (by first | with_reducible assumption | assumption | omega) (by first | with_reducible assumption | assumption | omega) (by first | with_reducible assumption | assumption | omega)) (cwV 0 hts gX11_widen_X11_remember rfl rfl rfl ⟨rfl, hd_X11_remember⟩ ⟨Nat.le_of_ble_eq_true rfl, Nat.le_of_ble_eq_true rfl⟩) ⟨bl_, va_recvX hK.1 hPx (ci := 11) (q0 := 0) rfl rfl, fun U hU hW => ⟨rfl, by rw [hU], by rw [hU]; exact hPc, kk_mv hW hK, hDw⟩⟩ rfl rfl hl.1 rfl (lv_room (Nat.le_of_ble_eq_true rfl)) dB_36_2_38.2.1.2.2 ⟨Nat.le_of_ble_eq_true rfl, Nat.le_of_ble_eq_true rfl⟩) hS (fun q _ h => hFc q h) hFc (fun u t H locs ht hvm hw hB hz1 hk1 hS => ?_)
                    obtain ⟨epf_111, eph_112, epa_113, epv_114, epg_115, epm_116, g_117, g_118, g_119, hP1, hD1⟩ := hB
                    rw [ht] at hP1
                    obtain ⟨hP, hD⟩ := va_joinP (wr := [aq_ cy 3 xk 5 (kf_ k0 k1 k2 k3 k4), ob6_0_ k0, ob5_0_ k1, ob9_0_ k2, ob2_0_ k3, ob8_0_ k4]) (rx := [ob11_0_ xo xk xn xc xh xt xw xm xp epf_111 eph_112 tr fi, ob3_0_ xn vp vn n1 n2 n3 n4 n5, ai_ cy n1 40 fk, ai_ cy n2 40 fs, ai_ cy n3 40 fe, ai_ cy n4 40 fw, ai_ cy n5 40 fp, aq_ cy 5 xp 30 (pst epa_113 epm_116)]) (pl1 := (pool cy epa_113 epv_114 epg_115 epm_116)) hP hD [0, 1, 2, 3, 4, 5, 6, 13] [7, 8, 9, 10, 11, 12] hC_ rfl (by decide) (by decide) hk1 hFc hP1 hD1
                    refine pd_K (([aq_ cy 3 xk 5 (kf_ k0 k1 k2 k3 k4), ob6_0_ k0, ob5_0_ k1, ob9_0_ k2, ob2_0_ k3, ob8_0_ k4, ob11_0_ xo xk xn xc xh xt xw xm xp epf_111 eph_112 tr fi, ob3_0_ xn vp vn n1 n2 n3 n4 n5, ai_ cy n1 40 fk, ai_ cy n2 40 fs, ai_ cy n3 40 fe, ai_ cy n4 40 fw, ai_ cy n5 40 fp, aq_ cy 5 xp 30 (pst epa_113 epm_116)] : va_W) ++ (pool cy epa_113 epv_114 epg_115 epm_116)) hP hD (fun hP hD => ?_)
                    refine pd_P hP hD [ob11_0_ xo xk xn xc xh xt xw xm xp epf_111 eph_112 tr fi, ob3_0_ xn vp vn n1 n2 n3 n4 n5, ai_ cy n1 40 fk, ai_ cy n2 40 fs, ai_ cy n3 40 fe, ai_ cy n4 40 fw, ai_ cy n5 40 fp, aq_ cy 3 xk 5 (kf_ k0 k1 k2 k3 k4), ob6_0_ k0, ob5_0_ k1, ob9_0_ k2, ob2_0_ k3, ob8_0_ k4, aq_ cy 5 xp 30 (pst epa_113 epm_116)] [6, 7, 8, 9, 10, 11, 12, 0, 1, 2, 3, 4, 5, 13] (by decide +kernel) rfl (fun hP hD => ?_)
                    refine lv_aload_n hx hb dB_36_2_38.2.2.1.1 rfl (lv_at hl 2 rfl) ?_
                    refine lv_dup hx hb dB_36_2_38.2.2.1.2 rfl ?_
                    refine va_get (ci := 11) (v := .long tr) (C := RX11) (T := TX11) (N := 12) hx hb hts (fun _ h => List.mem_cons_of_mem _ (List.mem_append_left _ (List.mem_append_right _ h))) hown hK.1 hP 0 rfl rfl 10 (by decide) (hts (.fieldLink RX11 87 "CutAtlas" "traced" "J") (List.mem_of_getElem? (i := 6) rfl)) (fun _ h9 => h9) rfl dB_36_2_38.2.2.2.1 ?_
                    refine lv_aload_n hx hb dB_36_2_38.2.2.2.2 rfl (lv_at hl 1 rfl) ?_
                    have hPx := pp_left hP
                    have hDx := dd_left hD
                    refine ct_R hPx hDx [] [] (by decide) rfl (fun hPc hDw => ?_)
                    have hFc := va_free (wc := []) hD hS hA [] rfl
                    refine va_calli (va_runU (As := []) (rest := [.long tr, .ref xo]) ⟨hx, hb, hml, hown, hts⟩ (c_X2_costsMark l D cy H.size k3) (va_cwO 0 hts gX11_widen_X2_costsMark_u132X2 rfl rfl rfl (b0 := cX6_costsMark) (m0 := 1) (r0 := (some .int)) (by decide +kernel) (by decide +kernel) ⟨Nat.le_of_ble_eq_true rfl, Nat.le_of_ble_eq_true rfl⟩) ⟨bl_, va_recvX hK.1 hPx (ci := 2) (q0 := 11) rfl rfl, fun U hU hW => ⟨rfl, by rw [hU], by rw [hU]; exact hPc, kk_mv hW hK, hDw⟩⟩ rfl rfl hl.1 rfl (lv_room (Nat.le_of_ble_eq_true rfl)) dB_36_2_39.1.1.1.1 ⟨Nat.le_of_ble_eq_true rfl, Nat.le_of_ble_eq_true rfl⟩) hS (fun q _ h => hFc q h) hFc (fun r_120 u t H locs ht hvm hw hB hz1 hk1 hS => ?_)
                    have hP : va_P D vwCl _ H := ro_keep hP hk1
                    refine lv_i2l (v := r_120.toInt64) hx hb dB_36_2_39.1.1.1.2 rfl ?_
                    have q_105 : (r_120.toInt64).toInt = r_120.toInt := Int32.toInt_toInt64 r_120
                    refine lv_ladd hx hb dB_36_2_39.1.1.2.1 ?_
                    refine lv_topl (fun y_121 ey_121 => ?_)
                    refine va_put (ci := 11) (v := .long y_121) (ty := .long) (C := RX11) (T := TX11) (N := 12) hx hb hts (fun _ h => List.mem_cons_of_mem _ (List.mem_append_left _ (List.mem_append_right _ h))) tyX11 tyX11_ok nmX11 hown hK.1 hP hD hS 0 rfl rfl 10 (by decide) (hts (.fieldLink RX11 87 "CutAtlas" "traced" "J") (List.mem_of_getElem? (i := 6) rfl)) (fun _ h9 => h9) rfl (by decide +kernel) rfl rfl (Nat.le_of_ble_eq_true rfl) dB_36_2_39.1.1.2.2 (fun H locs hP hD hS => ?_)
                    refine pd_K (([ob11_0_ xo xk xn xc xh xt xw xm xp epf_111 eph_112 y_121 fi, ob3_0_ xn vp vn n1 n2 n3 n4 n5, ai_ cy n1 40 fk, ai_ cy n2 40 fs, ai_ cy n3 40 fe, ai_ cy n4 40 fw, ai_ cy n5 40 fp, aq_ cy 3 xk 5 (kf_ k0 k1 k2 k3 k4), ob6_0_ k0, ob5_0_ k1, ob9_0_ k2, ob2_0_ k3, ob8_0_ k4, aq_ cy 5 xp 30 (pst epa_113 epm_116)] : va_W) ++ (pool cy epa_113 epv_114 epg_115 epm_116)) hP hD (fun hP hD => ?_)
                    refine lv_aload_n hx hb dB_36_2_39.1.2.1.1 rfl (lv_at hl 2 rfl) ?_
                    refine va_get (ci := 11) (v := .ref xn) (C := RX11) (T := TX11) (N := 12) hx hb hts (fun _ h => List.mem_cons_of_mem _ (List.mem_append_left _ (List.mem_append_right _ h))) hown hK.1 hP 0 rfl rfl 1 (by decide) (hts (.fieldLink RX11 31 "CutAtlas" "net" "LCutAtlas$Net;") (List.mem_of_getElem? (i := 1) rfl)) (fun _ h9 => h9) rfl dB_36_2_39.1.2.1.2 ?_
                    refine va_get (ci := 3) (v := .ref n4) (C := RX3) (T := TX3) (N := 7) hx hb hts (fun _ h => List.mem_cons_of_mem _ (List.mem_append_right _ h)) hown hK.1 hP 1 rfl rfl 5 (by decide) (hts (.fieldLink RX11 129 "CutAtlas$Net" "widths" "[I") (List.mem_of_getElem? (i := 5) rfl)) (fun _ h9 => h9) rfl dB_36_2_39.1.2.2.1 ?_
                    refine lv_iload_n hx hb dB_36_2_39.1.2.2.2 rfl (lv_at hl 3 rfl) ?_
                    refine lv_dup2_11 hx hb dB_36_2_39.2.1.1.1 rfl rfl ?_
                    have h_122 : vp_in a1 40 := in_I (by omega) (by omega)
                    refine va_iald hx hb hK.1 hP 5 0 rfl rfl (i := a1) h_122 dB_36_2_39.2.1.1.2 ?_
                    refine lv_topi (fun y_123 ey_123 => ?_)
                    have e_ := (ey_123.trans ey_107.symm).symm
                    subst e_
                    skip
                    refine lv_iload_n hx hb dB_36_2_39.2.1.2.1 rfl (lv_at hl 4 rfl) ?_
                    refine lv_iadd hx hb dB_36_2_39.2.1.2.2 ?_
                    refine lv_topi (fun y_124 ey_124 => ?_)
                    have e_ := (ey_124.trans ey_108.symm).symm
                    subst e_
                    have h_125 : vp_in a1 40 := in_I (by omega) (by omega)
                    refine va_iast hx hb hK.1 hP hD hS 5 0 rfl rfl (i := a1) h_125 dB_36_2_39.2.2.1.1 (fun H locs hP hD hS => ?_)
                    obtain ⟨f_126, ef_126⟩ : ∃ g : Nat → Int32, g = upd fw a1.toNatClampNeg y_108 := ⟨_, rfl⟩
                    refine pd_K (D := D) (cl := vwCl) (H := H) (A := A) (([ob11_0_ xo xk xn xc xh xt xw xm xp epf_111 eph_112 y_121 fi, ob3_0_ xn vp vn n1 n2 n3 n4 n5, ai_ cy n1 40 fk, ai_ cy n2 40 fs, ai_ cy n3 40 fe, ai_ cy n4 40 f_126, ai_ cy n5 40 fp, aq_ cy 3 xk 5 (kf_ k0 k1 k2 k3 k4), ob6_0_ k0, ob5_0_ k1, ob9_0_ k2, ob2_0_ k3, ob8_0_ k4, aq_ cy 5 xp 30 (pst epa_113 epm_116)] : va_W) ++ (pool cy epa_113 epv_114 epg_115 epm_116)) (by rw [ef_126]; exact hP) (by rw [ef_126]; exact hD) (fun hP hD => ?_)
                    have rf_126 : rng f_126 40 (0) (2000) := by rw [ef_126]; exact rng_upd r_fw (by omega) (by omega)
                    have hnn_ : nok vp vn fk fs fe f_126 fp := ⟨hnk.1, hnk.2.1, hnk.2.2.1, hnk.2.2.2.1, by assumption, hnk.2.2.2.2.2⟩
                    refine lv_iload hx hb dB_36_2_39.2.2.1.2 (lv_at hl 0 rfl) ?_
                    refine lv_iload_n hx hb dB_36_2_39.2.2.2.1 rfl (lv_at hl 4 rfl) ?_
                    refine lv_imul hx hb dB_36_2_39.2.2.2.2 ?_
                    refine lv_topi (fun y_127 ey_127 => ?_)
                    rw [hQ]
                    exact W.iret (v := y_127) hx hb hr (fun t ht hW => ⟨⟨y_127, (), rfl, trivial, epf_111, eph_112, y_121, f_126, epa_113, epv_114, epg_115, epm_116, (by first | exact hnk | exact hnn_), (by assumption), (by first | with_reducible assumption | assumption | (unfold rok; omega)), by rw [ht]; exact hP, hD⟩, hS.F ht⟩) hS.2.2 dB_36_2_40.1.1.1.1
                  · have t_109 : ¬ y_108.toInt ≤ (2000 : Int32).toInt := fun h => c_109 (Int32.le_iff_toInt_le.mpr h)
                    refine lv_bipush (v := (-2)) hx hb dB_36_2_38.2.1.1.1 (by decide) ?_
                    refine W.widen (k := 6) (n := 207) (Nat.le_of_ble_eq_true rfl) (Nat.le_of_ble_eq_true rfl) ?_
                    rw [hQ]
                    exact W.iret (v := (-2)) hx hb hr (fun t ht hW => ⟨⟨(-2), (), rfl, trivial, pf, ph, tr, fw, pa, pv, pg, pm, (by first | exact hnk | exact hnn_), (by assumption), (by first | with_reducible assumption | assumption | (unfold rok; omega)), by rw [ht]; exact hP, hD⟩, hS.F ht⟩) hS.2.2 dB_36_2_38.2.1.1.2
          · refine va_aldq hx hb hK.1 hP 7 3 rfl rfl (i := 4) (by unfold vp_in; decide) dB_36_2_36.2.2.1.2 ?_
            refine lv_topv (v' := .ref k4) (by simp [va_up, va_rf, mf_, cl_0, cl_1, cl_2, cl_3, cl_4, kf_]) ?_
            refine lv_astore_n (lv' := [(3, .ref k4), (0, .ref xo), (1, .int a1), (2, .int a2)]) hx hb dB_36_2_36.2.2.2.1 rfl hl (by decide) rfl (fun ls hl => ?_)
            refine lv_aload_n hx hb dB_36_2_36.2.2.2.2 rfl (lv_at hl 0 rfl) ?_
            refine lv_aload_n hx hb dB_36_2_37.1.1.1.1 rfl (lv_at hl 1 rfl) ?_
            refine va_get (ci := 11) (v := .ref xn) (C := RX11) (T := TX11) (N := 12) hx hb hts (fun _ h => List.mem_cons_of_mem _ (List.mem_append_left _ (List.mem_append_right _ h))) hown hK.1 hP 0 rfl rfl 1 (by decide) (hts (.fieldLink RX11 31 "CutAtlas" "net" "LCutAtlas$Net;") (List.mem_of_getElem? (i := 1) rfl)) (fun _ h9 => h9) rfl dB_36_2_37.1.1.1.2 ?_
            refine va_get (ci := 3) (v := .ref n5) (C := RX3) (T := TX3) (N := 7) hx hb hts (fun _ h => List.mem_cons_of_mem _ (List.mem_append_right _ h)) hown hK.1 hP 1 rfl rfl 6 (by decide) (hts (.fieldLink RX11 119 "CutAtlas$Net" "prices" "[I") (List.mem_of_getElem? (i := 4) rfl)) (fun _ h9 => h9) rfl dB_36_2_37.1.1.2.1 ?_
            refine lv_iload_n hx hb dB_36_2_37.1.1.2.2 rfl (lv_at hl 2 rfl) ?_
            have h_128 : vp_in a1 40 := in_I (by omega) (by omega)
            refine va_iald hx hb hK.1 hP 6 0 rfl rfl (i := a1) h_128 dB_36_2_37.1.2.1.1 ?_
            refine lv_topi (fun y_129 ey_129 => ?_)
            have ky_129 : y_129.toInt = (fp a1.toNatClampNeg).toInt := by rw [ey_129]
            have ry_129 : 0 ≤ y_129.toInt ∧ y_129.toInt ≤ 100 := by rw [ey_129]; exact r_fp _ (in_lt h_128)
            have hPx := pp_left hP
            have hDx := dd_left hD
            refine ct_R hPx hDx [ob8_0_ k4] [12] (by decide) rfl (fun hPc hDw => ?_)
            have hFc := va_free (wc := []) hD hS hA [] rfl
            refine va_calli (va_runU (As := [.int y_129]) (rest := []) ⟨hx, hb, hml, hown, hts⟩ (c_X8_costs l D cy H.size k4 y_129) (va_cwO 1 hts gX11_widen_X8_costs_u122X8 rfl rfl rfl (b0 := cX6_costs) (m0 := 2) (r0 := (some .int)) (by decide +kernel) (by decide +kernel) ⟨Nat.le_of_ble_eq_true rfl, Nat.le_of_ble_eq_true rfl⟩) ⟨bl_, va_recvX hK.1 hPx (ci := 8) (q0 := 12) rfl rfl, fun U hU hW => ⟨rfl, by rw [hU], by rw [hU]; exact hPc, kk_mv hW hK, hDw⟩⟩ rfl rfl hl.1 rfl (lv_room (Nat.le_of_ble_eq_true rfl)) dB_36_2_37.1.2.1.2 ⟨Nat.le_of_ble_eq_true rfl, Nat.le_of_ble_eq_true rfl⟩) hS (fun q _ h => hFc q h) hFc (fun r_130 u t H locs ht hvm hw hB hz1 hk1 hS => ?_)
            have hP : va_P D vwCl _ H := ro_keep hP hk1
            refine lv_istore (lv' := [(4, .int r_130), (3, .ref k4), (0, .ref xo), (1, .int a1), (2, .int a2)]) hx hb dB_36_2_37.1.2.2.1 hl (by decide) rfl (fun ls hl => ?_)
            refine lv_iload hx hb dB_36_2_37.1.2.2.2 (lv_at hl 0 rfl) ?_
            refine lv_bipush (v := (-9)) hx hb dB_36_2_37.2.1.1.1 (by decide) ?_
            refine lv_icmp_eq (tgt := 89) hx hb dB_36_2_37.2.1.1.2 (by decide) (fun c_131 => ?_) (fun c_131 => ?_)
            · have t_131 : r_130.toInt = ((-9) : Int32).toInt := congrArg Int32.toInt c_131
              refine lv_bipush (v := (-2)) hx hb dB_36_2_38.2.1.1.1 (by decide) ?_
              refine W.widen (k := 6) (n := 207) (Nat.le_of_ble_eq_true rfl) (Nat.le_of_ble_eq_true rfl) ?_
              rw [hQ]
              exact W.iret (v := (-2)) hx hb hr (fun t ht hW => ⟨⟨(-2), (), rfl, trivial, pf, ph, tr, fw, pa, pv, pg, pm, (by first | exact hnk | exact hnn_), (by assumption), (by first | with_reducible assumption | assumption | (unfold rok; omega)), by rw [ht]; exact hP, hD⟩, hS.F ht⟩) hS.2.2 dB_36_2_38.2.1.1.2
            · have t_131 : ¬ r_130.toInt = ((-9) : Int32).toInt := fun h => c_131 (Int32.toInt_inj.mp h)
              refine lv_aload_n hx hb dB_36_2_37.2.1.2.1 rfl (lv_at hl 2 rfl) ?_
              refine va_get (ci := 11) (v := .ref xn) (C := RX11) (T := TX11) (N := 12) hx hb hts (fun _ h => List.mem_cons_of_mem _ (List.mem_append_left _ (List.mem_append_right _ h))) hown hK.1 hP 0 rfl rfl 1 (by decide) (hts (.fieldLink RX11 31 "CutAtlas" "net" "LCutAtlas$Net;") (List.mem_of_getElem? (i := 1) rfl)) (fun _ h9 => h9) rfl dB_36_2_37.2.1.2.2 ?_
              refine lv_iload_n hx hb dB_36_2_37.2.2.1.1 rfl (lv_at hl 3 rfl) ?_
              have hPx := pp_left hP
              have hDx := dd_left hD
              refine ct_R hPx hDx [ob3_0_ xn vp vn n1 n2 n3 n4 n5, ai_ cy n2 40 fs] [1, 3] (by decide) rfl (fun hPc hDw => ?_)
              have hFc := va_free (wc := []) hD hS hA [] rfl
              refine va_calli (va_runV (As := [.int a1]) (rest := []) ⟨hx, hb, hml, hown, hts⟩ (c_X3_isMissing l D cy H.size xn n1 n2 n3 n4 n5 vp vn fs a1 (by first | with_reducible assumption | omega | assumption)) (cwV 1 hts gX11_widen_X3_isMissing rfl rfl rfl ⟨rfl, hd_X3_isMissing⟩ ⟨Nat.le_of_ble_eq_true rfl, Nat.le_of_ble_eq_true rfl⟩) ⟨bl_, va_recvX hK.1 hPx (ci := 3) (q0 := 1) rfl rfl, fun U hU hW => ⟨rfl, by rw [hU], by rw [hU]; exact hPc, kk_mv hW hK, hDw⟩⟩ rfl rfl hl.1 rfl (lv_room (Nat.le_of_ble_eq_true rfl)) dB_36_2_37.2.2.1.2 ⟨Nat.le_of_ble_eq_true rfl, Nat.le_of_ble_eq_true rfl⟩) hS (fun q _ h => hFc q h) hFc (fun r_132 u t H locs ht hvm hw hB hz1 hk1 hS => ?_)
              have hP : va_P D vwCl _ H := ro_keep hP hk1
              rcases hw with ⟨w_133, e_⟩ | ⟨w_133, e_⟩
              · have e_ := e_.symm
                subst e_
                refine lv_if_ne (tgt := 89) hx hb dB_36_2_37.2.2.2.1 (by decide) (fun c_134 => ?_) (fun c_134 => ?_)
                · have _ := c_134
                  refine lv_bipush (v := (-2)) hx hb dB_36_2_38.2.1.1.1 (by decide) ?_
                  refine W.widen (k := 6) (n := 207) (Nat.le_of_ble_eq_true rfl) (Nat.le_of_ble_eq_true rfl) ?_
                  rw [hQ]
                  exact W.iret (v := (-2)) hx hb hr (fun t ht hW => ⟨⟨(-2), (), rfl, trivial, pf, ph, tr, fw, pa, pv, pg, pm, (by first | exact hnk | exact hnn_), (by assumption), (by first | with_reducible assumption | assumption | (unfold rok; omega)), by rw [ht]; exact hP, hD⟩, hS.F ht⟩) hS.2.2 dB_36_2_38.2.1.1.2
                · exact absurd c_134 (by decide)
              · have e_ := e_.symm
                subst e_
                refine lv_if_ne (tgt := 89) hx hb dB_36_2_37.2.2.2.1 (by decide) (fun c_135 => ?_) (fun c_135 => ?_)
                · exact absurd c_135 (by decide)
                · have _ := c_135
                  refine lv_aload_n hx hb dB_36_2_37.2.2.2.2 rfl (lv_at hl 2 rfl) ?_
                  refine va_get (ci := 11) (v := .ref xn) (C := RX11) (T := TX11) (N := 12) hx hb hts (fun _ h => List.mem_cons_of_mem _ (List.mem_append_left _ (List.mem_append_right _ h))) hown hK.1 hP 0 rfl rfl 1 (by decide) (hts (.fieldLink RX11 31 "CutAtlas" "net" "LCutAtlas$Net;") (List.mem_of_getElem? (i := 1) rfl)) (fun _ h9 => h9) rfl dB_36_2_38.1.1.1.1 ?_
                  refine va_get (ci := 3) (v := .ref n4) (C := RX3) (T := TX3) (N := 7) hx hb hts (fun _ h => List.mem_cons_of_mem _ (List.mem_append_right _ h)) hown hK.1 hP 1 rfl rfl 5 (by decide) (hts (.fieldLink RX11 129 "CutAtlas$Net" "widths" "[I") (List.mem_of_getElem? (i := 5) rfl)) (fun _ h9 => h9) rfl dB_36_2_38.1.1.1.2 ?_
                  refine lv_iload_n hx hb dB_36_2_38.1.1.2.1 rfl (lv_at hl 3 rfl) ?_
                  have h_136 : vp_in a1 40 := in_I (by omega) (by omega)
                  refine va_iald hx hb hK.1 hP 5 0 rfl rfl (i := a1) h_136 dB_36_2_38.1.1.2.2 ?_
                  refine lv_topi (fun y_137 ey_137 => ?_)
                  have ky_137 : y_137.toInt = (fw a1.toNatClampNeg).toInt := by rw [ey_137]
                  have ry_137 : 0 ≤ y_137.toInt ∧ y_137.toInt ≤ 2000 := by rw [ey_137]; exact r_fw _ (in_lt h_136)
                  refine lv_iload_n hx hb dB_36_2_38.1.2.1.1 rfl (lv_at hl 4 rfl) ?_
                  refine lv_iadd hx hb dB_36_2_38.1.2.1.2 ?_
                  refine lv_topi (fun y_138 ey_138 => ?_)
                  have ty_138 : y_138.toInt = y_137.toInt + a2.toInt := by rw [ey_138]; exact addI (by omega) (by omega)
                  refine lv_sipush (v := 2000) hx hb dB_36_2_38.1.2.2.1 (by decide) ?_
                  refine lv_icmp_le (tgt := 92) hx hb dB_36_2_38.1.2.2.2 (by decide) (fun c_139 => ?_) (fun c_139 => ?_)
                  · have t_139 : y_138.toInt ≤ (2000 : Int32).toInt := Int32.le_iff_toInt_le.mp c_139
                    refine lv_aload_n hx hb dB_36_2_38.2.1.2.1 rfl (lv_at hl 2 rfl) ?_
                    refine ct_P hP hD hS hA [ob11_0_ xo xk xn xc xh xt xw xm xp pf ph tr fi, ob3_0_ xn vp vn n1 n2 n3 n4 n5, ai_ cy n1 40 fk, ai_ cy n2 40 fs, ai_ cy n3 40 fe, ai_ cy n4 40 fw, ai_ cy n5 40 fp, aq_ cy 5 xp 30 (pst pa pm)] [0, 1, 2, 3, 4, 5, 6, 13] (by decide) rfl (fun hPc hDw hFc hC_ => ?_)
                    have hPx := pp_left hP
                    refine va_callv (va_runV (As := []) (rest := []) ⟨hx, hb, hml, hown, hts⟩ (c_X11_remember l D cy H.size xo xk xn xc xh xt xw xm xp pf ph tr fi n1 n2 n3 n4 n5 vp vn fk fs fe fw fp pa pv pg pm (by first | with_reducible assumption | assumption | omega) (by first | with_reducible assumption | assumption | omega) (by first | with_reducible assumption | assumption | omega) (by first | with_reducible assumption | assumption | omega) (by first | with_reducible assumption | assumption | omega) (by first | with_reducible assumption | assumption | omega) (by first | with_reducible assumption | assumption | omega)) (cwV 0 hts gX11_widen_X11_remember rfl rfl rfl ⟨rfl, hd_X11_remember⟩ ⟨Nat.le_of_ble_eq_true rfl, Nat.le_of_ble_eq_true rfl⟩) ⟨bl_, va_recvX hK.1 hPx (ci := 11) (q0 := 0) rfl rfl, fun U hU hW => ⟨rfl, by rw [hU], by rw [hU]; exact hPc, kk_mv hW hK, hDw⟩⟩ rfl rfl hl.1 rfl (lv_room (Nat.le_of_ble_eq_true rfl)) dB_36_2_38.2.1.2.2 ⟨Nat.le_of_ble_eq_true rfl, Nat.le_of_ble_eq_true rfl⟩) hS (fun q _ h => hFc q h) hFc (fun u t H locs ht hvm hw hB hz1 hk1 hS => ?_)
                    obtain ⟨epf_141, eph_142, epa_143, epv_144, epg_145, epm_146, g_147, g_148, g_149, hP1, hD1⟩ := hB
                    rw [ht] at hP1
                    obtain ⟨hP, hD⟩ := va_joinP (wr := [aq_ cy 3 xk 5 (kf_ k0 k1 k2 k3 k4), ob6_0_ k0, ob5_0_ k1, ob9_0_ k2, ob2_0_ k3, ob8_0_ k4]) (rx := [ob11_0_ xo xk xn xc xh xt xw xm xp epf_141 eph_142 tr fi, ob3_0_ xn vp vn n1 n2 n3 n4 n5, ai_ cy n1 40 fk, ai_ cy n2 40 fs, ai_ cy n3 40 fe, ai_ cy n4 40 fw, ai_ cy n5 40 fp, aq_ cy 5 xp 30 (pst epa_143 epm_146)]) (pl1 := (pool cy epa_143 epv_144 epg_145 epm_146)) hP hD [0, 1, 2, 3, 4, 5, 6, 13] [7, 8, 9, 10, 11, 12] hC_ rfl (by decide) (by decide) hk1 hFc hP1 hD1
                    refine pd_K (([aq_ cy 3 xk 5 (kf_ k0 k1 k2 k3 k4), ob6_0_ k0, ob5_0_ k1, ob9_0_ k2, ob2_0_ k3, ob8_0_ k4, ob11_0_ xo xk xn xc xh xt xw xm xp epf_141 eph_142 tr fi, ob3_0_ xn vp vn n1 n2 n3 n4 n5, ai_ cy n1 40 fk, ai_ cy n2 40 fs, ai_ cy n3 40 fe, ai_ cy n4 40 fw, ai_ cy n5 40 fp, aq_ cy 5 xp 30 (pst epa_143 epm_146)] : va_W) ++ (pool cy epa_143 epv_144 epg_145 epm_146)) hP hD (fun hP hD => ?_)
                    refine pd_P hP hD [ob11_0_ xo xk xn xc xh xt xw xm xp epf_141 eph_142 tr fi, ob3_0_ xn vp vn n1 n2 n3 n4 n5, ai_ cy n1 40 fk, ai_ cy n2 40 fs, ai_ cy n3 40 fe, ai_ cy n4 40 fw, ai_ cy n5 40 fp, aq_ cy 3 xk 5 (kf_ k0 k1 k2 k3 k4), ob6_0_ k0, ob5_0_ k1, ob9_0_ k2, ob2_0_ k3, ob8_0_ k4, aq_ cy 5 xp 30 (pst epa_143 epm_146)] [6, 7, 8, 9, 10, 11, 12, 0, 1, 2, 3, 4, 5, 13] (by decide +kernel) rfl (fun hP hD => ?_)
                    refine lv_aload_n hx hb dB_36_2_38.2.2.1.1 rfl (lv_at hl 2 rfl) ?_
                    refine lv_dup hx hb dB_36_2_38.2.2.1.2 rfl ?_
                    refine va_get (ci := 11) (v := .long tr) (C := RX11) (T := TX11) (N := 12) hx hb hts (fun _ h => List.mem_cons_of_mem _ (List.mem_append_left _ (List.mem_append_right _ h))) hown hK.1 hP 0 rfl rfl 10 (by decide) (hts (.fieldLink RX11 87 "CutAtlas" "traced" "J") (List.mem_of_getElem? (i := 6) rfl)) (fun _ h9 => h9) rfl dB_36_2_38.2.2.2.1 ?_
                    refine lv_aload_n hx hb dB_36_2_38.2.2.2.2 rfl (lv_at hl 1 rfl) ?_
                    have hPx := pp_left hP
                    have hDx := dd_left hD
                    refine ct_R hPx hDx [ob8_0_ k4] [12] (by decide) rfl (fun hPc hDw => ?_)
                    have hFc := va_free (wc := []) hD hS hA [] rfl
                    refine va_calli (va_runU (As := []) (rest := [.long tr, .ref xo]) ⟨hx, hb, hml, hown, hts⟩ (c_X8_costsMark l D cy H.size k4) (va_cwO 0 hts gX11_widen_X8_costsMark_u132X8 rfl rfl rfl (b0 := cX6_costsMark) (m0 := 1) (r0 := (some .int)) (by decide +kernel) (by decide +kernel) ⟨Nat.le_of_ble_eq_true rfl, Nat.le_of_ble_eq_true rfl⟩) ⟨bl_, va_recvX hK.1 hPx (ci := 8) (q0 := 12) rfl rfl, fun U hU hW => ⟨rfl, by rw [hU], by rw [hU]; exact hPc, kk_mv hW hK, hDw⟩⟩ rfl rfl hl.1 rfl (lv_room (Nat.le_of_ble_eq_true rfl)) dB_36_2_39.1.1.1.1 ⟨Nat.le_of_ble_eq_true rfl, Nat.le_of_ble_eq_true rfl⟩) hS (fun q _ h => hFc q h) hFc (fun r_150 u t H locs ht hvm hw hB hz1 hk1 hS => ?_)
                    have hP : va_P D vwCl _ H := ro_keep hP hk1
                    refine lv_i2l (v := r_150.toInt64) hx hb dB_36_2_39.1.1.1.2 rfl ?_
                    have q_105 : (r_150.toInt64).toInt = r_150.toInt := Int32.toInt_toInt64 r_150
                    refine lv_ladd hx hb dB_36_2_39.1.1.2.1 ?_
                    refine lv_topl (fun y_151 ey_151 => ?_)
                    refine va_put (ci := 11) (v := .long y_151) (ty := .long) (C := RX11) (T := TX11) (N := 12) hx hb hts (fun _ h => List.mem_cons_of_mem _ (List.mem_append_left _ (List.mem_append_right _ h))) tyX11 tyX11_ok nmX11 hown hK.1 hP hD hS 0 rfl rfl 10 (by decide) (hts (.fieldLink RX11 87 "CutAtlas" "traced" "J") (List.mem_of_getElem? (i := 6) rfl)) (fun _ h9 => h9) rfl (by decide +kernel) rfl rfl (Nat.le_of_ble_eq_true rfl) dB_36_2_39.1.1.2.2 (fun H locs hP hD hS => ?_)
                    refine pd_K (([ob11_0_ xo xk xn xc xh xt xw xm xp epf_141 eph_142 y_151 fi, ob3_0_ xn vp vn n1 n2 n3 n4 n5, ai_ cy n1 40 fk, ai_ cy n2 40 fs, ai_ cy n3 40 fe, ai_ cy n4 40 fw, ai_ cy n5 40 fp, aq_ cy 3 xk 5 (kf_ k0 k1 k2 k3 k4), ob6_0_ k0, ob5_0_ k1, ob9_0_ k2, ob2_0_ k3, ob8_0_ k4, aq_ cy 5 xp 30 (pst epa_143 epm_146)] : va_W) ++ (pool cy epa_143 epv_144 epg_145 epm_146)) hP hD (fun hP hD => ?_)
                    refine lv_aload_n hx hb dB_36_2_39.1.2.1.1 rfl (lv_at hl 2 rfl) ?_
                    refine va_get (ci := 11) (v := .ref xn) (C := RX11) (T := TX11) (N := 12) hx hb hts (fun _ h => List.mem_cons_of_mem _ (List.mem_append_left _ (List.mem_append_right _ h))) hown hK.1 hP 0 rfl rfl 1 (by decide) (hts (.fieldLink RX11 31 "CutAtlas" "net" "LCutAtlas$Net;") (List.mem_of_getElem? (i := 1) rfl)) (fun _ h9 => h9) rfl dB_36_2_39.1.2.1.2 ?_
                    refine va_get (ci := 3) (v := .ref n4) (C := RX3) (T := TX3) (N := 7) hx hb hts (fun _ h => List.mem_cons_of_mem _ (List.mem_append_right _ h)) hown hK.1 hP 1 rfl rfl 5 (by decide) (hts (.fieldLink RX11 129 "CutAtlas$Net" "widths" "[I") (List.mem_of_getElem? (i := 5) rfl)) (fun _ h9 => h9) rfl dB_36_2_39.1.2.2.1 ?_
                    refine lv_iload_n hx hb dB_36_2_39.1.2.2.2 rfl (lv_at hl 3 rfl) ?_
                    refine lv_dup2_11 hx hb dB_36_2_39.2.1.1.1 rfl rfl ?_
                    have h_152 : vp_in a1 40 := in_I (by omega) (by omega)
                    refine va_iald hx hb hK.1 hP 5 0 rfl rfl (i := a1) h_152 dB_36_2_39.2.1.1.2 ?_
                    refine lv_topi (fun y_153 ey_153 => ?_)
                    have e_ := (ey_153.trans ey_137.symm).symm
                    subst e_
                    skip
                    refine lv_iload_n hx hb dB_36_2_39.2.1.2.1 rfl (lv_at hl 4 rfl) ?_
                    refine lv_iadd hx hb dB_36_2_39.2.1.2.2 ?_
                    refine lv_topi (fun y_154 ey_154 => ?_)
                    have e_ := (ey_154.trans ey_138.symm).symm
                    subst e_
                    have h_155 : vp_in a1 40 := in_I (by omega) (by omega)
                    refine va_iast hx hb hK.1 hP hD hS 5 0 rfl rfl (i := a1) h_155 dB_36_2_39.2.2.1.1 (fun H locs hP hD hS => ?_)
                    obtain ⟨f_156, ef_156⟩ : ∃ g : Nat → Int32, g = upd fw a1.toNatClampNeg y_138 := ⟨_, rfl⟩
                    refine pd_K (D := D) (cl := vwCl) (H := H) (A := A) (([ob11_0_ xo xk xn xc xh xt xw xm xp epf_141 eph_142 y_151 fi, ob3_0_ xn vp vn n1 n2 n3 n4 n5, ai_ cy n1 40 fk, ai_ cy n2 40 fs, ai_ cy n3 40 fe, ai_ cy n4 40 f_156, ai_ cy n5 40 fp, aq_ cy 3 xk 5 (kf_ k0 k1 k2 k3 k4), ob6_0_ k0, ob5_0_ k1, ob9_0_ k2, ob2_0_ k3, ob8_0_ k4, aq_ cy 5 xp 30 (pst epa_143 epm_146)] : va_W) ++ (pool cy epa_143 epv_144 epg_145 epm_146)) (by rw [ef_156]; exact hP) (by rw [ef_156]; exact hD) (fun hP hD => ?_)
                    have rf_156 : rng f_156 40 (0) (2000) := by rw [ef_156]; exact rng_upd r_fw (by omega) (by omega)
                    have hnn_ : nok vp vn fk fs fe f_156 fp := ⟨hnk.1, hnk.2.1, hnk.2.2.1, hnk.2.2.2.1, by assumption, hnk.2.2.2.2.2⟩
                    refine lv_iload hx hb dB_36_2_39.2.2.1.2 (lv_at hl 0 rfl) ?_
                    refine lv_iload_n hx hb dB_36_2_39.2.2.2.1 rfl (lv_at hl 4 rfl) ?_
                    refine lv_imul hx hb dB_36_2_39.2.2.2.2 ?_
                    refine lv_topi (fun y_157 ey_157 => ?_)
                    rw [hQ]
                    exact W.iret (v := y_157) hx hb hr (fun t ht hW => ⟨⟨y_157, (), rfl, trivial, epf_141, eph_142, y_151, f_156, epa_143, epv_144, epg_145, epm_146, (by first | exact hnk | exact hnn_), (by assumption), (by first | with_reducible assumption | assumption | (unfold rok; omega)), by rw [ht]; exact hP, hD⟩, hS.F ht⟩) hS.2.2 dB_36_2_40.1.1.1.1
                  · have t_139 : ¬ y_138.toInt ≤ (2000 : Int32).toInt := fun h => c_139 (Int32.le_iff_toInt_le.mpr h)
                    refine lv_bipush (v := (-2)) hx hb dB_36_2_38.2.1.1.1 (by decide) ?_
                    refine W.widen (k := 6) (n := 207) (Nat.le_of_ble_eq_true rfl) (Nat.le_of_ble_eq_true rfl) ?_
                    rw [hQ]
                    exact W.iret (v := (-2)) hx hb hr (fun t ht hW => ⟨⟨(-2), (), rfl, trivial, pf, ph, tr, fw, pa, pv, pg, pm, (by first | exact hnk | exact hnn_), (by assumption), (by first | with_reducible assumption | assumption | (unfold rok; omega)), by rw [ht]; exact hP, hD⟩, hS.F ht⟩) hS.2.2 dB_36_2_38.2.1.1.2
        · have t_5 : ¬ a2.toInt ≤ (1000 : Int32).toInt := fun h => c_5 (Int32.le_iff_toInt_le.mpr h)
          refine lv_iconst (v := (-1)) hx hb dB_36_2_36.1.2.1.1 (by decide) ?_
          refine W.widen (k := 6) (n := 207) (Nat.le_of_ble_eq_true rfl) (Nat.le_of_ble_eq_true rfl) ?_
          rw [hQ]
          exact W.iret (v := (-1)) hx hb hr (fun t ht hW => ⟨⟨(-1), (), rfl, trivial, pf, ph, tr, fw, pa, pv, pg, pm, (by first | exact hnk | exact hnn_), (by assumption), (by first | with_reducible assumption | assumption | (unfold rok; omega)), by rw [ht]; exact hP, hD⟩, hS.F ht⟩) hS.2.2 dB_36_2_36.1.2.1.2
  · have e_ := e_.symm
    subst e_
    refine lv_if_eq (tgt := 22) hx hb dB_36_2_35.2.2.2.1 (by decide) (fun c_158 => ?_) (fun c_158 => ?_)
    · have _ := c_158
      refine lv_iconst (v := (-1)) hx hb dB_36_2_36.1.2.1.1 (by decide) ?_
      refine W.widen (k := 6) (n := 207) (Nat.le_of_ble_eq_true rfl) (Nat.le_of_ble_eq_true rfl) ?_
      rw [hQ]
      exact W.iret (v := (-1)) hx hb hr (fun t ht hW => ⟨⟨(-1), (), rfl, trivial, pf, ph, tr, fw, pa, pv, pg, pm, (by first | exact hnk | exact hnn_), (by assumption), (by first | with_reducible assumption | assumption | (unfold rok; omega)), by rw [ht]; exact hP, hD⟩, hS.F ht⟩) hS.2.2 dB_36_2_36.1.2.1.2
    · exact absurd c_158 (by decide)

set_option maxHeartbeats 4000000 in
set_option maxRecDepth 100000 in
theorem c_X11_width (l : Launch) (D : va_G) (cy : Nat → ClassId) (sz : Nat) (xo : Nat) (xk : Nat) (xn : Nat) (xc : Nat) (xh : Nat) (xt : Nat) (xw : Nat) (xm : Nat) (xp : Nat) (pf : Int32) (ph : Int32) (tr : Int64) (fi : Int32) (n1 : Nat) (n2 : Nat) (n3 : Nat) (n4 : Nat) (n5 : Nat) (vp : Int32) (vn : Int32) (fk : Nat → Int32) (fs : Nat → Int32) (fe : Nat → Int32) (fw : Nat → Int32) (fp : Nat → Int32) (pa : Nat → Nat → Nat) (pv : Nat → Nat → Int32) (pg : Nat → Nat → Nat → Int32) (pm : Nat) (a1 : Int32) (a2 : Int32) (hnk : nok vp vn fk fs fe fw fp) (hpk : pok pv pg pm) (hrk : rok pf ph pm) (hpr : prng fs fe 40) (r_fk : rng fk 40 (0) (4)) (r_fw : rng fw 40 (0) (2000)) (r_fp : rng fp 40 (0) (100)) : Met l yX11_width wsX11_width ({ frames := 3, cells := 6, slots := 207, locals := 82 }) (va_Pc [.ref xo, .int a1, .int a2] (fun U => U.heap.size = sz ∧ va_P D vwCl (([ob11_0_ xo xk xn xc xh xt xw xm xp pf ph tr fi, ob3_0_ xn vp vn n1 n2 n3 n4 n5, ai_ cy n1 40 fk, ai_ cy n2 40 fs, ai_ cy n3 40 fe, ai_ cy n4 40 fw, ai_ cy n5 40 fp, aq_ cy 5 xp 30 (pst pa pm)] : va_W) ++ (pool cy pa pv pg pm)) U.heap ∧ kk_ D cy U ∧ va_D (fun _ => True) (([ob11_0_ xo xk xn xc xh xt xw xm xp pf ph tr fi, ob3_0_ xn vp vn n1 n2 n3 n4 n5, ai_ cy n1 40 fk, ai_ cy n2 40 fs, ai_ cy n3 40 fe, ai_ cy n4 40 fw, ai_ cy n5 40 fp, aq_ cy 5 xp 30 (pst pa pm)] : va_W) ++ (pool cy pa pv pg pm)))) (va_Qi (fun (r : Int32) (_ : Unit) => True) (fun (_ : Unit) (t : State) => ∃ (epf : Int32), ∃ (eph : Int32), ∃ (efw : Nat → Int32), ∃ (epa : Nat → Nat → Nat), ∃ (epv : Nat → Nat → Int32), ∃ (epg : Nat → Nat → Nat → Int32), ∃ (epm : Nat), (nok vp vn fk fs fe efw fp) ∧ (pok epv epg epm) ∧ (rok epf eph epm) ∧ va_P D vwCl (([ob11_0_ xo xk xn xc xh xt xw xm xp epf eph tr fi, ob3_0_ xn vp vn n1 n2 n3 n4 n5, ai_ cy n1 40 fk, ai_ cy n2 40 fs, ai_ cy n3 40 fe, ai_ cy n4 40 efw, ai_ cy n5 40 fp, aq_ cy 5 xp 30 (pst epa epm)] : va_W) ++ (pool cy epa epv epg epm)) t.heap ∧ va_D (va_A (([ob11_0_ xo xk xn xc xh xt xw xm xp pf ph tr fi, ob3_0_ xn vp vn n1 n2 n3 n4 n5, ai_ cy n1 40 fk, ai_ cy n2 40 fs, ai_ cy n3 40 fe, ai_ cy n4 40 fw, ai_ cy n5 40 fp, aq_ cy 5 xp 30 (pst pa pm)] : va_W) ++ (pool cy pa pv pg pm)) sz) (([ob11_0_ xo xk xn xc xh xt xw xm xp epf eph tr fi, ob3_0_ xn vp vn n1 n2 n3 n4 n5, ai_ cy n1 40 fk, ai_ cy n2 40 fs, ai_ cy n3 40 fe, ai_ cy n4 40 efw, ai_ cy n5 40 fp, aq_ cy 5 xp 30 (pst epa epm)] : va_W) ++ (pool cy epa epv epg epm))) (va_A (([ob11_0_ xo xk xn xc xh xt xw xm xp pf ph tr fi, ob3_0_ xn vp vn n1 n2 n3 n4 n5, ai_ cy n1 40 fk, ai_ cy n2 40 fs, ai_ cy n3 40 fe, ai_ cy n4 40 fw, ai_ cy n5 40 fp, aq_ cy 5 xp 30 (pst pa pm)] : va_W) ++ (pool cy pa pv pg pm)) sz)) 6 207 (va_A (([ob11_0_ xo xk xn xc xh xt xw xm xp pf ph tr fi, ob3_0_ xn vp vn n1 n2 n3 n4 n5, ai_ cy n1 40 fk, ai_ cy n2 40 fs, ai_ cy n3 40 fe, ai_ cy n4 40 fw, ai_ cy n5 40 fp, aq_ cy 5 xp 30 (pst pa pm)] : va_W) ++ (pool cy pa pv pg pm)) sz) := by
  refine ofQ (cc := cX11_width) (maxL := 4) (ret := (some .int)) (by decide) rfl ?_
  intro p e s m args below meth c s₁ Q hQ B hml hv
  obtain ⟨rfl, hsz, hP, hK, hD0⟩ := hv
  have hx := B.exec
  have hb := B.bytes
  have hr := B.returns
  have hts := atoms_spec (ws := wsX11_width) B.pre
  have hown : s.vm.findClass RX11 = some m.cls := by have h_ := findClass_of_methodNamed B.named; exact h_
  have hlocks := B.notSynchronized
  subst hsz
  have hD := hD0.self (sz := s.heap.size)
  generalize hAe : va_A (([ob11_0_ xo xk xn xc xh xt xw xm xp pf ph tr fi, ob3_0_ xn vp vn n1 n2 n3 n4 n5, ai_ cy n1 40 fk, ai_ cy n2 40 fs, ai_ cy n3 40 fe, ai_ cy n4 40 fw, ai_ cy n5 40 fp, aq_ cy 5 xp 30 (pst pa pm)] : va_W) ++ (pool cy pa pv pg pm)) s.heap.size = A at hD hQ
  have hA : ∀ q : Nat, s.heap.size ≤ q → A q := fun q h => by rw [← hAe]; exact Or.inr h
  have hS : va_S A s.heap s.heap [] := va_S.rf
  have hl := lv_entry ([.ref xo, .int a1, .int a2]) (n := 4) (Nat.le_of_ble_eq_true rfl)
  rw [lg_entry_eq]
  generalize (lg_sl ([.ref xo, .int a1, .int a2]) ++ List.replicate (4 - (lg_sl ([.ref xo, .int a1, .int a2])).length) Slot.unset).toArray = ls at hl ⊢
  have hl : lv_has ls 4 [(0, .ref xo), (1, .int a1), (2, .int a2)] := hl
  have zm2 : ((-2) : Int32).toInt = -2 := by decide
  have zm1 : ((-1) : Int32).toInt = -1 := by decide
  have z0 : (0 : Int32).toInt = 0 := by decide
  have z1000 : (1000 : Int32).toInt = 1000 := by decide
  have hvp := hnk.1
  have hvn := hnk.2.1
  have hr_ := hrk
  unfold rok at hr_
  refine lv_aload_n hx hb dB_36_2_40.1.1.1.2 rfl (lv_at hl 0 rfl) ?_
  refine va_get (ci := 11) (v := .ref xn) (C := RX11) (T := TX11) (N := 12) hx hb hts (fun _ h => List.mem_cons_of_mem _ (List.mem_append_left _ (List.mem_append_right _ h))) hown hK.1 hP 0 rfl rfl 1 (by decide) (hts (.fieldLink RX11 31 "CutAtlas" "net" "LCutAtlas$Net;") (List.mem_of_getElem? (i := 1) rfl)) (fun _ h9 => h9) rfl dB_36_2_40.1.1.2.1 ?_
  refine lv_iload_n hx hb dB_36_2_40.1.1.2.2 rfl (lv_at hl 1 rfl) ?_
  have hPx := pp_left hP
  have hDx := dd_left hD
  refine ct_R hPx hDx [ob3_0_ xn vp vn n1 n2 n3 n4 n5] [1] (by decide) rfl (fun hPc hDw => ?_)
  have hFc := va_free (wc := []) hD hS hA [] rfl
  refine va_calli (va_runV (As := [.int a1]) (rest := []) ⟨hx, hb, hml, hown, hts⟩ (c_X3_hasLine l D cy s.heap.size xn n1 n2 n3 n4 n5 vp vn a1) (cwV 1 hts gX11_width_X3_hasLine rfl rfl rfl ⟨rfl, hd_X3_hasLine⟩ ⟨Nat.le_of_ble_eq_true rfl, Nat.le_of_ble_eq_true rfl⟩) ⟨bl_, va_recvX hK.1 hPx (ci := 3) (q0 := 1) rfl rfl, fun U hU hW => ⟨rfl, by rw [hU], by rw [hU]; exact hPc, kk_mv hW hK, hDw⟩⟩ rfl rfl hl.1 rfl (lv_room (Nat.le_of_ble_eq_true rfl)) dB_36_2_40.1.2.1.1 ⟨Nat.le_of_ble_eq_true rfl, Nat.le_of_ble_eq_true rfl⟩) hS (fun q _ h => hFc q h) hFc (fun r_1 u t H locs ht hvm hw hB hz1 hk1 hS => ?_)
  have hP : va_P D vwCl _ H := ro_keep hP hk1
  rcases hw with ⟨w_2, e_⟩ | ⟨w_2, e_⟩
  · have e_ := e_.symm
    subst e_
    refine lv_if_eq (tgt := 22) hx hb dB_36_2_40.1.2.1.2 (by decide) (fun c_3 => ?_) (fun c_3 => ?_)
    · exact absurd c_3 (by decide)
    · have _ := c_3
      refine lv_iload_n hx hb dB_36_2_40.1.2.2.1 rfl (lv_at hl 2 rfl) ?_
      refine lv_if_lt (tgt := 22) hx hb dB_36_2_40.1.2.2.2 (by decide) (fun c_4 => ?_) (fun c_4 => ?_)
      · have t_4 : a2.toInt < (0 : Int32).toInt := Int32.lt_iff_toInt_lt.mp c_4
        refine lv_iconst (v := (-1)) hx hb dB_36_2_40.2.1.2.2 (by decide) ?_
        refine W.widen (k := 6) (n := 207) (Nat.le_of_ble_eq_true rfl) (Nat.le_of_ble_eq_true rfl) ?_
        rw [hQ]
        exact W.iret (v := (-1)) hx hb hr (fun t ht hW => ⟨⟨(-1), (), rfl, trivial, pf, ph, fw, pa, pv, pg, pm, (by first | exact hnk | exact hnn_), (by assumption), (by first | with_reducible assumption | assumption | (unfold rok; omega)), by rw [ht]; exact hP, hD⟩, hS.F ht⟩) hS.2.2 dB_36_2_40.2.2.1.1
      · have t_4 : ¬ a2.toInt < (0 : Int32).toInt := fun h => c_4 (Int32.lt_iff_toInt_lt.mpr h)
        refine lv_iload_n hx hb dB_36_2_40.2.1.1.1 rfl (lv_at hl 2 rfl) ?_
        refine lv_sipush (v := 1000) hx hb dB_36_2_40.2.1.1.2 (by decide) ?_
        refine lv_icmp_le (tgt := 24) hx hb dB_36_2_40.2.1.2.1 (by decide) (fun c_5 => ?_) (fun c_5 => ?_)
        · have t_5 : a2.toInt ≤ (1000 : Int32).toInt := Int32.le_iff_toInt_le.mp c_5
          refine lv_aload_n hx hb dB_36_2_40.2.2.1.2 rfl (lv_at hl 0 rfl) ?_
          refine va_get (ci := 11) (v := .ref xn) (C := RX11) (T := TX11) (N := 12) hx hb hts (fun _ h => List.mem_cons_of_mem _ (List.mem_append_left _ (List.mem_append_right _ h))) hown hK.1 hP 0 rfl rfl 1 (by decide) (hts (.fieldLink RX11 31 "CutAtlas" "net" "LCutAtlas$Net;") (List.mem_of_getElem? (i := 1) rfl)) (fun _ h9 => h9) rfl dB_36_2_40.2.2.2.1 ?_
          refine lv_iload_n hx hb dB_36_2_40.2.2.2.2 rfl (lv_at hl 1 rfl) ?_
          have hPx := pp_left hP
          have hDx := dd_left hD
          refine ct_R hPx hDx [ob3_0_ xn vp vn n1 n2 n3 n4 n5, ai_ cy n2 40 fs] [1, 3] (by decide) rfl (fun hPc hDw => ?_)
          have hFc := va_free (wc := []) hD hS hA [] rfl
          refine va_calli (va_runV (As := [.int a1]) (rest := []) ⟨hx, hb, hml, hown, hts⟩ (c_X3_isMissing l D cy H.size xn n1 n2 n3 n4 n5 vp vn fs a1 (by first | with_reducible assumption | omega | assumption)) (cwV 1 hts gX11_width_X3_isMissing rfl rfl rfl ⟨rfl, hd_X3_isMissing⟩ ⟨Nat.le_of_ble_eq_true rfl, Nat.le_of_ble_eq_true rfl⟩) ⟨bl_, va_recvX hK.1 hPx (ci := 3) (q0 := 1) rfl rfl, fun U hU hW => ⟨rfl, by rw [hU], by rw [hU]; exact hPc, kk_mv hW hK, hDw⟩⟩ rfl rfl hl.1 rfl (lv_room (Nat.le_of_ble_eq_true rfl)) dB_36_2_41.1.1.1.1 ⟨Nat.le_of_ble_eq_true rfl, Nat.le_of_ble_eq_true rfl⟩) hS (fun q _ h => hFc q h) hFc (fun r_6 u t H locs ht hvm hw hB hz1 hk1 hS => ?_)
          have hP : va_P D vwCl _ H := ro_keep hP hk1
          rcases hw with ⟨w_7, e_⟩ | ⟨w_7, e_⟩
          · have e_ := e_.symm
            subst e_
            refine lv_if_eq (tgt := 38) hx hb dB_36_2_41.1.1.1.2 (by decide) (fun c_8 => ?_) (fun c_8 => ?_)
            · exact absurd c_8 (by decide)
            · have _ := c_8
              refine lv_bipush (v := (-2)) hx hb dB_36_2_41.1.1.2.1 (by decide) ?_
              refine W.widen (k := 6) (n := 207) (Nat.le_of_ble_eq_true rfl) (Nat.le_of_ble_eq_true rfl) ?_
              rw [hQ]
              exact W.iret (v := (-2)) hx hb hr (fun t ht hW => ⟨⟨(-2), (), rfl, trivial, pf, ph, fw, pa, pv, pg, pm, (by first | exact hnk | exact hnn_), (by assumption), (by first | with_reducible assumption | assumption | (unfold rok; omega)), by rw [ht]; exact hP, hD⟩, hS.F ht⟩) hS.2.2 dB_36_2_41.1.1.2.2
          · have e_ := e_.symm
            subst e_
            refine lv_if_eq (tgt := 38) hx hb dB_36_2_41.1.1.1.2 (by decide) (fun c_9 => ?_) (fun c_9 => ?_)
            · have _ := c_9
              refine lv_aload_n hx hb dB_36_2_41.1.2.1.1 rfl (lv_at hl 0 rfl) ?_
              refine ct_P hP hD hS hA [ob11_0_ xo xk xn xc xh xt xw xm xp pf ph tr fi, ob3_0_ xn vp vn n1 n2 n3 n4 n5, ai_ cy n1 40 fk, ai_ cy n2 40 fs, ai_ cy n3 40 fe, ai_ cy n4 40 fw, ai_ cy n5 40 fp, aq_ cy 5 xp 30 (pst pa pm)] [0, 1, 2, 3, 4, 5, 6, 7] (by decide) rfl (fun hPc hDw hFc hC_ => ?_)
              have hPx := pp_left hP
              refine va_callv (va_runV (As := []) (rest := []) ⟨hx, hb, hml, hown, hts⟩ (c_X11_remember l D cy H.size xo xk xn xc xh xt xw xm xp pf ph tr fi n1 n2 n3 n4 n5 vp vn fk fs fe fw fp pa pv pg pm (by first | with_reducible assumption | assumption | omega) (by first | with_reducible assumption | assumption | omega) (by first | with_reducible assumption | assumption | omega) (by first | with_reducible assumption | assumption | omega) (by first | with_reducible assumption | assumption | omega) (by first | with_reducible assumption | assumption | omega) (by first | with_reducible assumption | assumption | omega)) (cwV 0 hts gX11_width_X11_remember rfl rfl rfl ⟨rfl, hd_X11_remember⟩ ⟨Nat.le_of_ble_eq_true rfl, Nat.le_of_ble_eq_true rfl⟩) ⟨bl_, va_recvX hK.1 hPx (ci := 11) (q0 := 0) rfl rfl, fun U hU hW => ⟨rfl, by rw [hU], by rw [hU]; exact hPc, kk_mv hW hK, hDw⟩⟩ rfl rfl hl.1 rfl (lv_room (Nat.le_of_ble_eq_true rfl)) dB_36_2_41.1.2.1.2 ⟨Nat.le_of_ble_eq_true rfl, Nat.le_of_ble_eq_true rfl⟩) hS (fun q _ h => hFc q h) hFc (fun u t H locs ht hvm hw hB hz1 hk1 hS => ?_)
              obtain ⟨epf_11, eph_12, epa_13, epv_14, epg_15, epm_16, g_17, g_18, g_19, hP1, hD1⟩ := hB
              rw [ht] at hP1
              obtain ⟨hP, hD⟩ := va_joinP (wr := []) (rx := [ob11_0_ xo xk xn xc xh xt xw xm xp epf_11 eph_12 tr fi, ob3_0_ xn vp vn n1 n2 n3 n4 n5, ai_ cy n1 40 fk, ai_ cy n2 40 fs, ai_ cy n3 40 fe, ai_ cy n4 40 fw, ai_ cy n5 40 fp, aq_ cy 5 xp 30 (pst epa_13 epm_16)]) (pl1 := (pool cy epa_13 epv_14 epg_15 epm_16)) hP hD [0, 1, 2, 3, 4, 5, 6, 7] [] hC_ rfl (by decide) (by decide) hk1 hFc hP1 hD1
              refine pd_K (([ob11_0_ xo xk xn xc xh xt xw xm xp epf_11 eph_12 tr fi, ob3_0_ xn vp vn n1 n2 n3 n4 n5, ai_ cy n1 40 fk, ai_ cy n2 40 fs, ai_ cy n3 40 fe, ai_ cy n4 40 fw, ai_ cy n5 40 fp, aq_ cy 5 xp 30 (pst epa_13 epm_16)] : va_W) ++ (pool cy epa_13 epv_14 epg_15 epm_16)) hP hD (fun hP hD => ?_)
              refine lv_aload_n hx hb dB_36_2_41.1.2.2.1 rfl (lv_at hl 0 rfl) ?_
              refine va_get (ci := 11) (v := .ref xn) (C := RX11) (T := TX11) (N := 12) hx hb hts (fun _ h => List.mem_cons_of_mem _ (List.mem_append_left _ (List.mem_append_right _ h))) hown hK.1 hP 0 rfl rfl 1 (by decide) (hts (.fieldLink RX11 31 "CutAtlas" "net" "LCutAtlas$Net;") (List.mem_of_getElem? (i := 1) rfl)) (fun _ h9 => h9) rfl dB_36_2_41.1.2.2.2 ?_
              refine va_get (ci := 3) (v := .ref n4) (C := RX3) (T := TX3) (N := 7) hx hb hts (fun _ h => List.mem_cons_of_mem _ (List.mem_append_right _ h)) hown hK.1 hP 1 rfl rfl 5 (by decide) (hts (.fieldLink RX11 129 "CutAtlas$Net" "widths" "[I") (List.mem_of_getElem? (i := 2) rfl)) (fun _ h9 => h9) rfl dB_36_2_41.2.1.1.1 ?_
              refine lv_iload_n hx hb dB_36_2_41.2.1.1.2 rfl (lv_at hl 1 rfl) ?_
              have h_20 : vp_in a1 40 := in_I (by omega) (by omega)
              refine va_iald hx hb hK.1 hP 5 0 rfl rfl (i := a1) h_20 dB_36_2_41.2.1.2.1 ?_
              refine lv_topi (fun y_21 ey_21 => ?_)
              have ry_21 : 0 ≤ y_21.toInt ∧ y_21.toInt ≤ 2000 := by rw [ey_21]; exact r_fw _ (in_lt h_20)
              refine lv_istore_n (lv' := [(3, .int y_21), (0, .ref xo), (1, .int a1), (2, .int a2)]) hx hb dB_36_2_41.2.1.2.2 rfl hl (by decide) rfl (fun ls hl => ?_)
              refine lv_aload_n hx hb dB_36_2_41.2.2.1.1 rfl (lv_at hl 1 rfl) ?_
              refine va_get (ci := 11) (v := .ref xn) (C := RX11) (T := TX11) (N := 12) hx hb hts (fun _ h => List.mem_cons_of_mem _ (List.mem_append_left _ (List.mem_append_right _ h))) hown hK.1 hP 0 rfl rfl 1 (by decide) (hts (.fieldLink RX11 31 "CutAtlas" "net" "LCutAtlas$Net;") (List.mem_of_getElem? (i := 1) rfl)) (fun _ h9 => h9) rfl dB_36_2_41.2.2.1.2 ?_
              refine va_get (ci := 3) (v := .ref n4) (C := RX3) (T := TX3) (N := 7) hx hb hts (fun _ h => List.mem_cons_of_mem _ (List.mem_append_right _ h)) hown hK.1 hP 1 rfl rfl 5 (by decide) (hts (.fieldLink RX11 129 "CutAtlas$Net" "widths" "[I") (List.mem_of_getElem? (i := 2) rfl)) (fun _ h9 => h9) rfl dB_36_2_41.2.2.2.1 ?_
              refine lv_iload_n hx hb dB_36_2_41.2.2.2.2 rfl (lv_at hl 2 rfl) ?_
              refine lv_iload_n hx hb dB_36_2_42.1.1.1.1 rfl (lv_at hl 3 rfl) ?_
              have h_22 : vp_in a1 40 := in_I (by omega) (by omega)
              refine va_iast hx hb hK.1 hP hD hS 5 0 rfl rfl (i := a1) h_22 dB_36_2_42.1.1.1.2 (fun H locs hP hD hS => ?_)
              obtain ⟨f_23, ef_23⟩ : ∃ g : Nat → Int32, g = upd fw a1.toNatClampNeg a2 := ⟨_, rfl⟩
              refine pd_K (D := D) (cl := vwCl) (H := H) (A := A) (([ob11_0_ xo xk xn xc xh xt xw xm xp epf_11 eph_12 tr fi, ob3_0_ xn vp vn n1 n2 n3 n4 n5, ai_ cy n1 40 fk, ai_ cy n2 40 fs, ai_ cy n3 40 fe, ai_ cy n4 40 f_23, ai_ cy n5 40 fp, aq_ cy 5 xp 30 (pst epa_13 epm_16)] : va_W) ++ (pool cy epa_13 epv_14 epg_15 epm_16)) (by rw [ef_23]; exact hP) (by rw [ef_23]; exact hD) (fun hP hD => ?_)
              have rf_23 : rng f_23 40 (0) (2000) := by rw [ef_23]; exact rng_upd r_fw (by omega) (by omega)
              have hnn_ : nok vp vn fk fs fe f_23 fp := ⟨hnk.1, hnk.2.1, hnk.2.2.1, hnk.2.2.2.1, by assumption, hnk.2.2.2.2.2⟩
              refine lv_iload_n hx hb dB_36_2_42.1.1.2.1 rfl (lv_at hl 0 rfl) ?_
              rw [hQ]
              exact W.iret (v := y_21) hx hb hr (fun t ht hW => ⟨⟨y_21, (), rfl, trivial, epf_11, eph_12, f_23, epa_13, epv_14, epg_15, epm_16, (by first | exact hnk | exact hnn_), (by assumption), (by first | with_reducible assumption | assumption | (unfold rok; omega)), by rw [ht]; exact hP, hD⟩, hS.F ht⟩) hS.2.2 dB_36_2_42.1.1.2.2
            · exact absurd c_9 (by decide)
        · have t_5 : ¬ a2.toInt ≤ (1000 : Int32).toInt := fun h => c_5 (Int32.le_iff_toInt_le.mpr h)
          refine lv_iconst (v := (-1)) hx hb dB_36_2_40.2.1.2.2 (by decide) ?_
          refine W.widen (k := 6) (n := 207) (Nat.le_of_ble_eq_true rfl) (Nat.le_of_ble_eq_true rfl) ?_
          rw [hQ]
          exact W.iret (v := (-1)) hx hb hr (fun t ht hW => ⟨⟨(-1), (), rfl, trivial, pf, ph, fw, pa, pv, pg, pm, (by first | exact hnk | exact hnn_), (by assumption), (by first | with_reducible assumption | assumption | (unfold rok; omega)), by rw [ht]; exact hP, hD⟩, hS.F ht⟩) hS.2.2 dB_36_2_40.2.2.1.1
  · have e_ := e_.symm
    subst e_
    refine lv_if_eq (tgt := 22) hx hb dB_36_2_40.1.2.1.2 (by decide) (fun c_24 => ?_) (fun c_24 => ?_)
    · have _ := c_24
      refine lv_iconst (v := (-1)) hx hb dB_36_2_40.2.1.2.2 (by decide) ?_
      refine W.widen (k := 6) (n := 207) (Nat.le_of_ble_eq_true rfl) (Nat.le_of_ble_eq_true rfl) ?_
      rw [hQ]
      exact W.iret (v := (-1)) hx hb hr (fun t ht hW => ⟨⟨(-1), (), rfl, trivial, pf, ph, fw, pa, pv, pg, pm, (by first | exact hnk | exact hnn_), (by assumption), (by first | with_reducible assumption | assumption | (unfold rok; omega)), by rw [ht]; exact hP, hD⟩, hS.F ht⟩) hS.2.2 dB_36_2_40.2.2.1.1
    · exact absurd c_24 (by decide)

set_option maxHeartbeats 4000000 in
set_option maxRecDepth 100000 in
theorem c_X11_merge (l : Launch) (D : va_G) (cy : Nat → ClassId) (sz : Nat) (xo : Nat) (xk : Nat) (xn : Nat) (xc : Nat) (xh : Nat) (xt : Nat) (xw : Nat) (xm : Nat) (xp : Nat) (pf : Int32) (ph : Int32) (tr : Int64) (fi : Int32) (n1 : Nat) (n2 : Nat) (n3 : Nat) (n4 : Nat) (n5 : Nat) (vp : Int32) (vn : Int32) (fk : Nat → Int32) (fs : Nat → Int32) (fe : Nat → Int32) (fw : Nat → Int32) (fp : Nat → Int32) (pa : Nat → Nat → Nat) (pv : Nat → Nat → Int32) (pg : Nat → Nat → Nat → Int32) (pm : Nat) (a1 : Int32) (a2 : Int32) (hnk : nok vp vn fk fs fe fw fp) (hpk : pok pv pg pm) (hrk : rok pf ph pm) (hpr : prng fs fe 40) (r_fk : rng fk 40 (0) (4)) (r_fw : rng fw 40 (0) (2000)) (r_fp : rng fp 40 (0) (100)) : Met l yX11_merge wsX11_merge ({ frames := 3, cells := 6, slots := 207, locals := 82 }) (va_Pc [.ref xo, .int a1, .int a2] (fun U => U.heap.size = sz ∧ va_P D vwCl (([ob11_0_ xo xk xn xc xh xt xw xm xp pf ph tr fi, ob3_0_ xn vp vn n1 n2 n3 n4 n5, ai_ cy n1 40 fk, ai_ cy n2 40 fs, ai_ cy n3 40 fe, ai_ cy n4 40 fw, ai_ cy n5 40 fp, aq_ cy 5 xp 30 (pst pa pm)] : va_W) ++ (pool cy pa pv pg pm)) U.heap ∧ kk_ D cy U ∧ va_D (fun _ => True) (([ob11_0_ xo xk xn xc xh xt xw xm xp pf ph tr fi, ob3_0_ xn vp vn n1 n2 n3 n4 n5, ai_ cy n1 40 fk, ai_ cy n2 40 fs, ai_ cy n3 40 fe, ai_ cy n4 40 fw, ai_ cy n5 40 fp, aq_ cy 5 xp 30 (pst pa pm)] : va_W) ++ (pool cy pa pv pg pm)))) (va_Qi (fun (r : Int32) (_ : Unit) => True) (fun (_ : Unit) (t : State) => ∃ (epf : Int32), ∃ (eph : Int32), ∃ (evp : Int32), ∃ (efs : Nat → Int32), ∃ (efe : Nat → Int32), ∃ (epa : Nat → Nat → Nat), ∃ (epv : Nat → Nat → Int32), ∃ (epg : Nat → Nat → Nat → Int32), ∃ (epm : Nat), (nok evp vn fk efs efe fw fp) ∧ (pok epv epg epm) ∧ (rok epf eph epm) ∧ va_P D vwCl (([ob11_0_ xo xk xn xc xh xt xw xm xp epf eph tr fi, ob3_0_ xn evp vn n1 n2 n3 n4 n5, ai_ cy n1 40 fk, ai_ cy n2 40 efs, ai_ cy n3 40 efe, ai_ cy n4 40 fw, ai_ cy n5 40 fp, aq_ cy 5 xp 30 (pst epa epm)] : va_W) ++ (pool cy epa epv epg epm)) t.heap ∧ va_D (va_A (([ob11_0_ xo xk xn xc xh xt xw xm xp pf ph tr fi, ob3_0_ xn vp vn n1 n2 n3 n4 n5, ai_ cy n1 40 fk, ai_ cy n2 40 fs, ai_ cy n3 40 fe, ai_ cy n4 40 fw, ai_ cy n5 40 fp, aq_ cy 5 xp 30 (pst pa pm)] : va_W) ++ (pool cy pa pv pg pm)) sz) (([ob11_0_ xo xk xn xc xh xt xw xm xp epf eph tr fi, ob3_0_ xn evp vn n1 n2 n3 n4 n5, ai_ cy n1 40 fk, ai_ cy n2 40 efs, ai_ cy n3 40 efe, ai_ cy n4 40 fw, ai_ cy n5 40 fp, aq_ cy 5 xp 30 (pst epa epm)] : va_W) ++ (pool cy epa epv epg epm))) (va_A (([ob11_0_ xo xk xn xc xh xt xw xm xp pf ph tr fi, ob3_0_ xn vp vn n1 n2 n3 n4 n5, ai_ cy n1 40 fk, ai_ cy n2 40 fs, ai_ cy n3 40 fe, ai_ cy n4 40 fw, ai_ cy n5 40 fp, aq_ cy 5 xp 30 (pst pa pm)] : va_W) ++ (pool cy pa pv pg pm)) sz)) 6 207 (va_A (([ob11_0_ xo xk xn xc xh xt xw xm xp pf ph tr fi, ob3_0_ xn vp vn n1 n2 n3 n4 n5, ai_ cy n1 40 fk, ai_ cy n2 40 fs, ai_ cy n3 40 fe, ai_ cy n4 40 fw, ai_ cy n5 40 fp, aq_ cy 5 xp 30 (pst pa pm)] : va_W) ++ (pool cy pa pv pg pm)) sz) := by
  refine ofQ (cc := cX11_merge) (maxL := 3) (ret := (some .int)) (by decide) rfl ?_
  intro p e s m args below meth c s₁ Q hQ B hml hv
  obtain ⟨rfl, hsz, hP, hK, hD0⟩ := hv
  have hx := B.exec
  have hb := B.bytes
  have hr := B.returns
  have hts := atoms_spec (ws := wsX11_merge) B.pre
  have hown : s.vm.findClass RX11 = some m.cls := by have h_ := findClass_of_methodNamed B.named; exact h_
  have hlocks := B.notSynchronized
  subst hsz
  have hD := hD0.self (sz := s.heap.size)
  generalize hAe : va_A (([ob11_0_ xo xk xn xc xh xt xw xm xp pf ph tr fi, ob3_0_ xn vp vn n1 n2 n3 n4 n5, ai_ cy n1 40 fk, ai_ cy n2 40 fs, ai_ cy n3 40 fe, ai_ cy n4 40 fw, ai_ cy n5 40 fp, aq_ cy 5 xp 30 (pst pa pm)] : va_W) ++ (pool cy pa pv pg pm)) s.heap.size = A at hD hQ
  have hA : ∀ q : Nat, s.heap.size ≤ q → A q := fun q h => by rw [← hAe]; exact Or.inr h
  have hS : va_S A s.heap s.heap [] := va_S.rf
  have hl := lv_entry ([.ref xo, .int a1, .int a2]) (n := 3) (Nat.le_of_ble_eq_true rfl)
  rw [lg_entry_eq]
  generalize (lg_sl ([.ref xo, .int a1, .int a2]) ++ List.replicate (3 - (lg_sl ([.ref xo, .int a1, .int a2])).length) Slot.unset).toArray = ls at hl ⊢
  have hl : lv_has ls 3 [(0, .ref xo), (1, .int a1), (2, .int a2)] := hl
  have zm1 : ((-1) : Int32).toInt = -1 := by decide
  have hvp := hnk.1
  have hvn := hnk.2.1
  have hr_ := hrk
  unfold rok at hr_
  refine lv_aload_n hx hb dB_36_2_42.1.2.1.1 rfl (lv_at hl 0 rfl) ?_
  refine va_get (ci := 11) (v := .ref xn) (C := RX11) (T := TX11) (N := 12) hx hb hts (fun _ h => List.mem_cons_of_mem _ (List.mem_append_left _ (List.mem_append_right _ h))) hown hK.1 hP 0 rfl rfl 1 (by decide) (hts (.fieldLink RX11 31 "CutAtlas" "net" "LCutAtlas$Net;") (List.mem_of_getElem? (i := 1) rfl)) (fun _ h9 => h9) rfl dB_36_2_42.1.2.1.2 ?_
  refine lv_iload_n hx hb dB_36_2_42.1.2.2.1 rfl (lv_at hl 1 rfl) ?_
  refine lv_i2l (v := a1.toInt64) hx hb dB_36_2_42.1.2.2.2 rfl ?_
  have q_5 : (a1.toInt64).toInt = a1.toInt := Int32.toInt_toInt64 a1
  refine lv_iload_n hx hb dB_36_2_42.2.1.1.1 rfl (lv_at hl 2 rfl) ?_
  refine lv_i2l (v := a2.toInt64) hx hb dB_36_2_42.2.1.1.2 rfl ?_
  have q_7 : (a2.toInt64).toInt = a2.toInt := Int32.toInt_toInt64 a2
  have hPx := pp_left hP
  have hDx := dd_left hD
  refine ct_R hPx hDx [ob3_0_ xn vp vn n1 n2 n3 n4 n5] [1] (by decide) rfl (fun hPc hDw => ?_)
  have hFc := va_free (wc := []) hD hS hA [] rfl
  refine va_calli (va_runV (As := [.long a1.toInt64, .long a2.toInt64]) (rest := []) ⟨hx, hb, hml, hown, hts⟩ (c_X3_hasPair l D cy s.heap.size xn n1 n2 n3 n4 n5 vp vn a1.toInt64 a2.toInt64) (cwV 2 hts gX11_merge_X3_hasPair rfl rfl rfl ⟨rfl, hd_X3_hasPair⟩ ⟨Nat.le_of_ble_eq_true rfl, Nat.le_of_ble_eq_true rfl⟩) ⟨bl_, va_recvX hK.1 hPx (ci := 3) (q0 := 1) rfl rfl, fun U hU hW => ⟨rfl, by rw [hU], by rw [hU]; exact hPc, kk_mv hW hK, hDw⟩⟩ rfl rfl hl.1 rfl (lv_room (Nat.le_of_ble_eq_true rfl)) dB_36_2_42.2.1.2.1 ⟨Nat.le_of_ble_eq_true rfl, Nat.le_of_ble_eq_true rfl⟩) hS (fun q _ h => hFc q h) hFc (fun r_1 u t H locs ht hvm hw hB hz1 hk1 hS => ?_)
  have hP : va_P D vwCl _ H := ro_keep hP hk1
  rcases hw with ⟨w_2, e_⟩ | ⟨w_2, e_⟩
  · have e_ := e_.symm
    subst e_
    refine lv_if_ne (tgt := 16) hx hb dB_36_2_42.2.1.2.2 (by decide) (fun c_3 => ?_) (fun c_3 => ?_)
    · have _ := c_3
      refine lv_aload_n hx hb dB_36_2_42.2.2.2.1 rfl (lv_at hl 0 rfl) ?_
      refine ct_P hP hD hS hA [ob11_0_ xo xk xn xc xh xt xw xm xp pf ph tr fi, ob3_0_ xn vp vn n1 n2 n3 n4 n5, ai_ cy n1 40 fk, ai_ cy n2 40 fs, ai_ cy n3 40 fe, ai_ cy n4 40 fw, ai_ cy n5 40 fp, aq_ cy 5 xp 30 (pst pa pm)] [0, 1, 2, 3, 4, 5, 6, 7] (by decide) rfl (fun hPc hDw hFc hC_ => ?_)
      have hPx := pp_left hP
      refine va_callv (va_runV (As := []) (rest := []) ⟨hx, hb, hml, hown, hts⟩ (c_X11_remember l D cy H.size xo xk xn xc xh xt xw xm xp pf ph tr fi n1 n2 n3 n4 n5 vp vn fk fs fe fw fp pa pv pg pm (by first | with_reducible assumption | assumption | omega) (by first | with_reducible assumption | assumption | omega) (by first | with_reducible assumption | assumption | omega) (by first | with_reducible assumption | assumption | omega) (by first | with_reducible assumption | assumption | omega) (by first | with_reducible assumption | assumption | omega) (by first | with_reducible assumption | assumption | omega)) (cwV 0 hts gX11_merge_X11_remember rfl rfl rfl ⟨rfl, hd_X11_remember⟩ ⟨Nat.le_of_ble_eq_true rfl, Nat.le_of_ble_eq_true rfl⟩) ⟨bl_, va_recvX hK.1 hPx (ci := 11) (q0 := 0) rfl rfl, fun U hU hW => ⟨rfl, by rw [hU], by rw [hU]; exact hPc, kk_mv hW hK, hDw⟩⟩ rfl rfl hl.1 rfl (lv_room (Nat.le_of_ble_eq_true rfl)) dB_36_2_42.2.2.2.2 ⟨Nat.le_of_ble_eq_true rfl, Nat.le_of_ble_eq_true rfl⟩) hS (fun q _ h => hFc q h) hFc (fun u t H locs ht hvm hw hB hz1 hk1 hS => ?_)
      obtain ⟨epf_5, eph_6, epa_7, epv_8, epg_9, epm_10, g_11, g_12, g_13, hP1, hD1⟩ := hB
      rw [ht] at hP1
      obtain ⟨hP, hD⟩ := va_joinP (wr := []) (rx := [ob11_0_ xo xk xn xc xh xt xw xm xp epf_5 eph_6 tr fi, ob3_0_ xn vp vn n1 n2 n3 n4 n5, ai_ cy n1 40 fk, ai_ cy n2 40 fs, ai_ cy n3 40 fe, ai_ cy n4 40 fw, ai_ cy n5 40 fp, aq_ cy 5 xp 30 (pst epa_7 epm_10)]) (pl1 := (pool cy epa_7 epv_8 epg_9 epm_10)) hP hD [0, 1, 2, 3, 4, 5, 6, 7] [] hC_ rfl (by decide) (by decide) hk1 hFc hP1 hD1
      refine pd_K (([ob11_0_ xo xk xn xc xh xt xw xm xp epf_5 eph_6 tr fi, ob3_0_ xn vp vn n1 n2 n3 n4 n5, ai_ cy n1 40 fk, ai_ cy n2 40 fs, ai_ cy n3 40 fe, ai_ cy n4 40 fw, ai_ cy n5 40 fp, aq_ cy 5 xp 30 (pst epa_7 epm_10)] : va_W) ++ (pool cy epa_7 epv_8 epg_9 epm_10)) hP hD (fun hP hD => ?_)
      refine lv_aload_n hx hb dB_36_2_43.1.1.1.1 rfl (lv_at hl 0 rfl) ?_
      refine va_get (ci := 11) (v := .ref xn) (C := RX11) (T := TX11) (N := 12) hx hb hts (fun _ h => List.mem_cons_of_mem _ (List.mem_append_left _ (List.mem_append_right _ h))) hown hK.1 hP 0 rfl rfl 1 (by decide) (hts (.fieldLink RX11 31 "CutAtlas" "net" "LCutAtlas$Net;") (List.mem_of_getElem? (i := 1) rfl)) (fun _ h9 => h9) rfl dB_36_2_43.1.1.1.2 ?_
      refine lv_iload_n hx hb dB_36_2_43.1.1.2.1 rfl (lv_at hl 1 rfl) ?_
      refine lv_iload_n hx hb dB_36_2_43.1.1.2.2 rfl (lv_at hl 2 rfl) ?_
      refine va_mmin hx hb (by rw [hml]; exact hl.1.symm) hown (hts (.methodLink RX11 139 Lib.Math.min.name) (List.mem_of_getElem? (i := 2) rfl)) (hts (.static Lib.Math.min.name) (List.mem_of_getElem? (i := 3) rfl)) (hts (.initialized "java/lang/Math") (List.mem_of_getElem? (i := 4) rfl)) (hts (.code Lib.Math.min.name Lib.Math.min.code 2 (some .int)) (List.mem_of_getElem? (i := 5) rfl)) (Nat.le_of_ble_eq_true rfl) (Nat.le_of_ble_eq_true rfl) (Nat.le_of_ble_eq_true rfl) (Nat.le_of_ble_eq_true rfl) dB_36_2_43.1.2.1.1 ?_
      refine lv_topi (fun y_14 ey_14 => ?_)
      have ty_14 : y_14 = a1 ∨ y_14 = a2 := by rw [ey_14]; split <;> simp
      have iy_14 : y_14.toInt = a1.toInt ∨ y_14.toInt = a2.toInt := by rcases ty_14 with h | h <;> rw [h] <;> simp
      refine lv_iload_n hx hb dB_36_2_43.1.2.1.2 rfl (lv_at hl 1 rfl) ?_
      refine lv_iload_n hx hb dB_36_2_43.1.2.2.1 rfl (lv_at hl 2 rfl) ?_
      refine va_mmax hx hb (by rw [hml]; exact hl.1.symm) hown (hts (.methodLink RX11 145 Lib.Math.max.name) (List.mem_of_getElem? (i := 6) rfl)) (hts (.static Lib.Math.max.name) (List.mem_of_getElem? (i := 7) rfl)) (hts (.initialized "java/lang/Math") (List.mem_of_getElem? (i := 4) rfl)) (hts (.code Lib.Math.max.name Lib.Math.max.code 2 (some .int)) (List.mem_of_getElem? (i := 8) rfl)) (Nat.le_of_ble_eq_true rfl) (Nat.le_of_ble_eq_true rfl) (Nat.le_of_ble_eq_true rfl) (Nat.le_of_ble_eq_true rfl) dB_36_2_43.1.2.2.2 ?_
      refine lv_topi (fun y_15 ey_15 => ?_)
      have ty_15 : y_15 = a1 ∨ y_15 = a2 := by rw [ey_15]; split <;> simp
      have iy_15 : y_15.toInt = a1.toInt ∨ y_15.toInt = a2.toInt := by rcases ty_15 with h | h <;> rw [h] <;> simp
      have hPx := pp_left hP
      have hDx := dd_left hD
      refine ct_S hPx hDx hS hA [ob3_0_ xn vp vn n1 n2 n3 n4 n5, ai_ cy n2 40 fs, ai_ cy n3 40 fe] [1, 3, 4] (by decide) rfl (fun hPc hDw hFc hC_ => ?_)
      refine va_calli (va_runV (As := [.int y_14, .int y_15]) (rest := []) ⟨hx, hb, hml, hown, hts⟩ (c_X3_join l D cy H.size xn n1 n2 n3 n4 n5 vp vn fs fe y_14 y_15 (by first | with_reducible assumption | omega | assumption) (by first | with_reducible assumption | omega | assumption) (by first | with_reducible assumption | omega | assumption) (by first | with_reducible assumption | omega | assumption) (by first | with_reducible assumption | assumption | omega)) (cwV 2 hts gX11_merge_X3_join rfl rfl rfl ⟨rfl, hd_X3_join⟩ ⟨Nat.le_of_ble_eq_true rfl, Nat.le_of_ble_eq_true rfl⟩) ⟨bl_, va_recvX hK.1 hPx (ci := 3) (q0 := 1) rfl rfl, fun U hU hW => ⟨rfl, by rw [hU], by rw [hU]; exact hPc, kk_mv hW hK, hDw⟩⟩ rfl rfl hl.1 rfl (lv_room (Nat.le_of_ble_eq_true rfl)) dB_36_2_43.2.1.1.1 ⟨Nat.le_of_ble_eq_true rfl, Nat.le_of_ble_eq_true rfl⟩) hS (fun q _ h => hFc q h) hFc (fun r_16 u t H locs ht hvm hw hB hz1 hk1 hS => ?_)
      obtain ⟨evp_17, efs_18, efe_19, g_20, g_21, hP1, hD1⟩ := hB
      rw [ht] at hP1
      obtain ⟨hP, hD⟩ := va_joinQ (wr := [ob11_0_ xo xk xn xc xh xt xw xm xp epf_5 eph_6 tr fi, ai_ cy n1 40 fk, ai_ cy n4 40 fw, ai_ cy n5 40 fp, aq_ cy 5 xp 30 (pst epa_7 epm_10)]) (w1 := [ob3_0_ xn evp_17 vn n1 n2 n3 n4 n5, ai_ cy n2 40 efs_18, ai_ cy n3 40 efe_19]) hP hD [1, 3, 4] [0, 2, 5, 6, 7] hC_ rfl (by decide) (by decide) hk1 hFc hP1 hD1
      refine pd_K (([ob11_0_ xo xk xn xc xh xt xw xm xp epf_5 eph_6 tr fi, ai_ cy n1 40 fk, ai_ cy n4 40 fw, ai_ cy n5 40 fp, aq_ cy 5 xp 30 (pst epa_7 epm_10), ob3_0_ xn evp_17 vn n1 n2 n3 n4 n5, ai_ cy n2 40 efs_18, ai_ cy n3 40 efe_19] : va_W) ++ (pool cy epa_7 epv_8 epg_9 epm_10)) hP hD (fun hP hD => ?_)
      refine pd_P hP hD [ob11_0_ xo xk xn xc xh xt xw xm xp epf_5 eph_6 tr fi, ob3_0_ xn evp_17 vn n1 n2 n3 n4 n5, ai_ cy n1 40 fk, ai_ cy n2 40 efs_18, ai_ cy n3 40 efe_19, ai_ cy n4 40 fw, ai_ cy n5 40 fp, aq_ cy 5 xp 30 (pst epa_7 epm_10)] [0, 5, 1, 6, 7, 2, 3, 4] (by decide) rfl (fun hP hD => ?_)
      have hnn_ : nok evp_17 vn fk efs_18 efe_19 fw fp := ⟨by omega, hnk.2.1, hnk.2.2.1, g_21, hnk.2.2.2.2.1, hnk.2.2.2.2.2⟩
      rw [hQ]
      exact W.iret (v := r_16) hx hb hr (fun t ht hW => ⟨⟨r_16, (), rfl, trivial, epf_5, eph_6, evp_17, efs_18, efe_19, epa_7, epv_8, epg_9, epm_10, (by first | exact hnk | exact hnn_), (by assumption), (by first | with_reducible assumption | assumption | (unfold rok; omega)), by rw [ht]; exact hP, hD⟩, hS.F ht⟩) hS.2.2 dB_36_2_43.2.1.1.2
    · exact absurd c_3 (by decide)
  · have e_ := e_.symm
    subst e_
    refine lv_if_ne (tgt := 16) hx hb dB_36_2_42.2.1.2.2 (by decide) (fun c_22 => ?_) (fun c_22 => ?_)
    · exact absurd c_22 (by decide)
    · have _ := c_22
      refine lv_iconst (v := (-1)) hx hb dB_36_2_42.2.2.1.1 (by decide) ?_
      refine W.widen (k := 6) (n := 207) (Nat.le_of_ble_eq_true rfl) (Nat.le_of_ble_eq_true rfl) ?_
      rw [hQ]
      exact W.iret (v := (-1)) hx hb hr (fun t ht hW => ⟨⟨(-1), (), rfl, trivial, pf, ph, vp, fs, fe, pa, pv, pg, pm, (by first | exact hnk | exact hnn_), (by assumption), (by first | with_reducible assumption | assumption | (unfold rok; omega)), by rw [ht]; exact hP, hD⟩, hS.F ht⟩) hS.2.2 dB_36_2_42.2.2.1.2
