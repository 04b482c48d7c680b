section
set_option maxHeartbeats 4000000 in
set_option maxRecDepth 100000 in
theorem c_X11_ask (l : Launch) (D : va_G) (cy : Nat → ClassId) (sz : Nat) (xo : Nat) (xk : Nat) (xn : Nat) (xc : Nat) (xh : Nat) (xt : Nat) (xw : Nat) (xm : Nat) (xp : Nat) (pf : Int32) (ph : Int32) (tr : Int64) (fi : Int32) (n1 : Nat) (n2 : Nat) (n3 : Nat) (n4 : Nat) (n5 : Nat) (vp : Int32) (vn : Int32) (fk : Nat → Int32) (fw : Nat → Int32) (fp : Nat → Int32) (k0 : Nat) (k1 : Nat) (k2 : Nat) (k3 : Nat) (k4 : Nat) (a1 : Int32) (a2 : Int32) (hvn : 0 ≤ vn.toInt ∧ vn.toInt ≤ 40) (r_fk : rng fk 40 (0) (4)) : Met l yX11_ask wsX11_ask ({ frames := 2, cells := 0, slots := 0, locals := 44 }) (va_Pc [.ref xo, .int a1, .int a2] (fun U => U.heap.size = sz ∧ va_P D vwCl [ob11_0_ xo xk xn xc xh xt xw xm xp pf ph tr fi, ob3_0_ xn vp vn n1 n2 n3 n4 n5, ai_ cy n1 40 fk, ai_ cy n4 40 fw, ai_ cy n5 40 fp, aq_ cy 3 xk 5 (kf_ k0 k1 k2 k3 k4), ob6_0_ k0, ob5_0_ k1, ob9_0_ k2, ob2_0_ k3, ob8_0_ k4] U.heap ∧ kk_ D cy U ∧ va_D (fun _ => True) [ob11_0_ xo xk xn xc xh xt xw xm xp pf ph tr fi, ob3_0_ xn vp vn n1 n2 n3 n4 n5, ai_ cy n1 40 fk, ai_ cy n4 40 fw, ai_ cy n5 40 fp, aq_ cy 3 xk 5 (kf_ k0 k1 k2 k3 k4), ob6_0_ k0, ob5_0_ k1, ob9_0_ k2, ob2_0_ k3, ob8_0_ k4])) (va_Qi (fun (r : Int32) (_ : Unit) => True) (fun (_ : Unit) (t : State) => ∃ (etr : Int64), va_P D vwCl [ob11_0_ xo xk xn xc xh xt xw xm xp pf ph etr fi, ob3_0_ xn vp vn n1 n2 n3 n4 n5, ai_ cy n1 40 fk, ai_ cy n4 40 fw, ai_ cy n5 40 fp, aq_ cy 3 xk 5 (kf_ k0 k1 k2 k3 k4), ob6_0_ k0, ob5_0_ k1, ob9_0_ k2, ob2_0_ k3, ob8_0_ k4] t.heap ∧ va_D (va_A [ob11_0_ xo xk xn xc xh xt xw xm xp pf ph tr fi, ob3_0_ xn vp vn n1 n2 n3 n4 n5, ai_ cy n1 40 fk, ai_ cy n4 40 fw, ai_ cy n5 40 fp, aq_ cy 3 xk 5 (kf_ k0 k1 k2 k3 k4), ob6_0_ k0, ob5_0_ k1, ob9_0_ k2, ob2_0_ k3, ob8_0_ k4] sz) [ob11_0_ xo xk xn xc xh xt xw xm xp pf ph etr fi, ob3_0_ xn vp vn n1 n2 n3 n4 n5, ai_ cy n1 40 fk, ai_ cy n4 40 fw, ai_ cy n5 40 fp, aq_ cy 3 xk 5 (kf_ k0 k1 k2 k3 k4), ob6_0_ k0, ob5_0_ k1, ob9_0_ k2, ob2_0_ k3, ob8_0_ k4]) (va_A [ob11_0_ xo xk xn xc xh xt xw xm xp pf ph tr fi, ob3_0_ xn vp vn n1 n2 n3 n4 n5, ai_ cy n1 40 fk, ai_ cy n4 40 fw, ai_ cy n5 40 fp, aq_ cy 3 xk 5 (kf_ k0 k1 k2 k3 k4), ob6_0_ k0, ob5_0_ k1, ob9_0_ k2, ob2_0_ k3, ob8_0_ k4] sz)) 0 0 (va_A [ob11_0_ xo xk xn xc xh xt xw xm xp pf ph tr fi, ob3_0_ xn vp vn n1 n2 n3 n4 n5, ai_ cy n1 40 fk, ai_ cy n4 40 fw, ai_ cy n5 40 fp, aq_ cy 3 xk 5 (kf_ k0 k1 k2 k3 k4), ob6_0_ k0, ob5_0_ k1, ob9_0_ k2, ob2_0_ k3, ob8_0_ k4] sz) := by
  refine ofQ (cc := cX11_ask) (maxL := 5) (ret := (some .int)) (by decide) rfl ?_
  intro p e s m args below meth c s₁ Q hQ B hml hv
  obtain ⟨rfl, hsz, hP, hK, hD0⟩ := hv
  have hx := B.exec
  have hb := B.bytes
  have hr := B.returns
  have hts := atoms_spec (ws := wsX11_ask) B.pre
  have hown : s.vm.findClass RX11 = some m.cls := by have h_ := findClass_of_methodNamed B.named; exact h_
  have hlocks := B.notSynchronized
  subst hsz
  have hD := hD0.self (sz := s.heap.size)
  generalize hAe : va_A [ob11_0_ xo xk xn xc xh xt xw xm xp pf ph tr fi, ob3_0_ xn vp vn n1 n2 n3 n4 n5, ai_ cy n1 40 fk, ai_ cy n4 40 fw, ai_ cy n5 40 fp, aq_ cy 3 xk 5 (kf_ k0 k1 k2 k3 k4), ob6_0_ k0, ob5_0_ k1, ob9_0_ k2, ob2_0_ k3, ob8_0_ k4] s.heap.size = A at hD hQ
  have hA : ∀ q : Nat, s.heap.size ≤ q → A q := fun q h => by rw [← hAe]; exact Or.inr h
  have hS : va_S A s.heap s.heap [] := va_S.rf
  have hl := lv_entry ([.ref xo, .int a1, .int a2]) (n := 5) (Nat.le_of_ble_eq_true rfl)
  rw [lg_entry_eq]
  generalize (lg_sl ([.ref xo, .int a1, .int a2]) ++ List.replicate (5 - (lg_sl ([.ref xo, .int a1, .int a2])).length) Slot.unset).toArray = ls at hl ⊢
  have hl : lv_has ls 5 [(0, .ref xo), (1, .int a1), (2, .int a2)] := hl
  have zm1 : ((-1) : Int32).toInt = -1 := by decide
  have z0 : (0 : Int32).toInt = 0 := by decide
  have z1 : (1 : Int32).toInt = 1 := by decide
  have z2 : (2 : Int32).toInt = 2 := by decide
  refine lv_aload_n hx hb dB_36_2_48.2.1.2.2 rfl (lv_at hl 0 rfl) ?_
  refine va_get (ci := 11) (v := .ref xn) (C := RX11) (T := TX11) (N := 12) hx hb hts (fun _ h => List.mem_cons_of_mem _ (List.mem_append_left _ (List.mem_append_right _ h))) hown hK.1 hP 0 rfl rfl 1 (by decide) (hts (.fieldLink RX11 31 "CutAtlas" "net" "LCutAtlas$Net;") (List.mem_of_getElem? (i := 1) rfl)) (fun _ h9 => h9) rfl dB_36_2_48.2.2.1.1 ?_
  refine lv_iload_n hx hb dB_36_2_48.2.2.1.2 rfl (lv_at hl 1 rfl) ?_
  refine ct_R hP hD [ob3_0_ xn vp vn n1 n2 n3 n4 n5] [1] (by decide) rfl (fun hPc hDw => ?_)
  have hFc := va_free (wc := []) hD hS hA [] rfl
  refine va_calli (va_runV (As := [.int a1]) (rest := []) ⟨hx, hb, hml, hown, hts⟩ (c_X3_hasLine l D cy s.heap.size xn n1 n2 n3 n4 n5 vp vn a1) (cwV 1 hts gX11_ask_X3_hasLine rfl rfl rfl ⟨rfl, hd_X3_hasLine⟩ ⟨Nat.le_of_ble_eq_true rfl, Nat.le_of_ble_eq_true rfl⟩) ⟨bl_, va_recvX hK.1 hP (ci := 3) (q0 := 1) rfl rfl, fun U hU hW => ⟨rfl, by rw [hU], by rw [hU]; exact hPc, kk_mv hW hK, hDw⟩⟩ rfl rfl hl.1 rfl (lv_room (Nat.le_of_ble_eq_true rfl)) dB_36_2_48.2.2.2.1 ⟨Nat.le_of_ble_eq_true rfl, Nat.le_of_ble_eq_true rfl⟩) hS (fun q _ h => hFc q h) hFc (fun r_1 u t H locs ht hvm hw hB hz1 hk1 hS => ?_)
  have hP : va_P D vwCl _ H := ro_keep hP hk1
  rcases hw with ⟨w_2, e_⟩ | ⟨w_2, e_⟩
  · have e_ := e_.symm
    subst e_
    refine lv_if_eq (tgt := 20) hx hb dB_36_2_48.2.2.2.2 (by decide) (fun c_3 => ?_) (fun c_3 => ?_)
    · exact absurd c_3 (by decide)
    · have _ := c_3
      refine lv_iload_n hx hb dB_36_2_49.1.1.1.1 rfl (lv_at hl 2 rfl) ?_
      refine lv_if_lt (tgt := 20) hx hb dB_36_2_49.1.1.1.2 (by decide) (fun c_4 => ?_) (fun c_4 => ?_)
      · have t_4 : a2.toInt < (0 : Int32).toInt := Int32.lt_iff_toInt_lt.mp c_4
        refine lv_iconst (v := (-1)) hx hb dB_36_2_49.1.2.1.2 (by decide) ?_
        rw [hQ]
        exact W.iret (v := (-1)) hx hb hr (fun t ht hW => ⟨⟨(-1), (), rfl, trivial, tr, by rw [ht]; exact hP, hD⟩, hS.F ht⟩) hS.2.2 dB_36_2_49.1.2.2.1
      · have t_4 : ¬ a2.toInt < (0 : Int32).toInt := fun h => c_4 (Int32.lt_iff_toInt_lt.mpr h)
        refine lv_iload_n hx hb dB_36_2_49.1.1.2.1 rfl (lv_at hl 2 rfl) ?_
        refine lv_iconst (v := 2) hx hb dB_36_2_49.1.1.2.2 (by decide) ?_
        refine lv_icmp_le (tgt := 22) hx hb dB_36_2_49.1.2.1.1 (by decide) (fun c_5 => ?_) (fun c_5 => ?_)
        · have t_5 : a2.toInt ≤ (2 : Int32).toInt := Int32.le_iff_toInt_le.mp c_5
          refine lv_aload_n hx hb dB_36_2_49.1.2.2.2 rfl (lv_at hl 0 rfl) ?_
          refine va_get (ci := 11) (v := .ref xk) (C := RX11) (T := TX11) (N := 12) hx hb hts (fun _ h => List.mem_cons_of_mem _ (List.mem_append_left _ (List.mem_append_right _ h))) hown hK.1 hP 0 rfl rfl 0 (by decide) (hts (.fieldLink RX11 22 "CutAtlas" "kinds" "[LCutAtlas$PlainKind;") (List.mem_of_getElem? (i := 2) rfl)) (fun _ h9 => h9) rfl dB_36_2_49.2.1.1.1 ?_
          refine lv_aload_n hx hb dB_36_2_49.2.1.1.2 rfl (lv_at hl 0 rfl) ?_
          refine va_get (ci := 11) (v := .ref xn) (C := RX11) (T := TX11) (N := 12) hx hb hts (fun _ h => List.mem_cons_of_mem _ (List.mem_append_left _ (List.mem_append_right _ h))) hown hK.1 hP 0 rfl rfl 1 (by decide) (hts (.fieldLink RX11 31 "CutAtlas" "net" "LCutAtlas$Net;") (List.mem_of_getElem? (i := 1) rfl)) (fun _ h9 => h9) rfl dB_36_2_49.2.1.2.1 ?_
          refine va_get (ci := 3) (v := .ref n1) (C := RX3) (T := TX3) (N := 7) hx hb hts (fun _ h => List.mem_cons_of_mem _ (List.mem_append_right _ h)) hown hK.1 hP 1 rfl rfl 2 (by decide) (hts (.fieldLink RX11 116 "CutAtlas$Net" "kinds" "[I") (List.mem_of_getElem? (i := 3) rfl)) (fun _ h9 => h9) rfl dB_36_2_49.2.1.2.2 ?_
          refine lv_iload_n hx hb dB_36_2_49.2.2.1.1 rfl (lv_at hl 1 rfl) ?_
          have h_6 : vp_in a1 40 := in_I (by omega) (by omega)
          refine va_iald hx hb hK.1 hP 2 0 rfl rfl (i := a1) h_6 dB_36_2_49.2.2.1.2 ?_
          refine lv_topi (fun y_7 ey_7 => ?_)
          have ry_7 : 0 ≤ y_7.toInt ∧ y_7.toInt ≤ 4 := by rw [ey_7]; exact r_fk _ (in_lt h_6)
          rcases sp_5 (x := y_7) (by omega) with rfl | rfl | rfl | rfl | rfl
          · refine va_aldq hx hb hK.1 hP 5 3 rfl rfl (i := 0) (by unfold vp_in; decide) dB_36_2_49.2.2.2.1 ?_
            refine lv_topv (v' := .ref k0) (by simp [va_up, va_rf, mf_, cl_0, cl_1, cl_2, cl_3, cl_4, kf_]) ?_
            refine lv_astore_n (lv' := [(3, .ref k0), (0, .ref xo), (1, .int a1), (2, .int a2)]) hx hb dB_36_2_49.2.2.2.2 rfl hl (by decide) rfl (fun ls hl => ?_)
            refine lv_iload_n hx hb dB_36_2_50.1.1.1.1 rfl (lv_at hl 3 rfl) ?_
            refine lv_iconst (v := 2) hx hb dB_36_2_50.1.1.1.2 (by decide) ?_
            refine lv_icmp_ne (tgt := 70) hx hb dB_36_2_50.1.1.2.1 (by decide) (fun c_8 => ?_) (fun c_8 => ?_)
            · have t_8 : ¬ a2.toInt = (2 : Int32).toInt := fun h => c_8 (Int32.toInt_inj.mp h)
              refine lv_iload_n hx hb dB_36_2_51.1.1.2.2 rfl (lv_at hl 3 rfl) ?_
              refine lv_if_ne (tgt := 78) hx hb dB_36_2_51.1.2.1.1 (by decide) (fun c_9 => ?_) (fun c_9 => ?_)
              · have t_9 : ¬ a2.toInt = (0 : Int32).toInt := fun h => c_9 (Int32.toInt_inj.mp h)
                refine lv_iconst (v := 0) hx hb dB_36_2_51.1.2.2.2 (by decide) ?_
                refine lv_istore (lv' := [(4, .int 0), (3, .ref k0), (0, .ref xo), (1, .int a1), (2, .int a2)]) hx hb dB_36_2_51.2.1.1.1 hl (by decide) rfl (fun ls hl => ?_)
                refine lv_aload_n hx hb dB_36_2_51.2.1.1.2 rfl (lv_at hl 2 rfl) ?_
                refine lv_dup hx hb dB_36_2_51.2.1.2.1 rfl ?_
                refine va_get (ci := 11) (v := .long tr) (C := RX11) (T := TX11) (N := 12) hx hb hts (fun _ h => List.mem_cons_of_mem _ (List.mem_append_left _ (List.mem_append_right _ h))) hown hK.1 hP 0 rfl rfl 10 (by decide) (hts (.fieldLink RX11 87 "CutAtlas" "traced" "J") (List.mem_of_getElem? (i := 4) rfl)) (fun _ h9 => h9) rfl dB_36_2_51.2.1.2.2 ?_
                refine lv_aload_n hx hb dB_36_2_51.2.2.1.1 rfl (lv_at hl 1 rfl) ?_
                refine lv_iload hx hb dB_36_2_51.2.2.1.2 (lv_at hl 0 rfl) ?_
                refine ct_R hP hD [] [] (by decide) rfl (fun hPc hDw => ?_)
                have hFc := va_free (wc := []) hD hS hA [] rfl
                refine va_calli (va_runV (As := [.int 0]) (rest := [.long tr, .ref xo]) ⟨hx, hb, hml, hown, hts⟩ (c_X6_letsMark l D cy H.size k0 (0 : Int32)) (cwV 1 hts gX11_ask_X6_letsMark rfl rfl rfl ⟨rfl, hd_X6_letsMark⟩ ⟨Nat.le_of_ble_eq_true rfl, Nat.le_of_ble_eq_true rfl⟩) ⟨bl_, va_recvX hK.1 hP (ci := 6) (q0 := 6) rfl rfl, fun U hU hW => ⟨rfl, by rw [hU], by rw [hU]; exact hPc, kk_mv hW hK, hDw⟩⟩ rfl rfl hl.1 rfl (lv_room (Nat.le_of_ble_eq_true rfl)) dB_36_2_51.2.2.2.1 ⟨Nat.le_of_ble_eq_true rfl, Nat.le_of_ble_eq_true rfl⟩) hS (fun q _ h => hFc q h) hFc (fun r_10 u t H locs ht hvm hw hB hz1 hk1 hS => ?_)
                have hP : va_P D vwCl _ H := ro_keep hP hk1
                refine lv_i2l (v := r_10.toInt64) hx hb dB_36_2_51.2.2.2.2 rfl ?_
                have q_92 : (r_10.toInt64).toInt = r_10.toInt := Int32.toInt_toInt64 r_10
                refine lv_ladd hx hb dB_36_2_52.1.1.1.1 ?_
                refine lv_topl (fun y_11 ey_11 => ?_)
                refine va_put (ci := 11) (v := .long y_11) (ty := .long) (C := RX11) (T := TX11) (N := 12) hx hb hts (fun _ h => List.mem_cons_of_mem _ (List.mem_append_left _ (List.mem_append_right _ h))) tyX11 tyX11_ok nmX11 hown hK.1 hP hD hS 0 rfl rfl 10 (by decide) (hts (.fieldLink RX11 87 "CutAtlas" "traced" "J") (List.mem_of_getElem? (i := 4) rfl)) (fun _ h9 => h9) rfl (by decide +kernel) rfl rfl (Nat.le_of_ble_eq_true rfl) dB_36_2_52.1.1.1.2 (fun H locs hP hD hS => ?_)
                refine pd_K [ob11_0_ xo xk xn xc xh xt xw xm xp pf ph y_11 fi, ob3_0_ xn vp vn n1 n2 n3 n4 n5, ai_ cy n1 40 fk, ai_ cy n4 40 fw, ai_ cy n5 40 fp, aq_ cy 3 xk 5 (kf_ k0 k1 k2 k3 k4), ob6_0_ k0, ob5_0_ k1, ob9_0_ k2, ob2_0_ k3, ob8_0_ k4] hP hD (fun hP hD => ?_)
                refine lv_aload_n hx hb dB_36_2_52.1.1.2.1 rfl (lv_at hl 1 rfl) ?_
                refine lv_aload_n hx hb dB_36_2_52.1.1.2.2 rfl (lv_at hl 2 rfl) ?_
                refine va_get (ci := 11) (v := .ref xn) (C := RX11) (T := TX11) (N := 12) hx hb hts (fun _ h => List.mem_cons_of_mem _ (List.mem_append_left _ (List.mem_append_right _ h))) hown hK.1 hP 0 rfl rfl 1 (by decide) (hts (.fieldLink RX11 31 "CutAtlas" "net" "LCutAtlas$Net;") (List.mem_of_getElem? (i := 1) rfl)) (fun _ h9 => h9) rfl dB_36_2_52.1.2.1.1 ?_
                refine va_get (ci := 3) (v := .ref n4) (C := RX3) (T := TX3) (N := 7) hx hb hts (fun _ h => List.mem_cons_of_mem _ (List.mem_append_right _ h)) hown hK.1 hP 1 rfl rfl 5 (by decide) (hts (.fieldLink RX11 129 "CutAtlas$Net" "widths" "[I") (List.mem_of_getElem? (i := 6) rfl)) (fun _ h9 => h9) rfl dB_36_2_52.1.2.1.2 ?_
                refine lv_iload_n hx hb dB_36_2_52.1.2.2.1 rfl (lv_at hl 3 rfl) ?_
                have h_12 : vp_in a1 40 := in_I (by omega) (by omega)
                refine va_iald hx hb hK.1 hP 3 0 rfl rfl (i := a1) h_12 dB_36_2_52.1.2.2.2 ?_
                refine lv_topi (fun y_13 ey_13 => ?_)
                refine lv_iload hx hb dB_36_2_52.2.1.1.1 (lv_at hl 0 rfl) ?_
                refine ct_R hP hD [] [] (by decide) rfl (fun hPc hDw => ?_)
                have hFc := va_free (wc := []) hD hS hA [] rfl
                refine va_calli (va_runV (As := [.int y_13, .int 0]) (rest := []) ⟨hx, hb, hml, hown, hts⟩ (c_X6_lets l D cy H.size k0 y_13 (0 : Int32)) (cwV 2 hts gX11_ask_X6_lets rfl rfl rfl ⟨rfl, hd_X6_lets⟩ ⟨Nat.le_of_ble_eq_true rfl, Nat.le_of_ble_eq_true rfl⟩) ⟨bl_, va_recvX hK.1 hP (ci := 6) (q0 := 6) rfl rfl, fun U hU hW => ⟨rfl, by rw [hU], by rw [hU]; exact hPc, kk_mv hW hK, hDw⟩⟩ rfl rfl hl.1 rfl (lv_room (Nat.le_of_ble_eq_true rfl)) dB_36_2_52.2.1.1.2 ⟨Nat.le_of_ble_eq_true rfl, Nat.le_of_ble_eq_true rfl⟩) hS (fun q _ h => hFc q h) hFc (fun r_14 u t H locs ht hvm hw hB hz1 hk1 hS => ?_)
                have hP : va_P D vwCl _ H := ro_keep hP hk1
                have f0_r_14 := hw
                rw [hQ]
                exact W.iret (v := r_14) hx hb hr (fun t ht hW => ⟨⟨r_14, (), rfl, trivial, y_11, by rw [ht]; exact hP, hD⟩, hS.F ht⟩) hS.2.2 dB_36_2_52.2.1.2.1
              · have t_9 : a2.toInt = (0 : Int32).toInt := congrArg Int32.toInt c_9
                refine lv_iconst (v := 1) hx hb dB_36_2_51.1.2.1.2 (by decide) ?_
                refine lv_goto (tgt := 79) hx hb dB_36_2_51.1.2.2.1 (by decide) ?_
                refine lv_istore (lv' := [(4, .int 1), (3, .ref k0), (0, .ref xo), (1, .int a1), (2, .int a2)]) hx hb dB_36_2_51.2.1.1.1 hl (by decide) rfl (fun ls hl => ?_)
                refine lv_aload_n hx hb dB_36_2_51.2.1.1.2 rfl (lv_at hl 2 rfl) ?_
                refine lv_dup hx hb dB_36_2_51.2.1.2.1 rfl ?_
                refine va_get (ci := 11) (v := .long tr) (C := RX11) (T := TX11) (N := 12) hx hb hts (fun _ h => List.mem_cons_of_mem _ (List.mem_append_left _ (List.mem_append_right _ h))) hown hK.1 hP 0 rfl rfl 10 (by decide) (hts (.fieldLink RX11 87 "CutAtlas" "traced" "J") (List.mem_of_getElem? (i := 4) rfl)) (fun _ h9 => h9) rfl dB_36_2_51.2.1.2.2 ?_
                refine lv_aload_n hx hb dB_36_2_51.2.2.1.1 rfl (lv_at hl 1 rfl) ?_
                refine lv_iload hx hb dB_36_2_51.2.2.1.2 (lv_at hl 0 rfl) ?_
                refine ct_R hP hD [] [] (by decide) rfl (fun hPc hDw => ?_)
                have hFc := va_free (wc := []) hD hS hA [] rfl
                refine va_calli (va_runV (As := [.int 1]) (rest := [.long tr, .ref xo]) ⟨hx, hb, hml, hown, hts⟩ (c_X6_letsMark l D cy H.size k0 (1 : Int32)) (cwV 1 hts gX11_ask_X6_letsMark rfl rfl rfl ⟨rfl, hd_X6_letsMark⟩ ⟨Nat.le_of_ble_eq_true rfl, Nat.le_of_ble_eq_true rfl⟩) ⟨bl_, va_recvX hK.1 hP (ci := 6) (q0 := 6) rfl rfl, fun U hU hW => ⟨rfl, by rw [hU], by rw [hU]; exact hPc, kk_mv hW hK, hDw⟩⟩ rfl rfl hl.1 rfl (lv_room (Nat.le_of_ble_eq_true rfl)) dB_36_2_51.2.2.2.1 ⟨Nat.le_of_ble_eq_true rfl, Nat.le_of_ble_eq_true rfl⟩) hS (fun q _ h => hFc q h) hFc (fun r_15 u t H locs ht hvm hw hB hz1 hk1 hS => ?_)
                have hP : va_P D vwCl _ H := ro_keep hP hk1
                refine lv_i2l (v := r_15.toInt64) hx hb dB_36_2_51.2.2.2.2 rfl ?_
                have q_92 : (r_15.toInt64).toInt = r_15.toInt := Int32.toInt_toInt64 r_15
                refine lv_ladd hx hb dB_36_2_52.1.1.1.1 ?_
                refine lv_topl (fun y_16 ey_16 => ?_)
                refine va_put (ci := 11) (v := .long y_16) (ty := .long) (C := RX11) (T := TX11) (N := 12) hx hb hts (fun _ h => List.mem_cons_of_mem _ (List.mem_append_left _ (List.mem_append_right _ h))) tyX11 tyX11_ok nmX11 hown hK.1 hP hD hS 0 rfl rfl 10 (by decide) (hts (.fieldLink RX11 87 "CutAtlas" "traced" "J") (List.mem_of_getElem? (i := 4) rfl)) (fun _ h9 => h9) rfl (by decide +kernel) rfl rfl (Nat.le_of_ble_eq_true rfl) dB_36_2_52.1.1.1.2 (fun H locs hP hD hS => ?_)
                refine pd_K [ob11_0_ xo xk xn xc xh xt xw xm xp pf ph y_16 fi, ob3_0_ xn vp vn n1 n2 n3 n4 n5, ai_ cy n1 40 fk, ai_ cy n4 40 fw, ai_ cy n5 40 fp, aq_ cy 3 xk 5 (kf_ k0 k1 k2 k3 k4), ob6_0_ k0, ob5_0_ k1, ob9_0_ k2, ob2_0_ k3, ob8_0_ k4] hP hD (fun hP hD => ?_)
                refine lv_aload_n hx hb dB_36_2_52.1.1.2.1 rfl (lv_at hl 1 rfl) ?_
                refine lv_aload_n hx hb dB_36_2_52.1.1.2.2 rfl (lv_at hl 2 rfl) ?_
                refine va_get (ci := 11) (v := .ref xn) (C := RX11) (T := TX11) (N := 12) hx hb hts (fun _ h => List.mem_cons_of_mem _ (List.mem_append_left _ (List.mem_append_right _ h))) hown hK.1 hP 0 rfl rfl 1 (by decide) (hts (.fieldLink RX11 31 "CutAtlas" "net" "LCutAtlas$Net;") (List.mem_of_getElem? (i := 1) rfl)) (fun _ h9 => h9) rfl dB_36_2_52.1.2.1.1 ?_
                refine va_get (ci := 3) (v := .ref n4) (C := RX3) (T := TX3) (N := 7) hx hb hts (fun _ h => List.mem_cons_of_mem _ (List.mem_append_right _ h)) hown hK.1 hP 1 rfl rfl 5 (by decide) (hts (.fieldLink RX11 129 "CutAtlas$Net" "widths" "[I") (List.mem_of_getElem? (i := 6) rfl)) (fun _ h9 => h9) rfl dB_36_2_52.1.2.1.2 ?_
                refine lv_iload_n hx hb dB_36_2_52.1.2.2.1 rfl (lv_at hl 3 rfl) ?_
                have h_17 : vp_in a1 40 := in_I (by omega) (by omega)
                refine va_iald hx hb hK.1 hP 3 0 rfl rfl (i := a1) h_17 dB_36_2_52.1.2.2.2 ?_
                refine lv_topi (fun y_18 ey_18 => ?_)
                refine lv_iload hx hb dB_36_2_52.2.1.1.1 (lv_at hl 0 rfl) ?_
                refine ct_R hP hD [] [] (by decide) rfl (fun hPc hDw => ?_)
                have hFc := va_free (wc := []) hD hS hA [] rfl
                refine va_calli (va_runV (As := [.int y_18, .int 1]) (rest := []) ⟨hx, hb, hml, hown, hts⟩ (c_X6_lets l D cy H.size k0 y_18 (1 : Int32)) (cwV 2 hts gX11_ask_X6_lets rfl rfl rfl ⟨rfl, hd_X6_lets⟩ ⟨Nat.le_of_ble_eq_true rfl, Nat.le_of_ble_eq_true rfl⟩) ⟨bl_, va_recvX hK.1 hP (ci := 6) (q0 := 6) rfl rfl, fun U hU hW => ⟨rfl, by rw [hU], by rw [hU]; exact hPc, kk_mv hW hK, hDw⟩⟩ rfl rfl hl.1 rfl (lv_room (Nat.le_of_ble_eq_true rfl)) dB_36_2_52.2.1.1.2 ⟨Nat.le_of_ble_eq_true rfl, Nat.le_of_ble_eq_true rfl⟩) hS (fun q _ h => hFc q h) hFc (fun r_19 u t H locs ht hvm hw hB hz1 hk1 hS => ?_)
                have hP : va_P D vwCl _ H := ro_keep hP hk1
                have f0_r_19 := hw
                rw [hQ]
                exact W.iret (v := r_19) hx hb hr (fun t ht hW => ⟨⟨r_19, (), rfl, trivial, y_16, by rw [ht]; exact hP, hD⟩, hS.F ht⟩) hS.2.2 dB_36_2_52.2.1.2.1
            · have t_8 : a2.toInt = (2 : Int32).toInt := congrArg Int32.toInt c_8
              refine lv_aload_n hx hb dB_36_2_50.1.1.2.2 rfl (lv_at hl 1 rfl) ?_
              refine lv_dup hx hb dB_36_2_50.1.2.1.1 rfl ?_
              refine va_get (ci := 11) (v := .long tr) (C := RX11) (T := TX11) (N := 12) hx hb hts (fun _ h => List.mem_cons_of_mem _ (List.mem_append_left _ (List.mem_append_right _ h))) hown hK.1 hP 0 rfl rfl 10 (by decide) (hts (.fieldLink RX11 87 "CutAtlas" "traced" "J") (List.mem_of_getElem? (i := 4) rfl)) (fun _ h9 => h9) rfl dB_36_2_50.1.2.1.2 ?_
              refine lv_aload_n hx hb dB_36_2_50.1.2.2.1 rfl (lv_at hl 0 rfl) ?_
              refine ct_R hP hD [] [] (by decide) rfl (fun hPc hDw => ?_)
              have hFc := va_free (wc := []) hD hS hA [] rfl
              refine va_calli (va_runV (As := []) (rest := [.long tr, .ref xo]) ⟨hx, hb, hml, hown, hts⟩ (c_X6_costsMark l D cy H.size k0) (cwV 0 hts gX11_ask_X6_costsMark rfl rfl rfl ⟨rfl, hd_X6_costsMark⟩ ⟨Nat.le_of_ble_eq_true rfl, Nat.le_of_ble_eq_true rfl⟩) ⟨bl_, va_recvX hK.1 hP (ci := 6) (q0 := 6) rfl rfl, fun U hU hW => ⟨rfl, by rw [hU], by rw [hU]; exact hPc, kk_mv hW hK, hDw⟩⟩ rfl rfl hl.1 rfl (lv_room (Nat.le_of_ble_eq_true rfl)) dB_36_2_50.1.2.2.2 ⟨Nat.le_of_ble_eq_true rfl, Nat.le_of_ble_eq_true rfl⟩) hS (fun q _ h => hFc q h) hFc (fun r_20 u t H locs ht hvm hw hB hz1 hk1 hS => ?_)
              have hP : va_P D vwCl _ H := ro_keep hP hk1
              refine lv_i2l (v := r_20.toInt64) hx hb dB_36_2_50.2.1.1.1 rfl ?_
              have q_51 : (r_20.toInt64).toInt = r_20.toInt := Int32.toInt_toInt64 r_20
              refine lv_ladd hx hb dB_36_2_50.2.1.1.2 ?_
              refine lv_topl (fun y_21 ey_21 => ?_)
              refine va_put (ci := 11) (v := .long y_21) (ty := .long) (C := RX11) (T := TX11) (N := 12) hx hb hts (fun _ h => List.mem_cons_of_mem _ (List.mem_append_left _ (List.mem_append_right _ h))) tyX11 tyX11_ok nmX11 hown hK.1 hP hD hS 0 rfl rfl 10 (by decide) (hts (.fieldLink RX11 87 "CutAtlas" "traced" "J") (List.mem_of_getElem? (i := 4) rfl)) (fun _ h9 => h9) rfl (by decide +kernel) rfl rfl (Nat.le_of_ble_eq_true rfl) dB_36_2_50.2.1.2.1 (fun H locs hP hD hS => ?_)
              refine pd_K [ob11_0_ xo xk xn xc xh xt xw xm xp pf ph y_21 fi, ob3_0_ xn vp vn n1 n2 n3 n4 n5, ai_ cy n1 40 fk, ai_ cy n4 40 fw, ai_ cy n5 40 fp, aq_ cy 3 xk 5 (kf_ k0 k1 k2 k3 k4), ob6_0_ k0, ob5_0_ k1, ob9_0_ k2, ob2_0_ k3, ob8_0_ k4] hP hD (fun hP hD => ?_)
              refine lv_aload_n hx hb dB_36_2_50.2.1.2.2 rfl (lv_at hl 0 rfl) ?_
              refine lv_aload_n hx hb dB_36_2_50.2.2.1.1 rfl (lv_at hl 1 rfl) ?_
              refine va_get (ci := 11) (v := .ref xn) (C := RX11) (T := TX11) (N := 12) hx hb hts (fun _ h => List.mem_cons_of_mem _ (List.mem_append_left _ (List.mem_append_right _ h))) hown hK.1 hP 0 rfl rfl 1 (by decide) (hts (.fieldLink RX11 31 "CutAtlas" "net" "LCutAtlas$Net;") (List.mem_of_getElem? (i := 1) rfl)) (fun _ h9 => h9) rfl dB_36_2_50.2.2.1.2 ?_
              refine va_get (ci := 3) (v := .ref n5) (C := RX3) (T := TX3) (N := 7) hx hb hts (fun _ h => List.mem_cons_of_mem _ (List.mem_append_right _ h)) hown hK.1 hP 1 rfl rfl 6 (by decide) (hts (.fieldLink RX11 119 "CutAtlas$Net" "prices" "[I") (List.mem_of_getElem? (i := 5) rfl)) (fun _ h9 => h9) rfl dB_36_2_50.2.2.2.1 ?_
              refine lv_iload_n hx hb dB_36_2_50.2.2.2.2 rfl (lv_at hl 2 rfl) ?_
              have h_22 : vp_in a1 40 := in_I (by omega) (by omega)
              refine va_iald hx hb hK.1 hP 4 0 rfl rfl (i := a1) h_22 dB_36_2_51.1.1.1.1 ?_
              refine lv_topi (fun y_23 ey_23 => ?_)
              refine ct_R hP hD [] [] (by decide) rfl (fun hPc hDw => ?_)
              have hFc := va_free (wc := []) hD hS hA [] rfl
              refine va_calli (va_runV (As := [.int y_23]) (rest := []) ⟨hx, hb, hml, hown, hts⟩ (c_X6_costs l D cy H.size k0 y_23) (cwV 1 hts gX11_ask_X6_costs rfl rfl rfl ⟨rfl, hd_X6_costs⟩ ⟨Nat.le_of_ble_eq_true rfl, Nat.le_of_ble_eq_true rfl⟩) ⟨bl_, va_recvX hK.1 hP (ci := 6) (q0 := 6) rfl rfl, fun U hU hW => ⟨rfl, by rw [hU], by rw [hU]; exact hPc, kk_mv hW hK, hDw⟩⟩ rfl rfl hl.1 rfl (lv_room (Nat.le_of_ble_eq_true rfl)) dB_36_2_51.1.1.1.2 ⟨Nat.le_of_ble_eq_true rfl, Nat.le_of_ble_eq_true rfl⟩) hS (fun q _ h => hFc q h) hFc (fun r_24 u t H locs ht hvm hw hB hz1 hk1 hS => ?_)
              have hP : va_P D vwCl _ H := ro_keep hP hk1
              have f0_r_24 := hw
              rw [hQ]
              exact W.iret (v := r_24) hx hb hr (fun t ht hW => ⟨⟨r_24, (), rfl, trivial, y_21, by rw [ht]; exact hP, hD⟩, hS.F ht⟩) hS.2.2 dB_36_2_51.1.1.2.1
          · refine va_aldq hx hb hK.1 hP 5 3 rfl rfl (i := 1) (by unfold vp_in; decide) dB_36_2_49.2.2.2.1 ?_
            refine lv_topv (v' := .ref k1) (by simp [va_up, va_rf, mf_, cl_0, cl_1, cl_2, cl_3, cl_4, kf_]) ?_
            refine lv_astore_n (lv' := [(3, .ref k1), (0, .ref xo), (1, .int a1), (2, .int a2)]) hx hb dB_36_2_49.2.2.2.2 rfl hl (by decide) rfl (fun ls hl => ?_)
            refine lv_iload_n hx hb dB_36_2_50.1.1.1.1 rfl (lv_at hl 3 rfl) ?_
            refine lv_iconst (v := 2) hx hb dB_36_2_50.1.1.1.2 (by decide) ?_
            refine lv_icmp_ne (tgt := 70) hx hb dB_36_2_50.1.1.2.1 (by decide) (fun c_25 => ?_) (fun c_25 => ?_)
            · have t_25 : ¬ a2.toInt = (2 : Int32).toInt := fun h => c_25 (Int32.toInt_inj.mp h)
              refine lv_iload_n hx hb dB_36_2_51.1.1.2.2 rfl (lv_at hl 3 rfl) ?_
              refine lv_if_ne (tgt := 78) hx hb dB_36_2_51.1.2.1.1 (by decide) (fun c_26 => ?_) (fun c_26 => ?_)
              · have t_26 : ¬ a2.toInt = (0 : Int32).toInt := fun h => c_26 (Int32.toInt_inj.mp h)
                refine lv_iconst (v := 0) hx hb dB_36_2_51.1.2.2.2 (by decide) ?_
                refine lv_istore (lv' := [(4, .int 0), (3, .ref k1), (0, .ref xo), (1, .int a1), (2, .int a2)]) hx hb dB_36_2_51.2.1.1.1 hl (by decide) rfl (fun ls hl => ?_)
                refine lv_aload_n hx hb dB_36_2_51.2.1.1.2 rfl (lv_at hl 2 rfl) ?_
                refine lv_dup hx hb dB_36_2_51.2.1.2.1 rfl ?_
                refine va_get (ci := 11) (v := .long tr) (C := RX11) (T := TX11) (N := 12) hx hb hts (fun _ h => List.mem_cons_of_mem _ (List.mem_append_left _ (List.mem_append_right _ h))) hown hK.1 hP 0 rfl rfl 10 (by decide) (hts (.fieldLink RX11 87 "CutAtlas" "traced" "J") (List.mem_of_getElem? (i := 4) rfl)) (fun _ h9 => h9) rfl dB_36_2_51.2.1.2.2 ?_
                refine lv_aload_n hx hb dB_36_2_51.2.2.1.1 rfl (lv_at hl 1 rfl) ?_
                refine lv_iload hx hb dB_36_2_51.2.2.1.2 (lv_at hl 0 rfl) ?_
                refine ct_R hP hD [ob5_0_ k1] [7] (by decide) rfl (fun hPc hDw => ?_)
                have hFc := va_free (wc := []) hD hS hA [] rfl
                refine va_calli (va_runU (As := [.int 0]) (rest := [.long tr, .ref xo]) ⟨hx, hb, hml, hown, hts⟩ (c_X5_letsMark l D cy H.size k1 (0 : Int32)) (va_cwO 1 hts gX11_ask_X5_letsMark_u161X5 rfl rfl rfl (b0 := cX6_letsMark) (m0 := 2) (r0 := (some .int)) (by decide +kernel) (by decide +kernel) ⟨Nat.le_of_ble_eq_true rfl, Nat.le_of_ble_eq_true rfl⟩) ⟨bl_, va_recvX hK.1 hP (ci := 5) (q0 := 7) rfl rfl, fun U hU hW => ⟨rfl, by rw [hU], by rw [hU]; exact hPc, kk_mv hW hK, hDw⟩⟩ rfl rfl hl.1 rfl (lv_room (Nat.le_of_ble_eq_true rfl)) dB_36_2_51.2.2.2.1 ⟨Nat.le_of_ble_eq_true rfl, Nat.le_of_ble_eq_true rfl⟩) hS (fun q _ h => hFc q h) hFc (fun r_27 u t H locs ht hvm hw hB hz1 hk1 hS => ?_)
                have hP : va_P D vwCl _ H := ro_keep hP hk1
                refine lv_i2l (v := r_27.toInt64) hx hb dB_36_2_51.2.2.2.2 rfl ?_
                have q_92 : (r_27.toInt64).toInt = r_27.toInt := Int32.toInt_toInt64 r_27
                refine lv_ladd hx hb dB_36_2_52.1.1.1.1 ?_
                refine lv_topl (fun y_28 ey_28 => ?_)
                refine va_put (ci := 11) (v := .long y_28) (ty := .long) (C := RX11) (T := TX11) (N := 12) hx hb hts (fun _ h => List.mem_cons_of_mem _ (List.mem_append_left _ (List.mem_append_right _ h))) tyX11 tyX11_ok nmX11 hown hK.1 hP hD hS 0 rfl rfl 10 (by decide) (hts (.fieldLink RX11 87 "CutAtlas" "traced" "J") (List.mem_of_getElem? (i := 4) rfl)) (fun _ h9 => h9) rfl (by decide +kernel) rfl rfl (Nat.le_of_ble_eq_true rfl) dB_36_2_52.1.1.1.2 (fun H locs hP hD hS => ?_)
                refine pd_K [ob11_0_ xo xk xn xc xh xt xw xm xp pf ph y_28 fi, ob3_0_ xn vp vn n1 n2 n3 n4 n5, ai_ cy n1 40 fk, ai_ cy n4 40 fw, ai_ cy n5 40 fp, aq_ cy 3 xk 5 (kf_ k0 k1 k2 k3 k4), ob6_0_ k0, ob5_0_ k1, ob9_0_ k2, ob2_0_ k3, ob8_0_ k4] hP hD (fun hP hD => ?_)
                refine lv_aload_n hx hb dB_36_2_52.1.1.2.1 rfl (lv_at hl 1 rfl) ?_
                refine lv_aload_n hx hb dB_36_2_52.1.1.2.2 rfl (lv_at hl 2 rfl) ?_
                refine va_get (ci := 11) (v := .ref xn) (C := RX11) (T := TX11) (N := 12) hx hb hts (fun _ h => List.mem_cons_of_mem _ (List.mem_append_left _ (List.mem_append_right _ h))) hown hK.1 hP 0 rfl rfl 1 (by decide) (hts (.fieldLink RX11 31 "CutAtlas" "net" "LCutAtlas$Net;") (List.mem_of_getElem? (i := 1) rfl)) (fun _ h9 => h9) rfl dB_36_2_52.1.2.1.1 ?_
                refine va_get (ci := 3) (v := .ref n4) (C := RX3) (T := TX3) (N := 7) hx hb hts (fun _ h => List.mem_cons_of_mem _ (List.mem_append_right _ h)) hown hK.1 hP 1 rfl rfl 5 (by decide) (hts (.fieldLink RX11 129 "CutAtlas$Net" "widths" "[I") (List.mem_of_getElem? (i := 6) rfl)) (fun _ h9 => h9) rfl dB_36_2_52.1.2.1.2 ?_
                refine lv_iload_n hx hb dB_36_2_52.1.2.2.1 rfl (lv_at hl 3 rfl) ?_
                have h_29 : vp_in a1 40 := in_I (by omega) (by omega)
                refine va_iald hx hb hK.1 hP 3 0 rfl rfl (i := a1) h_29 dB_36_2_52.1.2.2.2 ?_
                refine lv_topi (fun y_30 ey_30 => ?_)
                refine lv_iload hx hb dB_36_2_52.2.1.1.1 (lv_at hl 0 rfl) ?_
                refine ct_R hP hD [ob5_0_ k1] [7] (by decide) rfl (fun hPc hDw => ?_)
                have hFc := va_free (wc := []) hD hS hA [] rfl
                refine va_calli (va_runU (As := [.int y_30, .int 0]) (rest := []) ⟨hx, hb, hml, hown, hts⟩ (c_X5_lets l D cy H.size k1 y_30 (0 : Int32)) (va_cwO 2 hts gX11_ask_X5_lets_u165X5 rfl rfl rfl (b0 := cX6_lets) (m0 := 3) (r0 := (some .int)) (by decide +kernel) (by decide +kernel) ⟨Nat.le_of_ble_eq_true rfl, Nat.le_of_ble_eq_true rfl⟩) ⟨bl_, va_recvX hK.1 hP (ci := 5) (q0 := 7) rfl rfl, fun U hU hW => ⟨rfl, by rw [hU], by rw [hU]; exact hPc, kk_mv hW hK, hDw⟩⟩ rfl rfl hl.1 rfl (lv_room (Nat.le_of_ble_eq_true rfl)) dB_36_2_52.2.1.1.2 ⟨Nat.le_of_ble_eq_true rfl, Nat.le_of_ble_eq_true rfl⟩) hS (fun q _ h => hFc q h) hFc (fun r_31 u t H locs ht hvm hw hB hz1 hk1 hS => ?_)
                have hP : va_P D vwCl _ H := ro_keep hP hk1
                rw [hQ]
                exact W.iret (v := r_31) hx hb hr (fun t ht hW => ⟨⟨r_31, (), rfl, trivial, y_28, by rw [ht]; exact hP, hD⟩, hS.F ht⟩) hS.2.2 dB_36_2_52.2.1.2.1
              · have t_26 : a2.toInt = (0 : Int32).toInt := congrArg Int32.toInt c_26
                refine lv_iconst (v := 1) hx hb dB_36_2_51.1.2.1.2 (by decide) ?_
                refine lv_goto (tgt := 79) hx hb dB_36_2_51.1.2.2.1 (by decide) ?_
                refine lv_istore (lv' := [(4, .int 1), (3, .ref k1), (0, .ref xo), (1, .int a1), (2, .int a2)]) hx hb dB_36_2_51.2.1.1.1 hl (by decide) rfl (fun ls hl => ?_)
                refine lv_aload_n hx hb dB_36_2_51.2.1.1.2 rfl (lv_at hl 2 rfl) ?_
                refine lv_dup hx hb dB_36_2_51.2.1.2.1 rfl ?_
                refine va_get (ci := 11) (v := .long tr) (C := RX11) (T := TX11) (N := 12) hx hb hts (fun _ h => List.mem_cons_of_mem _ (List.mem_append_left _ (List.mem_append_right _ h))) hown hK.1 hP 0 rfl rfl 10 (by decide) (hts (.fieldLink RX11 87 "CutAtlas" "traced" "J") (List.mem_of_getElem? (i := 4) rfl)) (fun _ h9 => h9) rfl dB_36_2_51.2.1.2.2 ?_
                refine lv_aload_n hx hb dB_36_2_51.2.2.1.1 rfl (lv_at hl 1 rfl) ?_
                refine lv_iload hx hb dB_36_2_51.2.2.1.2 (lv_at hl 0 rfl) ?_
                refine ct_R hP hD [ob5_0_ k1] [7] (by decide) rfl (fun hPc hDw => ?_)
                have hFc := va_free (wc := []) hD hS hA [] rfl
                refine va_calli (va_runU (As := [.int 1]) (rest := [.long tr, .ref xo]) ⟨hx, hb, hml, hown, hts⟩ (c_X5_letsMark l D cy H.size k1 (1 : Int32)) (va_cwO 1 hts gX11_ask_X5_letsMark_u161X5 rfl rfl rfl (b0 := cX6_letsMark) (m0 := 2) (r0 := (some .int)) (by decide +kernel) (by decide +kernel) ⟨Nat.le_of_ble_eq_true rfl, Nat.le_of_ble_eq_true rfl⟩) ⟨bl_, va_recvX hK.1 hP (ci := 5) (q0 := 7) rfl rfl, fun U hU hW => ⟨rfl, by rw [hU], by rw [hU]; exact hPc, kk_mv hW hK, hDw⟩⟩ rfl rfl hl.1 rfl (lv_room (Nat.le_of_ble_eq_true rfl)) dB_36_2_51.2.2.2.1 ⟨Nat.le_of_ble_eq_true rfl, Nat.le_of_ble_eq_true rfl⟩) hS (fun q _ h => hFc q h) hFc (fun r_32 u t H locs ht hvm hw hB hz1 hk1 hS => ?_)
                have hP : va_P D vwCl _ H := ro_keep hP hk1
                refine lv_i2l (v := r_32.toInt64) hx hb dB_36_2_51.2.2.2.2 rfl ?_
                have q_92 : (r_32.toInt64).toInt = r_32.toInt := Int32.toInt_toInt64 r_32
                refine lv_ladd hx hb dB_36_2_52.1.1.1.1 ?_
                refine lv_topl (fun y_33 ey_33 => ?_)
                refine va_put (ci := 11) (v := .long y_33) (ty := .long) (C := RX11) (T := TX11) (N := 12) hx hb hts (fun _ h => List.mem_cons_of_mem _ (List.mem_append_left _ (List.mem_append_right _ h))) tyX11 tyX11_ok nmX11 hown hK.1 hP hD hS 0 rfl rfl 10 (by decide) (hts (.fieldLink RX11 87 "CutAtlas" "traced" "J") (List.mem_of_getElem? (i := 4) rfl)) (fun _ h9 => h9) rfl (by decide +kernel) rfl rfl (Nat.le_of_ble_eq_true rfl) dB_36_2_52.1.1.1.2 (fun H locs hP hD hS => ?_)
                refine pd_K [ob11_0_ xo xk xn xc xh xt xw xm xp pf ph y_33 fi, ob3_0_ xn vp vn n1 n2 n3 n4 n5, ai_ cy n1 40 fk, ai_ cy n4 40 fw, ai_ cy n5 40 fp, aq_ cy 3 xk 5 (kf_ k0 k1 k2 k3 k4), ob6_0_ k0, ob5_0_ k1, ob9_0_ k2, ob2_0_ k3, ob8_0_ k4] hP hD (fun hP hD => ?_)
                refine lv_aload_n hx hb dB_36_2_52.1.1.2.1 rfl (lv_at hl 1 rfl) ?_
                refine lv_aload_n hx hb dB_36_2_52.1.1.2.2 rfl (lv_at hl 2 rfl) ?_
                refine va_get (ci := 11) (v := .ref xn) (C := RX11) (T := TX11) (N := 12) hx hb hts (fun _ h => List.mem_cons_of_mem _ (List.mem_append_left _ (List.mem_append_right _ h))) hown hK.1 hP 0 rfl rfl 1 (by decide) (hts (.fieldLink RX11 31 "CutAtlas" "net" "LCutAtlas$Net;") (List.mem_of_getElem? (i := 1) rfl)) (fun _ h9 => h9) rfl dB_36_2_52.1.2.1.1 ?_
                refine va_get (ci := 3) (v := .ref n4) (C := RX3) (T := TX3) (N := 7) hx hb hts (fun _ h => List.mem_cons_of_mem _ (List.mem_append_right _ h)) hown hK.1 hP 1 rfl rfl 5 (by decide) (hts (.fieldLink RX11 129 "CutAtlas$Net" "widths" "[I") (List.mem_of_getElem? (i := 6) rfl)) (fun _ h9 => h9) rfl dB_36_2_52.1.2.1.2 ?_
                refine lv_iload_n hx hb dB_36_2_52.1.2.2.1 rfl (lv_at hl 3 rfl) ?_
                have h_34 : vp_in a1 40 := in_I (by omega) (by omega)
                refine va_iald hx hb hK.1 hP 3 0 rfl rfl (i := a1) h_34 dB_36_2_52.1.2.2.2 ?_
                refine lv_topi (fun y_35 ey_35 => ?_)
                refine lv_iload hx hb dB_36_2_52.2.1.1.1 (lv_at hl 0 rfl) ?_
                refine ct_R hP hD [ob5_0_ k1] [7] (by decide) rfl (fun hPc hDw => ?_)
                have hFc := va_free (wc := []) hD hS hA [] rfl
                refine va_calli (va_runU (As := [.int y_35, .int 1]) (rest := []) ⟨hx, hb, hml, hown, hts⟩ (c_X5_lets l D cy H.size k1 y_35 (1 : Int32)) (va_cwO 2 hts gX11_ask_X5_lets_u165X5 rfl rfl rfl (b0 := cX6_lets) (m0 := 3) (r0 := (some .int)) (by decide +kernel) (by decide +kernel) ⟨Nat.le_of_ble_eq_true rfl, Nat.le_of_ble_eq_true rfl⟩) ⟨bl_, va_recvX hK.1 hP (ci := 5) (q0 := 7) rfl rfl, fun U hU hW => ⟨rfl, by rw [hU], by rw [hU]; exact hPc, kk_mv hW hK, hDw⟩⟩ rfl rfl hl.1 rfl (lv_room (Nat.le_of_ble_eq_true rfl)) dB_36_2_52.2.1.1.2 ⟨Nat.le_of_ble_eq_true rfl, Nat.le_of_ble_eq_true rfl⟩) hS (fun q _ h => hFc q h) hFc (fun r_36 u t H locs ht hvm hw hB hz1 hk1 hS => ?_)
                have hP : va_P D vwCl _ H := ro_keep hP hk1
                rw [hQ]
                exact W.iret (v := r_36) hx hb hr (fun t ht hW => ⟨⟨r_36, (), rfl, trivial, y_33, by rw [ht]; exact hP, hD⟩, hS.F ht⟩) hS.2.2 dB_36_2_52.2.1.2.1
            · have t_25 : a2.toInt = (2 : Int32).toInt := congrArg Int32.toInt c_25
              refine lv_aload_n hx hb dB_36_2_50.1.1.2.2 rfl (lv_at hl 1 rfl) ?_
              refine lv_dup hx hb dB_36_2_50.1.2.1.1 rfl ?_
              refine va_get (ci := 11) (v := .long tr) (C := RX11) (T := TX11) (N := 12) hx hb hts (fun _ h => List.mem_cons_of_mem _ (List.mem_append_left _ (List.mem_append_right _ h))) hown hK.1 hP 0 rfl rfl 10 (by decide) (hts (.fieldLink RX11 87 "CutAtlas" "traced" "J") (List.mem_of_getElem? (i := 4) rfl)) (fun _ h9 => h9) rfl dB_36_2_50.1.2.1.2 ?_
              refine lv_aload_n hx hb dB_36_2_50.1.2.2.1 rfl (lv_at hl 0 rfl) ?_
              refine ct_R hP hD [] [] (by decide) rfl (fun hPc hDw => ?_)
              have hFc := va_free (wc := []) hD hS hA [] rfl
              refine va_calli (va_runU (As := []) (rest := [.long tr, .ref xo]) ⟨hx, hb, hml, hown, hts⟩ (c_X6_costsMark l D cy H.size k1) (va_cwU 0 hts gX11_ask_X6_costsMark_u132X5 rfl rfl rfl rfl (by decide +kernel) ⟨Nat.le_of_ble_eq_true rfl, Nat.le_of_ble_eq_true rfl⟩) ⟨bl_, va_recvX hK.1 hP (ci := 5) (q0 := 7) rfl rfl, fun U hU hW => ⟨rfl, by rw [hU], by rw [hU]; exact hPc, kk_mv hW hK, hDw⟩⟩ rfl rfl hl.1 rfl (lv_room (Nat.le_of_ble_eq_true rfl)) dB_36_2_50.1.2.2.2 ⟨Nat.le_of_ble_eq_true rfl, Nat.le_of_ble_eq_true rfl⟩) hS (fun q _ h => hFc q h) hFc (fun r_37 u t H locs ht hvm hw hB hz1 hk1 hS => ?_)
              have hP : va_P D vwCl _ H := ro_keep hP hk1
              refine lv_i2l (v := r_37.toInt64) hx hb dB_36_2_50.2.1.1.1 rfl ?_
              have q_51 : (r_37.toInt64).toInt = r_37.toInt := Int32.toInt_toInt64 r_37
              refine lv_ladd hx hb dB_36_2_50.2.1.1.2 ?_
              refine lv_topl (fun y_38 ey_38 => ?_)
              refine va_put (ci := 11) (v := .long y_38) (ty := .long) (C := RX11) (T := TX11) (N := 12) hx hb hts (fun _ h => List.mem_cons_of_mem _ (List.mem_append_left _ (List.mem_append_right _ h))) tyX11 tyX11_ok nmX11 hown hK.1 hP hD hS 0 rfl rfl 10 (by decide) (hts (.fieldLink RX11 87 "CutAtlas" "traced" "J") (List.mem_of_getElem? (i := 4) rfl)) (fun _ h9 => h9) rfl (by decide +kernel) rfl rfl (Nat.le_of_ble_eq_true rfl) dB_36_2_50.2.1.2.1 (fun H locs hP hD hS => ?_)
              refine pd_K [ob11_0_ xo xk xn xc xh xt xw xm xp pf ph y_38 fi, ob3_0_ xn vp vn n1 n2 n3 n4 n5, ai_ cy n1 40 fk, ai_ cy n4 40 fw, ai_ cy n5 40 fp, aq_ cy 3 xk 5 (kf_ k0 k1 k2 k3 k4), ob6_0_ k0, ob5_0_ k1, ob9_0_ k2, ob2_0_ k3, ob8_0_ k4] hP hD (fun hP hD => ?_)
              refine lv_aload_n hx hb dB_36_2_50.2.1.2.2 rfl (lv_at hl 0 rfl) ?_
              refine lv_aload_n hx hb dB_36_2_50.2.2.1.1 rfl (lv_at hl 1 rfl) ?_
              refine va_get (ci := 11) (v := .ref xn) (C := RX11) (T := TX11) (N := 12) hx hb hts (fun _ h => List.mem_cons_of_mem _ (List.mem_append_left _ (List.mem_append_right _ h))) hown hK.1 hP 0 rfl rfl 1 (by decide) (hts (.fieldLink RX11 31 "CutAtlas" "net" "LCutAtlas$Net;") (List.mem_of_getElem? (i := 1) rfl)) (fun _ h9 => h9) rfl dB_36_2_50.2.2.1.2 ?_
              refine va_get (ci := 3) (v := .ref n5) (C := RX3) (T := TX3) (N := 7) hx hb hts (fun _ h => List.mem_cons_of_mem _ (List.mem_append_right _ h)) hown hK.1 hP 1 rfl rfl 6 (by decide) (hts (.fieldLink RX11 119 "CutAtlas$Net" "prices" "[I") (List.mem_of_getElem? (i := 5) rfl)) (fun _ h9 => h9) rfl dB_36_2_50.2.2.2.1 ?_
              refine lv_iload_n hx hb dB_36_2_50.2.2.2.2 rfl (lv_at hl 2 rfl) ?_
              have h_39 : vp_in a1 40 := in_I (by omega) (by omega)
              refine va_iald hx hb hK.1 hP 4 0 rfl rfl (i := a1) h_39 dB_36_2_51.1.1.1.1 ?_
              refine lv_topi (fun y_40 ey_40 => ?_)
              refine ct_R hP hD [] [] (by decide) rfl (fun hPc hDw => ?_)
              have hFc := va_free (wc := []) hD hS hA [] rfl
              refine va_calli (va_runU (As := [.int y_40]) (rest := []) ⟨hx, hb, hml, hown, hts⟩ (c_X6_costs l D cy H.size k1 y_40) (va_cwU 1 hts gX11_ask_X6_costs_u122X5 rfl rfl rfl rfl (by decide +kernel) ⟨Nat.le_of_ble_eq_true rfl, Nat.le_of_ble_eq_true rfl⟩) ⟨bl_, va_recvX hK.1 hP (ci := 5) (q0 := 7) rfl rfl, fun U hU hW => ⟨rfl, by rw [hU], by rw [hU]; exact hPc, kk_mv hW hK, hDw⟩⟩ rfl rfl hl.1 rfl (lv_room (Nat.le_of_ble_eq_true rfl)) dB_36_2_51.1.1.1.2 ⟨Nat.le_of_ble_eq_true rfl, Nat.le_of_ble_eq_true rfl⟩) hS (fun q _ h => hFc q h) hFc (fun r_41 u t H locs ht hvm hw hB hz1 hk1 hS => ?_)
              have hP : va_P D vwCl _ H := ro_keep hP hk1
              have f0_r_41 := hw
              rw [hQ]
              exact W.iret (v := r_41) hx hb hr (fun t ht hW => ⟨⟨r_41, (), rfl, trivial, y_38, by rw [ht]; exact hP, hD⟩, hS.F ht⟩) hS.2.2 dB_36_2_51.1.1.2.1
          · refine va_aldq hx hb hK.1 hP 5 3 rfl rfl (i := 2) (by unfold vp_in; decide) dB_36_2_49.2.2.2.1 ?_
            refine lv_topv (v' := .ref k2) (by simp [va_up, va_rf, mf_, cl_0, cl_1, cl_2, cl_3, cl_4, kf_]) ?_
            refine lv_astore_n (lv' := [(3, .ref k2), (0, .ref xo), (1, .int a1), (2, .int a2)]) hx hb dB_36_2_49.2.2.2.2 rfl hl (by decide) rfl (fun ls hl => ?_)
            refine lv_iload_n hx hb dB_36_2_50.1.1.1.1 rfl (lv_at hl 3 rfl) ?_
            refine lv_iconst (v := 2) hx hb dB_36_2_50.1.1.1.2 (by decide) ?_
            refine lv_icmp_ne (tgt := 70) hx hb dB_36_2_50.1.1.2.1 (by decide) (fun c_42 => ?_) (fun c_42 => ?_)
            · have t_42 : ¬ a2.toInt = (2 : Int32).toInt := fun h => c_42 (Int32.toInt_inj.mp h)
              refine lv_iload_n hx hb dB_36_2_51.1.1.2.2 rfl (lv_at hl 3 rfl) ?_
              refine lv_if_ne (tgt := 78) hx hb dB_36_2_51.1.2.1.1 (by decide) (fun c_43 => ?_) (fun c_43 => ?_)
              · have t_43 : ¬ a2.toInt = (0 : Int32).toInt := fun h => c_43 (Int32.toInt_inj.mp h)
                refine lv_iconst (v := 0) hx hb dB_36_2_51.1.2.2.2 (by decide) ?_
                refine lv_istore (lv' := [(4, .int 0), (3, .ref k2), (0, .ref xo), (1, .int a1), (2, .int a2)]) hx hb dB_36_2_51.2.1.1.1 hl (by decide) rfl (fun ls hl => ?_)
                refine lv_aload_n hx hb dB_36_2_51.2.1.1.2 rfl (lv_at hl 2 rfl) ?_
                refine lv_dup hx hb dB_36_2_51.2.1.2.1 rfl ?_
                refine va_get (ci := 11) (v := .long tr) (C := RX11) (T := TX11) (N := 12) hx hb hts (fun _ h => List.mem_cons_of_mem _ (List.mem_append_left _ (List.mem_append_right _ h))) hown hK.1 hP 0 rfl rfl 10 (by decide) (hts (.fieldLink RX11 87 "CutAtlas" "traced" "J") (List.mem_of_getElem? (i := 4) rfl)) (fun _ h9 => h9) rfl dB_36_2_51.2.1.2.2 ?_
                refine lv_aload_n hx hb dB_36_2_51.2.2.1.1 rfl (lv_at hl 1 rfl) ?_
                refine lv_iload hx hb dB_36_2_51.2.2.1.2 (lv_at hl 0 rfl) ?_
                refine ct_R hP hD [] [] (by decide) rfl (fun hPc hDw => ?_)
                have hFc := va_free (wc := []) hD hS hA [] rfl
                refine va_calli (va_runU (As := [.int 0]) (rest := [.long tr, .ref xo]) ⟨hx, hb, hml, hown, hts⟩ (c_X9_letsMark l D cy H.size k2 (0 : Int32)) (va_cwO 1 hts gX11_ask_X9_letsMark_u161X9 rfl rfl rfl (b0 := cX6_letsMark) (m0 := 2) (r0 := (some .int)) (by decide +kernel) (by decide +kernel) ⟨Nat.le_of_ble_eq_true rfl, Nat.le_of_ble_eq_true rfl⟩) ⟨bl_, va_recvX hK.1 hP (ci := 9) (q0 := 8) rfl rfl, fun U hU hW => ⟨rfl, by rw [hU], by rw [hU]; exact hPc, kk_mv hW hK, hDw⟩⟩ rfl rfl hl.1 rfl (lv_room (Nat.le_of_ble_eq_true rfl)) dB_36_2_51.2.2.2.1 ⟨Nat.le_of_ble_eq_true rfl, Nat.le_of_ble_eq_true rfl⟩) hS (fun q _ h => hFc q h) hFc (fun r_44 u t H locs ht hvm hw hB hz1 hk1 hS => ?_)
                have hP : va_P D vwCl _ H := ro_keep hP hk1
                refine lv_i2l (v := r_44.toInt64) hx hb dB_36_2_51.2.2.2.2 rfl ?_
                have q_92 : (r_44.toInt64).toInt = r_44.toInt := Int32.toInt_toInt64 r_44
                refine lv_ladd hx hb dB_36_2_52.1.1.1.1 ?_
                refine lv_topl (fun y_45 ey_45 => ?_)
                refine va_put (ci := 11) (v := .long y_45) (ty := .long) (C := RX11) (T := TX11) (N := 12) hx hb hts (fun _ h => List.mem_cons_of_mem _ (List.mem_append_left _ (List.mem_append_right _ h))) tyX11 tyX11_ok nmX11 hown hK.1 hP hD hS 0 rfl rfl 10 (by decide) (hts (.fieldLink RX11 87 "CutAtlas" "traced" "J") (List.mem_of_getElem? (i := 4) rfl)) (fun _ h9 => h9) rfl (by decide +kernel) rfl rfl (Nat.le_of_ble_eq_true rfl) dB_36_2_52.1.1.1.2 (fun H locs hP hD hS => ?_)
                refine pd_K [ob11_0_ xo xk xn xc xh xt xw xm xp pf ph y_45 fi, ob3_0_ xn vp vn n1 n2 n3 n4 n5, ai_ cy n1 40 fk, ai_ cy n4 40 fw, ai_ cy n5 40 fp, aq_ cy 3 xk 5 (kf_ k0 k1 k2 k3 k4), ob6_0_ k0, ob5_0_ k1, ob9_0_ k2, ob2_0_ k3, ob8_0_ k4] hP hD (fun hP hD => ?_)
                refine lv_aload_n hx hb dB_36_2_52.1.1.2.1 rfl (lv_at hl 1 rfl) ?_
                refine lv_aload_n hx hb dB_36_2_52.1.1.2.2 rfl (lv_at hl 2 rfl) ?_
                refine va_get (ci := 11) (v := .ref xn) (C := RX11) (T := TX11) (N := 12) hx hb hts (fun _ h => List.mem_cons_of_mem _ (List.mem_append_left _ (List.mem_append_right _ h))) hown hK.1 hP 0 rfl rfl 1 (by decide) (hts (.fieldLink RX11 31 "CutAtlas" "net" "LCutAtlas$Net;") (List.mem_of_getElem? (i := 1) rfl)) (fun _ h9 => h9) rfl dB_36_2_52.1.2.1.1 ?_
                refine va_get (ci := 3) (v := .ref n4) (C := RX3) (T := TX3) (N := 7) hx hb hts (fun _ h => List.mem_cons_of_mem _ (List.mem_append_right _ h)) hown hK.1 hP 1 rfl rfl 5 (by decide) (hts (.fieldLink RX11 129 "CutAtlas$Net" "widths" "[I") (List.mem_of_getElem? (i := 6) rfl)) (fun _ h9 => h9) rfl dB_36_2_52.1.2.1.2 ?_
                refine lv_iload_n hx hb dB_36_2_52.1.2.2.1 rfl (lv_at hl 3 rfl) ?_
                have h_46 : vp_in a1 40 := in_I (by omega) (by omega)
                refine va_iald hx hb hK.1 hP 3 0 rfl rfl (i := a1) h_46 dB_36_2_52.1.2.2.2 ?_
                refine lv_topi (fun y_47 ey_47 => ?_)
                refine lv_iload hx hb dB_36_2_52.2.1.1.1 (lv_at hl 0 rfl) ?_
                refine ct_R hP hD [] [] (by decide) rfl (fun hPc hDw => ?_)
                have hFc := va_free (wc := []) hD hS hA [] rfl
                refine va_calli (va_runU (As := [.int y_47, .int 0]) (rest := []) ⟨hx, hb, hml, hown, hts⟩ (c_X9_lets l D cy H.size k2 y_47 (0 : Int32)) (va_cwO 2 hts gX11_ask_X9_lets_u165X9 rfl rfl rfl (b0 := cX6_lets) (m0 := 3) (r0 := (some .int)) (by decide +kernel) (by decide +kernel) ⟨Nat.le_of_ble_eq_true rfl, Nat.le_of_ble_eq_true rfl⟩) ⟨bl_, va_recvX hK.1 hP (ci := 9) (q0 := 8) rfl rfl, fun U hU hW => ⟨rfl, by rw [hU], by rw [hU]; exact hPc, kk_mv hW hK, hDw⟩⟩ rfl rfl hl.1 rfl (lv_room (Nat.le_of_ble_eq_true rfl)) dB_36_2_52.2.1.1.2 ⟨Nat.le_of_ble_eq_true rfl, Nat.le_of_ble_eq_true rfl⟩) hS (fun q _ h => hFc q h) hFc (fun r_48 u t H locs ht hvm hw hB hz1 hk1 hS => ?_)
                have hP : va_P D vwCl _ H := ro_keep hP hk1
                rw [hQ]
                exact W.iret (v := r_48) hx hb hr (fun t ht hW => ⟨⟨r_48, (), rfl, trivial, y_45, by rw [ht]; exact hP, hD⟩, hS.F ht⟩) hS.2.2 dB_36_2_52.2.1.2.1
              · have t_43 : a2.toInt = (0 : Int32).toInt := congrArg Int32.toInt c_43
                refine lv_iconst (v := 1) hx hb dB_36_2_51.1.2.1.2 (by decide) ?_
                refine lv_goto (tgt := 79) hx hb dB_36_2_51.1.2.2.1 (by decide) ?_
                refine lv_istore (lv' := [(4, .int 1), (3, .ref k2), (0, .ref xo), (1, .int a1), (2, .int a2)]) hx hb dB_36_2_51.2.1.1.1 hl (by decide) rfl (fun ls hl => ?_)
                refine lv_aload_n hx hb dB_36_2_51.2.1.1.2 rfl (lv_at hl 2 rfl) ?_
                refine lv_dup hx hb dB_36_2_51.2.1.2.1 rfl ?_
                refine va_get (ci := 11) (v := .long tr) (C := RX11) (T := TX11) (N := 12) hx hb hts (fun _ h => List.mem_cons_of_mem _ (List.mem_append_left _ (List.mem_append_right _ h))) hown hK.1 hP 0 rfl rfl 10 (by decide) (hts (.fieldLink RX11 87 "CutAtlas" "traced" "J") (List.mem_of_getElem? (i := 4) rfl)) (fun _ h9 => h9) rfl dB_36_2_51.2.1.2.2 ?_
                refine lv_aload_n hx hb dB_36_2_51.2.2.1.1 rfl (lv_at hl 1 rfl) ?_
                refine lv_iload hx hb dB_36_2_51.2.2.1.2 (lv_at hl 0 rfl) ?_
                refine ct_R hP hD [] [] (by decide) rfl (fun hPc hDw => ?_)
                have hFc := va_free (wc := []) hD hS hA [] rfl
                refine va_calli (va_runU (As := [.int 1]) (rest := [.long tr, .ref xo]) ⟨hx, hb, hml, hown, hts⟩ (c_X9_letsMark l D cy H.size k2 (1 : Int32)) (va_cwO 1 hts gX11_ask_X9_letsMark_u161X9 rfl rfl rfl (b0 := cX6_letsMark) (m0 := 2) (r0 := (some .int)) (by decide +kernel) (by decide +kernel) ⟨Nat.le_of_ble_eq_true rfl, Nat.le_of_ble_eq_true rfl⟩) ⟨bl_, va_recvX hK.1 hP (ci := 9) (q0 := 8) rfl rfl, fun U hU hW => ⟨rfl, by rw [hU], by rw [hU]; exact hPc, kk_mv hW hK, hDw⟩⟩ rfl rfl hl.1 rfl (lv_room (Nat.le_of_ble_eq_true rfl)) dB_36_2_51.2.2.2.1 ⟨Nat.le_of_ble_eq_true rfl, Nat.le_of_ble_eq_true rfl⟩) hS (fun q _ h => hFc q h) hFc (fun r_49 u t H locs ht hvm hw hB hz1 hk1 hS => ?_)
                have hP : va_P D vwCl _ H := ro_keep hP hk1
                refine lv_i2l (v := r_49.toInt64) hx hb dB_36_2_51.2.2.2.2 rfl ?_
                have q_92 : (r_49.toInt64).toInt = r_49.toInt := Int32.toInt_toInt64 r_49
                refine lv_ladd hx hb dB_36_2_52.1.1.1.1 ?_
                refine lv_topl (fun y_50 ey_50 => ?_)
                refine va_put (ci := 11) (v := .long y_50) (ty := .long) (C := RX11) (T := TX11) (N := 12) hx hb hts (fun _ h => List.mem_cons_of_mem _ (List.mem_append_left _ (List.mem_append_right _ h))) tyX11 tyX11_ok nmX11 hown hK.1 hP hD hS 0 rfl rfl 10 (by decide) (hts (.fieldLink RX11 87 "CutAtlas" "traced" "J") (List.mem_of_getElem? (i := 4) rfl)) (fun _ h9 => h9) rfl (by decide +kernel) rfl rfl (Nat.le_of_ble_eq_true rfl) dB_36_2_52.1.1.1.2 (fun H locs hP hD hS => ?_)
                refine pd_K [ob11_0_ xo xk xn xc xh xt xw xm xp pf ph y_50 fi, ob3_0_ xn vp vn n1 n2 n3 n4 n5, ai_ cy n1 40 fk, ai_ cy n4 40 fw, ai_ cy n5 40 fp, aq_ cy 3 xk 5 (kf_ k0 k1 k2 k3 k4), ob6_0_ k0, ob5_0_ k1, ob9_0_ k2, ob2_0_ k3, ob8_0_ k4] hP hD (fun hP hD => ?_)
                refine lv_aload_n hx hb dB_36_2_52.1.1.2.1 rfl (lv_at hl 1 rfl) ?_
                refine lv_aload_n hx hb dB_36_2_52.1.1.2.2 rfl (lv_at hl 2 rfl) ?_
                refine va_get (ci := 11) (v := .ref xn) (C := RX11) (T := TX11) (N := 12) hx hb hts (fun _ h => List.mem_cons_of_mem _ (List.mem_append_left _ (List.mem_append_right _ h))) hown hK.1 hP 0 rfl rfl 1 (by decide) (hts (.fieldLink RX11 31 "CutAtlas" "net" "LCutAtlas$Net;") (List.mem_of_getElem? (i := 1) rfl)) (fun _ h9 => h9) rfl dB_36_2_52.1.2.1.1 ?_
                refine va_get (ci := 3) (v := .ref n4) (C := RX3) (T := TX3) (N := 7) hx hb hts (fun _ h => List.mem_cons_of_mem _ (List.mem_append_right _ h)) hown hK.1 hP 1 rfl rfl 5 (by decide) (hts (.fieldLink RX11 129 "CutAtlas$Net" "widths" "[I") (List.mem_of_getElem? (i := 6) rfl)) (fun _ h9 => h9) rfl dB_36_2_52.1.2.1.2 ?_
                refine lv_iload_n hx hb dB_36_2_52.1.2.2.1 rfl (lv_at hl 3 rfl) ?_
                have h_51 : vp_in a1 40 := in_I (by omega) (by omega)
                refine va_iald hx hb hK.1 hP 3 0 rfl rfl (i := a1) h_51 dB_36_2_52.1.2.2.2 ?_
                refine lv_topi (fun y_52 ey_52 => ?_)
                refine lv_iload hx hb dB_36_2_52.2.1.1.1 (lv_at hl 0 rfl) ?_
                refine ct_R hP hD [] [] (by decide) rfl (fun hPc hDw => ?_)
                have hFc := va_free (wc := []) hD hS hA [] rfl
                refine va_calli (va_runU (As := [.int y_52, .int 1]) (rest := []) ⟨hx, hb, hml, hown, hts⟩ (c_X9_lets l D cy H.size k2 y_52 (1 : Int32)) (va_cwO 2 hts gX11_ask_X9_lets_u165X9 rfl rfl rfl (b0 := cX6_lets) (m0 := 3) (r0 := (some .int)) (by decide +kernel) (by decide +kernel) ⟨Nat.le_of_ble_eq_true rfl, Nat.le_of_ble_eq_true rfl⟩) ⟨bl_, va_recvX hK.1 hP (ci := 9) (q0 := 8) rfl rfl, fun U hU hW => ⟨rfl, by rw [hU], by rw [hU]; exact hPc, kk_mv hW hK, hDw⟩⟩ rfl rfl hl.1 rfl (lv_room (Nat.le_of_ble_eq_true rfl)) dB_36_2_52.2.1.1.2 ⟨Nat.le_of_ble_eq_true rfl, Nat.le_of_ble_eq_true rfl⟩) hS (fun q _ h => hFc q h) hFc (fun r_53 u t H locs ht hvm hw hB hz1 hk1 hS => ?_)
                have hP : va_P D vwCl _ H := ro_keep hP hk1
                rw [hQ]
                exact W.iret (v := r_53) hx hb hr (fun t ht hW => ⟨⟨r_53, (), rfl, trivial, y_50, by rw [ht]; exact hP, hD⟩, hS.F ht⟩) hS.2.2 dB_36_2_52.2.1.2.1
            · have t_42 : a2.toInt = (2 : Int32).toInt := congrArg Int32.toInt c_42
              refine lv_aload_n hx hb dB_36_2_50.1.1.2.2 rfl (lv_at hl 1 rfl) ?_
              refine lv_dup hx hb dB_36_2_50.1.2.1.1 rfl ?_
              refine va_get (ci := 11) (v := .long tr) (C := RX11) (T := TX11) (N := 12) hx hb hts (fun _ h => List.mem_cons_of_mem _ (List.mem_append_left _ (List.mem_append_right _ h))) hown hK.1 hP 0 rfl rfl 10 (by decide) (hts (.fieldLink RX11 87 "CutAtlas" "traced" "J") (List.mem_of_getElem? (i := 4) rfl)) (fun _ h9 => h9) rfl dB_36_2_50.1.2.1.2 ?_
              refine lv_aload_n hx hb dB_36_2_50.1.2.2.1 rfl (lv_at hl 0 rfl) ?_
              refine ct_R hP hD [] [] (by decide) rfl (fun hPc hDw => ?_)
              have hFc := va_free (wc := []) hD hS hA [] rfl
              refine va_calli (va_runU (As := []) (rest := [.long tr, .ref xo]) ⟨hx, hb, hml, hown, hts⟩ (c_X6_costsMark l D cy H.size k2) (va_cwU 0 hts gX11_ask_X6_costsMark_u132X9 rfl rfl rfl rfl (by decide +kernel) ⟨Nat.le_of_ble_eq_true rfl, Nat.le_of_ble_eq_true rfl⟩) ⟨bl_, va_recvX hK.1 hP (ci := 9) (q0 := 8) rfl rfl, fun U hU hW => ⟨rfl, by rw [hU], by rw [hU]; exact hPc, kk_mv hW hK, hDw⟩⟩ rfl rfl hl.1 rfl (lv_room (Nat.le_of_ble_eq_true rfl)) dB_36_2_50.1.2.2.2 ⟨Nat.le_of_ble_eq_true rfl, Nat.le_of_ble_eq_true rfl⟩) hS (fun q _ h => hFc q h) hFc (fun r_54 u t H locs ht hvm hw hB hz1 hk1 hS => ?_)
              have hP : va_P D vwCl _ H := ro_keep hP hk1
              refine lv_i2l (v := r_54.toInt64) hx hb dB_36_2_50.2.1.1.1 rfl ?_
              have q_51 : (r_54.toInt64).toInt = r_54.toInt := Int32.toInt_toInt64 r_54
              refine lv_ladd hx hb dB_36_2_50.2.1.1.2 ?_
              refine lv_topl (fun y_55 ey_55 => ?_)
              refine va_put (ci := 11) (v := .long y_55) (ty := .long) (C := RX11) (T := TX11) (N := 12) hx hb hts (fun _ h => List.mem_cons_of_mem _ (List.mem_append_left _ (List.mem_append_right _ h))) tyX11 tyX11_ok nmX11 hown hK.1 hP hD hS 0 rfl rfl 10 (by decide) (hts (.fieldLink RX11 87 "CutAtlas" "traced" "J") (List.mem_of_getElem? (i := 4) rfl)) (fun _ h9 => h9) rfl (by decide +kernel) rfl rfl (Nat.le_of_ble_eq_true rfl) dB_36_2_50.2.1.2.1 (fun H locs hP hD hS => ?_)
              refine pd_K [ob11_0_ xo xk xn xc xh xt xw xm xp pf ph y_55 fi, ob3_0_ xn vp vn n1 n2 n3 n4 n5, ai_ cy n1 40 fk, ai_ cy n4 40 fw, ai_ cy n5 40 fp, aq_ cy 3 xk 5 (kf_ k0 k1 k2 k3 k4), ob6_0_ k0, ob5_0_ k1, ob9_0_ k2, ob2_0_ k3, ob8_0_ k4] hP hD (fun hP hD => ?_)
              refine lv_aload_n hx hb dB_36_2_50.2.1.2.2 rfl (lv_at hl 0 rfl) ?_
              refine lv_aload_n hx hb dB_36_2_50.2.2.1.1 rfl (lv_at hl 1 rfl) ?_
              refine va_get (ci := 11) (v := .ref xn) (C := RX11) (T := TX11) (N := 12) hx hb hts (fun _ h => List.mem_cons_of_mem _ (List.mem_append_left _ (List.mem_append_right _ h))) hown hK.1 hP 0 rfl rfl 1 (by decide) (hts (.fieldLink RX11 31 "CutAtlas" "net" "LCutAtlas$Net;") (List.mem_of_getElem? (i := 1) rfl)) (fun _ h9 => h9) rfl dB_36_2_50.2.2.1.2 ?_
              refine va_get (ci := 3) (v := .ref n5) (C := RX3) (T := TX3) (N := 7) hx hb hts (fun _ h => List.mem_cons_of_mem _ (List.mem_append_right _ h)) hown hK.1 hP 1 rfl rfl 6 (by decide) (hts (.fieldLink RX11 119 "CutAtlas$Net" "prices" "[I") (List.mem_of_getElem? (i := 5) rfl)) (fun _ h9 => h9) rfl dB_36_2_50.2.2.2.1 ?_
              refine lv_iload_n hx hb dB_36_2_50.2.2.2.2 rfl (lv_at hl 2 rfl) ?_
              have h_56 : vp_in a1 40 := in_I (by omega) (by omega)
              refine va_iald hx hb hK.1 hP 4 0 rfl rfl (i := a1) h_56 dB_36_2_51.1.1.1.1 ?_
              refine lv_topi (fun y_57 ey_57 => ?_)
              refine ct_R hP hD [] [] (by decide) rfl (fun hPc hDw => ?_)
              have hFc := va_free (wc := []) hD hS hA [] rfl
              refine va_calli (va_runU (As := [.int y_57]) (rest := []) ⟨hx, hb, hml, hown, hts⟩ (c_X6_costs l D cy H.size k2 y_57) (va_cwU 1 hts gX11_ask_X6_costs_u122X9 rfl rfl rfl rfl (by decide +kernel) ⟨Nat.le_of_ble_eq_true rfl, Nat.le_of_ble_eq_true rfl⟩) ⟨bl_, va_recvX hK.1 hP (ci := 9) (q0 := 8) rfl rfl, fun U hU hW => ⟨rfl, by rw [hU], by rw [hU]; exact hPc, kk_mv hW hK, hDw⟩⟩ rfl rfl hl.1 rfl (lv_room (Nat.le_of_ble_eq_true rfl)) dB_36_2_51.1.1.1.2 ⟨Nat.le_of_ble_eq_true rfl, Nat.le_of_ble_eq_true rfl⟩) hS (fun q _ h => hFc q h) hFc (fun r_58 u t H locs ht hvm hw hB hz1 hk1 hS => ?_)
              have hP : va_P D vwCl _ H := ro_keep hP hk1
              have f0_r_58 := hw
              rw [hQ]
              exact W.iret (v := r_58) hx hb hr (fun t ht hW => ⟨⟨r_58, (), rfl, trivial, y_55, by rw [ht]; exact hP, hD⟩, hS.F ht⟩) hS.2.2 dB_36_2_51.1.1.2.1
          · refine va_aldq hx hb hK.1 hP 5 3 rfl rfl (i := 3) (by unfold vp_in; decide) dB_36_2_49.2.2.2.1 ?_
            refine lv_topv (v' := .ref k3) (by simp [va_up, va_rf, mf_, cl_0, cl_1, cl_2, cl_3, cl_4, kf_]) ?_
            refine lv_astore_n (lv' := [(3, .ref k3), (0, .ref xo), (1, .int a1), (2, .int a2)]) hx hb dB_36_2_49.2.2.2.2 rfl hl (by decide) rfl (fun ls hl => ?_)
            refine lv_iload_n hx hb dB_36_2_50.1.1.1.1 rfl (lv_at hl 3 rfl) ?_
            refine lv_iconst (v := 2) hx hb dB_36_2_50.1.1.1.2 (by decide) ?_
            refine lv_icmp_ne (tgt := 70) hx hb dB_36_2_50.1.1.2.1 (by decide) (fun c_59 => ?_) (fun c_59 => ?_)
            · have t_59 : ¬ a2.toInt = (2 : Int32).toInt := fun h => c_59 (Int32.toInt_inj.mp h)
              refine lv_iload_n hx hb dB_36_2_51.1.1.2.2 rfl (lv_at hl 3 rfl) ?_
              refine lv_if_ne (tgt := 78) hx hb dB_36_2_51.1.2.1.1 (by decide) (fun c_60 => ?_) (fun c_60 => ?_)
              · have t_60 : ¬ a2.toInt = (0 : Int32).toInt := fun h => c_60 (Int32.toInt_inj.mp h)
                refine lv_iconst (v := 0) hx hb dB_36_2_51.1.2.2.2 (by decide) ?_
                refine lv_istore (lv' := [(4, .int 0), (3, .ref k3), (0, .ref xo), (1, .int a1), (2, .int a2)]) hx hb dB_36_2_51.2.1.1.1 hl (by decide) rfl (fun ls hl => ?_)
                refine lv_aload_n hx hb dB_36_2_51.2.1.1.2 rfl (lv_at hl 2 rfl) ?_
                refine lv_dup hx hb dB_36_2_51.2.1.2.1 rfl ?_
                refine va_get (ci := 11) (v := .long tr) (C := RX11) (T := TX11) (N := 12) hx hb hts (fun _ h => List.mem_cons_of_mem _ (List.mem_append_left _ (List.mem_append_right _ h))) hown hK.1 hP 0 rfl rfl 10 (by decide) (hts (.fieldLink RX11 87 "CutAtlas" "traced" "J") (List.mem_of_getElem? (i := 4) rfl)) (fun _ h9 => h9) rfl dB_36_2_51.2.1.2.2 ?_
                refine lv_aload_n hx hb dB_36_2_51.2.2.1.1 rfl (lv_at hl 1 rfl) ?_
                refine lv_iload hx hb dB_36_2_51.2.2.1.2 (lv_at hl 0 rfl) ?_
                refine ct_R hP hD [] [] (by decide) rfl (fun hPc hDw => ?_)
                have hFc := va_free (wc := []) hD hS hA [] rfl
                refine va_calli (va_runU (As := [.int 0]) (rest := [.long tr, .ref xo]) ⟨hx, hb, hml, hown, hts⟩ (c_X6_letsMark l D cy H.size k3 (0 : Int32)) (va_cwU 1 hts gX11_ask_X6_letsMark_u161X2 rfl rfl rfl rfl (by decide +kernel) ⟨Nat.le_of_ble_eq_true rfl, Nat.le_of_ble_eq_true rfl⟩) ⟨bl_, va_recvX hK.1 hP (ci := 2) (q0 := 9) rfl rfl, fun U hU hW => ⟨rfl, by rw [hU], by rw [hU]; exact hPc, kk_mv hW hK, hDw⟩⟩ rfl rfl hl.1 rfl (lv_room (Nat.le_of_ble_eq_true rfl)) dB_36_2_51.2.2.2.1 ⟨Nat.le_of_ble_eq_true rfl, Nat.le_of_ble_eq_true rfl⟩) hS (fun q _ h => hFc q h) hFc (fun r_61 u t H locs ht hvm hw hB hz1 hk1 hS => ?_)
                have hP : va_P D vwCl _ H := ro_keep hP hk1
                refine lv_i2l (v := r_61.toInt64) hx hb dB_36_2_51.2.2.2.2 rfl ?_
                have q_92 : (r_61.toInt64).toInt = r_61.toInt := Int32.toInt_toInt64 r_61
                refine lv_ladd hx hb dB_36_2_52.1.1.1.1 ?_
                refine lv_topl (fun y_62 ey_62 => ?_)
                refine va_put (ci := 11) (v := .long y_62) (ty := .long) (C := RX11) (T := TX11) (N := 12) hx hb hts (fun _ h => List.mem_cons_of_mem _ (List.mem_append_left _ (List.mem_append_right _ h))) tyX11 tyX11_ok nmX11 hown hK.1 hP hD hS 0 rfl rfl 10 (by decide) (hts (.fieldLink RX11 87 "CutAtlas" "traced" "J") (List.mem_of_getElem? (i := 4) rfl)) (fun _ h9 => h9) rfl (by decide +kernel) rfl rfl (Nat.le_of_ble_eq_true rfl) dB_36_2_52.1.1.1.2 (fun H locs hP hD hS => ?_)
                refine pd_K [ob11_0_ xo xk xn xc xh xt xw xm xp pf ph y_62 fi, ob3_0_ xn vp vn n1 n2 n3 n4 n5, ai_ cy n1 40 fk, ai_ cy n4 40 fw, ai_ cy n5 40 fp, aq_ cy 3 xk 5 (kf_ k0 k1 k2 k3 k4), ob6_0_ k0, ob5_0_ k1, ob9_0_ k2, ob2_0_ k3, ob8_0_ k4] hP hD (fun hP hD => ?_)
                refine lv_aload_n hx hb dB_36_2_52.1.1.2.1 rfl (lv_at hl 1 rfl) ?_
                refine lv_aload_n hx hb dB_36_2_52.1.1.2.2 rfl (lv_at hl 2 rfl) ?_
                refine va_get (ci := 11) (v := .ref xn) (C := RX11) (T := TX11) (N := 12) hx hb hts (fun _ h => List.mem_cons_of_mem _ (List.mem_append_left _ (List.mem_append_right _ h))) hown hK.1 hP 0 rfl rfl 1 (by decide) (hts (.fieldLink RX11 31 "CutAtlas" "net" "LCutAtlas$Net;") (List.mem_of_getElem? (i := 1) rfl)) (fun _ h9 => h9) rfl dB_36_2_52.1.2.1.1 ?_
                refine va_get (ci := 3) (v := .ref n4) (C := RX3) (T := TX3) (N := 7) hx hb hts (fun _ h => List.mem_cons_of_mem _ (List.mem_append_right _ h)) hown hK.1 hP 1 rfl rfl 5 (by decide) (hts (.fieldLink RX11 129 "CutAtlas$Net" "widths" "[I") (List.mem_of_getElem? (i := 6) rfl)) (fun _ h9 => h9) rfl dB_36_2_52.1.2.1.2 ?_
                refine lv_iload_n hx hb dB_36_2_52.1.2.2.1 rfl (lv_at hl 3 rfl) ?_
                have h_63 : vp_in a1 40 := in_I (by omega) (by omega)
                refine va_iald hx hb hK.1 hP 3 0 rfl rfl (i := a1) h_63 dB_36_2_52.1.2.2.2 ?_
                refine lv_topi (fun y_64 ey_64 => ?_)
                refine lv_iload hx hb dB_36_2_52.2.1.1.1 (lv_at hl 0 rfl) ?_
                refine ct_R hP hD [] [] (by decide) rfl (fun hPc hDw => ?_)
                have hFc := va_free (wc := []) hD hS hA [] rfl
                refine va_calli (va_runU (As := [.int y_64, .int 0]) (rest := []) ⟨hx, hb, hml, hown, hts⟩ (c_X6_lets l D cy H.size k3 y_64 (0 : Int32)) (va_cwU 2 hts gX11_ask_X6_lets_u165X2 rfl rfl rfl rfl (by decide +kernel) ⟨Nat.le_of_ble_eq_true rfl, Nat.le_of_ble_eq_true rfl⟩) ⟨bl_, va_recvX hK.1 hP (ci := 2) (q0 := 9) rfl rfl, fun U hU hW => ⟨rfl, by rw [hU], by rw [hU]; exact hPc, kk_mv hW hK, hDw⟩⟩ rfl rfl hl.1 rfl (lv_room (Nat.le_of_ble_eq_true rfl)) dB_36_2_52.2.1.1.2 ⟨Nat.le_of_ble_eq_true rfl, Nat.le_of_ble_eq_true rfl⟩) hS (fun q _ h => hFc q h) hFc (fun r_65 u t H locs ht hvm hw hB hz1 hk1 hS => ?_)
                have hP : va_P D vwCl _ H := ro_keep hP hk1
                have f0_r_65 := hw
                rw [hQ]
                exact W.iret (v := r_65) hx hb hr (fun t ht hW => ⟨⟨r_65, (), rfl, trivial, y_62, by rw [ht]; exact hP, hD⟩, hS.F ht⟩) hS.2.2 dB_36_2_52.2.1.2.1
              · have t_60 : a2.toInt = (0 : Int32).toInt := congrArg Int32.toInt c_60
                refine lv_iconst (v := 1) hx hb dB_36_2_51.1.2.1.2 (by decide) ?_
                refine lv_goto (tgt := 79) hx hb dB_36_2_51.1.2.2.1 (by decide) ?_
                refine lv_istore (lv' := [(4, .int 1), (3, .ref k3), (0, .ref xo), (1, .int a1), (2, .int a2)]) hx hb dB_36_2_51.2.1.1.1 hl (by decide) rfl (fun ls hl => ?_)
                refine lv_aload_n hx hb dB_36_2_51.2.1.1.2 rfl (lv_at hl 2 rfl) ?_
                refine lv_dup hx hb dB_36_2_51.2.1.2.1 rfl ?_
                refine va_get (ci := 11) (v := .long tr) (C := RX11) (T := TX11) (N := 12) hx hb hts (fun _ h => List.mem_cons_of_mem _ (List.mem_append_left _ (List.mem_append_right _ h))) hown hK.1 hP 0 rfl rfl 10 (by decide) (hts (.fieldLink RX11 87 "CutAtlas" "traced" "J") (List.mem_of_getElem? (i := 4) rfl)) (fun _ h9 => h9) rfl dB_36_2_51.2.1.2.2 ?_
                refine lv_aload_n hx hb dB_36_2_51.2.2.1.1 rfl (lv_at hl 1 rfl) ?_
                refine lv_iload hx hb dB_36_2_51.2.2.1.2 (lv_at hl 0 rfl) ?_
                refine ct_R hP hD [] [] (by decide) rfl (fun hPc hDw => ?_)
                have hFc := va_free (wc := []) hD hS hA [] rfl
                refine va_calli (va_runU (As := [.int 1]) (rest := [.long tr, .ref xo]) ⟨hx, hb, hml, hown, hts⟩ (c_X6_letsMark l D cy H.size k3 (1 : Int32)) (va_cwU 1 hts gX11_ask_X6_letsMark_u161X2 rfl rfl rfl rfl (by decide +kernel) ⟨Nat.le_of_ble_eq_true rfl, Nat.le_of_ble_eq_true rfl⟩) ⟨bl_, va_recvX hK.1 hP (ci := 2) (q0 := 9) rfl rfl, fun U hU hW => ⟨rfl, by rw [hU], by rw [hU]; exact hPc, kk_mv hW hK, hDw⟩⟩ rfl rfl hl.1 rfl (lv_room (Nat.le_of_ble_eq_true rfl)) dB_36_2_51.2.2.2.1 ⟨Nat.le_of_ble_eq_true rfl, Nat.le_of_ble_eq_true rfl⟩) hS (fun q _ h => hFc q h) hFc (fun r_66 u t H locs ht hvm hw hB hz1 hk1 hS => ?_)
                have hP : va_P D vwCl _ H := ro_keep hP hk1
                refine lv_i2l (v := r_66.toInt64) hx hb dB_36_2_51.2.2.2.2 rfl ?_
                have q_92 : (r_66.toInt64).toInt = r_66.toInt := Int32.toInt_toInt64 r_66
                refine lv_ladd hx hb dB_36_2_52.1.1.1.1 ?_
                refine lv_topl (fun y_67 ey_67 => ?_)
                refine va_put (ci := 11) (v := .long y_67) (ty := .long) (C := RX11) (T := TX11) (N := 12) hx hb hts (fun _ h => List.mem_cons_of_mem _ (List.mem_append_left _ (List.mem_append_right _ h))) tyX11 tyX11_ok nmX11 hown hK.1 hP hD hS 0 rfl rfl 10 (by decide) (hts (.fieldLink RX11 87 "CutAtlas" "traced" "J") (List.mem_of_getElem? (i := 4) rfl)) (fun _ h9 => h9) rfl (by decide +kernel) rfl rfl (Nat.le_of_ble_eq_true rfl) dB_36_2_52.1.1.1.2 (fun H locs hP hD hS => ?_)
                refine pd_K [ob11_0_ xo xk xn xc xh xt xw xm xp pf ph y_67 fi, ob3_0_ xn vp vn n1 n2 n3 n4 n5, ai_ cy n1 40 fk, ai_ cy n4 40 fw, ai_ cy n5 40 fp, aq_ cy 3 xk 5 (kf_ k0 k1 k2 k3 k4), ob6_0_ k0, ob5_0_ k1, ob9_0_ k2, ob2_0_ k3, ob8_0_ k4] hP hD (fun hP hD => ?_)
                refine lv_aload_n hx hb dB_36_2_52.1.1.2.1 rfl (lv_at hl 1 rfl) ?_
                refine lv_aload_n hx hb dB_36_2_52.1.1.2.2 rfl (lv_at hl 2 rfl) ?_
                refine va_get (ci := 11) (v := .ref xn) (C := RX11) (T := TX11) (N := 12) hx hb hts (fun _ h => List.mem_cons_of_mem _ (List.mem_append_left _ (List.mem_append_right _ h))) hown hK.1 hP 0 rfl rfl 1 (by decide) (hts (.fieldLink RX11 31 "CutAtlas" "net" "LCutAtlas$Net;") (List.mem_of_getElem? (i := 1) rfl)) (fun _ h9 => h9) rfl dB_36_2_52.1.2.1.1 ?_
                refine va_get (ci := 3) (v := .ref n4) (C := RX3) (T := TX3) (N := 7) hx hb hts (fun _ h => List.mem_cons_of_mem _ (List.mem_append_right _ h)) hown hK.1 hP 1 rfl rfl 5 (by decide) (hts (.fieldLink RX11 129 "CutAtlas$Net" "widths" "[I") (List.mem_of_getElem? (i := 6) rfl)) (fun _ h9 => h9) rfl dB_36_2_52.1.2.1.2 ?_
                refine lv_iload_n hx hb dB_36_2_52.1.2.2.1 rfl (lv_at hl 3 rfl) ?_
                have h_68 : vp_in a1 40 := in_I (by omega) (by omega)
                refine va_iald hx hb hK.1 hP 3 0 rfl rfl (i := a1) h_68 dB_36_2_52.1.2.2.2 ?_
                refine lv_topi (fun y_69 ey_69 => ?_)
                refine lv_iload hx hb dB_36_2_52.2.1.1.1 (lv_at hl 0 rfl) ?_
                refine ct_R hP hD [] [] (by decide) rfl (fun hPc hDw => ?_)
                have hFc := va_free (wc := []) hD hS hA [] rfl
                refine va_calli (va_runU (As := [.int y_69, .int 1]) (rest := []) ⟨hx, hb, hml, hown, hts⟩ (c_X6_lets l D cy H.size k3 y_69 (1 : Int32)) (va_cwU 2 hts gX11_ask_X6_lets_u165X2 rfl rfl rfl rfl (by decide +kernel) ⟨Nat.le_of_ble_eq_true rfl, Nat.le_of_ble_eq_true rfl⟩) ⟨bl_, va_recvX hK.1 hP (ci := 2) (q0 := 9) rfl rfl, fun U hU hW => ⟨rfl, by rw [hU], by rw [hU]; exact hPc, kk_mv hW hK, hDw⟩⟩ rfl rfl hl.1 rfl (lv_room (Nat.le_of_ble_eq_true rfl)) dB_36_2_52.2.1.1.2 ⟨Nat.le_of_ble_eq_true rfl, Nat.le_of_ble_eq_true rfl⟩) hS (fun q _ h => hFc q h) hFc (fun r_70 u t H locs ht hvm hw hB hz1 hk1 hS => ?_)
                have hP : va_P D vwCl _ H := ro_keep hP hk1
                have f0_r_70 := hw
                rw [hQ]
                exact W.iret (v := r_70) hx hb hr (fun t ht hW => ⟨⟨r_70, (), rfl, trivial, y_67, by rw [ht]; exact hP, hD⟩, hS.F ht⟩) hS.2.2 dB_36_2_52.2.1.2.1
            · have t_59 : a2.toInt = (2 : Int32).toInt := congrArg Int32.toInt c_59
              refine lv_aload_n hx hb dB_36_2_50.1.1.2.2 rfl (lv_at hl 1 rfl) ?_
              refine lv_dup hx hb dB_36_2_50.1.2.1.1 rfl ?_
              refine va_get (ci := 11) (v := .long tr) (C := RX11) (T := TX11) (N := 12) hx hb hts (fun _ h => List.mem_cons_of_mem _ (List.mem_append_left _ (List.mem_append_right _ h))) hown hK.1 hP 0 rfl rfl 10 (by decide) (hts (.fieldLink RX11 87 "CutAtlas" "traced" "J") (List.mem_of_getElem? (i := 4) rfl)) (fun _ h9 => h9) rfl dB_36_2_50.1.2.1.2 ?_
              refine lv_aload_n hx hb dB_36_2_50.1.2.2.1 rfl (lv_at hl 0 rfl) ?_
              refine ct_R hP hD [] [] (by decide) rfl (fun hPc hDw => ?_)
              have hFc := va_free (wc := []) hD hS hA [] rfl
              refine va_calli (va_runU (As := []) (rest := [.long tr, .ref xo]) ⟨hx, hb, hml, hown, hts⟩ (c_X2_costsMark l D cy H.size k3) (va_cwO 0 hts gX11_ask_X2_costsMark_u132X2 rfl rfl rfl (b0 := cX6_costsMark) (m0 := 1) (r0 := (some .int)) (by decide +kernel) (by decide +kernel) ⟨Nat.le_of_ble_eq_true rfl, Nat.le_of_ble_eq_true rfl⟩) ⟨bl_, va_recvX hK.1 hP (ci := 2) (q0 := 9) rfl rfl, fun U hU hW => ⟨rfl, by rw [hU], by rw [hU]; exact hPc, kk_mv hW hK, hDw⟩⟩ rfl rfl hl.1 rfl (lv_room (Nat.le_of_ble_eq_true rfl)) dB_36_2_50.1.2.2.2 ⟨Nat.le_of_ble_eq_true rfl, Nat.le_of_ble_eq_true rfl⟩) hS (fun q _ h => hFc q h) hFc (fun r_71 u t H locs ht hvm hw hB hz1 hk1 hS => ?_)
              have hP : va_P D vwCl _ H := ro_keep hP hk1
              refine lv_i2l (v := r_71.toInt64) hx hb dB_36_2_50.2.1.1.1 rfl ?_
              have q_51 : (r_71.toInt64).toInt = r_71.toInt := Int32.toInt_toInt64 r_71
              refine lv_ladd hx hb dB_36_2_50.2.1.1.2 ?_
              refine lv_topl (fun y_72 ey_72 => ?_)
              refine va_put (ci := 11) (v := .long y_72) (ty := .long) (C := RX11) (T := TX11) (N := 12) hx hb hts (fun _ h => List.mem_cons_of_mem _ (List.mem_append_left _ (List.mem_append_right _ h))) tyX11 tyX11_ok nmX11 hown hK.1 hP hD hS 0 rfl rfl 10 (by decide) (hts (.fieldLink RX11 87 "CutAtlas" "traced" "J") (List.mem_of_getElem? (i := 4) rfl)) (fun _ h9 => h9) rfl (by decide +kernel) rfl rfl (Nat.le_of_ble_eq_true rfl) dB_36_2_50.2.1.2.1 (fun H locs hP hD hS => ?_)
              refine pd_K [ob11_0_ xo xk xn xc xh xt xw xm xp pf ph y_72 fi, ob3_0_ xn vp vn n1 n2 n3 n4 n5, ai_ cy n1 40 fk, ai_ cy n4 40 fw, ai_ cy n5 40 fp, aq_ cy 3 xk 5 (kf_ k0 k1 k2 k3 k4), ob6_0_ k0, ob5_0_ k1, ob9_0_ k2, ob2_0_ k3, ob8_0_ k4] hP hD (fun hP hD => ?_)
              refine lv_aload_n hx hb dB_36_2_50.2.1.2.2 rfl (lv_at hl 0 rfl) ?_
              refine lv_aload_n hx hb dB_36_2_50.2.2.1.1 rfl (lv_at hl 1 rfl) ?_
              refine va_get (ci := 11) (v := .ref xn) (C := RX11) (T := TX11) (N := 12) hx hb hts (fun _ h => List.mem_cons_of_mem _ (List.mem_append_left _ (List.mem_append_right _ h))) hown hK.1 hP 0 rfl rfl 1 (by decide) (hts (.fieldLink RX11 31 "CutAtlas" "net" "LCutAtlas$Net;") (List.mem_of_getElem? (i := 1) rfl)) (fun _ h9 => h9) rfl dB_36_2_50.2.2.1.2 ?_
              refine va_get (ci := 3) (v := .ref n5) (C := RX3) (T := TX3) (N := 7) hx hb hts (fun _ h => List.mem_cons_of_mem _ (List.mem_append_right _ h)) hown hK.1 hP 1 rfl rfl 6 (by decide) (hts (.fieldLink RX11 119 "CutAtlas$Net" "prices" "[I") (List.mem_of_getElem? (i := 5) rfl)) (fun _ h9 => h9) rfl dB_36_2_50.2.2.2.1 ?_
              refine lv_iload_n hx hb dB_36_2_50.2.2.2.2 rfl (lv_at hl 2 rfl) ?_
              have h_73 : vp_in a1 40 := in_I (by omega) (by omega)
              refine va_iald hx hb hK.1 hP 4 0 rfl rfl (i := a1) h_73 dB_36_2_51.1.1.1.1 ?_
              refine lv_topi (fun y_74 ey_74 => ?_)
              refine ct_R hP hD [] [] (by decide) rfl (fun hPc hDw => ?_)
              have hFc := va_free (wc := []) hD hS hA [] rfl
              refine va_calli (va_runU (As := [.int y_74]) (rest := []) ⟨hx, hb, hml, hown, hts⟩ (c_X2_costs l D cy H.size k3 y_74) (va_cwO 1 hts gX11_ask_X2_costs_u122X2 rfl rfl rfl (b0 := cX6_costs) (m0 := 2) (r0 := (some .int)) (by decide +kernel) (by decide +kernel) ⟨Nat.le_of_ble_eq_true rfl, Nat.le_of_ble_eq_true rfl⟩) ⟨bl_, va_recvX hK.1 hP (ci := 2) (q0 := 9) rfl rfl, fun U hU hW => ⟨rfl, by rw [hU], by rw [hU]; exact hPc, kk_mv hW hK, hDw⟩⟩ rfl rfl hl.1 rfl (lv_room (Nat.le_of_ble_eq_true rfl)) dB_36_2_51.1.1.1.2 ⟨Nat.le_of_ble_eq_true rfl, Nat.le_of_ble_eq_true rfl⟩) hS (fun q _ h => hFc q h) hFc (fun r_75 u t H locs ht hvm hw hB hz1 hk1 hS => ?_)
              have hP : va_P D vwCl _ H := ro_keep hP hk1
              have f0_r_75 := hw
              rw [hQ]
              exact W.iret (v := r_75) hx hb hr (fun t ht hW => ⟨⟨r_75, (), rfl, trivial, y_72, by rw [ht]; exact hP, hD⟩, hS.F ht⟩) hS.2.2 dB_36_2_51.1.1.2.1
          · refine va_aldq hx hb hK.1 hP 5 3 rfl rfl (i := 4) (by unfold vp_in; decide) dB_36_2_49.2.2.2.1 ?_
            refine lv_topv (v' := .ref k4) (by simp [va_up, va_rf, mf_, cl_0, cl_1, cl_2, cl_3, cl_4, kf_]) ?_
            refine lv_astore_n (lv' := [(3, .ref k4), (0, .ref xo), (1, .int a1), (2, .int a2)]) hx hb dB_36_2_49.2.2.2.2 rfl hl (by decide) rfl (fun ls hl => ?_)
            refine lv_iload_n hx hb dB_36_2_50.1.1.1.1 rfl (lv_at hl 3 rfl) ?_
            refine lv_iconst (v := 2) hx hb dB_36_2_50.1.1.1.2 (by decide) ?_
            refine lv_icmp_ne (tgt := 70) hx hb dB_36_2_50.1.1.2.1 (by decide) (fun c_76 => ?_) (fun c_76 => ?_)
            · have t_76 : ¬ a2.toInt = (2 : Int32).toInt := fun h => c_76 (Int32.toInt_inj.mp h)
              refine lv_iload_n hx hb dB_36_2_51.1.1.2.2 rfl (lv_at hl 3 rfl) ?_
              refine lv_if_ne (tgt := 78) hx hb dB_36_2_51.1.2.1.1 (by decide) (fun c_77 => ?_) (fun c_77 => ?_)
              · have t_77 : ¬ a2.toInt = (0 : Int32).toInt := fun h => c_77 (Int32.toInt_inj.mp h)
                refine lv_iconst (v := 0) hx hb dB_36_2_51.1.2.2.2 (by decide) ?_
                refine lv_istore (lv' := [(4, .int 0), (3, .ref k4), (0, .ref xo), (1, .int a1), (2, .int a2)]) hx hb dB_36_2_51.2.1.1.1 hl (by decide) rfl (fun ls hl => ?_)
                refine lv_aload_n hx hb dB_36_2_51.2.1.1.2 rfl (lv_at hl 2 rfl) ?_
                refine lv_dup hx hb dB_36_2_51.2.1.2.1 rfl ?_
                refine va_get (ci := 11) (v := .long tr) (C := RX11) (T := TX11) (N := 12) hx hb hts (fun _ h => List.mem_cons_of_mem _ (List.mem_append_left _ (List.mem_append_right _ h))) hown hK.1 hP 0 rfl rfl 10 (by decide) (hts (.fieldLink RX11 87 "CutAtlas" "traced" "J") (List.mem_of_getElem? (i := 4) rfl)) (fun _ h9 => h9) rfl dB_36_2_51.2.1.2.2 ?_
                refine lv_aload_n hx hb dB_36_2_51.2.2.1.1 rfl (lv_at hl 1 rfl) ?_
                refine lv_iload hx hb dB_36_2_51.2.2.1.2 (lv_at hl 0 rfl) ?_
                refine ct_R hP hD [] [] (by decide) rfl (fun hPc hDw => ?_)
                have hFc := va_free (wc := []) hD hS hA [] rfl
                refine va_calli (va_runU (As := [.int 0]) (rest := [.long tr, .ref xo]) ⟨hx, hb, hml, hown, hts⟩ (c_X6_letsMark l D cy H.size k4 (0 : Int32)) (va_cwU 1 hts gX11_ask_X6_letsMark_u161X8 rfl rfl rfl rfl (by decide +kernel) ⟨Nat.le_of_ble_eq_true rfl, Nat.le_of_ble_eq_true rfl⟩) ⟨bl_, va_recvX hK.1 hP (ci := 8) (q0 := 10) rfl rfl, fun U hU hW => ⟨rfl, by rw [hU], by rw [hU]; exact hPc, kk_mv hW hK, hDw⟩⟩ rfl rfl hl.1 rfl (lv_room (Nat.le_of_ble_eq_true rfl)) dB_36_2_51.2.2.2.1 ⟨Nat.le_of_ble_eq_true rfl, Nat.le_of_ble_eq_true rfl⟩) hS (fun q _ h => hFc q h) hFc (fun r_78 u t H locs ht hvm hw hB hz1 hk1 hS => ?_)
                have hP : va_P D vwCl _ H := ro_keep hP hk1
                refine lv_i2l (v := r_78.toInt64) hx hb dB_36_2_51.2.2.2.2 rfl ?_
                have q_92 : (r_78.toInt64).toInt = r_78.toInt := Int32.toInt_toInt64 r_78
                refine lv_ladd hx hb dB_36_2_52.1.1.1.1 ?_
                refine lv_topl (fun y_79 ey_79 => ?_)
                refine va_put (ci := 11) (v := .long y_79) (ty := .long) (C := RX11) (T := TX11) (N := 12) hx hb hts (fun _ h => List.mem_cons_of_mem _ (List.mem_append_left _ (List.mem_append_right _ h))) tyX11 tyX11_ok nmX11 hown hK.1 hP hD hS 0 rfl rfl 10 (by decide) (hts (.fieldLink RX11 87 "CutAtlas" "traced" "J") (List.mem_of_getElem? (i := 4) rfl)) (fun _ h9 => h9) rfl (by decide +kernel) rfl rfl (Nat.le_of_ble_eq_true rfl) dB_36_2_52.1.1.1.2 (fun H locs hP hD hS => ?_)
                refine pd_K [ob11_0_ xo xk xn xc xh xt xw xm xp pf ph y_79 fi, ob3_0_ xn vp vn n1 n2 n3 n4 n5, ai_ cy n1 40 fk, ai_ cy n4 40 fw, ai_ cy n5 40 fp, aq_ cy 3 xk 5 (kf_ k0 k1 k2 k3 k4), ob6_0_ k0, ob5_0_ k1, ob9_0_ k2, ob2_0_ k3, ob8_0_ k4] hP hD (fun hP hD => ?_)
                refine lv_aload_n hx hb dB_36_2_52.1.1.2.1 rfl (lv_at hl 1 rfl) ?_
                refine lv_aload_n hx hb dB_36_2_52.1.1.2.2 rfl (lv_at hl 2 rfl) ?_
                refine va_get (ci := 11) (v := .ref xn) (C := RX11) (T := TX11) (N := 12) hx hb hts (fun _ h => List.mem_cons_of_mem _ (List.mem_append_left _ (List.mem_append_right _ h))) hown hK.1 hP 0 rfl rfl 1 (by decide) (hts (.fieldLink RX11 31 "CutAtlas" "net" "LCutAtlas$Net;") (List.mem_of_getElem? (i := 1) rfl)) (fun _ h9 => h9) rfl dB_36_2_52.1.2.1.1 ?_
                refine va_get (ci := 3) (v := .ref n4) (C := RX3) (T := TX3) (N := 7) hx hb hts (fun _ h => List.mem_cons_of_mem _ (List.mem_append_right _ h)) hown hK.1 hP 1 rfl rfl 5 (by decide) (hts (.fieldLink RX11 129 "CutAtlas$Net" "widths" "[I") (List.mem_of_getElem? (i := 6) rfl)) (fun _ h9 => h9) rfl dB_36_2_52.1.2.1.2 ?_
                refine lv_iload_n hx hb dB_36_2_52.1.2.2.1 rfl (lv_at hl 3 rfl) ?_
                have h_80 : vp_in a1 40 := in_I (by omega) (by omega)
                refine va_iald hx hb hK.1 hP 3 0 rfl rfl (i := a1) h_80 dB_36_2_52.1.2.2.2 ?_
                refine lv_topi (fun y_81 ey_81 => ?_)
                refine lv_iload hx hb dB_36_2_52.2.1.1.1 (lv_at hl 0 rfl) ?_
                refine ct_R hP hD [] [] (by decide) rfl (fun hPc hDw => ?_)
                have hFc := va_free (wc := []) hD hS hA [] rfl
                refine va_calli (va_runU (As := [.int y_81, .int 0]) (rest := []) ⟨hx, hb, hml, hown, hts⟩ (c_X6_lets l D cy H.size k4 y_81 (0 : Int32)) (va_cwU 2 hts gX11_ask_X6_lets_u165X8 rfl rfl rfl rfl (by decide +kernel) ⟨Nat.le_of_ble_eq_true rfl, Nat.le_of_ble_eq_true rfl⟩) ⟨bl_, va_recvX hK.1 hP (ci := 8) (q0 := 10) rfl rfl, fun U hU hW => ⟨rfl, by rw [hU], by rw [hU]; exact hPc, kk_mv hW hK, hDw⟩⟩ rfl rfl hl.1 rfl (lv_room (Nat.le_of_ble_eq_true rfl)) dB_36_2_52.2.1.1.2 ⟨Nat.le_of_ble_eq_true rfl, Nat.le_of_ble_eq_true rfl⟩) hS (fun q _ h => hFc q h) hFc (fun r_82 u t H locs ht hvm hw hB hz1 hk1 hS => ?_)
                have hP : va_P D vwCl _ H := ro_keep hP hk1
                have f0_r_82 := hw
                rw [hQ]
                exact W.iret (v := r_82) hx hb hr (fun t ht hW => ⟨⟨r_82, (), rfl, trivial, y_79, by rw [ht]; exact hP, hD⟩, hS.F ht⟩) hS.2.2 dB_36_2_52.2.1.2.1
              · have t_77 : a2.toInt = (0 : Int32).toInt := congrArg Int32.toInt c_77
                refine lv_iconst (v := 1) hx hb dB_36_2_51.1.2.1.2 (by decide) ?_
                refine lv_goto (tgt := 79) hx hb dB_36_2_51.1.2.2.1 (by decide) ?_
                refine lv_istore (lv' := [(4, .int 1), (3, .ref k4), (0, .ref xo), (1, .int a1), (2, .int a2)]) hx hb dB_36_2_51.2.1.1.1 hl (by decide) rfl (fun ls hl => ?_)
                refine lv_aload_n hx hb dB_36_2_51.2.1.1.2 rfl (lv_at hl 2 rfl) ?_
                refine lv_dup hx hb dB_36_2_51.2.1.2.1 rfl ?_
                refine va_get (ci := 11) (v := .long tr) (C := RX11) (T := TX11) (N := 12) hx hb hts (fun _ h => List.mem_cons_of_mem _ (List.mem_append_left _ (List.mem_append_right _ h))) hown hK.1 hP 0 rfl rfl 10 (by decide) (hts (.fieldLink RX11 87 "CutAtlas" "traced" "J") (List.mem_of_getElem? (i := 4) rfl)) (fun _ h9 => h9) rfl dB_36_2_51.2.1.2.2 ?_
                refine lv_aload_n hx hb dB_36_2_51.2.2.1.1 rfl (lv_at hl 1 rfl) ?_
                refine lv_iload hx hb dB_36_2_51.2.2.1.2 (lv_at hl 0 rfl) ?_
                refine ct_R hP hD [] [] (by decide) rfl (fun hPc hDw => ?_)
                have hFc := va_free (wc := []) hD hS hA [] rfl
                refine va_calli (va_runU (As := [.int 1]) (rest := [.long tr, .ref xo]) ⟨hx, hb, hml, hown, hts⟩ (c_X6_letsMark l D cy H.size k4 (1 : Int32)) (va_cwU 1 hts gX11_ask_X6_letsMark_u161X8 rfl rfl rfl rfl (by decide +kernel) ⟨Nat.le_of_ble_eq_true rfl, Nat.le_of_ble_eq_true rfl⟩) ⟨bl_, va_recvX hK.1 hP (ci := 8) (q0 := 10) rfl rfl, fun U hU hW => ⟨rfl, by rw [hU], by rw [hU]; exact hPc, kk_mv hW hK, hDw⟩⟩ rfl rfl hl.1 rfl (lv_room (Nat.le_of_ble_eq_true rfl)) dB_36_2_51.2.2.2.1 ⟨Nat.le_of_ble_eq_true rfl, Nat.le_of_ble_eq_true rfl⟩) hS (fun q _ h => hFc q h) hFc (fun r_83 u t H locs ht hvm hw hB hz1 hk1 hS => ?_)
                have hP : va_P D vwCl _ H := ro_keep hP hk1
                refine lv_i2l (v := r_83.toInt64) hx hb dB_36_2_51.2.2.2.2 rfl ?_
                have q_92 : (r_83.toInt64).toInt = r_83.toInt := Int32.toInt_toInt64 r_83
                refine lv_ladd hx hb dB_36_2_52.1.1.1.1 ?_
                refine lv_topl (fun y_84 ey_84 => ?_)
                refine va_put (ci := 11) (v := .long y_84) (ty := .long) (C := RX11) (T := TX11) (N := 12) hx hb hts (fun _ h => List.mem_cons_of_mem _ (List.mem_append_left _ (List.mem_append_right _ h))) tyX11 tyX11_ok nmX11 hown hK.1 hP hD hS 0 rfl rfl 10 (by decide) (hts (.fieldLink RX11 87 "CutAtlas" "traced" "J") (List.mem_of_getElem? (i := 4) rfl)) (fun _ h9 => h9) rfl (by decide +kernel) rfl rfl (Nat.le_of_ble_eq_true rfl) dB_36_2_52.1.1.1.2 (fun H locs hP hD hS => ?_)
                refine pd_K [ob11_0_ xo xk xn xc xh xt xw xm xp pf ph y_84 fi, ob3_0_ xn vp vn n1 n2 n3 n4 n5, ai_ cy n1 40 fk, ai_ cy n4 40 fw, ai_ cy n5 40 fp, aq_ cy 3 xk 5 (kf_ k0 k1 k2 k3 k4), ob6_0_ k0, ob5_0_ k1, ob9_0_ k2, ob2_0_ k3, ob8_0_ k4] hP hD (fun hP hD => ?_)
                refine lv_aload_n hx hb dB_36_2_52.1.1.2.1 rfl (lv_at hl 1 rfl) ?_
                refine lv_aload_n hx hb dB_36_2_52.1.1.2.2 rfl (lv_at hl 2 rfl) ?_
                refine va_get (ci := 11) (v := .ref xn) (C := RX11) (T := TX11) (N := 12) hx hb hts (fun _ h => List.mem_cons_of_mem _ (List.mem_append_left _ (List.mem_append_right _ h))) hown hK.1 hP 0 rfl rfl 1 (by decide) (hts (.fieldLink RX11 31 "CutAtlas" "net" "LCutAtlas$Net;") (List.mem_of_getElem? (i := 1) rfl)) (fun _ h9 => h9) rfl dB_36_2_52.1.2.1.1 ?_
                refine va_get (ci := 3) (v := .ref n4) (C := RX3) (T := TX3) (N := 7) hx hb hts (fun _ h => List.mem_cons_of_mem _ (List.mem_append_right _ h)) hown hK.1 hP 1 rfl rfl 5 (by decide) (hts (.fieldLink RX11 129 "CutAtlas$Net" "widths" "[I") (List.mem_of_getElem? (i := 6) rfl)) (fun _ h9 => h9) rfl dB_36_2_52.1.2.1.2 ?_
                refine lv_iload_n hx hb dB_36_2_52.1.2.2.1 rfl (lv_at hl 3 rfl) ?_
                have h_85 : vp_in a1 40 := in_I (by omega) (by omega)
                refine va_iald hx hb hK.1 hP 3 0 rfl rfl (i := a1) h_85 dB_36_2_52.1.2.2.2 ?_
                refine lv_topi (fun y_86 ey_86 => ?_)
                refine lv_iload hx hb dB_36_2_52.2.1.1.1 (lv_at hl 0 rfl) ?_
                refine ct_R hP hD [] [] (by decide) rfl (fun hPc hDw => ?_)
                have hFc := va_free (wc := []) hD hS hA [] rfl
                refine va_calli (va_runU (As := [.int y_86, .int 1]) (rest := []) ⟨hx, hb, hml, hown, hts⟩ (c_X6_lets l D cy H.size k4 y_86 (1 : Int32)) (va_cwU 2 hts gX11_ask_X6_lets_u165X8 rfl rfl rfl rfl (by decide +kernel) ⟨Nat.le_of_ble_eq_true rfl, Nat.le_of_ble_eq_true rfl⟩) ⟨bl_, va_recvX hK.1 hP (ci := 8) (q0 := 10) rfl rfl, fun U hU hW => ⟨rfl, by rw [hU], by rw [hU]; exact hPc, kk_mv hW hK, hDw⟩⟩ rfl rfl hl.1 rfl (lv_room (Nat.le_of_ble_eq_true rfl)) dB_36_2_52.2.1.1.2 ⟨Nat.le_of_ble_eq_true rfl, Nat.le_of_ble_eq_true rfl⟩) hS (fun q _ h => hFc q h) hFc (fun r_87 u t H locs ht hvm hw hB hz1 hk1 hS => ?_)
                have hP : va_P D vwCl _ H := ro_keep hP hk1
                have f0_r_87 := hw
                rw [hQ]
                exact W.iret (v := r_87) hx hb hr (fun t ht hW => ⟨⟨r_87, (), rfl, trivial, y_84, by rw [ht]; exact hP, hD⟩, hS.F ht⟩) hS.2.2 dB_36_2_52.2.1.2.1
            · have t_76 : a2.toInt = (2 : Int32).toInt := congrArg Int32.toInt c_76
              refine lv_aload_n hx hb dB_36_2_50.1.1.2.2 rfl (lv_at hl 1 rfl) ?_
              refine lv_dup hx hb dB_36_2_50.1.2.1.1 rfl ?_
              refine va_get (ci := 11) (v := .long tr) (C := RX11) (T := TX11) (N := 12) hx hb hts (fun _ h => List.mem_cons_of_mem _ (List.mem_append_left _ (List.mem_append_right _ h))) hown hK.1 hP 0 rfl rfl 10 (by decide) (hts (.fieldLink RX11 87 "CutAtlas" "traced" "J") (List.mem_of_getElem? (i := 4) rfl)) (fun _ h9 => h9) rfl dB_36_2_50.1.2.1.2 ?_
              refine lv_aload_n hx hb dB_36_2_50.1.2.2.1 rfl (lv_at hl 0 rfl) ?_
              refine ct_R hP hD [ob8_0_ k4] [10] (by decide) rfl (fun hPc hDw => ?_)
              have hFc := va_free (wc := []) hD hS hA [] rfl
              refine va_calli (va_runU (As := []) (rest := [.long tr, .ref xo]) ⟨hx, hb, hml, hown, hts⟩ (c_X8_costsMark l D cy H.size k4) (va_cwO 0 hts gX11_ask_X8_costsMark_u132X8 rfl rfl rfl (b0 := cX6_costsMark) (m0 := 1) (r0 := (some .int)) (by decide +kernel) (by decide +kernel) ⟨Nat.le_of_ble_eq_true rfl, Nat.le_of_ble_eq_true rfl⟩) ⟨bl_, va_recvX hK.1 hP (ci := 8) (q0 := 10) rfl rfl, fun U hU hW => ⟨rfl, by rw [hU], by rw [hU]; exact hPc, kk_mv hW hK, hDw⟩⟩ rfl rfl hl.1 rfl (lv_room (Nat.le_of_ble_eq_true rfl)) dB_36_2_50.1.2.2.2 ⟨Nat.le_of_ble_eq_true rfl, Nat.le_of_ble_eq_true rfl⟩) hS (fun q _ h => hFc q h) hFc (fun r_88 u t H locs ht hvm hw hB hz1 hk1 hS => ?_)
              have hP : va_P D vwCl _ H := ro_keep hP hk1
              refine lv_i2l (v := r_88.toInt64) hx hb dB_36_2_50.2.1.1.1 rfl ?_
              have q_51 : (r_88.toInt64).toInt = r_88.toInt := Int32.toInt_toInt64 r_88
              refine lv_ladd hx hb dB_36_2_50.2.1.1.2 ?_
              refine lv_topl (fun y_89 ey_89 => ?_)
              refine va_put (ci := 11) (v := .long y_89) (ty := .long) (C := RX11) (T := TX11) (N := 12) hx hb hts (fun _ h => List.mem_cons_of_mem _ (List.mem_append_left _ (List.mem_append_right _ h))) tyX11 tyX11_ok nmX11 hown hK.1 hP hD hS 0 rfl rfl 10 (by decide) (hts (.fieldLink RX11 87 "CutAtlas" "traced" "J") (List.mem_of_getElem? (i := 4) rfl)) (fun _ h9 => h9) rfl (by decide +kernel) rfl rfl (Nat.le_of_ble_eq_true rfl) dB_36_2_50.2.1.2.1 (fun H locs hP hD hS => ?_)
              refine pd_K [ob11_0_ xo xk xn xc xh xt xw xm xp pf ph y_89 fi, ob3_0_ xn vp vn n1 n2 n3 n4 n5, ai_ cy n1 40 fk, ai_ cy n4 40 fw, ai_ cy n5 40 fp, aq_ cy 3 xk 5 (kf_ k0 k1 k2 k3 k4), ob6_0_ k0, ob5_0_ k1, ob9_0_ k2, ob2_0_ k3, ob8_0_ k4] hP hD (fun hP hD => ?_)
              refine lv_aload_n hx hb dB_36_2_50.2.1.2.2 rfl (lv_at hl 0 rfl) ?_
              refine lv_aload_n hx hb dB_36_2_50.2.2.1.1 rfl (lv_at hl 1 rfl) ?_
              refine va_get (ci := 11) (v := .ref xn) (C := RX11) (T := TX11) (N := 12) hx hb hts (fun _ h => List.mem_cons_of_mem _ (List.mem_append_left _ (List.mem_append_right _ h))) hown hK.1 hP 0 rfl rfl 1 (by decide) (hts (.fieldLink RX11 31 "CutAtlas" "net" "LCutAtlas$Net;") (List.mem_of_getElem? (i := 1) rfl)) (fun _ h9 => h9) rfl dB_36_2_50.2.2.1.2 ?_
              refine va_get (ci := 3) (v := .ref n5) (C := RX3) (T := TX3) (N := 7) hx hb hts (fun _ h => List.mem_cons_of_mem _ (List.mem_append_right _ h)) hown hK.1 hP 1 rfl rfl 6 (by decide) (hts (.fieldLink RX11 119 "CutAtlas$Net" "prices" "[I") (List.mem_of_getElem? (i := 5) rfl)) (fun _ h9 => h9) rfl dB_36_2_50.2.2.2.1 ?_
              refine lv_iload_n hx hb dB_36_2_50.2.2.2.2 rfl (lv_at hl 2 rfl) ?_
              have h_90 : vp_in a1 40 := in_I (by omega) (by omega)
              refine va_iald hx hb hK.1 hP 4 0 rfl rfl (i := a1) h_90 dB_36_2_51.1.1.1.1 ?_
              refine lv_topi (fun y_91 ey_91 => ?_)
              refine ct_R hP hD [ob8_0_ k4] [10] (by decide) rfl (fun hPc hDw => ?_)
              have hFc := va_free (wc := []) hD hS hA [] rfl
              refine va_calli (va_runU (As := [.int y_91]) (rest := []) ⟨hx, hb, hml, hown, hts⟩ (c_X8_costs l D cy H.size k4 y_91) (va_cwO 1 hts gX11_ask_X8_costs_u122X8 rfl rfl rfl (b0 := cX6_costs) (m0 := 2) (r0 := (some .int)) (by decide +kernel) (by decide +kernel) ⟨Nat.le_of_ble_eq_true rfl, Nat.le_of_ble_eq_true rfl⟩) ⟨bl_, va_recvX hK.1 hP (ci := 8) (q0 := 10) rfl rfl, fun U hU hW => ⟨rfl, by rw [hU], by rw [hU]; exact hPc, kk_mv hW hK, hDw⟩⟩ rfl rfl hl.1 rfl (lv_room (Nat.le_of_ble_eq_true rfl)) dB_36_2_51.1.1.1.2 ⟨Nat.le_of_ble_eq_true rfl, Nat.le_of_ble_eq_true rfl⟩) hS (fun q _ h => hFc q h) hFc (fun r_92 u t H locs ht hvm hw hB hz1 hk1 hS => ?_)
              have hP : va_P D vwCl _ H := ro_keep hP hk1
              rw [hQ]
              exact W.iret (v := r_92) hx hb hr (fun t ht hW => ⟨⟨r_92, (), rfl, trivial, y_89, by rw [ht]; exact hP, hD⟩, hS.F ht⟩) hS.2.2 dB_36_2_51.1.1.2.1
        · have t_5 : ¬ a2.toInt ≤ (2 : Int32).toInt := fun h => c_5 (Int32.le_iff_toInt_le.mpr h)
          refine lv_iconst (v := (-1)) hx hb dB_36_2_49.1.2.1.2 (by decide) ?_
          rw [hQ]
          exact W.iret (v := (-1)) hx hb hr (fun t ht hW => ⟨⟨(-1), (), rfl, trivial, tr, by rw [ht]; exact hP, hD⟩, hS.F ht⟩) hS.2.2 dB_36_2_49.1.2.2.1
  · have e_ := e_.symm
    subst e_
    refine lv_if_eq (tgt := 20) hx hb dB_36_2_48.2.2.2.2 (by decide) (fun c_93 => ?_) (fun c_93 => ?_)
    · have _ := c_93
      refine lv_iconst (v := (-1)) hx hb dB_36_2_49.1.2.1.2 (by decide) ?_
      rw [hQ]
      exact W.iret (v := (-1)) hx hb hr (fun t ht hW => ⟨⟨(-1), (), rfl, trivial, tr, by rw [ht]; exact hP, hD⟩, hS.F ht⟩) hS.2.2 dB_36_2_49.1.2.2.1
    · exact absurd c_93 (by decide)
end

section
set_option maxHeartbeats 4000000 in
set_option maxRecDepth 100000 in
theorem c_X11_addLine (l : Launch) (D : va_G) (cy : Nat → ClassId) (sz : Nat) (xo : Nat) (xk : Nat) (xn : Nat) (xc : Nat) (xh : Nat) (xt : Nat) (xw : Nat) (xm : Nat) (xp : Nat) (pf : Int32) (ph : Int32) (tr : Int64) (fi : Int32) (n1 : Nat) (n2 : Nat) (n3 : Nat) (n4 : Nat) (n5 : Nat) (vp : Int32) (vn : Int32) (fk : Nat → Int32) (fs : Nat → Int32) (fe : Nat → Int32) (fw : Nat → Int32) (fp : Nat → Int32) (k0 : Nat) (k1 : Nat) (k2 : Nat) (k3 : Nat) (k4 : Nat) (a1 : Int32) (a2 : Int32) (a3 : Int32) (a4 : Int32) (a5 : Int32) (hvn : 0 ≤ vn.toInt ∧ vn.toInt < 40) (q1 : 0 ≤ a1.toInt ∧ a1.toInt ≤ 4) (q2 : 0 ≤ a2.toInt ∧ a2.toInt ≤ 11) (q3 : 0 ≤ a3.toInt ∧ a3.toInt ≤ 11) (q4 : 0 ≤ a4.toInt ∧ a4.toInt ≤ 1000) (q5 : 0 ≤ a5.toInt ∧ a5.toInt ≤ 100) (hpr : prng fs fe 40) (r_fk : rng fk 40 (0) (4)) (r_fw : rng fw 40 (0) (2000)) (r_fp : rng fp 40 (0) (100)) : Met l yX11_addLine wsX11_addLine ({ frames := 1, cells := 0, slots := 0, locals := 25 }) (va_Pc [.ref xo, .int a1, .int a2, .int a3, .int a4, .int a5] (fun U => U.heap.size = sz ∧ va_P D vwCl [ob11_0_ xo xk xn xc xh xt xw xm xp pf ph tr fi, ob3_0_ xn vp vn n1 n2 n3 n4 n5, ai_ cy n1 40 fk, ai_ cy n2 40 fs, ai_ cy n3 40 fe, ai_ cy n4 40 fw, ai_ cy n5 40 fp, aq_ cy 3 xk 5 (kf_ k0 k1 k2 k3 k4), ob6_0_ k0, ob5_0_ k1, ob9_0_ k2, ob2_0_ k3, ob8_0_ k4] U.heap ∧ kk_ D cy U ∧ va_D (fun _ => True) [ob11_0_ xo xk xn xc xh xt xw xm xp pf ph tr fi, ob3_0_ xn vp vn n1 n2 n3 n4 n5, ai_ cy n1 40 fk, ai_ cy n2 40 fs, ai_ cy n3 40 fe, ai_ cy n4 40 fw, ai_ cy n5 40 fp, aq_ cy 3 xk 5 (kf_ k0 k1 k2 k3 k4), ob6_0_ k0, ob5_0_ k1, ob9_0_ k2, ob2_0_ k3, ob8_0_ k4])) (va_Qi (fun (r : Int32) (_ : Unit) => True) (fun (_ : Unit) (t : State) => ∃ (evn : Int32), ∃ (efk : Nat → Int32), ∃ (efs : Nat → Int32), ∃ (efe : Nat → Int32), ∃ (efw : Nat → Int32), ∃ (efp : Nat → Int32), (evn.toInt = vn.toInt + 1) ∧ (prng efs efe 40) ∧ (rng efk 40 (0) (4)) ∧ (rng efw 40 (0) (2000)) ∧ (rng efp 40 (0) (100)) ∧ va_P D vwCl [ob11_0_ xo xk xn xc xh xt xw xm xp pf ph tr fi, ob3_0_ xn vp evn n1 n2 n3 n4 n5, ai_ cy n1 40 efk, ai_ cy n2 40 efs, ai_ cy n3 40 efe, ai_ cy n4 40 efw, ai_ cy n5 40 efp, aq_ cy 3 xk 5 (kf_ k0 k1 k2 k3 k4), ob6_0_ k0, ob5_0_ k1, ob9_0_ k2, ob2_0_ k3, ob8_0_ k4] t.heap ∧ va_D (va_A [ob11_0_ xo xk xn xc xh xt xw xm xp pf ph tr fi, ob3_0_ xn vp vn n1 n2 n3 n4 n5, ai_ cy n1 40 fk, ai_ cy n2 40 fs, ai_ cy n3 40 fe, ai_ cy n4 40 fw, ai_ cy n5 40 fp, aq_ cy 3 xk 5 (kf_ k0 k1 k2 k3 k4), ob6_0_ k0, ob5_0_ k1, ob9_0_ k2, ob2_0_ k3, ob8_0_ k4] sz) [ob11_0_ xo xk xn xc xh xt xw xm xp pf ph tr fi, ob3_0_ xn vp evn n1 n2 n3 n4 n5, ai_ cy n1 40 efk, ai_ cy n2 40 efs, ai_ cy n3 40 efe, ai_ cy n4 40 efw, ai_ cy n5 40 efp, aq_ cy 3 xk 5 (kf_ k0 k1 k2 k3 k4), ob6_0_ k0, ob5_0_ k1, ob9_0_ k2, ob2_0_ k3, ob8_0_ k4]) (va_A [ob11_0_ xo xk xn xc xh xt xw xm xp pf ph tr fi, ob3_0_ xn vp vn n1 n2 n3 n4 n5, ai_ cy n1 40 fk, ai_ cy n2 40 fs, ai_ cy n3 40 fe, ai_ cy n4 40 fw, ai_ cy n5 40 fp, aq_ cy 3 xk 5 (kf_ k0 k1 k2 k3 k4), ob6_0_ k0, ob5_0_ k1, ob9_0_ k2, ob2_0_ k3, ob8_0_ k4] sz)) 0 0 (va_A [ob11_0_ xo xk xn xc xh xt xw xm xp pf ph tr fi, ob3_0_ xn vp vn n1 n2 n3 n4 n5, ai_ cy n1 40 fk, ai_ cy n2 40 fs, ai_ cy n3 40 fe, ai_ cy n4 40 fw, ai_ cy n5 40 fp, aq_ cy 3 xk 5 (kf_ k0 k1 k2 k3 k4), ob6_0_ k0, ob5_0_ k1, ob9_0_ k2, ob2_0_ k3, ob8_0_ k4] sz) := by
  refine ofQ (cc := cX11_addLine) (maxL := 6) (ret := (some .int)) (by decide) rfl ?_
  intro p e s m args below meth c s₁ Q hQ B hml hv
  obtain ⟨rfl, hsz, hP, hK, hD0⟩ := hv
  have hx := B.exec
  have hb := B.bytes
  have hr := B.returns
  have hts := atoms_spec (ws := wsX11_addLine) B.pre
  have hown : s.vm.findClass RX11 = some m.cls := by have h_ := findClass_of_methodNamed B.named; exact h_
  have hlocks := B.notSynchronized
  subst hsz
  have hD := hD0.self (sz := s.heap.size)
  generalize hAe : va_A [ob11_0_ xo xk xn xc xh xt xw xm xp pf ph tr fi, ob3_0_ xn vp vn n1 n2 n3 n4 n5, ai_ cy n1 40 fk, ai_ cy n2 40 fs, ai_ cy n3 40 fe, ai_ cy n4 40 fw, ai_ cy n5 40 fp, aq_ cy 3 xk 5 (kf_ k0 k1 k2 k3 k4), ob6_0_ k0, ob5_0_ k1, ob9_0_ k2, ob2_0_ k3, ob8_0_ k4] s.heap.size = A at hD hQ
  have hA : ∀ q : Nat, s.heap.size ≤ q → A q := fun q h => by rw [← hAe]; exact Or.inr h
  have hS : va_S A s.heap s.heap [] := va_S.rf
  have hl := lv_entry ([.ref xo, .int a1, .int a2, .int a3, .int a4, .int a5]) (n := 6) (Nat.le_of_ble_eq_true rfl)
  rw [lg_entry_eq]
  generalize (lg_sl ([.ref xo, .int a1, .int a2, .int a3, .int a4, .int a5]) ++ List.replicate (6 - (lg_sl ([.ref xo, .int a1, .int a2, .int a3, .int a4, .int a5])).length) Slot.unset).toArray = ls at hl ⊢
  have hl : lv_has ls 6 [(0, .ref xo), (1, .int a1), (2, .int a2), (3, .int a3), (4, .int a4), (5, .int a5)] := hl
  have z0 : (0 : Int32).toInt = 0 := by decide
  have z1 : (1 : Int32).toInt = 1 := by decide
  have z2 : (2 : Int32).toInt = 2 := by decide
  have z3 : (3 : Int32).toInt = 3 := by decide
  have z4 : (4 : Int32).toInt = 4 := by decide
  refine lv_aload_n hx hb dB_36_3_47.1.2.2.1 rfl (lv_at hl 0 rfl) ?_
  refine va_get (ci := 11) (v := .ref xn) (C := RX11) (T := TX11) (N := 12) hx hb hts (fun _ h => List.mem_cons_of_mem _ (List.mem_append_left _ (List.mem_append_right _ h))) hown hK.1 hP 0 rfl rfl 1 (by decide) (hts (.fieldLink RX11 31 "CutAtlas" "net" "LCutAtlas$Net;") (List.mem_of_getElem? (i := 1) rfl)) (fun _ h9 => h9) rfl dB_36_3_47.1.2.2.2 ?_
  refine lv_iload_n hx hb dB_36_3_47.2.1.1.1 rfl (lv_at hl 1 rfl) ?_
  refine lv_iload_n hx hb dB_36_3_47.2.1.1.2 rfl (lv_at hl 2 rfl) ?_
  refine lv_iload_n hx hb dB_36_3_47.2.1.2.1 rfl (lv_at hl 3 rfl) ?_
  refine lv_aload_n hx hb dB_36_3_47.2.1.2.2 rfl (lv_at hl 0 rfl) ?_
  refine va_get (ci := 11) (v := .ref xk) (C := RX11) (T := TX11) (N := 12) hx hb hts (fun _ h => List.mem_cons_of_mem _ (List.mem_append_left _ (List.mem_append_right _ h))) hown hK.1 hP 0 rfl rfl 0 (by decide) (hts (.fieldLink RX11 22 "CutAtlas" "kinds" "[LCutAtlas$PlainKind;") (List.mem_of_getElem? (i := 2) rfl)) (fun _ h9 => h9) rfl dB_36_3_47.2.2.1.1 ?_
  refine lv_iload_n hx hb dB_36_3_47.2.2.1.2 rfl (lv_at hl 1 rfl) ?_
  rcases sp_5 (x := a1) (by omega) with rfl | rfl | rfl | rfl | rfl
  · refine va_aldq hx hb hK.1 hP 7 3 rfl rfl (i := 0) (by unfold vp_in; decide) dB_36_3_47.2.2.2.1 ?_
    refine lv_topv (v' := .ref k0) (by simp [va_up, va_rf, mf_, cl_0, cl_1, cl_2, cl_3, cl_4, kf_]) ?_
    refine lv_iload hx hb dB_36_3_47.2.2.2.2 (lv_at hl 4 rfl) ?_
    refine ct_R hP hD [] [] (by decide) rfl (fun hPc hDw => ?_)
    have hFc := va_free (wc := []) hD hS hA [] rfl
    refine va_calli (va_runV (As := [.int a4]) (rest := [.int a3, .int a2, .int 0, .ref xn]) ⟨hx, hb, hml, hown, hts⟩ (c_X6_begins l D cy s.heap.size k0 a4) (cwV 1 hts gX11_addLine_X6_begins rfl rfl rfl ⟨rfl, hd_X6_begins⟩ ⟨Nat.le_of_ble_eq_true rfl, Nat.le_of_ble_eq_true rfl⟩) ⟨bl_, va_recvX hK.1 hP (ci := 6) (q0 := 8) rfl rfl, fun U hU hW => ⟨rfl, by rw [hU], by rw [hU]; exact hPc, kk_mv hW hK, hDw⟩⟩ rfl rfl hl.1 rfl (lv_room (Nat.le_of_ble_eq_true rfl)) dB_36_3_48.1.1.1.1 ⟨Nat.le_of_ble_eq_true rfl, Nat.le_of_ble_eq_true rfl⟩) hS (fun q _ h => hFc q h) hFc (fun r_1 u t H locs ht hvm hw hB hz1 hk1 hS => ?_)
    have hP : va_P D vwCl _ H := ro_keep hP hk1
    have f0_r_1 := hw
    have hb_ : 0 ≤ r_1.toInt ∧ r_1.toInt ≤ 2000 := by first | omega | (have h := congrArg Int32.toInt f0_r_1; omega)
    refine lv_iload hx hb dB_36_3_48.1.1.1.2 (lv_at hl 5 rfl) ?_
    refine ct_S hP hD hS hA [ob3_0_ xn vp vn n1 n2 n3 n4 n5, ai_ cy n1 40 fk, ai_ cy n2 40 fs, ai_ cy n3 40 fe, ai_ cy n4 40 fw, ai_ cy n5 40 fp] [1, 2, 3, 4, 5, 6] (by decide) rfl (fun hPc hDw hFc hC_ => ?_)
    refine va_calli (va_runV (As := [.int 0, .int a2, .int a3, .int r_1, .int a5]) (rest := []) ⟨hx, hb, hml, hown, hts⟩ (c_X3_append l D cy H.size xn n1 n2 n3 n4 n5 vp vn fk fs fe fw fp (0 : Int32) a2 a3 r_1 a5 (by first | with_reducible assumption | omega | assumption) (by first | with_reducible assumption | omega | assumption) (by first | with_reducible assumption | omega | assumption) (by first | with_reducible assumption | omega | assumption) (by first | with_reducible assumption | omega | assumption) (by first | with_reducible assumption | omega | assumption) (by first | with_reducible assumption | assumption | omega) (by first | with_reducible assumption | assumption | omega) (by first | with_reducible assumption | assumption | omega) (by first | with_reducible assumption | assumption | omega)) (cwV 5 hts gX11_addLine_X3_append rfl rfl rfl ⟨rfl, hd_X3_append⟩ ⟨Nat.le_of_ble_eq_true rfl, Nat.le_of_ble_eq_true rfl⟩) ⟨bl_, va_recvX hK.1 hP (ci := 3) (q0 := 1) rfl rfl, fun U hU hW => ⟨rfl, by rw [hU], by rw [hU]; exact hPc, kk_mv hW hK, hDw⟩⟩ rfl rfl hl.1 rfl (lv_room (Nat.le_of_ble_eq_true rfl)) dB_36_3_48.1.1.2.1 ⟨Nat.le_of_ble_eq_true rfl, Nat.le_of_ble_eq_true rfl⟩) hS (fun q _ h => hFc q h) hFc (fun r_2 u t H locs ht hvm hw hB hz1 hk1 hS => ?_)
    obtain ⟨evn_3, efk_4, efs_5, efe_6, efw_7, efp_8, g_9, g_10, g_11, g_12, g_13, hP1, hD1⟩ := hB
    rw [ht] at hP1
    obtain ⟨hP, hD⟩ := va_join (wr := [ob11_0_ xo xk xn xc xh xt xw xm xp pf ph tr fi, aq_ cy 3 xk 5 (kf_ k0 k1 k2 k3 k4), ob6_0_ k0, ob5_0_ k1, ob9_0_ k2, ob2_0_ k3, ob8_0_ k4]) (w1 := [ob3_0_ xn vp evn_3 n1 n2 n3 n4 n5, ai_ cy n1 40 efk_4, ai_ cy n2 40 efs_5, ai_ cy n3 40 efe_6, ai_ cy n4 40 efw_7, ai_ cy n5 40 efp_8]) hP hD [1, 2, 3, 4, 5, 6] [0, 7, 8, 9, 10, 11, 12] hC_ rfl (by decide) (by decide) hk1 hFc hP1 hD1
    refine pd_S hP hD [ob11_0_ xo xk xn xc xh xt xw xm xp pf ph tr fi, ob3_0_ xn vp evn_3 n1 n2 n3 n4 n5, ai_ cy n1 40 efk_4, ai_ cy n2 40 efs_5, ai_ cy n3 40 efe_6, ai_ cy n4 40 efw_7, ai_ cy n5 40 efp_8, aq_ cy 3 xk 5 (kf_ k0 k1 k2 k3 k4), ob6_0_ k0, ob5_0_ k1, ob9_0_ k2, ob2_0_ k3, ob8_0_ k4] [0, 7, 8, 9, 10, 11, 12, 1, 2, 3, 4, 5, 6] (by decide +kernel) rfl (fun hP hD => ?_)
    rw [hQ]
    exact W.iret (v := r_2) hx hb hr (fun t ht hW => ⟨⟨r_2, (), rfl, trivial, evn_3, efk_4, efs_5, efe_6, efw_7, efp_8, (by first | with_reducible assumption | omega | assumption), (by first | with_reducible assumption | assumption | exact rng_zero (by omega) (by omega) | omega), (by first | with_reducible assumption | assumption | exact rng_zero (by omega) (by omega) | omega), (by first | with_reducible assumption | assumption | exact rng_zero (by omega) (by omega) | omega), (by first | with_reducible assumption | assumption | exact rng_zero (by omega) (by omega) | omega), by rw [ht]; exact hP, hD⟩, hS.F ht⟩) hS.2.2 dB_36_3_48.1.1.2.2
  · refine va_aldq hx hb hK.1 hP 7 3 rfl rfl (i := 1) (by unfold vp_in; decide) dB_36_3_47.2.2.2.1 ?_
    refine lv_topv (v' := .ref k1) (by simp [va_up, va_rf, mf_, cl_0, cl_1, cl_2, cl_3, cl_4, kf_]) ?_
    refine lv_iload hx hb dB_36_3_47.2.2.2.2 (lv_at hl 4 rfl) ?_
    refine ct_R hP hD [] [] (by decide) rfl (fun hPc hDw => ?_)
    have hFc := va_free (wc := []) hD hS hA [] rfl
    refine va_calli (va_runU (As := [.int a4]) (rest := [.int a3, .int a2, .int 1, .ref xn]) ⟨hx, hb, hml, hown, hts⟩ (c_X6_begins l D cy s.heap.size k1 a4) (va_cwU 1 hts gX11_addLine_X6_begins_u306X5 rfl rfl rfl rfl (by decide +kernel) ⟨Nat.le_of_ble_eq_true rfl, Nat.le_of_ble_eq_true rfl⟩) ⟨bl_, va_recvX hK.1 hP (ci := 5) (q0 := 9) rfl rfl, fun U hU hW => ⟨rfl, by rw [hU], by rw [hU]; exact hPc, kk_mv hW hK, hDw⟩⟩ rfl rfl hl.1 rfl (lv_room (Nat.le_of_ble_eq_true rfl)) dB_36_3_48.1.1.1.1 ⟨Nat.le_of_ble_eq_true rfl, Nat.le_of_ble_eq_true rfl⟩) hS (fun q _ h => hFc q h) hFc (fun r_14 u t H locs ht hvm hw hB hz1 hk1 hS => ?_)
    have hP : va_P D vwCl _ H := ro_keep hP hk1
    have f0_r_14 := hw
    have hb_ : 0 ≤ r_14.toInt ∧ r_14.toInt ≤ 2000 := by first | omega | (have h := congrArg Int32.toInt f0_r_14; omega)
    refine lv_iload hx hb dB_36_3_48.1.1.1.2 (lv_at hl 5 rfl) ?_
    refine ct_S hP hD hS hA [ob3_0_ xn vp vn n1 n2 n3 n4 n5, ai_ cy n1 40 fk, ai_ cy n2 40 fs, ai_ cy n3 40 fe, ai_ cy n4 40 fw, ai_ cy n5 40 fp] [1, 2, 3, 4, 5, 6] (by decide) rfl (fun hPc hDw hFc hC_ => ?_)
    refine va_calli (va_runV (As := [.int 1, .int a2, .int a3, .int r_14, .int a5]) (rest := []) ⟨hx, hb, hml, hown, hts⟩ (c_X3_append l D cy H.size xn n1 n2 n3 n4 n5 vp vn fk fs fe fw fp (1 : Int32) a2 a3 r_14 a5 (by first | with_reducible assumption | omega | assumption) (by first | with_reducible assumption | omega | assumption) (by first | with_reducible assumption | omega | assumption) (by first | with_reducible assumption | omega | assumption) (by first | with_reducible assumption | omega | assumption) (by first | with_reducible assumption | omega | assumption) (by first | with_reducible assumption | assumption | omega) (by first | with_reducible assumption | assumption | omega) (by first | with_reducible assumption | assumption | omega) (by first | with_reducible assumption | assumption | omega)) (cwV 5 hts gX11_addLine_X3_append rfl rfl rfl ⟨rfl, hd_X3_append⟩ ⟨Nat.le_of_ble_eq_true rfl, Nat.le_of_ble_eq_true rfl⟩) ⟨bl_, va_recvX hK.1 hP (ci := 3) (q0 := 1) rfl rfl, fun U hU hW => ⟨rfl, by rw [hU], by rw [hU]; exact hPc, kk_mv hW hK, hDw⟩⟩ rfl rfl hl.1 rfl (lv_room (Nat.le_of_ble_eq_true rfl)) dB_36_3_48.1.1.2.1 ⟨Nat.le_of_ble_eq_true rfl, Nat.le_of_ble_eq_true rfl⟩) hS (fun q _ h => hFc q h) hFc (fun r_15 u t H locs ht hvm hw hB hz1 hk1 hS => ?_)
    obtain ⟨evn_16, efk_17, efs_18, efe_19, efw_20, efp_21, g_22, g_23, g_24, g_25, g_26, hP1, hD1⟩ := hB
    rw [ht] at hP1
    obtain ⟨hP, hD⟩ := va_join (wr := [ob11_0_ xo xk xn xc xh xt xw xm xp pf ph tr fi, aq_ cy 3 xk 5 (kf_ k0 k1 k2 k3 k4), ob6_0_ k0, ob5_0_ k1, ob9_0_ k2, ob2_0_ k3, ob8_0_ k4]) (w1 := [ob3_0_ xn vp evn_16 n1 n2 n3 n4 n5, ai_ cy n1 40 efk_17, ai_ cy n2 40 efs_18, ai_ cy n3 40 efe_19, ai_ cy n4 40 efw_20, ai_ cy n5 40 efp_21]) hP hD [1, 2, 3, 4, 5, 6] [0, 7, 8, 9, 10, 11, 12] hC_ rfl (by decide) (by decide) hk1 hFc hP1 hD1
    refine pd_S hP hD [ob11_0_ xo xk xn xc xh xt xw xm xp pf ph tr fi, ob3_0_ xn vp evn_16 n1 n2 n3 n4 n5, ai_ cy n1 40 efk_17, ai_ cy n2 40 efs_18, ai_ cy n3 40 efe_19, ai_ cy n4 40 efw_20, ai_ cy n5 40 efp_21, aq_ cy 3 xk 5 (kf_ k0 k1 k2 k3 k4), ob6_0_ k0, ob5_0_ k1, ob9_0_ k2, ob2_0_ k3, ob8_0_ k4] [0, 7, 8, 9, 10, 11, 12, 1, 2, 3, 4, 5, 6] (by decide +kernel) rfl (fun hP hD => ?_)
    rw [hQ]
    exact W.iret (v := r_15) hx hb hr (fun t ht hW => ⟨⟨r_15, (), rfl, trivial, evn_16, efk_17, efs_18, efe_19, efw_20, efp_21, (by first | with_reducible assumption | omega | assumption), (by first | with_reducible assumption | assumption | exact rng_zero (by omega) (by omega) | omega), (by first | with_reducible assumption | assumption | exact rng_zero (by omega) (by omega) | omega), (by first | with_reducible assumption | assumption | exact rng_zero (by omega) (by omega) | omega), (by first | with_reducible assumption | assumption | exact rng_zero (by omega) (by omega) | omega), by rw [ht]; exact hP, hD⟩, hS.F ht⟩) hS.2.2 dB_36_3_48.1.1.2.2
  · refine va_aldq hx hb hK.1 hP 7 3 rfl rfl (i := 2) (by unfold vp_in; decide) dB_36_3_47.2.2.2.1 ?_
    refine lv_topv (v' := .ref k2) (by simp [va_up, va_rf, mf_, cl_0, cl_1, cl_2, cl_3, cl_4, kf_]) ?_
    refine lv_iload hx hb dB_36_3_47.2.2.2.2 (lv_at hl 4 rfl) ?_
    refine ct_R hP hD [] [] (by decide) rfl (fun hPc hDw => ?_)
    have hFc := va_free (wc := []) hD hS hA [] rfl
    refine va_calli (va_runU (As := [.int a4]) (rest := [.int a3, .int a2, .int 2, .ref xn]) ⟨hx, hb, hml, hown, hts⟩ (c_X6_begins l D cy s.heap.size k2 a4) (va_cwU 1 hts gX11_addLine_X6_begins_u306X9 rfl rfl rfl rfl (by decide +kernel) ⟨Nat.le_of_ble_eq_true rfl, Nat.le_of_ble_eq_true rfl⟩) ⟨bl_, va_recvX hK.1 hP (ci := 9) (q0 := 10) rfl rfl, fun U hU hW => ⟨rfl, by rw [hU], by rw [hU]; exact hPc, kk_mv hW hK, hDw⟩⟩ rfl rfl hl.1 rfl (lv_room (Nat.le_of_ble_eq_true rfl)) dB_36_3_48.1.1.1.1 ⟨Nat.le_of_ble_eq_true rfl, Nat.le_of_ble_eq_true rfl⟩) hS (fun q _ h => hFc q h) hFc (fun r_27 u t H locs ht hvm hw hB hz1 hk1 hS => ?_)
    have hP : va_P D vwCl _ H := ro_keep hP hk1
    have f0_r_27 := hw
    have hb_ : 0 ≤ r_27.toInt ∧ r_27.toInt ≤ 2000 := by first | omega | (have h := congrArg Int32.toInt f0_r_27; omega)
    refine lv_iload hx hb dB_36_3_48.1.1.1.2 (lv_at hl 5 rfl) ?_
    refine ct_S hP hD hS hA [ob3_0_ xn vp vn n1 n2 n3 n4 n5, ai_ cy n1 40 fk, ai_ cy n2 40 fs, ai_ cy n3 40 fe, ai_ cy n4 40 fw, ai_ cy n5 40 fp] [1, 2, 3, 4, 5, 6] (by decide) rfl (fun hPc hDw hFc hC_ => ?_)
    refine va_calli (va_runV (As := [.int 2, .int a2, .int a3, .int r_27, .int a5]) (rest := []) ⟨hx, hb, hml, hown, hts⟩ (c_X3_append l D cy H.size xn n1 n2 n3 n4 n5 vp vn fk fs fe fw fp (2 : Int32) a2 a3 r_27 a5 (by first | with_reducible assumption | omega | assumption) (by first | with_reducible assumption | omega | assumption) (by first | with_reducible assumption | omega | assumption) (by first | with_reducible assumption | omega | assumption) (by first | with_reducible assumption | omega | assumption) (by first | with_reducible assumption | omega | assumption) (by first | with_reducible assumption | assumption | omega) (by first | with_reducible assumption | assumption | omega) (by first | with_reducible assumption | assumption | omega) (by first | with_reducible assumption | assumption | omega)) (cwV 5 hts gX11_addLine_X3_append rfl rfl rfl ⟨rfl, hd_X3_append⟩ ⟨Nat.le_of_ble_eq_true rfl, Nat.le_of_ble_eq_true rfl⟩) ⟨bl_, va_recvX hK.1 hP (ci := 3) (q0 := 1) rfl rfl, fun U hU hW => ⟨rfl, by rw [hU], by rw [hU]; exact hPc, kk_mv hW hK, hDw⟩⟩ rfl rfl hl.1 rfl (lv_room (Nat.le_of_ble_eq_true rfl)) dB_36_3_48.1.1.2.1 ⟨Nat.le_of_ble_eq_true rfl, Nat.le_of_ble_eq_true rfl⟩) hS (fun q _ h => hFc q h) hFc (fun r_28 u t H locs ht hvm hw hB hz1 hk1 hS => ?_)
    obtain ⟨evn_29, efk_30, efs_31, efe_32, efw_33, efp_34, g_35, g_36, g_37, g_38, g_39, hP1, hD1⟩ := hB
    rw [ht] at hP1
    obtain ⟨hP, hD⟩ := va_join (wr := [ob11_0_ xo xk xn xc xh xt xw xm xp pf ph tr fi, aq_ cy 3 xk 5 (kf_ k0 k1 k2 k3 k4), ob6_0_ k0, ob5_0_ k1, ob9_0_ k2, ob2_0_ k3, ob8_0_ k4]) (w1 := [ob3_0_ xn vp evn_29 n1 n2 n3 n4 n5, ai_ cy n1 40 efk_30, ai_ cy n2 40 efs_31, ai_ cy n3 40 efe_32, ai_ cy n4 40 efw_33, ai_ cy n5 40 efp_34]) hP hD [1, 2, 3, 4, 5, 6] [0, 7, 8, 9, 10, 11, 12] hC_ rfl (by decide) (by decide) hk1 hFc hP1 hD1
    refine pd_S hP hD [ob11_0_ xo xk xn xc xh xt xw xm xp pf ph tr fi, ob3_0_ xn vp evn_29 n1 n2 n3 n4 n5, ai_ cy n1 40 efk_30, ai_ cy n2 40 efs_31, ai_ cy n3 40 efe_32, ai_ cy n4 40 efw_33, ai_ cy n5 40 efp_34, aq_ cy 3 xk 5 (kf_ k0 k1 k2 k3 k4), ob6_0_ k0, ob5_0_ k1, ob9_0_ k2, ob2_0_ k3, ob8_0_ k4] [0, 7, 8, 9, 10, 11, 12, 1, 2, 3, 4, 5, 6] (by decide +kernel) rfl (fun hP hD => ?_)
    rw [hQ]
    exact W.iret (v := r_28) hx hb hr (fun t ht hW => ⟨⟨r_28, (), rfl, trivial, evn_29, efk_30, efs_31, efe_32, efw_33, efp_34, (by first | with_reducible assumption | omega | assumption), (by first | with_reducible assumption | assumption | exact rng_zero (by omega) (by omega) | omega), (by first | with_reducible assumption | assumption | exact rng_zero (by omega) (by omega) | omega), (by first | with_reducible assumption | assumption | exact rng_zero (by omega) (by omega) | omega), (by first | with_reducible assumption | assumption | exact rng_zero (by omega) (by omega) | omega), by rw [ht]; exact hP, hD⟩, hS.F ht⟩) hS.2.2 dB_36_3_48.1.1.2.2
  · refine va_aldq hx hb hK.1 hP 7 3 rfl rfl (i := 3) (by unfold vp_in; decide) dB_36_3_47.2.2.2.1 ?_
    refine lv_topv (v' := .ref k3) (by simp [va_up, va_rf, mf_, cl_0, cl_1, cl_2, cl_3, cl_4, kf_]) ?_
    refine lv_iload hx hb dB_36_3_47.2.2.2.2 (lv_at hl 4 rfl) ?_
    refine ct_R hP hD [] [] (by decide) rfl (fun hPc hDw => ?_)
    have hFc := va_free (wc := []) hD hS hA [] rfl
    refine va_calli (va_runU (As := [.int a4]) (rest := [.int a3, .int a2, .int 3, .ref xn]) ⟨hx, hb, hml, hown, hts⟩ (c_X6_begins l D cy s.heap.size k3 a4) (va_cwU 1 hts gX11_addLine_X6_begins_u306X2 rfl rfl rfl rfl (by decide +kernel) ⟨Nat.le_of_ble_eq_true rfl, Nat.le_of_ble_eq_true rfl⟩) ⟨bl_, va_recvX hK.1 hP (ci := 2) (q0 := 11) rfl rfl, fun U hU hW => ⟨rfl, by rw [hU], by rw [hU]; exact hPc, kk_mv hW hK, hDw⟩⟩ rfl rfl hl.1 rfl (lv_room (Nat.le_of_ble_eq_true rfl)) dB_36_3_48.1.1.1.1 ⟨Nat.le_of_ble_eq_true rfl, Nat.le_of_ble_eq_true rfl⟩) hS (fun q _ h => hFc q h) hFc (fun r_40 u t H locs ht hvm hw hB hz1 hk1 hS => ?_)
    have hP : va_P D vwCl _ H := ro_keep hP hk1
    have f0_r_40 := hw
    have hb_ : 0 ≤ r_40.toInt ∧ r_40.toInt ≤ 2000 := by first | omega | (have h := congrArg Int32.toInt f0_r_40; omega)
    refine lv_iload hx hb dB_36_3_48.1.1.1.2 (lv_at hl 5 rfl) ?_
    refine ct_S hP hD hS hA [ob3_0_ xn vp vn n1 n2 n3 n4 n5, ai_ cy n1 40 fk, ai_ cy n2 40 fs, ai_ cy n3 40 fe, ai_ cy n4 40 fw, ai_ cy n5 40 fp] [1, 2, 3, 4, 5, 6] (by decide) rfl (fun hPc hDw hFc hC_ => ?_)
    refine va_calli (va_runV (As := [.int 3, .int a2, .int a3, .int r_40, .int a5]) (rest := []) ⟨hx, hb, hml, hown, hts⟩ (c_X3_append l D cy H.size xn n1 n2 n3 n4 n5 vp vn fk fs fe fw fp (3 : Int32) a2 a3 r_40 a5 (by first | with_reducible assumption | omega | assumption) (by first | with_reducible assumption | omega | assumption) (by first | with_reducible assumption | omega | assumption) (by first | with_reducible assumption | omega | assumption) (by first | with_reducible assumption | omega | assumption) (by first | with_reducible assumption | omega | assumption) (by first | with_reducible assumption | assumption | omega) (by first | with_reducible assumption | assumption | omega) (by first | with_reducible assumption | assumption | omega) (by first | with_reducible assumption | assumption | omega)) (cwV 5 hts gX11_addLine_X3_append rfl rfl rfl ⟨rfl, hd_X3_append⟩ ⟨Nat.le_of_ble_eq_true rfl, Nat.le_of_ble_eq_true rfl⟩) ⟨bl_, va_recvX hK.1 hP (ci := 3) (q0 := 1) rfl rfl, fun U hU hW => ⟨rfl, by rw [hU], by rw [hU]; exact hPc, kk_mv hW hK, hDw⟩⟩ rfl rfl hl.1 rfl (lv_room (Nat.le_of_ble_eq_true rfl)) dB_36_3_48.1.1.2.1 ⟨Nat.le_of_ble_eq_true rfl, Nat.le_of_ble_eq_true rfl⟩) hS (fun q _ h => hFc q h) hFc (fun r_41 u t H locs ht hvm hw hB hz1 hk1 hS => ?_)
    obtain ⟨evn_42, efk_43, efs_44, efe_45, efw_46, efp_47, g_48, g_49, g_50, g_51, g_52, hP1, hD1⟩ := hB
    rw [ht] at hP1
    obtain ⟨hP, hD⟩ := va_join (wr := [ob11_0_ xo xk xn xc xh xt xw xm xp pf ph tr fi, aq_ cy 3 xk 5 (kf_ k0 k1 k2 k3 k4), ob6_0_ k0, ob5_0_ k1, ob9_0_ k2, ob2_0_ k3, ob8_0_ k4]) (w1 := [ob3_0_ xn vp evn_42 n1 n2 n3 n4 n5, ai_ cy n1 40 efk_43, ai_ cy n2 40 efs_44, ai_ cy n3 40 efe_45, ai_ cy n4 40 efw_46, ai_ cy n5 40 efp_47]) hP hD [1, 2, 3, 4, 5, 6] [0, 7, 8, 9, 10, 11, 12] hC_ rfl (by decide) (by decide) hk1 hFc hP1 hD1
    refine pd_S hP hD [ob11_0_ xo xk xn xc xh xt xw xm xp pf ph tr fi, ob3_0_ xn vp evn_42 n1 n2 n3 n4 n5, ai_ cy n1 40 efk_43, ai_ cy n2 40 efs_44, ai_ cy n3 40 efe_45, ai_ cy n4 40 efw_46, ai_ cy n5 40 efp_47, aq_ cy 3 xk 5 (kf_ k0 k1 k2 k3 k4), ob6_0_ k0, ob5_0_ k1, ob9_0_ k2, ob2_0_ k3, ob8_0_ k4] [0, 7, 8, 9, 10, 11, 12, 1, 2, 3, 4, 5, 6] (by decide +kernel) rfl (fun hP hD => ?_)
    rw [hQ]
    exact W.iret (v := r_41) hx hb hr (fun t ht hW => ⟨⟨r_41, (), rfl, trivial, evn_42, efk_43, efs_44, efe_45, efw_46, efp_47, (by first | with_reducible assumption | omega | assumption), (by first | with_reducible assumption | assumption | exact rng_zero (by omega) (by omega) | omega), (by first | with_reducible assumption | assumption | exact rng_zero (by omega) (by omega) | omega), (by first | with_reducible assumption | assumption | exact rng_zero (by omega) (by omega) | omega), (by first | with_reducible assumption | assumption | exact rng_zero (by omega) (by omega) | omega), by rw [ht]; exact hP, hD⟩, hS.F ht⟩) hS.2.2 dB_36_3_48.1.1.2.2
  · refine va_aldq hx hb hK.1 hP 7 3 rfl rfl (i := 4) (by unfold vp_in; decide) dB_36_3_47.2.2.2.1 ?_
    refine lv_topv (v' := .ref k4) (by simp [va_up, va_rf, mf_, cl_0, cl_1, cl_2, cl_3, cl_4, kf_]) ?_
    refine lv_iload hx hb dB_36_3_47.2.2.2.2 (lv_at hl 4 rfl) ?_
    refine ct_R hP hD [] [] (by decide) rfl (fun hPc hDw => ?_)
    have hFc := va_free (wc := []) hD hS hA [] rfl
    refine va_calli (va_runU (As := [.int a4]) (rest := [.int a3, .int a2, .int 4, .ref xn]) ⟨hx, hb, hml, hown, hts⟩ (c_X8_begins l D cy s.heap.size k4 a4) (va_cwO 1 hts gX11_addLine_X8_begins_u306X8 rfl rfl rfl (b0 := cX6_begins) (m0 := 2) (r0 := (some .int)) (by decide +kernel) (by decide +kernel) ⟨Nat.le_of_ble_eq_true rfl, Nat.le_of_ble_eq_true rfl⟩) ⟨bl_, va_recvX hK.1 hP (ci := 8) (q0 := 12) rfl rfl, fun U hU hW => ⟨rfl, by rw [hU], by rw [hU]; exact hPc, kk_mv hW hK, hDw⟩⟩ rfl rfl hl.1 rfl (lv_room (Nat.le_of_ble_eq_true rfl)) dB_36_3_48.1.1.1.1 ⟨Nat.le_of_ble_eq_true rfl, Nat.le_of_ble_eq_true rfl⟩) hS (fun q _ h => hFc q h) hFc (fun r_53 u t H locs ht hvm hw hB hz1 hk1 hS => ?_)
    have hP : va_P D vwCl _ H := ro_keep hP hk1
    have f0_r_53 := hw
    have hb_ : 0 ≤ r_53.toInt ∧ r_53.toInt ≤ 2000 := by first | omega | (have h := congrArg Int32.toInt f0_r_53; omega)
    refine lv_iload hx hb dB_36_3_48.1.1.1.2 (lv_at hl 5 rfl) ?_
    refine ct_S hP hD hS hA [ob3_0_ xn vp vn n1 n2 n3 n4 n5, ai_ cy n1 40 fk, ai_ cy n2 40 fs, ai_ cy n3 40 fe, ai_ cy n4 40 fw, ai_ cy n5 40 fp] [1, 2, 3, 4, 5, 6] (by decide) rfl (fun hPc hDw hFc hC_ => ?_)
    refine va_calli (va_runV (As := [.int 4, .int a2, .int a3, .int r_53, .int a5]) (rest := []) ⟨hx, hb, hml, hown, hts⟩ (c_X3_append l D cy H.size xn n1 n2 n3 n4 n5 vp vn fk fs fe fw fp (4 : Int32) a2 a3 r_53 a5 (by first | with_reducible assumption | omega | assumption) (by first | with_reducible assumption | omega | assumption) (by first | with_reducible assumption | omega | assumption) (by first | with_reducible assumption | omega | assumption) (by first | with_reducible assumption | omega | assumption) (by first | with_reducible assumption | omega | assumption) (by first | with_reducible assumption | assumption | omega) (by first | with_reducible assumption | assumption | omega) (by first | with_reducible assumption | assumption | omega) (by first | with_reducible assumption | assumption | omega)) (cwV 5 hts gX11_addLine_X3_append rfl rfl rfl ⟨rfl, hd_X3_append⟩ ⟨Nat.le_of_ble_eq_true rfl, Nat.le_of_ble_eq_true rfl⟩) ⟨bl_, va_recvX hK.1 hP (ci := 3) (q0 := 1) rfl rfl, fun U hU hW => ⟨rfl, by rw [hU], by rw [hU]; exact hPc, kk_mv hW hK, hDw⟩⟩ rfl rfl hl.1 rfl (lv_room (Nat.le_of_ble_eq_true rfl)) dB_36_3_48.1.1.2.1 ⟨Nat.le_of_ble_eq_true rfl, Nat.le_of_ble_eq_true rfl⟩) hS (fun q _ h => hFc q h) hFc (fun r_54 u t H locs ht hvm hw hB hz1 hk1 hS => ?_)
    obtain ⟨evn_55, efk_56, efs_57, efe_58, efw_59, efp_60, g_61, g_62, g_63, g_64, g_65, hP1, hD1⟩ := hB
    rw [ht] at hP1
    obtain ⟨hP, hD⟩ := va_join (wr := [ob11_0_ xo xk xn xc xh xt xw xm xp pf ph tr fi, aq_ cy 3 xk 5 (kf_ k0 k1 k2 k3 k4), ob6_0_ k0, ob5_0_ k1, ob9_0_ k2, ob2_0_ k3, ob8_0_ k4]) (w1 := [ob3_0_ xn vp evn_55 n1 n2 n3 n4 n5, ai_ cy n1 40 efk_56, ai_ cy n2 40 efs_57, ai_ cy n3 40 efe_58, ai_ cy n4 40 efw_59, ai_ cy n5 40 efp_60]) hP hD [1, 2, 3, 4, 5, 6] [0, 7, 8, 9, 10, 11, 12] hC_ rfl (by decide) (by decide) hk1 hFc hP1 hD1
    refine pd_S hP hD [ob11_0_ xo xk xn xc xh xt xw xm xp pf ph tr fi, ob3_0_ xn vp evn_55 n1 n2 n3 n4 n5, ai_ cy n1 40 efk_56, ai_ cy n2 40 efs_57, ai_ cy n3 40 efe_58, ai_ cy n4 40 efw_59, ai_ cy n5 40 efp_60, aq_ cy 3 xk 5 (kf_ k0 k1 k2 k3 k4), ob6_0_ k0, ob5_0_ k1, ob9_0_ k2, ob2_0_ k3, ob8_0_ k4] [0, 7, 8, 9, 10, 11, 12, 1, 2, 3, 4, 5, 6] (by decide +kernel) rfl (fun hP hD => ?_)
    rw [hQ]
    exact W.iret (v := r_54) hx hb hr (fun t ht hW => ⟨⟨r_54, (), rfl, trivial, evn_55, efk_56, efs_57, efe_58, efw_59, efp_60, (by first | with_reducible assumption | omega | assumption), (by first | with_reducible assumption | assumption | exact rng_zero (by omega) (by omega) | omega), (by first | with_reducible assumption | assumption | exact rng_zero (by omega) (by omega) | omega), (by first | with_reducible assumption | assumption | exact rng_zero (by omega) (by omega) | omega), (by first | with_reducible assumption | assumption | exact rng_zero (by omega) (by omega) | omega), by rw [ht]; exact hP, hD⟩, hS.F ht⟩) hS.2.2 dB_36_3_48.1.1.2.2
end

section
section DEEP
variable {p : Program} {l : Launch} {e : Env} {R : Room} {s : State} {m : MethodId} {args : Array Value} {below : List Frame} {meth : Method} {c : Code} {H : Heap} {locs : List Loc} {cells slots : Nat}
variable {y : MethodName} {bytes cc : ByteArray} {maxL nL mc ms n index : Nat} {ret : Option FieldType} {ws : List Cond} {rm : Room} {Pc : Array Value → State → Prop} {Qc : Array Value → State → Outcome → State → Prop} {free : Addr → Prop} {Ts : List Cond} {own C : String} {b : Addr} {As rest : List Value} {g : JFrame}
/-- a call with more than eight words below its arguments -/
theorem va_runVW {W : Nat} (S : CallFix p m c cc nL s args Ts own) (hM : Met l y ws rm Pc Qc mc ms free) (cw : CallW R s args own C index y bytes maxL ret ws rm mc ms n) (hdeep : W + (maxL + 11) + rm.locals ≤ R.locals) (hp : PreV s H C b Pc As)
    (hg : g.method = m) (hn : As.length = n) (hsize : g.locals.size = nL) (hstack : g.stack = As.reverse ++ .ref b :: rest) (hW : 2 * g.monitorRoom + (rest.map fun v => v.category).sum ≤ W) (hdg : decode cc g.pc = .ok (.invokevirtual index, 3)) (hf : cells + mc ≤ R.cells ∧ slots + ms ≤ R.slots) :
    va_Run p l e R s m args below meth c H locs cells slots mc ms g rest (Qc (Value.ref b :: As).toArray) (free) := by
  have hK : Back l R p e below s args y 3 W (PreOf R mc ms Pc) (PostOf Qc mc ms free) := by
    obtain ⟨hrc, hrs, hfr, -, hws, hcw, -, hini, -⟩ := cw.1
    exact back_of (bytes := bytes) (maxL := maxL) (ret := ret) hM hp.1 hrc hrs hfr hdeep hws hcw (fun a' U hW => word_at hW (Or.inl (by first | rfl | simp [Cond.onTables, Cond.keeps, Cond.steady])) hini)
  obtain ⟨⟨-, -, -, -, -, -, hcode, -, hy, hlen, hl⟩, hin, hse⟩ := cw
  obtain ⟨hx, hb, hml, ho, -⟩ := S
  obtain ⟨-, ⟨cellB, hcB, hoB, hclB⟩, hPc⟩ := hp
  intro T hT X
  obtain ⟨v, vm₁, ⟨U', l2, c2, s2⟩, hW₁, X', ⟨g', mk, t, L, e1, e2, hq, h1, hL, h2, h3⟩, st⟩ := callV X hx (C := C) (bytes := bytes) (maxL := maxL) (ret := ret) ho hl hin hse hcode hy hK (by rw [hT]; exact hcB) hoB hclB hg (hsize.trans hml.symm) (argsL := As) (rest := rest) (fun sig h => hn.trans (hlen sig h)) hstack hW (by rw [hb]; exact hdg)
    (fun vm₁ hW₁ => ⟨hf.1, hf.2, hPc (T.setVm vm₁) hT hW₁⟩)
  dsimp only [Pt.U, Pt.locs, Pt.cells, Pt.slots] at X' e1 e2 h1 h2 h3 st
  subst h1; subst h2; subst h3
  exact ⟨v, (T.setVm vm₁).calling g' mk (Value.ref b :: As).toArray, t, U', L, hT, X', hL, e1, e2, hq, st⟩
end DEEP

set_option maxHeartbeats 4000000 in
set_option maxRecDepth 100000 in
theorem c_X11_readRefusal (l : Launch) (D : va_G) (cy : Nat → ClassId) (sz : Nat) (xo : Nat) (xk : Nat) (xn : Nat) (xc : Nat) (xh : Nat) (xt : Nat) (xw : Nat) (xm : Nat) (xp : Nat) (pf : Int32) (ph : Int32) (tr : Int64) (fi : Int32) (n1 : Nat) (n2 : Nat) (n3 : Nat) (n4 : Nat) (n5 : Nat) (vp : Int32) (vn : Int32) (mm : Nat) (ml : Nat) (mu : Nat) (mk : Int32) (mr : Int32) (fl : Nat → Int32) (fn : Nat → Int64) (a2 : Int32) (hvn : 0 ≤ vn.toInt ∧ vn.toInt ≤ 40) (hvp : 0 ≤ vp.toInt ∧ vp.toInt ≤ 12) (q2 : 0 ≤ a2.toInt ∧ a2.toInt ≤ 5) (r_fl : rng fl 6 (-9) (5)) : Met l yX11_readRefusal wsX11_readRefusal ({ frames := 3, cells := 0, slots := 0, locals := 76 }) (va_Pc [.ref xo, .ref mm, .int a2] (fun U => U.heap.size = sz ∧ va_P D vwCl [ob11_0_ xo xk xn xc xh xt xw xm xp pf ph tr fi, ob3_0_ xn vp vn n1 n2 n3 n4 n5, ob4_0_ mm mk mr ml mu, ai_ cy ml 6 fl, aj_ cy mu 30 fn] U.heap ∧ kk_ D cy U ∧ va_D (fun _ => True) [ob11_0_ xo xk xn xc xh xt xw xm xp pf ph tr fi, ob3_0_ xn vp vn n1 n2 n3 n4 n5, ob4_0_ mm mk mr ml mu, ai_ cy ml 6 fl, aj_ cy mu 30 fn])) (va_Qi (fun (r : Int32) (_ : Unit) => (r.toInt < 0 ∨ (r.toInt = 0 ∧ vn.toInt < 40 ∧ (0 ≤ (fn (5 * a2.toInt + (0 : Int32).toInt).toNat).toInt ∧ (fn (5 * a2.toInt + (0 : Int32).toInt).toNat).toInt ≤ 4) ∧ (0 ≤ (fn (5 * a2.toInt + (1 : Int32).toInt).toNat).toInt ∧ (fn (5 * a2.toInt + (1 : Int32).toInt).toNat).toInt < vp.toInt) ∧ (0 ≤ (fn (5 * a2.toInt + (2 : Int32).toInt).toNat).toInt ∧ (fn (5 * a2.toInt + (2 : Int32).toInt).toNat).toInt < vp.toInt) ∧ (fn (5 * a2.toInt + (1 : Int32).toInt).toNat).toInt ≠ (fn (5 * a2.toInt + (2 : Int32).toInt).toNat).toInt ∧ (0 ≤ (fn (5 * a2.toInt + (3 : Int32).toInt).toNat).toInt ∧ (fn (5 * a2.toInt + (3 : Int32).toInt).toNat).toInt ≤ 1000) ∧ (0 ≤ (fn (5 * a2.toInt + (4 : Int32).toInt).toNat).toInt ∧ (fn (5 * a2.toInt + (4 : Int32).toInt).toNat).toInt ≤ 100)))) (fun (_ : Unit) (_ : State) => True) (va_A [] sz)) 0 0 (va_A [] sz) := by
  refine ofQ (cc := cX11_readRefusal) (maxL := 3) (ret := (some .int)) (by decide) rfl ?_
  intro p e s m args below meth c s₁ Q hQ B hml hv
  obtain ⟨rfl, hsz, hP, hK, hD0⟩ := hv
  have hx := B.exec
  have hb := B.bytes
  have hr := B.returns
  have hts := atoms_spec (ws := wsX11_readRefusal) B.pre
  have hown : s.vm.findClass RX11 = some m.cls := by have h_ := findClass_of_methodNamed B.named; exact h_
  have hlocks := B.notSynchronized
  subst hsz
  have hD : va_D (va_A [] s.heap.size) [] := dd_nil
  generalize hAe : va_A [] s.heap.size = A at hD hQ
  have hA : ∀ q : Nat, s.heap.size ≤ q → A q := fun q h => by rw [← hAe]; exact Or.inr h
  have hS : va_S A s.heap s.heap [] := va_S.rf
  have hl := lv_entry ([.ref xo, .ref mm, .int a2]) (n := 3) (Nat.le_of_ble_eq_true rfl)
  rw [lg_entry_eq]
  generalize (lg_sl ([.ref xo, .ref mm, .int a2]) ++ List.replicate (3 - (lg_sl ([.ref xo, .ref mm, .int a2])).length) Slot.unset).toArray = ls at hl ⊢
  have hl : lv_has ls 3 [(0, .ref xo), (1, .ref mm), (2, .int a2)] := hl
  have zm12 : ((-12) : Int32).toInt = -12 := by decide
  have zm11 : ((-11) : Int32).toInt = -11 := by decide
  have zm3 : ((-3) : Int32).toInt = -3 := by decide
  have zm1 : ((-1) : Int32).toInt = -1 := by decide
  have z0 : (0 : Int32).toInt = 0 := by decide
  have z1 : (1 : Int32).toInt = 1 := by decide
  have z2 : (2 : Int32).toInt = 2 := by decide
  have z3 : (3 : Int32).toInt = 3 := by decide
  have z4 : (4 : Int32).toInt = 4 := by decide
  have z5 : (5 : Int32).toInt = 5 := by decide
  refine lv_aload_n hx hb dB_36_4_0.1.2.2.2 rfl (lv_at hl 1 rfl) ?_
  refine va_get (ci := 4) (v := .ref ml) (C := RX4) (T := TX4) (N := 4) hx hb hts (fun _ h => List.mem_cons_of_mem _ (List.mem_append_left _ (List.mem_append_left _ (List.mem_append_right _ h)))) hown hK.1 hP 2 rfl rfl 2 (by decide) (hts (.fieldLink RX11 321 "CutAtlas$NumberMap" "lengths" "[I") (List.mem_of_getElem? (i := 1) rfl)) (fun _ h9 => h9) rfl dB_36_4_0.2.1.1.1 ?_
  refine lv_iload_n hx hb dB_36_4_0.2.1.1.2 rfl (lv_at hl 2 rfl) ?_
  have h_1 : vp_in a2 6 := in_I (by omega) (by omega)
  refine va_iald hx hb hK.1 hP 3 0 rfl rfl (i := a2) h_1 dB_36_4_0.2.1.2.1 ?_
  refine lv_topi (fun y_2 ey_2 => ?_)
  have ry_2 : -9 ≤ y_2.toInt ∧ y_2.toInt ≤ 5 := by rw [ey_2]; exact r_fl _ (in_lt h_1)
  refine lv_if_ge (tgt := 12) hx hb dB_36_4_0.2.1.2.2 (by decide) (fun c_3 => ?_) (fun c_3 => ?_)
  · have t_3 : (0 : Int32).toInt ≤ y_2.toInt := Int32.le_iff_toInt_le.mp c_3
    refine lv_aload_n hx hb dB_36_4_0.2.2.2.1 rfl (lv_at hl 1 rfl) ?_
    refine va_get (ci := 4) (v := .ref ml) (C := RX4) (T := TX4) (N := 4) hx hb hts (fun _ h => List.mem_cons_of_mem _ (List.mem_append_left _ (List.mem_append_left _ (List.mem_append_right _ h)))) hown hK.1 hP 2 rfl rfl 2 (by decide) (hts (.fieldLink RX11 321 "CutAtlas$NumberMap" "lengths" "[I") (List.mem_of_getElem? (i := 1) rfl)) (fun _ h9 => h9) rfl dB_36_4_0.2.2.2.2 ?_
    refine lv_iload_n hx hb dB_36_4_1.1.1.1.1 rfl (lv_at hl 2 rfl) ?_
    have h_4 : vp_in a2 6 := in_I (by omega) (by omega)
    refine va_iald hx hb hK.1 hP 3 0 rfl rfl (i := a2) h_4 dB_36_4_1.1.1.1.2 ?_
    refine lv_topi (fun y_5 ey_5 => ?_)
    have e_ := (ey_5.trans ey_2.symm).symm
    subst e_
    skip
    refine lv_iconst (v := 5) hx hb dB_36_4_1.1.1.2.1 (by decide) ?_
    refine lv_icmp_ge (tgt := 25) hx hb dB_36_4_1.1.1.2.2 (by decide) (fun c_6 => ?_) (fun c_6 => ?_)
    · have t_6 : (5 : Int32).toInt ≤ y_2.toInt := Int32.le_iff_toInt_le.mp c_6
      refine lv_aload_n hx hb dB_36_4_1.1.2.2.1 rfl (lv_at hl 0 rfl) ?_
      refine lv_aload_n hx hb dB_36_4_1.1.2.2.2 rfl (lv_at hl 1 rfl) ?_
      refine lv_iload_n hx hb dB_36_4_1.2.1.1.1 rfl (lv_at hl 2 rfl) ?_
      refine lv_iconst (v := 0) hx hb dB_36_4_1.2.1.1.2 (by decide) ?_
      refine ct_R hP hD0 [ob4_0_ mm mk mr ml mu, aj_ cy mu 30 fn] [2, 4] (by decide) rfl (fun hPc hDw => ?_)
      have hFc := va_free (wc := []) hD hS hA [] rfl
      refine va_calll (va_runV (As := [.int a2, .int 0]) (rest := [.ref xo]) ⟨hx, hb, hml, hown, hts⟩ (c_X4_number l D cy s.heap.size mm ml mu mk mr fn a2 (0 : Int32) (by first | with_reducible assumption | omega | assumption) (by first | with_reducible assumption | omega | assumption)) (cwV 2 hts gX11_readRefusal_X4_number rfl rfl rfl ⟨rfl, hd_X4_number⟩ ⟨Nat.le_of_ble_eq_true rfl, Nat.le_of_ble_eq_true rfl⟩) ⟨bl_, va_recvX hK.1 hP (ci := 4) (q0 := 2) rfl rfl, fun U hU hW => ⟨rfl, by rw [hU], by rw [hU]; exact hPc, kk_mv hW hK, hDw⟩⟩ rfl rfl hl.1 rfl (lv_room (Nat.le_of_ble_eq_true rfl)) dB_36_4_1.2.1.2.1 ⟨Nat.le_of_ble_eq_true rfl, Nat.le_of_ble_eq_true rfl⟩) hS (fun q _ h => hFc q h) hFc (fun r_7 u t H locs ht hvm hw hB hz1 hk1 hS => ?_)
      have hP : va_P D vwCl _ H := ro_keep hP hk1
      have f0_r_7 := hw
      have nk0 := congrArg Int64.toInt f0_r_7
      refine lv_aload_n hx hb dB_36_4_1.2.1.2.2 rfl (lv_at hl 1 rfl) ?_
      refine lv_iload_n hx hb dB_36_4_1.2.2.1.1 rfl (lv_at hl 2 rfl) ?_
      refine lv_iconst (v := 1) hx hb dB_36_4_1.2.2.1.2 (by decide) ?_
      refine ct_R hP hD0 [ob4_0_ mm mk mr ml mu, aj_ cy mu 30 fn] [2, 4] (by decide) rfl (fun hPc hDw => ?_)
      have hFc := va_free (wc := []) hD hS hA [] rfl
      refine va_calll (va_runV (As := [.int a2, .int 1]) (rest := [.long r_7, .ref xo]) ⟨hx, hb, hml, hown, hts⟩ (c_X4_number l D cy H.size mm ml mu mk mr fn a2 (1 : Int32) (by first | with_reducible assumption | omega | assumption) (by first | with_reducible assumption | omega | assumption)) (cwV 2 hts gX11_readRefusal_X4_number rfl rfl rfl ⟨rfl, hd_X4_number⟩ ⟨Nat.le_of_ble_eq_true rfl, Nat.le_of_ble_eq_true rfl⟩) ⟨bl_, va_recvX hK.1 hP (ci := 4) (q0 := 2) rfl rfl, fun U hU hW => ⟨rfl, by rw [hU], by rw [hU]; exact hPc, kk_mv hW hK, hDw⟩⟩ rfl rfl hl.1 rfl (lv_room (Nat.le_of_ble_eq_true rfl)) dB_36_4_1.2.2.2.1 ⟨Nat.le_of_ble_eq_true rfl, Nat.le_of_ble_eq_true rfl⟩) hS (fun q _ h => hFc q h) hFc (fun r_8 u t H locs ht hvm hw hB hz1 hk1 hS => ?_)
      have hP : va_P D vwCl _ H := ro_keep hP hk1
      have f0_r_8 := hw
      have nk1 := congrArg Int64.toInt f0_r_8
      refine lv_aload_n hx hb dB_36_4_1.2.2.2.2 rfl (lv_at hl 1 rfl) ?_
      refine lv_iload_n hx hb dB_36_4_2.1.1.1.1 rfl (lv_at hl 2 rfl) ?_
      refine lv_iconst (v := 2) hx hb dB_36_4_2.1.1.1.2 (by decide) ?_
      refine ct_R hP hD0 [ob4_0_ mm mk mr ml mu, aj_ cy mu 30 fn] [2, 4] (by decide) rfl (fun hPc hDw => ?_)
      have hFc := va_free (wc := []) hD hS hA [] rfl
      refine va_calll (va_runV (As := [.int a2, .int 2]) (rest := [.long r_8, .long r_7, .ref xo]) ⟨hx, hb, hml, hown, hts⟩ (c_X4_number l D cy H.size mm ml mu mk mr fn a2 (2 : Int32) (by first | with_reducible assumption | omega | assumption) (by first | with_reducible assumption | omega | assumption)) (cwV 2 hts gX11_readRefusal_X4_number rfl rfl rfl ⟨rfl, hd_X4_number⟩ ⟨Nat.le_of_ble_eq_true rfl, Nat.le_of_ble_eq_true rfl⟩) ⟨bl_, va_recvX hK.1 hP (ci := 4) (q0 := 2) rfl rfl, fun U hU hW => ⟨rfl, by rw [hU], by rw [hU]; exact hPc, kk_mv hW hK, hDw⟩⟩ rfl rfl hl.1 rfl (lv_room (Nat.le_of_ble_eq_true rfl)) dB_36_4_2.1.1.2.1 ⟨Nat.le_of_ble_eq_true rfl, Nat.le_of_ble_eq_true rfl⟩) hS (fun q _ h => hFc q h) hFc (fun r_9 u t H locs ht hvm hw hB hz1 hk1 hS => ?_)
      have hP : va_P D vwCl _ H := ro_keep hP hk1
      have f0_r_9 := hw
      have nk2 := congrArg Int64.toInt f0_r_9
      refine lv_aload_n hx hb dB_36_4_2.1.1.2.2 rfl (lv_at hl 1 rfl) ?_
      refine lv_iload_n hx hb dB_36_4_2.1.2.1.1 rfl (lv_at hl 2 rfl) ?_
      refine lv_iconst (v := 3) hx hb dB_36_4_2.1.2.1.2 (by decide) ?_
      refine ct_R hP hD0 [ob4_0_ mm mk mr ml mu, aj_ cy mu 30 fn] [2, 4] (by decide) rfl (fun hPc hDw => ?_)
      have hFc := va_free (wc := []) hD hS hA [] rfl
      refine va_calll (va_runV (As := [.int a2, .int 3]) (rest := [.long r_9, .long r_8, .long r_7, .ref xo]) ⟨hx, hb, hml, hown, hts⟩ (c_X4_number l D cy H.size mm ml mu mk mr fn a2 (3 : Int32) (by first | with_reducible assumption | omega | assumption) (by first | with_reducible assumption | omega | assumption)) (cwV 2 hts gX11_readRefusal_X4_number rfl rfl rfl ⟨rfl, hd_X4_number⟩ ⟨Nat.le_of_ble_eq_true rfl, Nat.le_of_ble_eq_true rfl⟩) ⟨bl_, va_recvX hK.1 hP (ci := 4) (q0 := 2) rfl rfl, fun U hU hW => ⟨rfl, by rw [hU], by rw [hU]; exact hPc, kk_mv hW hK, hDw⟩⟩ rfl rfl hl.1 rfl (lv_room (Nat.le_of_ble_eq_true rfl)) dB_36_4_2.1.2.2.1 ⟨Nat.le_of_ble_eq_true rfl, Nat.le_of_ble_eq_true rfl⟩) hS (fun q _ h => hFc q h) hFc (fun r_10 u t H locs ht hvm hw hB hz1 hk1 hS => ?_)
      have hP : va_P D vwCl _ H := ro_keep hP hk1
      have f0_r_10 := hw
      have nk3 := congrArg Int64.toInt f0_r_10
      refine lv_aload_n hx hb dB_36_4_2.1.2.2.2 rfl (lv_at hl 1 rfl) ?_
      refine lv_iload_n hx hb dB_36_4_2.2.1.1.1 rfl (lv_at hl 2 rfl) ?_
      refine lv_iconst (v := 4) hx hb dB_36_4_2.2.1.1.2 (by decide) ?_
      refine ct_R hP hD0 [ob4_0_ mm mk mr ml mu, aj_ cy mu 30 fn] [2, 4] (by decide) rfl (fun hPc hDw => ?_)
      have hFc := va_free (wc := []) hD hS hA [] rfl
      refine va_calll (va_runVW (W := 16) (As := [.int a2, .int 4]) (rest := [.long r_10, .long r_9, .long r_8, .long r_7, .ref xo]) ⟨hx, hb, hml, hown, hts⟩ (c_X4_number l D cy H.size mm ml mu mk mr fn a2 (4 : Int32) (by first | with_reducible assumption | omega | assumption) (by first | with_reducible assumption | omega | assumption)) (cwV 2 hts gX11_readRefusal_X4_number rfl rfl rfl ⟨rfl, hd_X4_number⟩ ⟨Nat.le_of_ble_eq_true rfl, Nat.le_of_ble_eq_true rfl⟩) (Nat.le_of_ble_eq_true rfl) ⟨bl_, va_recvX hK.1 hP (ci := 4) (q0 := 2) rfl rfl, fun U hU hW => ⟨rfl, by rw [hU], by rw [hU]; exact hPc, kk_mv hW hK, hDw⟩⟩ rfl rfl hl.1 rfl (by show 2 * 0 + _ ≤ 16; exact Nat.le_of_ble_eq_true rfl) dB_36_4_2.2.1.2.1 ⟨Nat.le_of_ble_eq_true rfl, Nat.le_of_ble_eq_true rfl⟩) hS (fun q _ h => hFc q h) hFc (fun r_11 u t H locs ht hvm hw hB hz1 hk1 hS => ?_)
      have hP : va_P D vwCl _ H := ro_keep hP hk1
      have f0_r_11 := hw
      have nk4 := congrArg Int64.toInt f0_r_11
      refine ct_R hP hD0 [ob11_0_ xo xk xn xc xh xt xw xm xp pf ph tr fi, ob3_0_ xn vp vn n1 n2 n3 n4 n5] [0, 1] (by decide) rfl (fun hPc hDw => ?_)
      have hFc := va_free (wc := []) hD hS hA [] rfl
      refine va_calli (va_runV (As := [.long r_7, .long r_8, .long r_9, .long r_10, .long r_11]) (rest := []) ⟨hx, hb, hml, hown, hts⟩ (c_X11_lineRefusal l D cy H.size xo xk xn xc xh xt xw xm xp pf ph tr fi n1 n2 n3 n4 n5 vp vn r_7 r_8 r_9 r_10 r_11 (by first | with_reducible assumption | omega | assumption) (by first | with_reducible assumption | omega | assumption)) (cwV 5 hts gX11_readRefusal_X11_lineRefusal rfl rfl rfl ⟨rfl, hd_X11_lineRefusal⟩ ⟨Nat.le_of_ble_eq_true rfl, Nat.le_of_ble_eq_true rfl⟩) ⟨bl_, va_recvX hK.1 hP (ci := 11) (q0 := 0) rfl rfl, fun U hU hW => ⟨rfl, by rw [hU], by rw [hU]; exact hPc, kk_mv hW hK, hDw⟩⟩ rfl rfl hl.1 rfl (lv_room (Nat.le_of_ble_eq_true rfl)) dB_36_4_2.2.1.2.2 ⟨Nat.le_of_ble_eq_true rfl, Nat.le_of_ble_eq_true rfl⟩) hS (fun q _ h => hFc q h) hFc (fun r_12 u t H locs ht hvm hw hB hz1 hk1 hS => ?_)
      have hP : va_P D vwCl _ H := ro_keep hP hk1
      rcases hw with ⟨w_13, e_⟩ | ⟨w_13, e_⟩ | ⟨w_13, e_⟩
      · have e_ := e_.symm
        subst e_
        rw [hQ]
        exact W.iret (v := (-1)) hx hb hr (fun t ht hW => ⟨⟨(-1), (), rfl, (by omega), trivial⟩, hS.F ht⟩) hS.2.2 dB_36_4_2.2.2.1.1
      · have e_ := e_.symm
        subst e_
        rw [hQ]
        exact W.iret (v := (-3)) hx hb hr (fun t ht hW => ⟨⟨(-3), (), rfl, (by omega), trivial⟩, hS.F ht⟩) hS.2.2 dB_36_4_2.2.2.1.1
      · have e_ := e_.symm
        subst e_
        rw [hQ]
        exact W.iret (v := 0) hx hb hr (fun t ht hW => ⟨⟨0, (), rfl, (by omega), trivial⟩, hS.F ht⟩) hS.2.2 dB_36_4_2.2.2.1.1
    · have t_6 : ¬ (5 : Int32).toInt ≤ y_2.toInt := fun h => c_6 (Int32.le_iff_toInt_le.mpr h)
      refine lv_bipush (v := (-12)) hx hb dB_36_4_1.1.2.1.1 (by decide) ?_
      rw [hQ]
      exact W.iret (v := (-12)) hx hb hr (fun t ht hW => ⟨⟨(-12), (), rfl, (by omega), trivial⟩, hS.F ht⟩) hS.2.2 dB_36_4_1.1.2.1.2
  · have t_3 : ¬ (0 : Int32).toInt ≤ y_2.toInt := fun h => c_3 (Int32.le_iff_toInt_le.mpr h)
    refine lv_bipush (v := (-11)) hx hb dB_36_4_0.2.2.1.1 (by decide) ?_
    rw [hQ]
    exact W.iret (v := (-11)) hx hb hr (fun t ht hW => ⟨⟨(-11), (), rfl, (by omega), trivial⟩, hS.F ht⟩) hS.2.2 dB_36_4_0.2.2.1.2
end

section
/-- twelve rows of twelve numbers -/
noncomputable def gro (c : ClassId) (r : Nat → Nat) (M : Nat → Nat → Int32) : va_W := (List.range 12).map (fun k => (r k, .inl (c, 12, .inl (M k))))
/-- the outer row -/
noncomputable def gf_ (r : Nat → Nat) : Nat → Option Nat := fun i => if i < 12 then some (r i) else none
theorem gro_len {c : ClassId} {r : Nat → Nat} {M : Nat → Nat → Int32} : (gro c r M).length = 12 := by
  unfold gro
  rw [List.length_map, List.length_range]
theorem gro_get {c : ClassId} {r : Nat → Nat} {M : Nat → Nat → Int32} {k : Nat} (hk : k < 12) : (gro c r M)[k]? = some (r k, .inl (c, 12, .inl (M k))) := by
  unfold gro
  rw [List.getElem?_map, List.getElem?_range hk]
  rfl
theorem gro_at {X Y : va_W} {c : ClassId} {r : Nat → Nat} {M : Nat → Nat → Int32} {k : Nat} (hk : k < 12) : (X ++ (gro c r M ++ Y))[X.length + k]? = some (r k, .inl (c, 12, .inl (M k))) := by
  rw [List.getElem?_append_right (by omega), show X.length + k - X.length = k by omega, List.getElem?_append_left (by rw [gro_len]; exact hk)]
  exact gro_get hk
theorem gro_set {X Y : va_W} {c : ClassId} {r : Nat → Nat} {M : Nat → Nat → Int32} {k : Nat} {g : Nat → Int32} (hk : k < 12) : (X ++ (gro c r M ++ Y)).set (X.length + k) (r k, .inl (c, 12, .inl g)) = X ++ (gro c r (va_up M k g) ++ Y) := by
  rw [List.set_append_right _ _ (by omega), show X.length + k - X.length = k by omega, List.set_append_left _ _ (by rw [gro_len]; exact hk)]
  congr 2
  apply List.ext_getElem?
  intro i
  by_cases hi : i < 12
  · rw [gro_get hi]
    by_cases e : i = k
    · subst e
      rw [List.getElem?_set_self (by rw [gro_len]; exact hi), va_up_self]
    · rw [List.getElem?_set_ne (fun h => e h.symm), gro_get hi, va_up_ne _ _ e]
  · rw [List.getElem?_eq_none (by rw [List.length_set, gro_len]; omega), List.getElem?_eq_none (by rw [gro_len]; omega)]
theorem gf_at {r : Nat → Nat} {i : Int32} (h : vp_in i 12) : va_rf (gf_ r i.toNatClampNeg) = .ref (r i.toNatClampNeg) := by
  unfold gf_
  rw [if_pos (in_lt h)]
  rfl
section GRW
variable {p : Program} {l : Launch} {e : Env} {R : Room} {s : State} {m : MethodId} {args : Array Value} {below : List Frame} {meth : Method} {c : Code} {H : Heap} {locs : List Loc} {cells slots : Nat} {Q : State → Prop}
variable {cc : ByteArray} {pc : Nat} {ls : Array Slot} {rest : List Value} {D : va_G} {cl : List vw_C} {A : Nat → Prop} {a : Nat} {tys : List (ClassId × FieldType)} {ws : va_W} {H0 : Heap}
theorem va_alda (hexec : p.tables.exec = Jvm.exec) (hb : c.code = cc) {cA : ClassId} (hG : ArrOfT s cA (.array .int)) (hP : va_P D cl ws H) (q0 : Nat) {n : Nat} {f : Nat → Option Nat} (ha : ws[q0]? = some (a, .inl (cA, n, .inr (.inr (.inr (.inr f)))))) {i : Int32} (hin : vp_in i n) (hdg : decode cc pc = .ok (.aaload, 1))
    (kk : W p l e R s m args below meth c H locs cells slots Q (F0 m (pc + 1) ls (va_rf (f i.toNatClampNeg) :: rest))) : W p l e R s m args below meth c H locs cells slots Q (F0 m pc ls (.int i :: .ref a :: rest)) := by
  have hlt : i.toNatClampNeg < n := in_lt hin
  exact W.aald (v := va_rf (f i.toNatClampNeg)) (ty := .array .int) hexec hb (hP q0 _ ha) (hG n (fun j => va_rf (f j))) rfl (fun q => by cases q) (by show ¬ (i < 0 ∨ (arrV _ _ _).slots.size ≤ _); rw [arrV_size]; exact hin) (by show (arrV _ _ _).slots[_]? = _; rw [arrV_read _ _ hlt]) rfl rfl hdg kk
theorem va_gld {X Y : va_W} {cA : ClassId} {r : Nat → Nat} {M : Nat → Nat → Int32} {k : Nat} (hexec : p.tables.exec = Jvm.exec) (hb : c.code = cc) (hK : va_K D cl tys s) (hP : va_P D cl (X ++ (gro cA r M ++ Y)) H) (t0 : Nat) (ht : tys[t0]? = some (cA, .int)) (hk : k < 12) {i : Int32} (hin : vp_in i 12) (hdg : decode cc pc = .ok (.iaload, 1))
    (kk : W p l e R s m args below meth c H locs cells slots Q (F0 m (pc + 1) ls (.int (M k i.toNatClampNeg) :: rest))) : W p l e R s m args below meth c H locs cells slots Q (F0 m pc ls (.int i :: .ref (r k) :: rest)) :=
  va_iald hexec hb hK hP (X.length + k) t0 (gro_at hk) ht hin hdg kk
theorem va_gst {X Y : va_W} {cA : ClassId} {r : Nat → Nat} {M : Nat → Nat → Int32} {k : Nat} (hexec : p.tables.exec = Jvm.exec) (hb : c.code = cc) (hK : va_K D cl tys s) (hP : va_P D cl (X ++ (gro cA r M ++ Y)) H) (hD : va_D A (X ++ (gro cA r M ++ Y))) (hS : va_S A H0 H locs) (t0 : Nat) (ht : tys[t0]? = some (cA, .int)) (hk : k < 12) {i x : Int32} (hin : vp_in i 12) (hdg : decode cc pc = .ok (.iastore, 1))
    (kk : ∀ (H1 : Heap) (locs1 : List Loc), va_P D cl (X ++ (gro cA r (va_up M k (upd (M k) i.toNatClampNeg x)) ++ Y)) H1 → va_D A (X ++ (gro cA r (va_up M k (upd (M k) i.toNatClampNeg x)) ++ Y)) → va_S A H0 H1 locs1 → W p l e R s m args below meth c H1 locs1 cells slots Q (F0 m (pc + 1) ls rest)) : W p l e R s m args below meth c H locs cells slots Q (F0 m pc ls (.int x :: .int i :: .ref (r k) :: rest)) := by
  refine va_iast hexec hb hK hP hD hS (X.length + k) t0 (gro_at hk) ht hin hdg (fun H1 locs1 hP1 hD1 hS1 => ?_)
  rw [gro_set hk] at hP1 hD1
  exact kk H1 locs1 hP1 hD1 hS1
end GRW
end

section
noncomputable def kg_ (D : va_G) (cy : Nat → ClassId) (U : State) : Prop := kk_ D cy U ∧ ArrOfT U (cy 6) (.array .int)
theorem bl_g {av : List Value} {sz : Nat} {D : va_G} {cy : Nat → ClassId} {ws : va_W} {A : Nat → Prop} : FrameBlind (va_Pc av (fun U => U.heap.size = sz ∧ va_P D vwCl ws U.heap ∧ kg_ D cy U ∧ va_D A ws)) := fun a U g mk q => by
  obtain ⟨q0, q1, qP, qK, qD⟩ := q
  exact ⟨q0, q1, qP, ⟨kk_cl (s := U) (U := U.calling g mk a) rfl qK.1, arrOfT_moved (u := U) (E := U.calling g mk a) (Vm.Alike.refl U.vm) qK.2⟩, qD⟩

set_option maxHeartbeats 4000000 in
set_option maxRecDepth 100000 in
theorem c_X0_betweenSets (l : Launch) (D : va_G) (cy : Nat → ClassId) (sz : Nat) (xc : Nat) (xk : Nat) (clo : Nat) (cro : Nat) (c4 : Nat) (c5 : Nat) (c6 : Nat) (c7 : Nat) (c8 : Nat) (xn : Nat) (n1 : Nat) (n2 : Nat) (n3 : Nat) (n4 : Nat) (n5 : Nat) (vp : Int32) (vn : Int32) (rl : Nat → Nat) (Ml : Nat → Nat → Int32) (a1 : Int32) (a2 : Int32) (hvp : 0 ≤ vp.toInt ∧ vp.toInt ≤ 12) (q1 : 0 ≤ a1.toInt ∧ a1.toInt ≤ 11) : Met l yX0_betweenSets wsX0_betweenSets ({ frames := 0, cells := 0, slots := 0, locals := 0 }) (va_Pc [.ref xc, .int a1, .int a2] (fun U => U.heap.size = sz ∧ va_P D vwCl [ob0_0_ xc xn xk clo cro c4 c5 c6 c7 c8, ob3_0_ xn vp vn n1 n2 n3 n4 n5, aq_ cy 6 clo 12 (gf_ rl), ai_ cy (rl 0) 12 (Ml 0), ai_ cy (rl 1) 12 (Ml 1), ai_ cy (rl 2) 12 (Ml 2), ai_ cy (rl 3) 12 (Ml 3), ai_ cy (rl 4) 12 (Ml 4), ai_ cy (rl 5) 12 (Ml 5), ai_ cy (rl 6) 12 (Ml 6), ai_ cy (rl 7) 12 (Ml 7), ai_ cy (rl 8) 12 (Ml 8), ai_ cy (rl 9) 12 (Ml 9), ai_ cy (rl 10) 12 (Ml 10), ai_ cy (rl 11) 12 (Ml 11)] U.heap ∧ kg_ D cy U ∧ va_D (fun _ => True) [ob0_0_ xc xn xk clo cro c4 c5 c6 c7 c8, ob3_0_ xn vp vn n1 n2 n3 n4 n5, aq_ cy 6 clo 12 (gf_ rl), ai_ cy (rl 0) 12 (Ml 0), ai_ cy (rl 1) 12 (Ml 1), ai_ cy (rl 2) 12 (Ml 2), ai_ cy (rl 3) 12 (Ml 3), ai_ cy (rl 4) 12 (Ml 4), ai_ cy (rl 5) 12 (Ml 5), ai_ cy (rl 6) 12 (Ml 6), ai_ cy (rl 7) 12 (Ml 7), ai_ cy (rl 8) 12 (Ml 8), ai_ cy (rl 9) 12 (Ml 9), ai_ cy (rl 10) 12 (Ml 10), ai_ cy (rl 11) 12 (Ml 11)])) (va_Qi (fun (r : Int32) (_ : Unit) => True) (fun (_ : Unit) (_ : State) => True) (va_A [] sz)) 0 0 (va_A [] sz) := by
  refine ofQ (cc := cX0_betweenSets) (maxL := 5) (ret := (some .int)) (by decide) rfl ?_
  intro p e s m args below meth c s₁ Q hQ B hml hv
  obtain ⟨rfl, hsz, hP, hK, hD0⟩ := hv
  have hG := hK.2
  have hK := hK.1
  have hx := B.exec
  have hb := B.bytes
  have hr := B.returns
  have hts := atoms_spec (ws := wsX0_betweenSets) B.pre
  have hown : s.vm.findClass RX0 = some m.cls := by have h_ := findClass_of_methodNamed B.named; exact h_
  have hlocks := B.notSynchronized
  subst hsz
  have hD : va_D (va_A [] s.heap.size) [] := dd_nil
  generalize hAe : va_A [] s.heap.size = A at hD hQ
  have hA : ∀ q : Nat, s.heap.size ≤ q → A q := fun q h => by rw [← hAe]; exact Or.inr h
  have hS : va_S A s.heap s.heap [] := va_S.rf
  have hl := lv_entry ([.ref xc, .int a1, .int a2]) (n := 5) (Nat.le_of_ble_eq_true rfl)
  rw [lg_entry_eq]
  generalize (lg_sl ([.ref xc, .int a1, .int a2]) ++ List.replicate (5 - (lg_sl ([.ref xc, .int a1, .int a2])).length) Slot.unset).toArray = ls at hl ⊢
  have hl : lv_has ls 5 [(0, .ref xc), (1, .int a1), (2, .int a2)] := hl
  have z0 : (0 : Int32).toInt = 0 := by decide
  have z1 : (1 : Int32).toInt = 1 := by decide
  refine lv_iconst (v := 0) hx hb dB_36_0_39.2.1.2.1 (by decide) ?_
  refine lv_istore_n (lv' := [(3, .int 0), (0, .ref xc), (1, .int a1), (2, .int a2)]) hx hb dB_36_0_39.2.1.2.2 rfl hl (by decide) rfl (fun ls hl => ?_)
  refine lv_iconst (v := 0) hx hb dB_36_0_39.2.2.1.1 (by decide) ?_
  refine lv_istore (lv' := [(4, .int 0), (3, .int 0), (0, .ref xc), (1, .int a1), (2, .int a2)]) hx hb dB_36_0_39.2.2.1.2 hl (by decide) rfl (fun ls hl => ?_)
  suffices LOOP_1 : ∀ (n_1 : Nat) (x4_1 : Int32) (x3_1 : Int32) (H : Heap) (locs : List Loc) (ls : Array Slot), vp.toInt - x4_1.toInt < (n_1 : Int) → (0 ≤ x4_1.toInt) → (x4_1.toInt ≤ vp.toInt) → va_P D vwCl [ob0_0_ xc xn xk clo cro c4 c5 c6 c7 c8, ob3_0_ xn vp vn n1 n2 n3 n4 n5, aq_ cy 6 clo 12 (gf_ rl), ai_ cy (rl 0) 12 (Ml 0), ai_ cy (rl 1) 12 (Ml 1), ai_ cy (rl 2) 12 (Ml 2), ai_ cy (rl 3) 12 (Ml 3), ai_ cy (rl 4) 12 (Ml 4), ai_ cy (rl 5) 12 (Ml 5), ai_ cy (rl 6) 12 (Ml 6), ai_ cy (rl 7) 12 (Ml 7), ai_ cy (rl 8) 12 (Ml 8), ai_ cy (rl 9) 12 (Ml 9), ai_ cy (rl 10) 12 (Ml 10), ai_ cy (rl 11) 12 (Ml 11)] H → va_S A s.heap H locs → lv_has ls 5 [(4, .int x4_1), (3, .int x3_1), (0, .ref xc), (1, .int a1), (2, .int a2)] → W p l e ({ frames := 0, cells := 0, slots := 0, locals := 0 } : Room) s m (([.ref xc, .int a1, .int a2] : List Value).toArray) below meth c H locs 0 0 Q (F0 m 5 ls []) from LOOP_1 ((vp.toInt - (0 : Int32).toInt).toNat + 1) (0 : Int32) (0 : Int32) _ _ _ (by omega) (by first | with_reducible assumption | omega | assumption) (by first | with_reducible assumption | omega | assumption) hP hS (lv_sub hl [0, 1, 2, 3, 4] rfl)
  intro n_1
  induction n_1 with
  | zero =>
    intro x4_1 x3_1 H locs ls hm v0_1 v1_1 hP hS hl
    exact absurd hm (by omega)
  | succ n_1 ih_1 =>
    intro x4_1 x3_1 H locs ls hm v0_1 v1_1 hP hS hl
    refine lv_iload hx hb dB_36_0_39.2.2.2.1 (lv_at hl 0 rfl) ?_
    refine lv_aload_n hx hb dB_36_0_39.2.2.2.2 rfl (lv_at hl 2 rfl) ?_
    refine va_get (ci := 0) (v := .ref xn) (C := RX0) (T := TX0) (N := 9) hx hb hts (fun _ h => List.mem_cons_of_mem _ (List.mem_append_left _ (List.mem_append_right _ h))) hown hK.1 hP 0 rfl rfl 0 (by decide) (hts (.fieldLink RX0 35 "CutAtlas$Current" "net" "LCutAtlas$Net;") (List.mem_of_getElem? (i := 1) rfl)) (fun _ h9 => h9) rfl dB_36_0_40.1.1.1.1 ?_
    refine va_get (ci := 3) (v := .int vp) (C := RX3) (T := TX3) (N := 7) hx hb hts (fun _ h => List.mem_cons_of_mem _ (List.mem_append_right _ h)) hown hK.1 hP 1 rfl rfl 0 (by decide) (hts (.fieldLink RX0 43 "CutAtlas$Net" "places" "I") (List.mem_of_getElem? (i := 2) rfl)) (fun _ h9 => h9) rfl dB_36_0_40.1.1.1.2 ?_
    refine lv_icmp_ge (tgt := 45) hx hb dB_36_0_40.1.1.2.1 (by decide) (fun c_2 => ?_) (fun c_2 => ?_)
    · have t_2 : vp.toInt ≤ x4_1.toInt := Int32.le_iff_toInt_le.mp c_2
      refine lv_iload_n hx hb dB_36_0_41.1.2.1.2 rfl (lv_at hl 1 rfl) ?_
      rw [hQ]
      exact W.iret (v := x3_1) hx hb hr (fun t ht hW => ⟨⟨x3_1, (), rfl, trivial, trivial⟩, hS.F ht⟩) hS.2.2 dB_36_0_41.1.2.2.1
    · have t_2 : ¬ vp.toInt ≤ x4_1.toInt := fun h => c_2 (Int32.le_iff_toInt_le.mpr h)
      refine lv_iload_n hx hb dB_36_0_40.1.1.2.2 rfl (lv_at hl 4 rfl) ?_
      refine lv_iload hx hb dB_36_0_40.1.2.1.1 (lv_at hl 0 rfl) ?_
      refine lv_ishr hx hb dB_36_0_40.1.2.1.2 ?_
      refine lv_topi (fun y_3 ey_3 => ?_)
      refine lv_iconst (v := 1) hx hb dB_36_0_40.1.2.2.1 (by decide) ?_
      refine lv_iand hx hb dB_36_0_40.1.2.2.2 ?_
      refine lv_topi (fun y_4 ey_4 => ?_)
      refine lv_iconst (v := 1) hx hb dB_36_0_40.2.1.1.1 (by decide) ?_
      refine lv_icmp_ne (tgt := 39) hx hb dB_36_0_40.2.1.1.2 (by decide) (fun c_5 => ?_) (fun c_5 => ?_)
      · have t_5 : ¬ y_4.toInt = (1 : Int32).toInt := fun h => c_5 (Int32.toInt_inj.mp h)
        obtain ⟨y_6, ey_6⟩ : ∃ y : Int32, y = x4_1 + 1 := ⟨_, rfl⟩
        have ty_6 : y_6.toInt = x4_1.toInt + (1 : Int32).toInt := by rw [ey_6]; exact addI (by omega) (by omega)
        refine lv_iinc (v := y_6) (lv' := [(4, .int y_6), (3, .int x3_1), (0, .ref xc), (1, .int a1), (2, .int a2)]) hx hb dB_36_0_41.1.1.2.2 hl (k := 0) rfl (by rw [ey_6]; rfl) (by decide) rfl (fun ls hl => ?_)
        refine lv_goto (tgt := 5) hx hb dB_36_0_41.1.2.1.1 (by decide) ?_
        exact ih_1 y_6 x3_1 _ _ _ (by omega) (by first | with_reducible assumption | omega | assumption) (by first | with_reducible assumption | omega | assumption) hP hS (lv_sub hl [0, 1, 2, 3, 4] rfl)
      · have t_5 : y_4.toInt = (1 : Int32).toInt := congrArg Int32.toInt c_5
        refine lv_iload_n hx hb dB_36_0_40.2.1.2.1 rfl (lv_at hl 1 rfl) ?_
        refine lv_aload_n hx hb dB_36_0_40.2.1.2.2 rfl (lv_at hl 2 rfl) ?_
        refine va_get (ci := 0) (v := .ref clo) (C := RX0) (T := TX0) (N := 9) hx hb hts (fun _ h => List.mem_cons_of_mem _ (List.mem_append_left _ (List.mem_append_right _ h))) hown hK.1 hP 0 rfl rfl 2 (by decide) (hts (.fieldLink RX0 11 "CutAtlas$Current" "lets" "[[I") (List.mem_of_getElem? (i := 3) rfl)) (fun _ h9 => h9) rfl dB_36_0_40.2.2.1.1 ?_
        refine lv_iload_n hx hb dB_36_0_40.2.2.1.2 rfl (lv_at hl 3 rfl) ?_
        have h_7 : vp_in a1 12 := in_I (by omega) (by omega)
        refine va_alda hx hb hG hP 2 rfl (i := a1) h_7 dB_36_0_40.2.2.2.1 ?_
        refine lv_topv (v' := .ref (rl a1.toNatClampNeg)) (gf_at h_7) ?_
        refine lv_iload hx hb dB_36_0_40.2.2.2.2 (lv_at hl 0 rfl) ?_
        have h_8 : vp_in x4_1 12 := in_I (by omega) (by omega)
        have hPg : va_P D vwCl (([ob0_0_ xc xn xk clo cro c4 c5 c6 c7 c8, ob3_0_ xn vp vn n1 n2 n3 n4 n5, aq_ cy 6 clo 12 (gf_ rl)] : va_W) ++ (gro (cy 0) rl Ml ++ ([] : va_W))) H := hP
        refine va_gld (X := [ob0_0_ xc xn xk clo cro c4 c5 c6 c7 c8, ob3_0_ xn vp vn n1 n2 n3 n4 n5, aq_ cy 6 clo 12 (gf_ rl)]) (Y := []) (r := rl) (M := Ml) (k := a1.toNatClampNeg) hx hb hK.1 hPg 0 rfl (in_lt h_7) (i := x4_1) h_8 dB_36_0_41.1.1.1.1 ?_
        refine lv_topi (fun y_9 ey_9 => ?_)
        refine lv_iadd hx hb dB_36_0_41.1.1.1.2 ?_
        refine lv_topi (fun y_10 ey_10 => ?_)
        refine lv_istore_n (lv' := [(3, .int y_10), (4, .int x4_1), (0, .ref xc), (1, .int a1), (2, .int a2)]) hx hb dB_36_0_41.1.1.2.1 rfl hl (by decide) rfl (fun ls hl => ?_)
        obtain ⟨y_11, ey_11⟩ : ∃ y : Int32, y = x4_1 + 1 := ⟨_, rfl⟩
        have ty_11 : y_11.toInt = x4_1.toInt + (1 : Int32).toInt := by rw [ey_11]; exact addI (by omega) (by omega)
        refine lv_iinc (v := y_11) (lv' := [(4, .int y_11), (3, .int y_10), (0, .ref xc), (1, .int a1), (2, .int a2)]) hx hb dB_36_0_41.1.1.2.2 hl (k := 1) rfl (by rw [ey_11]; rfl) (by decide) rfl (fun ls hl => ?_)
        refine lv_goto (tgt := 5) hx hb dB_36_0_41.1.2.1.1 (by decide) ?_
        exact ih_1 y_11 y_10 _ _ _ (by omega) (by first | with_reducible assumption | omega | assumption) (by first | with_reducible assumption | omega | assumption) hP hS (lv_sub hl [0, 1, 2, 3, 4] rfl)

set_option maxHeartbeats 4000000 in
set_option maxRecDepth 100000 in
theorem c_X0_leaving (l : Launch) (D : va_G) (cy : Nat → ClassId) (sz : Nat) (xc : Nat) (xk : Nat) (clo : Nat) (cro : Nat) (c4 : Nat) (c5 : Nat) (c6 : Nat) (c7 : Nat) (c8 : Nat) (xn : Nat) (n1 : Nat) (n2 : Nat) (n3 : Nat) (n4 : Nat) (n5 : Nat) (vp : Int32) (vn : Int32) (rl : Nat → Nat) (Ml : Nat → Nat → Int32) (a1 : Int32) (hvp : 0 ≤ vp.toInt ∧ vp.toInt ≤ 12) : Met l yX0_leaving wsX0_leaving ({ frames := 1, cells := 0, slots := 0, locals := 24 }) (va_Pc [.ref xc, .int a1] (fun U => U.heap.size = sz ∧ va_P D vwCl [ob0_0_ xc xn xk clo cro c4 c5 c6 c7 c8, ob3_0_ xn vp vn n1 n2 n3 n4 n5, aq_ cy 6 clo 12 (gf_ rl), ai_ cy (rl 0) 12 (Ml 0), ai_ cy (rl 1) 12 (Ml 1), ai_ cy (rl 2) 12 (Ml 2), ai_ cy (rl 3) 12 (Ml 3), ai_ cy (rl 4) 12 (Ml 4), ai_ cy (rl 5) 12 (Ml 5), ai_ cy (rl 6) 12 (Ml 6), ai_ cy (rl 7) 12 (Ml 7), ai_ cy (rl 8) 12 (Ml 8), ai_ cy (rl 9) 12 (Ml 9), ai_ cy (rl 10) 12 (Ml 10), ai_ cy (rl 11) 12 (Ml 11)] U.heap ∧ kg_ D cy U ∧ va_D (fun _ => True) [ob0_0_ xc xn xk clo cro c4 c5 c6 c7 c8, ob3_0_ xn vp vn n1 n2 n3 n4 n5, aq_ cy 6 clo 12 (gf_ rl), ai_ cy (rl 0) 12 (Ml 0), ai_ cy (rl 1) 12 (Ml 1), ai_ cy (rl 2) 12 (Ml 2), ai_ cy (rl 3) 12 (Ml 3), ai_ cy (rl 4) 12 (Ml 4), ai_ cy (rl 5) 12 (Ml 5), ai_ cy (rl 6) 12 (Ml 6), ai_ cy (rl 7) 12 (Ml 7), ai_ cy (rl 8) 12 (Ml 8), ai_ cy (rl 9) 12 (Ml 9), ai_ cy (rl 10) 12 (Ml 10), ai_ cy (rl 11) 12 (Ml 11)])) (va_Qi (fun (r : Int32) (_ : Unit) => True) (fun (_ : Unit) (_ : State) => True) (va_A [] sz)) 0 0 (va_A [] sz) := by
  refine ofQ (cc := cX0_leaving) (maxL := 4) (ret := (some .int)) (by decide) rfl ?_
  intro p e s m args below meth c s₁ Q hQ B hml hv
  obtain ⟨rfl, hsz, hP, hK, hD0⟩ := hv
  have hG := hK.2
  have hK := hK.1
  have hx := B.exec
  have hb := B.bytes
  have hr := B.returns
  have hts := atoms_spec (ws := wsX0_leaving) B.pre
  have hown : s.vm.findClass RX0 = some m.cls := by have h_ := findClass_of_methodNamed B.named; exact h_
  have hlocks := B.notSynchronized
  subst hsz
  have hD : va_D (va_A [] s.heap.size) [] := dd_nil
  generalize hAe : va_A [] s.heap.size = A at hD hQ
  have hA : ∀ q : Nat, s.heap.size ≤ q → A q := fun q h => by rw [← hAe]; exact Or.inr h
  have hS : va_S A s.heap s.heap [] := va_S.rf
  have hl := lv_entry ([.ref xc, .int a1]) (n := 4) (Nat.le_of_ble_eq_true rfl)
  rw [lg_entry_eq]
  generalize (lg_sl ([.ref xc, .int a1]) ++ List.replicate (4 - (lg_sl ([.ref xc, .int a1])).length) Slot.unset).toArray = ls at hl ⊢
  have hl : lv_has ls 4 [(0, .ref xc), (1, .int a1)] := hl
  have z0 : (0 : Int32).toInt = 0 := by decide
  have z1 : (1 : Int32).toInt = 1 := by decide
  refine lv_iconst (v := 0) hx hb dB_36_0_37.2.2.1.2 (by decide) ?_
  refine lv_istore_n (lv' := [(2, .int 0), (0, .ref xc), (1, .int a1)]) hx hb dB_36_0_37.2.2.2.1 rfl hl (by decide) rfl (fun ls hl => ?_)
  refine lv_iconst (v := 0) hx hb dB_36_0_37.2.2.2.2 (by decide) ?_
  refine lv_istore_n (lv' := [(3, .int 0), (2, .int 0), (0, .ref xc), (1, .int a1)]) hx hb dB_36_0_38.1.1.1.1 rfl hl (by decide) rfl (fun ls hl => ?_)
  suffices LOOP_1 : ∀ (n_1 : Nat) (x3_1 : Int32) (x2_1 : Int32) (H : Heap) (locs : List Loc) (ls : Array Slot), vp.toInt - x3_1.toInt < (n_1 : Int) → (0 ≤ x3_1.toInt) → (x3_1.toInt ≤ vp.toInt) → va_P D vwCl [ob0_0_ xc xn xk clo cro c4 c5 c6 c7 c8, ob3_0_ xn vp vn n1 n2 n3 n4 n5, aq_ cy 6 clo 12 (gf_ rl), ai_ cy (rl 0) 12 (Ml 0), ai_ cy (rl 1) 12 (Ml 1), ai_ cy (rl 2) 12 (Ml 2), ai_ cy (rl 3) 12 (Ml 3), ai_ cy (rl 4) 12 (Ml 4), ai_ cy (rl 5) 12 (Ml 5), ai_ cy (rl 6) 12 (Ml 6), ai_ cy (rl 7) 12 (Ml 7), ai_ cy (rl 8) 12 (Ml 8), ai_ cy (rl 9) 12 (Ml 9), ai_ cy (rl 10) 12 (Ml 10), ai_ cy (rl 11) 12 (Ml 11)] H → va_S A s.heap H locs → lv_has ls 4 [(3, .int x3_1), (2, .int x2_1), (0, .ref xc), (1, .int a1)] → W p l e ({ frames := 1, cells := 0, slots := 0, locals := 24 } : Room) s m (([.ref xc, .int a1] : List Value).toArray) below meth c H locs 0 0 Q (F0 m 4 ls []) from LOOP_1 ((vp.toInt - (0 : Int32).toInt).toNat + 1) (0 : Int32) (0 : Int32) _ _ _ (by omega) (by first | with_reducible assumption | omega | assumption) (by first | with_reducible assumption | omega | assumption) hP hS (lv_sub hl [0, 1, 2, 3] rfl)
  intro n_1
  induction n_1 with
  | zero =>
    intro x3_1 x2_1 H locs ls hm v0_1 v1_1 hP hS hl
    exact absurd hm (by omega)
  | succ n_1 ih_1 =>
    intro x3_1 x2_1 H locs ls hm v0_1 v1_1 hP hS hl
    refine lv_iload_n hx hb dB_36_0_38.1.1.1.2 rfl (lv_at hl 0 rfl) ?_
    refine lv_aload_n hx hb dB_36_0_38.1.1.2.1 rfl (lv_at hl 2 rfl) ?_
    refine va_get (ci := 0) (v := .ref xn) (C := RX0) (T := TX0) (N := 9) hx hb hts (fun _ h => List.mem_cons_of_mem _ (List.mem_append_left _ (List.mem_append_right _ h))) hown hK.1 hP 0 rfl rfl 0 (by decide) (hts (.fieldLink RX0 35 "CutAtlas$Current" "net" "LCutAtlas$Net;") (List.mem_of_getElem? (i := 1) rfl)) (fun _ h9 => h9) rfl dB_36_0_38.1.1.2.2 ?_
    refine va_get (ci := 3) (v := .int vp) (C := RX3) (T := TX3) (N := 7) hx hb hts (fun _ h => List.mem_cons_of_mem _ (List.mem_append_right _ h)) hown hK.1 hP 1 rfl rfl 0 (by decide) (hts (.fieldLink RX0 43 "CutAtlas$Net" "places" "I") (List.mem_of_getElem? (i := 2) rfl)) (fun _ h9 => h9) rfl dB_36_0_38.1.2.1.1 ?_
    refine lv_icmp_ge (tgt := 41) hx hb dB_36_0_38.1.2.1.2 (by decide) (fun c_2 => ?_) (fun c_2 => ?_)
    · have t_2 : vp.toInt ≤ x3_1.toInt := Int32.le_iff_toInt_le.mp c_2
      refine lv_iload_n hx hb dB_36_0_39.2.1.1.1 rfl (lv_at hl 1 rfl) ?_
      rw [hQ]
      exact W.iret (v := x2_1) hx hb hr (fun t ht hW => ⟨⟨x2_1, (), rfl, trivial, trivial⟩, hS.F ht⟩) hS.2.2 dB_36_0_39.2.1.1.2
    · have t_2 : ¬ vp.toInt ≤ x3_1.toInt := fun h => c_2 (Int32.le_iff_toInt_le.mpr h)
      refine lv_iload_n hx hb dB_36_0_38.1.2.2.1 rfl (lv_at hl 3 rfl) ?_
      refine lv_iload_n hx hb dB_36_0_38.1.2.2.2 rfl (lv_at hl 0 rfl) ?_
      refine lv_ishr hx hb dB_36_0_38.2.1.1.1 ?_
      refine lv_topi (fun y_3 ey_3 => ?_)
      refine lv_iconst (v := 1) hx hb dB_36_0_38.2.1.1.2 (by decide) ?_
      refine lv_iand hx hb dB_36_0_38.2.1.2.1 ?_
      refine lv_topi (fun y_4 ey_4 => ?_)
      refine lv_iconst (v := 1) hx hb dB_36_0_38.2.1.2.2 (by decide) ?_
      refine lv_icmp_ne (tgt := 35) hx hb dB_36_0_38.2.2.1.1 (by decide) (fun c_5 => ?_) (fun c_5 => ?_)
      · have t_5 : ¬ y_4.toInt = (1 : Int32).toInt := fun h => c_5 (Int32.toInt_inj.mp h)
        obtain ⟨y_6, ey_6⟩ : ∃ y : Int32, y = x3_1 + 1 := ⟨_, rfl⟩
        have ty_6 : y_6.toInt = x3_1.toInt + (1 : Int32).toInt := by rw [ey_6]; exact addI (by omega) (by omega)
        refine lv_iinc (v := y_6) (lv' := [(3, .int y_6), (2, .int x2_1), (0, .ref xc), (1, .int a1)]) hx hb dB_36_0_39.1.2.2.1 hl (k := 0) rfl (by rw [ey_6]; rfl) (by decide) rfl (fun ls hl => ?_)
        refine lv_goto (tgt := 4) hx hb dB_36_0_39.1.2.2.2 (by decide) ?_
        exact ih_1 y_6 x2_1 _ _ _ (by omega) (by first | with_reducible assumption | omega | assumption) (by first | with_reducible assumption | omega | assumption) hP hS (lv_sub hl [0, 1, 2, 3] rfl)
      · have t_5 : y_4.toInt = (1 : Int32).toInt := congrArg Int32.toInt c_5
        refine lv_iload_n hx hb dB_36_0_38.2.2.1.2 rfl (lv_at hl 1 rfl) ?_
        refine lv_aload_n hx hb dB_36_0_38.2.2.2.1 rfl (lv_at hl 2 rfl) ?_
        refine lv_iload_n hx hb dB_36_0_38.2.2.2.2 rfl (lv_at hl 0 rfl) ?_
        refine lv_iload_n hx hb dB_36_0_39.1.1.1.1 rfl (lv_at hl 3 rfl) ?_
        refine lv_iconst (v := (-1)) hx hb dB_36_0_39.1.1.1.2 (by decide) ?_
        refine lv_ixor hx hb dB_36_0_39.1.1.2.1 ?_
        refine lv_topi (fun y_7 ey_7 => ?_)
        refine ct_R hP hD0 [ob0_0_ xc xn xk clo cro c4 c5 c6 c7 c8, ob3_0_ xn vp vn n1 n2 n3 n4 n5, aq_ cy 6 clo 12 (gf_ rl), ai_ cy (rl 0) 12 (Ml 0), ai_ cy (rl 1) 12 (Ml 1), ai_ cy (rl 2) 12 (Ml 2), ai_ cy (rl 3) 12 (Ml 3), ai_ cy (rl 4) 12 (Ml 4), ai_ cy (rl 5) 12 (Ml 5), ai_ cy (rl 6) 12 (Ml 6), ai_ cy (rl 7) 12 (Ml 7), ai_ cy (rl 8) 12 (Ml 8), ai_ cy (rl 9) 12 (Ml 9), ai_ cy (rl 10) 12 (Ml 10), ai_ cy (rl 11) 12 (Ml 11)] [0, 1, 2, 3, 4, 5, 6, 7, 8, 9, 10, 11, 12, 13, 14] (by decide +kernel) rfl (fun hPc hDw => ?_)
        have hFc := va_free (wc := []) hD hS hA [] rfl
        refine va_calli (va_runV (As := [.int x3_1, .int y_7]) (rest := [.int x2_1]) ⟨hx, hb, hml, hown, hts⟩ (c_X0_betweenSets l D cy H.size xc xk clo cro c4 c5 c6 c7 c8 xn n1 n2 n3 n4 n5 vp vn rl Ml x3_1 y_7 (by first | with_reducible assumption | omega | assumption) (by first | with_reducible assumption | omega | assumption)) (cwV 2 hts gX0_leaving_X0_betweenSets rfl rfl rfl ⟨rfl, hd_X0_betweenSets⟩ ⟨Nat.le_of_ble_eq_true rfl, Nat.le_of_ble_eq_true rfl⟩) ⟨bl_g, va_recvX hK.1 hP (ci := 0) (q0 := 0) rfl rfl, fun U hU hW => ⟨rfl, by rw [hU], by rw [hU]; exact hPc, ⟨kk_mv hW hK, arrOfT_moved hW.alike hG⟩, hDw⟩⟩ rfl rfl hl.1 rfl (lv_room (Nat.le_of_ble_eq_true rfl)) dB_36_0_39.1.1.2.2 ⟨Nat.le_of_ble_eq_true rfl, Nat.le_of_ble_eq_true rfl⟩) hS (fun q _ h => hFc q h) hFc (fun r_8 u t H locs ht hvm hw hB hz1 hk1 hS => ?_)
        have hP : va_P D vwCl _ H := ro_keep hP hk1
        refine lv_iadd hx hb dB_36_0_39.1.2.1.1 ?_
        refine lv_topi (fun y_9 ey_9 => ?_)
        refine lv_istore_n (lv' := [(2, .int y_9), (3, .int x3_1), (0, .ref xc), (1, .int a1)]) hx hb dB_36_0_39.1.2.1.2 rfl hl (by decide) rfl (fun ls hl => ?_)
        obtain ⟨y_10, ey_10⟩ : ∃ y : Int32, y = x3_1 + 1 := ⟨_, rfl⟩
        have ty_10 : y_10.toInt = x3_1.toInt + (1 : Int32).toInt := by rw [ey_10]; exact addI (by omega) (by omega)
        refine lv_iinc (v := y_10) (lv' := [(3, .int y_10), (2, .int y_9), (0, .ref xc), (1, .int a1)]) hx hb dB_36_0_39.1.2.2.1 hl (k := 1) rfl (by rw [ey_10]; rfl) (by decide) rfl (fun ls hl => ?_)
        refine lv_goto (tgt := 4) hx hb dB_36_0_39.1.2.2.2 (by decide) ?_
        exact ih_1 y_10 y_9 _ _ _ (by omega) (by first | with_reducible assumption | omega | assumption) (by first | with_reducible assumption | omega | assumption) hP hS (lv_sub hl [0, 1, 2, 3] rfl)

set_option maxHeartbeats 4000000 in
set_option maxRecDepth 100000 in
theorem c_X0_asRoom (l : Launch) (D : va_G) (cy : Nat → ClassId) (sz : Nat) (a1 : Int32) : Met l yX0_asRoom wsX0_asRoom ({ frames := 0, cells := 0, slots := 0, locals := 0 }) (va_Pc [.int a1] (fun U => U.heap.size = sz ∧ va_P D vwCl [] U.heap ∧ kk_ D cy U ∧ va_D (fun _ => True) [])) (va_Qi (fun (r : Int32) (_ : Unit) => True) (fun (_ : Unit) (_ : State) => True) (va_A [] sz)) 0 0 (va_A [] sz) := by
  refine ofQ (cc := cX0_asRoom) (maxL := 1) (ret := (some .int)) (by decide) rfl ?_
  intro p e s m args below meth c s₁ Q hQ B hml hv
  obtain ⟨rfl, hsz, hP, hK, hD0⟩ := hv
  have hx := B.exec
  have hb := B.bytes
  have hr := B.returns
  have hts := atoms_spec (ws := wsX0_asRoom) B.pre
  have hown : s.vm.findClass RX0 = some m.cls := by have h_ := findClass_of_methodNamed B.named; exact h_
  have hlocks := B.notSynchronized
  subst hsz
  have hD : va_D (va_A [] s.heap.size) [] := dd_nil
  generalize hAe : va_A [] s.heap.size = A at hD hQ
  have hA : ∀ q : Nat, s.heap.size ≤ q → A q := fun q h => by rw [← hAe]; exact Or.inr h
  have hS : va_S A s.heap s.heap [] := va_S.rf
  have hl := lv_entry ([.int a1]) (n := 1) (Nat.le_of_ble_eq_true rfl)
  rw [lg_entry_eq]
  generalize (lg_sl ([.int a1]) ++ List.replicate (1 - (lg_sl ([.int a1])).length) Slot.unset).toArray = ls at hl ⊢
  have hl : lv_has ls 1 [(0, .int a1)] := hl
  have zm5 : ((-5) : Int32).toInt = -5 := by decide
  have z1000000 : (1000000 : Int32).toInt = 1000000 := by decide
  refine lv_iload_n hx hb dB_36_0_9.2.1.2.2 rfl (lv_at hl 0 rfl) ?_
  refine lv_bipush (v := (-5)) hx hb dB_36_0_9.2.2.1.1 (by decide) ?_
  refine lv_icmp_ne (tgt := 11) hx hb dB_36_0_9.2.2.1.2 (by decide) (fun c_1 => ?_) (fun c_1 => ?_)
  · have t_1 : ¬ a1.toInt = ((-5) : Int32).toInt := fun h => c_1 (Int32.toInt_inj.mp h)
    refine lv_iload_n hx hb dB_36_0_10.1.1.1.1 rfl (lv_at hl 0 rfl) ?_
    rw [hQ]
    exact W.iret (v := a1) hx hb hr (fun t ht hW => ⟨⟨a1, (), rfl, trivial, trivial⟩, hS.F ht⟩) hS.2.2 dB_36_0_10.1.1.1.2
  · have t_1 : a1.toInt = ((-5) : Int32).toInt := congrArg Int32.toInt c_1
    refine lv_ldc (v := 1000000) hx hb hown (hts (.constant RX0 82 (1000000)) (List.mem_of_getElem? (i := 1) rfl)) dB_36_0_9.2.2.2.1 ?_
    refine lv_goto (tgt := 12) hx hb dB_36_0_9.2.2.2.2 (by decide) ?_
    rw [hQ]
    exact W.iret (v := 1000000) hx hb hr (fun t ht hW => ⟨⟨1000000, (), rfl, trivial, trivial⟩, hS.F ht⟩) hS.2.2 dB_36_0_10.1.1.1.2
end
