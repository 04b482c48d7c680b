set_option maxHeartbeats 4000000 in
set_option maxRecDepth 100000 in
theorem c_X11_ask (l : Launch) (D : va_G) (cy : Nat → ClassId) (sz : Nat) (xo : Nat) (xk : Nat) (xn : Nat) (xc : Nat) (xh : Nat) (xt : Nat) (xw : Nat) (xm : Nat) (xp : Nat) (pf : Int32) (ph : Int32) (tr : Int64) (fi : Int32) (n1 : Nat) (n2 : Nat) (n3 : Nat) (n4 : Nat) (n5 : Nat) (vp : Int32) (vn : Int32) (fk : Nat → Int32) (fw : Nat → Int32) (fp : Nat → Int32) (k0 : Nat) (k1 : Nat) (k2 : Nat) (k3 : Nat) (k4 : Nat) (a1 : Int32) (a2 : Int32) (hvn : 0 ≤ vn.toInt ∧ vn.toInt ≤ 40) (r_fk : rng fk 40 (0) (4)) : Met l yX11_ask wsX11_ask ({ frames := 2, cells := 0, slots := 0, locals := 44 }) (va_Pc [.ref xo, .int a1, .int a2] (fun U => U.heap.size = sz ∧ va_P D vwCl [(xo, .inr (11, [.ref xk, .ref xn, .ref xc, .ref xh, .ref xt, .ref xw, .ref xm, .ref xp, .int pf, .int ph, .long tr, .int fi])), (xn, .inr (3, [.int vp, .int vn, .ref n1, .ref n2, .ref n3, .ref n4, .ref n5])), (n1, .inl (cy 0, 40, .inl fk)), (n4, .inl (cy 0, 40, .inl fw)), (n5, .inl (cy 0, 40, .inl fp)), (xk, .inl (cy 3, 5, .inr (.inr (.inr (.inr (kf_ k0 k1 k2 k3 k4)))))), (k0, .inr (6, [])), (k1, .inr (5, [])), (k2, .inr (9, [])), (k3, .inr (2, [])), (k4, .inr (8, []))] U.heap ∧ kk_ D cy U ∧ va_D (fun _ => True) [(xo, .inr (11, [.ref xk, .ref xn, .ref xc, .ref xh, .ref xt, .ref xw, .ref xm, .ref xp, .int pf, .int ph, .long tr, .int fi])), (xn, .inr (3, [.int vp, .int vn, .ref n1, .ref n2, .ref n3, .ref n4, .ref n5])), (n1, .inl (cy 0, 40, .inl fk)), (n4, .inl (cy 0, 40, .inl fw)), (n5, .inl (cy 0, 40, .inl fp)), (xk, .inl (cy 3, 5, .inr (.inr (.inr (.inr (kf_ k0 k1 k2 k3 k4)))))), (k0, .inr (6, [])), (k1, .inr (5, [])), (k2, .inr (9, [])), (k3, .inr (2, [])), (k4, .inr (8, []))])) (va_Qi (fun (r : Int32) (_ : Unit) => True) (fun (_ : Unit) (t : State) => ∃ (etr : Int64), va_P D vwCl [(xo, .inr (11, [.ref xk, .ref xn, .ref xc, .ref xh, .ref xt, .ref xw, .ref xm, .ref xp, .int pf, .int ph, .long etr, .int fi])), (xn, .inr (3, [.int vp, .int vn, .ref n1, .ref n2, .ref n3, .ref n4, .ref n5])), (n1, .inl (cy 0, 40, .inl fk)), (n4, .inl (cy 0, 40, .inl fw)), (n5, .inl (cy 0, 40, .inl fp)), (xk, .inl (cy 3, 5, .inr (.inr (.inr (.inr (kf_ k0 k1 k2 k3 k4)))))), (k0, .inr (6, [])), (k1, .inr (5, [])), (k2, .inr (9, [])), (k3, .inr (2, [])), (k4, .inr (8, []))] t.heap ∧ va_D (va_A [(xo, .inr (11, [.ref xk, .ref xn, .ref xc, .ref xh, .ref xt, .ref xw, .ref xm, .ref xp, .int pf, .int ph, .long tr, .int fi])), (xn, .inr (3, [.int vp, .int vn, .ref n1, .ref n2, .ref n3, .ref n4, .ref n5])), (n1, .inl (cy 0, 40, .inl fk)), (n4, .inl (cy 0, 40, .inl fw)), (n5, .inl (cy 0, 40, .inl fp)), (xk, .inl (cy 3, 5, .inr (.inr (.inr (.inr (kf_ k0 k1 k2 k3 k4)))))), (k0, .inr (6, [])), (k1, .inr (5, [])), (k2, .inr (9, [])), (k3, .inr (2, [])), (k4, .inr (8, []))] sz) [(xo, .inr (11, [.ref xk, .ref xn, .ref xc, .ref xh, .ref xt, .ref xw, .ref xm, .ref xp, .int pf, .int ph, .long etr, .int fi])), (xn, .inr (3, [.int vp, .int vn, .ref n1, .ref n2, .ref n3, .ref n4, .ref n5])), (n1, .inl (cy 0, 40, .inl fk)), (n4, .inl (cy 0, 40, .inl fw)), (n5, .inl (cy 0, 40, .inl fp)), (xk, .inl (cy 3, 5, .inr (.inr (.inr (.inr (kf_ k0 k1 k2 k3 k4)))))), (k0, .inr (6, [])), (k1, .inr (5, [])), (k2, .inr (9, [])), (k3, .inr (2, [])), (k4, .inr (8, []))]) (va_A [(xo, .inr (11, [.ref xk, .ref xn, .ref xc, .ref xh, .ref xt, .ref xw, .ref xm, .ref xp, .int pf, .int ph, .long tr, .int fi])), (xn, .inr (3, [.int vp, .int vn, .ref n1, .ref n2, .ref n3, .ref n4, .ref n5])), (n1, .inl (cy 0, 40, .inl fk)), (n4, .inl (cy 0, 40, .inl fw)), (n5, .inl (cy 0, 40, .inl fp)), (xk, .inl (cy 3, 5, .inr (.inr (.inr (.inr (kf_ k0 k1 k2 k3 k4)))))), (k0, .inr (6, [])), (k1, .inr (5, [])), (k2, .inr (9, [])), (k3, .inr (2, [])), (k4, .inr (8, []))] sz)) 0 0 (va_A [(xo, .inr (11, [.ref xk, .ref xn, .ref xc, .ref xh, .ref xt, .ref xw, .ref xm, .ref xp, .int pf, .int ph, .long tr, .int fi])), (xn, .inr (3, [.int vp, .int vn, .ref n1, .ref n2, .ref n3, .ref n4, .ref n5])), (n1, .inl (cy 0, 40, .inl fk)), (n4, .inl (cy 0, 40, .inl fw)), (n5, .inl (cy 0, 40, .inl fp)), (xk, .inl (cy 3, 5, .inr (.inr (.inr (.inr (kf_ k0 k1 k2 k3 k4)))))), (k0, .inr (6, [])), (k1, .inr (5, [])), (k2, .inr (9, [])), (k3, .inr (2, [])), (k4, .inr (8, []))] sz) := by
  refine ofQ (cc := cX11_ask) (maxL := 5) (ret := (some .int)) (by decide) rfl ?_
  intro p e s m args below meth c s₁ Q hQ B hml hv
  obtain ⟨rfl, hsz, hP, hK, hD0⟩ := hv
  have hx := B.exec
  have hb := B.bytes
  have hr := B.returns
  have hts := atoms_spec (ws := wsX11_ask) B.pre
  have hown : s.vm.findClass RX11 = some m.cls := by have h_ := findClass_of_methodNamed B.named; exact h_
  have hlocks := B.notSynchronized
  subst hsz
  have hD := hD0.self (sz := s.heap.size)
  generalize hAe : va_A [(xo, .inr (11, [.ref xk, .ref xn, .ref xc, .ref xh, .ref xt, .ref xw, .ref xm, .ref xp, .int pf, .int ph, .long tr, .int fi])), (xn, .inr (3, [.int vp, .int vn, .ref n1, .ref n2, .ref n3, .ref n4, .ref n5])), (n1, .inl (cy 0, 40, .inl fk)), (n4, .inl (cy 0, 40, .inl fw)), (n5, .inl (cy 0, 40, .inl fp)), (xk, .inl (cy 3, 5, .inr (.inr (.inr (.inr (kf_ k0 k1 k2 k3 k4)))))), (k0, .inr (6, [])), (k1, .inr (5, [])), (k2, .inr (9, [])), (k3, .inr (2, [])), (k4, .inr (8, []))] s.heap.size = A at hD hQ
  have hA : ∀ q : Nat, s.heap.size ≤ q → A q := fun q h => by rw [← hAe]; exact Or.inr h
  have hS : va_S A s.heap s.heap [] := va_S.rf
  have hl := lv_entry ([.ref xo, .int a1, .int a2]) (n := 5) (Nat.le_of_ble_eq_true rfl)
  rw [lg_entry_eq]
  generalize (lg_sl ([.ref xo, .int a1, .int a2]) ++ List.replicate (5 - (lg_sl ([.ref xo, .int a1, .int a2])).length) Slot.unset).toArray = ls at hl ⊢
  have hl : lv_has ls 5 [(0, .ref xo), (1, .int a1), (2, .int a2)] := hl
  have zm1 : ((-1) : Int32).toInt = -1 := by decide
  have z0 : (0 : Int32).toInt = 0 := by decide
  have z1 : (1 : Int32).toInt = 1 := by decide
  have z2 : (2 : Int32).toInt = 2 := by decide
  refine lv_aload_n hx hb dX11_ask_0 rfl (lv_at hl 0 rfl) ?_
  refine va_get (ci := 11) (v := .ref xn) (C := RX11) (T := TX11) (N := 12) hx hb hts (fun _ h => List.mem_cons_of_mem _ (List.mem_append_left _ (List.mem_append_right _ h))) hown hK.1 hP 0 rfl rfl 1 (by decide) (hts (.fieldLink RX11 31 "CutAtlas" "net" "LCutAtlas$Net;") (by decide +kernel)) (fun _ h9 => h9) rfl dX11_ask_1 ?_
  refine lv_iload_n hx hb dX11_ask_4 rfl (lv_at hl 1 rfl) ?_
  refine ct_R hP hD [(xn, .inr (3, [.int vp, .int vn, .ref n1, .ref n2, .ref n3, .ref n4, .ref n5]))] [1] (by decide) rfl (fun hPc hDw => ?_)
  have hFc := va_free (wc := []) hD hS hA [] rfl
  refine va_calli (va_runV (As := [.int a1]) (rest := []) ⟨hx, hb, hml, hown, hts⟩ (c_X3_hasLine l D cy s.heap.size xn n1 n2 n3 n4 n5 vp vn a1) (cwV 1 hts gX11_ask_X3_hasLine rfl rfl rfl (by decide +kernel) ⟨Nat.le_of_ble_eq_true rfl, Nat.le_of_ble_eq_true rfl⟩) ⟨bl_, va_recvX hK.1 hP (ci := 3) (q0 := 1) rfl rfl, fun U hU hW => ⟨rfl, by rw [hU], by rw [hU]; exact hPc, kk_mv hW hK, hDw⟩⟩ rfl rfl hl.1 rfl (lv_room (Nat.le_of_ble_eq_true rfl)) dX11_ask_5 ⟨Nat.le_of_ble_eq_true rfl, Nat.le_of_ble_eq_true rfl⟩) hS (fun q _ h => hFc q h) hFc (fun r_1 u t H locs ht hvm hw hB hz1 hk1 hS => ?_)
  have hP : va_P D vwCl _ H := ro_keep hP hk1
  rcases hw with ⟨w_2, e_⟩ | ⟨w_2, e_⟩
  · have e_ := e_.symm
    subst e_
    refine lv_if_eq (tgt := 20) hx hb dX11_ask_8 (by decide) (fun c_3 => ?_) (fun c_3 => ?_)
    · exact absurd c_3 (by decide)
    · have _ := c_3
      refine lv_iload_n hx hb dX11_ask_11 rfl (lv_at hl 2 rfl) ?_
      refine lv_if_lt (tgt := 20) hx hb dX11_ask_12 (by decide) (fun c_4 => ?_) (fun c_4 => ?_)
      · have t_4 : a2.toInt < (0 : Int32).toInt := Int32.lt_iff_toInt_lt.mp c_4
        refine lv_iconst (v := (-1)) hx hb dX11_ask_20 (by decide) ?_
        have hP9 := hP.sub (ws' := [(xo, .inr (11, [.ref xk, .ref xn, .ref xc, .ref xh, .ref xt, .ref xw, .ref xm, .ref xp, .int pf, .int ph, .long tr, .int fi])), (xn, .inr (3, [.int vp, .int vn, .ref n1, .ref n2, .ref n3, .ref n4, .ref n5])), (n1, .inl (cy 0, 40, .inl fk)), (n4, .inl (cy 0, 40, .inl fw)), (n5, .inl (cy 0, 40, .inl fp)), (xk, .inl (cy 3, 5, .inr (.inr (.inr (.inr (kf_ k0 k1 k2 k3 k4)))))), (k0, .inr (6, [])), (k1, .inr (5, [])), (k2, .inr (9, [])), (k3, .inr (2, [])), (k4, .inr (8, []))]) [0, 1, 2, 3, 4, 5, 6, 7, 8, 9, 10] rfl
        have hD9 := hD.sub (ws' := [(xo, .inr (11, [.ref xk, .ref xn, .ref xc, .ref xh, .ref xt, .ref xw, .ref xm, .ref xp, .int pf, .int ph, .long tr, .int fi])), (xn, .inr (3, [.int vp, .int vn, .ref n1, .ref n2, .ref n3, .ref n4, .ref n5])), (n1, .inl (cy 0, 40, .inl fk)), (n4, .inl (cy 0, 40, .inl fw)), (n5, .inl (cy 0, 40, .inl fp)), (xk, .inl (cy 3, 5, .inr (.inr (.inr (.inr (kf_ k0 k1 k2 k3 k4)))))), (k0, .inr (6, [])), (k1, .inr (5, [])), (k2, .inr (9, [])), (k3, .inr (2, [])), (k4, .inr (8, []))]) [0, 1, 2, 3, 4, 5, 6, 7, 8, 9, 10] (by decide +kernel) rfl
        rw [hQ]
        exact W.iret (v := (-1)) hx hb hr (fun t ht hW => ⟨⟨(-1), (), rfl, trivial, tr, by rw [ht]; exact hP9, hD9⟩, hS.F ht⟩) hS.2.2 dX11_ask_21
      · have t_4 : ¬ a2.toInt < (0 : Int32).toInt := fun h => c_4 (Int32.lt_iff_toInt_lt.mpr h)
        refine lv_iload_n hx hb dX11_ask_15 rfl (lv_at hl 2 rfl) ?_
        refine lv_iconst (v := 2) hx hb dX11_ask_16 (by decide) ?_
        refine lv_icmp_le (tgt := 22) hx hb dX11_ask_17 (by decide) (fun c_5 => ?_) (fun c_5 => ?_)
        · have t_5 : a2.toInt ≤ (2 : Int32).toInt := Int32.le_iff_toInt_le.mp c_5
          refine lv_aload_n hx hb dX11_ask_22 rfl (lv_at hl 0 rfl) ?_
          refine va_get (ci := 11) (v := .ref xk) (C := RX11) (T := TX11) (N := 12) hx hb hts (fun _ h => List.mem_cons_of_mem _ (List.mem_append_left _ (List.mem_append_right _ h))) hown hK.1 hP 0 rfl rfl 0 (by decide) (hts (.fieldLink RX11 22 "CutAtlas" "kinds" "[LCutAtlas$PlainKind;") (by decide +kernel)) (fun _ h9 => h9) rfl dX11_ask_23 ?_
          refine lv_aload_n hx hb dX11_ask_26 rfl (lv_at hl 0 rfl) ?_
          refine va_get (ci := 11) (v := .ref xn) (C := RX11) (T := TX11) (N := 12) hx hb hts (fun _ h => List.mem_cons_of_mem _ (List.mem_append_left _ (List.mem_append_right _ h))) hown hK.1 hP 0 rfl rfl 1 (by decide) (hts (.fieldLink RX11 31 "CutAtlas" "net" "LCutAtlas$Net;") (by decide +kernel)) (fun _ h9 => h9) rfl dX11_ask_27 ?_
          refine va_get (ci := 3) (v := .ref n1) (C := RX3) (T := TX3) (N := 7) hx hb hts (fun _ h => List.mem_cons_of_mem _ (List.mem_append_right _ h)) hown hK.1 hP 1 rfl rfl 2 (by decide) (hts (.fieldLink RX11 116 "CutAtlas$Net" "kinds" "[I") (by decide +kernel)) (fun _ h9 => h9) rfl dX11_ask_30 ?_
          refine lv_iload_n hx hb dX11_ask_33 rfl (lv_at hl 1 rfl) ?_
          have h_6 : vp_in a1 40 := in_I (by omega) (by omega)
          refine va_iald hx hb hK.1 hP 2 0 rfl rfl (i := a1) h_6 dX11_ask_34 ?_
          refine lv_topi (fun y_7 ey_7 => ?_)
          have ry_7 : 0 ≤ y_7.toInt ∧ y_7.toInt ≤ 4 := by rw [ey_7]; exact r_fk _ (in_lt h_6)
          rcases sp_5 (x := y_7) (by omega) with rfl | rfl | rfl | rfl | rfl
          · refine va_aldq hx hb hK.1 hP 5 3 rfl rfl (i := 0) (by unfold vp_in; decide) dX11_ask_35 ?_
            refine lv_topv (v' := .ref k0) (by simp [va_up, va_rf, mf_, cl_0, cl_1, cl_2, cl_3, cl_4, kf_]) ?_
            refine lv_astore_n (lv' := [(3, .ref k0), (0, .ref xo), (1, .int a1), (2, .int a2)]) hx hb dX11_ask_36 rfl hl (by decide) rfl (fun ls hl => ?_)
            refine lv_iload_n hx hb dX11_ask_37 rfl (lv_at hl 3 rfl) ?_
            refine lv_iconst (v := 2) hx hb dX11_ask_38 (by decide) ?_
            refine lv_icmp_ne (tgt := 70) hx hb dX11_ask_39 (by decide) (fun c_8 => ?_) (fun c_8 => ?_)
            · have t_8 : ¬ a2.toInt = (2 : Int32).toInt := fun h => c_8 (Int32.toInt_inj.mp h)
              refine lv_iload_n hx hb dX11_ask_70 rfl (lv_at hl 3 rfl) ?_
              refine lv_if_ne (tgt := 78) hx hb dX11_ask_71 (by decide) (fun c_9 => ?_) (fun c_9 => ?_)
              · have t_9 : ¬ a2.toInt = (0 : Int32).toInt := fun h => c_9 (Int32.toInt_inj.mp h)
                refine lv_iconst (v := 0) hx hb dX11_ask_78 (by decide) ?_
                refine lv_istore (lv' := [(4, .int 0), (3, .ref k0), (0, .ref xo), (1, .int a1), (2, .int a2)]) hx hb dX11_ask_79 hl (by decide) rfl (fun ls hl => ?_)
                refine lv_aload_n hx hb dX11_ask_81 rfl (lv_at hl 2 rfl) ?_
                refine lv_dup hx hb dX11_ask_82 rfl ?_
                refine va_get (ci := 11) (v := .long tr) (C := RX11) (T := TX11) (N := 12) hx hb hts (fun _ h => List.mem_cons_of_mem _ (List.mem_append_left _ (List.mem_append_right _ h))) hown hK.1 hP 0 rfl rfl 10 (by decide) (hts (.fieldLink RX11 87 "CutAtlas" "traced" "J") (by decide +kernel)) (fun _ h9 => h9) rfl dX11_ask_83 ?_
                refine lv_aload_n hx hb dX11_ask_86 rfl (lv_at hl 1 rfl) ?_
                refine lv_iload hx hb dX11_ask_87 (lv_at hl 0 rfl) ?_
                refine ct_R hP hD [] [] (by decide) rfl (fun hPc hDw => ?_)
                have hFc := va_free (wc := []) hD hS hA [] rfl
                refine va_calli (va_runV (As := [.int 0]) (rest := [.long tr, .ref xo]) ⟨hx, hb, hml, hown, hts⟩ (c_X6_letsMark l D cy H.size k0 (0 : Int32)) (cwV 1 hts gX11_ask_X6_letsMark rfl rfl rfl (by decide +kernel) ⟨Nat.le_of_ble_eq_true rfl, Nat.le_of_ble_eq_true rfl⟩) ⟨bl_, va_recvX hK.1 hP (ci := 6) (q0 := 6) rfl rfl, fun U hU hW => ⟨rfl, by rw [hU], by rw [hU]; exact hPc, kk_mv hW hK, hDw⟩⟩ rfl rfl hl.1 rfl (lv_room (Nat.le_of_ble_eq_true rfl)) dX11_ask_89 ⟨Nat.le_of_ble_eq_true rfl, Nat.le_of_ble_eq_true rfl⟩) hS (fun q _ h => hFc q h) hFc (fun r_10 u t H locs ht hvm hw hB hz1 hk1 hS => ?_)
                have hP : va_P D vwCl _ H := ro_keep hP hk1
                refine lv_i2l (v := r_10.toInt64) hx hb dX11_ask_92 rfl ?_
                have q_92 : (r_10.toInt64).toInt = r_10.toInt := Int32.toInt_toInt64 r_10
                refine lv_ladd hx hb dX11_ask_93 ?_
                refine lv_topl (fun y_11 ey_11 => ?_)
                refine va_put (ci := 11) (v := .long y_11) (ty := .long) (C := RX11) (T := TX11) (N := 12) hx hb hts (fun _ h => List.mem_cons_of_mem _ (List.mem_append_left _ (List.mem_append_right _ h))) tyX11 tyX11_ok nmX11 hown hK.1 hP hD hS 0 rfl rfl 10 (by decide) (hts (.fieldLink RX11 87 "CutAtlas" "traced" "J") (by decide +kernel)) (fun _ h9 => h9) rfl (by decide +kernel) rfl rfl (Nat.le_of_ble_eq_true rfl) dX11_ask_94 (fun H locs hP hD hS => ?_)
                refine pd_K [(xo, .inr (11, [.ref xk, .ref xn, .ref xc, .ref xh, .ref xt, .ref xw, .ref xm, .ref xp, .int pf, .int ph, .long y_11, .int fi])), (xn, .inr (3, [.int vp, .int vn, .ref n1, .ref n2, .ref n3, .ref n4, .ref n5])), (n1, .inl (cy 0, 40, .inl fk)), (n4, .inl (cy 0, 40, .inl fw)), (n5, .inl (cy 0, 40, .inl fp)), (xk, .inl (cy 3, 5, .inr (.inr (.inr (.inr (kf_ k0 k1 k2 k3 k4)))))), (k0, .inr (6, [])), (k1, .inr (5, [])), (k2, .inr (9, [])), (k3, .inr (2, [])), (k4, .inr (8, []))] hP hD (fun hP hD => ?_)
                refine lv_aload_n hx hb dX11_ask_97 rfl (lv_at hl 1 rfl) ?_
                refine lv_aload_n hx hb dX11_ask_98 rfl (lv_at hl 2 rfl) ?_
                refine va_get (ci := 11) (v := .ref xn) (C := RX11) (T := TX11) (N := 12) hx hb hts (fun _ h => List.mem_cons_of_mem _ (List.mem_append_left _ (List.mem_append_right _ h))) hown hK.1 hP 0 rfl rfl 1 (by decide) (hts (.fieldLink RX11 31 "CutAtlas" "net" "LCutAtlas$Net;") (by decide +kernel)) (fun _ h9 => h9) rfl dX11_ask_99 ?_
                refine va_get (ci := 3) (v := .ref n4) (C := RX3) (T := TX3) (N := 7) hx hb hts (fun _ h => List.mem_cons_of_mem _ (List.mem_append_right _ h)) hown hK.1 hP 1 rfl rfl 5 (by decide) (hts (.fieldLink RX11 129 "CutAtlas$Net" "widths" "[I") (by decide +kernel)) (fun _ h9 => h9) rfl dX11_ask_102 ?_
                refine lv_iload_n hx hb dX11_ask_105 rfl (lv_at hl 3 rfl) ?_
                have h_12 : vp_in a1 40 := in_I (by omega) (by omega)
                refine va_iald hx hb hK.1 hP 3 0 rfl rfl (i := a1) h_12 dX11_ask_106 ?_
                refine lv_topi (fun y_13 ey_13 => ?_)
                refine lv_iload hx hb dX11_ask_107 (lv_at hl 0 rfl) ?_
                refine ct_R hP hD [] [] (by decide) rfl (fun hPc hDw => ?_)
                have hFc := va_free (wc := []) hD hS hA [] rfl
                refine va_calli (va_runV (As := [.int y_13, .int 0]) (rest := []) ⟨hx, hb, hml, hown, hts⟩ (c_X6_lets l D cy H.size k0 y_13 (0 : Int32)) (cwV 2 hts gX11_ask_X6_lets rfl rfl rfl (by decide +kernel) ⟨Nat.le_of_ble_eq_true rfl, Nat.le_of_ble_eq_true rfl⟩) ⟨bl_, va_recvX hK.1 hP (ci := 6) (q0 := 6) rfl rfl, fun U hU hW => ⟨rfl, by rw [hU], by rw [hU]; exact hPc, kk_mv hW hK, hDw⟩⟩ rfl rfl hl.1 rfl (lv_room (Nat.le_of_ble_eq_true rfl)) dX11_ask_109 ⟨Nat.le_of_ble_eq_true rfl, Nat.le_of_ble_eq_true rfl⟩) hS (fun q _ h => hFc q h) hFc (fun r_14 u t H locs ht hvm hw hB hz1 hk1 hS => ?_)
                have hP : va_P D vwCl _ H := ro_keep hP hk1
                have f0_r_14 := hw
                have hP9 := hP.sub (ws' := [(xo, .inr (11, [.ref xk, .ref xn, .ref xc, .ref xh, .ref xt, .ref xw, .ref xm, .ref xp, .int pf, .int ph, .long y_11, .int fi])), (xn, .inr (3, [.int vp, .int vn, .ref n1, .ref n2, .ref n3, .ref n4, .ref n5])), (n1, .inl (cy 0, 40, .inl fk)), (n4, .inl (cy 0, 40, .inl fw)), (n5, .inl (cy 0, 40, .inl fp)), (xk, .inl (cy 3, 5, .inr (.inr (.inr (.inr (kf_ k0 k1 k2 k3 k4)))))), (k0, .inr (6, [])), (k1, .inr (5, [])), (k2, .inr (9, [])), (k3, .inr (2, [])), (k4, .inr (8, []))]) [0, 1, 2, 3, 4, 5, 6, 7, 8, 9, 10] rfl
                have hD9 := hD.sub (ws' := [(xo, .inr (11, [.ref xk, .ref xn, .ref xc, .ref xh, .ref xt, .ref xw, .ref xm, .ref xp, .int pf, .int ph, .long y_11, .int fi])), (xn, .inr (3, [.int vp, .int vn, .ref n1, .ref n2, .ref n3, .ref n4, .ref n5])), (n1, .inl (cy 0, 40, .inl fk)), (n4, .inl (cy 0, 40, .inl fw)), (n5, .inl (cy 0, 40, .inl fp)), (xk, .inl (cy 3, 5, .inr (.inr (.inr (.inr (kf_ k0 k1 k2 k3 k4)))))), (k0, .inr (6, [])), (k1, .inr (5, [])), (k2, .inr (9, [])), (k3, .inr (2, [])), (k4, .inr (8, []))]) [0, 1, 2, 3, 4, 5, 6, 7, 8, 9, 10] (by decide +kernel) rfl
                rw [hQ]
                exact W.iret (v := r_14) hx hb hr (fun t ht hW => ⟨⟨r_14, (), rfl, trivial, y_11, by rw [ht]; exact hP9, hD9⟩, hS.F ht⟩) hS.2.2 dX11_ask_112
              · have t_9 : a2.toInt = (0 : Int32).toInt := congrArg Int32.toInt c_9
                refine lv_iconst (v := 1) hx hb dX11_ask_74 (by decide) ?_
                refine lv_goto (tgt := 79) hx hb dX11_ask_75 (by decide) ?_
                refine lv_istore (lv' := [(4, .int 1), (3, .ref k0), (0, .ref xo), (1, .int a1), (2, .int a2)]) hx hb dX11_ask_79 hl (by decide) rfl (fun ls hl => ?_)
                refine lv_aload_n hx hb dX11_ask_81 rfl (lv_at hl 2 rfl) ?_
                refine lv_dup hx hb dX11_ask_82 rfl ?_
                refine va_get (ci := 11) (v := .long tr) (C := RX11) (T := TX11) (N := 12) hx hb hts (fun _ h => List.mem_cons_of_mem _ (List.mem_append_left _ (List.mem_append_right _ h))) hown hK.1 hP 0 rfl rfl 10 (by decide) (hts (.fieldLink RX11 87 "CutAtlas" "traced" "J") (by decide +kernel)) (fun _ h9 => h9) rfl dX11_ask_83 ?_
                refine lv_aload_n hx hb dX11_ask_86 rfl (lv_at hl 1 rfl) ?_
                refine lv_iload hx hb dX11_ask_87 (lv_at hl 0 rfl) ?_
                refine ct_R hP hD [] [] (by decide) rfl (fun hPc hDw => ?_)
                have hFc := va_free (wc := []) hD hS hA [] rfl
                refine va_calli (va_runV (As := [.int 1]) (rest := [.long tr, .ref xo]) ⟨hx, hb, hml, hown, hts⟩ (c_X6_letsMark l D cy H.size k0 (1 : Int32)) (cwV 1 hts gX11_ask_X6_letsMark rfl rfl rfl (by decide +kernel) ⟨Nat.le_of_ble_eq_true rfl, Nat.le_of_ble_eq_true rfl⟩) ⟨bl_, va_recvX hK.1 hP (ci := 6) (q0 := 6) rfl rfl, fun U hU hW => ⟨rfl, by rw [hU], by rw [hU]; exact hPc, kk_mv hW hK, hDw⟩⟩ rfl rfl hl.1 rfl (lv_room (Nat.le_of_ble_eq_true rfl)) dX11_ask_89 ⟨Nat.le_of_ble_eq_true rfl, Nat.le_of_ble_eq_true rfl⟩) hS (fun q _ h => hFc q h) hFc (fun r_15 u t H locs ht hvm hw hB hz1 hk1 hS => ?_)
                have hP : va_P D vwCl _ H := ro_keep hP hk1
                refine lv_i2l (v := r_15.toInt64) hx hb dX11_ask_92 rfl ?_
                have q_92 : (r_15.toInt64).toInt = r_15.toInt := Int32.toInt_toInt64 r_15
                refine lv_ladd hx hb dX11_ask_93 ?_
                refine lv_topl (fun y_16 ey_16 => ?_)
                refine va_put (ci := 11) (v := .long y_16) (ty := .long) (C := RX11) (T := TX11) (N := 12) hx hb hts (fun _ h => List.mem_cons_of_mem _ (List.mem_append_left _ (List.mem_append_right _ h))) tyX11 tyX11_ok nmX11 hown hK.1 hP hD hS 0 rfl rfl 10 (by decide) (hts (.fieldLink RX11 87 "CutAtlas" "traced" "J") (by decide +kernel)) (fun _ h9 => h9) rfl (by decide +kernel) rfl rfl (Nat.le_of_ble_eq_true rfl) dX11_ask_94 (fun H locs hP hD hS => ?_)
                refine pd_K [(xo, .inr (11, [.ref xk, .ref xn, .ref xc, .ref xh, .ref xt, .ref xw, .ref xm, .ref xp, .int pf, .int ph, .long y_16, .int fi])), (xn, .inr (3, [.int vp, .int vn, .ref n1, .ref n2, .ref n3, .ref n4, .ref n5])), (n1, .inl (cy 0, 40, .inl fk)), (n4, .inl (cy 0, 40, .inl fw)), (n5, .inl (cy 0, 40, .inl fp)), (xk, .inl (cy 3, 5, .inr (.inr (.inr (.inr (kf_ k0 k1 k2 k3 k4)))))), (k0, .inr (6, [])), (k1, .inr (5, [])), (k2, .inr (9, [])), (k3, .inr (2, [])), (k4, .inr (8, []))] hP hD (fun hP hD => ?_)
                refine lv_aload_n hx hb dX11_ask_97 rfl (lv_at hl 1 rfl) ?_
                refine lv_aload_n hx hb dX11_ask_98 rfl (lv_at hl 2 rfl) ?_
                refine va_get (ci := 11) (v := .ref xn) (C := RX11) (T := TX11) (N := 12) hx hb hts (fun _ h => List.mem_cons_of_mem _ (List.mem_append_left _ (List.mem_append_right _ h))) hown hK.1 hP 0 rfl rfl 1 (by decide) (hts (.fieldLink RX11 31 "CutAtlas" "net" "LCutAtlas$Net;") (by decide +kernel)) (fun _ h9 => h9) rfl dX11_ask_99 ?_
                refine va_get (ci := 3) (v := .ref n4) (C := RX3) (T := TX3) (N := 7) hx hb hts (fun _ h => List.mem_cons_of_mem _ (List.mem_append_right _ h)) hown hK.1 hP 1 rfl rfl 5 (by decide) (hts (.fieldLink RX11 129 "CutAtlas$Net" "widths" "[I") (by decide +kernel)) (fun _ h9 => h9) rfl dX11_ask_102 ?_
                refine lv_iload_n hx hb dX11_ask_105 rfl (lv_at hl 3 rfl) ?_
                have h_17 : vp_in a1 40 := in_I (by omega) (by omega)
                refine va_iald hx hb hK.1 hP 3 0 rfl rfl (i := a1) h_17 dX11_ask_106 ?_
                refine lv_topi (fun y_18 ey_18 => ?_)
                refine lv_iload hx hb dX11_ask_107 (lv_at hl 0 rfl) ?_
                refine ct_R hP hD [] [] (by decide) rfl (fun hPc hDw => ?_)
                have hFc := va_free (wc := []) hD hS hA [] rfl
                refine va_calli (va_runV (As := [.int y_18, .int 1]) (rest := []) ⟨hx, hb, hml, hown, hts⟩ (c_X6_lets l D cy H.size k0 y_18 (1 : Int32)) (cwV 2 hts gX11_ask_X6_lets rfl rfl rfl (by decide +kernel) ⟨Nat.le_of_ble_eq_true rfl, Nat.le_of_ble_eq_true rfl⟩) ⟨bl_, va_recvX hK.1 hP (ci := 6) (q0 := 6) rfl rfl, fun U hU hW => ⟨rfl, by rw [hU], by rw [hU]; exact hPc, kk_mv hW hK, hDw⟩⟩ rfl rfl hl.1 rfl (lv_room (Nat.le_of_ble_eq_true rfl)) dX11_ask_109 ⟨Nat.le_of_ble_eq_true rfl, Nat.le_of_ble_eq_true rfl⟩) hS (fun q _ h => hFc q h) hFc (fun r_19 u t H locs ht hvm hw hB hz1 hk1 hS => ?_)
                have hP : va_P D vwCl _ H := ro_keep hP hk1
                have f0_r_19 := hw
                have hP9 := hP.sub (ws' := [(xo, .inr (11, [.ref xk, .ref xn, .ref xc, .ref xh, .ref xt, .ref xw, .ref xm, .ref xp, .int pf, .int ph, .long y_16, .int fi])), (xn, .inr (3, [.int vp, .int vn, .ref n1, .ref n2, .ref n3, .ref n4, .ref n5])), (n1, .inl (cy 0, 40, .inl fk)), (n4, .inl (cy 0, 40, .inl fw)), (n5, .inl (cy 0, 40, .inl fp)), (xk, .inl (cy 3, 5, .inr (.inr (.inr (.inr (kf_ k0 k1 k2 k3 k4)))))), (k0, .inr (6, [])), (k1, .inr (5, [])), (k2, .inr (9, [])), (k3, .inr (2, [])), (k4, .inr (8, []))]) [0, 1, 2, 3, 4, 5, 6, 7, 8, 9, 10] rfl
                have hD9 := hD.sub (ws' := [(xo, .inr (11, [.ref xk, .ref xn, .ref xc, .ref xh, .ref xt, .ref xw, .ref xm, .ref xp, .int pf, .int ph, .long y_16, .int fi])), (xn, .inr (3, [.int vp, .int vn, .ref n1, .ref n2, .ref n3, .ref n4, .ref n5])), (n1, .inl (cy 0, 40, .inl fk)), (n4, .inl (cy 0, 40, .inl fw)), (n5, .inl (cy 0, 40, .inl fp)), (xk, .inl (cy 3, 5, .inr (.inr (.inr (.inr (kf_ k0 k1 k2 k3 k4)))))), (k0, .inr (6, [])), (k1, .inr (5, [])), (k2, .inr (9, [])), (k3, .inr (2, [])), (k4, .inr (8, []))]) [0, 1, 2, 3, 4, 5, 6, 7, 8, 9, 10] (by decide +kernel) rfl
                rw [hQ]
                exact W.iret (v := r_19) hx hb hr (fun t ht hW => ⟨⟨r_19, (), rfl, trivial, y_16, by rw [ht]; exact hP9, hD9⟩, hS.F ht⟩) hS.2.2 dX11_ask_112
            · have t_8 : a2.toInt = (2 : Int32).toInt := congrArg Int32.toInt c_8
              refine lv_aload_n hx hb dX11_ask_42 rfl (lv_at hl 1 rfl) ?_
              refine lv_dup hx hb dX11_ask_43 rfl ?_
              refine va_get (ci := 11) (v := .long tr) (C := RX11) (T := TX11) (N := 12) hx hb hts (fun _ h => List.mem_cons_of_mem _ (List.mem_append_left _ (List.mem_append_right _ h))) hown hK.1 hP 0 rfl rfl 10 (by decide) (hts (.fieldLink RX11 87 "CutAtlas" "traced" "J") (by decide +kernel)) (fun _ h9 => h9) rfl dX11_ask_44 ?_
              refine lv_aload_n hx hb dX11_ask_47 rfl (lv_at hl 0 rfl) ?_
              refine ct_R hP hD [] [] (by decide) rfl (fun hPc hDw => ?_)
              have hFc := va_free (wc := []) hD hS hA [] rfl
              refine va_calli (va_runV (As := []) (rest := [.long tr, .ref xo]) ⟨hx, hb, hml, hown, hts⟩ (c_X6_costsMark l D cy H.size k0) (cwV 0 hts gX11_ask_X6_costsMark rfl rfl rfl (by decide +kernel) ⟨Nat.le_of_ble_eq_true rfl, Nat.le_of_ble_eq_true rfl⟩) ⟨bl_, va_recvX hK.1 hP (ci := 6) (q0 := 6) rfl rfl, fun U hU hW => ⟨rfl, by rw [hU], by rw [hU]; exact hPc, kk_mv hW hK, hDw⟩⟩ rfl rfl hl.1 rfl (lv_room (Nat.le_of_ble_eq_true rfl)) dX11_ask_48 ⟨Nat.le_of_ble_eq_true rfl, Nat.le_of_ble_eq_true rfl⟩) hS (fun q _ h => hFc q h) hFc (fun r_20 u t H locs ht hvm hw hB hz1 hk1 hS => ?_)
              have hP : va_P D vwCl _ H := ro_keep hP hk1
              refine lv_i2l (v := r_20.toInt64) hx hb dX11_ask_51 rfl ?_
              have q_51 : (r_20.toInt64).toInt = r_20.toInt := Int32.toInt_toInt64 r_20
              refine lv_ladd hx hb dX11_ask_52 ?_
              refine lv_topl (fun y_21 ey_21 => ?_)
              refine va_put (ci := 11) (v := .long y_21) (ty := .long) (C := RX11) (T := TX11) (N := 12) hx hb hts (fun _ h => List.mem_cons_of_mem _ (List.mem_append_left _ (List.mem_append_right _ h))) tyX11 tyX11_ok nmX11 hown hK.1 hP hD hS 0 rfl rfl 10 (by decide) (hts (.fieldLink RX11 87 "CutAtlas" "traced" "J") (by decide +kernel)) (fun _ h9 => h9) rfl (by decide +kernel) rfl rfl (Nat.le_of_ble_eq_true rfl) dX11_ask_53 (fun H locs hP hD hS => ?_)
              refine pd_K [(xo, .inr (11, [.ref xk, .ref xn, .ref xc, .ref xh, .ref xt, .ref xw, .ref xm, .ref xp, .int pf, .int ph, .long y_21, .int fi])), (xn, .inr (3, [.int vp, .int vn, .ref n1, .ref n2, .ref n3, .ref n4, .ref n5])), (n1, .inl (cy 0, 40, .inl fk)), (n4, .inl (cy 0, 40, .inl fw)), (n5, .inl (cy 0, 40, .inl fp)), (xk, .inl (cy 3, 5, .inr (.inr (.inr (.inr (kf_ k0 k1 k2 k3 k4)))))), (k0, .inr (6, [])), (k1, .inr (5, [])), (k2, .inr (9, [])), (k3, .inr (2, [])), (k4, .inr (8, []))] hP hD (fun hP hD => ?_)
              refine lv_aload_n hx hb dX11_ask_56 rfl (lv_at hl 0 rfl) ?_
              refine lv_aload_n hx hb dX11_ask_57 rfl (lv_at hl 1 rfl) ?_
              refine va_get (ci := 11) (v := .ref xn) (C := RX11) (T := TX11) (N := 12) hx hb hts (fun _ h => List.mem_cons_of_mem _ (List.mem_append_left _ (List.mem_append_right _ h))) hown hK.1 hP 0 rfl rfl 1 (by decide) (hts (.fieldLink RX11 31 "CutAtlas" "net" "LCutAtlas$Net;") (by decide +kernel)) (fun _ h9 => h9) rfl dX11_ask_58 ?_
              refine va_get (ci := 3) (v := .ref n5) (C := RX3) (T := TX3) (N := 7) hx hb hts (fun _ h => List.mem_cons_of_mem _ (List.mem_append_right _ h)) hown hK.1 hP 1 rfl rfl 6 (by decide) (hts (.fieldLink RX11 119 "CutAtlas$Net" "prices" "[I") (by decide +kernel)) (fun _ h9 => h9) rfl dX11_ask_61 ?_
              refine lv_iload_n hx hb dX11_ask_64 rfl (lv_at hl 2 rfl) ?_
              have h_22 : vp_in a1 40 := in_I (by omega) (by omega)
              refine va_iald hx hb hK.1 hP 4 0 rfl rfl (i := a1) h_22 dX11_ask_65 ?_
              refine lv_topi (fun y_23 ey_23 => ?_)
              refine ct_R hP hD [] [] (by decide) rfl (fun hPc hDw => ?_)
              have hFc := va_free (wc := []) hD hS hA [] rfl
              refine va_calli (va_runV (As := [.int y_23]) (rest := []) ⟨hx, hb, hml, hown, hts⟩ (c_X6_costs l D cy H.size k0 y_23) (cwV 1 hts gX11_ask_X6_costs rfl rfl rfl (by decide +kernel) ⟨Nat.le_of_ble_eq_true rfl, Nat.le_of_ble_eq_true rfl⟩) ⟨bl_, va_recvX hK.1 hP (ci := 6) (q0 := 6) rfl rfl, fun U hU hW => ⟨rfl, by rw [hU], by rw [hU]; exact hPc, kk_mv hW hK, hDw⟩⟩ rfl rfl hl.1 rfl (lv_room (Nat.le_of_ble_eq_true rfl)) dX11_ask_66 ⟨Nat.le_of_ble_eq_true rfl, Nat.le_of_ble_eq_true rfl⟩) hS (fun q _ h => hFc q h) hFc (fun r_24 u t H locs ht hvm hw hB hz1 hk1 hS => ?_)
              have hP : va_P D vwCl _ H := ro_keep hP hk1
              have f0_r_24 := hw
              have hP9 := hP.sub (ws' := [(xo, .inr (11, [.ref xk, .ref xn, .ref xc, .ref xh, .ref xt, .ref xw, .ref xm, .ref xp, .int pf, .int ph, .long y_21, .int fi])), (xn, .inr (3, [.int vp, .int vn, .ref n1, .ref n2, .ref n3, .ref n4, .ref n5])), (n1, .inl (cy 0, 40, .inl fk)), (n4, .inl (cy 0, 40, .inl fw)), (n5, .inl (cy 0, 40, .inl fp)), (xk, .inl (cy 3, 5, .inr (.inr (.inr (.inr (kf_ k0 k1 k2 k3 k4)))))), (k0, .inr (6, [])), (k1, .inr (5, [])), (k2, .inr (9, [])), (k3, .inr (2, [])), (k4, .inr (8, []))]) [0, 1, 2, 3, 4, 5, 6, 7, 8, 9, 10] rfl
              have hD9 := hD.sub (ws' := [(xo, .inr (11, [.ref xk, .ref xn, .ref xc, .ref xh, .ref xt, .ref xw, .ref xm, .ref xp, .int pf, .int ph, .long y_21, .int fi])), (xn, .inr (3, [.int vp, .int vn, .ref n1, .ref n2, .ref n3, .ref n4, .ref n5])), (n1, .inl (cy 0, 40, .inl fk)), (n4, .inl (cy 0, 40, .inl fw)), (n5, .inl (cy 0, 40, .inl fp)), (xk, .inl (cy 3, 5, .inr (.inr (.inr (.inr (kf_ k0 k1 k2 k3 k4)))))), (k0, .inr (6, [])), (k1, .inr (5, [])), (k2, .inr (9, [])), (k3, .inr (2, [])), (k4, .inr (8, []))]) [0, 1, 2, 3, 4, 5, 6, 7, 8, 9, 10] (by decide +kernel) rfl
              rw [hQ]
              exact W.iret (v := r_24) hx hb hr (fun t ht hW => ⟨⟨r_24, (), rfl, trivial, y_21, by rw [ht]; exact hP9, hD9⟩, hS.F ht⟩) hS.2.2 dX11_ask_69
          · refine va_aldq hx hb hK.1 hP 5 3 rfl rfl (i := 1) (by unfold vp_in; decide) dX11_ask_35 ?_
            refine lv_topv (v' := .ref k1) (by simp [va_up, va_rf, mf_, cl_0, cl_1, cl_2, cl_3, cl_4, kf_]) ?_
            refine lv_astore_n (lv' := [(3, .ref k1), (0, .ref xo), (1, .int a1), (2, .int a2)]) hx hb dX11_ask_36 rfl hl (by decide) rfl (fun ls hl => ?_)
            refine lv_iload_n hx hb dX11_ask_37 rfl (lv_at hl 3 rfl) ?_
            refine lv_iconst (v := 2) hx hb dX11_ask_38 (by decide) ?_
            refine lv_icmp_ne (tgt := 70) hx hb dX11_ask_39 (by decide) (fun c_25 => ?_) (fun c_25 => ?_)
            · have t_25 : ¬ a2.toInt = (2 : Int32).toInt := fun h => c_25 (Int32.toInt_inj.mp h)
              refine lv_iload_n hx hb dX11_ask_70 rfl (lv_at hl 3 rfl) ?_
              refine lv_if_ne (tgt := 78) hx hb dX11_ask_71 (by decide) (fun c_26 => ?_) (fun c_26 => ?_)
              · have t_26 : ¬ a2.toInt = (0 : Int32).toInt := fun h => c_26 (Int32.toInt_inj.mp h)
                refine lv_iconst (v := 0) hx hb dX11_ask_78 (by decide) ?_
                refine lv_istore (lv' := [(4, .int 0), (3, .ref k1), (0, .ref xo), (1, .int a1), (2, .int a2)]) hx hb dX11_ask_79 hl (by decide) rfl (fun ls hl => ?_)
                refine lv_aload_n hx hb dX11_ask_81 rfl (lv_at hl 2 rfl) ?_
                refine lv_dup hx hb dX11_ask_82 rfl ?_
                refine va_get (ci := 11) (v := .long tr) (C := RX11) (T := TX11) (N := 12) hx hb hts (fun _ h => List.mem_cons_of_mem _ (List.mem_append_left _ (List.mem_append_right _ h))) hown hK.1 hP 0 rfl rfl 10 (by decide) (hts (.fieldLink RX11 87 "CutAtlas" "traced" "J") (by decide +kernel)) (fun _ h9 => h9) rfl dX11_ask_83 ?_
                refine lv_aload_n hx hb dX11_ask_86 rfl (lv_at hl 1 rfl) ?_
                refine lv_iload hx hb dX11_ask_87 (lv_at hl 0 rfl) ?_
                refine ct_R hP hD [(k1, .inr (5, []))] [7] (by decide) rfl (fun hPc hDw => ?_)
                have hFc := va_free (wc := []) hD hS hA [] rfl
                refine va_calli (va_runU (As := [.int 0]) (rest := [.long tr, .ref xo]) ⟨hx, hb, hml, hown, hts⟩ (c_X5_letsMark l D cy H.size k1 (0 : Int32)) (va_cwO 1 hts gX11_ask_X5_letsMark_u161X5 rfl rfl rfl (b0 := cX6_letsMark) (m0 := 2) (r0 := (some .int)) (by decide +kernel) (by decide +kernel) ⟨Nat.le_of_ble_eq_true rfl, Nat.le_of_ble_eq_true rfl⟩) ⟨bl_, va_recvX hK.1 hP (ci := 5) (q0 := 7) rfl rfl, fun U hU hW => ⟨rfl, by rw [hU], by rw [hU]; exact hPc, kk_mv hW hK, hDw⟩⟩ rfl rfl hl.1 rfl (lv_room (Nat.le_of_ble_eq_true rfl)) dX11_ask_89 ⟨Nat.le_of_ble_eq_true rfl, Nat.le_of_ble_eq_true rfl⟩) hS (fun q _ h => hFc q h) hFc (fun r_27 u t H locs ht hvm hw hB hz1 hk1 hS => ?_)
                have hP : va_P D vwCl _ H := ro_keep hP hk1
                refine lv_i2l (v := r_27.toInt64) hx hb dX11_ask_92 rfl ?_
                have q_92 : (r_27.toInt64).toInt = r_27.toInt := Int32.toInt_toInt64 r_27
                refine lv_ladd hx hb dX11_ask_93 ?_
                refine lv_topl (fun y_28 ey_28 => ?_)
                refine va_put (ci := 11) (v := .long y_28) (ty := .long) (C := RX11) (T := TX11) (N := 12) hx hb hts (fun _ h => List.mem_cons_of_mem _ (List.mem_append_left _ (List.mem_append_right _ h))) tyX11 tyX11_ok nmX11 hown hK.1 hP hD hS 0 rfl rfl 10 (by decide) (hts (.fieldLink RX11 87 "CutAtlas" "traced" "J") (by decide +kernel)) (fun _ h9 => h9) rfl (by decide +kernel) rfl rfl (Nat.le_of_ble_eq_true rfl) dX11_ask_94 (fun H locs hP hD hS => ?_)
                refine pd_K [(xo, .inr (11, [.ref xk, .ref xn, .ref xc, .ref xh, .ref xt, .ref xw, .ref xm, .ref xp, .int pf, .int ph, .long y_28, .int fi])), (xn, .inr (3, [.int vp, .int vn, .ref n1, .ref n2, .ref n3, .ref n4, .ref n5])), (n1, .inl (cy 0, 40, .inl fk)), (n4, .inl (cy 0, 40, .inl fw)), (n5, .inl (cy 0, 40, .inl fp)), (xk, .inl (cy 3, 5, .inr (.inr (.inr (.inr (kf_ k0 k1 k2 k3 k4)))))), (k0, .inr (6, [])), (k1, .inr (5, [])), (k2, .inr (9, [])), (k3, .inr (2, [])), (k4, .inr (8, []))] hP hD (fun hP hD => ?_)
                refine lv_aload_n hx hb dX11_ask_97 rfl (lv_at hl 1 rfl) ?_
                refine lv_aload_n hx hb dX11_ask_98 rfl (lv_at hl 2 rfl) ?_
                refine va_get (ci := 11) (v := .ref xn) (C := RX11) (T := TX11) (N := 12) hx hb hts (fun _ h => List.mem_cons_of_mem _ (List.mem_append_left _ (List.mem_append_right _ h))) hown hK.1 hP 0 rfl rfl 1 (by decide) (hts (.fieldLink RX11 31 "CutAtlas" "net" "LCutAtlas$Net;") (by decide +kernel)) (fun _ h9 => h9) rfl dX11_ask_99 ?_
                refine va_get (ci := 3) (v := .ref n4) (C := RX3) (T := TX3) (N := 7) hx hb hts (fun _ h => List.mem_cons_of_mem _ (List.mem_append_right _ h)) hown hK.1 hP 1 rfl rfl 5 (by decide) (hts (.fieldLink RX11 129 "CutAtlas$Net" "widths" "[I") (by decide +kernel)) (fun _ h9 => h9) rfl dX11_ask_102 ?_
                refine lv_iload_n hx hb dX11_ask_105 rfl (lv_at hl 3 rfl) ?_
                have h_29 : vp_in a1 40 := in_I (by omega) (by omega)
                refine va_iald hx hb hK.1 hP 3 0 rfl rfl (i := a1) h_29 dX11_ask_106 ?_
                refine lv_topi (fun y_30 ey_30 => ?_)
                refine lv_iload hx hb dX11_ask_107 (lv_at hl 0 rfl) ?_
                refine ct_R hP hD [(k1, .inr (5, []))] [7] (by decide) rfl (fun hPc hDw => ?_)
                have hFc := va_free (wc := []) hD hS hA [] rfl
                refine va_calli (va_runU (As := [.int y_30, .int 0]) (rest := []) ⟨hx, hb, hml, hown, hts⟩ (c_X5_lets l D cy H.size k1 y_30 (0 : Int32)) (va_cwO 2 hts gX11_ask_X5_lets_u165X5 rfl rfl rfl (b0 := cX6_lets) (m0 := 3) (r0 := (some .int)) (by decide +kernel) (by decide +kernel) ⟨Nat.le_of_ble_eq_true rfl, Nat.le_of_ble_eq_true rfl⟩) ⟨bl_, va_recvX hK.1 hP (ci := 5) (q0 := 7) rfl rfl, fun U hU hW => ⟨rfl, by rw [hU], by rw [hU]; exact hPc, kk_mv hW hK, hDw⟩⟩ rfl rfl hl.1 rfl (lv_room (Nat.le_of_ble_eq_true rfl)) dX11_ask_109 ⟨Nat.le_of_ble_eq_true rfl, Nat.le_of_ble_eq_true rfl⟩) hS (fun q _ h => hFc q h) hFc (fun r_31 u t H locs ht hvm hw hB hz1 hk1 hS => ?_)
                have hP : va_P D vwCl _ H := ro_keep hP hk1
                have hP9 := hP.sub (ws' := [(xo, .inr (11, [.ref xk, .ref xn, .ref xc, .ref xh, .ref xt, .ref xw, .ref xm, .ref xp, .int pf, .int ph, .long y_28, .int fi])), (xn, .inr (3, [.int vp, .int vn, .ref n1, .ref n2, .ref n3, .ref n4, .ref n5])), (n1, .inl (cy 0, 40, .inl fk)), (n4, .inl (cy 0, 40, .inl fw)), (n5, .inl (cy 0, 40, .inl fp)), (xk, .inl (cy 3, 5, .inr (.inr (.inr (.inr (kf_ k0 k1 k2 k3 k4)))))), (k0, .inr (6, [])), (k1, .inr (5, [])), (k2, .inr (9, [])), (k3, .inr (2, [])), (k4, .inr (8, []))]) [0, 1, 2, 3, 4, 5, 6, 7, 8, 9, 10] rfl
                have hD9 := hD.sub (ws' := [(xo, .inr (11, [.ref xk, .ref xn, .ref xc, .ref xh, .ref xt, .ref xw, .ref xm, .ref xp, .int pf, .int ph, .long y_28, .int fi])), (xn, .inr (3, [.int vp, .int vn, .ref n1, .ref n2, .ref n3, .ref n4, .ref n5])), (n1, .inl (cy 0, 40, .inl fk)), (n4, .inl (cy 0, 40, .inl fw)), (n5, .inl (cy 0, 40, .inl fp)), (xk, .inl (cy 3, 5, .inr (.inr (.inr (.inr (kf_ k0 k1 k2 k3 k4)))))), (k0, .inr (6, [])), (k1, .inr (5, [])), (k2, .inr (9, [])), (k3, .inr (2, [])), (k4, .inr (8, []))]) [0, 1, 2, 3, 4, 5, 6, 7, 8, 9, 10] (by decide +kernel) rfl
                rw [hQ]
                exact W.iret (v := r_31) hx hb hr (fun t ht hW => ⟨⟨r_31, (), rfl, trivial, y_28, by rw [ht]; exact hP9, hD9⟩, hS.F ht⟩) hS.2.2 dX11_ask_112
              · have t_26 : a2.toInt = (0 : Int32).toInt := congrArg Int32.toInt c_26
                refine lv_iconst (v := 1) hx hb dX11_ask_74 (by decide) ?_
                refine lv_goto (tgt := 79) hx hb dX11_ask_75 (by decide) ?_
                refine lv_istore (lv' := [(4, .int 1), (3, .ref k1), (0, .ref xo), (1, .int a1), (2, .int a2)]) hx hb dX11_ask_79 hl (by decide) rfl (fun ls hl => ?_)
                refine lv_aload_n hx hb dX11_ask_81 rfl (lv_at hl 2 rfl) ?_
                refine lv_dup hx hb dX11_ask_82 rfl ?_
                refine va_get (ci := 11) (v := .long tr) (C := RX11) (T := TX11) (N := 12) hx hb hts (fun _ h => List.mem_cons_of_mem _ (List.mem_append_left _ (List.mem_append_right _ h))) hown hK.1 hP 0 rfl rfl 10 (by decide) (hts (.fieldLink RX11 87 "CutAtlas" "traced" "J") (by decide +kernel)) (fun _ h9 => h9) rfl dX11_ask_83 ?_
                refine lv_aload_n hx hb dX11_ask_86 rfl (lv_at hl 1 rfl) ?_
                refine lv_iload hx hb dX11_ask_87 (lv_at hl 0 rfl) ?_
                refine ct_R hP hD [(k1, .inr (5, []))] [7] (by decide) rfl (fun hPc hDw => ?_)
                have hFc := va_free (wc := []) hD hS hA [] rfl
                refine va_calli (va_runU (As := [.int 1]) (rest := [.long tr, .ref xo]) ⟨hx, hb, hml, hown, hts⟩ (c_X5_letsMark l D cy H.size k1 (1 : Int32)) (va_cwO 1 hts gX11_ask_X5_letsMark_u161X5 rfl rfl rfl (b0 := cX6_letsMark) (m0 := 2) (r0 := (some .int)) (by decide +kernel) (by decide +kernel) ⟨Nat.le_of_ble_eq_true rfl, Nat.le_of_ble_eq_true rfl⟩) ⟨bl_, va_recvX hK.1 hP (ci := 5) (q0 := 7) rfl rfl, fun U hU hW => ⟨rfl, by rw [hU], by rw [hU]; exact hPc, kk_mv hW hK, hDw⟩⟩ rfl rfl hl.1 rfl (lv_room (Nat.le_of_ble_eq_true rfl)) dX11_ask_89 ⟨Nat.le_of_ble_eq_true rfl, Nat.le_of_ble_eq_true rfl⟩) hS (fun q _ h => hFc q h) hFc (fun r_32 u t H locs ht hvm hw hB hz1 hk1 hS => ?_)
                have hP : va_P D vwCl _ H := ro_keep hP hk1
                refine lv_i2l (v := r_32.toInt64) hx hb dX11_ask_92 rfl ?_
                have q_92 : (r_32.toInt64).toInt = r_32.toInt := Int32.toInt_toInt64 r_32
                refine lv_ladd hx hb dX11_ask_93 ?_
                refine lv_topl (fun y_33 ey_33 => ?_)
                refine va_put (ci := 11) (v := .long y_33) (ty := .long) (C := RX11) (T := TX11) (N := 12) hx hb hts (fun _ h => List.mem_cons_of_mem _ (List.mem_append_left _ (List.mem_append_right _ h))) tyX11 tyX11_ok nmX11 hown hK.1 hP hD hS 0 rfl rfl 10 (by decide) (hts (.fieldLink RX11 87 "CutAtlas" "traced" "J") (by decide +kernel)) (fun _ h9 => h9) rfl (by decide +kernel) rfl rfl (Nat.le_of_ble_eq_true rfl) dX11_ask_94 (fun H locs hP hD hS => ?_)
                refine pd_K [(xo, .inr (11, [.ref xk, .ref xn, .ref xc, .ref xh, .ref xt, .ref xw, .ref xm, .ref xp, .int pf, .int ph, .long y_33, .int fi])), (xn, .inr (3, [.int vp, .int vn, .ref n1, .ref n2, .ref n3, .ref n4, .ref n5])), (n1, .inl (cy 0, 40, .inl fk)), (n4, .inl (cy 0, 40, .inl fw)), (n5, .inl (cy 0, 40, .inl fp)), (xk, .inl (cy 3, 5, .inr (.inr (.inr (.inr (kf_ k0 k1 k2 k3 k4)))))), (k0, .inr (6, [])), (k1, .inr (5, [])), (k2, .inr (9, [])), (k3, .inr (2, [])), (k4, .inr (8, []))] hP hD (fun hP hD => ?_)
                refine lv_aload_n hx hb dX11_ask_97 rfl (lv_at hl 1 rfl) ?_
                refine lv_aload_n hx hb dX11_ask_98 rfl (lv_at hl 2 rfl) ?_
                refine va_get (ci := 11) (v := .ref xn) (C := RX11) (T := TX11) (N := 12) hx hb hts (fun _ h => List.mem_cons_of_mem _ (List.mem_append_left _ (List.mem_append_right _ h))) hown hK.1 hP 0 rfl rfl 1 (by decide) (hts (.fieldLink RX11 31 "CutAtlas" "net" "LCutAtlas$Net;") (by decide +kernel)) (fun _ h9 => h9) rfl dX11_ask_99 ?_
                refine va_get (ci := 3) (v := .ref n4) (C := RX3) (T := TX3) (N := 7) hx hb hts (fun _ h => List.mem_cons_of_mem _ (List.mem_append_right _ h)) hown hK.1 hP 1 rfl rfl 5 (by decide) (hts (.fieldLink RX11 129 "CutAtlas$Net" "widths" "[I") (by decide +kernel)) (fun _ h9 => h9) rfl dX11_ask_102 ?_
                refine lv_iload_n hx hb dX11_ask_105 rfl (lv_at hl 3 rfl) ?_
                have h_34 : vp_in a1 40 := in_I (by omega) (by omega)
                refine va_iald hx hb hK.1 hP 3 0 rfl rfl (i := a1) h_34 dX11_ask_106 ?_
                refine lv_topi (fun y_35 ey_35 => ?_)
                refine lv_iload hx hb dX11_ask_107 (lv_at hl 0 rfl) ?_
                refine ct_R hP hD [(k1, .inr (5, []))] [7] (by decide) rfl (fun hPc hDw => ?_)
                have hFc := va_free (wc := []) hD hS hA [] rfl
                refine va_calli (va_runU (As := [.int y_35, .int 1]) (rest := []) ⟨hx, hb, hml, hown, hts⟩ (c_X5_lets l D cy H.size k1 y_35 (1 : Int32)) (va_cwO 2 hts gX11_ask_X5_lets_u165X5 rfl rfl rfl (b0 := cX6_lets) (m0 := 3) (r0 := (some .int)) (by decide +kernel) (by decide +kernel) ⟨Nat.le_of_ble_eq_true rfl, Nat.le_of_ble_eq_true rfl⟩) ⟨bl_, va_recvX hK.1 hP (ci := 5) (q0 := 7) rfl rfl, fun U hU hW => ⟨rfl, by rw [hU], by rw [hU]; exact hPc, kk_mv hW hK, hDw⟩⟩ rfl rfl hl.1 rfl (lv_room (Nat.le_of_ble_eq_true rfl)) dX11_ask_109 ⟨Nat.le_of_ble_eq_true rfl, Nat.le_of_ble_eq_true rfl⟩) hS (fun q _ h => hFc q h) hFc (fun r_36 u t H locs ht hvm hw hB hz1 hk1 hS => ?_)
                have hP : va_P D vwCl _ H := ro_keep hP hk1
                have hP9 := hP.sub (ws' := [(xo, .inr (11, [.ref xk, .ref xn, .ref xc, .ref xh, .ref xt, .ref xw, .ref xm, .ref xp, .int pf, .int ph, .long y_33, .int fi])), (xn, .inr (3, [.int vp, .int vn, .ref n1, .ref n2, .ref n3, .ref n4, .ref n5])), (n1, .inl (cy 0, 40, .inl fk)), (n4, .inl (cy 0, 40, .inl fw)), (n5, .inl (cy 0, 40, .inl fp)), (xk, .inl (cy 3, 5, .inr (.inr (.inr (.inr (kf_ k0 k1 k2 k3 k4)))))), (k0, .inr (6, [])), (k1, .inr (5, [])), (k2, .inr (9, [])), (k3, .inr (2, [])), (k4, .inr (8, []))]) [0, 1, 2, 3, 4, 5, 6, 7, 8, 9, 10] rfl
                have hD9 := hD.sub (ws' := [(xo, .inr (11, [.ref xk, .ref xn, .ref xc, .ref xh, .ref xt, .ref xw, .ref xm, .ref xp, .int pf, .int ph, .long y_33, .int fi])), (xn, .inr (3, [.int vp, .int vn, .ref n1, .ref n2, .ref n3, .ref n4, .ref n5])), (n1, .inl (cy 0, 40, .inl fk)), (n4, .inl (cy 0, 40, .inl fw)), (n5, .inl (cy 0, 40, .inl fp)), (xk, .inl (cy 3, 5, .inr (.inr (.inr (.inr (kf_ k0 k1 k2 k3 k4)))))), (k0, .inr (6, [])), (k1, .inr (5, [])), (k2, .inr (9, [])), (k3, .inr (2, [])), (k4, .inr (8, []))]) [0, 1, 2, 3, 4, 5, 6, 7, 8, 9, 10] (by decide +kernel) rfl
                rw [hQ]
                exact W.iret (v := r_36) hx hb hr (fun t ht hW => ⟨⟨r_36, (), rfl, trivial, y_33, by rw [ht]; exact hP9, hD9⟩, hS.F ht⟩) hS.2.2 dX11_ask_112
            · have t_25 : a2.toInt = (2 : Int32).toInt := congrArg Int32.toInt c_25
              refine lv_aload_n hx hb dX11_ask_42 rfl (lv_at hl 1 rfl) ?_
              refine lv_dup hx hb dX11_ask_43 rfl ?_
              refine va_get (ci := 11) (v := .long tr) (C := RX11) (T := TX11) (N := 12) hx hb hts (fun _ h => List.mem_cons_of_mem _ (List.mem_append_left _ (List.mem_append_right _ h))) hown hK.1 hP 0 rfl rfl 10 (by decide) (hts (.fieldLink RX11 87 "CutAtlas" "traced" "J") (by decide +kernel)) (fun _ h9 => h9) rfl dX11_ask_44 ?_
              refine lv_aload_n hx hb dX11_ask_47 rfl (lv_at hl 0 rfl) ?_
              refine ct_R hP hD [] [] (by decide) rfl (fun hPc hDw => ?_)
              have hFc := va_free (wc := []) hD hS hA [] rfl
              refine va_calli (va_runU (As := []) (rest := [.long tr, .ref xo]) ⟨hx, hb, hml, hown, hts⟩ (c_X6_costsMark l D cy H.size k1) (va_cwU 0 hts gX11_ask_X6_costsMark_u132X5 rfl rfl rfl rfl (by decide +kernel) ⟨Nat.le_of_ble_eq_true rfl, Nat.le_of_ble_eq_true rfl⟩) ⟨bl_, va_recvX hK.1 hP (ci := 5) (q0 := 7) rfl rfl, fun U hU hW => ⟨rfl, by rw [hU], by rw [hU]; exact hPc, kk_mv hW hK, hDw⟩⟩ rfl rfl hl.1 rfl (lv_room (Nat.le_of_ble_eq_true rfl)) dX11_ask_48 ⟨Nat.le_of_ble_eq_true rfl, Nat.le_of_ble_eq_true rfl⟩) hS (fun q _ h => hFc q h) hFc (fun r_37 u t H locs ht hvm hw hB hz1 hk1 hS => ?_)
              have hP : va_P D vwCl _ H := ro_keep hP hk1
              refine lv_i2l (v := r_37.toInt64) hx hb dX11_ask_51 rfl ?_
              have q_51 : (r_37.toInt64).toInt = r_37.toInt := Int32.toInt_toInt64 r_37
              refine lv_ladd hx hb dX11_ask_52 ?_
              refine lv_topl (fun y_38 ey_38 => ?_)
              refine va_put (ci := 11) (v := .long y_38) (ty := .long) (C := RX11) (T := TX11) (N := 12) hx hb hts (fun _ h => List.mem_cons_of_mem _ (List.mem_append_left _ (List.mem_append_right _ h))) tyX11 tyX11_ok nmX11 hown hK.1 hP hD hS 0 rfl rfl 10 (by decide) (hts (.fieldLink RX11 87 "CutAtlas" "traced" "J") (by decide +kernel)) (fun _ h9 => h9) rfl (by decide +kernel) rfl rfl (Nat.le_of_ble_eq_true rfl) dX11_ask_53 (fun H locs hP hD hS => ?_)
              refine pd_K [(xo, .inr (11, [.ref xk, .ref xn, .ref xc, .ref xh, .ref xt, .ref xw, .ref xm, .ref xp, .int pf, .int ph, .long y_38, .int fi])), (xn, .inr (3, [.int vp, .int vn, .ref n1, .ref n2, .ref n3, .ref n4, .ref n5])), (n1, .inl (cy 0, 40, .inl fk)), (n4, .inl (cy 0, 40, .inl fw)), (n5, .inl (cy 0, 40, .inl fp)), (xk, .inl (cy 3, 5, .inr (.inr (.inr (.inr (kf_ k0 k1 k2 k3 k4)))))), (k0, .inr (6, [])), (k1, .inr (5, [])), (k2, .inr (9, [])), (k3, .inr (2, [])), (k4, .inr (8, []))] hP hD (fun hP hD => ?_)
              refine lv_aload_n hx hb dX11_ask_56 rfl (lv_at hl 0 rfl) ?_
              refine lv_aload_n hx hb dX11_ask_57 rfl (lv_at hl 1 rfl) ?_
              refine va_get (ci := 11) (v := .ref xn) (C := RX11) (T := TX11) (N := 12) hx hb hts (fun _ h => List.mem_cons_of_mem _ (List.mem_append_left _ (List.mem_append_right _ h))) hown hK.1 hP 0 rfl rfl 1 (by decide) (hts (.fieldLink RX11 31 "CutAtlas" "net" "LCutAtlas$Net;") (by decide +kernel)) (fun _ h9 => h9) rfl dX11_ask_58 ?_
              refine va_get (ci := 3) (v := .ref n5) (C := RX3) (T := TX3) (N := 7) hx hb hts (fun _ h => List.mem_cons_of_mem _ (List.mem_append_right _ h)) hown hK.1 hP 1 rfl rfl 6 (by decide) (hts (.fieldLink RX11 119 "CutAtlas$Net" "prices" "[I") (by decide +kernel)) (fun _ h9 => h9) rfl dX11_ask_61 ?_
              refine lv_iload_n hx hb dX11_ask_64 rfl (lv_at hl 2 rfl) ?_
              have h_39 : vp_in a1 40 := in_I (by omega) (by omega)
              refine va_iald hx hb hK.1 hP 4 0 rfl rfl (i := a1) h_39 dX11_ask_65 ?_
              refine lv_topi (fun y_40 ey_40 => ?_)
              refine ct_R hP hD [] [] (by decide) rfl (fun hPc hDw => ?_)
              have hFc := va_free (wc := []) hD hS hA [] rfl
              refine va_calli (va_runU (As := [.int y_40]) (rest := []) ⟨hx, hb, hml, hown, hts⟩ (c_X6_costs l D cy H.size k1 y_40) (va_cwU 1 hts gX11_ask_X6_costs_u122X5 rfl rfl rfl rfl (by decide +kernel) ⟨Nat.le_of_ble_eq_true rfl, Nat.le_of_ble_eq_true rfl⟩) ⟨bl_, va_recvX hK.1 hP (ci := 5) (q0 := 7) rfl rfl, fun U hU hW => ⟨rfl, by rw [hU], by rw [hU]; exact hPc, kk_mv hW hK, hDw⟩⟩ rfl rfl hl.1 rfl (lv_room (Nat.le_of_ble_eq_true rfl)) dX11_ask_66 ⟨Nat.le_of_ble_eq_true rfl, Nat.le_of_ble_eq_true rfl⟩) hS (fun q _ h => hFc q h) hFc (fun r_41 u t H locs ht hvm hw hB hz1 hk1 hS => ?_)
              have hP : va_P D vwCl _ H := ro_keep hP hk1
              have f0_r_41 := hw
              have hP9 := hP.sub (ws' := [(xo, .inr (11, [.ref xk, .ref xn, .ref xc, .ref xh, .ref xt, .ref xw, .ref xm, .ref xp, .int pf, .int ph, .long y_38, .int fi])), (xn, .inr (3, [.int vp, .int vn, .ref n1, .ref n2, .ref n3, .ref n4, .ref n5])), (n1, .inl (cy 0, 40, .inl fk)), (n4, .inl (cy 0, 40, .inl fw)), (n5, .inl (cy 0, 40, .inl fp)), (xk, .inl (cy 3, 5, .inr (.inr (.inr (.inr (kf_ k0 k1 k2 k3 k4)))))), (k0, .inr (6, [])), (k1, .inr (5, [])), (k2, .inr (9, [])), (k3, .inr (2, [])), (k4, .inr (8, []))]) [0, 1, 2, 3, 4, 5, 6, 7, 8, 9, 10] rfl
              have hD9 := hD.sub (ws' := [(xo, .inr (11, [.ref xk, .ref xn, .ref xc, .ref xh, .ref xt, .ref xw, .ref xm, .ref xp, .int pf, .int ph, .long y_38, .int fi])), (xn, .inr (3, [.int vp, .int vn, .ref n1, .ref n2, .ref n3, .ref n4, .ref n5])), (n1, .inl (cy 0, 40, .inl fk)), (n4, .inl (cy 0, 40, .inl fw)), (n5, .inl (cy 0, 40, .inl fp)), (xk, .inl (cy 3, 5, .inr (.inr (.inr (.inr (kf_ k0 k1 k2 k3 k4)))))), (k0, .inr (6, [])), (k1, .inr (5, [])), (k2, .inr (9, [])), (k3, .inr (2, [])), (k4, .inr (8, []))]) [0, 1, 2, 3, 4, 5, 6, 7, 8, 9, 10] (by decide +kernel) rfl
              rw [hQ]
              exact W.iret (v := r_41) hx hb hr (fun t ht hW => ⟨⟨r_41, (), rfl, trivial, y_38, by rw [ht]; exact hP9, hD9⟩, hS.F ht⟩) hS.2.2 dX11_ask_69
          · refine va_aldq hx hb hK.1 hP 5 3 rfl rfl (i := 2) (by unfold vp_in; decide) dX11_ask_35 ?_
            refine lv_topv (v' := .ref k2) (by simp [va_up, va_rf, mf_, cl_0, cl_1, cl_2, cl_3, cl_4, kf_]) ?_
            refine lv_astore_n (lv' := [(3, .ref k2), (0, .ref xo), (1, .int a1), (2, .int a2)]) hx hb dX11_ask_36 rfl hl (by decide) rfl (fun ls hl => ?_)
            refine lv_iload_n hx hb dX11_ask_37 rfl (lv_at hl 3 rfl) ?_
            refine lv_iconst (v := 2) hx hb dX11_ask_38 (by decide) ?_
            refine lv_icmp_ne (tgt := 70) hx hb dX11_ask_39 (by decide) (fun c_42 => ?_) (fun c_42 => ?_)
            · have t_42 : ¬ a2.toInt = (2 : Int32).toInt := fun h => c_42 (Int32.toInt_inj.mp h)
              refine lv_iload_n hx hb dX11_ask_70 rfl (lv_at hl 3 rfl) ?_
              refine lv_if_ne (tgt := 78) hx hb dX11_ask_71 (by decide) (fun c_43 => ?_) (fun c_43 => ?_)
              · have t_43 : ¬ a2.toInt = (0 : Int32).toInt := fun h => c_43 (Int32.toInt_inj.mp h)
                refine lv_iconst (v := 0) hx hb dX11_ask_78 (by decide) ?_
                refine lv_istore (lv' := [(4, .int 0), (3, .ref k2), (0, .ref xo), (1, .int a1), (2, .int a2)]) hx hb dX11_ask_79 hl (by decide) rfl (fun ls hl => ?_)
                refine lv_aload_n hx hb dX11_ask_81 rfl (lv_at hl 2 rfl) ?_
                refine lv_dup hx hb dX11_ask_82 rfl ?_
                refine va_get (ci := 11) (v := .long tr) (C := RX11) (T := TX11) (N := 12) hx hb hts (fun _ h => List.mem_cons_of_mem _ (List.mem_append_left _ (List.mem_append_right _ h))) hown hK.1 hP 0 rfl rfl 10 (by decide) (hts (.fieldLink RX11 87 "CutAtlas" "traced" "J") (by decide +kernel)) (fun _ h9 => h9) rfl dX11_ask_83 ?_
                refine lv_aload_n hx hb dX11_ask_86 rfl (lv_at hl 1 rfl) ?_
                refine lv_iload hx hb dX11_ask_87 (lv_at hl 0 rfl) ?_
                refine ct_R hP hD [] [] (by decide) rfl (fun hPc hDw => ?_)
                have hFc := va_free (wc := []) hD hS hA [] rfl
                refine va_calli (va_runU (As := [.int 0]) (rest := [.long tr, .ref xo]) ⟨hx, hb, hml, hown, hts⟩ (c_X9_letsMark l D cy H.size k2 (0 : Int32)) (va_cwO 1 hts gX11_ask_X9_letsMark_u161X9 rfl rfl rfl (b0 := cX6_letsMark) (m0 := 2) (r0 := (some .int)) (by decide +kernel) (by decide +kernel) ⟨Nat.le_of_ble_eq_true rfl, Nat.le_of_ble_eq_true rfl⟩) ⟨bl_, va_recvX hK.1 hP (ci := 9) (q0 := 8) rfl rfl, fun U hU hW => ⟨rfl, by rw [hU], by rw [hU]; exact hPc, kk_mv hW hK, hDw⟩⟩ rfl rfl hl.1 rfl (lv_room (Nat.le_of_ble_eq_true rfl)) dX11_ask_89 ⟨Nat.le_of_ble_eq_true rfl, Nat.le_of_ble_eq_true rfl⟩) hS (fun q _ h => hFc q h) hFc (fun r_44 u t H locs ht hvm hw hB hz1 hk1 hS => ?_)
                have hP : va_P D vwCl _ H := ro_keep hP hk1
                refine lv_i2l (v := r_44.toInt64) hx hb dX11_ask_92 rfl ?_
                have q_92 : (r_44.toInt64).toInt = r_44.toInt := Int32.toInt_toInt64 r_44
                refine lv_ladd hx hb dX11_ask_93 ?_
                refine lv_topl (fun y_45 ey_45 => ?_)
                refine va_put (ci := 11) (v := .long y_45) (ty := .long) (C := RX11) (T := TX11) (N := 12) hx hb hts (fun _ h => List.mem_cons_of_mem _ (List.mem_append_left _ (List.mem_append_right _ h))) tyX11 tyX11_ok nmX11 hown hK.1 hP hD hS 0 rfl rfl 10 (by decide) (hts (.fieldLink RX11 87 "CutAtlas" "traced" "J") (by decide +kernel)) (fun _ h9 => h9) rfl (by decide +kernel) rfl rfl (Nat.le_of_ble_eq_true rfl) dX11_ask_94 (fun H locs hP hD hS => ?_)
                refine pd_K [(xo, .inr (11, [.ref xk, .ref xn, .ref xc, .ref xh, .ref xt, .ref xw, .ref xm, .ref xp, .int pf, .int ph, .long y_45, .int fi])), (xn, .inr (3, [.int vp, .int vn, .ref n1, .ref n2, .ref n3, .ref n4, .ref n5])), (n1, .inl (cy 0, 40, .inl fk)), (n4, .inl (cy 0, 40, .inl fw)), (n5, .inl (cy 0, 40, .inl fp)), (xk, .inl (cy 3, 5, .inr (.inr (.inr (.inr (kf_ k0 k1 k2 k3 k4)))))), (k0, .inr (6, [])), (k1, .inr (5, [])), (k2, .inr (9, [])), (k3, .inr (2, [])), (k4, .inr (8, []))] hP hD (fun hP hD => ?_)
                refine lv_aload_n hx hb dX11_ask_97 rfl (lv_at hl 1 rfl) ?_
                refine lv_aload_n hx hb dX11_ask_98 rfl (lv_at hl 2 rfl) ?_
                refine va_get (ci := 11) (v := .ref xn) (C := RX11) (T := TX11) (N := 12) hx hb hts (fun _ h => List.mem_cons_of_mem _ (List.mem_append_left _ (List.mem_append_right _ h))) hown hK.1 hP 0 rfl rfl 1 (by decide) (hts (.fieldLink RX11 31 "CutAtlas" "net" "LCutAtlas$Net;") (by decide +kernel)) (fun _ h9 => h9) rfl dX11_ask_99 ?_
                refine va_get (ci := 3) (v := .ref n4) (C := RX3) (T := TX3) (N := 7) hx hb hts (fun _ h => List.mem_cons_of_mem _ (List.mem_append_right _ h)) hown hK.1 hP 1 rfl rfl 5 (by decide) (hts (.fieldLink RX11 129 "CutAtlas$Net" "widths" "[I") (by decide +kernel)) (fun _ h9 => h9) rfl dX11_ask_102 ?_
                refine lv_iload_n hx hb dX11_ask_105 rfl (lv_at hl 3 rfl) ?_
                have h_46 : vp_in a1 40 := in_I (by omega) (by omega)
                refine va_iald hx hb hK.1 hP 3 0 rfl rfl (i := a1) h_46 dX11_ask_106 ?_
                refine lv_topi (fun y_47 ey_47 => ?_)
                refine lv_iload hx hb dX11_ask_107 (lv_at hl 0 rfl) ?_
                refine ct_R hP hD [] [] (by decide) rfl (fun hPc hDw => ?_)
                have hFc := va_free (wc := []) hD hS hA [] rfl
                refine va_calli (va_runU (As := [.int y_47, .int 0]) (rest := []) ⟨hx, hb, hml, hown, hts⟩ (c_X9_lets l D cy H.size k2 y_47 (0 : Int32)) (va_cwO 2 hts gX11_ask_X9_lets_u165X9 rfl rfl rfl (b0 := cX6_lets) (m0 := 3) (r0 := (some .int)) (by decide +kernel) (by decide +kernel) ⟨Nat.le_of_ble_eq_true rfl, Nat.le_of_ble_eq_true rfl⟩) ⟨bl_, va_recvX hK.1 hP (ci := 9) (q0 := 8) rfl rfl, fun U hU hW => ⟨rfl, by rw [hU], by rw [hU]; exact hPc, kk_mv hW hK, hDw⟩⟩ rfl rfl hl.1 rfl (lv_room (Nat.le_of_ble_eq_true rfl)) dX11_ask_109 ⟨Nat.le_of_ble_eq_true rfl, Nat.le_of_ble_eq_true rfl⟩) hS (fun q _ h => hFc q h) hFc (fun r_48 u t H locs ht hvm hw hB hz1 hk1 hS => ?_)
                have hP : va_P D vwCl _ H := ro_keep hP hk1
                have hP9 := hP.sub (ws' := [(xo, .inr (11, [.ref xk, .ref xn, .ref xc, .ref xh, .ref xt, .ref xw, .ref xm, .ref xp, .int pf, .int ph, .long y_45, .int fi])), (xn, .inr (3, [.int vp, .int vn, .ref n1, .ref n2, .ref n3, .ref n4, .ref n5])), (n1, .inl (cy 0, 40, .inl fk)), (n4, .inl (cy 0, 40, .inl fw)), (n5, .inl (cy 0, 40, .inl fp)), (xk, .inl (cy 3, 5, .inr (.inr (.inr (.inr (kf_ k0 k1 k2 k3 k4)))))), (k0, .inr (6, [])), (k1, .inr (5, [])), (k2, .inr (9, [])), (k3, .inr (2, [])), (k4, .inr (8, []))]) [0, 1, 2, 3, 4, 5, 6, 7, 8, 9, 10] rfl
                have hD9 := hD.sub (ws' := [(xo, .inr (11, [.ref xk, .ref xn, .ref xc, .ref xh, .ref xt, .ref xw, .ref xm, .ref xp, .int pf, .int ph, .long y_45, .int fi])), (xn, .inr (3, [.int vp, .int vn, .ref n1, .ref n2, .ref n3, .ref n4, .ref n5])), (n1, .inl (cy 0, 40, .inl fk)), (n4, .inl (cy 0, 40, .inl fw)), (n5, .inl (cy 0, 40, .inl fp)), (xk, .inl (cy 3, 5, .inr (.inr (.inr (.inr (kf_ k0 k1 k2 k3 k4)))))), (k0, .inr (6, [])), (k1, .inr (5, [])), (k2, .inr (9, [])), (k3, .inr (2, [])), (k4, .inr (8, []))]) [0, 1, 2, 3, 4, 5, 6, 7, 8, 9, 10] (by decide +kernel) rfl
                rw [hQ]
                exact W.iret (v := r_48) hx hb hr (fun t ht hW => ⟨⟨r_48, (), rfl, trivial, y_45, by rw [ht]; exact hP9, hD9⟩, hS.F ht⟩) hS.2.2 dX11_ask_112
              · have t_43 : a2.toInt = (0 : Int32).toInt := congrArg Int32.toInt c_43
                refine lv_iconst (v := 1) hx hb dX11_ask_74 (by decide) ?_
                refine lv_goto (tgt := 79) hx hb dX11_ask_75 (by decide) ?_
                refine lv_istore (lv' := [(4, .int 1), (3, .ref k2), (0, .ref xo), (1, .int a1), (2, .int a2)]) hx hb dX11_ask_79 hl (by decide) rfl (fun ls hl => ?_)
                refine lv_aload_n hx hb dX11_ask_81 rfl (lv_at hl 2 rfl) ?_
                refine lv_dup hx hb dX11_ask_82 rfl ?_
                refine va_get (ci := 11) (v := .long tr) (C := RX11) (T := TX11) (N := 12) hx hb hts (fun _ h => List.mem_cons_of_mem _ (List.mem_append_left _ (List.mem_append_right _ h))) hown hK.1 hP 0 rfl rfl 10 (by decide) (hts (.fieldLink RX11 87 "CutAtlas" "traced" "J") (by decide +kernel)) (fun _ h9 => h9) rfl dX11_ask_83 ?_
                refine lv_aload_n hx hb dX11_ask_86 rfl (lv_at hl 1 rfl) ?_
                refine lv_iload hx hb dX11_ask_87 (lv_at hl 0 rfl) ?_
                refine ct_R hP hD [] [] (by decide) rfl (fun hPc hDw => ?_)
                have hFc := va_free (wc := []) hD hS hA [] rfl
                refine va_calli (va_runU (As := [.int 1]) (rest := [.long tr, .ref xo]) ⟨hx, hb, hml, hown, hts⟩ (c_X9_letsMark l D cy H.size k2 (1 : Int32)) (va_cwO 1 hts gX11_ask_X9_letsMark_u161X9 rfl rfl rfl (b0 := cX6_letsMark) (m0 := 2) (r0 := (some .int)) (by decide +kernel) (by decide +kernel) ⟨Nat.le_of_ble_eq_true rfl, Nat.le_of_ble_eq_true rfl⟩) ⟨bl_, va_recvX hK.1 hP (ci := 9) (q0 := 8) rfl rfl, fun U hU hW => ⟨rfl, by rw [hU], by rw [hU]; exact hPc, kk_mv hW hK, hDw⟩⟩ rfl rfl hl.1 rfl (lv_room (Nat.le_of_ble_eq_true rfl)) dX11_ask_89 ⟨Nat.le_of_ble_eq_true rfl, Nat.le_of_ble_eq_true rfl⟩) hS (fun q _ h => hFc q h) hFc (fun r_49 u t H locs ht hvm hw hB hz1 hk1 hS => ?_)
                have hP : va_P D vwCl _ H := ro_keep hP hk1
                refine lv_i2l (v := r_49.toInt64) hx hb dX11_ask_92 rfl ?_
                have q_92 : (r_49.toInt64).toInt = r_49.toInt := Int32.toInt_toInt64 r_49
                refine lv_ladd hx hb dX11_ask_93 ?_
                refine lv_topl (fun y_50 ey_50 => ?_)
                refine va_put (ci := 11) (v := .long y_50) (ty := .long) (C := RX11) (T := TX11) (N := 12) hx hb hts (fun _ h => List.mem_cons_of_mem _ (List.mem_append_left _ (List.mem_append_right _ h))) tyX11 tyX11_ok nmX11 hown hK.1 hP hD hS 0 rfl rfl 10 (by decide) (hts (.fieldLink RX11 87 "CutAtlas" "traced" "J") (by decide +kernel)) (fun _ h9 => h9) rfl (by decide +kernel) rfl rfl (Nat.le_of_ble_eq_true rfl) dX11_ask_94 (fun H locs hP hD hS => ?_)
                refine pd_K [(xo, .inr (11, [.ref xk, .ref xn, .ref xc, .ref xh, .ref xt, .ref xw, .ref xm, .ref xp, .int pf, .int ph, .long y_50, .int fi])), (xn, .inr (3, [.int vp, .int vn, .ref n1, .ref n2, .ref n3, .ref n4, .ref n5])), (n1, .inl (cy 0, 40, .inl fk)), (n4, .inl (cy 0, 40, .inl fw)), (n5, .inl (cy 0, 40, .inl fp)), (xk, .inl (cy 3, 5, .inr (.inr (.inr (.inr (kf_ k0 k1 k2 k3 k4)))))), (k0, .inr (6, [])), (k1, .inr (5, [])), (k2, .inr (9, [])), (k3, .inr (2, [])), (k4, .inr (8, []))] hP hD (fun hP hD => ?_)
                refine lv_aload_n hx hb dX11_ask_97 rfl (lv_at hl 1 rfl) ?_
                refine lv_aload_n hx hb dX11_ask_98 rfl (lv_at hl 2 rfl) ?_
                refine va_get (ci := 11) (v := .ref xn) (C := RX11) (T := TX11) (N := 12) hx hb hts (fun _ h => List.mem_cons_of_mem _ (List.mem_append_left _ (List.mem_append_right _ h))) hown hK.1 hP 0 rfl rfl 1 (by decide) (hts (.fieldLink RX11 31 "CutAtlas" "net" "LCutAtlas$Net;") (by decide +kernel)) (fun _ h9 => h9) rfl dX11_ask_99 ?_
                refine va_get (ci := 3) (v := .ref n4) (C := RX3) (T := TX3) (N := 7) hx hb hts (fun _ h => List.mem_cons_of_mem _ (List.mem_append_right _ h)) hown hK.1 hP 1 rfl rfl 5 (by decide) (hts (.fieldLink RX11 129 "CutAtlas$Net" "widths" "[I") (by decide +kernel)) (fun _ h9 => h9) rfl dX11_ask_102 ?_
                refine lv_iload_n hx hb dX11_ask_105 rfl (lv_at hl 3 rfl) ?_
                have h_51 : vp_in a1 40 := in_I (by omega) (by omega)
                refine va_iald hx hb hK.1 hP 3 0 rfl rfl (i := a1) h_51 dX11_ask_106 ?_
                refine lv_topi (fun y_52 ey_52 => ?_)
                refine lv_iload hx hb dX11_ask_107 (lv_at hl 0 rfl) ?_
                refine ct_R hP hD [] [] (by decide) rfl (fun hPc hDw => ?_)
                have hFc := va_free (wc := []) hD hS hA [] rfl
                refine va_calli (va_runU (As := [.int y_52, .int 1]) (rest := []) ⟨hx, hb, hml, hown, hts⟩ (c_X9_lets l D cy H.size k2 y_52 (1 : Int32)) (va_cwO 2 hts gX11_ask_X9_lets_u165X9 rfl rfl rfl (b0 := cX6_lets) (m0 := 3) (r0 := (some .int)) (by decide +kernel) (by decide +kernel) ⟨Nat.le_of_ble_eq_true rfl, Nat.le_of_ble_eq_true rfl⟩) ⟨bl_, va_recvX hK.1 hP (ci := 9) (q0 := 8) rfl rfl, fun U hU hW => ⟨rfl, by rw [hU], by rw [hU]; exact hPc, kk_mv hW hK, hDw⟩⟩ rfl rfl hl.1 rfl (lv_room (Nat.le_of_ble_eq_true rfl)) dX11_ask_109 ⟨Nat.le_of_ble_eq_true rfl, Nat.le_of_ble_eq_true rfl⟩) hS (fun q _ h => hFc q h) hFc (fun r_53 u t H locs ht hvm hw hB hz1 hk1 hS => ?_)
                have hP : va_P D vwCl _ H := ro_keep hP hk1
                have hP9 := hP.sub (ws' := [(xo, .inr (11, [.ref xk, .ref xn, .ref xc, .ref xh, .ref xt, .ref xw, .ref xm, .ref xp, .int pf, .int ph, .long y_50, .int fi])), (xn, .inr (3, [.int vp, .int vn, .ref n1, .ref n2, .ref n3, .ref n4, .ref n5])), (n1, .inl (cy 0, 40, .inl fk)), (n4, .inl (cy 0, 40, .inl fw)), (n5, .inl (cy 0, 40, .inl fp)), (xk, .inl (cy 3, 5, .inr (.inr (.inr (.inr (kf_ k0 k1 k2 k3 k4)))))), (k0, .inr (6, [])), (k1, .inr (5, [])), (k2, .inr (9, [])), (k3, .inr (2, [])), (k4, .inr (8, []))]) [0, 1, 2, 3, 4, 5, 6, 7, 8, 9, 10] rfl
                have hD9 := hD.sub (ws' := [(xo, .inr (11, [.ref xk, .ref xn, .ref xc, .ref xh, .ref xt, .ref xw, .ref xm, .ref xp, .int pf, .int ph, .long y_50, .int fi])), (xn, .inr (3, [.int vp, .int vn, .ref n1, .ref n2, .ref n3, .ref n4, .ref n5])), (n1, .inl (cy 0, 40, .inl fk)), (n4, .inl (cy 0, 40, .inl fw)), (n5, .inl (cy 0, 40, .inl fp)), (xk, .inl (cy 3, 5, .inr (.inr (.inr (.inr (kf_ k0 k1 k2 k3 k4)))))), (k0, .inr (6, [])), (k1, .inr (5, [])), (k2, .inr (9, [])), (k3, .inr (2, [])), (k4, .inr (8, []))]) [0, 1, 2, 3, 4, 5, 6, 7, 8, 9, 10] (by decide +kernel) rfl
                rw [hQ]
                exact W.iret (v := r_53) hx hb hr (fun t ht hW => ⟨⟨r_53, (), rfl, trivial, y_50, by rw [ht]; exact hP9, hD9⟩, hS.F ht⟩) hS.2.2 dX11_ask_112
            · have t_42 : a2.toInt = (2 : Int32).toInt := congrArg Int32.toInt c_42
              refine lv_aload_n hx hb dX11_ask_42 rfl (lv_at hl 1 rfl) ?_
              refine lv_dup hx hb dX11_ask_43 rfl ?_
              refine va_get (ci := 11) (v := .long tr) (C := RX11) (T := TX11) (N := 12) hx hb hts (fun _ h => List.mem_cons_of_mem _ (List.mem_append_left _ (List.mem_append_right _ h))) hown hK.1 hP 0 rfl rfl 10 (by decide) (hts (.fieldLink RX11 87 "CutAtlas" "traced" "J") (by decide +kernel)) (fun _ h9 => h9) rfl dX11_ask_44 ?_
              refine lv_aload_n hx hb dX11_ask_47 rfl (lv_at hl 0 rfl) ?_
              refine ct_R hP hD [] [] (by decide) rfl (fun hPc hDw => ?_)
              have hFc := va_free (wc := []) hD hS hA [] rfl
              refine va_calli (va_runU (As := []) (rest := [.long tr, .ref xo]) ⟨hx, hb, hml, hown, hts⟩ (c_X6_costsMark l D cy H.size k2) (va_cwU 0 hts gX11_ask_X6_costsMark_u132X9 rfl rfl rfl rfl (by decide +kernel) ⟨Nat.le_of_ble_eq_true rfl, Nat.le_of_ble_eq_true rfl⟩) ⟨bl_, va_recvX hK.1 hP (ci := 9) (q0 := 8) rfl rfl, fun U hU hW => ⟨rfl, by rw [hU], by rw [hU]; exact hPc, kk_mv hW hK, hDw⟩⟩ rfl rfl hl.1 rfl (lv_room (Nat.le_of_ble_eq_true rfl)) dX11_ask_48 ⟨Nat.le_of_ble_eq_true rfl, Nat.le_of_ble_eq_true rfl⟩) hS (fun q _ h => hFc q h) hFc (fun r_54 u t H locs ht hvm hw hB hz1 hk1 hS => ?_)
              have hP : va_P D vwCl _ H := ro_keep hP hk1
              refine lv_i2l (v := r_54.toInt64) hx hb dX11_ask_51 rfl ?_
              have q_51 : (r_54.toInt64).toInt = r_54.toInt := Int32.toInt_toInt64 r_54
              refine lv_ladd hx hb dX11_ask_52 ?_
              refine lv_topl (fun y_55 ey_55 => ?_)
              refine va_put (ci := 11) (v := .long y_55) (ty := .long) (C := RX11) (T := TX11) (N := 12) hx hb hts (fun _ h => List.mem_cons_of_mem _ (List.mem_append_left _ (List.mem_append_right _ h))) tyX11 tyX11_ok nmX11 hown hK.1 hP hD hS 0 rfl rfl 10 (by decide) (hts (.fieldLink RX11 87 "CutAtlas" "traced" "J") (by decide +kernel)) (fun _ h9 => h9) rfl (by decide +kernel) rfl rfl (Nat.le_of_ble_eq_true rfl) dX11_ask_53 (fun H locs hP hD hS => ?_)
              refine pd_K [(xo, .inr (11, [.ref xk, .ref xn, .ref xc, .ref xh, .ref xt, .ref xw, .ref xm, .ref xp, .int pf, .int ph, .long y_55, .int fi])), (xn, .inr (3, [.int vp, .int vn, .ref n1, .ref n2, .ref n3, .ref n4, .ref n5])), (n1, .inl (cy 0, 40, .inl fk)), (n4, .inl (cy 0, 40, .inl fw)), (n5, .inl (cy 0, 40, .inl fp)), (xk, .inl (cy 3, 5, .inr (.inr (.inr (.inr (kf_ k0 k1 k2 k3 k4)))))), (k0, .inr (6, [])), (k1, .inr (5, [])), (k2, .inr (9, [])), (k3, .inr (2, [])), (k4, .inr (8, []))] hP hD (fun hP hD => ?_)
              refine lv_aload_n hx hb dX11_ask_56 rfl (lv_at hl 0 rfl) ?_
              refine lv_aload_n hx hb dX11_ask_57 rfl (lv_at hl 1 rfl) ?_
              refine va_get (ci := 11) (v := .ref xn) (C := RX11) (T := TX11) (N := 12) hx hb hts (fun _ h => List.mem_cons_of_mem _ (List.mem_append_left _ (List.mem_append_right _ h))) hown hK.1 hP 0 rfl rfl 1 (by decide) (hts (.fieldLink RX11 31 "CutAtlas" "net" "LCutAtlas$Net;") (by decide +kernel)) (fun _ h9 => h9) rfl dX11_ask_58 ?_
              refine va_get (ci := 3) (v := .ref n5) (C := RX3) (T := TX3) (N := 7) hx hb hts (fun _ h => List.mem_cons_of_mem _ (List.mem_append_right _ h)) hown hK.1 hP 1 rfl rfl 6 (by decide) (hts (.fieldLink RX11 119 "CutAtlas$Net" "prices" "[I") (by decide +kernel)) (fun _ h9 => h9) rfl dX11_ask_61 ?_
              refine lv_iload_n hx hb dX11_ask_64 rfl (lv_at hl 2 rfl) ?_
              have h_56 : vp_in a1 40 := in_I (by omega) (by omega)
              refine va_iald hx hb hK.1 hP 4 0 rfl rfl (i := a1) h_56 dX11_ask_65 ?_
              refine lv_topi (fun y_57 ey_57 => ?_)
              refine ct_R hP hD [] [] (by decide) rfl (fun hPc hDw => ?_)
              have hFc := va_free (wc := []) hD hS hA [] rfl
              refine va_calli (va_runU (As := [.int y_57]) (rest := []) ⟨hx, hb, hml, hown, hts⟩ (c_X6_costs l D cy H.size k2 y_57) (va_cwU 1 hts gX11_ask_X6_costs_u122X9 rfl rfl rfl rfl (by decide +kernel) ⟨Nat.le_of_ble_eq_true rfl, Nat.le_of_ble_eq_true rfl⟩) ⟨bl_, va_recvX hK.1 hP (ci := 9) (q0 := 8) rfl rfl, fun U hU hW => ⟨rfl, by rw [hU], by rw [hU]; exact hPc, kk_mv hW hK, hDw⟩⟩ rfl rfl hl.1 rfl (lv_room (Nat.le_of_ble_eq_true rfl)) dX11_ask_66 ⟨Nat.le_of_ble_eq_true rfl, Nat.le_of_ble_eq_true rfl⟩) hS (fun q _ h => hFc q h) hFc (fun r_58 u t H locs ht hvm hw hB hz1 hk1 hS => ?_)
              have hP : va_P D vwCl _ H := ro_keep hP hk1
              have f0_r_58 := hw
              have hP9 := hP.sub (ws' := [(xo, .inr (11, [.ref xk, .ref xn, .ref xc, .ref xh, .ref xt, .ref xw, .ref xm, .ref xp, .int pf, .int ph, .long y_55, .int fi])), (xn, .inr (3, [.int vp, .int vn, .ref n1, .ref n2, .ref n3, .ref n4, .ref n5])), (n1, .inl (cy 0, 40, .inl fk)), (n4, .inl (cy 0, 40, .inl fw)), (n5, .inl (cy 0, 40, .inl fp)), (xk, .inl (cy 3, 5, .inr (.inr (.inr (.inr (kf_ k0 k1 k2 k3 k4)))))), (k0, .inr (6, [])), (k1, .inr (5, [])), (k2, .inr (9, [])), (k3, .inr (2, [])), (k4, .inr (8, []))]) [0, 1, 2, 3, 4, 5, 6, 7, 8, 9, 10] rfl
              have hD9 := hD.sub (ws' := [(xo, .inr (11, [.ref xk, .ref xn, .ref xc, .ref xh, .ref xt, .ref xw, .ref xm, .ref xp, .int pf, .int ph, .long y_55, .int fi])), (xn, .inr (3, [.int vp, .int vn, .ref n1, .ref n2, .ref n3, .ref n4, .ref n5])), (n1, .inl (cy 0, 40, .inl fk)), (n4, .inl (cy 0, 40, .inl fw)), (n5, .inl (cy 0, 40, .inl fp)), (xk, .inl (cy 3, 5, .inr (.inr (.inr (.inr (kf_ k0 k1 k2 k3 k4)))))), (k0, .inr (6, [])), (k1, .inr (5, [])), (k2, .inr (9, [])), (k3, .inr (2, [])), (k4, .inr (8, []))]) [0, 1, 2, 3, 4, 5, 6, 7, 8, 9, 10] (by decide +kernel) rfl
              rw [hQ]
              exact W.iret (v := r_58) hx hb hr (fun t ht hW => ⟨⟨r_58, (), rfl, trivial, y_55, by rw [ht]; exact hP9, hD9⟩, hS.F ht⟩) hS.2.2 dX11_ask_69
          · refine va_aldq hx hb hK.1 hP 5 3 rfl rfl (i := 3) (by unfold vp_in; decide) dX11_ask_35 ?_
            refine lv_topv (v' := .ref k3) (by simp [va_up, va_rf, mf_, cl_0, cl_1, cl_2, cl_3, cl_4, kf_]) ?_
            refine lv_astore_n (lv' := [(3, .ref k3), (0, .ref xo), (1, .int a1), (2, .int a2)]) hx hb dX11_ask_36 rfl hl (by decide) rfl (fun ls hl => ?_)
            refine lv_iload_n hx hb dX11_ask_37 rfl (lv_at hl 3 rfl) ?_
            refine lv_iconst (v := 2) hx hb dX11_ask_38 (by decide) ?_
            refine lv_icmp_ne (tgt := 70) hx hb dX11_ask_39 (by decide) (fun c_59 => ?_) (fun c_59 => ?_)
            · have t_59 : ¬ a2.toInt = (2 : Int32).toInt := fun h => c_59 (Int32.toInt_inj.mp h)
              refine lv_iload_n hx hb dX11_ask_70 rfl (lv_at hl 3 rfl) ?_
              refine lv_if_ne (tgt := 78) hx hb dX11_ask_71 (by decide) (fun c_60 => ?_) (fun c_60 => ?_)
              · have t_60 : ¬ a2.toInt = (0 : Int32).toInt := fun h => c_60 (Int32.toInt_inj.mp h)
                refine lv_iconst (v := 0) hx hb dX11_ask_78 (by decide) ?_
                refine lv_istore (lv' := [(4, .int 0), (3, .ref k3), (0, .ref xo), (1, .int a1), (2, .int a2)]) hx hb dX11_ask_79 hl (by decide) rfl (fun ls hl => ?_)
                refine lv_aload_n hx hb dX11_ask_81 rfl (lv_at hl 2 rfl) ?_
                refine lv_dup hx hb dX11_ask_82 rfl ?_
                refine va_get (ci := 11) (v := .long tr) (C := RX11) (T := TX11) (N := 12) hx hb hts (fun _ h => List.mem_cons_of_mem _ (List.mem_append_left _ (List.mem_append_right _ h))) hown hK.1 hP 0 rfl rfl 10 (by decide) (hts (.fieldLink RX11 87 "CutAtlas" "traced" "J") (by decide +kernel)) (fun _ h9 => h9) rfl dX11_ask_83 ?_
                refine lv_aload_n hx hb dX11_ask_86 rfl (lv_at hl 1 rfl) ?_
                refine lv_iload hx hb dX11_ask_87 (lv_at hl 0 rfl) ?_
                refine ct_R hP hD [] [] (by decide) rfl (fun hPc hDw => ?_)
                have hFc := va_free (wc := []) hD hS hA [] rfl
                refine va_calli (va_runU (As := [.int 0]) (rest := [.long tr, .ref xo]) ⟨hx, hb, hml, hown, hts⟩ (c_X6_letsMark l D cy H.size k3 (0 : Int32)) (va_cwU 1 hts gX11_ask_X6_letsMark_u161X2 rfl rfl rfl rfl (by decide +kernel) ⟨Nat.le_of_ble_eq_true rfl, Nat.le_of_ble_eq_true rfl⟩) ⟨bl_, va_recvX hK.1 hP (ci := 2) (q0 := 9) rfl rfl, fun U hU hW => ⟨rfl, by rw [hU], by rw [hU]; exact hPc, kk_mv hW hK, hDw⟩⟩ rfl rfl hl.1 rfl (lv_room (Nat.le_of_ble_eq_true rfl)) dX11_ask_89 ⟨Nat.le_of_ble_eq_true rfl, Nat.le_of_ble_eq_true rfl⟩) hS (fun q _ h => hFc q h) hFc (fun r_61 u t H locs ht hvm hw hB hz1 hk1 hS => ?_)
                have hP : va_P D vwCl _ H := ro_keep hP hk1
                refine lv_i2l (v := r_61.toInt64) hx hb dX11_ask_92 rfl ?_
                have q_92 : (r_61.toInt64).toInt = r_61.toInt := Int32.toInt_toInt64 r_61
                refine lv_ladd hx hb dX11_ask_93 ?_
                refine lv_topl (fun y_62 ey_62 => ?_)
                refine va_put (ci := 11) (v := .long y_62) (ty := .long) (C := RX11) (T := TX11) (N := 12) hx hb hts (fun _ h => List.mem_cons_of_mem _ (List.mem_append_left _ (List.mem_append_right _ h))) tyX11 tyX11_ok nmX11 hown hK.1 hP hD hS 0 rfl rfl 10 (by decide) (hts (.fieldLink RX11 87 "CutAtlas" "traced" "J") (by decide +kernel)) (fun _ h9 => h9) rfl (by decide +kernel) rfl rfl (Nat.le_of_ble_eq_true rfl) dX11_ask_94 (fun H locs hP hD hS => ?_)
                refine pd_K [(xo, .inr (11, [.ref xk, .ref xn, .ref xc, .ref xh, .ref xt, .ref xw, .ref xm, .ref xp, .int pf, .int ph, .long y_62, .int fi])), (xn, .inr (3, [.int vp, .int vn, .ref n1, .ref n2, .ref n3, .ref n4, .ref n5])), (n1, .inl (cy 0, 40, .inl fk)), (n4, .inl (cy 0, 40, .inl fw)), (n5, .inl (cy 0, 40, .inl fp)), (xk, .inl (cy 3, 5, .inr (.inr (.inr (.inr (kf_ k0 k1 k2 k3 k4)))))), (k0, .inr (6, [])), (k1, .inr (5, [])), (k2, .inr (9, [])), (k3, .inr (2, [])), (k4, .inr (8, []))] hP hD (fun hP hD => ?_)
                refine lv_aload_n hx hb dX11_ask_97 rfl (lv_at hl 1 rfl) ?_
                refine lv_aload_n hx hb dX11_ask_98 rfl (lv_at hl 2 rfl) ?_
                refine va_get (ci := 11) (v := .ref xn) (C := RX11) (T := TX11) (N := 12) hx hb hts (fun _ h => List.mem_cons_of_mem _ (List.mem_append_left _ (List.mem_append_right _ h))) hown hK.1 hP 0 rfl rfl 1 (by decide) (hts (.fieldLink RX11 31 "CutAtlas" "net" "LCutAtlas$Net;") (by decide +kernel)) (fun _ h9 => h9) rfl dX11_ask_99 ?_
                refine va_get (ci := 3) (v := .ref n4) (C := RX3) (T := TX3) (N := 7) hx hb hts (fun _ h => List.mem_cons_of_mem _ (List.mem_append_right _ h)) hown hK.1 hP 1 rfl rfl 5 (by decide) (hts (.fieldLink RX11 129 "CutAtlas$Net" "widths" "[I") (by decide +kernel)) (fun _ h9 => h9) rfl dX11_ask_102 ?_
                refine lv_iload_n hx hb dX11_ask_105 rfl (lv_at hl 3 rfl) ?_
                have h_63 : vp_in a1 40 := in_I (by omega) (by omega)
                refine va_iald hx hb hK.1 hP 3 0 rfl rfl (i := a1) h_63 dX11_ask_106 ?_
                refine lv_topi (fun y_64 ey_64 => ?_)
                refine lv_iload hx hb dX11_ask_107 (lv_at hl 0 rfl) ?_
                refine ct_R hP hD [] [] (by decide) rfl (fun hPc hDw => ?_)
                have hFc := va_free (wc := []) hD hS hA [] rfl
                refine va_calli (va_runU (As := [.int y_64, .int 0]) (rest := []) ⟨hx, hb, hml, hown, hts⟩ (c_X6_lets l D cy H.size k3 y_64 (0 : Int32)) (va_cwU 2 hts gX11_ask_X6_lets_u165X2 rfl rfl rfl rfl (by decide +kernel) ⟨Nat.le_of_ble_eq_true rfl, Nat.le_of_ble_eq_true rfl⟩) ⟨bl_, va_recvX hK.1 hP (ci := 2) (q0 := 9) rfl rfl, fun U hU hW => ⟨rfl, by rw [hU], by rw [hU]; exact hPc, kk_mv hW hK, hDw⟩⟩ rfl rfl hl.1 rfl (lv_room (Nat.le_of_ble_eq_true rfl)) dX11_ask_109 ⟨Nat.le_of_ble_eq_true rfl, Nat.le_of_ble_eq_true rfl⟩) hS (fun q _ h => hFc q h) hFc (fun r_65 u t H locs ht hvm hw hB hz1 hk1 hS => ?_)
                have hP : va_P D vwCl _ H := ro_keep hP hk1
                have f0_r_65 := hw
                have hP9 := hP.sub (ws' := [(xo, .inr (11, [.ref xk, .ref xn, .ref xc, .ref xh, .ref xt, .ref xw, .ref xm, .ref xp, .int pf, .int ph, .long y_62, .int fi])), (xn, .inr (3, [.int vp, .int vn, .ref n1, .ref n2, .ref n3, .ref n4, .ref n5])), (n1, .inl (cy 0, 40, .inl fk)), (n4, .inl (cy 0, 40, .inl fw)), (n5, .inl (cy 0, 40, .inl fp)), (xk, .inl (cy 3, 5, .inr (.inr (.inr (.inr (kf_ k0 k1 k2 k3 k4)))))), (k0, .inr (6, [])), (k1, .inr (5, [])), (k2, .inr (9, [])), (k3, .inr (2, [])), (k4, .inr (8, []))]) [0, 1, 2, 3, 4, 5, 6, 7, 8, 9, 10] rfl
                have hD9 := hD.sub (ws' := [(xo, .inr (11, [.ref xk, .ref xn, .ref xc, .ref xh, .ref xt, .ref xw, .ref xm, .ref xp, .int pf, .int ph, .long y_62, .int fi])), (xn, .inr (3, [.int vp, .int vn, .ref n1, .ref n2, .ref n3, .ref n4, .ref n5])), (n1, .inl (cy 0, 40, .inl fk)), (n4, .inl (cy 0, 40, .inl fw)), (n5, .inl (cy 0, 40, .inl fp)), (xk, .inl (cy 3, 5, .inr (.inr (.inr (.inr (kf_ k0 k1 k2 k3 k4)))))), (k0, .inr (6, [])), (k1, .inr (5, [])), (k2, .inr (9, [])), (k3, .inr (2, [])), (k4, .inr (8, []))]) [0, 1, 2, 3, 4, 5, 6, 7, 8, 9, 10] (by decide +kernel) rfl
                rw [hQ]
                exact W.iret (v := r_65) hx hb hr (fun t ht hW => ⟨⟨r_65, (), rfl, trivial, y_62, by rw [ht]; exact hP9, hD9⟩, hS.F ht⟩) hS.2.2 dX11_ask_112
              · have t_60 : a2.toInt = (0 : Int32).toInt := congrArg Int32.toInt c_60
                refine lv_iconst (v := 1) hx hb dX11_ask_74 (by decide) ?_
                refine lv_goto (tgt := 79) hx hb dX11_ask_75 (by decide) ?_
                refine lv_istore (lv' := [(4, .int 1), (3, .ref k3), (0, .ref xo), (1, .int a1), (2, .int a2)]) hx hb dX11_ask_79 hl (by decide) rfl (fun ls hl => ?_)
                refine lv_aload_n hx hb dX11_ask_81 rfl (lv_at hl 2 rfl) ?_
                refine lv_dup hx hb dX11_ask_82 rfl ?_
                refine va_get (ci := 11) (v := .long tr) (C := RX11) (T := TX11) (N := 12) hx hb hts (fun _ h => List.mem_cons_of_mem _ (List.mem_append_left _ (List.mem_append_right _ h))) hown hK.1 hP 0 rfl rfl 10 (by decide) (hts (.fieldLink RX11 87 "CutAtlas" "traced" "J") (by decide +kernel)) (fun _ h9 => h9) rfl dX11_ask_83 ?_
                refine lv_aload_n hx hb dX11_ask_86 rfl (lv_at hl 1 rfl) ?_
                refine lv_iload hx hb dX11_ask_87 (lv_at hl 0 rfl) ?_
                refine ct_R hP hD [] [] (by decide) rfl (fun hPc hDw => ?_)
                have hFc := va_free (wc := []) hD hS hA [] rfl
                refine va_calli (va_runU (As := [.int 1]) (rest := [.long tr, .ref xo]) ⟨hx, hb, hml, hown, hts⟩ (c_X6_letsMark l D cy H.size k3 (1 : Int32)) (va_cwU 1 hts gX11_ask_X6_letsMark_u161X2 rfl rfl rfl rfl (by decide +kernel) ⟨Nat.le_of_ble_eq_true rfl, Nat.le_of_ble_eq_true rfl⟩) ⟨bl_, va_recvX hK.1 hP (ci := 2) (q0 := 9) rfl rfl, fun U hU hW => ⟨rfl, by rw [hU], by rw [hU]; exact hPc, kk_mv hW hK, hDw⟩⟩ rfl rfl hl.1 rfl (lv_room (Nat.le_of_ble_eq_true rfl)) dX11_ask_89 ⟨Nat.le_of_ble_eq_true rfl, Nat.le_of_ble_eq_true rfl⟩) hS (fun q _ h => hFc q h) hFc (fun r_66 u t H locs ht hvm hw hB hz1 hk1 hS => ?_)
                have hP : va_P D vwCl _ H := ro_keep hP hk1
                refine lv_i2l (v := r_66.toInt64) hx hb dX11_ask_92 rfl ?_
                have q_92 : (r_66.toInt64).toInt = r_66.toInt := Int32.toInt_toInt64 r_66
                refine lv_ladd hx hb dX11_ask_93 ?_
                refine lv_topl (fun y_67 ey_67 => ?_)
                refine va_put (ci := 11) (v := .long y_67) (ty := .long) (C := RX11) (T := TX11) (N := 12) hx hb hts (fun _ h => List.mem_cons_of_mem _ (List.mem_append_left _ (List.mem_append_right _ h))) tyX11 tyX11_ok nmX11 hown hK.1 hP hD hS 0 rfl rfl 10 (by decide) (hts (.fieldLink RX11 87 "CutAtlas" "traced" "J") (by decide +kernel)) (fun _ h9 => h9) rfl (by decide +kernel) rfl rfl (Nat.le_of_ble_eq_true rfl) dX11_ask_94 (fun H locs hP hD hS => ?_)
                refine pd_K [(xo, .inr (11, [.ref xk, .ref xn, .ref xc, .ref xh, .ref xt, .ref xw, .ref xm, .ref xp, .int pf, .int ph, .long y_67, .int fi])), (xn, .inr (3, [.int vp, .int vn, .ref n1, .ref n2, .ref n3, .ref n4, .ref n5])), (n1, .inl (cy 0, 40, .inl fk)), (n4, .inl (cy 0, 40, .inl fw)), (n5, .inl (cy 0, 40, .inl fp)), (xk, .inl (cy 3, 5, .inr (.inr (.inr (.inr (kf_ k0 k1 k2 k3 k4)))))), (k0, .inr (6, [])), (k1, .inr (5, [])), (k2, .inr (9, [])), (k3, .inr (2, [])), (k4, .inr (8, []))] hP hD (fun hP hD => ?_)
                refine lv_aload_n hx hb dX11_ask_97 rfl (lv_at hl 1 rfl) ?_
                refine lv_aload_n hx hb dX11_ask_98 rfl (lv_at hl 2 rfl) ?_
                refine va_get (ci := 11) (v := .ref xn) (C := RX11) (T := TX11) (N := 12) hx hb hts (fun _ h => List.mem_cons_of_mem _ (List.mem_append_left _ (List.mem_append_right _ h))) hown hK.1 hP 0 rfl rfl 1 (by decide) (hts (.fieldLink RX11 31 "CutAtlas" "net" "LCutAtlas$Net;") (by decide +kernel)) (fun _ h9 => h9) rfl dX11_ask_99 ?_
                refine va_get (ci := 3) (v := .ref n4) (C := RX3) (T := TX3) (N := 7) hx hb hts (fun _ h => List.mem_cons_of_mem _ (List.mem_append_right _ h)) hown hK.1 hP 1 rfl rfl 5 (by decide) (hts (.fieldLink RX11 129 "CutAtlas$Net" "widths" "[I") (by decide +kernel)) (fun _ h9 => h9) rfl dX11_ask_102 ?_
                refine lv_iload_n hx hb dX11_ask_105 rfl (lv_at hl 3 rfl) ?_
                have h_68 : vp_in a1 40 := in_I (by omega) (by omega)
                refine va_iald hx hb hK.1 hP 3 0 rfl rfl (i := a1) h_68 dX11_ask_106 ?_
                refine lv_topi (fun y_69 ey_69 => ?_)
                refine lv_iload hx hb dX11_ask_107 (lv_at hl 0 rfl) ?_
                refine ct_R hP hD [] [] (by decide) rfl (fun hPc hDw => ?_)
                have hFc := va_free (wc := []) hD hS hA [] rfl
                refine va_calli (va_runU (As := [.int y_69, .int 1]) (rest := []) ⟨hx, hb, hml, hown, hts⟩ (c_X6_lets l D cy H.size k3 y_69 (1 : Int32)) (va_cwU 2 hts gX11_ask_X6_lets_u165X2 rfl rfl rfl rfl (by decide +kernel) ⟨Nat.le_of_ble_eq_true rfl, Nat.le_of_ble_eq_true rfl⟩) ⟨bl_, va_recvX hK.1 hP (ci := 2) (q0 := 9) rfl rfl, fun U hU hW => ⟨rfl, by rw [hU], by rw [hU]; exact hPc, kk_mv hW hK, hDw⟩⟩ rfl rfl hl.1 rfl (lv_room (Nat.le_of_ble_eq_true rfl)) dX11_ask_109 ⟨Nat.le_of_ble_eq_true rfl, Nat.le_of_ble_eq_true rfl⟩) hS (fun q _ h => hFc q h) hFc (fun r_70 u t H locs ht hvm hw hB hz1 hk1 hS => ?_)
                have hP : va_P D vwCl _ H := ro_keep hP hk1
                have f0_r_70 := hw
                have hP9 := hP.sub (ws' := [(xo, .inr (11, [.ref xk, .ref xn, .ref xc, .ref xh, .ref xt, .ref xw, .ref xm, .ref xp, .int pf, .int ph, .long y_67, .int fi])), (xn, .inr (3, [.int vp, .int vn, .ref n1, .ref n2, .ref n3, .ref n4, .ref n5])), (n1, .inl (cy 0, 40, .inl fk)), (n4, .inl (cy 0, 40, .inl fw)), (n5, .inl (cy 0, 40, .inl fp)), (xk, .inl (cy 3, 5, .inr (.inr (.inr (.inr (kf_ k0 k1 k2 k3 k4)))))), (k0, .inr (6, [])), (k1, .inr (5, [])), (k2, .inr (9, [])), (k3, .inr (2, [])), (k4, .inr (8, []))]) [0, 1, 2, 3, 4, 5, 6, 7, 8, 9, 10] rfl
                have hD9 := hD.sub (ws' := [(xo, .inr (11, [.ref xk, .ref xn, .ref xc, .ref xh, .ref xt, .ref xw, .ref xm, .ref xp, .int pf, .int ph, .long y_67, .int fi])), (xn, .inr (3, [.int vp, .int vn, .ref n1, .ref n2, .ref n3, .ref n4, .ref n5])), (n1, .inl (cy 0, 40, .inl fk)), (n4, .inl (cy 0, 40, .inl fw)), (n5, .inl (cy 0, 40, .inl fp)), (xk, .inl (cy 3, 5, .inr (.inr (.inr (.inr (kf_ k0 k1 k2 k3 k4)))))), (k0, .inr (6, [])), (k1, .inr (5, [])), (k2, .inr (9, [])), (k3, .inr (2, [])), (k4, .inr (8, []))]) [0, 1, 2, 3, 4, 5, 6, 7, 8, 9, 10] (by decide +kernel) rfl
                rw [hQ]
                exact W.iret (v := r_70) hx hb hr (fun t ht hW => ⟨⟨r_70, (), rfl, trivial, y_67, by rw [ht]; exact hP9, hD9⟩, hS.F ht⟩) hS.2.2 dX11_ask_112
            · have t_59 : a2.toInt = (2 : Int32).toInt := congrArg Int32.toInt c_59
              refine lv_aload_n hx hb dX11_ask_42 rfl (lv_at hl 1 rfl) ?_
              refine lv_dup hx hb dX11_ask_43 rfl ?_
              refine va_get (ci := 11) (v := .long tr) (C := RX11) (T := TX11) (N := 12) hx hb hts (fun _ h => List.mem_cons_of_mem _ (List.mem_append_left _ (List.mem_append_right _ h))) hown hK.1 hP 0 rfl rfl 10 (by decide) (hts (.fieldLink RX11 87 "CutAtlas" "traced" "J") (by decide +kernel)) (fun _ h9 => h9) rfl dX11_ask_44 ?_
              refine lv_aload_n hx hb dX11_ask_47 rfl (lv_at hl 0 rfl) ?_
              refine ct_R hP hD [] [] (by decide) rfl (fun hPc hDw => ?_)
              have hFc := va_free (wc := []) hD hS hA [] rfl
              refine va_calli (va_runU (As := []) (rest := [.long tr, .ref xo]) ⟨hx, hb, hml, hown, hts⟩ (c_X2_costsMark l D cy H.size k3) (va_cwO 0 hts gX11_ask_X2_costsMark_u132X2 rfl rfl rfl (b0 := cX6_costsMark) (m0 := 1) (r0 := (some .int)) (by decide +kernel) (by decide +kernel) ⟨Nat.le_of_ble_eq_true rfl, Nat.le_of_ble_eq_true rfl⟩) ⟨bl_, va_recvX hK.1 hP (ci := 2) (q0 := 9) rfl rfl, fun U hU hW => ⟨rfl, by rw [hU], by rw [hU]; exact hPc, kk_mv hW hK, hDw⟩⟩ rfl rfl hl.1 rfl (lv_room (Nat.le_of_ble_eq_true rfl)) dX11_ask_48 ⟨Nat.le_of_ble_eq_true rfl, Nat.le_of_ble_eq_true rfl⟩) hS (fun q _ h => hFc q h) hFc (fun r_71 u t H locs ht hvm hw hB hz1 hk1 hS => ?_)
              have hP : va_P D vwCl _ H := ro_keep hP hk1
              refine lv_i2l (v := r_71.toInt64) hx hb dX11_ask_51 rfl ?_
              have q_51 : (r_71.toInt64).toInt = r_71.toInt := Int32.toInt_toInt64 r_71
              refine lv_ladd hx hb dX11_ask_52 ?_
              refine lv_topl (fun y_72 ey_72 => ?_)
              refine va_put (ci := 11) (v := .long y_72) (ty := .long) (C := RX11) (T := TX11) (N := 12) hx hb hts (fun _ h => List.mem_cons_of_mem _ (List.mem_append_left _ (List.mem_append_right _ h))) tyX11 tyX11_ok nmX11 hown hK.1 hP hD hS 0 rfl rfl 10 (by decide) (hts (.fieldLink RX11 87 "CutAtlas" "traced" "J") (by decide +kernel)) (fun _ h9 => h9) rfl (by decide +kernel) rfl rfl (Nat.le_of_ble_eq_true rfl) dX11_ask_53 (fun H locs hP hD hS => ?_)
              refine pd_K [(xo, .inr (11, [.ref xk, .ref xn, .ref xc, .ref xh, .ref xt, .ref xw, .ref xm, .ref xp, .int pf, .int ph, .long y_72, .int fi])), (xn, .inr (3, [.int vp, .int vn, .ref n1, .ref n2, .ref n3, .ref n4, .ref n5])), (n1, .inl (cy 0, 40, .inl fk)), (n4, .inl (cy 0, 40, .inl fw)), (n5, .inl (cy 0, 40, .inl fp)), (xk, .inl (cy 3, 5, .inr (.inr (.inr (.inr (kf_ k0 k1 k2 k3 k4)))))), (k0, .inr (6, [])), (k1, .inr (5, [])), (k2, .inr (9, [])), (k3, .inr (2, [])), (k4, .inr (8, []))] hP hD (fun hP hD => ?_)
              refine lv_aload_n hx hb dX11_ask_56 rfl (lv_at hl 0 rfl) ?_
              refine lv_aload_n hx hb dX11_ask_57 rfl (lv_at hl 1 rfl) ?_
              refine va_get (ci := 11) (v := .ref xn) (C := RX11) (T := TX11) (N := 12) hx hb hts (fun _ h => List.mem_cons_of_mem _ (List.mem_append_left _ (List.mem_append_right _ h))) hown hK.1 hP 0 rfl rfl 1 (by decide) (hts (.fieldLink RX11 31 "CutAtlas" "net" "LCutAtlas$Net;") (by decide +kernel)) (fun _ h9 => h9) rfl dX11_ask_58 ?_
              refine va_get (ci := 3) (v := .ref n5) (C := RX3) (T := TX3) (N := 7) hx hb hts (fun _ h => List.mem_cons_of_mem _ (List.mem_append_right _ h)) hown hK.1 hP 1 rfl rfl 6 (by decide) (hts (.fieldLink RX11 119 "CutAtlas$Net" "prices" "[I") (by decide +kernel)) (fun _ h9 => h9) rfl dX11_ask_61 ?_
              refine lv_iload_n hx hb dX11_ask_64 rfl (lv_at hl 2 rfl) ?_
              have h_73 : vp_in a1 40 := in_I (by omega) (by omega)
              refine va_iald hx hb hK.1 hP 4 0 rfl rfl (i := a1) h_73 dX11_ask_65 ?_
              refine lv_topi (fun y_74 ey_74 => ?_)
              refine ct_R hP hD [] [] (by decide) rfl (fun hPc hDw => ?_)
              have hFc := va_free (wc := []) hD hS hA [] rfl
              refine va_calli (va_runU (As := [.int y_74]) (rest := []) ⟨hx, hb, hml, hown, hts⟩ (c_X2_costs l D cy H.size k3 y_74) (va_cwO 1 hts gX11_ask_X2_costs_u122X2 rfl rfl rfl (b0 := cX6_costs) (m0 := 2) (r0 := (some .int)) (by decide +kernel) (by decide +kernel) ⟨Nat.le_of_ble_eq_true rfl, Nat.le_of_ble_eq_true rfl⟩) ⟨bl_, va_recvX hK.1 hP (ci := 2) (q0 := 9) rfl rfl, fun U hU hW => ⟨rfl, by rw [hU], by rw [hU]; exact hPc, kk_mv hW hK, hDw⟩⟩ rfl rfl hl.1 rfl (lv_room (Nat.le_of_ble_eq_true rfl)) dX11_ask_66 ⟨Nat.le_of_ble_eq_true rfl, Nat.le_of_ble_eq_true rfl⟩) hS (fun q _ h => hFc q h) hFc (fun r_75 u t H locs ht hvm hw hB hz1 hk1 hS => ?_)
              have hP : va_P D vwCl _ H := ro_keep hP hk1
              have f0_r_75 := hw
              have hP9 := hP.sub (ws' := [(xo, .inr (11, [.ref xk, .ref xn, .ref xc, .ref xh, .ref xt, .ref xw, .ref xm, .ref xp, .int pf, .int ph, .long y_72, .int fi])), (xn, .inr (3, [.int vp, .int vn, .ref n1, .ref n2, .ref n3, .ref n4, .ref n5])), (n1, .inl (cy 0, 40, .inl fk)), (n4, .inl (cy 0, 40, .inl fw)), (n5, .inl (cy 0, 40, .inl fp)), (xk, .inl (cy 3, 5, .inr (.inr (.inr (.inr (kf_ k0 k1 k2 k3 k4)))))), (k0, .inr (6, [])), (k1, .inr (5, [])), (k2, .inr (9, [])), (k3, .inr (2, [])), (k4, .inr (8, []))]) [0, 1, 2, 3, 4, 5, 6, 7, 8, 9, 10] rfl
              have hD9 := hD.sub (ws' := [(xo, .inr (11, [.ref xk, .ref xn, .ref xc, .ref xh, .ref xt, .ref xw, .ref xm, .ref xp, .int pf, .int ph, .long y_72, .int fi])), (xn, .inr (3, [.int vp, .int vn, .ref n1, .ref n2, .ref n3, .ref n4, .ref n5])), (n1, .inl (cy 0, 40, .inl fk)), (n4, .inl (cy 0, 40, .inl fw)), (n5, .inl (cy 0, 40, .inl fp)), (xk, .inl (cy 3, 5, .inr (.inr (.inr (.inr (kf_ k0 k1 k2 k3 k4)))))), (k0, .inr (6, [])), (k1, .inr (5, [])), (k2, .inr (9, [])), (k3, .inr (2, [])), (k4, .inr (8, []))]) [0, 1, 2, 3, 4, 5, 6, 7, 8, 9, 10] (by decide +kernel) rfl
              rw [hQ]
              exact W.iret (v := r_75) hx hb hr (fun t ht hW => ⟨⟨r_75, (), rfl, trivial, y_72, by rw [ht]; exact hP9, hD9⟩, hS.F ht⟩) hS.2.2 dX11_ask_69
          · refine va_aldq hx hb hK.1 hP 5 3 rfl rfl (i := 4) (by unfold vp_in; decide) dX11_ask_35 ?_
            refine lv_topv (v' := .ref k4) (by simp [va_up, va_rf, mf_, cl_0, cl_1, cl_2, cl_3, cl_4, kf_]) ?_
            refine lv_astore_n (lv' := [(3, .ref k4), (0, .ref xo), (1, .int a1), (2, .int a2)]) hx hb dX11_ask_36 rfl hl (by decide) rfl (fun ls hl => ?_)
            refine lv_iload_n hx hb dX11_ask_37 rfl (lv_at hl 3 rfl) ?_
            refine lv_iconst (v := 2) hx hb dX11_ask_38 (by decide) ?_
            refine lv_icmp_ne (tgt := 70) hx hb dX11_ask_39 (by decide) (fun c_76 => ?_) (fun c_76 => ?_)
            · have t_76 : ¬ a2.toInt = (2 : Int32).toInt := fun h => c_76 (Int32.toInt_inj.mp h)
              refine lv_iload_n hx hb dX11_ask_70 rfl (lv_at hl 3 rfl) ?_
              refine lv_if_ne (tgt := 78) hx hb dX11_ask_71 (by decide) (fun c_77 => ?_) (fun c_77 => ?_)
              · have t_77 : ¬ a2.toInt = (0 : Int32).toInt := fun h => c_77 (Int32.toInt_inj.mp h)
                refine lv_iconst (v := 0) hx hb dX11_ask_78 (by decide) ?_
                refine lv_istore (lv' := [(4, .int 0), (3, .ref k4), (0, .ref xo), (1, .int a1), (2, .int a2)]) hx hb dX11_ask_79 hl (by decide) rfl (fun ls hl => ?_)
                refine lv_aload_n hx hb dX11_ask_81 rfl (lv_at hl 2 rfl) ?_
                refine lv_dup hx hb dX11_ask_82 rfl ?_
                refine va_get (ci := 11) (v := .long tr) (C := RX11) (T := TX11) (N := 12) hx hb hts (fun _ h => List.mem_cons_of_mem _ (List.mem_append_left _ (List.mem_append_right _ h))) hown hK.1 hP 0 rfl rfl 10 (by decide) (hts (.fieldLink RX11 87 "CutAtlas" "traced" "J") (by decide +kernel)) (fun _ h9 => h9) rfl dX11_ask_83 ?_
                refine lv_aload_n hx hb dX11_ask_86 rfl (lv_at hl 1 rfl) ?_
                refine lv_iload hx hb dX11_ask_87 (lv_at hl 0 rfl) ?_
                refine ct_R hP hD [] [] (by decide) rfl (fun hPc hDw => ?_)
                have hFc := va_free (wc := []) hD hS hA [] rfl
                refine va_calli (va_runU (As := [.int 0]) (rest := [.long tr, .ref xo]) ⟨hx, hb, hml, hown, hts⟩ (c_X6_letsMark l D cy H.size k4 (0 : Int32)) (va_cwU 1 hts gX11_ask_X6_letsMark_u161X8 rfl rfl rfl rfl (by decide +kernel) ⟨Nat.le_of_ble_eq_true rfl, Nat.le_of_ble_eq_true rfl⟩) ⟨bl_, va_recvX hK.1 hP (ci := 8) (q0 := 10) rfl rfl, fun U hU hW => ⟨rfl, by rw [hU], by rw [hU]; exact hPc, kk_mv hW hK, hDw⟩⟩ rfl rfl hl.1 rfl (lv_room (Nat.le_of_ble_eq_true rfl)) dX11_ask_89 ⟨Nat.le_of_ble_eq_true rfl, Nat.le_of_ble_eq_true rfl⟩) hS (fun q _ h => hFc q h) hFc (fun r_78 u t H locs ht hvm hw hB hz1 hk1 hS => ?_)
                have hP : va_P D vwCl _ H := ro_keep hP hk1
                refine lv_i2l (v := r_78.toInt64) hx hb dX11_ask_92 rfl ?_
                have q_92 : (r_78.toInt64).toInt = r_78.toInt := Int32.toInt_toInt64 r_78
                refine lv_ladd hx hb dX11_ask_93 ?_
                refine lv_topl (fun y_79 ey_79 => ?_)
                refine va_put (ci := 11) (v := .long y_79) (ty := .long) (C := RX11) (T := TX11) (N := 12) hx hb hts (fun _ h => List.mem_cons_of_mem _ (List.mem_append_left _ (List.mem_append_right _ h))) tyX11 tyX11_ok nmX11 hown hK.1 hP hD hS 0 rfl rfl 10 (by decide) (hts (.fieldLink RX11 87 "CutAtlas" "traced" "J") (by decide +kernel)) (fun _ h9 => h9) rfl (by decide +kernel) rfl rfl (Nat.le_of_ble_eq_true rfl) dX11_ask_94 (fun H locs hP hD hS => ?_)
                refine pd_K [(xo, .inr (11, [.ref xk, .ref xn, .ref xc, .ref xh, .ref xt, .ref xw, .ref xm, .ref xp, .int pf, .int ph, .long y_79, .int fi])), (xn, .inr (3, [.int vp, .int vn, .ref n1, .ref n2, .ref n3, .ref n4, .ref n5])), (n1, .inl (cy 0, 40, .inl fk)), (n4, .inl (cy 0, 40, .inl fw)), (n5, .inl (cy 0, 40, .inl fp)), (xk, .inl (cy 3, 5, .inr (.inr (.inr (.inr (kf_ k0 k1 k2 k3 k4)))))), (k0, .inr (6, [])), (k1, .inr (5, [])), (k2, .inr (9, [])), (k3, .inr (2, [])), (k4, .inr (8, []))] hP hD (fun hP hD => ?_)
                refine lv_aload_n hx hb dX11_ask_97 rfl (lv_at hl 1 rfl) ?_
                refine lv_aload_n hx hb dX11_ask_98 rfl (lv_at hl 2 rfl) ?_
                refine va_get (ci := 11) (v := .ref xn) (C := RX11) (T := TX11) (N := 12) hx hb hts (fun _ h => List.mem_cons_of_mem _ (List.mem_append_left _ (List.mem_append_right _ h))) hown hK.1 hP 0 rfl rfl 1 (by decide) (hts (.fieldLink RX11 31 "CutAtlas" "net" "LCutAtlas$Net;") (by decide +kernel)) (fun _ h9 => h9) rfl dX11_ask_99 ?_
                refine va_get (ci := 3) (v := .ref n4) (C := RX3) (T := TX3) (N := 7) hx hb hts (fun _ h => List.mem_cons_of_mem _ (List.mem_append_right _ h)) hown hK.1 hP 1 rfl rfl 5 (by decide) (hts (.fieldLink RX11 129 "CutAtlas$Net" "widths" "[I") (by decide +kernel)) (fun _ h9 => h9) rfl dX11_ask_102 ?_
                refine lv_iload_n hx hb dX11_ask_105 rfl (lv_at hl 3 rfl) ?_
                have h_80 : vp_in a1 40 := in_I (by omega) (by omega)
                refine va_iald hx hb hK.1 hP 3 0 rfl rfl (i := a1) h_80 dX11_ask_106 ?_
                refine lv_topi (fun y_81 ey_81 => ?_)
                refine lv_iload hx hb dX11_ask_107 (lv_at hl 0 rfl) ?_
                refine ct_R hP hD [] [] (by decide) rfl (fun hPc hDw => ?_)
                have hFc := va_free (wc := []) hD hS hA [] rfl
                refine va_calli (va_runU (As := [.int y_81, .int 0]) (rest := []) ⟨hx, hb, hml, hown, hts⟩ (c_X6_lets l D cy H.size k4 y_81 (0 : Int32)) (va_cwU 2 hts gX11_ask_X6_lets_u165X8 rfl rfl rfl rfl (by decide +kernel) ⟨Nat.le_of_ble_eq_true rfl, Nat.le_of_ble_eq_true rfl⟩) ⟨bl_, va_recvX hK.1 hP (ci := 8) (q0 := 10) rfl rfl, fun U hU hW => ⟨rfl, by rw [hU], by rw [hU]; exact hPc, kk_mv hW hK, hDw⟩⟩ rfl rfl hl.1 rfl (lv_room (Nat.le_of_ble_eq_true rfl)) dX11_ask_109 ⟨Nat.le_of_ble_eq_true rfl, Nat.le_of_ble_eq_true rfl⟩) hS (fun q _ h => hFc q h) hFc (fun r_82 u t H locs ht hvm hw hB hz1 hk1 hS => ?_)
                have hP : va_P D vwCl _ H := ro_keep hP hk1
                have f0_r_82 := hw
                have hP9 := hP.sub (ws' := [(xo, .inr (11, [.ref xk, .ref xn, .ref xc, .ref xh, .ref xt, .ref xw, .ref xm, .ref xp, .int pf, .int ph, .long y_79, .int fi])), (xn, .inr (3, [.int vp, .int vn, .ref n1, .ref n2, .ref n3, .ref n4, .ref n5])), (n1, .inl (cy 0, 40, .inl fk)), (n4, .inl (cy 0, 40, .inl fw)), (n5, .inl (cy 0, 40, .inl fp)), (xk, .inl (cy 3, 5, .inr (.inr (.inr (.inr (kf_ k0 k1 k2 k3 k4)))))), (k0, .inr (6, [])), (k1, .inr (5, [])), (k2, .inr (9, [])), (k3, .inr (2, [])), (k4, .inr (8, []))]) [0, 1, 2, 3, 4, 5, 6, 7, 8, 9, 10] rfl
                have hD9 := hD.sub (ws' := [(xo, .inr (11, [.ref xk, .ref xn, .ref xc, .ref xh, .ref xt, .ref xw, .ref xm, .ref xp, .int pf, .int ph, .long y_79, .int fi])), (xn, .inr (3, [.int vp, .int vn, .ref n1, .ref n2, .ref n3, .ref n4, .ref n5])), (n1, .inl (cy 0, 40, .inl fk)), (n4, .inl (cy 0, 40, .inl fw)), (n5, .inl (cy 0, 40, .inl fp)), (xk, .inl (cy 3, 5, .inr (.inr (.inr (.inr (kf_ k0 k1 k2 k3 k4)))))), (k0, .inr (6, [])), (k1, .inr (5, [])), (k2, .inr (9, [])), (k3, .inr (2, [])), (k4, .inr (8, []))]) [0, 1, 2, 3, 4, 5, 6, 7, 8, 9, 10] (by decide +kernel) rfl
                rw [hQ]
                exact W.iret (v := r_82) hx hb hr (fun t ht hW => ⟨⟨r_82, (), rfl, trivial, y_79, by rw [ht]; exact hP9, hD9⟩, hS.F ht⟩) hS.2.2 dX11_ask_112
              · have t_77 : a2.toInt = (0 : Int32).toInt := congrArg Int32.toInt c_77
                refine lv_iconst (v := 1) hx hb dX11_ask_74 (by decide) ?_
                refine lv_goto (tgt := 79) hx hb dX11_ask_75 (by decide) ?_
                refine lv_istore (lv' := [(4, .int 1), (3, .ref k4), (0, .ref xo), (1, .int a1), (2, .int a2)]) hx hb dX11_ask_79 hl (by decide) rfl (fun ls hl => ?_)
                refine lv_aload_n hx hb dX11_ask_81 rfl (lv_at hl 2 rfl) ?_
                refine lv_dup hx hb dX11_ask_82 rfl ?_
                refine va_get (ci := 11) (v := .long tr) (C := RX11) (T := TX11) (N := 12) hx hb hts (fun _ h => List.mem_cons_of_mem _ (List.mem_append_left _ (List.mem_append_right _ h))) hown hK.1 hP 0 rfl rfl 10 (by decide) (hts (.fieldLink RX11 87 "CutAtlas" "traced" "J") (by decide +kernel)) (fun _ h9 => h9) rfl dX11_ask_83 ?_
                refine lv_aload_n hx hb dX11_ask_86 rfl (lv_at hl 1 rfl) ?_
                refine lv_iload hx hb dX11_ask_87 (lv_at hl 0 rfl) ?_
                refine ct_R hP hD [] [] (by decide) rfl (fun hPc hDw => ?_)
                have hFc := va_free (wc := []) hD hS hA [] rfl
                refine va_calli (va_runU (As := [.int 1]) (rest := [.long tr, .ref xo]) ⟨hx, hb, hml, hown, hts⟩ (c_X6_letsMark l D cy H.size k4 (1 : Int32)) (va_cwU 1 hts gX11_ask_X6_letsMark_u161X8 rfl rfl rfl rfl (by decide +kernel) ⟨Nat.le_of_ble_eq_true rfl, Nat.le_of_ble_eq_true rfl⟩) ⟨bl_, va_recvX hK.1 hP (ci := 8) (q0 := 10) rfl rfl, fun U hU hW => ⟨rfl, by rw [hU], by rw [hU]; exact hPc, kk_mv hW hK, hDw⟩⟩ rfl rfl hl.1 rfl (lv_room (Nat.le_of_ble_eq_true rfl)) dX11_ask_89 ⟨Nat.le_of_ble_eq_true rfl, Nat.le_of_ble_eq_true rfl⟩) hS (fun q _ h => hFc q h) hFc (fun r_83 u t H locs ht hvm hw hB hz1 hk1 hS => ?_)
                have hP : va_P D vwCl _ H := ro_keep hP hk1
                refine lv_i2l (v := r_83.toInt64) hx hb dX11_ask_92 rfl ?_
                have q_92 : (r_83.toInt64).toInt = r_83.toInt := Int32.toInt_toInt64 r_83
                refine lv_ladd hx hb dX11_ask_93 ?_
                refine lv_topl (fun y_84 ey_84 => ?_)
                refine va_put (ci := 11) (v := .long y_84) (ty := .long) (C := RX11) (T := TX11) (N := 12) hx hb hts (fun _ h => List.mem_cons_of_mem _ (List.mem_append_left _ (List.mem_append_right _ h))) tyX11 tyX11_ok nmX11 hown hK.1 hP hD hS 0 rfl rfl 10 (by decide) (hts (.fieldLink RX11 87 "CutAtlas" "traced" "J") (by decide +kernel)) (fun _ h9 => h9) rfl (by decide +kernel) rfl rfl (Nat.le_of_ble_eq_true rfl) dX11_ask_94 (fun H locs hP hD hS => ?_)
                refine pd_K [(xo, .inr (11, [.ref xk, .ref xn, .ref xc, .ref xh, .ref xt, .ref xw, .ref xm, .ref xp, .int pf, .int ph, .long y_84, .int fi])), (xn, .inr (3, [.int vp, .int vn, .ref n1, .ref n2, .ref n3, .ref n4, .ref n5])), (n1, .inl (cy 0, 40, .inl fk)), (n4, .inl (cy 0, 40, .inl fw)), (n5, .inl (cy 0, 40, .inl fp)), (xk, .inl (cy 3, 5, .inr (.inr (.inr (.inr (kf_ k0 k1 k2 k3 k4)))))), (k0, .inr (6, [])), (k1, .inr (5, [])), (k2, .inr (9, [])), (k3, .inr (2, [])), (k4, .inr (8, []))] hP hD (fun hP hD => ?_)
                refine lv_aload_n hx hb dX11_ask_97 rfl (lv_at hl 1 rfl) ?_
                refine lv_aload_n hx hb dX11_ask_98 rfl (lv_at hl 2 rfl) ?_
                refine va_get (ci := 11) (v := .ref xn) (C := RX11) (T := TX11) (N := 12) hx hb hts (fun _ h => List.mem_cons_of_mem _ (List.mem_append_left _ (List.mem_append_right _ h))) hown hK.1 hP 0 rfl rfl 1 (by decide) (hts (.fieldLink RX11 31 "CutAtlas" "net" "LCutAtlas$Net;") (by decide +kernel)) (fun _ h9 => h9) rfl dX11_ask_99 ?_
                refine va_get (ci := 3) (v := .ref n4) (C := RX3) (T := TX3) (N := 7) hx hb hts (fun _ h => List.mem_cons_of_mem _ (List.mem_append_right _ h)) hown hK.1 hP 1 rfl rfl 5 (by decide) (hts (.fieldLink RX11 129 "CutAtlas$Net" "widths" "[I") (by decide +kernel)) (fun _ h9 => h9) rfl dX11_ask_102 ?_
                refine lv_iload_n hx hb dX11_ask_105 rfl (lv_at hl 3 rfl) ?_
                have h_85 : vp_in a1 40 := in_I (by omega) (by omega)
                refine va_iald hx hb hK.1 hP 3 0 rfl rfl (i := a1) h_85 dX11_ask_106 ?_
                refine lv_topi (fun y_86 ey_86 => ?_)
                refine lv_iload hx hb dX11_ask_107 (lv_at hl 0 rfl) ?_
                refine ct_R hP hD [] [] (by decide) rfl (fun hPc hDw => ?_)
                have hFc := va_free (wc := []) hD hS hA [] rfl
                refine va_calli (va_runU (As := [.int y_86, .int 1]) (rest := []) ⟨hx, hb, hml, hown, hts⟩ (c_X6_lets l D cy H.size k4 y_86 (1 : Int32)) (va_cwU 2 hts gX11_ask_X6_lets_u165X8 rfl rfl rfl rfl (by decide +kernel) ⟨Nat.le_of_ble_eq_true rfl, Nat.le_of_ble_eq_true rfl⟩) ⟨bl_, va_recvX hK.1 hP (ci := 8) (q0 := 10) rfl rfl, fun U hU hW => ⟨rfl, by rw [hU], by rw [hU]; exact hPc, kk_mv hW hK, hDw⟩⟩ rfl rfl hl.1 rfl (lv_room (Nat.le_of_ble_eq_true rfl)) dX11_ask_109 ⟨Nat.le_of_ble_eq_true rfl, Nat.le_of_ble_eq_true rfl⟩) hS (fun q _ h => hFc q h) hFc (fun r_87 u t H locs ht hvm hw hB hz1 hk1 hS => ?_)
                have hP : va_P D vwCl _ H := ro_keep hP hk1
                have f0_r_87 := hw
                have hP9 := hP.sub (ws' := [(xo, .inr (11, [.ref xk, .ref xn, .ref xc, .ref xh, .ref xt, .ref xw, .ref xm, .ref xp, .int pf, .int ph, .long y_84, .int fi])), (xn, .inr (3, [.int vp, .int vn, .ref n1, .ref n2, .ref n3, .ref n4, .ref n5])), (n1, .inl (cy 0, 40, .inl fk)), (n4, .inl (cy 0, 40, .inl fw)), (n5, .inl (cy 0, 40, .inl fp)), (xk, .inl (cy 3, 5, .inr (.inr (.inr (.inr (kf_ k0 k1 k2 k3 k4)))))), (k0, .inr (6, [])), (k1, .inr (5, [])), (k2, .inr (9, [])), (k3, .inr (2, [])), (k4, .inr (8, []))]) [0, 1, 2, 3, 4, 5, 6, 7, 8, 9, 10] rfl
                have hD9 := hD.sub (ws' := [(xo, .inr (11, [.ref xk, .ref xn, .ref xc, .ref xh, .ref xt, .ref xw, .ref xm, .ref xp, .int pf, .int ph, .long y_84, .int fi])), (xn, .inr (3, [.int vp, .int vn, .ref n1, .ref n2, .ref n3, .ref n4, .ref n5])), (n1, .inl (cy 0, 40, .inl fk)), (n4, .inl (cy 0, 40, .inl fw)), (n5, .inl (cy 0, 40, .inl fp)), (xk, .inl (cy 3, 5, .inr (.inr (.inr (.inr (kf_ k0 k1 k2 k3 k4)))))), (k0, .inr (6, [])), (k1, .inr (5, [])), (k2, .inr (9, [])), (k3, .inr (2, [])), (k4, .inr (8, []))]) [0, 1, 2, 3, 4, 5, 6, 7, 8, 9, 10] (by decide +kernel) rfl
                rw [hQ]
                exact W.iret (v := r_87) hx hb hr (fun t ht hW => ⟨⟨r_87, (), rfl, trivial, y_84, by rw [ht]; exact hP9, hD9⟩, hS.F ht⟩) hS.2.2 dX11_ask_112
            · have t_76 : a2.toInt = (2 : Int32).toInt := congrArg Int32.toInt c_76
              refine lv_aload_n hx hb dX11_ask_42 rfl (lv_at hl 1 rfl) ?_
              refine lv_dup hx hb dX11_ask_43 rfl ?_
              refine va_get (ci := 11) (v := .long tr) (C := RX11) (T := TX11) (N := 12) hx hb hts (fun _ h => List.mem_cons_of_mem _ (List.mem_append_left _ (List.mem_append_right _ h))) hown hK.1 hP 0 rfl rfl 10 (by decide) (hts (.fieldLink RX11 87 "CutAtlas" "traced" "J") (by decide +kernel)) (fun _ h9 => h9) rfl dX11_ask_44 ?_
              refine lv_aload_n hx hb dX11_ask_47 rfl (lv_at hl 0 rfl) ?_
              refine ct_R hP hD [(k4, .inr (8, []))] [10] (by decide) rfl (fun hPc hDw => ?_)
              have hFc := va_free (wc := []) hD hS hA [] rfl
              refine va_calli (va_runU (As := []) (rest := [.long tr, .ref xo]) ⟨hx, hb, hml, hown, hts⟩ (c_X8_costsMark l D cy H.size k4) (va_cwO 0 hts gX11_ask_X8_costsMark_u132X8 rfl rfl rfl (b0 := cX6_costsMark) (m0 := 1) (r0 := (some .int)) (by decide +kernel) (by decide +kernel) ⟨Nat.le_of_ble_eq_true rfl, Nat.le_of_ble_eq_true rfl⟩) ⟨bl_, va_recvX hK.1 hP (ci := 8) (q0 := 10) rfl rfl, fun U hU hW => ⟨rfl, by rw [hU], by rw [hU]; exact hPc, kk_mv hW hK, hDw⟩⟩ rfl rfl hl.1 rfl (lv_room (Nat.le_of_ble_eq_true rfl)) dX11_ask_48 ⟨Nat.le_of_ble_eq_true rfl, Nat.le_of_ble_eq_true rfl⟩) hS (fun q _ h => hFc q h) hFc (fun r_88 u t H locs ht hvm hw hB hz1 hk1 hS => ?_)
              have hP : va_P D vwCl _ H := ro_keep hP hk1
              refine lv_i2l (v := r_88.toInt64) hx hb dX11_ask_51 rfl ?_
              have q_51 : (r_88.toInt64).toInt = r_88.toInt := Int32.toInt_toInt64 r_88
              refine lv_ladd hx hb dX11_ask_52 ?_
              refine lv_topl (fun y_89 ey_89 => ?_)
              refine va_put (ci := 11) (v := .long y_89) (ty := .long) (C := RX11) (T := TX11) (N := 12) hx hb hts (fun _ h => List.mem_cons_of_mem _ (List.mem_append_left _ (List.mem_append_right _ h))) tyX11 tyX11_ok nmX11 hown hK.1 hP hD hS 0 rfl rfl 10 (by decide) (hts (.fieldLink RX11 87 "CutAtlas" "traced" "J") (by decide +kernel)) (fun _ h9 => h9) rfl (by decide +kernel) rfl rfl (Nat.le_of_ble_eq_true rfl) dX11_ask_53 (fun H locs hP hD hS => ?_)
              refine pd_K [(xo, .inr (11, [.ref xk, .ref xn, .ref xc, .ref xh, .ref xt, .ref xw, .ref xm, .ref xp, .int pf, .int ph, .long y_89, .int fi])), (xn, .inr (3, [.int vp, .int vn, .ref n1, .ref n2, .ref n3, .ref n4, .ref n5])), (n1, .inl (cy 0, 40, .inl fk)), (n4, .inl (cy 0, 40, .inl fw)), (n5, .inl (cy 0, 40, .inl fp)), (xk, .inl (cy 3, 5, .inr (.inr (.inr (.inr (kf_ k0 k1 k2 k3 k4)))))), (k0, .inr (6, [])), (k1, .inr (5, [])), (k2, .inr (9, [])), (k3, .inr (2, [])), (k4, .inr (8, []))] hP hD (fun hP hD => ?_)
              refine lv_aload_n hx hb dX11_ask_56 rfl (lv_at hl 0 rfl) ?_
              refine lv_aload_n hx hb dX11_ask_57 rfl (lv_at hl 1 rfl) ?_
              refine va_get (ci := 11) (v := .ref xn) (C := RX11) (T := TX11) (N := 12) hx hb hts (fun _ h => List.mem_cons_of_mem _ (List.mem_append_left _ (List.mem_append_right _ h))) hown hK.1 hP 0 rfl rfl 1 (by decide) (hts (.fieldLink RX11 31 "CutAtlas" "net" "LCutAtlas$Net;") (by decide +kernel)) (fun _ h9 => h9) rfl dX11_ask_58 ?_
              refine va_get (ci := 3) (v := .ref n5) (C := RX3) (T := TX3) (N := 7) hx hb hts (fun _ h => List.mem_cons_of_mem _ (List.mem_append_right _ h)) hown hK.1 hP 1 rfl rfl 6 (by decide) (hts (.fieldLink RX11 119 "CutAtlas$Net" "prices" "[I") (by decide +kernel)) (fun _ h9 => h9) rfl dX11_ask_61 ?_
              refine lv_iload_n hx hb dX11_ask_64 rfl (lv_at hl 2 rfl) ?_
              have h_90 : vp_in a1 40 := in_I (by omega) (by omega)
              refine va_iald hx hb hK.1 hP 4 0 rfl rfl (i := a1) h_90 dX11_ask_65 ?_
              refine lv_topi (fun y_91 ey_91 => ?_)
              refine ct_R hP hD [(k4, .inr (8, []))] [10] (by decide) rfl (fun hPc hDw => ?_)
              have hFc := va_free (wc := []) hD hS hA [] rfl
              refine va_calli (va_runU (As := [.int y_91]) (rest := []) ⟨hx, hb, hml, hown, hts⟩ (c_X8_costs l D cy H.size k4 y_91) (va_cwO 1 hts gX11_ask_X8_costs_u122X8 rfl rfl rfl (b0 := cX6_costs) (m0 := 2) (r0 := (some .int)) (by decide +kernel) (by decide +kernel) ⟨Nat.le_of_ble_eq_true rfl, Nat.le_of_ble_eq_true rfl⟩) ⟨bl_, va_recvX hK.1 hP (ci := 8) (q0 := 10) rfl rfl, fun U hU hW => ⟨rfl, by rw [hU], by rw [hU]; exact hPc, kk_mv hW hK, hDw⟩⟩ rfl rfl hl.1 rfl (lv_room (Nat.le_of_ble_eq_true rfl)) dX11_ask_66 ⟨Nat.le_of_ble_eq_true rfl, Nat.le_of_ble_eq_true rfl⟩) hS (fun q _ h => hFc q h) hFc (fun r_92 u t H locs ht hvm hw hB hz1 hk1 hS => ?_)
              have hP : va_P D vwCl _ H := ro_keep hP hk1
              have hP9 := hP.sub (ws' := [(xo, .inr (11, [.ref xk, .ref xn, .ref xc, .ref xh, .ref xt, .ref xw, .ref xm, .ref xp, .int pf, .int ph, .long y_89, .int fi])), (xn, .inr (3, [.int vp, .int vn, .ref n1, .ref n2, .ref n3, .ref n4, .ref n5])), (n1, .inl (cy 0, 40, .inl fk)), (n4, .inl (cy 0, 40, .inl fw)), (n5, .inl (cy 0, 40, .inl fp)), (xk, .inl (cy 3, 5, .inr (.inr (.inr (.inr (kf_ k0 k1 k2 k3 k4)))))), (k0, .inr (6, [])), (k1, .inr (5, [])), (k2, .inr (9, [])), (k3, .inr (2, [])), (k4, .inr (8, []))]) [0, 1, 2, 3, 4, 5, 6, 7, 8, 9, 10] rfl
              have hD9 := hD.sub (ws' := [(xo, .inr (11, [.ref xk, .ref xn, .ref xc, .ref xh, .ref xt, .ref xw, .ref xm, .ref xp, .int pf, .int ph, .long y_89, .int fi])), (xn, .inr (3, [.int vp, .int vn, .ref n1, .ref n2, .ref n3, .ref n4, .ref n5])), (n1, .inl (cy 0, 40, .inl fk)), (n4, .inl (cy 0, 40, .inl fw)), (n5, .inl (cy 0, 40, .inl fp)), (xk, .inl (cy 3, 5, .inr (.inr (.inr (.inr (kf_ k0 k1 k2 k3 k4)))))), (k0, .inr (6, [])), (k1, .inr (5, [])), (k2, .inr (9, [])), (k3, .inr (2, [])), (k4, .inr (8, []))]) [0, 1, 2, 3, 4, 5, 6, 7, 8, 9, 10] (by decide +kernel) rfl
              rw [hQ]
              exact W.iret (v := r_92) hx hb hr (fun t ht hW => ⟨⟨r_92, (), rfl, trivial, y_89, by rw [ht]; exact hP9, hD9⟩, hS.F ht⟩) hS.2.2 dX11_ask_69
        · have t_5 : ¬ a2.toInt ≤ (2 : Int32).toInt := fun h => c_5 (Int32.le_iff_toInt_le.mpr h)
          refine lv_iconst (v := (-1)) hx hb dX11_ask_20 (by decide) ?_
          have hP9 := hP.sub (ws' := [(xo, .inr (11, [.ref xk, .ref xn, .ref xc, .ref xh, .ref xt, .ref xw, .ref xm, .ref xp, .int pf, .int ph, .long tr, .int fi])), (xn, .inr (3, [.int vp, .int vn, .ref n1, .ref n2, .ref n3, .ref n4, .ref n5])), (n1, .inl (cy 0, 40, .inl fk)), (n4, .inl (cy 0, 40, .inl fw)), (n5, .inl (cy 0, 40, .inl fp)), (xk, .inl (cy 3, 5, .inr (.inr (.inr (.inr (kf_ k0 k1 k2 k3 k4)))))), (k0, .inr (6, [])), (k1, .inr (5, [])), (k2, .inr (9, [])), (k3, .inr (2, [])), (k4, .inr (8, []))]) [0, 1, 2, 3, 4, 5, 6, 7, 8, 9, 10] rfl
          have hD9 := hD.sub (ws' := [(xo, .inr (11, [.ref xk, .ref xn, .ref xc, .ref xh, .ref xt, .ref xw, .ref xm, .ref xp, .int pf, .int ph, .long tr, .int fi])), (xn, .inr (3, [.int vp, .int vn, .ref n1, .ref n2, .ref n3, .ref n4, .ref n5])), (n1, .inl (cy 0, 40, .inl fk)), (n4, .inl (cy 0, 40, .inl fw)), (n5, .inl (cy 0, 40, .inl fp)), (xk, .inl (cy 3, 5, .inr (.inr (.inr (.inr (kf_ k0 k1 k2 k3 k4)))))), (k0, .inr (6, [])), (k1, .inr (5, [])), (k2, .inr (9, [])), (k3, .inr (2, [])), (k4, .inr (8, []))]) [0, 1, 2, 3, 4, 5, 6, 7, 8, 9, 10] (by decide +kernel) rfl
          rw [hQ]
          exact W.iret (v := (-1)) hx hb hr (fun t ht hW => ⟨⟨(-1), (), rfl, trivial, tr, by rw [ht]; exact hP9, hD9⟩, hS.F ht⟩) hS.2.2 dX11_ask_21
  · have e_ := e_.symm
    subst e_
    refine lv_if_eq (tgt := 20) hx hb dX11_ask_8 (by decide) (fun c_93 => ?_) (fun c_93 => ?_)
    · have _ := c_93
      refine lv_iconst (v := (-1)) hx hb dX11_ask_20 (by decide) ?_
      have hP9 := hP.sub (ws' := [(xo, .inr (11, [.ref xk, .ref xn, .ref xc, .ref xh, .ref xt, .ref xw, .ref xm, .ref xp, .int pf, .int ph, .long tr, .int fi])), (xn, .inr (3, [.int vp, .int vn, .ref n1, .ref n2, .ref n3, .ref n4, .ref n5])), (n1, .inl (cy 0, 40, .inl fk)), (n4, .inl (cy 0, 40, .inl fw)), (n5, .inl (cy 0, 40, .inl fp)), (xk, .inl (cy 3, 5, .inr (.inr (.inr (.inr (kf_ k0 k1 k2 k3 k4)))))), (k0, .inr (6, [])), (k1, .inr (5, [])), (k2, .inr (9, [])), (k3, .inr (2, [])), (k4, .inr (8, []))]) [0, 1, 2, 3, 4, 5, 6, 7, 8, 9, 10] rfl
      have hD9 := hD.sub (ws' := [(xo, .inr (11, [.ref xk, .ref xn, .ref xc, .ref xh, .ref xt, .ref xw, .ref xm, .ref xp, .int pf, .int ph, .long tr, .int fi])), (xn, .inr (3, [.int vp, .int vn, .ref n1, .ref n2, .ref n3, .ref n4, .ref n5])), (n1, .inl (cy 0, 40, .inl fk)), (n4, .inl (cy 0, 40, .inl fw)), (n5, .inl (cy 0, 40, .inl fp)), (xk, .inl (cy 3, 5, .inr (.inr (.inr (.inr (kf_ k0 k1 k2 k3 k4)))))), (k0, .inr (6, [])), (k1, .inr (5, [])), (k2, .inr (9, [])), (k3, .inr (2, [])), (k4, .inr (8, []))]) [0, 1, 2, 3, 4, 5, 6, 7, 8, 9, 10] (by decide +kernel) rfl
      rw [hQ]
      exact W.iret (v := (-1)) hx hb hr (fun t ht hW => ⟨⟨(-1), (), rfl, trivial, tr, by rw [ht]; exact hP9, hD9⟩, hS.F ht⟩) hS.2.2 dX11_ask_21
    · exact absurd c_93 (by decide)
