section
set_option maxHeartbeats 4000000 in
set_option maxRecDepth 100000 in
theorem c_X11_rowRefusal2 (l : Launch) (D : va_G) (cy : Nat → ClassId) (sz : Nat) (xo : Nat) (xk : Nat) (xn : Nat) (xc : Nat) (xh : Nat) (xt : Nat) (xw : Nat) (xm : Nat) (xp : Nat) (pf : Int32) (ph : Int32) (tr : Int64) (fi : Int32) (m0 : Nat) (l0 : Nat) (u0 : Nat) (m1 : Nat) (l1 : Nat) (u1 : Nat) (m2 : Nat) (l2 : Nat) (u2 : Nat) (m3 : Nat) (l3 : Nat) (u3 : Nat) (mk0 : Int32) (mr0 : Int32) (mk1 : Int32) (mr1 : Int32) (mk2 : Int32) (mr2 : Int32) (mk3 : Int32) (mr3 : Int32) (a1 : Int32) (a2 : Int32) (a3 : Int32) (hmr0 : mr0.toInt = -9 ∨ (0 ≤ mr0.toInt ∧ mr0.toInt ≤ 6)) (hmr1 : mr1.toInt = -9 ∨ (0 ≤ mr1.toInt ∧ mr1.toInt ≤ 6)) (hmr2 : mr2.toInt = -9 ∨ (0 ≤ mr2.toInt ∧ mr2.toInt ≤ 6)) (hmr3 : mr3.toInt = -9 ∨ (0 ≤ mr3.toInt ∧ mr3.toInt ≤ 6)) : Met l yX11_rowRefusal wsX11_rowRefusal ({ frames := 1, cells := 0, slots := 0, locals := 21 }) (va_Pc [.ref xo, .int a1, .int a2, .int a3] (fun U => U.heap.size = sz ∧ va_P D vwCl [ob11_0_ xo xk xn xc xh xt xw xm xp pf ph tr fi, aq_ cy 4 xm 4 (mf_ m0 m1 m2 m3), ob4_0_ m0 mk0 mr0 l0 u0, ob4_0_ m1 mk1 mr1 l1 u1, ob4_0_ m2 mk2 mr2 l2 u2, ob4_0_ m3 mk3 mr3 l3 u3] U.heap ∧ kk_ D cy U ∧ va_D (fun _ => True) [ob11_0_ xo xk xn xc xh xt xw xm xp pf ph tr fi, aq_ cy 4 xm 4 (mf_ m0 m1 m2 m3), ob4_0_ m0 mk0 mr0 l0 u0, ob4_0_ m1 mk1 mr1 l1 u1, ob4_0_ m2 mk2 mr2 l2 u2, ob4_0_ m3 mk3 mr3 l3 u3])) (va_Qi (fun (r : Int32) (_ : Unit) => (r.toInt = rowRI a1.toInt a2.toInt a3.toInt (hasI ((f4_ mr0 mr1 mr2 mr3) a1.toNatClampNeg).toInt) ((f4_ mr0 mr1 mr2 mr3) a1.toNatClampNeg).toInt) ∧ (r.toInt < 0 ∨ (r.toInt = 0 ∧ (0 ≤ a1.toInt ∧ a1.toInt < 4) ∧ (0 ≤ a2.toInt ∧ a2.toInt ≤ 5) ∧ (0 ≤ a3.toInt ∧ a3.toInt ≤ 5)))) (fun (_ : Unit) (_ : State) => True) (va_A [] sz)) 0 0 (va_A [] sz) := by
  refine ofQ (cc := cX11_rowRefusal) (maxL := 4) (ret := (some .int)) (by decide) rfl ?_
  intro p e s m args below meth c s₁ Q hQ B hml hv
  obtain ⟨rfl, hsz, hP, hK, hD0⟩ := hv
  have hx := B.exec
  have hb := B.bytes
  have hr := B.returns
  have hts := atoms_spec (ws := wsX11_rowRefusal) B.pre
  have hown : s.vm.findClass RX11 = some m.cls := by have h_ := findClass_of_methodNamed B.named; exact h_
  have hlocks := B.notSynchronized
  subst hsz
  have hD : va_D (va_A [] s.heap.size) [] := dd_nil
  generalize hAe : va_A [] s.heap.size = A at hD hQ
  have hA : ∀ q : Nat, s.heap.size ≤ q → A q := fun q h => by rw [← hAe]; exact Or.inr h
  have hS : va_S A s.heap s.heap [] := va_S.rf
  have hl := lv_entry ([.ref xo, .int a1, .int a2, .int a3]) (n := 4) (Nat.le_of_ble_eq_true rfl)
  rw [lg_entry_eq]
  generalize (lg_sl ([.ref xo, .int a1, .int a2, .int a3]) ++ List.replicate (4 - (lg_sl ([.ref xo, .int a1, .int a2, .int a3])).length) Slot.unset).toArray = ls at hl ⊢
  have hl : lv_has ls 4 [(0, .ref xo), (1, .int a1), (2, .int a2), (3, .int a3)] := hl
  have zm15 : ((-15) : Int32).toInt = -15 := by decide
  have zm12 : ((-12) : Int32).toInt = -12 := by decide
  have zm11 : ((-11) : Int32).toInt = -11 := by decide
  have zm1 : ((-1) : Int32).toInt = -1 := by decide
  have z0 : (0 : Int32).toInt = 0 := by decide
  have z5 : (5 : Int32).toInt = 5 := by decide
  refine lv_iload_n hx hb dB_36_3_59.1.1.1.1 rfl (lv_at hl 1 rfl) ?_
  refine ct_R hP hD0 [] [] (by decide) rfl (fun hPc hDw => ?_)
  have hFc := va_free (wc := []) hD hS hA [] rfl
  refine va_calli (va_runS (As := [.int a1]) (rest := []) ⟨hx, hb, hml, hown, hts⟩ (c_X11_isMapNumber l D cy s.heap.size a1) (va_cwS 1 hts gX11_rowRefusal_X11_isMapNumber rfl rfl rfl hd_X11_isMapNumber ⟨Nat.le_of_ble_eq_true rfl, Nat.le_of_ble_eq_true rfl⟩) ⟨bl_, fun U hU hW => ⟨rfl, by rw [hU], by rw [hU]; exact hPc, kk_mv hW hK, hDw⟩⟩ rfl rfl hl.1 rfl (lv_room (Nat.le_of_ble_eq_true rfl)) dB_36_3_59.1.1.1.2 ⟨Nat.le_of_ble_eq_true rfl, Nat.le_of_ble_eq_true rfl⟩) hS (fun q _ h => hFc q h) hFc (fun r_1 u t H locs ht hvm hw hB hz1 hk1 hS => ?_)
  have hP : va_P D vwCl _ H := ro_keep hP hk1
  rcases hw with ⟨w_2, e_⟩ | ⟨w_2, e_⟩
  · have e_ := e_.symm
    subst e_
    refine lv_if_eq (tgt := 12) hx hb dB_36_3_59.1.1.2.1 (by decide) (fun c_3 => ?_) (fun c_3 => ?_)
    · exact absurd c_3 (by decide)
    · have _ := c_3
      refine lv_iload_n hx hb dB_36_3_59.1.1.2.2 rfl (lv_at hl 3 rfl) ?_
      refine lv_iconst (v := 5) hx hb dB_36_3_59.1.2.1.1 (by decide) ?_
      refine lv_icmp_le (tgt := 14) hx hb dB_36_3_59.1.2.1.2 (by decide) (fun c_4 => ?_) (fun c_4 => ?_)
      · have t_4 : a3.toInt ≤ (5 : Int32).toInt := Int32.le_iff_toInt_le.mp c_4
        rcases sp_4 (x := a1) (by omega) with rfl | rfl | rfl | rfl
        · refine lv_aload_n hx hb dB_36_3_59.2.1.1.1 rfl (lv_at hl 0 rfl) ?_
          refine va_get (ci := 11) (v := .ref xm) (C := RX11) (T := TX11) (N := 12) hx hb hts (fun _ h => List.mem_cons_of_mem _ (List.mem_append_left _ (List.mem_append_right _ h))) hown hK.1 hP 0 rfl rfl 6 (by decide) (hts (.fieldLink RX11 72 "CutAtlas" "maps" "[LCutAtlas$NumberMap;") (List.mem_of_getElem? (i := 1) rfl)) (fun _ h9 => h9) rfl dB_36_3_59.2.1.1.2 ?_
          refine lv_iload_n hx hb dB_36_3_59.2.1.2.1 rfl (lv_at hl 1 rfl) ?_
          refine va_aldq hx hb hK.1 hP 1 4 rfl rfl (i := 0) (by unfold vp_in; decide) dB_36_3_59.2.1.2.2 ?_
          refine lv_topv (v' := .ref m0) (by simp [va_up, va_rf, mf_, cl_0, cl_1, cl_2, cl_3, cl_4]) ?_
          refine ct_R hP hD0 [ob4_0_ m0 mk0 mr0 l0 u0] [2] (by decide) rfl (fun hPc hDw => ?_)
          have hFc := va_free (wc := []) hD hS hA [] rfl
          refine va_calli (va_runV (As := []) (rest := []) ⟨hx, hb, hml, hown, hts⟩ (c_X4_isThere l D cy H.size m0 l0 u0 mk0 mr0) (cwV 0 hts gX11_rowRefusal_X4_isThere rfl rfl rfl ⟨rfl, hd_X4_isThere⟩ ⟨Nat.le_of_ble_eq_true rfl, Nat.le_of_ble_eq_true rfl⟩) ⟨bl_, va_recvX hK.1 hP (ci := 4) (q0 := 2) rfl rfl, fun U hU hW => ⟨rfl, by rw [hU], by rw [hU]; exact hPc, kk_mv hW hK, hDw⟩⟩ rfl rfl hl.1 rfl (lv_room (Nat.le_of_ble_eq_true rfl)) dB_36_3_59.2.2.1.1 ⟨Nat.le_of_ble_eq_true rfl, Nat.le_of_ble_eq_true rfl⟩) hS (fun q _ h => hFc q h) hFc (fun r_5 u t H locs ht hvm hw hB hz1 hk1 hS => ?_)
          have hP : va_P D vwCl _ H := ro_keep hP hk1
          rcases hw with ⟨w_6, e_⟩ | ⟨w_6, e_⟩
          · have e_ := e_.symm
            subst e_
            refine lv_if_ne (tgt := 29) hx hb dB_36_3_59.2.2.1.2 (by decide) (fun c_7 => ?_) (fun c_7 => ?_)
            · have _ := c_7
              refine lv_aload_n hx hb dB_36_3_60.1.1.1 rfl (lv_at hl 0 rfl) ?_
              refine va_get (ci := 11) (v := .ref xm) (C := RX11) (T := TX11) (N := 12) hx hb hts (fun _ h => List.mem_cons_of_mem _ (List.mem_append_left _ (List.mem_append_right _ h))) hown hK.1 hP 0 rfl rfl 6 (by decide) (hts (.fieldLink RX11 72 "CutAtlas" "maps" "[LCutAtlas$NumberMap;") (List.mem_of_getElem? (i := 1) rfl)) (fun _ h9 => h9) rfl dB_36_3_60.1.1.2.1 ?_
              refine lv_iload_n hx hb dB_36_3_60.1.1.2.2 rfl (lv_at hl 1 rfl) ?_
              refine va_aldq hx hb hK.1 hP 1 4 rfl rfl (i := 0) (by unfold vp_in; decide) dB_36_3_60.1.2.1.1 ?_
              refine lv_topv (v' := .ref m0) (by simp [va_up, va_rf, mf_, cl_0, cl_1, cl_2, cl_3, cl_4]) ?_
              refine lv_iload_n hx hb dB_36_3_60.1.2.1.2 rfl (lv_at hl 2 rfl) ?_
              refine ct_R hP hD0 [ob4_0_ m0 mk0 mr0 l0 u0] [2] (by decide) rfl (fun hPc hDw => ?_)
              have hFc := va_free (wc := []) hD hS hA [] rfl
              refine va_calli (va_runV (As := [.int a2]) (rest := []) ⟨hx, hb, hml, hown, hts⟩ (c_X4_hasRow l D cy H.size m0 l0 u0 mk0 mr0 a2) (cwV 1 hts gX11_rowRefusal_X4_hasRow rfl rfl rfl ⟨rfl, hd_X4_hasRow⟩ ⟨Nat.le_of_ble_eq_true rfl, Nat.le_of_ble_eq_true rfl⟩) ⟨bl_, va_recvX hK.1 hP (ci := 4) (q0 := 2) rfl rfl, fun U hU hW => ⟨rfl, by rw [hU], by rw [hU]; exact hPc, kk_mv hW hK, hDw⟩⟩ rfl rfl hl.1 rfl (lv_room (Nat.le_of_ble_eq_true rfl)) dB_36_3_60.1.2.2.1 ⟨Nat.le_of_ble_eq_true rfl, Nat.le_of_ble_eq_true rfl⟩) hS (fun q _ h => hFc q h) hFc (fun r_8 u t H locs ht hvm hw hB hz1 hk1 hS => ?_)
              have hP : va_P D vwCl _ H := ro_keep hP hk1
              rcases hw with ⟨w_9, e_⟩ | ⟨w_9, e_⟩
              · have e_ := e_.symm
                subst e_
                refine lv_if_ne (tgt := 45) hx hb dB_36_3_60.1.2.2.2 (by decide) (fun c_10 => ?_) (fun c_10 => ?_)
                · have _ := c_10
                  refine lv_iload_n hx hb dB_36_3_60.2.1.2.1 rfl (lv_at hl 3 rfl) ?_
                  refine lv_if_ge (tgt := 54) hx hb dB_36_3_60.2.1.2.2 (by decide) (fun c_11 => ?_) (fun c_11 => ?_)
                  · have t_11 : (0 : Int32).toInt ≤ a3.toInt := Int32.le_iff_toInt_le.mp c_11
                    refine lv_iconst (v := 0) hx hb dB_36_3_60.2.2.2.1 (by decide) ?_
                    rw [hQ]
                    exact W.iret (v := 0) hx hb hr (fun t ht hW => ⟨⟨0, (), rfl, ⟨by first | (simp only [f4_c0, f4_c1, f4_c2, f4_c3]; unfold rowRI hasI; (repeat' (first | with_reducible refine if_n (by omega) ?_ | with_reducible refine if_ns (by omega) ?_ | with_reducible refine if_nz (by omega) ?_ | with_reducible exact if_p (by omega) (by omega) | with_reducible exact if_ps (by omega) (by omega) | with_reducible exact if_pz (by omega) (by omega))) <;> omega) | (unfold rowRI hasI; (repeat' (first | with_reducible refine if_n (by omega) ?_ | with_reducible refine if_ns (by omega) ?_ | with_reducible refine if_nz (by omega) ?_ | with_reducible exact if_p (by omega) (by omega) | with_reducible exact if_ps (by omega) (by omega) | with_reducible exact if_pz (by omega) (by omega))) <;> omega), by omega⟩, trivial⟩, hS.F ht⟩) hS.2.2 dB_36_3_60.2.2.2.2
                  · have t_11 : ¬ (0 : Int32).toInt ≤ a3.toInt := fun h => c_11 (Int32.le_iff_toInt_le.mpr h)
                    refine lv_bipush (v := (-15)) hx hb dB_36_3_60.2.2.1.1 (by decide) ?_
                    refine lv_goto (tgt := 55) hx hb dB_36_3_60.2.2.1.2 (by decide) ?_
                    rw [hQ]
                    exact W.iret (v := (-15)) hx hb hr (fun t ht hW => ⟨⟨(-15), (), rfl, ⟨by first | (simp only [f4_c0, f4_c1, f4_c2, f4_c3]; unfold rowRI hasI; (repeat' (first | with_reducible refine if_n (by omega) ?_ | with_reducible refine if_ns (by omega) ?_ | with_reducible refine if_nz (by omega) ?_ | with_reducible exact if_p (by omega) (by omega) | with_reducible exact if_ps (by omega) (by omega) | with_reducible exact if_pz (by omega) (by omega))) <;> omega) | (unfold rowRI hasI; (repeat' (first | with_reducible refine if_n (by omega) ?_ | with_reducible refine if_ns (by omega) ?_ | with_reducible refine if_nz (by omega) ?_ | with_reducible exact if_p (by omega) (by omega) | with_reducible exact if_ps (by omega) (by omega) | with_reducible exact if_pz (by omega) (by omega))) <;> omega), by omega⟩, trivial⟩, hS.F ht⟩) hS.2.2 dB_36_3_60.2.2.2.2
                · exact absurd c_10 (by decide)
              · have e_ := e_.symm
                subst e_
                refine lv_if_ne (tgt := 45) hx hb dB_36_3_60.1.2.2.2 (by decide) (fun c_12 => ?_) (fun c_12 => ?_)
                · exact absurd c_12 (by decide)
                · have _ := c_12
                  refine lv_bipush (v := (-12)) hx hb dB_36_3_60.2.1.1.1 (by decide) ?_
                  rw [hQ]
                  exact W.iret (v := (-12)) hx hb hr (fun t ht hW => ⟨⟨(-12), (), rfl, ⟨by first | (simp only [f4_c0, f4_c1, f4_c2, f4_c3]; unfold rowRI hasI; (repeat' (first | with_reducible refine if_n (by omega) ?_ | with_reducible refine if_ns (by omega) ?_ | with_reducible refine if_nz (by omega) ?_ | with_reducible exact if_p (by omega) (by omega) | with_reducible exact if_ps (by omega) (by omega) | with_reducible exact if_pz (by omega) (by omega))) <;> omega) | (unfold rowRI hasI; (repeat' (first | with_reducible refine if_n (by omega) ?_ | with_reducible refine if_ns (by omega) ?_ | with_reducible refine if_nz (by omega) ?_ | with_reducible exact if_p (by omega) (by omega) | with_reducible exact if_ps (by omega) (by omega) | with_reducible exact if_pz (by omega) (by omega))) <;> omega), by omega⟩, trivial⟩, hS.F ht⟩) hS.2.2 dB_36_3_60.2.1.1.2
            · exact absurd c_7 (by decide)
          · have e_ := e_.symm
            subst e_
            refine lv_if_ne (tgt := 29) hx hb dB_36_3_59.2.2.1.2 (by decide) (fun c_13 => ?_) (fun c_13 => ?_)
            · exact absurd c_13 (by decide)
            · have _ := c_13
              refine lv_bipush (v := (-11)) hx hb dB_36_3_59.2.2.2.1 (by decide) ?_
              rw [hQ]
              exact W.iret (v := (-11)) hx hb hr (fun t ht hW => ⟨⟨(-11), (), rfl, ⟨by first | (simp only [f4_c0, f4_c1, f4_c2, f4_c3]; unfold rowRI hasI; (repeat' (first | with_reducible refine if_n (by omega) ?_ | with_reducible refine if_ns (by omega) ?_ | with_reducible refine if_nz (by omega) ?_ | with_reducible exact if_p (by omega) (by omega) | with_reducible exact if_ps (by omega) (by omega) | with_reducible exact if_pz (by omega) (by omega))) <;> omega) | (unfold rowRI hasI; (repeat' (first | with_reducible refine if_n (by omega) ?_ | with_reducible refine if_ns (by omega) ?_ | with_reducible refine if_nz (by omega) ?_ | with_reducible exact if_p (by omega) (by omega) | with_reducible exact if_ps (by omega) (by omega) | with_reducible exact if_pz (by omega) (by omega))) <;> omega), by omega⟩, trivial⟩, hS.F ht⟩) hS.2.2 dB_36_3_59.2.2.2.2
        · refine lv_aload_n hx hb dB_36_3_59.2.1.1.1 rfl (lv_at hl 0 rfl) ?_
          refine va_get (ci := 11) (v := .ref xm) (C := RX11) (T := TX11) (N := 12) hx hb hts (fun _ h => List.mem_cons_of_mem _ (List.mem_append_left _ (List.mem_append_right _ h))) hown hK.1 hP 0 rfl rfl 6 (by decide) (hts (.fieldLink RX11 72 "CutAtlas" "maps" "[LCutAtlas$NumberMap;") (List.mem_of_getElem? (i := 1) rfl)) (fun _ h9 => h9) rfl dB_36_3_59.2.1.1.2 ?_
          refine lv_iload_n hx hb dB_36_3_59.2.1.2.1 rfl (lv_at hl 1 rfl) ?_
          refine va_aldq hx hb hK.1 hP 1 4 rfl rfl (i := 1) (by unfold vp_in; decide) dB_36_3_59.2.1.2.2 ?_
          refine lv_topv (v' := .ref m1) (by simp [va_up, va_rf, mf_, cl_0, cl_1, cl_2, cl_3, cl_4]) ?_
          refine ct_R hP hD0 [ob4_0_ m1 mk1 mr1 l1 u1] [3] (by decide) rfl (fun hPc hDw => ?_)
          have hFc := va_free (wc := []) hD hS hA [] rfl
          refine va_calli (va_runV (As := []) (rest := []) ⟨hx, hb, hml, hown, hts⟩ (c_X4_isThere l D cy H.size m1 l1 u1 mk1 mr1) (cwV 0 hts gX11_rowRefusal_X4_isThere rfl rfl rfl ⟨rfl, hd_X4_isThere⟩ ⟨Nat.le_of_ble_eq_true rfl, Nat.le_of_ble_eq_true rfl⟩) ⟨bl_, va_recvX hK.1 hP (ci := 4) (q0 := 3) rfl rfl, fun U hU hW => ⟨rfl, by rw [hU], by rw [hU]; exact hPc, kk_mv hW hK, hDw⟩⟩ rfl rfl hl.1 rfl (lv_room (Nat.le_of_ble_eq_true rfl)) dB_36_3_59.2.2.1.1 ⟨Nat.le_of_ble_eq_true rfl, Nat.le_of_ble_eq_true rfl⟩) hS (fun q _ h => hFc q h) hFc (fun r_14 u t H locs ht hvm hw hB hz1 hk1 hS => ?_)
          have hP : va_P D vwCl _ H := ro_keep hP hk1
          rcases hw with ⟨w_15, e_⟩ | ⟨w_15, e_⟩
          · have e_ := e_.symm
            subst e_
            refine lv_if_ne (tgt := 29) hx hb dB_36_3_59.2.2.1.2 (by decide) (fun c_16 => ?_) (fun c_16 => ?_)
            · have _ := c_16
              refine lv_aload_n hx hb dB_36_3_60.1.1.1 rfl (lv_at hl 0 rfl) ?_
              refine va_get (ci := 11) (v := .ref xm) (C := RX11) (T := TX11) (N := 12) hx hb hts (fun _ h => List.mem_cons_of_mem _ (List.mem_append_left _ (List.mem_append_right _ h))) hown hK.1 hP 0 rfl rfl 6 (by decide) (hts (.fieldLink RX11 72 "CutAtlas" "maps" "[LCutAtlas$NumberMap;") (List.mem_of_getElem? (i := 1) rfl)) (fun _ h9 => h9) rfl dB_36_3_60.1.1.2.1 ?_
              refine lv_iload_n hx hb dB_36_3_60.1.1.2.2 rfl (lv_at hl 1 rfl) ?_
              refine va_aldq hx hb hK.1 hP 1 4 rfl rfl (i := 1) (by unfold vp_in; decide) dB_36_3_60.1.2.1.1 ?_
              refine lv_topv (v' := .ref m1) (by simp [va_up, va_rf, mf_, cl_0, cl_1, cl_2, cl_3, cl_4]) ?_
              refine lv_iload_n hx hb dB_36_3_60.1.2.1.2 rfl (lv_at hl 2 rfl) ?_
              refine ct_R hP hD0 [ob4_0_ m1 mk1 mr1 l1 u1] [3] (by decide) rfl (fun hPc hDw => ?_)
              have hFc := va_free (wc := []) hD hS hA [] rfl
              refine va_calli (va_runV (As := [.int a2]) (rest := []) ⟨hx, hb, hml, hown, hts⟩ (c_X4_hasRow l D cy H.size m1 l1 u1 mk1 mr1 a2) (cwV 1 hts gX11_rowRefusal_X4_hasRow rfl rfl rfl ⟨rfl, hd_X4_hasRow⟩ ⟨Nat.le_of_ble_eq_true rfl, Nat.le_of_ble_eq_true rfl⟩) ⟨bl_, va_recvX hK.1 hP (ci := 4) (q0 := 3) rfl rfl, fun U hU hW => ⟨rfl, by rw [hU], by rw [hU]; exact hPc, kk_mv hW hK, hDw⟩⟩ rfl rfl hl.1 rfl (lv_room (Nat.le_of_ble_eq_true rfl)) dB_36_3_60.1.2.2.1 ⟨Nat.le_of_ble_eq_true rfl, Nat.le_of_ble_eq_true rfl⟩) hS (fun q _ h => hFc q h) hFc (fun r_17 u t H locs ht hvm hw hB hz1 hk1 hS => ?_)
              have hP : va_P D vwCl _ H := ro_keep hP hk1
              rcases hw with ⟨w_18, e_⟩ | ⟨w_18, e_⟩
              · have e_ := e_.symm
                subst e_
                refine lv_if_ne (tgt := 45) hx hb dB_36_3_60.1.2.2.2 (by decide) (fun c_19 => ?_) (fun c_19 => ?_)
                · have _ := c_19
                  refine lv_iload_n hx hb dB_36_3_60.2.1.2.1 rfl (lv_at hl 3 rfl) ?_
                  refine lv_if_ge (tgt := 54) hx hb dB_36_3_60.2.1.2.2 (by decide) (fun c_20 => ?_) (fun c_20 => ?_)
                  · have t_20 : (0 : Int32).toInt ≤ a3.toInt := Int32.le_iff_toInt_le.mp c_20
                    refine lv_iconst (v := 0) hx hb dB_36_3_60.2.2.2.1 (by decide) ?_
                    rw [hQ]
                    exact W.iret (v := 0) hx hb hr (fun t ht hW => ⟨⟨0, (), rfl, ⟨by first | (simp only [f4_c0, f4_c1, f4_c2, f4_c3]; unfold rowRI hasI; (repeat' (first | with_reducible refine if_n (by omega) ?_ | with_reducible refine if_ns (by omega) ?_ | with_reducible refine if_nz (by omega) ?_ | with_reducible exact if_p (by omega) (by omega) | with_reducible exact if_ps (by omega) (by omega) | with_reducible exact if_pz (by omega) (by omega))) <;> omega) | (unfold rowRI hasI; (repeat' (first | with_reducible refine if_n (by omega) ?_ | with_reducible refine if_ns (by omega) ?_ | with_reducible refine if_nz (by omega) ?_ | with_reducible exact if_p (by omega) (by omega) | with_reducible exact if_ps (by omega) (by omega) | with_reducible exact if_pz (by omega) (by omega))) <;> omega), by omega⟩, trivial⟩, hS.F ht⟩) hS.2.2 dB_36_3_60.2.2.2.2
                  · have t_20 : ¬ (0 : Int32).toInt ≤ a3.toInt := fun h => c_20 (Int32.le_iff_toInt_le.mpr h)
                    refine lv_bipush (v := (-15)) hx hb dB_36_3_60.2.2.1.1 (by decide) ?_
                    refine lv_goto (tgt := 55) hx hb dB_36_3_60.2.2.1.2 (by decide) ?_
                    rw [hQ]
                    exact W.iret (v := (-15)) hx hb hr (fun t ht hW => ⟨⟨(-15), (), rfl, ⟨by first | (simp only [f4_c0, f4_c1, f4_c2, f4_c3]; unfold rowRI hasI; (repeat' (first | with_reducible refine if_n (by omega) ?_ | with_reducible refine if_ns (by omega) ?_ | with_reducible refine if_nz (by omega) ?_ | with_reducible exact if_p (by omega) (by omega) | with_reducible exact if_ps (by omega) (by omega) | with_reducible exact if_pz (by omega) (by omega))) <;> omega) | (unfold rowRI hasI; (repeat' (first | with_reducible refine if_n (by omega) ?_ | with_reducible refine if_ns (by omega) ?_ | with_reducible refine if_nz (by omega) ?_ | with_reducible exact if_p (by omega) (by omega) | with_reducible exact if_ps (by omega) (by omega) | with_reducible exact if_pz (by omega) (by omega))) <;> omega), by omega⟩, trivial⟩, hS.F ht⟩) hS.2.2 dB_36_3_60.2.2.2.2
                · exact absurd c_19 (by decide)
              · have e_ := e_.symm
                subst e_
                refine lv_if_ne (tgt := 45) hx hb dB_36_3_60.1.2.2.2 (by decide) (fun c_21 => ?_) (fun c_21 => ?_)
                · exact absurd c_21 (by decide)
                · have _ := c_21
                  refine lv_bipush (v := (-12)) hx hb dB_36_3_60.2.1.1.1 (by decide) ?_
                  rw [hQ]
                  exact W.iret (v := (-12)) hx hb hr (fun t ht hW => ⟨⟨(-12), (), rfl, ⟨by first | (simp only [f4_c0, f4_c1, f4_c2, f4_c3]; unfold rowRI hasI; (repeat' (first | with_reducible refine if_n (by omega) ?_ | with_reducible refine if_ns (by omega) ?_ | with_reducible refine if_nz (by omega) ?_ | with_reducible exact if_p (by omega) (by omega) | with_reducible exact if_ps (by omega) (by omega) | with_reducible exact if_pz (by omega) (by omega))) <;> omega) | (unfold rowRI hasI; (repeat' (first | with_reducible refine if_n (by omega) ?_ | with_reducible refine if_ns (by omega) ?_ | with_reducible refine if_nz (by omega) ?_ | with_reducible exact if_p (by omega) (by omega) | with_reducible exact if_ps (by omega) (by omega) | with_reducible exact if_pz (by omega) (by omega))) <;> omega), by omega⟩, trivial⟩, hS.F ht⟩) hS.2.2 dB_36_3_60.2.1.1.2
            · exact absurd c_16 (by decide)
          · have e_ := e_.symm
            subst e_
            refine lv_if_ne (tgt := 29) hx hb dB_36_3_59.2.2.1.2 (by decide) (fun c_22 => ?_) (fun c_22 => ?_)
            · exact absurd c_22 (by decide)
            · have _ := c_22
              refine lv_bipush (v := (-11)) hx hb dB_36_3_59.2.2.2.1 (by decide) ?_
              rw [hQ]
              exact W.iret (v := (-11)) hx hb hr (fun t ht hW => ⟨⟨(-11), (), rfl, ⟨by first | (simp only [f4_c0, f4_c1, f4_c2, f4_c3]; unfold rowRI hasI; (repeat' (first | with_reducible refine if_n (by omega) ?_ | with_reducible refine if_ns (by omega) ?_ | with_reducible refine if_nz (by omega) ?_ | with_reducible exact if_p (by omega) (by omega) | with_reducible exact if_ps (by omega) (by omega) | with_reducible exact if_pz (by omega) (by omega))) <;> omega) | (unfold rowRI hasI; (repeat' (first | with_reducible refine if_n (by omega) ?_ | with_reducible refine if_ns (by omega) ?_ | with_reducible refine if_nz (by omega) ?_ | with_reducible exact if_p (by omega) (by omega) | with_reducible exact if_ps (by omega) (by omega) | with_reducible exact if_pz (by omega) (by omega))) <;> omega), by omega⟩, trivial⟩, hS.F ht⟩) hS.2.2 dB_36_3_59.2.2.2.2
        · refine lv_aload_n hx hb dB_36_3_59.2.1.1.1 rfl (lv_at hl 0 rfl) ?_
          refine va_get (ci := 11) (v := .ref xm) (C := RX11) (T := TX11) (N := 12) hx hb hts (fun _ h => List.mem_cons_of_mem _ (List.mem_append_left _ (List.mem_append_right _ h))) hown hK.1 hP 0 rfl rfl 6 (by decide) (hts (.fieldLink RX11 72 "CutAtlas" "maps" "[LCutAtlas$NumberMap;") (List.mem_of_getElem? (i := 1) rfl)) (fun _ h9 => h9) rfl dB_36_3_59.2.1.1.2 ?_
          refine lv_iload_n hx hb dB_36_3_59.2.1.2.1 rfl (lv_at hl 1 rfl) ?_
          refine va_aldq hx hb hK.1 hP 1 4 rfl rfl (i := 2) (by unfold vp_in; decide) dB_36_3_59.2.1.2.2 ?_
          refine lv_topv (v' := .ref m2) (by simp [va_up, va_rf, mf_, cl_0, cl_1, cl_2, cl_3, cl_4]) ?_
          refine ct_R hP hD0 [ob4_0_ m2 mk2 mr2 l2 u2] [4] (by decide) rfl (fun hPc hDw => ?_)
          have hFc := va_free (wc := []) hD hS hA [] rfl
          refine va_calli (va_runV (As := []) (rest := []) ⟨hx, hb, hml, hown, hts⟩ (c_X4_isThere l D cy H.size m2 l2 u2 mk2 mr2) (cwV 0 hts gX11_rowRefusal_X4_isThere rfl rfl rfl ⟨rfl, hd_X4_isThere⟩ ⟨Nat.le_of_ble_eq_true rfl, Nat.le_of_ble_eq_true rfl⟩) ⟨bl_, va_recvX hK.1 hP (ci := 4) (q0 := 4) rfl rfl, fun U hU hW => ⟨rfl, by rw [hU], by rw [hU]; exact hPc, kk_mv hW hK, hDw⟩⟩ rfl rfl hl.1 rfl (lv_room (Nat.le_of_ble_eq_true rfl)) dB_36_3_59.2.2.1.1 ⟨Nat.le_of_ble_eq_true rfl, Nat.le_of_ble_eq_true rfl⟩) hS (fun q _ h => hFc q h) hFc (fun r_23 u t H locs ht hvm hw hB hz1 hk1 hS => ?_)
          have hP : va_P D vwCl _ H := ro_keep hP hk1
          rcases hw with ⟨w_24, e_⟩ | ⟨w_24, e_⟩
          · have e_ := e_.symm
            subst e_
            refine lv_if_ne (tgt := 29) hx hb dB_36_3_59.2.2.1.2 (by decide) (fun c_25 => ?_) (fun c_25 => ?_)
            · have _ := c_25
              refine lv_aload_n hx hb dB_36_3_60.1.1.1 rfl (lv_at hl 0 rfl) ?_
              refine va_get (ci := 11) (v := .ref xm) (C := RX11) (T := TX11) (N := 12) hx hb hts (fun _ h => List.mem_cons_of_mem _ (List.mem_append_left _ (List.mem_append_right _ h))) hown hK.1 hP 0 rfl rfl 6 (by decide) (hts (.fieldLink RX11 72 "CutAtlas" "maps" "[LCutAtlas$NumberMap;") (List.mem_of_getElem? (i := 1) rfl)) (fun _ h9 => h9) rfl dB_36_3_60.1.1.2.1 ?_
              refine lv_iload_n hx hb dB_36_3_60.1.1.2.2 rfl (lv_at hl 1 rfl) ?_
              refine va_aldq hx hb hK.1 hP 1 4 rfl rfl (i := 2) (by unfold vp_in; decide) dB_36_3_60.1.2.1.1 ?_
              refine lv_topv (v' := .ref m2) (by simp [va_up, va_rf, mf_, cl_0, cl_1, cl_2, cl_3, cl_4]) ?_
              refine lv_iload_n hx hb dB_36_3_60.1.2.1.2 rfl (lv_at hl 2 rfl) ?_
              refine ct_R hP hD0 [ob4_0_ m2 mk2 mr2 l2 u2] [4] (by decide) rfl (fun hPc hDw => ?_)
              have hFc := va_free (wc := []) hD hS hA [] rfl
              refine va_calli (va_runV (As := [.int a2]) (rest := []) ⟨hx, hb, hml, hown, hts⟩ (c_X4_hasRow l D cy H.size m2 l2 u2 mk2 mr2 a2) (cwV 1 hts gX11_rowRefusal_X4_hasRow rfl rfl rfl ⟨rfl, hd_X4_hasRow⟩ ⟨Nat.le_of_ble_eq_true rfl, Nat.le_of_ble_eq_true rfl⟩) ⟨bl_, va_recvX hK.1 hP (ci := 4) (q0 := 4) rfl rfl, fun U hU hW => ⟨rfl, by rw [hU], by rw [hU]; exact hPc, kk_mv hW hK, hDw⟩⟩ rfl rfl hl.1 rfl (lv_room (Nat.le_of_ble_eq_true rfl)) dB_36_3_60.1.2.2.1 ⟨Nat.le_of_ble_eq_true rfl, Nat.le_of_ble_eq_true rfl⟩) hS (fun q _ h => hFc q h) hFc (fun r_26 u t H locs ht hvm hw hB hz1 hk1 hS => ?_)
              have hP : va_P D vwCl _ H := ro_keep hP hk1
              rcases hw with ⟨w_27, e_⟩ | ⟨w_27, e_⟩
              · have e_ := e_.symm
                subst e_
                refine lv_if_ne (tgt := 45) hx hb dB_36_3_60.1.2.2.2 (by decide) (fun c_28 => ?_) (fun c_28 => ?_)
                · have _ := c_28
                  refine lv_iload_n hx hb dB_36_3_60.2.1.2.1 rfl (lv_at hl 3 rfl) ?_
                  refine lv_if_ge (tgt := 54) hx hb dB_36_3_60.2.1.2.2 (by decide) (fun c_29 => ?_) (fun c_29 => ?_)
                  · have t_29 : (0 : Int32).toInt ≤ a3.toInt := Int32.le_iff_toInt_le.mp c_29
                    refine lv_iconst (v := 0) hx hb dB_36_3_60.2.2.2.1 (by decide) ?_
                    rw [hQ]
                    exact W.iret (v := 0) hx hb hr (fun t ht hW => ⟨⟨0, (), rfl, ⟨by first | (simp only [f4_c0, f4_c1, f4_c2, f4_c3]; unfold rowRI hasI; (repeat' (first | with_reducible refine if_n (by omega) ?_ | with_reducible refine if_ns (by omega) ?_ | with_reducible refine if_nz (by omega) ?_ | with_reducible exact if_p (by omega) (by omega) | with_reducible exact if_ps (by omega) (by omega) | with_reducible exact if_pz (by omega) (by omega))) <;> omega) | (unfold rowRI hasI; (repeat' (first | with_reducible refine if_n (by omega) ?_ | with_reducible refine if_ns (by omega) ?_ | with_reducible refine if_nz (by omega) ?_ | with_reducible exact if_p (by omega) (by omega) | with_reducible exact if_ps (by omega) (by omega) | with_reducible exact if_pz (by omega) (by omega))) <;> omega), by omega⟩, trivial⟩, hS.F ht⟩) hS.2.2 dB_36_3_60.2.2.2.2
                  · have t_29 : ¬ (0 : Int32).toInt ≤ a3.toInt := fun h => c_29 (Int32.le_iff_toInt_le.mpr h)
                    refine lv_bipush (v := (-15)) hx hb dB_36_3_60.2.2.1.1 (by decide) ?_
                    refine lv_goto (tgt := 55) hx hb dB_36_3_60.2.2.1.2 (by decide) ?_
                    rw [hQ]
                    exact W.iret (v := (-15)) hx hb hr (fun t ht hW => ⟨⟨(-15), (), rfl, ⟨by first | (simp only [f4_c0, f4_c1, f4_c2, f4_c3]; unfold rowRI hasI; (repeat' (first | with_reducible refine if_n (by omega) ?_ | with_reducible refine if_ns (by omega) ?_ | with_reducible refine if_nz (by omega) ?_ | with_reducible exact if_p (by omega) (by omega) | with_reducible exact if_ps (by omega) (by omega) | with_reducible exact if_pz (by omega) (by omega))) <;> omega) | (unfold rowRI hasI; (repeat' (first | with_reducible refine if_n (by omega) ?_ | with_reducible refine if_ns (by omega) ?_ | with_reducible refine if_nz (by omega) ?_ | with_reducible exact if_p (by omega) (by omega) | with_reducible exact if_ps (by omega) (by omega) | with_reducible exact if_pz (by omega) (by omega))) <;> omega), by omega⟩, trivial⟩, hS.F ht⟩) hS.2.2 dB_36_3_60.2.2.2.2
                · exact absurd c_28 (by decide)
              · have e_ := e_.symm
                subst e_
                refine lv_if_ne (tgt := 45) hx hb dB_36_3_60.1.2.2.2 (by decide) (fun c_30 => ?_) (fun c_30 => ?_)
                · exact absurd c_30 (by decide)
                · have _ := c_30
                  refine lv_bipush (v := (-12)) hx hb dB_36_3_60.2.1.1.1 (by decide) ?_
                  rw [hQ]
                  exact W.iret (v := (-12)) hx hb hr (fun t ht hW => ⟨⟨(-12), (), rfl, ⟨by first | (simp only [f4_c0, f4_c1, f4_c2, f4_c3]; unfold rowRI hasI; (repeat' (first | with_reducible refine if_n (by omega) ?_ | with_reducible refine if_ns (by omega) ?_ | with_reducible refine if_nz (by omega) ?_ | with_reducible exact if_p (by omega) (by omega) | with_reducible exact if_ps (by omega) (by omega) | with_reducible exact if_pz (by omega) (by omega))) <;> omega) | (unfold rowRI hasI; (repeat' (first | with_reducible refine if_n (by omega) ?_ | with_reducible refine if_ns (by omega) ?_ | with_reducible refine if_nz (by omega) ?_ | with_reducible exact if_p (by omega) (by omega) | with_reducible exact if_ps (by omega) (by omega) | with_reducible exact if_pz (by omega) (by omega))) <;> omega), by omega⟩, trivial⟩, hS.F ht⟩) hS.2.2 dB_36_3_60.2.1.1.2
            · exact absurd c_25 (by decide)
          · have e_ := e_.symm
            subst e_
            refine lv_if_ne (tgt := 29) hx hb dB_36_3_59.2.2.1.2 (by decide) (fun c_31 => ?_) (fun c_31 => ?_)
            · exact absurd c_31 (by decide)
            · have _ := c_31
              refine lv_bipush (v := (-11)) hx hb dB_36_3_59.2.2.2.1 (by decide) ?_
              rw [hQ]
              exact W.iret (v := (-11)) hx hb hr (fun t ht hW => ⟨⟨(-11), (), rfl, ⟨by first | (simp only [f4_c0, f4_c1, f4_c2, f4_c3]; unfold rowRI hasI; (repeat' (first | with_reducible refine if_n (by omega) ?_ | with_reducible refine if_ns (by omega) ?_ | with_reducible refine if_nz (by omega) ?_ | with_reducible exact if_p (by omega) (by omega) | with_reducible exact if_ps (by omega) (by omega) | with_reducible exact if_pz (by omega) (by omega))) <;> omega) | (unfold rowRI hasI; (repeat' (first | with_reducible refine if_n (by omega) ?_ | with_reducible refine if_ns (by omega) ?_ | with_reducible refine if_nz (by omega) ?_ | with_reducible exact if_p (by omega) (by omega) | with_reducible exact if_ps (by omega) (by omega) | with_reducible exact if_pz (by omega) (by omega))) <;> omega), by omega⟩, trivial⟩, hS.F ht⟩) hS.2.2 dB_36_3_59.2.2.2.2
        · refine lv_aload_n hx hb dB_36_3_59.2.1.1.1 rfl (lv_at hl 0 rfl) ?_
          refine va_get (ci := 11) (v := .ref xm) (C := RX11) (T := TX11) (N := 12) hx hb hts (fun _ h => List.mem_cons_of_mem _ (List.mem_append_left _ (List.mem_append_right _ h))) hown hK.1 hP 0 rfl rfl 6 (by decide) (hts (.fieldLink RX11 72 "CutAtlas" "maps" "[LCutAtlas$NumberMap;") (List.mem_of_getElem? (i := 1) rfl)) (fun _ h9 => h9) rfl dB_36_3_59.2.1.1.2 ?_
          refine lv_iload_n hx hb dB_36_3_59.2.1.2.1 rfl (lv_at hl 1 rfl) ?_
          refine va_aldq hx hb hK.1 hP 1 4 rfl rfl (i := 3) (by unfold vp_in; decide) dB_36_3_59.2.1.2.2 ?_
          refine lv_topv (v' := .ref m3) (by simp [va_up, va_rf, mf_, cl_0, cl_1, cl_2, cl_3, cl_4]) ?_
          refine ct_R hP hD0 [ob4_0_ m3 mk3 mr3 l3 u3] [5] (by decide) rfl (fun hPc hDw => ?_)
          have hFc := va_free (wc := []) hD hS hA [] rfl
          refine va_calli (va_runV (As := []) (rest := []) ⟨hx, hb, hml, hown, hts⟩ (c_X4_isThere l D cy H.size m3 l3 u3 mk3 mr3) (cwV 0 hts gX11_rowRefusal_X4_isThere rfl rfl rfl ⟨rfl, hd_X4_isThere⟩ ⟨Nat.le_of_ble_eq_true rfl, Nat.le_of_ble_eq_true rfl⟩) ⟨bl_, va_recvX hK.1 hP (ci := 4) (q0 := 5) rfl rfl, fun U hU hW => ⟨rfl, by rw [hU], by rw [hU]; exact hPc, kk_mv hW hK, hDw⟩⟩ rfl rfl hl.1 rfl (lv_room (Nat.le_of_ble_eq_true rfl)) dB_36_3_59.2.2.1.1 ⟨Nat.le_of_ble_eq_true rfl, Nat.le_of_ble_eq_true rfl⟩) hS (fun q _ h => hFc q h) hFc (fun r_32 u t H locs ht hvm hw hB hz1 hk1 hS => ?_)
          have hP : va_P D vwCl _ H := ro_keep hP hk1
          rcases hw with ⟨w_33, e_⟩ | ⟨w_33, e_⟩
          · have e_ := e_.symm
            subst e_
            refine lv_if_ne (tgt := 29) hx hb dB_36_3_59.2.2.1.2 (by decide) (fun c_34 => ?_) (fun c_34 => ?_)
            · have _ := c_34
              refine lv_aload_n hx hb dB_36_3_60.1.1.1 rfl (lv_at hl 0 rfl) ?_
              refine va_get (ci := 11) (v := .ref xm) (C := RX11) (T := TX11) (N := 12) hx hb hts (fun _ h => List.mem_cons_of_mem _ (List.mem_append_left _ (List.mem_append_right _ h))) hown hK.1 hP 0 rfl rfl 6 (by decide) (hts (.fieldLink RX11 72 "CutAtlas" "maps" "[LCutAtlas$NumberMap;") (List.mem_of_getElem? (i := 1) rfl)) (fun _ h9 => h9) rfl dB_36_3_60.1.1.2.1 ?_
              refine lv_iload_n hx hb dB_36_3_60.1.1.2.2 rfl (lv_at hl 1 rfl) ?_
              refine va_aldq hx hb hK.1 hP 1 4 rfl rfl (i := 3) (by unfold vp_in; decide) dB_36_3_60.1.2.1.1 ?_
              refine lv_topv (v' := .ref m3) (by simp [va_up, va_rf, mf_, cl_0, cl_1, cl_2, cl_3, cl_4]) ?_
              refine lv_iload_n hx hb dB_36_3_60.1.2.1.2 rfl (lv_at hl 2 rfl) ?_
              refine ct_R hP hD0 [ob4_0_ m3 mk3 mr3 l3 u3] [5] (by decide) rfl (fun hPc hDw => ?_)
              have hFc := va_free (wc := []) hD hS hA [] rfl
              refine va_calli (va_runV (As := [.int a2]) (rest := []) ⟨hx, hb, hml, hown, hts⟩ (c_X4_hasRow l D cy H.size m3 l3 u3 mk3 mr3 a2) (cwV 1 hts gX11_rowRefusal_X4_hasRow rfl rfl rfl ⟨rfl, hd_X4_hasRow⟩ ⟨Nat.le_of_ble_eq_true rfl, Nat.le_of_ble_eq_true rfl⟩) ⟨bl_, va_recvX hK.1 hP (ci := 4) (q0 := 5) rfl rfl, fun U hU hW => ⟨rfl, by rw [hU], by rw [hU]; exact hPc, kk_mv hW hK, hDw⟩⟩ rfl rfl hl.1 rfl (lv_room (Nat.le_of_ble_eq_true rfl)) dB_36_3_60.1.2.2.1 ⟨Nat.le_of_ble_eq_true rfl, Nat.le_of_ble_eq_true rfl⟩) hS (fun q _ h => hFc q h) hFc (fun r_35 u t H locs ht hvm hw hB hz1 hk1 hS => ?_)
              have hP : va_P D vwCl _ H := ro_keep hP hk1
              rcases hw with ⟨w_36, e_⟩ | ⟨w_36, e_⟩
              · have e_ := e_.symm
                subst e_
                refine lv_if_ne (tgt := 45) hx hb dB_36_3_60.1.2.2.2 (by decide) (fun c_37 => ?_) (fun c_37 => ?_)
                · have _ := c_37
                  refine lv_iload_n hx hb dB_36_3_60.2.1.2.1 rfl (lv_at hl 3 rfl) ?_
                  refine lv_if_ge (tgt := 54) hx hb dB_36_3_60.2.1.2.2 (by decide) (fun c_38 => ?_) (fun c_38 => ?_)
                  · have t_38 : (0 : Int32).toInt ≤ a3.toInt := Int32.le_iff_toInt_le.mp c_38
                    refine lv_iconst (v := 0) hx hb dB_36_3_60.2.2.2.1 (by decide) ?_
                    rw [hQ]
                    exact W.iret (v := 0) hx hb hr (fun t ht hW => ⟨⟨0, (), rfl, ⟨by first | (simp only [f4_c0, f4_c1, f4_c2, f4_c3]; unfold rowRI hasI; (repeat' (first | with_reducible refine if_n (by omega) ?_ | with_reducible refine if_ns (by omega) ?_ | with_reducible refine if_nz (by omega) ?_ | with_reducible exact if_p (by omega) (by omega) | with_reducible exact if_ps (by omega) (by omega) | with_reducible exact if_pz (by omega) (by omega))) <;> omega) | (unfold rowRI hasI; (repeat' (first | with_reducible refine if_n (by omega) ?_ | with_reducible refine if_ns (by omega) ?_ | with_reducible refine if_nz (by omega) ?_ | with_reducible exact if_p (by omega) (by omega) | with_reducible exact if_ps (by omega) (by omega) | with_reducible exact if_pz (by omega) (by omega))) <;> omega), by omega⟩, trivial⟩, hS.F ht⟩) hS.2.2 dB_36_3_60.2.2.2.2
                  · have t_38 : ¬ (0 : Int32).toInt ≤ a3.toInt := fun h => c_38 (Int32.le_iff_toInt_le.mpr h)
                    refine lv_bipush (v := (-15)) hx hb dB_36_3_60.2.2.1.1 (by decide) ?_
                    refine lv_goto (tgt := 55) hx hb dB_36_3_60.2.2.1.2 (by decide) ?_
                    rw [hQ]
                    exact W.iret (v := (-15)) hx hb hr (fun t ht hW => ⟨⟨(-15), (), rfl, ⟨by first | (simp only [f4_c0, f4_c1, f4_c2, f4_c3]; unfold rowRI hasI; (repeat' (first | with_reducible refine if_n (by omega) ?_ | with_reducible refine if_ns (by omega) ?_ | with_reducible refine if_nz (by omega) ?_ | with_reducible exact if_p (by omega) (by omega) | with_reducible exact if_ps (by omega) (by omega) | with_reducible exact if_pz (by omega) (by omega))) <;> omega) | (unfold rowRI hasI; (repeat' (first | with_reducible refine if_n (by omega) ?_ | with_reducible refine if_ns (by omega) ?_ | with_reducible refine if_nz (by omega) ?_ | with_reducible exact if_p (by omega) (by omega) | with_reducible exact if_ps (by omega) (by omega) | with_reducible exact if_pz (by omega) (by omega))) <;> omega), by omega⟩, trivial⟩, hS.F ht⟩) hS.2.2 dB_36_3_60.2.2.2.2
                · exact absurd c_37 (by decide)
              · have e_ := e_.symm
                subst e_
                refine lv_if_ne (tgt := 45) hx hb dB_36_3_60.1.2.2.2 (by decide) (fun c_39 => ?_) (fun c_39 => ?_)
                · exact absurd c_39 (by decide)
                · have _ := c_39
                  refine lv_bipush (v := (-12)) hx hb dB_36_3_60.2.1.1.1 (by decide) ?_
                  rw [hQ]
                  exact W.iret (v := (-12)) hx hb hr (fun t ht hW => ⟨⟨(-12), (), rfl, ⟨by first | (simp only [f4_c0, f4_c1, f4_c2, f4_c3]; unfold rowRI hasI; (repeat' (first | with_reducible refine if_n (by omega) ?_ | with_reducible refine if_ns (by omega) ?_ | with_reducible refine if_nz (by omega) ?_ | with_reducible exact if_p (by omega) (by omega) | with_reducible exact if_ps (by omega) (by omega) | with_reducible exact if_pz (by omega) (by omega))) <;> omega) | (unfold rowRI hasI; (repeat' (first | with_reducible refine if_n (by omega) ?_ | with_reducible refine if_ns (by omega) ?_ | with_reducible refine if_nz (by omega) ?_ | with_reducible exact if_p (by omega) (by omega) | with_reducible exact if_ps (by omega) (by omega) | with_reducible exact if_pz (by omega) (by omega))) <;> omega), by omega⟩, trivial⟩, hS.F ht⟩) hS.2.2 dB_36_3_60.2.1.1.2
            · exact absurd c_34 (by decide)
          · have e_ := e_.symm
            subst e_
            refine lv_if_ne (tgt := 29) hx hb dB_36_3_59.2.2.1.2 (by decide) (fun c_40 => ?_) (fun c_40 => ?_)
            · exact absurd c_40 (by decide)
            · have _ := c_40
              refine lv_bipush (v := (-11)) hx hb dB_36_3_59.2.2.2.1 (by decide) ?_
              rw [hQ]
              exact W.iret (v := (-11)) hx hb hr (fun t ht hW => ⟨⟨(-11), (), rfl, ⟨by first | (simp only [f4_c0, f4_c1, f4_c2, f4_c3]; unfold rowRI hasI; (repeat' (first | with_reducible refine if_n (by omega) ?_ | with_reducible refine if_ns (by omega) ?_ | with_reducible refine if_nz (by omega) ?_ | with_reducible exact if_p (by omega) (by omega) | with_reducible exact if_ps (by omega) (by omega) | with_reducible exact if_pz (by omega) (by omega))) <;> omega) | (unfold rowRI hasI; (repeat' (first | with_reducible refine if_n (by omega) ?_ | with_reducible refine if_ns (by omega) ?_ | with_reducible refine if_nz (by omega) ?_ | with_reducible exact if_p (by omega) (by omega) | with_reducible exact if_ps (by omega) (by omega) | with_reducible exact if_pz (by omega) (by omega))) <;> omega), by omega⟩, trivial⟩, hS.F ht⟩) hS.2.2 dB_36_3_59.2.2.2.2
      · have t_4 : ¬ a3.toInt ≤ (5 : Int32).toInt := fun h => c_4 (Int32.le_iff_toInt_le.mpr h)
        refine lv_iconst (v := (-1)) hx hb dB_36_3_59.1.2.2.1 (by decide) ?_
        rw [hQ]
        exact W.iret (v := (-1)) hx hb hr (fun t ht hW => ⟨⟨(-1), (), rfl, ⟨by first | (simp only [f4_c0, f4_c1, f4_c2, f4_c3]; unfold rowRI hasI; (repeat' (first | with_reducible refine if_n (by omega) ?_ | with_reducible refine if_ns (by omega) ?_ | with_reducible refine if_nz (by omega) ?_ | with_reducible exact if_p (by omega) (by omega) | with_reducible exact if_ps (by omega) (by omega) | with_reducible exact if_pz (by omega) (by omega))) <;> omega) | (unfold rowRI hasI; (repeat' (first | with_reducible refine if_n (by omega) ?_ | with_reducible refine if_ns (by omega) ?_ | with_reducible refine if_nz (by omega) ?_ | with_reducible exact if_p (by omega) (by omega) | with_reducible exact if_ps (by omega) (by omega) | with_reducible exact if_pz (by omega) (by omega))) <;> omega), by omega⟩, trivial⟩, hS.F ht⟩) hS.2.2 dB_36_3_59.1.2.2.2
  · have e_ := e_.symm
    subst e_
    refine lv_if_eq (tgt := 12) hx hb dB_36_3_59.1.1.2.1 (by decide) (fun c_41 => ?_) (fun c_41 => ?_)
    · have _ := c_41
      refine lv_iconst (v := (-1)) hx hb dB_36_3_59.1.2.2.1 (by decide) ?_
      rw [hQ]
      exact W.iret (v := (-1)) hx hb hr (fun t ht hW => ⟨⟨(-1), (), rfl, ⟨by first | (simp only [f4_c0, f4_c1, f4_c2, f4_c3]; unfold rowRI hasI; (repeat' (first | with_reducible refine if_n (by omega) ?_ | with_reducible refine if_ns (by omega) ?_ | with_reducible refine if_nz (by omega) ?_ | with_reducible exact if_p (by omega) (by omega) | with_reducible exact if_ps (by omega) (by omega) | with_reducible exact if_pz (by omega) (by omega))) <;> omega) | (unfold rowRI hasI; (repeat' (first | with_reducible refine if_n (by omega) ?_ | with_reducible refine if_ns (by omega) ?_ | with_reducible refine if_nz (by omega) ?_ | with_reducible exact if_p (by omega) (by omega) | with_reducible exact if_ps (by omega) (by omega) | with_reducible exact if_pz (by omega) (by omega))) <;> omega), by omega⟩, trivial⟩, hS.F ht⟩) hS.2.2 dB_36_3_59.1.2.2.2
    · exact absurd c_41 (by decide)

set_option maxHeartbeats 4000000 in
set_option maxRecDepth 100000 in
theorem c_X11_numberRefusal2 (l : Launch) (D : va_G) (cy : Nat → ClassId) (sz : Nat) (xo : Nat) (xk : Nat) (xn : Nat) (xc : Nat) (xh : Nat) (xt : Nat) (xw : Nat) (xm : Nat) (xp : Nat) (pf : Int32) (ph : Int32) (tr : Int64) (fi : Int32) (m0 : Nat) (l0 : Nat) (u0 : Nat) (m1 : Nat) (l1 : Nat) (u1 : Nat) (m2 : Nat) (l2 : Nat) (u2 : Nat) (m3 : Nat) (l3 : Nat) (u3 : Nat) (mk0 : Int32) (mr0 : Int32) (mk1 : Int32) (mr1 : Int32) (mk2 : Int32) (mr2 : Int32) (mk3 : Int32) (mr3 : Int32) (fl0 : Nat → Int32) (fl1 : Nat → Int32) (fl2 : Nat → Int32) (fl3 : Nat → Int32) (a1 : Int32) (a2 : Int32) (a3 : Int32) (a4 : Int32) (hmr0 : mr0.toInt = -9 ∨ (0 ≤ mr0.toInt ∧ mr0.toInt ≤ 6)) (hmr1 : mr1.toInt = -9 ∨ (0 ≤ mr1.toInt ∧ mr1.toInt ≤ 6)) (hmr2 : mr2.toInt = -9 ∨ (0 ≤ mr2.toInt ∧ mr2.toInt ≤ 6)) (hmr3 : mr3.toInt = -9 ∨ (0 ≤ mr3.toInt ∧ mr3.toInt ≤ 6)) (r_fl0 : rng fl0 6 (-9) (5)) (r_fl1 : rng fl1 6 (-9) (5)) (r_fl2 : rng fl2 6 (-9) (5)) (r_fl3 : rng fl3 6 (-9) (5)) : Met l yX11_numberRefusal wsX11_numberRefusal ({ frames := 1, cells := 0, slots := 0, locals := 21 }) (va_Pc [.ref xo, .int a1, .int a2, .int a3, .int a4] (fun U => U.heap.size = sz ∧ va_P D vwCl [ob11_0_ xo xk xn xc xh xt xw xm xp pf ph tr fi, aq_ cy 4 xm 4 (mf_ m0 m1 m2 m3), ob4_0_ m0 mk0 mr0 l0 u0, ob4_0_ m1 mk1 mr1 l1 u1, ob4_0_ m2 mk2 mr2 l2 u2, ob4_0_ m3 mk3 mr3 l3 u3, ai_ cy l0 6 fl0, ai_ cy l1 6 fl1, ai_ cy l2 6 fl2, ai_ cy l3 6 fl3] U.heap ∧ kk_ D cy U ∧ va_D (fun _ => True) [ob11_0_ xo xk xn xc xh xt xw xm xp pf ph tr fi, aq_ cy 4 xm 4 (mf_ m0 m1 m2 m3), ob4_0_ m0 mk0 mr0 l0 u0, ob4_0_ m1 mk1 mr1 l1 u1, ob4_0_ m2 mk2 mr2 l2 u2, ob4_0_ m3 mk3 mr3 l3 u3, ai_ cy l0 6 fl0, ai_ cy l1 6 fl1, ai_ cy l2 6 fl2, ai_ cy l3 6 fl3])) (va_Qi (fun (r : Int32) (_ : Unit) => (r.toInt = wrgI a1.toInt a2.toInt a3.toInt a4.toInt (hasI ((f4_ mr0 mr1 mr2 mr3) a1.toNatClampNeg).toInt) ((f4_ mk0 mk1 mk2 mk3) a1.toNatClampNeg).toInt ((f4_ mr0 mr1 mr2 mr3) a1.toNatClampNeg).toInt ((f4_ fl0 fl1 fl2 fl3) a1.toNatClampNeg a3.toNatClampNeg).toInt) ∧ (r.toInt < 0 ∨ (r.toInt = 0 ∧ (0 ≤ a1.toInt ∧ a1.toInt < 4) ∧ (0 ≤ a3.toInt ∧ a3.toInt ≤ 5) ∧ (0 ≤ a4.toInt ∧ a4.toInt ≤ 4)))) (fun (_ : Unit) (_ : State) => True) (va_A [] sz)) 0 0 (va_A [] sz) := by
  refine ofQ (cc := cX11_numberRefusal) (maxL := 5) (ret := (some .int)) (by decide) rfl ?_
  intro p e s m args below meth c s₁ Q hQ B hml hv
  obtain ⟨rfl, hsz, hP, hK, hD0⟩ := hv
  have hx := B.exec
  have hb := B.bytes
  have hr := B.returns
  have hts := atoms_spec (ws := wsX11_numberRefusal) B.pre
  have hown : s.vm.findClass RX11 = some m.cls := by have h_ := findClass_of_methodNamed B.named; exact h_
  have hlocks := B.notSynchronized
  subst hsz
  have hD : va_D (va_A [] s.heap.size) [] := dd_nil
  generalize hAe : va_A [] s.heap.size = A at hD hQ
  have hA : ∀ q : Nat, s.heap.size ≤ q → A q := fun q h => by rw [← hAe]; exact Or.inr h
  have hS : va_S A s.heap s.heap [] := va_S.rf
  have hl := lv_entry ([.ref xo, .int a1, .int a2, .int a3, .int a4]) (n := 5) (Nat.le_of_ble_eq_true rfl)
  rw [lg_entry_eq]
  generalize (lg_sl ([.ref xo, .int a1, .int a2, .int a3, .int a4]) ++ List.replicate (5 - (lg_sl ([.ref xo, .int a1, .int a2, .int a3, .int a4])).length) Slot.unset).toArray = ls at hl ⊢
  have hl : lv_has ls 5 [(0, .ref xo), (1, .int a1), (2, .int a2), (3, .int a3), (4, .int a4)] := hl
  have zm13 : ((-13) : Int32).toInt = -13 := by decide
  have zm12 : ((-12) : Int32).toInt = -12 := by decide
  have zm11 : ((-11) : Int32).toInt = -11 := by decide
  have zm1 : ((-1) : Int32).toInt = -1 := by decide
  have z0 : (0 : Int32).toInt = 0 := by decide
  refine lv_iload_n hx hb dB_36_3_38.1.1.1.1 rfl (lv_at hl 1 rfl) ?_
  refine ct_R hP hD0 [] [] (by decide) rfl (fun hPc hDw => ?_)
  have hFc := va_free (wc := []) hD hS hA [] rfl
  refine va_calli (va_runS (As := [.int a1]) (rest := []) ⟨hx, hb, hml, hown, hts⟩ (c_X11_isMapNumber l D cy s.heap.size a1) (va_cwS 1 hts gX11_numberRefusal_X11_isMapNumber rfl rfl rfl hd_X11_isMapNumber ⟨Nat.le_of_ble_eq_true rfl, Nat.le_of_ble_eq_true rfl⟩) ⟨bl_, fun U hU hW => ⟨rfl, by rw [hU], by rw [hU]; exact hPc, kk_mv hW hK, hDw⟩⟩ rfl rfl hl.1 rfl (lv_room (Nat.le_of_ble_eq_true rfl)) dB_36_3_38.1.1.1.2 ⟨Nat.le_of_ble_eq_true rfl, Nat.le_of_ble_eq_true rfl⟩) hS (fun q _ h => hFc q h) hFc (fun r_1 u t H locs ht hvm hw hB hz1 hk1 hS => ?_)
  have hP : va_P D vwCl _ H := ro_keep hP hk1
  rcases hw with ⟨w_2, e_⟩ | ⟨w_2, e_⟩
  · have e_ := e_.symm
    subst e_
    refine lv_if_eq (tgt := 14) hx hb dB_36_3_38.1.1.2.1 (by decide) (fun c_3 => ?_) (fun c_3 => ?_)
    · exact absurd c_3 (by decide)
    · have _ := c_3
      refine lv_iload_n hx hb dB_36_3_38.1.1.2.2 rfl (lv_at hl 2 rfl) ?_
      refine ct_R hP hD0 [] [] (by decide) rfl (fun hPc hDw => ?_)
      have hFc := va_free (wc := []) hD hS hA [] rfl
      refine va_calli (va_runS (As := [.int a2]) (rest := []) ⟨hx, hb, hml, hown, hts⟩ (c_X11_isMapKind l D cy H.size a2) (va_cwS 1 hts gX11_numberRefusal_X11_isMapKind rfl rfl rfl hd_X11_isMapKind ⟨Nat.le_of_ble_eq_true rfl, Nat.le_of_ble_eq_true rfl⟩) ⟨bl_, fun U hU hW => ⟨rfl, by rw [hU], by rw [hU]; exact hPc, kk_mv hW hK, hDw⟩⟩ rfl rfl hl.1 rfl (lv_room (Nat.le_of_ble_eq_true rfl)) dB_36_3_38.1.2.1.1 ⟨Nat.le_of_ble_eq_true rfl, Nat.le_of_ble_eq_true rfl⟩) hS (fun q _ h => hFc q h) hFc (fun r_4 u t H locs ht hvm hw hB hz1 hk1 hS => ?_)
      have hP : va_P D vwCl _ H := ro_keep hP hk1
      rcases hw with ⟨w_5, e_⟩ | ⟨w_5, e_⟩
      · have e_ := e_.symm
        subst e_
        refine lv_if_ne (tgt := 16) hx hb dB_36_3_38.1.2.1.2 (by decide) (fun c_6 => ?_) (fun c_6 => ?_)
        · have _ := c_6
          rcases sp_4 (x := a1) (by omega) with rfl | rfl | rfl | rfl
          · refine lv_aload_n hx hb dB_36_3_38.2.1.1.1 rfl (lv_at hl 0 rfl) ?_
            refine va_get (ci := 11) (v := .ref xm) (C := RX11) (T := TX11) (N := 12) hx hb hts (fun _ h => List.mem_cons_of_mem _ (List.mem_append_left _ (List.mem_append_right _ h))) hown hK.1 hP 0 rfl rfl 6 (by decide) (hts (.fieldLink RX11 72 "CutAtlas" "maps" "[LCutAtlas$NumberMap;") (List.mem_of_getElem? (i := 1) rfl)) (fun _ h9 => h9) rfl dB_36_3_38.2.1.1.2 ?_
            refine lv_iload_n hx hb dB_36_3_38.2.1.2.1 rfl (lv_at hl 1 rfl) ?_
            refine va_aldq hx hb hK.1 hP 1 4 rfl rfl (i := 0) (by unfold vp_in; decide) dB_36_3_38.2.1.2.2 ?_
            refine lv_topv (v' := .ref m0) (by simp [va_up, va_rf, mf_, cl_0, cl_1, cl_2, cl_3, cl_4]) ?_
            refine ct_R hP hD0 [ob4_0_ m0 mk0 mr0 l0 u0] [2] (by decide) rfl (fun hPc hDw => ?_)
            have hFc := va_free (wc := []) hD hS hA [] rfl
            refine va_calli (va_runV (As := []) (rest := []) ⟨hx, hb, hml, hown, hts⟩ (c_X4_isThere l D cy H.size m0 l0 u0 mk0 mr0) (cwV 0 hts gX11_numberRefusal_X4_isThere rfl rfl rfl ⟨rfl, hd_X4_isThere⟩ ⟨Nat.le_of_ble_eq_true rfl, Nat.le_of_ble_eq_true rfl⟩) ⟨bl_, va_recvX hK.1 hP (ci := 4) (q0 := 2) rfl rfl, fun U hU hW => ⟨rfl, by rw [hU], by rw [hU]; exact hPc, kk_mv hW hK, hDw⟩⟩ rfl rfl hl.1 rfl (lv_room (Nat.le_of_ble_eq_true rfl)) dB_36_3_38.2.2.1.1 ⟨Nat.le_of_ble_eq_true rfl, Nat.le_of_ble_eq_true rfl⟩) hS (fun q _ h => hFc q h) hFc (fun r_7 u t H locs ht hvm hw hB hz1 hk1 hS => ?_)
            have hP : va_P D vwCl _ H := ro_keep hP hk1
            rcases hw with ⟨w_8, e_⟩ | ⟨w_8, e_⟩
            · have e_ := e_.symm
              subst e_
              refine lv_if_ne (tgt := 31) hx hb dB_36_3_38.2.2.1.2 (by decide) (fun c_9 => ?_) (fun c_9 => ?_)
              · have _ := c_9
                refine lv_aload_n hx hb dB_36_3_39.1.1.1.1 rfl (lv_at hl 0 rfl) ?_
                refine va_get (ci := 11) (v := .ref xm) (C := RX11) (T := TX11) (N := 12) hx hb hts (fun _ h => List.mem_cons_of_mem _ (List.mem_append_left _ (List.mem_append_right _ h))) hown hK.1 hP 0 rfl rfl 6 (by decide) (hts (.fieldLink RX11 72 "CutAtlas" "maps" "[LCutAtlas$NumberMap;") (List.mem_of_getElem? (i := 1) rfl)) (fun _ h9 => h9) rfl dB_36_3_39.1.1.1.2 ?_
                refine lv_iload_n hx hb dB_36_3_39.1.1.2.1 rfl (lv_at hl 1 rfl) ?_
                refine va_aldq hx hb hK.1 hP 1 4 rfl rfl (i := 0) (by unfold vp_in; decide) dB_36_3_39.1.1.2.2 ?_
                refine lv_topv (v' := .ref m0) (by simp [va_up, va_rf, mf_, cl_0, cl_1, cl_2, cl_3, cl_4]) ?_
                refine va_get (ci := 4) (v := .int mk0) (C := RX4) (T := TX4) (N := 4) hx hb hts (fun _ h => List.mem_cons_of_mem _ (List.mem_append_right _ h)) hown hK.1 hP 2 rfl rfl 0 (by decide) (hts (.fieldLink RX11 318 "CutAtlas$NumberMap" "kind" "I") (List.mem_of_getElem? (i := 2) rfl)) (fun _ h9 => h9) rfl dB_36_3_39.1.2.1.1 ?_
                refine lv_iload_n hx hb dB_36_3_39.1.2.1.2 rfl (lv_at hl 2 rfl) ?_
                refine lv_icmp_eq (tgt := 47) hx hb dB_36_3_39.1.2.2.1 (by decide) (fun c_10 => ?_) (fun c_10 => ?_)
                · have t_10 : mk0.toInt = a2.toInt := congrArg Int32.toInt c_10
                  refine lv_aload_n hx hb dB_36_3_39.2.1.1.2 rfl (lv_at hl 0 rfl) ?_
                  refine va_get (ci := 11) (v := .ref xm) (C := RX11) (T := TX11) (N := 12) hx hb hts (fun _ h => List.mem_cons_of_mem _ (List.mem_append_left _ (List.mem_append_right _ h))) hown hK.1 hP 0 rfl rfl 6 (by decide) (hts (.fieldLink RX11 72 "CutAtlas" "maps" "[LCutAtlas$NumberMap;") (List.mem_of_getElem? (i := 1) rfl)) (fun _ h9 => h9) rfl dB_36_3_39.2.1.2.1 ?_
                  refine lv_iload_n hx hb dB_36_3_39.2.1.2.2 rfl (lv_at hl 1 rfl) ?_
                  refine va_aldq hx hb hK.1 hP 1 4 rfl rfl (i := 0) (by unfold vp_in; decide) dB_36_3_39.2.2.1.1 ?_
                  refine lv_topv (v' := .ref m0) (by simp [va_up, va_rf, mf_, cl_0, cl_1, cl_2, cl_3, cl_4]) ?_
                  refine lv_iload_n hx hb dB_36_3_39.2.2.1.2 rfl (lv_at hl 3 rfl) ?_
                  refine ct_R hP hD0 [ob4_0_ m0 mk0 mr0 l0 u0] [2] (by decide) rfl (fun hPc hDw => ?_)
                  have hFc := va_free (wc := []) hD hS hA [] rfl
                  refine va_calli (va_runV (As := [.int a3]) (rest := []) ⟨hx, hb, hml, hown, hts⟩ (c_X4_hasRow l D cy H.size m0 l0 u0 mk0 mr0 a3) (cwV 1 hts gX11_numberRefusal_X4_hasRow rfl rfl rfl ⟨rfl, hd_X4_hasRow⟩ ⟨Nat.le_of_ble_eq_true rfl, Nat.le_of_ble_eq_true rfl⟩) ⟨bl_, va_recvX hK.1 hP (ci := 4) (q0 := 2) rfl rfl, fun U hU hW => ⟨rfl, by rw [hU], by rw [hU]; exact hPc, kk_mv hW hK, hDw⟩⟩ rfl rfl hl.1 rfl (lv_room (Nat.le_of_ble_eq_true rfl)) dB_36_3_39.2.2.2.1 ⟨Nat.le_of_ble_eq_true rfl, Nat.le_of_ble_eq_true rfl⟩) hS (fun q _ h => hFc q h) hFc (fun r_11 u t H locs ht hvm hw hB hz1 hk1 hS => ?_)
                  have hP : va_P D vwCl _ H := ro_keep hP hk1
                  rcases hw with ⟨w_12, e_⟩ | ⟨w_12, e_⟩
                  · have e_ := e_.symm
                    subst e_
                    refine lv_if_ne (tgt := 63) hx hb dB_36_3_39.2.2.2.2 (by decide) (fun c_13 => ?_) (fun c_13 => ?_)
                    · have _ := c_13
                      refine lv_aload_n hx hb dB_36_3_40.1.1.2.1 rfl (lv_at hl 0 rfl) ?_
                      refine va_get (ci := 11) (v := .ref xm) (C := RX11) (T := TX11) (N := 12) hx hb hts (fun _ h => List.mem_cons_of_mem _ (List.mem_append_left _ (List.mem_append_right _ h))) hown hK.1 hP 0 rfl rfl 6 (by decide) (hts (.fieldLink RX11 72 "CutAtlas" "maps" "[LCutAtlas$NumberMap;") (List.mem_of_getElem? (i := 1) rfl)) (fun _ h9 => h9) rfl dB_36_3_40.1.1.2.2 ?_
                      refine lv_iload_n hx hb dB_36_3_40.1.2.1.1 rfl (lv_at hl 1 rfl) ?_
                      refine va_aldq hx hb hK.1 hP 1 4 rfl rfl (i := 0) (by unfold vp_in; decide) dB_36_3_40.1.2.1.2 ?_
                      refine lv_topv (v' := .ref m0) (by simp [va_up, va_rf, mf_, cl_0, cl_1, cl_2, cl_3, cl_4]) ?_
                      refine va_get (ci := 4) (v := .ref l0) (C := RX4) (T := TX4) (N := 4) hx hb hts (fun _ h => List.mem_cons_of_mem _ (List.mem_append_right _ h)) hown hK.1 hP 2 rfl rfl 2 (by decide) (hts (.fieldLink RX11 321 "CutAtlas$NumberMap" "lengths" "[I") (List.mem_of_getElem? (i := 3) rfl)) (fun _ h9 => h9) rfl dB_36_3_40.1.2.2.1 ?_
                      refine lv_iload_n hx hb dB_36_3_40.1.2.2.2 rfl (lv_at hl 3 rfl) ?_
                      have h_14 : vp_in a3 6 := in_I (by first | with_reducible assumption | omega) (by omega)
                      refine va_iald hx hb hK.1 hP 6 0 rfl rfl (i := a3) h_14 dB_36_3_40.2.1.1.1 ?_
                      refine lv_topi (fun y_15 ey_15 => ?_)
                      have ky_15 : y_15.toInt = (fl0 a3.toNatClampNeg).toInt := by rw [ey_15]
                      have ry_15 : -9 ≤ y_15.toInt ∧ y_15.toInt ≤ 5 := by rw [ey_15]; exact r_fl0 _ (in_lt h_14)
                      refine lv_if_ge (tgt := 80) hx hb dB_36_3_40.2.1.1.2 (by decide) (fun c_16 => ?_) (fun c_16 => ?_)
                      · have t_16 : (0 : Int32).toInt ≤ y_15.toInt := Int32.le_iff_toInt_le.mp c_16
                        refine lv_iload hx hb dB_36_3_40.2.2.1.1 (lv_at hl 4 rfl) ?_
                        refine lv_if_lt (tgt := 101) hx hb dB_36_3_40.2.2.1.2 (by decide) (fun c_17 => ?_) (fun c_17 => ?_)
                        · have t_17 : a4.toInt < (0 : Int32).toInt := Int32.lt_iff_toInt_lt.mp c_17
                          refine lv_bipush (v := (-12)) hx hb dB_36_4_4.2.1.1 (by decide) ?_
                          refine lv_goto (tgt := 107) hx hb dB_36_4_4.2.1.2 (by decide) ?_
                          rw [hQ]
                          exact W.iret (v := (-12)) hx hb hr (fun t ht hW => ⟨⟨(-12), (), rfl, ⟨by first | (simp only [f4_c0, f4_c1, f4_c2, f4_c3]; unfold wrgI hasI; (repeat' (first | with_reducible refine if_n (by omega) ?_ | with_reducible refine if_ns (by omega) ?_ | with_reducible refine if_nz (by omega) ?_ | with_reducible exact if_p (by omega) (by omega) | with_reducible exact if_ps (by omega) (by omega) | with_reducible exact if_pz (by omega) (by omega))) <;> omega) | (unfold wrgI hasI; (repeat' (first | with_reducible refine if_n (by omega) ?_ | with_reducible refine if_ns (by omega) ?_ | with_reducible refine if_nz (by omega) ?_ | with_reducible exact if_p (by omega) (by omega) | with_reducible exact if_ps (by omega) (by omega) | with_reducible exact if_pz (by omega) (by omega))) <;> omega), by omega⟩, trivial⟩, hS.F ht⟩) hS.2.2 dB_36_4_4.2.2.2
                        · have t_17 : ¬ a4.toInt < (0 : Int32).toInt := fun h => c_17 (Int32.lt_iff_toInt_lt.mpr h)
                          refine lv_iload hx hb dB_36_3_40.2.2.2.1 (lv_at hl 4 rfl) ?_
                          refine lv_aload_n hx hb dB_36_3_40.2.2.2.2 rfl (lv_at hl 0 rfl) ?_
                          refine va_get (ci := 11) (v := .ref xm) (C := RX11) (T := TX11) (N := 12) hx hb hts (fun _ h => List.mem_cons_of_mem _ (List.mem_append_left _ (List.mem_append_right _ h))) hown hK.1 hP 0 rfl rfl 6 (by decide) (hts (.fieldLink RX11 72 "CutAtlas" "maps" "[LCutAtlas$NumberMap;") (List.mem_of_getElem? (i := 1) rfl)) (fun _ h9 => h9) rfl dB_36_3_41.1.1 ?_
                          refine lv_iload_n hx hb dB_36_3_41.1.2 rfl (lv_at hl 1 rfl) ?_
                          refine va_aldq hx hb hK.1 hP 1 4 rfl rfl (i := 0) (by unfold vp_in; decide) dB_36_3_41.2.1 ?_
                          refine lv_topv (v' := .ref m0) (by simp [va_up, va_rf, mf_, cl_0, cl_1, cl_2, cl_3, cl_4]) ?_
                          refine va_get (ci := 4) (v := .ref l0) (C := RX4) (T := TX4) (N := 4) hx hb hts (fun _ h => List.mem_cons_of_mem _ (List.mem_append_right _ h)) hown hK.1 hP 2 rfl rfl 2 (by decide) (hts (.fieldLink RX11 321 "CutAtlas$NumberMap" "lengths" "[I") (List.mem_of_getElem? (i := 3) rfl)) (fun _ h9 => h9) rfl dB_36_3_41.2.2 ?_
                          refine lv_iload_n hx hb dB_36_4_4.1.1 rfl (lv_at hl 3 rfl) ?_
                          refine va_iald hx hb hK.1 hP 6 0 rfl rfl (i := a3) h_14 dB_36_4_4.1.2.1 ?_
                          refine lv_topi (fun y_19 ey_19 => ?_)
                          have e_ := (ey_19.trans ey_15.symm).symm
                          subst e_
                          skip
                          refine lv_icmp_lt (tgt := 106) hx hb dB_36_4_4.1.2.2 (by decide) (fun c_20 => ?_) (fun c_20 => ?_)
                          · have t_20 : a4.toInt < y_15.toInt := Int32.lt_iff_toInt_lt.mp c_20
                            refine lv_iconst (v := 0) hx hb dB_36_4_4.2.2.1 (by decide) ?_
                            rw [hQ]
                            exact W.iret (v := 0) hx hb hr (fun t ht hW => ⟨⟨0, (), rfl, ⟨by first | (simp only [f4_c0, f4_c1, f4_c2, f4_c3]; unfold wrgI hasI; (repeat' (first | with_reducible refine if_n (by omega) ?_ | with_reducible refine if_ns (by omega) ?_ | with_reducible refine if_nz (by omega) ?_ | with_reducible exact if_p (by omega) (by omega) | with_reducible exact if_ps (by omega) (by omega) | with_reducible exact if_pz (by omega) (by omega))) <;> omega) | (unfold wrgI hasI; (repeat' (first | with_reducible refine if_n (by omega) ?_ | with_reducible refine if_ns (by omega) ?_ | with_reducible refine if_nz (by omega) ?_ | with_reducible exact if_p (by omega) (by omega) | with_reducible exact if_ps (by omega) (by omega) | with_reducible exact if_pz (by omega) (by omega))) <;> omega), by omega⟩, trivial⟩, hS.F ht⟩) hS.2.2 dB_36_4_4.2.2.2
                          · have t_20 : ¬ a4.toInt < y_15.toInt := fun h => c_20 (Int32.lt_iff_toInt_lt.mpr h)
                            refine lv_bipush (v := (-12)) hx hb dB_36_4_4.2.1.1 (by decide) ?_
                            refine lv_goto (tgt := 107) hx hb dB_36_4_4.2.1.2 (by decide) ?_
                            rw [hQ]
                            exact W.iret (v := (-12)) hx hb hr (fun t ht hW => ⟨⟨(-12), (), rfl, ⟨by first | (simp only [f4_c0, f4_c1, f4_c2, f4_c3]; unfold wrgI hasI; (repeat' (first | with_reducible refine if_n (by omega) ?_ | with_reducible refine if_ns (by omega) ?_ | with_reducible refine if_nz (by omega) ?_ | with_reducible exact if_p (by omega) (by omega) | with_reducible exact if_ps (by omega) (by omega) | with_reducible exact if_pz (by omega) (by omega))) <;> omega) | (unfold wrgI hasI; (repeat' (first | with_reducible refine if_n (by omega) ?_ | with_reducible refine if_ns (by omega) ?_ | with_reducible refine if_nz (by omega) ?_ | with_reducible exact if_p (by omega) (by omega) | with_reducible exact if_ps (by omega) (by omega) | with_reducible exact if_pz (by omega) (by omega))) <;> omega), by omega⟩, trivial⟩, hS.F ht⟩) hS.2.2 dB_36_4_4.2.2.2
                      · have t_16 : ¬ (0 : Int32).toInt ≤ y_15.toInt := fun h => c_16 (Int32.le_iff_toInt_le.mpr h)
                        refine lv_bipush (v := (-11)) hx hb dB_36_3_40.2.1.2.1 (by decide) ?_
                        rw [hQ]
                        exact W.iret (v := (-11)) hx hb hr (fun t ht hW => ⟨⟨(-11), (), rfl, ⟨by first | (simp only [f4_c0, f4_c1, f4_c2, f4_c3]; unfold wrgI hasI; (repeat' (first | with_reducible refine if_n (by omega) ?_ | with_reducible refine if_ns (by omega) ?_ | with_reducible refine if_nz (by omega) ?_ | with_reducible exact if_p (by omega) (by omega) | with_reducible exact if_ps (by omega) (by omega) | with_reducible exact if_pz (by omega) (by omega))) <;> omega) | (unfold wrgI hasI; (repeat' (first | with_reducible refine if_n (by omega) ?_ | with_reducible refine if_ns (by omega) ?_ | with_reducible refine if_nz (by omega) ?_ | with_reducible exact if_p (by omega) (by omega) | with_reducible exact if_ps (by omega) (by omega) | with_reducible exact if_pz (by omega) (by omega))) <;> omega), by omega⟩, trivial⟩, hS.F ht⟩) hS.2.2 dB_36_3_40.2.1.2.2
                    · exact absurd c_13 (by decide)
                  · have e_ := e_.symm
                    subst e_
                    refine lv_if_ne (tgt := 63) hx hb dB_36_3_39.2.2.2.2 (by decide) (fun c_21 => ?_) (fun c_21 => ?_)
                    · exact absurd c_21 (by decide)
                    · have _ := c_21
                      refine lv_bipush (v := (-12)) hx hb dB_36_3_40.1.1.1.1 (by decide) ?_
                      rw [hQ]
                      exact W.iret (v := (-12)) hx hb hr (fun t ht hW => ⟨⟨(-12), (), rfl, ⟨by first | (simp only [f4_c0, f4_c1, f4_c2, f4_c3]; unfold wrgI hasI; (repeat' (first | with_reducible refine if_n (by omega) ?_ | with_reducible refine if_ns (by omega) ?_ | with_reducible refine if_nz (by omega) ?_ | with_reducible exact if_p (by omega) (by omega) | with_reducible exact if_ps (by omega) (by omega) | with_reducible exact if_pz (by omega) (by omega))) <;> omega) | (unfold wrgI hasI; (repeat' (first | with_reducible refine if_n (by omega) ?_ | with_reducible refine if_ns (by omega) ?_ | with_reducible refine if_nz (by omega) ?_ | with_reducible exact if_p (by omega) (by omega) | with_reducible exact if_ps (by omega) (by omega) | with_reducible exact if_pz (by omega) (by omega))) <;> omega), by omega⟩, trivial⟩, hS.F ht⟩) hS.2.2 dB_36_3_40.1.1.1.2
                · have t_10 : ¬ mk0.toInt = a2.toInt := fun h => c_10 (Int32.toInt_inj.mp h)
                  refine lv_bipush (v := (-13)) hx hb dB_36_3_39.1.2.2.2 (by decide) ?_
                  rw [hQ]
                  exact W.iret (v := (-13)) hx hb hr (fun t ht hW => ⟨⟨(-13), (), rfl, ⟨by first | (simp only [f4_c0, f4_c1, f4_c2, f4_c3]; unfold wrgI hasI; (repeat' (first | with_reducible refine if_n (by omega) ?_ | with_reducible refine if_ns (by omega) ?_ | with_reducible refine if_nz (by omega) ?_ | with_reducible exact if_p (by omega) (by omega) | with_reducible exact if_ps (by omega) (by omega) | with_reducible exact if_pz (by omega) (by omega))) <;> omega) | (unfold wrgI hasI; (repeat' (first | with_reducible refine if_n (by omega) ?_ | with_reducible refine if_ns (by omega) ?_ | with_reducible refine if_nz (by omega) ?_ | with_reducible exact if_p (by omega) (by omega) | with_reducible exact if_ps (by omega) (by omega) | with_reducible exact if_pz (by omega) (by omega))) <;> omega), by omega⟩, trivial⟩, hS.F ht⟩) hS.2.2 dB_36_3_39.2.1.1.1
              · exact absurd c_9 (by decide)
            · have e_ := e_.symm
              subst e_
              refine lv_if_ne (tgt := 31) hx hb dB_36_3_38.2.2.1.2 (by decide) (fun c_22 => ?_) (fun c_22 => ?_)
              · exact absurd c_22 (by decide)
              · have _ := c_22
                refine lv_bipush (v := (-11)) hx hb dB_36_3_38.2.2.2.1 (by decide) ?_
                rw [hQ]
                exact W.iret (v := (-11)) hx hb hr (fun t ht hW => ⟨⟨(-11), (), rfl, ⟨by first | (simp only [f4_c0, f4_c1, f4_c2, f4_c3]; unfold wrgI hasI; (repeat' (first | with_reducible refine if_n (by omega) ?_ | with_reducible refine if_ns (by omega) ?_ | with_reducible refine if_nz (by omega) ?_ | with_reducible exact if_p (by omega) (by omega) | with_reducible exact if_ps (by omega) (by omega) | with_reducible exact if_pz (by omega) (by omega))) <;> omega) | (unfold wrgI hasI; (repeat' (first | with_reducible refine if_n (by omega) ?_ | with_reducible refine if_ns (by omega) ?_ | with_reducible refine if_nz (by omega) ?_ | with_reducible exact if_p (by omega) (by omega) | with_reducible exact if_ps (by omega) (by omega) | with_reducible exact if_pz (by omega) (by omega))) <;> omega), by omega⟩, trivial⟩, hS.F ht⟩) hS.2.2 dB_36_3_38.2.2.2.2
          · refine lv_aload_n hx hb dB_36_3_38.2.1.1.1 rfl (lv_at hl 0 rfl) ?_
            refine va_get (ci := 11) (v := .ref xm) (C := RX11) (T := TX11) (N := 12) hx hb hts (fun _ h => List.mem_cons_of_mem _ (List.mem_append_left _ (List.mem_append_right _ h))) hown hK.1 hP 0 rfl rfl 6 (by decide) (hts (.fieldLink RX11 72 "CutAtlas" "maps" "[LCutAtlas$NumberMap;") (List.mem_of_getElem? (i := 1) rfl)) (fun _ h9 => h9) rfl dB_36_3_38.2.1.1.2 ?_
            refine lv_iload_n hx hb dB_36_3_38.2.1.2.1 rfl (lv_at hl 1 rfl) ?_
            refine va_aldq hx hb hK.1 hP 1 4 rfl rfl (i := 1) (by unfold vp_in; decide) dB_36_3_38.2.1.2.2 ?_
            refine lv_topv (v' := .ref m1) (by simp [va_up, va_rf, mf_, cl_0, cl_1, cl_2, cl_3, cl_4]) ?_
            refine ct_R hP hD0 [ob4_0_ m1 mk1 mr1 l1 u1] [3] (by decide) rfl (fun hPc hDw => ?_)
            have hFc := va_free (wc := []) hD hS hA [] rfl
            refine va_calli (va_runV (As := []) (rest := []) ⟨hx, hb, hml, hown, hts⟩ (c_X4_isThere l D cy H.size m1 l1 u1 mk1 mr1) (cwV 0 hts gX11_numberRefusal_X4_isThere rfl rfl rfl ⟨rfl, hd_X4_isThere⟩ ⟨Nat.le_of_ble_eq_true rfl, Nat.le_of_ble_eq_true rfl⟩) ⟨bl_, va_recvX hK.1 hP (ci := 4) (q0 := 3) rfl rfl, fun U hU hW => ⟨rfl, by rw [hU], by rw [hU]; exact hPc, kk_mv hW hK, hDw⟩⟩ rfl rfl hl.1 rfl (lv_room (Nat.le_of_ble_eq_true rfl)) dB_36_3_38.2.2.1.1 ⟨Nat.le_of_ble_eq_true rfl, Nat.le_of_ble_eq_true rfl⟩) hS (fun q _ h => hFc q h) hFc (fun r_23 u t H locs ht hvm hw hB hz1 hk1 hS => ?_)
            have hP : va_P D vwCl _ H := ro_keep hP hk1
            rcases hw with ⟨w_24, e_⟩ | ⟨w_24, e_⟩
            · have e_ := e_.symm
              subst e_
              refine lv_if_ne (tgt := 31) hx hb dB_36_3_38.2.2.1.2 (by decide) (fun c_25 => ?_) (fun c_25 => ?_)
              · have _ := c_25
                refine lv_aload_n hx hb dB_36_3_39.1.1.1.1 rfl (lv_at hl 0 rfl) ?_
                refine va_get (ci := 11) (v := .ref xm) (C := RX11) (T := TX11) (N := 12) hx hb hts (fun _ h => List.mem_cons_of_mem _ (List.mem_append_left _ (List.mem_append_right _ h))) hown hK.1 hP 0 rfl rfl 6 (by decide) (hts (.fieldLink RX11 72 "CutAtlas" "maps" "[LCutAtlas$NumberMap;") (List.mem_of_getElem? (i := 1) rfl)) (fun _ h9 => h9) rfl dB_36_3_39.1.1.1.2 ?_
                refine lv_iload_n hx hb dB_36_3_39.1.1.2.1 rfl (lv_at hl 1 rfl) ?_
                refine va_aldq hx hb hK.1 hP 1 4 rfl rfl (i := 1) (by unfold vp_in; decide) dB_36_3_39.1.1.2.2 ?_
                refine lv_topv (v' := .ref m1) (by simp [va_up, va_rf, mf_, cl_0, cl_1, cl_2, cl_3, cl_4]) ?_
                refine va_get (ci := 4) (v := .int mk1) (C := RX4) (T := TX4) (N := 4) hx hb hts (fun _ h => List.mem_cons_of_mem _ (List.mem_append_right _ h)) hown hK.1 hP 3 rfl rfl 0 (by decide) (hts (.fieldLink RX11 318 "CutAtlas$NumberMap" "kind" "I") (List.mem_of_getElem? (i := 2) rfl)) (fun _ h9 => h9) rfl dB_36_3_39.1.2.1.1 ?_
                refine lv_iload_n hx hb dB_36_3_39.1.2.1.2 rfl (lv_at hl 2 rfl) ?_
                refine lv_icmp_eq (tgt := 47) hx hb dB_36_3_39.1.2.2.1 (by decide) (fun c_26 => ?_) (fun c_26 => ?_)
                · have t_26 : mk1.toInt = a2.toInt := congrArg Int32.toInt c_26
                  refine lv_aload_n hx hb dB_36_3_39.2.1.1.2 rfl (lv_at hl 0 rfl) ?_
                  refine va_get (ci := 11) (v := .ref xm) (C := RX11) (T := TX11) (N := 12) hx hb hts (fun _ h => List.mem_cons_of_mem _ (List.mem_append_left _ (List.mem_append_right _ h))) hown hK.1 hP 0 rfl rfl 6 (by decide) (hts (.fieldLink RX11 72 "CutAtlas" "maps" "[LCutAtlas$NumberMap;") (List.mem_of_getElem? (i := 1) rfl)) (fun _ h9 => h9) rfl dB_36_3_39.2.1.2.1 ?_
                  refine lv_iload_n hx hb dB_36_3_39.2.1.2.2 rfl (lv_at hl 1 rfl) ?_
                  refine va_aldq hx hb hK.1 hP 1 4 rfl rfl (i := 1) (by unfold vp_in; decide) dB_36_3_39.2.2.1.1 ?_
                  refine lv_topv (v' := .ref m1) (by simp [va_up, va_rf, mf_, cl_0, cl_1, cl_2, cl_3, cl_4]) ?_
                  refine lv_iload_n hx hb dB_36_3_39.2.2.1.2 rfl (lv_at hl 3 rfl) ?_
                  refine ct_R hP hD0 [ob4_0_ m1 mk1 mr1 l1 u1] [3] (by decide) rfl (fun hPc hDw => ?_)
                  have hFc := va_free (wc := []) hD hS hA [] rfl
                  refine va_calli (va_runV (As := [.int a3]) (rest := []) ⟨hx, hb, hml, hown, hts⟩ (c_X4_hasRow l D cy H.size m1 l1 u1 mk1 mr1 a3) (cwV 1 hts gX11_numberRefusal_X4_hasRow rfl rfl rfl ⟨rfl, hd_X4_hasRow⟩ ⟨Nat.le_of_ble_eq_true rfl, Nat.le_of_ble_eq_true rfl⟩) ⟨bl_, va_recvX hK.1 hP (ci := 4) (q0 := 3) rfl rfl, fun U hU hW => ⟨rfl, by rw [hU], by rw [hU]; exact hPc, kk_mv hW hK, hDw⟩⟩ rfl rfl hl.1 rfl (lv_room (Nat.le_of_ble_eq_true rfl)) dB_36_3_39.2.2.2.1 ⟨Nat.le_of_ble_eq_true rfl, Nat.le_of_ble_eq_true rfl⟩) hS (fun q _ h => hFc q h) hFc (fun r_27 u t H locs ht hvm hw hB hz1 hk1 hS => ?_)
                  have hP : va_P D vwCl _ H := ro_keep hP hk1
                  rcases hw with ⟨w_28, e_⟩ | ⟨w_28, e_⟩
                  · have e_ := e_.symm
                    subst e_
                    refine lv_if_ne (tgt := 63) hx hb dB_36_3_39.2.2.2.2 (by decide) (fun c_29 => ?_) (fun c_29 => ?_)
                    · have _ := c_29
                      refine lv_aload_n hx hb dB_36_3_40.1.1.2.1 rfl (lv_at hl 0 rfl) ?_
                      refine va_get (ci := 11) (v := .ref xm) (C := RX11) (T := TX11) (N := 12) hx hb hts (fun _ h => List.mem_cons_of_mem _ (List.mem_append_left _ (List.mem_append_right _ h))) hown hK.1 hP 0 rfl rfl 6 (by decide) (hts (.fieldLink RX11 72 "CutAtlas" "maps" "[LCutAtlas$NumberMap;") (List.mem_of_getElem? (i := 1) rfl)) (fun _ h9 => h9) rfl dB_36_3_40.1.1.2.2 ?_
                      refine lv_iload_n hx hb dB_36_3_40.1.2.1.1 rfl (lv_at hl 1 rfl) ?_
                      refine va_aldq hx hb hK.1 hP 1 4 rfl rfl (i := 1) (by unfold vp_in; decide) dB_36_3_40.1.2.1.2 ?_
                      refine lv_topv (v' := .ref m1) (by simp [va_up, va_rf, mf_, cl_0, cl_1, cl_2, cl_3, cl_4]) ?_
                      refine va_get (ci := 4) (v := .ref l1) (C := RX4) (T := TX4) (N := 4) hx hb hts (fun _ h => List.mem_cons_of_mem _ (List.mem_append_right _ h)) hown hK.1 hP 3 rfl rfl 2 (by decide) (hts (.fieldLink RX11 321 "CutAtlas$NumberMap" "lengths" "[I") (List.mem_of_getElem? (i := 3) rfl)) (fun _ h9 => h9) rfl dB_36_3_40.1.2.2.1 ?_
                      refine lv_iload_n hx hb dB_36_3_40.1.2.2.2 rfl (lv_at hl 3 rfl) ?_
                      have h_30 : vp_in a3 6 := in_I (by first | with_reducible assumption | omega) (by omega)
                      refine va_iald hx hb hK.1 hP 7 0 rfl rfl (i := a3) h_30 dB_36_3_40.2.1.1.1 ?_
                      refine lv_topi (fun y_31 ey_31 => ?_)
                      have ky_31 : y_31.toInt = (fl1 a3.toNatClampNeg).toInt := by rw [ey_31]
                      have ry_31 : -9 ≤ y_31.toInt ∧ y_31.toInt ≤ 5 := by rw [ey_31]; exact r_fl1 _ (in_lt h_30)
                      refine lv_if_ge (tgt := 80) hx hb dB_36_3_40.2.1.1.2 (by decide) (fun c_32 => ?_) (fun c_32 => ?_)
                      · have t_32 : (0 : Int32).toInt ≤ y_31.toInt := Int32.le_iff_toInt_le.mp c_32
                        refine lv_iload hx hb dB_36_3_40.2.2.1.1 (lv_at hl 4 rfl) ?_
                        refine lv_if_lt (tgt := 101) hx hb dB_36_3_40.2.2.1.2 (by decide) (fun c_33 => ?_) (fun c_33 => ?_)
                        · have t_33 : a4.toInt < (0 : Int32).toInt := Int32.lt_iff_toInt_lt.mp c_33
                          refine lv_bipush (v := (-12)) hx hb dB_36_4_4.2.1.1 (by decide) ?_
                          refine lv_goto (tgt := 107) hx hb dB_36_4_4.2.1.2 (by decide) ?_
                          rw [hQ]
                          exact W.iret (v := (-12)) hx hb hr (fun t ht hW => ⟨⟨(-12), (), rfl, ⟨by first | (simp only [f4_c0, f4_c1, f4_c2, f4_c3]; unfold wrgI hasI; (repeat' (first | with_reducible refine if_n (by omega) ?_ | with_reducible refine if_ns (by omega) ?_ | with_reducible refine if_nz (by omega) ?_ | with_reducible exact if_p (by omega) (by omega) | with_reducible exact if_ps (by omega) (by omega) | with_reducible exact if_pz (by omega) (by omega))) <;> omega) | (unfold wrgI hasI; (repeat' (first | with_reducible refine if_n (by omega) ?_ | with_reducible refine if_ns (by omega) ?_ | with_reducible refine if_nz (by omega) ?_ | with_reducible exact if_p (by omega) (by omega) | with_reducible exact if_ps (by omega) (by omega) | with_reducible exact if_pz (by omega) (by omega))) <;> omega), by omega⟩, trivial⟩, hS.F ht⟩) hS.2.2 dB_36_4_4.2.2.2
                        · have t_33 : ¬ a4.toInt < (0 : Int32).toInt := fun h => c_33 (Int32.lt_iff_toInt_lt.mpr h)
                          refine lv_iload hx hb dB_36_3_40.2.2.2.1 (lv_at hl 4 rfl) ?_
                          refine lv_aload_n hx hb dB_36_3_40.2.2.2.2 rfl (lv_at hl 0 rfl) ?_
                          refine va_get (ci := 11) (v := .ref xm) (C := RX11) (T := TX11) (N := 12) hx hb hts (fun _ h => List.mem_cons_of_mem _ (List.mem_append_left _ (List.mem_append_right _ h))) hown hK.1 hP 0 rfl rfl 6 (by decide) (hts (.fieldLink RX11 72 "CutAtlas" "maps" "[LCutAtlas$NumberMap;") (List.mem_of_getElem? (i := 1) rfl)) (fun _ h9 => h9) rfl dB_36_3_41.1.1 ?_
                          refine lv_iload_n hx hb dB_36_3_41.1.2 rfl (lv_at hl 1 rfl) ?_
                          refine va_aldq hx hb hK.1 hP 1 4 rfl rfl (i := 1) (by unfold vp_in; decide) dB_36_3_41.2.1 ?_
                          refine lv_topv (v' := .ref m1) (by simp [va_up, va_rf, mf_, cl_0, cl_1, cl_2, cl_3, cl_4]) ?_
                          refine va_get (ci := 4) (v := .ref l1) (C := RX4) (T := TX4) (N := 4) hx hb hts (fun _ h => List.mem_cons_of_mem _ (List.mem_append_right _ h)) hown hK.1 hP 3 rfl rfl 2 (by decide) (hts (.fieldLink RX11 321 "CutAtlas$NumberMap" "lengths" "[I") (List.mem_of_getElem? (i := 3) rfl)) (fun _ h9 => h9) rfl dB_36_3_41.2.2 ?_
                          refine lv_iload_n hx hb dB_36_4_4.1.1 rfl (lv_at hl 3 rfl) ?_
                          refine va_iald hx hb hK.1 hP 7 0 rfl rfl (i := a3) h_30 dB_36_4_4.1.2.1 ?_
                          refine lv_topi (fun y_35 ey_35 => ?_)
                          have e_ := (ey_35.trans ey_31.symm).symm
                          subst e_
                          skip
                          refine lv_icmp_lt (tgt := 106) hx hb dB_36_4_4.1.2.2 (by decide) (fun c_36 => ?_) (fun c_36 => ?_)
                          · have t_36 : a4.toInt < y_31.toInt := Int32.lt_iff_toInt_lt.mp c_36
                            refine lv_iconst (v := 0) hx hb dB_36_4_4.2.2.1 (by decide) ?_
                            rw [hQ]
                            exact W.iret (v := 0) hx hb hr (fun t ht hW => ⟨⟨0, (), rfl, ⟨by first | (simp only [f4_c0, f4_c1, f4_c2, f4_c3]; unfold wrgI hasI; (repeat' (first | with_reducible refine if_n (by omega) ?_ | with_reducible refine if_ns (by omega) ?_ | with_reducible refine if_nz (by omega) ?_ | with_reducible exact if_p (by omega) (by omega) | with_reducible exact if_ps (by omega) (by omega) | with_reducible exact if_pz (by omega) (by omega))) <;> omega) | (unfold wrgI hasI; (repeat' (first | with_reducible refine if_n (by omega) ?_ | with_reducible refine if_ns (by omega) ?_ | with_reducible refine if_nz (by omega) ?_ | with_reducible exact if_p (by omega) (by omega) | with_reducible exact if_ps (by omega) (by omega) | with_reducible exact if_pz (by omega) (by omega))) <;> omega), by omega⟩, trivial⟩, hS.F ht⟩) hS.2.2 dB_36_4_4.2.2.2
                          · have t_36 : ¬ a4.toInt < y_31.toInt := fun h => c_36 (Int32.lt_iff_toInt_lt.mpr h)
                            refine lv_bipush (v := (-12)) hx hb dB_36_4_4.2.1.1 (by decide) ?_
                            refine lv_goto (tgt := 107) hx hb dB_36_4_4.2.1.2 (by decide) ?_
                            rw [hQ]
                            exact W.iret (v := (-12)) hx hb hr (fun t ht hW => ⟨⟨(-12), (), rfl, ⟨by first | (simp only [f4_c0, f4_c1, f4_c2, f4_c3]; unfold wrgI hasI; (repeat' (first | with_reducible refine if_n (by omega) ?_ | with_reducible refine if_ns (by omega) ?_ | with_reducible refine if_nz (by omega) ?_ | with_reducible exact if_p (by omega) (by omega) | with_reducible exact if_ps (by omega) (by omega) | with_reducible exact if_pz (by omega) (by omega))) <;> omega) | (unfold wrgI hasI; (repeat' (first | with_reducible refine if_n (by omega) ?_ | with_reducible refine if_ns (by omega) ?_ | with_reducible refine if_nz (by omega) ?_ | with_reducible exact if_p (by omega) (by omega) | with_reducible exact if_ps (by omega) (by omega) | with_reducible exact if_pz (by omega) (by omega))) <;> omega), by omega⟩, trivial⟩, hS.F ht⟩) hS.2.2 dB_36_4_4.2.2.2
                      · have t_32 : ¬ (0 : Int32).toInt ≤ y_31.toInt := fun h => c_32 (Int32.le_iff_toInt_le.mpr h)
                        refine lv_bipush (v := (-11)) hx hb dB_36_3_40.2.1.2.1 (by decide) ?_
                        rw [hQ]
                        exact W.iret (v := (-11)) hx hb hr (fun t ht hW => ⟨⟨(-11), (), rfl, ⟨by first | (simp only [f4_c0, f4_c1, f4_c2, f4_c3]; unfold wrgI hasI; (repeat' (first | with_reducible refine if_n (by omega) ?_ | with_reducible refine if_ns (by omega) ?_ | with_reducible refine if_nz (by omega) ?_ | with_reducible exact if_p (by omega) (by omega) | with_reducible exact if_ps (by omega) (by omega) | with_reducible exact if_pz (by omega) (by omega))) <;> omega) | (unfold wrgI hasI; (repeat' (first | with_reducible refine if_n (by omega) ?_ | with_reducible refine if_ns (by omega) ?_ | with_reducible refine if_nz (by omega) ?_ | with_reducible exact if_p (by omega) (by omega) | with_reducible exact if_ps (by omega) (by omega) | with_reducible exact if_pz (by omega) (by omega))) <;> omega), by omega⟩, trivial⟩, hS.F ht⟩) hS.2.2 dB_36_3_40.2.1.2.2
                    · exact absurd c_29 (by decide)
                  · have e_ := e_.symm
                    subst e_
                    refine lv_if_ne (tgt := 63) hx hb dB_36_3_39.2.2.2.2 (by decide) (fun c_37 => ?_) (fun c_37 => ?_)
                    · exact absurd c_37 (by decide)
                    · have _ := c_37
                      refine lv_bipush (v := (-12)) hx hb dB_36_3_40.1.1.1.1 (by decide) ?_
                      rw [hQ]
                      exact W.iret (v := (-12)) hx hb hr (fun t ht hW => ⟨⟨(-12), (), rfl, ⟨by first | (simp only [f4_c0, f4_c1, f4_c2, f4_c3]; unfold wrgI hasI; (repeat' (first | with_reducible refine if_n (by omega) ?_ | with_reducible refine if_ns (by omega) ?_ | with_reducible refine if_nz (by omega) ?_ | with_reducible exact if_p (by omega) (by omega) | with_reducible exact if_ps (by omega) (by omega) | with_reducible exact if_pz (by omega) (by omega))) <;> omega) | (unfold wrgI hasI; (repeat' (first | with_reducible refine if_n (by omega) ?_ | with_reducible refine if_ns (by omega) ?_ | with_reducible refine if_nz (by omega) ?_ | with_reducible exact if_p (by omega) (by omega) | with_reducible exact if_ps (by omega) (by omega) | with_reducible exact if_pz (by omega) (by omega))) <;> omega), by omega⟩, trivial⟩, hS.F ht⟩) hS.2.2 dB_36_3_40.1.1.1.2
                · have t_26 : ¬ mk1.toInt = a2.toInt := fun h => c_26 (Int32.toInt_inj.mp h)
                  refine lv_bipush (v := (-13)) hx hb dB_36_3_39.1.2.2.2 (by decide) ?_
                  rw [hQ]
                  exact W.iret (v := (-13)) hx hb hr (fun t ht hW => ⟨⟨(-13), (), rfl, ⟨by first | (simp only [f4_c0, f4_c1, f4_c2, f4_c3]; unfold wrgI hasI; (repeat' (first | with_reducible refine if_n (by omega) ?_ | with_reducible refine if_ns (by omega) ?_ | with_reducible refine if_nz (by omega) ?_ | with_reducible exact if_p (by omega) (by omega) | with_reducible exact if_ps (by omega) (by omega) | with_reducible exact if_pz (by omega) (by omega))) <;> omega) | (unfold wrgI hasI; (repeat' (first | with_reducible refine if_n (by omega) ?_ | with_reducible refine if_ns (by omega) ?_ | with_reducible refine if_nz (by omega) ?_ | with_reducible exact if_p (by omega) (by omega) | with_reducible exact if_ps (by omega) (by omega) | with_reducible exact if_pz (by omega) (by omega))) <;> omega), by omega⟩, trivial⟩, hS.F ht⟩) hS.2.2 dB_36_3_39.2.1.1.1
              · exact absurd c_25 (by decide)
            · have e_ := e_.symm
              subst e_
              refine lv_if_ne (tgt := 31) hx hb dB_36_3_38.2.2.1.2 (by decide) (fun c_38 => ?_) (fun c_38 => ?_)
              · exact absurd c_38 (by decide)
              · have _ := c_38
                refine lv_bipush (v := (-11)) hx hb dB_36_3_38.2.2.2.1 (by decide) ?_
                rw [hQ]
                exact W.iret (v := (-11)) hx hb hr (fun t ht hW => ⟨⟨(-11), (), rfl, ⟨by first | (simp only [f4_c0, f4_c1, f4_c2, f4_c3]; unfold wrgI hasI; (repeat' (first | with_reducible refine if_n (by omega) ?_ | with_reducible refine if_ns (by omega) ?_ | with_reducible refine if_nz (by omega) ?_ | with_reducible exact if_p (by omega) (by omega) | with_reducible exact if_ps (by omega) (by omega) | with_reducible exact if_pz (by omega) (by omega))) <;> omega) | (unfold wrgI hasI; (repeat' (first | with_reducible refine if_n (by omega) ?_ | with_reducible refine if_ns (by omega) ?_ | with_reducible refine if_nz (by omega) ?_ | with_reducible exact if_p (by omega) (by omega) | with_reducible exact if_ps (by omega) (by omega) | with_reducible exact if_pz (by omega) (by omega))) <;> omega), by omega⟩, trivial⟩, hS.F ht⟩) hS.2.2 dB_36_3_38.2.2.2.2
          · refine lv_aload_n hx hb dB_36_3_38.2.1.1.1 rfl (lv_at hl 0 rfl) ?_
            refine va_get (ci := 11) (v := .ref xm) (C := RX11) (T := TX11) (N := 12) hx hb hts (fun _ h => List.mem_cons_of_mem _ (List.mem_append_left _ (List.mem_append_right _ h))) hown hK.1 hP 0 rfl rfl 6 (by decide) (hts (.fieldLink RX11 72 "CutAtlas" "maps" "[LCutAtlas$NumberMap;") (List.mem_of_getElem? (i := 1) rfl)) (fun _ h9 => h9) rfl dB_36_3_38.2.1.1.2 ?_
            refine lv_iload_n hx hb dB_36_3_38.2.1.2.1 rfl (lv_at hl 1 rfl) ?_
            refine va_aldq hx hb hK.1 hP 1 4 rfl rfl (i := 2) (by unfold vp_in; decide) dB_36_3_38.2.1.2.2 ?_
            refine lv_topv (v' := .ref m2) (by simp [va_up, va_rf, mf_, cl_0, cl_1, cl_2, cl_3, cl_4]) ?_
            refine ct_R hP hD0 [ob4_0_ m2 mk2 mr2 l2 u2] [4] (by decide) rfl (fun hPc hDw => ?_)
            have hFc := va_free (wc := []) hD hS hA [] rfl
            refine va_calli (va_runV (As := []) (rest := []) ⟨hx, hb, hml, hown, hts⟩ (c_X4_isThere l D cy H.size m2 l2 u2 mk2 mr2) (cwV 0 hts gX11_numberRefusal_X4_isThere rfl rfl rfl ⟨rfl, hd_X4_isThere⟩ ⟨Nat.le_of_ble_eq_true rfl, Nat.le_of_ble_eq_true rfl⟩) ⟨bl_, va_recvX hK.1 hP (ci := 4) (q0 := 4) rfl rfl, fun U hU hW => ⟨rfl, by rw [hU], by rw [hU]; exact hPc, kk_mv hW hK, hDw⟩⟩ rfl rfl hl.1 rfl (lv_room (Nat.le_of_ble_eq_true rfl)) dB_36_3_38.2.2.1.1 ⟨Nat.le_of_ble_eq_true rfl, Nat.le_of_ble_eq_true rfl⟩) hS (fun q _ h => hFc q h) hFc (fun r_39 u t H locs ht hvm hw hB hz1 hk1 hS => ?_)
            have hP : va_P D vwCl _ H := ro_keep hP hk1
            rcases hw with ⟨w_40, e_⟩ | ⟨w_40, e_⟩
            · have e_ := e_.symm
              subst e_
              refine lv_if_ne (tgt := 31) hx hb dB_36_3_38.2.2.1.2 (by decide) (fun c_41 => ?_) (fun c_41 => ?_)
              · have _ := c_41
                refine lv_aload_n hx hb dB_36_3_39.1.1.1.1 rfl (lv_at hl 0 rfl) ?_
                refine va_get (ci := 11) (v := .ref xm) (C := RX11) (T := TX11) (N := 12) hx hb hts (fun _ h => List.mem_cons_of_mem _ (List.mem_append_left _ (List.mem_append_right _ h))) hown hK.1 hP 0 rfl rfl 6 (by decide) (hts (.fieldLink RX11 72 "CutAtlas" "maps" "[LCutAtlas$NumberMap;") (List.mem_of_getElem? (i := 1) rfl)) (fun _ h9 => h9) rfl dB_36_3_39.1.1.1.2 ?_
                refine lv_iload_n hx hb dB_36_3_39.1.1.2.1 rfl (lv_at hl 1 rfl) ?_
                refine va_aldq hx hb hK.1 hP 1 4 rfl rfl (i := 2) (by unfold vp_in; decide) dB_36_3_39.1.1.2.2 ?_
                refine lv_topv (v' := .ref m2) (by simp [va_up, va_rf, mf_, cl_0, cl_1, cl_2, cl_3, cl_4]) ?_
                refine va_get (ci := 4) (v := .int mk2) (C := RX4) (T := TX4) (N := 4) hx hb hts (fun _ h => List.mem_cons_of_mem _ (List.mem_append_right _ h)) hown hK.1 hP 4 rfl rfl 0 (by decide) (hts (.fieldLink RX11 318 "CutAtlas$NumberMap" "kind" "I") (List.mem_of_getElem? (i := 2) rfl)) (fun _ h9 => h9) rfl dB_36_3_39.1.2.1.1 ?_
                refine lv_iload_n hx hb dB_36_3_39.1.2.1.2 rfl (lv_at hl 2 rfl) ?_
                refine lv_icmp_eq (tgt := 47) hx hb dB_36_3_39.1.2.2.1 (by decide) (fun c_42 => ?_) (fun c_42 => ?_)
                · have t_42 : mk2.toInt = a2.toInt := congrArg Int32.toInt c_42
                  refine lv_aload_n hx hb dB_36_3_39.2.1.1.2 rfl (lv_at hl 0 rfl) ?_
                  refine va_get (ci := 11) (v := .ref xm) (C := RX11) (T := TX11) (N := 12) hx hb hts (fun _ h => List.mem_cons_of_mem _ (List.mem_append_left _ (List.mem_append_right _ h))) hown hK.1 hP 0 rfl rfl 6 (by decide) (hts (.fieldLink RX11 72 "CutAtlas" "maps" "[LCutAtlas$NumberMap;") (List.mem_of_getElem? (i := 1) rfl)) (fun _ h9 => h9) rfl dB_36_3_39.2.1.2.1 ?_
                  refine lv_iload_n hx hb dB_36_3_39.2.1.2.2 rfl (lv_at hl 1 rfl) ?_
                  refine va_aldq hx hb hK.1 hP 1 4 rfl rfl (i := 2) (by unfold vp_in; decide) dB_36_3_39.2.2.1.1 ?_
                  refine lv_topv (v' := .ref m2) (by simp [va_up, va_rf, mf_, cl_0, cl_1, cl_2, cl_3, cl_4]) ?_
                  refine lv_iload_n hx hb dB_36_3_39.2.2.1.2 rfl (lv_at hl 3 rfl) ?_
                  refine ct_R hP hD0 [ob4_0_ m2 mk2 mr2 l2 u2] [4] (by decide) rfl (fun hPc hDw => ?_)
                  have hFc := va_free (wc := []) hD hS hA [] rfl
                  refine va_calli (va_runV (As := [.int a3]) (rest := []) ⟨hx, hb, hml, hown, hts⟩ (c_X4_hasRow l D cy H.size m2 l2 u2 mk2 mr2 a3) (cwV 1 hts gX11_numberRefusal_X4_hasRow rfl rfl rfl ⟨rfl, hd_X4_hasRow⟩ ⟨Nat.le_of_ble_eq_true rfl, Nat.le_of_ble_eq_true rfl⟩) ⟨bl_, va_recvX hK.1 hP (ci := 4) (q0 := 4) rfl rfl, fun U hU hW => ⟨rfl, by rw [hU], by rw [hU]; exact hPc, kk_mv hW hK, hDw⟩⟩ rfl rfl hl.1 rfl (lv_room (Nat.le_of_ble_eq_true rfl)) dB_36_3_39.2.2.2.1 ⟨Nat.le_of_ble_eq_true rfl, Nat.le_of_ble_eq_true rfl⟩) hS (fun q _ h => hFc q h) hFc (fun r_43 u t H locs ht hvm hw hB hz1 hk1 hS => ?_)
                  have hP : va_P D vwCl _ H := ro_keep hP hk1
                  rcases hw with ⟨w_44, e_⟩ | ⟨w_44, e_⟩
                  · have e_ := e_.symm
                    subst e_
                    refine lv_if_ne (tgt := 63) hx hb dB_36_3_39.2.2.2.2 (by decide) (fun c_45 => ?_) (fun c_45 => ?_)
                    · have _ := c_45
                      refine lv_aload_n hx hb dB_36_3_40.1.1.2.1 rfl (lv_at hl 0 rfl) ?_
                      refine va_get (ci := 11) (v := .ref xm) (C := RX11) (T := TX11) (N := 12) hx hb hts (fun _ h => List.mem_cons_of_mem _ (List.mem_append_left _ (List.mem_append_right _ h))) hown hK.1 hP 0 rfl rfl 6 (by decide) (hts (.fieldLink RX11 72 "CutAtlas" "maps" "[LCutAtlas$NumberMap;") (List.mem_of_getElem? (i := 1) rfl)) (fun _ h9 => h9) rfl dB_36_3_40.1.1.2.2 ?_
                      refine lv_iload_n hx hb dB_36_3_40.1.2.1.1 rfl (lv_at hl 1 rfl) ?_
                      refine va_aldq hx hb hK.1 hP 1 4 rfl rfl (i := 2) (by unfold vp_in; decide) dB_36_3_40.1.2.1.2 ?_
                      refine lv_topv (v' := .ref m2) (by simp [va_up, va_rf, mf_, cl_0, cl_1, cl_2, cl_3, cl_4]) ?_
                      refine va_get (ci := 4) (v := .ref l2) (C := RX4) (T := TX4) (N := 4) hx hb hts (fun _ h => List.mem_cons_of_mem _ (List.mem_append_right _ h)) hown hK.1 hP 4 rfl rfl 2 (by decide) (hts (.fieldLink RX11 321 "CutAtlas$NumberMap" "lengths" "[I") (List.mem_of_getElem? (i := 3) rfl)) (fun _ h9 => h9) rfl dB_36_3_40.1.2.2.1 ?_
                      refine lv_iload_n hx hb dB_36_3_40.1.2.2.2 rfl (lv_at hl 3 rfl) ?_
                      have h_46 : vp_in a3 6 := in_I (by first | with_reducible assumption | omega) (by omega)
                      refine va_iald hx hb hK.1 hP 8 0 rfl rfl (i := a3) h_46 dB_36_3_40.2.1.1.1 ?_
                      refine lv_topi (fun y_47 ey_47 => ?_)
                      have ky_47 : y_47.toInt = (fl2 a3.toNatClampNeg).toInt := by rw [ey_47]
                      have ry_47 : -9 ≤ y_47.toInt ∧ y_47.toInt ≤ 5 := by rw [ey_47]; exact r_fl2 _ (in_lt h_46)
                      refine lv_if_ge (tgt := 80) hx hb dB_36_3_40.2.1.1.2 (by decide) (fun c_48 => ?_) (fun c_48 => ?_)
                      · have t_48 : (0 : Int32).toInt ≤ y_47.toInt := Int32.le_iff_toInt_le.mp c_48
                        refine lv_iload hx hb dB_36_3_40.2.2.1.1 (lv_at hl 4 rfl) ?_
                        refine lv_if_lt (tgt := 101) hx hb dB_36_3_40.2.2.1.2 (by decide) (fun c_49 => ?_) (fun c_49 => ?_)
                        · have t_49 : a4.toInt < (0 : Int32).toInt := Int32.lt_iff_toInt_lt.mp c_49
                          refine lv_bipush (v := (-12)) hx hb dB_36_4_4.2.1.1 (by decide) ?_
                          refine lv_goto (tgt := 107) hx hb dB_36_4_4.2.1.2 (by decide) ?_
                          rw [hQ]
                          exact W.iret (v := (-12)) hx hb hr (fun t ht hW => ⟨⟨(-12), (), rfl, ⟨by first | (simp only [f4_c0, f4_c1, f4_c2, f4_c3]; unfold wrgI hasI; (repeat' (first | with_reducible refine if_n (by omega) ?_ | with_reducible refine if_ns (by omega) ?_ | with_reducible refine if_nz (by omega) ?_ | with_reducible exact if_p (by omega) (by omega) | with_reducible exact if_ps (by omega) (by omega) | with_reducible exact if_pz (by omega) (by omega))) <;> omega) | (unfold wrgI hasI; (repeat' (first | with_reducible refine if_n (by omega) ?_ | with_reducible refine if_ns (by omega) ?_ | with_reducible refine if_nz (by omega) ?_ | with_reducible exact if_p (by omega) (by omega) | with_reducible exact if_ps (by omega) (by omega) | with_reducible exact if_pz (by omega) (by omega))) <;> omega), by omega⟩, trivial⟩, hS.F ht⟩) hS.2.2 dB_36_4_4.2.2.2
                        · have t_49 : ¬ a4.toInt < (0 : Int32).toInt := fun h => c_49 (Int32.lt_iff_toInt_lt.mpr h)
                          refine lv_iload hx hb dB_36_3_40.2.2.2.1 (lv_at hl 4 rfl) ?_
                          refine lv_aload_n hx hb dB_36_3_40.2.2.2.2 rfl (lv_at hl 0 rfl) ?_
                          refine va_get (ci := 11) (v := .ref xm) (C := RX11) (T := TX11) (N := 12) hx hb hts (fun _ h => List.mem_cons_of_mem _ (List.mem_append_left _ (List.mem_append_right _ h))) hown hK.1 hP 0 rfl rfl 6 (by decide) (hts (.fieldLink RX11 72 "CutAtlas" "maps" "[LCutAtlas$NumberMap;") (List.mem_of_getElem? (i := 1) rfl)) (fun _ h9 => h9) rfl dB_36_3_41.1.1 ?_
                          refine lv_iload_n hx hb dB_36_3_41.1.2 rfl (lv_at hl 1 rfl) ?_
                          refine va_aldq hx hb hK.1 hP 1 4 rfl rfl (i := 2) (by unfold vp_in; decide) dB_36_3_41.2.1 ?_
                          refine lv_topv (v' := .ref m2) (by simp [va_up, va_rf, mf_, cl_0, cl_1, cl_2, cl_3, cl_4]) ?_
                          refine va_get (ci := 4) (v := .ref l2) (C := RX4) (T := TX4) (N := 4) hx hb hts (fun _ h => List.mem_cons_of_mem _ (List.mem_append_right _ h)) hown hK.1 hP 4 rfl rfl 2 (by decide) (hts (.fieldLink RX11 321 "CutAtlas$NumberMap" "lengths" "[I") (List.mem_of_getElem? (i := 3) rfl)) (fun _ h9 => h9) rfl dB_36_3_41.2.2 ?_
                          refine lv_iload_n hx hb dB_36_4_4.1.1 rfl (lv_at hl 3 rfl) ?_
                          refine va_iald hx hb hK.1 hP 8 0 rfl rfl (i := a3) h_46 dB_36_4_4.1.2.1 ?_
                          refine lv_topi (fun y_51 ey_51 => ?_)
                          have e_ := (ey_51.trans ey_47.symm).symm
                          subst e_
                          skip
                          refine lv_icmp_lt (tgt := 106) hx hb dB_36_4_4.1.2.2 (by decide) (fun c_52 => ?_) (fun c_52 => ?_)
                          · have t_52 : a4.toInt < y_47.toInt := Int32.lt_iff_toInt_lt.mp c_52
                            refine lv_iconst (v := 0) hx hb dB_36_4_4.2.2.1 (by decide) ?_
                            rw [hQ]
                            exact W.iret (v := 0) hx hb hr (fun t ht hW => ⟨⟨0, (), rfl, ⟨by first | (simp only [f4_c0, f4_c1, f4_c2, f4_c3]; unfold wrgI hasI; (repeat' (first | with_reducible refine if_n (by omega) ?_ | with_reducible refine if_ns (by omega) ?_ | with_reducible refine if_nz (by omega) ?_ | with_reducible exact if_p (by omega) (by omega) | with_reducible exact if_ps (by omega) (by omega) | with_reducible exact if_pz (by omega) (by omega))) <;> omega) | (unfold wrgI hasI; (repeat' (first | with_reducible refine if_n (by omega) ?_ | with_reducible refine if_ns (by omega) ?_ | with_reducible refine if_nz (by omega) ?_ | with_reducible exact if_p (by omega) (by omega) | with_reducible exact if_ps (by omega) (by omega) | with_reducible exact if_pz (by omega) (by omega))) <;> omega), by omega⟩, trivial⟩, hS.F ht⟩) hS.2.2 dB_36_4_4.2.2.2
                          · have t_52 : ¬ a4.toInt < y_47.toInt := fun h => c_52 (Int32.lt_iff_toInt_lt.mpr h)
                            refine lv_bipush (v := (-12)) hx hb dB_36_4_4.2.1.1 (by decide) ?_
                            refine lv_goto (tgt := 107) hx hb dB_36_4_4.2.1.2 (by decide) ?_
                            rw [hQ]
                            exact W.iret (v := (-12)) hx hb hr (fun t ht hW => ⟨⟨(-12), (), rfl, ⟨by first | (simp only [f4_c0, f4_c1, f4_c2, f4_c3]; unfold wrgI hasI; (repeat' (first | with_reducible refine if_n (by omega) ?_ | with_reducible refine if_ns (by omega) ?_ | with_reducible refine if_nz (by omega) ?_ | with_reducible exact if_p (by omega) (by omega) | with_reducible exact if_ps (by omega) (by omega) | with_reducible exact if_pz (by omega) (by omega))) <;> omega) | (unfold wrgI hasI; (repeat' (first | with_reducible refine if_n (by omega) ?_ | with_reducible refine if_ns (by omega) ?_ | with_reducible refine if_nz (by omega) ?_ | with_reducible exact if_p (by omega) (by omega) | with_reducible exact if_ps (by omega) (by omega) | with_reducible exact if_pz (by omega) (by omega))) <;> omega), by omega⟩, trivial⟩, hS.F ht⟩) hS.2.2 dB_36_4_4.2.2.2
                      · have t_48 : ¬ (0 : Int32).toInt ≤ y_47.toInt := fun h => c_48 (Int32.le_iff_toInt_le.mpr h)
                        refine lv_bipush (v := (-11)) hx hb dB_36_3_40.2.1.2.1 (by decide) ?_
                        rw [hQ]
                        exact W.iret (v := (-11)) hx hb hr (fun t ht hW => ⟨⟨(-11), (), rfl, ⟨by first | (simp only [f4_c0, f4_c1, f4_c2, f4_c3]; unfold wrgI hasI; (repeat' (first | with_reducible refine if_n (by omega) ?_ | with_reducible refine if_ns (by omega) ?_ | with_reducible refine if_nz (by omega) ?_ | with_reducible exact if_p (by omega) (by omega) | with_reducible exact if_ps (by omega) (by omega) | with_reducible exact if_pz (by omega) (by omega))) <;> omega) | (unfold wrgI hasI; (repeat' (first | with_reducible refine if_n (by omega) ?_ | with_reducible refine if_ns (by omega) ?_ | with_reducible refine if_nz (by omega) ?_ | with_reducible exact if_p (by omega) (by omega) | with_reducible exact if_ps (by omega) (by omega) | with_reducible exact if_pz (by omega) (by omega))) <;> omega), by omega⟩, trivial⟩, hS.F ht⟩) hS.2.2 dB_36_3_40.2.1.2.2
                    · exact absurd c_45 (by decide)
                  · have e_ := e_.symm
                    subst e_
                    refine lv_if_ne (tgt := 63) hx hb dB_36_3_39.2.2.2.2 (by decide) (fun c_53 => ?_) (fun c_53 => ?_)
                    · exact absurd c_53 (by decide)
                    · have _ := c_53
                      refine lv_bipush (v := (-12)) hx hb dB_36_3_40.1.1.1.1 (by decide) ?_
                      rw [hQ]
                      exact W.iret (v := (-12)) hx hb hr (fun t ht hW => ⟨⟨(-12), (), rfl, ⟨by first | (simp only [f4_c0, f4_c1, f4_c2, f4_c3]; unfold wrgI hasI; (repeat' (first | with_reducible refine if_n (by omega) ?_ | with_reducible refine if_ns (by omega) ?_ | with_reducible refine if_nz (by omega) ?_ | with_reducible exact if_p (by omega) (by omega) | with_reducible exact if_ps (by omega) (by omega) | with_reducible exact if_pz (by omega) (by omega))) <;> omega) | (unfold wrgI hasI; (repeat' (first | with_reducible refine if_n (by omega) ?_ | with_reducible refine if_ns (by omega) ?_ | with_reducible refine if_nz (by omega) ?_ | with_reducible exact if_p (by omega) (by omega) | with_reducible exact if_ps (by omega) (by omega) | with_reducible exact if_pz (by omega) (by omega))) <;> omega), by omega⟩, trivial⟩, hS.F ht⟩) hS.2.2 dB_36_3_40.1.1.1.2
                · have t_42 : ¬ mk2.toInt = a2.toInt := fun h => c_42 (Int32.toInt_inj.mp h)
                  refine lv_bipush (v := (-13)) hx hb dB_36_3_39.1.2.2.2 (by decide) ?_
                  rw [hQ]
                  exact W.iret (v := (-13)) hx hb hr (fun t ht hW => ⟨⟨(-13), (), rfl, ⟨by first | (simp only [f4_c0, f4_c1, f4_c2, f4_c3]; unfold wrgI hasI; (repeat' (first | with_reducible refine if_n (by omega) ?_ | with_reducible refine if_ns (by omega) ?_ | with_reducible refine if_nz (by omega) ?_ | with_reducible exact if_p (by omega) (by omega) | with_reducible exact if_ps (by omega) (by omega) | with_reducible exact if_pz (by omega) (by omega))) <;> omega) | (unfold wrgI hasI; (repeat' (first | with_reducible refine if_n (by omega) ?_ | with_reducible refine if_ns (by omega) ?_ | with_reducible refine if_nz (by omega) ?_ | with_reducible exact if_p (by omega) (by omega) | with_reducible exact if_ps (by omega) (by omega) | with_reducible exact if_pz (by omega) (by omega))) <;> omega), by omega⟩, trivial⟩, hS.F ht⟩) hS.2.2 dB_36_3_39.2.1.1.1
              · exact absurd c_41 (by decide)
            · have e_ := e_.symm
              subst e_
              refine lv_if_ne (tgt := 31) hx hb dB_36_3_38.2.2.1.2 (by decide) (fun c_54 => ?_) (fun c_54 => ?_)
              · exact absurd c_54 (by decide)
              · have _ := c_54
                refine lv_bipush (v := (-11)) hx hb dB_36_3_38.2.2.2.1 (by decide) ?_
                rw [hQ]
                exact W.iret (v := (-11)) hx hb hr (fun t ht hW => ⟨⟨(-11), (), rfl, ⟨by first | (simp only [f4_c0, f4_c1, f4_c2, f4_c3]; unfold wrgI hasI; (repeat' (first | with_reducible refine if_n (by omega) ?_ | with_reducible refine if_ns (by omega) ?_ | with_reducible refine if_nz (by omega) ?_ | with_reducible exact if_p (by omega) (by omega) | with_reducible exact if_ps (by omega) (by omega) | with_reducible exact if_pz (by omega) (by omega))) <;> omega) | (unfold wrgI hasI; (repeat' (first | with_reducible refine if_n (by omega) ?_ | with_reducible refine if_ns (by omega) ?_ | with_reducible refine if_nz (by omega) ?_ | with_reducible exact if_p (by omega) (by omega) | with_reducible exact if_ps (by omega) (by omega) | with_reducible exact if_pz (by omega) (by omega))) <;> omega), by omega⟩, trivial⟩, hS.F ht⟩) hS.2.2 dB_36_3_38.2.2.2.2
          · refine lv_aload_n hx hb dB_36_3_38.2.1.1.1 rfl (lv_at hl 0 rfl) ?_
            refine va_get (ci := 11) (v := .ref xm) (C := RX11) (T := TX11) (N := 12) hx hb hts (fun _ h => List.mem_cons_of_mem _ (List.mem_append_left _ (List.mem_append_right _ h))) hown hK.1 hP 0 rfl rfl 6 (by decide) (hts (.fieldLink RX11 72 "CutAtlas" "maps" "[LCutAtlas$NumberMap;") (List.mem_of_getElem? (i := 1) rfl)) (fun _ h9 => h9) rfl dB_36_3_38.2.1.1.2 ?_
            refine lv_iload_n hx hb dB_36_3_38.2.1.2.1 rfl (lv_at hl 1 rfl) ?_
            refine va_aldq hx hb hK.1 hP 1 4 rfl rfl (i := 3) (by unfold vp_in; decide) dB_36_3_38.2.1.2.2 ?_
            refine lv_topv (v' := .ref m3) (by simp [va_up, va_rf, mf_, cl_0, cl_1, cl_2, cl_3, cl_4]) ?_
            refine ct_R hP hD0 [ob4_0_ m3 mk3 mr3 l3 u3] [5] (by decide) rfl (fun hPc hDw => ?_)
            have hFc := va_free (wc := []) hD hS hA [] rfl
            refine va_calli (va_runV (As := []) (rest := []) ⟨hx, hb, hml, hown, hts⟩ (c_X4_isThere l D cy H.size m3 l3 u3 mk3 mr3) (cwV 0 hts gX11_numberRefusal_X4_isThere rfl rfl rfl ⟨rfl, hd_X4_isThere⟩ ⟨Nat.le_of_ble_eq_true rfl, Nat.le_of_ble_eq_true rfl⟩) ⟨bl_, va_recvX hK.1 hP (ci := 4) (q0 := 5) rfl rfl, fun U hU hW => ⟨rfl, by rw [hU], by rw [hU]; exact hPc, kk_mv hW hK, hDw⟩⟩ rfl rfl hl.1 rfl (lv_room (Nat.le_of_ble_eq_true rfl)) dB_36_3_38.2.2.1.1 ⟨Nat.le_of_ble_eq_true rfl, Nat.le_of_ble_eq_true rfl⟩) hS (fun q _ h => hFc q h) hFc (fun r_55 u t H locs ht hvm hw hB hz1 hk1 hS => ?_)
            have hP : va_P D vwCl _ H := ro_keep hP hk1
            rcases hw with ⟨w_56, e_⟩ | ⟨w_56, e_⟩
            · have e_ := e_.symm
              subst e_
              refine lv_if_ne (tgt := 31) hx hb dB_36_3_38.2.2.1.2 (by decide) (fun c_57 => ?_) (fun c_57 => ?_)
              · have _ := c_57
                refine lv_aload_n hx hb dB_36_3_39.1.1.1.1 rfl (lv_at hl 0 rfl) ?_
                refine va_get (ci := 11) (v := .ref xm) (C := RX11) (T := TX11) (N := 12) hx hb hts (fun _ h => List.mem_cons_of_mem _ (List.mem_append_left _ (List.mem_append_right _ h))) hown hK.1 hP 0 rfl rfl 6 (by decide) (hts (.fieldLink RX11 72 "CutAtlas" "maps" "[LCutAtlas$NumberMap;") (List.mem_of_getElem? (i := 1) rfl)) (fun _ h9 => h9) rfl dB_36_3_39.1.1.1.2 ?_
                refine lv_iload_n hx hb dB_36_3_39.1.1.2.1 rfl (lv_at hl 1 rfl) ?_
                refine va_aldq hx hb hK.1 hP 1 4 rfl rfl (i := 3) (by unfold vp_in; decide) dB_36_3_39.1.1.2.2 ?_
                refine lv_topv (v' := .ref m3) (by simp [va_up, va_rf, mf_, cl_0, cl_1, cl_2, cl_3, cl_4]) ?_
                refine va_get (ci := 4) (v := .int mk3) (C := RX4) (T := TX4) (N := 4) hx hb hts (fun _ h => List.mem_cons_of_mem _ (List.mem_append_right _ h)) hown hK.1 hP 5 rfl rfl 0 (by decide) (hts (.fieldLink RX11 318 "CutAtlas$NumberMap" "kind" "I") (List.mem_of_getElem? (i := 2) rfl)) (fun _ h9 => h9) rfl dB_36_3_39.1.2.1.1 ?_
                refine lv_iload_n hx hb dB_36_3_39.1.2.1.2 rfl (lv_at hl 2 rfl) ?_
                refine lv_icmp_eq (tgt := 47) hx hb dB_36_3_39.1.2.2.1 (by decide) (fun c_58 => ?_) (fun c_58 => ?_)
                · have t_58 : mk3.toInt = a2.toInt := congrArg Int32.toInt c_58
                  refine lv_aload_n hx hb dB_36_3_39.2.1.1.2 rfl (lv_at hl 0 rfl) ?_
                  refine va_get (ci := 11) (v := .ref xm) (C := RX11) (T := TX11) (N := 12) hx hb hts (fun _ h => List.mem_cons_of_mem _ (List.mem_append_left _ (List.mem_append_right _ h))) hown hK.1 hP 0 rfl rfl 6 (by decide) (hts (.fieldLink RX11 72 "CutAtlas" "maps" "[LCutAtlas$NumberMap;") (List.mem_of_getElem? (i := 1) rfl)) (fun _ h9 => h9) rfl dB_36_3_39.2.1.2.1 ?_
                  refine lv_iload_n hx hb dB_36_3_39.2.1.2.2 rfl (lv_at hl 1 rfl) ?_
                  refine va_aldq hx hb hK.1 hP 1 4 rfl rfl (i := 3) (by unfold vp_in; decide) dB_36_3_39.2.2.1.1 ?_
                  refine lv_topv (v' := .ref m3) (by simp [va_up, va_rf, mf_, cl_0, cl_1, cl_2, cl_3, cl_4]) ?_
                  refine lv_iload_n hx hb dB_36_3_39.2.2.1.2 rfl (lv_at hl 3 rfl) ?_
                  refine ct_R hP hD0 [ob4_0_ m3 mk3 mr3 l3 u3] [5] (by decide) rfl (fun hPc hDw => ?_)
                  have hFc := va_free (wc := []) hD hS hA [] rfl
                  refine va_calli (va_runV (As := [.int a3]) (rest := []) ⟨hx, hb, hml, hown, hts⟩ (c_X4_hasRow l D cy H.size m3 l3 u3 mk3 mr3 a3) (cwV 1 hts gX11_numberRefusal_X4_hasRow rfl rfl rfl ⟨rfl, hd_X4_hasRow⟩ ⟨Nat.le_of_ble_eq_true rfl, Nat.le_of_ble_eq_true rfl⟩) ⟨bl_, va_recvX hK.1 hP (ci := 4) (q0 := 5) rfl rfl, fun U hU hW => ⟨rfl, by rw [hU], by rw [hU]; exact hPc, kk_mv hW hK, hDw⟩⟩ rfl rfl hl.1 rfl (lv_room (Nat.le_of_ble_eq_true rfl)) dB_36_3_39.2.2.2.1 ⟨Nat.le_of_ble_eq_true rfl, Nat.le_of_ble_eq_true rfl⟩) hS (fun q _ h => hFc q h) hFc (fun r_59 u t H locs ht hvm hw hB hz1 hk1 hS => ?_)
                  have hP : va_P D vwCl _ H := ro_keep hP hk1
                  rcases hw with ⟨w_60, e_⟩ | ⟨w_60, e_⟩
                  · have e_ := e_.symm
                    subst e_
                    refine lv_if_ne (tgt := 63) hx hb dB_36_3_39.2.2.2.2 (by decide) (fun c_61 => ?_) (fun c_61 => ?_)
                    · have _ := c_61
                      refine lv_aload_n hx hb dB_36_3_40.1.1.2.1 rfl (lv_at hl 0 rfl) ?_
                      refine va_get (ci := 11) (v := .ref xm) (C := RX11) (T := TX11) (N := 12) hx hb hts (fun _ h => List.mem_cons_of_mem _ (List.mem_append_left _ (List.mem_append_right _ h))) hown hK.1 hP 0 rfl rfl 6 (by decide) (hts (.fieldLink RX11 72 "CutAtlas" "maps" "[LCutAtlas$NumberMap;") (List.mem_of_getElem? (i := 1) rfl)) (fun _ h9 => h9) rfl dB_36_3_40.1.1.2.2 ?_
                      refine lv_iload_n hx hb dB_36_3_40.1.2.1.1 rfl (lv_at hl 1 rfl) ?_
                      refine va_aldq hx hb hK.1 hP 1 4 rfl rfl (i := 3) (by unfold vp_in; decide) dB_36_3_40.1.2.1.2 ?_
                      refine lv_topv (v' := .ref m3) (by simp [va_up, va_rf, mf_, cl_0, cl_1, cl_2, cl_3, cl_4]) ?_
                      refine va_get (ci := 4) (v := .ref l3) (C := RX4) (T := TX4) (N := 4) hx hb hts (fun _ h => List.mem_cons_of_mem _ (List.mem_append_right _ h)) hown hK.1 hP 5 rfl rfl 2 (by decide) (hts (.fieldLink RX11 321 "CutAtlas$NumberMap" "lengths" "[I") (List.mem_of_getElem? (i := 3) rfl)) (fun _ h9 => h9) rfl dB_36_3_40.1.2.2.1 ?_
                      refine lv_iload_n hx hb dB_36_3_40.1.2.2.2 rfl (lv_at hl 3 rfl) ?_
                      have h_62 : vp_in a3 6 := in_I (by first | with_reducible assumption | omega) (by omega)
                      refine va_iald hx hb hK.1 hP 9 0 rfl rfl (i := a3) h_62 dB_36_3_40.2.1.1.1 ?_
                      refine lv_topi (fun y_63 ey_63 => ?_)
                      have ky_63 : y_63.toInt = (fl3 a3.toNatClampNeg).toInt := by rw [ey_63]
                      have ry_63 : -9 ≤ y_63.toInt ∧ y_63.toInt ≤ 5 := by rw [ey_63]; exact r_fl3 _ (in_lt h_62)
                      refine lv_if_ge (tgt := 80) hx hb dB_36_3_40.2.1.1.2 (by decide) (fun c_64 => ?_) (fun c_64 => ?_)
                      · have t_64 : (0 : Int32).toInt ≤ y_63.toInt := Int32.le_iff_toInt_le.mp c_64
                        refine lv_iload hx hb dB_36_3_40.2.2.1.1 (lv_at hl 4 rfl) ?_
                        refine lv_if_lt (tgt := 101) hx hb dB_36_3_40.2.2.1.2 (by decide) (fun c_65 => ?_) (fun c_65 => ?_)
                        · have t_65 : a4.toInt < (0 : Int32).toInt := Int32.lt_iff_toInt_lt.mp c_65
                          refine lv_bipush (v := (-12)) hx hb dB_36_4_4.2.1.1 (by decide) ?_
                          refine lv_goto (tgt := 107) hx hb dB_36_4_4.2.1.2 (by decide) ?_
                          rw [hQ]
                          exact W.iret (v := (-12)) hx hb hr (fun t ht hW => ⟨⟨(-12), (), rfl, ⟨by first | (simp only [f4_c0, f4_c1, f4_c2, f4_c3]; unfold wrgI hasI; (repeat' (first | with_reducible refine if_n (by omega) ?_ | with_reducible refine if_ns (by omega) ?_ | with_reducible refine if_nz (by omega) ?_ | with_reducible exact if_p (by omega) (by omega) | with_reducible exact if_ps (by omega) (by omega) | with_reducible exact if_pz (by omega) (by omega))) <;> omega) | (unfold wrgI hasI; (repeat' (first | with_reducible refine if_n (by omega) ?_ | with_reducible refine if_ns (by omega) ?_ | with_reducible refine if_nz (by omega) ?_ | with_reducible exact if_p (by omega) (by omega) | with_reducible exact if_ps (by omega) (by omega) | with_reducible exact if_pz (by omega) (by omega))) <;> omega), by omega⟩, trivial⟩, hS.F ht⟩) hS.2.2 dB_36_4_4.2.2.2
                        · have t_65 : ¬ a4.toInt < (0 : Int32).toInt := fun h => c_65 (Int32.lt_iff_toInt_lt.mpr h)
                          refine lv_iload hx hb dB_36_3_40.2.2.2.1 (lv_at hl 4 rfl) ?_
                          refine lv_aload_n hx hb dB_36_3_40.2.2.2.2 rfl (lv_at hl 0 rfl) ?_
                          refine va_get (ci := 11) (v := .ref xm) (C := RX11) (T := TX11) (N := 12) hx hb hts (fun _ h => List.mem_cons_of_mem _ (List.mem_append_left _ (List.mem_append_right _ h))) hown hK.1 hP 0 rfl rfl 6 (by decide) (hts (.fieldLink RX11 72 "CutAtlas" "maps" "[LCutAtlas$NumberMap;") (List.mem_of_getElem? (i := 1) rfl)) (fun _ h9 => h9) rfl dB_36_3_41.1.1 ?_
                          refine lv_iload_n hx hb dB_36_3_41.1.2 rfl (lv_at hl 1 rfl) ?_
                          refine va_aldq hx hb hK.1 hP 1 4 rfl rfl (i := 3) (by unfold vp_in; decide) dB_36_3_41.2.1 ?_
                          refine lv_topv (v' := .ref m3) (by simp [va_up, va_rf, mf_, cl_0, cl_1, cl_2, cl_3, cl_4]) ?_
                          refine va_get (ci := 4) (v := .ref l3) (C := RX4) (T := TX4) (N := 4) hx hb hts (fun _ h => List.mem_cons_of_mem _ (List.mem_append_right _ h)) hown hK.1 hP 5 rfl rfl 2 (by decide) (hts (.fieldLink RX11 321 "CutAtlas$NumberMap" "lengths" "[I") (List.mem_of_getElem? (i := 3) rfl)) (fun _ h9 => h9) rfl dB_36_3_41.2.2 ?_
                          refine lv_iload_n hx hb dB_36_4_4.1.1 rfl (lv_at hl 3 rfl) ?_
                          refine va_iald hx hb hK.1 hP 9 0 rfl rfl (i := a3) h_62 dB_36_4_4.1.2.1 ?_
                          refine lv_topi (fun y_67 ey_67 => ?_)
                          have e_ := (ey_67.trans ey_63.symm).symm
                          subst e_
                          skip
                          refine lv_icmp_lt (tgt := 106) hx hb dB_36_4_4.1.2.2 (by decide) (fun c_68 => ?_) (fun c_68 => ?_)
                          · have t_68 : a4.toInt < y_63.toInt := Int32.lt_iff_toInt_lt.mp c_68
                            refine lv_iconst (v := 0) hx hb dB_36_4_4.2.2.1 (by decide) ?_
                            rw [hQ]
                            exact W.iret (v := 0) hx hb hr (fun t ht hW => ⟨⟨0, (), rfl, ⟨by first | (simp only [f4_c0, f4_c1, f4_c2, f4_c3]; unfold wrgI hasI; (repeat' (first | with_reducible refine if_n (by omega) ?_ | with_reducible refine if_ns (by omega) ?_ | with_reducible refine if_nz (by omega) ?_ | with_reducible exact if_p (by omega) (by omega) | with_reducible exact if_ps (by omega) (by omega) | with_reducible exact if_pz (by omega) (by omega))) <;> omega) | (unfold wrgI hasI; (repeat' (first | with_reducible refine if_n (by omega) ?_ | with_reducible refine if_ns (by omega) ?_ | with_reducible refine if_nz (by omega) ?_ | with_reducible exact if_p (by omega) (by omega) | with_reducible exact if_ps (by omega) (by omega) | with_reducible exact if_pz (by omega) (by omega))) <;> omega), by omega⟩, trivial⟩, hS.F ht⟩) hS.2.2 dB_36_4_4.2.2.2
                          · have t_68 : ¬ a4.toInt < y_63.toInt := fun h => c_68 (Int32.lt_iff_toInt_lt.mpr h)
                            refine lv_bipush (v := (-12)) hx hb dB_36_4_4.2.1.1 (by decide) ?_
                            refine lv_goto (tgt := 107) hx hb dB_36_4_4.2.1.2 (by decide) ?_
                            rw [hQ]
                            exact W.iret (v := (-12)) hx hb hr (fun t ht hW => ⟨⟨(-12), (), rfl, ⟨by first | (simp only [f4_c0, f4_c1, f4_c2, f4_c3]; unfold wrgI hasI; (repeat' (first | with_reducible refine if_n (by omega) ?_ | with_reducible refine if_ns (by omega) ?_ | with_reducible refine if_nz (by omega) ?_ | with_reducible exact if_p (by omega) (by omega) | with_reducible exact if_ps (by omega) (by omega) | with_reducible exact if_pz (by omega) (by omega))) <;> omega) | (unfold wrgI hasI; (repeat' (first | with_reducible refine if_n (by omega) ?_ | with_reducible refine if_ns (by omega) ?_ | with_reducible refine if_nz (by omega) ?_ | with_reducible exact if_p (by omega) (by omega) | with_reducible exact if_ps (by omega) (by omega) | with_reducible exact if_pz (by omega) (by omega))) <;> omega), by omega⟩, trivial⟩, hS.F ht⟩) hS.2.2 dB_36_4_4.2.2.2
                      · have t_64 : ¬ (0 : Int32).toInt ≤ y_63.toInt := fun h => c_64 (Int32.le_iff_toInt_le.mpr h)
                        refine lv_bipush (v := (-11)) hx hb dB_36_3_40.2.1.2.1 (by decide) ?_
                        rw [hQ]
                        exact W.iret (v := (-11)) hx hb hr (fun t ht hW => ⟨⟨(-11), (), rfl, ⟨by first | (simp only [f4_c0, f4_c1, f4_c2, f4_c3]; unfold wrgI hasI; (repeat' (first | with_reducible refine if_n (by omega) ?_ | with_reducible refine if_ns (by omega) ?_ | with_reducible refine if_nz (by omega) ?_ | with_reducible exact if_p (by omega) (by omega) | with_reducible exact if_ps (by omega) (by omega) | with_reducible exact if_pz (by omega) (by omega))) <;> omega) | (unfold wrgI hasI; (repeat' (first | with_reducible refine if_n (by omega) ?_ | with_reducible refine if_ns (by omega) ?_ | with_reducible refine if_nz (by omega) ?_ | with_reducible exact if_p (by omega) (by omega) | with_reducible exact if_ps (by omega) (by omega) | with_reducible exact if_pz (by omega) (by omega))) <;> omega), by omega⟩, trivial⟩, hS.F ht⟩) hS.2.2 dB_36_3_40.2.1.2.2
                    · exact absurd c_61 (by decide)
                  · have e_ := e_.symm
                    subst e_
                    refine lv_if_ne (tgt := 63) hx hb dB_36_3_39.2.2.2.2 (by decide) (fun c_69 => ?_) (fun c_69 => ?_)
                    · exact absurd c_69 (by decide)
                    · have _ := c_69
                      refine lv_bipush (v := (-12)) hx hb dB_36_3_40.1.1.1.1 (by decide) ?_
                      rw [hQ]
                      exact W.iret (v := (-12)) hx hb hr (fun t ht hW => ⟨⟨(-12), (), rfl, ⟨by first | (simp only [f4_c0, f4_c1, f4_c2, f4_c3]; unfold wrgI hasI; (repeat' (first | with_reducible refine if_n (by omega) ?_ | with_reducible refine if_ns (by omega) ?_ | with_reducible refine if_nz (by omega) ?_ | with_reducible exact if_p (by omega) (by omega) | with_reducible exact if_ps (by omega) (by omega) | with_reducible exact if_pz (by omega) (by omega))) <;> omega) | (unfold wrgI hasI; (repeat' (first | with_reducible refine if_n (by omega) ?_ | with_reducible refine if_ns (by omega) ?_ | with_reducible refine if_nz (by omega) ?_ | with_reducible exact if_p (by omega) (by omega) | with_reducible exact if_ps (by omega) (by omega) | with_reducible exact if_pz (by omega) (by omega))) <;> omega), by omega⟩, trivial⟩, hS.F ht⟩) hS.2.2 dB_36_3_40.1.1.1.2
                · have t_58 : ¬ mk3.toInt = a2.toInt := fun h => c_58 (Int32.toInt_inj.mp h)
                  refine lv_bipush (v := (-13)) hx hb dB_36_3_39.1.2.2.2 (by decide) ?_
                  rw [hQ]
                  exact W.iret (v := (-13)) hx hb hr (fun t ht hW => ⟨⟨(-13), (), rfl, ⟨by first | (simp only [f4_c0, f4_c1, f4_c2, f4_c3]; unfold wrgI hasI; (repeat' (first | with_reducible refine if_n (by omega) ?_ | with_reducible refine if_ns (by omega) ?_ | with_reducible refine if_nz (by omega) ?_ | with_reducible exact if_p (by omega) (by omega) | with_reducible exact if_ps (by omega) (by omega) | with_reducible exact if_pz (by omega) (by omega))) <;> omega) | (unfold wrgI hasI; (repeat' (first | with_reducible refine if_n (by omega) ?_ | with_reducible refine if_ns (by omega) ?_ | with_reducible refine if_nz (by omega) ?_ | with_reducible exact if_p (by omega) (by omega) | with_reducible exact if_ps (by omega) (by omega) | with_reducible exact if_pz (by omega) (by omega))) <;> omega), by omega⟩, trivial⟩, hS.F ht⟩) hS.2.2 dB_36_3_39.2.1.1.1
              · exact absurd c_57 (by decide)
            · have e_ := e_.symm
              subst e_
              refine lv_if_ne (tgt := 31) hx hb dB_36_3_38.2.2.1.2 (by decide) (fun c_70 => ?_) (fun c_70 => ?_)
              · exact absurd c_70 (by decide)
              · have _ := c_70
                refine lv_bipush (v := (-11)) hx hb dB_36_3_38.2.2.2.1 (by decide) ?_
                rw [hQ]
                exact W.iret (v := (-11)) hx hb hr (fun t ht hW => ⟨⟨(-11), (), rfl, ⟨by first | (simp only [f4_c0, f4_c1, f4_c2, f4_c3]; unfold wrgI hasI; (repeat' (first | with_reducible refine if_n (by omega) ?_ | with_reducible refine if_ns (by omega) ?_ | with_reducible refine if_nz (by omega) ?_ | with_reducible exact if_p (by omega) (by omega) | with_reducible exact if_ps (by omega) (by omega) | with_reducible exact if_pz (by omega) (by omega))) <;> omega) | (unfold wrgI hasI; (repeat' (first | with_reducible refine if_n (by omega) ?_ | with_reducible refine if_ns (by omega) ?_ | with_reducible refine if_nz (by omega) ?_ | with_reducible exact if_p (by omega) (by omega) | with_reducible exact if_ps (by omega) (by omega) | with_reducible exact if_pz (by omega) (by omega))) <;> omega), by omega⟩, trivial⟩, hS.F ht⟩) hS.2.2 dB_36_3_38.2.2.2.2
        · exact absurd c_6 (by decide)
      · have e_ := e_.symm
        subst e_
        refine lv_if_ne (tgt := 16) hx hb dB_36_3_38.1.2.1.2 (by decide) (fun c_71 => ?_) (fun c_71 => ?_)
        · exact absurd c_71 (by decide)
        · have _ := c_71
          refine lv_iconst (v := (-1)) hx hb dB_36_3_38.1.2.2.1 (by decide) ?_
          rw [hQ]
          exact W.iret (v := (-1)) hx hb hr (fun t ht hW => ⟨⟨(-1), (), rfl, ⟨by first | (simp only [f4_c0, f4_c1, f4_c2, f4_c3]; unfold wrgI hasI; (repeat' (first | with_reducible refine if_n (by omega) ?_ | with_reducible refine if_ns (by omega) ?_ | with_reducible refine if_nz (by omega) ?_ | with_reducible exact if_p (by omega) (by omega) | with_reducible exact if_ps (by omega) (by omega) | with_reducible exact if_pz (by omega) (by omega))) <;> omega) | (unfold wrgI hasI; (repeat' (first | with_reducible refine if_n (by omega) ?_ | with_reducible refine if_ns (by omega) ?_ | with_reducible refine if_nz (by omega) ?_ | with_reducible exact if_p (by omega) (by omega) | with_reducible exact if_ps (by omega) (by omega) | with_reducible exact if_pz (by omega) (by omega))) <;> omega), by omega⟩, trivial⟩, hS.F ht⟩) hS.2.2 dB_36_3_38.1.2.2.2
  · have e_ := e_.symm
    subst e_
    refine lv_if_eq (tgt := 14) hx hb dB_36_3_38.1.1.2.1 (by decide) (fun c_72 => ?_) (fun c_72 => ?_)
    · have _ := c_72
      refine lv_iconst (v := (-1)) hx hb dB_36_3_38.1.2.2.1 (by decide) ?_
      rw [hQ]
      exact W.iret (v := (-1)) hx hb hr (fun t ht hW => ⟨⟨(-1), (), rfl, ⟨by first | (simp only [f4_c0, f4_c1, f4_c2, f4_c3]; unfold wrgI hasI; (repeat' (first | with_reducible refine if_n (by omega) ?_ | with_reducible refine if_ns (by omega) ?_ | with_reducible refine if_nz (by omega) ?_ | with_reducible exact if_p (by omega) (by omega) | with_reducible exact if_ps (by omega) (by omega) | with_reducible exact if_pz (by omega) (by omega))) <;> omega) | (unfold wrgI hasI; (repeat' (first | with_reducible refine if_n (by omega) ?_ | with_reducible refine if_ns (by omega) ?_ | with_reducible refine if_nz (by omega) ?_ | with_reducible exact if_p (by omega) (by omega) | with_reducible exact if_ps (by omega) (by omega) | with_reducible exact if_pz (by omega) (by omega))) <;> omega), by omega⟩, trivial⟩, hS.F ht⟩) hS.2.2 dB_36_3_38.1.2.2.2
    · exact absurd c_72 (by decide)
end

section
set_option maxHeartbeats 4000000 in
set_option maxRecDepth 100000 in
theorem c_X11_map2 (l : Launch) (D : va_G) (cy : Nat → ClassId) (sz : Nat) (xo : Nat) (xk : Nat) (xn : Nat) (xc : Nat) (xh : Nat) (xt : Nat) (xw : Nat) (xm : Nat) (xp : Nat) (pf : Int32) (ph : Int32) (tr : Int64) (fi : Int32) (m0 : Nat) (l0 : Nat) (u0 : Nat) (m1 : Nat) (l1 : Nat) (u1 : Nat) (m2 : Nat) (l2 : Nat) (u2 : Nat) (m3 : Nat) (l3 : Nat) (u3 : Nat) (mk0 : Int32) (mr0 : Int32) (mk1 : Int32) (mr1 : Int32) (mk2 : Int32) (mr2 : Int32) (mk3 : Int32) (mr3 : Int32) (fl0 : Nat → Int32) (fl1 : Nat → Int32) (fl2 : Nat → Int32) (fl3 : Nat → Int32) (a1 : Int32) (a2 : Int32) (a3 : Int32) (hmr0 : mr0.toInt = -9 ∨ (0 ≤ mr0.toInt ∧ mr0.toInt ≤ 6)) (hmr1 : mr1.toInt = -9 ∨ (0 ≤ mr1.toInt ∧ mr1.toInt ≤ 6)) (hmr2 : mr2.toInt = -9 ∨ (0 ≤ mr2.toInt ∧ mr2.toInt ≤ 6)) (hmr3 : mr3.toInt = -9 ∨ (0 ≤ mr3.toInt ∧ mr3.toInt ≤ 6)) (r_fl0 : rng fl0 6 (-9) (5)) (r_fl1 : rng fl1 6 (-9) (5)) (r_fl2 : rng fl2 6 (-9) (5)) (r_fl3 : rng fl3 6 (-9) (5)) : Met l yX11_map wsX11_map ({ frames := 2, cells := 0, slots := 0, locals := 45 }) (va_Pc [.ref xo, .int a1, .int a2, .int a3] (fun U => U.heap.size = sz ∧ va_P D vwCl [ob11_0_ xo xk xn xc xh xt xw xm xp pf ph tr fi, aq_ cy 4 xm 4 (mf_ m0 m1 m2 m3), ob4_0_ m0 mk0 mr0 l0 u0, ob4_0_ m1 mk1 mr1 l1 u1, ob4_0_ m2 mk2 mr2 l2 u2, ob4_0_ m3 mk3 mr3 l3 u3, ai_ cy l0 6 fl0, ai_ cy l1 6 fl1, ai_ cy l2 6 fl2, ai_ cy l3 6 fl3] U.heap ∧ kk_ D cy U ∧ va_D (fun _ => True) [ob11_0_ xo xk xn xc xh xt xw xm xp pf ph tr fi, aq_ cy 4 xm 4 (mf_ m0 m1 m2 m3), ob4_0_ m0 mk0 mr0 l0 u0, ob4_0_ m1 mk1 mr1 l1 u1, ob4_0_ m2 mk2 mr2 l2 u2, ob4_0_ m3 mk3 mr3 l3 u3, ai_ cy l0 6 fl0, ai_ cy l1 6 fl1, ai_ cy l2 6 fl2, ai_ cy l3 6 fl3])) (va_Qi (fun (r : Int32) (_ : Unit) => (r.toInt = if mapRI a1.toInt a2.toInt a3.toInt = 0 then 1 else mapRI a1.toInt a2.toInt a3.toInt)) (fun (_ : Unit) (t : State) => ∃ (efi : Int32), ∃ (emk0 : Int32), ∃ (emk1 : Int32), ∃ (emk2 : Int32), ∃ (emk3 : Int32), ∃ (emr0 : Int32), ∃ (emr1 : Int32), ∃ (emr2 : Int32), ∃ (emr3 : Int32), ∃ (efl0 : Nat → Int32), ∃ (efl1 : Nat → Int32), ∃ (efl2 : Nat → Int32), ∃ (efl3 : Nat → Int32), (emr0.toInt = -9 ∨ (0 ≤ emr0.toInt ∧ emr0.toInt ≤ 6)) ∧ (emr1.toInt = -9 ∨ (0 ≤ emr1.toInt ∧ emr1.toInt ≤ 6)) ∧ (emr2.toInt = -9 ∨ (0 ≤ emr2.toInt ∧ emr2.toInt ≤ 6)) ∧ (emr3.toInt = -9 ∨ (0 ≤ emr3.toInt ∧ emr3.toInt ≤ 6)) ∧ (efi.toInt = mapRI a1.toInt a2.toInt a3.toInt) ∧ ((efi.toInt ≠ 0 → eq4 (f4_ emk0 emk1 emk2 emk3) (f4_ mk0 mk1 mk2 mk3) ∧ eq4 (f4_ emr0 emr1 emr2 emr3) (f4_ mr0 mr1 mr2 mr3) ∧ eq4 (f4_ efl0 efl1 efl2 efl3) (f4_ fl0 fl1 fl2 fl3)) ∧ (efi.toInt = 0 → eq4 (f4_ emk0 emk1 emk2 emk3) (va_up (f4_ mk0 mk1 mk2 mk3) a1.toNatClampNeg a2) ∧ eq4 (f4_ emr0 emr1 emr2 emr3) (va_up (f4_ mr0 mr1 mr2 mr3) a1.toNatClampNeg a3) ∧ ∃ g : Nat → Int32, (∀ j : Nat, j < 6 → g j = (-9)) ∧ eq4 (f4_ efl0 efl1 efl2 efl3) (va_up (f4_ fl0 fl1 fl2 fl3) a1.toNatClampNeg g))) ∧ (rng efl0 6 (-9) (5)) ∧ (rng efl1 6 (-9) (5)) ∧ (rng efl2 6 (-9) (5)) ∧ (rng efl3 6 (-9) (5)) ∧ va_P D vwCl [ob11_0_ xo xk xn xc xh xt xw xm xp pf ph tr efi, aq_ cy 4 xm 4 (mf_ m0 m1 m2 m3), ob4_0_ m0 emk0 emr0 l0 u0, ob4_0_ m1 emk1 emr1 l1 u1, ob4_0_ m2 emk2 emr2 l2 u2, ob4_0_ m3 emk3 emr3 l3 u3, ai_ cy l0 6 efl0, ai_ cy l1 6 efl1, ai_ cy l2 6 efl2, ai_ cy l3 6 efl3] t.heap ∧ va_D (va_A [ob11_0_ xo xk xn xc xh xt xw xm xp pf ph tr fi, aq_ cy 4 xm 4 (mf_ m0 m1 m2 m3), ob4_0_ m0 mk0 mr0 l0 u0, ob4_0_ m1 mk1 mr1 l1 u1, ob4_0_ m2 mk2 mr2 l2 u2, ob4_0_ m3 mk3 mr3 l3 u3, ai_ cy l0 6 fl0, ai_ cy l1 6 fl1, ai_ cy l2 6 fl2, ai_ cy l3 6 fl3] sz) [ob11_0_ xo xk xn xc xh xt xw xm xp pf ph tr efi, aq_ cy 4 xm 4 (mf_ m0 m1 m2 m3), ob4_0_ m0 emk0 emr0 l0 u0, ob4_0_ m1 emk1 emr1 l1 u1, ob4_0_ m2 emk2 emr2 l2 u2, ob4_0_ m3 emk3 emr3 l3 u3, ai_ cy l0 6 efl0, ai_ cy l1 6 efl1, ai_ cy l2 6 efl2, ai_ cy l3 6 efl3]) (va_A [ob11_0_ xo xk xn xc xh xt xw xm xp pf ph tr fi, aq_ cy 4 xm 4 (mf_ m0 m1 m2 m3), ob4_0_ m0 mk0 mr0 l0 u0, ob4_0_ m1 mk1 mr1 l1 u1, ob4_0_ m2 mk2 mr2 l2 u2, ob4_0_ m3 mk3 mr3 l3 u3, ai_ cy l0 6 fl0, ai_ cy l1 6 fl1, ai_ cy l2 6 fl2, ai_ cy l3 6 fl3] sz)) 0 0 (va_A [ob11_0_ xo xk xn xc xh xt xw xm xp pf ph tr fi, aq_ cy 4 xm 4 (mf_ m0 m1 m2 m3), ob4_0_ m0 mk0 mr0 l0 u0, ob4_0_ m1 mk1 mr1 l1 u1, ob4_0_ m2 mk2 mr2 l2 u2, ob4_0_ m3 mk3 mr3 l3 u3, ai_ cy l0 6 fl0, ai_ cy l1 6 fl1, ai_ cy l2 6 fl2, ai_ cy l3 6 fl3] sz) := by
  refine ofQ (cc := cX11_map) (maxL := 4) (ret := (some .int)) (by decide) rfl ?_
  intro p e s m args below meth c s₁ Q hQ B hml hv
  obtain ⟨rfl, hsz, hP, hK, hD0⟩ := hv
  have hx := B.exec
  have hb := B.bytes
  have hr := B.returns
  have hts := atoms_spec (ws := wsX11_map) B.pre
  have hown : s.vm.findClass RX11 = some m.cls := by have h_ := findClass_of_methodNamed B.named; exact h_
  have hlocks := B.notSynchronized
  subst hsz
  have hD := hD0.self (sz := s.heap.size)
  generalize hAe : va_A [ob11_0_ xo xk xn xc xh xt xw xm xp pf ph tr fi, aq_ cy 4 xm 4 (mf_ m0 m1 m2 m3), ob4_0_ m0 mk0 mr0 l0 u0, ob4_0_ m1 mk1 mr1 l1 u1, ob4_0_ m2 mk2 mr2 l2 u2, ob4_0_ m3 mk3 mr3 l3 u3, ai_ cy l0 6 fl0, ai_ cy l1 6 fl1, ai_ cy l2 6 fl2, ai_ cy l3 6 fl3] s.heap.size = A at hD hQ
  have hA : ∀ q : Nat, s.heap.size ≤ q → A q := fun q h => by rw [← hAe]; exact Or.inr h
  have hS : va_S A s.heap s.heap [] := va_S.rf
  have hl := lv_entry ([.ref xo, .int a1, .int a2, .int a3]) (n := 4) (Nat.le_of_ble_eq_true rfl)
  rw [lg_entry_eq]
  generalize (lg_sl ([.ref xo, .int a1, .int a2, .int a3]) ++ List.replicate (4 - (lg_sl ([.ref xo, .int a1, .int a2, .int a3])).length) Slot.unset).toArray = ls at hl ⊢
  have hl : lv_has ls 4 [(0, .ref xo), (1, .int a1), (2, .int a2), (3, .int a3)] := hl
  have zm15 : ((-15) : Int32).toInt = -15 := by decide
  have zm1 : ((-1) : Int32).toInt = -1 := by decide
  have z0 : (0 : Int32).toInt = 0 := by decide
  have z1 : (1 : Int32).toInt = 1 := by decide
  refine lv_aload_n hx hb dB_36_3_30.1.1.1.1 rfl (lv_at hl 0 rfl) ?_
  refine lv_iload_n hx hb dB_36_3_30.1.1.1.2 rfl (lv_at hl 1 rfl) ?_
  refine lv_iload_n hx hb dB_36_3_30.1.1.2.1 rfl (lv_at hl 2 rfl) ?_
  refine lv_iload_n hx hb dB_36_3_30.1.1.2.2 rfl (lv_at hl 3 rfl) ?_
  refine ct_R hP hD [] [] (by decide) rfl (fun hPc hDw => ?_)
  have hFc := va_free (wc := []) hD hS hA [] rfl
  refine va_calli (va_runS (As := [.int a1, .int a2, .int a3]) (rest := [.ref xo]) ⟨hx, hb, hml, hown, hts⟩ (c_X11_mapRefusal l D cy s.heap.size a1 a2 a3) (va_cwS 3 hts gX11_map_X11_mapRefusal rfl rfl rfl hd_X11_mapRefusal ⟨Nat.le_of_ble_eq_true rfl, Nat.le_of_ble_eq_true rfl⟩) ⟨bl_, fun U hU hW => ⟨rfl, by rw [hU], by rw [hU]; exact hPc, kk_mv hW hK, hDw⟩⟩ rfl rfl hl.1 rfl (lv_room (Nat.le_of_ble_eq_true rfl)) dB_36_3_30.1.2.1.1 ⟨Nat.le_of_ble_eq_true rfl, Nat.le_of_ble_eq_true rfl⟩) hS (fun q _ h => hFc q h) hFc (fun r_1 u t H locs ht hvm hw hB hz1 hk1 hS => ?_)
  have hP : va_P D vwCl _ H := ro_keep hP hk1
  rcases hw with ⟨w_2, e_⟩ | ⟨w_2, e_⟩ | ⟨w_2, e_⟩
  · have e_ := e_.symm
    subst e_
    refine va_put (ci := 11) (v := .int (-1)) (ty := .int) (C := RX11) (T := TX11) (N := 12) hx hb hts (fun _ h => List.mem_cons_of_mem _ (List.mem_append_left _ (List.mem_append_right _ h))) tyX11 tyX11_ok nmX11 hown hK.1 hP hD hS 0 rfl rfl 11 (by decide) (hts (.fieldLink RX11 91 "CutAtlas" "finding" "I") (List.mem_of_getElem? (i := 1) rfl)) (fun _ h9 => h9) rfl (by decide +kernel) rfl rfl (Nat.le_of_ble_eq_true rfl) dB_36_3_30.1.2.1.2 (fun H locs hP hD hS => ?_)
    refine pd_K [ob11_0_ xo xk xn xc xh xt xw xm xp pf ph tr (-1), aq_ cy 4 xm 4 (mf_ m0 m1 m2 m3), ob4_0_ m0 mk0 mr0 l0 u0, ob4_0_ m1 mk1 mr1 l1 u1, ob4_0_ m2 mk2 mr2 l2 u2, ob4_0_ m3 mk3 mr3 l3 u3, ai_ cy l0 6 fl0, ai_ cy l1 6 fl1, ai_ cy l2 6 fl2, ai_ cy l3 6 fl3] hP hD (fun hP hD => ?_)
    refine lv_aload_n hx hb dB_36_3_30.1.2.2.1 rfl (lv_at hl 0 rfl) ?_
    refine va_get (ci := 11) (v := .int (-1)) (C := RX11) (T := TX11) (N := 12) hx hb hts (fun _ h => List.mem_cons_of_mem _ (List.mem_append_left _ (List.mem_append_right _ h))) hown hK.1 hP 0 rfl rfl 11 (by decide) (hts (.fieldLink RX11 91 "CutAtlas" "finding" "I") (List.mem_of_getElem? (i := 1) rfl)) (fun _ h9 => h9) rfl dB_36_3_30.1.2.2.2 ?_
    refine lv_if_eq (tgt := 22) hx hb dB_36_3_30.2.1.1.1 (by decide) (fun c_3 => ?_) (fun c_3 => ?_)
    · exact absurd c_3 (by decide)
    · have _ := c_3
      refine lv_aload_n hx hb dB_36_3_30.2.1.1.2 rfl (lv_at hl 0 rfl) ?_
      refine va_get (ci := 11) (v := .int (-1)) (C := RX11) (T := TX11) (N := 12) hx hb hts (fun _ h => List.mem_cons_of_mem _ (List.mem_append_left _ (List.mem_append_right _ h))) hown hK.1 hP 0 rfl rfl 11 (by decide) (hts (.fieldLink RX11 91 "CutAtlas" "finding" "I") (List.mem_of_getElem? (i := 1) rfl)) (fun _ h9 => h9) rfl dB_36_3_30.2.1.2.1 ?_
      rw [hQ]
      exact W.iret (v := (-1)) hx hb hr (fun t ht hW => ⟨⟨(-1), (), rfl, (by unfold mapRI; (repeat' (first | with_reducible refine if_n (by omega) ?_ | with_reducible refine if_ns (by omega) ?_ | with_reducible refine if_nz (by omega) ?_ | with_reducible exact if_p (by omega) (by omega) | with_reducible exact if_ps (by omega) (by omega) | with_reducible exact if_pz (by omega) (by omega))) <;> omega), ((-1) : Int32), mk0, mk1, mk2, mk3, mr0, mr1, mr2, mr3, fl0, fl1, fl2, fl3, (by first | with_reducible assumption | assumption | exact rng_zero (by omega) (by omega) | omega), (by first | with_reducible assumption | assumption | exact rng_zero (by omega) (by omega) | omega), (by first | with_reducible assumption | assumption | exact rng_zero (by omega) (by omega) | omega), (by first | with_reducible assumption | assumption | exact rng_zero (by omega) (by omega) | omega), (by unfold mapRI; (repeat' (first | with_reducible refine if_n (by omega) ?_ | with_reducible refine if_ns (by omega) ?_ | with_reducible refine if_nz (by omega) ?_ | with_reducible exact if_p (by omega) (by omega) | with_reducible exact if_ps (by omega) (by omega) | with_reducible exact if_pz (by omega) (by omega))) <;> omega), (by first | exact ⟨fun _ => ⟨eq4_rf, eq4_rf, eq4_rf⟩, fun h => absurd h (by first | omega | decide)⟩ | exact ⟨fun h => absurd (by first | omega | decide) h, fun _ => ⟨f4_u0, f4_u0, _, hf9_, f4_u0⟩⟩ | exact ⟨fun h => absurd (by first | omega | decide) h, fun _ => ⟨f4_u1, f4_u1, _, hf9_, f4_u1⟩⟩ | exact ⟨fun h => absurd (by first | omega | decide) h, fun _ => ⟨f4_u2, f4_u2, _, hf9_, f4_u2⟩⟩ | exact ⟨fun h => absurd (by first | omega | decide) h, fun _ => ⟨f4_u3, f4_u3, _, hf9_, f4_u3⟩⟩), (by first | with_reducible assumption | assumption | exact rng_zero (by omega) (by omega) | omega), (by first | with_reducible assumption | assumption | exact rng_zero (by omega) (by omega) | omega), (by first | with_reducible assumption | assumption | exact rng_zero (by omega) (by omega) | omega), (by first | with_reducible assumption | assumption | exact rng_zero (by omega) (by omega) | omega), by rw [ht]; exact hP, hD⟩, hS.F ht⟩) hS.2.2 dB_36_3_30.2.1.2.2
  · have e_ := e_.symm
    subst e_
    refine va_put (ci := 11) (v := .int (-15)) (ty := .int) (C := RX11) (T := TX11) (N := 12) hx hb hts (fun _ h => List.mem_cons_of_mem _ (List.mem_append_left _ (List.mem_append_right _ h))) tyX11 tyX11_ok nmX11 hown hK.1 hP hD hS 0 rfl rfl 11 (by decide) (hts (.fieldLink RX11 91 "CutAtlas" "finding" "I") (List.mem_of_getElem? (i := 1) rfl)) (fun _ h9 => h9) rfl (by decide +kernel) rfl rfl (Nat.le_of_ble_eq_true rfl) dB_36_3_30.1.2.1.2 (fun H locs hP hD hS => ?_)
    refine pd_K [ob11_0_ xo xk xn xc xh xt xw xm xp pf ph tr (-15), aq_ cy 4 xm 4 (mf_ m0 m1 m2 m3), ob4_0_ m0 mk0 mr0 l0 u0, ob4_0_ m1 mk1 mr1 l1 u1, ob4_0_ m2 mk2 mr2 l2 u2, ob4_0_ m3 mk3 mr3 l3 u3, ai_ cy l0 6 fl0, ai_ cy l1 6 fl1, ai_ cy l2 6 fl2, ai_ cy l3 6 fl3] hP hD (fun hP hD => ?_)
    refine lv_aload_n hx hb dB_36_3_30.1.2.2.1 rfl (lv_at hl 0 rfl) ?_
    refine va_get (ci := 11) (v := .int (-15)) (C := RX11) (T := TX11) (N := 12) hx hb hts (fun _ h => List.mem_cons_of_mem _ (List.mem_append_left _ (List.mem_append_right _ h))) hown hK.1 hP 0 rfl rfl 11 (by decide) (hts (.fieldLink RX11 91 "CutAtlas" "finding" "I") (List.mem_of_getElem? (i := 1) rfl)) (fun _ h9 => h9) rfl dB_36_3_30.1.2.2.2 ?_
    refine lv_if_eq (tgt := 22) hx hb dB_36_3_30.2.1.1.1 (by decide) (fun c_4 => ?_) (fun c_4 => ?_)
    · exact absurd c_4 (by decide)
    · have _ := c_4
      refine lv_aload_n hx hb dB_36_3_30.2.1.1.2 rfl (lv_at hl 0 rfl) ?_
      refine va_get (ci := 11) (v := .int (-15)) (C := RX11) (T := TX11) (N := 12) hx hb hts (fun _ h => List.mem_cons_of_mem _ (List.mem_append_left _ (List.mem_append_right _ h))) hown hK.1 hP 0 rfl rfl 11 (by decide) (hts (.fieldLink RX11 91 "CutAtlas" "finding" "I") (List.mem_of_getElem? (i := 1) rfl)) (fun _ h9 => h9) rfl dB_36_3_30.2.1.2.1 ?_
      rw [hQ]
      exact W.iret (v := (-15)) hx hb hr (fun t ht hW => ⟨⟨(-15), (), rfl, (by unfold mapRI; (repeat' (first | with_reducible refine if_n (by omega) ?_ | with_reducible refine if_ns (by omega) ?_ | with_reducible refine if_nz (by omega) ?_ | with_reducible exact if_p (by omega) (by omega) | with_reducible exact if_ps (by omega) (by omega) | with_reducible exact if_pz (by omega) (by omega))) <;> omega), ((-15) : Int32), mk0, mk1, mk2, mk3, mr0, mr1, mr2, mr3, fl0, fl1, fl2, fl3, (by first | with_reducible assumption | assumption | exact rng_zero (by omega) (by omega) | omega), (by first | with_reducible assumption | assumption | exact rng_zero (by omega) (by omega) | omega), (by first | with_reducible assumption | assumption | exact rng_zero (by omega) (by omega) | omega), (by first | with_reducible assumption | assumption | exact rng_zero (by omega) (by omega) | omega), (by unfold mapRI; (repeat' (first | with_reducible refine if_n (by omega) ?_ | with_reducible refine if_ns (by omega) ?_ | with_reducible refine if_nz (by omega) ?_ | with_reducible exact if_p (by omega) (by omega) | with_reducible exact if_ps (by omega) (by omega) | with_reducible exact if_pz (by omega) (by omega))) <;> omega), (by first | exact ⟨fun _ => ⟨eq4_rf, eq4_rf, eq4_rf⟩, fun h => absurd h (by first | omega | decide)⟩ | exact ⟨fun h => absurd (by first | omega | decide) h, fun _ => ⟨f4_u0, f4_u0, _, hf9_, f4_u0⟩⟩ | exact ⟨fun h => absurd (by first | omega | decide) h, fun _ => ⟨f4_u1, f4_u1, _, hf9_, f4_u1⟩⟩ | exact ⟨fun h => absurd (by first | omega | decide) h, fun _ => ⟨f4_u2, f4_u2, _, hf9_, f4_u2⟩⟩ | exact ⟨fun h => absurd (by first | omega | decide) h, fun _ => ⟨f4_u3, f4_u3, _, hf9_, f4_u3⟩⟩), (by first | with_reducible assumption | assumption | exact rng_zero (by omega) (by omega) | omega), (by first | with_reducible assumption | assumption | exact rng_zero (by omega) (by omega) | omega), (by first | with_reducible assumption | assumption | exact rng_zero (by omega) (by omega) | omega), (by first | with_reducible assumption | assumption | exact rng_zero (by omega) (by omega) | omega), by rw [ht]; exact hP, hD⟩, hS.F ht⟩) hS.2.2 dB_36_3_30.2.1.2.2
  · have e_ := e_.symm
    subst e_
    refine va_put (ci := 11) (v := .int 0) (ty := .int) (C := RX11) (T := TX11) (N := 12) hx hb hts (fun _ h => List.mem_cons_of_mem _ (List.mem_append_left _ (List.mem_append_right _ h))) tyX11 tyX11_ok nmX11 hown hK.1 hP hD hS 0 rfl rfl 11 (by decide) (hts (.fieldLink RX11 91 "CutAtlas" "finding" "I") (List.mem_of_getElem? (i := 1) rfl)) (fun _ h9 => h9) rfl (by decide +kernel) rfl rfl (Nat.le_of_ble_eq_true rfl) dB_36_3_30.1.2.1.2 (fun H locs hP hD hS => ?_)
    refine pd_K [ob11_0_ xo xk xn xc xh xt xw xm xp pf ph tr 0, aq_ cy 4 xm 4 (mf_ m0 m1 m2 m3), ob4_0_ m0 mk0 mr0 l0 u0, ob4_0_ m1 mk1 mr1 l1 u1, ob4_0_ m2 mk2 mr2 l2 u2, ob4_0_ m3 mk3 mr3 l3 u3, ai_ cy l0 6 fl0, ai_ cy l1 6 fl1, ai_ cy l2 6 fl2, ai_ cy l3 6 fl3] hP hD (fun hP hD => ?_)
    refine lv_aload_n hx hb dB_36_3_30.1.2.2.1 rfl (lv_at hl 0 rfl) ?_
    refine va_get (ci := 11) (v := .int 0) (C := RX11) (T := TX11) (N := 12) hx hb hts (fun _ h => List.mem_cons_of_mem _ (List.mem_append_left _ (List.mem_append_right _ h))) hown hK.1 hP 0 rfl rfl 11 (by decide) (hts (.fieldLink RX11 91 "CutAtlas" "finding" "I") (List.mem_of_getElem? (i := 1) rfl)) (fun _ h9 => h9) rfl dB_36_3_30.1.2.2.2 ?_
    refine lv_if_eq (tgt := 22) hx hb dB_36_3_30.2.1.1.1 (by decide) (fun c_5 => ?_) (fun c_5 => ?_)
    · have _ := c_5
      rcases sp_4 (x := a1) (by omega) with rfl | rfl | rfl | rfl
      · refine lv_aload_n hx hb dB_36_3_30.2.2.1.1 rfl (lv_at hl 0 rfl) ?_
        refine va_get (ci := 11) (v := .ref xm) (C := RX11) (T := TX11) (N := 12) hx hb hts (fun _ h => List.mem_cons_of_mem _ (List.mem_append_left _ (List.mem_append_right _ h))) hown hK.1 hP 0 rfl rfl 6 (by decide) (hts (.fieldLink RX11 72 "CutAtlas" "maps" "[LCutAtlas$NumberMap;") (List.mem_of_getElem? (i := 2) rfl)) (fun _ h9 => h9) rfl dB_36_3_30.2.2.1.2 ?_
        refine lv_iload_n hx hb dB_36_3_30.2.2.2.1 rfl (lv_at hl 1 rfl) ?_
        refine va_aldq hx hb hK.1 hP 1 4 rfl rfl (i := 0) (by unfold vp_in; decide) dB_36_3_30.2.2.2.2 ?_
        refine lv_topv (v' := .ref m0) (by simp [va_up, va_rf, mf_, cl_0, cl_1, cl_2, cl_3, cl_4]) ?_
        refine lv_iload_n hx hb dB_36_3_31.1.1 rfl (lv_at hl 2 rfl) ?_
        refine lv_iload_n hx hb dB_36_3_31.1.2 rfl (lv_at hl 3 rfl) ?_
        refine ct_S hP hD hS hA [ob4_0_ m0 mk0 mr0 l0 u0, ai_ cy l0 6 fl0] [2, 6] (by decide) rfl (fun hPc hDw hFc hC_ => ?_)
        refine va_callv (va_runV (As := [.int a2, .int a3]) (rest := []) ⟨hx, hb, hml, hown, hts⟩ (c_X4_begin2 l D cy H.size m0 l0 u0 mk0 mr0 fl0 a2 a3) (cwV 2 hts gX11_map_X4_begin rfl rfl rfl ⟨rfl, hd_X4_begin⟩ ⟨Nat.le_of_ble_eq_true rfl, Nat.le_of_ble_eq_true rfl⟩) ⟨bl_, va_recvX hK.1 hP (ci := 4) (q0 := 2) rfl rfl, fun U hU hW => ⟨rfl, by rw [hU], by rw [hU]; exact hPc, kk_mv hW hK, hDw⟩⟩ rfl rfl hl.1 rfl (lv_room (Nat.le_of_ble_eq_true rfl)) dB_36_3_31.2.1 ⟨Nat.le_of_ble_eq_true rfl, Nat.le_of_ble_eq_true rfl⟩) hS (fun q _ h => hFc q h) hFc (fun u t H locs ht hvm hw hB hz1 hk1 hS => ?_)
        obtain ⟨efl_7, g_8, g_9, hP1, hD1⟩ := hB
        rw [ht] at hP1
        obtain ⟨hP, hD⟩ := va_join (wr := [ob11_0_ xo xk xn xc xh xt xw xm xp pf ph tr 0, aq_ cy 4 xm 4 (mf_ m0 m1 m2 m3), ob4_0_ m1 mk1 mr1 l1 u1, ob4_0_ m2 mk2 mr2 l2 u2, ob4_0_ m3 mk3 mr3 l3 u3, ai_ cy l1 6 fl1, ai_ cy l2 6 fl2, ai_ cy l3 6 fl3]) (w1 := [ob4_0_ m0 a2 a3 l0 u0, ai_ cy l0 6 efl_7]) hP hD [2, 6] [0, 1, 3, 4, 5, 7, 8, 9] hC_ rfl (by decide) (by decide) hk1 hFc hP1 hD1
        refine pd_S hP hD [ob11_0_ xo xk xn xc xh xt xw xm xp pf ph tr 0, aq_ cy 4 xm 4 (mf_ m0 m1 m2 m3), ob4_0_ m0 a2 a3 l0 u0, ob4_0_ m1 mk1 mr1 l1 u1, ob4_0_ m2 mk2 mr2 l2 u2, ob4_0_ m3 mk3 mr3 l3 u3, ai_ cy l0 6 efl_7, ai_ cy l1 6 fl1, ai_ cy l2 6 fl2, ai_ cy l3 6 fl3] [0, 1, 8, 2, 3, 4, 9, 5, 6, 7] (by decide) rfl (fun hP hD => ?_)
        have hf9_ := g_8
        refine lv_iconst (v := 1) hx hb dB_36_3_31.2.2.1 (by decide) ?_
        rw [hQ]
        exact W.iret (v := 1) hx hb hr (fun t ht hW => ⟨⟨1, (), rfl, (by unfold mapRI; (repeat' (first | with_reducible refine if_n (by omega) ?_ | with_reducible refine if_ns (by omega) ?_ | with_reducible refine if_nz (by omega) ?_ | with_reducible exact if_p (by omega) (by omega) | with_reducible exact if_ps (by omega) (by omega) | with_reducible exact if_pz (by omega) (by omega))) <;> omega), (0 : Int32), a2, mk1, mk2, mk3, a3, mr1, mr2, mr3, efl_7, fl1, fl2, fl3, (by first | with_reducible assumption | assumption | exact rng_zero (by omega) (by omega) | omega), (by first | with_reducible assumption | assumption | exact rng_zero (by omega) (by omega) | omega), (by first | with_reducible assumption | assumption | exact rng_zero (by omega) (by omega) | omega), (by first | with_reducible assumption | assumption | exact rng_zero (by omega) (by omega) | omega), (by unfold mapRI; (repeat' (first | with_reducible refine if_n (by omega) ?_ | with_reducible refine if_ns (by omega) ?_ | with_reducible refine if_nz (by omega) ?_ | with_reducible exact if_p (by omega) (by omega) | with_reducible exact if_ps (by omega) (by omega) | with_reducible exact if_pz (by omega) (by omega))) <;> omega), (by first | exact ⟨fun _ => ⟨eq4_rf, eq4_rf, eq4_rf⟩, fun h => absurd h (by first | omega | decide)⟩ | exact ⟨fun h => absurd (by first | omega | decide) h, fun _ => ⟨f4_u0, f4_u0, _, hf9_, f4_u0⟩⟩ | exact ⟨fun h => absurd (by first | omega | decide) h, fun _ => ⟨f4_u1, f4_u1, _, hf9_, f4_u1⟩⟩ | exact ⟨fun h => absurd (by first | omega | decide) h, fun _ => ⟨f4_u2, f4_u2, _, hf9_, f4_u2⟩⟩ | exact ⟨fun h => absurd (by first | omega | decide) h, fun _ => ⟨f4_u3, f4_u3, _, hf9_, f4_u3⟩⟩), (by first | with_reducible assumption | assumption | exact rng_zero (by omega) (by omega) | omega), (by first | with_reducible assumption | assumption | exact rng_zero (by omega) (by omega) | omega), (by first | with_reducible assumption | assumption | exact rng_zero (by omega) (by omega) | omega), (by first | with_reducible assumption | assumption | exact rng_zero (by omega) (by omega) | omega), by rw [ht]; exact hP, hD⟩, hS.F ht⟩) hS.2.2 dB_36_3_31.2.2.2
      · refine lv_aload_n hx hb dB_36_3_30.2.2.1.1 rfl (lv_at hl 0 rfl) ?_
        refine va_get (ci := 11) (v := .ref xm) (C := RX11) (T := TX11) (N := 12) hx hb hts (fun _ h => List.mem_cons_of_mem _ (List.mem_append_left _ (List.mem_append_right _ h))) hown hK.1 hP 0 rfl rfl 6 (by decide) (hts (.fieldLink RX11 72 "CutAtlas" "maps" "[LCutAtlas$NumberMap;") (List.mem_of_getElem? (i := 2) rfl)) (fun _ h9 => h9) rfl dB_36_3_30.2.2.1.2 ?_
        refine lv_iload_n hx hb dB_36_3_30.2.2.2.1 rfl (lv_at hl 1 rfl) ?_
        refine va_aldq hx hb hK.1 hP 1 4 rfl rfl (i := 1) (by unfold vp_in; decide) dB_36_3_30.2.2.2.2 ?_
        refine lv_topv (v' := .ref m1) (by simp [va_up, va_rf, mf_, cl_0, cl_1, cl_2, cl_3, cl_4]) ?_
        refine lv_iload_n hx hb dB_36_3_31.1.1 rfl (lv_at hl 2 rfl) ?_
        refine lv_iload_n hx hb dB_36_3_31.1.2 rfl (lv_at hl 3 rfl) ?_
        refine ct_S hP hD hS hA [ob4_0_ m1 mk1 mr1 l1 u1, ai_ cy l1 6 fl1] [3, 7] (by decide) rfl (fun hPc hDw hFc hC_ => ?_)
        refine va_callv (va_runV (As := [.int a2, .int a3]) (rest := []) ⟨hx, hb, hml, hown, hts⟩ (c_X4_begin2 l D cy H.size m1 l1 u1 mk1 mr1 fl1 a2 a3) (cwV 2 hts gX11_map_X4_begin rfl rfl rfl ⟨rfl, hd_X4_begin⟩ ⟨Nat.le_of_ble_eq_true rfl, Nat.le_of_ble_eq_true rfl⟩) ⟨bl_, va_recvX hK.1 hP (ci := 4) (q0 := 3) rfl rfl, fun U hU hW => ⟨rfl, by rw [hU], by rw [hU]; exact hPc, kk_mv hW hK, hDw⟩⟩ rfl rfl hl.1 rfl (lv_room (Nat.le_of_ble_eq_true rfl)) dB_36_3_31.2.1 ⟨Nat.le_of_ble_eq_true rfl, Nat.le_of_ble_eq_true rfl⟩) hS (fun q _ h => hFc q h) hFc (fun u t H locs ht hvm hw hB hz1 hk1 hS => ?_)
        obtain ⟨efl_11, g_12, g_13, hP1, hD1⟩ := hB
        rw [ht] at hP1
        obtain ⟨hP, hD⟩ := va_join (wr := [ob11_0_ xo xk xn xc xh xt xw xm xp pf ph tr 0, aq_ cy 4 xm 4 (mf_ m0 m1 m2 m3), ob4_0_ m0 mk0 mr0 l0 u0, ob4_0_ m2 mk2 mr2 l2 u2, ob4_0_ m3 mk3 mr3 l3 u3, ai_ cy l0 6 fl0, ai_ cy l2 6 fl2, ai_ cy l3 6 fl3]) (w1 := [ob4_0_ m1 a2 a3 l1 u1, ai_ cy l1 6 efl_11]) hP hD [3, 7] [0, 1, 2, 4, 5, 6, 8, 9] hC_ rfl (by decide) (by decide) hk1 hFc hP1 hD1
        refine pd_S hP hD [ob11_0_ xo xk xn xc xh xt xw xm xp pf ph tr 0, aq_ cy 4 xm 4 (mf_ m0 m1 m2 m3), ob4_0_ m0 mk0 mr0 l0 u0, ob4_0_ m1 a2 a3 l1 u1, ob4_0_ m2 mk2 mr2 l2 u2, ob4_0_ m3 mk3 mr3 l3 u3, ai_ cy l0 6 fl0, ai_ cy l1 6 efl_11, ai_ cy l2 6 fl2, ai_ cy l3 6 fl3] [0, 1, 2, 8, 3, 4, 5, 9, 6, 7] (by decide) rfl (fun hP hD => ?_)
        have hf9_ := g_12
        refine lv_iconst (v := 1) hx hb dB_36_3_31.2.2.1 (by decide) ?_
        rw [hQ]
        exact W.iret (v := 1) hx hb hr (fun t ht hW => ⟨⟨1, (), rfl, (by unfold mapRI; (repeat' (first | with_reducible refine if_n (by omega) ?_ | with_reducible refine if_ns (by omega) ?_ | with_reducible refine if_nz (by omega) ?_ | with_reducible exact if_p (by omega) (by omega) | with_reducible exact if_ps (by omega) (by omega) | with_reducible exact if_pz (by omega) (by omega))) <;> omega), (0 : Int32), mk0, a2, mk2, mk3, mr0, a3, mr2, mr3, fl0, efl_11, fl2, fl3, (by first | with_reducible assumption | assumption | exact rng_zero (by omega) (by omega) | omega), (by first | with_reducible assumption | assumption | exact rng_zero (by omega) (by omega) | omega), (by first | with_reducible assumption | assumption | exact rng_zero (by omega) (by omega) | omega), (by first | with_reducible assumption | assumption | exact rng_zero (by omega) (by omega) | omega), (by unfold mapRI; (repeat' (first | with_reducible refine if_n (by omega) ?_ | with_reducible refine if_ns (by omega) ?_ | with_reducible refine if_nz (by omega) ?_ | with_reducible exact if_p (by omega) (by omega) | with_reducible exact if_ps (by omega) (by omega) | with_reducible exact if_pz (by omega) (by omega))) <;> omega), (by first | exact ⟨fun _ => ⟨eq4_rf, eq4_rf, eq4_rf⟩, fun h => absurd h (by first | omega | decide)⟩ | exact ⟨fun h => absurd (by first | omega | decide) h, fun _ => ⟨f4_u0, f4_u0, _, hf9_, f4_u0⟩⟩ | exact ⟨fun h => absurd (by first | omega | decide) h, fun _ => ⟨f4_u1, f4_u1, _, hf9_, f4_u1⟩⟩ | exact ⟨fun h => absurd (by first | omega | decide) h, fun _ => ⟨f4_u2, f4_u2, _, hf9_, f4_u2⟩⟩ | exact ⟨fun h => absurd (by first | omega | decide) h, fun _ => ⟨f4_u3, f4_u3, _, hf9_, f4_u3⟩⟩), (by first | with_reducible assumption | assumption | exact rng_zero (by omega) (by omega) | omega), (by first | with_reducible assumption | assumption | exact rng_zero (by omega) (by omega) | omega), (by first | with_reducible assumption | assumption | exact rng_zero (by omega) (by omega) | omega), (by first | with_reducible assumption | assumption | exact rng_zero (by omega) (by omega) | omega), by rw [ht]; exact hP, hD⟩, hS.F ht⟩) hS.2.2 dB_36_3_31.2.2.2
      · refine lv_aload_n hx hb dB_36_3_30.2.2.1.1 rfl (lv_at hl 0 rfl) ?_
        refine va_get (ci := 11) (v := .ref xm) (C := RX11) (T := TX11) (N := 12) hx hb hts (fun _ h => List.mem_cons_of_mem _ (List.mem_append_left _ (List.mem_append_right _ h))) hown hK.1 hP 0 rfl rfl 6 (by decide) (hts (.fieldLink RX11 72 "CutAtlas" "maps" "[LCutAtlas$NumberMap;") (List.mem_of_getElem? (i := 2) rfl)) (fun _ h9 => h9) rfl dB_36_3_30.2.2.1.2 ?_
        refine lv_iload_n hx hb dB_36_3_30.2.2.2.1 rfl (lv_at hl 1 rfl) ?_
        refine va_aldq hx hb hK.1 hP 1 4 rfl rfl (i := 2) (by unfold vp_in; decide) dB_36_3_30.2.2.2.2 ?_
        refine lv_topv (v' := .ref m2) (by simp [va_up, va_rf, mf_, cl_0, cl_1, cl_2, cl_3, cl_4]) ?_
        refine lv_iload_n hx hb dB_36_3_31.1.1 rfl (lv_at hl 2 rfl) ?_
        refine lv_iload_n hx hb dB_36_3_31.1.2 rfl (lv_at hl 3 rfl) ?_
        refine ct_S hP hD hS hA [ob4_0_ m2 mk2 mr2 l2 u2, ai_ cy l2 6 fl2] [4, 8] (by decide) rfl (fun hPc hDw hFc hC_ => ?_)
        refine va_callv (va_runV (As := [.int a2, .int a3]) (rest := []) ⟨hx, hb, hml, hown, hts⟩ (c_X4_begin2 l D cy H.size m2 l2 u2 mk2 mr2 fl2 a2 a3) (cwV 2 hts gX11_map_X4_begin rfl rfl rfl ⟨rfl, hd_X4_begin⟩ ⟨Nat.le_of_ble_eq_true rfl, Nat.le_of_ble_eq_true rfl⟩) ⟨bl_, va_recvX hK.1 hP (ci := 4) (q0 := 4) rfl rfl, fun U hU hW => ⟨rfl, by rw [hU], by rw [hU]; exact hPc, kk_mv hW hK, hDw⟩⟩ rfl rfl hl.1 rfl (lv_room (Nat.le_of_ble_eq_true rfl)) dB_36_3_31.2.1 ⟨Nat.le_of_ble_eq_true rfl, Nat.le_of_ble_eq_true rfl⟩) hS (fun q _ h => hFc q h) hFc (fun u t H locs ht hvm hw hB hz1 hk1 hS => ?_)
        obtain ⟨efl_15, g_16, g_17, hP1, hD1⟩ := hB
        rw [ht] at hP1
        obtain ⟨hP, hD⟩ := va_join (wr := [ob11_0_ xo xk xn xc xh xt xw xm xp pf ph tr 0, aq_ cy 4 xm 4 (mf_ m0 m1 m2 m3), ob4_0_ m0 mk0 mr0 l0 u0, ob4_0_ m1 mk1 mr1 l1 u1, ob4_0_ m3 mk3 mr3 l3 u3, ai_ cy l0 6 fl0, ai_ cy l1 6 fl1, ai_ cy l3 6 fl3]) (w1 := [ob4_0_ m2 a2 a3 l2 u2, ai_ cy l2 6 efl_15]) hP hD [4, 8] [0, 1, 2, 3, 5, 6, 7, 9] hC_ rfl (by decide) (by decide) hk1 hFc hP1 hD1
        refine pd_S hP hD [ob11_0_ xo xk xn xc xh xt xw xm xp pf ph tr 0, aq_ cy 4 xm 4 (mf_ m0 m1 m2 m3), ob4_0_ m0 mk0 mr0 l0 u0, ob4_0_ m1 mk1 mr1 l1 u1, ob4_0_ m2 a2 a3 l2 u2, ob4_0_ m3 mk3 mr3 l3 u3, ai_ cy l0 6 fl0, ai_ cy l1 6 fl1, ai_ cy l2 6 efl_15, ai_ cy l3 6 fl3] [0, 1, 2, 3, 8, 4, 5, 6, 9, 7] (by decide) rfl (fun hP hD => ?_)
        have hf9_ := g_16
        refine lv_iconst (v := 1) hx hb dB_36_3_31.2.2.1 (by decide) ?_
        rw [hQ]
        exact W.iret (v := 1) hx hb hr (fun t ht hW => ⟨⟨1, (), rfl, (by unfold mapRI; (repeat' (first | with_reducible refine if_n (by omega) ?_ | with_reducible refine if_ns (by omega) ?_ | with_reducible refine if_nz (by omega) ?_ | with_reducible exact if_p (by omega) (by omega) | with_reducible exact if_ps (by omega) (by omega) | with_reducible exact if_pz (by omega) (by omega))) <;> omega), (0 : Int32), mk0, mk1, a2, mk3, mr0, mr1, a3, mr3, fl0, fl1, efl_15, fl3, (by first | with_reducible assumption | assumption | exact rng_zero (by omega) (by omega) | omega), (by first | with_reducible assumption | assumption | exact rng_zero (by omega) (by omega) | omega), (by first | with_reducible assumption | assumption | exact rng_zero (by omega) (by omega) | omega), (by first | with_reducible assumption | assumption | exact rng_zero (by omega) (by omega) | omega), (by unfold mapRI; (repeat' (first | with_reducible refine if_n (by omega) ?_ | with_reducible refine if_ns (by omega) ?_ | with_reducible refine if_nz (by omega) ?_ | with_reducible exact if_p (by omega) (by omega) | with_reducible exact if_ps (by omega) (by omega) | with_reducible exact if_pz (by omega) (by omega))) <;> omega), (by first | exact ⟨fun _ => ⟨eq4_rf, eq4_rf, eq4_rf⟩, fun h => absurd h (by first | omega | decide)⟩ | exact ⟨fun h => absurd (by first | omega | decide) h, fun _ => ⟨f4_u0, f4_u0, _, hf9_, f4_u0⟩⟩ | exact ⟨fun h => absurd (by first | omega | decide) h, fun _ => ⟨f4_u1, f4_u1, _, hf9_, f4_u1⟩⟩ | exact ⟨fun h => absurd (by first | omega | decide) h, fun _ => ⟨f4_u2, f4_u2, _, hf9_, f4_u2⟩⟩ | exact ⟨fun h => absurd (by first | omega | decide) h, fun _ => ⟨f4_u3, f4_u3, _, hf9_, f4_u3⟩⟩), (by first | with_reducible assumption | assumption | exact rng_zero (by omega) (by omega) | omega), (by first | with_reducible assumption | assumption | exact rng_zero (by omega) (by omega) | omega), (by first | with_reducible assumption | assumption | exact rng_zero (by omega) (by omega) | omega), (by first | with_reducible assumption | assumption | exact rng_zero (by omega) (by omega) | omega), by rw [ht]; exact hP, hD⟩, hS.F ht⟩) hS.2.2 dB_36_3_31.2.2.2
      · refine lv_aload_n hx hb dB_36_3_30.2.2.1.1 rfl (lv_at hl 0 rfl) ?_
        refine va_get (ci := 11) (v := .ref xm) (C := RX11) (T := TX11) (N := 12) hx hb hts (fun _ h => List.mem_cons_of_mem _ (List.mem_append_left _ (List.mem_append_right _ h))) hown hK.1 hP 0 rfl rfl 6 (by decide) (hts (.fieldLink RX11 72 "CutAtlas" "maps" "[LCutAtlas$NumberMap;") (List.mem_of_getElem? (i := 2) rfl)) (fun _ h9 => h9) rfl dB_36_3_30.2.2.1.2 ?_
        refine lv_iload_n hx hb dB_36_3_30.2.2.2.1 rfl (lv_at hl 1 rfl) ?_
        refine va_aldq hx hb hK.1 hP 1 4 rfl rfl (i := 3) (by unfold vp_in; decide) dB_36_3_30.2.2.2.2 ?_
        refine lv_topv (v' := .ref m3) (by simp [va_up, va_rf, mf_, cl_0, cl_1, cl_2, cl_3, cl_4]) ?_
        refine lv_iload_n hx hb dB_36_3_31.1.1 rfl (lv_at hl 2 rfl) ?_
        refine lv_iload_n hx hb dB_36_3_31.1.2 rfl (lv_at hl 3 rfl) ?_
        refine ct_S hP hD hS hA [ob4_0_ m3 mk3 mr3 l3 u3, ai_ cy l3 6 fl3] [5, 9] (by decide) rfl (fun hPc hDw hFc hC_ => ?_)
        refine va_callv (va_runV (As := [.int a2, .int a3]) (rest := []) ⟨hx, hb, hml, hown, hts⟩ (c_X4_begin2 l D cy H.size m3 l3 u3 mk3 mr3 fl3 a2 a3) (cwV 2 hts gX11_map_X4_begin rfl rfl rfl ⟨rfl, hd_X4_begin⟩ ⟨Nat.le_of_ble_eq_true rfl, Nat.le_of_ble_eq_true rfl⟩) ⟨bl_, va_recvX hK.1 hP (ci := 4) (q0 := 5) rfl rfl, fun U hU hW => ⟨rfl, by rw [hU], by rw [hU]; exact hPc, kk_mv hW hK, hDw⟩⟩ rfl rfl hl.1 rfl (lv_room (Nat.le_of_ble_eq_true rfl)) dB_36_3_31.2.1 ⟨Nat.le_of_ble_eq_true rfl, Nat.le_of_ble_eq_true rfl⟩) hS (fun q _ h => hFc q h) hFc (fun u t H locs ht hvm hw hB hz1 hk1 hS => ?_)
        obtain ⟨efl_19, g_20, g_21, hP1, hD1⟩ := hB
        rw [ht] at hP1
        obtain ⟨hP, hD⟩ := va_join (wr := [ob11_0_ xo xk xn xc xh xt xw xm xp pf ph tr 0, aq_ cy 4 xm 4 (mf_ m0 m1 m2 m3), ob4_0_ m0 mk0 mr0 l0 u0, ob4_0_ m1 mk1 mr1 l1 u1, ob4_0_ m2 mk2 mr2 l2 u2, ai_ cy l0 6 fl0, ai_ cy l1 6 fl1, ai_ cy l2 6 fl2]) (w1 := [ob4_0_ m3 a2 a3 l3 u3, ai_ cy l3 6 efl_19]) hP hD [5, 9] [0, 1, 2, 3, 4, 6, 7, 8] hC_ rfl (by decide) (by decide) hk1 hFc hP1 hD1
        refine pd_S hP hD [ob11_0_ xo xk xn xc xh xt xw xm xp pf ph tr 0, aq_ cy 4 xm 4 (mf_ m0 m1 m2 m3), ob4_0_ m0 mk0 mr0 l0 u0, ob4_0_ m1 mk1 mr1 l1 u1, ob4_0_ m2 mk2 mr2 l2 u2, ob4_0_ m3 a2 a3 l3 u3, ai_ cy l0 6 fl0, ai_ cy l1 6 fl1, ai_ cy l2 6 fl2, ai_ cy l3 6 efl_19] [0, 1, 2, 3, 4, 8, 5, 6, 7, 9] (by decide) rfl (fun hP hD => ?_)
        have hf9_ := g_20
        refine lv_iconst (v := 1) hx hb dB_36_3_31.2.2.1 (by decide) ?_
        rw [hQ]
        exact W.iret (v := 1) hx hb hr (fun t ht hW => ⟨⟨1, (), rfl, (by unfold mapRI; (repeat' (first | with_reducible refine if_n (by omega) ?_ | with_reducible refine if_ns (by omega) ?_ | with_reducible refine if_nz (by omega) ?_ | with_reducible exact if_p (by omega) (by omega) | with_reducible exact if_ps (by omega) (by omega) | with_reducible exact if_pz (by omega) (by omega))) <;> omega), (0 : Int32), mk0, mk1, mk2, a2, mr0, mr1, mr2, a3, fl0, fl1, fl2, efl_19, (by first | with_reducible assumption | assumption | exact rng_zero (by omega) (by omega) | omega), (by first | with_reducible assumption | assumption | exact rng_zero (by omega) (by omega) | omega), (by first | with_reducible assumption | assumption | exact rng_zero (by omega) (by omega) | omega), (by first | with_reducible assumption | assumption | exact rng_zero (by omega) (by omega) | omega), (by unfold mapRI; (repeat' (first | with_reducible refine if_n (by omega) ?_ | with_reducible refine if_ns (by omega) ?_ | with_reducible refine if_nz (by omega) ?_ | with_reducible exact if_p (by omega) (by omega) | with_reducible exact if_ps (by omega) (by omega) | with_reducible exact if_pz (by omega) (by omega))) <;> omega), (by first | exact ⟨fun _ => ⟨eq4_rf, eq4_rf, eq4_rf⟩, fun h => absurd h (by first | omega | decide)⟩ | exact ⟨fun h => absurd (by first | omega | decide) h, fun _ => ⟨f4_u0, f4_u0, _, hf9_, f4_u0⟩⟩ | exact ⟨fun h => absurd (by first | omega | decide) h, fun _ => ⟨f4_u1, f4_u1, _, hf9_, f4_u1⟩⟩ | exact ⟨fun h => absurd (by first | omega | decide) h, fun _ => ⟨f4_u2, f4_u2, _, hf9_, f4_u2⟩⟩ | exact ⟨fun h => absurd (by first | omega | decide) h, fun _ => ⟨f4_u3, f4_u3, _, hf9_, f4_u3⟩⟩), (by first | with_reducible assumption | assumption | exact rng_zero (by omega) (by omega) | omega), (by first | with_reducible assumption | assumption | exact rng_zero (by omega) (by omega) | omega), (by first | with_reducible assumption | assumption | exact rng_zero (by omega) (by omega) | omega), (by first | with_reducible assumption | assumption | exact rng_zero (by omega) (by omega) | omega), by rw [ht]; exact hP, hD⟩, hS.F ht⟩) hS.2.2 dB_36_3_31.2.2.2
    · exact absurd c_5 (by decide)
end

section
set_option maxHeartbeats 4000000 in
set_option maxRecDepth 100000 in
theorem c_X11_row2 (l : Launch) (D : va_G) (cy : Nat → ClassId) (sz : Nat) (xo : Nat) (xk : Nat) (xn : Nat) (xc : Nat) (xh : Nat) (xt : Nat) (xw : Nat) (xm : Nat) (xp : Nat) (pf : Int32) (ph : Int32) (tr : Int64) (fi : Int32) (m0 : Nat) (l0 : Nat) (u0 : Nat) (m1 : Nat) (l1 : Nat) (u1 : Nat) (m2 : Nat) (l2 : Nat) (u2 : Nat) (m3 : Nat) (l3 : Nat) (u3 : Nat) (mk0 : Int32) (mr0 : Int32) (mk1 : Int32) (mr1 : Int32) (mk2 : Int32) (mr2 : Int32) (mk3 : Int32) (mr3 : Int32) (fl0 : Nat → Int32) (fl1 : Nat → Int32) (fl2 : Nat → Int32) (fl3 : Nat → Int32) (fn0 : Nat → Int64) (fn1 : Nat → Int64) (fn2 : Nat → Int64) (fn3 : Nat → Int64) (a1 : Int32) (a2 : Int32) (a3 : Int32) (hmr0 : mr0.toInt = -9 ∨ (0 ≤ mr0.toInt ∧ mr0.toInt ≤ 6)) (hmr1 : mr1.toInt = -9 ∨ (0 ≤ mr1.toInt ∧ mr1.toInt ≤ 6)) (hmr2 : mr2.toInt = -9 ∨ (0 ≤ mr2.toInt ∧ mr2.toInt ≤ 6)) (hmr3 : mr3.toInt = -9 ∨ (0 ≤ mr3.toInt ∧ mr3.toInt ≤ 6)) (r_fl0 : rng fl0 6 (-9) (5)) (r_fl1 : rng fl1 6 (-9) (5)) (r_fl2 : rng fl2 6 (-9) (5)) (r_fl3 : rng fl3 6 (-9) (5)) : Met l yX11_row wsX11_row ({ frames := 2, cells := 0, slots := 0, locals := 44 }) (va_Pc [.ref xo, .int a1, .int a2, .int a3] (fun U => U.heap.size = sz ∧ va_P D vwCl [ob11_0_ xo xk xn xc xh xt xw xm xp pf ph tr fi, aq_ cy 4 xm 4 (mf_ m0 m1 m2 m3), ob4_0_ m0 mk0 mr0 l0 u0, ob4_0_ m1 mk1 mr1 l1 u1, ob4_0_ m2 mk2 mr2 l2 u2, ob4_0_ m3 mk3 mr3 l3 u3, ai_ cy l0 6 fl0, ai_ cy l1 6 fl1, ai_ cy l2 6 fl2, ai_ cy l3 6 fl3, aj_ cy u0 30 fn0, aj_ cy u1 30 fn1, aj_ cy u2 30 fn2, aj_ cy u3 30 fn3] U.heap ∧ kk_ D cy U ∧ va_D (fun _ => True) [ob11_0_ xo xk xn xc xh xt xw xm xp pf ph tr fi, aq_ cy 4 xm 4 (mf_ m0 m1 m2 m3), ob4_0_ m0 mk0 mr0 l0 u0, ob4_0_ m1 mk1 mr1 l1 u1, ob4_0_ m2 mk2 mr2 l2 u2, ob4_0_ m3 mk3 mr3 l3 u3, ai_ cy l0 6 fl0, ai_ cy l1 6 fl1, ai_ cy l2 6 fl2, ai_ cy l3 6 fl3, aj_ cy u0 30 fn0, aj_ cy u1 30 fn1, aj_ cy u2 30 fn2, aj_ cy u3 30 fn3])) (va_Qi (fun (r : Int32) (_ : Unit) => (r.toInt = if rowRI a1.toInt a2.toInt a3.toInt (hasI ((f4_ mr0 mr1 mr2 mr3) a1.toNatClampNeg).toInt) ((f4_ mr0 mr1 mr2 mr3) a1.toNatClampNeg).toInt = 0 then 1 else rowRI a1.toInt a2.toInt a3.toInt (hasI ((f4_ mr0 mr1 mr2 mr3) a1.toNatClampNeg).toInt) ((f4_ mr0 mr1 mr2 mr3) a1.toNatClampNeg).toInt)) (fun (_ : Unit) (t : State) => ∃ (efi : Int32), ∃ (efl0 : Nat → Int32), ∃ (efl1 : Nat → Int32), ∃ (efl2 : Nat → Int32), ∃ (efl3 : Nat → Int32), ∃ (efn0 : Nat → Int64), ∃ (efn1 : Nat → Int64), ∃ (efn2 : Nat → Int64), ∃ (efn3 : Nat → Int64), (efi.toInt = rowRI a1.toInt a2.toInt a3.toInt (hasI ((f4_ mr0 mr1 mr2 mr3) a1.toNatClampNeg).toInt) ((f4_ mr0 mr1 mr2 mr3) a1.toNatClampNeg).toInt) ∧ ((efi.toInt ≠ 0 → eq4 (f4_ efl0 efl1 efl2 efl3) (f4_ fl0 fl1 fl2 fl3) ∧ eq4 (f4_ efn0 efn1 efn2 efn3) (f4_ fn0 fn1 fn2 fn3)) ∧ (efi.toInt = 0 → eq4 (f4_ efl0 efl1 efl2 efl3) (va_up (f4_ fl0 fl1 fl2 fl3) a1.toNatClampNeg (upd ((f4_ fl0 fl1 fl2 fl3) a1.toNatClampNeg) a2.toNatClampNeg a3)) ∧ ∃ g : Nat → Int64, (∀ q : Nat, g q = if 5 * a2.toInt ≤ (q : Int) ∧ (q : Int) < 5 * a2.toInt + 5 then 0 else (f4_ fn0 fn1 fn2 fn3) a1.toNatClampNeg q) ∧ eq4 (f4_ efn0 efn1 efn2 efn3) (va_up (f4_ fn0 fn1 fn2 fn3) a1.toNatClampNeg g))) ∧ (rng efl0 6 (-9) (5)) ∧ (rng efl1 6 (-9) (5)) ∧ (rng efl2 6 (-9) (5)) ∧ (rng efl3 6 (-9) (5)) ∧ va_P D vwCl [ob11_0_ xo xk xn xc xh xt xw xm xp pf ph tr efi, aq_ cy 4 xm 4 (mf_ m0 m1 m2 m3), ob4_0_ m0 mk0 mr0 l0 u0, ob4_0_ m1 mk1 mr1 l1 u1, ob4_0_ m2 mk2 mr2 l2 u2, ob4_0_ m3 mk3 mr3 l3 u3, ai_ cy l0 6 efl0, ai_ cy l1 6 efl1, ai_ cy l2 6 efl2, ai_ cy l3 6 efl3, aj_ cy u0 30 efn0, aj_ cy u1 30 efn1, aj_ cy u2 30 efn2, aj_ cy u3 30 efn3] t.heap ∧ va_D (va_A [ob11_0_ xo xk xn xc xh xt xw xm xp pf ph tr fi, aq_ cy 4 xm 4 (mf_ m0 m1 m2 m3), ob4_0_ m0 mk0 mr0 l0 u0, ob4_0_ m1 mk1 mr1 l1 u1, ob4_0_ m2 mk2 mr2 l2 u2, ob4_0_ m3 mk3 mr3 l3 u3, ai_ cy l0 6 fl0, ai_ cy l1 6 fl1, ai_ cy l2 6 fl2, ai_ cy l3 6 fl3, aj_ cy u0 30 fn0, aj_ cy u1 30 fn1, aj_ cy u2 30 fn2, aj_ cy u3 30 fn3] sz) [ob11_0_ xo xk xn xc xh xt xw xm xp pf ph tr efi, aq_ cy 4 xm 4 (mf_ m0 m1 m2 m3), ob4_0_ m0 mk0 mr0 l0 u0, ob4_0_ m1 mk1 mr1 l1 u1, ob4_0_ m2 mk2 mr2 l2 u2, ob4_0_ m3 mk3 mr3 l3 u3, ai_ cy l0 6 efl0, ai_ cy l1 6 efl1, ai_ cy l2 6 efl2, ai_ cy l3 6 efl3, aj_ cy u0 30 efn0, aj_ cy u1 30 efn1, aj_ cy u2 30 efn2, aj_ cy u3 30 efn3]) (va_A [ob11_0_ xo xk xn xc xh xt xw xm xp pf ph tr fi, aq_ cy 4 xm 4 (mf_ m0 m1 m2 m3), ob4_0_ m0 mk0 mr0 l0 u0, ob4_0_ m1 mk1 mr1 l1 u1, ob4_0_ m2 mk2 mr2 l2 u2, ob4_0_ m3 mk3 mr3 l3 u3, ai_ cy l0 6 fl0, ai_ cy l1 6 fl1, ai_ cy l2 6 fl2, ai_ cy l3 6 fl3, aj_ cy u0 30 fn0, aj_ cy u1 30 fn1, aj_ cy u2 30 fn2, aj_ cy u3 30 fn3] sz)) 0 0 (va_A [ob11_0_ xo xk xn xc xh xt xw xm xp pf ph tr fi, aq_ cy 4 xm 4 (mf_ m0 m1 m2 m3), ob4_0_ m0 mk0 mr0 l0 u0, ob4_0_ m1 mk1 mr1 l1 u1, ob4_0_ m2 mk2 mr2 l2 u2, ob4_0_ m3 mk3 mr3 l3 u3, ai_ cy l0 6 fl0, ai_ cy l1 6 fl1, ai_ cy l2 6 fl2, ai_ cy l3 6 fl3, aj_ cy u0 30 fn0, aj_ cy u1 30 fn1, aj_ cy u2 30 fn2, aj_ cy u3 30 fn3] sz) := by
  refine ofQ (cc := cX11_row) (maxL := 4) (ret := (some .int)) (by decide) rfl ?_
  intro p e s m args below meth c s₁ Q hQ B hml hv
  obtain ⟨rfl, hsz, hP, hK, hD0⟩ := hv
  have hx := B.exec
  have hb := B.bytes
  have hr := B.returns
  have hts := atoms_spec (ws := wsX11_row) B.pre
  have hown : s.vm.findClass RX11 = some m.cls := by have h_ := findClass_of_methodNamed B.named; exact h_
  have hlocks := B.notSynchronized
  subst hsz
  have hD := hD0.self (sz := s.heap.size)
  generalize hAe : va_A [ob11_0_ xo xk xn xc xh xt xw xm xp pf ph tr fi, aq_ cy 4 xm 4 (mf_ m0 m1 m2 m3), ob4_0_ m0 mk0 mr0 l0 u0, ob4_0_ m1 mk1 mr1 l1 u1, ob4_0_ m2 mk2 mr2 l2 u2, ob4_0_ m3 mk3 mr3 l3 u3, ai_ cy l0 6 fl0, ai_ cy l1 6 fl1, ai_ cy l2 6 fl2, ai_ cy l3 6 fl3, aj_ cy u0 30 fn0, aj_ cy u1 30 fn1, aj_ cy u2 30 fn2, aj_ cy u3 30 fn3] s.heap.size = A at hD hQ
  have hA : ∀ q : Nat, s.heap.size ≤ q → A q := fun q h => by rw [← hAe]; exact Or.inr h
  have hS : va_S A s.heap s.heap [] := va_S.rf
  have hl := lv_entry ([.ref xo, .int a1, .int a2, .int a3]) (n := 4) (Nat.le_of_ble_eq_true rfl)
  rw [lg_entry_eq]
  generalize (lg_sl ([.ref xo, .int a1, .int a2, .int a3]) ++ List.replicate (4 - (lg_sl ([.ref xo, .int a1, .int a2, .int a3])).length) Slot.unset).toArray = ls at hl ⊢
  have hl : lv_has ls 4 [(0, .ref xo), (1, .int a1), (2, .int a2), (3, .int a3)] := hl
  have z0 : (0 : Int32).toInt = 0 := by decide
  have z1 : (1 : Int32).toInt = 1 := by decide
  refine lv_aload_n hx hb dB_36_3_57.1.1.1.1 rfl (lv_at hl 0 rfl) ?_
  refine lv_aload_n hx hb dB_36_3_57.1.1.1.2 rfl (lv_at hl 0 rfl) ?_
  refine lv_iload_n hx hb dB_36_3_57.1.1.2.1 rfl (lv_at hl 1 rfl) ?_
  refine lv_iload_n hx hb dB_36_3_57.1.1.2.2 rfl (lv_at hl 2 rfl) ?_
  refine lv_iload_n hx hb dB_36_3_57.1.2.1.1 rfl (lv_at hl 3 rfl) ?_
  refine ct_R hP hD [ob11_0_ xo xk xn xc xh xt xw xm xp pf ph tr fi, aq_ cy 4 xm 4 (mf_ m0 m1 m2 m3), ob4_0_ m0 mk0 mr0 l0 u0, ob4_0_ m1 mk1 mr1 l1 u1, ob4_0_ m2 mk2 mr2 l2 u2, ob4_0_ m3 mk3 mr3 l3 u3] [0, 1, 2, 3, 4, 5] (by decide) rfl (fun hPc hDw => ?_)
  have hFc := va_free (wc := []) hD hS hA [] rfl
  refine va_calli (va_runV (As := [.int a1, .int a2, .int a3]) (rest := [.ref xo]) ⟨hx, hb, hml, hown, hts⟩ (c_X11_rowRefusal2 l D cy s.heap.size xo xk xn xc xh xt xw xm xp pf ph tr fi m0 l0 u0 m1 l1 u1 m2 l2 u2 m3 l3 u3 mk0 mr0 mk1 mr1 mk2 mr2 mk3 mr3 a1 a2 a3 (by first | with_reducible assumption | assumption | omega) (by first | with_reducible assumption | assumption | omega) (by first | with_reducible assumption | assumption | omega) (by first | with_reducible assumption | assumption | omega)) (cwV 3 hts gX11_row_X11_rowRefusal rfl rfl rfl ⟨rfl, hd_X11_rowRefusal⟩ ⟨Nat.le_of_ble_eq_true rfl, Nat.le_of_ble_eq_true rfl⟩) ⟨bl_, va_recvX hK.1 hP (ci := 11) (q0 := 0) rfl rfl, fun U hU hW => ⟨rfl, by rw [hU], by rw [hU]; exact hPc, kk_mv hW hK, hDw⟩⟩ rfl rfl hl.1 rfl (lv_room (Nat.le_of_ble_eq_true rfl)) dB_36_3_57.1.2.1.2 ⟨Nat.le_of_ble_eq_true rfl, Nat.le_of_ble_eq_true rfl⟩) hS (fun q _ h => hFc q h) hFc (fun r_1 u t H locs ht hvm hw hB hz1 hk1 hS => ?_)
  have hP : va_P D vwCl _ H := ro_keep hP hk1
  obtain ⟨f0_r_1, f1_r_1⟩ := hw
  refine va_put (ci := 11) (v := .int r_1) (ty := .int) (C := RX11) (T := TX11) (N := 12) hx hb hts (fun _ h => List.mem_cons_of_mem _ (List.mem_append_left _ (List.mem_append_right _ h))) tyX11 tyX11_ok nmX11 hown hK.1 hP hD hS 0 rfl rfl 11 (by decide) (hts (.fieldLink RX11 91 "CutAtlas" "finding" "I") (List.mem_of_getElem? (i := 1) rfl)) (fun _ h9 => h9) rfl (by decide +kernel) rfl rfl (Nat.le_of_ble_eq_true rfl) dB_36_3_57.1.2.2.1 (fun H locs hP hD hS => ?_)
  refine pd_K [ob11_0_ xo xk xn xc xh xt xw xm xp pf ph tr r_1, aq_ cy 4 xm 4 (mf_ m0 m1 m2 m3), ob4_0_ m0 mk0 mr0 l0 u0, ob4_0_ m1 mk1 mr1 l1 u1, ob4_0_ m2 mk2 mr2 l2 u2, ob4_0_ m3 mk3 mr3 l3 u3, ai_ cy l0 6 fl0, ai_ cy l1 6 fl1, ai_ cy l2 6 fl2, ai_ cy l3 6 fl3, aj_ cy u0 30 fn0, aj_ cy u1 30 fn1, aj_ cy u2 30 fn2, aj_ cy u3 30 fn3] hP hD (fun hP hD => ?_)
  refine lv_aload_n hx hb dB_36_3_57.1.2.2.2 rfl (lv_at hl 0 rfl) ?_
  refine va_get (ci := 11) (v := .int r_1) (C := RX11) (T := TX11) (N := 12) hx hb hts (fun _ h => List.mem_cons_of_mem _ (List.mem_append_left _ (List.mem_append_right _ h))) hown hK.1 hP 0 rfl rfl 11 (by decide) (hts (.fieldLink RX11 91 "CutAtlas" "finding" "I") (List.mem_of_getElem? (i := 1) rfl)) (fun _ h9 => h9) rfl dB_36_3_57.2.1.1.1 ?_
  refine lv_if_eq (tgt := 23) hx hb dB_36_3_57.2.1.1.2 (by decide) (fun c_2 => ?_) (fun c_2 => ?_)
  · have t_2 : r_1.toInt = (0 : Int32).toInt := congrArg Int32.toInt c_2
    rcases sp_4 (x := a1) (by omega) with rfl | rfl | rfl | rfl
    · refine lv_aload_n hx hb dB_36_3_57.2.2.1.2 rfl (lv_at hl 0 rfl) ?_
      refine va_get (ci := 11) (v := .ref xm) (C := RX11) (T := TX11) (N := 12) hx hb hts (fun _ h => List.mem_cons_of_mem _ (List.mem_append_left _ (List.mem_append_right _ h))) hown hK.1 hP 0 rfl rfl 6 (by decide) (hts (.fieldLink RX11 72 "CutAtlas" "maps" "[LCutAtlas$NumberMap;") (List.mem_of_getElem? (i := 2) rfl)) (fun _ h9 => h9) rfl dB_36_3_57.2.2.2.1 ?_
      refine lv_iload_n hx hb dB_36_3_57.2.2.2.2 rfl (lv_at hl 1 rfl) ?_
      refine va_aldq hx hb hK.1 hP 1 4 rfl rfl (i := 0) (by unfold vp_in; decide) dB_36_3_58.1.1 ?_
      refine lv_topv (v' := .ref m0) (by simp [va_up, va_rf, mf_, cl_0, cl_1, cl_2, cl_3, cl_4]) ?_
      refine lv_iload_n hx hb dB_36_3_58.1.2.1 rfl (lv_at hl 2 rfl) ?_
      refine lv_iload_n hx hb dB_36_3_58.1.2.2 rfl (lv_at hl 3 rfl) ?_
      refine ct_S hP hD hS hA [ob4_0_ m0 mk0 mr0 l0 u0, ai_ cy l0 6 fl0, aj_ cy u0 30 fn0] [2, 6, 10] (by decide) rfl (fun hPc hDw hFc hC_ => ?_)
      refine va_callv (va_runV (As := [.int a2, .int a3]) (rest := []) ⟨hx, hb, hml, hown, hts⟩ (c_X4_beginRow2 l D cy H.size m0 l0 u0 mk0 mr0 fl0 fn0 a2 a3 (by first | with_reducible assumption | omega | assumption) (by first | with_reducible assumption | omega | assumption) (by first | with_reducible assumption | assumption | omega)) (cwV 2 hts gX11_row_X4_beginRow rfl rfl rfl ⟨rfl, hd_X4_beginRow⟩ ⟨Nat.le_of_ble_eq_true rfl, Nat.le_of_ble_eq_true rfl⟩) ⟨bl_, va_recvX hK.1 hP (ci := 4) (q0 := 2) rfl rfl, fun U hU hW => ⟨rfl, by rw [hU], by rw [hU]; exact hPc, kk_mv hW hK, hDw⟩⟩ rfl rfl hl.1 rfl (lv_room (Nat.le_of_ble_eq_true rfl)) dB_36_3_58.2.1 ⟨Nat.le_of_ble_eq_true rfl, Nat.le_of_ble_eq_true rfl⟩) hS (fun q _ h => hFc q h) hFc (fun u t H locs ht hvm hw hB hz1 hk1 hS => ?_)
      obtain ⟨efl_4, efn_5, g_6, g_7, g_8, hP1, hD1⟩ := hB
      rw [ht] at hP1
      obtain ⟨hP, hD⟩ := va_join (wr := [ob11_0_ xo xk xn xc xh xt xw xm xp pf ph tr r_1, aq_ cy 4 xm 4 (mf_ m0 m1 m2 m3), ob4_0_ m1 mk1 mr1 l1 u1, ob4_0_ m2 mk2 mr2 l2 u2, ob4_0_ m3 mk3 mr3 l3 u3, ai_ cy l1 6 fl1, ai_ cy l2 6 fl2, ai_ cy l3 6 fl3, aj_ cy u1 30 fn1, aj_ cy u2 30 fn2, aj_ cy u3 30 fn3]) (w1 := [ob4_0_ m0 mk0 mr0 l0 u0, ai_ cy l0 6 efl_4, aj_ cy u0 30 efn_5]) hP hD [2, 6, 10] [0, 1, 3, 4, 5, 7, 8, 9, 11, 12, 13] hC_ rfl (by decide +kernel) (by decide +kernel) hk1 hFc hP1 hD1
      refine pd_S hP hD [ob11_0_ xo xk xn xc xh xt xw xm xp pf ph tr r_1, aq_ cy 4 xm 4 (mf_ m0 m1 m2 m3), ob4_0_ m0 mk0 mr0 l0 u0, ob4_0_ m1 mk1 mr1 l1 u1, ob4_0_ m2 mk2 mr2 l2 u2, ob4_0_ m3 mk3 mr3 l3 u3, ai_ cy l0 6 efl_4, ai_ cy l1 6 fl1, ai_ cy l2 6 fl2, ai_ cy l3 6 fl3, aj_ cy u0 30 efn_5, aj_ cy u1 30 fn1, aj_ cy u2 30 fn2, aj_ cy u3 30 fn3] [0, 1, 11, 2, 3, 4, 12, 5, 6, 7, 13, 8, 9, 10] (by decide +kernel) rfl (fun hP hD => ?_)
      have hq1_ := g_6
      have hq2_ := g_7
      refine lv_iconst (v := 1) hx hb dB_36_3_58.2.2.1 (by decide) ?_
      rw [hQ]
      exact W.iret (v := 1) hx hb hr (fun t ht hW => ⟨⟨1, (), rfl, (by first | (rw [if_neg (by omega)]; omega) | (rw [if_pos (by omega)]; decide)), r_1, efl_4, fl1, fl2, fl3, efn_5, fn1, fn2, fn3, (by assumption), (by first | exact ⟨fun _ => ⟨eq4_rf, eq4_rf⟩, fun h => absurd h (by first | omega | decide)⟩ | exact ⟨fun h => absurd (by first | omega | decide) h, fun _ => ⟨by rw [f4_c0, ← hq1_]; exact f4_u0, efn_5, fun q => by rw [f4_c0]; exact hq2_ q, f4_u0⟩⟩ | exact ⟨fun h => absurd (by first | omega | decide) h, fun _ => ⟨by rw [f4_c1, ← hq1_]; exact f4_u1, fn1, fun q => by rw [f4_c1]; exact hq2_ q, f4_u1⟩⟩ | exact ⟨fun h => absurd (by first | omega | decide) h, fun _ => ⟨by rw [f4_c2, ← hq1_]; exact f4_u2, fn2, fun q => by rw [f4_c2]; exact hq2_ q, f4_u2⟩⟩ | exact ⟨fun h => absurd (by first | omega | decide) h, fun _ => ⟨by rw [f4_c3, ← hq1_]; exact f4_u3, fn3, fun q => by rw [f4_c3]; exact hq2_ q, f4_u3⟩⟩), (by first | with_reducible assumption | assumption | exact rng_zero (by omega) (by omega) | omega), (by first | with_reducible assumption | assumption | exact rng_zero (by omega) (by omega) | omega), (by first | with_reducible assumption | assumption | exact rng_zero (by omega) (by omega) | omega), (by first | with_reducible assumption | assumption | exact rng_zero (by omega) (by omega) | omega), by rw [ht]; exact hP, hD⟩, hS.F ht⟩) hS.2.2 dB_36_3_58.2.2.2
    · refine lv_aload_n hx hb dB_36_3_57.2.2.1.2 rfl (lv_at hl 0 rfl) ?_
      refine va_get (ci := 11) (v := .ref xm) (C := RX11) (T := TX11) (N := 12) hx hb hts (fun _ h => List.mem_cons_of_mem _ (List.mem_append_left _ (List.mem_append_right _ h))) hown hK.1 hP 0 rfl rfl 6 (by decide) (hts (.fieldLink RX11 72 "CutAtlas" "maps" "[LCutAtlas$NumberMap;") (List.mem_of_getElem? (i := 2) rfl)) (fun _ h9 => h9) rfl dB_36_3_57.2.2.2.1 ?_
      refine lv_iload_n hx hb dB_36_3_57.2.2.2.2 rfl (lv_at hl 1 rfl) ?_
      refine va_aldq hx hb hK.1 hP 1 4 rfl rfl (i := 1) (by unfold vp_in; decide) dB_36_3_58.1.1 ?_
      refine lv_topv (v' := .ref m1) (by simp [va_up, va_rf, mf_, cl_0, cl_1, cl_2, cl_3, cl_4]) ?_
      refine lv_iload_n hx hb dB_36_3_58.1.2.1 rfl (lv_at hl 2 rfl) ?_
      refine lv_iload_n hx hb dB_36_3_58.1.2.2 rfl (lv_at hl 3 rfl) ?_
      refine ct_S hP hD hS hA [ob4_0_ m1 mk1 mr1 l1 u1, ai_ cy l1 6 fl1, aj_ cy u1 30 fn1] [3, 7, 11] (by decide) rfl (fun hPc hDw hFc hC_ => ?_)
      refine va_callv (va_runV (As := [.int a2, .int a3]) (rest := []) ⟨hx, hb, hml, hown, hts⟩ (c_X4_beginRow2 l D cy H.size m1 l1 u1 mk1 mr1 fl1 fn1 a2 a3 (by first | with_reducible assumption | omega | assumption) (by first | with_reducible assumption | omega | assumption) (by first | with_reducible assumption | assumption | omega)) (cwV 2 hts gX11_row_X4_beginRow rfl rfl rfl ⟨rfl, hd_X4_beginRow⟩ ⟨Nat.le_of_ble_eq_true rfl, Nat.le_of_ble_eq_true rfl⟩) ⟨bl_, va_recvX hK.1 hP (ci := 4) (q0 := 3) rfl rfl, fun U hU hW => ⟨rfl, by rw [hU], by rw [hU]; exact hPc, kk_mv hW hK, hDw⟩⟩ rfl rfl hl.1 rfl (lv_room (Nat.le_of_ble_eq_true rfl)) dB_36_3_58.2.1 ⟨Nat.le_of_ble_eq_true rfl, Nat.le_of_ble_eq_true rfl⟩) hS (fun q _ h => hFc q h) hFc (fun u t H locs ht hvm hw hB hz1 hk1 hS => ?_)
      obtain ⟨efl_10, efn_11, g_12, g_13, g_14, hP1, hD1⟩ := hB
      rw [ht] at hP1
      obtain ⟨hP, hD⟩ := va_join (wr := [ob11_0_ xo xk xn xc xh xt xw xm xp pf ph tr r_1, aq_ cy 4 xm 4 (mf_ m0 m1 m2 m3), ob4_0_ m0 mk0 mr0 l0 u0, ob4_0_ m2 mk2 mr2 l2 u2, ob4_0_ m3 mk3 mr3 l3 u3, ai_ cy l0 6 fl0, ai_ cy l2 6 fl2, ai_ cy l3 6 fl3, aj_ cy u0 30 fn0, aj_ cy u2 30 fn2, aj_ cy u3 30 fn3]) (w1 := [ob4_0_ m1 mk1 mr1 l1 u1, ai_ cy l1 6 efl_10, aj_ cy u1 30 efn_11]) hP hD [3, 7, 11] [0, 1, 2, 4, 5, 6, 8, 9, 10, 12, 13] hC_ rfl (by decide +kernel) (by decide +kernel) hk1 hFc hP1 hD1
      refine pd_S hP hD [ob11_0_ xo xk xn xc xh xt xw xm xp pf ph tr r_1, aq_ cy 4 xm 4 (mf_ m0 m1 m2 m3), ob4_0_ m0 mk0 mr0 l0 u0, ob4_0_ m1 mk1 mr1 l1 u1, ob4_0_ m2 mk2 mr2 l2 u2, ob4_0_ m3 mk3 mr3 l3 u3, ai_ cy l0 6 fl0, ai_ cy l1 6 efl_10, ai_ cy l2 6 fl2, ai_ cy l3 6 fl3, aj_ cy u0 30 fn0, aj_ cy u1 30 efn_11, aj_ cy u2 30 fn2, aj_ cy u3 30 fn3] [0, 1, 2, 11, 3, 4, 5, 12, 6, 7, 8, 13, 9, 10] (by decide +kernel) rfl (fun hP hD => ?_)
      have hq1_ := g_12
      have hq2_ := g_13
      refine lv_iconst (v := 1) hx hb dB_36_3_58.2.2.1 (by decide) ?_
      rw [hQ]
      exact W.iret (v := 1) hx hb hr (fun t ht hW => ⟨⟨1, (), rfl, (by first | (rw [if_neg (by omega)]; omega) | (rw [if_pos (by omega)]; decide)), r_1, fl0, efl_10, fl2, fl3, fn0, efn_11, fn2, fn3, (by assumption), (by first | exact ⟨fun _ => ⟨eq4_rf, eq4_rf⟩, fun h => absurd h (by first | omega | decide)⟩ | exact ⟨fun h => absurd (by first | omega | decide) h, fun _ => ⟨by rw [f4_c0, ← hq1_]; exact f4_u0, fn0, fun q => by rw [f4_c0]; exact hq2_ q, f4_u0⟩⟩ | exact ⟨fun h => absurd (by first | omega | decide) h, fun _ => ⟨by rw [f4_c1, ← hq1_]; exact f4_u1, efn_11, fun q => by rw [f4_c1]; exact hq2_ q, f4_u1⟩⟩ | exact ⟨fun h => absurd (by first | omega | decide) h, fun _ => ⟨by rw [f4_c2, ← hq1_]; exact f4_u2, fn2, fun q => by rw [f4_c2]; exact hq2_ q, f4_u2⟩⟩ | exact ⟨fun h => absurd (by first | omega | decide) h, fun _ => ⟨by rw [f4_c3, ← hq1_]; exact f4_u3, fn3, fun q => by rw [f4_c3]; exact hq2_ q, f4_u3⟩⟩), (by first | with_reducible assumption | assumption | exact rng_zero (by omega) (by omega) | omega), (by first | with_reducible assumption | assumption | exact rng_zero (by omega) (by omega) | omega), (by first | with_reducible assumption | assumption | exact rng_zero (by omega) (by omega) | omega), (by first | with_reducible assumption | assumption | exact rng_zero (by omega) (by omega) | omega), by rw [ht]; exact hP, hD⟩, hS.F ht⟩) hS.2.2 dB_36_3_58.2.2.2
    · refine lv_aload_n hx hb dB_36_3_57.2.2.1.2 rfl (lv_at hl 0 rfl) ?_
      refine va_get (ci := 11) (v := .ref xm) (C := RX11) (T := TX11) (N := 12) hx hb hts (fun _ h => List.mem_cons_of_mem _ (List.mem_append_left _ (List.mem_append_right _ h))) hown hK.1 hP 0 rfl rfl 6 (by decide) (hts (.fieldLink RX11 72 "CutAtlas" "maps" "[LCutAtlas$NumberMap;") (List.mem_of_getElem? (i := 2) rfl)) (fun _ h9 => h9) rfl dB_36_3_57.2.2.2.1 ?_
      refine lv_iload_n hx hb dB_36_3_57.2.2.2.2 rfl (lv_at hl 1 rfl) ?_
      refine va_aldq hx hb hK.1 hP 1 4 rfl rfl (i := 2) (by unfold vp_in; decide) dB_36_3_58.1.1 ?_
      refine lv_topv (v' := .ref m2) (by simp [va_up, va_rf, mf_, cl_0, cl_1, cl_2, cl_3, cl_4]) ?_
      refine lv_iload_n hx hb dB_36_3_58.1.2.1 rfl (lv_at hl 2 rfl) ?_
      refine lv_iload_n hx hb dB_36_3_58.1.2.2 rfl (lv_at hl 3 rfl) ?_
      refine ct_S hP hD hS hA [ob4_0_ m2 mk2 mr2 l2 u2, ai_ cy l2 6 fl2, aj_ cy u2 30 fn2] [4, 8, 12] (by decide) rfl (fun hPc hDw hFc hC_ => ?_)
      refine va_callv (va_runV (As := [.int a2, .int a3]) (rest := []) ⟨hx, hb, hml, hown, hts⟩ (c_X4_beginRow2 l D cy H.size m2 l2 u2 mk2 mr2 fl2 fn2 a2 a3 (by first | with_reducible assumption | omega | assumption) (by first | with_reducible assumption | omega | assumption) (by first | with_reducible assumption | assumption | omega)) (cwV 2 hts gX11_row_X4_beginRow rfl rfl rfl ⟨rfl, hd_X4_beginRow⟩ ⟨Nat.le_of_ble_eq_true rfl, Nat.le_of_ble_eq_true rfl⟩) ⟨bl_, va_recvX hK.1 hP (ci := 4) (q0 := 4) rfl rfl, fun U hU hW => ⟨rfl, by rw [hU], by rw [hU]; exact hPc, kk_mv hW hK, hDw⟩⟩ rfl rfl hl.1 rfl (lv_room (Nat.le_of_ble_eq_true rfl)) dB_36_3_58.2.1 ⟨Nat.le_of_ble_eq_true rfl, Nat.le_of_ble_eq_true rfl⟩) hS (fun q _ h => hFc q h) hFc (fun u t H locs ht hvm hw hB hz1 hk1 hS => ?_)
      obtain ⟨efl_16, efn_17, g_18, g_19, g_20, hP1, hD1⟩ := hB
      rw [ht] at hP1
      obtain ⟨hP, hD⟩ := va_join (wr := [ob11_0_ xo xk xn xc xh xt xw xm xp pf ph tr r_1, aq_ cy 4 xm 4 (mf_ m0 m1 m2 m3), ob4_0_ m0 mk0 mr0 l0 u0, ob4_0_ m1 mk1 mr1 l1 u1, ob4_0_ m3 mk3 mr3 l3 u3, ai_ cy l0 6 fl0, ai_ cy l1 6 fl1, ai_ cy l3 6 fl3, aj_ cy u0 30 fn0, aj_ cy u1 30 fn1, aj_ cy u3 30 fn3]) (w1 := [ob4_0_ m2 mk2 mr2 l2 u2, ai_ cy l2 6 efl_16, aj_ cy u2 30 efn_17]) hP hD [4, 8, 12] [0, 1, 2, 3, 5, 6, 7, 9, 10, 11, 13] hC_ rfl (by decide +kernel) (by decide +kernel) hk1 hFc hP1 hD1
      refine pd_S hP hD [ob11_0_ xo xk xn xc xh xt xw xm xp pf ph tr r_1, aq_ cy 4 xm 4 (mf_ m0 m1 m2 m3), ob4_0_ m0 mk0 mr0 l0 u0, ob4_0_ m1 mk1 mr1 l1 u1, ob4_0_ m2 mk2 mr2 l2 u2, ob4_0_ m3 mk3 mr3 l3 u3, ai_ cy l0 6 fl0, ai_ cy l1 6 fl1, ai_ cy l2 6 efl_16, ai_ cy l3 6 fl3, aj_ cy u0 30 fn0, aj_ cy u1 30 fn1, aj_ cy u2 30 efn_17, aj_ cy u3 30 fn3] [0, 1, 2, 3, 11, 4, 5, 6, 12, 7, 8, 9, 13, 10] (by decide +kernel) rfl (fun hP hD => ?_)
      have hq1_ := g_18
      have hq2_ := g_19
      refine lv_iconst (v := 1) hx hb dB_36_3_58.2.2.1 (by decide) ?_
      rw [hQ]
      exact W.iret (v := 1) hx hb hr (fun t ht hW => ⟨⟨1, (), rfl, (by first | (rw [if_neg (by omega)]; omega) | (rw [if_pos (by omega)]; decide)), r_1, fl0, fl1, efl_16, fl3, fn0, fn1, efn_17, fn3, (by assumption), (by first | exact ⟨fun _ => ⟨eq4_rf, eq4_rf⟩, fun h => absurd h (by first | omega | decide)⟩ | exact ⟨fun h => absurd (by first | omega | decide) h, fun _ => ⟨by rw [f4_c0, ← hq1_]; exact f4_u0, fn0, fun q => by rw [f4_c0]; exact hq2_ q, f4_u0⟩⟩ | exact ⟨fun h => absurd (by first | omega | decide) h, fun _ => ⟨by rw [f4_c1, ← hq1_]; exact f4_u1, fn1, fun q => by rw [f4_c1]; exact hq2_ q, f4_u1⟩⟩ | exact ⟨fun h => absurd (by first | omega | decide) h, fun _ => ⟨by rw [f4_c2, ← hq1_]; exact f4_u2, efn_17, fun q => by rw [f4_c2]; exact hq2_ q, f4_u2⟩⟩ | exact ⟨fun h => absurd (by first | omega | decide) h, fun _ => ⟨by rw [f4_c3, ← hq1_]; exact f4_u3, fn3, fun q => by rw [f4_c3]; exact hq2_ q, f4_u3⟩⟩), (by first | with_reducible assumption | assumption | exact rng_zero (by omega) (by omega) | omega), (by first | with_reducible assumption | assumption | exact rng_zero (by omega) (by omega) | omega), (by first | with_reducible assumption | assumption | exact rng_zero (by omega) (by omega) | omega), (by first | with_reducible assumption | assumption | exact rng_zero (by omega) (by omega) | omega), by rw [ht]; exact hP, hD⟩, hS.F ht⟩) hS.2.2 dB_36_3_58.2.2.2
    · refine lv_aload_n hx hb dB_36_3_57.2.2.1.2 rfl (lv_at hl 0 rfl) ?_
      refine va_get (ci := 11) (v := .ref xm) (C := RX11) (T := TX11) (N := 12) hx hb hts (fun _ h => List.mem_cons_of_mem _ (List.mem_append_left _ (List.mem_append_right _ h))) hown hK.1 hP 0 rfl rfl 6 (by decide) (hts (.fieldLink RX11 72 "CutAtlas" "maps" "[LCutAtlas$NumberMap;") (List.mem_of_getElem? (i := 2) rfl)) (fun _ h9 => h9) rfl dB_36_3_57.2.2.2.1 ?_
      refine lv_iload_n hx hb dB_36_3_57.2.2.2.2 rfl (lv_at hl 1 rfl) ?_
      refine va_aldq hx hb hK.1 hP 1 4 rfl rfl (i := 3) (by unfold vp_in; decide) dB_36_3_58.1.1 ?_
      refine lv_topv (v' := .ref m3) (by simp [va_up, va_rf, mf_, cl_0, cl_1, cl_2, cl_3, cl_4]) ?_
      refine lv_iload_n hx hb dB_36_3_58.1.2.1 rfl (lv_at hl 2 rfl) ?_
      refine lv_iload_n hx hb dB_36_3_58.1.2.2 rfl (lv_at hl 3 rfl) ?_
      refine ct_S hP hD hS hA [ob4_0_ m3 mk3 mr3 l3 u3, ai_ cy l3 6 fl3, aj_ cy u3 30 fn3] [5, 9, 13] (by decide) rfl (fun hPc hDw hFc hC_ => ?_)
      refine va_callv (va_runV (As := [.int a2, .int a3]) (rest := []) ⟨hx, hb, hml, hown, hts⟩ (c_X4_beginRow2 l D cy H.size m3 l3 u3 mk3 mr3 fl3 fn3 a2 a3 (by first | with_reducible assumption | omega | assumption) (by first | with_reducible assumption | omega | assumption) (by first | with_reducible assumption | assumption | omega)) (cwV 2 hts gX11_row_X4_beginRow rfl rfl rfl ⟨rfl, hd_X4_beginRow⟩ ⟨Nat.le_of_ble_eq_true rfl, Nat.le_of_ble_eq_true rfl⟩) ⟨bl_, va_recvX hK.1 hP (ci := 4) (q0 := 5) rfl rfl, fun U hU hW => ⟨rfl, by rw [hU], by rw [hU]; exact hPc, kk_mv hW hK, hDw⟩⟩ rfl rfl hl.1 rfl (lv_room (Nat.le_of_ble_eq_true rfl)) dB_36_3_58.2.1 ⟨Nat.le_of_ble_eq_true rfl, Nat.le_of_ble_eq_true rfl⟩) hS (fun q _ h => hFc q h) hFc (fun u t H locs ht hvm hw hB hz1 hk1 hS => ?_)
      obtain ⟨efl_22, efn_23, g_24, g_25, g_26, hP1, hD1⟩ := hB
      rw [ht] at hP1
      obtain ⟨hP, hD⟩ := va_join (wr := [ob11_0_ xo xk xn xc xh xt xw xm xp pf ph tr r_1, aq_ cy 4 xm 4 (mf_ m0 m1 m2 m3), ob4_0_ m0 mk0 mr0 l0 u0, ob4_0_ m1 mk1 mr1 l1 u1, ob4_0_ m2 mk2 mr2 l2 u2, ai_ cy l0 6 fl0, ai_ cy l1 6 fl1, ai_ cy l2 6 fl2, aj_ cy u0 30 fn0, aj_ cy u1 30 fn1, aj_ cy u2 30 fn2]) (w1 := [ob4_0_ m3 mk3 mr3 l3 u3, ai_ cy l3 6 efl_22, aj_ cy u3 30 efn_23]) hP hD [5, 9, 13] [0, 1, 2, 3, 4, 6, 7, 8, 10, 11, 12] hC_ rfl (by decide +kernel) (by decide +kernel) hk1 hFc hP1 hD1
      refine pd_S hP hD [ob11_0_ xo xk xn xc xh xt xw xm xp pf ph tr r_1, aq_ cy 4 xm 4 (mf_ m0 m1 m2 m3), ob4_0_ m0 mk0 mr0 l0 u0, ob4_0_ m1 mk1 mr1 l1 u1, ob4_0_ m2 mk2 mr2 l2 u2, ob4_0_ m3 mk3 mr3 l3 u3, ai_ cy l0 6 fl0, ai_ cy l1 6 fl1, ai_ cy l2 6 fl2, ai_ cy l3 6 efl_22, aj_ cy u0 30 fn0, aj_ cy u1 30 fn1, aj_ cy u2 30 fn2, aj_ cy u3 30 efn_23] [0, 1, 2, 3, 4, 11, 5, 6, 7, 12, 8, 9, 10, 13] (by decide +kernel) rfl (fun hP hD => ?_)
      have hq1_ := g_24
      have hq2_ := g_25
      refine lv_iconst (v := 1) hx hb dB_36_3_58.2.2.1 (by decide) ?_
      rw [hQ]
      exact W.iret (v := 1) hx hb hr (fun t ht hW => ⟨⟨1, (), rfl, (by first | (rw [if_neg (by omega)]; omega) | (rw [if_pos (by omega)]; decide)), r_1, fl0, fl1, fl2, efl_22, fn0, fn1, fn2, efn_23, (by assumption), (by first | exact ⟨fun _ => ⟨eq4_rf, eq4_rf⟩, fun h => absurd h (by first | omega | decide)⟩ | exact ⟨fun h => absurd (by first | omega | decide) h, fun _ => ⟨by rw [f4_c0, ← hq1_]; exact f4_u0, fn0, fun q => by rw [f4_c0]; exact hq2_ q, f4_u0⟩⟩ | exact ⟨fun h => absurd (by first | omega | decide) h, fun _ => ⟨by rw [f4_c1, ← hq1_]; exact f4_u1, fn1, fun q => by rw [f4_c1]; exact hq2_ q, f4_u1⟩⟩ | exact ⟨fun h => absurd (by first | omega | decide) h, fun _ => ⟨by rw [f4_c2, ← hq1_]; exact f4_u2, fn2, fun q => by rw [f4_c2]; exact hq2_ q, f4_u2⟩⟩ | exact ⟨fun h => absurd (by first | omega | decide) h, fun _ => ⟨by rw [f4_c3, ← hq1_]; exact f4_u3, efn_23, fun q => by rw [f4_c3]; exact hq2_ q, f4_u3⟩⟩), (by first | with_reducible assumption | assumption | exact rng_zero (by omega) (by omega) | omega), (by first | with_reducible assumption | assumption | exact rng_zero (by omega) (by omega) | omega), (by first | with_reducible assumption | assumption | exact rng_zero (by omega) (by omega) | omega), (by first | with_reducible assumption | assumption | exact rng_zero (by omega) (by omega) | omega), by rw [ht]; exact hP, hD⟩, hS.F ht⟩) hS.2.2 dB_36_3_58.2.2.2
  · have t_2 : ¬ r_1.toInt = (0 : Int32).toInt := fun h => c_2 (Int32.toInt_inj.mp h)
    refine lv_aload_n hx hb dB_36_3_57.2.1.2.1 rfl (lv_at hl 0 rfl) ?_
    refine va_get (ci := 11) (v := .int r_1) (C := RX11) (T := TX11) (N := 12) hx hb hts (fun _ h => List.mem_cons_of_mem _ (List.mem_append_left _ (List.mem_append_right _ h))) hown hK.1 hP 0 rfl rfl 11 (by decide) (hts (.fieldLink RX11 91 "CutAtlas" "finding" "I") (List.mem_of_getElem? (i := 1) rfl)) (fun _ h9 => h9) rfl dB_36_3_57.2.1.2.2 ?_
    rw [hQ]
    exact W.iret (v := r_1) hx hb hr (fun t ht hW => ⟨⟨r_1, (), rfl, (by first | (rw [if_neg (by omega)]; omega) | (rw [if_pos (by omega)]; decide)), r_1, fl0, fl1, fl2, fl3, fn0, fn1, fn2, fn3, (by assumption), (by first | exact ⟨fun _ => ⟨eq4_rf, eq4_rf⟩, fun h => absurd h (by first | omega | decide)⟩ | exact ⟨fun h => absurd (by first | omega | decide) h, fun _ => ⟨by rw [f4_c0, ← hq1_]; exact f4_u0, fn0, fun q => by rw [f4_c0]; exact hq2_ q, f4_u0⟩⟩ | exact ⟨fun h => absurd (by first | omega | decide) h, fun _ => ⟨by rw [f4_c1, ← hq1_]; exact f4_u1, fn1, fun q => by rw [f4_c1]; exact hq2_ q, f4_u1⟩⟩ | exact ⟨fun h => absurd (by first | omega | decide) h, fun _ => ⟨by rw [f4_c2, ← hq1_]; exact f4_u2, fn2, fun q => by rw [f4_c2]; exact hq2_ q, f4_u2⟩⟩ | exact ⟨fun h => absurd (by first | omega | decide) h, fun _ => ⟨by rw [f4_c3, ← hq1_]; exact f4_u3, fn3, fun q => by rw [f4_c3]; exact hq2_ q, f4_u3⟩⟩), (by first | with_reducible assumption | assumption | exact rng_zero (by omega) (by omega) | omega), (by first | with_reducible assumption | assumption | exact rng_zero (by omega) (by omega) | omega), (by first | with_reducible assumption | assumption | exact rng_zero (by omega) (by omega) | omega), (by first | with_reducible assumption | assumption | exact rng_zero (by omega) (by omega) | omega), by rw [ht]; exact hP, hD⟩, hS.F ht⟩) hS.2.2 dB_36_3_57.2.2.1.1

set_option maxHeartbeats 4000000 in
set_option maxRecDepth 100000 in
theorem c_X11_put2 (l : Launch) (D : va_G) (cy : Nat → ClassId) (sz : Nat) (xo : Nat) (xk : Nat) (xn : Nat) (xc : Nat) (xh : Nat) (xt : Nat) (xw : Nat) (xm : Nat) (xp : Nat) (pf : Int32) (ph : Int32) (tr : Int64) (fi : Int32) (m0 : Nat) (l0 : Nat) (u0 : Nat) (m1 : Nat) (l1 : Nat) (u1 : Nat) (m2 : Nat) (l2 : Nat) (u2 : Nat) (m3 : Nat) (l3 : Nat) (u3 : Nat) (mk0 : Int32) (mr0 : Int32) (mk1 : Int32) (mr1 : Int32) (mk2 : Int32) (mr2 : Int32) (mk3 : Int32) (mr3 : Int32) (fl0 : Nat → Int32) (fl1 : Nat → Int32) (fl2 : Nat → Int32) (fl3 : Nat → Int32) (fn0 : Nat → Int64) (fn1 : Nat → Int64) (fn2 : Nat → Int64) (fn3 : Nat → Int64) (a1 : Int32) (a2 : Int32) (a3 : Int32) (a4 : Int32) (a5 : Int64) (hmr0 : mr0.toInt = -9 ∨ (0 ≤ mr0.toInt ∧ mr0.toInt ≤ 6)) (hmr1 : mr1.toInt = -9 ∨ (0 ≤ mr1.toInt ∧ mr1.toInt ≤ 6)) (hmr2 : mr2.toInt = -9 ∨ (0 ≤ mr2.toInt ∧ mr2.toInt ≤ 6)) (hmr3 : mr3.toInt = -9 ∨ (0 ≤ mr3.toInt ∧ mr3.toInt ≤ 6)) (r_fl0 : rng fl0 6 (-9) (5)) (r_fl1 : rng fl1 6 (-9) (5)) (r_fl2 : rng fl2 6 (-9) (5)) (r_fl3 : rng fl3 6 (-9) (5)) : Met l yX11_put wsX11_put ({ frames := 2, cells := 0, slots := 0, locals := 45 }) (va_Pc [.ref xo, .int a1, .int a2, .int a3, .int a4, .long a5] (fun U => U.heap.size = sz ∧ va_P D vwCl [ob11_0_ xo xk xn xc xh xt xw xm xp pf ph tr fi, aq_ cy 4 xm 4 (mf_ m0 m1 m2 m3), ob4_0_ m0 mk0 mr0 l0 u0, ob4_0_ m1 mk1 mr1 l1 u1, ob4_0_ m2 mk2 mr2 l2 u2, ob4_0_ m3 mk3 mr3 l3 u3, ai_ cy l0 6 fl0, ai_ cy l1 6 fl1, ai_ cy l2 6 fl2, ai_ cy l3 6 fl3, aj_ cy u0 30 fn0, aj_ cy u1 30 fn1, aj_ cy u2 30 fn2, aj_ cy u3 30 fn3] U.heap ∧ kk_ D cy U ∧ va_D (fun _ => True) [ob11_0_ xo xk xn xc xh xt xw xm xp pf ph tr fi, aq_ cy 4 xm 4 (mf_ m0 m1 m2 m3), ob4_0_ m0 mk0 mr0 l0 u0, ob4_0_ m1 mk1 mr1 l1 u1, ob4_0_ m2 mk2 mr2 l2 u2, ob4_0_ m3 mk3 mr3 l3 u3, ai_ cy l0 6 fl0, ai_ cy l1 6 fl1, ai_ cy l2 6 fl2, ai_ cy l3 6 fl3, aj_ cy u0 30 fn0, aj_ cy u1 30 fn1, aj_ cy u2 30 fn2, aj_ cy u3 30 fn3])) (va_Qi (fun (r : Int32) (_ : Unit) => (r.toInt = if wrgI a1.toInt a2.toInt a3.toInt a4.toInt (hasI ((f4_ mr0 mr1 mr2 mr3) a1.toNatClampNeg).toInt) ((f4_ mk0 mk1 mk2 mk3) a1.toNatClampNeg).toInt ((f4_ mr0 mr1 mr2 mr3) a1.toNatClampNeg).toInt ((f4_ fl0 fl1 fl2 fl3) a1.toNatClampNeg a3.toNatClampNeg).toInt = 0 then 1 else wrgI a1.toInt a2.toInt a3.toInt a4.toInt (hasI ((f4_ mr0 mr1 mr2 mr3) a1.toNatClampNeg).toInt) ((f4_ mk0 mk1 mk2 mk3) a1.toNatClampNeg).toInt ((f4_ mr0 mr1 mr2 mr3) a1.toNatClampNeg).toInt ((f4_ fl0 fl1 fl2 fl3) a1.toNatClampNeg a3.toNatClampNeg).toInt)) (fun (_ : Unit) (t : State) => ∃ (efi : Int32), ∃ (efn0 : Nat → Int64), ∃ (efn1 : Nat → Int64), ∃ (efn2 : Nat → Int64), ∃ (efn3 : Nat → Int64), (efi.toInt = wrgI a1.toInt a2.toInt a3.toInt a4.toInt (hasI ((f4_ mr0 mr1 mr2 mr3) a1.toNatClampNeg).toInt) ((f4_ mk0 mk1 mk2 mk3) a1.toNatClampNeg).toInt ((f4_ mr0 mr1 mr2 mr3) a1.toNatClampNeg).toInt ((f4_ fl0 fl1 fl2 fl3) a1.toNatClampNeg a3.toNatClampNeg).toInt) ∧ ((efi.toInt ≠ 0 → eq4 (f4_ efn0 efn1 efn2 efn3) (f4_ fn0 fn1 fn2 fn3)) ∧ (efi.toInt = 0 → eq4 (f4_ efn0 efn1 efn2 efn3) (va_up (f4_ fn0 fn1 fn2 fn3) a1.toNatClampNeg (vp_updL ((f4_ fn0 fn1 fn2 fn3) a1.toNatClampNeg) (5 * a3.toInt + a4.toInt).toNat (putV ((f4_ mk0 mk1 mk2 mk3) a1.toNatClampNeg).toInt a5))))) ∧ va_P D vwCl [ob11_0_ xo xk xn xc xh xt xw xm xp pf ph tr efi, aq_ cy 4 xm 4 (mf_ m0 m1 m2 m3), ob4_0_ m0 mk0 mr0 l0 u0, ob4_0_ m1 mk1 mr1 l1 u1, ob4_0_ m2 mk2 mr2 l2 u2, ob4_0_ m3 mk3 mr3 l3 u3, ai_ cy l0 6 fl0, ai_ cy l1 6 fl1, ai_ cy l2 6 fl2, ai_ cy l3 6 fl3, aj_ cy u0 30 efn0, aj_ cy u1 30 efn1, aj_ cy u2 30 efn2, aj_ cy u3 30 efn3] t.heap ∧ va_D (va_A [ob11_0_ xo xk xn xc xh xt xw xm xp pf ph tr fi, aq_ cy 4 xm 4 (mf_ m0 m1 m2 m3), ob4_0_ m0 mk0 mr0 l0 u0, ob4_0_ m1 mk1 mr1 l1 u1, ob4_0_ m2 mk2 mr2 l2 u2, ob4_0_ m3 mk3 mr3 l3 u3, ai_ cy l0 6 fl0, ai_ cy l1 6 fl1, ai_ cy l2 6 fl2, ai_ cy l3 6 fl3, aj_ cy u0 30 fn0, aj_ cy u1 30 fn1, aj_ cy u2 30 fn2, aj_ cy u3 30 fn3] sz) [ob11_0_ xo xk xn xc xh xt xw xm xp pf ph tr efi, aq_ cy 4 xm 4 (mf_ m0 m1 m2 m3), ob4_0_ m0 mk0 mr0 l0 u0, ob4_0_ m1 mk1 mr1 l1 u1, ob4_0_ m2 mk2 mr2 l2 u2, ob4_0_ m3 mk3 mr3 l3 u3, ai_ cy l0 6 fl0, ai_ cy l1 6 fl1, ai_ cy l2 6 fl2, ai_ cy l3 6 fl3, aj_ cy u0 30 efn0, aj_ cy u1 30 efn1, aj_ cy u2 30 efn2, aj_ cy u3 30 efn3]) (va_A [ob11_0_ xo xk xn xc xh xt xw xm xp pf ph tr fi, aq_ cy 4 xm 4 (mf_ m0 m1 m2 m3), ob4_0_ m0 mk0 mr0 l0 u0, ob4_0_ m1 mk1 mr1 l1 u1, ob4_0_ m2 mk2 mr2 l2 u2, ob4_0_ m3 mk3 mr3 l3 u3, ai_ cy l0 6 fl0, ai_ cy l1 6 fl1, ai_ cy l2 6 fl2, ai_ cy l3 6 fl3, aj_ cy u0 30 fn0, aj_ cy u1 30 fn1, aj_ cy u2 30 fn2, aj_ cy u3 30 fn3] sz)) 0 0 (va_A [ob11_0_ xo xk xn xc xh xt xw xm xp pf ph tr fi, aq_ cy 4 xm 4 (mf_ m0 m1 m2 m3), ob4_0_ m0 mk0 mr0 l0 u0, ob4_0_ m1 mk1 mr1 l1 u1, ob4_0_ m2 mk2 mr2 l2 u2, ob4_0_ m3 mk3 mr3 l3 u3, ai_ cy l0 6 fl0, ai_ cy l1 6 fl1, ai_ cy l2 6 fl2, ai_ cy l3 6 fl3, aj_ cy u0 30 fn0, aj_ cy u1 30 fn1, aj_ cy u2 30 fn2, aj_ cy u3 30 fn3] sz) := by
  refine ofQ (cc := cX11_put) (maxL := 7) (ret := (some .int)) (by decide) rfl ?_
  intro p e s m args below meth c s₁ Q hQ B hml hv
  obtain ⟨rfl, hsz, hP, hK, hD0⟩ := hv
  have hx := B.exec
  have hb := B.bytes
  have hr := B.returns
  have hts := atoms_spec (ws := wsX11_put) B.pre
  have hown : s.vm.findClass RX11 = some m.cls := by have h_ := findClass_of_methodNamed B.named; exact h_
  have hlocks := B.notSynchronized
  subst hsz
  have hD := hD0.self (sz := s.heap.size)
  generalize hAe : va_A [ob11_0_ xo xk xn xc xh xt xw xm xp pf ph tr fi, aq_ cy 4 xm 4 (mf_ m0 m1 m2 m3), ob4_0_ m0 mk0 mr0 l0 u0, ob4_0_ m1 mk1 mr1 l1 u1, ob4_0_ m2 mk2 mr2 l2 u2, ob4_0_ m3 mk3 mr3 l3 u3, ai_ cy l0 6 fl0, ai_ cy l1 6 fl1, ai_ cy l2 6 fl2, ai_ cy l3 6 fl3, aj_ cy u0 30 fn0, aj_ cy u1 30 fn1, aj_ cy u2 30 fn2, aj_ cy u3 30 fn3] s.heap.size = A at hD hQ
  have hA : ∀ q : Nat, s.heap.size ≤ q → A q := fun q h => by rw [← hAe]; exact Or.inr h
  have hS : va_S A s.heap s.heap [] := va_S.rf
  have hl := lv_entry ([.ref xo, .int a1, .int a2, .int a3, .int a4, .long a5]) (n := 7) (Nat.le_of_ble_eq_true rfl)
  rw [lg_entry_eq]
  generalize (lg_sl ([.ref xo, .int a1, .int a2, .int a3, .int a4, .long a5]) ++ List.replicate (7 - (lg_sl ([.ref xo, .int a1, .int a2, .int a3, .int a4, .long a5])).length) Slot.unset).toArray = ls at hl ⊢
  have hl : lv_has ls 7 [(0, .ref xo), (1, .int a1), (2, .int a2), (3, .int a3), (4, .int a4), (5, .long a5)] := hl
  have z0 : (0 : Int32).toInt = 0 := by decide
  have z1 : (1 : Int32).toInt = 1 := by decide
  refine lv_aload_n hx hb dB_36_3_45.1.1.1.1 rfl (lv_at hl 0 rfl) ?_
  refine lv_aload_n hx hb dB_36_3_45.1.1.1.2 rfl (lv_at hl 0 rfl) ?_
  refine lv_iload_n hx hb dB_36_3_45.1.1.2.1 rfl (lv_at hl 1 rfl) ?_
  refine lv_iload_n hx hb dB_36_3_45.1.1.2.2 rfl (lv_at hl 2 rfl) ?_
  refine lv_iload_n hx hb dB_36_3_45.1.2.1.1 rfl (lv_at hl 3 rfl) ?_
  refine lv_iload hx hb dB_36_3_45.1.2.1.2 (lv_at hl 4 rfl) ?_
  refine ct_R hP hD [ob11_0_ xo xk xn xc xh xt xw xm xp pf ph tr fi, aq_ cy 4 xm 4 (mf_ m0 m1 m2 m3), ob4_0_ m0 mk0 mr0 l0 u0, ob4_0_ m1 mk1 mr1 l1 u1, ob4_0_ m2 mk2 mr2 l2 u2, ob4_0_ m3 mk3 mr3 l3 u3, ai_ cy l0 6 fl0, ai_ cy l1 6 fl1, ai_ cy l2 6 fl2, ai_ cy l3 6 fl3] [0, 1, 2, 3, 4, 5, 6, 7, 8, 9] (by decide) rfl (fun hPc hDw => ?_)
  have hFc := va_free (wc := []) hD hS hA [] rfl
  refine va_calli (va_runV (As := [.int a1, .int a2, .int a3, .int a4]) (rest := [.ref xo]) ⟨hx, hb, hml, hown, hts⟩ (c_X11_numberRefusal2 l D cy s.heap.size xo xk xn xc xh xt xw xm xp pf ph tr fi m0 l0 u0 m1 l1 u1 m2 l2 u2 m3 l3 u3 mk0 mr0 mk1 mr1 mk2 mr2 mk3 mr3 fl0 fl1 fl2 fl3 a1 a2 a3 a4 (by first | with_reducible assumption | assumption | omega) (by first | with_reducible assumption | assumption | omega) (by first | with_reducible assumption | assumption | omega) (by first | with_reducible assumption | assumption | omega) (by first | with_reducible assumption | assumption | omega) (by first | with_reducible assumption | assumption | omega) (by first | with_reducible assumption | assumption | omega) (by first | with_reducible assumption | assumption | omega)) (cwV 4 hts gX11_put_X11_numberRefusal rfl rfl rfl ⟨rfl, hd_X11_numberRefusal⟩ ⟨Nat.le_of_ble_eq_true rfl, Nat.le_of_ble_eq_true rfl⟩) ⟨bl_, va_recvX hK.1 hP (ci := 11) (q0 := 0) rfl rfl, fun U hU hW => ⟨rfl, by rw [hU], by rw [hU]; exact hPc, kk_mv hW hK, hDw⟩⟩ rfl rfl hl.1 rfl (lv_room (Nat.le_of_ble_eq_true rfl)) dB_36_3_45.1.2.2.1 ⟨Nat.le_of_ble_eq_true rfl, Nat.le_of_ble_eq_true rfl⟩) hS (fun q _ h => hFc q h) hFc (fun r_1 u t H locs ht hvm hw hB hz1 hk1 hS => ?_)
  have hP : va_P D vwCl _ H := ro_keep hP hk1
  obtain ⟨f0_r_1, f1_r_1⟩ := hw
  refine va_put (ci := 11) (v := .int r_1) (ty := .int) (C := RX11) (T := TX11) (N := 12) hx hb hts (fun _ h => List.mem_cons_of_mem _ (List.mem_append_left _ (List.mem_append_right _ h))) tyX11 tyX11_ok nmX11 hown hK.1 hP hD hS 0 rfl rfl 11 (by decide) (hts (.fieldLink RX11 91 "CutAtlas" "finding" "I") (List.mem_of_getElem? (i := 1) rfl)) (fun _ h9 => h9) rfl (by decide +kernel) rfl rfl (Nat.le_of_ble_eq_true rfl) dB_36_3_45.1.2.2.2 (fun H locs hP hD hS => ?_)
  refine pd_K [ob11_0_ xo xk xn xc xh xt xw xm xp pf ph tr r_1, aq_ cy 4 xm 4 (mf_ m0 m1 m2 m3), ob4_0_ m0 mk0 mr0 l0 u0, ob4_0_ m1 mk1 mr1 l1 u1, ob4_0_ m2 mk2 mr2 l2 u2, ob4_0_ m3 mk3 mr3 l3 u3, ai_ cy l0 6 fl0, ai_ cy l1 6 fl1, ai_ cy l2 6 fl2, ai_ cy l3 6 fl3, aj_ cy u0 30 fn0, aj_ cy u1 30 fn1, aj_ cy u2 30 fn2, aj_ cy u3 30 fn3] hP hD (fun hP hD => ?_)
  refine lv_aload_n hx hb dB_36_3_45.2.1.1.1 rfl (lv_at hl 0 rfl) ?_
  refine va_get (ci := 11) (v := .int r_1) (C := RX11) (T := TX11) (N := 12) hx hb hts (fun _ h => List.mem_cons_of_mem _ (List.mem_append_left _ (List.mem_append_right _ h))) hown hK.1 hP 0 rfl rfl 11 (by decide) (hts (.fieldLink RX11 91 "CutAtlas" "finding" "I") (List.mem_of_getElem? (i := 1) rfl)) (fun _ h9 => h9) rfl dB_36_3_45.2.1.1.2 ?_
  refine lv_if_eq (tgt := 25) hx hb dB_36_3_45.2.1.2.1 (by decide) (fun c_2 => ?_) (fun c_2 => ?_)
  · have t_2 : r_1.toInt = (0 : Int32).toInt := congrArg Int32.toInt c_2
    rcases sp_4 (x := a1) (by omega) with rfl | rfl | rfl | rfl
    · refine lv_aload_n hx hb dB_36_3_45.2.2.2.1 rfl (lv_at hl 0 rfl) ?_
      refine va_get (ci := 11) (v := .ref xm) (C := RX11) (T := TX11) (N := 12) hx hb hts (fun _ h => List.mem_cons_of_mem _ (List.mem_append_left _ (List.mem_append_right _ h))) hown hK.1 hP 0 rfl rfl 6 (by decide) (hts (.fieldLink RX11 72 "CutAtlas" "maps" "[LCutAtlas$NumberMap;") (List.mem_of_getElem? (i := 2) rfl)) (fun _ h9 => h9) rfl dB_36_3_45.2.2.2.2 ?_
      refine lv_iload_n hx hb dB_36_3_46.1.1.1 rfl (lv_at hl 1 rfl) ?_
      refine va_aldq hx hb hK.1 hP 1 4 rfl rfl (i := 0) (by unfold vp_in; decide) dB_36_3_46.1.1.2 ?_
      refine lv_topv (v' := .ref m0) (by simp [va_up, va_rf, mf_, cl_0, cl_1, cl_2, cl_3, cl_4]) ?_
      refine lv_iload_n hx hb dB_36_3_46.1.2.1 rfl (lv_at hl 3 rfl) ?_
      refine lv_iload hx hb dB_36_3_46.1.2.2 (lv_at hl 4 rfl) ?_
      refine lv_lload hx hb dB_36_3_46.2.1.1 (lv_at hl 5 rfl) ?_
      refine ct_S hP hD hS hA [ob4_0_ m0 mk0 mr0 l0 u0, aj_ cy u0 30 fn0] [2, 10] (by decide) rfl (fun hPc hDw hFc hC_ => ?_)
      refine va_callv (va_runV (As := [.int a3, .int a4, .long a5]) (rest := []) ⟨hx, hb, hml, hown, hts⟩ (c_X4_store2 l D cy H.size m0 l0 u0 mk0 mr0 fn0 a3 a4 a5 (by first | with_reducible assumption | omega | assumption) (by first | with_reducible assumption | omega | assumption)) (cwV 3 hts gX11_put_X4_store rfl rfl rfl ⟨rfl, hd_X4_store⟩ ⟨Nat.le_of_ble_eq_true rfl, Nat.le_of_ble_eq_true rfl⟩) ⟨bl_, va_recvX hK.1 hP (ci := 4) (q0 := 2) rfl rfl, fun U hU hW => ⟨rfl, by rw [hU], by rw [hU]; exact hPc, kk_mv hW hK, hDw⟩⟩ rfl rfl hl.1 rfl (lv_room (Nat.le_of_ble_eq_true rfl)) dB_36_3_46.2.1.2 ⟨Nat.le_of_ble_eq_true rfl, Nat.le_of_ble_eq_true rfl⟩) hS (fun q _ h => hFc q h) hFc (fun u t H locs ht hvm hw hB hz1 hk1 hS => ?_)
      obtain ⟨efn_4, g_5, hP1, hD1⟩ := hB
      rw [ht] at hP1
      obtain ⟨hP, hD⟩ := va_join (wr := [ob11_0_ xo xk xn xc xh xt xw xm xp pf ph tr r_1, aq_ cy 4 xm 4 (mf_ m0 m1 m2 m3), ob4_0_ m1 mk1 mr1 l1 u1, ob4_0_ m2 mk2 mr2 l2 u2, ob4_0_ m3 mk3 mr3 l3 u3, ai_ cy l0 6 fl0, ai_ cy l1 6 fl1, ai_ cy l2 6 fl2, ai_ cy l3 6 fl3, aj_ cy u1 30 fn1, aj_ cy u2 30 fn2, aj_ cy u3 30 fn3]) (w1 := [ob4_0_ m0 mk0 mr0 l0 u0, aj_ cy u0 30 efn_4]) hP hD [2, 10] [0, 1, 3, 4, 5, 6, 7, 8, 9, 11, 12, 13] hC_ rfl (by decide +kernel) (by decide +kernel) hk1 hFc hP1 hD1
      refine pd_S hP hD [ob11_0_ xo xk xn xc xh xt xw xm xp pf ph tr r_1, aq_ cy 4 xm 4 (mf_ m0 m1 m2 m3), ob4_0_ m0 mk0 mr0 l0 u0, ob4_0_ m1 mk1 mr1 l1 u1, ob4_0_ m2 mk2 mr2 l2 u2, ob4_0_ m3 mk3 mr3 l3 u3, ai_ cy l0 6 fl0, ai_ cy l1 6 fl1, ai_ cy l2 6 fl2, ai_ cy l3 6 fl3, aj_ cy u0 30 efn_4, aj_ cy u1 30 fn1, aj_ cy u2 30 fn2, aj_ cy u3 30 fn3] [0, 1, 12, 2, 3, 4, 5, 6, 7, 8, 13, 9, 10, 11] (by decide +kernel) rfl (fun hP hD => ?_)
      have hq1_ := g_5
      refine lv_iconst (v := 1) hx hb dB_36_3_46.2.2.1 (by decide) ?_
      rw [hQ]
      exact W.iret (v := 1) hx hb hr (fun t ht hW => ⟨⟨1, (), rfl, (by first | (rw [if_neg (by omega)]; omega) | (rw [if_pos (by omega)]; decide)), r_1, efn_4, fn1, fn2, fn3, (by assumption), (by first | exact ⟨fun _ => eq4_rf, fun h => absurd h (by first | omega | decide)⟩ | exact ⟨fun h => absurd (by first | omega | decide) h, fun _ => (by rw [f4_c0, f4_c0, ← hq1_]; exact f4_u0)⟩ | exact ⟨fun h => absurd (by first | omega | decide) h, fun _ => (by rw [f4_c1, f4_c1, ← hq1_]; exact f4_u1)⟩ | exact ⟨fun h => absurd (by first | omega | decide) h, fun _ => (by rw [f4_c2, f4_c2, ← hq1_]; exact f4_u2)⟩ | exact ⟨fun h => absurd (by first | omega | decide) h, fun _ => (by rw [f4_c3, f4_c3, ← hq1_]; exact f4_u3)⟩), by rw [ht]; exact hP, hD⟩, hS.F ht⟩) hS.2.2 dB_36_3_46.2.2.2
    · refine lv_aload_n hx hb dB_36_3_45.2.2.2.1 rfl (lv_at hl 0 rfl) ?_
      refine va_get (ci := 11) (v := .ref xm) (C := RX11) (T := TX11) (N := 12) hx hb hts (fun _ h => List.mem_cons_of_mem _ (List.mem_append_left _ (List.mem_append_right _ h))) hown hK.1 hP 0 rfl rfl 6 (by decide) (hts (.fieldLink RX11 72 "CutAtlas" "maps" "[LCutAtlas$NumberMap;") (List.mem_of_getElem? (i := 2) rfl)) (fun _ h9 => h9) rfl dB_36_3_45.2.2.2.2 ?_
      refine lv_iload_n hx hb dB_36_3_46.1.1.1 rfl (lv_at hl 1 rfl) ?_
      refine va_aldq hx hb hK.1 hP 1 4 rfl rfl (i := 1) (by unfold vp_in; decide) dB_36_3_46.1.1.2 ?_
      refine lv_topv (v' := .ref m1) (by simp [va_up, va_rf, mf_, cl_0, cl_1, cl_2, cl_3, cl_4]) ?_
      refine lv_iload_n hx hb dB_36_3_46.1.2.1 rfl (lv_at hl 3 rfl) ?_
      refine lv_iload hx hb dB_36_3_46.1.2.2 (lv_at hl 4 rfl) ?_
      refine lv_lload hx hb dB_36_3_46.2.1.1 (lv_at hl 5 rfl) ?_
      refine ct_S hP hD hS hA [ob4_0_ m1 mk1 mr1 l1 u1, aj_ cy u1 30 fn1] [3, 11] (by decide) rfl (fun hPc hDw hFc hC_ => ?_)
      refine va_callv (va_runV (As := [.int a3, .int a4, .long a5]) (rest := []) ⟨hx, hb, hml, hown, hts⟩ (c_X4_store2 l D cy H.size m1 l1 u1 mk1 mr1 fn1 a3 a4 a5 (by first | with_reducible assumption | omega | assumption) (by first | with_reducible assumption | omega | assumption)) (cwV 3 hts gX11_put_X4_store rfl rfl rfl ⟨rfl, hd_X4_store⟩ ⟨Nat.le_of_ble_eq_true rfl, Nat.le_of_ble_eq_true rfl⟩) ⟨bl_, va_recvX hK.1 hP (ci := 4) (q0 := 3) rfl rfl, fun U hU hW => ⟨rfl, by rw [hU], by rw [hU]; exact hPc, kk_mv hW hK, hDw⟩⟩ rfl rfl hl.1 rfl (lv_room (Nat.le_of_ble_eq_true rfl)) dB_36_3_46.2.1.2 ⟨Nat.le_of_ble_eq_true rfl, Nat.le_of_ble_eq_true rfl⟩) hS (fun q _ h => hFc q h) hFc (fun u t H locs ht hvm hw hB hz1 hk1 hS => ?_)
      obtain ⟨efn_7, g_8, hP1, hD1⟩ := hB
      rw [ht] at hP1
      obtain ⟨hP, hD⟩ := va_join (wr := [ob11_0_ xo xk xn xc xh xt xw xm xp pf ph tr r_1, aq_ cy 4 xm 4 (mf_ m0 m1 m2 m3), ob4_0_ m0 mk0 mr0 l0 u0, ob4_0_ m2 mk2 mr2 l2 u2, ob4_0_ m3 mk3 mr3 l3 u3, ai_ cy l0 6 fl0, ai_ cy l1 6 fl1, ai_ cy l2 6 fl2, ai_ cy l3 6 fl3, aj_ cy u0 30 fn0, aj_ cy u2 30 fn2, aj_ cy u3 30 fn3]) (w1 := [ob4_0_ m1 mk1 mr1 l1 u1, aj_ cy u1 30 efn_7]) hP hD [3, 11] [0, 1, 2, 4, 5, 6, 7, 8, 9, 10, 12, 13] hC_ rfl (by decide +kernel) (by decide +kernel) hk1 hFc hP1 hD1
      refine pd_S hP hD [ob11_0_ xo xk xn xc xh xt xw xm xp pf ph tr r_1, aq_ cy 4 xm 4 (mf_ m0 m1 m2 m3), ob4_0_ m0 mk0 mr0 l0 u0, ob4_0_ m1 mk1 mr1 l1 u1, ob4_0_ m2 mk2 mr2 l2 u2, ob4_0_ m3 mk3 mr3 l3 u3, ai_ cy l0 6 fl0, ai_ cy l1 6 fl1, ai_ cy l2 6 fl2, ai_ cy l3 6 fl3, aj_ cy u0 30 fn0, aj_ cy u1 30 efn_7, aj_ cy u2 30 fn2, aj_ cy u3 30 fn3] [0, 1, 2, 12, 3, 4, 5, 6, 7, 8, 9, 13, 10, 11] (by decide +kernel) rfl (fun hP hD => ?_)
      have hq1_ := g_8
      refine lv_iconst (v := 1) hx hb dB_36_3_46.2.2.1 (by decide) ?_
      rw [hQ]
      exact W.iret (v := 1) hx hb hr (fun t ht hW => ⟨⟨1, (), rfl, (by first | (rw [if_neg (by omega)]; omega) | (rw [if_pos (by omega)]; decide)), r_1, fn0, efn_7, fn2, fn3, (by assumption), (by first | exact ⟨fun _ => eq4_rf, fun h => absurd h (by first | omega | decide)⟩ | exact ⟨fun h => absurd (by first | omega | decide) h, fun _ => (by rw [f4_c0, f4_c0, ← hq1_]; exact f4_u0)⟩ | exact ⟨fun h => absurd (by first | omega | decide) h, fun _ => (by rw [f4_c1, f4_c1, ← hq1_]; exact f4_u1)⟩ | exact ⟨fun h => absurd (by first | omega | decide) h, fun _ => (by rw [f4_c2, f4_c2, ← hq1_]; exact f4_u2)⟩ | exact ⟨fun h => absurd (by first | omega | decide) h, fun _ => (by rw [f4_c3, f4_c3, ← hq1_]; exact f4_u3)⟩), by rw [ht]; exact hP, hD⟩, hS.F ht⟩) hS.2.2 dB_36_3_46.2.2.2
    · refine lv_aload_n hx hb dB_36_3_45.2.2.2.1 rfl (lv_at hl 0 rfl) ?_
      refine va_get (ci := 11) (v := .ref xm) (C := RX11) (T := TX11) (N := 12) hx hb hts (fun _ h => List.mem_cons_of_mem _ (List.mem_append_left _ (List.mem_append_right _ h))) hown hK.1 hP 0 rfl rfl 6 (by decide) (hts (.fieldLink RX11 72 "CutAtlas" "maps" "[LCutAtlas$NumberMap;") (List.mem_of_getElem? (i := 2) rfl)) (fun _ h9 => h9) rfl dB_36_3_45.2.2.2.2 ?_
      refine lv_iload_n hx hb dB_36_3_46.1.1.1 rfl (lv_at hl 1 rfl) ?_
      refine va_aldq hx hb hK.1 hP 1 4 rfl rfl (i := 2) (by unfold vp_in; decide) dB_36_3_46.1.1.2 ?_
      refine lv_topv (v' := .ref m2) (by simp [va_up, va_rf, mf_, cl_0, cl_1, cl_2, cl_3, cl_4]) ?_
      refine lv_iload_n hx hb dB_36_3_46.1.2.1 rfl (lv_at hl 3 rfl) ?_
      refine lv_iload hx hb dB_36_3_46.1.2.2 (lv_at hl 4 rfl) ?_
      refine lv_lload hx hb dB_36_3_46.2.1.1 (lv_at hl 5 rfl) ?_
      refine ct_S hP hD hS hA [ob4_0_ m2 mk2 mr2 l2 u2, aj_ cy u2 30 fn2] [4, 12] (by decide) rfl (fun hPc hDw hFc hC_ => ?_)
      refine va_callv (va_runV (As := [.int a3, .int a4, .long a5]) (rest := []) ⟨hx, hb, hml, hown, hts⟩ (c_X4_store2 l D cy H.size m2 l2 u2 mk2 mr2 fn2 a3 a4 a5 (by first | with_reducible assumption | omega | assumption) (by first | with_reducible assumption | omega | assumption)) (cwV 3 hts gX11_put_X4_store rfl rfl rfl ⟨rfl, hd_X4_store⟩ ⟨Nat.le_of_ble_eq_true rfl, Nat.le_of_ble_eq_true rfl⟩) ⟨bl_, va_recvX hK.1 hP (ci := 4) (q0 := 4) rfl rfl, fun U hU hW => ⟨rfl, by rw [hU], by rw [hU]; exact hPc, kk_mv hW hK, hDw⟩⟩ rfl rfl hl.1 rfl (lv_room (Nat.le_of_ble_eq_true rfl)) dB_36_3_46.2.1.2 ⟨Nat.le_of_ble_eq_true rfl, Nat.le_of_ble_eq_true rfl⟩) hS (fun q _ h => hFc q h) hFc (fun u t H locs ht hvm hw hB hz1 hk1 hS => ?_)
      obtain ⟨efn_10, g_11, hP1, hD1⟩ := hB
      rw [ht] at hP1
      obtain ⟨hP, hD⟩ := va_join (wr := [ob11_0_ xo xk xn xc xh xt xw xm xp pf ph tr r_1, aq_ cy 4 xm 4 (mf_ m0 m1 m2 m3), ob4_0_ m0 mk0 mr0 l0 u0, ob4_0_ m1 mk1 mr1 l1 u1, ob4_0_ m3 mk3 mr3 l3 u3, ai_ cy l0 6 fl0, ai_ cy l1 6 fl1, ai_ cy l2 6 fl2, ai_ cy l3 6 fl3, aj_ cy u0 30 fn0, aj_ cy u1 30 fn1, aj_ cy u3 30 fn3]) (w1 := [ob4_0_ m2 mk2 mr2 l2 u2, aj_ cy u2 30 efn_10]) hP hD [4, 12] [0, 1, 2, 3, 5, 6, 7, 8, 9, 10, 11, 13] hC_ rfl (by decide +kernel) (by decide +kernel) hk1 hFc hP1 hD1
      refine pd_S hP hD [ob11_0_ xo xk xn xc xh xt xw xm xp pf ph tr r_1, aq_ cy 4 xm 4 (mf_ m0 m1 m2 m3), ob4_0_ m0 mk0 mr0 l0 u0, ob4_0_ m1 mk1 mr1 l1 u1, ob4_0_ m2 mk2 mr2 l2 u2, ob4_0_ m3 mk3 mr3 l3 u3, ai_ cy l0 6 fl0, ai_ cy l1 6 fl1, ai_ cy l2 6 fl2, ai_ cy l3 6 fl3, aj_ cy u0 30 fn0, aj_ cy u1 30 fn1, aj_ cy u2 30 efn_10, aj_ cy u3 30 fn3] [0, 1, 2, 3, 12, 4, 5, 6, 7, 8, 9, 10, 13, 11] (by decide +kernel) rfl (fun hP hD => ?_)
      have hq1_ := g_11
      refine lv_iconst (v := 1) hx hb dB_36_3_46.2.2.1 (by decide) ?_
      rw [hQ]
      exact W.iret (v := 1) hx hb hr (fun t ht hW => ⟨⟨1, (), rfl, (by first | (rw [if_neg (by omega)]; omega) | (rw [if_pos (by omega)]; decide)), r_1, fn0, fn1, efn_10, fn3, (by assumption), (by first | exact ⟨fun _ => eq4_rf, fun h => absurd h (by first | omega | decide)⟩ | exact ⟨fun h => absurd (by first | omega | decide) h, fun _ => (by rw [f4_c0, f4_c0, ← hq1_]; exact f4_u0)⟩ | exact ⟨fun h => absurd (by first | omega | decide) h, fun _ => (by rw [f4_c1, f4_c1, ← hq1_]; exact f4_u1)⟩ | exact ⟨fun h => absurd (by first | omega | decide) h, fun _ => (by rw [f4_c2, f4_c2, ← hq1_]; exact f4_u2)⟩ | exact ⟨fun h => absurd (by first | omega | decide) h, fun _ => (by rw [f4_c3, f4_c3, ← hq1_]; exact f4_u3)⟩), by rw [ht]; exact hP, hD⟩, hS.F ht⟩) hS.2.2 dB_36_3_46.2.2.2
    · refine lv_aload_n hx hb dB_36_3_45.2.2.2.1 rfl (lv_at hl 0 rfl) ?_
      refine va_get (ci := 11) (v := .ref xm) (C := RX11) (T := TX11) (N := 12) hx hb hts (fun _ h => List.mem_cons_of_mem _ (List.mem_append_left _ (List.mem_append_right _ h))) hown hK.1 hP 0 rfl rfl 6 (by decide) (hts (.fieldLink RX11 72 "CutAtlas" "maps" "[LCutAtlas$NumberMap;") (List.mem_of_getElem? (i := 2) rfl)) (fun _ h9 => h9) rfl dB_36_3_45.2.2.2.2 ?_
      refine lv_iload_n hx hb dB_36_3_46.1.1.1 rfl (lv_at hl 1 rfl) ?_
      refine va_aldq hx hb hK.1 hP 1 4 rfl rfl (i := 3) (by unfold vp_in; decide) dB_36_3_46.1.1.2 ?_
      refine lv_topv (v' := .ref m3) (by simp [va_up, va_rf, mf_, cl_0, cl_1, cl_2, cl_3, cl_4]) ?_
      refine lv_iload_n hx hb dB_36_3_46.1.2.1 rfl (lv_at hl 3 rfl) ?_
      refine lv_iload hx hb dB_36_3_46.1.2.2 (lv_at hl 4 rfl) ?_
      refine lv_lload hx hb dB_36_3_46.2.1.1 (lv_at hl 5 rfl) ?_
      refine ct_S hP hD hS hA [ob4_0_ m3 mk3 mr3 l3 u3, aj_ cy u3 30 fn3] [5, 13] (by decide) rfl (fun hPc hDw hFc hC_ => ?_)
      refine va_callv (va_runV (As := [.int a3, .int a4, .long a5]) (rest := []) ⟨hx, hb, hml, hown, hts⟩ (c_X4_store2 l D cy H.size m3 l3 u3 mk3 mr3 fn3 a3 a4 a5 (by first | with_reducible assumption | omega | assumption) (by first | with_reducible assumption | omega | assumption)) (cwV 3 hts gX11_put_X4_store rfl rfl rfl ⟨rfl, hd_X4_store⟩ ⟨Nat.le_of_ble_eq_true rfl, Nat.le_of_ble_eq_true rfl⟩) ⟨bl_, va_recvX hK.1 hP (ci := 4) (q0 := 5) rfl rfl, fun U hU hW => ⟨rfl, by rw [hU], by rw [hU]; exact hPc, kk_mv hW hK, hDw⟩⟩ rfl rfl hl.1 rfl (lv_room (Nat.le_of_ble_eq_true rfl)) dB_36_3_46.2.1.2 ⟨Nat.le_of_ble_eq_true rfl, Nat.le_of_ble_eq_true rfl⟩) hS (fun q _ h => hFc q h) hFc (fun u t H locs ht hvm hw hB hz1 hk1 hS => ?_)
      obtain ⟨efn_13, g_14, hP1, hD1⟩ := hB
      rw [ht] at hP1
      obtain ⟨hP, hD⟩ := va_join (wr := [ob11_0_ xo xk xn xc xh xt xw xm xp pf ph tr r_1, aq_ cy 4 xm 4 (mf_ m0 m1 m2 m3), ob4_0_ m0 mk0 mr0 l0 u0, ob4_0_ m1 mk1 mr1 l1 u1, ob4_0_ m2 mk2 mr2 l2 u2, ai_ cy l0 6 fl0, ai_ cy l1 6 fl1, ai_ cy l2 6 fl2, ai_ cy l3 6 fl3, aj_ cy u0 30 fn0, aj_ cy u1 30 fn1, aj_ cy u2 30 fn2]) (w1 := [ob4_0_ m3 mk3 mr3 l3 u3, aj_ cy u3 30 efn_13]) hP hD [5, 13] [0, 1, 2, 3, 4, 6, 7, 8, 9, 10, 11, 12] hC_ rfl (by decide +kernel) (by decide +kernel) hk1 hFc hP1 hD1
      refine pd_S hP hD [ob11_0_ xo xk xn xc xh xt xw xm xp pf ph tr r_1, aq_ cy 4 xm 4 (mf_ m0 m1 m2 m3), ob4_0_ m0 mk0 mr0 l0 u0, ob4_0_ m1 mk1 mr1 l1 u1, ob4_0_ m2 mk2 mr2 l2 u2, ob4_0_ m3 mk3 mr3 l3 u3, ai_ cy l0 6 fl0, ai_ cy l1 6 fl1, ai_ cy l2 6 fl2, ai_ cy l3 6 fl3, aj_ cy u0 30 fn0, aj_ cy u1 30 fn1, aj_ cy u2 30 fn2, aj_ cy u3 30 efn_13] [0, 1, 2, 3, 4, 12, 5, 6, 7, 8, 9, 10, 11, 13] (by decide +kernel) rfl (fun hP hD => ?_)
      have hq1_ := g_14
      refine lv_iconst (v := 1) hx hb dB_36_3_46.2.2.1 (by decide) ?_
      rw [hQ]
      exact W.iret (v := 1) hx hb hr (fun t ht hW => ⟨⟨1, (), rfl, (by first | (rw [if_neg (by omega)]; omega) | (rw [if_pos (by omega)]; decide)), r_1, fn0, fn1, fn2, efn_13, (by assumption), (by first | exact ⟨fun _ => eq4_rf, fun h => absurd h (by first | omega | decide)⟩ | exact ⟨fun h => absurd (by first | omega | decide) h, fun _ => (by rw [f4_c0, f4_c0, ← hq1_]; exact f4_u0)⟩ | exact ⟨fun h => absurd (by first | omega | decide) h, fun _ => (by rw [f4_c1, f4_c1, ← hq1_]; exact f4_u1)⟩ | exact ⟨fun h => absurd (by first | omega | decide) h, fun _ => (by rw [f4_c2, f4_c2, ← hq1_]; exact f4_u2)⟩ | exact ⟨fun h => absurd (by first | omega | decide) h, fun _ => (by rw [f4_c3, f4_c3, ← hq1_]; exact f4_u3)⟩), by rw [ht]; exact hP, hD⟩, hS.F ht⟩) hS.2.2 dB_36_3_46.2.2.2
  · have t_2 : ¬ r_1.toInt = (0 : Int32).toInt := fun h => c_2 (Int32.toInt_inj.mp h)
    refine lv_aload_n hx hb dB_36_3_45.2.1.2.2 rfl (lv_at hl 0 rfl) ?_
    refine va_get (ci := 11) (v := .int r_1) (C := RX11) (T := TX11) (N := 12) hx hb hts (fun _ h => List.mem_cons_of_mem _ (List.mem_append_left _ (List.mem_append_right _ h))) hown hK.1 hP 0 rfl rfl 11 (by decide) (hts (.fieldLink RX11 91 "CutAtlas" "finding" "I") (List.mem_of_getElem? (i := 1) rfl)) (fun _ h9 => h9) rfl dB_36_3_45.2.2.1.1 ?_
    rw [hQ]
    exact W.iret (v := r_1) hx hb hr (fun t ht hW => ⟨⟨r_1, (), rfl, (by first | (rw [if_neg (by omega)]; omega) | (rw [if_pos (by omega)]; decide)), r_1, fn0, fn1, fn2, fn3, (by assumption), (by first | exact ⟨fun _ => eq4_rf, fun h => absurd h (by first | omega | decide)⟩ | exact ⟨fun h => absurd (by first | omega | decide) h, fun _ => (by rw [f4_c0, f4_c0, ← hq1_]; exact f4_u0)⟩ | exact ⟨fun h => absurd (by first | omega | decide) h, fun _ => (by rw [f4_c1, f4_c1, ← hq1_]; exact f4_u1)⟩ | exact ⟨fun h => absurd (by first | omega | decide) h, fun _ => (by rw [f4_c2, f4_c2, ← hq1_]; exact f4_u2)⟩ | exact ⟨fun h => absurd (by first | omega | decide) h, fun _ => (by rw [f4_c3, f4_c3, ← hq1_]; exact f4_u3)⟩), by rw [ht]; exact hP, hD⟩, hS.F ht⟩) hS.2.2 dB_36_3_45.2.2.1.2

set_option maxHeartbeats 4000000 in
set_option maxRecDepth 100000 in
theorem c_X11_item2 (l : Launch) (D : va_G) (cy : Nat → ClassId) (sz : Nat) (xo : Nat) (xk : Nat) (xn : Nat) (xc : Nat) (xh : Nat) (xt : Nat) (xw : Nat) (xm : Nat) (xp : Nat) (pf : Int32) (ph : Int32) (tr : Int64) (fi : Int32) (m0 : Nat) (l0 : Nat) (u0 : Nat) (m1 : Nat) (l1 : Nat) (u1 : Nat) (m2 : Nat) (l2 : Nat) (u2 : Nat) (m3 : Nat) (l3 : Nat) (u3 : Nat) (mk0 : Int32) (mr0 : Int32) (mk1 : Int32) (mr1 : Int32) (mk2 : Int32) (mr2 : Int32) (mk3 : Int32) (mr3 : Int32) (fl0 : Nat → Int32) (fl1 : Nat → Int32) (fl2 : Nat → Int32) (fl3 : Nat → Int32) (fn0 : Nat → Int64) (fn1 : Nat → Int64) (fn2 : Nat → Int64) (fn3 : Nat → Int64) (a1 : Int32) (a2 : Int32) (a3 : Int32) (a4 : Int32) (hmr0 : mr0.toInt = -9 ∨ (0 ≤ mr0.toInt ∧ mr0.toInt ≤ 6)) (hmr1 : mr1.toInt = -9 ∨ (0 ≤ mr1.toInt ∧ mr1.toInt ≤ 6)) (hmr2 : mr2.toInt = -9 ∨ (0 ≤ mr2.toInt ∧ mr2.toInt ≤ 6)) (hmr3 : mr3.toInt = -9 ∨ (0 ≤ mr3.toInt ∧ mr3.toInt ≤ 6)) (r_fl0 : rng fl0 6 (-9) (5)) (r_fl1 : rng fl1 6 (-9) (5)) (r_fl2 : rng fl2 6 (-9) (5)) (r_fl3 : rng fl3 6 (-9) (5)) : Met l yX11_item wsX11_item ({ frames := 2, cells := 0, slots := 0, locals := 45 }) (va_Pc [.ref xo, .int a1, .int a2, .int a3, .int a4] (fun U => U.heap.size = sz ∧ va_P D vwCl [ob11_0_ xo xk xn xc xh xt xw xm xp pf ph tr fi, aq_ cy 4 xm 4 (mf_ m0 m1 m2 m3), ob4_0_ m0 mk0 mr0 l0 u0, ob4_0_ m1 mk1 mr1 l1 u1, ob4_0_ m2 mk2 mr2 l2 u2, ob4_0_ m3 mk3 mr3 l3 u3, ai_ cy l0 6 fl0, ai_ cy l1 6 fl1, ai_ cy l2 6 fl2, ai_ cy l3 6 fl3, aj_ cy u0 30 fn0, aj_ cy u1 30 fn1, aj_ cy u2 30 fn2, aj_ cy u3 30 fn3] U.heap ∧ kk_ D cy U ∧ va_D (fun _ => True) [ob11_0_ xo xk xn xc xh xt xw xm xp pf ph tr fi, aq_ cy 4 xm 4 (mf_ m0 m1 m2 m3), ob4_0_ m0 mk0 mr0 l0 u0, ob4_0_ m1 mk1 mr1 l1 u1, ob4_0_ m2 mk2 mr2 l2 u2, ob4_0_ m3 mk3 mr3 l3 u3, ai_ cy l0 6 fl0, ai_ cy l1 6 fl1, ai_ cy l2 6 fl2, ai_ cy l3 6 fl3, aj_ cy u0 30 fn0, aj_ cy u1 30 fn1, aj_ cy u2 30 fn2, aj_ cy u3 30 fn3])) (va_Ql (fun (r : Int64) (_ : Unit) => ((wrgI a1.toInt a2.toInt a3.toInt a4.toInt (hasI ((f4_ mr0 mr1 mr2 mr3) a1.toNatClampNeg).toInt) ((f4_ mk0 mk1 mk2 mk3) a1.toNatClampNeg).toInt ((f4_ mr0 mr1 mr2 mr3) a1.toNatClampNeg).toInt ((f4_ fl0 fl1 fl2 fl3) a1.toNatClampNeg a3.toNatClampNeg).toInt ≠ 0 → r = 0) ∧ (wrgI a1.toInt a2.toInt a3.toInt a4.toInt (hasI ((f4_ mr0 mr1 mr2 mr3) a1.toNatClampNeg).toInt) ((f4_ mk0 mk1 mk2 mk3) a1.toNatClampNeg).toInt ((f4_ mr0 mr1 mr2 mr3) a1.toNatClampNeg).toInt ((f4_ fl0 fl1 fl2 fl3) a1.toNatClampNeg a3.toNatClampNeg).toInt = 0 → r = (f4_ fn0 fn1 fn2 fn3) a1.toNatClampNeg (5 * a3.toInt + a4.toInt).toNat))) (fun (_ : Unit) (t : State) => ∃ (efi : Int32), (efi.toInt = wrgI a1.toInt a2.toInt a3.toInt a4.toInt (hasI ((f4_ mr0 mr1 mr2 mr3) a1.toNatClampNeg).toInt) ((f4_ mk0 mk1 mk2 mk3) a1.toNatClampNeg).toInt ((f4_ mr0 mr1 mr2 mr3) a1.toNatClampNeg).toInt ((f4_ fl0 fl1 fl2 fl3) a1.toNatClampNeg a3.toNatClampNeg).toInt) ∧ va_P D vwCl [ob11_0_ xo xk xn xc xh xt xw xm xp pf ph tr efi, aq_ cy 4 xm 4 (mf_ m0 m1 m2 m3), ob4_0_ m0 mk0 mr0 l0 u0, ob4_0_ m1 mk1 mr1 l1 u1, ob4_0_ m2 mk2 mr2 l2 u2, ob4_0_ m3 mk3 mr3 l3 u3, ai_ cy l0 6 fl0, ai_ cy l1 6 fl1, ai_ cy l2 6 fl2, ai_ cy l3 6 fl3, aj_ cy u0 30 fn0, aj_ cy u1 30 fn1, aj_ cy u2 30 fn2, aj_ cy u3 30 fn3] t.heap ∧ va_D (va_A [ob11_0_ xo xk xn xc xh xt xw xm xp pf ph tr fi, aq_ cy 4 xm 4 (mf_ m0 m1 m2 m3), ob4_0_ m0 mk0 mr0 l0 u0, ob4_0_ m1 mk1 mr1 l1 u1, ob4_0_ m2 mk2 mr2 l2 u2, ob4_0_ m3 mk3 mr3 l3 u3, ai_ cy l0 6 fl0, ai_ cy l1 6 fl1, ai_ cy l2 6 fl2, ai_ cy l3 6 fl3, aj_ cy u0 30 fn0, aj_ cy u1 30 fn1, aj_ cy u2 30 fn2, aj_ cy u3 30 fn3] sz) [ob11_0_ xo xk xn xc xh xt xw xm xp pf ph tr efi, aq_ cy 4 xm 4 (mf_ m0 m1 m2 m3), ob4_0_ m0 mk0 mr0 l0 u0, ob4_0_ m1 mk1 mr1 l1 u1, ob4_0_ m2 mk2 mr2 l2 u2, ob4_0_ m3 mk3 mr3 l3 u3, ai_ cy l0 6 fl0, ai_ cy l1 6 fl1, ai_ cy l2 6 fl2, ai_ cy l3 6 fl3, aj_ cy u0 30 fn0, aj_ cy u1 30 fn1, aj_ cy u2 30 fn2, aj_ cy u3 30 fn3]) (va_A [ob11_0_ xo xk xn xc xh xt xw xm xp pf ph tr fi, aq_ cy 4 xm 4 (mf_ m0 m1 m2 m3), ob4_0_ m0 mk0 mr0 l0 u0, ob4_0_ m1 mk1 mr1 l1 u1, ob4_0_ m2 mk2 mr2 l2 u2, ob4_0_ m3 mk3 mr3 l3 u3, ai_ cy l0 6 fl0, ai_ cy l1 6 fl1, ai_ cy l2 6 fl2, ai_ cy l3 6 fl3, aj_ cy u0 30 fn0, aj_ cy u1 30 fn1, aj_ cy u2 30 fn2, aj_ cy u3 30 fn3] sz)) 0 0 (va_A [ob11_0_ xo xk xn xc xh xt xw xm xp pf ph tr fi, aq_ cy 4 xm 4 (mf_ m0 m1 m2 m3), ob4_0_ m0 mk0 mr0 l0 u0, ob4_0_ m1 mk1 mr1 l1 u1, ob4_0_ m2 mk2 mr2 l2 u2, ob4_0_ m3 mk3 mr3 l3 u3, ai_ cy l0 6 fl0, ai_ cy l1 6 fl1, ai_ cy l2 6 fl2, ai_ cy l3 6 fl3, aj_ cy u0 30 fn0, aj_ cy u1 30 fn1, aj_ cy u2 30 fn2, aj_ cy u3 30 fn3] sz) := by
  refine ofQ (cc := cX11_item) (maxL := 5) (ret := (some .long)) (by decide) rfl ?_
  intro p e s m args below meth c s₁ Q hQ B hml hv
  obtain ⟨rfl, hsz, hP, hK, hD0⟩ := hv
  have hx := B.exec
  have hb := B.bytes
  have hr := B.returns
  have hts := atoms_spec (ws := wsX11_item) B.pre
  have hown : s.vm.findClass RX11 = some m.cls := by have h_ := findClass_of_methodNamed B.named; exact h_
  have hlocks := B.notSynchronized
  subst hsz
  have hD := hD0.self (sz := s.heap.size)
  generalize hAe : va_A [ob11_0_ xo xk xn xc xh xt xw xm xp pf ph tr fi, aq_ cy 4 xm 4 (mf_ m0 m1 m2 m3), ob4_0_ m0 mk0 mr0 l0 u0, ob4_0_ m1 mk1 mr1 l1 u1, ob4_0_ m2 mk2 mr2 l2 u2, ob4_0_ m3 mk3 mr3 l3 u3, ai_ cy l0 6 fl0, ai_ cy l1 6 fl1, ai_ cy l2 6 fl2, ai_ cy l3 6 fl3, aj_ cy u0 30 fn0, aj_ cy u1 30 fn1, aj_ cy u2 30 fn2, aj_ cy u3 30 fn3] s.heap.size = A at hD hQ
  have hA : ∀ q : Nat, s.heap.size ≤ q → A q := fun q h => by rw [← hAe]; exact Or.inr h
  have hS : va_S A s.heap s.heap [] := va_S.rf
  have hl := lv_entry ([.ref xo, .int a1, .int a2, .int a3, .int a4]) (n := 5) (Nat.le_of_ble_eq_true rfl)
  rw [lg_entry_eq]
  generalize (lg_sl ([.ref xo, .int a1, .int a2, .int a3, .int a4]) ++ List.replicate (5 - (lg_sl ([.ref xo, .int a1, .int a2, .int a3, .int a4])).length) Slot.unset).toArray = ls at hl ⊢
  have hl : lv_has ls 5 [(0, .ref xo), (1, .int a1), (2, .int a2), (3, .int a3), (4, .int a4)] := hl
  have z0 : (0 : Int32).toInt = 0 := by decide
  have zl0 : (0 : Int64).toInt = 0 := by decide
  refine lv_aload_n hx hb dB_36_3_24.1.1.1.1 rfl (lv_at hl 0 rfl) ?_
  refine lv_aload_n hx hb dB_36_3_24.1.1.1.2 rfl (lv_at hl 0 rfl) ?_
  refine lv_iload_n hx hb dB_36_3_24.1.1.2.1 rfl (lv_at hl 1 rfl) ?_
  refine lv_iload_n hx hb dB_36_3_24.1.1.2.2 rfl (lv_at hl 2 rfl) ?_
  refine lv_iload_n hx hb dB_36_3_24.1.2.1.1 rfl (lv_at hl 3 rfl) ?_
  refine lv_iload hx hb dB_36_3_24.1.2.1.2 (lv_at hl 4 rfl) ?_
  refine ct_R hP hD [ob11_0_ xo xk xn xc xh xt xw xm xp pf ph tr fi, aq_ cy 4 xm 4 (mf_ m0 m1 m2 m3), ob4_0_ m0 mk0 mr0 l0 u0, ob4_0_ m1 mk1 mr1 l1 u1, ob4_0_ m2 mk2 mr2 l2 u2, ob4_0_ m3 mk3 mr3 l3 u3, ai_ cy l0 6 fl0, ai_ cy l1 6 fl1, ai_ cy l2 6 fl2, ai_ cy l3 6 fl3] [0, 1, 2, 3, 4, 5, 6, 7, 8, 9] (by decide) rfl (fun hPc hDw => ?_)
  have hFc := va_free (wc := []) hD hS hA [] rfl
  refine va_calli (va_runV (As := [.int a1, .int a2, .int a3, .int a4]) (rest := [.ref xo]) ⟨hx, hb, hml, hown, hts⟩ (c_X11_numberRefusal2 l D cy s.heap.size xo xk xn xc xh xt xw xm xp pf ph tr fi m0 l0 u0 m1 l1 u1 m2 l2 u2 m3 l3 u3 mk0 mr0 mk1 mr1 mk2 mr2 mk3 mr3 fl0 fl1 fl2 fl3 a1 a2 a3 a4 (by first | with_reducible assumption | assumption | omega) (by first | with_reducible assumption | assumption | omega) (by first | with_reducible assumption | assumption | omega) (by first | with_reducible assumption | assumption | omega) (by first | with_reducible assumption | assumption | omega) (by first | with_reducible assumption | assumption | omega) (by first | with_reducible assumption | assumption | omega) (by first | with_reducible assumption | assumption | omega)) (cwV 4 hts gX11_item_X11_numberRefusal rfl rfl rfl ⟨rfl, hd_X11_numberRefusal⟩ ⟨Nat.le_of_ble_eq_true rfl, Nat.le_of_ble_eq_true rfl⟩) ⟨bl_, va_recvX hK.1 hP (ci := 11) (q0 := 0) rfl rfl, fun U hU hW => ⟨rfl, by rw [hU], by rw [hU]; exact hPc, kk_mv hW hK, hDw⟩⟩ rfl rfl hl.1 rfl (lv_room (Nat.le_of_ble_eq_true rfl)) dB_36_3_24.1.2.2.1 ⟨Nat.le_of_ble_eq_true rfl, Nat.le_of_ble_eq_true rfl⟩) hS (fun q _ h => hFc q h) hFc (fun r_1 u t H locs ht hvm hw hB hz1 hk1 hS => ?_)
  have hP : va_P D vwCl _ H := ro_keep hP hk1
  obtain ⟨f0_r_1, f1_r_1⟩ := hw
  refine va_put (ci := 11) (v := .int r_1) (ty := .int) (C := RX11) (T := TX11) (N := 12) hx hb hts (fun _ h => List.mem_cons_of_mem _ (List.mem_append_left _ (List.mem_append_right _ h))) tyX11 tyX11_ok nmX11 hown hK.1 hP hD hS 0 rfl rfl 11 (by decide) (hts (.fieldLink RX11 91 "CutAtlas" "finding" "I") (List.mem_of_getElem? (i := 1) rfl)) (fun _ h9 => h9) rfl (by decide +kernel) rfl rfl (Nat.le_of_ble_eq_true rfl) dB_36_3_24.1.2.2.2 (fun H locs hP hD hS => ?_)
  refine pd_K [ob11_0_ xo xk xn xc xh xt xw xm xp pf ph tr r_1, aq_ cy 4 xm 4 (mf_ m0 m1 m2 m3), ob4_0_ m0 mk0 mr0 l0 u0, ob4_0_ m1 mk1 mr1 l1 u1, ob4_0_ m2 mk2 mr2 l2 u2, ob4_0_ m3 mk3 mr3 l3 u3, ai_ cy l0 6 fl0, ai_ cy l1 6 fl1, ai_ cy l2 6 fl2, ai_ cy l3 6 fl3, aj_ cy u0 30 fn0, aj_ cy u1 30 fn1, aj_ cy u2 30 fn2, aj_ cy u3 30 fn3] hP hD (fun hP hD => ?_)
  refine lv_aload_n hx hb dB_36_3_24.2.1.1.1 rfl (lv_at hl 0 rfl) ?_
  refine va_get (ci := 11) (v := .int r_1) (C := RX11) (T := TX11) (N := 12) hx hb hts (fun _ h => List.mem_cons_of_mem _ (List.mem_append_left _ (List.mem_append_right _ h))) hown hK.1 hP 0 rfl rfl 11 (by decide) (hts (.fieldLink RX11 91 "CutAtlas" "finding" "I") (List.mem_of_getElem? (i := 1) rfl)) (fun _ h9 => h9) rfl dB_36_3_24.2.1.1.2 ?_
  refine lv_if_eq (tgt := 22) hx hb dB_36_3_24.2.1.2.1 (by decide) (fun c_2 => ?_) (fun c_2 => ?_)
  · have t_2 : r_1.toInt = (0 : Int32).toInt := congrArg Int32.toInt c_2
    rcases sp_4 (x := a1) (by omega) with rfl | rfl | rfl | rfl
    · refine lv_aload_n hx hb dB_36_3_24.2.2.1.2 rfl (lv_at hl 0 rfl) ?_
      refine va_get (ci := 11) (v := .ref xm) (C := RX11) (T := TX11) (N := 12) hx hb hts (fun _ h => List.mem_cons_of_mem _ (List.mem_append_left _ (List.mem_append_right _ h))) hown hK.1 hP 0 rfl rfl 6 (by decide) (hts (.fieldLink RX11 72 "CutAtlas" "maps" "[LCutAtlas$NumberMap;") (List.mem_of_getElem? (i := 2) rfl)) (fun _ h9 => h9) rfl dB_36_3_24.2.2.2.1 ?_
      refine lv_iload_n hx hb dB_36_3_24.2.2.2.2 rfl (lv_at hl 1 rfl) ?_
      refine va_aldq hx hb hK.1 hP 1 4 rfl rfl (i := 0) (by unfold vp_in; decide) dB_36_3_25.1.1 ?_
      refine lv_topv (v' := .ref m0) (by simp [va_up, va_rf, mf_, cl_0, cl_1, cl_2, cl_3, cl_4]) ?_
      refine lv_iload_n hx hb dB_36_3_25.1.2 rfl (lv_at hl 3 rfl) ?_
      refine lv_iload hx hb dB_36_3_25.2.1 (lv_at hl 4 rfl) ?_
      refine ct_R hP hD [ob4_0_ m0 mk0 mr0 l0 u0, aj_ cy u0 30 fn0] [2, 10] (by decide) rfl (fun hPc hDw => ?_)
      have hFc := va_free (wc := []) hD hS hA [] rfl
      refine va_calll (va_runV (As := [.int a3, .int a4]) (rest := []) ⟨hx, hb, hml, hown, hts⟩ (c_X4_number l D cy H.size m0 l0 u0 mk0 mr0 fn0 a3 a4 (by first | with_reducible assumption | omega | assumption) (by first | with_reducible assumption | omega | assumption)) (cwV 2 hts gX11_item_X4_number rfl rfl rfl ⟨rfl, hd_X4_number⟩ ⟨Nat.le_of_ble_eq_true rfl, Nat.le_of_ble_eq_true rfl⟩) ⟨bl_, va_recvX hK.1 hP (ci := 4) (q0 := 2) rfl rfl, fun U hU hW => ⟨rfl, by rw [hU], by rw [hU]; exact hPc, kk_mv hW hK, hDw⟩⟩ rfl rfl hl.1 rfl (lv_room (Nat.le_of_ble_eq_true rfl)) dB_36_3_25.2.2.1 ⟨Nat.le_of_ble_eq_true rfl, Nat.le_of_ble_eq_true rfl⟩) hS (fun q _ h => hFc q h) hFc (fun r_3 u t H locs ht hvm hw hB hz1 hk1 hS => ?_)
      have hP : va_P D vwCl _ H := ro_keep hP hk1
      have f0_r_3 := hw
      rw [hQ]
      exact W.lret (v := r_3) hx hb hr (fun t ht hW => ⟨⟨r_3, (), rfl, (by first | exact ⟨fun _ => rfl, fun h => absurd h (by omega)⟩ | exact ⟨fun h => absurd (by omega) h, fun _ => by rw [f4_c0]; assumption⟩ | exact ⟨fun h => absurd (by omega) h, fun _ => by rw [f4_c1]; assumption⟩ | exact ⟨fun h => absurd (by omega) h, fun _ => by rw [f4_c2]; assumption⟩ | exact ⟨fun h => absurd (by omega) h, fun _ => by rw [f4_c3]; assumption⟩), r_1, (by assumption), by rw [ht]; exact hP, hD⟩, hS.F ht⟩) hS.2.2 dB_36_3_25.2.2.2
    · refine lv_aload_n hx hb dB_36_3_24.2.2.1.2 rfl (lv_at hl 0 rfl) ?_
      refine va_get (ci := 11) (v := .ref xm) (C := RX11) (T := TX11) (N := 12) hx hb hts (fun _ h => List.mem_cons_of_mem _ (List.mem_append_left _ (List.mem_append_right _ h))) hown hK.1 hP 0 rfl rfl 6 (by decide) (hts (.fieldLink RX11 72 "CutAtlas" "maps" "[LCutAtlas$NumberMap;") (List.mem_of_getElem? (i := 2) rfl)) (fun _ h9 => h9) rfl dB_36_3_24.2.2.2.1 ?_
      refine lv_iload_n hx hb dB_36_3_24.2.2.2.2 rfl (lv_at hl 1 rfl) ?_
      refine va_aldq hx hb hK.1 hP 1 4 rfl rfl (i := 1) (by unfold vp_in; decide) dB_36_3_25.1.1 ?_
      refine lv_topv (v' := .ref m1) (by simp [va_up, va_rf, mf_, cl_0, cl_1, cl_2, cl_3, cl_4]) ?_
      refine lv_iload_n hx hb dB_36_3_25.1.2 rfl (lv_at hl 3 rfl) ?_
      refine lv_iload hx hb dB_36_3_25.2.1 (lv_at hl 4 rfl) ?_
      refine ct_R hP hD [ob4_0_ m1 mk1 mr1 l1 u1, aj_ cy u1 30 fn1] [3, 11] (by decide) rfl (fun hPc hDw => ?_)
      have hFc := va_free (wc := []) hD hS hA [] rfl
      refine va_calll (va_runV (As := [.int a3, .int a4]) (rest := []) ⟨hx, hb, hml, hown, hts⟩ (c_X4_number l D cy H.size m1 l1 u1 mk1 mr1 fn1 a3 a4 (by first | with_reducible assumption | omega | assumption) (by first | with_reducible assumption | omega | assumption)) (cwV 2 hts gX11_item_X4_number rfl rfl rfl ⟨rfl, hd_X4_number⟩ ⟨Nat.le_of_ble_eq_true rfl, Nat.le_of_ble_eq_true rfl⟩) ⟨bl_, va_recvX hK.1 hP (ci := 4) (q0 := 3) rfl rfl, fun U hU hW => ⟨rfl, by rw [hU], by rw [hU]; exact hPc, kk_mv hW hK, hDw⟩⟩ rfl rfl hl.1 rfl (lv_room (Nat.le_of_ble_eq_true rfl)) dB_36_3_25.2.2.1 ⟨Nat.le_of_ble_eq_true rfl, Nat.le_of_ble_eq_true rfl⟩) hS (fun q _ h => hFc q h) hFc (fun r_4 u t H locs ht hvm hw hB hz1 hk1 hS => ?_)
      have hP : va_P D vwCl _ H := ro_keep hP hk1
      have f0_r_4 := hw
      rw [hQ]
      exact W.lret (v := r_4) hx hb hr (fun t ht hW => ⟨⟨r_4, (), rfl, (by first | exact ⟨fun _ => rfl, fun h => absurd h (by omega)⟩ | exact ⟨fun h => absurd (by omega) h, fun _ => by rw [f4_c0]; assumption⟩ | exact ⟨fun h => absurd (by omega) h, fun _ => by rw [f4_c1]; assumption⟩ | exact ⟨fun h => absurd (by omega) h, fun _ => by rw [f4_c2]; assumption⟩ | exact ⟨fun h => absurd (by omega) h, fun _ => by rw [f4_c3]; assumption⟩), r_1, (by assumption), by rw [ht]; exact hP, hD⟩, hS.F ht⟩) hS.2.2 dB_36_3_25.2.2.2
    · refine lv_aload_n hx hb dB_36_3_24.2.2.1.2 rfl (lv_at hl 0 rfl) ?_
      refine va_get (ci := 11) (v := .ref xm) (C := RX11) (T := TX11) (N := 12) hx hb hts (fun _ h => List.mem_cons_of_mem _ (List.mem_append_left _ (List.mem_append_right _ h))) hown hK.1 hP 0 rfl rfl 6 (by decide) (hts (.fieldLink RX11 72 "CutAtlas" "maps" "[LCutAtlas$NumberMap;") (List.mem_of_getElem? (i := 2) rfl)) (fun _ h9 => h9) rfl dB_36_3_24.2.2.2.1 ?_
      refine lv_iload_n hx hb dB_36_3_24.2.2.2.2 rfl (lv_at hl 1 rfl) ?_
      refine va_aldq hx hb hK.1 hP 1 4 rfl rfl (i := 2) (by unfold vp_in; decide) dB_36_3_25.1.1 ?_
      refine lv_topv (v' := .ref m2) (by simp [va_up, va_rf, mf_, cl_0, cl_1, cl_2, cl_3, cl_4]) ?_
      refine lv_iload_n hx hb dB_36_3_25.1.2 rfl (lv_at hl 3 rfl) ?_
      refine lv_iload hx hb dB_36_3_25.2.1 (lv_at hl 4 rfl) ?_
      refine ct_R hP hD [ob4_0_ m2 mk2 mr2 l2 u2, aj_ cy u2 30 fn2] [4, 12] (by decide) rfl (fun hPc hDw => ?_)
      have hFc := va_free (wc := []) hD hS hA [] rfl
      refine va_calll (va_runV (As := [.int a3, .int a4]) (rest := []) ⟨hx, hb, hml, hown, hts⟩ (c_X4_number l D cy H.size m2 l2 u2 mk2 mr2 fn2 a3 a4 (by first | with_reducible assumption | omega | assumption) (by first | with_reducible assumption | omega | assumption)) (cwV 2 hts gX11_item_X4_number rfl rfl rfl ⟨rfl, hd_X4_number⟩ ⟨Nat.le_of_ble_eq_true rfl, Nat.le_of_ble_eq_true rfl⟩) ⟨bl_, va_recvX hK.1 hP (ci := 4) (q0 := 4) rfl rfl, fun U hU hW => ⟨rfl, by rw [hU], by rw [hU]; exact hPc, kk_mv hW hK, hDw⟩⟩ rfl rfl hl.1 rfl (lv_room (Nat.le_of_ble_eq_true rfl)) dB_36_3_25.2.2.1 ⟨Nat.le_of_ble_eq_true rfl, Nat.le_of_ble_eq_true rfl⟩) hS (fun q _ h => hFc q h) hFc (fun r_5 u t H locs ht hvm hw hB hz1 hk1 hS => ?_)
      have hP : va_P D vwCl _ H := ro_keep hP hk1
      have f0_r_5 := hw
      rw [hQ]
      exact W.lret (v := r_5) hx hb hr (fun t ht hW => ⟨⟨r_5, (), rfl, (by first | exact ⟨fun _ => rfl, fun h => absurd h (by omega)⟩ | exact ⟨fun h => absurd (by omega) h, fun _ => by rw [f4_c0]; assumption⟩ | exact ⟨fun h => absurd (by omega) h, fun _ => by rw [f4_c1]; assumption⟩ | exact ⟨fun h => absurd (by omega) h, fun _ => by rw [f4_c2]; assumption⟩ | exact ⟨fun h => absurd (by omega) h, fun _ => by rw [f4_c3]; assumption⟩), r_1, (by assumption), by rw [ht]; exact hP, hD⟩, hS.F ht⟩) hS.2.2 dB_36_3_25.2.2.2
    · refine lv_aload_n hx hb dB_36_3_24.2.2.1.2 rfl (lv_at hl 0 rfl) ?_
      refine va_get (ci := 11) (v := .ref xm) (C := RX11) (T := TX11) (N := 12) hx hb hts (fun _ h => List.mem_cons_of_mem _ (List.mem_append_left _ (List.mem_append_right _ h))) hown hK.1 hP 0 rfl rfl 6 (by decide) (hts (.fieldLink RX11 72 "CutAtlas" "maps" "[LCutAtlas$NumberMap;") (List.mem_of_getElem? (i := 2) rfl)) (fun _ h9 => h9) rfl dB_36_3_24.2.2.2.1 ?_
      refine lv_iload_n hx hb dB_36_3_24.2.2.2.2 rfl (lv_at hl 1 rfl) ?_
      refine va_aldq hx hb hK.1 hP 1 4 rfl rfl (i := 3) (by unfold vp_in; decide) dB_36_3_25.1.1 ?_
      refine lv_topv (v' := .ref m3) (by simp [va_up, va_rf, mf_, cl_0, cl_1, cl_2, cl_3, cl_4]) ?_
      refine lv_iload_n hx hb dB_36_3_25.1.2 rfl (lv_at hl 3 rfl) ?_
      refine lv_iload hx hb dB_36_3_25.2.1 (lv_at hl 4 rfl) ?_
      refine ct_R hP hD [ob4_0_ m3 mk3 mr3 l3 u3, aj_ cy u3 30 fn3] [5, 13] (by decide) rfl (fun hPc hDw => ?_)
      have hFc := va_free (wc := []) hD hS hA [] rfl
      refine va_calll (va_runV (As := [.int a3, .int a4]) (rest := []) ⟨hx, hb, hml, hown, hts⟩ (c_X4_number l D cy H.size m3 l3 u3 mk3 mr3 fn3 a3 a4 (by first | with_reducible assumption | omega | assumption) (by first | with_reducible assumption | omega | assumption)) (cwV 2 hts gX11_item_X4_number rfl rfl rfl ⟨rfl, hd_X4_number⟩ ⟨Nat.le_of_ble_eq_true rfl, Nat.le_of_ble_eq_true rfl⟩) ⟨bl_, va_recvX hK.1 hP (ci := 4) (q0 := 5) rfl rfl, fun U hU hW => ⟨rfl, by rw [hU], by rw [hU]; exact hPc, kk_mv hW hK, hDw⟩⟩ rfl rfl hl.1 rfl (lv_room (Nat.le_of_ble_eq_true rfl)) dB_36_3_25.2.2.1 ⟨Nat.le_of_ble_eq_true rfl, Nat.le_of_ble_eq_true rfl⟩) hS (fun q _ h => hFc q h) hFc (fun r_6 u t H locs ht hvm hw hB hz1 hk1 hS => ?_)
      have hP : va_P D vwCl _ H := ro_keep hP hk1
      have f0_r_6 := hw
      rw [hQ]
      exact W.lret (v := r_6) hx hb hr (fun t ht hW => ⟨⟨r_6, (), rfl, (by first | exact ⟨fun _ => rfl, fun h => absurd h (by omega)⟩ | exact ⟨fun h => absurd (by omega) h, fun _ => by rw [f4_c0]; assumption⟩ | exact ⟨fun h => absurd (by omega) h, fun _ => by rw [f4_c1]; assumption⟩ | exact ⟨fun h => absurd (by omega) h, fun _ => by rw [f4_c2]; assumption⟩ | exact ⟨fun h => absurd (by omega) h, fun _ => by rw [f4_c3]; assumption⟩), r_1, (by assumption), by rw [ht]; exact hP, hD⟩, hS.F ht⟩) hS.2.2 dB_36_3_25.2.2.2
  · have t_2 : ¬ r_1.toInt = (0 : Int32).toInt := fun h => c_2 (Int32.toInt_inj.mp h)
    refine lv_lconst (v := 0) hx hb dB_36_3_24.2.1.2.2 (by decide) ?_
    rw [hQ]
    exact W.lret (v := 0) hx hb hr (fun t ht hW => ⟨⟨0, (), rfl, (by first | exact ⟨fun _ => rfl, fun h => absurd h (by omega)⟩ | exact ⟨fun h => absurd (by omega) h, fun _ => by rw [f4_c0]; assumption⟩ | exact ⟨fun h => absurd (by omega) h, fun _ => by rw [f4_c1]; assumption⟩ | exact ⟨fun h => absurd (by omega) h, fun _ => by rw [f4_c2]; assumption⟩ | exact ⟨fun h => absurd (by omega) h, fun _ => by rw [f4_c3]; assumption⟩), r_1, (by assumption), by rw [ht]; exact hP, hD⟩, hS.F ht⟩) hS.2.2 dB_36_3_24.2.2.1.1
end

section
set_option maxHeartbeats 4000000 in
set_option maxRecDepth 100000 in
theorem c_X11_copy2 (l : Launch) (D : va_G) (cy : Nat → ClassId) (sz : Nat) (xo : Nat) (xk : Nat) (xn : Nat) (xc : Nat) (xh : Nat) (xt : Nat) (xw : Nat) (xm : Nat) (xp : Nat) (pf : Int32) (ph : Int32) (tr : Int64) (fi : Int32) (m0 : Nat) (l0 : Nat) (u0 : Nat) (m1 : Nat) (l1 : Nat) (u1 : Nat) (m2 : Nat) (l2 : Nat) (u2 : Nat) (m3 : Nat) (l3 : Nat) (u3 : Nat) (mk0 : Int32) (mr0 : Int32) (mk1 : Int32) (mr1 : Int32) (mk2 : Int32) (mr2 : Int32) (mk3 : Int32) (mr3 : Int32) (fl0 : Nat → Int32) (fl1 : Nat → Int32) (fl2 : Nat → Int32) (fl3 : Nat → Int32) (fn0 : Nat → Int64) (fn1 : Nat → Int64) (fn2 : Nat → Int64) (fn3 : Nat → Int64) (a1 : Int32) (a2 : Int32) (a3 : Int32) (a4 : Int32) (a5 : Int32) (a6 : Int32) (hmr0 : mr0.toInt = -9 ∨ (0 ≤ mr0.toInt ∧ mr0.toInt ≤ 6)) (hmr1 : mr1.toInt = -9 ∨ (0 ≤ mr1.toInt ∧ mr1.toInt ≤ 6)) (hmr2 : mr2.toInt = -9 ∨ (0 ≤ mr2.toInt ∧ mr2.toInt ≤ 6)) (hmr3 : mr3.toInt = -9 ∨ (0 ≤ mr3.toInt ∧ mr3.toInt ≤ 6)) (r_fl0 : rng fl0 6 (-9) (5)) (r_fl1 : rng fl1 6 (-9) (5)) (r_fl2 : rng fl2 6 (-9) (5)) (r_fl3 : rng fl3 6 (-9) (5)) : Met l yX11_copy wsX11_copy ({ frames := 2, cells := 0, slots := 0, locals := 65 }) (va_Pc [.ref xo, .int a1, .int a2, .int a3, .int a4, .int a5, .int a6] (fun U => U.heap.size = sz ∧ va_P D vwCl [ob11_0_ xo xk xn xc xh xt xw xm xp pf ph tr fi, aq_ cy 4 xm 4 (mf_ m0 m1 m2 m3), ob4_0_ m0 mk0 mr0 l0 u0, ob4_0_ m1 mk1 mr1 l1 u1, ob4_0_ m2 mk2 mr2 l2 u2, ob4_0_ m3 mk3 mr3 l3 u3, ai_ cy l0 6 fl0, ai_ cy l1 6 fl1, ai_ cy l2 6 fl2, ai_ cy l3 6 fl3, aj_ cy u0 30 fn0, aj_ cy u1 30 fn1, aj_ cy u2 30 fn2, aj_ cy u3 30 fn3] U.heap ∧ kk_ D cy U ∧ va_D (fun _ => True) [ob11_0_ xo xk xn xc xh xt xw xm xp pf ph tr fi, aq_ cy 4 xm 4 (mf_ m0 m1 m2 m3), ob4_0_ m0 mk0 mr0 l0 u0, ob4_0_ m1 mk1 mr1 l1 u1, ob4_0_ m2 mk2 mr2 l2 u2, ob4_0_ m3 mk3 mr3 l3 u3, ai_ cy l0 6 fl0, ai_ cy l1 6 fl1, ai_ cy l2 6 fl2, ai_ cy l3 6 fl3, aj_ cy u0 30 fn0, aj_ cy u1 30 fn1, aj_ cy u2 30 fn2, aj_ cy u3 30 fn3])) (va_Qi (fun (r : Int32) (_ : Unit) => (r.toInt = if cpyI a1.toInt a2.toInt a3.toInt a4.toInt a5.toInt a6.toInt (hasI ((f4_ mr0 mr1 mr2 mr3) a1.toNatClampNeg).toInt) ((f4_ mr0 mr1 mr2 mr3) a1.toNatClampNeg).toInt ((f4_ fl0 fl1 fl2 fl3) a1.toNatClampNeg a2.toNatClampNeg).toInt ((f4_ fl0 fl1 fl2 fl3) a1.toNatClampNeg a4.toNatClampNeg).toInt = 0 then a6.toInt else cpyI a1.toInt a2.toInt a3.toInt a4.toInt a5.toInt a6.toInt (hasI ((f4_ mr0 mr1 mr2 mr3) a1.toNatClampNeg).toInt) ((f4_ mr0 mr1 mr2 mr3) a1.toNatClampNeg).toInt ((f4_ fl0 fl1 fl2 fl3) a1.toNatClampNeg a2.toNatClampNeg).toInt ((f4_ fl0 fl1 fl2 fl3) a1.toNatClampNeg a4.toNatClampNeg).toInt)) (fun (_ : Unit) (t : State) => ∃ (efi : Int32), ∃ (efn0 : Nat → Int64), ∃ (efn1 : Nat → Int64), ∃ (efn2 : Nat → Int64), ∃ (efn3 : Nat → Int64), (efi.toInt = cpyI a1.toInt a2.toInt a3.toInt a4.toInt a5.toInt a6.toInt (hasI ((f4_ mr0 mr1 mr2 mr3) a1.toNatClampNeg).toInt) ((f4_ mr0 mr1 mr2 mr3) a1.toNatClampNeg).toInt ((f4_ fl0 fl1 fl2 fl3) a1.toNatClampNeg a2.toNatClampNeg).toInt ((f4_ fl0 fl1 fl2 fl3) a1.toNatClampNeg a4.toNatClampNeg).toInt) ∧ ((efi.toInt ≠ 0 → eq4 (f4_ efn0 efn1 efn2 efn3) (f4_ fn0 fn1 fn2 fn3)) ∧ (efi.toInt = 0 → eq4 (f4_ efn0 efn1 efn2 efn3) (va_up (f4_ fn0 fn1 fn2 fn3) a1.toNatClampNeg (va_cpy ((f4_ fn0 fn1 fn2 fn3) a1.toNatClampNeg) ((f4_ fn0 fn1 fn2 fn3) a1.toNatClampNeg) (5 * a2.toInt + a3.toInt).toNat (5 * a4.toInt + a5.toInt).toNat a6.toNatClampNeg)))) ∧ va_P D vwCl [ob11_0_ xo xk xn xc xh xt xw xm xp pf ph tr efi, aq_ cy 4 xm 4 (mf_ m0 m1 m2 m3), ob4_0_ m0 mk0 mr0 l0 u0, ob4_0_ m1 mk1 mr1 l1 u1, ob4_0_ m2 mk2 mr2 l2 u2, ob4_0_ m3 mk3 mr3 l3 u3, ai_ cy l0 6 fl0, ai_ cy l1 6 fl1, ai_ cy l2 6 fl2, ai_ cy l3 6 fl3, aj_ cy u0 30 efn0, aj_ cy u1 30 efn1, aj_ cy u2 30 efn2, aj_ cy u3 30 efn3] t.heap ∧ va_D (va_A [ob11_0_ xo xk xn xc xh xt xw xm xp pf ph tr fi, aq_ cy 4 xm 4 (mf_ m0 m1 m2 m3), ob4_0_ m0 mk0 mr0 l0 u0, ob4_0_ m1 mk1 mr1 l1 u1, ob4_0_ m2 mk2 mr2 l2 u2, ob4_0_ m3 mk3 mr3 l3 u3, ai_ cy l0 6 fl0, ai_ cy l1 6 fl1, ai_ cy l2 6 fl2, ai_ cy l3 6 fl3, aj_ cy u0 30 fn0, aj_ cy u1 30 fn1, aj_ cy u2 30 fn2, aj_ cy u3 30 fn3] sz) [ob11_0_ xo xk xn xc xh xt xw xm xp pf ph tr efi, aq_ cy 4 xm 4 (mf_ m0 m1 m2 m3), ob4_0_ m0 mk0 mr0 l0 u0, ob4_0_ m1 mk1 mr1 l1 u1, ob4_0_ m2 mk2 mr2 l2 u2, ob4_0_ m3 mk3 mr3 l3 u3, ai_ cy l0 6 fl0, ai_ cy l1 6 fl1, ai_ cy l2 6 fl2, ai_ cy l3 6 fl3, aj_ cy u0 30 efn0, aj_ cy u1 30 efn1, aj_ cy u2 30 efn2, aj_ cy u3 30 efn3]) (va_A [ob11_0_ xo xk xn xc xh xt xw xm xp pf ph tr fi, aq_ cy 4 xm 4 (mf_ m0 m1 m2 m3), ob4_0_ m0 mk0 mr0 l0 u0, ob4_0_ m1 mk1 mr1 l1 u1, ob4_0_ m2 mk2 mr2 l2 u2, ob4_0_ m3 mk3 mr3 l3 u3, ai_ cy l0 6 fl0, ai_ cy l1 6 fl1, ai_ cy l2 6 fl2, ai_ cy l3 6 fl3, aj_ cy u0 30 fn0, aj_ cy u1 30 fn1, aj_ cy u2 30 fn2, aj_ cy u3 30 fn3] sz)) 0 0 (va_A [ob11_0_ xo xk xn xc xh xt xw xm xp pf ph tr fi, aq_ cy 4 xm 4 (mf_ m0 m1 m2 m3), ob4_0_ m0 mk0 mr0 l0 u0, ob4_0_ m1 mk1 mr1 l1 u1, ob4_0_ m2 mk2 mr2 l2 u2, ob4_0_ m3 mk3 mr3 l3 u3, ai_ cy l0 6 fl0, ai_ cy l1 6 fl1, ai_ cy l2 6 fl2, ai_ cy l3 6 fl3, aj_ cy u0 30 fn0, aj_ cy u1 30 fn1, aj_ cy u2 30 fn2, aj_ cy u3 30 fn3] sz) := by
  refine ofQ (cc := cX11_copy) (maxL := 7) (ret := (some .int)) (by decide) rfl ?_
  intro p e s m args below meth c s₁ Q hQ B hml hv
  obtain ⟨rfl, hsz, hP, hK, hD0⟩ := hv
  have hx := B.exec
  have hb := B.bytes
  have hr := B.returns
  have hts := atoms_spec (ws := wsX11_copy) B.pre
  have hown : s.vm.findClass RX11 = some m.cls := by have h_ := findClass_of_methodNamed B.named; exact h_
  have hlocks := B.notSynchronized
  subst hsz
  have hD := hD0.self (sz := s.heap.size)
  generalize hAe : va_A [ob11_0_ xo xk xn xc xh xt xw xm xp pf ph tr fi, aq_ cy 4 xm 4 (mf_ m0 m1 m2 m3), ob4_0_ m0 mk0 mr0 l0 u0, ob4_0_ m1 mk1 mr1 l1 u1, ob4_0_ m2 mk2 mr2 l2 u2, ob4_0_ m3 mk3 mr3 l3 u3, ai_ cy l0 6 fl0, ai_ cy l1 6 fl1, ai_ cy l2 6 fl2, ai_ cy l3 6 fl3, aj_ cy u0 30 fn0, aj_ cy u1 30 fn1, aj_ cy u2 30 fn2, aj_ cy u3 30 fn3] s.heap.size = A at hD hQ
  have hA : ∀ q : Nat, s.heap.size ≤ q → A q := fun q h => by rw [← hAe]; exact Or.inr h
  have hS : va_S A s.heap s.heap [] := va_S.rf
  have hl := lv_entry ([.ref xo, .int a1, .int a2, .int a3, .int a4, .int a5, .int a6]) (n := 7) (Nat.le_of_ble_eq_true rfl)
  rw [lg_entry_eq]
  generalize (lg_sl ([.ref xo, .int a1, .int a2, .int a3, .int a4, .int a5, .int a6]) ++ List.replicate (7 - (lg_sl ([.ref xo, .int a1, .int a2, .int a3, .int a4, .int a5, .int a6])).length) Slot.unset).toArray = ls at hl ⊢
  have hl : lv_has ls 7 [(0, .ref xo), (1, .int a1), (2, .int a2), (3, .int a3), (4, .int a4), (5, .int a5), (6, .int a6)] := hl
  have zm1 : ((-1) : Int32).toInt = -1 := by decide
  have z0 : (0 : Int32).toInt = 0 := by decide
  refine lv_aload_n hx hb dB_36_3_8.1.1.1.1 rfl (lv_at hl 0 rfl) ?_
  refine lv_iload_n hx hb dB_36_3_8.1.1.1.2 rfl (lv_at hl 1 rfl) ?_
  refine ct_R hP hD [] [] (by decide) rfl (fun hPc hDw => ?_)
  have hFc := va_free (wc := []) hD hS hA [] rfl
  refine va_calli (va_runS (As := [.int a1]) (rest := [.ref xo]) ⟨hx, hb, hml, hown, hts⟩ (c_X11_isMapNumber l D cy s.heap.size a1) (va_cwS 1 hts gX11_copy_X11_isMapNumber rfl rfl rfl hd_X11_isMapNumber ⟨Nat.le_of_ble_eq_true rfl, Nat.le_of_ble_eq_true rfl⟩) ⟨bl_, fun U hU hW => ⟨rfl, by rw [hU], by rw [hU]; exact hPc, kk_mv hW hK, hDw⟩⟩ rfl rfl hl.1 rfl (lv_room (Nat.le_of_ble_eq_true rfl)) dB_36_3_8.1.1.2.1 ⟨Nat.le_of_ble_eq_true rfl, Nat.le_of_ble_eq_true rfl⟩) hS (fun q _ h => hFc q h) hFc (fun r_1 u t H locs ht hvm hw hB hz1 hk1 hS => ?_)
  have hP : va_P D vwCl _ H := ro_keep hP hk1
  rcases hw with ⟨w_2, e_⟩ | ⟨w_2, e_⟩
  · have e_ := e_.symm
    subst e_
    refine lv_if_eq (tgt := 28) hx hb dB_36_3_8.1.1.2.2 (by decide) (fun c_3 => ?_) (fun c_3 => ?_)
    · exact absurd c_3 (by decide)
    · have _ := c_3
      rcases sp_4 (x := a1) (by omega) with rfl | rfl | rfl | rfl
      · refine lv_aload_n hx hb dB_36_3_8.1.2.1.1 rfl (lv_at hl 0 rfl) ?_
        refine va_get (ci := 11) (v := .ref xm) (C := RX11) (T := TX11) (N := 12) hx hb hts (fun _ h => List.mem_cons_of_mem _ (List.mem_append_left _ (List.mem_append_right _ h))) hown hK.1 hP 0 rfl rfl 6 (by decide) (hts (.fieldLink RX11 72 "CutAtlas" "maps" "[LCutAtlas$NumberMap;") (List.mem_of_getElem? (i := 1) rfl)) (fun _ h9 => h9) rfl dB_36_3_8.1.2.1.2 ?_
        refine lv_iload_n hx hb dB_36_3_8.1.2.2.1 rfl (lv_at hl 1 rfl) ?_
        refine va_aldq hx hb hK.1 hP 1 4 rfl rfl (i := 0) (by unfold vp_in; decide) dB_36_3_8.1.2.2.2 ?_
        refine lv_topv (v' := .ref m0) (by simp [va_up, va_rf, mf_, cl_0, cl_1, cl_2, cl_3, cl_4]) ?_
        refine lv_iload_n hx hb dB_36_3_8.2.1.1.1 rfl (lv_at hl 2 rfl) ?_
        refine lv_iload_n hx hb dB_36_3_8.2.1.1.2 rfl (lv_at hl 3 rfl) ?_
        refine lv_iload hx hb dB_36_3_8.2.1.2.1 (lv_at hl 4 rfl) ?_
        refine lv_iload hx hb dB_36_3_8.2.1.2.2 (lv_at hl 5 rfl) ?_
        refine lv_iload hx hb dB_36_3_8.2.2.1.1 (lv_at hl 6 rfl) ?_
        refine ct_R hP hD [ob4_0_ m0 mk0 mr0 l0 u0, ai_ cy l0 6 fl0] [2, 6] (by decide) rfl (fun hPc hDw => ?_)
        have hFc := va_free (wc := []) hD hS hA [] rfl
        refine va_calli (va_runV (As := [.int a2, .int a3, .int a4, .int a5, .int a6]) (rest := [.ref xo]) ⟨hx, hb, hml, hown, hts⟩ (c_X4_moveRefusal2 l D cy H.size m0 l0 u0 mk0 mr0 fl0 a2 a3 a4 a5 a6 (by first | with_reducible assumption | assumption | omega) (by first | with_reducible assumption | assumption | omega)) (cwV 5 hts gX11_copy_X4_moveRefusal rfl rfl rfl ⟨rfl, hd_X4_moveRefusal⟩ ⟨Nat.le_of_ble_eq_true rfl, Nat.le_of_ble_eq_true rfl⟩) ⟨bl_, va_recvX hK.1 hP (ci := 4) (q0 := 2) rfl rfl, fun U hU hW => ⟨rfl, by rw [hU], by rw [hU]; exact hPc, kk_mv hW hK, hDw⟩⟩ rfl rfl hl.1 rfl (lv_room (Nat.le_of_ble_eq_true rfl)) dB_36_3_8.2.2.1.2 ⟨Nat.le_of_ble_eq_true rfl, Nat.le_of_ble_eq_true rfl⟩) hS (fun q _ h => hFc q h) hFc (fun r_4 u t H locs ht hvm hw hB hz1 hk1 hS => ?_)
        have hP : va_P D vwCl _ H := ro_keep hP hk1
        obtain ⟨f0_r_4, f1_r_4⟩ := hw
        have hrr_ := f0_r_4
        refine lv_goto (tgt := 29) hx hb dB_36_3_8.2.2.2.1 (by decide) ?_
        refine va_put (ci := 11) (v := .int r_4) (ty := .int) (C := RX11) (T := TX11) (N := 12) hx hb hts (fun _ h => List.mem_cons_of_mem _ (List.mem_append_left _ (List.mem_append_right _ h))) tyX11 tyX11_ok nmX11 hown hK.1 hP hD hS 0 rfl rfl 11 (by decide) (hts (.fieldLink RX11 91 "CutAtlas" "finding" "I") (List.mem_of_getElem? (i := 2) rfl)) (fun _ h9 => h9) rfl (by decide +kernel) rfl rfl (Nat.le_of_ble_eq_true rfl) dB_36_3_9.1.1.1.1 (fun H locs hP hD hS => ?_)
        refine pd_K [ob11_0_ xo xk xn xc xh xt xw xm xp pf ph tr r_4, aq_ cy 4 xm 4 (mf_ m0 m1 m2 m3), ob4_0_ m0 mk0 mr0 l0 u0, ob4_0_ m1 mk1 mr1 l1 u1, ob4_0_ m2 mk2 mr2 l2 u2, ob4_0_ m3 mk3 mr3 l3 u3, ai_ cy l0 6 fl0, ai_ cy l1 6 fl1, ai_ cy l2 6 fl2, ai_ cy l3 6 fl3, aj_ cy u0 30 fn0, aj_ cy u1 30 fn1, aj_ cy u2 30 fn2, aj_ cy u3 30 fn3] hP hD (fun hP hD => ?_)
        refine lv_aload_n hx hb dB_36_3_9.1.1.1.2 rfl (lv_at hl 0 rfl) ?_
        refine va_get (ci := 11) (v := .int r_4) (C := RX11) (T := TX11) (N := 12) hx hb hts (fun _ h => List.mem_cons_of_mem _ (List.mem_append_left _ (List.mem_append_right _ h))) hown hK.1 hP 0 rfl rfl 11 (by decide) (hts (.fieldLink RX11 91 "CutAtlas" "finding" "I") (List.mem_of_getElem? (i := 2) rfl)) (fun _ h9 => h9) rfl dB_36_3_9.1.1.2.1 ?_
        refine lv_if_eq (tgt := 44) hx hb dB_36_3_9.1.1.2.2 (by decide) (fun c_5 => ?_) (fun c_5 => ?_)
        · have t_5 : r_4.toInt = (0 : Int32).toInt := congrArg Int32.toInt c_5
          refine lv_aload_n hx hb dB_36_3_9.1.2.2.2 rfl (lv_at hl 0 rfl) ?_
          refine va_get (ci := 11) (v := .ref xm) (C := RX11) (T := TX11) (N := 12) hx hb hts (fun _ h => List.mem_cons_of_mem _ (List.mem_append_left _ (List.mem_append_right _ h))) hown hK.1 hP 0 rfl rfl 6 (by decide) (hts (.fieldLink RX11 72 "CutAtlas" "maps" "[LCutAtlas$NumberMap;") (List.mem_of_getElem? (i := 1) rfl)) (fun _ h9 => h9) rfl dB_36_3_9.2.1.1.1 ?_
          refine lv_iload_n hx hb dB_36_3_9.2.1.1.2 rfl (lv_at hl 1 rfl) ?_
          refine va_aldq hx hb hK.1 hP 1 4 rfl rfl (i := 0) (by unfold vp_in; decide) dB_36_3_9.2.1.2.1 ?_
          refine lv_topv (v' := .ref m0) (by simp [va_up, va_rf, mf_, cl_0, cl_1, cl_2, cl_3, cl_4]) ?_
          refine lv_iload_n hx hb dB_36_3_9.2.1.2.2 rfl (lv_at hl 2 rfl) ?_
          refine lv_iload_n hx hb dB_36_3_9.2.2.1.1 rfl (lv_at hl 3 rfl) ?_
          refine lv_iload hx hb dB_36_3_9.2.2.1.2 (lv_at hl 4 rfl) ?_
          refine lv_iload hx hb dB_36_3_9.2.2.2.1 (lv_at hl 5 rfl) ?_
          refine lv_iload hx hb dB_36_3_9.2.2.2.2 (lv_at hl 6 rfl) ?_
          refine ct_S hP hD hS hA [ob4_0_ m0 mk0 mr0 l0 u0, aj_ cy u0 30 fn0] [2, 10] (by decide) rfl (fun hPc hDw hFc hC_ => ?_)
          refine va_callv (va_runV (As := [.int a2, .int a3, .int a4, .int a5, .int a6]) (rest := []) ⟨hx, hb, hml, hown, hts⟩ (c_X4_move2 l D cy H.size m0 l0 u0 mk0 mr0 fn0 a2 a3 a4 a5 a6 (by first | with_reducible assumption | assumption | omega)) (cwV 5 hts gX11_copy_X4_move rfl rfl rfl ⟨rfl, hd_X4_move⟩ ⟨Nat.le_of_ble_eq_true rfl, Nat.le_of_ble_eq_true rfl⟩) ⟨bl_, va_recvX hK.1 hP (ci := 4) (q0 := 2) rfl rfl, fun U hU hW => ⟨rfl, by rw [hU], by rw [hU]; exact hPc, kk_mv hW hK, hDw⟩⟩ rfl rfl hl.1 rfl (lv_room (Nat.le_of_ble_eq_true rfl)) dB_36_3_10.1 ⟨Nat.le_of_ble_eq_true rfl, Nat.le_of_ble_eq_true rfl⟩) hS (fun q _ h => hFc q h) hFc (fun u t H locs ht hvm hw hB hz1 hk1 hS => ?_)
          obtain ⟨efn_7, g_8, hP1, hD1⟩ := hB
          rw [ht] at hP1
          obtain ⟨hP, hD⟩ := va_join (wr := [ob11_0_ xo xk xn xc xh xt xw xm xp pf ph tr r_4, aq_ cy 4 xm 4 (mf_ m0 m1 m2 m3), ob4_0_ m1 mk1 mr1 l1 u1, ob4_0_ m2 mk2 mr2 l2 u2, ob4_0_ m3 mk3 mr3 l3 u3, ai_ cy l0 6 fl0, ai_ cy l1 6 fl1, ai_ cy l2 6 fl2, ai_ cy l3 6 fl3, aj_ cy u1 30 fn1, aj_ cy u2 30 fn2, aj_ cy u3 30 fn3]) (w1 := [ob4_0_ m0 mk0 mr0 l0 u0, aj_ cy u0 30 efn_7]) hP hD [2, 10] [0, 1, 3, 4, 5, 6, 7, 8, 9, 11, 12, 13] hC_ rfl (by decide +kernel) (by decide +kernel) hk1 hFc hP1 hD1
          refine pd_S hP hD [ob11_0_ xo xk xn xc xh xt xw xm xp pf ph tr r_4, aq_ cy 4 xm 4 (mf_ m0 m1 m2 m3), ob4_0_ m0 mk0 mr0 l0 u0, ob4_0_ m1 mk1 mr1 l1 u1, ob4_0_ m2 mk2 mr2 l2 u2, ob4_0_ m3 mk3 mr3 l3 u3, ai_ cy l0 6 fl0, ai_ cy l1 6 fl1, ai_ cy l2 6 fl2, ai_ cy l3 6 fl3, aj_ cy u0 30 efn_7, aj_ cy u1 30 fn1, aj_ cy u2 30 fn2, aj_ cy u3 30 fn3] [0, 1, 12, 2, 3, 4, 5, 6, 7, 8, 13, 9, 10, 11] (by decide +kernel) rfl (fun hP hD => ?_)
          have hq1_ := g_8
          refine lv_iload hx hb dB_36_3_10.2.1 (lv_at hl 6 rfl) ?_
          rw [hQ]
          exact W.iret (v := a6) hx hb hr (fun t ht hW => ⟨⟨a6, (), rfl, (by first | (have hc_ : cpyI a1.toInt a2.toInt a3.toInt a4.toInt a5.toInt a6.toInt (hasI ((f4_ mr0 mr1 mr2 mr3) a1.toNatClampNeg).toInt) ((f4_ mr0 mr1 mr2 mr3) a1.toNatClampNeg).toInt ((f4_ fl0 fl1 fl2 fl3) a1.toNatClampNeg a2.toNatClampNeg).toInt ((f4_ fl0 fl1 fl2 fl3) a1.toNatClampNeg a4.toNatClampNeg).toInt = -1 := (by unfold cpyI; rw [if_pos (by omega)]); rw [if_neg (by omega), hc_]; decide) | (have hc_ := hrr_; rw [← cpyI_a (a := (0 : Int32).toInt) (by decide) (by decide)] at hc_; rw [f4_c0, f4_c0, ← hc_]; first | (rw [if_neg (by omega)]; done) | (rw [if_pos (by omega)]; done)) | (have hc_ := hrr_; rw [← cpyI_a (a := (1 : Int32).toInt) (by decide) (by decide)] at hc_; rw [f4_c1, f4_c1, ← hc_]; first | (rw [if_neg (by omega)]; done) | (rw [if_pos (by omega)]; done)) | (have hc_ := hrr_; rw [← cpyI_a (a := (2 : Int32).toInt) (by decide) (by decide)] at hc_; rw [f4_c2, f4_c2, ← hc_]; first | (rw [if_neg (by omega)]; done) | (rw [if_pos (by omega)]; done)) | (have hc_ := hrr_; rw [← cpyI_a (a := (3 : Int32).toInt) (by decide) (by decide)] at hc_; rw [f4_c3, f4_c3, ← hc_]; first | (rw [if_neg (by omega)]; done) | (rw [if_pos (by omega)]; done))), r_4, efn_7, fn1, fn2, fn3, (by first | (unfold cpyI; rw [if_pos (by omega)]; first | rfl | decide | omega) | (rw [f4_c0, f4_c0, cpyI_a (by decide) (by decide)]; assumption) | (rw [f4_c1, f4_c1, cpyI_a (by decide) (by decide)]; assumption) | (rw [f4_c2, f4_c2, cpyI_a (by decide) (by decide)]; assumption) | (rw [f4_c3, f4_c3, cpyI_a (by decide) (by decide)]; assumption)), (by first | exact ⟨fun _ => eq4_rf, fun h => absurd h (by first | omega | decide)⟩ | exact ⟨fun h => absurd (by first | omega | decide) h, fun _ => (by rw [f4_c0, ← hq1_]; exact f4_u0)⟩ | exact ⟨fun h => absurd (by first | omega | decide) h, fun _ => (by rw [f4_c1, ← hq1_]; exact f4_u1)⟩ | exact ⟨fun h => absurd (by first | omega | decide) h, fun _ => (by rw [f4_c2, ← hq1_]; exact f4_u2)⟩ | exact ⟨fun h => absurd (by first | omega | decide) h, fun _ => (by rw [f4_c3, ← hq1_]; exact f4_u3)⟩), by rw [ht]; exact hP, hD⟩, hS.F ht⟩) hS.2.2 dB_36_3_10.2.2
        · have t_5 : ¬ r_4.toInt = (0 : Int32).toInt := fun h => c_5 (Int32.toInt_inj.mp h)
          refine lv_aload_n hx hb dB_36_3_9.1.2.1.1 rfl (lv_at hl 0 rfl) ?_
          refine va_get (ci := 11) (v := .int r_4) (C := RX11) (T := TX11) (N := 12) hx hb hts (fun _ h => List.mem_cons_of_mem _ (List.mem_append_left _ (List.mem_append_right _ h))) hown hK.1 hP 0 rfl rfl 11 (by decide) (hts (.fieldLink RX11 91 "CutAtlas" "finding" "I") (List.mem_of_getElem? (i := 2) rfl)) (fun _ h9 => h9) rfl dB_36_3_9.1.2.1.2 ?_
          rw [hQ]
          exact W.iret (v := r_4) hx hb hr (fun t ht hW => ⟨⟨r_4, (), rfl, (by first | (have hc_ : cpyI a1.toInt a2.toInt a3.toInt a4.toInt a5.toInt a6.toInt (hasI ((f4_ mr0 mr1 mr2 mr3) a1.toNatClampNeg).toInt) ((f4_ mr0 mr1 mr2 mr3) a1.toNatClampNeg).toInt ((f4_ fl0 fl1 fl2 fl3) a1.toNatClampNeg a2.toNatClampNeg).toInt ((f4_ fl0 fl1 fl2 fl3) a1.toNatClampNeg a4.toNatClampNeg).toInt = -1 := (by unfold cpyI; rw [if_pos (by omega)]); rw [if_neg (by omega), hc_]; decide) | (have hc_ := hrr_; rw [← cpyI_a (a := (0 : Int32).toInt) (by decide) (by decide)] at hc_; rw [f4_c0, f4_c0, ← hc_]; first | (rw [if_neg (by omega)]; done) | (rw [if_pos (by omega)]; done)) | (have hc_ := hrr_; rw [← cpyI_a (a := (1 : Int32).toInt) (by decide) (by decide)] at hc_; rw [f4_c1, f4_c1, ← hc_]; first | (rw [if_neg (by omega)]; done) | (rw [if_pos (by omega)]; done)) | (have hc_ := hrr_; rw [← cpyI_a (a := (2 : Int32).toInt) (by decide) (by decide)] at hc_; rw [f4_c2, f4_c2, ← hc_]; first | (rw [if_neg (by omega)]; done) | (rw [if_pos (by omega)]; done)) | (have hc_ := hrr_; rw [← cpyI_a (a := (3 : Int32).toInt) (by decide) (by decide)] at hc_; rw [f4_c3, f4_c3, ← hc_]; first | (rw [if_neg (by omega)]; done) | (rw [if_pos (by omega)]; done))), r_4, fn0, fn1, fn2, fn3, (by first | (unfold cpyI; rw [if_pos (by omega)]; first | rfl | decide | omega) | (rw [f4_c0, f4_c0, cpyI_a (by decide) (by decide)]; assumption) | (rw [f4_c1, f4_c1, cpyI_a (by decide) (by decide)]; assumption) | (rw [f4_c2, f4_c2, cpyI_a (by decide) (by decide)]; assumption) | (rw [f4_c3, f4_c3, cpyI_a (by decide) (by decide)]; assumption)), (by first | exact ⟨fun _ => eq4_rf, fun h => absurd h (by first | omega | decide)⟩ | exact ⟨fun h => absurd (by first | omega | decide) h, fun _ => (by rw [f4_c0, ← hq1_]; exact f4_u0)⟩ | exact ⟨fun h => absurd (by first | omega | decide) h, fun _ => (by rw [f4_c1, ← hq1_]; exact f4_u1)⟩ | exact ⟨fun h => absurd (by first | omega | decide) h, fun _ => (by rw [f4_c2, ← hq1_]; exact f4_u2)⟩ | exact ⟨fun h => absurd (by first | omega | decide) h, fun _ => (by rw [f4_c3, ← hq1_]; exact f4_u3)⟩), by rw [ht]; exact hP, hD⟩, hS.F ht⟩) hS.2.2 dB_36_3_9.1.2.2.1
      · refine lv_aload_n hx hb dB_36_3_8.1.2.1.1 rfl (lv_at hl 0 rfl) ?_
        refine va_get (ci := 11) (v := .ref xm) (C := RX11) (T := TX11) (N := 12) hx hb hts (fun _ h => List.mem_cons_of_mem _ (List.mem_append_left _ (List.mem_append_right _ h))) hown hK.1 hP 0 rfl rfl 6 (by decide) (hts (.fieldLink RX11 72 "CutAtlas" "maps" "[LCutAtlas$NumberMap;") (List.mem_of_getElem? (i := 1) rfl)) (fun _ h9 => h9) rfl dB_36_3_8.1.2.1.2 ?_
        refine lv_iload_n hx hb dB_36_3_8.1.2.2.1 rfl (lv_at hl 1 rfl) ?_
        refine va_aldq hx hb hK.1 hP 1 4 rfl rfl (i := 1) (by unfold vp_in; decide) dB_36_3_8.1.2.2.2 ?_
        refine lv_topv (v' := .ref m1) (by simp [va_up, va_rf, mf_, cl_0, cl_1, cl_2, cl_3, cl_4]) ?_
        refine lv_iload_n hx hb dB_36_3_8.2.1.1.1 rfl (lv_at hl 2 rfl) ?_
        refine lv_iload_n hx hb dB_36_3_8.2.1.1.2 rfl (lv_at hl 3 rfl) ?_
        refine lv_iload hx hb dB_36_3_8.2.1.2.1 (lv_at hl 4 rfl) ?_
        refine lv_iload hx hb dB_36_3_8.2.1.2.2 (lv_at hl 5 rfl) ?_
        refine lv_iload hx hb dB_36_3_8.2.2.1.1 (lv_at hl 6 rfl) ?_
        refine ct_R hP hD [ob4_0_ m1 mk1 mr1 l1 u1, ai_ cy l1 6 fl1] [3, 7] (by decide) rfl (fun hPc hDw => ?_)
        have hFc := va_free (wc := []) hD hS hA [] rfl
        refine va_calli (va_runV (As := [.int a2, .int a3, .int a4, .int a5, .int a6]) (rest := [.ref xo]) ⟨hx, hb, hml, hown, hts⟩ (c_X4_moveRefusal2 l D cy H.size m1 l1 u1 mk1 mr1 fl1 a2 a3 a4 a5 a6 (by first | with_reducible assumption | assumption | omega) (by first | with_reducible assumption | assumption | omega)) (cwV 5 hts gX11_copy_X4_moveRefusal rfl rfl rfl ⟨rfl, hd_X4_moveRefusal⟩ ⟨Nat.le_of_ble_eq_true rfl, Nat.le_of_ble_eq_true rfl⟩) ⟨bl_, va_recvX hK.1 hP (ci := 4) (q0 := 3) rfl rfl, fun U hU hW => ⟨rfl, by rw [hU], by rw [hU]; exact hPc, kk_mv hW hK, hDw⟩⟩ rfl rfl hl.1 rfl (lv_room (Nat.le_of_ble_eq_true rfl)) dB_36_3_8.2.2.1.2 ⟨Nat.le_of_ble_eq_true rfl, Nat.le_of_ble_eq_true rfl⟩) hS (fun q _ h => hFc q h) hFc (fun r_9 u t H locs ht hvm hw hB hz1 hk1 hS => ?_)
        have hP : va_P D vwCl _ H := ro_keep hP hk1
        obtain ⟨f0_r_9, f1_r_9⟩ := hw
        have hrr_ := f0_r_9
        refine lv_goto (tgt := 29) hx hb dB_36_3_8.2.2.2.1 (by decide) ?_
        refine va_put (ci := 11) (v := .int r_9) (ty := .int) (C := RX11) (T := TX11) (N := 12) hx hb hts (fun _ h => List.mem_cons_of_mem _ (List.mem_append_left _ (List.mem_append_right _ h))) tyX11 tyX11_ok nmX11 hown hK.1 hP hD hS 0 rfl rfl 11 (by decide) (hts (.fieldLink RX11 91 "CutAtlas" "finding" "I") (List.mem_of_getElem? (i := 2) rfl)) (fun _ h9 => h9) rfl (by decide +kernel) rfl rfl (Nat.le_of_ble_eq_true rfl) dB_36_3_9.1.1.1.1 (fun H locs hP hD hS => ?_)
        refine pd_K [ob11_0_ xo xk xn xc xh xt xw xm xp pf ph tr r_9, aq_ cy 4 xm 4 (mf_ m0 m1 m2 m3), ob4_0_ m0 mk0 mr0 l0 u0, ob4_0_ m1 mk1 mr1 l1 u1, ob4_0_ m2 mk2 mr2 l2 u2, ob4_0_ m3 mk3 mr3 l3 u3, ai_ cy l0 6 fl0, ai_ cy l1 6 fl1, ai_ cy l2 6 fl2, ai_ cy l3 6 fl3, aj_ cy u0 30 fn0, aj_ cy u1 30 fn1, aj_ cy u2 30 fn2, aj_ cy u3 30 fn3] hP hD (fun hP hD => ?_)
        refine lv_aload_n hx hb dB_36_3_9.1.1.1.2 rfl (lv_at hl 0 rfl) ?_
        refine va_get (ci := 11) (v := .int r_9) (C := RX11) (T := TX11) (N := 12) hx hb hts (fun _ h => List.mem_cons_of_mem _ (List.mem_append_left _ (List.mem_append_right _ h))) hown hK.1 hP 0 rfl rfl 11 (by decide) (hts (.fieldLink RX11 91 "CutAtlas" "finding" "I") (List.mem_of_getElem? (i := 2) rfl)) (fun _ h9 => h9) rfl dB_36_3_9.1.1.2.1 ?_
        refine lv_if_eq (tgt := 44) hx hb dB_36_3_9.1.1.2.2 (by decide) (fun c_10 => ?_) (fun c_10 => ?_)
        · have t_10 : r_9.toInt = (0 : Int32).toInt := congrArg Int32.toInt c_10
          refine lv_aload_n hx hb dB_36_3_9.1.2.2.2 rfl (lv_at hl 0 rfl) ?_
          refine va_get (ci := 11) (v := .ref xm) (C := RX11) (T := TX11) (N := 12) hx hb hts (fun _ h => List.mem_cons_of_mem _ (List.mem_append_left _ (List.mem_append_right _ h))) hown hK.1 hP 0 rfl rfl 6 (by decide) (hts (.fieldLink RX11 72 "CutAtlas" "maps" "[LCutAtlas$NumberMap;") (List.mem_of_getElem? (i := 1) rfl)) (fun _ h9 => h9) rfl dB_36_3_9.2.1.1.1 ?_
          refine lv_iload_n hx hb dB_36_3_9.2.1.1.2 rfl (lv_at hl 1 rfl) ?_
          refine va_aldq hx hb hK.1 hP 1 4 rfl rfl (i := 1) (by unfold vp_in; decide) dB_36_3_9.2.1.2.1 ?_
          refine lv_topv (v' := .ref m1) (by simp [va_up, va_rf, mf_, cl_0, cl_1, cl_2, cl_3, cl_4]) ?_
          refine lv_iload_n hx hb dB_36_3_9.2.1.2.2 rfl (lv_at hl 2 rfl) ?_
          refine lv_iload_n hx hb dB_36_3_9.2.2.1.1 rfl (lv_at hl 3 rfl) ?_
          refine lv_iload hx hb dB_36_3_9.2.2.1.2 (lv_at hl 4 rfl) ?_
          refine lv_iload hx hb dB_36_3_9.2.2.2.1 (lv_at hl 5 rfl) ?_
          refine lv_iload hx hb dB_36_3_9.2.2.2.2 (lv_at hl 6 rfl) ?_
          refine ct_S hP hD hS hA [ob4_0_ m1 mk1 mr1 l1 u1, aj_ cy u1 30 fn1] [3, 11] (by decide) rfl (fun hPc hDw hFc hC_ => ?_)
          refine va_callv (va_runV (As := [.int a2, .int a3, .int a4, .int a5, .int a6]) (rest := []) ⟨hx, hb, hml, hown, hts⟩ (c_X4_move2 l D cy H.size m1 l1 u1 mk1 mr1 fn1 a2 a3 a4 a5 a6 (by first | with_reducible assumption | assumption | omega)) (cwV 5 hts gX11_copy_X4_move rfl rfl rfl ⟨rfl, hd_X4_move⟩ ⟨Nat.le_of_ble_eq_true rfl, Nat.le_of_ble_eq_true rfl⟩) ⟨bl_, va_recvX hK.1 hP (ci := 4) (q0 := 3) rfl rfl, fun U hU hW => ⟨rfl, by rw [hU], by rw [hU]; exact hPc, kk_mv hW hK, hDw⟩⟩ rfl rfl hl.1 rfl (lv_room (Nat.le_of_ble_eq_true rfl)) dB_36_3_10.1 ⟨Nat.le_of_ble_eq_true rfl, Nat.le_of_ble_eq_true rfl⟩) hS (fun q _ h => hFc q h) hFc (fun u t H locs ht hvm hw hB hz1 hk1 hS => ?_)
          obtain ⟨efn_12, g_13, hP1, hD1⟩ := hB
          rw [ht] at hP1
          obtain ⟨hP, hD⟩ := va_join (wr := [ob11_0_ xo xk xn xc xh xt xw xm xp pf ph tr r_9, aq_ cy 4 xm 4 (mf_ m0 m1 m2 m3), ob4_0_ m0 mk0 mr0 l0 u0, ob4_0_ m2 mk2 mr2 l2 u2, ob4_0_ m3 mk3 mr3 l3 u3, ai_ cy l0 6 fl0, ai_ cy l1 6 fl1, ai_ cy l2 6 fl2, ai_ cy l3 6 fl3, aj_ cy u0 30 fn0, aj_ cy u2 30 fn2, aj_ cy u3 30 fn3]) (w1 := [ob4_0_ m1 mk1 mr1 l1 u1, aj_ cy u1 30 efn_12]) hP hD [3, 11] [0, 1, 2, 4, 5, 6, 7, 8, 9, 10, 12, 13] hC_ rfl (by decide +kernel) (by decide +kernel) hk1 hFc hP1 hD1
          refine pd_S hP hD [ob11_0_ xo xk xn xc xh xt xw xm xp pf ph tr r_9, aq_ cy 4 xm 4 (mf_ m0 m1 m2 m3), ob4_0_ m0 mk0 mr0 l0 u0, ob4_0_ m1 mk1 mr1 l1 u1, ob4_0_ m2 mk2 mr2 l2 u2, ob4_0_ m3 mk3 mr3 l3 u3, ai_ cy l0 6 fl0, ai_ cy l1 6 fl1, ai_ cy l2 6 fl2, ai_ cy l3 6 fl3, aj_ cy u0 30 fn0, aj_ cy u1 30 efn_12, aj_ cy u2 30 fn2, aj_ cy u3 30 fn3] [0, 1, 2, 12, 3, 4, 5, 6, 7, 8, 9, 13, 10, 11] (by decide +kernel) rfl (fun hP hD => ?_)
          have hq1_ := g_13
          refine lv_iload hx hb dB_36_3_10.2.1 (lv_at hl 6 rfl) ?_
          rw [hQ]
          exact W.iret (v := a6) hx hb hr (fun t ht hW => ⟨⟨a6, (), rfl, (by first | (have hc_ : cpyI a1.toInt a2.toInt a3.toInt a4.toInt a5.toInt a6.toInt (hasI ((f4_ mr0 mr1 mr2 mr3) a1.toNatClampNeg).toInt) ((f4_ mr0 mr1 mr2 mr3) a1.toNatClampNeg).toInt ((f4_ fl0 fl1 fl2 fl3) a1.toNatClampNeg a2.toNatClampNeg).toInt ((f4_ fl0 fl1 fl2 fl3) a1.toNatClampNeg a4.toNatClampNeg).toInt = -1 := (by unfold cpyI; rw [if_pos (by omega)]); rw [if_neg (by omega), hc_]; decide) | (have hc_ := hrr_; rw [← cpyI_a (a := (0 : Int32).toInt) (by decide) (by decide)] at hc_; rw [f4_c0, f4_c0, ← hc_]; first | (rw [if_neg (by omega)]; done) | (rw [if_pos (by omega)]; done)) | (have hc_ := hrr_; rw [← cpyI_a (a := (1 : Int32).toInt) (by decide) (by decide)] at hc_; rw [f4_c1, f4_c1, ← hc_]; first | (rw [if_neg (by omega)]; done) | (rw [if_pos (by omega)]; done)) | (have hc_ := hrr_; rw [← cpyI_a (a := (2 : Int32).toInt) (by decide) (by decide)] at hc_; rw [f4_c2, f4_c2, ← hc_]; first | (rw [if_neg (by omega)]; done) | (rw [if_pos (by omega)]; done)) | (have hc_ := hrr_; rw [← cpyI_a (a := (3 : Int32).toInt) (by decide) (by decide)] at hc_; rw [f4_c3, f4_c3, ← hc_]; first | (rw [if_neg (by omega)]; done) | (rw [if_pos (by omega)]; done))), r_9, fn0, efn_12, fn2, fn3, (by first | (unfold cpyI; rw [if_pos (by omega)]; first | rfl | decide | omega) | (rw [f4_c0, f4_c0, cpyI_a (by decide) (by decide)]; assumption) | (rw [f4_c1, f4_c1, cpyI_a (by decide) (by decide)]; assumption) | (rw [f4_c2, f4_c2, cpyI_a (by decide) (by decide)]; assumption) | (rw [f4_c3, f4_c3, cpyI_a (by decide) (by decide)]; assumption)), (by first | exact ⟨fun _ => eq4_rf, fun h => absurd h (by first | omega | decide)⟩ | exact ⟨fun h => absurd (by first | omega | decide) h, fun _ => (by rw [f4_c0, ← hq1_]; exact f4_u0)⟩ | exact ⟨fun h => absurd (by first | omega | decide) h, fun _ => (by rw [f4_c1, ← hq1_]; exact f4_u1)⟩ | exact ⟨fun h => absurd (by first | omega | decide) h, fun _ => (by rw [f4_c2, ← hq1_]; exact f4_u2)⟩ | exact ⟨fun h => absurd (by first | omega | decide) h, fun _ => (by rw [f4_c3, ← hq1_]; exact f4_u3)⟩), by rw [ht]; exact hP, hD⟩, hS.F ht⟩) hS.2.2 dB_36_3_10.2.2
        · have t_10 : ¬ r_9.toInt = (0 : Int32).toInt := fun h => c_10 (Int32.toInt_inj.mp h)
          refine lv_aload_n hx hb dB_36_3_9.1.2.1.1 rfl (lv_at hl 0 rfl) ?_
          refine va_get (ci := 11) (v := .int r_9) (C := RX11) (T := TX11) (N := 12) hx hb hts (fun _ h => List.mem_cons_of_mem _ (List.mem_append_left _ (List.mem_append_right _ h))) hown hK.1 hP 0 rfl rfl 11 (by decide) (hts (.fieldLink RX11 91 "CutAtlas" "finding" "I") (List.mem_of_getElem? (i := 2) rfl)) (fun _ h9 => h9) rfl dB_36_3_9.1.2.1.2 ?_
          rw [hQ]
          exact W.iret (v := r_9) hx hb hr (fun t ht hW => ⟨⟨r_9, (), rfl, (by first | (have hc_ : cpyI a1.toInt a2.toInt a3.toInt a4.toInt a5.toInt a6.toInt (hasI ((f4_ mr0 mr1 mr2 mr3) a1.toNatClampNeg).toInt) ((f4_ mr0 mr1 mr2 mr3) a1.toNatClampNeg).toInt ((f4_ fl0 fl1 fl2 fl3) a1.toNatClampNeg a2.toNatClampNeg).toInt ((f4_ fl0 fl1 fl2 fl3) a1.toNatClampNeg a4.toNatClampNeg).toInt = -1 := (by unfold cpyI; rw [if_pos (by omega)]); rw [if_neg (by omega), hc_]; decide) | (have hc_ := hrr_; rw [← cpyI_a (a := (0 : Int32).toInt) (by decide) (by decide)] at hc_; rw [f4_c0, f4_c0, ← hc_]; first | (rw [if_neg (by omega)]; done) | (rw [if_pos (by omega)]; done)) | (have hc_ := hrr_; rw [← cpyI_a (a := (1 : Int32).toInt) (by decide) (by decide)] at hc_; rw [f4_c1, f4_c1, ← hc_]; first | (rw [if_neg (by omega)]; done) | (rw [if_pos (by omega)]; done)) | (have hc_ := hrr_; rw [← cpyI_a (a := (2 : Int32).toInt) (by decide) (by decide)] at hc_; rw [f4_c2, f4_c2, ← hc_]; first | (rw [if_neg (by omega)]; done) | (rw [if_pos (by omega)]; done)) | (have hc_ := hrr_; rw [← cpyI_a (a := (3 : Int32).toInt) (by decide) (by decide)] at hc_; rw [f4_c3, f4_c3, ← hc_]; first | (rw [if_neg (by omega)]; done) | (rw [if_pos (by omega)]; done))), r_9, fn0, fn1, fn2, fn3, (by first | (unfold cpyI; rw [if_pos (by omega)]; first | rfl | decide | omega) | (rw [f4_c0, f4_c0, cpyI_a (by decide) (by decide)]; assumption) | (rw [f4_c1, f4_c1, cpyI_a (by decide) (by decide)]; assumption) | (rw [f4_c2, f4_c2, cpyI_a (by decide) (by decide)]; assumption) | (rw [f4_c3, f4_c3, cpyI_a (by decide) (by decide)]; assumption)), (by first | exact ⟨fun _ => eq4_rf, fun h => absurd h (by first | omega | decide)⟩ | exact ⟨fun h => absurd (by first | omega | decide) h, fun _ => (by rw [f4_c0, ← hq1_]; exact f4_u0)⟩ | exact ⟨fun h => absurd (by first | omega | decide) h, fun _ => (by rw [f4_c1, ← hq1_]; exact f4_u1)⟩ | exact ⟨fun h => absurd (by first | omega | decide) h, fun _ => (by rw [f4_c2, ← hq1_]; exact f4_u2)⟩ | exact ⟨fun h => absurd (by first | omega | decide) h, fun _ => (by rw [f4_c3, ← hq1_]; exact f4_u3)⟩), by rw [ht]; exact hP, hD⟩, hS.F ht⟩) hS.2.2 dB_36_3_9.1.2.2.1
      · refine lv_aload_n hx hb dB_36_3_8.1.2.1.1 rfl (lv_at hl 0 rfl) ?_
        refine va_get (ci := 11) (v := .ref xm) (C := RX11) (T := TX11) (N := 12) hx hb hts (fun _ h => List.mem_cons_of_mem _ (List.mem_append_left _ (List.mem_append_right _ h))) hown hK.1 hP 0 rfl rfl 6 (by decide) (hts (.fieldLink RX11 72 "CutAtlas" "maps" "[LCutAtlas$NumberMap;") (List.mem_of_getElem? (i := 1) rfl)) (fun _ h9 => h9) rfl dB_36_3_8.1.2.1.2 ?_
        refine lv_iload_n hx hb dB_36_3_8.1.2.2.1 rfl (lv_at hl 1 rfl) ?_
        refine va_aldq hx hb hK.1 hP 1 4 rfl rfl (i := 2) (by unfold vp_in; decide) dB_36_3_8.1.2.2.2 ?_
        refine lv_topv (v' := .ref m2) (by simp [va_up, va_rf, mf_, cl_0, cl_1, cl_2, cl_3, cl_4]) ?_
        refine lv_iload_n hx hb dB_36_3_8.2.1.1.1 rfl (lv_at hl 2 rfl) ?_
        refine lv_iload_n hx hb dB_36_3_8.2.1.1.2 rfl (lv_at hl 3 rfl) ?_
        refine lv_iload hx hb dB_36_3_8.2.1.2.1 (lv_at hl 4 rfl) ?_
        refine lv_iload hx hb dB_36_3_8.2.1.2.2 (lv_at hl 5 rfl) ?_
        refine lv_iload hx hb dB_36_3_8.2.2.1.1 (lv_at hl 6 rfl) ?_
        refine ct_R hP hD [ob4_0_ m2 mk2 mr2 l2 u2, ai_ cy l2 6 fl2] [4, 8] (by decide) rfl (fun hPc hDw => ?_)
        have hFc := va_free (wc := []) hD hS hA [] rfl
        refine va_calli (va_runV (As := [.int a2, .int a3, .int a4, .int a5, .int a6]) (rest := [.ref xo]) ⟨hx, hb, hml, hown, hts⟩ (c_X4_moveRefusal2 l D cy H.size m2 l2 u2 mk2 mr2 fl2 a2 a3 a4 a5 a6 (by first | with_reducible assumption | assumption | omega) (by first | with_reducible assumption | assumption | omega)) (cwV 5 hts gX11_copy_X4_moveRefusal rfl rfl rfl ⟨rfl, hd_X4_moveRefusal⟩ ⟨Nat.le_of_ble_eq_true rfl, Nat.le_of_ble_eq_true rfl⟩) ⟨bl_, va_recvX hK.1 hP (ci := 4) (q0 := 4) rfl rfl, fun U hU hW => ⟨rfl, by rw [hU], by rw [hU]; exact hPc, kk_mv hW hK, hDw⟩⟩ rfl rfl hl.1 rfl (lv_room (Nat.le_of_ble_eq_true rfl)) dB_36_3_8.2.2.1.2 ⟨Nat.le_of_ble_eq_true rfl, Nat.le_of_ble_eq_true rfl⟩) hS (fun q _ h => hFc q h) hFc (fun r_14 u t H locs ht hvm hw hB hz1 hk1 hS => ?_)
        have hP : va_P D vwCl _ H := ro_keep hP hk1
        obtain ⟨f0_r_14, f1_r_14⟩ := hw
        have hrr_ := f0_r_14
        refine lv_goto (tgt := 29) hx hb dB_36_3_8.2.2.2.1 (by decide) ?_
        refine va_put (ci := 11) (v := .int r_14) (ty := .int) (C := RX11) (T := TX11) (N := 12) hx hb hts (fun _ h => List.mem_cons_of_mem _ (List.mem_append_left _ (List.mem_append_right _ h))) tyX11 tyX11_ok nmX11 hown hK.1 hP hD hS 0 rfl rfl 11 (by decide) (hts (.fieldLink RX11 91 "CutAtlas" "finding" "I") (List.mem_of_getElem? (i := 2) rfl)) (fun _ h9 => h9) rfl (by decide +kernel) rfl rfl (Nat.le_of_ble_eq_true rfl) dB_36_3_9.1.1.1.1 (fun H locs hP hD hS => ?_)
        refine pd_K [ob11_0_ xo xk xn xc xh xt xw xm xp pf ph tr r_14, aq_ cy 4 xm 4 (mf_ m0 m1 m2 m3), ob4_0_ m0 mk0 mr0 l0 u0, ob4_0_ m1 mk1 mr1 l1 u1, ob4_0_ m2 mk2 mr2 l2 u2, ob4_0_ m3 mk3 mr3 l3 u3, ai_ cy l0 6 fl0, ai_ cy l1 6 fl1, ai_ cy l2 6 fl2, ai_ cy l3 6 fl3, aj_ cy u0 30 fn0, aj_ cy u1 30 fn1, aj_ cy u2 30 fn2, aj_ cy u3 30 fn3] hP hD (fun hP hD => ?_)
        refine lv_aload_n hx hb dB_36_3_9.1.1.1.2 rfl (lv_at hl 0 rfl) ?_
        refine va_get (ci := 11) (v := .int r_14) (C := RX11) (T := TX11) (N := 12) hx hb hts (fun _ h => List.mem_cons_of_mem _ (List.mem_append_left _ (List.mem_append_right _ h))) hown hK.1 hP 0 rfl rfl 11 (by decide) (hts (.fieldLink RX11 91 "CutAtlas" "finding" "I") (List.mem_of_getElem? (i := 2) rfl)) (fun _ h9 => h9) rfl dB_36_3_9.1.1.2.1 ?_
        refine lv_if_eq (tgt := 44) hx hb dB_36_3_9.1.1.2.2 (by decide) (fun c_15 => ?_) (fun c_15 => ?_)
        · have t_15 : r_14.toInt = (0 : Int32).toInt := congrArg Int32.toInt c_15
          refine lv_aload_n hx hb dB_36_3_9.1.2.2.2 rfl (lv_at hl 0 rfl) ?_
          refine va_get (ci := 11) (v := .ref xm) (C := RX11) (T := TX11) (N := 12) hx hb hts (fun _ h => List.mem_cons_of_mem _ (List.mem_append_left _ (List.mem_append_right _ h))) hown hK.1 hP 0 rfl rfl 6 (by decide) (hts (.fieldLink RX11 72 "CutAtlas" "maps" "[LCutAtlas$NumberMap;") (List.mem_of_getElem? (i := 1) rfl)) (fun _ h9 => h9) rfl dB_36_3_9.2.1.1.1 ?_
          refine lv_iload_n hx hb dB_36_3_9.2.1.1.2 rfl (lv_at hl 1 rfl) ?_
          refine va_aldq hx hb hK.1 hP 1 4 rfl rfl (i := 2) (by unfold vp_in; decide) dB_36_3_9.2.1.2.1 ?_
          refine lv_topv (v' := .ref m2) (by simp [va_up, va_rf, mf_, cl_0, cl_1, cl_2, cl_3, cl_4]) ?_
          refine lv_iload_n hx hb dB_36_3_9.2.1.2.2 rfl (lv_at hl 2 rfl) ?_
          refine lv_iload_n hx hb dB_36_3_9.2.2.1.1 rfl (lv_at hl 3 rfl) ?_
          refine lv_iload hx hb dB_36_3_9.2.2.1.2 (lv_at hl 4 rfl) ?_
          refine lv_iload hx hb dB_36_3_9.2.2.2.1 (lv_at hl 5 rfl) ?_
          refine lv_iload hx hb dB_36_3_9.2.2.2.2 (lv_at hl 6 rfl) ?_
          refine ct_S hP hD hS hA [ob4_0_ m2 mk2 mr2 l2 u2, aj_ cy u2 30 fn2] [4, 12] (by decide) rfl (fun hPc hDw hFc hC_ => ?_)
          refine va_callv (va_runV (As := [.int a2, .int a3, .int a4, .int a5, .int a6]) (rest := []) ⟨hx, hb, hml, hown, hts⟩ (c_X4_move2 l D cy H.size m2 l2 u2 mk2 mr2 fn2 a2 a3 a4 a5 a6 (by first | with_reducible assumption | assumption | omega)) (cwV 5 hts gX11_copy_X4_move rfl rfl rfl ⟨rfl, hd_X4_move⟩ ⟨Nat.le_of_ble_eq_true rfl, Nat.le_of_ble_eq_true rfl⟩) ⟨bl_, va_recvX hK.1 hP (ci := 4) (q0 := 4) rfl rfl, fun U hU hW => ⟨rfl, by rw [hU], by rw [hU]; exact hPc, kk_mv hW hK, hDw⟩⟩ rfl rfl hl.1 rfl (lv_room (Nat.le_of_ble_eq_true rfl)) dB_36_3_10.1 ⟨Nat.le_of_ble_eq_true rfl, Nat.le_of_ble_eq_true rfl⟩) hS (fun q _ h => hFc q h) hFc (fun u t H locs ht hvm hw hB hz1 hk1 hS => ?_)
          obtain ⟨efn_17, g_18, hP1, hD1⟩ := hB
          rw [ht] at hP1
          obtain ⟨hP, hD⟩ := va_join (wr := [ob11_0_ xo xk xn xc xh xt xw xm xp pf ph tr r_14, aq_ cy 4 xm 4 (mf_ m0 m1 m2 m3), ob4_0_ m0 mk0 mr0 l0 u0, ob4_0_ m1 mk1 mr1 l1 u1, ob4_0_ m3 mk3 mr3 l3 u3, ai_ cy l0 6 fl0, ai_ cy l1 6 fl1, ai_ cy l2 6 fl2, ai_ cy l3 6 fl3, aj_ cy u0 30 fn0, aj_ cy u1 30 fn1, aj_ cy u3 30 fn3]) (w1 := [ob4_0_ m2 mk2 mr2 l2 u2, aj_ cy u2 30 efn_17]) hP hD [4, 12] [0, 1, 2, 3, 5, 6, 7, 8, 9, 10, 11, 13] hC_ rfl (by decide +kernel) (by decide +kernel) hk1 hFc hP1 hD1
          refine pd_S hP hD [ob11_0_ xo xk xn xc xh xt xw xm xp pf ph tr r_14, aq_ cy 4 xm 4 (mf_ m0 m1 m2 m3), ob4_0_ m0 mk0 mr0 l0 u0, ob4_0_ m1 mk1 mr1 l1 u1, ob4_0_ m2 mk2 mr2 l2 u2, ob4_0_ m3 mk3 mr3 l3 u3, ai_ cy l0 6 fl0, ai_ cy l1 6 fl1, ai_ cy l2 6 fl2, ai_ cy l3 6 fl3, aj_ cy u0 30 fn0, aj_ cy u1 30 fn1, aj_ cy u2 30 efn_17, aj_ cy u3 30 fn3] [0, 1, 2, 3, 12, 4, 5, 6, 7, 8, 9, 10, 13, 11] (by decide +kernel) rfl (fun hP hD => ?_)
          have hq1_ := g_18
          refine lv_iload hx hb dB_36_3_10.2.1 (lv_at hl 6 rfl) ?_
          rw [hQ]
          exact W.iret (v := a6) hx hb hr (fun t ht hW => ⟨⟨a6, (), rfl, (by first | (have hc_ : cpyI a1.toInt a2.toInt a3.toInt a4.toInt a5.toInt a6.toInt (hasI ((f4_ mr0 mr1 mr2 mr3) a1.toNatClampNeg).toInt) ((f4_ mr0 mr1 mr2 mr3) a1.toNatClampNeg).toInt ((f4_ fl0 fl1 fl2 fl3) a1.toNatClampNeg a2.toNatClampNeg).toInt ((f4_ fl0 fl1 fl2 fl3) a1.toNatClampNeg a4.toNatClampNeg).toInt = -1 := (by unfold cpyI; rw [if_pos (by omega)]); rw [if_neg (by omega), hc_]; decide) | (have hc_ := hrr_; rw [← cpyI_a (a := (0 : Int32).toInt) (by decide) (by decide)] at hc_; rw [f4_c0, f4_c0, ← hc_]; first | (rw [if_neg (by omega)]; done) | (rw [if_pos (by omega)]; done)) | (have hc_ := hrr_; rw [← cpyI_a (a := (1 : Int32).toInt) (by decide) (by decide)] at hc_; rw [f4_c1, f4_c1, ← hc_]; first | (rw [if_neg (by omega)]; done) | (rw [if_pos (by omega)]; done)) | (have hc_ := hrr_; rw [← cpyI_a (a := (2 : Int32).toInt) (by decide) (by decide)] at hc_; rw [f4_c2, f4_c2, ← hc_]; first | (rw [if_neg (by omega)]; done) | (rw [if_pos (by omega)]; done)) | (have hc_ := hrr_; rw [← cpyI_a (a := (3 : Int32).toInt) (by decide) (by decide)] at hc_; rw [f4_c3, f4_c3, ← hc_]; first | (rw [if_neg (by omega)]; done) | (rw [if_pos (by omega)]; done))), r_14, fn0, fn1, efn_17, fn3, (by first | (unfold cpyI; rw [if_pos (by omega)]; first | rfl | decide | omega) | (rw [f4_c0, f4_c0, cpyI_a (by decide) (by decide)]; assumption) | (rw [f4_c1, f4_c1, cpyI_a (by decide) (by decide)]; assumption) | (rw [f4_c2, f4_c2, cpyI_a (by decide) (by decide)]; assumption) | (rw [f4_c3, f4_c3, cpyI_a (by decide) (by decide)]; assumption)), (by first | exact ⟨fun _ => eq4_rf, fun h => absurd h (by first | omega | decide)⟩ | exact ⟨fun h => absurd (by first | omega | decide) h, fun _ => (by rw [f4_c0, ← hq1_]; exact f4_u0)⟩ | exact ⟨fun h => absurd (by first | omega | decide) h, fun _ => (by rw [f4_c1, ← hq1_]; exact f4_u1)⟩ | exact ⟨fun h => absurd (by first | omega | decide) h, fun _ => (by rw [f4_c2, ← hq1_]; exact f4_u2)⟩ | exact ⟨fun h => absurd (by first | omega | decide) h, fun _ => (by rw [f4_c3, ← hq1_]; exact f4_u3)⟩), by rw [ht]; exact hP, hD⟩, hS.F ht⟩) hS.2.2 dB_36_3_10.2.2
        · have t_15 : ¬ r_14.toInt = (0 : Int32).toInt := fun h => c_15 (Int32.toInt_inj.mp h)
          refine lv_aload_n hx hb dB_36_3_9.1.2.1.1 rfl (lv_at hl 0 rfl) ?_
          refine va_get (ci := 11) (v := .int r_14) (C := RX11) (T := TX11) (N := 12) hx hb hts (fun _ h => List.mem_cons_of_mem _ (List.mem_append_left _ (List.mem_append_right _ h))) hown hK.1 hP 0 rfl rfl 11 (by decide) (hts (.fieldLink RX11 91 "CutAtlas" "finding" "I") (List.mem_of_getElem? (i := 2) rfl)) (fun _ h9 => h9) rfl dB_36_3_9.1.2.1.2 ?_
          rw [hQ]
          exact W.iret (v := r_14) hx hb hr (fun t ht hW => ⟨⟨r_14, (), rfl, (by first | (have hc_ : cpyI a1.toInt a2.toInt a3.toInt a4.toInt a5.toInt a6.toInt (hasI ((f4_ mr0 mr1 mr2 mr3) a1.toNatClampNeg).toInt) ((f4_ mr0 mr1 mr2 mr3) a1.toNatClampNeg).toInt ((f4_ fl0 fl1 fl2 fl3) a1.toNatClampNeg a2.toNatClampNeg).toInt ((f4_ fl0 fl1 fl2 fl3) a1.toNatClampNeg a4.toNatClampNeg).toInt = -1 := (by unfold cpyI; rw [if_pos (by omega)]); rw [if_neg (by omega), hc_]; decide) | (have hc_ := hrr_; rw [← cpyI_a (a := (0 : Int32).toInt) (by decide) (by decide)] at hc_; rw [f4_c0, f4_c0, ← hc_]; first | (rw [if_neg (by omega)]; done) | (rw [if_pos (by omega)]; done)) | (have hc_ := hrr_; rw [← cpyI_a (a := (1 : Int32).toInt) (by decide) (by decide)] at hc_; rw [f4_c1, f4_c1, ← hc_]; first | (rw [if_neg (by omega)]; done) | (rw [if_pos (by omega)]; done)) | (have hc_ := hrr_; rw [← cpyI_a (a := (2 : Int32).toInt) (by decide) (by decide)] at hc_; rw [f4_c2, f4_c2, ← hc_]; first | (rw [if_neg (by omega)]; done) | (rw [if_pos (by omega)]; done)) | (have hc_ := hrr_; rw [← cpyI_a (a := (3 : Int32).toInt) (by decide) (by decide)] at hc_; rw [f4_c3, f4_c3, ← hc_]; first | (rw [if_neg (by omega)]; done) | (rw [if_pos (by omega)]; done))), r_14, fn0, fn1, fn2, fn3, (by first | (unfold cpyI; rw [if_pos (by omega)]; first | rfl | decide | omega) | (rw [f4_c0, f4_c0, cpyI_a (by decide) (by decide)]; assumption) | (rw [f4_c1, f4_c1, cpyI_a (by decide) (by decide)]; assumption) | (rw [f4_c2, f4_c2, cpyI_a (by decide) (by decide)]; assumption) | (rw [f4_c3, f4_c3, cpyI_a (by decide) (by decide)]; assumption)), (by first | exact ⟨fun _ => eq4_rf, fun h => absurd h (by first | omega | decide)⟩ | exact ⟨fun h => absurd (by first | omega | decide) h, fun _ => (by rw [f4_c0, ← hq1_]; exact f4_u0)⟩ | exact ⟨fun h => absurd (by first | omega | decide) h, fun _ => (by rw [f4_c1, ← hq1_]; exact f4_u1)⟩ | exact ⟨fun h => absurd (by first | omega | decide) h, fun _ => (by rw [f4_c2, ← hq1_]; exact f4_u2)⟩ | exact ⟨fun h => absurd (by first | omega | decide) h, fun _ => (by rw [f4_c3, ← hq1_]; exact f4_u3)⟩), by rw [ht]; exact hP, hD⟩, hS.F ht⟩) hS.2.2 dB_36_3_9.1.2.2.1
      · refine lv_aload_n hx hb dB_36_3_8.1.2.1.1 rfl (lv_at hl 0 rfl) ?_
        refine va_get (ci := 11) (v := .ref xm) (C := RX11) (T := TX11) (N := 12) hx hb hts (fun _ h => List.mem_cons_of_mem _ (List.mem_append_left _ (List.mem_append_right _ h))) hown hK.1 hP 0 rfl rfl 6 (by decide) (hts (.fieldLink RX11 72 "CutAtlas" "maps" "[LCutAtlas$NumberMap;") (List.mem_of_getElem? (i := 1) rfl)) (fun _ h9 => h9) rfl dB_36_3_8.1.2.1.2 ?_
        refine lv_iload_n hx hb dB_36_3_8.1.2.2.1 rfl (lv_at hl 1 rfl) ?_
        refine va_aldq hx hb hK.1 hP 1 4 rfl rfl (i := 3) (by unfold vp_in; decide) dB_36_3_8.1.2.2.2 ?_
        refine lv_topv (v' := .ref m3) (by simp [va_up, va_rf, mf_, cl_0, cl_1, cl_2, cl_3, cl_4]) ?_
        refine lv_iload_n hx hb dB_36_3_8.2.1.1.1 rfl (lv_at hl 2 rfl) ?_
        refine lv_iload_n hx hb dB_36_3_8.2.1.1.2 rfl (lv_at hl 3 rfl) ?_
        refine lv_iload hx hb dB_36_3_8.2.1.2.1 (lv_at hl 4 rfl) ?_
        refine lv_iload hx hb dB_36_3_8.2.1.2.2 (lv_at hl 5 rfl) ?_
        refine lv_iload hx hb dB_36_3_8.2.2.1.1 (lv_at hl 6 rfl) ?_
        refine ct_R hP hD [ob4_0_ m3 mk3 mr3 l3 u3, ai_ cy l3 6 fl3] [5, 9] (by decide) rfl (fun hPc hDw => ?_)
        have hFc := va_free (wc := []) hD hS hA [] rfl
        refine va_calli (va_runV (As := [.int a2, .int a3, .int a4, .int a5, .int a6]) (rest := [.ref xo]) ⟨hx, hb, hml, hown, hts⟩ (c_X4_moveRefusal2 l D cy H.size m3 l3 u3 mk3 mr3 fl3 a2 a3 a4 a5 a6 (by first | with_reducible assumption | assumption | omega) (by first | with_reducible assumption | assumption | omega)) (cwV 5 hts gX11_copy_X4_moveRefusal rfl rfl rfl ⟨rfl, hd_X4_moveRefusal⟩ ⟨Nat.le_of_ble_eq_true rfl, Nat.le_of_ble_eq_true rfl⟩) ⟨bl_, va_recvX hK.1 hP (ci := 4) (q0 := 5) rfl rfl, fun U hU hW => ⟨rfl, by rw [hU], by rw [hU]; exact hPc, kk_mv hW hK, hDw⟩⟩ rfl rfl hl.1 rfl (lv_room (Nat.le_of_ble_eq_true rfl)) dB_36_3_8.2.2.1.2 ⟨Nat.le_of_ble_eq_true rfl, Nat.le_of_ble_eq_true rfl⟩) hS (fun q _ h => hFc q h) hFc (fun r_19 u t H locs ht hvm hw hB hz1 hk1 hS => ?_)
        have hP : va_P D vwCl _ H := ro_keep hP hk1
        obtain ⟨f0_r_19, f1_r_19⟩ := hw
        have hrr_ := f0_r_19
        refine lv_goto (tgt := 29) hx hb dB_36_3_8.2.2.2.1 (by decide) ?_
        refine va_put (ci := 11) (v := .int r_19) (ty := .int) (C := RX11) (T := TX11) (N := 12) hx hb hts (fun _ h => List.mem_cons_of_mem _ (List.mem_append_left _ (List.mem_append_right _ h))) tyX11 tyX11_ok nmX11 hown hK.1 hP hD hS 0 rfl rfl 11 (by decide) (hts (.fieldLink RX11 91 "CutAtlas" "finding" "I") (List.mem_of_getElem? (i := 2) rfl)) (fun _ h9 => h9) rfl (by decide +kernel) rfl rfl (Nat.le_of_ble_eq_true rfl) dB_36_3_9.1.1.1.1 (fun H locs hP hD hS => ?_)
        refine pd_K [ob11_0_ xo xk xn xc xh xt xw xm xp pf ph tr r_19, aq_ cy 4 xm 4 (mf_ m0 m1 m2 m3), ob4_0_ m0 mk0 mr0 l0 u0, ob4_0_ m1 mk1 mr1 l1 u1, ob4_0_ m2 mk2 mr2 l2 u2, ob4_0_ m3 mk3 mr3 l3 u3, ai_ cy l0 6 fl0, ai_ cy l1 6 fl1, ai_ cy l2 6 fl2, ai_ cy l3 6 fl3, aj_ cy u0 30 fn0, aj_ cy u1 30 fn1, aj_ cy u2 30 fn2, aj_ cy u3 30 fn3] hP hD (fun hP hD => ?_)
        refine lv_aload_n hx hb dB_36_3_9.1.1.1.2 rfl (lv_at hl 0 rfl) ?_
        refine va_get (ci := 11) (v := .int r_19) (C := RX11) (T := TX11) (N := 12) hx hb hts (fun _ h => List.mem_cons_of_mem _ (List.mem_append_left _ (List.mem_append_right _ h))) hown hK.1 hP 0 rfl rfl 11 (by decide) (hts (.fieldLink RX11 91 "CutAtlas" "finding" "I") (List.mem_of_getElem? (i := 2) rfl)) (fun _ h9 => h9) rfl dB_36_3_9.1.1.2.1 ?_
        refine lv_if_eq (tgt := 44) hx hb dB_36_3_9.1.1.2.2 (by decide) (fun c_20 => ?_) (fun c_20 => ?_)
        · have t_20 : r_19.toInt = (0 : Int32).toInt := congrArg Int32.toInt c_20
          refine lv_aload_n hx hb dB_36_3_9.1.2.2.2 rfl (lv_at hl 0 rfl) ?_
          refine va_get (ci := 11) (v := .ref xm) (C := RX11) (T := TX11) (N := 12) hx hb hts (fun _ h => List.mem_cons_of_mem _ (List.mem_append_left _ (List.mem_append_right _ h))) hown hK.1 hP 0 rfl rfl 6 (by decide) (hts (.fieldLink RX11 72 "CutAtlas" "maps" "[LCutAtlas$NumberMap;") (List.mem_of_getElem? (i := 1) rfl)) (fun _ h9 => h9) rfl dB_36_3_9.2.1.1.1 ?_
          refine lv_iload_n hx hb dB_36_3_9.2.1.1.2 rfl (lv_at hl 1 rfl) ?_
          refine va_aldq hx hb hK.1 hP 1 4 rfl rfl (i := 3) (by unfold vp_in; decide) dB_36_3_9.2.1.2.1 ?_
          refine lv_topv (v' := .ref m3) (by simp [va_up, va_rf, mf_, cl_0, cl_1, cl_2, cl_3, cl_4]) ?_
          refine lv_iload_n hx hb dB_36_3_9.2.1.2.2 rfl (lv_at hl 2 rfl) ?_
          refine lv_iload_n hx hb dB_36_3_9.2.2.1.1 rfl (lv_at hl 3 rfl) ?_
          refine lv_iload hx hb dB_36_3_9.2.2.1.2 (lv_at hl 4 rfl) ?_
          refine lv_iload hx hb dB_36_3_9.2.2.2.1 (lv_at hl 5 rfl) ?_
          refine lv_iload hx hb dB_36_3_9.2.2.2.2 (lv_at hl 6 rfl) ?_
          refine ct_S hP hD hS hA [ob4_0_ m3 mk3 mr3 l3 u3, aj_ cy u3 30 fn3] [5, 13] (by decide) rfl (fun hPc hDw hFc hC_ => ?_)
          refine va_callv (va_runV (As := [.int a2, .int a3, .int a4, .int a5, .int a6]) (rest := []) ⟨hx, hb, hml, hown, hts⟩ (c_X4_move2 l D cy H.size m3 l3 u3 mk3 mr3 fn3 a2 a3 a4 a5 a6 (by first | with_reducible assumption | assumption | omega)) (cwV 5 hts gX11_copy_X4_move rfl rfl rfl ⟨rfl, hd_X4_move⟩ ⟨Nat.le_of_ble_eq_true rfl, Nat.le_of_ble_eq_true rfl⟩) ⟨bl_, va_recvX hK.1 hP (ci := 4) (q0 := 5) rfl rfl, fun U hU hW => ⟨rfl, by rw [hU], by rw [hU]; exact hPc, kk_mv hW hK, hDw⟩⟩ rfl rfl hl.1 rfl (lv_room (Nat.le_of_ble_eq_true rfl)) dB_36_3_10.1 ⟨Nat.le_of_ble_eq_true rfl, Nat.le_of_ble_eq_true rfl⟩) hS (fun q _ h => hFc q h) hFc (fun u t H locs ht hvm hw hB hz1 hk1 hS => ?_)
          obtain ⟨efn_22, g_23, hP1, hD1⟩ := hB
          rw [ht] at hP1
          obtain ⟨hP, hD⟩ := va_join (wr := [ob11_0_ xo xk xn xc xh xt xw xm xp pf ph tr r_19, aq_ cy 4 xm 4 (mf_ m0 m1 m2 m3), ob4_0_ m0 mk0 mr0 l0 u0, ob4_0_ m1 mk1 mr1 l1 u1, ob4_0_ m2 mk2 mr2 l2 u2, ai_ cy l0 6 fl0, ai_ cy l1 6 fl1, ai_ cy l2 6 fl2, ai_ cy l3 6 fl3, aj_ cy u0 30 fn0, aj_ cy u1 30 fn1, aj_ cy u2 30 fn2]) (w1 := [ob4_0_ m3 mk3 mr3 l3 u3, aj_ cy u3 30 efn_22]) hP hD [5, 13] [0, 1, 2, 3, 4, 6, 7, 8, 9, 10, 11, 12] hC_ rfl (by decide +kernel) (by decide +kernel) hk1 hFc hP1 hD1
          refine pd_S hP hD [ob11_0_ xo xk xn xc xh xt xw xm xp pf ph tr r_19, aq_ cy 4 xm 4 (mf_ m0 m1 m2 m3), ob4_0_ m0 mk0 mr0 l0 u0, ob4_0_ m1 mk1 mr1 l1 u1, ob4_0_ m2 mk2 mr2 l2 u2, ob4_0_ m3 mk3 mr3 l3 u3, ai_ cy l0 6 fl0, ai_ cy l1 6 fl1, ai_ cy l2 6 fl2, ai_ cy l3 6 fl3, aj_ cy u0 30 fn0, aj_ cy u1 30 fn1, aj_ cy u2 30 fn2, aj_ cy u3 30 efn_22] [0, 1, 2, 3, 4, 12, 5, 6, 7, 8, 9, 10, 11, 13] (by decide +kernel) rfl (fun hP hD => ?_)
          have hq1_ := g_23
          refine lv_iload hx hb dB_36_3_10.2.1 (lv_at hl 6 rfl) ?_
          rw [hQ]
          exact W.iret (v := a6) hx hb hr (fun t ht hW => ⟨⟨a6, (), rfl, (by first | (have hc_ : cpyI a1.toInt a2.toInt a3.toInt a4.toInt a5.toInt a6.toInt (hasI ((f4_ mr0 mr1 mr2 mr3) a1.toNatClampNeg).toInt) ((f4_ mr0 mr1 mr2 mr3) a1.toNatClampNeg).toInt ((f4_ fl0 fl1 fl2 fl3) a1.toNatClampNeg a2.toNatClampNeg).toInt ((f4_ fl0 fl1 fl2 fl3) a1.toNatClampNeg a4.toNatClampNeg).toInt = -1 := (by unfold cpyI; rw [if_pos (by omega)]); rw [if_neg (by omega), hc_]; decide) | (have hc_ := hrr_; rw [← cpyI_a (a := (0 : Int32).toInt) (by decide) (by decide)] at hc_; rw [f4_c0, f4_c0, ← hc_]; first | (rw [if_neg (by omega)]; done) | (rw [if_pos (by omega)]; done)) | (have hc_ := hrr_; rw [← cpyI_a (a := (1 : Int32).toInt) (by decide) (by decide)] at hc_; rw [f4_c1, f4_c1, ← hc_]; first | (rw [if_neg (by omega)]; done) | (rw [if_pos (by omega)]; done)) | (have hc_ := hrr_; rw [← cpyI_a (a := (2 : Int32).toInt) (by decide) (by decide)] at hc_; rw [f4_c2, f4_c2, ← hc_]; first | (rw [if_neg (by omega)]; done) | (rw [if_pos (by omega)]; done)) | (have hc_ := hrr_; rw [← cpyI_a (a := (3 : Int32).toInt) (by decide) (by decide)] at hc_; rw [f4_c3, f4_c3, ← hc_]; first | (rw [if_neg (by omega)]; done) | (rw [if_pos (by omega)]; done))), r_19, fn0, fn1, fn2, efn_22, (by first | (unfold cpyI; rw [if_pos (by omega)]; first | rfl | decide | omega) | (rw [f4_c0, f4_c0, cpyI_a (by decide) (by decide)]; assumption) | (rw [f4_c1, f4_c1, cpyI_a (by decide) (by decide)]; assumption) | (rw [f4_c2, f4_c2, cpyI_a (by decide) (by decide)]; assumption) | (rw [f4_c3, f4_c3, cpyI_a (by decide) (by decide)]; assumption)), (by first | exact ⟨fun _ => eq4_rf, fun h => absurd h (by first | omega | decide)⟩ | exact ⟨fun h => absurd (by first | omega | decide) h, fun _ => (by rw [f4_c0, ← hq1_]; exact f4_u0)⟩ | exact ⟨fun h => absurd (by first | omega | decide) h, fun _ => (by rw [f4_c1, ← hq1_]; exact f4_u1)⟩ | exact ⟨fun h => absurd (by first | omega | decide) h, fun _ => (by rw [f4_c2, ← hq1_]; exact f4_u2)⟩ | exact ⟨fun h => absurd (by first | omega | decide) h, fun _ => (by rw [f4_c3, ← hq1_]; exact f4_u3)⟩), by rw [ht]; exact hP, hD⟩, hS.F ht⟩) hS.2.2 dB_36_3_10.2.2
        · have t_20 : ¬ r_19.toInt = (0 : Int32).toInt := fun h => c_20 (Int32.toInt_inj.mp h)
          refine lv_aload_n hx hb dB_36_3_9.1.2.1.1 rfl (lv_at hl 0 rfl) ?_
          refine va_get (ci := 11) (v := .int r_19) (C := RX11) (T := TX11) (N := 12) hx hb hts (fun _ h => List.mem_cons_of_mem _ (List.mem_append_left _ (List.mem_append_right _ h))) hown hK.1 hP 0 rfl rfl 11 (by decide) (hts (.fieldLink RX11 91 "CutAtlas" "finding" "I") (List.mem_of_getElem? (i := 2) rfl)) (fun _ h9 => h9) rfl dB_36_3_9.1.2.1.2 ?_
          rw [hQ]
          exact W.iret (v := r_19) hx hb hr (fun t ht hW => ⟨⟨r_19, (), rfl, (by first | (have hc_ : cpyI a1.toInt a2.toInt a3.toInt a4.toInt a5.toInt a6.toInt (hasI ((f4_ mr0 mr1 mr2 mr3) a1.toNatClampNeg).toInt) ((f4_ mr0 mr1 mr2 mr3) a1.toNatClampNeg).toInt ((f4_ fl0 fl1 fl2 fl3) a1.toNatClampNeg a2.toNatClampNeg).toInt ((f4_ fl0 fl1 fl2 fl3) a1.toNatClampNeg a4.toNatClampNeg).toInt = -1 := (by unfold cpyI; rw [if_pos (by omega)]); rw [if_neg (by omega), hc_]; decide) | (have hc_ := hrr_; rw [← cpyI_a (a := (0 : Int32).toInt) (by decide) (by decide)] at hc_; rw [f4_c0, f4_c0, ← hc_]; first | (rw [if_neg (by omega)]; done) | (rw [if_pos (by omega)]; done)) | (have hc_ := hrr_; rw [← cpyI_a (a := (1 : Int32).toInt) (by decide) (by decide)] at hc_; rw [f4_c1, f4_c1, ← hc_]; first | (rw [if_neg (by omega)]; done) | (rw [if_pos (by omega)]; done)) | (have hc_ := hrr_; rw [← cpyI_a (a := (2 : Int32).toInt) (by decide) (by decide)] at hc_; rw [f4_c2, f4_c2, ← hc_]; first | (rw [if_neg (by omega)]; done) | (rw [if_pos (by omega)]; done)) | (have hc_ := hrr_; rw [← cpyI_a (a := (3 : Int32).toInt) (by decide) (by decide)] at hc_; rw [f4_c3, f4_c3, ← hc_]; first | (rw [if_neg (by omega)]; done) | (rw [if_pos (by omega)]; done))), r_19, fn0, fn1, fn2, fn3, (by first | (unfold cpyI; rw [if_pos (by omega)]; first | rfl | decide | omega) | (rw [f4_c0, f4_c0, cpyI_a (by decide) (by decide)]; assumption) | (rw [f4_c1, f4_c1, cpyI_a (by decide) (by decide)]; assumption) | (rw [f4_c2, f4_c2, cpyI_a (by decide) (by decide)]; assumption) | (rw [f4_c3, f4_c3, cpyI_a (by decide) (by decide)]; assumption)), (by first | exact ⟨fun _ => eq4_rf, fun h => absurd h (by first | omega | decide)⟩ | exact ⟨fun h => absurd (by first | omega | decide) h, fun _ => (by rw [f4_c0, ← hq1_]; exact f4_u0)⟩ | exact ⟨fun h => absurd (by first | omega | decide) h, fun _ => (by rw [f4_c1, ← hq1_]; exact f4_u1)⟩ | exact ⟨fun h => absurd (by first | omega | decide) h, fun _ => (by rw [f4_c2, ← hq1_]; exact f4_u2)⟩ | exact ⟨fun h => absurd (by first | omega | decide) h, fun _ => (by rw [f4_c3, ← hq1_]; exact f4_u3)⟩), by rw [ht]; exact hP, hD⟩, hS.F ht⟩) hS.2.2 dB_36_3_9.1.2.2.1
  · have e_ := e_.symm
    subst e_
    refine lv_if_eq (tgt := 28) hx hb dB_36_3_8.1.1.2.2 (by decide) (fun c_24 => ?_) (fun c_24 => ?_)
    · have _ := c_24
      refine lv_iconst (v := (-1)) hx hb dB_36_3_8.2.2.2.2 (by decide) ?_
      refine va_put (ci := 11) (v := .int (-1)) (ty := .int) (C := RX11) (T := TX11) (N := 12) hx hb hts (fun _ h => List.mem_cons_of_mem _ (List.mem_append_left _ (List.mem_append_right _ h))) tyX11 tyX11_ok nmX11 hown hK.1 hP hD hS 0 rfl rfl 11 (by decide) (hts (.fieldLink RX11 91 "CutAtlas" "finding" "I") (List.mem_of_getElem? (i := 2) rfl)) (fun _ h9 => h9) rfl (by decide +kernel) rfl rfl (Nat.le_of_ble_eq_true rfl) dB_36_3_9.1.1.1.1 (fun H locs hP hD hS => ?_)
      refine pd_K [ob11_0_ xo xk xn xc xh xt xw xm xp pf ph tr (-1), aq_ cy 4 xm 4 (mf_ m0 m1 m2 m3), ob4_0_ m0 mk0 mr0 l0 u0, ob4_0_ m1 mk1 mr1 l1 u1, ob4_0_ m2 mk2 mr2 l2 u2, ob4_0_ m3 mk3 mr3 l3 u3, ai_ cy l0 6 fl0, ai_ cy l1 6 fl1, ai_ cy l2 6 fl2, ai_ cy l3 6 fl3, aj_ cy u0 30 fn0, aj_ cy u1 30 fn1, aj_ cy u2 30 fn2, aj_ cy u3 30 fn3] hP hD (fun hP hD => ?_)
      refine lv_aload_n hx hb dB_36_3_9.1.1.1.2 rfl (lv_at hl 0 rfl) ?_
      refine va_get (ci := 11) (v := .int (-1)) (C := RX11) (T := TX11) (N := 12) hx hb hts (fun _ h => List.mem_cons_of_mem _ (List.mem_append_left _ (List.mem_append_right _ h))) hown hK.1 hP 0 rfl rfl 11 (by decide) (hts (.fieldLink RX11 91 "CutAtlas" "finding" "I") (List.mem_of_getElem? (i := 2) rfl)) (fun _ h9 => h9) rfl dB_36_3_9.1.1.2.1 ?_
      refine lv_if_eq (tgt := 44) hx hb dB_36_3_9.1.1.2.2 (by decide) (fun c_25 => ?_) (fun c_25 => ?_)
      · exact absurd c_25 (by decide)
      · have _ := c_25
        refine lv_aload_n hx hb dB_36_3_9.1.2.1.1 rfl (lv_at hl 0 rfl) ?_
        refine va_get (ci := 11) (v := .int (-1)) (C := RX11) (T := TX11) (N := 12) hx hb hts (fun _ h => List.mem_cons_of_mem _ (List.mem_append_left _ (List.mem_append_right _ h))) hown hK.1 hP 0 rfl rfl 11 (by decide) (hts (.fieldLink RX11 91 "CutAtlas" "finding" "I") (List.mem_of_getElem? (i := 2) rfl)) (fun _ h9 => h9) rfl dB_36_3_9.1.2.1.2 ?_
        rw [hQ]
        exact W.iret (v := (-1)) hx hb hr (fun t ht hW => ⟨⟨(-1), (), rfl, (by first | (have hc_ : cpyI a1.toInt a2.toInt a3.toInt a4.toInt a5.toInt a6.toInt (hasI ((f4_ mr0 mr1 mr2 mr3) a1.toNatClampNeg).toInt) ((f4_ mr0 mr1 mr2 mr3) a1.toNatClampNeg).toInt ((f4_ fl0 fl1 fl2 fl3) a1.toNatClampNeg a2.toNatClampNeg).toInt ((f4_ fl0 fl1 fl2 fl3) a1.toNatClampNeg a4.toNatClampNeg).toInt = -1 := (by unfold cpyI; rw [if_pos (by omega)]); rw [if_neg (by omega), hc_]; decide) | (have hc_ := hrr_; rw [← cpyI_a (a := (0 : Int32).toInt) (by decide) (by decide)] at hc_; rw [f4_c0, f4_c0, ← hc_]; first | (rw [if_neg (by omega)]; done) | (rw [if_pos (by omega)]; done)) | (have hc_ := hrr_; rw [← cpyI_a (a := (1 : Int32).toInt) (by decide) (by decide)] at hc_; rw [f4_c1, f4_c1, ← hc_]; first | (rw [if_neg (by omega)]; done) | (rw [if_pos (by omega)]; done)) | (have hc_ := hrr_; rw [← cpyI_a (a := (2 : Int32).toInt) (by decide) (by decide)] at hc_; rw [f4_c2, f4_c2, ← hc_]; first | (rw [if_neg (by omega)]; done) | (rw [if_pos (by omega)]; done)) | (have hc_ := hrr_; rw [← cpyI_a (a := (3 : Int32).toInt) (by decide) (by decide)] at hc_; rw [f4_c3, f4_c3, ← hc_]; first | (rw [if_neg (by omega)]; done) | (rw [if_pos (by omega)]; done))), ((-1) : Int32), fn0, fn1, fn2, fn3, (by first | (unfold cpyI; rw [if_pos (by omega)]; first | rfl | decide | omega) | (rw [f4_c0, f4_c0, cpyI_a (by decide) (by decide)]; assumption) | (rw [f4_c1, f4_c1, cpyI_a (by decide) (by decide)]; assumption) | (rw [f4_c2, f4_c2, cpyI_a (by decide) (by decide)]; assumption) | (rw [f4_c3, f4_c3, cpyI_a (by decide) (by decide)]; assumption)), (by first | exact ⟨fun _ => eq4_rf, fun h => absurd h (by first | omega | decide)⟩ | exact ⟨fun h => absurd (by first | omega | decide) h, fun _ => (by rw [f4_c0, ← hq1_]; exact f4_u0)⟩ | exact ⟨fun h => absurd (by first | omega | decide) h, fun _ => (by rw [f4_c1, ← hq1_]; exact f4_u1)⟩ | exact ⟨fun h => absurd (by first | omega | decide) h, fun _ => (by rw [f4_c2, ← hq1_]; exact f4_u2)⟩ | exact ⟨fun h => absurd (by first | omega | decide) h, fun _ => (by rw [f4_c3, ← hq1_]; exact f4_u3)⟩), by rw [ht]; exact hP, hD⟩, hS.F ht⟩) hS.2.2 dB_36_3_9.1.2.2.1
    · exact absurd c_24 (by decide)
end

section
theorem cpd_st {f g g2 : Nat → Int64} {b : Int} {k k2 y : Int32} {v : Int64} (h : ∀ q : Nat, (q : Int) < k.toInt → g q = f (b + q).toNat) (e : g2 = vp_updL g k.toNatClampNeg v) (ev : v = f y.toNatClampNeg) (hy : y.toInt = b + k.toInt) (hk : 0 ≤ k.toInt) (e2 : k2.toInt = k.toInt + 1) : ∀ q : Nat, (q : Int) < k2.toInt → g2 q = f (b + q).toNat := fun q hq => by
  have c := clI (i := k) hk
  rw [e]
  by_cases z : q = k.toNatClampNeg
  · rw [z, pk_uLs, ev, ixn hy, c]
  · rw [pk_uLn z]
    exact h q (by omega)
theorem cpe_st {f t g g2 : Nat → Int64} {b d : Int} {k k2 y n : Int32} {v : Int64} (ht : ∀ q : Nat, (q : Int) < n.toInt → t q = f (b + q).toNat) (h : ∀ q : Nat, g q = if d ≤ (q : Int) ∧ (q : Int) < d + k.toInt then f (b + ((q : Int) - d)).toNat else f q) (e : g2 = vp_updL g y.toNatClampNeg v) (ev : v = t k.toNatClampNeg) (hy : y.toInt = d + k.toInt) (hk : 0 ≤ k.toInt) (hn : k.toInt < n.toInt) (hd : 0 ≤ d) (e2 : k2.toInt = k.toInt + 1) : ∀ q : Nat, g2 q = if d ≤ (q : Int) ∧ (q : Int) < d + k2.toInt then f (b + ((q : Int) - d)).toNat else f q := fun q => by
  have c := clI (i := k) hk
  have cy := clI (i := y) (by omega)
  rw [e]
  by_cases z : q = y.toNatClampNeg
  · rw [z, pk_uLs, ev, ht _ (by omega), if_pos (by omega), show b + ((k.toNatClampNeg : Nat) : Int) = b + (((y.toNatClampNeg : Nat) : Int) - d) by omega]
  · rw [pk_uLn z, h q]
    by_cases w : d ≤ (q : Int) ∧ (q : Int) < d + k.toInt
    · rw [if_pos w, if_pos (by omega)]
    · rw [if_neg w, if_neg (by omega)]
theorem cpe0 {f : Nat → Int64} {b d : Int} : ∀ q : Nat, f q = if d ≤ (q : Int) ∧ (q : Int) < d + (0 : Int32).toInt then f (b + ((q : Int) - d)).toNat else f q := fun q => by
  have z : (0 : Int32).toInt = 0 := by decide
  rw [if_neg (by omega)]

set_option maxHeartbeats 4000000 in
set_option maxRecDepth 100000 in
theorem c_X12_no2 (l : Launch) (D : va_G) (cy : Nat → ClassId) (sz : Nat) (mo : Nat) (g5 : Nat) (g6 : Nat) (g7 : Nat) (g8 : Nat) (g9 : Nat) (g10 : Nat) (g12 : Nat) (g13 : Nat) (g14 : Nat) (g15 : Nat) (g16 : Nat) (g17 : Nat) (g18 : Nat) (g19 : Nat) (g20 : Nat) (g22 : Nat) (g23 : Nat) (g24 : Nat) (g29 : Nat) (g30 : Nat) (g31 : Nat) (g32 : Nat) (g33 : Nat) (s0 : Int32) (s1 : Int32) (s3 : Int32) (s4 : Int32) (s11 : Int32) (s21 : Int32) (s25 : Int32) (s26 : Int32) (s27 : Int32) (s28 : Int32) (t2 : Int64) (a1 : Int32) : Met l yX12_no wsX12_no ({ frames := 0, cells := 0, slots := 0, locals := 0 }) (va_Pc [.ref mo, .int a1] (fun U => U.heap.size = sz ∧ va_P D vwCl [ob12_0_ mo s0 s1 t2 s3 s4 g5 g6 g7 g8 g9 g10 s11 g12 g13 g14 g15 g16 g17 g18 g19 g20 s21 g22 g23 g24 s25 s26 s27 s28 g29 g30 g31 g32 g33] U.heap ∧ kk_ D cy U ∧ va_D (fun _ => True) [ob12_0_ mo s0 s1 t2 s3 s4 g5 g6 g7 g8 g9 g10 s11 g12 g13 g14 g15 g16 g17 g18 g19 g20 s21 g22 g23 g24 s25 s26 s27 s28 g29 g30 g31 g32 g33])) (va_Qi (fun (r : Int32) (_ : Unit) => (r = a1)) (fun (_ : Unit) (t : State) => ∃ (n1 : Int32), (n1 = a1) ∧ va_P D vwCl [ob12_0_ mo s0 n1 t2 s3 s4 g5 g6 g7 g8 g9 g10 s11 g12 g13 g14 g15 g16 g17 g18 g19 g20 s21 g22 g23 g24 s25 s26 s27 s28 g29 g30 g31 g32 g33] t.heap ∧ va_D (va_A [ob12_0_ mo s0 s1 t2 s3 s4 g5 g6 g7 g8 g9 g10 s11 g12 g13 g14 g15 g16 g17 g18 g19 g20 s21 g22 g23 g24 s25 s26 s27 s28 g29 g30 g31 g32 g33] sz) [ob12_0_ mo s0 n1 t2 s3 s4 g5 g6 g7 g8 g9 g10 s11 g12 g13 g14 g15 g16 g17 g18 g19 g20 s21 g22 g23 g24 s25 s26 s27 s28 g29 g30 g31 g32 g33]) (va_A [ob12_0_ mo s0 s1 t2 s3 s4 g5 g6 g7 g8 g9 g10 s11 g12 g13 g14 g15 g16 g17 g18 g19 g20 s21 g22 g23 g24 s25 s26 s27 s28 g29 g30 g31 g32 g33] sz)) 0 0 (va_A [ob12_0_ mo s0 s1 t2 s3 s4 g5 g6 g7 g8 g9 g10 s11 g12 g13 g14 g15 g16 g17 g18 g19 g20 s21 g22 g23 g24 s25 s26 s27 s28 g29 g30 g31 g32 g33] sz) := by
  refine ofQ (cc := cX12_no) (maxL := 2) (ret := (some .int)) (by decide) rfl ?_
  intro p e s m args below meth c s₁ Q hQ B hml hv
  obtain ⟨rfl, hsz, hP, hK, hD0⟩ := hv
  have hx := B.exec
  have hb := B.bytes
  have hr := B.returns
  have hts := atoms_spec (ws := wsX12_no) B.pre
  have hown : s.vm.findClass RX12 = some m.cls := by have h_ := findClass_of_methodNamed B.named; exact h_
  have hlocks := B.notSynchronized
  subst hsz
  have hD := hD0.self (sz := s.heap.size)
  generalize hAe : va_A [ob12_0_ mo s0 s1 t2 s3 s4 g5 g6 g7 g8 g9 g10 s11 g12 g13 g14 g15 g16 g17 g18 g19 g20 s21 g22 g23 g24 s25 s26 s27 s28 g29 g30 g31 g32 g33] s.heap.size = A at hD hQ
  have hA : ∀ q : Nat, s.heap.size ≤ q → A q := fun q h => by rw [← hAe]; exact Or.inr h
  have hS : va_S A s.heap s.heap [] := va_S.rf
  have hl := lv_entry ([.ref mo, .int a1]) (n := 2) (Nat.le_of_ble_eq_true rfl)
  rw [lg_entry_eq]
  generalize (lg_sl ([.ref mo, .int a1]) ++ List.replicate (2 - (lg_sl ([.ref mo, .int a1])).length) Slot.unset).toArray = ls at hl ⊢
  have hl : lv_has ls 2 [(0, .ref mo), (1, .int a1)] := hl
  refine lv_aload_n hx hb dB_3_3_26.1.1 rfl (lv_at hl 0 rfl) ?_
  refine lv_iload_n hx hb dB_3_3_26.1.2 rfl (lv_at hl 1 rfl) ?_
  refine va_put (ci := 12) (v := .int a1) (ty := .int) (C := RX12) (T := TX12) (N := 34) hx hb hts (fun _ h => List.mem_cons_of_mem _ (List.mem_append_right _ h)) tyX12 tyX12_ok nmX12 hown hK.1 hP hD hS 0 rfl rfl 1 (by decide) (hts (.fieldLink RX12 240 "CutAtlasModel" "status" "I") (List.mem_of_getElem? (i := 1) rfl)) (fun _ h9 => h9) rfl (by decide +kernel) rfl rfl (Nat.le_of_ble_eq_true rfl) dB_3_3_26.2.1 (fun H locs hP hD hS => ?_)
  refine pd_K [ob12_0_ mo s0 a1 t2 s3 s4 g5 g6 g7 g8 g9 g10 s11 g12 g13 g14 g15 g16 g17 g18 g19 g20 s21 g22 g23 g24 s25 s26 s27 s28 g29 g30 g31 g32 g33] hP hD (fun hP hD => ?_)
  refine lv_iload_n hx hb dB_3_3_26.2.2.1 rfl (lv_at hl 1 rfl) ?_
  rw [hQ]
  exact W.iret (v := a1) hx hb hr (fun t ht hW => ⟨⟨a1, (), rfl, (rfl), a1, (rfl), by rw [ht]; exact hP, hD⟩, hS.F ht⟩) hS.2.2 dB_3_3_26.2.2.2

set_option maxHeartbeats 4000000 in
set_option maxRecDepth 100000 in
theorem c_X12_wrong2 (l : Launch) (D : va_G) (cy : Nat → ClassId) (sz : Nat) (mo : Nat) (g5 : Nat) (g6 : Nat) (g7 : Nat) (g8 : Nat) (g9 : Nat) (g10 : Nat) (g12 : Nat) (g13 : Nat) (g14 : Nat) (g15 : Nat) (g16 : Nat) (g17 : Nat) (g18 : Nat) (g19 : Nat) (g20 : Nat) (g22 : Nat) (g23 : Nat) (g24 : Nat) (g29 : Nat) (g30 : Nat) (g31 : Nat) (g32 : Nat) (g33 : Nat) (s0 : Int32) (s1 : Int32) (s3 : Int32) (s4 : Int32) (s11 : Int32) (s21 : Int32) (s25 : Int32) (s26 : Int32) (s27 : Int32) (s28 : Int32) (t2 : Int64) (f15 : Nat → Int32) (f16 : Nat → Int32) (f17 : Nat → Int32) (f18 : Nat → Int32) (a1 : Int32) (a2 : Int32) (a3 : Int32) (a4 : Int32) (hlk : lok f18 24) (r_f17 : rng f17 4 (0) (6)) (r_f18 : rng f18 24 (-9) (5)) : Met l yX12_wrong wsX12_wrong ({ frames := 1, cells := 0, slots := 0, locals := 25 }) (va_Pc [.ref mo, .int a1, .int a2, .int a3, .int a4] (fun U => U.heap.size = sz ∧ va_P D vwCl [ob12_0_ mo s0 s1 t2 s3 s4 g5 g6 g7 g8 g9 g10 s11 g12 g13 g14 g15 g16 g17 g18 g19 g20 s21 g22 g23 g24 s25 s26 s27 s28 g29 g30 g31 g32 g33, az_ cy g15 4 f15, ai_ cy g16 4 f16, ai_ cy g17 4 f17, ai_ cy g18 24 f18] U.heap ∧ kk_ D cy U ∧ va_D (fun _ => True) [ob12_0_ mo s0 s1 t2 s3 s4 g5 g6 g7 g8 g9 g10 s11 g12 g13 g14 g15 g16 g17 g18 g19 g20 s21 g22 g23 g24 s25 s26 s27 s28 g29 g30 g31 g32 g33, az_ cy g15 4 f15, ai_ cy g16 4 f16, ai_ cy g17 4 f17, ai_ cy g18 24 f18])) (va_Qi (fun (r : Int32) (_ : Unit) => (r.toInt = wrgI a1.toInt a2.toInt a3.toInt a4.toInt (f15 a1.toNatClampNeg).toInt (f16 a1.toNatClampNeg).toInt (f17 a1.toNatClampNeg).toInt (f18 (6 * a1.toInt + a3.toInt).toNat).toInt) ∧ (r.toInt < 0 ∨ (r.toInt = 0 ∧ ((0 ≤ a1.toInt ∧ a1.toInt < 4) ∧ (0 ≤ a2.toInt ∧ a2.toInt < 3)) ∧ (0 ≤ a3.toInt ∧ a3.toInt ≤ 5) ∧ (0 ≤ a4.toInt ∧ a4.toInt ≤ 4)))) (fun (_ : Unit) (_ : State) => True) (va_A [] sz)) 0 0 (va_A [] sz) := by
  refine ofQ (cc := cX12_wrong) (maxL := 6) (ret := (some .int)) (by decide) rfl ?_
  intro p e s m args below meth c s₁ Q hQ B hml hv
  obtain ⟨rfl, hsz, hP, hK, hD0⟩ := hv
  have hx := B.exec
  have hb := B.bytes
  have hr := B.returns
  have hts := atoms_spec (ws := wsX12_wrong) B.pre
  have hown : s.vm.findClass RX12 = some m.cls := by have h_ := findClass_of_methodNamed B.named; exact h_
  have hlocks := B.notSynchronized
  subst hsz
  have hD : va_D (va_A [] s.heap.size) [] := dd_nil
  generalize hAe : va_A [] s.heap.size = A at hD hQ
  have hA : ∀ q : Nat, s.heap.size ≤ q → A q := fun q h => by rw [← hAe]; exact Or.inr h
  have hS : va_S A s.heap s.heap [] := va_S.rf
  have hl := lv_entry ([.ref mo, .int a1, .int a2, .int a3, .int a4]) (n := 6) (Nat.le_of_ble_eq_true rfl)
  rw [lg_entry_eq]
  generalize (lg_sl ([.ref mo, .int a1, .int a2, .int a3, .int a4]) ++ List.replicate (6 - (lg_sl ([.ref mo, .int a1, .int a2, .int a3, .int a4])).length) Slot.unset).toArray = ls at hl ⊢
  have hl : lv_has ls 6 [(0, .ref mo), (1, .int a1), (2, .int a2), (3, .int a3), (4, .int a4)] := hl
  have zm13 : ((-13) : Int32).toInt = -13 := by decide
  have zm12 : ((-12) : Int32).toInt = -12 := by decide
  have zm11 : ((-11) : Int32).toInt = -11 := by decide
  have zm9 : ((-9) : Int32).toInt = -9 := by decide
  have zm1 : ((-1) : Int32).toInt = -1 := by decide
  have z0 : (0 : Int32).toInt = 0 := by decide
  have zl0 : (0 : Int64).toInt = 0 := by decide
  have z1 : (1 : Int32).toInt = 1 := by decide
  have zl2 : (2 : Int64).toInt = 2 := by decide
  have zl3 : (3 : Int64).toInt = 3 := by decide
  have z6 : (6 : Int32).toInt = 6 := by decide
  refine lv_iload_n hx hb dB_3_3_48.1.1.1.1 rfl (lv_at hl 1 rfl) ?_
  refine lv_i2l (v := a1.toInt64) hx hb dB_3_3_48.1.1.1.2 rfl ?_
  have q_1 : (a1.toInt64).toInt = a1.toInt := Int32.toInt_toInt64 a1
  refine lv_lconst (v := 0) hx hb dB_3_3_48.1.1.2.1 (by decide) ?_
  refine lv_ldc2 (v := 3) hx hb hown (hts (.constantLong RX12 243 (3)) (List.mem_of_getElem? (i := 1) rfl)) dB_3_3_48.1.1.2.2 ?_
  refine ct_R hP hD0 [] [] (by decide) rfl (fun hPc hDw => ?_)
  have hFc := va_free (wc := []) hD hS hA [] rfl
  refine va_calli (va_runS (As := [.long a1.toInt64, .long 0, .long 3]) (rest := []) ⟨hx, hb, hml, hown, hts⟩ (c_X12_in l D cy s.heap.size a1.toInt64 (0 : Int64) (3 : Int64)) (va_cwS 3 hts gX12_wrong_X12_in rfl rfl rfl hd_X12_in ⟨Nat.le_of_ble_eq_true rfl, Nat.le_of_ble_eq_true rfl⟩) ⟨bl_, fun U hU hW => ⟨rfl, by rw [hU], by rw [hU]; exact hPc, kk_mv hW hK, hDw⟩⟩ rfl rfl hl.1 rfl (lv_room (Nat.le_of_ble_eq_true rfl)) dB_3_3_48.1.2.1.1 ⟨Nat.le_of_ble_eq_true rfl, Nat.le_of_ble_eq_true rfl⟩) hS (fun q _ h => hFc q h) hFc (fun r_1 u t H locs ht hvm hw hB hz1 hk1 hS => ?_)
  have hP : va_P D vwCl _ H := ro_keep hP hk1
  rcases hw with ⟨w_2, e_⟩ | ⟨w_2, e_⟩
  · have e_ := e_.symm
    subst e_
    refine lv_if_eq (tgt := 24) hx hb dB_3_3_48.1.2.1.2 (by decide) (fun c_3 => ?_) (fun c_3 => ?_)
    · exact absurd c_3 (by decide)
    · have _ := c_3
      refine lv_iload_n hx hb dB_3_3_48.1.2.2.1 rfl (lv_at hl 2 rfl) ?_
      refine lv_i2l (v := a2.toInt64) hx hb dB_3_3_48.1.2.2.2 rfl ?_
      have q_13 : (a2.toInt64).toInt = a2.toInt := Int32.toInt_toInt64 a2
      refine lv_lconst (v := 0) hx hb dB_3_3_48.2.1.1.1 (by decide) ?_
      refine lv_ldc2 (v := 2) hx hb hown (hts (.constantLong RX12 149 (2)) (List.mem_of_getElem? (i := 2) rfl)) dB_3_3_48.2.1.1.2 ?_
      refine ct_R hP hD0 [] [] (by decide) rfl (fun hPc hDw => ?_)
      have hFc := va_free (wc := []) hD hS hA [] rfl
      refine va_calli (va_runS (As := [.long a2.toInt64, .long 0, .long 2]) (rest := []) ⟨hx, hb, hml, hown, hts⟩ (c_X12_in l D cy H.size a2.toInt64 (0 : Int64) (2 : Int64)) (va_cwS 3 hts gX12_wrong_X12_in rfl rfl rfl hd_X12_in ⟨Nat.le_of_ble_eq_true rfl, Nat.le_of_ble_eq_true rfl⟩) ⟨bl_, fun U hU hW => ⟨rfl, by rw [hU], by rw [hU]; exact hPc, kk_mv hW hK, hDw⟩⟩ rfl rfl hl.1 rfl (lv_room (Nat.le_of_ble_eq_true rfl)) dB_3_3_48.2.1.2.1 ⟨Nat.le_of_ble_eq_true rfl, Nat.le_of_ble_eq_true rfl⟩) hS (fun q _ h => hFc q h) hFc (fun r_4 u t H locs ht hvm hw hB hz1 hk1 hS => ?_)
      have hP : va_P D vwCl _ H := ro_keep hP hk1
      rcases hw with ⟨w_5, e_⟩ | ⟨w_5, e_⟩
      · have e_ := e_.symm
        subst e_
        refine lv_if_ne (tgt := 26) hx hb dB_3_3_48.2.1.2.2 (by decide) (fun c_6 => ?_) (fun c_6 => ?_)
        · have _ := c_6
          refine lv_aload_n hx hb dB_3_3_48.2.2.2.1 rfl (lv_at hl 0 rfl) ?_
          refine va_get (ci := 12) (v := .ref g15) (C := RX12) (T := TX12) (N := 34) hx hb hts (fun _ h => List.mem_cons_of_mem _ (List.mem_append_right _ h)) hown hK.1 hP 0 rfl rfl 15 (by decide) (hts (.fieldLink RX12 38 "CutAtlasModel" "hasMap" "[Z") (List.mem_of_getElem? (i := 3) rfl)) (fun _ h9 => h9) rfl dB_3_3_48.2.2.2.2 ?_
          refine lv_iload_n hx hb dB_3_3_49.1.1.1.1 rfl (lv_at hl 1 rfl) ?_
          have h_7 : vp_in a1 4 := in_I (by first | with_reducible assumption | omega) (by omega)
          refine va_zald hx hb hK.1 hP 1 2 rfl rfl (i := a1) h_7 dB_3_3_49.1.1.1.2 ?_
          refine lv_topi (fun y_8 ey_8 => ?_)
          have ky_8 : y_8.toInt = (f15 a1.toNatClampNeg).toInt := by rw [ey_8]
          refine lv_if_ne (tgt := 38) hx hb dB_3_3_49.1.1.2.1 (by decide) (fun c_9 => ?_) (fun c_9 => ?_)
          · have t_9 : ¬ y_8.toInt = (0 : Int32).toInt := fun h => c_9 (Int32.toInt_inj.mp h)
            refine lv_aload_n hx hb dB_3_3_49.1.2.1.2 rfl (lv_at hl 0 rfl) ?_
            refine va_get (ci := 12) (v := .ref g16) (C := RX12) (T := TX12) (N := 34) hx hb hts (fun _ h => List.mem_cons_of_mem _ (List.mem_append_right _ h)) hown hK.1 hP 0 rfl rfl 16 (by decide) (hts (.fieldLink RX12 41 "CutAtlasModel" "mapKind" "[I") (List.mem_of_getElem? (i := 4) rfl)) (fun _ h9 => h9) rfl dB_3_3_49.1.2.2.1 ?_
            refine lv_iload_n hx hb dB_3_3_49.1.2.2.2 rfl (lv_at hl 1 rfl) ?_
            refine va_iald hx hb hK.1 hP 2 0 rfl rfl (i := a1) h_7 dB_3_3_49.2.1.1.1 ?_
            refine lv_topi (fun y_11 ey_11 => ?_)
            have ky_11 : y_11.toInt = (f16 a1.toNatClampNeg).toInt := by rw [ey_11]
            refine lv_iload_n hx hb dB_3_3_49.2.1.1.2 rfl (lv_at hl 2 rfl) ?_
            refine lv_icmp_eq (tgt := 51) hx hb dB_3_3_49.2.1.2.1 (by decide) (fun c_12 => ?_) (fun c_12 => ?_)
            · have t_12 : y_11.toInt = a2.toInt := congrArg Int32.toInt c_12
              refine lv_iload_n hx hb dB_3_3_49.2.2.1.2 rfl (lv_at hl 3 rfl) ?_
              refine lv_i2l (v := a3.toInt64) hx hb dB_3_3_49.2.2.2.1 rfl ?_
              have q_52 : (a3.toInt64).toInt = a3.toInt := Int32.toInt_toInt64 a3
              refine lv_lconst (v := 0) hx hb dB_3_3_49.2.2.2.2 (by decide) ?_
              refine lv_aload_n hx hb dB_3_3_50.1.1.1.1 rfl (lv_at hl 0 rfl) ?_
              refine va_get (ci := 12) (v := .ref g17) (C := RX12) (T := TX12) (N := 34) hx hb hts (fun _ h => List.mem_cons_of_mem _ (List.mem_append_right _ h)) hown hK.1 hP 0 rfl rfl 17 (by decide) (hts (.fieldLink RX12 44 "CutAtlasModel" "mapRows" "[I") (List.mem_of_getElem? (i := 5) rfl)) (fun _ h9 => h9) rfl dB_3_3_50.1.1.1.2 ?_
              refine lv_iload_n hx hb dB_3_3_50.1.1.2.1 rfl (lv_at hl 1 rfl) ?_
              refine va_iald hx hb hK.1 hP 3 0 rfl rfl (i := a1) h_7 dB_3_3_50.1.1.2.2 ?_
              refine lv_topi (fun y_14 ey_14 => ?_)
              have ky_14 : y_14.toInt = (f17 a1.toNatClampNeg).toInt := by rw [ey_14]
              have ry_14 : 0 ≤ y_14.toInt ∧ y_14.toInt ≤ 6 := by rw [ey_14]; exact r_f17 _ (in_lt h_7)
              refine lv_iconst (v := 1) hx hb dB_3_3_50.1.2.1.1 (by decide) ?_
              refine lv_isub hx hb dB_3_3_50.1.2.1.2 ?_
              refine lv_topi (fun y_15 ey_15 => ?_)
              have ty_15 : y_15.toInt = y_14.toInt - (1 : Int32).toInt := by rw [ey_15]; exact subI (by omega) (by omega)
              refine lv_i2l (v := y_15.toInt64) hx hb dB_3_3_50.1.2.2.1 rfl ?_
              have q_62 : (y_15.toInt64).toInt = y_15.toInt := Int32.toInt_toInt64 y_15
              refine ct_R hP hD0 [] [] (by decide) rfl (fun hPc hDw => ?_)
              have hFc := va_free (wc := []) hD hS hA [] rfl
              refine va_calli (va_runS (As := [.long a3.toInt64, .long 0, .long y_15.toInt64]) (rest := []) ⟨hx, hb, hml, hown, hts⟩ (c_X12_in l D cy H.size a3.toInt64 (0 : Int64) y_15.toInt64) (va_cwS 3 hts gX12_wrong_X12_in rfl rfl rfl hd_X12_in ⟨Nat.le_of_ble_eq_true rfl, Nat.le_of_ble_eq_true rfl⟩) ⟨bl_, fun U hU hW => ⟨rfl, by rw [hU], by rw [hU]; exact hPc, kk_mv hW hK, hDw⟩⟩ rfl rfl hl.1 rfl (lv_room (Nat.le_of_ble_eq_true rfl)) dB_3_3_50.1.2.2.2 ⟨Nat.le_of_ble_eq_true rfl, Nat.le_of_ble_eq_true rfl⟩) hS (fun q _ h => hFc q h) hFc (fun r_16 u t H locs ht hvm hw hB hz1 hk1 hS => ?_)
              have hP : va_P D vwCl _ H := ro_keep hP hk1
              rcases hw with ⟨w_17, e_⟩ | ⟨w_17, e_⟩
              · have e_ := e_.symm
                subst e_
                refine lv_if_ne (tgt := 72) hx hb dB_3_3_50.2.1.1.1 (by decide) (fun c_18 => ?_) (fun c_18 => ?_)
                · have _ := c_18
                  refine lv_aload_n hx hb dB_3_3_50.2.1.2.2 rfl (lv_at hl 0 rfl) ?_
                  refine va_get (ci := 12) (v := .ref g18) (C := RX12) (T := TX12) (N := 34) hx hb hts (fun _ h => List.mem_cons_of_mem _ (List.mem_append_right _ h)) hown hK.1 hP 0 rfl rfl 18 (by decide) (hts (.fieldLink RX12 47 "CutAtlasModel" "rowSize" "[I") (List.mem_of_getElem? (i := 6) rfl)) (fun _ h9 => h9) rfl dB_3_3_50.2.2.1.1 ?_
                  refine lv_bipush (v := 6) hx hb dB_3_3_50.2.2.1.2 (by decide) ?_
                  refine lv_iload_n hx hb dB_3_3_50.2.2.2.1 rfl (lv_at hl 1 rfl) ?_
                  refine lv_imul hx hb dB_3_3_50.2.2.2.2 ?_
                  refine lv_topi (fun y_19 ey_19 => ?_)
                  have ty_19 : y_19.toInt = 6 * a1.toInt := by rw [ey_19]; exact mulC (by decide) (by omega) (by omega)
                  refine lv_iload_n hx hb dB_3_3_51.1.1.1.1 rfl (lv_at hl 3 rfl) ?_
                  refine lv_iadd hx hb dB_3_3_51.1.1.1.2 ?_
                  refine lv_topi (fun y_20 ey_20 => ?_)
                  have ty_20 : y_20.toInt = y_19.toInt + a3.toInt := by rw [ey_20]; exact addI (by omega) (by omega)
                  have hix_ : y_20.toNatClampNeg = (6 * a1.toInt + a3.toInt).toNat := ixn (by omega)
                  have hlo_ := hlk y_20.toNatClampNeg (by rw [hix_]; omega)
                  have h_21 : vp_in y_20 24 := in_I (by first | with_reducible assumption | omega) (by omega)
                  refine va_iald hx hb hK.1 hP 4 0 rfl rfl (i := y_20) h_21 dB_3_3_51.1.1.2.1 ?_
                  refine lv_topi (fun y_22 ey_22 => ?_)
                  have ky_22 : y_22.toInt = (f18 y_20.toNatClampNeg).toInt := by rw [ey_22]
                  have ry_22 : -9 ≤ y_22.toInt ∧ y_22.toInt ≤ 5 := by rw [ey_22]; exact r_f18 _ (in_lt h_21)
                  have k18_ : y_22.toInt = (f18 (6 * a1.toInt + a3.toInt).toNat).toInt := by rw [ey_22, hix_]
                  refine lv_istore (lv' := [(5, .int y_22), (0, .ref mo), (1, .int a1), (2, .int a2), (3, .int a3), (4, .int a4)]) hx hb dB_3_3_51.1.1.2.2 hl (by decide) rfl (fun ls hl => ?_)
                  refine lv_iload hx hb dB_3_3_51.1.2.1.1 (lv_at hl 0 rfl) ?_
                  refine lv_bipush (v := (-9)) hx hb dB_3_3_51.1.2.1.2 (by decide) ?_
                  refine lv_icmp_ne (tgt := 97) hx hb dB_3_3_51.1.2.2.1 (by decide) (fun c_23 => ?_) (fun c_23 => ?_)
                  · have t_23 : ¬ y_22.toInt = ((-9) : Int32).toInt := fun h => c_23 (Int32.toInt_inj.mp h)
                    refine lv_iload hx hb dB_3_3_51.2.1.1.2 (lv_at hl 5 rfl) ?_
                    refine lv_i2l (v := a4.toInt64) hx hb dB_3_3_51.2.1.2.1 rfl ?_
                    have q_99 : (a4.toInt64).toInt = a4.toInt := Int32.toInt_toInt64 a4
                    refine lv_lconst (v := 0) hx hb dB_3_3_51.2.1.2.2 (by decide) ?_
                    refine lv_iload hx hb dB_3_3_51.2.2.1.1 (lv_at hl 0 rfl) ?_
                    refine lv_iconst (v := 1) hx hb dB_3_3_51.2.2.1.2 (by decide) ?_
                    refine lv_isub hx hb dB_3_3_51.2.2.2.1 ?_
                    refine lv_topi (fun y_24 ey_24 => ?_)
                    have ty_24 : y_24.toInt = y_22.toInt - (1 : Int32).toInt := by rw [ey_24]; exact subI (by omega) (by omega)
                    refine lv_i2l (v := y_24.toInt64) hx hb dB_3_3_51.2.2.2.2 rfl ?_
                    have q_105 : (y_24.toInt64).toInt = y_24.toInt := Int32.toInt_toInt64 y_24
                    refine ct_R hP hD0 [] [] (by decide) rfl (fun hPc hDw => ?_)
                    have hFc := va_free (wc := []) hD hS hA [] rfl
                    refine va_calli (va_runS (As := [.long a4.toInt64, .long 0, .long y_24.toInt64]) (rest := []) ⟨hx, hb, hml, hown, hts⟩ (c_X12_in l D cy H.size a4.toInt64 (0 : Int64) y_24.toInt64) (va_cwS 3 hts gX12_wrong_X12_in rfl rfl rfl hd_X12_in ⟨Nat.le_of_ble_eq_true rfl, Nat.le_of_ble_eq_true rfl⟩) ⟨bl_, fun U hU hW => ⟨rfl, by rw [hU], by rw [hU]; exact hPc, kk_mv hW hK, hDw⟩⟩ rfl rfl hl.1 rfl (lv_room (Nat.le_of_ble_eq_true rfl)) dB_3_3_52.1.1 ⟨Nat.le_of_ble_eq_true rfl, Nat.le_of_ble_eq_true rfl⟩) hS (fun q _ h => hFc q h) hFc (fun r_25 u t H locs ht hvm hw hB hz1 hk1 hS => ?_)
                    have hP : va_P D vwCl _ H := ro_keep hP hk1
                    rcases hw with ⟨w_26, e_⟩ | ⟨w_26, e_⟩
                    · have e_ := e_.symm
                      subst e_
                      refine lv_if_ne (tgt := 117) hx hb dB_3_3_52.1.2.1 (by decide) (fun c_27 => ?_) (fun c_27 => ?_)
                      · have _ := c_27
                        refine lv_iconst (v := 0) hx hb dB_3_3_52.2.2.1 (by decide) ?_
                        rw [hQ]
                        exact W.iret (v := 0) hx hb hr (fun t ht hW => ⟨⟨0, (), rfl, ⟨by unfold wrgI; (repeat' (first | with_reducible refine if_n (by omega) ?_ | with_reducible refine if_ns (by omega) ?_ | with_reducible refine if_nz (by omega) ?_ | with_reducible exact if_p (by omega) (by omega) | with_reducible exact if_ps (by omega) (by omega) | with_reducible exact if_pz (by omega) (by omega))) <;> omega, by omega⟩, trivial⟩, hS.F ht⟩) hS.2.2 dB_3_3_52.2.2.2
                      · exact absurd c_27 (by decide)
                    · have e_ := e_.symm
                      subst e_
                      refine lv_if_ne (tgt := 117) hx hb dB_3_3_52.1.2.1 (by decide) (fun c_28 => ?_) (fun c_28 => ?_)
                      · exact absurd c_28 (by decide)
                      · have _ := c_28
                        refine lv_bipush (v := (-12)) hx hb dB_3_3_52.1.2.2 (by decide) ?_
                        refine lv_goto (tgt := 118) hx hb dB_3_3_52.2.1 (by decide) ?_
                        rw [hQ]
                        exact W.iret (v := (-12)) hx hb hr (fun t ht hW => ⟨⟨(-12), (), rfl, ⟨by unfold wrgI; (repeat' (first | with_reducible refine if_n (by omega) ?_ | with_reducible refine if_ns (by omega) ?_ | with_reducible refine if_nz (by omega) ?_ | with_reducible exact if_p (by omega) (by omega) | with_reducible exact if_ps (by omega) (by omega) | with_reducible exact if_pz (by omega) (by omega))) <;> omega, by omega⟩, trivial⟩, hS.F ht⟩) hS.2.2 dB_3_3_52.2.2.2
                  · have t_23 : y_22.toInt = ((-9) : Int32).toInt := congrArg Int32.toInt c_23
                    refine lv_bipush (v := (-11)) hx hb dB_3_3_51.1.2.2.2 (by decide) ?_
                    refine lv_goto (tgt := 118) hx hb dB_3_3_51.2.1.1.1 (by decide) ?_
                    rw [hQ]
                    exact W.iret (v := (-11)) hx hb hr (fun t ht hW => ⟨⟨(-11), (), rfl, ⟨by unfold wrgI; (repeat' (first | with_reducible refine if_n (by omega) ?_ | with_reducible refine if_ns (by omega) ?_ | with_reducible refine if_nz (by omega) ?_ | with_reducible exact if_p (by omega) (by omega) | with_reducible exact if_ps (by omega) (by omega) | with_reducible exact if_pz (by omega) (by omega))) <;> omega, by omega⟩, trivial⟩, hS.F ht⟩) hS.2.2 dB_3_3_52.2.2.2
                · exact absurd c_18 (by decide)
              · have e_ := e_.symm
                subst e_
                refine lv_if_ne (tgt := 72) hx hb dB_3_3_50.2.1.1.1 (by decide) (fun c_29 => ?_) (fun c_29 => ?_)
                · exact absurd c_29 (by decide)
                · have _ := c_29
                  refine lv_bipush (v := (-12)) hx hb dB_3_3_50.2.1.1.2 (by decide) ?_
                  rw [hQ]
                  exact W.iret (v := (-12)) hx hb hr (fun t ht hW => ⟨⟨(-12), (), rfl, ⟨by unfold wrgI; (repeat' (first | with_reducible refine if_n (by omega) ?_ | with_reducible refine if_ns (by omega) ?_ | with_reducible refine if_nz (by omega) ?_ | with_reducible exact if_p (by omega) (by omega) | with_reducible exact if_ps (by omega) (by omega) | with_reducible exact if_pz (by omega) (by omega))) <;> omega, by omega⟩, trivial⟩, hS.F ht⟩) hS.2.2 dB_3_3_50.2.1.2.1
            · have t_12 : ¬ y_11.toInt = a2.toInt := fun h => c_12 (Int32.toInt_inj.mp h)
              refine lv_bipush (v := (-13)) hx hb dB_3_3_49.2.1.2.2 (by decide) ?_
              rw [hQ]
              exact W.iret (v := (-13)) hx hb hr (fun t ht hW => ⟨⟨(-13), (), rfl, ⟨by unfold wrgI; (repeat' (first | with_reducible refine if_n (by omega) ?_ | with_reducible refine if_ns (by omega) ?_ | with_reducible refine if_nz (by omega) ?_ | with_reducible exact if_p (by omega) (by omega) | with_reducible exact if_ps (by omega) (by omega) | with_reducible exact if_pz (by omega) (by omega))) <;> omega, by omega⟩, trivial⟩, hS.F ht⟩) hS.2.2 dB_3_3_49.2.2.1.1
          · have t_9 : y_8.toInt = (0 : Int32).toInt := congrArg Int32.toInt c_9
            refine lv_bipush (v := (-11)) hx hb dB_3_3_49.1.1.2.2 (by decide) ?_
            rw [hQ]
            exact W.iret (v := (-11)) hx hb hr (fun t ht hW => ⟨⟨(-11), (), rfl, ⟨by unfold wrgI; (repeat' (first | with_reducible refine if_n (by omega) ?_ | with_reducible refine if_ns (by omega) ?_ | with_reducible refine if_nz (by omega) ?_ | with_reducible exact if_p (by omega) (by omega) | with_reducible exact if_ps (by omega) (by omega) | with_reducible exact if_pz (by omega) (by omega))) <;> omega, by omega⟩, trivial⟩, hS.F ht⟩) hS.2.2 dB_3_3_49.1.2.1.1
        · exact absurd c_6 (by decide)
      · have e_ := e_.symm
        subst e_
        refine lv_if_ne (tgt := 26) hx hb dB_3_3_48.2.1.2.2 (by decide) (fun c_30 => ?_) (fun c_30 => ?_)
        · exact absurd c_30 (by decide)
        · have _ := c_30
          refine lv_iconst (v := (-1)) hx hb dB_3_3_48.2.2.1.1 (by decide) ?_
          rw [hQ]
          exact W.iret (v := (-1)) hx hb hr (fun t ht hW => ⟨⟨(-1), (), rfl, ⟨by unfold wrgI; (repeat' (first | with_reducible refine if_n (by omega) ?_ | with_reducible refine if_ns (by omega) ?_ | with_reducible refine if_nz (by omega) ?_ | with_reducible exact if_p (by omega) (by omega) | with_reducible exact if_ps (by omega) (by omega) | with_reducible exact if_pz (by omega) (by omega))) <;> omega, by omega⟩, trivial⟩, hS.F ht⟩) hS.2.2 dB_3_3_48.2.2.1.2
  · have e_ := e_.symm
    subst e_
    refine lv_if_eq (tgt := 24) hx hb dB_3_3_48.1.2.1.2 (by decide) (fun c_31 => ?_) (fun c_31 => ?_)
    · have _ := c_31
      refine lv_iconst (v := (-1)) hx hb dB_3_3_48.2.2.1.1 (by decide) ?_
      rw [hQ]
      exact W.iret (v := (-1)) hx hb hr (fun t ht hW => ⟨⟨(-1), (), rfl, ⟨by unfold wrgI; (repeat' (first | with_reducible refine if_n (by omega) ?_ | with_reducible refine if_ns (by omega) ?_ | with_reducible refine if_nz (by omega) ?_ | with_reducible exact if_p (by omega) (by omega) | with_reducible exact if_ps (by omega) (by omega) | with_reducible exact if_pz (by omega) (by omega))) <;> omega, by omega⟩, trivial⟩, hS.F ht⟩) hS.2.2 dB_3_3_48.2.2.1.2
    · exact absurd c_31 (by decide)
end
