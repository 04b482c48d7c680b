section
set_option maxHeartbeats 4000000 in
set_option maxRecDepth 100000 in
theorem c_X11_rowRefusal2 (l : Launch) (D : va_G) (cy : Nat → ClassId) (sz : Nat) (xo : Nat) (xk : Nat) (xn : Nat) (xc : Nat) (xh : Nat) (xt : Nat) (xw : Nat) (xm : Nat) (xp : Nat) (pf : Int32) (ph : Int32) (tr : Int64) (fi : Int32) (m0 : Nat) (l0 : Nat) (u0 : Nat) (m1 : Nat) (l1 : Nat) (u1 : Nat) (m2 : Nat) (l2 : Nat) (u2 : Nat) (m3 : Nat) (l3 : Nat) (u3 : Nat) (mk0 : Int32) (mr0 : Int32) (mk1 : Int32) (mr1 : Int32) (mk2 : Int32) (mr2 : Int32) (mk3 : Int32) (mr3 : Int32) (a1 : Int32) (a2 : Int32) (a3 : Int32) (hmr0 : mr0.toInt = -9 ∨ (0 ≤ mr0.toInt ∧ mr0.toInt ≤ 6)) (hmr1 : mr1.toInt = -9 ∨ (0 ≤ mr1.toInt ∧ mr1.toInt ≤ 6)) (hmr2 : mr2.toInt = -9 ∨ (0 ≤ mr2.toInt ∧ mr2.toInt ≤ 6)) (hmr3 : mr3.toInt = -9 ∨ (0 ≤ mr3.toInt ∧ mr3.toInt ≤ 6)) : Met l yX11_rowRefusal wsX11_rowRefusal ({ frames := 1, cells := 0, slots := 0, locals := 21 }) (va_Pc [.ref xo, .int a1, .int a2, .int a3] (fun U => U.heap.size = sz ∧ va_P D vwCl [ob11_0_ xo xk xn xc xh xt xw xm xp pf ph tr fi, aq_ cy 4 xm 4 (mf_ m0 m1 m2 m3), ob4_0_ m0 mk0 mr0 l0 u0, ob4_0_ m1 mk1 mr1 l1 u1, ob4_0_ m2 mk2 mr2 l2 u2, ob4_0_ m3 mk3 mr3 l3 u3] U.heap ∧ kk_ D cy U ∧ va_D (fun _ => True) [ob11_0_ xo xk xn xc xh xt xw xm xp pf ph tr fi, aq_ cy 4 xm 4 (mf_ m0 m1 m2 m3), ob4_0_ m0 mk0 mr0 l0 u0, ob4_0_ m1 mk1 mr1 l1 u1, ob4_0_ m2 mk2 mr2 l2 u2, ob4_0_ m3 mk3 mr3 l3 u3])) (va_Qi (fun (r : Int32) (_ : Unit) => (r.toInt = rowRI a1.toInt a2.toInt a3.toInt (hasI ((f4_ mr0 mr1 mr2 mr3) a1.toNatClampNeg).toInt) ((f4_ mr0 mr1 mr2 mr3) a1.toNatClampNeg).toInt) ∧ (r.toInt < 0 ∨ (r.toInt = 0 ∧ (0 ≤ a1.toInt ∧ a1.toInt < 4) ∧ (0 ≤ a2.toInt ∧ a2.toInt ≤ 5) ∧ (0 ≤ a3.toInt ∧ a3.toInt ≤ 5)))) (fun (_ : Unit) (_ : State) => True) (va_A [] sz)) 0 0 (va_A [] sz) := by
  refine ofQ (cc := cX11_rowRefusal) (maxL := 4) (ret := (some .int)) (by decide) rfl ?_
  intro p e s m args below meth c s₁ Q hQ B hml hv
  obtain ⟨rfl, hsz, hP, hK, hD0⟩ := hv
  have hx := B.exec
  have hb := B.bytes
  have hr := B.returns
  have hts := atoms_spec (ws := wsX11_rowRefusal) B.pre
  have hown : s.vm.findClass RX11 = some m.cls := by have h_ := findClass_of_methodNamed B.named; exact h_
  have hlocks := B.notSynchronized
  subst hsz
  have hD : va_D (va_A [] s.heap.size) [] := dd_nil
  generalize hAe : va_A [] s.heap.size = A at hD hQ
  have hA : ∀ q : Nat, s.heap.size ≤ q → A q := fun q h => by rw [← hAe]; exact Or.inr h
  have hS : va_S A s.heap s.heap [] := va_S.rf
  have hl := lv_entry ([.ref xo, .int a1, .int a2, .int a3]) (n := 4) (Nat.le_of_ble_eq_true rfl)
  rw [lg_entry_eq]
  generalize (lg_sl ([.ref xo, .int a1, .int a2, .int a3]) ++ List.replicate (4 - (lg_sl ([.ref xo, .int a1, .int a2, .int a3])).length) Slot.unset).toArray = ls at hl ⊢
  have hl : lv_has ls 4 [(0, .ref xo), (1, .int a1), (2, .int a2), (3, .int a3)] := hl
  have zm15 : ((-15) : Int32).toInt = -15 := by decide
  have zm12 : ((-12) : Int32).toInt = -12 := by decide
  have zm11 : ((-11) : Int32).toInt = -11 := by decide
  have zm1 : ((-1) : Int32).toInt = -1 := by decide
  have z0 : (0 : Int32).toInt = 0 := by decide
  have z5 : (5 : Int32).toInt = 5 := by decide
  refine lv_iload_n hx hb dB_36_3_59.1.1.1.1 rfl (lv_at hl 1 rfl) ?_
  refine ct_R hP hD0 [] [] (by decide) rfl (fun hPc hDw => ?_)
  have hFc := va_free (wc := []) hD hS hA [] rfl
  refine va_calli (va_runS (As := [.int a1]) (rest := []) ⟨hx, hb, hml, hown, hts⟩ (c_X11_isMapNumber l D cy s.heap.size a1) (va_cwS 1 hts gX11_rowRefusal_X11_isMapNumber rfl rfl rfl hd_X11_isMapNumber ⟨Nat.le_of_ble_eq_true rfl, Nat.le_of_ble_eq_true rfl⟩) ⟨bl_, fun U hU hW => ⟨rfl, by rw [hU], by rw [hU]; exact hPc, kk_mv hW hK, hDw⟩⟩ rfl rfl hl.1 rfl (lv_room (Nat.le_of_ble_eq_true rfl)) dB_36_3_59.1.1.1.2 ⟨Nat.le_of_ble_eq_true rfl, Nat.le_of_ble_eq_true rfl⟩) hS (fun q _ h => hFc q h) hFc (fun r_1 u t H locs ht hvm hw hB hz1 hk1 hS => ?_)
  have hP : va_P D vwCl _ H := ro_keep hP hk1
  rcases hw with ⟨w_2, e_⟩ | ⟨w_2, e_⟩
  · have e_ := e_.symm
    subst e_
    refine lv_if_eq (tgt := 12) hx hb dB_36_3_59.1.1.2.1 (by decide) (fun c_3 => ?_) (fun c_3 => ?_)
    · exact absurd c_3 (by decide)
    · have _ := c_3
      refine lv_iload_n hx hb dB_36_3_59.1.1.2.2 rfl (lv_at hl 3 rfl) ?_
      refine lv_iconst (v := 5) hx hb dB_36_3_59.1.2.1.1 (by decide) ?_
      refine lv_icmp_le (tgt := 14) hx hb dB_36_3_59.1.2.1.2 (by decide) (fun c_4 => ?_) (fun c_4 => ?_)
      · have t_4 : a3.toInt ≤ (5 : Int32).toInt := Int32.le_iff_toInt_le.mp c_4
        rcases sp_4 (x := a1) (by omega) with rfl | rfl | rfl | rfl
        · refine lv_aload_n hx hb dB_36_3_59.2.1.1.1 rfl (lv_at hl 0 rfl) ?_
          refine va_get (ci := 11) (v := .ref xm) (C := RX11) (T := TX11) (N := 12) hx hb hts (fun _ h => List.mem_cons_of_mem _ (List.mem_append_left _ (List.mem_append_right _ h))) hown hK.1 hP 0 rfl rfl 6 (by decide) (hts (.fieldLink RX11 72 "CutAtlas" "maps" "[LCutAtlas$NumberMap;") (List.mem_of_getElem? (i := 1) rfl)) (fun _ h9 => h9) rfl dB_36_3_59.2.1.1.2 ?_
          refine lv_iload_n hx hb dB_36_3_59.2.1.2.1 rfl (lv_at hl 1 rfl) ?_
          refine va_aldq hx hb hK.1 hP 1 4 rfl rfl (i := 0) (by unfold vp_in; decide) dB_36_3_59.2.1.2.2 ?_
          refine lv_topv (v' := .ref m0) (by simp [va_up, va_rf, mf_, cl_0, cl_1, cl_2, cl_3, cl_4]) ?_
          refine ct_R hP hD0 [ob4_0_ m0 mk0 mr0 l0 u0] [2] (by decide) rfl (fun hPc hDw => ?_)
          have hFc := va_free (wc := []) hD hS hA [] rfl
          refine va_calli (va_runV (As := []) (rest := []) ⟨hx, hb, hml, hown, hts⟩ (c_X4_isThere l D cy H.size m0 l0 u0 mk0 mr0) (cwV 0 hts gX11_rowRefusal_X4_isThere rfl rfl rfl ⟨rfl, hd_X4_isThere⟩ ⟨Nat.le_of_ble_eq_true rfl, Nat.le_of_ble_eq_true rfl⟩) ⟨bl_, va_recvX hK.1 hP (ci := 4) (q0 := 2) rfl rfl, fun U hU hW => ⟨rfl, by rw [hU], by rw [hU]; exact hPc, kk_mv hW hK, hDw⟩⟩ rfl rfl hl.1 rfl (lv_room (Nat.le_of_ble_eq_true rfl)) dB_36_3_59.2.2.1.1 ⟨Nat.le_of_ble_eq_true rfl, Nat.le_of_ble_eq_true rfl⟩) hS (fun q _ h => hFc q h) hFc (fun r_5 u t H locs ht hvm hw hB hz1 hk1 hS => ?_)
          have hP : va_P D vwCl _ H := ro_keep hP hk1
          rcases hw with ⟨w_6, e_⟩ | ⟨w_6, e_⟩
          · have e_ := e_.symm
            subst e_
            refine lv_if_ne (tgt := 29) hx hb dB_36_3_59.2.2.1.2 (by decide) (fun c_7 => ?_) (fun c_7 => ?_)
            · have _ := c_7
              refine lv_aload_n hx hb dB_36_3_60.1.1.1 rfl (lv_at hl 0 rfl) ?_
              refine va_get (ci := 11) (v := .ref xm) (C := RX11) (T := TX11) (N := 12) hx hb hts (fun _ h => List.mem_cons_of_mem _ (List.mem_append_left _ (List.mem_append_right _ h))) hown hK.1 hP 0 rfl rfl 6 (by decide) (hts (.fieldLink RX11 72 "CutAtlas" "maps" "[LCutAtlas$NumberMap;") (List.mem_of_getElem? (i := 1) rfl)) (fun _ h9 => h9) rfl dB_36_3_60.1.1.2.1 ?_
              refine lv_iload_n hx hb dB_36_3_60.1.1.2.2 rfl (lv_at hl 1 rfl) ?_
              refine va_aldq hx hb hK.1 hP 1 4 rfl rfl (i := 0) (by unfold vp_in; decide) dB_36_3_60.1.2.1.1 ?_
              refine lv_topv (v' := .ref m0) (by simp [va_up, va_rf, mf_, cl_0, cl_1, cl_2, cl_3, cl_4]) ?_
              refine lv_iload_n hx hb dB_36_3_60.1.2.1.2 rfl (lv_at hl 2 rfl) ?_
              refine ct_R hP hD0 [ob4_0_ m0 mk0 mr0 l0 u0] [2] (by decide) rfl (fun hPc hDw => ?_)
              have hFc := va_free (wc := []) hD hS hA [] rfl
              refine va_calli (va_runV (As := [.int a2]) (rest := []) ⟨hx, hb, hml, hown, hts⟩ (c_X4_hasRow l D cy H.size m0 l0 u0 mk0 mr0 a2) (cwV 1 hts gX11_rowRefusal_X4_hasRow rfl rfl rfl ⟨rfl, hd_X4_hasRow⟩ ⟨Nat.le_of_ble_eq_true rfl, Nat.le_of_ble_eq_true rfl⟩) ⟨bl_, va_recvX hK.1 hP (ci := 4) (q0 := 2) rfl rfl, fun U hU hW => ⟨rfl, by rw [hU], by rw [hU]; exact hPc, kk_mv hW hK, hDw⟩⟩ rfl rfl hl.1 rfl (lv_room (Nat.le_of_ble_eq_true rfl)) dB_36_3_60.1.2.2.1 ⟨Nat.le_of_ble_eq_true rfl, Nat.le_of_ble_eq_true rfl⟩) hS (fun q _ h => hFc q h) hFc (fun r_8 u t H locs ht hvm hw hB hz1 hk1 hS => ?_)
              have hP : va_P D vwCl _ H := ro_keep hP hk1
              rcases hw with ⟨w_9, e_⟩ | ⟨w_9, e_⟩
              · have e_ := e_.symm
                subst e_
                refine lv_if_ne (tgt := 45) hx hb dB_36_3_60.1.2.2.2 (by decide) (fun c_10 => ?_) (fun c_10 => ?_)
                · have _ := c_10
                  refine lv_iload_n hx hb dB_36_3_60.2.1.2.1 rfl (lv_at hl 3 rfl) ?_
                  refine lv_if_ge (tgt := 54) hx hb dB_36_3_60.2.1.2.2 (by decide) (fun c_11 => ?_) (fun c_11 => ?_)
                  · have t_11 : (0 : Int32).toInt ≤ a3.toInt := Int32.le_iff_toInt_le.mp c_11
                    refine lv_iconst (v := 0) hx hb dB_36_3_60.2.2.2.1 (by decide) ?_
                    rw [hQ]
                    exact W.iret (v := 0) hx hb hr (fun t ht hW => ⟨⟨0, (), rfl, ⟨by first | (simp only [f4_c0, f4_c1, f4_c2, f4_c3]; unfold rowRI hasI; (repeat' (first | with_reducible refine if_n (by omega) ?_ | with_reducible refine if_ns (by omega) ?_ | with_reducible refine if_nz (by omega) ?_ | with_reducible exact if_p (by omega) (by omega) | with_reducible exact if_ps (by omega) (by omega) | with_reducible exact if_pz (by omega) (by omega))) <;> omega) | (unfold rowRI hasI; (repeat' (first | with_reducible refine if_n (by omega) ?_ | with_reducible refine if_ns (by omega) ?_ | with_reducible refine if_nz (by omega) ?_ | with_reducible exact if_p (by omega) (by omega) | with_reducible exact if_ps (by omega) (by omega) | with_reducible exact if_pz (by omega) (by omega))) <;> omega), by omega⟩, trivial⟩, hS.F ht⟩) hS.2.2 dB_36_3_60.2.2.2.2
                  · have t_11 : ¬ (0 : Int32).toInt ≤ a3.toInt := fun h => c_11 (Int32.le_iff_toInt_le.mpr h)
                    refine lv_bipush (v := (-15)) hx hb dB_36_3_60.2.2.1.1 (by decide) ?_
                    refine lv_goto (tgt := 55) hx hb dB_36_3_60.2.2.1.2 (by decide) ?_
                    rw [hQ]
                    exact W.iret (v := (-15)) hx hb hr (fun t ht hW => ⟨⟨(-15), (), rfl, ⟨by first | (simp only [f4_c0, f4_c1, f4_c2, f4_c3]; unfold rowRI hasI; (repeat' (first | with_reducible refine if_n (by omega) ?_ | with_reducible refine if_ns (by omega) ?_ | with_reducible refine if_nz (by omega) ?_ | with_reducible exact if_p (by omega) (by omega) | with_reducible exact if_ps (by omega) (by omega) | with_reducible exact if_pz (by omega) (by omega))) <;> omega) | (unfold rowRI hasI; (repeat' (first | with_reducible refine if_n (by omega) ?_ | with_reducible refine if_ns (by omega) ?_ | with_reducible refine if_nz (by omega) ?_ | with_reducible exact if_p (by omega) (by omega) | with_reducible exact if_ps (by omega) (by omega) | with_reducible exact if_pz (by omega) (by omega))) <;> omega), by omega⟩, trivial⟩, hS.F ht⟩) hS.2.2 dB_36_3_60.2.2.2.2
                · exact absurd c_10 (by decide)
              · have e_ := e_.symm
                subst e_
                refine lv_if_ne (tgt := 45) hx hb dB_36_3_60.1.2.2.2 (by decide) (fun c_12 => ?_) (fun c_12 => ?_)
                · exact absurd c_12 (by decide)
                · have _ := c_12
                  refine lv_bipush (v := (-12)) hx hb dB_36_3_60.2.1.1.1 (by decide) ?_
                  rw [hQ]
                  exact W.iret (v := (-12)) hx hb hr (fun t ht hW => ⟨⟨(-12), (), rfl, ⟨by first | (simp only [f4_c0, f4_c1, f4_c2, f4_c3]; unfold rowRI hasI; (repeat' (first | with_reducible refine if_n (by omega) ?_ | with_reducible refine if_ns (by omega) ?_ | with_reducible refine if_nz (by omega) ?_ | with_reducible exact if_p (by omega) (by omega) | with_reducible exact if_ps (by omega) (by omega) | with_reducible exact if_pz (by omega) (by omega))) <;> omega) | (unfold rowRI hasI; (repeat' (first | with_reducible refine if_n (by omega) ?_ | with_reducible refine if_ns (by omega) ?_ | with_reducible refine if_nz (by omega) ?_ | with_reducible exact if_p (by omega) (by omega) | with_reducible exact if_ps (by omega) (by omega) | with_reducible exact if_pz (by omega) (by omega))) <;> omega), by omega⟩, trivial⟩, hS.F ht⟩) hS.2.2 dB_36_3_60.2.1.1.2
            · exact absurd c_7 (by decide)
          · have e_ := e_.symm
            subst e_
            refine lv_if_ne (tgt := 29) hx hb dB_36_3_59.2.2.1.2 (by decide) (fun c_13 => ?_) (fun c_13 => ?_)
            · exact absurd c_13 (by decide)
            · have _ := c_13
              refine lv_bipush (v := (-11)) hx hb dB_36_3_59.2.2.2.1 (by decide) ?_
              rw [hQ]
              exact W.iret (v := (-11)) hx hb hr (fun t ht hW => ⟨⟨(-11), (), rfl, ⟨by first | (simp only [f4_c0, f4_c1, f4_c2, f4_c3]; unfold rowRI hasI; (repeat' (first | with_reducible refine if_n (by omega) ?_ | with_reducible refine if_ns (by omega) ?_ | with_reducible refine if_nz (by omega) ?_ | with_reducible exact if_p (by omega) (by omega) | with_reducible exact if_ps (by omega) (by omega) | with_reducible exact if_pz (by omega) (by omega))) <;> omega) | (unfold rowRI hasI; (repeat' (first | with_reducible refine if_n (by omega) ?_ | with_reducible refine if_ns (by omega) ?_ | with_reducible refine if_nz (by omega) ?_ | with_reducible exact if_p (by omega) (by omega) | with_reducible exact if_ps (by omega) (by omega) | with_reducible exact if_pz (by omega) (by omega))) <;> omega), by omega⟩, trivial⟩, hS.F ht⟩) hS.2.2 dB_36_3_59.2.2.2.2
        · refine lv_aload_n hx hb dB_36_3_59.2.1.1.1 rfl (lv_at hl 0 rfl) ?_
          refine va_get (ci := 11) (v := .ref xm) (C := RX11) (T := TX11) (N := 12) hx hb hts (fun _ h => List.mem_cons_of_mem _ (List.mem_append_left _ (List.mem_append_right _ h))) hown hK.1 hP 0 rfl rfl 6 (by decide) (hts (.fieldLink RX11 72 "CutAtlas" "maps" "[LCutAtlas$NumberMap;") (List.mem_of_getElem? (i := 1) rfl)) (fun _ h9 => h9) rfl dB_36_3_59.2.1.1.2 ?_
          refine lv_iload_n hx hb dB_36_3_59.2.1.2.1 rfl (lv_at hl 1 rfl) ?_
          refine va_aldq hx hb hK.1 hP 1 4 rfl rfl (i := 1) (by unfold vp_in; decide) dB_36_3_59.2.1.2.2 ?_
          refine lv_topv (v' := .ref m1) (by simp [va_up, va_rf, mf_, cl_0, cl_1, cl_2, cl_3, cl_4]) ?_
          refine ct_R hP hD0 [ob4_0_ m1 mk1 mr1 l1 u1] [3] (by decide) rfl (fun hPc hDw => ?_)
          have hFc := va_free (wc := []) hD hS hA [] rfl
          refine va_calli (va_runV (As := []) (rest := []) ⟨hx, hb, hml, hown, hts⟩ (c_X4_isThere l D cy H.size m1 l1 u1 mk1 mr1) (cwV 0 hts gX11_rowRefusal_X4_isThere rfl rfl rfl ⟨rfl, hd_X4_isThere⟩ ⟨Nat.le_of_ble_eq_true rfl, Nat.le_of_ble_eq_true rfl⟩) ⟨bl_, va_recvX hK.1 hP (ci := 4) (q0 := 3) rfl rfl, fun U hU hW => ⟨rfl, by rw [hU], by rw [hU]; exact hPc, kk_mv hW hK, hDw⟩⟩ rfl rfl hl.1 rfl (lv_room (Nat.le_of_ble_eq_true rfl)) dB_36_3_59.2.2.1.1 ⟨Nat.le_of_ble_eq_true rfl, Nat.le_of_ble_eq_true rfl⟩) hS (fun q _ h => hFc q h) hFc (fun r_14 u t H locs ht hvm hw hB hz1 hk1 hS => ?_)
          have hP : va_P D vwCl _ H := ro_keep hP hk1
          rcases hw with ⟨w_15, e_⟩ | ⟨w_15, e_⟩
          · have e_ := e_.symm
            subst e_
            refine lv_if_ne (tgt := 29) hx hb dB_36_3_59.2.2.1.2 (by decide) (fun c_16 => ?_) (fun c_16 => ?_)
            · have _ := c_16
              refine lv_aload_n hx hb dB_36_3_60.1.1.1 rfl (lv_at hl 0 rfl) ?_
              refine va_get (ci := 11) (v := .ref xm) (C := RX11) (T := TX11) (N := 12) hx hb hts (fun _ h => List.mem_cons_of_mem _ (List.mem_append_left _ (List.mem_append_right _ h))) hown hK.1 hP 0 rfl rfl 6 (by decide) (hts (.fieldLink RX11 72 "CutAtlas" "maps" "[LCutAtlas$NumberMap;") (List.mem_of_getElem? (i := 1) rfl)) (fun _ h9 => h9) rfl dB_36_3_60.1.1.2.1 ?_
              refine lv_iload_n hx hb dB_36_3_60.1.1.2.2 rfl (lv_at hl 1 rfl) ?_
              refine va_aldq hx hb hK.1 hP 1 4 rfl rfl (i := 1) (by unfold vp_in; decide) dB_36_3_60.1.2.1.1 ?_
              refine lv_topv (v' := .ref m1) (by simp [va_up, va_rf, mf_, cl_0, cl_1, cl_2, cl_3, cl_4]) ?_
              refine lv_iload_n hx hb dB_36_3_60.1.2.1.2 rfl (lv_at hl 2 rfl) ?_
              refine ct_R hP hD0 [ob4_0_ m1 mk1 mr1 l1 u1] [3] (by decide) rfl (fun hPc hDw => ?_)
              have hFc := va_free (wc := []) hD hS hA [] rfl
              refine va_calli (va_runV (As := [.int a2]) (rest := []) ⟨hx, hb, hml, hown, hts⟩ (c_X4_hasRow l D cy H.size m1 l1 u1 mk1 mr1 a2) (cwV 1 hts gX11_rowRefusal_X4_hasRow rfl rfl rfl ⟨rfl, hd_X4_hasRow⟩ ⟨Nat.le_of_ble_eq_true rfl, Nat.le_of_ble_eq_true rfl⟩) ⟨bl_, va_recvX hK.1 hP (ci := 4) (q0 := 3) rfl rfl, fun U hU hW => ⟨rfl, by rw [hU], by rw [hU]; exact hPc, kk_mv hW hK, hDw⟩⟩ rfl rfl hl.1 rfl (lv_room (Nat.le_of_ble_eq_true rfl)) dB_36_3_60.1.2.2.1 ⟨Nat.le_of_ble_eq_true rfl, Nat.le_of_ble_eq_true rfl⟩) hS (fun q _ h => hFc q h) hFc (fun r_17 u t H locs ht hvm hw hB hz1 hk1 hS => ?_)
              have hP : va_P D vwCl _ H := ro_keep hP hk1
              rcases hw with ⟨w_18, e_⟩ | ⟨w_18, e_⟩
              · have e_ := e_.symm
                subst e_
                refine lv_if_ne (tgt := 45) hx hb dB_36_3_60.1.2.2.2 (by decide) (fun c_19 => ?_) (fun c_19 => ?_)
                · have _ := c_19
                  refine lv_iload_n hx hb dB_36_3_60.2.1.2.1 rfl (lv_at hl 3 rfl) ?_
                  refine lv_if_ge (tgt := 54) hx hb dB_36_3_60.2.1.2.2 (by decide) (fun c_20 => ?_) (fun c_20 => ?_)
                  · have t_20 : (0 : Int32).toInt ≤ a3.toInt := Int32.le_iff_toInt_le.mp c_20
                    refine lv_iconst (v := 0) hx hb dB_36_3_60.2.2.2.1 (by decide) ?_
                    rw [hQ]
                    exact W.iret (v := 0) hx hb hr (fun t ht hW => ⟨⟨0, (), rfl, ⟨by first | (simp only [f4_c0, f4_c1, f4_c2, f4_c3]; unfold rowRI hasI; (repeat' (first | with_reducible refine if_n (by omega) ?_ | with_reducible refine if_ns (by omega) ?_ | with_reducible refine if_nz (by omega) ?_ | with_reducible exact if_p (by omega) (by omega) | with_reducible exact if_ps (by omega) (by omega) | with_reducible exact if_pz (by omega) (by omega))) <;> omega) | (unfold rowRI hasI; (repeat' (first | with_reducible refine if_n (by omega) ?_ | with_reducible refine if_ns (by omega) ?_ | with_reducible refine if_nz (by omega) ?_ | with_reducible exact if_p (by omega) (by omega) | with_reducible exact if_ps (by omega) (by omega) | with_reducible exact if_pz (by omega) (by omega))) <;> omega), by omega⟩, trivial⟩, hS.F ht⟩) hS.2.2 dB_36_3_60.2.2.2.2
                  · have t_20 : ¬ (0 : Int32).toInt ≤ a3.toInt := fun h => c_20 (Int32.le_iff_toInt_le.mpr h)
                    refine lv_bipush (v := (-15)) hx hb dB_36_3_60.2.2.1.1 (by decide) ?_
                    refine lv_goto (tgt := 55) hx hb dB_36_3_60.2.2.1.2 (by decide) ?_
                    rw [hQ]
                    exact W.iret (v := (-15)) hx hb hr (fun t ht hW => ⟨⟨(-15), (), rfl, ⟨by first | (simp only [f4_c0, f4_c1, f4_c2, f4_c3]; unfold rowRI hasI; (repeat' (first | with_reducible refine if_n (by omega) ?_ | with_reducible refine if_ns (by omega) ?_ | with_reducible refine if_nz (by omega) ?_ | with_reducible exact if_p (by omega) (by omega) | with_reducible exact if_ps (by omega) (by omega) | with_reducible exact if_pz (by omega) (by omega))) <;> omega) | (unfold rowRI hasI; (repeat' (first | with_reducible refine if_n (by omega) ?_ | with_reducible refine if_ns (by omega) ?_ | with_reducible refine if_nz (by omega) ?_ | with_reducible exact if_p (by omega) (by omega) | with_reducible exact if_ps (by omega) (by omega) | with_reducible exact if_pz (by omega) (by omega))) <;> omega), by omega⟩, trivial⟩, hS.F ht⟩) hS.2.2 dB_36_3_60.2.2.2.2
                · exact absurd c_19 (by decide)
              · have e_ := e_.symm
                subst e_
                refine lv_if_ne (tgt := 45) hx hb dB_36_3_60.1.2.2.2 (by decide) (fun c_21 => ?_) (fun c_21 => ?_)
                · exact absurd c_21 (by decide)
                · have _ := c_21
                  refine lv_bipush (v := (-12)) hx hb dB_36_3_60.2.1.1.1 (by decide) ?_
                  rw [hQ]
                  exact W.iret (v := (-12)) hx hb hr (fun t ht hW => ⟨⟨(-12), (), rfl, ⟨by first | (simp only [f4_c0, f4_c1, f4_c2, f4_c3]; unfold rowRI hasI; (repeat' (first | with_reducible refine if_n (by omega) ?_ | with_reducible refine if_ns (by omega) ?_ | with_reducible refine if_nz (by omega) ?_ | with_reducible exact if_p (by omega) (by omega) | with_reducible exact if_ps (by omega) (by omega) | with_reducible exact if_pz (by omega) (by omega))) <;> omega) | (unfold rowRI hasI; (repeat' (first | with_reducible refine if_n (by omega) ?_ | with_reducible refine if_ns (by omega) ?_ | with_reducible refine if_nz (by omega) ?_ | with_reducible exact if_p (by omega) (by omega) | with_reducible exact if_ps (by omega) (by omega) | with_reducible exact if_pz (by omega) (by omega))) <;> omega), by omega⟩, trivial⟩, hS.F ht⟩) hS.2.2 dB_36_3_60.2.1.1.2
            · exact absurd c_16 (by decide)
          · have e_ := e_.symm
            subst e_
            refine lv_if_ne (tgt := 29) hx hb dB_36_3_59.2.2.1.2 (by decide) (fun c_22 => ?_) (fun c_22 => ?_)
            · exact absurd c_22 (by decide)
            · have _ := c_22
              refine lv_bipush (v := (-11)) hx hb dB_36_3_59.2.2.2.1 (by decide) ?_
              rw [hQ]
              exact W.iret (v := (-11)) hx hb hr (fun t ht hW => ⟨⟨(-11), (), rfl, ⟨by first | (simp only [f4_c0, f4_c1, f4_c2, f4_c3]; unfold rowRI hasI; (repeat' (first | with_reducible refine if_n (by omega) ?_ | with_reducible refine if_ns (by omega) ?_ | with_reducible refine if_nz (by omega) ?_ | with_reducible exact if_p (by omega) (by omega) | with_reducible exact if_ps (by omega) (by omega) | with_reducible exact if_pz (by omega) (by omega))) <;> omega) | (unfold rowRI hasI; (repeat' (first | with_reducible refine if_n (by omega) ?_ | with_reducible refine if_ns (by omega) ?_ | with_reducible refine if_nz (by omega) ?_ | with_reducible exact if_p (by omega) (by omega) | with_reducible exact if_ps (by omega) (by omega) | with_reducible exact if_pz (by omega) (by omega))) <;> omega), by omega⟩, trivial⟩, hS.F ht⟩) hS.2.2 dB_36_3_59.2.2.2.2
        · refine lv_aload_n hx hb dB_36_3_59.2.1.1.1 rfl (lv_at hl 0 rfl) ?_
          refine va_get (ci := 11) (v := .ref xm) (C := RX11) (T := TX11) (N := 12) hx hb hts (fun _ h => List.mem_cons_of_mem _ (List.mem_append_left _ (List.mem_append_right _ h))) hown hK.1 hP 0 rfl rfl 6 (by decide) (hts (.fieldLink RX11 72 "CutAtlas" "maps" "[LCutAtlas$NumberMap;") (List.mem_of_getElem? (i := 1) rfl)) (fun _ h9 => h9) rfl dB_36_3_59.2.1.1.2 ?_
          refine lv_iload_n hx hb dB_36_3_59.2.1.2.1 rfl (lv_at hl 1 rfl) ?_
          refine va_aldq hx hb hK.1 hP 1 4 rfl rfl (i := 2) (by unfold vp_in; decide) dB_36_3_59.2.1.2.2 ?_
          refine lv_topv (v' := .ref m2) (by simp [va_up, va_rf, mf_, cl_0, cl_1, cl_2, cl_3, cl_4]) ?_
          refine ct_R hP hD0 [ob4_0_ m2 mk2 mr2 l2 u2] [4] (by decide) rfl (fun hPc hDw => ?_)
          have hFc := va_free (wc := []) hD hS hA [] rfl
          refine va_calli (va_runV (As := []) (rest := []) ⟨hx, hb, hml, hown, hts⟩ (c_X4_isThere l D cy H.size m2 l2 u2 mk2 mr2) (cwV 0 hts gX11_rowRefusal_X4_isThere rfl rfl rfl ⟨rfl, hd_X4_isThere⟩ ⟨Nat.le_of_ble_eq_true rfl, Nat.le_of_ble_eq_true rfl⟩) ⟨bl_, va_recvX hK.1 hP (ci := 4) (q0 := 4) rfl rfl, fun U hU hW => ⟨rfl, by rw [hU], by rw [hU]; exact hPc, kk_mv hW hK, hDw⟩⟩ rfl rfl hl.1 rfl (lv_room (Nat.le_of_ble_eq_true rfl)) dB_36_3_59.2.2.1.1 ⟨Nat.le_of_ble_eq_true rfl, Nat.le_of_ble_eq_true rfl⟩) hS (fun q _ h => hFc q h) hFc (fun r_23 u t H locs ht hvm hw hB hz1 hk1 hS => ?_)
          have hP : va_P D vwCl _ H := ro_keep hP hk1
          rcases hw with ⟨w_24, e_⟩ | ⟨w_24, e_⟩
          · have e_ := e_.symm
            subst e_
            refine lv_if_ne (tgt := 29) hx hb dB_36_3_59.2.2.1.2 (by decide) (fun c_25 => ?_) (fun c_25 => ?_)
            · have _ := c_25
              refine lv_aload_n hx hb dB_36_3_60.1.1.1 rfl (lv_at hl 0 rfl) ?_
              refine va_get (ci := 11) (v := .ref xm) (C := RX11) (T := TX11) (N := 12) hx hb hts (fun _ h => List.mem_cons_of_mem _ (List.mem_append_left _ (List.mem_append_right _ h))) hown hK.1 hP 0 rfl rfl 6 (by decide) (hts (.fieldLink RX11 72 "CutAtlas" "maps" "[LCutAtlas$NumberMap;") (List.mem_of_getElem? (i := 1) rfl)) (fun _ h9 => h9) rfl dB_36_3_60.1.1.2.1 ?_
              refine lv_iload_n hx hb dB_36_3_60.1.1.2.2 rfl (lv_at hl 1 rfl) ?_
              refine va_aldq hx hb hK.1 hP 1 4 rfl rfl (i := 2) (by unfold vp_in; decide) dB_36_3_60.1.2.1.1 ?_
              refine lv_topv (v' := .ref m2) (by simp [va_up, va_rf, mf_, cl_0, cl_1, cl_2, cl_3, cl_4]) ?_
              refine lv_iload_n hx hb dB_36_3_60.1.2.1.2 rfl (lv_at hl 2 rfl) ?_
              refine ct_R hP hD0 [ob4_0_ m2 mk2 mr2 l2 u2] [4] (by decide) rfl (fun hPc hDw => ?_)
              have hFc := va_free (wc := []) hD hS hA [] rfl
              refine va_calli (va_runV (As := [.int a2]) (rest := []) ⟨hx, hb, hml, hown, hts⟩ (c_X4_hasRow l D cy H.size m2 l2 u2 mk2 mr2 a2) (cwV 1 hts gX11_rowRefusal_X4_hasRow rfl rfl rfl ⟨rfl, hd_X4_hasRow⟩ ⟨Nat.le_of_ble_eq_true rfl, Nat.le_of_ble_eq_true rfl⟩) ⟨bl_, va_recvX hK.1 hP (ci := 4) (q0 := 4) rfl rfl, fun U hU hW => ⟨rfl, by rw [hU], by rw [hU]; exact hPc, kk_mv hW hK, hDw⟩⟩ rfl rfl hl.1 rfl (lv_room (Nat.le_of_ble_eq_true rfl)) dB_36_3_60.1.2.2.1 ⟨Nat.le_of_ble_eq_true rfl, Nat.le_of_ble_eq_true rfl⟩) hS (fun q _ h => hFc q h) hFc (fun r_26 u t H locs ht hvm hw hB hz1 hk1 hS => ?_)
              have hP : va_P D vwCl _ H := ro_keep hP hk1
              rcases hw with ⟨w_27, e_⟩ | ⟨w_27, e_⟩
              · have e_ := e_.symm
                subst e_
                refine lv_if_ne (tgt := 45) hx hb dB_36_3_60.1.2.2.2 (by decide) (fun c_28 => ?_) (fun c_28 => ?_)
                · have _ := c_28
                  refine lv_iload_n hx hb dB_36_3_60.2.1.2.1 rfl (lv_at hl 3 rfl) ?_
                  refine lv_if_ge (tgt := 54) hx hb dB_36_3_60.2.1.2.2 (by decide) (fun c_29 => ?_) (fun c_29 => ?_)
                  · have t_29 : (0 : Int32).toInt ≤ a3.toInt := Int32.le_iff_toInt_le.mp c_29
                    refine lv_iconst (v := 0) hx hb dB_36_3_60.2.2.2.1 (by decide) ?_
                    rw [hQ]
                    exact W.iret (v := 0) hx hb hr (fun t ht hW => ⟨⟨0, (), rfl, ⟨by first | (simp only [f4_c0, f4_c1, f4_c2, f4_c3]; unfold rowRI hasI; (repeat' (first | with_reducible refine if_n (by omega) ?_ | with_reducible refine if_ns (by omega) ?_ | with_reducible refine if_nz (by omega) ?_ | with_reducible exact if_p (by omega) (by omega) | with_reducible exact if_ps (by omega) (by omega) | with_reducible exact if_pz (by omega) (by omega))) <;> omega) | (unfold rowRI hasI; (repeat' (first | with_reducible refine if_n (by omega) ?_ | with_reducible refine if_ns (by omega) ?_ | with_reducible refine if_nz (by omega) ?_ | with_reducible exact if_p (by omega) (by omega) | with_reducible exact if_ps (by omega) (by omega) | with_reducible exact if_pz (by omega) (by omega))) <;> omega), by omega⟩, trivial⟩, hS.F ht⟩) hS.2.2 dB_36_3_60.2.2.2.2
                  · have t_29 : ¬ (0 : Int32).toInt ≤ a3.toInt := fun h => c_29 (Int32.le_iff_toInt_le.mpr h)
                    refine lv_bipush (v := (-15)) hx hb dB_36_3_60.2.2.1.1 (by decide) ?_
                    refine lv_goto (tgt := 55) hx hb dB_36_3_60.2.2.1.2 (by decide) ?_
                    rw [hQ]
                    exact W.iret (v := (-15)) hx hb hr (fun t ht hW => ⟨⟨(-15), (), rfl, ⟨by first | (simp only [f4_c0, f4_c1, f4_c2, f4_c3]; unfold rowRI hasI; (repeat' (first | with_reducible refine if_n (by omega) ?_ | with_reducible refine if_ns (by omega) ?_ | with_reducible refine if_nz (by omega) ?_ | with_reducible exact if_p (by omega) (by omega) | with_reducible exact if_ps (by omega) (by omega) | with_reducible exact if_pz (by omega) (by omega))) <;> omega) | (unfold rowRI hasI; (repeat' (first | with_reducible refine if_n (by omega) ?_ | with_reducible refine if_ns (by omega) ?_ | with_reducible refine if_nz (by omega) ?_ | with_reducible exact if_p (by omega) (by omega) | with_reducible exact if_ps (by omega) (by omega) | with_reducible exact if_pz (by omega) (by omega))) <;> omega), by omega⟩, trivial⟩, hS.F ht⟩) hS.2.2 dB_36_3_60.2.2.2.2
                · exact absurd c_28 (by decide)
              · have e_ := e_.symm
                subst e_
                refine lv_if_ne (tgt := 45) hx hb dB_36_3_60.1.2.2.2 (by decide) (fun c_30 => ?_) (fun c_30 => ?_)
                · exact absurd c_30 (by decide)
                · have _ := c_30
                  refine lv_bipush (v := (-12)) hx hb dB_36_3_60.2.1.1.1 (by decide) ?_
                  rw [hQ]
                  exact W.iret (v := (-12)) hx hb hr (fun t ht hW => ⟨⟨(-12), (), rfl, ⟨by first | (simp only [f4_c0, f4_c1, f4_c2, f4_c3]; unfold rowRI hasI; (repeat' (first | with_reducible refine if_n (by omega) ?_ | with_reducible refine if_ns (by omega) ?_ | with_reducible refine if_nz (by omega) ?_ | with_reducible exact if_p (by omega) (by omega) | with_reducible exact if_ps (by omega) (by omega) | with_reducible exact if_pz (by omega) (by omega))) <;> omega) | (unfold rowRI hasI; (repeat' (first | with_reducible refine if_n (by omega) ?_ | with_reducible refine if_ns (by omega) ?_ | with_reducible refine if_nz (by omega) ?_ | with_reducible exact if_p (by omega) (by omega) | with_reducible exact if_ps (by omega) (by omega) | with_reducible exact if_pz (by omega) (by omega))) <;> omega), by omega⟩, trivial⟩, hS.F ht⟩) hS.2.2 dB_36_3_60.2.1.1.2
            · exact absurd c_25 (by decide)
          · have e_ := e_.symm
            subst e_
            refine lv_if_ne (tgt := 29) hx hb dB_36_3_59.2.2.1.2 (by decide) (fun c_31 => ?_) (fun c_31 => ?_)
            · exact absurd c_31 (by decide)
            · have _ := c_31
              refine lv_bipush (v := (-11)) hx hb dB_36_3_59.2.2.2.1 (by decide) ?_
              rw [hQ]
              exact W.iret (v := (-11)) hx hb hr (fun t ht hW => ⟨⟨(-11), (), rfl, ⟨by first | (simp only [f4_c0, f4_c1, f4_c2, f4_c3]; unfold rowRI hasI; (repeat' (first | with_reducible refine if_n (by omega) ?_ | with_reducible refine if_ns (by omega) ?_ | with_reducible refine if_nz (by omega) ?_ | with_reducible exact if_p (by omega) (by omega) | with_reducible exact if_ps (by omega) (by omega) | with_reducible exact if_pz (by omega) (by omega))) <;> omega) | (unfold rowRI hasI; (repeat' (first | with_reducible refine if_n (by omega) ?_ | with_reducible refine if_ns (by omega) ?_ | with_reducible refine if_nz (by omega) ?_ | with_reducible exact if_p (by omega) (by omega) | with_reducible exact if_ps (by omega) (by omega) | with_reducible exact if_pz (by omega) (by omega))) <;> omega), by omega⟩, trivial⟩, hS.F ht⟩) hS.2.2 dB_36_3_59.2.2.2.2
        · refine lv_aload_n hx hb dB_36_3_59.2.1.1.1 rfl (lv_at hl 0 rfl) ?_
          refine va_get (ci := 11) (v := .ref xm) (C := RX11) (T := TX11) (N := 12) hx hb hts (fun _ h => List.mem_cons_of_mem _ (List.mem_append_left _ (List.mem_append_right _ h))) hown hK.1 hP 0 rfl rfl 6 (by decide) (hts (.fieldLink RX11 72 "CutAtlas" "maps" "[LCutAtlas$NumberMap;") (List.mem_of_getElem? (i := 1) rfl)) (fun _ h9 => h9) rfl dB_36_3_59.2.1.1.2 ?_
          refine lv_iload_n hx hb dB_36_3_59.2.1.2.1 rfl (lv_at hl 1 rfl) ?_
          refine va_aldq hx hb hK.1 hP 1 4 rfl rfl (i := 3) (by unfold vp_in; decide) dB_36_3_59.2.1.2.2 ?_
          refine lv_topv (v' := .ref m3) (by simp [va_up, va_rf, mf_, cl_0, cl_1, cl_2, cl_3, cl_4]) ?_
          refine ct_R hP hD0 [ob4_0_ m3 mk3 mr3 l3 u3] [5] (by decide) rfl (fun hPc hDw => ?_)
          have hFc := va_free (wc := []) hD hS hA [] rfl
          refine va_calli (va_runV (As := []) (rest := []) ⟨hx, hb, hml, hown, hts⟩ (c_X4_isThere l D cy H.size m3 l3 u3 mk3 mr3) (cwV 0 hts gX11_rowRefusal_X4_isThere rfl rfl rfl ⟨rfl, hd_X4_isThere⟩ ⟨Nat.le_of_ble_eq_true rfl, Nat.le_of_ble_eq_true rfl⟩) ⟨bl_, va_recvX hK.1 hP (ci := 4) (q0 := 5) rfl rfl, fun U hU hW => ⟨rfl, by rw [hU], by rw [hU]; exact hPc, kk_mv hW hK, hDw⟩⟩ rfl rfl hl.1 rfl (lv_room (Nat.le_of_ble_eq_true rfl)) dB_36_3_59.2.2.1.1 ⟨Nat.le_of_ble_eq_true rfl, Nat.le_of_ble_eq_true rfl⟩) hS (fun q _ h => hFc q h) hFc (fun r_32 u t H locs ht hvm hw hB hz1 hk1 hS => ?_)
          have hP : va_P D vwCl _ H := ro_keep hP hk1
          rcases hw with ⟨w_33, e_⟩ | ⟨w_33, e_⟩
          · have e_ := e_.symm
            subst e_
            refine lv_if_ne (tgt := 29) hx hb dB_36_3_59.2.2.1.2 (by decide) (fun c_34 => ?_) (fun c_34 => ?_)
            · have _ := c_34
              refine lv_aload_n hx hb dB_36_3_60.1.1.1 rfl (lv_at hl 0 rfl) ?_
              refine va_get (ci := 11) (v := .ref xm) (C := RX11) (T := TX11) (N := 12) hx hb hts (fun _ h => List.mem_cons_of_mem _ (List.mem_append_left _ (List.mem_append_right _ h))) hown hK.1 hP 0 rfl rfl 6 (by decide) (hts (.fieldLink RX11 72 "CutAtlas" "maps" "[LCutAtlas$NumberMap;") (List.mem_of_getElem? (i := 1) rfl)) (fun _ h9 => h9) rfl dB_36_3_60.1.1.2.1 ?_
              refine lv_iload_n hx hb dB_36_3_60.1.1.2.2 rfl (lv_at hl 1 rfl) ?_
              refine va_aldq hx hb hK.1 hP 1 4 rfl rfl (i := 3) (by unfold vp_in; decide) dB_36_3_60.1.2.1.1 ?_
              refine lv_topv (v' := .ref m3) (by simp [va_up, va_rf, mf_, cl_0, cl_1, cl_2, cl_3, cl_4]) ?_
              refine lv_iload_n hx hb dB_36_3_60.1.2.1.2 rfl (lv_at hl 2 rfl) ?_
              refine ct_R hP hD0 [ob4_0_ m3 mk3 mr3 l3 u3] [5] (by decide) rfl (fun hPc hDw => ?_)
              have hFc := va_free (wc := []) hD hS hA [] rfl
              refine va_calli (va_runV (As := [.int a2]) (rest := []) ⟨hx, hb, hml, hown, hts⟩ (c_X4_hasRow l D cy H.size m3 l3 u3 mk3 mr3 a2) (cwV 1 hts gX11_rowRefusal_X4_hasRow rfl rfl rfl ⟨rfl, hd_X4_hasRow⟩ ⟨Nat.le_of_ble_eq_true rfl, Nat.le_of_ble_eq_true rfl⟩) ⟨bl_, va_recvX hK.1 hP (ci := 4) (q0 := 5) rfl rfl, fun U hU hW => ⟨rfl, by rw [hU], by rw [hU]; exact hPc, kk_mv hW hK, hDw⟩⟩ rfl rfl hl.1 rfl (lv_room (Nat.le_of_ble_eq_true rfl)) dB_36_3_60.1.2.2.1 ⟨Nat.le_of_ble_eq_true rfl, Nat.le_of_ble_eq_true rfl⟩) hS (fun q _ h => hFc q h) hFc (fun r_35 u t H locs ht hvm hw hB hz1 hk1 hS => ?_)
              have hP : va_P D vwCl _ H := ro_keep hP hk1
              rcases hw with ⟨w_36, e_⟩ | ⟨w_36, e_⟩
              · have e_ := e_.symm
                subst e_
                refine lv_if_ne (tgt := 45) hx hb dB_36_3_60.1.2.2.2 (by decide) (fun c_37 => ?_) (fun c_37 => ?_)
                · have _ := c_37
                  refine lv_iload_n hx hb dB_36_3_60.2.1.2.1 rfl (lv_at hl 3 rfl) ?_
                  refine lv_if_ge (tgt := 54) hx hb dB_36_3_60.2.1.2.2 (by decide) (fun c_38 => ?_) (fun c_38 => ?_)
                  · have t_38 : (0 : Int32).toInt ≤ a3.toInt := Int32.le_iff_toInt_le.mp c_38
                    refine lv_iconst (v := 0) hx hb dB_36_3_60.2.2.2.1 (by decide) ?_
                    rw [hQ]
                    exact W.iret (v := 0) hx hb hr (fun t ht hW => ⟨⟨0, (), rfl, ⟨by first | (simp only [f4_c0, f4_c1, f4_c2, f4_c3]; unfold rowRI hasI; (repeat' (first | with_reducible refine if_n (by omega) ?_ | with_reducible refine if_ns (by omega) ?_ | with_reducible refine if_nz (by omega) ?_ | with_reducible exact if_p (by omega) (by omega) | with_reducible exact if_ps (by omega) (by omega) | with_reducible exact if_pz (by omega) (by omega))) <;> omega) | (unfold rowRI hasI; (repeat' (first | with_reducible refine if_n (by omega) ?_ | with_reducible refine if_ns (by omega) ?_ | with_reducible refine if_nz (by omega) ?_ | with_reducible exact if_p (by omega) (by omega) | with_reducible exact if_ps (by omega) (by omega) | with_reducible exact if_pz (by omega) (by omega))) <;> omega), by omega⟩, trivial⟩, hS.F ht⟩) hS.2.2 dB_36_3_60.2.2.2.2
                  · have t_38 : ¬ (0 : Int32).toInt ≤ a3.toInt := fun h => c_38 (Int32.le_iff_toInt_le.mpr h)
                    refine lv_bipush (v := (-15)) hx hb dB_36_3_60.2.2.1.1 (by decide) ?_
                    refine lv_goto (tgt := 55) hx hb dB_36_3_60.2.2.1.2 (by decide) ?_
                    rw [hQ]
                    exact W.iret (v := (-15)) hx hb hr (fun t ht hW => ⟨⟨(-15), (), rfl, ⟨by first | (simp only [f4_c0, f4_c1, f4_c2, f4_c3]; unfold rowRI hasI; (repeat' (first | with_reducible refine if_n (by omega) ?_ | with_reducible refine if_ns (by omega) ?_ | with_reducible refine if_nz (by omega) ?_ | with_reducible exact if_p (by omega) (by omega) | with_reducible exact if_ps (by omega) (by omega) | with_reducible exact if_pz (by omega) (by omega))) <;> omega) | (unfold rowRI hasI; (repeat' (first | with_reducible refine if_n (by omega) ?_ | with_reducible refine if_ns (by omega) ?_ | with_reducible refine if_nz (by omega) ?_ | with_reducible exact if_p (by omega) (by omega) | with_reducible exact if_ps (by omega) (by omega) | with_reducible exact if_pz (by omega) (by omega))) <;> omega), by omega⟩, trivial⟩, hS.F ht⟩) hS.2.2 dB_36_3_60.2.2.2.2
                · exact absurd c_37 (by decide)
              · have e_ := e_.symm
                subst e_
                refine lv_if_ne (tgt := 45) hx hb dB_36_3_60.1.2.2.2 (by decide) (fun c_39 => ?_) (fun c_39 => ?_)
                · exact absurd c_39 (by decide)
                · have _ := c_39
                  refine lv_bipush (v := (-12)) hx hb dB_36_3_60.2.1.1.1 (by decide) ?_
                  rw [hQ]
                  exact W.iret (v := (-12)) hx hb hr (fun t ht hW => ⟨⟨(-12), (), rfl, ⟨by first | (simp only [f4_c0, f4_c1, f4_c2, f4_c3]; unfold rowRI hasI; (repeat' (first | with_reducible refine if_n (by omega) ?_ | with_reducible refine if_ns (by omega) ?_ | with_reducible refine if_nz (by omega) ?_ | with_reducible exact if_p (by omega) (by omega) | with_reducible exact if_ps (by omega) (by omega) | with_reducible exact if_pz (by omega) (by omega))) <;> omega) | (unfold rowRI hasI; (repeat' (first | with_reducible refine if_n (by omega) ?_ | with_reducible refine if_ns (by omega) ?_ | with_reducible refine if_nz (by omega) ?_ | with_reducible exact if_p (by omega) (by omega) | with_reducible exact if_ps (by omega) (by omega) | with_reducible exact if_pz (by omega) (by omega))) <;> omega), by omega⟩, trivial⟩, hS.F ht⟩) hS.2.2 dB_36_3_60.2.1.1.2
            · exact absurd c_34 (by decide)
          · have e_ := e_.symm
            subst e_
            refine lv_if_ne (tgt := 29) hx hb dB_36_3_59.2.2.1.2 (by decide) (fun c_40 => ?_) (fun c_40 => ?_)
            · exact absurd c_40 (by decide)
            · have _ := c_40
              refine lv_bipush (v := (-11)) hx hb dB_36_3_59.2.2.2.1 (by decide) ?_
              rw [hQ]
              exact W.iret (v := (-11)) hx hb hr (fun t ht hW => ⟨⟨(-11), (), rfl, ⟨by first | (simp only [f4_c0, f4_c1, f4_c2, f4_c3]; unfold rowRI hasI; (repeat' (first | with_reducible refine if_n (by omega) ?_ | with_reducible refine if_ns (by omega) ?_ | with_reducible refine if_nz (by omega) ?_ | with_reducible exact if_p (by omega) (by omega) | with_reducible exact if_ps (by omega) (by omega) | with_reducible exact if_pz (by omega) (by omega))) <;> omega) | (unfold rowRI hasI; (repeat' (first | with_reducible refine if_n (by omega) ?_ | with_reducible refine if_ns (by omega) ?_ | with_reducible refine if_nz (by omega) ?_ | with_reducible exact if_p (by omega) (by omega) | with_reducible exact if_ps (by omega) (by omega) | with_reducible exact if_pz (by omega) (by omega))) <;> omega), by omega⟩, trivial⟩, hS.F ht⟩) hS.2.2 dB_36_3_59.2.2.2.2
      · have t_4 : ¬ a3.toInt ≤ (5 : Int32).toInt := fun h => c_4 (Int32.le_iff_toInt_le.mpr h)
        refine lv_iconst (v := (-1)) hx hb dB_36_3_59.1.2.2.1 (by decide) ?_
        rw [hQ]
        exact W.iret (v := (-1)) hx hb hr (fun t ht hW => ⟨⟨(-1), (), rfl, ⟨by first | (simp only [f4_c0, f4_c1, f4_c2, f4_c3]; unfold rowRI hasI; (repeat' (first | with_reducible refine if_n (by omega) ?_ | with_reducible refine if_ns (by omega) ?_ | with_reducible refine if_nz (by omega) ?_ | with_reducible exact if_p (by omega) (by omega) | with_reducible exact if_ps (by omega) (by omega) | with_reducible exact if_pz (by omega) (by omega))) <;> omega) | (unfold rowRI hasI; (repeat' (first | with_reducible refine if_n (by omega) ?_ | with_reducible refine if_ns (by omega) ?_ | with_reducible refine if_nz (by omega) ?_ | with_reducible exact if_p (by omega) (by omega) | with_reducible exact if_ps (by omega) (by omega) | with_reducible exact if_pz (by omega) (by omega))) <;> omega), by omega⟩, trivial⟩, hS.F ht⟩) hS.2.2 dB_36_3_59.1.2.2.2
  · have e_ := e_.symm
    subst e_
    refine lv_if_eq (tgt := 12) hx hb dB_36_3_59.1.1.2.1 (by decide) (fun c_41 => ?_) (fun c_41 => ?_)
    · have _ := c_41
      refine lv_iconst (v := (-1)) hx hb dB_36_3_59.1.2.2.1 (by decide) ?_
      rw [hQ]
      exact W.iret (v := (-1)) hx hb hr (fun t ht hW => ⟨⟨(-1), (), rfl, ⟨by first | (simp only [f4_c0, f4_c1, f4_c2, f4_c3]; unfold rowRI hasI; (repeat' (first | with_reducible refine if_n (by omega) ?_ | with_reducible refine if_ns (by omega) ?_ | with_reducible refine if_nz (by omega) ?_ | with_reducible exact if_p (by omega) (by omega) | with_reducible exact if_ps (by omega) (by omega) | with_reducible exact if_pz (by omega) (by omega))) <;> omega) | (unfold rowRI hasI; (repeat' (first | with_reducible refine if_n (by omega) ?_ | with_reducible refine if_ns (by omega) ?_ | with_reducible refine if_nz (by omega) ?_ | with_reducible exact if_p (by omega) (by omega) | with_reducible exact if_ps (by omega) (by omega) | with_reducible exact if_pz (by omega) (by omega))) <;> omega), by omega⟩, trivial⟩, hS.F ht⟩) hS.2.2 dB_36_3_59.1.2.2.2
    · exact absurd c_41 (by decide)

set_option maxHeartbeats 4000000 in
set_option maxRecDepth 100000 in
theorem c_X11_numberRefusal2 (l : Launch) (D : va_G) (cy : Nat → ClassId) (sz : Nat) (xo : Nat) (xk : Nat) (xn : Nat) (xc : Nat) (xh : Nat) (xt : Nat) (xw : Nat) (xm : Nat) (xp : Nat) (pf : Int32) (ph : Int32) (tr : Int64) (fi : Int32) (m0 : Nat) (l0 : Nat) (u0 : Nat) (m1 : Nat) (l1 : Nat) (u1 : Nat) (m2 : Nat) (l2 : Nat) (u2 : Nat) (m3 : Nat) (l3 : Nat) (u3 : Nat) (mk0 : Int32) (mr0 : Int32) (mk1 : Int32) (mr1 : Int32) (mk2 : Int32) (mr2 : Int32) (mk3 : Int32) (mr3 : Int32) (fl0 : Nat → Int32) (fl1 : Nat → Int32) (fl2 : Nat → Int32) (fl3 : Nat → Int32) (a1 : Int32) (a2 : Int32) (a3 : Int32) (a4 : Int32) (hmr0 : mr0.toInt = -9 ∨ (0 ≤ mr0.toInt ∧ mr0.toInt ≤ 6)) (hmr1 : mr1.toInt = -9 ∨ (0 ≤ mr1.toInt ∧ mr1.toInt ≤ 6)) (hmr2 : mr2.toInt = -9 ∨ (0 ≤ mr2.toInt ∧ mr2.toInt ≤ 6)) (hmr3 : mr3.toInt = -9 ∨ (0 ≤ mr3.toInt ∧ mr3.toInt ≤ 6)) (r_fl0 : rng fl0 6 (-9) (5)) (r_fl1 : rng fl1 6 (-9) (5)) (r_fl2 : rng fl2 6 (-9) (5)) (r_fl3 : rng fl3 6 (-9) (5)) : Met l yX11_numberRefusal wsX11_numberRefusal ({ frames := 1, cells := 0, slots := 0, locals := 21 }) (va_Pc [.ref xo, .int a1, .int a2, .int a3, .int a4] (fun U => U.heap.size = sz ∧ va_P D vwCl [ob11_0_ xo xk xn xc xh xt xw xm xp pf ph tr fi, aq_ cy 4 xm 4 (mf_ m0 m1 m2 m3), ob4_0_ m0 mk0 mr0 l0 u0, ob4_0_ m1 mk1 mr1 l1 u1, ob4_0_ m2 mk2 mr2 l2 u2, ob4_0_ m3 mk3 mr3 l3 u3, ai_ cy l0 6 fl0, ai_ cy l1 6 fl1, ai_ cy l2 6 fl2, ai_ cy l3 6 fl3] U.heap ∧ kk_ D cy U ∧ va_D (fun _ => True) [ob11_0_ xo xk xn xc xh xt xw xm xp pf ph tr fi, aq_ cy 4 xm 4 (mf_ m0 m1 m2 m3), ob4_0_ m0 mk0 mr0 l0 u0, ob4_0_ m1 mk1 mr1 l1 u1, ob4_0_ m2 mk2 mr2 l2 u2, ob4_0_ m3 mk3 mr3 l3 u3, ai_ cy l0 6 fl0, ai_ cy l1 6 fl1, ai_ cy l2 6 fl2, ai_ cy l3 6 fl3])) (va_Qi (fun (r : Int32) (_ : Unit) => (r.toInt = wrgI a1.toInt a2.toInt a3.toInt a4.toInt (hasI ((f4_ mr0 mr1 mr2 mr3) a1.toNatClampNeg).toInt) ((f4_ mk0 mk1 mk2 mk3) a1.toNatClampNeg).toInt ((f4_ mr0 mr1 mr2 mr3) a1.toNatClampNeg).toInt ((f4_ fl0 fl1 fl2 fl3) a1.toNatClampNeg a3.toNatClampNeg).toInt) ∧ (r.toInt < 0 ∨ (r.toInt = 0 ∧ (0 ≤ a1.toInt ∧ a1.toInt < 4) ∧ (0 ≤ a3.toInt ∧ a3.toInt ≤ 5) ∧ (0 ≤ a4.toInt ∧ a4.toInt ≤ 4)))) (fun (_ : Unit) (_ : State) => True) (va_A [] sz)) 0 0 (va_A [] sz) := by
  refine ofQ (cc := cX11_numberRefusal) (maxL := 5) (ret := (some .int)) (by decide) rfl ?_
  intro p e s m args below meth c s₁ Q hQ B hml hv
  obtain ⟨rfl, hsz, hP, hK, hD0⟩ := hv
  have hx := B.exec
  have hb := B.bytes
  have hr := B.returns
  have hts := atoms_spec (ws := wsX11_numberRefusal) B.pre
  have hown : s.vm.findClass RX11 = some m.cls := by have h_ := findClass_of_methodNamed B.named; exact h_
  have hlocks := B.notSynchronized
  subst hsz
  have hD : va_D (va_A [] s.heap.size) [] := dd_nil
  generalize hAe : va_A [] s.heap.size = A at hD hQ
  have hA : ∀ q : Nat, s.heap.size ≤ q → A q := fun q h => by rw [← hAe]; exact Or.inr h
  have hS : va_S A s.heap s.heap [] := va_S.rf
  have hl := lv_entry ([.ref xo, .int a1, .int a2, .int a3, .int a4]) (n := 5) (Nat.le_of_ble_eq_true rfl)
  rw [lg_entry_eq]
  generalize (lg_sl ([.ref xo, .int a1, .int a2, .int a3, .int a4]) ++ List.replicate (5 - (lg_sl ([.ref xo, .int a1, .int a2, .int a3, .int a4])).length) Slot.unset).toArray = ls at hl ⊢
  have hl : lv_has ls 5 [(0, .ref xo), (1, .int a1), (2, .int a2), (3, .int a3), (4, .int a4)] := hl
  have zm13 : ((-13) : Int32).toInt = -13 := by decide
  have zm12 : ((-12) : Int32).toInt = -12 := by decide
  have zm11 : ((-11) : Int32).toInt = -11 := by decide
  have zm1 : ((-1) : Int32).toInt = -1 := by decide
  have z0 : (0 : Int32).toInt = 0 := by decide
  refine lv_iload_n hx hb dB_36_3_38.1.1.1.1 rfl (lv_at hl 1 rfl) ?_
  refine ct_R hP hD0 [] [] (by decide) rfl (fun hPc hDw => ?_)
  have hFc := va_free (wc := []) hD hS hA [] rfl
  refine va_calli (va_runS (As := [.int a1]) (rest := []) ⟨hx, hb, hml, hown, hts⟩ (c_X11_isMapNumber l D cy s.heap.size a1) (va_cwS 1 hts gX11_numberRefusal_X11_isMapNumber rfl rfl rfl hd_X11_isMapNumber ⟨Nat.le_of_ble_eq_true rfl, Nat.le_of_ble_eq_true rfl⟩) ⟨bl_, fun U hU hW => ⟨rfl, by rw [hU], by rw [hU]; exact hPc, kk_mv hW hK, hDw⟩⟩ rfl rfl hl.1 rfl (lv_room (Nat.le_of_ble_eq_true rfl)) dB_36_3_38.1.1.1.2 ⟨Nat.le_of_ble_eq_true rfl, Nat.le_of_ble_eq_true rfl⟩) hS (fun q _ h => hFc q h) hFc (fun r_1 u t H locs ht hvm hw hB hz1 hk1 hS => ?_)
  have hP : va_P D vwCl _ H := ro_keep hP hk1
  rcases hw with ⟨w_2, e_⟩ | ⟨w_2, e_⟩
  · have e_ := e_.symm
    subst e_
    refine lv_if_eq (tgt := 14) hx hb dB_36_3_38.1.1.2.1 (by decide) (fun c_3 => ?_) (fun c_3 => ?_)
    · exact absurd c_3 (by decide)
    · have _ := c_3
      refine lv_iload_n hx hb dB_36_3_38.1.1.2.2 rfl (lv_at hl 2 rfl) ?_
      refine ct_R hP hD0 [] [] (by decide) rfl (fun hPc hDw => ?_)
      have hFc := va_free (wc := []) hD hS hA [] rfl
      refine va_calli (va_runS (As := [.int a2]) (rest := []) ⟨hx, hb, hml, hown, hts⟩ (c_X11_isMapKind l D cy H.size a2) (va_cwS 1 hts gX11_numberRefusal_X11_isMapKind rfl rfl rfl hd_X11_isMapKind ⟨Nat.le_of_ble_eq_true rfl, Nat.le_of_ble_eq_true rfl⟩) ⟨bl_, fun U hU hW => ⟨rfl, by rw [hU], by rw [hU]; exact hPc, kk_mv hW hK, hDw⟩⟩ rfl rfl hl.1 rfl (lv_room (Nat.le_of_ble_eq_true rfl)) dB_36_3_38.1.2.1.1 ⟨Nat.le_of_ble_eq_true rfl, Nat.le_of_ble_eq_true rfl⟩) hS (fun q _ h => hFc q h) hFc (fun r_4 u t H locs ht hvm hw hB hz1 hk1 hS => ?_)
      have hP : va_P D vwCl _ H := ro_keep hP hk1
      rcases hw with ⟨w_5, e_⟩ | ⟨w_5, e_⟩
      · have e_ := e_.symm
        subst e_
        refine lv_if_ne (tgt := 16) hx hb dB_36_3_38.1.2.1.2 (by decide) (fun c_6 => ?_) (fun c_6 => ?_)
        · have _ := c_6
          rcases sp_4 (x := a1) (by omega) with rfl | rfl | rfl | rfl
          · refine lv_aload_n hx hb dB_36_3_38.2.1.1.1 rfl (lv_at hl 0 rfl) ?_
            refine va_get (ci := 11) (v := .ref xm) (C := RX11) (T := TX11) (N := 12) hx hb hts (fun _ h => List.mem_cons_of_mem _ (List.mem_append_left _ (List.mem_append_right _ h))) hown hK.1 hP 0 rfl rfl 6 (by decide) (hts (.fieldLink RX11 72 "CutAtlas" "maps" "[LCutAtlas$NumberMap;") (List.mem_of_getElem? (i := 1) rfl)) (fun _ h9 => h9) rfl dB_36_3_38.2.1.1.2 ?_
            refine lv_iload_n hx hb dB_36_3_38.2.1.2.1 rfl (lv_at hl 1 rfl) ?_
            refine va_aldq hx hb hK.1 hP 1 4 rfl rfl (i := 0) (by unfold vp_in; decide) dB_36_3_38.2.1.2.2 ?_
            refine lv_topv (v' := .ref m0) (by simp [va_up, va_rf, mf_, cl_0, cl_1, cl_2, cl_3, cl_4]) ?_
            refine ct_R hP hD0 [ob4_0_ m0 mk0 mr0 l0 u0] [2] (by decide) rfl (fun hPc hDw => ?_)
            have hFc := va_free (wc := []) hD hS hA [] rfl
            refine va_calli (va_runV (As := []) (rest := []) ⟨hx, hb, hml, hown, hts⟩ (c_X4_isThere l D cy H.size m0 l0 u0 mk0 mr0) (cwV 0 hts gX11_numberRefusal_X4_isThere rfl rfl rfl ⟨rfl, hd_X4_isThere⟩ ⟨Nat.le_of_ble_eq_true rfl, Nat.le_of_ble_eq_true rfl⟩) ⟨bl_, va_recvX hK.1 hP (ci := 4) (q0 := 2) rfl rfl, fun U hU hW => ⟨rfl, by rw [hU], by rw [hU]; exact hPc, kk_mv hW hK, hDw⟩⟩ rfl rfl hl.1 rfl (lv_room (Nat.le_of_ble_eq_true rfl)) dB_36_3_38.2.2.1.1 ⟨Nat.le_of_ble_eq_true rfl, Nat.le_of_ble_eq_true rfl⟩) hS (fun q _ h => hFc q h) hFc (fun r_7 u t H locs ht hvm hw hB hz1 hk1 hS => ?_)
            have hP : va_P D vwCl _ H := ro_keep hP hk1
            rcases hw with ⟨w_8, e_⟩ | ⟨w_8, e_⟩
            · have e_ := e_.symm
              subst e_
              refine lv_if_ne (tgt := 31) hx hb dB_36_3_38.2.2.1.2 (by decide) (fun c_9 => ?_) (fun c_9 => ?_)
              · have _ := c_9
                refine lv_aload_n hx hb dB_36_3_39.1.1.1.1 rfl (lv_at hl 0 rfl) ?_
                refine va_get (ci := 11) (v := .ref xm) (C := RX11) (T := TX11) (N := 12) hx hb hts (fun _ h => List.mem_cons_of_mem _ (List.mem_append_left _ (List.mem_append_right _ h))) hown hK.1 hP 0 rfl rfl 6 (by decide) (hts (.fieldLink RX11 72 "CutAtlas" "maps" "[LCutAtlas$NumberMap;") (List.mem_of_getElem? (i := 1) rfl)) (fun _ h9 => h9) rfl dB_36_3_39.1.1.1.2 ?_
                refine lv_iload_n hx hb dB_36_3_39.1.1.2.1 rfl (lv_at hl 1 rfl) ?_
                refine va_aldq hx hb hK.1 hP 1 4 rfl rfl (i := 0) (by unfold vp_in; decide) dB_36_3_39.1.1.2.2 ?_
                refine lv_topv (v' := .ref m0) (by simp [va_up, va_rf, mf_, cl_0, cl_1, cl_2, cl_3, cl_4]) ?_
                refine va_get (ci := 4) (v := .int mk0) (C := RX4) (T := TX4) (N := 4) hx hb hts (fun _ h => List.mem_cons_of_mem _ (List.mem_append_right _ h)) hown hK.1 hP 2 rfl rfl 0 (by decide) (hts (.fieldLink RX11 318 "CutAtlas$NumberMap" "kind" "I") (List.mem_of_getElem? (i := 2) rfl)) (fun _ h9 => h9) rfl dB_36_3_39.1.2.1.1 ?_
                refine lv_iload_n hx hb dB_36_3_39.1.2.1.2 rfl (lv_at hl 2 rfl) ?_
                refine lv_icmp_eq (tgt := 47) hx hb dB_36_3_39.1.2.2.1 (by decide) (fun c_10 => ?_) (fun c_10 => ?_)
                · have t_10 : mk0.toInt = a2.toInt := congrArg Int32.toInt c_10
                  refine lv_aload_n hx hb dB_36_3_39.2.1.1.2 rfl (lv_at hl 0 rfl) ?_
                  refine va_get (ci := 11) (v := .ref xm) (C := RX11) (T := TX11) (N := 12) hx hb hts (fun _ h => List.mem_cons_of_mem _ (List.mem_append_left _ (List.mem_append_right _ h))) hown hK.1 hP 0 rfl rfl 6 (by decide) (hts (.fieldLink RX11 72 "CutAtlas" "maps" "[LCutAtlas$NumberMap;") (List.mem_of_getElem? (i := 1) rfl)) (fun _ h9 => h9) rfl dB_36_3_39.2.1.2.1 ?_
                  refine lv_iload_n hx hb dB_36_3_39.2.1.2.2 rfl (lv_at hl 1 rfl) ?_
                  refine va_aldq hx hb hK.1 hP 1 4 rfl rfl (i := 0) (by unfold vp_in; decide) dB_36_3_39.2.2.1.1 ?_
                  refine lv_topv (v' := .ref m0) (by simp [va_up, va_rf, mf_, cl_0, cl_1, cl_2, cl_3, cl_4]) ?_
                  refine lv_iload_n hx hb dB_36_3_39.2.2.1.2 rfl (lv_at hl 3 rfl) ?_
                  refine ct_R hP hD0 [ob4_0_ m0 mk0 mr0 l0 u0] [2] (by decide) rfl (fun hPc hDw => ?_)
                  have hFc := va_free (wc := []) hD hS hA [] rfl
                  refine va_calli (va_runV (As := [.int a3]) (rest := []) ⟨hx, hb, hml, hown, hts⟩ (c_X4_hasRow l D cy H.size m0 l0 u0 mk0 mr0 a3) (cwV 1 hts gX11_numberRefusal_X4_hasRow rfl rfl rfl ⟨rfl, hd_X4_hasRow⟩ ⟨Nat.le_of_ble_eq_true rfl, Nat.le_of_ble_eq_true rfl⟩) ⟨bl_, va_recvX hK.1 hP (ci := 4) (q0 := 2) rfl rfl, fun U hU hW => ⟨rfl, by rw [hU], by rw [hU]; exact hPc, kk_mv hW hK, hDw⟩⟩ rfl rfl hl.1 rfl (lv_room (Nat.le_of_ble_eq_true rfl)) dB_36_3_39.2.2.2.1 ⟨Nat.le_of_ble_eq_true rfl, Nat.le_of_ble_eq_true rfl⟩) hS (fun q _ h => hFc q h) hFc (fun r_11 u t H locs ht hvm hw hB hz1 hk1 hS => ?_)
                  have hP : va_P D vwCl _ H := ro_keep hP hk1
                  rcases hw with ⟨w_12, e_⟩ | ⟨w_12, e_⟩
                  · have e_ := e_.symm
                    subst e_
                    refine lv_if_ne (tgt := 63) hx hb dB_36_3_39.2.2.2.2 (by decide) (fun c_13 => ?_) (fun c_13 => ?_)
                    · have _ := c_13
                      refine lv_aload_n hx hb dB_36_3_40.1.1.2.1 rfl (lv_at hl 0 rfl) ?_
                      refine va_get (ci := 11) (v := .ref xm) (C := RX11) (T := TX11) (N := 12) hx hb hts (fun _ h => List.mem_cons_of_mem _ (List.mem_append_left _ (List.mem_append_right _ h))) hown hK.1 hP 0 rfl rfl 6 (by decide) (hts (.fieldLink RX11 72 "CutAtlas" "maps" "[LCutAtlas$NumberMap;") (List.mem_of_getElem? (i := 1) rfl)) (fun _ h9 => h9) rfl dB_36_3_40.1.1.2.2 ?_
                      refine lv_iload_n hx hb dB_36_3_40.1.2.1.1 rfl (lv_at hl 1 rfl) ?_
                      refine va_aldq hx hb hK.1 hP 1 4 rfl rfl (i := 0) (by unfold vp_in; decide) dB_36_3_40.1.2.1.2 ?_
                      refine lv_topv (v' := .ref m0) (by simp [va_up, va_rf, mf_, cl_0, cl_1, cl_2, cl_3, cl_4]) ?_
                      refine va_get (ci := 4) (v := .ref l0) (C := RX4) (T := TX4) (N := 4) hx hb hts (fun _ h => List.mem_cons_of_mem _ (List.mem_append_right _ h)) hown hK.1 hP 2 rfl rfl 2 (by decide) (hts (.fieldLink RX11 321 "CutAtlas$NumberMap" "lengths" "[I") (List.mem_of_getElem? (i := 3) rfl)) (fun _ h9 => h9) rfl dB_36_3_40.1.2.2.1 ?_
                      refine lv_iload_n hx hb dB_36_3_40.1.2.2.2 rfl (lv_at hl 3 rfl) ?_
                      have h_14 : vp_in a3 6 := in_I (by first | with_reducible assumption | omega) (by omega)
                      refine va_iald hx hb hK.1 hP 6 0 rfl rfl (i := a3) h_14 dB_36_3_40.2.1.1.1 ?_
                      refine lv_topi (fun y_15 ey_15 => ?_)
                      have ky_15 : y_15.toInt = (fl0 a3.toNatClampNeg).toInt := by rw [ey_15]
                      have ry_15 : -9 ≤ y_15.toInt ∧ y_15.toInt ≤ 5 := by rw [ey_15]; exact r_fl0 _ (in_lt h_14)
                      refine lv_if_ge (tgt := 80) hx hb dB_36_3_40.2.1.1.2 (by decide) (fun c_16 => ?_) (fun c_16 => ?_)
                      · have t_16 : (0 : Int32).toInt ≤ y_15.toInt := Int32.le_iff_toInt_le.mp c_16
                        refine lv_iload hx hb dB_36_3_40.2.2.1.1 (lv_at hl 4 rfl) ?_
                        refine lv_if_lt (tgt := 101) hx hb dB_36_3_40.2.2.1.2 (by decide) (fun c_17 => ?_) (fun c_17 => ?_)
                        · have t_17 : a4.toInt < (0 : Int32).toInt := Int32.lt_iff_toInt_lt.mp c_17
                          refine lv_bipush (v := (-12)) hx hb dB_36_4_4.2.1.1 (by decide) ?_
                          refine lv_goto (tgt := 107) hx hb dB_36_4_4.2.1.2 (by decide) ?_
                          rw [hQ]
                          exact W.iret (v := (-12)) hx hb hr (fun t ht hW => ⟨⟨(-12), (), rfl, ⟨by first | (simp only [f4_c0, f4_c1, f4_c2, f4_c3]; unfold wrgI hasI; (repeat' (first | with_reducible refine if_n (by omega) ?_ | with_reducible refine if_ns (by omega) ?_ | with_reducible refine if_nz (by omega) ?_ | with_reducible exact if_p (by omega) (by omega) | with_reducible exact if_ps (by omega) (by omega) | with_reducible exact if_pz (by omega) (by omega))) <;> omega) | (unfold wrgI hasI; (repeat' (first | with_reducible refine if_n (by omega) ?_ | with_reducible refine if_ns (by omega) ?_ | with_reducible refine if_nz (by omega) ?_ | with_reducible exact if_p (by omega) (by omega) | with_reducible exact if_ps (by omega) (by omega) | with_reducible exact if_pz (by omega) (by omega))) <;> omega), by omega⟩, trivial⟩, hS.F ht⟩) hS.2.2 dB_36_4_4.2.2.2
                        · have t_17 : ¬ a4.toInt < (0 : Int32).toInt := fun h => c_17 (Int32.lt_iff_toInt_lt.mpr h)
                          refine lv_iload hx hb dB_36_3_40.2.2.2.1 (lv_at hl 4 rfl) ?_
                          refine lv_aload_n hx hb dB_36_3_40.2.2.2.2 rfl (lv_at hl 0 rfl) ?_
                          refine va_get (ci := 11) (v := .ref xm) (C := RX11) (T := TX11) (N := 12) hx hb hts (fun _ h => List.mem_cons_of_mem _ (List.mem_append_left _ (List.mem_append_right _ h))) hown hK.1 hP 0 rfl rfl 6 (by decide) (hts (.fieldLink RX11 72 "CutAtlas" "maps" "[LCutAtlas$NumberMap;") (List.mem_of_getElem? (i := 1) rfl)) (fun _ h9 => h9) rfl dB_36_3_41.1.1 ?_
                          refine lv_iload_n hx hb dB_36_3_41.1.2 rfl (lv_at hl 1 rfl) ?_
                          refine va_aldq hx hb hK.1 hP 1 4 rfl rfl (i := 0) (by unfold vp_in; decide) dB_36_3_41.2.1 ?_
                          refine lv_topv (v' := .ref m0) (by simp [va_up, va_rf, mf_, cl_0, cl_1, cl_2, cl_3, cl_4]) ?_
                          refine va_get (ci := 4) (v := .ref l0) (C := RX4) (T := TX4) (N := 4) hx hb hts (fun _ h => List.mem_cons_of_mem _ (List.mem_append_right _ h)) hown hK.1 hP 2 rfl rfl 2 (by decide) (hts (.fieldLink RX11 321 "CutAtlas$NumberMap" "lengths" "[I") (List.mem_of_getElem? (i := 3) rfl)) (fun _ h9 => h9) rfl dB_36_3_41.2.2 ?_
                          refine lv_iload_n hx hb dB_36_4_4.1.1 rfl (lv_at hl 3 rfl) ?_
                          refine va_iald hx hb hK.1 hP 6 0 rfl rfl (i := a3) h_14 dB_36_4_4.1.2.1 ?_
                          refine lv_topi (fun y_19 ey_19 => ?_)
                          have e_ := (ey_19.trans ey_15.symm).symm
                          subst e_
                          skip
                          refine lv_icmp_lt (tgt := 106) hx hb dB_36_4_4.1.2.2 (by decide) (fun c_20 => ?_) (fun c_20 => ?_)
                          · have t_20 : a4.toInt < y_15.toInt := Int32.lt_iff_toInt_lt.mp c_20
                            refine lv_iconst (v := 0) hx hb dB_36_4_4.2.2.1 (by decide) ?_
                            rw [hQ]
                            exact W.iret (v := 0) hx hb hr (fun t ht hW => ⟨⟨0, (), rfl, ⟨by first | (simp only [f4_c0, f4_c1, f4_c2, f4_c3]; unfold wrgI hasI; (repeat' (first | with_reducible refine if_n (by omega) ?_ | with_reducible refine if_ns (by omega) ?_ | with_reducible refine if_nz (by omega) ?_ | with_reducible exact if_p (by omega) (by omega) | with_reducible exact if_ps (by omega) (by omega) | with_reducible exact if_pz (by omega) (by omega))) <;> omega) | (unfold wrgI hasI; (repeat' (first | with_reducible refine if_n (by omega) ?_ | with_reducible refine if_ns (by omega) ?_ | with_reducible refine if_nz (by omega) ?_ | with_reducible exact if_p (by omega) (by omega) | with_reducible exact if_ps (by omega) (by omega) | with_reducible exact if_pz (by omega) (by omega))) <;> omega), by omega⟩, trivial⟩, hS.F ht⟩) hS.2.2 dB_36_4_4.2.2.2
                          · have t_20 : ¬ a4.toInt < y_15.toInt := fun h => c_20 (Int32.lt_iff_toInt_lt.mpr h)
                            refine lv_bipush (v := (-12)) hx hb dB_36_4_4.2.1.1 (by decide) ?_
                            refine lv_goto (tgt := 107) hx hb dB_36_4_4.2.1.2 (by decide) ?_
                            rw [hQ]
                            exact W.iret (v := (-12)) hx hb hr (fun t ht hW => ⟨⟨(-12), (), rfl, ⟨by first | (simp only [f4_c0, f4_c1, f4_c2, f4_c3]; unfold wrgI hasI; (repeat' (first | with_reducible refine if_n (by omega) ?_ | with_reducible refine if_ns (by omega) ?_ | with_reducible refine if_nz (by omega) ?_ | with_reducible exact if_p (by omega) (by omega) | with_reducible exact if_ps (by omega) (by omega) | with_reducible exact if_pz (by omega) (by omega))) <;> omega) | (unfold wrgI hasI; (repeat' (first | with_reducible refine if_n (by omega) ?_ | with_reducible refine if_ns (by omega) ?_ | with_reducible refine if_nz (by omega) ?_ | with_reducible exact if_p (by omega) (by omega) | with_reducible exact if_ps (by omega) (by omega) | with_reducible exact if_pz (by omega) (by omega))) <;> omega), by omega⟩, trivial⟩, hS.F ht⟩) hS.2.2 dB_36_4_4.2.2.2
                      · have t_16 : ¬ (0 : Int32).toInt ≤ y_15.toInt := fun h => c_16 (Int32.le_iff_toInt_le.mpr h)
                        refine lv_bipush (v := (-11)) hx hb dB_36_3_40.2.1.2.1 (by decide) ?_
                        rw [hQ]
                        exact W.iret (v := (-11)) hx hb hr (fun t ht hW => ⟨⟨(-11), (), rfl, ⟨by first | (simp only [f4_c0, f4_c1, f4_c2, f4_c3]; unfold wrgI hasI; (repeat' (first | with_reducible refine if_n (by omega) ?_ | with_reducible refine if_ns (by omega) ?_ | with_reducible refine if_nz (by omega) ?_ | with_reducible exact if_p (by omega) (by omega) | with_reducible exact if_ps (by omega) (by omega) | with_reducible exact if_pz (by omega) (by omega))) <;> omega) | (unfold wrgI hasI; (repeat' (first | with_reducible refine if_n (by omega) ?_ | with_reducible refine if_ns (by omega) ?_ | with_reducible refine if_nz (by omega) ?_ | with_reducible exact if_p (by omega) (by omega) | with_reducible exact if_ps (by omega) (by omega) | with_reducible exact if_pz (by omega) (by omega))) <;> omega), by omega⟩, trivial⟩, hS.F ht⟩) hS.2.2 dB_36_3_40.2.1.2.2
                    · exact absurd c_13 (by decide)
                  · have e_ := e_.symm
                    subst e_
                    refine lv_if_ne (tgt := 63) hx hb dB_36_3_39.2.2.2.2 (by decide) (fun c_21 => ?_) (fun c_21 => ?_)
                    · exact absurd c_21 (by decide)
                    · have _ := c_21
                      refine lv_bipush (v := (-12)) hx hb dB_36_3_40.1.1.1.1 (by decide) ?_
                      rw [hQ]
                      exact W.iret (v := (-12)) hx hb hr (fun t ht hW => ⟨⟨(-12), (), rfl, ⟨by first | (simp only [f4_c0, f4_c1, f4_c2, f4_c3]; unfold wrgI hasI; (repeat' (first | with_reducible refine if_n (by omega) ?_ | with_reducible refine if_ns (by omega) ?_ | with_reducible refine if_nz (by omega) ?_ | with_reducible exact if_p (by omega) (by omega) | with_reducible exact if_ps (by omega) (by omega) | with_reducible exact if_pz (by omega) (by omega))) <;> omega) | (unfold wrgI hasI; (repeat' (first | with_reducible refine if_n (by omega) ?_ | with_reducible refine if_ns (by omega) ?_ | with_reducible refine if_nz (by omega) ?_ | with_reducible exact if_p (by omega) (by omega) | with_reducible exact if_ps (by omega) (by omega) | with_reducible exact if_pz (by omega) (by omega))) <;> omega), by omega⟩, trivial⟩, hS.F ht⟩) hS.2.2 dB_36_3_40.1.1.1.2
                · have t_10 : ¬ mk0.toInt = a2.toInt := fun h => c_10 (Int32.toInt_inj.mp h)
                  refine lv_bipush (v := (-13)) hx hb dB_36_3_39.1.2.2.2 (by decide) ?_
                  rw [hQ]
                  exact W.iret (v := (-13)) hx hb hr (fun t ht hW => ⟨⟨(-13), (), rfl, ⟨by first | (simp only [f4_c0, f4_c1, f4_c2, f4_c3]; unfold wrgI hasI; (repeat' (first | with_reducible refine if_n (by omega) ?_ | with_reducible refine if_ns (by omega) ?_ | with_reducible refine if_nz (by omega) ?_ | with_reducible exact if_p (by omega) (by omega) | with_reducible exact if_ps (by omega) (by omega) | with_reducible exact if_pz (by omega) (by omega))) <;> omega) | (unfold wrgI hasI; (repeat' (first | with_reducible refine if_n (by omega) ?_ | with_reducible refine if_ns (by omega) ?_ | with_reducible refine if_nz (by omega) ?_ | with_reducible exact if_p (by omega) (by omega) | with_reducible exact if_ps (by omega) (by omega) | with_reducible exact if_pz (by omega) (by omega))) <;> omega), by omega⟩, trivial⟩, hS.F ht⟩) hS.2.2 dB_36_3_39.2.1.1.1
              · exact absurd c_9 (by decide)
            · have e_ := e_.symm
              subst e_
              refine lv_if_ne (tgt := 31) hx hb dB_36_3_38.2.2.1.2 (by decide) (fun c_22 => ?_) (fun c_22 => ?_)
              · exact absurd c_22 (by decide)
              · have _ := c_22
                refine lv_bipush (v := (-11)) hx hb dB_36_3_38.2.2.2.1 (by decide) ?_
                rw [hQ]
                exact W.iret (v := (-11)) hx hb hr (fun t ht hW => ⟨⟨(-11), (), rfl, ⟨by first | (simp only [f4_c0, f4_c1, f4_c2, f4_c3]; unfold wrgI hasI; (repeat' (first | with_reducible refine if_n (by omega) ?_ | with_reducible refine if_ns (by omega) ?_ | with_reducible refine if_nz (by omega) ?_ | with_reducible exact if_p (by omega) (by omega) | with_reducible exact if_ps (by omega) (by omega) | with_reducible exact if_pz (by omega) (by omega))) <;> omega) | (unfold wrgI hasI; (repeat' (first | with_reducible refine if_n (by omega) ?_ | with_reducible refine if_ns (by omega) ?_ | with_reducible refine if_nz (by omega) ?_ | with_reducible exact if_p (by omega) (by omega) | with_reducible exact if_ps (by omega) (by omega) | with_reducible exact if_pz (by omega) (by omega))) <;> omega), by omega⟩, trivial⟩, hS.F ht⟩) hS.2.2 dB_36_3_38.2.2.2.2
          · refine lv_aload_n hx hb dB_36_3_38.2.1.1.1 rfl (lv_at hl 0 rfl) ?_
            refine va_get (ci := 11) (v := .ref xm) (C := RX11) (T := TX11) (N := 12) hx hb hts (fun _ h => List.mem_cons_of_mem _ (List.mem_append_left _ (List.mem_append_right _ h))) hown hK.1 hP 0 rfl rfl 6 (by decide) (hts (.fieldLink RX11 72 "CutAtlas" "maps" "[LCutAtlas$NumberMap;") (List.mem_of_getElem? (i := 1) rfl)) (fun _ h9 => h9) rfl dB_36_3_38.2.1.1.2 ?_
            refine lv_iload_n hx hb dB_36_3_38.2.1.2.1 rfl (lv_at hl 1 rfl) ?_
            refine va_aldq hx hb hK.1 hP 1 4 rfl rfl (i := 1) (by unfold vp_in; decide) dB_36_3_38.2.1.2.2 ?_
            refine lv_topv (v' := .ref m1) (by simp [va_up, va_rf, mf_, cl_0, cl_1, cl_2, cl_3, cl_4]) ?_
            refine ct_R hP hD0 [ob4_0_ m1 mk1 mr1 l1 u1] [3] (by decide) rfl (fun hPc hDw => ?_)
            have hFc := va_free (wc := []) hD hS hA [] rfl
            refine va_calli (va_runV (As := []) (rest := []) ⟨hx, hb, hml, hown, hts⟩ (c_X4_isThere l D cy H.size m1 l1 u1 mk1 mr1) (cwV 0 hts gX11_numberRefusal_X4_isThere rfl rfl rfl ⟨rfl, hd_X4_isThere⟩ ⟨Nat.le_of_ble_eq_true rfl, Nat.le_of_ble_eq_true rfl⟩) ⟨bl_, va_recvX hK.1 hP (ci := 4) (q0 := 3) rfl rfl, fun U hU hW => ⟨rfl, by rw [hU], by rw [hU]; exact hPc, kk_mv hW hK, hDw⟩⟩ rfl rfl hl.1 rfl (lv_room (Nat.le_of_ble_eq_true rfl)) dB_36_3_38.2.2.1.1 ⟨Nat.le_of_ble_eq_true rfl, Nat.le_of_ble_eq_true rfl⟩) hS (fun q _ h => hFc q h) hFc (fun r_23 u t H locs ht hvm hw hB hz1 hk1 hS => ?_)
            have hP : va_P D vwCl _ H := ro_keep hP hk1
            rcases hw with ⟨w_24, e_⟩ | ⟨w_24, e_⟩
            · have e_ := e_.symm
              subst e_
              refine lv_if_ne (tgt := 31) hx hb dB_36_3_38.2.2.1.2 (by decide) (fun c_25 => ?_) (fun c_25 => ?_)
              · have _ := c_25
                refine lv_aload_n hx hb dB_36_3_39.1.1.1.1 rfl (lv_at hl 0 rfl) ?_
                refine va_get (ci := 11) (v := .ref xm) (C := RX11) (T := TX11) (N := 12) hx hb hts (fun _ h => List.mem_cons_of_mem _ (List.mem_append_left _ (List.mem_append_right _ h))) hown hK.1 hP 0 rfl rfl 6 (by decide) (hts (.fieldLink RX11 72 "CutAtlas" "maps" "[LCutAtlas$NumberMap;") (List.mem_of_getElem? (i := 1) rfl)) (fun _ h9 => h9) rfl dB_36_3_39.1.1.1.2 ?_
                refine lv_iload_n hx hb dB_36_3_39.1.1.2.1 rfl (lv_at hl 1 rfl) ?_
                refine va_aldq hx hb hK.1 hP 1 4 rfl rfl (i := 1) (by unfold vp_in; decide) dB_36_3_39.1.1.2.2 ?_
                refine lv_topv (v' := .ref m1) (by simp [va_up, va_rf, mf_, cl_0, cl_1, cl_2, cl_3, cl_4]) ?_
                refine va_get (ci := 4) (v := .int mk1) (C := RX4) (T := TX4) (N := 4) hx hb hts (fun _ h => List.mem_cons_of_mem _ (List.mem_append_right _ h)) hown hK.1 hP 3 rfl rfl 0 (by decide) (hts (.fieldLink RX11 318 "CutAtlas$NumberMap" "kind" "I") (List.mem_of_getElem? (i := 2) rfl)) (fun _ h9 => h9) rfl dB_36_3_39.1.2.1.1 ?_
                refine lv_iload_n hx hb dB_36_3_39.1.2.1.2 rfl (lv_at hl 2 rfl) ?_
                refine lv_icmp_eq (tgt := 47) hx hb dB_36_3_39.1.2.2.1 (by decide) (fun c_26 => ?_) (fun c_26 => ?_)
                · have t_26 : mk1.toInt = a2.toInt := congrArg Int32.toInt c_26
                  refine lv_aload_n hx hb dB_36_3_39.2.1.1.2 rfl (lv_at hl 0 rfl) ?_
                  refine va_get (ci := 11) (v := .ref xm) (C := RX11) (T := TX11) (N := 12) hx hb hts (fun _ h => List.mem_cons_of_mem _ (List.mem_append_left _ (List.mem_append_right _ h))) hown hK.1 hP 0 rfl rfl 6 (by decide) (hts (.fieldLink RX11 72 "CutAtlas" "maps" "[LCutAtlas$NumberMap;") (List.mem_of_getElem? (i := 1) rfl)) (fun _ h9 => h9) rfl dB_36_3_39.2.1.2.1 ?_
                  refine lv_iload_n hx hb dB_36_3_39.2.1.2.2 rfl (lv_at hl 1 rfl) ?_
                  refine va_aldq hx hb hK.1 hP 1 4 rfl rfl (i := 1) (by unfold vp_in; decide) dB_36_3_39.2.2.1.1 ?_
                  refine lv_topv (v' := .ref m1) (by simp [va_up, va_rf, mf_, cl_0, cl_1, cl_2, cl_3, cl_4]) ?_
                  refine lv_iload_n hx hb dB_36_3_39.2.2.1.2 rfl (lv_at hl 3 rfl) ?_
                  refine ct_R hP hD0 [ob4_0_ m1 mk1 mr1 l1 u1] [3] (by decide) rfl (fun hPc hDw => ?_)
                  have hFc := va_free (wc := []) hD hS hA [] rfl
                  refine va_calli (va_runV (As := [.int a3]) (rest := []) ⟨hx, hb, hml, hown, hts⟩ (c_X4_hasRow l D cy H.size m1 l1 u1 mk1 mr1 a3) (cwV 1 hts gX11_numberRefusal_X4_hasRow rfl rfl rfl ⟨rfl, hd_X4_hasRow⟩ ⟨Nat.le_of_ble_eq_true rfl, Nat.le_of_ble_eq_true rfl⟩) ⟨bl_, va_recvX hK.1 hP (ci := 4) (q0 := 3) rfl rfl, fun U hU hW => ⟨rfl, by rw [hU], by rw [hU]; exact hPc, kk_mv hW hK, hDw⟩⟩ rfl rfl hl.1 rfl (lv_room (Nat.le_of_ble_eq_true rfl)) dB_36_3_39.2.2.2.1 ⟨Nat.le_of_ble_eq_true rfl, Nat.le_of_ble_eq_true rfl⟩) hS (fun q _ h => hFc q h) hFc (fun r_27 u t H locs ht hvm hw hB hz1 hk1 hS => ?_)
                  have hP : va_P D vwCl _ H := ro_keep hP hk1
                  rcases hw with ⟨w_28, e_⟩ | ⟨w_28, e_⟩
                  · have e_ := e_.symm
                    subst e_
                    refine lv_if_ne (tgt := 63) hx hb dB_36_3_39.2.2.2.2 (by decide) (fun c_29 => ?_) (fun c_29 => ?_)
                    · have _ := c_29
                      refine lv_aload_n hx hb dB_36_3_40.1.1.2.1 rfl (lv_at hl 0 rfl) ?_
                      refine va_get (ci := 11) (v := .ref xm) (C := RX11) (T := TX11) (N := 12) hx hb hts (fun _ h => List.mem_cons_of_mem _ (List.mem_append_left _ (List.mem_append_right _ h))) hown hK.1 hP 0 rfl rfl 6 (by decide) (hts (.fieldLink RX11 72 "CutAtlas" "maps" "[LCutAtlas$NumberMap;") (List.mem_of_getElem? (i := 1) rfl)) (fun _ h9 => h9) rfl dB_36_3_40.1.1.2.2 ?_
                      refine lv_iload_n hx hb dB_36_3_40.1.2.1.1 rfl (lv_at hl 1 rfl) ?_
                      refine va_aldq hx hb hK.1 hP 1 4 rfl rfl (i := 1) (by unfold vp_in; decide) dB_36_3_40.1.2.1.2 ?_
                      refine lv_topv (v' := .ref m1) (by simp [va_up, va_rf, mf_, cl_0, cl_1, cl_2, cl_3, cl_4]) ?_
                      refine va_get (ci := 4) (v := .ref l1) (C := RX4) (T := TX4) (N := 4) hx hb hts (fun _ h => List.mem_cons_of_mem _ (List.mem_append_right _ h)) hown hK.1 hP 3 rfl rfl 2 (by decide) (hts (.fieldLink RX11 321 "CutAtlas$NumberMap" "lengths" "[I") (List.mem_of_getElem? (i := 3) rfl)) (fun _ h9 => h9) rfl dB_36_3_40.1.2.2.1 ?_
                      refine lv_iload_n hx hb dB_36_3_40.1.2.2.2 rfl (lv_at hl 3 rfl) ?_
                      have h_30 : vp_in a3 6 := in_I (by first | with_reducible assumption | omega) (by omega)
                      refine va_iald hx hb hK.1 hP 7 0 rfl rfl (i := a3) h_30 dB_36_3_40.2.1.1.1 ?_
                      refine lv_topi (fun y_31 ey_31 => ?_)
                      have ky_31 : y_31.toInt = (fl1 a3.toNatClampNeg).toInt := by rw [ey_31]
                      have ry_31 : -9 ≤ y_31.toInt ∧ y_31.toInt ≤ 5 := by rw [ey_31]; exact r_fl1 _ (in_lt h_30)
                      refine lv_if_ge (tgt := 80) hx hb dB_36_3_40.2.1.1.2 (by decide) (fun c_32 => ?_) (fun c_32 => ?_)
                      · have t_32 : (0 : Int32).toInt ≤ y_31.toInt := Int32.le_iff_toInt_le.mp c_32
                        refine lv_iload hx hb dB_36_3_40.2.2.1.1 (lv_at hl 4 rfl) ?_
                        refine lv_if_lt (tgt := 101) hx hb dB_36_3_40.2.2.1.2 (by decide) (fun c_33 => ?_) (fun c_33 => ?_)
                        · have t_33 : a4.toInt < (0 : Int32).toInt := Int32.lt_iff_toInt_lt.mp c_33
                          refine lv_bipush (v := (-12)) hx hb dB_36_4_4.2.1.1 (by decide) ?_
                          refine lv_goto (tgt := 107) hx hb dB_36_4_4.2.1.2 (by decide) ?_
                          rw [hQ]
                          exact W.iret (v := (-12)) hx hb hr (fun t ht hW => ⟨⟨(-12), (), rfl, ⟨by first | (simp only [f4_c0, f4_c1, f4_c2, f4_c3]; unfold wrgI hasI; (repeat' (first | with_reducible refine if_n (by omega) ?_ | with_reducible refine if_ns (by omega) ?_ | with_reducible refine if_nz (by omega) ?_ | with_reducible exact if_p (by omega) (by omega) | with_reducible exact if_ps (by omega) (by omega) | with_reducible exact if_pz (by omega) (by omega))) <;> omega) | (unfold wrgI hasI; (repeat' (first | with_reducible refine if_n (by omega) ?_ | with_reducible refine if_ns (by omega) ?_ | with_reducible refine if_nz (by omega) ?_ | with_reducible exact if_p (by omega) (by omega) | with_reducible exact if_ps (by omega) (by omega) | with_reducible exact if_pz (by omega) (by omega))) <;> omega), by omega⟩, trivial⟩, hS.F ht⟩) hS.2.2 dB_36_4_4.2.2.2
                        · have t_33 : ¬ a4.toInt < (0 : Int32).toInt := fun h => c_33 (Int32.lt_iff_toInt_lt.mpr h)
                          refine lv_iload hx hb dB_36_3_40.2.2.2.1 (lv_at hl 4 rfl) ?_
                          refine lv_aload_n hx hb dB_36_3_40.2.2.2.2 rfl (lv_at hl 0 rfl) ?_
                          refine va_get (ci := 11) (v := .ref xm) (C := RX11) (T := TX11) (N := 12) hx hb hts (fun _ h => List.mem_cons_of_mem _ (List.mem_append_left _ (List.mem_append_right _ h))) hown hK.1 hP 0 rfl rfl 6 (by decide) (hts (.fieldLink RX11 72 "CutAtlas" "maps" "[LCutAtlas$NumberMap;") (List.mem_of_getElem? (i := 1) rfl)) (fun _ h9 => h9) rfl dB_36_3_41.1.1 ?_
                          refine lv_iload_n hx hb dB_36_3_41.1.2 rfl (lv_at hl 1 rfl) ?_
                          refine va_aldq hx hb hK.1 hP 1 4 rfl rfl (i := 1) (by unfold vp_in; decide) dB_36_3_41.2.1 ?_
                          refine lv_topv (v' := .ref m1) (by simp [va_up, va_rf, mf_, cl_0, cl_1, cl_2, cl_3, cl_4]) ?_
                          refine va_get (ci := 4) (v := .ref l1) (C := RX4) (T := TX4) (N := 4) hx hb hts (fun _ h => List.mem_cons_of_mem _ (List.mem_append_right _ h)) hown hK.1 hP 3 rfl rfl 2 (by decide) (hts (.fieldLink RX11 321 "CutAtlas$NumberMap" "lengths" "[I") (List.mem_of_getElem? (i := 3) rfl)) (fun _ h9 => h9) rfl dB_36_3_41.2.2 ?_
                          refine lv_iload_n hx hb dB_36_4_4.1.1 rfl (lv_at hl 3 rfl) ?_
                          refine va_iald hx hb hK.1 hP 7 0 rfl rfl (i := a3) h_30 dB_36_4_4.1.2.1 ?_
                          refine lv_topi (fun y_35 ey_35 => ?_)
                          have e_ := (ey_35.trans ey_31.symm).symm
                          subst e_
                          skip
                          refine lv_icmp_lt (tgt := 106) hx hb dB_36_4_4.1.2.2 (by decide) (fun c_36 => ?_) (fun c_36 => ?_)
                          · have t_36 : a4.toInt < y_31.toInt := Int32.lt_iff_toInt_lt.mp c_36
                            refine lv_iconst (v := 0) hx hb dB_36_4_4.2.2.1 (by decide) ?_
                            rw [hQ]
                            exact W.iret (v := 0) hx hb hr (fun t ht hW => ⟨⟨0, (), rfl, ⟨by first | (simp only [f4_c0, f4_c1, f4_c2, f4_c3]; unfold wrgI hasI; (repeat' (first | with_reducible refine if_n (by omega) ?_ | with_reducible refine if_ns (by omega) ?_ | with_reducible refine if_nz (by omega) ?_ | with_reducible exact if_p (by omega) (by omega) | with_reducible exact if_ps (by omega) (by omega) | with_reducible exact if_pz (by omega) (by omega))) <;> omega) | (unfold wrgI hasI; (repeat' (first | with_reducible refine if_n (by omega) ?_ | with_reducible refine if_ns (by omega) ?_ | with_reducible refine if_nz (by omega) ?_ | with_reducible exact if_p (by omega) (by omega) | with_reducible exact if_ps (by omega) (by omega) | with_reducible exact if_pz (by omega) (by omega))) <;> omega), by omega⟩, trivial⟩, hS.F ht⟩) hS.2.2 dB_36_4_4.2.2.2
                          · have t_36 : ¬ a4.toInt < y_31.toInt := fun h => c_36 (Int32.lt_iff_toInt_lt.mpr h)
                            refine lv_bipush (v := (-12)) hx hb dB_36_4_4.2.1.1 (by decide) ?_
                            refine lv_goto (tgt := 107) hx hb dB_36_4_4.2.1.2 (by decide) ?_
                            rw [hQ]
                            exact W.iret (v := (-12)) hx hb hr (fun t ht hW => ⟨⟨(-12), (), rfl, ⟨by first | (simp only [f4_c0, f4_c1, f4_c2, f4_c3]; unfold wrgI hasI; (repeat' (first | with_reducible refine if_n (by omega) ?_ | with_reducible refine if_ns (by omega) ?_ | with_reducible refine if_nz (by omega) ?_ | with_reducible exact if_p (by omega) (by omega) | with_reducible exact if_ps (by omega) (by omega) | with_reducible exact if_pz (by omega) (by omega))) <;> omega) | (unfold wrgI hasI; (repeat' (first | with_reducible refine if_n (by omega) ?_ | with_reducible refine if_ns (by omega) ?_ | with_reducible refine if_nz (by omega) ?_ | with_reducible exact if_p (by omega) (by omega) | with_reducible exact if_ps (by omega) (by omega) | with_reducible exact if_pz (by omega) (by omega))) <;> omega), by omega⟩, trivial⟩, hS.F ht⟩) hS.2.2 dB_36_4_4.2.2.2
                      · have t_32 : ¬ (0 : Int32).toInt ≤ y_31.toInt := fun h => c_32 (Int32.le_iff_toInt_le.mpr h)
                        refine lv_bipush (v := (-11)) hx hb dB_36_3_40.2.1.2.1 (by decide) ?_
                        rw [hQ]
                        exact W.iret (v := (-11)) hx hb hr (fun t ht hW => ⟨⟨(-11), (), rfl, ⟨by first | (simp only [f4_c0, f4_c1, f4_c2, f4_c3]; unfold wrgI hasI; (repeat' (first | with_reducible refine if_n (by omega) ?_ | with_reducible refine if_ns (by omega) ?_ | with_reducible refine if_nz (by omega) ?_ | with_reducible exact if_p (by omega) (by omega) | with_reducible exact if_ps (by omega) (by omega) | with_reducible exact if_pz (by omega) (by omega))) <;> omega) | (unfold wrgI hasI; (repeat' (first | with_reducible refine if_n (by omega) ?_ | with_reducible refine if_ns (by omega) ?_ | with_reducible refine if_nz (by omega) ?_ | with_reducible exact if_p (by omega) (by omega) | with_reducible exact if_ps (by omega) (by omega) | with_reducible exact if_pz (by omega) (by omega))) <;> omega), by omega⟩, trivial⟩, hS.F ht⟩) hS.2.2 dB_36_3_40.2.1.2.2
                    · exact absurd c_29 (by decide)
                  · have e_ := e_.symm
                    subst e_
                    refine lv_if_ne (tgt := 63) hx hb dB_36_3_39.2.2.2.2 (by decide) (fun c_37 => ?_) (fun c_37 => ?_)
                    · exact absurd c_37 (by decide)
                    · have _ := c_37
                      refine lv_bipush (v := (-12)) hx hb dB_36_3_40.1.1.1.1 (by decide) ?_
                      rw [hQ]
                      exact W.iret (v := (-12)) hx hb hr (fun t ht hW => ⟨⟨(-12), (), rfl, ⟨by first | (simp only [f4_c0, f4_c1, f4_c2, f4_c3]; unfold wrgI hasI; (repeat' (first | with_reducible refine if_n (by omega) ?_ | with_reducible refine if_ns (by omega) ?_ | with_reducible refine if_nz (by omega) ?_ | with_reducible exact if_p (by omega) (by omega) | with_reducible exact if_ps (by omega) (by omega) | with_reducible exact if_pz (by omega) (by omega))) <;> omega) | (unfold wrgI hasI; (repeat' (first | with_reducible refine if_n (by omega) ?_ | with_reducible refine if_ns (by omega) ?_ | with_reducible refine if_nz (by omega) ?_ | with_reducible exact if_p (by omega) (by omega) | with_reducible exact if_ps (by omega) (by omega) | with_reducible exact if_pz (by omega) (by omega))) <;> omega), by omega⟩, trivial⟩, hS.F ht⟩) hS.2.2 dB_36_3_40.1.1.1.2
                · have t_26 : ¬ mk1.toInt = a2.toInt := fun h => c_26 (Int32.toInt_inj.mp h)
                  refine lv_bipush (v := (-13)) hx hb dB_36_3_39.1.2.2.2 (by decide) ?_
                  rw [hQ]
                  exact W.iret (v := (-13)) hx hb hr (fun t ht hW => ⟨⟨(-13), (), rfl, ⟨by first | (simp only [f4_c0, f4_c1, f4_c2, f4_c3]; unfold wrgI hasI; (repeat' (first | with_reducible refine if_n (by omega) ?_ | with_reducible refine if_ns (by omega) ?_ | with_reducible refine if_nz (by omega) ?_ | with_reducible exact if_p (by omega) (by omega) | with_reducible exact if_ps (by omega) (by omega) | with_reducible exact if_pz (by omega) (by omega))) <;> omega) | (unfold wrgI hasI; (repeat' (first | with_reducible refine if_n (by omega) ?_ | with_reducible refine if_ns (by omega) ?_ | with_reducible refine if_nz (by omega) ?_ | with_reducible exact if_p (by omega) (by omega) | with_reducible exact if_ps (by omega) (by omega) | with_reducible exact if_pz (by omega) (by omega))) <;> omega), by omega⟩, trivial⟩, hS.F ht⟩) hS.2.2 dB_36_3_39.2.1.1.1
              · exact absurd c_25 (by decide)
            · have e_ := e_.symm
              subst e_
              refine lv_if_ne (tgt := 31) hx hb dB_36_3_38.2.2.1.2 (by decide) (fun c_38 => ?_) (fun c_38 => ?_)
              · exact absurd c_38 (by decide)
              · have _ := c_38
                refine lv_bipush (v := (-11)) hx hb dB_36_3_38.2.2.2.1 (by decide) ?_
                rw [hQ]
                exact W.iret (v := (-11)) hx hb hr (fun t ht hW => ⟨⟨(-11), (), rfl, ⟨by first | (simp only [f4_c0, f4_c1, f4_c2, f4_c3]; unfold wrgI hasI; (repeat' (first | with_reducible refine if_n (by omega) ?_ | with_reducible refine if_ns (by omega) ?_ | with_reducible refine if_nz (by omega) ?_ | with_reducible exact if_p (by omega) (by omega) | with_reducible exact if_ps (by omega) (by omega) | with_reducible exact if_pz (by omega) (by omega))) <;> omega) | (unfold wrgI hasI; (repeat' (first | with_reducible refine if_n (by omega) ?_ | with_reducible refine if_ns (by omega) ?_ | with_reducible refine if_nz (by omega) ?_ | with_reducible exact if_p (by omega) (by omega) | with_reducible exact if_ps (by omega) (by omega) | with_reducible exact if_pz (by omega) (by omega))) <;> omega), by omega⟩, trivial⟩, hS.F ht⟩) hS.2.2 dB_36_3_38.2.2.2.2
          · refine lv_aload_n hx hb dB_36_3_38.2.1.1.1 rfl (lv_at hl 0 rfl) ?_
            refine va_get (ci := 11) (v := .ref xm) (C := RX11) (T := TX11) (N := 12) hx hb hts (fun _ h => List.mem_cons_of_mem _ (List.mem_append_left _ (List.mem_append_right _ h))) hown hK.1 hP 0 rfl rfl 6 (by decide) (hts (.fieldLink RX11 72 "CutAtlas" "maps" "[LCutAtlas$NumberMap;") (List.mem_of_getElem? (i := 1) rfl)) (fun _ h9 => h9) rfl dB_36_3_38.2.1.1.2 ?_
            refine lv_iload_n hx hb dB_36_3_38.2.1.2.1 rfl (lv_at hl 1 rfl) ?_
            refine va_aldq hx hb hK.1 hP 1 4 rfl rfl (i := 2) (by unfold vp_in; decide) dB_36_3_38.2.1.2.2 ?_
            refine lv_topv (v' := .ref m2) (by simp [va_up, va_rf, mf_, cl_0, cl_1, cl_2, cl_3, cl_4]) ?_
            refine ct_R hP hD0 [ob4_0_ m2 mk2 mr2 l2 u2] [4] (by decide) rfl (fun hPc hDw => ?_)
            have hFc := va_free (wc := []) hD hS hA [] rfl
            refine va_calli (va_runV (As := []) (rest := []) ⟨hx, hb, hml, hown, hts⟩ (c_X4_isThere l D cy H.size m2 l2 u2 mk2 mr2) (cwV 0 hts gX11_numberRefusal_X4_isThere rfl rfl rfl ⟨rfl, hd_X4_isThere⟩ ⟨Nat.le_of_ble_eq_true rfl, Nat.le_of_ble_eq_true rfl⟩) ⟨bl_, va_recvX hK.1 hP (ci := 4) (q0 := 4) rfl rfl, fun U hU hW => ⟨rfl, by rw [hU], by rw [hU]; exact hPc, kk_mv hW hK, hDw⟩⟩ rfl rfl hl.1 rfl (lv_room (Nat.le_of_ble_eq_true rfl)) dB_36_3_38.2.2.1.1 ⟨Nat.le_of_ble_eq_true rfl, Nat.le_of_ble_eq_true rfl⟩) hS (fun q _ h => hFc q h) hFc (fun r_39 u t H locs ht hvm hw hB hz1 hk1 hS => ?_)
            have hP : va_P D vwCl _ H := ro_keep hP hk1
            rcases hw with ⟨w_40, e_⟩ | ⟨w_40, e_⟩
            · have e_ := e_.symm
              subst e_
              refine lv_if_ne (tgt := 31) hx hb dB_36_3_38.2.2.1.2 (by decide) (fun c_41 => ?_) (fun c_41 => ?_)
              · have _ := c_41
                refine lv_aload_n hx hb dB_36_3_39.1.1.1.1 rfl (lv_at hl 0 rfl) ?_
                refine va_get (ci := 11) (v := .ref xm) (C := RX11) (T := TX11) (N := 12) hx hb hts (fun _ h => List.mem_cons_of_mem _ (List.mem_append_left _ (List.mem_append_right _ h))) hown hK.1 hP 0 rfl rfl 6 (by decide) (hts (.fieldLink RX11 72 "CutAtlas" "maps" "[LCutAtlas$NumberMap;") (List.mem_of_getElem? (i := 1) rfl)) (fun _ h9 => h9) rfl dB_36_3_39.1.1.1.2 ?_
                refine lv_iload_n hx hb dB_36_3_39.1.1.2.1 rfl (lv_at hl 1 rfl) ?_
                refine va_aldq hx hb hK.1 hP 1 4 rfl rfl (i := 2) (by unfold vp_in; decide) dB_36_3_39.1.1.2.2 ?_
                refine lv_topv (v' := .ref m2) (by simp [va_up, va_rf, mf_, cl_0, cl_1, cl_2, cl_3, cl_4]) ?_
                refine va_get (ci := 4) (v := .int mk2) (C := RX4) (T := TX4) (N := 4) hx hb hts (fun _ h => List.mem_cons_of_mem _ (List.mem_append_right _ h)) hown hK.1 hP 4 rfl rfl 0 (by decide) (hts (.fieldLink RX11 318 "CutAtlas$NumberMap" "kind" "I") (List.mem_of_getElem? (i := 2) rfl)) (fun _ h9 => h9) rfl dB_36_3_39.1.2.1.1 ?_
                refine lv_iload_n hx hb dB_36_3_39.1.2.1.2 rfl (lv_at hl 2 rfl) ?_
                refine lv_icmp_eq (tgt := 47) hx hb dB_36_3_39.1.2.2.1 (by decide) (fun c_42 => ?_) (fun c_42 => ?_)
                · have t_42 : mk2.toInt = a2.toInt := congrArg Int32.toInt c_42
                  refine lv_aload_n hx hb dB_36_3_39.2.1.1.2 rfl (lv_at hl 0 rfl) ?_
                  refine va_get (ci := 11) (v := .ref xm) (C := RX11) (T := TX11) (N := 12) hx hb hts (fun _ h => List.mem_cons_of_mem _ (List.mem_append_left _ (List.mem_append_right _ h))) hown hK.1 hP 0 rfl rfl 6 (by decide) (hts (.fieldLink RX11 72 "CutAtlas" "maps" "[LCutAtlas$NumberMap;") (List.mem_of_getElem? (i := 1) rfl)) (fun _ h9 => h9) rfl dB_36_3_39.2.1.2.1 ?_
                  refine lv_iload_n hx hb dB_36_3_39.2.1.2.2 rfl (lv_at hl 1 rfl) ?_
                  refine va_aldq hx hb hK.1 hP 1 4 rfl rfl (i := 2) (by unfold vp_in; decide) dB_36_3_39.2.2.1.1 ?_
                  refine lv_topv (v' := .ref m2) (by simp [va_up, va_rf, mf_, cl_0, cl_1, cl_2, cl_3, cl_4]) ?_
                  refine lv_iload_n hx hb dB_36_3_39.2.2.1.2 rfl (lv_at hl 3 rfl) ?_
                  refine ct_R hP hD0 [ob4_0_ m2 mk2 mr2 l2 u2] [4] (by decide) rfl (fun hPc hDw => ?_)
                  have hFc := va_free (wc := []) hD hS hA [] rfl
                  refine va_calli (va_runV (As := [.int a3]) (rest := []) ⟨hx, hb, hml, hown, hts⟩ (c_X4_hasRow l D cy H.size m2 l2 u2 mk2 mr2 a3) (cwV 1 hts gX11_numberRefusal_X4_hasRow rfl rfl rfl ⟨rfl, hd_X4_hasRow⟩ ⟨Nat.le_of_ble_eq_true rfl, Nat.le_of_ble_eq_true rfl⟩) ⟨bl_, va_recvX hK.1 hP (ci := 4) (q0 := 4) rfl rfl, fun U hU hW => ⟨rfl, by rw [hU], by rw [hU]; exact hPc, kk_mv hW hK, hDw⟩⟩ rfl rfl hl.1 rfl (lv_room (Nat.le_of_ble_eq_true rfl)) dB_36_3_39.2.2.2.1 ⟨Nat.le_of_ble_eq_true rfl, Nat.le_of_ble_eq_true rfl⟩) hS (fun q _ h => hFc q h) hFc (fun r_43 u t H locs ht hvm hw hB hz1 hk1 hS => ?_)
                  have hP : va_P D vwCl _ H := ro_keep hP hk1
                  rcases hw with ⟨w_44, e_⟩ | ⟨w_44, e_⟩
                  · have e_ := e_.symm
                    subst e_
                    refine lv_if_ne (tgt := 63) hx hb dB_36_3_39.2.2.2.2 (by decide) (fun c_45 => ?_) (fun c_45 => ?_)
                    · have _ := c_45
                      refine lv_aload_n hx hb dB_36_3_40.1.1.2.1 rfl (lv_at hl 0 rfl) ?_
                      refine va_get (ci := 11) (v := .ref xm) (C := RX11) (T := TX11) (N := 12) hx hb hts (fun _ h => List.mem_cons_of_mem _ (List.mem_append_left _ (List.mem_append_right _ h))) hown hK.1 hP 0 rfl rfl 6 (by decide) (hts (.fieldLink RX11 72 "CutAtlas" "maps" "[LCutAtlas$NumberMap;") (List.mem_of_getElem? (i := 1) rfl)) (fun _ h9 => h9) rfl dB_36_3_40.1.1.2.2 ?_
                      refine lv_iload_n hx hb dB_36_3_40.1.2.1.1 rfl (lv_at hl 1 rfl) ?_
                      refine va_aldq hx hb hK.1 hP 1 4 rfl rfl (i := 2) (by unfold vp_in; decide) dB_36_3_40.1.2.1.2 ?_
                      refine lv_topv (v' := .ref m2) (by simp [va_up, va_rf, mf_, cl_0, cl_1, cl_2, cl_3, cl_4]) ?_
                      refine va_get (ci := 4) (v := .ref l2) (C := RX4) (T := TX4) (N := 4) hx hb hts (fun _ h => List.mem_cons_of_mem _ (List.mem_append_right _ h)) hown hK.1 hP 4 rfl rfl 2 (by decide) (hts (.fieldLink RX11 321 "CutAtlas$NumberMap" "lengths" "[I") (List.mem_of_getElem? (i := 3) rfl)) (fun _ h9 => h9) rfl dB_36_3_40.1.2.2.1 ?_
                      refine lv_iload_n hx hb dB_36_3_40.1.2.2.2 rfl (lv_at hl 3 rfl) ?_
                      have h_46 : vp_in a3 6 := in_I (by first | with_reducible assumption | omega) (by omega)
                      refine va_iald hx hb hK.1 hP 8 0 rfl rfl (i := a3) h_46 dB_36_3_40.2.1.1.1 ?_
                      refine lv_topi (fun y_47 ey_47 => ?_)
                      have ky_47 : y_47.toInt = (fl2 a3.toNatClampNeg).toInt := by rw [ey_47]
                      have ry_47 : -9 ≤ y_47.toInt ∧ y_47.toInt ≤ 5 := by rw [ey_47]; exact r_fl2 _ (in_lt h_46)
                      refine lv_if_ge (tgt := 80) hx hb dB_36_3_40.2.1.1.2 (by decide) (fun c_48 => ?_) (fun c_48 => ?_)
                      · have t_48 : (0 : Int32).toInt ≤ y_47.toInt := Int32.le_iff_toInt_le.mp c_48
                        refine lv_iload hx hb dB_36_3_40.2.2.1.1 (lv_at hl 4 rfl) ?_
                        refine lv_if_lt (tgt := 101) hx hb dB_36_3_40.2.2.1.2 (by decide) (fun c_49 => ?_) (fun c_49 => ?_)
                        · have t_49 : a4.toInt < (0 : Int32).toInt := Int32.lt_iff_toInt_lt.mp c_49
                          refine lv_bipush (v := (-12)) hx hb dB_36_4_4.2.1.1 (by decide) ?_
                          refine lv_goto (tgt := 107) hx hb dB_36_4_4.2.1.2 (by decide) ?_
                          rw [hQ]
                          exact W.iret (v := (-12)) hx hb hr (fun t ht hW => ⟨⟨(-12), (), rfl, ⟨by first | (simp only [f4_c0, f4_c1, f4_c2, f4_c3]; unfold wrgI hasI; (repeat' (first | with_reducible refine if_n (by omega) ?_ | with_reducible refine if_ns (by omega) ?_ | with_reducible refine if_nz (by omega) ?_ | with_reducible exact if_p (by omega) (by omega) | with_reducible exact if_ps (by omega) (by omega) | with_reducible exact if_pz (by omega) (by omega))) <;> omega) | (unfold wrgI hasI; (repeat' (first | with_reducible refine if_n (by omega) ?_ | with_reducible refine if_ns (by omega) ?_ | with_reducible refine if_nz (by omega) ?_ | with_reducible exact if_p (by omega) (by omega) | with_reducible exact if_ps (by omega) (by omega) | with_reducible exact if_pz (by omega) (by omega))) <;> omega), by omega⟩, trivial⟩, hS.F ht⟩) hS.2.2 dB_36_4_4.2.2.2
                        · have t_49 : ¬ a4.toInt < (0 : Int32).toInt := fun h => c_49 (Int32.lt_iff_toInt_lt.mpr h)
                          refine lv_iload hx hb dB_36_3_40.2.2.2.1 (lv_at hl 4 rfl) ?_
                          refine lv_aload_n hx hb dB_36_3_40.2.2.2.2 rfl (lv_at hl 0 rfl) ?_
                          refine va_get (ci := 11) (v := .ref xm) (C := RX11) (T := TX11) (N := 12) hx hb hts (fun _ h => List.mem_cons_of_mem _ (List.mem_append_left _ (List.mem_append_right _ h))) hown hK.1 hP 0 rfl rfl 6 (by decide) (hts (.fieldLink RX11 72 "CutAtlas" "maps" "[LCutAtlas$NumberMap;") (List.mem_of_getElem? (i := 1) rfl)) (fun _ h9 => h9) rfl dB_36_3_41.1.1 ?_
                          refine lv_iload_n hx hb dB_36_3_41.1.2 rfl (lv_at hl 1 rfl) ?_
                          refine va_aldq hx hb hK.1 hP 1 4 rfl rfl (i := 2) (by unfold vp_in; decide) dB_36_3_41.2.1 ?_
                          refine lv_topv (v' := .ref m2) (by simp [va_up, va_rf, mf_, cl_0, cl_1, cl_2, cl_3, cl_4]) ?_
                          refine va_get (ci := 4) (v := .ref l2) (C := RX4) (T := TX4) (N := 4) hx hb hts (fun _ h => List.mem_cons_of_mem _ (List.mem_append_right _ h)) hown hK.1 hP 4 rfl rfl 2 (by decide) (hts (.fieldLink RX11 321 "CutAtlas$NumberMap" "lengths" "[I") (List.mem_of_getElem? (i := 3) rfl)) (fun _ h9 => h9) rfl dB_36_3_41.2.2 ?_
                          refine lv_iload_n hx hb dB_36_4_4.1.1 rfl (lv_at hl 3 rfl) ?_
                          refine va_iald hx hb hK.1 hP 8 0 rfl rfl (i := a3) h_46 dB_36_4_4.1.2.1 ?_
                          refine lv_topi (fun y_51 ey_51 => ?_)
                          have e_ := (ey_51.trans ey_47.symm).symm
                          subst e_
                          skip
                          refine lv_icmp_lt (tgt := 106) hx hb dB_36_4_4.1.2.2 (by decide) (fun c_52 => ?_) (fun c_52 => ?_)
                          · have t_52 : a4.toInt < y_47.toInt := Int32.lt_iff_toInt_lt.mp c_52
                            refine lv_iconst (v := 0) hx hb dB_36_4_4.2.2.1 (by decide) ?_
                            rw [hQ]
                            exact W.iret (v := 0) hx hb hr (fun t ht hW => ⟨⟨0, (), rfl, ⟨by first | (simp only [f4_c0, f4_c1, f4_c2, f4_c3]; unfold wrgI hasI; (repeat' (first | with_reducible refine if_n (by omega) ?_ | with_reducible refine if_ns (by omega) ?_ | with_reducible refine if_nz (by omega) ?_ | with_reducible exact if_p (by omega) (by omega) | with_reducible exact if_ps (by omega) (by omega) | with_reducible exact if_pz (by omega) (by omega))) <;> omega) | (unfold wrgI hasI; (repeat' (first | with_reducible refine if_n (by omega) ?_ | with_reducible refine if_ns (by omega) ?_ | with_reducible refine if_nz (by omega) ?_ | with_reducible exact if_p (by omega) (by omega) | with_reducible exact if_ps (by omega) (by omega) | with_reducible exact if_pz (by omega) (by omega))) <;> omega), by omega⟩, trivial⟩, hS.F ht⟩) hS.2.2 dB_36_4_4.2.2.2
                          · have t_52 : ¬ a4.toInt < y_47.toInt := fun h => c_52 (Int32.lt_iff_toInt_lt.mpr h)
                            refine lv_bipush (v := (-12)) hx hb dB_36_4_4.2.1.1 (by decide) ?_
                            refine lv_goto (tgt := 107) hx hb dB_36_4_4.2.1.2 (by decide) ?_
                            rw [hQ]
                            exact W.iret (v := (-12)) hx hb hr (fun t ht hW => ⟨⟨(-12), (), rfl, ⟨by first | (simp only [f4_c0, f4_c1, f4_c2, f4_c3]; unfold wrgI hasI; (repeat' (first | with_reducible refine if_n (by omega) ?_ | with_reducible refine if_ns (by omega) ?_ | with_reducible refine if_nz (by omega) ?_ | with_reducible exact if_p (by omega) (by omega) | with_reducible exact if_ps (by omega) (by omega) | with_reducible exact if_pz (by omega) (by omega))) <;> omega) | (unfold wrgI hasI; (repeat' (first | with_reducible refine if_n (by omega) ?_ | with_reducible refine if_ns (by omega) ?_ | with_reducible refine if_nz (by omega) ?_ | with_reducible exact if_p (by omega) (by omega) | with_reducible exact if_ps (by omega) (by omega) | with_reducible exact if_pz (by omega) (by omega))) <;> omega), by omega⟩, trivial⟩, hS.F ht⟩) hS.2.2 dB_36_4_4.2.2.2
                      · have t_48 : ¬ (0 : Int32).toInt ≤ y_47.toInt := fun h => c_48 (Int32.le_iff_toInt_le.mpr h)
                        refine lv_bipush (v := (-11)) hx hb dB_36_3_40.2.1.2.1 (by decide) ?_
                        rw [hQ]
                        exact W.iret (v := (-11)) hx hb hr (fun t ht hW => ⟨⟨(-11), (), rfl, ⟨by first | (simp only [f4_c0, f4_c1, f4_c2, f4_c3]; unfold wrgI hasI; (repeat' (first | with_reducible refine if_n (by omega) ?_ | with_reducible refine if_ns (by omega) ?_ | with_reducible refine if_nz (by omega) ?_ | with_reducible exact if_p (by omega) (by omega) | with_reducible exact if_ps (by omega) (by omega) | with_reducible exact if_pz (by omega) (by omega))) <;> omega) | (unfold wrgI hasI; (repeat' (first | with_reducible refine if_n (by omega) ?_ | with_reducible refine if_ns (by omega) ?_ | with_reducible refine if_nz (by omega) ?_ | with_reducible exact if_p (by omega) (by omega) | with_reducible exact if_ps (by omega) (by omega) | with_reducible exact if_pz (by omega) (by omega))) <;> omega), by omega⟩, trivial⟩, hS.F ht⟩) hS.2.2 dB_36_3_40.2.1.2.2
                    · exact absurd c_45 (by decide)
                  · have e_ := e_.symm
                    subst e_
                    refine lv_if_ne (tgt := 63) hx hb dB_36_3_39.2.2.2.2 (by decide) (fun c_53 => ?_) (fun c_53 => ?_)
                    · exact absurd c_53 (by decide)
                    · have _ := c_53
                      refine lv_bipush (v := (-12)) hx hb dB_36_3_40.1.1.1.1 (by decide) ?_
                      rw [hQ]
                      exact W.iret (v := (-12)) hx hb hr (fun t ht hW => ⟨⟨(-12), (), rfl, ⟨by first | (simp only [f4_c0, f4_c1, f4_c2, f4_c3]; unfold wrgI hasI; (repeat' (first | with_reducible refine if_n (by omega) ?_ | with_reducible refine if_ns (by omega) ?_ | with_reducible refine if_nz (by omega) ?_ | with_reducible exact if_p (by omega) (by omega) | with_reducible exact if_ps (by omega) (by omega) | with_reducible exact if_pz (by omega) (by omega))) <;> omega) | (unfold wrgI hasI; (repeat' (first | with_reducible refine if_n (by omega) ?_ | with_reducible refine if_ns (by omega) ?_ | with_reducible refine if_nz (by omega) ?_ | with_reducible exact if_p (by omega) (by omega) | with_reducible exact if_ps (by omega) (by omega) | with_reducible exact if_pz (by omega) (by omega))) <;> omega), by omega⟩, trivial⟩, hS.F ht⟩) hS.2.2 dB_36_3_40.1.1.1.2
                · have t_42 : ¬ mk2.toInt = a2.toInt := fun h => c_42 (Int32.toInt_inj.mp h)
                  refine lv_bipush (v := (-13)) hx hb dB_36_3_39.1.2.2.2 (by decide) ?_
                  rw [hQ]
                  exact W.iret (v := (-13)) hx hb hr (fun t ht hW => ⟨⟨(-13), (), rfl, ⟨by first | (simp only [f4_c0, f4_c1, f4_c2, f4_c3]; unfold wrgI hasI; (repeat' (first | with_reducible refine if_n (by omega) ?_ | with_reducible refine if_ns (by omega) ?_ | with_reducible refine if_nz (by omega) ?_ | with_reducible exact if_p (by omega) (by omega) | with_reducible exact if_ps (by omega) (by omega) | with_reducible exact if_pz (by omega) (by omega))) <;> omega) | (unfold wrgI hasI; (repeat' (first | with_reducible refine if_n (by omega) ?_ | with_reducible refine if_ns (by omega) ?_ | with_reducible refine if_nz (by omega) ?_ | with_reducible exact if_p (by omega) (by omega) | with_reducible exact if_ps (by omega) (by omega) | with_reducible exact if_pz (by omega) (by omega))) <;> omega), by omega⟩, trivial⟩, hS.F ht⟩) hS.2.2 dB_36_3_39.2.1.1.1
              · exact absurd c_41 (by decide)
            · have e_ := e_.symm
              subst e_
              refine lv_if_ne (tgt := 31) hx hb dB_36_3_38.2.2.1.2 (by decide) (fun c_54 => ?_) (fun c_54 => ?_)
              · exact absurd c_54 (by decide)
              · have _ := c_54
                refine lv_bipush (v := (-11)) hx hb dB_36_3_38.2.2.2.1 (by decide) ?_
                rw [hQ]
                exact W.iret (v := (-11)) hx hb hr (fun t ht hW => ⟨⟨(-11), (), rfl, ⟨by first | (simp only [f4_c0, f4_c1, f4_c2, f4_c3]; unfold wrgI hasI; (repeat' (first | with_reducible refine if_n (by omega) ?_ | with_reducible refine if_ns (by omega) ?_ | with_reducible refine if_nz (by omega) ?_ | with_reducible exact if_p (by omega) (by omega) | with_reducible exact if_ps (by omega) (by omega) | with_reducible exact if_pz (by omega) (by omega))) <;> omega) | (unfold wrgI hasI; (repeat' (first | with_reducible refine if_n (by omega) ?_ | with_reducible refine if_ns (by omega) ?_ | with_reducible refine if_nz (by omega) ?_ | with_reducible exact if_p (by omega) (by omega) | with_reducible exact if_ps (by omega) (by omega) | with_reducible exact if_pz (by omega) (by omega))) <;> omega), by omega⟩, trivial⟩, hS.F ht⟩) hS.2.2 dB_36_3_38.2.2.2.2
          · refine lv_aload_n hx hb dB_36_3_38.2.1.1.1 rfl (lv_at hl 0 rfl) ?_
            refine va_get (ci := 11) (v := .ref xm) (C := RX11) (T := TX11) (N := 12) hx hb hts (fun _ h => List.mem_cons_of_mem _ (List.mem_append_left _ (List.mem_append_right _ h))) hown hK.1 hP 0 rfl rfl 6 (by decide) (hts (.fieldLink RX11 72 "CutAtlas" "maps" "[LCutAtlas$NumberMap;") (List.mem_of_getElem? (i := 1) rfl)) (fun _ h9 => h9) rfl dB_36_3_38.2.1.1.2 ?_
            refine lv_iload_n hx hb dB_36_3_38.2.1.2.1 rfl (lv_at hl 1 rfl) ?_
            refine va_aldq hx hb hK.1 hP 1 4 rfl rfl (i := 3) (by unfold vp_in; decide) dB_36_3_38.2.1.2.2 ?_
            refine lv_topv (v' := .ref m3) (by simp [va_up, va_rf, mf_, cl_0, cl_1, cl_2, cl_3, cl_4]) ?_
            refine ct_R hP hD0 [ob4_0_ m3 mk3 mr3 l3 u3] [5] (by decide) rfl (fun hPc hDw => ?_)
            have hFc := va_free (wc := []) hD hS hA [] rfl
            refine va_calli (va_runV (As := []) (rest := []) ⟨hx, hb, hml, hown, hts⟩ (c_X4_isThere l D cy H.size m3 l3 u3 mk3 mr3) (cwV 0 hts gX11_numberRefusal_X4_isThere rfl rfl rfl ⟨rfl, hd_X4_isThere⟩ ⟨Nat.le_of_ble_eq_true rfl, Nat.le_of_ble_eq_true rfl⟩) ⟨bl_, va_recvX hK.1 hP (ci := 4) (q0 := 5) rfl rfl, fun U hU hW => ⟨rfl, by rw [hU], by rw [hU]; exact hPc, kk_mv hW hK, hDw⟩⟩ rfl rfl hl.1 rfl (lv_room (Nat.le_of_ble_eq_true rfl)) dB_36_3_38.2.2.1.1 ⟨Nat.le_of_ble_eq_true rfl, Nat.le_of_ble_eq_true rfl⟩) hS (fun q _ h => hFc q h) hFc (fun r_55 u t H locs ht hvm hw hB hz1 hk1 hS => ?_)
            have hP : va_P D vwCl _ H := ro_keep hP hk1
            rcases hw with ⟨w_56, e_⟩ | ⟨w_56, e_⟩
            · have e_ := e_.symm
              subst e_
              refine lv_if_ne (tgt := 31) hx hb dB_36_3_38.2.2.1.2 (by decide) (fun c_57 => ?_) (fun c_57 => ?_)
              · have _ := c_57
                refine lv_aload_n hx hb dB_36_3_39.1.1.1.1 rfl (lv_at hl 0 rfl) ?_
                refine va_get (ci := 11) (v := .ref xm) (C := RX11) (T := TX11) (N := 12) hx hb hts (fun _ h => List.mem_cons_of_mem _ (List.mem_append_left _ (List.mem_append_right _ h))) hown hK.1 hP 0 rfl rfl 6 (by decide) (hts (.fieldLink RX11 72 "CutAtlas" "maps" "[LCutAtlas$NumberMap;") (List.mem_of_getElem? (i := 1) rfl)) (fun _ h9 => h9) rfl dB_36_3_39.1.1.1.2 ?_
                refine lv_iload_n hx hb dB_36_3_39.1.1.2.1 rfl (lv_at hl 1 rfl) ?_
                refine va_aldq hx hb hK.1 hP 1 4 rfl rfl (i := 3) (by unfold vp_in; decide) dB_36_3_39.1.1.2.2 ?_
                refine lv_topv (v' := .ref m3) (by simp [va_up, va_rf, mf_, cl_0, cl_1, cl_2, cl_3, cl_4]) ?_
                refine va_get (ci := 4) (v := .int mk3) (C := RX4) (T := TX4) (N := 4) hx hb hts (fun _ h => List.mem_cons_of_mem _ (List.mem_append_right _ h)) hown hK.1 hP 5 rfl rfl 0 (by decide) (hts (.fieldLink RX11 318 "CutAtlas$NumberMap" "kind" "I") (List.mem_of_getElem? (i := 2) rfl)) (fun _ h9 => h9) rfl dB_36_3_39.1.2.1.1 ?_
                refine lv_iload_n hx hb dB_36_3_39.1.2.1.2 rfl (lv_at hl 2 rfl) ?_
                refine lv_icmp_eq (tgt := 47) hx hb dB_36_3_39.1.2.2.1 (by decide) (fun c_58 => ?_) (fun c_58 => ?_)
                · have t_58 : mk3.toInt = a2.toInt := congrArg Int32.toInt c_58
                  refine lv_aload_n hx hb dB_36_3_39.2.1.1.2 rfl (lv_at hl 0 rfl) ?_
                  refine va_get (ci := 11) (v := .ref xm) (C := RX11) (T := TX11) (N := 12) hx hb hts (fun _ h => List.mem_cons_of_mem _ (List.mem_append_left _ (List.mem_append_right _ h))) hown hK.1 hP 0 rfl rfl 6 (by decide) (hts (.fieldLink RX11 72 "CutAtlas" "maps" "[LCutAtlas$NumberMap;") (List.mem_of_getElem? (i := 1) rfl)) (fun _ h9 => h9) rfl dB_36_3_39.2.1.2.1 ?_
                  refine lv_iload_n hx hb dB_36_3_39.2.1.2.2 rfl (lv_at hl 1 rfl) ?_
                  refine va_aldq hx hb hK.1 hP 1 4 rfl rfl (i := 3) (by unfold vp_in; decide) dB_36_3_39.2.2.1.1 ?_
                  refine lv_topv (v' := .ref m3) (by simp [va_up, va_rf, mf_, cl_0, cl_1, cl_2, cl_3, cl_4]) ?_
                  refine lv_iload_n hx hb dB_36_3_39.2.2.1.2 rfl (lv_at hl 3 rfl) ?_
                  refine ct_R hP hD0 [ob4_0_ m3 mk3 mr3 l3 u3] [5] (by decide) rfl (fun hPc hDw => ?_)
                  have hFc := va_free (wc := []) hD hS hA [] rfl
                  refine va_calli (va_runV (As := [.int a3]) (rest := []) ⟨hx, hb, hml, hown, hts⟩ (c_X4_hasRow l D cy H.size m3 l3 u3 mk3 mr3 a3) (cwV 1 hts gX11_numberRefusal_X4_hasRow rfl rfl rfl ⟨rfl, hd_X4_hasRow⟩ ⟨Nat.le_of_ble_eq_true rfl, Nat.le_of_ble_eq_true rfl⟩) ⟨bl_, va_recvX hK.1 hP (ci := 4) (q0 := 5) rfl rfl, fun U hU hW => ⟨rfl, by rw [hU], by rw [hU]; exact hPc, kk_mv hW hK, hDw⟩⟩ rfl rfl hl.1 rfl (lv_room (Nat.le_of_ble_eq_true rfl)) dB_36_3_39.2.2.2.1 ⟨Nat.le_of_ble_eq_true rfl, Nat.le_of_ble_eq_true rfl⟩) hS (fun q _ h => hFc q h) hFc (fun r_59 u t H locs ht hvm hw hB hz1 hk1 hS => ?_)
                  have hP : va_P D vwCl _ H := ro_keep hP hk1
                  rcases hw with ⟨w_60, e_⟩ | ⟨w_60, e_⟩
                  · have e_ := e_.symm
                    subst e_
                    refine lv_if_ne (tgt := 63) hx hb dB_36_3_39.2.2.2.2 (by decide) (fun c_61 => ?_) (fun c_61 => ?_)
                    · have _ := c_61
                      refine lv_aload_n hx hb dB_36_3_40.1.1.2.1 rfl (lv_at hl 0 rfl) ?_
                      refine va_get (ci := 11) (v := .ref xm) (C := RX11) (T := TX11) (N := 12) hx hb hts (fun _ h => List.mem_cons_of_mem _ (List.mem_append_left _ (List.mem_append_right _ h))) hown hK.1 hP 0 rfl rfl 6 (by decide) (hts (.fieldLink RX11 72 "CutAtlas" "maps" "[LCutAtlas$NumberMap;") (List.mem_of_getElem? (i := 1) rfl)) (fun _ h9 => h9) rfl dB_36_3_40.1.1.2.2 ?_
                      refine lv_iload_n hx hb dB_36_3_40.1.2.1.1 rfl (lv_at hl 1 rfl) ?_
                      refine va_aldq hx hb hK.1 hP 1 4 rfl rfl (i := 3) (by unfold vp_in; decide) dB_36_3_40.1.2.1.2 ?_
                      refine lv_topv (v' := .ref m3) (by simp [va_up, va_rf, mf_, cl_0, cl_1, cl_2, cl_3, cl_4]) ?_
                      refine va_get (ci := 4) (v := .ref l3) (C := RX4) (T := TX4) (N := 4) hx hb hts (fun _ h => List.mem_cons_of_mem _ (List.mem_append_right _ h)) hown hK.1 hP 5 rfl rfl 2 (by decide) (hts (.fieldLink RX11 321 "CutAtlas$NumberMap" "lengths" "[I") (List.mem_of_getElem? (i := 3) rfl)) (fun _ h9 => h9) rfl dB_36_3_40.1.2.2.1 ?_
                      refine lv_iload_n hx hb dB_36_3_40.1.2.2.2 rfl (lv_at hl 3 rfl) ?_
                      have h_62 : vp_in a3 6 := in_I (by first | with_reducible assumption | omega) (by omega)
                      refine va_iald hx hb hK.1 hP 9 0 rfl rfl (i := a3) h_62 dB_36_3_40.2.1.1.1 ?_
                      refine lv_topi (fun y_63 ey_63 => ?_)
                      have ky_63 : y_63.toInt = (fl3 a3.toNatClampNeg).toInt := by rw [ey_63]
                      have ry_63 : -9 ≤ y_63.toInt ∧ y_63.toInt ≤ 5 := by rw [ey_63]; exact r_fl3 _ (in_lt h_62)
                      refine lv_if_ge (tgt := 80) hx hb dB_36_3_40.2.1.1.2 (by decide) (fun c_64 => ?_) (fun c_64 => ?_)
                      · have t_64 : (0 : Int32).toInt ≤ y_63.toInt := Int32.le_iff_toInt_le.mp c_64
                        refine lv_iload hx hb dB_36_3_40.2.2.1.1 (lv_at hl 4 rfl) ?_
                        refine lv_if_lt (tgt := 101) hx hb dB_36_3_40.2.2.1.2 (by decide) (fun c_65 => ?_) (fun c_65 => ?_)
                        · have t_65 : a4.toInt < (0 : Int32).toInt := Int32.lt_iff_toInt_lt.mp c_65
                          refine lv_bipush (v := (-12)) hx hb dB_36_4_4.2.1.1 (by decide) ?_
                          refine lv_goto (tgt := 107) hx hb dB_36_4_4.2.1.2 (by decide) ?_
                          rw [hQ]
                          exact W.iret (v := (-12)) hx hb hr (fun t ht hW => ⟨⟨(-12), (), rfl, ⟨by first | (simp only [f4_c0, f4_c1, f4_c2, f4_c3]; unfold wrgI hasI; (repeat' (first | with_reducible refine if_n (by omega) ?_ | with_reducible refine if_ns (by omega) ?_ | with_reducible refine if_nz (by omega) ?_ | with_reducible exact if_p (by omega) (by omega) | with_reducible exact if_ps (by omega) (by omega) | with_reducible exact if_pz (by omega) (by omega))) <;> omega) | (unfold wrgI hasI; (repeat' (first | with_reducible refine if_n (by omega) ?_ | with_reducible refine if_ns (by omega) ?_ | with_reducible refine if_nz (by omega) ?_ | with_reducible exact if_p (by omega) (by omega) | with_reducible exact if_ps (by omega) (by omega) | with_reducible exact if_pz (by omega) (by omega))) <;> omega), by omega⟩, trivial⟩, hS.F ht⟩) hS.2.2 dB_36_4_4.2.2.2
                        · have t_65 : ¬ a4.toInt < (0 : Int32).toInt := fun h => c_65 (Int32.lt_iff_toInt_lt.mpr h)
                          refine lv_iload hx hb dB_36_3_40.2.2.2.1 (lv_at hl 4 rfl) ?_
                          refine lv_aload_n hx hb dB_36_3_40.2.2.2.2 rfl (lv_at hl 0 rfl) ?_
                          refine va_get (ci := 11) (v := .ref xm) (C := RX11) (T := TX11) (N := 12) hx hb hts (fun _ h => List.mem_cons_of_mem _ (List.mem_append_left _ (List.mem_append_right _ h))) hown hK.1 hP 0 rfl rfl 6 (by decide) (hts (.fieldLink RX11 72 "CutAtlas" "maps" "[LCutAtlas$NumberMap;") (List.mem_of_getElem? (i := 1) rfl)) (fun _ h9 => h9) rfl dB_36_3_41.1.1 ?_
                          refine lv_iload_n hx hb dB_36_3_41.1.2 rfl (lv_at hl 1 rfl) ?_
                          refine va_aldq hx hb hK.1 hP 1 4 rfl rfl (i := 3) (by unfold vp_in; decide) dB_36_3_41.2.1 ?_
                          refine lv_topv (v' := .ref m3) (by simp [va_up, va_rf, mf_, cl_0, cl_1, cl_2, cl_3, cl_4]) ?_
                          refine va_get (ci := 4) (v := .ref l3) (C := RX4) (T := TX4) (N := 4) hx hb hts (fun _ h => List.mem_cons_of_mem _ (List.mem_append_right _ h)) hown hK.1 hP 5 rfl rfl 2 (by decide) (hts (.fieldLink RX11 321 "CutAtlas$NumberMap" "lengths" "[I") (List.mem_of_getElem? (i := 3) rfl)) (fun _ h9 => h9) rfl dB_36_3_41.2.2 ?_
                          refine lv_iload_n hx hb dB_36_4_4.1.1 rfl (lv_at hl 3 rfl) ?_
                          refine va_iald hx hb hK.1 hP 9 0 rfl rfl (i := a3) h_62 dB_36_4_4.1.2.1 ?_
                          refine lv_topi (fun y_67 ey_67 => ?_)
                          have e_ := (ey_67.trans ey_63.symm).symm
                          subst e_
                          skip
                          refine lv_icmp_lt (tgt := 106) hx hb dB_36_4_4.1.2.2 (by decide) (fun c_68 => ?_) (fun c_68 => ?_)
                          · have t_68 : a4.toInt < y_63.toInt := Int32.lt_iff_toInt_lt.mp c_68
                            refine lv_iconst (v := 0) hx hb dB_36_4_4.2.2.1 (by decide) ?_
                            rw [hQ]
                            exact W.iret (v := 0) hx hb hr (fun t ht hW => ⟨⟨0, (), rfl, ⟨by first | (simp only [f4_c0, f4_c1, f4_c2, f4_c3]; unfold wrgI hasI; (repeat' (first | with_reducible refine if_n (by omega) ?_ | with_reducible refine if_ns (by omega) ?_ | with_reducible refine if_nz (by omega) ?_ | with_reducible exact if_p (by omega) (by omega) | with_reducible exact if_ps (by omega) (by omega) | with_reducible exact if_pz (by omega) (by omega))) <;> omega) | (unfold wrgI hasI; (repeat' (first | with_reducible refine if_n (by omega) ?_ | with_reducible refine if_ns (by omega) ?_ | with_reducible refine if_nz (by omega) ?_ | with_reducible exact if_p (by omega) (by omega) | with_reducible exact if_ps (by omega) (by omega) | with_reducible exact if_pz (by omega) (by omega))) <;> omega), by omega⟩, trivial⟩, hS.F ht⟩) hS.2.2 dB_36_4_4.2.2.2
                          · have t_68 : ¬ a4.toInt < y_63.toInt := fun h => c_68 (Int32.lt_iff_toInt_lt.mpr h)
                            refine lv_bipush (v := (-12)) hx hb dB_36_4_4.2.1.1 (by decide) ?_
                            refine lv_goto (tgt := 107) hx hb dB_36_4_4.2.1.2 (by decide) ?_
                            rw [hQ]
                            exact W.iret (v := (-12)) hx hb hr (fun t ht hW => ⟨⟨(-12), (), rfl, ⟨by first | (simp only [f4_c0, f4_c1, f4_c2, f4_c3]; unfold wrgI hasI; (repeat' (first | with_reducible refine if_n (by omega) ?_ | with_reducible refine if_ns (by omega) ?_ | with_reducible refine if_nz (by omega) ?_ | with_reducible exact if_p (by omega) (by omega) | with_reducible exact if_ps (by omega) (by omega) | with_reducible exact if_pz (by omega) (by omega))) <;> omega) | (unfold wrgI hasI; (repeat' (first | with_reducible refine if_n (by omega) ?_ | with_reducible refine if_ns (by omega) ?_ | with_reducible refine if_nz (by omega) ?_ | with_reducible exact if_p (by omega) (by omega) | with_reducible exact if_ps (by omega) (by omega) | with_reducible exact if_pz (by omega) (by omega))) <;> omega), by omega⟩, trivial⟩, hS.F ht⟩) hS.2.2 dB_36_4_4.2.2.2
                      · have t_64 : ¬ (0 : Int32).toInt ≤ y_63.toInt := fun h => c_64 (Int32.le_iff_toInt_le.mpr h)
                        refine lv_bipush (v := (-11)) hx hb dB_36_3_40.2.1.2.1 (by decide) ?_
                        rw [hQ]
                        exact W.iret (v := (-11)) hx hb hr (fun t ht hW => ⟨⟨(-11), (), rfl, ⟨by first | (simp only [f4_c0, f4_c1, f4_c2, f4_c3]; unfold wrgI hasI; (repeat' (first | with_reducible refine if_n (by omega) ?_ | with_reducible refine if_ns (by omega) ?_ | with_reducible refine if_nz (by omega) ?_ | with_reducible exact if_p (by omega) (by omega) | with_reducible exact if_ps (by omega) (by omega) | with_reducible exact if_pz (by omega) (by omega))) <;> omega) | (unfold wrgI hasI; (repeat' (first | with_reducible refine if_n (by omega) ?_ | with_reducible refine if_ns (by omega) ?_ | with_reducible refine if_nz (by omega) ?_ | with_reducible exact if_p (by omega) (by omega) | with_reducible exact if_ps (by omega) (by omega) | with_reducible exact if_pz (by omega) (by omega))) <;> omega), by omega⟩, trivial⟩, hS.F ht⟩) hS.2.2 dB_36_3_40.2.1.2.2
                    · exact absurd c_61 (by decide)
                  · have e_ := e_.symm
                    subst e_
                    refine lv_if_ne (tgt := 63) hx hb dB_36_3_39.2.2.2.2 (by decide) (fun c_69 => ?_) (fun c_69 => ?_)
                    · exact absurd c_69 (by decide)
                    · have _ := c_69
                      refine lv_bipush (v := (-12)) hx hb dB_36_3_40.1.1.1.1 (by decide) ?_
                      rw [hQ]
                      exact W.iret (v := (-12)) hx hb hr (fun t ht hW => ⟨⟨(-12), (), rfl, ⟨by first | (simp only [f4_c0, f4_c1, f4_c2, f4_c3]; unfold wrgI hasI; (repeat' (first | with_reducible refine if_n (by omega) ?_ | with_reducible refine if_ns (by omega) ?_ | with_reducible refine if_nz (by omega) ?_ | with_reducible exact if_p (by omega) (by omega) | with_reducible exact if_ps (by omega) (by omega) | with_reducible exact if_pz (by omega) (by omega))) <;> omega) | (unfold wrgI hasI; (repeat' (first | with_reducible refine if_n (by omega) ?_ | with_reducible refine if_ns (by omega) ?_ | with_reducible refine if_nz (by omega) ?_ | with_reducible exact if_p (by omega) (by omega) | with_reducible exact if_ps (by omega) (by omega) | with_reducible exact if_pz (by omega) (by omega))) <;> omega), by omega⟩, trivial⟩, hS.F ht⟩) hS.2.2 dB_36_3_40.1.1.1.2
                · have t_58 : ¬ mk3.toInt = a2.toInt := fun h => c_58 (Int32.toInt_inj.mp h)
                  refine lv_bipush (v := (-13)) hx hb dB_36_3_39.1.2.2.2 (by decide) ?_
                  rw [hQ]
                  exact W.iret (v := (-13)) hx hb hr (fun t ht hW => ⟨⟨(-13), (), rfl, ⟨by first | (simp only [f4_c0, f4_c1, f4_c2, f4_c3]; unfold wrgI hasI; (repeat' (first | with_reducible refine if_n (by omega) ?_ | with_reducible refine if_ns (by omega) ?_ | with_reducible refine if_nz (by omega) ?_ | with_reducible exact if_p (by omega) (by omega) | with_reducible exact if_ps (by omega) (by omega) | with_reducible exact if_pz (by omega) (by omega))) <;> omega) | (unfold wrgI hasI; (repeat' (first | with_reducible refine if_n (by omega) ?_ | with_reducible refine if_ns (by omega) ?_ | with_reducible refine if_nz (by omega) ?_ | with_reducible exact if_p (by omega) (by omega) | with_reducible exact if_ps (by omega) (by omega) | with_reducible exact if_pz (by omega) (by omega))) <;> omega), by omega⟩, trivial⟩, hS.F ht⟩) hS.2.2 dB_36_3_39.2.1.1.1
              · exact absurd c_57 (by decide)
            · have e_ := e_.symm
              subst e_
              refine lv_if_ne (tgt := 31) hx hb dB_36_3_38.2.2.1.2 (by decide) (fun c_70 => ?_) (fun c_70 => ?_)
              · exact absurd c_70 (by decide)
              · have _ := c_70
                refine lv_bipush (v := (-11)) hx hb dB_36_3_38.2.2.2.1 (by decide) ?_
                rw [hQ]
                exact W.iret (v := (-11)) hx hb hr (fun t ht hW => ⟨⟨(-11), (), rfl, ⟨by first | (simp only [f4_c0, f4_c1, f4_c2, f4_c3]; unfold wrgI hasI; (repeat' (first | with_reducible refine if_n (by omega) ?_ | with_reducible refine if_ns (by omega) ?_ | with_reducible refine if_nz (by omega) ?_ | with_reducible exact if_p (by omega) (by omega) | with_reducible exact if_ps (by omega) (by omega) | with_reducible exact if_pz (by omega) (by omega))) <;> omega) | (unfold wrgI hasI; (repeat' (first | with_reducible refine if_n (by omega) ?_ | with_reducible refine if_ns (by omega) ?_ | with_reducible refine if_nz (by omega) ?_ | with_reducible exact if_p (by omega) (by omega) | with_reducible exact if_ps (by omega) (by omega) | with_reducible exact if_pz (by omega) (by omega))) <;> omega), by omega⟩, trivial⟩, hS.F ht⟩) hS.2.2 dB_36_3_38.2.2.2.2
        · exact absurd c_6 (by decide)
      · have e_ := e_.symm
        subst e_
        refine lv_if_ne (tgt := 16) hx hb dB_36_3_38.1.2.1.2 (by decide) (fun c_71 => ?_) (fun c_71 => ?_)
        · exact absurd c_71 (by decide)
        · have _ := c_71
          refine lv_iconst (v := (-1)) hx hb dB_36_3_38.1.2.2.1 (by decide) ?_
          rw [hQ]
          exact W.iret (v := (-1)) hx hb hr (fun t ht hW => ⟨⟨(-1), (), rfl, ⟨by first | (simp only [f4_c0, f4_c1, f4_c2, f4_c3]; unfold wrgI hasI; (repeat' (first | with_reducible refine if_n (by omega) ?_ | with_reducible refine if_ns (by omega) ?_ | with_reducible refine if_nz (by omega) ?_ | with_reducible exact if_p (by omega) (by omega) | with_reducible exact if_ps (by omega) (by omega) | with_reducible exact if_pz (by omega) (by omega))) <;> omega) | (unfold wrgI hasI; (repeat' (first | with_reducible refine if_n (by omega) ?_ | with_reducible refine if_ns (by omega) ?_ | with_reducible refine if_nz (by omega) ?_ | with_reducible exact if_p (by omega) (by omega) | with_reducible exact if_ps (by omega) (by omega) | with_reducible exact if_pz (by omega) (by omega))) <;> omega), by omega⟩, trivial⟩, hS.F ht⟩) hS.2.2 dB_36_3_38.1.2.2.2
  · have e_ := e_.symm
    subst e_
    refine lv_if_eq (tgt := 14) hx hb dB_36_3_38.1.1.2.1 (by decide) (fun c_72 => ?_) (fun c_72 => ?_)
    · have _ := c_72
      refine lv_iconst (v := (-1)) hx hb dB_36_3_38.1.2.2.1 (by decide) ?_
      rw [hQ]
      exact W.iret (v := (-1)) hx hb hr (fun t ht hW => ⟨⟨(-1), (), rfl, ⟨by first | (simp only [f4_c0, f4_c1, f4_c2, f4_c3]; unfold wrgI hasI; (repeat' (first | with_reducible refine if_n (by omega) ?_ | with_reducible refine if_ns (by omega) ?_ | with_reducible refine if_nz (by omega) ?_ | with_reducible exact if_p (by omega) (by omega) | with_reducible exact if_ps (by omega) (by omega) | with_reducible exact if_pz (by omega) (by omega))) <;> omega) | (unfold wrgI hasI; (repeat' (first | with_reducible refine if_n (by omega) ?_ | with_reducible refine if_ns (by omega) ?_ | with_reducible refine if_nz (by omega) ?_ | with_reducible exact if_p (by omega) (by omega) | with_reducible exact if_ps (by omega) (by omega) | with_reducible exact if_pz (by omega) (by omega))) <;> omega), by omega⟩, trivial⟩, hS.F ht⟩) hS.2.2 dB_36_3_38.1.2.2.2
    · exact absurd c_72 (by decide)
end

section
set_option maxHeartbeats 4000000 in
set_option maxRecDepth 100000 in
theorem c_X11_map2 (l : Launch) (D : va_G) (cy : Nat → ClassId) (sz : Nat) (xo : Nat) (xk : Nat) (xn : Nat) (xc : Nat) (xh : Nat) (xt : Nat) (xw : Nat) (xm : Nat) (xp : Nat) (pf : Int32) (ph : Int32) (tr : Int64) (fi : Int32) (m0 : Nat) (l0 : Nat) (u0 : Nat) (m1 : Nat) (l1 : Nat) (u1 : Nat) (m2 : Nat) (l2 : Nat) (u2 : Nat) (m3 : Nat) (l3 : Nat) (u3 : Nat) (mk0 : Int32) (mr0 : Int32) (mk1 : Int32) (mr1 : Int32) (mk2 : Int32) (mr2 : Int32) (mk3 : Int32) (mr3 : Int32) (fl0 : Nat → Int32) (fl1 : Nat → Int32) (fl2 : Nat → Int32) (fl3 : Nat → Int32) (a1 : Int32) (a2 : Int32) (a3 : Int32) (hmr0 : mr0.toInt = -9 ∨ (0 ≤ mr0.toInt ∧ mr0.toInt ≤ 6)) (hmr1 : mr1.toInt = -9 ∨ (0 ≤ mr1.toInt ∧ mr1.toInt ≤ 6)) (hmr2 : mr2.toInt = -9 ∨ (0 ≤ mr2.toInt ∧ mr2.toInt ≤ 6)) (hmr3 : mr3.toInt = -9 ∨ (0 ≤ mr3.toInt ∧ mr3.toInt ≤ 6)) (r_fl0 : rng fl0 6 (-9) (5)) (r_fl1 : rng fl1 6 (-9) (5)) (r_fl2 : rng fl2 6 (-9) (5)) (r_fl3 : rng fl3 6 (-9) (5)) : Met l yX11_map wsX11_map ({ frames := 2, cells := 0, slots := 0, locals := 45 }) (va_Pc [.ref xo, .int a1, .int a2, .int a3] (fun U => U.heap.size = sz ∧ va_P D vwCl [ob11_0_ xo xk xn xc xh xt xw xm xp pf ph tr fi, aq_ cy 4 xm 4 (mf_ m0 m1 m2 m3), ob4_0_ m0 mk0 mr0 l0 u0, ob4_0_ m1 mk1 mr1 l1 u1, ob4_0_ m2 mk2 mr2 l2 u2, ob4_0_ m3 mk3 mr3 l3 u3, ai_ cy l0 6 fl0, ai_ cy l1 6 fl1, ai_ cy l2 6 fl2, ai_ cy l3 6 fl3] U.heap ∧ kk_ D cy U ∧ va_D (fun _ => True) [ob11_0_ xo xk xn xc xh xt xw xm xp pf ph tr fi, aq_ cy 4 xm 4 (mf_ m0 m1 m2 m3), ob4_0_ m0 mk0 mr0 l0 u0, ob4_0_ m1 mk1 mr1 l1 u1, ob4_0_ m2 mk2 mr2 l2 u2, ob4_0_ m3 mk3 mr3 l3 u3, ai_ cy l0 6 fl0, ai_ cy l1 6 fl1, ai_ cy l2 6 fl2, ai_ cy l3 6 fl3])) (va_Qi (fun (r : Int32) (_ : Unit) => (r.toInt = if mapRI a1.toInt a2.toInt a3.toInt = 0 then 1 else mapRI a1.toInt a2.toInt a3.toInt)) (fun (_ : Unit) (t : State) => ∃ (efi : Int32), ∃ (emk0 : Int32), ∃ (emk1 : Int32), ∃ (emk2 : Int32), ∃ (emk3 : Int32), ∃ (emr0 : Int32), ∃ (emr1 : Int32), ∃ (emr2 : Int32), ∃ (emr3 : Int32), ∃ (efl0 : Nat → Int32), ∃ (efl1 : Nat → Int32), ∃ (efl2 : Nat → Int32), ∃ (efl3 : Nat → Int32), (emr0.toInt = -9 ∨ (0 ≤ emr0.toInt ∧ emr0.toInt ≤ 6)) ∧ (emr1.toInt = -9 ∨ (0 ≤ emr1.toInt ∧ emr1.toInt ≤ 6)) ∧ (emr2.toInt = -9 ∨ (0 ≤ emr2.toInt ∧ emr2.toInt ≤ 6)) ∧ (emr3.toInt = -9 ∨ (0 ≤ emr3.toInt ∧ emr3.toInt ≤ 6)) ∧ (efi.toInt = mapRI a1.toInt a2.toInt a3.toInt) ∧ ((efi.toInt ≠ 0 → eq4 (f4_ emk0 emk1 emk2 emk3) (f4_ mk0 mk1 mk2 mk3) ∧ eq4 (f4_ emr0 emr1 emr2 emr3) (f4_ mr0 mr1 mr2 mr3) ∧ eq4 (f4_ efl0 efl1 efl2 efl3) (f4_ fl0 fl1 fl2 fl3)) ∧ (efi.toInt = 0 → eq4 (f4_ emk0 emk1 emk2 emk3) (va_up (f4_ mk0 mk1 mk2 mk3) a1.toNatClampNeg a2) ∧ eq4 (f4_ emr0 emr1 emr2 emr3) (va_up (f4_ mr0 mr1 mr2 mr3) a1.toNatClampNeg a3) ∧ ∃ g : Nat → Int32, (∀ j : Nat, j < 6 → g j = (-9)) ∧ eq4 (f4_ efl0 efl1 efl2 efl3) (va_up (f4_ fl0 fl1 fl2 fl3) a1.toNatClampNeg g))) ∧ (rng efl0 6 (-9) (5)) ∧ (rng efl1 6 (-9) (5)) ∧ (rng efl2 6 (-9) (5)) ∧ (rng efl3 6 (-9) (5)) ∧ va_P D vwCl [ob11_0_ xo xk xn xc xh xt xw xm xp pf ph tr efi, aq_ cy 4 xm 4 (mf_ m0 m1 m2 m3), ob4_0_ m0 emk0 emr0 l0 u0, ob4_0_ m1 emk1 emr1 l1 u1, ob4_0_ m2 emk2 emr2 l2 u2, ob4_0_ m3 emk3 emr3 l3 u3, ai_ cy l0 6 efl0, ai_ cy l1 6 efl1, ai_ cy l2 6 efl2, ai_ cy l3 6 efl3] t.heap ∧ va_D (va_A [ob11_0_ xo xk xn xc xh xt xw xm xp pf ph tr fi, aq_ cy 4 xm 4 (mf_ m0 m1 m2 m3), ob4_0_ m0 mk0 mr0 l0 u0, ob4_0_ m1 mk1 mr1 l1 u1, ob4_0_ m2 mk2 mr2 l2 u2, ob4_0_ m3 mk3 mr3 l3 u3, ai_ cy l0 6 fl0, ai_ cy l1 6 fl1, ai_ cy l2 6 fl2, ai_ cy l3 6 fl3] sz) [ob11_0_ xo xk xn xc xh xt xw xm xp pf ph tr efi, aq_ cy 4 xm 4 (mf_ m0 m1 m2 m3), ob4_0_ m0 emk0 emr0 l0 u0, ob4_0_ m1 emk1 emr1 l1 u1, ob4_0_ m2 emk2 emr2 l2 u2, ob4_0_ m3 emk3 emr3 l3 u3, ai_ cy l0 6 efl0, ai_ cy l1 6 efl1, ai_ cy l2 6 efl2, ai_ cy l3 6 efl3]) (va_A [ob11_0_ xo xk xn xc xh xt xw xm xp pf ph tr fi, aq_ cy 4 xm 4 (mf_ m0 m1 m2 m3), ob4_0_ m0 mk0 mr0 l0 u0, ob4_0_ m1 mk1 mr1 l1 u1, ob4_0_ m2 mk2 mr2 l2 u2, ob4_0_ m3 mk3 mr3 l3 u3, ai_ cy l0 6 fl0, ai_ cy l1 6 fl1, ai_ cy l2 6 fl2, ai_ cy l3 6 fl3] sz)) 0 0 (va_A [ob11_0_ xo xk xn xc xh xt xw xm xp pf ph tr fi, aq_ cy 4 xm 4 (mf_ m0 m1 m2 m3), ob4_0_ m0 mk0 mr0 l0 u0, ob4_0_ m1 mk1 mr1 l1 u1, ob4_0_ m2 mk2 mr2 l2 u2, ob4_0_ m3 mk3 mr3 l3 u3, ai_ cy l0 6 fl0, ai_ cy l1 6 fl1, ai_ cy l2 6 fl2, ai_ cy l3 6 fl3] sz) := by
  refine ofQ (cc := cX11_map) (maxL := 4) (ret := (some .int)) (by decide) rfl ?_
  intro p e s m args below meth c s₁ Q hQ B hml hv
  obtain ⟨rfl, hsz, hP, hK, hD0⟩ := hv
  have hx := B.exec
  have hb := B.bytes
  have hr := B.returns
  have hts := atoms_spec (ws := wsX11_map) B.pre
  have hown : s.vm.findClass RX11 = some m.cls := by have h_ := findClass_of_methodNamed B.named; exact h_
  have hlocks := B.notSynchronized
  subst hsz
  have hD := hD0.self (sz := s.heap.size)
  generalize hAe : va_A [ob11_0_ xo xk xn xc xh xt xw xm xp pf ph tr fi, aq_ cy 4 xm 4 (mf_ m0 m1 m2 m3), ob4_0_ m0 mk0 mr0 l0 u0, ob4_0_ m1 mk1 mr1 l1 u1, ob4_0_ m2 mk2 mr2 l2 u2, ob4_0_ m3 mk3 mr3 l3 u3, ai_ cy l0 6 fl0, ai_ cy l1 6 fl1, ai_ cy l2 6 fl2, ai_ cy l3 6 fl3] s.heap.size = A at hD hQ
  have hA : ∀ q : Nat, s.heap.size ≤ q → A q := fun q h => by rw [← hAe]; exact Or.inr h
  have hS : va_S A s.heap s.heap [] := va_S.rf
  have hl := lv_entry ([.ref xo, .int a1, .int a2, .int a3]) (n := 4) (Nat.le_of_ble_eq_true rfl)
  rw [lg_entry_eq]
  generalize (lg_sl ([.ref xo, .int a1, .int a2, .int a3]) ++ List.replicate (4 - (lg_sl ([.ref xo, .int a1, .int a2, .int a3])).length) Slot.unset).toArray = ls at hl ⊢
  have hl : lv_has ls 4 [(0, .ref xo), (1, .int a1), (2, .int a2), (3, .int a3)] := hl
  have zm15 : ((-15) : Int32).toInt = -15 := by decide
  have zm1 : ((-1) : Int32).toInt = -1 := by decide
  have z0 : (0 : Int32).toInt = 0 := by decide
  have z1 : (1 : Int32).toInt = 1 := by decide
  refine lv_aload_n hx hb dB_36_3_30.1.1.1.1 rfl (lv_at hl 0 rfl) ?_
  refine lv_iload_n hx hb dB_36_3_30.1.1.1.2 rfl (lv_at hl 1 rfl) ?_
  refine lv_iload_n hx hb dB_36_3_30.1.1.2.1 rfl (lv_at hl 2 rfl) ?_
  refine lv_iload_n hx hb dB_36_3_30.1.1.2.2 rfl (lv_at hl 3 rfl) ?_
  refine ct_R hP hD [] [] (by decide) rfl (fun hPc hDw => ?_)
  have hFc := va_free (wc := []) hD hS hA [] rfl
  refine va_calli (va_runS (As := [.int a1, .int a2, .int a3]) (rest := [.ref xo]) ⟨hx, hb, hml, hown, hts⟩ (c_X11_mapRefusal l D cy s.heap.size a1 a2 a3) (va_cwS 3 hts gX11_map_X11_mapRefusal rfl rfl rfl hd_X11_mapRefusal ⟨Nat.le_of_ble_eq_true rfl, Nat.le_of_ble_eq_true rfl⟩) ⟨bl_, fun U hU hW => ⟨rfl, by rw [hU], by rw [hU]; exact hPc, kk_mv hW hK, hDw⟩⟩ rfl rfl hl.1 rfl (lv_room (Nat.le_of_ble_eq_true rfl)) dB_36_3_30.1.2.1.1 ⟨Nat.le_of_ble_eq_true rfl, Nat.le_of_ble_eq_true rfl⟩) hS (fun q _ h => hFc q h) hFc (fun r_1 u t H locs ht hvm hw hB hz1 hk1 hS => ?_)
  have hP : va_P D vwCl _ H := ro_keep hP hk1
  rcases hw with ⟨w_2, e_⟩ | ⟨w_2, e_⟩ | ⟨w_2, e_⟩
  · have e_ := e_.symm
    subst e_
    refine va_put (ci := 11) (v := .int (-1)) (ty := .int) (C := RX11) (T := TX11) (N := 12) hx hb hts (fun _ h => List.mem_cons_of_mem _ (List.mem_append_left _ (List.mem_append_right _ h))) tyX11 tyX11_ok nmX11 hown hK.1 hP hD hS 0 rfl rfl 11 (by decide) (hts (.fieldLink RX11 91 "CutAtlas" "finding" "I") (List.mem_of_getElem? (i := 1) rfl)) (fun _ h9 => h9) rfl (by decide +kernel) rfl rfl (Nat.le_of_ble_eq_true rfl) dB_36_3_30.1.2.1.2 (fun H locs hP hD hS => ?_)
    refine pd_K [ob11_0_ xo xk xn xc xh xt xw xm xp pf ph tr (-1), aq_ cy 4 xm 4 (mf_ m0 m1 m2 m3), ob4_0_ m0 mk0 mr0 l0 u0, ob4_0_ m1 mk1 mr1 l1 u1, ob4_0_ m2 mk2 mr2 l2 u2, ob4_0_ m3 mk3 mr3 l3 u3, ai_ cy l0 6 fl0, ai_ cy l1 6 fl1, ai_ cy l2 6 fl2, ai_ cy l3 6 fl3] hP hD (fun hP hD => ?_)
    refine lv_aload_n hx hb dB_36_3_30.1.2.2.1 rfl (lv_at hl 0 rfl) ?_
    refine va_get (ci := 11) (v := .int (-1)) (C := RX11) (T := TX11) (N := 12) hx hb hts (fun _ h => List.mem_cons_of_mem _ (List.mem_append_left _ (List.mem_append_right _ h))) hown hK.1 hP 0 rfl rfl 11 (by decide) (hts (.fieldLink RX11 91 "CutAtlas" "finding" "I") (List.mem_of_getElem? (i := 1) rfl)) (fun _ h9 => h9) rfl dB_36_3_30.1.2.2.2 ?_
    refine lv_if_eq (tgt := 22) hx hb dB_36_3_30.2.1.1.1 (by decide) (fun c_3 => ?_) (fun c_3 => ?_)
    · exact absurd c_3 (by decide)
    · have _ := c_3
      refine lv_aload_n hx hb dB_36_3_30.2.1.1.2 rfl (lv_at hl 0 rfl) ?_
      refine va_get (ci := 11) (v := .int (-1)) (C := RX11) (T := TX11) (N := 12) hx hb hts (fun _ h => List.mem_cons_of_mem _ (List.mem_append_left _ (List.mem_append_right _ h))) hown hK.1 hP 0 rfl rfl 11 (by decide) (hts (.fieldLink RX11 91 "CutAtlas" "finding" "I") (List.mem_of_getElem? (i := 1) rfl)) (fun _ h9 => h9) rfl dB_36_3_30.2.1.2.1 ?_
      rw [hQ]
      exact W.iret (v := (-1)) hx hb hr (fun t ht hW => ⟨⟨(-1), (), rfl, (by unfold mapRI; (repeat' (first | with_reducible refine if_n (by omega) ?_ | with_reducible refine if_ns (by omega) ?_ | with_reducible refine if_nz (by omega) ?_ | with_reducible exact if_p (by omega) (by omega) | with_reducible exact if_ps (by omega) (by omega) | with_reducible exact if_pz (by omega) (by omega))) <;> omega), ((-1) : Int32), mk0, mk1, mk2, mk3, mr0, mr1, mr2, mr3, fl0, fl1, fl2, fl3, (by first | with_reducible assumption | assumption | exact rng_zero (by omega) (by omega) | omega), (by first | with_reducible assumption | assumption | exact rng_zero (by omega) (by omega) | omega), (by first | with_reducible assumption | assumption | exact rng_zero (by omega) (by omega) | omega), (by first | with_reducible assumption | assumption | exact rng_zero (by omega) (by omega) | omega), (by unfold mapRI; (repeat' (first | with_reducible refine if_n (by omega) ?_ | with_reducible refine if_ns (by omega) ?_ | with_reducible refine if_nz (by omega) ?_ | with_reducible exact if_p (by omega) (by omega) | with_reducible exact if_ps (by omega) (by omega) | with_reducible exact if_pz (by omega) (by omega))) <;> omega), (by first | exact ⟨fun _ => ⟨eq4_rf, eq4_rf, eq4_rf⟩, fun h => absurd h (by first | omega | decide)⟩ | exact ⟨fun h => absurd (by first | omega | decide) h, fun _ => ⟨f4_u0, f4_u0, _, hf9_, f4_u0⟩⟩ | exact ⟨fun h => absurd (by first | omega | decide) h, fun _ => ⟨f4_u1, f4_u1, _, hf9_, f4_u1⟩⟩ | exact ⟨fun h => absurd (by first | omega | decide) h, fun _ => ⟨f4_u2, f4_u2, _, hf9_, f4_u2⟩⟩ | exact ⟨fun h => absurd (by first | omega | decide) h, fun _ => ⟨f4_u3, f4_u3, _, hf9_, f4_u3⟩⟩), (by first | with_reducible assumption | assumption | exact rng_zero (by omega) (by omega) | omega), (by first | with_reducible assumption | assumption | exact rng_zero (by omega) (by omega) | omega), (by first | with_reducible assumption | assumption | exact rng_zero (by omega) (by omega) | omega), (by first | with_reducible assumption | assumption | exact rng_zero (by omega) (by omega) | omega), by rw [ht]; exact hP, hD⟩, hS.F ht⟩) hS.2.2 dB_36_3_30.2.1.2.2
  · have e_ := e_.symm
    subst e_
    refine va_put (ci := 11) (v := .int (-15)) (ty := .int) (C := RX11) (T := TX11) (N := 12) hx hb hts (fun _ h => List.mem_cons_of_mem _ (List.mem_append_left _ (List.mem_append_right _ h))) tyX11 tyX11_ok nmX11 hown hK.1 hP hD hS 0 rfl rfl 11 (by decide) (hts (.fieldLink RX11 91 "CutAtlas" "finding" "I") (List.mem_of_getElem? (i := 1) rfl)) (fun _ h9 => h9) rfl (by decide +kernel) rfl rfl (Nat.le_of_ble_eq_true rfl) dB_36_3_30.1.2.1.2 (fun H locs hP hD hS => ?_)
    refine pd_K [ob11_0_ xo xk xn xc xh xt xw xm xp pf ph tr (-15), aq_ cy 4 xm 4 (mf_ m0 m1 m2 m3), ob4_0_ m0 mk0 mr0 l0 u0, ob4_0_ m1 mk1 mr1 l1 u1, ob4_0_ m2 mk2 mr2 l2 u2, ob4_0_ m3 mk3 mr3 l3 u3, ai_ cy l0 6 fl0, ai_ cy l1 6 fl1, ai_ cy l2 6 fl2, ai_ cy l3 6 fl3] hP hD (fun hP hD => ?_)
    refine lv_aload_n hx hb dB_36_3_30.1.2.2.1 rfl (lv_at hl 0 rfl) ?_
    refine va_get (ci := 11) (v := .int (-15)) (C := RX11) (T := TX11) (N := 12) hx hb hts (fun _ h => List.mem_cons_of_mem _ (List.mem_append_left _ (List.mem_append_right _ h))) hown hK.1 hP 0 rfl rfl 11 (by decide) (hts (.fieldLink RX11 91 "CutAtlas" "finding" "I") (List.mem_of_getElem? (i := 1) rfl)) (fun _ h9 => h9) rfl dB_36_3_30.1.2.2.2 ?_
    refine lv_if_eq (tgt := 22) hx hb dB_36_3_30.2.1.1.1 (by decide) (fun c_4 => ?_) (fun c_4 => ?_)
    · exact absurd c_4 (by decide)
    · have _ := c_4
      refine lv_aload_n hx hb dB_36_3_30.2.1.1.2 rfl (lv_at hl 0 rfl) ?_
      refine va_get (ci := 11) (v := .int (-15)) (C := RX11) (T := TX11) (N := 12) hx hb hts (fun _ h => List.mem_cons_of_mem _ (List.mem_append_left _ (List.mem_append_right _ h))) hown hK.1 hP 0 rfl rfl 11 (by decide) (hts (.fieldLink RX11 91 "CutAtlas" "finding" "I") (List.mem_of_getElem? (i := 1) rfl)) (fun _ h9 => h9) rfl dB_36_3_30.2.1.2.1 ?_
      rw [hQ]
      exact W.iret (v := (-15)) hx hb hr (fun t ht hW => ⟨⟨(-15), (), rfl, (by unfold mapRI; (repeat' (first | with_reducible refine if_n (by omega) ?_ | with_reducible refine if_ns (by omega) ?_ | with_reducible refine if_nz (by omega) ?_ | with_reducible exact if_p (by omega) (by omega) | with_reducible exact if_ps (by omega) (by omega) | with_reducible exact if_pz (by omega) (by omega))) <;> omega), ((-15) : Int32), mk0, mk1, mk2, mk3, mr0, mr1, mr2, mr3, fl0, fl1, fl2, fl3, (by first | with_reducible assumption | assumption | exact rng_zero (by omega) (by omega) | omega), (by first | with_reducible assumption | assumption | exact rng_zero (by omega) (by omega) | omega), (by first | with_reducible assumption | assumption | exact rng_zero (by omega) (by omega) | omega), (by first | with_reducible assumption | assumption | exact rng_zero (by omega) (by omega) | omega), (by unfold mapRI; (repeat' (first | with_reducible refine if_n (by omega) ?_ | with_reducible refine if_ns (by omega) ?_ | with_reducible refine if_nz (by omega) ?_ | with_reducible exact if_p (by omega) (by omega) | with_reducible exact if_ps (by omega) (by omega) | with_reducible exact if_pz (by omega) (by omega))) <;> omega), (by first | exact ⟨fun _ => ⟨eq4_rf, eq4_rf, eq4_rf⟩, fun h => absurd h (by first | omega | decide)⟩ | exact ⟨fun h => absurd (by first | omega | decide) h, fun _ => ⟨f4_u0, f4_u0, _, hf9_, f4_u0⟩⟩ | exact ⟨fun h => absurd (by first | omega | decide) h, fun _ => ⟨f4_u1, f4_u1, _, hf9_, f4_u1⟩⟩ | exact ⟨fun h => absurd (by first | omega | decide) h, fun _ => ⟨f4_u2, f4_u2, _, hf9_, f4_u2⟩⟩ | exact ⟨fun h => absurd (by first | omega | decide) h, fun _ => ⟨f4_u3, f4_u3, _, hf9_, f4_u3⟩⟩), (by first | with_reducible assumption | assumption | exact rng_zero (by omega) (by omega) | omega), (by first | with_reducible assumption | assumption | exact rng_zero (by omega) (by omega) | omega), (by first | with_reducible assumption | assumption | exact rng_zero (by omega) (by omega) | omega), (by first | with_reducible assumption | assumption | exact rng_zero (by omega) (by omega) | omega), by rw [ht]; exact hP, hD⟩, hS.F ht⟩) hS.2.2 dB_36_3_30.2.1.2.2
  · have e_ := e_.symm
    subst e_
    refine va_put (ci := 11) (v := .int 0) (ty := .int) (C := RX11) (T := TX11) (N := 12) hx hb hts (fun _ h => List.mem_cons_of_mem _ (List.mem_append_left _ (List.mem_append_right _ h))) tyX11 tyX11_ok nmX11 hown hK.1 hP hD hS 0 rfl rfl 11 (by decide) (hts (.fieldLink RX11 91 "CutAtlas" "finding" "I") (List.mem_of_getElem? (i := 1) rfl)) (fun _ h9 => h9) rfl (by decide +kernel) rfl rfl (Nat.le_of_ble_eq_true rfl) dB_36_3_30.1.2.1.2 (fun H locs hP hD hS => ?_)
    refine pd_K [ob11_0_ xo xk xn xc xh xt xw xm xp pf ph tr 0, aq_ cy 4 xm 4 (mf_ m0 m1 m2 m3), ob4_0_ m0 mk0 mr0 l0 u0, ob4_0_ m1 mk1 mr1 l1 u1, ob4_0_ m2 mk2 mr2 l2 u2, ob4_0_ m3 mk3 mr3 l3 u3, ai_ cy l0 6 fl0, ai_ cy l1 6 fl1, ai_ cy l2 6 fl2, ai_ cy l3 6 fl3] hP hD (fun hP hD => ?_)
    refine lv_aload_n hx hb dB_36_3_30.1.2.2.1 rfl (lv_at hl 0 rfl) ?_
    refine va_get (ci := 11) (v := .int 0) (C := RX11) (T := TX11) (N := 12) hx hb hts (fun _ h => List.mem_cons_of_mem _ (List.mem_append_left _ (List.mem_append_right _ h))) hown hK.1 hP 0 rfl rfl 11 (by decide) (hts (.fieldLink RX11 91 "CutAtlas" "finding" "I") (List.mem_of_getElem? (i := 1) rfl)) (fun _ h9 => h9) rfl dB_36_3_30.1.2.2.2 ?_
    refine lv_if_eq (tgt := 22) hx hb dB_36_3_30.2.1.1.1 (by decide) (fun c_5 => ?_) (fun c_5 => ?_)
    · have _ := c_5
      rcases sp_4 (x := a1) (by omega) with rfl | rfl | rfl | rfl
      · refine lv_aload_n hx hb dB_36_3_30.2.2.1.1 rfl (lv_at hl 0 rfl) ?_
        refine va_get (ci := 11) (v := .ref xm) (C := RX11) (T := TX11) (N := 12) hx hb hts (fun _ h => List.mem_cons_of_mem _ (List.mem_append_left _ (List.mem_append_right _ h))) hown hK.1 hP 0 rfl rfl 6 (by decide) (hts (.fieldLink RX11 72 "CutAtlas" "maps" "[LCutAtlas$NumberMap;") (List.mem_of_getElem? (i := 2) rfl)) (fun _ h9 => h9) rfl dB_36_3_30.2.2.1.2 ?_
        refine lv_iload_n hx hb dB_36_3_30.2.2.2.1 rfl (lv_at hl 1 rfl) ?_
        refine va_aldq hx hb hK.1 hP 1 4 rfl rfl (i := 0) (by unfold vp_in; decide) dB_36_3_30.2.2.2.2 ?_
        refine lv_topv (v' := .ref m0) (by simp [va_up, va_rf, mf_, cl_0, cl_1, cl_2, cl_3, cl_4]) ?_
        refine lv_iload_n hx hb dB_36_3_31.1.1 rfl (lv_at hl 2 rfl) ?_
        refine lv_iload_n hx hb dB_36_3_31.1.2 rfl (lv_at hl 3 rfl) ?_
        refine ct_S hP hD hS hA [ob4_0_ m0 mk0 mr0 l0 u0, ai_ cy l0 6 fl0] [2, 6] (by decide) rfl (fun hPc hDw hFc hC_ => ?_)
        refine va_callv (va_runV (As := [.int a2, .int a3]) (rest := []) ⟨hx, hb, hml, hown, hts⟩ (c_X4_begin2 l D cy H.size m0 l0 u0 mk0 mr0 fl0 a2 a3) (cwV 2 hts gX11_map_X4_begin rfl rfl rfl ⟨rfl, hd_X4_begin⟩ ⟨Nat.le_of_ble_eq_true rfl, Nat.le_of_ble_eq_true rfl⟩) ⟨bl_, va_recvX hK.1 hP (ci := 4) (q0 := 2) rfl rfl, fun U hU hW => ⟨rfl, by rw [hU], by rw [hU]; exact hPc, kk_mv hW hK, hDw⟩⟩ rfl rfl hl.1 rfl (lv_room (Nat.le_of_ble_eq_true rfl)) dB_36_3_31.2.1 ⟨Nat.le_of_ble_eq_true rfl, Nat.le_of_ble_eq_true rfl⟩) hS (fun q _ h => hFc q h) hFc (fun u t H locs ht hvm hw hB hz1 hk1 hS => ?_)
        obtain ⟨efl_7, g_8, g_9, hP1, hD1⟩ := hB
        rw [ht] at hP1
        obtain ⟨hP, hD⟩ := va_join (wr := [ob11_0_ xo xk xn xc xh xt xw xm xp pf ph tr 0, aq_ cy 4 xm 4 (mf_ m0 m1 m2 m3), ob4_0_ m1 mk1 mr1 l1 u1, ob4_0_ m2 mk2 mr2 l2 u2, ob4_0_ m3 mk3 mr3 l3 u3, ai_ cy l1 6 fl1, ai_ cy l2 6 fl2, ai_ cy l3 6 fl3]) (w1 := [ob4_0_ m0 a2 a3 l0 u0, ai_ cy l0 6 efl_7]) hP hD [2, 6] [0, 1, 3, 4, 5, 7, 8, 9] hC_ rfl (by decide) (by decide) hk1 hFc hP1 hD1
        refine pd_S hP hD [ob11_0_ xo xk xn xc xh xt xw xm xp pf ph tr 0, aq_ cy 4 xm 4 (mf_ m0 m1 m2 m3), ob4_0_ m0 a2 a3 l0 u0, ob4_0_ m1 mk1 mr1 l1 u1, ob4_0_ m2 mk2 mr2 l2 u2, ob4_0_ m3 mk3 mr3 l3 u3, ai_ cy l0 6 efl_7, ai_ cy l1 6 fl1, ai_ cy l2 6 fl2, ai_ cy l3 6 fl3] [0, 1, 8, 2, 3, 4, 9, 5, 6, 7] (by decide) rfl (fun hP hD => ?_)
        have hf9_ := g_8
        refine lv_iconst (v := 1) hx hb dB_36_3_31.2.2.1 (by decide) ?_
        rw [hQ]
        exact W.iret (v := 1) hx hb hr (fun t ht hW => ⟨⟨1, (), rfl, (by unfold mapRI; (repeat' (first | with_reducible refine if_n (by omega) ?_ | with_reducible refine if_ns (by omega) ?_ | with_reducible refine if_nz (by omega) ?_ | with_reducible exact if_p (by omega) (by omega) | with_reducible exact if_ps (by omega) (by omega) | with_reducible exact if_pz (by omega) (by omega))) <;> omega), (0 : Int32), a2, mk1, mk2, mk3, a3, mr1, mr2, mr3, efl_7, fl1, fl2, fl3, (by first | with_reducible assumption | assumption | exact rng_zero (by omega) (by omega) | omega), (by first | with_reducible assumption | assumption | exact rng_zero (by omega) (by omega) | omega), (by first | with_reducible assumption | assumption | exact rng_zero (by omega) (by omega) | omega), (by first | with_reducible assumption | assumption | exact rng_zero (by omega) (by omega) | omega), (by unfold mapRI; (repeat' (first | with_reducible refine if_n (by omega) ?_ | with_reducible refine if_ns (by omega) ?_ | with_reducible refine if_nz (by omega) ?_ | with_reducible exact if_p (by omega) (by omega) | with_reducible exact if_ps (by omega) (by omega) | with_reducible exact if_pz (by omega) (by omega))) <;> omega), (by first | exact ⟨fun _ => ⟨eq4_rf, eq4_rf, eq4_rf⟩, fun h => absurd h (by first | omega | decide)⟩ | exact ⟨fun h => absurd (by first | omega | decide) h, fun _ => ⟨f4_u0, f4_u0, _, hf9_, f4_u0⟩⟩ | exact ⟨fun h => absurd (by first | omega | decide) h, fun _ => ⟨f4_u1, f4_u1, _, hf9_, f4_u1⟩⟩ | exact ⟨fun h => absurd (by first | omega | decide) h, fun _ => ⟨f4_u2, f4_u2, _, hf9_, f4_u2⟩⟩ | exact ⟨fun h => absurd (by first | omega | decide) h, fun _ => ⟨f4_u3, f4_u3, _, hf9_, f4_u3⟩⟩), (by first | with_reducible assumption | assumption | exact rng_zero (by omega) (by omega) | omega), (by first | with_reducible assumption | assumption | exact rng_zero (by omega) (by omega) | omega), (by first | with_reducible assumption | assumption | exact rng_zero (by omega) (by omega) | omega), (by first | with_reducible assumption | assumption | exact rng_zero (by omega) (by omega) | omega), by rw [ht]; exact hP, hD⟩, hS.F ht⟩) hS.2.2 dB_36_3_31.2.2.2
      · refine lv_aload_n hx hb dB_36_3_30.2.2.1.1 rfl (lv_at hl 0 rfl) ?_
        refine va_get (ci := 11) (v := .ref xm) (C := RX11) (T := TX11) (N := 12) hx hb hts (fun _ h => List.mem_cons_of_mem _ (List.mem_append_left _ (List.mem_append_right _ h))) hown hK.1 hP 0 rfl rfl 6 (by decide) (hts (.fieldLink RX11 72 "CutAtlas" "maps" "[LCutAtlas$NumberMap;") (List.mem_of_getElem? (i := 2) rfl)) (fun _ h9 => h9) rfl dB_36_3_30.2.2.1.2 ?_
        refine lv_iload_n hx hb dB_36_3_30.2.2.2.1 rfl (lv_at hl 1 rfl) ?_
        refine va_aldq hx hb hK.1 hP 1 4 rfl rfl (i := 1) (by unfold vp_in; decide) dB_36_3_30.2.2.2.2 ?_
        refine lv_topv (v' := .ref m1) (by simp [va_up, va_rf, mf_, cl_0, cl_1, cl_2, cl_3, cl_4]) ?_
        refine lv_iload_n hx hb dB_36_3_31.1.1 rfl (lv_at hl 2 rfl) ?_
        refine lv_iload_n hx hb dB_36_3_31.1.2 rfl (lv_at hl 3 rfl) ?_
        refine ct_S hP hD hS hA [ob4_0_ m1 mk1 mr1 l1 u1, ai_ cy l1 6 fl1] [3, 7] (by decide) rfl (fun hPc hDw hFc hC_ => ?_)
        refine va_callv (va_runV (As := [.int a2, .int a3]) (rest := []) ⟨hx, hb, hml, hown, hts⟩ (c_X4_begin2 l D cy H.size m1 l1 u1 mk1 mr1 fl1 a2 a3) (cwV 2 hts gX11_map_X4_begin rfl rfl rfl ⟨rfl, hd_X4_begin⟩ ⟨Nat.le_of_ble_eq_true rfl, Nat.le_of_ble_eq_true rfl⟩) ⟨bl_, va_recvX hK.1 hP (ci := 4) (q0 := 3) rfl rfl, fun U hU hW => ⟨rfl, by rw [hU], by rw [hU]; exact hPc, kk_mv hW hK, hDw⟩⟩ rfl rfl hl.1 rfl (lv_room (Nat.le_of_ble_eq_true rfl)) dB_36_3_31.2.1 ⟨Nat.le_of_ble_eq_true rfl, Nat.le_of_ble_eq_true rfl⟩) hS (fun q _ h => hFc q h) hFc (fun u t H locs ht hvm hw hB hz1 hk1 hS => ?_)
        obtain ⟨efl_11, g_12, g_13, hP1, hD1⟩ := hB
        rw [ht] at hP1
        obtain ⟨hP, hD⟩ := va_join (wr := [ob11_0_ xo xk xn xc xh xt xw xm xp pf ph tr 0, aq_ cy 4 xm 4 (mf_ m0 m1 m2 m3), ob4_0_ m0 mk0 mr0 l0 u0, ob4_0_ m2 mk2 mr2 l2 u2, ob4_0_ m3 mk3 mr3 l3 u3, ai_ cy l0 6 fl0, ai_ cy l2 6 fl2, ai_ cy l3 6 fl3]) (w1 := [ob4_0_ m1 a2 a3 l1 u1, ai_ cy l1 6 efl_11]) hP hD [3, 7] [0, 1, 2, 4, 5, 6, 8, 9] hC_ rfl (by decide) (by decide) hk1 hFc hP1 hD1
        refine pd_S hP hD [ob11_0_ xo xk xn xc xh xt xw xm xp pf ph tr 0, aq_ cy 4 xm 4 (mf_ m0 m1 m2 m3), ob4_0_ m0 mk0 mr0 l0 u0, ob4_0_ m1 a2 a3 l1 u1, ob4_0_ m2 mk2 mr2 l2 u2, ob4_0_ m3 mk3 mr3 l3 u3, ai_ cy l0 6 fl0, ai_ cy l1 6 efl_11, ai_ cy l2 6 fl2, ai_ cy l3 6 fl3] [0, 1, 2, 8, 3, 4, 5, 9, 6, 7] (by decide) rfl (fun hP hD => ?_)
        have hf9_ := g_12
        refine lv_iconst (v := 1) hx hb dB_36_3_31.2.2.1 (by decide) ?_
        rw [hQ]
        exact W.iret (v := 1) hx hb hr (fun t ht hW => ⟨⟨1, (), rfl, (by unfold mapRI; (repeat' (first | with_reducible refine if_n (by omega) ?_ | with_reducible refine if_ns (by omega) ?_ | with_reducible refine if_nz (by omega) ?_ | with_reducible exact if_p (by omega) (by omega) | with_reducible exact if_ps (by omega) (by omega) | with_reducible exact if_pz (by omega) (by omega))) <;> omega), (0 : Int32), mk0, a2, mk2, mk3, mr0, a3, mr2, mr3, fl0, efl_11, fl2, fl3, (by first | with_reducible assumption | assumption | exact rng_zero (by omega) (by omega) | omega), (by first | with_reducible assumption | assumption | exact rng_zero (by omega) (by omega) | omega), (by first | with_reducible assumption | assumption | exact rng_zero (by omega) (by omega) | omega), (by first | with_reducible assumption | assumption | exact rng_zero (by omega) (by omega) | omega), (by unfold mapRI; (repeat' (first | with_reducible refine if_n (by omega) ?_ | with_reducible refine if_ns (by omega) ?_ | with_reducible refine if_nz (by omega) ?_ | with_reducible exact if_p (by omega) (by omega) | with_reducible exact if_ps (by omega) (by omega) | with_reducible exact if_pz (by omega) (by omega))) <;> omega), (by first | exact ⟨fun _ => ⟨eq4_rf, eq4_rf, eq4_rf⟩, fun h => absurd h (by first | omega | decide)⟩ | exact ⟨fun h => absurd (by first | omega | decide) h, fun _ => ⟨f4_u0, f4_u0, _, hf9_, f4_u0⟩⟩ | exact ⟨fun h => absurd (by first | omega | decide) h, fun _ => ⟨f4_u1, f4_u1, _, hf9_, f4_u1⟩⟩ | exact ⟨fun h => absurd (by first | omega | decide) h, fun _ => ⟨f4_u2, f4_u2, _, hf9_, f4_u2⟩⟩ | exact ⟨fun h => absurd (by first | omega | decide) h, fun _ => ⟨f4_u3, f4_u3, _, hf9_, f4_u3⟩⟩), (by first | with_reducible assumption | assumption | exact rng_zero (by omega) (by omega) | omega), (by first | with_reducible assumption | assumption | exact rng_zero (by omega) (by omega) | omega), (by first | with_reducible assumption | assumption | exact rng_zero (by omega) (by omega) | omega), (by first | with_reducible assumption | assumption | exact rng_zero (by omega) (by omega) | omega), by rw [ht]; exact hP, hD⟩, hS.F ht⟩) hS.2.2 dB_36_3_31.2.2.2
      · refine lv_aload_n hx hb dB_36_3_30.2.2.1.1 rfl (lv_at hl 0 rfl) ?_
        refine va_get (ci := 11) (v := .ref xm) (C := RX11) (T := TX11) (N := 12) hx hb hts (fun _ h => List.mem_cons_of_mem _ (List.mem_append_left _ (List.mem_append_right _ h))) hown hK.1 hP 0 rfl rfl 6 (by decide) (hts (.fieldLink RX11 72 "CutAtlas" "maps" "[LCutAtlas$NumberMap;") (List.mem_of_getElem? (i := 2) rfl)) (fun _ h9 => h9) rfl dB_36_3_30.2.2.1.2 ?_
        refine lv_iload_n hx hb dB_36_3_30.2.2.2.1 rfl (lv_at hl 1 rfl) ?_
        refine va_aldq hx hb hK.1 hP 1 4 rfl rfl (i := 2) (by unfold vp_in; decide) dB_36_3_30.2.2.2.2 ?_
        refine lv_topv (v' := .ref m2) (by simp [va_up, va_rf, mf_, cl_0, cl_1, cl_2, cl_3, cl_4]) ?_
        refine lv_iload_n hx hb dB_36_3_31.1.1 rfl (lv_at hl 2 rfl) ?_
        refine lv_iload_n hx hb dB_36_3_31.1.2 rfl (lv_at hl 3 rfl) ?_
        refine ct_S hP hD hS hA [ob4_0_ m2 mk2 mr2 l2 u2, ai_ cy l2 6 fl2] [4, 8] (by decide) rfl (fun hPc hDw hFc hC_ => ?_)
        refine va_callv (va_runV (As := [.int a2, .int a3]) (rest := []) ⟨hx, hb, hml, hown, hts⟩ (c_X4_begin2 l D cy H.size m2 l2 u2 mk2 mr2 fl2 a2 a3) (cwV 2 hts gX11_map_X4_begin rfl rfl rfl ⟨rfl, hd_X4_begin⟩ ⟨Nat.le_of_ble_eq_true rfl, Nat.le_of_ble_eq_true rfl⟩) ⟨bl_, va_recvX hK.1 hP (ci := 4) (q0 := 4) rfl rfl, fun U hU hW => ⟨rfl, by rw [hU], by rw [hU]; exact hPc, kk_mv hW hK, hDw⟩⟩ rfl rfl hl.1 rfl (lv_room (Nat.le_of_ble_eq_true rfl)) dB_36_3_31.2.1 ⟨Nat.le_of_ble_eq_true rfl, Nat.le_of_ble_eq_true rfl⟩) hS (fun q _ h => hFc q h) hFc (fun u t H locs ht hvm hw hB hz1 hk1 hS => ?_)
        obtain ⟨efl_15, g_16, g_17, hP1, hD1⟩ := hB
        rw [ht] at hP1
        obtain ⟨hP, hD⟩ := va_join (wr := [ob11_0_ xo xk xn xc xh xt xw xm xp pf ph tr 0, aq_ cy 4 xm 4 (mf_ m0 m1 m2 m3), ob4_0_ m0 mk0 mr0 l0 u0, ob4_0_ m1 mk1 mr1 l1 u1, ob4_0_ m3 mk3 mr3 l3 u3, ai_ cy l0 6 fl0, ai_ cy l1 6 fl1, ai_ cy l3 6 fl3]) (w1 := [ob4_0_ m2 a2 a3 l2 u2, ai_ cy l2 6 efl_15]) hP hD [4, 8] [0, 1, 2, 3, 5, 6, 7, 9] hC_ rfl (by decide) (by decide) hk1 hFc hP1 hD1
        refine pd_S hP hD [ob11_0_ xo xk xn xc xh xt xw xm xp pf ph tr 0, aq_ cy 4 xm 4 (mf_ m0 m1 m2 m3), ob4_0_ m0 mk0 mr0 l0 u0, ob4_0_ m1 mk1 mr1 l1 u1, ob4_0_ m2 a2 a3 l2 u2, ob4_0_ m3 mk3 mr3 l3 u3, ai_ cy l0 6 fl0, ai_ cy l1 6 fl1, ai_ cy l2 6 efl_15, ai_ cy l3 6 fl3] [0, 1, 2, 3, 8, 4, 5, 6, 9, 7] (by decide) rfl (fun hP hD => ?_)
        have hf9_ := g_16
        refine lv_iconst (v := 1) hx hb dB_36_3_31.2.2.1 (by decide) ?_
        rw [hQ]
        exact W.iret (v := 1) hx hb hr (fun t ht hW => ⟨⟨1, (), rfl, (by unfold mapRI; (repeat' (first | with_reducible refine if_n (by omega) ?_ | with_reducible refine if_ns (by omega) ?_ | with_reducible refine if_nz (by omega) ?_ | with_reducible exact if_p (by omega) (by omega) | with_reducible exact if_ps (by omega) (by omega) | with_reducible exact if_pz (by omega) (by omega))) <;> omega), (0 : Int32), mk0, mk1, a2, mk3, mr0, mr1, a3, mr3, fl0, fl1, efl_15, fl3, (by first | with_reducible assumption | assumption | exact rng_zero (by omega) (by omega) | omega), (by first | with_reducible assumption | assumption | exact rng_zero (by omega) (by omega) | omega), (by first | with_reducible assumption | assumption | exact rng_zero (by omega) (by omega) | omega), (by first | with_reducible assumption | assumption | exact rng_zero (by omega) (by omega) | omega), (by unfold mapRI; (repeat' (first | with_reducible refine if_n (by omega) ?_ | with_reducible refine if_ns (by omega) ?_ | with_reducible refine if_nz (by omega) ?_ | with_reducible exact if_p (by omega) (by omega) | with_reducible exact if_ps (by omega) (by omega) | with_reducible exact if_pz (by omega) (by omega))) <;> omega), (by first | exact ⟨fun _ => ⟨eq4_rf, eq4_rf, eq4_rf⟩, fun h => absurd h (by first | omega | decide)⟩ | exact ⟨fun h => absurd (by first | omega | decide) h, fun _ => ⟨f4_u0, f4_u0, _, hf9_, f4_u0⟩⟩ | exact ⟨fun h => absurd (by first | omega | decide) h, fun _ => ⟨f4_u1, f4_u1, _, hf9_, f4_u1⟩⟩ | exact ⟨fun h => absurd (by first | omega | decide) h, fun _ => ⟨f4_u2, f4_u2, _, hf9_, f4_u2⟩⟩ | exact ⟨fun h => absurd (by first | omega | decide) h, fun _ => ⟨f4_u3, f4_u3, _, hf9_, f4_u3⟩⟩), (by first | with_reducible assumption | assumption | exact rng_zero (by omega) (by omega) | omega), (by first | with_reducible assumption | assumption | exact rng_zero (by omega) (by omega) | omega), (by first | with_reducible assumption | assumption | exact rng_zero (by omega) (by omega) | omega), (by first | with_reducible assumption | assumption | exact rng_zero (by omega) (by omega) | omega), by rw [ht]; exact hP, hD⟩, hS.F ht⟩) hS.2.2 dB_36_3_31.2.2.2
      · refine lv_aload_n hx hb dB_36_3_30.2.2.1.1 rfl (lv_at hl 0 rfl) ?_
        refine va_get (ci := 11) (v := .ref xm) (C := RX11) (T := TX11) (N := 12) hx hb hts (fun _ h => List.mem_cons_of_mem _ (List.mem_append_left _ (List.mem_append_right _ h))) hown hK.1 hP 0 rfl rfl 6 (by decide) (hts (.fieldLink RX11 72 "CutAtlas" "maps" "[LCutAtlas$NumberMap;") (List.mem_of_getElem? (i := 2) rfl)) (fun _ h9 => h9) rfl dB_36_3_30.2.2.1.2 ?_
        refine lv_iload_n hx hb dB_36_3_30.2.2.2.1 rfl (lv_at hl 1 rfl) ?_
        refine va_aldq hx hb hK.1 hP 1 4 rfl rfl (i := 3) (by unfold vp_in; decide) dB_36_3_30.2.2.2.2 ?_
        refine lv_topv (v' := .ref m3) (by simp [va_up, va_rf, mf_, cl_0, cl_1, cl_2, cl_3, cl_4]) ?_
        refine lv_iload_n hx hb dB_36_3_31.1.1 rfl (lv_at hl 2 rfl) ?_
        refine lv_iload_n hx hb dB_36_3_31.1.2 rfl (lv_at hl 3 rfl) ?_
        refine ct_S hP hD hS hA [ob4_0_ m3 mk3 mr3 l3 u3, ai_ cy l3 6 fl3] [5, 9] (by decide) rfl (fun hPc hDw hFc hC_ => ?_)
        refine va_callv (va_runV (As := [.int a2, .int a3]) (rest := []) ⟨hx, hb, hml, hown, hts⟩ (c_X4_begin2 l D cy H.size m3 l3 u3 mk3 mr3 fl3 a2 a3) (cwV 2 hts gX11_map_X4_begin rfl rfl rfl ⟨rfl, hd_X4_begin⟩ ⟨Nat.le_of_ble_eq_true rfl, Nat.le_of_ble_eq_true rfl⟩) ⟨bl_, va_recvX hK.1 hP (ci := 4) (q0 := 5) rfl rfl, fun U hU hW => ⟨rfl, by rw [hU], by rw [hU]; exact hPc, kk_mv hW hK, hDw⟩⟩ rfl rfl hl.1 rfl (lv_room (Nat.le_of_ble_eq_true rfl)) dB_36_3_31.2.1 ⟨Nat.le_of_ble_eq_true rfl, Nat.le_of_ble_eq_true rfl⟩) hS (fun q _ h => hFc q h) hFc (fun u t H locs ht hvm hw hB hz1 hk1 hS => ?_)
        obtain ⟨efl_19, g_20, g_21, hP1, hD1⟩ := hB
        rw [ht] at hP1
        obtain ⟨hP, hD⟩ := va_join (wr := [ob11_0_ xo xk xn xc xh xt xw xm xp pf ph tr 0, aq_ cy 4 xm 4 (mf_ m0 m1 m2 m3), ob4_0_ m0 mk0 mr0 l0 u0, ob4_0_ m1 mk1 mr1 l1 u1, ob4_0_ m2 mk2 mr2 l2 u2, ai_ cy l0 6 fl0, ai_ cy l1 6 fl1, ai_ cy l2 6 fl2]) (w1 := [ob4_0_ m3 a2 a3 l3 u3, ai_ cy l3 6 efl_19]) hP hD [5, 9] [0, 1, 2, 3, 4, 6, 7, 8] hC_ rfl (by decide) (by decide) hk1 hFc hP1 hD1
        refine pd_S hP hD [ob11_0_ xo xk xn xc xh xt xw xm xp pf ph tr 0, aq_ cy 4 xm 4 (mf_ m0 m1 m2 m3), ob4_0_ m0 mk0 mr0 l0 u0, ob4_0_ m1 mk1 mr1 l1 u1, ob4_0_ m2 mk2 mr2 l2 u2, ob4_0_ m3 a2 a3 l3 u3, ai_ cy l0 6 fl0, ai_ cy l1 6 fl1, ai_ cy l2 6 fl2, ai_ cy l3 6 efl_19] [0, 1, 2, 3, 4, 8, 5, 6, 7, 9] (by decide) rfl (fun hP hD => ?_)
        have hf9_ := g_20
        refine lv_iconst (v := 1) hx hb dB_36_3_31.2.2.1 (by decide) ?_
        rw [hQ]
        exact W.iret (v := 1) hx hb hr (fun t ht hW => ⟨⟨1, (), rfl, (by unfold mapRI; (repeat' (first | with_reducible refine if_n (by omega) ?_ | with_reducible refine if_ns (by omega) ?_ | with_reducible refine if_nz (by omega) ?_ | with_reducible exact if_p (by omega) (by omega) | with_reducible exact if_ps (by omega) (by omega) | with_reducible exact if_pz (by omega) (by omega))) <;> omega), (0 : Int32), mk0, mk1, mk2, a2, mr0, mr1, mr2, a3, fl0, fl1, fl2, efl_19, (by first | with_reducible assumption | assumption | exact rng_zero (by omega) (by omega) | omega), (by first | with_reducible assumption | assumption | exact rng_zero (by omega) (by omega) | omega), (by first | with_reducible assumption | assumption | exact rng_zero (by omega) (by omega) | omega), (by first | with_reducible assumption | assumption | exact rng_zero (by omega) (by omega) | omega), (by unfold mapRI; (repeat' (first | with_reducible refine if_n (by omega) ?_ | with_reducible refine if_ns (by omega) ?_ | with_reducible refine if_nz (by omega) ?_ | with_reducible exact if_p (by omega) (by omega) | with_reducible exact if_ps (by omega) (by omega) | with_reducible exact if_pz (by omega) (by omega))) <;> omega), (by first | exact ⟨fun _ => ⟨eq4_rf, eq4_rf, eq4_rf⟩, fun h => absurd h (by first | omega | decide)⟩ | exact ⟨fun h => absurd (by first | omega | decide) h, fun _ => ⟨f4_u0, f4_u0, _, hf9_, f4_u0⟩⟩ | exact ⟨fun h => absurd (by first | omega | decide) h, fun _ => ⟨f4_u1, f4_u1, _, hf9_, f4_u1⟩⟩ | exact ⟨fun h => absurd (by first | omega | decide) h, fun _ => ⟨f4_u2, f4_u2, _, hf9_, f4_u2⟩⟩ | exact ⟨fun h => absurd (by first | omega | decide) h, fun _ => ⟨f4_u3, f4_u3, _, hf9_, f4_u3⟩⟩), (by first | with_reducible assumption | assumption | exact rng_zero (by omega) (by omega) | omega), (by first | with_reducible assumption | assumption | exact rng_zero (by omega) (by omega) | omega), (by first | with_reducible assumption | assumption | exact rng_zero (by omega) (by omega) | omega), (by first | with_reducible assumption | assumption | exact rng_zero (by omega) (by omega) | omega), by rw [ht]; exact hP, hD⟩, hS.F ht⟩) hS.2.2 dB_36_3_31.2.2.2
    · exact absurd c_5 (by decide)
end
