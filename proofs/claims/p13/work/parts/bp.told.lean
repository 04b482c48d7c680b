set_option maxHeartbeats 4000000 in
set_option maxRecDepth 100000 in
theorem c_X11_told2 (l : Launch) (D : va_G) (cy : Nat → ClassId) (sz : Nat) (xo : Nat) (xk : Nat) (xn : Nat) (xc : Nat) (xh : Nat) (xt : Nat) (xw : Nat) (xm : Nat) (xp : Nat) (pf : Int32) (ph : Int32) (tr : Int64) (fi : Int32) (n1 : Nat) (n2 : Nat) (n3 : Nat) (n4 : Nat) (n5 : Nat) (vp : Int32) (vn : Int32) (fk : Nat → Int32) (fs : Nat → Int32) (fe : Nat → Int32) (fw : Nat → Int32) (fp : Nat → Int32) (a1 : Int32) (a2 : Int32) (hvn : 0 ≤ vn.toInt ∧ vn.toInt ≤ 40) : Met l yX11_told wsX11_told ({ frames := 1, cells := 0, slots := 0, locals := 21 }) (va_Pc [.ref xo, .int a1, .int a2] (fun U => U.heap.size = sz ∧ va_P D vwCl [ob11_0_ xo xk xn xc xh xt xw xm xp pf ph tr fi, ob3_0_ xn vp vn n1 n2 n3 n4 n5, ai_ cy n1 40 fk, ai_ cy n2 40 fs, ai_ cy n3 40 fe, ai_ cy n4 40 fw, ai_ cy n5 40 fp] U.heap ∧ kk_ D cy U ∧ va_D (fun _ => True) [ob11_0_ xo xk xn xc xh xt xw xm xp pf ph tr fi, ob3_0_ xn vp vn n1 n2 n3 n4 n5, ai_ cy n1 40 fk, ai_ cy n2 40 fs, ai_ cy n3 40 fe, ai_ cy n4 40 fw, ai_ cy n5 40 fp])) (va_Qi (fun (r : Int32) (_ : Unit) => (r.toInt = tdI a1.toInt a2.toInt vn.toInt (fk a1.toNatClampNeg).toInt (fs a1.toNatClampNeg).toInt (fe a1.toNatClampNeg).toInt (fw a1.toNatClampNeg).toInt (fp a1.toNatClampNeg).toInt (gI (fs a1.toNatClampNeg).toInt))) (fun (_ : Unit) (_ : State) => True) (va_A [] sz)) 0 0 (va_A [] sz) := by
  refine ofQ (cc := cX11_told) (maxL := 3) (ret := (some .int)) (by decide) rfl ?_
  intro p e s m args below meth c s₁ Q hQ B hml hv
  obtain ⟨rfl, hsz, hP, hK, hD0⟩ := hv
  have hx := B.exec
  have hb := B.bytes
  have hr := B.returns
  have hts := atoms_spec (ws := wsX11_told) B.pre
  have hown : s.vm.findClass RX11 = some m.cls := by have h_ := findClass_of_methodNamed B.named; exact h_
  have hlocks := B.notSynchronized
  subst hsz
  have hD : va_D (va_A [] s.heap.size) [] := dd_nil
  generalize hAe : va_A [] s.heap.size = A at hD hQ
  have hA : ∀ q : Nat, s.heap.size ≤ q → A q := fun q h => by rw [← hAe]; exact Or.inr h
  have hS : va_S A s.heap s.heap [] := va_S.rf
  have hl := lv_entry ([.ref xo, .int a1, .int a2]) (n := 3) (Nat.le_of_ble_eq_true rfl)
  rw [lg_entry_eq]
  generalize (lg_sl ([.ref xo, .int a1, .int a2]) ++ List.replicate (3 - (lg_sl ([.ref xo, .int a1, .int a2])).length) Slot.unset).toArray = ls at hl ⊢
  have hl : lv_has ls 3 [(0, .ref xo), (1, .int a1), (2, .int a2)] := hl
  have zm1 : ((-1) : Int32).toInt = -1 := by decide
  have z0 : (0 : Int32).toInt = 0 := by decide
  have z1 : (1 : Int32).toInt = 1 := by decide
  refine lv_aload_n hx hb dB_36_2_53.1.1.1.1 rfl (lv_at hl 0 rfl) ?_
  refine va_get (ci := 11) (v := .ref xn) (C := RX11) (T := TX11) (N := 12) hx hb hts (fun _ h => List.mem_cons_of_mem _ (List.mem_append_left _ (List.mem_append_right _ h))) hown hK.1 hP 0 rfl rfl 1 (by decide) (hts (.fieldLink RX11 31 "CutAtlas" "net" "LCutAtlas$Net;") (List.mem_of_getElem? (i := 1) rfl)) (fun _ h9 => h9) rfl dB_36_2_53.1.1.1.2 ?_
  refine lv_iload_n hx hb dB_36_2_53.1.1.2.1 rfl (lv_at hl 1 rfl) ?_
  refine ct_R hP hD0 [ob3_0_ xn vp vn n1 n2 n3 n4 n5] [1] (by decide) rfl (fun hPc hDw => ?_)
  have hFc := va_free (wc := []) hD hS hA [] rfl
  refine va_calli (va_runV (As := [.int a1]) (rest := []) ⟨hx, hb, hml, hown, hts⟩ (c_X3_hasLine l D cy s.heap.size xn n1 n2 n3 n4 n5 vp vn a1) (cwV 1 hts gX11_told_X3_hasLine rfl rfl rfl ⟨rfl, hd_X3_hasLine⟩ ⟨Nat.le_of_ble_eq_true rfl, Nat.le_of_ble_eq_true rfl⟩) ⟨bl_, va_recvX hK.1 hP (ci := 3) (q0 := 1) rfl rfl, fun U hU hW => ⟨rfl, by rw [hU], by rw [hU]; exact hPc, kk_mv hW hK, hDw⟩⟩ rfl rfl hl.1 rfl (lv_room (Nat.le_of_ble_eq_true rfl)) dB_36_2_53.1.1.2.2 ⟨Nat.le_of_ble_eq_true rfl, Nat.le_of_ble_eq_true rfl⟩) hS (fun q _ h => hFc q h) hFc (fun r_1 u t H locs ht hvm hw hB hz1 hk1 hS => ?_)
  have hP : va_P D vwCl _ H := ro_keep hP hk1
  rcases hw with ⟨w_2, e_⟩ | ⟨w_2, e_⟩
  · have e_ := e_.symm
    subst e_
    refine lv_if_ne (tgt := 13) hx hb dB_36_2_53.1.2.1.1 (by decide) (fun c_3 => ?_) (fun c_3 => ?_)
    · have _ := c_3
      refine lv_iload_n hx hb dB_36_2_53.1.2.2.2 rfl (lv_at hl 2 rfl) ?_
      rcases sw_6 a2 with h_ | e_ | e_ | e_ | e_ | e_ | e_
      · refine lv_tableOut (tgt := 119) hx hb dB_36_2_53.2.1.1.1 h_ (by decide) ?_
        refine lv_iconst (v := (-1)) hx hb dB_36_2_56.1 (by decide) ?_
        rw [hQ]
        exact W.iret (v := (-1)) hx hb hr (fun t ht hW => ⟨⟨(-1), (), rfl, (by first | (rw [gI_0 (by omega)]; unfold tdI; (repeat' (first | with_reducible refine if_n (by omega) ?_ | with_reducible refine if_ns (by omega) ?_ | with_reducible refine if_nz (by omega) ?_ | with_reducible exact if_p (by omega) (by omega) | with_reducible exact if_ps (by omega) (by omega) | with_reducible exact if_pz (by omega) (by omega))) <;> omega) | (rw [gI_1 (by omega)]; unfold tdI; (repeat' (first | with_reducible refine if_n (by omega) ?_ | with_reducible refine if_ns (by omega) ?_ | with_reducible refine if_nz (by omega) ?_ | with_reducible exact if_p (by omega) (by omega) | with_reducible exact if_ps (by omega) (by omega) | with_reducible exact if_pz (by omega) (by omega))) <;> omega) | (unfold tdI; (repeat' (first | with_reducible refine if_n (by omega) ?_ | with_reducible refine if_ns (by omega) ?_ | with_reducible refine if_nz (by omega) ?_ | with_reducible exact if_p (by omega) (by omega) | with_reducible exact if_ps (by omega) (by omega) | with_reducible exact if_pz (by omega) (by omega))) <;> omega)), trivial⟩, hS.F ht⟩) hS.2.2 dB_36_2_56.2
      · refine lv_tableIn (off := 38) (tgt := 52) hx hb dB_36_2_53.2.1.1.1 (by rw [e_]; decide) (by rw [e_]; decide) (by rw [e_]; decide) (by decide) ?_
        refine lv_aload_n hx hb dB_36_2_53.2.1.1.2 rfl (lv_at hl 0 rfl) ?_
        refine va_get (ci := 11) (v := .ref xn) (C := RX11) (T := TX11) (N := 12) hx hb hts (fun _ h => List.mem_cons_of_mem _ (List.mem_append_left _ (List.mem_append_right _ h))) hown hK.1 hP 0 rfl rfl 1 (by decide) (hts (.fieldLink RX11 31 "CutAtlas" "net" "LCutAtlas$Net;") (List.mem_of_getElem? (i := 1) rfl)) (fun _ h9 => h9) rfl dB_36_2_53.2.1.2.1 ?_
        refine va_get (ci := 3) (v := .ref n1) (C := RX3) (T := TX3) (N := 7) hx hb hts (fun _ h => List.mem_cons_of_mem _ (List.mem_append_right _ h)) hown hK.1 hP 1 rfl rfl 2 (by decide) (hts (.fieldLink RX11 116 "CutAtlas$Net" "kinds" "[I") (List.mem_of_getElem? (i := 2) rfl)) (fun _ h9 => h9) rfl dB_36_2_53.2.1.2.2 ?_
        refine lv_iload_n hx hb dB_36_2_53.2.2.1.1 rfl (lv_at hl 1 rfl) ?_
        have h_4 : vp_in a1 40 := in_I (by first | with_reducible assumption | omega) (by omega)
        refine va_iald hx hb hK.1 hP 2 0 rfl rfl (i := a1) h_4 dB_36_2_53.2.2.1.2 ?_
        refine lv_topi (fun y_5 ey_5 => ?_)
        have ky_5 : y_5.toInt = (fk a1.toNatClampNeg).toInt := by rw [ey_5]
        rw [hQ]
        exact W.iret (v := y_5) hx hb hr (fun t ht hW => ⟨⟨y_5, (), rfl, (by first | (rw [gI_0 (by omega)]; unfold tdI; (repeat' (first | with_reducible refine if_n (by omega) ?_ | with_reducible refine if_ns (by omega) ?_ | with_reducible refine if_nz (by omega) ?_ | with_reducible exact if_p (by omega) (by omega) | with_reducible exact if_ps (by omega) (by omega) | with_reducible exact if_pz (by omega) (by omega))) <;> omega) | (rw [gI_1 (by omega)]; unfold tdI; (repeat' (first | with_reducible refine if_n (by omega) ?_ | with_reducible refine if_ns (by omega) ?_ | with_reducible refine if_nz (by omega) ?_ | with_reducible exact if_p (by omega) (by omega) | with_reducible exact if_ps (by omega) (by omega) | with_reducible exact if_pz (by omega) (by omega))) <;> omega) | (unfold tdI; (repeat' (first | with_reducible refine if_n (by omega) ?_ | with_reducible refine if_ns (by omega) ?_ | with_reducible refine if_nz (by omega) ?_ | with_reducible exact if_p (by omega) (by omega) | with_reducible exact if_ps (by omega) (by omega) | with_reducible exact if_pz (by omega) (by omega))) <;> omega)), trivial⟩, hS.F ht⟩) hS.2.2 dB_36_2_53.2.2.2.1
      · refine lv_tableIn (off := 48) (tgt := 62) hx hb dB_36_2_53.2.1.1.1 (by rw [e_]; decide) (by rw [e_]; decide) (by rw [e_]; decide) (by decide) ?_
        refine lv_aload_n hx hb dB_36_2_53.2.2.2.2 rfl (lv_at hl 0 rfl) ?_
        refine va_get (ci := 11) (v := .ref xn) (C := RX11) (T := TX11) (N := 12) hx hb hts (fun _ h => List.mem_cons_of_mem _ (List.mem_append_left _ (List.mem_append_right _ h))) hown hK.1 hP 0 rfl rfl 1 (by decide) (hts (.fieldLink RX11 31 "CutAtlas" "net" "LCutAtlas$Net;") (List.mem_of_getElem? (i := 1) rfl)) (fun _ h9 => h9) rfl dB_36_2_54.1.1.1.1 ?_
        refine va_get (ci := 3) (v := .ref n2) (C := RX3) (T := TX3) (N := 7) hx hb hts (fun _ h => List.mem_cons_of_mem _ (List.mem_append_right _ h)) hown hK.1 hP 1 rfl rfl 3 (by decide) (hts (.fieldLink RX11 155 "CutAtlas$Net" "starts" "[I") (List.mem_of_getElem? (i := 3) rfl)) (fun _ h9 => h9) rfl dB_36_2_54.1.1.1.2 ?_
        refine lv_iload_n hx hb dB_36_2_54.1.1.2.1 rfl (lv_at hl 1 rfl) ?_
        have h_6 : vp_in a1 40 := in_I (by first | with_reducible assumption | omega) (by omega)
        refine va_iald hx hb hK.1 hP 3 0 rfl rfl (i := a1) h_6 dB_36_2_54.1.1.2.2 ?_
        refine lv_topi (fun y_7 ey_7 => ?_)
        have ky_7 : y_7.toInt = (fs a1.toNatClampNeg).toInt := by rw [ey_7]
        rw [hQ]
        exact W.iret (v := y_7) hx hb hr (fun t ht hW => ⟨⟨y_7, (), rfl, (by first | (rw [gI_0 (by omega)]; unfold tdI; (repeat' (first | with_reducible refine if_n (by omega) ?_ | with_reducible refine if_ns (by omega) ?_ | with_reducible refine if_nz (by omega) ?_ | with_reducible exact if_p (by omega) (by omega) | with_reducible exact if_ps (by omega) (by omega) | with_reducible exact if_pz (by omega) (by omega))) <;> omega) | (rw [gI_1 (by omega)]; unfold tdI; (repeat' (first | with_reducible refine if_n (by omega) ?_ | with_reducible refine if_ns (by omega) ?_ | with_reducible refine if_nz (by omega) ?_ | with_reducible exact if_p (by omega) (by omega) | with_reducible exact if_ps (by omega) (by omega) | with_reducible exact if_pz (by omega) (by omega))) <;> omega) | (unfold tdI; (repeat' (first | with_reducible refine if_n (by omega) ?_ | with_reducible refine if_ns (by omega) ?_ | with_reducible refine if_nz (by omega) ?_ | with_reducible exact if_p (by omega) (by omega) | with_reducible exact if_ps (by omega) (by omega) | with_reducible exact if_pz (by omega) (by omega))) <;> omega)), trivial⟩, hS.F ht⟩) hS.2.2 dB_36_2_54.1.2.1.1
      · refine lv_tableIn (off := 58) (tgt := 72) hx hb dB_36_2_53.2.1.1.1 (by rw [e_]; decide) (by rw [e_]; decide) (by rw [e_]; decide) (by decide) ?_
        refine lv_aload_n hx hb dB_36_2_54.1.2.1.2 rfl (lv_at hl 0 rfl) ?_
        refine va_get (ci := 11) (v := .ref xn) (C := RX11) (T := TX11) (N := 12) hx hb hts (fun _ h => List.mem_cons_of_mem _ (List.mem_append_left _ (List.mem_append_right _ h))) hown hK.1 hP 0 rfl rfl 1 (by decide) (hts (.fieldLink RX11 31 "CutAtlas" "net" "LCutAtlas$Net;") (List.mem_of_getElem? (i := 1) rfl)) (fun _ h9 => h9) rfl dB_36_2_54.1.2.2.1 ?_
        refine va_get (ci := 3) (v := .ref n3) (C := RX3) (T := TX3) (N := 7) hx hb hts (fun _ h => List.mem_cons_of_mem _ (List.mem_append_right _ h)) hown hK.1 hP 1 rfl rfl 4 (by decide) (hts (.fieldLink RX11 158 "CutAtlas$Net" "ends" "[I") (List.mem_of_getElem? (i := 4) rfl)) (fun _ h9 => h9) rfl dB_36_2_54.1.2.2.2 ?_
        refine lv_iload_n hx hb dB_36_2_54.2.1.1.1 rfl (lv_at hl 1 rfl) ?_
        have h_8 : vp_in a1 40 := in_I (by first | with_reducible assumption | omega) (by omega)
        refine va_iald hx hb hK.1 hP 4 0 rfl rfl (i := a1) h_8 dB_36_2_54.2.1.1.2 ?_
        refine lv_topi (fun y_9 ey_9 => ?_)
        have ky_9 : y_9.toInt = (fe a1.toNatClampNeg).toInt := by rw [ey_9]
        rw [hQ]
        exact W.iret (v := y_9) hx hb hr (fun t ht hW => ⟨⟨y_9, (), rfl, (by first | (rw [gI_0 (by omega)]; unfold tdI; (repeat' (first | with_reducible refine if_n (by omega) ?_ | with_reducible refine if_ns (by omega) ?_ | with_reducible refine if_nz (by omega) ?_ | with_reducible exact if_p (by omega) (by omega) | with_reducible exact if_ps (by omega) (by omega) | with_reducible exact if_pz (by omega) (by omega))) <;> omega) | (rw [gI_1 (by omega)]; unfold tdI; (repeat' (first | with_reducible refine if_n (by omega) ?_ | with_reducible refine if_ns (by omega) ?_ | with_reducible refine if_nz (by omega) ?_ | with_reducible exact if_p (by omega) (by omega) | with_reducible exact if_ps (by omega) (by omega) | with_reducible exact if_pz (by omega) (by omega))) <;> omega) | (unfold tdI; (repeat' (first | with_reducible refine if_n (by omega) ?_ | with_reducible refine if_ns (by omega) ?_ | with_reducible refine if_nz (by omega) ?_ | with_reducible exact if_p (by omega) (by omega) | with_reducible exact if_ps (by omega) (by omega) | with_reducible exact if_pz (by omega) (by omega))) <;> omega)), trivial⟩, hS.F ht⟩) hS.2.2 dB_36_2_54.2.1.2.1
      · refine lv_tableIn (off := 68) (tgt := 82) hx hb dB_36_2_53.2.1.1.1 (by rw [e_]; decide) (by rw [e_]; decide) (by rw [e_]; decide) (by decide) ?_
        refine lv_aload_n hx hb dB_36_2_54.2.1.2.2 rfl (lv_at hl 0 rfl) ?_
        refine va_get (ci := 11) (v := .ref xn) (C := RX11) (T := TX11) (N := 12) hx hb hts (fun _ h => List.mem_cons_of_mem _ (List.mem_append_left _ (List.mem_append_right _ h))) hown hK.1 hP 0 rfl rfl 1 (by decide) (hts (.fieldLink RX11 31 "CutAtlas" "net" "LCutAtlas$Net;") (List.mem_of_getElem? (i := 1) rfl)) (fun _ h9 => h9) rfl dB_36_2_54.2.2.1.1 ?_
        refine va_get (ci := 3) (v := .ref n4) (C := RX3) (T := TX3) (N := 7) hx hb hts (fun _ h => List.mem_cons_of_mem _ (List.mem_append_right _ h)) hown hK.1 hP 1 rfl rfl 5 (by decide) (hts (.fieldLink RX11 129 "CutAtlas$Net" "widths" "[I") (List.mem_of_getElem? (i := 5) rfl)) (fun _ h9 => h9) rfl dB_36_2_54.2.2.1.2 ?_
        refine lv_iload_n hx hb dB_36_2_54.2.2.2.1 rfl (lv_at hl 1 rfl) ?_
        have h_10 : vp_in a1 40 := in_I (by first | with_reducible assumption | omega) (by omega)
        refine va_iald hx hb hK.1 hP 5 0 rfl rfl (i := a1) h_10 dB_36_2_54.2.2.2.2 ?_
        refine lv_topi (fun y_11 ey_11 => ?_)
        have ky_11 : y_11.toInt = (fw a1.toNatClampNeg).toInt := by rw [ey_11]
        rw [hQ]
        exact W.iret (v := y_11) hx hb hr (fun t ht hW => ⟨⟨y_11, (), rfl, (by first | (rw [gI_0 (by omega)]; unfold tdI; (repeat' (first | with_reducible refine if_n (by omega) ?_ | with_reducible refine if_ns (by omega) ?_ | with_reducible refine if_nz (by omega) ?_ | with_reducible exact if_p (by omega) (by omega) | with_reducible exact if_ps (by omega) (by omega) | with_reducible exact if_pz (by omega) (by omega))) <;> omega) | (rw [gI_1 (by omega)]; unfold tdI; (repeat' (first | with_reducible refine if_n (by omega) ?_ | with_reducible refine if_ns (by omega) ?_ | with_reducible refine if_nz (by omega) ?_ | with_reducible exact if_p (by omega) (by omega) | with_reducible exact if_ps (by omega) (by omega) | with_reducible exact if_pz (by omega) (by omega))) <;> omega) | (unfold tdI; (repeat' (first | with_reducible refine if_n (by omega) ?_ | with_reducible refine if_ns (by omega) ?_ | with_reducible refine if_nz (by omega) ?_ | with_reducible exact if_p (by omega) (by omega) | with_reducible exact if_ps (by omega) (by omega) | with_reducible exact if_pz (by omega) (by omega))) <;> omega)), trivial⟩, hS.F ht⟩) hS.2.2 dB_36_2_55.1.1.1.1
      · refine lv_tableIn (off := 78) (tgt := 92) hx hb dB_36_2_53.2.1.1.1 (by rw [e_]; decide) (by rw [e_]; decide) (by rw [e_]; decide) (by decide) ?_
        refine lv_aload_n hx hb dB_36_2_55.1.1.1.2 rfl (lv_at hl 0 rfl) ?_
        refine va_get (ci := 11) (v := .ref xn) (C := RX11) (T := TX11) (N := 12) hx hb hts (fun _ h => List.mem_cons_of_mem _ (List.mem_append_left _ (List.mem_append_right _ h))) hown hK.1 hP 0 rfl rfl 1 (by decide) (hts (.fieldLink RX11 31 "CutAtlas" "net" "LCutAtlas$Net;") (List.mem_of_getElem? (i := 1) rfl)) (fun _ h9 => h9) rfl dB_36_2_55.1.1.2.1 ?_
        refine va_get (ci := 3) (v := .ref n5) (C := RX3) (T := TX3) (N := 7) hx hb hts (fun _ h => List.mem_cons_of_mem _ (List.mem_append_right _ h)) hown hK.1 hP 1 rfl rfl 6 (by decide) (hts (.fieldLink RX11 119 "CutAtlas$Net" "prices" "[I") (List.mem_of_getElem? (i := 6) rfl)) (fun _ h9 => h9) rfl dB_36_2_55.1.1.2.2 ?_
        refine lv_iload_n hx hb dB_36_2_55.1.2.1.1 rfl (lv_at hl 1 rfl) ?_
        have h_12 : vp_in a1 40 := in_I (by first | with_reducible assumption | omega) (by omega)
        refine va_iald hx hb hK.1 hP 6 0 rfl rfl (i := a1) h_12 dB_36_2_55.1.2.1.2 ?_
        refine lv_topi (fun y_13 ey_13 => ?_)
        have ky_13 : y_13.toInt = (fp a1.toNatClampNeg).toInt := by rw [ey_13]
        rw [hQ]
        exact W.iret (v := y_13) hx hb hr (fun t ht hW => ⟨⟨y_13, (), rfl, (by first | (rw [gI_0 (by omega)]; unfold tdI; (repeat' (first | with_reducible refine if_n (by omega) ?_ | with_reducible refine if_ns (by omega) ?_ | with_reducible refine if_nz (by omega) ?_ | with_reducible exact if_p (by omega) (by omega) | with_reducible exact if_ps (by omega) (by omega) | with_reducible exact if_pz (by omega) (by omega))) <;> omega) | (rw [gI_1 (by omega)]; unfold tdI; (repeat' (first | with_reducible refine if_n (by omega) ?_ | with_reducible refine if_ns (by omega) ?_ | with_reducible refine if_nz (by omega) ?_ | with_reducible exact if_p (by omega) (by omega) | with_reducible exact if_ps (by omega) (by omega) | with_reducible exact if_pz (by omega) (by omega))) <;> omega) | (unfold tdI; (repeat' (first | with_reducible refine if_n (by omega) ?_ | with_reducible refine if_ns (by omega) ?_ | with_reducible refine if_nz (by omega) ?_ | with_reducible exact if_p (by omega) (by omega) | with_reducible exact if_ps (by omega) (by omega) | with_reducible exact if_pz (by omega) (by omega))) <;> omega)), trivial⟩, hS.F ht⟩) hS.2.2 dB_36_2_55.1.2.2.1
      · refine lv_tableIn (off := 88) (tgt := 102) hx hb dB_36_2_53.2.1.1.1 (by rw [e_]; decide) (by rw [e_]; decide) (by rw [e_]; decide) (by decide) ?_
        refine lv_aload_n hx hb dB_36_2_55.1.2.2.2 rfl (lv_at hl 0 rfl) ?_
        refine va_get (ci := 11) (v := .ref xn) (C := RX11) (T := TX11) (N := 12) hx hb hts (fun _ h => List.mem_cons_of_mem _ (List.mem_append_left _ (List.mem_append_right _ h))) hown hK.1 hP 0 rfl rfl 1 (by decide) (hts (.fieldLink RX11 31 "CutAtlas" "net" "LCutAtlas$Net;") (List.mem_of_getElem? (i := 1) rfl)) (fun _ h9 => h9) rfl dB_36_2_55.2.1.1.1 ?_
        refine lv_iload_n hx hb dB_36_2_55.2.1.1.2 rfl (lv_at hl 1 rfl) ?_
        refine ct_R hP hD0 [ob3_0_ xn vp vn n1 n2 n3 n4 n5, ai_ cy n2 40 fs] [1, 3] (by decide) rfl (fun hPc hDw => ?_)
        have hFc := va_free (wc := []) hD hS hA [] rfl
        refine va_calli (va_runV (As := [.int a1]) (rest := []) ⟨hx, hb, hml, hown, hts⟩ (c_X3_isMissing l D cy H.size xn n1 n2 n3 n4 n5 vp vn fs a1 (by first | with_reducible assumption | omega | assumption)) (cwV 1 hts gX11_told_X3_isMissing rfl rfl rfl ⟨rfl, hd_X3_isMissing⟩ ⟨Nat.le_of_ble_eq_true rfl, Nat.le_of_ble_eq_true rfl⟩) ⟨bl_, va_recvX hK.1 hP (ci := 3) (q0 := 1) rfl rfl, fun U hU hW => ⟨rfl, by rw [hU], by rw [hU]; exact hPc, kk_mv hW hK, hDw⟩⟩ rfl rfl hl.1 rfl (lv_room (Nat.le_of_ble_eq_true rfl)) dB_36_2_55.2.1.2.1 ⟨Nat.le_of_ble_eq_true rfl, Nat.le_of_ble_eq_true rfl⟩) hS (fun q _ h => hFc q h) hFc (fun r_14 u t H locs ht hvm hw hB hz1 hk1 hS => ?_)
        have hP : va_P D vwCl _ H := ro_keep hP hk1
        rcases hw with ⟨w_15, e_⟩ | ⟨w_15, e_⟩
        · have e_ := e_.symm
          subst e_
          refine lv_if_eq (tgt := 117) hx hb dB_36_2_55.2.1.2.2 (by decide) (fun c_16 => ?_) (fun c_16 => ?_)
          · exact absurd c_16 (by decide)
          · have _ := c_16
            refine lv_iconst (v := 1) hx hb dB_36_2_55.2.2.1.1 (by decide) ?_
            refine lv_goto (tgt := 118) hx hb dB_36_2_55.2.2.1.2 (by decide) ?_
            rw [hQ]
            exact W.iret (v := 1) hx hb hr (fun t ht hW => ⟨⟨1, (), rfl, (by first | (rw [gI_0 (by omega)]; unfold tdI; (repeat' (first | with_reducible refine if_n (by omega) ?_ | with_reducible refine if_ns (by omega) ?_ | with_reducible refine if_nz (by omega) ?_ | with_reducible exact if_p (by omega) (by omega) | with_reducible exact if_ps (by omega) (by omega) | with_reducible exact if_pz (by omega) (by omega))) <;> omega) | (rw [gI_1 (by omega)]; unfold tdI; (repeat' (first | with_reducible refine if_n (by omega) ?_ | with_reducible refine if_ns (by omega) ?_ | with_reducible refine if_nz (by omega) ?_ | with_reducible exact if_p (by omega) (by omega) | with_reducible exact if_ps (by omega) (by omega) | with_reducible exact if_pz (by omega) (by omega))) <;> omega) | (unfold tdI; (repeat' (first | with_reducible refine if_n (by omega) ?_ | with_reducible refine if_ns (by omega) ?_ | with_reducible refine if_nz (by omega) ?_ | with_reducible exact if_p (by omega) (by omega) | with_reducible exact if_ps (by omega) (by omega) | with_reducible exact if_pz (by omega) (by omega))) <;> omega)), trivial⟩, hS.F ht⟩) hS.2.2 dB_36_2_55.2.2.2.2
        · have e_ := e_.symm
          subst e_
          refine lv_if_eq (tgt := 117) hx hb dB_36_2_55.2.1.2.2 (by decide) (fun c_17 => ?_) (fun c_17 => ?_)
          · have _ := c_17
            refine lv_iconst (v := 0) hx hb dB_36_2_55.2.2.2.1 (by decide) ?_
            rw [hQ]
            exact W.iret (v := 0) hx hb hr (fun t ht hW => ⟨⟨0, (), rfl, (by first | (rw [gI_0 (by omega)]; unfold tdI; (repeat' (first | with_reducible refine if_n (by omega) ?_ | with_reducible refine if_ns (by omega) ?_ | with_reducible refine if_nz (by omega) ?_ | with_reducible exact if_p (by omega) (by omega) | with_reducible exact if_ps (by omega) (by omega) | with_reducible exact if_pz (by omega) (by omega))) <;> omega) | (rw [gI_1 (by omega)]; unfold tdI; (repeat' (first | with_reducible refine if_n (by omega) ?_ | with_reducible refine if_ns (by omega) ?_ | with_reducible refine if_nz (by omega) ?_ | with_reducible exact if_p (by omega) (by omega) | with_reducible exact if_ps (by omega) (by omega) | with_reducible exact if_pz (by omega) (by omega))) <;> omega) | (unfold tdI; (repeat' (first | with_reducible refine if_n (by omega) ?_ | with_reducible refine if_ns (by omega) ?_ | with_reducible refine if_nz (by omega) ?_ | with_reducible exact if_p (by omega) (by omega) | with_reducible exact if_ps (by omega) (by omega) | with_reducible exact if_pz (by omega) (by omega))) <;> omega)), trivial⟩, hS.F ht⟩) hS.2.2 dB_36_2_55.2.2.2.2
          · exact absurd c_17 (by decide)
    · exact absurd c_3 (by decide)
  · have e_ := e_.symm
    subst e_
    refine lv_if_ne (tgt := 13) hx hb dB_36_2_53.1.2.1.1 (by decide) (fun c_18 => ?_) (fun c_18 => ?_)
    · exact absurd c_18 (by decide)
    · have _ := c_18
      refine lv_iconst (v := (-1)) hx hb dB_36_2_53.1.2.1.2 (by decide) ?_
      rw [hQ]
      exact W.iret (v := (-1)) hx hb hr (fun t ht hW => ⟨⟨(-1), (), rfl, (by first | (rw [gI_0 (by omega)]; unfold tdI; (repeat' (first | with_reducible refine if_n (by omega) ?_ | with_reducible refine if_ns (by omega) ?_ | with_reducible refine if_nz (by omega) ?_ | with_reducible exact if_p (by omega) (by omega) | with_reducible exact if_ps (by omega) (by omega) | with_reducible exact if_pz (by omega) (by omega))) <;> omega) | (rw [gI_1 (by omega)]; unfold tdI; (repeat' (first | with_reducible refine if_n (by omega) ?_ | with_reducible refine if_ns (by omega) ?_ | with_reducible refine if_nz (by omega) ?_ | with_reducible exact if_p (by omega) (by omega) | with_reducible exact if_ps (by omega) (by omega) | with_reducible exact if_pz (by omega) (by omega))) <;> omega) | (unfold tdI; (repeat' (first | with_reducible refine if_n (by omega) ?_ | with_reducible refine if_ns (by omega) ?_ | with_reducible refine if_nz (by omega) ?_ | with_reducible exact if_p (by omega) (by omega) | with_reducible exact if_ps (by omega) (by omega) | with_reducible exact if_pz (by omega) (by omega))) <;> omega)), trivial⟩, hS.F ht⟩) hS.2.2 dB_36_2_53.1.2.2.1

set_option maxHeartbeats 4000000 in
set_option maxRecDepth 100000 in
theorem c_X11_ask2 (l : Launch) (D : va_G) (cy : Nat → ClassId) (sz : Nat) (xo : Nat) (xk : Nat) (xn : Nat) (xc : Nat) (xh : Nat) (xt : Nat) (xw : Nat) (xm : Nat) (xp : Nat) (pf : Int32) (ph : Int32) (tr : Int64) (fi : Int32) (n1 : Nat) (n2 : Nat) (n3 : Nat) (n4 : Nat) (n5 : Nat) (vp : Int32) (vn : Int32) (fk : Nat → Int32) (fw : Nat → Int32) (fp : Nat → Int32) (k0 : Nat) (k1 : Nat) (k2 : Nat) (k3 : Nat) (k4 : Nat) (a1 : Int32) (a2 : Int32) (hvn : 0 ≤ vn.toInt ∧ vn.toInt ≤ 40) (r_fk : rng fk 40 (0) (4)) (r_fp : rng fp 40 (0) (100)) : Met l yX11_ask wsX11_ask ({ frames := 2, cells := 0, slots := 0, locals := 44 }) (va_Pc [.ref xo, .int a1, .int a2] (fun U => U.heap.size = sz ∧ va_P D vwCl [ob11_0_ xo xk xn xc xh xt xw xm xp pf ph tr fi, ob3_0_ xn vp vn n1 n2 n3 n4 n5, ai_ cy n1 40 fk, ai_ cy n4 40 fw, ai_ cy n5 40 fp, aq_ cy 3 xk 5 (kf_ k0 k1 k2 k3 k4), ob6_0_ k0, ob5_0_ k1, ob9_0_ k2, ob2_0_ k3, ob8_0_ k4] U.heap ∧ kk_ D cy U ∧ va_D (fun _ => True) [ob11_0_ xo xk xn xc xh xt xw xm xp pf ph tr fi, ob3_0_ xn vp vn n1 n2 n3 n4 n5, ai_ cy n1 40 fk, ai_ cy n4 40 fw, ai_ cy n5 40 fp, aq_ cy 3 xk 5 (kf_ k0 k1 k2 k3 k4), ob6_0_ k0, ob5_0_ k1, ob9_0_ k2, ob2_0_ k3, ob8_0_ k4])) (va_Qi (fun (r : Int32) (_ : Unit) => (r.toInt = akI a1.toInt a2.toInt vn.toInt (fk a1.toNatClampNeg).toInt (fw a1.toNatClampNeg).toInt (fp a1.toNatClampNeg).toInt)) (fun (_ : Unit) (t : State) => ∃ (etr : Int64), va_P D vwCl [ob11_0_ xo xk xn xc xh xt xw xm xp pf ph etr fi, ob3_0_ xn vp vn n1 n2 n3 n4 n5, ai_ cy n1 40 fk, ai_ cy n4 40 fw, ai_ cy n5 40 fp, aq_ cy 3 xk 5 (kf_ k0 k1 k2 k3 k4), ob6_0_ k0, ob5_0_ k1, ob9_0_ k2, ob2_0_ k3, ob8_0_ k4] t.heap ∧ va_D (va_A [ob11_0_ xo xk xn xc xh xt xw xm xp pf ph tr fi, ob3_0_ xn vp vn n1 n2 n3 n4 n5, ai_ cy n1 40 fk, ai_ cy n4 40 fw, ai_ cy n5 40 fp, aq_ cy 3 xk 5 (kf_ k0 k1 k2 k3 k4), ob6_0_ k0, ob5_0_ k1, ob9_0_ k2, ob2_0_ k3, ob8_0_ k4] sz) [ob11_0_ xo xk xn xc xh xt xw xm xp pf ph etr fi, ob3_0_ xn vp vn n1 n2 n3 n4 n5, ai_ cy n1 40 fk, ai_ cy n4 40 fw, ai_ cy n5 40 fp, aq_ cy 3 xk 5 (kf_ k0 k1 k2 k3 k4), ob6_0_ k0, ob5_0_ k1, ob9_0_ k2, ob2_0_ k3, ob8_0_ k4]) (va_A [ob11_0_ xo xk xn xc xh xt xw xm xp pf ph tr fi, ob3_0_ xn vp vn n1 n2 n3 n4 n5, ai_ cy n1 40 fk, ai_ cy n4 40 fw, ai_ cy n5 40 fp, aq_ cy 3 xk 5 (kf_ k0 k1 k2 k3 k4), ob6_0_ k0, ob5_0_ k1, ob9_0_ k2, ob2_0_ k3, ob8_0_ k4] sz)) 0 0 (va_A [ob11_0_ xo xk xn xc xh xt xw xm xp pf ph tr fi, ob3_0_ xn vp vn n1 n2 n3 n4 n5, ai_ cy n1 40 fk, ai_ cy n4 40 fw, ai_ cy n5 40 fp, aq_ cy 3 xk 5 (kf_ k0 k1 k2 k3 k4), ob6_0_ k0, ob5_0_ k1, ob9_0_ k2, ob2_0_ k3, ob8_0_ k4] sz) := by
  refine ofQ (cc := cX11_ask) (maxL := 5) (ret := (some .int)) (by decide) rfl ?_
  intro p e s m args below meth c s₁ Q hQ B hml hv
  obtain ⟨rfl, hsz, hP, hK, hD0⟩ := hv
  have hx := B.exec
  have hb := B.bytes
  have hr := B.returns
  have hts := atoms_spec (ws := wsX11_ask) B.pre
  have hown : s.vm.findClass RX11 = some m.cls := by have h_ := findClass_of_methodNamed B.named; exact h_
  have hlocks := B.notSynchronized
  subst hsz
  have hD := hD0.self (sz := s.heap.size)
  generalize hAe : va_A [ob11_0_ xo xk xn xc xh xt xw xm xp pf ph tr fi, ob3_0_ xn vp vn n1 n2 n3 n4 n5, ai_ cy n1 40 fk, ai_ cy n4 40 fw, ai_ cy n5 40 fp, aq_ cy 3 xk 5 (kf_ k0 k1 k2 k3 k4), ob6_0_ k0, ob5_0_ k1, ob9_0_ k2, ob2_0_ k3, ob8_0_ k4] s.heap.size = A at hD hQ
  have hA : ∀ q : Nat, s.heap.size ≤ q → A q := fun q h => by rw [← hAe]; exact Or.inr h
  have hS : va_S A s.heap s.heap [] := va_S.rf
  have hl := lv_entry ([.ref xo, .int a1, .int a2]) (n := 5) (Nat.le_of_ble_eq_true rfl)
  rw [lg_entry_eq]
  generalize (lg_sl ([.ref xo, .int a1, .int a2]) ++ List.replicate (5 - (lg_sl ([.ref xo, .int a1, .int a2])).length) Slot.unset).toArray = ls at hl ⊢
  have hl : lv_has ls 5 [(0, .ref xo), (1, .int a1), (2, .int a2)] := hl
  have zm1 : ((-1) : Int32).toInt = -1 := by decide
  have z0 : (0 : Int32).toInt = 0 := by decide
  have z1 : (1 : Int32).toInt = 1 := by decide
  have z2 : (2 : Int32).toInt = 2 := by decide
  have zq0 : (0 : Int32).toInt = 0 := by decide
  have zq1 : (1 : Int32).toInt = 1 := by decide
  have zq2 : (2 : Int32).toInt = 2 := by decide
  have zq3 : (3 : Int32).toInt = 3 := by decide
  have zq4 : (4 : Int32).toInt = 4 := by decide
  have zq5 : (5 : Int32).toInt = 5 := by decide
  have zqm9 : ((-9) : Int32).toInt = -9 := by decide
  refine lv_aload_n hx hb dB_36_2_29.1.1.1.1 rfl (lv_at hl 0 rfl) ?_
  refine va_get (ci := 11) (v := .ref xn) (C := RX11) (T := TX11) (N := 12) hx hb hts (fun _ h => List.mem_cons_of_mem _ (List.mem_append_left _ (List.mem_append_right _ h))) hown hK.1 hP 0 rfl rfl 1 (by decide) (hts (.fieldLink RX11 31 "CutAtlas" "net" "LCutAtlas$Net;") (List.mem_of_getElem? (i := 1) rfl)) (fun _ h9 => h9) rfl dB_36_2_29.1.1.1.2 ?_
  refine lv_iload_n hx hb dB_36_2_29.1.1.2.1 rfl (lv_at hl 1 rfl) ?_
  refine ct_R hP hD [ob3_0_ xn vp vn n1 n2 n3 n4 n5] [1] (by decide) rfl (fun hPc hDw => ?_)
  have hFc := va_free (wc := []) hD hS hA [] rfl
  refine va_calli (va_runV (As := [.int a1]) (rest := []) ⟨hx, hb, hml, hown, hts⟩ (c_X3_hasLine l D cy s.heap.size xn n1 n2 n3 n4 n5 vp vn a1) (cwV 1 hts gX11_ask_X3_hasLine rfl rfl rfl ⟨rfl, hd_X3_hasLine⟩ ⟨Nat.le_of_ble_eq_true rfl, Nat.le_of_ble_eq_true rfl⟩) ⟨bl_, va_recvX hK.1 hP (ci := 3) (q0 := 1) rfl rfl, fun U hU hW => ⟨rfl, by rw [hU], by rw [hU]; exact hPc, kk_mv hW hK, hDw⟩⟩ rfl rfl hl.1 rfl (lv_room (Nat.le_of_ble_eq_true rfl)) dB_36_2_29.1.1.2.2 ⟨Nat.le_of_ble_eq_true rfl, Nat.le_of_ble_eq_true rfl⟩) hS (fun q _ h => hFc q h) hFc (fun r_1 u t H locs ht hvm hw hB hz1 hk1 hS => ?_)
  have hP : va_P D vwCl _ H := ro_keep hP hk1
  rcases hw with ⟨w_2, e_⟩ | ⟨w_2, e_⟩
  · have e_ := e_.symm
    subst e_
    refine lv_if_eq (tgt := 20) hx hb dB_36_2_29.1.2.1.1 (by decide) (fun c_3 => ?_) (fun c_3 => ?_)
    · exact absurd c_3 (by decide)
    · have _ := c_3
      refine lv_iload_n hx hb dB_36_2_29.1.2.1.2 rfl (lv_at hl 2 rfl) ?_
      refine lv_if_lt (tgt := 20) hx hb dB_36_2_29.1.2.2.1 (by decide) (fun c_4 => ?_) (fun c_4 => ?_)
      · have t_4 : a2.toInt < (0 : Int32).toInt := Int32.lt_iff_toInt_lt.mp c_4
        refine lv_iconst (v := (-1)) hx hb dB_36_2_29.2.1.2.1 (by decide) ?_
        rw [hQ]
        exact W.iret (v := (-1)) hx hb hr (fun t ht hW => ⟨⟨(-1), (), rfl, (by unfold akI; (repeat' (first | with_reducible refine if_n (by omega) ?_ | with_reducible refine if_ns (by omega) ?_ | with_reducible refine if_nz (by omega) ?_ | with_reducible exact if_p (by omega) (by omega) | with_reducible exact if_ps (by omega) (by omega) | with_reducible exact if_pz (by omega) (by omega))) <;> omega), tr, by rw [ht]; exact hP, hD⟩, hS.F ht⟩) hS.2.2 dB_36_2_29.2.1.2.2
      · have t_4 : ¬ a2.toInt < (0 : Int32).toInt := fun h => c_4 (Int32.lt_iff_toInt_lt.mpr h)
        refine lv_iload_n hx hb dB_36_2_29.1.2.2.2 rfl (lv_at hl 2 rfl) ?_
        refine lv_iconst (v := 2) hx hb dB_36_2_29.2.1.1.1 (by decide) ?_
        refine lv_icmp_le (tgt := 22) hx hb dB_36_2_29.2.1.1.2 (by decide) (fun c_5 => ?_) (fun c_5 => ?_)
        · have t_5 : a2.toInt ≤ (2 : Int32).toInt := Int32.le_iff_toInt_le.mp c_5
          refine lv_aload_n hx hb dB_36_2_29.2.2.1.1 rfl (lv_at hl 0 rfl) ?_
          refine va_get (ci := 11) (v := .ref xk) (C := RX11) (T := TX11) (N := 12) hx hb hts (fun _ h => List.mem_cons_of_mem _ (List.mem_append_left _ (List.mem_append_right _ h))) hown hK.1 hP 0 rfl rfl 0 (by decide) (hts (.fieldLink RX11 22 "CutAtlas" "kinds" "[LCutAtlas$PlainKind;") (List.mem_of_getElem? (i := 2) rfl)) (fun _ h9 => h9) rfl dB_36_2_29.2.2.1.2 ?_
          refine lv_aload_n hx hb dB_36_2_29.2.2.2.1 rfl (lv_at hl 0 rfl) ?_
          refine va_get (ci := 11) (v := .ref xn) (C := RX11) (T := TX11) (N := 12) hx hb hts (fun _ h => List.mem_cons_of_mem _ (List.mem_append_left _ (List.mem_append_right _ h))) hown hK.1 hP 0 rfl rfl 1 (by decide) (hts (.fieldLink RX11 31 "CutAtlas" "net" "LCutAtlas$Net;") (List.mem_of_getElem? (i := 1) rfl)) (fun _ h9 => h9) rfl dB_36_2_29.2.2.2.2 ?_
          refine va_get (ci := 3) (v := .ref n1) (C := RX3) (T := TX3) (N := 7) hx hb hts (fun _ h => List.mem_cons_of_mem _ (List.mem_append_right _ h)) hown hK.1 hP 1 rfl rfl 2 (by decide) (hts (.fieldLink RX11 116 "CutAtlas$Net" "kinds" "[I") (List.mem_of_getElem? (i := 3) rfl)) (fun _ h9 => h9) rfl dB_36_2_30.1.1.1.1 ?_
          refine lv_iload_n hx hb dB_36_2_30.1.1.1.2 rfl (lv_at hl 1 rfl) ?_
          have h_6 : vp_in a1 40 := in_I (by first | with_reducible assumption | omega) (by omega)
          refine va_iald hx hb hK.1 hP 2 0 rfl rfl (i := a1) h_6 dB_36_2_30.1.1.2.1 ?_
          refine lv_topi (fun y_7 ey_7 => ?_)
          have ky_7 : y_7.toInt = (fk a1.toNatClampNeg).toInt := by rw [ey_7]
          have ry_7 : 0 ≤ y_7.toInt ∧ y_7.toInt ≤ 4 := by rw [ey_7]; exact r_fk _ (in_lt h_6)
          rcases sp_5 (x := y_7) (by omega) with rfl | rfl | rfl | rfl | rfl
          · refine va_aldq hx hb hK.1 hP 5 3 rfl rfl (i := 0) (by unfold vp_in; decide) dB_36_2_30.1.1.2.2 ?_
            refine lv_topv (v' := .ref k0) (by simp [va_up, va_rf, mf_, cl_0, cl_1, cl_2, cl_3, cl_4, kf_]) ?_
            refine lv_astore_n (lv' := [(3, .ref k0), (0, .ref xo), (1, .int a1), (2, .int a2)]) hx hb dB_36_2_30.1.2.1.1 rfl hl (by decide) rfl (fun ls hl => ?_)
            refine lv_iload_n hx hb dB_36_2_30.1.2.1.2 rfl (lv_at hl 3 rfl) ?_
            refine lv_iconst (v := 2) hx hb dB_36_2_30.1.2.2.1 (by decide) ?_
            refine lv_icmp_ne (tgt := 70) hx hb dB_36_2_30.1.2.2.2 (by decide) (fun c_8 => ?_) (fun c_8 => ?_)
            · have t_8 : ¬ a2.toInt = (2 : Int32).toInt := fun h => c_8 (Int32.toInt_inj.mp h)
              refine lv_iload_n hx hb dB_36_2_31.2.1.1.1 rfl (lv_at hl 3 rfl) ?_
              refine lv_if_ne (tgt := 78) hx hb dB_36_2_31.2.1.1.2 (by decide) (fun c_9 => ?_) (fun c_9 => ?_)
              · have t_9 : ¬ a2.toInt = (0 : Int32).toInt := fun h => c_9 (Int32.toInt_inj.mp h)
                refine lv_iconst (v := 0) hx hb dB_36_2_31.2.2.1.1 (by decide) ?_
                refine lv_istore (lv' := [(4, .int 0), (3, .ref k0), (0, .ref xo), (1, .int a1), (2, .int a2)]) hx hb dB_36_2_31.2.2.1.2 hl (by decide) rfl (fun ls hl => ?_)
                refine lv_aload_n hx hb dB_36_2_31.2.2.2.1 rfl (lv_at hl 2 rfl) ?_
                refine lv_dup hx hb dB_36_2_31.2.2.2.2 rfl ?_
                refine va_get (ci := 11) (v := .long tr) (C := RX11) (T := TX11) (N := 12) hx hb hts (fun _ h => List.mem_cons_of_mem _ (List.mem_append_left _ (List.mem_append_right _ h))) hown hK.1 hP 0 rfl rfl 10 (by decide) (hts (.fieldLink RX11 87 "CutAtlas" "traced" "J") (List.mem_of_getElem? (i := 4) rfl)) (fun _ h9 => h9) rfl dB_36_2_32.1.1.1.1 ?_
                refine lv_aload_n hx hb dB_36_2_32.1.1.1.2 rfl (lv_at hl 1 rfl) ?_
                refine lv_iload hx hb dB_36_2_32.1.1.2.1 (lv_at hl 0 rfl) ?_
                refine ct_R hP hD [] [] (by decide) rfl (fun hPc hDw => ?_)
                have hFc := va_free (wc := []) hD hS hA [] rfl
                refine va_calli (va_runV (As := [.int 0]) (rest := [.long tr, .ref xo]) ⟨hx, hb, hml, hown, hts⟩ (c_X6_letsMark l D cy H.size k0 (0 : Int32)) (cwV 1 hts gX11_ask_X6_letsMark rfl rfl rfl ⟨rfl, hd_X6_letsMark⟩ ⟨Nat.le_of_ble_eq_true rfl, Nat.le_of_ble_eq_true rfl⟩) ⟨bl_, va_recvX hK.1 hP (ci := 6) (q0 := 6) rfl rfl, fun U hU hW => ⟨rfl, by rw [hU], by rw [hU]; exact hPc, kk_mv hW hK, hDw⟩⟩ rfl rfl hl.1 rfl (lv_room (Nat.le_of_ble_eq_true rfl)) dB_36_2_32.1.1.2.2 ⟨Nat.le_of_ble_eq_true rfl, Nat.le_of_ble_eq_true rfl⟩) hS (fun q _ h => hFc q h) hFc (fun r_10 u t H locs ht hvm hw hB hz1 hk1 hS => ?_)
                have hP : va_P D vwCl _ H := ro_keep hP hk1
                refine lv_i2l (v := r_10.toInt64) hx hb dB_36_2_32.1.2.1.1 rfl ?_
                have q_92 : (r_10.toInt64).toInt = r_10.toInt := Int32.toInt_toInt64 r_10
                refine lv_ladd hx hb dB_36_2_32.1.2.1.2 ?_
                refine lv_topl (fun y_11 ey_11 => ?_)
                refine va_put (ci := 11) (v := .long y_11) (ty := .long) (C := RX11) (T := TX11) (N := 12) hx hb hts (fun _ h => List.mem_cons_of_mem _ (List.mem_append_left _ (List.mem_append_right _ h))) tyX11 tyX11_ok nmX11 hown hK.1 hP hD hS 0 rfl rfl 10 (by decide) (hts (.fieldLink RX11 87 "CutAtlas" "traced" "J") (List.mem_of_getElem? (i := 4) rfl)) (fun _ h9 => h9) rfl (by decide +kernel) rfl rfl (Nat.le_of_ble_eq_true rfl) dB_36_2_32.1.2.2.1 (fun H locs hP hD hS => ?_)
                refine pd_K [ob11_0_ xo xk xn xc xh xt xw xm xp pf ph y_11 fi, ob3_0_ xn vp vn n1 n2 n3 n4 n5, ai_ cy n1 40 fk, ai_ cy n4 40 fw, ai_ cy n5 40 fp, aq_ cy 3 xk 5 (kf_ k0 k1 k2 k3 k4), ob6_0_ k0, ob5_0_ k1, ob9_0_ k2, ob2_0_ k3, ob8_0_ k4] hP hD (fun hP hD => ?_)
                refine lv_aload_n hx hb dB_36_2_32.1.2.2.2 rfl (lv_at hl 1 rfl) ?_
                refine lv_aload_n hx hb dB_36_2_32.2.1.1.1 rfl (lv_at hl 2 rfl) ?_
                refine va_get (ci := 11) (v := .ref xn) (C := RX11) (T := TX11) (N := 12) hx hb hts (fun _ h => List.mem_cons_of_mem _ (List.mem_append_left _ (List.mem_append_right _ h))) hown hK.1 hP 0 rfl rfl 1 (by decide) (hts (.fieldLink RX11 31 "CutAtlas" "net" "LCutAtlas$Net;") (List.mem_of_getElem? (i := 1) rfl)) (fun _ h9 => h9) rfl dB_36_2_32.2.1.1.2 ?_
                refine va_get (ci := 3) (v := .ref n4) (C := RX3) (T := TX3) (N := 7) hx hb hts (fun _ h => List.mem_cons_of_mem _ (List.mem_append_right _ h)) hown hK.1 hP 1 rfl rfl 5 (by decide) (hts (.fieldLink RX11 129 "CutAtlas$Net" "widths" "[I") (List.mem_of_getElem? (i := 6) rfl)) (fun _ h9 => h9) rfl dB_36_2_32.2.1.2.1 ?_
                refine lv_iload_n hx hb dB_36_2_32.2.1.2.2 rfl (lv_at hl 3 rfl) ?_
                refine va_iald hx hb hK.1 hP 3 0 rfl rfl (i := a1) h_6 dB_36_2_32.2.2.1.1 ?_
                refine lv_topi (fun y_13 ey_13 => ?_)
                have ky_13 : y_13.toInt = (fw a1.toNatClampNeg).toInt := by rw [ey_13]
                refine lv_iload hx hb dB_36_2_32.2.2.1.2 (lv_at hl 0 rfl) ?_
                refine ct_R hP hD [] [] (by decide) rfl (fun hPc hDw => ?_)
                have hFc := va_free (wc := []) hD hS hA [] rfl
                refine va_calli (va_runV (As := [.int y_13, .int 0]) (rest := []) ⟨hx, hb, hml, hown, hts⟩ (c_X6_lets2 l D cy H.size k0 y_13 (0 : Int32)) (cwV 2 hts gX11_ask_X6_lets rfl rfl rfl ⟨rfl, hd_X6_lets⟩ ⟨Nat.le_of_ble_eq_true rfl, Nat.le_of_ble_eq_true rfl⟩) ⟨bl_, va_recvX hK.1 hP (ci := 6) (q0 := 6) rfl rfl, fun U hU hW => ⟨rfl, by rw [hU], by rw [hU]; exact hPc, kk_mv hW hK, hDw⟩⟩ rfl rfl hl.1 rfl (lv_room (Nat.le_of_ble_eq_true rfl)) dB_36_2_32.2.2.2.1 ⟨Nat.le_of_ble_eq_true rfl, Nat.le_of_ble_eq_true rfl⟩) hS (fun q _ h => hFc q h) hFc (fun r_14 u t H locs ht hvm hw hB hz1 hk1 hS => ?_)
                have hP : va_P D vwCl _ H := ro_keep hP hk1
                obtain ⟨f0_r_14, f1_r_14⟩ := hw
                rw [hQ]
                exact W.iret (v := r_14) hx hb hr (fun t ht hW => ⟨⟨r_14, (), rfl, (by unfold akI; (repeat' (first | with_reducible refine if_n (by omega) ?_ | with_reducible refine if_ns (by omega) ?_ | with_reducible refine if_nz (by omega) ?_ | with_reducible exact if_p (by omega) (by omega) | with_reducible exact if_ps (by omega) (by omega) | with_reducible exact if_pz (by omega) (by omega))) <;> omega), y_11, by rw [ht]; exact hP, hD⟩, hS.F ht⟩) hS.2.2 dB_36_2_32.2.2.2.2
              · have t_9 : a2.toInt = (0 : Int32).toInt := congrArg Int32.toInt c_9
                refine lv_iconst (v := 1) hx hb dB_36_2_31.2.1.2.1 (by decide) ?_
                refine lv_goto (tgt := 79) hx hb dB_36_2_31.2.1.2.2 (by decide) ?_
                refine lv_istore (lv' := [(4, .int 1), (3, .ref k0), (0, .ref xo), (1, .int a1), (2, .int a2)]) hx hb dB_36_2_31.2.2.1.2 hl (by decide) rfl (fun ls hl => ?_)
                refine lv_aload_n hx hb dB_36_2_31.2.2.2.1 rfl (lv_at hl 2 rfl) ?_
                refine lv_dup hx hb dB_36_2_31.2.2.2.2 rfl ?_
                refine va_get (ci := 11) (v := .long tr) (C := RX11) (T := TX11) (N := 12) hx hb hts (fun _ h => List.mem_cons_of_mem _ (List.mem_append_left _ (List.mem_append_right _ h))) hown hK.1 hP 0 rfl rfl 10 (by decide) (hts (.fieldLink RX11 87 "CutAtlas" "traced" "J") (List.mem_of_getElem? (i := 4) rfl)) (fun _ h9 => h9) rfl dB_36_2_32.1.1.1.1 ?_
                refine lv_aload_n hx hb dB_36_2_32.1.1.1.2 rfl (lv_at hl 1 rfl) ?_
                refine lv_iload hx hb dB_36_2_32.1.1.2.1 (lv_at hl 0 rfl) ?_
                refine ct_R hP hD [] [] (by decide) rfl (fun hPc hDw => ?_)
                have hFc := va_free (wc := []) hD hS hA [] rfl
                refine va_calli (va_runV (As := [.int 1]) (rest := [.long tr, .ref xo]) ⟨hx, hb, hml, hown, hts⟩ (c_X6_letsMark l D cy H.size k0 (1 : Int32)) (cwV 1 hts gX11_ask_X6_letsMark rfl rfl rfl ⟨rfl, hd_X6_letsMark⟩ ⟨Nat.le_of_ble_eq_true rfl, Nat.le_of_ble_eq_true rfl⟩) ⟨bl_, va_recvX hK.1 hP (ci := 6) (q0 := 6) rfl rfl, fun U hU hW => ⟨rfl, by rw [hU], by rw [hU]; exact hPc, kk_mv hW hK, hDw⟩⟩ rfl rfl hl.1 rfl (lv_room (Nat.le_of_ble_eq_true rfl)) dB_36_2_32.1.1.2.2 ⟨Nat.le_of_ble_eq_true rfl, Nat.le_of_ble_eq_true rfl⟩) hS (fun q _ h => hFc q h) hFc (fun r_15 u t H locs ht hvm hw hB hz1 hk1 hS => ?_)
                have hP : va_P D vwCl _ H := ro_keep hP hk1
                refine lv_i2l (v := r_15.toInt64) hx hb dB_36_2_32.1.2.1.1 rfl ?_
                have q_92 : (r_15.toInt64).toInt = r_15.toInt := Int32.toInt_toInt64 r_15
                refine lv_ladd hx hb dB_36_2_32.1.2.1.2 ?_
                refine lv_topl (fun y_16 ey_16 => ?_)
                refine va_put (ci := 11) (v := .long y_16) (ty := .long) (C := RX11) (T := TX11) (N := 12) hx hb hts (fun _ h => List.mem_cons_of_mem _ (List.mem_append_left _ (List.mem_append_right _ h))) tyX11 tyX11_ok nmX11 hown hK.1 hP hD hS 0 rfl rfl 10 (by decide) (hts (.fieldLink RX11 87 "CutAtlas" "traced" "J") (List.mem_of_getElem? (i := 4) rfl)) (fun _ h9 => h9) rfl (by decide +kernel) rfl rfl (Nat.le_of_ble_eq_true rfl) dB_36_2_32.1.2.2.1 (fun H locs hP hD hS => ?_)
                refine pd_K [ob11_0_ xo xk xn xc xh xt xw xm xp pf ph y_16 fi, ob3_0_ xn vp vn n1 n2 n3 n4 n5, ai_ cy n1 40 fk, ai_ cy n4 40 fw, ai_ cy n5 40 fp, aq_ cy 3 xk 5 (kf_ k0 k1 k2 k3 k4), ob6_0_ k0, ob5_0_ k1, ob9_0_ k2, ob2_0_ k3, ob8_0_ k4] hP hD (fun hP hD => ?_)
                refine lv_aload_n hx hb dB_36_2_32.1.2.2.2 rfl (lv_at hl 1 rfl) ?_
                refine lv_aload_n hx hb dB_36_2_32.2.1.1.1 rfl (lv_at hl 2 rfl) ?_
                refine va_get (ci := 11) (v := .ref xn) (C := RX11) (T := TX11) (N := 12) hx hb hts (fun _ h => List.mem_cons_of_mem _ (List.mem_append_left _ (List.mem_append_right _ h))) hown hK.1 hP 0 rfl rfl 1 (by decide) (hts (.fieldLink RX11 31 "CutAtlas" "net" "LCutAtlas$Net;") (List.mem_of_getElem? (i := 1) rfl)) (fun _ h9 => h9) rfl dB_36_2_32.2.1.1.2 ?_
                refine va_get (ci := 3) (v := .ref n4) (C := RX3) (T := TX3) (N := 7) hx hb hts (fun _ h => List.mem_cons_of_mem _ (List.mem_append_right _ h)) hown hK.1 hP 1 rfl rfl 5 (by decide) (hts (.fieldLink RX11 129 "CutAtlas$Net" "widths" "[I") (List.mem_of_getElem? (i := 6) rfl)) (fun _ h9 => h9) rfl dB_36_2_32.2.1.2.1 ?_
                refine lv_iload_n hx hb dB_36_2_32.2.1.2.2 rfl (lv_at hl 3 rfl) ?_
                refine va_iald hx hb hK.1 hP 3 0 rfl rfl (i := a1) h_6 dB_36_2_32.2.2.1.1 ?_
                refine lv_topi (fun y_18 ey_18 => ?_)
                have ky_18 : y_18.toInt = (fw a1.toNatClampNeg).toInt := by rw [ey_18]
                refine lv_iload hx hb dB_36_2_32.2.2.1.2 (lv_at hl 0 rfl) ?_
                refine ct_R hP hD [] [] (by decide) rfl (fun hPc hDw => ?_)
                have hFc := va_free (wc := []) hD hS hA [] rfl
                refine va_calli (va_runV (As := [.int y_18, .int 1]) (rest := []) ⟨hx, hb, hml, hown, hts⟩ (c_X6_lets2 l D cy H.size k0 y_18 (1 : Int32)) (cwV 2 hts gX11_ask_X6_lets rfl rfl rfl ⟨rfl, hd_X6_lets⟩ ⟨Nat.le_of_ble_eq_true rfl, Nat.le_of_ble_eq_true rfl⟩) ⟨bl_, va_recvX hK.1 hP (ci := 6) (q0 := 6) rfl rfl, fun U hU hW => ⟨rfl, by rw [hU], by rw [hU]; exact hPc, kk_mv hW hK, hDw⟩⟩ rfl rfl hl.1 rfl (lv_room (Nat.le_of_ble_eq_true rfl)) dB_36_2_32.2.2.2.1 ⟨Nat.le_of_ble_eq_true rfl, Nat.le_of_ble_eq_true rfl⟩) hS (fun q _ h => hFc q h) hFc (fun r_19 u t H locs ht hvm hw hB hz1 hk1 hS => ?_)
                have hP : va_P D vwCl _ H := ro_keep hP hk1
                obtain ⟨f0_r_19, f1_r_19⟩ := hw
                rw [hQ]
                exact W.iret (v := r_19) hx hb hr (fun t ht hW => ⟨⟨r_19, (), rfl, (by unfold akI; (repeat' (first | with_reducible refine if_n (by omega) ?_ | with_reducible refine if_ns (by omega) ?_ | with_reducible refine if_nz (by omega) ?_ | with_reducible exact if_p (by omega) (by omega) | with_reducible exact if_ps (by omega) (by omega) | with_reducible exact if_pz (by omega) (by omega))) <;> omega), y_16, by rw [ht]; exact hP, hD⟩, hS.F ht⟩) hS.2.2 dB_36_2_32.2.2.2.2
            · have t_8 : a2.toInt = (2 : Int32).toInt := congrArg Int32.toInt c_8
              refine lv_aload_n hx hb dB_36_2_30.2.1.1.1 rfl (lv_at hl 1 rfl) ?_
              refine lv_dup hx hb dB_36_2_30.2.1.1.2 rfl ?_
              refine va_get (ci := 11) (v := .long tr) (C := RX11) (T := TX11) (N := 12) hx hb hts (fun _ h => List.mem_cons_of_mem _ (List.mem_append_left _ (List.mem_append_right _ h))) hown hK.1 hP 0 rfl rfl 10 (by decide) (hts (.fieldLink RX11 87 "CutAtlas" "traced" "J") (List.mem_of_getElem? (i := 4) rfl)) (fun _ h9 => h9) rfl dB_36_2_30.2.1.2.1 ?_
              refine lv_aload_n hx hb dB_36_2_30.2.1.2.2 rfl (lv_at hl 0 rfl) ?_
              refine ct_R hP hD [] [] (by decide) rfl (fun hPc hDw => ?_)
              have hFc := va_free (wc := []) hD hS hA [] rfl
              refine va_calli (va_runV (As := []) (rest := [.long tr, .ref xo]) ⟨hx, hb, hml, hown, hts⟩ (c_X6_costsMark l D cy H.size k0) (cwV 0 hts gX11_ask_X6_costsMark rfl rfl rfl ⟨rfl, hd_X6_costsMark⟩ ⟨Nat.le_of_ble_eq_true rfl, Nat.le_of_ble_eq_true rfl⟩) ⟨bl_, va_recvX hK.1 hP (ci := 6) (q0 := 6) rfl rfl, fun U hU hW => ⟨rfl, by rw [hU], by rw [hU]; exact hPc, kk_mv hW hK, hDw⟩⟩ rfl rfl hl.1 rfl (lv_room (Nat.le_of_ble_eq_true rfl)) dB_36_2_30.2.2.1.1 ⟨Nat.le_of_ble_eq_true rfl, Nat.le_of_ble_eq_true rfl⟩) hS (fun q _ h => hFc q h) hFc (fun r_20 u t H locs ht hvm hw hB hz1 hk1 hS => ?_)
              have hP : va_P D vwCl _ H := ro_keep hP hk1
              refine lv_i2l (v := r_20.toInt64) hx hb dB_36_2_30.2.2.1.2 rfl ?_
              have q_51 : (r_20.toInt64).toInt = r_20.toInt := Int32.toInt_toInt64 r_20
              refine lv_ladd hx hb dB_36_2_30.2.2.2.1 ?_
              refine lv_topl (fun y_21 ey_21 => ?_)
              refine va_put (ci := 11) (v := .long y_21) (ty := .long) (C := RX11) (T := TX11) (N := 12) hx hb hts (fun _ h => List.mem_cons_of_mem _ (List.mem_append_left _ (List.mem_append_right _ h))) tyX11 tyX11_ok nmX11 hown hK.1 hP hD hS 0 rfl rfl 10 (by decide) (hts (.fieldLink RX11 87 "CutAtlas" "traced" "J") (List.mem_of_getElem? (i := 4) rfl)) (fun _ h9 => h9) rfl (by decide +kernel) rfl rfl (Nat.le_of_ble_eq_true rfl) dB_36_2_30.2.2.2.2 (fun H locs hP hD hS => ?_)
              refine pd_K [ob11_0_ xo xk xn xc xh xt xw xm xp pf ph y_21 fi, ob3_0_ xn vp vn n1 n2 n3 n4 n5, ai_ cy n1 40 fk, ai_ cy n4 40 fw, ai_ cy n5 40 fp, aq_ cy 3 xk 5 (kf_ k0 k1 k2 k3 k4), ob6_0_ k0, ob5_0_ k1, ob9_0_ k2, ob2_0_ k3, ob8_0_ k4] hP hD (fun hP hD => ?_)
              refine lv_aload_n hx hb dB_36_2_31.1.1.1.1 rfl (lv_at hl 0 rfl) ?_
              refine lv_aload_n hx hb dB_36_2_31.1.1.1.2 rfl (lv_at hl 1 rfl) ?_
              refine va_get (ci := 11) (v := .ref xn) (C := RX11) (T := TX11) (N := 12) hx hb hts (fun _ h => List.mem_cons_of_mem _ (List.mem_append_left _ (List.mem_append_right _ h))) hown hK.1 hP 0 rfl rfl 1 (by decide) (hts (.fieldLink RX11 31 "CutAtlas" "net" "LCutAtlas$Net;") (List.mem_of_getElem? (i := 1) rfl)) (fun _ h9 => h9) rfl dB_36_2_31.1.1.2.1 ?_
              refine va_get (ci := 3) (v := .ref n5) (C := RX3) (T := TX3) (N := 7) hx hb hts (fun _ h => List.mem_cons_of_mem _ (List.mem_append_right _ h)) hown hK.1 hP 1 rfl rfl 6 (by decide) (hts (.fieldLink RX11 119 "CutAtlas$Net" "prices" "[I") (List.mem_of_getElem? (i := 5) rfl)) (fun _ h9 => h9) rfl dB_36_2_31.1.1.2.2 ?_
              refine lv_iload_n hx hb dB_36_2_31.1.2.1.1 rfl (lv_at hl 2 rfl) ?_
              refine va_iald hx hb hK.1 hP 4 0 rfl rfl (i := a1) h_6 dB_36_2_31.1.2.1.2 ?_
              refine lv_topi (fun y_23 ey_23 => ?_)
              have ky_23 : y_23.toInt = (fp a1.toNatClampNeg).toInt := by rw [ey_23]
              have ry_23 : 0 ≤ y_23.toInt ∧ y_23.toInt ≤ 100 := by rw [ey_23]; exact r_fp _ (in_lt h_6)
              refine ct_R hP hD [] [] (by decide) rfl (fun hPc hDw => ?_)
              have hFc := va_free (wc := []) hD hS hA [] rfl
              refine va_calli (va_runV (As := [.int y_23]) (rest := []) ⟨hx, hb, hml, hown, hts⟩ (c_X6_costs2 l D cy H.size k0 y_23) (cwV 1 hts gX11_ask_X6_costs rfl rfl rfl ⟨rfl, hd_X6_costs⟩ ⟨Nat.le_of_ble_eq_true rfl, Nat.le_of_ble_eq_true rfl⟩) ⟨bl_, va_recvX hK.1 hP (ci := 6) (q0 := 6) rfl rfl, fun U hU hW => ⟨rfl, by rw [hU], by rw [hU]; exact hPc, kk_mv hW hK, hDw⟩⟩ rfl rfl hl.1 rfl (lv_room (Nat.le_of_ble_eq_true rfl)) dB_36_2_31.1.2.2.1 ⟨Nat.le_of_ble_eq_true rfl, Nat.le_of_ble_eq_true rfl⟩) hS (fun q _ h => hFc q h) hFc (fun r_24 u t H locs ht hvm hw hB hz1 hk1 hS => ?_)
              have hP : va_P D vwCl _ H := ro_keep hP hk1
              obtain ⟨f0_r_24, f1_r_24⟩ := hw
              rw [hQ]
              exact W.iret (v := r_24) hx hb hr (fun t ht hW => ⟨⟨r_24, (), rfl, (by unfold akI; (repeat' (first | with_reducible refine if_n (by omega) ?_ | with_reducible refine if_ns (by omega) ?_ | with_reducible refine if_nz (by omega) ?_ | with_reducible exact if_p (by omega) (by omega) | with_reducible exact if_ps (by omega) (by omega) | with_reducible exact if_pz (by omega) (by omega))) <;> omega), y_21, by rw [ht]; exact hP, hD⟩, hS.F ht⟩) hS.2.2 dB_36_2_31.1.2.2.2
          · refine va_aldq hx hb hK.1 hP 5 3 rfl rfl (i := 1) (by unfold vp_in; decide) dB_36_2_30.1.1.2.2 ?_
            refine lv_topv (v' := .ref k1) (by simp [va_up, va_rf, mf_, cl_0, cl_1, cl_2, cl_3, cl_4, kf_]) ?_
            refine lv_astore_n (lv' := [(3, .ref k1), (0, .ref xo), (1, .int a1), (2, .int a2)]) hx hb dB_36_2_30.1.2.1.1 rfl hl (by decide) rfl (fun ls hl => ?_)
            refine lv_iload_n hx hb dB_36_2_30.1.2.1.2 rfl (lv_at hl 3 rfl) ?_
            refine lv_iconst (v := 2) hx hb dB_36_2_30.1.2.2.1 (by decide) ?_
            refine lv_icmp_ne (tgt := 70) hx hb dB_36_2_30.1.2.2.2 (by decide) (fun c_25 => ?_) (fun c_25 => ?_)
            · have t_25 : ¬ a2.toInt = (2 : Int32).toInt := fun h => c_25 (Int32.toInt_inj.mp h)
              refine lv_iload_n hx hb dB_36_2_31.2.1.1.1 rfl (lv_at hl 3 rfl) ?_
              refine lv_if_ne (tgt := 78) hx hb dB_36_2_31.2.1.1.2 (by decide) (fun c_26 => ?_) (fun c_26 => ?_)
              · have t_26 : ¬ a2.toInt = (0 : Int32).toInt := fun h => c_26 (Int32.toInt_inj.mp h)
                refine lv_iconst (v := 0) hx hb dB_36_2_31.2.2.1.1 (by decide) ?_
                refine lv_istore (lv' := [(4, .int 0), (3, .ref k1), (0, .ref xo), (1, .int a1), (2, .int a2)]) hx hb dB_36_2_31.2.2.1.2 hl (by decide) rfl (fun ls hl => ?_)
                refine lv_aload_n hx hb dB_36_2_31.2.2.2.1 rfl (lv_at hl 2 rfl) ?_
                refine lv_dup hx hb dB_36_2_31.2.2.2.2 rfl ?_
                refine va_get (ci := 11) (v := .long tr) (C := RX11) (T := TX11) (N := 12) hx hb hts (fun _ h => List.mem_cons_of_mem _ (List.mem_append_left _ (List.mem_append_right _ h))) hown hK.1 hP 0 rfl rfl 10 (by decide) (hts (.fieldLink RX11 87 "CutAtlas" "traced" "J") (List.mem_of_getElem? (i := 4) rfl)) (fun _ h9 => h9) rfl dB_36_2_32.1.1.1.1 ?_
                refine lv_aload_n hx hb dB_36_2_32.1.1.1.2 rfl (lv_at hl 1 rfl) ?_
                refine lv_iload hx hb dB_36_2_32.1.1.2.1 (lv_at hl 0 rfl) ?_
                refine ct_R hP hD [ob5_0_ k1] [7] (by decide) rfl (fun hPc hDw => ?_)
                have hFc := va_free (wc := []) hD hS hA [] rfl
                refine va_calli (va_runU (As := [.int 0]) (rest := [.long tr, .ref xo]) ⟨hx, hb, hml, hown, hts⟩ (c_X5_letsMark l D cy H.size k1 (0 : Int32)) (va_cwO 1 hts gX11_ask_X5_letsMark_u161X5 rfl rfl rfl (b0 := cX6_letsMark) (m0 := 2) (r0 := (some .int)) (by decide +kernel) (by decide +kernel) ⟨Nat.le_of_ble_eq_true rfl, Nat.le_of_ble_eq_true rfl⟩) ⟨bl_, va_recvX hK.1 hP (ci := 5) (q0 := 7) rfl rfl, fun U hU hW => ⟨rfl, by rw [hU], by rw [hU]; exact hPc, kk_mv hW hK, hDw⟩⟩ rfl rfl hl.1 rfl (lv_room (Nat.le_of_ble_eq_true rfl)) dB_36_2_32.1.1.2.2 ⟨Nat.le_of_ble_eq_true rfl, Nat.le_of_ble_eq_true rfl⟩) hS (fun q _ h => hFc q h) hFc (fun r_27 u t H locs ht hvm hw hB hz1 hk1 hS => ?_)
                have hP : va_P D vwCl _ H := ro_keep hP hk1
                refine lv_i2l (v := r_27.toInt64) hx hb dB_36_2_32.1.2.1.1 rfl ?_
                have q_92 : (r_27.toInt64).toInt = r_27.toInt := Int32.toInt_toInt64 r_27
                refine lv_ladd hx hb dB_36_2_32.1.2.1.2 ?_
                refine lv_topl (fun y_28 ey_28 => ?_)
                refine va_put (ci := 11) (v := .long y_28) (ty := .long) (C := RX11) (T := TX11) (N := 12) hx hb hts (fun _ h => List.mem_cons_of_mem _ (List.mem_append_left _ (List.mem_append_right _ h))) tyX11 tyX11_ok nmX11 hown hK.1 hP hD hS 0 rfl rfl 10 (by decide) (hts (.fieldLink RX11 87 "CutAtlas" "traced" "J") (List.mem_of_getElem? (i := 4) rfl)) (fun _ h9 => h9) rfl (by decide +kernel) rfl rfl (Nat.le_of_ble_eq_true rfl) dB_36_2_32.1.2.2.1 (fun H locs hP hD hS => ?_)
                refine pd_K [ob11_0_ xo xk xn xc xh xt xw xm xp pf ph y_28 fi, ob3_0_ xn vp vn n1 n2 n3 n4 n5, ai_ cy n1 40 fk, ai_ cy n4 40 fw, ai_ cy n5 40 fp, aq_ cy 3 xk 5 (kf_ k0 k1 k2 k3 k4), ob6_0_ k0, ob5_0_ k1, ob9_0_ k2, ob2_0_ k3, ob8_0_ k4] hP hD (fun hP hD => ?_)
                refine lv_aload_n hx hb dB_36_2_32.1.2.2.2 rfl (lv_at hl 1 rfl) ?_
                refine lv_aload_n hx hb dB_36_2_32.2.1.1.1 rfl (lv_at hl 2 rfl) ?_
                refine va_get (ci := 11) (v := .ref xn) (C := RX11) (T := TX11) (N := 12) hx hb hts (fun _ h => List.mem_cons_of_mem _ (List.mem_append_left _ (List.mem_append_right _ h))) hown hK.1 hP 0 rfl rfl 1 (by decide) (hts (.fieldLink RX11 31 "CutAtlas" "net" "LCutAtlas$Net;") (List.mem_of_getElem? (i := 1) rfl)) (fun _ h9 => h9) rfl dB_36_2_32.2.1.1.2 ?_
                refine va_get (ci := 3) (v := .ref n4) (C := RX3) (T := TX3) (N := 7) hx hb hts (fun _ h => List.mem_cons_of_mem _ (List.mem_append_right _ h)) hown hK.1 hP 1 rfl rfl 5 (by decide) (hts (.fieldLink RX11 129 "CutAtlas$Net" "widths" "[I") (List.mem_of_getElem? (i := 6) rfl)) (fun _ h9 => h9) rfl dB_36_2_32.2.1.2.1 ?_
                refine lv_iload_n hx hb dB_36_2_32.2.1.2.2 rfl (lv_at hl 3 rfl) ?_
                refine va_iald hx hb hK.1 hP 3 0 rfl rfl (i := a1) h_6 dB_36_2_32.2.2.1.1 ?_
                refine lv_topi (fun y_30 ey_30 => ?_)
                have ky_30 : y_30.toInt = (fw a1.toNatClampNeg).toInt := by rw [ey_30]
                refine lv_iload hx hb dB_36_2_32.2.2.1.2 (lv_at hl 0 rfl) ?_
                refine ct_R hP hD [ob5_0_ k1] [7] (by decide) rfl (fun hPc hDw => ?_)
                have hFc := va_free (wc := []) hD hS hA [] rfl
                refine va_calli (va_runU (As := [.int y_30, .int 0]) (rest := []) ⟨hx, hb, hml, hown, hts⟩ (c_X5_lets2 l D cy H.size k1 y_30 (0 : Int32)) (va_cwO 2 hts gX11_ask_X5_lets_u165X5 rfl rfl rfl (b0 := cX6_lets) (m0 := 3) (r0 := (some .int)) (by decide +kernel) (by decide +kernel) ⟨Nat.le_of_ble_eq_true rfl, Nat.le_of_ble_eq_true rfl⟩) ⟨bl_, va_recvX hK.1 hP (ci := 5) (q0 := 7) rfl rfl, fun U hU hW => ⟨rfl, by rw [hU], by rw [hU]; exact hPc, kk_mv hW hK, hDw⟩⟩ rfl rfl hl.1 rfl (lv_room (Nat.le_of_ble_eq_true rfl)) dB_36_2_32.2.2.2.1 ⟨Nat.le_of_ble_eq_true rfl, Nat.le_of_ble_eq_true rfl⟩) hS (fun q _ h => hFc q h) hFc (fun r_31 u t H locs ht hvm hw hB hz1 hk1 hS => ?_)
                have hP : va_P D vwCl _ H := ro_keep hP hk1
                have f0_r_31 := hw
                rw [hQ]
                exact W.iret (v := r_31) hx hb hr (fun t ht hW => ⟨⟨r_31, (), rfl, (by unfold akI; (repeat' (first | with_reducible refine if_n (by omega) ?_ | with_reducible refine if_ns (by omega) ?_ | with_reducible refine if_nz (by omega) ?_ | with_reducible exact if_p (by omega) (by omega) | with_reducible exact if_ps (by omega) (by omega) | with_reducible exact if_pz (by omega) (by omega))) <;> omega), y_28, by rw [ht]; exact hP, hD⟩, hS.F ht⟩) hS.2.2 dB_36_2_32.2.2.2.2
              · have t_26 : a2.toInt = (0 : Int32).toInt := congrArg Int32.toInt c_26
                refine lv_iconst (v := 1) hx hb dB_36_2_31.2.1.2.1 (by decide) ?_
                refine lv_goto (tgt := 79) hx hb dB_36_2_31.2.1.2.2 (by decide) ?_
                refine lv_istore (lv' := [(4, .int 1), (3, .ref k1), (0, .ref xo), (1, .int a1), (2, .int a2)]) hx hb dB_36_2_31.2.2.1.2 hl (by decide) rfl (fun ls hl => ?_)
                refine lv_aload_n hx hb dB_36_2_31.2.2.2.1 rfl (lv_at hl 2 rfl) ?_
                refine lv_dup hx hb dB_36_2_31.2.2.2.2 rfl ?_
                refine va_get (ci := 11) (v := .long tr) (C := RX11) (T := TX11) (N := 12) hx hb hts (fun _ h => List.mem_cons_of_mem _ (List.mem_append_left _ (List.mem_append_right _ h))) hown hK.1 hP 0 rfl rfl 10 (by decide) (hts (.fieldLink RX11 87 "CutAtlas" "traced" "J") (List.mem_of_getElem? (i := 4) rfl)) (fun _ h9 => h9) rfl dB_36_2_32.1.1.1.1 ?_
                refine lv_aload_n hx hb dB_36_2_32.1.1.1.2 rfl (lv_at hl 1 rfl) ?_
                refine lv_iload hx hb dB_36_2_32.1.1.2.1 (lv_at hl 0 rfl) ?_
                refine ct_R hP hD [ob5_0_ k1] [7] (by decide) rfl (fun hPc hDw => ?_)
                have hFc := va_free (wc := []) hD hS hA [] rfl
                refine va_calli (va_runU (As := [.int 1]) (rest := [.long tr, .ref xo]) ⟨hx, hb, hml, hown, hts⟩ (c_X5_letsMark l D cy H.size k1 (1 : Int32)) (va_cwO 1 hts gX11_ask_X5_letsMark_u161X5 rfl rfl rfl (b0 := cX6_letsMark) (m0 := 2) (r0 := (some .int)) (by decide +kernel) (by decide +kernel) ⟨Nat.le_of_ble_eq_true rfl, Nat.le_of_ble_eq_true rfl⟩) ⟨bl_, va_recvX hK.1 hP (ci := 5) (q0 := 7) rfl rfl, fun U hU hW => ⟨rfl, by rw [hU], by rw [hU]; exact hPc, kk_mv hW hK, hDw⟩⟩ rfl rfl hl.1 rfl (lv_room (Nat.le_of_ble_eq_true rfl)) dB_36_2_32.1.1.2.2 ⟨Nat.le_of_ble_eq_true rfl, Nat.le_of_ble_eq_true rfl⟩) hS (fun q _ h => hFc q h) hFc (fun r_32 u t H locs ht hvm hw hB hz1 hk1 hS => ?_)
                have hP : va_P D vwCl _ H := ro_keep hP hk1
                refine lv_i2l (v := r_32.toInt64) hx hb dB_36_2_32.1.2.1.1 rfl ?_
                have q_92 : (r_32.toInt64).toInt = r_32.toInt := Int32.toInt_toInt64 r_32
                refine lv_ladd hx hb dB_36_2_32.1.2.1.2 ?_
                refine lv_topl (fun y_33 ey_33 => ?_)
                refine va_put (ci := 11) (v := .long y_33) (ty := .long) (C := RX11) (T := TX11) (N := 12) hx hb hts (fun _ h => List.mem_cons_of_mem _ (List.mem_append_left _ (List.mem_append_right _ h))) tyX11 tyX11_ok nmX11 hown hK.1 hP hD hS 0 rfl rfl 10 (by decide) (hts (.fieldLink RX11 87 "CutAtlas" "traced" "J") (List.mem_of_getElem? (i := 4) rfl)) (fun _ h9 => h9) rfl (by decide +kernel) rfl rfl (Nat.le_of_ble_eq_true rfl) dB_36_2_32.1.2.2.1 (fun H locs hP hD hS => ?_)
                refine pd_K [ob11_0_ xo xk xn xc xh xt xw xm xp pf ph y_33 fi, ob3_0_ xn vp vn n1 n2 n3 n4 n5, ai_ cy n1 40 fk, ai_ cy n4 40 fw, ai_ cy n5 40 fp, aq_ cy 3 xk 5 (kf_ k0 k1 k2 k3 k4), ob6_0_ k0, ob5_0_ k1, ob9_0_ k2, ob2_0_ k3, ob8_0_ k4] hP hD (fun hP hD => ?_)
                refine lv_aload_n hx hb dB_36_2_32.1.2.2.2 rfl (lv_at hl 1 rfl) ?_
                refine lv_aload_n hx hb dB_36_2_32.2.1.1.1 rfl (lv_at hl 2 rfl) ?_
                refine va_get (ci := 11) (v := .ref xn) (C := RX11) (T := TX11) (N := 12) hx hb hts (fun _ h => List.mem_cons_of_mem _ (List.mem_append_left _ (List.mem_append_right _ h))) hown hK.1 hP 0 rfl rfl 1 (by decide) (hts (.fieldLink RX11 31 "CutAtlas" "net" "LCutAtlas$Net;") (List.mem_of_getElem? (i := 1) rfl)) (fun _ h9 => h9) rfl dB_36_2_32.2.1.1.2 ?_
                refine va_get (ci := 3) (v := .ref n4) (C := RX3) (T := TX3) (N := 7) hx hb hts (fun _ h => List.mem_cons_of_mem _ (List.mem_append_right _ h)) hown hK.1 hP 1 rfl rfl 5 (by decide) (hts (.fieldLink RX11 129 "CutAtlas$Net" "widths" "[I") (List.mem_of_getElem? (i := 6) rfl)) (fun _ h9 => h9) rfl dB_36_2_32.2.1.2.1 ?_
                refine lv_iload_n hx hb dB_36_2_32.2.1.2.2 rfl (lv_at hl 3 rfl) ?_
                refine va_iald hx hb hK.1 hP 3 0 rfl rfl (i := a1) h_6 dB_36_2_32.2.2.1.1 ?_
                refine lv_topi (fun y_35 ey_35 => ?_)
                have ky_35 : y_35.toInt = (fw a1.toNatClampNeg).toInt := by rw [ey_35]
                refine lv_iload hx hb dB_36_2_32.2.2.1.2 (lv_at hl 0 rfl) ?_
                refine ct_R hP hD [ob5_0_ k1] [7] (by decide) rfl (fun hPc hDw => ?_)
                have hFc := va_free (wc := []) hD hS hA [] rfl
                refine va_calli (va_runU (As := [.int y_35, .int 1]) (rest := []) ⟨hx, hb, hml, hown, hts⟩ (c_X5_lets2 l D cy H.size k1 y_35 (1 : Int32)) (va_cwO 2 hts gX11_ask_X5_lets_u165X5 rfl rfl rfl (b0 := cX6_lets) (m0 := 3) (r0 := (some .int)) (by decide +kernel) (by decide +kernel) ⟨Nat.le_of_ble_eq_true rfl, Nat.le_of_ble_eq_true rfl⟩) ⟨bl_, va_recvX hK.1 hP (ci := 5) (q0 := 7) rfl rfl, fun U hU hW => ⟨rfl, by rw [hU], by rw [hU]; exact hPc, kk_mv hW hK, hDw⟩⟩ rfl rfl hl.1 rfl (lv_room (Nat.le_of_ble_eq_true rfl)) dB_36_2_32.2.2.2.1 ⟨Nat.le_of_ble_eq_true rfl, Nat.le_of_ble_eq_true rfl⟩) hS (fun q _ h => hFc q h) hFc (fun r_36 u t H locs ht hvm hw hB hz1 hk1 hS => ?_)
                have hP : va_P D vwCl _ H := ro_keep hP hk1
                have f0_r_36 := hw
                rw [hQ]
                exact W.iret (v := r_36) hx hb hr (fun t ht hW => ⟨⟨r_36, (), rfl, (by unfold akI; (repeat' (first | with_reducible refine if_n (by omega) ?_ | with_reducible refine if_ns (by omega) ?_ | with_reducible refine if_nz (by omega) ?_ | with_reducible exact if_p (by omega) (by omega) | with_reducible exact if_ps (by omega) (by omega) | with_reducible exact if_pz (by omega) (by omega))) <;> omega), y_33, by rw [ht]; exact hP, hD⟩, hS.F ht⟩) hS.2.2 dB_36_2_32.2.2.2.2
            · have t_25 : a2.toInt = (2 : Int32).toInt := congrArg Int32.toInt c_25
              refine lv_aload_n hx hb dB_36_2_30.2.1.1.1 rfl (lv_at hl 1 rfl) ?_
              refine lv_dup hx hb dB_36_2_30.2.1.1.2 rfl ?_
              refine va_get (ci := 11) (v := .long tr) (C := RX11) (T := TX11) (N := 12) hx hb hts (fun _ h => List.mem_cons_of_mem _ (List.mem_append_left _ (List.mem_append_right _ h))) hown hK.1 hP 0 rfl rfl 10 (by decide) (hts (.fieldLink RX11 87 "CutAtlas" "traced" "J") (List.mem_of_getElem? (i := 4) rfl)) (fun _ h9 => h9) rfl dB_36_2_30.2.1.2.1 ?_
              refine lv_aload_n hx hb dB_36_2_30.2.1.2.2 rfl (lv_at hl 0 rfl) ?_
              refine ct_R hP hD [] [] (by decide) rfl (fun hPc hDw => ?_)
              have hFc := va_free (wc := []) hD hS hA [] rfl
              refine va_calli (va_runU (As := []) (rest := [.long tr, .ref xo]) ⟨hx, hb, hml, hown, hts⟩ (c_X6_costsMark l D cy H.size k1) (va_cwU 0 hts gX11_ask_X6_costsMark_u132X5 rfl rfl rfl rfl (by decide +kernel) ⟨Nat.le_of_ble_eq_true rfl, Nat.le_of_ble_eq_true rfl⟩) ⟨bl_, va_recvX hK.1 hP (ci := 5) (q0 := 7) rfl rfl, fun U hU hW => ⟨rfl, by rw [hU], by rw [hU]; exact hPc, kk_mv hW hK, hDw⟩⟩ rfl rfl hl.1 rfl (lv_room (Nat.le_of_ble_eq_true rfl)) dB_36_2_30.2.2.1.1 ⟨Nat.le_of_ble_eq_true rfl, Nat.le_of_ble_eq_true rfl⟩) hS (fun q _ h => hFc q h) hFc (fun r_37 u t H locs ht hvm hw hB hz1 hk1 hS => ?_)
              have hP : va_P D vwCl _ H := ro_keep hP hk1
              refine lv_i2l (v := r_37.toInt64) hx hb dB_36_2_30.2.2.1.2 rfl ?_
              have q_51 : (r_37.toInt64).toInt = r_37.toInt := Int32.toInt_toInt64 r_37
              refine lv_ladd hx hb dB_36_2_30.2.2.2.1 ?_
              refine lv_topl (fun y_38 ey_38 => ?_)
              refine va_put (ci := 11) (v := .long y_38) (ty := .long) (C := RX11) (T := TX11) (N := 12) hx hb hts (fun _ h => List.mem_cons_of_mem _ (List.mem_append_left _ (List.mem_append_right _ h))) tyX11 tyX11_ok nmX11 hown hK.1 hP hD hS 0 rfl rfl 10 (by decide) (hts (.fieldLink RX11 87 "CutAtlas" "traced" "J") (List.mem_of_getElem? (i := 4) rfl)) (fun _ h9 => h9) rfl (by decide +kernel) rfl rfl (Nat.le_of_ble_eq_true rfl) dB_36_2_30.2.2.2.2 (fun H locs hP hD hS => ?_)
              refine pd_K [ob11_0_ xo xk xn xc xh xt xw xm xp pf ph y_38 fi, ob3_0_ xn vp vn n1 n2 n3 n4 n5, ai_ cy n1 40 fk, ai_ cy n4 40 fw, ai_ cy n5 40 fp, aq_ cy 3 xk 5 (kf_ k0 k1 k2 k3 k4), ob6_0_ k0, ob5_0_ k1, ob9_0_ k2, ob2_0_ k3, ob8_0_ k4] hP hD (fun hP hD => ?_)
              refine lv_aload_n hx hb dB_36_2_31.1.1.1.1 rfl (lv_at hl 0 rfl) ?_
              refine lv_aload_n hx hb dB_36_2_31.1.1.1.2 rfl (lv_at hl 1 rfl) ?_
              refine va_get (ci := 11) (v := .ref xn) (C := RX11) (T := TX11) (N := 12) hx hb hts (fun _ h => List.mem_cons_of_mem _ (List.mem_append_left _ (List.mem_append_right _ h))) hown hK.1 hP 0 rfl rfl 1 (by decide) (hts (.fieldLink RX11 31 "CutAtlas" "net" "LCutAtlas$Net;") (List.mem_of_getElem? (i := 1) rfl)) (fun _ h9 => h9) rfl dB_36_2_31.1.1.2.1 ?_
              refine va_get (ci := 3) (v := .ref n5) (C := RX3) (T := TX3) (N := 7) hx hb hts (fun _ h => List.mem_cons_of_mem _ (List.mem_append_right _ h)) hown hK.1 hP 1 rfl rfl 6 (by decide) (hts (.fieldLink RX11 119 "CutAtlas$Net" "prices" "[I") (List.mem_of_getElem? (i := 5) rfl)) (fun _ h9 => h9) rfl dB_36_2_31.1.1.2.2 ?_
              refine lv_iload_n hx hb dB_36_2_31.1.2.1.1 rfl (lv_at hl 2 rfl) ?_
              refine va_iald hx hb hK.1 hP 4 0 rfl rfl (i := a1) h_6 dB_36_2_31.1.2.1.2 ?_
              refine lv_topi (fun y_40 ey_40 => ?_)
              have ky_40 : y_40.toInt = (fp a1.toNatClampNeg).toInt := by rw [ey_40]
              have ry_40 : 0 ≤ y_40.toInt ∧ y_40.toInt ≤ 100 := by rw [ey_40]; exact r_fp _ (in_lt h_6)
              refine ct_R hP hD [] [] (by decide) rfl (fun hPc hDw => ?_)
              have hFc := va_free (wc := []) hD hS hA [] rfl
              refine va_calli (va_runU (As := [.int y_40]) (rest := []) ⟨hx, hb, hml, hown, hts⟩ (c_X6_costs2 l D cy H.size k1 y_40) (va_cwU 1 hts gX11_ask_X6_costs_u122X5 rfl rfl rfl rfl (by decide +kernel) ⟨Nat.le_of_ble_eq_true rfl, Nat.le_of_ble_eq_true rfl⟩) ⟨bl_, va_recvX hK.1 hP (ci := 5) (q0 := 7) rfl rfl, fun U hU hW => ⟨rfl, by rw [hU], by rw [hU]; exact hPc, kk_mv hW hK, hDw⟩⟩ rfl rfl hl.1 rfl (lv_room (Nat.le_of_ble_eq_true rfl)) dB_36_2_31.1.2.2.1 ⟨Nat.le_of_ble_eq_true rfl, Nat.le_of_ble_eq_true rfl⟩) hS (fun q _ h => hFc q h) hFc (fun r_41 u t H locs ht hvm hw hB hz1 hk1 hS => ?_)
              have hP : va_P D vwCl _ H := ro_keep hP hk1
              obtain ⟨f0_r_41, f1_r_41⟩ := hw
              rw [hQ]
              exact W.iret (v := r_41) hx hb hr (fun t ht hW => ⟨⟨r_41, (), rfl, (by unfold akI; (repeat' (first | with_reducible refine if_n (by omega) ?_ | with_reducible refine if_ns (by omega) ?_ | with_reducible refine if_nz (by omega) ?_ | with_reducible exact if_p (by omega) (by omega) | with_reducible exact if_ps (by omega) (by omega) | with_reducible exact if_pz (by omega) (by omega))) <;> omega), y_38, by rw [ht]; exact hP, hD⟩, hS.F ht⟩) hS.2.2 dB_36_2_31.1.2.2.2
          · refine va_aldq hx hb hK.1 hP 5 3 rfl rfl (i := 2) (by unfold vp_in; decide) dB_36_2_30.1.1.2.2 ?_
            refine lv_topv (v' := .ref k2) (by simp [va_up, va_rf, mf_, cl_0, cl_1, cl_2, cl_3, cl_4, kf_]) ?_
            refine lv_astore_n (lv' := [(3, .ref k2), (0, .ref xo), (1, .int a1), (2, .int a2)]) hx hb dB_36_2_30.1.2.1.1 rfl hl (by decide) rfl (fun ls hl => ?_)
            refine lv_iload_n hx hb dB_36_2_30.1.2.1.2 rfl (lv_at hl 3 rfl) ?_
            refine lv_iconst (v := 2) hx hb dB_36_2_30.1.2.2.1 (by decide) ?_
            refine lv_icmp_ne (tgt := 70) hx hb dB_36_2_30.1.2.2.2 (by decide) (fun c_42 => ?_) (fun c_42 => ?_)
            · have t_42 : ¬ a2.toInt = (2 : Int32).toInt := fun h => c_42 (Int32.toInt_inj.mp h)
              refine lv_iload_n hx hb dB_36_2_31.2.1.1.1 rfl (lv_at hl 3 rfl) ?_
              refine lv_if_ne (tgt := 78) hx hb dB_36_2_31.2.1.1.2 (by decide) (fun c_43 => ?_) (fun c_43 => ?_)
              · have t_43 : ¬ a2.toInt = (0 : Int32).toInt := fun h => c_43 (Int32.toInt_inj.mp h)
                refine lv_iconst (v := 0) hx hb dB_36_2_31.2.2.1.1 (by decide) ?_
                refine lv_istore (lv' := [(4, .int 0), (3, .ref k2), (0, .ref xo), (1, .int a1), (2, .int a2)]) hx hb dB_36_2_31.2.2.1.2 hl (by decide) rfl (fun ls hl => ?_)
                refine lv_aload_n hx hb dB_36_2_31.2.2.2.1 rfl (lv_at hl 2 rfl) ?_
                refine lv_dup hx hb dB_36_2_31.2.2.2.2 rfl ?_
                refine va_get (ci := 11) (v := .long tr) (C := RX11) (T := TX11) (N := 12) hx hb hts (fun _ h => List.mem_cons_of_mem _ (List.mem_append_left _ (List.mem_append_right _ h))) hown hK.1 hP 0 rfl rfl 10 (by decide) (hts (.fieldLink RX11 87 "CutAtlas" "traced" "J") (List.mem_of_getElem? (i := 4) rfl)) (fun _ h9 => h9) rfl dB_36_2_32.1.1.1.1 ?_
                refine lv_aload_n hx hb dB_36_2_32.1.1.1.2 rfl (lv_at hl 1 rfl) ?_
                refine lv_iload hx hb dB_36_2_32.1.1.2.1 (lv_at hl 0 rfl) ?_
                refine ct_R hP hD [] [] (by decide) rfl (fun hPc hDw => ?_)
                have hFc := va_free (wc := []) hD hS hA [] rfl
                refine va_calli (va_runU (As := [.int 0]) (rest := [.long tr, .ref xo]) ⟨hx, hb, hml, hown, hts⟩ (c_X9_letsMark l D cy H.size k2 (0 : Int32)) (va_cwO 1 hts gX11_ask_X9_letsMark_u161X9 rfl rfl rfl (b0 := cX6_letsMark) (m0 := 2) (r0 := (some .int)) (by decide +kernel) (by decide +kernel) ⟨Nat.le_of_ble_eq_true rfl, Nat.le_of_ble_eq_true rfl⟩) ⟨bl_, va_recvX hK.1 hP (ci := 9) (q0 := 8) rfl rfl, fun U hU hW => ⟨rfl, by rw [hU], by rw [hU]; exact hPc, kk_mv hW hK, hDw⟩⟩ rfl rfl hl.1 rfl (lv_room (Nat.le_of_ble_eq_true rfl)) dB_36_2_32.1.1.2.2 ⟨Nat.le_of_ble_eq_true rfl, Nat.le_of_ble_eq_true rfl⟩) hS (fun q _ h => hFc q h) hFc (fun r_44 u t H locs ht hvm hw hB hz1 hk1 hS => ?_)
                have hP : va_P D vwCl _ H := ro_keep hP hk1
                refine lv_i2l (v := r_44.toInt64) hx hb dB_36_2_32.1.2.1.1 rfl ?_
                have q_92 : (r_44.toInt64).toInt = r_44.toInt := Int32.toInt_toInt64 r_44
                refine lv_ladd hx hb dB_36_2_32.1.2.1.2 ?_
                refine lv_topl (fun y_45 ey_45 => ?_)
                refine va_put (ci := 11) (v := .long y_45) (ty := .long) (C := RX11) (T := TX11) (N := 12) hx hb hts (fun _ h => List.mem_cons_of_mem _ (List.mem_append_left _ (List.mem_append_right _ h))) tyX11 tyX11_ok nmX11 hown hK.1 hP hD hS 0 rfl rfl 10 (by decide) (hts (.fieldLink RX11 87 "CutAtlas" "traced" "J") (List.mem_of_getElem? (i := 4) rfl)) (fun _ h9 => h9) rfl (by decide +kernel) rfl rfl (Nat.le_of_ble_eq_true rfl) dB_36_2_32.1.2.2.1 (fun H locs hP hD hS => ?_)
                refine pd_K [ob11_0_ xo xk xn xc xh xt xw xm xp pf ph y_45 fi, ob3_0_ xn vp vn n1 n2 n3 n4 n5, ai_ cy n1 40 fk, ai_ cy n4 40 fw, ai_ cy n5 40 fp, aq_ cy 3 xk 5 (kf_ k0 k1 k2 k3 k4), ob6_0_ k0, ob5_0_ k1, ob9_0_ k2, ob2_0_ k3, ob8_0_ k4] hP hD (fun hP hD => ?_)
                refine lv_aload_n hx hb dB_36_2_32.1.2.2.2 rfl (lv_at hl 1 rfl) ?_
                refine lv_aload_n hx hb dB_36_2_32.2.1.1.1 rfl (lv_at hl 2 rfl) ?_
                refine va_get (ci := 11) (v := .ref xn) (C := RX11) (T := TX11) (N := 12) hx hb hts (fun _ h => List.mem_cons_of_mem _ (List.mem_append_left _ (List.mem_append_right _ h))) hown hK.1 hP 0 rfl rfl 1 (by decide) (hts (.fieldLink RX11 31 "CutAtlas" "net" "LCutAtlas$Net;") (List.mem_of_getElem? (i := 1) rfl)) (fun _ h9 => h9) rfl dB_36_2_32.2.1.1.2 ?_
                refine va_get (ci := 3) (v := .ref n4) (C := RX3) (T := TX3) (N := 7) hx hb hts (fun _ h => List.mem_cons_of_mem _ (List.mem_append_right _ h)) hown hK.1 hP 1 rfl rfl 5 (by decide) (hts (.fieldLink RX11 129 "CutAtlas$Net" "widths" "[I") (List.mem_of_getElem? (i := 6) rfl)) (fun _ h9 => h9) rfl dB_36_2_32.2.1.2.1 ?_
                refine lv_iload_n hx hb dB_36_2_32.2.1.2.2 rfl (lv_at hl 3 rfl) ?_
                refine va_iald hx hb hK.1 hP 3 0 rfl rfl (i := a1) h_6 dB_36_2_32.2.2.1.1 ?_
                refine lv_topi (fun y_47 ey_47 => ?_)
                have ky_47 : y_47.toInt = (fw a1.toNatClampNeg).toInt := by rw [ey_47]
                refine lv_iload hx hb dB_36_2_32.2.2.1.2 (lv_at hl 0 rfl) ?_
                refine ct_R hP hD [] [] (by decide) rfl (fun hPc hDw => ?_)
                have hFc := va_free (wc := []) hD hS hA [] rfl
                refine va_calli (va_runU (As := [.int y_47, .int 0]) (rest := []) ⟨hx, hb, hml, hown, hts⟩ (c_X9_lets2 l D cy H.size k2 y_47 (0 : Int32)) (va_cwO 2 hts gX11_ask_X9_lets_u165X9 rfl rfl rfl (b0 := cX6_lets) (m0 := 3) (r0 := (some .int)) (by decide +kernel) (by decide +kernel) ⟨Nat.le_of_ble_eq_true rfl, Nat.le_of_ble_eq_true rfl⟩) ⟨bl_, va_recvX hK.1 hP (ci := 9) (q0 := 8) rfl rfl, fun U hU hW => ⟨rfl, by rw [hU], by rw [hU]; exact hPc, kk_mv hW hK, hDw⟩⟩ rfl rfl hl.1 rfl (lv_room (Nat.le_of_ble_eq_true rfl)) dB_36_2_32.2.2.2.1 ⟨Nat.le_of_ble_eq_true rfl, Nat.le_of_ble_eq_true rfl⟩) hS (fun q _ h => hFc q h) hFc (fun r_48 u t H locs ht hvm hw hB hz1 hk1 hS => ?_)
                have hP : va_P D vwCl _ H := ro_keep hP hk1
                have f0_r_48 := hw
                rw [hQ]
                exact W.iret (v := r_48) hx hb hr (fun t ht hW => ⟨⟨r_48, (), rfl, (by unfold akI; (repeat' (first | with_reducible refine if_n (by omega) ?_ | with_reducible refine if_ns (by omega) ?_ | with_reducible refine if_nz (by omega) ?_ | with_reducible exact if_p (by omega) (by omega) | with_reducible exact if_ps (by omega) (by omega) | with_reducible exact if_pz (by omega) (by omega))) <;> omega), y_45, by rw [ht]; exact hP, hD⟩, hS.F ht⟩) hS.2.2 dB_36_2_32.2.2.2.2
              · have t_43 : a2.toInt = (0 : Int32).toInt := congrArg Int32.toInt c_43
                refine lv_iconst (v := 1) hx hb dB_36_2_31.2.1.2.1 (by decide) ?_
                refine lv_goto (tgt := 79) hx hb dB_36_2_31.2.1.2.2 (by decide) ?_
                refine lv_istore (lv' := [(4, .int 1), (3, .ref k2), (0, .ref xo), (1, .int a1), (2, .int a2)]) hx hb dB_36_2_31.2.2.1.2 hl (by decide) rfl (fun ls hl => ?_)
                refine lv_aload_n hx hb dB_36_2_31.2.2.2.1 rfl (lv_at hl 2 rfl) ?_
                refine lv_dup hx hb dB_36_2_31.2.2.2.2 rfl ?_
                refine va_get (ci := 11) (v := .long tr) (C := RX11) (T := TX11) (N := 12) hx hb hts (fun _ h => List.mem_cons_of_mem _ (List.mem_append_left _ (List.mem_append_right _ h))) hown hK.1 hP 0 rfl rfl 10 (by decide) (hts (.fieldLink RX11 87 "CutAtlas" "traced" "J") (List.mem_of_getElem? (i := 4) rfl)) (fun _ h9 => h9) rfl dB_36_2_32.1.1.1.1 ?_
                refine lv_aload_n hx hb dB_36_2_32.1.1.1.2 rfl (lv_at hl 1 rfl) ?_
                refine lv_iload hx hb dB_36_2_32.1.1.2.1 (lv_at hl 0 rfl) ?_
                refine ct_R hP hD [] [] (by decide) rfl (fun hPc hDw => ?_)
                have hFc := va_free (wc := []) hD hS hA [] rfl
                refine va_calli (va_runU (As := [.int 1]) (rest := [.long tr, .ref xo]) ⟨hx, hb, hml, hown, hts⟩ (c_X9_letsMark l D cy H.size k2 (1 : Int32)) (va_cwO 1 hts gX11_ask_X9_letsMark_u161X9 rfl rfl rfl (b0 := cX6_letsMark) (m0 := 2) (r0 := (some .int)) (by decide +kernel) (by decide +kernel) ⟨Nat.le_of_ble_eq_true rfl, Nat.le_of_ble_eq_true rfl⟩) ⟨bl_, va_recvX hK.1 hP (ci := 9) (q0 := 8) rfl rfl, fun U hU hW => ⟨rfl, by rw [hU], by rw [hU]; exact hPc, kk_mv hW hK, hDw⟩⟩ rfl rfl hl.1 rfl (lv_room (Nat.le_of_ble_eq_true rfl)) dB_36_2_32.1.1.2.2 ⟨Nat.le_of_ble_eq_true rfl, Nat.le_of_ble_eq_true rfl⟩) hS (fun q _ h => hFc q h) hFc (fun r_49 u t H locs ht hvm hw hB hz1 hk1 hS => ?_)
                have hP : va_P D vwCl _ H := ro_keep hP hk1
                refine lv_i2l (v := r_49.toInt64) hx hb dB_36_2_32.1.2.1.1 rfl ?_
                have q_92 : (r_49.toInt64).toInt = r_49.toInt := Int32.toInt_toInt64 r_49
                refine lv_ladd hx hb dB_36_2_32.1.2.1.2 ?_
                refine lv_topl (fun y_50 ey_50 => ?_)
                refine va_put (ci := 11) (v := .long y_50) (ty := .long) (C := RX11) (T := TX11) (N := 12) hx hb hts (fun _ h => List.mem_cons_of_mem _ (List.mem_append_left _ (List.mem_append_right _ h))) tyX11 tyX11_ok nmX11 hown hK.1 hP hD hS 0 rfl rfl 10 (by decide) (hts (.fieldLink RX11 87 "CutAtlas" "traced" "J") (List.mem_of_getElem? (i := 4) rfl)) (fun _ h9 => h9) rfl (by decide +kernel) rfl rfl (Nat.le_of_ble_eq_true rfl) dB_36_2_32.1.2.2.1 (fun H locs hP hD hS => ?_)
                refine pd_K [ob11_0_ xo xk xn xc xh xt xw xm xp pf ph y_50 fi, ob3_0_ xn vp vn n1 n2 n3 n4 n5, ai_ cy n1 40 fk, ai_ cy n4 40 fw, ai_ cy n5 40 fp, aq_ cy 3 xk 5 (kf_ k0 k1 k2 k3 k4), ob6_0_ k0, ob5_0_ k1, ob9_0_ k2, ob2_0_ k3, ob8_0_ k4] hP hD (fun hP hD => ?_)
                refine lv_aload_n hx hb dB_36_2_32.1.2.2.2 rfl (lv_at hl 1 rfl) ?_
                refine lv_aload_n hx hb dB_36_2_32.2.1.1.1 rfl (lv_at hl 2 rfl) ?_
                refine va_get (ci := 11) (v := .ref xn) (C := RX11) (T := TX11) (N := 12) hx hb hts (fun _ h => List.mem_cons_of_mem _ (List.mem_append_left _ (List.mem_append_right _ h))) hown hK.1 hP 0 rfl rfl 1 (by decide) (hts (.fieldLink RX11 31 "CutAtlas" "net" "LCutAtlas$Net;") (List.mem_of_getElem? (i := 1) rfl)) (fun _ h9 => h9) rfl dB_36_2_32.2.1.1.2 ?_
                refine va_get (ci := 3) (v := .ref n4) (C := RX3) (T := TX3) (N := 7) hx hb hts (fun _ h => List.mem_cons_of_mem _ (List.mem_append_right _ h)) hown hK.1 hP 1 rfl rfl 5 (by decide) (hts (.fieldLink RX11 129 "CutAtlas$Net" "widths" "[I") (List.mem_of_getElem? (i := 6) rfl)) (fun _ h9 => h9) rfl dB_36_2_32.2.1.2.1 ?_
                refine lv_iload_n hx hb dB_36_2_32.2.1.2.2 rfl (lv_at hl 3 rfl) ?_
                refine va_iald hx hb hK.1 hP 3 0 rfl rfl (i := a1) h_6 dB_36_2_32.2.2.1.1 ?_
                refine lv_topi (fun y_52 ey_52 => ?_)
                have ky_52 : y_52.toInt = (fw a1.toNatClampNeg).toInt := by rw [ey_52]
                refine lv_iload hx hb dB_36_2_32.2.2.1.2 (lv_at hl 0 rfl) ?_
                refine ct_R hP hD [] [] (by decide) rfl (fun hPc hDw => ?_)
                have hFc := va_free (wc := []) hD hS hA [] rfl
                refine va_calli (va_runU (As := [.int y_52, .int 1]) (rest := []) ⟨hx, hb, hml, hown, hts⟩ (c_X9_lets2 l D cy H.size k2 y_52 (1 : Int32)) (va_cwO 2 hts gX11_ask_X9_lets_u165X9 rfl rfl rfl (b0 := cX6_lets) (m0 := 3) (r0 := (some .int)) (by decide +kernel) (by decide +kernel) ⟨Nat.le_of_ble_eq_true rfl, Nat.le_of_ble_eq_true rfl⟩) ⟨bl_, va_recvX hK.1 hP (ci := 9) (q0 := 8) rfl rfl, fun U hU hW => ⟨rfl, by rw [hU], by rw [hU]; exact hPc, kk_mv hW hK, hDw⟩⟩ rfl rfl hl.1 rfl (lv_room (Nat.le_of_ble_eq_true rfl)) dB_36_2_32.2.2.2.1 ⟨Nat.le_of_ble_eq_true rfl, Nat.le_of_ble_eq_true rfl⟩) hS (fun q _ h => hFc q h) hFc (fun r_53 u t H locs ht hvm hw hB hz1 hk1 hS => ?_)
                have hP : va_P D vwCl _ H := ro_keep hP hk1
                have f0_r_53 := hw
                rw [hQ]
                exact W.iret (v := r_53) hx hb hr (fun t ht hW => ⟨⟨r_53, (), rfl, (by unfold akI; (repeat' (first | with_reducible refine if_n (by omega) ?_ | with_reducible refine if_ns (by omega) ?_ | with_reducible refine if_nz (by omega) ?_ | with_reducible exact if_p (by omega) (by omega) | with_reducible exact if_ps (by omega) (by omega) | with_reducible exact if_pz (by omega) (by omega))) <;> omega), y_50, by rw [ht]; exact hP, hD⟩, hS.F ht⟩) hS.2.2 dB_36_2_32.2.2.2.2
            · have t_42 : a2.toInt = (2 : Int32).toInt := congrArg Int32.toInt c_42
              refine lv_aload_n hx hb dB_36_2_30.2.1.1.1 rfl (lv_at hl 1 rfl) ?_
              refine lv_dup hx hb dB_36_2_30.2.1.1.2 rfl ?_
              refine va_get (ci := 11) (v := .long tr) (C := RX11) (T := TX11) (N := 12) hx hb hts (fun _ h => List.mem_cons_of_mem _ (List.mem_append_left _ (List.mem_append_right _ h))) hown hK.1 hP 0 rfl rfl 10 (by decide) (hts (.fieldLink RX11 87 "CutAtlas" "traced" "J") (List.mem_of_getElem? (i := 4) rfl)) (fun _ h9 => h9) rfl dB_36_2_30.2.1.2.1 ?_
              refine lv_aload_n hx hb dB_36_2_30.2.1.2.2 rfl (lv_at hl 0 rfl) ?_
              refine ct_R hP hD [] [] (by decide) rfl (fun hPc hDw => ?_)
              have hFc := va_free (wc := []) hD hS hA [] rfl
              refine va_calli (va_runU (As := []) (rest := [.long tr, .ref xo]) ⟨hx, hb, hml, hown, hts⟩ (c_X6_costsMark l D cy H.size k2) (va_cwU 0 hts gX11_ask_X6_costsMark_u132X9 rfl rfl rfl rfl (by decide +kernel) ⟨Nat.le_of_ble_eq_true rfl, Nat.le_of_ble_eq_true rfl⟩) ⟨bl_, va_recvX hK.1 hP (ci := 9) (q0 := 8) rfl rfl, fun U hU hW => ⟨rfl, by rw [hU], by rw [hU]; exact hPc, kk_mv hW hK, hDw⟩⟩ rfl rfl hl.1 rfl (lv_room (Nat.le_of_ble_eq_true rfl)) dB_36_2_30.2.2.1.1 ⟨Nat.le_of_ble_eq_true rfl, Nat.le_of_ble_eq_true rfl⟩) hS (fun q _ h => hFc q h) hFc (fun r_54 u t H locs ht hvm hw hB hz1 hk1 hS => ?_)
              have hP : va_P D vwCl _ H := ro_keep hP hk1
              refine lv_i2l (v := r_54.toInt64) hx hb dB_36_2_30.2.2.1.2 rfl ?_
              have q_51 : (r_54.toInt64).toInt = r_54.toInt := Int32.toInt_toInt64 r_54
              refine lv_ladd hx hb dB_36_2_30.2.2.2.1 ?_
              refine lv_topl (fun y_55 ey_55 => ?_)
              refine va_put (ci := 11) (v := .long y_55) (ty := .long) (C := RX11) (T := TX11) (N := 12) hx hb hts (fun _ h => List.mem_cons_of_mem _ (List.mem_append_left _ (List.mem_append_right _ h))) tyX11 tyX11_ok nmX11 hown hK.1 hP hD hS 0 rfl rfl 10 (by decide) (hts (.fieldLink RX11 87 "CutAtlas" "traced" "J") (List.mem_of_getElem? (i := 4) rfl)) (fun _ h9 => h9) rfl (by decide +kernel) rfl rfl (Nat.le_of_ble_eq_true rfl) dB_36_2_30.2.2.2.2 (fun H locs hP hD hS => ?_)
              refine pd_K [ob11_0_ xo xk xn xc xh xt xw xm xp pf ph y_55 fi, ob3_0_ xn vp vn n1 n2 n3 n4 n5, ai_ cy n1 40 fk, ai_ cy n4 40 fw, ai_ cy n5 40 fp, aq_ cy 3 xk 5 (kf_ k0 k1 k2 k3 k4), ob6_0_ k0, ob5_0_ k1, ob9_0_ k2, ob2_0_ k3, ob8_0_ k4] hP hD (fun hP hD => ?_)
              refine lv_aload_n hx hb dB_36_2_31.1.1.1.1 rfl (lv_at hl 0 rfl) ?_
              refine lv_aload_n hx hb dB_36_2_31.1.1.1.2 rfl (lv_at hl 1 rfl) ?_
              refine va_get (ci := 11) (v := .ref xn) (C := RX11) (T := TX11) (N := 12) hx hb hts (fun _ h => List.mem_cons_of_mem _ (List.mem_append_left _ (List.mem_append_right _ h))) hown hK.1 hP 0 rfl rfl 1 (by decide) (hts (.fieldLink RX11 31 "CutAtlas" "net" "LCutAtlas$Net;") (List.mem_of_getElem? (i := 1) rfl)) (fun _ h9 => h9) rfl dB_36_2_31.1.1.2.1 ?_
              refine va_get (ci := 3) (v := .ref n5) (C := RX3) (T := TX3) (N := 7) hx hb hts (fun _ h => List.mem_cons_of_mem _ (List.mem_append_right _ h)) hown hK.1 hP 1 rfl rfl 6 (by decide) (hts (.fieldLink RX11 119 "CutAtlas$Net" "prices" "[I") (List.mem_of_getElem? (i := 5) rfl)) (fun _ h9 => h9) rfl dB_36_2_31.1.1.2.2 ?_
              refine lv_iload_n hx hb dB_36_2_31.1.2.1.1 rfl (lv_at hl 2 rfl) ?_
              refine va_iald hx hb hK.1 hP 4 0 rfl rfl (i := a1) h_6 dB_36_2_31.1.2.1.2 ?_
              refine lv_topi (fun y_57 ey_57 => ?_)
              have ky_57 : y_57.toInt = (fp a1.toNatClampNeg).toInt := by rw [ey_57]
              have ry_57 : 0 ≤ y_57.toInt ∧ y_57.toInt ≤ 100 := by rw [ey_57]; exact r_fp _ (in_lt h_6)
              refine ct_R hP hD [] [] (by decide) rfl (fun hPc hDw => ?_)
              have hFc := va_free (wc := []) hD hS hA [] rfl
              refine va_calli (va_runU (As := [.int y_57]) (rest := []) ⟨hx, hb, hml, hown, hts⟩ (c_X6_costs2 l D cy H.size k2 y_57) (va_cwU 1 hts gX11_ask_X6_costs_u122X9 rfl rfl rfl rfl (by decide +kernel) ⟨Nat.le_of_ble_eq_true rfl, Nat.le_of_ble_eq_true rfl⟩) ⟨bl_, va_recvX hK.1 hP (ci := 9) (q0 := 8) rfl rfl, fun U hU hW => ⟨rfl, by rw [hU], by rw [hU]; exact hPc, kk_mv hW hK, hDw⟩⟩ rfl rfl hl.1 rfl (lv_room (Nat.le_of_ble_eq_true rfl)) dB_36_2_31.1.2.2.1 ⟨Nat.le_of_ble_eq_true rfl, Nat.le_of_ble_eq_true rfl⟩) hS (fun q _ h => hFc q h) hFc (fun r_58 u t H locs ht hvm hw hB hz1 hk1 hS => ?_)
              have hP : va_P D vwCl _ H := ro_keep hP hk1
              obtain ⟨f0_r_58, f1_r_58⟩ := hw
              rw [hQ]
              exact W.iret (v := r_58) hx hb hr (fun t ht hW => ⟨⟨r_58, (), rfl, (by unfold akI; (repeat' (first | with_reducible refine if_n (by omega) ?_ | with_reducible refine if_ns (by omega) ?_ | with_reducible refine if_nz (by omega) ?_ | with_reducible exact if_p (by omega) (by omega) | with_reducible exact if_ps (by omega) (by omega) | with_reducible exact if_pz (by omega) (by omega))) <;> omega), y_55, by rw [ht]; exact hP, hD⟩, hS.F ht⟩) hS.2.2 dB_36_2_31.1.2.2.2
          · refine va_aldq hx hb hK.1 hP 5 3 rfl rfl (i := 3) (by unfold vp_in; decide) dB_36_2_30.1.1.2.2 ?_
            refine lv_topv (v' := .ref k3) (by simp [va_up, va_rf, mf_, cl_0, cl_1, cl_2, cl_3, cl_4, kf_]) ?_
            refine lv_astore_n (lv' := [(3, .ref k3), (0, .ref xo), (1, .int a1), (2, .int a2)]) hx hb dB_36_2_30.1.2.1.1 rfl hl (by decide) rfl (fun ls hl => ?_)
            refine lv_iload_n hx hb dB_36_2_30.1.2.1.2 rfl (lv_at hl 3 rfl) ?_
            refine lv_iconst (v := 2) hx hb dB_36_2_30.1.2.2.1 (by decide) ?_
            refine lv_icmp_ne (tgt := 70) hx hb dB_36_2_30.1.2.2.2 (by decide) (fun c_59 => ?_) (fun c_59 => ?_)
            · have t_59 : ¬ a2.toInt = (2 : Int32).toInt := fun h => c_59 (Int32.toInt_inj.mp h)
              refine lv_iload_n hx hb dB_36_2_31.2.1.1.1 rfl (lv_at hl 3 rfl) ?_
              refine lv_if_ne (tgt := 78) hx hb dB_36_2_31.2.1.1.2 (by decide) (fun c_60 => ?_) (fun c_60 => ?_)
              · have t_60 : ¬ a2.toInt = (0 : Int32).toInt := fun h => c_60 (Int32.toInt_inj.mp h)
                refine lv_iconst (v := 0) hx hb dB_36_2_31.2.2.1.1 (by decide) ?_
                refine lv_istore (lv' := [(4, .int 0), (3, .ref k3), (0, .ref xo), (1, .int a1), (2, .int a2)]) hx hb dB_36_2_31.2.2.1.2 hl (by decide) rfl (fun ls hl => ?_)
                refine lv_aload_n hx hb dB_36_2_31.2.2.2.1 rfl (lv_at hl 2 rfl) ?_
                refine lv_dup hx hb dB_36_2_31.2.2.2.2 rfl ?_
                refine va_get (ci := 11) (v := .long tr) (C := RX11) (T := TX11) (N := 12) hx hb hts (fun _ h => List.mem_cons_of_mem _ (List.mem_append_left _ (List.mem_append_right _ h))) hown hK.1 hP 0 rfl rfl 10 (by decide) (hts (.fieldLink RX11 87 "CutAtlas" "traced" "J") (List.mem_of_getElem? (i := 4) rfl)) (fun _ h9 => h9) rfl dB_36_2_32.1.1.1.1 ?_
                refine lv_aload_n hx hb dB_36_2_32.1.1.1.2 rfl (lv_at hl 1 rfl) ?_
                refine lv_iload hx hb dB_36_2_32.1.1.2.1 (lv_at hl 0 rfl) ?_
                refine ct_R hP hD [] [] (by decide) rfl (fun hPc hDw => ?_)
                have hFc := va_free (wc := []) hD hS hA [] rfl
                refine va_calli (va_runU (As := [.int 0]) (rest := [.long tr, .ref xo]) ⟨hx, hb, hml, hown, hts⟩ (c_X6_letsMark l D cy H.size k3 (0 : Int32)) (va_cwU 1 hts gX11_ask_X6_letsMark_u161X2 rfl rfl rfl rfl (by decide +kernel) ⟨Nat.le_of_ble_eq_true rfl, Nat.le_of_ble_eq_true rfl⟩) ⟨bl_, va_recvX hK.1 hP (ci := 2) (q0 := 9) rfl rfl, fun U hU hW => ⟨rfl, by rw [hU], by rw [hU]; exact hPc, kk_mv hW hK, hDw⟩⟩ rfl rfl hl.1 rfl (lv_room (Nat.le_of_ble_eq_true rfl)) dB_36_2_32.1.1.2.2 ⟨Nat.le_of_ble_eq_true rfl, Nat.le_of_ble_eq_true rfl⟩) hS (fun q _ h => hFc q h) hFc (fun r_61 u t H locs ht hvm hw hB hz1 hk1 hS => ?_)
                have hP : va_P D vwCl _ H := ro_keep hP hk1
                refine lv_i2l (v := r_61.toInt64) hx hb dB_36_2_32.1.2.1.1 rfl ?_
                have q_92 : (r_61.toInt64).toInt = r_61.toInt := Int32.toInt_toInt64 r_61
                refine lv_ladd hx hb dB_36_2_32.1.2.1.2 ?_
                refine lv_topl (fun y_62 ey_62 => ?_)
                refine va_put (ci := 11) (v := .long y_62) (ty := .long) (C := RX11) (T := TX11) (N := 12) hx hb hts (fun _ h => List.mem_cons_of_mem _ (List.mem_append_left _ (List.mem_append_right _ h))) tyX11 tyX11_ok nmX11 hown hK.1 hP hD hS 0 rfl rfl 10 (by decide) (hts (.fieldLink RX11 87 "CutAtlas" "traced" "J") (List.mem_of_getElem? (i := 4) rfl)) (fun _ h9 => h9) rfl (by decide +kernel) rfl rfl (Nat.le_of_ble_eq_true rfl) dB_36_2_32.1.2.2.1 (fun H locs hP hD hS => ?_)
                refine pd_K [ob11_0_ xo xk xn xc xh xt xw xm xp pf ph y_62 fi, ob3_0_ xn vp vn n1 n2 n3 n4 n5, ai_ cy n1 40 fk, ai_ cy n4 40 fw, ai_ cy n5 40 fp, aq_ cy 3 xk 5 (kf_ k0 k1 k2 k3 k4), ob6_0_ k0, ob5_0_ k1, ob9_0_ k2, ob2_0_ k3, ob8_0_ k4] hP hD (fun hP hD => ?_)
                refine lv_aload_n hx hb dB_36_2_32.1.2.2.2 rfl (lv_at hl 1 rfl) ?_
                refine lv_aload_n hx hb dB_36_2_32.2.1.1.1 rfl (lv_at hl 2 rfl) ?_
                refine va_get (ci := 11) (v := .ref xn) (C := RX11) (T := TX11) (N := 12) hx hb hts (fun _ h => List.mem_cons_of_mem _ (List.mem_append_left _ (List.mem_append_right _ h))) hown hK.1 hP 0 rfl rfl 1 (by decide) (hts (.fieldLink RX11 31 "CutAtlas" "net" "LCutAtlas$Net;") (List.mem_of_getElem? (i := 1) rfl)) (fun _ h9 => h9) rfl dB_36_2_32.2.1.1.2 ?_
                refine va_get (ci := 3) (v := .ref n4) (C := RX3) (T := TX3) (N := 7) hx hb hts (fun _ h => List.mem_cons_of_mem _ (List.mem_append_right _ h)) hown hK.1 hP 1 rfl rfl 5 (by decide) (hts (.fieldLink RX11 129 "CutAtlas$Net" "widths" "[I") (List.mem_of_getElem? (i := 6) rfl)) (fun _ h9 => h9) rfl dB_36_2_32.2.1.2.1 ?_
                refine lv_iload_n hx hb dB_36_2_32.2.1.2.2 rfl (lv_at hl 3 rfl) ?_
                refine va_iald hx hb hK.1 hP 3 0 rfl rfl (i := a1) h_6 dB_36_2_32.2.2.1.1 ?_
                refine lv_topi (fun y_64 ey_64 => ?_)
                have ky_64 : y_64.toInt = (fw a1.toNatClampNeg).toInt := by rw [ey_64]
                refine lv_iload hx hb dB_36_2_32.2.2.1.2 (lv_at hl 0 rfl) ?_
                refine ct_R hP hD [] [] (by decide) rfl (fun hPc hDw => ?_)
                have hFc := va_free (wc := []) hD hS hA [] rfl
                refine va_calli (va_runU (As := [.int y_64, .int 0]) (rest := []) ⟨hx, hb, hml, hown, hts⟩ (c_X6_lets2 l D cy H.size k3 y_64 (0 : Int32)) (va_cwU 2 hts gX11_ask_X6_lets_u165X2 rfl rfl rfl rfl (by decide +kernel) ⟨Nat.le_of_ble_eq_true rfl, Nat.le_of_ble_eq_true rfl⟩) ⟨bl_, va_recvX hK.1 hP (ci := 2) (q0 := 9) rfl rfl, fun U hU hW => ⟨rfl, by rw [hU], by rw [hU]; exact hPc, kk_mv hW hK, hDw⟩⟩ rfl rfl hl.1 rfl (lv_room (Nat.le_of_ble_eq_true rfl)) dB_36_2_32.2.2.2.1 ⟨Nat.le_of_ble_eq_true rfl, Nat.le_of_ble_eq_true rfl⟩) hS (fun q _ h => hFc q h) hFc (fun r_65 u t H locs ht hvm hw hB hz1 hk1 hS => ?_)
                have hP : va_P D vwCl _ H := ro_keep hP hk1
                obtain ⟨f0_r_65, f1_r_65⟩ := hw
                rw [hQ]
                exact W.iret (v := r_65) hx hb hr (fun t ht hW => ⟨⟨r_65, (), rfl, (by unfold akI; (repeat' (first | with_reducible refine if_n (by omega) ?_ | with_reducible refine if_ns (by omega) ?_ | with_reducible refine if_nz (by omega) ?_ | with_reducible exact if_p (by omega) (by omega) | with_reducible exact if_ps (by omega) (by omega) | with_reducible exact if_pz (by omega) (by omega))) <;> omega), y_62, by rw [ht]; exact hP, hD⟩, hS.F ht⟩) hS.2.2 dB_36_2_32.2.2.2.2
              · have t_60 : a2.toInt = (0 : Int32).toInt := congrArg Int32.toInt c_60
                refine lv_iconst (v := 1) hx hb dB_36_2_31.2.1.2.1 (by decide) ?_
                refine lv_goto (tgt := 79) hx hb dB_36_2_31.2.1.2.2 (by decide) ?_
                refine lv_istore (lv' := [(4, .int 1), (3, .ref k3), (0, .ref xo), (1, .int a1), (2, .int a2)]) hx hb dB_36_2_31.2.2.1.2 hl (by decide) rfl (fun ls hl => ?_)
                refine lv_aload_n hx hb dB_36_2_31.2.2.2.1 rfl (lv_at hl 2 rfl) ?_
                refine lv_dup hx hb dB_36_2_31.2.2.2.2 rfl ?_
                refine va_get (ci := 11) (v := .long tr) (C := RX11) (T := TX11) (N := 12) hx hb hts (fun _ h => List.mem_cons_of_mem _ (List.mem_append_left _ (List.mem_append_right _ h))) hown hK.1 hP 0 rfl rfl 10 (by decide) (hts (.fieldLink RX11 87 "CutAtlas" "traced" "J") (List.mem_of_getElem? (i := 4) rfl)) (fun _ h9 => h9) rfl dB_36_2_32.1.1.1.1 ?_
                refine lv_aload_n hx hb dB_36_2_32.1.1.1.2 rfl (lv_at hl 1 rfl) ?_
                refine lv_iload hx hb dB_36_2_32.1.1.2.1 (lv_at hl 0 rfl) ?_
                refine ct_R hP hD [] [] (by decide) rfl (fun hPc hDw => ?_)
                have hFc := va_free (wc := []) hD hS hA [] rfl
                refine va_calli (va_runU (As := [.int 1]) (rest := [.long tr, .ref xo]) ⟨hx, hb, hml, hown, hts⟩ (c_X6_letsMark l D cy H.size k3 (1 : Int32)) (va_cwU 1 hts gX11_ask_X6_letsMark_u161X2 rfl rfl rfl rfl (by decide +kernel) ⟨Nat.le_of_ble_eq_true rfl, Nat.le_of_ble_eq_true rfl⟩) ⟨bl_, va_recvX hK.1 hP (ci := 2) (q0 := 9) rfl rfl, fun U hU hW => ⟨rfl, by rw [hU], by rw [hU]; exact hPc, kk_mv hW hK, hDw⟩⟩ rfl rfl hl.1 rfl (lv_room (Nat.le_of_ble_eq_true rfl)) dB_36_2_32.1.1.2.2 ⟨Nat.le_of_ble_eq_true rfl, Nat.le_of_ble_eq_true rfl⟩) hS (fun q _ h => hFc q h) hFc (fun r_66 u t H locs ht hvm hw hB hz1 hk1 hS => ?_)
                have hP : va_P D vwCl _ H := ro_keep hP hk1
                refine lv_i2l (v := r_66.toInt64) hx hb dB_36_2_32.1.2.1.1 rfl ?_
                have q_92 : (r_66.toInt64).toInt = r_66.toInt := Int32.toInt_toInt64 r_66
                refine lv_ladd hx hb dB_36_2_32.1.2.1.2 ?_
                refine lv_topl (fun y_67 ey_67 => ?_)
                refine va_put (ci := 11) (v := .long y_67) (ty := .long) (C := RX11) (T := TX11) (N := 12) hx hb hts (fun _ h => List.mem_cons_of_mem _ (List.mem_append_left _ (List.mem_append_right _ h))) tyX11 tyX11_ok nmX11 hown hK.1 hP hD hS 0 rfl rfl 10 (by decide) (hts (.fieldLink RX11 87 "CutAtlas" "traced" "J") (List.mem_of_getElem? (i := 4) rfl)) (fun _ h9 => h9) rfl (by decide +kernel) rfl rfl (Nat.le_of_ble_eq_true rfl) dB_36_2_32.1.2.2.1 (fun H locs hP hD hS => ?_)
                refine pd_K [ob11_0_ xo xk xn xc xh xt xw xm xp pf ph y_67 fi, ob3_0_ xn vp vn n1 n2 n3 n4 n5, ai_ cy n1 40 fk, ai_ cy n4 40 fw, ai_ cy n5 40 fp, aq_ cy 3 xk 5 (kf_ k0 k1 k2 k3 k4), ob6_0_ k0, ob5_0_ k1, ob9_0_ k2, ob2_0_ k3, ob8_0_ k4] hP hD (fun hP hD => ?_)
                refine lv_aload_n hx hb dB_36_2_32.1.2.2.2 rfl (lv_at hl 1 rfl) ?_
                refine lv_aload_n hx hb dB_36_2_32.2.1.1.1 rfl (lv_at hl 2 rfl) ?_
                refine va_get (ci := 11) (v := .ref xn) (C := RX11) (T := TX11) (N := 12) hx hb hts (fun _ h => List.mem_cons_of_mem _ (List.mem_append_left _ (List.mem_append_right _ h))) hown hK.1 hP 0 rfl rfl 1 (by decide) (hts (.fieldLink RX11 31 "CutAtlas" "net" "LCutAtlas$Net;") (List.mem_of_getElem? (i := 1) rfl)) (fun _ h9 => h9) rfl dB_36_2_32.2.1.1.2 ?_
                refine va_get (ci := 3) (v := .ref n4) (C := RX3) (T := TX3) (N := 7) hx hb hts (fun _ h => List.mem_cons_of_mem _ (List.mem_append_right _ h)) hown hK.1 hP 1 rfl rfl 5 (by decide) (hts (.fieldLink RX11 129 "CutAtlas$Net" "widths" "[I") (List.mem_of_getElem? (i := 6) rfl)) (fun _ h9 => h9) rfl dB_36_2_32.2.1.2.1 ?_
                refine lv_iload_n hx hb dB_36_2_32.2.1.2.2 rfl (lv_at hl 3 rfl) ?_
                refine va_iald hx hb hK.1 hP 3 0 rfl rfl (i := a1) h_6 dB_36_2_32.2.2.1.1 ?_
                refine lv_topi (fun y_69 ey_69 => ?_)
                have ky_69 : y_69.toInt = (fw a1.toNatClampNeg).toInt := by rw [ey_69]
                refine lv_iload hx hb dB_36_2_32.2.2.1.2 (lv_at hl 0 rfl) ?_
                refine ct_R hP hD [] [] (by decide) rfl (fun hPc hDw => ?_)
                have hFc := va_free (wc := []) hD hS hA [] rfl
                refine va_calli (va_runU (As := [.int y_69, .int 1]) (rest := []) ⟨hx, hb, hml, hown, hts⟩ (c_X6_lets2 l D cy H.size k3 y_69 (1 : Int32)) (va_cwU 2 hts gX11_ask_X6_lets_u165X2 rfl rfl rfl rfl (by decide +kernel) ⟨Nat.le_of_ble_eq_true rfl, Nat.le_of_ble_eq_true rfl⟩) ⟨bl_, va_recvX hK.1 hP (ci := 2) (q0 := 9) rfl rfl, fun U hU hW => ⟨rfl, by rw [hU], by rw [hU]; exact hPc, kk_mv hW hK, hDw⟩⟩ rfl rfl hl.1 rfl (lv_room (Nat.le_of_ble_eq_true rfl)) dB_36_2_32.2.2.2.1 ⟨Nat.le_of_ble_eq_true rfl, Nat.le_of_ble_eq_true rfl⟩) hS (fun q _ h => hFc q h) hFc (fun r_70 u t H locs ht hvm hw hB hz1 hk1 hS => ?_)
                have hP : va_P D vwCl _ H := ro_keep hP hk1
                obtain ⟨f0_r_70, f1_r_70⟩ := hw
                rw [hQ]
                exact W.iret (v := r_70) hx hb hr (fun t ht hW => ⟨⟨r_70, (), rfl, (by unfold akI; (repeat' (first | with_reducible refine if_n (by omega) ?_ | with_reducible refine if_ns (by omega) ?_ | with_reducible refine if_nz (by omega) ?_ | with_reducible exact if_p (by omega) (by omega) | with_reducible exact if_ps (by omega) (by omega) | with_reducible exact if_pz (by omega) (by omega))) <;> omega), y_67, by rw [ht]; exact hP, hD⟩, hS.F ht⟩) hS.2.2 dB_36_2_32.2.2.2.2
            · have t_59 : a2.toInt = (2 : Int32).toInt := congrArg Int32.toInt c_59
              refine lv_aload_n hx hb dB_36_2_30.2.1.1.1 rfl (lv_at hl 1 rfl) ?_
              refine lv_dup hx hb dB_36_2_30.2.1.1.2 rfl ?_
              refine va_get (ci := 11) (v := .long tr) (C := RX11) (T := TX11) (N := 12) hx hb hts (fun _ h => List.mem_cons_of_mem _ (List.mem_append_left _ (List.mem_append_right _ h))) hown hK.1 hP 0 rfl rfl 10 (by decide) (hts (.fieldLink RX11 87 "CutAtlas" "traced" "J") (List.mem_of_getElem? (i := 4) rfl)) (fun _ h9 => h9) rfl dB_36_2_30.2.1.2.1 ?_
              refine lv_aload_n hx hb dB_36_2_30.2.1.2.2 rfl (lv_at hl 0 rfl) ?_
              refine ct_R hP hD [] [] (by decide) rfl (fun hPc hDw => ?_)
              have hFc := va_free (wc := []) hD hS hA [] rfl
              refine va_calli (va_runU (As := []) (rest := [.long tr, .ref xo]) ⟨hx, hb, hml, hown, hts⟩ (c_X2_costsMark l D cy H.size k3) (va_cwO 0 hts gX11_ask_X2_costsMark_u132X2 rfl rfl rfl (b0 := cX6_costsMark) (m0 := 1) (r0 := (some .int)) (by decide +kernel) (by decide +kernel) ⟨Nat.le_of_ble_eq_true rfl, Nat.le_of_ble_eq_true rfl⟩) ⟨bl_, va_recvX hK.1 hP (ci := 2) (q0 := 9) rfl rfl, fun U hU hW => ⟨rfl, by rw [hU], by rw [hU]; exact hPc, kk_mv hW hK, hDw⟩⟩ rfl rfl hl.1 rfl (lv_room (Nat.le_of_ble_eq_true rfl)) dB_36_2_30.2.2.1.1 ⟨Nat.le_of_ble_eq_true rfl, Nat.le_of_ble_eq_true rfl⟩) hS (fun q _ h => hFc q h) hFc (fun r_71 u t H locs ht hvm hw hB hz1 hk1 hS => ?_)
              have hP : va_P D vwCl _ H := ro_keep hP hk1
              refine lv_i2l (v := r_71.toInt64) hx hb dB_36_2_30.2.2.1.2 rfl ?_
              have q_51 : (r_71.toInt64).toInt = r_71.toInt := Int32.toInt_toInt64 r_71
              refine lv_ladd hx hb dB_36_2_30.2.2.2.1 ?_
              refine lv_topl (fun y_72 ey_72 => ?_)
              refine va_put (ci := 11) (v := .long y_72) (ty := .long) (C := RX11) (T := TX11) (N := 12) hx hb hts (fun _ h => List.mem_cons_of_mem _ (List.mem_append_left _ (List.mem_append_right _ h))) tyX11 tyX11_ok nmX11 hown hK.1 hP hD hS 0 rfl rfl 10 (by decide) (hts (.fieldLink RX11 87 "CutAtlas" "traced" "J") (List.mem_of_getElem? (i := 4) rfl)) (fun _ h9 => h9) rfl (by decide +kernel) rfl rfl (Nat.le_of_ble_eq_true rfl) dB_36_2_30.2.2.2.2 (fun H locs hP hD hS => ?_)
              refine pd_K [ob11_0_ xo xk xn xc xh xt xw xm xp pf ph y_72 fi, ob3_0_ xn vp vn n1 n2 n3 n4 n5, ai_ cy n1 40 fk, ai_ cy n4 40 fw, ai_ cy n5 40 fp, aq_ cy 3 xk 5 (kf_ k0 k1 k2 k3 k4), ob6_0_ k0, ob5_0_ k1, ob9_0_ k2, ob2_0_ k3, ob8_0_ k4] hP hD (fun hP hD => ?_)
              refine lv_aload_n hx hb dB_36_2_31.1.1.1.1 rfl (lv_at hl 0 rfl) ?_
              refine lv_aload_n hx hb dB_36_2_31.1.1.1.2 rfl (lv_at hl 1 rfl) ?_
              refine va_get (ci := 11) (v := .ref xn) (C := RX11) (T := TX11) (N := 12) hx hb hts (fun _ h => List.mem_cons_of_mem _ (List.mem_append_left _ (List.mem_append_right _ h))) hown hK.1 hP 0 rfl rfl 1 (by decide) (hts (.fieldLink RX11 31 "CutAtlas" "net" "LCutAtlas$Net;") (List.mem_of_getElem? (i := 1) rfl)) (fun _ h9 => h9) rfl dB_36_2_31.1.1.2.1 ?_
              refine va_get (ci := 3) (v := .ref n5) (C := RX3) (T := TX3) (N := 7) hx hb hts (fun _ h => List.mem_cons_of_mem _ (List.mem_append_right _ h)) hown hK.1 hP 1 rfl rfl 6 (by decide) (hts (.fieldLink RX11 119 "CutAtlas$Net" "prices" "[I") (List.mem_of_getElem? (i := 5) rfl)) (fun _ h9 => h9) rfl dB_36_2_31.1.1.2.2 ?_
              refine lv_iload_n hx hb dB_36_2_31.1.2.1.1 rfl (lv_at hl 2 rfl) ?_
              refine va_iald hx hb hK.1 hP 4 0 rfl rfl (i := a1) h_6 dB_36_2_31.1.2.1.2 ?_
              refine lv_topi (fun y_74 ey_74 => ?_)
              have ky_74 : y_74.toInt = (fp a1.toNatClampNeg).toInt := by rw [ey_74]
              have ry_74 : 0 ≤ y_74.toInt ∧ y_74.toInt ≤ 100 := by rw [ey_74]; exact r_fp _ (in_lt h_6)
              refine ct_R hP hD [] [] (by decide) rfl (fun hPc hDw => ?_)
              have hFc := va_free (wc := []) hD hS hA [] rfl
              refine va_calli (va_runU (As := [.int y_74]) (rest := []) ⟨hx, hb, hml, hown, hts⟩ (c_X2_costs2 l D cy H.size k3 y_74) (va_cwO 1 hts gX11_ask_X2_costs_u122X2 rfl rfl rfl (b0 := cX6_costs) (m0 := 2) (r0 := (some .int)) (by decide +kernel) (by decide +kernel) ⟨Nat.le_of_ble_eq_true rfl, Nat.le_of_ble_eq_true rfl⟩) ⟨bl_, va_recvX hK.1 hP (ci := 2) (q0 := 9) rfl rfl, fun U hU hW => ⟨rfl, by rw [hU], by rw [hU]; exact hPc, kk_mv hW hK, hDw⟩⟩ rfl rfl hl.1 rfl (lv_room (Nat.le_of_ble_eq_true rfl)) dB_36_2_31.1.2.2.1 ⟨Nat.le_of_ble_eq_true rfl, Nat.le_of_ble_eq_true rfl⟩) hS (fun q _ h => hFc q h) hFc (fun r_75 u t H locs ht hvm hw hB hz1 hk1 hS => ?_)
              have hP : va_P D vwCl _ H := ro_keep hP hk1
              obtain ⟨f0_r_75, f1_r_75⟩ := hw
              rw [hQ]
              exact W.iret (v := r_75) hx hb hr (fun t ht hW => ⟨⟨r_75, (), rfl, (by unfold akI; (repeat' (first | with_reducible refine if_n (by omega) ?_ | with_reducible refine if_ns (by omega) ?_ | with_reducible refine if_nz (by omega) ?_ | with_reducible exact if_p (by omega) (by omega) | with_reducible exact if_ps (by omega) (by omega) | with_reducible exact if_pz (by omega) (by omega))) <;> omega), y_72, by rw [ht]; exact hP, hD⟩, hS.F ht⟩) hS.2.2 dB_36_2_31.1.2.2.2
          · refine va_aldq hx hb hK.1 hP 5 3 rfl rfl (i := 4) (by unfold vp_in; decide) dB_36_2_30.1.1.2.2 ?_
            refine lv_topv (v' := .ref k4) (by simp [va_up, va_rf, mf_, cl_0, cl_1, cl_2, cl_3, cl_4, kf_]) ?_
            refine lv_astore_n (lv' := [(3, .ref k4), (0, .ref xo), (1, .int a1), (2, .int a2)]) hx hb dB_36_2_30.1.2.1.1 rfl hl (by decide) rfl (fun ls hl => ?_)
            refine lv_iload_n hx hb dB_36_2_30.1.2.1.2 rfl (lv_at hl 3 rfl) ?_
            refine lv_iconst (v := 2) hx hb dB_36_2_30.1.2.2.1 (by decide) ?_
            refine lv_icmp_ne (tgt := 70) hx hb dB_36_2_30.1.2.2.2 (by decide) (fun c_76 => ?_) (fun c_76 => ?_)
            · have t_76 : ¬ a2.toInt = (2 : Int32).toInt := fun h => c_76 (Int32.toInt_inj.mp h)
              refine lv_iload_n hx hb dB_36_2_31.2.1.1.1 rfl (lv_at hl 3 rfl) ?_
              refine lv_if_ne (tgt := 78) hx hb dB_36_2_31.2.1.1.2 (by decide) (fun c_77 => ?_) (fun c_77 => ?_)
              · have t_77 : ¬ a2.toInt = (0 : Int32).toInt := fun h => c_77 (Int32.toInt_inj.mp h)
                refine lv_iconst (v := 0) hx hb dB_36_2_31.2.2.1.1 (by decide) ?_
                refine lv_istore (lv' := [(4, .int 0), (3, .ref k4), (0, .ref xo), (1, .int a1), (2, .int a2)]) hx hb dB_36_2_31.2.2.1.2 hl (by decide) rfl (fun ls hl => ?_)
                refine lv_aload_n hx hb dB_36_2_31.2.2.2.1 rfl (lv_at hl 2 rfl) ?_
                refine lv_dup hx hb dB_36_2_31.2.2.2.2 rfl ?_
                refine va_get (ci := 11) (v := .long tr) (C := RX11) (T := TX11) (N := 12) hx hb hts (fun _ h => List.mem_cons_of_mem _ (List.mem_append_left _ (List.mem_append_right _ h))) hown hK.1 hP 0 rfl rfl 10 (by decide) (hts (.fieldLink RX11 87 "CutAtlas" "traced" "J") (List.mem_of_getElem? (i := 4) rfl)) (fun _ h9 => h9) rfl dB_36_2_32.1.1.1.1 ?_
                refine lv_aload_n hx hb dB_36_2_32.1.1.1.2 rfl (lv_at hl 1 rfl) ?_
                refine lv_iload hx hb dB_36_2_32.1.1.2.1 (lv_at hl 0 rfl) ?_
                refine ct_R hP hD [] [] (by decide) rfl (fun hPc hDw => ?_)
                have hFc := va_free (wc := []) hD hS hA [] rfl
                refine va_calli (va_runU (As := [.int 0]) (rest := [.long tr, .ref xo]) ⟨hx, hb, hml, hown, hts⟩ (c_X6_letsMark l D cy H.size k4 (0 : Int32)) (va_cwU 1 hts gX11_ask_X6_letsMark_u161X8 rfl rfl rfl rfl (by decide +kernel) ⟨Nat.le_of_ble_eq_true rfl, Nat.le_of_ble_eq_true rfl⟩) ⟨bl_, va_recvX hK.1 hP (ci := 8) (q0 := 10) rfl rfl, fun U hU hW => ⟨rfl, by rw [hU], by rw [hU]; exact hPc, kk_mv hW hK, hDw⟩⟩ rfl rfl hl.1 rfl (lv_room (Nat.le_of_ble_eq_true rfl)) dB_36_2_32.1.1.2.2 ⟨Nat.le_of_ble_eq_true rfl, Nat.le_of_ble_eq_true rfl⟩) hS (fun q _ h => hFc q h) hFc (fun r_78 u t H locs ht hvm hw hB hz1 hk1 hS => ?_)
                have hP : va_P D vwCl _ H := ro_keep hP hk1
                refine lv_i2l (v := r_78.toInt64) hx hb dB_36_2_32.1.2.1.1 rfl ?_
                have q_92 : (r_78.toInt64).toInt = r_78.toInt := Int32.toInt_toInt64 r_78
                refine lv_ladd hx hb dB_36_2_32.1.2.1.2 ?_
                refine lv_topl (fun y_79 ey_79 => ?_)
                refine va_put (ci := 11) (v := .long y_79) (ty := .long) (C := RX11) (T := TX11) (N := 12) hx hb hts (fun _ h => List.mem_cons_of_mem _ (List.mem_append_left _ (List.mem_append_right _ h))) tyX11 tyX11_ok nmX11 hown hK.1 hP hD hS 0 rfl rfl 10 (by decide) (hts (.fieldLink RX11 87 "CutAtlas" "traced" "J") (List.mem_of_getElem? (i := 4) rfl)) (fun _ h9 => h9) rfl (by decide +kernel) rfl rfl (Nat.le_of_ble_eq_true rfl) dB_36_2_32.1.2.2.1 (fun H locs hP hD hS => ?_)
                refine pd_K [ob11_0_ xo xk xn xc xh xt xw xm xp pf ph y_79 fi, ob3_0_ xn vp vn n1 n2 n3 n4 n5, ai_ cy n1 40 fk, ai_ cy n4 40 fw, ai_ cy n5 40 fp, aq_ cy 3 xk 5 (kf_ k0 k1 k2 k3 k4), ob6_0_ k0, ob5_0_ k1, ob9_0_ k2, ob2_0_ k3, ob8_0_ k4] hP hD (fun hP hD => ?_)
                refine lv_aload_n hx hb dB_36_2_32.1.2.2.2 rfl (lv_at hl 1 rfl) ?_
                refine lv_aload_n hx hb dB_36_2_32.2.1.1.1 rfl (lv_at hl 2 rfl) ?_
                refine va_get (ci := 11) (v := .ref xn) (C := RX11) (T := TX11) (N := 12) hx hb hts (fun _ h => List.mem_cons_of_mem _ (List.mem_append_left _ (List.mem_append_right _ h))) hown hK.1 hP 0 rfl rfl 1 (by decide) (hts (.fieldLink RX11 31 "CutAtlas" "net" "LCutAtlas$Net;") (List.mem_of_getElem? (i := 1) rfl)) (fun _ h9 => h9) rfl dB_36_2_32.2.1.1.2 ?_
                refine va_get (ci := 3) (v := .ref n4) (C := RX3) (T := TX3) (N := 7) hx hb hts (fun _ h => List.mem_cons_of_mem _ (List.mem_append_right _ h)) hown hK.1 hP 1 rfl rfl 5 (by decide) (hts (.fieldLink RX11 129 "CutAtlas$Net" "widths" "[I") (List.mem_of_getElem? (i := 6) rfl)) (fun _ h9 => h9) rfl dB_36_2_32.2.1.2.1 ?_
                refine lv_iload_n hx hb dB_36_2_32.2.1.2.2 rfl (lv_at hl 3 rfl) ?_
                refine va_iald hx hb hK.1 hP 3 0 rfl rfl (i := a1) h_6 dB_36_2_32.2.2.1.1 ?_
                refine lv_topi (fun y_81 ey_81 => ?_)
                have ky_81 : y_81.toInt = (fw a1.toNatClampNeg).toInt := by rw [ey_81]
                refine lv_iload hx hb dB_36_2_32.2.2.1.2 (lv_at hl 0 rfl) ?_
                refine ct_R hP hD [] [] (by decide) rfl (fun hPc hDw => ?_)
                have hFc := va_free (wc := []) hD hS hA [] rfl
                refine va_calli (va_runU (As := [.int y_81, .int 0]) (rest := []) ⟨hx, hb, hml, hown, hts⟩ (c_X6_lets2 l D cy H.size k4 y_81 (0 : Int32)) (va_cwU 2 hts gX11_ask_X6_lets_u165X8 rfl rfl rfl rfl (by decide +kernel) ⟨Nat.le_of_ble_eq_true rfl, Nat.le_of_ble_eq_true rfl⟩) ⟨bl_, va_recvX hK.1 hP (ci := 8) (q0 := 10) rfl rfl, fun U hU hW => ⟨rfl, by rw [hU], by rw [hU]; exact hPc, kk_mv hW hK, hDw⟩⟩ rfl rfl hl.1 rfl (lv_room (Nat.le_of_ble_eq_true rfl)) dB_36_2_32.2.2.2.1 ⟨Nat.le_of_ble_eq_true rfl, Nat.le_of_ble_eq_true rfl⟩) hS (fun q _ h => hFc q h) hFc (fun r_82 u t H locs ht hvm hw hB hz1 hk1 hS => ?_)
                have hP : va_P D vwCl _ H := ro_keep hP hk1
                obtain ⟨f0_r_82, f1_r_82⟩ := hw
                rw [hQ]
                exact W.iret (v := r_82) hx hb hr (fun t ht hW => ⟨⟨r_82, (), rfl, (by unfold akI; (repeat' (first | with_reducible refine if_n (by omega) ?_ | with_reducible refine if_ns (by omega) ?_ | with_reducible refine if_nz (by omega) ?_ | with_reducible exact if_p (by omega) (by omega) | with_reducible exact if_ps (by omega) (by omega) | with_reducible exact if_pz (by omega) (by omega))) <;> omega), y_79, by rw [ht]; exact hP, hD⟩, hS.F ht⟩) hS.2.2 dB_36_2_32.2.2.2.2
              · have t_77 : a2.toInt = (0 : Int32).toInt := congrArg Int32.toInt c_77
                refine lv_iconst (v := 1) hx hb dB_36_2_31.2.1.2.1 (by decide) ?_
                refine lv_goto (tgt := 79) hx hb dB_36_2_31.2.1.2.2 (by decide) ?_
                refine lv_istore (lv' := [(4, .int 1), (3, .ref k4), (0, .ref xo), (1, .int a1), (2, .int a2)]) hx hb dB_36_2_31.2.2.1.2 hl (by decide) rfl (fun ls hl => ?_)
                refine lv_aload_n hx hb dB_36_2_31.2.2.2.1 rfl (lv_at hl 2 rfl) ?_
                refine lv_dup hx hb dB_36_2_31.2.2.2.2 rfl ?_
                refine va_get (ci := 11) (v := .long tr) (C := RX11) (T := TX11) (N := 12) hx hb hts (fun _ h => List.mem_cons_of_mem _ (List.mem_append_left _ (List.mem_append_right _ h))) hown hK.1 hP 0 rfl rfl 10 (by decide) (hts (.fieldLink RX11 87 "CutAtlas" "traced" "J") (List.mem_of_getElem? (i := 4) rfl)) (fun _ h9 => h9) rfl dB_36_2_32.1.1.1.1 ?_
                refine lv_aload_n hx hb dB_36_2_32.1.1.1.2 rfl (lv_at hl 1 rfl) ?_
                refine lv_iload hx hb dB_36_2_32.1.1.2.1 (lv_at hl 0 rfl) ?_
                refine ct_R hP hD [] [] (by decide) rfl (fun hPc hDw => ?_)
                have hFc := va_free (wc := []) hD hS hA [] rfl
                refine va_calli (va_runU (As := [.int 1]) (rest := [.long tr, .ref xo]) ⟨hx, hb, hml, hown, hts⟩ (c_X6_letsMark l D cy H.size k4 (1 : Int32)) (va_cwU 1 hts gX11_ask_X6_letsMark_u161X8 rfl rfl rfl rfl (by decide +kernel) ⟨Nat.le_of_ble_eq_true rfl, Nat.le_of_ble_eq_true rfl⟩) ⟨bl_, va_recvX hK.1 hP (ci := 8) (q0 := 10) rfl rfl, fun U hU hW => ⟨rfl, by rw [hU], by rw [hU]; exact hPc, kk_mv hW hK, hDw⟩⟩ rfl rfl hl.1 rfl (lv_room (Nat.le_of_ble_eq_true rfl)) dB_36_2_32.1.1.2.2 ⟨Nat.le_of_ble_eq_true rfl, Nat.le_of_ble_eq_true rfl⟩) hS (fun q _ h => hFc q h) hFc (fun r_83 u t H locs ht hvm hw hB hz1 hk1 hS => ?_)
                have hP : va_P D vwCl _ H := ro_keep hP hk1
                refine lv_i2l (v := r_83.toInt64) hx hb dB_36_2_32.1.2.1.1 rfl ?_
                have q_92 : (r_83.toInt64).toInt = r_83.toInt := Int32.toInt_toInt64 r_83
                refine lv_ladd hx hb dB_36_2_32.1.2.1.2 ?_
                refine lv_topl (fun y_84 ey_84 => ?_)
                refine va_put (ci := 11) (v := .long y_84) (ty := .long) (C := RX11) (T := TX11) (N := 12) hx hb hts (fun _ h => List.mem_cons_of_mem _ (List.mem_append_left _ (List.mem_append_right _ h))) tyX11 tyX11_ok nmX11 hown hK.1 hP hD hS 0 rfl rfl 10 (by decide) (hts (.fieldLink RX11 87 "CutAtlas" "traced" "J") (List.mem_of_getElem? (i := 4) rfl)) (fun _ h9 => h9) rfl (by decide +kernel) rfl rfl (Nat.le_of_ble_eq_true rfl) dB_36_2_32.1.2.2.1 (fun H locs hP hD hS => ?_)
                refine pd_K [ob11_0_ xo xk xn xc xh xt xw xm xp pf ph y_84 fi, ob3_0_ xn vp vn n1 n2 n3 n4 n5, ai_ cy n1 40 fk, ai_ cy n4 40 fw, ai_ cy n5 40 fp, aq_ cy 3 xk 5 (kf_ k0 k1 k2 k3 k4), ob6_0_ k0, ob5_0_ k1, ob9_0_ k2, ob2_0_ k3, ob8_0_ k4] hP hD (fun hP hD => ?_)
                refine lv_aload_n hx hb dB_36_2_32.1.2.2.2 rfl (lv_at hl 1 rfl) ?_
                refine lv_aload_n hx hb dB_36_2_32.2.1.1.1 rfl (lv_at hl 2 rfl) ?_
                refine va_get (ci := 11) (v := .ref xn) (C := RX11) (T := TX11) (N := 12) hx hb hts (fun _ h => List.mem_cons_of_mem _ (List.mem_append_left _ (List.mem_append_right _ h))) hown hK.1 hP 0 rfl rfl 1 (by decide) (hts (.fieldLink RX11 31 "CutAtlas" "net" "LCutAtlas$Net;") (List.mem_of_getElem? (i := 1) rfl)) (fun _ h9 => h9) rfl dB_36_2_32.2.1.1.2 ?_
                refine va_get (ci := 3) (v := .ref n4) (C := RX3) (T := TX3) (N := 7) hx hb hts (fun _ h => List.mem_cons_of_mem _ (List.mem_append_right _ h)) hown hK.1 hP 1 rfl rfl 5 (by decide) (hts (.fieldLink RX11 129 "CutAtlas$Net" "widths" "[I") (List.mem_of_getElem? (i := 6) rfl)) (fun _ h9 => h9) rfl dB_36_2_32.2.1.2.1 ?_
                refine lv_iload_n hx hb dB_36_2_32.2.1.2.2 rfl (lv_at hl 3 rfl) ?_
                refine va_iald hx hb hK.1 hP 3 0 rfl rfl (i := a1) h_6 dB_36_2_32.2.2.1.1 ?_
                refine lv_topi (fun y_86 ey_86 => ?_)
                have ky_86 : y_86.toInt = (fw a1.toNatClampNeg).toInt := by rw [ey_86]
                refine lv_iload hx hb dB_36_2_32.2.2.1.2 (lv_at hl 0 rfl) ?_
                refine ct_R hP hD [] [] (by decide) rfl (fun hPc hDw => ?_)
                have hFc := va_free (wc := []) hD hS hA [] rfl
                refine va_calli (va_runU (As := [.int y_86, .int 1]) (rest := []) ⟨hx, hb, hml, hown, hts⟩ (c_X6_lets2 l D cy H.size k4 y_86 (1 : Int32)) (va_cwU 2 hts gX11_ask_X6_lets_u165X8 rfl rfl rfl rfl (by decide +kernel) ⟨Nat.le_of_ble_eq_true rfl, Nat.le_of_ble_eq_true rfl⟩) ⟨bl_, va_recvX hK.1 hP (ci := 8) (q0 := 10) rfl rfl, fun U hU hW => ⟨rfl, by rw [hU], by rw [hU]; exact hPc, kk_mv hW hK, hDw⟩⟩ rfl rfl hl.1 rfl (lv_room (Nat.le_of_ble_eq_true rfl)) dB_36_2_32.2.2.2.1 ⟨Nat.le_of_ble_eq_true rfl, Nat.le_of_ble_eq_true rfl⟩) hS (fun q _ h => hFc q h) hFc (fun r_87 u t H locs ht hvm hw hB hz1 hk1 hS => ?_)
                have hP : va_P D vwCl _ H := ro_keep hP hk1
                obtain ⟨f0_r_87, f1_r_87⟩ := hw
                rw [hQ]
                exact W.iret (v := r_87) hx hb hr (fun t ht hW => ⟨⟨r_87, (), rfl, (by unfold akI; (repeat' (first | with_reducible refine if_n (by omega) ?_ | with_reducible refine if_ns (by omega) ?_ | with_reducible refine if_nz (by omega) ?_ | with_reducible exact if_p (by omega) (by omega) | with_reducible exact if_ps (by omega) (by omega) | with_reducible exact if_pz (by omega) (by omega))) <;> omega), y_84, by rw [ht]; exact hP, hD⟩, hS.F ht⟩) hS.2.2 dB_36_2_32.2.2.2.2
            · have t_76 : a2.toInt = (2 : Int32).toInt := congrArg Int32.toInt c_76
              refine lv_aload_n hx hb dB_36_2_30.2.1.1.1 rfl (lv_at hl 1 rfl) ?_
              refine lv_dup hx hb dB_36_2_30.2.1.1.2 rfl ?_
              refine va_get (ci := 11) (v := .long tr) (C := RX11) (T := TX11) (N := 12) hx hb hts (fun _ h => List.mem_cons_of_mem _ (List.mem_append_left _ (List.mem_append_right _ h))) hown hK.1 hP 0 rfl rfl 10 (by decide) (hts (.fieldLink RX11 87 "CutAtlas" "traced" "J") (List.mem_of_getElem? (i := 4) rfl)) (fun _ h9 => h9) rfl dB_36_2_30.2.1.2.1 ?_
              refine lv_aload_n hx hb dB_36_2_30.2.1.2.2 rfl (lv_at hl 0 rfl) ?_
              refine ct_R hP hD [ob8_0_ k4] [10] (by decide) rfl (fun hPc hDw => ?_)
              have hFc := va_free (wc := []) hD hS hA [] rfl
              refine va_calli (va_runU (As := []) (rest := [.long tr, .ref xo]) ⟨hx, hb, hml, hown, hts⟩ (c_X8_costsMark l D cy H.size k4) (va_cwO 0 hts gX11_ask_X8_costsMark_u132X8 rfl rfl rfl (b0 := cX6_costsMark) (m0 := 1) (r0 := (some .int)) (by decide +kernel) (by decide +kernel) ⟨Nat.le_of_ble_eq_true rfl, Nat.le_of_ble_eq_true rfl⟩) ⟨bl_, va_recvX hK.1 hP (ci := 8) (q0 := 10) rfl rfl, fun U hU hW => ⟨rfl, by rw [hU], by rw [hU]; exact hPc, kk_mv hW hK, hDw⟩⟩ rfl rfl hl.1 rfl (lv_room (Nat.le_of_ble_eq_true rfl)) dB_36_2_30.2.2.1.1 ⟨Nat.le_of_ble_eq_true rfl, Nat.le_of_ble_eq_true rfl⟩) hS (fun q _ h => hFc q h) hFc (fun r_88 u t H locs ht hvm hw hB hz1 hk1 hS => ?_)
              have hP : va_P D vwCl _ H := ro_keep hP hk1
              refine lv_i2l (v := r_88.toInt64) hx hb dB_36_2_30.2.2.1.2 rfl ?_
              have q_51 : (r_88.toInt64).toInt = r_88.toInt := Int32.toInt_toInt64 r_88
              refine lv_ladd hx hb dB_36_2_30.2.2.2.1 ?_
              refine lv_topl (fun y_89 ey_89 => ?_)
              refine va_put (ci := 11) (v := .long y_89) (ty := .long) (C := RX11) (T := TX11) (N := 12) hx hb hts (fun _ h => List.mem_cons_of_mem _ (List.mem_append_left _ (List.mem_append_right _ h))) tyX11 tyX11_ok nmX11 hown hK.1 hP hD hS 0 rfl rfl 10 (by decide) (hts (.fieldLink RX11 87 "CutAtlas" "traced" "J") (List.mem_of_getElem? (i := 4) rfl)) (fun _ h9 => h9) rfl (by decide +kernel) rfl rfl (Nat.le_of_ble_eq_true rfl) dB_36_2_30.2.2.2.2 (fun H locs hP hD hS => ?_)
              refine pd_K [ob11_0_ xo xk xn xc xh xt xw xm xp pf ph y_89 fi, ob3_0_ xn vp vn n1 n2 n3 n4 n5, ai_ cy n1 40 fk, ai_ cy n4 40 fw, ai_ cy n5 40 fp, aq_ cy 3 xk 5 (kf_ k0 k1 k2 k3 k4), ob6_0_ k0, ob5_0_ k1, ob9_0_ k2, ob2_0_ k3, ob8_0_ k4] hP hD (fun hP hD => ?_)
              refine lv_aload_n hx hb dB_36_2_31.1.1.1.1 rfl (lv_at hl 0 rfl) ?_
              refine lv_aload_n hx hb dB_36_2_31.1.1.1.2 rfl (lv_at hl 1 rfl) ?_
              refine va_get (ci := 11) (v := .ref xn) (C := RX11) (T := TX11) (N := 12) hx hb hts (fun _ h => List.mem_cons_of_mem _ (List.mem_append_left _ (List.mem_append_right _ h))) hown hK.1 hP 0 rfl rfl 1 (by decide) (hts (.fieldLink RX11 31 "CutAtlas" "net" "LCutAtlas$Net;") (List.mem_of_getElem? (i := 1) rfl)) (fun _ h9 => h9) rfl dB_36_2_31.1.1.2.1 ?_
              refine va_get (ci := 3) (v := .ref n5) (C := RX3) (T := TX3) (N := 7) hx hb hts (fun _ h => List.mem_cons_of_mem _ (List.mem_append_right _ h)) hown hK.1 hP 1 rfl rfl 6 (by decide) (hts (.fieldLink RX11 119 "CutAtlas$Net" "prices" "[I") (List.mem_of_getElem? (i := 5) rfl)) (fun _ h9 => h9) rfl dB_36_2_31.1.1.2.2 ?_
              refine lv_iload_n hx hb dB_36_2_31.1.2.1.1 rfl (lv_at hl 2 rfl) ?_
              refine va_iald hx hb hK.1 hP 4 0 rfl rfl (i := a1) h_6 dB_36_2_31.1.2.1.2 ?_
              refine lv_topi (fun y_91 ey_91 => ?_)
              have ky_91 : y_91.toInt = (fp a1.toNatClampNeg).toInt := by rw [ey_91]
              have ry_91 : 0 ≤ y_91.toInt ∧ y_91.toInt ≤ 100 := by rw [ey_91]; exact r_fp _ (in_lt h_6)
              refine ct_R hP hD [ob8_0_ k4] [10] (by decide) rfl (fun hPc hDw => ?_)
              have hFc := va_free (wc := []) hD hS hA [] rfl
              refine va_calli (va_runU (As := [.int y_91]) (rest := []) ⟨hx, hb, hml, hown, hts⟩ (c_X8_costs2 l D cy H.size k4 y_91 (by first | with_reducible assumption | omega | assumption)) (va_cwO 1 hts gX11_ask_X8_costs_u122X8 rfl rfl rfl (b0 := cX6_costs) (m0 := 2) (r0 := (some .int)) (by decide +kernel) (by decide +kernel) ⟨Nat.le_of_ble_eq_true rfl, Nat.le_of_ble_eq_true rfl⟩) ⟨bl_, va_recvX hK.1 hP (ci := 8) (q0 := 10) rfl rfl, fun U hU hW => ⟨rfl, by rw [hU], by rw [hU]; exact hPc, kk_mv hW hK, hDw⟩⟩ rfl rfl hl.1 rfl (lv_room (Nat.le_of_ble_eq_true rfl)) dB_36_2_31.1.2.2.1 ⟨Nat.le_of_ble_eq_true rfl, Nat.le_of_ble_eq_true rfl⟩) hS (fun q _ h => hFc q h) hFc (fun r_92 u t H locs ht hvm hw hB hz1 hk1 hS => ?_)
              have hP : va_P D vwCl _ H := ro_keep hP hk1
              obtain ⟨f0_r_92, f1_r_92⟩ := hw
              rw [hQ]
              exact W.iret (v := r_92) hx hb hr (fun t ht hW => ⟨⟨r_92, (), rfl, (by unfold akI; (repeat' (first | with_reducible refine if_n (by omega) ?_ | with_reducible refine if_ns (by omega) ?_ | with_reducible refine if_nz (by omega) ?_ | with_reducible exact if_p (by omega) (by omega) | with_reducible exact if_ps (by omega) (by omega) | with_reducible exact if_pz (by omega) (by omega))) <;> omega), y_89, by rw [ht]; exact hP, hD⟩, hS.F ht⟩) hS.2.2 dB_36_2_31.1.2.2.2
        · have t_5 : ¬ a2.toInt ≤ (2 : Int32).toInt := fun h => c_5 (Int32.le_iff_toInt_le.mpr h)
          refine lv_iconst (v := (-1)) hx hb dB_36_2_29.2.1.2.1 (by decide) ?_
          rw [hQ]
          exact W.iret (v := (-1)) hx hb hr (fun t ht hW => ⟨⟨(-1), (), rfl, (by unfold akI; (repeat' (first | with_reducible refine if_n (by omega) ?_ | with_reducible refine if_ns (by omega) ?_ | with_reducible refine if_nz (by omega) ?_ | with_reducible exact if_p (by omega) (by omega) | with_reducible exact if_ps (by omega) (by omega) | with_reducible exact if_pz (by omega) (by omega))) <;> omega), tr, by rw [ht]; exact hP, hD⟩, hS.F ht⟩) hS.2.2 dB_36_2_29.2.1.2.2
  · have e_ := e_.symm
    subst e_
    refine lv_if_eq (tgt := 20) hx hb dB_36_2_29.1.2.1.1 (by decide) (fun c_93 => ?_) (fun c_93 => ?_)
    · have _ := c_93
      refine lv_iconst (v := (-1)) hx hb dB_36_2_29.2.1.2.1 (by decide) ?_
      rw [hQ]
      exact W.iret (v := (-1)) hx hb hr (fun t ht hW => ⟨⟨(-1), (), rfl, (by unfold akI; (repeat' (first | with_reducible refine if_n (by omega) ?_ | with_reducible refine if_ns (by omega) ?_ | with_reducible refine if_nz (by omega) ?_ | with_reducible exact if_p (by omega) (by omega) | with_reducible exact if_ps (by omega) (by omega) | with_reducible exact if_pz (by omega) (by omega))) <;> omega), tr, by rw [ht]; exact hP, hD⟩, hS.F ht⟩) hS.2.2 dB_36_2_29.2.1.2.2
    · exact absurd c_93 (by decide)

set_option maxHeartbeats 4000000 in
set_option maxRecDepth 100000 in
theorem c_X11_about2 (l : Launch) (D : va_G) (cy : Nat → ClassId) (sz : Nat) (xo : Nat) (xk : Nat) (xn : Nat) (xc : Nat) (xh : Nat) (xt : Nat) (xw : Nat) (xm : Nat) (xp : Nat) (pf : Int32) (ph : Int32) (tr : Int64) (fi : Int32) (n1 : Nat) (n2 : Nat) (n3 : Nat) (n4 : Nat) (n5 : Nat) (vp : Int32) (vn : Int32) (fk : Nat → Int32) (fs : Nat → Int32) (a1 : Int32) (hvn : 0 ≤ vn.toInt ∧ vn.toInt ≤ 40) : Met l yX11_about wsX11_about ({ frames := 2, cells := 0, slots := 0, locals := 43 }) (va_Pc [.ref xo, .int a1] (fun U => U.heap.size = sz ∧ va_P D vwCl [ob11_0_ xo xk xn xc xh xt xw xm xp pf ph tr fi, ob3_0_ xn vp vn n1 n2 n3 n4 n5, ai_ cy n1 40 fk, ai_ cy n2 40 fs] U.heap ∧ kk_ D cy U ∧ va_D (fun _ => True) [ob11_0_ xo xk xn xc xh xt xw xm xp pf ph tr fi, ob3_0_ xn vp vn n1 n2 n3 n4 n5, ai_ cy n1 40 fk, ai_ cy n2 40 fs])) (va_Qi (fun (r : Int32) (_ : Unit) => (r.toInt = abI a1.toInt vp.toInt vn.toInt (sumI (msF fs) vn.toNatClampNeg) ph.toInt (whI vp.toInt (sumI (bkF fk fs) vn.toNatClampNeg)))) (fun (_ : Unit) (_ : State) => True) (va_A [] sz)) 0 0 (va_A [] sz) := by
  refine ofQ (cc := cX11_about) (maxL := 2) (ret := (some .int)) (by decide) rfl ?_
  intro p e s m args below meth c s₁ Q hQ B hml hv
  obtain ⟨rfl, hsz, hP, hK, hD0⟩ := hv
  have hx := B.exec
  have hb := B.bytes
  have hr := B.returns
  have hts := atoms_spec (ws := wsX11_about) B.pre
  have hown : s.vm.findClass RX11 = some m.cls := by have h_ := findClass_of_methodNamed B.named; exact h_
  have hlocks := B.notSynchronized
  subst hsz
  have hD : va_D (va_A [] s.heap.size) [] := dd_nil
  generalize hAe : va_A [] s.heap.size = A at hD hQ
  have hA : ∀ q : Nat, s.heap.size ≤ q → A q := fun q h => by rw [← hAe]; exact Or.inr h
  have hS : va_S A s.heap s.heap [] := va_S.rf
  have hl := lv_entry ([.ref xo, .int a1]) (n := 2) (Nat.le_of_ble_eq_true rfl)
  rw [lg_entry_eq]
  generalize (lg_sl ([.ref xo, .int a1]) ++ List.replicate (2 - (lg_sl ([.ref xo, .int a1])).length) Slot.unset).toArray = ls at hl ⊢
  have hl : lv_has ls 2 [(0, .ref xo), (1, .int a1)] := hl
  have zm1 : ((-1) : Int32).toInt = -1 := by decide
  have z0 : (0 : Int32).toInt = 0 := by decide
  have z1 : (1 : Int32).toInt = 1 := by decide
  have zq0 : (0 : Int32).toInt = 0 := by decide
  have zq1 : (1 : Int32).toInt = 1 := by decide
  have zq2 : (2 : Int32).toInt = 2 := by decide
  have zq3 : (3 : Int32).toInt = 3 := by decide
  have zq4 : (4 : Int32).toInt = 4 := by decide
  have zq5 : (5 : Int32).toInt = 5 := by decide
  have zqm9 : ((-9) : Int32).toInt = -9 := by decide
  refine lv_iload_n hx hb dB_36_3_0.1.1.1.1 rfl (lv_at hl 1 rfl) ?_
  rcases sw_5 a1 with h_ | e_ | e_ | e_ | e_ | e_
  · refine lv_tableOut (tgt := 81) hx hb dB_36_3_0.1.1.1.2 h_ (by decide) ?_
    refine lv_iconst (v := (-1)) hx hb dB_36_3_1.2.2.2.1 (by decide) ?_
    rw [hQ]
    exact W.iret (v := (-1)) hx hb hr (fun t ht hW => ⟨⟨(-1), (), rfl, (by unfold abI; (repeat' (first | with_reducible refine if_n (by omega) ?_ | with_reducible refine if_ns (by omega) ?_ | with_reducible refine if_nz (by omega) ?_ | with_reducible exact if_p (by omega) (by omega) | with_reducible exact if_ps (by omega) (by omega) | with_reducible exact if_pz (by omega) (by omega))) <;> omega), trivial⟩, hS.F ht⟩) hS.2.2 dB_36_3_1.2.2.2.2
  · refine lv_tableIn (off := 35) (tgt := 36) hx hb dB_36_3_0.1.1.1.2 (by rw [e_]; decide) (by rw [e_]; decide) (by rw [e_]; decide) (by decide) ?_
    refine lv_aload_n hx hb dB_36_3_0.1.1.2.1 rfl (lv_at hl 0 rfl) ?_
    refine va_get (ci := 11) (v := .ref xn) (C := RX11) (T := TX11) (N := 12) hx hb hts (fun _ h => List.mem_cons_of_mem _ (List.mem_append_left _ (List.mem_append_right _ h))) hown hK.1 hP 0 rfl rfl 1 (by decide) (hts (.fieldLink RX11 31 "CutAtlas" "net" "LCutAtlas$Net;") (List.mem_of_getElem? (i := 1) rfl)) (fun _ h9 => h9) rfl dB_36_3_0.1.1.2.2 ?_
    refine va_get (ci := 3) (v := .int vp) (C := RX3) (T := TX3) (N := 7) hx hb hts (fun _ h => List.mem_cons_of_mem _ (List.mem_append_right _ h)) hown hK.1 hP 1 rfl rfl 0 (by decide) (hts (.fieldLink RX11 94 "CutAtlas$Net" "places" "I") (List.mem_of_getElem? (i := 2) rfl)) (fun _ h9 => h9) rfl dB_36_3_0.1.2.1.1 ?_
    rw [hQ]
    exact W.iret (v := vp) hx hb hr (fun t ht hW => ⟨⟨vp, (), rfl, (by unfold abI; (repeat' (first | with_reducible refine if_n (by omega) ?_ | with_reducible refine if_ns (by omega) ?_ | with_reducible refine if_nz (by omega) ?_ | with_reducible exact if_p (by omega) (by omega) | with_reducible exact if_ps (by omega) (by omega) | with_reducible exact if_pz (by omega) (by omega))) <;> omega), trivial⟩, hS.F ht⟩) hS.2.2 dB_36_3_0.1.2.1.2
  · refine lv_tableIn (off := 43) (tgt := 44) hx hb dB_36_3_0.1.1.1.2 (by rw [e_]; decide) (by rw [e_]; decide) (by rw [e_]; decide) (by decide) ?_
    refine lv_aload_n hx hb dB_36_3_0.1.2.2.1 rfl (lv_at hl 0 rfl) ?_
    refine va_get (ci := 11) (v := .ref xn) (C := RX11) (T := TX11) (N := 12) hx hb hts (fun _ h => List.mem_cons_of_mem _ (List.mem_append_left _ (List.mem_append_right _ h))) hown hK.1 hP 0 rfl rfl 1 (by decide) (hts (.fieldLink RX11 31 "CutAtlas" "net" "LCutAtlas$Net;") (List.mem_of_getElem? (i := 1) rfl)) (fun _ h9 => h9) rfl dB_36_3_0.1.2.2.2 ?_
    refine va_get (ci := 3) (v := .int vn) (C := RX3) (T := TX3) (N := 7) hx hb hts (fun _ h => List.mem_cons_of_mem _ (List.mem_append_right _ h)) hown hK.1 hP 1 rfl rfl 1 (by decide) (hts (.fieldLink RX11 294 "CutAtlas$Net" "lines" "I") (List.mem_of_getElem? (i := 3) rfl)) (fun _ h9 => h9) rfl dB_36_3_0.2.1.1.1 ?_
    rw [hQ]
    exact W.iret (v := vn) hx hb hr (fun t ht hW => ⟨⟨vn, (), rfl, (by unfold abI; (repeat' (first | with_reducible refine if_n (by omega) ?_ | with_reducible refine if_ns (by omega) ?_ | with_reducible refine if_nz (by omega) ?_ | with_reducible exact if_p (by omega) (by omega) | with_reducible exact if_ps (by omega) (by omega) | with_reducible exact if_pz (by omega) (by omega))) <;> omega), trivial⟩, hS.F ht⟩) hS.2.2 dB_36_3_0.2.1.1.2
  · refine lv_tableIn (off := 51) (tgt := 52) hx hb dB_36_3_0.1.1.1.2 (by rw [e_]; decide) (by rw [e_]; decide) (by rw [e_]; decide) (by decide) ?_
    refine lv_aload_n hx hb dB_36_3_0.2.1.2.1 rfl (lv_at hl 0 rfl) ?_
    refine va_get (ci := 11) (v := .ref xn) (C := RX11) (T := TX11) (N := 12) hx hb hts (fun _ h => List.mem_cons_of_mem _ (List.mem_append_left _ (List.mem_append_right _ h))) hown hK.1 hP 0 rfl rfl 1 (by decide) (hts (.fieldLink RX11 31 "CutAtlas" "net" "LCutAtlas$Net;") (List.mem_of_getElem? (i := 1) rfl)) (fun _ h9 => h9) rfl dB_36_3_0.2.1.2.2 ?_
    refine ct_R hP hD0 [ob3_0_ xn vp vn n1 n2 n3 n4 n5, ai_ cy n2 40 fs] [1, 3] (by decide) rfl (fun hPc hDw => ?_)
    have hFc := va_free (wc := []) hD hS hA [] rfl
    refine va_calli (va_runV (As := []) (rest := []) ⟨hx, hb, hml, hown, hts⟩ (c_X3_missingLines2 l D cy s.heap.size xn n1 n2 n3 n4 n5 vp vn fs (by first | with_reducible assumption | omega | assumption)) (cwV 0 hts gX11_about_X3_missingLines rfl rfl rfl ⟨rfl, hd_X3_missingLines⟩ ⟨Nat.le_of_ble_eq_true rfl, Nat.le_of_ble_eq_true rfl⟩) ⟨bl_, va_recvX hK.1 hP (ci := 3) (q0 := 1) rfl rfl, fun U hU hW => ⟨rfl, by rw [hU], by rw [hU]; exact hPc, kk_mv hW hK, hDw⟩⟩ rfl rfl hl.1 rfl (lv_room (Nat.le_of_ble_eq_true rfl)) dB_36_3_0.2.2.1.1 ⟨Nat.le_of_ble_eq_true rfl, Nat.le_of_ble_eq_true rfl⟩) hS (fun q _ h => hFc q h) hFc (fun r_1 u t H locs ht hvm hw hB hz1 hk1 hS => ?_)
    have hP : va_P D vwCl _ H := ro_keep hP hk1
    have f0_r_1 := hw
    rw [hQ]
    exact W.iret (v := r_1) hx hb hr (fun t ht hW => ⟨⟨r_1, (), rfl, (by unfold abI; (repeat' (first | with_reducible refine if_n (by omega) ?_ | with_reducible refine if_ns (by omega) ?_ | with_reducible refine if_nz (by omega) ?_ | with_reducible exact if_p (by omega) (by omega) | with_reducible exact if_ps (by omega) (by omega) | with_reducible exact if_pz (by omega) (by omega))) <;> omega), trivial⟩, hS.F ht⟩) hS.2.2 dB_36_3_0.2.2.1.2
  · refine lv_tableIn (off := 59) (tgt := 60) hx hb dB_36_3_0.1.1.1.2 (by rw [e_]; decide) (by rw [e_]; decide) (by rw [e_]; decide) (by decide) ?_
    refine lv_aload_n hx hb dB_36_3_0.2.2.2.1 rfl (lv_at hl 0 rfl) ?_
    refine va_get (ci := 11) (v := .int ph) (C := RX11) (T := TX11) (N := 12) hx hb hts (fun _ h => List.mem_cons_of_mem _ (List.mem_append_left _ (List.mem_append_right _ h))) hown hK.1 hP 0 rfl rfl 9 (by decide) (hts (.fieldLink RX11 84 "CutAtlas" "pastHeld" "I") (List.mem_of_getElem? (i := 4) rfl)) (fun _ h9 => h9) rfl dB_36_3_0.2.2.2.2 ?_
    rw [hQ]
    exact W.iret (v := ph) hx hb hr (fun t ht hW => ⟨⟨ph, (), rfl, (by unfold abI; (repeat' (first | with_reducible refine if_n (by omega) ?_ | with_reducible refine if_ns (by omega) ?_ | with_reducible refine if_nz (by omega) ?_ | with_reducible exact if_p (by omega) (by omega) | with_reducible exact if_ps (by omega) (by omega) | with_reducible exact if_pz (by omega) (by omega))) <;> omega), trivial⟩, hS.F ht⟩) hS.2.2 dB_36_3_1.1.1.1
  · refine lv_tableIn (off := 64) (tgt := 65) hx hb dB_36_3_0.1.1.1.2 (by rw [e_]; decide) (by rw [e_]; decide) (by rw [e_]; decide) (by decide) ?_
    refine lv_aload_n hx hb dB_36_3_1.1.1.2 rfl (lv_at hl 0 rfl) ?_
    refine va_get (ci := 11) (v := .ref xn) (C := RX11) (T := TX11) (N := 12) hx hb hts (fun _ h => List.mem_cons_of_mem _ (List.mem_append_left _ (List.mem_append_right _ h))) hown hK.1 hP 0 rfl rfl 1 (by decide) (hts (.fieldLink RX11 31 "CutAtlas" "net" "LCutAtlas$Net;") (List.mem_of_getElem? (i := 1) rfl)) (fun _ h9 => h9) rfl dB_36_3_1.1.2.1 ?_
    refine ct_R hP hD0 [ob3_0_ xn vp vn n1 n2 n3 n4 n5, ai_ cy n1 40 fk, ai_ cy n2 40 fs] [1, 2, 3] (by decide) rfl (fun hPc hDw => ?_)
    have hFc := va_free (wc := []) hD hS hA [] rfl
    refine va_calli (va_runV (As := []) (rest := []) ⟨hx, hb, hml, hown, hts⟩ (c_X3_isWhole2 l D cy s.heap.size xn n1 n2 n3 n4 n5 vp vn fk fs (by first | with_reducible assumption | omega | assumption)) (cwV 0 hts gX11_about_X3_isWhole rfl rfl rfl ⟨rfl, hd_X3_isWhole⟩ ⟨Nat.le_of_ble_eq_true rfl, Nat.le_of_ble_eq_true rfl⟩) ⟨bl_, va_recvX hK.1 hP (ci := 3) (q0 := 1) rfl rfl, fun U hU hW => ⟨rfl, by rw [hU], by rw [hU]; exact hPc, kk_mv hW hK, hDw⟩⟩ rfl rfl hl.1 rfl (lv_room (Nat.le_of_ble_eq_true rfl)) dB_36_3_1.1.2.2.1 ⟨Nat.le_of_ble_eq_true rfl, Nat.le_of_ble_eq_true rfl⟩) hS (fun q _ h => hFc q h) hFc (fun r_2 u t H locs ht hvm hw hB hz1 hk1 hS => ?_)
    have hP : va_P D vwCl _ H := ro_keep hP hk1
    obtain ⟨f0_r_2, f1_r_2⟩ := hw
    refine lv_if_eq (tgt := 79) hx hb dB_36_3_1.1.2.2.2 (by decide) (fun c_3 => ?_) (fun c_3 => ?_)
    · have t_3 : r_2.toInt = (0 : Int32).toInt := congrArg Int32.toInt c_3
      refine lv_iconst (v := 0) hx hb dB_36_3_1.2.1.2.2 (by decide) ?_
      rw [hQ]
      exact W.iret (v := 0) hx hb hr (fun t ht hW => ⟨⟨0, (), rfl, (by unfold abI; (repeat' (first | with_reducible refine if_n (by omega) ?_ | with_reducible refine if_ns (by omega) ?_ | with_reducible refine if_nz (by omega) ?_ | with_reducible exact if_p (by omega) (by omega) | with_reducible exact if_ps (by omega) (by omega) | with_reducible exact if_pz (by omega) (by omega))) <;> omega), trivial⟩, hS.F ht⟩) hS.2.2 dB_36_3_1.2.2.1
    · have t_3 : ¬ r_2.toInt = (0 : Int32).toInt := fun h => c_3 (Int32.toInt_inj.mp h)
      refine lv_iconst (v := 1) hx hb dB_36_3_1.2.1.1 (by decide) ?_
      refine lv_goto (tgt := 80) hx hb dB_36_3_1.2.1.2.1 (by decide) ?_
      rw [hQ]
      exact W.iret (v := 1) hx hb hr (fun t ht hW => ⟨⟨1, (), rfl, (by unfold abI; (repeat' (first | with_reducible refine if_n (by omega) ?_ | with_reducible refine if_ns (by omega) ?_ | with_reducible refine if_nz (by omega) ?_ | with_reducible exact if_p (by omega) (by omega) | with_reducible exact if_ps (by omega) (by omega) | with_reducible exact if_pz (by omega) (by omega))) <;> omega), trivial⟩, hS.F ht⟩) hS.2.2 dB_36_3_1.2.2.1

set_option maxHeartbeats 4000000 in
set_option maxRecDepth 100000 in
theorem c_X11_status2 (l : Launch) (D : va_G) (cy : Nat → ClassId) (sz : Nat) (xo : Nat) (xk : Nat) (xn : Nat) (xc : Nat) (xh : Nat) (xt : Nat) (xw : Nat) (xm : Nat) (xp : Nat) (pf : Int32) (ph : Int32) (tr : Int64) (fi : Int32) (n1 : Nat) (n2 : Nat) (n3 : Nat) (n4 : Nat) (n5 : Nat) (vp : Int32) (vn : Int32) : Met l yX11_status wsX11_status ({ frames := 0, cells := 0, slots := 0, locals := 0 }) (va_Pc [.ref xo] (fun U => U.heap.size = sz ∧ va_P D vwCl [ob11_0_ xo xk xn xc xh xt xw xm xp pf ph tr fi, ob3_0_ xn vp vn n1 n2 n3 n4 n5] U.heap ∧ kk_ D cy U ∧ va_D (fun _ => True) [ob11_0_ xo xk xn xc xh xt xw xm xp pf ph tr fi, ob3_0_ xn vp vn n1 n2 n3 n4 n5])) (va_Qi (fun (r : Int32) (_ : Unit) => (r = fi)) (fun (_ : Unit) (_ : State) => True) (va_A [] sz)) 0 0 (va_A [] sz) := by
  refine ofQ (cc := cX11_status) (maxL := 1) (ret := (some .int)) (by decide) rfl ?_
  intro p e s m args below meth c s₁ Q hQ B hml hv
  obtain ⟨rfl, hsz, hP, hK, hD0⟩ := hv
  have hx := B.exec
  have hb := B.bytes
  have hr := B.returns
  have hts := atoms_spec (ws := wsX11_status) B.pre
  have hown : s.vm.findClass RX11 = some m.cls := by have h_ := findClass_of_methodNamed B.named; exact h_
  have hlocks := B.notSynchronized
  subst hsz
  have hD : va_D (va_A [] s.heap.size) [] := dd_nil
  generalize hAe : va_A [] s.heap.size = A at hD hQ
  have hA : ∀ q : Nat, s.heap.size ≤ q → A q := fun q h => by rw [← hAe]; exact Or.inr h
  have hS : va_S A s.heap s.heap [] := va_S.rf
  have hl := lv_entry ([.ref xo]) (n := 1) (Nat.le_of_ble_eq_true rfl)
  rw [lg_entry_eq]
  generalize (lg_sl ([.ref xo]) ++ List.replicate (1 - (lg_sl ([.ref xo])).length) Slot.unset).toArray = ls at hl ⊢
  have hl : lv_has ls 1 [(0, .ref xo)] := hl
  refine lv_aload_n hx hb dB_36_3_64.1 rfl (lv_at hl 0 rfl) ?_
  refine va_get (ci := 11) (v := .int fi) (C := RX11) (T := TX11) (N := 12) hx hb hts (fun _ h => List.mem_cons_of_mem _ (List.mem_append_right _ h)) hown hK.1 hP 0 rfl rfl 11 (by decide) (hts (.fieldLink RX11 91 "CutAtlas" "finding" "I") (List.mem_of_getElem? (i := 1) rfl)) (fun _ h9 => h9) rfl dB_36_3_64.2.1 ?_
  rw [hQ]
  exact W.iret (v := fi) hx hb hr (fun t ht hW => ⟨⟨fi, (), rfl, (rfl), trivial⟩, hS.F ht⟩) hS.2.2 dB_36_3_64.2.2
