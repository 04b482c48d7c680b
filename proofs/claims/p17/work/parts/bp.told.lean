section
set_option maxHeartbeats 4000000 in
set_option maxRecDepth 100000 in
theorem c_X11_told2 (l : Launch) (D : va_G) (cy : Nat → ClassId) (sz : Nat) (xo : Nat) (xk : Nat) (xn : Nat) (xc : Nat) (xh : Nat) (xt : Nat) (xw : Nat) (xm : Nat) (xp : Nat) (pf : Int32) (ph : Int32) (tr : Int64) (fi : Int32) (n1 : Nat) (n2 : Nat) (n3 : Nat) (n4 : Nat) (n5 : Nat) (vp : Int32) (vn : Int32) (fk : Nat → Int32) (fs : Nat → Int32) (fe : Nat → Int32) (fw : Nat → Int32) (fp : Nat → Int32) (a1 : Int32) (a2 : Int32) (hvn : 0 ≤ vn.toInt ∧ vn.toInt ≤ 40) : Met l yX11_told wsX11_told ({ frames := 1, cells := 0, slots := 0, locals := 21 }) (va_Pc [.ref xo, .int a1, .int a2] (fun U => U.heap.size = sz ∧ va_P D vwCl [ob11_0_ xo xk xn xc xh xt xw xm xp pf ph tr fi, ob3_0_ xn vp vn n1 n2 n3 n4 n5, ai_ cy n1 40 fk, ai_ cy n2 40 fs, ai_ cy n3 40 fe, ai_ cy n4 40 fw, ai_ cy n5 40 fp] U.heap ∧ kk_ D cy U ∧ va_D (fun _ => True) [ob11_0_ xo xk xn xc xh xt xw xm xp pf ph tr fi, ob3_0_ xn vp vn n1 n2 n3 n4 n5, ai_ cy n1 40 fk, ai_ cy n2 40 fs, ai_ cy n3 40 fe, ai_ cy n4 40 fw, ai_ cy n5 40 fp])) (va_Qi (fun (r : Int32) (_ : Unit) => (r.toInt = tdI a1.toInt a2.toInt vn.toInt (fk a1.toNatClampNeg).toInt (fs a1.toNatClampNeg).toInt (fe a1.toNatClampNeg).toInt (fw a1.toNatClampNeg).toInt (fp a1.toNatClampNeg).toInt (gI (fs a1.toNatClampNeg).toInt))) (fun (_ : Unit) (_ : State) => True) (va_A [] sz)) 0 0 (va_A [] sz) := by
  refine ofQ (cc := cX11_told) (maxL := 3) (ret := (some .int)) (by decide) rfl ?_
  intro p e s m args below meth c s₁ Q hQ B hml hv
  obtain ⟨rfl, hsz, hP, hK, hD0⟩ := hv
  have hx := B.exec
  have hb := B.bytes
  have hr := B.returns
  have hts := atoms_spec (ws := wsX11_told) B.pre
  have hown : s.vm.findClass RX11 = some m.cls := by have h_ := findClass_of_methodNamed B.named; exact h_
  have hlocks := B.notSynchronized
  subst hsz
  have hD : va_D (va_A [] s.heap.size) [] := dd_nil
  generalize hAe : va_A [] s.heap.size = A at hD hQ
  have hA : ∀ q : Nat, s.heap.size ≤ q → A q := fun q h => by rw [← hAe]; exact Or.inr h
  have hS : va_S A s.heap s.heap [] := va_S.rf
  have hl := lv_entry ([.ref xo, .int a1, .int a2]) (n := 3) (Nat.le_of_ble_eq_true rfl)
  rw [lg_entry_eq]
  generalize (lg_sl ([.ref xo, .int a1, .int a2]) ++ List.replicate (3 - (lg_sl ([.ref xo, .int a1, .int a2])).length) Slot.unset).toArray = ls at hl ⊢
  have hl : lv_has ls 3 [(0, .ref xo), (1, .int a1), (2, .int a2)] := hl
  have zm1 : ((-1) : Int32).toInt = -1 := by decide
  have z0 : (0 : Int32).toInt = 0 := by decide
  have z1 : (1 : Int32).toInt = 1 := by decide
  refine lv_aload_n hx hb dB_36_2_53.1.1.1.1 rfl (lv_at hl 0 rfl) ?_
  refine va_get (ci := 11) (v := .ref xn) (C := RX11) (T := TX11) (N := 12) hx hb hts (fun _ h => List.mem_cons_of_mem _ (List.mem_append_left _ (List.mem_append_right _ h))) hown hK.1 hP 0 rfl rfl 1 (by decide) (hts (.fieldLink RX11 31 "CutAtlas" "net" "LCutAtlas$Net;") (List.mem_of_getElem? (i := 1) rfl)) (fun _ h9 => h9) rfl dB_36_2_53.1.1.1.2 ?_
  refine lv_iload_n hx hb dB_36_2_53.1.1.2.1 rfl (lv_at hl 1 rfl) ?_
  refine ct_R hP hD0 [ob3_0_ xn vp vn n1 n2 n3 n4 n5] [1] (by decide) rfl (fun hPc hDw => ?_)
  have hFc := va_free (wc := []) hD hS hA [] rfl
  refine va_calli (va_runV (As := [.int a1]) (rest := []) ⟨hx, hb, hml, hown, hts⟩ (c_X3_hasLine l D cy s.heap.size xn n1 n2 n3 n4 n5 vp vn a1) (cwV 1 hts gX11_told_X3_hasLine rfl rfl rfl ⟨rfl, hd_X3_hasLine⟩ ⟨Nat.le_of_ble_eq_true rfl, Nat.le_of_ble_eq_true rfl⟩) ⟨bl_, va_recvX hK.1 hP (ci := 3) (q0 := 1) rfl rfl, fun U hU hW => ⟨rfl, by rw [hU], by rw [hU]; exact hPc, kk_mv hW hK, hDw⟩⟩ rfl rfl hl.1 rfl (lv_room (Nat.le_of_ble_eq_true rfl)) dB_36_2_53.1.1.2.2 ⟨Nat.le_of_ble_eq_true rfl, Nat.le_of_ble_eq_true rfl⟩) hS (fun q _ h => hFc q h) hFc (fun r_1 u t H locs ht hvm hw hB hz1 hk1 hS => ?_)
  have hP : va_P D vwCl _ H := ro_keep hP hk1
  rcases hw with ⟨w_2, e_⟩ | ⟨w_2, e_⟩
  · have e_ := e_.symm
    subst e_
    refine lv_if_ne (tgt := 13) hx hb dB_36_2_53.1.2.1.1 (by decide) (fun c_3 => ?_) (fun c_3 => ?_)
    · have _ := c_3
      refine lv_iload_n hx hb dB_36_2_53.1.2.2.2 rfl (lv_at hl 2 rfl) ?_
      rcases sw_6 a2 with h_ | e_ | e_ | e_ | e_ | e_ | e_
      · refine lv_tableOut (tgt := 119) hx hb dB_36_2_53.2.1.1.1 h_ (by decide) ?_
        refine lv_iconst (v := (-1)) hx hb dB_36_2_56.1 (by decide) ?_
        rw [hQ]
        exact W.iret (v := (-1)) hx hb hr (fun t ht hW => ⟨⟨(-1), (), rfl, (by first | (rw [gI_0 (by omega)]; unfold tdI; (repeat' (first | with_reducible refine if_n (by omega) ?_ | with_reducible refine if_ns (by omega) ?_ | with_reducible refine if_nz (by omega) ?_ | with_reducible exact if_p (by omega) (by omega) | with_reducible exact if_ps (by omega) (by omega) | with_reducible exact if_pz (by omega) (by omega))) <;> omega) | (rw [gI_1 (by omega)]; unfold tdI; (repeat' (first | with_reducible refine if_n (by omega) ?_ | with_reducible refine if_ns (by omega) ?_ | with_reducible refine if_nz (by omega) ?_ | with_reducible exact if_p (by omega) (by omega) | with_reducible exact if_ps (by omega) (by omega) | with_reducible exact if_pz (by omega) (by omega))) <;> omega) | (unfold tdI; (repeat' (first | with_reducible refine if_n (by omega) ?_ | with_reducible refine if_ns (by omega) ?_ | with_reducible refine if_nz (by omega) ?_ | with_reducible exact if_p (by omega) (by omega) | with_reducible exact if_ps (by omega) (by omega) | with_reducible exact if_pz (by omega) (by omega))) <;> omega)), trivial⟩, hS.F ht⟩) hS.2.2 dB_36_2_56.2
      · refine lv_tableIn (off := 38) (tgt := 52) hx hb dB_36_2_53.2.1.1.1 (by rw [e_]; decide) (by rw [e_]; decide) (by rw [e_]; decide) (by decide) ?_
        refine lv_aload_n hx hb dB_36_2_53.2.1.1.2 rfl (lv_at hl 0 rfl) ?_
        refine va_get (ci := 11) (v := .ref xn) (C := RX11) (T := TX11) (N := 12) hx hb hts (fun _ h => List.mem_cons_of_mem _ (List.mem_append_left _ (List.mem_append_right _ h))) hown hK.1 hP 0 rfl rfl 1 (by decide) (hts (.fieldLink RX11 31 "CutAtlas" "net" "LCutAtlas$Net;") (List.mem_of_getElem? (i := 1) rfl)) (fun _ h9 => h9) rfl dB_36_2_53.2.1.2.1 ?_
        refine va_get (ci := 3) (v := .ref n1) (C := RX3) (T := TX3) (N := 7) hx hb hts (fun _ h => List.mem_cons_of_mem _ (List.mem_append_right _ h)) hown hK.1 hP 1 rfl rfl 2 (by decide) (hts (.fieldLink RX11 116 "CutAtlas$Net" "kinds" "[I") (List.mem_of_getElem? (i := 2) rfl)) (fun _ h9 => h9) rfl dB_36_2_53.2.1.2.2 ?_
        refine lv_iload_n hx hb dB_36_2_53.2.2.1.1 rfl (lv_at hl 1 rfl) ?_
        have h_4 : vp_in a1 40 := in_I (by first | with_reducible assumption | omega) (by omega)
        refine va_iald hx hb hK.1 hP 2 0 rfl rfl (i := a1) h_4 dB_36_2_53.2.2.1.2 ?_
        refine lv_topi (fun y_5 ey_5 => ?_)
        have ky_5 : y_5.toInt = (fk a1.toNatClampNeg).toInt := by rw [ey_5]
        rw [hQ]
        exact W.iret (v := y_5) hx hb hr (fun t ht hW => ⟨⟨y_5, (), rfl, (by first | (rw [gI_0 (by omega)]; unfold tdI; (repeat' (first | with_reducible refine if_n (by omega) ?_ | with_reducible refine if_ns (by omega) ?_ | with_reducible refine if_nz (by omega) ?_ | with_reducible exact if_p (by omega) (by omega) | with_reducible exact if_ps (by omega) (by omega) | with_reducible exact if_pz (by omega) (by omega))) <;> omega) | (rw [gI_1 (by omega)]; unfold tdI; (repeat' (first | with_reducible refine if_n (by omega) ?_ | with_reducible refine if_ns (by omega) ?_ | with_reducible refine if_nz (by omega) ?_ | with_reducible exact if_p (by omega) (by omega) | with_reducible exact if_ps (by omega) (by omega) | with_reducible exact if_pz (by omega) (by omega))) <;> omega) | (unfold tdI; (repeat' (first | with_reducible refine if_n (by omega) ?_ | with_reducible refine if_ns (by omega) ?_ | with_reducible refine if_nz (by omega) ?_ | with_reducible exact if_p (by omega) (by omega) | with_reducible exact if_ps (by omega) (by omega) | with_reducible exact if_pz (by omega) (by omega))) <;> omega)), trivial⟩, hS.F ht⟩) hS.2.2 dB_36_2_53.2.2.2.1
      · refine lv_tableIn (off := 48) (tgt := 62) hx hb dB_36_2_53.2.1.1.1 (by rw [e_]; decide) (by rw [e_]; decide) (by rw [e_]; decide) (by decide) ?_
        refine lv_aload_n hx hb dB_36_2_53.2.2.2.2 rfl (lv_at hl 0 rfl) ?_
        refine va_get (ci := 11) (v := .ref xn) (C := RX11) (T := TX11) (N := 12) hx hb hts (fun _ h => List.mem_cons_of_mem _ (List.mem_append_left _ (List.mem_append_right _ h))) hown hK.1 hP 0 rfl rfl 1 (by decide) (hts (.fieldLink RX11 31 "CutAtlas" "net" "LCutAtlas$Net;") (List.mem_of_getElem? (i := 1) rfl)) (fun _ h9 => h9) rfl dB_36_2_54.1.1.1.1 ?_
        refine va_get (ci := 3) (v := .ref n2) (C := RX3) (T := TX3) (N := 7) hx hb hts (fun _ h => List.mem_cons_of_mem _ (List.mem_append_right _ h)) hown hK.1 hP 1 rfl rfl 3 (by decide) (hts (.fieldLink RX11 155 "CutAtlas$Net" "starts" "[I") (List.mem_of_getElem? (i := 3) rfl)) (fun _ h9 => h9) rfl dB_36_2_54.1.1.1.2 ?_
        refine lv_iload_n hx hb dB_36_2_54.1.1.2.1 rfl (lv_at hl 1 rfl) ?_
        have h_6 : vp_in a1 40 := in_I (by first | with_reducible assumption | omega) (by omega)
        refine va_iald hx hb hK.1 hP 3 0 rfl rfl (i := a1) h_6 dB_36_2_54.1.1.2.2 ?_
        refine lv_topi (fun y_7 ey_7 => ?_)
        have ky_7 : y_7.toInt = (fs a1.toNatClampNeg).toInt := by rw [ey_7]
        rw [hQ]
        exact W.iret (v := y_7) hx hb hr (fun t ht hW => ⟨⟨y_7, (), rfl, (by first | (rw [gI_0 (by omega)]; unfold tdI; (repeat' (first | with_reducible refine if_n (by omega) ?_ | with_reducible refine if_ns (by omega) ?_ | with_reducible refine if_nz (by omega) ?_ | with_reducible exact if_p (by omega) (by omega) | with_reducible exact if_ps (by omega) (by omega) | with_reducible exact if_pz (by omega) (by omega))) <;> omega) | (rw [gI_1 (by omega)]; unfold tdI; (repeat' (first | with_reducible refine if_n (by omega) ?_ | with_reducible refine if_ns (by omega) ?_ | with_reducible refine if_nz (by omega) ?_ | with_reducible exact if_p (by omega) (by omega) | with_reducible exact if_ps (by omega) (by omega) | with_reducible exact if_pz (by omega) (by omega))) <;> omega) | (unfold tdI; (repeat' (first | with_reducible refine if_n (by omega) ?_ | with_reducible refine if_ns (by omega) ?_ | with_reducible refine if_nz (by omega) ?_ | with_reducible exact if_p (by omega) (by omega) | with_reducible exact if_ps (by omega) (by omega) | with_reducible exact if_pz (by omega) (by omega))) <;> omega)), trivial⟩, hS.F ht⟩) hS.2.2 dB_36_2_54.1.2.1.1
      · refine lv_tableIn (off := 58) (tgt := 72) hx hb dB_36_2_53.2.1.1.1 (by rw [e_]; decide) (by rw [e_]; decide) (by rw [e_]; decide) (by decide) ?_
        refine lv_aload_n hx hb dB_36_2_54.1.2.1.2 rfl (lv_at hl 0 rfl) ?_
        refine va_get (ci := 11) (v := .ref xn) (C := RX11) (T := TX11) (N := 12) hx hb hts (fun _ h => List.mem_cons_of_mem _ (List.mem_append_left _ (List.mem_append_right _ h))) hown hK.1 hP 0 rfl rfl 1 (by decide) (hts (.fieldLink RX11 31 "CutAtlas" "net" "LCutAtlas$Net;") (List.mem_of_getElem? (i := 1) rfl)) (fun _ h9 => h9) rfl dB_36_2_54.1.2.2.1 ?_
        refine va_get (ci := 3) (v := .ref n3) (C := RX3) (T := TX3) (N := 7) hx hb hts (fun _ h => List.mem_cons_of_mem _ (List.mem_append_right _ h)) hown hK.1 hP 1 rfl rfl 4 (by decide) (hts (.fieldLink RX11 158 "CutAtlas$Net" "ends" "[I") (List.mem_of_getElem? (i := 4) rfl)) (fun _ h9 => h9) rfl dB_36_2_54.1.2.2.2 ?_
        refine lv_iload_n hx hb dB_36_2_54.2.1.1.1 rfl (lv_at hl 1 rfl) ?_
        have h_8 : vp_in a1 40 := in_I (by first | with_reducible assumption | omega) (by omega)
        refine va_iald hx hb hK.1 hP 4 0 rfl rfl (i := a1) h_8 dB_36_2_54.2.1.1.2 ?_
        refine lv_topi (fun y_9 ey_9 => ?_)
        have ky_9 : y_9.toInt = (fe a1.toNatClampNeg).toInt := by rw [ey_9]
        rw [hQ]
        exact W.iret (v := y_9) hx hb hr (fun t ht hW => ⟨⟨y_9, (), rfl, (by first | (rw [gI_0 (by omega)]; unfold tdI; (repeat' (first | with_reducible refine if_n (by omega) ?_ | with_reducible refine if_ns (by omega) ?_ | with_reducible refine if_nz (by omega) ?_ | with_reducible exact if_p (by omega) (by omega) | with_reducible exact if_ps (by omega) (by omega) | with_reducible exact if_pz (by omega) (by omega))) <;> omega) | (rw [gI_1 (by omega)]; unfold tdI; (repeat' (first | with_reducible refine if_n (by omega) ?_ | with_reducible refine if_ns (by omega) ?_ | with_reducible refine if_nz (by omega) ?_ | with_reducible exact if_p (by omega) (by omega) | with_reducible exact if_ps (by omega) (by omega) | with_reducible exact if_pz (by omega) (by omega))) <;> omega) | (unfold tdI; (repeat' (first | with_reducible refine if_n (by omega) ?_ | with_reducible refine if_ns (by omega) ?_ | with_reducible refine if_nz (by omega) ?_ | with_reducible exact if_p (by omega) (by omega) | with_reducible exact if_ps (by omega) (by omega) | with_reducible exact if_pz (by omega) (by omega))) <;> omega)), trivial⟩, hS.F ht⟩) hS.2.2 dB_36_2_54.2.1.2.1
      · refine lv_tableIn (off := 68) (tgt := 82) hx hb dB_36_2_53.2.1.1.1 (by rw [e_]; decide) (by rw [e_]; decide) (by rw [e_]; decide) (by decide) ?_
        refine lv_aload_n hx hb dB_36_2_54.2.1.2.2 rfl (lv_at hl 0 rfl) ?_
        refine va_get (ci := 11) (v := .ref xn) (C := RX11) (T := TX11) (N := 12) hx hb hts (fun _ h => List.mem_cons_of_mem _ (List.mem_append_left _ (List.mem_append_right _ h))) hown hK.1 hP 0 rfl rfl 1 (by decide) (hts (.fieldLink RX11 31 "CutAtlas" "net" "LCutAtlas$Net;") (List.mem_of_getElem? (i := 1) rfl)) (fun _ h9 => h9) rfl dB_36_2_54.2.2.1.1 ?_
        refine va_get (ci := 3) (v := .ref n4) (C := RX3) (T := TX3) (N := 7) hx hb hts (fun _ h => List.mem_cons_of_mem _ (List.mem_append_right _ h)) hown hK.1 hP 1 rfl rfl 5 (by decide) (hts (.fieldLink RX11 129 "CutAtlas$Net" "widths" "[I") (List.mem_of_getElem? (i := 5) rfl)) (fun _ h9 => h9) rfl dB_36_2_54.2.2.1.2 ?_
        refine lv_iload_n hx hb dB_36_2_54.2.2.2.1 rfl (lv_at hl 1 rfl) ?_
        have h_10 : vp_in a1 40 := in_I (by first | with_reducible assumption | omega) (by omega)
        refine va_iald hx hb hK.1 hP 5 0 rfl rfl (i := a1) h_10 dB_36_2_54.2.2.2.2 ?_
        refine lv_topi (fun y_11 ey_11 => ?_)
        have ky_11 : y_11.toInt = (fw a1.toNatClampNeg).toInt := by rw [ey_11]
        rw [hQ]
        exact W.iret (v := y_11) hx hb hr (fun t ht hW => ⟨⟨y_11, (), rfl, (by first | (rw [gI_0 (by omega)]; unfold tdI; (repeat' (first | with_reducible refine if_n (by omega) ?_ | with_reducible refine if_ns (by omega) ?_ | with_reducible refine if_nz (by omega) ?_ | with_reducible exact if_p (by omega) (by omega) | with_reducible exact if_ps (by omega) (by omega) | with_reducible exact if_pz (by omega) (by omega))) <;> omega) | (rw [gI_1 (by omega)]; unfold tdI; (repeat' (first | with_reducible refine if_n (by omega) ?_ | with_reducible refine if_ns (by omega) ?_ | with_reducible refine if_nz (by omega) ?_ | with_reducible exact if_p (by omega) (by omega) | with_reducible exact if_ps (by omega) (by omega) | with_reducible exact if_pz (by omega) (by omega))) <;> omega) | (unfold tdI; (repeat' (first | with_reducible refine if_n (by omega) ?_ | with_reducible refine if_ns (by omega) ?_ | with_reducible refine if_nz (by omega) ?_ | with_reducible exact if_p (by omega) (by omega) | with_reducible exact if_ps (by omega) (by omega) | with_reducible exact if_pz (by omega) (by omega))) <;> omega)), trivial⟩, hS.F ht⟩) hS.2.2 dB_36_2_55.1.1.1.1
      · refine lv_tableIn (off := 78) (tgt := 92) hx hb dB_36_2_53.2.1.1.1 (by rw [e_]; decide) (by rw [e_]; decide) (by rw [e_]; decide) (by decide) ?_
        refine lv_aload_n hx hb dB_36_2_55.1.1.1.2 rfl (lv_at hl 0 rfl) ?_
        refine va_get (ci := 11) (v := .ref xn) (C := RX11) (T := TX11) (N := 12) hx hb hts (fun _ h => List.mem_cons_of_mem _ (List.mem_append_left _ (List.mem_append_right _ h))) hown hK.1 hP 0 rfl rfl 1 (by decide) (hts (.fieldLink RX11 31 "CutAtlas" "net" "LCutAtlas$Net;") (List.mem_of_getElem? (i := 1) rfl)) (fun _ h9 => h9) rfl dB_36_2_55.1.1.2.1 ?_
        refine va_get (ci := 3) (v := .ref n5) (C := RX3) (T := TX3) (N := 7) hx hb hts (fun _ h => List.mem_cons_of_mem _ (List.mem_append_right _ h)) hown hK.1 hP 1 rfl rfl 6 (by decide) (hts (.fieldLink RX11 119 "CutAtlas$Net" "prices" "[I") (List.mem_of_getElem? (i := 6) rfl)) (fun _ h9 => h9) rfl dB_36_2_55.1.1.2.2 ?_
        refine lv_iload_n hx hb dB_36_2_55.1.2.1.1 rfl (lv_at hl 1 rfl) ?_
        have h_12 : vp_in a1 40 := in_I (by first | with_reducible assumption | omega) (by omega)
        refine va_iald hx hb hK.1 hP 6 0 rfl rfl (i := a1) h_12 dB_36_2_55.1.2.1.2 ?_
        refine lv_topi (fun y_13 ey_13 => ?_)
        have ky_13 : y_13.toInt = (fp a1.toNatClampNeg).toInt := by rw [ey_13]
        rw [hQ]
        exact W.iret (v := y_13) hx hb hr (fun t ht hW => ⟨⟨y_13, (), rfl, (by first | (rw [gI_0 (by omega)]; unfold tdI; (repeat' (first | with_reducible refine if_n (by omega) ?_ | with_reducible refine if_ns (by omega) ?_ | with_reducible refine if_nz (by omega) ?_ | with_reducible exact if_p (by omega) (by omega) | with_reducible exact if_ps (by omega) (by omega) | with_reducible exact if_pz (by omega) (by omega))) <;> omega) | (rw [gI_1 (by omega)]; unfold tdI; (repeat' (first | with_reducible refine if_n (by omega) ?_ | with_reducible refine if_ns (by omega) ?_ | with_reducible refine if_nz (by omega) ?_ | with_reducible exact if_p (by omega) (by omega) | with_reducible exact if_ps (by omega) (by omega) | with_reducible exact if_pz (by omega) (by omega))) <;> omega) | (unfold tdI; (repeat' (first | with_reducible refine if_n (by omega) ?_ | with_reducible refine if_ns (by omega) ?_ | with_reducible refine if_nz (by omega) ?_ | with_reducible exact if_p (by omega) (by omega) | with_reducible exact if_ps (by omega) (by omega) | with_reducible exact if_pz (by omega) (by omega))) <;> omega)), trivial⟩, hS.F ht⟩) hS.2.2 dB_36_2_55.1.2.2.1
      · refine lv_tableIn (off := 88) (tgt := 102) hx hb dB_36_2_53.2.1.1.1 (by rw [e_]; decide) (by rw [e_]; decide) (by rw [e_]; decide) (by decide) ?_
        refine lv_aload_n hx hb dB_36_2_55.1.2.2.2 rfl (lv_at hl 0 rfl) ?_
        refine va_get (ci := 11) (v := .ref xn) (C := RX11) (T := TX11) (N := 12) hx hb hts (fun _ h => List.mem_cons_of_mem _ (List.mem_append_left _ (List.mem_append_right _ h))) hown hK.1 hP 0 rfl rfl 1 (by decide) (hts (.fieldLink RX11 31 "CutAtlas" "net" "LCutAtlas$Net;") (List.mem_of_getElem? (i := 1) rfl)) (fun _ h9 => h9) rfl dB_36_2_55.2.1.1.1 ?_
        refine lv_iload_n hx hb dB_36_2_55.2.1.1.2 rfl (lv_at hl 1 rfl) ?_
        refine ct_R hP hD0 [ob3_0_ xn vp vn n1 n2 n3 n4 n5, ai_ cy n2 40 fs] [1, 3] (by decide) rfl (fun hPc hDw => ?_)
        have hFc := va_free (wc := []) hD hS hA [] rfl
        refine va_calli (va_runV (As := [.int a1]) (rest := []) ⟨hx, hb, hml, hown, hts⟩ (c_X3_isMissing l D cy H.size xn n1 n2 n3 n4 n5 vp vn fs a1 (by first | with_reducible assumption | omega | assumption)) (cwV 1 hts gX11_told_X3_isMissing rfl rfl rfl ⟨rfl, hd_X3_isMissing⟩ ⟨Nat.le_of_ble_eq_true rfl, Nat.le_of_ble_eq_true rfl⟩) ⟨bl_, va_recvX hK.1 hP (ci := 3) (q0 := 1) rfl rfl, fun U hU hW => ⟨rfl, by rw [hU], by rw [hU]; exact hPc, kk_mv hW hK, hDw⟩⟩ rfl rfl hl.1 rfl (lv_room (Nat.le_of_ble_eq_true rfl)) dB_36_2_55.2.1.2.1 ⟨Nat.le_of_ble_eq_true rfl, Nat.le_of_ble_eq_true rfl⟩) hS (fun q _ h => hFc q h) hFc (fun r_14 u t H locs ht hvm hw hB hz1 hk1 hS => ?_)
        have hP : va_P D vwCl _ H := ro_keep hP hk1
        rcases hw with ⟨w_15, e_⟩ | ⟨w_15, e_⟩
        · have e_ := e_.symm
          subst e_
          refine lv_if_eq (tgt := 117) hx hb dB_36_2_55.2.1.2.2 (by decide) (fun c_16 => ?_) (fun c_16 => ?_)
          · exact absurd c_16 (by decide)
          · have _ := c_16
            refine lv_iconst (v := 1) hx hb dB_36_2_55.2.2.1.1 (by decide) ?_
            refine lv_goto (tgt := 118) hx hb dB_36_2_55.2.2.1.2 (by decide) ?_
            rw [hQ]
            exact W.iret (v := 1) hx hb hr (fun t ht hW => ⟨⟨1, (), rfl, (by first | (rw [gI_0 (by omega)]; unfold tdI; (repeat' (first | with_reducible refine if_n (by omega) ?_ | with_reducible refine if_ns (by omega) ?_ | with_reducible refine if_nz (by omega) ?_ | with_reducible exact if_p (by omega) (by omega) | with_reducible exact if_ps (by omega) (by omega) | with_reducible exact if_pz (by omega) (by omega))) <;> omega) | (rw [gI_1 (by omega)]; unfold tdI; (repeat' (first | with_reducible refine if_n (by omega) ?_ | with_reducible refine if_ns (by omega) ?_ | with_reducible refine if_nz (by omega) ?_ | with_reducible exact if_p (by omega) (by omega) | with_reducible exact if_ps (by omega) (by omega) | with_reducible exact if_pz (by omega) (by omega))) <;> omega) | (unfold tdI; (repeat' (first | with_reducible refine if_n (by omega) ?_ | with_reducible refine if_ns (by omega) ?_ | with_reducible refine if_nz (by omega) ?_ | with_reducible exact if_p (by omega) (by omega) | with_reducible exact if_ps (by omega) (by omega) | with_reducible exact if_pz (by omega) (by omega))) <;> omega)), trivial⟩, hS.F ht⟩) hS.2.2 dB_36_2_55.2.2.2.2
        · have e_ := e_.symm
          subst e_
          refine lv_if_eq (tgt := 117) hx hb dB_36_2_55.2.1.2.2 (by decide) (fun c_17 => ?_) (fun c_17 => ?_)
          · have _ := c_17
            refine lv_iconst (v := 0) hx hb dB_36_2_55.2.2.2.1 (by decide) ?_
            rw [hQ]
            exact W.iret (v := 0) hx hb hr (fun t ht hW => ⟨⟨0, (), rfl, (by first | (rw [gI_0 (by omega)]; unfold tdI; (repeat' (first | with_reducible refine if_n (by omega) ?_ | with_reducible refine if_ns (by omega) ?_ | with_reducible refine if_nz (by omega) ?_ | with_reducible exact if_p (by omega) (by omega) | with_reducible exact if_ps (by omega) (by omega) | with_reducible exact if_pz (by omega) (by omega))) <;> omega) | (rw [gI_1 (by omega)]; unfold tdI; (repeat' (first | with_reducible refine if_n (by omega) ?_ | with_reducible refine if_ns (by omega) ?_ | with_reducible refine if_nz (by omega) ?_ | with_reducible exact if_p (by omega) (by omega) | with_reducible exact if_ps (by omega) (by omega) | with_reducible exact if_pz (by omega) (by omega))) <;> omega) | (unfold tdI; (repeat' (first | with_reducible refine if_n (by omega) ?_ | with_reducible refine if_ns (by omega) ?_ | with_reducible refine if_nz (by omega) ?_ | with_reducible exact if_p (by omega) (by omega) | with_reducible exact if_ps (by omega) (by omega) | with_reducible exact if_pz (by omega) (by omega))) <;> omega)), trivial⟩, hS.F ht⟩) hS.2.2 dB_36_2_55.2.2.2.2
          · exact absurd c_17 (by decide)
    · exact absurd c_3 (by decide)
  · have e_ := e_.symm
    subst e_
    refine lv_if_ne (tgt := 13) hx hb dB_36_2_53.1.2.1.1 (by decide) (fun c_18 => ?_) (fun c_18 => ?_)
    · exact absurd c_18 (by decide)
    · have _ := c_18
      refine lv_iconst (v := (-1)) hx hb dB_36_2_53.1.2.1.2 (by decide) ?_
      rw [hQ]
      exact W.iret (v := (-1)) hx hb hr (fun t ht hW => ⟨⟨(-1), (), rfl, (by first | (rw [gI_0 (by omega)]; unfold tdI; (repeat' (first | with_reducible refine if_n (by omega) ?_ | with_reducible refine if_ns (by omega) ?_ | with_reducible refine if_nz (by omega) ?_ | with_reducible exact if_p (by omega) (by omega) | with_reducible exact if_ps (by omega) (by omega) | with_reducible exact if_pz (by omega) (by omega))) <;> omega) | (rw [gI_1 (by omega)]; unfold tdI; (repeat' (first | with_reducible refine if_n (by omega) ?_ | with_reducible refine if_ns (by omega) ?_ | with_reducible refine if_nz (by omega) ?_ | with_reducible exact if_p (by omega) (by omega) | with_reducible exact if_ps (by omega) (by omega) | with_reducible exact if_pz (by omega) (by omega))) <;> omega) | (unfold tdI; (repeat' (first | with_reducible refine if_n (by omega) ?_ | with_reducible refine if_ns (by omega) ?_ | with_reducible refine if_nz (by omega) ?_ | with_reducible exact if_p (by omega) (by omega) | with_reducible exact if_ps (by omega) (by omega) | with_reducible exact if_pz (by omega) (by omega))) <;> omega)), trivial⟩, hS.F ht⟩) hS.2.2 dB_36_2_53.1.2.2.1

set_option maxHeartbeats 4000000 in
set_option maxRecDepth 100000 in
theorem c_X11_ask2 (l : Launch) (D : va_G) (cy : Nat → ClassId) (sz : Nat) (xo : Nat) (xk : Nat) (xn : Nat) (xc : Nat) (xh : Nat) (xt : Nat) (xw : Nat) (xm : Nat) (xp : Nat) (pf : Int32) (ph : Int32) (tr : Int64) (fi : Int32) (n1 : Nat) (n2 : Nat) (n3 : Nat) (n4 : Nat) (n5 : Nat) (vp : Int32) (vn : Int32) (fk : Nat → Int32) (fw : Nat → Int32) (fp : Nat → Int32) (k0 : Nat) (k1 : Nat) (k2 : Nat) (k3 : Nat) (k4 : Nat) (a1 : Int32) (a2 : Int32) (hvn : 0 ≤ vn.toInt ∧ vn.toInt ≤ 40) (r_fk : rng fk 40 (0) (4)) (r_fp : rng fp 40 (0) (100)) : Met l yX11_ask wsX11_ask ({ frames := 2, cells := 0, slots := 0, locals := 44 }) (va_Pc [.ref xo, .int a1, .int a2] (fun U => U.heap.size = sz ∧ va_P D vwCl [ob11_0_ xo xk xn xc xh xt xw xm xp pf ph tr fi, ob3_0_ xn vp vn n1 n2 n3 n4 n5, ai_ cy n1 40 fk, ai_ cy n4 40 fw, ai_ cy n5 40 fp, aq_ cy 3 xk 5 (kf_ k0 k1 k2 k3 k4), ob6_0_ k0, ob5_0_ k1, ob9_0_ k2, ob2_0_ k3, ob8_0_ k4] U.heap ∧ kk_ D cy U ∧ va_D (fun _ => True) [ob11_0_ xo xk xn xc xh xt xw xm xp pf ph tr fi, ob3_0_ xn vp vn n1 n2 n3 n4 n5, ai_ cy n1 40 fk, ai_ cy n4 40 fw, ai_ cy n5 40 fp, aq_ cy 3 xk 5 (kf_ k0 k1 k2 k3 k4), ob6_0_ k0, ob5_0_ k1, ob9_0_ k2, ob2_0_ k3, ob8_0_ k4])) (va_Qi (fun (r : Int32) (_ : Unit) => (r.toInt = akI a1.toInt a2.toInt vn.toInt (fk a1.toNatClampNeg).toInt (fw a1.toNatClampNeg).toInt (fp a1.toNatClampNeg).toInt)) (fun (_ : Unit) (t : State) => ∃ (etr : Int64), va_P D vwCl [ob11_0_ xo xk xn xc xh xt xw xm xp pf ph etr fi, ob3_0_ xn vp vn n1 n2 n3 n4 n5, ai_ cy n1 40 fk, ai_ cy n4 40 fw, ai_ cy n5 40 fp, aq_ cy 3 xk 5 (kf_ k0 k1 k2 k3 k4), ob6_0_ k0, ob5_0_ k1, ob9_0_ k2, ob2_0_ k3, ob8_0_ k4] t.heap ∧ va_D (va_A [ob11_0_ xo xk xn xc xh xt xw xm xp pf ph tr fi, ob3_0_ xn vp vn n1 n2 n3 n4 n5, ai_ cy n1 40 fk, ai_ cy n4 40 fw, ai_ cy n5 40 fp, aq_ cy 3 xk 5 (kf_ k0 k1 k2 k3 k4), ob6_0_ k0, ob5_0_ k1, ob9_0_ k2, ob2_0_ k3, ob8_0_ k4] sz) [ob11_0_ xo xk xn xc xh xt xw xm xp pf ph etr fi, ob3_0_ xn vp vn n1 n2 n3 n4 n5, ai_ cy n1 40 fk, ai_ cy n4 40 fw, ai_ cy n5 40 fp, aq_ cy 3 xk 5 (kf_ k0 k1 k2 k3 k4), ob6_0_ k0, ob5_0_ k1, ob9_0_ k2, ob2_0_ k3, ob8_0_ k4]) (va_A [ob11_0_ xo xk xn xc xh xt xw xm xp pf ph tr fi, ob3_0_ xn vp vn n1 n2 n3 n4 n5, ai_ cy n1 40 fk, ai_ cy n4 40 fw, ai_ cy n5 40 fp, aq_ cy 3 xk 5 (kf_ k0 k1 k2 k3 k4), ob6_0_ k0, ob5_0_ k1, ob9_0_ k2, ob2_0_ k3, ob8_0_ k4] sz)) 0 0 (va_A [ob11_0_ xo xk xn xc xh xt xw xm xp pf ph tr fi, ob3_0_ xn vp vn n1 n2 n3 n4 n5, ai_ cy n1 40 fk, ai_ cy n4 40 fw, ai_ cy n5 40 fp, aq_ cy 3 xk 5 (kf_ k0 k1 k2 k3 k4), ob6_0_ k0, ob5_0_ k1, ob9_0_ k2, ob2_0_ k3, ob8_0_ k4] sz) := by
  refine ofQ (cc := cX11_ask) (maxL := 5) (ret := (some .int)) (by decide) rfl ?_
  intro p e s m args below meth c s₁ Q hQ B hml hv
  obtain ⟨rfl, hsz, hP, hK, hD0⟩ := hv
  have hx := B.exec
  have hb := B.bytes
  have hr := B.returns
  have hts := atoms_spec (ws := wsX11_ask) B.pre
  have hown : s.vm.findClass RX11 = some m.cls := by have h_ := findClass_of_methodNamed B.named; exact h_
  have hlocks := B.notSynchronized
  subst hsz
  have hD := hD0.self (sz := s.heap.size)
  generalize hAe : va_A [ob11_0_ xo xk xn xc xh xt xw xm xp pf ph tr fi, ob3_0_ xn vp vn n1 n2 n3 n4 n5, ai_ cy n1 40 fk, ai_ cy n4 40 fw, ai_ cy n5 40 fp, aq_ cy 3 xk 5 (kf_ k0 k1 k2 k3 k4), ob6_0_ k0, ob5_0_ k1, ob9_0_ k2, ob2_0_ k3, ob8_0_ k4] s.heap.size = A at hD hQ
  have hA : ∀ q : Nat, s.heap.size ≤ q → A q := fun q h => by rw [← hAe]; exact Or.inr h
  have hS : va_S A s.heap s.heap [] := va_S.rf
  have hl := lv_entry ([.ref xo, .int a1, .int a2]) (n := 5) (Nat.le_of_ble_eq_true rfl)
  rw [lg_entry_eq]
  generalize (lg_sl ([.ref xo, .int a1, .int a2]) ++ List.replicate (5 - (lg_sl ([.ref xo, .int a1, .int a2])).length) Slot.unset).toArray = ls at hl ⊢
  have hl : lv_has ls 5 [(0, .ref xo), (1, .int a1), (2, .int a2)] := hl
  have zm1 : ((-1) : Int32).toInt = -1 := by decide
  have z0 : (0 : Int32).toInt = 0 := by decide
  have z1 : (1 : Int32).toInt = 1 := by decide
  have z2 : (2 : Int32).toInt = 2 := by decide
  have zq0 : (0 : Int32).toInt = 0 := by decide
  have zq1 : (1 : Int32).toInt = 1 := by decide
  have zq2 : (2 : Int32).toInt = 2 := by decide
  have zq3 : (3 : Int32).toInt = 3 := by decide
  have zq4 : (4 : Int32).toInt = 4 := by decide
  have zq5 : (5 : Int32).toInt = 5 := by decide
  have zqm9 : ((-9) : Int32).toInt = -9 := by decide
  refine lv_aload_n hx hb dB_36_2_29.1.1.1.1 rfl (lv_at hl 0 rfl) ?_
  refine va_get (ci := 11) (v := .ref xn) (C := RX11) (T := TX11) (N := 12) hx hb hts (fun _ h => List.mem_cons_of_mem _ (List.mem_append_left _ (List.mem_append_right _ h))) hown hK.1 hP 0 rfl rfl 1 (by decide) (hts (.fieldLink RX11 31 "CutAtlas" "net" "LCutAtlas$Net;") (List.mem_of_getElem? (i := 1) rfl)) (fun _ h9 => h9) rfl dB_36_2_29.1.1.1.2 ?_
  refine lv_iload_n hx hb dB_36_2_29.1.1.2.1 rfl (lv_at hl 1 rfl) ?_
  refine ct_R hP hD [ob3_0_ xn vp vn n1 n2 n3 n4 n5] [1] (by decide) rfl (fun hPc hDw => ?_)
  have hFc := va_free (wc := []) hD hS hA [] rfl
  refine va_calli (va_runV (As := [.int a1]) (rest := []) ⟨hx, hb, hml, hown, hts⟩ (c_X3_hasLine l D cy s.heap.size xn n1 n2 n3 n4 n5 vp vn a1) (cwV 1 hts gX11_ask_X3_hasLine rfl rfl rfl ⟨rfl, hd_X3_hasLine⟩ ⟨Nat.le_of_ble_eq_true rfl, Nat.le_of_ble_eq_true rfl⟩) ⟨bl_, va_recvX hK.1 hP (ci := 3) (q0 := 1) rfl rfl, fun U hU hW => ⟨rfl, by rw [hU], by rw [hU]; exact hPc, kk_mv hW hK, hDw⟩⟩ rfl rfl hl.1 rfl (lv_room (Nat.le_of_ble_eq_true rfl)) dB_36_2_29.1.1.2.2 ⟨Nat.le_of_ble_eq_true rfl, Nat.le_of_ble_eq_true rfl⟩) hS (fun q _ h => hFc q h) hFc (fun r_1 u t H locs ht hvm hw hB hz1 hk1 hS => ?_)
  have hP : va_P D vwCl _ H := ro_keep hP hk1
  rcases hw with ⟨w_2, e_⟩ | ⟨w_2, e_⟩
  · have e_ := e_.symm
    subst e_
    refine lv_if_eq (tgt := 20) hx hb dB_36_2_29.1.2.1.1 (by decide) (fun c_3 => ?_) (fun c_3 => ?_)
    · exact absurd c_3 (by decide)
    · have _ := c_3
      refine lv_iload_n hx hb dB_36_2_29.1.2.1.2 rfl (lv_at hl 2 rfl) ?_
      refine lv_if_lt (tgt := 20) hx hb dB_36_2_29.1.2.2.1 (by decide) (fun c_4 => ?_) (fun c_4 => ?_)
      · have t_4 : a2.toInt < (0 : Int32).toInt := Int32.lt_iff_toInt_lt.mp c_4
        refine lv_iconst (v := (-1)) hx hb dB_36_2_29.2.1.2.1 (by decide) ?_
        rw [hQ]
        exact W.iret (v := (-1)) hx hb hr (fun t ht hW => ⟨⟨(-1), (), rfl, (by unfold akI; (repeat' (first | with_reducible refine if_n (by omega) ?_ | with_reducible refine if_ns (by omega) ?_ | with_reducible refine if_nz (by omega) ?_ | with_reducible exact if_p (by omega) (by omega) | with_reducible exact if_ps (by omega) (by omega) | with_reducible exact if_pz (by omega) (by omega))) <;> omega), tr, by rw [ht]; exact hP, hD⟩, hS.F ht⟩) hS.2.2 dB_36_2_29.2.1.2.2
      · have t_4 : ¬ a2.toInt < (0 : Int32).toInt := fun h => c_4 (Int32.lt_iff_toInt_lt.mpr h)
        refine lv_iload_n hx hb dB_36_2_29.1.2.2.2 rfl (lv_at hl 2 rfl) ?_
        refine lv_iconst (v := 2) hx hb dB_36_2_29.2.1.1.1 (by decide) ?_
        refine lv_icmp_le (tgt := 22) hx hb dB_36_2_29.2.1.1.2 (by decide) (fun c_5 => ?_) (fun c_5 => ?_)
        · have t_5 : a2.toInt ≤ (2 : Int32).toInt := Int32.le_iff_toInt_le.mp c_5
          refine lv_aload_n hx hb dB_36_2_29.2.2.1.1 rfl (lv_at hl 0 rfl) ?_
          refine va_get (ci := 11) (v := .ref xk) (C := RX11) (T := TX11) (N := 12) hx hb hts (fun _ h => List.mem_cons_of_mem _ (List.mem_append_left _ (List.mem_append_right _ h))) hown hK.1 hP 0 rfl rfl 0 (by decide) (hts (.fieldLink RX11 22 "CutAtlas" "kinds" "[LCutAtlas$PlainKind;") (List.mem_of_getElem? (i := 2) rfl)) (fun _ h9 => h9) rfl dB_36_2_29.2.2.1.2 ?_
          refine lv_aload_n hx hb dB_36_2_29.2.2.2.1 rfl (lv_at hl 0 rfl) ?_
          refine va_get (ci := 11) (v := .ref xn) (C := RX11) (T := TX11) (N := 12) hx hb hts (fun _ h => List.mem_cons_of_mem _ (List.mem_append_left _ (List.mem_append_right _ h))) hown hK.1 hP 0 rfl rfl 1 (by decide) (hts (.fieldLink RX11 31 "CutAtlas" "net" "LCutAtlas$Net;") (List.mem_of_getElem? (i := 1) rfl)) (fun _ h9 => h9) rfl dB_36_2_29.2.2.2.2 ?_
          refine va_get (ci := 3) (v := .ref n1) (C := RX3) (T := TX3) (N := 7) hx hb hts (fun _ h => List.mem_cons_of_mem _ (List.mem_append_right _ h)) hown hK.1 hP 1 rfl rfl 2 (by decide) (hts (.fieldLink RX11 116 "CutAtlas$Net" "kinds" "[I") (List.mem_of_getElem? (i := 3) rfl)) (fun _ h9 => h9) rfl dB_36_2_30.1.1.1.1 ?_
          refine lv_iload_n hx hb dB_36_2_30.1.1.1.2 rfl (lv_at hl 1 rfl) ?_
          have h_6 : vp_in a1 40 := in_I (by first | with_reducible assumption | omega) (by omega)
          refine va_iald hx hb hK.1 hP 2 0 rfl rfl (i := a1) h_6 dB_36_2_30.1.1.2.1 ?_
          refine lv_topi (fun y_7 ey_7 => ?_)
          have ky_7 : y_7.toInt = (fk a1.toNatClampNeg).toInt := by rw [ey_7]
          have ry_7 : 0 ≤ y_7.toInt ∧ y_7.toInt ≤ 4 := by rw [ey_7]; exact r_fk _ (in_lt h_6)
          rcases sp_5 (x := y_7) (by omega) with rfl | rfl | rfl | rfl | rfl
          · refine va_aldq hx hb hK.1 hP 5 3 rfl rfl (i := 0) (by unfold vp_in; decide) dB_36_2_30.1.1.2.2 ?_
            refine lv_topv (v' := .ref k0) (by simp [va_up, va_rf, mf_, cl_0, cl_1, cl_2, cl_3, cl_4, kf_]) ?_
            refine lv_astore_n (lv' := [(3, .ref k0), (0, .ref xo), (1, .int a1), (2, .int a2)]) hx hb dB_36_2_30.1.2.1.1 rfl hl (by decide) rfl (fun ls hl => ?_)
            refine lv_iload_n hx hb dB_36_2_30.1.2.1.2 rfl (lv_at hl 3 rfl) ?_
            refine lv_iconst (v := 2) hx hb dB_36_2_30.1.2.2.1 (by decide) ?_
            refine lv_icmp_ne (tgt := 70) hx hb dB_36_2_30.1.2.2.2 (by decide) (fun c_8 => ?_) (fun c_8 => ?_)
            · have t_8 : ¬ a2.toInt = (2 : Int32).toInt := fun h => c_8 (Int32.toInt_inj.mp h)
              refine lv_iload_n hx hb dB_36_2_31.2.1.1.1 rfl (lv_at hl 3 rfl) ?_
              refine lv_if_ne (tgt := 78) hx hb dB_36_2_31.2.1.1.2 (by decide) (fun c_9 => ?_) (fun c_9 => ?_)
              · have t_9 : ¬ a2.toInt = (0 : Int32).toInt := fun h => c_9 (Int32.toInt_inj.mp h)
                refine lv_iconst (v := 0) hx hb dB_36_2_31.2.2.1.1 (by decide) ?_
                refine lv_istore (lv' := [(4, .int 0), (3, .ref k0), (0, .ref xo), (1, .int a1), (2, .int a2)]) hx hb dB_36_2_31.2.2.1.2 hl (by decide) rfl (fun ls hl => ?_)
                refine lv_aload_n hx hb dB_36_2_31.2.2.2.1 rfl (lv_at hl 2 rfl) ?_
                refine lv_dup hx hb dB_36_2_31.2.2.2.2 rfl ?_
                refine va_get (ci := 11) (v := .long tr) (C := RX11) (T := TX11) (N := 12) hx hb hts (fun _ h => List.mem_cons_of_mem _ (List.mem_append_left _ (List.mem_append_right _ h))) hown hK.1 hP 0 rfl rfl 10 (by decide) (hts (.fieldLink RX11 87 "CutAtlas" "traced" "J") (List.mem_of_getElem? (i := 4) rfl)) (fun _ h9 => h9) rfl dB_36_2_32.1.1.1.1 ?_
                refine lv_aload_n hx hb dB_36_2_32.1.1.1.2 rfl (lv_at hl 1 rfl) ?_
                refine lv_iload hx hb dB_36_2_32.1.1.2.1 (lv_at hl 0 rfl) ?_
                refine ct_R hP hD [] [] (by decide) rfl (fun hPc hDw => ?_)
                have hFc := va_free (wc := []) hD hS hA [] rfl
                refine va_calli (va_runV (As := [.int 0]) (rest := [.long tr, .ref xo]) ⟨hx, hb, hml, hown, hts⟩ (c_X6_letsMark l D cy H.size k0 (0 : Int32)) (cwV 1 hts gX11_ask_X6_letsMark rfl rfl rfl ⟨rfl, hd_X6_letsMark⟩ ⟨Nat.le_of_ble_eq_true rfl, Nat.le_of_ble_eq_true rfl⟩) ⟨bl_, va_recvX hK.1 hP (ci := 6) (q0 := 6) rfl rfl, fun U hU hW => ⟨rfl, by rw [hU], by rw [hU]; exact hPc, kk_mv hW hK, hDw⟩⟩ rfl rfl hl.1 rfl (lv_room (Nat.le_of_ble_eq_true rfl)) dB_36_2_32.1.1.2.2 ⟨Nat.le_of_ble_eq_true rfl, Nat.le_of_ble_eq_true rfl⟩) hS (fun q _ h => hFc q h) hFc (fun r_10 u t H locs ht hvm hw hB hz1 hk1 hS => ?_)
                have hP : va_P D vwCl _ H := ro_keep hP hk1
                refine lv_i2l (v := r_10.toInt64) hx hb dB_36_2_32.1.2.1.1 rfl ?_
                have q_92 : (r_10.toInt64).toInt = r_10.toInt := Int32.toInt_toInt64 r_10
                refine lv_ladd hx hb dB_36_2_32.1.2.1.2 ?_
                refine lv_topl (fun y_11 ey_11 => ?_)
                refine va_put (ci := 11) (v := .long y_11) (ty := .long) (C := RX11) (T := TX11) (N := 12) hx hb hts (fun _ h => List.mem_cons_of_mem _ (List.mem_append_left _ (List.mem_append_right _ h))) tyX11 tyX11_ok nmX11 hown hK.1 hP hD hS 0 rfl rfl 10 (by decide) (hts (.fieldLink RX11 87 "CutAtlas" "traced" "J") (List.mem_of_getElem? (i := 4) rfl)) (fun _ h9 => h9) rfl (by decide +kernel) rfl rfl (Nat.le_of_ble_eq_true rfl) dB_36_2_32.1.2.2.1 (fun H locs hP hD hS => ?_)
                refine pd_K [ob11_0_ xo xk xn xc xh xt xw xm xp pf ph y_11 fi, ob3_0_ xn vp vn n1 n2 n3 n4 n5, ai_ cy n1 40 fk, ai_ cy n4 40 fw, ai_ cy n5 40 fp, aq_ cy 3 xk 5 (kf_ k0 k1 k2 k3 k4), ob6_0_ k0, ob5_0_ k1, ob9_0_ k2, ob2_0_ k3, ob8_0_ k4] hP hD (fun hP hD => ?_)
                refine lv_aload_n hx hb dB_36_2_32.1.2.2.2 rfl (lv_at hl 1 rfl) ?_
                refine lv_aload_n hx hb dB_36_2_32.2.1.1.1 rfl (lv_at hl 2 rfl) ?_
                refine va_get (ci := 11) (v := .ref xn) (C := RX11) (T := TX11) (N := 12) hx hb hts (fun _ h => List.mem_cons_of_mem _ (List.mem_append_left _ (List.mem_append_right _ h))) hown hK.1 hP 0 rfl rfl 1 (by decide) (hts (.fieldLink RX11 31 "CutAtlas" "net" "LCutAtlas$Net;") (List.mem_of_getElem? (i := 1) rfl)) (fun _ h9 => h9) rfl dB_36_2_32.2.1.1.2 ?_
                refine va_get (ci := 3) (v := .ref n4) (C := RX3) (T := TX3) (N := 7) hx hb hts (fun _ h => List.mem_cons_of_mem _ (List.mem_append_right _ h)) hown hK.1 hP 1 rfl rfl 5 (by decide) (hts (.fieldLink RX11 129 "CutAtlas$Net" "widths" "[I") (List.mem_of_getElem? (i := 6) rfl)) (fun _ h9 => h9) rfl dB_36_2_32.2.1.2.1 ?_
                refine lv_iload_n hx hb dB_36_2_32.2.1.2.2 rfl (lv_at hl 3 rfl) ?_
                refine va_iald hx hb hK.1 hP 3 0 rfl rfl (i := a1) h_6 dB_36_2_32.2.2.1.1 ?_
                refine lv_topi (fun y_13 ey_13 => ?_)
                have ky_13 : y_13.toInt = (fw a1.toNatClampNeg).toInt := by rw [ey_13]
                refine lv_iload hx hb dB_36_2_32.2.2.1.2 (lv_at hl 0 rfl) ?_
                refine ct_R hP hD [] [] (by decide) rfl (fun hPc hDw => ?_)
                have hFc := va_free (wc := []) hD hS hA [] rfl
                refine va_calli (va_runV (As := [.int y_13, .int 0]) (rest := []) ⟨hx, hb, hml, hown, hts⟩ (c_X6_lets2 l D cy H.size k0 y_13 (0 : Int32)) (cwV 2 hts gX11_ask_X6_lets rfl rfl rfl ⟨rfl, hd_X6_lets⟩ ⟨Nat.le_of_ble_eq_true rfl, Nat.le_of_ble_eq_true rfl⟩) ⟨bl_, va_recvX hK.1 hP (ci := 6) (q0 := 6) rfl rfl, fun U hU hW => ⟨rfl, by rw [hU], by rw [hU]; exact hPc, kk_mv hW hK, hDw⟩⟩ rfl rfl hl.1 rfl (lv_room (Nat.le_of_ble_eq_true rfl)) dB_36_2_32.2.2.2.1 ⟨Nat.le_of_ble_eq_true rfl, Nat.le_of_ble_eq_true rfl⟩) hS (fun q _ h => hFc q h) hFc (fun r_14 u t H locs ht hvm hw hB hz1 hk1 hS => ?_)
                have hP : va_P D vwCl _ H := ro_keep hP hk1
                obtain ⟨f0_r_14, f1_r_14⟩ := hw
                rw [hQ]
                exact W.iret (v := r_14) hx hb hr (fun t ht hW => ⟨⟨r_14, (), rfl, (by unfold akI; (repeat' (first | with_reducible refine if_n (by omega) ?_ | with_reducible refine if_ns (by omega) ?_ | with_reducible refine if_nz (by omega) ?_ | with_reducible exact if_p (by omega) (by omega) | with_reducible exact if_ps (by omega) (by omega) | with_reducible exact if_pz (by omega) (by omega))) <;> omega), y_11, by rw [ht]; exact hP, hD⟩, hS.F ht⟩) hS.2.2 dB_36_2_32.2.2.2.2
              · have t_9 : a2.toInt = (0 : Int32).toInt := congrArg Int32.toInt c_9
                refine lv_iconst (v := 1) hx hb dB_36_2_31.2.1.2.1 (by decide) ?_
                refine lv_goto (tgt := 79) hx hb dB_36_2_31.2.1.2.2 (by decide) ?_
                refine lv_istore (lv' := [(4, .int 1), (3, .ref k0), (0, .ref xo), (1, .int a1), (2, .int a2)]) hx hb dB_36_2_31.2.2.1.2 hl (by decide) rfl (fun ls hl => ?_)
                refine lv_aload_n hx hb dB_36_2_31.2.2.2.1 rfl (lv_at hl 2 rfl) ?_
                refine lv_dup hx hb dB_36_2_31.2.2.2.2 rfl ?_
                refine va_get (ci := 11) (v := .long tr) (C := RX11) (T := TX11) (N := 12) hx hb hts (fun _ h => List.mem_cons_of_mem _ (List.mem_append_left _ (List.mem_append_right _ h))) hown hK.1 hP 0 rfl rfl 10 (by decide) (hts (.fieldLink RX11 87 "CutAtlas" "traced" "J") (List.mem_of_getElem? (i := 4) rfl)) (fun _ h9 => h9) rfl dB_36_2_32.1.1.1.1 ?_
                refine lv_aload_n hx hb dB_36_2_32.1.1.1.2 rfl (lv_at hl 1 rfl) ?_
                refine lv_iload hx hb dB_36_2_32.1.1.2.1 (lv_at hl 0 rfl) ?_
                refine ct_R hP hD [] [] (by decide) rfl (fun hPc hDw => ?_)
                have hFc := va_free (wc := []) hD hS hA [] rfl
                refine va_calli (va_runV (As := [.int 1]) (rest := [.long tr, .ref xo]) ⟨hx, hb, hml, hown, hts⟩ (c_X6_letsMark l D cy H.size k0 (1 : Int32)) (cwV 1 hts gX11_ask_X6_letsMark rfl rfl rfl ⟨rfl, hd_X6_letsMark⟩ ⟨Nat.le_of_ble_eq_true rfl, Nat.le_of_ble_eq_true rfl⟩) ⟨bl_, va_recvX hK.1 hP (ci := 6) (q0 := 6) rfl rfl, fun U hU hW => ⟨rfl, by rw [hU], by rw [hU]; exact hPc, kk_mv hW hK, hDw⟩⟩ rfl rfl hl.1 rfl (lv_room (Nat.le_of_ble_eq_true rfl)) dB_36_2_32.1.1.2.2 ⟨Nat.le_of_ble_eq_true rfl, Nat.le_of_ble_eq_true rfl⟩) hS (fun q _ h => hFc q h) hFc (fun r_15 u t H locs ht hvm hw hB hz1 hk1 hS => ?_)
                have hP : va_P D vwCl _ H := ro_keep hP hk1
                refine lv_i2l (v := r_15.toInt64) hx hb dB_36_2_32.1.2.1.1 rfl ?_
                have q_92 : (r_15.toInt64).toInt = r_15.toInt := Int32.toInt_toInt64 r_15
                refine lv_ladd hx hb dB_36_2_32.1.2.1.2 ?_
                refine lv_topl (fun y_16 ey_16 => ?_)
                refine va_put (ci := 11) (v := .long y_16) (ty := .long) (C := RX11) (T := TX11) (N := 12) hx hb hts (fun _ h => List.mem_cons_of_mem _ (List.mem_append_left _ (List.mem_append_right _ h))) tyX11 tyX11_ok nmX11 hown hK.1 hP hD hS 0 rfl rfl 10 (by decide) (hts (.fieldLink RX11 87 "CutAtlas" "traced" "J") (List.mem_of_getElem? (i := 4) rfl)) (fun _ h9 => h9) rfl (by decide +kernel) rfl rfl (Nat.le_of_ble_eq_true rfl) dB_36_2_32.1.2.2.1 (fun H locs hP hD hS => ?_)
                refine pd_K [ob11_0_ xo xk xn xc xh xt xw xm xp pf ph y_16 fi, ob3_0_ xn vp vn n1 n2 n3 n4 n5, ai_ cy n1 40 fk, ai_ cy n4 40 fw, ai_ cy n5 40 fp, aq_ cy 3 xk 5 (kf_ k0 k1 k2 k3 k4), ob6_0_ k0, ob5_0_ k1, ob9_0_ k2, ob2_0_ k3, ob8_0_ k4] hP hD (fun hP hD => ?_)
                refine lv_aload_n hx hb dB_36_2_32.1.2.2.2 rfl (lv_at hl 1 rfl) ?_
                refine lv_aload_n hx hb dB_36_2_32.2.1.1.1 rfl (lv_at hl 2 rfl) ?_
                refine va_get (ci := 11) (v := .ref xn) (C := RX11) (T := TX11) (N := 12) hx hb hts (fun _ h => List.mem_cons_of_mem _ (List.mem_append_left _ (List.mem_append_right _ h))) hown hK.1 hP 0 rfl rfl 1 (by decide) (hts (.fieldLink RX11 31 "CutAtlas" "net" "LCutAtlas$Net;") (List.mem_of_getElem? (i := 1) rfl)) (fun _ h9 => h9) rfl dB_36_2_32.2.1.1.2 ?_
                refine va_get (ci := 3) (v := .ref n4) (C := RX3) (T := TX3) (N := 7) hx hb hts (fun _ h => List.mem_cons_of_mem _ (List.mem_append_right _ h)) hown hK.1 hP 1 rfl rfl 5 (by decide) (hts (.fieldLink RX11 129 "CutAtlas$Net" "widths" "[I") (List.mem_of_getElem? (i := 6) rfl)) (fun _ h9 => h9) rfl dB_36_2_32.2.1.2.1 ?_
                refine lv_iload_n hx hb dB_36_2_32.2.1.2.2 rfl (lv_at hl 3 rfl) ?_
                refine va_iald hx hb hK.1 hP 3 0 rfl rfl (i := a1) h_6 dB_36_2_32.2.2.1.1 ?_
                refine lv_topi (fun y_18 ey_18 => ?_)
                have ky_18 : y_18.toInt = (fw a1.toNatClampNeg).toInt := by rw [ey_18]
                refine lv_iload hx hb dB_36_2_32.2.2.1.2 (lv_at hl 0 rfl) ?_
                refine ct_R hP hD [] [] (by decide) rfl (fun hPc hDw => ?_)
                have hFc := va_free (wc := []) hD hS hA [] rfl
                refine va_calli (va_runV (As := [.int y_18, .int 1]) (rest := []) ⟨hx, hb, hml, hown, hts⟩ (c_X6_lets2 l D cy H.size k0 y_18 (1 : Int32)) (cwV 2 hts gX11_ask_X6_lets rfl rfl rfl ⟨rfl, hd_X6_lets⟩ ⟨Nat.le_of_ble_eq_true rfl, Nat.le_of_ble_eq_true rfl⟩) ⟨bl_, va_recvX hK.1 hP (ci := 6) (q0 := 6) rfl rfl, fun U hU hW => ⟨rfl, by rw [hU], by rw [hU]; exact hPc, kk_mv hW hK, hDw⟩⟩ rfl rfl hl.1 rfl (lv_room (Nat.le_of_ble_eq_true rfl)) dB_36_2_32.2.2.2.1 ⟨Nat.le_of_ble_eq_true rfl, Nat.le_of_ble_eq_true rfl⟩) hS (fun q _ h => hFc q h) hFc (fun r_19 u t H locs ht hvm hw hB hz1 hk1 hS => ?_)
                have hP : va_P D vwCl _ H := ro_keep hP hk1
                obtain ⟨f0_r_19, f1_r_19⟩ := hw
                rw [hQ]
                exact W.iret (v := r_19) hx hb hr (fun t ht hW => ⟨⟨r_19, (), rfl, (by unfold akI; (repeat' (first | with_reducible refine if_n (by omega) ?_ | with_reducible refine if_ns (by omega) ?_ | with_reducible refine if_nz (by omega) ?_ | with_reducible exact if_p (by omega) (by omega) | with_reducible exact if_ps (by omega) (by omega) | with_reducible exact if_pz (by omega) (by omega))) <;> omega), y_16, by rw [ht]; exact hP, hD⟩, hS.F ht⟩) hS.2.2 dB_36_2_32.2.2.2.2
            · have t_8 : a2.toInt = (2 : Int32).toInt := congrArg Int32.toInt c_8
              refine lv_aload_n hx hb dB_36_2_30.2.1.1.1 rfl (lv_at hl 1 rfl) ?_
              refine lv_dup hx hb dB_36_2_30.2.1.1.2 rfl ?_
              refine va_get (ci := 11) (v := .long tr) (C := RX11) (T := TX11) (N := 12) hx hb hts (fun _ h => List.mem_cons_of_mem _ (List.mem_append_left _ (List.mem_append_right _ h))) hown hK.1 hP 0 rfl rfl 10 (by decide) (hts (.fieldLink RX11 87 "CutAtlas" "traced" "J") (List.mem_of_getElem? (i := 4) rfl)) (fun _ h9 => h9) rfl dB_36_2_30.2.1.2.1 ?_
              refine lv_aload_n hx hb dB_36_2_30.2.1.2.2 rfl (lv_at hl 0 rfl) ?_
              refine ct_R hP hD [] [] (by decide) rfl (fun hPc hDw => ?_)
              have hFc := va_free (wc := []) hD hS hA [] rfl
              refine va_calli (va_runV (As := []) (rest := [.long tr, .ref xo]) ⟨hx, hb, hml, hown, hts⟩ (c_X6_costsMark l D cy H.size k0) (cwV 0 hts gX11_ask_X6_costsMark rfl rfl rfl ⟨rfl, hd_X6_costsMark⟩ ⟨Nat.le_of_ble_eq_true rfl, Nat.le_of_ble_eq_true rfl⟩) ⟨bl_, va_recvX hK.1 hP (ci := 6) (q0 := 6) rfl rfl, fun U hU hW => ⟨rfl, by rw [hU], by rw [hU]; exact hPc, kk_mv hW hK, hDw⟩⟩ rfl rfl hl.1 rfl (lv_room (Nat.le_of_ble_eq_true rfl)) dB_36_2_30.2.2.1.1 ⟨Nat.le_of_ble_eq_true rfl, Nat.le_of_ble_eq_true rfl⟩) hS (fun q _ h => hFc q h) hFc (fun r_20 u t H locs ht hvm hw hB hz1 hk1 hS => ?_)
              have hP : va_P D vwCl _ H := ro_keep hP hk1
              refine lv_i2l (v := r_20.toInt64) hx hb dB_36_2_30.2.2.1.2 rfl ?_
              have q_51 : (r_20.toInt64).toInt = r_20.toInt := Int32.toInt_toInt64 r_20
              refine lv_ladd hx hb dB_36_2_30.2.2.2.1 ?_
              refine lv_topl (fun y_21 ey_21 => ?_)
              refine va_put (ci := 11) (v := .long y_21) (ty := .long) (C := RX11) (T := TX11) (N := 12) hx hb hts (fun _ h => List.mem_cons_of_mem _ (List.mem_append_left _ (List.mem_append_right _ h))) tyX11 tyX11_ok nmX11 hown hK.1 hP hD hS 0 rfl rfl 10 (by decide) (hts (.fieldLink RX11 87 "CutAtlas" "traced" "J") (List.mem_of_getElem? (i := 4) rfl)) (fun _ h9 => h9) rfl (by decide +kernel) rfl rfl (Nat.le_of_ble_eq_true rfl) dB_36_2_30.2.2.2.2 (fun H locs hP hD hS => ?_)
              refine pd_K [ob11_0_ xo xk xn xc xh xt xw xm xp pf ph y_21 fi, ob3_0_ xn vp vn n1 n2 n3 n4 n5, ai_ cy n1 40 fk, ai_ cy n4 40 fw, ai_ cy n5 40 fp, aq_ cy 3 xk 5 (kf_ k0 k1 k2 k3 k4), ob6_0_ k0, ob5_0_ k1, ob9_0_ k2, ob2_0_ k3, ob8_0_ k4] hP hD (fun hP hD => ?_)
              refine lv_aload_n hx hb dB_36_2_31.1.1.1.1 rfl (lv_at hl 0 rfl) ?_
              refine lv_aload_n hx hb dB_36_2_31.1.1.1.2 rfl (lv_at hl 1 rfl) ?_
              refine va_get (ci := 11) (v := .ref xn) (C := RX11) (T := TX11) (N := 12) hx hb hts (fun _ h => List.mem_cons_of_mem _ (List.mem_append_left _ (List.mem_append_right _ h))) hown hK.1 hP 0 rfl rfl 1 (by decide) (hts (.fieldLink RX11 31 "CutAtlas" "net" "LCutAtlas$Net;") (List.mem_of_getElem? (i := 1) rfl)) (fun _ h9 => h9) rfl dB_36_2_31.1.1.2.1 ?_
              refine va_get (ci := 3) (v := .ref n5) (C := RX3) (T := TX3) (N := 7) hx hb hts (fun _ h => List.mem_cons_of_mem _ (List.mem_append_right _ h)) hown hK.1 hP 1 rfl rfl 6 (by decide) (hts (.fieldLink RX11 119 "CutAtlas$Net" "prices" "[I") (List.mem_of_getElem? (i := 5) rfl)) (fun _ h9 => h9) rfl dB_36_2_31.1.1.2.2 ?_
              refine lv_iload_n hx hb dB_36_2_31.1.2.1.1 rfl (lv_at hl 2 rfl) ?_
              refine va_iald hx hb hK.1 hP 4 0 rfl rfl (i := a1) h_6 dB_36_2_31.1.2.1.2 ?_
              refine lv_topi (fun y_23 ey_23 => ?_)
              have ky_23 : y_23.toInt = (fp a1.toNatClampNeg).toInt := by rw [ey_23]
              have ry_23 : 0 ≤ y_23.toInt ∧ y_23.toInt ≤ 100 := by rw [ey_23]; exact r_fp _ (in_lt h_6)
              refine ct_R hP hD [] [] (by decide) rfl (fun hPc hDw => ?_)
              have hFc := va_free (wc := []) hD hS hA [] rfl
              refine va_calli (va_runV (As := [.int y_23]) (rest := []) ⟨hx, hb, hml, hown, hts⟩ (c_X6_costs2 l D cy H.size k0 y_23) (cwV 1 hts gX11_ask_X6_costs rfl rfl rfl ⟨rfl, hd_X6_costs⟩ ⟨Nat.le_of_ble_eq_true rfl, Nat.le_of_ble_eq_true rfl⟩) ⟨bl_, va_recvX hK.1 hP (ci := 6) (q0 := 6) rfl rfl, fun U hU hW => ⟨rfl, by rw [hU], by rw [hU]; exact hPc, kk_mv hW hK, hDw⟩⟩ rfl rfl hl.1 rfl (lv_room (Nat.le_of_ble_eq_true rfl)) dB_36_2_31.1.2.2.1 ⟨Nat.le_of_ble_eq_true rfl, Nat.le_of_ble_eq_true rfl⟩) hS (fun q _ h => hFc q h) hFc (fun r_24 u t H locs ht hvm hw hB hz1 hk1 hS => ?_)
              have hP : va_P D vwCl _ H := ro_keep hP hk1
              obtain ⟨f0_r_24, f1_r_24⟩ := hw
              rw [hQ]
              exact W.iret (v := r_24) hx hb hr (fun t ht hW => ⟨⟨r_24, (), rfl, (by unfold akI; (repeat' (first | with_reducible refine if_n (by omega) ?_ | with_reducible refine if_ns (by omega) ?_ | with_reducible refine if_nz (by omega) ?_ | with_reducible exact if_p (by omega) (by omega) | with_reducible exact if_ps (by omega) (by omega) | with_reducible exact if_pz (by omega) (by omega))) <;> omega), y_21, by rw [ht]; exact hP, hD⟩, hS.F ht⟩) hS.2.2 dB_36_2_31.1.2.2.2
          · refine va_aldq hx hb hK.1 hP 5 3 rfl rfl (i := 1) (by unfold vp_in; decide) dB_36_2_30.1.1.2.2 ?_
            refine lv_topv (v' := .ref k1) (by simp [va_up, va_rf, mf_, cl_0, cl_1, cl_2, cl_3, cl_4, kf_]) ?_
            refine lv_astore_n (lv' := [(3, .ref k1), (0, .ref xo), (1, .int a1), (2, .int a2)]) hx hb dB_36_2_30.1.2.1.1 rfl hl (by decide) rfl (fun ls hl => ?_)
            refine lv_iload_n hx hb dB_36_2_30.1.2.1.2 rfl (lv_at hl 3 rfl) ?_
            refine lv_iconst (v := 2) hx hb dB_36_2_30.1.2.2.1 (by decide) ?_
            refine lv_icmp_ne (tgt := 70) hx hb dB_36_2_30.1.2.2.2 (by decide) (fun c_25 => ?_) (fun c_25 => ?_)
            · have t_25 : ¬ a2.toInt = (2 : Int32).toInt := fun h => c_25 (Int32.toInt_inj.mp h)
              refine lv_iload_n hx hb dB_36_2_31.2.1.1.1 rfl (lv_at hl 3 rfl) ?_
              refine lv_if_ne (tgt := 78) hx hb dB_36_2_31.2.1.1.2 (by decide) (fun c_26 => ?_) (fun c_26 => ?_)
              · have t_26 : ¬ a2.toInt = (0 : Int32).toInt := fun h => c_26 (Int32.toInt_inj.mp h)
                refine lv_iconst (v := 0) hx hb dB_36_2_31.2.2.1.1 (by decide) ?_
                refine lv_istore (lv' := [(4, .int 0), (3, .ref k1), (0, .ref xo), (1, .int a1), (2, .int a2)]) hx hb dB_36_2_31.2.2.1.2 hl (by decide) rfl (fun ls hl => ?_)
                refine lv_aload_n hx hb dB_36_2_31.2.2.2.1 rfl (lv_at hl 2 rfl) ?_
                refine lv_dup hx hb dB_36_2_31.2.2.2.2 rfl ?_
                refine va_get (ci := 11) (v := .long tr) (C := RX11) (T := TX11) (N := 12) hx hb hts (fun _ h => List.mem_cons_of_mem _ (List.mem_append_left _ (List.mem_append_right _ h))) hown hK.1 hP 0 rfl rfl 10 (by decide) (hts (.fieldLink RX11 87 "CutAtlas" "traced" "J") (List.mem_of_getElem? (i := 4) rfl)) (fun _ h9 => h9) rfl dB_36_2_32.1.1.1.1 ?_
                refine lv_aload_n hx hb dB_36_2_32.1.1.1.2 rfl (lv_at hl 1 rfl) ?_
                refine lv_iload hx hb dB_36_2_32.1.1.2.1 (lv_at hl 0 rfl) ?_
                refine ct_R hP hD [ob5_0_ k1] [7] (by decide) rfl (fun hPc hDw => ?_)
                have hFc := va_free (wc := []) hD hS hA [] rfl
                refine va_calli (va_runU (As := [.int 0]) (rest := [.long tr, .ref xo]) ⟨hx, hb, hml, hown, hts⟩ (c_X5_letsMark l D cy H.size k1 (0 : Int32)) (va_cwO 1 hts gX11_ask_X5_letsMark_u161X5 rfl rfl rfl (b0 := cX6_letsMark) (m0 := 2) (r0 := (some .int)) (by decide +kernel) (by decide +kernel) ⟨Nat.le_of_ble_eq_true rfl, Nat.le_of_ble_eq_true rfl⟩) ⟨bl_, va_recvX hK.1 hP (ci := 5) (q0 := 7) rfl rfl, fun U hU hW => ⟨rfl, by rw [hU], by rw [hU]; exact hPc, kk_mv hW hK, hDw⟩⟩ rfl rfl hl.1 rfl (lv_room (Nat.le_of_ble_eq_true rfl)) dB_36_2_32.1.1.2.2 ⟨Nat.le_of_ble_eq_true rfl, Nat.le_of_ble_eq_true rfl⟩) hS (fun q _ h => hFc q h) hFc (fun r_27 u t H locs ht hvm hw hB hz1 hk1 hS => ?_)
                have hP : va_P D vwCl _ H := ro_keep hP hk1
                refine lv_i2l (v := r_27.toInt64) hx hb dB_36_2_32.1.2.1.1 rfl ?_
                have q_92 : (r_27.toInt64).toInt = r_27.toInt := Int32.toInt_toInt64 r_27
                refine lv_ladd hx hb dB_36_2_32.1.2.1.2 ?_
                refine lv_topl (fun y_28 ey_28 => ?_)
                refine va_put (ci := 11) (v := .long y_28) (ty := .long) (C := RX11) (T := TX11) (N := 12) hx hb hts (fun _ h => List.mem_cons_of_mem _ (List.mem_append_left _ (List.mem_append_right _ h))) tyX11 tyX11_ok nmX11 hown hK.1 hP hD hS 0 rfl rfl 10 (by decide) (hts (.fieldLink RX11 87 "CutAtlas" "traced" "J") (List.mem_of_getElem? (i := 4) rfl)) (fun _ h9 => h9) rfl (by decide +kernel) rfl rfl (Nat.le_of_ble_eq_true rfl) dB_36_2_32.1.2.2.1 (fun H locs hP hD hS => ?_)
                refine pd_K [ob11_0_ xo xk xn xc xh xt xw xm xp pf ph y_28 fi, ob3_0_ xn vp vn n1 n2 n3 n4 n5, ai_ cy n1 40 fk, ai_ cy n4 40 fw, ai_ cy n5 40 fp, aq_ cy 3 xk 5 (kf_ k0 k1 k2 k3 k4), ob6_0_ k0, ob5_0_ k1, ob9_0_ k2, ob2_0_ k3, ob8_0_ k4] hP hD (fun hP hD => ?_)
                refine lv_aload_n hx hb dB_36_2_32.1.2.2.2 rfl (lv_at hl 1 rfl) ?_
                refine lv_aload_n hx hb dB_36_2_32.2.1.1.1 rfl (lv_at hl 2 rfl) ?_
                refine va_get (ci := 11) (v := .ref xn) (C := RX11) (T := TX11) (N := 12) hx hb hts (fun _ h => List.mem_cons_of_mem _ (List.mem_append_left _ (List.mem_append_right _ h))) hown hK.1 hP 0 rfl rfl 1 (by decide) (hts (.fieldLink RX11 31 "CutAtlas" "net" "LCutAtlas$Net;") (List.mem_of_getElem? (i := 1) rfl)) (fun _ h9 => h9) rfl dB_36_2_32.2.1.1.2 ?_
                refine va_get (ci := 3) (v := .ref n4) (C := RX3) (T := TX3) (N := 7) hx hb hts (fun _ h => List.mem_cons_of_mem _ (List.mem_append_right _ h)) hown hK.1 hP 1 rfl rfl 5 (by decide) (hts (.fieldLink RX11 129 "CutAtlas$Net" "widths" "[I") (List.mem_of_getElem? (i := 6) rfl)) (fun _ h9 => h9) rfl dB_36_2_32.2.1.2.1 ?_
                refine lv_iload_n hx hb dB_36_2_32.2.1.2.2 rfl (lv_at hl 3 rfl) ?_
                refine va_iald hx hb hK.1 hP 3 0 rfl rfl (i := a1) h_6 dB_36_2_32.2.2.1.1 ?_
                refine lv_topi (fun y_30 ey_30 => ?_)
                have ky_30 : y_30.toInt = (fw a1.toNatClampNeg).toInt := by rw [ey_30]
                refine lv_iload hx hb dB_36_2_32.2.2.1.2 (lv_at hl 0 rfl) ?_
                refine ct_R hP hD [ob5_0_ k1] [7] (by decide) rfl (fun hPc hDw => ?_)
                have hFc := va_free (wc := []) hD hS hA [] rfl
                refine va_calli (va_runU (As := [.int y_30, .int 0]) (rest := []) ⟨hx, hb, hml, hown, hts⟩ (c_X5_lets2 l D cy H.size k1 y_30 (0 : Int32)) (va_cwO 2 hts gX11_ask_X5_lets_u165X5 rfl rfl rfl (b0 := cX6_lets) (m0 := 3) (r0 := (some .int)) (by decide +kernel) (by decide +kernel) ⟨Nat.le_of_ble_eq_true rfl, Nat.le_of_ble_eq_true rfl⟩) ⟨bl_, va_recvX hK.1 hP (ci := 5) (q0 := 7) rfl rfl, fun U hU hW => ⟨rfl, by rw [hU], by rw [hU]; exact hPc, kk_mv hW hK, hDw⟩⟩ rfl rfl hl.1 rfl (lv_room (Nat.le_of_ble_eq_true rfl)) dB_36_2_32.2.2.2.1 ⟨Nat.le_of_ble_eq_true rfl, Nat.le_of_ble_eq_true rfl⟩) hS (fun q _ h => hFc q h) hFc (fun r_31 u t H locs ht hvm hw hB hz1 hk1 hS => ?_)
                have hP : va_P D vwCl _ H := ro_keep hP hk1
                have f0_r_31 := hw
                rw [hQ]
                exact W.iret (v := r_31) hx hb hr (fun t ht hW => ⟨⟨r_31, (), rfl, (by unfold akI; (repeat' (first | with_reducible refine if_n (by omega) ?_ | with_reducible refine if_ns (by omega) ?_ | with_reducible refine if_nz (by omega) ?_ | with_reducible exact if_p (by omega) (by omega) | with_reducible exact if_ps (by omega) (by omega) | with_reducible exact if_pz (by omega) (by omega))) <;> omega), y_28, by rw [ht]; exact hP, hD⟩, hS.F ht⟩) hS.2.2 dB_36_2_32.2.2.2.2
              · have t_26 : a2.toInt = (0 : Int32).toInt := congrArg Int32.toInt c_26
                refine lv_iconst (v := 1) hx hb dB_36_2_31.2.1.2.1 (by decide) ?_
                refine lv_goto (tgt := 79) hx hb dB_36_2_31.2.1.2.2 (by decide) ?_
                refine lv_istore (lv' := [(4, .int 1), (3, .ref k1), (0, .ref xo), (1, .int a1), (2, .int a2)]) hx hb dB_36_2_31.2.2.1.2 hl (by decide) rfl (fun ls hl => ?_)
                refine lv_aload_n hx hb dB_36_2_31.2.2.2.1 rfl (lv_at hl 2 rfl) ?_
                refine lv_dup hx hb dB_36_2_31.2.2.2.2 rfl ?_
                refine va_get (ci := 11) (v := .long tr) (C := RX11) (T := TX11) (N := 12) hx hb hts (fun _ h => List.mem_cons_of_mem _ (List.mem_append_left _ (List.mem_append_right _ h))) hown hK.1 hP 0 rfl rfl 10 (by decide) (hts (.fieldLink RX11 87 "CutAtlas" "traced" "J") (List.mem_of_getElem? (i := 4) rfl)) (fun _ h9 => h9) rfl dB_36_2_32.1.1.1.1 ?_
                refine lv_aload_n hx hb dB_36_2_32.1.1.1.2 rfl (lv_at hl 1 rfl) ?_
                refine lv_iload hx hb dB_36_2_32.1.1.2.1 (lv_at hl 0 rfl) ?_
                refine ct_R hP hD [ob5_0_ k1] [7] (by decide) rfl (fun hPc hDw => ?_)
                have hFc := va_free (wc := []) hD hS hA [] rfl
                refine va_calli (va_runU (As := [.int 1]) (rest := [.long tr, .ref xo]) ⟨hx, hb, hml, hown, hts⟩ (c_X5_letsMark l D cy H.size k1 (1 : Int32)) (va_cwO 1 hts gX11_ask_X5_letsMark_u161X5 rfl rfl rfl (b0 := cX6_letsMark) (m0 := 2) (r0 := (some .int)) (by decide +kernel) (by decide +kernel) ⟨Nat.le_of_ble_eq_true rfl, Nat.le_of_ble_eq_true rfl⟩) ⟨bl_, va_recvX hK.1 hP (ci := 5) (q0 := 7) rfl rfl, fun U hU hW => ⟨rfl, by rw [hU], by rw [hU]; exact hPc, kk_mv hW hK, hDw⟩⟩ rfl rfl hl.1 rfl (lv_room (Nat.le_of_ble_eq_true rfl)) dB_36_2_32.1.1.2.2 ⟨Nat.le_of_ble_eq_true rfl, Nat.le_of_ble_eq_true rfl⟩) hS (fun q _ h => hFc q h) hFc (fun r_32 u t H locs ht hvm hw hB hz1 hk1 hS => ?_)
                have hP : va_P D vwCl _ H := ro_keep hP hk1
                refine lv_i2l (v := r_32.toInt64) hx hb dB_36_2_32.1.2.1.1 rfl ?_
                have q_92 : (r_32.toInt64).toInt = r_32.toInt := Int32.toInt_toInt64 r_32
                refine lv_ladd hx hb dB_36_2_32.1.2.1.2 ?_
                refine lv_topl (fun y_33 ey_33 => ?_)
                refine va_put (ci := 11) (v := .long y_33) (ty := .long) (C := RX11) (T := TX11) (N := 12) hx hb hts (fun _ h => List.mem_cons_of_mem _ (List.mem_append_left _ (List.mem_append_right _ h))) tyX11 tyX11_ok nmX11 hown hK.1 hP hD hS 0 rfl rfl 10 (by decide) (hts (.fieldLink RX11 87 "CutAtlas" "traced" "J") (List.mem_of_getElem? (i := 4) rfl)) (fun _ h9 => h9) rfl (by decide +kernel) rfl rfl (Nat.le_of_ble_eq_true rfl) dB_36_2_32.1.2.2.1 (fun H locs hP hD hS => ?_)
                refine pd_K [ob11_0_ xo xk xn xc xh xt xw xm xp pf ph y_33 fi, ob3_0_ xn vp vn n1 n2 n3 n4 n5, ai_ cy n1 40 fk, ai_ cy n4 40 fw, ai_ cy n5 40 fp, aq_ cy 3 xk 5 (kf_ k0 k1 k2 k3 k4), ob6_0_ k0, ob5_0_ k1, ob9_0_ k2, ob2_0_ k3, ob8_0_ k4] hP hD (fun hP hD => ?_)
                refine lv_aload_n hx hb dB_36_2_32.1.2.2.2 rfl (lv_at hl 1 rfl) ?_
                refine lv_aload_n hx hb dB_36_2_32.2.1.1.1 rfl (lv_at hl 2 rfl) ?_
                refine va_get (ci := 11) (v := .ref xn) (C := RX11) (T := TX11) (N := 12) hx hb hts (fun _ h => List.mem_cons_of_mem _ (List.mem_append_left _ (List.mem_append_right _ h))) hown hK.1 hP 0 rfl rfl 1 (by decide) (hts (.fieldLink RX11 31 "CutAtlas" "net" "LCutAtlas$Net;") (List.mem_of_getElem? (i := 1) rfl)) (fun _ h9 => h9) rfl dB_36_2_32.2.1.1.2 ?_
                refine va_get (ci := 3) (v := .ref n4) (C := RX3) (T := TX3) (N := 7) hx hb hts (fun _ h => List.mem_cons_of_mem _ (List.mem_append_right _ h)) hown hK.1 hP 1 rfl rfl 5 (by decide) (hts (.fieldLink RX11 129 "CutAtlas$Net" "widths" "[I") (List.mem_of_getElem? (i := 6) rfl)) (fun _ h9 => h9) rfl dB_36_2_32.2.1.2.1 ?_
                refine lv_iload_n hx hb dB_36_2_32.2.1.2.2 rfl (lv_at hl 3 rfl) ?_
                refine va_iald hx hb hK.1 hP 3 0 rfl rfl (i := a1) h_6 dB_36_2_32.2.2.1.1 ?_
                refine lv_topi (fun y_35 ey_35 => ?_)
                have ky_35 : y_35.toInt = (fw a1.toNatClampNeg).toInt := by rw [ey_35]
                refine lv_iload hx hb dB_36_2_32.2.2.1.2 (lv_at hl 0 rfl) ?_
                refine ct_R hP hD [ob5_0_ k1] [7] (by decide) rfl (fun hPc hDw => ?_)
                have hFc := va_free (wc := []) hD hS hA [] rfl
                refine va_calli (va_runU (As := [.int y_35, .int 1]) (rest := []) ⟨hx, hb, hml, hown, hts⟩ (c_X5_lets2 l D cy H.size k1 y_35 (1 : Int32)) (va_cwO 2 hts gX11_ask_X5_lets_u165X5 rfl rfl rfl (b0 := cX6_lets) (m0 := 3) (r0 := (some .int)) (by decide +kernel) (by decide +kernel) ⟨Nat.le_of_ble_eq_true rfl, Nat.le_of_ble_eq_true rfl⟩) ⟨bl_, va_recvX hK.1 hP (ci := 5) (q0 := 7) rfl rfl, fun U hU hW => ⟨rfl, by rw [hU], by rw [hU]; exact hPc, kk_mv hW hK, hDw⟩⟩ rfl rfl hl.1 rfl (lv_room (Nat.le_of_ble_eq_true rfl)) dB_36_2_32.2.2.2.1 ⟨Nat.le_of_ble_eq_true rfl, Nat.le_of_ble_eq_true rfl⟩) hS (fun q _ h => hFc q h) hFc (fun r_36 u t H locs ht hvm hw hB hz1 hk1 hS => ?_)
                have hP : va_P D vwCl _ H := ro_keep hP hk1
                have f0_r_36 := hw
                rw [hQ]
                exact W.iret (v := r_36) hx hb hr (fun t ht hW => ⟨⟨r_36, (), rfl, (by unfold akI; (repeat' (first | with_reducible refine if_n (by omega) ?_ | with_reducible refine if_ns (by omega) ?_ | with_reducible refine if_nz (by omega) ?_ | with_reducible exact if_p (by omega) (by omega) | with_reducible exact if_ps (by omega) (by omega) | with_reducible exact if_pz (by omega) (by omega))) <;> omega), y_33, by rw [ht]; exact hP, hD⟩, hS.F ht⟩) hS.2.2 dB_36_2_32.2.2.2.2
            · have t_25 : a2.toInt = (2 : Int32).toInt := congrArg Int32.toInt c_25
              refine lv_aload_n hx hb dB_36_2_30.2.1.1.1 rfl (lv_at hl 1 rfl) ?_
              refine lv_dup hx hb dB_36_2_30.2.1.1.2 rfl ?_
              refine va_get (ci := 11) (v := .long tr) (C := RX11) (T := TX11) (N := 12) hx hb hts (fun _ h => List.mem_cons_of_mem _ (List.mem_append_left _ (List.mem_append_right _ h))) hown hK.1 hP 0 rfl rfl 10 (by decide) (hts (.fieldLink RX11 87 "CutAtlas" "traced" "J") (List.mem_of_getElem? (i := 4) rfl)) (fun _ h9 => h9) rfl dB_36_2_30.2.1.2.1 ?_
              refine lv_aload_n hx hb dB_36_2_30.2.1.2.2 rfl (lv_at hl 0 rfl) ?_
              refine ct_R hP hD [] [] (by decide) rfl (fun hPc hDw => ?_)
              have hFc := va_free (wc := []) hD hS hA [] rfl
              refine va_calli (va_runU (As := []) (rest := [.long tr, .ref xo]) ⟨hx, hb, hml, hown, hts⟩ (c_X6_costsMark l D cy H.size k1) (va_cwU 0 hts gX11_ask_X6_costsMark_u132X5 rfl rfl rfl rfl (by decide +kernel) ⟨Nat.le_of_ble_eq_true rfl, Nat.le_of_ble_eq_true rfl⟩) ⟨bl_, va_recvX hK.1 hP (ci := 5) (q0 := 7) rfl rfl, fun U hU hW => ⟨rfl, by rw [hU], by rw [hU]; exact hPc, kk_mv hW hK, hDw⟩⟩ rfl rfl hl.1 rfl (lv_room (Nat.le_of_ble_eq_true rfl)) dB_36_2_30.2.2.1.1 ⟨Nat.le_of_ble_eq_true rfl, Nat.le_of_ble_eq_true rfl⟩) hS (fun q _ h => hFc q h) hFc (fun r_37 u t H locs ht hvm hw hB hz1 hk1 hS => ?_)
              have hP : va_P D vwCl _ H := ro_keep hP hk1
              refine lv_i2l (v := r_37.toInt64) hx hb dB_36_2_30.2.2.1.2 rfl ?_
              have q_51 : (r_37.toInt64).toInt = r_37.toInt := Int32.toInt_toInt64 r_37
              refine lv_ladd hx hb dB_36_2_30.2.2.2.1 ?_
              refine lv_topl (fun y_38 ey_38 => ?_)
              refine va_put (ci := 11) (v := .long y_38) (ty := .long) (C := RX11) (T := TX11) (N := 12) hx hb hts (fun _ h => List.mem_cons_of_mem _ (List.mem_append_left _ (List.mem_append_right _ h))) tyX11 tyX11_ok nmX11 hown hK.1 hP hD hS 0 rfl rfl 10 (by decide) (hts (.fieldLink RX11 87 "CutAtlas" "traced" "J") (List.mem_of_getElem? (i := 4) rfl)) (fun _ h9 => h9) rfl (by decide +kernel) rfl rfl (Nat.le_of_ble_eq_true rfl) dB_36_2_30.2.2.2.2 (fun H locs hP hD hS => ?_)
              refine pd_K [ob11_0_ xo xk xn xc xh xt xw xm xp pf ph y_38 fi, ob3_0_ xn vp vn n1 n2 n3 n4 n5, ai_ cy n1 40 fk, ai_ cy n4 40 fw, ai_ cy n5 40 fp, aq_ cy 3 xk 5 (kf_ k0 k1 k2 k3 k4), ob6_0_ k0, ob5_0_ k1, ob9_0_ k2, ob2_0_ k3, ob8_0_ k4] hP hD (fun hP hD => ?_)
              refine lv_aload_n hx hb dB_36_2_31.1.1.1.1 rfl (lv_at hl 0 rfl) ?_
              refine lv_aload_n hx hb dB_36_2_31.1.1.1.2 rfl (lv_at hl 1 rfl) ?_
              refine va_get (ci := 11) (v := .ref xn) (C := RX11) (T := TX11) (N := 12) hx hb hts (fun _ h => List.mem_cons_of_mem _ (List.mem_append_left _ (List.mem_append_right _ h))) hown hK.1 hP 0 rfl rfl 1 (by decide) (hts (.fieldLink RX11 31 "CutAtlas" "net" "LCutAtlas$Net;") (List.mem_of_getElem? (i := 1) rfl)) (fun _ h9 => h9) rfl dB_36_2_31.1.1.2.1 ?_
              refine va_get (ci := 3) (v := .ref n5) (C := RX3) (T := TX3) (N := 7) hx hb hts (fun _ h => List.mem_cons_of_mem _ (List.mem_append_right _ h)) hown hK.1 hP 1 rfl rfl 6 (by decide) (hts (.fieldLink RX11 119 "CutAtlas$Net" "prices" "[I") (List.mem_of_getElem? (i := 5) rfl)) (fun _ h9 => h9) rfl dB_36_2_31.1.1.2.2 ?_
              refine lv_iload_n hx hb dB_36_2_31.1.2.1.1 rfl (lv_at hl 2 rfl) ?_
              refine va_iald hx hb hK.1 hP 4 0 rfl rfl (i := a1) h_6 dB_36_2_31.1.2.1.2 ?_
              refine lv_topi (fun y_40 ey_40 => ?_)
              have ky_40 : y_40.toInt = (fp a1.toNatClampNeg).toInt := by rw [ey_40]
              have ry_40 : 0 ≤ y_40.toInt ∧ y_40.toInt ≤ 100 := by rw [ey_40]; exact r_fp _ (in_lt h_6)
              refine ct_R hP hD [] [] (by decide) rfl (fun hPc hDw => ?_)
              have hFc := va_free (wc := []) hD hS hA [] rfl
              refine va_calli (va_runU (As := [.int y_40]) (rest := []) ⟨hx, hb, hml, hown, hts⟩ (c_X6_costs2 l D cy H.size k1 y_40) (va_cwU 1 hts gX11_ask_X6_costs_u122X5 rfl rfl rfl rfl (by decide +kernel) ⟨Nat.le_of_ble_eq_true rfl, Nat.le_of_ble_eq_true rfl⟩) ⟨bl_, va_recvX hK.1 hP (ci := 5) (q0 := 7) rfl rfl, fun U hU hW => ⟨rfl, by rw [hU], by rw [hU]; exact hPc, kk_mv hW hK, hDw⟩⟩ rfl rfl hl.1 rfl (lv_room (Nat.le_of_ble_eq_true rfl)) dB_36_2_31.1.2.2.1 ⟨Nat.le_of_ble_eq_true rfl, Nat.le_of_ble_eq_true rfl⟩) hS (fun q _ h => hFc q h) hFc (fun r_41 u t H locs ht hvm hw hB hz1 hk1 hS => ?_)
              have hP : va_P D vwCl _ H := ro_keep hP hk1
              obtain ⟨f0_r_41, f1_r_41⟩ := hw
              rw [hQ]
              exact W.iret (v := r_41) hx hb hr (fun t ht hW => ⟨⟨r_41, (), rfl, (by unfold akI; (repeat' (first | with_reducible refine if_n (by omega) ?_ | with_reducible refine if_ns (by omega) ?_ | with_reducible refine if_nz (by omega) ?_ | with_reducible exact if_p (by omega) (by omega) | with_reducible exact if_ps (by omega) (by omega) | with_reducible exact if_pz (by omega) (by omega))) <;> omega), y_38, by rw [ht]; exact hP, hD⟩, hS.F ht⟩) hS.2.2 dB_36_2_31.1.2.2.2
          · refine va_aldq hx hb hK.1 hP 5 3 rfl rfl (i := 2) (by unfold vp_in; decide) dB_36_2_30.1.1.2.2 ?_
            refine lv_topv (v' := .ref k2) (by simp [va_up, va_rf, mf_, cl_0, cl_1, cl_2, cl_3, cl_4, kf_]) ?_
            refine lv_astore_n (lv' := [(3, .ref k2), (0, .ref xo), (1, .int a1), (2, .int a2)]) hx hb dB_36_2_30.1.2.1.1 rfl hl (by decide) rfl (fun ls hl => ?_)
            refine lv_iload_n hx hb dB_36_2_30.1.2.1.2 rfl (lv_at hl 3 rfl) ?_
            refine lv_iconst (v := 2) hx hb dB_36_2_30.1.2.2.1 (by decide) ?_
            refine lv_icmp_ne (tgt := 70) hx hb dB_36_2_30.1.2.2.2 (by decide) (fun c_42 => ?_) (fun c_42 => ?_)
            · have t_42 : ¬ a2.toInt = (2 : Int32).toInt := fun h => c_42 (Int32.toInt_inj.mp h)
              refine lv_iload_n hx hb dB_36_2_31.2.1.1.1 rfl (lv_at hl 3 rfl) ?_
              refine lv_if_ne (tgt := 78) hx hb dB_36_2_31.2.1.1.2 (by decide) (fun c_43 => ?_) (fun c_43 => ?_)
              · have t_43 : ¬ a2.toInt = (0 : Int32).toInt := fun h => c_43 (Int32.toInt_inj.mp h)
                refine lv_iconst (v := 0) hx hb dB_36_2_31.2.2.1.1 (by decide) ?_
                refine lv_istore (lv' := [(4, .int 0), (3, .ref k2), (0, .ref xo), (1, .int a1), (2, .int a2)]) hx hb dB_36_2_31.2.2.1.2 hl (by decide) rfl (fun ls hl => ?_)
                refine lv_aload_n hx hb dB_36_2_31.2.2.2.1 rfl (lv_at hl 2 rfl) ?_
                refine lv_dup hx hb dB_36_2_31.2.2.2.2 rfl ?_
                refine va_get (ci := 11) (v := .long tr) (C := RX11) (T := TX11) (N := 12) hx hb hts (fun _ h => List.mem_cons_of_mem _ (List.mem_append_left _ (List.mem_append_right _ h))) hown hK.1 hP 0 rfl rfl 10 (by decide) (hts (.fieldLink RX11 87 "CutAtlas" "traced" "J") (List.mem_of_getElem? (i := 4) rfl)) (fun _ h9 => h9) rfl dB_36_2_32.1.1.1.1 ?_
                refine lv_aload_n hx hb dB_36_2_32.1.1.1.2 rfl (lv_at hl 1 rfl) ?_
                refine lv_iload hx hb dB_36_2_32.1.1.2.1 (lv_at hl 0 rfl) ?_
                refine ct_R hP hD [] [] (by decide) rfl (fun hPc hDw => ?_)
                have hFc := va_free (wc := []) hD hS hA [] rfl
                refine va_calli (va_runU (As := [.int 0]) (rest := [.long tr, .ref xo]) ⟨hx, hb, hml, hown, hts⟩ (c_X9_letsMark l D cy H.size k2 (0 : Int32)) (va_cwO 1 hts gX11_ask_X9_letsMark_u161X9 rfl rfl rfl (b0 := cX6_letsMark) (m0 := 2) (r0 := (some .int)) (by decide +kernel) (by decide +kernel) ⟨Nat.le_of_ble_eq_true rfl, Nat.le_of_ble_eq_true rfl⟩) ⟨bl_, va_recvX hK.1 hP (ci := 9) (q0 := 8) rfl rfl, fun U hU hW => ⟨rfl, by rw [hU], by rw [hU]; exact hPc, kk_mv hW hK, hDw⟩⟩ rfl rfl hl.1 rfl (lv_room (Nat.le_of_ble_eq_true rfl)) dB_36_2_32.1.1.2.2 ⟨Nat.le_of_ble_eq_true rfl, Nat.le_of_ble_eq_true rfl⟩) hS (fun q _ h => hFc q h) hFc (fun r_44 u t H locs ht hvm hw hB hz1 hk1 hS => ?_)
                have hP : va_P D vwCl _ H := ro_keep hP hk1
                refine lv_i2l (v := r_44.toInt64) hx hb dB_36_2_32.1.2.1.1 rfl ?_
                have q_92 : (r_44.toInt64).toInt = r_44.toInt := Int32.toInt_toInt64 r_44
                refine lv_ladd hx hb dB_36_2_32.1.2.1.2 ?_
                refine lv_topl (fun y_45 ey_45 => ?_)
                refine va_put (ci := 11) (v := .long y_45) (ty := .long) (C := RX11) (T := TX11) (N := 12) hx hb hts (fun _ h => List.mem_cons_of_mem _ (List.mem_append_left _ (List.mem_append_right _ h))) tyX11 tyX11_ok nmX11 hown hK.1 hP hD hS 0 rfl rfl 10 (by decide) (hts (.fieldLink RX11 87 "CutAtlas" "traced" "J") (List.mem_of_getElem? (i := 4) rfl)) (fun _ h9 => h9) rfl (by decide +kernel) rfl rfl (Nat.le_of_ble_eq_true rfl) dB_36_2_32.1.2.2.1 (fun H locs hP hD hS => ?_)
                refine pd_K [ob11_0_ xo xk xn xc xh xt xw xm xp pf ph y_45 fi, ob3_0_ xn vp vn n1 n2 n3 n4 n5, ai_ cy n1 40 fk, ai_ cy n4 40 fw, ai_ cy n5 40 fp, aq_ cy 3 xk 5 (kf_ k0 k1 k2 k3 k4), ob6_0_ k0, ob5_0_ k1, ob9_0_ k2, ob2_0_ k3, ob8_0_ k4] hP hD (fun hP hD => ?_)
                refine lv_aload_n hx hb dB_36_2_32.1.2.2.2 rfl (lv_at hl 1 rfl) ?_
                refine lv_aload_n hx hb dB_36_2_32.2.1.1.1 rfl (lv_at hl 2 rfl) ?_
                refine va_get (ci := 11) (v := .ref xn) (C := RX11) (T := TX11) (N := 12) hx hb hts (fun _ h => List.mem_cons_of_mem _ (List.mem_append_left _ (List.mem_append_right _ h))) hown hK.1 hP 0 rfl rfl 1 (by decide) (hts (.fieldLink RX11 31 "CutAtlas" "net" "LCutAtlas$Net;") (List.mem_of_getElem? (i := 1) rfl)) (fun _ h9 => h9) rfl dB_36_2_32.2.1.1.2 ?_
                refine va_get (ci := 3) (v := .ref n4) (C := RX3) (T := TX3) (N := 7) hx hb hts (fun _ h => List.mem_cons_of_mem _ (List.mem_append_right _ h)) hown hK.1 hP 1 rfl rfl 5 (by decide) (hts (.fieldLink RX11 129 "CutAtlas$Net" "widths" "[I") (List.mem_of_getElem? (i := 6) rfl)) (fun _ h9 => h9) rfl dB_36_2_32.2.1.2.1 ?_
                refine lv_iload_n hx hb dB_36_2_32.2.1.2.2 rfl (lv_at hl 3 rfl) ?_
                refine va_iald hx hb hK.1 hP 3 0 rfl rfl (i := a1) h_6 dB_36_2_32.2.2.1.1 ?_
                refine lv_topi (fun y_47 ey_47 => ?_)
                have ky_47 : y_47.toInt = (fw a1.toNatClampNeg).toInt := by rw [ey_47]
                refine lv_iload hx hb dB_36_2_32.2.2.1.2 (lv_at hl 0 rfl) ?_
                refine ct_R hP hD [] [] (by decide) rfl (fun hPc hDw => ?_)
                have hFc := va_free (wc := []) hD hS hA [] rfl
                refine va_calli (va_runU (As := [.int y_47, .int 0]) (rest := []) ⟨hx, hb, hml, hown, hts⟩ (c_X9_lets2 l D cy H.size k2 y_47 (0 : Int32)) (va_cwO 2 hts gX11_ask_X9_lets_u165X9 rfl rfl rfl (b0 := cX6_lets) (m0 := 3) (r0 := (some .int)) (by decide +kernel) (by decide +kernel) ⟨Nat.le_of_ble_eq_true rfl, Nat.le_of_ble_eq_true rfl⟩) ⟨bl_, va_recvX hK.1 hP (ci := 9) (q0 := 8) rfl rfl, fun U hU hW => ⟨rfl, by rw [hU], by rw [hU]; exact hPc, kk_mv hW hK, hDw⟩⟩ rfl rfl hl.1 rfl (lv_room (Nat.le_of_ble_eq_true rfl)) dB_36_2_32.2.2.2.1 ⟨Nat.le_of_ble_eq_true rfl, Nat.le_of_ble_eq_true rfl⟩) hS (fun q _ h => hFc q h) hFc (fun r_48 u t H locs ht hvm hw hB hz1 hk1 hS => ?_)
                have hP : va_P D vwCl _ H := ro_keep hP hk1
                have f0_r_48 := hw
                rw [hQ]
                exact W.iret (v := r_48) hx hb hr (fun t ht hW => ⟨⟨r_48, (), rfl, (by unfold akI; (repeat' (first | with_reducible refine if_n (by omega) ?_ | with_reducible refine if_ns (by omega) ?_ | with_reducible refine if_nz (by omega) ?_ | with_reducible exact if_p (by omega) (by omega) | with_reducible exact if_ps (by omega) (by omega) | with_reducible exact if_pz (by omega) (by omega))) <;> omega), y_45, by rw [ht]; exact hP, hD⟩, hS.F ht⟩) hS.2.2 dB_36_2_32.2.2.2.2
              · have t_43 : a2.toInt = (0 : Int32).toInt := congrArg Int32.toInt c_43
                refine lv_iconst (v := 1) hx hb dB_36_2_31.2.1.2.1 (by decide) ?_
                refine lv_goto (tgt := 79) hx hb dB_36_2_31.2.1.2.2 (by decide) ?_
                refine lv_istore (lv' := [(4, .int 1), (3, .ref k2), (0, .ref xo), (1, .int a1), (2, .int a2)]) hx hb dB_36_2_31.2.2.1.2 hl (by decide) rfl (fun ls hl => ?_)
                refine lv_aload_n hx hb dB_36_2_31.2.2.2.1 rfl (lv_at hl 2 rfl) ?_
                refine lv_dup hx hb dB_36_2_31.2.2.2.2 rfl ?_
                refine va_get (ci := 11) (v := .long tr) (C := RX11) (T := TX11) (N := 12) hx hb hts (fun _ h => List.mem_cons_of_mem _ (List.mem_append_left _ (List.mem_append_right _ h))) hown hK.1 hP 0 rfl rfl 10 (by decide) (hts (.fieldLink RX11 87 "CutAtlas" "traced" "J") (List.mem_of_getElem? (i := 4) rfl)) (fun _ h9 => h9) rfl dB_36_2_32.1.1.1.1 ?_
                refine lv_aload_n hx hb dB_36_2_32.1.1.1.2 rfl (lv_at hl 1 rfl) ?_
                refine lv_iload hx hb dB_36_2_32.1.1.2.1 (lv_at hl 0 rfl) ?_
                refine ct_R hP hD [] [] (by decide) rfl (fun hPc hDw => ?_)
                have hFc := va_free (wc := []) hD hS hA [] rfl
                refine va_calli (va_runU (As := [.int 1]) (rest := [.long tr, .ref xo]) ⟨hx, hb, hml, hown, hts⟩ (c_X9_letsMark l D cy H.size k2 (1 : Int32)) (va_cwO 1 hts gX11_ask_X9_letsMark_u161X9 rfl rfl rfl (b0 := cX6_letsMark) (m0 := 2) (r0 := (some .int)) (by decide +kernel) (by decide +kernel) ⟨Nat.le_of_ble_eq_true rfl, Nat.le_of_ble_eq_true rfl⟩) ⟨bl_, va_recvX hK.1 hP (ci := 9) (q0 := 8) rfl rfl, fun U hU hW => ⟨rfl, by rw [hU], by rw [hU]; exact hPc, kk_mv hW hK, hDw⟩⟩ rfl rfl hl.1 rfl (lv_room (Nat.le_of_ble_eq_true rfl)) dB_36_2_32.1.1.2.2 ⟨Nat.le_of_ble_eq_true rfl, Nat.le_of_ble_eq_true rfl⟩) hS (fun q _ h => hFc q h) hFc (fun r_49 u t H locs ht hvm hw hB hz1 hk1 hS => ?_)
                have hP : va_P D vwCl _ H := ro_keep hP hk1
                refine lv_i2l (v := r_49.toInt64) hx hb dB_36_2_32.1.2.1.1 rfl ?_
                have q_92 : (r_49.toInt64).toInt = r_49.toInt := Int32.toInt_toInt64 r_49
                refine lv_ladd hx hb dB_36_2_32.1.2.1.2 ?_
                refine lv_topl (fun y_50 ey_50 => ?_)
                refine va_put (ci := 11) (v := .long y_50) (ty := .long) (C := RX11) (T := TX11) (N := 12) hx hb hts (fun _ h => List.mem_cons_of_mem _ (List.mem_append_left _ (List.mem_append_right _ h))) tyX11 tyX11_ok nmX11 hown hK.1 hP hD hS 0 rfl rfl 10 (by decide) (hts (.fieldLink RX11 87 "CutAtlas" "traced" "J") (List.mem_of_getElem? (i := 4) rfl)) (fun _ h9 => h9) rfl (by decide +kernel) rfl rfl (Nat.le_of_ble_eq_true rfl) dB_36_2_32.1.2.2.1 (fun H locs hP hD hS => ?_)
                refine pd_K [ob11_0_ xo xk xn xc xh xt xw xm xp pf ph y_50 fi, ob3_0_ xn vp vn n1 n2 n3 n4 n5, ai_ cy n1 40 fk, ai_ cy n4 40 fw, ai_ cy n5 40 fp, aq_ cy 3 xk 5 (kf_ k0 k1 k2 k3 k4), ob6_0_ k0, ob5_0_ k1, ob9_0_ k2, ob2_0_ k3, ob8_0_ k4] hP hD (fun hP hD => ?_)
                refine lv_aload_n hx hb dB_36_2_32.1.2.2.2 rfl (lv_at hl 1 rfl) ?_
                refine lv_aload_n hx hb dB_36_2_32.2.1.1.1 rfl (lv_at hl 2 rfl) ?_
                refine va_get (ci := 11) (v := .ref xn) (C := RX11) (T := TX11) (N := 12) hx hb hts (fun _ h => List.mem_cons_of_mem _ (List.mem_append_left _ (List.mem_append_right _ h))) hown hK.1 hP 0 rfl rfl 1 (by decide) (hts (.fieldLink RX11 31 "CutAtlas" "net" "LCutAtlas$Net;") (List.mem_of_getElem? (i := 1) rfl)) (fun _ h9 => h9) rfl dB_36_2_32.2.1.1.2 ?_
                refine va_get (ci := 3) (v := .ref n4) (C := RX3) (T := TX3) (N := 7) hx hb hts (fun _ h => List.mem_cons_of_mem _ (List.mem_append_right _ h)) hown hK.1 hP 1 rfl rfl 5 (by decide) (hts (.fieldLink RX11 129 "CutAtlas$Net" "widths" "[I") (List.mem_of_getElem? (i := 6) rfl)) (fun _ h9 => h9) rfl dB_36_2_32.2.1.2.1 ?_
                refine lv_iload_n hx hb dB_36_2_32.2.1.2.2 rfl (lv_at hl 3 rfl) ?_
                refine va_iald hx hb hK.1 hP 3 0 rfl rfl (i := a1) h_6 dB_36_2_32.2.2.1.1 ?_
                refine lv_topi (fun y_52 ey_52 => ?_)
                have ky_52 : y_52.toInt = (fw a1.toNatClampNeg).toInt := by rw [ey_52]
                refine lv_iload hx hb dB_36_2_32.2.2.1.2 (lv_at hl 0 rfl) ?_
                refine ct_R hP hD [] [] (by decide) rfl (fun hPc hDw => ?_)
                have hFc := va_free (wc := []) hD hS hA [] rfl
                refine va_calli (va_runU (As := [.int y_52, .int 1]) (rest := []) ⟨hx, hb, hml, hown, hts⟩ (c_X9_lets2 l D cy H.size k2 y_52 (1 : Int32)) (va_cwO 2 hts gX11_ask_X9_lets_u165X9 rfl rfl rfl (b0 := cX6_lets) (m0 := 3) (r0 := (some .int)) (by decide +kernel) (by decide +kernel) ⟨Nat.le_of_ble_eq_true rfl, Nat.le_of_ble_eq_true rfl⟩) ⟨bl_, va_recvX hK.1 hP (ci := 9) (q0 := 8) rfl rfl, fun U hU hW => ⟨rfl, by rw [hU], by rw [hU]; exact hPc, kk_mv hW hK, hDw⟩⟩ rfl rfl hl.1 rfl (lv_room (Nat.le_of_ble_eq_true rfl)) dB_36_2_32.2.2.2.1 ⟨Nat.le_of_ble_eq_true rfl, Nat.le_of_ble_eq_true rfl⟩) hS (fun q _ h => hFc q h) hFc (fun r_53 u t H locs ht hvm hw hB hz1 hk1 hS => ?_)
                have hP : va_P D vwCl _ H := ro_keep hP hk1
                have f0_r_53 := hw
                rw [hQ]
                exact W.iret (v := r_53) hx hb hr (fun t ht hW => ⟨⟨r_53, (), rfl, (by unfold akI; (repeat' (first | with_reducible refine if_n (by omega) ?_ | with_reducible refine if_ns (by omega) ?_ | with_reducible refine if_nz (by omega) ?_ | with_reducible exact if_p (by omega) (by omega) | with_reducible exact if_ps (by omega) (by omega) | with_reducible exact if_pz (by omega) (by omega))) <;> omega), y_50, by rw [ht]; exact hP, hD⟩, hS.F ht⟩) hS.2.2 dB_36_2_32.2.2.2.2
            · have t_42 : a2.toInt = (2 : Int32).toInt := congrArg Int32.toInt c_42
              refine lv_aload_n hx hb dB_36_2_30.2.1.1.1 rfl (lv_at hl 1 rfl) ?_
              refine lv_dup hx hb dB_36_2_30.2.1.1.2 rfl ?_
              refine va_get (ci := 11) (v := .long tr) (C := RX11) (T := TX11) (N := 12) hx hb hts (fun _ h => List.mem_cons_of_mem _ (List.mem_append_left _ (List.mem_append_right _ h))) hown hK.1 hP 0 rfl rfl 10 (by decide) (hts (.fieldLink RX11 87 "CutAtlas" "traced" "J") (List.mem_of_getElem? (i := 4) rfl)) (fun _ h9 => h9) rfl dB_36_2_30.2.1.2.1 ?_
              refine lv_aload_n hx hb dB_36_2_30.2.1.2.2 rfl (lv_at hl 0 rfl) ?_
              refine ct_R hP hD [] [] (by decide) rfl (fun hPc hDw => ?_)
              have hFc := va_free (wc := []) hD hS hA [] rfl
              refine va_calli (va_runU (As := []) (rest := [.long tr, .ref xo]) ⟨hx, hb, hml, hown, hts⟩ (c_X6_costsMark l D cy H.size k2) (va_cwU 0 hts gX11_ask_X6_costsMark_u132X9 rfl rfl rfl rfl (by decide +kernel) ⟨Nat.le_of_ble_eq_true rfl, Nat.le_of_ble_eq_true rfl⟩) ⟨bl_, va_recvX hK.1 hP (ci := 9) (q0 := 8) rfl rfl, fun U hU hW => ⟨rfl, by rw [hU], by rw [hU]; exact hPc, kk_mv hW hK, hDw⟩⟩ rfl rfl hl.1 rfl (lv_room (Nat.le_of_ble_eq_true rfl)) dB_36_2_30.2.2.1.1 ⟨Nat.le_of_ble_eq_true rfl, Nat.le_of_ble_eq_true rfl⟩) hS (fun q _ h => hFc q h) hFc (fun r_54 u t H locs ht hvm hw hB hz1 hk1 hS => ?_)
              have hP : va_P D vwCl _ H := ro_keep hP hk1
              refine lv_i2l (v := r_54.toInt64) hx hb dB_36_2_30.2.2.1.2 rfl ?_
              have q_51 : (r_54.toInt64).toInt = r_54.toInt := Int32.toInt_toInt64 r_54
              refine lv_ladd hx hb dB_36_2_30.2.2.2.1 ?_
              refine lv_topl (fun y_55 ey_55 => ?_)
              refine va_put (ci := 11) (v := .long y_55) (ty := .long) (C := RX11) (T := TX11) (N := 12) hx hb hts (fun _ h => List.mem_cons_of_mem _ (List.mem_append_left _ (List.mem_append_right _ h))) tyX11 tyX11_ok nmX11 hown hK.1 hP hD hS 0 rfl rfl 10 (by decide) (hts (.fieldLink RX11 87 "CutAtlas" "traced" "J") (List.mem_of_getElem? (i := 4) rfl)) (fun _ h9 => h9) rfl (by decide +kernel) rfl rfl (Nat.le_of_ble_eq_true rfl) dB_36_2_30.2.2.2.2 (fun H locs hP hD hS => ?_)
              refine pd_K [ob11_0_ xo xk xn xc xh xt xw xm xp pf ph y_55 fi, ob3_0_ xn vp vn n1 n2 n3 n4 n5, ai_ cy n1 40 fk, ai_ cy n4 40 fw, ai_ cy n5 40 fp, aq_ cy 3 xk 5 (kf_ k0 k1 k2 k3 k4), ob6_0_ k0, ob5_0_ k1, ob9_0_ k2, ob2_0_ k3, ob8_0_ k4] hP hD (fun hP hD => ?_)
              refine lv_aload_n hx hb dB_36_2_31.1.1.1.1 rfl (lv_at hl 0 rfl) ?_
              refine lv_aload_n hx hb dB_36_2_31.1.1.1.2 rfl (lv_at hl 1 rfl) ?_
              refine va_get (ci := 11) (v := .ref xn) (C := RX11) (T := TX11) (N := 12) hx hb hts (fun _ h => List.mem_cons_of_mem _ (List.mem_append_left _ (List.mem_append_right _ h))) hown hK.1 hP 0 rfl rfl 1 (by decide) (hts (.fieldLink RX11 31 "CutAtlas" "net" "LCutAtlas$Net;") (List.mem_of_getElem? (i := 1) rfl)) (fun _ h9 => h9) rfl dB_36_2_31.1.1.2.1 ?_
              refine va_get (ci := 3) (v := .ref n5) (C := RX3) (T := TX3) (N := 7) hx hb hts (fun _ h => List.mem_cons_of_mem _ (List.mem_append_right _ h)) hown hK.1 hP 1 rfl rfl 6 (by decide) (hts (.fieldLink RX11 119 "CutAtlas$Net" "prices" "[I") (List.mem_of_getElem? (i := 5) rfl)) (fun _ h9 => h9) rfl dB_36_2_31.1.1.2.2 ?_
              refine lv_iload_n hx hb dB_36_2_31.1.2.1.1 rfl (lv_at hl 2 rfl) ?_
              refine va_iald hx hb hK.1 hP 4 0 rfl rfl (i := a1) h_6 dB_36_2_31.1.2.1.2 ?_
              refine lv_topi (fun y_57 ey_57 => ?_)
              have ky_57 : y_57.toInt = (fp a1.toNatClampNeg).toInt := by rw [ey_57]
              have ry_57 : 0 ≤ y_57.toInt ∧ y_57.toInt ≤ 100 := by rw [ey_57]; exact r_fp _ (in_lt h_6)
              refine ct_R hP hD [] [] (by decide) rfl (fun hPc hDw => ?_)
              have hFc := va_free (wc := []) hD hS hA [] rfl
              refine va_calli (va_runU (As := [.int y_57]) (rest := []) ⟨hx, hb, hml, hown, hts⟩ (c_X6_costs2 l D cy H.size k2 y_57) (va_cwU 1 hts gX11_ask_X6_costs_u122X9 rfl rfl rfl rfl (by decide +kernel) ⟨Nat.le_of_ble_eq_true rfl, Nat.le_of_ble_eq_true rfl⟩) ⟨bl_, va_recvX hK.1 hP (ci := 9) (q0 := 8) rfl rfl, fun U hU hW => ⟨rfl, by rw [hU], by rw [hU]; exact hPc, kk_mv hW hK, hDw⟩⟩ rfl rfl hl.1 rfl (lv_room (Nat.le_of_ble_eq_true rfl)) dB_36_2_31.1.2.2.1 ⟨Nat.le_of_ble_eq_true rfl, Nat.le_of_ble_eq_true rfl⟩) hS (fun q _ h => hFc q h) hFc (fun r_58 u t H locs ht hvm hw hB hz1 hk1 hS => ?_)
              have hP : va_P D vwCl _ H := ro_keep hP hk1
              obtain ⟨f0_r_58, f1_r_58⟩ := hw
              rw [hQ]
              exact W.iret (v := r_58) hx hb hr (fun t ht hW => ⟨⟨r_58, (), rfl, (by unfold akI; (repeat' (first | with_reducible refine if_n (by omega) ?_ | with_reducible refine if_ns (by omega) ?_ | with_reducible refine if_nz (by omega) ?_ | with_reducible exact if_p (by omega) (by omega) | with_reducible exact if_ps (by omega) (by omega) | with_reducible exact if_pz (by omega) (by omega))) <;> omega), y_55, by rw [ht]; exact hP, hD⟩, hS.F ht⟩) hS.2.2 dB_36_2_31.1.2.2.2
          · refine va_aldq hx hb hK.1 hP 5 3 rfl rfl (i := 3) (by unfold vp_in; decide) dB_36_2_30.1.1.2.2 ?_
            refine lv_topv (v' := .ref k3) (by simp [va_up, va_rf, mf_, cl_0, cl_1, cl_2, cl_3, cl_4, kf_]) ?_
            refine lv_astore_n (lv' := [(3, .ref k3), (0, .ref xo), (1, .int a1), (2, .int a2)]) hx hb dB_36_2_30.1.2.1.1 rfl hl (by decide) rfl (fun ls hl => ?_)
            refine lv_iload_n hx hb dB_36_2_30.1.2.1.2 rfl (lv_at hl 3 rfl) ?_
            refine lv_iconst (v := 2) hx hb dB_36_2_30.1.2.2.1 (by decide) ?_
            refine lv_icmp_ne (tgt := 70) hx hb dB_36_2_30.1.2.2.2 (by decide) (fun c_59 => ?_) (fun c_59 => ?_)
            · have t_59 : ¬ a2.toInt = (2 : Int32).toInt := fun h => c_59 (Int32.toInt_inj.mp h)
              refine lv_iload_n hx hb dB_36_2_31.2.1.1.1 rfl (lv_at hl 3 rfl) ?_
              refine lv_if_ne (tgt := 78) hx hb dB_36_2_31.2.1.1.2 (by decide) (fun c_60 => ?_) (fun c_60 => ?_)
              · have t_60 : ¬ a2.toInt = (0 : Int32).toInt := fun h => c_60 (Int32.toInt_inj.mp h)
                refine lv_iconst (v := 0) hx hb dB_36_2_31.2.2.1.1 (by decide) ?_
                refine lv_istore (lv' := [(4, .int 0), (3, .ref k3), (0, .ref xo), (1, .int a1), (2, .int a2)]) hx hb dB_36_2_31.2.2.1.2 hl (by decide) rfl (fun ls hl => ?_)
                refine lv_aload_n hx hb dB_36_2_31.2.2.2.1 rfl (lv_at hl 2 rfl) ?_
                refine lv_dup hx hb dB_36_2_31.2.2.2.2 rfl ?_
                refine va_get (ci := 11) (v := .long tr) (C := RX11) (T := TX11) (N := 12) hx hb hts (fun _ h => List.mem_cons_of_mem _ (List.mem_append_left _ (List.mem_append_right _ h))) hown hK.1 hP 0 rfl rfl 10 (by decide) (hts (.fieldLink RX11 87 "CutAtlas" "traced" "J") (List.mem_of_getElem? (i := 4) rfl)) (fun _ h9 => h9) rfl dB_36_2_32.1.1.1.1 ?_
                refine lv_aload_n hx hb dB_36_2_32.1.1.1.2 rfl (lv_at hl 1 rfl) ?_
                refine lv_iload hx hb dB_36_2_32.1.1.2.1 (lv_at hl 0 rfl) ?_
                refine ct_R hP hD [] [] (by decide) rfl (fun hPc hDw => ?_)
                have hFc := va_free (wc := []) hD hS hA [] rfl
                refine va_calli (va_runU (As := [.int 0]) (rest := [.long tr, .ref xo]) ⟨hx, hb, hml, hown, hts⟩ (c_X6_letsMark l D cy H.size k3 (0 : Int32)) (va_cwU 1 hts gX11_ask_X6_letsMark_u161X2 rfl rfl rfl rfl (by decide +kernel) ⟨Nat.le_of_ble_eq_true rfl, Nat.le_of_ble_eq_true rfl⟩) ⟨bl_, va_recvX hK.1 hP (ci := 2) (q0 := 9) rfl rfl, fun U hU hW => ⟨rfl, by rw [hU], by rw [hU]; exact hPc, kk_mv hW hK, hDw⟩⟩ rfl rfl hl.1 rfl (lv_room (Nat.le_of_ble_eq_true rfl)) dB_36_2_32.1.1.2.2 ⟨Nat.le_of_ble_eq_true rfl, Nat.le_of_ble_eq_true rfl⟩) hS (fun q _ h => hFc q h) hFc (fun r_61 u t H locs ht hvm hw hB hz1 hk1 hS => ?_)
                have hP : va_P D vwCl _ H := ro_keep hP hk1
                refine lv_i2l (v := r_61.toInt64) hx hb dB_36_2_32.1.2.1.1 rfl ?_
                have q_92 : (r_61.toInt64).toInt = r_61.toInt := Int32.toInt_toInt64 r_61
                refine lv_ladd hx hb dB_36_2_32.1.2.1.2 ?_
                refine lv_topl (fun y_62 ey_62 => ?_)
                refine va_put (ci := 11) (v := .long y_62) (ty := .long) (C := RX11) (T := TX11) (N := 12) hx hb hts (fun _ h => List.mem_cons_of_mem _ (List.mem_append_left _ (List.mem_append_right _ h))) tyX11 tyX11_ok nmX11 hown hK.1 hP hD hS 0 rfl rfl 10 (by decide) (hts (.fieldLink RX11 87 "CutAtlas" "traced" "J") (List.mem_of_getElem? (i := 4) rfl)) (fun _ h9 => h9) rfl (by decide +kernel) rfl rfl (Nat.le_of_ble_eq_true rfl) dB_36_2_32.1.2.2.1 (fun H locs hP hD hS => ?_)
                refine pd_K [ob11_0_ xo xk xn xc xh xt xw xm xp pf ph y_62 fi, ob3_0_ xn vp vn n1 n2 n3 n4 n5, ai_ cy n1 40 fk, ai_ cy n4 40 fw, ai_ cy n5 40 fp, aq_ cy 3 xk 5 (kf_ k0 k1 k2 k3 k4), ob6_0_ k0, ob5_0_ k1, ob9_0_ k2, ob2_0_ k3, ob8_0_ k4] hP hD (fun hP hD => ?_)
                refine lv_aload_n hx hb dB_36_2_32.1.2.2.2 rfl (lv_at hl 1 rfl) ?_
                refine lv_aload_n hx hb dB_36_2_32.2.1.1.1 rfl (lv_at hl 2 rfl) ?_
                refine va_get (ci := 11) (v := .ref xn) (C := RX11) (T := TX11) (N := 12) hx hb hts (fun _ h => List.mem_cons_of_mem _ (List.mem_append_left _ (List.mem_append_right _ h))) hown hK.1 hP 0 rfl rfl 1 (by decide) (hts (.fieldLink RX11 31 "CutAtlas" "net" "LCutAtlas$Net;") (List.mem_of_getElem? (i := 1) rfl)) (fun _ h9 => h9) rfl dB_36_2_32.2.1.1.2 ?_
                refine va_get (ci := 3) (v := .ref n4) (C := RX3) (T := TX3) (N := 7) hx hb hts (fun _ h => List.mem_cons_of_mem _ (List.mem_append_right _ h)) hown hK.1 hP 1 rfl rfl 5 (by decide) (hts (.fieldLink RX11 129 "CutAtlas$Net" "widths" "[I") (List.mem_of_getElem? (i := 6) rfl)) (fun _ h9 => h9) rfl dB_36_2_32.2.1.2.1 ?_
                refine lv_iload_n hx hb dB_36_2_32.2.1.2.2 rfl (lv_at hl 3 rfl) ?_
                refine va_iald hx hb hK.1 hP 3 0 rfl rfl (i := a1) h_6 dB_36_2_32.2.2.1.1 ?_
                refine lv_topi (fun y_64 ey_64 => ?_)
                have ky_64 : y_64.toInt = (fw a1.toNatClampNeg).toInt := by rw [ey_64]
                refine lv_iload hx hb dB_36_2_32.2.2.1.2 (lv_at hl 0 rfl) ?_
                refine ct_R hP hD [] [] (by decide) rfl (fun hPc hDw => ?_)
                have hFc := va_free (wc := []) hD hS hA [] rfl
                refine va_calli (va_runU (As := [.int y_64, .int 0]) (rest := []) ⟨hx, hb, hml, hown, hts⟩ (c_X6_lets2 l D cy H.size k3 y_64 (0 : Int32)) (va_cwU 2 hts gX11_ask_X6_lets_u165X2 rfl rfl rfl rfl (by decide +kernel) ⟨Nat.le_of_ble_eq_true rfl, Nat.le_of_ble_eq_true rfl⟩) ⟨bl_, va_recvX hK.1 hP (ci := 2) (q0 := 9) rfl rfl, fun U hU hW => ⟨rfl, by rw [hU], by rw [hU]; exact hPc, kk_mv hW hK, hDw⟩⟩ rfl rfl hl.1 rfl (lv_room (Nat.le_of_ble_eq_true rfl)) dB_36_2_32.2.2.2.1 ⟨Nat.le_of_ble_eq_true rfl, Nat.le_of_ble_eq_true rfl⟩) hS (fun q _ h => hFc q h) hFc (fun r_65 u t H locs ht hvm hw hB hz1 hk1 hS => ?_)
                have hP : va_P D vwCl _ H := ro_keep hP hk1
                obtain ⟨f0_r_65, f1_r_65⟩ := hw
                rw [hQ]
                exact W.iret (v := r_65) hx hb hr (fun t ht hW => ⟨⟨r_65, (), rfl, (by unfold akI; (repeat' (first | with_reducible refine if_n (by omega) ?_ | with_reducible refine if_ns (by omega) ?_ | with_reducible refine if_nz (by omega) ?_ | with_reducible exact if_p (by omega) (by omega) | with_reducible exact if_ps (by omega) (by omega) | with_reducible exact if_pz (by omega) (by omega))) <;> omega), y_62, by rw [ht]; exact hP, hD⟩, hS.F ht⟩) hS.2.2 dB_36_2_32.2.2.2.2
              · have t_60 : a2.toInt = (0 : Int32).toInt := congrArg Int32.toInt c_60
                refine lv_iconst (v := 1) hx hb dB_36_2_31.2.1.2.1 (by decide) ?_
                refine lv_goto (tgt := 79) hx hb dB_36_2_31.2.1.2.2 (by decide) ?_
                refine lv_istore (lv' := [(4, .int 1), (3, .ref k3), (0, .ref xo), (1, .int a1), (2, .int a2)]) hx hb dB_36_2_31.2.2.1.2 hl (by decide) rfl (fun ls hl => ?_)
                refine lv_aload_n hx hb dB_36_2_31.2.2.2.1 rfl (lv_at hl 2 rfl) ?_
                refine lv_dup hx hb dB_36_2_31.2.2.2.2 rfl ?_
                refine va_get (ci := 11) (v := .long tr) (C := RX11) (T := TX11) (N := 12) hx hb hts (fun _ h => List.mem_cons_of_mem _ (List.mem_append_left _ (List.mem_append_right _ h))) hown hK.1 hP 0 rfl rfl 10 (by decide) (hts (.fieldLink RX11 87 "CutAtlas" "traced" "J") (List.mem_of_getElem? (i := 4) rfl)) (fun _ h9 => h9) rfl dB_36_2_32.1.1.1.1 ?_
                refine lv_aload_n hx hb dB_36_2_32.1.1.1.2 rfl (lv_at hl 1 rfl) ?_
                refine lv_iload hx hb dB_36_2_32.1.1.2.1 (lv_at hl 0 rfl) ?_
                refine ct_R hP hD [] [] (by decide) rfl (fun hPc hDw => ?_)
                have hFc := va_free (wc := []) hD hS hA [] rfl
                refine va_calli (va_runU (As := [.int 1]) (rest := [.long tr, .ref xo]) ⟨hx, hb, hml, hown, hts⟩ (c_X6_letsMark l D cy H.size k3 (1 : Int32)) (va_cwU 1 hts gX11_ask_X6_letsMark_u161X2 rfl rfl rfl rfl (by decide +kernel) ⟨Nat.le_of_ble_eq_true rfl, Nat.le_of_ble_eq_true rfl⟩) ⟨bl_, va_recvX hK.1 hP (ci := 2) (q0 := 9) rfl rfl, fun U hU hW => ⟨rfl, by rw [hU], by rw [hU]; exact hPc, kk_mv hW hK, hDw⟩⟩ rfl rfl hl.1 rfl (lv_room (Nat.le_of_ble_eq_true rfl)) dB_36_2_32.1.1.2.2 ⟨Nat.le_of_ble_eq_true rfl, Nat.le_of_ble_eq_true rfl⟩) hS (fun q _ h => hFc q h) hFc (fun r_66 u t H locs ht hvm hw hB hz1 hk1 hS => ?_)
                have hP : va_P D vwCl _ H := ro_keep hP hk1
                refine lv_i2l (v := r_66.toInt64) hx hb dB_36_2_32.1.2.1.1 rfl ?_
                have q_92 : (r_66.toInt64).toInt = r_66.toInt := Int32.toInt_toInt64 r_66
                refine lv_ladd hx hb dB_36_2_32.1.2.1.2 ?_
                refine lv_topl (fun y_67 ey_67 => ?_)
                refine va_put (ci := 11) (v := .long y_67) (ty := .long) (C := RX11) (T := TX11) (N := 12) hx hb hts (fun _ h => List.mem_cons_of_mem _ (List.mem_append_left _ (List.mem_append_right _ h))) tyX11 tyX11_ok nmX11 hown hK.1 hP hD hS 0 rfl rfl 10 (by decide) (hts (.fieldLink RX11 87 "CutAtlas" "traced" "J") (List.mem_of_getElem? (i := 4) rfl)) (fun _ h9 => h9) rfl (by decide +kernel) rfl rfl (Nat.le_of_ble_eq_true rfl) dB_36_2_32.1.2.2.1 (fun H locs hP hD hS => ?_)
                refine pd_K [ob11_0_ xo xk xn xc xh xt xw xm xp pf ph y_67 fi, ob3_0_ xn vp vn n1 n2 n3 n4 n5, ai_ cy n1 40 fk, ai_ cy n4 40 fw, ai_ cy n5 40 fp, aq_ cy 3 xk 5 (kf_ k0 k1 k2 k3 k4), ob6_0_ k0, ob5_0_ k1, ob9_0_ k2, ob2_0_ k3, ob8_0_ k4] hP hD (fun hP hD => ?_)
                refine lv_aload_n hx hb dB_36_2_32.1.2.2.2 rfl (lv_at hl 1 rfl) ?_
                refine lv_aload_n hx hb dB_36_2_32.2.1.1.1 rfl (lv_at hl 2 rfl) ?_
                refine va_get (ci := 11) (v := .ref xn) (C := RX11) (T := TX11) (N := 12) hx hb hts (fun _ h => List.mem_cons_of_mem _ (List.mem_append_left _ (List.mem_append_right _ h))) hown hK.1 hP 0 rfl rfl 1 (by decide) (hts (.fieldLink RX11 31 "CutAtlas" "net" "LCutAtlas$Net;") (List.mem_of_getElem? (i := 1) rfl)) (fun _ h9 => h9) rfl dB_36_2_32.2.1.1.2 ?_
                refine va_get (ci := 3) (v := .ref n4) (C := RX3) (T := TX3) (N := 7) hx hb hts (fun _ h => List.mem_cons_of_mem _ (List.mem_append_right _ h)) hown hK.1 hP 1 rfl rfl 5 (by decide) (hts (.fieldLink RX11 129 "CutAtlas$Net" "widths" "[I") (List.mem_of_getElem? (i := 6) rfl)) (fun _ h9 => h9) rfl dB_36_2_32.2.1.2.1 ?_
                refine lv_iload_n hx hb dB_36_2_32.2.1.2.2 rfl (lv_at hl 3 rfl) ?_
                refine va_iald hx hb hK.1 hP 3 0 rfl rfl (i := a1) h_6 dB_36_2_32.2.2.1.1 ?_
                refine lv_topi (fun y_69 ey_69 => ?_)
                have ky_69 : y_69.toInt = (fw a1.toNatClampNeg).toInt := by rw [ey_69]
                refine lv_iload hx hb dB_36_2_32.2.2.1.2 (lv_at hl 0 rfl) ?_
                refine ct_R hP hD [] [] (by decide) rfl (fun hPc hDw => ?_)
                have hFc := va_free (wc := []) hD hS hA [] rfl
                refine va_calli (va_runU (As := [.int y_69, .int 1]) (rest := []) ⟨hx, hb, hml, hown, hts⟩ (c_X6_lets2 l D cy H.size k3 y_69 (1 : Int32)) (va_cwU 2 hts gX11_ask_X6_lets_u165X2 rfl rfl rfl rfl (by decide +kernel) ⟨Nat.le_of_ble_eq_true rfl, Nat.le_of_ble_eq_true rfl⟩) ⟨bl_, va_recvX hK.1 hP (ci := 2) (q0 := 9) rfl rfl, fun U hU hW => ⟨rfl, by rw [hU], by rw [hU]; exact hPc, kk_mv hW hK, hDw⟩⟩ rfl rfl hl.1 rfl (lv_room (Nat.le_of_ble_eq_true rfl)) dB_36_2_32.2.2.2.1 ⟨Nat.le_of_ble_eq_true rfl, Nat.le_of_ble_eq_true rfl⟩) hS (fun q _ h => hFc q h) hFc (fun r_70 u t H locs ht hvm hw hB hz1 hk1 hS => ?_)
                have hP : va_P D vwCl _ H := ro_keep hP hk1
                obtain ⟨f0_r_70, f1_r_70⟩ := hw
                rw [hQ]
                exact W.iret (v := r_70) hx hb hr (fun t ht hW => ⟨⟨r_70, (), rfl, (by unfold akI; (repeat' (first | with_reducible refine if_n (by omega) ?_ | with_reducible refine if_ns (by omega) ?_ | with_reducible refine if_nz (by omega) ?_ | with_reducible exact if_p (by omega) (by omega) | with_reducible exact if_ps (by omega) (by omega) | with_reducible exact if_pz (by omega) (by omega))) <;> omega), y_67, by rw [ht]; exact hP, hD⟩, hS.F ht⟩) hS.2.2 dB_36_2_32.2.2.2.2
            · have t_59 : a2.toInt = (2 : Int32).toInt := congrArg Int32.toInt c_59
              refine lv_aload_n hx hb dB_36_2_30.2.1.1.1 rfl (lv_at hl 1 rfl) ?_
              refine lv_dup hx hb dB_36_2_30.2.1.1.2 rfl ?_
              refine va_get (ci := 11) (v := .long tr) (C := RX11) (T := TX11) (N := 12) hx hb hts (fun _ h => List.mem_cons_of_mem _ (List.mem_append_left _ (List.mem_append_right _ h))) hown hK.1 hP 0 rfl rfl 10 (by decide) (hts (.fieldLink RX11 87 "CutAtlas" "traced" "J") (List.mem_of_getElem? (i := 4) rfl)) (fun _ h9 => h9) rfl dB_36_2_30.2.1.2.1 ?_
              refine lv_aload_n hx hb dB_36_2_30.2.1.2.2 rfl (lv_at hl 0 rfl) ?_
              refine ct_R hP hD [] [] (by decide) rfl (fun hPc hDw => ?_)
              have hFc := va_free (wc := []) hD hS hA [] rfl
              refine va_calli (va_runU (As := []) (rest := [.long tr, .ref xo]) ⟨hx, hb, hml, hown, hts⟩ (c_X2_costsMark l D cy H.size k3) (va_cwO 0 hts gX11_ask_X2_costsMark_u132X2 rfl rfl rfl (b0 := cX6_costsMark) (m0 := 1) (r0 := (some .int)) (by decide +kernel) (by decide +kernel) ⟨Nat.le_of_ble_eq_true rfl, Nat.le_of_ble_eq_true rfl⟩) ⟨bl_, va_recvX hK.1 hP (ci := 2) (q0 := 9) rfl rfl, fun U hU hW => ⟨rfl, by rw [hU], by rw [hU]; exact hPc, kk_mv hW hK, hDw⟩⟩ rfl rfl hl.1 rfl (lv_room (Nat.le_of_ble_eq_true rfl)) dB_36_2_30.2.2.1.1 ⟨Nat.le_of_ble_eq_true rfl, Nat.le_of_ble_eq_true rfl⟩) hS (fun q _ h => hFc q h) hFc (fun r_71 u t H locs ht hvm hw hB hz1 hk1 hS => ?_)
              have hP : va_P D vwCl _ H := ro_keep hP hk1
              refine lv_i2l (v := r_71.toInt64) hx hb dB_36_2_30.2.2.1.2 rfl ?_
              have q_51 : (r_71.toInt64).toInt = r_71.toInt := Int32.toInt_toInt64 r_71
              refine lv_ladd hx hb dB_36_2_30.2.2.2.1 ?_
              refine lv_topl (fun y_72 ey_72 => ?_)
              refine va_put (ci := 11) (v := .long y_72) (ty := .long) (C := RX11) (T := TX11) (N := 12) hx hb hts (fun _ h => List.mem_cons_of_mem _ (List.mem_append_left _ (List.mem_append_right _ h))) tyX11 tyX11_ok nmX11 hown hK.1 hP hD hS 0 rfl rfl 10 (by decide) (hts (.fieldLink RX11 87 "CutAtlas" "traced" "J") (List.mem_of_getElem? (i := 4) rfl)) (fun _ h9 => h9) rfl (by decide +kernel) rfl rfl (Nat.le_of_ble_eq_true rfl) dB_36_2_30.2.2.2.2 (fun H locs hP hD hS => ?_)
              refine pd_K [ob11_0_ xo xk xn xc xh xt xw xm xp pf ph y_72 fi, ob3_0_ xn vp vn n1 n2 n3 n4 n5, ai_ cy n1 40 fk, ai_ cy n4 40 fw, ai_ cy n5 40 fp, aq_ cy 3 xk 5 (kf_ k0 k1 k2 k3 k4), ob6_0_ k0, ob5_0_ k1, ob9_0_ k2, ob2_0_ k3, ob8_0_ k4] hP hD (fun hP hD => ?_)
              refine lv_aload_n hx hb dB_36_2_31.1.1.1.1 rfl (lv_at hl 0 rfl) ?_
              refine lv_aload_n hx hb dB_36_2_31.1.1.1.2 rfl (lv_at hl 1 rfl) ?_
              refine va_get (ci := 11) (v := .ref xn) (C := RX11) (T := TX11) (N := 12) hx hb hts (fun _ h => List.mem_cons_of_mem _ (List.mem_append_left _ (List.mem_append_right _ h))) hown hK.1 hP 0 rfl rfl 1 (by decide) (hts (.fieldLink RX11 31 "CutAtlas" "net" "LCutAtlas$Net;") (List.mem_of_getElem? (i := 1) rfl)) (fun _ h9 => h9) rfl dB_36_2_31.1.1.2.1 ?_
              refine va_get (ci := 3) (v := .ref n5) (C := RX3) (T := TX3) (N := 7) hx hb hts (fun _ h => List.mem_cons_of_mem _ (List.mem_append_right _ h)) hown hK.1 hP 1 rfl rfl 6 (by decide) (hts (.fieldLink RX11 119 "CutAtlas$Net" "prices" "[I") (List.mem_of_getElem? (i := 5) rfl)) (fun _ h9 => h9) rfl dB_36_2_31.1.1.2.2 ?_
              refine lv_iload_n hx hb dB_36_2_31.1.2.1.1 rfl (lv_at hl 2 rfl) ?_
              refine va_iald hx hb hK.1 hP 4 0 rfl rfl (i := a1) h_6 dB_36_2_31.1.2.1.2 ?_
              refine lv_topi (fun y_74 ey_74 => ?_)
              have ky_74 : y_74.toInt = (fp a1.toNatClampNeg).toInt := by rw [ey_74]
              have ry_74 : 0 ≤ y_74.toInt ∧ y_74.toInt ≤ 100 := by rw [ey_74]; exact r_fp _ (in_lt h_6)
              refine ct_R hP hD [] [] (by decide) rfl (fun hPc hDw => ?_)
              have hFc := va_free (wc := []) hD hS hA [] rfl
              refine va_calli (va_runU (As := [.int y_74]) (rest := []) ⟨hx, hb, hml, hown, hts⟩ (c_X2_costs2 l D cy H.size k3 y_74) (va_cwO 1 hts gX11_ask_X2_costs_u122X2 rfl rfl rfl (b0 := cX6_costs) (m0 := 2) (r0 := (some .int)) (by decide +kernel) (by decide +kernel) ⟨Nat.le_of_ble_eq_true rfl, Nat.le_of_ble_eq_true rfl⟩) ⟨bl_, va_recvX hK.1 hP (ci := 2) (q0 := 9) rfl rfl, fun U hU hW => ⟨rfl, by rw [hU], by rw [hU]; exact hPc, kk_mv hW hK, hDw⟩⟩ rfl rfl hl.1 rfl (lv_room (Nat.le_of_ble_eq_true rfl)) dB_36_2_31.1.2.2.1 ⟨Nat.le_of_ble_eq_true rfl, Nat.le_of_ble_eq_true rfl⟩) hS (fun q _ h => hFc q h) hFc (fun r_75 u t H locs ht hvm hw hB hz1 hk1 hS => ?_)
              have hP : va_P D vwCl _ H := ro_keep hP hk1
              obtain ⟨f0_r_75, f1_r_75⟩ := hw
              rw [hQ]
              exact W.iret (v := r_75) hx hb hr (fun t ht hW => ⟨⟨r_75, (), rfl, (by unfold akI; (repeat' (first | with_reducible refine if_n (by omega) ?_ | with_reducible refine if_ns (by omega) ?_ | with_reducible refine if_nz (by omega) ?_ | with_reducible exact if_p (by omega) (by omega) | with_reducible exact if_ps (by omega) (by omega) | with_reducible exact if_pz (by omega) (by omega))) <;> omega), y_72, by rw [ht]; exact hP, hD⟩, hS.F ht⟩) hS.2.2 dB_36_2_31.1.2.2.2
          · refine va_aldq hx hb hK.1 hP 5 3 rfl rfl (i := 4) (by unfold vp_in; decide) dB_36_2_30.1.1.2.2 ?_
            refine lv_topv (v' := .ref k4) (by simp [va_up, va_rf, mf_, cl_0, cl_1, cl_2, cl_3, cl_4, kf_]) ?_
            refine lv_astore_n (lv' := [(3, .ref k4), (0, .ref xo), (1, .int a1), (2, .int a2)]) hx hb dB_36_2_30.1.2.1.1 rfl hl (by decide) rfl (fun ls hl => ?_)
            refine lv_iload_n hx hb dB_36_2_30.1.2.1.2 rfl (lv_at hl 3 rfl) ?_
            refine lv_iconst (v := 2) hx hb dB_36_2_30.1.2.2.1 (by decide) ?_
            refine lv_icmp_ne (tgt := 70) hx hb dB_36_2_30.1.2.2.2 (by decide) (fun c_76 => ?_) (fun c_76 => ?_)
            · have t_76 : ¬ a2.toInt = (2 : Int32).toInt := fun h => c_76 (Int32.toInt_inj.mp h)
              refine lv_iload_n hx hb dB_36_2_31.2.1.1.1 rfl (lv_at hl 3 rfl) ?_
              refine lv_if_ne (tgt := 78) hx hb dB_36_2_31.2.1.1.2 (by decide) (fun c_77 => ?_) (fun c_77 => ?_)
              · have t_77 : ¬ a2.toInt = (0 : Int32).toInt := fun h => c_77 (Int32.toInt_inj.mp h)
                refine lv_iconst (v := 0) hx hb dB_36_2_31.2.2.1.1 (by decide) ?_
                refine lv_istore (lv' := [(4, .int 0), (3, .ref k4), (0, .ref xo), (1, .int a1), (2, .int a2)]) hx hb dB_36_2_31.2.2.1.2 hl (by decide) rfl (fun ls hl => ?_)
                refine lv_aload_n hx hb dB_36_2_31.2.2.2.1 rfl (lv_at hl 2 rfl) ?_
                refine lv_dup hx hb dB_36_2_31.2.2.2.2 rfl ?_
                refine va_get (ci := 11) (v := .long tr) (C := RX11) (T := TX11) (N := 12) hx hb hts (fun _ h => List.mem_cons_of_mem _ (List.mem_append_left _ (List.mem_append_right _ h))) hown hK.1 hP 0 rfl rfl 10 (by decide) (hts (.fieldLink RX11 87 "CutAtlas" "traced" "J") (List.mem_of_getElem? (i := 4) rfl)) (fun _ h9 => h9) rfl dB_36_2_32.1.1.1.1 ?_
                refine lv_aload_n hx hb dB_36_2_32.1.1.1.2 rfl (lv_at hl 1 rfl) ?_
                refine lv_iload hx hb dB_36_2_32.1.1.2.1 (lv_at hl 0 rfl) ?_
                refine ct_R hP hD [] [] (by decide) rfl (fun hPc hDw => ?_)
                have hFc := va_free (wc := []) hD hS hA [] rfl
                refine va_calli (va_runU (As := [.int 0]) (rest := [.long tr, .ref xo]) ⟨hx, hb, hml, hown, hts⟩ (c_X6_letsMark l D cy H.size k4 (0 : Int32)) (va_cwU 1 hts gX11_ask_X6_letsMark_u161X8 rfl rfl rfl rfl (by decide +kernel) ⟨Nat.le_of_ble_eq_true rfl, Nat.le_of_ble_eq_true rfl⟩) ⟨bl_, va_recvX hK.1 hP (ci := 8) (q0 := 10) rfl rfl, fun U hU hW => ⟨rfl, by rw [hU], by rw [hU]; exact hPc, kk_mv hW hK, hDw⟩⟩ rfl rfl hl.1 rfl (lv_room (Nat.le_of_ble_eq_true rfl)) dB_36_2_32.1.1.2.2 ⟨Nat.le_of_ble_eq_true rfl, Nat.le_of_ble_eq_true rfl⟩) hS (fun q _ h => hFc q h) hFc (fun r_78 u t H locs ht hvm hw hB hz1 hk1 hS => ?_)
                have hP : va_P D vwCl _ H := ro_keep hP hk1
                refine lv_i2l (v := r_78.toInt64) hx hb dB_36_2_32.1.2.1.1 rfl ?_
                have q_92 : (r_78.toInt64).toInt = r_78.toInt := Int32.toInt_toInt64 r_78
                refine lv_ladd hx hb dB_36_2_32.1.2.1.2 ?_
                refine lv_topl (fun y_79 ey_79 => ?_)
                refine va_put (ci := 11) (v := .long y_79) (ty := .long) (C := RX11) (T := TX11) (N := 12) hx hb hts (fun _ h => List.mem_cons_of_mem _ (List.mem_append_left _ (List.mem_append_right _ h))) tyX11 tyX11_ok nmX11 hown hK.1 hP hD hS 0 rfl rfl 10 (by decide) (hts (.fieldLink RX11 87 "CutAtlas" "traced" "J") (List.mem_of_getElem? (i := 4) rfl)) (fun _ h9 => h9) rfl (by decide +kernel) rfl rfl (Nat.le_of_ble_eq_true rfl) dB_36_2_32.1.2.2.1 (fun H locs hP hD hS => ?_)
                refine pd_K [ob11_0_ xo xk xn xc xh xt xw xm xp pf ph y_79 fi, ob3_0_ xn vp vn n1 n2 n3 n4 n5, ai_ cy n1 40 fk, ai_ cy n4 40 fw, ai_ cy n5 40 fp, aq_ cy 3 xk 5 (kf_ k0 k1 k2 k3 k4), ob6_0_ k0, ob5_0_ k1, ob9_0_ k2, ob2_0_ k3, ob8_0_ k4] hP hD (fun hP hD => ?_)
                refine lv_aload_n hx hb dB_36_2_32.1.2.2.2 rfl (lv_at hl 1 rfl) ?_
                refine lv_aload_n hx hb dB_36_2_32.2.1.1.1 rfl (lv_at hl 2 rfl) ?_
                refine va_get (ci := 11) (v := .ref xn) (C := RX11) (T := TX11) (N := 12) hx hb hts (fun _ h => List.mem_cons_of_mem _ (List.mem_append_left _ (List.mem_append_right _ h))) hown hK.1 hP 0 rfl rfl 1 (by decide) (hts (.fieldLink RX11 31 "CutAtlas" "net" "LCutAtlas$Net;") (List.mem_of_getElem? (i := 1) rfl)) (fun _ h9 => h9) rfl dB_36_2_32.2.1.1.2 ?_
                refine va_get (ci := 3) (v := .ref n4) (C := RX3) (T := TX3) (N := 7) hx hb hts (fun _ h => List.mem_cons_of_mem _ (List.mem_append_right _ h)) hown hK.1 hP 1 rfl rfl 5 (by decide) (hts (.fieldLink RX11 129 "CutAtlas$Net" "widths" "[I") (List.mem_of_getElem? (i := 6) rfl)) (fun _ h9 => h9) rfl dB_36_2_32.2.1.2.1 ?_
                refine lv_iload_n hx hb dB_36_2_32.2.1.2.2 rfl (lv_at hl 3 rfl) ?_
                refine va_iald hx hb hK.1 hP 3 0 rfl rfl (i := a1) h_6 dB_36_2_32.2.2.1.1 ?_
                refine lv_topi (fun y_81 ey_81 => ?_)
                have ky_81 : y_81.toInt = (fw a1.toNatClampNeg).toInt := by rw [ey_81]
                refine lv_iload hx hb dB_36_2_32.2.2.1.2 (lv_at hl 0 rfl) ?_
                refine ct_R hP hD [] [] (by decide) rfl (fun hPc hDw => ?_)
                have hFc := va_free (wc := []) hD hS hA [] rfl
                refine va_calli (va_runU (As := [.int y_81, .int 0]) (rest := []) ⟨hx, hb, hml, hown, hts⟩ (c_X6_lets2 l D cy H.size k4 y_81 (0 : Int32)) (va_cwU 2 hts gX11_ask_X6_lets_u165X8 rfl rfl rfl rfl (by decide +kernel) ⟨Nat.le_of_ble_eq_true rfl, Nat.le_of_ble_eq_true rfl⟩) ⟨bl_, va_recvX hK.1 hP (ci := 8) (q0 := 10) rfl rfl, fun U hU hW => ⟨rfl, by rw [hU], by rw [hU]; exact hPc, kk_mv hW hK, hDw⟩⟩ rfl rfl hl.1 rfl (lv_room (Nat.le_of_ble_eq_true rfl)) dB_36_2_32.2.2.2.1 ⟨Nat.le_of_ble_eq_true rfl, Nat.le_of_ble_eq_true rfl⟩) hS (fun q _ h => hFc q h) hFc (fun r_82 u t H locs ht hvm hw hB hz1 hk1 hS => ?_)
                have hP : va_P D vwCl _ H := ro_keep hP hk1
                obtain ⟨f0_r_82, f1_r_82⟩ := hw
                rw [hQ]
                exact W.iret (v := r_82) hx hb hr (fun t ht hW => ⟨⟨r_82, (), rfl, (by unfold akI; (repeat' (first | with_reducible refine if_n (by omega) ?_ | with_reducible refine if_ns (by omega) ?_ | with_reducible refine if_nz (by omega) ?_ | with_reducible exact if_p (by omega) (by omega) | with_reducible exact if_ps (by omega) (by omega) | with_reducible exact if_pz (by omega) (by omega))) <;> omega), y_79, by rw [ht]; exact hP, hD⟩, hS.F ht⟩) hS.2.2 dB_36_2_32.2.2.2.2
              · have t_77 : a2.toInt = (0 : Int32).toInt := congrArg Int32.toInt c_77
                refine lv_iconst (v := 1) hx hb dB_36_2_31.2.1.2.1 (by decide) ?_
                refine lv_goto (tgt := 79) hx hb dB_36_2_31.2.1.2.2 (by decide) ?_
                refine lv_istore (lv' := [(4, .int 1), (3, .ref k4), (0, .ref xo), (1, .int a1), (2, .int a2)]) hx hb dB_36_2_31.2.2.1.2 hl (by decide) rfl (fun ls hl => ?_)
                refine lv_aload_n hx hb dB_36_2_31.2.2.2.1 rfl (lv_at hl 2 rfl) ?_
                refine lv_dup hx hb dB_36_2_31.2.2.2.2 rfl ?_
                refine va_get (ci := 11) (v := .long tr) (C := RX11) (T := TX11) (N := 12) hx hb hts (fun _ h => List.mem_cons_of_mem _ (List.mem_append_left _ (List.mem_append_right _ h))) hown hK.1 hP 0 rfl rfl 10 (by decide) (hts (.fieldLink RX11 87 "CutAtlas" "traced" "J") (List.mem_of_getElem? (i := 4) rfl)) (fun _ h9 => h9) rfl dB_36_2_32.1.1.1.1 ?_
                refine lv_aload_n hx hb dB_36_2_32.1.1.1.2 rfl (lv_at hl 1 rfl) ?_
                refine lv_iload hx hb dB_36_2_32.1.1.2.1 (lv_at hl 0 rfl) ?_
                refine ct_R hP hD [] [] (by decide) rfl (fun hPc hDw => ?_)
                have hFc := va_free (wc := []) hD hS hA [] rfl
                refine va_calli (va_runU (As := [.int 1]) (rest := [.long tr, .ref xo]) ⟨hx, hb, hml, hown, hts⟩ (c_X6_letsMark l D cy H.size k4 (1 : Int32)) (va_cwU 1 hts gX11_ask_X6_letsMark_u161X8 rfl rfl rfl rfl (by decide +kernel) ⟨Nat.le_of_ble_eq_true rfl, Nat.le_of_ble_eq_true rfl⟩) ⟨bl_, va_recvX hK.1 hP (ci := 8) (q0 := 10) rfl rfl, fun U hU hW => ⟨rfl, by rw [hU], by rw [hU]; exact hPc, kk_mv hW hK, hDw⟩⟩ rfl rfl hl.1 rfl (lv_room (Nat.le_of_ble_eq_true rfl)) dB_36_2_32.1.1.2.2 ⟨Nat.le_of_ble_eq_true rfl, Nat.le_of_ble_eq_true rfl⟩) hS (fun q _ h => hFc q h) hFc (fun r_83 u t H locs ht hvm hw hB hz1 hk1 hS => ?_)
                have hP : va_P D vwCl _ H := ro_keep hP hk1
                refine lv_i2l (v := r_83.toInt64) hx hb dB_36_2_32.1.2.1.1 rfl ?_
                have q_92 : (r_83.toInt64).toInt = r_83.toInt := Int32.toInt_toInt64 r_83
                refine lv_ladd hx hb dB_36_2_32.1.2.1.2 ?_
                refine lv_topl (fun y_84 ey_84 => ?_)
                refine va_put (ci := 11) (v := .long y_84) (ty := .long) (C := RX11) (T := TX11) (N := 12) hx hb hts (fun _ h => List.mem_cons_of_mem _ (List.mem_append_left _ (List.mem_append_right _ h))) tyX11 tyX11_ok nmX11 hown hK.1 hP hD hS 0 rfl rfl 10 (by decide) (hts (.fieldLink RX11 87 "CutAtlas" "traced" "J") (List.mem_of_getElem? (i := 4) rfl)) (fun _ h9 => h9) rfl (by decide +kernel) rfl rfl (Nat.le_of_ble_eq_true rfl) dB_36_2_32.1.2.2.1 (fun H locs hP hD hS => ?_)
                refine pd_K [ob11_0_ xo xk xn xc xh xt xw xm xp pf ph y_84 fi, ob3_0_ xn vp vn n1 n2 n3 n4 n5, ai_ cy n1 40 fk, ai_ cy n4 40 fw, ai_ cy n5 40 fp, aq_ cy 3 xk 5 (kf_ k0 k1 k2 k3 k4), ob6_0_ k0, ob5_0_ k1, ob9_0_ k2, ob2_0_ k3, ob8_0_ k4] hP hD (fun hP hD => ?_)
                refine lv_aload_n hx hb dB_36_2_32.1.2.2.2 rfl (lv_at hl 1 rfl) ?_
                refine lv_aload_n hx hb dB_36_2_32.2.1.1.1 rfl (lv_at hl 2 rfl) ?_
                refine va_get (ci := 11) (v := .ref xn) (C := RX11) (T := TX11) (N := 12) hx hb hts (fun _ h => List.mem_cons_of_mem _ (List.mem_append_left _ (List.mem_append_right _ h))) hown hK.1 hP 0 rfl rfl 1 (by decide) (hts (.fieldLink RX11 31 "CutAtlas" "net" "LCutAtlas$Net;") (List.mem_of_getElem? (i := 1) rfl)) (fun _ h9 => h9) rfl dB_36_2_32.2.1.1.2 ?_
                refine va_get (ci := 3) (v := .ref n4) (C := RX3) (T := TX3) (N := 7) hx hb hts (fun _ h => List.mem_cons_of_mem _ (List.mem_append_right _ h)) hown hK.1 hP 1 rfl rfl 5 (by decide) (hts (.fieldLink RX11 129 "CutAtlas$Net" "widths" "[I") (List.mem_of_getElem? (i := 6) rfl)) (fun _ h9 => h9) rfl dB_36_2_32.2.1.2.1 ?_
                refine lv_iload_n hx hb dB_36_2_32.2.1.2.2 rfl (lv_at hl 3 rfl) ?_
                refine va_iald hx hb hK.1 hP 3 0 rfl rfl (i := a1) h_6 dB_36_2_32.2.2.1.1 ?_
                refine lv_topi (fun y_86 ey_86 => ?_)
                have ky_86 : y_86.toInt = (fw a1.toNatClampNeg).toInt := by rw [ey_86]
                refine lv_iload hx hb dB_36_2_32.2.2.1.2 (lv_at hl 0 rfl) ?_
                refine ct_R hP hD [] [] (by decide) rfl (fun hPc hDw => ?_)
                have hFc := va_free (wc := []) hD hS hA [] rfl
                refine va_calli (va_runU (As := [.int y_86, .int 1]) (rest := []) ⟨hx, hb, hml, hown, hts⟩ (c_X6_lets2 l D cy H.size k4 y_86 (1 : Int32)) (va_cwU 2 hts gX11_ask_X6_lets_u165X8 rfl rfl rfl rfl (by decide +kernel) ⟨Nat.le_of_ble_eq_true rfl, Nat.le_of_ble_eq_true rfl⟩) ⟨bl_, va_recvX hK.1 hP (ci := 8) (q0 := 10) rfl rfl, fun U hU hW => ⟨rfl, by rw [hU], by rw [hU]; exact hPc, kk_mv hW hK, hDw⟩⟩ rfl rfl hl.1 rfl (lv_room (Nat.le_of_ble_eq_true rfl)) dB_36_2_32.2.2.2.1 ⟨Nat.le_of_ble_eq_true rfl, Nat.le_of_ble_eq_true rfl⟩) hS (fun q _ h => hFc q h) hFc (fun r_87 u t H locs ht hvm hw hB hz1 hk1 hS => ?_)
                have hP : va_P D vwCl _ H := ro_keep hP hk1
                obtain ⟨f0_r_87, f1_r_87⟩ := hw
                rw [hQ]
                exact W.iret (v := r_87) hx hb hr (fun t ht hW => ⟨⟨r_87, (), rfl, (by unfold akI; (repeat' (first | with_reducible refine if_n (by omega) ?_ | with_reducible refine if_ns (by omega) ?_ | with_reducible refine if_nz (by omega) ?_ | with_reducible exact if_p (by omega) (by omega) | with_reducible exact if_ps (by omega) (by omega) | with_reducible exact if_pz (by omega) (by omega))) <;> omega), y_84, by rw [ht]; exact hP, hD⟩, hS.F ht⟩) hS.2.2 dB_36_2_32.2.2.2.2
            · have t_76 : a2.toInt = (2 : Int32).toInt := congrArg Int32.toInt c_76
              refine lv_aload_n hx hb dB_36_2_30.2.1.1.1 rfl (lv_at hl 1 rfl) ?_
              refine lv_dup hx hb dB_36_2_30.2.1.1.2 rfl ?_
              refine va_get (ci := 11) (v := .long tr) (C := RX11) (T := TX11) (N := 12) hx hb hts (fun _ h => List.mem_cons_of_mem _ (List.mem_append_left _ (List.mem_append_right _ h))) hown hK.1 hP 0 rfl rfl 10 (by decide) (hts (.fieldLink RX11 87 "CutAtlas" "traced" "J") (List.mem_of_getElem? (i := 4) rfl)) (fun _ h9 => h9) rfl dB_36_2_30.2.1.2.1 ?_
              refine lv_aload_n hx hb dB_36_2_30.2.1.2.2 rfl (lv_at hl 0 rfl) ?_
              refine ct_R hP hD [ob8_0_ k4] [10] (by decide) rfl (fun hPc hDw => ?_)
              have hFc := va_free (wc := []) hD hS hA [] rfl
              refine va_calli (va_runU (As := []) (rest := [.long tr, .ref xo]) ⟨hx, hb, hml, hown, hts⟩ (c_X8_costsMark l D cy H.size k4) (va_cwO 0 hts gX11_ask_X8_costsMark_u132X8 rfl rfl rfl (b0 := cX6_costsMark) (m0 := 1) (r0 := (some .int)) (by decide +kernel) (by decide +kernel) ⟨Nat.le_of_ble_eq_true rfl, Nat.le_of_ble_eq_true rfl⟩) ⟨bl_, va_recvX hK.1 hP (ci := 8) (q0 := 10) rfl rfl, fun U hU hW => ⟨rfl, by rw [hU], by rw [hU]; exact hPc, kk_mv hW hK, hDw⟩⟩ rfl rfl hl.1 rfl (lv_room (Nat.le_of_ble_eq_true rfl)) dB_36_2_30.2.2.1.1 ⟨Nat.le_of_ble_eq_true rfl, Nat.le_of_ble_eq_true rfl⟩) hS (fun q _ h => hFc q h) hFc (fun r_88 u t H locs ht hvm hw hB hz1 hk1 hS => ?_)
              have hP : va_P D vwCl _ H := ro_keep hP hk1
              refine lv_i2l (v := r_88.toInt64) hx hb dB_36_2_30.2.2.1.2 rfl ?_
              have q_51 : (r_88.toInt64).toInt = r_88.toInt := Int32.toInt_toInt64 r_88
              refine lv_ladd hx hb dB_36_2_30.2.2.2.1 ?_
              refine lv_topl (fun y_89 ey_89 => ?_)
              refine va_put (ci := 11) (v := .long y_89) (ty := .long) (C := RX11) (T := TX11) (N := 12) hx hb hts (fun _ h => List.mem_cons_of_mem _ (List.mem_append_left _ (List.mem_append_right _ h))) tyX11 tyX11_ok nmX11 hown hK.1 hP hD hS 0 rfl rfl 10 (by decide) (hts (.fieldLink RX11 87 "CutAtlas" "traced" "J") (List.mem_of_getElem? (i := 4) rfl)) (fun _ h9 => h9) rfl (by decide +kernel) rfl rfl (Nat.le_of_ble_eq_true rfl) dB_36_2_30.2.2.2.2 (fun H locs hP hD hS => ?_)
              refine pd_K [ob11_0_ xo xk xn xc xh xt xw xm xp pf ph y_89 fi, ob3_0_ xn vp vn n1 n2 n3 n4 n5, ai_ cy n1 40 fk, ai_ cy n4 40 fw, ai_ cy n5 40 fp, aq_ cy 3 xk 5 (kf_ k0 k1 k2 k3 k4), ob6_0_ k0, ob5_0_ k1, ob9_0_ k2, ob2_0_ k3, ob8_0_ k4] hP hD (fun hP hD => ?_)
              refine lv_aload_n hx hb dB_36_2_31.1.1.1.1 rfl (lv_at hl 0 rfl) ?_
              refine lv_aload_n hx hb dB_36_2_31.1.1.1.2 rfl (lv_at hl 1 rfl) ?_
              refine va_get (ci := 11) (v := .ref xn) (C := RX11) (T := TX11) (N := 12) hx hb hts (fun _ h => List.mem_cons_of_mem _ (List.mem_append_left _ (List.mem_append_right _ h))) hown hK.1 hP 0 rfl rfl 1 (by decide) (hts (.fieldLink RX11 31 "CutAtlas" "net" "LCutAtlas$Net;") (List.mem_of_getElem? (i := 1) rfl)) (fun _ h9 => h9) rfl dB_36_2_31.1.1.2.1 ?_
              refine va_get (ci := 3) (v := .ref n5) (C := RX3) (T := TX3) (N := 7) hx hb hts (fun _ h => List.mem_cons_of_mem _ (List.mem_append_right _ h)) hown hK.1 hP 1 rfl rfl 6 (by decide) (hts (.fieldLink RX11 119 "CutAtlas$Net" "prices" "[I") (List.mem_of_getElem? (i := 5) rfl)) (fun _ h9 => h9) rfl dB_36_2_31.1.1.2.2 ?_
              refine lv_iload_n hx hb dB_36_2_31.1.2.1.1 rfl (lv_at hl 2 rfl) ?_
              refine va_iald hx hb hK.1 hP 4 0 rfl rfl (i := a1) h_6 dB_36_2_31.1.2.1.2 ?_
              refine lv_topi (fun y_91 ey_91 => ?_)
              have ky_91 : y_91.toInt = (fp a1.toNatClampNeg).toInt := by rw [ey_91]
              have ry_91 : 0 ≤ y_91.toInt ∧ y_91.toInt ≤ 100 := by rw [ey_91]; exact r_fp _ (in_lt h_6)
              refine ct_R hP hD [ob8_0_ k4] [10] (by decide) rfl (fun hPc hDw => ?_)
              have hFc := va_free (wc := []) hD hS hA [] rfl
              refine va_calli (va_runU (As := [.int y_91]) (rest := []) ⟨hx, hb, hml, hown, hts⟩ (c_X8_costs2 l D cy H.size k4 y_91 (by first | with_reducible assumption | omega | assumption)) (va_cwO 1 hts gX11_ask_X8_costs_u122X8 rfl rfl rfl (b0 := cX6_costs) (m0 := 2) (r0 := (some .int)) (by decide +kernel) (by decide +kernel) ⟨Nat.le_of_ble_eq_true rfl, Nat.le_of_ble_eq_true rfl⟩) ⟨bl_, va_recvX hK.1 hP (ci := 8) (q0 := 10) rfl rfl, fun U hU hW => ⟨rfl, by rw [hU], by rw [hU]; exact hPc, kk_mv hW hK, hDw⟩⟩ rfl rfl hl.1 rfl (lv_room (Nat.le_of_ble_eq_true rfl)) dB_36_2_31.1.2.2.1 ⟨Nat.le_of_ble_eq_true rfl, Nat.le_of_ble_eq_true rfl⟩) hS (fun q _ h => hFc q h) hFc (fun r_92 u t H locs ht hvm hw hB hz1 hk1 hS => ?_)
              have hP : va_P D vwCl _ H := ro_keep hP hk1
              obtain ⟨f0_r_92, f1_r_92⟩ := hw
              rw [hQ]
              exact W.iret (v := r_92) hx hb hr (fun t ht hW => ⟨⟨r_92, (), rfl, (by unfold akI; (repeat' (first | with_reducible refine if_n (by omega) ?_ | with_reducible refine if_ns (by omega) ?_ | with_reducible refine if_nz (by omega) ?_ | with_reducible exact if_p (by omega) (by omega) | with_reducible exact if_ps (by omega) (by omega) | with_reducible exact if_pz (by omega) (by omega))) <;> omega), y_89, by rw [ht]; exact hP, hD⟩, hS.F ht⟩) hS.2.2 dB_36_2_31.1.2.2.2
        · have t_5 : ¬ a2.toInt ≤ (2 : Int32).toInt := fun h => c_5 (Int32.le_iff_toInt_le.mpr h)
          refine lv_iconst (v := (-1)) hx hb dB_36_2_29.2.1.2.1 (by decide) ?_
          rw [hQ]
          exact W.iret (v := (-1)) hx hb hr (fun t ht hW => ⟨⟨(-1), (), rfl, (by unfold akI; (repeat' (first | with_reducible refine if_n (by omega) ?_ | with_reducible refine if_ns (by omega) ?_ | with_reducible refine if_nz (by omega) ?_ | with_reducible exact if_p (by omega) (by omega) | with_reducible exact if_ps (by omega) (by omega) | with_reducible exact if_pz (by omega) (by omega))) <;> omega), tr, by rw [ht]; exact hP, hD⟩, hS.F ht⟩) hS.2.2 dB_36_2_29.2.1.2.2
  · have e_ := e_.symm
    subst e_
    refine lv_if_eq (tgt := 20) hx hb dB_36_2_29.1.2.1.1 (by decide) (fun c_93 => ?_) (fun c_93 => ?_)
    · have _ := c_93
      refine lv_iconst (v := (-1)) hx hb dB_36_2_29.2.1.2.1 (by decide) ?_
      rw [hQ]
      exact W.iret (v := (-1)) hx hb hr (fun t ht hW => ⟨⟨(-1), (), rfl, (by unfold akI; (repeat' (first | with_reducible refine if_n (by omega) ?_ | with_reducible refine if_ns (by omega) ?_ | with_reducible refine if_nz (by omega) ?_ | with_reducible exact if_p (by omega) (by omega) | with_reducible exact if_ps (by omega) (by omega) | with_reducible exact if_pz (by omega) (by omega))) <;> omega), tr, by rw [ht]; exact hP, hD⟩, hS.F ht⟩) hS.2.2 dB_36_2_29.2.1.2.2
    · exact absurd c_93 (by decide)

set_option maxHeartbeats 4000000 in
set_option maxRecDepth 100000 in
theorem c_X11_about2 (l : Launch) (D : va_G) (cy : Nat → ClassId) (sz : Nat) (xo : Nat) (xk : Nat) (xn : Nat) (xc : Nat) (xh : Nat) (xt : Nat) (xw : Nat) (xm : Nat) (xp : Nat) (pf : Int32) (ph : Int32) (tr : Int64) (fi : Int32) (n1 : Nat) (n2 : Nat) (n3 : Nat) (n4 : Nat) (n5 : Nat) (vp : Int32) (vn : Int32) (fk : Nat → Int32) (fs : Nat → Int32) (a1 : Int32) (hvn : 0 ≤ vn.toInt ∧ vn.toInt ≤ 40) : Met l yX11_about wsX11_about ({ frames := 2, cells := 0, slots := 0, locals := 43 }) (va_Pc [.ref xo, .int a1] (fun U => U.heap.size = sz ∧ va_P D vwCl [ob11_0_ xo xk xn xc xh xt xw xm xp pf ph tr fi, ob3_0_ xn vp vn n1 n2 n3 n4 n5, ai_ cy n1 40 fk, ai_ cy n2 40 fs] U.heap ∧ kk_ D cy U ∧ va_D (fun _ => True) [ob11_0_ xo xk xn xc xh xt xw xm xp pf ph tr fi, ob3_0_ xn vp vn n1 n2 n3 n4 n5, ai_ cy n1 40 fk, ai_ cy n2 40 fs])) (va_Qi (fun (r : Int32) (_ : Unit) => (r.toInt = abI a1.toInt vp.toInt vn.toInt (sumI (msF fs) vn.toNatClampNeg) ph.toInt (whI vp.toInt (sumI (bkF fk fs) vn.toNatClampNeg)))) (fun (_ : Unit) (_ : State) => True) (va_A [] sz)) 0 0 (va_A [] sz) := by
  refine ofQ (cc := cX11_about) (maxL := 2) (ret := (some .int)) (by decide) rfl ?_
  intro p e s m args below meth c s₁ Q hQ B hml hv
  obtain ⟨rfl, hsz, hP, hK, hD0⟩ := hv
  have hx := B.exec
  have hb := B.bytes
  have hr := B.returns
  have hts := atoms_spec (ws := wsX11_about) B.pre
  have hown : s.vm.findClass RX11 = some m.cls := by have h_ := findClass_of_methodNamed B.named; exact h_
  have hlocks := B.notSynchronized
  subst hsz
  have hD : va_D (va_A [] s.heap.size) [] := dd_nil
  generalize hAe : va_A [] s.heap.size = A at hD hQ
  have hA : ∀ q : Nat, s.heap.size ≤ q → A q := fun q h => by rw [← hAe]; exact Or.inr h
  have hS : va_S A s.heap s.heap [] := va_S.rf
  have hl := lv_entry ([.ref xo, .int a1]) (n := 2) (Nat.le_of_ble_eq_true rfl)
  rw [lg_entry_eq]
  generalize (lg_sl ([.ref xo, .int a1]) ++ List.replicate (2 - (lg_sl ([.ref xo, .int a1])).length) Slot.unset).toArray = ls at hl ⊢
  have hl : lv_has ls 2 [(0, .ref xo), (1, .int a1)] := hl
  have zm1 : ((-1) : Int32).toInt = -1 := by decide
  have z0 : (0 : Int32).toInt = 0 := by decide
  have z1 : (1 : Int32).toInt = 1 := by decide
  have zq0 : (0 : Int32).toInt = 0 := by decide
  have zq1 : (1 : Int32).toInt = 1 := by decide
  have zq2 : (2 : Int32).toInt = 2 := by decide
  have zq3 : (3 : Int32).toInt = 3 := by decide
  have zq4 : (4 : Int32).toInt = 4 := by decide
  have zq5 : (5 : Int32).toInt = 5 := by decide
  have zqm9 : ((-9) : Int32).toInt = -9 := by decide
  refine lv_iload_n hx hb dB_36_3_0.1.1.1.1 rfl (lv_at hl 1 rfl) ?_
  rcases sw_5 a1 with h_ | e_ | e_ | e_ | e_ | e_
  · refine lv_tableOut (tgt := 81) hx hb dB_36_3_0.1.1.1.2 h_ (by decide) ?_
    refine lv_iconst (v := (-1)) hx hb dB_36_3_1.2.2.2.1 (by decide) ?_
    rw [hQ]
    exact W.iret (v := (-1)) hx hb hr (fun t ht hW => ⟨⟨(-1), (), rfl, (by unfold abI; (repeat' (first | with_reducible refine if_n (by omega) ?_ | with_reducible refine if_ns (by omega) ?_ | with_reducible refine if_nz (by omega) ?_ | with_reducible exact if_p (by omega) (by omega) | with_reducible exact if_ps (by omega) (by omega) | with_reducible exact if_pz (by omega) (by omega))) <;> omega), trivial⟩, hS.F ht⟩) hS.2.2 dB_36_3_1.2.2.2.2
  · refine lv_tableIn (off := 35) (tgt := 36) hx hb dB_36_3_0.1.1.1.2 (by rw [e_]; decide) (by rw [e_]; decide) (by rw [e_]; decide) (by decide) ?_
    refine lv_aload_n hx hb dB_36_3_0.1.1.2.1 rfl (lv_at hl 0 rfl) ?_
    refine va_get (ci := 11) (v := .ref xn) (C := RX11) (T := TX11) (N := 12) hx hb hts (fun _ h => List.mem_cons_of_mem _ (List.mem_append_left _ (List.mem_append_right _ h))) hown hK.1 hP 0 rfl rfl 1 (by decide) (hts (.fieldLink RX11 31 "CutAtlas" "net" "LCutAtlas$Net;") (List.mem_of_getElem? (i := 1) rfl)) (fun _ h9 => h9) rfl dB_36_3_0.1.1.2.2 ?_
    refine va_get (ci := 3) (v := .int vp) (C := RX3) (T := TX3) (N := 7) hx hb hts (fun _ h => List.mem_cons_of_mem _ (List.mem_append_right _ h)) hown hK.1 hP 1 rfl rfl 0 (by decide) (hts (.fieldLink RX11 94 "CutAtlas$Net" "places" "I") (List.mem_of_getElem? (i := 2) rfl)) (fun _ h9 => h9) rfl dB_36_3_0.1.2.1.1 ?_
    rw [hQ]
    exact W.iret (v := vp) hx hb hr (fun t ht hW => ⟨⟨vp, (), rfl, (by unfold abI; (repeat' (first | with_reducible refine if_n (by omega) ?_ | with_reducible refine if_ns (by omega) ?_ | with_reducible refine if_nz (by omega) ?_ | with_reducible exact if_p (by omega) (by omega) | with_reducible exact if_ps (by omega) (by omega) | with_reducible exact if_pz (by omega) (by omega))) <;> omega), trivial⟩, hS.F ht⟩) hS.2.2 dB_36_3_0.1.2.1.2
  · refine lv_tableIn (off := 43) (tgt := 44) hx hb dB_36_3_0.1.1.1.2 (by rw [e_]; decide) (by rw [e_]; decide) (by rw [e_]; decide) (by decide) ?_
    refine lv_aload_n hx hb dB_36_3_0.1.2.2.1 rfl (lv_at hl 0 rfl) ?_
    refine va_get (ci := 11) (v := .ref xn) (C := RX11) (T := TX11) (N := 12) hx hb hts (fun _ h => List.mem_cons_of_mem _ (List.mem_append_left _ (List.mem_append_right _ h))) hown hK.1 hP 0 rfl rfl 1 (by decide) (hts (.fieldLink RX11 31 "CutAtlas" "net" "LCutAtlas$Net;") (List.mem_of_getElem? (i := 1) rfl)) (fun _ h9 => h9) rfl dB_36_3_0.1.2.2.2 ?_
    refine va_get (ci := 3) (v := .int vn) (C := RX3) (T := TX3) (N := 7) hx hb hts (fun _ h => List.mem_cons_of_mem _ (List.mem_append_right _ h)) hown hK.1 hP 1 rfl rfl 1 (by decide) (hts (.fieldLink RX11 294 "CutAtlas$Net" "lines" "I") (List.mem_of_getElem? (i := 3) rfl)) (fun _ h9 => h9) rfl dB_36_3_0.2.1.1.1 ?_
    rw [hQ]
    exact W.iret (v := vn) hx hb hr (fun t ht hW => ⟨⟨vn, (), rfl, (by unfold abI; (repeat' (first | with_reducible refine if_n (by omega) ?_ | with_reducible refine if_ns (by omega) ?_ | with_reducible refine if_nz (by omega) ?_ | with_reducible exact if_p (by omega) (by omega) | with_reducible exact if_ps (by omega) (by omega) | with_reducible exact if_pz (by omega) (by omega))) <;> omega), trivial⟩, hS.F ht⟩) hS.2.2 dB_36_3_0.2.1.1.2
  · refine lv_tableIn (off := 51) (tgt := 52) hx hb dB_36_3_0.1.1.1.2 (by rw [e_]; decide) (by rw [e_]; decide) (by rw [e_]; decide) (by decide) ?_
    refine lv_aload_n hx hb dB_36_3_0.2.1.2.1 rfl (lv_at hl 0 rfl) ?_
    refine va_get (ci := 11) (v := .ref xn) (C := RX11) (T := TX11) (N := 12) hx hb hts (fun _ h => List.mem_cons_of_mem _ (List.mem_append_left _ (List.mem_append_right _ h))) hown hK.1 hP 0 rfl rfl 1 (by decide) (hts (.fieldLink RX11 31 "CutAtlas" "net" "LCutAtlas$Net;") (List.mem_of_getElem? (i := 1) rfl)) (fun _ h9 => h9) rfl dB_36_3_0.2.1.2.2 ?_
    refine ct_R hP hD0 [ob3_0_ xn vp vn n1 n2 n3 n4 n5, ai_ cy n2 40 fs] [1, 3] (by decide) rfl (fun hPc hDw => ?_)
    have hFc := va_free (wc := []) hD hS hA [] rfl
    refine va_calli (va_runV (As := []) (rest := []) ⟨hx, hb, hml, hown, hts⟩ (c_X3_missingLines2 l D cy s.heap.size xn n1 n2 n3 n4 n5 vp vn fs (by first | with_reducible assumption | omega | assumption)) (cwV 0 hts gX11_about_X3_missingLines rfl rfl rfl ⟨rfl, hd_X3_missingLines⟩ ⟨Nat.le_of_ble_eq_true rfl, Nat.le_of_ble_eq_true rfl⟩) ⟨bl_, va_recvX hK.1 hP (ci := 3) (q0 := 1) rfl rfl, fun U hU hW => ⟨rfl, by rw [hU], by rw [hU]; exact hPc, kk_mv hW hK, hDw⟩⟩ rfl rfl hl.1 rfl (lv_room (Nat.le_of_ble_eq_true rfl)) dB_36_3_0.2.2.1.1 ⟨Nat.le_of_ble_eq_true rfl, Nat.le_of_ble_eq_true rfl⟩) hS (fun q _ h => hFc q h) hFc (fun r_1 u t H locs ht hvm hw hB hz1 hk1 hS => ?_)
    have hP : va_P D vwCl _ H := ro_keep hP hk1
    have f0_r_1 := hw
    rw [hQ]
    exact W.iret (v := r_1) hx hb hr (fun t ht hW => ⟨⟨r_1, (), rfl, (by unfold abI; (repeat' (first | with_reducible refine if_n (by omega) ?_ | with_reducible refine if_ns (by omega) ?_ | with_reducible refine if_nz (by omega) ?_ | with_reducible exact if_p (by omega) (by omega) | with_reducible exact if_ps (by omega) (by omega) | with_reducible exact if_pz (by omega) (by omega))) <;> omega), trivial⟩, hS.F ht⟩) hS.2.2 dB_36_3_0.2.2.1.2
  · refine lv_tableIn (off := 59) (tgt := 60) hx hb dB_36_3_0.1.1.1.2 (by rw [e_]; decide) (by rw [e_]; decide) (by rw [e_]; decide) (by decide) ?_
    refine lv_aload_n hx hb dB_36_3_0.2.2.2.1 rfl (lv_at hl 0 rfl) ?_
    refine va_get (ci := 11) (v := .int ph) (C := RX11) (T := TX11) (N := 12) hx hb hts (fun _ h => List.mem_cons_of_mem _ (List.mem_append_left _ (List.mem_append_right _ h))) hown hK.1 hP 0 rfl rfl 9 (by decide) (hts (.fieldLink RX11 84 "CutAtlas" "pastHeld" "I") (List.mem_of_getElem? (i := 4) rfl)) (fun _ h9 => h9) rfl dB_36_3_0.2.2.2.2 ?_
    rw [hQ]
    exact W.iret (v := ph) hx hb hr (fun t ht hW => ⟨⟨ph, (), rfl, (by unfold abI; (repeat' (first | with_reducible refine if_n (by omega) ?_ | with_reducible refine if_ns (by omega) ?_ | with_reducible refine if_nz (by omega) ?_ | with_reducible exact if_p (by omega) (by omega) | with_reducible exact if_ps (by omega) (by omega) | with_reducible exact if_pz (by omega) (by omega))) <;> omega), trivial⟩, hS.F ht⟩) hS.2.2 dB_36_3_1.1.1.1
  · refine lv_tableIn (off := 64) (tgt := 65) hx hb dB_36_3_0.1.1.1.2 (by rw [e_]; decide) (by rw [e_]; decide) (by rw [e_]; decide) (by decide) ?_
    refine lv_aload_n hx hb dB_36_3_1.1.1.2 rfl (lv_at hl 0 rfl) ?_
    refine va_get (ci := 11) (v := .ref xn) (C := RX11) (T := TX11) (N := 12) hx hb hts (fun _ h => List.mem_cons_of_mem _ (List.mem_append_left _ (List.mem_append_right _ h))) hown hK.1 hP 0 rfl rfl 1 (by decide) (hts (.fieldLink RX11 31 "CutAtlas" "net" "LCutAtlas$Net;") (List.mem_of_getElem? (i := 1) rfl)) (fun _ h9 => h9) rfl dB_36_3_1.1.2.1 ?_
    refine ct_R hP hD0 [ob3_0_ xn vp vn n1 n2 n3 n4 n5, ai_ cy n1 40 fk, ai_ cy n2 40 fs] [1, 2, 3] (by decide) rfl (fun hPc hDw => ?_)
    have hFc := va_free (wc := []) hD hS hA [] rfl
    refine va_calli (va_runV (As := []) (rest := []) ⟨hx, hb, hml, hown, hts⟩ (c_X3_isWhole2 l D cy s.heap.size xn n1 n2 n3 n4 n5 vp vn fk fs (by first | with_reducible assumption | omega | assumption)) (cwV 0 hts gX11_about_X3_isWhole rfl rfl rfl ⟨rfl, hd_X3_isWhole⟩ ⟨Nat.le_of_ble_eq_true rfl, Nat.le_of_ble_eq_true rfl⟩) ⟨bl_, va_recvX hK.1 hP (ci := 3) (q0 := 1) rfl rfl, fun U hU hW => ⟨rfl, by rw [hU], by rw [hU]; exact hPc, kk_mv hW hK, hDw⟩⟩ rfl rfl hl.1 rfl (lv_room (Nat.le_of_ble_eq_true rfl)) dB_36_3_1.1.2.2.1 ⟨Nat.le_of_ble_eq_true rfl, Nat.le_of_ble_eq_true rfl⟩) hS (fun q _ h => hFc q h) hFc (fun r_2 u t H locs ht hvm hw hB hz1 hk1 hS => ?_)
    have hP : va_P D vwCl _ H := ro_keep hP hk1
    obtain ⟨f0_r_2, f1_r_2⟩ := hw
    refine lv_if_eq (tgt := 79) hx hb dB_36_3_1.1.2.2.2 (by decide) (fun c_3 => ?_) (fun c_3 => ?_)
    · have t_3 : r_2.toInt = (0 : Int32).toInt := congrArg Int32.toInt c_3
      refine lv_iconst (v := 0) hx hb dB_36_3_1.2.1.2.2 (by decide) ?_
      rw [hQ]
      exact W.iret (v := 0) hx hb hr (fun t ht hW => ⟨⟨0, (), rfl, (by unfold abI; (repeat' (first | with_reducible refine if_n (by omega) ?_ | with_reducible refine if_ns (by omega) ?_ | with_reducible refine if_nz (by omega) ?_ | with_reducible exact if_p (by omega) (by omega) | with_reducible exact if_ps (by omega) (by omega) | with_reducible exact if_pz (by omega) (by omega))) <;> omega), trivial⟩, hS.F ht⟩) hS.2.2 dB_36_3_1.2.2.1
    · have t_3 : ¬ r_2.toInt = (0 : Int32).toInt := fun h => c_3 (Int32.toInt_inj.mp h)
      refine lv_iconst (v := 1) hx hb dB_36_3_1.2.1.1 (by decide) ?_
      refine lv_goto (tgt := 80) hx hb dB_36_3_1.2.1.2.1 (by decide) ?_
      rw [hQ]
      exact W.iret (v := 1) hx hb hr (fun t ht hW => ⟨⟨1, (), rfl, (by unfold abI; (repeat' (first | with_reducible refine if_n (by omega) ?_ | with_reducible refine if_ns (by omega) ?_ | with_reducible refine if_nz (by omega) ?_ | with_reducible exact if_p (by omega) (by omega) | with_reducible exact if_ps (by omega) (by omega) | with_reducible exact if_pz (by omega) (by omega))) <;> omega), trivial⟩, hS.F ht⟩) hS.2.2 dB_36_3_1.2.2.1

set_option maxHeartbeats 4000000 in
set_option maxRecDepth 100000 in
theorem c_X11_status2 (l : Launch) (D : va_G) (cy : Nat → ClassId) (sz : Nat) (xo : Nat) (xk : Nat) (xn : Nat) (xc : Nat) (xh : Nat) (xt : Nat) (xw : Nat) (xm : Nat) (xp : Nat) (pf : Int32) (ph : Int32) (tr : Int64) (fi : Int32) (n1 : Nat) (n2 : Nat) (n3 : Nat) (n4 : Nat) (n5 : Nat) (vp : Int32) (vn : Int32) : Met l yX11_status wsX11_status ({ frames := 0, cells := 0, slots := 0, locals := 0 }) (va_Pc [.ref xo] (fun U => U.heap.size = sz ∧ va_P D vwCl [ob11_0_ xo xk xn xc xh xt xw xm xp pf ph tr fi, ob3_0_ xn vp vn n1 n2 n3 n4 n5] U.heap ∧ kk_ D cy U ∧ va_D (fun _ => True) [ob11_0_ xo xk xn xc xh xt xw xm xp pf ph tr fi, ob3_0_ xn vp vn n1 n2 n3 n4 n5])) (va_Qi (fun (r : Int32) (_ : Unit) => (r = fi)) (fun (_ : Unit) (_ : State) => True) (va_A [] sz)) 0 0 (va_A [] sz) := by
  refine ofQ (cc := cX11_status) (maxL := 1) (ret := (some .int)) (by decide) rfl ?_
  intro p e s m args below meth c s₁ Q hQ B hml hv
  obtain ⟨rfl, hsz, hP, hK, hD0⟩ := hv
  have hx := B.exec
  have hb := B.bytes
  have hr := B.returns
  have hts := atoms_spec (ws := wsX11_status) B.pre
  have hown : s.vm.findClass RX11 = some m.cls := by have h_ := findClass_of_methodNamed B.named; exact h_
  have hlocks := B.notSynchronized
  subst hsz
  have hD : va_D (va_A [] s.heap.size) [] := dd_nil
  generalize hAe : va_A [] s.heap.size = A at hD hQ
  have hA : ∀ q : Nat, s.heap.size ≤ q → A q := fun q h => by rw [← hAe]; exact Or.inr h
  have hS : va_S A s.heap s.heap [] := va_S.rf
  have hl := lv_entry ([.ref xo]) (n := 1) (Nat.le_of_ble_eq_true rfl)
  rw [lg_entry_eq]
  generalize (lg_sl ([.ref xo]) ++ List.replicate (1 - (lg_sl ([.ref xo])).length) Slot.unset).toArray = ls at hl ⊢
  have hl : lv_has ls 1 [(0, .ref xo)] := hl
  refine lv_aload_n hx hb dB_36_3_64.1 rfl (lv_at hl 0 rfl) ?_
  refine va_get (ci := 11) (v := .int fi) (C := RX11) (T := TX11) (N := 12) hx hb hts (fun _ h => List.mem_cons_of_mem _ (List.mem_append_right _ h)) hown hK.1 hP 0 rfl rfl 11 (by decide) (hts (.fieldLink RX11 91 "CutAtlas" "finding" "I") (List.mem_of_getElem? (i := 1) rfl)) (fun _ h9 => h9) rfl dB_36_3_64.2.1 ?_
  rw [hQ]
  exact W.iret (v := fi) hx hb hr (fun t ht hW => ⟨⟨fi, (), rfl, (rfl), trivial⟩, hS.F ht⟩) hS.2.2 dB_36_3_64.2.2
end

section
set_option maxHeartbeats 4000000 in
set_option maxRecDepth 100000 in
theorem c_X12_costs3 (l : Launch) (D : va_G) (cy : Nat → ClassId) (sz : Nat) (mo : Nat) (g5 : Nat) (g6 : Nat) (g7 : Nat) (g8 : Nat) (g9 : Nat) (g10 : Nat) (g12 : Nat) (g13 : Nat) (g14 : Nat) (g15 : Nat) (g16 : Nat) (g17 : Nat) (g18 : Nat) (g19 : Nat) (g20 : Nat) (g22 : Nat) (g23 : Nat) (g24 : Nat) (g29 : Nat) (g30 : Nat) (g31 : Nat) (g32 : Nat) (g33 : Nat) (s0 : Int32) (s1 : Int32) (s3 : Int32) (s4 : Int32) (s11 : Int32) (s21 : Int32) (s25 : Int32) (s26 : Int32) (s27 : Int32) (s28 : Int32) (t2 : Int64) (f5 : Nat → Int32) (f9 : Nat → Int32) (a1 : Int32) (q1 : 0 ≤ a1.toInt ∧ a1.toInt < 40) (r_f9 : rng f9 40 (0) (100)) : Met l yX12_costs wsX12_costs ({ frames := 0, cells := 0, slots := 0, locals := 0 }) (va_Pc [.ref mo, .int a1] (fun U => U.heap.size = sz ∧ va_P D vwCl [ob12_0_ mo s0 s1 t2 s3 s4 g5 g6 g7 g8 g9 g10 s11 g12 g13 g14 g15 g16 g17 g18 g19 g20 s21 g22 g23 g24 s25 s26 s27 s28 g29 g30 g31 g32 g33, ai_ cy g5 40 f5, ai_ cy g9 40 f9] U.heap ∧ kk_ D cy U ∧ va_D (fun _ => True) [ob12_0_ mo s0 s1 t2 s3 s4 g5 g6 g7 g8 g9 g10 s11 g12 g13 g14 g15 g16 g17 g18 g19 g20 s21 g22 g23 g24 s25 s26 s27 s28 g29 g30 g31 g32 g33, ai_ cy g5 40 f5, ai_ cy g9 40 f9])) (va_Qi (fun (r : Int32) (_ : Unit) => (r = cstV (f5 a1.toNatClampNeg) (f9 a1.toNatClampNeg)) ∧ ((r.toInt = -9 ↔ (f5 a1.toNatClampNeg).toInt ≠ 3 ∧ (f5 a1.toNatClampNeg).toInt ≠ 4)) ∧ (((f5 a1.toNatClampNeg).toInt = 3 → r.toInt = (f9 a1.toNatClampNeg).toInt) ∧ ((f5 a1.toNatClampNeg).toInt = 4 → r.toInt = (f9 a1.toNatClampNeg).toInt + 1))) (fun (_ : Unit) (_ : State) => True) (va_A [] sz)) 0 0 (va_A [] sz) := by
  refine ofQ (cc := cX12_costs) (maxL := 2) (ret := (some .int)) (by decide) rfl ?_
  intro p e s m args below meth c s₁ Q hQ B hml hv
  obtain ⟨rfl, hsz, hP, hK, hD0⟩ := hv
  have hx := B.exec
  have hb := B.bytes
  have hr := B.returns
  have hts := atoms_spec (ws := wsX12_costs) B.pre
  have hown : s.vm.findClass RX12 = some m.cls := by have h_ := findClass_of_methodNamed B.named; exact h_
  have hlocks := B.notSynchronized
  subst hsz
  have hD : va_D (va_A [] s.heap.size) [] := dd_nil
  generalize hAe : va_A [] s.heap.size = A at hD hQ
  have hA : ∀ q : Nat, s.heap.size ≤ q → A q := fun q h => by rw [← hAe]; exact Or.inr h
  have hS : va_S A s.heap s.heap [] := va_S.rf
  have hl := lv_entry ([.ref mo, .int a1]) (n := 2) (Nat.le_of_ble_eq_true rfl)
  rw [lg_entry_eq]
  generalize (lg_sl ([.ref mo, .int a1]) ++ List.replicate (2 - (lg_sl ([.ref mo, .int a1])).length) Slot.unset).toArray = ls at hl ⊢
  have hl : lv_has ls 2 [(0, .ref mo), (1, .int a1)] := hl
  have zm9 : ((-9) : Int32).toInt = -9 := by decide
  have z1 : (1 : Int32).toInt = 1 := by decide
  have z3 : (3 : Int32).toInt = 3 := by decide
  have z4 : (4 : Int32).toInt = 4 := by decide
  refine lv_aload_n hx hb dB_3_0_5.1.1.1.1 rfl (lv_at hl 0 rfl) ?_
  refine va_get (ci := 12) (v := .ref g5) (C := RX12) (T := TX12) (N := 34) hx hb hts (fun _ h => List.mem_cons_of_mem _ (List.mem_append_right _ h)) hown hK.1 hP 0 rfl rfl 5 (by decide) (hts (.fieldLink RX12 7 "CutAtlasModel" "kind" "[I") (List.mem_of_getElem? (i := 1) rfl)) (fun _ h9 => h9) rfl dB_3_0_5.1.1.1.2 ?_
  refine lv_iload_n hx hb dB_3_0_5.1.1.2.1 rfl (lv_at hl 1 rfl) ?_
  have h_1 : vp_in a1 40 := in_I (by first | with_reducible assumption | omega) (by omega)
  refine va_iald hx hb hK.1 hP 1 0 rfl rfl (i := a1) h_1 dB_3_0_5.1.1.2.2 ?_
  refine lv_topi (fun y_2 ey_2 => ?_)
  have ky_2 : y_2.toInt = (f5 a1.toNatClampNeg).toInt := by rw [ey_2]
  refine lv_iconst (v := 3) hx hb dB_3_0_5.1.2.1.1 (by decide) ?_
  refine lv_icmp_ne (tgt := 19) hx hb dB_3_0_5.1.2.1.2 (by decide) (fun c_3 => ?_) (fun c_3 => ?_)
  · have t_3 : ¬ y_2.toInt = (3 : Int32).toInt := fun h => c_3 (Int32.toInt_inj.mp h)
    refine lv_aload_n hx hb dB_3_0_5.2.1.2.2 rfl (lv_at hl 0 rfl) ?_
    refine va_get (ci := 12) (v := .ref g5) (C := RX12) (T := TX12) (N := 34) hx hb hts (fun _ h => List.mem_cons_of_mem _ (List.mem_append_right _ h)) hown hK.1 hP 0 rfl rfl 5 (by decide) (hts (.fieldLink RX12 7 "CutAtlasModel" "kind" "[I") (List.mem_of_getElem? (i := 1) rfl)) (fun _ h9 => h9) rfl dB_3_0_5.2.2.1.1 ?_
    refine lv_iload_n hx hb dB_3_0_5.2.2.1.2 rfl (lv_at hl 1 rfl) ?_
    refine va_iald hx hb hK.1 hP 1 0 rfl rfl (i := a1) h_1 dB_3_0_5.2.2.2.1 ?_
    refine lv_topi (fun y_5 ey_5 => ?_)
    have e_ := (ey_5.trans ey_2.symm).symm
    subst e_
    skip
    refine lv_iconst (v := 4) hx hb dB_3_0_5.2.2.2.2 (by decide) ?_
    refine lv_icmp_ne (tgt := 40) hx hb dB_3_0_6.1.1.1 (by decide) (fun c_6 => ?_) (fun c_6 => ?_)
    · have t_6 : ¬ y_2.toInt = (4 : Int32).toInt := fun h => c_6 (Int32.toInt_inj.mp h)
      refine lv_bipush (v := (-9)) hx hb dB_3_0_6.2.2.2.1 (by decide) ?_
      rw [hQ]
      exact W.iret (v := (-9)) hx hb hr (fun t ht hW => ⟨⟨(-9), (), rfl, ⟨by first | exact cst_9 (by omega) (by omega) rfl | exact cst_3 (by omega) S[p] | exact cst_4 (by omega) (by rw [e_lit, S[p]]), by omega, by omega⟩, trivial⟩, hS.F ht⟩) hS.2.2 dB_3_0_6.2.2.2.2
    · have t_6 : y_2.toInt = (4 : Int32).toInt := congrArg Int32.toInt c_6
      refine lv_aload_n hx hb dB_3_0_6.1.1.2 rfl (lv_at hl 0 rfl) ?_
      refine va_get (ci := 12) (v := .ref g9) (C := RX12) (T := TX12) (N := 34) hx hb hts (fun _ h => List.mem_cons_of_mem _ (List.mem_append_right _ h)) hown hK.1 hP 0 rfl rfl 9 (by decide) (hts (.fieldLink RX12 22 "CutAtlasModel" "price" "[I") (List.mem_of_getElem? (i := 2) rfl)) (fun _ h9 => h9) rfl dB_3_0_6.1.2.1 ?_
      refine lv_iload_n hx hb dB_3_0_6.1.2.2.1 rfl (lv_at hl 1 rfl) ?_
      refine va_iald hx hb hK.1 hP 2 0 rfl rfl (i := a1) h_1 dB_3_0_6.1.2.2.2 ?_
      refine lv_topi (fun y_8 ey_8 => ?_)
      have ky_8 : y_8.toInt = (f9 a1.toNatClampNeg).toInt := by rw [ey_8]
      have ry_8 : 0 ≤ y_8.toInt ∧ y_8.toInt ≤ 100 := by rw [ey_8]; exact r_f9 _ (in_lt h_1)
      refine lv_iconst (v := 1) hx hb dB_3_0_6.2.1.1 (by decide) ?_
      refine lv_iadd hx hb dB_3_0_6.2.1.2 ?_
      refine lv_topi (fun y_9 ey_9 => ?_)
      have ty_9 : y_9.toInt = y_8.toInt + (1 : Int32).toInt := by rw [ey_9]; exact addI (by omega) (by omega)
      refine lv_goto (tgt := 42) hx hb dB_3_0_6.2.2.1 (by decide) ?_
      rw [hQ]
      exact W.iret (v := y_9) hx hb hr (fun t ht hW => ⟨⟨y_9, (), rfl, ⟨by first | exact cst_9 (by omega) (by omega) rfl | exact cst_3 (by omega) ey_8 | exact cst_4 (by omega) (by rw [ey_9, ey_8]), by omega, by omega⟩, trivial⟩, hS.F ht⟩) hS.2.2 dB_3_0_6.2.2.2.2
  · have t_3 : y_2.toInt = (3 : Int32).toInt := congrArg Int32.toInt c_3
    refine lv_aload_n hx hb dB_3_0_5.1.2.2.1 rfl (lv_at hl 0 rfl) ?_
    refine va_get (ci := 12) (v := .ref g9) (C := RX12) (T := TX12) (N := 34) hx hb hts (fun _ h => List.mem_cons_of_mem _ (List.mem_append_right _ h)) hown hK.1 hP 0 rfl rfl 9 (by decide) (hts (.fieldLink RX12 22 "CutAtlasModel" "price" "[I") (List.mem_of_getElem? (i := 2) rfl)) (fun _ h9 => h9) rfl dB_3_0_5.1.2.2.2 ?_
    refine lv_iload_n hx hb dB_3_0_5.2.1.1.1 rfl (lv_at hl 1 rfl) ?_
    refine va_iald hx hb hK.1 hP 2 0 rfl rfl (i := a1) h_1 dB_3_0_5.2.1.1.2 ?_
    refine lv_topi (fun y_11 ey_11 => ?_)
    have ky_11 : y_11.toInt = (f9 a1.toNatClampNeg).toInt := by rw [ey_11]
    have ry_11 : 0 ≤ y_11.toInt ∧ y_11.toInt ≤ 100 := by rw [ey_11]; exact r_f9 _ (in_lt h_1)
    refine lv_goto (tgt := 42) hx hb dB_3_0_5.2.1.2.1 (by decide) ?_
    rw [hQ]
    exact W.iret (v := y_11) hx hb hr (fun t ht hW => ⟨⟨y_11, (), rfl, ⟨by first | exact cst_9 (by omega) (by omega) rfl | exact cst_3 (by omega) ey_11 | exact cst_4 (by omega) (by rw [ey_11, ey_11]), by omega, by omega⟩, trivial⟩, hS.F ht⟩) hS.2.2 dB_3_0_6.2.2.2.2

set_option maxHeartbeats 4000000 in
set_option maxRecDepth 100000 in
theorem c_X12_isWhole2 (l : Launch) (D : va_G) (cy : Nat → ClassId) (sz : Nat) (mo : Nat) (g5 : Nat) (g6 : Nat) (g7 : Nat) (g8 : Nat) (g9 : Nat) (g10 : Nat) (g12 : Nat) (g13 : Nat) (g14 : Nat) (g15 : Nat) (g16 : Nat) (g17 : Nat) (g18 : Nat) (g19 : Nat) (g20 : Nat) (g22 : Nat) (g23 : Nat) (g24 : Nat) (g29 : Nat) (g30 : Nat) (g31 : Nat) (g32 : Nat) (g33 : Nat) (s0 : Int32) (s1 : Int32) (s3 : Int32) (s4 : Int32) (s11 : Int32) (s21 : Int32) (s25 : Int32) (s26 : Int32) (s27 : Int32) (s28 : Int32) (t2 : Int64) (f5 : Nat → Int32) (f10 : Nat → Int32) (hN : 0 ≤ s4.toInt ∧ s4.toInt ≤ 40) : Met l yX12_isWhole wsX12_isWhole ({ frames := 0, cells := 0, slots := 0, locals := 0 }) (va_Pc [.ref mo] (fun U => U.heap.size = sz ∧ va_P D vwCl [ob12_0_ mo s0 s1 t2 s3 s4 g5 g6 g7 g8 g9 g10 s11 g12 g13 g14 g15 g16 g17 g18 g19 g20 s21 g22 g23 g24 s25 s26 s27 s28 g29 g30 g31 g32 g33, ai_ cy g5 40 f5, az_ cy g10 40 f10] U.heap ∧ kk_ D cy U ∧ va_D (fun _ => True) [ob12_0_ mo s0 s1 t2 s3 s4 g5 g6 g7 g8 g9 g10 s11 g12 g13 g14 g15 g16 g17 g18 g19 g20 s21 g22 g23 g24 s25 s26 s27 s28 g29 g30 g31 g32 g33, ai_ cy g5 40 f5, az_ cy g10 40 f10])) (va_Qi (fun (r : Int32) (_ : Unit) => (r.toInt = 0 ∨ r.toInt = 1) ∧ (r.toInt = whI s3.toInt (sumI (bkR f5 f10) s4.toNatClampNeg))) (fun (_ : Unit) (_ : State) => True) (va_A [] sz)) 0 0 (va_A [] sz) := by
  refine ofQ (cc := cX12_isWhole) (maxL := 3) (ret := (some .boolean)) (by decide) rfl ?_
  intro p e s m args below meth c s₁ Q hQ B hml hv
  obtain ⟨rfl, hsz, hP, hK, hD0⟩ := hv
  have hx := B.exec
  have hb := B.bytes
  have hr := B.returns
  have hts := atoms_spec (ws := wsX12_isWhole) B.pre
  have hown : s.vm.findClass RX12 = some m.cls := by have h_ := findClass_of_methodNamed B.named; exact h_
  have hlocks := B.notSynchronized
  subst hsz
  have hD : va_D (va_A [] s.heap.size) [] := dd_nil
  generalize hAe : va_A [] s.heap.size = A at hD hQ
  have hA : ∀ q : Nat, s.heap.size ≤ q → A q := fun q h => by rw [← hAe]; exact Or.inr h
  have hS : va_S A s.heap s.heap [] := va_S.rf
  have hl := lv_entry ([.ref mo]) (n := 3) (Nat.le_of_ble_eq_true rfl)
  rw [lg_entry_eq]
  generalize (lg_sl ([.ref mo]) ++ List.replicate (3 - (lg_sl ([.ref mo])).length) Slot.unset).toArray = ls at hl ⊢
  have hl : lv_has ls 3 [(0, .ref mo)] := hl
  have z0 : (0 : Int32).toInt = 0 := by decide
  have z1 : (1 : Int32).toInt = 1 := by decide
  have z2 : (2 : Int32).toInt = 2 := by decide
  refine lv_aload_n hx hb dB_3_2_31.1.1.1.1 rfl (lv_at hl 0 rfl) ?_
  refine va_get (ci := 12) (v := .int s3) (C := RX12) (T := TX12) (N := 34) hx hb hts (fun _ h => List.mem_cons_of_mem _ (List.mem_append_right _ h)) hown hK.1 hP 0 rfl rfl 3 (by decide) (hts (.fieldLink RX12 88 "CutAtlasModel" "places" "I") (List.mem_of_getElem? (i := 1) rfl)) (fun _ h9 => h9) rfl dB_3_2_31.1.1.1.2 ?_
  refine lv_iconst (v := 1) hx hb dB_3_2_31.1.1.2.1 (by decide) ?_
  refine lv_icmp_le (tgt := 12) hx hb dB_3_2_31.1.1.2.2 (by decide) (fun c_1 => ?_) (fun c_1 => ?_)
  · have t_1 : s3.toInt ≤ (1 : Int32).toInt := Int32.le_iff_toInt_le.mp c_1
    refine lv_iconst (v := 0) hx hb dB_3_2_31.1.2.2.1 (by decide) ?_
    refine lv_istore_n (lv' := [(1, .int 0), (0, .ref mo)]) hx hb dB_3_2_31.1.2.2.2 rfl hl (by decide) rfl (fun ls hl => ?_)
    refine lv_iconst (v := 0) hx hb dB_3_2_31.2.1.1.1 (by decide) ?_
    refine lv_istore_n (lv' := [(2, .int 0), (1, .int 0), (0, .ref mo)]) hx hb dB_3_2_31.2.1.1.2 rfl hl (by decide) rfl (fun ls hl => ?_)
    suffices LOOP_2 : ∀ (n_2 : Nat) (x2_2 : Int32) (x1_2 : Int32) (H : Heap) (locs : List Loc) (ls : Array Slot), s4.toInt - x2_2.toInt < (n_2 : Int) → (0 ≤ x2_2.toInt) → (x2_2.toInt ≤ s4.toInt) → (x1_2.toInt = 0 ∨ x1_2.toInt = 1) → (x1_2.toInt = whI s3.toInt (sumI (bkR f5 f10) x2_2.toNatClampNeg)) → va_P D vwCl [ob12_0_ mo s0 s1 t2 s3 s4 g5 g6 g7 g8 g9 g10 s11 g12 g13 g14 g15 g16 g17 g18 g19 g20 s21 g22 g23 g24 s25 s26 s27 s28 g29 g30 g31 g32 g33, ai_ cy g5 40 f5, az_ cy g10 40 f10] H → va_S A s.heap H locs → lv_has ls 3 [(2, .int x2_2), (1, .int x1_2), (0, .ref mo)] → W p l e ({ frames := 0, cells := 0, slots := 0, locals := 0 } : Room) s m (([.ref mo] : List Value).toArray) below meth c H locs 0 0 Q (F0 m 16 ls []) from LOOP_2 ((s4.toInt - (0 : Int32).toInt).toNat + 1) (0 : Int32) (0 : Int32) _ _ _ (by omega) (by first | with_reducible assumption | omega | assumption) (by first | with_reducible assumption | omega | assumption) (by first | with_reducible assumption | omega | assumption) (by first | exact wh_0 (by first | (rw [if_pos (by omega)]; decide) | (rw [if_neg (by omega)]; decide)) | exact wh_st v_none (by omega) (by omega) hx_ (by omega) hand_) hP hS (lv_sub hl [0, 1, 2] rfl)
    intro n_2
    induction n_2 with
    | zero =>
      intro x2_2 x1_2 H locs ls hm v0_2 v1_2 v2_2 v3_2 hP hS hl
      exact absurd hm (by omega)
    | succ n_2 ih_2 =>
      intro x2_2 x1_2 H locs ls hm v0_2 v1_2 v2_2 v3_2 hP hS hl
      refine lv_iload_n hx hb dB_3_2_31.2.1.2.1 rfl (lv_at hl 0 rfl) ?_
      refine lv_aload_n hx hb dB_3_2_31.2.1.2.2 rfl (lv_at hl 2 rfl) ?_
      refine va_get (ci := 12) (v := .int s4) (C := RX12) (T := TX12) (N := 34) hx hb hts (fun _ h => List.mem_cons_of_mem _ (List.mem_append_right _ h)) hown hK.1 hP 0 rfl rfl 4 (by decide) (hts (.fieldLink RX12 95 "CutAtlasModel" "lines" "I") (List.mem_of_getElem? (i := 2) rfl)) (fun _ h9 => h9) rfl dB_3_2_31.2.2.1.1 ?_
      refine lv_icmp_ge (tgt := 67) hx hb dB_3_2_31.2.2.1.2 (by decide) (fun c_3 => ?_) (fun c_3 => ?_)
      · have t_3 : s4.toInt ≤ x2_2.toInt := Int32.le_iff_toInt_le.mp c_3
        refine lv_iload_n hx hb dB_3_2_33.2.2.2.1 rfl (lv_at hl 1 rfl) ?_
        rw [hQ]
        exact W.zret (ty := .boolean) (v := x1_2) hx hb hr (nar_b (by omega)) (fun t ht hW => ⟨⟨x1_2, (), rfl, ⟨by omega, wh_end v3_2 (by omega)⟩, trivial⟩, hS.F ht⟩) hS.2.2 dB_3_2_33.2.2.2.2
      · have t_3 : ¬ s4.toInt ≤ x2_2.toInt := fun h => c_3 (Int32.le_iff_toInt_le.mpr h)
        refine lv_iload_n hx hb dB_3_2_31.2.2.2.1 rfl (lv_at hl 1 rfl) ?_
        refine lv_aload_n hx hb dB_3_2_31.2.2.2.2 rfl (lv_at hl 2 rfl) ?_
        refine va_get (ci := 12) (v := .ref g10) (C := RX12) (T := TX12) (N := 34) hx hb hts (fun _ h => List.mem_cons_of_mem _ (List.mem_append_right _ h)) hown hK.1 hP 0 rfl rfl 10 (by decide) (hts (.fieldLink RX12 25 "CutAtlasModel" "isMissing" "[Z") (List.mem_of_getElem? (i := 3) rfl)) (fun _ h9 => h9) rfl dB_3_2_32.1.1.1.1 ?_
        refine lv_iload_n hx hb dB_3_2_32.1.1.1.2 rfl (lv_at hl 0 rfl) ?_
        have h_4 : vp_in x2_2 40 := in_I (by first | with_reducible assumption | omega) (by omega)
        refine va_zald hx hb hK.1 hP 2 2 rfl rfl (i := x2_2) h_4 dB_3_2_32.1.1.2.1 ?_
        refine lv_topi (fun y_5 ey_5 => ?_)
        have ky_5 : y_5.toInt = (f10 x2_2.toNatClampNeg).toInt := by rw [ey_5]
        refine lv_if_ne (tgt := 54) hx hb dB_3_2_32.1.1.2.2 (by decide) (fun c_6 => ?_) (fun c_6 => ?_)
        · have t_6 : ¬ y_5.toInt = (0 : Int32).toInt := fun h => c_6 (Int32.toInt_inj.mp h)
          refine lv_iconst (v := 1) hx hb dB_3_2_33.1.1.1 (by decide) ?_
          refine lv_goto (tgt := 59) hx hb dB_3_2_33.1.1.2 (by decide) ?_
          have hx_ : (1 : Int32).toInt = 1 - bkR f5 f10 x2_2.toNatClampNeg := by unfold bkR; (repeat' split) <;> omega
          refine lv_iand hx hb dB_3_2_33.1.2.2 ?_
          refine lv_topi (fun y_7 ey_7 => ?_)
          have ty_7 : (y_7.toInt = 0 ∨ y_7.toInt = 1) ∧ y_7.toInt = (if x1_2.toInt = 1 ∧ (1 : Int32).toInt = 1 then 1 else 0) := by rw [ey_7]; exact ⟨and01 (by omega) (by omega), and_if (by omega) (by omega)⟩
          have hand_ := ty_7.2
          refine lv_istore_n (lv' := [(1, .int y_7), (2, .int x2_2), (0, .ref mo)]) hx hb dB_3_2_33.2.1.1 rfl hl (by decide) rfl (fun ls hl => ?_)
          obtain ⟨y_8, ey_8⟩ : ∃ y : Int32, y = x2_2 + 1 := ⟨_, rfl⟩
          have ty_8 : y_8.toInt = x2_2.toInt + (1 : Int32).toInt := by rw [ey_8]; exact addI (by omega) (by omega)
          refine lv_iinc (v := y_8) (lv' := [(2, .int y_8), (1, .int y_7), (0, .ref mo)]) hx hb dB_3_2_33.2.1.2 hl (k := 1) rfl (by rw [ey_8]; rfl) (by decide) rfl (fun ls hl => ?_)
          refine lv_goto (tgt := 16) hx hb dB_3_2_33.2.2.1 (by decide) ?_
          exact ih_2 y_8 y_7 _ _ _ (by omega) (by first | with_reducible assumption | omega | assumption) (by first | with_reducible assumption | omega | assumption) (by first | with_reducible assumption | omega | assumption) (by first | exact wh_0 (by first | (rw [if_pos (by omega)]; decide) | (rw [if_neg (by omega)]; decide)) | exact wh_st v3_2 (by omega) (by omega) hx_ (by omega) hand_) hP hS (lv_sub hl [0, 1, 2] rfl)
        · have t_6 : y_5.toInt = (0 : Int32).toInt := congrArg Int32.toInt c_6
          refine lv_aload_n hx hb dB_3_2_32.1.2.1.1 rfl (lv_at hl 2 rfl) ?_
          refine va_get (ci := 12) (v := .ref g5) (C := RX12) (T := TX12) (N := 34) hx hb hts (fun _ h => List.mem_cons_of_mem _ (List.mem_append_right _ h)) hown hK.1 hP 0 rfl rfl 5 (by decide) (hts (.fieldLink RX12 7 "CutAtlasModel" "kind" "[I") (List.mem_of_getElem? (i := 4) rfl)) (fun _ h9 => h9) rfl dB_3_2_32.1.2.1.2 ?_
          refine lv_iload_n hx hb dB_3_2_32.1.2.2.1 rfl (lv_at hl 0 rfl) ?_
          refine va_iald hx hb hK.1 hP 1 0 rfl rfl (i := x2_2) h_4 dB_3_2_32.1.2.2.2 ?_
          refine lv_topi (fun y_10 ey_10 => ?_)
          have ky_10 : y_10.toInt = (f5 x2_2.toNatClampNeg).toInt := by rw [ey_10]
          refine lv_iconst (v := 1) hx hb dB_3_2_32.2.1.1.1 (by decide) ?_
          refine lv_icmp_eq (tgt := 58) hx hb dB_3_2_32.2.1.1.2 (by decide) (fun c_11 => ?_) (fun c_11 => ?_)
          · have t_11 : y_10.toInt = (1 : Int32).toInt := congrArg Int32.toInt c_11
            refine lv_iconst (v := 0) hx hb dB_3_2_33.1.2.1 (by decide) ?_
            have hx_ : (0 : Int32).toInt = 1 - bkR f5 f10 x2_2.toNatClampNeg := by unfold bkR; (repeat' split) <;> omega
            refine lv_iand hx hb dB_3_2_33.1.2.2 ?_
            refine lv_topi (fun y_12 ey_12 => ?_)
            have ty_12 : (y_12.toInt = 0 ∨ y_12.toInt = 1) ∧ y_12.toInt = (if x1_2.toInt = 1 ∧ (0 : Int32).toInt = 1 then 1 else 0) := by rw [ey_12]; exact ⟨and01 (by omega) (by omega), and_if (by omega) (by omega)⟩
            have hand_ := ty_12.2
            refine lv_istore_n (lv' := [(1, .int y_12), (2, .int x2_2), (0, .ref mo)]) hx hb dB_3_2_33.2.1.1 rfl hl (by decide) rfl (fun ls hl => ?_)
            obtain ⟨y_13, ey_13⟩ : ∃ y : Int32, y = x2_2 + 1 := ⟨_, rfl⟩
            have ty_13 : y_13.toInt = x2_2.toInt + (1 : Int32).toInt := by rw [ey_13]; exact addI (by omega) (by omega)
            refine lv_iinc (v := y_13) (lv' := [(2, .int y_13), (1, .int y_12), (0, .ref mo)]) hx hb dB_3_2_33.2.1.2 hl (k := 1) rfl (by rw [ey_13]; rfl) (by decide) rfl (fun ls hl => ?_)
            refine lv_goto (tgt := 16) hx hb dB_3_2_33.2.2.1 (by decide) ?_
            exact ih_2 y_13 y_12 _ _ _ (by omega) (by first | with_reducible assumption | omega | assumption) (by first | with_reducible assumption | omega | assumption) (by first | with_reducible assumption | omega | assumption) (by first | exact wh_0 (by first | (rw [if_pos (by omega)]; decide) | (rw [if_neg (by omega)]; decide)) | exact wh_st v3_2 (by omega) (by omega) hx_ (by omega) hand_) hP hS (lv_sub hl [0, 1, 2] rfl)
          · have t_11 : ¬ y_10.toInt = (1 : Int32).toInt := fun h => c_11 (Int32.toInt_inj.mp h)
            refine lv_aload_n hx hb dB_3_2_32.2.1.2.1 rfl (lv_at hl 2 rfl) ?_
            refine va_get (ci := 12) (v := .ref g5) (C := RX12) (T := TX12) (N := 34) hx hb hts (fun _ h => List.mem_cons_of_mem _ (List.mem_append_right _ h)) hown hK.1 hP 0 rfl rfl 5 (by decide) (hts (.fieldLink RX12 7 "CutAtlasModel" "kind" "[I") (List.mem_of_getElem? (i := 4) rfl)) (fun _ h9 => h9) rfl dB_3_2_32.2.1.2.2 ?_
            refine lv_iload_n hx hb dB_3_2_32.2.2.1.1 rfl (lv_at hl 0 rfl) ?_
            refine va_iald hx hb hK.1 hP 1 0 rfl rfl (i := x2_2) h_4 dB_3_2_32.2.2.1.2 ?_
            refine lv_topi (fun y_15 ey_15 => ?_)
            have e_ := (ey_15.trans ey_10.symm).symm
            subst e_
            skip
            refine lv_iconst (v := 2) hx hb dB_3_2_32.2.2.2.1 (by decide) ?_
            refine lv_icmp_eq (tgt := 58) hx hb dB_3_2_32.2.2.2.2 (by decide) (fun c_16 => ?_) (fun c_16 => ?_)
            · have t_16 : y_10.toInt = (2 : Int32).toInt := congrArg Int32.toInt c_16
              refine lv_iconst (v := 0) hx hb dB_3_2_33.1.2.1 (by decide) ?_
              have hx_ : (0 : Int32).toInt = 1 - bkR f5 f10 x2_2.toNatClampNeg := by unfold bkR; (repeat' split) <;> omega
              refine lv_iand hx hb dB_3_2_33.1.2.2 ?_
              refine lv_topi (fun y_17 ey_17 => ?_)
              have ty_17 : (y_17.toInt = 0 ∨ y_17.toInt = 1) ∧ y_17.toInt = (if x1_2.toInt = 1 ∧ (0 : Int32).toInt = 1 then 1 else 0) := by rw [ey_17]; exact ⟨and01 (by omega) (by omega), and_if (by omega) (by omega)⟩
              have hand_ := ty_17.2
              refine lv_istore_n (lv' := [(1, .int y_17), (2, .int x2_2), (0, .ref mo)]) hx hb dB_3_2_33.2.1.1 rfl hl (by decide) rfl (fun ls hl => ?_)
              obtain ⟨y_18, ey_18⟩ : ∃ y : Int32, y = x2_2 + 1 := ⟨_, rfl⟩
              have ty_18 : y_18.toInt = x2_2.toInt + (1 : Int32).toInt := by rw [ey_18]; exact addI (by omega) (by omega)
              refine lv_iinc (v := y_18) (lv' := [(2, .int y_18), (1, .int y_17), (0, .ref mo)]) hx hb dB_3_2_33.2.1.2 hl (k := 1) rfl (by rw [ey_18]; rfl) (by decide) rfl (fun ls hl => ?_)
              refine lv_goto (tgt := 16) hx hb dB_3_2_33.2.2.1 (by decide) ?_
              exact ih_2 y_18 y_17 _ _ _ (by omega) (by first | with_reducible assumption | omega | assumption) (by first | with_reducible assumption | omega | assumption) (by first | with_reducible assumption | omega | assumption) (by first | exact wh_0 (by first | (rw [if_pos (by omega)]; decide) | (rw [if_neg (by omega)]; decide)) | exact wh_st v3_2 (by omega) (by omega) hx_ (by omega) hand_) hP hS (lv_sub hl [0, 1, 2] rfl)
            · have t_16 : ¬ y_10.toInt = (2 : Int32).toInt := fun h => c_16 (Int32.toInt_inj.mp h)
              refine lv_iconst (v := 1) hx hb dB_3_2_33.1.1.1 (by decide) ?_
              refine lv_goto (tgt := 59) hx hb dB_3_2_33.1.1.2 (by decide) ?_
              have hx_ : (1 : Int32).toInt = 1 - bkR f5 f10 x2_2.toNatClampNeg := by unfold bkR; (repeat' split) <;> omega
              refine lv_iand hx hb dB_3_2_33.1.2.2 ?_
              refine lv_topi (fun y_19 ey_19 => ?_)
              have ty_19 : (y_19.toInt = 0 ∨ y_19.toInt = 1) ∧ y_19.toInt = (if x1_2.toInt = 1 ∧ (1 : Int32).toInt = 1 then 1 else 0) := by rw [ey_19]; exact ⟨and01 (by omega) (by omega), and_if (by omega) (by omega)⟩
              have hand_ := ty_19.2
              refine lv_istore_n (lv' := [(1, .int y_19), (2, .int x2_2), (0, .ref mo)]) hx hb dB_3_2_33.2.1.1 rfl hl (by decide) rfl (fun ls hl => ?_)
              obtain ⟨y_20, ey_20⟩ : ∃ y : Int32, y = x2_2 + 1 := ⟨_, rfl⟩
              have ty_20 : y_20.toInt = x2_2.toInt + (1 : Int32).toInt := by rw [ey_20]; exact addI (by omega) (by omega)
              refine lv_iinc (v := y_20) (lv' := [(2, .int y_20), (1, .int y_19), (0, .ref mo)]) hx hb dB_3_2_33.2.1.2 hl (k := 1) rfl (by rw [ey_20]; rfl) (by decide) rfl (fun ls hl => ?_)
              refine lv_goto (tgt := 16) hx hb dB_3_2_33.2.2.1 (by decide) ?_
              exact ih_2 y_20 y_19 _ _ _ (by omega) (by first | with_reducible assumption | omega | assumption) (by first | with_reducible assumption | omega | assumption) (by first | with_reducible assumption | omega | assumption) (by first | exact wh_0 (by first | (rw [if_pos (by omega)]; decide) | (rw [if_neg (by omega)]; decide)) | exact wh_st v3_2 (by omega) (by omega) hx_ (by omega) hand_) hP hS (lv_sub hl [0, 1, 2] rfl)
  · have t_1 : ¬ s3.toInt ≤ (1 : Int32).toInt := fun h => c_1 (Int32.le_iff_toInt_le.mpr h)
    refine lv_iconst (v := 1) hx hb dB_3_2_31.1.2.1.1 (by decide) ?_
    refine lv_goto (tgt := 13) hx hb dB_3_2_31.1.2.1.2 (by decide) ?_
    refine lv_istore_n (lv' := [(1, .int 1), (0, .ref mo)]) hx hb dB_3_2_31.1.2.2.2 rfl hl (by decide) rfl (fun ls hl => ?_)
    refine lv_iconst (v := 0) hx hb dB_3_2_31.2.1.1.1 (by decide) ?_
    refine lv_istore_n (lv' := [(2, .int 0), (1, .int 1), (0, .ref mo)]) hx hb dB_3_2_31.2.1.1.2 rfl hl (by decide) rfl (fun ls hl => ?_)
    suffices LOOP_21 : ∀ (n_21 : Nat) (x2_21 : Int32) (x1_21 : Int32) (H : Heap) (locs : List Loc) (ls : Array Slot), s4.toInt - x2_21.toInt < (n_21 : Int) → (0 ≤ x2_21.toInt) → (x2_21.toInt ≤ s4.toInt) → (x1_21.toInt = 0 ∨ x1_21.toInt = 1) → (x1_21.toInt = whI s3.toInt (sumI (bkR f5 f10) x2_21.toNatClampNeg)) → va_P D vwCl [ob12_0_ mo s0 s1 t2 s3 s4 g5 g6 g7 g8 g9 g10 s11 g12 g13 g14 g15 g16 g17 g18 g19 g20 s21 g22 g23 g24 s25 s26 s27 s28 g29 g30 g31 g32 g33, ai_ cy g5 40 f5, az_ cy g10 40 f10] H → va_S A s.heap H locs → lv_has ls 3 [(2, .int x2_21), (1, .int x1_21), (0, .ref mo)] → W p l e ({ frames := 0, cells := 0, slots := 0, locals := 0 } : Room) s m (([.ref mo] : List Value).toArray) below meth c H locs 0 0 Q (F0 m 16 ls []) from LOOP_21 ((s4.toInt - (0 : Int32).toInt).toNat + 1) (0 : Int32) (1 : Int32) _ _ _ (by omega) (by first | with_reducible assumption | omega | assumption) (by first | with_reducible assumption | omega | assumption) (by first | with_reducible assumption | omega | assumption) (by first | exact wh_0 (by first | (rw [if_pos (by omega)]; decide) | (rw [if_neg (by omega)]; decide)) | exact wh_st v_none (by omega) (by omega) hx_ (by omega) hand_) hP hS (lv_sub hl [0, 1, 2] rfl)
    intro n_21
    induction n_21 with
    | zero =>
      intro x2_21 x1_21 H locs ls hm v0_21 v1_21 v2_21 v3_21 hP hS hl
      exact absurd hm (by omega)
    | succ n_21 ih_21 =>
      intro x2_21 x1_21 H locs ls hm v0_21 v1_21 v2_21 v3_21 hP hS hl
      refine lv_iload_n hx hb dB_3_2_31.2.1.2.1 rfl (lv_at hl 0 rfl) ?_
      refine lv_aload_n hx hb dB_3_2_31.2.1.2.2 rfl (lv_at hl 2 rfl) ?_
      refine va_get (ci := 12) (v := .int s4) (C := RX12) (T := TX12) (N := 34) hx hb hts (fun _ h => List.mem_cons_of_mem _ (List.mem_append_right _ h)) hown hK.1 hP 0 rfl rfl 4 (by decide) (hts (.fieldLink RX12 95 "CutAtlasModel" "lines" "I") (List.mem_of_getElem? (i := 2) rfl)) (fun _ h9 => h9) rfl dB_3_2_31.2.2.1.1 ?_
      refine lv_icmp_ge (tgt := 67) hx hb dB_3_2_31.2.2.1.2 (by decide) (fun c_22 => ?_) (fun c_22 => ?_)
      · have t_22 : s4.toInt ≤ x2_21.toInt := Int32.le_iff_toInt_le.mp c_22
        refine lv_iload_n hx hb dB_3_2_33.2.2.2.1 rfl (lv_at hl 1 rfl) ?_
        rw [hQ]
        exact W.zret (ty := .boolean) (v := x1_21) hx hb hr (nar_b (by omega)) (fun t ht hW => ⟨⟨x1_21, (), rfl, ⟨by omega, wh_end v3_21 (by omega)⟩, trivial⟩, hS.F ht⟩) hS.2.2 dB_3_2_33.2.2.2.2
      · have t_22 : ¬ s4.toInt ≤ x2_21.toInt := fun h => c_22 (Int32.le_iff_toInt_le.mpr h)
        refine lv_iload_n hx hb dB_3_2_31.2.2.2.1 rfl (lv_at hl 1 rfl) ?_
        refine lv_aload_n hx hb dB_3_2_31.2.2.2.2 rfl (lv_at hl 2 rfl) ?_
        refine va_get (ci := 12) (v := .ref g10) (C := RX12) (T := TX12) (N := 34) hx hb hts (fun _ h => List.mem_cons_of_mem _ (List.mem_append_right _ h)) hown hK.1 hP 0 rfl rfl 10 (by decide) (hts (.fieldLink RX12 25 "CutAtlasModel" "isMissing" "[Z") (List.mem_of_getElem? (i := 3) rfl)) (fun _ h9 => h9) rfl dB_3_2_32.1.1.1.1 ?_
        refine lv_iload_n hx hb dB_3_2_32.1.1.1.2 rfl (lv_at hl 0 rfl) ?_
        have h_23 : vp_in x2_21 40 := in_I (by first | with_reducible assumption | omega) (by omega)
        refine va_zald hx hb hK.1 hP 2 2 rfl rfl (i := x2_21) h_23 dB_3_2_32.1.1.2.1 ?_
        refine lv_topi (fun y_24 ey_24 => ?_)
        have ky_24 : y_24.toInt = (f10 x2_21.toNatClampNeg).toInt := by rw [ey_24]
        refine lv_if_ne (tgt := 54) hx hb dB_3_2_32.1.1.2.2 (by decide) (fun c_25 => ?_) (fun c_25 => ?_)
        · have t_25 : ¬ y_24.toInt = (0 : Int32).toInt := fun h => c_25 (Int32.toInt_inj.mp h)
          refine lv_iconst (v := 1) hx hb dB_3_2_33.1.1.1 (by decide) ?_
          refine lv_goto (tgt := 59) hx hb dB_3_2_33.1.1.2 (by decide) ?_
          have hx_ : (1 : Int32).toInt = 1 - bkR f5 f10 x2_21.toNatClampNeg := by unfold bkR; (repeat' split) <;> omega
          refine lv_iand hx hb dB_3_2_33.1.2.2 ?_
          refine lv_topi (fun y_26 ey_26 => ?_)
          have ty_26 : (y_26.toInt = 0 ∨ y_26.toInt = 1) ∧ y_26.toInt = (if x1_21.toInt = 1 ∧ (1 : Int32).toInt = 1 then 1 else 0) := by rw [ey_26]; exact ⟨and01 (by omega) (by omega), and_if (by omega) (by omega)⟩
          have hand_ := ty_26.2
          refine lv_istore_n (lv' := [(1, .int y_26), (2, .int x2_21), (0, .ref mo)]) hx hb dB_3_2_33.2.1.1 rfl hl (by decide) rfl (fun ls hl => ?_)
          obtain ⟨y_27, ey_27⟩ : ∃ y : Int32, y = x2_21 + 1 := ⟨_, rfl⟩
          have ty_27 : y_27.toInt = x2_21.toInt + (1 : Int32).toInt := by rw [ey_27]; exact addI (by omega) (by omega)
          refine lv_iinc (v := y_27) (lv' := [(2, .int y_27), (1, .int y_26), (0, .ref mo)]) hx hb dB_3_2_33.2.1.2 hl (k := 1) rfl (by rw [ey_27]; rfl) (by decide) rfl (fun ls hl => ?_)
          refine lv_goto (tgt := 16) hx hb dB_3_2_33.2.2.1 (by decide) ?_
          exact ih_21 y_27 y_26 _ _ _ (by omega) (by first | with_reducible assumption | omega | assumption) (by first | with_reducible assumption | omega | assumption) (by first | with_reducible assumption | omega | assumption) (by first | exact wh_0 (by first | (rw [if_pos (by omega)]; decide) | (rw [if_neg (by omega)]; decide)) | exact wh_st v3_21 (by omega) (by omega) hx_ (by omega) hand_) hP hS (lv_sub hl [0, 1, 2] rfl)
        · have t_25 : y_24.toInt = (0 : Int32).toInt := congrArg Int32.toInt c_25
          refine lv_aload_n hx hb dB_3_2_32.1.2.1.1 rfl (lv_at hl 2 rfl) ?_
          refine va_get (ci := 12) (v := .ref g5) (C := RX12) (T := TX12) (N := 34) hx hb hts (fun _ h => List.mem_cons_of_mem _ (List.mem_append_right _ h)) hown hK.1 hP 0 rfl rfl 5 (by decide) (hts (.fieldLink RX12 7 "CutAtlasModel" "kind" "[I") (List.mem_of_getElem? (i := 4) rfl)) (fun _ h9 => h9) rfl dB_3_2_32.1.2.1.2 ?_
          refine lv_iload_n hx hb dB_3_2_32.1.2.2.1 rfl (lv_at hl 0 rfl) ?_
          refine va_iald hx hb hK.1 hP 1 0 rfl rfl (i := x2_21) h_23 dB_3_2_32.1.2.2.2 ?_
          refine lv_topi (fun y_29 ey_29 => ?_)
          have ky_29 : y_29.toInt = (f5 x2_21.toNatClampNeg).toInt := by rw [ey_29]
          refine lv_iconst (v := 1) hx hb dB_3_2_32.2.1.1.1 (by decide) ?_
          refine lv_icmp_eq (tgt := 58) hx hb dB_3_2_32.2.1.1.2 (by decide) (fun c_30 => ?_) (fun c_30 => ?_)
          · have t_30 : y_29.toInt = (1 : Int32).toInt := congrArg Int32.toInt c_30
            refine lv_iconst (v := 0) hx hb dB_3_2_33.1.2.1 (by decide) ?_
            have hx_ : (0 : Int32).toInt = 1 - bkR f5 f10 x2_21.toNatClampNeg := by unfold bkR; (repeat' split) <;> omega
            refine lv_iand hx hb dB_3_2_33.1.2.2 ?_
            refine lv_topi (fun y_31 ey_31 => ?_)
            have ty_31 : (y_31.toInt = 0 ∨ y_31.toInt = 1) ∧ y_31.toInt = (if x1_21.toInt = 1 ∧ (0 : Int32).toInt = 1 then 1 else 0) := by rw [ey_31]; exact ⟨and01 (by omega) (by omega), and_if (by omega) (by omega)⟩
            have hand_ := ty_31.2
            refine lv_istore_n (lv' := [(1, .int y_31), (2, .int x2_21), (0, .ref mo)]) hx hb dB_3_2_33.2.1.1 rfl hl (by decide) rfl (fun ls hl => ?_)
            obtain ⟨y_32, ey_32⟩ : ∃ y : Int32, y = x2_21 + 1 := ⟨_, rfl⟩
            have ty_32 : y_32.toInt = x2_21.toInt + (1 : Int32).toInt := by rw [ey_32]; exact addI (by omega) (by omega)
            refine lv_iinc (v := y_32) (lv' := [(2, .int y_32), (1, .int y_31), (0, .ref mo)]) hx hb dB_3_2_33.2.1.2 hl (k := 1) rfl (by rw [ey_32]; rfl) (by decide) rfl (fun ls hl => ?_)
            refine lv_goto (tgt := 16) hx hb dB_3_2_33.2.2.1 (by decide) ?_
            exact ih_21 y_32 y_31 _ _ _ (by omega) (by first | with_reducible assumption | omega | assumption) (by first | with_reducible assumption | omega | assumption) (by first | with_reducible assumption | omega | assumption) (by first | exact wh_0 (by first | (rw [if_pos (by omega)]; decide) | (rw [if_neg (by omega)]; decide)) | exact wh_st v3_21 (by omega) (by omega) hx_ (by omega) hand_) hP hS (lv_sub hl [0, 1, 2] rfl)
          · have t_30 : ¬ y_29.toInt = (1 : Int32).toInt := fun h => c_30 (Int32.toInt_inj.mp h)
            refine lv_aload_n hx hb dB_3_2_32.2.1.2.1 rfl (lv_at hl 2 rfl) ?_
            refine va_get (ci := 12) (v := .ref g5) (C := RX12) (T := TX12) (N := 34) hx hb hts (fun _ h => List.mem_cons_of_mem _ (List.mem_append_right _ h)) hown hK.1 hP 0 rfl rfl 5 (by decide) (hts (.fieldLink RX12 7 "CutAtlasModel" "kind" "[I") (List.mem_of_getElem? (i := 4) rfl)) (fun _ h9 => h9) rfl dB_3_2_32.2.1.2.2 ?_
            refine lv_iload_n hx hb dB_3_2_32.2.2.1.1 rfl (lv_at hl 0 rfl) ?_
            refine va_iald hx hb hK.1 hP 1 0 rfl rfl (i := x2_21) h_23 dB_3_2_32.2.2.1.2 ?_
            refine lv_topi (fun y_34 ey_34 => ?_)
            have e_ := (ey_34.trans ey_29.symm).symm
            subst e_
            skip
            refine lv_iconst (v := 2) hx hb dB_3_2_32.2.2.2.1 (by decide) ?_
            refine lv_icmp_eq (tgt := 58) hx hb dB_3_2_32.2.2.2.2 (by decide) (fun c_35 => ?_) (fun c_35 => ?_)
            · have t_35 : y_29.toInt = (2 : Int32).toInt := congrArg Int32.toInt c_35
              refine lv_iconst (v := 0) hx hb dB_3_2_33.1.2.1 (by decide) ?_
              have hx_ : (0 : Int32).toInt = 1 - bkR f5 f10 x2_21.toNatClampNeg := by unfold bkR; (repeat' split) <;> omega
              refine lv_iand hx hb dB_3_2_33.1.2.2 ?_
              refine lv_topi (fun y_36 ey_36 => ?_)
              have ty_36 : (y_36.toInt = 0 ∨ y_36.toInt = 1) ∧ y_36.toInt = (if x1_21.toInt = 1 ∧ (0 : Int32).toInt = 1 then 1 else 0) := by rw [ey_36]; exact ⟨and01 (by omega) (by omega), and_if (by omega) (by omega)⟩
              have hand_ := ty_36.2
              refine lv_istore_n (lv' := [(1, .int y_36), (2, .int x2_21), (0, .ref mo)]) hx hb dB_3_2_33.2.1.1 rfl hl (by decide) rfl (fun ls hl => ?_)
              obtain ⟨y_37, ey_37⟩ : ∃ y : Int32, y = x2_21 + 1 := ⟨_, rfl⟩
              have ty_37 : y_37.toInt = x2_21.toInt + (1 : Int32).toInt := by rw [ey_37]; exact addI (by omega) (by omega)
              refine lv_iinc (v := y_37) (lv' := [(2, .int y_37), (1, .int y_36), (0, .ref mo)]) hx hb dB_3_2_33.2.1.2 hl (k := 1) rfl (by rw [ey_37]; rfl) (by decide) rfl (fun ls hl => ?_)
              refine lv_goto (tgt := 16) hx hb dB_3_2_33.2.2.1 (by decide) ?_
              exact ih_21 y_37 y_36 _ _ _ (by omega) (by first | with_reducible assumption | omega | assumption) (by first | with_reducible assumption | omega | assumption) (by first | with_reducible assumption | omega | assumption) (by first | exact wh_0 (by first | (rw [if_pos (by omega)]; decide) | (rw [if_neg (by omega)]; decide)) | exact wh_st v3_21 (by omega) (by omega) hx_ (by omega) hand_) hP hS (lv_sub hl [0, 1, 2] rfl)
            · have t_35 : ¬ y_29.toInt = (2 : Int32).toInt := fun h => c_35 (Int32.toInt_inj.mp h)
              refine lv_iconst (v := 1) hx hb dB_3_2_33.1.1.1 (by decide) ?_
              refine lv_goto (tgt := 59) hx hb dB_3_2_33.1.1.2 (by decide) ?_
              have hx_ : (1 : Int32).toInt = 1 - bkR f5 f10 x2_21.toNatClampNeg := by unfold bkR; (repeat' split) <;> omega
              refine lv_iand hx hb dB_3_2_33.1.2.2 ?_
              refine lv_topi (fun y_38 ey_38 => ?_)
              have ty_38 : (y_38.toInt = 0 ∨ y_38.toInt = 1) ∧ y_38.toInt = (if x1_21.toInt = 1 ∧ (1 : Int32).toInt = 1 then 1 else 0) := by rw [ey_38]; exact ⟨and01 (by omega) (by omega), and_if (by omega) (by omega)⟩
              have hand_ := ty_38.2
              refine lv_istore_n (lv' := [(1, .int y_38), (2, .int x2_21), (0, .ref mo)]) hx hb dB_3_2_33.2.1.1 rfl hl (by decide) rfl (fun ls hl => ?_)
              obtain ⟨y_39, ey_39⟩ : ∃ y : Int32, y = x2_21 + 1 := ⟨_, rfl⟩
              have ty_39 : y_39.toInt = x2_21.toInt + (1 : Int32).toInt := by rw [ey_39]; exact addI (by omega) (by omega)
              refine lv_iinc (v := y_39) (lv' := [(2, .int y_39), (1, .int y_38), (0, .ref mo)]) hx hb dB_3_2_33.2.1.2 hl (k := 1) rfl (by rw [ey_39]; rfl) (by decide) rfl (fun ls hl => ?_)
              refine lv_goto (tgt := 16) hx hb dB_3_2_33.2.2.1 (by decide) ?_
              exact ih_21 y_39 y_38 _ _ _ (by omega) (by first | with_reducible assumption | omega | assumption) (by first | with_reducible assumption | omega | assumption) (by first | with_reducible assumption | omega | assumption) (by first | exact wh_0 (by first | (rw [if_pos (by omega)]; decide) | (rw [if_neg (by omega)]; decide)) | exact wh_st v3_21 (by omega) (by omega) hx_ (by omega) hand_) hP hS (lv_sub hl [0, 1, 2] rfl)

set_option maxHeartbeats 4000000 in
set_option maxRecDepth 100000 in
theorem c_X12_place3 (l : Launch) (D : va_G) (cy : Nat → ClassId) (sz : Nat) (mo : Nat) (g5 : Nat) (g6 : Nat) (g7 : Nat) (g8 : Nat) (g9 : Nat) (g10 : Nat) (g12 : Nat) (g13 : Nat) (g14 : Nat) (g15 : Nat) (g16 : Nat) (g17 : Nat) (g18 : Nat) (g19 : Nat) (g20 : Nat) (g22 : Nat) (g23 : Nat) (g24 : Nat) (g29 : Nat) (g30 : Nat) (g31 : Nat) (g32 : Nat) (g33 : Nat) (s0 : Int32) (s1 : Int32) (s3 : Int32) (s4 : Int32) (s11 : Int32) (s21 : Int32) (s25 : Int32) (s26 : Int32) (s27 : Int32) (s28 : Int32) (t2 : Int64) (f5 : Nat → Int32) (f6 : Nat → Int32) (f7 : Nat → Int32) (f8 : Nat → Int32) (f9 : Nat → Int32) (f10 : Nat → Int32) (f12 : Nat → Int32) (f13 : Nat → Int32) (f14 : Nat → Int32) (hN : 0 ≤ s4.toInt ∧ s4.toInt ≤ 40) (hPl : 0 ≤ s3.toInt ∧ s3.toInt ≤ 12) (hU : 0 ≤ s11.toInt ∧ s11.toInt ≤ 30) (hnet : netE s3.toInt s4.toInt f6 f7 f10) (hpast : pastE s11.toInt f12 f13 f14) (r_f6 : rng f6 40 (0) (11)) (r_f7 : rng f7 40 (0) (11)) (r_f8 : rng f8 40 (0) (2000)) (r_f9 : rng f9 40 (0) (100)) (r_f12 : rng f12 30 (0) (12)) (r_f13 : rng f13 30 (0) (40)) (r_f14 : orng f14 6000) : Met l yX12_place wsX12_place ({ frames := 1, cells := 0, slots := 0, locals := 22 }) (va_Pc [.ref mo] (fun U => U.heap.size = sz ∧ va_P D vwCl [ob12_0_ mo s0 s1 t2 s3 s4 g5 g6 g7 g8 g9 g10 s11 g12 g13 g14 g15 g16 g17 g18 g19 g20 s21 g22 g23 g24 s25 s26 s27 s28 g29 g30 g31 g32 g33, ai_ cy g5 40 f5, ai_ cy g6 40 f6, ai_ cy g7 40 f7, ai_ cy g8 40 f8, ai_ cy g9 40 f9, az_ cy g10 40 f10, ai_ cy g12 30 f12, ai_ cy g13 30 f13, ai_ cy g14 6000 f14] U.heap ∧ kk_ D cy U ∧ va_D (fun _ => True) [ob12_0_ mo s0 s1 t2 s3 s4 g5 g6 g7 g8 g9 g10 s11 g12 g13 g14 g15 g16 g17 g18 g19 g20 s21 g22 g23 g24 s25 s26 s27 s28 g29 g30 g31 g32 g33, ai_ cy g5 40 f5, ai_ cy g6 40 f6, ai_ cy g7 40 f7, ai_ cy g8 40 f8, ai_ cy g9 40 f9, az_ cy g10 40 f10, ai_ cy g12 30 f12, ai_ cy g13 30 f13, ai_ cy g14 6000 f14])) (va_Qi (fun (r : Int32) (_ : Unit) => (r.toInt = if s3.toInt = 12 then -3 else s3.toInt)) (fun (_ : Unit) (t : State) => ∃ (n3 : Int32), ∃ (n11 : Int32), ∃ (e12 : Nat → Int32), ∃ (e13 : Nat → Int32), ∃ (e14 : Nat → Int32), (0 ≤ n3.toInt ∧ n3.toInt ≤ 12) ∧ (0 ≤ n11.toInt ∧ n11.toInt ≤ 30) ∧ (netE n3.toInt s4.toInt f6 f7 f10) ∧ (pastE n11.toInt e12 e13 e14) ∧ (kptd (plI s3.toInt) s3 s4 f5 f6 f7 f8 f9 f10 s11.toInt f12 f13 f14 n11.toInt e12 e13 e14) ∧ ((plI s3.toInt = 0 → n3.toInt = s3.toInt + 1) ∧ (plI s3.toInt ≠ 0 → n3 = s3)) ∧ (rng e12 30 (0) (12)) ∧ (rng e13 30 (0) (40)) ∧ (orng e14 6000) ∧ va_P D vwCl [ob12_0_ mo 0 s1 t2 n3 s4 g5 g6 g7 g8 g9 g10 n11 g12 g13 g14 g15 g16 g17 g18 g19 g20 s21 g22 g23 g24 s25 s26 s27 s28 g29 g30 g31 g32 g33, ai_ cy g5 40 f5, ai_ cy g6 40 f6, ai_ cy g7 40 f7, ai_ cy g8 40 f8, ai_ cy g9 40 f9, az_ cy g10 40 f10, ai_ cy g12 30 e12, ai_ cy g13 30 e13, ai_ cy g14 6000 e14] t.heap ∧ va_D (va_A [ob12_0_ mo s0 s1 t2 s3 s4 g5 g6 g7 g8 g9 g10 s11 g12 g13 g14 g15 g16 g17 g18 g19 g20 s21 g22 g23 g24 s25 s26 s27 s28 g29 g30 g31 g32 g33, ai_ cy g5 40 f5, ai_ cy g6 40 f6, ai_ cy g7 40 f7, ai_ cy g8 40 f8, ai_ cy g9 40 f9, az_ cy g10 40 f10, ai_ cy g12 30 f12, ai_ cy g13 30 f13, ai_ cy g14 6000 f14] sz) [ob12_0_ mo 0 s1 t2 n3 s4 g5 g6 g7 g8 g9 g10 n11 g12 g13 g14 g15 g16 g17 g18 g19 g20 s21 g22 g23 g24 s25 s26 s27 s28 g29 g30 g31 g32 g33, ai_ cy g5 40 f5, ai_ cy g6 40 f6, ai_ cy g7 40 f7, ai_ cy g8 40 f8, ai_ cy g9 40 f9, az_ cy g10 40 f10, ai_ cy g12 30 e12, ai_ cy g13 30 e13, ai_ cy g14 6000 e14]) (va_A [ob12_0_ mo s0 s1 t2 s3 s4 g5 g6 g7 g8 g9 g10 s11 g12 g13 g14 g15 g16 g17 g18 g19 g20 s21 g22 g23 g24 s25 s26 s27 s28 g29 g30 g31 g32 g33, ai_ cy g5 40 f5, ai_ cy g6 40 f6, ai_ cy g7 40 f7, ai_ cy g8 40 f8, ai_ cy g9 40 f9, az_ cy g10 40 f10, ai_ cy g12 30 f12, ai_ cy g13 30 f13, ai_ cy g14 6000 f14] sz)) 0 0 (va_A [ob12_0_ mo s0 s1 t2 s3 s4 g5 g6 g7 g8 g9 g10 s11 g12 g13 g14 g15 g16 g17 g18 g19 g20 s21 g22 g23 g24 s25 s26 s27 s28 g29 g30 g31 g32 g33, ai_ cy g5 40 f5, ai_ cy g6 40 f6, ai_ cy g7 40 f7, ai_ cy g8 40 f8, ai_ cy g9 40 f9, az_ cy g10 40 f10, ai_ cy g12 30 f12, ai_ cy g13 30 f13, ai_ cy g14 6000 f14] sz) := by
  refine ofQ (cc := cX12_place) (maxL := 1) (ret := (some .int)) (by decide) rfl ?_
  intro p e s m args below meth c s₁ Q hQ B hml hv
  obtain ⟨rfl, hsz, hP, hK, hD0⟩ := hv
  have hx := B.exec
  have hb := B.bytes
  have hr := B.returns
  have hts := atoms_spec (ws := wsX12_place) B.pre
  have hown : s.vm.findClass RX12 = some m.cls := by have h_ := findClass_of_methodNamed B.named; exact h_
  have hlocks := B.notSynchronized
  subst hsz
  have hD := hD0.self (sz := s.heap.size)
  generalize hAe : va_A [ob12_0_ mo s0 s1 t2 s3 s4 g5 g6 g7 g8 g9 g10 s11 g12 g13 g14 g15 g16 g17 g18 g19 g20 s21 g22 g23 g24 s25 s26 s27 s28 g29 g30 g31 g32 g33, ai_ cy g5 40 f5, ai_ cy g6 40 f6, ai_ cy g7 40 f7, ai_ cy g8 40 f8, ai_ cy g9 40 f9, az_ cy g10 40 f10, ai_ cy g12 30 f12, ai_ cy g13 30 f13, ai_ cy g14 6000 f14] s.heap.size = A at hD hQ
  have hA : ∀ q : Nat, s.heap.size ≤ q → A q := fun q h => by rw [← hAe]; exact Or.inr h
  have hS : va_S A s.heap s.heap [] := va_S.rf
  have hl := lv_entry ([.ref mo]) (n := 1) (Nat.le_of_ble_eq_true rfl)
  rw [lg_entry_eq]
  generalize (lg_sl ([.ref mo]) ++ List.replicate (1 - (lg_sl ([.ref mo])).length) Slot.unset).toArray = ls at hl ⊢
  have hl : lv_has ls 1 [(0, .ref mo)] := hl
  have zm3 : ((-3) : Int32).toInt = -3 := by decide
  have z0 : (0 : Int32).toInt = 0 := by decide
  have z1 : (1 : Int32).toInt = 1 := by decide
  have z12 : (12 : Int32).toInt = 12 := by decide
  refine lv_aload_n hx hb dB_3_0_41.1.1.1.1 rfl (lv_at hl 0 rfl) ?_
  refine lv_iconst (v := 0) hx hb dB_3_0_41.1.1.1.2 (by decide) ?_
  refine va_put (ci := 12) (v := .int 0) (ty := .int) (C := RX12) (T := TX12) (N := 34) hx hb hts (fun _ h => List.mem_cons_of_mem _ (List.mem_append_right _ h)) tyX12 tyX12_ok nmX12 hown hK.1 hP hD hS 0 rfl rfl 0 (by decide) (hts (.fieldLink RX12 85 "CutAtlasModel" "thrown" "I") (List.mem_of_getElem? (i := 1) rfl)) (fun _ h9 => h9) rfl (by decide +kernel) rfl rfl (Nat.le_of_ble_eq_true rfl) dB_3_0_41.1.1.2.1 (fun H locs hP hD hS => ?_)
  refine pd_K [ob12_0_ mo 0 s1 t2 s3 s4 g5 g6 g7 g8 g9 g10 s11 g12 g13 g14 g15 g16 g17 g18 g19 g20 s21 g22 g23 g24 s25 s26 s27 s28 g29 g30 g31 g32 g33, ai_ cy g5 40 f5, ai_ cy g6 40 f6, ai_ cy g7 40 f7, ai_ cy g8 40 f8, ai_ cy g9 40 f9, az_ cy g10 40 f10, ai_ cy g12 30 f12, ai_ cy g13 30 f13, ai_ cy g14 6000 f14] hP hD (fun hP hD => ?_)
  refine lv_aload_n hx hb dB_3_0_41.1.1.2.2 rfl (lv_at hl 0 rfl) ?_
  refine va_get (ci := 12) (v := .int s3) (C := RX12) (T := TX12) (N := 34) hx hb hts (fun _ h => List.mem_cons_of_mem _ (List.mem_append_right _ h)) hown hK.1 hP 0 rfl rfl 3 (by decide) (hts (.fieldLink RX12 88 "CutAtlasModel" "places" "I") (List.mem_of_getElem? (i := 2) rfl)) (fun _ h9 => h9) rfl dB_3_0_41.1.2.1.1 ?_
  refine lv_bipush (v := 12) hx hb dB_3_0_41.1.2.1.2 (by decide) ?_
  refine lv_icmp_ne (tgt := 17) hx hb dB_3_0_41.1.2.2.1 (by decide) (fun c_1 => ?_) (fun c_1 => ?_)
  · have t_1 : ¬ s3.toInt = (12 : Int32).toInt := fun h => c_1 (Int32.toInt_inj.mp h)
    refine lv_aload_n hx hb dB_3_0_41.2.1.1.2 rfl (lv_at hl 0 rfl) ?_
    refine ct_S hP hD hS hA [ob12_0_ mo 0 s1 t2 s3 s4 g5 g6 g7 g8 g9 g10 s11 g12 g13 g14 g15 g16 g17 g18 g19 g20 s21 g22 g23 g24 s25 s26 s27 s28 g29 g30 g31 g32 g33, ai_ cy g5 40 f5, ai_ cy g6 40 f6, ai_ cy g7 40 f7, ai_ cy g8 40 f8, ai_ cy g9 40 f9, az_ cy g10 40 f10, ai_ cy g12 30 f12, ai_ cy g13 30 f13, ai_ cy g14 6000 f14] [0, 1, 2, 3, 4, 5, 6, 7, 8, 9] (by decide) rfl (fun hPc hDw hFc hC_ => ?_)
    refine va_callv (va_runV (As := []) (rest := []) ⟨hx, hb, hml, hown, hts⟩ (c_X12_keeps2 l D cy H.size mo g5 g6 g7 g8 g9 g10 g12 g13 g14 g15 g16 g17 g18 g19 g20 g22 g23 g24 g29 g30 g31 g32 g33 (0 : Int32) s1 s3 s4 s11 s21 s25 s26 s27 s28 t2 f5 f6 f7 f8 f9 f10 f12 f13 f14 (by first | with_reducible assumption | omega | assumption) (by first | with_reducible assumption | omega | assumption) (by first | with_reducible assumption | omega | assumption) (by first | with_reducible assumption | assumption | omega) (by first | with_reducible assumption | assumption | omega) (by first | with_reducible assumption | assumption | omega) (by first | with_reducible assumption | assumption | omega) (by first | with_reducible assumption | assumption | omega) (by first | with_reducible assumption | assumption | omega) (by first | with_reducible assumption | assumption | omega)) (cwV 0 hts gX12_place_X12_keeps rfl rfl rfl ⟨rfl, hd_X12_keeps⟩ ⟨Nat.le_of_ble_eq_true rfl, Nat.le_of_ble_eq_true rfl⟩) ⟨bl_, va_recvX hK.1 hP (ci := 12) (q0 := 0) rfl rfl, fun U hU hW => ⟨rfl, by rw [hU], by rw [hU]; exact hPc, kk_mv hW hK, hDw⟩⟩ rfl rfl hl.1 rfl (lv_room (Nat.le_of_ble_eq_true rfl)) dB_3_0_41.2.1.2.1 ⟨Nat.le_of_ble_eq_true rfl, Nat.le_of_ble_eq_true rfl⟩) hS (fun q _ h => hFc q h) hFc (fun u t H locs ht hvm hw hB hz1 hk1 hS => ?_)
    obtain ⟨n11_3, e12_4, e13_5, e14_6, g_7, g_8, g_9, g_10, g_11, hP1, hD1⟩ := hB
    rw [ht] at hP1
    obtain ⟨hP, hD⟩ := va_join (wr := []) (w1 := [ob12_0_ mo 0 s1 t2 s3 s4 g5 g6 g7 g8 g9 g10 n11_3 g12 g13 g14 g15 g16 g17 g18 g19 g20 s21 g22 g23 g24 s25 s26 s27 s28 g29 g30 g31 g32 g33, ai_ cy g5 40 f5, ai_ cy g6 40 f6, ai_ cy g7 40 f7, ai_ cy g8 40 f8, ai_ cy g9 40 f9, az_ cy g10 40 f10, ai_ cy g12 30 e12_4, ai_ cy g13 30 e13_5, ai_ cy g14 6000 e14_6]) hP hD [0, 1, 2, 3, 4, 5, 6, 7, 8, 9] [] hC_ rfl (by decide) (by decide) hk1 hFc hP1 hD1
    refine pd_K [ob12_0_ mo 0 s1 t2 s3 s4 g5 g6 g7 g8 g9 g10 n11_3 g12 g13 g14 g15 g16 g17 g18 g19 g20 s21 g22 g23 g24 s25 s26 s27 s28 g29 g30 g31 g32 g33, ai_ cy g5 40 f5, ai_ cy g6 40 f6, ai_ cy g7 40 f7, ai_ cy g8 40 f8, ai_ cy g9 40 f9, az_ cy g10 40 f10, ai_ cy g12 30 e12_4, ai_ cy g13 30 e13_5, ai_ cy g14 6000 e14_6] hP hD (fun hP hD => ?_)
    have hpa_ : pastE n11_3.toInt e12_4 e13_5 e14_6 := kept_past g_8 hnet hpast (by omega) (by assumption) (by assumption) (by omega)
    have hkp_ := g_8
    refine lv_aload_n hx hb dB_3_0_41.2.1.2.2 rfl (lv_at hl 0 rfl) ?_
    refine lv_dup hx hb dB_3_0_41.2.2.1.1 rfl ?_
    refine va_get (ci := 12) (v := .int s3) (C := RX12) (T := TX12) (N := 34) hx hb hts (fun _ h => List.mem_cons_of_mem _ (List.mem_append_right _ h)) hown hK.1 hP 0 rfl rfl 3 (by decide) (hts (.fieldLink RX12 88 "CutAtlasModel" "places" "I") (List.mem_of_getElem? (i := 2) rfl)) (fun _ h9 => h9) rfl dB_3_0_41.2.2.1.2 ?_
    refine lv_iconst (v := 1) hx hb dB_3_0_41.2.2.2.1 (by decide) ?_
    refine lv_iadd hx hb dB_3_0_41.2.2.2.2 ?_
    refine lv_topi (fun y_12 ey_12 => ?_)
    have ty_12 : y_12.toInt = s3.toInt + (1 : Int32).toInt := by rw [ey_12]; exact addI (by omega) (by omega)
    refine va_put (ci := 12) (v := .int y_12) (ty := .int) (C := RX12) (T := TX12) (N := 34) hx hb hts (fun _ h => List.mem_cons_of_mem _ (List.mem_append_right _ h)) tyX12 tyX12_ok nmX12 hown hK.1 hP hD hS 0 rfl rfl 3 (by decide) (hts (.fieldLink RX12 88 "CutAtlasModel" "places" "I") (List.mem_of_getElem? (i := 2) rfl)) (fun _ h9 => h9) rfl (by decide +kernel) rfl rfl (Nat.le_of_ble_eq_true rfl) dB_3_0_42.1.1 (fun H locs hP hD hS => ?_)
    refine pd_K [ob12_0_ mo 0 s1 t2 y_12 s4 g5 g6 g7 g8 g9 g10 n11_3 g12 g13 g14 g15 g16 g17 g18 g19 g20 s21 g22 g23 g24 s25 s26 s27 s28 g29 g30 g31 g32 g33, ai_ cy g5 40 f5, ai_ cy g6 40 f6, ai_ cy g7 40 f7, ai_ cy g8 40 f8, ai_ cy g9 40 f9, az_ cy g10 40 f10, ai_ cy g12 30 e12_4, ai_ cy g13 30 e13_5, ai_ cy g14 6000 e14_6] hP hD (fun hP hD => ?_)
    refine lv_aload_n hx hb dB_3_0_42.1.2.1 rfl (lv_at hl 0 rfl) ?_
    refine va_get (ci := 12) (v := .int y_12) (C := RX12) (T := TX12) (N := 34) hx hb hts (fun _ h => List.mem_cons_of_mem _ (List.mem_append_right _ h)) hown hK.1 hP 0 rfl rfl 3 (by decide) (hts (.fieldLink RX12 88 "CutAtlasModel" "places" "I") (List.mem_of_getElem? (i := 2) rfl)) (fun _ h9 => h9) rfl dB_3_0_42.1.2.2 ?_
    refine lv_iconst (v := 1) hx hb dB_3_0_42.2.1 (by decide) ?_
    refine lv_isub hx hb dB_3_0_42.2.2.1 ?_
    refine lv_topi (fun y_13 ey_13 => ?_)
    have ty_13 : y_13.toInt = y_12.toInt - (1 : Int32).toInt := by rw [ey_13]; exact subI (by omega) (by omega)
    rw [hQ]
    exact W.iret (v := y_13) hx hb hr (fun t ht hW => ⟨⟨y_13, (), rfl, (by first | (rw [if_pos (by omega)]; first | decide | omega) | (rw [if_neg (by omega)]; omega)), y_12, n11_3, e12_4, e13_5, e14_6, (by first | with_reducible assumption | omega | assumption), (by first | with_reducible assumption | omega | assumption), (by first | exact hnet | exact netE_up hnet (by omega)), (by first | exact hpa_ | assumption), (by first | exact kptd_no (by unfold plI; (repeat' (first | with_reducible refine if_n (by omega) ?_ | with_reducible refine if_ns (by omega) ?_ | with_reducible refine if_nz (by omega) ?_ | with_reducible exact if_p (by omega) (by omega) | with_reducible exact if_ps (by omega) (by omega) | with_reducible exact if_pz (by omega) (by omega))) <;> omega) | exact kptd_ok (by unfold plI; (repeat' (first | with_reducible refine if_n (by omega) ?_ | with_reducible refine if_ns (by omega) ?_ | with_reducible refine if_nz (by omega) ?_ | with_reducible exact if_p (by omega) (by omega) | with_reducible exact if_ps (by omega) (by omega) | with_reducible exact if_pz (by omega) (by omega))) <;> omega) hkp_), (by first | exact ⟨fun h => absurd h (by unfold plI; (repeat' (first | with_reducible refine if_n (by omega) ?_ | with_reducible refine if_ns (by omega) ?_ | with_reducible refine if_nz (by omega) ?_ | with_reducible exact if_p (by omega) (by omega) | with_reducible exact if_ps (by omega) (by omega) | with_reducible exact if_pz (by omega) (by omega))) <;> omega), fun _ => rfl⟩ | exact ⟨fun _ => by omega, fun h => absurd (by unfold plI; (repeat' (first | with_reducible refine if_n (by omega) ?_ | with_reducible refine if_ns (by omega) ?_ | with_reducible refine if_nz (by omega) ?_ | with_reducible exact if_p (by omega) (by omega) | with_reducible exact if_ps (by omega) (by omega) | with_reducible exact if_pz (by omega) (by omega))) <;> omega) h⟩), (by first | with_reducible assumption | assumption | exact rng_zero (by omega) (by omega) | omega), (by first | with_reducible assumption | assumption | exact rng_zero (by omega) (by omega) | omega), (by first | with_reducible assumption | assumption | exact rng_zero (by omega) (by omega) | omega), by rw [ht]; exact hP, hD⟩, hS.F ht⟩) hS.2.2 dB_3_0_42.2.2.2
  · have t_1 : s3.toInt = (12 : Int32).toInt := congrArg Int32.toInt c_1
    refine lv_bipush (v := (-3)) hx hb dB_3_0_41.1.2.2.2 (by decide) ?_
    rw [hQ]
    exact W.iret (v := (-3)) hx hb hr (fun t ht hW => ⟨⟨(-3), (), rfl, (by first | (rw [if_pos (by omega)]; first | decide | omega) | (rw [if_neg (by omega)]; omega)), s3, s11, f12, f13, f14, (by first | with_reducible assumption | omega | assumption), (by first | with_reducible assumption | omega | assumption), (by first | exact hnet | exact netE_up hnet (by omega)), (by first | exact hpa_ | assumption), (by first | exact kptd_no (by unfold plI; (repeat' (first | with_reducible refine if_n (by omega) ?_ | with_reducible refine if_ns (by omega) ?_ | with_reducible refine if_nz (by omega) ?_ | with_reducible exact if_p (by omega) (by omega) | with_reducible exact if_ps (by omega) (by omega) | with_reducible exact if_pz (by omega) (by omega))) <;> omega) | exact kptd_ok (by unfold plI; (repeat' (first | with_reducible refine if_n (by omega) ?_ | with_reducible refine if_ns (by omega) ?_ | with_reducible refine if_nz (by omega) ?_ | with_reducible exact if_p (by omega) (by omega) | with_reducible exact if_ps (by omega) (by omega) | with_reducible exact if_pz (by omega) (by omega))) <;> omega) hkp_), (by first | exact ⟨fun h => absurd h (by unfold plI; (repeat' (first | with_reducible refine if_n (by omega) ?_ | with_reducible refine if_ns (by omega) ?_ | with_reducible refine if_nz (by omega) ?_ | with_reducible exact if_p (by omega) (by omega) | with_reducible exact if_ps (by omega) (by omega) | with_reducible exact if_pz (by omega) (by omega))) <;> omega), fun _ => rfl⟩ | exact ⟨fun _ => by omega, fun h => absurd (by unfold plI; (repeat' (first | with_reducible refine if_n (by omega) ?_ | with_reducible refine if_ns (by omega) ?_ | with_reducible refine if_nz (by omega) ?_ | with_reducible exact if_p (by omega) (by omega) | with_reducible exact if_ps (by omega) (by omega) | with_reducible exact if_pz (by omega) (by omega))) <;> omega) h⟩), (by first | with_reducible assumption | assumption | exact rng_zero (by omega) (by omega) | omega), (by first | with_reducible assumption | assumption | exact rng_zero (by omega) (by omega) | omega), (by first | with_reducible assumption | assumption | exact rng_zero (by omega) (by omega) | omega), by rw [ht]; exact hP, hD⟩, hS.F ht⟩) hS.2.2 dB_3_0_41.2.1.1.1

set_option maxHeartbeats 4000000 in
set_option maxRecDepth 100000 in
theorem c_X12_line3 (l : Launch) (D : va_G) (cy : Nat → ClassId) (sz : Nat) (mo : Nat) (g5 : Nat) (g6 : Nat) (g7 : Nat) (g8 : Nat) (g9 : Nat) (g10 : Nat) (g12 : Nat) (g13 : Nat) (g14 : Nat) (g15 : Nat) (g16 : Nat) (g17 : Nat) (g18 : Nat) (g19 : Nat) (g20 : Nat) (g22 : Nat) (g23 : Nat) (g24 : Nat) (g29 : Nat) (g30 : Nat) (g31 : Nat) (g32 : Nat) (g33 : Nat) (s0 : Int32) (s1 : Int32) (s3 : Int32) (s4 : Int32) (s11 : Int32) (s21 : Int32) (s25 : Int32) (s26 : Int32) (s27 : Int32) (s28 : Int32) (t2 : Int64) (f5 : Nat → Int32) (f6 : Nat → Int32) (f7 : Nat → Int32) (f8 : Nat → Int32) (f9 : Nat → Int32) (f10 : Nat → Int32) (f12 : Nat → Int32) (f13 : Nat → Int32) (f14 : Nat → Int32) (a1 : Int32) (a2 : Int32) (a3 : Int32) (a4 : Int32) (a5 : Int32) (hN : 0 ≤ s4.toInt ∧ s4.toInt ≤ 40) (hPl : 0 ≤ s3.toInt ∧ s3.toInt ≤ 12) (hU : 0 ≤ s11.toInt ∧ s11.toInt ≤ 30) (hnet : netE s3.toInt s4.toInt f6 f7 f10) (hpast : pastE s11.toInt f12 f13 f14) (r_f6 : rng f6 40 (0) (11)) (r_f7 : rng f7 40 (0) (11)) (r_f8 : rng f8 40 (0) (2000)) (r_f9 : rng f9 40 (0) (100)) (r_f12 : rng f12 30 (0) (12)) (r_f13 : rng f13 30 (0) (40)) (r_f14 : orng f14 6000) : Met l yX12_line wsX12_line ({ frames := 2, cells := 0, slots := 0, locals := 56 }) (va_Pc [.ref mo, .int a1, .int a2, .int a3, .int a4, .int a5] (fun U => U.heap.size = sz ∧ va_P D vwCl [ob12_0_ mo s0 s1 t2 s3 s4 g5 g6 g7 g8 g9 g10 s11 g12 g13 g14 g15 g16 g17 g18 g19 g20 s21 g22 g23 g24 s25 s26 s27 s28 g29 g30 g31 g32 g33, ai_ cy g5 40 f5, ai_ cy g6 40 f6, ai_ cy g7 40 f7, ai_ cy g8 40 f8, ai_ cy g9 40 f9, az_ cy g10 40 f10, ai_ cy g12 30 f12, ai_ cy g13 30 f13, ai_ cy g14 6000 f14] U.heap ∧ kk_ D cy U ∧ va_D (fun _ => True) [ob12_0_ mo s0 s1 t2 s3 s4 g5 g6 g7 g8 g9 g10 s11 g12 g13 g14 g15 g16 g17 g18 g19 g20 s21 g22 g23 g24 s25 s26 s27 s28 g29 g30 g31 g32 g33, ai_ cy g5 40 f5, ai_ cy g6 40 f6, ai_ cy g7 40 f7, ai_ cy g8 40 f8, ai_ cy g9 40 f9, az_ cy g10 40 f10, ai_ cy g12 30 f12, ai_ cy g13 30 f13, ai_ cy g14 6000 f14])) (va_Qi (fun (r : Int32) (_ : Unit) => (r.toInt = if lnI a1.toInt a2.toInt a3.toInt a4.toInt a5.toInt s3.toInt s4.toInt = 0 then s4.toInt else lnI a1.toInt a2.toInt a3.toInt a4.toInt a5.toInt s3.toInt s4.toInt)) (fun (_ : Unit) (t : State) => ∃ (n2 : Int64), ∃ (n4 : Int32), ∃ (n11 : Int32), ∃ (e5 : Nat → Int32), ∃ (e6 : Nat → Int32), ∃ (e7 : Nat → Int32), ∃ (e8 : Nat → Int32), ∃ (e9 : Nat → Int32), ∃ (e10 : Nat → Int32), ∃ (e12 : Nat → Int32), ∃ (e13 : Nat → Int32), ∃ (e14 : Nat → Int32), (0 ≤ n4.toInt ∧ n4.toInt ≤ 40) ∧ (0 ≤ n11.toInt ∧ n11.toInt ≤ 30) ∧ (netE s3.toInt n4.toInt e6 e7 e10) ∧ (pastE n11.toInt e12 e13 e14) ∧ (kptd (lnI a1.toInt a2.toInt a3.toInt a4.toInt a5.toInt s3.toInt s4.toInt) s3 s4 f5 f6 f7 f8 f9 f10 s11.toInt f12 f13 f14 n11.toInt e12 e13 e14) ∧ ((lnI a1.toInt a2.toInt a3.toInt a4.toInt a5.toInt s3.toInt s4.toInt = 0 → adR s4 f5 f6 f7 f8 f9 f10 a1 a2 a3 a4 a5 n4 e5 e6 e7 e8 e9 e10) ∧ (lnI a1.toInt a2.toInt a3.toInt a4.toInt a5.toInt s3.toInt s4.toInt ≠ 0 → n4 = s4 ∧ e5 = f5 ∧ e6 = f6 ∧ e7 = f7 ∧ e8 = f8 ∧ e9 = f9 ∧ e10 = f10)) ∧ (rng e6 40 (0) (11)) ∧ (rng e7 40 (0) (11)) ∧ (rng e8 40 (0) (2000)) ∧ (rng e9 40 (0) (100)) ∧ (rng e12 30 (0) (12)) ∧ (rng e13 30 (0) (40)) ∧ (orng e14 6000) ∧ va_P D vwCl [ob12_0_ mo 0 s1 n2 s3 n4 g5 g6 g7 g8 g9 g10 n11 g12 g13 g14 g15 g16 g17 g18 g19 g20 s21 g22 g23 g24 s25 s26 s27 s28 g29 g30 g31 g32 g33, ai_ cy g5 40 e5, ai_ cy g6 40 e6, ai_ cy g7 40 e7, ai_ cy g8 40 e8, ai_ cy g9 40 e9, az_ cy g10 40 e10, ai_ cy g12 30 e12, ai_ cy g13 30 e13, ai_ cy g14 6000 e14] t.heap ∧ va_D (va_A [ob12_0_ mo s0 s1 t2 s3 s4 g5 g6 g7 g8 g9 g10 s11 g12 g13 g14 g15 g16 g17 g18 g19 g20 s21 g22 g23 g24 s25 s26 s27 s28 g29 g30 g31 g32 g33, ai_ cy g5 40 f5, ai_ cy g6 40 f6, ai_ cy g7 40 f7, ai_ cy g8 40 f8, ai_ cy g9 40 f9, az_ cy g10 40 f10, ai_ cy g12 30 f12, ai_ cy g13 30 f13, ai_ cy g14 6000 f14] sz) [ob12_0_ mo 0 s1 n2 s3 n4 g5 g6 g7 g8 g9 g10 n11 g12 g13 g14 g15 g16 g17 g18 g19 g20 s21 g22 g23 g24 s25 s26 s27 s28 g29 g30 g31 g32 g33, ai_ cy g5 40 e5, ai_ cy g6 40 e6, ai_ cy g7 40 e7, ai_ cy g8 40 e8, ai_ cy g9 40 e9, az_ cy g10 40 e10, ai_ cy g12 30 e12, ai_ cy g13 30 e13, ai_ cy g14 6000 e14]) (va_A [ob12_0_ mo s0 s1 t2 s3 s4 g5 g6 g7 g8 g9 g10 s11 g12 g13 g14 g15 g16 g17 g18 g19 g20 s21 g22 g23 g24 s25 s26 s27 s28 g29 g30 g31 g32 g33, ai_ cy g5 40 f5, ai_ cy g6 40 f6, ai_ cy g7 40 f7, ai_ cy g8 40 f8, ai_ cy g9 40 f9, az_ cy g10 40 f10, ai_ cy g12 30 f12, ai_ cy g13 30 f13, ai_ cy g14 6000 f14] sz)) 0 0 (va_A [ob12_0_ mo s0 s1 t2 s3 s4 g5 g6 g7 g8 g9 g10 s11 g12 g13 g14 g15 g16 g17 g18 g19 g20 s21 g22 g23 g24 s25 s26 s27 s28 g29 g30 g31 g32 g33, ai_ cy g5 40 f5, ai_ cy g6 40 f6, ai_ cy g7 40 f7, ai_ cy g8 40 f8, ai_ cy g9 40 f9, az_ cy g10 40 f10, ai_ cy g12 30 f12, ai_ cy g13 30 f13, ai_ cy g14 6000 f14] sz) := by
  refine ofQ (cc := cX12_line) (maxL := 7) (ret := (some .int)) (by decide) rfl ?_
  intro p e s m args below meth c s₁ Q hQ B hml hv
  obtain ⟨rfl, hsz, hP, hK, hD0⟩ := hv
  have hx := B.exec
  have hb := B.bytes
  have hr := B.returns
  have hts := atoms_spec (ws := wsX12_line) B.pre
  have hown : s.vm.findClass RX12 = some m.cls := by have h_ := findClass_of_methodNamed B.named; exact h_
  have hlocks := B.notSynchronized
  subst hsz
  have hD := hD0.self (sz := s.heap.size)
  generalize hAe : va_A [ob12_0_ mo s0 s1 t2 s3 s4 g5 g6 g7 g8 g9 g10 s11 g12 g13 g14 g15 g16 g17 g18 g19 g20 s21 g22 g23 g24 s25 s26 s27 s28 g29 g30 g31 g32 g33, ai_ cy g5 40 f5, ai_ cy g6 40 f6, ai_ cy g7 40 f7, ai_ cy g8 40 f8, ai_ cy g9 40 f9, az_ cy g10 40 f10, ai_ cy g12 30 f12, ai_ cy g13 30 f13, ai_ cy g14 6000 f14] s.heap.size = A at hD hQ
  have hA : ∀ q : Nat, s.heap.size ≤ q → A q := fun q h => by rw [← hAe]; exact Or.inr h
  have hS : va_S A s.heap s.heap [] := va_S.rf
  have hl := lv_entry ([.ref mo, .int a1, .int a2, .int a3, .int a4, .int a5]) (n := 7) (Nat.le_of_ble_eq_true rfl)
  rw [lg_entry_eq]
  generalize (lg_sl ([.ref mo, .int a1, .int a2, .int a3, .int a4, .int a5]) ++ List.replicate (7 - (lg_sl ([.ref mo, .int a1, .int a2, .int a3, .int a4, .int a5])).length) Slot.unset).toArray = ls at hl ⊢
  have hl : lv_has ls 7 [(0, .ref mo), (1, .int a1), (2, .int a2), (3, .int a3), (4, .int a4), (5, .int a5)] := hl
  have zm3 : ((-3) : Int32).toInt = -3 := by decide
  have zm1 : ((-1) : Int32).toInt = -1 := by decide
  have z0 : (0 : Int32).toInt = 0 := by decide
  have z1 : (1 : Int32).toInt = 1 := by decide
  refine lv_aload_n hx hb dB_3_0_29.1.1.1.1 rfl (lv_at hl 0 rfl) ?_
  refine lv_iconst (v := 0) hx hb dB_3_0_29.1.1.1.2 (by decide) ?_
  refine va_put (ci := 12) (v := .int 0) (ty := .int) (C := RX12) (T := TX12) (N := 34) hx hb hts (fun _ h => List.mem_cons_of_mem _ (List.mem_append_right _ h)) tyX12 tyX12_ok nmX12 hown hK.1 hP hD hS 0 rfl rfl 0 (by decide) (hts (.fieldLink RX12 85 "CutAtlasModel" "thrown" "I") (List.mem_of_getElem? (i := 1) rfl)) (fun _ h9 => h9) rfl (by decide +kernel) rfl rfl (Nat.le_of_ble_eq_true rfl) dB_3_0_29.1.1.2.1 (fun H locs hP hD hS => ?_)
  refine pd_K [ob12_0_ mo 0 s1 t2 s3 s4 g5 g6 g7 g8 g9 g10 s11 g12 g13 g14 g15 g16 g17 g18 g19 g20 s21 g22 g23 g24 s25 s26 s27 s28 g29 g30 g31 g32 g33, ai_ cy g5 40 f5, ai_ cy g6 40 f6, ai_ cy g7 40 f7, ai_ cy g8 40 f8, ai_ cy g9 40 f9, az_ cy g10 40 f10, ai_ cy g12 30 f12, ai_ cy g13 30 f13, ai_ cy g14 6000 f14] hP hD (fun hP hD => ?_)
  refine lv_aload_n hx hb dB_3_0_29.1.1.2.2 rfl (lv_at hl 0 rfl) ?_
  refine lv_iload_n hx hb dB_3_0_29.1.2.1.1 rfl (lv_at hl 1 rfl) ?_
  refine lv_i2l (v := a1.toInt64) hx hb dB_3_0_29.1.2.1.2 rfl ?_
  have q_7 : (a1.toInt64).toInt = a1.toInt := Int32.toInt_toInt64 a1
  refine lv_iload_n hx hb dB_3_0_29.1.2.2.1 rfl (lv_at hl 2 rfl) ?_
  refine lv_i2l (v := a2.toInt64) hx hb dB_3_0_29.1.2.2.2 rfl ?_
  have q_9 : (a2.toInt64).toInt = a2.toInt := Int32.toInt_toInt64 a2
  refine lv_iload_n hx hb dB_3_0_29.2.1.1.1 rfl (lv_at hl 3 rfl) ?_
  refine lv_i2l (v := a3.toInt64) hx hb dB_3_0_29.2.1.1.2 rfl ?_
  have q_11 : (a3.toInt64).toInt = a3.toInt := Int32.toInt_toInt64 a3
  refine lv_iload hx hb dB_3_0_29.2.1.2.1 (lv_at hl 4 rfl) ?_
  refine lv_i2l (v := a4.toInt64) hx hb dB_3_0_29.2.1.2.2 rfl ?_
  have q_14 : (a4.toInt64).toInt = a4.toInt := Int32.toInt_toInt64 a4
  refine lv_iload hx hb dB_3_0_29.2.2.1.1 (lv_at hl 5 rfl) ?_
  refine lv_i2l (v := a5.toInt64) hx hb dB_3_0_29.2.2.1.2 rfl ?_
  have q_17 : (a5.toInt64).toInt = a5.toInt := Int32.toInt_toInt64 a5
  refine ct_R hP hD [ob12_0_ mo 0 s1 t2 s3 s4 g5 g6 g7 g8 g9 g10 s11 g12 g13 g14 g15 g16 g17 g18 g19 g20 s21 g22 g23 g24 s25 s26 s27 s28 g29 g30 g31 g32 g33] [0] (by decide) rfl (fun hPc hDw => ?_)
  have hFc := va_free (wc := []) hD hS hA [] rfl
  refine va_calli (va_runV (As := [.long a1.toInt64, .long a2.toInt64, .long a3.toInt64, .long a4.toInt64, .long a5.toInt64]) (rest := []) ⟨hx, hb, hml, hown, hts⟩ (c_X12_refused l D cy H.size mo g5 g6 g7 g8 g9 g10 g12 g13 g14 g15 g16 g17 g18 g19 g20 g22 g23 g24 g29 g30 g31 g32 g33 (0 : Int32) s1 s3 s4 s11 s21 s25 s26 s27 s28 t2 a1.toInt64 a2.toInt64 a3.toInt64 a4.toInt64 a5.toInt64 (by first | with_reducible assumption | omega | assumption) (by first | with_reducible assumption | omega | assumption)) (cwV 5 hts gX12_line_X12_refused rfl rfl rfl ⟨rfl, hd_X12_refused⟩ ⟨Nat.le_of_ble_eq_true rfl, Nat.le_of_ble_eq_true rfl⟩) ⟨bl_, va_recvX hK.1 hP (ci := 12) (q0 := 0) rfl rfl, fun U hU hW => ⟨rfl, by rw [hU], by rw [hU]; exact hPc, kk_mv hW hK, hDw⟩⟩ rfl rfl hl.1 rfl (lv_room (Nat.le_of_ble_eq_true rfl)) dB_3_0_29.2.2.2.1 ⟨Nat.le_of_ble_eq_true rfl, Nat.le_of_ble_eq_true rfl⟩) hS (fun q _ h => hFc q h) hFc (fun r_1 u t H locs ht hvm hw hB hz1 hk1 hS => ?_)
  have hP : va_P D vwCl _ H := ro_keep hP hk1
  rcases hw with ⟨w_2, e_⟩ | ⟨w_2, e_⟩ | ⟨w_2, e_⟩
  · have e_ := e_.symm
    subst e_
    refine lv_istore (lv' := [(6, .int (-1)), (0, .ref mo), (1, .int a1), (2, .int a2), (3, .int a3), (4, .int a4), (5, .int a5)]) hx hb dB_3_0_29.2.2.2.2 hl (by decide) rfl (fun ls hl => ?_)
    refine lv_iload hx hb dB_3_0_30.1.1.1.1 (lv_at hl 0 rfl) ?_
    refine lv_if_ge (tgt := 31) hx hb dB_3_0_30.1.1.1.2 (by decide) (fun c_3 => ?_) (fun c_3 => ?_)
    · exact absurd c_3 (by decide)
    · have _ := c_3
      refine lv_iload hx hb dB_3_0_30.1.1.2.1 (lv_at hl 0 rfl) ?_
      rw [hQ]
      exact W.iret (v := (-1)) hx hb hr (fun t ht hW => ⟨⟨(-1), (), rfl, (by unfold lnI; (repeat' split) <;> omega), t2, s4, s11, f5, f6, f7, f8, f9, f10, f12, f13, f14, (by first | with_reducible assumption | omega | assumption), (by first | with_reducible assumption | omega | assumption), (by first | exact hne_ | assumption), (by first | exact hpa_ | assumption), (by first | exact kptd_no (by unfold lnI; (repeat' (first | with_reducible refine if_n (by omega) ?_ | with_reducible refine if_ns (by omega) ?_ | with_reducible refine if_nz (by omega) ?_ | with_reducible exact if_p (by omega) (by omega) | with_reducible exact if_ps (by omega) (by omega) | with_reducible exact if_pz (by omega) (by omega))) <;> omega) | exact kptd_ok (by unfold lnI; (repeat' (first | with_reducible refine if_n (by omega) ?_ | with_reducible refine if_ns (by omega) ?_ | with_reducible refine if_nz (by omega) ?_ | with_reducible exact if_p (by omega) (by omega) | with_reducible exact if_ps (by omega) (by omega) | with_reducible exact if_pz (by omega) (by omega))) <;> omega) hkp_), (by first | exact ⟨fun h => absurd h (by unfold lnI; (repeat' (first | with_reducible refine if_n (by omega) ?_ | with_reducible refine if_ns (by omega) ?_ | with_reducible refine if_nz (by omega) ?_ | with_reducible exact if_p (by omega) (by omega) | with_reducible exact if_ps (by omega) (by omega) | with_reducible exact if_pz (by omega) (by omega))) <;> omega), fun _ => ⟨rfl, rfl, rfl, rfl, rfl, rfl, rfl⟩⟩ | exact ⟨fun _ => S[ad], fun h => absurd (by unfold lnI; (repeat' (first | with_reducible refine if_n (by omega) ?_ | with_reducible refine if_ns (by omega) ?_ | with_reducible refine if_nz (by omega) ?_ | with_reducible exact if_p (by omega) (by omega) | with_reducible exact if_ps (by omega) (by omega) | with_reducible exact if_pz (by omega) (by omega))) <;> omega) h⟩), (by first | with_reducible assumption | assumption | exact rng_zero (by omega) (by omega) | omega), (by first | with_reducible assumption | assumption | exact rng_zero (by omega) (by omega) | omega), (by first | with_reducible assumption | assumption | exact rng_zero (by omega) (by omega) | omega), (by first | with_reducible assumption | assumption | exact rng_zero (by omega) (by omega) | omega), (by first | with_reducible assumption | assumption | exact rng_zero (by omega) (by omega) | omega), (by first | with_reducible assumption | assumption | exact rng_zero (by omega) (by omega) | omega), (by first | with_reducible assumption | assumption | exact rng_zero (by omega) (by omega) | omega), by rw [ht]; exact hP, hD⟩, hS.F ht⟩) hS.2.2 dB_3_0_30.1.1.2.2
  · have e_ := e_.symm
    subst e_
    refine lv_istore (lv' := [(6, .int (-3)), (0, .ref mo), (1, .int a1), (2, .int a2), (3, .int a3), (4, .int a4), (5, .int a5)]) hx hb dB_3_0_29.2.2.2.2 hl (by decide) rfl (fun ls hl => ?_)
    refine lv_iload hx hb dB_3_0_30.1.1.1.1 (lv_at hl 0 rfl) ?_
    refine lv_if_ge (tgt := 31) hx hb dB_3_0_30.1.1.1.2 (by decide) (fun c_4 => ?_) (fun c_4 => ?_)
    · exact absurd c_4 (by decide)
    · have _ := c_4
      refine lv_iload hx hb dB_3_0_30.1.1.2.1 (lv_at hl 0 rfl) ?_
      rw [hQ]
      exact W.iret (v := (-3)) hx hb hr (fun t ht hW => ⟨⟨(-3), (), rfl, (by unfold lnI; (repeat' split) <;> omega), t2, s4, s11, f5, f6, f7, f8, f9, f10, f12, f13, f14, (by first | with_reducible assumption | omega | assumption), (by first | with_reducible assumption | omega | assumption), (by first | exact hne_ | assumption), (by first | exact hpa_ | assumption), (by first | exact kptd_no (by unfold lnI; (repeat' (first | with_reducible refine if_n (by omega) ?_ | with_reducible refine if_ns (by omega) ?_ | with_reducible refine if_nz (by omega) ?_ | with_reducible exact if_p (by omega) (by omega) | with_reducible exact if_ps (by omega) (by omega) | with_reducible exact if_pz (by omega) (by omega))) <;> omega) | exact kptd_ok (by unfold lnI; (repeat' (first | with_reducible refine if_n (by omega) ?_ | with_reducible refine if_ns (by omega) ?_ | with_reducible refine if_nz (by omega) ?_ | with_reducible exact if_p (by omega) (by omega) | with_reducible exact if_ps (by omega) (by omega) | with_reducible exact if_pz (by omega) (by omega))) <;> omega) hkp_), (by first | exact ⟨fun h => absurd h (by unfold lnI; (repeat' (first | with_reducible refine if_n (by omega) ?_ | with_reducible refine if_ns (by omega) ?_ | with_reducible refine if_nz (by omega) ?_ | with_reducible exact if_p (by omega) (by omega) | with_reducible exact if_ps (by omega) (by omega) | with_reducible exact if_pz (by omega) (by omega))) <;> omega), fun _ => ⟨rfl, rfl, rfl, rfl, rfl, rfl, rfl⟩⟩ | exact ⟨fun _ => S[ad], fun h => absurd (by unfold lnI; (repeat' (first | with_reducible refine if_n (by omega) ?_ | with_reducible refine if_ns (by omega) ?_ | with_reducible refine if_nz (by omega) ?_ | with_reducible exact if_p (by omega) (by omega) | with_reducible exact if_ps (by omega) (by omega) | with_reducible exact if_pz (by omega) (by omega))) <;> omega) h⟩), (by first | with_reducible assumption | assumption | exact rng_zero (by omega) (by omega) | omega), (by first | with_reducible assumption | assumption | exact rng_zero (by omega) (by omega) | omega), (by first | with_reducible assumption | assumption | exact rng_zero (by omega) (by omega) | omega), (by first | with_reducible assumption | assumption | exact rng_zero (by omega) (by omega) | omega), (by first | with_reducible assumption | assumption | exact rng_zero (by omega) (by omega) | omega), (by first | with_reducible assumption | assumption | exact rng_zero (by omega) (by omega) | omega), (by first | with_reducible assumption | assumption | exact rng_zero (by omega) (by omega) | omega), by rw [ht]; exact hP, hD⟩, hS.F ht⟩) hS.2.2 dB_3_0_30.1.1.2.2
  · have e_ := e_.symm
    subst e_
    refine lv_istore (lv' := [(6, .int 0), (0, .ref mo), (1, .int a1), (2, .int a2), (3, .int a3), (4, .int a4), (5, .int a5)]) hx hb dB_3_0_29.2.2.2.2 hl (by decide) rfl (fun ls hl => ?_)
    refine lv_iload hx hb dB_3_0_30.1.1.1.1 (lv_at hl 0 rfl) ?_
    refine lv_if_ge (tgt := 31) hx hb dB_3_0_30.1.1.1.2 (by decide) (fun c_5 => ?_) (fun c_5 => ?_)
    · have _ := c_5
      refine lv_aload_n hx hb dB_3_0_30.1.2.1.1 rfl (lv_at hl 1 rfl) ?_
      refine ct_S hP hD hS hA [ob12_0_ mo 0 s1 t2 s3 s4 g5 g6 g7 g8 g9 g10 s11 g12 g13 g14 g15 g16 g17 g18 g19 g20 s21 g22 g23 g24 s25 s26 s27 s28 g29 g30 g31 g32 g33, ai_ cy g5 40 f5, ai_ cy g6 40 f6, ai_ cy g7 40 f7, ai_ cy g8 40 f8, ai_ cy g9 40 f9, az_ cy g10 40 f10, ai_ cy g12 30 f12, ai_ cy g13 30 f13, ai_ cy g14 6000 f14] [0, 1, 2, 3, 4, 5, 6, 7, 8, 9] (by decide) rfl (fun hPc hDw hFc hC_ => ?_)
      refine va_callv (va_runV (As := []) (rest := []) ⟨hx, hb, hml, hown, hts⟩ (c_X12_keeps2 l D cy H.size mo g5 g6 g7 g8 g9 g10 g12 g13 g14 g15 g16 g17 g18 g19 g20 g22 g23 g24 g29 g30 g31 g32 g33 (0 : Int32) s1 s3 s4 s11 s21 s25 s26 s27 s28 t2 f5 f6 f7 f8 f9 f10 f12 f13 f14 (by first | with_reducible assumption | omega | assumption) (by first | with_reducible assumption | omega | assumption) (by first | with_reducible assumption | omega | assumption) (by first | with_reducible assumption | assumption | omega) (by first | with_reducible assumption | assumption | omega) (by first | with_reducible assumption | assumption | omega) (by first | with_reducible assumption | assumption | omega) (by first | with_reducible assumption | assumption | omega) (by first | with_reducible assumption | assumption | omega) (by first | with_reducible assumption | assumption | omega)) (cwV 0 hts gX12_line_X12_keeps rfl rfl rfl ⟨rfl, hd_X12_keeps⟩ ⟨Nat.le_of_ble_eq_true rfl, Nat.le_of_ble_eq_true rfl⟩) ⟨bl_, va_recvX hK.1 hP (ci := 12) (q0 := 0) rfl rfl, fun U hU hW => ⟨rfl, by rw [hU], by rw [hU]; exact hPc, kk_mv hW hK, hDw⟩⟩ rfl rfl hl.1 rfl (lv_room (Nat.le_of_ble_eq_true rfl)) dB_3_0_30.1.2.1.2 ⟨Nat.le_of_ble_eq_true rfl, Nat.le_of_ble_eq_true rfl⟩) hS (fun q _ h => hFc q h) hFc (fun u t H locs ht hvm hw hB hz1 hk1 hS => ?_)
      obtain ⟨n11_7, e12_8, e13_9, e14_10, g_11, g_12, g_13, g_14, g_15, hP1, hD1⟩ := hB
      rw [ht] at hP1
      obtain ⟨hP, hD⟩ := va_join (wr := []) (w1 := [ob12_0_ mo 0 s1 t2 s3 s4 g5 g6 g7 g8 g9 g10 n11_7 g12 g13 g14 g15 g16 g17 g18 g19 g20 s21 g22 g23 g24 s25 s26 s27 s28 g29 g30 g31 g32 g33, ai_ cy g5 40 f5, ai_ cy g6 40 f6, ai_ cy g7 40 f7, ai_ cy g8 40 f8, ai_ cy g9 40 f9, az_ cy g10 40 f10, ai_ cy g12 30 e12_8, ai_ cy g13 30 e13_9, ai_ cy g14 6000 e14_10]) hP hD [0, 1, 2, 3, 4, 5, 6, 7, 8, 9] [] hC_ rfl (by decide) (by decide) hk1 hFc hP1 hD1
      refine pd_K [ob12_0_ mo 0 s1 t2 s3 s4 g5 g6 g7 g8 g9 g10 n11_7 g12 g13 g14 g15 g16 g17 g18 g19 g20 s21 g22 g23 g24 s25 s26 s27 s28 g29 g30 g31 g32 g33, ai_ cy g5 40 f5, ai_ cy g6 40 f6, ai_ cy g7 40 f7, ai_ cy g8 40 f8, ai_ cy g9 40 f9, az_ cy g10 40 f10, ai_ cy g12 30 e12_8, ai_ cy g13 30 e13_9, ai_ cy g14 6000 e14_10] hP hD (fun hP hD => ?_)
      have hpa_ : pastE n11_7.toInt e12_8 e13_9 e14_10 := kept_past g_12 hnet hpast (by omega) (by assumption) (by assumption) (by omega)
      have hkp_ := g_12
      refine lv_aload_n hx hb dB_3_0_30.1.2.2.1 rfl (lv_at hl 1 rfl) ?_
      refine lv_iload_n hx hb dB_3_0_30.1.2.2.2 rfl (lv_at hl 2 rfl) ?_
      refine lv_iload_n hx hb dB_3_0_30.2.1.1.1 rfl (lv_at hl 3 rfl) ?_
      refine lv_iload_n hx hb dB_3_0_30.2.1.1.2 rfl (lv_at hl 4 rfl) ?_
      refine lv_iload hx hb dB_3_0_30.2.1.2.1 (lv_at hl 5 rfl) ?_
      refine lv_iload hx hb dB_3_0_30.2.1.2.2 (lv_at hl 6 rfl) ?_
      refine ct_S hP hD hS hA [ob12_0_ mo 0 s1 t2 s3 s4 g5 g6 g7 g8 g9 g10 n11_7 g12 g13 g14 g15 g16 g17 g18 g19 g20 s21 g22 g23 g24 s25 s26 s27 s28 g29 g30 g31 g32 g33, ai_ cy g5 40 f5, ai_ cy g6 40 f6, ai_ cy g7 40 f7, ai_ cy g8 40 f8, ai_ cy g9 40 f9, az_ cy g10 40 f10] [0, 1, 2, 3, 4, 5, 6] (by decide) rfl (fun hPc hDw hFc hC_ => ?_)
      refine va_callv (va_runV (As := [.int a1, .int a2, .int a3, .int a4, .int a5]) (rest := []) ⟨hx, hb, hml, hown, hts⟩ (c_X12_adds2 l D cy H.size mo g5 g6 g7 g8 g9 g10 g12 g13 g14 g15 g16 g17 g18 g19 g20 g22 g23 g24 g29 g30 g31 g32 g33 (0 : Int32) s1 s3 s4 n11_7 s21 s25 s26 s27 s28 t2 f5 f6 f7 f8 f9 f10 a1 a2 a3 a4 a5 (by first | with_reducible assumption | omega | assumption) (by first | with_reducible assumption | omega | assumption) (by first | with_reducible assumption | omega | assumption) (by first | with_reducible assumption | omega | assumption) (by first | with_reducible assumption | omega | assumption) (by first | with_reducible assumption | assumption | omega) (by first | with_reducible assumption | assumption | omega) (by first | with_reducible assumption | assumption | omega) (by first | with_reducible assumption | assumption | omega)) (cwV 5 hts gX12_line_X12_adds rfl rfl rfl ⟨rfl, hd_X12_adds⟩ ⟨Nat.le_of_ble_eq_true rfl, Nat.le_of_ble_eq_true rfl⟩) ⟨bl_, va_recvX hK.1 hP (ci := 12) (q0 := 0) rfl rfl, fun U hU hW => ⟨rfl, by rw [hU], by rw [hU]; exact hPc, kk_mv hW hK, hDw⟩⟩ rfl rfl hl.1 rfl (lv_room (Nat.le_of_ble_eq_true rfl)) dB_3_0_30.2.2.1.1 ⟨Nat.le_of_ble_eq_true rfl, Nat.le_of_ble_eq_true rfl⟩) hS (fun q _ h => hFc q h) hFc (fun u t H locs ht hvm hw hB hz1 hk1 hS => ?_)
      obtain ⟨n2_17, n4_18, e5_19, e6_20, e7_21, e8_22, e9_23, e10_24, g_25, g_26, g_27, g_28, g_29, g_30, g_31, g_32, g_33, g_34, g_35, g_36, hP1, hD1⟩ := hB
      rw [ht] at hP1
      obtain ⟨hP, hD⟩ := va_join (wr := [ai_ cy g12 30 e12_8, ai_ cy g13 30 e13_9, ai_ cy g14 6000 e14_10]) (w1 := [ob12_0_ mo 0 s1 n2_17 s3 n4_18 g5 g6 g7 g8 g9 g10 n11_7 g12 g13 g14 g15 g16 g17 g18 g19 g20 s21 g22 g23 g24 s25 s26 s27 s28 g29 g30 g31 g32 g33, ai_ cy g5 40 e5_19, ai_ cy g6 40 e6_20, ai_ cy g7 40 e7_21, ai_ cy g8 40 e8_22, ai_ cy g9 40 e9_23, az_ cy g10 40 e10_24]) hP hD [0, 1, 2, 3, 4, 5, 6] [7, 8, 9] hC_ rfl (by decide) (by decide) hk1 hFc hP1 hD1
      refine pd_S hP hD [ob12_0_ mo 0 s1 n2_17 s3 n4_18 g5 g6 g7 g8 g9 g10 n11_7 g12 g13 g14 g15 g16 g17 g18 g19 g20 s21 g22 g23 g24 s25 s26 s27 s28 g29 g30 g31 g32 g33, ai_ cy g5 40 e5_19, ai_ cy g6 40 e6_20, ai_ cy g7 40 e7_21, ai_ cy g8 40 e8_22, ai_ cy g9 40 e9_23, az_ cy g10 40 e10_24, ai_ cy g12 30 e12_8, ai_ cy g13 30 e13_9, ai_ cy g14 6000 e14_10] [3, 4, 5, 6, 7, 8, 9, 0, 1, 2] (by decide) rfl (fun hP hD => ?_)
      have hne_ : netE s3.toInt n4_18.toInt e6_20 e7_21 e10_24 := netE_add hnet g_27 g_28 g_31 (by omega) g_25 (by omega) (by omega)
      refine lv_aload_n hx hb dB_3_0_30.2.2.1.2 rfl (lv_at hl 1 rfl) ?_
      refine va_get (ci := 12) (v := .int n4_18) (C := RX12) (T := TX12) (N := 34) hx hb hts (fun _ h => List.mem_cons_of_mem _ (List.mem_append_right _ h)) hown hK.1 hP 0 rfl rfl 4 (by decide) (hts (.fieldLink RX12 95 "CutAtlasModel" "lines" "I") (List.mem_of_getElem? (i := 2) rfl)) (fun _ h9 => h9) rfl dB_3_0_30.2.2.2.1 ?_
      refine lv_iconst (v := 1) hx hb dB_3_0_30.2.2.2.2 (by decide) ?_
      refine lv_isub hx hb dB_3_0_31.1 ?_
      refine lv_topi (fun y_37 ey_37 => ?_)
      have ty_37 : y_37.toInt = n4_18.toInt - (1 : Int32).toInt := by rw [ey_37]; exact subI (by omega) (by omega)
      rw [hQ]
      exact W.iret (v := y_37) hx hb hr (fun t ht hW => ⟨⟨y_37, (), rfl, (by unfold lnI; (repeat' split) <;> omega), n2_17, n4_18, n11_7, e5_19, e6_20, e7_21, e8_22, e9_23, e10_24, e12_8, e13_9, e14_10, (by first | with_reducible assumption | omega | assumption), (by first | with_reducible assumption | omega | assumption), (by first | exact hne_ | assumption), (by first | exact hpa_ | assumption), (by first | exact kptd_no (by unfold lnI; (repeat' (first | with_reducible refine if_n (by omega) ?_ | with_reducible refine if_ns (by omega) ?_ | with_reducible refine if_nz (by omega) ?_ | with_reducible exact if_p (by omega) (by omega) | with_reducible exact if_ps (by omega) (by omega) | with_reducible exact if_pz (by omega) (by omega))) <;> omega) | exact kptd_ok (by unfold lnI; (repeat' (first | with_reducible refine if_n (by omega) ?_ | with_reducible refine if_ns (by omega) ?_ | with_reducible refine if_nz (by omega) ?_ | with_reducible exact if_p (by omega) (by omega) | with_reducible exact if_ps (by omega) (by omega) | with_reducible exact if_pz (by omega) (by omega))) <;> omega) hkp_), (by first | exact ⟨fun h => absurd h (by unfold lnI; (repeat' (first | with_reducible refine if_n (by omega) ?_ | with_reducible refine if_ns (by omega) ?_ | with_reducible refine if_nz (by omega) ?_ | with_reducible exact if_p (by omega) (by omega) | with_reducible exact if_ps (by omega) (by omega) | with_reducible exact if_pz (by omega) (by omega))) <;> omega), fun _ => ⟨rfl, rfl, rfl, rfl, rfl, rfl, rfl⟩⟩ | exact ⟨fun _ => ⟨g_25, g_26, g_27, g_28, g_29, g_30, g_31⟩, fun h => absurd (by unfold lnI; (repeat' (first | with_reducible refine if_n (by omega) ?_ | with_reducible refine if_ns (by omega) ?_ | with_reducible refine if_nz (by omega) ?_ | with_reducible exact if_p (by omega) (by omega) | with_reducible exact if_ps (by omega) (by omega) | with_reducible exact if_pz (by omega) (by omega))) <;> omega) h⟩), (by first | with_reducible assumption | assumption | exact rng_zero (by omega) (by omega) | omega), (by first | with_reducible assumption | assumption | exact rng_zero (by omega) (by omega) | omega), (by first | with_reducible assumption | assumption | exact rng_zero (by omega) (by omega) | omega), (by first | with_reducible assumption | assumption | exact rng_zero (by omega) (by omega) | omega), (by first | with_reducible assumption | assumption | exact rng_zero (by omega) (by omega) | omega), (by first | with_reducible assumption | assumption | exact rng_zero (by omega) (by omega) | omega), (by first | with_reducible assumption | assumption | exact rng_zero (by omega) (by omega) | omega), by rw [ht]; exact hP, hD⟩, hS.F ht⟩) hS.2.2 dB_3_0_31.2
    · exact absurd c_5 (by decide)

set_option maxHeartbeats 4000000 in
set_option maxRecDepth 100000 in
theorem c_X12_widen3 (l : Launch) (D : va_G) (cy : Nat → ClassId) (sz : Nat) (mo : Nat) (g5 : Nat) (g6 : Nat) (g7 : Nat) (g8 : Nat) (g9 : Nat) (g10 : Nat) (g12 : Nat) (g13 : Nat) (g14 : Nat) (g15 : Nat) (g16 : Nat) (g17 : Nat) (g18 : Nat) (g19 : Nat) (g20 : Nat) (g22 : Nat) (g23 : Nat) (g24 : Nat) (g29 : Nat) (g30 : Nat) (g31 : Nat) (g32 : Nat) (g33 : Nat) (s0 : Int32) (s1 : Int32) (s3 : Int32) (s4 : Int32) (s11 : Int32) (s21 : Int32) (s25 : Int32) (s26 : Int32) (s27 : Int32) (s28 : Int32) (t2 : Int64) (f5 : Nat → Int32) (f6 : Nat → Int32) (f7 : Nat → Int32) (f8 : Nat → Int32) (f9 : Nat → Int32) (f10 : Nat → Int32) (f12 : Nat → Int32) (f13 : Nat → Int32) (f14 : Nat → Int32) (a1 : Int32) (a2 : Int32) (hN : 0 ≤ s4.toInt ∧ s4.toInt ≤ 40) (hPl : 0 ≤ s3.toInt ∧ s3.toInt ≤ 12) (hU : 0 ≤ s11.toInt ∧ s11.toInt ≤ 30) (hnet : netE s3.toInt s4.toInt f6 f7 f10) (hpast : pastE s11.toInt f12 f13 f14) (r_f6 : rng f6 40 (0) (11)) (r_f7 : rng f7 40 (0) (11)) (r_f8 : rng f8 40 (0) (2000)) (r_f9 : rng f9 40 (0) (100)) (r_f12 : rng f12 30 (0) (12)) (r_f13 : rng f13 30 (0) (40)) (r_f14 : orng f14 6000) : Met l yX12_widen wsX12_widen ({ frames := 2, cells := 0, slots := 0, locals := 46 }) (va_Pc [.ref mo, .int a1, .int a2] (fun U => U.heap.size = sz ∧ va_P D vwCl [ob12_0_ mo s0 s1 t2 s3 s4 g5 g6 g7 g8 g9 g10 s11 g12 g13 g14 g15 g16 g17 g18 g19 g20 s21 g22 g23 g24 s25 s26 s27 s28 g29 g30 g31 g32 g33, ai_ cy g5 40 f5, ai_ cy g6 40 f6, ai_ cy g7 40 f7, ai_ cy g8 40 f8, ai_ cy g9 40 f9, az_ cy g10 40 f10, ai_ cy g12 30 f12, ai_ cy g13 30 f13, ai_ cy g14 6000 f14] U.heap ∧ kk_ D cy U ∧ va_D (fun _ => True) [ob12_0_ mo s0 s1 t2 s3 s4 g5 g6 g7 g8 g9 g10 s11 g12 g13 g14 g15 g16 g17 g18 g19 g20 s21 g22 g23 g24 s25 s26 s27 s28 g29 g30 g31 g32 g33, ai_ cy g5 40 f5, ai_ cy g6 40 f6, ai_ cy g7 40 f7, ai_ cy g8 40 f8, ai_ cy g9 40 f9, az_ cy g10 40 f10, ai_ cy g12 30 f12, ai_ cy g13 30 f13, ai_ cy g14 6000 f14])) (va_Qi (fun (r : Int32) (_ : Unit) => ((wdI a1.toInt a2.toInt s4.toInt (f5 a1.toNatClampNeg).toInt (f8 a1.toNatClampNeg).toInt (f10 a1.toNatClampNeg).toInt = 0 → r = a2 * cstV (f5 a1.toNatClampNeg) (f9 a1.toNatClampNeg)) ∧ (wdI a1.toInt a2.toInt s4.toInt (f5 a1.toNatClampNeg).toInt (f8 a1.toNatClampNeg).toInt (f10 a1.toNatClampNeg).toInt ≠ 0 → r.toInt = wdI a1.toInt a2.toInt s4.toInt (f5 a1.toNatClampNeg).toInt (f8 a1.toNatClampNeg).toInt (f10 a1.toNatClampNeg).toInt))) (fun (_ : Unit) (t : State) => ∃ (n2 : Int64), ∃ (n11 : Int32), ∃ (e8 : Nat → Int32), ∃ (e12 : Nat → Int32), ∃ (e13 : Nat → Int32), ∃ (e14 : Nat → Int32), (0 ≤ n11.toInt ∧ n11.toInt ≤ 30) ∧ (pastE n11.toInt e12 e13 e14) ∧ (kptd (wdI a1.toInt a2.toInt s4.toInt (f5 a1.toNatClampNeg).toInt (f8 a1.toNatClampNeg).toInt (f10 a1.toNatClampNeg).toInt) s3 s4 f5 f6 f7 f8 f9 f10 s11.toInt f12 f13 f14 n11.toInt e12 e13 e14) ∧ ((wdI a1.toInt a2.toInt s4.toInt (f5 a1.toNatClampNeg).toInt (f8 a1.toNatClampNeg).toInt (f10 a1.toNatClampNeg).toInt = 0 → e8 = upd f8 a1.toNatClampNeg (f8 a1.toNatClampNeg + a2)) ∧ (wdI a1.toInt a2.toInt s4.toInt (f5 a1.toNatClampNeg).toInt (f8 a1.toNatClampNeg).toInt (f10 a1.toNatClampNeg).toInt ≠ 0 → e8 = f8)) ∧ (rng e8 40 (0) (2000)) ∧ (rng e12 30 (0) (12)) ∧ (rng e13 30 (0) (40)) ∧ (orng e14 6000) ∧ va_P D vwCl [ob12_0_ mo 0 s1 n2 s3 s4 g5 g6 g7 g8 g9 g10 n11 g12 g13 g14 g15 g16 g17 g18 g19 g20 s21 g22 g23 g24 s25 s26 s27 s28 g29 g30 g31 g32 g33, ai_ cy g5 40 f5, ai_ cy g6 40 f6, ai_ cy g7 40 f7, ai_ cy g8 40 e8, ai_ cy g9 40 f9, az_ cy g10 40 f10, ai_ cy g12 30 e12, ai_ cy g13 30 e13, ai_ cy g14 6000 e14] t.heap ∧ va_D (va_A [ob12_0_ mo s0 s1 t2 s3 s4 g5 g6 g7 g8 g9 g10 s11 g12 g13 g14 g15 g16 g17 g18 g19 g20 s21 g22 g23 g24 s25 s26 s27 s28 g29 g30 g31 g32 g33, ai_ cy g5 40 f5, ai_ cy g6 40 f6, ai_ cy g7 40 f7, ai_ cy g8 40 f8, ai_ cy g9 40 f9, az_ cy g10 40 f10, ai_ cy g12 30 f12, ai_ cy g13 30 f13, ai_ cy g14 6000 f14] sz) [ob12_0_ mo 0 s1 n2 s3 s4 g5 g6 g7 g8 g9 g10 n11 g12 g13 g14 g15 g16 g17 g18 g19 g20 s21 g22 g23 g24 s25 s26 s27 s28 g29 g30 g31 g32 g33, ai_ cy g5 40 f5, ai_ cy g6 40 f6, ai_ cy g7 40 f7, ai_ cy g8 40 e8, ai_ cy g9 40 f9, az_ cy g10 40 f10, ai_ cy g12 30 e12, ai_ cy g13 30 e13, ai_ cy g14 6000 e14]) (va_A [ob12_0_ mo s0 s1 t2 s3 s4 g5 g6 g7 g8 g9 g10 s11 g12 g13 g14 g15 g16 g17 g18 g19 g20 s21 g22 g23 g24 s25 s26 s27 s28 g29 g30 g31 g32 g33, ai_ cy g5 40 f5, ai_ cy g6 40 f6, ai_ cy g7 40 f7, ai_ cy g8 40 f8, ai_ cy g9 40 f9, az_ cy g10 40 f10, ai_ cy g12 30 f12, ai_ cy g13 30 f13, ai_ cy g14 6000 f14] sz)) 0 0 (va_A [ob12_0_ mo s0 s1 t2 s3 s4 g5 g6 g7 g8 g9 g10 s11 g12 g13 g14 g15 g16 g17 g18 g19 g20 s21 g22 g23 g24 s25 s26 s27 s28 g29 g30 g31 g32 g33, ai_ cy g5 40 f5, ai_ cy g6 40 f6, ai_ cy g7 40 f7, ai_ cy g8 40 f8, ai_ cy g9 40 f9, az_ cy g10 40 f10, ai_ cy g12 30 f12, ai_ cy g13 30 f13, ai_ cy g14 6000 f14] sz) := by
  refine ofQ (cc := cX12_widen) (maxL := 3) (ret := (some .int)) (by decide) rfl ?_
  intro p e s m args below meth c s₁ Q hQ B hml hv
  obtain ⟨rfl, hsz, hP, hK, hD0⟩ := hv
  have hx := B.exec
  have hb := B.bytes
  have hr := B.returns
  have hts := atoms_spec (ws := wsX12_widen) B.pre
  have hown : s.vm.findClass RX12 = some m.cls := by have h_ := findClass_of_methodNamed B.named; exact h_
  have hlocks := B.notSynchronized
  subst hsz
  have hD := hD0.self (sz := s.heap.size)
  generalize hAe : va_A [ob12_0_ mo s0 s1 t2 s3 s4 g5 g6 g7 g8 g9 g10 s11 g12 g13 g14 g15 g16 g17 g18 g19 g20 s21 g22 g23 g24 s25 s26 s27 s28 g29 g30 g31 g32 g33, ai_ cy g5 40 f5, ai_ cy g6 40 f6, ai_ cy g7 40 f7, ai_ cy g8 40 f8, ai_ cy g9 40 f9, az_ cy g10 40 f10, ai_ cy g12 30 f12, ai_ cy g13 30 f13, ai_ cy g14 6000 f14] s.heap.size = A at hD hQ
  have hA : ∀ q : Nat, s.heap.size ≤ q → A q := fun q h => by rw [← hAe]; exact Or.inr h
  have hS : va_S A s.heap s.heap [] := va_S.rf
  have hl := lv_entry ([.ref mo, .int a1, .int a2]) (n := 3) (Nat.le_of_ble_eq_true rfl)
  rw [lg_entry_eq]
  generalize (lg_sl ([.ref mo, .int a1, .int a2]) ++ List.replicate (3 - (lg_sl ([.ref mo, .int a1, .int a2])).length) Slot.unset).toArray = ls at hl ⊢
  have hl : lv_has ls 3 [(0, .ref mo), (1, .int a1), (2, .int a2)] := hl
  have zm9 : ((-9) : Int32).toInt = -9 := by decide
  have zm2 : ((-2) : Int32).toInt = -2 := by decide
  have zm1 : ((-1) : Int32).toInt = -1 := by decide
  have z0 : (0 : Int32).toInt = 0 := by decide
  have zl0 : (0 : Int64).toInt = 0 := by decide
  have zl1000 : (1000 : Int64).toInt = 1000 := by decide
  have z2000 : (2000 : Int32).toInt = 2000 := by decide
  refine lv_aload_n hx hb dB_3_0_58.1.1.1.1 rfl (lv_at hl 0 rfl) ?_
  refine lv_iconst (v := 0) hx hb dB_3_0_58.1.1.1.2 (by decide) ?_
  refine va_put (ci := 12) (v := .int 0) (ty := .int) (C := RX12) (T := TX12) (N := 34) hx hb hts (fun _ h => List.mem_cons_of_mem _ (List.mem_append_right _ h)) tyX12 tyX12_ok nmX12 hown hK.1 hP hD hS 0 rfl rfl 0 (by decide) (hts (.fieldLink RX12 85 "CutAtlasModel" "thrown" "I") (List.mem_of_getElem? (i := 1) rfl)) (fun _ h9 => h9) rfl (by decide +kernel) rfl rfl (Nat.le_of_ble_eq_true rfl) dB_3_0_58.1.1.2.1 (fun H locs hP hD hS => ?_)
  refine pd_K [ob12_0_ mo 0 s1 t2 s3 s4 g5 g6 g7 g8 g9 g10 s11 g12 g13 g14 g15 g16 g17 g18 g19 g20 s21 g22 g23 g24 s25 s26 s27 s28 g29 g30 g31 g32 g33, ai_ cy g5 40 f5, ai_ cy g6 40 f6, ai_ cy g7 40 f7, ai_ cy g8 40 f8, ai_ cy g9 40 f9, az_ cy g10 40 f10, ai_ cy g12 30 f12, ai_ cy g13 30 f13, ai_ cy g14 6000 f14] hP hD (fun hP hD => ?_)
  refine lv_aload_n hx hb dB_3_0_58.1.1.2.2 rfl (lv_at hl 0 rfl) ?_
  refine lv_iload_n hx hb dB_3_0_58.1.2.1.1 rfl (lv_at hl 1 rfl) ?_
  refine ct_R hP hD [ob12_0_ mo 0 s1 t2 s3 s4 g5 g6 g7 g8 g9 g10 s11 g12 g13 g14 g15 g16 g17 g18 g19 g20 s21 g22 g23 g24 s25 s26 s27 s28 g29 g30 g31 g32 g33] [0] (by decide) rfl (fun hPc hDw => ?_)
  have hFc := va_free (wc := []) hD hS hA [] rfl
  refine va_calli (va_runV (As := [.int a1]) (rest := []) ⟨hx, hb, hml, hown, hts⟩ (c_X12_isLine l D cy H.size mo g5 g6 g7 g8 g9 g10 g12 g13 g14 g15 g16 g17 g18 g19 g20 g22 g23 g24 g29 g30 g31 g32 g33 (0 : Int32) s1 s3 s4 s11 s21 s25 s26 s27 s28 t2 a1 (by first | with_reducible assumption | omega | assumption)) (cwV 1 hts gX12_widen_X12_isLine rfl rfl rfl ⟨rfl, hd_X12_isLine⟩ ⟨Nat.le_of_ble_eq_true rfl, Nat.le_of_ble_eq_true rfl⟩) ⟨bl_, va_recvX hK.1 hP (ci := 12) (q0 := 0) rfl rfl, fun U hU hW => ⟨rfl, by rw [hU], by rw [hU]; exact hPc, kk_mv hW hK, hDw⟩⟩ rfl rfl hl.1 rfl (lv_room (Nat.le_of_ble_eq_true rfl)) dB_3_0_58.1.2.1.2 ⟨Nat.le_of_ble_eq_true rfl, Nat.le_of_ble_eq_true rfl⟩) hS (fun q _ h => hFc q h) hFc (fun r_1 u t H locs ht hvm hw hB hz1 hk1 hS => ?_)
  have hP : va_P D vwCl _ H := ro_keep hP hk1
  rcases hw with ⟨w_2, e_⟩ | ⟨w_2, e_⟩
  · have e_ := e_.symm
    subst e_
    refine lv_if_eq (tgt := 25) hx hb dB_3_0_58.1.2.2.1 (by decide) (fun c_3 => ?_) (fun c_3 => ?_)
    · exact absurd c_3 (by decide)
    · have _ := c_3
      refine lv_iload_n hx hb dB_3_0_58.1.2.2.2 rfl (lv_at hl 2 rfl) ?_
      refine lv_i2l (v := a2.toInt64) hx hb dB_3_0_58.2.1.1.1 rfl ?_
      have q_14 : (a2.toInt64).toInt = a2.toInt := Int32.toInt_toInt64 a2
      refine lv_lconst (v := 0) hx hb dB_3_0_58.2.1.1.2 (by decide) ?_
      refine lv_ldc2 (v := 1000) hx hb hown (hts (.constantLong RX12 110 (1000)) (List.mem_of_getElem? (i := 2) rfl)) dB_3_0_58.2.1.2.1 ?_
      refine ct_R hP hD [] [] (by decide) rfl (fun hPc hDw => ?_)
      have hFc := va_free (wc := []) hD hS hA [] rfl
      refine va_calli (va_runS (As := [.long a2.toInt64, .long 0, .long 1000]) (rest := []) ⟨hx, hb, hml, hown, hts⟩ (c_X12_in l D cy H.size a2.toInt64 (0 : Int64) (1000 : Int64)) (va_cwS 3 hts gX12_widen_X12_in rfl rfl rfl hd_X12_in ⟨Nat.le_of_ble_eq_true rfl, Nat.le_of_ble_eq_true rfl⟩) ⟨bl_, fun U hU hW => ⟨rfl, by rw [hU], by rw [hU]; exact hPc, kk_mv hW hK, hDw⟩⟩ rfl rfl hl.1 rfl (lv_room (Nat.le_of_ble_eq_true rfl)) dB_3_0_58.2.1.2.2 ⟨Nat.le_of_ble_eq_true rfl, Nat.le_of_ble_eq_true rfl⟩) hS (fun q _ h => hFc q h) hFc (fun r_4 u t H locs ht hvm hw hB hz1 hk1 hS => ?_)
      have hP : va_P D vwCl _ H := ro_keep hP hk1
      rcases hw with ⟨w_5, e_⟩ | ⟨w_5, e_⟩
      · have e_ := e_.symm
        subst e_
        refine lv_if_ne (tgt := 27) hx hb dB_3_0_58.2.2.1.1 (by decide) (fun c_6 => ?_) (fun c_6 => ?_)
        · have _ := c_6
          refine lv_aload_n hx hb dB_3_0_58.2.2.2.2 rfl (lv_at hl 0 rfl) ?_
          refine lv_iload_n hx hb dB_3_0_59.1.1.1.1 rfl (lv_at hl 1 rfl) ?_
          refine ct_R hP hD [ob12_0_ mo 0 s1 t2 s3 s4 g5 g6 g7 g8 g9 g10 s11 g12 g13 g14 g15 g16 g17 g18 g19 g20 s21 g22 g23 g24 s25 s26 s27 s28 g29 g30 g31 g32 g33, ai_ cy g5 40 f5, ai_ cy g9 40 f9] [0, 1, 5] (by decide) rfl (fun hPc hDw => ?_)
          have hFc := va_free (wc := []) hD hS hA [] rfl
          refine va_calli (va_runV (As := [.int a1]) (rest := []) ⟨hx, hb, hml, hown, hts⟩ (c_X12_costs3 l D cy H.size mo g5 g6 g7 g8 g9 g10 g12 g13 g14 g15 g16 g17 g18 g19 g20 g22 g23 g24 g29 g30 g31 g32 g33 (0 : Int32) s1 s3 s4 s11 s21 s25 s26 s27 s28 t2 f5 f9 a1 (by first | with_reducible assumption | omega | assumption) (by first | with_reducible assumption | assumption | omega)) (cwV 1 hts gX12_widen_X12_costs rfl rfl rfl ⟨rfl, hd_X12_costs⟩ ⟨Nat.le_of_ble_eq_true rfl, Nat.le_of_ble_eq_true rfl⟩) ⟨bl_, va_recvX hK.1 hP (ci := 12) (q0 := 0) rfl rfl, fun U hU hW => ⟨rfl, by rw [hU], by rw [hU]; exact hPc, kk_mv hW hK, hDw⟩⟩ rfl rfl hl.1 rfl (lv_room (Nat.le_of_ble_eq_true rfl)) dB_3_0_59.1.1.1.2 ⟨Nat.le_of_ble_eq_true rfl, Nat.le_of_ble_eq_true rfl⟩) hS (fun q _ h => hFc q h) hFc (fun r_7 u t H locs ht hvm hw hB hz1 hk1 hS => ?_)
          have hP : va_P D vwCl _ H := ro_keep hP hk1
          obtain ⟨f0_r_7, f1_r_7, f2_r_7⟩ := hw
          refine lv_bipush (v := (-9)) hx hb dB_3_0_59.1.1.2.1 (by decide) ?_
          refine lv_icmp_eq (tgt := 60) hx hb dB_3_0_59.1.1.2.2 (by decide) (fun c_8 => ?_) (fun c_8 => ?_)
          · have t_8 : r_7.toInt = ((-9) : Int32).toInt := congrArg Int32.toInt c_8
            refine lv_bipush (v := (-2)) hx hb dB_3_0_60.1.1.1.2 (by decide) ?_
            rw [hQ]
            exact W.iret (v := (-2)) hx hb hr (fun t ht hW => ⟨⟨(-2), (), rfl, (⟨fun h => absurd h (by unfold wdI; (repeat' (first | with_reducible refine if_n (by omega) ?_ | with_reducible refine if_ns (by omega) ?_ | with_reducible refine if_nz (by omega) ?_ | with_reducible exact if_p (by omega) (by omega) | with_reducible exact if_ps (by omega) (by omega) | with_reducible exact if_pz (by omega) (by omega))) <;> omega), fun _ => (by unfold wdI; (repeat' (first | with_reducible refine if_n (by omega) ?_ | with_reducible refine if_ns (by omega) ?_ | with_reducible refine if_nz (by omega) ?_ | with_reducible exact if_p (by omega) (by omega) | with_reducible exact if_ps (by omega) (by omega) | with_reducible exact if_pz (by omega) (by omega))) <;> omega)⟩), t2, s11, f8, f12, f13, f14, (by first | with_reducible assumption | omega | assumption), (by first | exact hpa_ | assumption), (by first | exact kptd_no (by unfold wdI; (repeat' (first | with_reducible refine if_n (by omega) ?_ | with_reducible refine if_ns (by omega) ?_ | with_reducible refine if_nz (by omega) ?_ | with_reducible exact if_p (by omega) (by omega) | with_reducible exact if_ps (by omega) (by omega) | with_reducible exact if_pz (by omega) (by omega))) <;> omega) | exact kptd_ok (by unfold wdI; (repeat' (first | with_reducible refine if_n (by omega) ?_ | with_reducible refine if_ns (by omega) ?_ | with_reducible refine if_nz (by omega) ?_ | with_reducible exact if_p (by omega) (by omega) | with_reducible exact if_ps (by omega) (by omega) | with_reducible exact if_pz (by omega) (by omega))) <;> omega) hkp_), (by first | exact ⟨fun h => absurd h (by unfold wdI; (repeat' (first | with_reducible refine if_n (by omega) ?_ | with_reducible refine if_ns (by omega) ?_ | with_reducible refine if_nz (by omega) ?_ | with_reducible exact if_p (by omega) (by omega) | with_reducible exact if_ps (by omega) (by omega) | with_reducible exact if_pz (by omega) (by omega))) <;> omega), fun _ => rfl⟩ | exact ⟨fun _ => hw_, fun h => absurd (by unfold wdI; (repeat' (first | with_reducible refine if_n (by omega) ?_ | with_reducible refine if_ns (by omega) ?_ | with_reducible refine if_nz (by omega) ?_ | with_reducible exact if_p (by omega) (by omega) | with_reducible exact if_ps (by omega) (by omega) | with_reducible exact if_pz (by omega) (by omega))) <;> omega) h⟩), (by first | with_reducible assumption | assumption | exact rng_zero (by omega) (by omega) | omega), (by first | with_reducible assumption | assumption | exact rng_zero (by omega) (by omega) | omega), (by first | with_reducible assumption | assumption | exact rng_zero (by omega) (by omega) | omega), (by first | with_reducible assumption | assumption | exact rng_zero (by omega) (by omega) | omega), by rw [ht]; exact hP, hD⟩, hS.F ht⟩) hS.2.2 dB_3_0_60.1.1.2.1
          · have t_8 : ¬ r_7.toInt = ((-9) : Int32).toInt := fun h => c_8 (Int32.toInt_inj.mp h)
            refine lv_aload_n hx hb dB_3_0_59.1.2.1.1 rfl (lv_at hl 0 rfl) ?_
            refine va_get (ci := 12) (v := .ref g10) (C := RX12) (T := TX12) (N := 34) hx hb hts (fun _ h => List.mem_cons_of_mem _ (List.mem_append_right _ h)) hown hK.1 hP 0 rfl rfl 10 (by decide) (hts (.fieldLink RX12 25 "CutAtlasModel" "isMissing" "[Z") (List.mem_of_getElem? (i := 3) rfl)) (fun _ h9 => h9) rfl dB_3_0_59.1.2.1.2 ?_
            refine lv_iload_n hx hb dB_3_0_59.1.2.2.1 rfl (lv_at hl 1 rfl) ?_
            have h_9 : vp_in a1 40 := in_I (by first | with_reducible assumption | omega) (by omega)
            refine va_zald hx hb hK.1 hP 6 2 rfl rfl (i := a1) h_9 dB_3_0_59.1.2.2.2 ?_
            refine lv_topi (fun y_10 ey_10 => ?_)
            have ky_10 : y_10.toInt = (f10 a1.toNatClampNeg).toInt := by rw [ey_10]
            refine lv_if_ne (tgt := 60) hx hb dB_3_0_59.2.1.1.1 (by decide) (fun c_11 => ?_) (fun c_11 => ?_)
            · have t_11 : ¬ y_10.toInt = (0 : Int32).toInt := fun h => c_11 (Int32.toInt_inj.mp h)
              refine lv_bipush (v := (-2)) hx hb dB_3_0_60.1.1.1.2 (by decide) ?_
              rw [hQ]
              exact W.iret (v := (-2)) hx hb hr (fun t ht hW => ⟨⟨(-2), (), rfl, (⟨fun h => absurd h (by unfold wdI; (repeat' (first | with_reducible refine if_n (by omega) ?_ | with_reducible refine if_ns (by omega) ?_ | with_reducible refine if_nz (by omega) ?_ | with_reducible exact if_p (by omega) (by omega) | with_reducible exact if_ps (by omega) (by omega) | with_reducible exact if_pz (by omega) (by omega))) <;> omega), fun _ => (by unfold wdI; (repeat' (first | with_reducible refine if_n (by omega) ?_ | with_reducible refine if_ns (by omega) ?_ | with_reducible refine if_nz (by omega) ?_ | with_reducible exact if_p (by omega) (by omega) | with_reducible exact if_ps (by omega) (by omega) | with_reducible exact if_pz (by omega) (by omega))) <;> omega)⟩), t2, s11, f8, f12, f13, f14, (by first | with_reducible assumption | omega | assumption), (by first | exact hpa_ | assumption), (by first | exact kptd_no (by unfold wdI; (repeat' (first | with_reducible refine if_n (by omega) ?_ | with_reducible refine if_ns (by omega) ?_ | with_reducible refine if_nz (by omega) ?_ | with_reducible exact if_p (by omega) (by omega) | with_reducible exact if_ps (by omega) (by omega) | with_reducible exact if_pz (by omega) (by omega))) <;> omega) | exact kptd_ok (by unfold wdI; (repeat' (first | with_reducible refine if_n (by omega) ?_ | with_reducible refine if_ns (by omega) ?_ | with_reducible refine if_nz (by omega) ?_ | with_reducible exact if_p (by omega) (by omega) | with_reducible exact if_ps (by omega) (by omega) | with_reducible exact if_pz (by omega) (by omega))) <;> omega) hkp_), (by first | exact ⟨fun h => absurd h (by unfold wdI; (repeat' (first | with_reducible refine if_n (by omega) ?_ | with_reducible refine if_ns (by omega) ?_ | with_reducible refine if_nz (by omega) ?_ | with_reducible exact if_p (by omega) (by omega) | with_reducible exact if_ps (by omega) (by omega) | with_reducible exact if_pz (by omega) (by omega))) <;> omega), fun _ => rfl⟩ | exact ⟨fun _ => hw_, fun h => absurd (by unfold wdI; (repeat' (first | with_reducible refine if_n (by omega) ?_ | with_reducible refine if_ns (by omega) ?_ | with_reducible refine if_nz (by omega) ?_ | with_reducible exact if_p (by omega) (by omega) | with_reducible exact if_ps (by omega) (by omega) | with_reducible exact if_pz (by omega) (by omega))) <;> omega) h⟩), (by first | with_reducible assumption | assumption | exact rng_zero (by omega) (by omega) | omega), (by first | with_reducible assumption | assumption | exact rng_zero (by omega) (by omega) | omega), (by first | with_reducible assumption | assumption | exact rng_zero (by omega) (by omega) | omega), (by first | with_reducible assumption | assumption | exact rng_zero (by omega) (by omega) | omega), by rw [ht]; exact hP, hD⟩, hS.F ht⟩) hS.2.2 dB_3_0_60.1.1.2.1
            · have t_11 : y_10.toInt = (0 : Int32).toInt := congrArg Int32.toInt c_11
              refine lv_aload_n hx hb dB_3_0_59.2.1.1.2 rfl (lv_at hl 0 rfl) ?_
              refine va_get (ci := 12) (v := .ref g8) (C := RX12) (T := TX12) (N := 34) hx hb hts (fun _ h => List.mem_cons_of_mem _ (List.mem_append_right _ h)) hown hK.1 hP 0 rfl rfl 8 (by decide) (hts (.fieldLink RX12 19 "CutAtlasModel" "width" "[I") (List.mem_of_getElem? (i := 4) rfl)) (fun _ h9 => h9) rfl dB_3_0_59.2.1.2.1 ?_
              refine lv_iload_n hx hb dB_3_0_59.2.1.2.2 rfl (lv_at hl 1 rfl) ?_
              refine va_iald hx hb hK.1 hP 4 0 rfl rfl (i := a1) h_9 dB_3_0_59.2.2.1.1 ?_
              refine lv_topi (fun y_13 ey_13 => ?_)
              have ky_13 : y_13.toInt = (f8 a1.toNatClampNeg).toInt := by rw [ey_13]
              have ry_13 : 0 ≤ y_13.toInt ∧ y_13.toInt ≤ 2000 := by rw [ey_13]; exact r_f8 _ (in_lt h_9)
              refine lv_iload_n hx hb dB_3_0_59.2.2.1.2 rfl (lv_at hl 2 rfl) ?_
              refine lv_iadd hx hb dB_3_0_59.2.2.2.1 ?_
              refine lv_topi (fun y_14 ey_14 => ?_)
              have ty_14 : y_14.toInt = y_13.toInt + a2.toInt := by rw [ey_14]; exact addI (by omega) (by omega)
              refine lv_sipush (v := 2000) hx hb dB_3_0_59.2.2.2.2 (by decide) ?_
              refine lv_icmp_le (tgt := 63) hx hb dB_3_0_60.1.1.1.1 (by decide) (fun c_15 => ?_) (fun c_15 => ?_)
              · have t_15 : y_14.toInt ≤ (2000 : Int32).toInt := Int32.le_iff_toInt_le.mp c_15
                refine lv_aload_n hx hb dB_3_0_60.1.1.2.2 rfl (lv_at hl 0 rfl) ?_
                refine ct_S hP hD hS hA [ob12_0_ mo 0 s1 t2 s3 s4 g5 g6 g7 g8 g9 g10 s11 g12 g13 g14 g15 g16 g17 g18 g19 g20 s21 g22 g23 g24 s25 s26 s27 s28 g29 g30 g31 g32 g33, ai_ cy g5 40 f5, ai_ cy g6 40 f6, ai_ cy g7 40 f7, ai_ cy g8 40 f8, ai_ cy g9 40 f9, az_ cy g10 40 f10, ai_ cy g12 30 f12, ai_ cy g13 30 f13, ai_ cy g14 6000 f14] [0, 1, 2, 3, 4, 5, 6, 7, 8, 9] (by decide) rfl (fun hPc hDw hFc hC_ => ?_)
                refine va_callv (va_runV (As := []) (rest := []) ⟨hx, hb, hml, hown, hts⟩ (c_X12_keeps2 l D cy H.size mo g5 g6 g7 g8 g9 g10 g12 g13 g14 g15 g16 g17 g18 g19 g20 g22 g23 g24 g29 g30 g31 g32 g33 (0 : Int32) s1 s3 s4 s11 s21 s25 s26 s27 s28 t2 f5 f6 f7 f8 f9 f10 f12 f13 f14 (by first | with_reducible assumption | omega | assumption) (by first | with_reducible assumption | omega | assumption) (by first | with_reducible assumption | omega | assumption) (by first | with_reducible assumption | assumption | omega) (by first | with_reducible assumption | assumption | omega) (by first | with_reducible assumption | assumption | omega) (by first | with_reducible assumption | assumption | omega) (by first | with_reducible assumption | assumption | omega) (by first | with_reducible assumption | assumption | omega) (by first | with_reducible assumption | assumption | omega)) (cwV 0 hts gX12_widen_X12_keeps rfl rfl rfl ⟨rfl, hd_X12_keeps⟩ ⟨Nat.le_of_ble_eq_true rfl, Nat.le_of_ble_eq_true rfl⟩) ⟨bl_, va_recvX hK.1 hP (ci := 12) (q0 := 0) rfl rfl, fun U hU hW => ⟨rfl, by rw [hU], by rw [hU]; exact hPc, kk_mv hW hK, hDw⟩⟩ rfl rfl hl.1 rfl (lv_room (Nat.le_of_ble_eq_true rfl)) dB_3_0_60.1.2.1.1 ⟨Nat.le_of_ble_eq_true rfl, Nat.le_of_ble_eq_true rfl⟩) hS (fun q _ h => hFc q h) hFc (fun u t H locs ht hvm hw hB hz1 hk1 hS => ?_)
                obtain ⟨n11_17, e12_18, e13_19, e14_20, g_21, g_22, g_23, g_24, g_25, hP1, hD1⟩ := hB
                rw [ht] at hP1
                obtain ⟨hP, hD⟩ := va_join (wr := []) (w1 := [ob12_0_ mo 0 s1 t2 s3 s4 g5 g6 g7 g8 g9 g10 n11_17 g12 g13 g14 g15 g16 g17 g18 g19 g20 s21 g22 g23 g24 s25 s26 s27 s28 g29 g30 g31 g32 g33, ai_ cy g5 40 f5, ai_ cy g6 40 f6, ai_ cy g7 40 f7, ai_ cy g8 40 f8, ai_ cy g9 40 f9, az_ cy g10 40 f10, ai_ cy g12 30 e12_18, ai_ cy g13 30 e13_19, ai_ cy g14 6000 e14_20]) hP hD [0, 1, 2, 3, 4, 5, 6, 7, 8, 9] [] hC_ rfl (by decide) (by decide) hk1 hFc hP1 hD1
                refine pd_K [ob12_0_ mo 0 s1 t2 s3 s4 g5 g6 g7 g8 g9 g10 n11_17 g12 g13 g14 g15 g16 g17 g18 g19 g20 s21 g22 g23 g24 s25 s26 s27 s28 g29 g30 g31 g32 g33, ai_ cy g5 40 f5, ai_ cy g6 40 f6, ai_ cy g7 40 f7, ai_ cy g8 40 f8, ai_ cy g9 40 f9, az_ cy g10 40 f10, ai_ cy g12 30 e12_18, ai_ cy g13 30 e13_19, ai_ cy g14 6000 e14_20] hP hD (fun hP hD => ?_)
                have hpa_ : pastE n11_17.toInt e12_18 e13_19 e14_20 := kept_past g_22 hnet hpast (by omega) (by assumption) (by assumption) (by omega)
                have hkp_ := g_22
                refine lv_aload_n hx hb dB_3_0_60.1.2.1.2 rfl (lv_at hl 0 rfl) ?_
                refine lv_dup hx hb dB_3_0_60.1.2.2.1 rfl ?_
                refine va_get (ci := 12) (v := .long t2) (C := RX12) (T := TX12) (N := 34) hx hb hts (fun _ h => List.mem_cons_of_mem _ (List.mem_append_right _ h)) hown hK.1 hP 0 rfl rfl 2 (by decide) (hts (.fieldLink RX12 114 "CutAtlasModel" "trace" "J") (List.mem_of_getElem? (i := 5) rfl)) (fun _ h9 => h9) rfl dB_3_0_60.1.2.2.2 ?_
                refine lv_aload_n hx hb dB_3_0_60.2.1.1.1 rfl (lv_at hl 0 rfl) ?_
                refine lv_iload_n hx hb dB_3_0_60.2.1.1.2 rfl (lv_at hl 1 rfl) ?_
                refine ct_R hP hD [ob12_0_ mo 0 s1 t2 s3 s4 g5 g6 g7 g8 g9 g10 n11_17 g12 g13 g14 g15 g16 g17 g18 g19 g20 s21 g22 g23 g24 s25 s26 s27 s28 g29 g30 g31 g32 g33, ai_ cy g5 40 f5] [0, 1] (by decide) rfl (fun hPc hDw => ?_)
                have hFc := va_free (wc := []) hD hS hA [] rfl
                refine va_calll (va_runV (As := [.int a1]) (rest := [.long t2, .ref mo]) ⟨hx, hb, hml, hown, hts⟩ (c_X12_costsTrace l D cy H.size mo g5 g6 g7 g8 g9 g10 g12 g13 g14 g15 g16 g17 g18 g19 g20 g22 g23 g24 g29 g30 g31 g32 g33 (0 : Int32) s1 s3 s4 n11_17 s21 s25 s26 s27 s28 t2 f5 a1 (by first | with_reducible assumption | omega | assumption)) (cwV 1 hts gX12_widen_X12_costsTrace rfl rfl rfl ⟨rfl, hd_X12_costsTrace⟩ ⟨Nat.le_of_ble_eq_true rfl, Nat.le_of_ble_eq_true rfl⟩) ⟨bl_, va_recvX hK.1 hP (ci := 12) (q0 := 0) rfl rfl, fun U hU hW => ⟨rfl, by rw [hU], by rw [hU]; exact hPc, kk_mv hW hK, hDw⟩⟩ rfl rfl hl.1 rfl (lv_room (Nat.le_of_ble_eq_true rfl)) dB_3_0_60.2.1.2.1 ⟨Nat.le_of_ble_eq_true rfl, Nat.le_of_ble_eq_true rfl⟩) hS (fun q _ h => hFc q h) hFc (fun r_26 u t H locs ht hvm hw hB hz1 hk1 hS => ?_)
                have hP : va_P D vwCl _ H := ro_keep hP hk1
                refine lv_ladd hx hb dB_3_0_60.2.1.2.2 ?_
                refine lv_topl (fun y_27 ey_27 => ?_)
                refine va_put (ci := 12) (v := .long y_27) (ty := .long) (C := RX12) (T := TX12) (N := 34) hx hb hts (fun _ h => List.mem_cons_of_mem _ (List.mem_append_right _ h)) tyX12 tyX12_ok nmX12 hown hK.1 hP hD hS 0 rfl rfl 2 (by decide) (hts (.fieldLink RX12 114 "CutAtlasModel" "trace" "J") (List.mem_of_getElem? (i := 5) rfl)) (fun _ h9 => h9) rfl (by decide +kernel) rfl rfl (Nat.le_of_ble_eq_true rfl) dB_3_0_60.2.2.1.1 (fun H locs hP hD hS => ?_)
                refine pd_K [ob12_0_ mo 0 s1 y_27 s3 s4 g5 g6 g7 g8 g9 g10 n11_17 g12 g13 g14 g15 g16 g17 g18 g19 g20 s21 g22 g23 g24 s25 s26 s27 s28 g29 g30 g31 g32 g33, ai_ cy g5 40 f5, ai_ cy g6 40 f6, ai_ cy g7 40 f7, ai_ cy g8 40 f8, ai_ cy g9 40 f9, az_ cy g10 40 f10, ai_ cy g12 30 e12_18, ai_ cy g13 30 e13_19, ai_ cy g14 6000 e14_20] hP hD (fun hP hD => ?_)
                refine lv_aload_n hx hb dB_3_0_60.2.2.1.2 rfl (lv_at hl 0 rfl) ?_
                refine va_get (ci := 12) (v := .ref g8) (C := RX12) (T := TX12) (N := 34) hx hb hts (fun _ h => List.mem_cons_of_mem _ (List.mem_append_right _ h)) hown hK.1 hP 0 rfl rfl 8 (by decide) (hts (.fieldLink RX12 19 "CutAtlasModel" "width" "[I") (List.mem_of_getElem? (i := 4) rfl)) (fun _ h9 => h9) rfl dB_3_0_60.2.2.2.1 ?_
                refine lv_iload_n hx hb dB_3_0_60.2.2.2.2 rfl (lv_at hl 1 rfl) ?_
                refine lv_dup2_11 hx hb dB_3_0_61.1.1.1 rfl rfl ?_
                refine va_iald hx hb hK.1 hP 4 0 rfl rfl (i := a1) h_9 dB_3_0_61.1.1.2 ?_
                refine lv_topi (fun y_29 ey_29 => ?_)
                have e_ := (ey_29.trans ey_13.symm).symm
                subst e_
                skip
                refine lv_iload_n hx hb dB_3_0_61.1.2.1 rfl (lv_at hl 2 rfl) ?_
                refine lv_iadd hx hb dB_3_0_61.1.2.2.1 ?_
                refine lv_topi (fun y_30 ey_30 => ?_)
                have e_ := (ey_30.trans ey_14.symm).symm
                subst e_
                refine va_iast hx hb hK.1 hP hD hS 4 0 rfl rfl (i := a1) h_9 dB_3_0_61.1.2.2.2 (fun H locs hP hD hS => ?_)
                obtain ⟨f_32, ef_32⟩ : ∃ g : Nat → Int32, g = upd f8 a1.toNatClampNeg y_14 := ⟨_, rfl⟩
                refine pd_K (D := D) (cl := vwCl) (H := H) (A := A) [ob12_0_ mo 0 s1 y_27 s3 s4 g5 g6 g7 g8 g9 g10 n11_17 g12 g13 g14 g15 g16 g17 g18 g19 g20 s21 g22 g23 g24 s25 s26 s27 s28 g29 g30 g31 g32 g33, ai_ cy g5 40 f5, ai_ cy g6 40 f6, ai_ cy g7 40 f7, ai_ cy g8 40 f_32, ai_ cy g9 40 f9, az_ cy g10 40 f10, ai_ cy g12 30 e12_18, ai_ cy g13 30 e13_19, ai_ cy g14 6000 e14_20] (by rw [ef_32]; exact hP) (by rw [ef_32]; exact hD) (fun hP hD => ?_)
                have rf_32 : rng f_32 40 (0) (2000) := by rw [ef_32]; exact rng_upd r_f8 (by omega) (by omega)
                have hw_ : f_32 = upd f8 a1.toNatClampNeg (f8 a1.toNatClampNeg + a2) := by rw [ef_32, ey_14, ey_13]
                refine lv_iload_n hx hb dB_3_0_61.2.1.1 rfl (lv_at hl 2 rfl) ?_
                refine lv_aload_n hx hb dB_3_0_61.2.1.2.1 rfl (lv_at hl 0 rfl) ?_
                refine lv_iload_n hx hb dB_3_0_61.2.1.2.2 rfl (lv_at hl 1 rfl) ?_
                refine ct_R hP hD [ob12_0_ mo 0 s1 y_27 s3 s4 g5 g6 g7 g8 g9 g10 n11_17 g12 g13 g14 g15 g16 g17 g18 g19 g20 s21 g22 g23 g24 s25 s26 s27 s28 g29 g30 g31 g32 g33, ai_ cy g5 40 f5, ai_ cy g9 40 f9] [0, 1, 5] (by decide) rfl (fun hPc hDw => ?_)
                have hFc := va_free (wc := []) hD hS hA [] rfl
                refine va_calli (va_runV (As := [.int a1]) (rest := [.int a2]) ⟨hx, hb, hml, hown, hts⟩ (c_X12_costs3 l D cy H.size mo g5 g6 g7 g8 g9 g10 g12 g13 g14 g15 g16 g17 g18 g19 g20 g22 g23 g24 g29 g30 g31 g32 g33 (0 : Int32) s1 s3 s4 n11_17 s21 s25 s26 s27 s28 y_27 f5 f9 a1 (by first | with_reducible assumption | omega | assumption) (by first | with_reducible assumption | assumption | omega)) (cwV 1 hts gX12_widen_X12_costs rfl rfl rfl ⟨rfl, hd_X12_costs⟩ ⟨Nat.le_of_ble_eq_true rfl, Nat.le_of_ble_eq_true rfl⟩) ⟨bl_, va_recvX hK.1 hP (ci := 12) (q0 := 0) rfl rfl, fun U hU hW => ⟨rfl, by rw [hU], by rw [hU]; exact hPc, kk_mv hW hK, hDw⟩⟩ rfl rfl hl.1 rfl (lv_room (Nat.le_of_ble_eq_true rfl)) dB_3_0_61.2.2.1 ⟨Nat.le_of_ble_eq_true rfl, Nat.le_of_ble_eq_true rfl⟩) hS (fun q _ h => hFc q h) hFc (fun r_33 u t H locs ht hvm hw hB hz1 hk1 hS => ?_)
                have hP : va_P D vwCl _ H := ro_keep hP hk1
                obtain ⟨f0_r_33, f1_r_33, f2_r_33⟩ := hw
                refine lv_imul hx hb dB_3_0_61.2.2.2.1 ?_
                refine lv_topi (fun y_34 ey_34 => ?_)
                rw [hQ]
                exact W.iret (v := y_34) hx hb hr (fun t ht hW => ⟨⟨y_34, (), rfl, (⟨fun _ => by rw [ey_34, f0_r_33], fun h => absurd (by unfold wdI; (repeat' (first | with_reducible refine if_n (by omega) ?_ | with_reducible refine if_ns (by omega) ?_ | with_reducible refine if_nz (by omega) ?_ | with_reducible exact if_p (by omega) (by omega) | with_reducible exact if_ps (by omega) (by omega) | with_reducible exact if_pz (by omega) (by omega))) <;> omega) h⟩), y_27, n11_17, f_32, e12_18, e13_19, e14_20, (by first | with_reducible assumption | omega | assumption), (by first | exact hpa_ | assumption), (by first | exact kptd_no (by unfold wdI; (repeat' (first | with_reducible refine if_n (by omega) ?_ | with_reducible refine if_ns (by omega) ?_ | with_reducible refine if_nz (by omega) ?_ | with_reducible exact if_p (by omega) (by omega) | with_reducible exact if_ps (by omega) (by omega) | with_reducible exact if_pz (by omega) (by omega))) <;> omega) | exact kptd_ok (by unfold wdI; (repeat' (first | with_reducible refine if_n (by omega) ?_ | with_reducible refine if_ns (by omega) ?_ | with_reducible refine if_nz (by omega) ?_ | with_reducible exact if_p (by omega) (by omega) | with_reducible exact if_ps (by omega) (by omega) | with_reducible exact if_pz (by omega) (by omega))) <;> omega) hkp_), (by first | exact ⟨fun h => absurd h (by unfold wdI; (repeat' (first | with_reducible refine if_n (by omega) ?_ | with_reducible refine if_ns (by omega) ?_ | with_reducible refine if_nz (by omega) ?_ | with_reducible exact if_p (by omega) (by omega) | with_reducible exact if_ps (by omega) (by omega) | with_reducible exact if_pz (by omega) (by omega))) <;> omega), fun _ => rfl⟩ | exact ⟨fun _ => hw_, fun h => absurd (by unfold wdI; (repeat' (first | with_reducible refine if_n (by omega) ?_ | with_reducible refine if_ns (by omega) ?_ | with_reducible refine if_nz (by omega) ?_ | with_reducible exact if_p (by omega) (by omega) | with_reducible exact if_ps (by omega) (by omega) | with_reducible exact if_pz (by omega) (by omega))) <;> omega) h⟩), (by first | with_reducible assumption | assumption | exact rng_zero (by omega) (by omega) | omega), (by first | with_reducible assumption | assumption | exact rng_zero (by omega) (by omega) | omega), (by first | with_reducible assumption | assumption | exact rng_zero (by omega) (by omega) | omega), (by first | with_reducible assumption | assumption | exact rng_zero (by omega) (by omega) | omega), by rw [ht]; exact hP, hD⟩, hS.F ht⟩) hS.2.2 dB_3_0_61.2.2.2.2
              · have t_15 : ¬ y_14.toInt ≤ (2000 : Int32).toInt := fun h => c_15 (Int32.le_iff_toInt_le.mpr h)
                refine lv_bipush (v := (-2)) hx hb dB_3_0_60.1.1.1.2 (by decide) ?_
                rw [hQ]
                exact W.iret (v := (-2)) hx hb hr (fun t ht hW => ⟨⟨(-2), (), rfl, (⟨fun h => absurd h (by unfold wdI; (repeat' (first | with_reducible refine if_n (by omega) ?_ | with_reducible refine if_ns (by omega) ?_ | with_reducible refine if_nz (by omega) ?_ | with_reducible exact if_p (by omega) (by omega) | with_reducible exact if_ps (by omega) (by omega) | with_reducible exact if_pz (by omega) (by omega))) <;> omega), fun _ => (by unfold wdI; (repeat' (first | with_reducible refine if_n (by omega) ?_ | with_reducible refine if_ns (by omega) ?_ | with_reducible refine if_nz (by omega) ?_ | with_reducible exact if_p (by omega) (by omega) | with_reducible exact if_ps (by omega) (by omega) | with_reducible exact if_pz (by omega) (by omega))) <;> omega)⟩), t2, s11, f8, f12, f13, f14, (by first | with_reducible assumption | omega | assumption), (by first | exact hpa_ | assumption), (by first | exact kptd_no (by unfold wdI; (repeat' (first | with_reducible refine if_n (by omega) ?_ | with_reducible refine if_ns (by omega) ?_ | with_reducible refine if_nz (by omega) ?_ | with_reducible exact if_p (by omega) (by omega) | with_reducible exact if_ps (by omega) (by omega) | with_reducible exact if_pz (by omega) (by omega))) <;> omega) | exact kptd_ok (by unfold wdI; (repeat' (first | with_reducible refine if_n (by omega) ?_ | with_reducible refine if_ns (by omega) ?_ | with_reducible refine if_nz (by omega) ?_ | with_reducible exact if_p (by omega) (by omega) | with_reducible exact if_ps (by omega) (by omega) | with_reducible exact if_pz (by omega) (by omega))) <;> omega) hkp_), (by first | exact ⟨fun h => absurd h (by unfold wdI; (repeat' (first | with_reducible refine if_n (by omega) ?_ | with_reducible refine if_ns (by omega) ?_ | with_reducible refine if_nz (by omega) ?_ | with_reducible exact if_p (by omega) (by omega) | with_reducible exact if_ps (by omega) (by omega) | with_reducible exact if_pz (by omega) (by omega))) <;> omega), fun _ => rfl⟩ | exact ⟨fun _ => hw_, fun h => absurd (by unfold wdI; (repeat' (first | with_reducible refine if_n (by omega) ?_ | with_reducible refine if_ns (by omega) ?_ | with_reducible refine if_nz (by omega) ?_ | with_reducible exact if_p (by omega) (by omega) | with_reducible exact if_ps (by omega) (by omega) | with_reducible exact if_pz (by omega) (by omega))) <;> omega) h⟩), (by first | with_reducible assumption | assumption | exact rng_zero (by omega) (by omega) | omega), (by first | with_reducible assumption | assumption | exact rng_zero (by omega) (by omega) | omega), (by first | with_reducible assumption | assumption | exact rng_zero (by omega) (by omega) | omega), (by first | with_reducible assumption | assumption | exact rng_zero (by omega) (by omega) | omega), by rw [ht]; exact hP, hD⟩, hS.F ht⟩) hS.2.2 dB_3_0_60.1.1.2.1
        · exact absurd c_6 (by decide)
      · have e_ := e_.symm
        subst e_
        refine lv_if_ne (tgt := 27) hx hb dB_3_0_58.2.2.1.1 (by decide) (fun c_35 => ?_) (fun c_35 => ?_)
        · exact absurd c_35 (by decide)
        · have _ := c_35
          refine lv_iconst (v := (-1)) hx hb dB_3_0_58.2.2.1.2 (by decide) ?_
          rw [hQ]
          exact W.iret (v := (-1)) hx hb hr (fun t ht hW => ⟨⟨(-1), (), rfl, (⟨fun h => absurd h (by unfold wdI; (repeat' (first | with_reducible refine if_n (by omega) ?_ | with_reducible refine if_ns (by omega) ?_ | with_reducible refine if_nz (by omega) ?_ | with_reducible exact if_p (by omega) (by omega) | with_reducible exact if_ps (by omega) (by omega) | with_reducible exact if_pz (by omega) (by omega))) <;> omega), fun _ => (by unfold wdI; (repeat' (first | with_reducible refine if_n (by omega) ?_ | with_reducible refine if_ns (by omega) ?_ | with_reducible refine if_nz (by omega) ?_ | with_reducible exact if_p (by omega) (by omega) | with_reducible exact if_ps (by omega) (by omega) | with_reducible exact if_pz (by omega) (by omega))) <;> omega)⟩), t2, s11, f8, f12, f13, f14, (by first | with_reducible assumption | omega | assumption), (by first | exact hpa_ | assumption), (by first | exact kptd_no (by unfold wdI; (repeat' (first | with_reducible refine if_n (by omega) ?_ | with_reducible refine if_ns (by omega) ?_ | with_reducible refine if_nz (by omega) ?_ | with_reducible exact if_p (by omega) (by omega) | with_reducible exact if_ps (by omega) (by omega) | with_reducible exact if_pz (by omega) (by omega))) <;> omega) | exact kptd_ok (by unfold wdI; (repeat' (first | with_reducible refine if_n (by omega) ?_ | with_reducible refine if_ns (by omega) ?_ | with_reducible refine if_nz (by omega) ?_ | with_reducible exact if_p (by omega) (by omega) | with_reducible exact if_ps (by omega) (by omega) | with_reducible exact if_pz (by omega) (by omega))) <;> omega) hkp_), (by first | exact ⟨fun h => absurd h (by unfold wdI; (repeat' (first | with_reducible refine if_n (by omega) ?_ | with_reducible refine if_ns (by omega) ?_ | with_reducible refine if_nz (by omega) ?_ | with_reducible exact if_p (by omega) (by omega) | with_reducible exact if_ps (by omega) (by omega) | with_reducible exact if_pz (by omega) (by omega))) <;> omega), fun _ => rfl⟩ | exact ⟨fun _ => hw_, fun h => absurd (by unfold wdI; (repeat' (first | with_reducible refine if_n (by omega) ?_ | with_reducible refine if_ns (by omega) ?_ | with_reducible refine if_nz (by omega) ?_ | with_reducible exact if_p (by omega) (by omega) | with_reducible exact if_ps (by omega) (by omega) | with_reducible exact if_pz (by omega) (by omega))) <;> omega) h⟩), (by first | with_reducible assumption | assumption | exact rng_zero (by omega) (by omega) | omega), (by first | with_reducible assumption | assumption | exact rng_zero (by omega) (by omega) | omega), (by first | with_reducible assumption | assumption | exact rng_zero (by omega) (by omega) | omega), (by first | with_reducible assumption | assumption | exact rng_zero (by omega) (by omega) | omega), by rw [ht]; exact hP, hD⟩, hS.F ht⟩) hS.2.2 dB_3_0_58.2.2.2.1
  · have e_ := e_.symm
    subst e_
    refine lv_if_eq (tgt := 25) hx hb dB_3_0_58.1.2.2.1 (by decide) (fun c_36 => ?_) (fun c_36 => ?_)
    · have _ := c_36
      refine lv_iconst (v := (-1)) hx hb dB_3_0_58.2.2.1.2 (by decide) ?_
      rw [hQ]
      exact W.iret (v := (-1)) hx hb hr (fun t ht hW => ⟨⟨(-1), (), rfl, (⟨fun h => absurd h (by unfold wdI; (repeat' (first | with_reducible refine if_n (by omega) ?_ | with_reducible refine if_ns (by omega) ?_ | with_reducible refine if_nz (by omega) ?_ | with_reducible exact if_p (by omega) (by omega) | with_reducible exact if_ps (by omega) (by omega) | with_reducible exact if_pz (by omega) (by omega))) <;> omega), fun _ => (by unfold wdI; (repeat' (first | with_reducible refine if_n (by omega) ?_ | with_reducible refine if_ns (by omega) ?_ | with_reducible refine if_nz (by omega) ?_ | with_reducible exact if_p (by omega) (by omega) | with_reducible exact if_ps (by omega) (by omega) | with_reducible exact if_pz (by omega) (by omega))) <;> omega)⟩), t2, s11, f8, f12, f13, f14, (by first | with_reducible assumption | omega | assumption), (by first | exact hpa_ | assumption), (by first | exact kptd_no (by unfold wdI; (repeat' (first | with_reducible refine if_n (by omega) ?_ | with_reducible refine if_ns (by omega) ?_ | with_reducible refine if_nz (by omega) ?_ | with_reducible exact if_p (by omega) (by omega) | with_reducible exact if_ps (by omega) (by omega) | with_reducible exact if_pz (by omega) (by omega))) <;> omega) | exact kptd_ok (by unfold wdI; (repeat' (first | with_reducible refine if_n (by omega) ?_ | with_reducible refine if_ns (by omega) ?_ | with_reducible refine if_nz (by omega) ?_ | with_reducible exact if_p (by omega) (by omega) | with_reducible exact if_ps (by omega) (by omega) | with_reducible exact if_pz (by omega) (by omega))) <;> omega) hkp_), (by first | exact ⟨fun h => absurd h (by unfold wdI; (repeat' (first | with_reducible refine if_n (by omega) ?_ | with_reducible refine if_ns (by omega) ?_ | with_reducible refine if_nz (by omega) ?_ | with_reducible exact if_p (by omega) (by omega) | with_reducible exact if_ps (by omega) (by omega) | with_reducible exact if_pz (by omega) (by omega))) <;> omega), fun _ => rfl⟩ | exact ⟨fun _ => hw_, fun h => absurd (by unfold wdI; (repeat' (first | with_reducible refine if_n (by omega) ?_ | with_reducible refine if_ns (by omega) ?_ | with_reducible refine if_nz (by omega) ?_ | with_reducible exact if_p (by omega) (by omega) | with_reducible exact if_ps (by omega) (by omega) | with_reducible exact if_pz (by omega) (by omega))) <;> omega) h⟩), (by first | with_reducible assumption | assumption | exact rng_zero (by omega) (by omega) | omega), (by first | with_reducible assumption | assumption | exact rng_zero (by omega) (by omega) | omega), (by first | with_reducible assumption | assumption | exact rng_zero (by omega) (by omega) | omega), (by first | with_reducible assumption | assumption | exact rng_zero (by omega) (by omega) | omega), by rw [ht]; exact hP, hD⟩, hS.F ht⟩) hS.2.2 dB_3_0_58.2.2.2.1
    · exact absurd c_36 (by decide)

set_option maxHeartbeats 4000000 in
set_option maxRecDepth 100000 in
theorem c_X12_width3 (l : Launch) (D : va_G) (cy : Nat → ClassId) (sz : Nat) (mo : Nat) (g5 : Nat) (g6 : Nat) (g7 : Nat) (g8 : Nat) (g9 : Nat) (g10 : Nat) (g12 : Nat) (g13 : Nat) (g14 : Nat) (g15 : Nat) (g16 : Nat) (g17 : Nat) (g18 : Nat) (g19 : Nat) (g20 : Nat) (g22 : Nat) (g23 : Nat) (g24 : Nat) (g29 : Nat) (g30 : Nat) (g31 : Nat) (g32 : Nat) (g33 : Nat) (s0 : Int32) (s1 : Int32) (s3 : Int32) (s4 : Int32) (s11 : Int32) (s21 : Int32) (s25 : Int32) (s26 : Int32) (s27 : Int32) (s28 : Int32) (t2 : Int64) (f5 : Nat → Int32) (f6 : Nat → Int32) (f7 : Nat → Int32) (f8 : Nat → Int32) (f9 : Nat → Int32) (f10 : Nat → Int32) (f12 : Nat → Int32) (f13 : Nat → Int32) (f14 : Nat → Int32) (a1 : Int32) (a2 : Int32) (hN : 0 ≤ s4.toInt ∧ s4.toInt ≤ 40) (hPl : 0 ≤ s3.toInt ∧ s3.toInt ≤ 12) (hU : 0 ≤ s11.toInt ∧ s11.toInt ≤ 30) (hnet : netE s3.toInt s4.toInt f6 f7 f10) (hpast : pastE s11.toInt f12 f13 f14) (r_f6 : rng f6 40 (0) (11)) (r_f7 : rng f7 40 (0) (11)) (r_f8 : rng f8 40 (0) (2000)) (r_f9 : rng f9 40 (0) (100)) (r_f12 : rng f12 30 (0) (12)) (r_f13 : rng f13 30 (0) (40)) (r_f14 : orng f14 6000) : Met l yX12_width wsX12_width ({ frames := 2, cells := 0, slots := 0, locals := 46 }) (va_Pc [.ref mo, .int a1, .int a2] (fun U => U.heap.size = sz ∧ va_P D vwCl [ob12_0_ mo s0 s1 t2 s3 s4 g5 g6 g7 g8 g9 g10 s11 g12 g13 g14 g15 g16 g17 g18 g19 g20 s21 g22 g23 g24 s25 s26 s27 s28 g29 g30 g31 g32 g33, ai_ cy g5 40 f5, ai_ cy g6 40 f6, ai_ cy g7 40 f7, ai_ cy g8 40 f8, ai_ cy g9 40 f9, az_ cy g10 40 f10, ai_ cy g12 30 f12, ai_ cy g13 30 f13, ai_ cy g14 6000 f14] U.heap ∧ kk_ D cy U ∧ va_D (fun _ => True) [ob12_0_ mo s0 s1 t2 s3 s4 g5 g6 g7 g8 g9 g10 s11 g12 g13 g14 g15 g16 g17 g18 g19 g20 s21 g22 g23 g24 s25 s26 s27 s28 g29 g30 g31 g32 g33, ai_ cy g5 40 f5, ai_ cy g6 40 f6, ai_ cy g7 40 f7, ai_ cy g8 40 f8, ai_ cy g9 40 f9, az_ cy g10 40 f10, ai_ cy g12 30 f12, ai_ cy g13 30 f13, ai_ cy g14 6000 f14])) (va_Qi (fun (r : Int32) (_ : Unit) => ((wtI a1.toInt a2.toInt s4.toInt (f10 a1.toNatClampNeg).toInt = 0 → r = f8 a1.toNatClampNeg) ∧ (wtI a1.toInt a2.toInt s4.toInt (f10 a1.toNatClampNeg).toInt ≠ 0 → r.toInt = wtI a1.toInt a2.toInt s4.toInt (f10 a1.toNatClampNeg).toInt))) (fun (_ : Unit) (t : State) => ∃ (n11 : Int32), ∃ (e8 : Nat → Int32), ∃ (e12 : Nat → Int32), ∃ (e13 : Nat → Int32), ∃ (e14 : Nat → Int32), (0 ≤ n11.toInt ∧ n11.toInt ≤ 30) ∧ (pastE n11.toInt e12 e13 e14) ∧ (kptd (wtI a1.toInt a2.toInt s4.toInt (f10 a1.toNatClampNeg).toInt) s3 s4 f5 f6 f7 f8 f9 f10 s11.toInt f12 f13 f14 n11.toInt e12 e13 e14) ∧ ((wtI a1.toInt a2.toInt s4.toInt (f10 a1.toNatClampNeg).toInt = 0 → e8 = upd f8 a1.toNatClampNeg a2) ∧ (wtI a1.toInt a2.toInt s4.toInt (f10 a1.toNatClampNeg).toInt ≠ 0 → e8 = f8)) ∧ (rng e8 40 (0) (2000)) ∧ (rng e12 30 (0) (12)) ∧ (rng e13 30 (0) (40)) ∧ (orng e14 6000) ∧ va_P D vwCl [ob12_0_ mo 0 s1 t2 s3 s4 g5 g6 g7 g8 g9 g10 n11 g12 g13 g14 g15 g16 g17 g18 g19 g20 s21 g22 g23 g24 s25 s26 s27 s28 g29 g30 g31 g32 g33, ai_ cy g5 40 f5, ai_ cy g6 40 f6, ai_ cy g7 40 f7, ai_ cy g8 40 e8, ai_ cy g9 40 f9, az_ cy g10 40 f10, ai_ cy g12 30 e12, ai_ cy g13 30 e13, ai_ cy g14 6000 e14] t.heap ∧ va_D (va_A [ob12_0_ mo s0 s1 t2 s3 s4 g5 g6 g7 g8 g9 g10 s11 g12 g13 g14 g15 g16 g17 g18 g19 g20 s21 g22 g23 g24 s25 s26 s27 s28 g29 g30 g31 g32 g33, ai_ cy g5 40 f5, ai_ cy g6 40 f6, ai_ cy g7 40 f7, ai_ cy g8 40 f8, ai_ cy g9 40 f9, az_ cy g10 40 f10, ai_ cy g12 30 f12, ai_ cy g13 30 f13, ai_ cy g14 6000 f14] sz) [ob12_0_ mo 0 s1 t2 s3 s4 g5 g6 g7 g8 g9 g10 n11 g12 g13 g14 g15 g16 g17 g18 g19 g20 s21 g22 g23 g24 s25 s26 s27 s28 g29 g30 g31 g32 g33, ai_ cy g5 40 f5, ai_ cy g6 40 f6, ai_ cy g7 40 f7, ai_ cy g8 40 e8, ai_ cy g9 40 f9, az_ cy g10 40 f10, ai_ cy g12 30 e12, ai_ cy g13 30 e13, ai_ cy g14 6000 e14]) (va_A [ob12_0_ mo s0 s1 t2 s3 s4 g5 g6 g7 g8 g9 g10 s11 g12 g13 g14 g15 g16 g17 g18 g19 g20 s21 g22 g23 g24 s25 s26 s27 s28 g29 g30 g31 g32 g33, ai_ cy g5 40 f5, ai_ cy g6 40 f6, ai_ cy g7 40 f7, ai_ cy g8 40 f8, ai_ cy g9 40 f9, az_ cy g10 40 f10, ai_ cy g12 30 f12, ai_ cy g13 30 f13, ai_ cy g14 6000 f14] sz)) 0 0 (va_A [ob12_0_ mo s0 s1 t2 s3 s4 g5 g6 g7 g8 g9 g10 s11 g12 g13 g14 g15 g16 g17 g18 g19 g20 s21 g22 g23 g24 s25 s26 s27 s28 g29 g30 g31 g32 g33, ai_ cy g5 40 f5, ai_ cy g6 40 f6, ai_ cy g7 40 f7, ai_ cy g8 40 f8, ai_ cy g9 40 f9, az_ cy g10 40 f10, ai_ cy g12 30 f12, ai_ cy g13 30 f13, ai_ cy g14 6000 f14] sz) := by
  refine ofQ (cc := cX12_width) (maxL := 4) (ret := (some .int)) (by decide) rfl ?_
  intro p e s m args below meth c s₁ Q hQ B hml hv
  obtain ⟨rfl, hsz, hP, hK, hD0⟩ := hv
  have hx := B.exec
  have hb := B.bytes
  have hr := B.returns
  have hts := atoms_spec (ws := wsX12_width) B.pre
  have hown : s.vm.findClass RX12 = some m.cls := by have h_ := findClass_of_methodNamed B.named; exact h_
  have hlocks := B.notSynchronized
  subst hsz
  have hD := hD0.self (sz := s.heap.size)
  generalize hAe : va_A [ob12_0_ mo s0 s1 t2 s3 s4 g5 g6 g7 g8 g9 g10 s11 g12 g13 g14 g15 g16 g17 g18 g19 g20 s21 g22 g23 g24 s25 s26 s27 s28 g29 g30 g31 g32 g33, ai_ cy g5 40 f5, ai_ cy g6 40 f6, ai_ cy g7 40 f7, ai_ cy g8 40 f8, ai_ cy g9 40 f9, az_ cy g10 40 f10, ai_ cy g12 30 f12, ai_ cy g13 30 f13, ai_ cy g14 6000 f14] s.heap.size = A at hD hQ
  have hA : ∀ q : Nat, s.heap.size ≤ q → A q := fun q h => by rw [← hAe]; exact Or.inr h
  have hS : va_S A s.heap s.heap [] := va_S.rf
  have hl := lv_entry ([.ref mo, .int a1, .int a2]) (n := 4) (Nat.le_of_ble_eq_true rfl)
  rw [lg_entry_eq]
  generalize (lg_sl ([.ref mo, .int a1, .int a2]) ++ List.replicate (4 - (lg_sl ([.ref mo, .int a1, .int a2])).length) Slot.unset).toArray = ls at hl ⊢
  have hl : lv_has ls 4 [(0, .ref mo), (1, .int a1), (2, .int a2)] := hl
  have zm2 : ((-2) : Int32).toInt = -2 := by decide
  have zm1 : ((-1) : Int32).toInt = -1 := by decide
  have z0 : (0 : Int32).toInt = 0 := by decide
  have zl0 : (0 : Int64).toInt = 0 := by decide
  have zl1000 : (1000 : Int64).toInt = 1000 := by decide
  refine lv_aload_n hx hb dB_3_0_62.1.1.1.1 rfl (lv_at hl 0 rfl) ?_
  refine lv_iconst (v := 0) hx hb dB_3_0_62.1.1.1.2 (by decide) ?_
  refine va_put (ci := 12) (v := .int 0) (ty := .int) (C := RX12) (T := TX12) (N := 34) hx hb hts (fun _ h => List.mem_cons_of_mem _ (List.mem_append_right _ h)) tyX12 tyX12_ok nmX12 hown hK.1 hP hD hS 0 rfl rfl 0 (by decide) (hts (.fieldLink RX12 85 "CutAtlasModel" "thrown" "I") (List.mem_of_getElem? (i := 1) rfl)) (fun _ h9 => h9) rfl (by decide +kernel) rfl rfl (Nat.le_of_ble_eq_true rfl) dB_3_0_62.1.1.2.1 (fun H locs hP hD hS => ?_)
  refine pd_K [ob12_0_ mo 0 s1 t2 s3 s4 g5 g6 g7 g8 g9 g10 s11 g12 g13 g14 g15 g16 g17 g18 g19 g20 s21 g22 g23 g24 s25 s26 s27 s28 g29 g30 g31 g32 g33, ai_ cy g5 40 f5, ai_ cy g6 40 f6, ai_ cy g7 40 f7, ai_ cy g8 40 f8, ai_ cy g9 40 f9, az_ cy g10 40 f10, ai_ cy g12 30 f12, ai_ cy g13 30 f13, ai_ cy g14 6000 f14] hP hD (fun hP hD => ?_)
  refine lv_aload_n hx hb dB_3_0_62.1.1.2.2 rfl (lv_at hl 0 rfl) ?_
  refine lv_iload_n hx hb dB_3_0_62.1.2.1.1 rfl (lv_at hl 1 rfl) ?_
  refine ct_R hP hD [ob12_0_ mo 0 s1 t2 s3 s4 g5 g6 g7 g8 g9 g10 s11 g12 g13 g14 g15 g16 g17 g18 g19 g20 s21 g22 g23 g24 s25 s26 s27 s28 g29 g30 g31 g32 g33] [0] (by decide) rfl (fun hPc hDw => ?_)
  have hFc := va_free (wc := []) hD hS hA [] rfl
  refine va_calli (va_runV (As := [.int a1]) (rest := []) ⟨hx, hb, hml, hown, hts⟩ (c_X12_isLine l D cy H.size mo g5 g6 g7 g8 g9 g10 g12 g13 g14 g15 g16 g17 g18 g19 g20 g22 g23 g24 g29 g30 g31 g32 g33 (0 : Int32) s1 s3 s4 s11 s21 s25 s26 s27 s28 t2 a1 (by first | with_reducible assumption | omega | assumption)) (cwV 1 hts gX12_width_X12_isLine rfl rfl rfl ⟨rfl, hd_X12_isLine⟩ ⟨Nat.le_of_ble_eq_true rfl, Nat.le_of_ble_eq_true rfl⟩) ⟨bl_, va_recvX hK.1 hP (ci := 12) (q0 := 0) rfl rfl, fun U hU hW => ⟨rfl, by rw [hU], by rw [hU]; exact hPc, kk_mv hW hK, hDw⟩⟩ rfl rfl hl.1 rfl (lv_room (Nat.le_of_ble_eq_true rfl)) dB_3_0_62.1.2.1.2 ⟨Nat.le_of_ble_eq_true rfl, Nat.le_of_ble_eq_true rfl⟩) hS (fun q _ h => hFc q h) hFc (fun r_1 u t H locs ht hvm hw hB hz1 hk1 hS => ?_)
  have hP : va_P D vwCl _ H := ro_keep hP hk1
  rcases hw with ⟨w_2, e_⟩ | ⟨w_2, e_⟩
  · have e_ := e_.symm
    subst e_
    refine lv_if_eq (tgt := 25) hx hb dB_3_0_62.1.2.2.1 (by decide) (fun c_3 => ?_) (fun c_3 => ?_)
    · exact absurd c_3 (by decide)
    · have _ := c_3
      refine lv_iload_n hx hb dB_3_0_62.1.2.2.2 rfl (lv_at hl 2 rfl) ?_
      refine lv_i2l (v := a2.toInt64) hx hb dB_3_0_62.2.1.1.1 rfl ?_
      have q_14 : (a2.toInt64).toInt = a2.toInt := Int32.toInt_toInt64 a2
      refine lv_lconst (v := 0) hx hb dB_3_0_62.2.1.1.2 (by decide) ?_
      refine lv_ldc2 (v := 1000) hx hb hown (hts (.constantLong RX12 110 (1000)) (List.mem_of_getElem? (i := 2) rfl)) dB_3_0_62.2.1.2.1 ?_
      refine ct_R hP hD [] [] (by decide) rfl (fun hPc hDw => ?_)
      have hFc := va_free (wc := []) hD hS hA [] rfl
      refine va_calli (va_runS (As := [.long a2.toInt64, .long 0, .long 1000]) (rest := []) ⟨hx, hb, hml, hown, hts⟩ (c_X12_in l D cy H.size a2.toInt64 (0 : Int64) (1000 : Int64)) (va_cwS 3 hts gX12_width_X12_in rfl rfl rfl hd_X12_in ⟨Nat.le_of_ble_eq_true rfl, Nat.le_of_ble_eq_true rfl⟩) ⟨bl_, fun U hU hW => ⟨rfl, by rw [hU], by rw [hU]; exact hPc, kk_mv hW hK, hDw⟩⟩ rfl rfl hl.1 rfl (lv_room (Nat.le_of_ble_eq_true rfl)) dB_3_0_62.2.1.2.2 ⟨Nat.le_of_ble_eq_true rfl, Nat.le_of_ble_eq_true rfl⟩) hS (fun q _ h => hFc q h) hFc (fun r_4 u t H locs ht hvm hw hB hz1 hk1 hS => ?_)
      have hP : va_P D vwCl _ H := ro_keep hP hk1
      rcases hw with ⟨w_5, e_⟩ | ⟨w_5, e_⟩
      · have e_ := e_.symm
        subst e_
        refine lv_if_ne (tgt := 27) hx hb dB_3_0_62.2.2.1.1 (by decide) (fun c_6 => ?_) (fun c_6 => ?_)
        · have _ := c_6
          refine lv_aload_n hx hb dB_3_0_62.2.2.2.2 rfl (lv_at hl 0 rfl) ?_
          refine va_get (ci := 12) (v := .ref g10) (C := RX12) (T := TX12) (N := 34) hx hb hts (fun _ h => List.mem_cons_of_mem _ (List.mem_append_right _ h)) hown hK.1 hP 0 rfl rfl 10 (by decide) (hts (.fieldLink RX12 25 "CutAtlasModel" "isMissing" "[Z") (List.mem_of_getElem? (i := 3) rfl)) (fun _ h9 => h9) rfl dB_3_0_63.1.1.1.1 ?_
          refine lv_iload_n hx hb dB_3_0_63.1.1.1.2 rfl (lv_at hl 1 rfl) ?_
          have h_7 : vp_in a1 40 := in_I (by first | with_reducible assumption | omega) (by omega)
          refine va_zald hx hb hK.1 hP 6 2 rfl rfl (i := a1) h_7 dB_3_0_63.1.1.2.1 ?_
          refine lv_topi (fun y_8 ey_8 => ?_)
          have ky_8 : y_8.toInt = (f10 a1.toNatClampNeg).toInt := by rw [ey_8]
          refine lv_if_eq (tgt := 39) hx hb dB_3_0_63.1.1.2.2 (by decide) (fun c_9 => ?_) (fun c_9 => ?_)
          · have t_9 : y_8.toInt = (0 : Int32).toInt := congrArg Int32.toInt c_9
            refine lv_aload_n hx hb dB_3_0_63.1.2.2.1 rfl (lv_at hl 0 rfl) ?_
            refine ct_S hP hD hS hA [ob12_0_ mo 0 s1 t2 s3 s4 g5 g6 g7 g8 g9 g10 s11 g12 g13 g14 g15 g16 g17 g18 g19 g20 s21 g22 g23 g24 s25 s26 s27 s28 g29 g30 g31 g32 g33, ai_ cy g5 40 f5, ai_ cy g6 40 f6, ai_ cy g7 40 f7, ai_ cy g8 40 f8, ai_ cy g9 40 f9, az_ cy g10 40 f10, ai_ cy g12 30 f12, ai_ cy g13 30 f13, ai_ cy g14 6000 f14] [0, 1, 2, 3, 4, 5, 6, 7, 8, 9] (by decide) rfl (fun hPc hDw hFc hC_ => ?_)
            refine va_callv (va_runV (As := []) (rest := []) ⟨hx, hb, hml, hown, hts⟩ (c_X12_keeps2 l D cy H.size mo g5 g6 g7 g8 g9 g10 g12 g13 g14 g15 g16 g17 g18 g19 g20 g22 g23 g24 g29 g30 g31 g32 g33 (0 : Int32) s1 s3 s4 s11 s21 s25 s26 s27 s28 t2 f5 f6 f7 f8 f9 f10 f12 f13 f14 (by first | with_reducible assumption | omega | assumption) (by first | with_reducible assumption | omega | assumption) (by first | with_reducible assumption | omega | assumption) (by first | with_reducible assumption | assumption | omega) (by first | with_reducible assumption | assumption | omega) (by first | with_reducible assumption | assumption | omega) (by first | with_reducible assumption | assumption | omega) (by first | with_reducible assumption | assumption | omega) (by first | with_reducible assumption | assumption | omega) (by first | with_reducible assumption | assumption | omega)) (cwV 0 hts gX12_width_X12_keeps rfl rfl rfl ⟨rfl, hd_X12_keeps⟩ ⟨Nat.le_of_ble_eq_true rfl, Nat.le_of_ble_eq_true rfl⟩) ⟨bl_, va_recvX hK.1 hP (ci := 12) (q0 := 0) rfl rfl, fun U hU hW => ⟨rfl, by rw [hU], by rw [hU]; exact hPc, kk_mv hW hK, hDw⟩⟩ rfl rfl hl.1 rfl (lv_room (Nat.le_of_ble_eq_true rfl)) dB_3_0_63.1.2.2.2 ⟨Nat.le_of_ble_eq_true rfl, Nat.le_of_ble_eq_true rfl⟩) hS (fun q _ h => hFc q h) hFc (fun u t H locs ht hvm hw hB hz1 hk1 hS => ?_)
            obtain ⟨n11_11, e12_12, e13_13, e14_14, g_15, g_16, g_17, g_18, g_19, hP1, hD1⟩ := hB
            rw [ht] at hP1
            obtain ⟨hP, hD⟩ := va_join (wr := []) (w1 := [ob12_0_ mo 0 s1 t2 s3 s4 g5 g6 g7 g8 g9 g10 n11_11 g12 g13 g14 g15 g16 g17 g18 g19 g20 s21 g22 g23 g24 s25 s26 s27 s28 g29 g30 g31 g32 g33, ai_ cy g5 40 f5, ai_ cy g6 40 f6, ai_ cy g7 40 f7, ai_ cy g8 40 f8, ai_ cy g9 40 f9, az_ cy g10 40 f10, ai_ cy g12 30 e12_12, ai_ cy g13 30 e13_13, ai_ cy g14 6000 e14_14]) hP hD [0, 1, 2, 3, 4, 5, 6, 7, 8, 9] [] hC_ rfl (by decide) (by decide) hk1 hFc hP1 hD1
            refine pd_K [ob12_0_ mo 0 s1 t2 s3 s4 g5 g6 g7 g8 g9 g10 n11_11 g12 g13 g14 g15 g16 g17 g18 g19 g20 s21 g22 g23 g24 s25 s26 s27 s28 g29 g30 g31 g32 g33, ai_ cy g5 40 f5, ai_ cy g6 40 f6, ai_ cy g7 40 f7, ai_ cy g8 40 f8, ai_ cy g9 40 f9, az_ cy g10 40 f10, ai_ cy g12 30 e12_12, ai_ cy g13 30 e13_13, ai_ cy g14 6000 e14_14] hP hD (fun hP hD => ?_)
            have hpa_ : pastE n11_11.toInt e12_12 e13_13 e14_14 := kept_past g_16 hnet hpast (by omega) (by assumption) (by assumption) (by omega)
            have hkp_ := g_16
            refine lv_aload_n hx hb dB_3_0_63.2.1.1.1 rfl (lv_at hl 0 rfl) ?_
            refine va_get (ci := 12) (v := .ref g8) (C := RX12) (T := TX12) (N := 34) hx hb hts (fun _ h => List.mem_cons_of_mem _ (List.mem_append_right _ h)) hown hK.1 hP 0 rfl rfl 8 (by decide) (hts (.fieldLink RX12 19 "CutAtlasModel" "width" "[I") (List.mem_of_getElem? (i := 4) rfl)) (fun _ h9 => h9) rfl dB_3_0_63.2.1.1.2 ?_
            refine lv_iload_n hx hb dB_3_0_63.2.1.2.1 rfl (lv_at hl 1 rfl) ?_
            refine va_iald hx hb hK.1 hP 4 0 rfl rfl (i := a1) h_7 dB_3_0_63.2.1.2.2 ?_
            refine lv_topi (fun y_21 ey_21 => ?_)
            have ky_21 : y_21.toInt = (f8 a1.toNatClampNeg).toInt := by rw [ey_21]
            have ry_21 : 0 ≤ y_21.toInt ∧ y_21.toInt ≤ 2000 := by rw [ey_21]; exact r_f8 _ (in_lt h_7)
            refine lv_istore_n (lv' := [(3, .int y_21), (0, .ref mo), (1, .int a1), (2, .int a2)]) hx hb dB_3_0_63.2.2.1.1 rfl hl (by decide) rfl (fun ls hl => ?_)
            refine lv_aload_n hx hb dB_3_0_63.2.2.1.2 rfl (lv_at hl 1 rfl) ?_
            refine va_get (ci := 12) (v := .ref g8) (C := RX12) (T := TX12) (N := 34) hx hb hts (fun _ h => List.mem_cons_of_mem _ (List.mem_append_right _ h)) hown hK.1 hP 0 rfl rfl 8 (by decide) (hts (.fieldLink RX12 19 "CutAtlasModel" "width" "[I") (List.mem_of_getElem? (i := 4) rfl)) (fun _ h9 => h9) rfl dB_3_0_63.2.2.2.1 ?_
            refine lv_iload_n hx hb dB_3_0_63.2.2.2.2 rfl (lv_at hl 2 rfl) ?_
            refine lv_iload_n hx hb dB_3_0_64.1.1 rfl (lv_at hl 3 rfl) ?_
            refine va_iast hx hb hK.1 hP hD hS 4 0 rfl rfl (i := a1) h_7 dB_3_0_64.1.2 (fun H locs hP hD hS => ?_)
            obtain ⟨f_23, ef_23⟩ : ∃ g : Nat → Int32, g = upd f8 a1.toNatClampNeg a2 := ⟨_, rfl⟩
            refine pd_K (D := D) (cl := vwCl) (H := H) (A := A) [ob12_0_ mo 0 s1 t2 s3 s4 g5 g6 g7 g8 g9 g10 n11_11 g12 g13 g14 g15 g16 g17 g18 g19 g20 s21 g22 g23 g24 s25 s26 s27 s28 g29 g30 g31 g32 g33, ai_ cy g5 40 f5, ai_ cy g6 40 f6, ai_ cy g7 40 f7, ai_ cy g8 40 f_23, ai_ cy g9 40 f9, az_ cy g10 40 f10, ai_ cy g12 30 e12_12, ai_ cy g13 30 e13_13, ai_ cy g14 6000 e14_14] (by rw [ef_23]; exact hP) (by rw [ef_23]; exact hD) (fun hP hD => ?_)
            have rf_23 : rng f_23 40 (0) (2000) := by rw [ef_23]; exact rng_upd r_f8 (by omega) (by omega)
            refine lv_iload_n hx hb dB_3_0_64.2.1 rfl (lv_at hl 0 rfl) ?_
            rw [hQ]
            exact W.iret (v := y_21) hx hb hr (fun t ht hW => ⟨⟨y_21, (), rfl, (⟨fun _ => ey_21, fun h => absurd (by unfold wtI; (repeat' (first | with_reducible refine if_n (by omega) ?_ | with_reducible refine if_ns (by omega) ?_ | with_reducible refine if_nz (by omega) ?_ | with_reducible exact if_p (by omega) (by omega) | with_reducible exact if_ps (by omega) (by omega) | with_reducible exact if_pz (by omega) (by omega))) <;> omega) h⟩), n11_11, f_23, e12_12, e13_13, e14_14, (by first | with_reducible assumption | omega | assumption), (by first | exact hpa_ | assumption), (by first | exact kptd_no (by unfold wtI; (repeat' (first | with_reducible refine if_n (by omega) ?_ | with_reducible refine if_ns (by omega) ?_ | with_reducible refine if_nz (by omega) ?_ | with_reducible exact if_p (by omega) (by omega) | with_reducible exact if_ps (by omega) (by omega) | with_reducible exact if_pz (by omega) (by omega))) <;> omega) | exact kptd_ok (by unfold wtI; (repeat' (first | with_reducible refine if_n (by omega) ?_ | with_reducible refine if_ns (by omega) ?_ | with_reducible refine if_nz (by omega) ?_ | with_reducible exact if_p (by omega) (by omega) | with_reducible exact if_ps (by omega) (by omega) | with_reducible exact if_pz (by omega) (by omega))) <;> omega) hkp_), (by first | exact ⟨fun h => absurd h (by unfold wtI; (repeat' (first | with_reducible refine if_n (by omega) ?_ | with_reducible refine if_ns (by omega) ?_ | with_reducible refine if_nz (by omega) ?_ | with_reducible exact if_p (by omega) (by omega) | with_reducible exact if_ps (by omega) (by omega) | with_reducible exact if_pz (by omega) (by omega))) <;> omega), fun _ => rfl⟩ | exact ⟨fun _ => ef_23, fun h => absurd (by unfold wtI; (repeat' (first | with_reducible refine if_n (by omega) ?_ | with_reducible refine if_ns (by omega) ?_ | with_reducible refine if_nz (by omega) ?_ | with_reducible exact if_p (by omega) (by omega) | with_reducible exact if_ps (by omega) (by omega) | with_reducible exact if_pz (by omega) (by omega))) <;> omega) h⟩), (by first | with_reducible assumption | assumption | exact rng_zero (by omega) (by omega) | omega), (by first | with_reducible assumption | assumption | exact rng_zero (by omega) (by omega) | omega), (by first | with_reducible assumption | assumption | exact rng_zero (by omega) (by omega) | omega), (by first | with_reducible assumption | assumption | exact rng_zero (by omega) (by omega) | omega), by rw [ht]; exact hP, hD⟩, hS.F ht⟩) hS.2.2 dB_3_0_64.2.2
          · have t_9 : ¬ y_8.toInt = (0 : Int32).toInt := fun h => c_9 (Int32.toInt_inj.mp h)
            refine lv_bipush (v := (-2)) hx hb dB_3_0_63.1.2.1.1 (by decide) ?_
            rw [hQ]
            exact W.iret (v := (-2)) hx hb hr (fun t ht hW => ⟨⟨(-2), (), rfl, (⟨fun h => absurd h (by unfold wtI; (repeat' (first | with_reducible refine if_n (by omega) ?_ | with_reducible refine if_ns (by omega) ?_ | with_reducible refine if_nz (by omega) ?_ | with_reducible exact if_p (by omega) (by omega) | with_reducible exact if_ps (by omega) (by omega) | with_reducible exact if_pz (by omega) (by omega))) <;> omega), fun _ => (by unfold wtI; (repeat' (first | with_reducible refine if_n (by omega) ?_ | with_reducible refine if_ns (by omega) ?_ | with_reducible refine if_nz (by omega) ?_ | with_reducible exact if_p (by omega) (by omega) | with_reducible exact if_ps (by omega) (by omega) | with_reducible exact if_pz (by omega) (by omega))) <;> omega)⟩), s11, f8, f12, f13, f14, (by first | with_reducible assumption | omega | assumption), (by first | exact hpa_ | assumption), (by first | exact kptd_no (by unfold wtI; (repeat' (first | with_reducible refine if_n (by omega) ?_ | with_reducible refine if_ns (by omega) ?_ | with_reducible refine if_nz (by omega) ?_ | with_reducible exact if_p (by omega) (by omega) | with_reducible exact if_ps (by omega) (by omega) | with_reducible exact if_pz (by omega) (by omega))) <;> omega) | exact kptd_ok (by unfold wtI; (repeat' (first | with_reducible refine if_n (by omega) ?_ | with_reducible refine if_ns (by omega) ?_ | with_reducible refine if_nz (by omega) ?_ | with_reducible exact if_p (by omega) (by omega) | with_reducible exact if_ps (by omega) (by omega) | with_reducible exact if_pz (by omega) (by omega))) <;> omega) hkp_), (by first | exact ⟨fun h => absurd h (by unfold wtI; (repeat' (first | with_reducible refine if_n (by omega) ?_ | with_reducible refine if_ns (by omega) ?_ | with_reducible refine if_nz (by omega) ?_ | with_reducible exact if_p (by omega) (by omega) | with_reducible exact if_ps (by omega) (by omega) | with_reducible exact if_pz (by omega) (by omega))) <;> omega), fun _ => rfl⟩ | exact ⟨fun _ => ef8, fun h => absurd (by unfold wtI; (repeat' (first | with_reducible refine if_n (by omega) ?_ | with_reducible refine if_ns (by omega) ?_ | with_reducible refine if_nz (by omega) ?_ | with_reducible exact if_p (by omega) (by omega) | with_reducible exact if_ps (by omega) (by omega) | with_reducible exact if_pz (by omega) (by omega))) <;> omega) h⟩), (by first | with_reducible assumption | assumption | exact rng_zero (by omega) (by omega) | omega), (by first | with_reducible assumption | assumption | exact rng_zero (by omega) (by omega) | omega), (by first | with_reducible assumption | assumption | exact rng_zero (by omega) (by omega) | omega), (by first | with_reducible assumption | assumption | exact rng_zero (by omega) (by omega) | omega), by rw [ht]; exact hP, hD⟩, hS.F ht⟩) hS.2.2 dB_3_0_63.1.2.1.2
        · exact absurd c_6 (by decide)
      · have e_ := e_.symm
        subst e_
        refine lv_if_ne (tgt := 27) hx hb dB_3_0_62.2.2.1.1 (by decide) (fun c_24 => ?_) (fun c_24 => ?_)
        · exact absurd c_24 (by decide)
        · have _ := c_24
          refine lv_iconst (v := (-1)) hx hb dB_3_0_62.2.2.1.2 (by decide) ?_
          rw [hQ]
          exact W.iret (v := (-1)) hx hb hr (fun t ht hW => ⟨⟨(-1), (), rfl, (⟨fun h => absurd h (by unfold wtI; (repeat' (first | with_reducible refine if_n (by omega) ?_ | with_reducible refine if_ns (by omega) ?_ | with_reducible refine if_nz (by omega) ?_ | with_reducible exact if_p (by omega) (by omega) | with_reducible exact if_ps (by omega) (by omega) | with_reducible exact if_pz (by omega) (by omega))) <;> omega), fun _ => (by unfold wtI; (repeat' (first | with_reducible refine if_n (by omega) ?_ | with_reducible refine if_ns (by omega) ?_ | with_reducible refine if_nz (by omega) ?_ | with_reducible exact if_p (by omega) (by omega) | with_reducible exact if_ps (by omega) (by omega) | with_reducible exact if_pz (by omega) (by omega))) <;> omega)⟩), s11, f8, f12, f13, f14, (by first | with_reducible assumption | omega | assumption), (by first | exact hpa_ | assumption), (by first | exact kptd_no (by unfold wtI; (repeat' (first | with_reducible refine if_n (by omega) ?_ | with_reducible refine if_ns (by omega) ?_ | with_reducible refine if_nz (by omega) ?_ | with_reducible exact if_p (by omega) (by omega) | with_reducible exact if_ps (by omega) (by omega) | with_reducible exact if_pz (by omega) (by omega))) <;> omega) | exact kptd_ok (by unfold wtI; (repeat' (first | with_reducible refine if_n (by omega) ?_ | with_reducible refine if_ns (by omega) ?_ | with_reducible refine if_nz (by omega) ?_ | with_reducible exact if_p (by omega) (by omega) | with_reducible exact if_ps (by omega) (by omega) | with_reducible exact if_pz (by omega) (by omega))) <;> omega) hkp_), (by first | exact ⟨fun h => absurd h (by unfold wtI; (repeat' (first | with_reducible refine if_n (by omega) ?_ | with_reducible refine if_ns (by omega) ?_ | with_reducible refine if_nz (by omega) ?_ | with_reducible exact if_p (by omega) (by omega) | with_reducible exact if_ps (by omega) (by omega) | with_reducible exact if_pz (by omega) (by omega))) <;> omega), fun _ => rfl⟩ | exact ⟨fun _ => ef8, fun h => absurd (by unfold wtI; (repeat' (first | with_reducible refine if_n (by omega) ?_ | with_reducible refine if_ns (by omega) ?_ | with_reducible refine if_nz (by omega) ?_ | with_reducible exact if_p (by omega) (by omega) | with_reducible exact if_ps (by omega) (by omega) | with_reducible exact if_pz (by omega) (by omega))) <;> omega) h⟩), (by first | with_reducible assumption | assumption | exact rng_zero (by omega) (by omega) | omega), (by first | with_reducible assumption | assumption | exact rng_zero (by omega) (by omega) | omega), (by first | with_reducible assumption | assumption | exact rng_zero (by omega) (by omega) | omega), (by first | with_reducible assumption | assumption | exact rng_zero (by omega) (by omega) | omega), by rw [ht]; exact hP, hD⟩, hS.F ht⟩) hS.2.2 dB_3_0_62.2.2.2.1
  · have e_ := e_.symm
    subst e_
    refine lv_if_eq (tgt := 25) hx hb dB_3_0_62.1.2.2.1 (by decide) (fun c_25 => ?_) (fun c_25 => ?_)
    · have _ := c_25
      refine lv_iconst (v := (-1)) hx hb dB_3_0_62.2.2.1.2 (by decide) ?_
      rw [hQ]
      exact W.iret (v := (-1)) hx hb hr (fun t ht hW => ⟨⟨(-1), (), rfl, (⟨fun h => absurd h (by unfold wtI; (repeat' (first | with_reducible refine if_n (by omega) ?_ | with_reducible refine if_ns (by omega) ?_ | with_reducible refine if_nz (by omega) ?_ | with_reducible exact if_p (by omega) (by omega) | with_reducible exact if_ps (by omega) (by omega) | with_reducible exact if_pz (by omega) (by omega))) <;> omega), fun _ => (by unfold wtI; (repeat' (first | with_reducible refine if_n (by omega) ?_ | with_reducible refine if_ns (by omega) ?_ | with_reducible refine if_nz (by omega) ?_ | with_reducible exact if_p (by omega) (by omega) | with_reducible exact if_ps (by omega) (by omega) | with_reducible exact if_pz (by omega) (by omega))) <;> omega)⟩), s11, f8, f12, f13, f14, (by first | with_reducible assumption | omega | assumption), (by first | exact hpa_ | assumption), (by first | exact kptd_no (by unfold wtI; (repeat' (first | with_reducible refine if_n (by omega) ?_ | with_reducible refine if_ns (by omega) ?_ | with_reducible refine if_nz (by omega) ?_ | with_reducible exact if_p (by omega) (by omega) | with_reducible exact if_ps (by omega) (by omega) | with_reducible exact if_pz (by omega) (by omega))) <;> omega) | exact kptd_ok (by unfold wtI; (repeat' (first | with_reducible refine if_n (by omega) ?_ | with_reducible refine if_ns (by omega) ?_ | with_reducible refine if_nz (by omega) ?_ | with_reducible exact if_p (by omega) (by omega) | with_reducible exact if_ps (by omega) (by omega) | with_reducible exact if_pz (by omega) (by omega))) <;> omega) hkp_), (by first | exact ⟨fun h => absurd h (by unfold wtI; (repeat' (first | with_reducible refine if_n (by omega) ?_ | with_reducible refine if_ns (by omega) ?_ | with_reducible refine if_nz (by omega) ?_ | with_reducible exact if_p (by omega) (by omega) | with_reducible exact if_ps (by omega) (by omega) | with_reducible exact if_pz (by omega) (by omega))) <;> omega), fun _ => rfl⟩ | exact ⟨fun _ => ef8, fun h => absurd (by unfold wtI; (repeat' (first | with_reducible refine if_n (by omega) ?_ | with_reducible refine if_ns (by omega) ?_ | with_reducible refine if_nz (by omega) ?_ | with_reducible exact if_p (by omega) (by omega) | with_reducible exact if_ps (by omega) (by omega) | with_reducible exact if_pz (by omega) (by omega))) <;> omega) h⟩), (by first | with_reducible assumption | assumption | exact rng_zero (by omega) (by omega) | omega), (by first | with_reducible assumption | assumption | exact rng_zero (by omega) (by omega) | omega), (by first | with_reducible assumption | assumption | exact rng_zero (by omega) (by omega) | omega), (by first | with_reducible assumption | assumption | exact rng_zero (by omega) (by omega) | omega), by rw [ht]; exact hP, hD⟩, hS.F ht⟩) hS.2.2 dB_3_0_62.2.2.2.1
    · exact absurd c_25 (by decide)
end

section
set_option maxHeartbeats 4000000 in
set_option maxRecDepth 100000 in
theorem c_X12_merge3 (l : Launch) (D : va_G) (cy : Nat → ClassId) (sz : Nat) (mo : Nat) (g5 : Nat) (g6 : Nat) (g7 : Nat) (g8 : Nat) (g9 : Nat) (g10 : Nat) (g12 : Nat) (g13 : Nat) (g14 : Nat) (g15 : Nat) (g16 : Nat) (g17 : Nat) (g18 : Nat) (g19 : Nat) (g20 : Nat) (g22 : Nat) (g23 : Nat) (g24 : Nat) (g29 : Nat) (g30 : Nat) (g31 : Nat) (g32 : Nat) (g33 : Nat) (s0 : Int32) (s1 : Int32) (s3 : Int32) (s4 : Int32) (s11 : Int32) (s21 : Int32) (s25 : Int32) (s26 : Int32) (s27 : Int32) (s28 : Int32) (t2 : Int64) (f5 : Nat → Int32) (f6 : Nat → Int32) (f7 : Nat → Int32) (f8 : Nat → Int32) (f9 : Nat → Int32) (f10 : Nat → Int32) (f12 : Nat → Int32) (f13 : Nat → Int32) (f14 : Nat → Int32) (a1 : Int32) (a2 : Int32) (hN : 0 ≤ s4.toInt ∧ s4.toInt ≤ 40) (hPl : 0 ≤ s3.toInt ∧ s3.toInt ≤ 12) (hU : 0 ≤ s11.toInt ∧ s11.toInt ≤ 30) (hnet : netE s3.toInt s4.toInt f6 f7 f10) (hpast : pastE s11.toInt f12 f13 f14) (r_f6 : rng f6 40 (0) (11)) (r_f7 : rng f7 40 (0) (11)) (r_f8 : rng f8 40 (0) (2000)) (r_f9 : rng f9 40 (0) (100)) (r_f12 : rng f12 30 (0) (12)) (r_f13 : rng f13 30 (0) (40)) (r_f14 : orng f14 6000) : Met l yX12_merge wsX12_merge ({ frames := 3, cells := 0, slots := 0, locals := 68 }) (va_Pc [.ref mo, .int a1, .int a2] (fun U => U.heap.size = sz ∧ va_P D vwCl [ob12_0_ mo s0 s1 t2 s3 s4 g5 g6 g7 g8 g9 g10 s11 g12 g13 g14 g15 g16 g17 g18 g19 g20 s21 g22 g23 g24 s25 s26 s27 s28 g29 g30 g31 g32 g33, ai_ cy g5 40 f5, ai_ cy g6 40 f6, ai_ cy g7 40 f7, ai_ cy g8 40 f8, ai_ cy g9 40 f9, az_ cy g10 40 f10, ai_ cy g12 30 f12, ai_ cy g13 30 f13, ai_ cy g14 6000 f14] U.heap ∧ kk_ D cy U ∧ va_D (fun _ => True) [ob12_0_ mo s0 s1 t2 s3 s4 g5 g6 g7 g8 g9 g10 s11 g12 g13 g14 g15 g16 g17 g18 g19 g20 s21 g22 g23 g24 s25 s26 s27 s28 g29 g30 g31 g32 g33, ai_ cy g5 40 f5, ai_ cy g6 40 f6, ai_ cy g7 40 f7, ai_ cy g8 40 f8, ai_ cy g9 40 f9, az_ cy g10 40 f10, ai_ cy g12 30 f12, ai_ cy g13 30 f13, ai_ cy g14 6000 f14])) (va_Qi (fun (r : Int32) (_ : Unit) => ((mgI a1.toInt a2.toInt s3.toInt = 0 → r.toInt = sumI (mgF (loI a1.toInt a2.toInt) (hiI a1.toInt a2.toInt) f6 f7 f10) s4.toNatClampNeg) ∧ (mgI a1.toInt a2.toInt s3.toInt ≠ 0 → r.toInt = -1))) (fun (_ : Unit) (t : State) => ∃ (n3 : Int32), ∃ (n11 : Int32), ∃ (e6 : Nat → Int32), ∃ (e7 : Nat → Int32), ∃ (e10 : Nat → Int32), ∃ (e12 : Nat → Int32), ∃ (e13 : Nat → Int32), ∃ (e14 : Nat → Int32), (0 ≤ n3.toInt ∧ n3.toInt ≤ 12) ∧ (0 ≤ n11.toInt ∧ n11.toInt ≤ 30) ∧ (netE n3.toInt s4.toInt e6 e7 e10) ∧ (pastE n11.toInt e12 e13 e14) ∧ (kptd (mgI a1.toInt a2.toInt s3.toInt) s3 s4 f5 f6 f7 f8 f9 f10 s11.toInt f12 f13 f14 n11.toInt e12 e13 e14) ∧ ((mgI a1.toInt a2.toInt s3.toInt = 0 → n3.toInt = s3.toInt - 1 ∧ mrgd (loI a1.toInt a2.toInt) (hiI a1.toInt a2.toInt) f6 f7 f10 e6 e7 e10 s4.toInt) ∧ (mgI a1.toInt a2.toInt s3.toInt ≠ 0 → n3 = s3 ∧ e6 = f6 ∧ e7 = f7 ∧ e10 = f10)) ∧ (rng e6 40 (0) (11)) ∧ (rng e7 40 (0) (11)) ∧ (rng e12 30 (0) (12)) ∧ (rng e13 30 (0) (40)) ∧ (orng e14 6000) ∧ va_P D vwCl [ob12_0_ mo 0 s1 t2 n3 s4 g5 g6 g7 g8 g9 g10 n11 g12 g13 g14 g15 g16 g17 g18 g19 g20 s21 g22 g23 g24 s25 s26 s27 s28 g29 g30 g31 g32 g33, ai_ cy g5 40 f5, ai_ cy g6 40 e6, ai_ cy g7 40 e7, ai_ cy g8 40 f8, ai_ cy g9 40 f9, az_ cy g10 40 e10, ai_ cy g12 30 e12, ai_ cy g13 30 e13, ai_ cy g14 6000 e14] t.heap ∧ va_D (va_A [ob12_0_ mo s0 s1 t2 s3 s4 g5 g6 g7 g8 g9 g10 s11 g12 g13 g14 g15 g16 g17 g18 g19 g20 s21 g22 g23 g24 s25 s26 s27 s28 g29 g30 g31 g32 g33, ai_ cy g5 40 f5, ai_ cy g6 40 f6, ai_ cy g7 40 f7, ai_ cy g8 40 f8, ai_ cy g9 40 f9, az_ cy g10 40 f10, ai_ cy g12 30 f12, ai_ cy g13 30 f13, ai_ cy g14 6000 f14] sz) [ob12_0_ mo 0 s1 t2 n3 s4 g5 g6 g7 g8 g9 g10 n11 g12 g13 g14 g15 g16 g17 g18 g19 g20 s21 g22 g23 g24 s25 s26 s27 s28 g29 g30 g31 g32 g33, ai_ cy g5 40 f5, ai_ cy g6 40 e6, ai_ cy g7 40 e7, ai_ cy g8 40 f8, ai_ cy g9 40 f9, az_ cy g10 40 e10, ai_ cy g12 30 e12, ai_ cy g13 30 e13, ai_ cy g14 6000 e14]) (va_A [ob12_0_ mo s0 s1 t2 s3 s4 g5 g6 g7 g8 g9 g10 s11 g12 g13 g14 g15 g16 g17 g18 g19 g20 s21 g22 g23 g24 s25 s26 s27 s28 g29 g30 g31 g32 g33, ai_ cy g5 40 f5, ai_ cy g6 40 f6, ai_ cy g7 40 f7, ai_ cy g8 40 f8, ai_ cy g9 40 f9, az_ cy g10 40 f10, ai_ cy g12 30 f12, ai_ cy g13 30 f13, ai_ cy g14 6000 f14] sz)) 0 0 (va_A [ob12_0_ mo s0 s1 t2 s3 s4 g5 g6 g7 g8 g9 g10 s11 g12 g13 g14 g15 g16 g17 g18 g19 g20 s21 g22 g23 g24 s25 s26 s27 s28 g29 g30 g31 g32 g33, ai_ cy g5 40 f5, ai_ cy g6 40 f6, ai_ cy g7 40 f7, ai_ cy g8 40 f8, ai_ cy g9 40 f9, az_ cy g10 40 f10, ai_ cy g12 30 f12, ai_ cy g13 30 f13, ai_ cy g14 6000 f14] sz) := by
  refine ofQ (cc := cX12_merge) (maxL := 7) (ret := (some .int)) (by decide) rfl ?_
  intro p e s m args below meth c s₁ Q hQ B hml hv
  obtain ⟨rfl, hsz, hP, hK, hD0⟩ := hv
  have hx := B.exec
  have hb := B.bytes
  have hr := B.returns
  have hts := atoms_spec (ws := wsX12_merge) B.pre
  have hown : s.vm.findClass RX12 = some m.cls := by have h_ := findClass_of_methodNamed B.named; exact h_
  have hlocks := B.notSynchronized
  subst hsz
  have hD := hD0.self (sz := s.heap.size)
  generalize hAe : va_A [ob12_0_ mo s0 s1 t2 s3 s4 g5 g6 g7 g8 g9 g10 s11 g12 g13 g14 g15 g16 g17 g18 g19 g20 s21 g22 g23 g24 s25 s26 s27 s28 g29 g30 g31 g32 g33, ai_ cy g5 40 f5, ai_ cy g6 40 f6, ai_ cy g7 40 f7, ai_ cy g8 40 f8, ai_ cy g9 40 f9, az_ cy g10 40 f10, ai_ cy g12 30 f12, ai_ cy g13 30 f13, ai_ cy g14 6000 f14] s.heap.size = A at hD hQ
  have hA : ∀ q : Nat, s.heap.size ≤ q → A q := fun q h => by rw [← hAe]; exact Or.inr h
  have hS : va_S A s.heap s.heap [] := va_S.rf
  have hl := lv_entry ([.ref mo, .int a1, .int a2]) (n := 7) (Nat.le_of_ble_eq_true rfl)
  rw [lg_entry_eq]
  generalize (lg_sl ([.ref mo, .int a1, .int a2]) ++ List.replicate (7 - (lg_sl ([.ref mo, .int a1, .int a2])).length) Slot.unset).toArray = ls at hl ⊢
  have hl : lv_has ls 7 [(0, .ref mo), (1, .int a1), (2, .int a2)] := hl
  have zm1 : ((-1) : Int32).toInt = -1 := by decide
  have z0 : (0 : Int32).toInt = 0 := by decide
  have z1 : (1 : Int32).toInt = 1 := by decide
  refine lv_aload_n hx hb dB_3_0_32.1.1.1.1 rfl (lv_at hl 0 rfl) ?_
  refine lv_iconst (v := 0) hx hb dB_3_0_32.1.1.1.2 (by decide) ?_
  refine va_put (ci := 12) (v := .int 0) (ty := .int) (C := RX12) (T := TX12) (N := 34) hx hb hts (fun _ h => List.mem_cons_of_mem _ (List.mem_append_right _ h)) tyX12 tyX12_ok nmX12 hown hK.1 hP hD hS 0 rfl rfl 0 (by decide) (hts (.fieldLink RX12 85 "CutAtlasModel" "thrown" "I") (List.mem_of_getElem? (i := 1) rfl)) (fun _ h9 => h9) rfl (by decide +kernel) rfl rfl (Nat.le_of_ble_eq_true rfl) dB_3_0_32.1.1.2.1 (fun H locs hP hD hS => ?_)
  refine pd_K [ob12_0_ mo 0 s1 t2 s3 s4 g5 g6 g7 g8 g9 g10 s11 g12 g13 g14 g15 g16 g17 g18 g19 g20 s21 g22 g23 g24 s25 s26 s27 s28 g29 g30 g31 g32 g33, ai_ cy g5 40 f5, ai_ cy g6 40 f6, ai_ cy g7 40 f7, ai_ cy g8 40 f8, ai_ cy g9 40 f9, az_ cy g10 40 f10, ai_ cy g12 30 f12, ai_ cy g13 30 f13, ai_ cy g14 6000 f14] hP hD (fun hP hD => ?_)
  refine lv_aload_n hx hb dB_3_0_32.1.1.2.2 rfl (lv_at hl 0 rfl) ?_
  refine lv_iload_n hx hb dB_3_0_32.1.2.1.1 rfl (lv_at hl 1 rfl) ?_
  refine lv_iload_n hx hb dB_3_0_32.1.2.1.2 rfl (lv_at hl 2 rfl) ?_
  refine ct_R hP hD [ob12_0_ mo 0 s1 t2 s3 s4 g5 g6 g7 g8 g9 g10 s11 g12 g13 g14 g15 g16 g17 g18 g19 g20 s21 g22 g23 g24 s25 s26 s27 s28 g29 g30 g31 g32 g33] [0] (by decide) rfl (fun hPc hDw => ?_)
  have hFc := va_free (wc := []) hD hS hA [] rfl
  refine va_calli (va_runV (As := [.int a1, .int a2]) (rest := []) ⟨hx, hb, hml, hown, hts⟩ (c_X12_arePlaces l D cy H.size mo g5 g6 g7 g8 g9 g10 g12 g13 g14 g15 g16 g17 g18 g19 g20 g22 g23 g24 g29 g30 g31 g32 g33 (0 : Int32) s1 s3 s4 s11 s21 s25 s26 s27 s28 t2 a1 a2 (by first | with_reducible assumption | omega | assumption)) (cwV 2 hts gX12_merge_X12_arePlaces rfl rfl rfl ⟨rfl, hd_X12_arePlaces⟩ ⟨Nat.le_of_ble_eq_true rfl, Nat.le_of_ble_eq_true rfl⟩) ⟨bl_, va_recvX hK.1 hP (ci := 12) (q0 := 0) rfl rfl, fun U hU hW => ⟨rfl, by rw [hU], by rw [hU]; exact hPc, kk_mv hW hK, hDw⟩⟩ rfl rfl hl.1 rfl (lv_room (Nat.le_of_ble_eq_true rfl)) dB_3_0_32.1.2.2.1 ⟨Nat.le_of_ble_eq_true rfl, Nat.le_of_ble_eq_true rfl⟩) hS (fun q _ h => hFc q h) hFc (fun r_1 u t H locs ht hvm hw hB hz1 hk1 hS => ?_)
  have hP : va_P D vwCl _ H := ro_keep hP hk1
  rcases hw with ⟨w_2, e_⟩ | ⟨w_2, e_⟩
  · have e_ := e_.symm
    subst e_
    refine lv_if_ne (tgt := 16) hx hb dB_3_0_32.1.2.2.2 (by decide) (fun c_3 => ?_) (fun c_3 => ?_)
    · have _ := c_3
      refine lv_aload_n hx hb dB_3_0_32.2.1.2.1 rfl (lv_at hl 0 rfl) ?_
      refine ct_S hP hD hS hA [ob12_0_ mo 0 s1 t2 s3 s4 g5 g6 g7 g8 g9 g10 s11 g12 g13 g14 g15 g16 g17 g18 g19 g20 s21 g22 g23 g24 s25 s26 s27 s28 g29 g30 g31 g32 g33, ai_ cy g5 40 f5, ai_ cy g6 40 f6, ai_ cy g7 40 f7, ai_ cy g8 40 f8, ai_ cy g9 40 f9, az_ cy g10 40 f10, ai_ cy g12 30 f12, ai_ cy g13 30 f13, ai_ cy g14 6000 f14] [0, 1, 2, 3, 4, 5, 6, 7, 8, 9] (by decide) rfl (fun hPc hDw hFc hC_ => ?_)
      refine va_callv (va_runV (As := []) (rest := []) ⟨hx, hb, hml, hown, hts⟩ (c_X12_keeps2 l D cy H.size mo g5 g6 g7 g8 g9 g10 g12 g13 g14 g15 g16 g17 g18 g19 g20 g22 g23 g24 g29 g30 g31 g32 g33 (0 : Int32) s1 s3 s4 s11 s21 s25 s26 s27 s28 t2 f5 f6 f7 f8 f9 f10 f12 f13 f14 (by first | with_reducible assumption | omega | assumption) (by first | with_reducible assumption | omega | assumption) (by first | with_reducible assumption | omega | assumption) (by first | with_reducible assumption | assumption | omega) (by first | with_reducible assumption | assumption | omega) (by first | with_reducible assumption | assumption | omega) (by first | with_reducible assumption | assumption | omega) (by first | with_reducible assumption | assumption | omega) (by first | with_reducible assumption | assumption | omega) (by first | with_reducible assumption | assumption | omega)) (cwV 0 hts gX12_merge_X12_keeps rfl rfl rfl ⟨rfl, hd_X12_keeps⟩ ⟨Nat.le_of_ble_eq_true rfl, Nat.le_of_ble_eq_true rfl⟩) ⟨bl_, va_recvX hK.1 hP (ci := 12) (q0 := 0) rfl rfl, fun U hU hW => ⟨rfl, by rw [hU], by rw [hU]; exact hPc, kk_mv hW hK, hDw⟩⟩ rfl rfl hl.1 rfl (lv_room (Nat.le_of_ble_eq_true rfl)) dB_3_0_32.2.1.2.2 ⟨Nat.le_of_ble_eq_true rfl, Nat.le_of_ble_eq_true rfl⟩) hS (fun q _ h => hFc q h) hFc (fun u t H locs ht hvm hw hB hz1 hk1 hS => ?_)
      obtain ⟨n11_5, e12_6, e13_7, e14_8, g_9, g_10, g_11, g_12, g_13, hP1, hD1⟩ := hB
      rw [ht] at hP1
      obtain ⟨hP, hD⟩ := va_join (wr := []) (w1 := [ob12_0_ mo 0 s1 t2 s3 s4 g5 g6 g7 g8 g9 g10 n11_5 g12 g13 g14 g15 g16 g17 g18 g19 g20 s21 g22 g23 g24 s25 s26 s27 s28 g29 g30 g31 g32 g33, ai_ cy g5 40 f5, ai_ cy g6 40 f6, ai_ cy g7 40 f7, ai_ cy g8 40 f8, ai_ cy g9 40 f9, az_ cy g10 40 f10, ai_ cy g12 30 e12_6, ai_ cy g13 30 e13_7, ai_ cy g14 6000 e14_8]) hP hD [0, 1, 2, 3, 4, 5, 6, 7, 8, 9] [] hC_ rfl (by decide) (by decide) hk1 hFc hP1 hD1
      refine pd_K [ob12_0_ mo 0 s1 t2 s3 s4 g5 g6 g7 g8 g9 g10 n11_5 g12 g13 g14 g15 g16 g17 g18 g19 g20 s21 g22 g23 g24 s25 s26 s27 s28 g29 g30 g31 g32 g33, ai_ cy g5 40 f5, ai_ cy g6 40 f6, ai_ cy g7 40 f7, ai_ cy g8 40 f8, ai_ cy g9 40 f9, az_ cy g10 40 f10, ai_ cy g12 30 e12_6, ai_ cy g13 30 e13_7, ai_ cy g14 6000 e14_8] hP hD (fun hP hD => ?_)
      have hpa_ : pastE n11_5.toInt e12_6 e13_7 e14_8 := kept_past g_10 hnet hpast (by omega) (by assumption) (by assumption) (by omega)
      have hkp_ := g_10
      have JOIN_14 : ∀ (u0_14 : Int32) (H : Heap) (locs : List Loc) (ls : Array Slot), ((u0_14.toInt = a1.toInt ∧ a1.toInt < a2.toInt) ∨ (u0_14.toInt = a2.toInt ∧ a2.toInt < a1.toInt)) → pd_2 D vwCl A [ob12_0_ mo 0 s1 t2 s3 s4 g5 g6 g7 g8 g9 g10 n11_5 g12 g13 g14 g15 g16 g17 g18 g19 g20 s21 g22 g23 g24 s25 s26 s27 s28 g29 g30 g31 g32 g33, ai_ cy g5 40 f5, ai_ cy g6 40 f6, ai_ cy g7 40 f7, ai_ cy g8 40 f8, ai_ cy g9 40 f9, az_ cy g10 40 f10, ai_ cy g12 30 e12_6, ai_ cy g13 30 e13_7, ai_ cy g14 6000 e14_8] H → va_S A s.heap H locs → lv_has ls 7 [(0, .ref mo), (1, .int a1), (2, .int a2)] → W p l e ({ frames := 3, cells := 0, slots := 0, locals := 68 } : Room) s m (([.ref mo, .int a1, .int a2] : List Value).toArray) below meth c H locs 0 0 Q (F0 m 30 ls [.int u0_14]) := by
        intro u0_14 H locs ls v0_14 hPD hS hl; obtain ⟨hP, hD⟩ := hPD
        refine lv_istore_n (lv' := [(3, .int u0_14), (0, .ref mo), (1, .int a1), (2, .int a2)]) hx hb dB_3_0_33.1.1.2.1 rfl hl (by decide) rfl (fun ls hl => ?_)
        have JOIN_15 : ∀ (u0_15 : Int32) (H : Heap) (locs : List Loc) (ls : Array Slot), ((u0_15.toInt = a2.toInt ∧ u0_14.toInt = a1.toInt) ∨ (u0_15.toInt = a1.toInt ∧ u0_14.toInt = a2.toInt)) → (u0_14.toInt < u0_15.toInt ∧ 0 ≤ u0_14.toInt ∧ u0_15.toInt < s3.toInt) → pd_2 D vwCl A [ob12_0_ mo 0 s1 t2 s3 s4 g5 g6 g7 g8 g9 g10 n11_5 g12 g13 g14 g15 g16 g17 g18 g19 g20 s21 g22 g23 g24 s25 s26 s27 s28 g29 g30 g31 g32 g33, ai_ cy g5 40 f5, ai_ cy g6 40 f6, ai_ cy g7 40 f7, ai_ cy g8 40 f8, ai_ cy g9 40 f9, az_ cy g10 40 f10, ai_ cy g12 30 e12_6, ai_ cy g13 30 e13_7, ai_ cy g14 6000 e14_8] H → va_S A s.heap H locs → lv_has ls 7 [(3, .int u0_14), (0, .ref mo), (1, .int a1), (2, .int a2)] → W p l e ({ frames := 3, cells := 0, slots := 0, locals := 68 } : Room) s m (([.ref mo, .int a1, .int a2] : List Value).toArray) below meth c H locs 0 0 Q (F0 m 41 ls [.int u0_15]) := by
          intro u0_15 H locs ls v0_15 v1_15 hPD hS hl; obtain ⟨hP, hD⟩ := hPD
          refine lv_istore (lv' := [(4, .int u0_15), (3, .int u0_14), (0, .ref mo), (1, .int a1), (2, .int a2)]) hx hb dB_3_0_33.2.1.1.2 hl (by decide) rfl (fun ls hl => ?_)
          have hlo_ : u0_14.toInt = loI a1.toInt a2.toInt := by unfold loI; split <;> omega
          have hhi_ : u0_15.toInt = hiI a1.toInt a2.toInt := by unfold hiI; split <;> omega
          refine lv_iconst (v := 0) hx hb dB_3_0_33.2.1.2.1 (by decide) ?_
          refine lv_istore (lv' := [(5, .int 0), (4, .int u0_15), (3, .int u0_14), (0, .ref mo), (1, .int a1), (2, .int a2)]) hx hb dB_3_0_33.2.1.2.2 hl (by decide) rfl (fun ls hl => ?_)
          refine lv_iconst (v := 0) hx hb dB_3_0_33.2.2.1.1 (by decide) ?_
          refine lv_istore (lv' := [(6, .int 0), (5, .int 0), (4, .int u0_15), (3, .int u0_14), (0, .ref mo), (1, .int a1), (2, .int a2)]) hx hb dB_3_0_33.2.2.1.2 hl (by decide) rfl (fun ls hl => ?_)
          suffices LOOP_16 : ∀ (n_16 : Nat) (x6_16 : Int32) (x5_16 : Int32) (c_g6_16 : Nat → Int32) (c_g7_16 : Nat → Int32) (c_g10_16 : Nat → Int32) (H : Heap) (locs : List Loc) (ls : Array Slot), s4.toInt - x6_16.toInt < (n_16 : Int) → (0 ≤ x6_16.toInt) → (x6_16.toInt ≤ s4.toInt) → (mrgd u0_14.toInt u0_15.toInt f6 f7 f10 c_g6_16 c_g7_16 c_g10_16 x6_16.toInt) → (0 ≤ x5_16.toInt ∧ x5_16.toInt ≤ x6_16.toInt) → (x5_16.toInt = sumI (mgF u0_14.toInt u0_15.toInt f6 f7 f10) x6_16.toNatClampNeg) → (rng c_g6_16 40 (0) (11)) → (rng c_g7_16 40 (0) (11)) → pd_2 D vwCl A [ob12_0_ mo 0 s1 t2 s3 s4 g5 g6 g7 g8 g9 g10 n11_5 g12 g13 g14 g15 g16 g17 g18 g19 g20 s21 g22 g23 g24 s25 s26 s27 s28 g29 g30 g31 g32 g33, ai_ cy g5 40 f5, ai_ cy g6 40 c_g6_16, ai_ cy g7 40 c_g7_16, ai_ cy g8 40 f8, ai_ cy g9 40 f9, az_ cy g10 40 c_g10_16, ai_ cy g12 30 e12_6, ai_ cy g13 30 e13_7, ai_ cy g14 6000 e14_8] H → va_S A s.heap H locs → lv_has ls 7 [(6, .int x6_16), (5, .int x5_16), (4, .int u0_15), (3, .int u0_14), (0, .ref mo), (1, .int a1), (2, .int a2)] → W p l e ({ frames := 3, cells := 0, slots := 0, locals := 68 } : Room) s m (([.ref mo, .int a1, .int a2] : List Value).toArray) below meth c H locs 0 0 Q (F0 m 49 ls []) from LOOP_16 ((s4.toInt - (0 : Int32).toInt).toNat + 1) (0 : Int32) (0 : Int32) f6 f7 f10 _ _ _ (by omega) (by first | with_reducible assumption | omega | assumption) (by first | with_reducible assumption | omega | assumption) (by first | exact mrgd_0 | exact hms_ (0 : Int32) (by omega) | exact mrgd_skip v_none (by omega) (by omega) (by omega)) (by first | with_reducible assumption | omega | assumption) (by first | exact sum_0 | exact cnt_st v_none (by rw [hmf_]; omega) (by omega) (by omega) | exact cnt_st v_none (by rw [mgF_skip v_none (by omega) (by omega)]; omega) (by omega) (by omega)) (by first | with_reducible assumption | assumption | exact rng_zero (by omega) (by omega) | exact orng_zero) (by first | with_reducible assumption | assumption | exact rng_zero (by omega) (by omega) | exact orng_zero) ⟨hP, hD⟩ hS (lv_sub hl [0, 1, 2, 3, 4, 5, 6] rfl)
          intro n_16
          induction n_16 with
          | zero =>
            intro x6_16 x5_16 c_g6_16 c_g7_16 c_g10_16 H locs ls hm v0_16 v1_16 v2_16 v3_16 v4_16 rc_g6_16 rc_g7_16 hPD hS hl; obtain ⟨hP, hD⟩ := hPD
            exact absurd hm (by omega)
          | succ n_16 ih_16 =>
            intro x6_16 x5_16 c_g6_16 c_g7_16 c_g10_16 H locs ls hm v0_16 v1_16 v2_16 v3_16 v4_16 rc_g6_16 rc_g7_16 hPD hS hl; obtain ⟨hP, hD⟩ := hPD
            refine lv_iload hx hb dB_3_0_33.2.2.2.1 (lv_at hl 0 rfl) ?_
            refine lv_aload_n hx hb dB_3_0_33.2.2.2.2 rfl (lv_at hl 4 rfl) ?_
            refine va_get (ci := 12) (v := .int s4) (C := RX12) (T := TX12) (N := 34) hx hb hts (fun _ h => List.mem_cons_of_mem _ (List.mem_append_right _ h)) hown hK.1 hP 0 rfl rfl 4 (by decide) (hts (.fieldLink RX12 95 "CutAtlasModel" "lines" "I") (List.mem_of_getElem? (i := 2) rfl)) (fun _ h9 => h9) rfl dB_3_0_34.1.1.1.1 ?_
            refine lv_icmp_ge (tgt := 231) hx hb dB_3_0_34.1.1.1.2 (by decide) (fun c_17 => ?_) (fun c_17 => ?_)
            · have t_17 : s4.toInt ≤ x6_16.toInt := Int32.le_iff_toInt_le.mp c_17
              have hne_ : ∀ q : Int, q = s3.toInt - 1 → netE q s4.toInt c_g6_16 c_g7_16 c_g10_16 := fun q eq => mrgd_net v2_16 (by omega) hnet (by omega) (by omega) eq
              have hmr_ := mrgd_to v2_16 hlo_ hhi_ (show x6_16.toInt = s4.toInt by omega)
              have hct_ := sum_end v4_16 (show x6_16.toInt = s4.toInt by omega)
              rw [hlo_, hhi_] at hct_
              refine lv_aload_n hx hb dB_3_0_39.2.2.2.1 rfl (lv_at hl 4 rfl) ?_
              refine lv_dup hx hb dB_3_0_39.2.2.2.2 rfl ?_
              refine va_get (ci := 12) (v := .int s3) (C := RX12) (T := TX12) (N := 34) hx hb hts (fun _ h => List.mem_cons_of_mem _ (List.mem_append_right _ h)) hown hK.1 hP 0 rfl rfl 3 (by decide) (hts (.fieldLink RX12 88 "CutAtlasModel" "places" "I") (List.mem_of_getElem? (i := 6) rfl)) (fun _ h9 => h9) rfl dB_3_0_40.1.1 ?_
              refine lv_iconst (v := 1) hx hb dB_3_0_40.1.2.1 (by decide) ?_
              refine lv_isub hx hb dB_3_0_40.1.2.2 ?_
              refine lv_topi (fun y_18 ey_18 => ?_)
              have ty_18 : y_18.toInt = s3.toInt - (1 : Int32).toInt := by rw [ey_18]; exact subI (by omega) (by omega)
              refine va_put (ci := 12) (v := .int y_18) (ty := .int) (C := RX12) (T := TX12) (N := 34) hx hb hts (fun _ h => List.mem_cons_of_mem _ (List.mem_append_right _ h)) tyX12 tyX12_ok nmX12 hown hK.1 hP hD hS 0 rfl rfl 3 (by decide) (hts (.fieldLink RX12 88 "CutAtlasModel" "places" "I") (List.mem_of_getElem? (i := 6) rfl)) (fun _ h9 => h9) rfl (by decide +kernel) rfl rfl (Nat.le_of_ble_eq_true rfl) dB_3_0_40.2.1 (fun H locs hP hD hS => ?_)
              refine pd_K [ob12_0_ mo 0 s1 t2 y_18 s4 g5 g6 g7 g8 g9 g10 n11_5 g12 g13 g14 g15 g16 g17 g18 g19 g20 s21 g22 g23 g24 s25 s26 s27 s28 g29 g30 g31 g32 g33, ai_ cy g5 40 f5, ai_ cy g6 40 c_g6_16, ai_ cy g7 40 c_g7_16, ai_ cy g8 40 f8, ai_ cy g9 40 f9, az_ cy g10 40 c_g10_16, ai_ cy g12 30 e12_6, ai_ cy g13 30 e13_7, ai_ cy g14 6000 e14_8] hP hD (fun hP hD => ?_)
              refine lv_iload hx hb dB_3_0_40.2.2.1 (lv_at hl 1 rfl) ?_
              rw [hQ]
              exact W.iret (v := x5_16) hx hb hr (fun t ht hW => ⟨⟨x5_16, (), rfl, (by first | exact ⟨fun h => absurd h (by unfold mgI; (repeat' (first | with_reducible refine if_n (by omega) ?_ | with_reducible refine if_ns (by omega) ?_ | with_reducible refine if_nz (by omega) ?_ | with_reducible exact if_p (by omega) (by omega) | with_reducible exact if_ps (by omega) (by omega) | with_reducible exact if_pz (by omega) (by omega))) <;> omega), fun _ => by decide⟩ | exact ⟨fun _ => hct_, fun h => absurd (by unfold mgI; (repeat' (first | with_reducible refine if_n (by omega) ?_ | with_reducible refine if_ns (by omega) ?_ | with_reducible refine if_nz (by omega) ?_ | with_reducible exact if_p (by omega) (by omega) | with_reducible exact if_ps (by omega) (by omega) | with_reducible exact if_pz (by omega) (by omega))) <;> omega) h⟩), y_18, n11_5, c_g6_16, c_g7_16, c_g10_16, e12_6, e13_7, e14_8, (by first | with_reducible assumption | omega | assumption), (by first | with_reducible assumption | omega | assumption), (by first | exact hne_ _ (by omega) | assumption), (by first | exact hpa_ | assumption), (by first | exact kptd_no (by unfold mgI; (repeat' (first | with_reducible refine if_n (by omega) ?_ | with_reducible refine if_ns (by omega) ?_ | with_reducible refine if_nz (by omega) ?_ | with_reducible exact if_p (by omega) (by omega) | with_reducible exact if_ps (by omega) (by omega) | with_reducible exact if_pz (by omega) (by omega))) <;> omega) | exact kptd_ok (by unfold mgI; (repeat' (first | with_reducible refine if_n (by omega) ?_ | with_reducible refine if_ns (by omega) ?_ | with_reducible refine if_nz (by omega) ?_ | with_reducible exact if_p (by omega) (by omega) | with_reducible exact if_ps (by omega) (by omega) | with_reducible exact if_pz (by omega) (by omega))) <;> omega) hkp_), (by first | exact ⟨fun h => absurd h (by unfold mgI; (repeat' (first | with_reducible refine if_n (by omega) ?_ | with_reducible refine if_ns (by omega) ?_ | with_reducible refine if_nz (by omega) ?_ | with_reducible exact if_p (by omega) (by omega) | with_reducible exact if_ps (by omega) (by omega) | with_reducible exact if_pz (by omega) (by omega))) <;> omega), fun _ => ⟨rfl, rfl, rfl, rfl⟩⟩ | exact ⟨fun _ => ⟨by omega, hmr_⟩, fun h => absurd (by unfold mgI; (repeat' (first | with_reducible refine if_n (by omega) ?_ | with_reducible refine if_ns (by omega) ?_ | with_reducible refine if_nz (by omega) ?_ | with_reducible exact if_p (by omega) (by omega) | with_reducible exact if_ps (by omega) (by omega) | with_reducible exact if_pz (by omega) (by omega))) <;> omega) h⟩), (by first | with_reducible assumption | assumption | exact rng_zero (by omega) (by omega) | omega), (by first | with_reducible assumption | assumption | exact rng_zero (by omega) (by omega) | omega), (by first | with_reducible assumption | assumption | exact rng_zero (by omega) (by omega) | omega), (by first | with_reducible assumption | assumption | exact rng_zero (by omega) (by omega) | omega), (by first | with_reducible assumption | assumption | exact rng_zero (by omega) (by omega) | omega), by rw [ht]; exact hP, hD⟩, hS.F ht⟩) hS.2.2 dB_3_0_40.2.2.2
            · have t_17 : ¬ s4.toInt ≤ x6_16.toInt := fun h => c_17 (Int32.le_iff_toInt_le.mpr h)
              refine lv_aload_n hx hb dB_3_0_34.1.1.2.1 rfl (lv_at hl 4 rfl) ?_
              refine va_get (ci := 12) (v := .ref g10) (C := RX12) (T := TX12) (N := 34) hx hb hts (fun _ h => List.mem_cons_of_mem _ (List.mem_append_right _ h)) hown hK.1 hP 0 rfl rfl 10 (by decide) (hts (.fieldLink RX12 25 "CutAtlasModel" "isMissing" "[Z") (List.mem_of_getElem? (i := 3) rfl)) (fun _ h9 => h9) rfl dB_3_0_34.1.1.2.2 ?_
              refine lv_iload hx hb dB_3_0_34.1.2.1.1 (lv_at hl 0 rfl) ?_
              have h_19 : vp_in x6_16 40 := in_I (by first | with_reducible assumption | omega) (by omega)
              refine va_zald hx hb hK.1 hP 6 2 rfl rfl (i := x6_16) h_19 dB_3_0_34.1.2.1.2 ?_
              refine lv_topi (fun y_20 ey_20 => ?_)
              have ky_20 : y_20.toInt = (c_g10_16 x6_16.toNatClampNeg).toInt := by rw [ey_20]
              refine lv_if_ne (tgt := 225) hx hb dB_3_0_34.1.2.2.1 (by decide) (fun c_21 => ?_) (fun c_21 => ?_)
              · have t_21 : ¬ y_20.toInt = (0 : Int32).toInt := fun h => c_21 (Int32.toInt_inj.mp h)
                obtain ⟨y_22, ey_22⟩ : ∃ y : Int32, y = x6_16 + 1 := ⟨_, rfl⟩
                have ty_22 : y_22.toInt = x6_16.toInt + (1 : Int32).toInt := by rw [ey_22]; exact addI (by omega) (by omega)
                refine lv_iinc (v := y_22) (lv' := [(6, .int y_22), (5, .int x5_16), (4, .int u0_15), (3, .int u0_14), (0, .ref mo), (1, .int a1), (2, .int a2)]) hx hb dB_3_0_39.2.2.1.1 hl (k := 0) rfl (by rw [ey_22]; rfl) (by decide) rfl (fun ls hl => ?_)
                refine lv_goto (tgt := 49) hx hb dB_3_0_39.2.2.1.2 (by decide) ?_
                exact ih_16 y_22 x5_16 c_g6_16 c_g7_16 c_g10_16 _ _ _ (by omega) (by first | with_reducible assumption | omega | assumption) (by first | with_reducible assumption | omega | assumption) (by first | exact mrgd_0 | exact hms_ y_22 (by omega) | exact mrgd_skip v2_16 (by omega) (by omega) (by omega)) (by first | with_reducible assumption | omega | assumption) (by first | exact sum_0 | exact cnt_st v4_16 (by rw [hmf_]; omega) (by omega) (by omega) | exact cnt_st v4_16 (by rw [mgF_skip v2_16 (by omega) (by omega)]; omega) (by omega) (by omega)) (by first | with_reducible assumption | assumption | exact rng_zero (by omega) (by omega) | exact orng_zero) (by first | with_reducible assumption | assumption | exact rng_zero (by omega) (by omega) | exact orng_zero) ⟨hP, hD⟩ hS (lv_sub hl [0, 1, 2, 3, 4, 5, 6] rfl)
              · have t_21 : y_20.toInt = (0 : Int32).toInt := congrArg Int32.toInt c_21
                have hnl_ := v2_16.2 x6_16.toNatClampNeg (by have c_ := clI (i := x6_16) (by omega); omega)
                have hms0_ : (c_g10_16 x6_16.toNatClampNeg).toInt = 0 := by omega
                refine lv_aload_n hx hb dB_3_0_34.1.2.2.2 rfl (lv_at hl 4 rfl) ?_
                refine va_get (ci := 12) (v := .ref g6) (C := RX12) (T := TX12) (N := 34) hx hb hts (fun _ h => List.mem_cons_of_mem _ (List.mem_append_right _ h)) hown hK.1 hP 0 rfl rfl 6 (by decide) (hts (.fieldLink RX12 13 "CutAtlasModel" "from" "[I") (List.mem_of_getElem? (i := 4) rfl)) (fun _ h9 => h9) rfl dB_3_0_34.2.1.1.1 ?_
                refine lv_iload hx hb dB_3_0_34.2.1.1.2 (lv_at hl 0 rfl) ?_
                have JOIN_23 : ∀ (u0_23 : Int32) (H : Heap) (locs : List Loc) (ls : Array Slot), (u0_23.toInt = renI (c_g6_16 x6_16.toNatClampNeg).toInt u0_14.toInt u0_15.toInt ∧ 0 ≤ u0_23.toInt ∧ u0_23.toInt ≤ 11) → pd_2 D vwCl A [ob12_0_ mo 0 s1 t2 s3 s4 g5 g6 g7 g8 g9 g10 n11_5 g12 g13 g14 g15 g16 g17 g18 g19 g20 s21 g22 g23 g24 s25 s26 s27 s28 g29 g30 g31 g32 g33, ai_ cy g5 40 f5, ai_ cy g6 40 c_g6_16, ai_ cy g7 40 c_g7_16, ai_ cy g8 40 f8, ai_ cy g9 40 f9, az_ cy g10 40 c_g10_16, ai_ cy g12 30 e12_6, ai_ cy g13 30 e13_7, ai_ cy g14 6000 e14_8] H → va_S A s.heap H locs → lv_has ls 7 [(6, .int x6_16), (5, .int x5_16), (4, .int u0_15), (3, .int u0_14), (0, .ref mo), (1, .int a1), (2, .int a2)] → W p l e ({ frames := 3, cells := 0, slots := 0, locals := 68 } : Room) s m (([.ref mo, .int a1, .int a2] : List Value).toArray) below meth c H locs 0 0 Q (F0 m 121 ls [.int u0_23, .int x6_16, .ref g6]) := by
                  intro u0_23 H locs ls v0_23 hPD hS hl; obtain ⟨hP, hD⟩ := hPD
                  refine va_iast hx hb hK.1 hP hD hS 2 0 rfl rfl (i := x6_16) h_19 dB_3_0_36.1.1.2.2 (fun H locs hP hD hS => ?_)
                  obtain ⟨f_25, ef_25⟩ : ∃ g : Nat → Int32, g = upd c_g6_16 x6_16.toNatClampNeg u0_23 := ⟨_, rfl⟩
                  refine pd_K (D := D) (cl := vwCl) (H := H) (A := A) [ob12_0_ mo 0 s1 t2 s3 s4 g5 g6 g7 g8 g9 g10 n11_5 g12 g13 g14 g15 g16 g17 g18 g19 g20 s21 g22 g23 g24 s25 s26 s27 s28 g29 g30 g31 g32 g33, ai_ cy g5 40 f5, ai_ cy g6 40 f_25, ai_ cy g7 40 c_g7_16, ai_ cy g8 40 f8, ai_ cy g9 40 f9, az_ cy g10 40 c_g10_16, ai_ cy g12 30 e12_6, ai_ cy g13 30 e13_7, ai_ cy g14 6000 e14_8] (by rw [ef_25]; exact hP) (by rw [ef_25]; exact hD) (fun hP hD => ?_)
                  have rf_25 : rng f_25 40 (0) (11) := by rw [ef_25]; exact rng_upd rc_g6_16 (by omega) (by omega)
                  refine lv_aload_n hx hb dB_3_0_36.1.2.1.1 rfl (lv_at hl 4 rfl) ?_
                  refine va_get (ci := 12) (v := .ref g7) (C := RX12) (T := TX12) (N := 34) hx hb hts (fun _ h => List.mem_cons_of_mem _ (List.mem_append_right _ h)) hown hK.1 hP 0 rfl rfl 7 (by decide) (hts (.fieldLink RX12 16 "CutAtlasModel" "to" "[I") (List.mem_of_getElem? (i := 5) rfl)) (fun _ h9 => h9) rfl dB_3_0_36.1.2.1.2 ?_
                  refine lv_iload hx hb dB_3_0_36.1.2.2.1 (lv_at hl 0 rfl) ?_
                  have JOIN_26 : ∀ (u0_26 : Int32) (H : Heap) (locs : List Loc) (ls : Array Slot), (u0_26.toInt = renI (c_g7_16 x6_16.toNatClampNeg).toInt u0_14.toInt u0_15.toInt ∧ 0 ≤ u0_26.toInt ∧ u0_26.toInt ≤ 11) → pd_2 D vwCl A [ob12_0_ mo 0 s1 t2 s3 s4 g5 g6 g7 g8 g9 g10 n11_5 g12 g13 g14 g15 g16 g17 g18 g19 g20 s21 g22 g23 g24 s25 s26 s27 s28 g29 g30 g31 g32 g33, ai_ cy g5 40 f5, ai_ cy g6 40 f_25, ai_ cy g7 40 c_g7_16, ai_ cy g8 40 f8, ai_ cy g9 40 f9, az_ cy g10 40 c_g10_16, ai_ cy g12 30 e12_6, ai_ cy g13 30 e13_7, ai_ cy g14 6000 e14_8] H → va_S A s.heap H locs → lv_has ls 7 [(6, .int x6_16), (5, .int x5_16), (4, .int u0_15), (3, .int u0_14), (0, .ref mo), (1, .int a1), (2, .int a2)] → W p l e ({ frames := 3, cells := 0, slots := 0, locals := 68 } : Room) s m (([.ref mo, .int a1, .int a2] : List Value).toArray) below meth c H locs 0 0 Q (F0 m 175 ls [.int u0_26, .int x6_16, .ref g7]) := by
                    intro u0_26 H locs ls v0_26 hPD hS hl; obtain ⟨hP, hD⟩ := hPD
                    refine va_iast hx hb hK.1 hP hD hS 3 0 rfl rfl (i := x6_16) h_19 dB_3_0_38.1.1.1.1 (fun H locs hP hD hS => ?_)
                    obtain ⟨f_28, ef_28⟩ : ∃ g : Nat → Int32, g = upd c_g7_16 x6_16.toNatClampNeg u0_26 := ⟨_, rfl⟩
                    refine pd_K (D := D) (cl := vwCl) (H := H) (A := A) [ob12_0_ mo 0 s1 t2 s3 s4 g5 g6 g7 g8 g9 g10 n11_5 g12 g13 g14 g15 g16 g17 g18 g19 g20 s21 g22 g23 g24 s25 s26 s27 s28 g29 g30 g31 g32 g33, ai_ cy g5 40 f5, ai_ cy g6 40 f_25, ai_ cy g7 40 f_28, ai_ cy g8 40 f8, ai_ cy g9 40 f9, az_ cy g10 40 c_g10_16, ai_ cy g12 30 e12_6, ai_ cy g13 30 e13_7, ai_ cy g14 6000 e14_8] (by rw [ef_28]; exact hP) (by rw [ef_28]; exact hD) (fun hP hD => ?_)
                    have rf_28 : rng f_28 40 (0) (11) := by rw [ef_28]; exact rng_upd rc_g7_16 (by omega) (by omega)
                    refine lv_aload_n hx hb dB_3_0_38.1.1.1.2 rfl (lv_at hl 4 rfl) ?_
                    refine va_get (ci := 12) (v := .ref g10) (C := RX12) (T := TX12) (N := 34) hx hb hts (fun _ h => List.mem_cons_of_mem _ (List.mem_append_right _ h)) hown hK.1 hP 0 rfl rfl 10 (by decide) (hts (.fieldLink RX12 25 "CutAtlasModel" "isMissing" "[Z") (List.mem_of_getElem? (i := 3) rfl)) (fun _ h9 => h9) rfl dB_3_0_38.1.1.2.1 ?_
                    refine lv_iload hx hb dB_3_0_38.1.1.2.2 (lv_at hl 0 rfl) ?_
                    have k6_ : (f_25 x6_16.toNatClampNeg).toInt = u0_23.toInt := by rw [ef_25, pk_us]
                    have k7_ : (f_28 x6_16.toNatClampNeg).toInt = u0_26.toInt := by rw [ef_28, pk_us]
                    have JOIN_29 : ∀ (u0_29 : Int32) (H : Heap) (locs : List Loc) (ls : Array Slot), (u0_29.toInt = if u0_23.toInt = u0_26.toInt then 1 else 0) → pd_2 D vwCl A [ob12_0_ mo 0 s1 t2 s3 s4 g5 g6 g7 g8 g9 g10 n11_5 g12 g13 g14 g15 g16 g17 g18 g19 g20 s21 g22 g23 g24 s25 s26 s27 s28 g29 g30 g31 g32 g33, ai_ cy g5 40 f5, ai_ cy g6 40 f_25, ai_ cy g7 40 f_28, ai_ cy g8 40 f8, ai_ cy g9 40 f9, az_ cy g10 40 c_g10_16, ai_ cy g12 30 e12_6, ai_ cy g13 30 e13_7, ai_ cy g14 6000 e14_8] H → va_S A s.heap H locs → lv_has ls 7 [(6, .int x6_16), (5, .int x5_16), (4, .int u0_15), (3, .int u0_14), (0, .ref mo), (1, .int a1), (2, .int a2)] → W p l e ({ frames := 3, cells := 0, slots := 0, locals := 68 } : Room) s m (([.ref mo, .int a1, .int a2] : List Value).toArray) below meth c H locs 0 0 Q (F0 m 204 ls [.int u0_29, .int x6_16, .ref g10]) := by
                      intro u0_29 H locs ls v0_29 hPD hS hl; obtain ⟨hP, hD⟩ := hPD
                      refine va_zast hx hb hK.1 hP hD hS 6 2 rfl rfl (i := x6_16) h_19 dB_3_0_39.1.1.1.1 (fun H locs hP hD hS => ?_)
                      obtain ⟨f_31, ef_31⟩ : ∃ g : Nat → Int32, g = upd c_g10_16 x6_16.toNatClampNeg (vp_nar .boolean u0_29) := ⟨_, rfl⟩
                      refine pd_K (D := D) (cl := vwCl) (H := H) (A := A) [ob12_0_ mo 0 s1 t2 s3 s4 g5 g6 g7 g8 g9 g10 n11_5 g12 g13 g14 g15 g16 g17 g18 g19 g20 s21 g22 g23 g24 s25 s26 s27 s28 g29 g30 g31 g32 g33, ai_ cy g5 40 f5, ai_ cy g6 40 f_25, ai_ cy g7 40 f_28, ai_ cy g8 40 f8, ai_ cy g9 40 f9, az_ cy g10 40 f_31, ai_ cy g12 30 e12_6, ai_ cy g13 30 e13_7, ai_ cy g14 6000 e14_8] (by rw [ef_31]; exact hP) (by rw [ef_31]; exact hD) (fun hP hD => ?_)
                      have hms_ : ∀ n2 : Int32, n2.toInt = x6_16.toInt + 1 → mrgd u0_14.toInt u0_15.toInt f6 f7 f10 f_25 f_28 f_31 n2.toInt := fun n2 e2 => mrgd_st v2_16 (by omega) e2 hms0_ ef_25 ef_28 ef_31 v0_23.1 v0_26.1 (nar_if v0_29)
                      have hmf_ := mgF_st v2_16 (by omega) hms0_ v0_23.1 v0_26.1
                      have hg_ : (f_31 x6_16.toNatClampNeg).toInt = mgF u0_14.toInt u0_15.toInt f6 f7 f10 x6_16.toNatClampNeg := by rw [ef_31, pk_us, nar_if v0_29, hmf_]
                      have hm01_ := mgF_01 (low := u0_14.toInt) (high := u0_15.toInt) (f6 := f6) (f7 := f7) (f10 := f10) (j := x6_16.toNatClampNeg)
                      refine lv_iload hx hb dB_3_0_39.1.1.1.2 (lv_at hl 1 rfl) ?_
                      have JOIN_32 : ∀ (u0_32 : Int32) (H : Heap) (locs : List Loc) (ls : Array Slot), (u0_32.toInt = mgF u0_14.toInt u0_15.toInt f6 f7 f10 x6_16.toNatClampNeg) → (0 ≤ u0_32.toInt ∧ u0_32.toInt ≤ 1) → pd_2 D vwCl A [ob12_0_ mo 0 s1 t2 s3 s4 g5 g6 g7 g8 g9 g10 n11_5 g12 g13 g14 g15 g16 g17 g18 g19 g20 s21 g22 g23 g24 s25 s26 s27 s28 g29 g30 g31 g32 g33, ai_ cy g5 40 f5, ai_ cy g6 40 f_25, ai_ cy g7 40 f_28, ai_ cy g8 40 f8, ai_ cy g9 40 f9, az_ cy g10 40 f_31, ai_ cy g12 30 e12_6, ai_ cy g13 30 e13_7, ai_ cy g14 6000 e14_8] H → va_S A s.heap H locs → lv_has ls 7 [(6, .int x6_16), (5, .int x5_16), (4, .int u0_15), (3, .int u0_14), (0, .ref mo), (1, .int a1), (2, .int a2)] → W p l e ({ frames := 3, cells := 0, slots := 0, locals := 68 } : Room) s m (([.ref mo, .int a1, .int a2] : List Value).toArray) below meth c H locs 0 0 Q (F0 m 222 ls [.int u0_32, .int x5_16]) := by
                        intro u0_32 H locs ls v0_32 v1_32 hPD hS hl; obtain ⟨hP, hD⟩ := hPD
                        have hmf_ := v0_32.symm
                        refine lv_iadd hx hb dB_3_0_39.2.1.2.1 ?_
                        refine lv_topi (fun y_33 ey_33 => ?_)
                        have ty_33 : y_33.toInt = x5_16.toInt + u0_32.toInt := by rw [ey_33]; exact addI (by omega) (by omega)
                        refine lv_istore (lv' := [(5, .int y_33), (6, .int x6_16), (4, .int u0_15), (3, .int u0_14), (0, .ref mo), (1, .int a1), (2, .int a2)]) hx hb dB_3_0_39.2.1.2.2 hl (by decide) rfl (fun ls hl => ?_)
                        obtain ⟨y_34, ey_34⟩ : ∃ y : Int32, y = x6_16 + 1 := ⟨_, rfl⟩
                        have ty_34 : y_34.toInt = x6_16.toInt + (1 : Int32).toInt := by rw [ey_34]; exact addI (by omega) (by omega)
                        refine lv_iinc (v := y_34) (lv' := [(6, .int y_34), (5, .int y_33), (4, .int u0_15), (3, .int u0_14), (0, .ref mo), (1, .int a1), (2, .int a2)]) hx hb dB_3_0_39.2.2.1.1 hl (k := 1) rfl (by rw [ey_34]; rfl) (by decide) rfl (fun ls hl => ?_)
                        refine lv_goto (tgt := 49) hx hb dB_3_0_39.2.2.1.2 (by decide) ?_
                        exact ih_16 y_34 y_33 f_25 f_28 f_31 _ _ _ (by omega) (by first | with_reducible assumption | omega | assumption) (by first | with_reducible assumption | omega | assumption) (by first | exact mrgd_0 | exact hms_ y_34 (by omega) | exact mrgd_skip v2_16 (by omega) (by omega) (by omega)) (by first | with_reducible assumption | omega | assumption) (by first | exact sum_0 | exact cnt_st v4_16 (by rw [hmf_]; omega) (by omega) (by omega) | exact cnt_st v4_16 (by rw [mgF_skip v2_16 (by omega) (by omega)]; omega) (by omega) (by omega)) (by first | with_reducible assumption | assumption | exact rng_zero (by omega) (by omega) | exact orng_zero) (by first | with_reducible assumption | assumption | exact rng_zero (by omega) (by omega) | exact orng_zero) ⟨hP, hD⟩ hS (lv_sub hl [0, 1, 2, 3, 4, 5, 6] rfl)
                      refine lv_aload_n hx hb dB_3_0_39.1.1.2.1 rfl (lv_at hl 4 rfl) ?_
                      refine va_get (ci := 12) (v := .ref g10) (C := RX12) (T := TX12) (N := 34) hx hb hts (fun _ h => List.mem_cons_of_mem _ (List.mem_append_right _ h)) hown hK.1 hP 0 rfl rfl 10 (by decide) (hts (.fieldLink RX12 25 "CutAtlasModel" "isMissing" "[Z") (List.mem_of_getElem? (i := 3) rfl)) (fun _ h9 => h9) rfl dB_3_0_39.1.1.2.2 ?_
                      refine lv_iload hx hb dB_3_0_39.1.2.1.1 (lv_at hl 0 rfl) ?_
                      refine va_zald hx hb hK.1 hP 6 2 rfl rfl (i := x6_16) h_19 dB_3_0_39.1.2.1.2 ?_
                      refine lv_topi (fun y_36 ey_36 => ?_)
                      have ky_36 : y_36.toInt = (f_31 x6_16.toNatClampNeg).toInt := by rw [ey_36]
                      refine lv_if_eq (tgt := 221) hx hb dB_3_0_39.1.2.2.1 (by decide) (fun c_37 => ?_) (fun c_37 => ?_)
                      · have t_37 : y_36.toInt = (0 : Int32).toInt := congrArg Int32.toInt c_37
                        refine lv_iconst (v := 0) hx hb dB_3_0_39.2.1.1.2 (by decide) ?_
                        exact JOIN_32 (0 : Int32) _ _ _ (by first | with_reducible assumption | omega | assumption) (by first | with_reducible assumption | omega | assumption) ⟨hP, hD⟩ hS (lv_sub hl [0, 1, 2, 3, 4, 5, 6] rfl)
                      · have t_37 : ¬ y_36.toInt = (0 : Int32).toInt := fun h => c_37 (Int32.toInt_inj.mp h)
                        refine lv_iconst (v := 1) hx hb dB_3_0_39.1.2.2.2 (by decide) ?_
                        refine lv_goto (tgt := 222) hx hb dB_3_0_39.2.1.1.1 (by decide) ?_
                        exact JOIN_32 (1 : Int32) _ _ _ (by first | with_reducible assumption | omega | assumption) (by first | with_reducible assumption | omega | assumption) ⟨hP, hD⟩ hS (lv_sub hl [0, 1, 2, 3, 4, 5, 6] rfl)
                    refine lv_aload_n hx hb dB_3_0_38.1.2.1.1 rfl (lv_at hl 4 rfl) ?_
                    refine va_get (ci := 12) (v := .ref g6) (C := RX12) (T := TX12) (N := 34) hx hb hts (fun _ h => List.mem_cons_of_mem _ (List.mem_append_right _ h)) hown hK.1 hP 0 rfl rfl 6 (by decide) (hts (.fieldLink RX12 13 "CutAtlasModel" "from" "[I") (List.mem_of_getElem? (i := 4) rfl)) (fun _ h9 => h9) rfl dB_3_0_38.1.2.1.2 ?_
                    refine lv_iload hx hb dB_3_0_38.1.2.2.1 (lv_at hl 0 rfl) ?_
                    refine va_iald hx hb hK.1 hP 2 0 rfl rfl (i := x6_16) h_19 dB_3_0_38.1.2.2.2 ?_
                    refine lv_topi (fun y_39 ey_39 => ?_)
                    have ky_39 : y_39.toInt = (f_25 x6_16.toNatClampNeg).toInt := by rw [ey_39]
                    have ry_39 : 0 ≤ y_39.toInt ∧ y_39.toInt ≤ 11 := by rw [ey_39]; exact rf_25 _ (in_lt h_19)
                    refine lv_aload_n hx hb dB_3_0_38.2.1.1.1 rfl (lv_at hl 4 rfl) ?_
                    refine va_get (ci := 12) (v := .ref g7) (C := RX12) (T := TX12) (N := 34) hx hb hts (fun _ h => List.mem_cons_of_mem _ (List.mem_append_right _ h)) hown hK.1 hP 0 rfl rfl 7 (by decide) (hts (.fieldLink RX12 16 "CutAtlasModel" "to" "[I") (List.mem_of_getElem? (i := 5) rfl)) (fun _ h9 => h9) rfl dB_3_0_38.2.1.1.2 ?_
                    refine lv_iload hx hb dB_3_0_38.2.1.2.1 (lv_at hl 0 rfl) ?_
                    refine va_iald hx hb hK.1 hP 3 0 rfl rfl (i := x6_16) h_19 dB_3_0_38.2.1.2.2 ?_
                    refine lv_topi (fun y_41 ey_41 => ?_)
                    have ky_41 : y_41.toInt = (f_28 x6_16.toNatClampNeg).toInt := by rw [ey_41]
                    have ry_41 : 0 ≤ y_41.toInt ∧ y_41.toInt ≤ 11 := by rw [ey_41]; exact rf_28 _ (in_lt h_19)
                    refine lv_icmp_ne (tgt := 203) hx hb dB_3_0_38.2.2.1.1 (by decide) (fun c_42 => ?_) (fun c_42 => ?_)
                    · have t_42 : ¬ y_39.toInt = y_41.toInt := fun h => c_42 (Int32.toInt_inj.mp h)
                      refine lv_iconst (v := 0) hx hb dB_3_0_38.2.2.2.2 (by decide) ?_
                      exact JOIN_29 (0 : Int32) _ _ _ (by first | (rw [if_pos (by omega)]; decide) | (rw [if_neg (by omega)]; decide)) ⟨hP, hD⟩ hS (lv_sub hl [0, 1, 2, 3, 4, 5, 6] rfl)
                    · have t_42 : y_39.toInt = y_41.toInt := congrArg Int32.toInt c_42
                      refine lv_iconst (v := 1) hx hb dB_3_0_38.2.2.1.2 (by decide) ?_
                      refine lv_goto (tgt := 204) hx hb dB_3_0_38.2.2.2.1 (by decide) ?_
                      exact JOIN_29 (1 : Int32) _ _ _ (by first | (rw [if_pos (by omega)]; decide) | (rw [if_neg (by omega)]; decide)) ⟨hP, hD⟩ hS (lv_sub hl [0, 1, 2, 3, 4, 5, 6] rfl)
                  refine lv_aload_n hx hb dB_3_0_36.1.2.2.2 rfl (lv_at hl 4 rfl) ?_
                  refine va_get (ci := 12) (v := .ref g7) (C := RX12) (T := TX12) (N := 34) hx hb hts (fun _ h => List.mem_cons_of_mem _ (List.mem_append_right _ h)) hown hK.1 hP 0 rfl rfl 7 (by decide) (hts (.fieldLink RX12 16 "CutAtlasModel" "to" "[I") (List.mem_of_getElem? (i := 5) rfl)) (fun _ h9 => h9) rfl dB_3_0_36.2.1.1.1 ?_
                  refine lv_iload hx hb dB_3_0_36.2.1.1.2 (lv_at hl 0 rfl) ?_
                  refine va_iald hx hb hK.1 hP 3 0 rfl rfl (i := x6_16) h_19 dB_3_0_36.2.1.2.1 ?_
                  refine lv_topi (fun y_44 ey_44 => ?_)
                  have ky_44 : y_44.toInt = (c_g7_16 x6_16.toNatClampNeg).toInt := by rw [ey_44]
                  have ry_44 : 0 ≤ y_44.toInt ∧ y_44.toInt ≤ 11 := by rw [ey_44]; exact rc_g7_16 _ (in_lt h_19)
                  refine lv_iload hx hb dB_3_0_36.2.1.2.2 (lv_at hl 2 rfl) ?_
                  refine lv_icmp_ne (tgt := 144) hx hb dB_3_0_36.2.2.1.1 (by decide) (fun c_45 => ?_) (fun c_45 => ?_)
                  · have t_45 : ¬ y_44.toInt = u0_15.toInt := fun h => c_45 (Int32.toInt_inj.mp h)
                    refine lv_aload_n hx hb dB_3_0_36.2.2.2.2 rfl (lv_at hl 4 rfl) ?_
                    refine va_get (ci := 12) (v := .ref g7) (C := RX12) (T := TX12) (N := 34) hx hb hts (fun _ h => List.mem_cons_of_mem _ (List.mem_append_right _ h)) hown hK.1 hP 0 rfl rfl 7 (by decide) (hts (.fieldLink RX12 16 "CutAtlasModel" "to" "[I") (List.mem_of_getElem? (i := 5) rfl)) (fun _ h9 => h9) rfl dB_3_0_37.1.1.1.1 ?_
                    refine lv_iload hx hb dB_3_0_37.1.1.1.2 (lv_at hl 0 rfl) ?_
                    refine va_iald hx hb hK.1 hP 3 0 rfl rfl (i := x6_16) h_19 dB_3_0_37.1.1.2.1 ?_
                    refine lv_topi (fun y_47 ey_47 => ?_)
                    have e_ := (ey_47.trans ey_44.symm).symm
                    subst e_
                    skip
                    refine lv_iload hx hb dB_3_0_37.1.1.2.2 (lv_at hl 2 rfl) ?_
                    refine lv_icmp_le (tgt := 168) hx hb dB_3_0_37.1.2.1.1 (by decide) (fun c_48 => ?_) (fun c_48 => ?_)
                    · have t_48 : y_44.toInt ≤ u0_15.toInt := Int32.le_iff_toInt_le.mp c_48
                      refine lv_aload_n hx hb dB_3_0_37.2.2.1.1 rfl (lv_at hl 4 rfl) ?_
                      refine va_get (ci := 12) (v := .ref g7) (C := RX12) (T := TX12) (N := 34) hx hb hts (fun _ h => List.mem_cons_of_mem _ (List.mem_append_right _ h)) hown hK.1 hP 0 rfl rfl 7 (by decide) (hts (.fieldLink RX12 16 "CutAtlasModel" "to" "[I") (List.mem_of_getElem? (i := 5) rfl)) (fun _ h9 => h9) rfl dB_3_0_37.2.2.1.2 ?_
                      refine lv_iload hx hb dB_3_0_37.2.2.2.1 (lv_at hl 0 rfl) ?_
                      refine va_iald hx hb hK.1 hP 3 0 rfl rfl (i := x6_16) h_19 dB_3_0_37.2.2.2.2 ?_
                      refine lv_topi (fun y_50 ey_50 => ?_)
                      have e_ := (ey_50.trans ey_44.symm).symm
                      subst e_
                      skip
                      exact JOIN_26 y_44 _ _ _ (by unfold renI; (repeat' split) <;> omega) ⟨hP, hD⟩ hS (lv_sub hl [0, 1, 2, 3, 4, 5, 6] rfl)
                    · have t_48 : ¬ y_44.toInt ≤ u0_15.toInt := fun h => c_48 (Int32.le_iff_toInt_le.mpr h)
                      refine lv_aload_n hx hb dB_3_0_37.1.2.1.2 rfl (lv_at hl 4 rfl) ?_
                      refine va_get (ci := 12) (v := .ref g7) (C := RX12) (T := TX12) (N := 34) hx hb hts (fun _ h => List.mem_cons_of_mem _ (List.mem_append_right _ h)) hown hK.1 hP 0 rfl rfl 7 (by decide) (hts (.fieldLink RX12 16 "CutAtlasModel" "to" "[I") (List.mem_of_getElem? (i := 5) rfl)) (fun _ h9 => h9) rfl dB_3_0_37.1.2.2.1 ?_
                      refine lv_iload hx hb dB_3_0_37.1.2.2.2 (lv_at hl 0 rfl) ?_
                      refine va_iald hx hb hK.1 hP 3 0 rfl rfl (i := x6_16) h_19 dB_3_0_37.2.1.1.1 ?_
                      refine lv_topi (fun y_52 ey_52 => ?_)
                      have e_ := (ey_52.trans ey_44.symm).symm
                      subst e_
                      skip
                      refine lv_iconst (v := 1) hx hb dB_3_0_37.2.1.1.2 (by decide) ?_
                      refine lv_isub hx hb dB_3_0_37.2.1.2.1 ?_
                      refine lv_topi (fun y_53 ey_53 => ?_)
                      have ty_53 : y_53.toInt = y_44.toInt - (1 : Int32).toInt := by rw [ey_53]; exact subI (by omega) (by omega)
                      refine lv_goto (tgt := 175) hx hb dB_3_0_37.2.1.2.2 (by decide) ?_
                      exact JOIN_26 y_53 _ _ _ (by unfold renI; (repeat' split) <;> omega) ⟨hP, hD⟩ hS (lv_sub hl [0, 1, 2, 3, 4, 5, 6] rfl)
                  · have t_45 : y_44.toInt = u0_15.toInt := congrArg Int32.toInt c_45
                    refine lv_iload_n hx hb dB_3_0_36.2.2.1.2 rfl (lv_at hl 3 rfl) ?_
                    refine lv_goto (tgt := 175) hx hb dB_3_0_36.2.2.2.1 (by decide) ?_
                    exact JOIN_26 u0_14 _ _ _ (by unfold renI; (repeat' split) <;> omega) ⟨hP, hD⟩ hS (lv_sub hl [0, 1, 2, 3, 4, 5, 6] rfl)
                refine lv_aload_n hx hb dB_3_0_34.2.1.2.1 rfl (lv_at hl 4 rfl) ?_
                refine va_get (ci := 12) (v := .ref g6) (C := RX12) (T := TX12) (N := 34) hx hb hts (fun _ h => List.mem_cons_of_mem _ (List.mem_append_right _ h)) hown hK.1 hP 0 rfl rfl 6 (by decide) (hts (.fieldLink RX12 13 "CutAtlasModel" "from" "[I") (List.mem_of_getElem? (i := 4) rfl)) (fun _ h9 => h9) rfl dB_3_0_34.2.1.2.2 ?_
                refine lv_iload hx hb dB_3_0_34.2.2.1.1 (lv_at hl 0 rfl) ?_
                refine va_iald hx hb hK.1 hP 2 0 rfl rfl (i := x6_16) h_19 dB_3_0_34.2.2.1.2 ?_
                refine lv_topi (fun y_55 ey_55 => ?_)
                have ky_55 : y_55.toInt = (c_g6_16 x6_16.toNatClampNeg).toInt := by rw [ey_55]
                have ry_55 : 0 ≤ y_55.toInt ∧ y_55.toInt ≤ 11 := by rw [ey_55]; exact rc_g6_16 _ (in_lt h_19)
                refine lv_iload hx hb dB_3_0_34.2.2.2.1 (lv_at hl 2 rfl) ?_
                refine lv_icmp_ne (tgt := 90) hx hb dB_3_0_34.2.2.2.2 (by decide) (fun c_56 => ?_) (fun c_56 => ?_)
                · have t_56 : ¬ y_55.toInt = u0_15.toInt := fun h => c_56 (Int32.toInt_inj.mp h)
                  refine lv_aload_n hx hb dB_3_0_35.1.1.2.1 rfl (lv_at hl 4 rfl) ?_
                  refine va_get (ci := 12) (v := .ref g6) (C := RX12) (T := TX12) (N := 34) hx hb hts (fun _ h => List.mem_cons_of_mem _ (List.mem_append_right _ h)) hown hK.1 hP 0 rfl rfl 6 (by decide) (hts (.fieldLink RX12 13 "CutAtlasModel" "from" "[I") (List.mem_of_getElem? (i := 4) rfl)) (fun _ h9 => h9) rfl dB_3_0_35.1.1.2.2 ?_
                  refine lv_iload hx hb dB_3_0_35.1.2.1.1 (lv_at hl 0 rfl) ?_
                  refine va_iald hx hb hK.1 hP 2 0 rfl rfl (i := x6_16) h_19 dB_3_0_35.1.2.1.2 ?_
                  refine lv_topi (fun y_58 ey_58 => ?_)
                  have e_ := (ey_58.trans ey_55.symm).symm
                  subst e_
                  skip
                  refine lv_iload hx hb dB_3_0_35.1.2.2.1 (lv_at hl 2 rfl) ?_
                  refine lv_icmp_le (tgt := 114) hx hb dB_3_0_35.1.2.2.2 (by decide) (fun c_59 => ?_) (fun c_59 => ?_)
                  · have t_59 : y_55.toInt ≤ u0_15.toInt := Int32.le_iff_toInt_le.mp c_59
                    refine lv_aload_n hx hb dB_3_0_35.2.2.2.2 rfl (lv_at hl 4 rfl) ?_
                    refine va_get (ci := 12) (v := .ref g6) (C := RX12) (T := TX12) (N := 34) hx hb hts (fun _ h => List.mem_cons_of_mem _ (List.mem_append_right _ h)) hown hK.1 hP 0 rfl rfl 6 (by decide) (hts (.fieldLink RX12 13 "CutAtlasModel" "from" "[I") (List.mem_of_getElem? (i := 4) rfl)) (fun _ h9 => h9) rfl dB_3_0_36.1.1.1.1 ?_
                    refine lv_iload hx hb dB_3_0_36.1.1.1.2 (lv_at hl 0 rfl) ?_
                    refine va_iald hx hb hK.1 hP 2 0 rfl rfl (i := x6_16) h_19 dB_3_0_36.1.1.2.1 ?_
                    refine lv_topi (fun y_61 ey_61 => ?_)
                    have e_ := (ey_61.trans ey_55.symm).symm
                    subst e_
                    skip
                    exact JOIN_23 y_55 _ _ _ (by unfold renI; (repeat' split) <;> omega) ⟨hP, hD⟩ hS (lv_sub hl [0, 1, 2, 3, 4, 5, 6] rfl)
                  · have t_59 : ¬ y_55.toInt ≤ u0_15.toInt := fun h => c_59 (Int32.le_iff_toInt_le.mpr h)
                    refine lv_aload_n hx hb dB_3_0_35.2.1.1.1 rfl (lv_at hl 4 rfl) ?_
                    refine va_get (ci := 12) (v := .ref g6) (C := RX12) (T := TX12) (N := 34) hx hb hts (fun _ h => List.mem_cons_of_mem _ (List.mem_append_right _ h)) hown hK.1 hP 0 rfl rfl 6 (by decide) (hts (.fieldLink RX12 13 "CutAtlasModel" "from" "[I") (List.mem_of_getElem? (i := 4) rfl)) (fun _ h9 => h9) rfl dB_3_0_35.2.1.1.2 ?_
                    refine lv_iload hx hb dB_3_0_35.2.1.2.1 (lv_at hl 0 rfl) ?_
                    refine va_iald hx hb hK.1 hP 2 0 rfl rfl (i := x6_16) h_19 dB_3_0_35.2.1.2.2 ?_
                    refine lv_topi (fun y_63 ey_63 => ?_)
                    have e_ := (ey_63.trans ey_55.symm).symm
                    subst e_
                    skip
                    refine lv_iconst (v := 1) hx hb dB_3_0_35.2.2.1.1 (by decide) ?_
                    refine lv_isub hx hb dB_3_0_35.2.2.1.2 ?_
                    refine lv_topi (fun y_64 ey_64 => ?_)
                    have ty_64 : y_64.toInt = y_55.toInt - (1 : Int32).toInt := by rw [ey_64]; exact subI (by omega) (by omega)
                    refine lv_goto (tgt := 121) hx hb dB_3_0_35.2.2.2.1 (by decide) ?_
                    exact JOIN_23 y_64 _ _ _ (by unfold renI; (repeat' split) <;> omega) ⟨hP, hD⟩ hS (lv_sub hl [0, 1, 2, 3, 4, 5, 6] rfl)
                · have t_56 : y_55.toInt = u0_15.toInt := congrArg Int32.toInt c_56
                  refine lv_iload_n hx hb dB_3_0_35.1.1.1.1 rfl (lv_at hl 3 rfl) ?_
                  refine lv_goto (tgt := 121) hx hb dB_3_0_35.1.1.1.2 (by decide) ?_
                  exact JOIN_23 u0_14 _ _ _ (by unfold renI; (repeat' split) <;> omega) ⟨hP, hD⟩ hS (lv_sub hl [0, 1, 2, 3, 4, 5, 6] rfl)
        refine lv_iload_n hx hb dB_3_0_33.1.1.2.2 rfl (lv_at hl 2 rfl) ?_
        refine lv_iload_n hx hb dB_3_0_33.1.2.1.1 rfl (lv_at hl 3 rfl) ?_
        refine lv_icmp_ge (tgt := 40) hx hb dB_3_0_33.1.2.1.2 (by decide) (fun c_65 => ?_) (fun c_65 => ?_)
        · have t_65 : a2.toInt ≤ a1.toInt := Int32.le_iff_toInt_le.mp c_65
          refine lv_iload_n hx hb dB_3_0_33.2.1.1.1 rfl (lv_at hl 2 rfl) ?_
          exact JOIN_15 a1 _ _ _ (by first | with_reducible assumption | assumption | omega) (by first | with_reducible assumption | omega | assumption) ⟨hP, hD⟩ hS (lv_sub hl [0, 1, 2, 3] rfl)
        · have t_65 : ¬ a2.toInt ≤ a1.toInt := fun h => c_65 (Int32.le_iff_toInt_le.mpr h)
          refine lv_iload_n hx hb dB_3_0_33.1.2.2.1 rfl (lv_at hl 3 rfl) ?_
          refine lv_goto (tgt := 41) hx hb dB_3_0_33.1.2.2.2 (by decide) ?_
          exact JOIN_15 a2 _ _ _ (by first | with_reducible assumption | assumption | omega) (by first | with_reducible assumption | omega | assumption) ⟨hP, hD⟩ hS (lv_sub hl [0, 1, 2, 3] rfl)
      refine lv_iload_n hx hb dB_3_0_32.2.2.1.1 rfl (lv_at hl 1 rfl) ?_
      refine lv_iload_n hx hb dB_3_0_32.2.2.1.2 rfl (lv_at hl 2 rfl) ?_
      refine lv_icmp_ge (tgt := 29) hx hb dB_3_0_32.2.2.2.1 (by decide) (fun c_66 => ?_) (fun c_66 => ?_)
      · have t_66 : a2.toInt ≤ a1.toInt := Int32.le_iff_toInt_le.mp c_66
        refine lv_iload_n hx hb dB_3_0_33.1.1.1.2 rfl (lv_at hl 2 rfl) ?_
        exact JOIN_14 a2 _ _ _ (by first | with_reducible assumption | assumption | omega) ⟨hP, hD⟩ hS (lv_sub hl [0, 1, 2] rfl)
      · have t_66 : ¬ a2.toInt ≤ a1.toInt := fun h => c_66 (Int32.le_iff_toInt_le.mpr h)
        refine lv_iload_n hx hb dB_3_0_32.2.2.2.2 rfl (lv_at hl 1 rfl) ?_
        refine lv_goto (tgt := 30) hx hb dB_3_0_33.1.1.1.1 (by decide) ?_
        exact JOIN_14 a1 _ _ _ (by first | with_reducible assumption | assumption | omega) ⟨hP, hD⟩ hS (lv_sub hl [0, 1, 2] rfl)
    · exact absurd c_3 (by decide)
  · have e_ := e_.symm
    subst e_
    refine lv_if_ne (tgt := 16) hx hb dB_3_0_32.1.2.2.2 (by decide) (fun c_67 => ?_) (fun c_67 => ?_)
    · exact absurd c_67 (by decide)
    · have _ := c_67
      refine lv_iconst (v := (-1)) hx hb dB_3_0_32.2.1.1.1 (by decide) ?_
      rw [hQ]
      exact W.iret (v := (-1)) hx hb hr (fun t ht hW => ⟨⟨(-1), (), rfl, (by first | exact ⟨fun h => absurd h (by unfold mgI; (repeat' (first | with_reducible refine if_n (by omega) ?_ | with_reducible refine if_ns (by omega) ?_ | with_reducible refine if_nz (by omega) ?_ | with_reducible exact if_p (by omega) (by omega) | with_reducible exact if_ps (by omega) (by omega) | with_reducible exact if_pz (by omega) (by omega))) <;> omega), fun _ => by decide⟩ | exact ⟨fun _ => hct_, fun h => absurd (by unfold mgI; (repeat' (first | with_reducible refine if_n (by omega) ?_ | with_reducible refine if_ns (by omega) ?_ | with_reducible refine if_nz (by omega) ?_ | with_reducible exact if_p (by omega) (by omega) | with_reducible exact if_ps (by omega) (by omega) | with_reducible exact if_pz (by omega) (by omega))) <;> omega) h⟩), s3, s11, f6, f7, f10, f12, f13, f14, (by first | with_reducible assumption | omega | assumption), (by first | with_reducible assumption | omega | assumption), (by first | exact hne_ _ (by omega) | assumption), (by first | exact hpa_ | assumption), (by first | exact kptd_no (by unfold mgI; (repeat' (first | with_reducible refine if_n (by omega) ?_ | with_reducible refine if_ns (by omega) ?_ | with_reducible refine if_nz (by omega) ?_ | with_reducible exact if_p (by omega) (by omega) | with_reducible exact if_ps (by omega) (by omega) | with_reducible exact if_pz (by omega) (by omega))) <;> omega) | exact kptd_ok (by unfold mgI; (repeat' (first | with_reducible refine if_n (by omega) ?_ | with_reducible refine if_ns (by omega) ?_ | with_reducible refine if_nz (by omega) ?_ | with_reducible exact if_p (by omega) (by omega) | with_reducible exact if_ps (by omega) (by omega) | with_reducible exact if_pz (by omega) (by omega))) <;> omega) hkp_), (by first | exact ⟨fun h => absurd h (by unfold mgI; (repeat' (first | with_reducible refine if_n (by omega) ?_ | with_reducible refine if_ns (by omega) ?_ | with_reducible refine if_nz (by omega) ?_ | with_reducible exact if_p (by omega) (by omega) | with_reducible exact if_ps (by omega) (by omega) | with_reducible exact if_pz (by omega) (by omega))) <;> omega), fun _ => ⟨rfl, rfl, rfl, rfl⟩⟩ | exact ⟨fun _ => ⟨by omega, hmr_⟩, fun h => absurd (by unfold mgI; (repeat' (first | with_reducible refine if_n (by omega) ?_ | with_reducible refine if_ns (by omega) ?_ | with_reducible refine if_nz (by omega) ?_ | with_reducible exact if_p (by omega) (by omega) | with_reducible exact if_ps (by omega) (by omega) | with_reducible exact if_pz (by omega) (by omega))) <;> omega) h⟩), (by first | with_reducible assumption | assumption | exact rng_zero (by omega) (by omega) | omega), (by first | with_reducible assumption | assumption | exact rng_zero (by omega) (by omega) | omega), (by first | with_reducible assumption | assumption | exact rng_zero (by omega) (by omega) | omega), (by first | with_reducible assumption | assumption | exact rng_zero (by omega) (by omega) | omega), (by first | with_reducible assumption | assumption | exact rng_zero (by omega) (by omega) | omega), by rw [ht]; exact hP, hD⟩, hS.F ht⟩) hS.2.2 dB_3_0_32.2.1.1.2
end

section
set_option maxHeartbeats 4000000 in
set_option maxRecDepth 100000 in
theorem c_X12_undo3 (l : Launch) (D : va_G) (cy : Nat → ClassId) (sz : Nat) (mo : Nat) (g5 : Nat) (g6 : Nat) (g7 : Nat) (g8 : Nat) (g9 : Nat) (g10 : Nat) (g12 : Nat) (g13 : Nat) (g14 : Nat) (g15 : Nat) (g16 : Nat) (g17 : Nat) (g18 : Nat) (g19 : Nat) (g20 : Nat) (g22 : Nat) (g23 : Nat) (g24 : Nat) (g29 : Nat) (g30 : Nat) (g31 : Nat) (g32 : Nat) (g33 : Nat) (s0 : Int32) (s1 : Int32) (s3 : Int32) (s4 : Int32) (s11 : Int32) (s21 : Int32) (s25 : Int32) (s26 : Int32) (s27 : Int32) (s28 : Int32) (t2 : Int64) (f5 : Nat → Int32) (f6 : Nat → Int32) (f7 : Nat → Int32) (f8 : Nat → Int32) (f9 : Nat → Int32) (f10 : Nat → Int32) (f12 : Nat → Int32) (f13 : Nat → Int32) (f14 : Nat → Int32) (hN : 0 ≤ s4.toInt ∧ s4.toInt ≤ 40) (hPl : 0 ≤ s3.toInt ∧ s3.toInt ≤ 12) (hU : 0 ≤ s11.toInt ∧ s11.toInt ≤ 30) (hnet : netE s3.toInt s4.toInt f6 f7 f10) (hpast : pastE s11.toInt f12 f13 f14) (r_f6 : rng f6 40 (0) (11)) (r_f7 : rng f7 40 (0) (11)) (r_f8 : rng f8 40 (0) (2000)) (r_f9 : rng f9 40 (0) (100)) (r_f12 : rng f12 30 (0) (12)) (r_f13 : rng f13 30 (0) (40)) (r_f14 : orng f14 6000) : Met l yX12_undo wsX12_undo ({ frames := 0, cells := 0, slots := 0, locals := 0 }) (va_Pc [.ref mo] (fun U => U.heap.size = sz ∧ va_P D vwCl [ob12_0_ mo s0 s1 t2 s3 s4 g5 g6 g7 g8 g9 g10 s11 g12 g13 g14 g15 g16 g17 g18 g19 g20 s21 g22 g23 g24 s25 s26 s27 s28 g29 g30 g31 g32 g33, ai_ cy g5 40 f5, ai_ cy g6 40 f6, ai_ cy g7 40 f7, ai_ cy g8 40 f8, ai_ cy g9 40 f9, az_ cy g10 40 f10, ai_ cy g12 30 f12, ai_ cy g13 30 f13, ai_ cy g14 6000 f14] U.heap ∧ kk_ D cy U ∧ va_D (fun _ => True) [ob12_0_ mo s0 s1 t2 s3 s4 g5 g6 g7 g8 g9 g10 s11 g12 g13 g14 g15 g16 g17 g18 g19 g20 s21 g22 g23 g24 s25 s26 s27 s28 g29 g30 g31 g32 g33, ai_ cy g5 40 f5, ai_ cy g6 40 f6, ai_ cy g7 40 f7, ai_ cy g8 40 f8, ai_ cy g9 40 f9, az_ cy g10 40 f10, ai_ cy g12 30 f12, ai_ cy g13 30 f13, ai_ cy g14 6000 f14])) (va_Qi (fun (r : Int32) (_ : Unit) => (r.toInt = if s11.toInt = 0 then -2 else s11.toInt - 1)) (fun (_ : Unit) (t : State) => ∃ (n3 : Int32), ∃ (n4 : Int32), ∃ (n11 : Int32), ∃ (e5 : Nat → Int32), ∃ (e6 : Nat → Int32), ∃ (e7 : Nat → Int32), ∃ (e8 : Nat → Int32), ∃ (e9 : Nat → Int32), ∃ (e10 : Nat → Int32), (0 ≤ n3.toInt ∧ n3.toInt ≤ 12) ∧ (0 ≤ n4.toInt ∧ n4.toInt ≤ 40) ∧ (0 ≤ n11.toInt ∧ n11.toInt ≤ 30) ∧ (netE n3.toInt n4.toInt e6 e7 e10) ∧ (pastE n11.toInt f12 f13 f14) ∧ ((s11.toInt = 0 → n3 = s3 ∧ n4 = s4 ∧ e5 = f5 ∧ e6 = f6 ∧ e7 = f7 ∧ e8 = f8 ∧ e9 = f9 ∧ e10 = f10 ∧ n11 = s11) ∧ (s11.toInt ≠ 0 → n11.toInt = s11.toInt - 1 ∧ n3 = f12 n11.toNatClampNeg ∧ n4 = f13 n11.toNatClampNeg ∧ ∀ j : Nat, j < 40 → back f14 (200 * n11.toNatClampNeg) e5 e6 e7 e8 e9 e10 j)) ∧ (rng e6 40 (0) (11)) ∧ (rng e7 40 (0) (11)) ∧ (rng e8 40 (0) (2000)) ∧ (rng e9 40 (0) (100)) ∧ va_P D vwCl [ob12_0_ mo 0 s1 t2 n3 n4 g5 g6 g7 g8 g9 g10 n11 g12 g13 g14 g15 g16 g17 g18 g19 g20 s21 g22 g23 g24 s25 s26 s27 s28 g29 g30 g31 g32 g33, ai_ cy g5 40 e5, ai_ cy g6 40 e6, ai_ cy g7 40 e7, ai_ cy g8 40 e8, ai_ cy g9 40 e9, az_ cy g10 40 e10, ai_ cy g12 30 f12, ai_ cy g13 30 f13, ai_ cy g14 6000 f14] t.heap ∧ va_D (va_A [ob12_0_ mo s0 s1 t2 s3 s4 g5 g6 g7 g8 g9 g10 s11 g12 g13 g14 g15 g16 g17 g18 g19 g20 s21 g22 g23 g24 s25 s26 s27 s28 g29 g30 g31 g32 g33, ai_ cy g5 40 f5, ai_ cy g6 40 f6, ai_ cy g7 40 f7, ai_ cy g8 40 f8, ai_ cy g9 40 f9, az_ cy g10 40 f10, ai_ cy g12 30 f12, ai_ cy g13 30 f13, ai_ cy g14 6000 f14] sz) [ob12_0_ mo 0 s1 t2 n3 n4 g5 g6 g7 g8 g9 g10 n11 g12 g13 g14 g15 g16 g17 g18 g19 g20 s21 g22 g23 g24 s25 s26 s27 s28 g29 g30 g31 g32 g33, ai_ cy g5 40 e5, ai_ cy g6 40 e6, ai_ cy g7 40 e7, ai_ cy g8 40 e8, ai_ cy g9 40 e9, az_ cy g10 40 e10, ai_ cy g12 30 f12, ai_ cy g13 30 f13, ai_ cy g14 6000 f14]) (va_A [ob12_0_ mo s0 s1 t2 s3 s4 g5 g6 g7 g8 g9 g10 s11 g12 g13 g14 g15 g16 g17 g18 g19 g20 s21 g22 g23 g24 s25 s26 s27 s28 g29 g30 g31 g32 g33, ai_ cy g5 40 f5, ai_ cy g6 40 f6, ai_ cy g7 40 f7, ai_ cy g8 40 f8, ai_ cy g9 40 f9, az_ cy g10 40 f10, ai_ cy g12 30 f12, ai_ cy g13 30 f13, ai_ cy g14 6000 f14] sz)) 0 0 (va_A [ob12_0_ mo s0 s1 t2 s3 s4 g5 g6 g7 g8 g9 g10 s11 g12 g13 g14 g15 g16 g17 g18 g19 g20 s21 g22 g23 g24 s25 s26 s27 s28 g29 g30 g31 g32 g33, ai_ cy g5 40 f5, ai_ cy g6 40 f6, ai_ cy g7 40 f7, ai_ cy g8 40 f8, ai_ cy g9 40 f9, az_ cy g10 40 f10, ai_ cy g12 30 f12, ai_ cy g13 30 f13, ai_ cy g14 6000 f14] sz) := by
  refine ofQ (cc := cX12_undo) (maxL := 3) (ret := (some .int)) (by decide) rfl ?_
  intro p e s m args below meth c s₁ Q hQ B hml hv
  obtain ⟨rfl, hsz, hP, hK, hD0⟩ := hv
  have hx := B.exec
  have hb := B.bytes
  have hr := B.returns
  have hts := atoms_spec (ws := wsX12_undo) B.pre
  have hown : s.vm.findClass RX12 = some m.cls := by have h_ := findClass_of_methodNamed B.named; exact h_
  have hlocks := B.notSynchronized
  subst hsz
  have hD := hD0.self (sz := s.heap.size)
  generalize hAe : va_A [ob12_0_ mo s0 s1 t2 s3 s4 g5 g6 g7 g8 g9 g10 s11 g12 g13 g14 g15 g16 g17 g18 g19 g20 s21 g22 g23 g24 s25 s26 s27 s28 g29 g30 g31 g32 g33, ai_ cy g5 40 f5, ai_ cy g6 40 f6, ai_ cy g7 40 f7, ai_ cy g8 40 f8, ai_ cy g9 40 f9, az_ cy g10 40 f10, ai_ cy g12 30 f12, ai_ cy g13 30 f13, ai_ cy g14 6000 f14] s.heap.size = A at hD hQ
  have hA : ∀ q : Nat, s.heap.size ≤ q → A q := fun q h => by rw [← hAe]; exact Or.inr h
  have hS : va_S A s.heap s.heap [] := va_S.rf
  have hl := lv_entry ([.ref mo]) (n := 3) (Nat.le_of_ble_eq_true rfl)
  rw [lg_entry_eq]
  generalize (lg_sl ([.ref mo]) ++ List.replicate (3 - (lg_sl ([.ref mo])).length) Slot.unset).toArray = ls at hl ⊢
  have hl : lv_has ls 3 [(0, .ref mo)] := hl
  have zm2 : ((-2) : Int32).toInt = -2 := by decide
  have z0 : (0 : Int32).toInt = 0 := by decide
  have z1 : (1 : Int32).toInt = 1 := by decide
  have z2 : (2 : Int32).toInt = 2 := by decide
  have z3 : (3 : Int32).toInt = 3 := by decide
  have z4 : (4 : Int32).toInt = 4 := by decide
  have z5 : (5 : Int32).toInt = 5 := by decide
  have z40 : (40 : Int32).toInt = 40 := by decide
  have z200 : (200 : Int32).toInt = 200 := by decide
  have z999 : (999 : Int32).toInt = 999 := by decide
  have z1000 : (1000 : Int32).toInt = 1000 := by decide
  refine lv_aload_n hx hb dB_3_0_51.1.1.1.1 rfl (lv_at hl 0 rfl) ?_
  refine lv_iconst (v := 0) hx hb dB_3_0_51.1.1.1.2 (by decide) ?_
  refine va_put (ci := 12) (v := .int 0) (ty := .int) (C := RX12) (T := TX12) (N := 34) hx hb hts (fun _ h => List.mem_cons_of_mem _ (List.mem_append_right _ h)) tyX12 tyX12_ok nmX12 hown hK.1 hP hD hS 0 rfl rfl 0 (by decide) (hts (.fieldLink RX12 85 "CutAtlasModel" "thrown" "I") (List.mem_of_getElem? (i := 1) rfl)) (fun _ h9 => h9) rfl (by decide +kernel) rfl rfl (Nat.le_of_ble_eq_true rfl) dB_3_0_51.1.1.2.1 (fun H locs hP hD hS => ?_)
  refine pd_K [ob12_0_ mo 0 s1 t2 s3 s4 g5 g6 g7 g8 g9 g10 s11 g12 g13 g14 g15 g16 g17 g18 g19 g20 s21 g22 g23 g24 s25 s26 s27 s28 g29 g30 g31 g32 g33, ai_ cy g5 40 f5, ai_ cy g6 40 f6, ai_ cy g7 40 f7, ai_ cy g8 40 f8, ai_ cy g9 40 f9, az_ cy g10 40 f10, ai_ cy g12 30 f12, ai_ cy g13 30 f13, ai_ cy g14 6000 f14] hP hD (fun hP hD => ?_)
  refine lv_aload_n hx hb dB_3_0_51.1.1.2.2 rfl (lv_at hl 0 rfl) ?_
  refine va_get (ci := 12) (v := .int s11) (C := RX12) (T := TX12) (N := 34) hx hb hts (fun _ h => List.mem_cons_of_mem _ (List.mem_append_right _ h)) hown hK.1 hP 0 rfl rfl 11 (by decide) (hts (.fieldLink RX12 102 "CutAtlasModel" "undone" "I") (List.mem_of_getElem? (i := 2) rfl)) (fun _ h9 => h9) rfl dB_3_0_51.1.2.1.1 ?_
  refine lv_if_ne (tgt := 15) hx hb dB_3_0_51.1.2.1.2 (by decide) (fun c_1 => ?_) (fun c_1 => ?_)
  · have t_1 : ¬ s11.toInt = (0 : Int32).toInt := fun h => c_1 (Int32.toInt_inj.mp h)
    refine lv_aload_n hx hb dB_3_0_51.2.1.1.1 rfl (lv_at hl 0 rfl) ?_
    refine lv_dup hx hb dB_3_0_51.2.1.1.2 rfl ?_
    refine va_get (ci := 12) (v := .int s11) (C := RX12) (T := TX12) (N := 34) hx hb hts (fun _ h => List.mem_cons_of_mem _ (List.mem_append_right _ h)) hown hK.1 hP 0 rfl rfl 11 (by decide) (hts (.fieldLink RX12 102 "CutAtlasModel" "undone" "I") (List.mem_of_getElem? (i := 2) rfl)) (fun _ h9 => h9) rfl dB_3_0_51.2.1.2.1 ?_
    refine lv_iconst (v := 1) hx hb dB_3_0_51.2.1.2.2 (by decide) ?_
    refine lv_isub hx hb dB_3_0_51.2.2.1.1 ?_
    refine lv_topi (fun y_2 ey_2 => ?_)
    have ty_2 : y_2.toInt = s11.toInt - (1 : Int32).toInt := by rw [ey_2]; exact subI (by omega) (by omega)
    refine va_put (ci := 12) (v := .int y_2) (ty := .int) (C := RX12) (T := TX12) (N := 34) hx hb hts (fun _ h => List.mem_cons_of_mem _ (List.mem_append_right _ h)) tyX12 tyX12_ok nmX12 hown hK.1 hP hD hS 0 rfl rfl 11 (by decide) (hts (.fieldLink RX12 102 "CutAtlasModel" "undone" "I") (List.mem_of_getElem? (i := 2) rfl)) (fun _ h9 => h9) rfl (by decide +kernel) rfl rfl (Nat.le_of_ble_eq_true rfl) dB_3_0_51.2.2.1.2 (fun H locs hP hD hS => ?_)
    refine pd_K [ob12_0_ mo 0 s1 t2 s3 s4 g5 g6 g7 g8 g9 g10 y_2 g12 g13 g14 g15 g16 g17 g18 g19 g20 s21 g22 g23 g24 s25 s26 s27 s28 g29 g30 g31 g32 g33, ai_ cy g5 40 f5, ai_ cy g6 40 f6, ai_ cy g7 40 f7, ai_ cy g8 40 f8, ai_ cy g9 40 f9, az_ cy g10 40 f10, ai_ cy g12 30 f12, ai_ cy g13 30 f13, ai_ cy g14 6000 f14] hP hD (fun hP hD => ?_)
    refine lv_aload_n hx hb dB_3_0_51.2.2.2.1 rfl (lv_at hl 0 rfl) ?_
    refine lv_aload_n hx hb dB_3_0_51.2.2.2.2 rfl (lv_at hl 0 rfl) ?_
    refine va_get (ci := 12) (v := .ref g12) (C := RX12) (T := TX12) (N := 34) hx hb hts (fun _ h => List.mem_cons_of_mem _ (List.mem_append_right _ h)) hown hK.1 hP 0 rfl rfl 12 (by decide) (hts (.fieldLink RX12 29 "CutAtlasModel" "oldPlaces" "[I") (List.mem_of_getElem? (i := 3) rfl)) (fun _ h9 => h9) rfl dB_3_0_52.1.1.1.1 ?_
    refine lv_aload_n hx hb dB_3_0_52.1.1.1.2 rfl (lv_at hl 0 rfl) ?_
    refine va_get (ci := 12) (v := .int y_2) (C := RX12) (T := TX12) (N := 34) hx hb hts (fun _ h => List.mem_cons_of_mem _ (List.mem_append_right _ h)) hown hK.1 hP 0 rfl rfl 11 (by decide) (hts (.fieldLink RX12 102 "CutAtlasModel" "undone" "I") (List.mem_of_getElem? (i := 2) rfl)) (fun _ h9 => h9) rfl dB_3_0_52.1.1.2.1 ?_
    have h_3 : vp_in y_2 30 := in_I (by first | with_reducible assumption | omega) (by omega)
    refine va_iald hx hb hK.1 hP 7 0 rfl rfl (i := y_2) h_3 dB_3_0_52.1.1.2.2 ?_
    refine lv_topi (fun y_4 ey_4 => ?_)
    have ky_4 : y_4.toInt = (f12 y_2.toNatClampNeg).toInt := by rw [ey_4]
    have ry_4 : 0 ≤ y_4.toInt ∧ y_4.toInt ≤ 12 := by rw [ey_4]; exact r_f12 _ (in_lt h_3)
    refine va_put (ci := 12) (v := .int y_4) (ty := .int) (C := RX12) (T := TX12) (N := 34) hx hb hts (fun _ h => List.mem_cons_of_mem _ (List.mem_append_right _ h)) tyX12 tyX12_ok nmX12 hown hK.1 hP hD hS 0 rfl rfl 3 (by decide) (hts (.fieldLink RX12 88 "CutAtlasModel" "places" "I") (List.mem_of_getElem? (i := 4) rfl)) (fun _ h9 => h9) rfl (by decide +kernel) rfl rfl (Nat.le_of_ble_eq_true rfl) dB_3_0_52.1.2.1.1 (fun H locs hP hD hS => ?_)
    refine pd_K [ob12_0_ mo 0 s1 t2 y_4 s4 g5 g6 g7 g8 g9 g10 y_2 g12 g13 g14 g15 g16 g17 g18 g19 g20 s21 g22 g23 g24 s25 s26 s27 s28 g29 g30 g31 g32 g33, ai_ cy g5 40 f5, ai_ cy g6 40 f6, ai_ cy g7 40 f7, ai_ cy g8 40 f8, ai_ cy g9 40 f9, az_ cy g10 40 f10, ai_ cy g12 30 f12, ai_ cy g13 30 f13, ai_ cy g14 6000 f14] hP hD (fun hP hD => ?_)
    refine lv_aload_n hx hb dB_3_0_52.1.2.1.2 rfl (lv_at hl 0 rfl) ?_
    refine lv_aload_n hx hb dB_3_0_52.1.2.2.1 rfl (lv_at hl 0 rfl) ?_
    refine va_get (ci := 12) (v := .ref g13) (C := RX12) (T := TX12) (N := 34) hx hb hts (fun _ h => List.mem_cons_of_mem _ (List.mem_append_right _ h)) hown hK.1 hP 0 rfl rfl 13 (by decide) (hts (.fieldLink RX12 32 "CutAtlasModel" "oldLines" "[I") (List.mem_of_getElem? (i := 5) rfl)) (fun _ h9 => h9) rfl dB_3_0_52.1.2.2.2 ?_
    refine lv_aload_n hx hb dB_3_0_52.2.1.1.1 rfl (lv_at hl 0 rfl) ?_
    refine va_get (ci := 12) (v := .int y_2) (C := RX12) (T := TX12) (N := 34) hx hb hts (fun _ h => List.mem_cons_of_mem _ (List.mem_append_right _ h)) hown hK.1 hP 0 rfl rfl 11 (by decide) (hts (.fieldLink RX12 102 "CutAtlasModel" "undone" "I") (List.mem_of_getElem? (i := 2) rfl)) (fun _ h9 => h9) rfl dB_3_0_52.2.1.1.2 ?_
    refine va_iald hx hb hK.1 hP 8 0 rfl rfl (i := y_2) h_3 dB_3_0_52.2.1.2.1 ?_
    refine lv_topi (fun y_6 ey_6 => ?_)
    have ky_6 : y_6.toInt = (f13 y_2.toNatClampNeg).toInt := by rw [ey_6]
    have ry_6 : 0 ≤ y_6.toInt ∧ y_6.toInt ≤ 40 := by rw [ey_6]; exact r_f13 _ (in_lt h_3)
    refine va_put (ci := 12) (v := .int y_6) (ty := .int) (C := RX12) (T := TX12) (N := 34) hx hb hts (fun _ h => List.mem_cons_of_mem _ (List.mem_append_right _ h)) tyX12 tyX12_ok nmX12 hown hK.1 hP hD hS 0 rfl rfl 4 (by decide) (hts (.fieldLink RX12 95 "CutAtlasModel" "lines" "I") (List.mem_of_getElem? (i := 6) rfl)) (fun _ h9 => h9) rfl (by decide +kernel) rfl rfl (Nat.le_of_ble_eq_true rfl) dB_3_0_52.2.1.2.2 (fun H locs hP hD hS => ?_)
    refine pd_K [ob12_0_ mo 0 s1 t2 y_4 y_6 g5 g6 g7 g8 g9 g10 y_2 g12 g13 g14 g15 g16 g17 g18 g19 g20 s21 g22 g23 g24 s25 s26 s27 s28 g29 g30 g31 g32 g33, ai_ cy g5 40 f5, ai_ cy g6 40 f6, ai_ cy g7 40 f7, ai_ cy g8 40 f8, ai_ cy g9 40 f9, az_ cy g10 40 f10, ai_ cy g12 30 f12, ai_ cy g13 30 f13, ai_ cy g14 6000 f14] hP hD (fun hP hD => ?_)
    refine lv_iconst (v := 0) hx hb dB_3_0_52.2.2.1.1 (by decide) ?_
    refine lv_istore_n (lv' := [(1, .int 0), (0, .ref mo)]) hx hb dB_3_0_52.2.2.1.2 rfl hl (by decide) rfl (fun ls hl => ?_)
    suffices LOOP_7 : ∀ (n_7 : Nat) (x1_7 : Int32) (c_g5_7 : Nat → Int32) (c_g6_7 : Nat → Int32) (c_g7_7 : Nat → Int32) (c_g8_7 : Nat → Int32) (c_g9_7 : Nat → Int32) (c_g10_7 : Nat → Int32) (H : Heap) (locs : List Loc) (ls : Array Slot), 40 - x1_7.toInt < (n_7 : Int) → (0 ≤ x1_7.toInt) → (x1_7.toInt ≤ 40) → (∀ j : Nat, (j : Int) < x1_7.toInt → back f14 (200 * y_2.toNatClampNeg) c_g5_7 c_g6_7 c_g7_7 c_g8_7 c_g9_7 c_g10_7 j) → (rng c_g6_7 40 (0) (11)) → (rng c_g7_7 40 (0) (11)) → (rng c_g8_7 40 (0) (2000)) → (rng c_g9_7 40 (0) (100)) → pd_2 D vwCl A [ob12_0_ mo 0 s1 t2 y_4 y_6 g5 g6 g7 g8 g9 g10 y_2 g12 g13 g14 g15 g16 g17 g18 g19 g20 s21 g22 g23 g24 s25 s26 s27 s28 g29 g30 g31 g32 g33, ai_ cy g5 40 c_g5_7, ai_ cy g6 40 c_g6_7, ai_ cy g7 40 c_g7_7, ai_ cy g8 40 c_g8_7, ai_ cy g9 40 c_g9_7, az_ cy g10 40 c_g10_7, ai_ cy g12 30 f12, ai_ cy g13 30 f13, ai_ cy g14 6000 f14] H → va_S A s.heap H locs → lv_has ls 3 [(1, .int x1_7), (0, .ref mo)] → W p l e ({ frames := 0, cells := 0, slots := 0, locals := 0 } : Room) s m (([.ref mo] : List Value).toArray) below meth c H locs 0 0 Q (F0 m 53 ls []) from LOOP_7 ((40 - (0 : Int32).toInt).toNat + 1) (0 : Int32) f5 f6 f7 f8 f9 f10 _ _ _ (by omega) (by first | with_reducible assumption | omega | assumption) (by first | with_reducible assumption | omega | assumption) (by first | exact hE_ (0 : Int32) (by omega) | (intro j hj; omega)) (by first | with_reducible assumption | assumption | exact rng_zero (by omega) (by omega) | exact orng_zero) (by first | with_reducible assumption | assumption | exact rng_zero (by omega) (by omega) | exact orng_zero) (by first | with_reducible assumption | assumption | exact rng_zero (by omega) (by omega) | exact orng_zero) (by first | with_reducible assumption | assumption | exact rng_zero (by omega) (by omega) | exact orng_zero) ⟨hP, hD⟩ hS (lv_sub hl [0, 1] rfl)
    intro n_7
    induction n_7 with
    | zero =>
      intro x1_7 c_g5_7 c_g6_7 c_g7_7 c_g8_7 c_g9_7 c_g10_7 H locs ls hm v0_7 v1_7 v2_7 rc_g6_7 rc_g7_7 rc_g8_7 rc_g9_7 hPD hS hl; obtain ⟨hP, hD⟩ := hPD
      exact absurd hm (by omega)
    | succ n_7 ih_7 =>
      intro x1_7 c_g5_7 c_g6_7 c_g7_7 c_g8_7 c_g9_7 c_g10_7 H locs ls hm v0_7 v1_7 v2_7 rc_g6_7 rc_g7_7 rc_g8_7 rc_g9_7 hPD hS hl; obtain ⟨hP, hD⟩ := hPD
      refine lv_iload_n hx hb dB_3_0_52.2.2.2.1 rfl (lv_at hl 0 rfl) ?_
      refine lv_bipush (v := 40) hx hb dB_3_0_52.2.2.2.2 (by decide) ?_
      refine lv_icmp_ge (tgt := 175) hx hb dB_3_0_53.1.1.1.1 (by decide) (fun c_8 => ?_) (fun c_8 => ?_)
      · have t_8 : (40 : Int32).toInt ≤ x1_7.toInt := Int32.le_iff_toInt_le.mp c_8
        have hne_ : netE y_4.toInt y_6.toInt c_g6_7 c_g7_7 c_g10_7 := back_net (u := y_2) (L := x1_7) hpast (by omega) (by omega) ey_4 ey_6 (by omega) v2_7 (by omega)
        have hbk_ : ∀ j : Nat, j < 40 → back f14 (200 * y_2.toNatClampNeg) c_g5_7 c_g6_7 c_g7_7 c_g8_7 c_g9_7 c_g10_7 j := fun j hj => v2_7 j (by omega)
        refine lv_aload_n hx hb dB_3_0_57.2.2.1.2 rfl (lv_at hl 1 rfl) ?_
        refine va_get (ci := 12) (v := .int y_2) (C := RX12) (T := TX12) (N := 34) hx hb hts (fun _ h => List.mem_cons_of_mem _ (List.mem_append_right _ h)) hown hK.1 hP 0 rfl rfl 11 (by decide) (hts (.fieldLink RX12 102 "CutAtlasModel" "undone" "I") (List.mem_of_getElem? (i := 2) rfl)) (fun _ h9 => h9) rfl dB_3_0_57.2.2.2.1 ?_
        rw [hQ]
        exact W.iret (v := y_2) hx hb hr (fun t ht hW => ⟨⟨y_2, (), rfl, (by first | (rw [if_pos (by omega)]; first | decide | omega) | (rw [if_neg (by omega)]; omega)), y_4, y_6, y_2, c_g5_7, c_g6_7, c_g7_7, c_g8_7, c_g9_7, c_g10_7, (by first | with_reducible assumption | omega | assumption), (by first | with_reducible assumption | omega | assumption), (by first | with_reducible assumption | omega | assumption), (by first | exact hne_ | assumption), (by first | with_reducible assumption | assumption | exact past_dn hpast (by omega)), (by first | exact ⟨fun _ => ⟨rfl, rfl, rfl, rfl, rfl, rfl, rfl, rfl, rfl⟩, fun h => absurd (by omega) h⟩ | exact ⟨fun h => absurd h (by omega), fun _ => ⟨by omega, ey_4, ey_6, hbk_⟩⟩), (by first | with_reducible assumption | assumption | exact rng_zero (by omega) (by omega) | omega), (by first | with_reducible assumption | assumption | exact rng_zero (by omega) (by omega) | omega), (by first | with_reducible assumption | assumption | exact rng_zero (by omega) (by omega) | omega), (by first | with_reducible assumption | assumption | exact rng_zero (by omega) (by omega) | omega), by rw [ht]; exact hP, hD⟩, hS.F ht⟩) hS.2.2 dB_3_0_57.2.2.2.2
      · have t_8 : ¬ (40 : Int32).toInt ≤ x1_7.toInt := fun h => c_8 (Int32.le_iff_toInt_le.mpr h)
        refine lv_sipush (v := 200) hx hb dB_3_0_53.1.1.1.2 (by decide) ?_
        refine lv_aload_n hx hb dB_3_0_53.1.1.2.1 rfl (lv_at hl 1 rfl) ?_
        refine va_get (ci := 12) (v := .int y_2) (C := RX12) (T := TX12) (N := 34) hx hb hts (fun _ h => List.mem_cons_of_mem _ (List.mem_append_right _ h)) hown hK.1 hP 0 rfl rfl 11 (by decide) (hts (.fieldLink RX12 102 "CutAtlasModel" "undone" "I") (List.mem_of_getElem? (i := 2) rfl)) (fun _ h9 => h9) rfl dB_3_0_53.1.1.2.2 ?_
        refine lv_imul hx hb dB_3_0_53.1.2.1.1 ?_
        refine lv_topi (fun y_9 ey_9 => ?_)
        have ty_9 : y_9.toInt = 200 * y_2.toInt := by rw [ey_9]; exact mulC (by decide) (by omega) (by omega)
        refine lv_iconst (v := 5) hx hb dB_3_0_53.1.2.1.2 (by decide) ?_
        refine lv_iload_n hx hb dB_3_0_53.1.2.2.1 rfl (lv_at hl 0 rfl) ?_
        refine lv_imul hx hb dB_3_0_53.1.2.2.2 ?_
        refine lv_topi (fun y_10 ey_10 => ?_)
        have ty_10 : y_10.toInt = 5 * x1_7.toInt := by rw [ey_10]; exact mulC (by decide) (by omega) (by omega)
        refine lv_iadd hx hb dB_3_0_53.2.1.1.1 ?_
        refine lv_topi (fun y_11 ey_11 => ?_)
        have ty_11 : y_11.toInt = y_9.toInt + y_10.toInt := by rw [ey_11]; exact addI (by omega) (by omega)
        refine lv_istore_n (lv' := [(2, .int y_11), (1, .int x1_7), (0, .ref mo)]) hx hb dB_3_0_53.2.1.1.2 rfl hl (by decide) rfl (fun ls hl => ?_)
        refine lv_aload_n hx hb dB_3_0_53.2.1.2.1 rfl (lv_at hl 2 rfl) ?_
        refine va_get (ci := 12) (v := .ref g5) (C := RX12) (T := TX12) (N := 34) hx hb hts (fun _ h => List.mem_cons_of_mem _ (List.mem_append_right _ h)) hown hK.1 hP 0 rfl rfl 5 (by decide) (hts (.fieldLink RX12 7 "CutAtlasModel" "kind" "[I") (List.mem_of_getElem? (i := 7) rfl)) (fun _ h9 => h9) rfl dB_3_0_53.2.1.2.2 ?_
        refine lv_iload_n hx hb dB_3_0_53.2.2.1.1 rfl (lv_at hl 1 rfl) ?_
        refine lv_aload_n hx hb dB_3_0_53.2.2.1.2 rfl (lv_at hl 2 rfl) ?_
        refine va_get (ci := 12) (v := .ref g14) (C := RX12) (T := TX12) (N := 34) hx hb hts (fun _ h => List.mem_cons_of_mem _ (List.mem_append_right _ h)) hown hK.1 hP 0 rfl rfl 14 (by decide) (hts (.fieldLink RX12 35 "CutAtlasModel" "old" "[I") (List.mem_of_getElem? (i := 8) rfl)) (fun _ h9 => h9) rfl dB_3_0_53.2.2.2.1 ?_
        refine lv_iload_n hx hb dB_3_0_53.2.2.2.2 rfl (lv_at hl 0 rfl) ?_
        have h_12 : vp_in y_11 6000 := in_I (by first | with_reducible assumption | omega) (by omega)
        refine va_iald hx hb hK.1 hP 9 0 rfl rfl (i := y_11) h_12 dB_3_0_54.1.1.1.1 ?_
        refine lv_topi (fun y_13 ey_13 => ?_)
        have ky_13 : y_13.toInt = (f14 y_11.toNatClampNeg).toInt := by rw [ey_13]
        have ry_13 : oc y_11.toNatClampNeg y_13.toInt := by rw [ey_13]; exact r_f14 _ (in_lt h_12)
        unfold oc at ry_13
        have ky_13 := clI (i := y_11) (by omega)
        have h_14 : vp_in x1_7 40 := in_I (by first | with_reducible assumption | omega) (by omega)
        refine va_iast hx hb hK.1 hP hD hS 1 0 rfl rfl (i := x1_7) h_14 dB_3_0_54.1.1.1.2 (fun H locs hP hD hS => ?_)
        obtain ⟨f_15, ef_15⟩ : ∃ g : Nat → Int32, g = upd c_g5_7 x1_7.toNatClampNeg y_13 := ⟨_, rfl⟩
        refine pd_K (D := D) (cl := vwCl) (H := H) (A := A) [ob12_0_ mo 0 s1 t2 y_4 y_6 g5 g6 g7 g8 g9 g10 y_2 g12 g13 g14 g15 g16 g17 g18 g19 g20 s21 g22 g23 g24 s25 s26 s27 s28 g29 g30 g31 g32 g33, ai_ cy g5 40 f_15, ai_ cy g6 40 c_g6_7, ai_ cy g7 40 c_g7_7, ai_ cy g8 40 c_g8_7, ai_ cy g9 40 c_g9_7, az_ cy g10 40 c_g10_7, ai_ cy g12 30 f12, ai_ cy g13 30 f13, ai_ cy g14 6000 f14] (by rw [ef_15]; exact hP) (by rw [ef_15]; exact hD) (fun hP hD => ?_)
        refine lv_aload_n hx hb dB_3_0_54.1.1.2.1 rfl (lv_at hl 2 rfl) ?_
        refine va_get (ci := 12) (v := .ref g6) (C := RX12) (T := TX12) (N := 34) hx hb hts (fun _ h => List.mem_cons_of_mem _ (List.mem_append_right _ h)) hown hK.1 hP 0 rfl rfl 6 (by decide) (hts (.fieldLink RX12 13 "CutAtlasModel" "from" "[I") (List.mem_of_getElem? (i := 9) rfl)) (fun _ h9 => h9) rfl dB_3_0_54.1.1.2.2 ?_
        refine lv_iload_n hx hb dB_3_0_54.1.2.1.1 rfl (lv_at hl 1 rfl) ?_
        refine lv_aload_n hx hb dB_3_0_54.1.2.1.2 rfl (lv_at hl 2 rfl) ?_
        refine va_get (ci := 12) (v := .ref g14) (C := RX12) (T := TX12) (N := 34) hx hb hts (fun _ h => List.mem_cons_of_mem _ (List.mem_append_right _ h)) hown hK.1 hP 0 rfl rfl 14 (by decide) (hts (.fieldLink RX12 35 "CutAtlasModel" "old" "[I") (List.mem_of_getElem? (i := 8) rfl)) (fun _ h9 => h9) rfl dB_3_0_54.1.2.2.1 ?_
        refine lv_iload_n hx hb dB_3_0_54.1.2.2.2 rfl (lv_at hl 0 rfl) ?_
        refine lv_iconst (v := 1) hx hb dB_3_0_54.2.1.1.1 (by decide) ?_
        refine lv_iadd hx hb dB_3_0_54.2.1.1.2 ?_
        refine lv_topi (fun y_16 ey_16 => ?_)
        have ty_16 : y_16.toInt = y_11.toInt + (1 : Int32).toInt := by rw [ey_16]; exact addI (by omega) (by omega)
        have h_17 : vp_in y_16 6000 := in_I (by first | with_reducible assumption | omega) (by omega)
        refine va_iald hx hb hK.1 hP 9 0 rfl rfl (i := y_16) h_17 dB_3_0_54.2.1.2.1 ?_
        refine lv_topi (fun y_18 ey_18 => ?_)
        have ky_18 : y_18.toInt = (f14 y_16.toNatClampNeg).toInt := by rw [ey_18]
        have ry_18 : oc y_16.toNatClampNeg y_18.toInt := by rw [ey_18]; exact r_f14 _ (in_lt h_17)
        unfold oc at ry_18
        have ky_18 := clI (i := y_16) (by omega)
        refine va_iast hx hb hK.1 hP hD hS 2 0 rfl rfl (i := x1_7) h_14 dB_3_0_54.2.1.2.2 (fun H locs hP hD hS => ?_)
        obtain ⟨f_20, ef_20⟩ : ∃ g : Nat → Int32, g = upd c_g6_7 x1_7.toNatClampNeg y_18 := ⟨_, rfl⟩
        refine pd_K (D := D) (cl := vwCl) (H := H) (A := A) [ob12_0_ mo 0 s1 t2 y_4 y_6 g5 g6 g7 g8 g9 g10 y_2 g12 g13 g14 g15 g16 g17 g18 g19 g20 s21 g22 g23 g24 s25 s26 s27 s28 g29 g30 g31 g32 g33, ai_ cy g5 40 f_15, ai_ cy g6 40 f_20, ai_ cy g7 40 c_g7_7, ai_ cy g8 40 c_g8_7, ai_ cy g9 40 c_g9_7, az_ cy g10 40 c_g10_7, ai_ cy g12 30 f12, ai_ cy g13 30 f13, ai_ cy g14 6000 f14] (by rw [ef_20]; exact hP) (by rw [ef_20]; exact hD) (fun hP hD => ?_)
        have rf_20 : rng f_20 40 (0) (11) := by rw [ef_20]; exact rng_upd rc_g6_7 (by omega) (by omega)
        refine lv_aload_n hx hb dB_3_0_54.2.2.1.1 rfl (lv_at hl 2 rfl) ?_
        refine va_get (ci := 12) (v := .ref g7) (C := RX12) (T := TX12) (N := 34) hx hb hts (fun _ h => List.mem_cons_of_mem _ (List.mem_append_right _ h)) hown hK.1 hP 0 rfl rfl 7 (by decide) (hts (.fieldLink RX12 16 "CutAtlasModel" "to" "[I") (List.mem_of_getElem? (i := 10) rfl)) (fun _ h9 => h9) rfl dB_3_0_54.2.2.1.2 ?_
        refine lv_iload_n hx hb dB_3_0_54.2.2.2.1 rfl (lv_at hl 1 rfl) ?_
        refine lv_aload_n hx hb dB_3_0_54.2.2.2.2 rfl (lv_at hl 2 rfl) ?_
        refine va_get (ci := 12) (v := .ref g14) (C := RX12) (T := TX12) (N := 34) hx hb hts (fun _ h => List.mem_cons_of_mem _ (List.mem_append_right _ h)) hown hK.1 hP 0 rfl rfl 14 (by decide) (hts (.fieldLink RX12 35 "CutAtlasModel" "old" "[I") (List.mem_of_getElem? (i := 8) rfl)) (fun _ h9 => h9) rfl dB_3_0_55.1.1.1.1 ?_
        refine lv_iload_n hx hb dB_3_0_55.1.1.1.2 rfl (lv_at hl 0 rfl) ?_
        refine lv_iconst (v := 2) hx hb dB_3_0_55.1.1.2.1 (by decide) ?_
        refine lv_iadd hx hb dB_3_0_55.1.1.2.2 ?_
        refine lv_topi (fun y_21 ey_21 => ?_)
        have ty_21 : y_21.toInt = y_11.toInt + (2 : Int32).toInt := by rw [ey_21]; exact addI (by omega) (by omega)
        have h_22 : vp_in y_21 6000 := in_I (by first | with_reducible assumption | omega) (by omega)
        refine va_iald hx hb hK.1 hP 9 0 rfl rfl (i := y_21) h_22 dB_3_0_55.1.2.1.1 ?_
        refine lv_topi (fun y_23 ey_23 => ?_)
        have ky_23 : y_23.toInt = (f14 y_21.toNatClampNeg).toInt := by rw [ey_23]
        have ry_23 : oc y_21.toNatClampNeg y_23.toInt := by rw [ey_23]; exact r_f14 _ (in_lt h_22)
        unfold oc at ry_23
        have ky_23 := clI (i := y_21) (by omega)
        refine va_iast hx hb hK.1 hP hD hS 3 0 rfl rfl (i := x1_7) h_14 dB_3_0_55.1.2.1.2 (fun H locs hP hD hS => ?_)
        obtain ⟨f_25, ef_25⟩ : ∃ g : Nat → Int32, g = upd c_g7_7 x1_7.toNatClampNeg y_23 := ⟨_, rfl⟩
        refine pd_K (D := D) (cl := vwCl) (H := H) (A := A) [ob12_0_ mo 0 s1 t2 y_4 y_6 g5 g6 g7 g8 g9 g10 y_2 g12 g13 g14 g15 g16 g17 g18 g19 g20 s21 g22 g23 g24 s25 s26 s27 s28 g29 g30 g31 g32 g33, ai_ cy g5 40 f_15, ai_ cy g6 40 f_20, ai_ cy g7 40 f_25, ai_ cy g8 40 c_g8_7, ai_ cy g9 40 c_g9_7, az_ cy g10 40 c_g10_7, ai_ cy g12 30 f12, ai_ cy g13 30 f13, ai_ cy g14 6000 f14] (by rw [ef_25]; exact hP) (by rw [ef_25]; exact hD) (fun hP hD => ?_)
        have rf_25 : rng f_25 40 (0) (11) := by rw [ef_25]; exact rng_upd rc_g7_7 (by omega) (by omega)
        refine lv_aload_n hx hb dB_3_0_55.1.2.2.1 rfl (lv_at hl 2 rfl) ?_
        refine va_get (ci := 12) (v := .ref g8) (C := RX12) (T := TX12) (N := 34) hx hb hts (fun _ h => List.mem_cons_of_mem _ (List.mem_append_right _ h)) hown hK.1 hP 0 rfl rfl 8 (by decide) (hts (.fieldLink RX12 19 "CutAtlasModel" "width" "[I") (List.mem_of_getElem? (i := 11) rfl)) (fun _ h9 => h9) rfl dB_3_0_55.1.2.2.2 ?_
        refine lv_iload_n hx hb dB_3_0_55.2.1.1.1 rfl (lv_at hl 1 rfl) ?_
        refine lv_aload_n hx hb dB_3_0_55.2.1.1.2 rfl (lv_at hl 2 rfl) ?_
        refine va_get (ci := 12) (v := .ref g14) (C := RX12) (T := TX12) (N := 34) hx hb hts (fun _ h => List.mem_cons_of_mem _ (List.mem_append_right _ h)) hown hK.1 hP 0 rfl rfl 14 (by decide) (hts (.fieldLink RX12 35 "CutAtlasModel" "old" "[I") (List.mem_of_getElem? (i := 8) rfl)) (fun _ h9 => h9) rfl dB_3_0_55.2.1.2.1 ?_
        refine lv_iload_n hx hb dB_3_0_55.2.1.2.2 rfl (lv_at hl 0 rfl) ?_
        refine lv_iconst (v := 3) hx hb dB_3_0_55.2.2.1.1 (by decide) ?_
        refine lv_iadd hx hb dB_3_0_55.2.2.1.2 ?_
        refine lv_topi (fun y_26 ey_26 => ?_)
        have ty_26 : y_26.toInt = y_11.toInt + (3 : Int32).toInt := by rw [ey_26]; exact addI (by omega) (by omega)
        have h_27 : vp_in y_26 6000 := in_I (by first | with_reducible assumption | omega) (by omega)
        refine va_iald hx hb hK.1 hP 9 0 rfl rfl (i := y_26) h_27 dB_3_0_55.2.2.2.1 ?_
        refine lv_topi (fun y_28 ey_28 => ?_)
        have ky_28 : y_28.toInt = (f14 y_26.toNatClampNeg).toInt := by rw [ey_28]
        have ry_28 : oc y_26.toNatClampNeg y_28.toInt := by rw [ey_28]; exact r_f14 _ (in_lt h_27)
        unfold oc at ry_28
        have ky_28 := clI (i := y_26) (by omega)
        refine va_iast hx hb hK.1 hP hD hS 4 0 rfl rfl (i := x1_7) h_14 dB_3_0_55.2.2.2.2 (fun H locs hP hD hS => ?_)
        obtain ⟨f_30, ef_30⟩ : ∃ g : Nat → Int32, g = upd c_g8_7 x1_7.toNatClampNeg y_28 := ⟨_, rfl⟩
        refine pd_K (D := D) (cl := vwCl) (H := H) (A := A) [ob12_0_ mo 0 s1 t2 y_4 y_6 g5 g6 g7 g8 g9 g10 y_2 g12 g13 g14 g15 g16 g17 g18 g19 g20 s21 g22 g23 g24 s25 s26 s27 s28 g29 g30 g31 g32 g33, ai_ cy g5 40 f_15, ai_ cy g6 40 f_20, ai_ cy g7 40 f_25, ai_ cy g8 40 f_30, ai_ cy g9 40 c_g9_7, az_ cy g10 40 c_g10_7, ai_ cy g12 30 f12, ai_ cy g13 30 f13, ai_ cy g14 6000 f14] (by rw [ef_30]; exact hP) (by rw [ef_30]; exact hD) (fun hP hD => ?_)
        have rf_30 : rng f_30 40 (0) (2000) := by rw [ef_30]; exact rng_upd rc_g8_7 (by omega) (by omega)
        refine lv_aload_n hx hb dB_3_0_56.1.1.1.1 rfl (lv_at hl 2 rfl) ?_
        refine va_get (ci := 12) (v := .ref g9) (C := RX12) (T := TX12) (N := 34) hx hb hts (fun _ h => List.mem_cons_of_mem _ (List.mem_append_right _ h)) hown hK.1 hP 0 rfl rfl 9 (by decide) (hts (.fieldLink RX12 22 "CutAtlasModel" "price" "[I") (List.mem_of_getElem? (i := 12) rfl)) (fun _ h9 => h9) rfl dB_3_0_56.1.1.1.2 ?_
        refine lv_iload_n hx hb dB_3_0_56.1.1.2.1 rfl (lv_at hl 1 rfl) ?_
        refine lv_aload_n hx hb dB_3_0_56.1.1.2.2 rfl (lv_at hl 2 rfl) ?_
        refine va_get (ci := 12) (v := .ref g14) (C := RX12) (T := TX12) (N := 34) hx hb hts (fun _ h => List.mem_cons_of_mem _ (List.mem_append_right _ h)) hown hK.1 hP 0 rfl rfl 14 (by decide) (hts (.fieldLink RX12 35 "CutAtlasModel" "old" "[I") (List.mem_of_getElem? (i := 8) rfl)) (fun _ h9 => h9) rfl dB_3_0_56.1.2.1.1 ?_
        refine lv_iload_n hx hb dB_3_0_56.1.2.1.2 rfl (lv_at hl 0 rfl) ?_
        refine lv_iconst (v := 4) hx hb dB_3_0_56.1.2.2.1 (by decide) ?_
        refine lv_iadd hx hb dB_3_0_56.1.2.2.2 ?_
        refine lv_topi (fun y_31 ey_31 => ?_)
        have ty_31 : y_31.toInt = y_11.toInt + (4 : Int32).toInt := by rw [ey_31]; exact addI (by omega) (by omega)
        have h_32 : vp_in y_31 6000 := in_I (by first | with_reducible assumption | omega) (by omega)
        refine va_iald hx hb hK.1 hP 9 0 rfl rfl (i := y_31) h_32 dB_3_0_56.2.1.1.1 ?_
        refine lv_topi (fun y_33 ey_33 => ?_)
        have ky_33 : y_33.toInt = (f14 y_31.toNatClampNeg).toInt := by rw [ey_33]
        have ry_33 : oc y_31.toNatClampNeg y_33.toInt := by rw [ey_33]; exact r_f14 _ (in_lt h_32)
        unfold oc at ry_33
        have ky_33 := clI (i := y_31) (by omega)
        refine lv_sipush (v := 1000) hx hb dB_3_0_56.2.1.1.2 (by decide) ?_
        refine lv_irem hx hb dB_3_0_56.2.1.2.1 (by decide) ?_
        refine lv_topi (fun y_34 ey_34 => ?_)
        have ty_34 : (0 ≤ y_34.toInt ∧ y_34.toInt ≤ 100) ∧ y_34.toInt = y_33.toInt % 1000 := by rw [ey_34]; exact ⟨rem1000 (by omega), rem1000e (by omega)⟩
        refine va_iast hx hb hK.1 hP hD hS 5 0 rfl rfl (i := x1_7) h_14 dB_3_0_56.2.1.2.2 (fun H locs hP hD hS => ?_)
        obtain ⟨f_36, ef_36⟩ : ∃ g : Nat → Int32, g = upd c_g9_7 x1_7.toNatClampNeg y_34 := ⟨_, rfl⟩
        refine pd_K (D := D) (cl := vwCl) (H := H) (A := A) [ob12_0_ mo 0 s1 t2 y_4 y_6 g5 g6 g7 g8 g9 g10 y_2 g12 g13 g14 g15 g16 g17 g18 g19 g20 s21 g22 g23 g24 s25 s26 s27 s28 g29 g30 g31 g32 g33, ai_ cy g5 40 f_15, ai_ cy g6 40 f_20, ai_ cy g7 40 f_25, ai_ cy g8 40 f_30, ai_ cy g9 40 f_36, az_ cy g10 40 c_g10_7, ai_ cy g12 30 f12, ai_ cy g13 30 f13, ai_ cy g14 6000 f14] (by rw [ef_36]; exact hP) (by rw [ef_36]; exact hD) (fun hP hD => ?_)
        have rf_36 : rng f_36 40 (0) (100) := by rw [ef_36]; exact rng_upd rc_g9_7 (by omega) (by omega)
        refine lv_aload_n hx hb dB_3_0_56.2.2.1.1 rfl (lv_at hl 2 rfl) ?_
        refine va_get (ci := 12) (v := .ref g10) (C := RX12) (T := TX12) (N := 34) hx hb hts (fun _ h => List.mem_cons_of_mem _ (List.mem_append_right _ h)) hown hK.1 hP 0 rfl rfl 10 (by decide) (hts (.fieldLink RX12 25 "CutAtlasModel" "isMissing" "[Z") (List.mem_of_getElem? (i := 13) rfl)) (fun _ h9 => h9) rfl dB_3_0_56.2.2.1.2 ?_
        refine lv_iload_n hx hb dB_3_0_56.2.2.2.1 rfl (lv_at hl 1 rfl) ?_
        have JOIN_37 : ∀ (u0_37 : Int32) (H : Heap) (locs : List Loc) (ls : Array Slot), (u0_37.toInt = if (999 : Int) < y_33.toInt then 1 else 0) → pd_2 D vwCl A [ob12_0_ mo 0 s1 t2 y_4 y_6 g5 g6 g7 g8 g9 g10 y_2 g12 g13 g14 g15 g16 g17 g18 g19 g20 s21 g22 g23 g24 s25 s26 s27 s28 g29 g30 g31 g32 g33, ai_ cy g5 40 f_15, ai_ cy g6 40 f_20, ai_ cy g7 40 f_25, ai_ cy g8 40 f_30, ai_ cy g9 40 f_36, az_ cy g10 40 c_g10_7, ai_ cy g12 30 f12, ai_ cy g13 30 f13, ai_ cy g14 6000 f14] H → va_S A s.heap H locs → lv_has ls 3 [(2, .int y_11), (1, .int x1_7), (0, .ref mo)] → W p l e ({ frames := 0, cells := 0, slots := 0, locals := 0 } : Room) s m (([.ref mo] : List Value).toArray) below meth c H locs 0 0 Q (F0 m 168 ls [.int u0_37, .int x1_7, .ref g10]) := by
          intro u0_37 H locs ls v0_37 hPD hS hl; obtain ⟨hP, hD⟩ := hPD
          refine va_zast hx hb hK.1 hP hD hS 6 2 rfl rfl (i := x1_7) h_14 dB_3_0_57.2.1.2.1 (fun H locs hP hD hS => ?_)
          obtain ⟨f_39, ef_39⟩ : ∃ g : Nat → Int32, g = upd c_g10_7 x1_7.toNatClampNeg (vp_nar .boolean u0_37) := ⟨_, rfl⟩
          refine pd_K (D := D) (cl := vwCl) (H := H) (A := A) [ob12_0_ mo 0 s1 t2 y_4 y_6 g5 g6 g7 g8 g9 g10 y_2 g12 g13 g14 g15 g16 g17 g18 g19 g20 s21 g22 g23 g24 s25 s26 s27 s28 g29 g30 g31 g32 g33, ai_ cy g5 40 f_15, ai_ cy g6 40 f_20, ai_ cy g7 40 f_25, ai_ cy g8 40 f_30, ai_ cy g9 40 f_36, az_ cy g10 40 f_39, ai_ cy g12 30 f12, ai_ cy g13 30 f13, ai_ cy g14 6000 f14] (by rw [ef_39]; exact hP) (by rw [ef_39]; exact hD) (fun hP hD => ?_)
          have hE_ : ∀ l2 : Int32, l2.toInt = x1_7.toInt + 1 → ∀ j : Nat, (j : Int) < l2.toInt → back f14 (200 * y_2.toNatClampNeg) f_15 f_20 f_25 f_30 f_36 f_39 j := fun l2 e2 => back_st (p := y_11) (x4 := y_33) (by omega) (by omega) (by omega) ef_15 ef_20 ef_25 ef_30 ef_36 ef_39 ey_13 ey_18 (by omega) ey_23 (by omega) ey_28 (by omega) ey_33 (by omega) (by omega) (nar_gt v0_37) v2_7 e2
          obtain ⟨y_40, ey_40⟩ : ∃ y : Int32, y = x1_7 + 1 := ⟨_, rfl⟩
          have ty_40 : y_40.toInt = x1_7.toInt + (1 : Int32).toInt := by rw [ey_40]; exact addI (by omega) (by omega)
          refine lv_iinc (v := y_40) (lv' := [(1, .int y_40), (2, .int y_11), (0, .ref mo)]) hx hb dB_3_0_57.2.1.2.2 hl (k := 1) rfl (by rw [ey_40]; rfl) (by decide) rfl (fun ls hl => ?_)
          refine lv_goto (tgt := 53) hx hb dB_3_0_57.2.2.1.1 (by decide) ?_
          exact ih_7 y_40 f_15 f_20 f_25 f_30 f_36 f_39 _ _ _ (by omega) (by first | with_reducible assumption | omega | assumption) (by first | with_reducible assumption | omega | assumption) (by first | exact hE_ y_40 (by omega) | (intro j hj; omega)) (by first | with_reducible assumption | assumption | exact rng_zero (by omega) (by omega) | exact orng_zero) (by first | with_reducible assumption | assumption | exact rng_zero (by omega) (by omega) | exact orng_zero) (by first | with_reducible assumption | assumption | exact rng_zero (by omega) (by omega) | exact orng_zero) (by first | with_reducible assumption | assumption | exact rng_zero (by omega) (by omega) | exact orng_zero) ⟨hP, hD⟩ hS (lv_sub hl [0, 2] rfl)
        refine lv_aload_n hx hb dB_3_0_56.2.2.2.2 rfl (lv_at hl 2 rfl) ?_
        refine va_get (ci := 12) (v := .ref g14) (C := RX12) (T := TX12) (N := 34) hx hb hts (fun _ h => List.mem_cons_of_mem _ (List.mem_append_right _ h)) hown hK.1 hP 0 rfl rfl 14 (by decide) (hts (.fieldLink RX12 35 "CutAtlasModel" "old" "[I") (List.mem_of_getElem? (i := 8) rfl)) (fun _ h9 => h9) rfl dB_3_0_57.1.1.1.1 ?_
        refine lv_iload_n hx hb dB_3_0_57.1.1.1.2 rfl (lv_at hl 0 rfl) ?_
        refine lv_iconst (v := 4) hx hb dB_3_0_57.1.1.2.1 (by decide) ?_
        refine lv_iadd hx hb dB_3_0_57.1.1.2.2 ?_
        refine lv_topi (fun y_41 ey_41 => ?_)
        have e_ := (ey_41.trans ey_31.symm).symm
        subst e_
        refine va_iald hx hb hK.1 hP 9 0 rfl rfl (i := y_31) h_32 dB_3_0_57.1.2.1.1 ?_
        refine lv_topi (fun y_43 ey_43 => ?_)
        have e_ := (ey_43.trans ey_33.symm).symm
        subst e_
        skip
        refine lv_sipush (v := 999) hx hb dB_3_0_57.1.2.1.2 (by decide) ?_
        refine lv_icmp_le (tgt := 167) hx hb dB_3_0_57.1.2.2.1 (by decide) (fun c_44 => ?_) (fun c_44 => ?_)
        · have t_44 : y_33.toInt ≤ (999 : Int32).toInt := Int32.le_iff_toInt_le.mp c_44
          refine lv_iconst (v := 0) hx hb dB_3_0_57.2.1.1.2 (by decide) ?_
          exact JOIN_37 (0 : Int32) _ _ _ (by first | (rw [if_pos (by omega)]; decide) | (rw [if_neg (by omega)]; decide)) ⟨hP, hD⟩ hS (lv_sub hl [0, 1, 2] rfl)
        · have t_44 : ¬ y_33.toInt ≤ (999 : Int32).toInt := fun h => c_44 (Int32.le_iff_toInt_le.mpr h)
          refine lv_iconst (v := 1) hx hb dB_3_0_57.1.2.2.2 (by decide) ?_
          refine lv_goto (tgt := 168) hx hb dB_3_0_57.2.1.1.1 (by decide) ?_
          exact JOIN_37 (1 : Int32) _ _ _ (by first | (rw [if_pos (by omega)]; decide) | (rw [if_neg (by omega)]; decide)) ⟨hP, hD⟩ hS (lv_sub hl [0, 1, 2] rfl)
  · have t_1 : s11.toInt = (0 : Int32).toInt := congrArg Int32.toInt c_1
    refine lv_bipush (v := (-2)) hx hb dB_3_0_51.1.2.2.1 (by decide) ?_
    rw [hQ]
    exact W.iret (v := (-2)) hx hb hr (fun t ht hW => ⟨⟨(-2), (), rfl, (by first | (rw [if_pos (by omega)]; first | decide | omega) | (rw [if_neg (by omega)]; omega)), s3, s4, s11, f5, f6, f7, f8, f9, f10, (by first | with_reducible assumption | omega | assumption), (by first | with_reducible assumption | omega | assumption), (by first | with_reducible assumption | omega | assumption), (by first | exact hne_ | assumption), (by first | with_reducible assumption | assumption | exact past_dn hpast (by omega)), (by first | exact ⟨fun _ => ⟨rfl, rfl, rfl, rfl, rfl, rfl, rfl, rfl, rfl⟩, fun h => absurd (by omega) h⟩ | exact ⟨fun h => absurd h (by omega), fun _ => ⟨by omega, S[eP], S[eN], hbk_⟩⟩), (by first | with_reducible assumption | assumption | exact rng_zero (by omega) (by omega) | omega), (by first | with_reducible assumption | assumption | exact rng_zero (by omega) (by omega) | omega), (by first | with_reducible assumption | assumption | exact rng_zero (by omega) (by omega) | omega), (by first | with_reducible assumption | assumption | exact rng_zero (by omega) (by omega) | omega), by rw [ht]; exact hP, hD⟩, hS.F ht⟩) hS.2.2 dB_3_0_51.1.2.2.2
end
