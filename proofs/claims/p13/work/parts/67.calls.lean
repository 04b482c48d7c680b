section
/-- the row of the five kinds -/
noncomputable def kf_ (a b c d e : Nat) : Nat → Option Nat := fun i => if i = 0 then some a else if i = 1 then some b else if i = 2 then some c else if i = 3 then some d else if i = 4 then some e else none
theorem sp_5 {x : Int32} (h : 0 ≤ x.toInt ∧ x.toInt ≤ 4) : x = 0 ∨ x = 1 ∨ x = 2 ∨ x = 3 ∨ x = 4 := by
  have h1 : x.toInt = 0 ∨ x.toInt = 1 ∨ x.toInt = 2 ∨ x.toInt = 3 ∨ x.toInt = 4 := by omega
  rcases h1 with h | h | h | h | h
  · exact Or.inl (Int32.toInt_inj.mp h)
  · exact Or.inr (Or.inl (Int32.toInt_inj.mp h))
  · exact Or.inr (Or.inr (Or.inl (Int32.toInt_inj.mp h)))
  · exact Or.inr (Or.inr (Or.inr (Or.inl (Int32.toInt_inj.mp h))))
  · exact Or.inr (Or.inr (Or.inr (Or.inr (Int32.toInt_inj.mp h))))
theorem sw_6 (x : Int32) : (x.toInt < 0 ∨ 5 < x.toInt) ∨ x.toInt = 0 ∨ x.toInt = 1 ∨ x.toInt = 2 ∨ x.toInt = 3 ∨ x.toInt = 4 ∨ x.toInt = 5 := by omega

set_option maxHeartbeats 4000000 in
set_option maxRecDepth 100000 in
theorem c_X11_lineRefusal (l : Launch) (D : va_G) (cy : Nat → ClassId) (sz : Nat) (xo : Nat) (xk : Nat) (xn : Nat) (xc : Nat) (xh : Nat) (xt : Nat) (xw : Nat) (xm : Nat) (xp : Nat) (pf : Int32) (ph : Int32) (tr : Int64) (fi : Int32) (n1 : Nat) (n2 : Nat) (n3 : Nat) (n4 : Nat) (n5 : Nat) (vp : Int32) (vn : Int32) (a1 : Int64) (a2 : Int64) (a3 : Int64) (a4 : Int64) (a5 : Int64) (hvn : 0 ≤ vn.toInt ∧ vn.toInt ≤ 40) (hvp : 0 ≤ vp.toInt ∧ vp.toInt ≤ 12) : Met l yX11_lineRefusal wsX11_lineRefusal ({ frames := 2, cells := 0, slots := 0, locals := 46 }) (va_Pc [.ref xo, .long a1, .long a2, .long a3, .long a4, .long a5] (fun U => U.heap.size = sz ∧ va_P D vwCl [ob11_0_ xo xk xn xc xh xt xw xm xp pf ph tr fi, ob3_0_ xn vp vn n1 n2 n3 n4 n5] U.heap ∧ kk_ D cy U ∧ va_D (fun _ => True) [ob11_0_ xo xk xn xc xh xt xw xm xp pf ph tr fi, ob3_0_ xn vp vn n1 n2 n3 n4 n5])) (va_Qi (fun (r : Int32) (_ : Unit) => ((¬ ((0 ≤ a1.toInt ∧ a1.toInt ≤ 4) ∧ (0 ≤ a2.toInt ∧ a2.toInt < vp.toInt) ∧ (0 ≤ a3.toInt ∧ a3.toInt < vp.toInt) ∧ a2.toInt ≠ a3.toInt ∧ (0 ≤ a4.toInt ∧ a4.toInt ≤ 1000) ∧ (0 ≤ a5.toInt ∧ a5.toInt ≤ 100))) ∧ r = (-1)) ∨ ((((0 ≤ a1.toInt ∧ a1.toInt ≤ 4) ∧ (0 ≤ a2.toInt ∧ a2.toInt < vp.toInt) ∧ (0 ≤ a3.toInt ∧ a3.toInt < vp.toInt) ∧ a2.toInt ≠ a3.toInt ∧ (0 ≤ a4.toInt ∧ a4.toInt ≤ 1000) ∧ (0 ≤ a5.toInt ∧ a5.toInt ≤ 100)) ∧ vn.toInt = 40) ∧ r = (-3)) ∨ ((((0 ≤ a1.toInt ∧ a1.toInt ≤ 4) ∧ (0 ≤ a2.toInt ∧ a2.toInt < vp.toInt) ∧ (0 ≤ a3.toInt ∧ a3.toInt < vp.toInt) ∧ a2.toInt ≠ a3.toInt ∧ (0 ≤ a4.toInt ∧ a4.toInt ≤ 1000) ∧ (0 ≤ a5.toInt ∧ a5.toInt ≤ 100)) ∧ vn.toInt < 40) ∧ r = 0)) (fun (_ : Unit) (_ : State) => True) (va_A [] sz)) 0 0 (va_A [] sz) := by
  refine ofQ (cc := cX11_lineRefusal) (maxL := 11) (ret := (some .int)) (by decide) rfl ?_
  intro p e s m args below meth c s₁ Q hQ B hml hv
  obtain ⟨rfl, hsz, hP, hK, hD0⟩ := hv
  have hx := B.exec
  have hb := B.bytes
  have hr := B.returns
  have hts := atoms_spec (ws := wsX11_lineRefusal) B.pre
  have hown : s.vm.findClass RX11 = some m.cls := by have h_ := findClass_of_methodNamed B.named; exact h_
  have hlocks := B.notSynchronized
  subst hsz
  have hD : va_D (va_A [] s.heap.size) [] := dd_nil
  generalize hAe : va_A [] s.heap.size = A at hD hQ
  have hA : ∀ q : Nat, s.heap.size ≤ q → A q := fun q h => by rw [← hAe]; exact Or.inr h
  have hS : va_S A s.heap s.heap [] := va_S.rf
  have hl := lv_entry ([.ref xo, .long a1, .long a2, .long a3, .long a4, .long a5]) (n := 11) (Nat.le_of_ble_eq_true rfl)
  rw [lg_entry_eq]
  generalize (lg_sl ([.ref xo, .long a1, .long a2, .long a3, .long a4, .long a5]) ++ List.replicate (11 - (lg_sl ([.ref xo, .long a1, .long a2, .long a3, .long a4, .long a5])).length) Slot.unset).toArray = ls at hl ⊢
  have hl : lv_has ls 11 [(0, .ref xo), (1, .long a1), (3, .long a2), (5, .long a3), (7, .long a4), (9, .long a5)] := hl
  have zm3 : ((-3) : Int32).toInt = -3 := by decide
  have zm1 : ((-1) : Int32).toInt = -1 := by decide
  have z0 : (0 : Int32).toInt = 0 := by decide
  have zl0 : (0 : Int64).toInt = 0 := by decide
  have zl5 : (5 : Int64).toInt = 5 := by decide
  have z40 : (40 : Int32).toInt = 40 := by decide
  have zl100 : (100 : Int64).toInt = 100 := by decide
  have zl1000 : (1000 : Int64).toInt = 1000 := by decide
  refine lv_lload_n hx hb dB_36_3_27.1.1.1.1 rfl (lv_at hl 1 rfl) ?_
  refine lv_lconst (v := 0) hx hb dB_36_3_27.1.1.1.2 (by decide) ?_
  refine W.lcmp hx hb dB_36_3_27.1.1.2.1 ?_
  refine lv_if_lt (tgt := 27) hx hb dB_36_3_27.1.1.2.2 (by decide) (fun c_1 => ?_) (fun c_1 => ?_)
  · have t_1 : a1.toInt < (0 : Int64).toInt := Int64.lt_iff_toInt_lt.mp ((lg_cmp_lt a1 0).mp c_1)
    refine lv_iconst (v := (-1)) hx hb dB_36_3_27.2.2.2.1 (by decide) ?_
    rw [hQ]
    exact W.iret (v := (-1)) hx hb hr (fun t ht hW => ⟨⟨(-1), (), rfl, Or.inl (⟨by omega, rfl⟩), trivial⟩, hS.F ht⟩) hS.2.2 dB_36_3_27.2.2.2.2
  · have t_1 : ¬ a1.toInt < (0 : Int64).toInt := fun h => c_1 ((lg_cmp_lt a1 0).mpr (Int64.lt_iff_toInt_lt.mpr h))
    refine lv_lload_n hx hb dB_36_3_27.1.2.1.1 rfl (lv_at hl 1 rfl) ?_
    refine lv_ldc2 (v := 5) hx hb hown (hts (.constantLong RX11 300 (5)) (List.mem_of_getElem? (i := 1) rfl)) dB_36_3_27.1.2.1.2 ?_
    refine W.lcmp hx hb dB_36_3_27.1.2.2.1 ?_
    refine lv_if_ge (tgt := 27) hx hb dB_36_3_27.1.2.2.2 (by decide) (fun c_2 => ?_) (fun c_2 => ?_)
    · have t_2 : (5 : Int64).toInt ≤ a1.toInt := Int64.le_iff_toInt_le.mp ((lg_cmp_ge a1 5).mp c_2)
      refine lv_iconst (v := (-1)) hx hb dB_36_3_27.2.2.2.1 (by decide) ?_
      rw [hQ]
      exact W.iret (v := (-1)) hx hb hr (fun t ht hW => ⟨⟨(-1), (), rfl, Or.inl (⟨by omega, rfl⟩), trivial⟩, hS.F ht⟩) hS.2.2 dB_36_3_27.2.2.2.2
    · have t_2 : ¬ (5 : Int64).toInt ≤ a1.toInt := fun h => c_2 ((lg_cmp_ge a1 5).mpr (Int64.le_iff_toInt_le.mpr h))
      refine lv_aload_n hx hb dB_36_3_27.2.1.1.1 rfl (lv_at hl 0 rfl) ?_
      refine va_get (ci := 11) (v := .ref xn) (C := RX11) (T := TX11) (N := 12) hx hb hts (fun _ h => List.mem_cons_of_mem _ (List.mem_append_left _ (List.mem_append_right _ h))) hown hK.1 hP 0 rfl rfl 1 (by decide) (hts (.fieldLink RX11 31 "CutAtlas" "net" "LCutAtlas$Net;") (List.mem_of_getElem? (i := 2) rfl)) (fun _ h9 => h9) rfl dB_36_3_27.2.1.1.2 ?_
      refine lv_lload_n hx hb dB_36_3_27.2.1.2.1 rfl (lv_at hl 2 rfl) ?_
      refine lv_lload hx hb dB_36_3_27.2.1.2.2 (lv_at hl 3 rfl) ?_
      refine ct_R hP hD0 [ob3_0_ xn vp vn n1 n2 n3 n4 n5] [1] (by decide) rfl (fun hPc hDw => ?_)
      have hFc := va_free (wc := []) hD hS hA [] rfl
      refine va_calli (va_runV (As := [.long a2, .long a3]) (rest := []) ⟨hx, hb, hml, hown, hts⟩ (c_X3_hasPair l D cy s.heap.size xn n1 n2 n3 n4 n5 vp vn a2 a3) (cwV 2 hts gX11_lineRefusal_X3_hasPair rfl rfl rfl ⟨rfl, hd_X3_hasPair⟩ ⟨Nat.le_of_ble_eq_true rfl, Nat.le_of_ble_eq_true rfl⟩) ⟨bl_, va_recvX hK.1 hP (ci := 3) (q0 := 1) rfl rfl, fun U hU hW => ⟨rfl, by rw [hU], by rw [hU]; exact hPc, kk_mv hW hK, hDw⟩⟩ rfl rfl hl.1 rfl (lv_room (Nat.le_of_ble_eq_true rfl)) dB_36_3_27.2.2.1.1 ⟨Nat.le_of_ble_eq_true rfl, Nat.le_of_ble_eq_true rfl⟩) hS (fun q _ h => hFc q h) hFc (fun r_3 u t H locs ht hvm hw hB hz1 hk1 hS => ?_)
      have hP : va_P D vwCl _ H := ro_keep hP hk1
      rcases hw with ⟨w_4, e_⟩ | ⟨w_4, e_⟩
      · have e_ := e_.symm
        subst e_
        refine lv_if_ne (tgt := 29) hx hb dB_36_3_27.2.2.1.2 (by decide) (fun c_5 => ?_) (fun c_5 => ?_)
        · have _ := c_5
          refine lv_lload hx hb dB_36_3_28.1.1.1.1 (lv_at hl 4 rfl) ?_
          refine lv_lconst (v := 0) hx hb dB_36_3_28.1.1.1.2 (by decide) ?_
          refine W.lcmp hx hb dB_36_3_28.1.1.2.1 ?_
          refine lv_if_lt (tgt := 61) hx hb dB_36_3_28.1.1.2.2 (by decide) (fun c_6 => ?_) (fun c_6 => ?_)
          · have t_6 : a4.toInt < (0 : Int64).toInt := Int64.lt_iff_toInt_lt.mp ((lg_cmp_lt a4 0).mp c_6)
            refine lv_iconst (v := (-1)) hx hb dB_36_3_29.1.1.1 (by decide) ?_
            rw [hQ]
            exact W.iret (v := (-1)) hx hb hr (fun t ht hW => ⟨⟨(-1), (), rfl, Or.inl (⟨by omega, rfl⟩), trivial⟩, hS.F ht⟩) hS.2.2 dB_36_3_29.1.1.2
          · have t_6 : ¬ a4.toInt < (0 : Int64).toInt := fun h => c_6 ((lg_cmp_lt a4 0).mpr (Int64.lt_iff_toInt_lt.mpr h))
            refine lv_lload hx hb dB_36_3_28.1.2.1.1 (lv_at hl 4 rfl) ?_
            refine lv_ldc2 (v := 1000) hx hb hown (hts (.constantLong RX11 302 (1000)) (List.mem_of_getElem? (i := 3) rfl)) dB_36_3_28.1.2.1.2 ?_
            refine W.lcmp hx hb dB_36_3_28.1.2.2.1 ?_
            refine lv_if_gt (tgt := 61) hx hb dB_36_3_28.1.2.2.2 (by decide) (fun c_7 => ?_) (fun c_7 => ?_)
            · have t_7 : (1000 : Int64).toInt < a4.toInt := Int64.lt_iff_toInt_lt.mp ((lg_cmp_gt a4 1000).mp c_7)
              refine lv_iconst (v := (-1)) hx hb dB_36_3_29.1.1.1 (by decide) ?_
              rw [hQ]
              exact W.iret (v := (-1)) hx hb hr (fun t ht hW => ⟨⟨(-1), (), rfl, Or.inl (⟨by omega, rfl⟩), trivial⟩, hS.F ht⟩) hS.2.2 dB_36_3_29.1.1.2
            · have t_7 : ¬ (1000 : Int64).toInt < a4.toInt := fun h => c_7 ((lg_cmp_gt a4 1000).mpr (Int64.lt_iff_toInt_lt.mpr h))
              refine lv_lload hx hb dB_36_3_28.2.1.1.1 (lv_at hl 5 rfl) ?_
              refine lv_lconst (v := 0) hx hb dB_36_3_28.2.1.1.2 (by decide) ?_
              refine W.lcmp hx hb dB_36_3_28.2.1.2.1 ?_
              refine lv_if_lt (tgt := 61) hx hb dB_36_3_28.2.1.2.2 (by decide) (fun c_8 => ?_) (fun c_8 => ?_)
              · have t_8 : a5.toInt < (0 : Int64).toInt := Int64.lt_iff_toInt_lt.mp ((lg_cmp_lt a5 0).mp c_8)
                refine lv_iconst (v := (-1)) hx hb dB_36_3_29.1.1.1 (by decide) ?_
                rw [hQ]
                exact W.iret (v := (-1)) hx hb hr (fun t ht hW => ⟨⟨(-1), (), rfl, Or.inl (⟨by omega, rfl⟩), trivial⟩, hS.F ht⟩) hS.2.2 dB_36_3_29.1.1.2
              · have t_8 : ¬ a5.toInt < (0 : Int64).toInt := fun h => c_8 ((lg_cmp_lt a5 0).mpr (Int64.lt_iff_toInt_lt.mpr h))
                refine lv_lload hx hb dB_36_3_28.2.2.1.1 (lv_at hl 5 rfl) ?_
                refine lv_ldc2 (v := 100) hx hb hown (hts (.constantLong RX11 304 (100)) (List.mem_of_getElem? (i := 4) rfl)) dB_36_3_28.2.2.1.2 ?_
                refine W.lcmp hx hb dB_36_3_28.2.2.2.1 ?_
                refine lv_if_le (tgt := 63) hx hb dB_36_3_28.2.2.2.2 (by decide) (fun c_9 => ?_) (fun c_9 => ?_)
                · have t_9 : a5.toInt ≤ (100 : Int64).toInt := Int64.le_iff_toInt_le.mp ((lg_cmp_le a5 100).mp c_9)
                  refine lv_aload_n hx hb dB_36_3_29.1.2.1 rfl (lv_at hl 0 rfl) ?_
                  refine va_get (ci := 11) (v := .ref xn) (C := RX11) (T := TX11) (N := 12) hx hb hts (fun _ h => List.mem_cons_of_mem _ (List.mem_append_left _ (List.mem_append_right _ h))) hown hK.1 hP 0 rfl rfl 1 (by decide) (hts (.fieldLink RX11 31 "CutAtlas" "net" "LCutAtlas$Net;") (List.mem_of_getElem? (i := 2) rfl)) (fun _ h9 => h9) rfl dB_36_3_29.1.2.2.1 ?_
                  refine va_get (ci := 3) (v := .int vn) (C := RX3) (T := TX3) (N := 7) hx hb hts (fun _ h => List.mem_cons_of_mem _ (List.mem_append_right _ h)) hown hK.1 hP 1 rfl rfl 1 (by decide) (hts (.fieldLink RX11 294 "CutAtlas$Net" "lines" "I") (List.mem_of_getElem? (i := 5) rfl)) (fun _ h9 => h9) rfl dB_36_3_29.1.2.2.2 ?_
                  refine lv_bipush (v := 40) hx hb dB_36_3_29.2.1.1 (by decide) ?_
                  refine lv_icmp_lt (tgt := 80) hx hb dB_36_3_29.2.1.2.1 (by decide) (fun c_10 => ?_) (fun c_10 => ?_)
                  · have t_10 : vn.toInt < (40 : Int32).toInt := Int32.lt_iff_toInt_lt.mp c_10
                    refine lv_iconst (v := 0) hx hb dB_36_3_29.2.2.2.1 (by decide) ?_
                    rw [hQ]
                    exact W.iret (v := 0) hx hb hr (fun t ht hW => ⟨⟨0, (), rfl, Or.inr (Or.inr (⟨by omega, rfl⟩)), trivial⟩, hS.F ht⟩) hS.2.2 dB_36_3_29.2.2.2.2
                  · have t_10 : ¬ vn.toInt < (40 : Int32).toInt := fun h => c_10 (Int32.lt_iff_toInt_lt.mpr h)
                    refine lv_bipush (v := (-3)) hx hb dB_36_3_29.2.1.2.2 (by decide) ?_
                    refine lv_goto (tgt := 81) hx hb dB_36_3_29.2.2.1 (by decide) ?_
                    rw [hQ]
                    exact W.iret (v := (-3)) hx hb hr (fun t ht hW => ⟨⟨(-3), (), rfl, Or.inr (Or.inl (⟨by omega, rfl⟩)), trivial⟩, hS.F ht⟩) hS.2.2 dB_36_3_29.2.2.2.2
                · have t_9 : ¬ a5.toInt ≤ (100 : Int64).toInt := fun h => c_9 ((lg_cmp_le a5 100).mpr (Int64.le_iff_toInt_le.mpr h))
                  refine lv_iconst (v := (-1)) hx hb dB_36_3_29.1.1.1 (by decide) ?_
                  rw [hQ]
                  exact W.iret (v := (-1)) hx hb hr (fun t ht hW => ⟨⟨(-1), (), rfl, Or.inl (⟨by omega, rfl⟩), trivial⟩, hS.F ht⟩) hS.2.2 dB_36_3_29.1.1.2
        · exact absurd c_5 (by decide)
      · have e_ := e_.symm
        subst e_
        refine lv_if_ne (tgt := 29) hx hb dB_36_3_27.2.2.1.2 (by decide) (fun c_11 => ?_) (fun c_11 => ?_)
        · exact absurd c_11 (by decide)
        · have _ := c_11
          refine lv_iconst (v := (-1)) hx hb dB_36_3_27.2.2.2.1 (by decide) ?_
          rw [hQ]
          exact W.iret (v := (-1)) hx hb hr (fun t ht hW => ⟨⟨(-1), (), rfl, Or.inl (⟨by omega, rfl⟩), trivial⟩, hS.F ht⟩) hS.2.2 dB_36_3_27.2.2.2.2

set_option maxHeartbeats 4000000 in
set_option maxRecDepth 100000 in
theorem c_X11_trace (l : Launch) (D : va_G) (cy : Nat → ClassId) (sz : Nat) (xo : Nat) (xk : Nat) (xn : Nat) (xc : Nat) (xh : Nat) (xt : Nat) (xw : Nat) (xm : Nat) (xp : Nat) (pf : Int32) (ph : Int32) (tr : Int64) (fi : Int32) (n1 : Nat) (n2 : Nat) (n3 : Nat) (n4 : Nat) (n5 : Nat) (vp : Int32) (vn : Int32) : Met l yX11_trace wsX11_trace ({ frames := 0, cells := 0, slots := 0, locals := 0 }) (va_Pc [.ref xo] (fun U => U.heap.size = sz ∧ va_P D vwCl [ob11_0_ xo xk xn xc xh xt xw xm xp pf ph tr fi, ob3_0_ xn vp vn n1 n2 n3 n4 n5] U.heap ∧ kk_ D cy U ∧ va_D (fun _ => True) [ob11_0_ xo xk xn xc xh xt xw xm xp pf ph tr fi, ob3_0_ xn vp vn n1 n2 n3 n4 n5])) (va_Ql (fun (r : Int64) (_ : Unit) => True) (fun (_ : Unit) (_ : State) => True) (va_A [] sz)) 0 0 (va_A [] sz) := by
  refine ofQ (cc := cX11_trace) (maxL := 1) (ret := (some .long)) (by decide) rfl ?_
  intro p e s m args below meth c s₁ Q hQ B hml hv
  obtain ⟨rfl, hsz, hP, hK, hD0⟩ := hv
  have hx := B.exec
  have hb := B.bytes
  have hr := B.returns
  have hts := atoms_spec (ws := wsX11_trace) B.pre
  have hown : s.vm.findClass RX11 = some m.cls := by have h_ := findClass_of_methodNamed B.named; exact h_
  have hlocks := B.notSynchronized
  subst hsz
  have hD : va_D (va_A [] s.heap.size) [] := dd_nil
  generalize hAe : va_A [] s.heap.size = A at hD hQ
  have hA : ∀ q : Nat, s.heap.size ≤ q → A q := fun q h => by rw [← hAe]; exact Or.inr h
  have hS : va_S A s.heap s.heap [] := va_S.rf
  have hl := lv_entry ([.ref xo]) (n := 1) (Nat.le_of_ble_eq_true rfl)
  rw [lg_entry_eq]
  generalize (lg_sl ([.ref xo]) ++ List.replicate (1 - (lg_sl ([.ref xo])).length) Slot.unset).toArray = ls at hl ⊢
  have hl : lv_has ls 1 [(0, .ref xo)] := hl
  refine lv_aload_n hx hb dB_36_3_65.1 rfl (lv_at hl 0 rfl) ?_
  refine va_get (ci := 11) (v := .long tr) (C := RX11) (T := TX11) (N := 12) hx hb hts (fun _ h => List.mem_cons_of_mem _ (List.mem_append_right _ h)) hown hK.1 hP 0 rfl rfl 10 (by decide) (hts (.fieldLink RX11 87 "CutAtlas" "traced" "J") (List.mem_of_getElem? (i := 1) rfl)) (fun _ h9 => h9) rfl dB_36_3_65.2.1 ?_
  rw [hQ]
  exact W.lret (v := tr) hx hb hr (fun t ht hW => ⟨⟨tr, (), rfl, trivial, trivial⟩, hS.F ht⟩) hS.2.2 dB_36_3_65.2.2
end

section
section DEEP
variable {p : Program} {l : Launch} {e : Env} {R : Room} {s : State} {m : MethodId} {args : Array Value} {below : List Frame} {meth : Method} {c : Code} {H : Heap} {locs : List Loc} {cells slots : Nat}
variable {y : MethodName} {bytes cc : ByteArray} {maxL nL mc ms n index : Nat} {ret : Option FieldType} {ws : List Cond} {rm : Room} {Pc : Array Value → State → Prop} {Qc : Array Value → State → Outcome → State → Prop} {free : Addr → Prop} {Ts : List Cond} {own C : String} {b : Addr} {As rest : List Value} {g : JFrame}
/-- a call with more than eight words below its arguments -/
theorem va_runVW {W : Nat} (S : CallFix p m c cc nL s args Ts own) (hM : Met l y ws rm Pc Qc mc ms free) (cw : CallW R s args own C index y bytes maxL ret ws rm mc ms n) (hdeep : W + (maxL + 11) + rm.locals ≤ R.locals) (hp : PreV s H C b Pc As)
    (hg : g.method = m) (hn : As.length = n) (hsize : g.locals.size = nL) (hstack : g.stack = As.reverse ++ .ref b :: rest) (hW : 2 * g.monitorRoom + (rest.map fun v => v.category).sum ≤ W) (hdg : decode cc g.pc = .ok (.invokevirtual index, 3)) (hf : cells + mc ≤ R.cells ∧ slots + ms ≤ R.slots) :
    va_Run p l e R s m args below meth c H locs cells slots mc ms g rest (Qc (Value.ref b :: As).toArray) (free) := by
  have hK : Back l R p e below s args y 3 W (PreOf R mc ms Pc) (PostOf Qc mc ms free) := by
    obtain ⟨hrc, hrs, hfr, -, hws, hcw, -, hini, -⟩ := cw.1
    exact back_of (bytes := bytes) (maxL := maxL) (ret := ret) hM hp.1 hrc hrs hfr hdeep hws hcw (fun a' U hW => word_at hW (Or.inl (by first | rfl | simp [Cond.onTables, Cond.keeps, Cond.steady])) hini)
  obtain ⟨⟨-, -, -, -, -, -, hcode, -, hy, hlen, hl⟩, hin, hse⟩ := cw
  obtain ⟨hx, hb, hml, ho, -⟩ := S
  obtain ⟨-, ⟨cellB, hcB, hoB, hclB⟩, hPc⟩ := hp
  intro T hT X
  obtain ⟨v, vm₁, ⟨U', l2, c2, s2⟩, hW₁, X', ⟨g', mk, t, L, e1, e2, hq, h1, hL, h2, h3⟩, st⟩ := callV X hx (C := C) (bytes := bytes) (maxL := maxL) (ret := ret) ho hl hin hse hcode hy hK (by rw [hT]; exact hcB) hoB hclB hg (hsize.trans hml.symm) (argsL := As) (rest := rest) (fun sig h => hn.trans (hlen sig h)) hstack hW (by rw [hb]; exact hdg)
    (fun vm₁ hW₁ => ⟨hf.1, hf.2, hPc (T.setVm vm₁) hT hW₁⟩)
  dsimp only [Pt.U, Pt.locs, Pt.cells, Pt.slots] at X' e1 e2 h1 h2 h3 st
  subst h1; subst h2; subst h3
  exact ⟨v, (T.setVm vm₁).calling g' mk (Value.ref b :: As).toArray, t, U', L, hT, X', hL, e1, e2, hq, st⟩
end DEEP
end

section
/-- twelve rows of twelve numbers -/
noncomputable def gro (c : ClassId) (r : Nat → Nat) (M : Nat → Nat → Int32) : va_W := (List.range 12).map (fun k => (r k, .inl (c, 12, .inl (M k))))
/-- the outer row -/
noncomputable def gf_ (r : Nat → Nat) : Nat → Option Nat := fun i => if i < 12 then some (r i) else none
theorem gro_len {c : ClassId} {r : Nat → Nat} {M : Nat → Nat → Int32} : (gro c r M).length = 12 := by
  unfold gro
  rw [List.length_map, List.length_range]
theorem gro_get {c : ClassId} {r : Nat → Nat} {M : Nat → Nat → Int32} {k : Nat} (hk : k < 12) : (gro c r M)[k]? = some (r k, .inl (c, 12, .inl (M k))) := by
  unfold gro
  rw [List.getElem?_map, List.getElem?_range hk]
  rfl
theorem gro_at {X Y : va_W} {c : ClassId} {r : Nat → Nat} {M : Nat → Nat → Int32} {k : Nat} (hk : k < 12) : (X ++ (gro c r M ++ Y))[X.length + k]? = some (r k, .inl (c, 12, .inl (M k))) := by
  rw [List.getElem?_append_right (by omega), show X.length + k - X.length = k by omega, List.getElem?_append_left (by rw [gro_len]; exact hk)]
  exact gro_get hk
theorem gro_set {X Y : va_W} {c : ClassId} {r : Nat → Nat} {M : Nat → Nat → Int32} {k : Nat} {g : Nat → Int32} (hk : k < 12) : (X ++ (gro c r M ++ Y)).set (X.length + k) (r k, .inl (c, 12, .inl g)) = X ++ (gro c r (va_up M k g) ++ Y) := by
  rw [List.set_append_right _ _ (by omega), show X.length + k - X.length = k by omega, List.set_append_left _ _ (by rw [gro_len]; exact hk)]
  congr 2
  apply List.ext_getElem?
  intro i
  by_cases hi : i < 12
  · rw [gro_get hi]
    by_cases e : i = k
    · subst e
      rw [List.getElem?_set_self (by rw [gro_len]; exact hi), va_up_self]
    · rw [List.getElem?_set_ne (fun h => e h.symm), gro_get hi, va_up_ne _ _ e]
  · rw [List.getElem?_eq_none (by rw [List.length_set, gro_len]; omega), List.getElem?_eq_none (by rw [gro_len]; omega)]
theorem gf_at {r : Nat → Nat} {i : Int32} (h : vp_in i 12) : va_rf (gf_ r i.toNatClampNeg) = .ref (r i.toNatClampNeg) := by
  unfold gf_
  rw [if_pos (in_lt h)]
  rfl
section GRW
variable {p : Program} {l : Launch} {e : Env} {R : Room} {s : State} {m : MethodId} {args : Array Value} {below : List Frame} {meth : Method} {c : Code} {H : Heap} {locs : List Loc} {cells slots : Nat} {Q : State → Prop}
variable {cc : ByteArray} {pc : Nat} {ls : Array Slot} {rest : List Value} {D : va_G} {cl : List vw_C} {A : Nat → Prop} {a : Nat} {tys : List (ClassId × FieldType)} {ws : va_W} {H0 : Heap}
theorem va_alda (hexec : p.tables.exec = Jvm.exec) (hb : c.code = cc) {cA : ClassId} (hG : ArrOfT s cA (.array .int)) (hP : va_P D cl ws H) (q0 : Nat) {n : Nat} {f : Nat → Option Nat} (ha : ws[q0]? = some (a, .inl (cA, n, .inr (.inr (.inr (.inr f)))))) {i : Int32} (hin : vp_in i n) (hdg : decode cc pc = .ok (.aaload, 1))
    (kk : W p l e R s m args below meth c H locs cells slots Q (F0 m (pc + 1) ls (va_rf (f i.toNatClampNeg) :: rest))) : W p l e R s m args below meth c H locs cells slots Q (F0 m pc ls (.int i :: .ref a :: rest)) := by
  have hlt : i.toNatClampNeg < n := in_lt hin
  exact W.aald (v := va_rf (f i.toNatClampNeg)) (ty := .array .int) hexec hb (hP q0 _ ha) (hG n (fun j => va_rf (f j))) rfl (fun q => by cases q) (by show ¬ (i < 0 ∨ (arrV _ _ _).slots.size ≤ _); rw [arrV_size]; exact hin) (by show (arrV _ _ _).slots[_]? = _; rw [arrV_read _ _ hlt]) rfl rfl hdg kk
theorem va_gld {X Y : va_W} {cA : ClassId} {r : Nat → Nat} {M : Nat → Nat → Int32} {k : Nat} (hexec : p.tables.exec = Jvm.exec) (hb : c.code = cc) (hK : va_K D cl tys s) (hP : va_P D cl (X ++ (gro cA r M ++ Y)) H) (t0 : Nat) (ht : tys[t0]? = some (cA, .int)) (hk : k < 12) {i : Int32} (hin : vp_in i 12) (hdg : decode cc pc = .ok (.iaload, 1))
    (kk : W p l e R s m args below meth c H locs cells slots Q (F0 m (pc + 1) ls (.int (M k i.toNatClampNeg) :: rest))) : W p l e R s m args below meth c H locs cells slots Q (F0 m pc ls (.int i :: .ref (r k) :: rest)) :=
  va_iald hexec hb hK hP (X.length + k) t0 (gro_at hk) ht hin hdg kk
theorem va_gst {X Y : va_W} {cA : ClassId} {r : Nat → Nat} {M : Nat → Nat → Int32} {k : Nat} (hexec : p.tables.exec = Jvm.exec) (hb : c.code = cc) (hK : va_K D cl tys s) (hP : va_P D cl (X ++ (gro cA r M ++ Y)) H) (hD : va_D A (X ++ (gro cA r M ++ Y))) (hS : va_S A H0 H locs) (t0 : Nat) (ht : tys[t0]? = some (cA, .int)) (hk : k < 12) {i x : Int32} (hin : vp_in i 12) (hdg : decode cc pc = .ok (.iastore, 1))
    (kk : ∀ (H1 : Heap) (locs1 : List Loc), va_P D cl (X ++ (gro cA r (va_up M k (upd (M k) i.toNatClampNeg x)) ++ Y)) H1 → va_D A (X ++ (gro cA r (va_up M k (upd (M k) i.toNatClampNeg x)) ++ Y)) → va_S A H0 H1 locs1 → W p l e R s m args below meth c H1 locs1 cells slots Q (F0 m (pc + 1) ls rest)) : W p l e R s m args below meth c H locs cells slots Q (F0 m pc ls (.int x :: .int i :: .ref (r k) :: rest)) := by
  refine va_iast hexec hb hK hP hD hS (X.length + k) t0 (gro_at hk) ht hin hdg (fun H1 locs1 hP1 hD1 hS1 => ?_)
  rw [gro_set hk] at hP1 hD1
  exact kk H1 locs1 hP1 hD1 hS1
end GRW
end

section
noncomputable def kg_ (D : va_G) (cy : Nat → ClassId) (U : State) : Prop := kk_ D cy U ∧ ArrOfT U (cy 6) (.array .int)
theorem bl_g {av : List Value} {sz : Nat} {D : va_G} {cy : Nat → ClassId} {ws : va_W} {A : Nat → Prop} : FrameBlind (va_Pc av (fun U => U.heap.size = sz ∧ va_P D vwCl ws U.heap ∧ kg_ D cy U ∧ va_D A ws)) := fun a U g mk q => by
  obtain ⟨q0, q1, qP, qK, qD⟩ := q
  exact ⟨q0, q1, qP, ⟨kk_cl (s := U) (U := U.calling g mk a) rfl qK.1, arrOfT_moved (u := U) (E := U.calling g mk a) (Vm.Alike.refl U.vm) qK.2⟩, qD⟩

set_option maxHeartbeats 4000000 in
set_option maxRecDepth 100000 in
theorem c_X0_asRoom (l : Launch) (D : va_G) (cy : Nat → ClassId) (sz : Nat) (a1 : Int32) : Met l yX0_asRoom wsX0_asRoom ({ frames := 0, cells := 0, slots := 0, locals := 0 }) (va_Pc [.int a1] (fun U => U.heap.size = sz ∧ va_P D vwCl [] U.heap ∧ kk_ D cy U ∧ va_D (fun _ => True) [])) (va_Qi (fun (r : Int32) (_ : Unit) => True) (fun (_ : Unit) (_ : State) => True) (va_A [] sz)) 0 0 (va_A [] sz) := by
  refine ofQ (cc := cX0_asRoom) (maxL := 1) (ret := (some .int)) (by decide) rfl ?_
  intro p e s m args below meth c s₁ Q hQ B hml hv
  obtain ⟨rfl, hsz, hP, hK, hD0⟩ := hv
  have hx := B.exec
  have hb := B.bytes
  have hr := B.returns
  have hts := atoms_spec (ws := wsX0_asRoom) B.pre
  have hown : s.vm.findClass RX0 = some m.cls := by have h_ := findClass_of_methodNamed B.named; exact h_
  have hlocks := B.notSynchronized
  subst hsz
  have hD : va_D (va_A [] s.heap.size) [] := dd_nil
  generalize hAe : va_A [] s.heap.size = A at hD hQ
  have hA : ∀ q : Nat, s.heap.size ≤ q → A q := fun q h => by rw [← hAe]; exact Or.inr h
  have hS : va_S A s.heap s.heap [] := va_S.rf
  have hl := lv_entry ([.int a1]) (n := 1) (Nat.le_of_ble_eq_true rfl)
  rw [lg_entry_eq]
  generalize (lg_sl ([.int a1]) ++ List.replicate (1 - (lg_sl ([.int a1])).length) Slot.unset).toArray = ls at hl ⊢
  have hl : lv_has ls 1 [(0, .int a1)] := hl
  have zm5 : ((-5) : Int32).toInt = -5 := by decide
  have z1000000 : (1000000 : Int32).toInt = 1000000 := by decide
  refine lv_iload_n hx hb dB_36_0_0.1.1 rfl (lv_at hl 0 rfl) ?_
  refine lv_bipush (v := (-5)) hx hb dB_36_0_0.1.2.1 (by decide) ?_
  refine lv_icmp_ne (tgt := 11) hx hb dB_36_0_0.1.2.2 (by decide) (fun c_1 => ?_) (fun c_1 => ?_)
  · have t_1 : ¬ a1.toInt = ((-5) : Int32).toInt := fun h => c_1 (Int32.toInt_inj.mp h)
    refine lv_iload_n hx hb dB_36_0_0.2.2.1 rfl (lv_at hl 0 rfl) ?_
    rw [hQ]
    exact W.iret (v := a1) hx hb hr (fun t ht hW => ⟨⟨a1, (), rfl, trivial, trivial⟩, hS.F ht⟩) hS.2.2 dB_36_0_0.2.2.2
  · have t_1 : a1.toInt = ((-5) : Int32).toInt := congrArg Int32.toInt c_1
    refine lv_ldc (v := 1000000) hx hb hown (hts (.constant RX0 82 (1000000)) (List.mem_of_getElem? (i := 1) rfl)) dB_36_0_0.2.1.1 ?_
    refine lv_goto (tgt := 12) hx hb dB_36_0_0.2.1.2 (by decide) ?_
    rw [hQ]
    exact W.iret (v := 1000000) hx hb hr (fun t ht hW => ⟨⟨1000000, (), rfl, trivial, trivial⟩, hS.F ht⟩) hS.2.2 dB_36_0_0.2.2.2
end

section
set_option maxHeartbeats 4000000 in
set_option maxRecDepth 100000 in
theorem c_X0_sendOver (l : Launch) (D : va_G) (cy : Nat → ClassId) (sz : Nat) (xc : Nat) (xk : Nat) (clo : Nat) (cro : Nat) (c4 : Nat) (c5 : Nat) (c6 : Nat) (c7 : Nat) (c8 : Nat) (xn : Nat) (n1 : Nat) (n2 : Nat) (n3 : Nat) (n4 : Nat) (n5 : Nat) (vp : Int32) (vn : Int32) (fs : Nat → Int32) (fe : Nat → Int32) (rr : Nat → Nat) (Mr : Nat → Nat → Int32) (f4 : Nat → Int32) (f5 : Nat → Int32) (f6 : Nat → Int32) (a1 : Int32) (a2 : Int32) (a3 : Int32) (hvn : 0 ≤ vn.toInt ∧ vn.toInt ≤ 40) (q1 : 0 ≤ a1.toInt ∧ a1.toInt ≤ 11) (q2 : 0 ≤ a2.toInt ∧ a2.toInt ≤ 11) : Met l yX0_sendOver wsX0_sendOver ({ frames := 1, cells := 0, slots := 0, locals := 13 }) (va_Pc [.ref xc, .int a1, .int a2, .int a3] (fun U => U.heap.size = sz ∧ va_P D vwCl [ob0_0_ xc xn xk clo cro c4 c5 c6 c7 c8, ob3_0_ xn vp vn n1 n2 n3 n4 n5, ai_ cy n2 40 fs, ai_ cy n3 40 fe, aq_ cy 6 cro 12 (gf_ rr), ai_ cy (rr 0) 12 (Mr 0), ai_ cy (rr 1) 12 (Mr 1), ai_ cy (rr 2) 12 (Mr 2), ai_ cy (rr 3) 12 (Mr 3), ai_ cy (rr 4) 12 (Mr 4), ai_ cy (rr 5) 12 (Mr 5), ai_ cy (rr 6) 12 (Mr 6), ai_ cy (rr 7) 12 (Mr 7), ai_ cy (rr 8) 12 (Mr 8), ai_ cy (rr 9) 12 (Mr 9), ai_ cy (rr 10) 12 (Mr 10), ai_ cy (rr 11) 12 (Mr 11), ai_ cy c4 40 f4, ai_ cy c5 40 f5, ai_ cy c6 40 f6] U.heap ∧ kg_ D cy U ∧ va_D (fun _ => True) [ob0_0_ xc xn xk clo cro c4 c5 c6 c7 c8, ob3_0_ xn vp vn n1 n2 n3 n4 n5, ai_ cy n2 40 fs, ai_ cy n3 40 fe, aq_ cy 6 cro 12 (gf_ rr), ai_ cy (rr 0) 12 (Mr 0), ai_ cy (rr 1) 12 (Mr 1), ai_ cy (rr 2) 12 (Mr 2), ai_ cy (rr 3) 12 (Mr 3), ai_ cy (rr 4) 12 (Mr 4), ai_ cy (rr 5) 12 (Mr 5), ai_ cy (rr 6) 12 (Mr 6), ai_ cy (rr 7) 12 (Mr 7), ai_ cy (rr 8) 12 (Mr 8), ai_ cy (rr 9) 12 (Mr 9), ai_ cy (rr 10) 12 (Mr 10), ai_ cy (rr 11) 12 (Mr 11), ai_ cy c4 40 f4, ai_ cy c5 40 f5, ai_ cy c6 40 f6])) (va_Qv (fun (_ : Unit) => True) (fun (_ : Unit) (t : State) => ∃ (eMr : Nat → Nat → Int32), ∃ (e4 : Nat → Int32), va_P D vwCl [ob0_0_ xc xn xk clo cro c4 c5 c6 c7 c8, ob3_0_ xn vp vn n1 n2 n3 n4 n5, ai_ cy n2 40 fs, ai_ cy n3 40 fe, aq_ cy 6 cro 12 (gf_ rr), ai_ cy (rr 0) 12 (eMr 0), ai_ cy (rr 1) 12 (eMr 1), ai_ cy (rr 2) 12 (eMr 2), ai_ cy (rr 3) 12 (eMr 3), ai_ cy (rr 4) 12 (eMr 4), ai_ cy (rr 5) 12 (eMr 5), ai_ cy (rr 6) 12 (eMr 6), ai_ cy (rr 7) 12 (eMr 7), ai_ cy (rr 8) 12 (eMr 8), ai_ cy (rr 9) 12 (eMr 9), ai_ cy (rr 10) 12 (eMr 10), ai_ cy (rr 11) 12 (eMr 11), ai_ cy c4 40 e4, ai_ cy c5 40 f5, ai_ cy c6 40 f6] t.heap ∧ va_D (va_A [ob0_0_ xc xn xk clo cro c4 c5 c6 c7 c8, ob3_0_ xn vp vn n1 n2 n3 n4 n5, ai_ cy n2 40 fs, ai_ cy n3 40 fe, aq_ cy 6 cro 12 (gf_ rr), ai_ cy (rr 0) 12 (Mr 0), ai_ cy (rr 1) 12 (Mr 1), ai_ cy (rr 2) 12 (Mr 2), ai_ cy (rr 3) 12 (Mr 3), ai_ cy (rr 4) 12 (Mr 4), ai_ cy (rr 5) 12 (Mr 5), ai_ cy (rr 6) 12 (Mr 6), ai_ cy (rr 7) 12 (Mr 7), ai_ cy (rr 8) 12 (Mr 8), ai_ cy (rr 9) 12 (Mr 9), ai_ cy (rr 10) 12 (Mr 10), ai_ cy (rr 11) 12 (Mr 11), ai_ cy c4 40 f4, ai_ cy c5 40 f5, ai_ cy c6 40 f6] sz) [ob0_0_ xc xn xk clo cro c4 c5 c6 c7 c8, ob3_0_ xn vp vn n1 n2 n3 n4 n5, ai_ cy n2 40 fs, ai_ cy n3 40 fe, aq_ cy 6 cro 12 (gf_ rr), ai_ cy (rr 0) 12 (eMr 0), ai_ cy (rr 1) 12 (eMr 1), ai_ cy (rr 2) 12 (eMr 2), ai_ cy (rr 3) 12 (eMr 3), ai_ cy (rr 4) 12 (eMr 4), ai_ cy (rr 5) 12 (eMr 5), ai_ cy (rr 6) 12 (eMr 6), ai_ cy (rr 7) 12 (eMr 7), ai_ cy (rr 8) 12 (eMr 8), ai_ cy (rr 9) 12 (eMr 9), ai_ cy (rr 10) 12 (eMr 10), ai_ cy (rr 11) 12 (eMr 11), ai_ cy c4 40 e4, ai_ cy c5 40 f5, ai_ cy c6 40 f6]) (va_A [ob0_0_ xc xn xk clo cro c4 c5 c6 c7 c8, ob3_0_ xn vp vn n1 n2 n3 n4 n5, ai_ cy n2 40 fs, ai_ cy n3 40 fe, aq_ cy 6 cro 12 (gf_ rr), ai_ cy (rr 0) 12 (Mr 0), ai_ cy (rr 1) 12 (Mr 1), ai_ cy (rr 2) 12 (Mr 2), ai_ cy (rr 3) 12 (Mr 3), ai_ cy (rr 4) 12 (Mr 4), ai_ cy (rr 5) 12 (Mr 5), ai_ cy (rr 6) 12 (Mr 6), ai_ cy (rr 7) 12 (Mr 7), ai_ cy (rr 8) 12 (Mr 8), ai_ cy (rr 9) 12 (Mr 9), ai_ cy (rr 10) 12 (Mr 10), ai_ cy (rr 11) 12 (Mr 11), ai_ cy c4 40 f4, ai_ cy c5 40 f5, ai_ cy c6 40 f6] sz)) 0 0 (va_A [ob0_0_ xc xn xk clo cro c4 c5 c6 c7 c8, ob3_0_ xn vp vn n1 n2 n3 n4 n5, ai_ cy n2 40 fs, ai_ cy n3 40 fe, aq_ cy 6 cro 12 (gf_ rr), ai_ cy (rr 0) 12 (Mr 0), ai_ cy (rr 1) 12 (Mr 1), ai_ cy (rr 2) 12 (Mr 2), ai_ cy (rr 3) 12 (Mr 3), ai_ cy (rr 4) 12 (Mr 4), ai_ cy (rr 5) 12 (Mr 5), ai_ cy (rr 6) 12 (Mr 6), ai_ cy (rr 7) 12 (Mr 7), ai_ cy (rr 8) 12 (Mr 8), ai_ cy (rr 9) 12 (Mr 9), ai_ cy (rr 10) 12 (Mr 10), ai_ cy (rr 11) 12 (Mr 11), ai_ cy c4 40 f4, ai_ cy c5 40 f5, ai_ cy c6 40 f6] sz) := by
  refine ofQ (cc := cX0_sendOver) (maxL := 7) (ret := none) (by decide) rfl ?_
  intro p e s m args below meth c s₁ Q hQ B hml hv
  obtain ⟨rfl, hsz, hP, hK, hD0⟩ := hv
  have hG := hK.2
  have hK := hK.1
  have hx := B.exec
  have hb := B.bytes
  have hr := B.returns
  have hts := atoms_spec (ws := wsX0_sendOver) B.pre
  have hown : s.vm.findClass RX0 = some m.cls := by have h_ := findClass_of_methodNamed B.named; exact h_
  have hlocks := B.notSynchronized
  subst hsz
  have hD := hD0.self (sz := s.heap.size)
  generalize hAe : va_A [ob0_0_ xc xn xk clo cro c4 c5 c6 c7 c8, ob3_0_ xn vp vn n1 n2 n3 n4 n5, ai_ cy n2 40 fs, ai_ cy n3 40 fe, aq_ cy 6 cro 12 (gf_ rr), ai_ cy (rr 0) 12 (Mr 0), ai_ cy (rr 1) 12 (Mr 1), ai_ cy (rr 2) 12 (Mr 2), ai_ cy (rr 3) 12 (Mr 3), ai_ cy (rr 4) 12 (Mr 4), ai_ cy (rr 5) 12 (Mr 5), ai_ cy (rr 6) 12 (Mr 6), ai_ cy (rr 7) 12 (Mr 7), ai_ cy (rr 8) 12 (Mr 8), ai_ cy (rr 9) 12 (Mr 9), ai_ cy (rr 10) 12 (Mr 10), ai_ cy (rr 11) 12 (Mr 11), ai_ cy c4 40 f4, ai_ cy c5 40 f5, ai_ cy c6 40 f6] s.heap.size = A at hD hQ
  have hA : ∀ q : Nat, s.heap.size ≤ q → A q := fun q h => by rw [← hAe]; exact Or.inr h
  have hS : va_S A s.heap s.heap [] := va_S.rf
  have hl := lv_entry ([.ref xc, .int a1, .int a2, .int a3]) (n := 7) (Nat.le_of_ble_eq_true rfl)
  rw [lg_entry_eq]
  generalize (lg_sl ([.ref xc, .int a1, .int a2, .int a3]) ++ List.replicate (7 - (lg_sl ([.ref xc, .int a1, .int a2, .int a3])).length) Slot.unset).toArray = ls at hl ⊢
  have hl : lv_has ls 7 [(0, .ref xc), (1, .int a1), (2, .int a2), (3, .int a3)] := hl
  have z0 : (0 : Int32).toInt = 0 := by decide
  have z1 : (1 : Int32).toInt = 1 := by decide
  refine lv_aload_n hx hb dB_36_0_39.1.1.1.1 rfl (lv_at hl 0 rfl) ?_
  refine va_get (ci := 0) (v := .ref cro) (C := RX0) (T := TX0) (N := 9) hx hb hts (fun _ h => List.mem_cons_of_mem _ (List.mem_append_left _ (List.mem_append_right _ h))) hown hK.1 hP 0 rfl rfl 3 (by decide) (hts (.fieldLink RX0 16 "CutAtlas$Current" "room" "[[I") (List.mem_of_getElem? (i := 1) rfl)) (fun _ h9 => h9) rfl dB_36_0_39.1.1.1.2 ?_
  refine lv_iload_n hx hb dB_36_0_39.1.1.2.1 rfl (lv_at hl 1 rfl) ?_
  have h_1 : vp_in a1 12 := in_I (by first | with_reducible assumption | omega) (by omega)
  refine va_alda hx hb hG hP 4 rfl (i := a1) h_1 dB_36_0_39.1.1.2.2 ?_
  refine lv_topv (v' := .ref (rr a1.toNatClampNeg)) (gf_at h_1) ?_
  refine lv_iload_n hx hb dB_36_0_39.1.2.1.1 rfl (lv_at hl 2 rfl) ?_
  refine lv_dup2_11 hx hb dB_36_0_39.1.2.1.2 rfl rfl ?_
  have h_2 : vp_in a2 12 := in_I (by first | with_reducible assumption | omega) (by omega)
  have hPg : va_P D vwCl (([ob0_0_ xc xn xk clo cro c4 c5 c6 c7 c8, ob3_0_ xn vp vn n1 n2 n3 n4 n5, ai_ cy n2 40 fs, ai_ cy n3 40 fe, aq_ cy 6 cro 12 (gf_ rr)] : va_W) ++ (gro (cy 0) rr Mr ++ ([ai_ cy c4 40 f4, ai_ cy c5 40 f5, ai_ cy c6 40 f6] : va_W))) s.heap := hP
  refine va_gld (X := [ob0_0_ xc xn xk clo cro c4 c5 c6 c7 c8, ob3_0_ xn vp vn n1 n2 n3 n4 n5, ai_ cy n2 40 fs, ai_ cy n3 40 fe, aq_ cy 6 cro 12 (gf_ rr)]) (Y := [ai_ cy c4 40 f4, ai_ cy c5 40 f5, ai_ cy c6 40 f6]) (r := rr) (M := Mr) (k := a1.toNatClampNeg) hx hb hK.1 hPg 0 rfl (in_lt h_1) (i := a2) h_2 dB_36_0_39.1.2.2.1 ?_
  refine lv_topi (fun y_3 ey_3 => ?_)
  refine lv_iload_n hx hb dB_36_0_39.1.2.2.2 rfl (lv_at hl 3 rfl) ?_
  refine lv_isub hx hb dB_36_0_39.2.1.1.1 ?_
  refine lv_topi (fun y_4 ey_4 => ?_)
  have hPg : va_P D vwCl (([ob0_0_ xc xn xk clo cro c4 c5 c6 c7 c8, ob3_0_ xn vp vn n1 n2 n3 n4 n5, ai_ cy n2 40 fs, ai_ cy n3 40 fe, aq_ cy 6 cro 12 (gf_ rr)] : va_W) ++ (gro (cy 0) rr Mr ++ ([ai_ cy c4 40 f4, ai_ cy c5 40 f5, ai_ cy c6 40 f6] : va_W))) s.heap := hP
  have hDg : va_D A (([ob0_0_ xc xn xk clo cro c4 c5 c6 c7 c8, ob3_0_ xn vp vn n1 n2 n3 n4 n5, ai_ cy n2 40 fs, ai_ cy n3 40 fe, aq_ cy 6 cro 12 (gf_ rr)] : va_W) ++ (gro (cy 0) rr Mr ++ ([ai_ cy c4 40 f4, ai_ cy c5 40 f5, ai_ cy c6 40 f6] : va_W))) := hD
  refine va_gst (X := [ob0_0_ xc xn xk clo cro c4 c5 c6 c7 c8, ob3_0_ xn vp vn n1 n2 n3 n4 n5, ai_ cy n2 40 fs, ai_ cy n3 40 fe, aq_ cy 6 cro 12 (gf_ rr)]) (Y := [ai_ cy c4 40 f4, ai_ cy c5 40 f5, ai_ cy c6 40 f6]) (r := rr) (M := Mr) (k := a1.toNatClampNeg) hx hb hK.1 hPg hDg hS 0 rfl (in_lt h_1) (i := a2) h_2 dB_36_0_39.2.1.1.2 (fun H locs hP hD hS => ?_)
  obtain ⟨M_6, eM_6⟩ : ∃ g : Nat → Nat → Int32, g = va_up Mr a1.toNatClampNeg (upd (Mr a1.toNatClampNeg) a2.toNatClampNeg y_4) := ⟨_, rfl⟩
  refine pd_K (D := D) (cl := vwCl) (H := H) (A := A) [ob0_0_ xc xn xk clo cro c4 c5 c6 c7 c8, ob3_0_ xn vp vn n1 n2 n3 n4 n5, ai_ cy n2 40 fs, ai_ cy n3 40 fe, aq_ cy 6 cro 12 (gf_ rr), ai_ cy (rr 0) 12 (M_6 0), ai_ cy (rr 1) 12 (M_6 1), ai_ cy (rr 2) 12 (M_6 2), ai_ cy (rr 3) 12 (M_6 3), ai_ cy (rr 4) 12 (M_6 4), ai_ cy (rr 5) 12 (M_6 5), ai_ cy (rr 6) 12 (M_6 6), ai_ cy (rr 7) 12 (M_6 7), ai_ cy (rr 8) 12 (M_6 8), ai_ cy (rr 9) 12 (M_6 9), ai_ cy (rr 10) 12 (M_6 10), ai_ cy (rr 11) 12 (M_6 11), ai_ cy c4 40 f4, ai_ cy c5 40 f5, ai_ cy c6 40 f6] (by rw [eM_6]; exact hP) (by rw [eM_6]; exact hD) (fun hP hD => ?_)
  refine lv_aload_n hx hb dB_36_0_39.2.1.2.1 rfl (lv_at hl 0 rfl) ?_
  refine va_get (ci := 0) (v := .ref cro) (C := RX0) (T := TX0) (N := 9) hx hb hts (fun _ h => List.mem_cons_of_mem _ (List.mem_append_left _ (List.mem_append_right _ h))) hown hK.1 hP 0 rfl rfl 3 (by decide) (hts (.fieldLink RX0 16 "CutAtlas$Current" "room" "[[I") (List.mem_of_getElem? (i := 1) rfl)) (fun _ h9 => h9) rfl dB_36_0_39.2.1.2.2 ?_
  refine lv_iload_n hx hb dB_36_0_39.2.2.1.1 rfl (lv_at hl 2 rfl) ?_
  refine va_alda hx hb hG hP 4 rfl (i := a2) h_2 dB_36_0_39.2.2.1.2 ?_
  refine lv_topv (v' := .ref (rr a2.toNatClampNeg)) (gf_at h_2) ?_
  refine lv_iload_n hx hb dB_36_0_39.2.2.2.1 rfl (lv_at hl 1 rfl) ?_
  refine lv_dup2_11 hx hb dB_36_0_39.2.2.2.2 rfl rfl ?_
  have hPg : va_P D vwCl (([ob0_0_ xc xn xk clo cro c4 c5 c6 c7 c8, ob3_0_ xn vp vn n1 n2 n3 n4 n5, ai_ cy n2 40 fs, ai_ cy n3 40 fe, aq_ cy 6 cro 12 (gf_ rr)] : va_W) ++ (gro (cy 0) rr M_6 ++ ([ai_ cy c4 40 f4, ai_ cy c5 40 f5, ai_ cy c6 40 f6] : va_W))) H := hP
  refine va_gld (X := [ob0_0_ xc xn xk clo cro c4 c5 c6 c7 c8, ob3_0_ xn vp vn n1 n2 n3 n4 n5, ai_ cy n2 40 fs, ai_ cy n3 40 fe, aq_ cy 6 cro 12 (gf_ rr)]) (Y := [ai_ cy c4 40 f4, ai_ cy c5 40 f5, ai_ cy c6 40 f6]) (r := rr) (M := M_6) (k := a2.toNatClampNeg) hx hb hK.1 hPg 0 rfl (in_lt h_2) (i := a1) h_1 dB_36_0_40.1.1.1.1 ?_
  refine lv_topi (fun y_9 ey_9 => ?_)
  refine lv_iload_n hx hb dB_36_0_40.1.1.1.2 rfl (lv_at hl 3 rfl) ?_
  refine lv_iadd hx hb dB_36_0_40.1.1.2.1 ?_
  refine lv_topi (fun y_10 ey_10 => ?_)
  have hPg : va_P D vwCl (([ob0_0_ xc xn xk clo cro c4 c5 c6 c7 c8, ob3_0_ xn vp vn n1 n2 n3 n4 n5, ai_ cy n2 40 fs, ai_ cy n3 40 fe, aq_ cy 6 cro 12 (gf_ rr)] : va_W) ++ (gro (cy 0) rr M_6 ++ ([ai_ cy c4 40 f4, ai_ cy c5 40 f5, ai_ cy c6 40 f6] : va_W))) H := hP
  have hDg : va_D A (([ob0_0_ xc xn xk clo cro c4 c5 c6 c7 c8, ob3_0_ xn vp vn n1 n2 n3 n4 n5, ai_ cy n2 40 fs, ai_ cy n3 40 fe, aq_ cy 6 cro 12 (gf_ rr)] : va_W) ++ (gro (cy 0) rr M_6 ++ ([ai_ cy c4 40 f4, ai_ cy c5 40 f5, ai_ cy c6 40 f6] : va_W))) := hD
  refine va_gst (X := [ob0_0_ xc xn xk clo cro c4 c5 c6 c7 c8, ob3_0_ xn vp vn n1 n2 n3 n4 n5, ai_ cy n2 40 fs, ai_ cy n3 40 fe, aq_ cy 6 cro 12 (gf_ rr)]) (Y := [ai_ cy c4 40 f4, ai_ cy c5 40 f5, ai_ cy c6 40 f6]) (r := rr) (M := M_6) (k := a2.toNatClampNeg) hx hb hK.1 hPg hDg hS 0 rfl (in_lt h_2) (i := a1) h_1 dB_36_0_40.1.1.2.2 (fun H locs hP hD hS => ?_)
  obtain ⟨M_12, eM_12⟩ : ∃ g : Nat → Nat → Int32, g = va_up M_6 a2.toNatClampNeg (upd (M_6 a2.toNatClampNeg) a1.toNatClampNeg y_10) := ⟨_, rfl⟩
  refine pd_K (D := D) (cl := vwCl) (H := H) (A := A) [ob0_0_ xc xn xk clo cro c4 c5 c6 c7 c8, ob3_0_ xn vp vn n1 n2 n3 n4 n5, ai_ cy n2 40 fs, ai_ cy n3 40 fe, aq_ cy 6 cro 12 (gf_ rr), ai_ cy (rr 0) 12 (M_12 0), ai_ cy (rr 1) 12 (M_12 1), ai_ cy (rr 2) 12 (M_12 2), ai_ cy (rr 3) 12 (M_12 3), ai_ cy (rr 4) 12 (M_12 4), ai_ cy (rr 5) 12 (M_12 5), ai_ cy (rr 6) 12 (M_12 6), ai_ cy (rr 7) 12 (M_12 7), ai_ cy (rr 8) 12 (M_12 8), ai_ cy (rr 9) 12 (M_12 9), ai_ cy (rr 10) 12 (M_12 10), ai_ cy (rr 11) 12 (M_12 11), ai_ cy c4 40 f4, ai_ cy c5 40 f5, ai_ cy c6 40 f6] (by rw [eM_12]; exact hP) (by rw [eM_12]; exact hD) (fun hP hD => ?_)
  refine lv_iload_n hx hb dB_36_0_40.1.2.1.1 rfl (lv_at hl 3 rfl) ?_
  refine lv_istore (lv' := [(4, .int a3), (0, .ref xc), (1, .int a1), (2, .int a2), (3, .int a3)]) hx hb dB_36_0_40.1.2.1.2 hl (by decide) rfl (fun ls hl => ?_)
  refine lv_iconst (v := 0) hx hb dB_36_0_40.1.2.2.1 (by decide) ?_
  refine lv_istore (lv' := [(5, .int 0), (4, .int a3), (0, .ref xc), (1, .int a1), (2, .int a2), (3, .int a3)]) hx hb dB_36_0_40.1.2.2.2 hl (by decide) rfl (fun ls hl => ?_)
  suffices LOOP_13 : ∀ (n_13 : Nat) (x5_13 : Int32) (x4_13 : Int32) (c_c4_13 : Nat → Int32) (H : Heap) (locs : List Loc) (ls : Array Slot), vn.toInt - x5_13.toInt < (n_13 : Int) → (0 ≤ x5_13.toInt) → (x5_13.toInt ≤ vn.toInt) → pd_2 D vwCl A [ob0_0_ xc xn xk clo cro c4 c5 c6 c7 c8, ob3_0_ xn vp vn n1 n2 n3 n4 n5, ai_ cy n2 40 fs, ai_ cy n3 40 fe, aq_ cy 6 cro 12 (gf_ rr), ai_ cy (rr 0) 12 (M_12 0), ai_ cy (rr 1) 12 (M_12 1), ai_ cy (rr 2) 12 (M_12 2), ai_ cy (rr 3) 12 (M_12 3), ai_ cy (rr 4) 12 (M_12 4), ai_ cy (rr 5) 12 (M_12 5), ai_ cy (rr 6) 12 (M_12 6), ai_ cy (rr 7) 12 (M_12 7), ai_ cy (rr 8) 12 (M_12 8), ai_ cy (rr 9) 12 (M_12 9), ai_ cy (rr 10) 12 (M_12 10), ai_ cy (rr 11) 12 (M_12 11), ai_ cy c4 40 c_c4_13, ai_ cy c5 40 f5, ai_ cy c6 40 f6] H → va_S A s.heap H locs → lv_has ls 7 [(5, .int x5_13), (4, .int x4_13), (0, .ref xc), (1, .int a1), (2, .int a2), (3, .int a3)] → W p l e ({ frames := 1, cells := 0, slots := 0, locals := 13 } : Room) s m (([.ref xc, .int a1, .int a2, .int a3] : List Value).toArray) below meth c H locs 0 0 Q (F0 m 30 ls []) from LOOP_13 ((vn.toInt - (0 : Int32).toInt).toNat + 1) (0 : Int32) a3 f4 _ _ _ (by omega) (by first | with_reducible assumption | omega | assumption) (by first | with_reducible assumption | omega | assumption) ⟨hP, hD⟩ hS (lv_sub hl [0, 1, 2, 3, 4, 5] rfl)
  intro n_13
  induction n_13 with
  | zero =>
    intro x5_13 x4_13 c_c4_13 H locs ls hm v0_13 v1_13 hPD hS hl; obtain ⟨hP, hD⟩ := hPD
    exact absurd hm (by omega)
  | succ n_13 ih_13 =>
    intro x5_13 x4_13 c_c4_13 H locs ls hm v0_13 v1_13 hPD hS hl; obtain ⟨hP, hD⟩ := hPD
    refine lv_iload hx hb dB_36_0_40.2.1.1.1 (lv_at hl 0 rfl) ?_
    refine lv_aload_n hx hb dB_36_0_40.2.1.1.2 rfl (lv_at hl 2 rfl) ?_
    refine va_get (ci := 0) (v := .ref xn) (C := RX0) (T := TX0) (N := 9) hx hb hts (fun _ h => List.mem_cons_of_mem _ (List.mem_append_left _ (List.mem_append_right _ h))) hown hK.1 hP 0 rfl rfl 0 (by decide) (hts (.fieldLink RX0 35 "CutAtlas$Current" "net" "LCutAtlas$Net;") (List.mem_of_getElem? (i := 2) rfl)) (fun _ h9 => h9) rfl dB_36_0_40.2.1.2.1 ?_
    refine va_get (ci := 3) (v := .int vn) (C := RX3) (T := TX3) (N := 7) hx hb hts (fun _ h => List.mem_cons_of_mem _ (List.mem_append_right _ h)) hown hK.1 hP 1 rfl rfl 1 (by decide) (hts (.fieldLink RX0 55 "CutAtlas$Net" "lines" "I") (List.mem_of_getElem? (i := 3) rfl)) (fun _ h9 => h9) rfl dB_36_0_40.2.1.2.2 ?_
    refine lv_icmp_ge (tgt := 194) hx hb dB_36_0_40.2.2.1.1 (by decide) (fun c_14 => ?_) (fun c_14 => ?_)
    · have t_14 : vn.toInt ≤ x5_13.toInt := Int32.le_iff_toInt_le.mp c_14
      rw [hQ]
      exact W.vret hx hb hr (fun t ht hW => ⟨⟨(), rfl, trivial, M_12, c_c4_13, by rw [ht]; exact hP, hD⟩, hS.F ht⟩) hS.2.2 dB_36_0_45.2.2.2.2
    · have t_14 : ¬ vn.toInt ≤ x5_13.toInt := fun h => c_14 (Int32.le_iff_toInt_le.mpr h)
      refine lv_iload hx hb dB_36_0_40.2.2.1.2 (lv_at hl 1 rfl) ?_
      refine lv_if_le (tgt := 194) hx hb dB_36_0_40.2.2.2.1 (by decide) (fun c_15 => ?_) (fun c_15 => ?_)
      · have t_15 : x4_13.toInt ≤ (0 : Int32).toInt := Int32.le_iff_toInt_le.mp c_15
        rw [hQ]
        exact W.vret hx hb hr (fun t ht hW => ⟨⟨(), rfl, trivial, M_12, c_c4_13, by rw [ht]; exact hP, hD⟩, hS.F ht⟩) hS.2.2 dB_36_0_45.2.2.2.2
      · have t_15 : ¬ x4_13.toInt ≤ (0 : Int32).toInt := fun h => c_15 (Int32.le_iff_toInt_le.mpr h)
        refine lv_aload_n hx hb dB_36_0_40.2.2.2.2 rfl (lv_at hl 2 rfl) ?_
        refine va_get (ci := 0) (v := .ref xn) (C := RX0) (T := TX0) (N := 9) hx hb hts (fun _ h => List.mem_cons_of_mem _ (List.mem_append_left _ (List.mem_append_right _ h))) hown hK.1 hP 0 rfl rfl 0 (by decide) (hts (.fieldLink RX0 35 "CutAtlas$Current" "net" "LCutAtlas$Net;") (List.mem_of_getElem? (i := 2) rfl)) (fun _ h9 => h9) rfl dB_36_0_41.1.1.1.1 ?_
        refine va_get (ci := 3) (v := .ref n2) (C := RX3) (T := TX3) (N := 7) hx hb hts (fun _ h => List.mem_cons_of_mem _ (List.mem_append_right _ h)) hown hK.1 hP 1 rfl rfl 3 (by decide) (hts (.fieldLink RX0 76 "CutAtlas$Net" "starts" "[I") (List.mem_of_getElem? (i := 4) rfl)) (fun _ h9 => h9) rfl dB_36_0_41.1.1.1.2 ?_
        refine lv_iload hx hb dB_36_0_41.1.1.2.1 (lv_at hl 0 rfl) ?_
        have h_16 : vp_in x5_13 40 := in_I (by first | with_reducible assumption | omega) (by omega)
        refine va_iald hx hb hK.1 hP 2 0 rfl rfl (i := x5_13) h_16 dB_36_0_41.1.1.2.2 ?_
        refine lv_topi (fun y_17 ey_17 => ?_)
        refine lv_iload_n hx hb dB_36_0_41.1.2.1.1 rfl (lv_at hl 3 rfl) ?_
        refine lv_icmp_ne (tgt := 119) hx hb dB_36_0_41.1.2.1.2 (by decide) (fun c_18 => ?_) (fun c_18 => ?_)
        · have t_18 : ¬ y_17.toInt = a1.toInt := fun h => c_18 (Int32.toInt_inj.mp h)
          refine lv_aload_n hx hb dB_36_0_43.1.2.2.1 rfl (lv_at hl 2 rfl) ?_
          refine va_get (ci := 0) (v := .ref xn) (C := RX0) (T := TX0) (N := 9) hx hb hts (fun _ h => List.mem_cons_of_mem _ (List.mem_append_left _ (List.mem_append_right _ h))) hown hK.1 hP 0 rfl rfl 0 (by decide) (hts (.fieldLink RX0 35 "CutAtlas$Current" "net" "LCutAtlas$Net;") (List.mem_of_getElem? (i := 2) rfl)) (fun _ h9 => h9) rfl dB_36_0_43.1.2.2.2 ?_
          refine va_get (ci := 3) (v := .ref n2) (C := RX3) (T := TX3) (N := 7) hx hb hts (fun _ h => List.mem_cons_of_mem _ (List.mem_append_right _ h)) hown hK.1 hP 1 rfl rfl 3 (by decide) (hts (.fieldLink RX0 76 "CutAtlas$Net" "starts" "[I") (List.mem_of_getElem? (i := 4) rfl)) (fun _ h9 => h9) rfl dB_36_0_43.2.1.1.1 ?_
          refine lv_iload hx hb dB_36_0_43.2.1.1.2 (lv_at hl 0 rfl) ?_
          refine va_iald hx hb hK.1 hP 2 0 rfl rfl (i := x5_13) h_16 dB_36_0_43.2.1.2.1 ?_
          refine lv_topi (fun y_20 ey_20 => ?_)
          have e_ := (ey_20.trans ey_17.symm).symm
          subst e_
          skip
          refine lv_iload_n hx hb dB_36_0_43.2.1.2.2 rfl (lv_at hl 4 rfl) ?_
          refine lv_icmp_ne (tgt := 188) hx hb dB_36_0_43.2.2.1.1 (by decide) (fun c_21 => ?_) (fun c_21 => ?_)
          · have t_21 : ¬ y_17.toInt = a2.toInt := fun h => c_21 (Int32.toInt_inj.mp h)
            obtain ⟨y_22, ey_22⟩ : ∃ y : Int32, y = x5_13 + 1 := ⟨_, rfl⟩
            have ty_22 : y_22.toInt = x5_13.toInt + (1 : Int32).toInt := by rw [ey_22]; exact addI (by omega) (by omega)
            refine lv_iinc (v := y_22) (lv' := [(5, .int y_22), (4, .int x4_13), (0, .ref xc), (1, .int a1), (2, .int a2), (3, .int a3)]) hx hb dB_36_0_45.2.2.1.2 hl (k := 0) rfl (by rw [ey_22]; rfl) (by decide) rfl (fun ls hl => ?_)
            refine lv_goto (tgt := 30) hx hb dB_36_0_45.2.2.2.1 (by decide) ?_
            exact ih_13 y_22 x4_13 c_c4_13 _ _ _ (by omega) (by first | with_reducible assumption | omega | assumption) (by first | with_reducible assumption | omega | assumption) ⟨hP, hD⟩ hS (lv_sub hl [0, 1, 2, 3, 4, 5] rfl)
          · have t_21 : y_17.toInt = a2.toInt := congrArg Int32.toInt c_21
            refine lv_aload_n hx hb dB_36_0_43.2.2.1.2 rfl (lv_at hl 2 rfl) ?_
            refine va_get (ci := 0) (v := .ref xn) (C := RX0) (T := TX0) (N := 9) hx hb hts (fun _ h => List.mem_cons_of_mem _ (List.mem_append_left _ (List.mem_append_right _ h))) hown hK.1 hP 0 rfl rfl 0 (by decide) (hts (.fieldLink RX0 35 "CutAtlas$Current" "net" "LCutAtlas$Net;") (List.mem_of_getElem? (i := 2) rfl)) (fun _ h9 => h9) rfl dB_36_0_43.2.2.2.1 ?_
            refine va_get (ci := 3) (v := .ref n3) (C := RX3) (T := TX3) (N := 7) hx hb hts (fun _ h => List.mem_cons_of_mem _ (List.mem_append_right _ h)) hown hK.1 hP 1 rfl rfl 4 (by decide) (hts (.fieldLink RX0 79 "CutAtlas$Net" "ends" "[I") (List.mem_of_getElem? (i := 5) rfl)) (fun _ h9 => h9) rfl dB_36_0_43.2.2.2.2 ?_
            refine lv_iload hx hb dB_36_0_44.1.1.1.1 (lv_at hl 0 rfl) ?_
            refine va_iald hx hb hK.1 hP 3 0 rfl rfl (i := x5_13) h_16 dB_36_0_44.1.1.1.2 ?_
            refine lv_topi (fun y_24 ey_24 => ?_)
            refine lv_iload_n hx hb dB_36_0_44.1.1.2.1 rfl (lv_at hl 3 rfl) ?_
            refine lv_icmp_ne (tgt := 188) hx hb dB_36_0_44.1.1.2.2 (by decide) (fun c_25 => ?_) (fun c_25 => ?_)
            · have t_25 : ¬ y_24.toInt = a1.toInt := fun h => c_25 (Int32.toInt_inj.mp h)
              obtain ⟨y_26, ey_26⟩ : ∃ y : Int32, y = x5_13 + 1 := ⟨_, rfl⟩
              have ty_26 : y_26.toInt = x5_13.toInt + (1 : Int32).toInt := by rw [ey_26]; exact addI (by omega) (by omega)
              refine lv_iinc (v := y_26) (lv' := [(5, .int y_26), (4, .int x4_13), (0, .ref xc), (1, .int a1), (2, .int a2), (3, .int a3)]) hx hb dB_36_0_45.2.2.1.2 hl (k := 0) rfl (by rw [ey_26]; rfl) (by decide) rfl (fun ls hl => ?_)
              refine lv_goto (tgt := 30) hx hb dB_36_0_45.2.2.2.1 (by decide) ?_
              exact ih_13 y_26 x4_13 c_c4_13 _ _ _ (by omega) (by first | with_reducible assumption | omega | assumption) (by first | with_reducible assumption | omega | assumption) ⟨hP, hD⟩ hS (lv_sub hl [0, 1, 2, 3, 4, 5] rfl)
            · have t_25 : y_24.toInt = a1.toInt := congrArg Int32.toInt c_25
              refine lv_iload hx hb dB_36_0_44.1.2.1.1 (lv_at hl 1 rfl) ?_
              refine lv_aload_n hx hb dB_36_0_44.1.2.1.2 rfl (lv_at hl 2 rfl) ?_
              refine va_get (ci := 0) (v := .ref c6) (C := RX0) (T := TX0) (N := 9) hx hb hts (fun _ h => List.mem_cons_of_mem _ (List.mem_append_left _ (List.mem_append_right _ h))) hown hK.1 hP 0 rfl rfl 6 (by decide) (hts (.fieldLink RX0 26 "CutAtlas$Current" "letsBack" "[I") (List.mem_of_getElem? (i := 12) rfl)) (fun _ h9 => h9) rfl dB_36_0_44.1.2.2.1 ?_
              refine lv_iload hx hb dB_36_0_44.1.2.2.2 (lv_at hl 0 rfl) ?_
              refine va_iald hx hb hK.1 hP 19 0 rfl rfl (i := x5_13) h_16 dB_36_0_44.2.1.1.1 ?_
              refine lv_topi (fun y_28 ey_28 => ?_)
              refine lv_aload_n hx hb dB_36_0_44.2.1.1.2 rfl (lv_at hl 2 rfl) ?_
              refine va_get (ci := 0) (v := .ref c4) (C := RX0) (T := TX0) (N := 9) hx hb hts (fun _ h => List.mem_cons_of_mem _ (List.mem_append_left _ (List.mem_append_right _ h))) hown hK.1 hP 0 rfl rfl 4 (by decide) (hts (.fieldLink RX0 19 "CutAtlas$Current" "flowing" "[I") (List.mem_of_getElem? (i := 7) rfl)) (fun _ h9 => h9) rfl dB_36_0_44.2.1.2.1 ?_
              refine lv_iload hx hb dB_36_0_44.2.1.2.2 (lv_at hl 0 rfl) ?_
              refine va_iald hx hb hK.1 hP 17 0 rfl rfl (i := x5_13) h_16 dB_36_0_44.2.2.1.1 ?_
              refine lv_topi (fun y_30 ey_30 => ?_)
              refine lv_iadd hx hb dB_36_0_44.2.2.1.2 ?_
              refine lv_topi (fun y_31 ey_31 => ?_)
              refine va_mmin hx hb (by rw [hml]; exact hl.1.symm) hown (hts (.methodLink RX0 101 Lib.Math.min.name) (List.mem_of_getElem? (i := 8) rfl)) (hts (.static Lib.Math.min.name) (List.mem_of_getElem? (i := 9) rfl)) (hts (.initialized "java/lang/Math") (List.mem_of_getElem? (i := 10) rfl)) (hts (.code Lib.Math.min.name Lib.Math.min.code 2 (some .int)) (List.mem_of_getElem? (i := 11) rfl)) (Nat.le_of_ble_eq_true rfl) (Nat.le_of_ble_eq_true rfl) (Nat.le_of_ble_eq_true rfl) (Nat.le_of_ble_eq_true rfl) dB_36_0_44.2.2.2.1 ?_
              refine lv_topi (fun y_32 ey_32 => ?_)
              have ty_32 : y_32 = x4_13 ∨ y_32 = y_31 := by rw [ey_32]; split <;> simp
              have iy_32 : y_32.toInt = x4_13.toInt ∨ y_32.toInt = y_31.toInt := by rcases ty_32 with h | h <;> rw [h] <;> simp
              refine lv_istore (lv' := [(6, .int y_32), (5, .int x5_13), (4, .int x4_13), (0, .ref xc), (1, .int a1), (2, .int a2), (3, .int a3)]) hx hb dB_36_0_44.2.2.2.2 hl (by decide) rfl (fun ls hl => ?_)
              refine lv_aload_n hx hb dB_36_0_45.1.1.1 rfl (lv_at hl 3 rfl) ?_
              refine va_get (ci := 0) (v := .ref c4) (C := RX0) (T := TX0) (N := 9) hx hb hts (fun _ h => List.mem_cons_of_mem _ (List.mem_append_left _ (List.mem_append_right _ h))) hown hK.1 hP 0 rfl rfl 4 (by decide) (hts (.fieldLink RX0 19 "CutAtlas$Current" "flowing" "[I") (List.mem_of_getElem? (i := 7) rfl)) (fun _ h9 => h9) rfl dB_36_0_45.1.1.2.1 ?_
              refine lv_iload hx hb dB_36_0_45.1.1.2.2 (lv_at hl 1 rfl) ?_
              refine lv_dup2_11 hx hb dB_36_0_45.1.2.1.1 rfl rfl ?_
              refine va_iald hx hb hK.1 hP 17 0 rfl rfl (i := x5_13) h_16 dB_36_0_45.1.2.1.2 ?_
              refine lv_topi (fun y_34 ey_34 => ?_)
              have e_ := (ey_34.trans ey_30.symm).symm
              subst e_
              skip
              refine lv_iload hx hb dB_36_0_45.1.2.2.1 (lv_at hl 0 rfl) ?_
              refine lv_isub hx hb dB_36_0_45.1.2.2.2 ?_
              refine lv_topi (fun y_35 ey_35 => ?_)
              refine va_iast hx hb hK.1 hP hD hS 17 0 rfl rfl (i := x5_13) h_16 dB_36_0_45.2.1.1.1 (fun H locs hP hD hS => ?_)
              obtain ⟨f_37, ef_37⟩ : ∃ g : Nat → Int32, g = upd c_c4_13 x5_13.toNatClampNeg y_35 := ⟨_, rfl⟩
              refine pd_K (D := D) (cl := vwCl) (H := H) (A := A) [ob0_0_ xc xn xk clo cro c4 c5 c6 c7 c8, ob3_0_ xn vp vn n1 n2 n3 n4 n5, ai_ cy n2 40 fs, ai_ cy n3 40 fe, aq_ cy 6 cro 12 (gf_ rr), ai_ cy (rr 0) 12 (M_12 0), ai_ cy (rr 1) 12 (M_12 1), ai_ cy (rr 2) 12 (M_12 2), ai_ cy (rr 3) 12 (M_12 3), ai_ cy (rr 4) 12 (M_12 4), ai_ cy (rr 5) 12 (M_12 5), ai_ cy (rr 6) 12 (M_12 6), ai_ cy (rr 7) 12 (M_12 7), ai_ cy (rr 8) 12 (M_12 8), ai_ cy (rr 9) 12 (M_12 9), ai_ cy (rr 10) 12 (M_12 10), ai_ cy (rr 11) 12 (M_12 11), ai_ cy c4 40 f_37, ai_ cy c5 40 f5, ai_ cy c6 40 f6] (by rw [ef_37]; exact hP) (by rw [ef_37]; exact hD) (fun hP hD => ?_)
              refine lv_iload hx hb dB_36_0_45.2.1.1.2 (lv_at hl 2 rfl) ?_
              refine lv_iload hx hb dB_36_0_45.2.1.2.1 (lv_at hl 0 rfl) ?_
              refine lv_isub hx hb dB_36_0_45.2.1.2.2 ?_
              refine lv_topi (fun y_38 ey_38 => ?_)
              refine lv_istore (lv' := [(4, .int y_38), (6, .int y_32), (5, .int x5_13), (0, .ref xc), (1, .int a1), (2, .int a2), (3, .int a3)]) hx hb dB_36_0_45.2.2.1.1 hl (by decide) rfl (fun ls hl => ?_)
              obtain ⟨y_39, ey_39⟩ : ∃ y : Int32, y = x5_13 + 1 := ⟨_, rfl⟩
              have ty_39 : y_39.toInt = x5_13.toInt + (1 : Int32).toInt := by rw [ey_39]; exact addI (by omega) (by omega)
              refine lv_iinc (v := y_39) (lv' := [(5, .int y_39), (4, .int y_38), (6, .int y_32), (0, .ref xc), (1, .int a1), (2, .int a2), (3, .int a3)]) hx hb dB_36_0_45.2.2.1.2 hl (k := 2) rfl (by rw [ey_39]; rfl) (by decide) rfl (fun ls hl => ?_)
              refine lv_goto (tgt := 30) hx hb dB_36_0_45.2.2.2.1 (by decide) ?_
              exact ih_13 y_39 y_38 f_37 _ _ _ (by omega) (by first | with_reducible assumption | omega | assumption) (by first | with_reducible assumption | omega | assumption) ⟨hP, hD⟩ hS (lv_sub hl [0, 1, 3, 4, 5, 6] rfl)
        · have t_18 : y_17.toInt = a1.toInt := congrArg Int32.toInt c_18
          refine lv_aload_n hx hb dB_36_0_41.1.2.2.1 rfl (lv_at hl 2 rfl) ?_
          refine va_get (ci := 0) (v := .ref xn) (C := RX0) (T := TX0) (N := 9) hx hb hts (fun _ h => List.mem_cons_of_mem _ (List.mem_append_left _ (List.mem_append_right _ h))) hown hK.1 hP 0 rfl rfl 0 (by decide) (hts (.fieldLink RX0 35 "CutAtlas$Current" "net" "LCutAtlas$Net;") (List.mem_of_getElem? (i := 2) rfl)) (fun _ h9 => h9) rfl dB_36_0_41.1.2.2.2 ?_
          refine va_get (ci := 3) (v := .ref n3) (C := RX3) (T := TX3) (N := 7) hx hb hts (fun _ h => List.mem_cons_of_mem _ (List.mem_append_right _ h)) hown hK.1 hP 1 rfl rfl 4 (by decide) (hts (.fieldLink RX0 79 "CutAtlas$Net" "ends" "[I") (List.mem_of_getElem? (i := 5) rfl)) (fun _ h9 => h9) rfl dB_36_0_41.2.1.1.1 ?_
          refine lv_iload hx hb dB_36_0_41.2.1.1.2 (lv_at hl 0 rfl) ?_
          refine va_iald hx hb hK.1 hP 3 0 rfl rfl (i := x5_13) h_16 dB_36_0_41.2.1.2.1 ?_
          refine lv_topi (fun y_41 ey_41 => ?_)
          refine lv_iload_n hx hb dB_36_0_41.2.1.2.2 rfl (lv_at hl 4 rfl) ?_
          refine lv_icmp_ne (tgt := 119) hx hb dB_36_0_41.2.2.1.1 (by decide) (fun c_42 => ?_) (fun c_42 => ?_)
          · have t_42 : ¬ y_41.toInt = a2.toInt := fun h => c_42 (Int32.toInt_inj.mp h)
            refine lv_aload_n hx hb dB_36_0_43.1.2.2.1 rfl (lv_at hl 2 rfl) ?_
            refine va_get (ci := 0) (v := .ref xn) (C := RX0) (T := TX0) (N := 9) hx hb hts (fun _ h => List.mem_cons_of_mem _ (List.mem_append_left _ (List.mem_append_right _ h))) hown hK.1 hP 0 rfl rfl 0 (by decide) (hts (.fieldLink RX0 35 "CutAtlas$Current" "net" "LCutAtlas$Net;") (List.mem_of_getElem? (i := 2) rfl)) (fun _ h9 => h9) rfl dB_36_0_43.1.2.2.2 ?_
            refine va_get (ci := 3) (v := .ref n2) (C := RX3) (T := TX3) (N := 7) hx hb hts (fun _ h => List.mem_cons_of_mem _ (List.mem_append_right _ h)) hown hK.1 hP 1 rfl rfl 3 (by decide) (hts (.fieldLink RX0 76 "CutAtlas$Net" "starts" "[I") (List.mem_of_getElem? (i := 4) rfl)) (fun _ h9 => h9) rfl dB_36_0_43.2.1.1.1 ?_
            refine lv_iload hx hb dB_36_0_43.2.1.1.2 (lv_at hl 0 rfl) ?_
            refine va_iald hx hb hK.1 hP 2 0 rfl rfl (i := x5_13) h_16 dB_36_0_43.2.1.2.1 ?_
            refine lv_topi (fun y_44 ey_44 => ?_)
            have e_ := (ey_44.trans ey_17.symm).symm
            subst e_
            skip
            refine lv_iload_n hx hb dB_36_0_43.2.1.2.2 rfl (lv_at hl 4 rfl) ?_
            refine lv_icmp_ne (tgt := 188) hx hb dB_36_0_43.2.2.1.1 (by decide) (fun c_45 => ?_) (fun c_45 => ?_)
            · have t_45 : ¬ y_17.toInt = a2.toInt := fun h => c_45 (Int32.toInt_inj.mp h)
              obtain ⟨y_46, ey_46⟩ : ∃ y : Int32, y = x5_13 + 1 := ⟨_, rfl⟩
              have ty_46 : y_46.toInt = x5_13.toInt + (1 : Int32).toInt := by rw [ey_46]; exact addI (by omega) (by omega)
              refine lv_iinc (v := y_46) (lv' := [(5, .int y_46), (4, .int x4_13), (0, .ref xc), (1, .int a1), (2, .int a2), (3, .int a3)]) hx hb dB_36_0_45.2.2.1.2 hl (k := 0) rfl (by rw [ey_46]; rfl) (by decide) rfl (fun ls hl => ?_)
              refine lv_goto (tgt := 30) hx hb dB_36_0_45.2.2.2.1 (by decide) ?_
              exact ih_13 y_46 x4_13 c_c4_13 _ _ _ (by omega) (by first | with_reducible assumption | omega | assumption) (by first | with_reducible assumption | omega | assumption) ⟨hP, hD⟩ hS (lv_sub hl [0, 1, 2, 3, 4, 5] rfl)
            · have t_45 : y_17.toInt = a2.toInt := congrArg Int32.toInt c_45
              refine lv_aload_n hx hb dB_36_0_43.2.2.1.2 rfl (lv_at hl 2 rfl) ?_
              refine va_get (ci := 0) (v := .ref xn) (C := RX0) (T := TX0) (N := 9) hx hb hts (fun _ h => List.mem_cons_of_mem _ (List.mem_append_left _ (List.mem_append_right _ h))) hown hK.1 hP 0 rfl rfl 0 (by decide) (hts (.fieldLink RX0 35 "CutAtlas$Current" "net" "LCutAtlas$Net;") (List.mem_of_getElem? (i := 2) rfl)) (fun _ h9 => h9) rfl dB_36_0_43.2.2.2.1 ?_
              refine va_get (ci := 3) (v := .ref n3) (C := RX3) (T := TX3) (N := 7) hx hb hts (fun _ h => List.mem_cons_of_mem _ (List.mem_append_right _ h)) hown hK.1 hP 1 rfl rfl 4 (by decide) (hts (.fieldLink RX0 79 "CutAtlas$Net" "ends" "[I") (List.mem_of_getElem? (i := 5) rfl)) (fun _ h9 => h9) rfl dB_36_0_43.2.2.2.2 ?_
              refine lv_iload hx hb dB_36_0_44.1.1.1.1 (lv_at hl 0 rfl) ?_
              refine va_iald hx hb hK.1 hP 3 0 rfl rfl (i := x5_13) h_16 dB_36_0_44.1.1.1.2 ?_
              refine lv_topi (fun y_48 ey_48 => ?_)
              have e_ := (ey_48.trans ey_41.symm).symm
              subst e_
              skip
              refine lv_iload_n hx hb dB_36_0_44.1.1.2.1 rfl (lv_at hl 3 rfl) ?_
              refine lv_icmp_ne (tgt := 188) hx hb dB_36_0_44.1.1.2.2 (by decide) (fun c_49 => ?_) (fun c_49 => ?_)
              · have t_49 : ¬ y_41.toInt = a1.toInt := fun h => c_49 (Int32.toInt_inj.mp h)
                obtain ⟨y_50, ey_50⟩ : ∃ y : Int32, y = x5_13 + 1 := ⟨_, rfl⟩
                have ty_50 : y_50.toInt = x5_13.toInt + (1 : Int32).toInt := by rw [ey_50]; exact addI (by omega) (by omega)
                refine lv_iinc (v := y_50) (lv' := [(5, .int y_50), (4, .int x4_13), (0, .ref xc), (1, .int a1), (2, .int a2), (3, .int a3)]) hx hb dB_36_0_45.2.2.1.2 hl (k := 0) rfl (by rw [ey_50]; rfl) (by decide) rfl (fun ls hl => ?_)
                refine lv_goto (tgt := 30) hx hb dB_36_0_45.2.2.2.1 (by decide) ?_
                exact ih_13 y_50 x4_13 c_c4_13 _ _ _ (by omega) (by first | with_reducible assumption | omega | assumption) (by first | with_reducible assumption | omega | assumption) ⟨hP, hD⟩ hS (lv_sub hl [0, 1, 2, 3, 4, 5] rfl)
              · have t_49 : y_41.toInt = a1.toInt := congrArg Int32.toInt c_49
                refine lv_iload hx hb dB_36_0_44.1.2.1.1 (lv_at hl 1 rfl) ?_
                refine lv_aload_n hx hb dB_36_0_44.1.2.1.2 rfl (lv_at hl 2 rfl) ?_
                refine va_get (ci := 0) (v := .ref c6) (C := RX0) (T := TX0) (N := 9) hx hb hts (fun _ h => List.mem_cons_of_mem _ (List.mem_append_left _ (List.mem_append_right _ h))) hown hK.1 hP 0 rfl rfl 6 (by decide) (hts (.fieldLink RX0 26 "CutAtlas$Current" "letsBack" "[I") (List.mem_of_getElem? (i := 12) rfl)) (fun _ h9 => h9) rfl dB_36_0_44.1.2.2.1 ?_
                refine lv_iload hx hb dB_36_0_44.1.2.2.2 (lv_at hl 0 rfl) ?_
                refine va_iald hx hb hK.1 hP 19 0 rfl rfl (i := x5_13) h_16 dB_36_0_44.2.1.1.1 ?_
                refine lv_topi (fun y_52 ey_52 => ?_)
                refine lv_aload_n hx hb dB_36_0_44.2.1.1.2 rfl (lv_at hl 2 rfl) ?_
                refine va_get (ci := 0) (v := .ref c4) (C := RX0) (T := TX0) (N := 9) hx hb hts (fun _ h => List.mem_cons_of_mem _ (List.mem_append_left _ (List.mem_append_right _ h))) hown hK.1 hP 0 rfl rfl 4 (by decide) (hts (.fieldLink RX0 19 "CutAtlas$Current" "flowing" "[I") (List.mem_of_getElem? (i := 7) rfl)) (fun _ h9 => h9) rfl dB_36_0_44.2.1.2.1 ?_
                refine lv_iload hx hb dB_36_0_44.2.1.2.2 (lv_at hl 0 rfl) ?_
                refine va_iald hx hb hK.1 hP 17 0 rfl rfl (i := x5_13) h_16 dB_36_0_44.2.2.1.1 ?_
                refine lv_topi (fun y_54 ey_54 => ?_)
                refine lv_iadd hx hb dB_36_0_44.2.2.1.2 ?_
                refine lv_topi (fun y_55 ey_55 => ?_)
                refine va_mmin hx hb (by rw [hml]; exact hl.1.symm) hown (hts (.methodLink RX0 101 Lib.Math.min.name) (List.mem_of_getElem? (i := 8) rfl)) (hts (.static Lib.Math.min.name) (List.mem_of_getElem? (i := 9) rfl)) (hts (.initialized "java/lang/Math") (List.mem_of_getElem? (i := 10) rfl)) (hts (.code Lib.Math.min.name Lib.Math.min.code 2 (some .int)) (List.mem_of_getElem? (i := 11) rfl)) (Nat.le_of_ble_eq_true rfl) (Nat.le_of_ble_eq_true rfl) (Nat.le_of_ble_eq_true rfl) (Nat.le_of_ble_eq_true rfl) dB_36_0_44.2.2.2.1 ?_
                refine lv_topi (fun y_56 ey_56 => ?_)
                have ty_56 : y_56 = x4_13 ∨ y_56 = y_55 := by rw [ey_56]; split <;> simp
                have iy_56 : y_56.toInt = x4_13.toInt ∨ y_56.toInt = y_55.toInt := by rcases ty_56 with h | h <;> rw [h] <;> simp
                refine lv_istore (lv' := [(6, .int y_56), (5, .int x5_13), (4, .int x4_13), (0, .ref xc), (1, .int a1), (2, .int a2), (3, .int a3)]) hx hb dB_36_0_44.2.2.2.2 hl (by decide) rfl (fun ls hl => ?_)
                refine lv_aload_n hx hb dB_36_0_45.1.1.1 rfl (lv_at hl 3 rfl) ?_
                refine va_get (ci := 0) (v := .ref c4) (C := RX0) (T := TX0) (N := 9) hx hb hts (fun _ h => List.mem_cons_of_mem _ (List.mem_append_left _ (List.mem_append_right _ h))) hown hK.1 hP 0 rfl rfl 4 (by decide) (hts (.fieldLink RX0 19 "CutAtlas$Current" "flowing" "[I") (List.mem_of_getElem? (i := 7) rfl)) (fun _ h9 => h9) rfl dB_36_0_45.1.1.2.1 ?_
                refine lv_iload hx hb dB_36_0_45.1.1.2.2 (lv_at hl 1 rfl) ?_
                refine lv_dup2_11 hx hb dB_36_0_45.1.2.1.1 rfl rfl ?_
                refine va_iald hx hb hK.1 hP 17 0 rfl rfl (i := x5_13) h_16 dB_36_0_45.1.2.1.2 ?_
                refine lv_topi (fun y_58 ey_58 => ?_)
                have e_ := (ey_58.trans ey_54.symm).symm
                subst e_
                skip
                refine lv_iload hx hb dB_36_0_45.1.2.2.1 (lv_at hl 0 rfl) ?_
                refine lv_isub hx hb dB_36_0_45.1.2.2.2 ?_
                refine lv_topi (fun y_59 ey_59 => ?_)
                refine va_iast hx hb hK.1 hP hD hS 17 0 rfl rfl (i := x5_13) h_16 dB_36_0_45.2.1.1.1 (fun H locs hP hD hS => ?_)
                obtain ⟨f_61, ef_61⟩ : ∃ g : Nat → Int32, g = upd c_c4_13 x5_13.toNatClampNeg y_59 := ⟨_, rfl⟩
                refine pd_K (D := D) (cl := vwCl) (H := H) (A := A) [ob0_0_ xc xn xk clo cro c4 c5 c6 c7 c8, ob3_0_ xn vp vn n1 n2 n3 n4 n5, ai_ cy n2 40 fs, ai_ cy n3 40 fe, aq_ cy 6 cro 12 (gf_ rr), ai_ cy (rr 0) 12 (M_12 0), ai_ cy (rr 1) 12 (M_12 1), ai_ cy (rr 2) 12 (M_12 2), ai_ cy (rr 3) 12 (M_12 3), ai_ cy (rr 4) 12 (M_12 4), ai_ cy (rr 5) 12 (M_12 5), ai_ cy (rr 6) 12 (M_12 6), ai_ cy (rr 7) 12 (M_12 7), ai_ cy (rr 8) 12 (M_12 8), ai_ cy (rr 9) 12 (M_12 9), ai_ cy (rr 10) 12 (M_12 10), ai_ cy (rr 11) 12 (M_12 11), ai_ cy c4 40 f_61, ai_ cy c5 40 f5, ai_ cy c6 40 f6] (by rw [ef_61]; exact hP) (by rw [ef_61]; exact hD) (fun hP hD => ?_)
                refine lv_iload hx hb dB_36_0_45.2.1.1.2 (lv_at hl 2 rfl) ?_
                refine lv_iload hx hb dB_36_0_45.2.1.2.1 (lv_at hl 0 rfl) ?_
                refine lv_isub hx hb dB_36_0_45.2.1.2.2 ?_
                refine lv_topi (fun y_62 ey_62 => ?_)
                refine lv_istore (lv' := [(4, .int y_62), (6, .int y_56), (5, .int x5_13), (0, .ref xc), (1, .int a1), (2, .int a2), (3, .int a3)]) hx hb dB_36_0_45.2.2.1.1 hl (by decide) rfl (fun ls hl => ?_)
                obtain ⟨y_63, ey_63⟩ : ∃ y : Int32, y = x5_13 + 1 := ⟨_, rfl⟩
                have ty_63 : y_63.toInt = x5_13.toInt + (1 : Int32).toInt := by rw [ey_63]; exact addI (by omega) (by omega)
                refine lv_iinc (v := y_63) (lv' := [(5, .int y_63), (4, .int y_62), (6, .int y_56), (0, .ref xc), (1, .int a1), (2, .int a2), (3, .int a3)]) hx hb dB_36_0_45.2.2.1.2 hl (k := 2) rfl (by rw [ey_63]; rfl) (by decide) rfl (fun ls hl => ?_)
                refine lv_goto (tgt := 30) hx hb dB_36_0_45.2.2.2.1 (by decide) ?_
                exact ih_13 y_63 y_62 f_61 _ _ _ (by omega) (by first | with_reducible assumption | omega | assumption) (by first | with_reducible assumption | omega | assumption) ⟨hP, hD⟩ hS (lv_sub hl [0, 1, 3, 4, 5, 6] rfl)
          · have t_42 : y_41.toInt = a2.toInt := congrArg Int32.toInt c_42
            refine lv_iload hx hb dB_36_0_41.2.2.1.2 (lv_at hl 1 rfl) ?_
            refine lv_aload_n hx hb dB_36_0_41.2.2.2.1 rfl (lv_at hl 2 rfl) ?_
            refine va_get (ci := 0) (v := .ref c5) (C := RX0) (T := TX0) (N := 9) hx hb hts (fun _ h => List.mem_cons_of_mem _ (List.mem_append_left _ (List.mem_append_right _ h))) hown hK.1 hP 0 rfl rfl 5 (by decide) (hts (.fieldLink RX0 23 "CutAtlas$Current" "letsForth" "[I") (List.mem_of_getElem? (i := 6) rfl)) (fun _ h9 => h9) rfl dB_36_0_41.2.2.2.2 ?_
            refine lv_iload hx hb dB_36_0_42.1.1.1.1 (lv_at hl 0 rfl) ?_
            refine va_iald hx hb hK.1 hP 18 0 rfl rfl (i := x5_13) h_16 dB_36_0_42.1.1.1.2 ?_
            refine lv_topi (fun y_65 ey_65 => ?_)
            refine lv_aload_n hx hb dB_36_0_42.1.1.2.1 rfl (lv_at hl 2 rfl) ?_
            refine va_get (ci := 0) (v := .ref c4) (C := RX0) (T := TX0) (N := 9) hx hb hts (fun _ h => List.mem_cons_of_mem _ (List.mem_append_left _ (List.mem_append_right _ h))) hown hK.1 hP 0 rfl rfl 4 (by decide) (hts (.fieldLink RX0 19 "CutAtlas$Current" "flowing" "[I") (List.mem_of_getElem? (i := 7) rfl)) (fun _ h9 => h9) rfl dB_36_0_42.1.1.2.2 ?_
            refine lv_iload hx hb dB_36_0_42.1.2.1.1 (lv_at hl 0 rfl) ?_
            refine va_iald hx hb hK.1 hP 17 0 rfl rfl (i := x5_13) h_16 dB_36_0_42.1.2.1.2 ?_
            refine lv_topi (fun y_67 ey_67 => ?_)
            refine lv_isub hx hb dB_36_0_42.1.2.2.1 ?_
            refine lv_topi (fun y_68 ey_68 => ?_)
            refine va_mmin hx hb (by rw [hml]; exact hl.1.symm) hown (hts (.methodLink RX0 101 Lib.Math.min.name) (List.mem_of_getElem? (i := 8) rfl)) (hts (.static Lib.Math.min.name) (List.mem_of_getElem? (i := 9) rfl)) (hts (.initialized "java/lang/Math") (List.mem_of_getElem? (i := 10) rfl)) (hts (.code Lib.Math.min.name Lib.Math.min.code 2 (some .int)) (List.mem_of_getElem? (i := 11) rfl)) (Nat.le_of_ble_eq_true rfl) (Nat.le_of_ble_eq_true rfl) (Nat.le_of_ble_eq_true rfl) (Nat.le_of_ble_eq_true rfl) dB_36_0_42.1.2.2.2 ?_
            refine lv_topi (fun y_69 ey_69 => ?_)
            have ty_69 : y_69 = x4_13 ∨ y_69 = y_68 := by rw [ey_69]; split <;> simp
            have iy_69 : y_69.toInt = x4_13.toInt ∨ y_69.toInt = y_68.toInt := by rcases ty_69 with h | h <;> rw [h] <;> simp
            refine lv_istore (lv' := [(6, .int y_69), (5, .int x5_13), (4, .int x4_13), (0, .ref xc), (1, .int a1), (2, .int a2), (3, .int a3)]) hx hb dB_36_0_42.2.1.1.1 hl (by decide) rfl (fun ls hl => ?_)
            refine lv_aload_n hx hb dB_36_0_42.2.1.1.2 rfl (lv_at hl 3 rfl) ?_
            refine va_get (ci := 0) (v := .ref c4) (C := RX0) (T := TX0) (N := 9) hx hb hts (fun _ h => List.mem_cons_of_mem _ (List.mem_append_left _ (List.mem_append_right _ h))) hown hK.1 hP 0 rfl rfl 4 (by decide) (hts (.fieldLink RX0 19 "CutAtlas$Current" "flowing" "[I") (List.mem_of_getElem? (i := 7) rfl)) (fun _ h9 => h9) rfl dB_36_0_42.2.1.2.1 ?_
            refine lv_iload hx hb dB_36_0_42.2.1.2.2 (lv_at hl 1 rfl) ?_
            refine lv_dup2_11 hx hb dB_36_0_42.2.2.1.1 rfl rfl ?_
            refine va_iald hx hb hK.1 hP 17 0 rfl rfl (i := x5_13) h_16 dB_36_0_42.2.2.1.2 ?_
            refine lv_topi (fun y_71 ey_71 => ?_)
            have e_ := (ey_71.trans ey_67.symm).symm
            subst e_
            skip
            refine lv_iload hx hb dB_36_0_42.2.2.2.1 (lv_at hl 0 rfl) ?_
            refine lv_iadd hx hb dB_36_0_42.2.2.2.2 ?_
            refine lv_topi (fun y_72 ey_72 => ?_)
            refine va_iast hx hb hK.1 hP hD hS 17 0 rfl rfl (i := x5_13) h_16 dB_36_0_43.1.1.1.1 (fun H locs hP hD hS => ?_)
            obtain ⟨f_74, ef_74⟩ : ∃ g : Nat → Int32, g = upd c_c4_13 x5_13.toNatClampNeg y_72 := ⟨_, rfl⟩
            refine pd_K (D := D) (cl := vwCl) (H := H) (A := A) [ob0_0_ xc xn xk clo cro c4 c5 c6 c7 c8, ob3_0_ xn vp vn n1 n2 n3 n4 n5, ai_ cy n2 40 fs, ai_ cy n3 40 fe, aq_ cy 6 cro 12 (gf_ rr), ai_ cy (rr 0) 12 (M_12 0), ai_ cy (rr 1) 12 (M_12 1), ai_ cy (rr 2) 12 (M_12 2), ai_ cy (rr 3) 12 (M_12 3), ai_ cy (rr 4) 12 (M_12 4), ai_ cy (rr 5) 12 (M_12 5), ai_ cy (rr 6) 12 (M_12 6), ai_ cy (rr 7) 12 (M_12 7), ai_ cy (rr 8) 12 (M_12 8), ai_ cy (rr 9) 12 (M_12 9), ai_ cy (rr 10) 12 (M_12 10), ai_ cy (rr 11) 12 (M_12 11), ai_ cy c4 40 f_74, ai_ cy c5 40 f5, ai_ cy c6 40 f6] (by rw [ef_74]; exact hP) (by rw [ef_74]; exact hD) (fun hP hD => ?_)
            refine lv_iload hx hb dB_36_0_43.1.1.1.2 (lv_at hl 2 rfl) ?_
            refine lv_iload hx hb dB_36_0_43.1.1.2.1 (lv_at hl 0 rfl) ?_
            refine lv_isub hx hb dB_36_0_43.1.1.2.2 ?_
            refine lv_topi (fun y_75 ey_75 => ?_)
            refine lv_istore (lv' := [(4, .int y_75), (6, .int y_69), (5, .int x5_13), (0, .ref xc), (1, .int a1), (2, .int a2), (3, .int a3)]) hx hb dB_36_0_43.1.2.1.1 hl (by decide) rfl (fun ls hl => ?_)
            refine lv_goto (tgt := 188) hx hb dB_36_0_43.1.2.1.2 (by decide) ?_
            obtain ⟨y_76, ey_76⟩ : ∃ y : Int32, y = x5_13 + 1 := ⟨_, rfl⟩
            have ty_76 : y_76.toInt = x5_13.toInt + (1 : Int32).toInt := by rw [ey_76]; exact addI (by omega) (by omega)
            refine lv_iinc (v := y_76) (lv' := [(5, .int y_76), (4, .int y_75), (6, .int y_69), (0, .ref xc), (1, .int a1), (2, .int a2), (3, .int a3)]) hx hb dB_36_0_45.2.2.1.2 hl (k := 2) rfl (by rw [ey_76]; rfl) (by decide) rfl (fun ls hl => ?_)
            refine lv_goto (tgt := 30) hx hb dB_36_0_45.2.2.2.1 (by decide) ?_
            exact ih_13 y_76 y_75 f_74 _ _ _ (by omega) (by first | with_reducible assumption | omega | assumption) (by first | with_reducible assumption | omega | assumption) ⟨hP, hD⟩ hS (lv_sub hl [0, 1, 3, 4, 5, 6] rfl)
end

section
set_option maxHeartbeats 4000000 in
set_option maxRecDepth 100000 in
theorem c_X0_sendAlongWay (l : Launch) (D : va_G) (cy : Nat → ClassId) (sz : Nat) (xc : Nat) (xk : Nat) (clo : Nat) (cro : Nat) (c4 : Nat) (c5 : Nat) (c6 : Nat) (c7 : Nat) (c8 : Nat) (xn : Nat) (n1 : Nat) (n2 : Nat) (n3 : Nat) (n4 : Nat) (n5 : Nat) (vp : Int32) (vn : Int32) (fs : Nat → Int32) (fe : Nat → Int32) (rr : Nat → Nat) (Mr : Nat → Nat → Int32) (f4 : Nat → Int32) (f5 : Nat → Int32) (f6 : Nat → Int32) (f8 : Nat → Int32) (a1 : Int32) (a2 : Int32) (hvn : 0 ≤ vn.toInt ∧ vn.toInt ≤ 40) (q2 : 0 ≤ a2.toInt ∧ a2.toInt ≤ 11) (r_f8 : rng f8 12 (0) (11)) : Met l yX0_sendAlongWay wsX0_sendAlongWay ({ frames := 2, cells := 0, slots := 0, locals := 39 }) (va_Pc [.ref xc, .int a1, .int a2] (fun U => U.heap.size = sz ∧ va_P D vwCl [ob0_0_ xc xn xk clo cro c4 c5 c6 c7 c8, ob3_0_ xn vp vn n1 n2 n3 n4 n5, ai_ cy n2 40 fs, ai_ cy n3 40 fe, aq_ cy 6 cro 12 (gf_ rr), ai_ cy (rr 0) 12 (Mr 0), ai_ cy (rr 1) 12 (Mr 1), ai_ cy (rr 2) 12 (Mr 2), ai_ cy (rr 3) 12 (Mr 3), ai_ cy (rr 4) 12 (Mr 4), ai_ cy (rr 5) 12 (Mr 5), ai_ cy (rr 6) 12 (Mr 6), ai_ cy (rr 7) 12 (Mr 7), ai_ cy (rr 8) 12 (Mr 8), ai_ cy (rr 9) 12 (Mr 9), ai_ cy (rr 10) 12 (Mr 10), ai_ cy (rr 11) 12 (Mr 11), ai_ cy c4 40 f4, ai_ cy c5 40 f5, ai_ cy c6 40 f6, ai_ cy c8 12 f8] U.heap ∧ kg_ D cy U ∧ va_D (fun _ => True) [ob0_0_ xc xn xk clo cro c4 c5 c6 c7 c8, ob3_0_ xn vp vn n1 n2 n3 n4 n5, ai_ cy n2 40 fs, ai_ cy n3 40 fe, aq_ cy 6 cro 12 (gf_ rr), ai_ cy (rr 0) 12 (Mr 0), ai_ cy (rr 1) 12 (Mr 1), ai_ cy (rr 2) 12 (Mr 2), ai_ cy (rr 3) 12 (Mr 3), ai_ cy (rr 4) 12 (Mr 4), ai_ cy (rr 5) 12 (Mr 5), ai_ cy (rr 6) 12 (Mr 6), ai_ cy (rr 7) 12 (Mr 7), ai_ cy (rr 8) 12 (Mr 8), ai_ cy (rr 9) 12 (Mr 9), ai_ cy (rr 10) 12 (Mr 10), ai_ cy (rr 11) 12 (Mr 11), ai_ cy c4 40 f4, ai_ cy c5 40 f5, ai_ cy c6 40 f6, ai_ cy c8 12 f8])) (va_Qi (fun (r : Int32) (_ : Unit) => True) (fun (_ : Unit) (t : State) => ∃ (eMr : Nat → Nat → Int32), ∃ (e4 : Nat → Int32), va_P D vwCl [ob0_0_ xc xn xk clo cro c4 c5 c6 c7 c8, ob3_0_ xn vp vn n1 n2 n3 n4 n5, ai_ cy n2 40 fs, ai_ cy n3 40 fe, aq_ cy 6 cro 12 (gf_ rr), ai_ cy (rr 0) 12 (eMr 0), ai_ cy (rr 1) 12 (eMr 1), ai_ cy (rr 2) 12 (eMr 2), ai_ cy (rr 3) 12 (eMr 3), ai_ cy (rr 4) 12 (eMr 4), ai_ cy (rr 5) 12 (eMr 5), ai_ cy (rr 6) 12 (eMr 6), ai_ cy (rr 7) 12 (eMr 7), ai_ cy (rr 8) 12 (eMr 8), ai_ cy (rr 9) 12 (eMr 9), ai_ cy (rr 10) 12 (eMr 10), ai_ cy (rr 11) 12 (eMr 11), ai_ cy c4 40 e4, ai_ cy c5 40 f5, ai_ cy c6 40 f6, ai_ cy c8 12 f8] t.heap ∧ va_D (va_A [ob0_0_ xc xn xk clo cro c4 c5 c6 c7 c8, ob3_0_ xn vp vn n1 n2 n3 n4 n5, ai_ cy n2 40 fs, ai_ cy n3 40 fe, aq_ cy 6 cro 12 (gf_ rr), ai_ cy (rr 0) 12 (Mr 0), ai_ cy (rr 1) 12 (Mr 1), ai_ cy (rr 2) 12 (Mr 2), ai_ cy (rr 3) 12 (Mr 3), ai_ cy (rr 4) 12 (Mr 4), ai_ cy (rr 5) 12 (Mr 5), ai_ cy (rr 6) 12 (Mr 6), ai_ cy (rr 7) 12 (Mr 7), ai_ cy (rr 8) 12 (Mr 8), ai_ cy (rr 9) 12 (Mr 9), ai_ cy (rr 10) 12 (Mr 10), ai_ cy (rr 11) 12 (Mr 11), ai_ cy c4 40 f4, ai_ cy c5 40 f5, ai_ cy c6 40 f6, ai_ cy c8 12 f8] sz) [ob0_0_ xc xn xk clo cro c4 c5 c6 c7 c8, ob3_0_ xn vp vn n1 n2 n3 n4 n5, ai_ cy n2 40 fs, ai_ cy n3 40 fe, aq_ cy 6 cro 12 (gf_ rr), ai_ cy (rr 0) 12 (eMr 0), ai_ cy (rr 1) 12 (eMr 1), ai_ cy (rr 2) 12 (eMr 2), ai_ cy (rr 3) 12 (eMr 3), ai_ cy (rr 4) 12 (eMr 4), ai_ cy (rr 5) 12 (eMr 5), ai_ cy (rr 6) 12 (eMr 6), ai_ cy (rr 7) 12 (eMr 7), ai_ cy (rr 8) 12 (eMr 8), ai_ cy (rr 9) 12 (eMr 9), ai_ cy (rr 10) 12 (eMr 10), ai_ cy (rr 11) 12 (eMr 11), ai_ cy c4 40 e4, ai_ cy c5 40 f5, ai_ cy c6 40 f6, ai_ cy c8 12 f8]) (va_A [ob0_0_ xc xn xk clo cro c4 c5 c6 c7 c8, ob3_0_ xn vp vn n1 n2 n3 n4 n5, ai_ cy n2 40 fs, ai_ cy n3 40 fe, aq_ cy 6 cro 12 (gf_ rr), ai_ cy (rr 0) 12 (Mr 0), ai_ cy (rr 1) 12 (Mr 1), ai_ cy (rr 2) 12 (Mr 2), ai_ cy (rr 3) 12 (Mr 3), ai_ cy (rr 4) 12 (Mr 4), ai_ cy (rr 5) 12 (Mr 5), ai_ cy (rr 6) 12 (Mr 6), ai_ cy (rr 7) 12 (Mr 7), ai_ cy (rr 8) 12 (Mr 8), ai_ cy (rr 9) 12 (Mr 9), ai_ cy (rr 10) 12 (Mr 10), ai_ cy (rr 11) 12 (Mr 11), ai_ cy c4 40 f4, ai_ cy c5 40 f5, ai_ cy c6 40 f6, ai_ cy c8 12 f8] sz)) 0 0 (va_A [ob0_0_ xc xn xk clo cro c4 c5 c6 c7 c8, ob3_0_ xn vp vn n1 n2 n3 n4 n5, ai_ cy n2 40 fs, ai_ cy n3 40 fe, aq_ cy 6 cro 12 (gf_ rr), ai_ cy (rr 0) 12 (Mr 0), ai_ cy (rr 1) 12 (Mr 1), ai_ cy (rr 2) 12 (Mr 2), ai_ cy (rr 3) 12 (Mr 3), ai_ cy (rr 4) 12 (Mr 4), ai_ cy (rr 5) 12 (Mr 5), ai_ cy (rr 6) 12 (Mr 6), ai_ cy (rr 7) 12 (Mr 7), ai_ cy (rr 8) 12 (Mr 8), ai_ cy (rr 9) 12 (Mr 9), ai_ cy (rr 10) 12 (Mr 10), ai_ cy (rr 11) 12 (Mr 11), ai_ cy c4 40 f4, ai_ cy c5 40 f5, ai_ cy c6 40 f6, ai_ cy c8 12 f8] sz) := by
  refine ofQ (cc := cX0_sendAlongWay) (maxL := 6) (ret := (some .int)) (by decide) rfl ?_
  intro p e s m args below meth c s₁ Q hQ B hml hv
  obtain ⟨rfl, hsz, hP, hK, hD0⟩ := hv
  have hG := hK.2
  have hK := hK.1
  have hx := B.exec
  have hb := B.bytes
  have hr := B.returns
  have hts := atoms_spec (ws := wsX0_sendAlongWay) B.pre
  have hown : s.vm.findClass RX0 = some m.cls := by have h_ := findClass_of_methodNamed B.named; exact h_
  have hlocks := B.notSynchronized
  subst hsz
  have hD := hD0.self (sz := s.heap.size)
  generalize hAe : va_A [ob0_0_ xc xn xk clo cro c4 c5 c6 c7 c8, ob3_0_ xn vp vn n1 n2 n3 n4 n5, ai_ cy n2 40 fs, ai_ cy n3 40 fe, aq_ cy 6 cro 12 (gf_ rr), ai_ cy (rr 0) 12 (Mr 0), ai_ cy (rr 1) 12 (Mr 1), ai_ cy (rr 2) 12 (Mr 2), ai_ cy (rr 3) 12 (Mr 3), ai_ cy (rr 4) 12 (Mr 4), ai_ cy (rr 5) 12 (Mr 5), ai_ cy (rr 6) 12 (Mr 6), ai_ cy (rr 7) 12 (Mr 7), ai_ cy (rr 8) 12 (Mr 8), ai_ cy (rr 9) 12 (Mr 9), ai_ cy (rr 10) 12 (Mr 10), ai_ cy (rr 11) 12 (Mr 11), ai_ cy c4 40 f4, ai_ cy c5 40 f5, ai_ cy c6 40 f6, ai_ cy c8 12 f8] s.heap.size = A at hD hQ
  have hA : ∀ q : Nat, s.heap.size ≤ q → A q := fun q h => by rw [← hAe]; exact Or.inr h
  have hS : va_S A s.heap s.heap [] := va_S.rf
  have hl := lv_entry ([.ref xc, .int a1, .int a2]) (n := 6) (Nat.le_of_ble_eq_true rfl)
  rw [lg_entry_eq]
  generalize (lg_sl ([.ref xc, .int a1, .int a2]) ++ List.replicate (6 - (lg_sl ([.ref xc, .int a1, .int a2])).length) Slot.unset).toArray = ls at hl ⊢
  have hl : lv_has ls 6 [(0, .ref xc), (1, .int a1), (2, .int a2)] := hl
  have z0 : (0 : Int32).toInt = 0 := by decide
  have z1 : (1 : Int32).toInt = 1 := by decide
  have z12 : (12 : Int32).toInt = 12 := by decide
  have z1000000000 : (1000000000 : Int32).toInt = 1000000000 := by decide
  refine lv_ldc (v := 1000000000) hx hb hown (hts (.constant RX0 100 (1000000000)) (List.mem_of_getElem? (i := 1) rfl)) dB_36_0_35.1.1.1.1 ?_
  refine lv_istore_n (lv' := [(3, .int 1000000000), (0, .ref xc), (1, .int a1), (2, .int a2)]) hx hb dB_36_0_35.1.1.1.2 rfl hl (by decide) rfl (fun ls hl => ?_)
  refine lv_iload_n hx hb dB_36_0_35.1.1.2.1 rfl (lv_at hl 3 rfl) ?_
  refine lv_istore (lv' := [(4, .int a2), (3, .int 1000000000), (0, .ref xc), (1, .int a1), (2, .int a2)]) hx hb dB_36_0_35.1.1.2.2 hl (by decide) rfl (fun ls hl => ?_)
  refine lv_iconst (v := 0) hx hb dB_36_0_35.1.2.1.1 (by decide) ?_
  refine lv_istore (lv' := [(5, .int 0), (4, .int a2), (3, .int 1000000000), (0, .ref xc), (1, .int a1), (2, .int a2)]) hx hb dB_36_0_35.1.2.1.2 hl (by decide) rfl (fun ls hl => ?_)
  suffices LOOP_1 : ∀ (n_1 : Nat) (x5_1 : Int32) (x4_1 : Int32) (x3_1 : Int32) (H : Heap) (locs : List Loc) (ls : Array Slot), 12 - x5_1.toInt < (n_1 : Int) → (0 ≤ x4_1.toInt ∧ x4_1.toInt ≤ 11) → (0 ≤ x5_1.toInt) → (x5_1.toInt ≤ 12) → pd_2 D vwCl A [ob0_0_ xc xn xk clo cro c4 c5 c6 c7 c8, ob3_0_ xn vp vn n1 n2 n3 n4 n5, ai_ cy n2 40 fs, ai_ cy n3 40 fe, aq_ cy 6 cro 12 (gf_ rr), ai_ cy (rr 0) 12 (Mr 0), ai_ cy (rr 1) 12 (Mr 1), ai_ cy (rr 2) 12 (Mr 2), ai_ cy (rr 3) 12 (Mr 3), ai_ cy (rr 4) 12 (Mr 4), ai_ cy (rr 5) 12 (Mr 5), ai_ cy (rr 6) 12 (Mr 6), ai_ cy (rr 7) 12 (Mr 7), ai_ cy (rr 8) 12 (Mr 8), ai_ cy (rr 9) 12 (Mr 9), ai_ cy (rr 10) 12 (Mr 10), ai_ cy (rr 11) 12 (Mr 11), ai_ cy c4 40 f4, ai_ cy c5 40 f5, ai_ cy c6 40 f6, ai_ cy c8 12 f8] H → va_S A s.heap H locs → lv_has ls 6 [(5, .int x5_1), (4, .int x4_1), (3, .int x3_1), (0, .ref xc), (1, .int a1), (2, .int a2)] → W p l e ({ frames := 2, cells := 0, slots := 0, locals := 39 } : Room) s m (([.ref xc, .int a1, .int a2] : List Value).toArray) below meth c H locs 0 0 Q (F0 m 9 ls []) from LOOP_1 ((12 - (0 : Int32).toInt).toNat + 1) (0 : Int32) a2 (1000000000 : Int32) _ _ _ (by omega) (by first | with_reducible assumption | omega | assumption) (by first | with_reducible assumption | omega | assumption) (by first | with_reducible assumption | omega | assumption) ⟨hP, hD⟩ hS (lv_sub hl [0, 1, 2, 3, 4, 5] rfl)
  intro n_1
  induction n_1 with
  | zero =>
    intro x5_1 x4_1 x3_1 H locs ls hm v0_1 v1_1 v2_1 hPD hS hl; obtain ⟨hP, hD⟩ := hPD
    exact absurd hm (by omega)
  | succ n_1 ih_1 =>
    intro x5_1 x4_1 x3_1 H locs ls hm v0_1 v1_1 v2_1 hPD hS hl; obtain ⟨hP, hD⟩ := hPD
    refine lv_iload hx hb dB_36_0_35.1.2.2.1 (lv_at hl 0 rfl) ?_
    refine lv_bipush (v := 12) hx hb dB_36_0_35.1.2.2.2 (by decide) ?_
    refine lv_icmp_ge (tgt := 57) hx hb dB_36_0_35.2.1.1.1 (by decide) (fun c_2 => ?_) (fun c_2 => ?_)
    · have t_2 : (12 : Int32).toInt ≤ x5_1.toInt := Int32.le_iff_toInt_le.mp c_2
      refine lv_iload_n hx hb dB_36_0_36.2.2.2.2 rfl (lv_at hl 5 rfl) ?_
      refine lv_istore (lv' := [(4, .int a2), (5, .int x5_1), (3, .int x3_1), (0, .ref xc), (1, .int a1), (2, .int a2)]) hx hb dB_36_0_37.1.1.1.1 hl (by decide) rfl (fun ls hl => ?_)
      refine lv_iconst (v := 0) hx hb dB_36_0_37.1.1.1.2 (by decide) ?_
      refine lv_istore (lv' := [(5, .int 0), (4, .int a2), (3, .int x3_1), (0, .ref xc), (1, .int a1), (2, .int a2)]) hx hb dB_36_0_37.1.1.2.1 hl (by decide) rfl (fun ls hl => ?_)
      suffices LOOP_3 : ∀ (n_3 : Nat) (x5_3 : Int32) (x4_3 : Int32) (m_rr_3 : Nat → Nat → Int32) (c_c4_3 : Nat → Int32) (H : Heap) (locs : List Loc) (ls : Array Slot), 12 - x5_3.toInt < (n_3 : Int) → (0 ≤ x4_3.toInt ∧ x4_3.toInt ≤ 11) → (0 ≤ x5_3.toInt) → (x5_3.toInt ≤ 12) → pd_2 D vwCl A [ob0_0_ xc xn xk clo cro c4 c5 c6 c7 c8, ob3_0_ xn vp vn n1 n2 n3 n4 n5, ai_ cy n2 40 fs, ai_ cy n3 40 fe, aq_ cy 6 cro 12 (gf_ rr), ai_ cy (rr 0) 12 (m_rr_3 0), ai_ cy (rr 1) 12 (m_rr_3 1), ai_ cy (rr 2) 12 (m_rr_3 2), ai_ cy (rr 3) 12 (m_rr_3 3), ai_ cy (rr 4) 12 (m_rr_3 4), ai_ cy (rr 5) 12 (m_rr_3 5), ai_ cy (rr 6) 12 (m_rr_3 6), ai_ cy (rr 7) 12 (m_rr_3 7), ai_ cy (rr 8) 12 (m_rr_3 8), ai_ cy (rr 9) 12 (m_rr_3 9), ai_ cy (rr 10) 12 (m_rr_3 10), ai_ cy (rr 11) 12 (m_rr_3 11), ai_ cy c4 40 c_c4_3, ai_ cy c5 40 f5, ai_ cy c6 40 f6, ai_ cy c8 12 f8] H → va_S A s.heap H locs → lv_has ls 6 [(5, .int x5_3), (4, .int x4_3), (3, .int x3_1), (0, .ref xc), (1, .int a1), (2, .int a2)] → W p l e ({ frames := 2, cells := 0, slots := 0, locals := 39 } : Room) s m (([.ref xc, .int a1, .int a2] : List Value).toArray) below meth c H locs 0 0 Q (F0 m 63 ls []) from LOOP_3 ((12 - (0 : Int32).toInt).toNat + 1) (0 : Int32) a2 Mr f4 _ _ _ (by omega) (by first | with_reducible assumption | omega | assumption) (by first | with_reducible assumption | omega | assumption) (by first | with_reducible assumption | omega | assumption) ⟨hP, hD⟩ hS (lv_sub hl [0, 1, 2, 3, 4, 5] rfl)
      intro n_3
      induction n_3 with
      | zero =>
        intro x5_3 x4_3 m_rr_3 c_c4_3 H locs ls hm v0_3 v1_3 v2_3 hPD hS hl; obtain ⟨hP, hD⟩ := hPD
        exact absurd hm (by omega)
      | succ n_3 ih_3 =>
        intro x5_3 x4_3 m_rr_3 c_c4_3 H locs ls hm v0_3 v1_3 v2_3 hPD hS hl; obtain ⟨hP, hD⟩ := hPD
        refine lv_iload hx hb dB_36_0_37.1.1.2.2 (lv_at hl 0 rfl) ?_
        refine lv_bipush (v := 12) hx hb dB_36_0_37.1.2.1.1 (by decide) ?_
        refine lv_icmp_ge (tgt := 105) hx hb dB_36_0_37.1.2.1.2 (by decide) (fun c_4 => ?_) (fun c_4 => ?_)
        · have t_4 : (12 : Int32).toInt ≤ x5_3.toInt := Int32.le_iff_toInt_le.mp c_4
          refine lv_iload_n hx hb dB_36_0_38.2.2.2.1 rfl (lv_at hl 2 rfl) ?_
          rw [hQ]
          exact W.iret (v := x3_1) hx hb hr (fun t ht hW => ⟨⟨x3_1, (), rfl, trivial, m_rr_3, c_c4_3, by rw [ht]; exact hP, hD⟩, hS.F ht⟩) hS.2.2 dB_36_0_38.2.2.2.2
        · have t_4 : ¬ (12 : Int32).toInt ≤ x5_3.toInt := fun h => c_4 (Int32.le_iff_toInt_le.mpr h)
          refine lv_iload hx hb dB_36_0_37.1.2.2.1 (lv_at hl 1 rfl) ?_
          refine lv_iload_n hx hb dB_36_0_37.1.2.2.2 rfl (lv_at hl 4 rfl) ?_
          refine lv_icmp_eq (tgt := 105) hx hb dB_36_0_37.2.1.1.1 (by decide) (fun c_5 => ?_) (fun c_5 => ?_)
          · have t_5 : x4_3.toInt = a1.toInt := congrArg Int32.toInt c_5
            refine lv_iload_n hx hb dB_36_0_38.2.2.2.1 rfl (lv_at hl 2 rfl) ?_
            rw [hQ]
            exact W.iret (v := x3_1) hx hb hr (fun t ht hW => ⟨⟨x3_1, (), rfl, trivial, m_rr_3, c_c4_3, by rw [ht]; exact hP, hD⟩, hS.F ht⟩) hS.2.2 dB_36_0_38.2.2.2.2
          · have t_5 : ¬ x4_3.toInt = a1.toInt := fun h => c_5 (Int32.toInt_inj.mp h)
            refine lv_aload_n hx hb dB_36_0_37.2.1.1.2 rfl (lv_at hl 3 rfl) ?_
            refine lv_aload_n hx hb dB_36_0_37.2.1.2.1 rfl (lv_at hl 3 rfl) ?_
            refine va_get (ci := 0) (v := .ref c8) (C := RX0) (T := TX0) (N := 9) hx hb hts (fun _ h => List.mem_cons_of_mem _ (List.mem_append_left _ (List.mem_append_right _ h))) hown hK.1 hP 0 rfl rfl 8 (by decide) (hts (.fieldLink RX0 32 "CutAtlas$Current" "cameFrom" "[I") (List.mem_of_getElem? (i := 3) rfl)) (fun _ h9 => h9) rfl dB_36_0_37.2.1.2.2 ?_
            refine lv_iload hx hb dB_36_0_37.2.2.1.1 (lv_at hl 1 rfl) ?_
            have h_6 : vp_in x4_3 12 := in_I (by first | with_reducible assumption | omega) (by omega)
            refine va_iald hx hb hK.1 hP 20 0 rfl rfl (i := x4_3) h_6 dB_36_0_37.2.2.1.2 ?_
            refine lv_topi (fun y_7 ey_7 => ?_)
            have ry_7 : 0 ≤ y_7.toInt ∧ y_7.toInt ≤ 11 := by rw [ey_7]; exact r_f8 _ (in_lt h_6)
            refine lv_iload hx hb dB_36_0_37.2.2.2.1 (lv_at hl 1 rfl) ?_
            refine lv_iload_n hx hb dB_36_0_37.2.2.2.2 rfl (lv_at hl 2 rfl) ?_
            refine ct_S hP hD hS hA [ob0_0_ xc xn xk clo cro c4 c5 c6 c7 c8, ob3_0_ xn vp vn n1 n2 n3 n4 n5, ai_ cy n2 40 fs, ai_ cy n3 40 fe, aq_ cy 6 cro 12 (gf_ rr), ai_ cy (rr 0) 12 (m_rr_3 0), ai_ cy (rr 1) 12 (m_rr_3 1), ai_ cy (rr 2) 12 (m_rr_3 2), ai_ cy (rr 3) 12 (m_rr_3 3), ai_ cy (rr 4) 12 (m_rr_3 4), ai_ cy (rr 5) 12 (m_rr_3 5), ai_ cy (rr 6) 12 (m_rr_3 6), ai_ cy (rr 7) 12 (m_rr_3 7), ai_ cy (rr 8) 12 (m_rr_3 8), ai_ cy (rr 9) 12 (m_rr_3 9), ai_ cy (rr 10) 12 (m_rr_3 10), ai_ cy (rr 11) 12 (m_rr_3 11), ai_ cy c4 40 c_c4_3, ai_ cy c5 40 f5, ai_ cy c6 40 f6] [0, 1, 2, 3, 4, 5, 6, 7, 8, 9, 10, 11, 12, 13, 14, 15, 16, 17, 18, 19] (by decide +kernel) rfl (fun hPc hDw hFc hC_ => ?_)
            refine va_callv (va_runV (As := [.int y_7, .int x4_3, .int x3_1]) (rest := []) ⟨hx, hb, hml, hown, hts⟩ (c_X0_sendOver l D cy H.size xc xk clo cro c4 c5 c6 c7 c8 xn n1 n2 n3 n4 n5 vp vn fs fe rr m_rr_3 c_c4_3 f5 f6 y_7 x4_3 x3_1 (by first | with_reducible assumption | omega | assumption) (by first | with_reducible assumption | omega | assumption) (by first | with_reducible assumption | omega | assumption)) (cwV 3 hts gX0_sendAlongWay_X0_sendOver rfl rfl rfl ⟨rfl, hd_X0_sendOver⟩ ⟨Nat.le_of_ble_eq_true rfl, Nat.le_of_ble_eq_true rfl⟩) ⟨bl_g, va_recvX hK.1 hP (ci := 0) (q0 := 0) rfl rfl, fun U hU hW => ⟨rfl, by rw [hU], by rw [hU]; exact hPc, ⟨kk_mv hW hK, arrOfT_moved hW.alike hG⟩, hDw⟩⟩ rfl rfl hl.1 rfl (lv_room (Nat.le_of_ble_eq_true rfl)) dB_36_0_38.1.1.1 ⟨Nat.le_of_ble_eq_true rfl, Nat.le_of_ble_eq_true rfl⟩) hS (fun q _ h => hFc q h) hFc (fun u t H locs ht hvm hw hB hz1 hk1 hS => ?_)
            obtain ⟨eMr_9, e4_10, hP1, hD1⟩ := hB
            rw [ht] at hP1
            obtain ⟨hP, hD⟩ := va_join (wr := [ai_ cy c8 12 f8]) (w1 := [ob0_0_ xc xn xk clo cro c4 c5 c6 c7 c8, ob3_0_ xn vp vn n1 n2 n3 n4 n5, ai_ cy n2 40 fs, ai_ cy n3 40 fe, aq_ cy 6 cro 12 (gf_ rr), ai_ cy (rr 0) 12 (eMr_9 0), ai_ cy (rr 1) 12 (eMr_9 1), ai_ cy (rr 2) 12 (eMr_9 2), ai_ cy (rr 3) 12 (eMr_9 3), ai_ cy (rr 4) 12 (eMr_9 4), ai_ cy (rr 5) 12 (eMr_9 5), ai_ cy (rr 6) 12 (eMr_9 6), ai_ cy (rr 7) 12 (eMr_9 7), ai_ cy (rr 8) 12 (eMr_9 8), ai_ cy (rr 9) 12 (eMr_9 9), ai_ cy (rr 10) 12 (eMr_9 10), ai_ cy (rr 11) 12 (eMr_9 11), ai_ cy c4 40 e4_10, ai_ cy c5 40 f5, ai_ cy c6 40 f6]) hP hD [0, 1, 2, 3, 4, 5, 6, 7, 8, 9, 10, 11, 12, 13, 14, 15, 16, 17, 18, 19] [20] hC_ rfl (by decide) (by decide) hk1 hFc hP1 hD1
            refine pd_S hP hD [ob0_0_ xc xn xk clo cro c4 c5 c6 c7 c8, ob3_0_ xn vp vn n1 n2 n3 n4 n5, ai_ cy n2 40 fs, ai_ cy n3 40 fe, aq_ cy 6 cro 12 (gf_ rr), ai_ cy (rr 0) 12 (eMr_9 0), ai_ cy (rr 1) 12 (eMr_9 1), ai_ cy (rr 2) 12 (eMr_9 2), ai_ cy (rr 3) 12 (eMr_9 3), ai_ cy (rr 4) 12 (eMr_9 4), ai_ cy (rr 5) 12 (eMr_9 5), ai_ cy (rr 6) 12 (eMr_9 6), ai_ cy (rr 7) 12 (eMr_9 7), ai_ cy (rr 8) 12 (eMr_9 8), ai_ cy (rr 9) 12 (eMr_9 9), ai_ cy (rr 10) 12 (eMr_9 10), ai_ cy (rr 11) 12 (eMr_9 11), ai_ cy c4 40 e4_10, ai_ cy c5 40 f5, ai_ cy c6 40 f6, ai_ cy c8 12 f8] [1, 2, 3, 4, 5, 6, 7, 8, 9, 10, 11, 12, 13, 14, 15, 16, 17, 18, 19, 20, 0] (by decide +kernel) rfl (fun hP hD => ?_)
            refine lv_aload_n hx hb dB_36_0_38.1.1.2 rfl (lv_at hl 3 rfl) ?_
            refine va_get (ci := 0) (v := .ref c8) (C := RX0) (T := TX0) (N := 9) hx hb hts (fun _ h => List.mem_cons_of_mem _ (List.mem_append_left _ (List.mem_append_right _ h))) hown hK.1 hP 0 rfl rfl 8 (by decide) (hts (.fieldLink RX0 32 "CutAtlas$Current" "cameFrom" "[I") (List.mem_of_getElem? (i := 3) rfl)) (fun _ h9 => h9) rfl dB_36_0_38.1.2.1 ?_
            refine lv_iload hx hb dB_36_0_38.1.2.2.1 (lv_at hl 1 rfl) ?_
            refine va_iald hx hb hK.1 hP 20 0 rfl rfl (i := x4_3) h_6 dB_36_0_38.1.2.2.2 ?_
            refine lv_topi (fun y_12 ey_12 => ?_)
            have e_ := (ey_12.trans ey_7.symm).symm
            subst e_
            skip
            refine lv_istore (lv' := [(4, .int y_7), (5, .int x5_3), (3, .int x3_1), (0, .ref xc), (1, .int a1), (2, .int a2)]) hx hb dB_36_0_38.2.1.1 hl (by decide) rfl (fun ls hl => ?_)
            obtain ⟨y_13, ey_13⟩ : ∃ y : Int32, y = x5_3 + 1 := ⟨_, rfl⟩
            have ty_13 : y_13.toInt = x5_3.toInt + (1 : Int32).toInt := by rw [ey_13]; exact addI (by omega) (by omega)
            refine lv_iinc (v := y_13) (lv' := [(5, .int y_13), (4, .int y_7), (3, .int x3_1), (0, .ref xc), (1, .int a1), (2, .int a2)]) hx hb dB_36_0_38.2.1.2 hl (k := 1) rfl (by rw [ey_13]; rfl) (by decide) rfl (fun ls hl => ?_)
            refine lv_goto (tgt := 63) hx hb dB_36_0_38.2.2.1 (by decide) ?_
            exact ih_3 y_13 y_7 eMr_9 e4_10 _ _ _ (by omega) (by first | with_reducible assumption | omega | assumption) (by first | with_reducible assumption | omega | assumption) (by first | with_reducible assumption | omega | assumption) ⟨hP, hD⟩ hS (lv_sub hl [0, 1, 2, 3, 4, 5] rfl)
    · have t_2 : ¬ (12 : Int32).toInt ≤ x5_1.toInt := fun h => c_2 (Int32.le_iff_toInt_le.mpr h)
      refine lv_iload hx hb dB_36_0_35.2.1.1.2 (lv_at hl 1 rfl) ?_
      refine lv_iload_n hx hb dB_36_0_35.2.1.2.1 rfl (lv_at hl 4 rfl) ?_
      refine lv_icmp_eq (tgt := 57) hx hb dB_36_0_35.2.1.2.2 (by decide) (fun c_14 => ?_) (fun c_14 => ?_)
      · have t_14 : x4_1.toInt = a1.toInt := congrArg Int32.toInt c_14
        refine lv_iload_n hx hb dB_36_0_36.2.2.2.2 rfl (lv_at hl 5 rfl) ?_
        refine lv_istore (lv' := [(4, .int a2), (5, .int x5_1), (3, .int x3_1), (0, .ref xc), (1, .int a1), (2, .int a2)]) hx hb dB_36_0_37.1.1.1.1 hl (by decide) rfl (fun ls hl => ?_)
        refine lv_iconst (v := 0) hx hb dB_36_0_37.1.1.1.2 (by decide) ?_
        refine lv_istore (lv' := [(5, .int 0), (4, .int a2), (3, .int x3_1), (0, .ref xc), (1, .int a1), (2, .int a2)]) hx hb dB_36_0_37.1.1.2.1 hl (by decide) rfl (fun ls hl => ?_)
        suffices LOOP_15 : ∀ (n_15 : Nat) (x5_15 : Int32) (x4_15 : Int32) (m_rr_15 : Nat → Nat → Int32) (c_c4_15 : Nat → Int32) (H : Heap) (locs : List Loc) (ls : Array Slot), 12 - x5_15.toInt < (n_15 : Int) → (0 ≤ x4_15.toInt ∧ x4_15.toInt ≤ 11) → (0 ≤ x5_15.toInt) → (x5_15.toInt ≤ 12) → pd_2 D vwCl A [ob0_0_ xc xn xk clo cro c4 c5 c6 c7 c8, ob3_0_ xn vp vn n1 n2 n3 n4 n5, ai_ cy n2 40 fs, ai_ cy n3 40 fe, aq_ cy 6 cro 12 (gf_ rr), ai_ cy (rr 0) 12 (m_rr_15 0), ai_ cy (rr 1) 12 (m_rr_15 1), ai_ cy (rr 2) 12 (m_rr_15 2), ai_ cy (rr 3) 12 (m_rr_15 3), ai_ cy (rr 4) 12 (m_rr_15 4), ai_ cy (rr 5) 12 (m_rr_15 5), ai_ cy (rr 6) 12 (m_rr_15 6), ai_ cy (rr 7) 12 (m_rr_15 7), ai_ cy (rr 8) 12 (m_rr_15 8), ai_ cy (rr 9) 12 (m_rr_15 9), ai_ cy (rr 10) 12 (m_rr_15 10), ai_ cy (rr 11) 12 (m_rr_15 11), ai_ cy c4 40 c_c4_15, ai_ cy c5 40 f5, ai_ cy c6 40 f6, ai_ cy c8 12 f8] H → va_S A s.heap H locs → lv_has ls 6 [(5, .int x5_15), (4, .int x4_15), (3, .int x3_1), (0, .ref xc), (1, .int a1), (2, .int a2)] → W p l e ({ frames := 2, cells := 0, slots := 0, locals := 39 } : Room) s m (([.ref xc, .int a1, .int a2] : List Value).toArray) below meth c H locs 0 0 Q (F0 m 63 ls []) from LOOP_15 ((12 - (0 : Int32).toInt).toNat + 1) (0 : Int32) a2 Mr f4 _ _ _ (by omega) (by first | with_reducible assumption | omega | assumption) (by first | with_reducible assumption | omega | assumption) (by first | with_reducible assumption | omega | assumption) ⟨hP, hD⟩ hS (lv_sub hl [0, 1, 2, 3, 4, 5] rfl)
        intro n_15
        induction n_15 with
        | zero =>
          intro x5_15 x4_15 m_rr_15 c_c4_15 H locs ls hm v0_15 v1_15 v2_15 hPD hS hl; obtain ⟨hP, hD⟩ := hPD
          exact absurd hm (by omega)
        | succ n_15 ih_15 =>
          intro x5_15 x4_15 m_rr_15 c_c4_15 H locs ls hm v0_15 v1_15 v2_15 hPD hS hl; obtain ⟨hP, hD⟩ := hPD
          refine lv_iload hx hb dB_36_0_37.1.1.2.2 (lv_at hl 0 rfl) ?_
          refine lv_bipush (v := 12) hx hb dB_36_0_37.1.2.1.1 (by decide) ?_
          refine lv_icmp_ge (tgt := 105) hx hb dB_36_0_37.1.2.1.2 (by decide) (fun c_16 => ?_) (fun c_16 => ?_)
          · have t_16 : (12 : Int32).toInt ≤ x5_15.toInt := Int32.le_iff_toInt_le.mp c_16
            refine lv_iload_n hx hb dB_36_0_38.2.2.2.1 rfl (lv_at hl 2 rfl) ?_
            rw [hQ]
            exact W.iret (v := x3_1) hx hb hr (fun t ht hW => ⟨⟨x3_1, (), rfl, trivial, m_rr_15, c_c4_15, by rw [ht]; exact hP, hD⟩, hS.F ht⟩) hS.2.2 dB_36_0_38.2.2.2.2
          · have t_16 : ¬ (12 : Int32).toInt ≤ x5_15.toInt := fun h => c_16 (Int32.le_iff_toInt_le.mpr h)
            refine lv_iload hx hb dB_36_0_37.1.2.2.1 (lv_at hl 1 rfl) ?_
            refine lv_iload_n hx hb dB_36_0_37.1.2.2.2 rfl (lv_at hl 4 rfl) ?_
            refine lv_icmp_eq (tgt := 105) hx hb dB_36_0_37.2.1.1.1 (by decide) (fun c_17 => ?_) (fun c_17 => ?_)
            · have t_17 : x4_15.toInt = a1.toInt := congrArg Int32.toInt c_17
              refine lv_iload_n hx hb dB_36_0_38.2.2.2.1 rfl (lv_at hl 2 rfl) ?_
              rw [hQ]
              exact W.iret (v := x3_1) hx hb hr (fun t ht hW => ⟨⟨x3_1, (), rfl, trivial, m_rr_15, c_c4_15, by rw [ht]; exact hP, hD⟩, hS.F ht⟩) hS.2.2 dB_36_0_38.2.2.2.2
            · have t_17 : ¬ x4_15.toInt = a1.toInt := fun h => c_17 (Int32.toInt_inj.mp h)
              refine lv_aload_n hx hb dB_36_0_37.2.1.1.2 rfl (lv_at hl 3 rfl) ?_
              refine lv_aload_n hx hb dB_36_0_37.2.1.2.1 rfl (lv_at hl 3 rfl) ?_
              refine va_get (ci := 0) (v := .ref c8) (C := RX0) (T := TX0) (N := 9) hx hb hts (fun _ h => List.mem_cons_of_mem _ (List.mem_append_left _ (List.mem_append_right _ h))) hown hK.1 hP 0 rfl rfl 8 (by decide) (hts (.fieldLink RX0 32 "CutAtlas$Current" "cameFrom" "[I") (List.mem_of_getElem? (i := 3) rfl)) (fun _ h9 => h9) rfl dB_36_0_37.2.1.2.2 ?_
              refine lv_iload hx hb dB_36_0_37.2.2.1.1 (lv_at hl 1 rfl) ?_
              have h_18 : vp_in x4_15 12 := in_I (by first | with_reducible assumption | omega) (by omega)
              refine va_iald hx hb hK.1 hP 20 0 rfl rfl (i := x4_15) h_18 dB_36_0_37.2.2.1.2 ?_
              refine lv_topi (fun y_19 ey_19 => ?_)
              have ry_19 : 0 ≤ y_19.toInt ∧ y_19.toInt ≤ 11 := by rw [ey_19]; exact r_f8 _ (in_lt h_18)
              refine lv_iload hx hb dB_36_0_37.2.2.2.1 (lv_at hl 1 rfl) ?_
              refine lv_iload_n hx hb dB_36_0_37.2.2.2.2 rfl (lv_at hl 2 rfl) ?_
              refine ct_S hP hD hS hA [ob0_0_ xc xn xk clo cro c4 c5 c6 c7 c8, ob3_0_ xn vp vn n1 n2 n3 n4 n5, ai_ cy n2 40 fs, ai_ cy n3 40 fe, aq_ cy 6 cro 12 (gf_ rr), ai_ cy (rr 0) 12 (m_rr_15 0), ai_ cy (rr 1) 12 (m_rr_15 1), ai_ cy (rr 2) 12 (m_rr_15 2), ai_ cy (rr 3) 12 (m_rr_15 3), ai_ cy (rr 4) 12 (m_rr_15 4), ai_ cy (rr 5) 12 (m_rr_15 5), ai_ cy (rr 6) 12 (m_rr_15 6), ai_ cy (rr 7) 12 (m_rr_15 7), ai_ cy (rr 8) 12 (m_rr_15 8), ai_ cy (rr 9) 12 (m_rr_15 9), ai_ cy (rr 10) 12 (m_rr_15 10), ai_ cy (rr 11) 12 (m_rr_15 11), ai_ cy c4 40 c_c4_15, ai_ cy c5 40 f5, ai_ cy c6 40 f6] [0, 1, 2, 3, 4, 5, 6, 7, 8, 9, 10, 11, 12, 13, 14, 15, 16, 17, 18, 19] (by decide +kernel) rfl (fun hPc hDw hFc hC_ => ?_)
              refine va_callv (va_runV (As := [.int y_19, .int x4_15, .int x3_1]) (rest := []) ⟨hx, hb, hml, hown, hts⟩ (c_X0_sendOver l D cy H.size xc xk clo cro c4 c5 c6 c7 c8 xn n1 n2 n3 n4 n5 vp vn fs fe rr m_rr_15 c_c4_15 f5 f6 y_19 x4_15 x3_1 (by first | with_reducible assumption | omega | assumption) (by first | with_reducible assumption | omega | assumption) (by first | with_reducible assumption | omega | assumption)) (cwV 3 hts gX0_sendAlongWay_X0_sendOver rfl rfl rfl ⟨rfl, hd_X0_sendOver⟩ ⟨Nat.le_of_ble_eq_true rfl, Nat.le_of_ble_eq_true rfl⟩) ⟨bl_g, va_recvX hK.1 hP (ci := 0) (q0 := 0) rfl rfl, fun U hU hW => ⟨rfl, by rw [hU], by rw [hU]; exact hPc, ⟨kk_mv hW hK, arrOfT_moved hW.alike hG⟩, hDw⟩⟩ rfl rfl hl.1 rfl (lv_room (Nat.le_of_ble_eq_true rfl)) dB_36_0_38.1.1.1 ⟨Nat.le_of_ble_eq_true rfl, Nat.le_of_ble_eq_true rfl⟩) hS (fun q _ h => hFc q h) hFc (fun u t H locs ht hvm hw hB hz1 hk1 hS => ?_)
              obtain ⟨eMr_21, e4_22, hP1, hD1⟩ := hB
              rw [ht] at hP1
              obtain ⟨hP, hD⟩ := va_join (wr := [ai_ cy c8 12 f8]) (w1 := [ob0_0_ xc xn xk clo cro c4 c5 c6 c7 c8, ob3_0_ xn vp vn n1 n2 n3 n4 n5, ai_ cy n2 40 fs, ai_ cy n3 40 fe, aq_ cy 6 cro 12 (gf_ rr), ai_ cy (rr 0) 12 (eMr_21 0), ai_ cy (rr 1) 12 (eMr_21 1), ai_ cy (rr 2) 12 (eMr_21 2), ai_ cy (rr 3) 12 (eMr_21 3), ai_ cy (rr 4) 12 (eMr_21 4), ai_ cy (rr 5) 12 (eMr_21 5), ai_ cy (rr 6) 12 (eMr_21 6), ai_ cy (rr 7) 12 (eMr_21 7), ai_ cy (rr 8) 12 (eMr_21 8), ai_ cy (rr 9) 12 (eMr_21 9), ai_ cy (rr 10) 12 (eMr_21 10), ai_ cy (rr 11) 12 (eMr_21 11), ai_ cy c4 40 e4_22, ai_ cy c5 40 f5, ai_ cy c6 40 f6]) hP hD [0, 1, 2, 3, 4, 5, 6, 7, 8, 9, 10, 11, 12, 13, 14, 15, 16, 17, 18, 19] [20] hC_ rfl (by decide) (by decide) hk1 hFc hP1 hD1
              refine pd_S hP hD [ob0_0_ xc xn xk clo cro c4 c5 c6 c7 c8, ob3_0_ xn vp vn n1 n2 n3 n4 n5, ai_ cy n2 40 fs, ai_ cy n3 40 fe, aq_ cy 6 cro 12 (gf_ rr), ai_ cy (rr 0) 12 (eMr_21 0), ai_ cy (rr 1) 12 (eMr_21 1), ai_ cy (rr 2) 12 (eMr_21 2), ai_ cy (rr 3) 12 (eMr_21 3), ai_ cy (rr 4) 12 (eMr_21 4), ai_ cy (rr 5) 12 (eMr_21 5), ai_ cy (rr 6) 12 (eMr_21 6), ai_ cy (rr 7) 12 (eMr_21 7), ai_ cy (rr 8) 12 (eMr_21 8), ai_ cy (rr 9) 12 (eMr_21 9), ai_ cy (rr 10) 12 (eMr_21 10), ai_ cy (rr 11) 12 (eMr_21 11), ai_ cy c4 40 e4_22, ai_ cy c5 40 f5, ai_ cy c6 40 f6, ai_ cy c8 12 f8] [1, 2, 3, 4, 5, 6, 7, 8, 9, 10, 11, 12, 13, 14, 15, 16, 17, 18, 19, 20, 0] (by decide +kernel) rfl (fun hP hD => ?_)
              refine lv_aload_n hx hb dB_36_0_38.1.1.2 rfl (lv_at hl 3 rfl) ?_
              refine va_get (ci := 0) (v := .ref c8) (C := RX0) (T := TX0) (N := 9) hx hb hts (fun _ h => List.mem_cons_of_mem _ (List.mem_append_left _ (List.mem_append_right _ h))) hown hK.1 hP 0 rfl rfl 8 (by decide) (hts (.fieldLink RX0 32 "CutAtlas$Current" "cameFrom" "[I") (List.mem_of_getElem? (i := 3) rfl)) (fun _ h9 => h9) rfl dB_36_0_38.1.2.1 ?_
              refine lv_iload hx hb dB_36_0_38.1.2.2.1 (lv_at hl 1 rfl) ?_
              refine va_iald hx hb hK.1 hP 20 0 rfl rfl (i := x4_15) h_18 dB_36_0_38.1.2.2.2 ?_
              refine lv_topi (fun y_24 ey_24 => ?_)
              have e_ := (ey_24.trans ey_19.symm).symm
              subst e_
              skip
              refine lv_istore (lv' := [(4, .int y_19), (5, .int x5_15), (3, .int x3_1), (0, .ref xc), (1, .int a1), (2, .int a2)]) hx hb dB_36_0_38.2.1.1 hl (by decide) rfl (fun ls hl => ?_)
              obtain ⟨y_25, ey_25⟩ : ∃ y : Int32, y = x5_15 + 1 := ⟨_, rfl⟩
              have ty_25 : y_25.toInt = x5_15.toInt + (1 : Int32).toInt := by rw [ey_25]; exact addI (by omega) (by omega)
              refine lv_iinc (v := y_25) (lv' := [(5, .int y_25), (4, .int y_19), (3, .int x3_1), (0, .ref xc), (1, .int a1), (2, .int a2)]) hx hb dB_36_0_38.2.1.2 hl (k := 1) rfl (by rw [ey_25]; rfl) (by decide) rfl (fun ls hl => ?_)
              refine lv_goto (tgt := 63) hx hb dB_36_0_38.2.2.1 (by decide) ?_
              exact ih_15 y_25 y_19 eMr_21 e4_22 _ _ _ (by omega) (by first | with_reducible assumption | omega | assumption) (by first | with_reducible assumption | omega | assumption) (by first | with_reducible assumption | omega | assumption) ⟨hP, hD⟩ hS (lv_sub hl [0, 1, 2, 3, 4, 5] rfl)
      · have t_14 : ¬ x4_1.toInt = a1.toInt := fun h => c_14 (Int32.toInt_inj.mp h)
        refine lv_iload_n hx hb dB_36_0_35.2.2.1.1 rfl (lv_at hl 2 rfl) ?_
        refine lv_aload_n hx hb dB_36_0_35.2.2.1.2 rfl (lv_at hl 3 rfl) ?_
        refine va_get (ci := 0) (v := .ref cro) (C := RX0) (T := TX0) (N := 9) hx hb hts (fun _ h => List.mem_cons_of_mem _ (List.mem_append_left _ (List.mem_append_right _ h))) hown hK.1 hP 0 rfl rfl 3 (by decide) (hts (.fieldLink RX0 16 "CutAtlas$Current" "room" "[[I") (List.mem_of_getElem? (i := 2) rfl)) (fun _ h9 => h9) rfl dB_36_0_35.2.2.2.1 ?_
        refine lv_aload_n hx hb dB_36_0_35.2.2.2.2 rfl (lv_at hl 3 rfl) ?_
        refine va_get (ci := 0) (v := .ref c8) (C := RX0) (T := TX0) (N := 9) hx hb hts (fun _ h => List.mem_cons_of_mem _ (List.mem_append_left _ (List.mem_append_right _ h))) hown hK.1 hP 0 rfl rfl 8 (by decide) (hts (.fieldLink RX0 32 "CutAtlas$Current" "cameFrom" "[I") (List.mem_of_getElem? (i := 3) rfl)) (fun _ h9 => h9) rfl dB_36_0_36.1.1.1.1 ?_
        refine lv_iload hx hb dB_36_0_36.1.1.1.2 (lv_at hl 1 rfl) ?_
        have h_26 : vp_in x4_1 12 := in_I (by first | with_reducible assumption | omega) (by omega)
        refine va_iald hx hb hK.1 hP 20 0 rfl rfl (i := x4_1) h_26 dB_36_0_36.1.1.2.1 ?_
        refine lv_topi (fun y_27 ey_27 => ?_)
        have ry_27 : 0 ≤ y_27.toInt ∧ y_27.toInt ≤ 11 := by rw [ey_27]; exact r_f8 _ (in_lt h_26)
        have h_28 : vp_in y_27 12 := in_I (by first | with_reducible assumption | omega) (by omega)
        refine va_alda hx hb hG hP 4 rfl (i := y_27) h_28 dB_36_0_36.1.1.2.2 ?_
        refine lv_topv (v' := .ref (rr y_27.toNatClampNeg)) (gf_at h_28) ?_
        refine lv_iload hx hb dB_36_0_36.1.2.1.1 (lv_at hl 1 rfl) ?_
        have hPg : va_P D vwCl (([ob0_0_ xc xn xk clo cro c4 c5 c6 c7 c8, ob3_0_ xn vp vn n1 n2 n3 n4 n5, ai_ cy n2 40 fs, ai_ cy n3 40 fe, aq_ cy 6 cro 12 (gf_ rr)] : va_W) ++ (gro (cy 0) rr Mr ++ ([ai_ cy c4 40 f4, ai_ cy c5 40 f5, ai_ cy c6 40 f6, ai_ cy c8 12 f8] : va_W))) H := hP
        refine va_gld (X := [ob0_0_ xc xn xk clo cro c4 c5 c6 c7 c8, ob3_0_ xn vp vn n1 n2 n3 n4 n5, ai_ cy n2 40 fs, ai_ cy n3 40 fe, aq_ cy 6 cro 12 (gf_ rr)]) (Y := [ai_ cy c4 40 f4, ai_ cy c5 40 f5, ai_ cy c6 40 f6, ai_ cy c8 12 f8]) (r := rr) (M := Mr) (k := y_27.toNatClampNeg) hx hb hK.1 hPg 0 rfl (in_lt h_28) (i := x4_1) h_26 dB_36_0_36.1.2.1.2 ?_
        refine lv_topi (fun y_30 ey_30 => ?_)
        refine va_mmin hx hb (by rw [hml]; exact hl.1.symm) hown (hts (.methodLink RX0 101 Lib.Math.min.name) (List.mem_of_getElem? (i := 4) rfl)) (hts (.static Lib.Math.min.name) (List.mem_of_getElem? (i := 5) rfl)) (hts (.initialized "java/lang/Math") (List.mem_of_getElem? (i := 6) rfl)) (hts (.code Lib.Math.min.name Lib.Math.min.code 2 (some .int)) (List.mem_of_getElem? (i := 7) rfl)) (Nat.le_of_ble_eq_true rfl) (Nat.le_of_ble_eq_true rfl) (Nat.le_of_ble_eq_true rfl) (Nat.le_of_ble_eq_true rfl) dB_36_0_36.1.2.2.1 ?_
        refine lv_topi (fun y_31 ey_31 => ?_)
        have ty_31 : y_31 = x3_1 ∨ y_31 = y_30 := by rw [ey_31]; split <;> simp
        have iy_31 : y_31.toInt = x3_1.toInt ∨ y_31.toInt = y_30.toInt := by rcases ty_31 with h | h <;> rw [h] <;> simp
        refine lv_istore_n (lv' := [(3, .int y_31), (5, .int x5_1), (4, .int x4_1), (0, .ref xc), (1, .int a1), (2, .int a2)]) hx hb dB_36_0_36.1.2.2.2 rfl hl (by decide) rfl (fun ls hl => ?_)
        refine lv_aload_n hx hb dB_36_0_36.2.1.1.1 rfl (lv_at hl 3 rfl) ?_
        refine va_get (ci := 0) (v := .ref c8) (C := RX0) (T := TX0) (N := 9) hx hb hts (fun _ h => List.mem_cons_of_mem _ (List.mem_append_left _ (List.mem_append_right _ h))) hown hK.1 hP 0 rfl rfl 8 (by decide) (hts (.fieldLink RX0 32 "CutAtlas$Current" "cameFrom" "[I") (List.mem_of_getElem? (i := 3) rfl)) (fun _ h9 => h9) rfl dB_36_0_36.2.1.1.2 ?_
        refine lv_iload hx hb dB_36_0_36.2.1.2.1 (lv_at hl 2 rfl) ?_
        refine va_iald hx hb hK.1 hP 20 0 rfl rfl (i := x4_1) h_26 dB_36_0_36.2.1.2.2 ?_
        refine lv_topi (fun y_33 ey_33 => ?_)
        have e_ := (ey_33.trans ey_27.symm).symm
        subst e_
        skip
        refine lv_istore (lv' := [(4, .int y_27), (3, .int y_31), (5, .int x5_1), (0, .ref xc), (1, .int a1), (2, .int a2)]) hx hb dB_36_0_36.2.2.1.1 hl (by decide) rfl (fun ls hl => ?_)
        obtain ⟨y_34, ey_34⟩ : ∃ y : Int32, y = x5_1 + 1 := ⟨_, rfl⟩
        have ty_34 : y_34.toInt = x5_1.toInt + (1 : Int32).toInt := by rw [ey_34]; exact addI (by omega) (by omega)
        refine lv_iinc (v := y_34) (lv' := [(5, .int y_34), (4, .int y_27), (3, .int y_31), (0, .ref xc), (1, .int a1), (2, .int a2)]) hx hb dB_36_0_36.2.2.1.2 hl (k := 2) rfl (by rw [ey_34]; rfl) (by decide) rfl (fun ls hl => ?_)
        refine lv_goto (tgt := 9) hx hb dB_36_0_36.2.2.2.1 (by decide) ?_
        exact ih_1 y_34 y_27 y_31 _ _ _ (by omega) (by first | with_reducible assumption | omega | assumption) (by first | with_reducible assumption | omega | assumption) (by first | with_reducible assumption | omega | assumption) ⟨hP, hD⟩ hS (lv_sub hl [0, 1, 2, 3, 4, 5] rfl)
end
