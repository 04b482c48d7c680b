/-- the row of the five kinds -/
noncomputable def kf_ (a b c d e : Nat) : Nat → Option Nat := fun i => if i = 0 then some a else if i = 1 then some b else if i = 2 then some c else if i = 3 then some d else if i = 4 then some e else none
theorem sp_5 {x : Int32} (h : 0 ≤ x.toInt ∧ x.toInt ≤ 4) : x = 0 ∨ x = 1 ∨ x = 2 ∨ x = 3 ∨ x = 4 := by
  have h1 : x.toInt = 0 ∨ x.toInt = 1 ∨ x.toInt = 2 ∨ x.toInt = 3 ∨ x.toInt = 4 := by omega
  rcases h1 with h | h | h | h | h
  · exact Or.inl (Int32.toInt_inj.mp h)
  · exact Or.inr (Or.inl (Int32.toInt_inj.mp h))
  · exact Or.inr (Or.inr (Or.inl (Int32.toInt_inj.mp h)))
  · exact Or.inr (Or.inr (Or.inr (Or.inl (Int32.toInt_inj.mp h))))
  · exact Or.inr (Or.inr (Or.inr (Or.inr (Int32.toInt_inj.mp h))))
theorem sw_6 (x : Int32) : (x.toInt < 0 ∨ 5 < x.toInt) ∨ x.toInt = 0 ∨ x.toInt = 1 ∨ x.toInt = 2 ∨ x.toInt = 3 ∨ x.toInt = 4 ∨ x.toInt = 5 := by omega

set_option maxHeartbeats 4000000 in
set_option maxRecDepth 100000 in
theorem c_X11_lineRefusal (l : Launch) (D : va_G) (cy : Nat → ClassId) (sz : Nat) (xo : Nat) (xk : Nat) (xn : Nat) (xc : Nat) (xh : Nat) (xt : Nat) (xw : Nat) (xm : Nat) (xp : Nat) (pf : Int32) (ph : Int32) (tr : Int64) (fi : Int32) (n1 : Nat) (n2 : Nat) (n3 : Nat) (n4 : Nat) (n5 : Nat) (vp : Int32) (vn : Int32) (a1 : Int64) (a2 : Int64) (a3 : Int64) (a4 : Int64) (a5 : Int64) (hvn : 0 ≤ vn.toInt ∧ vn.toInt ≤ 40) (hvp : 0 ≤ vp.toInt ∧ vp.toInt ≤ 12) : Met l yX11_lineRefusal wsX11_lineRefusal ({ frames := 2, cells := 0, slots := 0, locals := 46 }) (va_Pc [.ref xo, .long a1, .long a2, .long a3, .long a4, .long a5] (fun U => U.heap.size = sz ∧ va_P D vwCl [(xo, .inr (11, [.ref xk, .ref xn, .ref xc, .ref xh, .ref xt, .ref xw, .ref xm, .ref xp, .int pf, .int ph, .long tr, .int fi])), (xn, .inr (3, [.int vp, .int vn, .ref n1, .ref n2, .ref n3, .ref n4, .ref n5]))] U.heap ∧ kk_ D cy U ∧ va_D (fun _ => True) [(xo, .inr (11, [.ref xk, .ref xn, .ref xc, .ref xh, .ref xt, .ref xw, .ref xm, .ref xp, .int pf, .int ph, .long tr, .int fi])), (xn, .inr (3, [.int vp, .int vn, .ref n1, .ref n2, .ref n3, .ref n4, .ref n5]))])) (va_Qi (fun (r : Int32) (_ : Unit) => ((¬ ((0 ≤ a1.toInt ∧ a1.toInt ≤ 4) ∧ (0 ≤ a2.toInt ∧ a2.toInt < vp.toInt) ∧ (0 ≤ a3.toInt ∧ a3.toInt < vp.toInt) ∧ a2.toInt ≠ a3.toInt ∧ (0 ≤ a4.toInt ∧ a4.toInt ≤ 1000) ∧ (0 ≤ a5.toInt ∧ a5.toInt ≤ 100))) ∧ r = (-1)) ∨ ((((0 ≤ a1.toInt ∧ a1.toInt ≤ 4) ∧ (0 ≤ a2.toInt ∧ a2.toInt < vp.toInt) ∧ (0 ≤ a3.toInt ∧ a3.toInt < vp.toInt) ∧ a2.toInt ≠ a3.toInt ∧ (0 ≤ a4.toInt ∧ a4.toInt ≤ 1000) ∧ (0 ≤ a5.toInt ∧ a5.toInt ≤ 100)) ∧ vn.toInt = 40) ∧ r = (-3)) ∨ ((((0 ≤ a1.toInt ∧ a1.toInt ≤ 4) ∧ (0 ≤ a2.toInt ∧ a2.toInt < vp.toInt) ∧ (0 ≤ a3.toInt ∧ a3.toInt < vp.toInt) ∧ a2.toInt ≠ a3.toInt ∧ (0 ≤ a4.toInt ∧ a4.toInt ≤ 1000) ∧ (0 ≤ a5.toInt ∧ a5.toInt ≤ 100)) ∧ vn.toInt < 40) ∧ r = 0)) (fun (_ : Unit) (_ : State) => True) (va_A [] sz)) 0 0 (va_A [] sz) := by
  refine ofQ (cc := cX11_lineRefusal) (maxL := 11) (ret := (some .int)) (by decide) rfl ?_
  intro p e s m args below meth c s₁ Q hQ B hml hv
  obtain ⟨rfl, hsz, hP, hK, hD0⟩ := hv
  have hx := B.exec
  have hb := B.bytes
  have hr := B.returns
  have hts := atoms_spec (ws := wsX11_lineRefusal) B.pre
  have hown : s.vm.findClass RX11 = some m.cls := by have h_ := findClass_of_methodNamed B.named; exact h_
  have hlocks := B.notSynchronized
  subst hsz
  have hD : va_D (va_A [] s.heap.size) [] := dd_nil
  generalize hAe : va_A [] s.heap.size = A at hD hQ
  have hA : ∀ q : Nat, s.heap.size ≤ q → A q := fun q h => by rw [← hAe]; exact Or.inr h
  have hS : va_S A s.heap s.heap [] := va_S.rf
  have hl := lv_entry ([.ref xo, .long a1, .long a2, .long a3, .long a4, .long a5]) (n := 11) (Nat.le_of_ble_eq_true rfl)
  rw [lg_entry_eq]
  generalize (lg_sl ([.ref xo, .long a1, .long a2, .long a3, .long a4, .long a5]) ++ List.replicate (11 - (lg_sl ([.ref xo, .long a1, .long a2, .long a3, .long a4, .long a5])).length) Slot.unset).toArray = ls at hl ⊢
  have hl : lv_has ls 11 [(0, .ref xo), (1, .long a1), (3, .long a2), (5, .long a3), (7, .long a4), (9, .long a5)] := hl
  have zm3 : ((-3) : Int32).toInt = -3 := by decide
  have zm1 : ((-1) : Int32).toInt = -1 := by decide
  have z0 : (0 : Int32).toInt = 0 := by decide
  have zl0 : (0 : Int64).toInt = 0 := by decide
  have zl5 : (5 : Int64).toInt = 5 := by decide
  have z40 : (40 : Int32).toInt = 40 := by decide
  have zl100 : (100 : Int64).toInt = 100 := by decide
  have zl1000 : (1000 : Int64).toInt = 1000 := by decide
  refine lv_lload_n hx hb dX11_lineRefusal_0 rfl (lv_at hl 1 rfl) ?_
  refine lv_lconst (v := 0) hx hb dX11_lineRefusal_1 (by decide) ?_
  refine W.lcmp hx hb dX11_lineRefusal_2 ?_
  refine lv_if_lt (tgt := 27) hx hb dX11_lineRefusal_3 (by decide) (fun c_1 => ?_) (fun c_1 => ?_)
  · have t_1 : a1.toInt < (0 : Int64).toInt := Int64.lt_iff_toInt_lt.mp ((lg_cmp_lt a1 0).mp c_1)
    refine lv_iconst (v := (-1)) hx hb dX11_lineRefusal_27 (by decide) ?_
    rw [hQ]
    exact W.iret (v := (-1)) hx hb hr (fun t ht hW => ⟨⟨(-1), (), rfl, Or.inl (⟨by omega, rfl⟩), trivial⟩, hS.F ht⟩) hS.2.2 dX11_lineRefusal_28
  · have t_1 : ¬ a1.toInt < (0 : Int64).toInt := fun h => c_1 ((lg_cmp_lt a1 0).mpr (Int64.lt_iff_toInt_lt.mpr h))
    refine lv_lload_n hx hb dX11_lineRefusal_6 rfl (lv_at hl 1 rfl) ?_
    refine lv_ldc2 (v := 5) hx hb hown (hts (.constantLong RX11 300 (5)) (by decide +kernel)) dX11_lineRefusal_7 ?_
    refine W.lcmp hx hb dX11_lineRefusal_10 ?_
    refine lv_if_ge (tgt := 27) hx hb dX11_lineRefusal_11 (by decide) (fun c_2 => ?_) (fun c_2 => ?_)
    · have t_2 : (5 : Int64).toInt ≤ a1.toInt := Int64.le_iff_toInt_le.mp ((lg_cmp_ge a1 5).mp c_2)
      refine lv_iconst (v := (-1)) hx hb dX11_lineRefusal_27 (by decide) ?_
      rw [hQ]
      exact W.iret (v := (-1)) hx hb hr (fun t ht hW => ⟨⟨(-1), (), rfl, Or.inl (⟨by omega, rfl⟩), trivial⟩, hS.F ht⟩) hS.2.2 dX11_lineRefusal_28
    · have t_2 : ¬ (5 : Int64).toInt ≤ a1.toInt := fun h => c_2 ((lg_cmp_ge a1 5).mpr (Int64.le_iff_toInt_le.mpr h))
      refine lv_aload_n hx hb dX11_lineRefusal_14 rfl (lv_at hl 0 rfl) ?_
      refine va_get (ci := 11) (v := .ref xn) (C := RX11) (T := TX11) (N := 12) hx hb hts (fun _ h => List.mem_cons_of_mem _ (List.mem_append_left _ (List.mem_append_right _ h))) hown hK.1 hP 0 rfl rfl 1 (by decide) (hts (.fieldLink RX11 31 "CutAtlas" "net" "LCutAtlas$Net;") (by decide +kernel)) (fun _ h9 => h9) rfl dX11_lineRefusal_15 ?_
      refine lv_lload_n hx hb dX11_lineRefusal_18 rfl (lv_at hl 2 rfl) ?_
      refine lv_lload hx hb dX11_lineRefusal_19 (lv_at hl 3 rfl) ?_
      refine ct_R hP hD0 [(xn, .inr (3, [.int vp, .int vn, .ref n1, .ref n2, .ref n3, .ref n4, .ref n5]))] [1] (by decide) rfl (fun hPc hDw => ?_)
      have hFc := va_free (wc := []) hD hS hA [] rfl
      refine va_calli (va_runV (As := [.long a2, .long a3]) (rest := []) ⟨hx, hb, hml, hown, hts⟩ (c_X3_hasPair l D cy s.heap.size xn n1 n2 n3 n4 n5 vp vn a2 a3) (cwV 2 hts gX11_lineRefusal_X3_hasPair rfl rfl rfl (by decide +kernel) ⟨Nat.le_of_ble_eq_true rfl, Nat.le_of_ble_eq_true rfl⟩) ⟨bl_, va_recvX hK.1 hP (ci := 3) (q0 := 1) rfl rfl, fun U hU hW => ⟨rfl, by rw [hU], by rw [hU]; exact hPc, kk_mv hW hK, hDw⟩⟩ rfl rfl hl.1 rfl (lv_room (Nat.le_of_ble_eq_true rfl)) dX11_lineRefusal_21 ⟨Nat.le_of_ble_eq_true rfl, Nat.le_of_ble_eq_true rfl⟩) hS (fun q _ h => hFc q h) hFc (fun r_3 u t H locs ht hvm hw hB hz1 hk1 hS => ?_)
      have hP : va_P D vwCl _ H := ro_keep hP hk1
      rcases hw with ⟨w_4, e_⟩ | ⟨w_4, e_⟩
      · have e_ := e_.symm
        subst e_
        refine lv_if_ne (tgt := 29) hx hb dX11_lineRefusal_24 (by decide) (fun c_5 => ?_) (fun c_5 => ?_)
        · have _ := c_5
          refine lv_lload hx hb dX11_lineRefusal_29 (lv_at hl 4 rfl) ?_
          refine lv_lconst (v := 0) hx hb dX11_lineRefusal_31 (by decide) ?_
          refine W.lcmp hx hb dX11_lineRefusal_32 ?_
          refine lv_if_lt (tgt := 61) hx hb dX11_lineRefusal_33 (by decide) (fun c_6 => ?_) (fun c_6 => ?_)
          · have t_6 : a4.toInt < (0 : Int64).toInt := Int64.lt_iff_toInt_lt.mp ((lg_cmp_lt a4 0).mp c_6)
            refine lv_iconst (v := (-1)) hx hb dX11_lineRefusal_61 (by decide) ?_
            rw [hQ]
            exact W.iret (v := (-1)) hx hb hr (fun t ht hW => ⟨⟨(-1), (), rfl, Or.inl (⟨by omega, rfl⟩), trivial⟩, hS.F ht⟩) hS.2.2 dX11_lineRefusal_62
          · have t_6 : ¬ a4.toInt < (0 : Int64).toInt := fun h => c_6 ((lg_cmp_lt a4 0).mpr (Int64.lt_iff_toInt_lt.mpr h))
            refine lv_lload hx hb dX11_lineRefusal_36 (lv_at hl 4 rfl) ?_
            refine lv_ldc2 (v := 1000) hx hb hown (hts (.constantLong RX11 302 (1000)) (by decide +kernel)) dX11_lineRefusal_38 ?_
            refine W.lcmp hx hb dX11_lineRefusal_41 ?_
            refine lv_if_gt (tgt := 61) hx hb dX11_lineRefusal_42 (by decide) (fun c_7 => ?_) (fun c_7 => ?_)
            · have t_7 : (1000 : Int64).toInt < a4.toInt := Int64.lt_iff_toInt_lt.mp ((lg_cmp_gt a4 1000).mp c_7)
              refine lv_iconst (v := (-1)) hx hb dX11_lineRefusal_61 (by decide) ?_
              rw [hQ]
              exact W.iret (v := (-1)) hx hb hr (fun t ht hW => ⟨⟨(-1), (), rfl, Or.inl (⟨by omega, rfl⟩), trivial⟩, hS.F ht⟩) hS.2.2 dX11_lineRefusal_62
            · have t_7 : ¬ (1000 : Int64).toInt < a4.toInt := fun h => c_7 ((lg_cmp_gt a4 1000).mpr (Int64.lt_iff_toInt_lt.mpr h))
              refine lv_lload hx hb dX11_lineRefusal_45 (lv_at hl 5 rfl) ?_
              refine lv_lconst (v := 0) hx hb dX11_lineRefusal_47 (by decide) ?_
              refine W.lcmp hx hb dX11_lineRefusal_48 ?_
              refine lv_if_lt (tgt := 61) hx hb dX11_lineRefusal_49 (by decide) (fun c_8 => ?_) (fun c_8 => ?_)
              · have t_8 : a5.toInt < (0 : Int64).toInt := Int64.lt_iff_toInt_lt.mp ((lg_cmp_lt a5 0).mp c_8)
                refine lv_iconst (v := (-1)) hx hb dX11_lineRefusal_61 (by decide) ?_
                rw [hQ]
                exact W.iret (v := (-1)) hx hb hr (fun t ht hW => ⟨⟨(-1), (), rfl, Or.inl (⟨by omega, rfl⟩), trivial⟩, hS.F ht⟩) hS.2.2 dX11_lineRefusal_62
              · have t_8 : ¬ a5.toInt < (0 : Int64).toInt := fun h => c_8 ((lg_cmp_lt a5 0).mpr (Int64.lt_iff_toInt_lt.mpr h))
                refine lv_lload hx hb dX11_lineRefusal_52 (lv_at hl 5 rfl) ?_
                refine lv_ldc2 (v := 100) hx hb hown (hts (.constantLong RX11 304 (100)) (by decide +kernel)) dX11_lineRefusal_54 ?_
                refine W.lcmp hx hb dX11_lineRefusal_57 ?_
                refine lv_if_le (tgt := 63) hx hb dX11_lineRefusal_58 (by decide) (fun c_9 => ?_) (fun c_9 => ?_)
                · have t_9 : a5.toInt ≤ (100 : Int64).toInt := Int64.le_iff_toInt_le.mp ((lg_cmp_le a5 100).mp c_9)
                  refine lv_aload_n hx hb dX11_lineRefusal_63 rfl (lv_at hl 0 rfl) ?_
                  refine va_get (ci := 11) (v := .ref xn) (C := RX11) (T := TX11) (N := 12) hx hb hts (fun _ h => List.mem_cons_of_mem _ (List.mem_append_left _ (List.mem_append_right _ h))) hown hK.1 hP 0 rfl rfl 1 (by decide) (hts (.fieldLink RX11 31 "CutAtlas" "net" "LCutAtlas$Net;") (by decide +kernel)) (fun _ h9 => h9) rfl dX11_lineRefusal_64 ?_
                  refine va_get (ci := 3) (v := .int vn) (C := RX3) (T := TX3) (N := 7) hx hb hts (fun _ h => List.mem_cons_of_mem _ (List.mem_append_right _ h)) hown hK.1 hP 1 rfl rfl 1 (by decide) (hts (.fieldLink RX11 294 "CutAtlas$Net" "lines" "I") (by decide +kernel)) (fun _ h9 => h9) rfl dX11_lineRefusal_67 ?_
                  refine lv_bipush (v := 40) hx hb dX11_lineRefusal_70 (by decide) ?_
                  refine lv_icmp_lt (tgt := 80) hx hb dX11_lineRefusal_72 (by decide) (fun c_10 => ?_) (fun c_10 => ?_)
                  · have t_10 : vn.toInt < (40 : Int32).toInt := Int32.lt_iff_toInt_lt.mp c_10
                    refine lv_iconst (v := 0) hx hb dX11_lineRefusal_80 (by decide) ?_
                    rw [hQ]
                    exact W.iret (v := 0) hx hb hr (fun t ht hW => ⟨⟨0, (), rfl, Or.inr (Or.inr (⟨by omega, rfl⟩)), trivial⟩, hS.F ht⟩) hS.2.2 dX11_lineRefusal_81
                  · have t_10 : ¬ vn.toInt < (40 : Int32).toInt := fun h => c_10 (Int32.lt_iff_toInt_lt.mpr h)
                    refine lv_bipush (v := (-3)) hx hb dX11_lineRefusal_75 (by decide) ?_
                    refine lv_goto (tgt := 81) hx hb dX11_lineRefusal_77 (by decide) ?_
                    rw [hQ]
                    exact W.iret (v := (-3)) hx hb hr (fun t ht hW => ⟨⟨(-3), (), rfl, Or.inr (Or.inl (⟨by omega, rfl⟩)), trivial⟩, hS.F ht⟩) hS.2.2 dX11_lineRefusal_81
                · have t_9 : ¬ a5.toInt ≤ (100 : Int64).toInt := fun h => c_9 ((lg_cmp_le a5 100).mpr (Int64.le_iff_toInt_le.mpr h))
                  refine lv_iconst (v := (-1)) hx hb dX11_lineRefusal_61 (by decide) ?_
                  rw [hQ]
                  exact W.iret (v := (-1)) hx hb hr (fun t ht hW => ⟨⟨(-1), (), rfl, Or.inl (⟨by omega, rfl⟩), trivial⟩, hS.F ht⟩) hS.2.2 dX11_lineRefusal_62
        · exact absurd c_5 (by decide)
      · have e_ := e_.symm
        subst e_
        refine lv_if_ne (tgt := 29) hx hb dX11_lineRefusal_24 (by decide) (fun c_11 => ?_) (fun c_11 => ?_)
        · exact absurd c_11 (by decide)
        · have _ := c_11
          refine lv_iconst (v := (-1)) hx hb dX11_lineRefusal_27 (by decide) ?_
          rw [hQ]
          exact W.iret (v := (-1)) hx hb hr (fun t ht hW => ⟨⟨(-1), (), rfl, Or.inl (⟨by omega, rfl⟩), trivial⟩, hS.F ht⟩) hS.2.2 dX11_lineRefusal_28

set_option maxHeartbeats 4000000 in
set_option maxRecDepth 100000 in
theorem c_X11_trace (l : Launch) (D : va_G) (cy : Nat → ClassId) (sz : Nat) (xo : Nat) (xk : Nat) (xn : Nat) (xc : Nat) (xh : Nat) (xt : Nat) (xw : Nat) (xm : Nat) (xp : Nat) (pf : Int32) (ph : Int32) (tr : Int64) (fi : Int32) (n1 : Nat) (n2 : Nat) (n3 : Nat) (n4 : Nat) (n5 : Nat) (vp : Int32) (vn : Int32) : Met l yX11_trace wsX11_trace ({ frames := 0, cells := 0, slots := 0, locals := 0 }) (va_Pc [.ref xo] (fun U => U.heap.size = sz ∧ va_P D vwCl [(xo, .inr (11, [.ref xk, .ref xn, .ref xc, .ref xh, .ref xt, .ref xw, .ref xm, .ref xp, .int pf, .int ph, .long tr, .int fi])), (xn, .inr (3, [.int vp, .int vn, .ref n1, .ref n2, .ref n3, .ref n4, .ref n5]))] U.heap ∧ kk_ D cy U ∧ va_D (fun _ => True) [(xo, .inr (11, [.ref xk, .ref xn, .ref xc, .ref xh, .ref xt, .ref xw, .ref xm, .ref xp, .int pf, .int ph, .long tr, .int fi])), (xn, .inr (3, [.int vp, .int vn, .ref n1, .ref n2, .ref n3, .ref n4, .ref n5]))])) (va_Ql (fun (r : Int64) (_ : Unit) => True) (fun (_ : Unit) (_ : State) => True) (va_A [] sz)) 0 0 (va_A [] sz) := by
  refine ofQ (cc := cX11_trace) (maxL := 1) (ret := (some .long)) (by decide) rfl ?_
  intro p e s m args below meth c s₁ Q hQ B hml hv
  obtain ⟨rfl, hsz, hP, hK, hD0⟩ := hv
  have hx := B.exec
  have hb := B.bytes
  have hr := B.returns
  have hts := atoms_spec (ws := wsX11_trace) B.pre
  have hown : s.vm.findClass RX11 = some m.cls := by have h_ := findClass_of_methodNamed B.named; exact h_
  have hlocks := B.notSynchronized
  subst hsz
  have hD : va_D (va_A [] s.heap.size) [] := dd_nil
  generalize hAe : va_A [] s.heap.size = A at hD hQ
  have hA : ∀ q : Nat, s.heap.size ≤ q → A q := fun q h => by rw [← hAe]; exact Or.inr h
  have hS : va_S A s.heap s.heap [] := va_S.rf
  have hl := lv_entry ([.ref xo]) (n := 1) (Nat.le_of_ble_eq_true rfl)
  rw [lg_entry_eq]
  generalize (lg_sl ([.ref xo]) ++ List.replicate (1 - (lg_sl ([.ref xo])).length) Slot.unset).toArray = ls at hl ⊢
  have hl : lv_has ls 1 [(0, .ref xo)] := hl
  refine lv_aload_n hx hb dX11_trace_0 rfl (lv_at hl 0 rfl) ?_
  refine va_get (ci := 11) (v := .long tr) (C := RX11) (T := TX11) (N := 12) hx hb hts (fun _ h => List.mem_cons_of_mem _ (List.mem_append_right _ h)) hown hK.1 hP 0 rfl rfl 10 (by decide) (hts (.fieldLink RX11 87 "CutAtlas" "traced" "J") (by decide +kernel)) (fun _ h9 => h9) rfl dX11_trace_1 ?_
  rw [hQ]
  exact W.lret (v := tr) hx hb hr (fun t ht hW => ⟨⟨tr, (), rfl, trivial, trivial⟩, hS.F ht⟩) hS.2.2 dX11_trace_4

set_option maxHeartbeats 4000000 in
set_option maxRecDepth 100000 in
theorem c_X11_status (l : Launch) (D : va_G) (cy : Nat → ClassId) (sz : Nat) (xo : Nat) (xk : Nat) (xn : Nat) (xc : Nat) (xh : Nat) (xt : Nat) (xw : Nat) (xm : Nat) (xp : Nat) (pf : Int32) (ph : Int32) (tr : Int64) (fi : Int32) (n1 : Nat) (n2 : Nat) (n3 : Nat) (n4 : Nat) (n5 : Nat) (vp : Int32) (vn : Int32) : Met l yX11_status wsX11_status ({ frames := 0, cells := 0, slots := 0, locals := 0 }) (va_Pc [.ref xo] (fun U => U.heap.size = sz ∧ va_P D vwCl [(xo, .inr (11, [.ref xk, .ref xn, .ref xc, .ref xh, .ref xt, .ref xw, .ref xm, .ref xp, .int pf, .int ph, .long tr, .int fi])), (xn, .inr (3, [.int vp, .int vn, .ref n1, .ref n2, .ref n3, .ref n4, .ref n5]))] U.heap ∧ kk_ D cy U ∧ va_D (fun _ => True) [(xo, .inr (11, [.ref xk, .ref xn, .ref xc, .ref xh, .ref xt, .ref xw, .ref xm, .ref xp, .int pf, .int ph, .long tr, .int fi])), (xn, .inr (3, [.int vp, .int vn, .ref n1, .ref n2, .ref n3, .ref n4, .ref n5]))])) (va_Qi (fun (r : Int32) (_ : Unit) => True) (fun (_ : Unit) (_ : State) => True) (va_A [] sz)) 0 0 (va_A [] sz) := by
  refine ofQ (cc := cX11_status) (maxL := 1) (ret := (some .int)) (by decide) rfl ?_
  intro p e s m args below meth c s₁ Q hQ B hml hv
  obtain ⟨rfl, hsz, hP, hK, hD0⟩ := hv
  have hx := B.exec
  have hb := B.bytes
  have hr := B.returns
  have hts := atoms_spec (ws := wsX11_status) B.pre
  have hown : s.vm.findClass RX11 = some m.cls := by have h_ := findClass_of_methodNamed B.named; exact h_
  have hlocks := B.notSynchronized
  subst hsz
  have hD : va_D (va_A [] s.heap.size) [] := dd_nil
  generalize hAe : va_A [] s.heap.size = A at hD hQ
  have hA : ∀ q : Nat, s.heap.size ≤ q → A q := fun q h => by rw [← hAe]; exact Or.inr h
  have hS : va_S A s.heap s.heap [] := va_S.rf
  have hl := lv_entry ([.ref xo]) (n := 1) (Nat.le_of_ble_eq_true rfl)
  rw [lg_entry_eq]
  generalize (lg_sl ([.ref xo]) ++ List.replicate (1 - (lg_sl ([.ref xo])).length) Slot.unset).toArray = ls at hl ⊢
  have hl : lv_has ls 1 [(0, .ref xo)] := hl
  refine lv_aload_n hx hb dX11_status_0 rfl (lv_at hl 0 rfl) ?_
  refine va_get (ci := 11) (v := .int fi) (C := RX11) (T := TX11) (N := 12) hx hb hts (fun _ h => List.mem_cons_of_mem _ (List.mem_append_right _ h)) hown hK.1 hP 0 rfl rfl 11 (by decide) (hts (.fieldLink RX11 91 "CutAtlas" "finding" "I") (by decide +kernel)) (fun _ h9 => h9) rfl dX11_status_1 ?_
  rw [hQ]
  exact W.iret (v := fi) hx hb hr (fun t ht hW => ⟨⟨fi, (), rfl, trivial, trivial⟩, hS.F ht⟩) hS.2.2 dX11_status_4

set_option maxHeartbeats 4000000 in
set_option maxRecDepth 100000 in
theorem c_X11_told (l : Launch) (D : va_G) (cy : Nat → ClassId) (sz : Nat) (xo : Nat) (xk : Nat) (xn : Nat) (xc : Nat) (xh : Nat) (xt : Nat) (xw : Nat) (xm : Nat) (xp : Nat) (pf : Int32) (ph : Int32) (tr : Int64) (fi : Int32) (n1 : Nat) (n2 : Nat) (n3 : Nat) (n4 : Nat) (n5 : Nat) (vp : Int32) (vn : Int32) (fk : Nat → Int32) (fs : Nat → Int32) (fe : Nat → Int32) (fw : Nat → Int32) (fp : Nat → Int32) (a1 : Int32) (a2 : Int32) (hvn : 0 ≤ vn.toInt ∧ vn.toInt ≤ 40) : Met l yX11_told wsX11_told ({ frames := 1, cells := 0, slots := 0, locals := 21 }) (va_Pc [.ref xo, .int a1, .int a2] (fun U => U.heap.size = sz ∧ va_P D vwCl [(xo, .inr (11, [.ref xk, .ref xn, .ref xc, .ref xh, .ref xt, .ref xw, .ref xm, .ref xp, .int pf, .int ph, .long tr, .int fi])), (xn, .inr (3, [.int vp, .int vn, .ref n1, .ref n2, .ref n3, .ref n4, .ref n5])), (n1, .inl (cy 0, 40, .inl fk)), (n2, .inl (cy 0, 40, .inl fs)), (n3, .inl (cy 0, 40, .inl fe)), (n4, .inl (cy 0, 40, .inl fw)), (n5, .inl (cy 0, 40, .inl fp))] U.heap ∧ kk_ D cy U ∧ va_D (fun _ => True) [(xo, .inr (11, [.ref xk, .ref xn, .ref xc, .ref xh, .ref xt, .ref xw, .ref xm, .ref xp, .int pf, .int ph, .long tr, .int fi])), (xn, .inr (3, [.int vp, .int vn, .ref n1, .ref n2, .ref n3, .ref n4, .ref n5])), (n1, .inl (cy 0, 40, .inl fk)), (n2, .inl (cy 0, 40, .inl fs)), (n3, .inl (cy 0, 40, .inl fe)), (n4, .inl (cy 0, 40, .inl fw)), (n5, .inl (cy 0, 40, .inl fp))])) (va_Qi (fun (r : Int32) (_ : Unit) => True) (fun (_ : Unit) (_ : State) => True) (va_A [] sz)) 0 0 (va_A [] sz) := by
  refine ofQ (cc := cX11_told) (maxL := 3) (ret := (some .int)) (by decide) rfl ?_
  intro p e s m args below meth c s₁ Q hQ B hml hv
  obtain ⟨rfl, hsz, hP, hK, hD0⟩ := hv
  have hx := B.exec
  have hb := B.bytes
  have hr := B.returns
  have hts := atoms_spec (ws := wsX11_told) B.pre
  have hown : s.vm.findClass RX11 = some m.cls := by have h_ := findClass_of_methodNamed B.named; exact h_
  have hlocks := B.notSynchronized
  subst hsz
  have hD : va_D (va_A [] s.heap.size) [] := dd_nil
  generalize hAe : va_A [] s.heap.size = A at hD hQ
  have hA : ∀ q : Nat, s.heap.size ≤ q → A q := fun q h => by rw [← hAe]; exact Or.inr h
  have hS : va_S A s.heap s.heap [] := va_S.rf
  have hl := lv_entry ([.ref xo, .int a1, .int a2]) (n := 3) (Nat.le_of_ble_eq_true rfl)
  rw [lg_entry_eq]
  generalize (lg_sl ([.ref xo, .int a1, .int a2]) ++ List.replicate (3 - (lg_sl ([.ref xo, .int a1, .int a2])).length) Slot.unset).toArray = ls at hl ⊢
  have hl : lv_has ls 3 [(0, .ref xo), (1, .int a1), (2, .int a2)] := hl
  have zm1 : ((-1) : Int32).toInt = -1 := by decide
  have z0 : (0 : Int32).toInt = 0 := by decide
  have z1 : (1 : Int32).toInt = 1 := by decide
  refine lv_aload_n hx hb dX11_told_0 rfl (lv_at hl 0 rfl) ?_
  refine va_get (ci := 11) (v := .ref xn) (C := RX11) (T := TX11) (N := 12) hx hb hts (fun _ h => List.mem_cons_of_mem _ (List.mem_append_left _ (List.mem_append_right _ h))) hown hK.1 hP 0 rfl rfl 1 (by decide) (hts (.fieldLink RX11 31 "CutAtlas" "net" "LCutAtlas$Net;") (by decide +kernel)) (fun _ h9 => h9) rfl dX11_told_1 ?_
  refine lv_iload_n hx hb dX11_told_4 rfl (lv_at hl 1 rfl) ?_
  refine ct_R hP hD0 [(xn, .inr (3, [.int vp, .int vn, .ref n1, .ref n2, .ref n3, .ref n4, .ref n5]))] [1] (by decide) rfl (fun hPc hDw => ?_)
  have hFc := va_free (wc := []) hD hS hA [] rfl
  refine va_calli (va_runV (As := [.int a1]) (rest := []) ⟨hx, hb, hml, hown, hts⟩ (c_X3_hasLine l D cy s.heap.size xn n1 n2 n3 n4 n5 vp vn a1) (cwV 1 hts gX11_told_X3_hasLine rfl rfl rfl (by decide +kernel) ⟨Nat.le_of_ble_eq_true rfl, Nat.le_of_ble_eq_true rfl⟩) ⟨bl_, va_recvX hK.1 hP (ci := 3) (q0 := 1) rfl rfl, fun U hU hW => ⟨rfl, by rw [hU], by rw [hU]; exact hPc, kk_mv hW hK, hDw⟩⟩ rfl rfl hl.1 rfl (lv_room (Nat.le_of_ble_eq_true rfl)) dX11_told_5 ⟨Nat.le_of_ble_eq_true rfl, Nat.le_of_ble_eq_true rfl⟩) hS (fun q _ h => hFc q h) hFc (fun r_1 u t H locs ht hvm hw hB hz1 hk1 hS => ?_)
  have hP : va_P D vwCl _ H := ro_keep hP hk1
  rcases hw with ⟨w_2, e_⟩ | ⟨w_2, e_⟩
  · have e_ := e_.symm
    subst e_
    refine lv_if_ne (tgt := 13) hx hb dX11_told_8 (by decide) (fun c_3 => ?_) (fun c_3 => ?_)
    · have _ := c_3
      refine lv_iload_n hx hb dX11_told_13 rfl (lv_at hl 2 rfl) ?_
      rcases sw_6 a2 with h_ | e_ | e_ | e_ | e_ | e_ | e_
      · refine lv_tableOut (tgt := 119) hx hb dX11_told_14 h_ (by decide) ?_
        refine lv_iconst (v := (-1)) hx hb dX11_told_119 (by decide) ?_
        rw [hQ]
        exact W.iret (v := (-1)) hx hb hr (fun t ht hW => ⟨⟨(-1), (), rfl, trivial, trivial⟩, hS.F ht⟩) hS.2.2 dX11_told_120
      · refine lv_tableIn (off := 38) (tgt := 52) hx hb dX11_told_14 (by rw [e_]; decide) (by rw [e_]; decide) (by rw [e_]; decide) (by decide) ?_
        refine lv_aload_n hx hb dX11_told_52 rfl (lv_at hl 0 rfl) ?_
        refine va_get (ci := 11) (v := .ref xn) (C := RX11) (T := TX11) (N := 12) hx hb hts (fun _ h => List.mem_cons_of_mem _ (List.mem_append_left _ (List.mem_append_right _ h))) hown hK.1 hP 0 rfl rfl 1 (by decide) (hts (.fieldLink RX11 31 "CutAtlas" "net" "LCutAtlas$Net;") (by decide +kernel)) (fun _ h9 => h9) rfl dX11_told_53 ?_
        refine va_get (ci := 3) (v := .ref n1) (C := RX3) (T := TX3) (N := 7) hx hb hts (fun _ h => List.mem_cons_of_mem _ (List.mem_append_right _ h)) hown hK.1 hP 1 rfl rfl 2 (by decide) (hts (.fieldLink RX11 116 "CutAtlas$Net" "kinds" "[I") (by decide +kernel)) (fun _ h9 => h9) rfl dX11_told_56 ?_
        refine lv_iload_n hx hb dX11_told_59 rfl (lv_at hl 1 rfl) ?_
        have h_4 : vp_in a1 40 := in_I (by omega) (by omega)
        refine va_iald hx hb hK.1 hP 2 0 rfl rfl (i := a1) h_4 dX11_told_60 ?_
        refine lv_topi (fun y_5 ey_5 => ?_)
        rw [hQ]
        exact W.iret (v := y_5) hx hb hr (fun t ht hW => ⟨⟨y_5, (), rfl, trivial, trivial⟩, hS.F ht⟩) hS.2.2 dX11_told_61
      · refine lv_tableIn (off := 48) (tgt := 62) hx hb dX11_told_14 (by rw [e_]; decide) (by rw [e_]; decide) (by rw [e_]; decide) (by decide) ?_
        refine lv_aload_n hx hb dX11_told_62 rfl (lv_at hl 0 rfl) ?_
        refine va_get (ci := 11) (v := .ref xn) (C := RX11) (T := TX11) (N := 12) hx hb hts (fun _ h => List.mem_cons_of_mem _ (List.mem_append_left _ (List.mem_append_right _ h))) hown hK.1 hP 0 rfl rfl 1 (by decide) (hts (.fieldLink RX11 31 "CutAtlas" "net" "LCutAtlas$Net;") (by decide +kernel)) (fun _ h9 => h9) rfl dX11_told_63 ?_
        refine va_get (ci := 3) (v := .ref n2) (C := RX3) (T := TX3) (N := 7) hx hb hts (fun _ h => List.mem_cons_of_mem _ (List.mem_append_right _ h)) hown hK.1 hP 1 rfl rfl 3 (by decide) (hts (.fieldLink RX11 155 "CutAtlas$Net" "starts" "[I") (by decide +kernel)) (fun _ h9 => h9) rfl dX11_told_66 ?_
        refine lv_iload_n hx hb dX11_told_69 rfl (lv_at hl 1 rfl) ?_
        have h_6 : vp_in a1 40 := in_I (by omega) (by omega)
        refine va_iald hx hb hK.1 hP 3 0 rfl rfl (i := a1) h_6 dX11_told_70 ?_
        refine lv_topi (fun y_7 ey_7 => ?_)
        rw [hQ]
        exact W.iret (v := y_7) hx hb hr (fun t ht hW => ⟨⟨y_7, (), rfl, trivial, trivial⟩, hS.F ht⟩) hS.2.2 dX11_told_71
      · refine lv_tableIn (off := 58) (tgt := 72) hx hb dX11_told_14 (by rw [e_]; decide) (by rw [e_]; decide) (by rw [e_]; decide) (by decide) ?_
        refine lv_aload_n hx hb dX11_told_72 rfl (lv_at hl 0 rfl) ?_
        refine va_get (ci := 11) (v := .ref xn) (C := RX11) (T := TX11) (N := 12) hx hb hts (fun _ h => List.mem_cons_of_mem _ (List.mem_append_left _ (List.mem_append_right _ h))) hown hK.1 hP 0 rfl rfl 1 (by decide) (hts (.fieldLink RX11 31 "CutAtlas" "net" "LCutAtlas$Net;") (by decide +kernel)) (fun _ h9 => h9) rfl dX11_told_73 ?_
        refine va_get (ci := 3) (v := .ref n3) (C := RX3) (T := TX3) (N := 7) hx hb hts (fun _ h => List.mem_cons_of_mem _ (List.mem_append_right _ h)) hown hK.1 hP 1 rfl rfl 4 (by decide) (hts (.fieldLink RX11 158 "CutAtlas$Net" "ends" "[I") (by decide +kernel)) (fun _ h9 => h9) rfl dX11_told_76 ?_
        refine lv_iload_n hx hb dX11_told_79 rfl (lv_at hl 1 rfl) ?_
        have h_8 : vp_in a1 40 := in_I (by omega) (by omega)
        refine va_iald hx hb hK.1 hP 4 0 rfl rfl (i := a1) h_8 dX11_told_80 ?_
        refine lv_topi (fun y_9 ey_9 => ?_)
        rw [hQ]
        exact W.iret (v := y_9) hx hb hr (fun t ht hW => ⟨⟨y_9, (), rfl, trivial, trivial⟩, hS.F ht⟩) hS.2.2 dX11_told_81
      · refine lv_tableIn (off := 68) (tgt := 82) hx hb dX11_told_14 (by rw [e_]; decide) (by rw [e_]; decide) (by rw [e_]; decide) (by decide) ?_
        refine lv_aload_n hx hb dX11_told_82 rfl (lv_at hl 0 rfl) ?_
        refine va_get (ci := 11) (v := .ref xn) (C := RX11) (T := TX11) (N := 12) hx hb hts (fun _ h => List.mem_cons_of_mem _ (List.mem_append_left _ (List.mem_append_right _ h))) hown hK.1 hP 0 rfl rfl 1 (by decide) (hts (.fieldLink RX11 31 "CutAtlas" "net" "LCutAtlas$Net;") (by decide +kernel)) (fun _ h9 => h9) rfl dX11_told_83 ?_
        refine va_get (ci := 3) (v := .ref n4) (C := RX3) (T := TX3) (N := 7) hx hb hts (fun _ h => List.mem_cons_of_mem _ (List.mem_append_right _ h)) hown hK.1 hP 1 rfl rfl 5 (by decide) (hts (.fieldLink RX11 129 "CutAtlas$Net" "widths" "[I") (by decide +kernel)) (fun _ h9 => h9) rfl dX11_told_86 ?_
        refine lv_iload_n hx hb dX11_told_89 rfl (lv_at hl 1 rfl) ?_
        have h_10 : vp_in a1 40 := in_I (by omega) (by omega)
        refine va_iald hx hb hK.1 hP 5 0 rfl rfl (i := a1) h_10 dX11_told_90 ?_
        refine lv_topi (fun y_11 ey_11 => ?_)
        rw [hQ]
        exact W.iret (v := y_11) hx hb hr (fun t ht hW => ⟨⟨y_11, (), rfl, trivial, trivial⟩, hS.F ht⟩) hS.2.2 dX11_told_91
      · refine lv_tableIn (off := 78) (tgt := 92) hx hb dX11_told_14 (by rw [e_]; decide) (by rw [e_]; decide) (by rw [e_]; decide) (by decide) ?_
        refine lv_aload_n hx hb dX11_told_92 rfl (lv_at hl 0 rfl) ?_
        refine va_get (ci := 11) (v := .ref xn) (C := RX11) (T := TX11) (N := 12) hx hb hts (fun _ h => List.mem_cons_of_mem _ (List.mem_append_left _ (List.mem_append_right _ h))) hown hK.1 hP 0 rfl rfl 1 (by decide) (hts (.fieldLink RX11 31 "CutAtlas" "net" "LCutAtlas$Net;") (by decide +kernel)) (fun _ h9 => h9) rfl dX11_told_93 ?_
        refine va_get (ci := 3) (v := .ref n5) (C := RX3) (T := TX3) (N := 7) hx hb hts (fun _ h => List.mem_cons_of_mem _ (List.mem_append_right _ h)) hown hK.1 hP 1 rfl rfl 6 (by decide) (hts (.fieldLink RX11 119 "CutAtlas$Net" "prices" "[I") (by decide +kernel)) (fun _ h9 => h9) rfl dX11_told_96 ?_
        refine lv_iload_n hx hb dX11_told_99 rfl (lv_at hl 1 rfl) ?_
        have h_12 : vp_in a1 40 := in_I (by omega) (by omega)
        refine va_iald hx hb hK.1 hP 6 0 rfl rfl (i := a1) h_12 dX11_told_100 ?_
        refine lv_topi (fun y_13 ey_13 => ?_)
        rw [hQ]
        exact W.iret (v := y_13) hx hb hr (fun t ht hW => ⟨⟨y_13, (), rfl, trivial, trivial⟩, hS.F ht⟩) hS.2.2 dX11_told_101
      · refine lv_tableIn (off := 88) (tgt := 102) hx hb dX11_told_14 (by rw [e_]; decide) (by rw [e_]; decide) (by rw [e_]; decide) (by decide) ?_
        refine lv_aload_n hx hb dX11_told_102 rfl (lv_at hl 0 rfl) ?_
        refine va_get (ci := 11) (v := .ref xn) (C := RX11) (T := TX11) (N := 12) hx hb hts (fun _ h => List.mem_cons_of_mem _ (List.mem_append_left _ (List.mem_append_right _ h))) hown hK.1 hP 0 rfl rfl 1 (by decide) (hts (.fieldLink RX11 31 "CutAtlas" "net" "LCutAtlas$Net;") (by decide +kernel)) (fun _ h9 => h9) rfl dX11_told_103 ?_
        refine lv_iload_n hx hb dX11_told_106 rfl (lv_at hl 1 rfl) ?_
        refine ct_R hP hD0 [(xn, .inr (3, [.int vp, .int vn, .ref n1, .ref n2, .ref n3, .ref n4, .ref n5])), (n2, .inl (cy 0, 40, .inl fs))] [1, 3] (by decide) rfl (fun hPc hDw => ?_)
        have hFc := va_free (wc := []) hD hS hA [] rfl
        refine va_calli (va_runV (As := [.int a1]) (rest := []) ⟨hx, hb, hml, hown, hts⟩ (c_X3_isMissing l D cy H.size xn n1 n2 n3 n4 n5 vp vn fs a1 (by first | with_reducible assumption | assumption | omega)) (cwV 1 hts gX11_told_X3_isMissing rfl rfl rfl (by decide +kernel) ⟨Nat.le_of_ble_eq_true rfl, Nat.le_of_ble_eq_true rfl⟩) ⟨bl_, va_recvX hK.1 hP (ci := 3) (q0 := 1) rfl rfl, fun U hU hW => ⟨rfl, by rw [hU], by rw [hU]; exact hPc, kk_mv hW hK, hDw⟩⟩ rfl rfl hl.1 rfl (lv_room (Nat.le_of_ble_eq_true rfl)) dX11_told_107 ⟨Nat.le_of_ble_eq_true rfl, Nat.le_of_ble_eq_true rfl⟩) hS (fun q _ h => hFc q h) hFc (fun r_14 u t H locs ht hvm hw hB hz1 hk1 hS => ?_)
        have hP : va_P D vwCl _ H := ro_keep hP hk1
        rcases hw with ⟨w_15, e_⟩ | ⟨w_15, e_⟩
        · have e_ := e_.symm
          subst e_
          refine lv_if_eq (tgt := 117) hx hb dX11_told_110 (by decide) (fun c_16 => ?_) (fun c_16 => ?_)
          · exact absurd c_16 (by decide)
          · have _ := c_16
            refine lv_iconst (v := 1) hx hb dX11_told_113 (by decide) ?_
            refine lv_goto (tgt := 118) hx hb dX11_told_114 (by decide) ?_
            rw [hQ]
            exact W.iret (v := 1) hx hb hr (fun t ht hW => ⟨⟨1, (), rfl, trivial, trivial⟩, hS.F ht⟩) hS.2.2 dX11_told_118
        · have e_ := e_.symm
          subst e_
          refine lv_if_eq (tgt := 117) hx hb dX11_told_110 (by decide) (fun c_17 => ?_) (fun c_17 => ?_)
          · have _ := c_17
            refine lv_iconst (v := 0) hx hb dX11_told_117 (by decide) ?_
            rw [hQ]
            exact W.iret (v := 0) hx hb hr (fun t ht hW => ⟨⟨0, (), rfl, trivial, trivial⟩, hS.F ht⟩) hS.2.2 dX11_told_118
          · exact absurd c_17 (by decide)
    · exact absurd c_3 (by decide)
  · have e_ := e_.symm
    subst e_
    refine lv_if_ne (tgt := 13) hx hb dX11_told_8 (by decide) (fun c_18 => ?_) (fun c_18 => ?_)
    · exact absurd c_18 (by decide)
    · have _ := c_18
      refine lv_iconst (v := (-1)) hx hb dX11_told_11 (by decide) ?_
      rw [hQ]
      exact W.iret (v := (-1)) hx hb hr (fun t ht hW => ⟨⟨(-1), (), rfl, trivial, trivial⟩, hS.F ht⟩) hS.2.2 dX11_told_12

set_option maxHeartbeats 4000000 in
set_option maxRecDepth 100000 in
theorem c_X11_about (l : Launch) (D : va_G) (cy : Nat → ClassId) (sz : Nat) (xo : Nat) (xk : Nat) (xn : Nat) (xc : Nat) (xh : Nat) (xt : Nat) (xw : Nat) (xm : Nat) (xp : Nat) (pf : Int32) (ph : Int32) (tr : Int64) (fi : Int32) (n1 : Nat) (n2 : Nat) (n3 : Nat) (n4 : Nat) (n5 : Nat) (vp : Int32) (vn : Int32) (fk : Nat → Int32) (fs : Nat → Int32) (a1 : Int32) (hvn : 0 ≤ vn.toInt ∧ vn.toInt ≤ 40) : Met l yX11_about wsX11_about ({ frames := 2, cells := 0, slots := 0, locals := 43 }) (va_Pc [.ref xo, .int a1] (fun U => U.heap.size = sz ∧ va_P D vwCl [(xo, .inr (11, [.ref xk, .ref xn, .ref xc, .ref xh, .ref xt, .ref xw, .ref xm, .ref xp, .int pf, .int ph, .long tr, .int fi])), (xn, .inr (3, [.int vp, .int vn, .ref n1, .ref n2, .ref n3, .ref n4, .ref n5])), (n1, .inl (cy 0, 40, .inl fk)), (n2, .inl (cy 0, 40, .inl fs))] U.heap ∧ kk_ D cy U ∧ va_D (fun _ => True) [(xo, .inr (11, [.ref xk, .ref xn, .ref xc, .ref xh, .ref xt, .ref xw, .ref xm, .ref xp, .int pf, .int ph, .long tr, .int fi])), (xn, .inr (3, [.int vp, .int vn, .ref n1, .ref n2, .ref n3, .ref n4, .ref n5])), (n1, .inl (cy 0, 40, .inl fk)), (n2, .inl (cy 0, 40, .inl fs))])) (va_Qi (fun (r : Int32) (_ : Unit) => True) (fun (_ : Unit) (_ : State) => True) (va_A [] sz)) 0 0 (va_A [] sz) := by
  refine ofQ (cc := cX11_about) (maxL := 2) (ret := (some .int)) (by decide) rfl ?_
  intro p e s m args below meth c s₁ Q hQ B hml hv
  obtain ⟨rfl, hsz, hP, hK, hD0⟩ := hv
  have hx := B.exec
  have hb := B.bytes
  have hr := B.returns
  have hts := atoms_spec (ws := wsX11_about) B.pre
  have hown : s.vm.findClass RX11 = some m.cls := by have h_ := findClass_of_methodNamed B.named; exact h_
  have hlocks := B.notSynchronized
  subst hsz
  have hD : va_D (va_A [] s.heap.size) [] := dd_nil
  generalize hAe : va_A [] s.heap.size = A at hD hQ
  have hA : ∀ q : Nat, s.heap.size ≤ q → A q := fun q h => by rw [← hAe]; exact Or.inr h
  have hS : va_S A s.heap s.heap [] := va_S.rf
  have hl := lv_entry ([.ref xo, .int a1]) (n := 2) (Nat.le_of_ble_eq_true rfl)
  rw [lg_entry_eq]
  generalize (lg_sl ([.ref xo, .int a1]) ++ List.replicate (2 - (lg_sl ([.ref xo, .int a1])).length) Slot.unset).toArray = ls at hl ⊢
  have hl : lv_has ls 2 [(0, .ref xo), (1, .int a1)] := hl
  have zm1 : ((-1) : Int32).toInt = -1 := by decide
  have z0 : (0 : Int32).toInt = 0 := by decide
  have z1 : (1 : Int32).toInt = 1 := by decide
  refine lv_iload_n hx hb dX11_about_0 rfl (lv_at hl 1 rfl) ?_
  rcases sw_5 a1 with h_ | e_ | e_ | e_ | e_ | e_
  · refine lv_tableOut (tgt := 81) hx hb dX11_about_1 h_ (by decide) ?_
    refine lv_iconst (v := (-1)) hx hb dX11_about_81 (by decide) ?_
    rw [hQ]
    exact W.iret (v := (-1)) hx hb hr (fun t ht hW => ⟨⟨(-1), (), rfl, trivial, trivial⟩, hS.F ht⟩) hS.2.2 dX11_about_82
  · refine lv_tableIn (off := 35) (tgt := 36) hx hb dX11_about_1 (by rw [e_]; decide) (by rw [e_]; decide) (by rw [e_]; decide) (by decide) ?_
    refine lv_aload_n hx hb dX11_about_36 rfl (lv_at hl 0 rfl) ?_
    refine va_get (ci := 11) (v := .ref xn) (C := RX11) (T := TX11) (N := 12) hx hb hts (fun _ h => List.mem_cons_of_mem _ (List.mem_append_left _ (List.mem_append_right _ h))) hown hK.1 hP 0 rfl rfl 1 (by decide) (hts (.fieldLink RX11 31 "CutAtlas" "net" "LCutAtlas$Net;") (by decide +kernel)) (fun _ h9 => h9) rfl dX11_about_37 ?_
    refine va_get (ci := 3) (v := .int vp) (C := RX3) (T := TX3) (N := 7) hx hb hts (fun _ h => List.mem_cons_of_mem _ (List.mem_append_right _ h)) hown hK.1 hP 1 rfl rfl 0 (by decide) (hts (.fieldLink RX11 94 "CutAtlas$Net" "places" "I") (by decide +kernel)) (fun _ h9 => h9) rfl dX11_about_40 ?_
    rw [hQ]
    exact W.iret (v := vp) hx hb hr (fun t ht hW => ⟨⟨vp, (), rfl, trivial, trivial⟩, hS.F ht⟩) hS.2.2 dX11_about_43
  · refine lv_tableIn (off := 43) (tgt := 44) hx hb dX11_about_1 (by rw [e_]; decide) (by rw [e_]; decide) (by rw [e_]; decide) (by decide) ?_
    refine lv_aload_n hx hb dX11_about_44 rfl (lv_at hl 0 rfl) ?_
    refine va_get (ci := 11) (v := .ref xn) (C := RX11) (T := TX11) (N := 12) hx hb hts (fun _ h => List.mem_cons_of_mem _ (List.mem_append_left _ (List.mem_append_right _ h))) hown hK.1 hP 0 rfl rfl 1 (by decide) (hts (.fieldLink RX11 31 "CutAtlas" "net" "LCutAtlas$Net;") (by decide +kernel)) (fun _ h9 => h9) rfl dX11_about_45 ?_
    refine va_get (ci := 3) (v := .int vn) (C := RX3) (T := TX3) (N := 7) hx hb hts (fun _ h => List.mem_cons_of_mem _ (List.mem_append_right _ h)) hown hK.1 hP 1 rfl rfl 1 (by decide) (hts (.fieldLink RX11 294 "CutAtlas$Net" "lines" "I") (by decide +kernel)) (fun _ h9 => h9) rfl dX11_about_48 ?_
    rw [hQ]
    exact W.iret (v := vn) hx hb hr (fun t ht hW => ⟨⟨vn, (), rfl, trivial, trivial⟩, hS.F ht⟩) hS.2.2 dX11_about_51
  · refine lv_tableIn (off := 51) (tgt := 52) hx hb dX11_about_1 (by rw [e_]; decide) (by rw [e_]; decide) (by rw [e_]; decide) (by decide) ?_
    refine lv_aload_n hx hb dX11_about_52 rfl (lv_at hl 0 rfl) ?_
    refine va_get (ci := 11) (v := .ref xn) (C := RX11) (T := TX11) (N := 12) hx hb hts (fun _ h => List.mem_cons_of_mem _ (List.mem_append_left _ (List.mem_append_right _ h))) hown hK.1 hP 0 rfl rfl 1 (by decide) (hts (.fieldLink RX11 31 "CutAtlas" "net" "LCutAtlas$Net;") (by decide +kernel)) (fun _ h9 => h9) rfl dX11_about_53 ?_
    refine ct_R hP hD0 [(xn, .inr (3, [.int vp, .int vn, .ref n1, .ref n2, .ref n3, .ref n4, .ref n5])), (n2, .inl (cy 0, 40, .inl fs))] [1, 3] (by decide) rfl (fun hPc hDw => ?_)
    have hFc := va_free (wc := []) hD hS hA [] rfl
    refine va_calli (va_runV (As := []) (rest := []) ⟨hx, hb, hml, hown, hts⟩ (c_X3_missingLines l D cy s.heap.size xn n1 n2 n3 n4 n5 vp vn fs (by first | with_reducible assumption | assumption | omega)) (cwV 0 hts gX11_about_X3_missingLines rfl rfl rfl (by decide +kernel) ⟨Nat.le_of_ble_eq_true rfl, Nat.le_of_ble_eq_true rfl⟩) ⟨bl_, va_recvX hK.1 hP (ci := 3) (q0 := 1) rfl rfl, fun U hU hW => ⟨rfl, by rw [hU], by rw [hU]; exact hPc, kk_mv hW hK, hDw⟩⟩ rfl rfl hl.1 rfl (lv_room (Nat.le_of_ble_eq_true rfl)) dX11_about_56 ⟨Nat.le_of_ble_eq_true rfl, Nat.le_of_ble_eq_true rfl⟩) hS (fun q _ h => hFc q h) hFc (fun r_1 u t H locs ht hvm hw hB hz1 hk1 hS => ?_)
    have hP : va_P D vwCl _ H := ro_keep hP hk1
    rw [hQ]
    exact W.iret (v := r_1) hx hb hr (fun t ht hW => ⟨⟨r_1, (), rfl, trivial, trivial⟩, hS.F ht⟩) hS.2.2 dX11_about_59
  · refine lv_tableIn (off := 59) (tgt := 60) hx hb dX11_about_1 (by rw [e_]; decide) (by rw [e_]; decide) (by rw [e_]; decide) (by decide) ?_
    refine lv_aload_n hx hb dX11_about_60 rfl (lv_at hl 0 rfl) ?_
    refine va_get (ci := 11) (v := .int ph) (C := RX11) (T := TX11) (N := 12) hx hb hts (fun _ h => List.mem_cons_of_mem _ (List.mem_append_left _ (List.mem_append_right _ h))) hown hK.1 hP 0 rfl rfl 9 (by decide) (hts (.fieldLink RX11 84 "CutAtlas" "pastHeld" "I") (by decide +kernel)) (fun _ h9 => h9) rfl dX11_about_61 ?_
    rw [hQ]
    exact W.iret (v := ph) hx hb hr (fun t ht hW => ⟨⟨ph, (), rfl, trivial, trivial⟩, hS.F ht⟩) hS.2.2 dX11_about_64
  · refine lv_tableIn (off := 64) (tgt := 65) hx hb dX11_about_1 (by rw [e_]; decide) (by rw [e_]; decide) (by rw [e_]; decide) (by decide) ?_
    refine lv_aload_n hx hb dX11_about_65 rfl (lv_at hl 0 rfl) ?_
    refine va_get (ci := 11) (v := .ref xn) (C := RX11) (T := TX11) (N := 12) hx hb hts (fun _ h => List.mem_cons_of_mem _ (List.mem_append_left _ (List.mem_append_right _ h))) hown hK.1 hP 0 rfl rfl 1 (by decide) (hts (.fieldLink RX11 31 "CutAtlas" "net" "LCutAtlas$Net;") (by decide +kernel)) (fun _ h9 => h9) rfl dX11_about_66 ?_
    refine ct_R hP hD0 [(xn, .inr (3, [.int vp, .int vn, .ref n1, .ref n2, .ref n3, .ref n4, .ref n5])), (n1, .inl (cy 0, 40, .inl fk)), (n2, .inl (cy 0, 40, .inl fs))] [1, 2, 3] (by decide) rfl (fun hPc hDw => ?_)
    have hFc := va_free (wc := []) hD hS hA [] rfl
    refine va_calli (va_runV (As := []) (rest := []) ⟨hx, hb, hml, hown, hts⟩ (c_X3_isWhole l D cy s.heap.size xn n1 n2 n3 n4 n5 vp vn fk fs (by first | with_reducible assumption | assumption | omega)) (cwV 0 hts gX11_about_X3_isWhole rfl rfl rfl (by decide +kernel) ⟨Nat.le_of_ble_eq_true rfl, Nat.le_of_ble_eq_true rfl⟩) ⟨bl_, va_recvX hK.1 hP (ci := 3) (q0 := 1) rfl rfl, fun U hU hW => ⟨rfl, by rw [hU], by rw [hU]; exact hPc, kk_mv hW hK, hDw⟩⟩ rfl rfl hl.1 rfl (lv_room (Nat.le_of_ble_eq_true rfl)) dX11_about_69 ⟨Nat.le_of_ble_eq_true rfl, Nat.le_of_ble_eq_true rfl⟩) hS (fun q _ h => hFc q h) hFc (fun r_2 u t H locs ht hvm hw hB hz1 hk1 hS => ?_)
    have hP : va_P D vwCl _ H := ro_keep hP hk1
    have f0_r_2 := hw
    refine lv_if_eq (tgt := 79) hx hb dX11_about_72 (by decide) (fun c_3 => ?_) (fun c_3 => ?_)
    · have t_3 : r_2.toInt = (0 : Int32).toInt := congrArg Int32.toInt c_3
      refine lv_iconst (v := 0) hx hb dX11_about_79 (by decide) ?_
      rw [hQ]
      exact W.iret (v := 0) hx hb hr (fun t ht hW => ⟨⟨0, (), rfl, trivial, trivial⟩, hS.F ht⟩) hS.2.2 dX11_about_80
    · have t_3 : ¬ r_2.toInt = (0 : Int32).toInt := fun h => c_3 (Int32.toInt_inj.mp h)
      refine lv_iconst (v := 1) hx hb dX11_about_75 (by decide) ?_
      refine lv_goto (tgt := 80) hx hb dX11_about_76 (by decide) ?_
      rw [hQ]
      exact W.iret (v := 1) hx hb hr (fun t ht hW => ⟨⟨1, (), rfl, trivial, trivial⟩, hS.F ht⟩) hS.2.2 dX11_about_80
