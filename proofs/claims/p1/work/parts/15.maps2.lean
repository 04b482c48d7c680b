set_option maxHeartbeats 4000000 in
set_option maxRecDepth 100000 in
theorem c_X11_map (l : Launch) (D : va_G) (cy : Nat → ClassId) (sz : Nat) (xo : Nat) (xk : Nat) (xn : Nat) (xc : Nat) (xh : Nat) (xt : Nat) (xw : Nat) (xm : Nat) (xp : Nat) (m0 : Nat) (m1 : Nat) (m2 : Nat) (m3 : Nat) (l0 : Nat) (l1 : Nat) (l2 : Nat) (l3 : Nat) (u0 : Nat) (u1 : Nat) (u2 : Nat) (u3 : Nat) (a1 : Int32) (a2 : Int32) (a3 : Int32) : Met l yX11_map wsX11_map ({ frames := 2, cells := 0, slots := 0, locals := 45 }) (va_Pc [.ref xo, .int a1, .int a2, .int a3] (fun U => U.heap.size = sz ∧ va_P D vwCl [(xo, .inr (11, [.ref xk, .ref xn, .ref xc, .ref xh, .ref xt, .ref xw, .ref xm, .ref xp, .int 0, .int 0, .long 0, .int 0])), (xm, .inl (cy 4, 4, .inr (.inr (.inr (.inr (mf_ m0 m1 m2 m3)))))), (m0, .inr (4, [.int 0, .int (-9), .ref l0, .ref u0])), (m1, .inr (4, [.int 0, .int (-9), .ref l1, .ref u1])), (m2, .inr (4, [.int 0, .int (-9), .ref l2, .ref u2])), (m3, .inr (4, [.int 0, .int (-9), .ref l3, .ref u3])), (l0, .inl (cy 0, 6, .inl (fun _ => 0))), (l1, .inl (cy 0, 6, .inl (fun _ => 0))), (l2, .inl (cy 0, 6, .inl (fun _ => 0))), (l3, .inl (cy 0, 6, .inl (fun _ => 0)))] U.heap ∧ kk_ D cy U ∧ va_D (fun _ => True) [(xo, .inr (11, [.ref xk, .ref xn, .ref xc, .ref xh, .ref xt, .ref xw, .ref xm, .ref xp, .int 0, .int 0, .long 0, .int 0])), (xm, .inl (cy 4, 4, .inr (.inr (.inr (.inr (mf_ m0 m1 m2 m3)))))), (m0, .inr (4, [.int 0, .int (-9), .ref l0, .ref u0])), (m1, .inr (4, [.int 0, .int (-9), .ref l1, .ref u1])), (m2, .inr (4, [.int 0, .int (-9), .ref l2, .ref u2])), (m3, .inr (4, [.int 0, .int (-9), .ref l3, .ref u3])), (l0, .inl (cy 0, 6, .inl (fun _ => 0))), (l1, .inl (cy 0, 6, .inl (fun _ => 0))), (l2, .inl (cy 0, 6, .inl (fun _ => 0))), (l3, .inl (cy 0, 6, .inl (fun _ => 0)))])) (va_Qi (fun (r : Int32) (_ : Unit) => ((¬ ((0 ≤ a1.toInt ∧ a1.toInt < 4) ∧ (0 ≤ a2.toInt ∧ a2.toInt < 3) ∧ a3.toInt ≤ 6)) ∧ r = (-1)) ∨ ((((0 ≤ a1.toInt ∧ a1.toInt < 4) ∧ (0 ≤ a2.toInt ∧ a2.toInt < 3) ∧ a3.toInt ≤ 6) ∧ a3.toInt < 0) ∧ r = (-15)) ∨ ((((0 ≤ a1.toInt ∧ a1.toInt < 4) ∧ (0 ≤ a2.toInt ∧ a2.toInt < 3) ∧ a3.toInt ≤ 6) ∧ 0 ≤ a3.toInt) ∧ r = 1)) (fun (_ : Unit) (_ : State) => True) (va_A [(xo, .inr (11, [.ref xk, .ref xn, .ref xc, .ref xh, .ref xt, .ref xw, .ref xm, .ref xp, .int 0, .int 0, .long 0, .int 0])), (xm, .inl (cy 4, 4, .inr (.inr (.inr (.inr (mf_ m0 m1 m2 m3)))))), (m0, .inr (4, [.int 0, .int (-9), .ref l0, .ref u0])), (m1, .inr (4, [.int 0, .int (-9), .ref l1, .ref u1])), (m2, .inr (4, [.int 0, .int (-9), .ref l2, .ref u2])), (m3, .inr (4, [.int 0, .int (-9), .ref l3, .ref u3])), (l0, .inl (cy 0, 6, .inl (fun _ => 0))), (l1, .inl (cy 0, 6, .inl (fun _ => 0))), (l2, .inl (cy 0, 6, .inl (fun _ => 0))), (l3, .inl (cy 0, 6, .inl (fun _ => 0)))] sz)) 0 0 (va_A [(xo, .inr (11, [.ref xk, .ref xn, .ref xc, .ref xh, .ref xt, .ref xw, .ref xm, .ref xp, .int 0, .int 0, .long 0, .int 0])), (xm, .inl (cy 4, 4, .inr (.inr (.inr (.inr (mf_ m0 m1 m2 m3)))))), (m0, .inr (4, [.int 0, .int (-9), .ref l0, .ref u0])), (m1, .inr (4, [.int 0, .int (-9), .ref l1, .ref u1])), (m2, .inr (4, [.int 0, .int (-9), .ref l2, .ref u2])), (m3, .inr (4, [.int 0, .int (-9), .ref l3, .ref u3])), (l0, .inl (cy 0, 6, .inl (fun _ => 0))), (l1, .inl (cy 0, 6, .inl (fun _ => 0))), (l2, .inl (cy 0, 6, .inl (fun _ => 0))), (l3, .inl (cy 0, 6, .inl (fun _ => 0)))] sz) := by
  refine Met.ofW (cc := cX11_map) (maxL := 4) (ret := (some .int)) (by decide) rfl ?_
  intro p e s m args below meth c s₁ B hml hv
  obtain ⟨rfl, hsz, hP, hK, hD0⟩ := hv
  have hx := B.exec
  have hb := B.bytes
  have hr := B.returns
  have hts := atoms_spec (ws := wsX11_map) B.pre
  have hown : s.vm.findClass RX11 = some m.cls := findClass_of_methodNamed B.named
  have hlocks := B.notSynchronized
  subst hsz
  have hD := hD0.self (sz := s.heap.size)
  generalize hAe : va_A [(xo, .inr (11, [.ref xk, .ref xn, .ref xc, .ref xh, .ref xt, .ref xw, .ref xm, .ref xp, .int 0, .int 0, .long 0, .int 0])), (xm, .inl (cy 4, 4, .inr (.inr (.inr (.inr (mf_ m0 m1 m2 m3)))))), (m0, .inr (4, [.int 0, .int (-9), .ref l0, .ref u0])), (m1, .inr (4, [.int 0, .int (-9), .ref l1, .ref u1])), (m2, .inr (4, [.int 0, .int (-9), .ref l2, .ref u2])), (m3, .inr (4, [.int 0, .int (-9), .ref l3, .ref u3])), (l0, .inl (cy 0, 6, .inl (fun _ => 0))), (l1, .inl (cy 0, 6, .inl (fun _ => 0))), (l2, .inl (cy 0, 6, .inl (fun _ => 0))), (l3, .inl (cy 0, 6, .inl (fun _ => 0)))] s.heap.size = A at hD ⊢
  have hA : ∀ q : Nat, s.heap.size ≤ q → A q := fun q h => by rw [← hAe]; exact Or.inr h
  have hS : va_S A s.heap s.heap [] := va_S.rf
  have hl := lv_entry ([.ref xo, .int a1, .int a2, .int a3]) (n := 4) (Nat.le_of_ble_eq_true rfl)
  rw [lg_entry_eq]
  generalize (lg_sl ([.ref xo, .int a1, .int a2, .int a3]) ++ List.replicate (4 - (lg_sl ([.ref xo, .int a1, .int a2, .int a3])).length) Slot.unset).toArray = ls at hl ⊢
  have hl : lv_has ls 4 [(0, .ref xo), (1, .int a1), (2, .int a2), (3, .int a3)] := hl
  refine lv_aload_n hx hb dX11_map_0 rfl (lv_at hl 0 rfl) ?_
  refine lv_iload_n hx hb dX11_map_1 rfl (lv_at hl 1 rfl) ?_
  refine lv_iload_n hx hb dX11_map_2 rfl (lv_at hl 2 rfl) ?_
  refine lv_iload_n hx hb dX11_map_3 rfl (lv_at hl 3 rfl) ?_
  have hPc := hP.sub (ws' := []) [] rfl
  have hDc := hD.sub (ws' := []) [] (by decide) rfl
  have hDw : va_D (fun _ => True) [] := hDc.weaken (fun _ _ _ _ => trivial)
  have hFc := va_free (wc := []) hD hS hA [] rfl
  refine va_calli (va_runS (As := [.int a1, .int a2, .int a3]) (rest := [.ref xo]) ⟨hx, hb, hml, hown, hts⟩ (c_X11_mapRefusal l D cy s.heap.size a1 a2 a3) (va_cwS 3 hts gX11_map_X11_mapRefusal rfl rfl rfl (by decide +kernel) ⟨Nat.le_of_ble_eq_true rfl, Nat.le_of_ble_eq_true rfl⟩) ⟨bl_, fun U hU hW => ⟨rfl, by rw [hU], by rw [hU]; exact hPc, kk_mv hW hK, hDw⟩⟩ rfl rfl hl.1 rfl (lv_room (Nat.le_of_ble_eq_true rfl)) dX11_map_4 ⟨Nat.le_of_ble_eq_true rfl, Nat.le_of_ble_eq_true rfl⟩) hS (fun q _ h => hFc q h) hFc (fun r_1 u t H locs ht hvm hw hB hz1 hk1 hS => ?_)
  have hP := ro_keep hP hk1
  have hP : va_P D vwCl [(xo, .inr (11, [.ref xk, .ref xn, .ref xc, .ref xh, .ref xt, .ref xw, .ref xm, .ref xp, .int 0, .int 0, .long 0, .int 0])), (xm, .inl (cy 4, 4, .inr (.inr (.inr (.inr (mf_ m0 m1 m2 m3)))))), (m0, .inr (4, [.int 0, .int (-9), .ref l0, .ref u0])), (m1, .inr (4, [.int 0, .int (-9), .ref l1, .ref u1])), (m2, .inr (4, [.int 0, .int (-9), .ref l2, .ref u2])), (m3, .inr (4, [.int 0, .int (-9), .ref l3, .ref u3])), (l0, .inl (cy 0, 6, .inl (fun _ => 0))), (l1, .inl (cy 0, 6, .inl (fun _ => 0))), (l2, .inl (cy 0, 6, .inl (fun _ => 0))), (l3, .inl (cy 0, 6, .inl (fun _ => 0)))] H := hP
  rcases hw with ⟨w_2, e_⟩ | ⟨w_2, e_⟩ | ⟨w_2, e_⟩
  · have e_ := e_.symm
    subst e_
    refine va_put (ci := 11) (v := .int (-1)) (ty := .int) (C := RX11) (T := TX11) (N := 12) hx hb hts (fun _ h => List.mem_cons_of_mem _ (List.mem_append_left _ (List.mem_append_right _ h))) tyX11 tyX11_ok nmX11 hown hK.1 hP hD hS 0 rfl rfl 11 (by decide) (hts (.fieldLink RX11 91 "CutAtlas" "finding" "I") (by decide +kernel)) (fun _ h9 => h9) rfl (by decide +kernel) rfl rfl (Nat.le_of_ble_eq_true rfl) dX11_map_7 (fun H locs hP hD hS => ?_)
    have hP : va_P D vwCl [(xo, .inr (11, [.ref xk, .ref xn, .ref xc, .ref xh, .ref xt, .ref xw, .ref xm, .ref xp, .int 0, .int 0, .long 0, .int (-1)])), (xm, .inl (cy 4, 4, .inr (.inr (.inr (.inr (mf_ m0 m1 m2 m3)))))), (m0, .inr (4, [.int 0, .int (-9), .ref l0, .ref u0])), (m1, .inr (4, [.int 0, .int (-9), .ref l1, .ref u1])), (m2, .inr (4, [.int 0, .int (-9), .ref l2, .ref u2])), (m3, .inr (4, [.int 0, .int (-9), .ref l3, .ref u3])), (l0, .inl (cy 0, 6, .inl (fun _ => 0))), (l1, .inl (cy 0, 6, .inl (fun _ => 0))), (l2, .inl (cy 0, 6, .inl (fun _ => 0))), (l3, .inl (cy 0, 6, .inl (fun _ => 0)))] H := hP
    have hD : va_D A [(xo, .inr (11, [.ref xk, .ref xn, .ref xc, .ref xh, .ref xt, .ref xw, .ref xm, .ref xp, .int 0, .int 0, .long 0, .int (-1)])), (xm, .inl (cy 4, 4, .inr (.inr (.inr (.inr (mf_ m0 m1 m2 m3)))))), (m0, .inr (4, [.int 0, .int (-9), .ref l0, .ref u0])), (m1, .inr (4, [.int 0, .int (-9), .ref l1, .ref u1])), (m2, .inr (4, [.int 0, .int (-9), .ref l2, .ref u2])), (m3, .inr (4, [.int 0, .int (-9), .ref l3, .ref u3])), (l0, .inl (cy 0, 6, .inl (fun _ => 0))), (l1, .inl (cy 0, 6, .inl (fun _ => 0))), (l2, .inl (cy 0, 6, .inl (fun _ => 0))), (l3, .inl (cy 0, 6, .inl (fun _ => 0)))] := hD
    refine lv_aload_n hx hb dX11_map_10 rfl (lv_at hl 0 rfl) ?_
    refine va_get (ci := 11) (v := .int (-1)) (C := RX11) (T := TX11) (N := 12) hx hb hts (fun _ h => List.mem_cons_of_mem _ (List.mem_append_left _ (List.mem_append_right _ h))) hown hK.1 hP 0 rfl rfl 11 (by decide) (hts (.fieldLink RX11 91 "CutAtlas" "finding" "I") (by decide +kernel)) (fun _ h9 => h9) rfl dX11_map_11 ?_
    refine lv_if_eq (tgt := 22) hx hb dX11_map_14 (by decide) (fun c_3 => ?_) (fun c_3 => ?_)
    · exact absurd c_3 (by decide)
    · have _ := c_3
      refine lv_aload_n hx hb dX11_map_17 rfl (lv_at hl 0 rfl) ?_
      refine va_get (ci := 11) (v := .int (-1)) (C := RX11) (T := TX11) (N := 12) hx hb hts (fun _ h => List.mem_cons_of_mem _ (List.mem_append_left _ (List.mem_append_right _ h))) hown hK.1 hP 0 rfl rfl 11 (by decide) (hts (.fieldLink RX11 91 "CutAtlas" "finding" "I") (by decide +kernel)) (fun _ h9 => h9) rfl dX11_map_18 ?_
      exact W.iret (v := (-1)) hx hb hr (fun t ht hW => ⟨⟨(-1), (), rfl, Or.inl (⟨by omega, rfl⟩), trivial⟩, hS.F ht⟩) hS.2.2 dX11_map_21
  · have e_ := e_.symm
    subst e_
    refine va_put (ci := 11) (v := .int (-15)) (ty := .int) (C := RX11) (T := TX11) (N := 12) hx hb hts (fun _ h => List.mem_cons_of_mem _ (List.mem_append_left _ (List.mem_append_right _ h))) tyX11 tyX11_ok nmX11 hown hK.1 hP hD hS 0 rfl rfl 11 (by decide) (hts (.fieldLink RX11 91 "CutAtlas" "finding" "I") (by decide +kernel)) (fun _ h9 => h9) rfl (by decide +kernel) rfl rfl (Nat.le_of_ble_eq_true rfl) dX11_map_7 (fun H locs hP hD hS => ?_)
    have hP : va_P D vwCl [(xo, .inr (11, [.ref xk, .ref xn, .ref xc, .ref xh, .ref xt, .ref xw, .ref xm, .ref xp, .int 0, .int 0, .long 0, .int (-15)])), (xm, .inl (cy 4, 4, .inr (.inr (.inr (.inr (mf_ m0 m1 m2 m3)))))), (m0, .inr (4, [.int 0, .int (-9), .ref l0, .ref u0])), (m1, .inr (4, [.int 0, .int (-9), .ref l1, .ref u1])), (m2, .inr (4, [.int 0, .int (-9), .ref l2, .ref u2])), (m3, .inr (4, [.int 0, .int (-9), .ref l3, .ref u3])), (l0, .inl (cy 0, 6, .inl (fun _ => 0))), (l1, .inl (cy 0, 6, .inl (fun _ => 0))), (l2, .inl (cy 0, 6, .inl (fun _ => 0))), (l3, .inl (cy 0, 6, .inl (fun _ => 0)))] H := hP
    have hD : va_D A [(xo, .inr (11, [.ref xk, .ref xn, .ref xc, .ref xh, .ref xt, .ref xw, .ref xm, .ref xp, .int 0, .int 0, .long 0, .int (-15)])), (xm, .inl (cy 4, 4, .inr (.inr (.inr (.inr (mf_ m0 m1 m2 m3)))))), (m0, .inr (4, [.int 0, .int (-9), .ref l0, .ref u0])), (m1, .inr (4, [.int 0, .int (-9), .ref l1, .ref u1])), (m2, .inr (4, [.int 0, .int (-9), .ref l2, .ref u2])), (m3, .inr (4, [.int 0, .int (-9), .ref l3, .ref u3])), (l0, .inl (cy 0, 6, .inl (fun _ => 0))), (l1, .inl (cy 0, 6, .inl (fun _ => 0))), (l2, .inl (cy 0, 6, .inl (fun _ => 0))), (l3, .inl (cy 0, 6, .inl (fun _ => 0)))] := hD
    refine lv_aload_n hx hb dX11_map_10 rfl (lv_at hl 0 rfl) ?_
    refine va_get (ci := 11) (v := .int (-15)) (C := RX11) (T := TX11) (N := 12) hx hb hts (fun _ h => List.mem_cons_of_mem _ (List.mem_append_left _ (List.mem_append_right _ h))) hown hK.1 hP 0 rfl rfl 11 (by decide) (hts (.fieldLink RX11 91 "CutAtlas" "finding" "I") (by decide +kernel)) (fun _ h9 => h9) rfl dX11_map_11 ?_
    refine lv_if_eq (tgt := 22) hx hb dX11_map_14 (by decide) (fun c_4 => ?_) (fun c_4 => ?_)
    · exact absurd c_4 (by decide)
    · have _ := c_4
      refine lv_aload_n hx hb dX11_map_17 rfl (lv_at hl 0 rfl) ?_
      refine va_get (ci := 11) (v := .int (-15)) (C := RX11) (T := TX11) (N := 12) hx hb hts (fun _ h => List.mem_cons_of_mem _ (List.mem_append_left _ (List.mem_append_right _ h))) hown hK.1 hP 0 rfl rfl 11 (by decide) (hts (.fieldLink RX11 91 "CutAtlas" "finding" "I") (by decide +kernel)) (fun _ h9 => h9) rfl dX11_map_18 ?_
      exact W.iret (v := (-15)) hx hb hr (fun t ht hW => ⟨⟨(-15), (), rfl, Or.inr (Or.inl (⟨by omega, rfl⟩)), trivial⟩, hS.F ht⟩) hS.2.2 dX11_map_21
  · have e_ := e_.symm
    subst e_
    refine va_put (ci := 11) (v := .int 0) (ty := .int) (C := RX11) (T := TX11) (N := 12) hx hb hts (fun _ h => List.mem_cons_of_mem _ (List.mem_append_left _ (List.mem_append_right _ h))) tyX11 tyX11_ok nmX11 hown hK.1 hP hD hS 0 rfl rfl 11 (by decide) (hts (.fieldLink RX11 91 "CutAtlas" "finding" "I") (by decide +kernel)) (fun _ h9 => h9) rfl (by decide +kernel) rfl rfl (Nat.le_of_ble_eq_true rfl) dX11_map_7 (fun H locs hP hD hS => ?_)
    have hP : va_P D vwCl [(xo, .inr (11, [.ref xk, .ref xn, .ref xc, .ref xh, .ref xt, .ref xw, .ref xm, .ref xp, .int 0, .int 0, .long 0, .int 0])), (xm, .inl (cy 4, 4, .inr (.inr (.inr (.inr (mf_ m0 m1 m2 m3)))))), (m0, .inr (4, [.int 0, .int (-9), .ref l0, .ref u0])), (m1, .inr (4, [.int 0, .int (-9), .ref l1, .ref u1])), (m2, .inr (4, [.int 0, .int (-9), .ref l2, .ref u2])), (m3, .inr (4, [.int 0, .int (-9), .ref l3, .ref u3])), (l0, .inl (cy 0, 6, .inl (fun _ => 0))), (l1, .inl (cy 0, 6, .inl (fun _ => 0))), (l2, .inl (cy 0, 6, .inl (fun _ => 0))), (l3, .inl (cy 0, 6, .inl (fun _ => 0)))] H := hP
    have hD : va_D A [(xo, .inr (11, [.ref xk, .ref xn, .ref xc, .ref xh, .ref xt, .ref xw, .ref xm, .ref xp, .int 0, .int 0, .long 0, .int 0])), (xm, .inl (cy 4, 4, .inr (.inr (.inr (.inr (mf_ m0 m1 m2 m3)))))), (m0, .inr (4, [.int 0, .int (-9), .ref l0, .ref u0])), (m1, .inr (4, [.int 0, .int (-9), .ref l1, .ref u1])), (m2, .inr (4, [.int 0, .int (-9), .ref l2, .ref u2])), (m3, .inr (4, [.int 0, .int (-9), .ref l3, .ref u3])), (l0, .inl (cy 0, 6, .inl (fun _ => 0))), (l1, .inl (cy 0, 6, .inl (fun _ => 0))), (l2, .inl (cy 0, 6, .inl (fun _ => 0))), (l3, .inl (cy 0, 6, .inl (fun _ => 0)))] := hD
    refine lv_aload_n hx hb dX11_map_10 rfl (lv_at hl 0 rfl) ?_
    refine va_get (ci := 11) (v := .int 0) (C := RX11) (T := TX11) (N := 12) hx hb hts (fun _ h => List.mem_cons_of_mem _ (List.mem_append_left _ (List.mem_append_right _ h))) hown hK.1 hP 0 rfl rfl 11 (by decide) (hts (.fieldLink RX11 91 "CutAtlas" "finding" "I") (by decide +kernel)) (fun _ h9 => h9) rfl dX11_map_11 ?_
    refine lv_if_eq (tgt := 22) hx hb dX11_map_14 (by decide) (fun c_5 => ?_) (fun c_5 => ?_)
    · have _ := c_5
      rcases sp_4 (x := a1) (by omega) with rfl | rfl | rfl | rfl
      · refine lv_aload_n hx hb dX11_map_22 rfl (lv_at hl 0 rfl) ?_
        refine va_get (ci := 11) (v := .ref xm) (C := RX11) (T := TX11) (N := 12) hx hb hts (fun _ h => List.mem_cons_of_mem _ (List.mem_append_left _ (List.mem_append_right _ h))) hown hK.1 hP 0 rfl rfl 6 (by decide) (hts (.fieldLink RX11 72 "CutAtlas" "maps" "[LCutAtlas$NumberMap;") (by decide +kernel)) (fun _ h9 => h9) rfl dX11_map_23 ?_
        refine lv_iload_n hx hb dX11_map_26 rfl (lv_at hl 1 rfl) ?_
        refine va_aldq hx hb hK.1 hP 1 4 rfl rfl (i := 0) (by unfold vp_in; decide) dX11_map_27 ?_
        refine lv_topv (v' := .ref m0) (by simp [va_up, va_rf, mf_, cl_0, cl_1, cl_2, cl_3, cl_4]) ?_
        refine lv_iload_n hx hb dX11_map_28 rfl (lv_at hl 2 rfl) ?_
        refine lv_iload_n hx hb dX11_map_29 rfl (lv_at hl 3 rfl) ?_
        have hPc := hP.sub (ws' := [(m0, .inr (4, [.int 0, .int (-9), .ref l0, .ref u0])), (l0, .inl (cy 0, 6, .inl (fun _ => 0)))]) [2, 6] rfl
        have hDc := hD.sub (ws' := [(m0, .inr (4, [.int 0, .int (-9), .ref l0, .ref u0])), (l0, .inl (cy 0, 6, .inl (fun _ => 0)))]) [2, 6] (by decide) rfl
        have hDw : va_D (fun _ => True) [(m0, .inr (4, [.int 0, .int (-9), .ref l0, .ref u0])), (l0, .inl (cy 0, 6, .inl (fun _ => 0)))] := hDc.weaken (fun _ _ _ _ => trivial)
        have hFc := va_free (wc := [(m0, .inr (4, [.int 0, .int (-9), .ref l0, .ref u0])), (l0, .inl (cy 0, 6, .inl (fun _ => 0)))]) hD hS hA [2, 6] rfl
        refine va_callv (va_runV (As := [.int a2, .int a3]) (rest := []) ⟨hx, hb, hml, hown, hts⟩ (c_X4_begin l D cy H.size m0 l0 u0 a2 a3) (cwV 2 hts gX11_map_X4_begin rfl rfl rfl (by decide +kernel) ⟨Nat.le_of_ble_eq_true rfl, Nat.le_of_ble_eq_true rfl⟩) ⟨bl_, va_recv hK.1 hPc (ci := 4) (q0 := 0) rfl rfl, fun U hU hW => ⟨rfl, by rw [hU], by rw [hU]; exact hPc, kk_mv hW hK, hDw⟩⟩ rfl rfl hl.1 rfl (lv_room (Nat.le_of_ble_eq_true rfl)) dX11_map_30 ⟨Nat.le_of_ble_eq_true rfl, Nat.le_of_ble_eq_true rfl⟩) hS (fun q _ h => hFc q h) hFc (fun u t H locs ht hvm hw hB hz1 hk1 hS => ?_)
        obtain ⟨hP, hD⟩ := va_join (wr := [(xo, .inr (11, [.ref xk, .ref xn, .ref xc, .ref xh, .ref xt, .ref xw, .ref xm, .ref xp, .int 0, .int 0, .long 0, .int 0])), (xm, .inl (cy 4, 4, .inr (.inr (.inr (.inr (mf_ m0 m1 m2 m3)))))), (m1, .inr (4, [.int 0, .int (-9), .ref l1, .ref u1])), (m2, .inr (4, [.int 0, .int (-9), .ref l2, .ref u2])), (m3, .inr (4, [.int 0, .int (-9), .ref l3, .ref u3])), (l1, .inl (cy 0, 6, .inl (fun _ => 0))), (l2, .inl (cy 0, 6, .inl (fun _ => 0))), (l3, .inl (cy 0, 6, .inl (fun _ => 0)))]) (w1 := []) hP hD [2, 6] [0, 1, 3, 4, 5, 7, 8, 9] rfl rfl (by decide) (by decide) hk1 hFc pp_nil dd_nil
        have hP : va_P D vwCl [(xo, .inr (11, [.ref xk, .ref xn, .ref xc, .ref xh, .ref xt, .ref xw, .ref xm, .ref xp, .int 0, .int 0, .long 0, .int 0])), (xm, .inl (cy 4, 4, .inr (.inr (.inr (.inr (mf_ m0 m1 m2 m3)))))), (m1, .inr (4, [.int 0, .int (-9), .ref l1, .ref u1])), (m2, .inr (4, [.int 0, .int (-9), .ref l2, .ref u2])), (m3, .inr (4, [.int 0, .int (-9), .ref l3, .ref u3])), (l1, .inl (cy 0, 6, .inl (fun _ => 0))), (l2, .inl (cy 0, 6, .inl (fun _ => 0))), (l3, .inl (cy 0, 6, .inl (fun _ => 0)))] H := hP
        have hD : va_D A [(xo, .inr (11, [.ref xk, .ref xn, .ref xc, .ref xh, .ref xt, .ref xw, .ref xm, .ref xp, .int 0, .int 0, .long 0, .int 0])), (xm, .inl (cy 4, 4, .inr (.inr (.inr (.inr (mf_ m0 m1 m2 m3)))))), (m1, .inr (4, [.int 0, .int (-9), .ref l1, .ref u1])), (m2, .inr (4, [.int 0, .int (-9), .ref l2, .ref u2])), (m3, .inr (4, [.int 0, .int (-9), .ref l3, .ref u3])), (l1, .inl (cy 0, 6, .inl (fun _ => 0))), (l2, .inl (cy 0, 6, .inl (fun _ => 0))), (l3, .inl (cy 0, 6, .inl (fun _ => 0)))] := hD
        refine lv_iconst (v := 1) hx hb dX11_map_33 (by decide) ?_
        exact W.iret (v := 1) hx hb hr (fun t ht hW => ⟨⟨1, (), rfl, Or.inr (Or.inr (⟨by omega, rfl⟩)), trivial⟩, hS.F ht⟩) hS.2.2 dX11_map_34
      · refine lv_aload_n hx hb dX11_map_22 rfl (lv_at hl 0 rfl) ?_
        refine va_get (ci := 11) (v := .ref xm) (C := RX11) (T := TX11) (N := 12) hx hb hts (fun _ h => List.mem_cons_of_mem _ (List.mem_append_left _ (List.mem_append_right _ h))) hown hK.1 hP 0 rfl rfl 6 (by decide) (hts (.fieldLink RX11 72 "CutAtlas" "maps" "[LCutAtlas$NumberMap;") (by decide +kernel)) (fun _ h9 => h9) rfl dX11_map_23 ?_
        refine lv_iload_n hx hb dX11_map_26 rfl (lv_at hl 1 rfl) ?_
        refine va_aldq hx hb hK.1 hP 1 4 rfl rfl (i := 1) (by unfold vp_in; decide) dX11_map_27 ?_
        refine lv_topv (v' := .ref m1) (by simp [va_up, va_rf, mf_, cl_0, cl_1, cl_2, cl_3, cl_4]) ?_
        refine lv_iload_n hx hb dX11_map_28 rfl (lv_at hl 2 rfl) ?_
        refine lv_iload_n hx hb dX11_map_29 rfl (lv_at hl 3 rfl) ?_
        have hPc := hP.sub (ws' := [(m1, .inr (4, [.int 0, .int (-9), .ref l1, .ref u1])), (l1, .inl (cy 0, 6, .inl (fun _ => 0)))]) [3, 7] rfl
        have hDc := hD.sub (ws' := [(m1, .inr (4, [.int 0, .int (-9), .ref l1, .ref u1])), (l1, .inl (cy 0, 6, .inl (fun _ => 0)))]) [3, 7] (by decide) rfl
        have hDw : va_D (fun _ => True) [(m1, .inr (4, [.int 0, .int (-9), .ref l1, .ref u1])), (l1, .inl (cy 0, 6, .inl (fun _ => 0)))] := hDc.weaken (fun _ _ _ _ => trivial)
        have hFc := va_free (wc := [(m1, .inr (4, [.int 0, .int (-9), .ref l1, .ref u1])), (l1, .inl (cy 0, 6, .inl (fun _ => 0)))]) hD hS hA [3, 7] rfl
        refine va_callv (va_runV (As := [.int a2, .int a3]) (rest := []) ⟨hx, hb, hml, hown, hts⟩ (c_X4_begin l D cy H.size m1 l1 u1 a2 a3) (cwV 2 hts gX11_map_X4_begin rfl rfl rfl (by decide +kernel) ⟨Nat.le_of_ble_eq_true rfl, Nat.le_of_ble_eq_true rfl⟩) ⟨bl_, va_recv hK.1 hPc (ci := 4) (q0 := 0) rfl rfl, fun U hU hW => ⟨rfl, by rw [hU], by rw [hU]; exact hPc, kk_mv hW hK, hDw⟩⟩ rfl rfl hl.1 rfl (lv_room (Nat.le_of_ble_eq_true rfl)) dX11_map_30 ⟨Nat.le_of_ble_eq_true rfl, Nat.le_of_ble_eq_true rfl⟩) hS (fun q _ h => hFc q h) hFc (fun u t H locs ht hvm hw hB hz1 hk1 hS => ?_)
        obtain ⟨hP, hD⟩ := va_join (wr := [(xo, .inr (11, [.ref xk, .ref xn, .ref xc, .ref xh, .ref xt, .ref xw, .ref xm, .ref xp, .int 0, .int 0, .long 0, .int 0])), (xm, .inl (cy 4, 4, .inr (.inr (.inr (.inr (mf_ m0 m1 m2 m3)))))), (m0, .inr (4, [.int 0, .int (-9), .ref l0, .ref u0])), (m2, .inr (4, [.int 0, .int (-9), .ref l2, .ref u2])), (m3, .inr (4, [.int 0, .int (-9), .ref l3, .ref u3])), (l0, .inl (cy 0, 6, .inl (fun _ => 0))), (l2, .inl (cy 0, 6, .inl (fun _ => 0))), (l3, .inl (cy 0, 6, .inl (fun _ => 0)))]) (w1 := []) hP hD [3, 7] [0, 1, 2, 4, 5, 6, 8, 9] rfl rfl (by decide) (by decide) hk1 hFc pp_nil dd_nil
        have hP : va_P D vwCl [(xo, .inr (11, [.ref xk, .ref xn, .ref xc, .ref xh, .ref xt, .ref xw, .ref xm, .ref xp, .int 0, .int 0, .long 0, .int 0])), (xm, .inl (cy 4, 4, .inr (.inr (.inr (.inr (mf_ m0 m1 m2 m3)))))), (m0, .inr (4, [.int 0, .int (-9), .ref l0, .ref u0])), (m2, .inr (4, [.int 0, .int (-9), .ref l2, .ref u2])), (m3, .inr (4, [.int 0, .int (-9), .ref l3, .ref u3])), (l0, .inl (cy 0, 6, .inl (fun _ => 0))), (l2, .inl (cy 0, 6, .inl (fun _ => 0))), (l3, .inl (cy 0, 6, .inl (fun _ => 0)))] H := hP
        have hD : va_D A [(xo, .inr (11, [.ref xk, .ref xn, .ref xc, .ref xh, .ref xt, .ref xw, .ref xm, .ref xp, .int 0, .int 0, .long 0, .int 0])), (xm, .inl (cy 4, 4, .inr (.inr (.inr (.inr (mf_ m0 m1 m2 m3)))))), (m0, .inr (4, [.int 0, .int (-9), .ref l0, .ref u0])), (m2, .inr (4, [.int 0, .int (-9), .ref l2, .ref u2])), (m3, .inr (4, [.int 0, .int (-9), .ref l3, .ref u3])), (l0, .inl (cy 0, 6, .inl (fun _ => 0))), (l2, .inl (cy 0, 6, .inl (fun _ => 0))), (l3, .inl (cy 0, 6, .inl (fun _ => 0)))] := hD
        refine lv_iconst (v := 1) hx hb dX11_map_33 (by decide) ?_
        exact W.iret (v := 1) hx hb hr (fun t ht hW => ⟨⟨1, (), rfl, Or.inr (Or.inr (⟨by omega, rfl⟩)), trivial⟩, hS.F ht⟩) hS.2.2 dX11_map_34
      · refine lv_aload_n hx hb dX11_map_22 rfl (lv_at hl 0 rfl) ?_
        refine va_get (ci := 11) (v := .ref xm) (C := RX11) (T := TX11) (N := 12) hx hb hts (fun _ h => List.mem_cons_of_mem _ (List.mem_append_left _ (List.mem_append_right _ h))) hown hK.1 hP 0 rfl rfl 6 (by decide) (hts (.fieldLink RX11 72 "CutAtlas" "maps" "[LCutAtlas$NumberMap;") (by decide +kernel)) (fun _ h9 => h9) rfl dX11_map_23 ?_
        refine lv_iload_n hx hb dX11_map_26 rfl (lv_at hl 1 rfl) ?_
        refine va_aldq hx hb hK.1 hP 1 4 rfl rfl (i := 2) (by unfold vp_in; decide) dX11_map_27 ?_
        refine lv_topv (v' := .ref m2) (by simp [va_up, va_rf, mf_, cl_0, cl_1, cl_2, cl_3, cl_4]) ?_
        refine lv_iload_n hx hb dX11_map_28 rfl (lv_at hl 2 rfl) ?_
        refine lv_iload_n hx hb dX11_map_29 rfl (lv_at hl 3 rfl) ?_
        have hPc := hP.sub (ws' := [(m2, .inr (4, [.int 0, .int (-9), .ref l2, .ref u2])), (l2, .inl (cy 0, 6, .inl (fun _ => 0)))]) [4, 8] rfl
        have hDc := hD.sub (ws' := [(m2, .inr (4, [.int 0, .int (-9), .ref l2, .ref u2])), (l2, .inl (cy 0, 6, .inl (fun _ => 0)))]) [4, 8] (by decide) rfl
        have hDw : va_D (fun _ => True) [(m2, .inr (4, [.int 0, .int (-9), .ref l2, .ref u2])), (l2, .inl (cy 0, 6, .inl (fun _ => 0)))] := hDc.weaken (fun _ _ _ _ => trivial)
        have hFc := va_free (wc := [(m2, .inr (4, [.int 0, .int (-9), .ref l2, .ref u2])), (l2, .inl (cy 0, 6, .inl (fun _ => 0)))]) hD hS hA [4, 8] rfl
        refine va_callv (va_runV (As := [.int a2, .int a3]) (rest := []) ⟨hx, hb, hml, hown, hts⟩ (c_X4_begin l D cy H.size m2 l2 u2 a2 a3) (cwV 2 hts gX11_map_X4_begin rfl rfl rfl (by decide +kernel) ⟨Nat.le_of_ble_eq_true rfl, Nat.le_of_ble_eq_true rfl⟩) ⟨bl_, va_recv hK.1 hPc (ci := 4) (q0 := 0) rfl rfl, fun U hU hW => ⟨rfl, by rw [hU], by rw [hU]; exact hPc, kk_mv hW hK, hDw⟩⟩ rfl rfl hl.1 rfl (lv_room (Nat.le_of_ble_eq_true rfl)) dX11_map_30 ⟨Nat.le_of_ble_eq_true rfl, Nat.le_of_ble_eq_true rfl⟩) hS (fun q _ h => hFc q h) hFc (fun u t H locs ht hvm hw hB hz1 hk1 hS => ?_)
        obtain ⟨hP, hD⟩ := va_join (wr := [(xo, .inr (11, [.ref xk, .ref xn, .ref xc, .ref xh, .ref xt, .ref xw, .ref xm, .ref xp, .int 0, .int 0, .long 0, .int 0])), (xm, .inl (cy 4, 4, .inr (.inr (.inr (.inr (mf_ m0 m1 m2 m3)))))), (m0, .inr (4, [.int 0, .int (-9), .ref l0, .ref u0])), (m1, .inr (4, [.int 0, .int (-9), .ref l1, .ref u1])), (m3, .inr (4, [.int 0, .int (-9), .ref l3, .ref u3])), (l0, .inl (cy 0, 6, .inl (fun _ => 0))), (l1, .inl (cy 0, 6, .inl (fun _ => 0))), (l3, .inl (cy 0, 6, .inl (fun _ => 0)))]) (w1 := []) hP hD [4, 8] [0, 1, 2, 3, 5, 6, 7, 9] rfl rfl (by decide) (by decide) hk1 hFc pp_nil dd_nil
        have hP : va_P D vwCl [(xo, .inr (11, [.ref xk, .ref xn, .ref xc, .ref xh, .ref xt, .ref xw, .ref xm, .ref xp, .int 0, .int 0, .long 0, .int 0])), (xm, .inl (cy 4, 4, .inr (.inr (.inr (.inr (mf_ m0 m1 m2 m3)))))), (m0, .inr (4, [.int 0, .int (-9), .ref l0, .ref u0])), (m1, .inr (4, [.int 0, .int (-9), .ref l1, .ref u1])), (m3, .inr (4, [.int 0, .int (-9), .ref l3, .ref u3])), (l0, .inl (cy 0, 6, .inl (fun _ => 0))), (l1, .inl (cy 0, 6, .inl (fun _ => 0))), (l3, .inl (cy 0, 6, .inl (fun _ => 0)))] H := hP
        have hD : va_D A [(xo, .inr (11, [.ref xk, .ref xn, .ref xc, .ref xh, .ref xt, .ref xw, .ref xm, .ref xp, .int 0, .int 0, .long 0, .int 0])), (xm, .inl (cy 4, 4, .inr (.inr (.inr (.inr (mf_ m0 m1 m2 m3)))))), (m0, .inr (4, [.int 0, .int (-9), .ref l0, .ref u0])), (m1, .inr (4, [.int 0, .int (-9), .ref l1, .ref u1])), (m3, .inr (4, [.int 0, .int (-9), .ref l3, .ref u3])), (l0, .inl (cy 0, 6, .inl (fun _ => 0))), (l1, .inl (cy 0, 6, .inl (fun _ => 0))), (l3, .inl (cy 0, 6, .inl (fun _ => 0)))] := hD
        refine lv_iconst (v := 1) hx hb dX11_map_33 (by decide) ?_
        exact W.iret (v := 1) hx hb hr (fun t ht hW => ⟨⟨1, (), rfl, Or.inr (Or.inr (⟨by omega, rfl⟩)), trivial⟩, hS.F ht⟩) hS.2.2 dX11_map_34
      · refine lv_aload_n hx hb dX11_map_22 rfl (lv_at hl 0 rfl) ?_
        refine va_get (ci := 11) (v := .ref xm) (C := RX11) (T := TX11) (N := 12) hx hb hts (fun _ h => List.mem_cons_of_mem _ (List.mem_append_left _ (List.mem_append_right _ h))) hown hK.1 hP 0 rfl rfl 6 (by decide) (hts (.fieldLink RX11 72 "CutAtlas" "maps" "[LCutAtlas$NumberMap;") (by decide +kernel)) (fun _ h9 => h9) rfl dX11_map_23 ?_
        refine lv_iload_n hx hb dX11_map_26 rfl (lv_at hl 1 rfl) ?_
        refine va_aldq hx hb hK.1 hP 1 4 rfl rfl (i := 3) (by unfold vp_in; decide) dX11_map_27 ?_
        refine lv_topv (v' := .ref m3) (by simp [va_up, va_rf, mf_, cl_0, cl_1, cl_2, cl_3, cl_4]) ?_
        refine lv_iload_n hx hb dX11_map_28 rfl (lv_at hl 2 rfl) ?_
        refine lv_iload_n hx hb dX11_map_29 rfl (lv_at hl 3 rfl) ?_
        have hPc := hP.sub (ws' := [(m3, .inr (4, [.int 0, .int (-9), .ref l3, .ref u3])), (l3, .inl (cy 0, 6, .inl (fun _ => 0)))]) [5, 9] rfl
        have hDc := hD.sub (ws' := [(m3, .inr (4, [.int 0, .int (-9), .ref l3, .ref u3])), (l3, .inl (cy 0, 6, .inl (fun _ => 0)))]) [5, 9] (by decide) rfl
        have hDw : va_D (fun _ => True) [(m3, .inr (4, [.int 0, .int (-9), .ref l3, .ref u3])), (l3, .inl (cy 0, 6, .inl (fun _ => 0)))] := hDc.weaken (fun _ _ _ _ => trivial)
        have hFc := va_free (wc := [(m3, .inr (4, [.int 0, .int (-9), .ref l3, .ref u3])), (l3, .inl (cy 0, 6, .inl (fun _ => 0)))]) hD hS hA [5, 9] rfl
        refine va_callv (va_runV (As := [.int a2, .int a3]) (rest := []) ⟨hx, hb, hml, hown, hts⟩ (c_X4_begin l D cy H.size m3 l3 u3 a2 a3) (cwV 2 hts gX11_map_X4_begin rfl rfl rfl (by decide +kernel) ⟨Nat.le_of_ble_eq_true rfl, Nat.le_of_ble_eq_true rfl⟩) ⟨bl_, va_recv hK.1 hPc (ci := 4) (q0 := 0) rfl rfl, fun U hU hW => ⟨rfl, by rw [hU], by rw [hU]; exact hPc, kk_mv hW hK, hDw⟩⟩ rfl rfl hl.1 rfl (lv_room (Nat.le_of_ble_eq_true rfl)) dX11_map_30 ⟨Nat.le_of_ble_eq_true rfl, Nat.le_of_ble_eq_true rfl⟩) hS (fun q _ h => hFc q h) hFc (fun u t H locs ht hvm hw hB hz1 hk1 hS => ?_)
        obtain ⟨hP, hD⟩ := va_join (wr := [(xo, .inr (11, [.ref xk, .ref xn, .ref xc, .ref xh, .ref xt, .ref xw, .ref xm, .ref xp, .int 0, .int 0, .long 0, .int 0])), (xm, .inl (cy 4, 4, .inr (.inr (.inr (.inr (mf_ m0 m1 m2 m3)))))), (m0, .inr (4, [.int 0, .int (-9), .ref l0, .ref u0])), (m1, .inr (4, [.int 0, .int (-9), .ref l1, .ref u1])), (m2, .inr (4, [.int 0, .int (-9), .ref l2, .ref u2])), (l0, .inl (cy 0, 6, .inl (fun _ => 0))), (l1, .inl (cy 0, 6, .inl (fun _ => 0))), (l2, .inl (cy 0, 6, .inl (fun _ => 0)))]) (w1 := []) hP hD [5, 9] [0, 1, 2, 3, 4, 6, 7, 8] rfl rfl (by decide) (by decide) hk1 hFc pp_nil dd_nil
        have hP : va_P D vwCl [(xo, .inr (11, [.ref xk, .ref xn, .ref xc, .ref xh, .ref xt, .ref xw, .ref xm, .ref xp, .int 0, .int 0, .long 0, .int 0])), (xm, .inl (cy 4, 4, .inr (.inr (.inr (.inr (mf_ m0 m1 m2 m3)))))), (m0, .inr (4, [.int 0, .int (-9), .ref l0, .ref u0])), (m1, .inr (4, [.int 0, .int (-9), .ref l1, .ref u1])), (m2, .inr (4, [.int 0, .int (-9), .ref l2, .ref u2])), (l0, .inl (cy 0, 6, .inl (fun _ => 0))), (l1, .inl (cy 0, 6, .inl (fun _ => 0))), (l2, .inl (cy 0, 6, .inl (fun _ => 0)))] H := hP
        have hD : va_D A [(xo, .inr (11, [.ref xk, .ref xn, .ref xc, .ref xh, .ref xt, .ref xw, .ref xm, .ref xp, .int 0, .int 0, .long 0, .int 0])), (xm, .inl (cy 4, 4, .inr (.inr (.inr (.inr (mf_ m0 m1 m2 m3)))))), (m0, .inr (4, [.int 0, .int (-9), .ref l0, .ref u0])), (m1, .inr (4, [.int 0, .int (-9), .ref l1, .ref u1])), (m2, .inr (4, [.int 0, .int (-9), .ref l2, .ref u2])), (l0, .inl (cy 0, 6, .inl (fun _ => 0))), (l1, .inl (cy 0, 6, .inl (fun _ => 0))), (l2, .inl (cy 0, 6, .inl (fun _ => 0)))] := hD
        refine lv_iconst (v := 1) hx hb dX11_map_33 (by decide) ?_
        exact W.iret (v := 1) hx hb hr (fun t ht hW => ⟨⟨1, (), rfl, Or.inr (Or.inr (⟨by omega, rfl⟩)), trivial⟩, hS.F ht⟩) hS.2.2 dX11_map_34
    · exact absurd c_5 (by decide)

set_option maxHeartbeats 4000000 in
set_option maxRecDepth 100000 in
theorem c_X11_row (l : Launch) (D : va_G) (cy : Nat → ClassId) (sz : Nat) (xo : Nat) (xk : Nat) (xn : Nat) (xc : Nat) (xh : Nat) (xt : Nat) (xw : Nat) (xm : Nat) (xp : Nat) (m0 : Nat) (m1 : Nat) (m2 : Nat) (m3 : Nat) (l0 : Nat) (l1 : Nat) (l2 : Nat) (l3 : Nat) (u0 : Nat) (u1 : Nat) (u2 : Nat) (u3 : Nat) (a1 : Int32) (a2 : Int32) (a3 : Int32) : Met l yX11_row wsX11_row ({ frames := 2, cells := 0, slots := 0, locals := 43 }) (va_Pc [.ref xo, .int a1, .int a2, .int a3] (fun U => U.heap.size = sz ∧ va_P D vwCl [(xo, .inr (11, [.ref xk, .ref xn, .ref xc, .ref xh, .ref xt, .ref xw, .ref xm, .ref xp, .int 0, .int 0, .long 0, .int 0])), (xm, .inl (cy 4, 4, .inr (.inr (.inr (.inr (mf_ m0 m1 m2 m3)))))), (m0, .inr (4, [.int 0, .int (-9), .ref l0, .ref u0])), (m1, .inr (4, [.int 0, .int (-9), .ref l1, .ref u1])), (m2, .inr (4, [.int 0, .int (-9), .ref l2, .ref u2])), (m3, .inr (4, [.int 0, .int (-9), .ref l3, .ref u3]))] U.heap ∧ kk_ D cy U ∧ va_D (fun _ => True) [(xo, .inr (11, [.ref xk, .ref xn, .ref xc, .ref xh, .ref xt, .ref xw, .ref xm, .ref xp, .int 0, .int 0, .long 0, .int 0])), (xm, .inl (cy 4, 4, .inr (.inr (.inr (.inr (mf_ m0 m1 m2 m3)))))), (m0, .inr (4, [.int 0, .int (-9), .ref l0, .ref u0])), (m1, .inr (4, [.int 0, .int (-9), .ref l1, .ref u1])), (m2, .inr (4, [.int 0, .int (-9), .ref l2, .ref u2])), (m3, .inr (4, [.int 0, .int (-9), .ref l3, .ref u3]))])) (va_Qi (fun (r : Int32) (_ : Unit) => ((¬ ((0 ≤ a1.toInt ∧ a1.toInt < 4) ∧ a3.toInt ≤ 5)) ∧ r = (-1)) ∨ (((0 ≤ a1.toInt ∧ a1.toInt < 4) ∧ a3.toInt ≤ 5) ∧ r = (-11))) (fun (_ : Unit) (_ : State) => True) (va_A [(xo, .inr (11, [.ref xk, .ref xn, .ref xc, .ref xh, .ref xt, .ref xw, .ref xm, .ref xp, .int 0, .int 0, .long 0, .int 0])), (xm, .inl (cy 4, 4, .inr (.inr (.inr (.inr (mf_ m0 m1 m2 m3)))))), (m0, .inr (4, [.int 0, .int (-9), .ref l0, .ref u0])), (m1, .inr (4, [.int 0, .int (-9), .ref l1, .ref u1])), (m2, .inr (4, [.int 0, .int (-9), .ref l2, .ref u2])), (m3, .inr (4, [.int 0, .int (-9), .ref l3, .ref u3]))] sz)) 0 0 (va_A [(xo, .inr (11, [.ref xk, .ref xn, .ref xc, .ref xh, .ref xt, .ref xw, .ref xm, .ref xp, .int 0, .int 0, .long 0, .int 0])), (xm, .inl (cy 4, 4, .inr (.inr (.inr (.inr (mf_ m0 m1 m2 m3)))))), (m0, .inr (4, [.int 0, .int (-9), .ref l0, .ref u0])), (m1, .inr (4, [.int 0, .int (-9), .ref l1, .ref u1])), (m2, .inr (4, [.int 0, .int (-9), .ref l2, .ref u2])), (m3, .inr (4, [.int 0, .int (-9), .ref l3, .ref u3]))] sz) := by
  refine Met.ofW (cc := cX11_row) (maxL := 4) (ret := (some .int)) (by decide) rfl ?_
  intro p e s m args below meth c s₁ B hml hv
  obtain ⟨rfl, hsz, hP, hK, hD0⟩ := hv
  have hx := B.exec
  have hb := B.bytes
  have hr := B.returns
  have hts := atoms_spec (ws := wsX11_row) B.pre
  have hown : s.vm.findClass RX11 = some m.cls := findClass_of_methodNamed B.named
  have hlocks := B.notSynchronized
  subst hsz
  have hD := hD0.self (sz := s.heap.size)
  generalize hAe : va_A [(xo, .inr (11, [.ref xk, .ref xn, .ref xc, .ref xh, .ref xt, .ref xw, .ref xm, .ref xp, .int 0, .int 0, .long 0, .int 0])), (xm, .inl (cy 4, 4, .inr (.inr (.inr (.inr (mf_ m0 m1 m2 m3)))))), (m0, .inr (4, [.int 0, .int (-9), .ref l0, .ref u0])), (m1, .inr (4, [.int 0, .int (-9), .ref l1, .ref u1])), (m2, .inr (4, [.int 0, .int (-9), .ref l2, .ref u2])), (m3, .inr (4, [.int 0, .int (-9), .ref l3, .ref u3]))] s.heap.size = A at hD ⊢
  have hA : ∀ q : Nat, s.heap.size ≤ q → A q := fun q h => by rw [← hAe]; exact Or.inr h
  have hS : va_S A s.heap s.heap [] := va_S.rf
  have hl := lv_entry ([.ref xo, .int a1, .int a2, .int a3]) (n := 4) (Nat.le_of_ble_eq_true rfl)
  rw [lg_entry_eq]
  generalize (lg_sl ([.ref xo, .int a1, .int a2, .int a3]) ++ List.replicate (4 - (lg_sl ([.ref xo, .int a1, .int a2, .int a3])).length) Slot.unset).toArray = ls at hl ⊢
  have hl : lv_has ls 4 [(0, .ref xo), (1, .int a1), (2, .int a2), (3, .int a3)] := hl
  refine lv_aload_n hx hb dX11_row_0 rfl (lv_at hl 0 rfl) ?_
  refine lv_aload_n hx hb dX11_row_1 rfl (lv_at hl 0 rfl) ?_
  refine lv_iload_n hx hb dX11_row_2 rfl (lv_at hl 1 rfl) ?_
  refine lv_iload_n hx hb dX11_row_3 rfl (lv_at hl 2 rfl) ?_
  refine lv_iload_n hx hb dX11_row_4 rfl (lv_at hl 3 rfl) ?_
  have hPc := hP.sub (ws' := [(xo, .inr (11, [.ref xk, .ref xn, .ref xc, .ref xh, .ref xt, .ref xw, .ref xm, .ref xp, .int 0, .int 0, .long 0, .int 0])), (xm, .inl (cy 4, 4, .inr (.inr (.inr (.inr (mf_ m0 m1 m2 m3)))))), (m0, .inr (4, [.int 0, .int (-9), .ref l0, .ref u0])), (m1, .inr (4, [.int 0, .int (-9), .ref l1, .ref u1])), (m2, .inr (4, [.int 0, .int (-9), .ref l2, .ref u2])), (m3, .inr (4, [.int 0, .int (-9), .ref l3, .ref u3]))]) [0, 1, 2, 3, 4, 5] rfl
  have hDc := hD.sub (ws' := [(xo, .inr (11, [.ref xk, .ref xn, .ref xc, .ref xh, .ref xt, .ref xw, .ref xm, .ref xp, .int 0, .int 0, .long 0, .int 0])), (xm, .inl (cy 4, 4, .inr (.inr (.inr (.inr (mf_ m0 m1 m2 m3)))))), (m0, .inr (4, [.int 0, .int (-9), .ref l0, .ref u0])), (m1, .inr (4, [.int 0, .int (-9), .ref l1, .ref u1])), (m2, .inr (4, [.int 0, .int (-9), .ref l2, .ref u2])), (m3, .inr (4, [.int 0, .int (-9), .ref l3, .ref u3]))]) [0, 1, 2, 3, 4, 5] (by decide) rfl
  have hDw : va_D (fun _ => True) [(xo, .inr (11, [.ref xk, .ref xn, .ref xc, .ref xh, .ref xt, .ref xw, .ref xm, .ref xp, .int 0, .int 0, .long 0, .int 0])), (xm, .inl (cy 4, 4, .inr (.inr (.inr (.inr (mf_ m0 m1 m2 m3)))))), (m0, .inr (4, [.int 0, .int (-9), .ref l0, .ref u0])), (m1, .inr (4, [.int 0, .int (-9), .ref l1, .ref u1])), (m2, .inr (4, [.int 0, .int (-9), .ref l2, .ref u2])), (m3, .inr (4, [.int 0, .int (-9), .ref l3, .ref u3]))] := hDc.weaken (fun _ _ _ _ => trivial)
  have hFc := va_free (wc := []) hD hS hA [] rfl
  refine va_calli (va_runV (As := [.int a1, .int a2, .int a3]) (rest := [.ref xo]) ⟨hx, hb, hml, hown, hts⟩ (c_X11_rowRefusal l D cy s.heap.size xo xk xn xc xh xt xw xm xp m0 m1 m2 m3 l0 l1 l2 l3 u0 u1 u2 u3 a1 a2 a3) (cwV 3 hts gX11_row_X11_rowRefusal rfl rfl rfl (by decide +kernel) ⟨Nat.le_of_ble_eq_true rfl, Nat.le_of_ble_eq_true rfl⟩) ⟨bl_, va_recv hK.1 hPc (ci := 11) (q0 := 0) rfl rfl, fun U hU hW => ⟨rfl, by rw [hU], by rw [hU]; exact hPc, kk_mv hW hK, hDw⟩⟩ rfl rfl hl.1 rfl (lv_room (Nat.le_of_ble_eq_true rfl)) dX11_row_5 ⟨Nat.le_of_ble_eq_true rfl, Nat.le_of_ble_eq_true rfl⟩) hS (fun q _ h => hFc q h) hFc (fun r_1 u t H locs ht hvm hw hB hz1 hk1 hS => ?_)
  have hP := ro_keep hP hk1
  have hP : va_P D vwCl [(xo, .inr (11, [.ref xk, .ref xn, .ref xc, .ref xh, .ref xt, .ref xw, .ref xm, .ref xp, .int 0, .int 0, .long 0, .int 0])), (xm, .inl (cy 4, 4, .inr (.inr (.inr (.inr (mf_ m0 m1 m2 m3)))))), (m0, .inr (4, [.int 0, .int (-9), .ref l0, .ref u0])), (m1, .inr (4, [.int 0, .int (-9), .ref l1, .ref u1])), (m2, .inr (4, [.int 0, .int (-9), .ref l2, .ref u2])), (m3, .inr (4, [.int 0, .int (-9), .ref l3, .ref u3]))] H := hP
  rcases hw with ⟨w_2, e_⟩ | ⟨w_2, e_⟩
  · have e_ := e_.symm
    subst e_
    refine va_put (ci := 11) (v := .int (-1)) (ty := .int) (C := RX11) (T := TX11) (N := 12) hx hb hts (fun _ h => List.mem_cons_of_mem _ (List.mem_append_left _ (List.mem_append_right _ h))) tyX11 tyX11_ok nmX11 hown hK.1 hP hD hS 0 rfl rfl 11 (by decide) (hts (.fieldLink RX11 91 "CutAtlas" "finding" "I") (by decide +kernel)) (fun _ h9 => h9) rfl (by decide +kernel) rfl rfl (Nat.le_of_ble_eq_true rfl) dX11_row_8 (fun H locs hP hD hS => ?_)
    have hP : va_P D vwCl [(xo, .inr (11, [.ref xk, .ref xn, .ref xc, .ref xh, .ref xt, .ref xw, .ref xm, .ref xp, .int 0, .int 0, .long 0, .int (-1)])), (xm, .inl (cy 4, 4, .inr (.inr (.inr (.inr (mf_ m0 m1 m2 m3)))))), (m0, .inr (4, [.int 0, .int (-9), .ref l0, .ref u0])), (m1, .inr (4, [.int 0, .int (-9), .ref l1, .ref u1])), (m2, .inr (4, [.int 0, .int (-9), .ref l2, .ref u2])), (m3, .inr (4, [.int 0, .int (-9), .ref l3, .ref u3]))] H := hP
    have hD : va_D A [(xo, .inr (11, [.ref xk, .ref xn, .ref xc, .ref xh, .ref xt, .ref xw, .ref xm, .ref xp, .int 0, .int 0, .long 0, .int (-1)])), (xm, .inl (cy 4, 4, .inr (.inr (.inr (.inr (mf_ m0 m1 m2 m3)))))), (m0, .inr (4, [.int 0, .int (-9), .ref l0, .ref u0])), (m1, .inr (4, [.int 0, .int (-9), .ref l1, .ref u1])), (m2, .inr (4, [.int 0, .int (-9), .ref l2, .ref u2])), (m3, .inr (4, [.int 0, .int (-9), .ref l3, .ref u3]))] := hD
    refine lv_aload_n hx hb dX11_row_11 rfl (lv_at hl 0 rfl) ?_
    refine va_get (ci := 11) (v := .int (-1)) (C := RX11) (T := TX11) (N := 12) hx hb hts (fun _ h => List.mem_cons_of_mem _ (List.mem_append_left _ (List.mem_append_right _ h))) hown hK.1 hP 0 rfl rfl 11 (by decide) (hts (.fieldLink RX11 91 "CutAtlas" "finding" "I") (by decide +kernel)) (fun _ h9 => h9) rfl dX11_row_12 ?_
    refine lv_if_eq (tgt := 23) hx hb dX11_row_15 (by decide) (fun c_3 => ?_) (fun c_3 => ?_)
    · exact absurd c_3 (by decide)
    · have _ := c_3
      refine lv_aload_n hx hb dX11_row_18 rfl (lv_at hl 0 rfl) ?_
      refine va_get (ci := 11) (v := .int (-1)) (C := RX11) (T := TX11) (N := 12) hx hb hts (fun _ h => List.mem_cons_of_mem _ (List.mem_append_left _ (List.mem_append_right _ h))) hown hK.1 hP 0 rfl rfl 11 (by decide) (hts (.fieldLink RX11 91 "CutAtlas" "finding" "I") (by decide +kernel)) (fun _ h9 => h9) rfl dX11_row_19 ?_
      exact W.iret (v := (-1)) hx hb hr (fun t ht hW => ⟨⟨(-1), (), rfl, Or.inl (⟨by omega, rfl⟩), trivial⟩, hS.F ht⟩) hS.2.2 dX11_row_22
  · have e_ := e_.symm
    subst e_
    refine va_put (ci := 11) (v := .int (-11)) (ty := .int) (C := RX11) (T := TX11) (N := 12) hx hb hts (fun _ h => List.mem_cons_of_mem _ (List.mem_append_left _ (List.mem_append_right _ h))) tyX11 tyX11_ok nmX11 hown hK.1 hP hD hS 0 rfl rfl 11 (by decide) (hts (.fieldLink RX11 91 "CutAtlas" "finding" "I") (by decide +kernel)) (fun _ h9 => h9) rfl (by decide +kernel) rfl rfl (Nat.le_of_ble_eq_true rfl) dX11_row_8 (fun H locs hP hD hS => ?_)
    have hP : va_P D vwCl [(xo, .inr (11, [.ref xk, .ref xn, .ref xc, .ref xh, .ref xt, .ref xw, .ref xm, .ref xp, .int 0, .int 0, .long 0, .int (-11)])), (xm, .inl (cy 4, 4, .inr (.inr (.inr (.inr (mf_ m0 m1 m2 m3)))))), (m0, .inr (4, [.int 0, .int (-9), .ref l0, .ref u0])), (m1, .inr (4, [.int 0, .int (-9), .ref l1, .ref u1])), (m2, .inr (4, [.int 0, .int (-9), .ref l2, .ref u2])), (m3, .inr (4, [.int 0, .int (-9), .ref l3, .ref u3]))] H := hP
    have hD : va_D A [(xo, .inr (11, [.ref xk, .ref xn, .ref xc, .ref xh, .ref xt, .ref xw, .ref xm, .ref xp, .int 0, .int 0, .long 0, .int (-11)])), (xm, .inl (cy 4, 4, .inr (.inr (.inr (.inr (mf_ m0 m1 m2 m3)))))), (m0, .inr (4, [.int 0, .int (-9), .ref l0, .ref u0])), (m1, .inr (4, [.int 0, .int (-9), .ref l1, .ref u1])), (m2, .inr (4, [.int 0, .int (-9), .ref l2, .ref u2])), (m3, .inr (4, [.int 0, .int (-9), .ref l3, .ref u3]))] := hD
    refine lv_aload_n hx hb dX11_row_11 rfl (lv_at hl 0 rfl) ?_
    refine va_get (ci := 11) (v := .int (-11)) (C := RX11) (T := TX11) (N := 12) hx hb hts (fun _ h => List.mem_cons_of_mem _ (List.mem_append_left _ (List.mem_append_right _ h))) hown hK.1 hP 0 rfl rfl 11 (by decide) (hts (.fieldLink RX11 91 "CutAtlas" "finding" "I") (by decide +kernel)) (fun _ h9 => h9) rfl dX11_row_12 ?_
    refine lv_if_eq (tgt := 23) hx hb dX11_row_15 (by decide) (fun c_4 => ?_) (fun c_4 => ?_)
    · exact absurd c_4 (by decide)
    · have _ := c_4
      refine lv_aload_n hx hb dX11_row_18 rfl (lv_at hl 0 rfl) ?_
      refine va_get (ci := 11) (v := .int (-11)) (C := RX11) (T := TX11) (N := 12) hx hb hts (fun _ h => List.mem_cons_of_mem _ (List.mem_append_left _ (List.mem_append_right _ h))) hown hK.1 hP 0 rfl rfl 11 (by decide) (hts (.fieldLink RX11 91 "CutAtlas" "finding" "I") (by decide +kernel)) (fun _ h9 => h9) rfl dX11_row_19 ?_
      exact W.iret (v := (-11)) hx hb hr (fun t ht hW => ⟨⟨(-11), (), rfl, Or.inr (⟨by omega, rfl⟩), trivial⟩, hS.F ht⟩) hS.2.2 dX11_row_22

set_option maxHeartbeats 4000000 in
set_option maxRecDepth 100000 in
theorem c_X11_put (l : Launch) (D : va_G) (cy : Nat → ClassId) (sz : Nat) (xo : Nat) (xk : Nat) (xn : Nat) (xc : Nat) (xh : Nat) (xt : Nat) (xw : Nat) (xm : Nat) (xp : Nat) (m0 : Nat) (m1 : Nat) (m2 : Nat) (m3 : Nat) (l0 : Nat) (l1 : Nat) (l2 : Nat) (l3 : Nat) (u0 : Nat) (u1 : Nat) (u2 : Nat) (u3 : Nat) (a1 : Int32) (a2 : Int32) (a3 : Int32) (a4 : Int32) (a5 : Int64) : Met l yX11_put wsX11_put ({ frames := 2, cells := 0, slots := 0, locals := 44 }) (va_Pc [.ref xo, .int a1, .int a2, .int a3, .int a4, .long a5] (fun U => U.heap.size = sz ∧ va_P D vwCl [(xo, .inr (11, [.ref xk, .ref xn, .ref xc, .ref xh, .ref xt, .ref xw, .ref xm, .ref xp, .int 0, .int 0, .long 0, .int 0])), (xm, .inl (cy 4, 4, .inr (.inr (.inr (.inr (mf_ m0 m1 m2 m3)))))), (m0, .inr (4, [.int 0, .int (-9), .ref l0, .ref u0])), (m1, .inr (4, [.int 0, .int (-9), .ref l1, .ref u1])), (m2, .inr (4, [.int 0, .int (-9), .ref l2, .ref u2])), (m3, .inr (4, [.int 0, .int (-9), .ref l3, .ref u3]))] U.heap ∧ kk_ D cy U ∧ va_D (fun _ => True) [(xo, .inr (11, [.ref xk, .ref xn, .ref xc, .ref xh, .ref xt, .ref xw, .ref xm, .ref xp, .int 0, .int 0, .long 0, .int 0])), (xm, .inl (cy 4, 4, .inr (.inr (.inr (.inr (mf_ m0 m1 m2 m3)))))), (m0, .inr (4, [.int 0, .int (-9), .ref l0, .ref u0])), (m1, .inr (4, [.int 0, .int (-9), .ref l1, .ref u1])), (m2, .inr (4, [.int 0, .int (-9), .ref l2, .ref u2])), (m3, .inr (4, [.int 0, .int (-9), .ref l3, .ref u3]))])) (va_Qi (fun (r : Int32) (_ : Unit) => ((¬ ((0 ≤ a1.toInt ∧ a1.toInt < 4) ∧ (0 ≤ a2.toInt ∧ a2.toInt < 3))) ∧ r = (-1)) ∨ (((0 ≤ a1.toInt ∧ a1.toInt < 4) ∧ (0 ≤ a2.toInt ∧ a2.toInt < 3)) ∧ r = (-11))) (fun (_ : Unit) (_ : State) => True) (va_A [(xo, .inr (11, [.ref xk, .ref xn, .ref xc, .ref xh, .ref xt, .ref xw, .ref xm, .ref xp, .int 0, .int 0, .long 0, .int 0])), (xm, .inl (cy 4, 4, .inr (.inr (.inr (.inr (mf_ m0 m1 m2 m3)))))), (m0, .inr (4, [.int 0, .int (-9), .ref l0, .ref u0])), (m1, .inr (4, [.int 0, .int (-9), .ref l1, .ref u1])), (m2, .inr (4, [.int 0, .int (-9), .ref l2, .ref u2])), (m3, .inr (4, [.int 0, .int (-9), .ref l3, .ref u3]))] sz)) 0 0 (va_A [(xo, .inr (11, [.ref xk, .ref xn, .ref xc, .ref xh, .ref xt, .ref xw, .ref xm, .ref xp, .int 0, .int 0, .long 0, .int 0])), (xm, .inl (cy 4, 4, .inr (.inr (.inr (.inr (mf_ m0 m1 m2 m3)))))), (m0, .inr (4, [.int 0, .int (-9), .ref l0, .ref u0])), (m1, .inr (4, [.int 0, .int (-9), .ref l1, .ref u1])), (m2, .inr (4, [.int 0, .int (-9), .ref l2, .ref u2])), (m3, .inr (4, [.int 0, .int (-9), .ref l3, .ref u3]))] sz) := by
  refine Met.ofW (cc := cX11_put) (maxL := 7) (ret := (some .int)) (by decide) rfl ?_
  intro p e s m args below meth c s₁ B hml hv
  obtain ⟨rfl, hsz, hP, hK, hD0⟩ := hv
  have hx := B.exec
  have hb := B.bytes
  have hr := B.returns
  have hts := atoms_spec (ws := wsX11_put) B.pre
  have hown : s.vm.findClass RX11 = some m.cls := findClass_of_methodNamed B.named
  have hlocks := B.notSynchronized
  subst hsz
  have hD := hD0.self (sz := s.heap.size)
  generalize hAe : va_A [(xo, .inr (11, [.ref xk, .ref xn, .ref xc, .ref xh, .ref xt, .ref xw, .ref xm, .ref xp, .int 0, .int 0, .long 0, .int 0])), (xm, .inl (cy 4, 4, .inr (.inr (.inr (.inr (mf_ m0 m1 m2 m3)))))), (m0, .inr (4, [.int 0, .int (-9), .ref l0, .ref u0])), (m1, .inr (4, [.int 0, .int (-9), .ref l1, .ref u1])), (m2, .inr (4, [.int 0, .int (-9), .ref l2, .ref u2])), (m3, .inr (4, [.int 0, .int (-9), .ref l3, .ref u3]))] s.heap.size = A at hD ⊢
  have hA : ∀ q : Nat, s.heap.size ≤ q → A q := fun q h => by rw [← hAe]; exact Or.inr h
  have hS : va_S A s.heap s.heap [] := va_S.rf
  have hl := lv_entry ([.ref xo, .int a1, .int a2, .int a3, .int a4, .long a5]) (n := 7) (Nat.le_of_ble_eq_true rfl)
  rw [lg_entry_eq]
  generalize (lg_sl ([.ref xo, .int a1, .int a2, .int a3, .int a4, .long a5]) ++ List.replicate (7 - (lg_sl ([.ref xo, .int a1, .int a2, .int a3, .int a4, .long a5])).length) Slot.unset).toArray = ls at hl ⊢
  have hl : lv_has ls 7 [(0, .ref xo), (1, .int a1), (2, .int a2), (3, .int a3), (4, .int a4), (5, .long a5)] := hl
  refine lv_aload_n hx hb dX11_put_0 rfl (lv_at hl 0 rfl) ?_
  refine lv_aload_n hx hb dX11_put_1 rfl (lv_at hl 0 rfl) ?_
  refine lv_iload_n hx hb dX11_put_2 rfl (lv_at hl 1 rfl) ?_
  refine lv_iload_n hx hb dX11_put_3 rfl (lv_at hl 2 rfl) ?_
  refine lv_iload_n hx hb dX11_put_4 rfl (lv_at hl 3 rfl) ?_
  refine lv_iload hx hb dX11_put_5 (lv_at hl 4 rfl) ?_
  have hPc := hP.sub (ws' := [(xo, .inr (11, [.ref xk, .ref xn, .ref xc, .ref xh, .ref xt, .ref xw, .ref xm, .ref xp, .int 0, .int 0, .long 0, .int 0])), (xm, .inl (cy 4, 4, .inr (.inr (.inr (.inr (mf_ m0 m1 m2 m3)))))), (m0, .inr (4, [.int 0, .int (-9), .ref l0, .ref u0])), (m1, .inr (4, [.int 0, .int (-9), .ref l1, .ref u1])), (m2, .inr (4, [.int 0, .int (-9), .ref l2, .ref u2])), (m3, .inr (4, [.int 0, .int (-9), .ref l3, .ref u3]))]) [0, 1, 2, 3, 4, 5] rfl
  have hDc := hD.sub (ws' := [(xo, .inr (11, [.ref xk, .ref xn, .ref xc, .ref xh, .ref xt, .ref xw, .ref xm, .ref xp, .int 0, .int 0, .long 0, .int 0])), (xm, .inl (cy 4, 4, .inr (.inr (.inr (.inr (mf_ m0 m1 m2 m3)))))), (m0, .inr (4, [.int 0, .int (-9), .ref l0, .ref u0])), (m1, .inr (4, [.int 0, .int (-9), .ref l1, .ref u1])), (m2, .inr (4, [.int 0, .int (-9), .ref l2, .ref u2])), (m3, .inr (4, [.int 0, .int (-9), .ref l3, .ref u3]))]) [0, 1, 2, 3, 4, 5] (by decide) rfl
  have hDw : va_D (fun _ => True) [(xo, .inr (11, [.ref xk, .ref xn, .ref xc, .ref xh, .ref xt, .ref xw, .ref xm, .ref xp, .int 0, .int 0, .long 0, .int 0])), (xm, .inl (cy 4, 4, .inr (.inr (.inr (.inr (mf_ m0 m1 m2 m3)))))), (m0, .inr (4, [.int 0, .int (-9), .ref l0, .ref u0])), (m1, .inr (4, [.int 0, .int (-9), .ref l1, .ref u1])), (m2, .inr (4, [.int 0, .int (-9), .ref l2, .ref u2])), (m3, .inr (4, [.int 0, .int (-9), .ref l3, .ref u3]))] := hDc.weaken (fun _ _ _ _ => trivial)
  have hFc := va_free (wc := []) hD hS hA [] rfl
  refine va_calli (va_runV (As := [.int a1, .int a2, .int a3, .int a4]) (rest := [.ref xo]) ⟨hx, hb, hml, hown, hts⟩ (c_X11_numberRefusal l D cy s.heap.size xo xk xn xc xh xt xw xm xp m0 m1 m2 m3 l0 l1 l2 l3 u0 u1 u2 u3 a1 a2 a3 a4) (cwV 4 hts gX11_put_X11_numberRefusal rfl rfl rfl (by decide +kernel) ⟨Nat.le_of_ble_eq_true rfl, Nat.le_of_ble_eq_true rfl⟩) ⟨bl_, va_recv hK.1 hPc (ci := 11) (q0 := 0) rfl rfl, fun U hU hW => ⟨rfl, by rw [hU], by rw [hU]; exact hPc, kk_mv hW hK, hDw⟩⟩ rfl rfl hl.1 rfl (lv_room (Nat.le_of_ble_eq_true rfl)) dX11_put_7 ⟨Nat.le_of_ble_eq_true rfl, Nat.le_of_ble_eq_true rfl⟩) hS (fun q _ h => hFc q h) hFc (fun r_1 u t H locs ht hvm hw hB hz1 hk1 hS => ?_)
  have hP := ro_keep hP hk1
  have hP : va_P D vwCl [(xo, .inr (11, [.ref xk, .ref xn, .ref xc, .ref xh, .ref xt, .ref xw, .ref xm, .ref xp, .int 0, .int 0, .long 0, .int 0])), (xm, .inl (cy 4, 4, .inr (.inr (.inr (.inr (mf_ m0 m1 m2 m3)))))), (m0, .inr (4, [.int 0, .int (-9), .ref l0, .ref u0])), (m1, .inr (4, [.int 0, .int (-9), .ref l1, .ref u1])), (m2, .inr (4, [.int 0, .int (-9), .ref l2, .ref u2])), (m3, .inr (4, [.int 0, .int (-9), .ref l3, .ref u3]))] H := hP
  rcases hw with ⟨w_2, e_⟩ | ⟨w_2, e_⟩
  · have e_ := e_.symm
    subst e_
    refine va_put (ci := 11) (v := .int (-1)) (ty := .int) (C := RX11) (T := TX11) (N := 12) hx hb hts (fun _ h => List.mem_cons_of_mem _ (List.mem_append_left _ (List.mem_append_right _ h))) tyX11 tyX11_ok nmX11 hown hK.1 hP hD hS 0 rfl rfl 11 (by decide) (hts (.fieldLink RX11 91 "CutAtlas" "finding" "I") (by decide +kernel)) (fun _ h9 => h9) rfl (by decide +kernel) rfl rfl (Nat.le_of_ble_eq_true rfl) dX11_put_10 (fun H locs hP hD hS => ?_)
    have hP : va_P D vwCl [(xo, .inr (11, [.ref xk, .ref xn, .ref xc, .ref xh, .ref xt, .ref xw, .ref xm, .ref xp, .int 0, .int 0, .long 0, .int (-1)])), (xm, .inl (cy 4, 4, .inr (.inr (.inr (.inr (mf_ m0 m1 m2 m3)))))), (m0, .inr (4, [.int 0, .int (-9), .ref l0, .ref u0])), (m1, .inr (4, [.int 0, .int (-9), .ref l1, .ref u1])), (m2, .inr (4, [.int 0, .int (-9), .ref l2, .ref u2])), (m3, .inr (4, [.int 0, .int (-9), .ref l3, .ref u3]))] H := hP
    have hD : va_D A [(xo, .inr (11, [.ref xk, .ref xn, .ref xc, .ref xh, .ref xt, .ref xw, .ref xm, .ref xp, .int 0, .int 0, .long 0, .int (-1)])), (xm, .inl (cy 4, 4, .inr (.inr (.inr (.inr (mf_ m0 m1 m2 m3)))))), (m0, .inr (4, [.int 0, .int (-9), .ref l0, .ref u0])), (m1, .inr (4, [.int 0, .int (-9), .ref l1, .ref u1])), (m2, .inr (4, [.int 0, .int (-9), .ref l2, .ref u2])), (m3, .inr (4, [.int 0, .int (-9), .ref l3, .ref u3]))] := hD
    refine lv_aload_n hx hb dX11_put_13 rfl (lv_at hl 0 rfl) ?_
    refine va_get (ci := 11) (v := .int (-1)) (C := RX11) (T := TX11) (N := 12) hx hb hts (fun _ h => List.mem_cons_of_mem _ (List.mem_append_left _ (List.mem_append_right _ h))) hown hK.1 hP 0 rfl rfl 11 (by decide) (hts (.fieldLink RX11 91 "CutAtlas" "finding" "I") (by decide +kernel)) (fun _ h9 => h9) rfl dX11_put_14 ?_
    refine lv_if_eq (tgt := 25) hx hb dX11_put_17 (by decide) (fun c_3 => ?_) (fun c_3 => ?_)
    · exact absurd c_3 (by decide)
    · have _ := c_3
      refine lv_aload_n hx hb dX11_put_20 rfl (lv_at hl 0 rfl) ?_
      refine va_get (ci := 11) (v := .int (-1)) (C := RX11) (T := TX11) (N := 12) hx hb hts (fun _ h => List.mem_cons_of_mem _ (List.mem_append_left _ (List.mem_append_right _ h))) hown hK.1 hP 0 rfl rfl 11 (by decide) (hts (.fieldLink RX11 91 "CutAtlas" "finding" "I") (by decide +kernel)) (fun _ h9 => h9) rfl dX11_put_21 ?_
      exact W.iret (v := (-1)) hx hb hr (fun t ht hW => ⟨⟨(-1), (), rfl, Or.inl (⟨by omega, rfl⟩), trivial⟩, hS.F ht⟩) hS.2.2 dX11_put_24
  · have e_ := e_.symm
    subst e_
    refine va_put (ci := 11) (v := .int (-11)) (ty := .int) (C := RX11) (T := TX11) (N := 12) hx hb hts (fun _ h => List.mem_cons_of_mem _ (List.mem_append_left _ (List.mem_append_right _ h))) tyX11 tyX11_ok nmX11 hown hK.1 hP hD hS 0 rfl rfl 11 (by decide) (hts (.fieldLink RX11 91 "CutAtlas" "finding" "I") (by decide +kernel)) (fun _ h9 => h9) rfl (by decide +kernel) rfl rfl (Nat.le_of_ble_eq_true rfl) dX11_put_10 (fun H locs hP hD hS => ?_)
    have hP : va_P D vwCl [(xo, .inr (11, [.ref xk, .ref xn, .ref xc, .ref xh, .ref xt, .ref xw, .ref xm, .ref xp, .int 0, .int 0, .long 0, .int (-11)])), (xm, .inl (cy 4, 4, .inr (.inr (.inr (.inr (mf_ m0 m1 m2 m3)))))), (m0, .inr (4, [.int 0, .int (-9), .ref l0, .ref u0])), (m1, .inr (4, [.int 0, .int (-9), .ref l1, .ref u1])), (m2, .inr (4, [.int 0, .int (-9), .ref l2, .ref u2])), (m3, .inr (4, [.int 0, .int (-9), .ref l3, .ref u3]))] H := hP
    have hD : va_D A [(xo, .inr (11, [.ref xk, .ref xn, .ref xc, .ref xh, .ref xt, .ref xw, .ref xm, .ref xp, .int 0, .int 0, .long 0, .int (-11)])), (xm, .inl (cy 4, 4, .inr (.inr (.inr (.inr (mf_ m0 m1 m2 m3)))))), (m0, .inr (4, [.int 0, .int (-9), .ref l0, .ref u0])), (m1, .inr (4, [.int 0, .int (-9), .ref l1, .ref u1])), (m2, .inr (4, [.int 0, .int (-9), .ref l2, .ref u2])), (m3, .inr (4, [.int 0, .int (-9), .ref l3, .ref u3]))] := hD
    refine lv_aload_n hx hb dX11_put_13 rfl (lv_at hl 0 rfl) ?_
    refine va_get (ci := 11) (v := .int (-11)) (C := RX11) (T := TX11) (N := 12) hx hb hts (fun _ h => List.mem_cons_of_mem _ (List.mem_append_left _ (List.mem_append_right _ h))) hown hK.1 hP 0 rfl rfl 11 (by decide) (hts (.fieldLink RX11 91 "CutAtlas" "finding" "I") (by decide +kernel)) (fun _ h9 => h9) rfl dX11_put_14 ?_
    refine lv_if_eq (tgt := 25) hx hb dX11_put_17 (by decide) (fun c_4 => ?_) (fun c_4 => ?_)
    · exact absurd c_4 (by decide)
    · have _ := c_4
      refine lv_aload_n hx hb dX11_put_20 rfl (lv_at hl 0 rfl) ?_
      refine va_get (ci := 11) (v := .int (-11)) (C := RX11) (T := TX11) (N := 12) hx hb hts (fun _ h => List.mem_cons_of_mem _ (List.mem_append_left _ (List.mem_append_right _ h))) hown hK.1 hP 0 rfl rfl 11 (by decide) (hts (.fieldLink RX11 91 "CutAtlas" "finding" "I") (by decide +kernel)) (fun _ h9 => h9) rfl dX11_put_21 ?_
      exact W.iret (v := (-11)) hx hb hr (fun t ht hW => ⟨⟨(-11), (), rfl, Or.inr (⟨by omega, rfl⟩), trivial⟩, hS.F ht⟩) hS.2.2 dX11_put_24

set_option maxHeartbeats 4000000 in
set_option maxRecDepth 100000 in
theorem c_X11_item (l : Launch) (D : va_G) (cy : Nat → ClassId) (sz : Nat) (xo : Nat) (xk : Nat) (xn : Nat) (xc : Nat) (xh : Nat) (xt : Nat) (xw : Nat) (xm : Nat) (xp : Nat) (m0 : Nat) (m1 : Nat) (m2 : Nat) (m3 : Nat) (l0 : Nat) (l1 : Nat) (l2 : Nat) (l3 : Nat) (u0 : Nat) (u1 : Nat) (u2 : Nat) (u3 : Nat) (a1 : Int32) (a2 : Int32) (a3 : Int32) (a4 : Int32) : Met l yX11_item wsX11_item ({ frames := 2, cells := 0, slots := 0, locals := 44 }) (va_Pc [.ref xo, .int a1, .int a2, .int a3, .int a4] (fun U => U.heap.size = sz ∧ va_P D vwCl [(xo, .inr (11, [.ref xk, .ref xn, .ref xc, .ref xh, .ref xt, .ref xw, .ref xm, .ref xp, .int 0, .int 0, .long 0, .int 0])), (xm, .inl (cy 4, 4, .inr (.inr (.inr (.inr (mf_ m0 m1 m2 m3)))))), (m0, .inr (4, [.int 0, .int (-9), .ref l0, .ref u0])), (m1, .inr (4, [.int 0, .int (-9), .ref l1, .ref u1])), (m2, .inr (4, [.int 0, .int (-9), .ref l2, .ref u2])), (m3, .inr (4, [.int 0, .int (-9), .ref l3, .ref u3]))] U.heap ∧ kk_ D cy U ∧ va_D (fun _ => True) [(xo, .inr (11, [.ref xk, .ref xn, .ref xc, .ref xh, .ref xt, .ref xw, .ref xm, .ref xp, .int 0, .int 0, .long 0, .int 0])), (xm, .inl (cy 4, 4, .inr (.inr (.inr (.inr (mf_ m0 m1 m2 m3)))))), (m0, .inr (4, [.int 0, .int (-9), .ref l0, .ref u0])), (m1, .inr (4, [.int 0, .int (-9), .ref l1, .ref u1])), (m2, .inr (4, [.int 0, .int (-9), .ref l2, .ref u2])), (m3, .inr (4, [.int 0, .int (-9), .ref l3, .ref u3]))])) (va_Ql (fun (r : Int64) (_ : Unit) => r = 0) (fun (_ : Unit) (_ : State) => True) (va_A [(xo, .inr (11, [.ref xk, .ref xn, .ref xc, .ref xh, .ref xt, .ref xw, .ref xm, .ref xp, .int 0, .int 0, .long 0, .int 0])), (xm, .inl (cy 4, 4, .inr (.inr (.inr (.inr (mf_ m0 m1 m2 m3)))))), (m0, .inr (4, [.int 0, .int (-9), .ref l0, .ref u0])), (m1, .inr (4, [.int 0, .int (-9), .ref l1, .ref u1])), (m2, .inr (4, [.int 0, .int (-9), .ref l2, .ref u2])), (m3, .inr (4, [.int 0, .int (-9), .ref l3, .ref u3]))] sz)) 0 0 (va_A [(xo, .inr (11, [.ref xk, .ref xn, .ref xc, .ref xh, .ref xt, .ref xw, .ref xm, .ref xp, .int 0, .int 0, .long 0, .int 0])), (xm, .inl (cy 4, 4, .inr (.inr (.inr (.inr (mf_ m0 m1 m2 m3)))))), (m0, .inr (4, [.int 0, .int (-9), .ref l0, .ref u0])), (m1, .inr (4, [.int 0, .int (-9), .ref l1, .ref u1])), (m2, .inr (4, [.int 0, .int (-9), .ref l2, .ref u2])), (m3, .inr (4, [.int 0, .int (-9), .ref l3, .ref u3]))] sz) := by
  refine Met.ofW (cc := cX11_item) (maxL := 5) (ret := (some .long)) (by decide) rfl ?_
  intro p e s m args below meth c s₁ B hml hv
  obtain ⟨rfl, hsz, hP, hK, hD0⟩ := hv
  have hx := B.exec
  have hb := B.bytes
  have hr := B.returns
  have hts := atoms_spec (ws := wsX11_item) B.pre
  have hown : s.vm.findClass RX11 = some m.cls := findClass_of_methodNamed B.named
  have hlocks := B.notSynchronized
  subst hsz
  have hD := hD0.self (sz := s.heap.size)
  generalize hAe : va_A [(xo, .inr (11, [.ref xk, .ref xn, .ref xc, .ref xh, .ref xt, .ref xw, .ref xm, .ref xp, .int 0, .int 0, .long 0, .int 0])), (xm, .inl (cy 4, 4, .inr (.inr (.inr (.inr (mf_ m0 m1 m2 m3)))))), (m0, .inr (4, [.int 0, .int (-9), .ref l0, .ref u0])), (m1, .inr (4, [.int 0, .int (-9), .ref l1, .ref u1])), (m2, .inr (4, [.int 0, .int (-9), .ref l2, .ref u2])), (m3, .inr (4, [.int 0, .int (-9), .ref l3, .ref u3]))] s.heap.size = A at hD ⊢
  have hA : ∀ q : Nat, s.heap.size ≤ q → A q := fun q h => by rw [← hAe]; exact Or.inr h
  have hS : va_S A s.heap s.heap [] := va_S.rf
  have hl := lv_entry ([.ref xo, .int a1, .int a2, .int a3, .int a4]) (n := 5) (Nat.le_of_ble_eq_true rfl)
  rw [lg_entry_eq]
  generalize (lg_sl ([.ref xo, .int a1, .int a2, .int a3, .int a4]) ++ List.replicate (5 - (lg_sl ([.ref xo, .int a1, .int a2, .int a3, .int a4])).length) Slot.unset).toArray = ls at hl ⊢
  have hl : lv_has ls 5 [(0, .ref xo), (1, .int a1), (2, .int a2), (3, .int a3), (4, .int a4)] := hl
  refine lv_aload_n hx hb dX11_item_0 rfl (lv_at hl 0 rfl) ?_
  refine lv_aload_n hx hb dX11_item_1 rfl (lv_at hl 0 rfl) ?_
  refine lv_iload_n hx hb dX11_item_2 rfl (lv_at hl 1 rfl) ?_
  refine lv_iload_n hx hb dX11_item_3 rfl (lv_at hl 2 rfl) ?_
  refine lv_iload_n hx hb dX11_item_4 rfl (lv_at hl 3 rfl) ?_
  refine lv_iload hx hb dX11_item_5 (lv_at hl 4 rfl) ?_
  have hPc := hP.sub (ws' := [(xo, .inr (11, [.ref xk, .ref xn, .ref xc, .ref xh, .ref xt, .ref xw, .ref xm, .ref xp, .int 0, .int 0, .long 0, .int 0])), (xm, .inl (cy 4, 4, .inr (.inr (.inr (.inr (mf_ m0 m1 m2 m3)))))), (m0, .inr (4, [.int 0, .int (-9), .ref l0, .ref u0])), (m1, .inr (4, [.int 0, .int (-9), .ref l1, .ref u1])), (m2, .inr (4, [.int 0, .int (-9), .ref l2, .ref u2])), (m3, .inr (4, [.int 0, .int (-9), .ref l3, .ref u3]))]) [0, 1, 2, 3, 4, 5] rfl
  have hDc := hD.sub (ws' := [(xo, .inr (11, [.ref xk, .ref xn, .ref xc, .ref xh, .ref xt, .ref xw, .ref xm, .ref xp, .int 0, .int 0, .long 0, .int 0])), (xm, .inl (cy 4, 4, .inr (.inr (.inr (.inr (mf_ m0 m1 m2 m3)))))), (m0, .inr (4, [.int 0, .int (-9), .ref l0, .ref u0])), (m1, .inr (4, [.int 0, .int (-9), .ref l1, .ref u1])), (m2, .inr (4, [.int 0, .int (-9), .ref l2, .ref u2])), (m3, .inr (4, [.int 0, .int (-9), .ref l3, .ref u3]))]) [0, 1, 2, 3, 4, 5] (by decide) rfl
  have hDw : va_D (fun _ => True) [(xo, .inr (11, [.ref xk, .ref xn, .ref xc, .ref xh, .ref xt, .ref xw, .ref xm, .ref xp, .int 0, .int 0, .long 0, .int 0])), (xm, .inl (cy 4, 4, .inr (.inr (.inr (.inr (mf_ m0 m1 m2 m3)))))), (m0, .inr (4, [.int 0, .int (-9), .ref l0, .ref u0])), (m1, .inr (4, [.int 0, .int (-9), .ref l1, .ref u1])), (m2, .inr (4, [.int 0, .int (-9), .ref l2, .ref u2])), (m3, .inr (4, [.int 0, .int (-9), .ref l3, .ref u3]))] := hDc.weaken (fun _ _ _ _ => trivial)
  have hFc := va_free (wc := []) hD hS hA [] rfl
  refine va_calli (va_runV (As := [.int a1, .int a2, .int a3, .int a4]) (rest := [.ref xo]) ⟨hx, hb, hml, hown, hts⟩ (c_X11_numberRefusal l D cy s.heap.size xo xk xn xc xh xt xw xm xp m0 m1 m2 m3 l0 l1 l2 l3 u0 u1 u2 u3 a1 a2 a3 a4) (cwV 4 hts gX11_item_X11_numberRefusal rfl rfl rfl (by decide +kernel) ⟨Nat.le_of_ble_eq_true rfl, Nat.le_of_ble_eq_true rfl⟩) ⟨bl_, va_recv hK.1 hPc (ci := 11) (q0 := 0) rfl rfl, fun U hU hW => ⟨rfl, by rw [hU], by rw [hU]; exact hPc, kk_mv hW hK, hDw⟩⟩ rfl rfl hl.1 rfl (lv_room (Nat.le_of_ble_eq_true rfl)) dX11_item_7 ⟨Nat.le_of_ble_eq_true rfl, Nat.le_of_ble_eq_true rfl⟩) hS (fun q _ h => hFc q h) hFc (fun r_1 u t H locs ht hvm hw hB hz1 hk1 hS => ?_)
  have hP := ro_keep hP hk1
  have hP : va_P D vwCl [(xo, .inr (11, [.ref xk, .ref xn, .ref xc, .ref xh, .ref xt, .ref xw, .ref xm, .ref xp, .int 0, .int 0, .long 0, .int 0])), (xm, .inl (cy 4, 4, .inr (.inr (.inr (.inr (mf_ m0 m1 m2 m3)))))), (m0, .inr (4, [.int 0, .int (-9), .ref l0, .ref u0])), (m1, .inr (4, [.int 0, .int (-9), .ref l1, .ref u1])), (m2, .inr (4, [.int 0, .int (-9), .ref l2, .ref u2])), (m3, .inr (4, [.int 0, .int (-9), .ref l3, .ref u3]))] H := hP
  rcases hw with ⟨w_2, e_⟩ | ⟨w_2, e_⟩
  · have e_ := e_.symm
    subst e_
    refine va_put (ci := 11) (v := .int (-1)) (ty := .int) (C := RX11) (T := TX11) (N := 12) hx hb hts (fun _ h => List.mem_cons_of_mem _ (List.mem_append_left _ (List.mem_append_right _ h))) tyX11 tyX11_ok nmX11 hown hK.1 hP hD hS 0 rfl rfl 11 (by decide) (hts (.fieldLink RX11 91 "CutAtlas" "finding" "I") (by decide +kernel)) (fun _ h9 => h9) rfl (by decide +kernel) rfl rfl (Nat.le_of_ble_eq_true rfl) dX11_item_10 (fun H locs hP hD hS => ?_)
    have hP : va_P D vwCl [(xo, .inr (11, [.ref xk, .ref xn, .ref xc, .ref xh, .ref xt, .ref xw, .ref xm, .ref xp, .int 0, .int 0, .long 0, .int (-1)])), (xm, .inl (cy 4, 4, .inr (.inr (.inr (.inr (mf_ m0 m1 m2 m3)))))), (m0, .inr (4, [.int 0, .int (-9), .ref l0, .ref u0])), (m1, .inr (4, [.int 0, .int (-9), .ref l1, .ref u1])), (m2, .inr (4, [.int 0, .int (-9), .ref l2, .ref u2])), (m3, .inr (4, [.int 0, .int (-9), .ref l3, .ref u3]))] H := hP
    have hD : va_D A [(xo, .inr (11, [.ref xk, .ref xn, .ref xc, .ref xh, .ref xt, .ref xw, .ref xm, .ref xp, .int 0, .int 0, .long 0, .int (-1)])), (xm, .inl (cy 4, 4, .inr (.inr (.inr (.inr (mf_ m0 m1 m2 m3)))))), (m0, .inr (4, [.int 0, .int (-9), .ref l0, .ref u0])), (m1, .inr (4, [.int 0, .int (-9), .ref l1, .ref u1])), (m2, .inr (4, [.int 0, .int (-9), .ref l2, .ref u2])), (m3, .inr (4, [.int 0, .int (-9), .ref l3, .ref u3]))] := hD
    refine lv_aload_n hx hb dX11_item_13 rfl (lv_at hl 0 rfl) ?_
    refine va_get (ci := 11) (v := .int (-1)) (C := RX11) (T := TX11) (N := 12) hx hb hts (fun _ h => List.mem_cons_of_mem _ (List.mem_append_left _ (List.mem_append_right _ h))) hown hK.1 hP 0 rfl rfl 11 (by decide) (hts (.fieldLink RX11 91 "CutAtlas" "finding" "I") (by decide +kernel)) (fun _ h9 => h9) rfl dX11_item_14 ?_
    refine lv_if_eq (tgt := 22) hx hb dX11_item_17 (by decide) (fun c_3 => ?_) (fun c_3 => ?_)
    · exact absurd c_3 (by decide)
    · have _ := c_3
      refine lv_lconst (v := 0) hx hb dX11_item_20 (by decide) ?_
      exact W.lret (v := 0) hx hb hr (fun t ht hW => ⟨⟨0, (), rfl, rfl, trivial⟩, hS.F ht⟩) hS.2.2 dX11_item_21
  · have e_ := e_.symm
    subst e_
    refine va_put (ci := 11) (v := .int (-11)) (ty := .int) (C := RX11) (T := TX11) (N := 12) hx hb hts (fun _ h => List.mem_cons_of_mem _ (List.mem_append_left _ (List.mem_append_right _ h))) tyX11 tyX11_ok nmX11 hown hK.1 hP hD hS 0 rfl rfl 11 (by decide) (hts (.fieldLink RX11 91 "CutAtlas" "finding" "I") (by decide +kernel)) (fun _ h9 => h9) rfl (by decide +kernel) rfl rfl (Nat.le_of_ble_eq_true rfl) dX11_item_10 (fun H locs hP hD hS => ?_)
    have hP : va_P D vwCl [(xo, .inr (11, [.ref xk, .ref xn, .ref xc, .ref xh, .ref xt, .ref xw, .ref xm, .ref xp, .int 0, .int 0, .long 0, .int (-11)])), (xm, .inl (cy 4, 4, .inr (.inr (.inr (.inr (mf_ m0 m1 m2 m3)))))), (m0, .inr (4, [.int 0, .int (-9), .ref l0, .ref u0])), (m1, .inr (4, [.int 0, .int (-9), .ref l1, .ref u1])), (m2, .inr (4, [.int 0, .int (-9), .ref l2, .ref u2])), (m3, .inr (4, [.int 0, .int (-9), .ref l3, .ref u3]))] H := hP
    have hD : va_D A [(xo, .inr (11, [.ref xk, .ref xn, .ref xc, .ref xh, .ref xt, .ref xw, .ref xm, .ref xp, .int 0, .int 0, .long 0, .int (-11)])), (xm, .inl (cy 4, 4, .inr (.inr (.inr (.inr (mf_ m0 m1 m2 m3)))))), (m0, .inr (4, [.int 0, .int (-9), .ref l0, .ref u0])), (m1, .inr (4, [.int 0, .int (-9), .ref l1, .ref u1])), (m2, .inr (4, [.int 0, .int (-9), .ref l2, .ref u2])), (m3, .inr (4, [.int 0, .int (-9), .ref l3, .ref u3]))] := hD
    refine lv_aload_n hx hb dX11_item_13 rfl (lv_at hl 0 rfl) ?_
    refine va_get (ci := 11) (v := .int (-11)) (C := RX11) (T := TX11) (N := 12) hx hb hts (fun _ h => List.mem_cons_of_mem _ (List.mem_append_left _ (List.mem_append_right _ h))) hown hK.1 hP 0 rfl rfl 11 (by decide) (hts (.fieldLink RX11 91 "CutAtlas" "finding" "I") (by decide +kernel)) (fun _ h9 => h9) rfl dX11_item_14 ?_
    refine lv_if_eq (tgt := 22) hx hb dX11_item_17 (by decide) (fun c_4 => ?_) (fun c_4 => ?_)
    · exact absurd c_4 (by decide)
    · have _ := c_4
      refine lv_lconst (v := 0) hx hb dX11_item_20 (by decide) ?_
      exact W.lret (v := 0) hx hb hr (fun t ht hW => ⟨⟨0, (), rfl, rfl, trivial⟩, hS.F ht⟩) hS.2.2 dX11_item_21

set_option maxHeartbeats 4000000 in
set_option maxRecDepth 100000 in
theorem c_X11_copy (l : Launch) (D : va_G) (cy : Nat → ClassId) (sz : Nat) (xo : Nat) (xk : Nat) (xn : Nat) (xc : Nat) (xh : Nat) (xt : Nat) (xw : Nat) (xm : Nat) (xp : Nat) (m0 : Nat) (m1 : Nat) (m2 : Nat) (m3 : Nat) (l0 : Nat) (l1 : Nat) (l2 : Nat) (l3 : Nat) (u0 : Nat) (u1 : Nat) (u2 : Nat) (u3 : Nat) (a1 : Int32) (a2 : Int32) (a3 : Int32) (a4 : Int32) (a5 : Int32) (a6 : Int32) : Met l yX11_copy wsX11_copy ({ frames := 2, cells := 0, slots := 0, locals := 45 }) (va_Pc [.ref xo, .int a1, .int a2, .int a3, .int a4, .int a5, .int a6] (fun U => U.heap.size = sz ∧ va_P D vwCl [(xo, .inr (11, [.ref xk, .ref xn, .ref xc, .ref xh, .ref xt, .ref xw, .ref xm, .ref xp, .int 0, .int 0, .long 0, .int 0])), (xm, .inl (cy 4, 4, .inr (.inr (.inr (.inr (mf_ m0 m1 m2 m3)))))), (m0, .inr (4, [.int 0, .int (-9), .ref l0, .ref u0])), (m1, .inr (4, [.int 0, .int (-9), .ref l1, .ref u1])), (m2, .inr (4, [.int 0, .int (-9), .ref l2, .ref u2])), (m3, .inr (4, [.int 0, .int (-9), .ref l3, .ref u3]))] U.heap ∧ kk_ D cy U ∧ va_D (fun _ => True) [(xo, .inr (11, [.ref xk, .ref xn, .ref xc, .ref xh, .ref xt, .ref xw, .ref xm, .ref xp, .int 0, .int 0, .long 0, .int 0])), (xm, .inl (cy 4, 4, .inr (.inr (.inr (.inr (mf_ m0 m1 m2 m3)))))), (m0, .inr (4, [.int 0, .int (-9), .ref l0, .ref u0])), (m1, .inr (4, [.int 0, .int (-9), .ref l1, .ref u1])), (m2, .inr (4, [.int 0, .int (-9), .ref l2, .ref u2])), (m3, .inr (4, [.int 0, .int (-9), .ref l3, .ref u3]))])) (va_Qi (fun (r : Int32) (_ : Unit) => ((¬ (0 ≤ a1.toInt ∧ a1.toInt < 4)) ∧ r = (-1)) ∨ ((0 ≤ a1.toInt ∧ a1.toInt < 4) ∧ r = (-11))) (fun (_ : Unit) (_ : State) => True) (va_A [(xo, .inr (11, [.ref xk, .ref xn, .ref xc, .ref xh, .ref xt, .ref xw, .ref xm, .ref xp, .int 0, .int 0, .long 0, .int 0])), (xm, .inl (cy 4, 4, .inr (.inr (.inr (.inr (mf_ m0 m1 m2 m3)))))), (m0, .inr (4, [.int 0, .int (-9), .ref l0, .ref u0])), (m1, .inr (4, [.int 0, .int (-9), .ref l1, .ref u1])), (m2, .inr (4, [.int 0, .int (-9), .ref l2, .ref u2])), (m3, .inr (4, [.int 0, .int (-9), .ref l3, .ref u3]))] sz)) 0 0 (va_A [(xo, .inr (11, [.ref xk, .ref xn, .ref xc, .ref xh, .ref xt, .ref xw, .ref xm, .ref xp, .int 0, .int 0, .long 0, .int 0])), (xm, .inl (cy 4, 4, .inr (.inr (.inr (.inr (mf_ m0 m1 m2 m3)))))), (m0, .inr (4, [.int 0, .int (-9), .ref l0, .ref u0])), (m1, .inr (4, [.int 0, .int (-9), .ref l1, .ref u1])), (m2, .inr (4, [.int 0, .int (-9), .ref l2, .ref u2])), (m3, .inr (4, [.int 0, .int (-9), .ref l3, .ref u3]))] sz) := by
  refine Met.ofW (cc := cX11_copy) (maxL := 7) (ret := (some .int)) (by decide) rfl ?_
  intro p e s m args below meth c s₁ B hml hv
  obtain ⟨rfl, hsz, hP, hK, hD0⟩ := hv
  have hx := B.exec
  have hb := B.bytes
  have hr := B.returns
  have hts := atoms_spec (ws := wsX11_copy) B.pre
  have hown : s.vm.findClass RX11 = some m.cls := findClass_of_methodNamed B.named
  have hlocks := B.notSynchronized
  subst hsz
  have hD := hD0.self (sz := s.heap.size)
  generalize hAe : va_A [(xo, .inr (11, [.ref xk, .ref xn, .ref xc, .ref xh, .ref xt, .ref xw, .ref xm, .ref xp, .int 0, .int 0, .long 0, .int 0])), (xm, .inl (cy 4, 4, .inr (.inr (.inr (.inr (mf_ m0 m1 m2 m3)))))), (m0, .inr (4, [.int 0, .int (-9), .ref l0, .ref u0])), (m1, .inr (4, [.int 0, .int (-9), .ref l1, .ref u1])), (m2, .inr (4, [.int 0, .int (-9), .ref l2, .ref u2])), (m3, .inr (4, [.int 0, .int (-9), .ref l3, .ref u3]))] s.heap.size = A at hD ⊢
  have hA : ∀ q : Nat, s.heap.size ≤ q → A q := fun q h => by rw [← hAe]; exact Or.inr h
  have hS : va_S A s.heap s.heap [] := va_S.rf
  have hl := lv_entry ([.ref xo, .int a1, .int a2, .int a3, .int a4, .int a5, .int a6]) (n := 7) (Nat.le_of_ble_eq_true rfl)
  rw [lg_entry_eq]
  generalize (lg_sl ([.ref xo, .int a1, .int a2, .int a3, .int a4, .int a5, .int a6]) ++ List.replicate (7 - (lg_sl ([.ref xo, .int a1, .int a2, .int a3, .int a4, .int a5, .int a6])).length) Slot.unset).toArray = ls at hl ⊢
  have hl : lv_has ls 7 [(0, .ref xo), (1, .int a1), (2, .int a2), (3, .int a3), (4, .int a4), (5, .int a5), (6, .int a6)] := hl
  refine lv_aload_n hx hb dX11_copy_0 rfl (lv_at hl 0 rfl) ?_
  refine lv_iload_n hx hb dX11_copy_1 rfl (lv_at hl 1 rfl) ?_
  have hPc := hP.sub (ws' := []) [] rfl
  have hDc := hD.sub (ws' := []) [] (by decide) rfl
  have hDw : va_D (fun _ => True) [] := hDc.weaken (fun _ _ _ _ => trivial)
  have hFc := va_free (wc := []) hD hS hA [] rfl
  refine va_calli (va_runS (As := [.int a1]) (rest := [.ref xo]) ⟨hx, hb, hml, hown, hts⟩ (c_X11_isMapNumber l D cy s.heap.size a1) (va_cwS 1 hts gX11_copy_X11_isMapNumber rfl rfl rfl (by decide +kernel) ⟨Nat.le_of_ble_eq_true rfl, Nat.le_of_ble_eq_true rfl⟩) ⟨bl_, fun U hU hW => ⟨rfl, by rw [hU], by rw [hU]; exact hPc, kk_mv hW hK, hDw⟩⟩ rfl rfl hl.1 rfl (lv_room (Nat.le_of_ble_eq_true rfl)) dX11_copy_2 ⟨Nat.le_of_ble_eq_true rfl, Nat.le_of_ble_eq_true rfl⟩) hS (fun q _ h => hFc q h) hFc (fun r_1 u t H locs ht hvm hw hB hz1 hk1 hS => ?_)
  have hP := ro_keep hP hk1
  have hP : va_P D vwCl [(xo, .inr (11, [.ref xk, .ref xn, .ref xc, .ref xh, .ref xt, .ref xw, .ref xm, .ref xp, .int 0, .int 0, .long 0, .int 0])), (xm, .inl (cy 4, 4, .inr (.inr (.inr (.inr (mf_ m0 m1 m2 m3)))))), (m0, .inr (4, [.int 0, .int (-9), .ref l0, .ref u0])), (m1, .inr (4, [.int 0, .int (-9), .ref l1, .ref u1])), (m2, .inr (4, [.int 0, .int (-9), .ref l2, .ref u2])), (m3, .inr (4, [.int 0, .int (-9), .ref l3, .ref u3]))] H := hP
  rcases hw with ⟨w_2, e_⟩ | ⟨w_2, e_⟩
  · have e_ := e_.symm
    subst e_
    refine lv_if_eq (tgt := 28) hx hb dX11_copy_5 (by decide) (fun c_3 => ?_) (fun c_3 => ?_)
    · exact absurd c_3 (by decide)
    · have _ := c_3
      rcases sp_4 (x := a1) (by omega) with rfl | rfl | rfl | rfl
      · refine lv_aload_n hx hb dX11_copy_8 rfl (lv_at hl 0 rfl) ?_
        refine va_get (ci := 11) (v := .ref xm) (C := RX11) (T := TX11) (N := 12) hx hb hts (fun _ h => List.mem_cons_of_mem _ (List.mem_append_left _ (List.mem_append_right _ h))) hown hK.1 hP 0 rfl rfl 6 (by decide) (hts (.fieldLink RX11 72 "CutAtlas" "maps" "[LCutAtlas$NumberMap;") (by decide +kernel)) (fun _ h9 => h9) rfl dX11_copy_9 ?_
        refine lv_iload_n hx hb dX11_copy_12 rfl (lv_at hl 1 rfl) ?_
        refine va_aldq hx hb hK.1 hP 1 4 rfl rfl (i := 0) (by unfold vp_in; decide) dX11_copy_13 ?_
        refine lv_topv (v' := .ref m0) (by simp [va_up, va_rf, mf_, cl_0, cl_1, cl_2, cl_3, cl_4]) ?_
        refine lv_iload_n hx hb dX11_copy_14 rfl (lv_at hl 2 rfl) ?_
        refine lv_iload_n hx hb dX11_copy_15 rfl (lv_at hl 3 rfl) ?_
        refine lv_iload hx hb dX11_copy_16 (lv_at hl 4 rfl) ?_
        refine lv_iload hx hb dX11_copy_18 (lv_at hl 5 rfl) ?_
        refine lv_iload hx hb dX11_copy_20 (lv_at hl 6 rfl) ?_
        have hPc := hP.sub (ws' := [(m0, .inr (4, [.int 0, .int (-9), .ref l0, .ref u0]))]) [2] rfl
        have hDc := hD.sub (ws' := [(m0, .inr (4, [.int 0, .int (-9), .ref l0, .ref u0]))]) [2] (by decide) rfl
        have hDw : va_D (fun _ => True) [(m0, .inr (4, [.int 0, .int (-9), .ref l0, .ref u0]))] := hDc.weaken (fun _ _ _ _ => trivial)
        have hFc := va_free (wc := []) hD hS hA [] rfl
        refine va_calli (va_runV (As := [.int a2, .int a3, .int a4, .int a5, .int a6]) (rest := [.ref xo]) ⟨hx, hb, hml, hown, hts⟩ (c_X4_moveRefusal l D cy H.size m0 l0 u0 a2 a3 a4 a5 a6) (cwV 5 hts gX11_copy_X4_moveRefusal rfl rfl rfl (by decide +kernel) ⟨Nat.le_of_ble_eq_true rfl, Nat.le_of_ble_eq_true rfl⟩) ⟨bl_, va_recv hK.1 hPc (ci := 4) (q0 := 0) rfl rfl, fun U hU hW => ⟨rfl, by rw [hU], by rw [hU]; exact hPc, kk_mv hW hK, hDw⟩⟩ rfl rfl hl.1 rfl (lv_room (Nat.le_of_ble_eq_true rfl)) dX11_copy_22 ⟨Nat.le_of_ble_eq_true rfl, Nat.le_of_ble_eq_true rfl⟩) hS (fun q _ h => hFc q h) hFc (fun r_4 u t H locs ht hvm hw hB hz1 hk1 hS => ?_)
        have hP := ro_keep hP hk1
        have hP : va_P D vwCl [(xo, .inr (11, [.ref xk, .ref xn, .ref xc, .ref xh, .ref xt, .ref xw, .ref xm, .ref xp, .int 0, .int 0, .long 0, .int 0])), (xm, .inl (cy 4, 4, .inr (.inr (.inr (.inr (mf_ m0 m1 m2 m3)))))), (m0, .inr (4, [.int 0, .int (-9), .ref l0, .ref u0])), (m1, .inr (4, [.int 0, .int (-9), .ref l1, .ref u1])), (m2, .inr (4, [.int 0, .int (-9), .ref l2, .ref u2])), (m3, .inr (4, [.int 0, .int (-9), .ref l3, .ref u3]))] H := hP
        have e_ := hw.symm
        subst e_
        refine lv_goto (tgt := 29) hx hb dX11_copy_25 (by decide) ?_
        refine va_put (ci := 11) (v := .int (-11)) (ty := .int) (C := RX11) (T := TX11) (N := 12) hx hb hts (fun _ h => List.mem_cons_of_mem _ (List.mem_append_left _ (List.mem_append_right _ h))) tyX11 tyX11_ok nmX11 hown hK.1 hP hD hS 0 rfl rfl 11 (by decide) (hts (.fieldLink RX11 91 "CutAtlas" "finding" "I") (by decide +kernel)) (fun _ h9 => h9) rfl (by decide +kernel) rfl rfl (Nat.le_of_ble_eq_true rfl) dX11_copy_29 (fun H locs hP hD hS => ?_)
        have hP : va_P D vwCl [(xo, .inr (11, [.ref xk, .ref xn, .ref xc, .ref xh, .ref xt, .ref xw, .ref xm, .ref xp, .int 0, .int 0, .long 0, .int (-11)])), (xm, .inl (cy 4, 4, .inr (.inr (.inr (.inr (mf_ m0 m1 m2 m3)))))), (m0, .inr (4, [.int 0, .int (-9), .ref l0, .ref u0])), (m1, .inr (4, [.int 0, .int (-9), .ref l1, .ref u1])), (m2, .inr (4, [.int 0, .int (-9), .ref l2, .ref u2])), (m3, .inr (4, [.int 0, .int (-9), .ref l3, .ref u3]))] H := hP
        have hD : va_D A [(xo, .inr (11, [.ref xk, .ref xn, .ref xc, .ref xh, .ref xt, .ref xw, .ref xm, .ref xp, .int 0, .int 0, .long 0, .int (-11)])), (xm, .inl (cy 4, 4, .inr (.inr (.inr (.inr (mf_ m0 m1 m2 m3)))))), (m0, .inr (4, [.int 0, .int (-9), .ref l0, .ref u0])), (m1, .inr (4, [.int 0, .int (-9), .ref l1, .ref u1])), (m2, .inr (4, [.int 0, .int (-9), .ref l2, .ref u2])), (m3, .inr (4, [.int 0, .int (-9), .ref l3, .ref u3]))] := hD
        refine lv_aload_n hx hb dX11_copy_32 rfl (lv_at hl 0 rfl) ?_
        refine va_get (ci := 11) (v := .int (-11)) (C := RX11) (T := TX11) (N := 12) hx hb hts (fun _ h => List.mem_cons_of_mem _ (List.mem_append_left _ (List.mem_append_right _ h))) hown hK.1 hP 0 rfl rfl 11 (by decide) (hts (.fieldLink RX11 91 "CutAtlas" "finding" "I") (by decide +kernel)) (fun _ h9 => h9) rfl dX11_copy_33 ?_
        refine lv_if_eq (tgt := 44) hx hb dX11_copy_36 (by decide) (fun c_5 => ?_) (fun c_5 => ?_)
        · exact absurd c_5 (by decide)
        · have _ := c_5
          refine lv_aload_n hx hb dX11_copy_39 rfl (lv_at hl 0 rfl) ?_
          refine va_get (ci := 11) (v := .int (-11)) (C := RX11) (T := TX11) (N := 12) hx hb hts (fun _ h => List.mem_cons_of_mem _ (List.mem_append_left _ (List.mem_append_right _ h))) hown hK.1 hP 0 rfl rfl 11 (by decide) (hts (.fieldLink RX11 91 "CutAtlas" "finding" "I") (by decide +kernel)) (fun _ h9 => h9) rfl dX11_copy_40 ?_
          exact W.iret (v := (-11)) hx hb hr (fun t ht hW => ⟨⟨(-11), (), rfl, Or.inr (⟨by omega, rfl⟩), trivial⟩, hS.F ht⟩) hS.2.2 dX11_copy_43
      · refine lv_aload_n hx hb dX11_copy_8 rfl (lv_at hl 0 rfl) ?_
        refine va_get (ci := 11) (v := .ref xm) (C := RX11) (T := TX11) (N := 12) hx hb hts (fun _ h => List.mem_cons_of_mem _ (List.mem_append_left _ (List.mem_append_right _ h))) hown hK.1 hP 0 rfl rfl 6 (by decide) (hts (.fieldLink RX11 72 "CutAtlas" "maps" "[LCutAtlas$NumberMap;") (by decide +kernel)) (fun _ h9 => h9) rfl dX11_copy_9 ?_
        refine lv_iload_n hx hb dX11_copy_12 rfl (lv_at hl 1 rfl) ?_
        refine va_aldq hx hb hK.1 hP 1 4 rfl rfl (i := 1) (by unfold vp_in; decide) dX11_copy_13 ?_
        refine lv_topv (v' := .ref m1) (by simp [va_up, va_rf, mf_, cl_0, cl_1, cl_2, cl_3, cl_4]) ?_
        refine lv_iload_n hx hb dX11_copy_14 rfl (lv_at hl 2 rfl) ?_
        refine lv_iload_n hx hb dX11_copy_15 rfl (lv_at hl 3 rfl) ?_
        refine lv_iload hx hb dX11_copy_16 (lv_at hl 4 rfl) ?_
        refine lv_iload hx hb dX11_copy_18 (lv_at hl 5 rfl) ?_
        refine lv_iload hx hb dX11_copy_20 (lv_at hl 6 rfl) ?_
        have hPc := hP.sub (ws' := [(m1, .inr (4, [.int 0, .int (-9), .ref l1, .ref u1]))]) [3] rfl
        have hDc := hD.sub (ws' := [(m1, .inr (4, [.int 0, .int (-9), .ref l1, .ref u1]))]) [3] (by decide) rfl
        have hDw : va_D (fun _ => True) [(m1, .inr (4, [.int 0, .int (-9), .ref l1, .ref u1]))] := hDc.weaken (fun _ _ _ _ => trivial)
        have hFc := va_free (wc := []) hD hS hA [] rfl
        refine va_calli (va_runV (As := [.int a2, .int a3, .int a4, .int a5, .int a6]) (rest := [.ref xo]) ⟨hx, hb, hml, hown, hts⟩ (c_X4_moveRefusal l D cy H.size m1 l1 u1 a2 a3 a4 a5 a6) (cwV 5 hts gX11_copy_X4_moveRefusal rfl rfl rfl (by decide +kernel) ⟨Nat.le_of_ble_eq_true rfl, Nat.le_of_ble_eq_true rfl⟩) ⟨bl_, va_recv hK.1 hPc (ci := 4) (q0 := 0) rfl rfl, fun U hU hW => ⟨rfl, by rw [hU], by rw [hU]; exact hPc, kk_mv hW hK, hDw⟩⟩ rfl rfl hl.1 rfl (lv_room (Nat.le_of_ble_eq_true rfl)) dX11_copy_22 ⟨Nat.le_of_ble_eq_true rfl, Nat.le_of_ble_eq_true rfl⟩) hS (fun q _ h => hFc q h) hFc (fun r_6 u t H locs ht hvm hw hB hz1 hk1 hS => ?_)
        have hP := ro_keep hP hk1
        have hP : va_P D vwCl [(xo, .inr (11, [.ref xk, .ref xn, .ref xc, .ref xh, .ref xt, .ref xw, .ref xm, .ref xp, .int 0, .int 0, .long 0, .int 0])), (xm, .inl (cy 4, 4, .inr (.inr (.inr (.inr (mf_ m0 m1 m2 m3)))))), (m0, .inr (4, [.int 0, .int (-9), .ref l0, .ref u0])), (m1, .inr (4, [.int 0, .int (-9), .ref l1, .ref u1])), (m2, .inr (4, [.int 0, .int (-9), .ref l2, .ref u2])), (m3, .inr (4, [.int 0, .int (-9), .ref l3, .ref u3]))] H := hP
        have e_ := hw.symm
        subst e_
        refine lv_goto (tgt := 29) hx hb dX11_copy_25 (by decide) ?_
        refine va_put (ci := 11) (v := .int (-11)) (ty := .int) (C := RX11) (T := TX11) (N := 12) hx hb hts (fun _ h => List.mem_cons_of_mem _ (List.mem_append_left _ (List.mem_append_right _ h))) tyX11 tyX11_ok nmX11 hown hK.1 hP hD hS 0 rfl rfl 11 (by decide) (hts (.fieldLink RX11 91 "CutAtlas" "finding" "I") (by decide +kernel)) (fun _ h9 => h9) rfl (by decide +kernel) rfl rfl (Nat.le_of_ble_eq_true rfl) dX11_copy_29 (fun H locs hP hD hS => ?_)
        have hP : va_P D vwCl [(xo, .inr (11, [.ref xk, .ref xn, .ref xc, .ref xh, .ref xt, .ref xw, .ref xm, .ref xp, .int 0, .int 0, .long 0, .int (-11)])), (xm, .inl (cy 4, 4, .inr (.inr (.inr (.inr (mf_ m0 m1 m2 m3)))))), (m0, .inr (4, [.int 0, .int (-9), .ref l0, .ref u0])), (m1, .inr (4, [.int 0, .int (-9), .ref l1, .ref u1])), (m2, .inr (4, [.int 0, .int (-9), .ref l2, .ref u2])), (m3, .inr (4, [.int 0, .int (-9), .ref l3, .ref u3]))] H := hP
        have hD : va_D A [(xo, .inr (11, [.ref xk, .ref xn, .ref xc, .ref xh, .ref xt, .ref xw, .ref xm, .ref xp, .int 0, .int 0, .long 0, .int (-11)])), (xm, .inl (cy 4, 4, .inr (.inr (.inr (.inr (mf_ m0 m1 m2 m3)))))), (m0, .inr (4, [.int 0, .int (-9), .ref l0, .ref u0])), (m1, .inr (4, [.int 0, .int (-9), .ref l1, .ref u1])), (m2, .inr (4, [.int 0, .int (-9), .ref l2, .ref u2])), (m3, .inr (4, [.int 0, .int (-9), .ref l3, .ref u3]))] := hD
        refine lv_aload_n hx hb dX11_copy_32 rfl (lv_at hl 0 rfl) ?_
        refine va_get (ci := 11) (v := .int (-11)) (C := RX11) (T := TX11) (N := 12) hx hb hts (fun _ h => List.mem_cons_of_mem _ (List.mem_append_left _ (List.mem_append_right _ h))) hown hK.1 hP 0 rfl rfl 11 (by decide) (hts (.fieldLink RX11 91 "CutAtlas" "finding" "I") (by decide +kernel)) (fun _ h9 => h9) rfl dX11_copy_33 ?_
        refine lv_if_eq (tgt := 44) hx hb dX11_copy_36 (by decide) (fun c_7 => ?_) (fun c_7 => ?_)
        · exact absurd c_7 (by decide)
        · have _ := c_7
          refine lv_aload_n hx hb dX11_copy_39 rfl (lv_at hl 0 rfl) ?_
          refine va_get (ci := 11) (v := .int (-11)) (C := RX11) (T := TX11) (N := 12) hx hb hts (fun _ h => List.mem_cons_of_mem _ (List.mem_append_left _ (List.mem_append_right _ h))) hown hK.1 hP 0 rfl rfl 11 (by decide) (hts (.fieldLink RX11 91 "CutAtlas" "finding" "I") (by decide +kernel)) (fun _ h9 => h9) rfl dX11_copy_40 ?_
          exact W.iret (v := (-11)) hx hb hr (fun t ht hW => ⟨⟨(-11), (), rfl, Or.inr (⟨by omega, rfl⟩), trivial⟩, hS.F ht⟩) hS.2.2 dX11_copy_43
      · refine lv_aload_n hx hb dX11_copy_8 rfl (lv_at hl 0 rfl) ?_
        refine va_get (ci := 11) (v := .ref xm) (C := RX11) (T := TX11) (N := 12) hx hb hts (fun _ h => List.mem_cons_of_mem _ (List.mem_append_left _ (List.mem_append_right _ h))) hown hK.1 hP 0 rfl rfl 6 (by decide) (hts (.fieldLink RX11 72 "CutAtlas" "maps" "[LCutAtlas$NumberMap;") (by decide +kernel)) (fun _ h9 => h9) rfl dX11_copy_9 ?_
        refine lv_iload_n hx hb dX11_copy_12 rfl (lv_at hl 1 rfl) ?_
        refine va_aldq hx hb hK.1 hP 1 4 rfl rfl (i := 2) (by unfold vp_in; decide) dX11_copy_13 ?_
        refine lv_topv (v' := .ref m2) (by simp [va_up, va_rf, mf_, cl_0, cl_1, cl_2, cl_3, cl_4]) ?_
        refine lv_iload_n hx hb dX11_copy_14 rfl (lv_at hl 2 rfl) ?_
        refine lv_iload_n hx hb dX11_copy_15 rfl (lv_at hl 3 rfl) ?_
        refine lv_iload hx hb dX11_copy_16 (lv_at hl 4 rfl) ?_
        refine lv_iload hx hb dX11_copy_18 (lv_at hl 5 rfl) ?_
        refine lv_iload hx hb dX11_copy_20 (lv_at hl 6 rfl) ?_
        have hPc := hP.sub (ws' := [(m2, .inr (4, [.int 0, .int (-9), .ref l2, .ref u2]))]) [4] rfl
        have hDc := hD.sub (ws' := [(m2, .inr (4, [.int 0, .int (-9), .ref l2, .ref u2]))]) [4] (by decide) rfl
        have hDw : va_D (fun _ => True) [(m2, .inr (4, [.int 0, .int (-9), .ref l2, .ref u2]))] := hDc.weaken (fun _ _ _ _ => trivial)
        have hFc := va_free (wc := []) hD hS hA [] rfl
        refine va_calli (va_runV (As := [.int a2, .int a3, .int a4, .int a5, .int a6]) (rest := [.ref xo]) ⟨hx, hb, hml, hown, hts⟩ (c_X4_moveRefusal l D cy H.size m2 l2 u2 a2 a3 a4 a5 a6) (cwV 5 hts gX11_copy_X4_moveRefusal rfl rfl rfl (by decide +kernel) ⟨Nat.le_of_ble_eq_true rfl, Nat.le_of_ble_eq_true rfl⟩) ⟨bl_, va_recv hK.1 hPc (ci := 4) (q0 := 0) rfl rfl, fun U hU hW => ⟨rfl, by rw [hU], by rw [hU]; exact hPc, kk_mv hW hK, hDw⟩⟩ rfl rfl hl.1 rfl (lv_room (Nat.le_of_ble_eq_true rfl)) dX11_copy_22 ⟨Nat.le_of_ble_eq_true rfl, Nat.le_of_ble_eq_true rfl⟩) hS (fun q _ h => hFc q h) hFc (fun r_8 u t H locs ht hvm hw hB hz1 hk1 hS => ?_)
        have hP := ro_keep hP hk1
        have hP : va_P D vwCl [(xo, .inr (11, [.ref xk, .ref xn, .ref xc, .ref xh, .ref xt, .ref xw, .ref xm, .ref xp, .int 0, .int 0, .long 0, .int 0])), (xm, .inl (cy 4, 4, .inr (.inr (.inr (.inr (mf_ m0 m1 m2 m3)))))), (m0, .inr (4, [.int 0, .int (-9), .ref l0, .ref u0])), (m1, .inr (4, [.int 0, .int (-9), .ref l1, .ref u1])), (m2, .inr (4, [.int 0, .int (-9), .ref l2, .ref u2])), (m3, .inr (4, [.int 0, .int (-9), .ref l3, .ref u3]))] H := hP
        have e_ := hw.symm
        subst e_
        refine lv_goto (tgt := 29) hx hb dX11_copy_25 (by decide) ?_
        refine va_put (ci := 11) (v := .int (-11)) (ty := .int) (C := RX11) (T := TX11) (N := 12) hx hb hts (fun _ h => List.mem_cons_of_mem _ (List.mem_append_left _ (List.mem_append_right _ h))) tyX11 tyX11_ok nmX11 hown hK.1 hP hD hS 0 rfl rfl 11 (by decide) (hts (.fieldLink RX11 91 "CutAtlas" "finding" "I") (by decide +kernel)) (fun _ h9 => h9) rfl (by decide +kernel) rfl rfl (Nat.le_of_ble_eq_true rfl) dX11_copy_29 (fun H locs hP hD hS => ?_)
        have hP : va_P D vwCl [(xo, .inr (11, [.ref xk, .ref xn, .ref xc, .ref xh, .ref xt, .ref xw, .ref xm, .ref xp, .int 0, .int 0, .long 0, .int (-11)])), (xm, .inl (cy 4, 4, .inr (.inr (.inr (.inr (mf_ m0 m1 m2 m3)))))), (m0, .inr (4, [.int 0, .int (-9), .ref l0, .ref u0])), (m1, .inr (4, [.int 0, .int (-9), .ref l1, .ref u1])), (m2, .inr (4, [.int 0, .int (-9), .ref l2, .ref u2])), (m3, .inr (4, [.int 0, .int (-9), .ref l3, .ref u3]))] H := hP
        have hD : va_D A [(xo, .inr (11, [.ref xk, .ref xn, .ref xc, .ref xh, .ref xt, .ref xw, .ref xm, .ref xp, .int 0, .int 0, .long 0, .int (-11)])), (xm, .inl (cy 4, 4, .inr (.inr (.inr (.inr (mf_ m0 m1 m2 m3)))))), (m0, .inr (4, [.int 0, .int (-9), .ref l0, .ref u0])), (m1, .inr (4, [.int 0, .int (-9), .ref l1, .ref u1])), (m2, .inr (4, [.int 0, .int (-9), .ref l2, .ref u2])), (m3, .inr (4, [.int 0, .int (-9), .ref l3, .ref u3]))] := hD
        refine lv_aload_n hx hb dX11_copy_32 rfl (lv_at hl 0 rfl) ?_
        refine va_get (ci := 11) (v := .int (-11)) (C := RX11) (T := TX11) (N := 12) hx hb hts (fun _ h => List.mem_cons_of_mem _ (List.mem_append_left _ (List.mem_append_right _ h))) hown hK.1 hP 0 rfl rfl 11 (by decide) (hts (.fieldLink RX11 91 "CutAtlas" "finding" "I") (by decide +kernel)) (fun _ h9 => h9) rfl dX11_copy_33 ?_
        refine lv_if_eq (tgt := 44) hx hb dX11_copy_36 (by decide) (fun c_9 => ?_) (fun c_9 => ?_)
        · exact absurd c_9 (by decide)
        · have _ := c_9
          refine lv_aload_n hx hb dX11_copy_39 rfl (lv_at hl 0 rfl) ?_
          refine va_get (ci := 11) (v := .int (-11)) (C := RX11) (T := TX11) (N := 12) hx hb hts (fun _ h => List.mem_cons_of_mem _ (List.mem_append_left _ (List.mem_append_right _ h))) hown hK.1 hP 0 rfl rfl 11 (by decide) (hts (.fieldLink RX11 91 "CutAtlas" "finding" "I") (by decide +kernel)) (fun _ h9 => h9) rfl dX11_copy_40 ?_
          exact W.iret (v := (-11)) hx hb hr (fun t ht hW => ⟨⟨(-11), (), rfl, Or.inr (⟨by omega, rfl⟩), trivial⟩, hS.F ht⟩) hS.2.2 dX11_copy_43
      · refine lv_aload_n hx hb dX11_copy_8 rfl (lv_at hl 0 rfl) ?_
        refine va_get (ci := 11) (v := .ref xm) (C := RX11) (T := TX11) (N := 12) hx hb hts (fun _ h => List.mem_cons_of_mem _ (List.mem_append_left _ (List.mem_append_right _ h))) hown hK.1 hP 0 rfl rfl 6 (by decide) (hts (.fieldLink RX11 72 "CutAtlas" "maps" "[LCutAtlas$NumberMap;") (by decide +kernel)) (fun _ h9 => h9) rfl dX11_copy_9 ?_
        refine lv_iload_n hx hb dX11_copy_12 rfl (lv_at hl 1 rfl) ?_
        refine va_aldq hx hb hK.1 hP 1 4 rfl rfl (i := 3) (by unfold vp_in; decide) dX11_copy_13 ?_
        refine lv_topv (v' := .ref m3) (by simp [va_up, va_rf, mf_, cl_0, cl_1, cl_2, cl_3, cl_4]) ?_
        refine lv_iload_n hx hb dX11_copy_14 rfl (lv_at hl 2 rfl) ?_
        refine lv_iload_n hx hb dX11_copy_15 rfl (lv_at hl 3 rfl) ?_
        refine lv_iload hx hb dX11_copy_16 (lv_at hl 4 rfl) ?_
        refine lv_iload hx hb dX11_copy_18 (lv_at hl 5 rfl) ?_
        refine lv_iload hx hb dX11_copy_20 (lv_at hl 6 rfl) ?_
        have hPc := hP.sub (ws' := [(m3, .inr (4, [.int 0, .int (-9), .ref l3, .ref u3]))]) [5] rfl
        have hDc := hD.sub (ws' := [(m3, .inr (4, [.int 0, .int (-9), .ref l3, .ref u3]))]) [5] (by decide) rfl
        have hDw : va_D (fun _ => True) [(m3, .inr (4, [.int 0, .int (-9), .ref l3, .ref u3]))] := hDc.weaken (fun _ _ _ _ => trivial)
        have hFc := va_free (wc := []) hD hS hA [] rfl
        refine va_calli (va_runV (As := [.int a2, .int a3, .int a4, .int a5, .int a6]) (rest := [.ref xo]) ⟨hx, hb, hml, hown, hts⟩ (c_X4_moveRefusal l D cy H.size m3 l3 u3 a2 a3 a4 a5 a6) (cwV 5 hts gX11_copy_X4_moveRefusal rfl rfl rfl (by decide +kernel) ⟨Nat.le_of_ble_eq_true rfl, Nat.le_of_ble_eq_true rfl⟩) ⟨bl_, va_recv hK.1 hPc (ci := 4) (q0 := 0) rfl rfl, fun U hU hW => ⟨rfl, by rw [hU], by rw [hU]; exact hPc, kk_mv hW hK, hDw⟩⟩ rfl rfl hl.1 rfl (lv_room (Nat.le_of_ble_eq_true rfl)) dX11_copy_22 ⟨Nat.le_of_ble_eq_true rfl, Nat.le_of_ble_eq_true rfl⟩) hS (fun q _ h => hFc q h) hFc (fun r_10 u t H locs ht hvm hw hB hz1 hk1 hS => ?_)
        have hP := ro_keep hP hk1
        have hP : va_P D vwCl [(xo, .inr (11, [.ref xk, .ref xn, .ref xc, .ref xh, .ref xt, .ref xw, .ref xm, .ref xp, .int 0, .int 0, .long 0, .int 0])), (xm, .inl (cy 4, 4, .inr (.inr (.inr (.inr (mf_ m0 m1 m2 m3)))))), (m0, .inr (4, [.int 0, .int (-9), .ref l0, .ref u0])), (m1, .inr (4, [.int 0, .int (-9), .ref l1, .ref u1])), (m2, .inr (4, [.int 0, .int (-9), .ref l2, .ref u2])), (m3, .inr (4, [.int 0, .int (-9), .ref l3, .ref u3]))] H := hP
        have e_ := hw.symm
        subst e_
        refine lv_goto (tgt := 29) hx hb dX11_copy_25 (by decide) ?_
        refine va_put (ci := 11) (v := .int (-11)) (ty := .int) (C := RX11) (T := TX11) (N := 12) hx hb hts (fun _ h => List.mem_cons_of_mem _ (List.mem_append_left _ (List.mem_append_right _ h))) tyX11 tyX11_ok nmX11 hown hK.1 hP hD hS 0 rfl rfl 11 (by decide) (hts (.fieldLink RX11 91 "CutAtlas" "finding" "I") (by decide +kernel)) (fun _ h9 => h9) rfl (by decide +kernel) rfl rfl (Nat.le_of_ble_eq_true rfl) dX11_copy_29 (fun H locs hP hD hS => ?_)
        have hP : va_P D vwCl [(xo, .inr (11, [.ref xk, .ref xn, .ref xc, .ref xh, .ref xt, .ref xw, .ref xm, .ref xp, .int 0, .int 0, .long 0, .int (-11)])), (xm, .inl (cy 4, 4, .inr (.inr (.inr (.inr (mf_ m0 m1 m2 m3)))))), (m0, .inr (4, [.int 0, .int (-9), .ref l0, .ref u0])), (m1, .inr (4, [.int 0, .int (-9), .ref l1, .ref u1])), (m2, .inr (4, [.int 0, .int (-9), .ref l2, .ref u2])), (m3, .inr (4, [.int 0, .int (-9), .ref l3, .ref u3]))] H := hP
        have hD : va_D A [(xo, .inr (11, [.ref xk, .ref xn, .ref xc, .ref xh, .ref xt, .ref xw, .ref xm, .ref xp, .int 0, .int 0, .long 0, .int (-11)])), (xm, .inl (cy 4, 4, .inr (.inr (.inr (.inr (mf_ m0 m1 m2 m3)))))), (m0, .inr (4, [.int 0, .int (-9), .ref l0, .ref u0])), (m1, .inr (4, [.int 0, .int (-9), .ref l1, .ref u1])), (m2, .inr (4, [.int 0, .int (-9), .ref l2, .ref u2])), (m3, .inr (4, [.int 0, .int (-9), .ref l3, .ref u3]))] := hD
        refine lv_aload_n hx hb dX11_copy_32 rfl (lv_at hl 0 rfl) ?_
        refine va_get (ci := 11) (v := .int (-11)) (C := RX11) (T := TX11) (N := 12) hx hb hts (fun _ h => List.mem_cons_of_mem _ (List.mem_append_left _ (List.mem_append_right _ h))) hown hK.1 hP 0 rfl rfl 11 (by decide) (hts (.fieldLink RX11 91 "CutAtlas" "finding" "I") (by decide +kernel)) (fun _ h9 => h9) rfl dX11_copy_33 ?_
        refine lv_if_eq (tgt := 44) hx hb dX11_copy_36 (by decide) (fun c_11 => ?_) (fun c_11 => ?_)
        · exact absurd c_11 (by decide)
        · have _ := c_11
          refine lv_aload_n hx hb dX11_copy_39 rfl (lv_at hl 0 rfl) ?_
          refine va_get (ci := 11) (v := .int (-11)) (C := RX11) (T := TX11) (N := 12) hx hb hts (fun _ h => List.mem_cons_of_mem _ (List.mem_append_left _ (List.mem_append_right _ h))) hown hK.1 hP 0 rfl rfl 11 (by decide) (hts (.fieldLink RX11 91 "CutAtlas" "finding" "I") (by decide +kernel)) (fun _ h9 => h9) rfl dX11_copy_40 ?_
          exact W.iret (v := (-11)) hx hb hr (fun t ht hW => ⟨⟨(-11), (), rfl, Or.inr (⟨by omega, rfl⟩), trivial⟩, hS.F ht⟩) hS.2.2 dX11_copy_43
  · have e_ := e_.symm
    subst e_
    refine lv_if_eq (tgt := 28) hx hb dX11_copy_5 (by decide) (fun c_12 => ?_) (fun c_12 => ?_)
    · have _ := c_12
      refine lv_iconst (v := (-1)) hx hb dX11_copy_28 (by decide) ?_
      refine va_put (ci := 11) (v := .int (-1)) (ty := .int) (C := RX11) (T := TX11) (N := 12) hx hb hts (fun _ h => List.mem_cons_of_mem _ (List.mem_append_left _ (List.mem_append_right _ h))) tyX11 tyX11_ok nmX11 hown hK.1 hP hD hS 0 rfl rfl 11 (by decide) (hts (.fieldLink RX11 91 "CutAtlas" "finding" "I") (by decide +kernel)) (fun _ h9 => h9) rfl (by decide +kernel) rfl rfl (Nat.le_of_ble_eq_true rfl) dX11_copy_29 (fun H locs hP hD hS => ?_)
      have hP : va_P D vwCl [(xo, .inr (11, [.ref xk, .ref xn, .ref xc, .ref xh, .ref xt, .ref xw, .ref xm, .ref xp, .int 0, .int 0, .long 0, .int (-1)])), (xm, .inl (cy 4, 4, .inr (.inr (.inr (.inr (mf_ m0 m1 m2 m3)))))), (m0, .inr (4, [.int 0, .int (-9), .ref l0, .ref u0])), (m1, .inr (4, [.int 0, .int (-9), .ref l1, .ref u1])), (m2, .inr (4, [.int 0, .int (-9), .ref l2, .ref u2])), (m3, .inr (4, [.int 0, .int (-9), .ref l3, .ref u3]))] H := hP
      have hD : va_D A [(xo, .inr (11, [.ref xk, .ref xn, .ref xc, .ref xh, .ref xt, .ref xw, .ref xm, .ref xp, .int 0, .int 0, .long 0, .int (-1)])), (xm, .inl (cy 4, 4, .inr (.inr (.inr (.inr (mf_ m0 m1 m2 m3)))))), (m0, .inr (4, [.int 0, .int (-9), .ref l0, .ref u0])), (m1, .inr (4, [.int 0, .int (-9), .ref l1, .ref u1])), (m2, .inr (4, [.int 0, .int (-9), .ref l2, .ref u2])), (m3, .inr (4, [.int 0, .int (-9), .ref l3, .ref u3]))] := hD
      refine lv_aload_n hx hb dX11_copy_32 rfl (lv_at hl 0 rfl) ?_
      refine va_get (ci := 11) (v := .int (-1)) (C := RX11) (T := TX11) (N := 12) hx hb hts (fun _ h => List.mem_cons_of_mem _ (List.mem_append_left _ (List.mem_append_right _ h))) hown hK.1 hP 0 rfl rfl 11 (by decide) (hts (.fieldLink RX11 91 "CutAtlas" "finding" "I") (by decide +kernel)) (fun _ h9 => h9) rfl dX11_copy_33 ?_
      refine lv_if_eq (tgt := 44) hx hb dX11_copy_36 (by decide) (fun c_13 => ?_) (fun c_13 => ?_)
      · exact absurd c_13 (by decide)
      · have _ := c_13
        refine lv_aload_n hx hb dX11_copy_39 rfl (lv_at hl 0 rfl) ?_
        refine va_get (ci := 11) (v := .int (-1)) (C := RX11) (T := TX11) (N := 12) hx hb hts (fun _ h => List.mem_cons_of_mem _ (List.mem_append_left _ (List.mem_append_right _ h))) hown hK.1 hP 0 rfl rfl 11 (by decide) (hts (.fieldLink RX11 91 "CutAtlas" "finding" "I") (by decide +kernel)) (fun _ h9 => h9) rfl dX11_copy_40 ?_
        exact W.iret (v := (-1)) hx hb hr (fun t ht hW => ⟨⟨(-1), (), rfl, Or.inl (⟨by omega, rfl⟩), trivial⟩, hS.F ht⟩) hS.2.2 dX11_copy_43
    · exact absurd c_12 (by decide)

set_option maxHeartbeats 4000000 in
set_option maxRecDepth 100000 in
theorem c_X11_read (l : Launch) (D : va_G) (cy : Nat → ClassId) (sz : Nat) (xo : Nat) (xk : Nat) (xn : Nat) (xc : Nat) (xh : Nat) (xt : Nat) (xw : Nat) (xm : Nat) (xp : Nat) (m0 : Nat) (m1 : Nat) (m2 : Nat) (m3 : Nat) (l0 : Nat) (l1 : Nat) (l2 : Nat) (l3 : Nat) (u0 : Nat) (u1 : Nat) (u2 : Nat) (u3 : Nat) (a1 : Int32) : Met l yX11_read wsX11_read ({ frames := 1, cells := 0, slots := 0, locals := 20 }) (va_Pc [.ref xo, .int a1] (fun U => U.heap.size = sz ∧ va_P D vwCl [(xo, .inr (11, [.ref xk, .ref xn, .ref xc, .ref xh, .ref xt, .ref xw, .ref xm, .ref xp, .int 0, .int 0, .long 0, .int 0])), (xm, .inl (cy 4, 4, .inr (.inr (.inr (.inr (mf_ m0 m1 m2 m3)))))), (m0, .inr (4, [.int 0, .int (-9), .ref l0, .ref u0])), (m1, .inr (4, [.int 0, .int (-9), .ref l1, .ref u1])), (m2, .inr (4, [.int 0, .int (-9), .ref l2, .ref u2])), (m3, .inr (4, [.int 0, .int (-9), .ref l3, .ref u3]))] U.heap ∧ kk_ D cy U ∧ va_D (fun _ => True) [(xo, .inr (11, [.ref xk, .ref xn, .ref xc, .ref xh, .ref xt, .ref xw, .ref xm, .ref xp, .int 0, .int 0, .long 0, .int 0])), (xm, .inl (cy 4, 4, .inr (.inr (.inr (.inr (mf_ m0 m1 m2 m3)))))), (m0, .inr (4, [.int 0, .int (-9), .ref l0, .ref u0])), (m1, .inr (4, [.int 0, .int (-9), .ref l1, .ref u1])), (m2, .inr (4, [.int 0, .int (-9), .ref l2, .ref u2])), (m3, .inr (4, [.int 0, .int (-9), .ref l3, .ref u3]))])) (va_Qi (fun (r : Int32) (_ : Unit) => ((¬ (0 ≤ a1.toInt ∧ a1.toInt < 4)) ∧ r = (-1)) ∨ ((0 ≤ a1.toInt ∧ a1.toInt < 4) ∧ r = 0)) (fun (_ : Unit) (_ : State) => True) (va_A [(xo, .inr (11, [.ref xk, .ref xn, .ref xc, .ref xh, .ref xt, .ref xw, .ref xm, .ref xp, .int 0, .int 0, .long 0, .int 0])), (xm, .inl (cy 4, 4, .inr (.inr (.inr (.inr (mf_ m0 m1 m2 m3)))))), (m0, .inr (4, [.int 0, .int (-9), .ref l0, .ref u0])), (m1, .inr (4, [.int 0, .int (-9), .ref l1, .ref u1])), (m2, .inr (4, [.int 0, .int (-9), .ref l2, .ref u2])), (m3, .inr (4, [.int 0, .int (-9), .ref l3, .ref u3]))] sz)) 0 0 (va_A [(xo, .inr (11, [.ref xk, .ref xn, .ref xc, .ref xh, .ref xt, .ref xw, .ref xm, .ref xp, .int 0, .int 0, .long 0, .int 0])), (xm, .inl (cy 4, 4, .inr (.inr (.inr (.inr (mf_ m0 m1 m2 m3)))))), (m0, .inr (4, [.int 0, .int (-9), .ref l0, .ref u0])), (m1, .inr (4, [.int 0, .int (-9), .ref l1, .ref u1])), (m2, .inr (4, [.int 0, .int (-9), .ref l2, .ref u2])), (m3, .inr (4, [.int 0, .int (-9), .ref l3, .ref u3]))] sz) := by
  refine Met.ofW (cc := cX11_read) (maxL := 5) (ret := (some .int)) (by decide) rfl ?_
  intro p e s m args below meth c s₁ B hml hv
  obtain ⟨rfl, hsz, hP, hK, hD0⟩ := hv
  have hx := B.exec
  have hb := B.bytes
  have hr := B.returns
  have hts := atoms_spec (ws := wsX11_read) B.pre
  have hown : s.vm.findClass RX11 = some m.cls := findClass_of_methodNamed B.named
  have hlocks := B.notSynchronized
  subst hsz
  have hD := hD0.self (sz := s.heap.size)
  generalize hAe : va_A [(xo, .inr (11, [.ref xk, .ref xn, .ref xc, .ref xh, .ref xt, .ref xw, .ref xm, .ref xp, .int 0, .int 0, .long 0, .int 0])), (xm, .inl (cy 4, 4, .inr (.inr (.inr (.inr (mf_ m0 m1 m2 m3)))))), (m0, .inr (4, [.int 0, .int (-9), .ref l0, .ref u0])), (m1, .inr (4, [.int 0, .int (-9), .ref l1, .ref u1])), (m2, .inr (4, [.int 0, .int (-9), .ref l2, .ref u2])), (m3, .inr (4, [.int 0, .int (-9), .ref l3, .ref u3]))] s.heap.size = A at hD ⊢
  have hA : ∀ q : Nat, s.heap.size ≤ q → A q := fun q h => by rw [← hAe]; exact Or.inr h
  have hS : va_S A s.heap s.heap [] := va_S.rf
  have hl := lv_entry ([.ref xo, .int a1]) (n := 5) (Nat.le_of_ble_eq_true rfl)
  rw [lg_entry_eq]
  generalize (lg_sl ([.ref xo, .int a1]) ++ List.replicate (5 - (lg_sl ([.ref xo, .int a1])).length) Slot.unset).toArray = ls at hl ⊢
  have hl : lv_has ls 5 [(0, .ref xo), (1, .int a1)] := hl
  refine lv_iload_n hx hb dX11_read_0 rfl (lv_at hl 1 rfl) ?_
  have hPc := hP.sub (ws' := []) [] rfl
  have hDc := hD.sub (ws' := []) [] (by decide) rfl
  have hDw : va_D (fun _ => True) [] := hDc.weaken (fun _ _ _ _ => trivial)
  have hFc := va_free (wc := []) hD hS hA [] rfl
  refine va_calli (va_runS (As := [.int a1]) (rest := []) ⟨hx, hb, hml, hown, hts⟩ (c_X11_isMapNumber l D cy s.heap.size a1) (va_cwS 1 hts gX11_read_X11_isMapNumber rfl rfl rfl (by decide +kernel) ⟨Nat.le_of_ble_eq_true rfl, Nat.le_of_ble_eq_true rfl⟩) ⟨bl_, fun U hU hW => ⟨rfl, by rw [hU], by rw [hU]; exact hPc, kk_mv hW hK, hDw⟩⟩ rfl rfl hl.1 rfl (lv_room (Nat.le_of_ble_eq_true rfl)) dX11_read_1 ⟨Nat.le_of_ble_eq_true rfl, Nat.le_of_ble_eq_true rfl⟩) hS (fun q _ h => hFc q h) hFc (fun r_1 u t H locs ht hvm hw hB hz1 hk1 hS => ?_)
  have hP := ro_keep hP hk1
  have hP : va_P D vwCl [(xo, .inr (11, [.ref xk, .ref xn, .ref xc, .ref xh, .ref xt, .ref xw, .ref xm, .ref xp, .int 0, .int 0, .long 0, .int 0])), (xm, .inl (cy 4, 4, .inr (.inr (.inr (.inr (mf_ m0 m1 m2 m3)))))), (m0, .inr (4, [.int 0, .int (-9), .ref l0, .ref u0])), (m1, .inr (4, [.int 0, .int (-9), .ref l1, .ref u1])), (m2, .inr (4, [.int 0, .int (-9), .ref l2, .ref u2])), (m3, .inr (4, [.int 0, .int (-9), .ref l3, .ref u3]))] H := hP
  rcases hw with ⟨w_2, e_⟩ | ⟨w_2, e_⟩
  · have e_ := e_.symm
    subst e_
    refine lv_if_ne (tgt := 14) hx hb dX11_read_4 (by decide) (fun c_3 => ?_) (fun c_3 => ?_)
    · have _ := c_3
      rcases sp_4 (x := a1) (by omega) with rfl | rfl | rfl | rfl
      · refine lv_aload_n hx hb dX11_read_14 rfl (lv_at hl 0 rfl) ?_
        refine va_get (ci := 11) (v := .ref xm) (C := RX11) (T := TX11) (N := 12) hx hb hts (fun _ h => List.mem_cons_of_mem _ (List.mem_append_left _ (List.mem_append_left _ (List.mem_append_right _ h)))) hown hK.1 hP 0 rfl rfl 6 (by decide) (hts (.fieldLink RX11 72 "CutAtlas" "maps" "[LCutAtlas$NumberMap;") (by decide +kernel)) (fun _ h9 => h9) rfl dX11_read_15 ?_
        refine lv_iload_n hx hb dX11_read_18 rfl (lv_at hl 1 rfl) ?_
        refine va_aldq hx hb hK.1 hP 1 4 rfl rfl (i := 0) (by unfold vp_in; decide) dX11_read_19 ?_
        refine lv_topv (v' := .ref m0) (by simp [va_up, va_rf, mf_, cl_0, cl_1, cl_2, cl_3, cl_4]) ?_
        refine lv_astore_n (lv' := [(2, .ref m0), (0, .ref xo), (1, .int 0)]) hx hb dX11_read_20 rfl hl (by decide) rfl (fun ls hl => ?_)
        refine lv_aload_n hx hb dX11_read_21 rfl (lv_at hl 1 rfl) ?_
        refine lv_aload_n hx hb dX11_read_22 rfl (lv_at hl 0 rfl) ?_
        have hPc := hP.sub (ws' := [(m0, .inr (4, [.int 0, .int (-9), .ref l0, .ref u0]))]) [2] rfl
        have hDc := hD.sub (ws' := [(m0, .inr (4, [.int 0, .int (-9), .ref l0, .ref u0]))]) [2] (by decide) rfl
        have hDw : va_D (fun _ => True) [(m0, .inr (4, [.int 0, .int (-9), .ref l0, .ref u0]))] := hDc.weaken (fun _ _ _ _ => trivial)
        have hFc := va_free (wc := []) hD hS hA [] rfl
        refine va_calli (va_runV (As := []) (rest := [.ref xo]) ⟨hx, hb, hml, hown, hts⟩ (c_X4_isThere l D cy H.size m0 l0 u0) (cwV 0 hts gX11_read_X4_isThere rfl rfl rfl (by decide +kernel) ⟨Nat.le_of_ble_eq_true rfl, Nat.le_of_ble_eq_true rfl⟩) ⟨bl_, va_recv hK.1 hPc (ci := 4) (q0 := 0) rfl rfl, fun U hU hW => ⟨rfl, by rw [hU], by rw [hU]; exact hPc, kk_mv hW hK, hDw⟩⟩ rfl rfl hl.1 rfl (lv_room (Nat.le_of_ble_eq_true rfl)) dX11_read_23 ⟨Nat.le_of_ble_eq_true rfl, Nat.le_of_ble_eq_true rfl⟩) hS (fun q _ h => hFc q h) hFc (fun r_4 u t H locs ht hvm hw hB hz1 hk1 hS => ?_)
        have hP := ro_keep hP hk1
        have hP : va_P D vwCl [(xo, .inr (11, [.ref xk, .ref xn, .ref xc, .ref xh, .ref xt, .ref xw, .ref xm, .ref xp, .int 0, .int 0, .long 0, .int 0])), (xm, .inl (cy 4, 4, .inr (.inr (.inr (.inr (mf_ m0 m1 m2 m3)))))), (m0, .inr (4, [.int 0, .int (-9), .ref l0, .ref u0])), (m1, .inr (4, [.int 0, .int (-9), .ref l1, .ref u1])), (m2, .inr (4, [.int 0, .int (-9), .ref l2, .ref u2])), (m3, .inr (4, [.int 0, .int (-9), .ref l3, .ref u3]))] H := hP
        have e_ := hw.symm
        subst e_
        refine lv_if_eq (tgt := 33) hx hb dX11_read_26 (by decide) (fun c_5 => ?_) (fun c_5 => ?_)
        · have _ := c_5
          refine lv_bipush (v := (-11)) hx hb dX11_read_33 (by decide) ?_
          refine va_put (ci := 11) (v := .int (-11)) (ty := .int) (C := RX11) (T := TX11) (N := 12) hx hb hts (fun _ h => List.mem_cons_of_mem _ (List.mem_append_left _ (List.mem_append_left _ (List.mem_append_right _ h)))) tyX11 tyX11_ok nmX11 hown hK.1 hP hD hS 0 rfl rfl 11 (by decide) (hts (.fieldLink RX11 91 "CutAtlas" "finding" "I") (by decide +kernel)) (fun _ h9 => h9) rfl (by decide +kernel) rfl rfl (Nat.le_of_ble_eq_true rfl) dX11_read_35 (fun H locs hP hD hS => ?_)
          have hP : va_P D vwCl [(xo, .inr (11, [.ref xk, .ref xn, .ref xc, .ref xh, .ref xt, .ref xw, .ref xm, .ref xp, .int 0, .int 0, .long 0, .int (-11)])), (xm, .inl (cy 4, 4, .inr (.inr (.inr (.inr (mf_ m0 m1 m2 m3)))))), (m0, .inr (4, [.int 0, .int (-9), .ref l0, .ref u0])), (m1, .inr (4, [.int 0, .int (-9), .ref l1, .ref u1])), (m2, .inr (4, [.int 0, .int (-9), .ref l2, .ref u2])), (m3, .inr (4, [.int 0, .int (-9), .ref l3, .ref u3]))] H := hP
          have hD : va_D A [(xo, .inr (11, [.ref xk, .ref xn, .ref xc, .ref xh, .ref xt, .ref xw, .ref xm, .ref xp, .int 0, .int 0, .long 0, .int (-11)])), (xm, .inl (cy 4, 4, .inr (.inr (.inr (.inr (mf_ m0 m1 m2 m3)))))), (m0, .inr (4, [.int 0, .int (-9), .ref l0, .ref u0])), (m1, .inr (4, [.int 0, .int (-9), .ref l1, .ref u1])), (m2, .inr (4, [.int 0, .int (-9), .ref l2, .ref u2])), (m3, .inr (4, [.int 0, .int (-9), .ref l3, .ref u3]))] := hD
          refine lv_iconst (v := 0) hx hb dX11_read_38 (by decide) ?_
          refine lv_istore_n (lv' := [(3, .int 0), (2, .ref m0), (0, .ref xo), (1, .int 0)]) hx hb dX11_read_39 rfl hl (by decide) rfl (fun ls hl => ?_)
          refine lv_iconst (v := 0) hx hb dX11_read_40 (by decide) ?_
          refine lv_istore (lv' := [(4, .int 0), (3, .int 0), (2, .ref m0), (0, .ref xo), (1, .int 0)]) hx hb dX11_read_41 hl (by decide) rfl (fun ls hl => ?_)
          refine lv_iload hx hb dX11_read_43 (lv_at hl 0 rfl) ?_
          refine lv_aload_n hx hb dX11_read_45 rfl (lv_at hl 2 rfl) ?_
          refine va_get (ci := 4) (v := .int (-9)) (C := RX4) (T := TX4) (N := 4) hx hb hts (fun _ h => List.mem_cons_of_mem _ (List.mem_append_left _ (List.mem_append_right _ h))) hown hK.1 hP 2 rfl rfl 1 (by decide) (hts (.fieldLink RX11 284 "CutAtlas$NumberMap" "rows" "I") (by decide +kernel)) (fun _ h9 => h9) rfl dX11_read_46 ?_
          refine lv_icmp_ge (tgt := 134) hx hb dX11_read_49 (by decide) (fun c_6 => ?_) (fun c_6 => ?_)
          · have _ := c_6
            refine lv_iload_n hx hb dX11_read_134 rfl (lv_at hl 1 rfl) ?_
            exact W.iret (v := 0) hx hb hr (fun t ht hW => ⟨⟨0, (), rfl, Or.inr (⟨by omega, rfl⟩), trivial⟩, hS.F ht⟩) hS.2.2 dX11_read_135
          · exact absurd c_6 (by decide)
        · exact absurd c_5 (by decide)
      · refine lv_aload_n hx hb dX11_read_14 rfl (lv_at hl 0 rfl) ?_
        refine va_get (ci := 11) (v := .ref xm) (C := RX11) (T := TX11) (N := 12) hx hb hts (fun _ h => List.mem_cons_of_mem _ (List.mem_append_left _ (List.mem_append_left _ (List.mem_append_right _ h)))) hown hK.1 hP 0 rfl rfl 6 (by decide) (hts (.fieldLink RX11 72 "CutAtlas" "maps" "[LCutAtlas$NumberMap;") (by decide +kernel)) (fun _ h9 => h9) rfl dX11_read_15 ?_
        refine lv_iload_n hx hb dX11_read_18 rfl (lv_at hl 1 rfl) ?_
        refine va_aldq hx hb hK.1 hP 1 4 rfl rfl (i := 1) (by unfold vp_in; decide) dX11_read_19 ?_
        refine lv_topv (v' := .ref m1) (by simp [va_up, va_rf, mf_, cl_0, cl_1, cl_2, cl_3, cl_4]) ?_
        refine lv_astore_n (lv' := [(2, .ref m1), (0, .ref xo), (1, .int 1)]) hx hb dX11_read_20 rfl hl (by decide) rfl (fun ls hl => ?_)
        refine lv_aload_n hx hb dX11_read_21 rfl (lv_at hl 1 rfl) ?_
        refine lv_aload_n hx hb dX11_read_22 rfl (lv_at hl 0 rfl) ?_
        have hPc := hP.sub (ws' := [(m1, .inr (4, [.int 0, .int (-9), .ref l1, .ref u1]))]) [3] rfl
        have hDc := hD.sub (ws' := [(m1, .inr (4, [.int 0, .int (-9), .ref l1, .ref u1]))]) [3] (by decide) rfl
        have hDw : va_D (fun _ => True) [(m1, .inr (4, [.int 0, .int (-9), .ref l1, .ref u1]))] := hDc.weaken (fun _ _ _ _ => trivial)
        have hFc := va_free (wc := []) hD hS hA [] rfl
        refine va_calli (va_runV (As := []) (rest := [.ref xo]) ⟨hx, hb, hml, hown, hts⟩ (c_X4_isThere l D cy H.size m1 l1 u1) (cwV 0 hts gX11_read_X4_isThere rfl rfl rfl (by decide +kernel) ⟨Nat.le_of_ble_eq_true rfl, Nat.le_of_ble_eq_true rfl⟩) ⟨bl_, va_recv hK.1 hPc (ci := 4) (q0 := 0) rfl rfl, fun U hU hW => ⟨rfl, by rw [hU], by rw [hU]; exact hPc, kk_mv hW hK, hDw⟩⟩ rfl rfl hl.1 rfl (lv_room (Nat.le_of_ble_eq_true rfl)) dX11_read_23 ⟨Nat.le_of_ble_eq_true rfl, Nat.le_of_ble_eq_true rfl⟩) hS (fun q _ h => hFc q h) hFc (fun r_7 u t H locs ht hvm hw hB hz1 hk1 hS => ?_)
        have hP := ro_keep hP hk1
        have hP : va_P D vwCl [(xo, .inr (11, [.ref xk, .ref xn, .ref xc, .ref xh, .ref xt, .ref xw, .ref xm, .ref xp, .int 0, .int 0, .long 0, .int 0])), (xm, .inl (cy 4, 4, .inr (.inr (.inr (.inr (mf_ m0 m1 m2 m3)))))), (m0, .inr (4, [.int 0, .int (-9), .ref l0, .ref u0])), (m1, .inr (4, [.int 0, .int (-9), .ref l1, .ref u1])), (m2, .inr (4, [.int 0, .int (-9), .ref l2, .ref u2])), (m3, .inr (4, [.int 0, .int (-9), .ref l3, .ref u3]))] H := hP
        have e_ := hw.symm
        subst e_
        refine lv_if_eq (tgt := 33) hx hb dX11_read_26 (by decide) (fun c_8 => ?_) (fun c_8 => ?_)
        · have _ := c_8
          refine lv_bipush (v := (-11)) hx hb dX11_read_33 (by decide) ?_
          refine va_put (ci := 11) (v := .int (-11)) (ty := .int) (C := RX11) (T := TX11) (N := 12) hx hb hts (fun _ h => List.mem_cons_of_mem _ (List.mem_append_left _ (List.mem_append_left _ (List.mem_append_right _ h)))) tyX11 tyX11_ok nmX11 hown hK.1 hP hD hS 0 rfl rfl 11 (by decide) (hts (.fieldLink RX11 91 "CutAtlas" "finding" "I") (by decide +kernel)) (fun _ h9 => h9) rfl (by decide +kernel) rfl rfl (Nat.le_of_ble_eq_true rfl) dX11_read_35 (fun H locs hP hD hS => ?_)
          have hP : va_P D vwCl [(xo, .inr (11, [.ref xk, .ref xn, .ref xc, .ref xh, .ref xt, .ref xw, .ref xm, .ref xp, .int 0, .int 0, .long 0, .int (-11)])), (xm, .inl (cy 4, 4, .inr (.inr (.inr (.inr (mf_ m0 m1 m2 m3)))))), (m0, .inr (4, [.int 0, .int (-9), .ref l0, .ref u0])), (m1, .inr (4, [.int 0, .int (-9), .ref l1, .ref u1])), (m2, .inr (4, [.int 0, .int (-9), .ref l2, .ref u2])), (m3, .inr (4, [.int 0, .int (-9), .ref l3, .ref u3]))] H := hP
          have hD : va_D A [(xo, .inr (11, [.ref xk, .ref xn, .ref xc, .ref xh, .ref xt, .ref xw, .ref xm, .ref xp, .int 0, .int 0, .long 0, .int (-11)])), (xm, .inl (cy 4, 4, .inr (.inr (.inr (.inr (mf_ m0 m1 m2 m3)))))), (m0, .inr (4, [.int 0, .int (-9), .ref l0, .ref u0])), (m1, .inr (4, [.int 0, .int (-9), .ref l1, .ref u1])), (m2, .inr (4, [.int 0, .int (-9), .ref l2, .ref u2])), (m3, .inr (4, [.int 0, .int (-9), .ref l3, .ref u3]))] := hD
          refine lv_iconst (v := 0) hx hb dX11_read_38 (by decide) ?_
          refine lv_istore_n (lv' := [(3, .int 0), (2, .ref m1), (0, .ref xo), (1, .int 1)]) hx hb dX11_read_39 rfl hl (by decide) rfl (fun ls hl => ?_)
          refine lv_iconst (v := 0) hx hb dX11_read_40 (by decide) ?_
          refine lv_istore (lv' := [(4, .int 0), (3, .int 0), (2, .ref m1), (0, .ref xo), (1, .int 1)]) hx hb dX11_read_41 hl (by decide) rfl (fun ls hl => ?_)
          refine lv_iload hx hb dX11_read_43 (lv_at hl 0 rfl) ?_
          refine lv_aload_n hx hb dX11_read_45 rfl (lv_at hl 2 rfl) ?_
          refine va_get (ci := 4) (v := .int (-9)) (C := RX4) (T := TX4) (N := 4) hx hb hts (fun _ h => List.mem_cons_of_mem _ (List.mem_append_left _ (List.mem_append_right _ h))) hown hK.1 hP 3 rfl rfl 1 (by decide) (hts (.fieldLink RX11 284 "CutAtlas$NumberMap" "rows" "I") (by decide +kernel)) (fun _ h9 => h9) rfl dX11_read_46 ?_
          refine lv_icmp_ge (tgt := 134) hx hb dX11_read_49 (by decide) (fun c_9 => ?_) (fun c_9 => ?_)
          · have _ := c_9
            refine lv_iload_n hx hb dX11_read_134 rfl (lv_at hl 1 rfl) ?_
            exact W.iret (v := 0) hx hb hr (fun t ht hW => ⟨⟨0, (), rfl, Or.inr (⟨by omega, rfl⟩), trivial⟩, hS.F ht⟩) hS.2.2 dX11_read_135
          · exact absurd c_9 (by decide)
        · exact absurd c_8 (by decide)
      · refine lv_aload_n hx hb dX11_read_14 rfl (lv_at hl 0 rfl) ?_
        refine va_get (ci := 11) (v := .ref xm) (C := RX11) (T := TX11) (N := 12) hx hb hts (fun _ h => List.mem_cons_of_mem _ (List.mem_append_left _ (List.mem_append_left _ (List.mem_append_right _ h)))) hown hK.1 hP 0 rfl rfl 6 (by decide) (hts (.fieldLink RX11 72 "CutAtlas" "maps" "[LCutAtlas$NumberMap;") (by decide +kernel)) (fun _ h9 => h9) rfl dX11_read_15 ?_
        refine lv_iload_n hx hb dX11_read_18 rfl (lv_at hl 1 rfl) ?_
        refine va_aldq hx hb hK.1 hP 1 4 rfl rfl (i := 2) (by unfold vp_in; decide) dX11_read_19 ?_
        refine lv_topv (v' := .ref m2) (by simp [va_up, va_rf, mf_, cl_0, cl_1, cl_2, cl_3, cl_4]) ?_
        refine lv_astore_n (lv' := [(2, .ref m2), (0, .ref xo), (1, .int 2)]) hx hb dX11_read_20 rfl hl (by decide) rfl (fun ls hl => ?_)
        refine lv_aload_n hx hb dX11_read_21 rfl (lv_at hl 1 rfl) ?_
        refine lv_aload_n hx hb dX11_read_22 rfl (lv_at hl 0 rfl) ?_
        have hPc := hP.sub (ws' := [(m2, .inr (4, [.int 0, .int (-9), .ref l2, .ref u2]))]) [4] rfl
        have hDc := hD.sub (ws' := [(m2, .inr (4, [.int 0, .int (-9), .ref l2, .ref u2]))]) [4] (by decide) rfl
        have hDw : va_D (fun _ => True) [(m2, .inr (4, [.int 0, .int (-9), .ref l2, .ref u2]))] := hDc.weaken (fun _ _ _ _ => trivial)
        have hFc := va_free (wc := []) hD hS hA [] rfl
        refine va_calli (va_runV (As := []) (rest := [.ref xo]) ⟨hx, hb, hml, hown, hts⟩ (c_X4_isThere l D cy H.size m2 l2 u2) (cwV 0 hts gX11_read_X4_isThere rfl rfl rfl (by decide +kernel) ⟨Nat.le_of_ble_eq_true rfl, Nat.le_of_ble_eq_true rfl⟩) ⟨bl_, va_recv hK.1 hPc (ci := 4) (q0 := 0) rfl rfl, fun U hU hW => ⟨rfl, by rw [hU], by rw [hU]; exact hPc, kk_mv hW hK, hDw⟩⟩ rfl rfl hl.1 rfl (lv_room (Nat.le_of_ble_eq_true rfl)) dX11_read_23 ⟨Nat.le_of_ble_eq_true rfl, Nat.le_of_ble_eq_true rfl⟩) hS (fun q _ h => hFc q h) hFc (fun r_10 u t H locs ht hvm hw hB hz1 hk1 hS => ?_)
        have hP := ro_keep hP hk1
        have hP : va_P D vwCl [(xo, .inr (11, [.ref xk, .ref xn, .ref xc, .ref xh, .ref xt, .ref xw, .ref xm, .ref xp, .int 0, .int 0, .long 0, .int 0])), (xm, .inl (cy 4, 4, .inr (.inr (.inr (.inr (mf_ m0 m1 m2 m3)))))), (m0, .inr (4, [.int 0, .int (-9), .ref l0, .ref u0])), (m1, .inr (4, [.int 0, .int (-9), .ref l1, .ref u1])), (m2, .inr (4, [.int 0, .int (-9), .ref l2, .ref u2])), (m3, .inr (4, [.int 0, .int (-9), .ref l3, .ref u3]))] H := hP
        have e_ := hw.symm
        subst e_
        refine lv_if_eq (tgt := 33) hx hb dX11_read_26 (by decide) (fun c_11 => ?_) (fun c_11 => ?_)
        · have _ := c_11
          refine lv_bipush (v := (-11)) hx hb dX11_read_33 (by decide) ?_
          refine va_put (ci := 11) (v := .int (-11)) (ty := .int) (C := RX11) (T := TX11) (N := 12) hx hb hts (fun _ h => List.mem_cons_of_mem _ (List.mem_append_left _ (List.mem_append_left _ (List.mem_append_right _ h)))) tyX11 tyX11_ok nmX11 hown hK.1 hP hD hS 0 rfl rfl 11 (by decide) (hts (.fieldLink RX11 91 "CutAtlas" "finding" "I") (by decide +kernel)) (fun _ h9 => h9) rfl (by decide +kernel) rfl rfl (Nat.le_of_ble_eq_true rfl) dX11_read_35 (fun H locs hP hD hS => ?_)
          have hP : va_P D vwCl [(xo, .inr (11, [.ref xk, .ref xn, .ref xc, .ref xh, .ref xt, .ref xw, .ref xm, .ref xp, .int 0, .int 0, .long 0, .int (-11)])), (xm, .inl (cy 4, 4, .inr (.inr (.inr (.inr (mf_ m0 m1 m2 m3)))))), (m0, .inr (4, [.int 0, .int (-9), .ref l0, .ref u0])), (m1, .inr (4, [.int 0, .int (-9), .ref l1, .ref u1])), (m2, .inr (4, [.int 0, .int (-9), .ref l2, .ref u2])), (m3, .inr (4, [.int 0, .int (-9), .ref l3, .ref u3]))] H := hP
          have hD : va_D A [(xo, .inr (11, [.ref xk, .ref xn, .ref xc, .ref xh, .ref xt, .ref xw, .ref xm, .ref xp, .int 0, .int 0, .long 0, .int (-11)])), (xm, .inl (cy 4, 4, .inr (.inr (.inr (.inr (mf_ m0 m1 m2 m3)))))), (m0, .inr (4, [.int 0, .int (-9), .ref l0, .ref u0])), (m1, .inr (4, [.int 0, .int (-9), .ref l1, .ref u1])), (m2, .inr (4, [.int 0, .int (-9), .ref l2, .ref u2])), (m3, .inr (4, [.int 0, .int (-9), .ref l3, .ref u3]))] := hD
          refine lv_iconst (v := 0) hx hb dX11_read_38 (by decide) ?_
          refine lv_istore_n (lv' := [(3, .int 0), (2, .ref m2), (0, .ref xo), (1, .int 2)]) hx hb dX11_read_39 rfl hl (by decide) rfl (fun ls hl => ?_)
          refine lv_iconst (v := 0) hx hb dX11_read_40 (by decide) ?_
          refine lv_istore (lv' := [(4, .int 0), (3, .int 0), (2, .ref m2), (0, .ref xo), (1, .int 2)]) hx hb dX11_read_41 hl (by decide) rfl (fun ls hl => ?_)
          refine lv_iload hx hb dX11_read_43 (lv_at hl 0 rfl) ?_
          refine lv_aload_n hx hb dX11_read_45 rfl (lv_at hl 2 rfl) ?_
          refine va_get (ci := 4) (v := .int (-9)) (C := RX4) (T := TX4) (N := 4) hx hb hts (fun _ h => List.mem_cons_of_mem _ (List.mem_append_left _ (List.mem_append_right _ h))) hown hK.1 hP 4 rfl rfl 1 (by decide) (hts (.fieldLink RX11 284 "CutAtlas$NumberMap" "rows" "I") (by decide +kernel)) (fun _ h9 => h9) rfl dX11_read_46 ?_
          refine lv_icmp_ge (tgt := 134) hx hb dX11_read_49 (by decide) (fun c_12 => ?_) (fun c_12 => ?_)
          · have _ := c_12
            refine lv_iload_n hx hb dX11_read_134 rfl (lv_at hl 1 rfl) ?_
            exact W.iret (v := 0) hx hb hr (fun t ht hW => ⟨⟨0, (), rfl, Or.inr (⟨by omega, rfl⟩), trivial⟩, hS.F ht⟩) hS.2.2 dX11_read_135
          · exact absurd c_12 (by decide)
        · exact absurd c_11 (by decide)
      · refine lv_aload_n hx hb dX11_read_14 rfl (lv_at hl 0 rfl) ?_
        refine va_get (ci := 11) (v := .ref xm) (C := RX11) (T := TX11) (N := 12) hx hb hts (fun _ h => List.mem_cons_of_mem _ (List.mem_append_left _ (List.mem_append_left _ (List.mem_append_right _ h)))) hown hK.1 hP 0 rfl rfl 6 (by decide) (hts (.fieldLink RX11 72 "CutAtlas" "maps" "[LCutAtlas$NumberMap;") (by decide +kernel)) (fun _ h9 => h9) rfl dX11_read_15 ?_
        refine lv_iload_n hx hb dX11_read_18 rfl (lv_at hl 1 rfl) ?_
        refine va_aldq hx hb hK.1 hP 1 4 rfl rfl (i := 3) (by unfold vp_in; decide) dX11_read_19 ?_
        refine lv_topv (v' := .ref m3) (by simp [va_up, va_rf, mf_, cl_0, cl_1, cl_2, cl_3, cl_4]) ?_
        refine lv_astore_n (lv' := [(2, .ref m3), (0, .ref xo), (1, .int 3)]) hx hb dX11_read_20 rfl hl (by decide) rfl (fun ls hl => ?_)
        refine lv_aload_n hx hb dX11_read_21 rfl (lv_at hl 1 rfl) ?_
        refine lv_aload_n hx hb dX11_read_22 rfl (lv_at hl 0 rfl) ?_
        have hPc := hP.sub (ws' := [(m3, .inr (4, [.int 0, .int (-9), .ref l3, .ref u3]))]) [5] rfl
        have hDc := hD.sub (ws' := [(m3, .inr (4, [.int 0, .int (-9), .ref l3, .ref u3]))]) [5] (by decide) rfl
        have hDw : va_D (fun _ => True) [(m3, .inr (4, [.int 0, .int (-9), .ref l3, .ref u3]))] := hDc.weaken (fun _ _ _ _ => trivial)
        have hFc := va_free (wc := []) hD hS hA [] rfl
        refine va_calli (va_runV (As := []) (rest := [.ref xo]) ⟨hx, hb, hml, hown, hts⟩ (c_X4_isThere l D cy H.size m3 l3 u3) (cwV 0 hts gX11_read_X4_isThere rfl rfl rfl (by decide +kernel) ⟨Nat.le_of_ble_eq_true rfl, Nat.le_of_ble_eq_true rfl⟩) ⟨bl_, va_recv hK.1 hPc (ci := 4) (q0 := 0) rfl rfl, fun U hU hW => ⟨rfl, by rw [hU], by rw [hU]; exact hPc, kk_mv hW hK, hDw⟩⟩ rfl rfl hl.1 rfl (lv_room (Nat.le_of_ble_eq_true rfl)) dX11_read_23 ⟨Nat.le_of_ble_eq_true rfl, Nat.le_of_ble_eq_true rfl⟩) hS (fun q _ h => hFc q h) hFc (fun r_13 u t H locs ht hvm hw hB hz1 hk1 hS => ?_)
        have hP := ro_keep hP hk1
        have hP : va_P D vwCl [(xo, .inr (11, [.ref xk, .ref xn, .ref xc, .ref xh, .ref xt, .ref xw, .ref xm, .ref xp, .int 0, .int 0, .long 0, .int 0])), (xm, .inl (cy 4, 4, .inr (.inr (.inr (.inr (mf_ m0 m1 m2 m3)))))), (m0, .inr (4, [.int 0, .int (-9), .ref l0, .ref u0])), (m1, .inr (4, [.int 0, .int (-9), .ref l1, .ref u1])), (m2, .inr (4, [.int 0, .int (-9), .ref l2, .ref u2])), (m3, .inr (4, [.int 0, .int (-9), .ref l3, .ref u3]))] H := hP
        have e_ := hw.symm
        subst e_
        refine lv_if_eq (tgt := 33) hx hb dX11_read_26 (by decide) (fun c_14 => ?_) (fun c_14 => ?_)
        · have _ := c_14
          refine lv_bipush (v := (-11)) hx hb dX11_read_33 (by decide) ?_
          refine va_put (ci := 11) (v := .int (-11)) (ty := .int) (C := RX11) (T := TX11) (N := 12) hx hb hts (fun _ h => List.mem_cons_of_mem _ (List.mem_append_left _ (List.mem_append_left _ (List.mem_append_right _ h)))) tyX11 tyX11_ok nmX11 hown hK.1 hP hD hS 0 rfl rfl 11 (by decide) (hts (.fieldLink RX11 91 "CutAtlas" "finding" "I") (by decide +kernel)) (fun _ h9 => h9) rfl (by decide +kernel) rfl rfl (Nat.le_of_ble_eq_true rfl) dX11_read_35 (fun H locs hP hD hS => ?_)
          have hP : va_P D vwCl [(xo, .inr (11, [.ref xk, .ref xn, .ref xc, .ref xh, .ref xt, .ref xw, .ref xm, .ref xp, .int 0, .int 0, .long 0, .int (-11)])), (xm, .inl (cy 4, 4, .inr (.inr (.inr (.inr (mf_ m0 m1 m2 m3)))))), (m0, .inr (4, [.int 0, .int (-9), .ref l0, .ref u0])), (m1, .inr (4, [.int 0, .int (-9), .ref l1, .ref u1])), (m2, .inr (4, [.int 0, .int (-9), .ref l2, .ref u2])), (m3, .inr (4, [.int 0, .int (-9), .ref l3, .ref u3]))] H := hP
          have hD : va_D A [(xo, .inr (11, [.ref xk, .ref xn, .ref xc, .ref xh, .ref xt, .ref xw, .ref xm, .ref xp, .int 0, .int 0, .long 0, .int (-11)])), (xm, .inl (cy 4, 4, .inr (.inr (.inr (.inr (mf_ m0 m1 m2 m3)))))), (m0, .inr (4, [.int 0, .int (-9), .ref l0, .ref u0])), (m1, .inr (4, [.int 0, .int (-9), .ref l1, .ref u1])), (m2, .inr (4, [.int 0, .int (-9), .ref l2, .ref u2])), (m3, .inr (4, [.int 0, .int (-9), .ref l3, .ref u3]))] := hD
          refine lv_iconst (v := 0) hx hb dX11_read_38 (by decide) ?_
          refine lv_istore_n (lv' := [(3, .int 0), (2, .ref m3), (0, .ref xo), (1, .int 3)]) hx hb dX11_read_39 rfl hl (by decide) rfl (fun ls hl => ?_)
          refine lv_iconst (v := 0) hx hb dX11_read_40 (by decide) ?_
          refine lv_istore (lv' := [(4, .int 0), (3, .int 0), (2, .ref m3), (0, .ref xo), (1, .int 3)]) hx hb dX11_read_41 hl (by decide) rfl (fun ls hl => ?_)
          refine lv_iload hx hb dX11_read_43 (lv_at hl 0 rfl) ?_
          refine lv_aload_n hx hb dX11_read_45 rfl (lv_at hl 2 rfl) ?_
          refine va_get (ci := 4) (v := .int (-9)) (C := RX4) (T := TX4) (N := 4) hx hb hts (fun _ h => List.mem_cons_of_mem _ (List.mem_append_left _ (List.mem_append_right _ h))) hown hK.1 hP 5 rfl rfl 1 (by decide) (hts (.fieldLink RX11 284 "CutAtlas$NumberMap" "rows" "I") (by decide +kernel)) (fun _ h9 => h9) rfl dX11_read_46 ?_
          refine lv_icmp_ge (tgt := 134) hx hb dX11_read_49 (by decide) (fun c_15 => ?_) (fun c_15 => ?_)
          · have _ := c_15
            refine lv_iload_n hx hb dX11_read_134 rfl (lv_at hl 1 rfl) ?_
            exact W.iret (v := 0) hx hb hr (fun t ht hW => ⟨⟨0, (), rfl, Or.inr (⟨by omega, rfl⟩), trivial⟩, hS.F ht⟩) hS.2.2 dX11_read_135
          · exact absurd c_15 (by decide)
        · exact absurd c_14 (by decide)
    · exact absurd c_3 (by decide)
  · have e_ := e_.symm
    subst e_
    refine lv_if_ne (tgt := 14) hx hb dX11_read_4 (by decide) (fun c_16 => ?_) (fun c_16 => ?_)
    · exact absurd c_16 (by decide)
    · have _ := c_16
      refine lv_aload_n hx hb dX11_read_7 rfl (lv_at hl 0 rfl) ?_
      refine lv_iconst (v := (-1)) hx hb dX11_read_8 (by decide) ?_
      refine va_put (ci := 11) (v := .int (-1)) (ty := .int) (C := RX11) (T := TX11) (N := 12) hx hb hts (fun _ h => List.mem_cons_of_mem _ (List.mem_append_left _ (List.mem_append_left _ (List.mem_append_right _ h)))) tyX11 tyX11_ok nmX11 hown hK.1 hP hD hS 0 rfl rfl 11 (by decide) (hts (.fieldLink RX11 91 "CutAtlas" "finding" "I") (by decide +kernel)) (fun _ h9 => h9) rfl (by decide +kernel) rfl rfl (Nat.le_of_ble_eq_true rfl) dX11_read_9 (fun H locs hP hD hS => ?_)
      have hP : va_P D vwCl [(xo, .inr (11, [.ref xk, .ref xn, .ref xc, .ref xh, .ref xt, .ref xw, .ref xm, .ref xp, .int 0, .int 0, .long 0, .int (-1)])), (xm, .inl (cy 4, 4, .inr (.inr (.inr (.inr (mf_ m0 m1 m2 m3)))))), (m0, .inr (4, [.int 0, .int (-9), .ref l0, .ref u0])), (m1, .inr (4, [.int 0, .int (-9), .ref l1, .ref u1])), (m2, .inr (4, [.int 0, .int (-9), .ref l2, .ref u2])), (m3, .inr (4, [.int 0, .int (-9), .ref l3, .ref u3]))] H := hP
      have hD : va_D A [(xo, .inr (11, [.ref xk, .ref xn, .ref xc, .ref xh, .ref xt, .ref xw, .ref xm, .ref xp, .int 0, .int 0, .long 0, .int (-1)])), (xm, .inl (cy 4, 4, .inr (.inr (.inr (.inr (mf_ m0 m1 m2 m3)))))), (m0, .inr (4, [.int 0, .int (-9), .ref l0, .ref u0])), (m1, .inr (4, [.int 0, .int (-9), .ref l1, .ref u1])), (m2, .inr (4, [.int 0, .int (-9), .ref l2, .ref u2])), (m3, .inr (4, [.int 0, .int (-9), .ref l3, .ref u3]))] := hD
      refine lv_iconst (v := (-1)) hx hb dX11_read_12 (by decide) ?_
      exact W.iret (v := (-1)) hx hb hr (fun t ht hW => ⟨⟨(-1), (), rfl, Or.inl (⟨by omega, rfl⟩), trivial⟩, hS.F ht⟩) hS.2.2 dX11_read_13
