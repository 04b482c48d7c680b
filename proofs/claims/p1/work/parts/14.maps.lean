set_option maxHeartbeats 4000000 in
set_option maxRecDepth 100000 in
theorem c_X11_isMapNumber (l : Launch) (D : va_G) (cy : Nat → ClassId) (sz : Nat) (a1 : Int32) : Met l yX11_isMapNumber wsX11_isMapNumber ({ frames := 0, cells := 0, slots := 0, locals := 0 }) (va_Pc [.int a1] (fun U => U.heap.size = sz ∧ va_P D vwCl [] U.heap ∧ kk_ D cy U ∧ va_D (fun _ => True) [])) (va_Qi (fun (r : Int32) (_ : Unit) => ((0 ≤ a1.toInt ∧ a1.toInt < 4) ∧ r = 1) ∨ ((¬ (0 ≤ a1.toInt ∧ a1.toInt < 4)) ∧ r = 0)) (fun (_ : Unit) (_ : State) => True) (va_A [] sz)) 0 0 (va_A [] sz) := by
  refine Met.ofW (cc := cX11_isMapNumber) (maxL := 1) (ret := (some .boolean)) (by decide) rfl ?_
  intro p e s m args below meth c s₁ B hml hv
  obtain ⟨rfl, hsz, hP, hK, hD0⟩ := hv
  have hx := B.exec
  have hb := B.bytes
  have hr := B.returns
  have hts := atoms_spec (ws := wsX11_isMapNumber) B.pre
  have hown : s.vm.findClass RX11 = some m.cls := findClass_of_methodNamed B.named
  have hlocks := B.notSynchronized
  subst hsz
  have hD : va_D (va_A [] s.heap.size) [] := dd_nil
  generalize hAe : va_A [] s.heap.size = A at hD ⊢
  have hA : ∀ q : Nat, s.heap.size ≤ q → A q := fun q h => by rw [← hAe]; exact Or.inr h
  have hS : va_S A s.heap s.heap [] := va_S.rf
  have hl := lv_entry ([.int a1]) (n := 1) (Nat.le_of_ble_eq_true rfl)
  rw [lg_entry_eq]
  generalize (lg_sl ([.int a1]) ++ List.replicate (1 - (lg_sl ([.int a1])).length) Slot.unset).toArray = ls at hl ⊢
  have hl : lv_has ls 1 [(0, .int a1)] := hl
  have z0 : (0 : Int32).toInt = 0 := by decide
  have z4 : (4 : Int32).toInt = 4 := by decide
  refine lv_iload_n hx hb dX11_isMapNumber_0 rfl (lv_at hl 0 rfl) ?_
  refine lv_if_lt (tgt := 13) hx hb dX11_isMapNumber_1 (by decide) (fun c_1 => ?_) (fun c_1 => ?_)
  · have t_1 : a1.toInt < (0 : Int32).toInt := Int32.lt_iff_toInt_lt.mp c_1
    refine lv_iconst (v := 0) hx hb dX11_isMapNumber_13 (by decide) ?_
    exact W.zret (ty := .boolean) (v := 0) hx hb hr (by decide) (fun t ht hW => ⟨⟨0, (), rfl, Or.inr (⟨by omega, rfl⟩), trivial⟩, hS.F ht⟩) hS.2.2 dX11_isMapNumber_14
  · have t_1 : ¬ a1.toInt < (0 : Int32).toInt := fun h => c_1 (Int32.lt_iff_toInt_lt.mpr h)
    refine lv_iload_n hx hb dX11_isMapNumber_4 rfl (lv_at hl 0 rfl) ?_
    refine lv_iconst (v := 4) hx hb dX11_isMapNumber_5 (by decide) ?_
    refine lv_icmp_ge (tgt := 13) hx hb dX11_isMapNumber_6 (by decide) (fun c_2 => ?_) (fun c_2 => ?_)
    · have t_2 : (4 : Int32).toInt ≤ a1.toInt := Int32.le_iff_toInt_le.mp c_2
      refine lv_iconst (v := 0) hx hb dX11_isMapNumber_13 (by decide) ?_
      exact W.zret (ty := .boolean) (v := 0) hx hb hr (by decide) (fun t ht hW => ⟨⟨0, (), rfl, Or.inr (⟨by omega, rfl⟩), trivial⟩, hS.F ht⟩) hS.2.2 dX11_isMapNumber_14
    · have t_2 : ¬ (4 : Int32).toInt ≤ a1.toInt := fun h => c_2 (Int32.le_iff_toInt_le.mpr h)
      refine lv_iconst (v := 1) hx hb dX11_isMapNumber_9 (by decide) ?_
      refine lv_goto (tgt := 14) hx hb dX11_isMapNumber_10 (by decide) ?_
      exact W.zret (ty := .boolean) (v := 1) hx hb hr (by decide) (fun t ht hW => ⟨⟨1, (), rfl, Or.inl (⟨by omega, rfl⟩), trivial⟩, hS.F ht⟩) hS.2.2 dX11_isMapNumber_14

set_option maxHeartbeats 4000000 in
set_option maxRecDepth 100000 in
theorem c_X11_isMapKind (l : Launch) (D : va_G) (cy : Nat → ClassId) (sz : Nat) (a1 : Int32) : Met l yX11_isMapKind wsX11_isMapKind ({ frames := 0, cells := 0, slots := 0, locals := 0 }) (va_Pc [.int a1] (fun U => U.heap.size = sz ∧ va_P D vwCl [] U.heap ∧ kk_ D cy U ∧ va_D (fun _ => True) [])) (va_Qi (fun (r : Int32) (_ : Unit) => ((0 ≤ a1.toInt ∧ a1.toInt < 3) ∧ r = 1) ∨ ((¬ (0 ≤ a1.toInt ∧ a1.toInt < 3)) ∧ r = 0)) (fun (_ : Unit) (_ : State) => True) (va_A [] sz)) 0 0 (va_A [] sz) := by
  refine Met.ofW (cc := cX11_isMapKind) (maxL := 1) (ret := (some .boolean)) (by decide) rfl ?_
  intro p e s m args below meth c s₁ B hml hv
  obtain ⟨rfl, hsz, hP, hK, hD0⟩ := hv
  have hx := B.exec
  have hb := B.bytes
  have hr := B.returns
  have hts := atoms_spec (ws := wsX11_isMapKind) B.pre
  have hown : s.vm.findClass RX11 = some m.cls := findClass_of_methodNamed B.named
  have hlocks := B.notSynchronized
  subst hsz
  have hD : va_D (va_A [] s.heap.size) [] := dd_nil
  generalize hAe : va_A [] s.heap.size = A at hD ⊢
  have hA : ∀ q : Nat, s.heap.size ≤ q → A q := fun q h => by rw [← hAe]; exact Or.inr h
  have hS : va_S A s.heap s.heap [] := va_S.rf
  have hl := lv_entry ([.int a1]) (n := 1) (Nat.le_of_ble_eq_true rfl)
  rw [lg_entry_eq]
  generalize (lg_sl ([.int a1]) ++ List.replicate (1 - (lg_sl ([.int a1])).length) Slot.unset).toArray = ls at hl ⊢
  have hl : lv_has ls 1 [(0, .int a1)] := hl
  have z0 : (0 : Int32).toInt = 0 := by decide
  have z3 : (3 : Int32).toInt = 3 := by decide
  refine lv_iload_n hx hb dX11_isMapKind_0 rfl (lv_at hl 0 rfl) ?_
  refine lv_if_lt (tgt := 13) hx hb dX11_isMapKind_1 (by decide) (fun c_1 => ?_) (fun c_1 => ?_)
  · have t_1 : a1.toInt < (0 : Int32).toInt := Int32.lt_iff_toInt_lt.mp c_1
    refine lv_iconst (v := 0) hx hb dX11_isMapKind_13 (by decide) ?_
    exact W.zret (ty := .boolean) (v := 0) hx hb hr (by decide) (fun t ht hW => ⟨⟨0, (), rfl, Or.inr (⟨by omega, rfl⟩), trivial⟩, hS.F ht⟩) hS.2.2 dX11_isMapKind_14
  · have t_1 : ¬ a1.toInt < (0 : Int32).toInt := fun h => c_1 (Int32.lt_iff_toInt_lt.mpr h)
    refine lv_iload_n hx hb dX11_isMapKind_4 rfl (lv_at hl 0 rfl) ?_
    refine lv_iconst (v := 3) hx hb dX11_isMapKind_5 (by decide) ?_
    refine lv_icmp_ge (tgt := 13) hx hb dX11_isMapKind_6 (by decide) (fun c_2 => ?_) (fun c_2 => ?_)
    · have t_2 : (3 : Int32).toInt ≤ a1.toInt := Int32.le_iff_toInt_le.mp c_2
      refine lv_iconst (v := 0) hx hb dX11_isMapKind_13 (by decide) ?_
      exact W.zret (ty := .boolean) (v := 0) hx hb hr (by decide) (fun t ht hW => ⟨⟨0, (), rfl, Or.inr (⟨by omega, rfl⟩), trivial⟩, hS.F ht⟩) hS.2.2 dX11_isMapKind_14
    · have t_2 : ¬ (3 : Int32).toInt ≤ a1.toInt := fun h => c_2 (Int32.le_iff_toInt_le.mpr h)
      refine lv_iconst (v := 1) hx hb dX11_isMapKind_9 (by decide) ?_
      refine lv_goto (tgt := 14) hx hb dX11_isMapKind_10 (by decide) ?_
      exact W.zret (ty := .boolean) (v := 1) hx hb hr (by decide) (fun t ht hW => ⟨⟨1, (), rfl, Or.inl (⟨by omega, rfl⟩), trivial⟩, hS.F ht⟩) hS.2.2 dX11_isMapKind_14

set_option maxHeartbeats 4000000 in
set_option maxRecDepth 100000 in
theorem c_X11_mapRefusal (l : Launch) (D : va_G) (cy : Nat → ClassId) (sz : Nat) (a1 : Int32) (a2 : Int32) (a3 : Int32) : Met l yX11_mapRefusal wsX11_mapRefusal ({ frames := 1, cells := 0, slots := 0, locals := 20 }) (va_Pc [.int a1, .int a2, .int a3] (fun U => U.heap.size = sz ∧ va_P D vwCl [] U.heap ∧ kk_ D cy U ∧ va_D (fun _ => True) [])) (va_Qi (fun (r : Int32) (_ : Unit) => ((¬ ((0 ≤ a1.toInt ∧ a1.toInt < 4) ∧ (0 ≤ a2.toInt ∧ a2.toInt < 3) ∧ a3.toInt ≤ 6)) ∧ r = (-1)) ∨ ((((0 ≤ a1.toInt ∧ a1.toInt < 4) ∧ (0 ≤ a2.toInt ∧ a2.toInt < 3) ∧ a3.toInt ≤ 6) ∧ a3.toInt < 0) ∧ r = (-15)) ∨ ((((0 ≤ a1.toInt ∧ a1.toInt < 4) ∧ (0 ≤ a2.toInt ∧ a2.toInt < 3) ∧ a3.toInt ≤ 6) ∧ 0 ≤ a3.toInt) ∧ r = 0)) (fun (_ : Unit) (_ : State) => True) (va_A [] sz)) 0 0 (va_A [] sz) := by
  refine Met.ofW (cc := cX11_mapRefusal) (maxL := 3) (ret := (some .int)) (by decide) rfl ?_
  intro p e s m args below meth c s₁ B hml hv
  obtain ⟨rfl, hsz, hP, hK, hD0⟩ := hv
  have hx := B.exec
  have hb := B.bytes
  have hr := B.returns
  have hts := atoms_spec (ws := wsX11_mapRefusal) B.pre
  have hown : s.vm.findClass RX11 = some m.cls := findClass_of_methodNamed B.named
  have hlocks := B.notSynchronized
  subst hsz
  have hD : va_D (va_A [] s.heap.size) [] := dd_nil
  generalize hAe : va_A [] s.heap.size = A at hD ⊢
  have hA : ∀ q : Nat, s.heap.size ≤ q → A q := fun q h => by rw [← hAe]; exact Or.inr h
  have hS : va_S A s.heap s.heap [] := va_S.rf
  have hl := lv_entry ([.int a1, .int a2, .int a3]) (n := 3) (Nat.le_of_ble_eq_true rfl)
  rw [lg_entry_eq]
  generalize (lg_sl ([.int a1, .int a2, .int a3]) ++ List.replicate (3 - (lg_sl ([.int a1, .int a2, .int a3])).length) Slot.unset).toArray = ls at hl ⊢
  have hl : lv_has ls 3 [(0, .int a1), (1, .int a2), (2, .int a3)] := hl
  have z0 : (0 : Int32).toInt = 0 := by decide
  have z6 : (6 : Int32).toInt = 6 := by decide
  refine lv_iload_n hx hb dX11_mapRefusal_0 rfl (lv_at hl 0 rfl) ?_
  have hPc := hP.sub (ws' := []) [] rfl
  have hDw : va_D (fun _ => True) [] := hD0.sub [] (by decide) rfl
  have hFc := va_free (wc := []) hD hS hA [] rfl
  refine va_calli (va_runS (As := [.int a1]) (rest := []) ⟨hx, hb, hml, hown, hts⟩ (c_X11_isMapNumber l D cy s.heap.size a1) (va_cwS 1 hts gX11_mapRefusal_X11_isMapNumber rfl rfl rfl (by decide +kernel) ⟨Nat.le_of_ble_eq_true rfl, Nat.le_of_ble_eq_true rfl⟩) ⟨bl_, fun U hU hW => ⟨rfl, by rw [hU], by rw [hU]; exact hPc, kk_mv hW hK, hDw⟩⟩ rfl rfl hl.1 rfl (lv_room (Nat.le_of_ble_eq_true rfl)) dX11_mapRefusal_1 ⟨Nat.le_of_ble_eq_true rfl, Nat.le_of_ble_eq_true rfl⟩) hS (fun q _ h => hFc q h) hFc (fun r_1 u t H locs ht hvm hw hB hz1 hk1 hS => ?_)
  have hP := ro_keep hP hk1
  have hP : va_P D vwCl [] H := hP
  rcases hw with ⟨w_2, e_⟩ | ⟨w_2, e_⟩
  · have e_ := e_.symm
    subst e_
    refine lv_if_eq (tgt := 20) hx hb dX11_mapRefusal_4 (by decide) (fun c_3 => ?_) (fun c_3 => ?_)
    · exact absurd c_3 (by decide)
    · have _ := c_3
      refine lv_iload_n hx hb dX11_mapRefusal_7 rfl (lv_at hl 1 rfl) ?_
      have hPc := hP.sub (ws' := []) [] rfl
      have hDw : va_D (fun _ => True) [] := hD0.sub [] (by decide) rfl
      have hFc := va_free (wc := []) hD hS hA [] rfl
      refine va_calli (va_runS (As := [.int a2]) (rest := []) ⟨hx, hb, hml, hown, hts⟩ (c_X11_isMapKind l D cy H.size a2) (va_cwS 1 hts gX11_mapRefusal_X11_isMapKind rfl rfl rfl (by decide +kernel) ⟨Nat.le_of_ble_eq_true rfl, Nat.le_of_ble_eq_true rfl⟩) ⟨bl_, fun U hU hW => ⟨rfl, by rw [hU], by rw [hU]; exact hPc, kk_mv hW hK, hDw⟩⟩ rfl rfl hl.1 rfl (lv_room (Nat.le_of_ble_eq_true rfl)) dX11_mapRefusal_8 ⟨Nat.le_of_ble_eq_true rfl, Nat.le_of_ble_eq_true rfl⟩) hS (fun q _ h => hFc q h) hFc (fun r_4 u t H locs ht hvm hw hB hz1 hk1 hS => ?_)
      have hP := ro_keep hP hk1
      have hP : va_P D vwCl [] H := hP
      rcases hw with ⟨w_5, e_⟩ | ⟨w_5, e_⟩
      · have e_ := e_.symm
        subst e_
        refine lv_if_eq (tgt := 20) hx hb dX11_mapRefusal_11 (by decide) (fun c_6 => ?_) (fun c_6 => ?_)
        · exact absurd c_6 (by decide)
        · have _ := c_6
          refine lv_iload_n hx hb dX11_mapRefusal_14 rfl (lv_at hl 2 rfl) ?_
          refine lv_bipush (v := 6) hx hb dX11_mapRefusal_15 (by decide) ?_
          refine lv_icmp_le (tgt := 22) hx hb dX11_mapRefusal_17 (by decide) (fun c_7 => ?_) (fun c_7 => ?_)
          · have t_7 : a3.toInt ≤ (6 : Int32).toInt := Int32.le_iff_toInt_le.mp c_7
            refine lv_iload_n hx hb dX11_mapRefusal_22 rfl (lv_at hl 2 rfl) ?_
            refine lv_if_ge (tgt := 31) hx hb dX11_mapRefusal_23 (by decide) (fun c_8 => ?_) (fun c_8 => ?_)
            · have t_8 : (0 : Int32).toInt ≤ a3.toInt := Int32.le_iff_toInt_le.mp c_8
              refine lv_iconst (v := 0) hx hb dX11_mapRefusal_31 (by decide) ?_
              exact W.iret (v := 0) hx hb hr (fun t ht hW => ⟨⟨0, (), rfl, Or.inr (Or.inr (⟨by omega, rfl⟩)), trivial⟩, hS.F ht⟩) hS.2.2 dX11_mapRefusal_32
            · have t_8 : ¬ (0 : Int32).toInt ≤ a3.toInt := fun h => c_8 (Int32.le_iff_toInt_le.mpr h)
              refine lv_bipush (v := (-15)) hx hb dX11_mapRefusal_26 (by decide) ?_
              refine lv_goto (tgt := 32) hx hb dX11_mapRefusal_28 (by decide) ?_
              exact W.iret (v := (-15)) hx hb hr (fun t ht hW => ⟨⟨(-15), (), rfl, Or.inr (Or.inl (⟨by omega, rfl⟩)), trivial⟩, hS.F ht⟩) hS.2.2 dX11_mapRefusal_32
          · have t_7 : ¬ a3.toInt ≤ (6 : Int32).toInt := fun h => c_7 (Int32.le_iff_toInt_le.mpr h)
            refine lv_iconst (v := (-1)) hx hb dX11_mapRefusal_20 (by decide) ?_
            exact W.iret (v := (-1)) hx hb hr (fun t ht hW => ⟨⟨(-1), (), rfl, Or.inl (⟨by omega, rfl⟩), trivial⟩, hS.F ht⟩) hS.2.2 dX11_mapRefusal_21
      · have e_ := e_.symm
        subst e_
        refine lv_if_eq (tgt := 20) hx hb dX11_mapRefusal_11 (by decide) (fun c_9 => ?_) (fun c_9 => ?_)
        · have _ := c_9
          refine lv_iconst (v := (-1)) hx hb dX11_mapRefusal_20 (by decide) ?_
          exact W.iret (v := (-1)) hx hb hr (fun t ht hW => ⟨⟨(-1), (), rfl, Or.inl (⟨by omega, rfl⟩), trivial⟩, hS.F ht⟩) hS.2.2 dX11_mapRefusal_21
        · exact absurd c_9 (by decide)
  · have e_ := e_.symm
    subst e_
    refine lv_if_eq (tgt := 20) hx hb dX11_mapRefusal_4 (by decide) (fun c_10 => ?_) (fun c_10 => ?_)
    · have _ := c_10
      refine lv_iconst (v := (-1)) hx hb dX11_mapRefusal_20 (by decide) ?_
      exact W.iret (v := (-1)) hx hb hr (fun t ht hW => ⟨⟨(-1), (), rfl, Or.inl (⟨by omega, rfl⟩), trivial⟩, hS.F ht⟩) hS.2.2 dX11_mapRefusal_21
    · exact absurd c_10 (by decide)

set_option maxHeartbeats 4000000 in
set_option maxRecDepth 100000 in
theorem c_X4_isThere (l : Launch) (D : va_G) (cy : Nat → ClassId) (sz : Nat) (m0 : Nat) (l0 : Nat) (u0 : Nat) : Met l yX4_isThere wsX4_isThere ({ frames := 0, cells := 0, slots := 0, locals := 0 }) (va_Pc [.ref m0] (fun U => U.heap.size = sz ∧ va_P D vwCl [(m0, .inr (4, [.int 0, .int (-9), .ref l0, .ref u0]))] U.heap ∧ kk_ D cy U ∧ va_D (fun _ => True) [(m0, .inr (4, [.int 0, .int (-9), .ref l0, .ref u0]))])) (va_Qi (fun (r : Int32) (_ : Unit) => r = 0) (fun (_ : Unit) (_ : State) => True) (va_A [] sz)) 0 0 (va_A [] sz) := by
  refine Met.ofW (cc := cX4_isThere) (maxL := 1) (ret := (some .boolean)) (by decide) rfl ?_
  intro p e s m args below meth c s₁ B hml hv
  obtain ⟨rfl, hsz, hP, hK, hD0⟩ := hv
  have hx := B.exec
  have hb := B.bytes
  have hr := B.returns
  have hts := atoms_spec (ws := wsX4_isThere) B.pre
  have hown : s.vm.findClass RX4 = some m.cls := findClass_of_methodNamed B.named
  have hlocks := B.notSynchronized
  subst hsz
  have hD : va_D (va_A [] s.heap.size) [] := dd_nil
  generalize hAe : va_A [] s.heap.size = A at hD ⊢
  have hA : ∀ q : Nat, s.heap.size ≤ q → A q := fun q h => by rw [← hAe]; exact Or.inr h
  have hS : va_S A s.heap s.heap [] := va_S.rf
  have hl := lv_entry ([.ref m0]) (n := 1) (Nat.le_of_ble_eq_true rfl)
  rw [lg_entry_eq]
  generalize (lg_sl ([.ref m0]) ++ List.replicate (1 - (lg_sl ([.ref m0])).length) Slot.unset).toArray = ls at hl ⊢
  have hl : lv_has ls 1 [(0, .ref m0)] := hl
  refine lv_aload_n hx hb dX4_isThere_0 rfl (lv_at hl 0 rfl) ?_
  refine va_get (ci := 4) (v := .int (-9)) (C := RX4) (T := TX4) (N := 4) hx hb hts (fun _ h => List.mem_cons_of_mem _ (List.mem_append_right _ h)) hown hK.1 hP 0 rfl rfl 1 (by decide) (hts (.fieldLink RX4 15 "CutAtlas$NumberMap" "rows" "I") (by decide +kernel)) (fun _ h9 => h9) rfl dX4_isThere_1 ?_
  refine lv_bipush (v := (-9)) hx hb dX4_isThere_4 (by decide) ?_
  refine lv_icmp_eq (tgt := 13) hx hb dX4_isThere_6 (by decide) (fun c_1 => ?_) (fun c_1 => ?_)
  · have _ := c_1
    refine lv_iconst (v := 0) hx hb dX4_isThere_13 (by decide) ?_
    exact W.zret (ty := .boolean) (v := 0) hx hb hr (by decide) (fun t ht hW => ⟨⟨0, (), rfl, rfl, trivial⟩, hS.F ht⟩) hS.2.2 dX4_isThere_14
  · exact absurd c_1 (by decide)

set_option maxHeartbeats 4000000 in
set_option maxRecDepth 100000 in
theorem c_X11_rowRefusal (l : Launch) (D : va_G) (cy : Nat → ClassId) (sz : Nat) (xo : Nat) (xk : Nat) (xn : Nat) (xc : Nat) (xh : Nat) (xt : Nat) (xw : Nat) (xm : Nat) (xp : Nat) (m0 : Nat) (m1 : Nat) (m2 : Nat) (m3 : Nat) (l0 : Nat) (l1 : Nat) (l2 : Nat) (l3 : Nat) (u0 : Nat) (u1 : Nat) (u2 : Nat) (u3 : Nat) (a1 : Int32) (a2 : Int32) (a3 : Int32) : Met l yX11_rowRefusal wsX11_rowRefusal ({ frames := 1, cells := 0, slots := 0, locals := 20 }) (va_Pc [.ref xo, .int a1, .int a2, .int a3] (fun U => U.heap.size = sz ∧ va_P D vwCl [(xo, .inr (11, [.ref xk, .ref xn, .ref xc, .ref xh, .ref xt, .ref xw, .ref xm, .ref xp, .int 0, .int 0, .long 0, .int 0])), (xm, .inl (cy 4, 4, .inr (.inr (.inr (.inr (mf_ m0 m1 m2 m3)))))), (m0, .inr (4, [.int 0, .int (-9), .ref l0, .ref u0])), (m1, .inr (4, [.int 0, .int (-9), .ref l1, .ref u1])), (m2, .inr (4, [.int 0, .int (-9), .ref l2, .ref u2])), (m3, .inr (4, [.int 0, .int (-9), .ref l3, .ref u3]))] U.heap ∧ kk_ D cy U ∧ va_D (fun _ => True) [(xo, .inr (11, [.ref xk, .ref xn, .ref xc, .ref xh, .ref xt, .ref xw, .ref xm, .ref xp, .int 0, .int 0, .long 0, .int 0])), (xm, .inl (cy 4, 4, .inr (.inr (.inr (.inr (mf_ m0 m1 m2 m3)))))), (m0, .inr (4, [.int 0, .int (-9), .ref l0, .ref u0])), (m1, .inr (4, [.int 0, .int (-9), .ref l1, .ref u1])), (m2, .inr (4, [.int 0, .int (-9), .ref l2, .ref u2])), (m3, .inr (4, [.int 0, .int (-9), .ref l3, .ref u3]))])) (va_Qi (fun (r : Int32) (_ : Unit) => ((¬ ((0 ≤ a1.toInt ∧ a1.toInt < 4) ∧ a3.toInt ≤ 5)) ∧ r = (-1)) ∨ (((0 ≤ a1.toInt ∧ a1.toInt < 4) ∧ a3.toInt ≤ 5) ∧ r = (-11))) (fun (_ : Unit) (_ : State) => True) (va_A [] sz)) 0 0 (va_A [] sz) := by
  refine Met.ofW (cc := cX11_rowRefusal) (maxL := 4) (ret := (some .int)) (by decide) rfl ?_
  intro p e s m args below meth c s₁ B hml hv
  obtain ⟨rfl, hsz, hP, hK, hD0⟩ := hv
  have hx := B.exec
  have hb := B.bytes
  have hr := B.returns
  have hts := atoms_spec (ws := wsX11_rowRefusal) B.pre
  have hown : s.vm.findClass RX11 = some m.cls := findClass_of_methodNamed B.named
  have hlocks := B.notSynchronized
  subst hsz
  have hD : va_D (va_A [] s.heap.size) [] := dd_nil
  generalize hAe : va_A [] s.heap.size = A at hD ⊢
  have hA : ∀ q : Nat, s.heap.size ≤ q → A q := fun q h => by rw [← hAe]; exact Or.inr h
  have hS : va_S A s.heap s.heap [] := va_S.rf
  have hl := lv_entry ([.ref xo, .int a1, .int a2, .int a3]) (n := 4) (Nat.le_of_ble_eq_true rfl)
  rw [lg_entry_eq]
  generalize (lg_sl ([.ref xo, .int a1, .int a2, .int a3]) ++ List.replicate (4 - (lg_sl ([.ref xo, .int a1, .int a2, .int a3])).length) Slot.unset).toArray = ls at hl ⊢
  have hl : lv_has ls 4 [(0, .ref xo), (1, .int a1), (2, .int a2), (3, .int a3)] := hl
  have z5 : (5 : Int32).toInt = 5 := by decide
  refine lv_iload_n hx hb dX11_rowRefusal_0 rfl (lv_at hl 1 rfl) ?_
  have hPc := hP.sub (ws' := []) [] rfl
  have hDw : va_D (fun _ => True) [] := hD0.sub [] (by decide) rfl
  have hFc := va_free (wc := []) hD hS hA [] rfl
  refine va_calli (va_runS (As := [.int a1]) (rest := []) ⟨hx, hb, hml, hown, hts⟩ (c_X11_isMapNumber l D cy s.heap.size a1) (va_cwS 1 hts gX11_rowRefusal_X11_isMapNumber rfl rfl rfl (by decide +kernel) ⟨Nat.le_of_ble_eq_true rfl, Nat.le_of_ble_eq_true rfl⟩) ⟨bl_, fun U hU hW => ⟨rfl, by rw [hU], by rw [hU]; exact hPc, kk_mv hW hK, hDw⟩⟩ rfl rfl hl.1 rfl (lv_room (Nat.le_of_ble_eq_true rfl)) dX11_rowRefusal_1 ⟨Nat.le_of_ble_eq_true rfl, Nat.le_of_ble_eq_true rfl⟩) hS (fun q _ h => hFc q h) hFc (fun r_1 u t H locs ht hvm hw hB hz1 hk1 hS => ?_)
  have hP := ro_keep hP hk1
  have hP : va_P D vwCl [(xo, .inr (11, [.ref xk, .ref xn, .ref xc, .ref xh, .ref xt, .ref xw, .ref xm, .ref xp, .int 0, .int 0, .long 0, .int 0])), (xm, .inl (cy 4, 4, .inr (.inr (.inr (.inr (mf_ m0 m1 m2 m3)))))), (m0, .inr (4, [.int 0, .int (-9), .ref l0, .ref u0])), (m1, .inr (4, [.int 0, .int (-9), .ref l1, .ref u1])), (m2, .inr (4, [.int 0, .int (-9), .ref l2, .ref u2])), (m3, .inr (4, [.int 0, .int (-9), .ref l3, .ref u3]))] H := hP
  rcases hw with ⟨w_2, e_⟩ | ⟨w_2, e_⟩
  · have e_ := e_.symm
    subst e_
    refine lv_if_eq (tgt := 12) hx hb dX11_rowRefusal_4 (by decide) (fun c_3 => ?_) (fun c_3 => ?_)
    · exact absurd c_3 (by decide)
    · have _ := c_3
      refine lv_iload_n hx hb dX11_rowRefusal_7 rfl (lv_at hl 3 rfl) ?_
      refine lv_iconst (v := 5) hx hb dX11_rowRefusal_8 (by decide) ?_
      refine lv_icmp_le (tgt := 14) hx hb dX11_rowRefusal_9 (by decide) (fun c_4 => ?_) (fun c_4 => ?_)
      · have t_4 : a3.toInt ≤ (5 : Int32).toInt := Int32.le_iff_toInt_le.mp c_4
        rcases sp_4 (x := a1) (by omega) with rfl | rfl | rfl | rfl
        · refine lv_aload_n hx hb dX11_rowRefusal_14 rfl (lv_at hl 0 rfl) ?_
          refine va_get (ci := 11) (v := .ref xm) (C := RX11) (T := TX11) (N := 12) hx hb hts (fun _ h => List.mem_cons_of_mem _ (List.mem_append_left _ (List.mem_append_right _ h))) hown hK.1 hP 0 rfl rfl 6 (by decide) (hts (.fieldLink RX11 72 "CutAtlas" "maps" "[LCutAtlas$NumberMap;") (by decide +kernel)) (fun _ h9 => h9) rfl dX11_rowRefusal_15 ?_
          refine lv_iload_n hx hb dX11_rowRefusal_18 rfl (lv_at hl 1 rfl) ?_
          refine va_aldq hx hb hK.1 hP 1 4 rfl rfl (i := 0) (by unfold vp_in; decide) dX11_rowRefusal_19 ?_
          refine lv_topv (v' := .ref m0) (by simp [va_up, va_rf, mf_, cl_0, cl_1, cl_2, cl_3, cl_4]) ?_
          have hPc := hP.sub (ws' := [(m0, .inr (4, [.int 0, .int (-9), .ref l0, .ref u0]))]) [2] rfl
          have hDw : va_D (fun _ => True) [(m0, .inr (4, [.int 0, .int (-9), .ref l0, .ref u0]))] := hD0.sub [2] (by decide) rfl
          have hFc := va_free (wc := []) hD hS hA [] rfl
          refine va_calli (va_runV (As := []) (rest := []) ⟨hx, hb, hml, hown, hts⟩ (c_X4_isThere l D cy H.size m0 l0 u0) (cwV 0 hts gX11_rowRefusal_X4_isThere rfl rfl rfl (by decide +kernel) ⟨Nat.le_of_ble_eq_true rfl, Nat.le_of_ble_eq_true rfl⟩) ⟨bl_, va_recv hK.1 hPc (ci := 4) (q0 := 0) rfl rfl, fun U hU hW => ⟨rfl, by rw [hU], by rw [hU]; exact hPc, kk_mv hW hK, hDw⟩⟩ rfl rfl hl.1 rfl (lv_room (Nat.le_of_ble_eq_true rfl)) dX11_rowRefusal_20 ⟨Nat.le_of_ble_eq_true rfl, Nat.le_of_ble_eq_true rfl⟩) hS (fun q _ h => hFc q h) hFc (fun r_5 u t H locs ht hvm hw hB hz1 hk1 hS => ?_)
          have hP := ro_keep hP hk1
          have hP : va_P D vwCl [(xo, .inr (11, [.ref xk, .ref xn, .ref xc, .ref xh, .ref xt, .ref xw, .ref xm, .ref xp, .int 0, .int 0, .long 0, .int 0])), (xm, .inl (cy 4, 4, .inr (.inr (.inr (.inr (mf_ m0 m1 m2 m3)))))), (m0, .inr (4, [.int 0, .int (-9), .ref l0, .ref u0])), (m1, .inr (4, [.int 0, .int (-9), .ref l1, .ref u1])), (m2, .inr (4, [.int 0, .int (-9), .ref l2, .ref u2])), (m3, .inr (4, [.int 0, .int (-9), .ref l3, .ref u3]))] H := hP
          have e_ := hw.symm
          subst e_
          refine lv_if_ne (tgt := 29) hx hb dX11_rowRefusal_23 (by decide) (fun c_6 => ?_) (fun c_6 => ?_)
          · exact absurd c_6 (by decide)
          · have _ := c_6
            refine lv_bipush (v := (-11)) hx hb dX11_rowRefusal_26 (by decide) ?_
            exact W.iret (v := (-11)) hx hb hr (fun t ht hW => ⟨⟨(-11), (), rfl, Or.inr (⟨by omega, rfl⟩), trivial⟩, hS.F ht⟩) hS.2.2 dX11_rowRefusal_28
        · refine lv_aload_n hx hb dX11_rowRefusal_14 rfl (lv_at hl 0 rfl) ?_
          refine va_get (ci := 11) (v := .ref xm) (C := RX11) (T := TX11) (N := 12) hx hb hts (fun _ h => List.mem_cons_of_mem _ (List.mem_append_left _ (List.mem_append_right _ h))) hown hK.1 hP 0 rfl rfl 6 (by decide) (hts (.fieldLink RX11 72 "CutAtlas" "maps" "[LCutAtlas$NumberMap;") (by decide +kernel)) (fun _ h9 => h9) rfl dX11_rowRefusal_15 ?_
          refine lv_iload_n hx hb dX11_rowRefusal_18 rfl (lv_at hl 1 rfl) ?_
          refine va_aldq hx hb hK.1 hP 1 4 rfl rfl (i := 1) (by unfold vp_in; decide) dX11_rowRefusal_19 ?_
          refine lv_topv (v' := .ref m1) (by simp [va_up, va_rf, mf_, cl_0, cl_1, cl_2, cl_3, cl_4]) ?_
          have hPc := hP.sub (ws' := [(m1, .inr (4, [.int 0, .int (-9), .ref l1, .ref u1]))]) [3] rfl
          have hDw : va_D (fun _ => True) [(m1, .inr (4, [.int 0, .int (-9), .ref l1, .ref u1]))] := hD0.sub [3] (by decide) rfl
          have hFc := va_free (wc := []) hD hS hA [] rfl
          refine va_calli (va_runV (As := []) (rest := []) ⟨hx, hb, hml, hown, hts⟩ (c_X4_isThere l D cy H.size m1 l1 u1) (cwV 0 hts gX11_rowRefusal_X4_isThere rfl rfl rfl (by decide +kernel) ⟨Nat.le_of_ble_eq_true rfl, Nat.le_of_ble_eq_true rfl⟩) ⟨bl_, va_recv hK.1 hPc (ci := 4) (q0 := 0) rfl rfl, fun U hU hW => ⟨rfl, by rw [hU], by rw [hU]; exact hPc, kk_mv hW hK, hDw⟩⟩ rfl rfl hl.1 rfl (lv_room (Nat.le_of_ble_eq_true rfl)) dX11_rowRefusal_20 ⟨Nat.le_of_ble_eq_true rfl, Nat.le_of_ble_eq_true rfl⟩) hS (fun q _ h => hFc q h) hFc (fun r_7 u t H locs ht hvm hw hB hz1 hk1 hS => ?_)
          have hP := ro_keep hP hk1
          have hP : va_P D vwCl [(xo, .inr (11, [.ref xk, .ref xn, .ref xc, .ref xh, .ref xt, .ref xw, .ref xm, .ref xp, .int 0, .int 0, .long 0, .int 0])), (xm, .inl (cy 4, 4, .inr (.inr (.inr (.inr (mf_ m0 m1 m2 m3)))))), (m0, .inr (4, [.int 0, .int (-9), .ref l0, .ref u0])), (m1, .inr (4, [.int 0, .int (-9), .ref l1, .ref u1])), (m2, .inr (4, [.int 0, .int (-9), .ref l2, .ref u2])), (m3, .inr (4, [.int 0, .int (-9), .ref l3, .ref u3]))] H := hP
          have e_ := hw.symm
          subst e_
          refine lv_if_ne (tgt := 29) hx hb dX11_rowRefusal_23 (by decide) (fun c_8 => ?_) (fun c_8 => ?_)
          · exact absurd c_8 (by decide)
          · have _ := c_8
            refine lv_bipush (v := (-11)) hx hb dX11_rowRefusal_26 (by decide) ?_
            exact W.iret (v := (-11)) hx hb hr (fun t ht hW => ⟨⟨(-11), (), rfl, Or.inr (⟨by omega, rfl⟩), trivial⟩, hS.F ht⟩) hS.2.2 dX11_rowRefusal_28
        · refine lv_aload_n hx hb dX11_rowRefusal_14 rfl (lv_at hl 0 rfl) ?_
          refine va_get (ci := 11) (v := .ref xm) (C := RX11) (T := TX11) (N := 12) hx hb hts (fun _ h => List.mem_cons_of_mem _ (List.mem_append_left _ (List.mem_append_right _ h))) hown hK.1 hP 0 rfl rfl 6 (by decide) (hts (.fieldLink RX11 72 "CutAtlas" "maps" "[LCutAtlas$NumberMap;") (by decide +kernel)) (fun _ h9 => h9) rfl dX11_rowRefusal_15 ?_
          refine lv_iload_n hx hb dX11_rowRefusal_18 rfl (lv_at hl 1 rfl) ?_
          refine va_aldq hx hb hK.1 hP 1 4 rfl rfl (i := 2) (by unfold vp_in; decide) dX11_rowRefusal_19 ?_
          refine lv_topv (v' := .ref m2) (by simp [va_up, va_rf, mf_, cl_0, cl_1, cl_2, cl_3, cl_4]) ?_
          have hPc := hP.sub (ws' := [(m2, .inr (4, [.int 0, .int (-9), .ref l2, .ref u2]))]) [4] rfl
          have hDw : va_D (fun _ => True) [(m2, .inr (4, [.int 0, .int (-9), .ref l2, .ref u2]))] := hD0.sub [4] (by decide) rfl
          have hFc := va_free (wc := []) hD hS hA [] rfl
          refine va_calli (va_runV (As := []) (rest := []) ⟨hx, hb, hml, hown, hts⟩ (c_X4_isThere l D cy H.size m2 l2 u2) (cwV 0 hts gX11_rowRefusal_X4_isThere rfl rfl rfl (by decide +kernel) ⟨Nat.le_of_ble_eq_true rfl, Nat.le_of_ble_eq_true rfl⟩) ⟨bl_, va_recv hK.1 hPc (ci := 4) (q0 := 0) rfl rfl, fun U hU hW => ⟨rfl, by rw [hU], by rw [hU]; exact hPc, kk_mv hW hK, hDw⟩⟩ rfl rfl hl.1 rfl (lv_room (Nat.le_of_ble_eq_true rfl)) dX11_rowRefusal_20 ⟨Nat.le_of_ble_eq_true rfl, Nat.le_of_ble_eq_true rfl⟩) hS (fun q _ h => hFc q h) hFc (fun r_9 u t H locs ht hvm hw hB hz1 hk1 hS => ?_)
          have hP := ro_keep hP hk1
          have hP : va_P D vwCl [(xo, .inr (11, [.ref xk, .ref xn, .ref xc, .ref xh, .ref xt, .ref xw, .ref xm, .ref xp, .int 0, .int 0, .long 0, .int 0])), (xm, .inl (cy 4, 4, .inr (.inr (.inr (.inr (mf_ m0 m1 m2 m3)))))), (m0, .inr (4, [.int 0, .int (-9), .ref l0, .ref u0])), (m1, .inr (4, [.int 0, .int (-9), .ref l1, .ref u1])), (m2, .inr (4, [.int 0, .int (-9), .ref l2, .ref u2])), (m3, .inr (4, [.int 0, .int (-9), .ref l3, .ref u3]))] H := hP
          have e_ := hw.symm
          subst e_
          refine lv_if_ne (tgt := 29) hx hb dX11_rowRefusal_23 (by decide) (fun c_10 => ?_) (fun c_10 => ?_)
          · exact absurd c_10 (by decide)
          · have _ := c_10
            refine lv_bipush (v := (-11)) hx hb dX11_rowRefusal_26 (by decide) ?_
            exact W.iret (v := (-11)) hx hb hr (fun t ht hW => ⟨⟨(-11), (), rfl, Or.inr (⟨by omega, rfl⟩), trivial⟩, hS.F ht⟩) hS.2.2 dX11_rowRefusal_28
        · refine lv_aload_n hx hb dX11_rowRefusal_14 rfl (lv_at hl 0 rfl) ?_
          refine va_get (ci := 11) (v := .ref xm) (C := RX11) (T := TX11) (N := 12) hx hb hts (fun _ h => List.mem_cons_of_mem _ (List.mem_append_left _ (List.mem_append_right _ h))) hown hK.1 hP 0 rfl rfl 6 (by decide) (hts (.fieldLink RX11 72 "CutAtlas" "maps" "[LCutAtlas$NumberMap;") (by decide +kernel)) (fun _ h9 => h9) rfl dX11_rowRefusal_15 ?_
          refine lv_iload_n hx hb dX11_rowRefusal_18 rfl (lv_at hl 1 rfl) ?_
          refine va_aldq hx hb hK.1 hP 1 4 rfl rfl (i := 3) (by unfold vp_in; decide) dX11_rowRefusal_19 ?_
          refine lv_topv (v' := .ref m3) (by simp [va_up, va_rf, mf_, cl_0, cl_1, cl_2, cl_3, cl_4]) ?_
          have hPc := hP.sub (ws' := [(m3, .inr (4, [.int 0, .int (-9), .ref l3, .ref u3]))]) [5] rfl
          have hDw : va_D (fun _ => True) [(m3, .inr (4, [.int 0, .int (-9), .ref l3, .ref u3]))] := hD0.sub [5] (by decide) rfl
          have hFc := va_free (wc := []) hD hS hA [] rfl
          refine va_calli (va_runV (As := []) (rest := []) ⟨hx, hb, hml, hown, hts⟩ (c_X4_isThere l D cy H.size m3 l3 u3) (cwV 0 hts gX11_rowRefusal_X4_isThere rfl rfl rfl (by decide +kernel) ⟨Nat.le_of_ble_eq_true rfl, Nat.le_of_ble_eq_true rfl⟩) ⟨bl_, va_recv hK.1 hPc (ci := 4) (q0 := 0) rfl rfl, fun U hU hW => ⟨rfl, by rw [hU], by rw [hU]; exact hPc, kk_mv hW hK, hDw⟩⟩ rfl rfl hl.1 rfl (lv_room (Nat.le_of_ble_eq_true rfl)) dX11_rowRefusal_20 ⟨Nat.le_of_ble_eq_true rfl, Nat.le_of_ble_eq_true rfl⟩) hS (fun q _ h => hFc q h) hFc (fun r_11 u t H locs ht hvm hw hB hz1 hk1 hS => ?_)
          have hP := ro_keep hP hk1
          have hP : va_P D vwCl [(xo, .inr (11, [.ref xk, .ref xn, .ref xc, .ref xh, .ref xt, .ref xw, .ref xm, .ref xp, .int 0, .int 0, .long 0, .int 0])), (xm, .inl (cy 4, 4, .inr (.inr (.inr (.inr (mf_ m0 m1 m2 m3)))))), (m0, .inr (4, [.int 0, .int (-9), .ref l0, .ref u0])), (m1, .inr (4, [.int 0, .int (-9), .ref l1, .ref u1])), (m2, .inr (4, [.int 0, .int (-9), .ref l2, .ref u2])), (m3, .inr (4, [.int 0, .int (-9), .ref l3, .ref u3]))] H := hP
          have e_ := hw.symm
          subst e_
          refine lv_if_ne (tgt := 29) hx hb dX11_rowRefusal_23 (by decide) (fun c_12 => ?_) (fun c_12 => ?_)
          · exact absurd c_12 (by decide)
          · have _ := c_12
            refine lv_bipush (v := (-11)) hx hb dX11_rowRefusal_26 (by decide) ?_
            exact W.iret (v := (-11)) hx hb hr (fun t ht hW => ⟨⟨(-11), (), rfl, Or.inr (⟨by omega, rfl⟩), trivial⟩, hS.F ht⟩) hS.2.2 dX11_rowRefusal_28
      · have t_4 : ¬ a3.toInt ≤ (5 : Int32).toInt := fun h => c_4 (Int32.le_iff_toInt_le.mpr h)
        refine lv_iconst (v := (-1)) hx hb dX11_rowRefusal_12 (by decide) ?_
        exact W.iret (v := (-1)) hx hb hr (fun t ht hW => ⟨⟨(-1), (), rfl, Or.inl (⟨by omega, rfl⟩), trivial⟩, hS.F ht⟩) hS.2.2 dX11_rowRefusal_13
  · have e_ := e_.symm
    subst e_
    refine lv_if_eq (tgt := 12) hx hb dX11_rowRefusal_4 (by decide) (fun c_13 => ?_) (fun c_13 => ?_)
    · have _ := c_13
      refine lv_iconst (v := (-1)) hx hb dX11_rowRefusal_12 (by decide) ?_
      exact W.iret (v := (-1)) hx hb hr (fun t ht hW => ⟨⟨(-1), (), rfl, Or.inl (⟨by omega, rfl⟩), trivial⟩, hS.F ht⟩) hS.2.2 dX11_rowRefusal_13
    · exact absurd c_13 (by decide)

set_option maxHeartbeats 4000000 in
set_option maxRecDepth 100000 in
theorem c_X11_numberRefusal (l : Launch) (D : va_G) (cy : Nat → ClassId) (sz : Nat) (xo : Nat) (xk : Nat) (xn : Nat) (xc : Nat) (xh : Nat) (xt : Nat) (xw : Nat) (xm : Nat) (xp : Nat) (m0 : Nat) (m1 : Nat) (m2 : Nat) (m3 : Nat) (l0 : Nat) (l1 : Nat) (l2 : Nat) (l3 : Nat) (u0 : Nat) (u1 : Nat) (u2 : Nat) (u3 : Nat) (a1 : Int32) (a2 : Int32) (a3 : Int32) (a4 : Int32) : Met l yX11_numberRefusal wsX11_numberRefusal ({ frames := 1, cells := 0, slots := 0, locals := 20 }) (va_Pc [.ref xo, .int a1, .int a2, .int a3, .int a4] (fun U => U.heap.size = sz ∧ va_P D vwCl [(xo, .inr (11, [.ref xk, .ref xn, .ref xc, .ref xh, .ref xt, .ref xw, .ref xm, .ref xp, .int 0, .int 0, .long 0, .int 0])), (xm, .inl (cy 4, 4, .inr (.inr (.inr (.inr (mf_ m0 m1 m2 m3)))))), (m0, .inr (4, [.int 0, .int (-9), .ref l0, .ref u0])), (m1, .inr (4, [.int 0, .int (-9), .ref l1, .ref u1])), (m2, .inr (4, [.int 0, .int (-9), .ref l2, .ref u2])), (m3, .inr (4, [.int 0, .int (-9), .ref l3, .ref u3]))] U.heap ∧ kk_ D cy U ∧ va_D (fun _ => True) [(xo, .inr (11, [.ref xk, .ref xn, .ref xc, .ref xh, .ref xt, .ref xw, .ref xm, .ref xp, .int 0, .int 0, .long 0, .int 0])), (xm, .inl (cy 4, 4, .inr (.inr (.inr (.inr (mf_ m0 m1 m2 m3)))))), (m0, .inr (4, [.int 0, .int (-9), .ref l0, .ref u0])), (m1, .inr (4, [.int 0, .int (-9), .ref l1, .ref u1])), (m2, .inr (4, [.int 0, .int (-9), .ref l2, .ref u2])), (m3, .inr (4, [.int 0, .int (-9), .ref l3, .ref u3]))])) (va_Qi (fun (r : Int32) (_ : Unit) => ((¬ ((0 ≤ a1.toInt ∧ a1.toInt < 4) ∧ (0 ≤ a2.toInt ∧ a2.toInt < 3))) ∧ r = (-1)) ∨ (((0 ≤ a1.toInt ∧ a1.toInt < 4) ∧ (0 ≤ a2.toInt ∧ a2.toInt < 3)) ∧ r = (-11))) (fun (_ : Unit) (_ : State) => True) (va_A [] sz)) 0 0 (va_A [] sz) := by
  refine Met.ofW (cc := cX11_numberRefusal) (maxL := 5) (ret := (some .int)) (by decide) rfl ?_
  intro p e s m args below meth c s₁ B hml hv
  obtain ⟨rfl, hsz, hP, hK, hD0⟩ := hv
  have hx := B.exec
  have hb := B.bytes
  have hr := B.returns
  have hts := atoms_spec (ws := wsX11_numberRefusal) B.pre
  have hown : s.vm.findClass RX11 = some m.cls := findClass_of_methodNamed B.named
  have hlocks := B.notSynchronized
  subst hsz
  have hD : va_D (va_A [] s.heap.size) [] := dd_nil
  generalize hAe : va_A [] s.heap.size = A at hD ⊢
  have hA : ∀ q : Nat, s.heap.size ≤ q → A q := fun q h => by rw [← hAe]; exact Or.inr h
  have hS : va_S A s.heap s.heap [] := va_S.rf
  have hl := lv_entry ([.ref xo, .int a1, .int a2, .int a3, .int a4]) (n := 5) (Nat.le_of_ble_eq_true rfl)
  rw [lg_entry_eq]
  generalize (lg_sl ([.ref xo, .int a1, .int a2, .int a3, .int a4]) ++ List.replicate (5 - (lg_sl ([.ref xo, .int a1, .int a2, .int a3, .int a4])).length) Slot.unset).toArray = ls at hl ⊢
  have hl : lv_has ls 5 [(0, .ref xo), (1, .int a1), (2, .int a2), (3, .int a3), (4, .int a4)] := hl
  refine lv_iload_n hx hb dX11_numberRefusal_0 rfl (lv_at hl 1 rfl) ?_
  have hPc := hP.sub (ws' := []) [] rfl
  have hDw : va_D (fun _ => True) [] := hD0.sub [] (by decide) rfl
  have hFc := va_free (wc := []) hD hS hA [] rfl
  refine va_calli (va_runS (As := [.int a1]) (rest := []) ⟨hx, hb, hml, hown, hts⟩ (c_X11_isMapNumber l D cy s.heap.size a1) (va_cwS 1 hts gX11_numberRefusal_X11_isMapNumber rfl rfl rfl (by decide +kernel) ⟨Nat.le_of_ble_eq_true rfl, Nat.le_of_ble_eq_true rfl⟩) ⟨bl_, fun U hU hW => ⟨rfl, by rw [hU], by rw [hU]; exact hPc, kk_mv hW hK, hDw⟩⟩ rfl rfl hl.1 rfl (lv_room (Nat.le_of_ble_eq_true rfl)) dX11_numberRefusal_1 ⟨Nat.le_of_ble_eq_true rfl, Nat.le_of_ble_eq_true rfl⟩) hS (fun q _ h => hFc q h) hFc (fun r_1 u t H locs ht hvm hw hB hz1 hk1 hS => ?_)
  have hP := ro_keep hP hk1
  have hP : va_P D vwCl [(xo, .inr (11, [.ref xk, .ref xn, .ref xc, .ref xh, .ref xt, .ref xw, .ref xm, .ref xp, .int 0, .int 0, .long 0, .int 0])), (xm, .inl (cy 4, 4, .inr (.inr (.inr (.inr (mf_ m0 m1 m2 m3)))))), (m0, .inr (4, [.int 0, .int (-9), .ref l0, .ref u0])), (m1, .inr (4, [.int 0, .int (-9), .ref l1, .ref u1])), (m2, .inr (4, [.int 0, .int (-9), .ref l2, .ref u2])), (m3, .inr (4, [.int 0, .int (-9), .ref l3, .ref u3]))] H := hP
  rcases hw with ⟨w_2, e_⟩ | ⟨w_2, e_⟩
  · have e_ := e_.symm
    subst e_
    refine lv_if_eq (tgt := 14) hx hb dX11_numberRefusal_4 (by decide) (fun c_3 => ?_) (fun c_3 => ?_)
    · exact absurd c_3 (by decide)
    · have _ := c_3
      refine lv_iload_n hx hb dX11_numberRefusal_7 rfl (lv_at hl 2 rfl) ?_
      have hPc := hP.sub (ws' := []) [] rfl
      have hDw : va_D (fun _ => True) [] := hD0.sub [] (by decide) rfl
      have hFc := va_free (wc := []) hD hS hA [] rfl
      refine va_calli (va_runS (As := [.int a2]) (rest := []) ⟨hx, hb, hml, hown, hts⟩ (c_X11_isMapKind l D cy H.size a2) (va_cwS 1 hts gX11_numberRefusal_X11_isMapKind rfl rfl rfl (by decide +kernel) ⟨Nat.le_of_ble_eq_true rfl, Nat.le_of_ble_eq_true rfl⟩) ⟨bl_, fun U hU hW => ⟨rfl, by rw [hU], by rw [hU]; exact hPc, kk_mv hW hK, hDw⟩⟩ rfl rfl hl.1 rfl (lv_room (Nat.le_of_ble_eq_true rfl)) dX11_numberRefusal_8 ⟨Nat.le_of_ble_eq_true rfl, Nat.le_of_ble_eq_true rfl⟩) hS (fun q _ h => hFc q h) hFc (fun r_4 u t H locs ht hvm hw hB hz1 hk1 hS => ?_)
      have hP := ro_keep hP hk1
      have hP : va_P D vwCl [(xo, .inr (11, [.ref xk, .ref xn, .ref xc, .ref xh, .ref xt, .ref xw, .ref xm, .ref xp, .int 0, .int 0, .long 0, .int 0])), (xm, .inl (cy 4, 4, .inr (.inr (.inr (.inr (mf_ m0 m1 m2 m3)))))), (m0, .inr (4, [.int 0, .int (-9), .ref l0, .ref u0])), (m1, .inr (4, [.int 0, .int (-9), .ref l1, .ref u1])), (m2, .inr (4, [.int 0, .int (-9), .ref l2, .ref u2])), (m3, .inr (4, [.int 0, .int (-9), .ref l3, .ref u3]))] H := hP
      rcases hw with ⟨w_5, e_⟩ | ⟨w_5, e_⟩
      · have e_ := e_.symm
        subst e_
        refine lv_if_ne (tgt := 16) hx hb dX11_numberRefusal_11 (by decide) (fun c_6 => ?_) (fun c_6 => ?_)
        · have _ := c_6
          rcases sp_4 (x := a1) (by omega) with rfl | rfl | rfl | rfl
          · refine lv_aload_n hx hb dX11_numberRefusal_16 rfl (lv_at hl 0 rfl) ?_
            refine va_get (ci := 11) (v := .ref xm) (C := RX11) (T := TX11) (N := 12) hx hb hts (fun _ h => List.mem_cons_of_mem _ (List.mem_append_left _ (List.mem_append_right _ h))) hown hK.1 hP 0 rfl rfl 6 (by decide) (hts (.fieldLink RX11 72 "CutAtlas" "maps" "[LCutAtlas$NumberMap;") (by decide +kernel)) (fun _ h9 => h9) rfl dX11_numberRefusal_17 ?_
            refine lv_iload_n hx hb dX11_numberRefusal_20 rfl (lv_at hl 1 rfl) ?_
            refine va_aldq hx hb hK.1 hP 1 4 rfl rfl (i := 0) (by unfold vp_in; decide) dX11_numberRefusal_21 ?_
            refine lv_topv (v' := .ref m0) (by simp [va_up, va_rf, mf_, cl_0, cl_1, cl_2, cl_3, cl_4]) ?_
            have hPc := hP.sub (ws' := [(m0, .inr (4, [.int 0, .int (-9), .ref l0, .ref u0]))]) [2] rfl
            have hDw : va_D (fun _ => True) [(m0, .inr (4, [.int 0, .int (-9), .ref l0, .ref u0]))] := hD0.sub [2] (by decide) rfl
            have hFc := va_free (wc := []) hD hS hA [] rfl
            refine va_calli (va_runV (As := []) (rest := []) ⟨hx, hb, hml, hown, hts⟩ (c_X4_isThere l D cy H.size m0 l0 u0) (cwV 0 hts gX11_numberRefusal_X4_isThere rfl rfl rfl (by decide +kernel) ⟨Nat.le_of_ble_eq_true rfl, Nat.le_of_ble_eq_true rfl⟩) ⟨bl_, va_recv hK.1 hPc (ci := 4) (q0 := 0) rfl rfl, fun U hU hW => ⟨rfl, by rw [hU], by rw [hU]; exact hPc, kk_mv hW hK, hDw⟩⟩ rfl rfl hl.1 rfl (lv_room (Nat.le_of_ble_eq_true rfl)) dX11_numberRefusal_22 ⟨Nat.le_of_ble_eq_true rfl, Nat.le_of_ble_eq_true rfl⟩) hS (fun q _ h => hFc q h) hFc (fun r_7 u t H locs ht hvm hw hB hz1 hk1 hS => ?_)
            have hP := ro_keep hP hk1
            have hP : va_P D vwCl [(xo, .inr (11, [.ref xk, .ref xn, .ref xc, .ref xh, .ref xt, .ref xw, .ref xm, .ref xp, .int 0, .int 0, .long 0, .int 0])), (xm, .inl (cy 4, 4, .inr (.inr (.inr (.inr (mf_ m0 m1 m2 m3)))))), (m0, .inr (4, [.int 0, .int (-9), .ref l0, .ref u0])), (m1, .inr (4, [.int 0, .int (-9), .ref l1, .ref u1])), (m2, .inr (4, [.int 0, .int (-9), .ref l2, .ref u2])), (m3, .inr (4, [.int 0, .int (-9), .ref l3, .ref u3]))] H := hP
            have e_ := hw.symm
            subst e_
            refine lv_if_ne (tgt := 31) hx hb dX11_numberRefusal_25 (by decide) (fun c_8 => ?_) (fun c_8 => ?_)
            · exact absurd c_8 (by decide)
            · have _ := c_8
              refine lv_bipush (v := (-11)) hx hb dX11_numberRefusal_28 (by decide) ?_
              exact W.iret (v := (-11)) hx hb hr (fun t ht hW => ⟨⟨(-11), (), rfl, Or.inr (⟨by omega, rfl⟩), trivial⟩, hS.F ht⟩) hS.2.2 dX11_numberRefusal_30
          · refine lv_aload_n hx hb dX11_numberRefusal_16 rfl (lv_at hl 0 rfl) ?_
            refine va_get (ci := 11) (v := .ref xm) (C := RX11) (T := TX11) (N := 12) hx hb hts (fun _ h => List.mem_cons_of_mem _ (List.mem_append_left _ (List.mem_append_right _ h))) hown hK.1 hP 0 rfl rfl 6 (by decide) (hts (.fieldLink RX11 72 "CutAtlas" "maps" "[LCutAtlas$NumberMap;") (by decide +kernel)) (fun _ h9 => h9) rfl dX11_numberRefusal_17 ?_
            refine lv_iload_n hx hb dX11_numberRefusal_20 rfl (lv_at hl 1 rfl) ?_
            refine va_aldq hx hb hK.1 hP 1 4 rfl rfl (i := 1) (by unfold vp_in; decide) dX11_numberRefusal_21 ?_
            refine lv_topv (v' := .ref m1) (by simp [va_up, va_rf, mf_, cl_0, cl_1, cl_2, cl_3, cl_4]) ?_
            have hPc := hP.sub (ws' := [(m1, .inr (4, [.int 0, .int (-9), .ref l1, .ref u1]))]) [3] rfl
            have hDw : va_D (fun _ => True) [(m1, .inr (4, [.int 0, .int (-9), .ref l1, .ref u1]))] := hD0.sub [3] (by decide) rfl
            have hFc := va_free (wc := []) hD hS hA [] rfl
            refine va_calli (va_runV (As := []) (rest := []) ⟨hx, hb, hml, hown, hts⟩ (c_X4_isThere l D cy H.size m1 l1 u1) (cwV 0 hts gX11_numberRefusal_X4_isThere rfl rfl rfl (by decide +kernel) ⟨Nat.le_of_ble_eq_true rfl, Nat.le_of_ble_eq_true rfl⟩) ⟨bl_, va_recv hK.1 hPc (ci := 4) (q0 := 0) rfl rfl, fun U hU hW => ⟨rfl, by rw [hU], by rw [hU]; exact hPc, kk_mv hW hK, hDw⟩⟩ rfl rfl hl.1 rfl (lv_room (Nat.le_of_ble_eq_true rfl)) dX11_numberRefusal_22 ⟨Nat.le_of_ble_eq_true rfl, Nat.le_of_ble_eq_true rfl⟩) hS (fun q _ h => hFc q h) hFc (fun r_9 u t H locs ht hvm hw hB hz1 hk1 hS => ?_)
            have hP := ro_keep hP hk1
            have hP : va_P D vwCl [(xo, .inr (11, [.ref xk, .ref xn, .ref xc, .ref xh, .ref xt, .ref xw, .ref xm, .ref xp, .int 0, .int 0, .long 0, .int 0])), (xm, .inl (cy 4, 4, .inr (.inr (.inr (.inr (mf_ m0 m1 m2 m3)))))), (m0, .inr (4, [.int 0, .int (-9), .ref l0, .ref u0])), (m1, .inr (4, [.int 0, .int (-9), .ref l1, .ref u1])), (m2, .inr (4, [.int 0, .int (-9), .ref l2, .ref u2])), (m3, .inr (4, [.int 0, .int (-9), .ref l3, .ref u3]))] H := hP
            have e_ := hw.symm
            subst e_
            refine lv_if_ne (tgt := 31) hx hb dX11_numberRefusal_25 (by decide) (fun c_10 => ?_) (fun c_10 => ?_)
            · exact absurd c_10 (by decide)
            · have _ := c_10
              refine lv_bipush (v := (-11)) hx hb dX11_numberRefusal_28 (by decide) ?_
              exact W.iret (v := (-11)) hx hb hr (fun t ht hW => ⟨⟨(-11), (), rfl, Or.inr (⟨by omega, rfl⟩), trivial⟩, hS.F ht⟩) hS.2.2 dX11_numberRefusal_30
          · refine lv_aload_n hx hb dX11_numberRefusal_16 rfl (lv_at hl 0 rfl) ?_
            refine va_get (ci := 11) (v := .ref xm) (C := RX11) (T := TX11) (N := 12) hx hb hts (fun _ h => List.mem_cons_of_mem _ (List.mem_append_left _ (List.mem_append_right _ h))) hown hK.1 hP 0 rfl rfl 6 (by decide) (hts (.fieldLink RX11 72 "CutAtlas" "maps" "[LCutAtlas$NumberMap;") (by decide +kernel)) (fun _ h9 => h9) rfl dX11_numberRefusal_17 ?_
            refine lv_iload_n hx hb dX11_numberRefusal_20 rfl (lv_at hl 1 rfl) ?_
            refine va_aldq hx hb hK.1 hP 1 4 rfl rfl (i := 2) (by unfold vp_in; decide) dX11_numberRefusal_21 ?_
            refine lv_topv (v' := .ref m2) (by simp [va_up, va_rf, mf_, cl_0, cl_1, cl_2, cl_3, cl_4]) ?_
            have hPc := hP.sub (ws' := [(m2, .inr (4, [.int 0, .int (-9), .ref l2, .ref u2]))]) [4] rfl
            have hDw : va_D (fun _ => True) [(m2, .inr (4, [.int 0, .int (-9), .ref l2, .ref u2]))] := hD0.sub [4] (by decide) rfl
            have hFc := va_free (wc := []) hD hS hA [] rfl
            refine va_calli (va_runV (As := []) (rest := []) ⟨hx, hb, hml, hown, hts⟩ (c_X4_isThere l D cy H.size m2 l2 u2) (cwV 0 hts gX11_numberRefusal_X4_isThere rfl rfl rfl (by decide +kernel) ⟨Nat.le_of_ble_eq_true rfl, Nat.le_of_ble_eq_true rfl⟩) ⟨bl_, va_recv hK.1 hPc (ci := 4) (q0 := 0) rfl rfl, fun U hU hW => ⟨rfl, by rw [hU], by rw [hU]; exact hPc, kk_mv hW hK, hDw⟩⟩ rfl rfl hl.1 rfl (lv_room (Nat.le_of_ble_eq_true rfl)) dX11_numberRefusal_22 ⟨Nat.le_of_ble_eq_true rfl, Nat.le_of_ble_eq_true rfl⟩) hS (fun q _ h => hFc q h) hFc (fun r_11 u t H locs ht hvm hw hB hz1 hk1 hS => ?_)
            have hP := ro_keep hP hk1
            have hP : va_P D vwCl [(xo, .inr (11, [.ref xk, .ref xn, .ref xc, .ref xh, .ref xt, .ref xw, .ref xm, .ref xp, .int 0, .int 0, .long 0, .int 0])), (xm, .inl (cy 4, 4, .inr (.inr (.inr (.inr (mf_ m0 m1 m2 m3)))))), (m0, .inr (4, [.int 0, .int (-9), .ref l0, .ref u0])), (m1, .inr (4, [.int 0, .int (-9), .ref l1, .ref u1])), (m2, .inr (4, [.int 0, .int (-9), .ref l2, .ref u2])), (m3, .inr (4, [.int 0, .int (-9), .ref l3, .ref u3]))] H := hP
            have e_ := hw.symm
            subst e_
            refine lv_if_ne (tgt := 31) hx hb dX11_numberRefusal_25 (by decide) (fun c_12 => ?_) (fun c_12 => ?_)
            · exact absurd c_12 (by decide)
            · have _ := c_12
              refine lv_bipush (v := (-11)) hx hb dX11_numberRefusal_28 (by decide) ?_
              exact W.iret (v := (-11)) hx hb hr (fun t ht hW => ⟨⟨(-11), (), rfl, Or.inr (⟨by omega, rfl⟩), trivial⟩, hS.F ht⟩) hS.2.2 dX11_numberRefusal_30
          · refine lv_aload_n hx hb dX11_numberRefusal_16 rfl (lv_at hl 0 rfl) ?_
            refine va_get (ci := 11) (v := .ref xm) (C := RX11) (T := TX11) (N := 12) hx hb hts (fun _ h => List.mem_cons_of_mem _ (List.mem_append_left _ (List.mem_append_right _ h))) hown hK.1 hP 0 rfl rfl 6 (by decide) (hts (.fieldLink RX11 72 "CutAtlas" "maps" "[LCutAtlas$NumberMap;") (by decide +kernel)) (fun _ h9 => h9) rfl dX11_numberRefusal_17 ?_
            refine lv_iload_n hx hb dX11_numberRefusal_20 rfl (lv_at hl 1 rfl) ?_
            refine va_aldq hx hb hK.1 hP 1 4 rfl rfl (i := 3) (by unfold vp_in; decide) dX11_numberRefusal_21 ?_
            refine lv_topv (v' := .ref m3) (by simp [va_up, va_rf, mf_, cl_0, cl_1, cl_2, cl_3, cl_4]) ?_
            have hPc := hP.sub (ws' := [(m3, .inr (4, [.int 0, .int (-9), .ref l3, .ref u3]))]) [5] rfl
            have hDw : va_D (fun _ => True) [(m3, .inr (4, [.int 0, .int (-9), .ref l3, .ref u3]))] := hD0.sub [5] (by decide) rfl
            have hFc := va_free (wc := []) hD hS hA [] rfl
            refine va_calli (va_runV (As := []) (rest := []) ⟨hx, hb, hml, hown, hts⟩ (c_X4_isThere l D cy H.size m3 l3 u3) (cwV 0 hts gX11_numberRefusal_X4_isThere rfl rfl rfl (by decide +kernel) ⟨Nat.le_of_ble_eq_true rfl, Nat.le_of_ble_eq_true rfl⟩) ⟨bl_, va_recv hK.1 hPc (ci := 4) (q0 := 0) rfl rfl, fun U hU hW => ⟨rfl, by rw [hU], by rw [hU]; exact hPc, kk_mv hW hK, hDw⟩⟩ rfl rfl hl.1 rfl (lv_room (Nat.le_of_ble_eq_true rfl)) dX11_numberRefusal_22 ⟨Nat.le_of_ble_eq_true rfl, Nat.le_of_ble_eq_true rfl⟩) hS (fun q _ h => hFc q h) hFc (fun r_13 u t H locs ht hvm hw hB hz1 hk1 hS => ?_)
            have hP := ro_keep hP hk1
            have hP : va_P D vwCl [(xo, .inr (11, [.ref xk, .ref xn, .ref xc, .ref xh, .ref xt, .ref xw, .ref xm, .ref xp, .int 0, .int 0, .long 0, .int 0])), (xm, .inl (cy 4, 4, .inr (.inr (.inr (.inr (mf_ m0 m1 m2 m3)))))), (m0, .inr (4, [.int 0, .int (-9), .ref l0, .ref u0])), (m1, .inr (4, [.int 0, .int (-9), .ref l1, .ref u1])), (m2, .inr (4, [.int 0, .int (-9), .ref l2, .ref u2])), (m3, .inr (4, [.int 0, .int (-9), .ref l3, .ref u3]))] H := hP
            have e_ := hw.symm
            subst e_
            refine lv_if_ne (tgt := 31) hx hb dX11_numberRefusal_25 (by decide) (fun c_14 => ?_) (fun c_14 => ?_)
            · exact absurd c_14 (by decide)
            · have _ := c_14
              refine lv_bipush (v := (-11)) hx hb dX11_numberRefusal_28 (by decide) ?_
              exact W.iret (v := (-11)) hx hb hr (fun t ht hW => ⟨⟨(-11), (), rfl, Or.inr (⟨by omega, rfl⟩), trivial⟩, hS.F ht⟩) hS.2.2 dX11_numberRefusal_30
        · exact absurd c_6 (by decide)
      · have e_ := e_.symm
        subst e_
        refine lv_if_ne (tgt := 16) hx hb dX11_numberRefusal_11 (by decide) (fun c_15 => ?_) (fun c_15 => ?_)
        · exact absurd c_15 (by decide)
        · have _ := c_15
          refine lv_iconst (v := (-1)) hx hb dX11_numberRefusal_14 (by decide) ?_
          exact W.iret (v := (-1)) hx hb hr (fun t ht hW => ⟨⟨(-1), (), rfl, Or.inl (⟨by omega, rfl⟩), trivial⟩, hS.F ht⟩) hS.2.2 dX11_numberRefusal_15
  · have e_ := e_.symm
    subst e_
    refine lv_if_eq (tgt := 14) hx hb dX11_numberRefusal_4 (by decide) (fun c_16 => ?_) (fun c_16 => ?_)
    · have _ := c_16
      refine lv_iconst (v := (-1)) hx hb dX11_numberRefusal_14 (by decide) ?_
      exact W.iret (v := (-1)) hx hb hr (fun t ht hW => ⟨⟨(-1), (), rfl, Or.inl (⟨by omega, rfl⟩), trivial⟩, hS.F ht⟩) hS.2.2 dX11_numberRefusal_15
    · exact absurd c_16 (by decide)

set_option maxHeartbeats 4000000 in
set_option maxRecDepth 100000 in
theorem c_X4_moveRefusal (l : Launch) (D : va_G) (cy : Nat → ClassId) (sz : Nat) (m0 : Nat) (l0 : Nat) (u0 : Nat) (a1 : Int32) (a2 : Int32) (a3 : Int32) (a4 : Int32) (a5 : Int32) : Met l yX4_moveRefusal wsX4_moveRefusal ({ frames := 1, cells := 0, slots := 0, locals := 20 }) (va_Pc [.ref m0, .int a1, .int a2, .int a3, .int a4, .int a5] (fun U => U.heap.size = sz ∧ va_P D vwCl [(m0, .inr (4, [.int 0, .int (-9), .ref l0, .ref u0]))] U.heap ∧ kk_ D cy U ∧ va_D (fun _ => True) [(m0, .inr (4, [.int 0, .int (-9), .ref l0, .ref u0]))])) (va_Qi (fun (r : Int32) (_ : Unit) => r = (-11)) (fun (_ : Unit) (_ : State) => True) (va_A [] sz)) 0 0 (va_A [] sz) := by
  refine Met.ofW (cc := cX4_moveRefusal) (maxL := 6) (ret := (some .int)) (by decide) rfl ?_
  intro p e s m args below meth c s₁ B hml hv
  obtain ⟨rfl, hsz, hP, hK, hD0⟩ := hv
  have hx := B.exec
  have hb := B.bytes
  have hr := B.returns
  have hts := atoms_spec (ws := wsX4_moveRefusal) B.pre
  have hown : s.vm.findClass RX4 = some m.cls := findClass_of_methodNamed B.named
  have hlocks := B.notSynchronized
  subst hsz
  have hD : va_D (va_A [] s.heap.size) [] := dd_nil
  generalize hAe : va_A [] s.heap.size = A at hD ⊢
  have hA : ∀ q : Nat, s.heap.size ≤ q → A q := fun q h => by rw [← hAe]; exact Or.inr h
  have hS : va_S A s.heap s.heap [] := va_S.rf
  have hl := lv_entry ([.ref m0, .int a1, .int a2, .int a3, .int a4, .int a5]) (n := 6) (Nat.le_of_ble_eq_true rfl)
  rw [lg_entry_eq]
  generalize (lg_sl ([.ref m0, .int a1, .int a2, .int a3, .int a4, .int a5]) ++ List.replicate (6 - (lg_sl ([.ref m0, .int a1, .int a2, .int a3, .int a4, .int a5])).length) Slot.unset).toArray = ls at hl ⊢
  have hl : lv_has ls 6 [(0, .ref m0), (1, .int a1), (2, .int a2), (3, .int a3), (4, .int a4), (5, .int a5)] := hl
  refine lv_aload_n hx hb dX4_moveRefusal_0 rfl (lv_at hl 0 rfl) ?_
  have hPc := hP.sub (ws' := [(m0, .inr (4, [.int 0, .int (-9), .ref l0, .ref u0]))]) [0] rfl
  have hDw : va_D (fun _ => True) [(m0, .inr (4, [.int 0, .int (-9), .ref l0, .ref u0]))] := hD0.sub [0] (by decide) rfl
  have hFc := va_free (wc := []) hD hS hA [] rfl
  refine va_calli (va_runV (As := []) (rest := []) ⟨hx, hb, hml, hown, hts⟩ (c_X4_isThere l D cy s.heap.size m0 l0 u0) (cwV 0 hts gX4_moveRefusal_X4_isThere rfl rfl rfl (by decide +kernel) ⟨Nat.le_of_ble_eq_true rfl, Nat.le_of_ble_eq_true rfl⟩) ⟨bl_, va_recv hK.1 hPc (ci := 4) (q0 := 0) rfl rfl, fun U hU hW => ⟨rfl, by rw [hU], by rw [hU]; exact hPc, kk_mv hW hK, hDw⟩⟩ rfl rfl hl.1 rfl (lv_room (Nat.le_of_ble_eq_true rfl)) dX4_moveRefusal_1 ⟨Nat.le_of_ble_eq_true rfl, Nat.le_of_ble_eq_true rfl⟩) hS (fun q _ h => hFc q h) hFc (fun r_1 u t H locs ht hvm hw hB hz1 hk1 hS => ?_)
  have hP := ro_keep hP hk1
  have hP : va_P D vwCl [(m0, .inr (4, [.int 0, .int (-9), .ref l0, .ref u0]))] H := hP
  have e_ := hw.symm
  subst e_
  refine lv_if_ne (tgt := 10) hx hb dX4_moveRefusal_4 (by decide) (fun c_2 => ?_) (fun c_2 => ?_)
  · exact absurd c_2 (by decide)
  · have _ := c_2
    refine lv_bipush (v := (-11)) hx hb dX4_moveRefusal_7 (by decide) ?_
    exact W.iret (v := (-11)) hx hb hr (fun t ht hW => ⟨⟨(-11), (), rfl, rfl, trivial⟩, hS.F ht⟩) hS.2.2 dX4_moveRefusal_9

set_option maxHeartbeats 4000000 in
set_option maxRecDepth 100000 in
/-- Arrays.fill of six -/
theorem c_J7_fill_53178 (l : Launch) (D : va_G) (cy : Nat → ClassId) (sz : Nat) (l0 : Nat) (a1 : Int32) : Met l yJ7_fill_53178 wsJ7_fill_53178 ({ frames := 0, cells := 0, slots := 0, locals := 0 }) (va_Pc [.ref l0, .int a1] (fun U => U.heap.size = sz ∧ va_P D vwCl [(l0, .inl (cy 0, 6, .inl (fun _ => 0)))] U.heap ∧ kk_ D cy U ∧ va_D (fun _ => True) [(l0, .inl (cy 0, 6, .inl (fun _ => 0)))])) (va_Qv (fun (_ : Unit) => True) (fun (_ : Unit) (_ : State) => True) (va_A [(l0, .inl (cy 0, 6, .inl (fun _ => 0)))] sz)) 0 0 (va_A [(l0, .inl (cy 0, 6, .inl (fun _ => 0)))] sz) := by
  refine Met.ofW (cc := cJ7_fill_53178) (maxL := 4) (ret := none) (by decide) rfl ?_
  intro p e s m args below meth c s₁ B hml hv
  obtain ⟨rfl, hsz, hP, hK, hD0⟩ := hv
  have hx := B.exec
  have hb := B.bytes
  have hr := B.returns
  have hts := atoms_spec (ws := wsJ7_fill_53178) B.pre
  have hown : s.vm.findClass RJ7 = some m.cls := findClass_of_methodNamed B.named
  have hlocks := B.notSynchronized
  subst hsz
  have hD := hD0.self (sz := s.heap.size)
  generalize hAe : va_A [(l0, .inl (cy 0, 6, .inl (fun _ => 0)))] s.heap.size = A at hD ⊢
  have hA : ∀ q : Nat, s.heap.size ≤ q → A q := fun q h => by rw [← hAe]; exact Or.inr h
  have hS : va_S A s.heap s.heap [] := va_S.rf
  have hl := lv_entry ([.ref l0, .int a1]) (n := 4) (Nat.le_of_ble_eq_true rfl)
  rw [lg_entry_eq]
  generalize (lg_sl ([.ref l0, .int a1]) ++ List.replicate (4 - (lg_sl ([.ref l0, .int a1])).length) Slot.unset).toArray = ls at hl ⊢
  have hl : lv_has ls 4 [(0, .ref l0), (1, .int a1)] := hl
  refine lv_iconst (v := 0) hx hb dJ7_fill_53178_0 (by decide) ?_
  refine lv_istore_n (lv' := [(2, .int 0), (0, .ref l0), (1, .int a1)]) hx hb dJ7_fill_53178_1 rfl hl (by decide) rfl (fun ls hl => ?_)
  refine lv_aload_n hx hb dJ7_fill_53178_2 rfl (lv_at hl 1 rfl) ?_
  refine va_alen hx hb hK.1 hP 0 0 rfl rfl (v := 6) rfl dJ7_fill_53178_3 ?_
  refine lv_istore_n (lv' := [(3, .int 6), (2, .int 0), (0, .ref l0), (1, .int a1)]) hx hb dJ7_fill_53178_4 rfl hl (by decide) rfl (fun ls hl => ?_)
  refine lv_iload_n hx hb dJ7_fill_53178_5 rfl (lv_at hl 1 rfl) ?_
  refine lv_iload_n hx hb dJ7_fill_53178_6 rfl (lv_at hl 0 rfl) ?_
  refine lv_icmp_ge (tgt := 20) hx hb dJ7_fill_53178_7 (by decide) (fun c_1 => ?_) (fun c_1 => ?_)
  · exact absurd c_1 (by decide)
  · have _ := c_1
    refine lv_aload_n hx hb dJ7_fill_53178_10 rfl (lv_at hl 2 rfl) ?_
    refine lv_iload_n hx hb dJ7_fill_53178_11 rfl (lv_at hl 1 rfl) ?_
    refine lv_iload_n hx hb dJ7_fill_53178_12 rfl (lv_at hl 3 rfl) ?_
    refine va_iast hx hb hK.1 hP hD hS 0 0 rfl rfl (i := 0) (by unfold vp_in; decide) dJ7_fill_53178_13 (fun H locs hP hD hS => ?_)
    have hP : va_P D vwCl [(l0, .inl (cy 0, 6, .inl (upd (fun _ => 0) (0 : Int32).toNatClampNeg a1)))] H := hP
    have hD : va_D A [(l0, .inl (cy 0, 6, .inl (upd (fun _ => 0) (0 : Int32).toNatClampNeg a1)))] := hD
    refine lv_iinc (v := 1) (lv' := [(2, .int 1), (3, .int 6), (0, .ref l0), (1, .int a1)]) hx hb dJ7_fill_53178_14 hl (k := 1) rfl (by decide) (by decide) rfl (fun ls hl => ?_)
    refine lv_goto (tgt := 5) hx hb dJ7_fill_53178_17 (by decide) ?_
    refine lv_iload_n hx hb dJ7_fill_53178_5 rfl (lv_at hl 0 rfl) ?_
    refine lv_iload_n hx hb dJ7_fill_53178_6 rfl (lv_at hl 1 rfl) ?_
    refine lv_icmp_ge (tgt := 20) hx hb dJ7_fill_53178_7 (by decide) (fun c_2 => ?_) (fun c_2 => ?_)
    · exact absurd c_2 (by decide)
    · have _ := c_2
      refine lv_aload_n hx hb dJ7_fill_53178_10 rfl (lv_at hl 2 rfl) ?_
      refine lv_iload_n hx hb dJ7_fill_53178_11 rfl (lv_at hl 0 rfl) ?_
      refine lv_iload_n hx hb dJ7_fill_53178_12 rfl (lv_at hl 3 rfl) ?_
      refine va_iast hx hb hK.1 hP hD hS 0 0 rfl rfl (i := 1) (by unfold vp_in; decide) dJ7_fill_53178_13 (fun H locs hP hD hS => ?_)
      have hP : va_P D vwCl [(l0, .inl (cy 0, 6, .inl (upd (upd (fun _ => 0) (0 : Int32).toNatClampNeg a1) (1 : Int32).toNatClampNeg a1)))] H := hP
      have hD : va_D A [(l0, .inl (cy 0, 6, .inl (upd (upd (fun _ => 0) (0 : Int32).toNatClampNeg a1) (1 : Int32).toNatClampNeg a1)))] := hD
      refine lv_iinc (v := 2) (lv' := [(2, .int 2), (3, .int 6), (0, .ref l0), (1, .int a1)]) hx hb dJ7_fill_53178_14 hl (k := 0) rfl (by decide) (by decide) rfl (fun ls hl => ?_)
      refine lv_goto (tgt := 5) hx hb dJ7_fill_53178_17 (by decide) ?_
      refine lv_iload_n hx hb dJ7_fill_53178_5 rfl (lv_at hl 0 rfl) ?_
      refine lv_iload_n hx hb dJ7_fill_53178_6 rfl (lv_at hl 1 rfl) ?_
      refine lv_icmp_ge (tgt := 20) hx hb dJ7_fill_53178_7 (by decide) (fun c_3 => ?_) (fun c_3 => ?_)
      · exact absurd c_3 (by decide)
      · have _ := c_3
        refine lv_aload_n hx hb dJ7_fill_53178_10 rfl (lv_at hl 2 rfl) ?_
        refine lv_iload_n hx hb dJ7_fill_53178_11 rfl (lv_at hl 0 rfl) ?_
        refine lv_iload_n hx hb dJ7_fill_53178_12 rfl (lv_at hl 3 rfl) ?_
        refine va_iast hx hb hK.1 hP hD hS 0 0 rfl rfl (i := 2) (by unfold vp_in; decide) dJ7_fill_53178_13 (fun H locs hP hD hS => ?_)
        have hP : va_P D vwCl [(l0, .inl (cy 0, 6, .inl (upd (upd (upd (fun _ => 0) (0 : Int32).toNatClampNeg a1) (1 : Int32).toNatClampNeg a1) (2 : Int32).toNatClampNeg a1)))] H := hP
        have hD : va_D A [(l0, .inl (cy 0, 6, .inl (upd (upd (upd (fun _ => 0) (0 : Int32).toNatClampNeg a1) (1 : Int32).toNatClampNeg a1) (2 : Int32).toNatClampNeg a1)))] := hD
        refine lv_iinc (v := 3) (lv' := [(2, .int 3), (3, .int 6), (0, .ref l0), (1, .int a1)]) hx hb dJ7_fill_53178_14 hl (k := 0) rfl (by decide) (by decide) rfl (fun ls hl => ?_)
        refine lv_goto (tgt := 5) hx hb dJ7_fill_53178_17 (by decide) ?_
        refine lv_iload_n hx hb dJ7_fill_53178_5 rfl (lv_at hl 0 rfl) ?_
        refine lv_iload_n hx hb dJ7_fill_53178_6 rfl (lv_at hl 1 rfl) ?_
        refine lv_icmp_ge (tgt := 20) hx hb dJ7_fill_53178_7 (by decide) (fun c_4 => ?_) (fun c_4 => ?_)
        · exact absurd c_4 (by decide)
        · have _ := c_4
          refine lv_aload_n hx hb dJ7_fill_53178_10 rfl (lv_at hl 2 rfl) ?_
          refine lv_iload_n hx hb dJ7_fill_53178_11 rfl (lv_at hl 0 rfl) ?_
          refine lv_iload_n hx hb dJ7_fill_53178_12 rfl (lv_at hl 3 rfl) ?_
          refine va_iast hx hb hK.1 hP hD hS 0 0 rfl rfl (i := 3) (by unfold vp_in; decide) dJ7_fill_53178_13 (fun H locs hP hD hS => ?_)
          have hP : va_P D vwCl [(l0, .inl (cy 0, 6, .inl (upd (upd (upd (upd (fun _ => 0) (0 : Int32).toNatClampNeg a1) (1 : Int32).toNatClampNeg a1) (2 : Int32).toNatClampNeg a1) (3 : Int32).toNatClampNeg a1)))] H := hP
          have hD : va_D A [(l0, .inl (cy 0, 6, .inl (upd (upd (upd (upd (fun _ => 0) (0 : Int32).toNatClampNeg a1) (1 : Int32).toNatClampNeg a1) (2 : Int32).toNatClampNeg a1) (3 : Int32).toNatClampNeg a1)))] := hD
          refine lv_iinc (v := 4) (lv' := [(2, .int 4), (3, .int 6), (0, .ref l0), (1, .int a1)]) hx hb dJ7_fill_53178_14 hl (k := 0) rfl (by decide) (by decide) rfl (fun ls hl => ?_)
          refine lv_goto (tgt := 5) hx hb dJ7_fill_53178_17 (by decide) ?_
          refine lv_iload_n hx hb dJ7_fill_53178_5 rfl (lv_at hl 0 rfl) ?_
          refine lv_iload_n hx hb dJ7_fill_53178_6 rfl (lv_at hl 1 rfl) ?_
          refine lv_icmp_ge (tgt := 20) hx hb dJ7_fill_53178_7 (by decide) (fun c_5 => ?_) (fun c_5 => ?_)
          · exact absurd c_5 (by decide)
          · have _ := c_5
            refine lv_aload_n hx hb dJ7_fill_53178_10 rfl (lv_at hl 2 rfl) ?_
            refine lv_iload_n hx hb dJ7_fill_53178_11 rfl (lv_at hl 0 rfl) ?_
            refine lv_iload_n hx hb dJ7_fill_53178_12 rfl (lv_at hl 3 rfl) ?_
            refine va_iast hx hb hK.1 hP hD hS 0 0 rfl rfl (i := 4) (by unfold vp_in; decide) dJ7_fill_53178_13 (fun H locs hP hD hS => ?_)
            have hP : va_P D vwCl [(l0, .inl (cy 0, 6, .inl (upd (upd (upd (upd (upd (fun _ => 0) (0 : Int32).toNatClampNeg a1) (1 : Int32).toNatClampNeg a1) (2 : Int32).toNatClampNeg a1) (3 : Int32).toNatClampNeg a1) (4 : Int32).toNatClampNeg a1)))] H := hP
            have hD : va_D A [(l0, .inl (cy 0, 6, .inl (upd (upd (upd (upd (upd (fun _ => 0) (0 : Int32).toNatClampNeg a1) (1 : Int32).toNatClampNeg a1) (2 : Int32).toNatClampNeg a1) (3 : Int32).toNatClampNeg a1) (4 : Int32).toNatClampNeg a1)))] := hD
            refine lv_iinc (v := 5) (lv' := [(2, .int 5), (3, .int 6), (0, .ref l0), (1, .int a1)]) hx hb dJ7_fill_53178_14 hl (k := 0) rfl (by decide) (by decide) rfl (fun ls hl => ?_)
            refine lv_goto (tgt := 5) hx hb dJ7_fill_53178_17 (by decide) ?_
            refine lv_iload_n hx hb dJ7_fill_53178_5 rfl (lv_at hl 0 rfl) ?_
            refine lv_iload_n hx hb dJ7_fill_53178_6 rfl (lv_at hl 1 rfl) ?_
            refine lv_icmp_ge (tgt := 20) hx hb dJ7_fill_53178_7 (by decide) (fun c_6 => ?_) (fun c_6 => ?_)
            · exact absurd c_6 (by decide)
            · have _ := c_6
              refine lv_aload_n hx hb dJ7_fill_53178_10 rfl (lv_at hl 2 rfl) ?_
              refine lv_iload_n hx hb dJ7_fill_53178_11 rfl (lv_at hl 0 rfl) ?_
              refine lv_iload_n hx hb dJ7_fill_53178_12 rfl (lv_at hl 3 rfl) ?_
              refine va_iast hx hb hK.1 hP hD hS 0 0 rfl rfl (i := 5) (by unfold vp_in; decide) dJ7_fill_53178_13 (fun H locs hP hD hS => ?_)
              have hP : va_P D vwCl [(l0, .inl (cy 0, 6, .inl (upd (upd (upd (upd (upd (upd (fun _ => 0) (0 : Int32).toNatClampNeg a1) (1 : Int32).toNatClampNeg a1) (2 : Int32).toNatClampNeg a1) (3 : Int32).toNatClampNeg a1) (4 : Int32).toNatClampNeg a1) (5 : Int32).toNatClampNeg a1)))] H := hP
              have hD : va_D A [(l0, .inl (cy 0, 6, .inl (upd (upd (upd (upd (upd (upd (fun _ => 0) (0 : Int32).toNatClampNeg a1) (1 : Int32).toNatClampNeg a1) (2 : Int32).toNatClampNeg a1) (3 : Int32).toNatClampNeg a1) (4 : Int32).toNatClampNeg a1) (5 : Int32).toNatClampNeg a1)))] := hD
              refine lv_iinc (v := 6) (lv' := [(2, .int 6), (3, .int 6), (0, .ref l0), (1, .int a1)]) hx hb dJ7_fill_53178_14 hl (k := 0) rfl (by decide) (by decide) rfl (fun ls hl => ?_)
              refine lv_goto (tgt := 5) hx hb dJ7_fill_53178_17 (by decide) ?_
              refine lv_iload_n hx hb dJ7_fill_53178_5 rfl (lv_at hl 0 rfl) ?_
              refine lv_iload_n hx hb dJ7_fill_53178_6 rfl (lv_at hl 1 rfl) ?_
              refine lv_icmp_ge (tgt := 20) hx hb dJ7_fill_53178_7 (by decide) (fun c_7 => ?_) (fun c_7 => ?_)
              · have _ := c_7
                exact W.vret hx hb hr (fun t ht hW => ⟨⟨(), rfl, trivial, trivial⟩, hS.F ht⟩) hS.2.2 dJ7_fill_53178_20
              · exact absurd c_7 (by decide)

set_option maxHeartbeats 4000000 in
set_option maxRecDepth 100000 in
theorem c_X4_begin (l : Launch) (D : va_G) (cy : Nat → ClassId) (sz : Nat) (m0 : Nat) (l0 : Nat) (u0 : Nat) (a1 : Int32) (a2 : Int32) : Met l yX4_begin wsX4_begin ({ frames := 1, cells := 0, slots := 0, locals := 23 }) (va_Pc [.ref m0, .int a1, .int a2] (fun U => U.heap.size = sz ∧ va_P D vwCl [(m0, .inr (4, [.int 0, .int (-9), .ref l0, .ref u0])), (l0, .inl (cy 0, 6, .inl (fun _ => 0)))] U.heap ∧ kk_ D cy U ∧ va_D (fun _ => True) [(m0, .inr (4, [.int 0, .int (-9), .ref l0, .ref u0])), (l0, .inl (cy 0, 6, .inl (fun _ => 0)))])) (va_Qv (fun (_ : Unit) => True) (fun (_ : Unit) (_ : State) => True) (va_A [(m0, .inr (4, [.int 0, .int (-9), .ref l0, .ref u0])), (l0, .inl (cy 0, 6, .inl (fun _ => 0)))] sz)) 0 0 (va_A [(m0, .inr (4, [.int 0, .int (-9), .ref l0, .ref u0])), (l0, .inl (cy 0, 6, .inl (fun _ => 0)))] sz) := by
  refine Met.ofW (cc := cX4_begin) (maxL := 3) (ret := none) (by decide) rfl ?_
  intro p e s m args below meth c s₁ B hml hv
  obtain ⟨rfl, hsz, hP, hK, hD0⟩ := hv
  have hx := B.exec
  have hb := B.bytes
  have hr := B.returns
  have hts := atoms_spec (ws := wsX4_begin) B.pre
  have hown : s.vm.findClass RX4 = some m.cls := findClass_of_methodNamed B.named
  have hlocks := B.notSynchronized
  subst hsz
  have hD := hD0.self (sz := s.heap.size)
  generalize hAe : va_A [(m0, .inr (4, [.int 0, .int (-9), .ref l0, .ref u0])), (l0, .inl (cy 0, 6, .inl (fun _ => 0)))] s.heap.size = A at hD ⊢
  have hA : ∀ q : Nat, s.heap.size ≤ q → A q := fun q h => by rw [← hAe]; exact Or.inr h
  have hS : va_S A s.heap s.heap [] := va_S.rf
  have hl := lv_entry ([.ref m0, .int a1, .int a2]) (n := 3) (Nat.le_of_ble_eq_true rfl)
  rw [lg_entry_eq]
  generalize (lg_sl ([.ref m0, .int a1, .int a2]) ++ List.replicate (3 - (lg_sl ([.ref m0, .int a1, .int a2])).length) Slot.unset).toArray = ls at hl ⊢
  have hl : lv_has ls 3 [(0, .ref m0), (1, .int a1), (2, .int a2)] := hl
  refine lv_aload_n hx hb dX4_begin_0 rfl (lv_at hl 0 rfl) ?_
  refine lv_iload_n hx hb dX4_begin_1 rfl (lv_at hl 1 rfl) ?_
  refine va_put (ci := 4) (v := .int a1) (ty := .int) (C := RX4) (T := TX4) (N := 4) hx hb hts (fun _ h => List.mem_cons_of_mem _ (List.mem_append_right _ h)) tyX4 tyX4_ok nmX4 hown hK.1 hP hD hS 0 rfl rfl 0 (by decide) (hts (.fieldLink RX4 9 "CutAtlas$NumberMap" "kind" "I") (by decide +kernel)) (fun _ h9 => h9) rfl (by decide +kernel) rfl rfl (Nat.le_of_ble_eq_true rfl) dX4_begin_2 (fun H locs hP hD hS => ?_)
  have hP : va_P D vwCl [(m0, .inr (4, [.int a1, .int (-9), .ref l0, .ref u0])), (l0, .inl (cy 0, 6, .inl (fun _ => 0)))] H := hP
  have hD : va_D A [(m0, .inr (4, [.int a1, .int (-9), .ref l0, .ref u0])), (l0, .inl (cy 0, 6, .inl (fun _ => 0)))] := hD
  refine lv_aload_n hx hb dX4_begin_5 rfl (lv_at hl 0 rfl) ?_
  refine lv_iload_n hx hb dX4_begin_6 rfl (lv_at hl 2 rfl) ?_
  refine va_put (ci := 4) (v := .int a2) (ty := .int) (C := RX4) (T := TX4) (N := 4) hx hb hts (fun _ h => List.mem_cons_of_mem _ (List.mem_append_right _ h)) tyX4 tyX4_ok nmX4 hown hK.1 hP hD hS 0 rfl rfl 1 (by decide) (hts (.fieldLink RX4 15 "CutAtlas$NumberMap" "rows" "I") (by decide +kernel)) (fun _ h9 => h9) rfl (by decide +kernel) rfl rfl (Nat.le_of_ble_eq_true rfl) dX4_begin_7 (fun H locs hP hD hS => ?_)
  have hP : va_P D vwCl [(m0, .inr (4, [.int a1, .int a2, .ref l0, .ref u0])), (l0, .inl (cy 0, 6, .inl (fun _ => 0)))] H := hP
  have hD : va_D A [(m0, .inr (4, [.int a1, .int a2, .ref l0, .ref u0])), (l0, .inl (cy 0, 6, .inl (fun _ => 0)))] := hD
  refine lv_aload_n hx hb dX4_begin_10 rfl (lv_at hl 0 rfl) ?_
  refine va_get (ci := 4) (v := .ref l0) (C := RX4) (T := TX4) (N := 4) hx hb hts (fun _ h => List.mem_cons_of_mem _ (List.mem_append_right _ h)) hown hK.1 hP 0 rfl rfl 2 (by decide) (hts (.fieldLink RX4 18 "CutAtlas$NumberMap" "lengths" "[I") (by decide +kernel)) (fun _ h9 => h9) rfl dX4_begin_11 ?_
  refine lv_bipush (v := (-9)) hx hb dX4_begin_14 (by decide) ?_
  have hPc := hP.sub (ws' := [(l0, .inl (cy 0, 6, .inl (fun _ => 0)))]) [1] rfl
  have hDc := hD.sub (ws' := [(l0, .inl (cy 0, 6, .inl (fun _ => 0)))]) [1] (by decide) rfl
  have hDw : va_D (fun _ => True) [(l0, .inl (cy 0, 6, .inl (fun _ => 0)))] := hDc.weaken (fun _ _ _ _ => trivial)
  have hFc := va_free (wc := [(l0, .inl (cy 0, 6, .inl (fun _ => 0)))]) hD hS hA [1] rfl
  refine va_callv (va_runS (As := [.ref l0, .int (-9)]) (rest := []) ⟨hx, hb, hml, hown, hts⟩ (c_J7_fill_53178 l D cy H.size l0 ((-9) : Int32)) (va_cwS 2 hts gX4_begin_J7_fill_53178 rfl rfl rfl (by decide +kernel) ⟨Nat.le_of_ble_eq_true rfl, Nat.le_of_ble_eq_true rfl⟩) ⟨bl_, fun U hU hW => ⟨rfl, by rw [hU], by rw [hU]; exact hPc, kk_mv hW hK, hDw⟩⟩ rfl rfl hl.1 rfl (lv_room (Nat.le_of_ble_eq_true rfl)) dX4_begin_16 ⟨Nat.le_of_ble_eq_true rfl, Nat.le_of_ble_eq_true rfl⟩) hS (fun q _ h => hFc q h) hFc (fun u t H locs ht hvm hw hB hz1 hk1 hS => ?_)
  obtain ⟨hP, hD⟩ := va_join (wr := [(m0, .inr (4, [.int a1, .int a2, .ref l0, .ref u0]))]) (w1 := []) hP hD [1] [0] rfl rfl (by decide) (by decide) hk1 hFc pp_nil dd_nil
  have hP : va_P D vwCl [(m0, .inr (4, [.int a1, .int a2, .ref l0, .ref u0]))] H := hP
  have hD : va_D A [(m0, .inr (4, [.int a1, .int a2, .ref l0, .ref u0]))] := hD
  exact W.vret hx hb hr (fun t ht hW => ⟨⟨(), rfl, trivial, trivial⟩, hS.F ht⟩) hS.2.2 dX4_begin_19
