/-- the ends of the lines: a line that is missing, or two places -/
noncomputable def prng (f g : Nat → Int32) (n : Nat) : Prop := ∀ j : Nat, j < n → (f j).toInt = -9 ∨ (0 ≤ (f j).toInt ∧ (f j).toInt ≤ 11 ∧ 0 ≤ (g j).toInt ∧ (g j).toInt ≤ 11)
theorem prng_st {f g f' g' : Nat → Int32} {n k : Nat} {x y : Int32} (e1 : f' = upd f k x) (e2 : g' = upd g k y) (h : prng f g n) (hx : x.toInt = -9 ∨ (0 ≤ x.toInt ∧ x.toInt ≤ 11 ∧ 0 ≤ y.toInt ∧ y.toInt ≤ 11)) : prng f' g' n := fun j hj => by
  rw [e1, e2]
  by_cases e : j = k
  · subst e
    rw [pk_us, pk_us]
    exact hx
  · rw [pk_un e, pk_un e]
    exact h j hj

set_option maxHeartbeats 4000000 in
set_option maxRecDepth 100000 in
theorem c_X3_hasPlace (l : Launch) (D : va_G) (cy : Nat → ClassId) (sz : Nat) (xn : Nat) (n1 : Nat) (n2 : Nat) (n3 : Nat) (n4 : Nat) (n5 : Nat) (vp : Int32) (vn : Int32) (a1 : Int64) : Met l yX3_hasPlace wsX3_hasPlace ({ frames := 0, cells := 0, slots := 0, locals := 0 }) (va_Pc [.ref xn, .long a1] (fun U => U.heap.size = sz ∧ va_P D vwCl [(xn, .inr (3, [.int vp, .int vn, .ref n1, .ref n2, .ref n3, .ref n4, .ref n5]))] U.heap ∧ kk_ D cy U ∧ va_D (fun _ => True) [(xn, .inr (3, [.int vp, .int vn, .ref n1, .ref n2, .ref n3, .ref n4, .ref n5]))])) (va_Qi (fun (r : Int32) (_ : Unit) => ((0 ≤ a1.toInt ∧ a1.toInt < vp.toInt) ∧ r = 1) ∨ ((¬ (0 ≤ a1.toInt ∧ a1.toInt < vp.toInt)) ∧ r = 0)) (fun (_ : Unit) (_ : State) => True) (va_A [] sz)) 0 0 (va_A [] sz) := by
  refine ofQ (cc := cX3_hasPlace) (maxL := 3) (ret := (some .boolean)) (by decide) rfl ?_
  intro p e s m args below meth c s₁ Q hQ B hml hv
  obtain ⟨rfl, hsz, hP, hK, hD0⟩ := hv
  have hx := B.exec
  have hb := B.bytes
  have hr := B.returns
  have hts := atoms_spec (ws := wsX3_hasPlace) B.pre
  have hown : s.vm.findClass RX3 = some m.cls := by have h_ := findClass_of_methodNamed B.named; exact h_
  have hlocks := B.notSynchronized
  subst hsz
  have hD : va_D (va_A [] s.heap.size) [] := dd_nil
  generalize hAe : va_A [] s.heap.size = A at hD hQ
  have hA : ∀ q : Nat, s.heap.size ≤ q → A q := fun q h => by rw [← hAe]; exact Or.inr h
  have hS : va_S A s.heap s.heap [] := va_S.rf
  have hl := lv_entry ([.ref xn, .long a1]) (n := 3) (Nat.le_of_ble_eq_true rfl)
  rw [lg_entry_eq]
  generalize (lg_sl ([.ref xn, .long a1]) ++ List.replicate (3 - (lg_sl ([.ref xn, .long a1])).length) Slot.unset).toArray = ls at hl ⊢
  have hl : lv_has ls 3 [(0, .ref xn), (1, .long a1)] := hl
  have z0 : (0 : Int32).toInt = 0 := by decide
  have zl0 : (0 : Int64).toInt = 0 := by decide
  have z1 : (1 : Int32).toInt = 1 := by decide
  refine lv_lload_n hx hb dX3_hasPlace_0 rfl (lv_at hl 1 rfl) ?_
  refine lv_lconst (v := 0) hx hb dX3_hasPlace_1 (by decide) ?_
  refine W.lcmp hx hb dX3_hasPlace_2 ?_
  refine lv_if_lt (tgt := 20) hx hb dX3_hasPlace_3 (by decide) (fun c_1 => ?_) (fun c_1 => ?_)
  · have t_1 : a1.toInt < (0 : Int64).toInt := Int64.lt_iff_toInt_lt.mp ((lg_cmp_lt a1 0).mp c_1)
    refine lv_iconst (v := 0) hx hb dX3_hasPlace_20 (by decide) ?_
    rw [hQ]
    exact W.zret (ty := .boolean) (v := 0) hx hb hr (by decide) (fun t ht hW => ⟨⟨0, (), rfl, Or.inr (⟨by omega, rfl⟩), trivial⟩, hS.F ht⟩) hS.2.2 dX3_hasPlace_21
  · have t_1 : ¬ a1.toInt < (0 : Int64).toInt := fun h => c_1 ((lg_cmp_lt a1 0).mpr (Int64.lt_iff_toInt_lt.mpr h))
    refine lv_lload_n hx hb dX3_hasPlace_6 rfl (lv_at hl 1 rfl) ?_
    refine lv_aload_n hx hb dX3_hasPlace_7 rfl (lv_at hl 0 rfl) ?_
    refine va_get (ci := 3) (v := .int vp) (C := RX3) (T := TX3) (N := 7) hx hb hts (fun _ h => List.mem_cons_of_mem _ (List.mem_append_right _ h)) hown hK.1 hP 0 rfl rfl 0 (by decide) (hts (.fieldLink RX3 9 "CutAtlas$Net" "places" "I") (by decide +kernel)) (fun _ h9 => h9) rfl dX3_hasPlace_8 ?_
    refine lv_i2l (v := vp.toInt64) hx hb dX3_hasPlace_11 rfl ?_
    have q_11 : (vp.toInt64).toInt = vp.toInt := Int32.toInt_toInt64 vp
    refine W.lcmp hx hb dX3_hasPlace_12 ?_
    refine lv_if_ge (tgt := 20) hx hb dX3_hasPlace_13 (by decide) (fun c_2 => ?_) (fun c_2 => ?_)
    · have t_2 : vp.toInt64.toInt ≤ a1.toInt := Int64.le_iff_toInt_le.mp ((lg_cmp_ge a1 vp.toInt64).mp c_2)
      refine lv_iconst (v := 0) hx hb dX3_hasPlace_20 (by decide) ?_
      rw [hQ]
      exact W.zret (ty := .boolean) (v := 0) hx hb hr (by decide) (fun t ht hW => ⟨⟨0, (), rfl, Or.inr (⟨by omega, rfl⟩), trivial⟩, hS.F ht⟩) hS.2.2 dX3_hasPlace_21
    · have t_2 : ¬ vp.toInt64.toInt ≤ a1.toInt := fun h => c_2 ((lg_cmp_ge a1 vp.toInt64).mpr (Int64.le_iff_toInt_le.mpr h))
      refine lv_iconst (v := 1) hx hb dX3_hasPlace_16 (by decide) ?_
      refine lv_goto (tgt := 21) hx hb dX3_hasPlace_17 (by decide) ?_
      rw [hQ]
      exact W.zret (ty := .boolean) (v := 1) hx hb hr (by decide) (fun t ht hW => ⟨⟨1, (), rfl, Or.inl (⟨by omega, rfl⟩), trivial⟩, hS.F ht⟩) hS.2.2 dX3_hasPlace_21

set_option maxHeartbeats 4000000 in
set_option maxRecDepth 100000 in
theorem c_X3_hasPair (l : Launch) (D : va_G) (cy : Nat → ClassId) (sz : Nat) (xn : Nat) (n1 : Nat) (n2 : Nat) (n3 : Nat) (n4 : Nat) (n5 : Nat) (vp : Int32) (vn : Int32) (a1 : Int64) (a2 : Int64) : Met l yX3_hasPair wsX3_hasPair ({ frames := 1, cells := 0, slots := 0, locals := 22 }) (va_Pc [.ref xn, .long a1, .long a2] (fun U => U.heap.size = sz ∧ va_P D vwCl [(xn, .inr (3, [.int vp, .int vn, .ref n1, .ref n2, .ref n3, .ref n4, .ref n5]))] U.heap ∧ kk_ D cy U ∧ va_D (fun _ => True) [(xn, .inr (3, [.int vp, .int vn, .ref n1, .ref n2, .ref n3, .ref n4, .ref n5]))])) (va_Qi (fun (r : Int32) (_ : Unit) => (((0 ≤ a1.toInt ∧ a1.toInt < vp.toInt) ∧ (0 ≤ a2.toInt ∧ a2.toInt < vp.toInt) ∧ a1.toInt ≠ a2.toInt) ∧ r = 1) ∨ ((¬ ((0 ≤ a1.toInt ∧ a1.toInt < vp.toInt) ∧ (0 ≤ a2.toInt ∧ a2.toInt < vp.toInt) ∧ a1.toInt ≠ a2.toInt)) ∧ r = 0)) (fun (_ : Unit) (_ : State) => True) (va_A [] sz)) 0 0 (va_A [] sz) := by
  refine ofQ (cc := cX3_hasPair) (maxL := 5) (ret := (some .boolean)) (by decide) rfl ?_
  intro p e s m args below meth c s₁ Q hQ B hml hv
  obtain ⟨rfl, hsz, hP, hK, hD0⟩ := hv
  have hx := B.exec
  have hb := B.bytes
  have hr := B.returns
  have hts := atoms_spec (ws := wsX3_hasPair) B.pre
  have hown : s.vm.findClass RX3 = some m.cls := by have h_ := findClass_of_methodNamed B.named; exact h_
  have hlocks := B.notSynchronized
  subst hsz
  have hD : va_D (va_A [] s.heap.size) [] := dd_nil
  generalize hAe : va_A [] s.heap.size = A at hD hQ
  have hA : ∀ q : Nat, s.heap.size ≤ q → A q := fun q h => by rw [← hAe]; exact Or.inr h
  have hS : va_S A s.heap s.heap [] := va_S.rf
  have hl := lv_entry ([.ref xn, .long a1, .long a2]) (n := 5) (Nat.le_of_ble_eq_true rfl)
  rw [lg_entry_eq]
  generalize (lg_sl ([.ref xn, .long a1, .long a2]) ++ List.replicate (5 - (lg_sl ([.ref xn, .long a1, .long a2])).length) Slot.unset).toArray = ls at hl ⊢
  have hl : lv_has ls 5 [(0, .ref xn), (1, .long a1), (3, .long a2)] := hl
  have z0 : (0 : Int32).toInt = 0 := by decide
  have z1 : (1 : Int32).toInt = 1 := by decide
  refine lv_aload_n hx hb dX3_hasPair_0 rfl (lv_at hl 0 rfl) ?_
  refine lv_lload_n hx hb dX3_hasPair_1 rfl (lv_at hl 1 rfl) ?_
  refine ct_R hP hD0 [(xn, .inr (3, [.int vp, .int vn, .ref n1, .ref n2, .ref n3, .ref n4, .ref n5]))] [0] (by decide) rfl (fun hPc hDw => ?_)
  have hFc := va_free (wc := []) hD hS hA [] rfl
  refine va_calli (va_runV (As := [.long a1]) (rest := []) ⟨hx, hb, hml, hown, hts⟩ (c_X3_hasPlace l D cy s.heap.size xn n1 n2 n3 n4 n5 vp vn a1) (cwV 1 hts gX3_hasPair_X3_hasPlace rfl rfl rfl (by decide +kernel) ⟨Nat.le_of_ble_eq_true rfl, Nat.le_of_ble_eq_true rfl⟩) ⟨bl_, va_recvX hK.1 hP (ci := 3) (q0 := 0) rfl rfl, fun U hU hW => ⟨rfl, by rw [hU], by rw [hU]; exact hPc, kk_mv hW hK, hDw⟩⟩ rfl rfl hl.1 rfl (lv_room (Nat.le_of_ble_eq_true rfl)) dX3_hasPair_2 ⟨Nat.le_of_ble_eq_true rfl, Nat.le_of_ble_eq_true rfl⟩) hS (fun q _ h => hFc q h) hFc (fun r_1 u t H locs ht hvm hw hB hz1 hk1 hS => ?_)
  have hP : va_P D vwCl _ H := ro_keep hP hk1
  rcases hw with ⟨w_2, e_⟩ | ⟨w_2, e_⟩
  · have e_ := e_.symm
    subst e_
    refine lv_if_eq (tgt := 26) hx hb dX3_hasPair_5 (by decide) (fun c_3 => ?_) (fun c_3 => ?_)
    · exact absurd c_3 (by decide)
    · have _ := c_3
      refine lv_aload_n hx hb dX3_hasPair_8 rfl (lv_at hl 0 rfl) ?_
      refine lv_lload_n hx hb dX3_hasPair_9 rfl (lv_at hl 2 rfl) ?_
      refine ct_R hP hD0 [(xn, .inr (3, [.int vp, .int vn, .ref n1, .ref n2, .ref n3, .ref n4, .ref n5]))] [0] (by decide) rfl (fun hPc hDw => ?_)
      have hFc := va_free (wc := []) hD hS hA [] rfl
      refine va_calli (va_runV (As := [.long a2]) (rest := []) ⟨hx, hb, hml, hown, hts⟩ (c_X3_hasPlace l D cy H.size xn n1 n2 n3 n4 n5 vp vn a2) (cwV 1 hts gX3_hasPair_X3_hasPlace rfl rfl rfl (by decide +kernel) ⟨Nat.le_of_ble_eq_true rfl, Nat.le_of_ble_eq_true rfl⟩) ⟨bl_, va_recvX hK.1 hP (ci := 3) (q0 := 0) rfl rfl, fun U hU hW => ⟨rfl, by rw [hU], by rw [hU]; exact hPc, kk_mv hW hK, hDw⟩⟩ rfl rfl hl.1 rfl (lv_room (Nat.le_of_ble_eq_true rfl)) dX3_hasPair_10 ⟨Nat.le_of_ble_eq_true rfl, Nat.le_of_ble_eq_true rfl⟩) hS (fun q _ h => hFc q h) hFc (fun r_4 u t H locs ht hvm hw hB hz1 hk1 hS => ?_)
      have hP : va_P D vwCl _ H := ro_keep hP hk1
      rcases hw with ⟨w_5, e_⟩ | ⟨w_5, e_⟩
      · have e_ := e_.symm
        subst e_
        refine lv_if_eq (tgt := 26) hx hb dX3_hasPair_13 (by decide) (fun c_6 => ?_) (fun c_6 => ?_)
        · exact absurd c_6 (by decide)
        · have _ := c_6
          refine lv_lload_n hx hb dX3_hasPair_16 rfl (lv_at hl 1 rfl) ?_
          refine lv_lload_n hx hb dX3_hasPair_17 rfl (lv_at hl 2 rfl) ?_
          refine W.lcmp hx hb dX3_hasPair_18 ?_
          refine lv_if_eq (tgt := 26) hx hb dX3_hasPair_19 (by decide) (fun c_7 => ?_) (fun c_7 => ?_)
          · have t_7 : a1.toInt = a2.toInt := congrArg Int64.toInt ((lg_cmp_eq a1 a2).mp c_7)
            refine lv_iconst (v := 0) hx hb dX3_hasPair_26 (by decide) ?_
            rw [hQ]
            exact W.zret (ty := .boolean) (v := 0) hx hb hr (by decide) (fun t ht hW => ⟨⟨0, (), rfl, Or.inr (⟨by omega, rfl⟩), trivial⟩, hS.F ht⟩) hS.2.2 dX3_hasPair_27
          · have t_7 : ¬ a1.toInt = a2.toInt := fun h => c_7 ((lg_cmp_eq a1 a2).mpr (Int64.toInt_inj.mp h))
            refine lv_iconst (v := 1) hx hb dX3_hasPair_22 (by decide) ?_
            refine lv_goto (tgt := 27) hx hb dX3_hasPair_23 (by decide) ?_
            rw [hQ]
            exact W.zret (ty := .boolean) (v := 1) hx hb hr (by decide) (fun t ht hW => ⟨⟨1, (), rfl, Or.inl (⟨by omega, rfl⟩), trivial⟩, hS.F ht⟩) hS.2.2 dX3_hasPair_27
      · have e_ := e_.symm
        subst e_
        refine lv_if_eq (tgt := 26) hx hb dX3_hasPair_13 (by decide) (fun c_8 => ?_) (fun c_8 => ?_)
        · have _ := c_8
          refine lv_iconst (v := 0) hx hb dX3_hasPair_26 (by decide) ?_
          rw [hQ]
          exact W.zret (ty := .boolean) (v := 0) hx hb hr (by decide) (fun t ht hW => ⟨⟨0, (), rfl, Or.inr (⟨by omega, rfl⟩), trivial⟩, hS.F ht⟩) hS.2.2 dX3_hasPair_27
        · exact absurd c_8 (by decide)
  · have e_ := e_.symm
    subst e_
    refine lv_if_eq (tgt := 26) hx hb dX3_hasPair_5 (by decide) (fun c_9 => ?_) (fun c_9 => ?_)
    · have _ := c_9
      refine lv_iconst (v := 0) hx hb dX3_hasPair_26 (by decide) ?_
      rw [hQ]
      exact W.zret (ty := .boolean) (v := 0) hx hb hr (by decide) (fun t ht hW => ⟨⟨0, (), rfl, Or.inr (⟨by omega, rfl⟩), trivial⟩, hS.F ht⟩) hS.2.2 dX3_hasPair_27
    · exact absurd c_9 (by decide)

set_option maxHeartbeats 4000000 in
set_option maxRecDepth 100000 in
theorem c_X3_hasLine (l : Launch) (D : va_G) (cy : Nat → ClassId) (sz : Nat) (xn : Nat) (n1 : Nat) (n2 : Nat) (n3 : Nat) (n4 : Nat) (n5 : Nat) (vp : Int32) (vn : Int32) (a1 : Int32) : Met l yX3_hasLine wsX3_hasLine ({ frames := 0, cells := 0, slots := 0, locals := 0 }) (va_Pc [.ref xn, .int a1] (fun U => U.heap.size = sz ∧ va_P D vwCl [(xn, .inr (3, [.int vp, .int vn, .ref n1, .ref n2, .ref n3, .ref n4, .ref n5]))] U.heap ∧ kk_ D cy U ∧ va_D (fun _ => True) [(xn, .inr (3, [.int vp, .int vn, .ref n1, .ref n2, .ref n3, .ref n4, .ref n5]))])) (va_Qi (fun (r : Int32) (_ : Unit) => ((0 ≤ a1.toInt ∧ a1.toInt < vn.toInt) ∧ r = 1) ∨ ((¬ (0 ≤ a1.toInt ∧ a1.toInt < vn.toInt)) ∧ r = 0)) (fun (_ : Unit) (_ : State) => True) (va_A [] sz)) 0 0 (va_A [] sz) := by
  refine ofQ (cc := cX3_hasLine) (maxL := 2) (ret := (some .boolean)) (by decide) rfl ?_
  intro p e s m args below meth c s₁ Q hQ B hml hv
  obtain ⟨rfl, hsz, hP, hK, hD0⟩ := hv
  have hx := B.exec
  have hb := B.bytes
  have hr := B.returns
  have hts := atoms_spec (ws := wsX3_hasLine) B.pre
  have hown : s.vm.findClass RX3 = some m.cls := by have h_ := findClass_of_methodNamed B.named; exact h_
  have hlocks := B.notSynchronized
  subst hsz
  have hD : va_D (va_A [] s.heap.size) [] := dd_nil
  generalize hAe : va_A [] s.heap.size = A at hD hQ
  have hA : ∀ q : Nat, s.heap.size ≤ q → A q := fun q h => by rw [← hAe]; exact Or.inr h
  have hS : va_S A s.heap s.heap [] := va_S.rf
  have hl := lv_entry ([.ref xn, .int a1]) (n := 2) (Nat.le_of_ble_eq_true rfl)
  rw [lg_entry_eq]
  generalize (lg_sl ([.ref xn, .int a1]) ++ List.replicate (2 - (lg_sl ([.ref xn, .int a1])).length) Slot.unset).toArray = ls at hl ⊢
  have hl : lv_has ls 2 [(0, .ref xn), (1, .int a1)] := hl
  have z0 : (0 : Int32).toInt = 0 := by decide
  have z1 : (1 : Int32).toInt = 1 := by decide
  refine lv_iload_n hx hb dX3_hasLine_0 rfl (lv_at hl 1 rfl) ?_
  refine lv_if_lt (tgt := 16) hx hb dX3_hasLine_1 (by decide) (fun c_1 => ?_) (fun c_1 => ?_)
  · have t_1 : a1.toInt < (0 : Int32).toInt := Int32.lt_iff_toInt_lt.mp c_1
    refine lv_iconst (v := 0) hx hb dX3_hasLine_16 (by decide) ?_
    rw [hQ]
    exact W.zret (ty := .boolean) (v := 0) hx hb hr (by decide) (fun t ht hW => ⟨⟨0, (), rfl, Or.inr (⟨by omega, rfl⟩), trivial⟩, hS.F ht⟩) hS.2.2 dX3_hasLine_17
  · have t_1 : ¬ a1.toInt < (0 : Int32).toInt := fun h => c_1 (Int32.lt_iff_toInt_lt.mpr h)
    refine lv_iload_n hx hb dX3_hasLine_4 rfl (lv_at hl 1 rfl) ?_
    refine lv_aload_n hx hb dX3_hasLine_5 rfl (lv_at hl 0 rfl) ?_
    refine va_get (ci := 3) (v := .int vn) (C := RX3) (T := TX3) (N := 7) hx hb hts (fun _ h => List.mem_cons_of_mem _ (List.mem_append_right _ h)) hown hK.1 hP 0 rfl rfl 1 (by decide) (hts (.fieldLink RX3 15 "CutAtlas$Net" "lines" "I") (by decide +kernel)) (fun _ h9 => h9) rfl dX3_hasLine_6 ?_
    refine lv_icmp_ge (tgt := 16) hx hb dX3_hasLine_9 (by decide) (fun c_2 => ?_) (fun c_2 => ?_)
    · have t_2 : vn.toInt ≤ a1.toInt := Int32.le_iff_toInt_le.mp c_2
      refine lv_iconst (v := 0) hx hb dX3_hasLine_16 (by decide) ?_
      rw [hQ]
      exact W.zret (ty := .boolean) (v := 0) hx hb hr (by decide) (fun t ht hW => ⟨⟨0, (), rfl, Or.inr (⟨by omega, rfl⟩), trivial⟩, hS.F ht⟩) hS.2.2 dX3_hasLine_17
    · have t_2 : ¬ vn.toInt ≤ a1.toInt := fun h => c_2 (Int32.le_iff_toInt_le.mpr h)
      refine lv_iconst (v := 1) hx hb dX3_hasLine_12 (by decide) ?_
      refine lv_goto (tgt := 17) hx hb dX3_hasLine_13 (by decide) ?_
      rw [hQ]
      exact W.zret (ty := .boolean) (v := 1) hx hb hr (by decide) (fun t ht hW => ⟨⟨1, (), rfl, Or.inl (⟨by omega, rfl⟩), trivial⟩, hS.F ht⟩) hS.2.2 dX3_hasLine_17

set_option maxHeartbeats 4000000 in
set_option maxRecDepth 100000 in
theorem c_X3_isMissing (l : Launch) (D : va_G) (cy : Nat → ClassId) (sz : Nat) (xn : Nat) (n1 : Nat) (n2 : Nat) (n3 : Nat) (n4 : Nat) (n5 : Nat) (vp : Int32) (vn : Int32) (fs : Nat → Int32) (a1 : Int32) (q1 : 0 ≤ a1.toInt ∧ a1.toInt < 40) : Met l yX3_isMissing wsX3_isMissing ({ frames := 0, cells := 0, slots := 0, locals := 0 }) (va_Pc [.ref xn, .int a1] (fun U => U.heap.size = sz ∧ va_P D vwCl [(xn, .inr (3, [.int vp, .int vn, .ref n1, .ref n2, .ref n3, .ref n4, .ref n5])), (n2, .inl (cy 0, 40, .inl fs))] U.heap ∧ kk_ D cy U ∧ va_D (fun _ => True) [(xn, .inr (3, [.int vp, .int vn, .ref n1, .ref n2, .ref n3, .ref n4, .ref n5])), (n2, .inl (cy 0, 40, .inl fs))])) (va_Qi (fun (r : Int32) (_ : Unit) => (((fs a1.toNatClampNeg).toInt = -9) ∧ r = 1) ∨ ((¬ ((fs a1.toNatClampNeg).toInt = -9)) ∧ r = 0)) (fun (_ : Unit) (_ : State) => True) (va_A [] sz)) 0 0 (va_A [] sz) := by
  refine ofQ (cc := cX3_isMissing) (maxL := 2) (ret := (some .boolean)) (by decide) rfl ?_
  intro p e s m args below meth c s₁ Q hQ B hml hv
  obtain ⟨rfl, hsz, hP, hK, hD0⟩ := hv
  have hx := B.exec
  have hb := B.bytes
  have hr := B.returns
  have hts := atoms_spec (ws := wsX3_isMissing) B.pre
  have hown : s.vm.findClass RX3 = some m.cls := by have h_ := findClass_of_methodNamed B.named; exact h_
  have hlocks := B.notSynchronized
  subst hsz
  have hD : va_D (va_A [] s.heap.size) [] := dd_nil
  generalize hAe : va_A [] s.heap.size = A at hD hQ
  have hA : ∀ q : Nat, s.heap.size ≤ q → A q := fun q h => by rw [← hAe]; exact Or.inr h
  have hS : va_S A s.heap s.heap [] := va_S.rf
  have hl := lv_entry ([.ref xn, .int a1]) (n := 2) (Nat.le_of_ble_eq_true rfl)
  rw [lg_entry_eq]
  generalize (lg_sl ([.ref xn, .int a1]) ++ List.replicate (2 - (lg_sl ([.ref xn, .int a1])).length) Slot.unset).toArray = ls at hl ⊢
  have hl : lv_has ls 2 [(0, .ref xn), (1, .int a1)] := hl
  have zm9 : ((-9) : Int32).toInt = -9 := by decide
  have z0 : (0 : Int32).toInt = 0 := by decide
  have z1 : (1 : Int32).toInt = 1 := by decide
  refine lv_aload_n hx hb dX3_isMissing_0 rfl (lv_at hl 0 rfl) ?_
  refine va_get (ci := 3) (v := .ref n2) (C := RX3) (T := TX3) (N := 7) hx hb hts (fun _ h => List.mem_cons_of_mem _ (List.mem_append_right _ h)) hown hK.1 hP 0 rfl rfl 3 (by decide) (hts (.fieldLink RX3 22 "CutAtlas$Net" "starts" "[I") (by decide +kernel)) (fun _ h9 => h9) rfl dX3_isMissing_1 ?_
  refine lv_iload_n hx hb dX3_isMissing_4 rfl (lv_at hl 1 rfl) ?_
  have h_1 : vp_in a1 40 := in_I (by omega) (by omega)
  refine va_iald hx hb hK.1 hP 1 0 rfl rfl (i := a1) h_1 dX3_isMissing_5 ?_
  refine lv_topi (fun y_2 ey_2 => ?_)
  refine lv_bipush (v := (-9)) hx hb dX3_isMissing_6 (by decide) ?_
  refine lv_icmp_ne (tgt := 15) hx hb dX3_isMissing_8 (by decide) (fun c_3 => ?_) (fun c_3 => ?_)
  · have t_3 : ¬ y_2.toInt = ((-9) : Int32).toInt := fun h => c_3 (Int32.toInt_inj.mp h)
    refine lv_iconst (v := 0) hx hb dX3_isMissing_15 (by decide) ?_
    rw [hQ]
    exact W.zret (ty := .boolean) (v := 0) hx hb hr (by decide) (fun t ht hW => ⟨⟨0, (), rfl, Or.inr (⟨by rw [← ey_2]; omega, rfl⟩), trivial⟩, hS.F ht⟩) hS.2.2 dX3_isMissing_16
  · have t_3 : y_2.toInt = ((-9) : Int32).toInt := congrArg Int32.toInt c_3
    refine lv_iconst (v := 1) hx hb dX3_isMissing_11 (by decide) ?_
    refine lv_goto (tgt := 16) hx hb dX3_isMissing_12 (by decide) ?_
    rw [hQ]
    exact W.zret (ty := .boolean) (v := 1) hx hb hr (by decide) (fun t ht hW => ⟨⟨1, (), rfl, Or.inl (⟨by rw [← ey_2]; omega, rfl⟩), trivial⟩, hS.F ht⟩) hS.2.2 dX3_isMissing_16

set_option maxHeartbeats 4000000 in
set_option maxRecDepth 100000 in
theorem c_X3_missingLines (l : Launch) (D : va_G) (cy : Nat → ClassId) (sz : Nat) (xn : Nat) (n1 : Nat) (n2 : Nat) (n3 : Nat) (n4 : Nat) (n5 : Nat) (vp : Int32) (vn : Int32) (fs : Nat → Int32) (hvn : 0 ≤ vn.toInt ∧ vn.toInt ≤ 40) : Met l yX3_missingLines wsX3_missingLines ({ frames := 1, cells := 0, slots := 0, locals := 21 }) (va_Pc [.ref xn] (fun U => U.heap.size = sz ∧ va_P D vwCl [(xn, .inr (3, [.int vp, .int vn, .ref n1, .ref n2, .ref n3, .ref n4, .ref n5])), (n2, .inl (cy 0, 40, .inl fs))] U.heap ∧ kk_ D cy U ∧ va_D (fun _ => True) [(xn, .inr (3, [.int vp, .int vn, .ref n1, .ref n2, .ref n3, .ref n4, .ref n5])), (n2, .inl (cy 0, 40, .inl fs))])) (va_Qi (fun (r : Int32) (_ : Unit) => True) (fun (_ : Unit) (_ : State) => True) (va_A [] sz)) 0 0 (va_A [] sz) := by
  refine ofQ (cc := cX3_missingLines) (maxL := 3) (ret := (some .int)) (by decide) rfl ?_
  intro p e s m args below meth c s₁ Q hQ B hml hv
  obtain ⟨rfl, hsz, hP, hK, hD0⟩ := hv
  have hx := B.exec
  have hb := B.bytes
  have hr := B.returns
  have hts := atoms_spec (ws := wsX3_missingLines) B.pre
  have hown : s.vm.findClass RX3 = some m.cls := by have h_ := findClass_of_methodNamed B.named; exact h_
  have hlocks := B.notSynchronized
  subst hsz
  have hD : va_D (va_A [] s.heap.size) [] := dd_nil
  generalize hAe : va_A [] s.heap.size = A at hD hQ
  have hA : ∀ q : Nat, s.heap.size ≤ q → A q := fun q h => by rw [← hAe]; exact Or.inr h
  have hS : va_S A s.heap s.heap [] := va_S.rf
  have hl := lv_entry ([.ref xn]) (n := 3) (Nat.le_of_ble_eq_true rfl)
  rw [lg_entry_eq]
  generalize (lg_sl ([.ref xn]) ++ List.replicate (3 - (lg_sl ([.ref xn])).length) Slot.unset).toArray = ls at hl ⊢
  have hl : lv_has ls 3 [(0, .ref xn)] := hl
  have z0 : (0 : Int32).toInt = 0 := by decide
  have z1 : (1 : Int32).toInt = 1 := by decide
  refine lv_iconst (v := 0) hx hb dX3_missingLines_0 (by decide) ?_
  refine lv_istore_n (lv' := [(1, .int 0), (0, .ref xn)]) hx hb dX3_missingLines_1 rfl hl (by decide) rfl (fun ls hl => ?_)
  refine lv_iconst (v := 0) hx hb dX3_missingLines_2 (by decide) ?_
  refine lv_istore_n (lv' := [(2, .int 0), (1, .int 0), (0, .ref xn)]) hx hb dX3_missingLines_3 rfl hl (by decide) rfl (fun ls hl => ?_)
  suffices LOOP_1 : ∀ (n_1 : Nat) (x2_1 : Int32) (x1_1 : Int32) (H : Heap) (locs : List Loc) (ls : Array Slot), vn.toInt - x2_1.toInt < (n_1 : Int) → (0 ≤ x2_1.toInt) → (x2_1.toInt ≤ vn.toInt) → va_P D vwCl [(xn, .inr (3, [.int vp, .int vn, .ref n1, .ref n2, .ref n3, .ref n4, .ref n5])), (n2, .inl (cy 0, 40, .inl fs))] H → va_S A s.heap H locs → lv_has ls 3 [(2, .int x2_1), (1, .int x1_1), (0, .ref xn)] → W p l e ({ frames := 1, cells := 0, slots := 0, locals := 21 } : Room) s m (([.ref xn] : List Value).toArray) below meth c H locs 0 0 Q (F0 m 4 ls []) from LOOP_1 ((vn.toInt - (0 : Int32).toInt).toNat + 1) (0 : Int32) (0 : Int32) _ _ _ (by omega) (by first | with_reducible assumption | assumption | omega) (by first | with_reducible assumption | assumption | omega) hP  hS (lv_sub hl [0, 1, 2] rfl)
  intro n_1
  induction n_1 with
  | zero =>
    intro x2_1 x1_1 H locs ls hm v0_1 v1_1 hP hS hl
    exact absurd hm (by omega)
  | succ n_1 ih_1 =>
    intro x2_1 x1_1 H locs ls hm v0_1 v1_1 hP hS hl
    refine lv_iload_n hx hb dX3_missingLines_4 rfl (lv_at hl 0 rfl) ?_
    refine lv_aload_n hx hb dX3_missingLines_5 rfl (lv_at hl 2 rfl) ?_
    refine va_get (ci := 3) (v := .int vn) (C := RX3) (T := TX3) (N := 7) hx hb hts (fun _ h => List.mem_cons_of_mem _ (List.mem_append_right _ h)) hown hK.1 hP 0 rfl rfl 1 (by decide) (hts (.fieldLink RX3 15 "CutAtlas$Net" "lines" "I") (by decide +kernel)) (fun _ h9 => h9) rfl dX3_missingLines_6 ?_
    refine lv_icmp_ge (tgt := 34) hx hb dX3_missingLines_9 (by decide) (fun c_2 => ?_) (fun c_2 => ?_)
    · have t_2 : vn.toInt ≤ x2_1.toInt := Int32.le_iff_toInt_le.mp c_2
      refine lv_iload_n hx hb dX3_missingLines_34 rfl (lv_at hl 1 rfl) ?_
      rw [hQ]
      exact W.iret (v := x1_1) hx hb hr (fun t ht hW => ⟨⟨x1_1, (), rfl, trivial, trivial⟩, hS.F ht⟩) hS.2.2 dX3_missingLines_35
    · have t_2 : ¬ vn.toInt ≤ x2_1.toInt := fun h => c_2 (Int32.le_iff_toInt_le.mpr h)
      refine lv_iload_n hx hb dX3_missingLines_12 rfl (lv_at hl 1 rfl) ?_
      refine lv_aload_n hx hb dX3_missingLines_13 rfl (lv_at hl 2 rfl) ?_
      refine lv_iload_n hx hb dX3_missingLines_14 rfl (lv_at hl 0 rfl) ?_
      refine ct_R hP hD0 [(xn, .inr (3, [.int vp, .int vn, .ref n1, .ref n2, .ref n3, .ref n4, .ref n5])), (n2, .inl (cy 0, 40, .inl fs))] [0, 1] (by decide) rfl (fun hPc hDw => ?_)
      have hFc := va_free (wc := []) hD hS hA [] rfl
      refine va_calli (va_runV (As := [.int x2_1]) (rest := [.int x1_1]) ⟨hx, hb, hml, hown, hts⟩ (c_X3_isMissing l D cy H.size xn n1 n2 n3 n4 n5 vp vn fs x2_1 (by first | with_reducible assumption | assumption | omega)) (cwV 1 hts gX3_missingLines_X3_isMissing rfl rfl rfl (by decide +kernel) ⟨Nat.le_of_ble_eq_true rfl, Nat.le_of_ble_eq_true rfl⟩) ⟨bl_, va_recvX hK.1 hP (ci := 3) (q0 := 0) rfl rfl, fun U hU hW => ⟨rfl, by rw [hU], by rw [hU]; exact hPc, kk_mv hW hK, hDw⟩⟩ rfl rfl hl.1 rfl (lv_room (Nat.le_of_ble_eq_true rfl)) dX3_missingLines_15 ⟨Nat.le_of_ble_eq_true rfl, Nat.le_of_ble_eq_true rfl⟩) hS (fun q _ h => hFc q h) hFc (fun r_3 u t H locs ht hvm hw hB hz1 hk1 hS => ?_)
      have hP : va_P D vwCl _ H := ro_keep hP hk1
      rcases hw with ⟨w_4, e_⟩ | ⟨w_4, e_⟩
      · have e_ := e_.symm
        subst e_
        refine lv_if_eq (tgt := 25) hx hb dX3_missingLines_18 (by decide) (fun c_5 => ?_) (fun c_5 => ?_)
        · exact absurd c_5 (by decide)
        · have _ := c_5
          refine lv_iconst (v := 1) hx hb dX3_missingLines_21 (by decide) ?_
          refine lv_goto (tgt := 26) hx hb dX3_missingLines_22 (by decide) ?_
          refine lv_iadd hx hb dX3_missingLines_26 ?_
          refine lv_topi (fun y_6 ey_6 => ?_)
          refine lv_istore_n (lv' := [(1, .int y_6), (2, .int x2_1), (0, .ref xn)]) hx hb dX3_missingLines_27 rfl hl (by decide) rfl (fun ls hl => ?_)
          obtain ⟨y_7, ey_7⟩ : ∃ y : Int32, y = x2_1 + 1 := ⟨_, rfl⟩
          have ty_7 : y_7.toInt = x2_1.toInt + (1 : Int32).toInt := by rw [ey_7]; exact addI (by omega) (by omega)
          refine lv_iinc (v := y_7) (lv' := [(2, .int y_7), (1, .int y_6), (0, .ref xn)]) hx hb dX3_missingLines_28 hl (k := 1) rfl (by rw [ey_7]; rfl) (by decide) rfl (fun ls hl => ?_)
          refine lv_goto (tgt := 4) hx hb dX3_missingLines_31 (by decide) ?_
          exact ih_1 y_7 y_6 _ _ _ (by omega) (by first | with_reducible assumption | assumption | omega) (by first | with_reducible assumption | assumption | omega) hP  hS (lv_sub hl [0, 1, 2] rfl)
      · have e_ := e_.symm
        subst e_
        refine lv_if_eq (tgt := 25) hx hb dX3_missingLines_18 (by decide) (fun c_8 => ?_) (fun c_8 => ?_)
        · have _ := c_8
          refine lv_iconst (v := 0) hx hb dX3_missingLines_25 (by decide) ?_
          refine lv_iadd hx hb dX3_missingLines_26 ?_
          refine lv_topi (fun y_9 ey_9 => ?_)
          refine lv_istore_n (lv' := [(1, .int y_9), (2, .int x2_1), (0, .ref xn)]) hx hb dX3_missingLines_27 rfl hl (by decide) rfl (fun ls hl => ?_)
          obtain ⟨y_10, ey_10⟩ : ∃ y : Int32, y = x2_1 + 1 := ⟨_, rfl⟩
          have ty_10 : y_10.toInt = x2_1.toInt + (1 : Int32).toInt := by rw [ey_10]; exact addI (by omega) (by omega)
          refine lv_iinc (v := y_10) (lv' := [(2, .int y_10), (1, .int y_9), (0, .ref xn)]) hx hb dX3_missingLines_28 hl (k := 1) rfl (by rw [ey_10]; rfl) (by decide) rfl (fun ls hl => ?_)
          refine lv_goto (tgt := 4) hx hb dX3_missingLines_31 (by decide) ?_
          exact ih_1 y_10 y_9 _ _ _ (by omega) (by first | with_reducible assumption | assumption | omega) (by first | with_reducible assumption | assumption | omega) hP  hS (lv_sub hl [0, 1, 2] rfl)
        · exact absurd c_8 (by decide)

set_option maxHeartbeats 4000000 in
set_option maxRecDepth 100000 in
theorem c_X3_isWhole (l : Launch) (D : va_G) (cy : Nat → ClassId) (sz : Nat) (xn : Nat) (n1 : Nat) (n2 : Nat) (n3 : Nat) (n4 : Nat) (n5 : Nat) (vp : Int32) (vn : Int32) (fk : Nat → Int32) (fs : Nat → Int32) (hvn : 0 ≤ vn.toInt ∧ vn.toInt ≤ 40) : Met l yX3_isWhole wsX3_isWhole ({ frames := 1, cells := 0, slots := 0, locals := 21 }) (va_Pc [.ref xn] (fun U => U.heap.size = sz ∧ va_P D vwCl [(xn, .inr (3, [.int vp, .int vn, .ref n1, .ref n2, .ref n3, .ref n4, .ref n5])), (n1, .inl (cy 0, 40, .inl fk)), (n2, .inl (cy 0, 40, .inl fs))] U.heap ∧ kk_ D cy U ∧ va_D (fun _ => True) [(xn, .inr (3, [.int vp, .int vn, .ref n1, .ref n2, .ref n3, .ref n4, .ref n5])), (n1, .inl (cy 0, 40, .inl fk)), (n2, .inl (cy 0, 40, .inl fs))])) (va_Qi (fun (r : Int32) (_ : Unit) => (r.toInt = 0 ∨ r.toInt = 1)) (fun (_ : Unit) (_ : State) => True) (va_A [] sz)) 0 0 (va_A [] sz) := by
  refine ofQ (cc := cX3_isWhole) (maxL := 3) (ret := (some .boolean)) (by decide) rfl ?_
  intro p e s m args below meth c s₁ Q hQ B hml hv
  obtain ⟨rfl, hsz, hP, hK, hD0⟩ := hv
  have hx := B.exec
  have hb := B.bytes
  have hr := B.returns
  have hts := atoms_spec (ws := wsX3_isWhole) B.pre
  have hown : s.vm.findClass RX3 = some m.cls := by have h_ := findClass_of_methodNamed B.named; exact h_
  have hlocks := B.notSynchronized
  subst hsz
  have hD : va_D (va_A [] s.heap.size) [] := dd_nil
  generalize hAe : va_A [] s.heap.size = A at hD hQ
  have hA : ∀ q : Nat, s.heap.size ≤ q → A q := fun q h => by rw [← hAe]; exact Or.inr h
  have hS : va_S A s.heap s.heap [] := va_S.rf
  have hl := lv_entry ([.ref xn]) (n := 3) (Nat.le_of_ble_eq_true rfl)
  rw [lg_entry_eq]
  generalize (lg_sl ([.ref xn]) ++ List.replicate (3 - (lg_sl ([.ref xn])).length) Slot.unset).toArray = ls at hl ⊢
  have hl : lv_has ls 3 [(0, .ref xn)] := hl
  have z0 : (0 : Int32).toInt = 0 := by decide
  have z1 : (1 : Int32).toInt = 1 := by decide
  have z2 : (2 : Int32).toInt = 2 := by decide
  refine lv_iconst (v := 0) hx hb dX3_isWhole_0 (by decide) ?_
  refine lv_istore_n (lv' := [(1, .int 0), (0, .ref xn)]) hx hb dX3_isWhole_1 rfl hl (by decide) rfl (fun ls hl => ?_)
  suffices LOOP_1 : ∀ (n_1 : Nat) (x1_1 : Int32) (H : Heap) (locs : List Loc) (ls : Array Slot), vn.toInt - x1_1.toInt < (n_1 : Int) → (0 ≤ x1_1.toInt) → (x1_1.toInt ≤ vn.toInt) → va_P D vwCl [(xn, .inr (3, [.int vp, .int vn, .ref n1, .ref n2, .ref n3, .ref n4, .ref n5])), (n1, .inl (cy 0, 40, .inl fk)), (n2, .inl (cy 0, 40, .inl fs))] H → va_S A s.heap H locs → lv_has ls 3 [(1, .int x1_1), (0, .ref xn)] → W p l e ({ frames := 1, cells := 0, slots := 0, locals := 21 } : Room) s m (([.ref xn] : List Value).toArray) below meth c H locs 0 0 Q (F0 m 2 ls []) from LOOP_1 ((vn.toInt - (0 : Int32).toInt).toNat + 1) (0 : Int32) _ _ _ (by omega) (by first | with_reducible assumption | assumption | omega) (by first | with_reducible assumption | assumption | omega) hP  hS (lv_sub hl [0, 1] rfl)
  intro n_1
  induction n_1 with
  | zero =>
    intro x1_1 H locs ls hm v0_1 v1_1 hP hS hl
    exact absurd hm (by omega)
  | succ n_1 ih_1 =>
    intro x1_1 H locs ls hm v0_1 v1_1 hP hS hl
    refine lv_iload_n hx hb dX3_isWhole_2 rfl (lv_at hl 0 rfl) ?_
    refine lv_aload_n hx hb dX3_isWhole_3 rfl (lv_at hl 1 rfl) ?_
    refine va_get (ci := 3) (v := .int vn) (C := RX3) (T := TX3) (N := 7) hx hb hts (fun _ h => List.mem_cons_of_mem _ (List.mem_append_right _ h)) hown hK.1 hP 0 rfl rfl 1 (by decide) (hts (.fieldLink RX3 15 "CutAtlas$Net" "lines" "I") (by decide +kernel)) (fun _ h9 => h9) rfl dX3_isWhole_4 ?_
    refine lv_icmp_ge (tgt := 56) hx hb dX3_isWhole_7 (by decide) (fun c_2 => ?_) (fun c_2 => ?_)
    · have t_2 : vn.toInt ≤ x1_1.toInt := Int32.le_iff_toInt_le.mp c_2
      refine lv_aload_n hx hb dX3_isWhole_56 rfl (lv_at hl 1 rfl) ?_
      refine va_get (ci := 3) (v := .int vp) (C := RX3) (T := TX3) (N := 7) hx hb hts (fun _ h => List.mem_cons_of_mem _ (List.mem_append_right _ h)) hown hK.1 hP 0 rfl rfl 0 (by decide) (hts (.fieldLink RX3 9 "CutAtlas$Net" "places" "I") (by decide +kernel)) (fun _ h9 => h9) rfl dX3_isWhole_57 ?_
      refine lv_iconst (v := 2) hx hb dX3_isWhole_60 (by decide) ?_
      refine lv_icmp_lt (tgt := 68) hx hb dX3_isWhole_61 (by decide) (fun c_3 => ?_) (fun c_3 => ?_)
      · have t_3 : vp.toInt < (2 : Int32).toInt := Int32.lt_iff_toInt_lt.mp c_3
        refine lv_iconst (v := 0) hx hb dX3_isWhole_68 (by decide) ?_
        rw [hQ]
        exact W.zret (ty := .boolean) (v := 0) hx hb hr (by decide) (fun t ht hW => ⟨⟨0, (), rfl, (by omega), trivial⟩, hS.F ht⟩) hS.2.2 dX3_isWhole_69
      · have t_3 : ¬ vp.toInt < (2 : Int32).toInt := fun h => c_3 (Int32.lt_iff_toInt_lt.mpr h)
        refine lv_iconst (v := 1) hx hb dX3_isWhole_64 (by decide) ?_
        refine lv_goto (tgt := 69) hx hb dX3_isWhole_65 (by decide) ?_
        rw [hQ]
        exact W.zret (ty := .boolean) (v := 1) hx hb hr (by decide) (fun t ht hW => ⟨⟨1, (), rfl, (by omega), trivial⟩, hS.F ht⟩) hS.2.2 dX3_isWhole_69
    · have t_2 : ¬ vn.toInt ≤ x1_1.toInt := fun h => c_2 (Int32.le_iff_toInt_le.mpr h)
      refine lv_aload_n hx hb dX3_isWhole_10 rfl (lv_at hl 1 rfl) ?_
      refine va_get (ci := 3) (v := .ref n1) (C := RX3) (T := TX3) (N := 7) hx hb hts (fun _ h => List.mem_cons_of_mem _ (List.mem_append_right _ h)) hown hK.1 hP 0 rfl rfl 2 (by decide) (hts (.fieldLink RX3 18 "CutAtlas$Net" "kinds" "[I") (by decide +kernel)) (fun _ h9 => h9) rfl dX3_isWhole_11 ?_
      refine lv_iload_n hx hb dX3_isWhole_14 rfl (lv_at hl 0 rfl) ?_
      have h_4 : vp_in x1_1 40 := in_I (by omega) (by omega)
      refine va_iald hx hb hK.1 hP 1 0 rfl rfl (i := x1_1) h_4 dX3_isWhole_15 ?_
      refine lv_topi (fun y_5 ey_5 => ?_)
      refine lv_iconst (v := 1) hx hb dX3_isWhole_16 (by decide) ?_
      refine lv_icmp_eq (tgt := 30) hx hb dX3_isWhole_17 (by decide) (fun c_6 => ?_) (fun c_6 => ?_)
      · have t_6 : y_5.toInt = (1 : Int32).toInt := congrArg Int32.toInt c_6
        refine lv_iconst (v := 1) hx hb dX3_isWhole_30 (by decide) ?_
        refine lv_goto (tgt := 35) hx hb dX3_isWhole_31 (by decide) ?_
        refine lv_istore_n (lv' := [(2, .int 1), (1, .int x1_1), (0, .ref xn)]) hx hb dX3_isWhole_35 rfl hl (by decide) rfl (fun ls hl => ?_)
        refine lv_iload_n hx hb dX3_isWhole_36 rfl (lv_at hl 0 rfl) ?_
        refine lv_if_eq (tgt := 50) hx hb dX3_isWhole_37 (by decide) (fun c_7 => ?_) (fun c_7 => ?_)
        · exact absurd c_7 (by decide)
        · have _ := c_7
          refine lv_aload_n hx hb dX3_isWhole_40 rfl (lv_at hl 2 rfl) ?_
          refine lv_iload_n hx hb dX3_isWhole_41 rfl (lv_at hl 1 rfl) ?_
          refine ct_R hP hD0 [(xn, .inr (3, [.int vp, .int vn, .ref n1, .ref n2, .ref n3, .ref n4, .ref n5])), (n2, .inl (cy 0, 40, .inl fs))] [0, 2] (by decide) rfl (fun hPc hDw => ?_)
          have hFc := va_free (wc := []) hD hS hA [] rfl
          refine va_calli (va_runV (As := [.int x1_1]) (rest := []) ⟨hx, hb, hml, hown, hts⟩ (c_X3_isMissing l D cy H.size xn n1 n2 n3 n4 n5 vp vn fs x1_1 (by first | with_reducible assumption | assumption | omega)) (cwV 1 hts gX3_isWhole_X3_isMissing rfl rfl rfl (by decide +kernel) ⟨Nat.le_of_ble_eq_true rfl, Nat.le_of_ble_eq_true rfl⟩) ⟨bl_, va_recvX hK.1 hP (ci := 3) (q0 := 0) rfl rfl, fun U hU hW => ⟨rfl, by rw [hU], by rw [hU]; exact hPc, kk_mv hW hK, hDw⟩⟩ rfl rfl hl.1 rfl (lv_room (Nat.le_of_ble_eq_true rfl)) dX3_isWhole_42 ⟨Nat.le_of_ble_eq_true rfl, Nat.le_of_ble_eq_true rfl⟩) hS (fun q _ h => hFc q h) hFc (fun r_8 u t H locs ht hvm hw hB hz1 hk1 hS => ?_)
          have hP : va_P D vwCl _ H := ro_keep hP hk1
          rcases hw with ⟨w_9, e_⟩ | ⟨w_9, e_⟩
          · have e_ := e_.symm
            subst e_
            refine lv_if_ne (tgt := 50) hx hb dX3_isWhole_45 (by decide) (fun c_10 => ?_) (fun c_10 => ?_)
            · have _ := c_10
              obtain ⟨y_11, ey_11⟩ : ∃ y : Int32, y = x1_1 + 1 := ⟨_, rfl⟩
              have ty_11 : y_11.toInt = x1_1.toInt + (1 : Int32).toInt := by rw [ey_11]; exact addI (by omega) (by omega)
              refine lv_iinc (v := y_11) (lv' := [(1, .int y_11), (2, .int 1), (0, .ref xn)]) hx hb dX3_isWhole_50 hl (k := 1) rfl (by rw [ey_11]; rfl) (by decide) rfl (fun ls hl => ?_)
              refine lv_goto (tgt := 2) hx hb dX3_isWhole_53 (by decide) ?_
              exact ih_1 y_11 _ _ _ (by omega) (by first | with_reducible assumption | assumption | omega) (by first | with_reducible assumption | assumption | omega) hP  hS (lv_sub hl [0, 2] rfl)
            · exact absurd c_10 (by decide)
          · have e_ := e_.symm
            subst e_
            refine lv_if_ne (tgt := 50) hx hb dX3_isWhole_45 (by decide) (fun c_12 => ?_) (fun c_12 => ?_)
            · exact absurd c_12 (by decide)
            · have _ := c_12
              refine lv_iconst (v := 0) hx hb dX3_isWhole_48 (by decide) ?_
              rw [hQ]
              exact W.zret (ty := .boolean) (v := 0) hx hb hr (by decide) (fun t ht hW => ⟨⟨0, (), rfl, (by omega), trivial⟩, hS.F ht⟩) hS.2.2 dX3_isWhole_49
      · have t_6 : ¬ y_5.toInt = (1 : Int32).toInt := fun h => c_6 (Int32.toInt_inj.mp h)
        refine lv_aload_n hx hb dX3_isWhole_20 rfl (lv_at hl 1 rfl) ?_
        refine va_get (ci := 3) (v := .ref n1) (C := RX3) (T := TX3) (N := 7) hx hb hts (fun _ h => List.mem_cons_of_mem _ (List.mem_append_right _ h)) hown hK.1 hP 0 rfl rfl 2 (by decide) (hts (.fieldLink RX3 18 "CutAtlas$Net" "kinds" "[I") (by decide +kernel)) (fun _ h9 => h9) rfl dX3_isWhole_21 ?_
        refine lv_iload_n hx hb dX3_isWhole_24 rfl (lv_at hl 0 rfl) ?_
        have h_13 : vp_in x1_1 40 := in_I (by omega) (by omega)
        refine va_iald hx hb hK.1 hP 1 0 rfl rfl (i := x1_1) h_13 dX3_isWhole_25 ?_
        refine lv_topi (fun y_14 ey_14 => ?_)
        have e_ := (ey_14.trans ey_5.symm).symm
        subst e_
        skip
        refine lv_iconst (v := 2) hx hb dX3_isWhole_26 (by decide) ?_
        refine lv_icmp_ne (tgt := 34) hx hb dX3_isWhole_27 (by decide) (fun c_15 => ?_) (fun c_15 => ?_)
        · have t_15 : ¬ y_5.toInt = (2 : Int32).toInt := fun h => c_15 (Int32.toInt_inj.mp h)
          refine lv_iconst (v := 0) hx hb dX3_isWhole_34 (by decide) ?_
          refine lv_istore_n (lv' := [(2, .int 0), (1, .int x1_1), (0, .ref xn)]) hx hb dX3_isWhole_35 rfl hl (by decide) rfl (fun ls hl => ?_)
          refine lv_iload_n hx hb dX3_isWhole_36 rfl (lv_at hl 0 rfl) ?_
          refine lv_if_eq (tgt := 50) hx hb dX3_isWhole_37 (by decide) (fun c_16 => ?_) (fun c_16 => ?_)
          · have _ := c_16
            obtain ⟨y_17, ey_17⟩ : ∃ y : Int32, y = x1_1 + 1 := ⟨_, rfl⟩
            have ty_17 : y_17.toInt = x1_1.toInt + (1 : Int32).toInt := by rw [ey_17]; exact addI (by omega) (by omega)
            refine lv_iinc (v := y_17) (lv' := [(1, .int y_17), (2, .int 0), (0, .ref xn)]) hx hb dX3_isWhole_50 hl (k := 1) rfl (by rw [ey_17]; rfl) (by decide) rfl (fun ls hl => ?_)
            refine lv_goto (tgt := 2) hx hb dX3_isWhole_53 (by decide) ?_
            exact ih_1 y_17 _ _ _ (by omega) (by first | with_reducible assumption | assumption | omega) (by first | with_reducible assumption | assumption | omega) hP  hS (lv_sub hl [0, 2] rfl)
          · exact absurd c_16 (by decide)
        · have t_15 : y_5.toInt = (2 : Int32).toInt := congrArg Int32.toInt c_15
          refine lv_iconst (v := 1) hx hb dX3_isWhole_30 (by decide) ?_
          refine lv_goto (tgt := 35) hx hb dX3_isWhole_31 (by decide) ?_
          refine lv_istore_n (lv' := [(2, .int 1), (1, .int x1_1), (0, .ref xn)]) hx hb dX3_isWhole_35 rfl hl (by decide) rfl (fun ls hl => ?_)
          refine lv_iload_n hx hb dX3_isWhole_36 rfl (lv_at hl 0 rfl) ?_
          refine lv_if_eq (tgt := 50) hx hb dX3_isWhole_37 (by decide) (fun c_18 => ?_) (fun c_18 => ?_)
          · exact absurd c_18 (by decide)
          · have _ := c_18
            refine lv_aload_n hx hb dX3_isWhole_40 rfl (lv_at hl 2 rfl) ?_
            refine lv_iload_n hx hb dX3_isWhole_41 rfl (lv_at hl 1 rfl) ?_
            refine ct_R hP hD0 [(xn, .inr (3, [.int vp, .int vn, .ref n1, .ref n2, .ref n3, .ref n4, .ref n5])), (n2, .inl (cy 0, 40, .inl fs))] [0, 2] (by decide) rfl (fun hPc hDw => ?_)
            have hFc := va_free (wc := []) hD hS hA [] rfl
            refine va_calli (va_runV (As := [.int x1_1]) (rest := []) ⟨hx, hb, hml, hown, hts⟩ (c_X3_isMissing l D cy H.size xn n1 n2 n3 n4 n5 vp vn fs x1_1 (by first | with_reducible assumption | assumption | omega)) (cwV 1 hts gX3_isWhole_X3_isMissing rfl rfl rfl (by decide +kernel) ⟨Nat.le_of_ble_eq_true rfl, Nat.le_of_ble_eq_true rfl⟩) ⟨bl_, va_recvX hK.1 hP (ci := 3) (q0 := 0) rfl rfl, fun U hU hW => ⟨rfl, by rw [hU], by rw [hU]; exact hPc, kk_mv hW hK, hDw⟩⟩ rfl rfl hl.1 rfl (lv_room (Nat.le_of_ble_eq_true rfl)) dX3_isWhole_42 ⟨Nat.le_of_ble_eq_true rfl, Nat.le_of_ble_eq_true rfl⟩) hS (fun q _ h => hFc q h) hFc (fun r_19 u t H locs ht hvm hw hB hz1 hk1 hS => ?_)
            have hP : va_P D vwCl _ H := ro_keep hP hk1
            rcases hw with ⟨w_20, e_⟩ | ⟨w_20, e_⟩
            · have e_ := e_.symm
              subst e_
              refine lv_if_ne (tgt := 50) hx hb dX3_isWhole_45 (by decide) (fun c_21 => ?_) (fun c_21 => ?_)
              · have _ := c_21
                obtain ⟨y_22, ey_22⟩ : ∃ y : Int32, y = x1_1 + 1 := ⟨_, rfl⟩
                have ty_22 : y_22.toInt = x1_1.toInt + (1 : Int32).toInt := by rw [ey_22]; exact addI (by omega) (by omega)
                refine lv_iinc (v := y_22) (lv' := [(1, .int y_22), (2, .int 1), (0, .ref xn)]) hx hb dX3_isWhole_50 hl (k := 1) rfl (by rw [ey_22]; rfl) (by decide) rfl (fun ls hl => ?_)
                refine lv_goto (tgt := 2) hx hb dX3_isWhole_53 (by decide) ?_
                exact ih_1 y_22 _ _ _ (by omega) (by first | with_reducible assumption | assumption | omega) (by first | with_reducible assumption | assumption | omega) hP  hS (lv_sub hl [0, 2] rfl)
              · exact absurd c_21 (by decide)
            · have e_ := e_.symm
              subst e_
              refine lv_if_ne (tgt := 50) hx hb dX3_isWhole_45 (by decide) (fun c_23 => ?_) (fun c_23 => ?_)
              · exact absurd c_23 (by decide)
              · have _ := c_23
                refine lv_iconst (v := 0) hx hb dX3_isWhole_48 (by decide) ?_
                rw [hQ]
                exact W.zret (ty := .boolean) (v := 0) hx hb hr (by decide) (fun t ht hW => ⟨⟨0, (), rfl, (by omega), trivial⟩, hS.F ht⟩) hS.2.2 dX3_isWhole_49

set_option maxHeartbeats 4000000 in
set_option maxRecDepth 100000 in
theorem c_X3_append (l : Launch) (D : va_G) (cy : Nat → ClassId) (sz : Nat) (xn : Nat) (n1 : Nat) (n2 : Nat) (n3 : Nat) (n4 : Nat) (n5 : Nat) (vp : Int32) (vn : Int32) (fk : Nat → Int32) (fs : Nat → Int32) (fe : Nat → Int32) (fw : Nat → Int32) (fp : Nat → Int32) (a1 : Int32) (a2 : Int32) (a3 : Int32) (a4 : Int32) (a5 : Int32) (hvn : 0 ≤ vn.toInt ∧ vn.toInt < 40) (q1 : 0 ≤ a1.toInt ∧ a1.toInt ≤ 4) (q2 : 0 ≤ a2.toInt ∧ a2.toInt ≤ 11) (q3 : 0 ≤ a3.toInt ∧ a3.toInt ≤ 11) (q4 : 0 ≤ a4.toInt ∧ a4.toInt ≤ 2000) (q5 : 0 ≤ a5.toInt ∧ a5.toInt ≤ 100) (hpr : prng fs fe 40) (r_fk : rng fk 40 (0) (4)) (r_fw : rng fw 40 (0) (2000)) (r_fp : rng fp 40 (0) (100)) : Met l yX3_append wsX3_append ({ frames := 0, cells := 0, slots := 0, locals := 0 }) (va_Pc [.ref xn, .int a1, .int a2, .int a3, .int a4, .int a5] (fun U => U.heap.size = sz ∧ va_P D vwCl [(xn, .inr (3, [.int vp, .int vn, .ref n1, .ref n2, .ref n3, .ref n4, .ref n5])), (n1, .inl (cy 0, 40, .inl fk)), (n2, .inl (cy 0, 40, .inl fs)), (n3, .inl (cy 0, 40, .inl fe)), (n4, .inl (cy 0, 40, .inl fw)), (n5, .inl (cy 0, 40, .inl fp))] U.heap ∧ kk_ D cy U ∧ va_D (fun _ => True) [(xn, .inr (3, [.int vp, .int vn, .ref n1, .ref n2, .ref n3, .ref n4, .ref n5])), (n1, .inl (cy 0, 40, .inl fk)), (n2, .inl (cy 0, 40, .inl fs)), (n3, .inl (cy 0, 40, .inl fe)), (n4, .inl (cy 0, 40, .inl fw)), (n5, .inl (cy 0, 40, .inl fp))])) (va_Qi (fun (r : Int32) (_ : Unit) => True) (fun (_ : Unit) (t : State) => ∃ (evn : Int32), ∃ (efk : Nat → Int32), ∃ (efs : Nat → Int32), ∃ (efe : Nat → Int32), ∃ (efw : Nat → Int32), ∃ (efp : Nat → Int32), (evn.toInt = vn.toInt + 1) ∧ (prng efs efe 40) ∧ (rng efk 40 (0) (4)) ∧ (rng efw 40 (0) (2000)) ∧ (rng efp 40 (0) (100)) ∧ va_P D vwCl [(xn, .inr (3, [.int vp, .int evn, .ref n1, .ref n2, .ref n3, .ref n4, .ref n5])), (n1, .inl (cy 0, 40, .inl efk)), (n2, .inl (cy 0, 40, .inl efs)), (n3, .inl (cy 0, 40, .inl efe)), (n4, .inl (cy 0, 40, .inl efw)), (n5, .inl (cy 0, 40, .inl efp))] t.heap ∧ va_D (va_A [(xn, .inr (3, [.int vp, .int vn, .ref n1, .ref n2, .ref n3, .ref n4, .ref n5])), (n1, .inl (cy 0, 40, .inl fk)), (n2, .inl (cy 0, 40, .inl fs)), (n3, .inl (cy 0, 40, .inl fe)), (n4, .inl (cy 0, 40, .inl fw)), (n5, .inl (cy 0, 40, .inl fp))] sz) [(xn, .inr (3, [.int vp, .int evn, .ref n1, .ref n2, .ref n3, .ref n4, .ref n5])), (n1, .inl (cy 0, 40, .inl efk)), (n2, .inl (cy 0, 40, .inl efs)), (n3, .inl (cy 0, 40, .inl efe)), (n4, .inl (cy 0, 40, .inl efw)), (n5, .inl (cy 0, 40, .inl efp))]) (va_A [(xn, .inr (3, [.int vp, .int vn, .ref n1, .ref n2, .ref n3, .ref n4, .ref n5])), (n1, .inl (cy 0, 40, .inl fk)), (n2, .inl (cy 0, 40, .inl fs)), (n3, .inl (cy 0, 40, .inl fe)), (n4, .inl (cy 0, 40, .inl fw)), (n5, .inl (cy 0, 40, .inl fp))] sz)) 0 0 (va_A [(xn, .inr (3, [.int vp, .int vn, .ref n1, .ref n2, .ref n3, .ref n4, .ref n5])), (n1, .inl (cy 0, 40, .inl fk)), (n2, .inl (cy 0, 40, .inl fs)), (n3, .inl (cy 0, 40, .inl fe)), (n4, .inl (cy 0, 40, .inl fw)), (n5, .inl (cy 0, 40, .inl fp))] sz) := by
  refine ofQ (cc := cX3_append) (maxL := 6) (ret := (some .int)) (by decide) rfl ?_
  intro p e s m args below meth c s₁ Q hQ B hml hv
  obtain ⟨rfl, hsz, hP, hK, hD0⟩ := hv
  have hx := B.exec
  have hb := B.bytes
  have hr := B.returns
  have hts := atoms_spec (ws := wsX3_append) B.pre
  have hown : s.vm.findClass RX3 = some m.cls := by have h_ := findClass_of_methodNamed B.named; exact h_
  have hlocks := B.notSynchronized
  subst hsz
  have hD := hD0.self (sz := s.heap.size)
  generalize hAe : va_A [(xn, .inr (3, [.int vp, .int vn, .ref n1, .ref n2, .ref n3, .ref n4, .ref n5])), (n1, .inl (cy 0, 40, .inl fk)), (n2, .inl (cy 0, 40, .inl fs)), (n3, .inl (cy 0, 40, .inl fe)), (n4, .inl (cy 0, 40, .inl fw)), (n5, .inl (cy 0, 40, .inl fp))] s.heap.size = A at hD hQ
  have hA : ∀ q : Nat, s.heap.size ≤ q → A q := fun q h => by rw [← hAe]; exact Or.inr h
  have hS : va_S A s.heap s.heap [] := va_S.rf
  have hl := lv_entry ([.ref xn, .int a1, .int a2, .int a3, .int a4, .int a5]) (n := 6) (Nat.le_of_ble_eq_true rfl)
  rw [lg_entry_eq]
  generalize (lg_sl ([.ref xn, .int a1, .int a2, .int a3, .int a4, .int a5]) ++ List.replicate (6 - (lg_sl ([.ref xn, .int a1, .int a2, .int a3, .int a4, .int a5])).length) Slot.unset).toArray = ls at hl ⊢
  have hl : lv_has ls 6 [(0, .ref xn), (1, .int a1), (2, .int a2), (3, .int a3), (4, .int a4), (5, .int a5)] := hl
  have z1 : (1 : Int32).toInt = 1 := by decide
  refine lv_aload_n hx hb dX3_append_0 rfl (lv_at hl 0 rfl) ?_
  refine va_get (ci := 3) (v := .ref n1) (C := RX3) (T := TX3) (N := 7) hx hb hts (fun _ h => List.mem_cons_of_mem _ (List.mem_append_right _ h)) hown hK.1 hP 0 rfl rfl 2 (by decide) (hts (.fieldLink RX3 18 "CutAtlas$Net" "kinds" "[I") (by decide +kernel)) (fun _ h9 => h9) rfl dX3_append_1 ?_
  refine lv_aload_n hx hb dX3_append_4 rfl (lv_at hl 0 rfl) ?_
  refine va_get (ci := 3) (v := .int vn) (C := RX3) (T := TX3) (N := 7) hx hb hts (fun _ h => List.mem_cons_of_mem _ (List.mem_append_right _ h)) hown hK.1 hP 0 rfl rfl 1 (by decide) (hts (.fieldLink RX3 15 "CutAtlas$Net" "lines" "I") (by decide +kernel)) (fun _ h9 => h9) rfl dX3_append_5 ?_
  refine lv_iload_n hx hb dX3_append_8 rfl (lv_at hl 1 rfl) ?_
  have h_1 : vp_in vn 40 := in_I (by omega) (by omega)
  refine va_iast hx hb hK.1 hP hD hS 1 0 rfl rfl (i := vn) h_1 dX3_append_9 (fun H locs hP hD hS => ?_)
  obtain ⟨f_2, ef_2⟩ : ∃ g : Nat → Int32, g = upd fk vn.toNatClampNeg a1 := ⟨_, rfl⟩
  have hP : va_P D vwCl [(xn, .inr (3, [.int vp, .int vn, .ref n1, .ref n2, .ref n3, .ref n4, .ref n5])), (n1, .inl (cy 0, 40, .inl f_2)), (n2, .inl (cy 0, 40, .inl fs)), (n3, .inl (cy 0, 40, .inl fe)), (n4, .inl (cy 0, 40, .inl fw)), (n5, .inl (cy 0, 40, .inl fp))] H := by rw [ef_2]; exact hP
  have hD : va_D A [(xn, .inr (3, [.int vp, .int vn, .ref n1, .ref n2, .ref n3, .ref n4, .ref n5])), (n1, .inl (cy 0, 40, .inl f_2)), (n2, .inl (cy 0, 40, .inl fs)), (n3, .inl (cy 0, 40, .inl fe)), (n4, .inl (cy 0, 40, .inl fw)), (n5, .inl (cy 0, 40, .inl fp))] := by rw [ef_2]; exact hD
  have rf_2 : rng f_2 40 (0) (4) := by rw [ef_2]; exact rng_upd r_fk (by omega) (by omega)
  refine lv_aload_n hx hb dX3_append_10 rfl (lv_at hl 0 rfl) ?_
  refine va_get (ci := 3) (v := .ref n2) (C := RX3) (T := TX3) (N := 7) hx hb hts (fun _ h => List.mem_cons_of_mem _ (List.mem_append_right _ h)) hown hK.1 hP 0 rfl rfl 3 (by decide) (hts (.fieldLink RX3 22 "CutAtlas$Net" "starts" "[I") (by decide +kernel)) (fun _ h9 => h9) rfl dX3_append_11 ?_
  refine lv_aload_n hx hb dX3_append_14 rfl (lv_at hl 0 rfl) ?_
  refine va_get (ci := 3) (v := .int vn) (C := RX3) (T := TX3) (N := 7) hx hb hts (fun _ h => List.mem_cons_of_mem _ (List.mem_append_right _ h)) hown hK.1 hP 0 rfl rfl 1 (by decide) (hts (.fieldLink RX3 15 "CutAtlas$Net" "lines" "I") (by decide +kernel)) (fun _ h9 => h9) rfl dX3_append_15 ?_
  refine lv_iload_n hx hb dX3_append_18 rfl (lv_at hl 2 rfl) ?_
  have h_3 : vp_in vn 40 := in_I (by omega) (by omega)
  refine va_iast hx hb hK.1 hP hD hS 2 0 rfl rfl (i := vn) h_3 dX3_append_19 (fun H locs hP hD hS => ?_)
  obtain ⟨f_4, ef_4⟩ : ∃ g : Nat → Int32, g = upd fs vn.toNatClampNeg a2 := ⟨_, rfl⟩
  have hP : va_P D vwCl [(xn, .inr (3, [.int vp, .int vn, .ref n1, .ref n2, .ref n3, .ref n4, .ref n5])), (n1, .inl (cy 0, 40, .inl f_2)), (n2, .inl (cy 0, 40, .inl f_4)), (n3, .inl (cy 0, 40, .inl fe)), (n4, .inl (cy 0, 40, .inl fw)), (n5, .inl (cy 0, 40, .inl fp))] H := by rw [ef_4]; exact hP
  have hD : va_D A [(xn, .inr (3, [.int vp, .int vn, .ref n1, .ref n2, .ref n3, .ref n4, .ref n5])), (n1, .inl (cy 0, 40, .inl f_2)), (n2, .inl (cy 0, 40, .inl f_4)), (n3, .inl (cy 0, 40, .inl fe)), (n4, .inl (cy 0, 40, .inl fw)), (n5, .inl (cy 0, 40, .inl fp))] := by rw [ef_4]; exact hD
  refine lv_aload_n hx hb dX3_append_20 rfl (lv_at hl 0 rfl) ?_
  refine va_get (ci := 3) (v := .ref n3) (C := RX3) (T := TX3) (N := 7) hx hb hts (fun _ h => List.mem_cons_of_mem _ (List.mem_append_right _ h)) hown hK.1 hP 0 rfl rfl 4 (by decide) (hts (.fieldLink RX3 25 "CutAtlas$Net" "ends" "[I") (by decide +kernel)) (fun _ h9 => h9) rfl dX3_append_21 ?_
  refine lv_aload_n hx hb dX3_append_24 rfl (lv_at hl 0 rfl) ?_
  refine va_get (ci := 3) (v := .int vn) (C := RX3) (T := TX3) (N := 7) hx hb hts (fun _ h => List.mem_cons_of_mem _ (List.mem_append_right _ h)) hown hK.1 hP 0 rfl rfl 1 (by decide) (hts (.fieldLink RX3 15 "CutAtlas$Net" "lines" "I") (by decide +kernel)) (fun _ h9 => h9) rfl dX3_append_25 ?_
  refine lv_iload_n hx hb dX3_append_28 rfl (lv_at hl 3 rfl) ?_
  have h_5 : vp_in vn 40 := in_I (by omega) (by omega)
  refine va_iast hx hb hK.1 hP hD hS 3 0 rfl rfl (i := vn) h_5 dX3_append_29 (fun H locs hP hD hS => ?_)
  obtain ⟨f_6, ef_6⟩ : ∃ g : Nat → Int32, g = upd fe vn.toNatClampNeg a3 := ⟨_, rfl⟩
  have hP : va_P D vwCl [(xn, .inr (3, [.int vp, .int vn, .ref n1, .ref n2, .ref n3, .ref n4, .ref n5])), (n1, .inl (cy 0, 40, .inl f_2)), (n2, .inl (cy 0, 40, .inl f_4)), (n3, .inl (cy 0, 40, .inl f_6)), (n4, .inl (cy 0, 40, .inl fw)), (n5, .inl (cy 0, 40, .inl fp))] H := by rw [ef_6]; exact hP
  have hD : va_D A [(xn, .inr (3, [.int vp, .int vn, .ref n1, .ref n2, .ref n3, .ref n4, .ref n5])), (n1, .inl (cy 0, 40, .inl f_2)), (n2, .inl (cy 0, 40, .inl f_4)), (n3, .inl (cy 0, 40, .inl f_6)), (n4, .inl (cy 0, 40, .inl fw)), (n5, .inl (cy 0, 40, .inl fp))] := by rw [ef_6]; exact hD
  have pr_7 : prng f_4 f_6 40 := prng_st (by assumption) (by assumption) (by assumption) (by omega)
  refine lv_aload_n hx hb dX3_append_30 rfl (lv_at hl 0 rfl) ?_
  refine va_get (ci := 3) (v := .ref n4) (C := RX3) (T := TX3) (N := 7) hx hb hts (fun _ h => List.mem_cons_of_mem _ (List.mem_append_right _ h)) hown hK.1 hP 0 rfl rfl 5 (by decide) (hts (.fieldLink RX3 28 "CutAtlas$Net" "widths" "[I") (by decide +kernel)) (fun _ h9 => h9) rfl dX3_append_31 ?_
  refine lv_aload_n hx hb dX3_append_34 rfl (lv_at hl 0 rfl) ?_
  refine va_get (ci := 3) (v := .int vn) (C := RX3) (T := TX3) (N := 7) hx hb hts (fun _ h => List.mem_cons_of_mem _ (List.mem_append_right _ h)) hown hK.1 hP 0 rfl rfl 1 (by decide) (hts (.fieldLink RX3 15 "CutAtlas$Net" "lines" "I") (by decide +kernel)) (fun _ h9 => h9) rfl dX3_append_35 ?_
  refine lv_iload hx hb dX3_append_38 (lv_at hl 4 rfl) ?_
  have h_8 : vp_in vn 40 := in_I (by omega) (by omega)
  refine va_iast hx hb hK.1 hP hD hS 4 0 rfl rfl (i := vn) h_8 dX3_append_40 (fun H locs hP hD hS => ?_)
  obtain ⟨f_9, ef_9⟩ : ∃ g : Nat → Int32, g = upd fw vn.toNatClampNeg a4 := ⟨_, rfl⟩
  have hP : va_P D vwCl [(xn, .inr (3, [.int vp, .int vn, .ref n1, .ref n2, .ref n3, .ref n4, .ref n5])), (n1, .inl (cy 0, 40, .inl f_2)), (n2, .inl (cy 0, 40, .inl f_4)), (n3, .inl (cy 0, 40, .inl f_6)), (n4, .inl (cy 0, 40, .inl f_9)), (n5, .inl (cy 0, 40, .inl fp))] H := by rw [ef_9]; exact hP
  have hD : va_D A [(xn, .inr (3, [.int vp, .int vn, .ref n1, .ref n2, .ref n3, .ref n4, .ref n5])), (n1, .inl (cy 0, 40, .inl f_2)), (n2, .inl (cy 0, 40, .inl f_4)), (n3, .inl (cy 0, 40, .inl f_6)), (n4, .inl (cy 0, 40, .inl f_9)), (n5, .inl (cy 0, 40, .inl fp))] := by rw [ef_9]; exact hD
  have rf_9 : rng f_9 40 (0) (2000) := by rw [ef_9]; exact rng_upd r_fw (by omega) (by omega)
  refine lv_aload_n hx hb dX3_append_41 rfl (lv_at hl 0 rfl) ?_
  refine va_get (ci := 3) (v := .ref n5) (C := RX3) (T := TX3) (N := 7) hx hb hts (fun _ h => List.mem_cons_of_mem _ (List.mem_append_right _ h)) hown hK.1 hP 0 rfl rfl 6 (by decide) (hts (.fieldLink RX3 31 "CutAtlas$Net" "prices" "[I") (by decide +kernel)) (fun _ h9 => h9) rfl dX3_append_42 ?_
  refine lv_aload_n hx hb dX3_append_45 rfl (lv_at hl 0 rfl) ?_
  refine va_get (ci := 3) (v := .int vn) (C := RX3) (T := TX3) (N := 7) hx hb hts (fun _ h => List.mem_cons_of_mem _ (List.mem_append_right _ h)) hown hK.1 hP 0 rfl rfl 1 (by decide) (hts (.fieldLink RX3 15 "CutAtlas$Net" "lines" "I") (by decide +kernel)) (fun _ h9 => h9) rfl dX3_append_46 ?_
  refine lv_iload hx hb dX3_append_49 (lv_at hl 5 rfl) ?_
  have h_10 : vp_in vn 40 := in_I (by omega) (by omega)
  refine va_iast hx hb hK.1 hP hD hS 5 0 rfl rfl (i := vn) h_10 dX3_append_51 (fun H locs hP hD hS => ?_)
  obtain ⟨f_11, ef_11⟩ : ∃ g : Nat → Int32, g = upd fp vn.toNatClampNeg a5 := ⟨_, rfl⟩
  have hP : va_P D vwCl [(xn, .inr (3, [.int vp, .int vn, .ref n1, .ref n2, .ref n3, .ref n4, .ref n5])), (n1, .inl (cy 0, 40, .inl f_2)), (n2, .inl (cy 0, 40, .inl f_4)), (n3, .inl (cy 0, 40, .inl f_6)), (n4, .inl (cy 0, 40, .inl f_9)), (n5, .inl (cy 0, 40, .inl f_11))] H := by rw [ef_11]; exact hP
  have hD : va_D A [(xn, .inr (3, [.int vp, .int vn, .ref n1, .ref n2, .ref n3, .ref n4, .ref n5])), (n1, .inl (cy 0, 40, .inl f_2)), (n2, .inl (cy 0, 40, .inl f_4)), (n3, .inl (cy 0, 40, .inl f_6)), (n4, .inl (cy 0, 40, .inl f_9)), (n5, .inl (cy 0, 40, .inl f_11))] := by rw [ef_11]; exact hD
  have rf_11 : rng f_11 40 (0) (100) := by rw [ef_11]; exact rng_upd r_fp (by omega) (by omega)
  refine lv_aload_n hx hb dX3_append_52 rfl (lv_at hl 0 rfl) ?_
  refine lv_dup hx hb dX3_append_53 rfl ?_
  refine va_get (ci := 3) (v := .int vn) (C := RX3) (T := TX3) (N := 7) hx hb hts (fun _ h => List.mem_cons_of_mem _ (List.mem_append_right _ h)) hown hK.1 hP 0 rfl rfl 1 (by decide) (hts (.fieldLink RX3 15 "CutAtlas$Net" "lines" "I") (by decide +kernel)) (fun _ h9 => h9) rfl dX3_append_54 ?_
  refine lv_iconst (v := 1) hx hb dX3_append_57 (by decide) ?_
  refine lv_iadd hx hb dX3_append_58 ?_
  refine lv_topi (fun y_12 ey_12 => ?_)
  have ty_12 : y_12.toInt = vn.toInt + (1 : Int32).toInt := by rw [ey_12]; exact addI (by omega) (by omega)
  refine va_put (ci := 3) (v := .int y_12) (ty := .int) (C := RX3) (T := TX3) (N := 7) hx hb hts (fun _ h => List.mem_cons_of_mem _ (List.mem_append_right _ h)) tyX3 tyX3_ok nmX3 hown hK.1 hP hD hS 0 rfl rfl 1 (by decide) (hts (.fieldLink RX3 15 "CutAtlas$Net" "lines" "I") (by decide +kernel)) (fun _ h9 => h9) rfl (by decide +kernel) rfl rfl (Nat.le_of_ble_eq_true rfl) dX3_append_59 (fun H locs hP hD hS => ?_)
  refine pd_K [(xn, .inr (3, [.int vp, .int y_12, .ref n1, .ref n2, .ref n3, .ref n4, .ref n5])), (n1, .inl (cy 0, 40, .inl f_2)), (n2, .inl (cy 0, 40, .inl f_4)), (n3, .inl (cy 0, 40, .inl f_6)), (n4, .inl (cy 0, 40, .inl f_9)), (n5, .inl (cy 0, 40, .inl f_11))] hP hD (fun hP hD => ?_)
  refine lv_aload_n hx hb dX3_append_62 rfl (lv_at hl 0 rfl) ?_
  refine va_get (ci := 3) (v := .int y_12) (C := RX3) (T := TX3) (N := 7) hx hb hts (fun _ h => List.mem_cons_of_mem _ (List.mem_append_right _ h)) hown hK.1 hP 0 rfl rfl 1 (by decide) (hts (.fieldLink RX3 15 "CutAtlas$Net" "lines" "I") (by decide +kernel)) (fun _ h9 => h9) rfl dX3_append_63 ?_
  refine lv_iconst (v := 1) hx hb dX3_append_66 (by decide) ?_
  refine lv_isub hx hb dX3_append_67 ?_
  refine lv_topi (fun y_13 ey_13 => ?_)
  have ty_13 : y_13.toInt = y_12.toInt - (1 : Int32).toInt := by rw [ey_13]; exact subI (by omega) (by omega)
  have hP9 := hP.sub (ws' := [(xn, .inr (3, [.int vp, .int y_12, .ref n1, .ref n2, .ref n3, .ref n4, .ref n5])), (n1, .inl (cy 0, 40, .inl f_2)), (n2, .inl (cy 0, 40, .inl f_4)), (n3, .inl (cy 0, 40, .inl f_6)), (n4, .inl (cy 0, 40, .inl f_9)), (n5, .inl (cy 0, 40, .inl f_11))]) [0, 1, 2, 3, 4, 5] rfl
  have hD9 := hD.sub (ws' := [(xn, .inr (3, [.int vp, .int y_12, .ref n1, .ref n2, .ref n3, .ref n4, .ref n5])), (n1, .inl (cy 0, 40, .inl f_2)), (n2, .inl (cy 0, 40, .inl f_4)), (n3, .inl (cy 0, 40, .inl f_6)), (n4, .inl (cy 0, 40, .inl f_9)), (n5, .inl (cy 0, 40, .inl f_11))]) [0, 1, 2, 3, 4, 5] (by decide) rfl
  rw [hQ]
  exact W.iret (v := y_13) hx hb hr (fun t ht hW => ⟨⟨y_13, (), rfl, trivial, y_12, f_2, f_4, f_6, f_9, f_11, (by first | with_reducible assumption | assumption | exact rng_zero (by omega) (by omega) | omega), (by first | with_reducible assumption | assumption | exact rng_zero (by omega) (by omega) | omega), (by first | with_reducible assumption | assumption | exact rng_zero (by omega) (by omega) | omega), (by first | with_reducible assumption | assumption | exact rng_zero (by omega) (by omega) | omega), (by first | with_reducible assumption | assumption | exact rng_zero (by omega) (by omega) | omega), by rw [ht]; exact hP9, hD9⟩, hS.F ht⟩) hS.2.2 dX3_append_68

set_option maxHeartbeats 4000000 in
set_option maxRecDepth 100000 in
theorem c_X3_renumbered (l : Launch) (D : va_G) (cy : Nat → ClassId) (sz : Nat) (a1 : Int32) (a2 : Int32) (a3 : Int32) (q1 : 0 ≤ a1.toInt ∧ a1.toInt ≤ 11) (q2 : 0 ≤ a2.toInt ∧ a2.toInt ≤ 11) (q3 : 0 ≤ a3.toInt) : Met l yX3_renumbered wsX3_renumbered ({ frames := 0, cells := 0, slots := 0, locals := 0 }) (va_Pc [.int a1, .int a2, .int a3] (fun U => U.heap.size = sz ∧ va_P D vwCl [] U.heap ∧ kk_ D cy U ∧ va_D (fun _ => True) [])) (va_Qi (fun (r : Int32) (_ : Unit) => (0 ≤ r.toInt ∧ r.toInt ≤ 11)) (fun (_ : Unit) (_ : State) => True) (va_A [] sz)) 0 0 (va_A [] sz) := by
  refine ofQ (cc := cX3_renumbered) (maxL := 3) (ret := (some .int)) (by decide) rfl ?_
  intro p e s m args below meth c s₁ Q hQ B hml hv
  obtain ⟨rfl, hsz, hP, hK, hD0⟩ := hv
  have hx := B.exec
  have hb := B.bytes
  have hr := B.returns
  have hts := atoms_spec (ws := wsX3_renumbered) B.pre
  have hown : s.vm.findClass RX3 = some m.cls := by have h_ := findClass_of_methodNamed B.named; exact h_
  have hlocks := B.notSynchronized
  subst hsz
  have hD : va_D (va_A [] s.heap.size) [] := dd_nil
  generalize hAe : va_A [] s.heap.size = A at hD hQ
  have hA : ∀ q : Nat, s.heap.size ≤ q → A q := fun q h => by rw [← hAe]; exact Or.inr h
  have hS : va_S A s.heap s.heap [] := va_S.rf
  have hl := lv_entry ([.int a1, .int a2, .int a3]) (n := 3) (Nat.le_of_ble_eq_true rfl)
  rw [lg_entry_eq]
  generalize (lg_sl ([.int a1, .int a2, .int a3]) ++ List.replicate (3 - (lg_sl ([.int a1, .int a2, .int a3])).length) Slot.unset).toArray = ls at hl ⊢
  have hl : lv_has ls 3 [(0, .int a1), (1, .int a2), (2, .int a3)] := hl
  have z1 : (1 : Int32).toInt = 1 := by decide
  refine lv_iload_n hx hb dX3_renumbered_0 rfl (lv_at hl 0 rfl) ?_
  refine lv_iload_n hx hb dX3_renumbered_1 rfl (lv_at hl 2 rfl) ?_
  refine lv_icmp_ne (tgt := 7) hx hb dX3_renumbered_2 (by decide) (fun c_1 => ?_) (fun c_1 => ?_)
  · have t_1 : ¬ a1.toInt = a3.toInt := fun h => c_1 (Int32.toInt_inj.mp h)
    refine lv_iload_n hx hb dX3_renumbered_7 rfl (lv_at hl 0 rfl) ?_
    refine lv_iload_n hx hb dX3_renumbered_8 rfl (lv_at hl 2 rfl) ?_
    refine lv_icmp_le (tgt := 18) hx hb dX3_renumbered_9 (by decide) (fun c_2 => ?_) (fun c_2 => ?_)
    · have t_2 : a1.toInt ≤ a3.toInt := Int32.le_iff_toInt_le.mp c_2
      refine lv_iload_n hx hb dX3_renumbered_18 rfl (lv_at hl 0 rfl) ?_
      rw [hQ]
      exact W.iret (v := a1) hx hb hr (fun t ht hW => ⟨⟨a1, (), rfl, (by omega), trivial⟩, hS.F ht⟩) hS.2.2 dX3_renumbered_19
    · have t_2 : ¬ a1.toInt ≤ a3.toInt := fun h => c_2 (Int32.le_iff_toInt_le.mpr h)
      refine lv_iload_n hx hb dX3_renumbered_12 rfl (lv_at hl 0 rfl) ?_
      refine lv_iconst (v := 1) hx hb dX3_renumbered_13 (by decide) ?_
      refine lv_isub hx hb dX3_renumbered_14 ?_
      refine lv_topi (fun y_3 ey_3 => ?_)
      have ty_3 : y_3.toInt = a1.toInt - (1 : Int32).toInt := by rw [ey_3]; exact subI (by omega) (by omega)
      refine lv_goto (tgt := 19) hx hb dX3_renumbered_15 (by decide) ?_
      rw [hQ]
      exact W.iret (v := y_3) hx hb hr (fun t ht hW => ⟨⟨y_3, (), rfl, (by omega), trivial⟩, hS.F ht⟩) hS.2.2 dX3_renumbered_19
  · have t_1 : a1.toInt = a3.toInt := congrArg Int32.toInt c_1
    refine lv_iload_n hx hb dX3_renumbered_5 rfl (lv_at hl 1 rfl) ?_
    rw [hQ]
    exact W.iret (v := a2) hx hb hr (fun t ht hW => ⟨⟨a2, (), rfl, (by omega), trivial⟩, hS.F ht⟩) hS.2.2 dX3_renumbered_6

set_option maxHeartbeats 4000000 in
set_option maxRecDepth 100000 in
theorem c_X3_join (l : Launch) (D : va_G) (cy : Nat → ClassId) (sz : Nat) (xn : Nat) (n1 : Nat) (n2 : Nat) (n3 : Nat) (n4 : Nat) (n5 : Nat) (vp : Int32) (vn : Int32) (fs : Nat → Int32) (fe : Nat → Int32) (a1 : Int32) (a2 : Int32) (hvn : 0 ≤ vn.toInt ∧ vn.toInt ≤ 40) (hvp : 0 ≤ vp.toInt ∧ vp.toInt ≤ 12) (q1 : 0 ≤ a1.toInt ∧ a1.toInt ≤ 11) (q2 : 0 ≤ a2.toInt ∧ a2.toInt < vp.toInt) (hpr : prng fs fe 40) : Met l yX3_join wsX3_join ({ frames := 1, cells := 0, slots := 0, locals := 22 }) (va_Pc [.ref xn, .int a1, .int a2] (fun U => U.heap.size = sz ∧ va_P D vwCl [(xn, .inr (3, [.int vp, .int vn, .ref n1, .ref n2, .ref n3, .ref n4, .ref n5])), (n2, .inl (cy 0, 40, .inl fs)), (n3, .inl (cy 0, 40, .inl fe))] U.heap ∧ kk_ D cy U ∧ va_D (fun _ => True) [(xn, .inr (3, [.int vp, .int vn, .ref n1, .ref n2, .ref n3, .ref n4, .ref n5])), (n2, .inl (cy 0, 40, .inl fs)), (n3, .inl (cy 0, 40, .inl fe))])) (va_Qi (fun (r : Int32) (_ : Unit) => True) (fun (_ : Unit) (t : State) => ∃ (evp : Int32), ∃ (efs : Nat → Int32), ∃ (efe : Nat → Int32), (evp.toInt = vp.toInt - 1) ∧ (prng efs efe 40) ∧ va_P D vwCl [(xn, .inr (3, [.int evp, .int vn, .ref n1, .ref n2, .ref n3, .ref n4, .ref n5])), (n2, .inl (cy 0, 40, .inl efs)), (n3, .inl (cy 0, 40, .inl efe))] t.heap ∧ va_D (va_A [(xn, .inr (3, [.int vp, .int vn, .ref n1, .ref n2, .ref n3, .ref n4, .ref n5])), (n2, .inl (cy 0, 40, .inl fs)), (n3, .inl (cy 0, 40, .inl fe))] sz) [(xn, .inr (3, [.int evp, .int vn, .ref n1, .ref n2, .ref n3, .ref n4, .ref n5])), (n2, .inl (cy 0, 40, .inl efs)), (n3, .inl (cy 0, 40, .inl efe))]) (va_A [(xn, .inr (3, [.int vp, .int vn, .ref n1, .ref n2, .ref n3, .ref n4, .ref n5])), (n2, .inl (cy 0, 40, .inl fs)), (n3, .inl (cy 0, 40, .inl fe))] sz)) 0 0 (va_A [(xn, .inr (3, [.int vp, .int vn, .ref n1, .ref n2, .ref n3, .ref n4, .ref n5])), (n2, .inl (cy 0, 40, .inl fs)), (n3, .inl (cy 0, 40, .inl fe))] sz) := by
  refine ofQ (cc := cX3_join) (maxL := 5) (ret := (some .int)) (by decide) rfl ?_
  intro p e s m args below meth c s₁ Q hQ B hml hv
  obtain ⟨rfl, hsz, hP, hK, hD0⟩ := hv
  have hx := B.exec
  have hb := B.bytes
  have hr := B.returns
  have hts := atoms_spec (ws := wsX3_join) B.pre
  have hown : s.vm.findClass RX3 = some m.cls := by have h_ := findClass_of_methodNamed B.named; exact h_
  have hlocks := B.notSynchronized
  subst hsz
  have hD := hD0.self (sz := s.heap.size)
  generalize hAe : va_A [(xn, .inr (3, [.int vp, .int vn, .ref n1, .ref n2, .ref n3, .ref n4, .ref n5])), (n2, .inl (cy 0, 40, .inl fs)), (n3, .inl (cy 0, 40, .inl fe))] s.heap.size = A at hD hQ
  have hA : ∀ q : Nat, s.heap.size ≤ q → A q := fun q h => by rw [← hAe]; exact Or.inr h
  have hS : va_S A s.heap s.heap [] := va_S.rf
  have hl := lv_entry ([.ref xn, .int a1, .int a2]) (n := 5) (Nat.le_of_ble_eq_true rfl)
  rw [lg_entry_eq]
  generalize (lg_sl ([.ref xn, .int a1, .int a2]) ++ List.replicate (5 - (lg_sl ([.ref xn, .int a1, .int a2])).length) Slot.unset).toArray = ls at hl ⊢
  have hl : lv_has ls 5 [(0, .ref xn), (1, .int a1), (2, .int a2)] := hl
  have zm9 : ((-9) : Int32).toInt = -9 := by decide
  have z0 : (0 : Int32).toInt = 0 := by decide
  have z1 : (1 : Int32).toInt = 1 := by decide
  refine lv_iconst (v := 0) hx hb dX3_join_0 (by decide) ?_
  refine lv_istore_n (lv' := [(3, .int 0), (0, .ref xn), (1, .int a1), (2, .int a2)]) hx hb dX3_join_1 rfl hl (by decide) rfl (fun ls hl => ?_)
  refine lv_iconst (v := 0) hx hb dX3_join_2 (by decide) ?_
  refine lv_istore (lv' := [(4, .int 0), (3, .int 0), (0, .ref xn), (1, .int a1), (2, .int a2)]) hx hb dX3_join_3 hl (by decide) rfl (fun ls hl => ?_)
  suffices LOOP_1 : ∀ (n_1 : Nat) (x4_1 : Int32) (x3_1 : Int32) (c_n2_1 : Nat → Int32) (c_n3_1 : Nat → Int32) (H : Heap) (locs : List Loc) (ls : Array Slot), vn.toInt - x4_1.toInt < (n_1 : Int) → (0 ≤ x4_1.toInt) → (x4_1.toInt ≤ vn.toInt) → (prng c_n2_1 c_n3_1 40) → (0 ≤ x3_1.toInt) → (x3_1.toInt ≤ x4_1.toInt) → va_P D vwCl [(xn, .inr (3, [.int vp, .int vn, .ref n1, .ref n2, .ref n3, .ref n4, .ref n5])), (n2, .inl (cy 0, 40, .inl c_n2_1)), (n3, .inl (cy 0, 40, .inl c_n3_1))] H → va_D A [(xn, .inr (3, [.int vp, .int vn, .ref n1, .ref n2, .ref n3, .ref n4, .ref n5])), (n2, .inl (cy 0, 40, .inl c_n2_1)), (n3, .inl (cy 0, 40, .inl c_n3_1))] → va_S A s.heap H locs → lv_has ls 5 [(4, .int x4_1), (3, .int x3_1), (0, .ref xn), (1, .int a1), (2, .int a2)] → W p l e ({ frames := 1, cells := 0, slots := 0, locals := 22 } : Room) s m (([.ref xn, .int a1, .int a2] : List Value).toArray) below meth c H locs 0 0 Q (F0 m 5 ls []) from LOOP_1 ((vn.toInt - (0 : Int32).toInt).toNat + 1) (0 : Int32) (0 : Int32) fs fe _ _ _ (by omega) (by first | with_reducible assumption | assumption | omega) (by first | with_reducible assumption | assumption | omega) (by first | with_reducible assumption | assumption | omega) (by first | with_reducible assumption | assumption | omega) (by first | with_reducible assumption | assumption | omega) hP hD hS (lv_sub hl [0, 1, 2, 3, 4] rfl)
  intro n_1
  induction n_1 with
  | zero =>
    intro x4_1 x3_1 c_n2_1 c_n3_1 H locs ls hm v0_1 v1_1 v2_1 v3_1 v4_1 hP hD hS hl
    exact absurd hm (by omega)
  | succ n_1 ih_1 =>
    intro x4_1 x3_1 c_n2_1 c_n3_1 H locs ls hm v0_1 v1_1 v2_1 v3_1 v4_1 hP hD hS hl
    refine lv_iload hx hb dX3_join_5 (lv_at hl 0 rfl) ?_
    refine lv_aload_n hx hb dX3_join_7 rfl (lv_at hl 2 rfl) ?_
    refine va_get (ci := 3) (v := .int vn) (C := RX3) (T := TX3) (N := 7) hx hb hts (fun _ h => List.mem_cons_of_mem _ (List.mem_append_right _ h)) hown hK.1 hP 0 rfl rfl 1 (by decide) (hts (.fieldLink RX3 15 "CutAtlas$Net" "lines" "I") (by decide +kernel)) (fun _ h9 => h9) rfl dX3_join_8 ?_
    refine lv_icmp_ge (tgt := 105) hx hb dX3_join_11 (by decide) (fun c_2 => ?_) (fun c_2 => ?_)
    · have t_2 : vn.toInt ≤ x4_1.toInt := Int32.le_iff_toInt_le.mp c_2
      refine lv_aload_n hx hb dX3_join_105 rfl (lv_at hl 2 rfl) ?_
      refine lv_dup hx hb dX3_join_106 rfl ?_
      refine va_get (ci := 3) (v := .int vp) (C := RX3) (T := TX3) (N := 7) hx hb hts (fun _ h => List.mem_cons_of_mem _ (List.mem_append_right _ h)) hown hK.1 hP 0 rfl rfl 0 (by decide) (hts (.fieldLink RX3 9 "CutAtlas$Net" "places" "I") (by decide +kernel)) (fun _ h9 => h9) rfl dX3_join_107 ?_
      refine lv_iconst (v := 1) hx hb dX3_join_110 (by decide) ?_
      refine lv_isub hx hb dX3_join_111 ?_
      refine lv_topi (fun y_3 ey_3 => ?_)
      have ty_3 : y_3.toInt = vp.toInt - (1 : Int32).toInt := by rw [ey_3]; exact subI (by omega) (by omega)
      refine va_put (ci := 3) (v := .int y_3) (ty := .int) (C := RX3) (T := TX3) (N := 7) hx hb hts (fun _ h => List.mem_cons_of_mem _ (List.mem_append_right _ h)) tyX3 tyX3_ok nmX3 hown hK.1 hP hD hS 0 rfl rfl 0 (by decide) (hts (.fieldLink RX3 9 "CutAtlas$Net" "places" "I") (by decide +kernel)) (fun _ h9 => h9) rfl (by decide +kernel) rfl rfl (Nat.le_of_ble_eq_true rfl) dX3_join_112 (fun H locs hP hD hS => ?_)
      refine pd_K [(xn, .inr (3, [.int y_3, .int vn, .ref n1, .ref n2, .ref n3, .ref n4, .ref n5])), (n2, .inl (cy 0, 40, .inl c_n2_1)), (n3, .inl (cy 0, 40, .inl c_n3_1))] hP hD (fun hP hD => ?_)
      refine lv_iload_n hx hb dX3_join_115 rfl (lv_at hl 1 rfl) ?_
      have hP9 := hP.sub (ws' := [(xn, .inr (3, [.int y_3, .int vn, .ref n1, .ref n2, .ref n3, .ref n4, .ref n5])), (n2, .inl (cy 0, 40, .inl c_n2_1)), (n3, .inl (cy 0, 40, .inl c_n3_1))]) [0, 1, 2] rfl
      have hD9 := hD.sub (ws' := [(xn, .inr (3, [.int y_3, .int vn, .ref n1, .ref n2, .ref n3, .ref n4, .ref n5])), (n2, .inl (cy 0, 40, .inl c_n2_1)), (n3, .inl (cy 0, 40, .inl c_n3_1))]) [0, 1, 2] (by decide) rfl
      rw [hQ]
      exact W.iret (v := x3_1) hx hb hr (fun t ht hW => ⟨⟨x3_1, (), rfl, trivial, y_3, c_n2_1, c_n3_1, (by first | with_reducible assumption | assumption | exact rng_zero (by omega) (by omega) | omega), (by first | with_reducible assumption | assumption | exact rng_zero (by omega) (by omega) | omega), by rw [ht]; exact hP9, hD9⟩, hS.F ht⟩) hS.2.2 dX3_join_116
    · have t_2 : ¬ vn.toInt ≤ x4_1.toInt := fun h => c_2 (Int32.le_iff_toInt_le.mpr h)
      refine lv_aload_n hx hb dX3_join_14 rfl (lv_at hl 2 rfl) ?_
      refine lv_iload hx hb dX3_join_15 (lv_at hl 0 rfl) ?_
      refine ct_R hP hD [(xn, .inr (3, [.int vp, .int vn, .ref n1, .ref n2, .ref n3, .ref n4, .ref n5])), (n2, .inl (cy 0, 40, .inl c_n2_1))] [0, 1] (by decide) rfl (fun hPc hDw => ?_)
      have hFc := va_free (wc := []) hD hS hA [] rfl
      refine va_calli (va_runV (As := [.int x4_1]) (rest := []) ⟨hx, hb, hml, hown, hts⟩ (c_X3_isMissing l D cy H.size xn n1 n2 n3 n4 n5 vp vn c_n2_1 x4_1 (by first | with_reducible assumption | assumption | omega)) (cwV 1 hts gX3_join_X3_isMissing rfl rfl rfl (by decide +kernel) ⟨Nat.le_of_ble_eq_true rfl, Nat.le_of_ble_eq_true rfl⟩) ⟨bl_, va_recvX hK.1 hP (ci := 3) (q0 := 0) rfl rfl, fun U hU hW => ⟨rfl, by rw [hU], by rw [hU]; exact hPc, kk_mv hW hK, hDw⟩⟩ rfl rfl hl.1 rfl (lv_room (Nat.le_of_ble_eq_true rfl)) dX3_join_17 ⟨Nat.le_of_ble_eq_true rfl, Nat.le_of_ble_eq_true rfl⟩) hS (fun q _ h => hFc q h) hFc (fun r_4 u t H locs ht hvm hw hB hz1 hk1 hS => ?_)
      have hP : va_P D vwCl _ H := ro_keep hP hk1
      rcases hw with ⟨w_5, e_⟩ | ⟨w_5, e_⟩
      · have e_ := e_.symm
        subst e_
        refine lv_if_ne (tgt := 99) hx hb dX3_join_20 (by decide) (fun c_6 => ?_) (fun c_6 => ?_)
        · have _ := c_6
          obtain ⟨y_7, ey_7⟩ : ∃ y : Int32, y = x4_1 + 1 := ⟨_, rfl⟩
          have ty_7 : y_7.toInt = x4_1.toInt + (1 : Int32).toInt := by rw [ey_7]; exact addI (by omega) (by omega)
          refine lv_iinc (v := y_7) (lv' := [(4, .int y_7), (3, .int x3_1), (0, .ref xn), (1, .int a1), (2, .int a2)]) hx hb dX3_join_99 hl (k := 0) rfl (by rw [ey_7]; rfl) (by decide) rfl (fun ls hl => ?_)
          refine lv_goto (tgt := 5) hx hb dX3_join_102 (by decide) ?_
          exact ih_1 y_7 x3_1 c_n2_1 c_n3_1 _ _ _ (by omega) (by first | with_reducible assumption | assumption | omega) (by first | with_reducible assumption | assumption | omega) (by first | with_reducible assumption | assumption | omega) (by first | with_reducible assumption | assumption | omega) (by first | with_reducible assumption | assumption | omega) hP hD hS (lv_sub hl [0, 1, 2, 3, 4] rfl)
        · exact absurd c_6 (by decide)
      · have e_ := e_.symm
        subst e_
        refine lv_if_ne (tgt := 99) hx hb dX3_join_20 (by decide) (fun c_8 => ?_) (fun c_8 => ?_)
        · exact absurd c_8 (by decide)
        · have _ := c_8
          refine lv_aload_n hx hb dX3_join_23 rfl (lv_at hl 2 rfl) ?_
          refine va_get (ci := 3) (v := .ref n2) (C := RX3) (T := TX3) (N := 7) hx hb hts (fun _ h => List.mem_cons_of_mem _ (List.mem_append_right _ h)) hown hK.1 hP 0 rfl rfl 3 (by decide) (hts (.fieldLink RX3 22 "CutAtlas$Net" "starts" "[I") (by decide +kernel)) (fun _ h9 => h9) rfl dX3_join_24 ?_
          refine lv_iload hx hb dX3_join_27 (lv_at hl 0 rfl) ?_
          refine lv_aload_n hx hb dX3_join_29 rfl (lv_at hl 2 rfl) ?_
          refine va_get (ci := 3) (v := .ref n2) (C := RX3) (T := TX3) (N := 7) hx hb hts (fun _ h => List.mem_cons_of_mem _ (List.mem_append_right _ h)) hown hK.1 hP 0 rfl rfl 3 (by decide) (hts (.fieldLink RX3 22 "CutAtlas$Net" "starts" "[I") (by decide +kernel)) (fun _ h9 => h9) rfl dX3_join_30 ?_
          refine lv_iload hx hb dX3_join_33 (lv_at hl 0 rfl) ?_
          have h_9 : vp_in x4_1 40 := in_I (by omega) (by omega)
          refine va_iald hx hb hK.1 hP 1 0 rfl rfl (i := x4_1) h_9 dX3_join_35 ?_
          refine lv_topi (fun y_10 ey_10 => ?_)
          have ry_10 := v2_1 _ (in_lt h_9)
          have jy_10 : y_10.toInt = (c_n2_1 x4_1.toNatClampNeg).toInt := by rw [ey_10]
          refine lv_iload_n hx hb dX3_join_36 rfl (lv_at hl 3 rfl) ?_
          refine lv_iload_n hx hb dX3_join_37 rfl (lv_at hl 4 rfl) ?_
          refine ct_R hP hD [] [] (by decide) rfl (fun hPc hDw => ?_)
          have hFc := va_free (wc := []) hD hS hA [] rfl
          refine va_calli (va_runS (As := [.int y_10, .int a1, .int a2]) (rest := [.int x4_1, .ref n2]) ⟨hx, hb, hml, hown, hts⟩ (c_X3_renumbered l D cy H.size y_10 a1 a2 (by first | with_reducible assumption | assumption | omega) (by first | with_reducible assumption | assumption | omega) (by first | with_reducible assumption | assumption | omega)) (va_cwS 3 hts gX3_join_X3_renumbered rfl rfl rfl (by decide +kernel) ⟨Nat.le_of_ble_eq_true rfl, Nat.le_of_ble_eq_true rfl⟩) ⟨bl_, fun U hU hW => ⟨rfl, by rw [hU], by rw [hU]; exact hPc, kk_mv hW hK, hDw⟩⟩ rfl rfl hl.1 rfl (lv_room (Nat.le_of_ble_eq_true rfl)) dX3_join_38 ⟨Nat.le_of_ble_eq_true rfl, Nat.le_of_ble_eq_true rfl⟩) hS (fun q _ h => hFc q h) hFc (fun r_11 u t H locs ht hvm hw hB hz1 hk1 hS => ?_)
          have hP : va_P D vwCl _ H := ro_keep hP hk1
          have f0_r_11 := hw
          have h_12 : vp_in x4_1 40 := in_I (by omega) (by omega)
          refine va_iast hx hb hK.1 hP hD hS 1 0 rfl rfl (i := x4_1) h_12 dX3_join_41 (fun H locs hP hD hS => ?_)
          obtain ⟨f_13, ef_13⟩ : ∃ g : Nat → Int32, g = upd c_n2_1 x4_1.toNatClampNeg r_11 := ⟨_, rfl⟩
          have hP : va_P D vwCl [(xn, .inr (3, [.int vp, .int vn, .ref n1, .ref n2, .ref n3, .ref n4, .ref n5])), (n2, .inl (cy 0, 40, .inl f_13)), (n3, .inl (cy 0, 40, .inl c_n3_1))] H := by rw [ef_13]; exact hP
          have hD : va_D A [(xn, .inr (3, [.int vp, .int vn, .ref n1, .ref n2, .ref n3, .ref n4, .ref n5])), (n2, .inl (cy 0, 40, .inl f_13)), (n3, .inl (cy 0, 40, .inl c_n3_1))] := by rw [ef_13]; exact hD
          refine lv_aload_n hx hb dX3_join_42 rfl (lv_at hl 2 rfl) ?_
          refine va_get (ci := 3) (v := .ref n3) (C := RX3) (T := TX3) (N := 7) hx hb hts (fun _ h => List.mem_cons_of_mem _ (List.mem_append_right _ h)) hown hK.1 hP 0 rfl rfl 4 (by decide) (hts (.fieldLink RX3 25 "CutAtlas$Net" "ends" "[I") (by decide +kernel)) (fun _ h9 => h9) rfl dX3_join_43 ?_
          refine lv_iload hx hb dX3_join_46 (lv_at hl 0 rfl) ?_
          refine lv_aload_n hx hb dX3_join_48 rfl (lv_at hl 2 rfl) ?_
          refine va_get (ci := 3) (v := .ref n3) (C := RX3) (T := TX3) (N := 7) hx hb hts (fun _ h => List.mem_cons_of_mem _ (List.mem_append_right _ h)) hown hK.1 hP 0 rfl rfl 4 (by decide) (hts (.fieldLink RX3 25 "CutAtlas$Net" "ends" "[I") (by decide +kernel)) (fun _ h9 => h9) rfl dX3_join_49 ?_
          refine lv_iload hx hb dX3_join_52 (lv_at hl 0 rfl) ?_
          have h_14 : vp_in x4_1 40 := in_I (by omega) (by omega)
          refine va_iald hx hb hK.1 hP 2 0 rfl rfl (i := x4_1) h_14 dX3_join_54 ?_
          refine lv_topi (fun y_15 ey_15 => ?_)
          have ry_15 := v2_1 _ (in_lt h_14)
          have jy_15 : y_15.toInt = (c_n3_1 x4_1.toNatClampNeg).toInt := by rw [ey_15]
          refine lv_iload_n hx hb dX3_join_55 rfl (lv_at hl 3 rfl) ?_
          refine lv_iload_n hx hb dX3_join_56 rfl (lv_at hl 4 rfl) ?_
          refine ct_R hP hD [] [] (by decide) rfl (fun hPc hDw => ?_)
          have hFc := va_free (wc := []) hD hS hA [] rfl
          refine va_calli (va_runS (As := [.int y_15, .int a1, .int a2]) (rest := [.int x4_1, .ref n3]) ⟨hx, hb, hml, hown, hts⟩ (c_X3_renumbered l D cy H.size y_15 a1 a2 (by first | with_reducible assumption | assumption | omega) (by first | with_reducible assumption | assumption | omega) (by first | with_reducible assumption | assumption | omega)) (va_cwS 3 hts gX3_join_X3_renumbered rfl rfl rfl (by decide +kernel) ⟨Nat.le_of_ble_eq_true rfl, Nat.le_of_ble_eq_true rfl⟩) ⟨bl_, fun U hU hW => ⟨rfl, by rw [hU], by rw [hU]; exact hPc, kk_mv hW hK, hDw⟩⟩ rfl rfl hl.1 rfl (lv_room (Nat.le_of_ble_eq_true rfl)) dX3_join_57 ⟨Nat.le_of_ble_eq_true rfl, Nat.le_of_ble_eq_true rfl⟩) hS (fun q _ h => hFc q h) hFc (fun r_16 u t H locs ht hvm hw hB hz1 hk1 hS => ?_)
          have hP : va_P D vwCl _ H := ro_keep hP hk1
          have f0_r_16 := hw
          have h_17 : vp_in x4_1 40 := in_I (by omega) (by omega)
          refine va_iast hx hb hK.1 hP hD hS 2 0 rfl rfl (i := x4_1) h_17 dX3_join_60 (fun H locs hP hD hS => ?_)
          obtain ⟨f_18, ef_18⟩ : ∃ g : Nat → Int32, g = upd c_n3_1 x4_1.toNatClampNeg r_16 := ⟨_, rfl⟩
          have hP : va_P D vwCl [(xn, .inr (3, [.int vp, .int vn, .ref n1, .ref n2, .ref n3, .ref n4, .ref n5])), (n2, .inl (cy 0, 40, .inl f_13)), (n3, .inl (cy 0, 40, .inl f_18))] H := by rw [ef_18]; exact hP
          have hD : va_D A [(xn, .inr (3, [.int vp, .int vn, .ref n1, .ref n2, .ref n3, .ref n4, .ref n5])), (n2, .inl (cy 0, 40, .inl f_13)), (n3, .inl (cy 0, 40, .inl f_18))] := by rw [ef_18]; exact hD
          have pr_19 : prng f_13 f_18 40 := prng_st (by assumption) (by assumption) (by assumption) (by omega)
          refine lv_aload_n hx hb dX3_join_61 rfl (lv_at hl 2 rfl) ?_
          refine va_get (ci := 3) (v := .ref n2) (C := RX3) (T := TX3) (N := 7) hx hb hts (fun _ h => List.mem_cons_of_mem _ (List.mem_append_right _ h)) hown hK.1 hP 0 rfl rfl 3 (by decide) (hts (.fieldLink RX3 22 "CutAtlas$Net" "starts" "[I") (by decide +kernel)) (fun _ h9 => h9) rfl dX3_join_62 ?_
          refine lv_iload hx hb dX3_join_65 (lv_at hl 0 rfl) ?_
          have h_20 : vp_in x4_1 40 := in_I (by omega) (by omega)
          refine va_iald hx hb hK.1 hP 1 0 rfl rfl (i := x4_1) h_20 dX3_join_67 ?_
          refine lv_topi (fun y_21 ey_21 => ?_)
          have ry_21 := pr_19 _ (in_lt h_20)
          have jy_21 : y_21.toInt = (f_13 x4_1.toNatClampNeg).toInt := by rw [ey_21]
          refine lv_aload_n hx hb dX3_join_68 rfl (lv_at hl 2 rfl) ?_
          refine va_get (ci := 3) (v := .ref n3) (C := RX3) (T := TX3) (N := 7) hx hb hts (fun _ h => List.mem_cons_of_mem _ (List.mem_append_right _ h)) hown hK.1 hP 0 rfl rfl 4 (by decide) (hts (.fieldLink RX3 25 "CutAtlas$Net" "ends" "[I") (by decide +kernel)) (fun _ h9 => h9) rfl dX3_join_69 ?_
          refine lv_iload hx hb dX3_join_72 (lv_at hl 0 rfl) ?_
          have h_22 : vp_in x4_1 40 := in_I (by omega) (by omega)
          refine va_iald hx hb hK.1 hP 2 0 rfl rfl (i := x4_1) h_22 dX3_join_74 ?_
          refine lv_topi (fun y_23 ey_23 => ?_)
          have ry_23 := pr_19 _ (in_lt h_22)
          have jy_23 : y_23.toInt = (f_18 x4_1.toNatClampNeg).toInt := by rw [ey_23]
          refine lv_icmp_ne (tgt := 99) hx hb dX3_join_75 (by decide) (fun c_24 => ?_) (fun c_24 => ?_)
          · have t_24 : ¬ y_21.toInt = y_23.toInt := fun h => c_24 (Int32.toInt_inj.mp h)
            obtain ⟨y_25, ey_25⟩ : ∃ y : Int32, y = x4_1 + 1 := ⟨_, rfl⟩
            have ty_25 : y_25.toInt = x4_1.toInt + (1 : Int32).toInt := by rw [ey_25]; exact addI (by omega) (by omega)
            refine lv_iinc (v := y_25) (lv' := [(4, .int y_25), (3, .int x3_1), (0, .ref xn), (1, .int a1), (2, .int a2)]) hx hb dX3_join_99 hl (k := 0) rfl (by rw [ey_25]; rfl) (by decide) rfl (fun ls hl => ?_)
            refine lv_goto (tgt := 5) hx hb dX3_join_102 (by decide) ?_
            exact ih_1 y_25 x3_1 f_13 f_18 _ _ _ (by omega) (by first | with_reducible assumption | assumption | omega) (by first | with_reducible assumption | assumption | omega) (by first | with_reducible assumption | assumption | omega) (by first | with_reducible assumption | assumption | omega) (by first | with_reducible assumption | assumption | omega) hP hD hS (lv_sub hl [0, 1, 2, 3, 4] rfl)
          · have t_24 : y_21.toInt = y_23.toInt := congrArg Int32.toInt c_24
            refine lv_aload_n hx hb dX3_join_78 rfl (lv_at hl 2 rfl) ?_
            refine va_get (ci := 3) (v := .ref n2) (C := RX3) (T := TX3) (N := 7) hx hb hts (fun _ h => List.mem_cons_of_mem _ (List.mem_append_right _ h)) hown hK.1 hP 0 rfl rfl 3 (by decide) (hts (.fieldLink RX3 22 "CutAtlas$Net" "starts" "[I") (by decide +kernel)) (fun _ h9 => h9) rfl dX3_join_79 ?_
            refine lv_iload hx hb dX3_join_82 (lv_at hl 0 rfl) ?_
            refine lv_bipush (v := (-9)) hx hb dX3_join_84 (by decide) ?_
            have h_26 : vp_in x4_1 40 := in_I (by omega) (by omega)
            refine va_iast hx hb hK.1 hP hD hS 1 0 rfl rfl (i := x4_1) h_26 dX3_join_86 (fun H locs hP hD hS => ?_)
            obtain ⟨f_27, ef_27⟩ : ∃ g : Nat → Int32, g = upd f_13 x4_1.toNatClampNeg ((-9) : Int32) := ⟨_, rfl⟩
            have hP : va_P D vwCl [(xn, .inr (3, [.int vp, .int vn, .ref n1, .ref n2, .ref n3, .ref n4, .ref n5])), (n2, .inl (cy 0, 40, .inl f_27)), (n3, .inl (cy 0, 40, .inl f_18))] H := by rw [ef_27]; exact hP
            have hD : va_D A [(xn, .inr (3, [.int vp, .int vn, .ref n1, .ref n2, .ref n3, .ref n4, .ref n5])), (n2, .inl (cy 0, 40, .inl f_27)), (n3, .inl (cy 0, 40, .inl f_18))] := by rw [ef_27]; exact hD
            refine lv_aload_n hx hb dX3_join_87 rfl (lv_at hl 2 rfl) ?_
            refine va_get (ci := 3) (v := .ref n3) (C := RX3) (T := TX3) (N := 7) hx hb hts (fun _ h => List.mem_cons_of_mem _ (List.mem_append_right _ h)) hown hK.1 hP 0 rfl rfl 4 (by decide) (hts (.fieldLink RX3 25 "CutAtlas$Net" "ends" "[I") (by decide +kernel)) (fun _ h9 => h9) rfl dX3_join_88 ?_
            refine lv_iload hx hb dX3_join_91 (lv_at hl 0 rfl) ?_
            refine lv_bipush (v := (-9)) hx hb dX3_join_93 (by decide) ?_
            have h_28 : vp_in x4_1 40 := in_I (by omega) (by omega)
            refine va_iast hx hb hK.1 hP hD hS 2 0 rfl rfl (i := x4_1) h_28 dX3_join_95 (fun H locs hP hD hS => ?_)
            obtain ⟨f_29, ef_29⟩ : ∃ g : Nat → Int32, g = upd f_18 x4_1.toNatClampNeg ((-9) : Int32) := ⟨_, rfl⟩
            have hP : va_P D vwCl [(xn, .inr (3, [.int vp, .int vn, .ref n1, .ref n2, .ref n3, .ref n4, .ref n5])), (n2, .inl (cy 0, 40, .inl f_27)), (n3, .inl (cy 0, 40, .inl f_29))] H := by rw [ef_29]; exact hP
            have hD : va_D A [(xn, .inr (3, [.int vp, .int vn, .ref n1, .ref n2, .ref n3, .ref n4, .ref n5])), (n2, .inl (cy 0, 40, .inl f_27)), (n3, .inl (cy 0, 40, .inl f_29))] := by rw [ef_29]; exact hD
            have pr_30 : prng f_27 f_29 40 := prng_st (by assumption) (by assumption) (by assumption) (by omega)
            obtain ⟨y_31, ey_31⟩ : ∃ y : Int32, y = x3_1 + 1 := ⟨_, rfl⟩
            have ty_31 : y_31.toInt = x3_1.toInt + (1 : Int32).toInt := by rw [ey_31]; exact addI (by omega) (by omega)
            refine lv_iinc (v := y_31) (lv' := [(3, .int y_31), (4, .int x4_1), (0, .ref xn), (1, .int a1), (2, .int a2)]) hx hb dX3_join_96 hl (k := 1) rfl (by rw [ey_31]; rfl) (by decide) rfl (fun ls hl => ?_)
            obtain ⟨y_32, ey_32⟩ : ∃ y : Int32, y = x4_1 + 1 := ⟨_, rfl⟩
            have ty_32 : y_32.toInt = x4_1.toInt + (1 : Int32).toInt := by rw [ey_32]; exact addI (by omega) (by omega)
            refine lv_iinc (v := y_32) (lv' := [(4, .int y_32), (3, .int y_31), (0, .ref xn), (1, .int a1), (2, .int a2)]) hx hb dX3_join_99 hl (k := 1) rfl (by rw [ey_32]; rfl) (by decide) rfl (fun ls hl => ?_)
            refine lv_goto (tgt := 5) hx hb dX3_join_102 (by decide) ?_
            exact ih_1 y_32 y_31 f_27 f_29 _ _ _ (by omega) (by first | with_reducible assumption | assumption | omega) (by first | with_reducible assumption | assumption | omega) (by first | with_reducible assumption | assumption | omega) (by first | with_reducible assumption | assumption | omega) (by first | with_reducible assumption | assumption | omega) hP hD hS (lv_sub hl [0, 1, 2, 3, 4] rfl)
