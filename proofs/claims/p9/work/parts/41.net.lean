/-- the ends of the lines: a line that is missing, or two places -/
def prng (f g : Nat → Int32) (n : Nat) : Prop := ∀ j : Nat, j < n → (f j).toInt = -9 ∨ (0 ≤ (f j).toInt ∧ (f j).toInt ≤ 11 ∧ 0 ≤ (g j).toInt ∧ (g j).toInt ≤ 11)
theorem prng_st {f g f' g' : Nat → Int32} {n k : Nat} {x y : Int32} (e1 : f' = upd f k x) (e2 : g' = upd g k y) (h : prng f g n) (hx : x.toInt = -9 ∨ (0 ≤ x.toInt ∧ x.toInt ≤ 11 ∧ 0 ≤ y.toInt ∧ y.toInt ≤ 11)) : prng f' g' n := fun j hj => by
  rw [e1, e2]
  by_cases e : j = k
  · subst e
    rw [pk_us, pk_us]
    exact hx
  · rw [pk_un e, pk_un e]
    exact h j hj

set_option maxHeartbeats 4000000 in
set_option maxRecDepth 100000 in
theorem c_X3_hasPlace (l : Launch) (D : va_G) (cy : Nat → ClassId) (sz : Nat) (xn : Nat) (n1 : Nat) (n2 : Nat) (n3 : Nat) (n4 : Nat) (n5 : Nat) (vp : Int32) (vn : Int32) (a1 : Int64) : Met l yX3_hasPlace wsX3_hasPlace ({ frames := 0, cells := 0, slots := 0, locals := 0 }) (va_Pc [.ref xn, .long a1] (fun U => U.heap.size = sz ∧ va_P D vwCl [(xn, .inr (3, [.int vp, .int vn, .ref n1, .ref n2, .ref n3, .ref n4, .ref n5]))] U.heap ∧ kk_ D cy U ∧ va_D (fun _ => True) [(xn, .inr (3, [.int vp, .int vn, .ref n1, .ref n2, .ref n3, .ref n4, .ref n5]))])) (va_Qi (fun (r : Int32) (_ : Unit) => ((0 ≤ a1.toInt ∧ a1.toInt < vp.toInt) ∧ r = 1) ∨ ((¬ (0 ≤ a1.toInt ∧ a1.toInt < vp.toInt)) ∧ r = 0)) (fun (_ : Unit) (_ : State) => True) (va_A [] sz)) 0 0 (va_A [] sz) := by
  refine ofQ (cc := cX3_hasPlace) (maxL := 3) (ret := (some .boolean)) (by decide) rfl ?_
  intro p e s m args below meth c s₁ Q hQ B hml hv
  obtain ⟨rfl, hsz, hP, hK, hD0⟩ := hv
  have hx := B.exec
  have hb := B.bytes
  have hr := B.returns
  have hts := atoms_spec (ws := wsX3_hasPlace) B.pre
  have hown : s.vm.findClass RX3 = some m.cls := by have h_ := findClass_of_methodNamed B.named; exact h_
  have hlocks := B.notSynchronized
  subst hsz
  have hD : va_D (va_A [] s.heap.size) [] := dd_nil
  generalize hAe : va_A [] s.heap.size = A at hD hQ
  have hA : ∀ q : Nat, s.heap.size ≤ q → A q := fun q h => by rw [← hAe]; exact Or.inr h
  have hS : va_S A s.heap s.heap [] := va_S.rf
  have hl := lv_entry ([.ref xn, .long a1]) (n := 3) (Nat.le_of_ble_eq_true rfl)
  rw [lg_entry_eq]
  generalize (lg_sl ([.ref xn, .long a1]) ++ List.replicate (3 - (lg_sl ([.ref xn, .long a1])).length) Slot.unset).toArray = ls at hl ⊢
  have hl : lv_has ls 3 [(0, .ref xn), (1, .long a1)] := hl
  have z0 : (0 : Int32).toInt = 0 := by decide
  have zl0 : (0 : Int64).toInt = 0 := by decide
  have z1 : (1 : Int32).toInt = 1 := by decide
  refine lv_lload_n hx hb dX3_hasPlace_0 rfl (lv_at hl 1 rfl) ?_
  refine lv_lconst (v := 0) hx hb dX3_hasPlace_1 (by decide) ?_
  refine W.lcmp hx hb dX3_hasPlace_2 ?_
  refine lv_if_lt (tgt := 20) hx hb dX3_hasPlace_3 (by decide) (fun c_1 => ?_) (fun c_1 => ?_)
  · have t_1 : a1.toInt < (0 : Int64).toInt := Int64.lt_iff_toInt_lt.mp ((lg_cmp_lt a1 0).mp c_1)
    refine lv_iconst (v := 0) hx hb dX3_hasPlace_20 (by decide) ?_
    rw [hQ]
    exact W.zret (ty := .boolean) (v := 0) hx hb hr (by decide) (fun t ht hW => ⟨⟨0, (), rfl, Or.inr (⟨by omega, rfl⟩), trivial⟩, hS.F ht⟩) hS.2.2 dX3_hasPlace_21
  · have t_1 : ¬ a1.toInt < (0 : Int64).toInt := fun h => c_1 ((lg_cmp_lt a1 0).mpr (Int64.lt_iff_toInt_lt.mpr h))
    refine lv_lload_n hx hb dX3_hasPlace_6 rfl (lv_at hl 1 rfl) ?_
    refine lv_aload_n hx hb dX3_hasPlace_7 rfl (lv_at hl 0 rfl) ?_
    refine va_get (ci := 3) (v := .int vp) (C := RX3) (T := TX3) (N := 7) hx hb hts (fun _ h => List.mem_cons_of_mem _ (List.mem_append_right _ h)) hown hK.1 hP 0 rfl rfl 0 (by decide) (hts (.fieldLink RX3 9 "CutAtlas$Net" "places" "I") (by decide +kernel)) (fun _ h9 => h9) rfl dX3_hasPlace_8 ?_
    refine lv_i2l (v := vp.toInt64) hx hb dX3_hasPlace_11 rfl ?_
    have q_11 : (vp.toInt64).toInt = vp.toInt := Int32.toInt_toInt64 vp
    refine W.lcmp hx hb dX3_hasPlace_12 ?_
    refine lv_if_ge (tgt := 20) hx hb dX3_hasPlace_13 (by decide) (fun c_2 => ?_) (fun c_2 => ?_)
    · have t_2 : vp.toInt64.toInt ≤ a1.toInt := Int64.le_iff_toInt_le.mp ((lg_cmp_ge a1 vp.toInt64).mp c_2)
      refine lv_iconst (v := 0) hx hb dX3_hasPlace_20 (by decide) ?_
      rw [hQ]
      exact W.zret (ty := .boolean) (v := 0) hx hb hr (by decide) (fun t ht hW => ⟨⟨0, (), rfl, Or.inr (⟨by omega, rfl⟩), trivial⟩, hS.F ht⟩) hS.2.2 dX3_hasPlace_21
    · have t_2 : ¬ vp.toInt64.toInt ≤ a1.toInt := fun h => c_2 ((lg_cmp_ge a1 vp.toInt64).mpr (Int64.le_iff_toInt_le.mpr h))
      refine lv_iconst (v := 1) hx hb dX3_hasPlace_16 (by decide) ?_
      refine lv_goto (tgt := 21) hx hb dX3_hasPlace_17 (by decide) ?_
      rw [hQ]
      exact W.zret (ty := .boolean) (v := 1) hx hb hr (by decide) (fun t ht hW => ⟨⟨1, (), rfl, Or.inl (⟨by omega, rfl⟩), trivial⟩, hS.F ht⟩) hS.2.2 dX3_hasPlace_21

set_option maxHeartbeats 4000000 in
set_option maxRecDepth 100000 in
theorem c_X3_hasPair (l : Launch) (D : va_G) (cy : Nat → ClassId) (sz : Nat) (xn : Nat) (n1 : Nat) (n2 : Nat) (n3 : Nat) (n4 : Nat) (n5 : Nat) (vp : Int32) (vn : Int32) (a1 : Int64) (a2 : Int64) : Met l yX3_hasPair wsX3_hasPair ({ frames := 1, cells := 0, slots := 0, locals := 22 }) (va_Pc [.ref xn, .long a1, .long a2] (fun U => U.heap.size = sz ∧ va_P D vwCl [(xn, .inr (3, [.int vp, .int vn, .ref n1, .ref n2, .ref n3, .ref n4, .ref n5]))] U.heap ∧ kk_ D cy U ∧ va_D (fun _ => True) [(xn, .inr (3, [.int vp, .int vn, .ref n1, .ref n2, .ref n3, .ref n4, .ref n5]))])) (va_Qi (fun (r : Int32) (_ : Unit) => (((0 ≤ a1.toInt ∧ a1.toInt < vp.toInt) ∧ (0 ≤ a2.toInt ∧ a2.toInt < vp.toInt) ∧ a1.toInt ≠ a2.toInt) ∧ r = 1) ∨ ((¬ ((0 ≤ a1.toInt ∧ a1.toInt < vp.toInt) ∧ (0 ≤ a2.toInt ∧ a2.toInt < vp.toInt) ∧ a1.toInt ≠ a2.toInt)) ∧ r = 0)) (fun (_ : Unit) (_ : State) => True) (va_A [] sz)) 0 0 (va_A [] sz) := by
  refine ofQ (cc := cX3_hasPair) (maxL := 5) (ret := (some .boolean)) (by decide) rfl ?_
  intro p e s m args below meth c s₁ Q hQ B hml hv
  obtain ⟨rfl, hsz, hP, hK, hD0⟩ := hv
  have hx := B.exec
  have hb := B.bytes
  have hr := B.returns
  have hts := atoms_spec (ws := wsX3_hasPair) B.pre
  have hown : s.vm.findClass RX3 = some m.cls := by have h_ := findClass_of_methodNamed B.named; exact h_
  have hlocks := B.notSynchronized
  subst hsz
  have hD : va_D (va_A [] s.heap.size) [] := dd_nil
  generalize hAe : va_A [] s.heap.size = A at hD hQ
  have hA : ∀ q : Nat, s.heap.size ≤ q → A q := fun q h => by rw [← hAe]; exact Or.inr h
  have hS : va_S A s.heap s.heap [] := va_S.rf
  have hl := lv_entry ([.ref xn, .long a1, .long a2]) (n := 5) (Nat.le_of_ble_eq_true rfl)
  rw [lg_entry_eq]
  generalize (lg_sl ([.ref xn, .long a1, .long a2]) ++ List.replicate (5 - (lg_sl ([.ref xn, .long a1, .long a2])).length) Slot.unset).toArray = ls at hl ⊢
  have hl : lv_has ls 5 [(0, .ref xn), (1, .long a1), (3, .long a2)] := hl
  have z0 : (0 : Int32).toInt = 0 := by decide
  have z1 : (1 : Int32).toInt = 1 := by decide
  refine lv_aload_n hx hb dX3_hasPair_0 rfl (lv_at hl 0 rfl) ?_
  refine lv_lload_n hx hb dX3_hasPair_1 rfl (lv_at hl 1 rfl) ?_
  refine ct_R hP hD0 [(xn, .inr (3, [.int vp, .int vn, .ref n1, .ref n2, .ref n3, .ref n4, .ref n5]))] [0] (by decide) rfl (fun hPc hDw => ?_)
  have hFc := va_free (wc := []) hD hS hA [] rfl
  refine va_calli (va_runV (As := [.long a1]) (rest := []) ⟨hx, hb, hml, hown, hts⟩ (c_X3_hasPlace l D cy s.heap.size xn n1 n2 n3 n4 n5 vp vn a1) (cwV 1 hts gX3_hasPair_X3_hasPlace rfl rfl rfl (by decide +kernel) ⟨Nat.le_of_ble_eq_true rfl, Nat.le_of_ble_eq_true rfl⟩) ⟨bl_, va_recvX hK.1 hP (ci := 3) (q0 := 0) rfl rfl, fun U hU hW => ⟨rfl, by rw [hU], by rw [hU]; exact hPc, kk_mv hW hK, hDw⟩⟩ rfl rfl hl.1 rfl (lv_room (Nat.le_of_ble_eq_true rfl)) dX3_hasPair_2 ⟨Nat.le_of_ble_eq_true rfl, Nat.le_of_ble_eq_true rfl⟩) hS (fun q _ h => hFc q h) hFc (fun r_1 u t H locs ht hvm hw hB hz1 hk1 hS => ?_)
  have hP : va_P D vwCl _ H := ro_keep hP hk1
  rcases hw with ⟨w_2, e_⟩ | ⟨w_2, e_⟩
  · have e_ := e_.symm
    subst e_
    refine lv_if_eq (tgt := 26) hx hb dX3_hasPair_5 (by decide) (fun c_3 => ?_) (fun c_3 => ?_)
    · exact absurd c_3 (by decide)
    · have _ := c_3
      refine lv_aload_n hx hb dX3_hasPair_8 rfl (lv_at hl 0 rfl) ?_
      refine lv_lload_n hx hb dX3_hasPair_9 rfl (lv_at hl 2 rfl) ?_
      refine ct_R hP hD0 [(xn, .inr (3, [.int vp, .int vn, .ref n1, .ref n2, .ref n3, .ref n4, .ref n5]))] [0] (by decide) rfl (fun hPc hDw => ?_)
      have hFc := va_free (wc := []) hD hS hA [] rfl
      refine va_calli (va_runV (As := [.long a2]) (rest := []) ⟨hx, hb, hml, hown, hts⟩ (c_X3_hasPlace l D cy H.size xn n1 n2 n3 n4 n5 vp vn a2) (cwV 1 hts gX3_hasPair_X3_hasPlace rfl rfl rfl (by decide +kernel) ⟨Nat.le_of_ble_eq_true rfl, Nat.le_of_ble_eq_true rfl⟩) ⟨bl_, va_recvX hK.1 hP (ci := 3) (q0 := 0) rfl rfl, fun U hU hW => ⟨rfl, by rw [hU], by rw [hU]; exact hPc, kk_mv hW hK, hDw⟩⟩ rfl rfl hl.1 rfl (lv_room (Nat.le_of_ble_eq_true rfl)) dX3_hasPair_10 ⟨Nat.le_of_ble_eq_true rfl, Nat.le_of_ble_eq_true rfl⟩) hS (fun q _ h => hFc q h) hFc (fun r_4 u t H locs ht hvm hw hB hz1 hk1 hS => ?_)
      have hP : va_P D vwCl _ H := ro_keep hP hk1
      rcases hw with ⟨w_5, e_⟩ | ⟨w_5, e_⟩
      · have e_ := e_.symm
        subst e_
        refine lv_if_eq (tgt := 26) hx hb dX3_hasPair_13 (by decide) (fun c_6 => ?_) (fun c_6 => ?_)
        · exact absurd c_6 (by decide)
        · have _ := c_6
          refine lv_lload_n hx hb dX3_hasPair_16 rfl (lv_at hl 1 rfl) ?_
          refine lv_lload_n hx hb dX3_hasPair_17 rfl (lv_at hl 2 rfl) ?_
          refine W.lcmp hx hb dX3_hasPair_18 ?_
          refine lv_if_eq (tgt := 26) hx hb dX3_hasPair_19 (by decide) (fun c_7 => ?_) (fun c_7 => ?_)
          · have t_7 : a1.toInt = a2.toInt := congrArg Int64.toInt ((lg_cmp_eq a1 a2).mp c_7)
            refine lv_iconst (v := 0) hx hb dX3_hasPair_26 (by decide) ?_
            rw [hQ]
            exact W.zret (ty := .boolean) (v := 0) hx hb hr (by decide) (fun t ht hW => ⟨⟨0, (), rfl, Or.inr (⟨by omega, rfl⟩), trivial⟩, hS.F ht⟩) hS.2.2 dX3_hasPair_27
          · have t_7 : ¬ a1.toInt = a2.toInt := fun h => c_7 ((lg_cmp_eq a1 a2).mpr (Int64.toInt_inj.mp h))
            refine lv_iconst (v := 1) hx hb dX3_hasPair_22 (by decide) ?_
            refine lv_goto (tgt := 27) hx hb dX3_hasPair_23 (by decide) ?_
            rw [hQ]
            exact W.zret (ty := .boolean) (v := 1) hx hb hr (by decide) (fun t ht hW => ⟨⟨1, (), rfl, Or.inl (⟨by omega, rfl⟩), trivial⟩, hS.F ht⟩) hS.2.2 dX3_hasPair_27
      · have e_ := e_.symm
        subst e_
        refine lv_if_eq (tgt := 26) hx hb dX3_hasPair_13 (by decide) (fun c_8 => ?_) (fun c_8 => ?_)
        · have _ := c_8
          refine lv_iconst (v := 0) hx hb dX3_hasPair_26 (by decide) ?_
          rw [hQ]
          exact W.zret (ty := .boolean) (v := 0) hx hb hr (by decide) (fun t ht hW => ⟨⟨0, (), rfl, Or.inr (⟨by omega, rfl⟩), trivial⟩, hS.F ht⟩) hS.2.2 dX3_hasPair_27
        · exact absurd c_8 (by decide)
  · have e_ := e_.symm
    subst e_
    refine lv_if_eq (tgt := 26) hx hb dX3_hasPair_5 (by decide) (fun c_9 => ?_) (fun c_9 => ?_)
    · have _ := c_9
      refine lv_iconst (v := 0) hx hb dX3_hasPair_26 (by decide) ?_
      rw [hQ]
      exact W.zret (ty := .boolean) (v := 0) hx hb hr (by decide) (fun t ht hW => ⟨⟨0, (), rfl, Or.inr (⟨by omega, rfl⟩), trivial⟩, hS.F ht⟩) hS.2.2 dX3_hasPair_27
    · exact absurd c_9 (by decide)

set_option maxHeartbeats 4000000 in
set_option maxRecDepth 100000 in
theorem c_X3_hasLine (l : Launch) (D : va_G) (cy : Nat → ClassId) (sz : Nat) (xn : Nat) (n1 : Nat) (n2 : Nat) (n3 : Nat) (n4 : Nat) (n5 : Nat) (vp : Int32) (vn : Int32) (a1 : Int32) : Met l yX3_hasLine wsX3_hasLine ({ frames := 0, cells := 0, slots := 0, locals := 0 }) (va_Pc [.ref xn, .int a1] (fun U => U.heap.size = sz ∧ va_P D vwCl [(xn, .inr (3, [.int vp, .int vn, .ref n1, .ref n2, .ref n3, .ref n4, .ref n5]))] U.heap ∧ kk_ D cy U ∧ va_D (fun _ => True) [(xn, .inr (3, [.int vp, .int vn, .ref n1, .ref n2, .ref n3, .ref n4, .ref n5]))])) (va_Qi (fun (r : Int32) (_ : Unit) => ((0 ≤ a1.toInt ∧ a1.toInt < vn.toInt) ∧ r = 1) ∨ ((¬ (0 ≤ a1.toInt ∧ a1.toInt < vn.toInt)) ∧ r = 0)) (fun (_ : Unit) (_ : State) => True) (va_A [] sz)) 0 0 (va_A [] sz) := by
  refine ofQ (cc := cX3_hasLine) (maxL := 2) (ret := (some .boolean)) (by decide) rfl ?_
  intro p e s m args below meth c s₁ Q hQ B hml hv
  obtain ⟨rfl, hsz, hP, hK, hD0⟩ := hv
  have hx := B.exec
  have hb := B.bytes
  have hr := B.returns
  have hts := atoms_spec (ws := wsX3_hasLine) B.pre
  have hown : s.vm.findClass RX3 = some m.cls := by have h_ := findClass_of_methodNamed B.named; exact h_
  have hlocks := B.notSynchronized
  subst hsz
  have hD : va_D (va_A [] s.heap.size) [] := dd_nil
  generalize hAe : va_A [] s.heap.size = A at hD hQ
  have hA : ∀ q : Nat, s.heap.size ≤ q → A q := fun q h => by rw [← hAe]; exact Or.inr h
  have hS : va_S A s.heap s.heap [] := va_S.rf
  have hl := lv_entry ([.ref xn, .int a1]) (n := 2) (Nat.le_of_ble_eq_true rfl)
  rw [lg_entry_eq]
  generalize (lg_sl ([.ref xn, .int a1]) ++ List.replicate (2 - (lg_sl ([.ref xn, .int a1])).length) Slot.unset).toArray = ls at hl ⊢
  have hl : lv_has ls 2 [(0, .ref xn), (1, .int a1)] := hl
  have z0 : (0 : Int32).toInt = 0 := by decide
  have z1 : (1 : Int32).toInt = 1 := by decide
  refine lv_iload_n hx hb dX3_hasLine_0 rfl (lv_at hl 1 rfl) ?_
  refine lv_if_lt (tgt := 16) hx hb dX3_hasLine_1 (by decide) (fun c_1 => ?_) (fun c_1 => ?_)
  · have t_1 : a1.toInt < (0 : Int32).toInt := Int32.lt_iff_toInt_lt.mp c_1
    refine lv_iconst (v := 0) hx hb dX3_hasLine_16 (by decide) ?_
    rw [hQ]
    exact W.zret (ty := .boolean) (v := 0) hx hb hr (by decide) (fun t ht hW => ⟨⟨0, (), rfl, Or.inr (⟨by omega, rfl⟩), trivial⟩, hS.F ht⟩) hS.2.2 dX3_hasLine_17
  · have t_1 : ¬ a1.toInt < (0 : Int32).toInt := fun h => c_1 (Int32.lt_iff_toInt_lt.mpr h)
    refine lv_iload_n hx hb dX3_hasLine_4 rfl (lv_at hl 1 rfl) ?_
    refine lv_aload_n hx hb dX3_hasLine_5 rfl (lv_at hl 0 rfl) ?_
    refine va_get (ci := 3) (v := .int vn) (C := RX3) (T := TX3) (N := 7) hx hb hts (fun _ h => List.mem_cons_of_mem _ (List.mem_append_right _ h)) hown hK.1 hP 0 rfl rfl 1 (by decide) (hts (.fieldLink RX3 15 "CutAtlas$Net" "lines" "I") (by decide +kernel)) (fun _ h9 => h9) rfl dX3_hasLine_6 ?_
    refine lv_icmp_ge (tgt := 16) hx hb dX3_hasLine_9 (by decide) (fun c_2 => ?_) (fun c_2 => ?_)
    · have t_2 : vn.toInt ≤ a1.toInt := Int32.le_iff_toInt_le.mp c_2
      refine lv_iconst (v := 0) hx hb dX3_hasLine_16 (by decide) ?_
      rw [hQ]
      exact W.zret (ty := .boolean) (v := 0) hx hb hr (by decide) (fun t ht hW => ⟨⟨0, (), rfl, Or.inr (⟨by omega, rfl⟩), trivial⟩, hS.F ht⟩) hS.2.2 dX3_hasLine_17
    · have t_2 : ¬ vn.toInt ≤ a1.toInt := fun h => c_2 (Int32.le_iff_toInt_le.mpr h)
      refine lv_iconst (v := 1) hx hb dX3_hasLine_12 (by decide) ?_
      refine lv_goto (tgt := 17) hx hb dX3_hasLine_13 (by decide) ?_
      rw [hQ]
      exact W.zret (ty := .boolean) (v := 1) hx hb hr (by decide) (fun t ht hW => ⟨⟨1, (), rfl, Or.inl (⟨by omega, rfl⟩), trivial⟩, hS.F ht⟩) hS.2.2 dX3_hasLine_17

set_option maxHeartbeats 4000000 in
set_option maxRecDepth 100000 in
theorem c_X3_isMissing (l : Launch) (D : va_G) (cy : Nat → ClassId) (sz : Nat) (xn : Nat) (n1 : Nat) (n2 : Nat) (n3 : Nat) (n4 : Nat) (n5 : Nat) (vp : Int32) (vn : Int32) (fs : Nat → Int32) (a1 : Int32) (q1 : 0 ≤ a1.toInt ∧ a1.toInt < 40) : Met l yX3_isMissing wsX3_isMissing ({ frames := 0, cells := 0, slots := 0, locals := 0 }) (va_Pc [.ref xn, .int a1] (fun U => U.heap.size = sz ∧ va_P D vwCl [(xn, .inr (3, [.int vp, .int vn, .ref n1, .ref n2, .ref n3, .ref n4, .ref n5])), (n2, .inl (cy 0, 40, .inl fs))] U.heap ∧ kk_ D cy U ∧ va_D (fun _ => True) [(xn, .inr (3, [.int vp, .int vn, .ref n1, .ref n2, .ref n3, .ref n4, .ref n5])), (n2, .inl (cy 0, 40, .inl fs))])) (va_Qi (fun (r : Int32) (_ : Unit) => (((fs a1.toNatClampNeg).toInt = -9) ∧ r = 1) ∨ ((¬ ((fs a1.toNatClampNeg).toInt = -9)) ∧ r = 0)) (fun (_ : Unit) (_ : State) => True) (va_A [] sz)) 0 0 (va_A [] sz) := by
  refine ofQ (cc := cX3_isMissing) (maxL := 2) (ret := (some .boolean)) (by decide) rfl ?_
  intro p e s m args below meth c s₁ Q hQ B hml hv
  obtain ⟨rfl, hsz, hP, hK, hD0⟩ := hv
  have hx := B.exec
  have hb := B.bytes
  have hr := B.returns
  have hts := atoms_spec (ws := wsX3_isMissing) B.pre
  have hown : s.vm.findClass RX3 = some m.cls := by have h_ := findClass_of_methodNamed B.named; exact h_
  have hlocks := B.notSynchronized
  subst hsz
  have hD : va_D (va_A [] s.heap.size) [] := dd_nil
  generalize hAe : va_A [] s.heap.size = A at hD hQ
  have hA : ∀ q : Nat, s.heap.size ≤ q → A q := fun q h => by rw [← hAe]; exact Or.inr h
  have hS : va_S A s.heap s.heap [] := va_S.rf
  have hl := lv_entry ([.ref xn, .int a1]) (n := 2) (Nat.le_of_ble_eq_true rfl)
  rw [lg_entry_eq]
  generalize (lg_sl ([.ref xn, .int a1]) ++ List.replicate (2 - (lg_sl ([.ref xn, .int a1])).length) Slot.unset).toArray = ls at hl ⊢
  have hl : lv_has ls 2 [(0, .ref xn), (1, .int a1)] := hl
  have zm9 : ((-9) : Int32).toInt = -9 := by decide
  have z0 : (0 : Int32).toInt = 0 := by decide
  have z1 : (1 : Int32).toInt = 1 := by decide
  refine lv_aload_n hx hb dX3_isMissing_0 rfl (lv_at hl 0 rfl) ?_
  refine va_get (ci := 3) (v := .ref n2) (C := RX3) (T := TX3) (N := 7) hx hb hts (fun _ h => List.mem_cons_of_mem _ (List.mem_append_right _ h)) hown hK.1 hP 0 rfl rfl 3 (by decide) (hts (.fieldLink RX3 22 "CutAtlas$Net" "starts" "[I") (by decide +kernel)) (fun _ h9 => h9) rfl dX3_isMissing_1 ?_
  refine lv_iload_n hx hb dX3_isMissing_4 rfl (lv_at hl 1 rfl) ?_
  have h_1 : vp_in a1 40 := in_I (by omega) (by omega)
  refine va_iald hx hb hK.1 hP 1 0 rfl rfl (i := a1) h_1 dX3_isMissing_5 ?_
  refine lv_topi (fun y_2 ey_2 => ?_)
  refine lv_bipush (v := (-9)) hx hb dX3_isMissing_6 (by decide) ?_
  refine lv_icmp_ne (tgt := 15) hx hb dX3_isMissing_8 (by decide) (fun c_3 => ?_) (fun c_3 => ?_)
  · have t_3 : ¬ y_2.toInt = ((-9) : Int32).toInt := fun h => c_3 (Int32.toInt_inj.mp h)
    refine lv_iconst (v := 0) hx hb dX3_isMissing_15 (by decide) ?_
    rw [hQ]
    exact W.zret (ty := .boolean) (v := 0) hx hb hr (by decide) (fun t ht hW => ⟨⟨0, (), rfl, Or.inr (⟨by rw [← ey_2]; omega, rfl⟩), trivial⟩, hS.F ht⟩) hS.2.2 dX3_isMissing_16
  · have t_3 : y_2.toInt = ((-9) : Int32).toInt := congrArg Int32.toInt c_3
    refine lv_iconst (v := 1) hx hb dX3_isMissing_11 (by decide) ?_
    refine lv_goto (tgt := 16) hx hb dX3_isMissing_12 (by decide) ?_
    rw [hQ]
    exact W.zret (ty := .boolean) (v := 1) hx hb hr (by decide) (fun t ht hW => ⟨⟨1, (), rfl, Or.inl (⟨by rw [← ey_2]; omega, rfl⟩), trivial⟩, hS.F ht⟩) hS.2.2 dX3_isMissing_16

set_option maxHeartbeats 4000000 in
set_option maxRecDepth 100000 in
theorem c_X3_isWhole (l : Launch) (D : va_G) (cy : Nat → ClassId) (sz : Nat) (xn : Nat) (n1 : Nat) (n2 : Nat) (n3 : Nat) (n4 : Nat) (n5 : Nat) (vp : Int32) (vn : Int32) (fk : Nat → Int32) (fs : Nat → Int32) (hvn : 0 ≤ vn.toInt ∧ vn.toInt ≤ 40) : Met l yX3_isWhole wsX3_isWhole ({ frames := 1, cells := 0, slots := 0, locals := 21 }) (va_Pc [.ref xn] (fun U => U.heap.size = sz ∧ va_P D vwCl [(xn, .inr (3, [.int vp, .int vn, .ref n1, .ref n2, .ref n3, .ref n4, .ref n5])), (n1, .inl (cy 0, 40, .inl fk)), (n2, .inl (cy 0, 40, .inl fs))] U.heap ∧ kk_ D cy U ∧ va_D (fun _ => True) [(xn, .inr (3, [.int vp, .int vn, .ref n1, .ref n2, .ref n3, .ref n4, .ref n5])), (n1, .inl (cy 0, 40, .inl fk)), (n2, .inl (cy 0, 40, .inl fs))])) (va_Qi (fun (r : Int32) (_ : Unit) => (r.toInt = 0 ∨ r.toInt = 1)) (fun (_ : Unit) (_ : State) => True) (va_A [] sz)) 0 0 (va_A [] sz) := by
  refine ofQ (cc := cX3_isWhole) (maxL := 3) (ret := (some .boolean)) (by decide) rfl ?_
  intro p e s m args below meth c s₁ Q hQ B hml hv
  obtain ⟨rfl, hsz, hP, hK, hD0⟩ := hv
  have hx := B.exec
  have hb := B.bytes
  have hr := B.returns
  have hts := atoms_spec (ws := wsX3_isWhole) B.pre
  have hown : s.vm.findClass RX3 = some m.cls := by have h_ := findClass_of_methodNamed B.named; exact h_
  have hlocks := B.notSynchronized
  subst hsz
  have hD : va_D (va_A [] s.heap.size) [] := dd_nil
  generalize hAe : va_A [] s.heap.size = A at hD hQ
  have hA : ∀ q : Nat, s.heap.size ≤ q → A q := fun q h => by rw [← hAe]; exact Or.inr h
  have hS : va_S A s.heap s.heap [] := va_S.rf
  have hl := lv_entry ([.ref xn]) (n := 3) (Nat.le_of_ble_eq_true rfl)
  rw [lg_entry_eq]
  generalize (lg_sl ([.ref xn]) ++ List.replicate (3 - (lg_sl ([.ref xn])).length) Slot.unset).toArray = ls at hl ⊢
  have hl : lv_has ls 3 [(0, .ref xn)] := hl
  have z0 : (0 : Int32).toInt = 0 := by decide
  have z1 : (1 : Int32).toInt = 1 := by decide
  have z2 : (2 : Int32).toInt = 2 := by decide
  refine lv_iconst (v := 0) hx hb dX3_isWhole_0 (by decide) ?_
  refine lv_istore_n (lv' := [(1, .int 0), (0, .ref xn)]) hx hb dX3_isWhole_1 rfl hl (by decide) rfl (fun ls hl => ?_)
  suffices LOOP_1 : ∀ (n_1 : Nat) (x1_1 : Int32) (H : Heap) (locs : List Loc) (ls : Array Slot), vn.toInt - x1_1.toInt < (n_1 : Int) → (0 ≤ x1_1.toInt) → (x1_1.toInt ≤ vn.toInt) → va_P D vwCl [(xn, .inr (3, [.int vp, .int vn, .ref n1, .ref n2, .ref n3, .ref n4, .ref n5])), (n1, .inl (cy 0, 40, .inl fk)), (n2, .inl (cy 0, 40, .inl fs))] H → va_S A s.heap H locs → lv_has ls 3 [(1, .int x1_1), (0, .ref xn)] → W p l e ({ frames := 1, cells := 0, slots := 0, locals := 21 } : Room) s m (([.ref xn] : List Value).toArray) below meth c H locs 0 0 Q (F0 m 2 ls []) from LOOP_1 ((vn.toInt - (0 : Int32).toInt).toNat + 1) (0 : Int32) _ _ _ (by omega) (by first | with_reducible assumption | assumption | omega) (by first | with_reducible assumption | assumption | omega) hP  hS (lv_sub hl [0, 1] rfl)
  intro n_1
  induction n_1 with
  | zero =>
    intro x1_1 H locs ls hm v0_1 v1_1 hP hS hl
    exact absurd hm (by omega)
  | succ n_1 ih_1 =>
    intro x1_1 H locs ls hm v0_1 v1_1 hP hS hl
    refine lv_iload_n hx hb dX3_isWhole_2 rfl (lv_at hl 0 rfl) ?_
    refine lv_aload_n hx hb dX3_isWhole_3 rfl (lv_at hl 1 rfl) ?_
    refine va_get (ci := 3) (v := .int vn) (C := RX3) (T := TX3) (N := 7) hx hb hts (fun _ h => List.mem_cons_of_mem _ (List.mem_append_right _ h)) hown hK.1 hP 0 rfl rfl 1 (by decide) (hts (.fieldLink RX3 15 "CutAtlas$Net" "lines" "I") (by decide +kernel)) (fun _ h9 => h9) rfl dX3_isWhole_4 ?_
    refine lv_icmp_ge (tgt := 56) hx hb dX3_isWhole_7 (by decide) (fun c_2 => ?_) (fun c_2 => ?_)
    · have t_2 : vn.toInt ≤ x1_1.toInt := Int32.le_iff_toInt_le.mp c_2
      refine lv_aload_n hx hb dX3_isWhole_56 rfl (lv_at hl 1 rfl) ?_
      refine va_get (ci := 3) (v := .int vp) (C := RX3) (T := TX3) (N := 7) hx hb hts (fun _ h => List.mem_cons_of_mem _ (List.mem_append_right _ h)) hown hK.1 hP 0 rfl rfl 0 (by decide) (hts (.fieldLink RX3 9 "CutAtlas$Net" "places" "I") (by decide +kernel)) (fun _ h9 => h9) rfl dX3_isWhole_57 ?_
      refine lv_iconst (v := 2) hx hb dX3_isWhole_60 (by decide) ?_
      refine lv_icmp_lt (tgt := 68) hx hb dX3_isWhole_61 (by decide) (fun c_3 => ?_) (fun c_3 => ?_)
      · have t_3 : vp.toInt < (2 : Int32).toInt := Int32.lt_iff_toInt_lt.mp c_3
        refine lv_iconst (v := 0) hx hb dX3_isWhole_68 (by decide) ?_
        rw [hQ]
        exact W.zret (ty := .boolean) (v := 0) hx hb hr (by decide) (fun t ht hW => ⟨⟨0, (), rfl, (by omega), trivial⟩, hS.F ht⟩) hS.2.2 dX3_isWhole_69
      · have t_3 : ¬ vp.toInt < (2 : Int32).toInt := fun h => c_3 (Int32.lt_iff_toInt_lt.mpr h)
        refine lv_iconst (v := 1) hx hb dX3_isWhole_64 (by decide) ?_
        refine lv_goto (tgt := 69) hx hb dX3_isWhole_65 (by decide) ?_
        rw [hQ]
        exact W.zret (ty := .boolean) (v := 1) hx hb hr (by decide) (fun t ht hW => ⟨⟨1, (), rfl, (by omega), trivial⟩, hS.F ht⟩) hS.2.2 dX3_isWhole_69
    · have t_2 : ¬ vn.toInt ≤ x1_1.toInt := fun h => c_2 (Int32.le_iff_toInt_le.mpr h)
      refine lv_aload_n hx hb dX3_isWhole_10 rfl (lv_at hl 1 rfl) ?_
      refine va_get (ci := 3) (v := .ref n1) (C := RX3) (T := TX3) (N := 7) hx hb hts (fun _ h => List.mem_cons_of_mem _ (List.mem_append_right _ h)) hown hK.1 hP 0 rfl rfl 2 (by decide) (hts (.fieldLink RX3 18 "CutAtlas$Net" "kinds" "[I") (by decide +kernel)) (fun _ h9 => h9) rfl dX3_isWhole_11 ?_
      refine lv_iload_n hx hb dX3_isWhole_14 rfl (lv_at hl 0 rfl) ?_
      have h_4 : vp_in x1_1 40 := in_I (by omega) (by omega)
      refine va_iald hx hb hK.1 hP 1 0 rfl rfl (i := x1_1) h_4 dX3_isWhole_15 ?_
      refine lv_topi (fun y_5 ey_5 => ?_)
      refine lv_iconst (v := 1) hx hb dX3_isWhole_16 (by decide) ?_
      refine lv_icmp_eq (tgt := 30) hx hb dX3_isWhole_17 (by decide) (fun c_6 => ?_) (fun c_6 => ?_)
      · have t_6 : y_5.toInt = (1 : Int32).toInt := congrArg Int32.toInt c_6
        refine lv_iconst (v := 1) hx hb dX3_isWhole_30 (by decide) ?_
        refine lv_goto (tgt := 35) hx hb dX3_isWhole_31 (by decide) ?_
        refine lv_istore_n (lv' := [(2, .int 1), (1, .int x1_1), (0, .ref xn)]) hx hb dX3_isWhole_35 rfl hl (by decide) rfl (fun ls hl => ?_)
        refine lv_iload_n hx hb dX3_isWhole_36 rfl (lv_at hl 0 rfl) ?_
        refine lv_if_eq (tgt := 50) hx hb dX3_isWhole_37 (by decide) (fun c_7 => ?_) (fun c_7 => ?_)
        · exact absurd c_7 (by decide)
        · have _ := c_7
          refine lv_aload_n hx hb dX3_isWhole_40 rfl (lv_at hl 2 rfl) ?_
          refine lv_iload_n hx hb dX3_isWhole_41 rfl (lv_at hl 1 rfl) ?_
          refine ct_R hP hD0 [(xn, .inr (3, [.int vp, .int vn, .ref n1, .ref n2, .ref n3, .ref n4, .ref n5])), (n2, .inl (cy 0, 40, .inl fs))] [0, 2] (by decide) rfl (fun hPc hDw => ?_)
          have hFc := va_free (wc := []) hD hS hA [] rfl
          refine va_calli (va_runV (As := [.int x1_1]) (rest := []) ⟨hx, hb, hml, hown, hts⟩ (c_X3_isMissing l D cy H.size xn n1 n2 n3 n4 n5 vp vn fs x1_1 (by first | with_reducible assumption | assumption | omega)) (cwV 1 hts gX3_isWhole_X3_isMissing rfl rfl rfl (by decide +kernel) ⟨Nat.le_of_ble_eq_true rfl, Nat.le_of_ble_eq_true rfl⟩) ⟨bl_, va_recvX hK.1 hP (ci := 3) (q0 := 0) rfl rfl, fun U hU hW => ⟨rfl, by rw [hU], by rw [hU]; exact hPc, kk_mv hW hK, hDw⟩⟩ rfl rfl hl.1 rfl (lv_room (Nat.le_of_ble_eq_true rfl)) dX3_isWhole_42 ⟨Nat.le_of_ble_eq_true rfl, Nat.le_of_ble_eq_true rfl⟩) hS (fun q _ h => hFc q h) hFc (fun r_8 u t H locs ht hvm hw hB hz1 hk1 hS => ?_)
          have hP : va_P D vwCl _ H := ro_keep hP hk1
          rcases hw with ⟨w_9, e_⟩ | ⟨w_9, e_⟩
          · have e_ := e_.symm
            subst e_
            refine lv_if_ne (tgt := 50) hx hb dX3_isWhole_45 (by decide) (fun c_10 => ?_) (fun c_10 => ?_)
            · have _ := c_10
              obtain ⟨y_11, ey_11⟩ : ∃ y : Int32, y = x1_1 + 1 := ⟨_, rfl⟩
              have ty_11 : y_11.toInt = x1_1.toInt + (1 : Int32).toInt := by rw [ey_11]; exact addI (by omega) (by omega)
              refine lv_iinc (v := y_11) (lv' := [(1, .int y_11), (2, .int 1), (0, .ref xn)]) hx hb dX3_isWhole_50 hl (k := 1) rfl (by rw [ey_11]; rfl) (by decide) rfl (fun ls hl => ?_)
              refine lv_goto (tgt := 2) hx hb dX3_isWhole_53 (by decide) ?_
              exact ih_1 y_11 _ _ _ (by omega) (by first | with_reducible assumption | assumption | omega) (by first | with_reducible assumption | assumption | omega) hP  hS (lv_sub hl [0, 2] rfl)
            · exact absurd c_10 (by decide)
          · have e_ := e_.symm
            subst e_
            refine lv_if_ne (tgt := 50) hx hb dX3_isWhole_45 (by decide) (fun c_12 => ?_) (fun c_12 => ?_)
            · exact absurd c_12 (by decide)
            · have _ := c_12
              refine lv_iconst (v := 0) hx hb dX3_isWhole_48 (by decide) ?_
              rw [hQ]
              exact W.zret (ty := .boolean) (v := 0) hx hb hr (by decide) (fun t ht hW => ⟨⟨0, (), rfl, (by omega), trivial⟩, hS.F ht⟩) hS.2.2 dX3_isWhole_49
      · have t_6 : ¬ y_5.toInt = (1 : Int32).toInt := fun h => c_6 (Int32.toInt_inj.mp h)
        refine lv_aload_n hx hb dX3_isWhole_20 rfl (lv_at hl 1 rfl) ?_
        refine va_get (ci := 3) (v := .ref n1) (C := RX3) (T := TX3) (N := 7) hx hb hts (fun _ h => List.mem_cons_of_mem _ (List.mem_append_right _ h)) hown hK.1 hP 0 rfl rfl 2 (by decide) (hts (.fieldLink RX3 18 "CutAtlas$Net" "kinds" "[I") (by decide +kernel)) (fun _ h9 => h9) rfl dX3_isWhole_21 ?_
        refine lv_iload_n hx hb dX3_isWhole_24 rfl (lv_at hl 0 rfl) ?_
        have h_13 : vp_in x1_1 40 := in_I (by omega) (by omega)
        refine va_iald hx hb hK.1 hP 1 0 rfl rfl (i := x1_1) h_13 dX3_isWhole_25 ?_
        refine lv_topi (fun y_14 ey_14 => ?_)
        have e_ := (ey_14.trans ey_5.symm).symm
        subst e_
        skip
        refine lv_iconst (v := 2) hx hb dX3_isWhole_26 (by decide) ?_
        refine lv_icmp_ne (tgt := 34) hx hb dX3_isWhole_27 (by decide) (fun c_15 => ?_) (fun c_15 => ?_)
        · have t_15 : ¬ y_5.toInt = (2 : Int32).toInt := fun h => c_15 (Int32.toInt_inj.mp h)
          refine lv_iconst (v := 0) hx hb dX3_isWhole_34 (by decide) ?_
          refine lv_istore_n (lv' := [(2, .int 0), (1, .int x1_1), (0, .ref xn)]) hx hb dX3_isWhole_35 rfl hl (by decide) rfl (fun ls hl => ?_)
          refine lv_iload_n hx hb dX3_isWhole_36 rfl (lv_at hl 0 rfl) ?_
          refine lv_if_eq (tgt := 50) hx hb dX3_isWhole_37 (by decide) (fun c_16 => ?_) (fun c_16 => ?_)
          · have _ := c_16
            obtain ⟨y_17, ey_17⟩ : ∃ y : Int32, y = x1_1 + 1 := ⟨_, rfl⟩
            have ty_17 : y_17.toInt = x1_1.toInt + (1 : Int32).toInt := by rw [ey_17]; exact addI (by omega) (by omega)
            refine lv_iinc (v := y_17) (lv' := [(1, .int y_17), (2, .int 0), (0, .ref xn)]) hx hb dX3_isWhole_50 hl (k := 1) rfl (by rw [ey_17]; rfl) (by decide) rfl (fun ls hl => ?_)
            refine lv_goto (tgt := 2) hx hb dX3_isWhole_53 (by decide) ?_
            exact ih_1 y_17 _ _ _ (by omega) (by first | with_reducible assumption | assumption | omega) (by first | with_reducible assumption | assumption | omega) hP  hS (lv_sub hl [0, 2] rfl)
          · exact absurd c_16 (by decide)
        · have t_15 : y_5.toInt = (2 : Int32).toInt := congrArg Int32.toInt c_15
          refine lv_iconst (v := 1) hx hb dX3_isWhole_30 (by decide) ?_
          refine lv_goto (tgt := 35) hx hb dX3_isWhole_31 (by decide) ?_
          refine lv_istore_n (lv' := [(2, .int 1), (1, .int x1_1), (0, .ref xn)]) hx hb dX3_isWhole_35 rfl hl (by decide) rfl (fun ls hl => ?_)
          refine lv_iload_n hx hb dX3_isWhole_36 rfl (lv_at hl 0 rfl) ?_
          refine lv_if_eq (tgt := 50) hx hb dX3_isWhole_37 (by decide) (fun c_18 => ?_) (fun c_18 => ?_)
          · exact absurd c_18 (by decide)
          · have _ := c_18
            refine lv_aload_n hx hb dX3_isWhole_40 rfl (lv_at hl 2 rfl) ?_
            refine lv_iload_n hx hb dX3_isWhole_41 rfl (lv_at hl 1 rfl) ?_
            refine ct_R hP hD0 [(xn, .inr (3, [.int vp, .int vn, .ref n1, .ref n2, .ref n3, .ref n4, .ref n5])), (n2, .inl (cy 0, 40, .inl fs))] [0, 2] (by decide) rfl (fun hPc hDw => ?_)
            have hFc := va_free (wc := []) hD hS hA [] rfl
            refine va_calli (va_runV (As := [.int x1_1]) (rest := []) ⟨hx, hb, hml, hown, hts⟩ (c_X3_isMissing l D cy H.size xn n1 n2 n3 n4 n5 vp vn fs x1_1 (by first | with_reducible assumption | assumption | omega)) (cwV 1 hts gX3_isWhole_X3_isMissing rfl rfl rfl (by decide +kernel) ⟨Nat.le_of_ble_eq_true rfl, Nat.le_of_ble_eq_true rfl⟩) ⟨bl_, va_recvX hK.1 hP (ci := 3) (q0 := 0) rfl rfl, fun U hU hW => ⟨rfl, by rw [hU], by rw [hU]; exact hPc, kk_mv hW hK, hDw⟩⟩ rfl rfl hl.1 rfl (lv_room (Nat.le_of_ble_eq_true rfl)) dX3_isWhole_42 ⟨Nat.le_of_ble_eq_true rfl, Nat.le_of_ble_eq_true rfl⟩) hS (fun q _ h => hFc q h) hFc (fun r_19 u t H locs ht hvm hw hB hz1 hk1 hS => ?_)
            have hP : va_P D vwCl _ H := ro_keep hP hk1
            rcases hw with ⟨w_20, e_⟩ | ⟨w_20, e_⟩
            · have e_ := e_.symm
              subst e_
              refine lv_if_ne (tgt := 50) hx hb dX3_isWhole_45 (by decide) (fun c_21 => ?_) (fun c_21 => ?_)
              · have _ := c_21
                obtain ⟨y_22, ey_22⟩ : ∃ y : Int32, y = x1_1 + 1 := ⟨_, rfl⟩
                have ty_22 : y_22.toInt = x1_1.toInt + (1 : Int32).toInt := by rw [ey_22]; exact addI (by omega) (by omega)
                refine lv_iinc (v := y_22) (lv' := [(1, .int y_22), (2, .int 1), (0, .ref xn)]) hx hb dX3_isWhole_50 hl (k := 1) rfl (by rw [ey_22]; rfl) (by decide) rfl (fun ls hl => ?_)
                refine lv_goto (tgt := 2) hx hb dX3_isWhole_53 (by decide) ?_
                exact ih_1 y_22 _ _ _ (by omega) (by first | with_reducible assumption | assumption | omega) (by first | with_reducible assumption | assumption | omega) hP  hS (lv_sub hl [0, 2] rfl)
              · exact absurd c_21 (by decide)
            · have e_ := e_.symm
              subst e_
              refine lv_if_ne (tgt := 50) hx hb dX3_isWhole_45 (by decide) (fun c_23 => ?_) (fun c_23 => ?_)
              · exact absurd c_23 (by decide)
              · have _ := c_23
                refine lv_iconst (v := 0) hx hb dX3_isWhole_48 (by decide) ?_
                rw [hQ]
                exact W.zret (ty := .boolean) (v := 0) hx hb hr (by decide) (fun t ht hW => ⟨⟨0, (), rfl, (by omega), trivial⟩, hS.F ht⟩) hS.2.2 dX3_isWhole_49
