section
/-- the ends of the lines: a line that is missing, or two places -/
noncomputable def prng (f g : Nat → Int32) (n : Nat) : Prop := ∀ j : Nat, j < n → (f j).toInt = -9 ∨ (0 ≤ (f j).toInt ∧ (f j).toInt ≤ 11 ∧ 0 ≤ (g j).toInt ∧ (g j).toInt ≤ 11)
theorem prng_st {f g f' g' : Nat → Int32} {n k : Nat} {x y : Int32} (e1 : f' = upd f k x) (e2 : g' = upd g k y) (h : prng f g n) (hx : x.toInt = -9 ∨ (0 ≤ x.toInt ∧ x.toInt ≤ 11 ∧ 0 ≤ y.toInt ∧ y.toInt ≤ 11)) : prng f' g' n := fun j hj => by
  rw [e1, e2]
  by_cases e : j = k
  · subst e
    rw [pk_us, pk_us]
    exact hx
  · rw [pk_un e, pk_un e]
    exact h j hj

set_option maxHeartbeats 4000000 in
set_option maxRecDepth 100000 in
theorem c_X3_hasPlace (l : Launch) (D : va_G) (cy : Nat → ClassId) (sz : Nat) (xn : Nat) (n1 : Nat) (n2 : Nat) (n3 : Nat) (n4 : Nat) (n5 : Nat) (vp : Int32) (vn : Int32) (a1 : Int64) : Met l yX3_hasPlace wsX3_hasPlace ({ frames := 0, cells := 0, slots := 0, locals := 0 }) (va_Pc [.ref xn, .long a1] (fun U => U.heap.size = sz ∧ va_P D vwCl [ob3_0_ xn vp vn n1 n2 n3 n4 n5] U.heap ∧ kk_ D cy U ∧ va_D (fun _ => True) [ob3_0_ xn vp vn n1 n2 n3 n4 n5])) (va_Qi (fun (r : Int32) (_ : Unit) => ((0 ≤ a1.toInt ∧ a1.toInt < vp.toInt) ∧ r = 1) ∨ ((¬ (0 ≤ a1.toInt ∧ a1.toInt < vp.toInt)) ∧ r = 0)) (fun (_ : Unit) (_ : State) => True) (va_A [] sz)) 0 0 (va_A [] sz) := by
  refine ofQ (cc := cX3_hasPlace) (maxL := 3) (ret := (some .boolean)) (by decide) rfl ?_
  intro p e s m args below meth c s₁ Q hQ B hml hv
  obtain ⟨rfl, hsz, hP, hK, hD0⟩ := hv
  have hx := B.exec
  have hb := B.bytes
  have hr := B.returns
  have hts := atoms_spec (ws := wsX3_hasPlace) B.pre
  have hown : s.vm.findClass RX3 = some m.cls := by have h_ := findClass_of_methodNamed B.named; exact h_
  have hlocks := B.notSynchronized
  subst hsz
  have hD : va_D (va_A [] s.heap.size) [] := dd_nil
  generalize hAe : va_A [] s.heap.size = A at hD hQ
  have hA : ∀ q : Nat, s.heap.size ≤ q → A q := fun q h => by rw [← hAe]; exact Or.inr h
  have hS : va_S A s.heap s.heap [] := va_S.rf
  have hl := lv_entry ([.ref xn, .long a1]) (n := 3) (Nat.le_of_ble_eq_true rfl)
  rw [lg_entry_eq]
  generalize (lg_sl ([.ref xn, .long a1]) ++ List.replicate (3 - (lg_sl ([.ref xn, .long a1])).length) Slot.unset).toArray = ls at hl ⊢
  have hl : lv_has ls 3 [(0, .ref xn), (1, .long a1)] := hl
  have z0 : (0 : Int32).toInt = 0 := by decide
  have zl0 : (0 : Int64).toInt = 0 := by decide
  have z1 : (1 : Int32).toInt = 1 := by decide
  refine lv_lload_n hx hb dB_36_1_4.1.2.2.1 rfl (lv_at hl 1 rfl) ?_
  refine lv_lconst (v := 0) hx hb dB_36_1_4.1.2.2.2 (by decide) ?_
  refine W.lcmp hx hb dB_36_1_4.2.1.1.1 ?_
  refine lv_if_lt (tgt := 20) hx hb dB_36_1_4.2.1.1.2 (by decide) (fun c_1 => ?_) (fun c_1 => ?_)
  · have t_1 : a1.toInt < (0 : Int64).toInt := Int64.lt_iff_toInt_lt.mp ((lg_cmp_lt a1 0).mp c_1)
    refine lv_iconst (v := 0) hx hb dB_36_1_5.1.1.2.1 (by decide) ?_
    rw [hQ]
    exact W.zret (ty := .boolean) (v := 0) hx hb hr (by decide) (fun t ht hW => ⟨⟨0, (), rfl, Or.inr (⟨by omega, rfl⟩), trivial⟩, hS.F ht⟩) hS.2.2 dB_36_1_5.1.1.2.2
  · have t_1 : ¬ a1.toInt < (0 : Int64).toInt := fun h => c_1 ((lg_cmp_lt a1 0).mpr (Int64.lt_iff_toInt_lt.mpr h))
    refine lv_lload_n hx hb dB_36_1_4.2.1.2.1 rfl (lv_at hl 1 rfl) ?_
    refine lv_aload_n hx hb dB_36_1_4.2.1.2.2 rfl (lv_at hl 0 rfl) ?_
    refine va_get (ci := 3) (v := .int vp) (C := RX3) (T := TX3) (N := 7) hx hb hts (fun _ h => List.mem_cons_of_mem _ (List.mem_append_right _ h)) hown hK.1 hP 0 rfl rfl 0 (by decide) (hts (.fieldLink RX3 9 "CutAtlas$Net" "places" "I") (List.mem_of_getElem? (i := 1) rfl)) (fun _ h9 => h9) rfl dB_36_1_4.2.2.1.1 ?_
    refine lv_i2l (v := vp.toInt64) hx hb dB_36_1_4.2.2.1.2 rfl ?_
    have q_11 : (vp.toInt64).toInt = vp.toInt := Int32.toInt_toInt64 vp
    refine W.lcmp hx hb dB_36_1_4.2.2.2.1 ?_
    refine lv_if_ge (tgt := 20) hx hb dB_36_1_4.2.2.2.2 (by decide) (fun c_2 => ?_) (fun c_2 => ?_)
    · have t_2 : vp.toInt64.toInt ≤ a1.toInt := Int64.le_iff_toInt_le.mp ((lg_cmp_ge a1 vp.toInt64).mp c_2)
      refine lv_iconst (v := 0) hx hb dB_36_1_5.1.1.2.1 (by decide) ?_
      rw [hQ]
      exact W.zret (ty := .boolean) (v := 0) hx hb hr (by decide) (fun t ht hW => ⟨⟨0, (), rfl, Or.inr (⟨by omega, rfl⟩), trivial⟩, hS.F ht⟩) hS.2.2 dB_36_1_5.1.1.2.2
    · have t_2 : ¬ vp.toInt64.toInt ≤ a1.toInt := fun h => c_2 ((lg_cmp_ge a1 vp.toInt64).mpr (Int64.le_iff_toInt_le.mpr h))
      refine lv_iconst (v := 1) hx hb dB_36_1_5.1.1.1.1 (by decide) ?_
      refine lv_goto (tgt := 21) hx hb dB_36_1_5.1.1.1.2 (by decide) ?_
      rw [hQ]
      exact W.zret (ty := .boolean) (v := 1) hx hb hr (by decide) (fun t ht hW => ⟨⟨1, (), rfl, Or.inl (⟨by omega, rfl⟩), trivial⟩, hS.F ht⟩) hS.2.2 dB_36_1_5.1.1.2.2

set_option maxHeartbeats 4000000 in
set_option maxRecDepth 100000 in
theorem c_X3_hasPair (l : Launch) (D : va_G) (cy : Nat → ClassId) (sz : Nat) (xn : Nat) (n1 : Nat) (n2 : Nat) (n3 : Nat) (n4 : Nat) (n5 : Nat) (vp : Int32) (vn : Int32) (a1 : Int64) (a2 : Int64) : Met l yX3_hasPair wsX3_hasPair ({ frames := 1, cells := 0, slots := 0, locals := 22 }) (va_Pc [.ref xn, .long a1, .long a2] (fun U => U.heap.size = sz ∧ va_P D vwCl [ob3_0_ xn vp vn n1 n2 n3 n4 n5] U.heap ∧ kk_ D cy U ∧ va_D (fun _ => True) [ob3_0_ xn vp vn n1 n2 n3 n4 n5])) (va_Qi (fun (r : Int32) (_ : Unit) => (((0 ≤ a1.toInt ∧ a1.toInt < vp.toInt) ∧ (0 ≤ a2.toInt ∧ a2.toInt < vp.toInt) ∧ a1.toInt ≠ a2.toInt) ∧ r = 1) ∨ ((¬ ((0 ≤ a1.toInt ∧ a1.toInt < vp.toInt) ∧ (0 ≤ a2.toInt ∧ a2.toInt < vp.toInt) ∧ a1.toInt ≠ a2.toInt)) ∧ r = 0)) (fun (_ : Unit) (_ : State) => True) (va_A [] sz)) 0 0 (va_A [] sz) := by
  refine ofQ (cc := cX3_hasPair) (maxL := 5) (ret := (some .boolean)) (by decide) rfl ?_
  intro p e s m args below meth c s₁ Q hQ B hml hv
  obtain ⟨rfl, hsz, hP, hK, hD0⟩ := hv
  have hx := B.exec
  have hb := B.bytes
  have hr := B.returns
  have hts := atoms_spec (ws := wsX3_hasPair) B.pre
  have hown : s.vm.findClass RX3 = some m.cls := by have h_ := findClass_of_methodNamed B.named; exact h_
  have hlocks := B.notSynchronized
  subst hsz
  have hD : va_D (va_A [] s.heap.size) [] := dd_nil
  generalize hAe : va_A [] s.heap.size = A at hD hQ
  have hA : ∀ q : Nat, s.heap.size ≤ q → A q := fun q h => by rw [← hAe]; exact Or.inr h
  have hS : va_S A s.heap s.heap [] := va_S.rf
  have hl := lv_entry ([.ref xn, .long a1, .long a2]) (n := 5) (Nat.le_of_ble_eq_true rfl)
  rw [lg_entry_eq]
  generalize (lg_sl ([.ref xn, .long a1, .long a2]) ++ List.replicate (5 - (lg_sl ([.ref xn, .long a1, .long a2])).length) Slot.unset).toArray = ls at hl ⊢
  have hl : lv_has ls 5 [(0, .ref xn), (1, .long a1), (3, .long a2)] := hl
  have z0 : (0 : Int32).toInt = 0 := by decide
  have z1 : (1 : Int32).toInt = 1 := by decide
  refine lv_aload_n hx hb dB_36_1_5.1.2.1.1 rfl (lv_at hl 0 rfl) ?_
  refine lv_lload_n hx hb dB_36_1_5.1.2.1.2 rfl (lv_at hl 1 rfl) ?_
  refine ct_R hP hD0 [ob3_0_ xn vp vn n1 n2 n3 n4 n5] [0] (by decide) rfl (fun hPc hDw => ?_)
  have hFc := va_free (wc := []) hD hS hA [] rfl
  refine va_calli (va_runV (As := [.long a1]) (rest := []) ⟨hx, hb, hml, hown, hts⟩ (c_X3_hasPlace l D cy s.heap.size xn n1 n2 n3 n4 n5 vp vn a1) (cwV 1 hts gX3_hasPair_X3_hasPlace rfl rfl rfl ⟨rfl, hd_X3_hasPlace⟩ ⟨Nat.le_of_ble_eq_true rfl, Nat.le_of_ble_eq_true rfl⟩) ⟨bl_, va_recvX hK.1 hP (ci := 3) (q0 := 0) rfl rfl, fun U hU hW => ⟨rfl, by rw [hU], by rw [hU]; exact hPc, kk_mv hW hK, hDw⟩⟩ rfl rfl hl.1 rfl (lv_room (Nat.le_of_ble_eq_true rfl)) dB_36_1_5.1.2.2.1 ⟨Nat.le_of_ble_eq_true rfl, Nat.le_of_ble_eq_true rfl⟩) hS (fun q _ h => hFc q h) hFc (fun r_1 u t H locs ht hvm hw hB hz1 hk1 hS => ?_)
  have hP : va_P D vwCl _ H := ro_keep hP hk1
  rcases hw with ⟨w_2, e_⟩ | ⟨w_2, e_⟩
  · have e_ := e_.symm
    subst e_
    refine lv_if_eq (tgt := 26) hx hb dB_36_1_5.1.2.2.2 (by decide) (fun c_3 => ?_) (fun c_3 => ?_)
    · exact absurd c_3 (by decide)
    · have _ := c_3
      refine lv_aload_n hx hb dB_36_1_5.2.1.1.1 rfl (lv_at hl 0 rfl) ?_
      refine lv_lload_n hx hb dB_36_1_5.2.1.1.2 rfl (lv_at hl 2 rfl) ?_
      refine ct_R hP hD0 [ob3_0_ xn vp vn n1 n2 n3 n4 n5] [0] (by decide) rfl (fun hPc hDw => ?_)
      have hFc := va_free (wc := []) hD hS hA [] rfl
      refine va_calli (va_runV (As := [.long a2]) (rest := []) ⟨hx, hb, hml, hown, hts⟩ (c_X3_hasPlace l D cy H.size xn n1 n2 n3 n4 n5 vp vn a2) (cwV 1 hts gX3_hasPair_X3_hasPlace rfl rfl rfl ⟨rfl, hd_X3_hasPlace⟩ ⟨Nat.le_of_ble_eq_true rfl, Nat.le_of_ble_eq_true rfl⟩) ⟨bl_, va_recvX hK.1 hP (ci := 3) (q0 := 0) rfl rfl, fun U hU hW => ⟨rfl, by rw [hU], by rw [hU]; exact hPc, kk_mv hW hK, hDw⟩⟩ rfl rfl hl.1 rfl (lv_room (Nat.le_of_ble_eq_true rfl)) dB_36_1_5.2.1.2.1 ⟨Nat.le_of_ble_eq_true rfl, Nat.le_of_ble_eq_true rfl⟩) hS (fun q _ h => hFc q h) hFc (fun r_4 u t H locs ht hvm hw hB hz1 hk1 hS => ?_)
      have hP : va_P D vwCl _ H := ro_keep hP hk1
      rcases hw with ⟨w_5, e_⟩ | ⟨w_5, e_⟩
      · have e_ := e_.symm
        subst e_
        refine lv_if_eq (tgt := 26) hx hb dB_36_1_5.2.1.2.2 (by decide) (fun c_6 => ?_) (fun c_6 => ?_)
        · exact absurd c_6 (by decide)
        · have _ := c_6
          refine lv_lload_n hx hb dB_36_1_5.2.2.1.1 rfl (lv_at hl 1 rfl) ?_
          refine lv_lload_n hx hb dB_36_1_5.2.2.1.2 rfl (lv_at hl 2 rfl) ?_
          refine W.lcmp hx hb dB_36_1_5.2.2.2.1 ?_
          refine lv_if_eq (tgt := 26) hx hb dB_36_1_5.2.2.2.2 (by decide) (fun c_7 => ?_) (fun c_7 => ?_)
          · have t_7 : a1.toInt = a2.toInt := congrArg Int64.toInt ((lg_cmp_eq a1 a2).mp c_7)
            refine lv_iconst (v := 0) hx hb dB_36_1_6.1.1.2.1 (by decide) ?_
            rw [hQ]
            exact W.zret (ty := .boolean) (v := 0) hx hb hr (by decide) (fun t ht hW => ⟨⟨0, (), rfl, Or.inr (⟨by omega, rfl⟩), trivial⟩, hS.F ht⟩) hS.2.2 dB_36_1_6.1.1.2.2
          · have t_7 : ¬ a1.toInt = a2.toInt := fun h => c_7 ((lg_cmp_eq a1 a2).mpr (Int64.toInt_inj.mp h))
            refine lv_iconst (v := 1) hx hb dB_36_1_6.1.1.1.1 (by decide) ?_
            refine lv_goto (tgt := 27) hx hb dB_36_1_6.1.1.1.2 (by decide) ?_
            rw [hQ]
            exact W.zret (ty := .boolean) (v := 1) hx hb hr (by decide) (fun t ht hW => ⟨⟨1, (), rfl, Or.inl (⟨by omega, rfl⟩), trivial⟩, hS.F ht⟩) hS.2.2 dB_36_1_6.1.1.2.2
      · have e_ := e_.symm
        subst e_
        refine lv_if_eq (tgt := 26) hx hb dB_36_1_5.2.1.2.2 (by decide) (fun c_8 => ?_) (fun c_8 => ?_)
        · have _ := c_8
          refine lv_iconst (v := 0) hx hb dB_36_1_6.1.1.2.1 (by decide) ?_
          rw [hQ]
          exact W.zret (ty := .boolean) (v := 0) hx hb hr (by decide) (fun t ht hW => ⟨⟨0, (), rfl, Or.inr (⟨by omega, rfl⟩), trivial⟩, hS.F ht⟩) hS.2.2 dB_36_1_6.1.1.2.2
        · exact absurd c_8 (by decide)
  · have e_ := e_.symm
    subst e_
    refine lv_if_eq (tgt := 26) hx hb dB_36_1_5.1.2.2.2 (by decide) (fun c_9 => ?_) (fun c_9 => ?_)
    · have _ := c_9
      refine lv_iconst (v := 0) hx hb dB_36_1_6.1.1.2.1 (by decide) ?_
      rw [hQ]
      exact W.zret (ty := .boolean) (v := 0) hx hb hr (by decide) (fun t ht hW => ⟨⟨0, (), rfl, Or.inr (⟨by omega, rfl⟩), trivial⟩, hS.F ht⟩) hS.2.2 dB_36_1_6.1.1.2.2
    · exact absurd c_9 (by decide)

set_option maxHeartbeats 4000000 in
set_option maxRecDepth 100000 in
theorem c_X3_hasLine (l : Launch) (D : va_G) (cy : Nat → ClassId) (sz : Nat) (xn : Nat) (n1 : Nat) (n2 : Nat) (n3 : Nat) (n4 : Nat) (n5 : Nat) (vp : Int32) (vn : Int32) (a1 : Int32) : Met l yX3_hasLine wsX3_hasLine ({ frames := 0, cells := 0, slots := 0, locals := 0 }) (va_Pc [.ref xn, .int a1] (fun U => U.heap.size = sz ∧ va_P D vwCl [ob3_0_ xn vp vn n1 n2 n3 n4 n5] U.heap ∧ kk_ D cy U ∧ va_D (fun _ => True) [ob3_0_ xn vp vn n1 n2 n3 n4 n5])) (va_Qi (fun (r : Int32) (_ : Unit) => ((0 ≤ a1.toInt ∧ a1.toInt < vn.toInt) ∧ r = 1) ∨ ((¬ (0 ≤ a1.toInt ∧ a1.toInt < vn.toInt)) ∧ r = 0)) (fun (_ : Unit) (_ : State) => True) (va_A [] sz)) 0 0 (va_A [] sz) := by
  refine ofQ (cc := cX3_hasLine) (maxL := 2) (ret := (some .boolean)) (by decide) rfl ?_
  intro p e s m args below meth c s₁ Q hQ B hml hv
  obtain ⟨rfl, hsz, hP, hK, hD0⟩ := hv
  have hx := B.exec
  have hb := B.bytes
  have hr := B.returns
  have hts := atoms_spec (ws := wsX3_hasLine) B.pre
  have hown : s.vm.findClass RX3 = some m.cls := by have h_ := findClass_of_methodNamed B.named; exact h_
  have hlocks := B.notSynchronized
  subst hsz
  have hD : va_D (va_A [] s.heap.size) [] := dd_nil
  generalize hAe : va_A [] s.heap.size = A at hD hQ
  have hA : ∀ q : Nat, s.heap.size ≤ q → A q := fun q h => by rw [← hAe]; exact Or.inr h
  have hS : va_S A s.heap s.heap [] := va_S.rf
  have hl := lv_entry ([.ref xn, .int a1]) (n := 2) (Nat.le_of_ble_eq_true rfl)
  rw [lg_entry_eq]
  generalize (lg_sl ([.ref xn, .int a1]) ++ List.replicate (2 - (lg_sl ([.ref xn, .int a1])).length) Slot.unset).toArray = ls at hl ⊢
  have hl : lv_has ls 2 [(0, .ref xn), (1, .int a1)] := hl
  have z0 : (0 : Int32).toInt = 0 := by decide
  have z1 : (1 : Int32).toInt = 1 := by decide
  refine lv_iload_n hx hb dB_36_1_6.1.2.1.1 rfl (lv_at hl 1 rfl) ?_
  refine lv_if_lt (tgt := 16) hx hb dB_36_1_6.1.2.1.2 (by decide) (fun c_1 => ?_) (fun c_1 => ?_)
  · have t_1 : a1.toInt < (0 : Int32).toInt := Int32.lt_iff_toInt_lt.mp c_1
    refine lv_iconst (v := 0) hx hb dB_36_1_6.2.2.1.1 (by decide) ?_
    rw [hQ]
    exact W.zret (ty := .boolean) (v := 0) hx hb hr (by decide) (fun t ht hW => ⟨⟨0, (), rfl, Or.inr (⟨by omega, rfl⟩), trivial⟩, hS.F ht⟩) hS.2.2 dB_36_1_6.2.2.1.2
  · have t_1 : ¬ a1.toInt < (0 : Int32).toInt := fun h => c_1 (Int32.lt_iff_toInt_lt.mpr h)
    refine lv_iload_n hx hb dB_36_1_6.1.2.2.1 rfl (lv_at hl 1 rfl) ?_
    refine lv_aload_n hx hb dB_36_1_6.1.2.2.2 rfl (lv_at hl 0 rfl) ?_
    refine va_get (ci := 3) (v := .int vn) (C := RX3) (T := TX3) (N := 7) hx hb hts (fun _ h => List.mem_cons_of_mem _ (List.mem_append_right _ h)) hown hK.1 hP 0 rfl rfl 1 (by decide) (hts (.fieldLink RX3 15 "CutAtlas$Net" "lines" "I") (List.mem_of_getElem? (i := 1) rfl)) (fun _ h9 => h9) rfl dB_36_1_6.2.1.1.1 ?_
    refine lv_icmp_ge (tgt := 16) hx hb dB_36_1_6.2.1.1.2 (by decide) (fun c_2 => ?_) (fun c_2 => ?_)
    · have t_2 : vn.toInt ≤ a1.toInt := Int32.le_iff_toInt_le.mp c_2
      refine lv_iconst (v := 0) hx hb dB_36_1_6.2.2.1.1 (by decide) ?_
      rw [hQ]
      exact W.zret (ty := .boolean) (v := 0) hx hb hr (by decide) (fun t ht hW => ⟨⟨0, (), rfl, Or.inr (⟨by omega, rfl⟩), trivial⟩, hS.F ht⟩) hS.2.2 dB_36_1_6.2.2.1.2
    · have t_2 : ¬ vn.toInt ≤ a1.toInt := fun h => c_2 (Int32.le_iff_toInt_le.mpr h)
      refine lv_iconst (v := 1) hx hb dB_36_1_6.2.1.2.1 (by decide) ?_
      refine lv_goto (tgt := 17) hx hb dB_36_1_6.2.1.2.2 (by decide) ?_
      rw [hQ]
      exact W.zret (ty := .boolean) (v := 1) hx hb hr (by decide) (fun t ht hW => ⟨⟨1, (), rfl, Or.inl (⟨by omega, rfl⟩), trivial⟩, hS.F ht⟩) hS.2.2 dB_36_1_6.2.2.1.2

set_option maxHeartbeats 4000000 in
set_option maxRecDepth 100000 in
theorem c_X3_isMissing (l : Launch) (D : va_G) (cy : Nat → ClassId) (sz : Nat) (xn : Nat) (n1 : Nat) (n2 : Nat) (n3 : Nat) (n4 : Nat) (n5 : Nat) (vp : Int32) (vn : Int32) (fs : Nat → Int32) (a1 : Int32) (q1 : 0 ≤ a1.toInt ∧ a1.toInt < 40) : Met l yX3_isMissing wsX3_isMissing ({ frames := 0, cells := 0, slots := 0, locals := 0 }) (va_Pc [.ref xn, .int a1] (fun U => U.heap.size = sz ∧ va_P D vwCl [ob3_0_ xn vp vn n1 n2 n3 n4 n5, ai_ cy n2 40 fs] U.heap ∧ kk_ D cy U ∧ va_D (fun _ => True) [ob3_0_ xn vp vn n1 n2 n3 n4 n5, ai_ cy n2 40 fs])) (va_Qi (fun (r : Int32) (_ : Unit) => (((fs a1.toNatClampNeg).toInt = -9) ∧ r = 1) ∨ ((¬ ((fs a1.toNatClampNeg).toInt = -9)) ∧ r = 0)) (fun (_ : Unit) (_ : State) => True) (va_A [] sz)) 0 0 (va_A [] sz) := by
  refine ofQ (cc := cX3_isMissing) (maxL := 2) (ret := (some .boolean)) (by decide) rfl ?_
  intro p e s m args below meth c s₁ Q hQ B hml hv
  obtain ⟨rfl, hsz, hP, hK, hD0⟩ := hv
  have hx := B.exec
  have hb := B.bytes
  have hr := B.returns
  have hts := atoms_spec (ws := wsX3_isMissing) B.pre
  have hown : s.vm.findClass RX3 = some m.cls := by have h_ := findClass_of_methodNamed B.named; exact h_
  have hlocks := B.notSynchronized
  subst hsz
  have hD : va_D (va_A [] s.heap.size) [] := dd_nil
  generalize hAe : va_A [] s.heap.size = A at hD hQ
  have hA : ∀ q : Nat, s.heap.size ≤ q → A q := fun q h => by rw [← hAe]; exact Or.inr h
  have hS : va_S A s.heap s.heap [] := va_S.rf
  have hl := lv_entry ([.ref xn, .int a1]) (n := 2) (Nat.le_of_ble_eq_true rfl)
  rw [lg_entry_eq]
  generalize (lg_sl ([.ref xn, .int a1]) ++ List.replicate (2 - (lg_sl ([.ref xn, .int a1])).length) Slot.unset).toArray = ls at hl ⊢
  have hl : lv_has ls 2 [(0, .ref xn), (1, .int a1)] := hl
  have zm9 : ((-9) : Int32).toInt = -9 := by decide
  have z0 : (0 : Int32).toInt = 0 := by decide
  have z1 : (1 : Int32).toInt = 1 := by decide
  refine lv_aload_n hx hb dB_36_1_6.2.2.2.1 rfl (lv_at hl 0 rfl) ?_
  refine va_get (ci := 3) (v := .ref n2) (C := RX3) (T := TX3) (N := 7) hx hb hts (fun _ h => List.mem_cons_of_mem _ (List.mem_append_right _ h)) hown hK.1 hP 0 rfl rfl 3 (by decide) (hts (.fieldLink RX3 22 "CutAtlas$Net" "starts" "[I") (List.mem_of_getElem? (i := 1) rfl)) (fun _ h9 => h9) rfl dB_36_1_6.2.2.2.2 ?_
  refine lv_iload_n hx hb dB_36_1_7.1.1.1.1 rfl (lv_at hl 1 rfl) ?_
  have h_1 : vp_in a1 40 := in_I (by omega) (by omega)
  refine va_iald hx hb hK.1 hP 1 0 rfl rfl (i := a1) h_1 dB_36_1_7.1.1.1.2 ?_
  refine lv_topi (fun y_2 ey_2 => ?_)
  refine lv_bipush (v := (-9)) hx hb dB_36_1_7.1.1.2.1 (by decide) ?_
  refine lv_icmp_ne (tgt := 15) hx hb dB_36_1_7.1.1.2.2 (by decide) (fun c_3 => ?_) (fun c_3 => ?_)
  · have t_3 : ¬ y_2.toInt = ((-9) : Int32).toInt := fun h => c_3 (Int32.toInt_inj.mp h)
    refine lv_iconst (v := 0) hx hb dB_36_1_7.1.2.2.1 (by decide) ?_
    rw [hQ]
    exact W.zret (ty := .boolean) (v := 0) hx hb hr (by decide) (fun t ht hW => ⟨⟨0, (), rfl, Or.inr (⟨by rw [← ey_2]; omega, rfl⟩), trivial⟩, hS.F ht⟩) hS.2.2 dB_36_1_7.1.2.2.2
  · have t_3 : y_2.toInt = ((-9) : Int32).toInt := congrArg Int32.toInt c_3
    refine lv_iconst (v := 1) hx hb dB_36_1_7.1.2.1.1 (by decide) ?_
    refine lv_goto (tgt := 16) hx hb dB_36_1_7.1.2.1.2 (by decide) ?_
    rw [hQ]
    exact W.zret (ty := .boolean) (v := 1) hx hb hr (by decide) (fun t ht hW => ⟨⟨1, (), rfl, Or.inl (⟨by rw [← ey_2]; omega, rfl⟩), trivial⟩, hS.F ht⟩) hS.2.2 dB_36_1_7.1.2.2.2

set_option maxHeartbeats 4000000 in
set_option maxRecDepth 100000 in
theorem c_X3_missingLines (l : Launch) (D : va_G) (cy : Nat → ClassId) (sz : Nat) (xn : Nat) (n1 : Nat) (n2 : Nat) (n3 : Nat) (n4 : Nat) (n5 : Nat) (vp : Int32) (vn : Int32) (fs : Nat → Int32) (hvn : 0 ≤ vn.toInt ∧ vn.toInt ≤ 40) : Met l yX3_missingLines wsX3_missingLines ({ frames := 1, cells := 0, slots := 0, locals := 21 }) (va_Pc [.ref xn] (fun U => U.heap.size = sz ∧ va_P D vwCl [ob3_0_ xn vp vn n1 n2 n3 n4 n5, ai_ cy n2 40 fs] U.heap ∧ kk_ D cy U ∧ va_D (fun _ => True) [ob3_0_ xn vp vn n1 n2 n3 n4 n5, ai_ cy n2 40 fs])) (va_Qi (fun (r : Int32) (_ : Unit) => True) (fun (_ : Unit) (_ : State) => True) (va_A [] sz)) 0 0 (va_A [] sz) := by
  refine ofQ (cc := cX3_missingLines) (maxL := 3) (ret := (some .int)) (by decide) rfl ?_
  intro p e s m args below meth c s₁ Q hQ B hml hv
  obtain ⟨rfl, hsz, hP, hK, hD0⟩ := hv
  have hx := B.exec
  have hb := B.bytes
  have hr := B.returns
  have hts := atoms_spec (ws := wsX3_missingLines) B.pre
  have hown : s.vm.findClass RX3 = some m.cls := by have h_ := findClass_of_methodNamed B.named; exact h_
  have hlocks := B.notSynchronized
  subst hsz
  have hD : va_D (va_A [] s.heap.size) [] := dd_nil
  generalize hAe : va_A [] s.heap.size = A at hD hQ
  have hA : ∀ q : Nat, s.heap.size ≤ q → A q := fun q h => by rw [← hAe]; exact Or.inr h
  have hS : va_S A s.heap s.heap [] := va_S.rf
  have hl := lv_entry ([.ref xn]) (n := 3) (Nat.le_of_ble_eq_true rfl)
  rw [lg_entry_eq]
  generalize (lg_sl ([.ref xn]) ++ List.replicate (3 - (lg_sl ([.ref xn])).length) Slot.unset).toArray = ls at hl ⊢
  have hl : lv_has ls 3 [(0, .ref xn)] := hl
  have z0 : (0 : Int32).toInt = 0 := by decide
  have z1 : (1 : Int32).toInt = 1 := by decide
  refine lv_iconst (v := 0) hx hb dB_36_1_7.2.1.1.1 (by decide) ?_
  refine lv_istore_n (lv' := [(1, .int 0), (0, .ref xn)]) hx hb dB_36_1_7.2.1.1.2 rfl hl (by decide) rfl (fun ls hl => ?_)
  refine lv_iconst (v := 0) hx hb dB_36_1_7.2.1.2.1 (by decide) ?_
  refine lv_istore_n (lv' := [(2, .int 0), (1, .int 0), (0, .ref xn)]) hx hb dB_36_1_7.2.1.2.2 rfl hl (by decide) rfl (fun ls hl => ?_)
  suffices LOOP_1 : ∀ (n_1 : Nat) (x2_1 : Int32) (x1_1 : Int32) (H : Heap) (locs : List Loc) (ls : Array Slot), vn.toInt - x2_1.toInt < (n_1 : Int) → (0 ≤ x2_1.toInt) → (x2_1.toInt ≤ vn.toInt) → va_P D vwCl [ob3_0_ xn vp vn n1 n2 n3 n4 n5, ai_ cy n2 40 fs] H → va_S A s.heap H locs → lv_has ls 3 [(2, .int x2_1), (1, .int x1_1), (0, .ref xn)] → W p l e ({ frames := 1, cells := 0, slots := 0, locals := 21 } : Room) s m (([.ref xn] : List Value).toArray) below meth c H locs 0 0 Q (F0 m 4 ls []) from LOOP_1 ((vn.toInt - (0 : Int32).toInt).toNat + 1) (0 : Int32) (0 : Int32) _ _ _ (by omega) (by first | with_reducible assumption | omega | assumption) (by first | with_reducible assumption | omega | assumption) hP hS (lv_sub hl [0, 1, 2] rfl)
  intro n_1
  induction n_1 with
  | zero =>
    intro x2_1 x1_1 H locs ls hm v0_1 v1_1 hP hS hl
    exact absurd hm (by omega)
  | succ n_1 ih_1 =>
    intro x2_1 x1_1 H locs ls hm v0_1 v1_1 hP hS hl
    refine lv_iload_n hx hb dB_36_1_7.2.2.1.1 rfl (lv_at hl 0 rfl) ?_
    refine lv_aload_n hx hb dB_36_1_7.2.2.1.2 rfl (lv_at hl 2 rfl) ?_
    refine va_get (ci := 3) (v := .int vn) (C := RX3) (T := TX3) (N := 7) hx hb hts (fun _ h => List.mem_cons_of_mem _ (List.mem_append_right _ h)) hown hK.1 hP 0 rfl rfl 1 (by decide) (hts (.fieldLink RX3 15 "CutAtlas$Net" "lines" "I") (List.mem_of_getElem? (i := 1) rfl)) (fun _ h9 => h9) rfl dB_36_1_7.2.2.2.1 ?_
    refine lv_icmp_ge (tgt := 34) hx hb dB_36_1_7.2.2.2.2 (by decide) (fun c_2 => ?_) (fun c_2 => ?_)
    · have t_2 : vn.toInt ≤ x2_1.toInt := Int32.le_iff_toInt_le.mp c_2
      refine lv_iload_n hx hb dB_36_1_8.2.2.1.1 rfl (lv_at hl 1 rfl) ?_
      rw [hQ]
      exact W.iret (v := x1_1) hx hb hr (fun t ht hW => ⟨⟨x1_1, (), rfl, trivial, trivial⟩, hS.F ht⟩) hS.2.2 dB_36_1_8.2.2.1.2
    · have t_2 : ¬ vn.toInt ≤ x2_1.toInt := fun h => c_2 (Int32.le_iff_toInt_le.mpr h)
      refine lv_iload_n hx hb dB_36_1_8.1.1.1.1 rfl (lv_at hl 1 rfl) ?_
      refine lv_aload_n hx hb dB_36_1_8.1.1.1.2 rfl (lv_at hl 2 rfl) ?_
      refine lv_iload_n hx hb dB_36_1_8.1.1.2.1 rfl (lv_at hl 0 rfl) ?_
      refine ct_R hP hD0 [ob3_0_ xn vp vn n1 n2 n3 n4 n5, ai_ cy n2 40 fs] [0, 1] (by decide) rfl (fun hPc hDw => ?_)
      have hFc := va_free (wc := []) hD hS hA [] rfl
      refine va_calli (va_runV (As := [.int x2_1]) (rest := [.int x1_1]) ⟨hx, hb, hml, hown, hts⟩ (c_X3_isMissing l D cy H.size xn n1 n2 n3 n4 n5 vp vn fs x2_1 (by first | with_reducible assumption | omega | assumption)) (cwV 1 hts gX3_missingLines_X3_isMissing rfl rfl rfl ⟨rfl, hd_X3_isMissing⟩ ⟨Nat.le_of_ble_eq_true rfl, Nat.le_of_ble_eq_true rfl⟩) ⟨bl_, va_recvX hK.1 hP (ci := 3) (q0 := 0) rfl rfl, fun U hU hW => ⟨rfl, by rw [hU], by rw [hU]; exact hPc, kk_mv hW hK, hDw⟩⟩ rfl rfl hl.1 rfl (lv_room (Nat.le_of_ble_eq_true rfl)) dB_36_1_8.1.1.2.2 ⟨Nat.le_of_ble_eq_true rfl, Nat.le_of_ble_eq_true rfl⟩) hS (fun q _ h => hFc q h) hFc (fun r_3 u t H locs ht hvm hw hB hz1 hk1 hS => ?_)
      have hP : va_P D vwCl _ H := ro_keep hP hk1
      rcases hw with ⟨w_4, e_⟩ | ⟨w_4, e_⟩
      · have e_ := e_.symm
        subst e_
        refine lv_if_eq (tgt := 25) hx hb dB_36_1_8.1.2.1.1 (by decide) (fun c_5 => ?_) (fun c_5 => ?_)
        · exact absurd c_5 (by decide)
        · have _ := c_5
          refine lv_iconst (v := 1) hx hb dB_36_1_8.1.2.1.2 (by decide) ?_
          refine lv_goto (tgt := 26) hx hb dB_36_1_8.1.2.2.1 (by decide) ?_
          refine lv_iadd hx hb dB_36_1_8.2.1.1.1 ?_
          refine lv_topi (fun y_6 ey_6 => ?_)
          refine lv_istore_n (lv' := [(1, .int y_6), (2, .int x2_1), (0, .ref xn)]) hx hb dB_36_1_8.2.1.1.2 rfl hl (by decide) rfl (fun ls hl => ?_)
          obtain ⟨y_7, ey_7⟩ : ∃ y : Int32, y = x2_1 + 1 := ⟨_, rfl⟩
          have ty_7 : y_7.toInt = x2_1.toInt + (1 : Int32).toInt := by rw [ey_7]; exact addI (by omega) (by omega)
          refine lv_iinc (v := y_7) (lv' := [(2, .int y_7), (1, .int y_6), (0, .ref xn)]) hx hb dB_36_1_8.2.1.2.1 hl (k := 1) rfl (by rw [ey_7]; rfl) (by decide) rfl (fun ls hl => ?_)
          refine lv_goto (tgt := 4) hx hb dB_36_1_8.2.1.2.2 (by decide) ?_
          exact ih_1 y_7 y_6 _ _ _ (by omega) (by first | with_reducible assumption | omega | assumption) (by first | with_reducible assumption | omega | assumption) hP hS (lv_sub hl [0, 1, 2] rfl)
      · have e_ := e_.symm
        subst e_
        refine lv_if_eq (tgt := 25) hx hb dB_36_1_8.1.2.1.1 (by decide) (fun c_8 => ?_) (fun c_8 => ?_)
        · have _ := c_8
          refine lv_iconst (v := 0) hx hb dB_36_1_8.1.2.2.2 (by decide) ?_
          refine lv_iadd hx hb dB_36_1_8.2.1.1.1 ?_
          refine lv_topi (fun y_9 ey_9 => ?_)
          refine lv_istore_n (lv' := [(1, .int y_9), (2, .int x2_1), (0, .ref xn)]) hx hb dB_36_1_8.2.1.1.2 rfl hl (by decide) rfl (fun ls hl => ?_)
          obtain ⟨y_10, ey_10⟩ : ∃ y : Int32, y = x2_1 + 1 := ⟨_, rfl⟩
          have ty_10 : y_10.toInt = x2_1.toInt + (1 : Int32).toInt := by rw [ey_10]; exact addI (by omega) (by omega)
          refine lv_iinc (v := y_10) (lv' := [(2, .int y_10), (1, .int y_9), (0, .ref xn)]) hx hb dB_36_1_8.2.1.2.1 hl (k := 1) rfl (by rw [ey_10]; rfl) (by decide) rfl (fun ls hl => ?_)
          refine lv_goto (tgt := 4) hx hb dB_36_1_8.2.1.2.2 (by decide) ?_
          exact ih_1 y_10 y_9 _ _ _ (by omega) (by first | with_reducible assumption | omega | assumption) (by first | with_reducible assumption | omega | assumption) hP hS (lv_sub hl [0, 1, 2] rfl)
        · exact absurd c_8 (by decide)

set_option maxHeartbeats 4000000 in
set_option maxRecDepth 100000 in
theorem c_X3_isWhole (l : Launch) (D : va_G) (cy : Nat → ClassId) (sz : Nat) (xn : Nat) (n1 : Nat) (n2 : Nat) (n3 : Nat) (n4 : Nat) (n5 : Nat) (vp : Int32) (vn : Int32) (fk : Nat → Int32) (fs : Nat → Int32) (hvn : 0 ≤ vn.toInt ∧ vn.toInt ≤ 40) : Met l yX3_isWhole wsX3_isWhole ({ frames := 1, cells := 0, slots := 0, locals := 21 }) (va_Pc [.ref xn] (fun U => U.heap.size = sz ∧ va_P D vwCl [ob3_0_ xn vp vn n1 n2 n3 n4 n5, ai_ cy n1 40 fk, ai_ cy n2 40 fs] U.heap ∧ kk_ D cy U ∧ va_D (fun _ => True) [ob3_0_ xn vp vn n1 n2 n3 n4 n5, ai_ cy n1 40 fk, ai_ cy n2 40 fs])) (va_Qi (fun (r : Int32) (_ : Unit) => (r.toInt = 0 ∨ r.toInt = 1)) (fun (_ : Unit) (_ : State) => True) (va_A [] sz)) 0 0 (va_A [] sz) := by
  refine ofQ (cc := cX3_isWhole) (maxL := 3) (ret := (some .boolean)) (by decide) rfl ?_
  intro p e s m args below meth c s₁ Q hQ B hml hv
  obtain ⟨rfl, hsz, hP, hK, hD0⟩ := hv
  have hx := B.exec
  have hb := B.bytes
  have hr := B.returns
  have hts := atoms_spec (ws := wsX3_isWhole) B.pre
  have hown : s.vm.findClass RX3 = some m.cls := by have h_ := findClass_of_methodNamed B.named; exact h_
  have hlocks := B.notSynchronized
  subst hsz
  have hD : va_D (va_A [] s.heap.size) [] := dd_nil
  generalize hAe : va_A [] s.heap.size = A at hD hQ
  have hA : ∀ q : Nat, s.heap.size ≤ q → A q := fun q h => by rw [← hAe]; exact Or.inr h
  have hS : va_S A s.heap s.heap [] := va_S.rf
  have hl := lv_entry ([.ref xn]) (n := 3) (Nat.le_of_ble_eq_true rfl)
  rw [lg_entry_eq]
  generalize (lg_sl ([.ref xn]) ++ List.replicate (3 - (lg_sl ([.ref xn])).length) Slot.unset).toArray = ls at hl ⊢
  have hl : lv_has ls 3 [(0, .ref xn)] := hl
  have z0 : (0 : Int32).toInt = 0 := by decide
  have z1 : (1 : Int32).toInt = 1 := by decide
  have z2 : (2 : Int32).toInt = 2 := by decide
  refine lv_iconst (v := 0) hx hb dB_36_1_8.2.2.2.1 (by decide) ?_
  refine lv_istore_n (lv' := [(1, .int 0), (0, .ref xn)]) hx hb dB_36_1_8.2.2.2.2 rfl hl (by decide) rfl (fun ls hl => ?_)
  suffices LOOP_1 : ∀ (n_1 : Nat) (x1_1 : Int32) (H : Heap) (locs : List Loc) (ls : Array Slot), vn.toInt - x1_1.toInt < (n_1 : Int) → (0 ≤ x1_1.toInt) → (x1_1.toInt ≤ vn.toInt) → va_P D vwCl [ob3_0_ xn vp vn n1 n2 n3 n4 n5, ai_ cy n1 40 fk, ai_ cy n2 40 fs] H → va_S A s.heap H locs → lv_has ls 3 [(1, .int x1_1), (0, .ref xn)] → W p l e ({ frames := 1, cells := 0, slots := 0, locals := 21 } : Room) s m (([.ref xn] : List Value).toArray) below meth c H locs 0 0 Q (F0 m 2 ls []) from LOOP_1 ((vn.toInt - (0 : Int32).toInt).toNat + 1) (0 : Int32) _ _ _ (by omega) (by first | with_reducible assumption | omega | assumption) (by first | with_reducible assumption | omega | assumption) hP hS (lv_sub hl [0, 1] rfl)
  intro n_1
  induction n_1 with
  | zero =>
    intro x1_1 H locs ls hm v0_1 v1_1 hP hS hl
    exact absurd hm (by omega)
  | succ n_1 ih_1 =>
    intro x1_1 H locs ls hm v0_1 v1_1 hP hS hl
    refine lv_iload_n hx hb dB_36_1_9.1.1.1.1 rfl (lv_at hl 0 rfl) ?_
    refine lv_aload_n hx hb dB_36_1_9.1.1.1.2 rfl (lv_at hl 1 rfl) ?_
    refine va_get (ci := 3) (v := .int vn) (C := RX3) (T := TX3) (N := 7) hx hb hts (fun _ h => List.mem_cons_of_mem _ (List.mem_append_right _ h)) hown hK.1 hP 0 rfl rfl 1 (by decide) (hts (.fieldLink RX3 15 "CutAtlas$Net" "lines" "I") (List.mem_of_getElem? (i := 1) rfl)) (fun _ h9 => h9) rfl dB_36_1_9.1.1.2.1 ?_
    refine lv_icmp_ge (tgt := 56) hx hb dB_36_1_9.1.1.2.2 (by decide) (fun c_2 => ?_) (fun c_2 => ?_)
    · have t_2 : vn.toInt ≤ x1_1.toInt := Int32.le_iff_toInt_le.mp c_2
      refine lv_aload_n hx hb dB_36_1_10.2.2.2.1 rfl (lv_at hl 1 rfl) ?_
      refine va_get (ci := 3) (v := .int vp) (C := RX3) (T := TX3) (N := 7) hx hb hts (fun _ h => List.mem_cons_of_mem _ (List.mem_append_right _ h)) hown hK.1 hP 0 rfl rfl 0 (by decide) (hts (.fieldLink RX3 9 "CutAtlas$Net" "places" "I") (List.mem_of_getElem? (i := 3) rfl)) (fun _ h9 => h9) rfl dB_36_1_10.2.2.2.2 ?_
      refine lv_iconst (v := 2) hx hb dB_36_1_11.1.1.1.1 (by decide) ?_
      refine lv_icmp_lt (tgt := 68) hx hb dB_36_1_11.1.1.1.2 (by decide) (fun c_3 => ?_) (fun c_3 => ?_)
      · have t_3 : vp.toInt < (2 : Int32).toInt := Int32.lt_iff_toInt_lt.mp c_3
        refine lv_iconst (v := 0) hx hb dB_36_1_11.1.2.1.1 (by decide) ?_
        rw [hQ]
        exact W.zret (ty := .boolean) (v := 0) hx hb hr (by decide) (fun t ht hW => ⟨⟨0, (), rfl, (by omega), trivial⟩, hS.F ht⟩) hS.2.2 dB_36_1_11.1.2.1.2
      · have t_3 : ¬ vp.toInt < (2 : Int32).toInt := fun h => c_3 (Int32.lt_iff_toInt_lt.mpr h)
        refine lv_iconst (v := 1) hx hb dB_36_1_11.1.1.2.1 (by decide) ?_
        refine lv_goto (tgt := 69) hx hb dB_36_1_11.1.1.2.2 (by decide) ?_
        rw [hQ]
        exact W.zret (ty := .boolean) (v := 1) hx hb hr (by decide) (fun t ht hW => ⟨⟨1, (), rfl, (by omega), trivial⟩, hS.F ht⟩) hS.2.2 dB_36_1_11.1.2.1.2
    · have t_2 : ¬ vn.toInt ≤ x1_1.toInt := fun h => c_2 (Int32.le_iff_toInt_le.mpr h)
      refine lv_aload_n hx hb dB_36_1_9.1.2.1.1 rfl (lv_at hl 1 rfl) ?_
      refine va_get (ci := 3) (v := .ref n1) (C := RX3) (T := TX3) (N := 7) hx hb hts (fun _ h => List.mem_cons_of_mem _ (List.mem_append_right _ h)) hown hK.1 hP 0 rfl rfl 2 (by decide) (hts (.fieldLink RX3 18 "CutAtlas$Net" "kinds" "[I") (List.mem_of_getElem? (i := 2) rfl)) (fun _ h9 => h9) rfl dB_36_1_9.1.2.1.2 ?_
      refine lv_iload_n hx hb dB_36_1_9.1.2.2.1 rfl (lv_at hl 0 rfl) ?_
      have h_4 : vp_in x1_1 40 := in_I (by omega) (by omega)
      refine va_iald hx hb hK.1 hP 1 0 rfl rfl (i := x1_1) h_4 dB_36_1_9.1.2.2.2 ?_
      refine lv_topi (fun y_5 ey_5 => ?_)
      refine lv_iconst (v := 1) hx hb dB_36_1_9.2.1.1.1 (by decide) ?_
      refine lv_icmp_eq (tgt := 30) hx hb dB_36_1_9.2.1.1.2 (by decide) (fun c_6 => ?_) (fun c_6 => ?_)
      · have t_6 : y_5.toInt = (1 : Int32).toInt := congrArg Int32.toInt c_6
        refine lv_iconst (v := 1) hx hb dB_36_1_10.1.1.1.1 (by decide) ?_
        refine lv_goto (tgt := 35) hx hb dB_36_1_10.1.1.1.2 (by decide) ?_
        refine lv_istore_n (lv' := [(2, .int 1), (1, .int x1_1), (0, .ref xn)]) hx hb dB_36_1_10.1.1.2.2 rfl hl (by decide) rfl (fun ls hl => ?_)
        refine lv_iload_n hx hb dB_36_1_10.1.2.1.1 rfl (lv_at hl 0 rfl) ?_
        refine lv_if_eq (tgt := 50) hx hb dB_36_1_10.1.2.1.2 (by decide) (fun c_7 => ?_) (fun c_7 => ?_)
        · exact absurd c_7 (by decide)
        · have _ := c_7
          refine lv_aload_n hx hb dB_36_1_10.1.2.2.1 rfl (lv_at hl 2 rfl) ?_
          refine lv_iload_n hx hb dB_36_1_10.1.2.2.2 rfl (lv_at hl 1 rfl) ?_
          refine ct_R hP hD0 [ob3_0_ xn vp vn n1 n2 n3 n4 n5, ai_ cy n2 40 fs] [0, 2] (by decide) rfl (fun hPc hDw => ?_)
          have hFc := va_free (wc := []) hD hS hA [] rfl
          refine va_calli (va_runV (As := [.int x1_1]) (rest := []) ⟨hx, hb, hml, hown, hts⟩ (c_X3_isMissing l D cy H.size xn n1 n2 n3 n4 n5 vp vn fs x1_1 (by first | with_reducible assumption | omega | assumption)) (cwV 1 hts gX3_isWhole_X3_isMissing rfl rfl rfl ⟨rfl, hd_X3_isMissing⟩ ⟨Nat.le_of_ble_eq_true rfl, Nat.le_of_ble_eq_true rfl⟩) ⟨bl_, va_recvX hK.1 hP (ci := 3) (q0 := 0) rfl rfl, fun U hU hW => ⟨rfl, by rw [hU], by rw [hU]; exact hPc, kk_mv hW hK, hDw⟩⟩ rfl rfl hl.1 rfl (lv_room (Nat.le_of_ble_eq_true rfl)) dB_36_1_10.2.1.1.1 ⟨Nat.le_of_ble_eq_true rfl, Nat.le_of_ble_eq_true rfl⟩) hS (fun q _ h => hFc q h) hFc (fun r_8 u t H locs ht hvm hw hB hz1 hk1 hS => ?_)
          have hP : va_P D vwCl _ H := ro_keep hP hk1
          rcases hw with ⟨w_9, e_⟩ | ⟨w_9, e_⟩
          · have e_ := e_.symm
            subst e_
            refine lv_if_ne (tgt := 50) hx hb dB_36_1_10.2.1.1.2 (by decide) (fun c_10 => ?_) (fun c_10 => ?_)
            · have _ := c_10
              obtain ⟨y_11, ey_11⟩ : ∃ y : Int32, y = x1_1 + 1 := ⟨_, rfl⟩
              have ty_11 : y_11.toInt = x1_1.toInt + (1 : Int32).toInt := by rw [ey_11]; exact addI (by omega) (by omega)
              refine lv_iinc (v := y_11) (lv' := [(1, .int y_11), (2, .int 1), (0, .ref xn)]) hx hb dB_36_1_10.2.2.1.1 hl (k := 1) rfl (by rw [ey_11]; rfl) (by decide) rfl (fun ls hl => ?_)
              refine lv_goto (tgt := 2) hx hb dB_36_1_10.2.2.1.2 (by decide) ?_
              exact ih_1 y_11 _ _ _ (by omega) (by first | with_reducible assumption | omega | assumption) (by first | with_reducible assumption | omega | assumption) hP hS (lv_sub hl [0, 2] rfl)
            · exact absurd c_10 (by decide)
          · have e_ := e_.symm
            subst e_
            refine lv_if_ne (tgt := 50) hx hb dB_36_1_10.2.1.1.2 (by decide) (fun c_12 => ?_) (fun c_12 => ?_)
            · exact absurd c_12 (by decide)
            · have _ := c_12
              refine lv_iconst (v := 0) hx hb dB_36_1_10.2.1.2.1 (by decide) ?_
              rw [hQ]
              exact W.zret (ty := .boolean) (v := 0) hx hb hr (by decide) (fun t ht hW => ⟨⟨0, (), rfl, (by omega), trivial⟩, hS.F ht⟩) hS.2.2 dB_36_1_10.2.1.2.2
      · have t_6 : ¬ y_5.toInt = (1 : Int32).toInt := fun h => c_6 (Int32.toInt_inj.mp h)
        refine lv_aload_n hx hb dB_36_1_9.2.1.2.1 rfl (lv_at hl 1 rfl) ?_
        refine va_get (ci := 3) (v := .ref n1) (C := RX3) (T := TX3) (N := 7) hx hb hts (fun _ h => List.mem_cons_of_mem _ (List.mem_append_right _ h)) hown hK.1 hP 0 rfl rfl 2 (by decide) (hts (.fieldLink RX3 18 "CutAtlas$Net" "kinds" "[I") (List.mem_of_getElem? (i := 2) rfl)) (fun _ h9 => h9) rfl dB_36_1_9.2.1.2.2 ?_
        refine lv_iload_n hx hb dB_36_1_9.2.2.1.1 rfl (lv_at hl 0 rfl) ?_
        have h_13 : vp_in x1_1 40 := in_I (by omega) (by omega)
        refine va_iald hx hb hK.1 hP 1 0 rfl rfl (i := x1_1) h_13 dB_36_1_9.2.2.1.2 ?_
        refine lv_topi (fun y_14 ey_14 => ?_)
        have e_ := (ey_14.trans ey_5.symm).symm
        subst e_
        skip
        refine lv_iconst (v := 2) hx hb dB_36_1_9.2.2.2.1 (by decide) ?_
        refine lv_icmp_ne (tgt := 34) hx hb dB_36_1_9.2.2.2.2 (by decide) (fun c_15 => ?_) (fun c_15 => ?_)
        · have t_15 : ¬ y_5.toInt = (2 : Int32).toInt := fun h => c_15 (Int32.toInt_inj.mp h)
          refine lv_iconst (v := 0) hx hb dB_36_1_10.1.1.2.1 (by decide) ?_
          refine lv_istore_n (lv' := [(2, .int 0), (1, .int x1_1), (0, .ref xn)]) hx hb dB_36_1_10.1.1.2.2 rfl hl (by decide) rfl (fun ls hl => ?_)
          refine lv_iload_n hx hb dB_36_1_10.1.2.1.1 rfl (lv_at hl 0 rfl) ?_
          refine lv_if_eq (tgt := 50) hx hb dB_36_1_10.1.2.1.2 (by decide) (fun c_16 => ?_) (fun c_16 => ?_)
          · have _ := c_16
            obtain ⟨y_17, ey_17⟩ : ∃ y : Int32, y = x1_1 + 1 := ⟨_, rfl⟩
            have ty_17 : y_17.toInt = x1_1.toInt + (1 : Int32).toInt := by rw [ey_17]; exact addI (by omega) (by omega)
            refine lv_iinc (v := y_17) (lv' := [(1, .int y_17), (2, .int 0), (0, .ref xn)]) hx hb dB_36_1_10.2.2.1.1 hl (k := 1) rfl (by rw [ey_17]; rfl) (by decide) rfl (fun ls hl => ?_)
            refine lv_goto (tgt := 2) hx hb dB_36_1_10.2.2.1.2 (by decide) ?_
            exact ih_1 y_17 _ _ _ (by omega) (by first | with_reducible assumption | omega | assumption) (by first | with_reducible assumption | omega | assumption) hP hS (lv_sub hl [0, 2] rfl)
          · exact absurd c_16 (by decide)
        · have t_15 : y_5.toInt = (2 : Int32).toInt := congrArg Int32.toInt c_15
          refine lv_iconst (v := 1) hx hb dB_36_1_10.1.1.1.1 (by decide) ?_
          refine lv_goto (tgt := 35) hx hb dB_36_1_10.1.1.1.2 (by decide) ?_
          refine lv_istore_n (lv' := [(2, .int 1), (1, .int x1_1), (0, .ref xn)]) hx hb dB_36_1_10.1.1.2.2 rfl hl (by decide) rfl (fun ls hl => ?_)
          refine lv_iload_n hx hb dB_36_1_10.1.2.1.1 rfl (lv_at hl 0 rfl) ?_
          refine lv_if_eq (tgt := 50) hx hb dB_36_1_10.1.2.1.2 (by decide) (fun c_18 => ?_) (fun c_18 => ?_)
          · exact absurd c_18 (by decide)
          · have _ := c_18
            refine lv_aload_n hx hb dB_36_1_10.1.2.2.1 rfl (lv_at hl 2 rfl) ?_
            refine lv_iload_n hx hb dB_36_1_10.1.2.2.2 rfl (lv_at hl 1 rfl) ?_
            refine ct_R hP hD0 [ob3_0_ xn vp vn n1 n2 n3 n4 n5, ai_ cy n2 40 fs] [0, 2] (by decide) rfl (fun hPc hDw => ?_)
            have hFc := va_free (wc := []) hD hS hA [] rfl
            refine va_calli (va_runV (As := [.int x1_1]) (rest := []) ⟨hx, hb, hml, hown, hts⟩ (c_X3_isMissing l D cy H.size xn n1 n2 n3 n4 n5 vp vn fs x1_1 (by first | with_reducible assumption | omega | assumption)) (cwV 1 hts gX3_isWhole_X3_isMissing rfl rfl rfl ⟨rfl, hd_X3_isMissing⟩ ⟨Nat.le_of_ble_eq_true rfl, Nat.le_of_ble_eq_true rfl⟩) ⟨bl_, va_recvX hK.1 hP (ci := 3) (q0 := 0) rfl rfl, fun U hU hW => ⟨rfl, by rw [hU], by rw [hU]; exact hPc, kk_mv hW hK, hDw⟩⟩ rfl rfl hl.1 rfl (lv_room (Nat.le_of_ble_eq_true rfl)) dB_36_1_10.2.1.1.1 ⟨Nat.le_of_ble_eq_true rfl, Nat.le_of_ble_eq_true rfl⟩) hS (fun q _ h => hFc q h) hFc (fun r_19 u t H locs ht hvm hw hB hz1 hk1 hS => ?_)
            have hP : va_P D vwCl _ H := ro_keep hP hk1
            rcases hw with ⟨w_20, e_⟩ | ⟨w_20, e_⟩
            · have e_ := e_.symm
              subst e_
              refine lv_if_ne (tgt := 50) hx hb dB_36_1_10.2.1.1.2 (by decide) (fun c_21 => ?_) (fun c_21 => ?_)
              · have _ := c_21
                obtain ⟨y_22, ey_22⟩ : ∃ y : Int32, y = x1_1 + 1 := ⟨_, rfl⟩
                have ty_22 : y_22.toInt = x1_1.toInt + (1 : Int32).toInt := by rw [ey_22]; exact addI (by omega) (by omega)
                refine lv_iinc (v := y_22) (lv' := [(1, .int y_22), (2, .int 1), (0, .ref xn)]) hx hb dB_36_1_10.2.2.1.1 hl (k := 1) rfl (by rw [ey_22]; rfl) (by decide) rfl (fun ls hl => ?_)
                refine lv_goto (tgt := 2) hx hb dB_36_1_10.2.2.1.2 (by decide) ?_
                exact ih_1 y_22 _ _ _ (by omega) (by first | with_reducible assumption | omega | assumption) (by first | with_reducible assumption | omega | assumption) hP hS (lv_sub hl [0, 2] rfl)
              · exact absurd c_21 (by decide)
            · have e_ := e_.symm
              subst e_
              refine lv_if_ne (tgt := 50) hx hb dB_36_1_10.2.1.1.2 (by decide) (fun c_23 => ?_) (fun c_23 => ?_)
              · exact absurd c_23 (by decide)
              · have _ := c_23
                refine lv_iconst (v := 0) hx hb dB_36_1_10.2.1.2.1 (by decide) ?_
                rw [hQ]
                exact W.zret (ty := .boolean) (v := 0) hx hb hr (by decide) (fun t ht hW => ⟨⟨0, (), rfl, (by omega), trivial⟩, hS.F ht⟩) hS.2.2 dB_36_1_10.2.1.2.2

set_option maxHeartbeats 4000000 in
set_option maxRecDepth 100000 in
theorem c_X3_append (l : Launch) (D : va_G) (cy : Nat → ClassId) (sz : Nat) (xn : Nat) (n1 : Nat) (n2 : Nat) (n3 : Nat) (n4 : Nat) (n5 : Nat) (vp : Int32) (vn : Int32) (fk : Nat → Int32) (fs : Nat → Int32) (fe : Nat → Int32) (fw : Nat → Int32) (fp : Nat → Int32) (a1 : Int32) (a2 : Int32) (a3 : Int32) (a4 : Int32) (a5 : Int32) (hvn : 0 ≤ vn.toInt ∧ vn.toInt < 40) (q1 : 0 ≤ a1.toInt ∧ a1.toInt ≤ 4) (q2 : 0 ≤ a2.toInt ∧ a2.toInt ≤ 11) (q3 : 0 ≤ a3.toInt ∧ a3.toInt ≤ 11) (q4 : 0 ≤ a4.toInt ∧ a4.toInt ≤ 2000) (q5 : 0 ≤ a5.toInt ∧ a5.toInt ≤ 100) (hpr : prng fs fe 40) (r_fk : rng fk 40 (0) (4)) (r_fw : rng fw 40 (0) (2000)) (r_fp : rng fp 40 (0) (100)) : Met l yX3_append wsX3_append ({ frames := 0, cells := 0, slots := 0, locals := 0 }) (va_Pc [.ref xn, .int a1, .int a2, .int a3, .int a4, .int a5] (fun U => U.heap.size = sz ∧ va_P D vwCl [ob3_0_ xn vp vn n1 n2 n3 n4 n5, ai_ cy n1 40 fk, ai_ cy n2 40 fs, ai_ cy n3 40 fe, ai_ cy n4 40 fw, ai_ cy n5 40 fp] U.heap ∧ kk_ D cy U ∧ va_D (fun _ => True) [ob3_0_ xn vp vn n1 n2 n3 n4 n5, ai_ cy n1 40 fk, ai_ cy n2 40 fs, ai_ cy n3 40 fe, ai_ cy n4 40 fw, ai_ cy n5 40 fp])) (va_Qi (fun (r : Int32) (_ : Unit) => True) (fun (_ : Unit) (t : State) => ∃ (evn : Int32), ∃ (efk : Nat → Int32), ∃ (efs : Nat → Int32), ∃ (efe : Nat → Int32), ∃ (efw : Nat → Int32), ∃ (efp : Nat → Int32), (evn.toInt = vn.toInt + 1) ∧ (prng efs efe 40) ∧ (rng efk 40 (0) (4)) ∧ (rng efw 40 (0) (2000)) ∧ (rng efp 40 (0) (100)) ∧ va_P D vwCl [ob3_0_ xn vp evn n1 n2 n3 n4 n5, ai_ cy n1 40 efk, ai_ cy n2 40 efs, ai_ cy n3 40 efe, ai_ cy n4 40 efw, ai_ cy n5 40 efp] t.heap ∧ va_D (va_A [ob3_0_ xn vp vn n1 n2 n3 n4 n5, ai_ cy n1 40 fk, ai_ cy n2 40 fs, ai_ cy n3 40 fe, ai_ cy n4 40 fw, ai_ cy n5 40 fp] sz) [ob3_0_ xn vp evn n1 n2 n3 n4 n5, ai_ cy n1 40 efk, ai_ cy n2 40 efs, ai_ cy n3 40 efe, ai_ cy n4 40 efw, ai_ cy n5 40 efp]) (va_A [ob3_0_ xn vp vn n1 n2 n3 n4 n5, ai_ cy n1 40 fk, ai_ cy n2 40 fs, ai_ cy n3 40 fe, ai_ cy n4 40 fw, ai_ cy n5 40 fp] sz)) 0 0 (va_A [ob3_0_ xn vp vn n1 n2 n3 n4 n5, ai_ cy n1 40 fk, ai_ cy n2 40 fs, ai_ cy n3 40 fe, ai_ cy n4 40 fw, ai_ cy n5 40 fp] sz) := by
  refine ofQ (cc := cX3_append) (maxL := 6) (ret := (some .int)) (by decide) rfl ?_
  intro p e s m args below meth c s₁ Q hQ B hml hv
  obtain ⟨rfl, hsz, hP, hK, hD0⟩ := hv
  have hx := B.exec
  have hb := B.bytes
  have hr := B.returns
  have hts := atoms_spec (ws := wsX3_append) B.pre
  have hown : s.vm.findClass RX3 = some m.cls := by have h_ := findClass_of_methodNamed B.named; exact h_
  have hlocks := B.notSynchronized
  subst hsz
  have hD := hD0.self (sz := s.heap.size)
  generalize hAe : va_A [ob3_0_ xn vp vn n1 n2 n3 n4 n5, ai_ cy n1 40 fk, ai_ cy n2 40 fs, ai_ cy n3 40 fe, ai_ cy n4 40 fw, ai_ cy n5 40 fp] s.heap.size = A at hD hQ
  have hA : ∀ q : Nat, s.heap.size ≤ q → A q := fun q h => by rw [← hAe]; exact Or.inr h
  have hS : va_S A s.heap s.heap [] := va_S.rf
  have hl := lv_entry ([.ref xn, .int a1, .int a2, .int a3, .int a4, .int a5]) (n := 6) (Nat.le_of_ble_eq_true rfl)
  rw [lg_entry_eq]
  generalize (lg_sl ([.ref xn, .int a1, .int a2, .int a3, .int a4, .int a5]) ++ List.replicate (6 - (lg_sl ([.ref xn, .int a1, .int a2, .int a3, .int a4, .int a5])).length) Slot.unset).toArray = ls at hl ⊢
  have hl : lv_has ls 6 [(0, .ref xn), (1, .int a1), (2, .int a2), (3, .int a3), (4, .int a4), (5, .int a5)] := hl
  have z1 : (1 : Int32).toInt = 1 := by decide
  refine lv_aload_n hx hb dB_36_1_11.1.2.2.1 rfl (lv_at hl 0 rfl) ?_
  refine va_get (ci := 3) (v := .ref n1) (C := RX3) (T := TX3) (N := 7) hx hb hts (fun _ h => List.mem_cons_of_mem _ (List.mem_append_right _ h)) hown hK.1 hP 0 rfl rfl 2 (by decide) (hts (.fieldLink RX3 18 "CutAtlas$Net" "kinds" "[I") (List.mem_of_getElem? (i := 1) rfl)) (fun _ h9 => h9) rfl dB_36_1_11.1.2.2.2 ?_
  refine lv_aload_n hx hb dB_36_1_11.2.1.1.1 rfl (lv_at hl 0 rfl) ?_
  refine va_get (ci := 3) (v := .int vn) (C := RX3) (T := TX3) (N := 7) hx hb hts (fun _ h => List.mem_cons_of_mem _ (List.mem_append_right _ h)) hown hK.1 hP 0 rfl rfl 1 (by decide) (hts (.fieldLink RX3 15 "CutAtlas$Net" "lines" "I") (List.mem_of_getElem? (i := 2) rfl)) (fun _ h9 => h9) rfl dB_36_1_11.2.1.1.2 ?_
  refine lv_iload_n hx hb dB_36_1_11.2.1.2.1 rfl (lv_at hl 1 rfl) ?_
  have h_1 : vp_in vn 40 := in_I (by omega) (by omega)
  refine va_iast hx hb hK.1 hP hD hS 1 0 rfl rfl (i := vn) h_1 dB_36_1_11.2.1.2.2 (fun H locs hP hD hS => ?_)
  obtain ⟨f_2, ef_2⟩ : ∃ g : Nat → Int32, g = upd fk vn.toNatClampNeg a1 := ⟨_, rfl⟩
  refine pd_K (D := D) (cl := vwCl) (H := H) (A := A) [ob3_0_ xn vp vn n1 n2 n3 n4 n5, ai_ cy n1 40 f_2, ai_ cy n2 40 fs, ai_ cy n3 40 fe, ai_ cy n4 40 fw, ai_ cy n5 40 fp] (by rw [ef_2]; exact hP) (by rw [ef_2]; exact hD) (fun hP hD => ?_)
  have rf_2 : rng f_2 40 (0) (4) := by rw [ef_2]; exact rng_upd r_fk (by omega) (by omega)
  refine lv_aload_n hx hb dB_36_1_11.2.2.1.1 rfl (lv_at hl 0 rfl) ?_
  refine va_get (ci := 3) (v := .ref n2) (C := RX3) (T := TX3) (N := 7) hx hb hts (fun _ h => List.mem_cons_of_mem _ (List.mem_append_right _ h)) hown hK.1 hP 0 rfl rfl 3 (by decide) (hts (.fieldLink RX3 22 "CutAtlas$Net" "starts" "[I") (List.mem_of_getElem? (i := 3) rfl)) (fun _ h9 => h9) rfl dB_36_1_11.2.2.1.2 ?_
  refine lv_aload_n hx hb dB_36_1_11.2.2.2.1 rfl (lv_at hl 0 rfl) ?_
  refine va_get (ci := 3) (v := .int vn) (C := RX3) (T := TX3) (N := 7) hx hb hts (fun _ h => List.mem_cons_of_mem _ (List.mem_append_right _ h)) hown hK.1 hP 0 rfl rfl 1 (by decide) (hts (.fieldLink RX3 15 "CutAtlas$Net" "lines" "I") (List.mem_of_getElem? (i := 2) rfl)) (fun _ h9 => h9) rfl dB_36_1_11.2.2.2.2 ?_
  refine lv_iload_n hx hb dB_36_1_12.1.1.1.1 rfl (lv_at hl 2 rfl) ?_
  have h_3 : vp_in vn 40 := in_I (by omega) (by omega)
  refine va_iast hx hb hK.1 hP hD hS 2 0 rfl rfl (i := vn) h_3 dB_36_1_12.1.1.1.2 (fun H locs hP hD hS => ?_)
  obtain ⟨f_4, ef_4⟩ : ∃ g : Nat → Int32, g = upd fs vn.toNatClampNeg a2 := ⟨_, rfl⟩
  refine pd_K (D := D) (cl := vwCl) (H := H) (A := A) [ob3_0_ xn vp vn n1 n2 n3 n4 n5, ai_ cy n1 40 f_2, ai_ cy n2 40 f_4, ai_ cy n3 40 fe, ai_ cy n4 40 fw, ai_ cy n5 40 fp] (by rw [ef_4]; exact hP) (by rw [ef_4]; exact hD) (fun hP hD => ?_)
  refine lv_aload_n hx hb dB_36_1_12.1.1.2.1 rfl (lv_at hl 0 rfl) ?_
  refine va_get (ci := 3) (v := .ref n3) (C := RX3) (T := TX3) (N := 7) hx hb hts (fun _ h => List.mem_cons_of_mem _ (List.mem_append_right _ h)) hown hK.1 hP 0 rfl rfl 4 (by decide) (hts (.fieldLink RX3 25 "CutAtlas$Net" "ends" "[I") (List.mem_of_getElem? (i := 4) rfl)) (fun _ h9 => h9) rfl dB_36_1_12.1.1.2.2 ?_
  refine lv_aload_n hx hb dB_36_1_12.1.2.1.1 rfl (lv_at hl 0 rfl) ?_
  refine va_get (ci := 3) (v := .int vn) (C := RX3) (T := TX3) (N := 7) hx hb hts (fun _ h => List.mem_cons_of_mem _ (List.mem_append_right _ h)) hown hK.1 hP 0 rfl rfl 1 (by decide) (hts (.fieldLink RX3 15 "CutAtlas$Net" "lines" "I") (List.mem_of_getElem? (i := 2) rfl)) (fun _ h9 => h9) rfl dB_36_1_12.1.2.1.2 ?_
  refine lv_iload_n hx hb dB_36_1_12.1.2.2.1 rfl (lv_at hl 3 rfl) ?_
  have h_5 : vp_in vn 40 := in_I (by omega) (by omega)
  refine va_iast hx hb hK.1 hP hD hS 3 0 rfl rfl (i := vn) h_5 dB_36_1_12.1.2.2.2 (fun H locs hP hD hS => ?_)
  obtain ⟨f_6, ef_6⟩ : ∃ g : Nat → Int32, g = upd fe vn.toNatClampNeg a3 := ⟨_, rfl⟩
  refine pd_K (D := D) (cl := vwCl) (H := H) (A := A) [ob3_0_ xn vp vn n1 n2 n3 n4 n5, ai_ cy n1 40 f_2, ai_ cy n2 40 f_4, ai_ cy n3 40 f_6, ai_ cy n4 40 fw, ai_ cy n5 40 fp] (by rw [ef_6]; exact hP) (by rw [ef_6]; exact hD) (fun hP hD => ?_)
  have pr_7 : prng f_4 f_6 40 := prng_st (by assumption) (by assumption) (by assumption) (by omega)
  refine lv_aload_n hx hb dB_36_1_12.2.1.1.1 rfl (lv_at hl 0 rfl) ?_
  refine va_get (ci := 3) (v := .ref n4) (C := RX3) (T := TX3) (N := 7) hx hb hts (fun _ h => List.mem_cons_of_mem _ (List.mem_append_right _ h)) hown hK.1 hP 0 rfl rfl 5 (by decide) (hts (.fieldLink RX3 28 "CutAtlas$Net" "widths" "[I") (List.mem_of_getElem? (i := 5) rfl)) (fun _ h9 => h9) rfl dB_36_1_12.2.1.1.2 ?_
  refine lv_aload_n hx hb dB_36_1_12.2.1.2.1 rfl (lv_at hl 0 rfl) ?_
  refine va_get (ci := 3) (v := .int vn) (C := RX3) (T := TX3) (N := 7) hx hb hts (fun _ h => List.mem_cons_of_mem _ (List.mem_append_right _ h)) hown hK.1 hP 0 rfl rfl 1 (by decide) (hts (.fieldLink RX3 15 "CutAtlas$Net" "lines" "I") (List.mem_of_getElem? (i := 2) rfl)) (fun _ h9 => h9) rfl dB_36_1_12.2.1.2.2 ?_
  refine lv_iload hx hb dB_36_1_12.2.2.1.1 (lv_at hl 4 rfl) ?_
  have h_8 : vp_in vn 40 := in_I (by omega) (by omega)
  refine va_iast hx hb hK.1 hP hD hS 4 0 rfl rfl (i := vn) h_8 dB_36_1_12.2.2.1.2 (fun H locs hP hD hS => ?_)
  obtain ⟨f_9, ef_9⟩ : ∃ g : Nat → Int32, g = upd fw vn.toNatClampNeg a4 := ⟨_, rfl⟩
  refine pd_K (D := D) (cl := vwCl) (H := H) (A := A) [ob3_0_ xn vp vn n1 n2 n3 n4 n5, ai_ cy n1 40 f_2, ai_ cy n2 40 f_4, ai_ cy n3 40 f_6, ai_ cy n4 40 f_9, ai_ cy n5 40 fp] (by rw [ef_9]; exact hP) (by rw [ef_9]; exact hD) (fun hP hD => ?_)
  have rf_9 : rng f_9 40 (0) (2000) := by rw [ef_9]; exact rng_upd r_fw (by omega) (by omega)
  refine lv_aload_n hx hb dB_36_1_12.2.2.2.1 rfl (lv_at hl 0 rfl) ?_
  refine va_get (ci := 3) (v := .ref n5) (C := RX3) (T := TX3) (N := 7) hx hb hts (fun _ h => List.mem_cons_of_mem _ (List.mem_append_right _ h)) hown hK.1 hP 0 rfl rfl 6 (by decide) (hts (.fieldLink RX3 31 "CutAtlas$Net" "prices" "[I") (List.mem_of_getElem? (i := 6) rfl)) (fun _ h9 => h9) rfl dB_36_1_12.2.2.2.2 ?_
  refine lv_aload_n hx hb dB_36_1_13.1.1.1.1 rfl (lv_at hl 0 rfl) ?_
  refine va_get (ci := 3) (v := .int vn) (C := RX3) (T := TX3) (N := 7) hx hb hts (fun _ h => List.mem_cons_of_mem _ (List.mem_append_right _ h)) hown hK.1 hP 0 rfl rfl 1 (by decide) (hts (.fieldLink RX3 15 "CutAtlas$Net" "lines" "I") (List.mem_of_getElem? (i := 2) rfl)) (fun _ h9 => h9) rfl dB_36_1_13.1.1.1.2 ?_
  refine lv_iload hx hb dB_36_1_13.1.1.2.1 (lv_at hl 5 rfl) ?_
  have h_10 : vp_in vn 40 := in_I (by omega) (by omega)
  refine va_iast hx hb hK.1 hP hD hS 5 0 rfl rfl (i := vn) h_10 dB_36_1_13.1.1.2.2 (fun H locs hP hD hS => ?_)
  obtain ⟨f_11, ef_11⟩ : ∃ g : Nat → Int32, g = upd fp vn.toNatClampNeg a5 := ⟨_, rfl⟩
  refine pd_K (D := D) (cl := vwCl) (H := H) (A := A) [ob3_0_ xn vp vn n1 n2 n3 n4 n5, ai_ cy n1 40 f_2, ai_ cy n2 40 f_4, ai_ cy n3 40 f_6, ai_ cy n4 40 f_9, ai_ cy n5 40 f_11] (by rw [ef_11]; exact hP) (by rw [ef_11]; exact hD) (fun hP hD => ?_)
  have rf_11 : rng f_11 40 (0) (100) := by rw [ef_11]; exact rng_upd r_fp (by omega) (by omega)
  refine lv_aload_n hx hb dB_36_1_13.1.2.1.1 rfl (lv_at hl 0 rfl) ?_
  refine lv_dup hx hb dB_36_1_13.1.2.1.2 rfl ?_
  refine va_get (ci := 3) (v := .int vn) (C := RX3) (T := TX3) (N := 7) hx hb hts (fun _ h => List.mem_cons_of_mem _ (List.mem_append_right _ h)) hown hK.1 hP 0 rfl rfl 1 (by decide) (hts (.fieldLink RX3 15 "CutAtlas$Net" "lines" "I") (List.mem_of_getElem? (i := 2) rfl)) (fun _ h9 => h9) rfl dB_36_1_13.1.2.2.1 ?_
  refine lv_iconst (v := 1) hx hb dB_36_1_13.1.2.2.2 (by decide) ?_
  refine lv_iadd hx hb dB_36_1_13.2.1.1.1 ?_
  refine lv_topi (fun y_12 ey_12 => ?_)
  have ty_12 : y_12.toInt = vn.toInt + (1 : Int32).toInt := by rw [ey_12]; exact addI (by omega) (by omega)
  refine va_put (ci := 3) (v := .int y_12) (ty := .int) (C := RX3) (T := TX3) (N := 7) hx hb hts (fun _ h => List.mem_cons_of_mem _ (List.mem_append_right _ h)) tyX3 tyX3_ok nmX3 hown hK.1 hP hD hS 0 rfl rfl 1 (by decide) (hts (.fieldLink RX3 15 "CutAtlas$Net" "lines" "I") (List.mem_of_getElem? (i := 2) rfl)) (fun _ h9 => h9) rfl (by decide +kernel) rfl rfl (Nat.le_of_ble_eq_true rfl) dB_36_1_13.2.1.1.2 (fun H locs hP hD hS => ?_)
  refine pd_K [ob3_0_ xn vp y_12 n1 n2 n3 n4 n5, ai_ cy n1 40 f_2, ai_ cy n2 40 f_4, ai_ cy n3 40 f_6, ai_ cy n4 40 f_9, ai_ cy n5 40 f_11] hP hD (fun hP hD => ?_)
  refine lv_aload_n hx hb dB_36_1_13.2.1.2.1 rfl (lv_at hl 0 rfl) ?_
  refine va_get (ci := 3) (v := .int y_12) (C := RX3) (T := TX3) (N := 7) hx hb hts (fun _ h => List.mem_cons_of_mem _ (List.mem_append_right _ h)) hown hK.1 hP 0 rfl rfl 1 (by decide) (hts (.fieldLink RX3 15 "CutAtlas$Net" "lines" "I") (List.mem_of_getElem? (i := 2) rfl)) (fun _ h9 => h9) rfl dB_36_1_13.2.1.2.2 ?_
  refine lv_iconst (v := 1) hx hb dB_36_1_13.2.2.1.1 (by decide) ?_
  refine lv_isub hx hb dB_36_1_13.2.2.1.2 ?_
  refine lv_topi (fun y_13 ey_13 => ?_)
  have ty_13 : y_13.toInt = y_12.toInt - (1 : Int32).toInt := by rw [ey_13]; exact subI (by omega) (by omega)
  rw [hQ]
  exact W.iret (v := y_13) hx hb hr (fun t ht hW => ⟨⟨y_13, (), rfl, trivial, y_12, f_2, f_4, f_6, f_9, f_11, (by first | with_reducible assumption | omega | assumption), (by first | with_reducible assumption | assumption | exact rng_zero (by omega) (by omega) | omega), (by first | with_reducible assumption | assumption | exact rng_zero (by omega) (by omega) | omega), (by first | with_reducible assumption | assumption | exact rng_zero (by omega) (by omega) | omega), (by first | with_reducible assumption | assumption | exact rng_zero (by omega) (by omega) | omega), by rw [ht]; exact hP, hD⟩, hS.F ht⟩) hS.2.2 dB_36_1_13.2.2.2.1

set_option maxHeartbeats 4000000 in
set_option maxRecDepth 100000 in
theorem c_X3_renumbered (l : Launch) (D : va_G) (cy : Nat → ClassId) (sz : Nat) (a1 : Int32) (a2 : Int32) (a3 : Int32) (q1 : 0 ≤ a1.toInt ∧ a1.toInt ≤ 11) (q2 : 0 ≤ a2.toInt ∧ a2.toInt ≤ 11) (q3 : 0 ≤ a3.toInt) : Met l yX3_renumbered wsX3_renumbered ({ frames := 0, cells := 0, slots := 0, locals := 0 }) (va_Pc [.int a1, .int a2, .int a3] (fun U => U.heap.size = sz ∧ va_P D vwCl [] U.heap ∧ kk_ D cy U ∧ va_D (fun _ => True) [])) (va_Qi (fun (r : Int32) (_ : Unit) => (0 ≤ r.toInt ∧ r.toInt ≤ 11)) (fun (_ : Unit) (_ : State) => True) (va_A [] sz)) 0 0 (va_A [] sz) := by
  refine ofQ (cc := cX3_renumbered) (maxL := 3) (ret := (some .int)) (by decide) rfl ?_
  intro p e s m args below meth c s₁ Q hQ B hml hv
  obtain ⟨rfl, hsz, hP, hK, hD0⟩ := hv
  have hx := B.exec
  have hb := B.bytes
  have hr := B.returns
  have hts := atoms_spec (ws := wsX3_renumbered) B.pre
  have hown : s.vm.findClass RX3 = some m.cls := by have h_ := findClass_of_methodNamed B.named; exact h_
  have hlocks := B.notSynchronized
  subst hsz
  have hD : va_D (va_A [] s.heap.size) [] := dd_nil
  generalize hAe : va_A [] s.heap.size = A at hD hQ
  have hA : ∀ q : Nat, s.heap.size ≤ q → A q := fun q h => by rw [← hAe]; exact Or.inr h
  have hS : va_S A s.heap s.heap [] := va_S.rf
  have hl := lv_entry ([.int a1, .int a2, .int a3]) (n := 3) (Nat.le_of_ble_eq_true rfl)
  rw [lg_entry_eq]
  generalize (lg_sl ([.int a1, .int a2, .int a3]) ++ List.replicate (3 - (lg_sl ([.int a1, .int a2, .int a3])).length) Slot.unset).toArray = ls at hl ⊢
  have hl : lv_has ls 3 [(0, .int a1), (1, .int a2), (2, .int a3)] := hl
  have z1 : (1 : Int32).toInt = 1 := by decide
  refine lv_iload_n hx hb dB_36_1_17.2.2.2.2 rfl (lv_at hl 0 rfl) ?_
  refine lv_iload_n hx hb dB_36_1_18.1.1.1.1 rfl (lv_at hl 2 rfl) ?_
  refine lv_icmp_ne (tgt := 7) hx hb dB_36_1_18.1.1.1.2 (by decide) (fun c_1 => ?_) (fun c_1 => ?_)
  · have t_1 : ¬ a1.toInt = a3.toInt := fun h => c_1 (Int32.toInt_inj.mp h)
    refine lv_iload_n hx hb dB_36_1_18.1.2.1.1 rfl (lv_at hl 0 rfl) ?_
    refine lv_iload_n hx hb dB_36_1_18.1.2.1.2 rfl (lv_at hl 2 rfl) ?_
    refine lv_icmp_le (tgt := 18) hx hb dB_36_1_18.1.2.2.1 (by decide) (fun c_2 => ?_) (fun c_2 => ?_)
    · have t_2 : a1.toInt ≤ a3.toInt := Int32.le_iff_toInt_le.mp c_2
      refine lv_iload_n hx hb dB_36_1_18.2.1.2.2 rfl (lv_at hl 0 rfl) ?_
      rw [hQ]
      exact W.iret (v := a1) hx hb hr (fun t ht hW => ⟨⟨a1, (), rfl, (by omega), trivial⟩, hS.F ht⟩) hS.2.2 dB_36_1_18.2.2.1.1
    · have t_2 : ¬ a1.toInt ≤ a3.toInt := fun h => c_2 (Int32.le_iff_toInt_le.mpr h)
      refine lv_iload_n hx hb dB_36_1_18.1.2.2.2 rfl (lv_at hl 0 rfl) ?_
      refine lv_iconst (v := 1) hx hb dB_36_1_18.2.1.1.1 (by decide) ?_
      refine lv_isub hx hb dB_36_1_18.2.1.1.2 ?_
      refine lv_topi (fun y_3 ey_3 => ?_)
      have ty_3 : y_3.toInt = a1.toInt - (1 : Int32).toInt := by rw [ey_3]; exact subI (by omega) (by omega)
      refine lv_goto (tgt := 19) hx hb dB_36_1_18.2.1.2.1 (by decide) ?_
      rw [hQ]
      exact W.iret (v := y_3) hx hb hr (fun t ht hW => ⟨⟨y_3, (), rfl, (by omega), trivial⟩, hS.F ht⟩) hS.2.2 dB_36_1_18.2.2.1.1
  · have t_1 : a1.toInt = a3.toInt := congrArg Int32.toInt c_1
    refine lv_iload_n hx hb dB_36_1_18.1.1.2.1 rfl (lv_at hl 1 rfl) ?_
    rw [hQ]
    exact W.iret (v := a2) hx hb hr (fun t ht hW => ⟨⟨a2, (), rfl, (by omega), trivial⟩, hS.F ht⟩) hS.2.2 dB_36_1_18.1.1.2.2

set_option maxHeartbeats 4000000 in
set_option maxRecDepth 100000 in
theorem c_X3_join (l : Launch) (D : va_G) (cy : Nat → ClassId) (sz : Nat) (xn : Nat) (n1 : Nat) (n2 : Nat) (n3 : Nat) (n4 : Nat) (n5 : Nat) (vp : Int32) (vn : Int32) (fs : Nat → Int32) (fe : Nat → Int32) (a1 : Int32) (a2 : Int32) (hvn : 0 ≤ vn.toInt ∧ vn.toInt ≤ 40) (hvp : 0 ≤ vp.toInt ∧ vp.toInt ≤ 12) (q1 : 0 ≤ a1.toInt ∧ a1.toInt ≤ 11) (q2 : 0 ≤ a2.toInt ∧ a2.toInt < vp.toInt) (hpr : prng fs fe 40) : Met l yX3_join wsX3_join ({ frames := 1, cells := 0, slots := 0, locals := 22 }) (va_Pc [.ref xn, .int a1, .int a2] (fun U => U.heap.size = sz ∧ va_P D vwCl [ob3_0_ xn vp vn n1 n2 n3 n4 n5, ai_ cy n2 40 fs, ai_ cy n3 40 fe] U.heap ∧ kk_ D cy U ∧ va_D (fun _ => True) [ob3_0_ xn vp vn n1 n2 n3 n4 n5, ai_ cy n2 40 fs, ai_ cy n3 40 fe])) (va_Qi (fun (r : Int32) (_ : Unit) => True) (fun (_ : Unit) (t : State) => ∃ (evp : Int32), ∃ (efs : Nat → Int32), ∃ (efe : Nat → Int32), (evp.toInt = vp.toInt - 1) ∧ (prng efs efe 40) ∧ va_P D vwCl [ob3_0_ xn evp vn n1 n2 n3 n4 n5, ai_ cy n2 40 efs, ai_ cy n3 40 efe] t.heap ∧ va_D (va_A [ob3_0_ xn vp vn n1 n2 n3 n4 n5, ai_ cy n2 40 fs, ai_ cy n3 40 fe] sz) [ob3_0_ xn evp vn n1 n2 n3 n4 n5, ai_ cy n2 40 efs, ai_ cy n3 40 efe]) (va_A [ob3_0_ xn vp vn n1 n2 n3 n4 n5, ai_ cy n2 40 fs, ai_ cy n3 40 fe] sz)) 0 0 (va_A [ob3_0_ xn vp vn n1 n2 n3 n4 n5, ai_ cy n2 40 fs, ai_ cy n3 40 fe] sz) := by
  refine ofQ (cc := cX3_join) (maxL := 5) (ret := (some .int)) (by decide) rfl ?_
  intro p e s m args below meth c s₁ Q hQ B hml hv
  obtain ⟨rfl, hsz, hP, hK, hD0⟩ := hv
  have hx := B.exec
  have hb := B.bytes
  have hr := B.returns
  have hts := atoms_spec (ws := wsX3_join) B.pre
  have hown : s.vm.findClass RX3 = some m.cls := by have h_ := findClass_of_methodNamed B.named; exact h_
  have hlocks := B.notSynchronized
  subst hsz
  have hD := hD0.self (sz := s.heap.size)
  generalize hAe : va_A [ob3_0_ xn vp vn n1 n2 n3 n4 n5, ai_ cy n2 40 fs, ai_ cy n3 40 fe] s.heap.size = A at hD hQ
  have hA : ∀ q : Nat, s.heap.size ≤ q → A q := fun q h => by rw [← hAe]; exact Or.inr h
  have hS : va_S A s.heap s.heap [] := va_S.rf
  have hl := lv_entry ([.ref xn, .int a1, .int a2]) (n := 5) (Nat.le_of_ble_eq_true rfl)
  rw [lg_entry_eq]
  generalize (lg_sl ([.ref xn, .int a1, .int a2]) ++ List.replicate (5 - (lg_sl ([.ref xn, .int a1, .int a2])).length) Slot.unset).toArray = ls at hl ⊢
  have hl : lv_has ls 5 [(0, .ref xn), (1, .int a1), (2, .int a2)] := hl
  have zm9 : ((-9) : Int32).toInt = -9 := by decide
  have z0 : (0 : Int32).toInt = 0 := by decide
  have z1 : (1 : Int32).toInt = 1 := by decide
  refine lv_iconst (v := 0) hx hb dB_36_1_13.2.2.2.2 (by decide) ?_
  refine lv_istore_n (lv' := [(3, .int 0), (0, .ref xn), (1, .int a1), (2, .int a2)]) hx hb dB_36_1_14.1.1.1.1 rfl hl (by decide) rfl (fun ls hl => ?_)
  refine lv_iconst (v := 0) hx hb dB_36_1_14.1.1.1.2 (by decide) ?_
  refine lv_istore (lv' := [(4, .int 0), (3, .int 0), (0, .ref xn), (1, .int a1), (2, .int a2)]) hx hb dB_36_1_14.1.1.2.1 hl (by decide) rfl (fun ls hl => ?_)
  suffices LOOP_1 : ∀ (n_1 : Nat) (x4_1 : Int32) (x3_1 : Int32) (c_n2_1 : Nat → Int32) (c_n3_1 : Nat → Int32) (H : Heap) (locs : List Loc) (ls : Array Slot), vn.toInt - x4_1.toInt < (n_1 : Int) → (0 ≤ x4_1.toInt) → (x4_1.toInt ≤ vn.toInt) → (prng c_n2_1 c_n3_1 40) → (0 ≤ x3_1.toInt) → (x3_1.toInt ≤ x4_1.toInt) → pd_2 D vwCl A [ob3_0_ xn vp vn n1 n2 n3 n4 n5, ai_ cy n2 40 c_n2_1, ai_ cy n3 40 c_n3_1] H → va_S A s.heap H locs → lv_has ls 5 [(4, .int x4_1), (3, .int x3_1), (0, .ref xn), (1, .int a1), (2, .int a2)] → W p l e ({ frames := 1, cells := 0, slots := 0, locals := 22 } : Room) s m (([.ref xn, .int a1, .int a2] : List Value).toArray) below meth c H locs 0 0 Q (F0 m 5 ls []) from LOOP_1 ((vn.toInt - (0 : Int32).toInt).toNat + 1) (0 : Int32) (0 : Int32) fs fe _ _ _ (by omega) (by first | with_reducible assumption | omega | assumption) (by first | with_reducible assumption | omega | assumption) (by first | with_reducible assumption | assumption | omega) (by first | with_reducible assumption | omega | assumption) (by first | with_reducible assumption | omega | assumption) ⟨hP, hD⟩ hS (lv_sub hl [0, 1, 2, 3, 4] rfl)
  intro n_1
  induction n_1 with
  | zero =>
    intro x4_1 x3_1 c_n2_1 c_n3_1 H locs ls hm v0_1 v1_1 v2_1 v3_1 v4_1 hPD hS hl; obtain ⟨hP, hD⟩ := hPD
    exact absurd hm (by omega)
  | succ n_1 ih_1 =>
    intro x4_1 x3_1 c_n2_1 c_n3_1 H locs ls hm v0_1 v1_1 v2_1 v3_1 v4_1 hPD hS hl; obtain ⟨hP, hD⟩ := hPD
    refine lv_iload hx hb dB_36_1_14.1.1.2.2 (lv_at hl 0 rfl) ?_
    refine lv_aload_n hx hb dB_36_1_14.1.2.1.1 rfl (lv_at hl 2 rfl) ?_
    refine va_get (ci := 3) (v := .int vn) (C := RX3) (T := TX3) (N := 7) hx hb hts (fun _ h => List.mem_cons_of_mem _ (List.mem_append_right _ h)) hown hK.1 hP 0 rfl rfl 1 (by decide) (hts (.fieldLink RX3 15 "CutAtlas$Net" "lines" "I") (List.mem_of_getElem? (i := 1) rfl)) (fun _ h9 => h9) rfl dB_36_1_14.1.2.1.2 ?_
    refine lv_icmp_ge (tgt := 105) hx hb dB_36_1_14.1.2.2.1 (by decide) (fun c_2 => ?_) (fun c_2 => ?_)
    · have t_2 : vn.toInt ≤ x4_1.toInt := Int32.le_iff_toInt_le.mp c_2
      refine lv_aload_n hx hb dB_36_1_17.1.2.2.2 rfl (lv_at hl 2 rfl) ?_
      refine lv_dup hx hb dB_36_1_17.2.1.1.1 rfl ?_
      refine va_get (ci := 3) (v := .int vp) (C := RX3) (T := TX3) (N := 7) hx hb hts (fun _ h => List.mem_cons_of_mem _ (List.mem_append_right _ h)) hown hK.1 hP 0 rfl rfl 0 (by decide) (hts (.fieldLink RX3 9 "CutAtlas$Net" "places" "I") (List.mem_of_getElem? (i := 4) rfl)) (fun _ h9 => h9) rfl dB_36_1_17.2.1.1.2 ?_
      refine lv_iconst (v := 1) hx hb dB_36_1_17.2.1.2.1 (by decide) ?_
      refine lv_isub hx hb dB_36_1_17.2.1.2.2 ?_
      refine lv_topi (fun y_3 ey_3 => ?_)
      have ty_3 : y_3.toInt = vp.toInt - (1 : Int32).toInt := by rw [ey_3]; exact subI (by omega) (by omega)
      refine va_put (ci := 3) (v := .int y_3) (ty := .int) (C := RX3) (T := TX3) (N := 7) hx hb hts (fun _ h => List.mem_cons_of_mem _ (List.mem_append_right _ h)) tyX3 tyX3_ok nmX3 hown hK.1 hP hD hS 0 rfl rfl 0 (by decide) (hts (.fieldLink RX3 9 "CutAtlas$Net" "places" "I") (List.mem_of_getElem? (i := 4) rfl)) (fun _ h9 => h9) rfl (by decide +kernel) rfl rfl (Nat.le_of_ble_eq_true rfl) dB_36_1_17.2.2.1.1 (fun H locs hP hD hS => ?_)
      refine pd_K [ob3_0_ xn y_3 vn n1 n2 n3 n4 n5, ai_ cy n2 40 c_n2_1, ai_ cy n3 40 c_n3_1] hP hD (fun hP hD => ?_)
      refine lv_iload_n hx hb dB_36_1_17.2.2.1.2 rfl (lv_at hl 1 rfl) ?_
      rw [hQ]
      exact W.iret (v := x3_1) hx hb hr (fun t ht hW => ⟨⟨x3_1, (), rfl, trivial, y_3, c_n2_1, c_n3_1, (by first | with_reducible assumption | omega | assumption), (by first | with_reducible assumption | assumption | exact rng_zero (by omega) (by omega) | omega), by rw [ht]; exact hP, hD⟩, hS.F ht⟩) hS.2.2 dB_36_1_17.2.2.2.1
    · have t_2 : ¬ vn.toInt ≤ x4_1.toInt := fun h => c_2 (Int32.le_iff_toInt_le.mpr h)
      refine lv_aload_n hx hb dB_36_1_14.1.2.2.2 rfl (lv_at hl 2 rfl) ?_
      refine lv_iload hx hb dB_36_1_14.2.1.1.1 (lv_at hl 0 rfl) ?_
      refine ct_R hP hD [ob3_0_ xn vp vn n1 n2 n3 n4 n5, ai_ cy n2 40 c_n2_1] [0, 1] (by decide) rfl (fun hPc hDw => ?_)
      have hFc := va_free (wc := []) hD hS hA [] rfl
      refine va_calli (va_runV (As := [.int x4_1]) (rest := []) ⟨hx, hb, hml, hown, hts⟩ (c_X3_isMissing l D cy H.size xn n1 n2 n3 n4 n5 vp vn c_n2_1 x4_1 (by first | with_reducible assumption | omega | assumption)) (cwV 1 hts gX3_join_X3_isMissing rfl rfl rfl ⟨rfl, hd_X3_isMissing⟩ ⟨Nat.le_of_ble_eq_true rfl, Nat.le_of_ble_eq_true rfl⟩) ⟨bl_, va_recvX hK.1 hP (ci := 3) (q0 := 0) rfl rfl, fun U hU hW => ⟨rfl, by rw [hU], by rw [hU]; exact hPc, kk_mv hW hK, hDw⟩⟩ rfl rfl hl.1 rfl (lv_room (Nat.le_of_ble_eq_true rfl)) dB_36_1_14.2.1.1.2 ⟨Nat.le_of_ble_eq_true rfl, Nat.le_of_ble_eq_true rfl⟩) hS (fun q _ h => hFc q h) hFc (fun r_4 u t H locs ht hvm hw hB hz1 hk1 hS => ?_)
      have hP : va_P D vwCl _ H := ro_keep hP hk1
      rcases hw with ⟨w_5, e_⟩ | ⟨w_5, e_⟩
      · have e_ := e_.symm
        subst e_
        refine lv_if_ne (tgt := 99) hx hb dB_36_1_14.2.1.2.1 (by decide) (fun c_6 => ?_) (fun c_6 => ?_)
        · have _ := c_6
          obtain ⟨y_7, ey_7⟩ : ∃ y : Int32, y = x4_1 + 1 := ⟨_, rfl⟩
          have ty_7 : y_7.toInt = x4_1.toInt + (1 : Int32).toInt := by rw [ey_7]; exact addI (by omega) (by omega)
          refine lv_iinc (v := y_7) (lv' := [(4, .int y_7), (3, .int x3_1), (0, .ref xn), (1, .int a1), (2, .int a2)]) hx hb dB_36_1_17.1.2.1.2 hl (k := 0) rfl (by rw [ey_7]; rfl) (by decide) rfl (fun ls hl => ?_)
          refine lv_goto (tgt := 5) hx hb dB_36_1_17.1.2.2.1 (by decide) ?_
          exact ih_1 y_7 x3_1 c_n2_1 c_n3_1 _ _ _ (by omega) (by first | with_reducible assumption | omega | assumption) (by first | with_reducible assumption | omega | assumption) (by first | with_reducible assumption | assumption | omega) (by first | with_reducible assumption | omega | assumption) (by first | with_reducible assumption | omega | assumption) ⟨hP, hD⟩ hS (lv_sub hl [0, 1, 2, 3, 4] rfl)
        · exact absurd c_6 (by decide)
      · have e_ := e_.symm
        subst e_
        refine lv_if_ne (tgt := 99) hx hb dB_36_1_14.2.1.2.1 (by decide) (fun c_8 => ?_) (fun c_8 => ?_)
        · exact absurd c_8 (by decide)
        · have _ := c_8
          refine lv_aload_n hx hb dB_36_1_14.2.1.2.2 rfl (lv_at hl 2 rfl) ?_
          refine va_get (ci := 3) (v := .ref n2) (C := RX3) (T := TX3) (N := 7) hx hb hts (fun _ h => List.mem_cons_of_mem _ (List.mem_append_right _ h)) hown hK.1 hP 0 rfl rfl 3 (by decide) (hts (.fieldLink RX3 22 "CutAtlas$Net" "starts" "[I") (List.mem_of_getElem? (i := 2) rfl)) (fun _ h9 => h9) rfl dB_36_1_14.2.2.1.1 ?_
          refine lv_iload hx hb dB_36_1_14.2.2.1.2 (lv_at hl 0 rfl) ?_
          refine lv_aload_n hx hb dB_36_1_14.2.2.2.1 rfl (lv_at hl 2 rfl) ?_
          refine va_get (ci := 3) (v := .ref n2) (C := RX3) (T := TX3) (N := 7) hx hb hts (fun _ h => List.mem_cons_of_mem _ (List.mem_append_right _ h)) hown hK.1 hP 0 rfl rfl 3 (by decide) (hts (.fieldLink RX3 22 "CutAtlas$Net" "starts" "[I") (List.mem_of_getElem? (i := 2) rfl)) (fun _ h9 => h9) rfl dB_36_1_14.2.2.2.2 ?_
          refine lv_iload hx hb dB_36_1_15.1.1.1.1 (lv_at hl 0 rfl) ?_
          have h_9 : vp_in x4_1 40 := in_I (by omega) (by omega)
          refine va_iald hx hb hK.1 hP 1 0 rfl rfl (i := x4_1) h_9 dB_36_1_15.1.1.1.2 ?_
          refine lv_topi (fun y_10 ey_10 => ?_)
          have ry_10 := v2_1 _ (in_lt h_9)
          have jy_10 : y_10.toInt = (c_n2_1 x4_1.toNatClampNeg).toInt := by rw [ey_10]
          refine lv_iload_n hx hb dB_36_1_15.1.1.2.1 rfl (lv_at hl 3 rfl) ?_
          refine lv_iload_n hx hb dB_36_1_15.1.1.2.2 rfl (lv_at hl 4 rfl) ?_
          refine ct_R hP hD [] [] (by decide) rfl (fun hPc hDw => ?_)
          have hFc := va_free (wc := []) hD hS hA [] rfl
          refine va_calli (va_runS (As := [.int y_10, .int a1, .int a2]) (rest := [.int x4_1, .ref n2]) ⟨hx, hb, hml, hown, hts⟩ (c_X3_renumbered l D cy H.size y_10 a1 a2 (by first | with_reducible assumption | omega | assumption) (by first | with_reducible assumption | omega | assumption) (by first | with_reducible assumption | omega | assumption)) (va_cwS 3 hts gX3_join_X3_renumbered rfl rfl rfl hd_X3_renumbered ⟨Nat.le_of_ble_eq_true rfl, Nat.le_of_ble_eq_true rfl⟩) ⟨bl_, fun U hU hW => ⟨rfl, by rw [hU], by rw [hU]; exact hPc, kk_mv hW hK, hDw⟩⟩ rfl rfl hl.1 rfl (lv_room (Nat.le_of_ble_eq_true rfl)) dB_36_1_15.1.2.1.1 ⟨Nat.le_of_ble_eq_true rfl, Nat.le_of_ble_eq_true rfl⟩) hS (fun q _ h => hFc q h) hFc (fun r_11 u t H locs ht hvm hw hB hz1 hk1 hS => ?_)
          have hP : va_P D vwCl _ H := ro_keep hP hk1
          have f0_r_11 := hw
          have h_12 : vp_in x4_1 40 := in_I (by omega) (by omega)
          refine va_iast hx hb hK.1 hP hD hS 1 0 rfl rfl (i := x4_1) h_12 dB_36_1_15.1.2.1.2 (fun H locs hP hD hS => ?_)
          obtain ⟨f_13, ef_13⟩ : ∃ g : Nat → Int32, g = upd c_n2_1 x4_1.toNatClampNeg r_11 := ⟨_, rfl⟩
          refine pd_K (D := D) (cl := vwCl) (H := H) (A := A) [ob3_0_ xn vp vn n1 n2 n3 n4 n5, ai_ cy n2 40 f_13, ai_ cy n3 40 c_n3_1] (by rw [ef_13]; exact hP) (by rw [ef_13]; exact hD) (fun hP hD => ?_)
          refine lv_aload_n hx hb dB_36_1_15.1.2.2.1 rfl (lv_at hl 2 rfl) ?_
          refine va_get (ci := 3) (v := .ref n3) (C := RX3) (T := TX3) (N := 7) hx hb hts (fun _ h => List.mem_cons_of_mem _ (List.mem_append_right _ h)) hown hK.1 hP 0 rfl rfl 4 (by decide) (hts (.fieldLink RX3 25 "CutAtlas$Net" "ends" "[I") (List.mem_of_getElem? (i := 3) rfl)) (fun _ h9 => h9) rfl dB_36_1_15.1.2.2.2 ?_
          refine lv_iload hx hb dB_36_1_15.2.1.1.1 (lv_at hl 0 rfl) ?_
          refine lv_aload_n hx hb dB_36_1_15.2.1.1.2 rfl (lv_at hl 2 rfl) ?_
          refine va_get (ci := 3) (v := .ref n3) (C := RX3) (T := TX3) (N := 7) hx hb hts (fun _ h => List.mem_cons_of_mem _ (List.mem_append_right _ h)) hown hK.1 hP 0 rfl rfl 4 (by decide) (hts (.fieldLink RX3 25 "CutAtlas$Net" "ends" "[I") (List.mem_of_getElem? (i := 3) rfl)) (fun _ h9 => h9) rfl dB_36_1_15.2.1.2.1 ?_
          refine lv_iload hx hb dB_36_1_15.2.1.2.2 (lv_at hl 0 rfl) ?_
          have h_14 : vp_in x4_1 40 := in_I (by omega) (by omega)
          refine va_iald hx hb hK.1 hP 2 0 rfl rfl (i := x4_1) h_14 dB_36_1_15.2.2.1.1 ?_
          refine lv_topi (fun y_15 ey_15 => ?_)
          have ry_15 := v2_1 _ (in_lt h_14)
          have jy_15 : y_15.toInt = (c_n3_1 x4_1.toNatClampNeg).toInt := by rw [ey_15]
          refine lv_iload_n hx hb dB_36_1_15.2.2.1.2 rfl (lv_at hl 3 rfl) ?_
          refine lv_iload_n hx hb dB_36_1_15.2.2.2.1 rfl (lv_at hl 4 rfl) ?_
          refine ct_R hP hD [] [] (by decide) rfl (fun hPc hDw => ?_)
          have hFc := va_free (wc := []) hD hS hA [] rfl
          refine va_calli (va_runS (As := [.int y_15, .int a1, .int a2]) (rest := [.int x4_1, .ref n3]) ⟨hx, hb, hml, hown, hts⟩ (c_X3_renumbered l D cy H.size y_15 a1 a2 (by first | with_reducible assumption | omega | assumption) (by first | with_reducible assumption | omega | assumption) (by first | with_reducible assumption | omega | assumption)) (va_cwS 3 hts gX3_join_X3_renumbered rfl rfl rfl hd_X3_renumbered ⟨Nat.le_of_ble_eq_true rfl, Nat.le_of_ble_eq_true rfl⟩) ⟨bl_, fun U hU hW => ⟨rfl, by rw [hU], by rw [hU]; exact hPc, kk_mv hW hK, hDw⟩⟩ rfl rfl hl.1 rfl (lv_room (Nat.le_of_ble_eq_true rfl)) dB_36_1_15.2.2.2.2 ⟨Nat.le_of_ble_eq_true rfl, Nat.le_of_ble_eq_true rfl⟩) hS (fun q _ h => hFc q h) hFc (fun r_16 u t H locs ht hvm hw hB hz1 hk1 hS => ?_)
          have hP : va_P D vwCl _ H := ro_keep hP hk1
          have f0_r_16 := hw
          have h_17 : vp_in x4_1 40 := in_I (by omega) (by omega)
          refine va_iast hx hb hK.1 hP hD hS 2 0 rfl rfl (i := x4_1) h_17 dB_36_1_16.1.1.1.1 (fun H locs hP hD hS => ?_)
          obtain ⟨f_18, ef_18⟩ : ∃ g : Nat → Int32, g = upd c_n3_1 x4_1.toNatClampNeg r_16 := ⟨_, rfl⟩
          refine pd_K (D := D) (cl := vwCl) (H := H) (A := A) [ob3_0_ xn vp vn n1 n2 n3 n4 n5, ai_ cy n2 40 f_13, ai_ cy n3 40 f_18] (by rw [ef_18]; exact hP) (by rw [ef_18]; exact hD) (fun hP hD => ?_)
          have pr_19 : prng f_13 f_18 40 := prng_st (by assumption) (by assumption) (by assumption) (by omega)
          refine lv_aload_n hx hb dB_36_1_16.1.1.1.2 rfl (lv_at hl 2 rfl) ?_
          refine va_get (ci := 3) (v := .ref n2) (C := RX3) (T := TX3) (N := 7) hx hb hts (fun _ h => List.mem_cons_of_mem _ (List.mem_append_right _ h)) hown hK.1 hP 0 rfl rfl 3 (by decide) (hts (.fieldLink RX3 22 "CutAtlas$Net" "starts" "[I") (List.mem_of_getElem? (i := 2) rfl)) (fun _ h9 => h9) rfl dB_36_1_16.1.1.2.1 ?_
          refine lv_iload hx hb dB_36_1_16.1.1.2.2 (lv_at hl 0 rfl) ?_
          have h_20 : vp_in x4_1 40 := in_I (by omega) (by omega)
          refine va_iald hx hb hK.1 hP 1 0 rfl rfl (i := x4_1) h_20 dB_36_1_16.1.2.1.1 ?_
          refine lv_topi (fun y_21 ey_21 => ?_)
          have ry_21 := pr_19 _ (in_lt h_20)
          have jy_21 : y_21.toInt = (f_13 x4_1.toNatClampNeg).toInt := by rw [ey_21]
          refine lv_aload_n hx hb dB_36_1_16.1.2.1.2 rfl (lv_at hl 2 rfl) ?_
          refine va_get (ci := 3) (v := .ref n3) (C := RX3) (T := TX3) (N := 7) hx hb hts (fun _ h => List.mem_cons_of_mem _ (List.mem_append_right _ h)) hown hK.1 hP 0 rfl rfl 4 (by decide) (hts (.fieldLink RX3 25 "CutAtlas$Net" "ends" "[I") (List.mem_of_getElem? (i := 3) rfl)) (fun _ h9 => h9) rfl dB_36_1_16.1.2.2.1 ?_
          refine lv_iload hx hb dB_36_1_16.1.2.2.2 (lv_at hl 0 rfl) ?_
          have h_22 : vp_in x4_1 40 := in_I (by omega) (by omega)
          refine va_iald hx hb hK.1 hP 2 0 rfl rfl (i := x4_1) h_22 dB_36_1_16.2.1.1.1 ?_
          refine lv_topi (fun y_23 ey_23 => ?_)
          have ry_23 := pr_19 _ (in_lt h_22)
          have jy_23 : y_23.toInt = (f_18 x4_1.toNatClampNeg).toInt := by rw [ey_23]
          refine lv_icmp_ne (tgt := 99) hx hb dB_36_1_16.2.1.1.2 (by decide) (fun c_24 => ?_) (fun c_24 => ?_)
          · have t_24 : ¬ y_21.toInt = y_23.toInt := fun h => c_24 (Int32.toInt_inj.mp h)
            obtain ⟨y_25, ey_25⟩ : ∃ y : Int32, y = x4_1 + 1 := ⟨_, rfl⟩
            have ty_25 : y_25.toInt = x4_1.toInt + (1 : Int32).toInt := by rw [ey_25]; exact addI (by omega) (by omega)
            refine lv_iinc (v := y_25) (lv' := [(4, .int y_25), (3, .int x3_1), (0, .ref xn), (1, .int a1), (2, .int a2)]) hx hb dB_36_1_17.1.2.1.2 hl (k := 0) rfl (by rw [ey_25]; rfl) (by decide) rfl (fun ls hl => ?_)
            refine lv_goto (tgt := 5) hx hb dB_36_1_17.1.2.2.1 (by decide) ?_
            exact ih_1 y_25 x3_1 f_13 f_18 _ _ _ (by omega) (by first | with_reducible assumption | omega | assumption) (by first | with_reducible assumption | omega | assumption) (by first | with_reducible assumption | assumption | omega) (by first | with_reducible assumption | omega | assumption) (by first | with_reducible assumption | omega | assumption) ⟨hP, hD⟩ hS (lv_sub hl [0, 1, 2, 3, 4] rfl)
          · have t_24 : y_21.toInt = y_23.toInt := congrArg Int32.toInt c_24
            refine lv_aload_n hx hb dB_36_1_16.2.1.2.1 rfl (lv_at hl 2 rfl) ?_
            refine va_get (ci := 3) (v := .ref n2) (C := RX3) (T := TX3) (N := 7) hx hb hts (fun _ h => List.mem_cons_of_mem _ (List.mem_append_right _ h)) hown hK.1 hP 0 rfl rfl 3 (by decide) (hts (.fieldLink RX3 22 "CutAtlas$Net" "starts" "[I") (List.mem_of_getElem? (i := 2) rfl)) (fun _ h9 => h9) rfl dB_36_1_16.2.1.2.2 ?_
            refine lv_iload hx hb dB_36_1_16.2.2.1.1 (lv_at hl 0 rfl) ?_
            refine lv_bipush (v := (-9)) hx hb dB_36_1_16.2.2.1.2 (by decide) ?_
            have h_26 : vp_in x4_1 40 := in_I (by omega) (by omega)
            refine va_iast hx hb hK.1 hP hD hS 1 0 rfl rfl (i := x4_1) h_26 dB_36_1_16.2.2.2.1 (fun H locs hP hD hS => ?_)
            obtain ⟨f_27, ef_27⟩ : ∃ g : Nat → Int32, g = upd f_13 x4_1.toNatClampNeg ((-9) : Int32) := ⟨_, rfl⟩
            refine pd_K (D := D) (cl := vwCl) (H := H) (A := A) [ob3_0_ xn vp vn n1 n2 n3 n4 n5, ai_ cy n2 40 f_27, ai_ cy n3 40 f_18] (by rw [ef_27]; exact hP) (by rw [ef_27]; exact hD) (fun hP hD => ?_)
            refine lv_aload_n hx hb dB_36_1_16.2.2.2.2 rfl (lv_at hl 2 rfl) ?_
            refine va_get (ci := 3) (v := .ref n3) (C := RX3) (T := TX3) (N := 7) hx hb hts (fun _ h => List.mem_cons_of_mem _ (List.mem_append_right _ h)) hown hK.1 hP 0 rfl rfl 4 (by decide) (hts (.fieldLink RX3 25 "CutAtlas$Net" "ends" "[I") (List.mem_of_getElem? (i := 3) rfl)) (fun _ h9 => h9) rfl dB_36_1_17.1.1.1.1 ?_
            refine lv_iload hx hb dB_36_1_17.1.1.1.2 (lv_at hl 0 rfl) ?_
            refine lv_bipush (v := (-9)) hx hb dB_36_1_17.1.1.2.1 (by decide) ?_
            have h_28 : vp_in x4_1 40 := in_I (by omega) (by omega)
            refine va_iast hx hb hK.1 hP hD hS 2 0 rfl rfl (i := x4_1) h_28 dB_36_1_17.1.1.2.2 (fun H locs hP hD hS => ?_)
            obtain ⟨f_29, ef_29⟩ : ∃ g : Nat → Int32, g = upd f_18 x4_1.toNatClampNeg ((-9) : Int32) := ⟨_, rfl⟩
            refine pd_K (D := D) (cl := vwCl) (H := H) (A := A) [ob3_0_ xn vp vn n1 n2 n3 n4 n5, ai_ cy n2 40 f_27, ai_ cy n3 40 f_29] (by rw [ef_29]; exact hP) (by rw [ef_29]; exact hD) (fun hP hD => ?_)
            have pr_30 : prng f_27 f_29 40 := prng_st (by assumption) (by assumption) (by assumption) (by omega)
            obtain ⟨y_31, ey_31⟩ : ∃ y : Int32, y = x3_1 + 1 := ⟨_, rfl⟩
            have ty_31 : y_31.toInt = x3_1.toInt + (1 : Int32).toInt := by rw [ey_31]; exact addI (by omega) (by omega)
            refine lv_iinc (v := y_31) (lv' := [(3, .int y_31), (4, .int x4_1), (0, .ref xn), (1, .int a1), (2, .int a2)]) hx hb dB_36_1_17.1.2.1.1 hl (k := 1) rfl (by rw [ey_31]; rfl) (by decide) rfl (fun ls hl => ?_)
            obtain ⟨y_32, ey_32⟩ : ∃ y : Int32, y = x4_1 + 1 := ⟨_, rfl⟩
            have ty_32 : y_32.toInt = x4_1.toInt + (1 : Int32).toInt := by rw [ey_32]; exact addI (by omega) (by omega)
            refine lv_iinc (v := y_32) (lv' := [(4, .int y_32), (3, .int y_31), (0, .ref xn), (1, .int a1), (2, .int a2)]) hx hb dB_36_1_17.1.2.1.2 hl (k := 1) rfl (by rw [ey_32]; rfl) (by decide) rfl (fun ls hl => ?_)
            refine lv_goto (tgt := 5) hx hb dB_36_1_17.1.2.2.1 (by decide) ?_
            exact ih_1 y_32 y_31 f_27 f_29 _ _ _ (by omega) (by first | with_reducible assumption | omega | assumption) (by first | with_reducible assumption | omega | assumption) (by first | with_reducible assumption | assumption | omega) (by first | with_reducible assumption | omega | assumption) (by first | with_reducible assumption | omega | assumption) ⟨hP, hD⟩ hS (lv_sub hl [0, 1, 2, 3, 4] rfl)
end

section
theorem num_eq {f : Nat → Int64} {i : Int32} {n : Int} {y : Int64} (e : y = f i.toNatClampNeg) (h : i.toInt = n) : y = f n.toNat := by
  rw [e, ← h]
  rfl

set_option maxHeartbeats 4000000 in
set_option maxRecDepth 100000 in
theorem c_X4_isThere (l : Launch) (D : va_G) (cy : Nat → ClassId) (sz : Nat) (mm : Nat) (ml : Nat) (mu : Nat) (mk : Int32) (mr : Int32) : Met l yX4_isThere wsX4_isThere ({ frames := 0, cells := 0, slots := 0, locals := 0 }) (va_Pc [.ref mm] (fun U => U.heap.size = sz ∧ va_P D vwCl [ob4_0_ mm mk mr ml mu] U.heap ∧ kk_ D cy U ∧ va_D (fun _ => True) [ob4_0_ mm mk mr ml mu])) (va_Qi (fun (r : Int32) (_ : Unit) => ((mr.toInt ≠ -9) ∧ r = 1) ∨ ((mr.toInt = -9) ∧ r = 0)) (fun (_ : Unit) (_ : State) => True) (va_A [] sz)) 0 0 (va_A [] sz) := by
  refine ofQ (cc := cX4_isThere) (maxL := 1) (ret := (some .boolean)) (by decide) rfl ?_
  intro p e s m args below meth c s₁ Q hQ B hml hv
  obtain ⟨rfl, hsz, hP, hK, hD0⟩ := hv
  have hx := B.exec
  have hb := B.bytes
  have hr := B.returns
  have hts := atoms_spec (ws := wsX4_isThere) B.pre
  have hown : s.vm.findClass RX4 = some m.cls := by have h_ := findClass_of_methodNamed B.named; exact h_
  have hlocks := B.notSynchronized
  subst hsz
  have hD : va_D (va_A [] s.heap.size) [] := dd_nil
  generalize hAe : va_A [] s.heap.size = A at hD hQ
  have hA : ∀ q : Nat, s.heap.size ≤ q → A q := fun q h => by rw [← hAe]; exact Or.inr h
  have hS : va_S A s.heap s.heap [] := va_S.rf
  have hl := lv_entry ([.ref mm]) (n := 1) (Nat.le_of_ble_eq_true rfl)
  rw [lg_entry_eq]
  generalize (lg_sl ([.ref mm]) ++ List.replicate (1 - (lg_sl ([.ref mm])).length) Slot.unset).toArray = ls at hl ⊢
  have hl : lv_has ls 1 [(0, .ref mm)] := hl
  have zm9 : ((-9) : Int32).toInt = -9 := by decide
  have z0 : (0 : Int32).toInt = 0 := by decide
  have z1 : (1 : Int32).toInt = 1 := by decide
  refine lv_aload_n hx hb dB_36_1_23.1.2.1.1 rfl (lv_at hl 0 rfl) ?_
  refine va_get (ci := 4) (v := .int mr) (C := RX4) (T := TX4) (N := 4) hx hb hts (fun _ h => List.mem_cons_of_mem _ (List.mem_append_right _ h)) hown hK.1 hP 0 rfl rfl 1 (by decide) (hts (.fieldLink RX4 15 "CutAtlas$NumberMap" "rows" "I") (List.mem_of_getElem? (i := 1) rfl)) (fun _ h9 => h9) rfl dB_36_1_23.1.2.1.2 ?_
  refine lv_bipush (v := (-9)) hx hb dB_36_1_23.1.2.2.1 (by decide) ?_
  refine lv_icmp_eq (tgt := 13) hx hb dB_36_1_23.1.2.2.2 (by decide) (fun c_1 => ?_) (fun c_1 => ?_)
  · have t_1 : mr.toInt = ((-9) : Int32).toInt := congrArg Int32.toInt c_1
    refine lv_iconst (v := 0) hx hb dB_36_1_23.2.1.2.1 (by decide) ?_
    rw [hQ]
    exact W.zret (ty := .boolean) (v := 0) hx hb hr (by decide) (fun t ht hW => ⟨⟨0, (), rfl, Or.inr (⟨by omega, rfl⟩), trivial⟩, hS.F ht⟩) hS.2.2 dB_36_1_23.2.1.2.2
  · have t_1 : ¬ mr.toInt = ((-9) : Int32).toInt := fun h => c_1 (Int32.toInt_inj.mp h)
    refine lv_iconst (v := 1) hx hb dB_36_1_23.2.1.1.1 (by decide) ?_
    refine lv_goto (tgt := 14) hx hb dB_36_1_23.2.1.1.2 (by decide) ?_
    rw [hQ]
    exact W.zret (ty := .boolean) (v := 1) hx hb hr (by decide) (fun t ht hW => ⟨⟨1, (), rfl, Or.inl (⟨by omega, rfl⟩), trivial⟩, hS.F ht⟩) hS.2.2 dB_36_1_23.2.1.2.2

set_option maxHeartbeats 4000000 in
set_option maxRecDepth 100000 in
theorem c_X4_hasRow (l : Launch) (D : va_G) (cy : Nat → ClassId) (sz : Nat) (mm : Nat) (ml : Nat) (mu : Nat) (mk : Int32) (mr : Int32) (a1 : Int32) : Met l yX4_hasRow wsX4_hasRow ({ frames := 0, cells := 0, slots := 0, locals := 0 }) (va_Pc [.ref mm, .int a1] (fun U => U.heap.size = sz ∧ va_P D vwCl [ob4_0_ mm mk mr ml mu] U.heap ∧ kk_ D cy U ∧ va_D (fun _ => True) [ob4_0_ mm mk mr ml mu])) (va_Qi (fun (r : Int32) (_ : Unit) => ((0 ≤ a1.toInt ∧ a1.toInt < mr.toInt) ∧ r = 1) ∨ ((¬ (0 ≤ a1.toInt ∧ a1.toInt < mr.toInt)) ∧ r = 0)) (fun (_ : Unit) (_ : State) => True) (va_A [] sz)) 0 0 (va_A [] sz) := by
  refine ofQ (cc := cX4_hasRow) (maxL := 2) (ret := (some .boolean)) (by decide) rfl ?_
  intro p e s m args below meth c s₁ Q hQ B hml hv
  obtain ⟨rfl, hsz, hP, hK, hD0⟩ := hv
  have hx := B.exec
  have hb := B.bytes
  have hr := B.returns
  have hts := atoms_spec (ws := wsX4_hasRow) B.pre
  have hown : s.vm.findClass RX4 = some m.cls := by have h_ := findClass_of_methodNamed B.named; exact h_
  have hlocks := B.notSynchronized
  subst hsz
  have hD : va_D (va_A [] s.heap.size) [] := dd_nil
  generalize hAe : va_A [] s.heap.size = A at hD hQ
  have hA : ∀ q : Nat, s.heap.size ≤ q → A q := fun q h => by rw [← hAe]; exact Or.inr h
  have hS : va_S A s.heap s.heap [] := va_S.rf
  have hl := lv_entry ([.ref mm, .int a1]) (n := 2) (Nat.le_of_ble_eq_true rfl)
  rw [lg_entry_eq]
  generalize (lg_sl ([.ref mm, .int a1]) ++ List.replicate (2 - (lg_sl ([.ref mm, .int a1])).length) Slot.unset).toArray = ls at hl ⊢
  have hl : lv_has ls 2 [(0, .ref mm), (1, .int a1)] := hl
  have z0 : (0 : Int32).toInt = 0 := by decide
  have z1 : (1 : Int32).toInt = 1 := by decide
  refine lv_iload_n hx hb dB_36_1_23.2.2.1.1 rfl (lv_at hl 1 rfl) ?_
  refine lv_if_lt (tgt := 16) hx hb dB_36_1_23.2.2.1.2 (by decide) (fun c_1 => ?_) (fun c_1 => ?_)
  · have t_1 : a1.toInt < (0 : Int32).toInt := Int32.lt_iff_toInt_lt.mp c_1
    refine lv_iconst (v := 0) hx hb dB_36_1_24.1.2.1.1 (by decide) ?_
    rw [hQ]
    exact W.zret (ty := .boolean) (v := 0) hx hb hr (by decide) (fun t ht hW => ⟨⟨0, (), rfl, Or.inr (⟨by omega, rfl⟩), trivial⟩, hS.F ht⟩) hS.2.2 dB_36_1_24.1.2.1.2
  · have t_1 : ¬ a1.toInt < (0 : Int32).toInt := fun h => c_1 (Int32.lt_iff_toInt_lt.mpr h)
    refine lv_iload_n hx hb dB_36_1_23.2.2.2.1 rfl (lv_at hl 1 rfl) ?_
    refine lv_aload_n hx hb dB_36_1_23.2.2.2.2 rfl (lv_at hl 0 rfl) ?_
    refine va_get (ci := 4) (v := .int mr) (C := RX4) (T := TX4) (N := 4) hx hb hts (fun _ h => List.mem_cons_of_mem _ (List.mem_append_right _ h)) hown hK.1 hP 0 rfl rfl 1 (by decide) (hts (.fieldLink RX4 15 "CutAtlas$NumberMap" "rows" "I") (List.mem_of_getElem? (i := 1) rfl)) (fun _ h9 => h9) rfl dB_36_1_24.1.1.1.1 ?_
    refine lv_icmp_ge (tgt := 16) hx hb dB_36_1_24.1.1.1.2 (by decide) (fun c_2 => ?_) (fun c_2 => ?_)
    · have t_2 : mr.toInt ≤ a1.toInt := Int32.le_iff_toInt_le.mp c_2
      refine lv_iconst (v := 0) hx hb dB_36_1_24.1.2.1.1 (by decide) ?_
      rw [hQ]
      exact W.zret (ty := .boolean) (v := 0) hx hb hr (by decide) (fun t ht hW => ⟨⟨0, (), rfl, Or.inr (⟨by omega, rfl⟩), trivial⟩, hS.F ht⟩) hS.2.2 dB_36_1_24.1.2.1.2
    · have t_2 : ¬ mr.toInt ≤ a1.toInt := fun h => c_2 (Int32.le_iff_toInt_le.mpr h)
      refine lv_iconst (v := 1) hx hb dB_36_1_24.1.1.2.1 (by decide) ?_
      refine lv_goto (tgt := 17) hx hb dB_36_1_24.1.1.2.2 (by decide) ?_
      rw [hQ]
      exact W.zret (ty := .boolean) (v := 1) hx hb hr (by decide) (fun t ht hW => ⟨⟨1, (), rfl, Or.inl (⟨by omega, rfl⟩), trivial⟩, hS.F ht⟩) hS.2.2 dB_36_1_24.1.2.1.2

set_option maxHeartbeats 4000000 in
set_option maxRecDepth 100000 in
theorem c_X4_number (l : Launch) (D : va_G) (cy : Nat → ClassId) (sz : Nat) (mm : Nat) (ml : Nat) (mu : Nat) (mk : Int32) (mr : Int32) (fn : Nat → Int64) (a1 : Int32) (a2 : Int32) (q1 : 0 ≤ a1.toInt ∧ a1.toInt ≤ 5) (q2 : 0 ≤ a2.toInt ∧ a2.toInt ≤ 4) : Met l yX4_number wsX4_number ({ frames := 0, cells := 0, slots := 0, locals := 0 }) (va_Pc [.ref mm, .int a1, .int a2] (fun U => U.heap.size = sz ∧ va_P D vwCl [ob4_0_ mm mk mr ml mu, aj_ cy mu 30 fn] U.heap ∧ kk_ D cy U ∧ va_D (fun _ => True) [ob4_0_ mm mk mr ml mu, aj_ cy mu 30 fn])) (va_Ql (fun (r : Int64) (_ : Unit) => (r = fn (5 * a1.toInt + a2.toInt).toNat)) (fun (_ : Unit) (_ : State) => True) (va_A [] sz)) 0 0 (va_A [] sz) := by
  refine ofQ (cc := cX4_number) (maxL := 3) (ret := (some .long)) (by decide) rfl ?_
  intro p e s m args below meth c s₁ Q hQ B hml hv
  obtain ⟨rfl, hsz, hP, hK, hD0⟩ := hv
  have hx := B.exec
  have hb := B.bytes
  have hr := B.returns
  have hts := atoms_spec (ws := wsX4_number) B.pre
  have hown : s.vm.findClass RX4 = some m.cls := by have h_ := findClass_of_methodNamed B.named; exact h_
  have hlocks := B.notSynchronized
  subst hsz
  have hD : va_D (va_A [] s.heap.size) [] := dd_nil
  generalize hAe : va_A [] s.heap.size = A at hD hQ
  have hA : ∀ q : Nat, s.heap.size ≤ q → A q := fun q h => by rw [← hAe]; exact Or.inr h
  have hS : va_S A s.heap s.heap [] := va_S.rf
  have hl := lv_entry ([.ref mm, .int a1, .int a2]) (n := 3) (Nat.le_of_ble_eq_true rfl)
  rw [lg_entry_eq]
  generalize (lg_sl ([.ref mm, .int a1, .int a2]) ++ List.replicate (3 - (lg_sl ([.ref mm, .int a1, .int a2])).length) Slot.unset).toArray = ls at hl ⊢
  have hl : lv_has ls 3 [(0, .ref mm), (1, .int a1), (2, .int a2)] := hl
  have z5 : (5 : Int32).toInt = 5 := by decide
  refine lv_aload_n hx hb dB_36_1_28.1.2.1.1 rfl (lv_at hl 0 rfl) ?_
  refine va_get (ci := 4) (v := .ref mu) (C := RX4) (T := TX4) (N := 4) hx hb hts (fun _ h => List.mem_cons_of_mem _ (List.mem_append_right _ h)) hown hK.1 hP 0 rfl rfl 3 (by decide) (hts (.fieldLink RX4 22 "CutAtlas$NumberMap" "numbers" "[J") (List.mem_of_getElem? (i := 1) rfl)) (fun _ h9 => h9) rfl dB_36_1_28.1.2.1.2 ?_
  refine lv_iload_n hx hb dB_36_1_28.1.2.2.1 rfl (lv_at hl 1 rfl) ?_
  refine lv_iconst (v := 5) hx hb dB_36_1_28.1.2.2.2 (by decide) ?_
  refine lv_imul hx hb dB_36_1_28.2.1.1.1 ?_
  refine lv_topi (fun y_1 ey_1 => ?_)
  have ty_1 : y_1.toInt = 5 * a1.toInt := by rw [ey_1]; exact mulD (by decide) (by omega) (by omega)
  refine lv_iload_n hx hb dB_36_1_28.2.1.1.2 rfl (lv_at hl 2 rfl) ?_
  refine lv_iadd hx hb dB_36_1_28.2.1.2.1 ?_
  refine lv_topi (fun y_2 ey_2 => ?_)
  have ty_2 : y_2.toInt = y_1.toInt + a2.toInt := by rw [ey_2]; exact addI (by omega) (by omega)
  have h_3 : vp_in y_2 30 := in_I (by omega) (by omega)
  refine va_lald hx hb hK.1 hP 1 1 rfl rfl (i := y_2) h_3 dB_36_1_28.2.1.2.2 ?_
  refine lv_topl (fun y_4 ey_4 => ?_)
  rw [hQ]
  exact W.lret (v := y_4) hx hb hr (fun t ht hW => ⟨⟨y_4, (), rfl, (num_eq (by assumption) (by omega)), trivial⟩, hS.F ht⟩) hS.2.2 dB_36_1_28.2.2.1.1
end

section
/-- what line j lets more out of s -/
noncomputable def outI (f5 f6 f7 f8 f10 f22 : Nat → Int32) (s : Int) (j : Nat) : Int := if (f10 j).toInt ≠ 0 then 0 else if (f6 j).toInt = s then rmI (f5 j) (f8 j) 1 - (f22 j).toInt else if (f7 j).toInt = s then rmI (f5 j) (f8 j) 0 + (f22 j).toInt else 0
noncomputable def phi (f5 f6 f7 f8 f10 f22 : Nat → Int32) (s : Int) (n : Nat) : Int := sumI (outI f5 f6 f7 f8 f10 f22 s) n
theorem sumI_nonneg {g : Nat → Int} : ∀ n : Nat, (∀ j : Nat, j < n → 0 ≤ g j) → 0 ≤ sumI g n
  | 0, _ => Int.le_refl 0
  | n + 1, h => by
    have a := sumI_nonneg n (fun j hj => h j (by omega))
    have b := h n (by omega)
    show 0 ≤ sumI g n + g n
    omega
theorem sumI_congr {g h : Nat → Int} : ∀ n : Nat, (∀ j : Nat, j < n → g j = h j) → sumI g n = sumI h n
  | 0, _ => rfl
  | n + 1, e => by
    show sumI g n + g n = sumI h n + h n
    rw [sumI_congr n (fun j hj => e j (by omega)), e n (by omega)]
theorem sumI_one {g h : Nat → Int} {k : Nat} {d : Int} (ho : ∀ j : Nat, j ≠ k → h j = g j) (hk : h k = g k - d) : ∀ n : Nat, k < n → sumI h n = sumI g n - d
  | 0, hn => absurd hn (Nat.not_lt_zero _)
  | n + 1, hn => by
    show sumI h n + h n = sumI g n + g n - d
    by_cases e : k = n
    · subst e
      rw [sumI_congr k (fun j hj => ho j (by omega)), hk]
      omega
    · rw [sumI_one ho hk n (by omega), ho n (fun e9 => e e9.symm)]
      omega
theorem sumI_le0 {g : Nat → Int} : ∀ n : Nat, (∀ j : Nat, j < n → g j ≤ 0) → sumI g n ≤ 0
  | 0, _ => Int.le_refl 0
  | n + 1, h => by
    have a := sumI_le0 n (fun j hj => h j (by omega))
    have b := h n (by omega)
    show sumI g n + g n ≤ 0
    omega
theorem flOK_zero {f5 f8 f22 : Nat → Int32} (hr : rng f8 40 0 2000) (h : ∀ j : Nat, (j : Int) < 40 → (f22 j).toInt = 0) : flOK f5 f8 f22 := fun j hj => by
  have b := hr j hj
  have c1 := rmI_rng (k := f5 j) (b := 1) b.1 b.2
  have c0 := rmI_rng (k := f5 j) (b := 0) b.1 b.2
  have e := h j (by omega)
  omega
theorem zero_st {f f2 : Nat → Int32} {i i2 : Int32} (e : f2 = upd f i.toNatClampNeg 0) (h : ∀ j : Nat, (j : Int) < i.toInt → (f j).toInt = 0) (hi : 0 ≤ i.toInt) (ei : i2.toInt = i.toInt + 1) : ∀ j : Nat, (j : Int) < i2.toInt → (f2 j).toInt = 0 := fun j hj => by
  have c := clI (i := i) hi
  rw [e]
  by_cases ej : j = i.toNatClampNeg
  · rw [ej, pk_us]
    decide
  · rw [pk_un ej]
    exact h j (by omega)
theorem phi_nonneg {f5 f6 f7 f8 f10 f22 : Nat → Int32} {s : Int} {n : Nat} (h : flOK f5 f8 f22) (hr : rng f8 40 0 2000) (hn : n ≤ 40) : 0 ≤ phi f5 f6 f7 f8 f10 f22 s n := sumI_nonneg n (fun j hj => by
  have a := h j (by omega)
  have b := hr j (by omega)
  have c1 := rmI_rng (k := f5 j) (b := 1) b.1 b.2
  have c0 := rmI_rng (k := f5 j) (b := 0) b.1 b.2
  unfold outI
  (repeat' split) <;> omega)
theorem phi_same {f5 f6 f7 f8 f10 a b : Nat → Int32} {s : Int} {n : Nat} (h : ∀ j : Nat, ((f6 j).toInt = s ∨ (f7 j).toInt = s) → a j = b j) : phi f5 f6 f7 f8 f10 a s n = phi f5 f6 f7 f8 f10 b s n := sumI_congr n (fun j _ => by
  unfold outI
  by_cases h1 : (f6 j).toInt = s
  · rw [h j (Or.inl h1)]
  · by_cases h2 : (f7 j).toInt = s
    · rw [h j (Or.inr h2)]
    · simp only [h1, h2, if_false])
/-- one line carries n more from x to y -/
theorem stepL {f5 f6 f7 f8 f10 F F2 : Nat → Int32} {l v : Int32} {n x y s : Int} {N : Nat} (e : F2 = upd F l.toNatClampNeg v) (hl0 : 0 ≤ l.toInt) (hl : l.toInt < N) (hN : N ≤ 40) (hok : flOK f5 f8 F) (hr : rng f8 40 0 2000) (hn0 : 0 ≤ n) (hn : n ≤ lfI f5 f6 f7 f8 f10 F x y l.toNatClampNeg)
    (hv : v.toInt = (F l.toNatClampNeg).toInt + (if (f10 l.toNatClampNeg).toInt ≠ 0 then 0 else if (f6 l.toNatClampNeg).toInt = x ∧ (f7 l.toNatClampNeg).toInt = y then n else if (f6 l.toNatClampNeg).toInt = y ∧ (f7 l.toNatClampNeg).toInt = x then -n else 0)) (hy : y ≠ s) :
    flOK f5 f8 F2 ∧ (x = s → phi f5 f6 f7 f8 f10 F2 s N = phi f5 f6 f7 f8 f10 F s N - n) ∧ (x ≠ s → ∀ j : Nat, ((f6 j).toInt = s ∨ (f7 j).toInt = s) → F2 j = F j) ∧ (n = 0 → ∀ j : Nat, F2 j = F j) := by
  have c := clI (i := l) hl0
  have hk : l.toNatClampNeg < 40 := by omega
  have a := hok _ hk
  have b := hr _ hk
  have c1 := rmI_rng (k := f5 l.toNatClampNeg) (b := 1) b.1 b.2
  have c0 := rmI_rng (k := f5 l.toNatClampNeg) (b := 0) b.1 b.2
  have ek : F2 l.toNatClampNeg = v := by rw [e]; exact pk_us
  have eo : ∀ j : Nat, j ≠ l.toNatClampNeg → F2 j = F j := fun j hj => by rw [e]; exact pk_un hj
  unfold lfI at hn
  refine ⟨fun j hj => ?_, fun hx => ?_, fun hx j hj => ?_, fun h0 j => ?_⟩
  · by_cases ej : j = l.toNatClampNeg
    · rw [ej, ek]
      split at hn
      · rw [if_pos (by assumption)] at hv
        omega
      · rw [if_neg (by assumption)] at hv
        split at hn
        · rw [if_pos (by assumption)] at hv
          omega
        · rw [if_neg (by assumption)] at hv
          split at hn
          · rw [if_pos (by assumption)] at hv
            omega
          · rw [if_neg (by assumption)] at hv
            omega
    · rw [eo j ej]
      exact hok j hj
  · refine sumI_one (k := l.toNatClampNeg) (fun j hj => ?_) ?_ N (by omega)
    · unfold outI
      rw [eo j hj]
    · unfold outI
      rw [ek]
      subst hx
      split at hn
      · rename_i q0
        rw [if_pos q0] at hv
        rw [if_pos q0, if_pos q0]
        omega
      · rename_i q0
        rw [if_neg q0] at hv
        rw [if_neg q0, if_neg q0]
        split at hn
        · rename_i q2
          rw [if_pos q2] at hv
          rw [if_pos q2.1, if_pos q2.1]
          omega
        · rename_i q2
          rw [if_neg q2] at hv
          split at hn
          · rename_i q3
            rw [if_pos q3] at hv
            have n6 : ¬ (f6 l.toNatClampNeg).toInt = x := fun h => by
              have := q3.1
              omega
            rw [if_neg n6, if_neg n6, if_pos q3.2, if_pos q3.2]
            omega
          · rename_i q3
            rw [if_neg q3] at hv
            rw [show v.toInt = (F l.toNatClampNeg).toInt by omega]
            omega
  · by_cases ej : j = l.toNatClampNeg
    · subst ej
      rw [ek]
      refine Int32.toInt_inj.mp ?_
      rw [hv]
      split at hn
      · rw [if_pos (by assumption)]
        omega
      · rw [if_neg (by assumption)]
        split at hn
        · omega
        · rw [if_neg (by assumption)]
          split at hn
          · omega
          · rw [if_neg (by assumption)]
            omega
    · exact eo j ej
  · by_cases ej : j = l.toNatClampNeg
    · subst ej
      rw [ek]
      refine Int32.toInt_inj.mp ?_
      rw [hv, h0]
      (repeat' split) <;> omega
    · exact eo j ej
theorem lfI_same {f5 f6 f7 f8 f10 a b : Nat → Int32} {x y : Int} {j : Nat} (h : (f6 j).toInt = x ∨ (f7 j).toInt = x → a j = b j) : lfI f5 f6 f7 f8 f10 a x y j = lfI f5 f6 f7 f8 f10 b x y j := by
  unfold lfI
  by_cases h1 : (f6 j).toInt = x
  · rw [h (Or.inl h1)]
  · by_cases h2 : (f7 j).toInt = x
    · rw [h (Or.inr h2)]
    · simp only [h1, h2, false_and, and_false, if_false]
end

section
theorem sixL {g : Nat → Int} {l l2 : Int32} (h : ∀ j : Nat, (j : Int) < l.toInt → g j ≤ 0) (h0 : 0 ≤ l.toInt) (e : l2.toInt = l.toInt + 1) (hg : g l.toNatClampNeg ≤ 0) : ∀ j : Nat, (j : Int) < l2.toInt → g j ≤ 0 := fun j hj => by
  have c := clI (i := l) h0
  by_cases q : (j : Int) < l.toInt
  · exact h j q
  · obtain rfl : j = l.toNatClampNeg := by omega
    exact hg
theorem endL {f5 f6 f7 f8 f10 F c0 c : Nat → Int32} {l n : Int32} {x y s r m : Int} (h6 : r = m → (∀ j : Nat, (j : Int) < l.toInt → lfI f5 f6 f7 f8 f10 c0 x y j ≤ 0) ∧ ∀ j : Nat, F j = c0 j) (hl : n.toInt ≤ l.toInt) (hn : 0 ≤ n.toInt) (hs : 0 < sumI (lfI f5 f6 f7 f8 f10 c x y) n.toNatClampNeg) (hc : ∀ j : Nat, ((f6 j).toInt = s ∨ (f7 j).toInt = s) → c0 j = c j) (hx : x = s) (hle : r ≤ m) : r < m := by
  rcases Int.lt_or_le r m with q | q
  · exact q
  · have a := h6 (by omega)
    have e := clI (i := n) hn
    have b := sumI_le0 (g := lfI f5 f6 f7 f8 f10 c x y) n.toNatClampNeg (fun j hj => by
      have d := a.1 j (by omega)
      rw [lfI_same (a := c0) (b := c) (fun h => hc j (by rw [← hx]; exact h))] at d
      exact d)
    omega

set_option maxHeartbeats 4000000 in
set_option maxRecDepth 100000 in
theorem c_X12_flowOf (l : Launch) (D : va_G) (cy : Nat → ClassId) (sz : Nat) (mo : Nat) (g5 : Nat) (g6 : Nat) (g7 : Nat) (g8 : Nat) (g9 : Nat) (g10 : Nat) (g12 : Nat) (g13 : Nat) (g14 : Nat) (g15 : Nat) (g16 : Nat) (g17 : Nat) (g18 : Nat) (g19 : Nat) (g20 : Nat) (g22 : Nat) (g23 : Nat) (g24 : Nat) (g29 : Nat) (g30 : Nat) (g31 : Nat) (g32 : Nat) (g33 : Nat) (s0 : Int32) (s1 : Int32) (s3 : Int32) (s4 : Int32) (s11 : Int32) (s21 : Int32) (s25 : Int32) (s26 : Int32) (s27 : Int32) (s28 : Int32) (t2 : Int64) (f5 : Nat → Int32) (f6 : Nat → Int32) (f7 : Nat → Int32) (f8 : Nat → Int32) (f10 : Nat → Int32) (f22 : Nat → Int32) (f23 : Nat → Int32) (f24 : Nat → Int32) (a1 : Int32) (a2 : Int32) (hN : 0 ≤ s4.toInt ∧ s4.toInt ≤ 40) (hPl : 0 ≤ s3.toInt ∧ s3.toInt ≤ 12) (h21 : s21.toInt = -9) (q1 : 0 ≤ a1.toInt ∧ a1.toInt < s3.toInt) (q2 : 0 ≤ a2.toInt ∧ a2.toInt < s3.toInt) (qd : a1.toInt ≠ a2.toInt) (r_f8 : rng f8 40 (0) (2000)) (r_f23 : rng f23 12 (0) (11)) (r_f24 : rng f24 12 (0) (11)) : Met l yX12_flowOf wsX12_flowOf ({ frames := 5, cells := 0, slots := 0, locals := 118 }) (va_Pc [.ref mo, .int a1, .int a2] (fun U => U.heap.size = sz ∧ va_P D vwCl [ob12_0_ mo s0 s1 t2 s3 s4 g5 g6 g7 g8 g9 g10 s11 g12 g13 g14 g15 g16 g17 g18 g19 g20 s21 g22 g23 g24 s25 s26 s27 s28 g29 g30 g31 g32 g33, ai_ cy g5 40 f5, ai_ cy g6 40 f6, ai_ cy g7 40 f7, ai_ cy g8 40 f8, az_ cy g10 40 f10, ai_ cy g22 40 f22, ai_ cy g23 12 f23, ai_ cy g24 12 f24] U.heap ∧ kk_ D cy U ∧ va_D (fun _ => True) [ob12_0_ mo s0 s1 t2 s3 s4 g5 g6 g7 g8 g9 g10 s11 g12 g13 g14 g15 g16 g17 g18 g19 g20 s21 g22 g23 g24 s25 s26 s27 s28 g29 g30 g31 g32 g33, ai_ cy g5 40 f5, ai_ cy g6 40 f6, ai_ cy g7 40 f7, ai_ cy g8 40 f8, az_ cy g10 40 f10, ai_ cy g22 40 f22, ai_ cy g23 12 f23, ai_ cy g24 12 f24])) (va_Qv (fun (_ : Unit) => True) (fun (_ : Unit) (t : State) => ∃ (e22 : Nat → Int32), ∃ (e23 : Nat → Int32), ∃ (e24 : Nat → Int32), (rng e23 12 (0) (11)) ∧ (rng e24 12 (0) (11)) ∧ va_P D vwCl [ob12_0_ mo s0 s1 t2 s3 s4 g5 g6 g7 g8 g9 g10 s11 g12 g13 g14 g15 g16 g17 g18 g19 g20 s21 g22 g23 g24 s25 s26 s27 s28 g29 g30 g31 g32 g33, ai_ cy g5 40 f5, ai_ cy g6 40 f6, ai_ cy g7 40 f7, ai_ cy g8 40 f8, az_ cy g10 40 f10, ai_ cy g22 40 e22, ai_ cy g23 12 e23, ai_ cy g24 12 e24] t.heap ∧ va_D (va_A [ob12_0_ mo s0 s1 t2 s3 s4 g5 g6 g7 g8 g9 g10 s11 g12 g13 g14 g15 g16 g17 g18 g19 g20 s21 g22 g23 g24 s25 s26 s27 s28 g29 g30 g31 g32 g33, ai_ cy g5 40 f5, ai_ cy g6 40 f6, ai_ cy g7 40 f7, ai_ cy g8 40 f8, az_ cy g10 40 f10, ai_ cy g22 40 f22, ai_ cy g23 12 f23, ai_ cy g24 12 f24] sz) [ob12_0_ mo s0 s1 t2 s3 s4 g5 g6 g7 g8 g9 g10 s11 g12 g13 g14 g15 g16 g17 g18 g19 g20 s21 g22 g23 g24 s25 s26 s27 s28 g29 g30 g31 g32 g33, ai_ cy g5 40 f5, ai_ cy g6 40 f6, ai_ cy g7 40 f7, ai_ cy g8 40 f8, az_ cy g10 40 f10, ai_ cy g22 40 e22, ai_ cy g23 12 e23, ai_ cy g24 12 e24]) (va_A [ob12_0_ mo s0 s1 t2 s3 s4 g5 g6 g7 g8 g9 g10 s11 g12 g13 g14 g15 g16 g17 g18 g19 g20 s21 g22 g23 g24 s25 s26 s27 s28 g29 g30 g31 g32 g33, ai_ cy g5 40 f5, ai_ cy g6 40 f6, ai_ cy g7 40 f7, ai_ cy g8 40 f8, az_ cy g10 40 f10, ai_ cy g22 40 f22, ai_ cy g23 12 f23, ai_ cy g24 12 f24] sz)) 0 0 (va_A [ob12_0_ mo s0 s1 t2 s3 s4 g5 g6 g7 g8 g9 g10 s11 g12 g13 g14 g15 g16 g17 g18 g19 g20 s21 g22 g23 g24 s25 s26 s27 s28 g29 g30 g31 g32 g33, ai_ cy g5 40 f5, ai_ cy g6 40 f6, ai_ cy g7 40 f7, ai_ cy g8 40 f8, az_ cy g10 40 f10, ai_ cy g22 40 f22, ai_ cy g23 12 f23, ai_ cy g24 12 f24] sz) := by
  refine ofQ (cc := cX12_flowOf) (maxL := 9) (ret := none) (by decide) rfl ?_
  intro p e s m args below meth c s₁ Q hQ B hml hv
  obtain ⟨rfl, hsz, hP, hK, hD0⟩ := hv
  have hx := B.exec
  have hb := B.bytes
  have hr := B.returns
  have hts := atoms_spec (ws := wsX12_flowOf) B.pre
  have hown : s.vm.findClass RX12 = some m.cls := by have h_ := findClass_of_methodNamed B.named; exact h_
  have hlocks := B.notSynchronized
  subst hsz
  have hD := hD0.self (sz := s.heap.size)
  generalize hAe : va_A [ob12_0_ mo s0 s1 t2 s3 s4 g5 g6 g7 g8 g9 g10 s11 g12 g13 g14 g15 g16 g17 g18 g19 g20 s21 g22 g23 g24 s25 s26 s27 s28 g29 g30 g31 g32 g33, ai_ cy g5 40 f5, ai_ cy g6 40 f6, ai_ cy g7 40 f7, ai_ cy g8 40 f8, az_ cy g10 40 f10, ai_ cy g22 40 f22, ai_ cy g23 12 f23, ai_ cy g24 12 f24] s.heap.size = A at hD hQ
  have hA : ∀ q : Nat, s.heap.size ≤ q → A q := fun q h => by rw [← hAe]; exact Or.inr h
  have hS : va_S A s.heap s.heap [] := va_S.rf
  have hl := lv_entry ([.ref mo, .int a1, .int a2]) (n := 9) (Nat.le_of_ble_eq_true rfl)
  rw [lg_entry_eq]
  generalize (lg_sl ([.ref mo, .int a1, .int a2]) ++ List.replicate (9 - (lg_sl ([.ref mo, .int a1, .int a2])).length) Slot.unset).toArray = ls at hl ⊢
  have hl : lv_has ls 9 [(0, .ref mo), (1, .int a1), (2, .int a2)] := hl
  have z0 : (0 : Int32).toInt = 0 := by decide
  have z1 : (1 : Int32).toInt = 1 := by decide
  have z40 : (40 : Int32).toInt = 40 := by decide
  have z2147483647 : (2147483647 : Int32).toInt = 2147483647 := by decide
  have cN := clI (i := s4) (by omega)
  refine lv_iconst (v := 0) hx hb dB_3_1_26.2.2.2.2 (by decide) ?_
  refine lv_istore_n (lv' := [(3, .int 0), (0, .ref mo), (1, .int a1), (2, .int a2)]) hx hb dB_3_1_27.1.1.1.1 rfl hl (by decide) rfl (fun ls hl => ?_)
  suffices LOOP_1 : ∀ (n_1 : Nat) (x3_1 : Int32) (c_g22_1 : Nat → Int32) (H : Heap) (locs : List Loc) (ls : Array Slot), 40 - x3_1.toInt < (n_1 : Int) → (0 ≤ x3_1.toInt) → (x3_1.toInt ≤ 40) → (∀ j : Nat, (j : Int) < x3_1.toInt → (c_g22_1 j).toInt = 0) → pd_2 D vwCl A [ob12_0_ mo s0 s1 t2 s3 s4 g5 g6 g7 g8 g9 g10 s11 g12 g13 g14 g15 g16 g17 g18 g19 g20 s21 g22 g23 g24 s25 s26 s27 s28 g29 g30 g31 g32 g33, ai_ cy g5 40 f5, ai_ cy g6 40 f6, ai_ cy g7 40 f7, ai_ cy g8 40 f8, az_ cy g10 40 f10, ai_ cy g22 40 c_g22_1, ai_ cy g23 12 f23, ai_ cy g24 12 f24] H → va_S A s.heap H locs → lv_has ls 9 [(3, .int x3_1), (0, .ref mo), (1, .int a1), (2, .int a2)] → W p l e ({ frames := 5, cells := 0, slots := 0, locals := 118 } : Room) s m (([.ref mo, .int a1, .int a2] : List Value).toArray) below meth c H locs 0 0 Q (F0 m 2 ls []) from LOOP_1 ((40 - (0 : Int32).toInt).toNat + 1) (0 : Int32) f22 _ _ _ (by omega) (by first | with_reducible assumption | omega | assumption) (by first | with_reducible assumption | omega | assumption) (by first | exact zero_st (by assumption) (by assumption) (by omega) (by omega) | (intro j hj; omega)) ⟨hP, hD⟩ hS (lv_sub hl [0, 1, 2, 3] rfl)
  intro n_1
  induction n_1 with
  | zero =>
    intro x3_1 c_g22_1 H locs ls hm v0_1 v1_1 v2_1 hPD hS hl; obtain ⟨hP, hD⟩ := hPD
    exact absurd hm (by omega)
  | succ n_1 ih_1 =>
    intro x3_1 c_g22_1 H locs ls hm v0_1 v1_1 v2_1 hPD hS hl; obtain ⟨hP, hD⟩ := hPD
    refine lv_iload_n hx hb dB_3_1_27.1.1.1.2 rfl (lv_at hl 0 rfl) ?_
    refine lv_bipush (v := 40) hx hb dB_3_1_27.1.1.2.1 (by decide) ?_
    refine lv_icmp_ge (tgt := 21) hx hb dB_3_1_27.1.1.2.2 (by decide) (fun c_2 => ?_) (fun c_2 => ?_)
    · have t_2 : (40 : Int32).toInt ≤ x3_1.toInt := Int32.le_iff_toInt_le.mp c_2
      have hz_ : flOK f5 f8 c_g22_1 := flOK_zero r_f8 (fun j hj => v2_1 j (by omega))
      suffices LOOP_3 : ∀ (n_3 : Nat) (c_g22_3 : Nat → Int32) (c_g23_3 : Nat → Int32) (c_g24_3 : Nat → Int32) (H : Heap) (locs : List Loc) (ls : Array Slot), phi f5 f6 f7 f8 f10 c_g22_3 a1.toInt s4.toNatClampNeg < (n_3 : Int) → (flOK f5 f8 c_g22_3) → (0 ≤ phi f5 f6 f7 f8 f10 c_g22_3 a1.toInt s4.toNatClampNeg) → (rng c_g23_3 12 (0) (11)) → (rng c_g24_3 12 (0) (11)) → pd_2 D vwCl A [ob12_0_ mo s0 s1 t2 s3 s4 g5 g6 g7 g8 g9 g10 s11 g12 g13 g14 g15 g16 g17 g18 g19 g20 s21 g22 g23 g24 s25 s26 s27 s28 g29 g30 g31 g32 g33, ai_ cy g5 40 f5, ai_ cy g6 40 f6, ai_ cy g7 40 f7, ai_ cy g8 40 f8, az_ cy g10 40 f10, ai_ cy g22 40 c_g22_3, ai_ cy g23 12 c_g23_3, ai_ cy g24 12 c_g24_3] H → va_S A s.heap H locs → lv_has ls 9 [(0, .ref mo), (1, .int a1), (2, .int a2)] → W p l e ({ frames := 5, cells := 0, slots := 0, locals := 118 } : Room) s m (([.ref mo, .int a1, .int a2] : List Value).toArray) below meth c H locs 0 0 Q (F0 m 21 ls []) from LOOP_3 ((phi f5 f6 f7 f8 f10 c_g22_1 a1.toInt s4.toNatClampNeg).toNat + 1) c_g22_1 f23 f24 _ _ _ (by omega) (by first | with_reducible assumption | assumption | omega) (phi_nonneg (by assumption) r_f8 (by omega)) (by first | with_reducible assumption | assumption | exact rng_zero (by omega) (by omega) | exact orng_zero) (by first | with_reducible assumption | assumption | exact rng_zero (by omega) (by omega) | exact orng_zero) ⟨hP, hD⟩ hS (lv_sub hl [1, 2, 3] rfl)
      intro n_3
      induction n_3 with
      | zero =>
        intro c_g22_3 c_g23_3 c_g24_3 H locs ls hm v0_3 v1_3 rc_g23_3 rc_g24_3 hPD hS hl; obtain ⟨hP, hD⟩ := hPD
        exact absurd hm (by omega)
      | succ n_3 ih_3 =>
        intro c_g22_3 c_g23_3 c_g24_3 H locs ls hm v0_3 v1_3 rc_g23_3 rc_g24_3 hPD hS hl; obtain ⟨hP, hD⟩ := hPD
        refine lv_aload_n hx hb dB_3_1_27.2.1.2.2 rfl (lv_at hl 0 rfl) ?_
        refine lv_iload_n hx hb dB_3_1_27.2.2.1.1 rfl (lv_at hl 1 rfl) ?_
        refine lv_iload_n hx hb dB_3_1_27.2.2.1.2 rfl (lv_at hl 2 rfl) ?_
        refine ct_S hP hD hS hA [ob12_0_ mo s0 s1 t2 s3 s4 g5 g6 g7 g8 g9 g10 s11 g12 g13 g14 g15 g16 g17 g18 g19 g20 s21 g22 g23 g24 s25 s26 s27 s28 g29 g30 g31 g32 g33, ai_ cy g5 40 f5, ai_ cy g6 40 f6, ai_ cy g7 40 f7, ai_ cy g8 40 f8, az_ cy g10 40 f10, ai_ cy g22 40 c_g22_3, ai_ cy g23 12 c_g23_3, ai_ cy g24 12 c_g24_3] [0, 1, 2, 3, 4, 5, 6, 7, 8] (by decide) rfl (fun hPc hDw hFc hC_ => ?_)
        refine va_calli (va_runV (As := [.int a1, .int a2]) (rest := []) ⟨hx, hb, hml, hown, hts⟩ (c_X12_hasWay l D cy H.size mo g5 g6 g7 g8 g9 g10 g12 g13 g14 g15 g16 g17 g18 g19 g20 g22 g23 g24 g29 g30 g31 g32 g33 s0 s1 s3 s4 s11 s21 s25 s26 s27 s28 t2 f5 f6 f7 f8 f10 c_g22_3 c_g23_3 c_g24_3 a1 a2 (by first | with_reducible assumption | omega | assumption) (by first | with_reducible assumption | omega | assumption) (by first | with_reducible assumption | omega | assumption) (by first | with_reducible assumption | assumption | omega) (by first | with_reducible assumption | omega | assumption) (by first | with_reducible assumption | omega | assumption) (by first | with_reducible assumption | assumption | omega) (by first | with_reducible assumption | assumption | omega) (by first | with_reducible assumption | assumption | omega)) (cwV 2 hts gX12_flowOf_X12_hasWay rfl rfl rfl ⟨rfl, hd_X12_hasWay⟩ ⟨Nat.le_of_ble_eq_true rfl, Nat.le_of_ble_eq_true rfl⟩) ⟨bl_, va_recvX hK.1 hP (ci := 12) (q0 := 0) rfl rfl, fun U hU hW => ⟨rfl, by rw [hU], by rw [hU]; exact hPc, kk_mv hW hK, hDw⟩⟩ rfl rfl hl.1 rfl (lv_room (Nat.le_of_ble_eq_true rfl)) dB_3_1_27.2.2.2.1 ⟨Nat.le_of_ble_eq_true rfl, Nat.le_of_ble_eq_true rfl⟩) hS (fun q _ h => hFc q h) hFc (fun r_4 u t H locs ht hvm hw hB hz1 hk1 hS => ?_)
        obtain ⟨eu_, hw⟩ := hw
        subst eu_
        obtain ⟨e23_5, e24_6, g_7, g_8, g_9, hP1, hD1⟩ := hB
        rw [ht] at hP1
        obtain ⟨hP, hD⟩ := va_join (wr := []) (w1 := [ob12_0_ mo s0 s1 t2 s3 s4 g5 g6 g7 g8 g9 g10 s11 g12 g13 g14 g15 g16 g17 g18 g19 g20 s21 g22 g23 g24 s25 s26 s27 s28 g29 g30 g31 g32 g33, ai_ cy g5 40 f5, ai_ cy g6 40 f6, ai_ cy g7 40 f7, ai_ cy g8 40 f8, az_ cy g10 40 f10, ai_ cy g22 40 c_g22_3, ai_ cy g23 12 e23_5, ai_ cy g24 12 e24_6]) hP hD [0, 1, 2, 3, 4, 5, 6, 7, 8] [] hC_ rfl (by decide) (by decide) hk1 hFc hP1 hD1
        refine pd_K [ob12_0_ mo s0 s1 t2 s3 s4 g5 g6 g7 g8 g9 g10 s11 g12 g13 g14 g15 g16 g17 g18 g19 g20 s21 g22 g23 g24 s25 s26 s27 s28 g29 g30 g31 g32 g33, ai_ cy g5 40 f5, ai_ cy g6 40 f6, ai_ cy g7 40 f7, ai_ cy g8 40 f8, az_ cy g10 40 f10, ai_ cy g22 40 c_g22_3, ai_ cy g23 12 e23_5, ai_ cy g24 12 e24_6] hP hD (fun hP hD => ?_)
        rcases hw with ⟨w_10, e_⟩ | ⟨w_10, e_⟩
        · have e_ := e_.symm
          subst e_
          refine lv_if_eq (tgt := 260) hx hb dB_3_1_27.2.2.2.2 (by decide) (fun c_11 => ?_) (fun c_11 => ?_)
          · have _ := c_11
            rw [hQ]
            exact W.vret hx hb hr (fun t ht hW => ⟨⟨(), rfl, trivial, c_g22_3, e23_5, e24_6, (by first | with_reducible assumption | assumption | exact rng_zero (by omega) (by omega) | omega), (by first | with_reducible assumption | assumption | exact rng_zero (by omega) (by omega) | omega), by rw [ht]; exact hP, hD⟩, hS.F ht⟩) hS.2.2 dB_3_1_35.1.2.2.1
          · exact absurd c_11 (by decide)
        · have e_ := e_.symm
          subst e_
          refine lv_if_eq (tgt := 260) hx hb dB_3_1_27.2.2.2.2 (by decide) (fun c_12 => ?_) (fun c_12 => ?_)
          · exact absurd c_12 (by decide)
          · have _ := c_12
            obtain ⟨n_, hb_, ht_⟩ := g_7 rfl
            refine lv_ldc (v := 2147483647) hx hb hown (hts (.constant RX12 186 (2147483647)) (List.mem_of_getElem? (i := 2) rfl)) dB_3_1_28.1.1.1.1 ?_
            refine lv_istore_n (lv' := [(3, .int 2147483647), (0, .ref mo), (1, .int a1), (2, .int a2)]) hx hb dB_3_1_28.1.1.1.2 rfl hl (by decide) rfl (fun ls hl => ?_)
            refine lv_iload_n hx hb dB_3_1_28.1.1.2.1 rfl (lv_at hl 3 rfl) ?_
            refine lv_istore (lv' := [(4, .int a2), (3, .int 2147483647), (0, .ref mo), (1, .int a1), (2, .int a2)]) hx hb dB_3_1_28.1.1.2.2 hl (by decide) rfl (fun ls hl => ?_)
            suffices LOOP_13 : ∀ (n_13 : Nat) (x4_13 : Int32) (x3_13 : Int32) (j_13 : Nat) (H : Heap) (locs : List Loc) (ls : Array Slot), (j_13 : Int) < (n_13 : Int) → (j_13 < n_ + 1) → (x4_13 = e23_5 j_13) → (0 < x3_13.toInt) → pd_2 D vwCl A [ob12_0_ mo s0 s1 t2 s3 s4 g5 g6 g7 g8 g9 g10 s11 g12 g13 g14 g15 g16 g17 g18 g19 g20 s21 g22 g23 g24 s25 s26 s27 s28 g29 g30 g31 g32 g33, ai_ cy g5 40 f5, ai_ cy g6 40 f6, ai_ cy g7 40 f7, ai_ cy g8 40 f8, az_ cy g10 40 f10, ai_ cy g22 40 c_g22_3, ai_ cy g23 12 e23_5, ai_ cy g24 12 e24_6] H → va_S A s.heap H locs → lv_has ls 9 [(4, .int x4_13), (3, .int x3_13), (0, .ref mo), (1, .int a1), (2, .int a2)] → W p l e ({ frames := 5, cells := 0, slots := 0, locals := 118 } : Room) s m (([.ref mo, .int a1, .int a2] : List Value).toArray) below meth c H locs 0 0 Q (F0 m 36 ls []) from LOOP_13 ((((n_) : Int)).toNat + 1) a2 (2147483647 : Int32) n_ _ _ _ (by omega) (by first | with_reducible assumption | omega | assumption) (by first | with_reducible assumption | assumption | exact ht_.symm) (by first | with_reducible assumption | omega | assumption) ⟨hP, hD⟩ hS (lv_sub hl [0, 1, 2, 3, 4] rfl)
            intro n_13
            induction n_13 with
            | zero =>
              intro x4_13 x3_13 j_13 H locs ls hm v0_13 v1_13 v2_13 hPD hS hl; obtain ⟨hP, hD⟩ := hPD
              exact absurd hm (by omega)
            | succ n_13 ih_13 =>
              intro x4_13 x3_13 j_13 H locs ls hm v0_13 v1_13 v2_13 hPD hS hl; obtain ⟨hP, hD⟩ := hPD
              refine lv_iload hx hb dB_3_1_28.1.2.1.1 (lv_at hl 0 rfl) ?_
              refine lv_iload_n hx hb dB_3_1_28.1.2.1.2 rfl (lv_at hl 3 rfl) ?_
              refine lv_icmp_eq (tgt := 82) hx hb dB_3_1_28.1.2.2.1 (by decide) (fun c_14 => ?_) (fun c_14 => ?_)
              · have t_14 : x4_13.toInt = a1.toInt := congrArg Int32.toInt c_14
                refine lv_iload_n hx hb dB_3_1_29.2.2.1.1 rfl (lv_at hl 4 rfl) ?_
                refine lv_istore (lv' := [(4, .int a2), (3, .int x3_13), (0, .ref mo), (1, .int a1), (2, .int a2)]) hx hb dB_3_1_29.2.2.1.2 hl (by decide) rfl (fun ls hl => ?_)
                suffices LOOP_15 : ∀ (n_15 : Nat) (x4_15 : Int32) (j2_15 : Nat) (c_g22_15 : Nat → Int32) (H : Heap) (locs : List Loc) (ls : Array Slot), (j2_15 : Int) < (n_15 : Int) → (j2_15 < n_ + 1) → (x4_15 = e23_5 j2_15) → (flOK f5 f8 c_g22_15) → (phi f5 f6 f7 f8 f10 c_g22_15 a1.toInt s4.toNatClampNeg ≤ phi f5 f6 f7 f8 f10 c_g22_3 a1.toInt s4.toNatClampNeg) → (x4_15.toInt = a1.toInt → phi f5 f6 f7 f8 f10 c_g22_15 a1.toInt s4.toNatClampNeg < phi f5 f6 f7 f8 f10 c_g22_3 a1.toInt s4.toNatClampNeg) → (x4_15.toInt ≠ a1.toInt → ∀ j : Nat, ((f6 j).toInt = a1.toInt ∨ (f7 j).toInt = a1.toInt) → c_g22_15 j = c_g22_3 j) → pd_2 D vwCl A [ob12_0_ mo s0 s1 t2 s3 s4 g5 g6 g7 g8 g9 g10 s11 g12 g13 g14 g15 g16 g17 g18 g19 g20 s21 g22 g23 g24 s25 s26 s27 s28 g29 g30 g31 g32 g33, ai_ cy g5 40 f5, ai_ cy g6 40 f6, ai_ cy g7 40 f7, ai_ cy g8 40 f8, az_ cy g10 40 f10, ai_ cy g22 40 c_g22_15, ai_ cy g23 12 e23_5, ai_ cy g24 12 e24_6] H → va_S A s.heap H locs → lv_has ls 9 [(4, .int x4_15), (3, .int x3_13), (0, .ref mo), (1, .int a1), (2, .int a2)] → W p l e ({ frames := 5, cells := 0, slots := 0, locals := 118 } : Room) s m (([.ref mo, .int a1, .int a2] : List Value).toArray) below meth c H locs 0 0 Q (F0 m 85 ls []) from LOOP_15 ((((n_) : Int)).toNat + 1) a2 n_ c_g22_3 _ _ _ (by omega) (by first | with_reducible assumption | omega | assumption) (by first | with_reducible assumption | assumption | exact ht_.symm) (by first | with_reducible assumption | assumption | omega) (by first | with_reducible assumption | assumption | exact Int.le_refl _) (by first | with_reducible assumption | assumption | (intro h; omega)) (by first | with_reducible assumption | assumption | exact fun _ _ _ => rfl) ⟨hP, hD⟩ hS (lv_sub hl [0, 1, 2, 3, 4] rfl)
                intro n_15
                induction n_15 with
                | zero =>
                  intro x4_15 j2_15 c_g22_15 H locs ls hm v0_15 v1_15 v2_15 v3_15 v4_15 v5_15 hPD hS hl; obtain ⟨hP, hD⟩ := hPD
                  exact absurd hm (by omega)
                | succ n_15 ih_15 =>
                  intro x4_15 j2_15 c_g22_15 H locs ls hm v0_15 v1_15 v2_15 v3_15 v4_15 v5_15 hPD hS hl; obtain ⟨hP, hD⟩ := hPD
                  refine lv_iload hx hb dB_3_1_29.2.2.2.1 (lv_at hl 0 rfl) ?_
                  refine lv_iload_n hx hb dB_3_1_29.2.2.2.2 rfl (lv_at hl 3 rfl) ?_
                  refine lv_icmp_eq (tgt := 257) hx hb dB_3_1_30.1.1.1.1 (by decide) (fun c_16 => ?_) (fun c_16 => ?_)
                  · have t_16 : x4_15.toInt = a1.toInt := congrArg Int32.toInt c_16
                    have hdec_ : phi f5 f6 f7 f8 f10 c_g22_15 a1.toInt s4.toNatClampNeg < phi f5 f6 f7 f8 f10 c_g22_3 a1.toInt s4.toNatClampNeg := v4_15 (by omega)
                    refine lv_goto (tgt := 21) hx hb dB_3_1_35.1.2.1.2 (by decide) ?_
                    exact ih_3 c_g22_15 e23_5 e24_6 _ _ _ (by omega) (by first | with_reducible assumption | assumption | omega) (phi_nonneg (by assumption) r_f8 (by omega)) (by first | with_reducible assumption | assumption | exact rng_zero (by omega) (by omega) | exact orng_zero) (by first | with_reducible assumption | assumption | exact rng_zero (by omega) (by omega) | exact orng_zero) ⟨hP, hD⟩ hS (lv_sub hl [2, 3, 4] rfl)
                  · have t_16 : ¬ x4_15.toInt = a1.toInt := fun h => c_16 (Int32.toInt_inj.mp h)
                    have hj2_ : 1 ≤ j2_15 := Nat.pos_of_ne_zero (fun e0 => c_16 (by rw [v1_15, e0]; exact hb_.2.2.1))
                    obtain ⟨i2_, hi2_, hc2_, hl2_⟩ := hb_.2.2.2 j2_15 hj2_ v0_15
                    have hy2_ := hb_.1 j2_15 v0_15
                    have ey5_ : x4_15.toInt = (e23_5 j2_15).toInt := by rw [v1_15]
                    refine lv_aload_n hx hb dB_3_1_30.1.1.1.2 rfl (lv_at hl 2 rfl) ?_
                    refine va_get (ci := 12) (v := .ref g24) (C := RX12) (T := TX12) (N := 34) hx hb hts (fun _ h => List.mem_cons_of_mem _ (List.mem_append_right _ h)) hown hK.1 hP 0 rfl rfl 24 (by decide) (hts (.fieldLink RX12 67 "CutAtlasModel" "cameFrom" "[I") (List.mem_of_getElem? (i := 3) rfl)) (fun _ h9 => h9) rfl dB_3_1_30.1.1.2.1 ?_
                    refine lv_iload hx hb dB_3_1_30.1.1.2.2 (lv_at hl 0 rfl) ?_
                    have h_17 : vp_in x4_15 12 := in_I (by omega) (by omega)
                    refine va_iald hx hb hK.1 hP 8 0 rfl rfl (i := x4_15) h_17 dB_3_1_30.1.2.1.1 ?_
                    refine lv_topi (fun y_18 ey_18 => ?_)
                    have ky_18 : y_18.toInt = (e24_6 x4_15.toNatClampNeg).toInt := by rw [ey_18]
                    have ry_18 : 0 ≤ y_18.toInt ∧ y_18.toInt ≤ 11 := by rw [ey_18]; exact g_9 _ (in_lt h_17)
                    have hv2_ : y_18 = e23_5 i2_ := by rw [ey_18, v1_15]; exact hc2_
                    refine lv_istore (lv' := [(5, .int y_18), (4, .int x4_15), (3, .int x3_13), (0, .ref mo), (1, .int a1), (2, .int a2)]) hx hb dB_3_1_30.1.2.1.2 hl (by decide) rfl (fun ls hl => ?_)
                    refine lv_iload_n hx hb dB_3_1_30.1.2.2.1 rfl (lv_at hl 2 rfl) ?_
                    refine lv_istore (lv' := [(6, .int x3_13), (5, .int y_18), (4, .int x4_15), (3, .int x3_13), (0, .ref mo), (1, .int a1), (2, .int a2)]) hx hb dB_3_1_30.1.2.2.2 hl (by decide) rfl (fun ls hl => ?_)
                    have hs_ : 0 < sumI (lfI f5 f6 f7 f8 f10 c_g22_3 y_18.toInt x4_15.toInt) s4.toNatClampNeg := by rw [hv2_, v1_15]; exact hl2_
                    refine lv_iconst (v := 0) hx hb dB_3_1_30.2.1.1.1 (by decide) ?_
                    refine lv_istore (lv' := [(7, .int 0), (6, .int x3_13), (5, .int y_18), (4, .int x4_15), (3, .int x3_13), (0, .ref mo), (1, .int a1), (2, .int a2)]) hx hb dB_3_1_30.2.1.1.2 hl (by decide) rfl (fun ls hl => ?_)
                    suffices LOOP_19 : ∀ (n_19 : Nat) (x7_19 : Int32) (x6_19 : Int32) (c_g22_19 : Nat → Int32) (H : Heap) (locs : List Loc) (ls : Array Slot), s4.toInt - x7_19.toInt < (n_19 : Int) → (0 ≤ x7_19.toInt) → (x7_19.toInt ≤ s4.toInt) → (flOK f5 f8 c_g22_19) → (0 ≤ x6_19.toInt ∧ x6_19.toInt ≤ x3_13.toInt) → (y_18.toInt = a1.toInt → phi f5 f6 f7 f8 f10 c_g22_19 a1.toInt s4.toNatClampNeg = phi f5 f6 f7 f8 f10 c_g22_15 a1.toInt s4.toNatClampNeg - (x3_13.toInt - x6_19.toInt)) → (y_18.toInt ≠ a1.toInt → ∀ j : Nat, ((f6 j).toInt = a1.toInt ∨ (f7 j).toInt = a1.toInt) → c_g22_19 j = c_g22_15 j) → (x6_19.toInt = x3_13.toInt → (∀ j : Nat, (j : Int) < x7_19.toInt → lfI f5 f6 f7 f8 f10 c_g22_15 y_18.toInt x4_15.toInt j ≤ 0) ∧ ∀ j : Nat, c_g22_19 j = c_g22_15 j) → pd_2 D vwCl A [ob12_0_ mo s0 s1 t2 s3 s4 g5 g6 g7 g8 g9 g10 s11 g12 g13 g14 g15 g16 g17 g18 g19 g20 s21 g22 g23 g24 s25 s26 s27 s28 g29 g30 g31 g32 g33, ai_ cy g5 40 f5, ai_ cy g6 40 f6, ai_ cy g7 40 f7, ai_ cy g8 40 f8, az_ cy g10 40 f10, ai_ cy g22 40 c_g22_19, ai_ cy g23 12 e23_5, ai_ cy g24 12 e24_6] H → va_S A s.heap H locs → lv_has ls 9 [(7, .int x7_19), (6, .int x6_19), (5, .int y_18), (4, .int x4_15), (3, .int x3_13), (0, .ref mo), (1, .int a1), (2, .int a2)] → W p l e ({ frames := 5, cells := 0, slots := 0, locals := 118 } : Room) s m (([.ref mo, .int a1, .int a2] : List Value).toArray) below meth c H locs 0 0 Q (F0 m 106 ls []) from LOOP_19 ((s4.toInt - (0 : Int32).toInt).toNat + 1) (0 : Int32) x3_13 c_g22_15 _ _ _ (by omega) (by first | with_reducible assumption | omega | assumption) (by first | with_reducible assumption | omega | assumption) (by first | with_reducible assumption | assumption | omega) (by first | with_reducible assumption | omega | assumption) (by first | with_reducible assumption | assumption | (intro h; omega)) (by first | with_reducible assumption | assumption | exact fun _ _ _ => rfl) (by first | with_reducible assumption | assumption | exact fun _ => ⟨fun j hj => by omega, fun _ => rfl⟩) ⟨hP, hD⟩ hS (lv_sub hl [0, 1, 2, 3, 4, 5, 6, 7] rfl)
                    intro n_19
                    induction n_19 with
                    | zero =>
                      intro x7_19 x6_19 c_g22_19 H locs ls hm v0_19 v1_19 v2_19 v3_19 v4_19 v5_19 v6_19 hPD hS hl; obtain ⟨hP, hD⟩ := hPD
                      exact absurd hm (by omega)
                    | succ n_19 ih_19 =>
                      intro x7_19 x6_19 c_g22_19 H locs ls hm v0_19 v1_19 v2_19 v3_19 v4_19 v5_19 v6_19 hPD hS hl; obtain ⟨hP, hD⟩ := hPD
                      refine lv_iload hx hb dB_3_1_30.2.1.2.1 (lv_at hl 0 rfl) ?_
                      refine lv_aload_n hx hb dB_3_1_30.2.1.2.2 rfl (lv_at hl 5 rfl) ?_
                      refine va_get (ci := 12) (v := .int s4) (C := RX12) (T := TX12) (N := 34) hx hb hts (fun _ h => List.mem_cons_of_mem _ (List.mem_append_right _ h)) hown hK.1 hP 0 rfl rfl 4 (by decide) (hts (.fieldLink RX12 95 "CutAtlasModel" "lines" "I") (List.mem_of_getElem? (i := 4) rfl)) (fun _ h9 => h9) rfl dB_3_1_30.2.2.1.1 ?_
                      refine lv_icmp_ge (tgt := 245) hx hb dB_3_1_30.2.2.1.2 (by decide) (fun c_20 => ?_) (fun c_20 => ?_)
                      · have t_20 : s4.toInt ≤ x7_19.toInt := Int32.le_iff_toInt_le.mp c_20
                        have hlt_ : y_18.toInt = a1.toInt → x6_19.toInt < x3_13.toInt := fun h => by first | omega | exact endL v6_19 (by omega) (by omega) hs_ (v5_15 (by omega)) h (by omega)
                        have o3_ : phi f5 f6 f7 f8 f10 c_g22_19 a1.toInt s4.toNatClampNeg ≤ phi f5 f6 f7 f8 f10 c_g22_3 a1.toInt s4.toNatClampNeg := (Classical.em (y_18.toInt = a1.toInt)).elim (fun h => by have a := v4_19 h; omega) (fun h => by have a := phi_same (f5 := f5) (f8 := f8) (f10 := f10) (n := s4.toNatClampNeg) (v5_19 h); omega)
                        have o4_ : y_18.toInt = a1.toInt → phi f5 f6 f7 f8 f10 c_g22_19 a1.toInt s4.toNatClampNeg < phi f5 f6 f7 f8 f10 c_g22_3 a1.toInt s4.toNatClampNeg := fun h => by have a := v4_19 h; have b := hlt_ h; omega
                        have o5_ : y_18.toInt ≠ a1.toInt → ∀ j : Nat, ((f6 j).toInt = a1.toInt ∨ (f7 j).toInt = a1.toInt) → c_g22_19 j = c_g22_3 j := fun h j hj => (v5_19 h j hj).trans (v5_15 (by omega) j hj)
                        refine lv_aload_n hx hb dB_3_1_34.2.2.2.2 rfl (lv_at hl 5 rfl) ?_
                        refine va_get (ci := 12) (v := .ref g24) (C := RX12) (T := TX12) (N := 34) hx hb hts (fun _ h => List.mem_cons_of_mem _ (List.mem_append_right _ h)) hown hK.1 hP 0 rfl rfl 24 (by decide) (hts (.fieldLink RX12 67 "CutAtlasModel" "cameFrom" "[I") (List.mem_of_getElem? (i := 3) rfl)) (fun _ h9 => h9) rfl dB_3_1_35.1.1.1.1 ?_
                        refine lv_iload hx hb dB_3_1_35.1.1.1.2 (lv_at hl 3 rfl) ?_
                        have h_21 : vp_in x4_15 12 := in_I (by omega) (by omega)
                        refine va_iald hx hb hK.1 hP 8 0 rfl rfl (i := x4_15) h_21 dB_3_1_35.1.1.2.1 ?_
                        refine lv_topi (fun y_22 ey_22 => ?_)
                        have ky_22 : y_22.toInt = (e24_6 x4_15.toNatClampNeg).toInt := by rw [ey_22]
                        have ry_22 : 0 ≤ y_22.toInt ∧ y_22.toInt ≤ 11 := by rw [ey_22]; exact g_9 _ (in_lt h_21)
                        have ex_ : y_18 = y_22 := by rw [ey_22, ey_18]
                        subst ex_
                        refine lv_istore (lv' := [(4, .int y_18), (7, .int x7_19), (6, .int x6_19), (5, .int y_18), (3, .int x3_13), (0, .ref mo), (1, .int a1), (2, .int a2)]) hx hb dB_3_1_35.1.1.2.2 hl (by decide) rfl (fun ls hl => ?_)
                        refine lv_goto (tgt := 85) hx hb dB_3_1_35.1.2.1.1 (by decide) ?_
                        exact ih_15 y_18 i2_ c_g22_19 _ _ _ (by omega) (by first | with_reducible assumption | omega | assumption) (by first | with_reducible assumption | assumption | exact ht_.symm) (by first | with_reducible assumption | assumption | omega) (by first | with_reducible assumption | assumption | exact Int.le_refl _) (by first | with_reducible assumption | assumption | (intro h; omega)) (by first | with_reducible assumption | assumption | exact fun _ _ _ => rfl) ⟨hP, hD⟩ hS (lv_sub hl [0, 4, 5, 6, 7] rfl)
                      · have t_20 : ¬ s4.toInt ≤ x7_19.toInt := fun h => c_20 (Int32.le_iff_toInt_le.mpr h)
                        refine lv_iload hx hb dB_3_1_30.2.2.2.1 (lv_at hl 1 rfl) ?_
                        refine lv_if_le (tgt := 245) hx hb dB_3_1_30.2.2.2.2 (by decide) (fun c_23 => ?_) (fun c_23 => ?_)
                        · have t_23 : x6_19.toInt ≤ (0 : Int32).toInt := Int32.le_iff_toInt_le.mp c_23
                          have hlt_ : y_18.toInt = a1.toInt → x6_19.toInt < x3_13.toInt := fun h => by first | omega | exact endL v6_19 (by omega) (by omega) hs_ (v5_15 (by omega)) h (by omega)
                          have o3_ : phi f5 f6 f7 f8 f10 c_g22_19 a1.toInt s4.toNatClampNeg ≤ phi f5 f6 f7 f8 f10 c_g22_3 a1.toInt s4.toNatClampNeg := (Classical.em (y_18.toInt = a1.toInt)).elim (fun h => by have a := v4_19 h; omega) (fun h => by have a := phi_same (f5 := f5) (f8 := f8) (f10 := f10) (n := s4.toNatClampNeg) (v5_19 h); omega)
                          have o4_ : y_18.toInt = a1.toInt → phi f5 f6 f7 f8 f10 c_g22_19 a1.toInt s4.toNatClampNeg < phi f5 f6 f7 f8 f10 c_g22_3 a1.toInt s4.toNatClampNeg := fun h => by have a := v4_19 h; have b := hlt_ h; omega
                          have o5_ : y_18.toInt ≠ a1.toInt → ∀ j : Nat, ((f6 j).toInt = a1.toInt ∨ (f7 j).toInt = a1.toInt) → c_g22_19 j = c_g22_3 j := fun h j hj => (v5_19 h j hj).trans (v5_15 (by omega) j hj)
                          refine lv_aload_n hx hb dB_3_1_34.2.2.2.2 rfl (lv_at hl 5 rfl) ?_
                          refine va_get (ci := 12) (v := .ref g24) (C := RX12) (T := TX12) (N := 34) hx hb hts (fun _ h => List.mem_cons_of_mem _ (List.mem_append_right _ h)) hown hK.1 hP 0 rfl rfl 24 (by decide) (hts (.fieldLink RX12 67 "CutAtlasModel" "cameFrom" "[I") (List.mem_of_getElem? (i := 3) rfl)) (fun _ h9 => h9) rfl dB_3_1_35.1.1.1.1 ?_
                          refine lv_iload hx hb dB_3_1_35.1.1.1.2 (lv_at hl 3 rfl) ?_
                          have h_24 : vp_in x4_15 12 := in_I (by omega) (by omega)
                          refine va_iald hx hb hK.1 hP 8 0 rfl rfl (i := x4_15) h_24 dB_3_1_35.1.1.2.1 ?_
                          refine lv_topi (fun y_25 ey_25 => ?_)
                          have ky_25 : y_25.toInt = (e24_6 x4_15.toNatClampNeg).toInt := by rw [ey_25]
                          have ry_25 : 0 ≤ y_25.toInt ∧ y_25.toInt ≤ 11 := by rw [ey_25]; exact g_9 _ (in_lt h_24)
                          have ex_ : y_18 = y_25 := by rw [ey_25, ey_18]
                          subst ex_
                          refine lv_istore (lv' := [(4, .int y_18), (7, .int x7_19), (6, .int x6_19), (5, .int y_18), (3, .int x3_13), (0, .ref mo), (1, .int a1), (2, .int a2)]) hx hb dB_3_1_35.1.1.2.2 hl (by decide) rfl (fun ls hl => ?_)
                          refine lv_goto (tgt := 85) hx hb dB_3_1_35.1.2.1.1 (by decide) ?_
                          exact ih_15 y_18 i2_ c_g22_19 _ _ _ (by omega) (by first | with_reducible assumption | omega | assumption) (by first | with_reducible assumption | assumption | exact ht_.symm) (by first | with_reducible assumption | assumption | omega) (by first | with_reducible assumption | assumption | exact Int.le_refl _) (by first | with_reducible assumption | assumption | (intro h; omega)) (by first | with_reducible assumption | assumption | exact fun _ _ _ => rfl) ⟨hP, hD⟩ hS (lv_sub hl [0, 4, 5, 6, 7] rfl)
                        · have t_23 : ¬ x6_19.toInt ≤ (0 : Int32).toInt := fun h => c_23 (Int32.le_iff_toInt_le.mpr h)
                          refine lv_aload_n hx hb dB_3_1_31.1.1.1.1 rfl (lv_at hl 5 rfl) ?_
                          refine lv_iload hx hb dB_3_1_31.1.1.1.2 (lv_at hl 0 rfl) ?_
                          refine lv_iload hx hb dB_3_1_31.1.1.2.1 (lv_at hl 2 rfl) ?_
                          refine lv_iload hx hb dB_3_1_31.1.1.2.2 (lv_at hl 3 rfl) ?_
                          refine ct_R hP hD [ob12_0_ mo s0 s1 t2 s3 s4 g5 g6 g7 g8 g9 g10 s11 g12 g13 g14 g15 g16 g17 g18 g19 g20 s21 g22 g23 g24 s25 s26 s27 s28 g29 g30 g31 g32 g33, ai_ cy g5 40 f5, ai_ cy g6 40 f6, ai_ cy g7 40 f7, ai_ cy g8 40 f8, az_ cy g10 40 f10, ai_ cy g22 40 c_g22_19] [0, 1, 2, 3, 4, 5, 6] (by decide) rfl (fun hPc hDw => ?_)
                          have hFc := va_free (wc := []) hD hS hA [] rfl
                          refine va_calli (va_runV (As := [.int x7_19, .int y_18, .int x4_15]) (rest := []) ⟨hx, hb, hml, hown, hts⟩ (c_X12_left l D cy H.size mo g5 g6 g7 g8 g9 g10 g12 g13 g14 g15 g16 g17 g18 g19 g20 g22 g23 g24 g29 g30 g31 g32 g33 s0 s1 s3 s4 s11 s21 s25 s26 s27 s28 t2 f5 f6 f7 f8 f10 c_g22_19 x7_19 y_18 x4_15 (by first | with_reducible assumption | omega | assumption) (by first | with_reducible assumption | omega | assumption) (by first | with_reducible assumption | assumption | omega) (by first | with_reducible assumption | assumption | omega)) (cwV 3 hts gX12_flowOf_X12_left rfl rfl rfl ⟨rfl, hd_X12_left⟩ ⟨Nat.le_of_ble_eq_true rfl, Nat.le_of_ble_eq_true rfl⟩) ⟨bl_, va_recvX hK.1 hP (ci := 12) (q0 := 0) rfl rfl, fun U hU hW => ⟨rfl, by rw [hU], by rw [hU]; exact hPc, kk_mv hW hK, hDw⟩⟩ rfl rfl hl.1 rfl (lv_room (Nat.le_of_ble_eq_true rfl)) dB_3_1_31.1.2.1.1 ⟨Nat.le_of_ble_eq_true rfl, Nat.le_of_ble_eq_true rfl⟩) hS (fun q _ h => hFc q h) hFc (fun r_26 u t H locs ht hvm hw hB hz1 hk1 hS => ?_)
                          have hP : va_P D vwCl _ H := ro_keep hP hk1
                          have f0_r_26 := hw
                          have hlf_ := f0_r_26
                          have hlr_ := lfI_rng (f6 := f6) (f7 := f7) (f10 := f10) v2_19 r_f8 (j := x7_19.toNatClampNeg) (in_lt (in_I (i := x7_19) (n := 40) (by omega) (by omega))) y_18.toInt x4_15.toInt
                          refine lv_istore (lv' := [(8, .int r_26), (7, .int x7_19), (6, .int x6_19), (5, .int y_18), (4, .int x4_15), (3, .int x3_13), (0, .ref mo), (1, .int a1), (2, .int a2)]) hx hb dB_3_1_31.1.2.1.2 hl (by decide) rfl (fun ls hl => ?_)
                          have JOIN_27 : ∀ (u0_27 : Int32) (H : Heap) (locs : List Loc) (ls : Array Slot), (0 ≤ u0_27.toInt ∧ u0_27.toInt ≤ lfI f5 f6 f7 f8 f10 c_g22_19 y_18.toInt x4_15.toInt x7_19.toNatClampNeg ∧ u0_27.toInt ≤ x6_19.toInt ∧ (u0_27.toInt = lfI f5 f6 f7 f8 f10 c_g22_19 y_18.toInt x4_15.toInt x7_19.toNatClampNeg ∨ u0_27.toInt = x6_19.toInt)) → pd_2 D vwCl A [ob12_0_ mo s0 s1 t2 s3 s4 g5 g6 g7 g8 g9 g10 s11 g12 g13 g14 g15 g16 g17 g18 g19 g20 s21 g22 g23 g24 s25 s26 s27 s28 g29 g30 g31 g32 g33, ai_ cy g5 40 f5, ai_ cy g6 40 f6, ai_ cy g7 40 f7, ai_ cy g8 40 f8, az_ cy g10 40 f10, ai_ cy g22 40 c_g22_19, ai_ cy g23 12 e23_5, ai_ cy g24 12 e24_6] H → va_S A s.heap H locs → lv_has ls 9 [(8, .int r_26), (7, .int x7_19), (6, .int x6_19), (5, .int y_18), (4, .int x4_15), (3, .int x3_13), (0, .ref mo), (1, .int a1), (2, .int a2)] → W p l e ({ frames := 5, cells := 0, slots := 0, locals := 118 } : Room) s m (([.ref mo, .int a1, .int a2] : List Value).toArray) below meth c H locs 0 0 Q (F0 m 146 ls [.int u0_27]) := by
                            intro u0_27 H locs ls v0_27 hPD hS hl; obtain ⟨hP, hD⟩ := hPD
                            refine lv_istore (lv' := [(8, .int u0_27), (7, .int x7_19), (6, .int x6_19), (5, .int y_18), (4, .int x4_15), (3, .int x3_13), (0, .ref mo), (1, .int a1), (2, .int a2)]) hx hb dB_3_1_31.2.2.1.1 hl (by decide) rfl (fun ls hl => ?_)
                            have hb6_ := Int32.toInt_lt x6_19
                            have hfb_ := v2_19 _ (in_lt (in_I (i := x7_19) (n := 40) (by omega) (by omega)))
                            have hw8_ := r_f8 _ (in_lt (in_I (i := x7_19) (n := 40) (by omega) (by omega)))
                            have w1_ := rmI_rng (k := f5 x7_19.toNatClampNeg) (b := 1) hw8_.1 hw8_.2
                            have w0_ := rmI_rng (k := f5 x7_19.toNatClampNeg) (b := 0) hw8_.1 hw8_.2
                            refine lv_aload_n hx hb dB_3_1_31.2.2.1.2 rfl (lv_at hl 6 rfl) ?_
                            refine va_get (ci := 12) (v := .ref g22) (C := RX12) (T := TX12) (N := 34) hx hb hts (fun _ h => List.mem_cons_of_mem _ (List.mem_append_right _ h)) hown hK.1 hP 0 rfl rfl 22 (by decide) (hts (.fieldLink RX12 61 "CutAtlasModel" "flows" "[I") (List.mem_of_getElem? (i := 1) rfl)) (fun _ h9 => h9) rfl dB_3_1_31.2.2.2.1 ?_
                            refine lv_iload hx hb dB_3_1_31.2.2.2.2 (lv_at hl 1 rfl) ?_
                            refine lv_dup2_11 hx hb dB_3_1_32.1.1.1.1 rfl rfl ?_
                            have h_28 : vp_in x7_19 40 := in_I (by omega) (by omega)
                            refine va_iald hx hb hK.1 hP 6 0 rfl rfl (i := x7_19) h_28 dB_3_1_32.1.1.1.2 ?_
                            refine lv_topi (fun y_29 ey_29 => ?_)
                            have ky_29 : y_29.toInt = (c_g22_19 x7_19.toNatClampNeg).toInt := by rw [ey_29]
                            have JOIN_30 : ∀ (u0_30 : Int32) (H : Heap) (locs : List Loc) (ls : Array Slot), (u0_30.toInt = (if (f10 x7_19.toNatClampNeg).toInt ≠ 0 then 0 else if (f6 x7_19.toNatClampNeg).toInt = y_18.toInt ∧ (f7 x7_19.toNatClampNeg).toInt = x4_15.toInt then u0_27.toInt else if (f6 x7_19.toNatClampNeg).toInt = x4_15.toInt ∧ (f7 x7_19.toNatClampNeg).toInt = y_18.toInt then -u0_27.toInt else 0)) → pd_2 D vwCl A [ob12_0_ mo s0 s1 t2 s3 s4 g5 g6 g7 g8 g9 g10 s11 g12 g13 g14 g15 g16 g17 g18 g19 g20 s21 g22 g23 g24 s25 s26 s27 s28 g29 g30 g31 g32 g33, ai_ cy g5 40 f5, ai_ cy g6 40 f6, ai_ cy g7 40 f7, ai_ cy g8 40 f8, az_ cy g10 40 f10, ai_ cy g22 40 c_g22_19, ai_ cy g23 12 e23_5, ai_ cy g24 12 e24_6] H → va_S A s.heap H locs → lv_has ls 9 [(8, .int u0_27), (7, .int x7_19), (6, .int x6_19), (5, .int y_18), (4, .int x4_15), (3, .int x3_13), (0, .ref mo), (1, .int a1), (2, .int a2)] → W p l e ({ frames := 5, cells := 0, slots := 0, locals := 118 } : Room) s m (([.ref mo, .int a1, .int a2] : List Value).toArray) below meth c H locs 0 0 Q (F0 m 230 ls [.int u0_30, .int y_29, .int x7_19, .ref g22]) := by
                              intro u0_30 H locs ls v0_30 hPD hS hl; obtain ⟨hP, hD⟩ := hPD
                              have hu_ : -2000000 ≤ u0_30.toInt ∧ u0_30.toInt ≤ 2000000 := by rw [v0_30]; (repeat' split) <;> omega
                              refine lv_iadd hx hb dB_3_1_34.1.2.2.2 ?_
                              refine lv_topi (fun y_31 ey_31 => ?_)
                              have ty_31 : y_31.toInt = y_29.toInt + u0_30.toInt := by rw [ey_31]; exact addI (by omega) (by omega)
                              have h_32 : vp_in x7_19 40 := in_I (by omega) (by omega)
                              refine va_iast hx hb hK.1 hP hD hS 6 0 rfl rfl (i := x7_19) h_32 dB_3_1_34.2.1.1.1 (fun H locs hP hD hS => ?_)
                              obtain ⟨f_33, ef_33⟩ : ∃ g : Nat → Int32, g = upd c_g22_19 x7_19.toNatClampNeg y_31 := ⟨_, rfl⟩
                              refine pd_K (D := D) (cl := vwCl) (H := H) (A := A) [ob12_0_ mo s0 s1 t2 s3 s4 g5 g6 g7 g8 g9 g10 s11 g12 g13 g14 g15 g16 g17 g18 g19 g20 s21 g22 g23 g24 s25 s26 s27 s28 g29 g30 g31 g32 g33, ai_ cy g5 40 f5, ai_ cy g6 40 f6, ai_ cy g7 40 f7, ai_ cy g8 40 f8, az_ cy g10 40 f10, ai_ cy g22 40 f_33, ai_ cy g23 12 e23_5, ai_ cy g24 12 e24_6] (by rw [ef_33]; exact hP) (by rw [ef_33]; exact hD) (fun hP hD => ?_)
                              have st_ := stepL (f6 := f6) (f7 := f7) (f10 := f10) (F := c_g22_19) (F2 := f_33) (l := x7_19) (x := y_18.toInt) (y := x4_15.toInt) (s := a1.toInt) (N := s4.toNatClampNeg) (n := u0_27.toInt) (by assumption) (by omega) (by omega) (by omega) v2_19 r_f8 (by omega) (by omega) (by rw [← v0_30]; omega) (by omega)
                              refine lv_iload hx hb dB_3_1_34.2.1.1.2 (lv_at hl 2 rfl) ?_
                              refine lv_iload hx hb dB_3_1_34.2.1.2.1 (lv_at hl 0 rfl) ?_
                              refine lv_isub hx hb dB_3_1_34.2.1.2.2 ?_
                              refine lv_topi (fun y_34 ey_34 => ?_)
                              have ty_34 : y_34.toInt = x6_19.toInt - u0_27.toInt := by rw [ey_34]; exact subI (by omega) (by omega)
                              refine lv_istore (lv' := [(6, .int y_34), (8, .int u0_27), (7, .int x7_19), (5, .int y_18), (4, .int x4_15), (3, .int x3_13), (0, .ref mo), (1, .int a1), (2, .int a2)]) hx hb dB_3_1_34.2.2.1.1 hl (by decide) rfl (fun ls hl => ?_)
                              obtain ⟨y_35, ey_35⟩ : ∃ y : Int32, y = x7_19 + 1 := ⟨_, rfl⟩
                              have ty_35 : y_35.toInt = x7_19.toInt + (1 : Int32).toInt := by rw [ey_35]; exact addI (by omega) (by omega)
                              refine lv_iinc (v := y_35) (lv' := [(7, .int y_35), (6, .int y_34), (8, .int u0_27), (5, .int y_18), (4, .int x4_15), (3, .int x3_13), (0, .ref mo), (1, .int a1), (2, .int a2)]) hx hb dB_3_1_34.2.2.1.2 hl (k := 2) rfl (by rw [ey_35]; rfl) (by decide) rfl (fun ls hl => ?_)
                              have w2_ : flOK f5 f8 f_33 := st_.1
                              have w4_ : y_18.toInt = a1.toInt → phi f5 f6 f7 f8 f10 f_33 a1.toInt s4.toNatClampNeg = phi f5 f6 f7 f8 f10 c_g22_15 a1.toInt s4.toNatClampNeg - (x3_13.toInt - y_34.toInt) := fun h => by have a := v4_19 h; have b := st_.2.1 h; omega
                              have w5_ : y_18.toInt ≠ a1.toInt → ∀ j : Nat, ((f6 j).toInt = a1.toInt ∨ (f7 j).toInt = a1.toInt) → f_33 j = c_g22_15 j := fun h j hj => (st_.2.2.1 h j hj).trans (v5_19 h j hj)
                              have w6_ : y_34.toInt = x3_13.toInt → (∀ j : Nat, (j : Int) < y_35.toInt → lfI f5 f6 f7 f8 f10 c_g22_15 y_18.toInt x4_15.toInt j ≤ 0) ∧ ∀ j : Nat, f_33 j = c_g22_15 j := fun h => by have q := v6_19 (by omega); have z : u0_27.toInt = 0 := (by omega); exact ⟨sixL q.1 (by omega) (by omega) (by rw [lfI_same (a := c_g22_15) (b := c_g22_19) (fun _ => (q.2 _).symm)]; omega), fun j => (st_.2.2.2 z j).trans (q.2 j)⟩
                              refine lv_goto (tgt := 106) hx hb dB_3_1_34.2.2.2.1 (by decide) ?_
                              exact ih_19 y_35 y_34 f_33 _ _ _ (by omega) (by first | with_reducible assumption | omega | assumption) (by first | with_reducible assumption | omega | assumption) (by first | with_reducible assumption | assumption | omega) (by first | with_reducible assumption | omega | assumption) (by first | with_reducible assumption | assumption | (intro h; omega)) (by first | with_reducible assumption | assumption | exact fun _ _ _ => rfl) (by first | with_reducible assumption | assumption | exact fun _ => ⟨fun j hj => by omega, fun _ => rfl⟩) ⟨hP, hD⟩ hS (lv_sub hl [0, 1, 3, 4, 5, 6, 7, 8] rfl)
                            refine lv_aload_n hx hb dB_3_1_32.1.1.2.1 rfl (lv_at hl 6 rfl) ?_
                            refine va_get (ci := 12) (v := .ref g10) (C := RX12) (T := TX12) (N := 34) hx hb hts (fun _ h => List.mem_cons_of_mem _ (List.mem_append_right _ h)) hown hK.1 hP 0 rfl rfl 10 (by decide) (hts (.fieldLink RX12 25 "CutAtlasModel" "isMissing" "[Z") (List.mem_of_getElem? (i := 5) rfl)) (fun _ h9 => h9) rfl dB_3_1_32.1.1.2.2 ?_
                            refine lv_iload hx hb dB_3_1_32.1.2.1.1 (lv_at hl 1 rfl) ?_
                            have h_36 : vp_in x7_19 40 := in_I (by omega) (by omega)
                            refine va_zald hx hb hK.1 hP 5 2 rfl rfl (i := x7_19) h_36 dB_3_1_32.1.2.1.2 ?_
                            refine lv_topi (fun y_37 ey_37 => ?_)
                            have ky_37 : y_37.toInt = (f10 x7_19.toNatClampNeg).toInt := by rw [ey_37]
                            refine lv_if_eq (tgt := 170) hx hb dB_3_1_32.1.2.2.1 (by decide) (fun c_38 => ?_) (fun c_38 => ?_)
                            · have t_38 : y_37.toInt = (0 : Int32).toInt := congrArg Int32.toInt c_38
                              refine lv_aload_n hx hb dB_3_1_32.2.1.1.2 rfl (lv_at hl 6 rfl) ?_
                              refine va_get (ci := 12) (v := .ref g6) (C := RX12) (T := TX12) (N := 34) hx hb hts (fun _ h => List.mem_cons_of_mem _ (List.mem_append_right _ h)) hown hK.1 hP 0 rfl rfl 6 (by decide) (hts (.fieldLink RX12 13 "CutAtlasModel" "from" "[I") (List.mem_of_getElem? (i := 6) rfl)) (fun _ h9 => h9) rfl dB_3_1_32.2.1.2.1 ?_
                              refine lv_iload hx hb dB_3_1_32.2.1.2.2 (lv_at hl 1 rfl) ?_
                              have h_39 : vp_in x7_19 40 := in_I (by omega) (by omega)
                              refine va_iald hx hb hK.1 hP 2 0 rfl rfl (i := x7_19) h_39 dB_3_1_32.2.2.1.1 ?_
                              refine lv_topi (fun y_40 ey_40 => ?_)
                              have ky_40 : y_40.toInt = (f6 x7_19.toNatClampNeg).toInt := by rw [ey_40]
                              refine lv_iload hx hb dB_3_1_32.2.2.1.2 (lv_at hl 3 rfl) ?_
                              refine lv_icmp_ne (tgt := 199) hx hb dB_3_1_32.2.2.2.1 (by decide) (fun c_41 => ?_) (fun c_41 => ?_)
                              · have t_41 : ¬ y_40.toInt = y_18.toInt := fun h => c_41 (Int32.toInt_inj.mp h)
                                refine lv_aload_n hx hb dB_3_1_33.1.2.2.2 rfl (lv_at hl 6 rfl) ?_
                                refine va_get (ci := 12) (v := .ref g6) (C := RX12) (T := TX12) (N := 34) hx hb hts (fun _ h => List.mem_cons_of_mem _ (List.mem_append_right _ h)) hown hK.1 hP 0 rfl rfl 6 (by decide) (hts (.fieldLink RX12 13 "CutAtlasModel" "from" "[I") (List.mem_of_getElem? (i := 6) rfl)) (fun _ h9 => h9) rfl dB_3_1_33.2.1.1.1 ?_
                                refine lv_iload hx hb dB_3_1_33.2.1.1.2 (lv_at hl 1 rfl) ?_
                                have h_42 : vp_in x7_19 40 := in_I (by omega) (by omega)
                                refine va_iald hx hb hK.1 hP 2 0 rfl rfl (i := x7_19) h_42 dB_3_1_33.2.1.2.1 ?_
                                refine lv_topi (fun y_43 ey_43 => ?_)
                                have e_ := (ey_43.trans ey_40.symm).symm
                                subst e_
                                skip
                                refine lv_iload hx hb dB_3_1_33.2.1.2.2 (lv_at hl 4 rfl) ?_
                                refine lv_icmp_ne (tgt := 229) hx hb dB_3_1_33.2.2.1.1 (by decide) (fun c_44 => ?_) (fun c_44 => ?_)
                                · have t_44 : ¬ y_40.toInt = x4_15.toInt := fun h => c_44 (Int32.toInt_inj.mp h)
                                  refine lv_iconst (v := 0) hx hb dB_3_1_34.1.2.2.1 (by decide) ?_
                                  exact JOIN_30 (0 : Int32) _ _ _ (by (repeat' split) <;> omega) ⟨hP, hD⟩ hS (lv_sub hl [0, 1, 2, 3, 4, 5, 6, 7, 8] rfl)
                                · have t_44 : y_40.toInt = x4_15.toInt := congrArg Int32.toInt c_44
                                  refine lv_aload_n hx hb dB_3_1_33.2.2.1.2 rfl (lv_at hl 6 rfl) ?_
                                  refine va_get (ci := 12) (v := .ref g7) (C := RX12) (T := TX12) (N := 34) hx hb hts (fun _ h => List.mem_cons_of_mem _ (List.mem_append_right _ h)) hown hK.1 hP 0 rfl rfl 7 (by decide) (hts (.fieldLink RX12 16 "CutAtlasModel" "to" "[I") (List.mem_of_getElem? (i := 7) rfl)) (fun _ h9 => h9) rfl dB_3_1_33.2.2.2.1 ?_
                                  refine lv_iload hx hb dB_3_1_33.2.2.2.2 (lv_at hl 1 rfl) ?_
                                  have h_45 : vp_in x7_19 40 := in_I (by omega) (by omega)
                                  refine va_iald hx hb hK.1 hP 3 0 rfl rfl (i := x7_19) h_45 dB_3_1_34.1.1.1.1 ?_
                                  refine lv_topi (fun y_46 ey_46 => ?_)
                                  have ky_46 : y_46.toInt = (f7 x7_19.toNatClampNeg).toInt := by rw [ey_46]
                                  refine lv_iload hx hb dB_3_1_34.1.1.1.2 (lv_at hl 3 rfl) ?_
                                  refine lv_icmp_ne (tgt := 229) hx hb dB_3_1_34.1.1.2.1 (by decide) (fun c_47 => ?_) (fun c_47 => ?_)
                                  · have t_47 : ¬ y_46.toInt = y_18.toInt := fun h => c_47 (Int32.toInt_inj.mp h)
                                    refine lv_iconst (v := 0) hx hb dB_3_1_34.1.2.2.1 (by decide) ?_
                                    exact JOIN_30 (0 : Int32) _ _ _ (by (repeat' split) <;> omega) ⟨hP, hD⟩ hS (lv_sub hl [0, 1, 2, 3, 4, 5, 6, 7, 8] rfl)
                                  · have t_47 : y_46.toInt = y_18.toInt := congrArg Int32.toInt c_47
                                    refine lv_iload hx hb dB_3_1_34.1.1.2.2 (lv_at hl 0 rfl) ?_
                                    refine lv_ineg hx hb dB_3_1_34.1.2.1.1 ?_
                                    refine lv_topi (fun y_48 ey_48 => ?_)
                                    have ty_48 : y_48.toInt = - u0_27.toInt := by rw [ey_48]; exact negI (by omega)
                                    refine lv_goto (tgt := 230) hx hb dB_3_1_34.1.2.1.2 (by decide) ?_
                                    exact JOIN_30 y_48 _ _ _ (by (repeat' split) <;> omega) ⟨hP, hD⟩ hS (lv_sub hl [0, 1, 2, 3, 4, 5, 6, 7, 8] rfl)
                              · have t_41 : y_40.toInt = y_18.toInt := congrArg Int32.toInt c_41
                                refine lv_aload_n hx hb dB_3_1_32.2.2.2.2 rfl (lv_at hl 6 rfl) ?_
                                refine va_get (ci := 12) (v := .ref g7) (C := RX12) (T := TX12) (N := 34) hx hb hts (fun _ h => List.mem_cons_of_mem _ (List.mem_append_right _ h)) hown hK.1 hP 0 rfl rfl 7 (by decide) (hts (.fieldLink RX12 16 "CutAtlasModel" "to" "[I") (List.mem_of_getElem? (i := 7) rfl)) (fun _ h9 => h9) rfl dB_3_1_33.1.1.1.1 ?_
                                refine lv_iload hx hb dB_3_1_33.1.1.1.2 (lv_at hl 1 rfl) ?_
                                have h_49 : vp_in x7_19 40 := in_I (by omega) (by omega)
                                refine va_iald hx hb hK.1 hP 3 0 rfl rfl (i := x7_19) h_49 dB_3_1_33.1.1.2.1 ?_
                                refine lv_topi (fun y_50 ey_50 => ?_)
                                have ky_50 : y_50.toInt = (f7 x7_19.toNatClampNeg).toInt := by rw [ey_50]
                                refine lv_iload hx hb dB_3_1_33.1.1.2.2 (lv_at hl 4 rfl) ?_
                                refine lv_icmp_ne (tgt := 199) hx hb dB_3_1_33.1.2.1.1 (by decide) (fun c_51 => ?_) (fun c_51 => ?_)
                                · have t_51 : ¬ y_50.toInt = x4_15.toInt := fun h => c_51 (Int32.toInt_inj.mp h)
                                  refine lv_aload_n hx hb dB_3_1_33.1.2.2.2 rfl (lv_at hl 6 rfl) ?_
                                  refine va_get (ci := 12) (v := .ref g6) (C := RX12) (T := TX12) (N := 34) hx hb hts (fun _ h => List.mem_cons_of_mem _ (List.mem_append_right _ h)) hown hK.1 hP 0 rfl rfl 6 (by decide) (hts (.fieldLink RX12 13 "CutAtlasModel" "from" "[I") (List.mem_of_getElem? (i := 6) rfl)) (fun _ h9 => h9) rfl dB_3_1_33.2.1.1.1 ?_
                                  refine lv_iload hx hb dB_3_1_33.2.1.1.2 (lv_at hl 1 rfl) ?_
                                  have h_52 : vp_in x7_19 40 := in_I (by omega) (by omega)
                                  refine va_iald hx hb hK.1 hP 2 0 rfl rfl (i := x7_19) h_52 dB_3_1_33.2.1.2.1 ?_
                                  refine lv_topi (fun y_53 ey_53 => ?_)
                                  have e_ := (ey_53.trans ey_40.symm).symm
                                  subst e_
                                  skip
                                  refine lv_iload hx hb dB_3_1_33.2.1.2.2 (lv_at hl 4 rfl) ?_
                                  refine lv_icmp_ne (tgt := 229) hx hb dB_3_1_33.2.2.1.1 (by decide) (fun c_54 => ?_) (fun c_54 => ?_)
                                  · have t_54 : ¬ y_40.toInt = x4_15.toInt := fun h => c_54 (Int32.toInt_inj.mp h)
                                    refine lv_iconst (v := 0) hx hb dB_3_1_34.1.2.2.1 (by decide) ?_
                                    exact JOIN_30 (0 : Int32) _ _ _ (by (repeat' split) <;> omega) ⟨hP, hD⟩ hS (lv_sub hl [0, 1, 2, 3, 4, 5, 6, 7, 8] rfl)
                                  · have t_54 : y_40.toInt = x4_15.toInt := congrArg Int32.toInt c_54
                                    refine lv_aload_n hx hb dB_3_1_33.2.2.1.2 rfl (lv_at hl 6 rfl) ?_
                                    refine va_get (ci := 12) (v := .ref g7) (C := RX12) (T := TX12) (N := 34) hx hb hts (fun _ h => List.mem_cons_of_mem _ (List.mem_append_right _ h)) hown hK.1 hP 0 rfl rfl 7 (by decide) (hts (.fieldLink RX12 16 "CutAtlasModel" "to" "[I") (List.mem_of_getElem? (i := 7) rfl)) (fun _ h9 => h9) rfl dB_3_1_33.2.2.2.1 ?_
                                    refine lv_iload hx hb dB_3_1_33.2.2.2.2 (lv_at hl 1 rfl) ?_
                                    have h_55 : vp_in x7_19 40 := in_I (by omega) (by omega)
                                    refine va_iald hx hb hK.1 hP 3 0 rfl rfl (i := x7_19) h_55 dB_3_1_34.1.1.1.1 ?_
                                    refine lv_topi (fun y_56 ey_56 => ?_)
                                    have e_ := (ey_56.trans ey_50.symm).symm
                                    subst e_
                                    skip
                                    refine lv_iload hx hb dB_3_1_34.1.1.1.2 (lv_at hl 3 rfl) ?_
                                    refine lv_icmp_ne (tgt := 229) hx hb dB_3_1_34.1.1.2.1 (by decide) (fun c_57 => ?_) (fun c_57 => ?_)
                                    · have t_57 : ¬ y_50.toInt = y_18.toInt := fun h => c_57 (Int32.toInt_inj.mp h)
                                      refine lv_iconst (v := 0) hx hb dB_3_1_34.1.2.2.1 (by decide) ?_
                                      exact JOIN_30 (0 : Int32) _ _ _ (by (repeat' split) <;> omega) ⟨hP, hD⟩ hS (lv_sub hl [0, 1, 2, 3, 4, 5, 6, 7, 8] rfl)
                                    · have t_57 : y_50.toInt = y_18.toInt := congrArg Int32.toInt c_57
                                      refine lv_iload hx hb dB_3_1_34.1.1.2.2 (lv_at hl 0 rfl) ?_
                                      refine lv_ineg hx hb dB_3_1_34.1.2.1.1 ?_
                                      refine lv_topi (fun y_58 ey_58 => ?_)
                                      have ty_58 : y_58.toInt = - u0_27.toInt := by rw [ey_58]; exact negI (by omega)
                                      refine lv_goto (tgt := 230) hx hb dB_3_1_34.1.2.1.2 (by decide) ?_
                                      exact JOIN_30 y_58 _ _ _ (by (repeat' split) <;> omega) ⟨hP, hD⟩ hS (lv_sub hl [0, 1, 2, 3, 4, 5, 6, 7, 8] rfl)
                                · have t_51 : y_50.toInt = x4_15.toInt := congrArg Int32.toInt c_51
                                  refine lv_iload hx hb dB_3_1_33.1.2.1.2 (lv_at hl 0 rfl) ?_
                                  refine lv_goto (tgt := 230) hx hb dB_3_1_33.1.2.2.1 (by decide) ?_
                                  exact JOIN_30 u0_27 _ _ _ (by (repeat' split) <;> omega) ⟨hP, hD⟩ hS (lv_sub hl [0, 1, 2, 3, 4, 5, 6, 7, 8] rfl)
                            · have t_38 : ¬ y_37.toInt = (0 : Int32).toInt := fun h => c_38 (Int32.toInt_inj.mp h)
                              refine lv_iconst (v := 0) hx hb dB_3_1_32.1.2.2.2 (by decide) ?_
                              refine lv_goto (tgt := 230) hx hb dB_3_1_32.2.1.1.1 (by decide) ?_
                              exact JOIN_30 (0 : Int32) _ _ _ (by (repeat' split) <;> omega) ⟨hP, hD⟩ hS (lv_sub hl [0, 1, 2, 3, 4, 5, 6, 7, 8] rfl)
                          refine lv_iload hx hb dB_3_1_31.1.2.2.1 (lv_at hl 0 rfl) ?_
                          refine lv_iload hx hb dB_3_1_31.1.2.2.2 (lv_at hl 2 rfl) ?_
                          refine lv_icmp_ge (tgt := 144) hx hb dB_3_1_31.2.1.1.1 (by decide) (fun c_59 => ?_) (fun c_59 => ?_)
                          · have t_59 : x6_19.toInt ≤ r_26.toInt := Int32.le_iff_toInt_le.mp c_59
                            refine lv_iload hx hb dB_3_1_31.2.1.2.2 (lv_at hl 2 rfl) ?_
                            exact JOIN_27 x6_19 _ _ _ (by first | with_reducible assumption | assumption | omega) ⟨hP, hD⟩ hS (lv_sub hl [0, 1, 2, 3, 4, 5, 6, 7, 8] rfl)
                          · have t_59 : ¬ x6_19.toInt ≤ r_26.toInt := fun h => c_59 (Int32.le_iff_toInt_le.mpr h)
                            refine lv_iload hx hb dB_3_1_31.2.1.1.2 (lv_at hl 0 rfl) ?_
                            refine lv_goto (tgt := 146) hx hb dB_3_1_31.2.1.2.1 (by decide) ?_
                            exact JOIN_27 r_26 _ _ _ (by first | with_reducible assumption | assumption | omega) ⟨hP, hD⟩ hS (lv_sub hl [0, 1, 2, 3, 4, 5, 6, 7, 8] rfl)
              · have t_14 : ¬ x4_13.toInt = a1.toInt := fun h => c_14 (Int32.toInt_inj.mp h)
                have hj1_ : 1 ≤ j_13 := Nat.pos_of_ne_zero (fun e0 => c_14 (by rw [v1_13, e0]; exact hb_.2.2.1))
                obtain ⟨i_, hi_, hc_, hl_⟩ := hb_.2.2.2 j_13 hj1_ v0_13
                have hy_ := hb_.1 j_13 v0_13
                have ey4_ : x4_13.toInt = (e23_5 j_13).toInt := by rw [v1_13]
                refine lv_aload_n hx hb dB_3_1_28.1.2.2.2 rfl (lv_at hl 2 rfl) ?_
                refine lv_aload_n hx hb dB_3_1_28.2.1.1.1 rfl (lv_at hl 2 rfl) ?_
                refine va_get (ci := 12) (v := .ref g24) (C := RX12) (T := TX12) (N := 34) hx hb hts (fun _ h => List.mem_cons_of_mem _ (List.mem_append_right _ h)) hown hK.1 hP 0 rfl rfl 24 (by decide) (hts (.fieldLink RX12 67 "CutAtlasModel" "cameFrom" "[I") (List.mem_of_getElem? (i := 3) rfl)) (fun _ h9 => h9) rfl dB_3_1_28.2.1.1.2 ?_
                refine lv_iload hx hb dB_3_1_28.2.1.2.1 (lv_at hl 0 rfl) ?_
                have h_60 : vp_in x4_13 12 := in_I (by omega) (by omega)
                refine va_iald hx hb hK.1 hP 8 0 rfl rfl (i := x4_13) h_60 dB_3_1_28.2.1.2.2 ?_
                refine lv_topi (fun y_61 ey_61 => ?_)
                have ky_61 : y_61.toInt = (e24_6 x4_13.toNatClampNeg).toInt := by rw [ey_61]
                have ry_61 : 0 ≤ y_61.toInt ∧ y_61.toInt ≤ 11 := by rw [ey_61]; exact g_9 _ (in_lt h_60)
                have hv_ : y_61 = e23_5 i_ := by rw [ey_61, v1_13]; exact hc_
                refine lv_iload hx hb dB_3_1_28.2.2.1.1 (lv_at hl 0 rfl) ?_
                refine ct_R hP hD [ob12_0_ mo s0 s1 t2 s3 s4 g5 g6 g7 g8 g9 g10 s11 g12 g13 g14 g15 g16 g17 g18 g19 g20 s21 g22 g23 g24 s25 s26 s27 s28 g29 g30 g31 g32 g33, ai_ cy g5 40 f5, ai_ cy g6 40 f6, ai_ cy g7 40 f7, ai_ cy g8 40 f8, az_ cy g10 40 f10, ai_ cy g22 40 c_g22_3] [0, 1, 2, 3, 4, 5, 6] (by decide) rfl (fun hPc hDw => ?_)
                have hFc := va_free (wc := []) hD hS hA [] rfl
                refine va_calli (va_runV (As := [.int y_61, .int x4_13]) (rest := []) ⟨hx, hb, hml, hown, hts⟩ (c_X12_leftOf l D cy H.size mo g5 g6 g7 g8 g9 g10 g12 g13 g14 g15 g16 g17 g18 g19 g20 g22 g23 g24 g29 g30 g31 g32 g33 s0 s1 s3 s4 s11 s21 s25 s26 s27 s28 t2 f5 f6 f7 f8 f10 c_g22_3 y_61 x4_13 (by first | with_reducible assumption | omega | assumption) (by first | with_reducible assumption | omega | assumption) (by first | with_reducible assumption | assumption | omega) (by first | with_reducible assumption | assumption | omega)) (cwV 2 hts gX12_flowOf_X12_leftOf rfl rfl rfl ⟨rfl, hd_X12_leftOf⟩ ⟨Nat.le_of_ble_eq_true rfl, Nat.le_of_ble_eq_true rfl⟩) ⟨bl_, va_recvX hK.1 hP (ci := 12) (q0 := 0) rfl rfl, fun U hU hW => ⟨rfl, by rw [hU], by rw [hU]; exact hPc, kk_mv hW hK, hDw⟩⟩ rfl rfl hl.1 rfl (lv_room (Nat.le_of_ble_eq_true rfl)) dB_3_1_28.2.2.1.2 ⟨Nat.le_of_ble_eq_true rfl, Nat.le_of_ble_eq_true rfl⟩) hS (fun q _ h => hFc q h) hFc (fun r_62 u t H locs ht hvm hw hB hz1 hk1 hS => ?_)
                have hP : va_P D vwCl _ H := ro_keep hP hk1
                obtain ⟨f0_r_62, f1_r_62⟩ := hw
                have hp_ : 0 < r_62.toInt := by rw [f0_r_62, hv_, v1_13]; exact hl_
                refine lv_istore (lv' := [(5, .int r_62), (4, .int x4_13), (3, .int x3_13), (0, .ref mo), (1, .int a1), (2, .int a2)]) hx hb dB_3_1_28.2.2.2.1 hl (by decide) rfl (fun ls hl => ?_)
                refine lv_iload hx hb dB_3_1_28.2.2.2.2 (lv_at hl 0 rfl) ?_
                refine lv_iload_n hx hb dB_3_1_29.1.1.1.1 rfl (lv_at hl 2 rfl) ?_
                refine lv_icmp_ge (tgt := 68) hx hb dB_3_1_29.1.1.1.2 (by decide) (fun c_63 => ?_) (fun c_63 => ?_)
                · have t_63 : x3_13.toInt ≤ r_62.toInt := Int32.le_iff_toInt_le.mp c_63
                  refine lv_iload_n hx hb dB_3_1_29.1.2.1.1 rfl (lv_at hl 2 rfl) ?_
                  refine lv_istore_n (lv' := [(3, .int x3_13), (5, .int r_62), (4, .int x4_13), (0, .ref mo), (1, .int a1), (2, .int a2)]) hx hb dB_3_1_29.1.2.1.2 rfl hl (by decide) rfl (fun ls hl => ?_)
                  refine lv_aload_n hx hb dB_3_1_29.1.2.2.1 rfl (lv_at hl 3 rfl) ?_
                  refine va_get (ci := 12) (v := .ref g24) (C := RX12) (T := TX12) (N := 34) hx hb hts (fun _ h => List.mem_cons_of_mem _ (List.mem_append_right _ h)) hown hK.1 hP 0 rfl rfl 24 (by decide) (hts (.fieldLink RX12 67 "CutAtlasModel" "cameFrom" "[I") (List.mem_of_getElem? (i := 3) rfl)) (fun _ h9 => h9) rfl dB_3_1_29.1.2.2.2 ?_
                  refine lv_iload hx hb dB_3_1_29.2.1.1.1 (lv_at hl 2 rfl) ?_
                  have h_64 : vp_in x4_13 12 := in_I (by omega) (by omega)
                  refine va_iald hx hb hK.1 hP 8 0 rfl rfl (i := x4_13) h_64 dB_3_1_29.2.1.1.2 ?_
                  refine lv_topi (fun y_65 ey_65 => ?_)
                  have e_ := (ey_65.trans ey_61.symm).symm
                  subst e_
                  skip
                  refine lv_istore (lv' := [(4, .int y_61), (3, .int x3_13), (5, .int r_62), (0, .ref mo), (1, .int a1), (2, .int a2)]) hx hb dB_3_1_29.2.1.2.1 hl (by decide) rfl (fun ls hl => ?_)
                  refine lv_goto (tgt := 36) hx hb dB_3_1_29.2.1.2.2 (by decide) ?_
                  exact ih_13 y_61 x3_13 i_ _ _ _ (by omega) (by first | with_reducible assumption | omega | assumption) (by first | with_reducible assumption | assumption | exact ht_.symm) (by first | with_reducible assumption | omega | assumption) ⟨hP, hD⟩ hS (lv_sub hl [0, 1, 3, 4, 5] rfl)
                · have t_63 : ¬ x3_13.toInt ≤ r_62.toInt := fun h => c_63 (Int32.le_iff_toInt_le.mpr h)
                  refine lv_iload hx hb dB_3_1_29.1.1.2.1 (lv_at hl 0 rfl) ?_
                  refine lv_goto (tgt := 69) hx hb dB_3_1_29.1.1.2.2 (by decide) ?_
                  refine lv_istore_n (lv' := [(3, .int r_62), (5, .int r_62), (4, .int x4_13), (0, .ref mo), (1, .int a1), (2, .int a2)]) hx hb dB_3_1_29.1.2.1.2 rfl hl (by decide) rfl (fun ls hl => ?_)
                  refine lv_aload_n hx hb dB_3_1_29.1.2.2.1 rfl (lv_at hl 3 rfl) ?_
                  refine va_get (ci := 12) (v := .ref g24) (C := RX12) (T := TX12) (N := 34) hx hb hts (fun _ h => List.mem_cons_of_mem _ (List.mem_append_right _ h)) hown hK.1 hP 0 rfl rfl 24 (by decide) (hts (.fieldLink RX12 67 "CutAtlasModel" "cameFrom" "[I") (List.mem_of_getElem? (i := 3) rfl)) (fun _ h9 => h9) rfl dB_3_1_29.1.2.2.2 ?_
                  refine lv_iload hx hb dB_3_1_29.2.1.1.1 (lv_at hl 2 rfl) ?_
                  have h_66 : vp_in x4_13 12 := in_I (by omega) (by omega)
                  refine va_iald hx hb hK.1 hP 8 0 rfl rfl (i := x4_13) h_66 dB_3_1_29.2.1.1.2 ?_
                  refine lv_topi (fun y_67 ey_67 => ?_)
                  have e_ := (ey_67.trans ey_61.symm).symm
                  subst e_
                  skip
                  refine lv_istore (lv' := [(4, .int y_61), (3, .int r_62), (5, .int r_62), (0, .ref mo), (1, .int a1), (2, .int a2)]) hx hb dB_3_1_29.2.1.2.1 hl (by decide) rfl (fun ls hl => ?_)
                  refine lv_goto (tgt := 36) hx hb dB_3_1_29.2.1.2.2 (by decide) ?_
                  exact ih_13 y_61 r_62 i_ _ _ _ (by omega) (by first | with_reducible assumption | omega | assumption) (by first | with_reducible assumption | assumption | exact ht_.symm) (by first | with_reducible assumption | omega | assumption) ⟨hP, hD⟩ hS (lv_sub hl [0, 1, 3, 4, 5] rfl)
    · have t_2 : ¬ (40 : Int32).toInt ≤ x3_1.toInt := fun h => c_2 (Int32.le_iff_toInt_le.mpr h)
      refine lv_aload_n hx hb dB_3_1_27.1.2.1.1 rfl (lv_at hl 1 rfl) ?_
      refine va_get (ci := 12) (v := .ref g22) (C := RX12) (T := TX12) (N := 34) hx hb hts (fun _ h => List.mem_cons_of_mem _ (List.mem_append_right _ h)) hown hK.1 hP 0 rfl rfl 22 (by decide) (hts (.fieldLink RX12 61 "CutAtlasModel" "flows" "[I") (List.mem_of_getElem? (i := 1) rfl)) (fun _ h9 => h9) rfl dB_3_1_27.1.2.1.2 ?_
      refine lv_iload_n hx hb dB_3_1_27.1.2.2.1 rfl (lv_at hl 0 rfl) ?_
      refine lv_iconst (v := 0) hx hb dB_3_1_27.1.2.2.2 (by decide) ?_
      have h_68 : vp_in x3_1 40 := in_I (by omega) (by omega)
      refine va_iast hx hb hK.1 hP hD hS 6 0 rfl rfl (i := x3_1) h_68 dB_3_1_27.2.1.1.1 (fun H locs hP hD hS => ?_)
      obtain ⟨f_69, ef_69⟩ : ∃ g : Nat → Int32, g = upd c_g22_1 x3_1.toNatClampNeg (0 : Int32) := ⟨_, rfl⟩
      refine pd_K (D := D) (cl := vwCl) (H := H) (A := A) [ob12_0_ mo s0 s1 t2 s3 s4 g5 g6 g7 g8 g9 g10 s11 g12 g13 g14 g15 g16 g17 g18 g19 g20 s21 g22 g23 g24 s25 s26 s27 s28 g29 g30 g31 g32 g33, ai_ cy g5 40 f5, ai_ cy g6 40 f6, ai_ cy g7 40 f7, ai_ cy g8 40 f8, az_ cy g10 40 f10, ai_ cy g22 40 f_69, ai_ cy g23 12 f23, ai_ cy g24 12 f24] (by rw [ef_69]; exact hP) (by rw [ef_69]; exact hD) (fun hP hD => ?_)
      obtain ⟨y_70, ey_70⟩ : ∃ y : Int32, y = x3_1 + 1 := ⟨_, rfl⟩
      have ty_70 : y_70.toInt = x3_1.toInt + (1 : Int32).toInt := by rw [ey_70]; exact addI (by omega) (by omega)
      refine lv_iinc (v := y_70) (lv' := [(3, .int y_70), (0, .ref mo), (1, .int a1), (2, .int a2)]) hx hb dB_3_1_27.2.1.1.2 hl (k := 0) rfl (by rw [ey_70]; rfl) (by decide) rfl (fun ls hl => ?_)
      refine lv_goto (tgt := 2) hx hb dB_3_1_27.2.1.2.1 (by decide) ?_
      exact ih_1 y_70 f_69 _ _ _ (by omega) (by first | with_reducible assumption | omega | assumption) (by first | with_reducible assumption | omega | assumption) (by first | exact zero_st (by assumption) (by assumption) (by omega) (by omega) | (intro j hj; omega)) ⟨hP, hD⟩ hS (lv_sub hl [0, 1, 2, 3] rfl)
end
