set_option maxHeartbeats 4000000 in
set_option maxRecDepth 100000 in
/-- hasPlace in an empty net -/
theorem c_X3_hasPlace (l : Launch) (D : va_G) (cy : Nat → ClassId) (sz : Nat) (xn : Nat) (n1 : Nat) (n2 : Nat) (n3 : Nat) (n4 : Nat) (n5 : Nat) (a1 : Int64) : Met l yX3_hasPlace wsX3_hasPlace ({ frames := 0, cells := 0, slots := 0, locals := 0 }) (va_Pc [.ref xn, .long a1] (fun U => U.heap.size = sz ∧ va_P D vwCl [(xn, .inr (3, [.int 0, .int 0, .ref n1, .ref n2, .ref n3, .ref n4, .ref n5]))] U.heap ∧ kk_ D cy U ∧ va_D (fun _ => True) [(xn, .inr (3, [.int 0, .int 0, .ref n1, .ref n2, .ref n3, .ref n4, .ref n5]))])) (va_Qi (fun (r : Int32) (_ : Unit) => r = 0) (fun (_ : Unit) (_ : State) => True) (va_A [] sz)) 0 0 (va_A [] sz) := by
  refine Met.ofW (cc := cX3_hasPlace) (maxL := 3) (ret := (some .boolean)) (by decide) rfl ?_
  intro p e s m args below meth c s₁ B hml hv
  obtain ⟨rfl, hsz, hP, hK, hD0⟩ := hv
  have hx := B.exec
  have hb := B.bytes
  have hr := B.returns
  have hts := atoms_spec (ws := wsX3_hasPlace) B.pre
  have hown : s.vm.findClass RX3 = some m.cls := findClass_of_methodNamed B.named
  have hlocks := B.notSynchronized
  subst hsz
  have hD : va_D (va_A [] s.heap.size) [] := dd_nil
  generalize hAe : va_A [] s.heap.size = A at hD ⊢
  have hA : ∀ q : Nat, s.heap.size ≤ q → A q := fun q h => by rw [← hAe]; exact Or.inr h
  have hS : va_S A s.heap s.heap [] := va_S.rf
  have hl := lv_entry ([.ref xn, .long a1]) (n := 3) (Nat.le_of_ble_eq_true rfl)
  rw [lg_entry_eq]
  generalize (lg_sl ([.ref xn, .long a1]) ++ List.replicate (3 - (lg_sl ([.ref xn, .long a1])).length) Slot.unset).toArray = ls at hl ⊢
  have hl : lv_has ls 3 [(0, .ref xn), (1, .long a1)] := hl
  have z0 : (0 : Int32).toInt = 0 := by decide
  have zl0 : (0 : Int64).toInt = 0 := by decide
  refine lv_lload_n hx hb dX3_hasPlace_0 rfl (lv_at hl 1 rfl) ?_
  refine lv_lconst (v := 0) hx hb dX3_hasPlace_1 (by decide) ?_
  refine W.lcmp hx hb dX3_hasPlace_2 ?_
  refine lv_if_lt (tgt := 20) hx hb dX3_hasPlace_3 (by decide) (fun c_1 => ?_) (fun c_1 => ?_)
  · have t_1 : a1.toInt < (0 : Int64).toInt := Int64.lt_iff_toInt_lt.mp ((lg_cmp_lt a1 0).mp c_1)
    refine lv_iconst (v := 0) hx hb dX3_hasPlace_20 (by decide) ?_
    exact W.zret (ty := .boolean) (v := 0) hx hb hr (by decide) (fun t ht hW => ⟨⟨0, (), rfl, rfl, trivial⟩, hS.F ht⟩) hS.2.2 dX3_hasPlace_21
  · have t_1 : ¬ a1.toInt < (0 : Int64).toInt := fun h => c_1 ((lg_cmp_lt a1 0).mpr (Int64.lt_iff_toInt_lt.mpr h))
    refine lv_lload_n hx hb dX3_hasPlace_6 rfl (lv_at hl 1 rfl) ?_
    refine lv_aload_n hx hb dX3_hasPlace_7 rfl (lv_at hl 0 rfl) ?_
    refine va_get (ci := 3) (v := .int 0) (C := RX3) (T := TX3) (N := 7) hx hb hts (fun _ h => List.mem_cons_of_mem _ (List.mem_append_right _ h)) hown hK.1 hP 0 rfl rfl 0 (by decide) (hts (.fieldLink RX3 9 "CutAtlas$Net" "places" "I") (by decide +kernel)) (fun _ h9 => h9) rfl dX3_hasPlace_8 ?_
    refine lv_i2l (v := 0) hx hb dX3_hasPlace_11 (by decide) ?_
    refine W.lcmp hx hb dX3_hasPlace_12 ?_
    refine lv_if_ge (tgt := 20) hx hb dX3_hasPlace_13 (by decide) (fun c_2 => ?_) (fun c_2 => ?_)
    · have t_2 : (0 : Int64).toInt ≤ a1.toInt := Int64.le_iff_toInt_le.mp ((lg_cmp_ge a1 0).mp c_2)
      refine lv_iconst (v := 0) hx hb dX3_hasPlace_20 (by decide) ?_
      exact W.zret (ty := .boolean) (v := 0) hx hb hr (by decide) (fun t ht hW => ⟨⟨0, (), rfl, rfl, trivial⟩, hS.F ht⟩) hS.2.2 dX3_hasPlace_21
    · have t_2 : ¬ (0 : Int64).toInt ≤ a1.toInt := fun h => c_2 ((lg_cmp_ge a1 0).mpr (Int64.le_iff_toInt_le.mpr h))
      exfalso; omega

set_option maxHeartbeats 4000000 in
set_option maxRecDepth 100000 in
theorem c_X3_hasPair (l : Launch) (D : va_G) (cy : Nat → ClassId) (sz : Nat) (xn : Nat) (n1 : Nat) (n2 : Nat) (n3 : Nat) (n4 : Nat) (n5 : Nat) (a1 : Int64) (a2 : Int64) : Met l yX3_hasPair wsX3_hasPair ({ frames := 1, cells := 0, slots := 0, locals := 22 }) (va_Pc [.ref xn, .long a1, .long a2] (fun U => U.heap.size = sz ∧ va_P D vwCl [(xn, .inr (3, [.int 0, .int 0, .ref n1, .ref n2, .ref n3, .ref n4, .ref n5]))] U.heap ∧ kk_ D cy U ∧ va_D (fun _ => True) [(xn, .inr (3, [.int 0, .int 0, .ref n1, .ref n2, .ref n3, .ref n4, .ref n5]))])) (va_Qi (fun (r : Int32) (_ : Unit) => r = 0) (fun (_ : Unit) (_ : State) => True) (va_A [] sz)) 0 0 (va_A [] sz) := by
  refine Met.ofW (cc := cX3_hasPair) (maxL := 5) (ret := (some .boolean)) (by decide) rfl ?_
  intro p e s m args below meth c s₁ B hml hv
  obtain ⟨rfl, hsz, hP, hK, hD0⟩ := hv
  have hx := B.exec
  have hb := B.bytes
  have hr := B.returns
  have hts := atoms_spec (ws := wsX3_hasPair) B.pre
  have hown : s.vm.findClass RX3 = some m.cls := findClass_of_methodNamed B.named
  have hlocks := B.notSynchronized
  subst hsz
  have hD : va_D (va_A [] s.heap.size) [] := dd_nil
  generalize hAe : va_A [] s.heap.size = A at hD ⊢
  have hA : ∀ q : Nat, s.heap.size ≤ q → A q := fun q h => by rw [← hAe]; exact Or.inr h
  have hS : va_S A s.heap s.heap [] := va_S.rf
  have hl := lv_entry ([.ref xn, .long a1, .long a2]) (n := 5) (Nat.le_of_ble_eq_true rfl)
  rw [lg_entry_eq]
  generalize (lg_sl ([.ref xn, .long a1, .long a2]) ++ List.replicate (5 - (lg_sl ([.ref xn, .long a1, .long a2])).length) Slot.unset).toArray = ls at hl ⊢
  have hl : lv_has ls 5 [(0, .ref xn), (1, .long a1), (3, .long a2)] := hl
  refine lv_aload_n hx hb dX3_hasPair_0 rfl (lv_at hl 0 rfl) ?_
  refine lv_lload_n hx hb dX3_hasPair_1 rfl (lv_at hl 1 rfl) ?_
  have hPc := hP.sub (ws' := [(xn, .inr (3, [.int 0, .int 0, .ref n1, .ref n2, .ref n3, .ref n4, .ref n5]))]) [0] rfl
  have hDw : va_D (fun _ => True) [(xn, .inr (3, [.int 0, .int 0, .ref n1, .ref n2, .ref n3, .ref n4, .ref n5]))] := hD0.sub [0] (by decide) rfl
  have hFc := va_free (wc := []) hD hS hA [] rfl
  refine va_calli (va_runV (As := [.long a1]) (rest := []) ⟨hx, hb, hml, hown, hts⟩ (c_X3_hasPlace l D cy s.heap.size xn n1 n2 n3 n4 n5 a1) (cwV 1 hts gX3_hasPair_X3_hasPlace rfl rfl rfl (by decide +kernel) ⟨Nat.le_of_ble_eq_true rfl, Nat.le_of_ble_eq_true rfl⟩) ⟨bl_, va_recv hK.1 hPc (ci := 3) (q0 := 0) rfl rfl, fun U hU hW => ⟨rfl, by rw [hU], by rw [hU]; exact hPc, kk_mv hW hK, hDw⟩⟩ rfl rfl hl.1 rfl (lv_room (Nat.le_of_ble_eq_true rfl)) dX3_hasPair_2 ⟨Nat.le_of_ble_eq_true rfl, Nat.le_of_ble_eq_true rfl⟩) hS (fun q _ h => hFc q h) hFc (fun r_1 u t H locs ht hvm hw hB hz1 hk1 hS => ?_)
  have hP := ro_keep hP hk1
  have hP : va_P D vwCl [(xn, .inr (3, [.int 0, .int 0, .ref n1, .ref n2, .ref n3, .ref n4, .ref n5]))] H := hP
  have e_ := hw.symm
  subst e_
  refine lv_if_eq (tgt := 26) hx hb dX3_hasPair_5 (by decide) (fun c_2 => ?_) (fun c_2 => ?_)
  · have _ := c_2
    refine lv_iconst (v := 0) hx hb dX3_hasPair_26 (by decide) ?_
    exact W.zret (ty := .boolean) (v := 0) hx hb hr (by decide) (fun t ht hW => ⟨⟨0, (), rfl, rfl, trivial⟩, hS.F ht⟩) hS.2.2 dX3_hasPair_27
  · exact absurd c_2 (by decide)

set_option maxHeartbeats 4000000 in
set_option maxRecDepth 100000 in
theorem c_X3_hasLine (l : Launch) (D : va_G) (cy : Nat → ClassId) (sz : Nat) (xn : Nat) (n1 : Nat) (n2 : Nat) (n3 : Nat) (n4 : Nat) (n5 : Nat) (a1 : Int32) : Met l yX3_hasLine wsX3_hasLine ({ frames := 0, cells := 0, slots := 0, locals := 0 }) (va_Pc [.ref xn, .int a1] (fun U => U.heap.size = sz ∧ va_P D vwCl [(xn, .inr (3, [.int 0, .int 0, .ref n1, .ref n2, .ref n3, .ref n4, .ref n5]))] U.heap ∧ kk_ D cy U ∧ va_D (fun _ => True) [(xn, .inr (3, [.int 0, .int 0, .ref n1, .ref n2, .ref n3, .ref n4, .ref n5]))])) (va_Qi (fun (r : Int32) (_ : Unit) => r = 0) (fun (_ : Unit) (_ : State) => True) (va_A [] sz)) 0 0 (va_A [] sz) := by
  refine Met.ofW (cc := cX3_hasLine) (maxL := 2) (ret := (some .boolean)) (by decide) rfl ?_
  intro p e s m args below meth c s₁ B hml hv
  obtain ⟨rfl, hsz, hP, hK, hD0⟩ := hv
  have hx := B.exec
  have hb := B.bytes
  have hr := B.returns
  have hts := atoms_spec (ws := wsX3_hasLine) B.pre
  have hown : s.vm.findClass RX3 = some m.cls := findClass_of_methodNamed B.named
  have hlocks := B.notSynchronized
  subst hsz
  have hD : va_D (va_A [] s.heap.size) [] := dd_nil
  generalize hAe : va_A [] s.heap.size = A at hD ⊢
  have hA : ∀ q : Nat, s.heap.size ≤ q → A q := fun q h => by rw [← hAe]; exact Or.inr h
  have hS : va_S A s.heap s.heap [] := va_S.rf
  have hl := lv_entry ([.ref xn, .int a1]) (n := 2) (Nat.le_of_ble_eq_true rfl)
  rw [lg_entry_eq]
  generalize (lg_sl ([.ref xn, .int a1]) ++ List.replicate (2 - (lg_sl ([.ref xn, .int a1])).length) Slot.unset).toArray = ls at hl ⊢
  have hl : lv_has ls 2 [(0, .ref xn), (1, .int a1)] := hl
  have z0 : (0 : Int32).toInt = 0 := by decide
  refine lv_iload_n hx hb dX3_hasLine_0 rfl (lv_at hl 1 rfl) ?_
  refine lv_if_lt (tgt := 16) hx hb dX3_hasLine_1 (by decide) (fun c_1 => ?_) (fun c_1 => ?_)
  · have t_1 : a1.toInt < (0 : Int32).toInt := Int32.lt_iff_toInt_lt.mp c_1
    refine lv_iconst (v := 0) hx hb dX3_hasLine_16 (by decide) ?_
    exact W.zret (ty := .boolean) (v := 0) hx hb hr (by decide) (fun t ht hW => ⟨⟨0, (), rfl, rfl, trivial⟩, hS.F ht⟩) hS.2.2 dX3_hasLine_17
  · have t_1 : ¬ a1.toInt < (0 : Int32).toInt := fun h => c_1 (Int32.lt_iff_toInt_lt.mpr h)
    refine lv_iload_n hx hb dX3_hasLine_4 rfl (lv_at hl 1 rfl) ?_
    refine lv_aload_n hx hb dX3_hasLine_5 rfl (lv_at hl 0 rfl) ?_
    refine va_get (ci := 3) (v := .int 0) (C := RX3) (T := TX3) (N := 7) hx hb hts (fun _ h => List.mem_cons_of_mem _ (List.mem_append_right _ h)) hown hK.1 hP 0 rfl rfl 1 (by decide) (hts (.fieldLink RX3 15 "CutAtlas$Net" "lines" "I") (by decide +kernel)) (fun _ h9 => h9) rfl dX3_hasLine_6 ?_
    refine lv_icmp_ge (tgt := 16) hx hb dX3_hasLine_9 (by decide) (fun c_2 => ?_) (fun c_2 => ?_)
    · have t_2 : (0 : Int32).toInt ≤ a1.toInt := Int32.le_iff_toInt_le.mp c_2
      refine lv_iconst (v := 0) hx hb dX3_hasLine_16 (by decide) ?_
      exact W.zret (ty := .boolean) (v := 0) hx hb hr (by decide) (fun t ht hW => ⟨⟨0, (), rfl, rfl, trivial⟩, hS.F ht⟩) hS.2.2 dX3_hasLine_17
    · have t_2 : ¬ (0 : Int32).toInt ≤ a1.toInt := fun h => c_2 (Int32.le_iff_toInt_le.mpr h)
      exfalso; omega

set_option maxHeartbeats 4000000 in
set_option maxRecDepth 100000 in
theorem c_X3_isWhole (l : Launch) (D : va_G) (cy : Nat → ClassId) (sz : Nat) (xn : Nat) (n1 : Nat) (n2 : Nat) (n3 : Nat) (n4 : Nat) (n5 : Nat) : Met l yX3_isWhole wsX3_isWhole ({ frames := 0, cells := 0, slots := 0, locals := 0 }) (va_Pc [.ref xn] (fun U => U.heap.size = sz ∧ va_P D vwCl [(xn, .inr (3, [.int 0, .int 0, .ref n1, .ref n2, .ref n3, .ref n4, .ref n5]))] U.heap ∧ kk_ D cy U ∧ va_D (fun _ => True) [(xn, .inr (3, [.int 0, .int 0, .ref n1, .ref n2, .ref n3, .ref n4, .ref n5]))])) (va_Qi (fun (r : Int32) (_ : Unit) => r = 0) (fun (_ : Unit) (_ : State) => True) (va_A [] sz)) 0 0 (va_A [] sz) := by
  refine Met.ofW (cc := cX3_isWhole) (maxL := 3) (ret := (some .boolean)) (by decide) rfl ?_
  intro p e s m args below meth c s₁ B hml hv
  obtain ⟨rfl, hsz, hP, hK, hD0⟩ := hv
  have hx := B.exec
  have hb := B.bytes
  have hr := B.returns
  have hts := atoms_spec (ws := wsX3_isWhole) B.pre
  have hown : s.vm.findClass RX3 = some m.cls := findClass_of_methodNamed B.named
  have hlocks := B.notSynchronized
  subst hsz
  have hD : va_D (va_A [] s.heap.size) [] := dd_nil
  generalize hAe : va_A [] s.heap.size = A at hD ⊢
  have hA : ∀ q : Nat, s.heap.size ≤ q → A q := fun q h => by rw [← hAe]; exact Or.inr h
  have hS : va_S A s.heap s.heap [] := va_S.rf
  have hl := lv_entry ([.ref xn]) (n := 3) (Nat.le_of_ble_eq_true rfl)
  rw [lg_entry_eq]
  generalize (lg_sl ([.ref xn]) ++ List.replicate (3 - (lg_sl ([.ref xn])).length) Slot.unset).toArray = ls at hl ⊢
  have hl : lv_has ls 3 [(0, .ref xn)] := hl
  refine lv_iconst (v := 0) hx hb dX3_isWhole_0 (by decide) ?_
  refine lv_istore_n (lv' := [(1, .int 0), (0, .ref xn)]) hx hb dX3_isWhole_1 rfl hl (by decide) rfl (fun ls hl => ?_)
  refine lv_iload_n hx hb dX3_isWhole_2 rfl (lv_at hl 0 rfl) ?_
  refine lv_aload_n hx hb dX3_isWhole_3 rfl (lv_at hl 1 rfl) ?_
  refine va_get (ci := 3) (v := .int 0) (C := RX3) (T := TX3) (N := 7) hx hb hts (fun _ h => List.mem_cons_of_mem _ (List.mem_append_right _ h)) hown hK.1 hP 0 rfl rfl 1 (by decide) (hts (.fieldLink RX3 15 "CutAtlas$Net" "lines" "I") (by decide +kernel)) (fun _ h9 => h9) rfl dX3_isWhole_4 ?_
  refine lv_icmp_ge (tgt := 56) hx hb dX3_isWhole_7 (by decide) (fun c_1 => ?_) (fun c_1 => ?_)
  · have _ := c_1
    refine lv_aload_n hx hb dX3_isWhole_56 rfl (lv_at hl 1 rfl) ?_
    refine va_get (ci := 3) (v := .int 0) (C := RX3) (T := TX3) (N := 7) hx hb hts (fun _ h => List.mem_cons_of_mem _ (List.mem_append_right _ h)) hown hK.1 hP 0 rfl rfl 0 (by decide) (hts (.fieldLink RX3 9 "CutAtlas$Net" "places" "I") (by decide +kernel)) (fun _ h9 => h9) rfl dX3_isWhole_57 ?_
    refine lv_iconst (v := 2) hx hb dX3_isWhole_60 (by decide) ?_
    refine lv_icmp_lt (tgt := 68) hx hb dX3_isWhole_61 (by decide) (fun c_2 => ?_) (fun c_2 => ?_)
    · have _ := c_2
      refine lv_iconst (v := 0) hx hb dX3_isWhole_68 (by decide) ?_
      exact W.zret (ty := .boolean) (v := 0) hx hb hr (by decide) (fun t ht hW => ⟨⟨0, (), rfl, rfl, trivial⟩, hS.F ht⟩) hS.2.2 dX3_isWhole_69
    · exact absurd c_2 (by decide)
  · exact absurd c_1 (by decide)

set_option maxHeartbeats 4000000 in
set_option maxRecDepth 100000 in
theorem c_X3_missingLines (l : Launch) (D : va_G) (cy : Nat → ClassId) (sz : Nat) (xn : Nat) (n1 : Nat) (n2 : Nat) (n3 : Nat) (n4 : Nat) (n5 : Nat) : Met l yX3_missingLines wsX3_missingLines ({ frames := 0, cells := 0, slots := 0, locals := 0 }) (va_Pc [.ref xn] (fun U => U.heap.size = sz ∧ va_P D vwCl [(xn, .inr (3, [.int 0, .int 0, .ref n1, .ref n2, .ref n3, .ref n4, .ref n5]))] U.heap ∧ kk_ D cy U ∧ va_D (fun _ => True) [(xn, .inr (3, [.int 0, .int 0, .ref n1, .ref n2, .ref n3, .ref n4, .ref n5]))])) (va_Qi (fun (r : Int32) (_ : Unit) => r = 0) (fun (_ : Unit) (_ : State) => True) (va_A [] sz)) 0 0 (va_A [] sz) := by
  refine Met.ofW (cc := cX3_missingLines) (maxL := 3) (ret := (some .int)) (by decide) rfl ?_
  intro p e s m args below meth c s₁ B hml hv
  obtain ⟨rfl, hsz, hP, hK, hD0⟩ := hv
  have hx := B.exec
  have hb := B.bytes
  have hr := B.returns
  have hts := atoms_spec (ws := wsX3_missingLines) B.pre
  have hown : s.vm.findClass RX3 = some m.cls := findClass_of_methodNamed B.named
  have hlocks := B.notSynchronized
  subst hsz
  have hD : va_D (va_A [] s.heap.size) [] := dd_nil
  generalize hAe : va_A [] s.heap.size = A at hD ⊢
  have hA : ∀ q : Nat, s.heap.size ≤ q → A q := fun q h => by rw [← hAe]; exact Or.inr h
  have hS : va_S A s.heap s.heap [] := va_S.rf
  have hl := lv_entry ([.ref xn]) (n := 3) (Nat.le_of_ble_eq_true rfl)
  rw [lg_entry_eq]
  generalize (lg_sl ([.ref xn]) ++ List.replicate (3 - (lg_sl ([.ref xn])).length) Slot.unset).toArray = ls at hl ⊢
  have hl : lv_has ls 3 [(0, .ref xn)] := hl
  refine lv_iconst (v := 0) hx hb dX3_missingLines_0 (by decide) ?_
  refine lv_istore_n (lv' := [(1, .int 0), (0, .ref xn)]) hx hb dX3_missingLines_1 rfl hl (by decide) rfl (fun ls hl => ?_)
  refine lv_iconst (v := 0) hx hb dX3_missingLines_2 (by decide) ?_
  refine lv_istore_n (lv' := [(2, .int 0), (1, .int 0), (0, .ref xn)]) hx hb dX3_missingLines_3 rfl hl (by decide) rfl (fun ls hl => ?_)
  refine lv_iload_n hx hb dX3_missingLines_4 rfl (lv_at hl 0 rfl) ?_
  refine lv_aload_n hx hb dX3_missingLines_5 rfl (lv_at hl 2 rfl) ?_
  refine va_get (ci := 3) (v := .int 0) (C := RX3) (T := TX3) (N := 7) hx hb hts (fun _ h => List.mem_cons_of_mem _ (List.mem_append_right _ h)) hown hK.1 hP 0 rfl rfl 1 (by decide) (hts (.fieldLink RX3 15 "CutAtlas$Net" "lines" "I") (by decide +kernel)) (fun _ h9 => h9) rfl dX3_missingLines_6 ?_
  refine lv_icmp_ge (tgt := 34) hx hb dX3_missingLines_9 (by decide) (fun c_1 => ?_) (fun c_1 => ?_)
  · have _ := c_1
    refine lv_iload_n hx hb dX3_missingLines_34 rfl (lv_at hl 1 rfl) ?_
    exact W.iret (v := 0) hx hb hr (fun t ht hW => ⟨⟨0, (), rfl, rfl, trivial⟩, hS.F ht⟩) hS.2.2 dX3_missingLines_35
  · exact absurd c_1 (by decide)

set_option maxHeartbeats 4000000 in
set_option maxRecDepth 100000 in
theorem c_X11_lineRefusal (l : Launch) (D : va_G) (cy : Nat → ClassId) (sz : Nat) (xo : Nat) (xk : Nat) (xn : Nat) (xc : Nat) (xh : Nat) (xt : Nat) (xw : Nat) (xm : Nat) (xp : Nat) (n1 : Nat) (n2 : Nat) (n3 : Nat) (n4 : Nat) (n5 : Nat) (a1 : Int64) (a2 : Int64) (a3 : Int64) (a4 : Int64) (a5 : Int64) : Met l yX11_lineRefusal wsX11_lineRefusal ({ frames := 2, cells := 0, slots := 0, locals := 46 }) (va_Pc [.ref xo, .long a1, .long a2, .long a3, .long a4, .long a5] (fun U => U.heap.size = sz ∧ va_P D vwCl [(xo, .inr (11, [.ref xk, .ref xn, .ref xc, .ref xh, .ref xt, .ref xw, .ref xm, .ref xp, .int 0, .int 0, .long 0, .int 0])), (xn, .inr (3, [.int 0, .int 0, .ref n1, .ref n2, .ref n3, .ref n4, .ref n5]))] U.heap ∧ kk_ D cy U ∧ va_D (fun _ => True) [(xo, .inr (11, [.ref xk, .ref xn, .ref xc, .ref xh, .ref xt, .ref xw, .ref xm, .ref xp, .int 0, .int 0, .long 0, .int 0])), (xn, .inr (3, [.int 0, .int 0, .ref n1, .ref n2, .ref n3, .ref n4, .ref n5]))])) (va_Qi (fun (r : Int32) (_ : Unit) => r = (-1)) (fun (_ : Unit) (_ : State) => True) (va_A [] sz)) 0 0 (va_A [] sz) := by
  refine Met.ofW (cc := cX11_lineRefusal) (maxL := 11) (ret := (some .int)) (by decide) rfl ?_
  intro p e s m args below meth c s₁ B hml hv
  obtain ⟨rfl, hsz, hP, hK, hD0⟩ := hv
  have hx := B.exec
  have hb := B.bytes
  have hr := B.returns
  have hts := atoms_spec (ws := wsX11_lineRefusal) B.pre
  have hown : s.vm.findClass RX11 = some m.cls := findClass_of_methodNamed B.named
  have hlocks := B.notSynchronized
  subst hsz
  have hD : va_D (va_A [] s.heap.size) [] := dd_nil
  generalize hAe : va_A [] s.heap.size = A at hD ⊢
  have hA : ∀ q : Nat, s.heap.size ≤ q → A q := fun q h => by rw [← hAe]; exact Or.inr h
  have hS : va_S A s.heap s.heap [] := va_S.rf
  have hl := lv_entry ([.ref xo, .long a1, .long a2, .long a3, .long a4, .long a5]) (n := 11) (Nat.le_of_ble_eq_true rfl)
  rw [lg_entry_eq]
  generalize (lg_sl ([.ref xo, .long a1, .long a2, .long a3, .long a4, .long a5]) ++ List.replicate (11 - (lg_sl ([.ref xo, .long a1, .long a2, .long a3, .long a4, .long a5])).length) Slot.unset).toArray = ls at hl ⊢
  have hl : lv_has ls 11 [(0, .ref xo), (1, .long a1), (3, .long a2), (5, .long a3), (7, .long a4), (9, .long a5)] := hl
  have z0 : (0 : Int32).toInt = 0 := by decide
  have zl0 : (0 : Int64).toInt = 0 := by decide
  have zl5 : (5 : Int64).toInt = 5 := by decide
  refine lv_lload_n hx hb dX11_lineRefusal_0 rfl (lv_at hl 1 rfl) ?_
  refine lv_lconst (v := 0) hx hb dX11_lineRefusal_1 (by decide) ?_
  refine W.lcmp hx hb dX11_lineRefusal_2 ?_
  refine lv_if_lt (tgt := 27) hx hb dX11_lineRefusal_3 (by decide) (fun c_1 => ?_) (fun c_1 => ?_)
  · have t_1 : a1.toInt < (0 : Int64).toInt := Int64.lt_iff_toInt_lt.mp ((lg_cmp_lt a1 0).mp c_1)
    refine lv_iconst (v := (-1)) hx hb dX11_lineRefusal_27 (by decide) ?_
    exact W.iret (v := (-1)) hx hb hr (fun t ht hW => ⟨⟨(-1), (), rfl, rfl, trivial⟩, hS.F ht⟩) hS.2.2 dX11_lineRefusal_28
  · have t_1 : ¬ a1.toInt < (0 : Int64).toInt := fun h => c_1 ((lg_cmp_lt a1 0).mpr (Int64.lt_iff_toInt_lt.mpr h))
    refine lv_lload_n hx hb dX11_lineRefusal_6 rfl (lv_at hl 1 rfl) ?_
    refine lv_ldc2 (v := 5) hx hb hown (hts (.constantLong RX11 300 (5)) (by decide +kernel)) dX11_lineRefusal_7 ?_
    refine W.lcmp hx hb dX11_lineRefusal_10 ?_
    refine lv_if_ge (tgt := 27) hx hb dX11_lineRefusal_11 (by decide) (fun c_2 => ?_) (fun c_2 => ?_)
    · have t_2 : (5 : Int64).toInt ≤ a1.toInt := Int64.le_iff_toInt_le.mp ((lg_cmp_ge a1 5).mp c_2)
      refine lv_iconst (v := (-1)) hx hb dX11_lineRefusal_27 (by decide) ?_
      exact W.iret (v := (-1)) hx hb hr (fun t ht hW => ⟨⟨(-1), (), rfl, rfl, trivial⟩, hS.F ht⟩) hS.2.2 dX11_lineRefusal_28
    · have t_2 : ¬ (5 : Int64).toInt ≤ a1.toInt := fun h => c_2 ((lg_cmp_ge a1 5).mpr (Int64.le_iff_toInt_le.mpr h))
      refine lv_aload_n hx hb dX11_lineRefusal_14 rfl (lv_at hl 0 rfl) ?_
      refine va_get (ci := 11) (v := .ref xn) (C := RX11) (T := TX11) (N := 12) hx hb hts (fun _ h => List.mem_cons_of_mem _ (List.mem_append_left _ (List.mem_append_right _ h))) hown hK.1 hP 0 rfl rfl 1 (by decide) (hts (.fieldLink RX11 31 "CutAtlas" "net" "LCutAtlas$Net;") (by decide +kernel)) (fun _ h9 => h9) rfl dX11_lineRefusal_15 ?_
      refine lv_lload_n hx hb dX11_lineRefusal_18 rfl (lv_at hl 2 rfl) ?_
      refine lv_lload hx hb dX11_lineRefusal_19 (lv_at hl 3 rfl) ?_
      have hPc := hP.sub (ws' := [(xn, .inr (3, [.int 0, .int 0, .ref n1, .ref n2, .ref n3, .ref n4, .ref n5]))]) [1] rfl
      have hDw : va_D (fun _ => True) [(xn, .inr (3, [.int 0, .int 0, .ref n1, .ref n2, .ref n3, .ref n4, .ref n5]))] := hD0.sub [1] (by decide) rfl
      have hFc := va_free (wc := []) hD hS hA [] rfl
      refine va_calli (va_runV (As := [.long a2, .long a3]) (rest := []) ⟨hx, hb, hml, hown, hts⟩ (c_X3_hasPair l D cy s.heap.size xn n1 n2 n3 n4 n5 a2 a3) (cwV 2 hts gX11_lineRefusal_X3_hasPair rfl rfl rfl (by decide +kernel) ⟨Nat.le_of_ble_eq_true rfl, Nat.le_of_ble_eq_true rfl⟩) ⟨bl_, va_recv hK.1 hPc (ci := 3) (q0 := 0) rfl rfl, fun U hU hW => ⟨rfl, by rw [hU], by rw [hU]; exact hPc, kk_mv hW hK, hDw⟩⟩ rfl rfl hl.1 rfl (lv_room (Nat.le_of_ble_eq_true rfl)) dX11_lineRefusal_21 ⟨Nat.le_of_ble_eq_true rfl, Nat.le_of_ble_eq_true rfl⟩) hS (fun q _ h => hFc q h) hFc (fun r_3 u t H locs ht hvm hw hB hz1 hk1 hS => ?_)
      have hP := ro_keep hP hk1
      have hP : va_P D vwCl [(xo, .inr (11, [.ref xk, .ref xn, .ref xc, .ref xh, .ref xt, .ref xw, .ref xm, .ref xp, .int 0, .int 0, .long 0, .int 0])), (xn, .inr (3, [.int 0, .int 0, .ref n1, .ref n2, .ref n3, .ref n4, .ref n5]))] H := hP
      have e_ := hw.symm
      subst e_
      refine lv_if_ne (tgt := 29) hx hb dX11_lineRefusal_24 (by decide) (fun c_4 => ?_) (fun c_4 => ?_)
      · exact absurd c_4 (by decide)
      · have _ := c_4
        refine lv_iconst (v := (-1)) hx hb dX11_lineRefusal_27 (by decide) ?_
        exact W.iret (v := (-1)) hx hb hr (fun t ht hW => ⟨⟨(-1), (), rfl, rfl, trivial⟩, hS.F ht⟩) hS.2.2 dX11_lineRefusal_28

set_option maxHeartbeats 4000000 in
set_option maxRecDepth 100000 in
theorem c_X11_line (l : Launch) (D : va_G) (cy : Nat → ClassId) (sz : Nat) (xo : Nat) (xk : Nat) (xn : Nat) (xc : Nat) (xh : Nat) (xt : Nat) (xw : Nat) (xm : Nat) (xp : Nat) (n1 : Nat) (n2 : Nat) (n3 : Nat) (n4 : Nat) (n5 : Nat) (a1 : Int32) (a2 : Int32) (a3 : Int32) (a4 : Int32) (a5 : Int32) : Met l yX11_line wsX11_line ({ frames := 3, cells := 0, slots := 0, locals := 76 }) (va_Pc [.ref xo, .int a1, .int a2, .int a3, .int a4, .int a5] (fun U => U.heap.size = sz ∧ va_P D vwCl [(xo, .inr (11, [.ref xk, .ref xn, .ref xc, .ref xh, .ref xt, .ref xw, .ref xm, .ref xp, .int 0, .int 0, .long 0, .int 0])), (xn, .inr (3, [.int 0, .int 0, .ref n1, .ref n2, .ref n3, .ref n4, .ref n5]))] U.heap ∧ kk_ D cy U ∧ va_D (fun _ => True) [(xo, .inr (11, [.ref xk, .ref xn, .ref xc, .ref xh, .ref xt, .ref xw, .ref xm, .ref xp, .int 0, .int 0, .long 0, .int 0])), (xn, .inr (3, [.int 0, .int 0, .ref n1, .ref n2, .ref n3, .ref n4, .ref n5]))])) (va_Qi (fun (r : Int32) (_ : Unit) => r = (-1)) (fun (_ : Unit) (_ : State) => True) (va_A [] sz)) 0 0 (va_A [] sz) := by
  refine Met.ofW (cc := cX11_line) (maxL := 7) (ret := (some .int)) (by decide) rfl ?_
  intro p e s m args below meth c s₁ B hml hv
  obtain ⟨rfl, hsz, hP, hK, hD0⟩ := hv
  have hx := B.exec
  have hb := B.bytes
  have hr := B.returns
  have hts := atoms_spec (ws := wsX11_line) B.pre
  have hown : s.vm.findClass RX11 = some m.cls := findClass_of_methodNamed B.named
  have hlocks := B.notSynchronized
  subst hsz
  have hD : va_D (va_A [] s.heap.size) [] := dd_nil
  generalize hAe : va_A [] s.heap.size = A at hD ⊢
  have hA : ∀ q : Nat, s.heap.size ≤ q → A q := fun q h => by rw [← hAe]; exact Or.inr h
  have hS : va_S A s.heap s.heap [] := va_S.rf
  have hl := lv_entry ([.ref xo, .int a1, .int a2, .int a3, .int a4, .int a5]) (n := 7) (Nat.le_of_ble_eq_true rfl)
  rw [lg_entry_eq]
  generalize (lg_sl ([.ref xo, .int a1, .int a2, .int a3, .int a4, .int a5]) ++ List.replicate (7 - (lg_sl ([.ref xo, .int a1, .int a2, .int a3, .int a4, .int a5])).length) Slot.unset).toArray = ls at hl ⊢
  have hl : lv_has ls 7 [(0, .ref xo), (1, .int a1), (2, .int a2), (3, .int a3), (4, .int a4), (5, .int a5)] := hl
  refine lv_aload_n hx hb dX11_line_0 rfl (lv_at hl 0 rfl) ?_
  refine lv_iload_n hx hb dX11_line_1 rfl (lv_at hl 1 rfl) ?_
  refine lv_i2l (v := a1.toInt64) hx hb dX11_line_2 rfl ?_
  have q_2 : (a1.toInt64).toInt = a1.toInt := Int32.toInt_toInt64 a1
  refine lv_iload_n hx hb dX11_line_3 rfl (lv_at hl 2 rfl) ?_
  refine lv_i2l (v := a2.toInt64) hx hb dX11_line_4 rfl ?_
  have q_4 : (a2.toInt64).toInt = a2.toInt := Int32.toInt_toInt64 a2
  refine lv_iload_n hx hb dX11_line_5 rfl (lv_at hl 3 rfl) ?_
  refine lv_i2l (v := a3.toInt64) hx hb dX11_line_6 rfl ?_
  have q_6 : (a3.toInt64).toInt = a3.toInt := Int32.toInt_toInt64 a3
  refine lv_iload hx hb dX11_line_7 (lv_at hl 4 rfl) ?_
  refine lv_i2l (v := a4.toInt64) hx hb dX11_line_9 rfl ?_
  have q_9 : (a4.toInt64).toInt = a4.toInt := Int32.toInt_toInt64 a4
  refine lv_iload hx hb dX11_line_10 (lv_at hl 5 rfl) ?_
  refine lv_i2l (v := a5.toInt64) hx hb dX11_line_12 rfl ?_
  have q_12 : (a5.toInt64).toInt = a5.toInt := Int32.toInt_toInt64 a5
  have hPc := hP.sub (ws' := [(xo, .inr (11, [.ref xk, .ref xn, .ref xc, .ref xh, .ref xt, .ref xw, .ref xm, .ref xp, .int 0, .int 0, .long 0, .int 0])), (xn, .inr (3, [.int 0, .int 0, .ref n1, .ref n2, .ref n3, .ref n4, .ref n5]))]) [0, 1] rfl
  have hDw : va_D (fun _ => True) [(xo, .inr (11, [.ref xk, .ref xn, .ref xc, .ref xh, .ref xt, .ref xw, .ref xm, .ref xp, .int 0, .int 0, .long 0, .int 0])), (xn, .inr (3, [.int 0, .int 0, .ref n1, .ref n2, .ref n3, .ref n4, .ref n5]))] := hD0.sub [0, 1] (by decide) rfl
  have hFc := va_free (wc := []) hD hS hA [] rfl
  refine va_calli (va_runV (As := [.long a1.toInt64, .long a2.toInt64, .long a3.toInt64, .long a4.toInt64, .long a5.toInt64]) (rest := []) ⟨hx, hb, hml, hown, hts⟩ (c_X11_lineRefusal l D cy s.heap.size xo xk xn xc xh xt xw xm xp n1 n2 n3 n4 n5 a1.toInt64 a2.toInt64 a3.toInt64 a4.toInt64 a5.toInt64) (cwV 5 hts gX11_line_X11_lineRefusal rfl rfl rfl (by decide +kernel) ⟨Nat.le_of_ble_eq_true rfl, Nat.le_of_ble_eq_true rfl⟩) ⟨bl_, va_recv hK.1 hPc (ci := 11) (q0 := 0) rfl rfl, fun U hU hW => ⟨rfl, by rw [hU], by rw [hU]; exact hPc, kk_mv hW hK, hDw⟩⟩ rfl rfl hl.1 rfl (lv_room (Nat.le_of_ble_eq_true rfl)) dX11_line_13 ⟨Nat.le_of_ble_eq_true rfl, Nat.le_of_ble_eq_true rfl⟩) hS (fun q _ h => hFc q h) hFc (fun r_1 u t H locs ht hvm hw hB hz1 hk1 hS => ?_)
  have hP := ro_keep hP hk1
  have hP : va_P D vwCl [(xo, .inr (11, [.ref xk, .ref xn, .ref xc, .ref xh, .ref xt, .ref xw, .ref xm, .ref xp, .int 0, .int 0, .long 0, .int 0])), (xn, .inr (3, [.int 0, .int 0, .ref n1, .ref n2, .ref n3, .ref n4, .ref n5]))] H := hP
  have e_ := hw.symm
  subst e_
  refine lv_istore (lv' := [(6, .int (-1)), (0, .ref xo), (1, .int a1), (2, .int a2), (3, .int a3), (4, .int a4), (5, .int a5)]) hx hb dX11_line_16 hl (by decide) rfl (fun ls hl => ?_)
  refine lv_iload hx hb dX11_line_18 (lv_at hl 0 rfl) ?_
  refine lv_if_eq (tgt := 26) hx hb dX11_line_20 (by decide) (fun c_2 => ?_) (fun c_2 => ?_)
  · exact absurd c_2 (by decide)
  · have _ := c_2
    refine lv_iload hx hb dX11_line_23 (lv_at hl 0 rfl) ?_
    exact W.iret (v := (-1)) hx hb hr (fun t ht hW => ⟨⟨(-1), (), rfl, rfl, trivial⟩, hS.F ht⟩) hS.2.2 dX11_line_25

set_option maxHeartbeats 4000000 in
set_option maxRecDepth 100000 in
theorem c_X11_widen (l : Launch) (D : va_G) (cy : Nat → ClassId) (sz : Nat) (xo : Nat) (xk : Nat) (xn : Nat) (xc : Nat) (xh : Nat) (xt : Nat) (xw : Nat) (xm : Nat) (xp : Nat) (n1 : Nat) (n2 : Nat) (n3 : Nat) (n4 : Nat) (n5 : Nat) (a1 : Int32) (a2 : Int32) : Met l yX11_widen wsX11_widen ({ frames := 1, cells := 0, slots := 0, locals := 21 }) (va_Pc [.ref xo, .int a1, .int a2] (fun U => U.heap.size = sz ∧ va_P D vwCl [(xo, .inr (11, [.ref xk, .ref xn, .ref xc, .ref xh, .ref xt, .ref xw, .ref xm, .ref xp, .int 0, .int 0, .long 0, .int 0])), (xn, .inr (3, [.int 0, .int 0, .ref n1, .ref n2, .ref n3, .ref n4, .ref n5]))] U.heap ∧ kk_ D cy U ∧ va_D (fun _ => True) [(xo, .inr (11, [.ref xk, .ref xn, .ref xc, .ref xh, .ref xt, .ref xw, .ref xm, .ref xp, .int 0, .int 0, .long 0, .int 0])), (xn, .inr (3, [.int 0, .int 0, .ref n1, .ref n2, .ref n3, .ref n4, .ref n5]))])) (va_Qi (fun (r : Int32) (_ : Unit) => r = (-1)) (fun (_ : Unit) (_ : State) => True) (va_A [] sz)) 0 0 (va_A [] sz) := by
  refine Met.ofW (cc := cX11_widen) (maxL := 5) (ret := (some .int)) (by decide) rfl ?_
  intro p e s m args below meth c s₁ B hml hv
  obtain ⟨rfl, hsz, hP, hK, hD0⟩ := hv
  have hx := B.exec
  have hb := B.bytes
  have hr := B.returns
  have hts := atoms_spec (ws := wsX11_widen) B.pre
  have hown : s.vm.findClass RX11 = some m.cls := findClass_of_methodNamed B.named
  have hlocks := B.notSynchronized
  subst hsz
  have hD : va_D (va_A [] s.heap.size) [] := dd_nil
  generalize hAe : va_A [] s.heap.size = A at hD ⊢
  have hA : ∀ q : Nat, s.heap.size ≤ q → A q := fun q h => by rw [← hAe]; exact Or.inr h
  have hS : va_S A s.heap s.heap [] := va_S.rf
  have hl := lv_entry ([.ref xo, .int a1, .int a2]) (n := 5) (Nat.le_of_ble_eq_true rfl)
  rw [lg_entry_eq]
  generalize (lg_sl ([.ref xo, .int a1, .int a2]) ++ List.replicate (5 - (lg_sl ([.ref xo, .int a1, .int a2])).length) Slot.unset).toArray = ls at hl ⊢
  have hl : lv_has ls 5 [(0, .ref xo), (1, .int a1), (2, .int a2)] := hl
  refine lv_aload_n hx hb dX11_widen_0 rfl (lv_at hl 0 rfl) ?_
  refine va_get (ci := 11) (v := .ref xn) (C := RX11) (T := TX11) (N := 12) hx hb hts (fun _ h => List.mem_cons_of_mem _ (List.mem_append_left _ (List.mem_append_right _ h))) hown hK.1 hP 0 rfl rfl 1 (by decide) (hts (.fieldLink RX11 31 "CutAtlas" "net" "LCutAtlas$Net;") (by decide +kernel)) (fun _ h9 => h9) rfl dX11_widen_1 ?_
  refine lv_iload_n hx hb dX11_widen_4 rfl (lv_at hl 1 rfl) ?_
  have hPc := hP.sub (ws' := [(xn, .inr (3, [.int 0, .int 0, .ref n1, .ref n2, .ref n3, .ref n4, .ref n5]))]) [1] rfl
  have hDw : va_D (fun _ => True) [(xn, .inr (3, [.int 0, .int 0, .ref n1, .ref n2, .ref n3, .ref n4, .ref n5]))] := hD0.sub [1] (by decide) rfl
  have hFc := va_free (wc := []) hD hS hA [] rfl
  refine va_calli (va_runV (As := [.int a1]) (rest := []) ⟨hx, hb, hml, hown, hts⟩ (c_X3_hasLine l D cy s.heap.size xn n1 n2 n3 n4 n5 a1) (cwV 1 hts gX11_widen_X3_hasLine rfl rfl rfl (by decide +kernel) ⟨Nat.le_of_ble_eq_true rfl, Nat.le_of_ble_eq_true rfl⟩) ⟨bl_, va_recv hK.1 hPc (ci := 3) (q0 := 0) rfl rfl, fun U hU hW => ⟨rfl, by rw [hU], by rw [hU]; exact hPc, kk_mv hW hK, hDw⟩⟩ rfl rfl hl.1 rfl (lv_room (Nat.le_of_ble_eq_true rfl)) dX11_widen_5 ⟨Nat.le_of_ble_eq_true rfl, Nat.le_of_ble_eq_true rfl⟩) hS (fun q _ h => hFc q h) hFc (fun r_1 u t H locs ht hvm hw hB hz1 hk1 hS => ?_)
  have hP := ro_keep hP hk1
  have hP : va_P D vwCl [(xo, .inr (11, [.ref xk, .ref xn, .ref xc, .ref xh, .ref xt, .ref xw, .ref xm, .ref xp, .int 0, .int 0, .long 0, .int 0])), (xn, .inr (3, [.int 0, .int 0, .ref n1, .ref n2, .ref n3, .ref n4, .ref n5]))] H := hP
  have e_ := hw.symm
  subst e_
  refine lv_if_eq (tgt := 22) hx hb dX11_widen_8 (by decide) (fun c_2 => ?_) (fun c_2 => ?_)
  · have _ := c_2
    refine lv_iconst (v := (-1)) hx hb dX11_widen_22 (by decide) ?_
    exact W.iret (v := (-1)) hx hb hr (fun t ht hW => ⟨⟨(-1), (), rfl, rfl, trivial⟩, hS.F ht⟩) hS.2.2 dX11_widen_23
  · exact absurd c_2 (by decide)

set_option maxHeartbeats 4000000 in
set_option maxRecDepth 100000 in
theorem c_X11_width (l : Launch) (D : va_G) (cy : Nat → ClassId) (sz : Nat) (xo : Nat) (xk : Nat) (xn : Nat) (xc : Nat) (xh : Nat) (xt : Nat) (xw : Nat) (xm : Nat) (xp : Nat) (n1 : Nat) (n2 : Nat) (n3 : Nat) (n4 : Nat) (n5 : Nat) (a1 : Int32) (a2 : Int32) : Met l yX11_width wsX11_width ({ frames := 1, cells := 0, slots := 0, locals := 21 }) (va_Pc [.ref xo, .int a1, .int a2] (fun U => U.heap.size = sz ∧ va_P D vwCl [(xo, .inr (11, [.ref xk, .ref xn, .ref xc, .ref xh, .ref xt, .ref xw, .ref xm, .ref xp, .int 0, .int 0, .long 0, .int 0])), (xn, .inr (3, [.int 0, .int 0, .ref n1, .ref n2, .ref n3, .ref n4, .ref n5]))] U.heap ∧ kk_ D cy U ∧ va_D (fun _ => True) [(xo, .inr (11, [.ref xk, .ref xn, .ref xc, .ref xh, .ref xt, .ref xw, .ref xm, .ref xp, .int 0, .int 0, .long 0, .int 0])), (xn, .inr (3, [.int 0, .int 0, .ref n1, .ref n2, .ref n3, .ref n4, .ref n5]))])) (va_Qi (fun (r : Int32) (_ : Unit) => r = (-1)) (fun (_ : Unit) (_ : State) => True) (va_A [] sz)) 0 0 (va_A [] sz) := by
  refine Met.ofW (cc := cX11_width) (maxL := 4) (ret := (some .int)) (by decide) rfl ?_
  intro p e s m args below meth c s₁ B hml hv
  obtain ⟨rfl, hsz, hP, hK, hD0⟩ := hv
  have hx := B.exec
  have hb := B.bytes
  have hr := B.returns
  have hts := atoms_spec (ws := wsX11_width) B.pre
  have hown : s.vm.findClass RX11 = some m.cls := findClass_of_methodNamed B.named
  have hlocks := B.notSynchronized
  subst hsz
  have hD : va_D (va_A [] s.heap.size) [] := dd_nil
  generalize hAe : va_A [] s.heap.size = A at hD ⊢
  have hA : ∀ q : Nat, s.heap.size ≤ q → A q := fun q h => by rw [← hAe]; exact Or.inr h
  have hS : va_S A s.heap s.heap [] := va_S.rf
  have hl := lv_entry ([.ref xo, .int a1, .int a2]) (n := 4) (Nat.le_of_ble_eq_true rfl)
  rw [lg_entry_eq]
  generalize (lg_sl ([.ref xo, .int a1, .int a2]) ++ List.replicate (4 - (lg_sl ([.ref xo, .int a1, .int a2])).length) Slot.unset).toArray = ls at hl ⊢
  have hl : lv_has ls 4 [(0, .ref xo), (1, .int a1), (2, .int a2)] := hl
  refine lv_aload_n hx hb dX11_width_0 rfl (lv_at hl 0 rfl) ?_
  refine va_get (ci := 11) (v := .ref xn) (C := RX11) (T := TX11) (N := 12) hx hb hts (fun _ h => List.mem_cons_of_mem _ (List.mem_append_left _ (List.mem_append_right _ h))) hown hK.1 hP 0 rfl rfl 1 (by decide) (hts (.fieldLink RX11 31 "CutAtlas" "net" "LCutAtlas$Net;") (by decide +kernel)) (fun _ h9 => h9) rfl dX11_width_1 ?_
  refine lv_iload_n hx hb dX11_width_4 rfl (lv_at hl 1 rfl) ?_
  have hPc := hP.sub (ws' := [(xn, .inr (3, [.int 0, .int 0, .ref n1, .ref n2, .ref n3, .ref n4, .ref n5]))]) [1] rfl
  have hDw : va_D (fun _ => True) [(xn, .inr (3, [.int 0, .int 0, .ref n1, .ref n2, .ref n3, .ref n4, .ref n5]))] := hD0.sub [1] (by decide) rfl
  have hFc := va_free (wc := []) hD hS hA [] rfl
  refine va_calli (va_runV (As := [.int a1]) (rest := []) ⟨hx, hb, hml, hown, hts⟩ (c_X3_hasLine l D cy s.heap.size xn n1 n2 n3 n4 n5 a1) (cwV 1 hts gX11_width_X3_hasLine rfl rfl rfl (by decide +kernel) ⟨Nat.le_of_ble_eq_true rfl, Nat.le_of_ble_eq_true rfl⟩) ⟨bl_, va_recv hK.1 hPc (ci := 3) (q0 := 0) rfl rfl, fun U hU hW => ⟨rfl, by rw [hU], by rw [hU]; exact hPc, kk_mv hW hK, hDw⟩⟩ rfl rfl hl.1 rfl (lv_room (Nat.le_of_ble_eq_true rfl)) dX11_width_5 ⟨Nat.le_of_ble_eq_true rfl, Nat.le_of_ble_eq_true rfl⟩) hS (fun q _ h => hFc q h) hFc (fun r_1 u t H locs ht hvm hw hB hz1 hk1 hS => ?_)
  have hP := ro_keep hP hk1
  have hP : va_P D vwCl [(xo, .inr (11, [.ref xk, .ref xn, .ref xc, .ref xh, .ref xt, .ref xw, .ref xm, .ref xp, .int 0, .int 0, .long 0, .int 0])), (xn, .inr (3, [.int 0, .int 0, .ref n1, .ref n2, .ref n3, .ref n4, .ref n5]))] H := hP
  have e_ := hw.symm
  subst e_
  refine lv_if_eq (tgt := 22) hx hb dX11_width_8 (by decide) (fun c_2 => ?_) (fun c_2 => ?_)
  · have _ := c_2
    refine lv_iconst (v := (-1)) hx hb dX11_width_22 (by decide) ?_
    exact W.iret (v := (-1)) hx hb hr (fun t ht hW => ⟨⟨(-1), (), rfl, rfl, trivial⟩, hS.F ht⟩) hS.2.2 dX11_width_23
  · exact absurd c_2 (by decide)

set_option maxHeartbeats 4000000 in
set_option maxRecDepth 100000 in
theorem c_X11_merge (l : Launch) (D : va_G) (cy : Nat → ClassId) (sz : Nat) (xo : Nat) (xk : Nat) (xn : Nat) (xc : Nat) (xh : Nat) (xt : Nat) (xw : Nat) (xm : Nat) (xp : Nat) (n1 : Nat) (n2 : Nat) (n3 : Nat) (n4 : Nat) (n5 : Nat) (a1 : Int32) (a2 : Int32) : Met l yX11_merge wsX11_merge ({ frames := 2, cells := 0, slots := 0, locals := 46 }) (va_Pc [.ref xo, .int a1, .int a2] (fun U => U.heap.size = sz ∧ va_P D vwCl [(xo, .inr (11, [.ref xk, .ref xn, .ref xc, .ref xh, .ref xt, .ref xw, .ref xm, .ref xp, .int 0, .int 0, .long 0, .int 0])), (xn, .inr (3, [.int 0, .int 0, .ref n1, .ref n2, .ref n3, .ref n4, .ref n5]))] U.heap ∧ kk_ D cy U ∧ va_D (fun _ => True) [(xo, .inr (11, [.ref xk, .ref xn, .ref xc, .ref xh, .ref xt, .ref xw, .ref xm, .ref xp, .int 0, .int 0, .long 0, .int 0])), (xn, .inr (3, [.int 0, .int 0, .ref n1, .ref n2, .ref n3, .ref n4, .ref n5]))])) (va_Qi (fun (r : Int32) (_ : Unit) => r = (-1)) (fun (_ : Unit) (_ : State) => True) (va_A [] sz)) 0 0 (va_A [] sz) := by
  refine Met.ofW (cc := cX11_merge) (maxL := 3) (ret := (some .int)) (by decide) rfl ?_
  intro p e s m args below meth c s₁ B hml hv
  obtain ⟨rfl, hsz, hP, hK, hD0⟩ := hv
  have hx := B.exec
  have hb := B.bytes
  have hr := B.returns
  have hts := atoms_spec (ws := wsX11_merge) B.pre
  have hown : s.vm.findClass RX11 = some m.cls := findClass_of_methodNamed B.named
  have hlocks := B.notSynchronized
  subst hsz
  have hD : va_D (va_A [] s.heap.size) [] := dd_nil
  generalize hAe : va_A [] s.heap.size = A at hD ⊢
  have hA : ∀ q : Nat, s.heap.size ≤ q → A q := fun q h => by rw [← hAe]; exact Or.inr h
  have hS : va_S A s.heap s.heap [] := va_S.rf
  have hl := lv_entry ([.ref xo, .int a1, .int a2]) (n := 3) (Nat.le_of_ble_eq_true rfl)
  rw [lg_entry_eq]
  generalize (lg_sl ([.ref xo, .int a1, .int a2]) ++ List.replicate (3 - (lg_sl ([.ref xo, .int a1, .int a2])).length) Slot.unset).toArray = ls at hl ⊢
  have hl : lv_has ls 3 [(0, .ref xo), (1, .int a1), (2, .int a2)] := hl
  refine lv_aload_n hx hb dX11_merge_0 rfl (lv_at hl 0 rfl) ?_
  refine va_get (ci := 11) (v := .ref xn) (C := RX11) (T := TX11) (N := 12) hx hb hts (fun _ h => List.mem_cons_of_mem _ (List.mem_append_left _ (List.mem_append_right _ h))) hown hK.1 hP 0 rfl rfl 1 (by decide) (hts (.fieldLink RX11 31 "CutAtlas" "net" "LCutAtlas$Net;") (by decide +kernel)) (fun _ h9 => h9) rfl dX11_merge_1 ?_
  refine lv_iload_n hx hb dX11_merge_4 rfl (lv_at hl 1 rfl) ?_
  refine lv_i2l (v := a1.toInt64) hx hb dX11_merge_5 rfl ?_
  have q_5 : (a1.toInt64).toInt = a1.toInt := Int32.toInt_toInt64 a1
  refine lv_iload_n hx hb dX11_merge_6 rfl (lv_at hl 2 rfl) ?_
  refine lv_i2l (v := a2.toInt64) hx hb dX11_merge_7 rfl ?_
  have q_7 : (a2.toInt64).toInt = a2.toInt := Int32.toInt_toInt64 a2
  have hPc := hP.sub (ws' := [(xn, .inr (3, [.int 0, .int 0, .ref n1, .ref n2, .ref n3, .ref n4, .ref n5]))]) [1] rfl
  have hDw : va_D (fun _ => True) [(xn, .inr (3, [.int 0, .int 0, .ref n1, .ref n2, .ref n3, .ref n4, .ref n5]))] := hD0.sub [1] (by decide) rfl
  have hFc := va_free (wc := []) hD hS hA [] rfl
  refine va_calli (va_runV (As := [.long a1.toInt64, .long a2.toInt64]) (rest := []) ⟨hx, hb, hml, hown, hts⟩ (c_X3_hasPair l D cy s.heap.size xn n1 n2 n3 n4 n5 a1.toInt64 a2.toInt64) (cwV 2 hts gX11_merge_X3_hasPair rfl rfl rfl (by decide +kernel) ⟨Nat.le_of_ble_eq_true rfl, Nat.le_of_ble_eq_true rfl⟩) ⟨bl_, va_recv hK.1 hPc (ci := 3) (q0 := 0) rfl rfl, fun U hU hW => ⟨rfl, by rw [hU], by rw [hU]; exact hPc, kk_mv hW hK, hDw⟩⟩ rfl rfl hl.1 rfl (lv_room (Nat.le_of_ble_eq_true rfl)) dX11_merge_8 ⟨Nat.le_of_ble_eq_true rfl, Nat.le_of_ble_eq_true rfl⟩) hS (fun q _ h => hFc q h) hFc (fun r_1 u t H locs ht hvm hw hB hz1 hk1 hS => ?_)
  have hP := ro_keep hP hk1
  have hP : va_P D vwCl [(xo, .inr (11, [.ref xk, .ref xn, .ref xc, .ref xh, .ref xt, .ref xw, .ref xm, .ref xp, .int 0, .int 0, .long 0, .int 0])), (xn, .inr (3, [.int 0, .int 0, .ref n1, .ref n2, .ref n3, .ref n4, .ref n5]))] H := hP
  have e_ := hw.symm
  subst e_
  refine lv_if_ne (tgt := 16) hx hb dX11_merge_11 (by decide) (fun c_2 => ?_) (fun c_2 => ?_)
  · exact absurd c_2 (by decide)
  · have _ := c_2
    refine lv_iconst (v := (-1)) hx hb dX11_merge_14 (by decide) ?_
    exact W.iret (v := (-1)) hx hb hr (fun t ht hW => ⟨⟨(-1), (), rfl, rfl, trivial⟩, hS.F ht⟩) hS.2.2 dX11_merge_15

set_option maxHeartbeats 4000000 in
set_option maxRecDepth 100000 in
theorem c_X11_told (l : Launch) (D : va_G) (cy : Nat → ClassId) (sz : Nat) (xo : Nat) (xk : Nat) (xn : Nat) (xc : Nat) (xh : Nat) (xt : Nat) (xw : Nat) (xm : Nat) (xp : Nat) (n1 : Nat) (n2 : Nat) (n3 : Nat) (n4 : Nat) (n5 : Nat) (a1 : Int32) (a2 : Int32) : Met l yX11_told wsX11_told ({ frames := 1, cells := 0, slots := 0, locals := 21 }) (va_Pc [.ref xo, .int a1, .int a2] (fun U => U.heap.size = sz ∧ va_P D vwCl [(xo, .inr (11, [.ref xk, .ref xn, .ref xc, .ref xh, .ref xt, .ref xw, .ref xm, .ref xp, .int 0, .int 0, .long 0, .int 0])), (xn, .inr (3, [.int 0, .int 0, .ref n1, .ref n2, .ref n3, .ref n4, .ref n5]))] U.heap ∧ kk_ D cy U ∧ va_D (fun _ => True) [(xo, .inr (11, [.ref xk, .ref xn, .ref xc, .ref xh, .ref xt, .ref xw, .ref xm, .ref xp, .int 0, .int 0, .long 0, .int 0])), (xn, .inr (3, [.int 0, .int 0, .ref n1, .ref n2, .ref n3, .ref n4, .ref n5]))])) (va_Qi (fun (r : Int32) (_ : Unit) => r = (-1)) (fun (_ : Unit) (_ : State) => True) (va_A [] sz)) 0 0 (va_A [] sz) := by
  refine Met.ofW (cc := cX11_told) (maxL := 3) (ret := (some .int)) (by decide) rfl ?_
  intro p e s m args below meth c s₁ B hml hv
  obtain ⟨rfl, hsz, hP, hK, hD0⟩ := hv
  have hx := B.exec
  have hb := B.bytes
  have hr := B.returns
  have hts := atoms_spec (ws := wsX11_told) B.pre
  have hown : s.vm.findClass RX11 = some m.cls := findClass_of_methodNamed B.named
  have hlocks := B.notSynchronized
  subst hsz
  have hD : va_D (va_A [] s.heap.size) [] := dd_nil
  generalize hAe : va_A [] s.heap.size = A at hD ⊢
  have hA : ∀ q : Nat, s.heap.size ≤ q → A q := fun q h => by rw [← hAe]; exact Or.inr h
  have hS : va_S A s.heap s.heap [] := va_S.rf
  have hl := lv_entry ([.ref xo, .int a1, .int a2]) (n := 3) (Nat.le_of_ble_eq_true rfl)
  rw [lg_entry_eq]
  generalize (lg_sl ([.ref xo, .int a1, .int a2]) ++ List.replicate (3 - (lg_sl ([.ref xo, .int a1, .int a2])).length) Slot.unset).toArray = ls at hl ⊢
  have hl : lv_has ls 3 [(0, .ref xo), (1, .int a1), (2, .int a2)] := hl
  refine lv_aload_n hx hb dX11_told_0 rfl (lv_at hl 0 rfl) ?_
  refine va_get (ci := 11) (v := .ref xn) (C := RX11) (T := TX11) (N := 12) hx hb hts (fun _ h => List.mem_cons_of_mem _ (List.mem_append_left _ (List.mem_append_right _ h))) hown hK.1 hP 0 rfl rfl 1 (by decide) (hts (.fieldLink RX11 31 "CutAtlas" "net" "LCutAtlas$Net;") (by decide +kernel)) (fun _ h9 => h9) rfl dX11_told_1 ?_
  refine lv_iload_n hx hb dX11_told_4 rfl (lv_at hl 1 rfl) ?_
  have hPc := hP.sub (ws' := [(xn, .inr (3, [.int 0, .int 0, .ref n1, .ref n2, .ref n3, .ref n4, .ref n5]))]) [1] rfl
  have hDw : va_D (fun _ => True) [(xn, .inr (3, [.int 0, .int 0, .ref n1, .ref n2, .ref n3, .ref n4, .ref n5]))] := hD0.sub [1] (by decide) rfl
  have hFc := va_free (wc := []) hD hS hA [] rfl
  refine va_calli (va_runV (As := [.int a1]) (rest := []) ⟨hx, hb, hml, hown, hts⟩ (c_X3_hasLine l D cy s.heap.size xn n1 n2 n3 n4 n5 a1) (cwV 1 hts gX11_told_X3_hasLine rfl rfl rfl (by decide +kernel) ⟨Nat.le_of_ble_eq_true rfl, Nat.le_of_ble_eq_true rfl⟩) ⟨bl_, va_recv hK.1 hPc (ci := 3) (q0 := 0) rfl rfl, fun U hU hW => ⟨rfl, by rw [hU], by rw [hU]; exact hPc, kk_mv hW hK, hDw⟩⟩ rfl rfl hl.1 rfl (lv_room (Nat.le_of_ble_eq_true rfl)) dX11_told_5 ⟨Nat.le_of_ble_eq_true rfl, Nat.le_of_ble_eq_true rfl⟩) hS (fun q _ h => hFc q h) hFc (fun r_1 u t H locs ht hvm hw hB hz1 hk1 hS => ?_)
  have hP := ro_keep hP hk1
  have hP : va_P D vwCl [(xo, .inr (11, [.ref xk, .ref xn, .ref xc, .ref xh, .ref xt, .ref xw, .ref xm, .ref xp, .int 0, .int 0, .long 0, .int 0])), (xn, .inr (3, [.int 0, .int 0, .ref n1, .ref n2, .ref n3, .ref n4, .ref n5]))] H := hP
  have e_ := hw.symm
  subst e_
  refine lv_if_ne (tgt := 13) hx hb dX11_told_8 (by decide) (fun c_2 => ?_) (fun c_2 => ?_)
  · exact absurd c_2 (by decide)
  · have _ := c_2
    refine lv_iconst (v := (-1)) hx hb dX11_told_11 (by decide) ?_
    exact W.iret (v := (-1)) hx hb hr (fun t ht hW => ⟨⟨(-1), (), rfl, rfl, trivial⟩, hS.F ht⟩) hS.2.2 dX11_told_12

set_option maxHeartbeats 4000000 in
set_option maxRecDepth 100000 in
theorem c_X11_ask (l : Launch) (D : va_G) (cy : Nat → ClassId) (sz : Nat) (xo : Nat) (xk : Nat) (xn : Nat) (xc : Nat) (xh : Nat) (xt : Nat) (xw : Nat) (xm : Nat) (xp : Nat) (n1 : Nat) (n2 : Nat) (n3 : Nat) (n4 : Nat) (n5 : Nat) (a1 : Int32) (a2 : Int32) : Met l yX11_ask wsX11_ask ({ frames := 1, cells := 0, slots := 0, locals := 21 }) (va_Pc [.ref xo, .int a1, .int a2] (fun U => U.heap.size = sz ∧ va_P D vwCl [(xo, .inr (11, [.ref xk, .ref xn, .ref xc, .ref xh, .ref xt, .ref xw, .ref xm, .ref xp, .int 0, .int 0, .long 0, .int 0])), (xn, .inr (3, [.int 0, .int 0, .ref n1, .ref n2, .ref n3, .ref n4, .ref n5]))] U.heap ∧ kk_ D cy U ∧ va_D (fun _ => True) [(xo, .inr (11, [.ref xk, .ref xn, .ref xc, .ref xh, .ref xt, .ref xw, .ref xm, .ref xp, .int 0, .int 0, .long 0, .int 0])), (xn, .inr (3, [.int 0, .int 0, .ref n1, .ref n2, .ref n3, .ref n4, .ref n5]))])) (va_Qi (fun (r : Int32) (_ : Unit) => r = (-1)) (fun (_ : Unit) (_ : State) => True) (va_A [] sz)) 0 0 (va_A [] sz) := by
  refine Met.ofW (cc := cX11_ask) (maxL := 5) (ret := (some .int)) (by decide) rfl ?_
  intro p e s m args below meth c s₁ B hml hv
  obtain ⟨rfl, hsz, hP, hK, hD0⟩ := hv
  have hx := B.exec
  have hb := B.bytes
  have hr := B.returns
  have hts := atoms_spec (ws := wsX11_ask) B.pre
  have hown : s.vm.findClass RX11 = some m.cls := findClass_of_methodNamed B.named
  have hlocks := B.notSynchronized
  subst hsz
  have hD : va_D (va_A [] s.heap.size) [] := dd_nil
  generalize hAe : va_A [] s.heap.size = A at hD ⊢
  have hA : ∀ q : Nat, s.heap.size ≤ q → A q := fun q h => by rw [← hAe]; exact Or.inr h
  have hS : va_S A s.heap s.heap [] := va_S.rf
  have hl := lv_entry ([.ref xo, .int a1, .int a2]) (n := 5) (Nat.le_of_ble_eq_true rfl)
  rw [lg_entry_eq]
  generalize (lg_sl ([.ref xo, .int a1, .int a2]) ++ List.replicate (5 - (lg_sl ([.ref xo, .int a1, .int a2])).length) Slot.unset).toArray = ls at hl ⊢
  have hl : lv_has ls 5 [(0, .ref xo), (1, .int a1), (2, .int a2)] := hl
  refine lv_aload_n hx hb dX11_ask_0 rfl (lv_at hl 0 rfl) ?_
  refine va_get (ci := 11) (v := .ref xn) (C := RX11) (T := TX11) (N := 12) hx hb hts (fun _ h => List.mem_cons_of_mem _ (List.mem_append_left _ (List.mem_append_right _ h))) hown hK.1 hP 0 rfl rfl 1 (by decide) (hts (.fieldLink RX11 31 "CutAtlas" "net" "LCutAtlas$Net;") (by decide +kernel)) (fun _ h9 => h9) rfl dX11_ask_1 ?_
  refine lv_iload_n hx hb dX11_ask_4 rfl (lv_at hl 1 rfl) ?_
  have hPc := hP.sub (ws' := [(xn, .inr (3, [.int 0, .int 0, .ref n1, .ref n2, .ref n3, .ref n4, .ref n5]))]) [1] rfl
  have hDw : va_D (fun _ => True) [(xn, .inr (3, [.int 0, .int 0, .ref n1, .ref n2, .ref n3, .ref n4, .ref n5]))] := hD0.sub [1] (by decide) rfl
  have hFc := va_free (wc := []) hD hS hA [] rfl
  refine va_calli (va_runV (As := [.int a1]) (rest := []) ⟨hx, hb, hml, hown, hts⟩ (c_X3_hasLine l D cy s.heap.size xn n1 n2 n3 n4 n5 a1) (cwV 1 hts gX11_ask_X3_hasLine rfl rfl rfl (by decide +kernel) ⟨Nat.le_of_ble_eq_true rfl, Nat.le_of_ble_eq_true rfl⟩) ⟨bl_, va_recv hK.1 hPc (ci := 3) (q0 := 0) rfl rfl, fun U hU hW => ⟨rfl, by rw [hU], by rw [hU]; exact hPc, kk_mv hW hK, hDw⟩⟩ rfl rfl hl.1 rfl (lv_room (Nat.le_of_ble_eq_true rfl)) dX11_ask_5 ⟨Nat.le_of_ble_eq_true rfl, Nat.le_of_ble_eq_true rfl⟩) hS (fun q _ h => hFc q h) hFc (fun r_1 u t H locs ht hvm hw hB hz1 hk1 hS => ?_)
  have hP := ro_keep hP hk1
  have hP : va_P D vwCl [(xo, .inr (11, [.ref xk, .ref xn, .ref xc, .ref xh, .ref xt, .ref xw, .ref xm, .ref xp, .int 0, .int 0, .long 0, .int 0])), (xn, .inr (3, [.int 0, .int 0, .ref n1, .ref n2, .ref n3, .ref n4, .ref n5]))] H := hP
  have e_ := hw.symm
  subst e_
  refine lv_if_eq (tgt := 20) hx hb dX11_ask_8 (by decide) (fun c_2 => ?_) (fun c_2 => ?_)
  · have _ := c_2
    refine lv_iconst (v := (-1)) hx hb dX11_ask_20 (by decide) ?_
    exact W.iret (v := (-1)) hx hb hr (fun t ht hW => ⟨⟨(-1), (), rfl, rfl, trivial⟩, hS.F ht⟩) hS.2.2 dX11_ask_21
  · exact absurd c_2 (by decide)

set_option maxHeartbeats 4000000 in
set_option maxRecDepth 100000 in
theorem c_X11_most (l : Launch) (D : va_G) (cy : Nat → ClassId) (sz : Nat) (xo : Nat) (xk : Nat) (xn : Nat) (xc : Nat) (xh : Nat) (xt : Nat) (xw : Nat) (xm : Nat) (xp : Nat) (n1 : Nat) (n2 : Nat) (n3 : Nat) (n4 : Nat) (n5 : Nat) (a1 : Int32) (a2 : Int32) : Met l yX11_most wsX11_most ({ frames := 2, cells := 0, slots := 0, locals := 46 }) (va_Pc [.ref xo, .int a1, .int a2] (fun U => U.heap.size = sz ∧ va_P D vwCl [(xo, .inr (11, [.ref xk, .ref xn, .ref xc, .ref xh, .ref xt, .ref xw, .ref xm, .ref xp, .int 0, .int 0, .long 0, .int 0])), (xn, .inr (3, [.int 0, .int 0, .ref n1, .ref n2, .ref n3, .ref n4, .ref n5]))] U.heap ∧ kk_ D cy U ∧ va_D (fun _ => True) [(xo, .inr (11, [.ref xk, .ref xn, .ref xc, .ref xh, .ref xt, .ref xw, .ref xm, .ref xp, .int 0, .int 0, .long 0, .int 0])), (xn, .inr (3, [.int 0, .int 0, .ref n1, .ref n2, .ref n3, .ref n4, .ref n5]))])) (va_Qi (fun (r : Int32) (_ : Unit) => r = (-1)) (fun (_ : Unit) (_ : State) => True) (va_A [] sz)) 0 0 (va_A [] sz) := by
  refine Met.ofW (cc := cX11_most) (maxL := 3) (ret := (some .int)) (by decide) rfl ?_
  intro p e s m args below meth c s₁ B hml hv
  obtain ⟨rfl, hsz, hP, hK, hD0⟩ := hv
  have hx := B.exec
  have hb := B.bytes
  have hr := B.returns
  have hts := atoms_spec (ws := wsX11_most) B.pre
  have hown : s.vm.findClass RX11 = some m.cls := findClass_of_methodNamed B.named
  have hlocks := B.notSynchronized
  subst hsz
  have hD : va_D (va_A [] s.heap.size) [] := dd_nil
  generalize hAe : va_A [] s.heap.size = A at hD ⊢
  have hA : ∀ q : Nat, s.heap.size ≤ q → A q := fun q h => by rw [← hAe]; exact Or.inr h
  have hS : va_S A s.heap s.heap [] := va_S.rf
  have hl := lv_entry ([.ref xo, .int a1, .int a2]) (n := 3) (Nat.le_of_ble_eq_true rfl)
  rw [lg_entry_eq]
  generalize (lg_sl ([.ref xo, .int a1, .int a2]) ++ List.replicate (3 - (lg_sl ([.ref xo, .int a1, .int a2])).length) Slot.unset).toArray = ls at hl ⊢
  have hl : lv_has ls 3 [(0, .ref xo), (1, .int a1), (2, .int a2)] := hl
  refine lv_aload_n hx hb dX11_most_0 rfl (lv_at hl 0 rfl) ?_
  refine va_get (ci := 11) (v := .ref xn) (C := RX11) (T := TX11) (N := 12) hx hb hts (fun _ h => List.mem_cons_of_mem _ (List.mem_append_left _ (List.mem_append_left _ (List.mem_append_right _ h)))) hown hK.1 hP 0 rfl rfl 1 (by decide) (hts (.fieldLink RX11 31 "CutAtlas" "net" "LCutAtlas$Net;") (by decide +kernel)) (fun _ h9 => h9) rfl dX11_most_1 ?_
  refine lv_iload_n hx hb dX11_most_4 rfl (lv_at hl 1 rfl) ?_
  refine lv_i2l (v := a1.toInt64) hx hb dX11_most_5 rfl ?_
  have q_5 : (a1.toInt64).toInt = a1.toInt := Int32.toInt_toInt64 a1
  refine lv_iload_n hx hb dX11_most_6 rfl (lv_at hl 2 rfl) ?_
  refine lv_i2l (v := a2.toInt64) hx hb dX11_most_7 rfl ?_
  have q_7 : (a2.toInt64).toInt = a2.toInt := Int32.toInt_toInt64 a2
  have hPc := hP.sub (ws' := [(xn, .inr (3, [.int 0, .int 0, .ref n1, .ref n2, .ref n3, .ref n4, .ref n5]))]) [1] rfl
  have hDw : va_D (fun _ => True) [(xn, .inr (3, [.int 0, .int 0, .ref n1, .ref n2, .ref n3, .ref n4, .ref n5]))] := hD0.sub [1] (by decide) rfl
  have hFc := va_free (wc := []) hD hS hA [] rfl
  refine va_calli (va_runV (As := [.long a1.toInt64, .long a2.toInt64]) (rest := []) ⟨hx, hb, hml, hown, hts⟩ (c_X3_hasPair l D cy s.heap.size xn n1 n2 n3 n4 n5 a1.toInt64 a2.toInt64) (cwV 2 hts gX11_most_X3_hasPair rfl rfl rfl (by decide +kernel) ⟨Nat.le_of_ble_eq_true rfl, Nat.le_of_ble_eq_true rfl⟩) ⟨bl_, va_recv hK.1 hPc (ci := 3) (q0 := 0) rfl rfl, fun U hU hW => ⟨rfl, by rw [hU], by rw [hU]; exact hPc, kk_mv hW hK, hDw⟩⟩ rfl rfl hl.1 rfl (lv_room (Nat.le_of_ble_eq_true rfl)) dX11_most_8 ⟨Nat.le_of_ble_eq_true rfl, Nat.le_of_ble_eq_true rfl⟩) hS (fun q _ h => hFc q h) hFc (fun r_1 u t H locs ht hvm hw hB hz1 hk1 hS => ?_)
  have hP := ro_keep hP hk1
  have hP : va_P D vwCl [(xo, .inr (11, [.ref xk, .ref xn, .ref xc, .ref xh, .ref xt, .ref xw, .ref xm, .ref xp, .int 0, .int 0, .long 0, .int 0])), (xn, .inr (3, [.int 0, .int 0, .ref n1, .ref n2, .ref n3, .ref n4, .ref n5]))] H := hP
  have e_ := hw.symm
  subst e_
  refine lv_if_ne (tgt := 16) hx hb dX11_most_11 (by decide) (fun c_2 => ?_) (fun c_2 => ?_)
  · exact absurd c_2 (by decide)
  · have _ := c_2
    refine lv_iconst (v := (-1)) hx hb dX11_most_14 (by decide) ?_
    exact W.iret (v := (-1)) hx hb hr (fun t ht hW => ⟨⟨(-1), (), rfl, rfl, trivial⟩, hS.F ht⟩) hS.2.2 dX11_most_15

set_option maxHeartbeats 4000000 in
set_option maxRecDepth 100000 in
theorem c_X11_cut (l : Launch) (D : va_G) (cy : Nat → ClassId) (sz : Nat) (xo : Nat) (xk : Nat) (xn : Nat) (xc : Nat) (xh : Nat) (xt : Nat) (xw : Nat) (xm : Nat) (xp : Nat) (n1 : Nat) (n2 : Nat) (n3 : Nat) (n4 : Nat) (n5 : Nat) (a1 : Int32) (a2 : Int32) (a3 : Int32) : Met l yX11_cut wsX11_cut ({ frames := 2, cells := 0, slots := 0, locals := 46 }) (va_Pc [.ref xo, .int a1, .int a2, .int a3] (fun U => U.heap.size = sz ∧ va_P D vwCl [(xo, .inr (11, [.ref xk, .ref xn, .ref xc, .ref xh, .ref xt, .ref xw, .ref xm, .ref xp, .int 0, .int 0, .long 0, .int 0])), (xn, .inr (3, [.int 0, .int 0, .ref n1, .ref n2, .ref n3, .ref n4, .ref n5]))] U.heap ∧ kk_ D cy U ∧ va_D (fun _ => True) [(xo, .inr (11, [.ref xk, .ref xn, .ref xc, .ref xh, .ref xt, .ref xw, .ref xm, .ref xp, .int 0, .int 0, .long 0, .int 0])), (xn, .inr (3, [.int 0, .int 0, .ref n1, .ref n2, .ref n3, .ref n4, .ref n5]))])) (va_Qi (fun (r : Int32) (_ : Unit) => r = (-1)) (fun (_ : Unit) (_ : State) => True) (va_A [] sz)) 0 0 (va_A [] sz) := by
  refine Met.ofW (cc := cX11_cut) (maxL := 4) (ret := (some .int)) (by decide) rfl ?_
  intro p e s m args below meth c s₁ B hml hv
  obtain ⟨rfl, hsz, hP, hK, hD0⟩ := hv
  have hx := B.exec
  have hb := B.bytes
  have hr := B.returns
  have hts := atoms_spec (ws := wsX11_cut) B.pre
  have hown : s.vm.findClass RX11 = some m.cls := findClass_of_methodNamed B.named
  have hlocks := B.notSynchronized
  subst hsz
  have hD : va_D (va_A [] s.heap.size) [] := dd_nil
  generalize hAe : va_A [] s.heap.size = A at hD ⊢
  have hA : ∀ q : Nat, s.heap.size ≤ q → A q := fun q h => by rw [← hAe]; exact Or.inr h
  have hS : va_S A s.heap s.heap [] := va_S.rf
  have hl := lv_entry ([.ref xo, .int a1, .int a2, .int a3]) (n := 4) (Nat.le_of_ble_eq_true rfl)
  rw [lg_entry_eq]
  generalize (lg_sl ([.ref xo, .int a1, .int a2, .int a3]) ++ List.replicate (4 - (lg_sl ([.ref xo, .int a1, .int a2, .int a3])).length) Slot.unset).toArray = ls at hl ⊢
  have hl : lv_has ls 4 [(0, .ref xo), (1, .int a1), (2, .int a2), (3, .int a3)] := hl
  refine lv_aload_n hx hb dX11_cut_0 rfl (lv_at hl 0 rfl) ?_
  refine va_get (ci := 11) (v := .ref xn) (C := RX11) (T := TX11) (N := 12) hx hb hts (fun _ h => List.mem_cons_of_mem _ (List.mem_append_left _ (List.mem_append_left _ (List.mem_append_right _ h)))) hown hK.1 hP 0 rfl rfl 1 (by decide) (hts (.fieldLink RX11 31 "CutAtlas" "net" "LCutAtlas$Net;") (by decide +kernel)) (fun _ h9 => h9) rfl dX11_cut_1 ?_
  refine lv_iload_n hx hb dX11_cut_4 rfl (lv_at hl 1 rfl) ?_
  refine lv_i2l (v := a1.toInt64) hx hb dX11_cut_5 rfl ?_
  have q_5 : (a1.toInt64).toInt = a1.toInt := Int32.toInt_toInt64 a1
  refine lv_iload_n hx hb dX11_cut_6 rfl (lv_at hl 2 rfl) ?_
  refine lv_i2l (v := a2.toInt64) hx hb dX11_cut_7 rfl ?_
  have q_7 : (a2.toInt64).toInt = a2.toInt := Int32.toInt_toInt64 a2
  have hPc := hP.sub (ws' := [(xn, .inr (3, [.int 0, .int 0, .ref n1, .ref n2, .ref n3, .ref n4, .ref n5]))]) [1] rfl
  have hDw : va_D (fun _ => True) [(xn, .inr (3, [.int 0, .int 0, .ref n1, .ref n2, .ref n3, .ref n4, .ref n5]))] := hD0.sub [1] (by decide) rfl
  have hFc := va_free (wc := []) hD hS hA [] rfl
  refine va_calli (va_runV (As := [.long a1.toInt64, .long a2.toInt64]) (rest := []) ⟨hx, hb, hml, hown, hts⟩ (c_X3_hasPair l D cy s.heap.size xn n1 n2 n3 n4 n5 a1.toInt64 a2.toInt64) (cwV 2 hts gX11_cut_X3_hasPair rfl rfl rfl (by decide +kernel) ⟨Nat.le_of_ble_eq_true rfl, Nat.le_of_ble_eq_true rfl⟩) ⟨bl_, va_recv hK.1 hPc (ci := 3) (q0 := 0) rfl rfl, fun U hU hW => ⟨rfl, by rw [hU], by rw [hU]; exact hPc, kk_mv hW hK, hDw⟩⟩ rfl rfl hl.1 rfl (lv_room (Nat.le_of_ble_eq_true rfl)) dX11_cut_8 ⟨Nat.le_of_ble_eq_true rfl, Nat.le_of_ble_eq_true rfl⟩) hS (fun q _ h => hFc q h) hFc (fun r_1 u t H locs ht hvm hw hB hz1 hk1 hS => ?_)
  have hP := ro_keep hP hk1
  have hP : va_P D vwCl [(xo, .inr (11, [.ref xk, .ref xn, .ref xc, .ref xh, .ref xt, .ref xw, .ref xm, .ref xp, .int 0, .int 0, .long 0, .int 0])), (xn, .inr (3, [.int 0, .int 0, .ref n1, .ref n2, .ref n3, .ref n4, .ref n5]))] H := hP
  have e_ := hw.symm
  subst e_
  refine lv_if_eq (tgt := 23) hx hb dX11_cut_11 (by decide) (fun c_2 => ?_) (fun c_2 => ?_)
  · have _ := c_2
    refine lv_iconst (v := (-1)) hx hb dX11_cut_23 (by decide) ?_
    exact W.iret (v := (-1)) hx hb hr (fun t ht hW => ⟨⟨(-1), (), rfl, rfl, trivial⟩, hS.F ht⟩) hS.2.2 dX11_cut_24
  · exact absurd c_2 (by decide)

set_option maxHeartbeats 4000000 in
set_option maxRecDepth 100000 in
theorem c_X11_count (l : Launch) (D : va_G) (cy : Nat → ClassId) (sz : Nat) (xo : Nat) (xk : Nat) (xn : Nat) (xc : Nat) (xh : Nat) (xt : Nat) (xw : Nat) (xm : Nat) (xp : Nat) (n1 : Nat) (n2 : Nat) (n3 : Nat) (n4 : Nat) (n5 : Nat) (a1 : Int32) (a2 : Int32) : Met l yX11_count wsX11_count ({ frames := 2, cells := 0, slots := 0, locals := 46 }) (va_Pc [.ref xo, .int a1, .int a2] (fun U => U.heap.size = sz ∧ va_P D vwCl [(xo, .inr (11, [.ref xk, .ref xn, .ref xc, .ref xh, .ref xt, .ref xw, .ref xm, .ref xp, .int 0, .int 0, .long 0, .int 0])), (xn, .inr (3, [.int 0, .int 0, .ref n1, .ref n2, .ref n3, .ref n4, .ref n5]))] U.heap ∧ kk_ D cy U ∧ va_D (fun _ => True) [(xo, .inr (11, [.ref xk, .ref xn, .ref xc, .ref xh, .ref xt, .ref xw, .ref xm, .ref xp, .int 0, .int 0, .long 0, .int 0])), (xn, .inr (3, [.int 0, .int 0, .ref n1, .ref n2, .ref n3, .ref n4, .ref n5]))])) (va_Qi (fun (r : Int32) (_ : Unit) => r = (-1)) (fun (_ : Unit) (_ : State) => True) (va_A [] sz)) 0 0 (va_A [] sz) := by
  refine Met.ofW (cc := cX11_count) (maxL := 4) (ret := (some .int)) (by decide) rfl ?_
  intro p e s m args below meth c s₁ B hml hv
  obtain ⟨rfl, hsz, hP, hK, hD0⟩ := hv
  have hx := B.exec
  have hb := B.bytes
  have hr := B.returns
  have hts := atoms_spec (ws := wsX11_count) B.pre
  have hown : s.vm.findClass RX11 = some m.cls := findClass_of_methodNamed B.named
  have hlocks := B.notSynchronized
  subst hsz
  have hD : va_D (va_A [] s.heap.size) [] := dd_nil
  generalize hAe : va_A [] s.heap.size = A at hD ⊢
  have hA : ∀ q : Nat, s.heap.size ≤ q → A q := fun q h => by rw [← hAe]; exact Or.inr h
  have hS : va_S A s.heap s.heap [] := va_S.rf
  have hl := lv_entry ([.ref xo, .int a1, .int a2]) (n := 4) (Nat.le_of_ble_eq_true rfl)
  rw [lg_entry_eq]
  generalize (lg_sl ([.ref xo, .int a1, .int a2]) ++ List.replicate (4 - (lg_sl ([.ref xo, .int a1, .int a2])).length) Slot.unset).toArray = ls at hl ⊢
  have hl : lv_has ls 4 [(0, .ref xo), (1, .int a1), (2, .int a2)] := hl
  refine lv_aload_n hx hb dX11_count_0 rfl (lv_at hl 0 rfl) ?_
  refine va_get (ci := 11) (v := .ref xn) (C := RX11) (T := TX11) (N := 12) hx hb hts (fun _ h => List.mem_cons_of_mem _ (List.mem_append_left _ (List.mem_append_left _ (List.mem_append_left _ (List.mem_append_right _ h))))) hown hK.1 hP 0 rfl rfl 1 (by decide) (hts (.fieldLink RX11 31 "CutAtlas" "net" "LCutAtlas$Net;") (by decide +kernel)) (fun _ h9 => h9) rfl dX11_count_1 ?_
  refine lv_iload_n hx hb dX11_count_4 rfl (lv_at hl 1 rfl) ?_
  refine lv_i2l (v := a1.toInt64) hx hb dX11_count_5 rfl ?_
  have q_5 : (a1.toInt64).toInt = a1.toInt := Int32.toInt_toInt64 a1
  refine lv_iload_n hx hb dX11_count_6 rfl (lv_at hl 2 rfl) ?_
  refine lv_i2l (v := a2.toInt64) hx hb dX11_count_7 rfl ?_
  have q_7 : (a2.toInt64).toInt = a2.toInt := Int32.toInt_toInt64 a2
  have hPc := hP.sub (ws' := [(xn, .inr (3, [.int 0, .int 0, .ref n1, .ref n2, .ref n3, .ref n4, .ref n5]))]) [1] rfl
  have hDw : va_D (fun _ => True) [(xn, .inr (3, [.int 0, .int 0, .ref n1, .ref n2, .ref n3, .ref n4, .ref n5]))] := hD0.sub [1] (by decide) rfl
  have hFc := va_free (wc := []) hD hS hA [] rfl
  refine va_calli (va_runV (As := [.long a1.toInt64, .long a2.toInt64]) (rest := []) ⟨hx, hb, hml, hown, hts⟩ (c_X3_hasPair l D cy s.heap.size xn n1 n2 n3 n4 n5 a1.toInt64 a2.toInt64) (cwV 2 hts gX11_count_X3_hasPair rfl rfl rfl (by decide +kernel) ⟨Nat.le_of_ble_eq_true rfl, Nat.le_of_ble_eq_true rfl⟩) ⟨bl_, va_recv hK.1 hPc (ci := 3) (q0 := 0) rfl rfl, fun U hU hW => ⟨rfl, by rw [hU], by rw [hU]; exact hPc, kk_mv hW hK, hDw⟩⟩ rfl rfl hl.1 rfl (lv_room (Nat.le_of_ble_eq_true rfl)) dX11_count_8 ⟨Nat.le_of_ble_eq_true rfl, Nat.le_of_ble_eq_true rfl⟩) hS (fun q _ h => hFc q h) hFc (fun r_1 u t H locs ht hvm hw hB hz1 hk1 hS => ?_)
  have hP := ro_keep hP hk1
  have hP : va_P D vwCl [(xo, .inr (11, [.ref xk, .ref xn, .ref xc, .ref xh, .ref xt, .ref xw, .ref xm, .ref xp, .int 0, .int 0, .long 0, .int 0])), (xn, .inr (3, [.int 0, .int 0, .ref n1, .ref n2, .ref n3, .ref n4, .ref n5]))] H := hP
  have e_ := hw.symm
  subst e_
  refine lv_if_ne (tgt := 16) hx hb dX11_count_11 (by decide) (fun c_2 => ?_) (fun c_2 => ?_)
  · exact absurd c_2 (by decide)
  · have _ := c_2
    refine lv_iconst (v := (-1)) hx hb dX11_count_14 (by decide) ?_
    exact W.iret (v := (-1)) hx hb hr (fun t ht hW => ⟨⟨(-1), (), rfl, rfl, trivial⟩, hS.F ht⟩) hS.2.2 dX11_count_15

set_option maxHeartbeats 4000000 in
set_option maxRecDepth 100000 in
theorem c_X11_next (l : Launch) (D : va_G) (cy : Nat → ClassId) (sz : Nat) (xo : Nat) (xk : Nat) (xn : Nat) (xc : Nat) (xh : Nat) (xt : Nat) (xw : Nat) (xm : Nat) (xp : Nat) (n1 : Nat) (n2 : Nat) (n3 : Nat) (n4 : Nat) (n5 : Nat) (a1 : Int32) (a2 : Int32) (a3 : Int32) : Met l yX11_next wsX11_next ({ frames := 2, cells := 0, slots := 0, locals := 46 }) (va_Pc [.ref xo, .int a1, .int a2, .int a3] (fun U => U.heap.size = sz ∧ va_P D vwCl [(xo, .inr (11, [.ref xk, .ref xn, .ref xc, .ref xh, .ref xt, .ref xw, .ref xm, .ref xp, .int 0, .int 0, .long 0, .int 0])), (xn, .inr (3, [.int 0, .int 0, .ref n1, .ref n2, .ref n3, .ref n4, .ref n5]))] U.heap ∧ kk_ D cy U ∧ va_D (fun _ => True) [(xo, .inr (11, [.ref xk, .ref xn, .ref xc, .ref xh, .ref xt, .ref xw, .ref xm, .ref xp, .int 0, .int 0, .long 0, .int 0])), (xn, .inr (3, [.int 0, .int 0, .ref n1, .ref n2, .ref n3, .ref n4, .ref n5]))])) (va_Qi (fun (r : Int32) (_ : Unit) => r = (-1)) (fun (_ : Unit) (_ : State) => True) (va_A [] sz)) 0 0 (va_A [] sz) := by
  refine Met.ofW (cc := cX11_next) (maxL := 5) (ret := (some .int)) (by decide) rfl ?_
  intro p e s m args below meth c s₁ B hml hv
  obtain ⟨rfl, hsz, hP, hK, hD0⟩ := hv
  have hx := B.exec
  have hb := B.bytes
  have hr := B.returns
  have hts := atoms_spec (ws := wsX11_next) B.pre
  have hown : s.vm.findClass RX11 = some m.cls := findClass_of_methodNamed B.named
  have hlocks := B.notSynchronized
  subst hsz
  have hD : va_D (va_A [] s.heap.size) [] := dd_nil
  generalize hAe : va_A [] s.heap.size = A at hD ⊢
  have hA : ∀ q : Nat, s.heap.size ≤ q → A q := fun q h => by rw [← hAe]; exact Or.inr h
  have hS : va_S A s.heap s.heap [] := va_S.rf
  have hl := lv_entry ([.ref xo, .int a1, .int a2, .int a3]) (n := 5) (Nat.le_of_ble_eq_true rfl)
  rw [lg_entry_eq]
  generalize (lg_sl ([.ref xo, .int a1, .int a2, .int a3]) ++ List.replicate (5 - (lg_sl ([.ref xo, .int a1, .int a2, .int a3])).length) Slot.unset).toArray = ls at hl ⊢
  have hl : lv_has ls 5 [(0, .ref xo), (1, .int a1), (2, .int a2), (3, .int a3)] := hl
  refine lv_aload_n hx hb dX11_next_0 rfl (lv_at hl 0 rfl) ?_
  refine va_get (ci := 11) (v := .ref xn) (C := RX11) (T := TX11) (N := 12) hx hb hts (fun _ h => List.mem_cons_of_mem _ (List.mem_append_left _ (List.mem_append_left _ (List.mem_append_left _ (List.mem_append_right _ h))))) hown hK.1 hP 0 rfl rfl 1 (by decide) (hts (.fieldLink RX11 31 "CutAtlas" "net" "LCutAtlas$Net;") (by decide +kernel)) (fun _ h9 => h9) rfl dX11_next_1 ?_
  refine lv_iload_n hx hb dX11_next_4 rfl (lv_at hl 1 rfl) ?_
  refine lv_i2l (v := a1.toInt64) hx hb dX11_next_5 rfl ?_
  have q_5 : (a1.toInt64).toInt = a1.toInt := Int32.toInt_toInt64 a1
  refine lv_iload_n hx hb dX11_next_6 rfl (lv_at hl 2 rfl) ?_
  refine lv_i2l (v := a2.toInt64) hx hb dX11_next_7 rfl ?_
  have q_7 : (a2.toInt64).toInt = a2.toInt := Int32.toInt_toInt64 a2
  have hPc := hP.sub (ws' := [(xn, .inr (3, [.int 0, .int 0, .ref n1, .ref n2, .ref n3, .ref n4, .ref n5]))]) [1] rfl
  have hDw : va_D (fun _ => True) [(xn, .inr (3, [.int 0, .int 0, .ref n1, .ref n2, .ref n3, .ref n4, .ref n5]))] := hD0.sub [1] (by decide) rfl
  have hFc := va_free (wc := []) hD hS hA [] rfl
  refine va_calli (va_runV (As := [.long a1.toInt64, .long a2.toInt64]) (rest := []) ⟨hx, hb, hml, hown, hts⟩ (c_X3_hasPair l D cy s.heap.size xn n1 n2 n3 n4 n5 a1.toInt64 a2.toInt64) (cwV 2 hts gX11_next_X3_hasPair rfl rfl rfl (by decide +kernel) ⟨Nat.le_of_ble_eq_true rfl, Nat.le_of_ble_eq_true rfl⟩) ⟨bl_, va_recv hK.1 hPc (ci := 3) (q0 := 0) rfl rfl, fun U hU hW => ⟨rfl, by rw [hU], by rw [hU]; exact hPc, kk_mv hW hK, hDw⟩⟩ rfl rfl hl.1 rfl (lv_room (Nat.le_of_ble_eq_true rfl)) dX11_next_8 ⟨Nat.le_of_ble_eq_true rfl, Nat.le_of_ble_eq_true rfl⟩) hS (fun q _ h => hFc q h) hFc (fun r_1 u t H locs ht hvm hw hB hz1 hk1 hS => ?_)
  have hP := ro_keep hP hk1
  have hP : va_P D vwCl [(xo, .inr (11, [.ref xk, .ref xn, .ref xc, .ref xh, .ref xt, .ref xw, .ref xm, .ref xp, .int 0, .int 0, .long 0, .int 0])), (xn, .inr (3, [.int 0, .int 0, .ref n1, .ref n2, .ref n3, .ref n4, .ref n5]))] H := hP
  have e_ := hw.symm
  subst e_
  refine lv_if_eq (tgt := 18) hx hb dX11_next_11 (by decide) (fun c_2 => ?_) (fun c_2 => ?_)
  · have _ := c_2
    refine lv_iconst (v := (-1)) hx hb dX11_next_18 (by decide) ?_
    exact W.iret (v := (-1)) hx hb hr (fun t ht hW => ⟨⟨(-1), (), rfl, rfl, trivial⟩, hS.F ht⟩) hS.2.2 dX11_next_19
  · exact absurd c_2 (by decide)

set_option maxHeartbeats 4000000 in
set_option maxRecDepth 100000 in
theorem c_X11_size (l : Launch) (D : va_G) (cy : Nat → ClassId) (sz : Nat) (xo : Nat) (xk : Nat) (xn : Nat) (xc : Nat) (xh : Nat) (xt : Nat) (xw : Nat) (xm : Nat) (xp : Nat) (n1 : Nat) (n2 : Nat) (n3 : Nat) (n4 : Nat) (n5 : Nat) (a1 : Int32) (a2 : Int32) (a3 : Int32) : Met l yX11_size wsX11_size ({ frames := 2, cells := 0, slots := 0, locals := 46 }) (va_Pc [.ref xo, .int a1, .int a2, .int a3] (fun U => U.heap.size = sz ∧ va_P D vwCl [(xo, .inr (11, [.ref xk, .ref xn, .ref xc, .ref xh, .ref xt, .ref xw, .ref xm, .ref xp, .int 0, .int 0, .long 0, .int 0])), (xn, .inr (3, [.int 0, .int 0, .ref n1, .ref n2, .ref n3, .ref n4, .ref n5]))] U.heap ∧ kk_ D cy U ∧ va_D (fun _ => True) [(xo, .inr (11, [.ref xk, .ref xn, .ref xc, .ref xh, .ref xt, .ref xw, .ref xm, .ref xp, .int 0, .int 0, .long 0, .int 0])), (xn, .inr (3, [.int 0, .int 0, .ref n1, .ref n2, .ref n3, .ref n4, .ref n5]))])) (va_Qi (fun (r : Int32) (_ : Unit) => r = (-1)) (fun (_ : Unit) (_ : State) => True) (va_A [] sz)) 0 0 (va_A [] sz) := by
  refine Met.ofW (cc := cX11_size) (maxL := 5) (ret := (some .int)) (by decide) rfl ?_
  intro p e s m args below meth c s₁ B hml hv
  obtain ⟨rfl, hsz, hP, hK, hD0⟩ := hv
  have hx := B.exec
  have hb := B.bytes
  have hr := B.returns
  have hts := atoms_spec (ws := wsX11_size) B.pre
  have hown : s.vm.findClass RX11 = some m.cls := findClass_of_methodNamed B.named
  have hlocks := B.notSynchronized
  subst hsz
  have hD : va_D (va_A [] s.heap.size) [] := dd_nil
  generalize hAe : va_A [] s.heap.size = A at hD ⊢
  have hA : ∀ q : Nat, s.heap.size ≤ q → A q := fun q h => by rw [← hAe]; exact Or.inr h
  have hS : va_S A s.heap s.heap [] := va_S.rf
  have hl := lv_entry ([.ref xo, .int a1, .int a2, .int a3]) (n := 5) (Nat.le_of_ble_eq_true rfl)
  rw [lg_entry_eq]
  generalize (lg_sl ([.ref xo, .int a1, .int a2, .int a3]) ++ List.replicate (5 - (lg_sl ([.ref xo, .int a1, .int a2, .int a3])).length) Slot.unset).toArray = ls at hl ⊢
  have hl : lv_has ls 5 [(0, .ref xo), (1, .int a1), (2, .int a2), (3, .int a3)] := hl
  refine lv_aload_n hx hb dX11_size_0 rfl (lv_at hl 0 rfl) ?_
  refine va_get (ci := 11) (v := .ref xn) (C := RX11) (T := TX11) (N := 12) hx hb hts (fun _ h => List.mem_cons_of_mem _ (List.mem_append_left _ (List.mem_append_left _ (List.mem_append_right _ h)))) hown hK.1 hP 0 rfl rfl 1 (by decide) (hts (.fieldLink RX11 31 "CutAtlas" "net" "LCutAtlas$Net;") (by decide +kernel)) (fun _ h9 => h9) rfl dX11_size_1 ?_
  refine lv_iload_n hx hb dX11_size_4 rfl (lv_at hl 1 rfl) ?_
  refine lv_i2l (v := a1.toInt64) hx hb dX11_size_5 rfl ?_
  have q_5 : (a1.toInt64).toInt = a1.toInt := Int32.toInt_toInt64 a1
  refine lv_iload_n hx hb dX11_size_6 rfl (lv_at hl 2 rfl) ?_
  refine lv_i2l (v := a2.toInt64) hx hb dX11_size_7 rfl ?_
  have q_7 : (a2.toInt64).toInt = a2.toInt := Int32.toInt_toInt64 a2
  have hPc := hP.sub (ws' := [(xn, .inr (3, [.int 0, .int 0, .ref n1, .ref n2, .ref n3, .ref n4, .ref n5]))]) [1] rfl
  have hDw : va_D (fun _ => True) [(xn, .inr (3, [.int 0, .int 0, .ref n1, .ref n2, .ref n3, .ref n4, .ref n5]))] := hD0.sub [1] (by decide) rfl
  have hFc := va_free (wc := []) hD hS hA [] rfl
  refine va_calli (va_runV (As := [.long a1.toInt64, .long a2.toInt64]) (rest := []) ⟨hx, hb, hml, hown, hts⟩ (c_X3_hasPair l D cy s.heap.size xn n1 n2 n3 n4 n5 a1.toInt64 a2.toInt64) (cwV 2 hts gX11_size_X3_hasPair rfl rfl rfl (by decide +kernel) ⟨Nat.le_of_ble_eq_true rfl, Nat.le_of_ble_eq_true rfl⟩) ⟨bl_, va_recv hK.1 hPc (ci := 3) (q0 := 0) rfl rfl, fun U hU hW => ⟨rfl, by rw [hU], by rw [hU]; exact hPc, kk_mv hW hK, hDw⟩⟩ rfl rfl hl.1 rfl (lv_room (Nat.le_of_ble_eq_true rfl)) dX11_size_8 ⟨Nat.le_of_ble_eq_true rfl, Nat.le_of_ble_eq_true rfl⟩) hS (fun q _ h => hFc q h) hFc (fun r_1 u t H locs ht hvm hw hB hz1 hk1 hS => ?_)
  have hP := ro_keep hP hk1
  have hP : va_P D vwCl [(xo, .inr (11, [.ref xk, .ref xn, .ref xc, .ref xh, .ref xt, .ref xw, .ref xm, .ref xp, .int 0, .int 0, .long 0, .int 0])), (xn, .inr (3, [.int 0, .int 0, .ref n1, .ref n2, .ref n3, .ref n4, .ref n5]))] H := hP
  have e_ := hw.symm
  subst e_
  refine lv_if_ne (tgt := 16) hx hb dX11_size_11 (by decide) (fun c_2 => ?_) (fun c_2 => ?_)
  · exact absurd c_2 (by decide)
  · have _ := c_2
    refine lv_iconst (v := (-1)) hx hb dX11_size_14 (by decide) ?_
    exact W.iret (v := (-1)) hx hb hr (fun t ht hW => ⟨⟨(-1), (), rfl, rfl, trivial⟩, hS.F ht⟩) hS.2.2 dX11_size_15

set_option maxHeartbeats 4000000 in
set_option maxRecDepth 100000 in
theorem c_X11_raise (l : Launch) (D : va_G) (cy : Nat → ClassId) (sz : Nat) (xo : Nat) (xk : Nat) (xn : Nat) (xc : Nat) (xh : Nat) (xt : Nat) (xw : Nat) (xm : Nat) (xp : Nat) (n1 : Nat) (n2 : Nat) (n3 : Nat) (n4 : Nat) (n5 : Nat) (a1 : Int32) (a2 : Int32) (a3 : Int32) : Met l yX11_raise wsX11_raise ({ frames := 2, cells := 0, slots := 0, locals := 46 }) (va_Pc [.ref xo, .int a1, .int a2, .int a3] (fun U => U.heap.size = sz ∧ va_P D vwCl [(xo, .inr (11, [.ref xk, .ref xn, .ref xc, .ref xh, .ref xt, .ref xw, .ref xm, .ref xp, .int 0, .int 0, .long 0, .int 0])), (xn, .inr (3, [.int 0, .int 0, .ref n1, .ref n2, .ref n3, .ref n4, .ref n5]))] U.heap ∧ kk_ D cy U ∧ va_D (fun _ => True) [(xo, .inr (11, [.ref xk, .ref xn, .ref xc, .ref xh, .ref xt, .ref xw, .ref xm, .ref xp, .int 0, .int 0, .long 0, .int 0])), (xn, .inr (3, [.int 0, .int 0, .ref n1, .ref n2, .ref n3, .ref n4, .ref n5]))])) (va_Qi (fun (r : Int32) (_ : Unit) => r = (-1)) (fun (_ : Unit) (_ : State) => True) (va_A [] sz)) 0 0 (va_A [] sz) := by
  refine Met.ofW (cc := cX11_raise) (maxL := 4) (ret := (some .int)) (by decide) rfl ?_
  intro p e s m args below meth c s₁ B hml hv
  obtain ⟨rfl, hsz, hP, hK, hD0⟩ := hv
  have hx := B.exec
  have hb := B.bytes
  have hr := B.returns
  have hts := atoms_spec (ws := wsX11_raise) B.pre
  have hown : s.vm.findClass RX11 = some m.cls := findClass_of_methodNamed B.named
  have hlocks := B.notSynchronized
  subst hsz
  have hD : va_D (va_A [] s.heap.size) [] := dd_nil
  generalize hAe : va_A [] s.heap.size = A at hD ⊢
  have hA : ∀ q : Nat, s.heap.size ≤ q → A q := fun q h => by rw [← hAe]; exact Or.inr h
  have hS : va_S A s.heap s.heap [] := va_S.rf
  have hl := lv_entry ([.ref xo, .int a1, .int a2, .int a3]) (n := 4) (Nat.le_of_ble_eq_true rfl)
  rw [lg_entry_eq]
  generalize (lg_sl ([.ref xo, .int a1, .int a2, .int a3]) ++ List.replicate (4 - (lg_sl ([.ref xo, .int a1, .int a2, .int a3])).length) Slot.unset).toArray = ls at hl ⊢
  have hl : lv_has ls 4 [(0, .ref xo), (1, .int a1), (2, .int a2), (3, .int a3)] := hl
  refine lv_aload_n hx hb dX11_raise_0 rfl (lv_at hl 0 rfl) ?_
  refine va_get (ci := 11) (v := .ref xn) (C := RX11) (T := TX11) (N := 12) hx hb hts (fun _ h => List.mem_cons_of_mem _ (List.mem_append_left _ (List.mem_append_left _ (List.mem_append_right _ h)))) hown hK.1 hP 0 rfl rfl 1 (by decide) (hts (.fieldLink RX11 31 "CutAtlas" "net" "LCutAtlas$Net;") (by decide +kernel)) (fun _ h9 => h9) rfl dX11_raise_1 ?_
  refine lv_iload_n hx hb dX11_raise_4 rfl (lv_at hl 1 rfl) ?_
  refine lv_i2l (v := a1.toInt64) hx hb dX11_raise_5 rfl ?_
  have q_5 : (a1.toInt64).toInt = a1.toInt := Int32.toInt_toInt64 a1
  refine lv_iload_n hx hb dX11_raise_6 rfl (lv_at hl 2 rfl) ?_
  refine lv_i2l (v := a2.toInt64) hx hb dX11_raise_7 rfl ?_
  have q_7 : (a2.toInt64).toInt = a2.toInt := Int32.toInt_toInt64 a2
  have hPc := hP.sub (ws' := [(xn, .inr (3, [.int 0, .int 0, .ref n1, .ref n2, .ref n3, .ref n4, .ref n5]))]) [1] rfl
  have hDw : va_D (fun _ => True) [(xn, .inr (3, [.int 0, .int 0, .ref n1, .ref n2, .ref n3, .ref n4, .ref n5]))] := hD0.sub [1] (by decide) rfl
  have hFc := va_free (wc := []) hD hS hA [] rfl
  refine va_calli (va_runV (As := [.long a1.toInt64, .long a2.toInt64]) (rest := []) ⟨hx, hb, hml, hown, hts⟩ (c_X3_hasPair l D cy s.heap.size xn n1 n2 n3 n4 n5 a1.toInt64 a2.toInt64) (cwV 2 hts gX11_raise_X3_hasPair rfl rfl rfl (by decide +kernel) ⟨Nat.le_of_ble_eq_true rfl, Nat.le_of_ble_eq_true rfl⟩) ⟨bl_, va_recv hK.1 hPc (ci := 3) (q0 := 0) rfl rfl, fun U hU hW => ⟨rfl, by rw [hU], by rw [hU]; exact hPc, kk_mv hW hK, hDw⟩⟩ rfl rfl hl.1 rfl (lv_room (Nat.le_of_ble_eq_true rfl)) dX11_raise_8 ⟨Nat.le_of_ble_eq_true rfl, Nat.le_of_ble_eq_true rfl⟩) hS (fun q _ h => hFc q h) hFc (fun r_1 u t H locs ht hvm hw hB hz1 hk1 hS => ?_)
  have hP := ro_keep hP hk1
  have hP : va_P D vwCl [(xo, .inr (11, [.ref xk, .ref xn, .ref xc, .ref xh, .ref xt, .ref xw, .ref xm, .ref xp, .int 0, .int 0, .long 0, .int 0])), (xn, .inr (3, [.int 0, .int 0, .ref n1, .ref n2, .ref n3, .ref n4, .ref n5]))] H := hP
  have e_ := hw.symm
  subst e_
  refine lv_if_eq (tgt := 25) hx hb dX11_raise_11 (by decide) (fun c_2 => ?_) (fun c_2 => ?_)
  · have _ := c_2
    refine lv_iconst (v := (-1)) hx hb dX11_raise_25 (by decide) ?_
    exact W.iret (v := (-1)) hx hb hr (fun t ht hW => ⟨⟨(-1), (), rfl, rfl, trivial⟩, hS.F ht⟩) hS.2.2 dX11_raise_26
  · exact absurd c_2 (by decide)

set_option maxHeartbeats 4000000 in
set_option maxRecDepth 100000 in
theorem c_X11_cheapest (l : Launch) (D : va_G) (cy : Nat → ClassId) (sz : Nat) (xo : Nat) (xk : Nat) (xn : Nat) (xc : Nat) (xh : Nat) (xt : Nat) (xw : Nat) (xm : Nat) (xp : Nat) (n1 : Nat) (n2 : Nat) (n3 : Nat) (n4 : Nat) (n5 : Nat) (a1 : Int32) (a2 : Int32) (a3 : Int32) : Met l yX11_cheapest wsX11_cheapest ({ frames := 2, cells := 0, slots := 0, locals := 46 }) (va_Pc [.ref xo, .int a1, .int a2, .int a3] (fun U => U.heap.size = sz ∧ va_P D vwCl [(xo, .inr (11, [.ref xk, .ref xn, .ref xc, .ref xh, .ref xt, .ref xw, .ref xm, .ref xp, .int 0, .int 0, .long 0, .int 0])), (xn, .inr (3, [.int 0, .int 0, .ref n1, .ref n2, .ref n3, .ref n4, .ref n5]))] U.heap ∧ kk_ D cy U ∧ va_D (fun _ => True) [(xo, .inr (11, [.ref xk, .ref xn, .ref xc, .ref xh, .ref xt, .ref xw, .ref xm, .ref xp, .int 0, .int 0, .long 0, .int 0])), (xn, .inr (3, [.int 0, .int 0, .ref n1, .ref n2, .ref n3, .ref n4, .ref n5]))])) (va_Qi (fun (r : Int32) (_ : Unit) => r = (-1)) (fun (_ : Unit) (_ : State) => True) (va_A [] sz)) 0 0 (va_A [] sz) := by
  refine Met.ofW (cc := cX11_cheapest) (maxL := 5) (ret := (some .int)) (by decide) rfl ?_
  intro p e s m args below meth c s₁ B hml hv
  obtain ⟨rfl, hsz, hP, hK, hD0⟩ := hv
  have hx := B.exec
  have hb := B.bytes
  have hr := B.returns
  have hts := atoms_spec (ws := wsX11_cheapest) B.pre
  have hown : s.vm.findClass RX11 = some m.cls := findClass_of_methodNamed B.named
  have hlocks := B.notSynchronized
  subst hsz
  have hD : va_D (va_A [] s.heap.size) [] := dd_nil
  generalize hAe : va_A [] s.heap.size = A at hD ⊢
  have hA : ∀ q : Nat, s.heap.size ≤ q → A q := fun q h => by rw [← hAe]; exact Or.inr h
  have hS : va_S A s.heap s.heap [] := va_S.rf
  have hl := lv_entry ([.ref xo, .int a1, .int a2, .int a3]) (n := 5) (Nat.le_of_ble_eq_true rfl)
  rw [lg_entry_eq]
  generalize (lg_sl ([.ref xo, .int a1, .int a2, .int a3]) ++ List.replicate (5 - (lg_sl ([.ref xo, .int a1, .int a2, .int a3])).length) Slot.unset).toArray = ls at hl ⊢
  have hl : lv_has ls 5 [(0, .ref xo), (1, .int a1), (2, .int a2), (3, .int a3)] := hl
  refine lv_aload_n hx hb dX11_cheapest_0 rfl (lv_at hl 0 rfl) ?_
  refine va_get (ci := 11) (v := .ref xn) (C := RX11) (T := TX11) (N := 12) hx hb hts (fun _ h => List.mem_cons_of_mem _ (List.mem_append_left _ (List.mem_append_left _ (List.mem_append_left _ (List.mem_append_right _ h))))) hown hK.1 hP 0 rfl rfl 1 (by decide) (hts (.fieldLink RX11 31 "CutAtlas" "net" "LCutAtlas$Net;") (by decide +kernel)) (fun _ h9 => h9) rfl dX11_cheapest_1 ?_
  refine lv_iload_n hx hb dX11_cheapest_4 rfl (lv_at hl 1 rfl) ?_
  refine lv_i2l (v := a1.toInt64) hx hb dX11_cheapest_5 rfl ?_
  have q_5 : (a1.toInt64).toInt = a1.toInt := Int32.toInt_toInt64 a1
  refine lv_iload_n hx hb dX11_cheapest_6 rfl (lv_at hl 2 rfl) ?_
  refine lv_i2l (v := a2.toInt64) hx hb dX11_cheapest_7 rfl ?_
  have q_7 : (a2.toInt64).toInt = a2.toInt := Int32.toInt_toInt64 a2
  have hPc := hP.sub (ws' := [(xn, .inr (3, [.int 0, .int 0, .ref n1, .ref n2, .ref n3, .ref n4, .ref n5]))]) [1] rfl
  have hDw : va_D (fun _ => True) [(xn, .inr (3, [.int 0, .int 0, .ref n1, .ref n2, .ref n3, .ref n4, .ref n5]))] := hD0.sub [1] (by decide) rfl
  have hFc := va_free (wc := []) hD hS hA [] rfl
  refine va_calli (va_runV (As := [.long a1.toInt64, .long a2.toInt64]) (rest := []) ⟨hx, hb, hml, hown, hts⟩ (c_X3_hasPair l D cy s.heap.size xn n1 n2 n3 n4 n5 a1.toInt64 a2.toInt64) (cwV 2 hts gX11_cheapest_X3_hasPair rfl rfl rfl (by decide +kernel) ⟨Nat.le_of_ble_eq_true rfl, Nat.le_of_ble_eq_true rfl⟩) ⟨bl_, va_recv hK.1 hPc (ci := 3) (q0 := 0) rfl rfl, fun U hU hW => ⟨rfl, by rw [hU], by rw [hU]; exact hPc, kk_mv hW hK, hDw⟩⟩ rfl rfl hl.1 rfl (lv_room (Nat.le_of_ble_eq_true rfl)) dX11_cheapest_8 ⟨Nat.le_of_ble_eq_true rfl, Nat.le_of_ble_eq_true rfl⟩) hS (fun q _ h => hFc q h) hFc (fun r_1 u t H locs ht hvm hw hB hz1 hk1 hS => ?_)
  have hP := ro_keep hP hk1
  have hP : va_P D vwCl [(xo, .inr (11, [.ref xk, .ref xn, .ref xc, .ref xh, .ref xt, .ref xw, .ref xm, .ref xp, .int 0, .int 0, .long 0, .int 0])), (xn, .inr (3, [.int 0, .int 0, .ref n1, .ref n2, .ref n3, .ref n4, .ref n5]))] H := hP
  have e_ := hw.symm
  subst e_
  refine lv_if_eq (tgt := 25) hx hb dX11_cheapest_11 (by decide) (fun c_2 => ?_) (fun c_2 => ?_)
  · have _ := c_2
    refine lv_iconst (v := (-1)) hx hb dX11_cheapest_25 (by decide) ?_
    exact W.iret (v := (-1)) hx hb hr (fun t ht hW => ⟨⟨(-1), (), rfl, rfl, trivial⟩, hS.F ht⟩) hS.2.2 dX11_cheapest_26
  · exact absurd c_2 (by decide)

set_option maxHeartbeats 4000000 in
set_option maxRecDepth 100000 in
theorem c_X11_weak (l : Launch) (D : va_G) (cy : Nat → ClassId) (sz : Nat) (xo : Nat) (xk : Nat) (xn : Nat) (xc : Nat) (xh : Nat) (xt : Nat) (xw : Nat) (xm : Nat) (xp : Nat) (n1 : Nat) (n2 : Nat) (n3 : Nat) (n4 : Nat) (n5 : Nat) (a1 : Int32) : Met l yX11_weak wsX11_weak ({ frames := 1, cells := 0, slots := 0, locals := 21 }) (va_Pc [.ref xo, .int a1] (fun U => U.heap.size = sz ∧ va_P D vwCl [(xo, .inr (11, [.ref xk, .ref xn, .ref xc, .ref xh, .ref xt, .ref xw, .ref xm, .ref xp, .int 0, .int 0, .long 0, .int 0])), (xn, .inr (3, [.int 0, .int 0, .ref n1, .ref n2, .ref n3, .ref n4, .ref n5]))] U.heap ∧ kk_ D cy U ∧ va_D (fun _ => True) [(xo, .inr (11, [.ref xk, .ref xn, .ref xc, .ref xh, .ref xt, .ref xw, .ref xm, .ref xp, .int 0, .int 0, .long 0, .int 0])), (xn, .inr (3, [.int 0, .int 0, .ref n1, .ref n2, .ref n3, .ref n4, .ref n5]))])) (va_Qi (fun (r : Int32) (_ : Unit) => r = (-1)) (fun (_ : Unit) (_ : State) => True) (va_A [] sz)) 0 0 (va_A [] sz) := by
  refine Met.ofW (cc := cX11_weak) (maxL := 2) (ret := (some .int)) (by decide) rfl ?_
  intro p e s m args below meth c s₁ B hml hv
  obtain ⟨rfl, hsz, hP, hK, hD0⟩ := hv
  have hx := B.exec
  have hb := B.bytes
  have hr := B.returns
  have hts := atoms_spec (ws := wsX11_weak) B.pre
  have hown : s.vm.findClass RX11 = some m.cls := findClass_of_methodNamed B.named
  have hlocks := B.notSynchronized
  subst hsz
  have hD : va_D (va_A [] s.heap.size) [] := dd_nil
  generalize hAe : va_A [] s.heap.size = A at hD ⊢
  have hA : ∀ q : Nat, s.heap.size ≤ q → A q := fun q h => by rw [← hAe]; exact Or.inr h
  have hS : va_S A s.heap s.heap [] := va_S.rf
  have hl := lv_entry ([.ref xo, .int a1]) (n := 2) (Nat.le_of_ble_eq_true rfl)
  rw [lg_entry_eq]
  generalize (lg_sl ([.ref xo, .int a1]) ++ List.replicate (2 - (lg_sl ([.ref xo, .int a1])).length) Slot.unset).toArray = ls at hl ⊢
  have hl : lv_has ls 2 [(0, .ref xo), (1, .int a1)] := hl
  refine lv_aload_n hx hb dX11_weak_0 rfl (lv_at hl 0 rfl) ?_
  refine va_get (ci := 11) (v := .ref xn) (C := RX11) (T := TX11) (N := 12) hx hb hts (fun _ h => List.mem_cons_of_mem _ (List.mem_append_left _ (List.mem_append_left _ (List.mem_append_left _ (List.mem_append_right _ h))))) hown hK.1 hP 0 rfl rfl 1 (by decide) (hts (.fieldLink RX11 31 "CutAtlas" "net" "LCutAtlas$Net;") (by decide +kernel)) (fun _ h9 => h9) rfl dX11_weak_1 ?_
  refine lv_iload_n hx hb dX11_weak_4 rfl (lv_at hl 1 rfl) ?_
  have hPc := hP.sub (ws' := [(xn, .inr (3, [.int 0, .int 0, .ref n1, .ref n2, .ref n3, .ref n4, .ref n5]))]) [1] rfl
  have hDw : va_D (fun _ => True) [(xn, .inr (3, [.int 0, .int 0, .ref n1, .ref n2, .ref n3, .ref n4, .ref n5]))] := hD0.sub [1] (by decide) rfl
  have hFc := va_free (wc := []) hD hS hA [] rfl
  refine va_calli (va_runV (As := [.int a1]) (rest := []) ⟨hx, hb, hml, hown, hts⟩ (c_X3_hasLine l D cy s.heap.size xn n1 n2 n3 n4 n5 a1) (cwV 1 hts gX11_weak_X3_hasLine rfl rfl rfl (by decide +kernel) ⟨Nat.le_of_ble_eq_true rfl, Nat.le_of_ble_eq_true rfl⟩) ⟨bl_, va_recv hK.1 hPc (ci := 3) (q0 := 0) rfl rfl, fun U hU hW => ⟨rfl, by rw [hU], by rw [hU]; exact hPc, kk_mv hW hK, hDw⟩⟩ rfl rfl hl.1 rfl (lv_room (Nat.le_of_ble_eq_true rfl)) dX11_weak_5 ⟨Nat.le_of_ble_eq_true rfl, Nat.le_of_ble_eq_true rfl⟩) hS (fun q _ h => hFc q h) hFc (fun r_1 u t H locs ht hvm hw hB hz1 hk1 hS => ?_)
  have hP := ro_keep hP hk1
  have hP : va_P D vwCl [(xo, .inr (11, [.ref xk, .ref xn, .ref xc, .ref xh, .ref xt, .ref xw, .ref xm, .ref xp, .int 0, .int 0, .long 0, .int 0])), (xn, .inr (3, [.int 0, .int 0, .ref n1, .ref n2, .ref n3, .ref n4, .ref n5]))] H := hP
  have e_ := hw.symm
  subst e_
  refine lv_if_ne (tgt := 13) hx hb dX11_weak_8 (by decide) (fun c_2 => ?_) (fun c_2 => ?_)
  · exact absurd c_2 (by decide)
  · have _ := c_2
    refine lv_iconst (v := (-1)) hx hb dX11_weak_11 (by decide) ?_
    exact W.iret (v := (-1)) hx hb hr (fun t ht hW => ⟨⟨(-1), (), rfl, rfl, trivial⟩, hS.F ht⟩) hS.2.2 dX11_weak_12

set_option maxHeartbeats 4000000 in
set_option maxRecDepth 100000 in
theorem c_X11_flow (l : Launch) (D : va_G) (cy : Nat → ClassId) (sz : Nat) (xo : Nat) (xk : Nat) (xn : Nat) (xc : Nat) (xh : Nat) (xt : Nat) (xw : Nat) (xm : Nat) (xp : Nat) (n1 : Nat) (n2 : Nat) (n3 : Nat) (n4 : Nat) (n5 : Nat) (a1 : Int32) (a2 : Int32) (a3 : Int32) : Met l yX11_flow wsX11_flow ({ frames := 2, cells := 0, slots := 0, locals := 46 }) (va_Pc [.ref xo, .int a1, .int a2, .int a3] (fun U => U.heap.size = sz ∧ va_P D vwCl [(xo, .inr (11, [.ref xk, .ref xn, .ref xc, .ref xh, .ref xt, .ref xw, .ref xm, .ref xp, .int 0, .int 0, .long 0, .int 0])), (xn, .inr (3, [.int 0, .int 0, .ref n1, .ref n2, .ref n3, .ref n4, .ref n5]))] U.heap ∧ kk_ D cy U ∧ va_D (fun _ => True) [(xo, .inr (11, [.ref xk, .ref xn, .ref xc, .ref xh, .ref xt, .ref xw, .ref xm, .ref xp, .int 0, .int 0, .long 0, .int 0])), (xn, .inr (3, [.int 0, .int 0, .ref n1, .ref n2, .ref n3, .ref n4, .ref n5]))])) (va_Qi (fun (r : Int32) (_ : Unit) => r = (-1000000)) (fun (_ : Unit) (_ : State) => True) (va_A [] sz)) 0 0 (va_A [] sz) := by
  refine Met.ofW (cc := cX11_flow) (maxL := 4) (ret := (some .int)) (by decide) rfl ?_
  intro p e s m args below meth c s₁ B hml hv
  obtain ⟨rfl, hsz, hP, hK, hD0⟩ := hv
  have hx := B.exec
  have hb := B.bytes
  have hr := B.returns
  have hts := atoms_spec (ws := wsX11_flow) B.pre
  have hown : s.vm.findClass RX11 = some m.cls := findClass_of_methodNamed B.named
  have hlocks := B.notSynchronized
  subst hsz
  have hD : va_D (va_A [] s.heap.size) [] := dd_nil
  generalize hAe : va_A [] s.heap.size = A at hD ⊢
  have hA : ∀ q : Nat, s.heap.size ≤ q → A q := fun q h => by rw [← hAe]; exact Or.inr h
  have hS : va_S A s.heap s.heap [] := va_S.rf
  have hl := lv_entry ([.ref xo, .int a1, .int a2, .int a3]) (n := 4) (Nat.le_of_ble_eq_true rfl)
  rw [lg_entry_eq]
  generalize (lg_sl ([.ref xo, .int a1, .int a2, .int a3]) ++ List.replicate (4 - (lg_sl ([.ref xo, .int a1, .int a2, .int a3])).length) Slot.unset).toArray = ls at hl ⊢
  have hl : lv_has ls 4 [(0, .ref xo), (1, .int a1), (2, .int a2), (3, .int a3)] := hl
  refine lv_aload_n hx hb dX11_flow_0 rfl (lv_at hl 0 rfl) ?_
  refine va_get (ci := 11) (v := .ref xn) (C := RX11) (T := TX11) (N := 12) hx hb hts (fun _ h => List.mem_cons_of_mem _ (List.mem_append_left _ (List.mem_append_left _ (List.mem_append_right _ h)))) hown hK.1 hP 0 rfl rfl 1 (by decide) (hts (.fieldLink RX11 31 "CutAtlas" "net" "LCutAtlas$Net;") (by decide +kernel)) (fun _ h9 => h9) rfl dX11_flow_1 ?_
  refine lv_iload_n hx hb dX11_flow_4 rfl (lv_at hl 1 rfl) ?_
  refine lv_i2l (v := a1.toInt64) hx hb dX11_flow_5 rfl ?_
  have q_5 : (a1.toInt64).toInt = a1.toInt := Int32.toInt_toInt64 a1
  refine lv_iload_n hx hb dX11_flow_6 rfl (lv_at hl 2 rfl) ?_
  refine lv_i2l (v := a2.toInt64) hx hb dX11_flow_7 rfl ?_
  have q_7 : (a2.toInt64).toInt = a2.toInt := Int32.toInt_toInt64 a2
  have hPc := hP.sub (ws' := [(xn, .inr (3, [.int 0, .int 0, .ref n1, .ref n2, .ref n3, .ref n4, .ref n5]))]) [1] rfl
  have hDw : va_D (fun _ => True) [(xn, .inr (3, [.int 0, .int 0, .ref n1, .ref n2, .ref n3, .ref n4, .ref n5]))] := hD0.sub [1] (by decide) rfl
  have hFc := va_free (wc := []) hD hS hA [] rfl
  refine va_calli (va_runV (As := [.long a1.toInt64, .long a2.toInt64]) (rest := []) ⟨hx, hb, hml, hown, hts⟩ (c_X3_hasPair l D cy s.heap.size xn n1 n2 n3 n4 n5 a1.toInt64 a2.toInt64) (cwV 2 hts gX11_flow_X3_hasPair rfl rfl rfl (by decide +kernel) ⟨Nat.le_of_ble_eq_true rfl, Nat.le_of_ble_eq_true rfl⟩) ⟨bl_, va_recv hK.1 hPc (ci := 3) (q0 := 0) rfl rfl, fun U hU hW => ⟨rfl, by rw [hU], by rw [hU]; exact hPc, kk_mv hW hK, hDw⟩⟩ rfl rfl hl.1 rfl (lv_room (Nat.le_of_ble_eq_true rfl)) dX11_flow_8 ⟨Nat.le_of_ble_eq_true rfl, Nat.le_of_ble_eq_true rfl⟩) hS (fun q _ h => hFc q h) hFc (fun r_1 u t H locs ht hvm hw hB hz1 hk1 hS => ?_)
  have hP := ro_keep hP hk1
  have hP : va_P D vwCl [(xo, .inr (11, [.ref xk, .ref xn, .ref xc, .ref xh, .ref xt, .ref xw, .ref xm, .ref xp, .int 0, .int 0, .long 0, .int 0])), (xn, .inr (3, [.int 0, .int 0, .ref n1, .ref n2, .ref n3, .ref n4, .ref n5]))] H := hP
  have e_ := hw.symm
  subst e_
  refine lv_if_eq (tgt := 36) hx hb dX11_flow_11 (by decide) (fun c_2 => ?_) (fun c_2 => ?_)
  · have _ := c_2
    refine lv_ldc (v := (-1000000)) hx hb hown (hts (.constant RX11 172 (-1000000)) (by decide +kernel)) dX11_flow_36 ?_
    exact W.iret (v := (-1000000)) hx hb hr (fun t ht hW => ⟨⟨(-1000000), (), rfl, rfl, trivial⟩, hS.F ht⟩) hS.2.2 dX11_flow_38
  · exact absurd c_2 (by decide)

set_option maxHeartbeats 4000000 in
set_option maxRecDepth 100000 in
theorem c_X11_between (l : Launch) (D : va_G) (cy : Nat → ClassId) (sz : Nat) (xo : Nat) (xk : Nat) (xn : Nat) (xc : Nat) (xh : Nat) (xt : Nat) (xw : Nat) (xm : Nat) (xp : Nat) (n1 : Nat) (n2 : Nat) (n3 : Nat) (n4 : Nat) (n5 : Nat) (a1 : Int32) (a2 : Int32) : Met l yX11_between wsX11_between ({ frames := 1, cells := 0, slots := 0, locals := 22 }) (va_Pc [.ref xo, .int a1, .int a2] (fun U => U.heap.size = sz ∧ va_P D vwCl [(xo, .inr (11, [.ref xk, .ref xn, .ref xc, .ref xh, .ref xt, .ref xw, .ref xm, .ref xp, .int 0, .int 0, .long 0, .int 0])), (xn, .inr (3, [.int 0, .int 0, .ref n1, .ref n2, .ref n3, .ref n4, .ref n5]))] U.heap ∧ kk_ D cy U ∧ va_D (fun _ => True) [(xo, .inr (11, [.ref xk, .ref xn, .ref xc, .ref xh, .ref xt, .ref xw, .ref xm, .ref xp, .int 0, .int 0, .long 0, .int 0])), (xn, .inr (3, [.int 0, .int 0, .ref n1, .ref n2, .ref n3, .ref n4, .ref n5]))])) (va_Qi (fun (r : Int32) (_ : Unit) => r = (-2)) (fun (_ : Unit) (_ : State) => True) (va_A [] sz)) 0 0 (va_A [] sz) := by
  refine Met.ofW (cc := cX11_between) (maxL := 3) (ret := (some .int)) (by decide) rfl ?_
  intro p e s m args below meth c s₁ B hml hv
  obtain ⟨rfl, hsz, hP, hK, hD0⟩ := hv
  have hx := B.exec
  have hb := B.bytes
  have hr := B.returns
  have hts := atoms_spec (ws := wsX11_between) B.pre
  have hown : s.vm.findClass RX11 = some m.cls := findClass_of_methodNamed B.named
  have hlocks := B.notSynchronized
  subst hsz
  have hD : va_D (va_A [] s.heap.size) [] := dd_nil
  generalize hAe : va_A [] s.heap.size = A at hD ⊢
  have hA : ∀ q : Nat, s.heap.size ≤ q → A q := fun q h => by rw [← hAe]; exact Or.inr h
  have hS : va_S A s.heap s.heap [] := va_S.rf
  have hl := lv_entry ([.ref xo, .int a1, .int a2]) (n := 3) (Nat.le_of_ble_eq_true rfl)
  rw [lg_entry_eq]
  generalize (lg_sl ([.ref xo, .int a1, .int a2]) ++ List.replicate (3 - (lg_sl ([.ref xo, .int a1, .int a2])).length) Slot.unset).toArray = ls at hl ⊢
  have hl : lv_has ls 3 [(0, .ref xo), (1, .int a1), (2, .int a2)] := hl
  refine lv_aload_n hx hb dX11_between_0 rfl (lv_at hl 0 rfl) ?_
  refine va_get (ci := 11) (v := .ref xn) (C := RX11) (T := TX11) (N := 12) hx hb hts (fun _ h => List.mem_cons_of_mem _ (List.mem_append_left _ (List.mem_append_left _ (List.mem_append_left _ (List.mem_append_right _ h))))) hown hK.1 hP 0 rfl rfl 1 (by decide) (hts (.fieldLink RX11 31 "CutAtlas" "net" "LCutAtlas$Net;") (by decide +kernel)) (fun _ h9 => h9) rfl dX11_between_1 ?_
  have hPc := hP.sub (ws' := [(xn, .inr (3, [.int 0, .int 0, .ref n1, .ref n2, .ref n3, .ref n4, .ref n5]))]) [1] rfl
  have hDw : va_D (fun _ => True) [(xn, .inr (3, [.int 0, .int 0, .ref n1, .ref n2, .ref n3, .ref n4, .ref n5]))] := hD0.sub [1] (by decide) rfl
  have hFc := va_free (wc := []) hD hS hA [] rfl
  refine va_calli (va_runV (As := []) (rest := []) ⟨hx, hb, hml, hown, hts⟩ (c_X3_isWhole l D cy s.heap.size xn n1 n2 n3 n4 n5) (cwV 0 hts gX11_between_X3_isWhole rfl rfl rfl (by decide +kernel) ⟨Nat.le_of_ble_eq_true rfl, Nat.le_of_ble_eq_true rfl⟩) ⟨bl_, va_recv hK.1 hPc (ci := 3) (q0 := 0) rfl rfl, fun U hU hW => ⟨rfl, by rw [hU], by rw [hU]; exact hPc, kk_mv hW hK, hDw⟩⟩ rfl rfl hl.1 rfl (lv_room (Nat.le_of_ble_eq_true rfl)) dX11_between_4 ⟨Nat.le_of_ble_eq_true rfl, Nat.le_of_ble_eq_true rfl⟩) hS (fun q _ h => hFc q h) hFc (fun r_1 u t H locs ht hvm hw hB hz1 hk1 hS => ?_)
  have hP := ro_keep hP hk1
  have hP : va_P D vwCl [(xo, .inr (11, [.ref xk, .ref xn, .ref xc, .ref xh, .ref xt, .ref xw, .ref xm, .ref xp, .int 0, .int 0, .long 0, .int 0])), (xn, .inr (3, [.int 0, .int 0, .ref n1, .ref n2, .ref n3, .ref n4, .ref n5]))] H := hP
  have e_ := hw.symm
  subst e_
  refine lv_if_ne (tgt := 13) hx hb dX11_between_7 (by decide) (fun c_2 => ?_) (fun c_2 => ?_)
  · exact absurd c_2 (by decide)
  · have _ := c_2
    refine lv_bipush (v := (-2)) hx hb dX11_between_10 (by decide) ?_
    exact W.iret (v := (-2)) hx hb hr (fun t ht hW => ⟨⟨(-2), (), rfl, rfl, trivial⟩, hS.F ht⟩) hS.2.2 dX11_between_12

set_option maxHeartbeats 4000000 in
set_option maxRecDepth 100000 in
theorem c_X11_least (l : Launch) (D : va_G) (cy : Nat → ClassId) (sz : Nat) (xo : Nat) (xk : Nat) (xn : Nat) (xc : Nat) (xh : Nat) (xt : Nat) (xw : Nat) (xm : Nat) (xp : Nat) (n1 : Nat) (n2 : Nat) (n3 : Nat) (n4 : Nat) (n5 : Nat) : Met l yX11_least wsX11_least ({ frames := 1, cells := 0, slots := 0, locals := 22 }) (va_Pc [.ref xo] (fun U => U.heap.size = sz ∧ va_P D vwCl [(xo, .inr (11, [.ref xk, .ref xn, .ref xc, .ref xh, .ref xt, .ref xw, .ref xm, .ref xp, .int 0, .int 0, .long 0, .int 0])), (xn, .inr (3, [.int 0, .int 0, .ref n1, .ref n2, .ref n3, .ref n4, .ref n5]))] U.heap ∧ kk_ D cy U ∧ va_D (fun _ => True) [(xo, .inr (11, [.ref xk, .ref xn, .ref xc, .ref xh, .ref xt, .ref xw, .ref xm, .ref xp, .int 0, .int 0, .long 0, .int 0])), (xn, .inr (3, [.int 0, .int 0, .ref n1, .ref n2, .ref n3, .ref n4, .ref n5]))])) (va_Qi (fun (r : Int32) (_ : Unit) => r = (-2)) (fun (_ : Unit) (_ : State) => True) (va_A [] sz)) 0 0 (va_A [] sz) := by
  refine Met.ofW (cc := cX11_least) (maxL := 1) (ret := (some .int)) (by decide) rfl ?_
  intro p e s m args below meth c s₁ B hml hv
  obtain ⟨rfl, hsz, hP, hK, hD0⟩ := hv
  have hx := B.exec
  have hb := B.bytes
  have hr := B.returns
  have hts := atoms_spec (ws := wsX11_least) B.pre
  have hown : s.vm.findClass RX11 = some m.cls := findClass_of_methodNamed B.named
  have hlocks := B.notSynchronized
  subst hsz
  have hD : va_D (va_A [] s.heap.size) [] := dd_nil
  generalize hAe : va_A [] s.heap.size = A at hD ⊢
  have hA : ∀ q : Nat, s.heap.size ≤ q → A q := fun q h => by rw [← hAe]; exact Or.inr h
  have hS : va_S A s.heap s.heap [] := va_S.rf
  have hl := lv_entry ([.ref xo]) (n := 1) (Nat.le_of_ble_eq_true rfl)
  rw [lg_entry_eq]
  generalize (lg_sl ([.ref xo]) ++ List.replicate (1 - (lg_sl ([.ref xo])).length) Slot.unset).toArray = ls at hl ⊢
  have hl : lv_has ls 1 [(0, .ref xo)] := hl
  refine lv_aload_n hx hb dX11_least_0 rfl (lv_at hl 0 rfl) ?_
  refine va_get (ci := 11) (v := .ref xn) (C := RX11) (T := TX11) (N := 12) hx hb hts (fun _ h => List.mem_cons_of_mem _ (List.mem_append_left _ (List.mem_append_left _ (List.mem_append_left _ (List.mem_append_right _ h))))) hown hK.1 hP 0 rfl rfl 1 (by decide) (hts (.fieldLink RX11 31 "CutAtlas" "net" "LCutAtlas$Net;") (by decide +kernel)) (fun _ h9 => h9) rfl dX11_least_1 ?_
  have hPc := hP.sub (ws' := [(xn, .inr (3, [.int 0, .int 0, .ref n1, .ref n2, .ref n3, .ref n4, .ref n5]))]) [1] rfl
  have hDw : va_D (fun _ => True) [(xn, .inr (3, [.int 0, .int 0, .ref n1, .ref n2, .ref n3, .ref n4, .ref n5]))] := hD0.sub [1] (by decide) rfl
  have hFc := va_free (wc := []) hD hS hA [] rfl
  refine va_calli (va_runV (As := []) (rest := []) ⟨hx, hb, hml, hown, hts⟩ (c_X3_isWhole l D cy s.heap.size xn n1 n2 n3 n4 n5) (cwV 0 hts gX11_least_X3_isWhole rfl rfl rfl (by decide +kernel) ⟨Nat.le_of_ble_eq_true rfl, Nat.le_of_ble_eq_true rfl⟩) ⟨bl_, va_recv hK.1 hPc (ci := 3) (q0 := 0) rfl rfl, fun U hU hW => ⟨rfl, by rw [hU], by rw [hU]; exact hPc, kk_mv hW hK, hDw⟩⟩ rfl rfl hl.1 rfl (lv_room (Nat.le_of_ble_eq_true rfl)) dX11_least_4 ⟨Nat.le_of_ble_eq_true rfl, Nat.le_of_ble_eq_true rfl⟩) hS (fun q _ h => hFc q h) hFc (fun r_1 u t H locs ht hvm hw hB hz1 hk1 hS => ?_)
  have hP := ro_keep hP hk1
  have hP : va_P D vwCl [(xo, .inr (11, [.ref xk, .ref xn, .ref xc, .ref xh, .ref xt, .ref xw, .ref xm, .ref xp, .int 0, .int 0, .long 0, .int 0])), (xn, .inr (3, [.int 0, .int 0, .ref n1, .ref n2, .ref n3, .ref n4, .ref n5]))] H := hP
  have e_ := hw.symm
  subst e_
  refine lv_if_ne (tgt := 13) hx hb dX11_least_7 (by decide) (fun c_2 => ?_) (fun c_2 => ?_)
  · exact absurd c_2 (by decide)
  · have _ := c_2
    refine lv_bipush (v := (-2)) hx hb dX11_least_10 (by decide) ?_
    exact W.iret (v := (-2)) hx hb hr (fun t ht hW => ⟨⟨(-2), (), rfl, rfl, trivial⟩, hS.F ht⟩) hS.2.2 dX11_least_12

set_option maxHeartbeats 4000000 in
set_option maxRecDepth 100000 in
theorem c_X11_cuts (l : Launch) (D : va_G) (cy : Nat → ClassId) (sz : Nat) (xo : Nat) (xk : Nat) (xn : Nat) (xc : Nat) (xh : Nat) (xt : Nat) (xw : Nat) (xm : Nat) (xp : Nat) (n1 : Nat) (n2 : Nat) (n3 : Nat) (n4 : Nat) (n5 : Nat) : Met l yX11_cuts wsX11_cuts ({ frames := 1, cells := 0, slots := 0, locals := 22 }) (va_Pc [.ref xo] (fun U => U.heap.size = sz ∧ va_P D vwCl [(xo, .inr (11, [.ref xk, .ref xn, .ref xc, .ref xh, .ref xt, .ref xw, .ref xm, .ref xp, .int 0, .int 0, .long 0, .int 0])), (xn, .inr (3, [.int 0, .int 0, .ref n1, .ref n2, .ref n3, .ref n4, .ref n5]))] U.heap ∧ kk_ D cy U ∧ va_D (fun _ => True) [(xo, .inr (11, [.ref xk, .ref xn, .ref xc, .ref xh, .ref xt, .ref xw, .ref xm, .ref xp, .int 0, .int 0, .long 0, .int 0])), (xn, .inr (3, [.int 0, .int 0, .ref n1, .ref n2, .ref n3, .ref n4, .ref n5]))])) (va_Qi (fun (r : Int32) (_ : Unit) => r = (-2)) (fun (_ : Unit) (_ : State) => True) (va_A [] sz)) 0 0 (va_A [] sz) := by
  refine Met.ofW (cc := cX11_cuts) (maxL := 1) (ret := (some .int)) (by decide) rfl ?_
  intro p e s m args below meth c s₁ B hml hv
  obtain ⟨rfl, hsz, hP, hK, hD0⟩ := hv
  have hx := B.exec
  have hb := B.bytes
  have hr := B.returns
  have hts := atoms_spec (ws := wsX11_cuts) B.pre
  have hown : s.vm.findClass RX11 = some m.cls := findClass_of_methodNamed B.named
  have hlocks := B.notSynchronized
  subst hsz
  have hD : va_D (va_A [] s.heap.size) [] := dd_nil
  generalize hAe : va_A [] s.heap.size = A at hD ⊢
  have hA : ∀ q : Nat, s.heap.size ≤ q → A q := fun q h => by rw [← hAe]; exact Or.inr h
  have hS : va_S A s.heap s.heap [] := va_S.rf
  have hl := lv_entry ([.ref xo]) (n := 1) (Nat.le_of_ble_eq_true rfl)
  rw [lg_entry_eq]
  generalize (lg_sl ([.ref xo]) ++ List.replicate (1 - (lg_sl ([.ref xo])).length) Slot.unset).toArray = ls at hl ⊢
  have hl : lv_has ls 1 [(0, .ref xo)] := hl
  refine lv_aload_n hx hb dX11_cuts_0 rfl (lv_at hl 0 rfl) ?_
  refine va_get (ci := 11) (v := .ref xn) (C := RX11) (T := TX11) (N := 12) hx hb hts (fun _ h => List.mem_cons_of_mem _ (List.mem_append_left _ (List.mem_append_left _ (List.mem_append_left _ (List.mem_append_left _ (List.mem_append_right _ h)))))) hown hK.1 hP 0 rfl rfl 1 (by decide) (hts (.fieldLink RX11 31 "CutAtlas" "net" "LCutAtlas$Net;") (by decide +kernel)) (fun _ h9 => h9) rfl dX11_cuts_1 ?_
  have hPc := hP.sub (ws' := [(xn, .inr (3, [.int 0, .int 0, .ref n1, .ref n2, .ref n3, .ref n4, .ref n5]))]) [1] rfl
  have hDw : va_D (fun _ => True) [(xn, .inr (3, [.int 0, .int 0, .ref n1, .ref n2, .ref n3, .ref n4, .ref n5]))] := hD0.sub [1] (by decide) rfl
  have hFc := va_free (wc := []) hD hS hA [] rfl
  refine va_calli (va_runV (As := []) (rest := []) ⟨hx, hb, hml, hown, hts⟩ (c_X3_isWhole l D cy s.heap.size xn n1 n2 n3 n4 n5) (cwV 0 hts gX11_cuts_X3_isWhole rfl rfl rfl (by decide +kernel) ⟨Nat.le_of_ble_eq_true rfl, Nat.le_of_ble_eq_true rfl⟩) ⟨bl_, va_recv hK.1 hPc (ci := 3) (q0 := 0) rfl rfl, fun U hU hW => ⟨rfl, by rw [hU], by rw [hU]; exact hPc, kk_mv hW hK, hDw⟩⟩ rfl rfl hl.1 rfl (lv_room (Nat.le_of_ble_eq_true rfl)) dX11_cuts_4 ⟨Nat.le_of_ble_eq_true rfl, Nat.le_of_ble_eq_true rfl⟩) hS (fun q _ h => hFc q h) hFc (fun r_1 u t H locs ht hvm hw hB hz1 hk1 hS => ?_)
  have hP := ro_keep hP hk1
  have hP : va_P D vwCl [(xo, .inr (11, [.ref xk, .ref xn, .ref xc, .ref xh, .ref xt, .ref xw, .ref xm, .ref xp, .int 0, .int 0, .long 0, .int 0])), (xn, .inr (3, [.int 0, .int 0, .ref n1, .ref n2, .ref n3, .ref n4, .ref n5]))] H := hP
  have e_ := hw.symm
  subst e_
  refine lv_if_ne (tgt := 13) hx hb dX11_cuts_7 (by decide) (fun c_2 => ?_) (fun c_2 => ?_)
  · exact absurd c_2 (by decide)
  · have _ := c_2
    refine lv_bipush (v := (-2)) hx hb dX11_cuts_10 (by decide) ?_
    exact W.iret (v := (-2)) hx hb hr (fun t ht hW => ⟨⟨(-2), (), rfl, rfl, trivial⟩, hS.F ht⟩) hS.2.2 dX11_cuts_12

set_option maxHeartbeats 4000000 in
set_option maxRecDepth 100000 in
theorem c_X11_undo (l : Launch) (D : va_G) (cy : Nat → ClassId) (sz : Nat) (xo : Nat) (xk : Nat) (xn : Nat) (xc : Nat) (xh : Nat) (xt : Nat) (xw : Nat) (xm : Nat) (xp : Nat) (n1 : Nat) (n2 : Nat) (n3 : Nat) (n4 : Nat) (n5 : Nat) : Met l yX11_undo wsX11_undo ({ frames := 0, cells := 0, slots := 0, locals := 0 }) (va_Pc [.ref xo] (fun U => U.heap.size = sz ∧ va_P D vwCl [(xo, .inr (11, [.ref xk, .ref xn, .ref xc, .ref xh, .ref xt, .ref xw, .ref xm, .ref xp, .int 0, .int 0, .long 0, .int 0])), (xn, .inr (3, [.int 0, .int 0, .ref n1, .ref n2, .ref n3, .ref n4, .ref n5]))] U.heap ∧ kk_ D cy U ∧ va_D (fun _ => True) [(xo, .inr (11, [.ref xk, .ref xn, .ref xc, .ref xh, .ref xt, .ref xw, .ref xm, .ref xp, .int 0, .int 0, .long 0, .int 0])), (xn, .inr (3, [.int 0, .int 0, .ref n1, .ref n2, .ref n3, .ref n4, .ref n5]))])) (va_Qi (fun (r : Int32) (_ : Unit) => r = (-2)) (fun (_ : Unit) (_ : State) => True) (va_A [] sz)) 0 0 (va_A [] sz) := by
  refine Met.ofW (cc := cX11_undo) (maxL := 2) (ret := (some .int)) (by decide) rfl ?_
  intro p e s m args below meth c s₁ B hml hv
  obtain ⟨rfl, hsz, hP, hK, hD0⟩ := hv
  have hx := B.exec
  have hb := B.bytes
  have hr := B.returns
  have hts := atoms_spec (ws := wsX11_undo) B.pre
  have hown : s.vm.findClass RX11 = some m.cls := findClass_of_methodNamed B.named
  have hlocks := B.notSynchronized
  subst hsz
  have hD : va_D (va_A [] s.heap.size) [] := dd_nil
  generalize hAe : va_A [] s.heap.size = A at hD ⊢
  have hA : ∀ q : Nat, s.heap.size ≤ q → A q := fun q h => by rw [← hAe]; exact Or.inr h
  have hS : va_S A s.heap s.heap [] := va_S.rf
  have hl := lv_entry ([.ref xo]) (n := 2) (Nat.le_of_ble_eq_true rfl)
  rw [lg_entry_eq]
  generalize (lg_sl ([.ref xo]) ++ List.replicate (2 - (lg_sl ([.ref xo])).length) Slot.unset).toArray = ls at hl ⊢
  have hl : lv_has ls 2 [(0, .ref xo)] := hl
  refine lv_aload_n hx hb dX11_undo_0 rfl (lv_at hl 0 rfl) ?_
  refine va_get (ci := 11) (v := .int 0) (C := RX11) (T := TX11) (N := 12) hx hb hts (fun _ h => List.mem_cons_of_mem _ (List.mem_append_left _ (List.mem_append_right _ h))) hown hK.1 hP 0 rfl rfl 9 (by decide) (hts (.fieldLink RX11 84 "CutAtlas" "pastHeld" "I") (by decide +kernel)) (fun _ h9 => h9) rfl dX11_undo_1 ?_
  refine lv_if_ne (tgt := 10) hx hb dX11_undo_4 (by decide) (fun c_1 => ?_) (fun c_1 => ?_)
  · exact absurd c_1 (by decide)
  · have _ := c_1
    refine lv_bipush (v := (-2)) hx hb dX11_undo_7 (by decide) ?_
    exact W.iret (v := (-2)) hx hb hr (fun t ht hW => ⟨⟨(-2), (), rfl, rfl, trivial⟩, hS.F ht⟩) hS.2.2 dX11_undo_9

set_option maxHeartbeats 4000000 in
set_option maxRecDepth 100000 in
theorem c_X11_trace (l : Launch) (D : va_G) (cy : Nat → ClassId) (sz : Nat) (xo : Nat) (xk : Nat) (xn : Nat) (xc : Nat) (xh : Nat) (xt : Nat) (xw : Nat) (xm : Nat) (xp : Nat) (n1 : Nat) (n2 : Nat) (n3 : Nat) (n4 : Nat) (n5 : Nat) : Met l yX11_trace wsX11_trace ({ frames := 0, cells := 0, slots := 0, locals := 0 }) (va_Pc [.ref xo] (fun U => U.heap.size = sz ∧ va_P D vwCl [(xo, .inr (11, [.ref xk, .ref xn, .ref xc, .ref xh, .ref xt, .ref xw, .ref xm, .ref xp, .int 0, .int 0, .long 0, .int 0])), (xn, .inr (3, [.int 0, .int 0, .ref n1, .ref n2, .ref n3, .ref n4, .ref n5]))] U.heap ∧ kk_ D cy U ∧ va_D (fun _ => True) [(xo, .inr (11, [.ref xk, .ref xn, .ref xc, .ref xh, .ref xt, .ref xw, .ref xm, .ref xp, .int 0, .int 0, .long 0, .int 0])), (xn, .inr (3, [.int 0, .int 0, .ref n1, .ref n2, .ref n3, .ref n4, .ref n5]))])) (va_Ql (fun (r : Int64) (_ : Unit) => r = 0) (fun (_ : Unit) (_ : State) => True) (va_A [] sz)) 0 0 (va_A [] sz) := by
  refine Met.ofW (cc := cX11_trace) (maxL := 1) (ret := (some .long)) (by decide) rfl ?_
  intro p e s m args below meth c s₁ B hml hv
  obtain ⟨rfl, hsz, hP, hK, hD0⟩ := hv
  have hx := B.exec
  have hb := B.bytes
  have hr := B.returns
  have hts := atoms_spec (ws := wsX11_trace) B.pre
  have hown : s.vm.findClass RX11 = some m.cls := findClass_of_methodNamed B.named
  have hlocks := B.notSynchronized
  subst hsz
  have hD : va_D (va_A [] s.heap.size) [] := dd_nil
  generalize hAe : va_A [] s.heap.size = A at hD ⊢
  have hA : ∀ q : Nat, s.heap.size ≤ q → A q := fun q h => by rw [← hAe]; exact Or.inr h
  have hS : va_S A s.heap s.heap [] := va_S.rf
  have hl := lv_entry ([.ref xo]) (n := 1) (Nat.le_of_ble_eq_true rfl)
  rw [lg_entry_eq]
  generalize (lg_sl ([.ref xo]) ++ List.replicate (1 - (lg_sl ([.ref xo])).length) Slot.unset).toArray = ls at hl ⊢
  have hl : lv_has ls 1 [(0, .ref xo)] := hl
  refine lv_aload_n hx hb dX11_trace_0 rfl (lv_at hl 0 rfl) ?_
  refine va_get (ci := 11) (v := .long 0) (C := RX11) (T := TX11) (N := 12) hx hb hts (fun _ h => List.mem_cons_of_mem _ (List.mem_append_right _ h)) hown hK.1 hP 0 rfl rfl 10 (by decide) (hts (.fieldLink RX11 87 "CutAtlas" "traced" "J") (by decide +kernel)) (fun _ h9 => h9) rfl dX11_trace_1 ?_
  exact W.lret (v := 0) hx hb hr (fun t ht hW => ⟨⟨0, (), rfl, rfl, trivial⟩, hS.F ht⟩) hS.2.2 dX11_trace_4

set_option maxHeartbeats 4000000 in
set_option maxRecDepth 100000 in
theorem c_X11_status (l : Launch) (D : va_G) (cy : Nat → ClassId) (sz : Nat) (xo : Nat) (xk : Nat) (xn : Nat) (xc : Nat) (xh : Nat) (xt : Nat) (xw : Nat) (xm : Nat) (xp : Nat) (n1 : Nat) (n2 : Nat) (n3 : Nat) (n4 : Nat) (n5 : Nat) : Met l yX11_status wsX11_status ({ frames := 0, cells := 0, slots := 0, locals := 0 }) (va_Pc [.ref xo] (fun U => U.heap.size = sz ∧ va_P D vwCl [(xo, .inr (11, [.ref xk, .ref xn, .ref xc, .ref xh, .ref xt, .ref xw, .ref xm, .ref xp, .int 0, .int 0, .long 0, .int 0])), (xn, .inr (3, [.int 0, .int 0, .ref n1, .ref n2, .ref n3, .ref n4, .ref n5]))] U.heap ∧ kk_ D cy U ∧ va_D (fun _ => True) [(xo, .inr (11, [.ref xk, .ref xn, .ref xc, .ref xh, .ref xt, .ref xw, .ref xm, .ref xp, .int 0, .int 0, .long 0, .int 0])), (xn, .inr (3, [.int 0, .int 0, .ref n1, .ref n2, .ref n3, .ref n4, .ref n5]))])) (va_Qi (fun (r : Int32) (_ : Unit) => r = 0) (fun (_ : Unit) (_ : State) => True) (va_A [] sz)) 0 0 (va_A [] sz) := by
  refine Met.ofW (cc := cX11_status) (maxL := 1) (ret := (some .int)) (by decide) rfl ?_
  intro p e s m args below meth c s₁ B hml hv
  obtain ⟨rfl, hsz, hP, hK, hD0⟩ := hv
  have hx := B.exec
  have hb := B.bytes
  have hr := B.returns
  have hts := atoms_spec (ws := wsX11_status) B.pre
  have hown : s.vm.findClass RX11 = some m.cls := findClass_of_methodNamed B.named
  have hlocks := B.notSynchronized
  subst hsz
  have hD : va_D (va_A [] s.heap.size) [] := dd_nil
  generalize hAe : va_A [] s.heap.size = A at hD ⊢
  have hA : ∀ q : Nat, s.heap.size ≤ q → A q := fun q h => by rw [← hAe]; exact Or.inr h
  have hS : va_S A s.heap s.heap [] := va_S.rf
  have hl := lv_entry ([.ref xo]) (n := 1) (Nat.le_of_ble_eq_true rfl)
  rw [lg_entry_eq]
  generalize (lg_sl ([.ref xo]) ++ List.replicate (1 - (lg_sl ([.ref xo])).length) Slot.unset).toArray = ls at hl ⊢
  have hl : lv_has ls 1 [(0, .ref xo)] := hl
  refine lv_aload_n hx hb dX11_status_0 rfl (lv_at hl 0 rfl) ?_
  refine va_get (ci := 11) (v := .int 0) (C := RX11) (T := TX11) (N := 12) hx hb hts (fun _ h => List.mem_cons_of_mem _ (List.mem_append_right _ h)) hown hK.1 hP 0 rfl rfl 11 (by decide) (hts (.fieldLink RX11 91 "CutAtlas" "finding" "I") (by decide +kernel)) (fun _ h9 => h9) rfl dX11_status_1 ?_
  exact W.iret (v := 0) hx hb hr (fun t ht hW => ⟨⟨0, (), rfl, rfl, trivial⟩, hS.F ht⟩) hS.2.2 dX11_status_4
