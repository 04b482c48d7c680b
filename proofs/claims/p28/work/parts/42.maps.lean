theorem num_eq {f : Nat → Int64} {i : Int32} {n : Int} {y : Int64} (e : y = f i.toNatClampNeg) (h : i.toInt = n) : y = f n.toNat := by
  rw [e, ← h]
  rfl

set_option maxHeartbeats 4000000 in
set_option maxRecDepth 100000 in
theorem c_X4_isThere (l : Launch) (D : va_G) (cy : Nat → ClassId) (sz : Nat) (mm : Nat) (ml : Nat) (mu : Nat) (mk : Int32) (mr : Int32) : Met l yX4_isThere wsX4_isThere ({ frames := 0, cells := 0, slots := 0, locals := 0 }) (va_Pc [.ref mm] (fun U => U.heap.size = sz ∧ va_P D vwCl [(mm, .inr (4, [.int mk, .int mr, .ref ml, .ref mu]))] U.heap ∧ kk_ D cy U ∧ va_D (fun _ => True) [(mm, .inr (4, [.int mk, .int mr, .ref ml, .ref mu]))])) (va_Qi (fun (r : Int32) (_ : Unit) => ((mr.toInt ≠ -9) ∧ r = 1) ∨ ((mr.toInt = -9) ∧ r = 0)) (fun (_ : Unit) (_ : State) => True) (va_A [] sz)) 0 0 (va_A [] sz) := by
  refine ofQ (cc := cX4_isThere) (maxL := 1) (ret := (some .boolean)) (by decide) rfl ?_
  intro p e s m args below meth c s₁ Q hQ B hml hv
  obtain ⟨rfl, hsz, hP, hK, hD0⟩ := hv
  have hx := B.exec
  have hb := B.bytes
  have hr := B.returns
  have hts := atoms_spec (ws := wsX4_isThere) B.pre
  have hown : s.vm.findClass RX4 = some m.cls := by have h_ := findClass_of_methodNamed B.named; exact h_
  have hlocks := B.notSynchronized
  subst hsz
  have hD : va_D (va_A [] s.heap.size) [] := dd_nil
  generalize hAe : va_A [] s.heap.size = A at hD hQ
  have hA : ∀ q : Nat, s.heap.size ≤ q → A q := fun q h => by rw [← hAe]; exact Or.inr h
  have hS : va_S A s.heap s.heap [] := va_S.rf
  have hl := lv_entry ([.ref mm]) (n := 1) (Nat.le_of_ble_eq_true rfl)
  rw [lg_entry_eq]
  generalize (lg_sl ([.ref mm]) ++ List.replicate (1 - (lg_sl ([.ref mm])).length) Slot.unset).toArray = ls at hl ⊢
  have hl : lv_has ls 1 [(0, .ref mm)] := hl
  have zm9 : ((-9) : Int32).toInt = -9 := by decide
  have z0 : (0 : Int32).toInt = 0 := by decide
  have z1 : (1 : Int32).toInt = 1 := by decide
  refine lv_aload_n hx hb dX4_isThere_0 rfl (lv_at hl 0 rfl) ?_
  refine va_get (ci := 4) (v := .int mr) (C := RX4) (T := TX4) (N := 4) hx hb hts (fun _ h => List.mem_cons_of_mem _ (List.mem_append_right _ h)) hown hK.1 hP 0 rfl rfl 1 (by decide) (hts (.fieldLink RX4 15 "CutAtlas$NumberMap" "rows" "I") (by decide +kernel)) (fun _ h9 => h9) rfl dX4_isThere_1 ?_
  refine lv_bipush (v := (-9)) hx hb dX4_isThere_4 (by decide) ?_
  refine lv_icmp_eq (tgt := 13) hx hb dX4_isThere_6 (by decide) (fun c_1 => ?_) (fun c_1 => ?_)
  · have t_1 : mr.toInt = ((-9) : Int32).toInt := congrArg Int32.toInt c_1
    refine lv_iconst (v := 0) hx hb dX4_isThere_13 (by decide) ?_
    rw [hQ]
    exact W.zret (ty := .boolean) (v := 0) hx hb hr (by decide) (fun t ht hW => ⟨⟨0, (), rfl, Or.inr (⟨by omega, rfl⟩), trivial⟩, hS.F ht⟩) hS.2.2 dX4_isThere_14
  · have t_1 : ¬ mr.toInt = ((-9) : Int32).toInt := fun h => c_1 (Int32.toInt_inj.mp h)
    refine lv_iconst (v := 1) hx hb dX4_isThere_9 (by decide) ?_
    refine lv_goto (tgt := 14) hx hb dX4_isThere_10 (by decide) ?_
    rw [hQ]
    exact W.zret (ty := .boolean) (v := 1) hx hb hr (by decide) (fun t ht hW => ⟨⟨1, (), rfl, Or.inl (⟨by omega, rfl⟩), trivial⟩, hS.F ht⟩) hS.2.2 dX4_isThere_14

set_option maxHeartbeats 4000000 in
set_option maxRecDepth 100000 in
theorem c_X4_hasRow (l : Launch) (D : va_G) (cy : Nat → ClassId) (sz : Nat) (mm : Nat) (ml : Nat) (mu : Nat) (mk : Int32) (mr : Int32) (a1 : Int32) : Met l yX4_hasRow wsX4_hasRow ({ frames := 0, cells := 0, slots := 0, locals := 0 }) (va_Pc [.ref mm, .int a1] (fun U => U.heap.size = sz ∧ va_P D vwCl [(mm, .inr (4, [.int mk, .int mr, .ref ml, .ref mu]))] U.heap ∧ kk_ D cy U ∧ va_D (fun _ => True) [(mm, .inr (4, [.int mk, .int mr, .ref ml, .ref mu]))])) (va_Qi (fun (r : Int32) (_ : Unit) => ((0 ≤ a1.toInt ∧ a1.toInt < mr.toInt) ∧ r = 1) ∨ ((¬ (0 ≤ a1.toInt ∧ a1.toInt < mr.toInt)) ∧ r = 0)) (fun (_ : Unit) (_ : State) => True) (va_A [] sz)) 0 0 (va_A [] sz) := by
  refine ofQ (cc := cX4_hasRow) (maxL := 2) (ret := (some .boolean)) (by decide) rfl ?_
  intro p e s m args below meth c s₁ Q hQ B hml hv
  obtain ⟨rfl, hsz, hP, hK, hD0⟩ := hv
  have hx := B.exec
  have hb := B.bytes
  have hr := B.returns
  have hts := atoms_spec (ws := wsX4_hasRow) B.pre
  have hown : s.vm.findClass RX4 = some m.cls := by have h_ := findClass_of_methodNamed B.named; exact h_
  have hlocks := B.notSynchronized
  subst hsz
  have hD : va_D (va_A [] s.heap.size) [] := dd_nil
  generalize hAe : va_A [] s.heap.size = A at hD hQ
  have hA : ∀ q : Nat, s.heap.size ≤ q → A q := fun q h => by rw [← hAe]; exact Or.inr h
  have hS : va_S A s.heap s.heap [] := va_S.rf
  have hl := lv_entry ([.ref mm, .int a1]) (n := 2) (Nat.le_of_ble_eq_true rfl)
  rw [lg_entry_eq]
  generalize (lg_sl ([.ref mm, .int a1]) ++ List.replicate (2 - (lg_sl ([.ref mm, .int a1])).length) Slot.unset).toArray = ls at hl ⊢
  have hl : lv_has ls 2 [(0, .ref mm), (1, .int a1)] := hl
  have z0 : (0 : Int32).toInt = 0 := by decide
  have z1 : (1 : Int32).toInt = 1 := by decide
  refine lv_iload_n hx hb dX4_hasRow_0 rfl (lv_at hl 1 rfl) ?_
  refine lv_if_lt (tgt := 16) hx hb dX4_hasRow_1 (by decide) (fun c_1 => ?_) (fun c_1 => ?_)
  · have t_1 : a1.toInt < (0 : Int32).toInt := Int32.lt_iff_toInt_lt.mp c_1
    refine lv_iconst (v := 0) hx hb dX4_hasRow_16 (by decide) ?_
    rw [hQ]
    exact W.zret (ty := .boolean) (v := 0) hx hb hr (by decide) (fun t ht hW => ⟨⟨0, (), rfl, Or.inr (⟨by omega, rfl⟩), trivial⟩, hS.F ht⟩) hS.2.2 dX4_hasRow_17
  · have t_1 : ¬ a1.toInt < (0 : Int32).toInt := fun h => c_1 (Int32.lt_iff_toInt_lt.mpr h)
    refine lv_iload_n hx hb dX4_hasRow_4 rfl (lv_at hl 1 rfl) ?_
    refine lv_aload_n hx hb dX4_hasRow_5 rfl (lv_at hl 0 rfl) ?_
    refine va_get (ci := 4) (v := .int mr) (C := RX4) (T := TX4) (N := 4) hx hb hts (fun _ h => List.mem_cons_of_mem _ (List.mem_append_right _ h)) hown hK.1 hP 0 rfl rfl 1 (by decide) (hts (.fieldLink RX4 15 "CutAtlas$NumberMap" "rows" "I") (by decide +kernel)) (fun _ h9 => h9) rfl dX4_hasRow_6 ?_
    refine lv_icmp_ge (tgt := 16) hx hb dX4_hasRow_9 (by decide) (fun c_2 => ?_) (fun c_2 => ?_)
    · have t_2 : mr.toInt ≤ a1.toInt := Int32.le_iff_toInt_le.mp c_2
      refine lv_iconst (v := 0) hx hb dX4_hasRow_16 (by decide) ?_
      rw [hQ]
      exact W.zret (ty := .boolean) (v := 0) hx hb hr (by decide) (fun t ht hW => ⟨⟨0, (), rfl, Or.inr (⟨by omega, rfl⟩), trivial⟩, hS.F ht⟩) hS.2.2 dX4_hasRow_17
    · have t_2 : ¬ mr.toInt ≤ a1.toInt := fun h => c_2 (Int32.le_iff_toInt_le.mpr h)
      refine lv_iconst (v := 1) hx hb dX4_hasRow_12 (by decide) ?_
      refine lv_goto (tgt := 17) hx hb dX4_hasRow_13 (by decide) ?_
      rw [hQ]
      exact W.zret (ty := .boolean) (v := 1) hx hb hr (by decide) (fun t ht hW => ⟨⟨1, (), rfl, Or.inl (⟨by omega, rfl⟩), trivial⟩, hS.F ht⟩) hS.2.2 dX4_hasRow_17

set_option maxHeartbeats 4000000 in
set_option maxRecDepth 100000 in
theorem c_X4_number (l : Launch) (D : va_G) (cy : Nat → ClassId) (sz : Nat) (mm : Nat) (ml : Nat) (mu : Nat) (mk : Int32) (mr : Int32) (fn : Nat → Int64) (a1 : Int32) (a2 : Int32) (q1 : 0 ≤ a1.toInt ∧ a1.toInt ≤ 5) (q2 : 0 ≤ a2.toInt ∧ a2.toInt ≤ 4) : Met l yX4_number wsX4_number ({ frames := 0, cells := 0, slots := 0, locals := 0 }) (va_Pc [.ref mm, .int a1, .int a2] (fun U => U.heap.size = sz ∧ va_P D vwCl [(mm, .inr (4, [.int mk, .int mr, .ref ml, .ref mu])), (mu, .inl (cy 1, 30, .inr (.inl fn)))] U.heap ∧ kk_ D cy U ∧ va_D (fun _ => True) [(mm, .inr (4, [.int mk, .int mr, .ref ml, .ref mu])), (mu, .inl (cy 1, 30, .inr (.inl fn)))])) (va_Ql (fun (r : Int64) (_ : Unit) => (r = fn (5 * a1.toInt + a2.toInt).toNat)) (fun (_ : Unit) (_ : State) => True) (va_A [] sz)) 0 0 (va_A [] sz) := by
  refine ofQ (cc := cX4_number) (maxL := 3) (ret := (some .long)) (by decide) rfl ?_
  intro p e s m args below meth c s₁ Q hQ B hml hv
  obtain ⟨rfl, hsz, hP, hK, hD0⟩ := hv
  have hx := B.exec
  have hb := B.bytes
  have hr := B.returns
  have hts := atoms_spec (ws := wsX4_number) B.pre
  have hown : s.vm.findClass RX4 = some m.cls := by have h_ := findClass_of_methodNamed B.named; exact h_
  have hlocks := B.notSynchronized
  subst hsz
  have hD : va_D (va_A [] s.heap.size) [] := dd_nil
  generalize hAe : va_A [] s.heap.size = A at hD hQ
  have hA : ∀ q : Nat, s.heap.size ≤ q → A q := fun q h => by rw [← hAe]; exact Or.inr h
  have hS : va_S A s.heap s.heap [] := va_S.rf
  have hl := lv_entry ([.ref mm, .int a1, .int a2]) (n := 3) (Nat.le_of_ble_eq_true rfl)
  rw [lg_entry_eq]
  generalize (lg_sl ([.ref mm, .int a1, .int a2]) ++ List.replicate (3 - (lg_sl ([.ref mm, .int a1, .int a2])).length) Slot.unset).toArray = ls at hl ⊢
  have hl : lv_has ls 3 [(0, .ref mm), (1, .int a1), (2, .int a2)] := hl
  have z5 : (5 : Int32).toInt = 5 := by decide
  refine lv_aload_n hx hb dX4_number_0 rfl (lv_at hl 0 rfl) ?_
  refine va_get (ci := 4) (v := .ref mu) (C := RX4) (T := TX4) (N := 4) hx hb hts (fun _ h => List.mem_cons_of_mem _ (List.mem_append_right _ h)) hown hK.1 hP 0 rfl rfl 3 (by decide) (hts (.fieldLink RX4 22 "CutAtlas$NumberMap" "numbers" "[J") (by decide +kernel)) (fun _ h9 => h9) rfl dX4_number_1 ?_
  refine lv_iload_n hx hb dX4_number_4 rfl (lv_at hl 1 rfl) ?_
  refine lv_iconst (v := 5) hx hb dX4_number_5 (by decide) ?_
  refine lv_imul hx hb dX4_number_6 ?_
  refine lv_topi (fun y_1 ey_1 => ?_)
  have ty_1 : y_1.toInt = 5 * a1.toInt := by rw [ey_1]; exact mulD (by decide) (by omega) (by omega)
  refine lv_iload_n hx hb dX4_number_7 rfl (lv_at hl 2 rfl) ?_
  refine lv_iadd hx hb dX4_number_8 ?_
  refine lv_topi (fun y_2 ey_2 => ?_)
  have ty_2 : y_2.toInt = y_1.toInt + a2.toInt := by rw [ey_2]; exact addI (by omega) (by omega)
  have h_3 : vp_in y_2 30 := in_I (by omega) (by omega)
  refine va_lald hx hb hK.1 hP 1 1 rfl rfl (i := y_2) h_3 dX4_number_9 ?_
  refine lv_topl (fun y_4 ey_4 => ?_)
  rw [hQ]
  exact W.lret (v := y_4) hx hb hr (fun t ht hW => ⟨⟨y_4, (), rfl, (num_eq (by assumption) (by omega)), trivial⟩, hS.F ht⟩) hS.2.2 dX4_number_10
