theorem num_eq {f : Nat → Int64} {i : Int32} {n : Int} {y : Int64} (e : y = f i.toNatClampNeg) (h : i.toInt = n) : y = f n.toNat := by
  rw [e, ← h]
  rfl

set_option maxHeartbeats 4000000 in
set_option maxRecDepth 100000 in
theorem c_X4_isThere (l : Launch) (D : va_G) (cy : Nat → ClassId) (sz : Nat) (mm : Nat) (ml : Nat) (mu : Nat) (mk : Int32) (mr : Int32) : Met l yX4_isThere wsX4_isThere ({ frames := 0, cells := 0, slots := 0, locals := 0 }) (va_Pc [.ref mm] (fun U => U.heap.size = sz ∧ va_P D vwCl [(mm, .inr (4, [.int mk, .int mr, .ref ml, .ref mu]))] U.heap ∧ kk_ D cy U ∧ va_D (fun _ => True) [(mm, .inr (4, [.int mk, .int mr, .ref ml, .ref mu]))])) (va_Qi (fun (r : Int32) (_ : Unit) => ((mr.toInt ≠ -9) ∧ r = 1) ∨ ((mr.toInt = -9) ∧ r = 0)) (fun (_ : Unit) (_ : State) => True) (va_A [] sz)) 0 0 (va_A [] sz) := by
  refine ofQ (cc := cX4_isThere) (maxL := 1) (ret := (some .boolean)) (by decide) rfl ?_
  intro p e s m args below meth c s₁ Q hQ B hml hv
  obtain ⟨rfl, hsz, hP, hK, hD0⟩ := hv
  have hx := B.exec
  have hb := B.bytes
  have hr := B.returns
  have hts := atoms_spec (ws := wsX4_isThere) B.pre
  have hown : s.vm.findClass RX4 = some m.cls := findClass_of_methodNamed B.named
  have hlocks := B.notSynchronized
  subst hsz
  have hD : va_D (va_A [] s.heap.size) [] := dd_nil
  generalize hAe : va_A [] s.heap.size = A at hD hQ
  have hA : ∀ q : Nat, s.heap.size ≤ q → A q := fun q h => by rw [← hAe]; exact Or.inr h
  have hS : va_S A s.heap s.heap [] := va_S.rf
  have hl := lv_entry ([.ref mm]) (n := 1) (Nat.le_of_ble_eq_true rfl)
  rw [lg_entry_eq]
  generalize (lg_sl ([.ref mm]) ++ List.replicate (1 - (lg_sl ([.ref mm])).length) Slot.unset).toArray = ls at hl ⊢
  have hl : lv_has ls 1 [(0, .ref mm)] := hl
  have zm9 : ((-9) : Int32).toInt = -9 := by decide
  have z0 : (0 : Int32).toInt = 0 := by decide
  have z1 : (1 : Int32).toInt = 1 := by decide
  refine lv_aload_n hx hb dX4_isThere_0 rfl (lv_at hl 0 rfl) ?_
  refine va_get (ci := 4) (v := .int mr) (C := RX4) (T := TX4) (N := 4) hx hb hts (fun _ h => List.mem_cons_of_mem _ (List.mem_append_right _ h)) hown hK.1 hP 0 rfl rfl 1 (by decide) (hts (.fieldLink RX4 15 "CutAtlas$NumberMap" "rows" "I") (by decide +kernel)) (fun _ h9 => h9) rfl dX4_isThere_1 ?_
  refine lv_bipush (v := (-9)) hx hb dX4_isThere_4 (by decide) ?_
  refine lv_icmp_eq (tgt := 13) hx hb dX4_isThere_6 (by decide) (fun c_1 => ?_) (fun c_1 => ?_)
  · have t_1 : mr.toInt = ((-9) : Int32).toInt := congrArg Int32.toInt c_1
    refine lv_iconst (v := 0) hx hb dX4_isThere_13 (by decide) ?_
    subst hQ
    exact W.zret (ty := .boolean) (v := 0) hx hb hr (by decide) (fun t ht hW => ⟨⟨0, (), rfl, Or.inr (⟨by omega, rfl⟩), trivial⟩, hS.F ht⟩) hS.2.2 dX4_isThere_14
  · have t_1 : ¬ mr.toInt = ((-9) : Int32).toInt := fun h => c_1 (Int32.toInt_inj.mp h)
    refine lv_iconst (v := 1) hx hb dX4_isThere_9 (by decide) ?_
    refine lv_goto (tgt := 14) hx hb dX4_isThere_10 (by decide) ?_
    subst hQ
    exact W.zret (ty := .boolean) (v := 1) hx hb hr (by decide) (fun t ht hW => ⟨⟨1, (), rfl, Or.inl (⟨by omega, rfl⟩), trivial⟩, hS.F ht⟩) hS.2.2 dX4_isThere_14

set_option maxHeartbeats 4000000 in
set_option maxRecDepth 100000 in
theorem c_X4_hasRow (l : Launch) (D : va_G) (cy : Nat → ClassId) (sz : Nat) (mm : Nat) (ml : Nat) (mu : Nat) (mk : Int32) (mr : Int32) (a1 : Int32) : Met l yX4_hasRow wsX4_hasRow ({ frames := 0, cells := 0, slots := 0, locals := 0 }) (va_Pc [.ref mm, .int a1] (fun U => U.heap.size = sz ∧ va_P D vwCl [(mm, .inr (4, [.int mk, .int mr, .ref ml, .ref mu]))] U.heap ∧ kk_ D cy U ∧ va_D (fun _ => True) [(mm, .inr (4, [.int mk, .int mr, .ref ml, .ref mu]))])) (va_Qi (fun (r : Int32) (_ : Unit) => ((0 ≤ a1.toInt ∧ a1.toInt < mr.toInt) ∧ r = 1) ∨ ((¬ (0 ≤ a1.toInt ∧ a1.toInt < mr.toInt)) ∧ r = 0)) (fun (_ : Unit) (_ : State) => True) (va_A [] sz)) 0 0 (va_A [] sz) := by
  refine ofQ (cc := cX4_hasRow) (maxL := 2) (ret := (some .boolean)) (by decide) rfl ?_
  intro p e s m args below meth c s₁ Q hQ B hml hv
  obtain ⟨rfl, hsz, hP, hK, hD0⟩ := hv
  have hx := B.exec
  have hb := B.bytes
  have hr := B.returns
  have hts := atoms_spec (ws := wsX4_hasRow) B.pre
  have hown : s.vm.findClass RX4 = some m.cls := findClass_of_methodNamed B.named
  have hlocks := B.notSynchronized
  subst hsz
  have hD : va_D (va_A [] s.heap.size) [] := dd_nil
  generalize hAe : va_A [] s.heap.size = A at hD hQ
  have hA : ∀ q : Nat, s.heap.size ≤ q → A q := fun q h => by rw [← hAe]; exact Or.inr h
  have hS : va_S A s.heap s.heap [] := va_S.rf
  have hl := lv_entry ([.ref mm, .int a1]) (n := 2) (Nat.le_of_ble_eq_true rfl)
  rw [lg_entry_eq]
  generalize (lg_sl ([.ref mm, .int a1]) ++ List.replicate (2 - (lg_sl ([.ref mm, .int a1])).length) Slot.unset).toArray = ls at hl ⊢
  have hl : lv_has ls 2 [(0, .ref mm), (1, .int a1)] := hl
  have z0 : (0 : Int32).toInt = 0 := by decide
  have z1 : (1 : Int32).toInt = 1 := by decide
  refine lv_iload_n hx hb dX4_hasRow_0 rfl (lv_at hl 1 rfl) ?_
  refine lv_if_lt (tgt := 16) hx hb dX4_hasRow_1 (by decide) (fun c_1 => ?_) (fun c_1 => ?_)
  · have t_1 : a1.toInt < (0 : Int32).toInt := Int32.lt_iff_toInt_lt.mp c_1
    refine lv_iconst (v := 0) hx hb dX4_hasRow_16 (by decide) ?_
    subst hQ
    exact W.zret (ty := .boolean) (v := 0) hx hb hr (by decide) (fun t ht hW => ⟨⟨0, (), rfl, Or.inr (⟨by omega, rfl⟩), trivial⟩, hS.F ht⟩) hS.2.2 dX4_hasRow_17
  · have t_1 : ¬ a1.toInt < (0 : Int32).toInt := fun h => c_1 (Int32.lt_iff_toInt_lt.mpr h)
    refine lv_iload_n hx hb dX4_hasRow_4 rfl (lv_at hl 1 rfl) ?_
    refine lv_aload_n hx hb dX4_hasRow_5 rfl (lv_at hl 0 rfl) ?_
    refine va_get (ci := 4) (v := .int mr) (C := RX4) (T := TX4) (N := 4) hx hb hts (fun _ h => List.mem_cons_of_mem _ (List.mem_append_right _ h)) hown hK.1 hP 0 rfl rfl 1 (by decide) (hts (.fieldLink RX4 15 "CutAtlas$NumberMap" "rows" "I") (by decide +kernel)) (fun _ h9 => h9) rfl dX4_hasRow_6 ?_
    refine lv_icmp_ge (tgt := 16) hx hb dX4_hasRow_9 (by decide) (fun c_2 => ?_) (fun c_2 => ?_)
    · have t_2 : mr.toInt ≤ a1.toInt := Int32.le_iff_toInt_le.mp c_2
      refine lv_iconst (v := 0) hx hb dX4_hasRow_16 (by decide) ?_
      subst hQ
      exact W.zret (ty := .boolean) (v := 0) hx hb hr (by decide) (fun t ht hW => ⟨⟨0, (), rfl, Or.inr (⟨by omega, rfl⟩), trivial⟩, hS.F ht⟩) hS.2.2 dX4_hasRow_17
    · have t_2 : ¬ mr.toInt ≤ a1.toInt := fun h => c_2 (Int32.le_iff_toInt_le.mpr h)
      refine lv_iconst (v := 1) hx hb dX4_hasRow_12 (by decide) ?_
      refine lv_goto (tgt := 17) hx hb dX4_hasRow_13 (by decide) ?_
      subst hQ
      exact W.zret (ty := .boolean) (v := 1) hx hb hr (by decide) (fun t ht hW => ⟨⟨1, (), rfl, Or.inl (⟨by omega, rfl⟩), trivial⟩, hS.F ht⟩) hS.2.2 dX4_hasRow_17

set_option maxHeartbeats 4000000 in
set_option maxRecDepth 100000 in
theorem c_X4_beginRow (l : Launch) (D : va_G) (cy : Nat → ClassId) (sz : Nat) (mm : Nat) (ml : Nat) (mu : Nat) (mk : Int32) (mr : Int32) (fl : Nat → Int32) (fn : Nat → Int64) (a1 : Int32) (a2 : Int32) (q1 : 0 ≤ a1.toInt ∧ a1.toInt ≤ 5) (q2 : 0 ≤ a2.toInt ∧ a2.toInt ≤ 5) (r_fl : rng fl 6 (-9) (5)) : Met l yX4_beginRow wsX4_beginRow ({ frames := 0, cells := 0, slots := 0, locals := 0 }) (va_Pc [.ref mm, .int a1, .int a2] (fun U => U.heap.size = sz ∧ va_P D vwCl [(mm, .inr (4, [.int mk, .int mr, .ref ml, .ref mu])), (ml, .inl (cy 0, 6, .inl fl)), (mu, .inl (cy 1, 30, .inr (.inl fn)))] U.heap ∧ kk_ D cy U ∧ va_D (fun _ => True) [(mm, .inr (4, [.int mk, .int mr, .ref ml, .ref mu])), (ml, .inl (cy 0, 6, .inl fl)), (mu, .inl (cy 1, 30, .inr (.inl fn)))])) (va_Qv (fun (_ : Unit) => True) (fun (_ : Unit) (t : State) => ∃ (efl : Nat → Int32), ∃ (efn : Nat → Int64), (rng efl 6 (-9) (5)) ∧ va_P D vwCl [(mm, .inr (4, [.int mk, .int mr, .ref ml, .ref mu])), (ml, .inl (cy 0, 6, .inl efl)), (mu, .inl (cy 1, 30, .inr (.inl efn)))] t.heap ∧ va_D (va_A [(mm, .inr (4, [.int mk, .int mr, .ref ml, .ref mu])), (ml, .inl (cy 0, 6, .inl fl)), (mu, .inl (cy 1, 30, .inr (.inl fn)))] sz) [(mm, .inr (4, [.int mk, .int mr, .ref ml, .ref mu])), (ml, .inl (cy 0, 6, .inl efl)), (mu, .inl (cy 1, 30, .inr (.inl efn)))]) (va_A [(mm, .inr (4, [.int mk, .int mr, .ref ml, .ref mu])), (ml, .inl (cy 0, 6, .inl fl)), (mu, .inl (cy 1, 30, .inr (.inl fn)))] sz)) 0 0 (va_A [(mm, .inr (4, [.int mk, .int mr, .ref ml, .ref mu])), (ml, .inl (cy 0, 6, .inl fl)), (mu, .inl (cy 1, 30, .inr (.inl fn)))] sz) := by
  refine ofQ (cc := cX4_beginRow) (maxL := 4) (ret := none) (by decide) rfl ?_
  intro p e s m args below meth c s₁ Q hQ B hml hv
  obtain ⟨rfl, hsz, hP, hK, hD0⟩ := hv
  have hx := B.exec
  have hb := B.bytes
  have hr := B.returns
  have hts := atoms_spec (ws := wsX4_beginRow) B.pre
  have hown : s.vm.findClass RX4 = some m.cls := findClass_of_methodNamed B.named
  have hlocks := B.notSynchronized
  subst hsz
  have hD := hD0.self (sz := s.heap.size)
  generalize hAe : va_A [(mm, .inr (4, [.int mk, .int mr, .ref ml, .ref mu])), (ml, .inl (cy 0, 6, .inl fl)), (mu, .inl (cy 1, 30, .inr (.inl fn)))] s.heap.size = A at hD hQ
  have hA : ∀ q : Nat, s.heap.size ≤ q → A q := fun q h => by rw [← hAe]; exact Or.inr h
  have hS : va_S A s.heap s.heap [] := va_S.rf
  have hl := lv_entry ([.ref mm, .int a1, .int a2]) (n := 4) (Nat.le_of_ble_eq_true rfl)
  rw [lg_entry_eq]
  generalize (lg_sl ([.ref mm, .int a1, .int a2]) ++ List.replicate (4 - (lg_sl ([.ref mm, .int a1, .int a2])).length) Slot.unset).toArray = ls at hl ⊢
  have hl : lv_has ls 4 [(0, .ref mm), (1, .int a1), (2, .int a2)] := hl
  have z0 : (0 : Int32).toInt = 0 := by decide
  have zl0 : (0 : Int64).toInt = 0 := by decide
  have z1 : (1 : Int32).toInt = 1 := by decide
  have z5 : (5 : Int32).toInt = 5 := by decide
  refine lv_aload_n hx hb dX4_beginRow_0 rfl (lv_at hl 0 rfl) ?_
  refine va_get (ci := 4) (v := .ref ml) (C := RX4) (T := TX4) (N := 4) hx hb hts (fun _ h => List.mem_cons_of_mem _ (List.mem_append_right _ h)) hown hK.1 hP 0 rfl rfl 2 (by decide) (hts (.fieldLink RX4 18 "CutAtlas$NumberMap" "lengths" "[I") (by decide +kernel)) (fun _ h9 => h9) rfl dX4_beginRow_1 ?_
  refine lv_iload_n hx hb dX4_beginRow_4 rfl (lv_at hl 1 rfl) ?_
  refine lv_iload_n hx hb dX4_beginRow_5 rfl (lv_at hl 2 rfl) ?_
  have h_1 : vp_in a1 6 := in_I (by omega) (by omega)
  refine va_iast hx hb hK.1 hP hD hS 1 0 rfl rfl (i := a1) h_1 dX4_beginRow_6 (fun H locs hP hD hS => ?_)
  obtain ⟨f_2, ef_2⟩ : ∃ g : Nat → Int32, g = upd fl a1.toNatClampNeg a2 := ⟨_, rfl⟩
  have hP : va_P D vwCl [(mm, .inr (4, [.int mk, .int mr, .ref ml, .ref mu])), (ml, .inl (cy 0, 6, .inl f_2)), (mu, .inl (cy 1, 30, .inr (.inl fn)))] H := by rw [ef_2]; exact hP
  have hD : va_D A [(mm, .inr (4, [.int mk, .int mr, .ref ml, .ref mu])), (ml, .inl (cy 0, 6, .inl f_2)), (mu, .inl (cy 1, 30, .inr (.inl fn)))] := by rw [ef_2]; exact hD
  have rf_2 : rng f_2 6 (-9) (5) := by rw [ef_2]; exact rng_upd r_fl (by omega) (by omega)
  refine lv_iconst (v := 0) hx hb dX4_beginRow_7 (by decide) ?_
  refine lv_istore_n (lv' := [(3, .int 0), (0, .ref mm), (1, .int a1), (2, .int a2)]) hx hb dX4_beginRow_8 rfl hl (by decide) rfl (fun ls hl => ?_)
  suffices LOOP_3 : ∀ (n_3 : Nat) (x3_3 : Int32) (c_mu_3 : Nat → Int64) (H : Heap) (locs : List Loc) (ls : Array Slot), 5 - x3_3.toInt < (n_3 : Int) → (0 ≤ x3_3.toInt) → (x3_3.toInt ≤ 5) → va_P D vwCl [(mm, .inr (4, [.int mk, .int mr, .ref ml, .ref mu])), (ml, .inl (cy 0, 6, .inl f_2)), (mu, .inl (cy 1, 30, .inr (.inl c_mu_3)))] H → va_D A [(mm, .inr (4, [.int mk, .int mr, .ref ml, .ref mu])), (ml, .inl (cy 0, 6, .inl f_2)), (mu, .inl (cy 1, 30, .inr (.inl c_mu_3)))] → va_S A s.heap H locs → lv_has ls 4 [(3, .int x3_3), (0, .ref mm), (1, .int a1), (2, .int a2)] → W p l e ({ frames := 0, cells := 0, slots := 0, locals := 0 } : Room) s m (([.ref mm, .int a1, .int a2] : List Value).toArray) below meth c H locs 0 0 Q (F0 m 9 ls []) from LOOP_3 ((5 - (0 : Int32).toInt).toNat + 1) (0 : Int32) fn _ _ _ (by omega) (by first | assumption | omega) (by first | assumption | omega) hP hD hS (lv_sub hl [0, 1, 2, 3] rfl)
  intro n_3
  induction n_3 with
  | zero =>
    intro x3_3 c_mu_3 H locs ls hm v0_3 v1_3 hP hD hS hl
    exact absurd hm (by omega)
  | succ n_3 ih_3 =>
    intro x3_3 c_mu_3 H locs ls hm v0_3 v1_3 hP hD hS hl
    refine lv_iload_n hx hb dX4_beginRow_9 rfl (lv_at hl 0 rfl) ?_
    refine lv_iconst (v := 5) hx hb dX4_beginRow_10 (by decide) ?_
    refine lv_icmp_ge (tgt := 31) hx hb dX4_beginRow_11 (by decide) (fun c_4 => ?_) (fun c_4 => ?_)
    · have t_4 : (5 : Int32).toInt ≤ x3_3.toInt := Int32.le_iff_toInt_le.mp c_4
      have hP9 := hP.sub (ws' := [(mm, .inr (4, [.int mk, .int mr, .ref ml, .ref mu])), (ml, .inl (cy 0, 6, .inl f_2)), (mu, .inl (cy 1, 30, .inr (.inl c_mu_3)))]) [0, 1, 2] rfl
      have hD9 := hD.sub (ws' := [(mm, .inr (4, [.int mk, .int mr, .ref ml, .ref mu])), (ml, .inl (cy 0, 6, .inl f_2)), (mu, .inl (cy 1, 30, .inr (.inl c_mu_3)))]) [0, 1, 2] (by decide) rfl
      subst hQ
      exact W.vret hx hb hr (fun t ht hW => ⟨⟨(), rfl, trivial, f_2, c_mu_3, (by first | assumption | exact rng_zero (by omega) (by omega) | omega), by rw [ht]; exact hP9, hD9⟩, hS.F ht⟩) hS.2.2 dX4_beginRow_31
    · have t_4 : ¬ (5 : Int32).toInt ≤ x3_3.toInt := fun h => c_4 (Int32.le_iff_toInt_le.mpr h)
      refine lv_aload_n hx hb dX4_beginRow_14 rfl (lv_at hl 1 rfl) ?_
      refine va_get (ci := 4) (v := .ref mu) (C := RX4) (T := TX4) (N := 4) hx hb hts (fun _ h => List.mem_cons_of_mem _ (List.mem_append_right _ h)) hown hK.1 hP 0 rfl rfl 3 (by decide) (hts (.fieldLink RX4 22 "CutAtlas$NumberMap" "numbers" "[J") (by decide +kernel)) (fun _ h9 => h9) rfl dX4_beginRow_15 ?_
      refine lv_iload_n hx hb dX4_beginRow_18 rfl (lv_at hl 2 rfl) ?_
      refine lv_iconst (v := 5) hx hb dX4_beginRow_19 (by decide) ?_
      refine lv_imul hx hb dX4_beginRow_20 ?_
      refine lv_topi (fun y_5 ey_5 => ?_)
      have ty_5 : y_5.toInt = 5 * a1.toInt := by rw [ey_5]; exact mulD (by decide) (by omega) (by omega)
      refine lv_iload_n hx hb dX4_beginRow_21 rfl (lv_at hl 0 rfl) ?_
      refine lv_iadd hx hb dX4_beginRow_22 ?_
      refine lv_topi (fun y_6 ey_6 => ?_)
      have ty_6 : y_6.toInt = y_5.toInt + x3_3.toInt := by rw [ey_6]; exact addI (by omega) (by omega)
      refine lv_lconst (v := 0) hx hb dX4_beginRow_23 (by decide) ?_
      have h_7 : vp_in y_6 30 := in_I (by omega) (by omega)
      refine va_last hx hb hK.1 hP hD hS 2 1 rfl rfl (i := y_6) h_7 dX4_beginRow_24 (fun H locs hP hD hS => ?_)
      obtain ⟨f_8, ef_8⟩ : ∃ g : Nat → Int64, g = vp_updL c_mu_3 y_6.toNatClampNeg (0 : Int64) := ⟨_, rfl⟩
      have hP : va_P D vwCl [(mm, .inr (4, [.int mk, .int mr, .ref ml, .ref mu])), (ml, .inl (cy 0, 6, .inl f_2)), (mu, .inl (cy 1, 30, .inr (.inl f_8)))] H := by rw [ef_8]; exact hP
      have hD : va_D A [(mm, .inr (4, [.int mk, .int mr, .ref ml, .ref mu])), (ml, .inl (cy 0, 6, .inl f_2)), (mu, .inl (cy 1, 30, .inr (.inl f_8)))] := by rw [ef_8]; exact hD
      obtain ⟨y_9, ey_9⟩ : ∃ y : Int32, y = x3_3 + 1 := ⟨_, rfl⟩
      have ty_9 : y_9.toInt = x3_3.toInt + (1 : Int32).toInt := by rw [ey_9]; exact addI (by omega) (by omega)
      refine lv_iinc (v := y_9) (lv' := [(3, .int y_9), (0, .ref mm), (1, .int a1), (2, .int a2)]) hx hb dX4_beginRow_25 hl (k := 0) rfl (by rw [ey_9]; rfl) (by decide) rfl (fun ls hl => ?_)
      refine lv_goto (tgt := 9) hx hb dX4_beginRow_28 (by decide) ?_
      exact ih_3 y_9 f_8 _ _ _ (by omega) (by first | assumption | omega) (by first | assumption | omega) hP hD hS (lv_sub hl [0, 1, 2, 3] rfl)

set_option maxHeartbeats 4000000 in
set_option maxRecDepth 100000 in
theorem c_X4_store (l : Launch) (D : va_G) (cy : Nat → ClassId) (sz : Nat) (mm : Nat) (ml : Nat) (mu : Nat) (mk : Int32) (mr : Int32) (fn : Nat → Int64) (a1 : Int32) (a2 : Int32) (a3 : Int64) (q1 : 0 ≤ a1.toInt ∧ a1.toInt ≤ 5) (q2 : 0 ≤ a2.toInt ∧ a2.toInt ≤ 4) : Met l yX4_store wsX4_store ({ frames := 0, cells := 0, slots := 0, locals := 0 }) (va_Pc [.ref mm, .int a1, .int a2, .long a3] (fun U => U.heap.size = sz ∧ va_P D vwCl [(mm, .inr (4, [.int mk, .int mr, .ref ml, .ref mu])), (mu, .inl (cy 1, 30, .inr (.inl fn)))] U.heap ∧ kk_ D cy U ∧ va_D (fun _ => True) [(mm, .inr (4, [.int mk, .int mr, .ref ml, .ref mu])), (mu, .inl (cy 1, 30, .inr (.inl fn)))])) (va_Qv (fun (_ : Unit) => True) (fun (_ : Unit) (t : State) => ∃ (efn : Nat → Int64), va_P D vwCl [(mm, .inr (4, [.int mk, .int mr, .ref ml, .ref mu])), (mu, .inl (cy 1, 30, .inr (.inl efn)))] t.heap ∧ va_D (va_A [(mm, .inr (4, [.int mk, .int mr, .ref ml, .ref mu])), (mu, .inl (cy 1, 30, .inr (.inl fn)))] sz) [(mm, .inr (4, [.int mk, .int mr, .ref ml, .ref mu])), (mu, .inl (cy 1, 30, .inr (.inl efn)))]) (va_A [(mm, .inr (4, [.int mk, .int mr, .ref ml, .ref mu])), (mu, .inl (cy 1, 30, .inr (.inl fn)))] sz)) 0 0 (va_A [(mm, .inr (4, [.int mk, .int mr, .ref ml, .ref mu])), (mu, .inl (cy 1, 30, .inr (.inl fn)))] sz) := by
  refine ofQ (cc := cX4_store) (maxL := 7) (ret := none) (by decide) rfl ?_
  intro p e s m args below meth c s₁ Q hQ B hml hv
  obtain ⟨rfl, hsz, hP, hK, hD0⟩ := hv
  have hx := B.exec
  have hb := B.bytes
  have hr := B.returns
  have hts := atoms_spec (ws := wsX4_store) B.pre
  have hown : s.vm.findClass RX4 = some m.cls := findClass_of_methodNamed B.named
  have hlocks := B.notSynchronized
  subst hsz
  have hD := hD0.self (sz := s.heap.size)
  generalize hAe : va_A [(mm, .inr (4, [.int mk, .int mr, .ref ml, .ref mu])), (mu, .inl (cy 1, 30, .inr (.inl fn)))] s.heap.size = A at hD hQ
  have hA : ∀ q : Nat, s.heap.size ≤ q → A q := fun q h => by rw [← hAe]; exact Or.inr h
  have hS : va_S A s.heap s.heap [] := va_S.rf
  have hl := lv_entry ([.ref mm, .int a1, .int a2, .long a3]) (n := 7) (Nat.le_of_ble_eq_true rfl)
  rw [lg_entry_eq]
  generalize (lg_sl ([.ref mm, .int a1, .int a2, .long a3]) ++ List.replicate (7 - (lg_sl ([.ref mm, .int a1, .int a2, .long a3])).length) Slot.unset).toArray = ls at hl ⊢
  have hl : lv_has ls 7 [(0, .ref mm), (1, .int a1), (2, .int a2), (3, .long a3)] := hl
  have z0 : (0 : Int32).toInt = 0 := by decide
  have z1 : (1 : Int32).toInt = 1 := by decide
  have z5 : (5 : Int32).toInt = 5 := by decide
  refine lv_lload_n hx hb dX4_store_0 rfl (lv_at hl 3 rfl) ?_
  refine lv_lstore (lv' := [(5, .long a3), (0, .ref mm), (1, .int a1), (2, .int a2), (3, .long a3)]) hx hb dX4_store_1 hl (by decide) rfl (fun ls hl => ?_)
  refine lv_aload_n hx hb dX4_store_3 rfl (lv_at hl 1 rfl) ?_
  refine va_get (ci := 4) (v := .int mk) (C := RX4) (T := TX4) (N := 4) hx hb hts (fun _ h => List.mem_cons_of_mem _ (List.mem_append_right _ h)) hown hK.1 hP 0 rfl rfl 0 (by decide) (hts (.fieldLink RX4 9 "CutAtlas$NumberMap" "kind" "I") (by decide +kernel)) (fun _ h9 => h9) rfl dX4_store_4 ?_
  refine lv_if_ne (tgt := 19) hx hb dX4_store_7 (by decide) (fun c_1 => ?_) (fun c_1 => ?_)
  · have t_1 : ¬ mk.toInt = (0 : Int32).toInt := fun h => c_1 (Int32.toInt_inj.mp h)
    refine lv_aload_n hx hb dX4_store_19 rfl (lv_at hl 1 rfl) ?_
    refine va_get (ci := 4) (v := .int mk) (C := RX4) (T := TX4) (N := 4) hx hb hts (fun _ h => List.mem_cons_of_mem _ (List.mem_append_right _ h)) hown hK.1 hP 0 rfl rfl 0 (by decide) (hts (.fieldLink RX4 9 "CutAtlas$NumberMap" "kind" "I") (by decide +kernel)) (fun _ h9 => h9) rfl dX4_store_20 ?_
    refine lv_iconst (v := 1) hx hb dX4_store_23 (by decide) ?_
    refine lv_icmp_ne (tgt := 32) hx hb dX4_store_24 (by decide) (fun c_2 => ?_) (fun c_2 => ?_)
    · have t_2 : ¬ mk.toInt = (1 : Int32).toInt := fun h => c_2 (Int32.toInt_inj.mp h)
      refine lv_aload_n hx hb dX4_store_32 rfl (lv_at hl 1 rfl) ?_
      refine va_get (ci := 4) (v := .ref mu) (C := RX4) (T := TX4) (N := 4) hx hb hts (fun _ h => List.mem_cons_of_mem _ (List.mem_append_right _ h)) hown hK.1 hP 0 rfl rfl 3 (by decide) (hts (.fieldLink RX4 22 "CutAtlas$NumberMap" "numbers" "[J") (by decide +kernel)) (fun _ h9 => h9) rfl dX4_store_33 ?_
      refine lv_iload_n hx hb dX4_store_36 rfl (lv_at hl 2 rfl) ?_
      refine lv_iconst (v := 5) hx hb dX4_store_37 (by decide) ?_
      refine lv_imul hx hb dX4_store_38 ?_
      refine lv_topi (fun y_3 ey_3 => ?_)
      have ty_3 : y_3.toInt = 5 * a1.toInt := by rw [ey_3]; exact mulD (by decide) (by omega) (by omega)
      refine lv_iload_n hx hb dX4_store_39 rfl (lv_at hl 3 rfl) ?_
      refine lv_iadd hx hb dX4_store_40 ?_
      refine lv_topi (fun y_4 ey_4 => ?_)
      have ty_4 : y_4.toInt = y_3.toInt + a2.toInt := by rw [ey_4]; exact addI (by omega) (by omega)
      refine lv_lload hx hb dX4_store_41 (lv_at hl 0 rfl) ?_
      have h_5 : vp_in y_4 30 := in_I (by omega) (by omega)
      refine va_last hx hb hK.1 hP hD hS 1 1 rfl rfl (i := y_4) h_5 dX4_store_43 (fun H locs hP hD hS => ?_)
      obtain ⟨f_6, ef_6⟩ : ∃ g : Nat → Int64, g = vp_updL fn y_4.toNatClampNeg a3 := ⟨_, rfl⟩
      have hP : va_P D vwCl [(mm, .inr (4, [.int mk, .int mr, .ref ml, .ref mu])), (mu, .inl (cy 1, 30, .inr (.inl f_6)))] H := by rw [ef_6]; exact hP
      have hD : va_D A [(mm, .inr (4, [.int mk, .int mr, .ref ml, .ref mu])), (mu, .inl (cy 1, 30, .inr (.inl f_6)))] := by rw [ef_6]; exact hD
      have hP9 := hP.sub (ws' := [(mm, .inr (4, [.int mk, .int mr, .ref ml, .ref mu])), (mu, .inl (cy 1, 30, .inr (.inl f_6)))]) [0, 1] rfl
      have hD9 := hD.sub (ws' := [(mm, .inr (4, [.int mk, .int mr, .ref ml, .ref mu])), (mu, .inl (cy 1, 30, .inr (.inl f_6)))]) [0, 1] (by decide) rfl
      subst hQ
      exact W.vret hx hb hr (fun t ht hW => ⟨⟨(), rfl, trivial, f_6, by rw [ht]; exact hP9, hD9⟩, hS.F ht⟩) hS.2.2 dX4_store_44
    · have t_2 : mk.toInt = (1 : Int32).toInt := congrArg Int32.toInt c_2
      refine lv_lload_n hx hb dX4_store_27 rfl (lv_at hl 4 rfl) ?_
      refine lv_l2i (v := a3.toInt32) hx hb dX4_store_28 rfl ?_
      refine lv_i2l (v := (a3.toInt32).toInt64) hx hb dX4_store_29 rfl ?_
      have q_29 : ((a3.toInt32).toInt64).toInt = (a3.toInt32).toInt := Int32.toInt_toInt64 (a3.toInt32)
      refine lv_lstore (lv' := [(5, .long (a3.toInt32).toInt64), (0, .ref mm), (1, .int a1), (2, .int a2), (3, .long a3)]) hx hb dX4_store_30 hl (by decide) rfl (fun ls hl => ?_)
      refine lv_aload_n hx hb dX4_store_32 rfl (lv_at hl 1 rfl) ?_
      refine va_get (ci := 4) (v := .ref mu) (C := RX4) (T := TX4) (N := 4) hx hb hts (fun _ h => List.mem_cons_of_mem _ (List.mem_append_right _ h)) hown hK.1 hP 0 rfl rfl 3 (by decide) (hts (.fieldLink RX4 22 "CutAtlas$NumberMap" "numbers" "[J") (by decide +kernel)) (fun _ h9 => h9) rfl dX4_store_33 ?_
      refine lv_iload_n hx hb dX4_store_36 rfl (lv_at hl 2 rfl) ?_
      refine lv_iconst (v := 5) hx hb dX4_store_37 (by decide) ?_
      refine lv_imul hx hb dX4_store_38 ?_
      refine lv_topi (fun y_8 ey_8 => ?_)
      have ty_8 : y_8.toInt = 5 * a1.toInt := by rw [ey_8]; exact mulD (by decide) (by omega) (by omega)
      refine lv_iload_n hx hb dX4_store_39 rfl (lv_at hl 3 rfl) ?_
      refine lv_iadd hx hb dX4_store_40 ?_
      refine lv_topi (fun y_9 ey_9 => ?_)
      have ty_9 : y_9.toInt = y_8.toInt + a2.toInt := by rw [ey_9]; exact addI (by omega) (by omega)
      refine lv_lload hx hb dX4_store_41 (lv_at hl 0 rfl) ?_
      have h_10 : vp_in y_9 30 := in_I (by omega) (by omega)
      refine va_last hx hb hK.1 hP hD hS 1 1 rfl rfl (i := y_9) h_10 dX4_store_43 (fun H locs hP hD hS => ?_)
      obtain ⟨f_11, ef_11⟩ : ∃ g : Nat → Int64, g = vp_updL fn y_9.toNatClampNeg ((a3.toInt32).toInt64) := ⟨_, rfl⟩
      have hP : va_P D vwCl [(mm, .inr (4, [.int mk, .int mr, .ref ml, .ref mu])), (mu, .inl (cy 1, 30, .inr (.inl f_11)))] H := by rw [ef_11]; exact hP
      have hD : va_D A [(mm, .inr (4, [.int mk, .int mr, .ref ml, .ref mu])), (mu, .inl (cy 1, 30, .inr (.inl f_11)))] := by rw [ef_11]; exact hD
      have hP9 := hP.sub (ws' := [(mm, .inr (4, [.int mk, .int mr, .ref ml, .ref mu])), (mu, .inl (cy 1, 30, .inr (.inl f_11)))]) [0, 1] rfl
      have hD9 := hD.sub (ws' := [(mm, .inr (4, [.int mk, .int mr, .ref ml, .ref mu])), (mu, .inl (cy 1, 30, .inr (.inl f_11)))]) [0, 1] (by decide) rfl
      subst hQ
      exact W.vret hx hb hr (fun t ht hW => ⟨⟨(), rfl, trivial, f_11, by rw [ht]; exact hP9, hD9⟩, hS.F ht⟩) hS.2.2 dX4_store_44
  · have t_1 : mk.toInt = (0 : Int32).toInt := congrArg Int32.toInt c_1
    refine lv_lload_n hx hb dX4_store_10 rfl (lv_at hl 4 rfl) ?_
    refine lv_l2i (v := a3.toInt32) hx hb dX4_store_11 rfl ?_
    refine lv_i2s (v := (a3.toInt32).toInt16.toInt32) hx hb dX4_store_12 rfl ?_
    refine lv_topi (fun y_13 ey_13 => ?_)
    refine lv_i2l (v := y_13.toInt64) hx hb dX4_store_13 rfl ?_
    have q_13 : (y_13.toInt64).toInt = y_13.toInt := Int32.toInt_toInt64 y_13
    refine lv_lstore (lv' := [(5, .long y_13.toInt64), (0, .ref mm), (1, .int a1), (2, .int a2), (3, .long a3)]) hx hb dX4_store_14 hl (by decide) rfl (fun ls hl => ?_)
    refine lv_goto (tgt := 32) hx hb dX4_store_16 (by decide) ?_
    refine lv_aload_n hx hb dX4_store_32 rfl (lv_at hl 1 rfl) ?_
    refine va_get (ci := 4) (v := .ref mu) (C := RX4) (T := TX4) (N := 4) hx hb hts (fun _ h => List.mem_cons_of_mem _ (List.mem_append_right _ h)) hown hK.1 hP 0 rfl rfl 3 (by decide) (hts (.fieldLink RX4 22 "CutAtlas$NumberMap" "numbers" "[J") (by decide +kernel)) (fun _ h9 => h9) rfl dX4_store_33 ?_
    refine lv_iload_n hx hb dX4_store_36 rfl (lv_at hl 2 rfl) ?_
    refine lv_iconst (v := 5) hx hb dX4_store_37 (by decide) ?_
    refine lv_imul hx hb dX4_store_38 ?_
    refine lv_topi (fun y_14 ey_14 => ?_)
    have ty_14 : y_14.toInt = 5 * a1.toInt := by rw [ey_14]; exact mulD (by decide) (by omega) (by omega)
    refine lv_iload_n hx hb dX4_store_39 rfl (lv_at hl 3 rfl) ?_
    refine lv_iadd hx hb dX4_store_40 ?_
    refine lv_topi (fun y_15 ey_15 => ?_)
    have ty_15 : y_15.toInt = y_14.toInt + a2.toInt := by rw [ey_15]; exact addI (by omega) (by omega)
    refine lv_lload hx hb dX4_store_41 (lv_at hl 0 rfl) ?_
    have h_16 : vp_in y_15 30 := in_I (by omega) (by omega)
    refine va_last hx hb hK.1 hP hD hS 1 1 rfl rfl (i := y_15) h_16 dX4_store_43 (fun H locs hP hD hS => ?_)
    obtain ⟨f_17, ef_17⟩ : ∃ g : Nat → Int64, g = vp_updL fn y_15.toNatClampNeg y_13.toInt64 := ⟨_, rfl⟩
    have hP : va_P D vwCl [(mm, .inr (4, [.int mk, .int mr, .ref ml, .ref mu])), (mu, .inl (cy 1, 30, .inr (.inl f_17)))] H := by rw [ef_17]; exact hP
    have hD : va_D A [(mm, .inr (4, [.int mk, .int mr, .ref ml, .ref mu])), (mu, .inl (cy 1, 30, .inr (.inl f_17)))] := by rw [ef_17]; exact hD
    have hP9 := hP.sub (ws' := [(mm, .inr (4, [.int mk, .int mr, .ref ml, .ref mu])), (mu, .inl (cy 1, 30, .inr (.inl f_17)))]) [0, 1] rfl
    have hD9 := hD.sub (ws' := [(mm, .inr (4, [.int mk, .int mr, .ref ml, .ref mu])), (mu, .inl (cy 1, 30, .inr (.inl f_17)))]) [0, 1] (by decide) rfl
    subst hQ
    exact W.vret hx hb hr (fun t ht hW => ⟨⟨(), rfl, trivial, f_17, by rw [ht]; exact hP9, hD9⟩, hS.F ht⟩) hS.2.2 dX4_store_44

set_option maxHeartbeats 4000000 in
set_option maxRecDepth 100000 in
theorem c_X4_number (l : Launch) (D : va_G) (cy : Nat → ClassId) (sz : Nat) (mm : Nat) (ml : Nat) (mu : Nat) (mk : Int32) (mr : Int32) (fn : Nat → Int64) (a1 : Int32) (a2 : Int32) (q1 : 0 ≤ a1.toInt ∧ a1.toInt ≤ 5) (q2 : 0 ≤ a2.toInt ∧ a2.toInt ≤ 4) : Met l yX4_number wsX4_number ({ frames := 0, cells := 0, slots := 0, locals := 0 }) (va_Pc [.ref mm, .int a1, .int a2] (fun U => U.heap.size = sz ∧ va_P D vwCl [(mm, .inr (4, [.int mk, .int mr, .ref ml, .ref mu])), (mu, .inl (cy 1, 30, .inr (.inl fn)))] U.heap ∧ kk_ D cy U ∧ va_D (fun _ => True) [(mm, .inr (4, [.int mk, .int mr, .ref ml, .ref mu])), (mu, .inl (cy 1, 30, .inr (.inl fn)))])) (va_Ql (fun (r : Int64) (_ : Unit) => (r = fn (5 * a1.toInt + a2.toInt).toNat)) (fun (_ : Unit) (_ : State) => True) (va_A [] sz)) 0 0 (va_A [] sz) := by
  refine ofQ (cc := cX4_number) (maxL := 3) (ret := (some .long)) (by decide) rfl ?_
  intro p e s m args below meth c s₁ Q hQ B hml hv
  obtain ⟨rfl, hsz, hP, hK, hD0⟩ := hv
  have hx := B.exec
  have hb := B.bytes
  have hr := B.returns
  have hts := atoms_spec (ws := wsX4_number) B.pre
  have hown : s.vm.findClass RX4 = some m.cls := findClass_of_methodNamed B.named
  have hlocks := B.notSynchronized
  subst hsz
  have hD : va_D (va_A [] s.heap.size) [] := dd_nil
  generalize hAe : va_A [] s.heap.size = A at hD hQ
  have hA : ∀ q : Nat, s.heap.size ≤ q → A q := fun q h => by rw [← hAe]; exact Or.inr h
  have hS : va_S A s.heap s.heap [] := va_S.rf
  have hl := lv_entry ([.ref mm, .int a1, .int a2]) (n := 3) (Nat.le_of_ble_eq_true rfl)
  rw [lg_entry_eq]
  generalize (lg_sl ([.ref mm, .int a1, .int a2]) ++ List.replicate (3 - (lg_sl ([.ref mm, .int a1, .int a2])).length) Slot.unset).toArray = ls at hl ⊢
  have hl : lv_has ls 3 [(0, .ref mm), (1, .int a1), (2, .int a2)] := hl
  have z5 : (5 : Int32).toInt = 5 := by decide
  refine lv_aload_n hx hb dX4_number_0 rfl (lv_at hl 0 rfl) ?_
  refine va_get (ci := 4) (v := .ref mu) (C := RX4) (T := TX4) (N := 4) hx hb hts (fun _ h => List.mem_cons_of_mem _ (List.mem_append_right _ h)) hown hK.1 hP 0 rfl rfl 3 (by decide) (hts (.fieldLink RX4 22 "CutAtlas$NumberMap" "numbers" "[J") (by decide +kernel)) (fun _ h9 => h9) rfl dX4_number_1 ?_
  refine lv_iload_n hx hb dX4_number_4 rfl (lv_at hl 1 rfl) ?_
  refine lv_iconst (v := 5) hx hb dX4_number_5 (by decide) ?_
  refine lv_imul hx hb dX4_number_6 ?_
  refine lv_topi (fun y_1 ey_1 => ?_)
  have ty_1 : y_1.toInt = 5 * a1.toInt := by rw [ey_1]; exact mulD (by decide) (by omega) (by omega)
  refine lv_iload_n hx hb dX4_number_7 rfl (lv_at hl 2 rfl) ?_
  refine lv_iadd hx hb dX4_number_8 ?_
  refine lv_topi (fun y_2 ey_2 => ?_)
  have ty_2 : y_2.toInt = y_1.toInt + a2.toInt := by rw [ey_2]; exact addI (by omega) (by omega)
  have h_3 : vp_in y_2 30 := in_I (by omega) (by omega)
  refine va_lald hx hb hK.1 hP 1 1 rfl rfl (i := y_2) h_3 dX4_number_9 ?_
  refine lv_topl (fun y_4 ey_4 => ?_)
  subst hQ
  exact W.lret (v := y_4) hx hb hr (fun t ht hW => ⟨⟨y_4, (), rfl, (num_eq (by assumption) (by omega)), trivial⟩, hS.F ht⟩) hS.2.2 dX4_number_10
