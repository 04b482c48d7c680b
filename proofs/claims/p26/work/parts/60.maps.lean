theorem nneg {x : Int32} (h : 0 ≤ x.toInt) : ¬ x < 0 := fun q => by
  have a := Int32.lt_iff_toInt_lt.mp q
  have z : (0 : Int32).toInt = 0 := by decide
  omega
theorem rng_cpy {f g : Nat → Int32} {n sp dp k : Nat} {lo hi : Int} (hf : rng f n lo hi) (hg : rng g n lo hi) (h : sp + k ≤ n) : rng (va_cpy f g sp dp k) n lo hi := fun j hj => by
  by_cases e : dp ≤ j ∧ j < dp + k
  · rw [pk_cpy_in e.1 e.2]
    exact hf _ (by omega)
  · rw [pk_cpy_out (by omega)]
    exact hg j hj
theorem prng_cpy {f1 f2 g1 g2 a b : Nat → Int32} {n k : Nat} (ea : a = va_cpy f1 f2 (0 : Int32).toNatClampNeg (0 : Int32).toNatClampNeg k) (eb : b = va_cpy g1 g2 (0 : Int32).toNatClampNeg (0 : Int32).toNatClampNeg k) (h1 : prng f1 g1 n) (h2 : prng f2 g2 n) (hk : k ≤ n) : prng a b n := fun j hj => by
  rw [ea, eb]
  have z : (0 : Int32).toNatClampNeg = 0 := by decide
  rw [z]
  by_cases e : j < k
  · rw [pk_cpy_in (Nat.zero_le _) (by omega), pk_cpy_in (Nat.zero_le _) (by omega)]
    exact h1 _ (by omega)
  · rw [pk_cpy_out (by omega), pk_cpy_out (by omega)]
    exact h2 j hj

set_option maxHeartbeats 4000000 in
set_option maxRecDepth 100000 in
theorem c_X4_whole (l : Launch) (D : va_G) (cy : Nat → ClassId) (sz : Nat) (mm : Nat) (ml : Nat) (mu : Nat) (mk : Int32) (mr : Int32) (fn : Nat → Int64) (a1 : Int32) (a2 : Int32) (q1 : 0 ≤ a1.toInt ∧ a1.toInt ≤ 5) (q2 : 0 ≤ a2.toInt ∧ a2.toInt ≤ 4) : Met l yX4_whole wsX4_whole ({ frames := 1, cells := 0, slots := 0, locals := 22 }) (va_Pc [.ref mm, .int a1, .int a2] (fun U => U.heap.size = sz ∧ va_P D vwCl [(mm, .inr (4, [.int mk, .int mr, .ref ml, .ref mu])), (mu, .inl (cy 1, 30, .inr (.inl fn)))] U.heap ∧ kk_ D cy U ∧ va_D (fun _ => True) [(mm, .inr (4, [.int mk, .int mr, .ref ml, .ref mu])), (mu, .inl (cy 1, 30, .inr (.inl fn)))])) (va_Qi (fun (r : Int32) (_ : Unit) => (r = (fn (5 * a1.toInt + a2.toInt).toNat).toInt32)) (fun (_ : Unit) (_ : State) => True) (va_A [] sz)) 0 0 (va_A [] sz) := by
  refine ofQ (cc := cX4_whole) (maxL := 3) (ret := (some .int)) (by decide) rfl ?_
  intro p e s m args below meth c s₁ Q hQ B hml hv
  obtain ⟨rfl, hsz, hP, hK, hD0⟩ := hv
  have hx := B.exec
  have hb := B.bytes
  have hr := B.returns
  have hts := atoms_spec (ws := wsX4_whole) B.pre
  have hown : s.vm.findClass RX4 = some m.cls := findClass_of_methodNamed B.named
  have hlocks := B.notSynchronized
  subst hsz
  have hD : va_D (va_A [] s.heap.size) [] := dd_nil
  generalize hAe : va_A [] s.heap.size = A at hD hQ
  have hA : ∀ q : Nat, s.heap.size ≤ q → A q := fun q h => by rw [← hAe]; exact Or.inr h
  have hS : va_S A s.heap s.heap [] := va_S.rf
  have hl := lv_entry ([.ref mm, .int a1, .int a2]) (n := 3) (Nat.le_of_ble_eq_true rfl)
  rw [lg_entry_eq]
  generalize (lg_sl ([.ref mm, .int a1, .int a2]) ++ List.replicate (3 - (lg_sl ([.ref mm, .int a1, .int a2])).length) Slot.unset).toArray = ls at hl ⊢
  have hl : lv_has ls 3 [(0, .ref mm), (1, .int a1), (2, .int a2)] := hl
  refine lv_aload_n hx hb dX4_whole_0 rfl (lv_at hl 0 rfl) ?_
  refine lv_iload_n hx hb dX4_whole_1 rfl (lv_at hl 1 rfl) ?_
  refine lv_iload_n hx hb dX4_whole_2 rfl (lv_at hl 2 rfl) ?_
  have hPc := hP.sub (ws' := [(mm, .inr (4, [.int mk, .int mr, .ref ml, .ref mu])), (mu, .inl (cy 1, 30, .inr (.inl fn)))]) [0, 1] rfl
  have hDw : va_D (fun _ => True) [(mm, .inr (4, [.int mk, .int mr, .ref ml, .ref mu])), (mu, .inl (cy 1, 30, .inr (.inl fn)))] := hD0.sub [0, 1] (by decide) rfl
  have hFc := va_free (wc := []) hD hS hA [] rfl
  refine va_calll (va_runV (As := [.int a1, .int a2]) (rest := []) ⟨hx, hb, hml, hown, hts⟩ (c_X4_number l D cy s.heap.size mm ml mu mk mr fn a1 a2 (by first | assumption | omega) (by first | assumption | omega)) (cwV 2 hts gX4_whole_X4_number rfl rfl rfl (by decide +kernel) ⟨Nat.le_of_ble_eq_true rfl, Nat.le_of_ble_eq_true rfl⟩) ⟨bl_, va_recv hK.1 hP (ci := 4) (q0 := 0) rfl rfl, fun U hU hW => ⟨rfl, by rw [hU], by rw [hU]; exact hPc, kk_mv hW hK, hDw⟩⟩ rfl rfl hl.1 rfl (lv_room (Nat.le_of_ble_eq_true rfl)) dX4_whole_3 ⟨Nat.le_of_ble_eq_true rfl, Nat.le_of_ble_eq_true rfl⟩) hS (fun q _ h => hFc q h) hFc (fun r_1 u t H locs ht hvm hw hB hz1 hk1 hS => ?_)
  have hP := ro_keep hP hk1
  have hP : va_P D vwCl [(mm, .inr (4, [.int mk, .int mr, .ref ml, .ref mu])), (mu, .inl (cy 1, 30, .inr (.inl fn)))] H := hP
  have f0_r_1 := hw
  refine lv_l2i (v := r_1.toInt32) hx hb dX4_whole_6 rfl ?_
  subst hQ
  exact W.iret (v := (r_1.toInt32)) hx hb hr (fun t ht hW => ⟨⟨(r_1.toInt32), (), rfl, (congrArg Int64.toInt32 (by assumption)), trivial⟩, hS.F ht⟩) hS.2.2 dX4_whole_7

set_option maxHeartbeats 4000000 in
set_option maxRecDepth 100000 in
theorem c_X4_hasNumbers (l : Launch) (D : va_G) (cy : Nat → ClassId) (sz : Nat) (mm : Nat) (ml : Nat) (mu : Nat) (mk : Int32) (mr : Int32) (fl : Nat → Int32) (a1 : Int32) (a2 : Int32) (a3 : Int32) (q1 : 0 ≤ a1.toInt ∧ a1.toInt ≤ 5) (r_fl : rng fl 6 (-9) (5)) : Met l yX4_hasNumbers wsX4_hasNumbers ({ frames := 0, cells := 0, slots := 0, locals := 0 }) (va_Pc [.ref mm, .int a1, .int a2, .int a3] (fun U => U.heap.size = sz ∧ va_P D vwCl [(mm, .inr (4, [.int mk, .int mr, .ref ml, .ref mu])), (ml, .inl (cy 0, 6, .inl fl))] U.heap ∧ kk_ D cy U ∧ va_D (fun _ => True) [(mm, .inr (4, [.int mk, .int mr, .ref ml, .ref mu])), (ml, .inl (cy 0, 6, .inl fl))])) (va_Qi (fun (r : Int32) (_ : Unit) => ((0 ≤ a2.toInt ∧ 0 ≤ a3.toInt ∧ a2.toInt + a3.toInt ≤ (fl a1.toNatClampNeg).toInt) ∧ r = 1) ∨ ((¬ (0 ≤ a2.toInt ∧ 0 ≤ a3.toInt ∧ a2.toInt + a3.toInt ≤ (fl a1.toNatClampNeg).toInt)) ∧ r = 0)) (fun (_ : Unit) (_ : State) => True) (va_A [] sz)) 0 0 (va_A [] sz) := by
  refine ofQ (cc := cX4_hasNumbers) (maxL := 4) (ret := (some .boolean)) (by decide) rfl ?_
  intro p e s m args below meth c s₁ Q hQ B hml hv
  obtain ⟨rfl, hsz, hP, hK, hD0⟩ := hv
  have hx := B.exec
  have hb := B.bytes
  have hr := B.returns
  have hts := atoms_spec (ws := wsX4_hasNumbers) B.pre
  have hown : s.vm.findClass RX4 = some m.cls := findClass_of_methodNamed B.named
  have hlocks := B.notSynchronized
  subst hsz
  have hD : va_D (va_A [] s.heap.size) [] := dd_nil
  generalize hAe : va_A [] s.heap.size = A at hD hQ
  have hA : ∀ q : Nat, s.heap.size ≤ q → A q := fun q h => by rw [← hAe]; exact Or.inr h
  have hS : va_S A s.heap s.heap [] := va_S.rf
  have hl := lv_entry ([.ref mm, .int a1, .int a2, .int a3]) (n := 4) (Nat.le_of_ble_eq_true rfl)
  rw [lg_entry_eq]
  generalize (lg_sl ([.ref mm, .int a1, .int a2, .int a3]) ++ List.replicate (4 - (lg_sl ([.ref mm, .int a1, .int a2, .int a3])).length) Slot.unset).toArray = ls at hl ⊢
  have hl : lv_has ls 4 [(0, .ref mm), (1, .int a1), (2, .int a2), (3, .int a3)] := hl
  have z0 : (0 : Int32).toInt = 0 := by decide
  have z1 : (1 : Int32).toInt = 1 := by decide
  refine lv_iload_n hx hb dX4_hasNumbers_0 rfl (lv_at hl 2 rfl) ?_
  refine lv_if_lt (tgt := 34) hx hb dX4_hasNumbers_1 (by decide) (fun c_1 => ?_) (fun c_1 => ?_)
  · have t_1 : a2.toInt < (0 : Int32).toInt := Int32.lt_iff_toInt_lt.mp c_1
    refine lv_iconst (v := 0) hx hb dX4_hasNumbers_34 (by decide) ?_
    subst hQ
    exact W.zret (ty := .boolean) (v := 0) hx hb hr (by decide) (fun t ht hW => ⟨⟨0, (), rfl, Or.inr (⟨by omega, rfl⟩), trivial⟩, hS.F ht⟩) hS.2.2 dX4_hasNumbers_35
  · have t_1 : ¬ a2.toInt < (0 : Int32).toInt := fun h => c_1 (Int32.lt_iff_toInt_lt.mpr h)
    refine lv_iload_n hx hb dX4_hasNumbers_4 rfl (lv_at hl 3 rfl) ?_
    refine lv_if_lt (tgt := 34) hx hb dX4_hasNumbers_5 (by decide) (fun c_2 => ?_) (fun c_2 => ?_)
    · have t_2 : a3.toInt < (0 : Int32).toInt := Int32.lt_iff_toInt_lt.mp c_2
      refine lv_iconst (v := 0) hx hb dX4_hasNumbers_34 (by decide) ?_
      subst hQ
      exact W.zret (ty := .boolean) (v := 0) hx hb hr (by decide) (fun t ht hW => ⟨⟨0, (), rfl, Or.inr (⟨by omega, rfl⟩), trivial⟩, hS.F ht⟩) hS.2.2 dX4_hasNumbers_35
    · have t_2 : ¬ a3.toInt < (0 : Int32).toInt := fun h => c_2 (Int32.lt_iff_toInt_lt.mpr h)
      refine lv_iload_n hx hb dX4_hasNumbers_8 rfl (lv_at hl 3 rfl) ?_
      refine lv_aload_n hx hb dX4_hasNumbers_9 rfl (lv_at hl 0 rfl) ?_
      refine va_get (ci := 4) (v := .ref ml) (C := RX4) (T := TX4) (N := 4) hx hb hts (fun _ h => List.mem_cons_of_mem _ (List.mem_append_right _ h)) hown hK.1 hP 0 rfl rfl 2 (by decide) (hts (.fieldLink RX4 18 "CutAtlas$NumberMap" "lengths" "[I") (by decide +kernel)) (fun _ h9 => h9) rfl dX4_hasNumbers_10 ?_
      refine lv_iload_n hx hb dX4_hasNumbers_13 rfl (lv_at hl 1 rfl) ?_
      have h_3 : vp_in a1 6 := in_I (by omega) (by omega)
      refine va_iald hx hb hK.1 hP 1 0 rfl rfl (i := a1) h_3 dX4_hasNumbers_14 ?_
      refine lv_topi (fun y_4 ey_4 => ?_)
      have ky_4 : y_4.toInt = (fl a1.toNatClampNeg).toInt := by rw [ey_4]
      have ry_4 : -9 ≤ y_4.toInt ∧ y_4.toInt ≤ 5 := by rw [ey_4]; exact r_fl _ (in_lt h_3)
      refine lv_icmp_gt (tgt := 34) hx hb dX4_hasNumbers_15 (by decide) (fun c_5 => ?_) (fun c_5 => ?_)
      · have t_5 : y_4.toInt < a3.toInt := Int32.lt_iff_toInt_lt.mp c_5
        refine lv_iconst (v := 0) hx hb dX4_hasNumbers_34 (by decide) ?_
        subst hQ
        exact W.zret (ty := .boolean) (v := 0) hx hb hr (by decide) (fun t ht hW => ⟨⟨0, (), rfl, Or.inr (⟨by omega, rfl⟩), trivial⟩, hS.F ht⟩) hS.2.2 dX4_hasNumbers_35
      · have t_5 : ¬ y_4.toInt < a3.toInt := fun h => c_5 (Int32.lt_iff_toInt_lt.mpr h)
        refine lv_iload_n hx hb dX4_hasNumbers_18 rfl (lv_at hl 2 rfl) ?_
        refine lv_aload_n hx hb dX4_hasNumbers_19 rfl (lv_at hl 0 rfl) ?_
        refine va_get (ci := 4) (v := .ref ml) (C := RX4) (T := TX4) (N := 4) hx hb hts (fun _ h => List.mem_cons_of_mem _ (List.mem_append_right _ h)) hown hK.1 hP 0 rfl rfl 2 (by decide) (hts (.fieldLink RX4 18 "CutAtlas$NumberMap" "lengths" "[I") (by decide +kernel)) (fun _ h9 => h9) rfl dX4_hasNumbers_20 ?_
        refine lv_iload_n hx hb dX4_hasNumbers_23 rfl (lv_at hl 1 rfl) ?_
        have h_6 : vp_in a1 6 := in_I (by omega) (by omega)
        refine va_iald hx hb hK.1 hP 1 0 rfl rfl (i := a1) h_6 dX4_hasNumbers_24 ?_
        refine lv_topi (fun y_7 ey_7 => ?_)
        have e_ := (ey_7.trans ey_4.symm).symm
        subst e_
        skip
        refine lv_iload_n hx hb dX4_hasNumbers_25 rfl (lv_at hl 3 rfl) ?_
        refine lv_isub hx hb dX4_hasNumbers_26 ?_
        refine lv_topi (fun y_8 ey_8 => ?_)
        have ty_8 : y_8.toInt = y_4.toInt - a3.toInt := by rw [ey_8]; exact subI (by omega) (by omega)
        refine lv_icmp_gt (tgt := 34) hx hb dX4_hasNumbers_27 (by decide) (fun c_9 => ?_) (fun c_9 => ?_)
        · have t_9 : y_8.toInt < a2.toInt := Int32.lt_iff_toInt_lt.mp c_9
          refine lv_iconst (v := 0) hx hb dX4_hasNumbers_34 (by decide) ?_
          subst hQ
          exact W.zret (ty := .boolean) (v := 0) hx hb hr (by decide) (fun t ht hW => ⟨⟨0, (), rfl, Or.inr (⟨by omega, rfl⟩), trivial⟩, hS.F ht⟩) hS.2.2 dX4_hasNumbers_35
        · have t_9 : ¬ y_8.toInt < a2.toInt := fun h => c_9 (Int32.lt_iff_toInt_lt.mpr h)
          refine lv_iconst (v := 1) hx hb dX4_hasNumbers_30 (by decide) ?_
          refine lv_goto (tgt := 35) hx hb dX4_hasNumbers_31 (by decide) ?_
          subst hQ
          exact W.zret (ty := .boolean) (v := 1) hx hb hr (by decide) (fun t ht hW => ⟨⟨1, (), rfl, Or.inl (⟨by omega, rfl⟩), trivial⟩, hS.F ht⟩) hS.2.2 dX4_hasNumbers_35

set_option maxHeartbeats 4000000 in
set_option maxRecDepth 100000 in
theorem c_X4_moveRefusal (l : Launch) (D : va_G) (cy : Nat → ClassId) (sz : Nat) (mm : Nat) (ml : Nat) (mu : Nat) (mk : Int32) (mr : Int32) (fl : Nat → Int32) (a1 : Int32) (a2 : Int32) (a3 : Int32) (a4 : Int32) (a5 : Int32) (hmr : mr.toInt = -9 ∨ (0 ≤ mr.toInt ∧ mr.toInt ≤ 6)) (r_fl : rng fl 6 (-9) (5)) : Met l yX4_moveRefusal wsX4_moveRefusal ({ frames := 1, cells := 0, slots := 0, locals := 23 }) (va_Pc [.ref mm, .int a1, .int a2, .int a3, .int a4, .int a5] (fun U => U.heap.size = sz ∧ va_P D vwCl [(mm, .inr (4, [.int mk, .int mr, .ref ml, .ref mu])), (ml, .inl (cy 0, 6, .inl fl))] U.heap ∧ kk_ D cy U ∧ va_D (fun _ => True) [(mm, .inr (4, [.int mk, .int mr, .ref ml, .ref mu])), (ml, .inl (cy 0, 6, .inl fl))])) (va_Qi (fun (r : Int32) (_ : Unit) => (r.toInt < 0 ∨ (r.toInt = 0 ∧ (0 ≤ a1.toInt ∧ a1.toInt ≤ 5) ∧ (0 ≤ a3.toInt ∧ a3.toInt ≤ 5) ∧ 0 ≤ a2.toInt ∧ 0 ≤ a4.toInt ∧ 0 ≤ a5.toInt ∧ a2.toInt + a5.toInt ≤ 5 ∧ a4.toInt + a5.toInt ≤ 5))) (fun (_ : Unit) (_ : State) => True) (va_A [] sz)) 0 0 (va_A [] sz) := by
  refine ofQ (cc := cX4_moveRefusal) (maxL := 6) (ret := (some .int)) (by decide) rfl ?_
  intro p e s m args below meth c s₁ Q hQ B hml hv
  obtain ⟨rfl, hsz, hP, hK, hD0⟩ := hv
  have hx := B.exec
  have hb := B.bytes
  have hr := B.returns
  have hts := atoms_spec (ws := wsX4_moveRefusal) B.pre
  have hown : s.vm.findClass RX4 = some m.cls := findClass_of_methodNamed B.named
  have hlocks := B.notSynchronized
  subst hsz
  have hD : va_D (va_A [] s.heap.size) [] := dd_nil
  generalize hAe : va_A [] s.heap.size = A at hD hQ
  have hA : ∀ q : Nat, s.heap.size ≤ q → A q := fun q h => by rw [← hAe]; exact Or.inr h
  have hS : va_S A s.heap s.heap [] := va_S.rf
  have hl := lv_entry ([.ref mm, .int a1, .int a2, .int a3, .int a4, .int a5]) (n := 6) (Nat.le_of_ble_eq_true rfl)
  rw [lg_entry_eq]
  generalize (lg_sl ([.ref mm, .int a1, .int a2, .int a3, .int a4, .int a5]) ++ List.replicate (6 - (lg_sl ([.ref mm, .int a1, .int a2, .int a3, .int a4, .int a5])).length) Slot.unset).toArray = ls at hl ⊢
  have hl : lv_has ls 6 [(0, .ref mm), (1, .int a1), (2, .int a2), (3, .int a3), (4, .int a4), (5, .int a5)] := hl
  have zm12 : ((-12) : Int32).toInt = -12 := by decide
  have zm11 : ((-11) : Int32).toInt = -11 := by decide
  have z0 : (0 : Int32).toInt = 0 := by decide
  refine lv_aload_n hx hb dX4_moveRefusal_0 rfl (lv_at hl 0 rfl) ?_
  have hPc := hP.sub (ws' := [(mm, .inr (4, [.int mk, .int mr, .ref ml, .ref mu]))]) [0] rfl
  have hDw : va_D (fun _ => True) [(mm, .inr (4, [.int mk, .int mr, .ref ml, .ref mu]))] := hD0.sub [0] (by decide) rfl
  have hFc := va_free (wc := []) hD hS hA [] rfl
  refine va_calli (va_runV (As := []) (rest := []) ⟨hx, hb, hml, hown, hts⟩ (c_X4_isThere l D cy s.heap.size mm ml mu mk mr) (cwV 0 hts gX4_moveRefusal_X4_isThere rfl rfl rfl (by decide +kernel) ⟨Nat.le_of_ble_eq_true rfl, Nat.le_of_ble_eq_true rfl⟩) ⟨bl_, va_recv hK.1 hP (ci := 4) (q0 := 0) rfl rfl, fun U hU hW => ⟨rfl, by rw [hU], by rw [hU]; exact hPc, kk_mv hW hK, hDw⟩⟩ rfl rfl hl.1 rfl (lv_room (Nat.le_of_ble_eq_true rfl)) dX4_moveRefusal_1 ⟨Nat.le_of_ble_eq_true rfl, Nat.le_of_ble_eq_true rfl⟩) hS (fun q _ h => hFc q h) hFc (fun r_1 u t H locs ht hvm hw hB hz1 hk1 hS => ?_)
  have hP := ro_keep hP hk1
  have hP : va_P D vwCl [(mm, .inr (4, [.int mk, .int mr, .ref ml, .ref mu])), (ml, .inl (cy 0, 6, .inl fl))] H := hP
  rcases hw with ⟨w_2, e_⟩ | ⟨w_2, e_⟩
  · have e_ := e_.symm
    subst e_
    refine lv_if_ne (tgt := 10) hx hb dX4_moveRefusal_4 (by decide) (fun c_3 => ?_) (fun c_3 => ?_)
    · have _ := c_3
      refine lv_aload_n hx hb dX4_moveRefusal_10 rfl (lv_at hl 0 rfl) ?_
      refine lv_iload_n hx hb dX4_moveRefusal_11 rfl (lv_at hl 1 rfl) ?_
      have hPc := hP.sub (ws' := [(mm, .inr (4, [.int mk, .int mr, .ref ml, .ref mu]))]) [0] rfl
      have hDw : va_D (fun _ => True) [(mm, .inr (4, [.int mk, .int mr, .ref ml, .ref mu]))] := hD0.sub [0] (by decide) rfl
      have hFc := va_free (wc := []) hD hS hA [] rfl
      refine va_calli (va_runV (As := [.int a1]) (rest := []) ⟨hx, hb, hml, hown, hts⟩ (c_X4_hasRow l D cy H.size mm ml mu mk mr a1) (cwV 1 hts gX4_moveRefusal_X4_hasRow rfl rfl rfl (by decide +kernel) ⟨Nat.le_of_ble_eq_true rfl, Nat.le_of_ble_eq_true rfl⟩) ⟨bl_, va_recv hK.1 hP (ci := 4) (q0 := 0) rfl rfl, fun U hU hW => ⟨rfl, by rw [hU], by rw [hU]; exact hPc, kk_mv hW hK, hDw⟩⟩ rfl rfl hl.1 rfl (lv_room (Nat.le_of_ble_eq_true rfl)) dX4_moveRefusal_12 ⟨Nat.le_of_ble_eq_true rfl, Nat.le_of_ble_eq_true rfl⟩) hS (fun q _ h => hFc q h) hFc (fun r_4 u t H locs ht hvm hw hB hz1 hk1 hS => ?_)
      have hP := ro_keep hP hk1
      have hP : va_P D vwCl [(mm, .inr (4, [.int mk, .int mr, .ref ml, .ref mu])), (ml, .inl (cy 0, 6, .inl fl))] H := hP
      rcases hw with ⟨w_5, e_⟩ | ⟨w_5, e_⟩
      · have e_ := e_.symm
        subst e_
        refine lv_if_eq (tgt := 26) hx hb dX4_moveRefusal_15 (by decide) (fun c_6 => ?_) (fun c_6 => ?_)
        · exact absurd c_6 (by decide)
        · have _ := c_6
          refine lv_aload_n hx hb dX4_moveRefusal_18 rfl (lv_at hl 0 rfl) ?_
          refine lv_iload_n hx hb dX4_moveRefusal_19 rfl (lv_at hl 3 rfl) ?_
          have hPc := hP.sub (ws' := [(mm, .inr (4, [.int mk, .int mr, .ref ml, .ref mu]))]) [0] rfl
          have hDw : va_D (fun _ => True) [(mm, .inr (4, [.int mk, .int mr, .ref ml, .ref mu]))] := hD0.sub [0] (by decide) rfl
          have hFc := va_free (wc := []) hD hS hA [] rfl
          refine va_calli (va_runV (As := [.int a3]) (rest := []) ⟨hx, hb, hml, hown, hts⟩ (c_X4_hasRow l D cy H.size mm ml mu mk mr a3) (cwV 1 hts gX4_moveRefusal_X4_hasRow rfl rfl rfl (by decide +kernel) ⟨Nat.le_of_ble_eq_true rfl, Nat.le_of_ble_eq_true rfl⟩) ⟨bl_, va_recv hK.1 hP (ci := 4) (q0 := 0) rfl rfl, fun U hU hW => ⟨rfl, by rw [hU], by rw [hU]; exact hPc, kk_mv hW hK, hDw⟩⟩ rfl rfl hl.1 rfl (lv_room (Nat.le_of_ble_eq_true rfl)) dX4_moveRefusal_20 ⟨Nat.le_of_ble_eq_true rfl, Nat.le_of_ble_eq_true rfl⟩) hS (fun q _ h => hFc q h) hFc (fun r_7 u t H locs ht hvm hw hB hz1 hk1 hS => ?_)
          have hP := ro_keep hP hk1
          have hP : va_P D vwCl [(mm, .inr (4, [.int mk, .int mr, .ref ml, .ref mu])), (ml, .inl (cy 0, 6, .inl fl))] H := hP
          rcases hw with ⟨w_8, e_⟩ | ⟨w_8, e_⟩
          · have e_ := e_.symm
            subst e_
            refine lv_if_ne (tgt := 29) hx hb dX4_moveRefusal_23 (by decide) (fun c_9 => ?_) (fun c_9 => ?_)
            · have _ := c_9
              refine lv_aload_n hx hb dX4_moveRefusal_29 rfl (lv_at hl 0 rfl) ?_
              refine va_get (ci := 4) (v := .ref ml) (C := RX4) (T := TX4) (N := 4) hx hb hts (fun _ h => List.mem_cons_of_mem _ (List.mem_append_right _ h)) hown hK.1 hP 0 rfl rfl 2 (by decide) (hts (.fieldLink RX4 18 "CutAtlas$NumberMap" "lengths" "[I") (by decide +kernel)) (fun _ h9 => h9) rfl dX4_moveRefusal_30 ?_
              refine lv_iload_n hx hb dX4_moveRefusal_33 rfl (lv_at hl 1 rfl) ?_
              have h_10 : vp_in a1 6 := in_I (by omega) (by omega)
              refine va_iald hx hb hK.1 hP 1 0 rfl rfl (i := a1) h_10 dX4_moveRefusal_34 ?_
              refine lv_topi (fun y_11 ey_11 => ?_)
              have ky_11 : y_11.toInt = (fl a1.toNatClampNeg).toInt := by rw [ey_11]
              have ry_11 : -9 ≤ y_11.toInt ∧ y_11.toInt ≤ 5 := by rw [ey_11]; exact r_fl _ (in_lt h_10)
              refine lv_if_lt (tgt := 47) hx hb dX4_moveRefusal_35 (by decide) (fun c_12 => ?_) (fun c_12 => ?_)
              · have t_12 : y_11.toInt < (0 : Int32).toInt := Int32.lt_iff_toInt_lt.mp c_12
                refine lv_bipush (v := (-11)) hx hb dX4_moveRefusal_47 (by decide) ?_
                subst hQ
                exact W.iret (v := (-11)) hx hb hr (fun t ht hW => ⟨⟨(-11), (), rfl, (by omega), trivial⟩, hS.F ht⟩) hS.2.2 dX4_moveRefusal_49
              · have t_12 : ¬ y_11.toInt < (0 : Int32).toInt := fun h => c_12 (Int32.lt_iff_toInt_lt.mpr h)
                refine lv_aload_n hx hb dX4_moveRefusal_38 rfl (lv_at hl 0 rfl) ?_
                refine va_get (ci := 4) (v := .ref ml) (C := RX4) (T := TX4) (N := 4) hx hb hts (fun _ h => List.mem_cons_of_mem _ (List.mem_append_right _ h)) hown hK.1 hP 0 rfl rfl 2 (by decide) (hts (.fieldLink RX4 18 "CutAtlas$NumberMap" "lengths" "[I") (by decide +kernel)) (fun _ h9 => h9) rfl dX4_moveRefusal_39 ?_
                refine lv_iload_n hx hb dX4_moveRefusal_42 rfl (lv_at hl 3 rfl) ?_
                have h_13 : vp_in a3 6 := in_I (by omega) (by omega)
                refine va_iald hx hb hK.1 hP 1 0 rfl rfl (i := a3) h_13 dX4_moveRefusal_43 ?_
                refine lv_topi (fun y_14 ey_14 => ?_)
                have ky_14 : y_14.toInt = (fl a3.toNatClampNeg).toInt := by rw [ey_14]
                have ry_14 : -9 ≤ y_14.toInt ∧ y_14.toInt ≤ 5 := by rw [ey_14]; exact r_fl _ (in_lt h_13)
                refine lv_if_ge (tgt := 50) hx hb dX4_moveRefusal_44 (by decide) (fun c_15 => ?_) (fun c_15 => ?_)
                · have t_15 : (0 : Int32).toInt ≤ y_14.toInt := Int32.le_iff_toInt_le.mp c_15
                  refine lv_aload_n hx hb dX4_moveRefusal_50 rfl (lv_at hl 0 rfl) ?_
                  refine lv_iload_n hx hb dX4_moveRefusal_51 rfl (lv_at hl 1 rfl) ?_
                  refine lv_iload_n hx hb dX4_moveRefusal_52 rfl (lv_at hl 2 rfl) ?_
                  refine lv_iload hx hb dX4_moveRefusal_53 (lv_at hl 5 rfl) ?_
                  have hPc := hP.sub (ws' := [(mm, .inr (4, [.int mk, .int mr, .ref ml, .ref mu])), (ml, .inl (cy 0, 6, .inl fl))]) [0, 1] rfl
                  have hDw : va_D (fun _ => True) [(mm, .inr (4, [.int mk, .int mr, .ref ml, .ref mu])), (ml, .inl (cy 0, 6, .inl fl))] := hD0.sub [0, 1] (by decide) rfl
                  have hFc := va_free (wc := []) hD hS hA [] rfl
                  refine va_calli (va_runV (As := [.int a1, .int a2, .int a5]) (rest := []) ⟨hx, hb, hml, hown, hts⟩ (c_X4_hasNumbers l D cy H.size mm ml mu mk mr fl a1 a2 a5 (by first | assumption | omega) (by first | assumption | omega)) (cwV 3 hts gX4_moveRefusal_X4_hasNumbers rfl rfl rfl (by decide +kernel) ⟨Nat.le_of_ble_eq_true rfl, Nat.le_of_ble_eq_true rfl⟩) ⟨bl_, va_recv hK.1 hP (ci := 4) (q0 := 0) rfl rfl, fun U hU hW => ⟨rfl, by rw [hU], by rw [hU]; exact hPc, kk_mv hW hK, hDw⟩⟩ rfl rfl hl.1 rfl (lv_room (Nat.le_of_ble_eq_true rfl)) dX4_moveRefusal_55 ⟨Nat.le_of_ble_eq_true rfl, Nat.le_of_ble_eq_true rfl⟩) hS (fun q _ h => hFc q h) hFc (fun r_16 u t H locs ht hvm hw hB hz1 hk1 hS => ?_)
                  have hP := ro_keep hP hk1
                  have hP : va_P D vwCl [(mm, .inr (4, [.int mk, .int mr, .ref ml, .ref mu])), (ml, .inl (cy 0, 6, .inl fl))] H := hP
                  rcases hw with ⟨w_17, e_⟩ | ⟨w_17, e_⟩
                  · have e_ := e_.symm
                    subst e_
                    refine lv_if_eq (tgt := 77) hx hb dX4_moveRefusal_58 (by decide) (fun c_18 => ?_) (fun c_18 => ?_)
                    · exact absurd c_18 (by decide)
                    · have _ := c_18
                      refine lv_aload_n hx hb dX4_moveRefusal_61 rfl (lv_at hl 0 rfl) ?_
                      refine lv_iload_n hx hb dX4_moveRefusal_62 rfl (lv_at hl 3 rfl) ?_
                      refine lv_iload hx hb dX4_moveRefusal_63 (lv_at hl 4 rfl) ?_
                      refine lv_iload hx hb dX4_moveRefusal_65 (lv_at hl 5 rfl) ?_
                      have hPc := hP.sub (ws' := [(mm, .inr (4, [.int mk, .int mr, .ref ml, .ref mu])), (ml, .inl (cy 0, 6, .inl fl))]) [0, 1] rfl
                      have hDw : va_D (fun _ => True) [(mm, .inr (4, [.int mk, .int mr, .ref ml, .ref mu])), (ml, .inl (cy 0, 6, .inl fl))] := hD0.sub [0, 1] (by decide) rfl
                      have hFc := va_free (wc := []) hD hS hA [] rfl
                      refine va_calli (va_runV (As := [.int a3, .int a4, .int a5]) (rest := []) ⟨hx, hb, hml, hown, hts⟩ (c_X4_hasNumbers l D cy H.size mm ml mu mk mr fl a3 a4 a5 (by first | assumption | omega) (by first | assumption | omega)) (cwV 3 hts gX4_moveRefusal_X4_hasNumbers rfl rfl rfl (by decide +kernel) ⟨Nat.le_of_ble_eq_true rfl, Nat.le_of_ble_eq_true rfl⟩) ⟨bl_, va_recv hK.1 hP (ci := 4) (q0 := 0) rfl rfl, fun U hU hW => ⟨rfl, by rw [hU], by rw [hU]; exact hPc, kk_mv hW hK, hDw⟩⟩ rfl rfl hl.1 rfl (lv_room (Nat.le_of_ble_eq_true rfl)) dX4_moveRefusal_67 ⟨Nat.le_of_ble_eq_true rfl, Nat.le_of_ble_eq_true rfl⟩) hS (fun q _ h => hFc q h) hFc (fun r_19 u t H locs ht hvm hw hB hz1 hk1 hS => ?_)
                      have hP := ro_keep hP hk1
                      have hP : va_P D vwCl [(mm, .inr (4, [.int mk, .int mr, .ref ml, .ref mu])), (ml, .inl (cy 0, 6, .inl fl))] H := hP
                      rcases hw with ⟨w_20, e_⟩ | ⟨w_20, e_⟩
                      · have e_ := e_.symm
                        subst e_
                        refine lv_if_eq (tgt := 77) hx hb dX4_moveRefusal_70 (by decide) (fun c_21 => ?_) (fun c_21 => ?_)
                        · exact absurd c_21 (by decide)
                        · have _ := c_21
                          refine lv_iconst (v := 0) hx hb dX4_moveRefusal_73 (by decide) ?_
                          refine lv_goto (tgt := 79) hx hb dX4_moveRefusal_74 (by decide) ?_
                          subst hQ
                          exact W.iret (v := 0) hx hb hr (fun t ht hW => ⟨⟨0, (), rfl, (by omega), trivial⟩, hS.F ht⟩) hS.2.2 dX4_moveRefusal_79
                      · have e_ := e_.symm
                        subst e_
                        refine lv_if_eq (tgt := 77) hx hb dX4_moveRefusal_70 (by decide) (fun c_22 => ?_) (fun c_22 => ?_)
                        · have _ := c_22
                          refine lv_bipush (v := (-12)) hx hb dX4_moveRefusal_77 (by decide) ?_
                          subst hQ
                          exact W.iret (v := (-12)) hx hb hr (fun t ht hW => ⟨⟨(-12), (), rfl, (by omega), trivial⟩, hS.F ht⟩) hS.2.2 dX4_moveRefusal_79
                        · exact absurd c_22 (by decide)
                  · have e_ := e_.symm
                    subst e_
                    refine lv_if_eq (tgt := 77) hx hb dX4_moveRefusal_58 (by decide) (fun c_23 => ?_) (fun c_23 => ?_)
                    · have _ := c_23
                      refine lv_bipush (v := (-12)) hx hb dX4_moveRefusal_77 (by decide) ?_
                      subst hQ
                      exact W.iret (v := (-12)) hx hb hr (fun t ht hW => ⟨⟨(-12), (), rfl, (by omega), trivial⟩, hS.F ht⟩) hS.2.2 dX4_moveRefusal_79
                    · exact absurd c_23 (by decide)
                · have t_15 : ¬ (0 : Int32).toInt ≤ y_14.toInt := fun h => c_15 (Int32.le_iff_toInt_le.mpr h)
                  refine lv_bipush (v := (-11)) hx hb dX4_moveRefusal_47 (by decide) ?_
                  subst hQ
                  exact W.iret (v := (-11)) hx hb hr (fun t ht hW => ⟨⟨(-11), (), rfl, (by omega), trivial⟩, hS.F ht⟩) hS.2.2 dX4_moveRefusal_49
            · exact absurd c_9 (by decide)
          · have e_ := e_.symm
            subst e_
            refine lv_if_ne (tgt := 29) hx hb dX4_moveRefusal_23 (by decide) (fun c_24 => ?_) (fun c_24 => ?_)
            · exact absurd c_24 (by decide)
            · have _ := c_24
              refine lv_bipush (v := (-12)) hx hb dX4_moveRefusal_26 (by decide) ?_
              subst hQ
              exact W.iret (v := (-12)) hx hb hr (fun t ht hW => ⟨⟨(-12), (), rfl, (by omega), trivial⟩, hS.F ht⟩) hS.2.2 dX4_moveRefusal_28
      · have e_ := e_.symm
        subst e_
        refine lv_if_eq (tgt := 26) hx hb dX4_moveRefusal_15 (by decide) (fun c_25 => ?_) (fun c_25 => ?_)
        · have _ := c_25
          refine lv_bipush (v := (-12)) hx hb dX4_moveRefusal_26 (by decide) ?_
          subst hQ
          exact W.iret (v := (-12)) hx hb hr (fun t ht hW => ⟨⟨(-12), (), rfl, (by omega), trivial⟩, hS.F ht⟩) hS.2.2 dX4_moveRefusal_28
        · exact absurd c_25 (by decide)
    · exact absurd c_3 (by decide)
  · have e_ := e_.symm
    subst e_
    refine lv_if_ne (tgt := 10) hx hb dX4_moveRefusal_4 (by decide) (fun c_26 => ?_) (fun c_26 => ?_)
    · exact absurd c_26 (by decide)
    · have _ := c_26
      refine lv_bipush (v := (-11)) hx hb dX4_moveRefusal_7 (by decide) ?_
      subst hQ
      exact W.iret (v := (-11)) hx hb hr (fun t ht hW => ⟨⟨(-11), (), rfl, (by omega), trivial⟩, hS.F ht⟩) hS.2.2 dX4_moveRefusal_9

set_option maxHeartbeats 4000000 in
set_option maxRecDepth 100000 in
theorem c_X4_move (l : Launch) (D : va_G) (cy : Nat → ClassId) (sz : Nat) (mm : Nat) (ml : Nat) (mu : Nat) (mk : Int32) (mr : Int32) (fn : Nat → Int64) (a1 : Int32) (a2 : Int32) (a3 : Int32) (a4 : Int32) (a5 : Int32) (q0 : (0 ≤ a1.toInt ∧ a1.toInt ≤ 5) ∧ (0 ≤ a3.toInt ∧ a3.toInt ≤ 5) ∧ 0 ≤ a2.toInt ∧ 0 ≤ a4.toInt ∧ 0 ≤ a5.toInt ∧ a2.toInt + a5.toInt ≤ 5 ∧ a4.toInt + a5.toInt ≤ 5) : Met l yX4_move wsX4_move ({ frames := 1, cells := 0, slots := 0, locals := 40 }) (va_Pc [.ref mm, .int a1, .int a2, .int a3, .int a4, .int a5] (fun U => U.heap.size = sz ∧ va_P D vwCl [(mm, .inr (4, [.int mk, .int mr, .ref ml, .ref mu])), (mu, .inl (cy 1, 30, .inr (.inl fn)))] U.heap ∧ kk_ D cy U ∧ va_D (fun _ => True) [(mm, .inr (4, [.int mk, .int mr, .ref ml, .ref mu])), (mu, .inl (cy 1, 30, .inr (.inl fn)))])) (va_Qv (fun (_ : Unit) => True) (fun (_ : Unit) (t : State) => ∃ (efn : Nat → Int64), va_P D vwCl [(mm, .inr (4, [.int mk, .int mr, .ref ml, .ref mu])), (mu, .inl (cy 1, 30, .inr (.inl efn)))] t.heap ∧ va_D (va_A [(mm, .inr (4, [.int mk, .int mr, .ref ml, .ref mu])), (mu, .inl (cy 1, 30, .inr (.inl fn)))] sz) [(mm, .inr (4, [.int mk, .int mr, .ref ml, .ref mu])), (mu, .inl (cy 1, 30, .inr (.inl efn)))]) (va_A [(mm, .inr (4, [.int mk, .int mr, .ref ml, .ref mu])), (mu, .inl (cy 1, 30, .inr (.inl fn)))] sz)) 0 0 (va_A [(mm, .inr (4, [.int mk, .int mr, .ref ml, .ref mu])), (mu, .inl (cy 1, 30, .inr (.inl fn)))] sz) := by
  refine ofQ (cc := cX4_move) (maxL := 6) (ret := none) (by decide) rfl ?_
  intro p e s m args below meth c s₁ Q hQ B hml hv
  obtain ⟨rfl, hsz, hP, hK, hD0⟩ := hv
  have hx := B.exec
  have hb := B.bytes
  have hr := B.returns
  have hts := atoms_spec (ws := wsX4_move) B.pre
  have hown : s.vm.findClass RX4 = some m.cls := findClass_of_methodNamed B.named
  have hlocks := B.notSynchronized
  subst hsz
  have hD := hD0.self (sz := s.heap.size)
  generalize hAe : va_A [(mm, .inr (4, [.int mk, .int mr, .ref ml, .ref mu])), (mu, .inl (cy 1, 30, .inr (.inl fn)))] s.heap.size = A at hD hQ
  have hA : ∀ q : Nat, s.heap.size ≤ q → A q := fun q h => by rw [← hAe]; exact Or.inr h
  have hS : va_S A s.heap s.heap [] := va_S.rf
  have hl := lv_entry ([.ref mm, .int a1, .int a2, .int a3, .int a4, .int a5]) (n := 6) (Nat.le_of_ble_eq_true rfl)
  rw [lg_entry_eq]
  generalize (lg_sl ([.ref mm, .int a1, .int a2, .int a3, .int a4, .int a5]) ++ List.replicate (6 - (lg_sl ([.ref mm, .int a1, .int a2, .int a3, .int a4, .int a5])).length) Slot.unset).toArray = ls at hl ⊢
  have hl : lv_has ls 6 [(0, .ref mm), (1, .int a1), (2, .int a2), (3, .int a3), (4, .int a4), (5, .int a5)] := hl
  have z5 : (5 : Int32).toInt = 5 := by decide
  refine lv_aload_n hx hb dX4_move_0 rfl (lv_at hl 0 rfl) ?_
  refine va_get (ci := 4) (v := .ref mu) (C := RX4) (T := TX4) (N := 4) hx hb hts (fun _ h => List.mem_cons_of_mem _ (List.mem_append_right _ h)) hown hK.1 hP 0 rfl rfl 3 (by decide) (hts (.fieldLink RX4 22 "CutAtlas$NumberMap" "numbers" "[J") (by decide +kernel)) (fun _ h9 => h9) rfl dX4_move_1 ?_
  refine lv_iload_n hx hb dX4_move_4 rfl (lv_at hl 1 rfl) ?_
  refine lv_iconst (v := 5) hx hb dX4_move_5 (by decide) ?_
  refine lv_imul hx hb dX4_move_6 ?_
  refine lv_topi (fun y_1 ey_1 => ?_)
  have ty_1 : y_1.toInt = 5 * a1.toInt := by rw [ey_1]; exact mulD (by decide) (by omega) (by omega)
  refine lv_iload_n hx hb dX4_move_7 rfl (lv_at hl 2 rfl) ?_
  refine lv_iadd hx hb dX4_move_8 ?_
  refine lv_topi (fun y_2 ey_2 => ?_)
  have ty_2 : y_2.toInt = y_1.toInt + a2.toInt := by rw [ey_2]; exact addI (by omega) (by omega)
  refine lv_aload_n hx hb dX4_move_9 rfl (lv_at hl 0 rfl) ?_
  refine va_get (ci := 4) (v := .ref mu) (C := RX4) (T := TX4) (N := 4) hx hb hts (fun _ h => List.mem_cons_of_mem _ (List.mem_append_right _ h)) hown hK.1 hP 0 rfl rfl 3 (by decide) (hts (.fieldLink RX4 22 "CutAtlas$NumberMap" "numbers" "[J") (by decide +kernel)) (fun _ h9 => h9) rfl dX4_move_10 ?_
  refine lv_iload_n hx hb dX4_move_13 rfl (lv_at hl 3 rfl) ?_
  refine lv_iconst (v := 5) hx hb dX4_move_14 (by decide) ?_
  refine lv_imul hx hb dX4_move_15 ?_
  refine lv_topi (fun y_3 ey_3 => ?_)
  have ty_3 : y_3.toInt = 5 * a3.toInt := by rw [ey_3]; exact mulD (by decide) (by omega) (by omega)
  refine lv_iload hx hb dX4_move_16 (lv_at hl 4 rfl) ?_
  refine lv_iadd hx hb dX4_move_18 ?_
  refine lv_topi (fun y_4 ey_4 => ?_)
  have ty_4 : y_4.toInt = y_3.toInt + a4.toInt := by rw [ey_4]; exact addI (by omega) (by omega)
  refine lv_iload hx hb dX4_move_19 (lv_at hl 5 rfl) ?_
  have cl_5 := clI (i := y_2) (by omega)
  have cl_6 := clI (i := a5) (by omega)
  have cl_7 := clI (i := y_4) (by omega)
  refine va_copyl hx hb (by rw [hml]; exact hl.1.symm) hown (hts (.methodLink RX4 48 arraycopyName) (by decide +kernel)) (hts (.native arraycopyName) (by decide +kernel)) (hts (.static arraycopyName) (by decide +kernel)) (hts (.initialized "java/lang/System") (by decide +kernel)) hK.1 hP hD hS 1 1 1 1 rfl rfl rfl rfl rfl (sp := y_2) (dp := y_4) (n := a5) (nneg (by omega)) (nneg (by omega)) (nneg (by omega)) (by omega) (by omega) (fun i h => rfl) (Nat.le_of_ble_eq_true rfl) (Nat.le_of_ble_eq_true rfl) dX4_move_21 (fun H locs hP hD hS => ?_)
  obtain ⟨f_8, ef_8⟩ : ∃ g : Nat → Int64, g = va_cpy fn fn y_2.toNatClampNeg y_4.toNatClampNeg a5.toNatClampNeg := ⟨_, rfl⟩
  have hP : va_P D vwCl [(mm, .inr (4, [.int mk, .int mr, .ref ml, .ref mu])), (mu, .inl (cy 1, 30, .inr (.inl f_8)))] H := by rw [ef_8]; exact hP
  have hD : va_D A [(mm, .inr (4, [.int mk, .int mr, .ref ml, .ref mu])), (mu, .inl (cy 1, 30, .inr (.inl f_8)))] := by rw [ef_8]; exact hD
  have hP9 := hP.sub (ws' := [(mm, .inr (4, [.int mk, .int mr, .ref ml, .ref mu])), (mu, .inl (cy 1, 30, .inr (.inl f_8)))]) [0, 1] rfl
  have hD9 := hD.sub (ws' := [(mm, .inr (4, [.int mk, .int mr, .ref ml, .ref mu])), (mu, .inl (cy 1, 30, .inr (.inl f_8)))]) [0, 1] (by decide) rfl
  subst hQ
  exact W.vret hx hb hr (fun t ht hW => ⟨⟨(), rfl, trivial, f_8, by rw [ht]; exact hP9, hD9⟩, hS.F ht⟩) hS.2.2 dX4_move_24
