theorem nneg {x : Int32} (h : 0 ≤ x.toInt) : ¬ x < 0 := fun q => by
  have a := Int32.lt_iff_toInt_lt.mp q
  have z : (0 : Int32).toInt = 0 := by decide
  omega
theorem rng_cpy {f g : Nat → Int32} {n sp dp k : Nat} {lo hi : Int} (hf : rng f n lo hi) (hg : rng g n lo hi) (h : sp + k ≤ n) : rng (va_cpy f g sp dp k) n lo hi := fun j hj => by
  by_cases e : dp ≤ j ∧ j < dp + k
  · rw [pk_cpy_in e.1 e.2]
    exact hf _ (by omega)
  · rw [pk_cpy_out (by omega)]
    exact hg j hj
theorem prng_cpy {f1 f2 g1 g2 a b : Nat → Int32} {n k : Nat} (ea : a = va_cpy f1 f2 (0 : Int32).toNatClampNeg (0 : Int32).toNatClampNeg k) (eb : b = va_cpy g1 g2 (0 : Int32).toNatClampNeg (0 : Int32).toNatClampNeg k) (h1 : prng f1 g1 n) (h2 : prng f2 g2 n) (hk : k ≤ n) : prng a b n := fun j hj => by
  rw [ea, eb]
  have z : (0 : Int32).toNatClampNeg = 0 := by decide
  rw [z]
  by_cases e : j < k
  · rw [pk_cpy_in (Nat.zero_le _) (by omega), pk_cpy_in (Nat.zero_le _) (by omega)]
    exact h1 _ (by omega)
  · rw [pk_cpy_out (by omega), pk_cpy_out (by omega)]
    exact h2 j hj

set_option maxHeartbeats 4000000 in
set_option maxRecDepth 100000 in
theorem c_X4_whole (l : Launch) (D : va_G) (cy : Nat → ClassId) (sz : Nat) (mm : Nat) (ml : Nat) (mu : Nat) (mk : Int32) (mr : Int32) (fn : Nat → Int64) (a1 : Int32) (a2 : Int32) (q1 : 0 ≤ a1.toInt ∧ a1.toInt ≤ 5) (q2 : 0 ≤ a2.toInt ∧ a2.toInt ≤ 4) : Met l yX4_whole wsX4_whole ({ frames := 1, cells := 0, slots := 0, locals := 22 }) (va_Pc [.ref mm, .int a1, .int a2] (fun U => U.heap.size = sz ∧ va_P D vwCl [(mm, .inr (4, [.int mk, .int mr, .ref ml, .ref mu])), (mu, .inl (cy 1, 30, .inr (.inl fn)))] U.heap ∧ kk_ D cy U ∧ va_D (fun _ => True) [(mm, .inr (4, [.int mk, .int mr, .ref ml, .ref mu])), (mu, .inl (cy 1, 30, .inr (.inl fn)))])) (va_Qi (fun (r : Int32) (_ : Unit) => (r = (fn (5 * a1.toInt + a2.toInt).toNat).toInt32)) (fun (_ : Unit) (_ : State) => True) (va_A [] sz)) 0 0 (va_A [] sz) := by
  refine ofQ (cc := cX4_whole) (maxL := 3) (ret := (some .int)) (by decide) rfl ?_
  intro p e s m args below meth c s₁ Q hQ B hml hv
  obtain ⟨rfl, hsz, hP, hK, hD0⟩ := hv
  have hx := B.exec
  have hb := B.bytes
  have hr := B.returns
  have hts := atoms_spec (ws := wsX4_whole) B.pre
  have hown : s.vm.findClass RX4 = some m.cls := by have h_ := findClass_of_methodNamed B.named; exact h_
  have hlocks := B.notSynchronized
  subst hsz
  have hD : va_D (va_A [] s.heap.size) [] := dd_nil
  generalize hAe : va_A [] s.heap.size = A at hD hQ
  have hA : ∀ q : Nat, s.heap.size ≤ q → A q := fun q h => by rw [← hAe]; exact Or.inr h
  have hS : va_S A s.heap s.heap [] := va_S.rf
  have hl := lv_entry ([.ref mm, .int a1, .int a2]) (n := 3) (Nat.le_of_ble_eq_true rfl)
  rw [lg_entry_eq]
  generalize (lg_sl ([.ref mm, .int a1, .int a2]) ++ List.replicate (3 - (lg_sl ([.ref mm, .int a1, .int a2])).length) Slot.unset).toArray = ls at hl ⊢
  have hl : lv_has ls 3 [(0, .ref mm), (1, .int a1), (2, .int a2)] := hl
  refine lv_aload_n hx hb dX4_whole_0 rfl (lv_at hl 0 rfl) ?_
  refine lv_iload_n hx hb dX4_whole_1 rfl (lv_at hl 1 rfl) ?_
  refine lv_iload_n hx hb dX4_whole_2 rfl (lv_at hl 2 rfl) ?_
  refine ct_R hP hD0 [(mm, .inr (4, [.int mk, .int mr, .ref ml, .ref mu])), (mu, .inl (cy 1, 30, .inr (.inl fn)))] [0, 1] (by decide) rfl (fun hPc hDw => ?_)
  have hFc := va_free (wc := []) hD hS hA [] rfl
  refine va_calll (va_runV (As := [.int a1, .int a2]) (rest := []) ⟨hx, hb, hml, hown, hts⟩ (c_X4_number l D cy s.heap.size mm ml mu mk mr fn a1 a2 (by first | with_reducible assumption | assumption | omega) (by first | with_reducible assumption | assumption | omega)) (cwV 2 hts gX4_whole_X4_number rfl rfl rfl (by decide +kernel) ⟨Nat.le_of_ble_eq_true rfl, Nat.le_of_ble_eq_true rfl⟩) ⟨bl_, va_recvX hK.1 hP (ci := 4) (q0 := 0) rfl rfl, fun U hU hW => ⟨rfl, by rw [hU], by rw [hU]; exact hPc, kk_mv hW hK, hDw⟩⟩ rfl rfl hl.1 rfl (lv_room (Nat.le_of_ble_eq_true rfl)) dX4_whole_3 ⟨Nat.le_of_ble_eq_true rfl, Nat.le_of_ble_eq_true rfl⟩) hS (fun q _ h => hFc q h) hFc (fun r_1 u t H locs ht hvm hw hB hz1 hk1 hS => ?_)
  have hP : va_P D vwCl _ H := ro_keep hP hk1
  have f0_r_1 := hw
  refine lv_l2i (v := r_1.toInt32) hx hb dX4_whole_6 rfl ?_
  rw [hQ]
  exact W.iret (v := (r_1.toInt32)) hx hb hr (fun t ht hW => ⟨⟨(r_1.toInt32), (), rfl, (congrArg Int64.toInt32 (by assumption)), trivial⟩, hS.F ht⟩) hS.2.2 dX4_whole_7

set_option maxHeartbeats 4000000 in
set_option maxRecDepth 100000 in
theorem c_X4_hasNumbers (l : Launch) (D : va_G) (cy : Nat → ClassId) (sz : Nat) (mm : Nat) (ml : Nat) (mu : Nat) (mk : Int32) (mr : Int32) (fl : Nat → Int32) (a1 : Int32) (a2 : Int32) (a3 : Int32) (q1 : 0 ≤ a1.toInt ∧ a1.toInt ≤ 5) (r_fl : rng fl 6 (-9) (5)) : Met l yX4_hasNumbers wsX4_hasNumbers ({ frames := 0, cells := 0, slots := 0, locals := 0 }) (va_Pc [.ref mm, .int a1, .int a2, .int a3] (fun U => U.heap.size = sz ∧ va_P D vwCl [(mm, .inr (4, [.int mk, .int mr, .ref ml, .ref mu])), (ml, .inl (cy 0, 6, .inl fl))] U.heap ∧ kk_ D cy U ∧ va_D (fun _ => True) [(mm, .inr (4, [.int mk, .int mr, .ref ml, .ref mu])), (ml, .inl (cy 0, 6, .inl fl))])) (va_Qi (fun (r : Int32) (_ : Unit) => ((0 ≤ a2.toInt ∧ 0 ≤ a3.toInt ∧ a2.toInt + a3.toInt ≤ (fl a1.toNatClampNeg).toInt) ∧ r = 1) ∨ ((¬ (0 ≤ a2.toInt ∧ 0 ≤ a3.toInt ∧ a2.toInt + a3.toInt ≤ (fl a1.toNatClampNeg).toInt)) ∧ r = 0)) (fun (_ : Unit) (_ : State) => True) (va_A [] sz)) 0 0 (va_A [] sz) := by
  refine ofQ (cc := cX4_hasNumbers) (maxL := 4) (ret := (some .boolean)) (by decide) rfl ?_
  intro p e s m args below meth c s₁ Q hQ B hml hv
  obtain ⟨rfl, hsz, hP, hK, hD0⟩ := hv
  have hx := B.exec
  have hb := B.bytes
  have hr := B.returns
  have hts := atoms_spec (ws := wsX4_hasNumbers) B.pre
  have hown : s.vm.findClass RX4 = some m.cls := by have h_ := findClass_of_methodNamed B.named; exact h_
  have hlocks := B.notSynchronized
  subst hsz
  have hD : va_D (va_A [] s.heap.size) [] := dd_nil
  generalize hAe : va_A [] s.heap.size = A at hD hQ
  have hA : ∀ q : Nat, s.heap.size ≤ q → A q := fun q h => by rw [← hAe]; exact Or.inr h
  have hS : va_S A s.heap s.heap [] := va_S.rf
  have hl := lv_entry ([.ref mm, .int a1, .int a2, .int a3]) (n := 4) (Nat.le_of_ble_eq_true rfl)
  rw [lg_entry_eq]
  generalize (lg_sl ([.ref mm, .int a1, .int a2, .int a3]) ++ List.replicate (4 - (lg_sl ([.ref mm, .int a1, .int a2, .int a3])).length) Slot.unset).toArray = ls at hl ⊢
  have hl : lv_has ls 4 [(0, .ref mm), (1, .int a1), (2, .int a2), (3, .int a3)] := hl
  have z0 : (0 : Int32).toInt = 0 := by decide
  have z1 : (1 : Int32).toInt = 1 := by decide
  refine lv_iload_n hx hb dX4_hasNumbers_0 rfl (lv_at hl 2 rfl) ?_
  refine lv_if_lt (tgt := 34) hx hb dX4_hasNumbers_1 (by decide) (fun c_1 => ?_) (fun c_1 => ?_)
  · have t_1 : a2.toInt < (0 : Int32).toInt := Int32.lt_iff_toInt_lt.mp c_1
    refine lv_iconst (v := 0) hx hb dX4_hasNumbers_34 (by decide) ?_
    rw [hQ]
    exact W.zret (ty := .boolean) (v := 0) hx hb hr (by decide) (fun t ht hW => ⟨⟨0, (), rfl, Or.inr (⟨by omega, rfl⟩), trivial⟩, hS.F ht⟩) hS.2.2 dX4_hasNumbers_35
  · have t_1 : ¬ a2.toInt < (0 : Int32).toInt := fun h => c_1 (Int32.lt_iff_toInt_lt.mpr h)
    refine lv_iload_n hx hb dX4_hasNumbers_4 rfl (lv_at hl 3 rfl) ?_
    refine lv_if_lt (tgt := 34) hx hb dX4_hasNumbers_5 (by decide) (fun c_2 => ?_) (fun c_2 => ?_)
    · have t_2 : a3.toInt < (0 : Int32).toInt := Int32.lt_iff_toInt_lt.mp c_2
      refine lv_iconst (v := 0) hx hb dX4_hasNumbers_34 (by decide) ?_
      rw [hQ]
      exact W.zret (ty := .boolean) (v := 0) hx hb hr (by decide) (fun t ht hW => ⟨⟨0, (), rfl, Or.inr (⟨by omega, rfl⟩), trivial⟩, hS.F ht⟩) hS.2.2 dX4_hasNumbers_35
    · have t_2 : ¬ a3.toInt < (0 : Int32).toInt := fun h => c_2 (Int32.lt_iff_toInt_lt.mpr h)
      refine lv_iload_n hx hb dX4_hasNumbers_8 rfl (lv_at hl 3 rfl) ?_
      refine lv_aload_n hx hb dX4_hasNumbers_9 rfl (lv_at hl 0 rfl) ?_
      refine va_get (ci := 4) (v := .ref ml) (C := RX4) (T := TX4) (N := 4) hx hb hts (fun _ h => List.mem_cons_of_mem _ (List.mem_append_right _ h)) hown hK.1 hP 0 rfl rfl 2 (by decide) (hts (.fieldLink RX4 18 "CutAtlas$NumberMap" "lengths" "[I") (by decide +kernel)) (fun _ h9 => h9) rfl dX4_hasNumbers_10 ?_
      refine lv_iload_n hx hb dX4_hasNumbers_13 rfl (lv_at hl 1 rfl) ?_
      have h_3 : vp_in a1 6 := in_I (by omega) (by omega)
      refine va_iald hx hb hK.1 hP 1 0 rfl rfl (i := a1) h_3 dX4_hasNumbers_14 ?_
      refine lv_topi (fun y_4 ey_4 => ?_)
      have ky_4 : y_4.toInt = (fl a1.toNatClampNeg).toInt := by rw [ey_4]
      have ry_4 : -9 ≤ y_4.toInt ∧ y_4.toInt ≤ 5 := by rw [ey_4]; exact r_fl _ (in_lt h_3)
      refine lv_icmp_gt (tgt := 34) hx hb dX4_hasNumbers_15 (by decide) (fun c_5 => ?_) (fun c_5 => ?_)
      · have t_5 : y_4.toInt < a3.toInt := Int32.lt_iff_toInt_lt.mp c_5
        refine lv_iconst (v := 0) hx hb dX4_hasNumbers_34 (by decide) ?_
        rw [hQ]
        exact W.zret (ty := .boolean) (v := 0) hx hb hr (by decide) (fun t ht hW => ⟨⟨0, (), rfl, Or.inr (⟨by omega, rfl⟩), trivial⟩, hS.F ht⟩) hS.2.2 dX4_hasNumbers_35
      · have t_5 : ¬ y_4.toInt < a3.toInt := fun h => c_5 (Int32.lt_iff_toInt_lt.mpr h)
        refine lv_iload_n hx hb dX4_hasNumbers_18 rfl (lv_at hl 2 rfl) ?_
        refine lv_aload_n hx hb dX4_hasNumbers_19 rfl (lv_at hl 0 rfl) ?_
        refine va_get (ci := 4) (v := .ref ml) (C := RX4) (T := TX4) (N := 4) hx hb hts (fun _ h => List.mem_cons_of_mem _ (List.mem_append_right _ h)) hown hK.1 hP 0 rfl rfl 2 (by decide) (hts (.fieldLink RX4 18 "CutAtlas$NumberMap" "lengths" "[I") (by decide +kernel)) (fun _ h9 => h9) rfl dX4_hasNumbers_20 ?_
        refine lv_iload_n hx hb dX4_hasNumbers_23 rfl (lv_at hl 1 rfl) ?_
        have h_6 : vp_in a1 6 := in_I (by omega) (by omega)
        refine va_iald hx hb hK.1 hP 1 0 rfl rfl (i := a1) h_6 dX4_hasNumbers_24 ?_
        refine lv_topi (fun y_7 ey_7 => ?_)
        have e_ := (ey_7.trans ey_4.symm).symm
        subst e_
        skip
        refine lv_iload_n hx hb dX4_hasNumbers_25 rfl (lv_at hl 3 rfl) ?_
        refine lv_isub hx hb dX4_hasNumbers_26 ?_
        refine lv_topi (fun y_8 ey_8 => ?_)
        have ty_8 : y_8.toInt = y_4.toInt - a3.toInt := by rw [ey_8]; exact subI (by omega) (by omega)
        refine lv_icmp_gt (tgt := 34) hx hb dX4_hasNumbers_27 (by decide) (fun c_9 => ?_) (fun c_9 => ?_)
        · have t_9 : y_8.toInt < a2.toInt := Int32.lt_iff_toInt_lt.mp c_9
          refine lv_iconst (v := 0) hx hb dX4_hasNumbers_34 (by decide) ?_
          rw [hQ]
          exact W.zret (ty := .boolean) (v := 0) hx hb hr (by decide) (fun t ht hW => ⟨⟨0, (), rfl, Or.inr (⟨by omega, rfl⟩), trivial⟩, hS.F ht⟩) hS.2.2 dX4_hasNumbers_35
        · have t_9 : ¬ y_8.toInt < a2.toInt := fun h => c_9 (Int32.lt_iff_toInt_lt.mpr h)
          refine lv_iconst (v := 1) hx hb dX4_hasNumbers_30 (by decide) ?_
          refine lv_goto (tgt := 35) hx hb dX4_hasNumbers_31 (by decide) ?_
          rw [hQ]
          exact W.zret (ty := .boolean) (v := 1) hx hb hr (by decide) (fun t ht hW => ⟨⟨1, (), rfl, Or.inl (⟨by omega, rfl⟩), trivial⟩, hS.F ht⟩) hS.2.2 dX4_hasNumbers_35
