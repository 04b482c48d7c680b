section
set_option maxHeartbeats 4000000 in
set_option maxRecDepth 100000 in
theorem c_X1_leastAlike2 (l : Launch) (D : va_G) (cy : Nat → ClassId) (sz : Nat) (xt : Nat) (xc : Nat) (ta : Nat) (tb : Nat) (fx : Nat → Int32) (d : Nat → Nat) (lm : Nat → Nat → Int) (P_ : Nat) (fu : Nat → Int32) (a1 : Int32) (a2 : Int32) (htr : trd fx d) (q2 : 0 ≤ a2.toInt ∧ a2.toInt < (P_ : Int)) (hP12 : P_ ≤ 12) (hL : ltr lm P_ (nF fx) (qF_ fu) d) : Met l yX1_leastAlike wsX1_leastAlike ({ frames := 2, cells := 0, slots := 0, locals := 51 }) (va_Pc [.ref xt, .int a1, .int a2] (fun U => U.heap.size = sz ∧ va_P D vwCl [ob1_0_ xt xc ta tb, ai_ cy ta 12 fx, ai_ cy tb 12 fu] U.heap ∧ kk_ D cy U ∧ va_D (fun _ => True) [ob1_0_ xt xc ta tb, ai_ cy ta 12 fx, ai_ cy tb 12 fu])) (va_Qi (fun (r : Int32) (_ : Unit) => (0 ≤ r.toInt ∧ r.toInt ≤ a2.toInt) ∧ (alk lm a1.toInt a2.toNatClampNeg r.toNatClampNeg)) (fun (_ : Unit) (_ : State) => True) (va_A [] sz)) 0 0 (va_A [] sz) := by
  refine ofQ (cc := cX1_leastAlike) (maxL := 4) (ret := (some .int)) (by decide) rfl ?_
  intro p e s m args below meth c s₁ Q hQ B hml hv
  obtain ⟨rfl, hsz, hP, hK, hD0⟩ := hv
  have hx := B.exec
  have hb := B.bytes
  have hr := B.returns
  have hts := atoms_spec (ws := wsX1_leastAlike) B.pre
  have hown : s.vm.findClass RX1 = some m.cls := by have h_ := findClass_of_methodNamed B.named; exact h_
  have hlocks := B.notSynchronized
  subst hsz
  have hD : va_D (va_A [] s.heap.size) [] := dd_nil
  generalize hAe : va_A [] s.heap.size = A at hD hQ
  have hA : ∀ q : Nat, s.heap.size ≤ q → A q := fun q h => by rw [← hAe]; exact Or.inr h
  have hS : va_S A s.heap s.heap [] := va_S.rf
  have hl := lv_entry ([.ref xt, .int a1, .int a2]) (n := 4) (Nat.le_of_ble_eq_true rfl)
  rw [lg_entry_eq]
  generalize (lg_sl ([.ref xt, .int a1, .int a2]) ++ List.replicate (4 - (lg_sl ([.ref xt, .int a1, .int a2])).length) Slot.unset).toArray = ls at hl ⊢
  have hl : lv_has ls 4 [(0, .ref xt), (1, .int a1), (2, .int a2)] := hl
  have z0 : (0 : Int32).toInt = 0 := by decide
  have z1 : (1 : Int32).toInt = 1 := by decide
  refine lv_iconst (v := 0) hx hb dB_36_0_55.1.1 (by decide) ?_
  refine lv_istore_n (lv' := [(3, .int 0), (0, .ref xt), (1, .int a1), (2, .int a2)]) hx hb dB_36_0_55.1.2.1 rfl hl (by decide) rfl (fun ls hl => ?_)
  suffices LOOP_1 : ∀ (n_1 : Nat) (x3_1 : Int32) (H : Heap) (locs : List Loc) (ls : Array Slot), a2.toInt - x3_1.toInt < (n_1 : Int) → (0 ≤ x3_1.toInt) → (x3_1.toInt ≤ a2.toInt) → (∀ q : Nat, (q : Int) < x3_1.toInt → lm q a2.toNatClampNeg < a1.toInt) → va_P D vwCl [ob1_0_ xt xc ta tb, ai_ cy ta 12 fx, ai_ cy tb 12 fu] H → va_S A s.heap H locs → lv_has ls 4 [(3, .int x3_1), (0, .ref xt), (1, .int a1), (2, .int a2)] → W p l e ({ frames := 2, cells := 0, slots := 0, locals := 51 } : Room) s m (([.ref xt, .int a1, .int a2] : List Value).toArray) below meth c H locs 0 0 Q (F0 m 2 ls []) from LOOP_1 ((a2.toInt - (0 : Int32).toInt).toNat + 1) (0 : Int32) _ _ _ (by omega) (by first | with_reducible assumption | omega | assumption) (by first | with_reducible assumption | omega | assumption) (by first | (intro q hq; omega) | exact fun q hq => alk_st v_none (by omega) (by omega) hlw_ (by omega) q hq) hP hS (lv_sub hl [0, 1, 2, 3] rfl)
  intro n_1
  induction n_1 with
  | zero =>
    intro x3_1 H locs ls hm v0_1 v1_1 v2_1 hP hS hl
    exact absurd hm (by omega)
  | succ n_1 ih_1 =>
    intro x3_1 H locs ls hm v0_1 v1_1 v2_1 hP hS hl
    refine lv_iload_n hx hb dB_36_0_55.1.2.2 rfl (lv_at hl 0 rfl) ?_
    refine lv_iload_n hx hb dB_36_0_55.2.1 rfl (lv_at hl 3 rfl) ?_
    refine lv_icmp_ge (tgt := 25) hx hb dB_36_0_55.2.2.1 (by decide) (fun c_2 => ?_) (fun c_2 => ?_)
    · have t_2 : a2.toInt ≤ x3_1.toInt := Int32.le_iff_toInt_le.mp c_2
      refine lv_iload_n hx hb dB_36_1_1.2.2.2.1 rfl (lv_at hl 3 rfl) ?_
      rw [hQ]
      exact W.iret (v := a2) hx hb hr (fun t ht hW => ⟨⟨a2, (), rfl, ⟨by omega, by have c2_ := clI (i := a2) (by omega); exact ⟨Nat.le_refl _, fun h => absurd h (Nat.lt_irrefl _), fun q hq => v2_1 q (by omega)⟩⟩, trivial⟩, hS.F ht⟩) hS.2.2 dB_36_1_1.2.2.2.2
    · have t_2 : ¬ a2.toInt ≤ x3_1.toInt := fun h => c_2 (Int32.le_iff_toInt_le.mpr h)
      refine lv_aload_n hx hb dB_36_0_55.2.2.2 rfl (lv_at hl 1 rfl) ?_
      refine lv_iload_n hx hb dB_36_1_1.1.1.1 rfl (lv_at hl 0 rfl) ?_
      refine lv_iload_n hx hb dB_36_1_1.1.1.2 rfl (lv_at hl 3 rfl) ?_
      refine ct_R hP hD0 [ob1_0_ xt xc ta tb, ai_ cy ta 12 fx, ai_ cy tb 12 fu] [0, 1, 2] (by decide) rfl (fun hPc hDw => ?_)
      have hFc := va_free (wc := []) hD hS hA [] rfl
      refine va_calli (va_runV (As := [.int x3_1, .int a2]) (rest := []) ⟨hx, hb, hml, hown, hts⟩ (c_X1_leastOnWay2 l D cy H.size xt xc ta tb fx d lm P_ fu x3_1 a2 (by first | with_reducible assumption | assumption | omega) (by first | with_reducible assumption | omega | assumption) (by first | with_reducible assumption | omega | assumption) (by first | with_reducible assumption | assumption | omega) (by first | with_reducible assumption | assumption | omega)) (cwV 2 hts gX1_leastAlike_X1_leastOnWay rfl rfl rfl ⟨rfl, hd_X1_leastOnWay⟩ ⟨Nat.le_of_ble_eq_true rfl, Nat.le_of_ble_eq_true rfl⟩) ⟨bl_, va_recvX hK.1 hP (ci := 1) (q0 := 0) rfl rfl, fun U hU hW => ⟨rfl, by rw [hU], by rw [hU]; exact hPc, kk_mv hW hK, hDw⟩⟩ rfl rfl hl.1 rfl (lv_room (Nat.le_of_ble_eq_true rfl)) dB_36_1_1.1.2.1 ⟨Nat.le_of_ble_eq_true rfl, Nat.le_of_ble_eq_true rfl⟩) hS (fun q _ h => hFc q h) hFc (fun r_3 u t H locs ht hvm hw hB hz1 hk1 hS => ?_)
      have hP : va_P D vwCl _ H := ro_keep hP hk1
      obtain ⟨f0_r_3, f1_r_3⟩ := hw
      have hlw_ := f0_r_3 (by omega)
      refine lv_iload_n hx hb dB_36_1_1.1.2.2.1 rfl (lv_at hl 2 rfl) ?_
      refine lv_icmp_lt (tgt := 19) hx hb dB_36_1_1.1.2.2.2 (by decide) (fun c_4 => ?_) (fun c_4 => ?_)
      · have t_4 : r_3.toInt < a1.toInt := Int32.lt_iff_toInt_lt.mp c_4
        obtain ⟨y_5, ey_5⟩ : ∃ y : Int32, y = x3_1 + 1 := ⟨_, rfl⟩
        have ty_5 : y_5.toInt = x3_1.toInt + (1 : Int32).toInt := by rw [ey_5]; exact addI (by omega) (by omega)
        refine lv_iinc (v := y_5) (lv' := [(3, .int y_5), (0, .ref xt), (1, .int a1), (2, .int a2)]) hx hb dB_36_1_1.2.1.2.2 hl (k := 0) rfl (by rw [ey_5]; rfl) (by decide) rfl (fun ls hl => ?_)
        refine lv_goto (tgt := 2) hx hb dB_36_1_1.2.2.1 (by decide) ?_
        exact ih_1 y_5 _ _ _ (by omega) (by first | with_reducible assumption | omega | assumption) (by first | with_reducible assumption | omega | assumption) (by first | (intro q hq; omega) | exact fun q hq => alk_st v2_1 (by omega) (by omega) hlw_ (by omega) q hq) hP hS (lv_sub hl [0, 1, 2, 3] rfl)
      · have t_4 : ¬ r_3.toInt < a1.toInt := fun h => c_4 (Int32.lt_iff_toInt_lt.mpr h)
        refine lv_iload_n hx hb dB_36_1_1.2.1.1 rfl (lv_at hl 0 rfl) ?_
        rw [hQ]
        exact W.iret (v := x3_1) hx hb hr (fun t ht hW => ⟨⟨x3_1, (), rfl, ⟨by omega, by have c_ := clI (i := x3_1) (by omega); have c2_ := clI (i := a2) (by omega); exact ⟨by omega, fun _ => by omega, fun q hq => v2_1 q (by omega)⟩⟩, trivial⟩, hS.F ht⟩) hS.2.2 dB_36_1_1.2.1.2.1

set_option maxHeartbeats 4000000 in
set_option maxRecDepth 100000 in
theorem c_X1_partsBelow2 (l : Launch) (D : va_G) (cy : Nat → ClassId) (sz : Nat) (xt : Nat) (xc : Nat) (ta : Nat) (tb : Nat) (fx : Nat → Int32) (d : Nat → Nat) (lm : Nat → Nat → Int) (P_ : Nat) (fu : Nat → Int32) (a1 : Int32) (a2 : Int32) (htr : trd fx d) (q2 : 0 ≤ a2.toInt ∧ a2.toInt ≤ (P_ : Int)) (hP12 : P_ ≤ 12) (hL : ltr lm P_ (nF fx) (qF_ fu) d) : Met l yX1_partsBelow wsX1_partsBelow ({ frames := 3, cells := 0, slots := 0, locals := 74 }) (va_Pc [.ref xt, .int a1, .int a2] (fun U => U.heap.size = sz ∧ va_P D vwCl [ob1_0_ xt xc ta tb, ai_ cy ta 12 fx, ai_ cy tb 12 fu] U.heap ∧ kk_ D cy U ∧ va_D (fun _ => True) [ob1_0_ xt xc ta tb, ai_ cy ta 12 fx, ai_ cy tb 12 fu])) (va_Qi (fun (r : Int32) (_ : Unit) => (r.toInt = cnQ (nwP lm a1.toInt) a2.toNatClampNeg)) (fun (_ : Unit) (_ : State) => True) (va_A [] sz)) 0 0 (va_A [] sz) := by
  refine ofQ (cc := cX1_partsBelow) (maxL := 5) (ret := (some .int)) (by decide) rfl ?_
  intro p e s m args below meth c s₁ Q hQ B hml hv
  obtain ⟨rfl, hsz, hP, hK, hD0⟩ := hv
  have hx := B.exec
  have hb := B.bytes
  have hr := B.returns
  have hts := atoms_spec (ws := wsX1_partsBelow) B.pre
  have hown : s.vm.findClass RX1 = some m.cls := by have h_ := findClass_of_methodNamed B.named; exact h_
  have hlocks := B.notSynchronized
  subst hsz
  have hD : va_D (va_A [] s.heap.size) [] := dd_nil
  generalize hAe : va_A [] s.heap.size = A at hD hQ
  have hA : ∀ q : Nat, s.heap.size ≤ q → A q := fun q h => by rw [← hAe]; exact Or.inr h
  have hS : va_S A s.heap s.heap [] := va_S.rf
  have hl := lv_entry ([.ref xt, .int a1, .int a2]) (n := 5) (Nat.le_of_ble_eq_true rfl)
  rw [lg_entry_eq]
  generalize (lg_sl ([.ref xt, .int a1, .int a2]) ++ List.replicate (5 - (lg_sl ([.ref xt, .int a1, .int a2])).length) Slot.unset).toArray = ls at hl ⊢
  have hl : lv_has ls 5 [(0, .ref xt), (1, .int a1), (2, .int a2)] := hl
  have z0 : (0 : Int32).toInt = 0 := by decide
  have z1 : (1 : Int32).toInt = 1 := by decide
  refine lv_iconst (v := 0) hx hb dB_36_1_2.1.1.1.1 (by decide) ?_
  refine lv_istore_n (lv' := [(3, .int 0), (0, .ref xt), (1, .int a1), (2, .int a2)]) hx hb dB_36_1_2.1.1.1.2 rfl hl (by decide) rfl (fun ls hl => ?_)
  refine lv_iconst (v := 0) hx hb dB_36_1_2.1.1.2.1 (by decide) ?_
  refine lv_istore (lv' := [(4, .int 0), (3, .int 0), (0, .ref xt), (1, .int a1), (2, .int a2)]) hx hb dB_36_1_2.1.1.2.2 hl (by decide) rfl (fun ls hl => ?_)
  suffices LOOP_1 : ∀ (n_1 : Nat) (x4_1 : Int32) (x3_1 : Int32) (H : Heap) (locs : List Loc) (ls : Array Slot), 13 - x4_1.toInt < (n_1 : Int) → (0 ≤ x4_1.toInt) → (x4_1.toInt ≤ a2.toInt) → (0 ≤ x3_1.toInt ∧ x3_1.toInt ≤ x4_1.toInt) → (x3_1.toInt = cnQ (nwP lm a1.toInt) x4_1.toNatClampNeg) → va_P D vwCl [ob1_0_ xt xc ta tb, ai_ cy ta 12 fx, ai_ cy tb 12 fu] H → va_S A s.heap H locs → lv_has ls 5 [(4, .int x4_1), (3, .int x3_1), (0, .ref xt), (1, .int a1), (2, .int a2)] → W p l e ({ frames := 3, cells := 0, slots := 0, locals := 74 } : Room) s m (([.ref xt, .int a1, .int a2] : List Value).toArray) below meth c H locs 0 0 Q (F0 m 5 ls []) from LOOP_1 ((13 - (0 : Int32).toInt).toNat + 1) (0 : Int32) (0 : Int32) _ _ _ (by omega) (by first | with_reducible assumption | omega | assumption) (by first | with_reducible assumption | omega | assumption) (by first | with_reducible assumption | omega | assumption) (by first | exact rfl | exact cnt_nw v_none (by omega) (by omega) hal_ (by omega)) hP hS (lv_sub hl [0, 1, 2, 3, 4] rfl)
  intro n_1
  induction n_1 with
  | zero =>
    intro x4_1 x3_1 H locs ls hm v0_1 v1_1 v2_1 v3_1 hP hS hl
    exact absurd hm (by omega)
  | succ n_1 ih_1 =>
    intro x4_1 x3_1 H locs ls hm v0_1 v1_1 v2_1 v3_1 hP hS hl
    refine lv_iload hx hb dB_36_1_2.1.2.1.1 (lv_at hl 0 rfl) ?_
    refine lv_iload_n hx hb dB_36_1_2.1.2.1.2 rfl (lv_at hl 4 rfl) ?_
    refine lv_icmp_ge (tgt := 37) hx hb dB_36_1_2.1.2.2.1 (by decide) (fun c_2 => ?_) (fun c_2 => ?_)
    · have t_2 : a2.toInt ≤ x4_1.toInt := Int32.le_iff_toInt_le.mp c_2
      refine lv_iload_n hx hb dB_36_1_3.2.2.1 rfl (lv_at hl 1 rfl) ?_
      rw [hQ]
      exact W.iret (v := x3_1) hx hb hr (fun t ht hW => ⟨⟨x3_1, (), rfl, (by rw [show a2 = x4_1 from Int32.toInt_inj.mp (by omega)]; exact v3_1), trivial⟩, hS.F ht⟩) hS.2.2 dB_36_1_3.2.2.2
    · have t_2 : ¬ a2.toInt ≤ x4_1.toInt := fun h => c_2 (Int32.le_iff_toInt_le.mpr h)
      refine lv_iload_n hx hb dB_36_1_2.1.2.2.2 rfl (lv_at hl 1 rfl) ?_
      refine lv_aload_n hx hb dB_36_1_2.2.1.1.1 rfl (lv_at hl 2 rfl) ?_
      refine lv_iload_n hx hb dB_36_1_2.2.1.1.2 rfl (lv_at hl 3 rfl) ?_
      refine lv_iload hx hb dB_36_1_2.2.1.2.1 (lv_at hl 0 rfl) ?_
      refine ct_R hP hD0 [ob1_0_ xt xc ta tb, ai_ cy ta 12 fx, ai_ cy tb 12 fu] [0, 1, 2] (by decide) rfl (fun hPc hDw => ?_)
      have hFc := va_free (wc := []) hD hS hA [] rfl
      refine va_calli (va_runV (As := [.int a1, .int x4_1]) (rest := [.int x3_1]) ⟨hx, hb, hml, hown, hts⟩ (c_X1_leastAlike2 l D cy H.size xt xc ta tb fx d lm P_ fu a1 x4_1 (by first | with_reducible assumption | assumption | omega) (by first | with_reducible assumption | omega | assumption) (by first | with_reducible assumption | assumption | omega) (by first | with_reducible assumption | assumption | omega)) (cwV 2 hts gX1_partsBelow_X1_leastAlike rfl rfl rfl ⟨rfl, hd_X1_leastAlike⟩ ⟨Nat.le_of_ble_eq_true rfl, Nat.le_of_ble_eq_true rfl⟩) ⟨bl_, va_recvX hK.1 hP (ci := 1) (q0 := 0) rfl rfl, fun U hU hW => ⟨rfl, by rw [hU], by rw [hU]; exact hPc, kk_mv hW hK, hDw⟩⟩ rfl rfl hl.1 rfl (lv_room (Nat.le_of_ble_eq_true rfl)) dB_36_1_2.2.1.2.2 ⟨Nat.le_of_ble_eq_true rfl, Nat.le_of_ble_eq_true rfl⟩) hS (fun q _ h => hFc q h) hFc (fun r_3 u t H locs ht hvm hw hB hz1 hk1 hS => ?_)
      have hP : va_P D vwCl _ H := ro_keep hP hk1
      obtain ⟨f0_r_3, f1_r_3⟩ := hw
      have hal_ := f1_r_3
      have c4_ := clI (i := x4_1) (by omega)
      have cT_ := clI (i := r_3) (by omega)
      refine lv_iload hx hb dB_36_1_2.2.2.1.1 (lv_at hl 0 rfl) ?_
      refine lv_icmp_ne (tgt := 28) hx hb dB_36_1_2.2.2.1.2 (by decide) (fun c_4 => ?_) (fun c_4 => ?_)
      · have t_4 : ¬ r_3.toInt = x4_1.toInt := fun h => c_4 (Int32.toInt_inj.mp h)
        refine lv_iconst (v := 0) hx hb dB_36_1_3.1.1 (by decide) ?_
        refine lv_iadd hx hb dB_36_1_3.1.2.1 ?_
        refine lv_topi (fun y_5 ey_5 => ?_)
        have ty_5 : y_5.toInt = x3_1.toInt + (0 : Int32).toInt := by rw [ey_5]; exact addI (by omega) (by omega)
        refine lv_istore_n (lv' := [(3, .int y_5), (4, .int x4_1), (0, .ref xt), (1, .int a1), (2, .int a2)]) hx hb dB_36_1_3.1.2.2 rfl hl (by decide) rfl (fun ls hl => ?_)
        obtain ⟨y_6, ey_6⟩ : ∃ y : Int32, y = x4_1 + 1 := ⟨_, rfl⟩
        have ty_6 : y_6.toInt = x4_1.toInt + (1 : Int32).toInt := by rw [ey_6]; exact addI (by omega) (by omega)
        refine lv_iinc (v := y_6) (lv' := [(4, .int y_6), (3, .int y_5), (0, .ref xt), (1, .int a1), (2, .int a2)]) hx hb dB_36_1_3.2.1.1 hl (k := 1) rfl (by rw [ey_6]; rfl) (by decide) rfl (fun ls hl => ?_)
        refine lv_goto (tgt := 5) hx hb dB_36_1_3.2.1.2 (by decide) ?_
        exact ih_1 y_6 y_5 _ _ _ (by omega) (by first | with_reducible assumption | omega | assumption) (by first | with_reducible assumption | omega | assumption) (by first | with_reducible assumption | omega | assumption) (by first | exact rfl | exact cnt_nw v3_1 (by omega) (by omega) hal_ (by omega)) hP hS (lv_sub hl [0, 1, 2, 3, 4] rfl)
      · have t_4 : r_3.toInt = x4_1.toInt := congrArg Int32.toInt c_4
        refine lv_iconst (v := 1) hx hb dB_36_1_2.2.2.2.1 (by decide) ?_
        refine lv_goto (tgt := 29) hx hb dB_36_1_2.2.2.2.2 (by decide) ?_
        refine lv_iadd hx hb dB_36_1_3.1.2.1 ?_
        refine lv_topi (fun y_7 ey_7 => ?_)
        have ty_7 : y_7.toInt = x3_1.toInt + (1 : Int32).toInt := by rw [ey_7]; exact addI (by omega) (by omega)
        refine lv_istore_n (lv' := [(3, .int y_7), (4, .int x4_1), (0, .ref xt), (1, .int a1), (2, .int a2)]) hx hb dB_36_1_3.1.2.2 rfl hl (by decide) rfl (fun ls hl => ?_)
        obtain ⟨y_8, ey_8⟩ : ∃ y : Int32, y = x4_1 + 1 := ⟨_, rfl⟩
        have ty_8 : y_8.toInt = x4_1.toInt + (1 : Int32).toInt := by rw [ey_8]; exact addI (by omega) (by omega)
        refine lv_iinc (v := y_8) (lv' := [(4, .int y_8), (3, .int y_7), (0, .ref xt), (1, .int a1), (2, .int a2)]) hx hb dB_36_1_3.2.1.1 hl (k := 1) rfl (by rw [ey_8]; rfl) (by decide) rfl (fun ls hl => ?_)
        refine lv_goto (tgt := 5) hx hb dB_36_1_3.2.1.2 (by decide) ?_
        exact ih_1 y_8 y_7 _ _ _ (by omega) (by first | with_reducible assumption | omega | assumption) (by first | with_reducible assumption | omega | assumption) (by first | with_reducible assumption | omega | assumption) (by first | exact rfl | exact cnt_nw v3_1 (by omega) (by omega) hal_ (by omega)) hP hS (lv_sub hl [0, 1, 2, 3, 4] rfl)

set_option maxHeartbeats 4000000 in
set_option maxRecDepth 100000 in
theorem c_X11_part2 (l : Launch) (D : va_G) (cy : Nat → ClassId) (sz : Nat) (xo : Nat) (xk : Nat) (xn : Nat) (xc : Nat) (xh : Nat) (xt : Nat) (xw : Nat) (xm : Nat) (xp : Nat) (pf : Int32) (ph : Int32) (tr : Int64) (fi : Int32) (n1 : Nat) (n2 : Nat) (n3 : Nat) (n4 : Nat) (n5 : Nat) (vp : Int32) (vn : Int32) (clo : Nat) (cro : Nat) (c4 : Nat) (c5 : Nat) (c6 : Nat) (c7 : Nat) (c8 : Nat) (fk : Nat → Int32) (fs : Nat → Int32) (fe : Nat → Int32) (fw : Nat → Int32) (fp : Nat → Int32) (rl : Nat → Nat) (Ml : Nat → Nat → Int32) (rr : Nat → Nat) (Mr : Nat → Nat → Int32) (f4 : Nat → Int32) (f5 : Nat → Int32) (f6 : Nat → Int32) (f7 : Nat → Int32) (f8 : Nat → Int32) (k0 : Nat) (k1 : Nat) (k2 : Nat) (k3 : Nat) (k4 : Nat) (ta : Nat) (tb : Nat) (fx : Nat → Int32) (fu : Nat → Int32) (a1 : Int32) (a2 : Int32) (hvp : 0 ≤ vp.toInt ∧ vp.toInt ≤ 12) (hvn : 0 ≤ vn.toInt ∧ vn.toInt ≤ 40) (hnc : netC vp.toInt vn.toInt fs fe) (hpr : prng fs fe 40) (r_f7 : rng f7 12 (0) (11)) (r_f8 : rng f8 12 (0) (11)) (r_fk : rng fk 40 (0) (4)) (r_fw : rng fw 40 (0) (2000)) : Met l yX11_part wsX11_part ({ frames := 6, cells := 0, slots := 0, locals := 134 }) (va_Pc [.ref xo, .int a1, .int a2] (fun U => U.heap.size = sz ∧ va_P D vwCl [ob11_0_ xo xk xn xc xh xt xw xm xp pf ph tr fi, ob3_0_ xn vp vn n1 n2 n3 n4 n5, ai_ cy n1 40 fk, ai_ cy n2 40 fs, ai_ cy n3 40 fe, ai_ cy n4 40 fw, ai_ cy n5 40 fp, ob0_0_ xc xn xk clo cro c4 c5 c6 c7 c8, aq_ cy 6 clo 12 (gf_ rl), ai_ cy (rl 0) 12 (Ml 0), ai_ cy (rl 1) 12 (Ml 1), ai_ cy (rl 2) 12 (Ml 2), ai_ cy (rl 3) 12 (Ml 3), ai_ cy (rl 4) 12 (Ml 4), ai_ cy (rl 5) 12 (Ml 5), ai_ cy (rl 6) 12 (Ml 6), ai_ cy (rl 7) 12 (Ml 7), ai_ cy (rl 8) 12 (Ml 8), ai_ cy (rl 9) 12 (Ml 9), ai_ cy (rl 10) 12 (Ml 10), ai_ cy (rl 11) 12 (Ml 11), aq_ cy 6 cro 12 (gf_ rr), ai_ cy (rr 0) 12 (Mr 0), ai_ cy (rr 1) 12 (Mr 1), ai_ cy (rr 2) 12 (Mr 2), ai_ cy (rr 3) 12 (Mr 3), ai_ cy (rr 4) 12 (Mr 4), ai_ cy (rr 5) 12 (Mr 5), ai_ cy (rr 6) 12 (Mr 6), ai_ cy (rr 7) 12 (Mr 7), ai_ cy (rr 8) 12 (Mr 8), ai_ cy (rr 9) 12 (Mr 9), ai_ cy (rr 10) 12 (Mr 10), ai_ cy (rr 11) 12 (Mr 11), ai_ cy c4 40 f4, ai_ cy c5 40 f5, ai_ cy c6 40 f6, ai_ cy c7 12 f7, ai_ cy c8 12 f8, aq_ cy 3 xk 5 (kf_ k0 k1 k2 k3 k4), ob6_0_ k0, ob5_0_ k1, ob9_0_ k2, ob2_0_ k3, ob8_0_ k4, ob1_0_ xt xc ta tb, ai_ cy ta 12 fx, ai_ cy tb 12 fu] U.heap ∧ kg_ D cy U ∧ va_D (fun _ => True) [ob11_0_ xo xk xn xc xh xt xw xm xp pf ph tr fi, ob3_0_ xn vp vn n1 n2 n3 n4 n5, ai_ cy n1 40 fk, ai_ cy n2 40 fs, ai_ cy n3 40 fe, ai_ cy n4 40 fw, ai_ cy n5 40 fp, ob0_0_ xc xn xk clo cro c4 c5 c6 c7 c8, aq_ cy 6 clo 12 (gf_ rl), ai_ cy (rl 0) 12 (Ml 0), ai_ cy (rl 1) 12 (Ml 1), ai_ cy (rl 2) 12 (Ml 2), ai_ cy (rl 3) 12 (Ml 3), ai_ cy (rl 4) 12 (Ml 4), ai_ cy (rl 5) 12 (Ml 5), ai_ cy (rl 6) 12 (Ml 6), ai_ cy (rl 7) 12 (Ml 7), ai_ cy (rl 8) 12 (Ml 8), ai_ cy (rl 9) 12 (Ml 9), ai_ cy (rl 10) 12 (Ml 10), ai_ cy (rl 11) 12 (Ml 11), aq_ cy 6 cro 12 (gf_ rr), ai_ cy (rr 0) 12 (Mr 0), ai_ cy (rr 1) 12 (Mr 1), ai_ cy (rr 2) 12 (Mr 2), ai_ cy (rr 3) 12 (Mr 3), ai_ cy (rr 4) 12 (Mr 4), ai_ cy (rr 5) 12 (Mr 5), ai_ cy (rr 6) 12 (Mr 6), ai_ cy (rr 7) 12 (Mr 7), ai_ cy (rr 8) 12 (Mr 8), ai_ cy (rr 9) 12 (Mr 9), ai_ cy (rr 10) 12 (Mr 10), ai_ cy (rr 11) 12 (Mr 11), ai_ cy c4 40 f4, ai_ cy c5 40 f5, ai_ cy c6 40 f6, ai_ cy c7 12 f7, ai_ cy c8 12 f8, aq_ cy 3 xk 5 (kf_ k0 k1 k2 k3 k4), ob6_0_ k0, ob5_0_ k1, ob9_0_ k2, ob2_0_ k3, ob8_0_ k4, ob1_0_ xt xc ta tb, ai_ cy ta 12 fx, ai_ cy tb 12 fu])) (va_Qi (fun (r : Int32) (_ : Unit) => ((prI a1.toInt a2.toInt vp.toInt (sumI (bkF fk fs) vn.toNatClampNeg) = 0 → prA (lam (cutF fk fs fe fw (-9) vn.toNatClampNeg)) vp.toNatClampNeg a1.toInt a2 r) ∧ (prI a1.toInt a2.toInt vp.toInt (sumI (bkF fk fs) vn.toNatClampNeg) ≠ 0 → r.toInt = prI a1.toInt a2.toInt vp.toInt (sumI (bkF fk fs) vn.toNatClampNeg)))) (fun (_ : Unit) (t : State) => ∃ (eMl : Nat → Nat → Int32), ∃ (eMr : Nat → Nat → Int32), ∃ (e4 : Nat → Int32), ∃ (e5 : Nat → Int32), ∃ (e6 : Nat → Int32), ∃ (e7 : Nat → Int32), ∃ (e8 : Nat → Int32), ∃ (efx : Nat → Int32), ∃ (efu : Nat → Int32), (rng e7 12 (0) (11)) ∧ (rng e8 12 (0) (11)) ∧ va_P D vwCl [ob11_0_ xo xk xn xc xh xt xw xm xp pf ph tr fi, ob3_0_ xn vp vn n1 n2 n3 n4 n5, ai_ cy n1 40 fk, ai_ cy n2 40 fs, ai_ cy n3 40 fe, ai_ cy n4 40 fw, ai_ cy n5 40 fp, ob0_0_ xc xn xk clo cro c4 c5 c6 c7 c8, aq_ cy 6 clo 12 (gf_ rl), ai_ cy (rl 0) 12 (eMl 0), ai_ cy (rl 1) 12 (eMl 1), ai_ cy (rl 2) 12 (eMl 2), ai_ cy (rl 3) 12 (eMl 3), ai_ cy (rl 4) 12 (eMl 4), ai_ cy (rl 5) 12 (eMl 5), ai_ cy (rl 6) 12 (eMl 6), ai_ cy (rl 7) 12 (eMl 7), ai_ cy (rl 8) 12 (eMl 8), ai_ cy (rl 9) 12 (eMl 9), ai_ cy (rl 10) 12 (eMl 10), ai_ cy (rl 11) 12 (eMl 11), aq_ cy 6 cro 12 (gf_ rr), ai_ cy (rr 0) 12 (eMr 0), ai_ cy (rr 1) 12 (eMr 1), ai_ cy (rr 2) 12 (eMr 2), ai_ cy (rr 3) 12 (eMr 3), ai_ cy (rr 4) 12 (eMr 4), ai_ cy (rr 5) 12 (eMr 5), ai_ cy (rr 6) 12 (eMr 6), ai_ cy (rr 7) 12 (eMr 7), ai_ cy (rr 8) 12 (eMr 8), ai_ cy (rr 9) 12 (eMr 9), ai_ cy (rr 10) 12 (eMr 10), ai_ cy (rr 11) 12 (eMr 11), ai_ cy c4 40 e4, ai_ cy c5 40 e5, ai_ cy c6 40 e6, ai_ cy c7 12 e7, ai_ cy c8 12 e8, aq_ cy 3 xk 5 (kf_ k0 k1 k2 k3 k4), ob6_0_ k0, ob5_0_ k1, ob9_0_ k2, ob2_0_ k3, ob8_0_ k4, ob1_0_ xt xc ta tb, ai_ cy ta 12 efx, ai_ cy tb 12 efu] t.heap ∧ va_D (va_A [ob11_0_ xo xk xn xc xh xt xw xm xp pf ph tr fi, ob3_0_ xn vp vn n1 n2 n3 n4 n5, ai_ cy n1 40 fk, ai_ cy n2 40 fs, ai_ cy n3 40 fe, ai_ cy n4 40 fw, ai_ cy n5 40 fp, ob0_0_ xc xn xk clo cro c4 c5 c6 c7 c8, aq_ cy 6 clo 12 (gf_ rl), ai_ cy (rl 0) 12 (Ml 0), ai_ cy (rl 1) 12 (Ml 1), ai_ cy (rl 2) 12 (Ml 2), ai_ cy (rl 3) 12 (Ml 3), ai_ cy (rl 4) 12 (Ml 4), ai_ cy (rl 5) 12 (Ml 5), ai_ cy (rl 6) 12 (Ml 6), ai_ cy (rl 7) 12 (Ml 7), ai_ cy (rl 8) 12 (Ml 8), ai_ cy (rl 9) 12 (Ml 9), ai_ cy (rl 10) 12 (Ml 10), ai_ cy (rl 11) 12 (Ml 11), aq_ cy 6 cro 12 (gf_ rr), ai_ cy (rr 0) 12 (Mr 0), ai_ cy (rr 1) 12 (Mr 1), ai_ cy (rr 2) 12 (Mr 2), ai_ cy (rr 3) 12 (Mr 3), ai_ cy (rr 4) 12 (Mr 4), ai_ cy (rr 5) 12 (Mr 5), ai_ cy (rr 6) 12 (Mr 6), ai_ cy (rr 7) 12 (Mr 7), ai_ cy (rr 8) 12 (Mr 8), ai_ cy (rr 9) 12 (Mr 9), ai_ cy (rr 10) 12 (Mr 10), ai_ cy (rr 11) 12 (Mr 11), ai_ cy c4 40 f4, ai_ cy c5 40 f5, ai_ cy c6 40 f6, ai_ cy c7 12 f7, ai_ cy c8 12 f8, aq_ cy 3 xk 5 (kf_ k0 k1 k2 k3 k4), ob6_0_ k0, ob5_0_ k1, ob9_0_ k2, ob2_0_ k3, ob8_0_ k4, ob1_0_ xt xc ta tb, ai_ cy ta 12 fx, ai_ cy tb 12 fu] sz) [ob11_0_ xo xk xn xc xh xt xw xm xp pf ph tr fi, ob3_0_ xn vp vn n1 n2 n3 n4 n5, ai_ cy n1 40 fk, ai_ cy n2 40 fs, ai_ cy n3 40 fe, ai_ cy n4 40 fw, ai_ cy n5 40 fp, ob0_0_ xc xn xk clo cro c4 c5 c6 c7 c8, aq_ cy 6 clo 12 (gf_ rl), ai_ cy (rl 0) 12 (eMl 0), ai_ cy (rl 1) 12 (eMl 1), ai_ cy (rl 2) 12 (eMl 2), ai_ cy (rl 3) 12 (eMl 3), ai_ cy (rl 4) 12 (eMl 4), ai_ cy (rl 5) 12 (eMl 5), ai_ cy (rl 6) 12 (eMl 6), ai_ cy (rl 7) 12 (eMl 7), ai_ cy (rl 8) 12 (eMl 8), ai_ cy (rl 9) 12 (eMl 9), ai_ cy (rl 10) 12 (eMl 10), ai_ cy (rl 11) 12 (eMl 11), aq_ cy 6 cro 12 (gf_ rr), ai_ cy (rr 0) 12 (eMr 0), ai_ cy (rr 1) 12 (eMr 1), ai_ cy (rr 2) 12 (eMr 2), ai_ cy (rr 3) 12 (eMr 3), ai_ cy (rr 4) 12 (eMr 4), ai_ cy (rr 5) 12 (eMr 5), ai_ cy (rr 6) 12 (eMr 6), ai_ cy (rr 7) 12 (eMr 7), ai_ cy (rr 8) 12 (eMr 8), ai_ cy (rr 9) 12 (eMr 9), ai_ cy (rr 10) 12 (eMr 10), ai_ cy (rr 11) 12 (eMr 11), ai_ cy c4 40 e4, ai_ cy c5 40 e5, ai_ cy c6 40 e6, ai_ cy c7 12 e7, ai_ cy c8 12 e8, aq_ cy 3 xk 5 (kf_ k0 k1 k2 k3 k4), ob6_0_ k0, ob5_0_ k1, ob9_0_ k2, ob2_0_ k3, ob8_0_ k4, ob1_0_ xt xc ta tb, ai_ cy ta 12 efx, ai_ cy tb 12 efu]) (va_A [ob11_0_ xo xk xn xc xh xt xw xm xp pf ph tr fi, ob3_0_ xn vp vn n1 n2 n3 n4 n5, ai_ cy n1 40 fk, ai_ cy n2 40 fs, ai_ cy n3 40 fe, ai_ cy n4 40 fw, ai_ cy n5 40 fp, ob0_0_ xc xn xk clo cro c4 c5 c6 c7 c8, aq_ cy 6 clo 12 (gf_ rl), ai_ cy (rl 0) 12 (Ml 0), ai_ cy (rl 1) 12 (Ml 1), ai_ cy (rl 2) 12 (Ml 2), ai_ cy (rl 3) 12 (Ml 3), ai_ cy (rl 4) 12 (Ml 4), ai_ cy (rl 5) 12 (Ml 5), ai_ cy (rl 6) 12 (Ml 6), ai_ cy (rl 7) 12 (Ml 7), ai_ cy (rl 8) 12 (Ml 8), ai_ cy (rl 9) 12 (Ml 9), ai_ cy (rl 10) 12 (Ml 10), ai_ cy (rl 11) 12 (Ml 11), aq_ cy 6 cro 12 (gf_ rr), ai_ cy (rr 0) 12 (Mr 0), ai_ cy (rr 1) 12 (Mr 1), ai_ cy (rr 2) 12 (Mr 2), ai_ cy (rr 3) 12 (Mr 3), ai_ cy (rr 4) 12 (Mr 4), ai_ cy (rr 5) 12 (Mr 5), ai_ cy (rr 6) 12 (Mr 6), ai_ cy (rr 7) 12 (Mr 7), ai_ cy (rr 8) 12 (Mr 8), ai_ cy (rr 9) 12 (Mr 9), ai_ cy (rr 10) 12 (Mr 10), ai_ cy (rr 11) 12 (Mr 11), ai_ cy c4 40 f4, ai_ cy c5 40 f5, ai_ cy c6 40 f6, ai_ cy c7 12 f7, ai_ cy c8 12 f8, aq_ cy 3 xk 5 (kf_ k0 k1 k2 k3 k4), ob6_0_ k0, ob5_0_ k1, ob9_0_ k2, ob2_0_ k3, ob8_0_ k4, ob1_0_ xt xc ta tb, ai_ cy ta 12 fx, ai_ cy tb 12 fu] sz)) 0 0 (va_A [ob11_0_ xo xk xn xc xh xt xw xm xp pf ph tr fi, ob3_0_ xn vp vn n1 n2 n3 n4 n5, ai_ cy n1 40 fk, ai_ cy n2 40 fs, ai_ cy n3 40 fe, ai_ cy n4 40 fw, ai_ cy n5 40 fp, ob0_0_ xc xn xk clo cro c4 c5 c6 c7 c8, aq_ cy 6 clo 12 (gf_ rl), ai_ cy (rl 0) 12 (Ml 0), ai_ cy (rl 1) 12 (Ml 1), ai_ cy (rl 2) 12 (Ml 2), ai_ cy (rl 3) 12 (Ml 3), ai_ cy (rl 4) 12 (Ml 4), ai_ cy (rl 5) 12 (Ml 5), ai_ cy (rl 6) 12 (Ml 6), ai_ cy (rl 7) 12 (Ml 7), ai_ cy (rl 8) 12 (Ml 8), ai_ cy (rl 9) 12 (Ml 9), ai_ cy (rl 10) 12 (Ml 10), ai_ cy (rl 11) 12 (Ml 11), aq_ cy 6 cro 12 (gf_ rr), ai_ cy (rr 0) 12 (Mr 0), ai_ cy (rr 1) 12 (Mr 1), ai_ cy (rr 2) 12 (Mr 2), ai_ cy (rr 3) 12 (Mr 3), ai_ cy (rr 4) 12 (Mr 4), ai_ cy (rr 5) 12 (Mr 5), ai_ cy (rr 6) 12 (Mr 6), ai_ cy (rr 7) 12 (Mr 7), ai_ cy (rr 8) 12 (Mr 8), ai_ cy (rr 9) 12 (Mr 9), ai_ cy (rr 10) 12 (Mr 10), ai_ cy (rr 11) 12 (Mr 11), ai_ cy c4 40 f4, ai_ cy c5 40 f5, ai_ cy c6 40 f6, ai_ cy c7 12 f7, ai_ cy c8 12 f8, aq_ cy 3 xk 5 (kf_ k0 k1 k2 k3 k4), ob6_0_ k0, ob5_0_ k1, ob9_0_ k2, ob2_0_ k3, ob8_0_ k4, ob1_0_ xt xc ta tb, ai_ cy ta 12 fx, ai_ cy tb 12 fu] sz) := by
  refine ofQ (cc := cX11_part) (maxL := 3) (ret := (some .int)) (by decide) rfl ?_
  intro p e s m args below meth c s₁ Q hQ B hml hv
  obtain ⟨rfl, hsz, hP, hK, hD0⟩ := hv
  have hG := hK.2
  have hK := hK.1
  have hx := B.exec
  have hb := B.bytes
  have hr := B.returns
  have hts := atoms_spec (ws := wsX11_part) B.pre
  have hown : s.vm.findClass RX11 = some m.cls := by have h_ := findClass_of_methodNamed B.named; exact h_
  have hlocks := B.notSynchronized
  subst hsz
  have hD := hD0.self (sz := s.heap.size)
  generalize hAe : va_A [ob11_0_ xo xk xn xc xh xt xw xm xp pf ph tr fi, ob3_0_ xn vp vn n1 n2 n3 n4 n5, ai_ cy n1 40 fk, ai_ cy n2 40 fs, ai_ cy n3 40 fe, ai_ cy n4 40 fw, ai_ cy n5 40 fp, ob0_0_ xc xn xk clo cro c4 c5 c6 c7 c8, aq_ cy 6 clo 12 (gf_ rl), ai_ cy (rl 0) 12 (Ml 0), ai_ cy (rl 1) 12 (Ml 1), ai_ cy (rl 2) 12 (Ml 2), ai_ cy (rl 3) 12 (Ml 3), ai_ cy (rl 4) 12 (Ml 4), ai_ cy (rl 5) 12 (Ml 5), ai_ cy (rl 6) 12 (Ml 6), ai_ cy (rl 7) 12 (Ml 7), ai_ cy (rl 8) 12 (Ml 8), ai_ cy (rl 9) 12 (Ml 9), ai_ cy (rl 10) 12 (Ml 10), ai_ cy (rl 11) 12 (Ml 11), aq_ cy 6 cro 12 (gf_ rr), ai_ cy (rr 0) 12 (Mr 0), ai_ cy (rr 1) 12 (Mr 1), ai_ cy (rr 2) 12 (Mr 2), ai_ cy (rr 3) 12 (Mr 3), ai_ cy (rr 4) 12 (Mr 4), ai_ cy (rr 5) 12 (Mr 5), ai_ cy (rr 6) 12 (Mr 6), ai_ cy (rr 7) 12 (Mr 7), ai_ cy (rr 8) 12 (Mr 8), ai_ cy (rr 9) 12 (Mr 9), ai_ cy (rr 10) 12 (Mr 10), ai_ cy (rr 11) 12 (Mr 11), ai_ cy c4 40 f4, ai_ cy c5 40 f5, ai_ cy c6 40 f6, ai_ cy c7 12 f7, ai_ cy c8 12 f8, aq_ cy 3 xk 5 (kf_ k0 k1 k2 k3 k4), ob6_0_ k0, ob5_0_ k1, ob9_0_ k2, ob2_0_ k3, ob8_0_ k4, ob1_0_ xt xc ta tb, ai_ cy ta 12 fx, ai_ cy tb 12 fu] s.heap.size = A at hD hQ
  have hA : ∀ q : Nat, s.heap.size ≤ q → A q := fun q h => by rw [← hAe]; exact Or.inr h
  have hS : va_S A s.heap s.heap [] := va_S.rf
  have hl := lv_entry ([.ref xo, .int a1, .int a2]) (n := 3) (Nat.le_of_ble_eq_true rfl)
  rw [lg_entry_eq]
  generalize (lg_sl ([.ref xo, .int a1, .int a2]) ++ List.replicate (3 - (lg_sl ([.ref xo, .int a1, .int a2])).length) Slot.unset).toArray = ls at hl ⊢
  have hl : lv_has ls 3 [(0, .ref xo), (1, .int a1), (2, .int a2)] := hl
  have zm2 : ((-2) : Int32).toInt = -2 := by decide
  have zm1 : ((-1) : Int32).toInt = -1 := by decide
  have z0 : (0 : Int32).toInt = 0 := by decide
  have zq0 : (0 : Int32).toInt = 0 := by decide
  have zq1 : (1 : Int32).toInt = 1 := by decide
  have zq2 : (2 : Int32).toInt = 2 := by decide
  have zq3 : (3 : Int32).toInt = 3 := by decide
  have zq4 : (4 : Int32).toInt = 4 := by decide
  have zq5 : (5 : Int32).toInt = 5 := by decide
  have zqm9 : ((-9) : Int32).toInt = -9 := by decide
  have zqm1 : ((-1) : Int32).toInt = -1 := by decide
  have zqm2 : ((-2) : Int32).toInt = -2 := by decide
  have cv_ := clI (i := vp) (by omega)
  refine lv_iload_n hx hb dB_36_3_42.1.1.1.1 rfl (lv_at hl 1 rfl) ?_
  refine lv_if_ge (tgt := 6) hx hb dB_36_3_42.1.1.1.2 (by decide) (fun c_1 => ?_) (fun c_1 => ?_)
  · have t_1 : (0 : Int32).toInt ≤ a1.toInt := Int32.le_iff_toInt_le.mp c_1
    refine lv_aload_n hx hb dB_36_3_42.1.2.1.1 rfl (lv_at hl 0 rfl) ?_
    refine va_get (ci := 11) (v := .ref xn) (C := RX11) (T := TX11) (N := 12) hx hb hts (fun _ h => List.mem_cons_of_mem _ (List.mem_append_left _ (List.mem_append_left _ (List.mem_append_left _ (List.mem_append_right _ h))))) hown hK.1 hP 0 rfl rfl 1 (by decide) (hts (.fieldLink RX11 31 "CutAtlas" "net" "LCutAtlas$Net;") (List.mem_of_getElem? (i := 1) rfl)) (fun _ h9 => h9) rfl dB_36_3_42.1.2.1.2 ?_
    refine ct_R hP hD [ob3_0_ xn vp vn n1 n2 n3 n4 n5, ai_ cy n1 40 fk, ai_ cy n2 40 fs] [1, 2, 3] (by decide) rfl (fun hPc hDw => ?_)
    have hFc := va_free (wc := []) hD hS hA [] rfl
    refine va_calli (va_runV (As := []) (rest := []) ⟨hx, hb, hml, hown, hts⟩ (c_X3_isWhole2 l D cy s.heap.size xn n1 n2 n3 n4 n5 vp vn fk fs (by first | with_reducible assumption | omega | assumption)) (cwV 0 hts gX11_part_X3_isWhole rfl rfl rfl ⟨rfl, hd_X3_isWhole⟩ ⟨Nat.le_of_ble_eq_true rfl, Nat.le_of_ble_eq_true rfl⟩) ⟨bl_, va_recvX hK.1 hP (ci := 3) (q0 := 1) rfl rfl, fun U hU hW => ⟨rfl, by rw [hU], by rw [hU]; exact hPc, kk_mv hW hK, hDw⟩⟩ rfl rfl hl.1 rfl (lv_room (Nat.le_of_ble_eq_true rfl)) dB_36_3_42.1.2.2.1 ⟨Nat.le_of_ble_eq_true rfl, Nat.le_of_ble_eq_true rfl⟩) hS (fun q _ h => hFc q h) hFc (fun r_2 u t H locs ht hvm hw hB hz1 hk1 hS => ?_)
    have hP : va_P D vwCl _ H := ro_keep hP hk1
    obtain ⟨f0_r_2, f1_r_2⟩ := hw
    have hw1_ := f1_r_2
    refine lv_if_ne (tgt := 19) hx hb dB_36_3_42.1.2.2.2 (by decide) (fun c_3 => ?_) (fun c_3 => ?_)
    · have t_3 : ¬ r_2.toInt = (0 : Int32).toInt := fun h => c_3 (Int32.toInt_inj.mp h)
      have hwb_ := whI_1 (P := vp.toInt) (c := sumI (bkF fk fs) vn.toNatClampNeg) (by omega)
      have hwi_ := hwb_.2
      refine lv_iload_n hx hb dB_36_3_42.2.1.2.1 rfl (lv_at hl 2 rfl) ?_
      refine lv_iconst (v := (-1)) hx hb dB_36_3_42.2.1.2.2 (by decide) ?_
      refine lv_icmp_eq (tgt := 38) hx hb dB_36_3_42.2.2.1.1 (by decide) (fun c_4 => ?_) (fun c_4 => ?_)
      · have t_4 : a2.toInt = ((-1) : Int32).toInt := congrArg Int32.toInt c_4
        have hpr0_ : prI a1.toInt a2.toInt vp.toInt (sumI (bkF fk fs) vn.toNatClampNeg) = 0 := by unfold prI; (repeat' (first | with_reducible refine if_n (by omega) ?_ | with_reducible refine if_ns (by omega) ?_ | with_reducible refine if_nz (by omega) ?_ | with_reducible exact if_p (by omega) (by omega) | with_reducible exact if_ps (by omega) (by omega) | with_reducible exact if_pz (by omega) (by omega))) <;> omega
        refine lv_aload_n hx hb dB_36_3_43.1.2.1.2 rfl (lv_at hl 0 rfl) ?_
        refine va_get (ci := 11) (v := .ref xt) (C := RX11) (T := TX11) (N := 12) hx hb hts (fun _ h => List.mem_cons_of_mem _ (List.mem_append_left _ (List.mem_append_left _ (List.mem_append_left _ (List.mem_append_right _ h))))) hown hK.1 hP 0 rfl rfl 4 (by decide) (hts (.fieldLink RX11 56 "CutAtlas" "cutTree" "LCutAtlas$CutTree;") (List.mem_of_getElem? (i := 2) rfl)) (fun _ h9 => h9) rfl dB_36_3_43.1.2.2.1 ?_
        refine ct_S hP hD hS hA [ob1_0_ xt xc ta tb, ob0_0_ xc xn xk clo cro c4 c5 c6 c7 c8, ob3_0_ xn vp vn n1 n2 n3 n4 n5, ai_ cy ta 12 fx, ai_ cy tb 12 fu, ai_ cy n1 40 fk, ai_ cy n2 40 fs, ai_ cy n3 40 fe, ai_ cy n4 40 fw, aq_ cy 6 clo 12 (gf_ rl), ai_ cy (rl 0) 12 (Ml 0), ai_ cy (rl 1) 12 (Ml 1), ai_ cy (rl 2) 12 (Ml 2), ai_ cy (rl 3) 12 (Ml 3), ai_ cy (rl 4) 12 (Ml 4), ai_ cy (rl 5) 12 (Ml 5), ai_ cy (rl 6) 12 (Ml 6), ai_ cy (rl 7) 12 (Ml 7), ai_ cy (rl 8) 12 (Ml 8), ai_ cy (rl 9) 12 (Ml 9), ai_ cy (rl 10) 12 (Ml 10), ai_ cy (rl 11) 12 (Ml 11), aq_ cy 6 cro 12 (gf_ rr), ai_ cy (rr 0) 12 (Mr 0), ai_ cy (rr 1) 12 (Mr 1), ai_ cy (rr 2) 12 (Mr 2), ai_ cy (rr 3) 12 (Mr 3), ai_ cy (rr 4) 12 (Mr 4), ai_ cy (rr 5) 12 (Mr 5), ai_ cy (rr 6) 12 (Mr 6), ai_ cy (rr 7) 12 (Mr 7), ai_ cy (rr 8) 12 (Mr 8), ai_ cy (rr 9) 12 (Mr 9), ai_ cy (rr 10) 12 (Mr 10), ai_ cy (rr 11) 12 (Mr 11), ai_ cy c4 40 f4, ai_ cy c5 40 f5, ai_ cy c6 40 f6, ai_ cy c7 12 f7, ai_ cy c8 12 f8, aq_ cy 3 xk 5 (kf_ k0 k1 k2 k3 k4), ob6_0_ k0, ob5_0_ k1, ob9_0_ k2, ob2_0_ k3, ob8_0_ k4] [45, 7, 1, 46, 47, 2, 3, 4, 5, 8, 9, 10, 11, 12, 13, 14, 15, 16, 17, 18, 19, 20, 21, 22, 23, 24, 25, 26, 27, 28, 29, 30, 31, 32, 33, 34, 35, 36, 37, 38, 39, 40, 41, 42, 43, 44] (by decide +kernel) rfl (fun hPc hDw hFc hC_ => ?_)
        refine va_callv (va_runV (As := []) (rest := []) ⟨hx, hb, hml, hown, hts⟩ (c_X1_grow2 l D cy H.size xt ta tb xc xk clo cro c4 c5 c6 c7 c8 xn n1 n2 n3 n4 n5 vp vn fx fu fk fs fe fw rl Ml rr Mr f4 f5 f6 f7 f8 k0 k1 k2 k3 k4 (by first | with_reducible assumption | omega | assumption) (by first | with_reducible assumption | omega | assumption) (by first | with_reducible assumption | assumption | omega) (by first | with_reducible assumption | omega | assumption) (by first | with_reducible assumption | assumption | omega) (by first | with_reducible assumption | assumption | omega) (by first | with_reducible assumption | assumption | omega) (by first | with_reducible assumption | assumption | omega) (by first | with_reducible assumption | assumption | omega)) (cwV 0 hts gX11_part_X1_grow rfl rfl rfl ⟨rfl, hd_X1_grow⟩ ⟨Nat.le_of_ble_eq_true rfl, Nat.le_of_ble_eq_true rfl⟩) ⟨bl_g, va_recvX hK.1 hP (ci := 1) (q0 := 45) rfl rfl, fun U hU hW => ⟨rfl, by rw [hU], by rw [hU]; exact hPc, ⟨kk_mv hW hK, arrOfT_moved hW.alike hG⟩, hDw⟩⟩ rfl rfl hl.1 rfl (lv_room (Nat.le_of_ble_eq_true rfl)) dB_36_3_43.1.2.2.2 ⟨Nat.le_of_ble_eq_true rfl, Nat.le_of_ble_eq_true rfl⟩) hS (fun q _ h => hFc q h) hFc (fun u t H locs ht hvm hw hB hz1 hk1 hS => ?_)
        obtain ⟨eMr_6, efx_7, efu_8, e4_9, e7_10, e8_11, eMl_12, e5_13, e6_14, g_15, g_16, g_17, g_18, g_19, g_20, g_21, hP1, hD1⟩ := hB
        rw [ht] at hP1
        obtain ⟨hP, hD⟩ := va_join (wr := [ob11_0_ xo xk xn xc xh xt xw xm xp pf ph tr fi, ai_ cy n5 40 fp]) (w1 := [ob1_0_ xt xc ta tb, ob0_0_ xc xn xk clo cro c4 c5 c6 c7 c8, ob3_0_ xn vp vn n1 n2 n3 n4 n5, ai_ cy ta 12 efx_7, ai_ cy tb 12 efu_8, ai_ cy n1 40 fk, ai_ cy n2 40 fs, ai_ cy n3 40 fe, ai_ cy n4 40 fw, aq_ cy 6 clo 12 (gf_ rl), ai_ cy (rl 0) 12 (eMl_12 0), ai_ cy (rl 1) 12 (eMl_12 1), ai_ cy (rl 2) 12 (eMl_12 2), ai_ cy (rl 3) 12 (eMl_12 3), ai_ cy (rl 4) 12 (eMl_12 4), ai_ cy (rl 5) 12 (eMl_12 5), ai_ cy (rl 6) 12 (eMl_12 6), ai_ cy (rl 7) 12 (eMl_12 7), ai_ cy (rl 8) 12 (eMl_12 8), ai_ cy (rl 9) 12 (eMl_12 9), ai_ cy (rl 10) 12 (eMl_12 10), ai_ cy (rl 11) 12 (eMl_12 11), aq_ cy 6 cro 12 (gf_ rr), ai_ cy (rr 0) 12 (eMr_6 0), ai_ cy (rr 1) 12 (eMr_6 1), ai_ cy (rr 2) 12 (eMr_6 2), ai_ cy (rr 3) 12 (eMr_6 3), ai_ cy (rr 4) 12 (eMr_6 4), ai_ cy (rr 5) 12 (eMr_6 5), ai_ cy (rr 6) 12 (eMr_6 6), ai_ cy (rr 7) 12 (eMr_6 7), ai_ cy (rr 8) 12 (eMr_6 8), ai_ cy (rr 9) 12 (eMr_6 9), ai_ cy (rr 10) 12 (eMr_6 10), ai_ cy (rr 11) 12 (eMr_6 11), ai_ cy c4 40 e4_9, ai_ cy c5 40 e5_13, ai_ cy c6 40 e6_14, ai_ cy c7 12 e7_10, ai_ cy c8 12 e8_11, aq_ cy 3 xk 5 (kf_ k0 k1 k2 k3 k4), ob6_0_ k0, ob5_0_ k1, ob9_0_ k2, ob2_0_ k3, ob8_0_ k4]) hP hD [45, 7, 1, 46, 47, 2, 3, 4, 5, 8, 9, 10, 11, 12, 13, 14, 15, 16, 17, 18, 19, 20, 21, 22, 23, 24, 25, 26, 27, 28, 29, 30, 31, 32, 33, 34, 35, 36, 37, 38, 39, 40, 41, 42, 43, 44] [0, 6] hC_ rfl (by decide) (by decide) hk1 hFc hP1 hD1
        refine pd_S hP hD [ob11_0_ xo xk xn xc xh xt xw xm xp pf ph tr fi, ob3_0_ xn vp vn n1 n2 n3 n4 n5, ai_ cy n1 40 fk, ai_ cy n2 40 fs, ai_ cy n3 40 fe, ai_ cy n4 40 fw, ai_ cy n5 40 fp, ob0_0_ xc xn xk clo cro c4 c5 c6 c7 c8, aq_ cy 6 clo 12 (gf_ rl), ai_ cy (rl 0) 12 (eMl_12 0), ai_ cy (rl 1) 12 (eMl_12 1), ai_ cy (rl 2) 12 (eMl_12 2), ai_ cy (rl 3) 12 (eMl_12 3), ai_ cy (rl 4) 12 (eMl_12 4), ai_ cy (rl 5) 12 (eMl_12 5), ai_ cy (rl 6) 12 (eMl_12 6), ai_ cy (rl 7) 12 (eMl_12 7), ai_ cy (rl 8) 12 (eMl_12 8), ai_ cy (rl 9) 12 (eMl_12 9), ai_ cy (rl 10) 12 (eMl_12 10), ai_ cy (rl 11) 12 (eMl_12 11), aq_ cy 6 cro 12 (gf_ rr), ai_ cy (rr 0) 12 (eMr_6 0), ai_ cy (rr 1) 12 (eMr_6 1), ai_ cy (rr 2) 12 (eMr_6 2), ai_ cy (rr 3) 12 (eMr_6 3), ai_ cy (rr 4) 12 (eMr_6 4), ai_ cy (rr 5) 12 (eMr_6 5), ai_ cy (rr 6) 12 (eMr_6 6), ai_ cy (rr 7) 12 (eMr_6 7), ai_ cy (rr 8) 12 (eMr_6 8), ai_ cy (rr 9) 12 (eMr_6 9), ai_ cy (rr 10) 12 (eMr_6 10), ai_ cy (rr 11) 12 (eMr_6 11), ai_ cy c4 40 e4_9, ai_ cy c5 40 e5_13, ai_ cy c6 40 e6_14, ai_ cy c7 12 e7_10, ai_ cy c8 12 e8_11, aq_ cy 3 xk 5 (kf_ k0 k1 k2 k3 k4), ob6_0_ k0, ob5_0_ k1, ob9_0_ k2, ob2_0_ k3, ob8_0_ k4, ob1_0_ xt xc ta tb, ai_ cy ta 12 efx_7, ai_ cy tb 12 efu_8] [0, 4, 7, 8, 9, 10, 1, 3, 11, 12, 13, 14, 15, 16, 17, 18, 19, 20, 21, 22, 23, 24, 25, 26, 27, 28, 29, 30, 31, 32, 33, 34, 35, 36, 37, 38, 39, 40, 41, 42, 43, 44, 45, 46, 47, 2, 5, 6] (by decide +kernel) rfl (fun hP hD => ?_)
        obtain ⟨d_, hd_⟩ := g_15
        have hwc_ : whC (cutF fk fs fe fw (-9) vn.toNatClampNeg) vp.toNatClampNeg := whF hnc hpr r_fw hvn.2 hwi_
        have hlt_ : ltr (lam (cutF fk fs fe fw (-9) vn.toNatClampNeg)) vp.toNatClampNeg (nF efx_7) (qF_ efu_8) d_ := ltr_of hwc_ (by omega) hd_ g_16
        refine lv_iload_n hx hb dB_36_3_43.2.1.1.1 rfl (lv_at hl 2 rfl) ?_
        refine lv_iconst (v := (-1)) hx hb dB_36_3_43.2.1.1.2 (by decide) ?_
        refine lv_icmp_ne (tgt := 66) hx hb dB_36_3_43.2.1.2.1 (by decide) (fun c_22 => ?_) (fun c_22 => ?_)
        · have t_22 : ¬ a2.toInt = ((-1) : Int32).toInt := fun h => c_22 (Int32.toInt_inj.mp h)
          exfalso; omega
        · have t_22 : a2.toInt = ((-1) : Int32).toInt := congrArg Int32.toInt c_22
          refine lv_aload_n hx hb dB_36_3_43.2.1.2.2 rfl (lv_at hl 0 rfl) ?_
          refine va_get (ci := 11) (v := .ref xt) (C := RX11) (T := TX11) (N := 12) hx hb hts (fun _ h => List.mem_cons_of_mem _ (List.mem_append_left _ (List.mem_append_left _ (List.mem_append_left _ (List.mem_append_right _ h))))) hown hK.1 hP 0 rfl rfl 4 (by decide) (hts (.fieldLink RX11 56 "CutAtlas" "cutTree" "LCutAtlas$CutTree;") (List.mem_of_getElem? (i := 2) rfl)) (fun _ h9 => h9) rfl dB_36_3_43.2.2.1.1 ?_
          refine lv_iload_n hx hb dB_36_3_43.2.2.1.2 rfl (lv_at hl 1 rfl) ?_
          refine lv_aload_n hx hb dB_36_3_43.2.2.2.1 rfl (lv_at hl 0 rfl) ?_
          refine va_get (ci := 11) (v := .ref xn) (C := RX11) (T := TX11) (N := 12) hx hb hts (fun _ h => List.mem_cons_of_mem _ (List.mem_append_left _ (List.mem_append_left _ (List.mem_append_left _ (List.mem_append_right _ h))))) hown hK.1 hP 0 rfl rfl 1 (by decide) (hts (.fieldLink RX11 31 "CutAtlas" "net" "LCutAtlas$Net;") (List.mem_of_getElem? (i := 1) rfl)) (fun _ h9 => h9) rfl dB_36_3_43.2.2.2.2 ?_
          refine va_get (ci := 3) (v := .int vp) (C := RX3) (T := TX3) (N := 7) hx hb hts (fun _ h => List.mem_cons_of_mem _ (List.mem_append_left _ (List.mem_append_left _ (List.mem_append_right _ h)))) hown hK.1 hP 1 rfl rfl 0 (by decide) (hts (.fieldLink RX11 94 "CutAtlas$Net" "places" "I") (List.mem_of_getElem? (i := 3) rfl)) (fun _ h9 => h9) rfl dB_36_3_44.1.1.1 ?_
          refine ct_R hP hD [ob1_0_ xt xc ta tb, ai_ cy ta 12 efx_7, ai_ cy tb 12 efu_8] [45, 46, 47] (by decide) rfl (fun hPc hDw => ?_)
          have hFc := va_free (wc := []) hD hS hA [] rfl
          refine va_calli (va_runV (As := [.int a1, .int vp]) (rest := []) ⟨hx, hb, hml, hown, hts⟩ (c_X1_partsBelow2 l D cy H.size xt xc ta tb efx_7 d_ (lam (cutF fk fs fe fw (-9) vn.toNatClampNeg)) vp.toNatClampNeg efu_8 a1 vp (by first | with_reducible assumption | assumption | omega) (by first | with_reducible assumption | omega | assumption) (by first | with_reducible assumption | assumption | omega) (by first | with_reducible assumption | assumption | omega)) (cwV 2 hts gX11_part_X1_partsBelow rfl rfl rfl ⟨rfl, hd_X1_partsBelow⟩ ⟨Nat.le_of_ble_eq_true rfl, Nat.le_of_ble_eq_true rfl⟩) ⟨bl_, va_recvX hK.1 hP (ci := 1) (q0 := 45) rfl rfl, fun U hU hW => ⟨rfl, by rw [hU], by rw [hU]; exact hPc, kk_mv hW hK, hDw⟩⟩ rfl rfl hl.1 rfl (lv_room (Nat.le_of_ble_eq_true rfl)) dB_36_3_44.1.1.2.1 ⟨Nat.le_of_ble_eq_true rfl, Nat.le_of_ble_eq_true rfl⟩) hS (fun q _ h => hFc q h) hFc (fun r_23 u t H locs ht hvm hw hB hz1 hk1 hS => ?_)
          have hP : va_P D vwCl _ H := ro_keep hP hk1
          have f0_r_23 := hw
          rw [hQ]
          exact W.iret (v := r_23) hx hb hr (fun t ht hW => ⟨⟨r_23, (), rfl, (⟨fun _ => ⟨fun _ => f0_r_23, fun h => absurd (by omega) h⟩, fun h => absurd hpr0_ h⟩), eMl_12, eMr_6, e4_9, e5_13, e6_14, e7_10, e8_11, efx_7, efu_8, (by first | with_reducible assumption | assumption | exact rng_zero (by omega) (by omega) | omega), (by first | with_reducible assumption | assumption | exact rng_zero (by omega) (by omega) | omega), by rw [ht]; exact hP, hD⟩, hS.F ht⟩) hS.2.2 dB_36_3_44.1.1.2.2
      · have t_4 : ¬ a2.toInt = ((-1) : Int32).toInt := fun h => c_4 (Int32.toInt_inj.mp h)
        refine lv_aload_n hx hb dB_36_3_42.2.2.1.2 rfl (lv_at hl 0 rfl) ?_
        refine va_get (ci := 11) (v := .ref xn) (C := RX11) (T := TX11) (N := 12) hx hb hts (fun _ h => List.mem_cons_of_mem _ (List.mem_append_left _ (List.mem_append_left _ (List.mem_append_left _ (List.mem_append_right _ h))))) hown hK.1 hP 0 rfl rfl 1 (by decide) (hts (.fieldLink RX11 31 "CutAtlas" "net" "LCutAtlas$Net;") (List.mem_of_getElem? (i := 1) rfl)) (fun _ h9 => h9) rfl dB_36_3_42.2.2.2.1 ?_
        refine lv_iload_n hx hb dB_36_3_42.2.2.2.2 rfl (lv_at hl 2 rfl) ?_
        refine lv_i2l (v := a2.toInt64) hx hb dB_36_3_43.1.1.1.1 rfl ?_
        have q_29 : (a2.toInt64).toInt = a2.toInt := Int32.toInt_toInt64 a2
        refine ct_R hP hD [ob3_0_ xn vp vn n1 n2 n3 n4 n5] [1] (by decide) rfl (fun hPc hDw => ?_)
        have hFc := va_free (wc := []) hD hS hA [] rfl
        refine va_calli (va_runV (As := [.long a2.toInt64]) (rest := []) ⟨hx, hb, hml, hown, hts⟩ (c_X3_hasPlace l D cy H.size xn n1 n2 n3 n4 n5 vp vn a2.toInt64) (cwV 1 hts gX11_part_X3_hasPlace rfl rfl rfl ⟨rfl, hd_X3_hasPlace⟩ ⟨Nat.le_of_ble_eq_true rfl, Nat.le_of_ble_eq_true rfl⟩) ⟨bl_, va_recvX hK.1 hP (ci := 3) (q0 := 1) rfl rfl, fun U hU hW => ⟨rfl, by rw [hU], by rw [hU]; exact hPc, kk_mv hW hK, hDw⟩⟩ rfl rfl hl.1 rfl (lv_room (Nat.le_of_ble_eq_true rfl)) dB_36_3_43.1.1.1.2 ⟨Nat.le_of_ble_eq_true rfl, Nat.le_of_ble_eq_true rfl⟩) hS (fun q _ h => hFc q h) hFc (fun r_24 u t H locs ht hvm hw hB hz1 hk1 hS => ?_)
        have hP : va_P D vwCl _ H := ro_keep hP hk1
        rcases hw with ⟨w_25, e_⟩ | ⟨w_25, e_⟩
        · have e_ := e_.symm
          subst e_
          refine lv_if_ne (tgt := 38) hx hb dB_36_3_43.1.1.2.1 (by decide) (fun c_26 => ?_) (fun c_26 => ?_)
          · have _ := c_26
            have hpr0_ : prI a1.toInt a2.toInt vp.toInt (sumI (bkF fk fs) vn.toNatClampNeg) = 0 := by unfold prI; (repeat' (first | with_reducible refine if_n (by omega) ?_ | with_reducible refine if_ns (by omega) ?_ | with_reducible refine if_nz (by omega) ?_ | with_reducible exact if_p (by omega) (by omega) | with_reducible exact if_ps (by omega) (by omega) | with_reducible exact if_pz (by omega) (by omega))) <;> omega
            refine lv_aload_n hx hb dB_36_3_43.1.2.1.2 rfl (lv_at hl 0 rfl) ?_
            refine va_get (ci := 11) (v := .ref xt) (C := RX11) (T := TX11) (N := 12) hx hb hts (fun _ h => List.mem_cons_of_mem _ (List.mem_append_left _ (List.mem_append_left _ (List.mem_append_left _ (List.mem_append_right _ h))))) hown hK.1 hP 0 rfl rfl 4 (by decide) (hts (.fieldLink RX11 56 "CutAtlas" "cutTree" "LCutAtlas$CutTree;") (List.mem_of_getElem? (i := 2) rfl)) (fun _ h9 => h9) rfl dB_36_3_43.1.2.2.1 ?_
            refine ct_S hP hD hS hA [ob1_0_ xt xc ta tb, ob0_0_ xc xn xk clo cro c4 c5 c6 c7 c8, ob3_0_ xn vp vn n1 n2 n3 n4 n5, ai_ cy ta 12 fx, ai_ cy tb 12 fu, ai_ cy n1 40 fk, ai_ cy n2 40 fs, ai_ cy n3 40 fe, ai_ cy n4 40 fw, aq_ cy 6 clo 12 (gf_ rl), ai_ cy (rl 0) 12 (Ml 0), ai_ cy (rl 1) 12 (Ml 1), ai_ cy (rl 2) 12 (Ml 2), ai_ cy (rl 3) 12 (Ml 3), ai_ cy (rl 4) 12 (Ml 4), ai_ cy (rl 5) 12 (Ml 5), ai_ cy (rl 6) 12 (Ml 6), ai_ cy (rl 7) 12 (Ml 7), ai_ cy (rl 8) 12 (Ml 8), ai_ cy (rl 9) 12 (Ml 9), ai_ cy (rl 10) 12 (Ml 10), ai_ cy (rl 11) 12 (Ml 11), aq_ cy 6 cro 12 (gf_ rr), ai_ cy (rr 0) 12 (Mr 0), ai_ cy (rr 1) 12 (Mr 1), ai_ cy (rr 2) 12 (Mr 2), ai_ cy (rr 3) 12 (Mr 3), ai_ cy (rr 4) 12 (Mr 4), ai_ cy (rr 5) 12 (Mr 5), ai_ cy (rr 6) 12 (Mr 6), ai_ cy (rr 7) 12 (Mr 7), ai_ cy (rr 8) 12 (Mr 8), ai_ cy (rr 9) 12 (Mr 9), ai_ cy (rr 10) 12 (Mr 10), ai_ cy (rr 11) 12 (Mr 11), ai_ cy c4 40 f4, ai_ cy c5 40 f5, ai_ cy c6 40 f6, ai_ cy c7 12 f7, ai_ cy c8 12 f8, aq_ cy 3 xk 5 (kf_ k0 k1 k2 k3 k4), ob6_0_ k0, ob5_0_ k1, ob9_0_ k2, ob2_0_ k3, ob8_0_ k4] [45, 7, 1, 46, 47, 2, 3, 4, 5, 8, 9, 10, 11, 12, 13, 14, 15, 16, 17, 18, 19, 20, 21, 22, 23, 24, 25, 26, 27, 28, 29, 30, 31, 32, 33, 34, 35, 36, 37, 38, 39, 40, 41, 42, 43, 44] (by decide +kernel) rfl (fun hPc hDw hFc hC_ => ?_)
            refine va_callv (va_runV (As := []) (rest := []) ⟨hx, hb, hml, hown, hts⟩ (c_X1_grow2 l D cy H.size xt ta tb xc xk clo cro c4 c5 c6 c7 c8 xn n1 n2 n3 n4 n5 vp vn fx fu fk fs fe fw rl Ml rr Mr f4 f5 f6 f7 f8 k0 k1 k2 k3 k4 (by first | with_reducible assumption | omega | assumption) (by first | with_reducible assumption | omega | assumption) (by first | with_reducible assumption | assumption | omega) (by first | with_reducible assumption | omega | assumption) (by first | with_reducible assumption | assumption | omega) (by first | with_reducible assumption | assumption | omega) (by first | with_reducible assumption | assumption | omega) (by first | with_reducible assumption | assumption | omega) (by first | with_reducible assumption | assumption | omega)) (cwV 0 hts gX11_part_X1_grow rfl rfl rfl ⟨rfl, hd_X1_grow⟩ ⟨Nat.le_of_ble_eq_true rfl, Nat.le_of_ble_eq_true rfl⟩) ⟨bl_g, va_recvX hK.1 hP (ci := 1) (q0 := 45) rfl rfl, fun U hU hW => ⟨rfl, by rw [hU], by rw [hU]; exact hPc, ⟨kk_mv hW hK, arrOfT_moved hW.alike hG⟩, hDw⟩⟩ rfl rfl hl.1 rfl (lv_room (Nat.le_of_ble_eq_true rfl)) dB_36_3_43.1.2.2.2 ⟨Nat.le_of_ble_eq_true rfl, Nat.le_of_ble_eq_true rfl⟩) hS (fun q _ h => hFc q h) hFc (fun u t H locs ht hvm hw hB hz1 hk1 hS => ?_)
            obtain ⟨eMr_28, efx_29, efu_30, e4_31, e7_32, e8_33, eMl_34, e5_35, e6_36, g_37, g_38, g_39, g_40, g_41, g_42, g_43, hP1, hD1⟩ := hB
            rw [ht] at hP1
            obtain ⟨hP, hD⟩ := va_join (wr := [ob11_0_ xo xk xn xc xh xt xw xm xp pf ph tr fi, ai_ cy n5 40 fp]) (w1 := [ob1_0_ xt xc ta tb, ob0_0_ xc xn xk clo cro c4 c5 c6 c7 c8, ob3_0_ xn vp vn n1 n2 n3 n4 n5, ai_ cy ta 12 efx_29, ai_ cy tb 12 efu_30, ai_ cy n1 40 fk, ai_ cy n2 40 fs, ai_ cy n3 40 fe, ai_ cy n4 40 fw, aq_ cy 6 clo 12 (gf_ rl), ai_ cy (rl 0) 12 (eMl_34 0), ai_ cy (rl 1) 12 (eMl_34 1), ai_ cy (rl 2) 12 (eMl_34 2), ai_ cy (rl 3) 12 (eMl_34 3), ai_ cy (rl 4) 12 (eMl_34 4), ai_ cy (rl 5) 12 (eMl_34 5), ai_ cy (rl 6) 12 (eMl_34 6), ai_ cy (rl 7) 12 (eMl_34 7), ai_ cy (rl 8) 12 (eMl_34 8), ai_ cy (rl 9) 12 (eMl_34 9), ai_ cy (rl 10) 12 (eMl_34 10), ai_ cy (rl 11) 12 (eMl_34 11), aq_ cy 6 cro 12 (gf_ rr), ai_ cy (rr 0) 12 (eMr_28 0), ai_ cy (rr 1) 12 (eMr_28 1), ai_ cy (rr 2) 12 (eMr_28 2), ai_ cy (rr 3) 12 (eMr_28 3), ai_ cy (rr 4) 12 (eMr_28 4), ai_ cy (rr 5) 12 (eMr_28 5), ai_ cy (rr 6) 12 (eMr_28 6), ai_ cy (rr 7) 12 (eMr_28 7), ai_ cy (rr 8) 12 (eMr_28 8), ai_ cy (rr 9) 12 (eMr_28 9), ai_ cy (rr 10) 12 (eMr_28 10), ai_ cy (rr 11) 12 (eMr_28 11), ai_ cy c4 40 e4_31, ai_ cy c5 40 e5_35, ai_ cy c6 40 e6_36, ai_ cy c7 12 e7_32, ai_ cy c8 12 e8_33, aq_ cy 3 xk 5 (kf_ k0 k1 k2 k3 k4), ob6_0_ k0, ob5_0_ k1, ob9_0_ k2, ob2_0_ k3, ob8_0_ k4]) hP hD [45, 7, 1, 46, 47, 2, 3, 4, 5, 8, 9, 10, 11, 12, 13, 14, 15, 16, 17, 18, 19, 20, 21, 22, 23, 24, 25, 26, 27, 28, 29, 30, 31, 32, 33, 34, 35, 36, 37, 38, 39, 40, 41, 42, 43, 44] [0, 6] hC_ rfl (by decide) (by decide) hk1 hFc hP1 hD1
            refine pd_S hP hD [ob11_0_ xo xk xn xc xh xt xw xm xp pf ph tr fi, ob3_0_ xn vp vn n1 n2 n3 n4 n5, ai_ cy n1 40 fk, ai_ cy n2 40 fs, ai_ cy n3 40 fe, ai_ cy n4 40 fw, ai_ cy n5 40 fp, ob0_0_ xc xn xk clo cro c4 c5 c6 c7 c8, aq_ cy 6 clo 12 (gf_ rl), ai_ cy (rl 0) 12 (eMl_34 0), ai_ cy (rl 1) 12 (eMl_34 1), ai_ cy (rl 2) 12 (eMl_34 2), ai_ cy (rl 3) 12 (eMl_34 3), ai_ cy (rl 4) 12 (eMl_34 4), ai_ cy (rl 5) 12 (eMl_34 5), ai_ cy (rl 6) 12 (eMl_34 6), ai_ cy (rl 7) 12 (eMl_34 7), ai_ cy (rl 8) 12 (eMl_34 8), ai_ cy (rl 9) 12 (eMl_34 9), ai_ cy (rl 10) 12 (eMl_34 10), ai_ cy (rl 11) 12 (eMl_34 11), aq_ cy 6 cro 12 (gf_ rr), ai_ cy (rr 0) 12 (eMr_28 0), ai_ cy (rr 1) 12 (eMr_28 1), ai_ cy (rr 2) 12 (eMr_28 2), ai_ cy (rr 3) 12 (eMr_28 3), ai_ cy (rr 4) 12 (eMr_28 4), ai_ cy (rr 5) 12 (eMr_28 5), ai_ cy (rr 6) 12 (eMr_28 6), ai_ cy (rr 7) 12 (eMr_28 7), ai_ cy (rr 8) 12 (eMr_28 8), ai_ cy (rr 9) 12 (eMr_28 9), ai_ cy (rr 10) 12 (eMr_28 10), ai_ cy (rr 11) 12 (eMr_28 11), ai_ cy c4 40 e4_31, ai_ cy c5 40 e5_35, ai_ cy c6 40 e6_36, ai_ cy c7 12 e7_32, ai_ cy c8 12 e8_33, aq_ cy 3 xk 5 (kf_ k0 k1 k2 k3 k4), ob6_0_ k0, ob5_0_ k1, ob9_0_ k2, ob2_0_ k3, ob8_0_ k4, ob1_0_ xt xc ta tb, ai_ cy ta 12 efx_29, ai_ cy tb 12 efu_30] [0, 4, 7, 8, 9, 10, 1, 3, 11, 12, 13, 14, 15, 16, 17, 18, 19, 20, 21, 22, 23, 24, 25, 26, 27, 28, 29, 30, 31, 32, 33, 34, 35, 36, 37, 38, 39, 40, 41, 42, 43, 44, 45, 46, 47, 2, 5, 6] (by decide +kernel) rfl (fun hP hD => ?_)
            obtain ⟨d_, hd_⟩ := g_37
            have hwc_ : whC (cutF fk fs fe fw (-9) vn.toNatClampNeg) vp.toNatClampNeg := whF hnc hpr r_fw hvn.2 hwi_
            have hlt_ : ltr (lam (cutF fk fs fe fw (-9) vn.toNatClampNeg)) vp.toNatClampNeg (nF efx_29) (qF_ efu_30) d_ := ltr_of hwc_ (by omega) hd_ g_38
            refine lv_iload_n hx hb dB_36_3_43.2.1.1.1 rfl (lv_at hl 2 rfl) ?_
            refine lv_iconst (v := (-1)) hx hb dB_36_3_43.2.1.1.2 (by decide) ?_
            refine lv_icmp_ne (tgt := 66) hx hb dB_36_3_43.2.1.2.1 (by decide) (fun c_44 => ?_) (fun c_44 => ?_)
            · have t_44 : ¬ a2.toInt = ((-1) : Int32).toInt := fun h => c_44 (Int32.toInt_inj.mp h)
              refine lv_aload_n hx hb dB_36_3_44.1.2.1 rfl (lv_at hl 0 rfl) ?_
              refine va_get (ci := 11) (v := .ref xt) (C := RX11) (T := TX11) (N := 12) hx hb hts (fun _ h => List.mem_cons_of_mem _ (List.mem_append_left _ (List.mem_append_left _ (List.mem_append_left _ (List.mem_append_right _ h))))) hown hK.1 hP 0 rfl rfl 4 (by decide) (hts (.fieldLink RX11 56 "CutAtlas" "cutTree" "LCutAtlas$CutTree;") (List.mem_of_getElem? (i := 2) rfl)) (fun _ h9 => h9) rfl dB_36_3_44.1.2.2.1 ?_
              refine lv_iload_n hx hb dB_36_3_44.1.2.2.2 rfl (lv_at hl 1 rfl) ?_
              refine lv_aload_n hx hb dB_36_3_44.2.1.1 rfl (lv_at hl 0 rfl) ?_
              refine va_get (ci := 11) (v := .ref xt) (C := RX11) (T := TX11) (N := 12) hx hb hts (fun _ h => List.mem_cons_of_mem _ (List.mem_append_left _ (List.mem_append_left _ (List.mem_append_left _ (List.mem_append_right _ h))))) hown hK.1 hP 0 rfl rfl 4 (by decide) (hts (.fieldLink RX11 56 "CutAtlas" "cutTree" "LCutAtlas$CutTree;") (List.mem_of_getElem? (i := 2) rfl)) (fun _ h9 => h9) rfl dB_36_3_44.2.1.2.1 ?_
              refine lv_iload_n hx hb dB_36_3_44.2.1.2.2 rfl (lv_at hl 1 rfl) ?_
              refine lv_iload_n hx hb dB_36_3_44.2.2.1.1 rfl (lv_at hl 2 rfl) ?_
              refine ct_R hP hD [ob1_0_ xt xc ta tb, ai_ cy ta 12 efx_29, ai_ cy tb 12 efu_30] [45, 46, 47] (by decide) rfl (fun hPc hDw => ?_)
              have hFc := va_free (wc := []) hD hS hA [] rfl
              refine va_calli (va_runV (As := [.int a1, .int a2]) (rest := [.int a1, .ref xt]) ⟨hx, hb, hml, hown, hts⟩ (c_X1_leastAlike2 l D cy H.size xt xc ta tb efx_29 d_ (lam (cutF fk fs fe fw (-9) vn.toNatClampNeg)) vp.toNatClampNeg efu_30 a1 a2 (by first | with_reducible assumption | assumption | omega) (by first | with_reducible assumption | omega | assumption) (by first | with_reducible assumption | assumption | omega) (by first | with_reducible assumption | assumption | omega)) (cwV 2 hts gX11_part_X1_leastAlike rfl rfl rfl ⟨rfl, hd_X1_leastAlike⟩ ⟨Nat.le_of_ble_eq_true rfl, Nat.le_of_ble_eq_true rfl⟩) ⟨bl_, va_recvX hK.1 hP (ci := 1) (q0 := 45) rfl rfl, fun U hU hW => ⟨rfl, by rw [hU], by rw [hU]; exact hPc, kk_mv hW hK, hDw⟩⟩ rfl rfl hl.1 rfl (lv_room (Nat.le_of_ble_eq_true rfl)) dB_36_3_44.2.2.1.2 ⟨Nat.le_of_ble_eq_true rfl, Nat.le_of_ble_eq_true rfl⟩) hS (fun q _ h => hFc q h) hFc (fun r_45 u t H locs ht hvm hw hB hz1 hk1 hS => ?_)
              have hP : va_P D vwCl _ H := ro_keep hP hk1
              obtain ⟨f0_r_45, f1_r_45⟩ := hw
              have hal_ := f1_r_45
              refine ct_R hP hD [ob1_0_ xt xc ta tb, ai_ cy ta 12 efx_29, ai_ cy tb 12 efu_30] [45, 46, 47] (by decide) rfl (fun hPc hDw => ?_)
              have hFc := va_free (wc := []) hD hS hA [] rfl
              refine va_calli (va_runV (As := [.int a1, .int r_45]) (rest := []) ⟨hx, hb, hml, hown, hts⟩ (c_X1_partsBelow2 l D cy H.size xt xc ta tb efx_29 d_ (lam (cutF fk fs fe fw (-9) vn.toNatClampNeg)) vp.toNatClampNeg efu_30 a1 r_45 (by first | with_reducible assumption | assumption | omega) (by first | with_reducible assumption | omega | assumption) (by first | with_reducible assumption | assumption | omega) (by first | with_reducible assumption | assumption | omega)) (cwV 2 hts gX11_part_X1_partsBelow rfl rfl rfl ⟨rfl, hd_X1_partsBelow⟩ ⟨Nat.le_of_ble_eq_true rfl, Nat.le_of_ble_eq_true rfl⟩) ⟨bl_, va_recvX hK.1 hP (ci := 1) (q0 := 45) rfl rfl, fun U hU hW => ⟨rfl, by rw [hU], by rw [hU]; exact hPc, kk_mv hW hK, hDw⟩⟩ rfl rfl hl.1 rfl (lv_room (Nat.le_of_ble_eq_true rfl)) dB_36_3_44.2.2.2.1 ⟨Nat.le_of_ble_eq_true rfl, Nat.le_of_ble_eq_true rfl⟩) hS (fun q _ h => hFc q h) hFc (fun r_46 u t H locs ht hvm hw hB hz1 hk1 hS => ?_)
              have hP : va_P D vwCl _ H := ro_keep hP hk1
              have f0_r_46 := hw
              rw [hQ]
              exact W.iret (v := r_46) hx hb hr (fun t ht hW => ⟨⟨r_46, (), rfl, (⟨fun _ => ⟨fun h => absurd h (by omega), fun _ => ⟨_, hal_, f0_r_46⟩⟩, fun h => absurd hpr0_ h⟩), eMl_34, eMr_28, e4_31, e5_35, e6_36, e7_32, e8_33, efx_29, efu_30, (by first | with_reducible assumption | assumption | exact rng_zero (by omega) (by omega) | omega), (by first | with_reducible assumption | assumption | exact rng_zero (by omega) (by omega) | omega), by rw [ht]; exact hP, hD⟩, hS.F ht⟩) hS.2.2 dB_36_3_44.2.2.2.2
            · have t_44 : a2.toInt = ((-1) : Int32).toInt := congrArg Int32.toInt c_44
              refine lv_aload_n hx hb dB_36_3_43.2.1.2.2 rfl (lv_at hl 0 rfl) ?_
              refine va_get (ci := 11) (v := .ref xt) (C := RX11) (T := TX11) (N := 12) hx hb hts (fun _ h => List.mem_cons_of_mem _ (List.mem_append_left _ (List.mem_append_left _ (List.mem_append_left _ (List.mem_append_right _ h))))) hown hK.1 hP 0 rfl rfl 4 (by decide) (hts (.fieldLink RX11 56 "CutAtlas" "cutTree" "LCutAtlas$CutTree;") (List.mem_of_getElem? (i := 2) rfl)) (fun _ h9 => h9) rfl dB_36_3_43.2.2.1.1 ?_
              refine lv_iload_n hx hb dB_36_3_43.2.2.1.2 rfl (lv_at hl 1 rfl) ?_
              refine lv_aload_n hx hb dB_36_3_43.2.2.2.1 rfl (lv_at hl 0 rfl) ?_
              refine va_get (ci := 11) (v := .ref xn) (C := RX11) (T := TX11) (N := 12) hx hb hts (fun _ h => List.mem_cons_of_mem _ (List.mem_append_left _ (List.mem_append_left _ (List.mem_append_left _ (List.mem_append_right _ h))))) hown hK.1 hP 0 rfl rfl 1 (by decide) (hts (.fieldLink RX11 31 "CutAtlas" "net" "LCutAtlas$Net;") (List.mem_of_getElem? (i := 1) rfl)) (fun _ h9 => h9) rfl dB_36_3_43.2.2.2.2 ?_
              refine va_get (ci := 3) (v := .int vp) (C := RX3) (T := TX3) (N := 7) hx hb hts (fun _ h => List.mem_cons_of_mem _ (List.mem_append_left _ (List.mem_append_left _ (List.mem_append_right _ h)))) hown hK.1 hP 1 rfl rfl 0 (by decide) (hts (.fieldLink RX11 94 "CutAtlas$Net" "places" "I") (List.mem_of_getElem? (i := 3) rfl)) (fun _ h9 => h9) rfl dB_36_3_44.1.1.1 ?_
              refine ct_R hP hD [ob1_0_ xt xc ta tb, ai_ cy ta 12 efx_29, ai_ cy tb 12 efu_30] [45, 46, 47] (by decide) rfl (fun hPc hDw => ?_)
              have hFc := va_free (wc := []) hD hS hA [] rfl
              refine va_calli (va_runV (As := [.int a1, .int vp]) (rest := []) ⟨hx, hb, hml, hown, hts⟩ (c_X1_partsBelow2 l D cy H.size xt xc ta tb efx_29 d_ (lam (cutF fk fs fe fw (-9) vn.toNatClampNeg)) vp.toNatClampNeg efu_30 a1 vp (by first | with_reducible assumption | assumption | omega) (by first | with_reducible assumption | omega | assumption) (by first | with_reducible assumption | assumption | omega) (by first | with_reducible assumption | assumption | omega)) (cwV 2 hts gX11_part_X1_partsBelow rfl rfl rfl ⟨rfl, hd_X1_partsBelow⟩ ⟨Nat.le_of_ble_eq_true rfl, Nat.le_of_ble_eq_true rfl⟩) ⟨bl_, va_recvX hK.1 hP (ci := 1) (q0 := 45) rfl rfl, fun U hU hW => ⟨rfl, by rw [hU], by rw [hU]; exact hPc, kk_mv hW hK, hDw⟩⟩ rfl rfl hl.1 rfl (lv_room (Nat.le_of_ble_eq_true rfl)) dB_36_3_44.1.1.2.1 ⟨Nat.le_of_ble_eq_true rfl, Nat.le_of_ble_eq_true rfl⟩) hS (fun q _ h => hFc q h) hFc (fun r_47 u t H locs ht hvm hw hB hz1 hk1 hS => ?_)
              have hP : va_P D vwCl _ H := ro_keep hP hk1
              have f0_r_47 := hw
              rw [hQ]
              exact W.iret (v := r_47) hx hb hr (fun t ht hW => ⟨⟨r_47, (), rfl, (⟨fun _ => ⟨fun _ => f0_r_47, fun h => absurd (by omega) h⟩, fun h => absurd hpr0_ h⟩), eMl_34, eMr_28, e4_31, e5_35, e6_36, e7_32, e8_33, efx_29, efu_30, (by first | with_reducible assumption | assumption | exact rng_zero (by omega) (by omega) | omega), (by first | with_reducible assumption | assumption | exact rng_zero (by omega) (by omega) | omega), by rw [ht]; exact hP, hD⟩, hS.F ht⟩) hS.2.2 dB_36_3_44.1.1.2.2
          · exact absurd c_26 (by decide)
        · have e_ := e_.symm
          subst e_
          refine lv_if_ne (tgt := 38) hx hb dB_36_3_43.1.1.2.1 (by decide) (fun c_48 => ?_) (fun c_48 => ?_)
          · exact absurd c_48 (by decide)
          · have _ := c_48
            refine lv_iconst (v := (-1)) hx hb dB_36_3_43.1.1.2.2 (by decide) ?_
            rw [hQ]
            exact W.iret (v := (-1)) hx hb hr (fun t ht hW => ⟨⟨(-1), (), rfl, (⟨fun h => absurd h (by unfold prI; (repeat' (first | with_reducible refine if_n (by omega) ?_ | with_reducible refine if_ns (by omega) ?_ | with_reducible refine if_nz (by omega) ?_ | with_reducible exact if_p (by omega) (by omega) | with_reducible exact if_ps (by omega) (by omega) | with_reducible exact if_pz (by omega) (by omega))) <;> omega), fun _ => (by unfold prI; (repeat' (first | with_reducible refine if_n (by omega) ?_ | with_reducible refine if_ns (by omega) ?_ | with_reducible refine if_nz (by omega) ?_ | with_reducible exact if_p (by omega) (by omega) | with_reducible exact if_ps (by omega) (by omega) | with_reducible exact if_pz (by omega) (by omega))) <;> omega)⟩), Ml, Mr, f4, f5, f6, f7, f8, fx, fu, (by first | with_reducible assumption | assumption | exact rng_zero (by omega) (by omega) | omega), (by first | with_reducible assumption | assumption | exact rng_zero (by omega) (by omega) | omega), by rw [ht]; exact hP, hD⟩, hS.F ht⟩) hS.2.2 dB_36_3_43.1.2.1.1
    · have t_3 : r_2.toInt = (0 : Int32).toInt := congrArg Int32.toInt c_3
      refine lv_bipush (v := (-2)) hx hb dB_36_3_42.2.1.1.1 (by decide) ?_
      rw [hQ]
      exact W.iret (v := (-2)) hx hb hr (fun t ht hW => ⟨⟨(-2), (), rfl, (⟨fun h => absurd h (by unfold prI; (repeat' (first | with_reducible refine if_n (by omega) ?_ | with_reducible refine if_ns (by omega) ?_ | with_reducible refine if_nz (by omega) ?_ | with_reducible exact if_p (by omega) (by omega) | with_reducible exact if_ps (by omega) (by omega) | with_reducible exact if_pz (by omega) (by omega))) <;> omega), fun _ => (by unfold prI; (repeat' (first | with_reducible refine if_n (by omega) ?_ | with_reducible refine if_ns (by omega) ?_ | with_reducible refine if_nz (by omega) ?_ | with_reducible exact if_p (by omega) (by omega) | with_reducible exact if_ps (by omega) (by omega) | with_reducible exact if_pz (by omega) (by omega))) <;> omega)⟩), Ml, Mr, f4, f5, f6, f7, f8, fx, fu, (by first | with_reducible assumption | assumption | exact rng_zero (by omega) (by omega) | omega), (by first | with_reducible assumption | assumption | exact rng_zero (by omega) (by omega) | omega), by rw [ht]; exact hP, hD⟩, hS.F ht⟩) hS.2.2 dB_36_3_42.2.1.1.2
  · have t_1 : ¬ (0 : Int32).toInt ≤ a1.toInt := fun h => c_1 (Int32.le_iff_toInt_le.mpr h)
    refine lv_iconst (v := (-1)) hx hb dB_36_3_42.1.1.2.1 (by decide) ?_
    rw [hQ]
    exact W.iret (v := (-1)) hx hb hr (fun t ht hW => ⟨⟨(-1), (), rfl, (⟨fun h => absurd h (by unfold prI; (repeat' (first | with_reducible refine if_n (by omega) ?_ | with_reducible refine if_ns (by omega) ?_ | with_reducible refine if_nz (by omega) ?_ | with_reducible exact if_p (by omega) (by omega) | with_reducible exact if_ps (by omega) (by omega) | with_reducible exact if_pz (by omega) (by omega))) <;> omega), fun _ => (by unfold prI; (repeat' (first | with_reducible refine if_n (by omega) ?_ | with_reducible refine if_ns (by omega) ?_ | with_reducible refine if_nz (by omega) ?_ | with_reducible exact if_p (by omega) (by omega) | with_reducible exact if_ps (by omega) (by omega) | with_reducible exact if_pz (by omega) (by omega))) <;> omega)⟩), Ml, Mr, f4, f5, f6, f7, f8, fx, fu, (by first | with_reducible assumption | assumption | exact rng_zero (by omega) (by omega) | omega), (by first | with_reducible assumption | assumption | exact rng_zero (by omega) (by omega) | omega), by rw [ht]; exact hP, hD⟩, hS.F ht⟩) hS.2.2 dB_36_3_42.1.1.2.2
end

section
set_option maxHeartbeats 4000000 in
set_option maxRecDepth 100000 in
theorem c_X12_wholeCuts2 (l : Launch) (D : va_G) (cy : Nat → ClassId) (sz : Nat) (mo : Nat) (g5 : Nat) (g6 : Nat) (g7 : Nat) (g8 : Nat) (g9 : Nat) (g10 : Nat) (g12 : Nat) (g13 : Nat) (g14 : Nat) (g15 : Nat) (g16 : Nat) (g17 : Nat) (g18 : Nat) (g19 : Nat) (g20 : Nat) (g22 : Nat) (g23 : Nat) (g24 : Nat) (g29 : Nat) (g30 : Nat) (g31 : Nat) (g32 : Nat) (g33 : Nat) (s0 : Int32) (s1 : Int32) (s3 : Int32) (s4 : Int32) (s11 : Int32) (s21 : Int32) (s25 : Int32) (s26 : Int32) (s27 : Int32) (s28 : Int32) (t2 : Int64) (f5 : Nat → Int32) (f6 : Nat → Int32) (f7 : Nat → Int32) (f8 : Nat → Int32) (f10 : Nat → Int32) (a1 : Int32) (hN : 0 ≤ s4.toInt ∧ s4.toInt ≤ 40) (hPl : 0 ≤ s3.toInt ∧ s3.toInt ≤ 12) (hnet : netE s3.toInt s4.toInt f6 f7 f10) (hwc : whC (cutR f5 f6 f7 f8 f10 s21.toInt s4.toNatClampNeg) s3.toNatClampNeg) (h2s : 2 ≤ s3.toInt) (q1 : 0 ≤ a1.toInt) (r_f6 : rng f6 40 (0) (11)) (r_f7 : rng f7 40 (0) (11)) (r_f8 : rng f8 40 (0) (2000)) : Met l yX12_wholeCuts wsX12_wholeCuts ({ frames := 5, cells := 0, slots := 0, locals := 119 }) (va_Pc [.ref mo, .int a1] (fun U => U.heap.size = sz ∧ va_P D vwCl [ob12_0_ mo s0 s1 t2 s3 s4 g5 g6 g7 g8 g9 g10 s11 g12 g13 g14 g15 g16 g17 g18 g19 g20 s21 g22 g23 g24 s25 s26 s27 s28 g29 g30 g31 g32 g33, ai_ cy g5 40 f5, ai_ cy g6 40 f6, ai_ cy g7 40 f7, ai_ cy g8 40 f8, az_ cy g10 40 f10] U.heap ∧ kk_ D cy U ∧ va_D (fun _ => True) [ob12_0_ mo s0 s1 t2 s3 s4 g5 g6 g7 g8 g9 g10 s11 g12 g13 g14 g15 g16 g17 g18 g19 g20 s21 g22 g23 g24 s25 s26 s27 s28 g29 g30 g31 g32 g33, ai_ cy g5 40 f5, ai_ cy g6 40 f6, ai_ cy g7 40 f7, ai_ cy g8 40 f8, az_ cy g10 40 f10])) (va_Qv (fun (_ : Unit) => True) (fun (_ : Unit) (t : State) => ∃ (n25 : Int32), ∃ (n28 : Int32), (∃ m : Int, gmn (lam (cutR f5 f6 f7 f8 f10 s21.toInt s4.toNatClampNeg)) s3.toNatClampNeg m ∧ ctV (wQ (cutR f5 f6 f7 f8 f10 s21.toInt s4.toNatClampNeg) m) a1.toInt (2 ^ s3.toNatClampNeg) n25 n28) ∧ va_P D vwCl [ob12_0_ mo s0 s1 t2 s3 s4 g5 g6 g7 g8 g9 g10 s11 g12 g13 g14 g15 g16 g17 g18 g19 g20 s21 g22 g23 g24 n25 s26 s27 n28 g29 g30 g31 g32 g33, ai_ cy g5 40 f5, ai_ cy g6 40 f6, ai_ cy g7 40 f7, ai_ cy g8 40 f8, az_ cy g10 40 f10] t.heap ∧ va_D (va_A [ob12_0_ mo s0 s1 t2 s3 s4 g5 g6 g7 g8 g9 g10 s11 g12 g13 g14 g15 g16 g17 g18 g19 g20 s21 g22 g23 g24 s25 s26 s27 s28 g29 g30 g31 g32 g33, ai_ cy g5 40 f5, ai_ cy g6 40 f6, ai_ cy g7 40 f7, ai_ cy g8 40 f8, az_ cy g10 40 f10] sz) [ob12_0_ mo s0 s1 t2 s3 s4 g5 g6 g7 g8 g9 g10 s11 g12 g13 g14 g15 g16 g17 g18 g19 g20 s21 g22 g23 g24 n25 s26 s27 n28 g29 g30 g31 g32 g33, ai_ cy g5 40 f5, ai_ cy g6 40 f6, ai_ cy g7 40 f7, ai_ cy g8 40 f8, az_ cy g10 40 f10]) (va_A [ob12_0_ mo s0 s1 t2 s3 s4 g5 g6 g7 g8 g9 g10 s11 g12 g13 g14 g15 g16 g17 g18 g19 g20 s21 g22 g23 g24 s25 s26 s27 s28 g29 g30 g31 g32 g33, ai_ cy g5 40 f5, ai_ cy g6 40 f6, ai_ cy g7 40 f7, ai_ cy g8 40 f8, az_ cy g10 40 f10] sz)) 0 0 (va_A [ob12_0_ mo s0 s1 t2 s3 s4 g5 g6 g7 g8 g9 g10 s11 g12 g13 g14 g15 g16 g17 g18 g19 g20 s21 g22 g23 g24 s25 s26 s27 s28 g29 g30 g31 g32 g33, ai_ cy g5 40 f5, ai_ cy g6 40 f6, ai_ cy g7 40 f7, ai_ cy g8 40 f8, az_ cy g10 40 f10] sz) := by
  refine ofQ (cc := cX12_wholeCuts) (maxL := 4) (ret := none) (by decide) rfl ?_
  intro p e s m args below meth c s₁ Q hQ B hml hv
  obtain ⟨rfl, hsz, hP, hK, hD0⟩ := hv
  have hx := B.exec
  have hb := B.bytes
  have hr := B.returns
  have hts := atoms_spec (ws := wsX12_wholeCuts) B.pre
  have hown : s.vm.findClass RX12 = some m.cls := by have h_ := findClass_of_methodNamed B.named; exact h_
  have hlocks := B.notSynchronized
  subst hsz
  have hD := hD0.self (sz := s.heap.size)
  generalize hAe : va_A [ob12_0_ mo s0 s1 t2 s3 s4 g5 g6 g7 g8 g9 g10 s11 g12 g13 g14 g15 g16 g17 g18 g19 g20 s21 g22 g23 g24 s25 s26 s27 s28 g29 g30 g31 g32 g33, ai_ cy g5 40 f5, ai_ cy g6 40 f6, ai_ cy g7 40 f7, ai_ cy g8 40 f8, az_ cy g10 40 f10] s.heap.size = A at hD hQ
  have hA : ∀ q : Nat, s.heap.size ≤ q → A q := fun q h => by rw [← hAe]; exact Or.inr h
  have hS : va_S A s.heap s.heap [] := va_S.rf
  have hl := lv_entry ([.ref mo, .int a1]) (n := 4) (Nat.le_of_ble_eq_true rfl)
  rw [lg_entry_eq]
  generalize (lg_sl ([.ref mo, .int a1]) ++ List.replicate (4 - (lg_sl ([.ref mo, .int a1])).length) Slot.unset).toArray = ls at hl ⊢
  have hl : lv_has ls 4 [(0, .ref mo), (1, .int a1)] := hl
  have zm9 : ((-9) : Int32).toInt = -9 := by decide
  have z0 : (0 : Int32).toInt = 0 := by decide
  have z1 : (1 : Int32).toInt = 1 := by decide
  have z2 : (2 : Int32).toInt = 2 := by decide
  have hev_ := p2_ev (P := s3) (by omega) (by omega)
  have hp2_ := p2_le (P := s3) (by omega)
  refine lv_aload_n hx hb dB_3_2_60.1.1.1.1 rfl (lv_at hl 0 rfl) ?_
  refine ct_R hP hD [ob12_0_ mo s0 s1 t2 s3 s4 g5 g6 g7 g8 g9 g10 s11 g12 g13 g14 g15 g16 g17 g18 g19 g20 s21 g22 g23 g24 s25 s26 s27 s28 g29 g30 g31 g32 g33, ai_ cy g5 40 f5, ai_ cy g6 40 f6, ai_ cy g7 40 f7, ai_ cy g8 40 f8, az_ cy g10 40 f10] [0, 1, 2, 3, 4, 5] (by decide) rfl (fun hPc hDw => ?_)
  have hFc := va_free (wc := []) hD hS hA [] rfl
  refine va_calli (va_runV (As := []) (rest := []) ⟨hx, hb, hml, hown, hts⟩ (c_X12_leastOf2 l D cy s.heap.size mo g5 g6 g7 g8 g9 g10 g12 g13 g14 g15 g16 g17 g18 g19 g20 g22 g23 g24 g29 g30 g31 g32 g33 s0 s1 s3 s4 s11 s21 s25 s26 s27 s28 t2 f5 f6 f7 f8 f10 (by first | with_reducible assumption | omega | assumption) (by first | with_reducible assumption | omega | assumption) (by first | with_reducible assumption | assumption | omega) (by first | with_reducible assumption | assumption | omega) (by first | with_reducible assumption | omega | assumption) (by first | with_reducible assumption | assumption | omega) (by first | with_reducible assumption | assumption | omega) (by first | with_reducible assumption | assumption | omega)) (cwV 0 hts gX12_wholeCuts_X12_leastOf rfl rfl rfl ⟨rfl, hd_X12_leastOf⟩ ⟨Nat.le_of_ble_eq_true rfl, Nat.le_of_ble_eq_true rfl⟩) ⟨bl_, va_recvX hK.1 hP (ci := 12) (q0 := 0) rfl rfl, fun U hU hW => ⟨rfl, by rw [hU], by rw [hU]; exact hPc, kk_mv hW hK, hDw⟩⟩ rfl rfl hl.1 rfl (lv_room (Nat.le_of_ble_eq_true rfl)) dB_3_2_60.1.1.1.2 ⟨Nat.le_of_ble_eq_true rfl, Nat.le_of_ble_eq_true rfl⟩) hS (fun q _ h => hFc q h) hFc (fun r_1 u t H locs ht hvm hw hB hz1 hk1 hS => ?_)
  have hP : va_P D vwCl _ H := ro_keep hP hk1
  have f0_r_1 := hw
  have hgm_ := f0_r_1
  refine lv_istore_n (lv' := [(2, .int r_1), (0, .ref mo), (1, .int a1)]) hx hb dB_3_2_60.1.1.2.1 rfl hl (by decide) rfl (fun ls hl => ?_)
  refine lv_aload_n hx hb dB_3_2_60.1.1.2.2 rfl (lv_at hl 1 rfl) ?_
  refine lv_iconst (v := 0) hx hb dB_3_2_60.1.2.1.1 (by decide) ?_
  refine va_put (ci := 12) (v := .int 0) (ty := .int) (C := RX12) (T := TX12) (N := 34) hx hb hts (fun _ h => List.mem_cons_of_mem _ (List.mem_append_right _ h)) tyX12 tyX12_ok nmX12 hown hK.1 hP hD hS 0 rfl rfl 25 (by decide) (hts (.fieldLink RX12 192 "CutAtlasModel" "cuts" "I") (List.mem_of_getElem? (i := 1) rfl)) (fun _ h9 => h9) rfl (by decide +kernel) rfl rfl (Nat.le_of_ble_eq_true rfl) dB_3_2_60.1.2.1.2 (fun H locs hP hD hS => ?_)
  refine pd_K [ob12_0_ mo s0 s1 t2 s3 s4 g5 g6 g7 g8 g9 g10 s11 g12 g13 g14 g15 g16 g17 g18 g19 g20 s21 g22 g23 g24 0 s26 s27 s28 g29 g30 g31 g32 g33, ai_ cy g5 40 f5, ai_ cy g6 40 f6, ai_ cy g7 40 f7, ai_ cy g8 40 f8, az_ cy g10 40 f10] hP hD (fun hP hD => ?_)
  refine lv_aload_n hx hb dB_3_2_60.1.2.2.1 rfl (lv_at hl 1 rfl) ?_
  refine lv_bipush (v := (-9)) hx hb dB_3_2_60.1.2.2.2 (by decide) ?_
  refine va_put (ci := 12) (v := .int (-9)) (ty := .int) (C := RX12) (T := TX12) (N := 34) hx hb hts (fun _ h => List.mem_cons_of_mem _ (List.mem_append_right _ h)) tyX12 tyX12_ok nmX12 hown hK.1 hP hD hS 0 rfl rfl 28 (by decide) (hts (.fieldLink RX12 201 "CutAtlasModel" "chosen" "I") (List.mem_of_getElem? (i := 2) rfl)) (fun _ h9 => h9) rfl (by decide +kernel) rfl rfl (Nat.le_of_ble_eq_true rfl) dB_3_2_60.2.1.1.1 (fun H locs hP hD hS => ?_)
  refine pd_K [ob12_0_ mo s0 s1 t2 s3 s4 g5 g6 g7 g8 g9 g10 s11 g12 g13 g14 g15 g16 g17 g18 g19 g20 s21 g22 g23 g24 0 s26 s27 (-9) g29 g30 g31 g32 g33, ai_ cy g5 40 f5, ai_ cy g6 40 f6, ai_ cy g7 40 f7, ai_ cy g8 40 f8, az_ cy g10 40 f10] hP hD (fun hP hD => ?_)
  refine lv_iconst (v := 2) hx hb dB_3_2_60.2.1.1.2 (by decide) ?_
  refine lv_istore_n (lv' := [(3, .int 2), (2, .int r_1), (0, .ref mo), (1, .int a1)]) hx hb dB_3_2_60.2.1.2.1 rfl hl (by decide) rfl (fun ls hl => ?_)
  suffices LOOP_2 : ∀ (n_2 : Nat) (x3_2 : Int32) (o25_2 : Int32) (o28_2 : Int32) (H : Heap) (locs : List Loc) (ls : Array Slot), 4100 - x3_2.toInt < (n_2 : Int) → (2 ≤ x3_2.toInt) → (x3_2.toInt ≤ ((2 ^ s3.toNatClampNeg : Nat) : Int)) → (x3_2.toInt % 2 = 0) → (ctV (wQ (cutR f5 f6 f7 f8 f10 s21.toInt s4.toNatClampNeg) r_1.toInt) a1.toInt x3_2.toNatClampNeg o25_2 o28_2) → (0 ≤ o25_2.toInt ∧ o25_2.toInt ≤ x3_2.toInt) → pd_2 D vwCl A [ob12_0_ mo s0 s1 t2 s3 s4 g5 g6 g7 g8 g9 g10 s11 g12 g13 g14 g15 g16 g17 g18 g19 g20 s21 g22 g23 g24 o25_2 s26 s27 o28_2 g29 g30 g31 g32 g33, ai_ cy g5 40 f5, ai_ cy g6 40 f6, ai_ cy g7 40 f7, ai_ cy g8 40 f8, az_ cy g10 40 f10] H → va_S A s.heap H locs → lv_has ls 4 [(3, .int x3_2), (2, .int r_1), (0, .ref mo), (1, .int a1)] → W p l e ({ frames := 5, cells := 0, slots := 0, locals := 119 } : Room) s m (([.ref mo, .int a1] : List Value).toArray) below meth c H locs 0 0 Q (F0 m 18 ls []) from LOOP_2 ((4100 - (2 : Int32).toInt).toNat + 1) (2 : Int32) (0 : Int32) ((-9) : Int32) _ _ _ (by omega) (by first | with_reducible assumption | omega | assumption) (by first | omega | exact p2_ge2 h2s) (by first | with_reducible assumption | omega | assumption) (by first | exact ctV_0 (by omega) | exact ctV_st v_none (by omega) (by omega) (by omega) (Or.inr ⟨fun h => absurd (hsz_.trans h) (by omega), rfl, rfl⟩) | exact ctV_st v_none (by omega) (by omega) (by omega) (Or.inl ⟨hsz_.symm.trans (by omega), by omega, by first | exact Or.inl ⟨rfl, by omega⟩ | exact Or.inr ⟨rfl, by omega⟩⟩)) (by first | with_reducible assumption | omega | assumption) ⟨hP, hD⟩ hS (lv_sub hl [0, 1, 2, 3] rfl)
  intro n_2
  induction n_2 with
  | zero =>
    intro x3_2 o25_2 o28_2 H locs ls hm v0_2 v1_2 v2_2 v3_2 v4_2 hPD hS hl; obtain ⟨hP, hD⟩ := hPD
    exact absurd hm (by omega)
  | succ n_2 ih_2 =>
    intro x3_2 o25_2 o28_2 H locs ls hm v0_2 v1_2 v2_2 v3_2 v4_2 hPD hS hl; obtain ⟨hP, hD⟩ := hPD
    refine lv_iload_n hx hb dB_3_2_60.2.1.2.2 rfl (lv_at hl 0 rfl) ?_
    refine lv_iconst (v := 1) hx hb dB_3_2_60.2.2.1.1 (by decide) ?_
    refine lv_aload_n hx hb dB_3_2_60.2.2.1.2 rfl (lv_at hl 2 rfl) ?_
    refine va_get (ci := 12) (v := .int s3) (C := RX12) (T := TX12) (N := 34) hx hb hts (fun _ h => List.mem_cons_of_mem _ (List.mem_append_right _ h)) hown hK.1 hP 0 rfl rfl 3 (by decide) (hts (.fieldLink RX12 88 "CutAtlasModel" "places" "I") (List.mem_of_getElem? (i := 3) rfl)) (fun _ h9 => h9) rfl dB_3_2_60.2.2.2.1 ?_
    refine lv_ishl hx hb dB_3_2_60.2.2.2.2 ?_
    refine lv_topi (fun y_3 ey_3 => ?_)
    have ty_3 : (1 ≤ y_3.toInt ∧ y_3.toInt ≤ 4096) ∧ y_3.toInt = ((2 ^ s3.toNatClampNeg : Nat) : Int) := ⟨by rw [ey_3]; exact shl1 (by omega) (by omega), shl_E (by omega) ey_3⟩
    refine lv_icmp_ge (tgt := 73) hx hb dB_3_2_61.1.1.1.1 (by decide) (fun c_4 => ?_) (fun c_4 => ?_)
    · have t_4 : y_3.toInt ≤ x3_2.toInt := Int32.le_iff_toInt_le.mp c_4
      rw [hQ]
      exact W.vret hx hb hr (fun t ht hW => ⟨⟨(), rfl, trivial, o25_2, o28_2, (⟨_, hgm_, by rw [show 2 ^ s3.toNatClampNeg = x3_2.toNatClampNeg by have c_ := clI (i := x3_2) (by omega); omega]; exact v3_2⟩), by rw [ht]; exact hP, hD⟩, hS.F ht⟩) hS.2.2 dB_3_2_62.2.2.2.2
    · have t_4 : ¬ y_3.toInt ≤ x3_2.toInt := fun h => c_4 (Int32.le_iff_toInt_le.mpr h)
      refine lv_aload_n hx hb dB_3_2_61.1.1.1.2 rfl (lv_at hl 2 rfl) ?_
      refine lv_iload_n hx hb dB_3_2_61.1.1.2.1 rfl (lv_at hl 0 rfl) ?_
      refine ct_R hP hD [ob12_0_ mo s0 s1 t2 s3 s4 g5 g6 g7 g8 g9 g10 s11 g12 g13 g14 g15 g16 g17 g18 g19 g20 s21 g22 g23 g24 o25_2 s26 s27 o28_2 g29 g30 g31 g32 g33, ai_ cy g5 40 f5, ai_ cy g6 40 f6, ai_ cy g7 40 f7, ai_ cy g8 40 f8, az_ cy g10 40 f10] [0, 1, 2, 3, 4, 5] (by decide) rfl (fun hPc hDw => ?_)
      have hFc := va_free (wc := []) hD hS hA [] rfl
      refine va_calli (va_runV (As := [.int x3_2]) (rest := []) ⟨hx, hb, hml, hown, hts⟩ (c_X12_sizeOf2 l D cy H.size mo g5 g6 g7 g8 g9 g10 g12 g13 g14 g15 g16 g17 g18 g19 g20 g22 g23 g24 g29 g30 g31 g32 g33 s0 s1 s3 s4 s11 s21 o25_2 s26 s27 o28_2 t2 f5 f6 f7 f8 f10 x3_2 (by first | with_reducible assumption | omega | assumption) (by first | with_reducible assumption | assumption | omega) (by first | with_reducible assumption | assumption | omega) (by first | with_reducible assumption | assumption | omega)) (cwV 1 hts gX12_wholeCuts_X12_sizeOf rfl rfl rfl ⟨rfl, hd_X12_sizeOf⟩ ⟨Nat.le_of_ble_eq_true rfl, Nat.le_of_ble_eq_true rfl⟩) ⟨bl_, va_recvX hK.1 hP (ci := 12) (q0 := 0) rfl rfl, fun U hU hW => ⟨rfl, by rw [hU], by rw [hU]; exact hPc, kk_mv hW hK, hDw⟩⟩ rfl rfl hl.1 rfl (lv_room (Nat.le_of_ble_eq_true rfl)) dB_3_2_61.1.1.2.2 ⟨Nat.le_of_ble_eq_true rfl, Nat.le_of_ble_eq_true rfl⟩) hS (fun q _ h => hFc q h) hFc (fun r_5 u t H locs ht hvm hw hB hz1 hk1 hS => ?_)
      have hP : va_P D vwCl _ H := ro_keep hP hk1
      have f0_r_5 := hw
      have hsz_ := f0_r_5
      refine lv_iload_n hx hb dB_3_2_61.1.2.1.1 rfl (lv_at hl 1 rfl) ?_
      refine lv_icmp_ne (tgt := 67) hx hb dB_3_2_61.1.2.1.2 (by decide) (fun c_6 => ?_) (fun c_6 => ?_)
      · have t_6 : ¬ r_5.toInt = r_1.toInt := fun h => c_6 (Int32.toInt_inj.mp h)
        obtain ⟨y_7, ey_7⟩ : ∃ y : Int32, y = x3_2 + 2 := ⟨_, rfl⟩
        have ty_7 : y_7.toInt = x3_2.toInt + (2 : Int32).toInt := by rw [ey_7]; exact addI (by omega) (by omega)
        refine lv_iinc (v := y_7) (lv' := [(3, .int y_7), (2, .int r_1), (0, .ref mo), (1, .int a1)]) hx hb dB_3_2_62.2.2.1 hl (k := 0) rfl (by rw [ey_7]; rfl) (by decide) rfl (fun ls hl => ?_)
        refine lv_goto (tgt := 18) hx hb dB_3_2_62.2.2.2.1 (by decide) ?_
        exact ih_2 y_7 o25_2 o28_2 _ _ _ (by omega) (by first | with_reducible assumption | omega | assumption) (by first | omega | exact p2_ge2 h2s) (by first | with_reducible assumption | omega | assumption) (by first | exact ctV_0 (by omega) | exact ctV_st v3_2 (by omega) (by omega) (by omega) (Or.inr ⟨fun h => absurd (hsz_.trans h) (by omega), rfl, rfl⟩) | exact ctV_st v3_2 (by omega) (by omega) (by omega) (Or.inl ⟨hsz_.symm.trans (by omega), by omega, by first | exact Or.inl ⟨rfl, by omega⟩ | exact Or.inr ⟨rfl, by omega⟩⟩)) (by first | with_reducible assumption | omega | assumption) ⟨hP, hD⟩ hS (lv_sub hl [0, 1, 2, 3] rfl)
      · have t_6 : r_5.toInt = r_1.toInt := congrArg Int32.toInt c_6
        refine lv_aload_n hx hb dB_3_2_61.1.2.2.1 rfl (lv_at hl 2 rfl) ?_
        refine lv_aload_n hx hb dB_3_2_61.1.2.2.2 rfl (lv_at hl 2 rfl) ?_
        refine va_get (ci := 12) (v := .int o25_2) (C := RX12) (T := TX12) (N := 34) hx hb hts (fun _ h => List.mem_cons_of_mem _ (List.mem_append_right _ h)) hown hK.1 hP 0 rfl rfl 25 (by decide) (hts (.fieldLink RX12 192 "CutAtlasModel" "cuts" "I") (List.mem_of_getElem? (i := 1) rfl)) (fun _ h9 => h9) rfl dB_3_2_61.2.1.1.1 ?_
        refine lv_iload_n hx hb dB_3_2_61.2.1.1.2 rfl (lv_at hl 3 rfl) ?_
        refine lv_icmp_ne (tgt := 50) hx hb dB_3_2_61.2.1.2.1 (by decide) (fun c_8 => ?_) (fun c_8 => ?_)
        · have t_8 : ¬ o25_2.toInt = a1.toInt := fun h => c_8 (Int32.toInt_inj.mp h)
          refine lv_aload_n hx hb dB_3_2_61.2.2.1.2 rfl (lv_at hl 2 rfl) ?_
          refine va_get (ci := 12) (v := .int o28_2) (C := RX12) (T := TX12) (N := 34) hx hb hts (fun _ h => List.mem_cons_of_mem _ (List.mem_append_right _ h)) hown hK.1 hP 0 rfl rfl 28 (by decide) (hts (.fieldLink RX12 201 "CutAtlasModel" "chosen" "I") (List.mem_of_getElem? (i := 2) rfl)) (fun _ h9 => h9) rfl dB_3_2_61.2.2.2.1 ?_
          refine va_put (ci := 12) (v := .int o28_2) (ty := .int) (C := RX12) (T := TX12) (N := 34) hx hb hts (fun _ h => List.mem_cons_of_mem _ (List.mem_append_right _ h)) tyX12 tyX12_ok nmX12 hown hK.1 hP hD hS 0 rfl rfl 28 (by decide) (hts (.fieldLink RX12 201 "CutAtlasModel" "chosen" "I") (List.mem_of_getElem? (i := 2) rfl)) (fun _ h9 => h9) rfl (by decide +kernel) rfl rfl (Nat.le_of_ble_eq_true rfl) dB_3_2_61.2.2.2.2 (fun H locs hP hD hS => ?_)
          refine pd_K [ob12_0_ mo s0 s1 t2 s3 s4 g5 g6 g7 g8 g9 g10 s11 g12 g13 g14 g15 g16 g17 g18 g19 g20 s21 g22 g23 g24 o25_2 s26 s27 o28_2 g29 g30 g31 g32 g33, ai_ cy g5 40 f5, ai_ cy g6 40 f6, ai_ cy g7 40 f7, ai_ cy g8 40 f8, az_ cy g10 40 f10] hP hD (fun hP hD => ?_)
          refine lv_aload_n hx hb dB_3_2_62.1.1.1 rfl (lv_at hl 2 rfl) ?_
          refine lv_dup hx hb dB_3_2_62.1.1.2 rfl ?_
          refine va_get (ci := 12) (v := .int o25_2) (C := RX12) (T := TX12) (N := 34) hx hb hts (fun _ h => List.mem_cons_of_mem _ (List.mem_append_right _ h)) hown hK.1 hP 0 rfl rfl 25 (by decide) (hts (.fieldLink RX12 192 "CutAtlasModel" "cuts" "I") (List.mem_of_getElem? (i := 1) rfl)) (fun _ h9 => h9) rfl dB_3_2_62.1.2.1 ?_
          refine lv_iconst (v := 1) hx hb dB_3_2_62.1.2.2 (by decide) ?_
          refine lv_iadd hx hb dB_3_2_62.2.1.1 ?_
          refine lv_topi (fun y_9 ey_9 => ?_)
          have ty_9 : y_9.toInt = o25_2.toInt + (1 : Int32).toInt := by rw [ey_9]; exact addI (by omega) (by omega)
          refine va_put (ci := 12) (v := .int y_9) (ty := .int) (C := RX12) (T := TX12) (N := 34) hx hb hts (fun _ h => List.mem_cons_of_mem _ (List.mem_append_right _ h)) tyX12 tyX12_ok nmX12 hown hK.1 hP hD hS 0 rfl rfl 25 (by decide) (hts (.fieldLink RX12 192 "CutAtlasModel" "cuts" "I") (List.mem_of_getElem? (i := 1) rfl)) (fun _ h9 => h9) rfl (by decide +kernel) rfl rfl (Nat.le_of_ble_eq_true rfl) dB_3_2_62.2.1.2 (fun H locs hP hD hS => ?_)
          refine pd_K [ob12_0_ mo s0 s1 t2 s3 s4 g5 g6 g7 g8 g9 g10 s11 g12 g13 g14 g15 g16 g17 g18 g19 g20 s21 g22 g23 g24 y_9 s26 s27 o28_2 g29 g30 g31 g32 g33, ai_ cy g5 40 f5, ai_ cy g6 40 f6, ai_ cy g7 40 f7, ai_ cy g8 40 f8, az_ cy g10 40 f10] hP hD (fun hP hD => ?_)
          obtain ⟨y_10, ey_10⟩ : ∃ y : Int32, y = x3_2 + 2 := ⟨_, rfl⟩
          have ty_10 : y_10.toInt = x3_2.toInt + (2 : Int32).toInt := by rw [ey_10]; exact addI (by omega) (by omega)
          refine lv_iinc (v := y_10) (lv' := [(3, .int y_10), (2, .int r_1), (0, .ref mo), (1, .int a1)]) hx hb dB_3_2_62.2.2.1 hl (k := 0) rfl (by rw [ey_10]; rfl) (by decide) rfl (fun ls hl => ?_)
          refine lv_goto (tgt := 18) hx hb dB_3_2_62.2.2.2.1 (by decide) ?_
          exact ih_2 y_10 y_9 o28_2 _ _ _ (by omega) (by first | with_reducible assumption | omega | assumption) (by first | omega | exact p2_ge2 h2s) (by first | with_reducible assumption | omega | assumption) (by first | exact ctV_0 (by omega) | exact ctV_st v3_2 (by omega) (by omega) (by omega) (Or.inr ⟨fun h => absurd (hsz_.trans h) (by omega), rfl, rfl⟩) | exact ctV_st v3_2 (by omega) (by omega) (by omega) (Or.inl ⟨hsz_.symm.trans (by omega), by omega, by first | exact Or.inl ⟨rfl, by omega⟩ | exact Or.inr ⟨rfl, by omega⟩⟩)) (by first | with_reducible assumption | omega | assumption) ⟨hP, hD⟩ hS (lv_sub hl [0, 1, 2, 3] rfl)
        · have t_8 : o25_2.toInt = a1.toInt := congrArg Int32.toInt c_8
          refine lv_iload_n hx hb dB_3_2_61.2.1.2.2 rfl (lv_at hl 0 rfl) ?_
          refine lv_goto (tgt := 54) hx hb dB_3_2_61.2.2.1.1 (by decide) ?_
          refine va_put (ci := 12) (v := .int x3_2) (ty := .int) (C := RX12) (T := TX12) (N := 34) hx hb hts (fun _ h => List.mem_cons_of_mem _ (List.mem_append_right _ h)) tyX12 tyX12_ok nmX12 hown hK.1 hP hD hS 0 rfl rfl 28 (by decide) (hts (.fieldLink RX12 201 "CutAtlasModel" "chosen" "I") (List.mem_of_getElem? (i := 2) rfl)) (fun _ h9 => h9) rfl (by decide +kernel) rfl rfl (Nat.le_of_ble_eq_true rfl) dB_3_2_61.2.2.2.2 (fun H locs hP hD hS => ?_)
          refine pd_K [ob12_0_ mo s0 s1 t2 s3 s4 g5 g6 g7 g8 g9 g10 s11 g12 g13 g14 g15 g16 g17 g18 g19 g20 s21 g22 g23 g24 o25_2 s26 s27 x3_2 g29 g30 g31 g32 g33, ai_ cy g5 40 f5, ai_ cy g6 40 f6, ai_ cy g7 40 f7, ai_ cy g8 40 f8, az_ cy g10 40 f10] hP hD (fun hP hD => ?_)
          refine lv_aload_n hx hb dB_3_2_62.1.1.1 rfl (lv_at hl 2 rfl) ?_
          refine lv_dup hx hb dB_3_2_62.1.1.2 rfl ?_
          refine va_get (ci := 12) (v := .int o25_2) (C := RX12) (T := TX12) (N := 34) hx hb hts (fun _ h => List.mem_cons_of_mem _ (List.mem_append_right _ h)) hown hK.1 hP 0 rfl rfl 25 (by decide) (hts (.fieldLink RX12 192 "CutAtlasModel" "cuts" "I") (List.mem_of_getElem? (i := 1) rfl)) (fun _ h9 => h9) rfl dB_3_2_62.1.2.1 ?_
          refine lv_iconst (v := 1) hx hb dB_3_2_62.1.2.2 (by decide) ?_
          refine lv_iadd hx hb dB_3_2_62.2.1.1 ?_
          refine lv_topi (fun y_11 ey_11 => ?_)
          have ty_11 : y_11.toInt = o25_2.toInt + (1 : Int32).toInt := by rw [ey_11]; exact addI (by omega) (by omega)
          refine va_put (ci := 12) (v := .int y_11) (ty := .int) (C := RX12) (T := TX12) (N := 34) hx hb hts (fun _ h => List.mem_cons_of_mem _ (List.mem_append_right _ h)) tyX12 tyX12_ok nmX12 hown hK.1 hP hD hS 0 rfl rfl 25 (by decide) (hts (.fieldLink RX12 192 "CutAtlasModel" "cuts" "I") (List.mem_of_getElem? (i := 1) rfl)) (fun _ h9 => h9) rfl (by decide +kernel) rfl rfl (Nat.le_of_ble_eq_true rfl) dB_3_2_62.2.1.2 (fun H locs hP hD hS => ?_)
          refine pd_K [ob12_0_ mo s0 s1 t2 s3 s4 g5 g6 g7 g8 g9 g10 s11 g12 g13 g14 g15 g16 g17 g18 g19 g20 s21 g22 g23 g24 y_11 s26 s27 x3_2 g29 g30 g31 g32 g33, ai_ cy g5 40 f5, ai_ cy g6 40 f6, ai_ cy g7 40 f7, ai_ cy g8 40 f8, az_ cy g10 40 f10] hP hD (fun hP hD => ?_)
          obtain ⟨y_12, ey_12⟩ : ∃ y : Int32, y = x3_2 + 2 := ⟨_, rfl⟩
          have ty_12 : y_12.toInt = x3_2.toInt + (2 : Int32).toInt := by rw [ey_12]; exact addI (by omega) (by omega)
          refine lv_iinc (v := y_12) (lv' := [(3, .int y_12), (2, .int r_1), (0, .ref mo), (1, .int a1)]) hx hb dB_3_2_62.2.2.1 hl (k := 0) rfl (by rw [ey_12]; rfl) (by decide) rfl (fun ls hl => ?_)
          refine lv_goto (tgt := 18) hx hb dB_3_2_62.2.2.2.1 (by decide) ?_
          exact ih_2 y_12 y_11 x3_2 _ _ _ (by omega) (by first | with_reducible assumption | omega | assumption) (by first | omega | exact p2_ge2 h2s) (by first | with_reducible assumption | omega | assumption) (by first | exact ctV_0 (by omega) | exact ctV_st v3_2 (by omega) (by omega) (by omega) (Or.inr ⟨fun h => absurd (hsz_.trans h) (by omega), rfl, rfl⟩) | exact ctV_st v3_2 (by omega) (by omega) (by omega) (Or.inl ⟨hsz_.symm.trans (by omega), by omega, by first | exact Or.inl ⟨rfl, by omega⟩ | exact Or.inr ⟨rfl, by omega⟩⟩)) (by first | with_reducible assumption | omega | assumption) ⟨hP, hD⟩ hS (lv_sub hl [0, 1, 2, 3] rfl)

set_option maxHeartbeats 4000000 in
set_option maxRecDepth 100000 in
theorem c_X12_cuts2 (l : Launch) (D : va_G) (cy : Nat → ClassId) (sz : Nat) (mo : Nat) (g5 : Nat) (g6 : Nat) (g7 : Nat) (g8 : Nat) (g9 : Nat) (g10 : Nat) (g12 : Nat) (g13 : Nat) (g14 : Nat) (g15 : Nat) (g16 : Nat) (g17 : Nat) (g18 : Nat) (g19 : Nat) (g20 : Nat) (g22 : Nat) (g23 : Nat) (g24 : Nat) (g29 : Nat) (g30 : Nat) (g31 : Nat) (g32 : Nat) (g33 : Nat) (s0 : Int32) (s1 : Int32) (s3 : Int32) (s4 : Int32) (s11 : Int32) (s21 : Int32) (s25 : Int32) (s26 : Int32) (s27 : Int32) (s28 : Int32) (t2 : Int64) (f5 : Nat → Int32) (f6 : Nat → Int32) (f7 : Nat → Int32) (f8 : Nat → Int32) (f10 : Nat → Int32) (hN : 0 ≤ s4.toInt ∧ s4.toInt ≤ 40) (hPl : 0 ≤ s3.toInt ∧ s3.toInt ≤ 12) (h21 : s21 = (-9)) (hnet : netE s3.toInt s4.toInt f6 f7 f10) (r_f6 : rng f6 40 (0) (11)) (r_f7 : rng f7 40 (0) (11)) (r_f8 : rng f8 40 (0) (2000)) : Met l yX12_cuts wsX12_cuts ({ frames := 6, cells := 0, slots := 0, locals := 142 }) (va_Pc [.ref mo] (fun U => U.heap.size = sz ∧ va_P D vwCl [ob12_0_ mo s0 s1 t2 s3 s4 g5 g6 g7 g8 g9 g10 s11 g12 g13 g14 g15 g16 g17 g18 g19 g20 s21 g22 g23 g24 s25 s26 s27 s28 g29 g30 g31 g32 g33, ai_ cy g5 40 f5, ai_ cy g6 40 f6, ai_ cy g7 40 f7, ai_ cy g8 40 f8, az_ cy g10 40 f10] U.heap ∧ kk_ D cy U ∧ va_D (fun _ => True) [ob12_0_ mo s0 s1 t2 s3 s4 g5 g6 g7 g8 g9 g10 s11 g12 g13 g14 g15 g16 g17 g18 g19 g20 s21 g22 g23 g24 s25 s26 s27 s28 g29 g30 g31 g32 g33, ai_ cy g5 40 f5, ai_ cy g6 40 f6, ai_ cy g7 40 f7, ai_ cy g8 40 f8, az_ cy g10 40 f10])) (va_Qi (fun (r : Int32) (_ : Unit) => ((whI s3.toInt (sumI (bkR f5 f10) s4.toNatClampNeg) ≠ 0 → cwA (cutR f5 f6 f7 f8 f10 (-9) s4.toNatClampNeg) s3.toNatClampNeg r) ∧ (whI s3.toInt (sumI (bkR f5 f10) s4.toNatClampNeg) = 0 → r.toInt = -2))) (fun (_ : Unit) (t : State) => ∃ (n25 : Int32), ∃ (n28 : Int32), va_P D vwCl [ob12_0_ mo 0 s1 t2 s3 s4 g5 g6 g7 g8 g9 g10 s11 g12 g13 g14 g15 g16 g17 g18 g19 g20 s21 g22 g23 g24 n25 s26 s27 n28 g29 g30 g31 g32 g33, ai_ cy g5 40 f5, ai_ cy g6 40 f6, ai_ cy g7 40 f7, ai_ cy g8 40 f8, az_ cy g10 40 f10] t.heap ∧ va_D (va_A [ob12_0_ mo s0 s1 t2 s3 s4 g5 g6 g7 g8 g9 g10 s11 g12 g13 g14 g15 g16 g17 g18 g19 g20 s21 g22 g23 g24 s25 s26 s27 s28 g29 g30 g31 g32 g33, ai_ cy g5 40 f5, ai_ cy g6 40 f6, ai_ cy g7 40 f7, ai_ cy g8 40 f8, az_ cy g10 40 f10] sz) [ob12_0_ mo 0 s1 t2 s3 s4 g5 g6 g7 g8 g9 g10 s11 g12 g13 g14 g15 g16 g17 g18 g19 g20 s21 g22 g23 g24 n25 s26 s27 n28 g29 g30 g31 g32 g33, ai_ cy g5 40 f5, ai_ cy g6 40 f6, ai_ cy g7 40 f7, ai_ cy g8 40 f8, az_ cy g10 40 f10]) (va_A [ob12_0_ mo s0 s1 t2 s3 s4 g5 g6 g7 g8 g9 g10 s11 g12 g13 g14 g15 g16 g17 g18 g19 g20 s21 g22 g23 g24 s25 s26 s27 s28 g29 g30 g31 g32 g33, ai_ cy g5 40 f5, ai_ cy g6 40 f6, ai_ cy g7 40 f7, ai_ cy g8 40 f8, az_ cy g10 40 f10] sz)) 0 0 (va_A [ob12_0_ mo s0 s1 t2 s3 s4 g5 g6 g7 g8 g9 g10 s11 g12 g13 g14 g15 g16 g17 g18 g19 g20 s21 g22 g23 g24 s25 s26 s27 s28 g29 g30 g31 g32 g33, ai_ cy g5 40 f5, ai_ cy g6 40 f6, ai_ cy g7 40 f7, ai_ cy g8 40 f8, az_ cy g10 40 f10] sz) := by
  refine ofQ (cc := cX12_cuts) (maxL := 1) (ret := (some .int)) (by decide) rfl ?_
  intro p e s m args below meth c s₁ Q hQ B hml hv
  obtain ⟨rfl, hsz, hP, hK, hD0⟩ := hv
  have hx := B.exec
  have hb := B.bytes
  have hr := B.returns
  have hts := atoms_spec (ws := wsX12_cuts) B.pre
  have hown : s.vm.findClass RX12 = some m.cls := by have h_ := findClass_of_methodNamed B.named; exact h_
  have hlocks := B.notSynchronized
  subst hsz
  have hD := hD0.self (sz := s.heap.size)
  generalize hAe : va_A [ob12_0_ mo s0 s1 t2 s3 s4 g5 g6 g7 g8 g9 g10 s11 g12 g13 g14 g15 g16 g17 g18 g19 g20 s21 g22 g23 g24 s25 s26 s27 s28 g29 g30 g31 g32 g33, ai_ cy g5 40 f5, ai_ cy g6 40 f6, ai_ cy g7 40 f7, ai_ cy g8 40 f8, az_ cy g10 40 f10] s.heap.size = A at hD hQ
  have hA : ∀ q : Nat, s.heap.size ≤ q → A q := fun q h => by rw [← hAe]; exact Or.inr h
  have hS : va_S A s.heap s.heap [] := va_S.rf
  have hl := lv_entry ([.ref mo]) (n := 1) (Nat.le_of_ble_eq_true rfl)
  rw [lg_entry_eq]
  generalize (lg_sl ([.ref mo]) ++ List.replicate (1 - (lg_sl ([.ref mo])).length) Slot.unset).toArray = ls at hl ⊢
  have hl : lv_has ls 1 [(0, .ref mo)] := hl
  have zm2 : ((-2) : Int32).toInt = -2 := by decide
  have z0 : (0 : Int32).toInt = 0 := by decide
  have h21i_ : s21.toInt = -9 := by rw [h21]; decide
  have zq0 : (0 : Int32).toInt = 0 := by decide
  have zq1 : (1 : Int32).toInt = 1 := by decide
  have zq2 : (2 : Int32).toInt = 2 := by decide
  have zq3 : (3 : Int32).toInt = 3 := by decide
  have zq4 : (4 : Int32).toInt = 4 := by decide
  have zq5 : (5 : Int32).toInt = 5 := by decide
  have zqm9 : ((-9) : Int32).toInt = -9 := by decide
  have zqm1 : ((-1) : Int32).toInt = -1 := by decide
  have zqm2 : ((-2) : Int32).toInt = -2 := by decide
  refine lv_aload_n hx hb dB_3_2_26.1.1.1 rfl (lv_at hl 0 rfl) ?_
  refine lv_iconst (v := 0) hx hb dB_3_2_26.1.1.2.1 (by decide) ?_
  refine va_put (ci := 12) (v := .int 0) (ty := .int) (C := RX12) (T := TX12) (N := 34) hx hb hts (fun _ h => List.mem_cons_of_mem _ (List.mem_append_right _ h)) tyX12 tyX12_ok nmX12 hown hK.1 hP hD hS 0 rfl rfl 0 (by decide) (hts (.fieldLink RX12 85 "CutAtlasModel" "thrown" "I") (List.mem_of_getElem? (i := 1) rfl)) (fun _ h9 => h9) rfl (by decide +kernel) rfl rfl (Nat.le_of_ble_eq_true rfl) dB_3_2_26.1.1.2.2 (fun H locs hP hD hS => ?_)
  refine pd_K [ob12_0_ mo 0 s1 t2 s3 s4 g5 g6 g7 g8 g9 g10 s11 g12 g13 g14 g15 g16 g17 g18 g19 g20 s21 g22 g23 g24 s25 s26 s27 s28 g29 g30 g31 g32 g33, ai_ cy g5 40 f5, ai_ cy g6 40 f6, ai_ cy g7 40 f7, ai_ cy g8 40 f8, az_ cy g10 40 f10] hP hD (fun hP hD => ?_)
  refine lv_aload_n hx hb dB_3_2_26.1.2.1.1 rfl (lv_at hl 0 rfl) ?_
  refine ct_R hP hD [ob12_0_ mo 0 s1 t2 s3 s4 g5 g6 g7 g8 g9 g10 s11 g12 g13 g14 g15 g16 g17 g18 g19 g20 s21 g22 g23 g24 s25 s26 s27 s28 g29 g30 g31 g32 g33, ai_ cy g5 40 f5, az_ cy g10 40 f10] [0, 1, 5] (by decide) rfl (fun hPc hDw => ?_)
  have hFc := va_free (wc := []) hD hS hA [] rfl
  refine va_calli (va_runV (As := []) (rest := []) ⟨hx, hb, hml, hown, hts⟩ (c_X12_isWhole2 l D cy H.size mo g5 g6 g7 g8 g9 g10 g12 g13 g14 g15 g16 g17 g18 g19 g20 g22 g23 g24 g29 g30 g31 g32 g33 (0 : Int32) s1 s3 s4 s11 s21 s25 s26 s27 s28 t2 f5 f10 (by first | with_reducible assumption | omega | assumption)) (cwV 0 hts gX12_cuts_X12_isWhole rfl rfl rfl ⟨rfl, hd_X12_isWhole⟩ ⟨Nat.le_of_ble_eq_true rfl, Nat.le_of_ble_eq_true rfl⟩) ⟨bl_, va_recvX hK.1 hP (ci := 12) (q0 := 0) rfl rfl, fun U hU hW => ⟨rfl, by rw [hU], by rw [hU]; exact hPc, kk_mv hW hK, hDw⟩⟩ rfl rfl hl.1 rfl (lv_room (Nat.le_of_ble_eq_true rfl)) dB_3_2_26.1.2.1.2 ⟨Nat.le_of_ble_eq_true rfl, Nat.le_of_ble_eq_true rfl⟩) hS (fun q _ h => hFc q h) hFc (fun r_1 u t H locs ht hvm hw hB hz1 hk1 hS => ?_)
  have hP : va_P D vwCl _ H := ro_keep hP hk1
  obtain ⟨f0_r_1, f1_r_1⟩ := hw
  have hw1_ := f1_r_1
  refine lv_if_ne (tgt := 15) hx hb dB_3_2_26.1.2.2.1 (by decide) (fun c_2 => ?_) (fun c_2 => ?_)
  · have t_2 : ¬ r_1.toInt = (0 : Int32).toInt := fun h => c_2 (Int32.toInt_inj.mp h)
    have hwb_ := whI_1 (P := s3.toInt) (c := sumI (bkR f5 f10) s4.toNatClampNeg) (by omega)
    have hwr_ : whC (cutR f5 f6 f7 f8 f10 s21.toInt s4.toNatClampNeg) s3.toNatClampNeg := whR hnet r_f6 r_f7 r_f8 hN.2 hwb_.2
    have hw2s_ := hwb_.1
    refine lv_aload_n hx hb dB_3_2_26.2.1.2.1 rfl (lv_at hl 0 rfl) ?_
    refine lv_iconst (v := 0) hx hb dB_3_2_26.2.1.2.2 (by decide) ?_
    refine ct_S hP hD hS hA [ob12_0_ mo 0 s1 t2 s3 s4 g5 g6 g7 g8 g9 g10 s11 g12 g13 g14 g15 g16 g17 g18 g19 g20 s21 g22 g23 g24 s25 s26 s27 s28 g29 g30 g31 g32 g33, ai_ cy g5 40 f5, ai_ cy g6 40 f6, ai_ cy g7 40 f7, ai_ cy g8 40 f8, az_ cy g10 40 f10] [0, 1, 2, 3, 4, 5] (by decide) rfl (fun hPc hDw hFc hC_ => ?_)
    refine va_callv (va_runV (As := [.int 0]) (rest := []) ⟨hx, hb, hml, hown, hts⟩ (c_X12_wholeCuts2 l D cy H.size mo g5 g6 g7 g8 g9 g10 g12 g13 g14 g15 g16 g17 g18 g19 g20 g22 g23 g24 g29 g30 g31 g32 g33 (0 : Int32) s1 s3 s4 s11 s21 s25 s26 s27 s28 t2 f5 f6 f7 f8 f10 (0 : Int32) (by first | with_reducible assumption | omega | assumption) (by first | with_reducible assumption | omega | assumption) (by first | with_reducible assumption | assumption | omega) (by first | with_reducible assumption | assumption | omega) (by first | with_reducible assumption | omega | assumption) (by first | with_reducible assumption | omega | assumption) (by first | with_reducible assumption | assumption | omega) (by first | with_reducible assumption | assumption | omega) (by first | with_reducible assumption | assumption | omega)) (cwV 1 hts gX12_cuts_X12_wholeCuts rfl rfl rfl ⟨rfl, hd_X12_wholeCuts⟩ ⟨Nat.le_of_ble_eq_true rfl, Nat.le_of_ble_eq_true rfl⟩) ⟨bl_, va_recvX hK.1 hP (ci := 12) (q0 := 0) rfl rfl, fun U hU hW => ⟨rfl, by rw [hU], by rw [hU]; exact hPc, kk_mv hW hK, hDw⟩⟩ rfl rfl hl.1 rfl (lv_room (Nat.le_of_ble_eq_true rfl)) dB_3_2_26.2.2.1.1 ⟨Nat.le_of_ble_eq_true rfl, Nat.le_of_ble_eq_true rfl⟩) hS (fun q _ h => hFc q h) hFc (fun u t H locs ht hvm hw hB hz1 hk1 hS => ?_)
    obtain ⟨n25_4, n28_5, g_6, hP1, hD1⟩ := hB
    rw [ht] at hP1
    obtain ⟨hP, hD⟩ := va_join (wr := []) (w1 := [ob12_0_ mo 0 s1 t2 s3 s4 g5 g6 g7 g8 g9 g10 s11 g12 g13 g14 g15 g16 g17 g18 g19 g20 s21 g22 g23 g24 n25_4 s26 s27 n28_5 g29 g30 g31 g32 g33, ai_ cy g5 40 f5, ai_ cy g6 40 f6, ai_ cy g7 40 f7, ai_ cy g8 40 f8, az_ cy g10 40 f10]) hP hD [0, 1, 2, 3, 4, 5] [] hC_ rfl (by decide) (by decide) hk1 hFc hP1 hD1
    refine pd_K [ob12_0_ mo 0 s1 t2 s3 s4 g5 g6 g7 g8 g9 g10 s11 g12 g13 g14 g15 g16 g17 g18 g19 g20 s21 g22 g23 g24 n25_4 s26 s27 n28_5 g29 g30 g31 g32 g33, ai_ cy g5 40 f5, ai_ cy g6 40 f6, ai_ cy g7 40 f7, ai_ cy g8 40 f8, az_ cy g10 40 f10] hP hD (fun hP hD => ?_)
    obtain ⟨m_, hgm_, hcv_⟩ := g_6
    rw [h21i_] at hgm_ hcv_
    refine lv_aload_n hx hb dB_3_2_26.2.2.1.2 rfl (lv_at hl 0 rfl) ?_
    refine va_get (ci := 12) (v := .int n25_4) (C := RX12) (T := TX12) (N := 34) hx hb hts (fun _ h => List.mem_cons_of_mem _ (List.mem_append_right _ h)) hown hK.1 hP 0 rfl rfl 25 (by decide) (hts (.fieldLink RX12 192 "CutAtlasModel" "cuts" "I") (List.mem_of_getElem? (i := 2) rfl)) (fun _ h9 => h9) rfl dB_3_2_26.2.2.2.1 ?_
    rw [hQ]
    exact W.iret (v := n25_4) hx hb hr (fun t ht hW => ⟨⟨n25_4, (), rfl, (⟨fun _ => ⟨m_, hgm_, hcv_.1⟩, fun h => absurd h (by omega)⟩), n25_4, n28_5, by rw [ht]; exact hP, hD⟩, hS.F ht⟩) hS.2.2 dB_3_2_26.2.2.2.2
  · have t_2 : r_1.toInt = (0 : Int32).toInt := congrArg Int32.toInt c_2
    refine lv_bipush (v := (-2)) hx hb dB_3_2_26.1.2.2.2 (by decide) ?_
    rw [hQ]
    exact W.iret (v := (-2)) hx hb hr (fun t ht hW => ⟨⟨(-2), (), rfl, (⟨fun h => absurd (by omega) h, fun _ => by decide⟩), s25, s28, by rw [ht]; exact hP, hD⟩, hS.F ht⟩) hS.2.2 dB_3_2_26.2.1.1

set_option maxHeartbeats 4000000 in
set_option maxRecDepth 100000 in
theorem c_X12_cutAt2 (l : Launch) (D : va_G) (cy : Nat → ClassId) (sz : Nat) (mo : Nat) (g5 : Nat) (g6 : Nat) (g7 : Nat) (g8 : Nat) (g9 : Nat) (g10 : Nat) (g12 : Nat) (g13 : Nat) (g14 : Nat) (g15 : Nat) (g16 : Nat) (g17 : Nat) (g18 : Nat) (g19 : Nat) (g20 : Nat) (g22 : Nat) (g23 : Nat) (g24 : Nat) (g29 : Nat) (g30 : Nat) (g31 : Nat) (g32 : Nat) (g33 : Nat) (s0 : Int32) (s1 : Int32) (s3 : Int32) (s4 : Int32) (s11 : Int32) (s21 : Int32) (s25 : Int32) (s26 : Int32) (s27 : Int32) (s28 : Int32) (t2 : Int64) (f5 : Nat → Int32) (f6 : Nat → Int32) (f7 : Nat → Int32) (f8 : Nat → Int32) (f10 : Nat → Int32) (a1 : Int32) (hN : 0 ≤ s4.toInt ∧ s4.toInt ≤ 40) (hPl : 0 ≤ s3.toInt ∧ s3.toInt ≤ 12) (h21 : s21 = (-9)) (hnet : netE s3.toInt s4.toInt f6 f7 f10) (r_f6 : rng f6 40 (0) (11)) (r_f7 : rng f7 40 (0) (11)) (r_f8 : rng f8 40 (0) (2000)) : Met l yX12_cutAt wsX12_cutAt ({ frames := 6, cells := 0, slots := 0, locals := 142 }) (va_Pc [.ref mo, .int a1] (fun U => U.heap.size = sz ∧ va_P D vwCl [ob12_0_ mo s0 s1 t2 s3 s4 g5 g6 g7 g8 g9 g10 s11 g12 g13 g14 g15 g16 g17 g18 g19 g20 s21 g22 g23 g24 s25 s26 s27 s28 g29 g30 g31 g32 g33, ai_ cy g5 40 f5, ai_ cy g6 40 f6, ai_ cy g7 40 f7, ai_ cy g8 40 f8, az_ cy g10 40 f10] U.heap ∧ kk_ D cy U ∧ va_D (fun _ => True) [ob12_0_ mo s0 s1 t2 s3 s4 g5 g6 g7 g8 g9 g10 s11 g12 g13 g14 g15 g16 g17 g18 g19 g20 s21 g22 g23 g24 s25 s26 s27 s28 g29 g30 g31 g32 g33, ai_ cy g5 40 f5, ai_ cy g6 40 f6, ai_ cy g7 40 f7, ai_ cy g8 40 f8, az_ cy g10 40 f10])) (va_Qi (fun (r : Int32) (_ : Unit) => ((caI a1.toInt s3.toInt (sumI (bkR f5 f10) s4.toNatClampNeg) = 0 → cwY (cutR f5 f6 f7 f8 f10 (-9) s4.toNatClampNeg) s3.toNatClampNeg a1.toInt r) ∧ (caI a1.toInt s3.toInt (sumI (bkR f5 f10) s4.toNatClampNeg) ≠ 0 → r.toInt = caI a1.toInt s3.toInt (sumI (bkR f5 f10) s4.toNatClampNeg)))) (fun (_ : Unit) (t : State) => ∃ (n25 : Int32), ∃ (n28 : Int32), va_P D vwCl [ob12_0_ mo 0 s1 t2 s3 s4 g5 g6 g7 g8 g9 g10 s11 g12 g13 g14 g15 g16 g17 g18 g19 g20 s21 g22 g23 g24 n25 s26 s27 n28 g29 g30 g31 g32 g33, ai_ cy g5 40 f5, ai_ cy g6 40 f6, ai_ cy g7 40 f7, ai_ cy g8 40 f8, az_ cy g10 40 f10] t.heap ∧ va_D (va_A [ob12_0_ mo s0 s1 t2 s3 s4 g5 g6 g7 g8 g9 g10 s11 g12 g13 g14 g15 g16 g17 g18 g19 g20 s21 g22 g23 g24 s25 s26 s27 s28 g29 g30 g31 g32 g33, ai_ cy g5 40 f5, ai_ cy g6 40 f6, ai_ cy g7 40 f7, ai_ cy g8 40 f8, az_ cy g10 40 f10] sz) [ob12_0_ mo 0 s1 t2 s3 s4 g5 g6 g7 g8 g9 g10 s11 g12 g13 g14 g15 g16 g17 g18 g19 g20 s21 g22 g23 g24 n25 s26 s27 n28 g29 g30 g31 g32 g33, ai_ cy g5 40 f5, ai_ cy g6 40 f6, ai_ cy g7 40 f7, ai_ cy g8 40 f8, az_ cy g10 40 f10]) (va_A [ob12_0_ mo s0 s1 t2 s3 s4 g5 g6 g7 g8 g9 g10 s11 g12 g13 g14 g15 g16 g17 g18 g19 g20 s21 g22 g23 g24 s25 s26 s27 s28 g29 g30 g31 g32 g33, ai_ cy g5 40 f5, ai_ cy g6 40 f6, ai_ cy g7 40 f7, ai_ cy g8 40 f8, az_ cy g10 40 f10] sz)) 0 0 (va_A [ob12_0_ mo s0 s1 t2 s3 s4 g5 g6 g7 g8 g9 g10 s11 g12 g13 g14 g15 g16 g17 g18 g19 g20 s21 g22 g23 g24 s25 s26 s27 s28 g29 g30 g31 g32 g33, ai_ cy g5 40 f5, ai_ cy g6 40 f6, ai_ cy g7 40 f7, ai_ cy g8 40 f8, az_ cy g10 40 f10] sz) := by
  refine ofQ (cc := cX12_cutAt) (maxL := 2) (ret := (some .int)) (by decide) rfl ?_
  intro p e s m args below meth c s₁ Q hQ B hml hv
  obtain ⟨rfl, hsz, hP, hK, hD0⟩ := hv
  have hx := B.exec
  have hb := B.bytes
  have hr := B.returns
  have hts := atoms_spec (ws := wsX12_cutAt) B.pre
  have hown : s.vm.findClass RX12 = some m.cls := by have h_ := findClass_of_methodNamed B.named; exact h_
  have hlocks := B.notSynchronized
  subst hsz
  have hD := hD0.self (sz := s.heap.size)
  generalize hAe : va_A [ob12_0_ mo s0 s1 t2 s3 s4 g5 g6 g7 g8 g9 g10 s11 g12 g13 g14 g15 g16 g17 g18 g19 g20 s21 g22 g23 g24 s25 s26 s27 s28 g29 g30 g31 g32 g33, ai_ cy g5 40 f5, ai_ cy g6 40 f6, ai_ cy g7 40 f7, ai_ cy g8 40 f8, az_ cy g10 40 f10] s.heap.size = A at hD hQ
  have hA : ∀ q : Nat, s.heap.size ≤ q → A q := fun q h => by rw [← hAe]; exact Or.inr h
  have hS : va_S A s.heap s.heap [] := va_S.rf
  have hl := lv_entry ([.ref mo, .int a1]) (n := 2) (Nat.le_of_ble_eq_true rfl)
  rw [lg_entry_eq]
  generalize (lg_sl ([.ref mo, .int a1]) ++ List.replicate (2 - (lg_sl ([.ref mo, .int a1])).length) Slot.unset).toArray = ls at hl ⊢
  have hl : lv_has ls 2 [(0, .ref mo), (1, .int a1)] := hl
  have zm2 : ((-2) : Int32).toInt = -2 := by decide
  have zm1 : ((-1) : Int32).toInt = -1 := by decide
  have z0 : (0 : Int32).toInt = 0 := by decide
  have h21i_ : s21.toInt = -9 := by rw [h21]; decide
  have zq0 : (0 : Int32).toInt = 0 := by decide
  have zq1 : (1 : Int32).toInt = 1 := by decide
  have zq2 : (2 : Int32).toInt = 2 := by decide
  have zq3 : (3 : Int32).toInt = 3 := by decide
  have zq4 : (4 : Int32).toInt = 4 := by decide
  have zq5 : (5 : Int32).toInt = 5 := by decide
  have zqm9 : ((-9) : Int32).toInt = -9 := by decide
  have zqm1 : ((-1) : Int32).toInt = -1 := by decide
  have zqm2 : ((-2) : Int32).toInt = -2 := by decide
  refine lv_aload_n hx hb dB_3_2_24.1.1.1.1 rfl (lv_at hl 0 rfl) ?_
  refine lv_iconst (v := 0) hx hb dB_3_2_24.1.1.1.2 (by decide) ?_
  refine va_put (ci := 12) (v := .int 0) (ty := .int) (C := RX12) (T := TX12) (N := 34) hx hb hts (fun _ h => List.mem_cons_of_mem _ (List.mem_append_right _ h)) tyX12 tyX12_ok nmX12 hown hK.1 hP hD hS 0 rfl rfl 0 (by decide) (hts (.fieldLink RX12 85 "CutAtlasModel" "thrown" "I") (List.mem_of_getElem? (i := 1) rfl)) (fun _ h9 => h9) rfl (by decide +kernel) rfl rfl (Nat.le_of_ble_eq_true rfl) dB_3_2_24.1.1.2.1 (fun H locs hP hD hS => ?_)
  refine pd_K [ob12_0_ mo 0 s1 t2 s3 s4 g5 g6 g7 g8 g9 g10 s11 g12 g13 g14 g15 g16 g17 g18 g19 g20 s21 g22 g23 g24 s25 s26 s27 s28 g29 g30 g31 g32 g33, ai_ cy g5 40 f5, ai_ cy g6 40 f6, ai_ cy g7 40 f7, ai_ cy g8 40 f8, az_ cy g10 40 f10] hP hD (fun hP hD => ?_)
  refine lv_iload_n hx hb dB_3_2_24.1.1.2.2 rfl (lv_at hl 1 rfl) ?_
  refine lv_if_ge (tgt := 11) hx hb dB_3_2_24.1.2.1.1 (by decide) (fun c_1 => ?_) (fun c_1 => ?_)
  · have t_1 : (0 : Int32).toInt ≤ a1.toInt := Int32.le_iff_toInt_le.mp c_1
    refine lv_aload_n hx hb dB_3_2_24.1.2.2.2 rfl (lv_at hl 0 rfl) ?_
    refine ct_R hP hD [ob12_0_ mo 0 s1 t2 s3 s4 g5 g6 g7 g8 g9 g10 s11 g12 g13 g14 g15 g16 g17 g18 g19 g20 s21 g22 g23 g24 s25 s26 s27 s28 g29 g30 g31 g32 g33, ai_ cy g5 40 f5, az_ cy g10 40 f10] [0, 1, 5] (by decide) rfl (fun hPc hDw => ?_)
    have hFc := va_free (wc := []) hD hS hA [] rfl
    refine va_calli (va_runV (As := []) (rest := []) ⟨hx, hb, hml, hown, hts⟩ (c_X12_isWhole2 l D cy H.size mo g5 g6 g7 g8 g9 g10 g12 g13 g14 g15 g16 g17 g18 g19 g20 g22 g23 g24 g29 g30 g31 g32 g33 (0 : Int32) s1 s3 s4 s11 s21 s25 s26 s27 s28 t2 f5 f10 (by first | with_reducible assumption | omega | assumption)) (cwV 0 hts gX12_cutAt_X12_isWhole rfl rfl rfl ⟨rfl, hd_X12_isWhole⟩ ⟨Nat.le_of_ble_eq_true rfl, Nat.le_of_ble_eq_true rfl⟩) ⟨bl_, va_recvX hK.1 hP (ci := 12) (q0 := 0) rfl rfl, fun U hU hW => ⟨rfl, by rw [hU], by rw [hU]; exact hPc, kk_mv hW hK, hDw⟩⟩ rfl rfl hl.1 rfl (lv_room (Nat.le_of_ble_eq_true rfl)) dB_3_2_24.2.1.1.1 ⟨Nat.le_of_ble_eq_true rfl, Nat.le_of_ble_eq_true rfl⟩) hS (fun q _ h => hFc q h) hFc (fun r_2 u t H locs ht hvm hw hB hz1 hk1 hS => ?_)
    have hP : va_P D vwCl _ H := ro_keep hP hk1
    obtain ⟨f0_r_2, f1_r_2⟩ := hw
    have hw1_ := f1_r_2
    refine lv_if_ne (tgt := 21) hx hb dB_3_2_24.2.1.1.2 (by decide) (fun c_3 => ?_) (fun c_3 => ?_)
    · have t_3 : ¬ r_2.toInt = (0 : Int32).toInt := fun h => c_3 (Int32.toInt_inj.mp h)
      have hwb_ := whI_1 (P := s3.toInt) (c := sumI (bkR f5 f10) s4.toNatClampNeg) (by omega)
      have hwr_ : whC (cutR f5 f6 f7 f8 f10 s21.toInt s4.toNatClampNeg) s3.toNatClampNeg := whR hnet r_f6 r_f7 r_f8 hN.2 hwb_.2
      have hw2s_ := hwb_.1
      refine lv_aload_n hx hb dB_3_2_24.2.2.1.1 rfl (lv_at hl 0 rfl) ?_
      refine lv_iload_n hx hb dB_3_2_24.2.2.1.2 rfl (lv_at hl 1 rfl) ?_
      refine ct_S hP hD hS hA [ob12_0_ mo 0 s1 t2 s3 s4 g5 g6 g7 g8 g9 g10 s11 g12 g13 g14 g15 g16 g17 g18 g19 g20 s21 g22 g23 g24 s25 s26 s27 s28 g29 g30 g31 g32 g33, ai_ cy g5 40 f5, ai_ cy g6 40 f6, ai_ cy g7 40 f7, ai_ cy g8 40 f8, az_ cy g10 40 f10] [0, 1, 2, 3, 4, 5] (by decide) rfl (fun hPc hDw hFc hC_ => ?_)
      refine va_callv (va_runV (As := [.int a1]) (rest := []) ⟨hx, hb, hml, hown, hts⟩ (c_X12_wholeCuts2 l D cy H.size mo g5 g6 g7 g8 g9 g10 g12 g13 g14 g15 g16 g17 g18 g19 g20 g22 g23 g24 g29 g30 g31 g32 g33 (0 : Int32) s1 s3 s4 s11 s21 s25 s26 s27 s28 t2 f5 f6 f7 f8 f10 a1 (by first | with_reducible assumption | omega | assumption) (by first | with_reducible assumption | omega | assumption) (by first | with_reducible assumption | assumption | omega) (by first | with_reducible assumption | assumption | omega) (by first | with_reducible assumption | omega | assumption) (by first | with_reducible assumption | omega | assumption) (by first | with_reducible assumption | assumption | omega) (by first | with_reducible assumption | assumption | omega) (by first | with_reducible assumption | assumption | omega)) (cwV 1 hts gX12_cutAt_X12_wholeCuts rfl rfl rfl ⟨rfl, hd_X12_wholeCuts⟩ ⟨Nat.le_of_ble_eq_true rfl, Nat.le_of_ble_eq_true rfl⟩) ⟨bl_, va_recvX hK.1 hP (ci := 12) (q0 := 0) rfl rfl, fun U hU hW => ⟨rfl, by rw [hU], by rw [hU]; exact hPc, kk_mv hW hK, hDw⟩⟩ rfl rfl hl.1 rfl (lv_room (Nat.le_of_ble_eq_true rfl)) dB_3_2_24.2.2.2.1 ⟨Nat.le_of_ble_eq_true rfl, Nat.le_of_ble_eq_true rfl⟩) hS (fun q _ h => hFc q h) hFc (fun u t H locs ht hvm hw hB hz1 hk1 hS => ?_)
      obtain ⟨n25_5, n28_6, g_7, hP1, hD1⟩ := hB
      rw [ht] at hP1
      obtain ⟨hP, hD⟩ := va_join (wr := []) (w1 := [ob12_0_ mo 0 s1 t2 s3 s4 g5 g6 g7 g8 g9 g10 s11 g12 g13 g14 g15 g16 g17 g18 g19 g20 s21 g22 g23 g24 n25_5 s26 s27 n28_6 g29 g30 g31 g32 g33, ai_ cy g5 40 f5, ai_ cy g6 40 f6, ai_ cy g7 40 f7, ai_ cy g8 40 f8, az_ cy g10 40 f10]) hP hD [0, 1, 2, 3, 4, 5] [] hC_ rfl (by decide) (by decide) hk1 hFc hP1 hD1
      refine pd_K [ob12_0_ mo 0 s1 t2 s3 s4 g5 g6 g7 g8 g9 g10 s11 g12 g13 g14 g15 g16 g17 g18 g19 g20 s21 g22 g23 g24 n25_5 s26 s27 n28_6 g29 g30 g31 g32 g33, ai_ cy g5 40 f5, ai_ cy g6 40 f6, ai_ cy g7 40 f7, ai_ cy g8 40 f8, az_ cy g10 40 f10] hP hD (fun hP hD => ?_)
      obtain ⟨m_, hgm_, hcv_⟩ := g_7
      rw [h21i_] at hgm_ hcv_
      refine lv_aload_n hx hb dB_3_2_24.2.2.2.2 rfl (lv_at hl 0 rfl) ?_
      refine va_get (ci := 12) (v := .int n28_6) (C := RX12) (T := TX12) (N := 34) hx hb hts (fun _ h => List.mem_cons_of_mem _ (List.mem_append_right _ h)) hown hK.1 hP 0 rfl rfl 28 (by decide) (hts (.fieldLink RX12 201 "CutAtlasModel" "chosen" "I") (List.mem_of_getElem? (i := 2) rfl)) (fun _ h9 => h9) rfl dB_3_2_25.1 ?_
      rw [hQ]
      exact W.iret (v := n28_6) hx hb hr (fun t ht hW => ⟨⟨n28_6, (), rfl, (⟨fun _ => ⟨m_, hgm_, hcv_.2⟩, fun h => absurd (by unfold caI; (repeat' (first | with_reducible refine if_n (by omega) ?_ | with_reducible refine if_ns (by omega) ?_ | with_reducible refine if_nz (by omega) ?_ | with_reducible exact if_p (by omega) (by omega) | with_reducible exact if_ps (by omega) (by omega) | with_reducible exact if_pz (by omega) (by omega))) <;> omega) h⟩), n25_5, n28_6, by rw [ht]; exact hP, hD⟩, hS.F ht⟩) hS.2.2 dB_3_2_25.2
    · have t_3 : r_2.toInt = (0 : Int32).toInt := congrArg Int32.toInt c_3
      refine lv_bipush (v := (-2)) hx hb dB_3_2_24.2.1.2.1 (by decide) ?_
      rw [hQ]
      exact W.iret (v := (-2)) hx hb hr (fun t ht hW => ⟨⟨(-2), (), rfl, (⟨fun h => absurd h (by unfold caI; (repeat' (first | with_reducible refine if_n (by omega) ?_ | with_reducible refine if_ns (by omega) ?_ | with_reducible refine if_nz (by omega) ?_ | with_reducible exact if_p (by omega) (by omega) | with_reducible exact if_ps (by omega) (by omega) | with_reducible exact if_pz (by omega) (by omega))) <;> omega), fun _ => (by unfold caI; (repeat' (first | with_reducible refine if_n (by omega) ?_ | with_reducible refine if_ns (by omega) ?_ | with_reducible refine if_nz (by omega) ?_ | with_reducible exact if_p (by omega) (by omega) | with_reducible exact if_ps (by omega) (by omega) | with_reducible exact if_pz (by omega) (by omega))) <;> omega)⟩), s25, s28, by rw [ht]; exact hP, hD⟩, hS.F ht⟩) hS.2.2 dB_3_2_24.2.1.2.2
  · have t_1 : ¬ (0 : Int32).toInt ≤ a1.toInt := fun h => c_1 (Int32.le_iff_toInt_le.mpr h)
    refine lv_iconst (v := (-1)) hx hb dB_3_2_24.1.2.1.2 (by decide) ?_
    rw [hQ]
    exact W.iret (v := (-1)) hx hb hr (fun t ht hW => ⟨⟨(-1), (), rfl, (⟨fun h => absurd h (by unfold caI; (repeat' (first | with_reducible refine if_n (by omega) ?_ | with_reducible refine if_ns (by omega) ?_ | with_reducible refine if_nz (by omega) ?_ | with_reducible exact if_p (by omega) (by omega) | with_reducible exact if_ps (by omega) (by omega) | with_reducible exact if_pz (by omega) (by omega))) <;> omega), fun _ => (by unfold caI; (repeat' (first | with_reducible refine if_n (by omega) ?_ | with_reducible refine if_ns (by omega) ?_ | with_reducible refine if_nz (by omega) ?_ | with_reducible exact if_p (by omega) (by omega) | with_reducible exact if_ps (by omega) (by omega) | with_reducible exact if_pz (by omega) (by omega))) <;> omega)⟩), s25, s28, by rw [ht]; exact hP, hD⟩, hS.F ht⟩) hS.2.2 dB_3_2_24.1.2.2.1

set_option maxHeartbeats 4000000 in
set_option maxRecDepth 100000 in
theorem c_X12_weak2 (l : Launch) (D : va_G) (cy : Nat → ClassId) (sz : Nat) (mo : Nat) (g5 : Nat) (g6 : Nat) (g7 : Nat) (g8 : Nat) (g9 : Nat) (g10 : Nat) (g12 : Nat) (g13 : Nat) (g14 : Nat) (g15 : Nat) (g16 : Nat) (g17 : Nat) (g18 : Nat) (g19 : Nat) (g20 : Nat) (g22 : Nat) (g23 : Nat) (g24 : Nat) (g29 : Nat) (g30 : Nat) (g31 : Nat) (g32 : Nat) (g33 : Nat) (s0 : Int32) (s1 : Int32) (s3 : Int32) (s4 : Int32) (s11 : Int32) (s21 : Int32) (s25 : Int32) (s26 : Int32) (s27 : Int32) (s28 : Int32) (t2 : Int64) (f5 : Nat → Int32) (f6 : Nat → Int32) (f7 : Nat → Int32) (f8 : Nat → Int32) (f10 : Nat → Int32) (a1 : Int32) (hN : 0 ≤ s4.toInt ∧ s4.toInt ≤ 40) (hPl : 0 ≤ s3.toInt ∧ s3.toInt ≤ 12) (h21 : s21 = (-9)) (hnet : netE s3.toInt s4.toInt f6 f7 f10) (r_f6 : rng f6 40 (0) (11)) (r_f7 : rng f7 40 (0) (11)) (r_f8 : rng f8 40 (0) (2000)) : Met l yX12_weak wsX12_weak ({ frames := 5, cells := 0, slots := 0, locals := 119 }) (va_Pc [.ref mo, .int a1] (fun U => U.heap.size = sz ∧ va_P D vwCl [ob12_0_ mo s0 s1 t2 s3 s4 g5 g6 g7 g8 g9 g10 s11 g12 g13 g14 g15 g16 g17 g18 g19 g20 s21 g22 g23 g24 s25 s26 s27 s28 g29 g30 g31 g32 g33, ai_ cy g5 40 f5, ai_ cy g6 40 f6, ai_ cy g7 40 f7, ai_ cy g8 40 f8, az_ cy g10 40 f10] U.heap ∧ kk_ D cy U ∧ va_D (fun _ => True) [ob12_0_ mo s0 s1 t2 s3 s4 g5 g6 g7 g8 g9 g10 s11 g12 g13 g14 g15 g16 g17 g18 g19 g20 s21 g22 g23 g24 s25 s26 s27 s28 g29 g30 g31 g32 g33, ai_ cy g5 40 f5, ai_ cy g6 40 f6, ai_ cy g7 40 f7, ai_ cy g8 40 f8, az_ cy g10 40 f10])) (va_Qi (fun (r : Int32) (_ : Unit) => ((wkI a1.toInt s3.toInt s4.toInt (sumI (bkR f5 f10) s4.toNatClampNeg) (f10 a1.toNatClampNeg).toInt = 0 → wkA (cutR f5 f6 f7 f8 f10 (-9) s4.toNatClampNeg) s3.toNatClampNeg (nF f6 a1.toNatClampNeg) (nF f7 a1.toNatClampNeg) r) ∧ (wkI a1.toInt s3.toInt s4.toInt (sumI (bkR f5 f10) s4.toNatClampNeg) (f10 a1.toNatClampNeg).toInt ≠ 0 → r.toInt = wkI a1.toInt s3.toInt s4.toInt (sumI (bkR f5 f10) s4.toNatClampNeg) (f10 a1.toNatClampNeg).toInt))) (fun (_ : Unit) (t : State) => va_P D vwCl [ob12_0_ mo 0 s1 t2 s3 s4 g5 g6 g7 g8 g9 g10 s11 g12 g13 g14 g15 g16 g17 g18 g19 g20 s21 g22 g23 g24 s25 s26 s27 s28 g29 g30 g31 g32 g33, ai_ cy g5 40 f5, ai_ cy g6 40 f6, ai_ cy g7 40 f7, ai_ cy g8 40 f8, az_ cy g10 40 f10] t.heap ∧ va_D (va_A [ob12_0_ mo s0 s1 t2 s3 s4 g5 g6 g7 g8 g9 g10 s11 g12 g13 g14 g15 g16 g17 g18 g19 g20 s21 g22 g23 g24 s25 s26 s27 s28 g29 g30 g31 g32 g33, ai_ cy g5 40 f5, ai_ cy g6 40 f6, ai_ cy g7 40 f7, ai_ cy g8 40 f8, az_ cy g10 40 f10] sz) [ob12_0_ mo 0 s1 t2 s3 s4 g5 g6 g7 g8 g9 g10 s11 g12 g13 g14 g15 g16 g17 g18 g19 g20 s21 g22 g23 g24 s25 s26 s27 s28 g29 g30 g31 g32 g33, ai_ cy g5 40 f5, ai_ cy g6 40 f6, ai_ cy g7 40 f7, ai_ cy g8 40 f8, az_ cy g10 40 f10]) (va_A [ob12_0_ mo s0 s1 t2 s3 s4 g5 g6 g7 g8 g9 g10 s11 g12 g13 g14 g15 g16 g17 g18 g19 g20 s21 g22 g23 g24 s25 s26 s27 s28 g29 g30 g31 g32 g33, ai_ cy g5 40 f5, ai_ cy g6 40 f6, ai_ cy g7 40 f7, ai_ cy g8 40 f8, az_ cy g10 40 f10] sz)) 0 0 (va_A [ob12_0_ mo s0 s1 t2 s3 s4 g5 g6 g7 g8 g9 g10 s11 g12 g13 g14 g15 g16 g17 g18 g19 g20 s21 g22 g23 g24 s25 s26 s27 s28 g29 g30 g31 g32 g33, ai_ cy g5 40 f5, ai_ cy g6 40 f6, ai_ cy g7 40 f7, ai_ cy g8 40 f8, az_ cy g10 40 f10] sz) := by
  refine ofQ (cc := cX12_weak) (maxL := 4) (ret := (some .int)) (by decide) rfl ?_
  intro p e s m args below meth c s₁ Q hQ B hml hv
  obtain ⟨rfl, hsz, hP, hK, hD0⟩ := hv
  have hx := B.exec
  have hb := B.bytes
  have hr := B.returns
  have hts := atoms_spec (ws := wsX12_weak) B.pre
  have hown : s.vm.findClass RX12 = some m.cls := by have h_ := findClass_of_methodNamed B.named; exact h_
  have hlocks := B.notSynchronized
  subst hsz
  have hD := hD0.self (sz := s.heap.size)
  generalize hAe : va_A [ob12_0_ mo s0 s1 t2 s3 s4 g5 g6 g7 g8 g9 g10 s11 g12 g13 g14 g15 g16 g17 g18 g19 g20 s21 g22 g23 g24 s25 s26 s27 s28 g29 g30 g31 g32 g33, ai_ cy g5 40 f5, ai_ cy g6 40 f6, ai_ cy g7 40 f7, ai_ cy g8 40 f8, az_ cy g10 40 f10] s.heap.size = A at hD hQ
  have hA : ∀ q : Nat, s.heap.size ≤ q → A q := fun q h => by rw [← hAe]; exact Or.inr h
  have hS : va_S A s.heap s.heap [] := va_S.rf
  have hl := lv_entry ([.ref mo, .int a1]) (n := 4) (Nat.le_of_ble_eq_true rfl)
  rw [lg_entry_eq]
  generalize (lg_sl ([.ref mo, .int a1]) ++ List.replicate (4 - (lg_sl ([.ref mo, .int a1])).length) Slot.unset).toArray = ls at hl ⊢
  have hl : lv_has ls 4 [(0, .ref mo), (1, .int a1)] := hl
  have zm2 : ((-2) : Int32).toInt = -2 := by decide
  have zm1 : ((-1) : Int32).toInt = -1 := by decide
  have z0 : (0 : Int32).toInt = 0 := by decide
  have z1 : (1 : Int32).toInt = 1 := by decide
  have z2 : (2 : Int32).toInt = 2 := by decide
  have h21i_ : s21.toInt = -9 := by rw [h21]; decide
  have zq0 : (0 : Int32).toInt = 0 := by decide
  have zq1 : (1 : Int32).toInt = 1 := by decide
  have zq2 : (2 : Int32).toInt = 2 := by decide
  have zq3 : (3 : Int32).toInt = 3 := by decide
  have zq4 : (4 : Int32).toInt = 4 := by decide
  have zq5 : (5 : Int32).toInt = 5 := by decide
  have zqm9 : ((-9) : Int32).toInt = -9 := by decide
  have zqm1 : ((-1) : Int32).toInt = -1 := by decide
  have zqm2 : ((-2) : Int32).toInt = -2 := by decide
  have cs_ := clI (i := s3) (by omega)
  have hp2_ := p2_le (P := s3) (by omega)
  refine lv_aload_n hx hb dB_3_2_56.1.1.1.1 rfl (lv_at hl 0 rfl) ?_
  refine lv_iconst (v := 0) hx hb dB_3_2_56.1.1.1.2 (by decide) ?_
  refine va_put (ci := 12) (v := .int 0) (ty := .int) (C := RX12) (T := TX12) (N := 34) hx hb hts (fun _ h => List.mem_cons_of_mem _ (List.mem_append_right _ h)) tyX12 tyX12_ok nmX12 hown hK.1 hP hD hS 0 rfl rfl 0 (by decide) (hts (.fieldLink RX12 85 "CutAtlasModel" "thrown" "I") (List.mem_of_getElem? (i := 1) rfl)) (fun _ h9 => h9) rfl (by decide +kernel) rfl rfl (Nat.le_of_ble_eq_true rfl) dB_3_2_56.1.1.2.1 (fun H locs hP hD hS => ?_)
  refine pd_K [ob12_0_ mo 0 s1 t2 s3 s4 g5 g6 g7 g8 g9 g10 s11 g12 g13 g14 g15 g16 g17 g18 g19 g20 s21 g22 g23 g24 s25 s26 s27 s28 g29 g30 g31 g32 g33, ai_ cy g5 40 f5, ai_ cy g6 40 f6, ai_ cy g7 40 f7, ai_ cy g8 40 f8, az_ cy g10 40 f10] hP hD (fun hP hD => ?_)
  refine lv_aload_n hx hb dB_3_2_56.1.1.2.2 rfl (lv_at hl 0 rfl) ?_
  refine lv_iload_n hx hb dB_3_2_56.1.2.1.1 rfl (lv_at hl 1 rfl) ?_
  refine ct_R hP hD [ob12_0_ mo 0 s1 t2 s3 s4 g5 g6 g7 g8 g9 g10 s11 g12 g13 g14 g15 g16 g17 g18 g19 g20 s21 g22 g23 g24 s25 s26 s27 s28 g29 g30 g31 g32 g33] [0] (by decide) rfl (fun hPc hDw => ?_)
  have hFc := va_free (wc := []) hD hS hA [] rfl
  refine va_calli (va_runV (As := [.int a1]) (rest := []) ⟨hx, hb, hml, hown, hts⟩ (c_X12_isLine l D cy H.size mo g5 g6 g7 g8 g9 g10 g12 g13 g14 g15 g16 g17 g18 g19 g20 g22 g23 g24 g29 g30 g31 g32 g33 (0 : Int32) s1 s3 s4 s11 s21 s25 s26 s27 s28 t2 a1 (by first | with_reducible assumption | omega | assumption)) (cwV 1 hts gX12_weak_X12_isLine rfl rfl rfl ⟨rfl, hd_X12_isLine⟩ ⟨Nat.le_of_ble_eq_true rfl, Nat.le_of_ble_eq_true rfl⟩) ⟨bl_, va_recvX hK.1 hP (ci := 12) (q0 := 0) rfl rfl, fun U hU hW => ⟨rfl, by rw [hU], by rw [hU]; exact hPc, kk_mv hW hK, hDw⟩⟩ rfl rfl hl.1 rfl (lv_room (Nat.le_of_ble_eq_true rfl)) dB_3_2_56.1.2.1.2 ⟨Nat.le_of_ble_eq_true rfl, Nat.le_of_ble_eq_true rfl⟩) hS (fun q _ h => hFc q h) hFc (fun r_1 u t H locs ht hvm hw hB hz1 hk1 hS => ?_)
  have hP : va_P D vwCl _ H := ro_keep hP hk1
  rcases hw with ⟨w_2, e_⟩ | ⟨w_2, e_⟩
  · have e_ := e_.symm
    subst e_
    refine lv_if_ne (tgt := 15) hx hb dB_3_2_56.1.2.2.1 (by decide) (fun c_3 => ?_) (fun c_3 => ?_)
    · have _ := c_3
      refine lv_aload_n hx hb dB_3_2_56.2.1.1.2 rfl (lv_at hl 0 rfl) ?_
      refine ct_R hP hD [ob12_0_ mo 0 s1 t2 s3 s4 g5 g6 g7 g8 g9 g10 s11 g12 g13 g14 g15 g16 g17 g18 g19 g20 s21 g22 g23 g24 s25 s26 s27 s28 g29 g30 g31 g32 g33, ai_ cy g5 40 f5, az_ cy g10 40 f10] [0, 1, 5] (by decide) rfl (fun hPc hDw => ?_)
      have hFc := va_free (wc := []) hD hS hA [] rfl
      refine va_calli (va_runV (As := []) (rest := []) ⟨hx, hb, hml, hown, hts⟩ (c_X12_isWhole2 l D cy H.size mo g5 g6 g7 g8 g9 g10 g12 g13 g14 g15 g16 g17 g18 g19 g20 g22 g23 g24 g29 g30 g31 g32 g33 (0 : Int32) s1 s3 s4 s11 s21 s25 s26 s27 s28 t2 f5 f10 (by first | with_reducible assumption | omega | assumption)) (cwV 0 hts gX12_weak_X12_isWhole rfl rfl rfl ⟨rfl, hd_X12_isWhole⟩ ⟨Nat.le_of_ble_eq_true rfl, Nat.le_of_ble_eq_true rfl⟩) ⟨bl_, va_recvX hK.1 hP (ci := 12) (q0 := 0) rfl rfl, fun U hU hW => ⟨rfl, by rw [hU], by rw [hU]; exact hPc, kk_mv hW hK, hDw⟩⟩ rfl rfl hl.1 rfl (lv_room (Nat.le_of_ble_eq_true rfl)) dB_3_2_56.2.1.2.1 ⟨Nat.le_of_ble_eq_true rfl, Nat.le_of_ble_eq_true rfl⟩) hS (fun q _ h => hFc q h) hFc (fun r_4 u t H locs ht hvm hw hB hz1 hk1 hS => ?_)
      have hP : va_P D vwCl _ H := ro_keep hP hk1
      obtain ⟨f0_r_4, f1_r_4⟩ := hw
      have hw1_ := f1_r_4
      refine lv_if_eq (tgt := 31) hx hb dB_3_2_56.2.1.2.2 (by decide) (fun c_5 => ?_) (fun c_5 => ?_)
      · have t_5 : r_4.toInt = (0 : Int32).toInt := congrArg Int32.toInt c_5
        refine lv_bipush (v := (-2)) hx hb dB_3_2_57.1.1.1.2 (by decide) ?_
        rw [hQ]
        exact W.iret (v := (-2)) hx hb hr (fun t ht hW => ⟨⟨(-2), (), rfl, (⟨fun h => absurd h (by unfold wkI; (repeat' (first | with_reducible refine if_n (by omega) ?_ | with_reducible refine if_ns (by omega) ?_ | with_reducible refine if_nz (by omega) ?_ | with_reducible exact if_p (by omega) (by omega) | with_reducible exact if_ps (by omega) (by omega) | with_reducible exact if_pz (by omega) (by omega))) <;> omega), fun _ => (by unfold wkI; (repeat' (first | with_reducible refine if_n (by omega) ?_ | with_reducible refine if_ns (by omega) ?_ | with_reducible refine if_nz (by omega) ?_ | with_reducible exact if_p (by omega) (by omega) | with_reducible exact if_ps (by omega) (by omega) | with_reducible exact if_pz (by omega) (by omega))) <;> omega)⟩), by rw [ht]; exact hP, hD⟩, hS.F ht⟩) hS.2.2 dB_3_2_57.1.1.2.1
      · have t_5 : ¬ r_4.toInt = (0 : Int32).toInt := fun h => c_5 (Int32.toInt_inj.mp h)
        have hwb_ := whI_1 (P := s3.toInt) (c := sumI (bkR f5 f10) s4.toNatClampNeg) (by omega)
        have hwr_ : whC (cutR f5 f6 f7 f8 f10 s21.toInt s4.toNatClampNeg) s3.toNatClampNeg := whR hnet r_f6 r_f7 r_f8 hN.2 hwb_.2
        have hw2s_ := hwb_.1
        refine lv_aload_n hx hb dB_3_2_56.2.2.1.1 rfl (lv_at hl 0 rfl) ?_
        refine va_get (ci := 12) (v := .ref g10) (C := RX12) (T := TX12) (N := 34) hx hb hts (fun _ h => List.mem_cons_of_mem _ (List.mem_append_right _ h)) hown hK.1 hP 0 rfl rfl 10 (by decide) (hts (.fieldLink RX12 25 "CutAtlasModel" "isMissing" "[Z") (List.mem_of_getElem? (i := 2) rfl)) (fun _ h9 => h9) rfl dB_3_2_56.2.2.1.2 ?_
        refine lv_iload_n hx hb dB_3_2_56.2.2.2.1 rfl (lv_at hl 1 rfl) ?_
        have h_6 : vp_in a1 40 := in_I (by first | with_reducible assumption | omega) (by omega)
        refine va_zald hx hb hK.1 hP 5 2 rfl rfl (i := a1) h_6 dB_3_2_56.2.2.2.2 ?_
        refine lv_topi (fun y_7 ey_7 => ?_)
        have ky_7 : y_7.toInt = (f10 a1.toNatClampNeg).toInt := by rw [ey_7]
        refine lv_if_eq (tgt := 34) hx hb dB_3_2_57.1.1.1.1 (by decide) (fun c_8 => ?_) (fun c_8 => ?_)
        · have t_8 : y_7.toInt = (0 : Int32).toInt := congrArg Int32.toInt c_8
          have hev_ := p2_ev (P := s3) (by omega) (by omega)
          have cA_ := clI (i := a1) (by omega)
          have hg0_ : (f10 a1.toNatClampNeg).toInt = 0 := by omega
          have hwk_ : wkI a1.toInt s3.toInt s4.toInt (sumI (bkR f5 f10) s4.toNatClampNeg) (f10 a1.toNatClampNeg).toInt = 0 := by unfold wkI; (repeat' (first | with_reducible refine if_n (by omega) ?_ | with_reducible refine if_ns (by omega) ?_ | with_reducible refine if_nz (by omega) ?_ | with_reducible exact if_p (by omega) (by omega) | with_reducible exact if_ps (by omega) (by omega) | with_reducible exact if_pz (by omega) (by omega))) <;> omega
          have hnt_ := hnet a1.toNatClampNeg (by omega) hg0_
          have hr6_ := r_f6 a1.toNatClampNeg (by omega)
          have hr7_ := r_f7 a1.toNatClampNeg (by omega)
          refine lv_aload_n hx hb dB_3_2_57.1.1.2.2 rfl (lv_at hl 0 rfl) ?_
          refine ct_R hP hD [ob12_0_ mo 0 s1 t2 s3 s4 g5 g6 g7 g8 g9 g10 s11 g12 g13 g14 g15 g16 g17 g18 g19 g20 s21 g22 g23 g24 s25 s26 s27 s28 g29 g30 g31 g32 g33, ai_ cy g5 40 f5, ai_ cy g6 40 f6, ai_ cy g7 40 f7, ai_ cy g8 40 f8, az_ cy g10 40 f10] [0, 1, 2, 3, 4, 5] (by decide) rfl (fun hPc hDw => ?_)
          have hFc := va_free (wc := []) hD hS hA [] rfl
          refine va_calli (va_runV (As := []) (rest := []) ⟨hx, hb, hml, hown, hts⟩ (c_X12_leastOf2 l D cy H.size mo g5 g6 g7 g8 g9 g10 g12 g13 g14 g15 g16 g17 g18 g19 g20 g22 g23 g24 g29 g30 g31 g32 g33 (0 : Int32) s1 s3 s4 s11 s21 s25 s26 s27 s28 t2 f5 f6 f7 f8 f10 (by first | with_reducible assumption | omega | assumption) (by first | with_reducible assumption | omega | assumption) (by first | with_reducible assumption | assumption | omega) (by first | with_reducible assumption | assumption | omega) (by first | with_reducible assumption | omega | assumption) (by first | with_reducible assumption | assumption | omega) (by first | with_reducible assumption | assumption | omega) (by first | with_reducible assumption | assumption | omega)) (cwV 0 hts gX12_weak_X12_leastOf rfl rfl rfl ⟨rfl, hd_X12_leastOf⟩ ⟨Nat.le_of_ble_eq_true rfl, Nat.le_of_ble_eq_true rfl⟩) ⟨bl_, va_recvX hK.1 hP (ci := 12) (q0 := 0) rfl rfl, fun U hU hW => ⟨rfl, by rw [hU], by rw [hU]; exact hPc, kk_mv hW hK, hDw⟩⟩ rfl rfl hl.1 rfl (lv_room (Nat.le_of_ble_eq_true rfl)) dB_3_2_57.1.2.1.1 ⟨Nat.le_of_ble_eq_true rfl, Nat.le_of_ble_eq_true rfl⟩) hS (fun q _ h => hFc q h) hFc (fun r_9 u t H locs ht hvm hw hB hz1 hk1 hS => ?_)
          have hP : va_P D vwCl _ H := ro_keep hP hk1
          have f0_r_9 := hw
          have hgm_ := f0_r_9
          have hwi_ := wk_iff hwr_ (by omega) (by omega) (nF_lt (f := f6) (j := a1.toNatClampNeg) (P := s3) (by omega) (by omega)) (nF_lt (f := f7) (j := a1.toNatClampNeg) (P := s3) (by omega) (by omega)) hgm_
          rw [h21i_] at hgm_ hwi_
          refine lv_istore_n (lv' := [(2, .int r_9), (0, .ref mo), (1, .int a1)]) hx hb dB_3_2_57.1.2.1.2 rfl hl (by decide) rfl (fun ls hl => ?_)
          refine lv_iconst (v := 2) hx hb dB_3_2_57.1.2.2.1 (by decide) ?_
          refine lv_istore_n (lv' := [(3, .int 2), (2, .int r_9), (0, .ref mo), (1, .int a1)]) hx hb dB_3_2_57.1.2.2.2 rfl hl (by decide) rfl (fun ls hl => ?_)
          suffices LOOP_10 : ∀ (n_10 : Nat) (x3_10 : Int32) (H : Heap) (locs : List Loc) (ls : Array Slot), 4100 - x3_10.toInt < (n_10 : Int) → (2 ≤ x3_10.toInt) → (x3_10.toInt ≤ ((2 ^ s3.toNatClampNeg : Nat) : Int)) → (x3_10.toInt % 2 = 0) → (∀ n : Nat, (n : Int) < x3_10.toInt → ¬ wkQ (cutR f5 f6 f7 f8 f10 (-9) s4.toNatClampNeg) r_9.toInt (nF f6 a1.toNatClampNeg) (nF f7 a1.toNatClampNeg) n) → pd_2 D vwCl A [ob12_0_ mo 0 s1 t2 s3 s4 g5 g6 g7 g8 g9 g10 s11 g12 g13 g14 g15 g16 g17 g18 g19 g20 s21 g22 g23 g24 s25 s26 s27 s28 g29 g30 g31 g32 g33, ai_ cy g5 40 f5, ai_ cy g6 40 f6, ai_ cy g7 40 f7, ai_ cy g8 40 f8, az_ cy g10 40 f10] H → va_S A s.heap H locs → lv_has ls 4 [(3, .int x3_10), (2, .int r_9), (0, .ref mo), (1, .int a1)] → W p l e ({ frames := 5, cells := 0, slots := 0, locals := 119 } : Room) s m (([.ref mo, .int a1] : List Value).toArray) below meth c H locs 0 0 Q (F0 m 41 ls []) from LOOP_10 ((4100 - (2 : Int32).toInt).toNat + 1) (2 : Int32) _ _ _ (by omega) (by first | with_reducible assumption | omega | assumption) (by first | omega | exact p2_ge2 hw2s_) (by first | with_reducible assumption | omega | assumption) (by first | exact fun n hn h => wk_lo (by omega) h | exact wk_st v_none (by omega) (by omega) (by omega) (Or.inl (by have ha_ := hA_; have hb_ := hB_; exact bt_eqv hA_ hB_ (by omega))) | exact wk_st v_none (by omega) (by omega) (by omega) (Or.inr (fun h => absurd (hsz_.trans h) (by omega)))) ⟨hP, hD⟩ hS (lv_sub hl [0, 1, 2, 3] rfl)
          intro n_10
          induction n_10 with
          | zero =>
            intro x3_10 H locs ls hm v0_10 v1_10 v2_10 v3_10 hPD hS hl; obtain ⟨hP, hD⟩ := hPD
            exact absurd hm (by omega)
          | succ n_10 ih_10 =>
            intro x3_10 H locs ls hm v0_10 v1_10 v2_10 v3_10 hPD hS hl; obtain ⟨hP, hD⟩ := hPD
            refine lv_iload_n hx hb dB_3_2_57.2.1.1.1 rfl (lv_at hl 0 rfl) ?_
            refine lv_iconst (v := 1) hx hb dB_3_2_57.2.1.1.2 (by decide) ?_
            refine lv_aload_n hx hb dB_3_2_57.2.1.2.1 rfl (lv_at hl 2 rfl) ?_
            refine va_get (ci := 12) (v := .int s3) (C := RX12) (T := TX12) (N := 34) hx hb hts (fun _ h => List.mem_cons_of_mem _ (List.mem_append_right _ h)) hown hK.1 hP 0 rfl rfl 3 (by decide) (hts (.fieldLink RX12 88 "CutAtlasModel" "places" "I") (List.mem_of_getElem? (i := 3) rfl)) (fun _ h9 => h9) rfl dB_3_2_57.2.1.2.2 ?_
            refine lv_ishl hx hb dB_3_2_57.2.2.1.1 ?_
            refine lv_topi (fun y_11 ey_11 => ?_)
            have ty_11 : (1 ≤ y_11.toInt ∧ y_11.toInt ≤ 4096) ∧ y_11.toInt = ((2 ^ s3.toNatClampNeg : Nat) : Int) := ⟨by rw [ey_11]; exact shl1 (by omega) (by omega), shl_E (by omega) ey_11⟩
            refine lv_icmp_ge (tgt := 91) hx hb dB_3_2_57.2.2.1.2 (by decide) (fun c_12 => ?_) (fun c_12 => ?_)
            · have t_12 : y_11.toInt ≤ x3_10.toInt := Int32.le_iff_toInt_le.mp c_12
              refine lv_iconst (v := 0) hx hb dB_3_2_59.2.2.2.1 (by decide) ?_
              rw [hQ]
              exact W.iret (v := 0) hx hb hr (fun t ht hW => ⟨⟨0, (), rfl, (⟨fun _ => ⟨_, hgm_, fun h => by obtain ⟨n_, hn_, hq_⟩ := hwi_.mpr h; exact absurd hq_ (v3_10 n_ (by omega)), fun _ => by decide⟩, fun h => absurd hwk_ h⟩), by rw [ht]; exact hP, hD⟩, hS.F ht⟩) hS.2.2 dB_3_2_59.2.2.2.2
            · have t_12 : ¬ y_11.toInt ≤ x3_10.toInt := fun h => c_12 (Int32.le_iff_toInt_le.mpr h)
              refine lv_iload_n hx hb dB_3_2_57.2.2.2.1 rfl (lv_at hl 0 rfl) ?_
              refine lv_aload_n hx hb dB_3_2_57.2.2.2.2 rfl (lv_at hl 2 rfl) ?_
              refine va_get (ci := 12) (v := .ref g6) (C := RX12) (T := TX12) (N := 34) hx hb hts (fun _ h => List.mem_cons_of_mem _ (List.mem_append_right _ h)) hown hK.1 hP 0 rfl rfl 6 (by decide) (hts (.fieldLink RX12 13 "CutAtlasModel" "from" "[I") (List.mem_of_getElem? (i := 4) rfl)) (fun _ h9 => h9) rfl dB_3_2_58.1.1.1.1 ?_
              refine lv_iload_n hx hb dB_3_2_58.1.1.1.2 rfl (lv_at hl 3 rfl) ?_
              refine va_iald hx hb hK.1 hP 2 0 rfl rfl (i := a1) h_6 dB_3_2_58.1.1.2.1 ?_
              refine lv_topi (fun y_14 ey_14 => ?_)
              have ky_14 : y_14.toInt = (f6 a1.toNatClampNeg).toInt := by rw [ey_14]
              have ry_14 : 0 ≤ y_14.toInt ∧ y_14.toInt ≤ 11 := by rw [ey_14]; exact r_f6 _ (in_lt h_6)
              refine lv_ishr hx hb dB_3_2_58.1.1.2.2 ?_
              refine lv_topi (fun y_15 ey_15 => ?_)
              refine lv_iconst (v := 1) hx hb dB_3_2_58.1.2.1.1 (by decide) ?_
              refine lv_iand hx hb dB_3_2_58.1.2.1.2 ?_
              refine lv_topi (fun y_16 ey_16 => ?_)
              have hA_ : y_16.toInt = if bt x3_10 (nF f6 a1.toNatClampNeg) = true then 1 else 0 := by have h_ := bI_w (x := x3_10) (y := y_14) (by omega) (by omega) ey_15 ey_16; rw [ey_14] at h_; exact h_
              refine lv_iload_n hx hb dB_3_2_58.1.2.2.1 rfl (lv_at hl 0 rfl) ?_
              refine lv_aload_n hx hb dB_3_2_58.1.2.2.2 rfl (lv_at hl 2 rfl) ?_
              refine va_get (ci := 12) (v := .ref g7) (C := RX12) (T := TX12) (N := 34) hx hb hts (fun _ h => List.mem_cons_of_mem _ (List.mem_append_right _ h)) hown hK.1 hP 0 rfl rfl 7 (by decide) (hts (.fieldLink RX12 16 "CutAtlasModel" "to" "[I") (List.mem_of_getElem? (i := 5) rfl)) (fun _ h9 => h9) rfl dB_3_2_58.2.1.1.1 ?_
              refine lv_iload_n hx hb dB_3_2_58.2.1.1.2 rfl (lv_at hl 3 rfl) ?_
              refine va_iald hx hb hK.1 hP 3 0 rfl rfl (i := a1) h_6 dB_3_2_58.2.1.2.1 ?_
              refine lv_topi (fun y_18 ey_18 => ?_)
              have ky_18 : y_18.toInt = (f7 a1.toNatClampNeg).toInt := by rw [ey_18]
              have ry_18 : 0 ≤ y_18.toInt ∧ y_18.toInt ≤ 11 := by rw [ey_18]; exact r_f7 _ (in_lt h_6)
              refine lv_ishr hx hb dB_3_2_58.2.1.2.2 ?_
              refine lv_topi (fun y_19 ey_19 => ?_)
              refine lv_iconst (v := 1) hx hb dB_3_2_58.2.2.1.1 (by decide) ?_
              refine lv_iand hx hb dB_3_2_58.2.2.1.2 ?_
              refine lv_topi (fun y_20 ey_20 => ?_)
              have hB_ : y_20.toInt = if bt x3_10 (nF f7 a1.toNatClampNeg) = true then 1 else 0 := by have h_ := bI_w (x := x3_10) (y := y_18) (by omega) (by omega) ey_19 ey_20; rw [ey_18] at h_; exact h_
              refine lv_icmp_eq (tgt := 85) hx hb dB_3_2_58.2.2.2.1 (by decide) (fun c_21 => ?_) (fun c_21 => ?_)
              · have t_21 : y_16.toInt = y_20.toInt := congrArg Int32.toInt c_21
                obtain ⟨y_22, ey_22⟩ : ∃ y : Int32, y = x3_10 + 2 := ⟨_, rfl⟩
                have ty_22 : y_22.toInt = x3_10.toInt + (2 : Int32).toInt := by rw [ey_22]; exact addI (by omega) (by omega)
                refine lv_iinc (v := y_22) (lv' := [(3, .int y_22), (2, .int r_9), (0, .ref mo), (1, .int a1)]) hx hb dB_3_2_59.2.1.2 hl (k := 0) rfl (by rw [ey_22]; rfl) (by decide) rfl (fun ls hl => ?_)
                refine lv_goto (tgt := 41) hx hb dB_3_2_59.2.2.1 (by decide) ?_
                exact ih_10 y_22 _ _ _ (by omega) (by first | with_reducible assumption | omega | assumption) (by first | omega | exact p2_ge2 hw2s_) (by first | with_reducible assumption | omega | assumption) (by first | exact fun n hn h => wk_lo (by omega) h | exact wk_st v3_10 (by omega) (by omega) (by omega) (Or.inl (by have ha_ := hA_; have hb_ := hB_; exact bt_eqv hA_ hB_ (by omega))) | exact wk_st v3_10 (by omega) (by omega) (by omega) (Or.inr (fun h => absurd (hsz_.trans h) (by omega)))) ⟨hP, hD⟩ hS (lv_sub hl [0, 1, 2, 3] rfl)
              · have t_21 : ¬ y_16.toInt = y_20.toInt := fun h => c_21 (Int32.toInt_inj.mp h)
                refine lv_aload_n hx hb dB_3_2_58.2.2.2.2 rfl (lv_at hl 2 rfl) ?_
                refine lv_iload_n hx hb dB_3_2_59.1.1.1 rfl (lv_at hl 0 rfl) ?_
                refine ct_R hP hD [ob12_0_ mo 0 s1 t2 s3 s4 g5 g6 g7 g8 g9 g10 s11 g12 g13 g14 g15 g16 g17 g18 g19 g20 s21 g22 g23 g24 s25 s26 s27 s28 g29 g30 g31 g32 g33, ai_ cy g5 40 f5, ai_ cy g6 40 f6, ai_ cy g7 40 f7, ai_ cy g8 40 f8, az_ cy g10 40 f10] [0, 1, 2, 3, 4, 5] (by decide) rfl (fun hPc hDw => ?_)
                have hFc := va_free (wc := []) hD hS hA [] rfl
                refine va_calli (va_runV (As := [.int x3_10]) (rest := []) ⟨hx, hb, hml, hown, hts⟩ (c_X12_sizeOf2 l D cy H.size mo g5 g6 g7 g8 g9 g10 g12 g13 g14 g15 g16 g17 g18 g19 g20 g22 g23 g24 g29 g30 g31 g32 g33 (0 : Int32) s1 s3 s4 s11 s21 s25 s26 s27 s28 t2 f5 f6 f7 f8 f10 x3_10 (by first | with_reducible assumption | omega | assumption) (by first | with_reducible assumption | assumption | omega) (by first | with_reducible assumption | assumption | omega) (by first | with_reducible assumption | assumption | omega)) (cwV 1 hts gX12_weak_X12_sizeOf rfl rfl rfl ⟨rfl, hd_X12_sizeOf⟩ ⟨Nat.le_of_ble_eq_true rfl, Nat.le_of_ble_eq_true rfl⟩) ⟨bl_, va_recvX hK.1 hP (ci := 12) (q0 := 0) rfl rfl, fun U hU hW => ⟨rfl, by rw [hU], by rw [hU]; exact hPc, kk_mv hW hK, hDw⟩⟩ rfl rfl hl.1 rfl (lv_room (Nat.le_of_ble_eq_true rfl)) dB_3_2_59.1.1.2 ⟨Nat.le_of_ble_eq_true rfl, Nat.le_of_ble_eq_true rfl⟩) hS (fun q _ h => hFc q h) hFc (fun r_23 u t H locs ht hvm hw hB hz1 hk1 hS => ?_)
                have hP : va_P D vwCl _ H := ro_keep hP hk1
                have f0_r_23 := hw
                have hsz_ := f0_r_23
                rw [h21i_] at hsz_
                refine lv_iload_n hx hb dB_3_2_59.1.2.1 rfl (lv_at hl 1 rfl) ?_
                refine lv_icmp_ne (tgt := 85) hx hb dB_3_2_59.1.2.2.1 (by decide) (fun c_24 => ?_) (fun c_24 => ?_)
                · have t_24 : ¬ r_23.toInt = r_9.toInt := fun h => c_24 (Int32.toInt_inj.mp h)
                  obtain ⟨y_25, ey_25⟩ : ∃ y : Int32, y = x3_10 + 2 := ⟨_, rfl⟩
                  have ty_25 : y_25.toInt = x3_10.toInt + (2 : Int32).toInt := by rw [ey_25]; exact addI (by omega) (by omega)
                  refine lv_iinc (v := y_25) (lv' := [(3, .int y_25), (2, .int r_9), (0, .ref mo), (1, .int a1)]) hx hb dB_3_2_59.2.1.2 hl (k := 0) rfl (by rw [ey_25]; rfl) (by decide) rfl (fun ls hl => ?_)
                  refine lv_goto (tgt := 41) hx hb dB_3_2_59.2.2.1 (by decide) ?_
                  exact ih_10 y_25 _ _ _ (by omega) (by first | with_reducible assumption | omega | assumption) (by first | omega | exact p2_ge2 hw2s_) (by first | with_reducible assumption | omega | assumption) (by first | exact fun n hn h => wk_lo (by omega) h | exact wk_st v3_10 (by omega) (by omega) (by omega) (Or.inl (by have ha_ := hA_; have hb_ := hB_; exact bt_eqv hA_ hB_ (by omega))) | exact wk_st v3_10 (by omega) (by omega) (by omega) (Or.inr (fun h => absurd (hsz_.trans h) (by omega)))) ⟨hP, hD⟩ hS (lv_sub hl [0, 1, 2, 3] rfl)
                · have t_24 : r_23.toInt = r_9.toInt := congrArg Int32.toInt c_24
                  refine lv_iconst (v := 1) hx hb dB_3_2_59.1.2.2.2 (by decide) ?_
                  rw [hQ]
                  exact W.iret (v := 1) hx hb hr (fun t ht hW => ⟨⟨1, (), rfl, (⟨fun _ => ⟨_, hgm_, fun _ => by decide, fun h => absurd (hwi_.mp ⟨x3_10.toNatClampNeg, by have c_ := clI (i := x3_10) (by omega); omega, wk_at (by omega) (by omega) (bt_neq hA_ hB_ (by omega)) (hsz_.symm.trans (by omega))⟩) h⟩, fun h => absurd hwk_ h⟩), by rw [ht]; exact hP, hD⟩, hS.F ht⟩) hS.2.2 dB_3_2_59.2.1.1
        · have t_8 : ¬ y_7.toInt = (0 : Int32).toInt := fun h => c_8 (Int32.toInt_inj.mp h)
          refine lv_bipush (v := (-2)) hx hb dB_3_2_57.1.1.1.2 (by decide) ?_
          rw [hQ]
          exact W.iret (v := (-2)) hx hb hr (fun t ht hW => ⟨⟨(-2), (), rfl, (⟨fun h => absurd h (by unfold wkI; (repeat' (first | with_reducible refine if_n (by omega) ?_ | with_reducible refine if_ns (by omega) ?_ | with_reducible refine if_nz (by omega) ?_ | with_reducible exact if_p (by omega) (by omega) | with_reducible exact if_ps (by omega) (by omega) | with_reducible exact if_pz (by omega) (by omega))) <;> omega), fun _ => (by unfold wkI; (repeat' (first | with_reducible refine if_n (by omega) ?_ | with_reducible refine if_ns (by omega) ?_ | with_reducible refine if_nz (by omega) ?_ | with_reducible exact if_p (by omega) (by omega) | with_reducible exact if_ps (by omega) (by omega) | with_reducible exact if_pz (by omega) (by omega))) <;> omega)⟩), by rw [ht]; exact hP, hD⟩, hS.F ht⟩) hS.2.2 dB_3_2_57.1.1.2.1
    · exact absurd c_3 (by decide)
  · have e_ := e_.symm
    subst e_
    refine lv_if_ne (tgt := 15) hx hb dB_3_2_56.1.2.2.1 (by decide) (fun c_26 => ?_) (fun c_26 => ?_)
    · exact absurd c_26 (by decide)
    · have _ := c_26
      refine lv_iconst (v := (-1)) hx hb dB_3_2_56.1.2.2.2 (by decide) ?_
      rw [hQ]
      exact W.iret (v := (-1)) hx hb hr (fun t ht hW => ⟨⟨(-1), (), rfl, (⟨fun h => absurd h (by unfold wkI; (repeat' (first | with_reducible refine if_n (by omega) ?_ | with_reducible refine if_ns (by omega) ?_ | with_reducible refine if_nz (by omega) ?_ | with_reducible exact if_p (by omega) (by omega) | with_reducible exact if_ps (by omega) (by omega) | with_reducible exact if_pz (by omega) (by omega))) <;> omega), fun _ => (by unfold wkI; (repeat' (first | with_reducible refine if_n (by omega) ?_ | with_reducible refine if_ns (by omega) ?_ | with_reducible refine if_nz (by omega) ?_ | with_reducible exact if_p (by omega) (by omega) | with_reducible exact if_ps (by omega) (by omega) | with_reducible exact if_pz (by omega) (by omega))) <;> omega)⟩), by rw [ht]; exact hP, hD⟩, hS.F ht⟩) hS.2.2 dB_3_2_56.2.1.1.1
end

section
set_option maxHeartbeats 4000000 in
set_option maxRecDepth 100000 in
theorem c_X12_part2 (l : Launch) (D : va_G) (cy : Nat → ClassId) (sz : Nat) (mo : Nat) (g5 : Nat) (g6 : Nat) (g7 : Nat) (g8 : Nat) (g9 : Nat) (g10 : Nat) (g12 : Nat) (g13 : Nat) (g14 : Nat) (g15 : Nat) (g16 : Nat) (g17 : Nat) (g18 : Nat) (g19 : Nat) (g20 : Nat) (g22 : Nat) (g23 : Nat) (g24 : Nat) (g29 : Nat) (g30 : Nat) (g31 : Nat) (g32 : Nat) (g33 : Nat) (s0 : Int32) (s1 : Int32) (s3 : Int32) (s4 : Int32) (s11 : Int32) (s21 : Int32) (s25 : Int32) (s26 : Int32) (s27 : Int32) (s28 : Int32) (t2 : Int64) (f5 : Nat → Int32) (f6 : Nat → Int32) (f7 : Nat → Int32) (f8 : Nat → Int32) (f10 : Nat → Int32) (a1 : Int32) (a2 : Int32) (hN : 0 ≤ s4.toInt ∧ s4.toInt ≤ 40) (hPl : 0 ≤ s3.toInt ∧ s3.toInt ≤ 12) (h21 : s21 = (-9)) (hnet : netE s3.toInt s4.toInt f6 f7 f10) (r_f6 : rng f6 40 (0) (11)) (r_f7 : rng f7 40 (0) (11)) (r_f8 : rng f8 40 (0) (2000)) : Met l yX12_part wsX12_part ({ frames := 4, cells := 0, slots := 0, locals := 96 }) (va_Pc [.ref mo, .int a1, .int a2] (fun U => U.heap.size = sz ∧ va_P D vwCl [ob12_0_ mo s0 s1 t2 s3 s4 g5 g6 g7 g8 g9 g10 s11 g12 g13 g14 g15 g16 g17 g18 g19 g20 s21 g22 g23 g24 s25 s26 s27 s28 g29 g30 g31 g32 g33, ai_ cy g5 40 f5, ai_ cy g6 40 f6, ai_ cy g7 40 f7, ai_ cy g8 40 f8, az_ cy g10 40 f10] U.heap ∧ kk_ D cy U ∧ va_D (fun _ => True) [ob12_0_ mo s0 s1 t2 s3 s4 g5 g6 g7 g8 g9 g10 s11 g12 g13 g14 g15 g16 g17 g18 g19 g20 s21 g22 g23 g24 s25 s26 s27 s28 g29 g30 g31 g32 g33, ai_ cy g5 40 f5, ai_ cy g6 40 f6, ai_ cy g7 40 f7, ai_ cy g8 40 f8, az_ cy g10 40 f10])) (va_Qi (fun (r : Int32) (_ : Unit) => ((prI a1.toInt a2.toInt s3.toInt (sumI (bkR f5 f10) s4.toNatClampNeg) = 0 → prA (lam (cutR f5 f6 f7 f8 f10 (-9) s4.toNatClampNeg)) s3.toNatClampNeg a1.toInt a2 r) ∧ (prI a1.toInt a2.toInt s3.toInt (sumI (bkR f5 f10) s4.toNatClampNeg) ≠ 0 → r.toInt = prI a1.toInt a2.toInt s3.toInt (sumI (bkR f5 f10) s4.toNatClampNeg)))) (fun (_ : Unit) (t : State) => va_P D vwCl [ob12_0_ mo 0 s1 t2 s3 s4 g5 g6 g7 g8 g9 g10 s11 g12 g13 g14 g15 g16 g17 g18 g19 g20 s21 g22 g23 g24 s25 s26 s27 s28 g29 g30 g31 g32 g33, ai_ cy g5 40 f5, ai_ cy g6 40 f6, ai_ cy g7 40 f7, ai_ cy g8 40 f8, az_ cy g10 40 f10] t.heap ∧ va_D (va_A [ob12_0_ mo s0 s1 t2 s3 s4 g5 g6 g7 g8 g9 g10 s11 g12 g13 g14 g15 g16 g17 g18 g19 g20 s21 g22 g23 g24 s25 s26 s27 s28 g29 g30 g31 g32 g33, ai_ cy g5 40 f5, ai_ cy g6 40 f6, ai_ cy g7 40 f7, ai_ cy g8 40 f8, az_ cy g10 40 f10] sz) [ob12_0_ mo 0 s1 t2 s3 s4 g5 g6 g7 g8 g9 g10 s11 g12 g13 g14 g15 g16 g17 g18 g19 g20 s21 g22 g23 g24 s25 s26 s27 s28 g29 g30 g31 g32 g33, ai_ cy g5 40 f5, ai_ cy g6 40 f6, ai_ cy g7 40 f7, ai_ cy g8 40 f8, az_ cy g10 40 f10]) (va_A [ob12_0_ mo s0 s1 t2 s3 s4 g5 g6 g7 g8 g9 g10 s11 g12 g13 g14 g15 g16 g17 g18 g19 g20 s21 g22 g23 g24 s25 s26 s27 s28 g29 g30 g31 g32 g33, ai_ cy g5 40 f5, ai_ cy g6 40 f6, ai_ cy g7 40 f7, ai_ cy g8 40 f8, az_ cy g10 40 f10] sz)) 0 0 (va_A [ob12_0_ mo s0 s1 t2 s3 s4 g5 g6 g7 g8 g9 g10 s11 g12 g13 g14 g15 g16 g17 g18 g19 g20 s21 g22 g23 g24 s25 s26 s27 s28 g29 g30 g31 g32 g33, ai_ cy g5 40 f5, ai_ cy g6 40 f6, ai_ cy g7 40 f7, ai_ cy g8 40 f8, az_ cy g10 40 f10] sz) := by
  refine ofQ (cc := cX12_part) (maxL := 8) (ret := (some .int)) (by decide) rfl ?_
  intro p e s m args below meth c s₁ Q hQ B hml hv
  obtain ⟨rfl, hsz, hP, hK, hD0⟩ := hv
  have hx := B.exec
  have hb := B.bytes
  have hr := B.returns
  have hts := atoms_spec (ws := wsX12_part) B.pre
  have hown : s.vm.findClass RX12 = some m.cls := by have h_ := findClass_of_methodNamed B.named; exact h_
  have hlocks := B.notSynchronized
  subst hsz
  have hD := hD0.self (sz := s.heap.size)
  generalize hAe : va_A [ob12_0_ mo s0 s1 t2 s3 s4 g5 g6 g7 g8 g9 g10 s11 g12 g13 g14 g15 g16 g17 g18 g19 g20 s21 g22 g23 g24 s25 s26 s27 s28 g29 g30 g31 g32 g33, ai_ cy g5 40 f5, ai_ cy g6 40 f6, ai_ cy g7 40 f7, ai_ cy g8 40 f8, az_ cy g10 40 f10] s.heap.size = A at hD hQ
  have hA : ∀ q : Nat, s.heap.size ≤ q → A q := fun q h => by rw [← hAe]; exact Or.inr h
  have hS : va_S A s.heap s.heap [] := va_S.rf
  have hl := lv_entry ([.ref mo, .int a1, .int a2]) (n := 8) (Nat.le_of_ble_eq_true rfl)
  rw [lg_entry_eq]
  generalize (lg_sl ([.ref mo, .int a1, .int a2]) ++ List.replicate (8 - (lg_sl ([.ref mo, .int a1, .int a2])).length) Slot.unset).toArray = ls at hl ⊢
  have hl : lv_has ls 8 [(0, .ref mo), (1, .int a1), (2, .int a2)] := hl
  have zm9 : ((-9) : Int32).toInt = -9 := by decide
  have zm2 : ((-2) : Int32).toInt = -2 := by decide
  have zm1 : ((-1) : Int32).toInt = -1 := by decide
  have z0 : (0 : Int32).toInt = 0 := by decide
  have z1 : (1 : Int32).toInt = 1 := by decide
  have h21i_ : s21.toInt = -9 := by rw [h21]; decide
  have zq0 : (0 : Int32).toInt = 0 := by decide
  have zq1 : (1 : Int32).toInt = 1 := by decide
  have zq2 : (2 : Int32).toInt = 2 := by decide
  have zq3 : (3 : Int32).toInt = 3 := by decide
  have zq4 : (4 : Int32).toInt = 4 := by decide
  have zq5 : (5 : Int32).toInt = 5 := by decide
  have zqm9 : ((-9) : Int32).toInt = -9 := by decide
  have zqm1 : ((-1) : Int32).toInt = -1 := by decide
  have zqm2 : ((-2) : Int32).toInt = -2 := by decide
  have cs_ := clI (i := s3) (by omega)
  refine lv_aload_n hx hb dB_3_2_37.1.1.1.1 rfl (lv_at hl 0 rfl) ?_
  refine lv_iconst (v := 0) hx hb dB_3_2_37.1.1.1.2 (by decide) ?_
  refine va_put (ci := 12) (v := .int 0) (ty := .int) (C := RX12) (T := TX12) (N := 34) hx hb hts (fun _ h => List.mem_cons_of_mem _ (List.mem_append_right _ h)) tyX12 tyX12_ok nmX12 hown hK.1 hP hD hS 0 rfl rfl 0 (by decide) (hts (.fieldLink RX12 85 "CutAtlasModel" "thrown" "I") (List.mem_of_getElem? (i := 1) rfl)) (fun _ h9 => h9) rfl (by decide +kernel) rfl rfl (Nat.le_of_ble_eq_true rfl) dB_3_2_37.1.1.2.1 (fun H locs hP hD hS => ?_)
  refine pd_K [ob12_0_ mo 0 s1 t2 s3 s4 g5 g6 g7 g8 g9 g10 s11 g12 g13 g14 g15 g16 g17 g18 g19 g20 s21 g22 g23 g24 s25 s26 s27 s28 g29 g30 g31 g32 g33, ai_ cy g5 40 f5, ai_ cy g6 40 f6, ai_ cy g7 40 f7, ai_ cy g8 40 f8, az_ cy g10 40 f10] hP hD (fun hP hD => ?_)
  refine lv_iload_n hx hb dB_3_2_37.1.1.2.2 rfl (lv_at hl 1 rfl) ?_
  refine lv_if_ge (tgt := 11) hx hb dB_3_2_37.1.2.1.1 (by decide) (fun c_1 => ?_) (fun c_1 => ?_)
  · have t_1 : (0 : Int32).toInt ≤ a1.toInt := Int32.le_iff_toInt_le.mp c_1
    refine lv_aload_n hx hb dB_3_2_37.1.2.2.2 rfl (lv_at hl 0 rfl) ?_
    refine ct_R hP hD [ob12_0_ mo 0 s1 t2 s3 s4 g5 g6 g7 g8 g9 g10 s11 g12 g13 g14 g15 g16 g17 g18 g19 g20 s21 g22 g23 g24 s25 s26 s27 s28 g29 g30 g31 g32 g33, ai_ cy g5 40 f5, az_ cy g10 40 f10] [0, 1, 5] (by decide) rfl (fun hPc hDw => ?_)
    have hFc := va_free (wc := []) hD hS hA [] rfl
    refine va_calli (va_runV (As := []) (rest := []) ⟨hx, hb, hml, hown, hts⟩ (c_X12_isWhole2 l D cy H.size mo g5 g6 g7 g8 g9 g10 g12 g13 g14 g15 g16 g17 g18 g19 g20 g22 g23 g24 g29 g30 g31 g32 g33 (0 : Int32) s1 s3 s4 s11 s21 s25 s26 s27 s28 t2 f5 f10 (by first | with_reducible assumption | omega | assumption)) (cwV 0 hts gX12_part_X12_isWhole rfl rfl rfl ⟨rfl, hd_X12_isWhole⟩ ⟨Nat.le_of_ble_eq_true rfl, Nat.le_of_ble_eq_true rfl⟩) ⟨bl_, va_recvX hK.1 hP (ci := 12) (q0 := 0) rfl rfl, fun U hU hW => ⟨rfl, by rw [hU], by rw [hU]; exact hPc, kk_mv hW hK, hDw⟩⟩ rfl rfl hl.1 rfl (lv_room (Nat.le_of_ble_eq_true rfl)) dB_3_2_37.2.1.1.1 ⟨Nat.le_of_ble_eq_true rfl, Nat.le_of_ble_eq_true rfl⟩) hS (fun q _ h => hFc q h) hFc (fun r_2 u t H locs ht hvm hw hB hz1 hk1 hS => ?_)
    have hP : va_P D vwCl _ H := ro_keep hP hk1
    obtain ⟨f0_r_2, f1_r_2⟩ := hw
    have hw1_ := f1_r_2
    refine lv_if_ne (tgt := 21) hx hb dB_3_2_37.2.1.1.2 (by decide) (fun c_3 => ?_) (fun c_3 => ?_)
    · have t_3 : ¬ r_2.toInt = (0 : Int32).toInt := fun h => c_3 (Int32.toInt_inj.mp h)
      have hwb_ := whI_1 (P := s3.toInt) (c := sumI (bkR f5 f10) s4.toNatClampNeg) (by omega)
      have hwr_ : whC (cutR f5 f6 f7 f8 f10 s21.toInt s4.toNatClampNeg) s3.toNatClampNeg := whR hnet r_f6 r_f7 r_f8 hN.2 hwb_.2
      have hw2s_ := hwb_.1
      refine lv_iload_n hx hb dB_3_2_37.2.2.1.1 rfl (lv_at hl 2 rfl) ?_
      refine lv_iconst (v := (-1)) hx hb dB_3_2_37.2.2.1.2 (by decide) ?_
      refine lv_icmp_eq (tgt := 36) hx hb dB_3_2_37.2.2.2.1 (by decide) (fun c_4 => ?_) (fun c_4 => ?_)
      · have t_4 : a2.toInt = ((-1) : Int32).toInt := congrArg Int32.toInt c_4
        have hpr0_ : prI a1.toInt a2.toInt s3.toInt (sumI (bkR f5 f10) s4.toNatClampNeg) = 0 := by unfold prI; (repeat' (first | with_reducible refine if_n (by omega) ?_ | with_reducible refine if_ns (by omega) ?_ | with_reducible refine if_nz (by omega) ?_ | with_reducible exact if_p (by omega) (by omega) | with_reducible exact if_ps (by omega) (by omega) | with_reducible exact if_pz (by omega) (by omega))) <;> omega
        have hws_ : whC (cutR f5 f6 f7 f8 f10 (-9) s4.toNatClampNeg) s3.toNatClampNeg := by have h_ := hwr_; rw [h21i_] at h_; exact h_
        refine lv_iconst (v := 0) hx hb dB_3_2_38.1.2.1.2 (by decide) ?_
        refine lv_istore_n (lv' := [(3, .int 0), (0, .ref mo), (1, .int a1), (2, .int a2)]) hx hb dB_3_2_38.1.2.2.1 rfl hl (by decide) rfl (fun ls hl => ?_)
        refine lv_bipush (v := (-9)) hx hb dB_3_2_38.1.2.2.2 (by decide) ?_
        refine lv_istore (lv' := [(4, .int (-9)), (3, .int 0), (0, .ref mo), (1, .int a1), (2, .int a2)]) hx hb dB_3_2_38.2.1.1.1 hl (by decide) rfl (fun ls hl => ?_)
        refine lv_iconst (v := 0) hx hb dB_3_2_38.2.1.1.2 (by decide) ?_
        refine lv_istore (lv' := [(5, .int 0), (4, .int (-9)), (3, .int 0), (0, .ref mo), (1, .int a1), (2, .int a2)]) hx hb dB_3_2_38.2.1.2.1 hl (by decide) rfl (fun ls hl => ?_)
        suffices LOOP_5 : ∀ (n_5 : Nat) (x5_5 : Int32) (x4_5 : Int32) (x3_5 : Int32) (H : Heap) (locs : List Loc) (ls : Array Slot), s3.toInt - x5_5.toInt < (n_5 : Int) → (0 ≤ x5_5.toInt) → (x5_5.toInt ≤ s3.toInt) → (0 ≤ x3_5.toInt ∧ x3_5.toInt ≤ x5_5.toInt) → (prW (lam (cutR f5 f6 f7 f8 f10 (-9) s4.toNatClampNeg)) a1.toInt a2.toInt x5_5.toNatClampNeg x3_5 x4_5) → pd_2 D vwCl A [ob12_0_ mo 0 s1 t2 s3 s4 g5 g6 g7 g8 g9 g10 s11 g12 g13 g14 g15 g16 g17 g18 g19 g20 s21 g22 g23 g24 s25 s26 s27 s28 g29 g30 g31 g32 g33, ai_ cy g5 40 f5, ai_ cy g6 40 f6, ai_ cy g7 40 f7, ai_ cy g8 40 f8, az_ cy g10 40 f10] H → va_S A s.heap H locs → lv_has ls 8 [(5, .int x5_5), (4, .int x4_5), (3, .int x3_5), (0, .ref mo), (1, .int a1), (2, .int a2)] → W p l e ({ frames := 4, cells := 0, slots := 0, locals := 96 } : Room) s m (([.ref mo, .int a1, .int a2] : List Value).toArray) below meth c H locs 0 0 Q (F0 m 45 ls []) from LOOP_5 ((s3.toInt - (0 : Int32).toInt).toNat + 1) (0 : Int32) ((-9) : Int32) (0 : Int32) _ _ _ (by omega) (by first | with_reducible assumption | omega | assumption) (by first | with_reducible assumption | omega | assumption) (by first | with_reducible assumption | omega | assumption) (by first | exact prW_0 | exact prW_st (nw := decide (S[w].toInt = 1)) (has := decide (S[has].toInt = 1)) v_none (by omega) (by omega) (by omega) hnw_ hha_ (by first | exact Or.inl ⟨decide_eq_true (by omega), by omega⟩ | exact Or.inr ⟨decide_eq_false (by omega), by omega⟩) (by first | exact Or.inl ⟨decide_eq_true (by omega), decide_eq_true (by omega), by omega, rfl⟩ | exact Or.inr ⟨fun h => absurd (of_decide_eq_true h.1) (by omega), rfl⟩ | exact Or.inr ⟨fun h => absurd (of_decide_eq_true h.2.1) (by omega), rfl⟩ | exact Or.inr ⟨fun h => absurd h.2.2 (by omega), rfl⟩)) ⟨hP, hD⟩ hS (lv_sub hl [0, 1, 2, 3, 4, 5] rfl)
        intro n_5
        induction n_5 with
        | zero =>
          intro x5_5 x4_5 x3_5 H locs ls hm v0_5 v1_5 v2_5 v3_5 hPD hS hl; obtain ⟨hP, hD⟩ := hPD
          exact absurd hm (by omega)
        | succ n_5 ih_5 =>
          intro x5_5 x4_5 x3_5 H locs ls hm v0_5 v1_5 v2_5 v3_5 hPD hS hl; obtain ⟨hP, hD⟩ := hPD
          refine lv_iload hx hb dB_3_2_38.2.1.2.2 (lv_at hl 0 rfl) ?_
          refine lv_aload_n hx hb dB_3_2_38.2.2.1.1 rfl (lv_at hl 3 rfl) ?_
          refine va_get (ci := 12) (v := .int s3) (C := RX12) (T := TX12) (N := 34) hx hb hts (fun _ h => List.mem_cons_of_mem _ (List.mem_append_right _ h)) hown hK.1 hP 0 rfl rfl 3 (by decide) (hts (.fieldLink RX12 88 "CutAtlasModel" "places" "I") (List.mem_of_getElem? (i := 2) rfl)) (fun _ h9 => h9) rfl dB_3_2_38.2.2.1.2 ?_
          refine lv_icmp_ge (tgt := 167) hx hb dB_3_2_38.2.2.2.1 (by decide) (fun c_6 => ?_) (fun c_6 => ?_)
          · have t_6 : s3.toInt ≤ x5_5.toInt := Int32.le_iff_toInt_le.mp c_6
            refine lv_iload_n hx hb dB_3_2_42.2.1.1.2 rfl (lv_at hl 5 rfl) ?_
            refine lv_iconst (v := (-1)) hx hb dB_3_2_42.2.1.2.1 (by decide) ?_
            refine lv_icmp_ne (tgt := 176) hx hb dB_3_2_42.2.1.2.2 (by decide) (fun c_7 => ?_) (fun c_7 => ?_)
            · have t_7 : ¬ a2.toInt = ((-1) : Int32).toInt := fun h => c_7 (Int32.toInt_inj.mp h)
              refine lv_iload hx hb dB_3_2_42.2.2.2.1 (lv_at hl 1 rfl) ?_
              rw [hQ]
              exact W.iret (v := x4_5) hx hb hr (fun t ht hW => ⟨⟨x4_5, (), rfl, (⟨fun _ => prW_end (fun a b _ _ h => lam_cm hws_ h) (fun a b c _ _ _ h1 h2 h3 => lam_um hws_ h1 h2 h3) (by rw [show s3 = x5_5 from Int32.toInt_inj.mp (by omega)]; exact v3_5) (by omega) (by first | exact Or.inl ⟨by omega, rfl⟩ | exact Or.inr ⟨by omega, rfl⟩), fun h => absurd hpr0_ h⟩), by rw [ht]; exact hP, hD⟩, hS.F ht⟩) hS.2.2 dB_3_2_42.2.2.2.2
            · have t_7 : a2.toInt = ((-1) : Int32).toInt := congrArg Int32.toInt c_7
              refine lv_iload_n hx hb dB_3_2_42.2.2.1.1 rfl (lv_at hl 2 rfl) ?_
              refine lv_goto (tgt := 178) hx hb dB_3_2_42.2.2.1.2 (by decide) ?_
              rw [hQ]
              exact W.iret (v := x3_5) hx hb hr (fun t ht hW => ⟨⟨x3_5, (), rfl, (⟨fun _ => prW_end (fun a b _ _ h => lam_cm hws_ h) (fun a b c _ _ _ h1 h2 h3 => lam_um hws_ h1 h2 h3) (by rw [show s3 = x5_5 from Int32.toInt_inj.mp (by omega)]; exact v3_5) (by omega) (by first | exact Or.inl ⟨by omega, rfl⟩ | exact Or.inr ⟨by omega, rfl⟩), fun h => absurd hpr0_ h⟩), by rw [ht]; exact hP, hD⟩, hS.F ht⟩) hS.2.2 dB_3_2_42.2.2.2.2
          · have t_6 : ¬ s3.toInt ≤ x5_5.toInt := fun h => c_6 (Int32.le_iff_toInt_le.mpr h)
            refine lv_iconst (v := 1) hx hb dB_3_2_38.2.2.2.2 (by decide) ?_
            refine lv_istore (lv' := [(6, .int 1), (5, .int x5_5), (4, .int x4_5), (3, .int x3_5), (0, .ref mo), (1, .int a1), (2, .int a2)]) hx hb dB_3_2_39.1.1.1.1 hl (by decide) rfl (fun ls hl => ?_)
            refine lv_iconst (v := 0) hx hb dB_3_2_39.1.1.1.2 (by decide) ?_
            refine lv_istore (lv' := [(7, .int 0), (6, .int 1), (5, .int x5_5), (4, .int x4_5), (3, .int x3_5), (0, .ref mo), (1, .int a1), (2, .int a2)]) hx hb dB_3_2_39.1.1.2.1 hl (by decide) rfl (fun ls hl => ?_)
            suffices LOOP_8 : ∀ (n_8 : Nat) (x7_8 : Int32) (x6_8 : Int32) (H : Heap) (locs : List Loc) (ls : Array Slot), x5_5.toInt - x7_8.toInt < (n_8 : Int) → (0 ≤ x7_8.toInt) → (x7_8.toInt ≤ x5_5.toInt) → (x6_8.toInt = 0 ∨ x6_8.toInt = 1) → ((x6_8.toInt = 1 ↔ ∀ q : Nat, (q : Int) < x7_8.toInt → lam (cutR f5 f6 f7 f8 f10 (-9) s4.toNatClampNeg) q x5_5.toNatClampNeg < a1.toInt)) → pd_2 D vwCl A [ob12_0_ mo 0 s1 t2 s3 s4 g5 g6 g7 g8 g9 g10 s11 g12 g13 g14 g15 g16 g17 g18 g19 g20 s21 g22 g23 g24 s25 s26 s27 s28 g29 g30 g31 g32 g33, ai_ cy g5 40 f5, ai_ cy g6 40 f6, ai_ cy g7 40 f7, ai_ cy g8 40 f8, az_ cy g10 40 f10] H → va_S A s.heap H locs → lv_has ls 8 [(7, .int x7_8), (6, .int x6_8), (5, .int x5_5), (4, .int x4_5), (3, .int x3_5), (0, .ref mo), (1, .int a1), (2, .int a2)] → W p l e ({ frames := 4, cells := 0, slots := 0, locals := 96 } : Room) s m (([.ref mo, .int a1, .int a2] : List Value).toArray) below meth c H locs 0 0 Q (F0 m 60 ls []) from LOOP_8 ((x5_5.toInt - (0 : Int32).toInt).toNat + 1) (0 : Int32) (1 : Int32) _ _ _ (by omega) (by first | with_reducible assumption | omega | assumption) (by first | with_reducible assumption | omega | assumption) (by first | with_reducible assumption | omega | assumption) (by first | exact nw_0 | exact nw_st v_none (by omega) (by omega) hla_ (by omega)) ⟨hP, hD⟩ hS (lv_sub hl [0, 1, 2, 3, 4, 5, 6, 7] rfl)
            intro n_8
            induction n_8 with
            | zero =>
              intro x7_8 x6_8 H locs ls hm v0_8 v1_8 v2_8 v3_8 hPD hS hl; obtain ⟨hP, hD⟩ := hPD
              exact absurd hm (by omega)
            | succ n_8 ih_8 =>
              intro x7_8 x6_8 H locs ls hm v0_8 v1_8 v2_8 v3_8 hPD hS hl; obtain ⟨hP, hD⟩ := hPD
              refine lv_iload hx hb dB_3_2_39.1.1.2.2 (lv_at hl 0 rfl) ?_
              refine lv_iload hx hb dB_3_2_39.1.2.1.1 (lv_at hl 2 rfl) ?_
              refine lv_icmp_ge (tgt := 95) hx hb dB_3_2_39.1.2.1.2 (by decide) (fun c_9 => ?_) (fun c_9 => ?_)
              · have t_9 : x5_5.toInt ≤ x7_8.toInt := Int32.le_iff_toInt_le.mp c_9
                have c5_ := clI (i := x5_5) (by omega)
                have hnw_ : nwP (lam (cutR f5 f6 f7 f8 f10 (-9) s4.toNatClampNeg)) a1.toInt x5_5.toNatClampNeg = decide (x6_8.toInt = 1) := nw_end v3_8 (by omega)
                have JOIN_10 : ∀ (u0_10 : Int32) (H : Heap) (locs : List Loc) (ls : Array Slot), (u0_10.toInt = 0 ∨ u0_10.toInt = 1) → ((decide (u0_10.toInt = 1) = true ↔ (x5_5.toInt = a2.toInt ∨ (0 ≤ a2.toInt ∧ a1.toInt ≤ lam (cutR f5 f6 f7 f8 f10 (-9) s4.toNatClampNeg) x5_5.toNatClampNeg a2.toInt.toNat)))) → pd_2 D vwCl A [ob12_0_ mo 0 s1 t2 s3 s4 g5 g6 g7 g8 g9 g10 s11 g12 g13 g14 g15 g16 g17 g18 g19 g20 s21 g22 g23 g24 s25 s26 s27 s28 g29 g30 g31 g32 g33, ai_ cy g5 40 f5, ai_ cy g6 40 f6, ai_ cy g7 40 f7, ai_ cy g8 40 f8, az_ cy g10 40 f10] H → va_S A s.heap H locs → lv_has ls 8 [(7, .int x7_8), (6, .int x6_8), (5, .int x5_5), (4, .int x4_5), (3, .int x3_5), (0, .ref mo), (1, .int a1), (2, .int a2)] → W p l e ({ frames := 4, cells := 0, slots := 0, locals := 96 } : Room) s m (([.ref mo, .int a1, .int a2] : List Value).toArray) below meth c H locs 0 0 Q (F0 m 121 ls [.int u0_10]) := by
                  intro u0_10 H locs ls v0_10 v1_10 hPD hS hl; obtain ⟨hP, hD⟩ := hPD
                  have hha_ := v1_10
                  have h01_ := v0_10
                  refine lv_istore (lv' := [(7, .int u0_10), (6, .int x6_8), (5, .int x5_5), (4, .int x4_5), (3, .int x3_5), (0, .ref mo), (1, .int a1), (2, .int a2)]) hx hb dB_3_2_41.1.1.2.1 hl (by decide) rfl (fun ls hl => ?_)
                  refine lv_iload hx hb dB_3_2_41.1.1.2.2 (lv_at hl 1 rfl) ?_
                  refine lv_if_eq (tgt := 144) hx hb dB_3_2_41.1.2.1.1 (by decide) (fun c_11 => ?_) (fun c_11 => ?_)
                  · have t_11 : x6_8.toInt = (0 : Int32).toInt := congrArg Int32.toInt c_11
                    refine lv_iload hx hb dB_3_2_41.2.2.1.1 (lv_at hl 3 rfl) ?_
                    refine lv_istore (lv' := [(4, .int x4_5), (7, .int u0_10), (6, .int x6_8), (5, .int x5_5), (3, .int x3_5), (0, .ref mo), (1, .int a1), (2, .int a2)]) hx hb dB_3_2_41.2.2.1.2 hl (by decide) rfl (fun ls hl => ?_)
                    refine lv_iload_n hx hb dB_3_2_41.2.2.2.1 rfl (lv_at hl 4 rfl) ?_
                    refine lv_iload hx hb dB_3_2_41.2.2.2.2 (lv_at hl 2 rfl) ?_
                    refine lv_if_eq (tgt := 158) hx hb dB_3_2_42.1.1.1 (by decide) (fun c_12 => ?_) (fun c_12 => ?_)
                    · have t_12 : x6_8.toInt = (0 : Int32).toInt := congrArg Int32.toInt c_12
                      refine lv_iconst (v := 0) hx hb dB_3_2_42.1.2.1.1 (by decide) ?_
                      refine lv_iadd hx hb dB_3_2_42.1.2.1.2 ?_
                      refine lv_topi (fun y_13 ey_13 => ?_)
                      have ty_13 : y_13.toInt = x3_5.toInt + (0 : Int32).toInt := by rw [ey_13]; exact addI (by omega) (by omega)
                      refine lv_istore_n (lv' := [(3, .int y_13), (4, .int x4_5), (7, .int u0_10), (6, .int x6_8), (5, .int x5_5), (0, .ref mo), (1, .int a1), (2, .int a2)]) hx hb dB_3_2_42.1.2.2.1 rfl hl (by decide) rfl (fun ls hl => ?_)
                      obtain ⟨y_14, ey_14⟩ : ∃ y : Int32, y = x5_5 + 1 := ⟨_, rfl⟩
                      have ty_14 : y_14.toInt = x5_5.toInt + (1 : Int32).toInt := by rw [ey_14]; exact addI (by omega) (by omega)
                      refine lv_iinc (v := y_14) (lv' := [(5, .int y_14), (3, .int y_13), (4, .int x4_5), (7, .int u0_10), (6, .int x6_8), (0, .ref mo), (1, .int a1), (2, .int a2)]) hx hb dB_3_2_42.1.2.2.2 hl (k := 4) rfl (by rw [ey_14]; rfl) (by decide) rfl (fun ls hl => ?_)
                      refine lv_goto (tgt := 45) hx hb dB_3_2_42.2.1.1.1 (by decide) ?_
                      exact ih_5 y_14 x4_5 y_13 _ _ _ (by omega) (by first | with_reducible assumption | omega | assumption) (by first | with_reducible assumption | omega | assumption) (by first | with_reducible assumption | omega | assumption) (by first | exact prW_0 | exact prW_st (nw := decide (x6_8.toInt = 1)) (has := decide (u0_10.toInt = 1)) v3_5 (by omega) (by omega) (by omega) hnw_ hha_ (by first | exact Or.inl ⟨decide_eq_true (by omega), by omega⟩ | exact Or.inr ⟨decide_eq_false (by omega), by omega⟩) (by first | exact Or.inl ⟨decide_eq_true (by omega), decide_eq_true (by omega), by omega, rfl⟩ | exact Or.inr ⟨fun h => absurd (of_decide_eq_true h.1) (by omega), rfl⟩ | exact Or.inr ⟨fun h => absurd (of_decide_eq_true h.2.1) (by omega), rfl⟩ | exact Or.inr ⟨fun h => absurd h.2.2 (by omega), rfl⟩)) ⟨hP, hD⟩ hS (lv_sub hl [0, 2, 1, 5, 6, 7] rfl)
                    · have t_12 : ¬ x6_8.toInt = (0 : Int32).toInt := fun h => c_12 (Int32.toInt_inj.mp h)
                      exfalso; omega
                  · have t_11 : ¬ x6_8.toInt = (0 : Int32).toInt := fun h => c_11 (Int32.toInt_inj.mp h)
                    refine lv_iload hx hb dB_3_2_41.1.2.1.2 (lv_at hl 0 rfl) ?_
                    refine lv_if_eq (tgt := 144) hx hb dB_3_2_41.1.2.2.1 (by decide) (fun c_15 => ?_) (fun c_15 => ?_)
                    · have t_15 : u0_10.toInt = (0 : Int32).toInt := congrArg Int32.toInt c_15
                      refine lv_iload hx hb dB_3_2_41.2.2.1.1 (lv_at hl 3 rfl) ?_
                      refine lv_istore (lv' := [(4, .int x4_5), (7, .int u0_10), (6, .int x6_8), (5, .int x5_5), (3, .int x3_5), (0, .ref mo), (1, .int a1), (2, .int a2)]) hx hb dB_3_2_41.2.2.1.2 hl (by decide) rfl (fun ls hl => ?_)
                      refine lv_iload_n hx hb dB_3_2_41.2.2.2.1 rfl (lv_at hl 4 rfl) ?_
                      refine lv_iload hx hb dB_3_2_41.2.2.2.2 (lv_at hl 2 rfl) ?_
                      refine lv_if_eq (tgt := 158) hx hb dB_3_2_42.1.1.1 (by decide) (fun c_16 => ?_) (fun c_16 => ?_)
                      · have t_16 : x6_8.toInt = (0 : Int32).toInt := congrArg Int32.toInt c_16
                        refine lv_iconst (v := 0) hx hb dB_3_2_42.1.2.1.1 (by decide) ?_
                        refine lv_iadd hx hb dB_3_2_42.1.2.1.2 ?_
                        refine lv_topi (fun y_17 ey_17 => ?_)
                        have ty_17 : y_17.toInt = x3_5.toInt + (0 : Int32).toInt := by rw [ey_17]; exact addI (by omega) (by omega)
                        refine lv_istore_n (lv' := [(3, .int y_17), (4, .int x4_5), (7, .int u0_10), (6, .int x6_8), (5, .int x5_5), (0, .ref mo), (1, .int a1), (2, .int a2)]) hx hb dB_3_2_42.1.2.2.1 rfl hl (by decide) rfl (fun ls hl => ?_)
                        obtain ⟨y_18, ey_18⟩ : ∃ y : Int32, y = x5_5 + 1 := ⟨_, rfl⟩
                        have ty_18 : y_18.toInt = x5_5.toInt + (1 : Int32).toInt := by rw [ey_18]; exact addI (by omega) (by omega)
                        refine lv_iinc (v := y_18) (lv' := [(5, .int y_18), (3, .int y_17), (4, .int x4_5), (7, .int u0_10), (6, .int x6_8), (0, .ref mo), (1, .int a1), (2, .int a2)]) hx hb dB_3_2_42.1.2.2.2 hl (k := 4) rfl (by rw [ey_18]; rfl) (by decide) rfl (fun ls hl => ?_)
                        refine lv_goto (tgt := 45) hx hb dB_3_2_42.2.1.1.1 (by decide) ?_
                        exact ih_5 y_18 x4_5 y_17 _ _ _ (by omega) (by first | with_reducible assumption | omega | assumption) (by first | with_reducible assumption | omega | assumption) (by first | with_reducible assumption | omega | assumption) (by first | exact prW_0 | exact prW_st (nw := decide (x6_8.toInt = 1)) (has := decide (u0_10.toInt = 1)) v3_5 (by omega) (by omega) (by omega) hnw_ hha_ (by first | exact Or.inl ⟨decide_eq_true (by omega), by omega⟩ | exact Or.inr ⟨decide_eq_false (by omega), by omega⟩) (by first | exact Or.inl ⟨decide_eq_true (by omega), decide_eq_true (by omega), by omega, rfl⟩ | exact Or.inr ⟨fun h => absurd (of_decide_eq_true h.1) (by omega), rfl⟩ | exact Or.inr ⟨fun h => absurd (of_decide_eq_true h.2.1) (by omega), rfl⟩ | exact Or.inr ⟨fun h => absurd h.2.2 (by omega), rfl⟩)) ⟨hP, hD⟩ hS (lv_sub hl [0, 2, 1, 5, 6, 7] rfl)
                      · have t_16 : ¬ x6_8.toInt = (0 : Int32).toInt := fun h => c_16 (Int32.toInt_inj.mp h)
                        refine lv_iconst (v := 1) hx hb dB_3_2_42.1.1.2.1 (by decide) ?_
                        refine lv_goto (tgt := 159) hx hb dB_3_2_42.1.1.2.2 (by decide) ?_
                        refine lv_iadd hx hb dB_3_2_42.1.2.1.2 ?_
                        refine lv_topi (fun y_19 ey_19 => ?_)
                        have ty_19 : y_19.toInt = x3_5.toInt + (1 : Int32).toInt := by rw [ey_19]; exact addI (by omega) (by omega)
                        refine lv_istore_n (lv' := [(3, .int y_19), (4, .int x4_5), (7, .int u0_10), (6, .int x6_8), (5, .int x5_5), (0, .ref mo), (1, .int a1), (2, .int a2)]) hx hb dB_3_2_42.1.2.2.1 rfl hl (by decide) rfl (fun ls hl => ?_)
                        obtain ⟨y_20, ey_20⟩ : ∃ y : Int32, y = x5_5 + 1 := ⟨_, rfl⟩
                        have ty_20 : y_20.toInt = x5_5.toInt + (1 : Int32).toInt := by rw [ey_20]; exact addI (by omega) (by omega)
                        refine lv_iinc (v := y_20) (lv' := [(5, .int y_20), (3, .int y_19), (4, .int x4_5), (7, .int u0_10), (6, .int x6_8), (0, .ref mo), (1, .int a1), (2, .int a2)]) hx hb dB_3_2_42.1.2.2.2 hl (k := 4) rfl (by rw [ey_20]; rfl) (by decide) rfl (fun ls hl => ?_)
                        refine lv_goto (tgt := 45) hx hb dB_3_2_42.2.1.1.1 (by decide) ?_
                        exact ih_5 y_20 x4_5 y_19 _ _ _ (by omega) (by first | with_reducible assumption | omega | assumption) (by first | with_reducible assumption | omega | assumption) (by first | with_reducible assumption | omega | assumption) (by first | exact prW_0 | exact prW_st (nw := decide (x6_8.toInt = 1)) (has := decide (u0_10.toInt = 1)) v3_5 (by omega) (by omega) (by omega) hnw_ hha_ (by first | exact Or.inl ⟨decide_eq_true (by omega), by omega⟩ | exact Or.inr ⟨decide_eq_false (by omega), by omega⟩) (by first | exact Or.inl ⟨decide_eq_true (by omega), decide_eq_true (by omega), by omega, rfl⟩ | exact Or.inr ⟨fun h => absurd (of_decide_eq_true h.1) (by omega), rfl⟩ | exact Or.inr ⟨fun h => absurd (of_decide_eq_true h.2.1) (by omega), rfl⟩ | exact Or.inr ⟨fun h => absurd h.2.2 (by omega), rfl⟩)) ⟨hP, hD⟩ hS (lv_sub hl [0, 2, 1, 5, 6, 7] rfl)
                    · have t_15 : ¬ u0_10.toInt = (0 : Int32).toInt := fun h => c_15 (Int32.toInt_inj.mp h)
                      refine lv_iload hx hb dB_3_2_41.1.2.2.2 (lv_at hl 3 rfl) ?_
                      refine lv_bipush (v := (-9)) hx hb dB_3_2_41.2.1.1.1 (by decide) ?_
                      refine lv_icmp_ne (tgt := 144) hx hb dB_3_2_41.2.1.1.2 (by decide) (fun c_21 => ?_) (fun c_21 => ?_)
                      · have t_21 : ¬ x4_5.toInt = ((-9) : Int32).toInt := fun h => c_21 (Int32.toInt_inj.mp h)
                        refine lv_iload hx hb dB_3_2_41.2.2.1.1 (lv_at hl 3 rfl) ?_
                        refine lv_istore (lv' := [(4, .int x4_5), (7, .int u0_10), (6, .int x6_8), (5, .int x5_5), (3, .int x3_5), (0, .ref mo), (1, .int a1), (2, .int a2)]) hx hb dB_3_2_41.2.2.1.2 hl (by decide) rfl (fun ls hl => ?_)
                        refine lv_iload_n hx hb dB_3_2_41.2.2.2.1 rfl (lv_at hl 4 rfl) ?_
                        refine lv_iload hx hb dB_3_2_41.2.2.2.2 (lv_at hl 2 rfl) ?_
                        refine lv_if_eq (tgt := 158) hx hb dB_3_2_42.1.1.1 (by decide) (fun c_22 => ?_) (fun c_22 => ?_)
                        · have t_22 : x6_8.toInt = (0 : Int32).toInt := congrArg Int32.toInt c_22
                          refine lv_iconst (v := 0) hx hb dB_3_2_42.1.2.1.1 (by decide) ?_
                          refine lv_iadd hx hb dB_3_2_42.1.2.1.2 ?_
                          refine lv_topi (fun y_23 ey_23 => ?_)
                          have ty_23 : y_23.toInt = x3_5.toInt + (0 : Int32).toInt := by rw [ey_23]; exact addI (by omega) (by omega)
                          refine lv_istore_n (lv' := [(3, .int y_23), (4, .int x4_5), (7, .int u0_10), (6, .int x6_8), (5, .int x5_5), (0, .ref mo), (1, .int a1), (2, .int a2)]) hx hb dB_3_2_42.1.2.2.1 rfl hl (by decide) rfl (fun ls hl => ?_)
                          obtain ⟨y_24, ey_24⟩ : ∃ y : Int32, y = x5_5 + 1 := ⟨_, rfl⟩
                          have ty_24 : y_24.toInt = x5_5.toInt + (1 : Int32).toInt := by rw [ey_24]; exact addI (by omega) (by omega)
                          refine lv_iinc (v := y_24) (lv' := [(5, .int y_24), (3, .int y_23), (4, .int x4_5), (7, .int u0_10), (6, .int x6_8), (0, .ref mo), (1, .int a1), (2, .int a2)]) hx hb dB_3_2_42.1.2.2.2 hl (k := 4) rfl (by rw [ey_24]; rfl) (by decide) rfl (fun ls hl => ?_)
                          refine lv_goto (tgt := 45) hx hb dB_3_2_42.2.1.1.1 (by decide) ?_
                          exact ih_5 y_24 x4_5 y_23 _ _ _ (by omega) (by first | with_reducible assumption | omega | assumption) (by first | with_reducible assumption | omega | assumption) (by first | with_reducible assumption | omega | assumption) (by first | exact prW_0 | exact prW_st (nw := decide (x6_8.toInt = 1)) (has := decide (u0_10.toInt = 1)) v3_5 (by omega) (by omega) (by omega) hnw_ hha_ (by first | exact Or.inl ⟨decide_eq_true (by omega), by omega⟩ | exact Or.inr ⟨decide_eq_false (by omega), by omega⟩) (by first | exact Or.inl ⟨decide_eq_true (by omega), decide_eq_true (by omega), by omega, rfl⟩ | exact Or.inr ⟨fun h => absurd (of_decide_eq_true h.1) (by omega), rfl⟩ | exact Or.inr ⟨fun h => absurd (of_decide_eq_true h.2.1) (by omega), rfl⟩ | exact Or.inr ⟨fun h => absurd h.2.2 (by omega), rfl⟩)) ⟨hP, hD⟩ hS (lv_sub hl [0, 2, 1, 5, 6, 7] rfl)
                        · have t_22 : ¬ x6_8.toInt = (0 : Int32).toInt := fun h => c_22 (Int32.toInt_inj.mp h)
                          refine lv_iconst (v := 1) hx hb dB_3_2_42.1.1.2.1 (by decide) ?_
                          refine lv_goto (tgt := 159) hx hb dB_3_2_42.1.1.2.2 (by decide) ?_
                          refine lv_iadd hx hb dB_3_2_42.1.2.1.2 ?_
                          refine lv_topi (fun y_25 ey_25 => ?_)
                          have ty_25 : y_25.toInt = x3_5.toInt + (1 : Int32).toInt := by rw [ey_25]; exact addI (by omega) (by omega)
                          refine lv_istore_n (lv' := [(3, .int y_25), (4, .int x4_5), (7, .int u0_10), (6, .int x6_8), (5, .int x5_5), (0, .ref mo), (1, .int a1), (2, .int a2)]) hx hb dB_3_2_42.1.2.2.1 rfl hl (by decide) rfl (fun ls hl => ?_)
                          obtain ⟨y_26, ey_26⟩ : ∃ y : Int32, y = x5_5 + 1 := ⟨_, rfl⟩
                          have ty_26 : y_26.toInt = x5_5.toInt + (1 : Int32).toInt := by rw [ey_26]; exact addI (by omega) (by omega)
                          refine lv_iinc (v := y_26) (lv' := [(5, .int y_26), (3, .int y_25), (4, .int x4_5), (7, .int u0_10), (6, .int x6_8), (0, .ref mo), (1, .int a1), (2, .int a2)]) hx hb dB_3_2_42.1.2.2.2 hl (k := 4) rfl (by rw [ey_26]; rfl) (by decide) rfl (fun ls hl => ?_)
                          refine lv_goto (tgt := 45) hx hb dB_3_2_42.2.1.1.1 (by decide) ?_
                          exact ih_5 y_26 x4_5 y_25 _ _ _ (by omega) (by first | with_reducible assumption | omega | assumption) (by first | with_reducible assumption | omega | assumption) (by first | with_reducible assumption | omega | assumption) (by first | exact prW_0 | exact prW_st (nw := decide (x6_8.toInt = 1)) (has := decide (u0_10.toInt = 1)) v3_5 (by omega) (by omega) (by omega) hnw_ hha_ (by first | exact Or.inl ⟨decide_eq_true (by omega), by omega⟩ | exact Or.inr ⟨decide_eq_false (by omega), by omega⟩) (by first | exact Or.inl ⟨decide_eq_true (by omega), decide_eq_true (by omega), by omega, rfl⟩ | exact Or.inr ⟨fun h => absurd (of_decide_eq_true h.1) (by omega), rfl⟩ | exact Or.inr ⟨fun h => absurd (of_decide_eq_true h.2.1) (by omega), rfl⟩ | exact Or.inr ⟨fun h => absurd h.2.2 (by omega), rfl⟩)) ⟨hP, hD⟩ hS (lv_sub hl [0, 2, 1, 5, 6, 7] rfl)
                      · have t_21 : x4_5.toInt = ((-9) : Int32).toInt := congrArg Int32.toInt c_21
                        refine lv_iload_n hx hb dB_3_2_41.2.1.2.1 rfl (lv_at hl 4 rfl) ?_
                        refine lv_goto (tgt := 146) hx hb dB_3_2_41.2.1.2.2 (by decide) ?_
                        refine lv_istore (lv' := [(4, .int x3_5), (7, .int u0_10), (6, .int x6_8), (5, .int x5_5), (3, .int x3_5), (0, .ref mo), (1, .int a1), (2, .int a2)]) hx hb dB_3_2_41.2.2.1.2 hl (by decide) rfl (fun ls hl => ?_)
                        refine lv_iload_n hx hb dB_3_2_41.2.2.2.1 rfl (lv_at hl 4 rfl) ?_
                        refine lv_iload hx hb dB_3_2_41.2.2.2.2 (lv_at hl 2 rfl) ?_
                        refine lv_if_eq (tgt := 158) hx hb dB_3_2_42.1.1.1 (by decide) (fun c_27 => ?_) (fun c_27 => ?_)
                        · have t_27 : x6_8.toInt = (0 : Int32).toInt := congrArg Int32.toInt c_27
                          refine lv_iconst (v := 0) hx hb dB_3_2_42.1.2.1.1 (by decide) ?_
                          refine lv_iadd hx hb dB_3_2_42.1.2.1.2 ?_
                          refine lv_topi (fun y_28 ey_28 => ?_)
                          have ty_28 : y_28.toInt = x3_5.toInt + (0 : Int32).toInt := by rw [ey_28]; exact addI (by omega) (by omega)
                          refine lv_istore_n (lv' := [(3, .int y_28), (4, .int x3_5), (7, .int u0_10), (6, .int x6_8), (5, .int x5_5), (0, .ref mo), (1, .int a1), (2, .int a2)]) hx hb dB_3_2_42.1.2.2.1 rfl hl (by decide) rfl (fun ls hl => ?_)
                          obtain ⟨y_29, ey_29⟩ : ∃ y : Int32, y = x5_5 + 1 := ⟨_, rfl⟩
                          have ty_29 : y_29.toInt = x5_5.toInt + (1 : Int32).toInt := by rw [ey_29]; exact addI (by omega) (by omega)
                          refine lv_iinc (v := y_29) (lv' := [(5, .int y_29), (3, .int y_28), (4, .int x3_5), (7, .int u0_10), (6, .int x6_8), (0, .ref mo), (1, .int a1), (2, .int a2)]) hx hb dB_3_2_42.1.2.2.2 hl (k := 4) rfl (by rw [ey_29]; rfl) (by decide) rfl (fun ls hl => ?_)
                          refine lv_goto (tgt := 45) hx hb dB_3_2_42.2.1.1.1 (by decide) ?_
                          exact ih_5 y_29 x3_5 y_28 _ _ _ (by omega) (by first | with_reducible assumption | omega | assumption) (by first | with_reducible assumption | omega | assumption) (by first | with_reducible assumption | omega | assumption) (by first | exact prW_0 | exact prW_st (nw := decide (x6_8.toInt = 1)) (has := decide (u0_10.toInt = 1)) v3_5 (by omega) (by omega) (by omega) hnw_ hha_ (by first | exact Or.inl ⟨decide_eq_true (by omega), by omega⟩ | exact Or.inr ⟨decide_eq_false (by omega), by omega⟩) (by first | exact Or.inl ⟨decide_eq_true (by omega), decide_eq_true (by omega), by omega, rfl⟩ | exact Or.inr ⟨fun h => absurd (of_decide_eq_true h.1) (by omega), rfl⟩ | exact Or.inr ⟨fun h => absurd (of_decide_eq_true h.2.1) (by omega), rfl⟩ | exact Or.inr ⟨fun h => absurd h.2.2 (by omega), rfl⟩)) ⟨hP, hD⟩ hS (lv_sub hl [0, 2, 1, 5, 6, 7] rfl)
                        · have t_27 : ¬ x6_8.toInt = (0 : Int32).toInt := fun h => c_27 (Int32.toInt_inj.mp h)
                          refine lv_iconst (v := 1) hx hb dB_3_2_42.1.1.2.1 (by decide) ?_
                          refine lv_goto (tgt := 159) hx hb dB_3_2_42.1.1.2.2 (by decide) ?_
                          refine lv_iadd hx hb dB_3_2_42.1.2.1.2 ?_
                          refine lv_topi (fun y_30 ey_30 => ?_)
                          have ty_30 : y_30.toInt = x3_5.toInt + (1 : Int32).toInt := by rw [ey_30]; exact addI (by omega) (by omega)
                          refine lv_istore_n (lv' := [(3, .int y_30), (4, .int x3_5), (7, .int u0_10), (6, .int x6_8), (5, .int x5_5), (0, .ref mo), (1, .int a1), (2, .int a2)]) hx hb dB_3_2_42.1.2.2.1 rfl hl (by decide) rfl (fun ls hl => ?_)
                          obtain ⟨y_31, ey_31⟩ : ∃ y : Int32, y = x5_5 + 1 := ⟨_, rfl⟩
                          have ty_31 : y_31.toInt = x5_5.toInt + (1 : Int32).toInt := by rw [ey_31]; exact addI (by omega) (by omega)
                          refine lv_iinc (v := y_31) (lv' := [(5, .int y_31), (3, .int y_30), (4, .int x3_5), (7, .int u0_10), (6, .int x6_8), (0, .ref mo), (1, .int a1), (2, .int a2)]) hx hb dB_3_2_42.1.2.2.2 hl (k := 4) rfl (by rw [ey_31]; rfl) (by decide) rfl (fun ls hl => ?_)
                          refine lv_goto (tgt := 45) hx hb dB_3_2_42.2.1.1.1 (by decide) ?_
                          exact ih_5 y_31 x3_5 y_30 _ _ _ (by omega) (by first | with_reducible assumption | omega | assumption) (by first | with_reducible assumption | omega | assumption) (by first | with_reducible assumption | omega | assumption) (by first | exact prW_0 | exact prW_st (nw := decide (x6_8.toInt = 1)) (has := decide (u0_10.toInt = 1)) v3_5 (by omega) (by omega) (by omega) hnw_ hha_ (by first | exact Or.inl ⟨decide_eq_true (by omega), by omega⟩ | exact Or.inr ⟨decide_eq_false (by omega), by omega⟩) (by first | exact Or.inl ⟨decide_eq_true (by omega), decide_eq_true (by omega), by omega, rfl⟩ | exact Or.inr ⟨fun h => absurd (of_decide_eq_true h.1) (by omega), rfl⟩ | exact Or.inr ⟨fun h => absurd (of_decide_eq_true h.2.1) (by omega), rfl⟩ | exact Or.inr ⟨fun h => absurd h.2.2 (by omega), rfl⟩)) ⟨hP, hD⟩ hS (lv_sub hl [0, 2, 1, 5, 6, 7] rfl)
                refine lv_iload hx hb dB_3_2_40.1.2.1.1 (lv_at hl 2 rfl) ?_
                refine lv_iload_n hx hb dB_3_2_40.1.2.1.2 rfl (lv_at hl 7 rfl) ?_
                refine lv_icmp_eq (tgt := 116) hx hb dB_3_2_40.1.2.2.1 (by decide) (fun c_32 => ?_) (fun c_32 => ?_)
                · have t_32 : x5_5.toInt = a2.toInt := congrArg Int32.toInt c_32
                  refine lv_iconst (v := 1) hx hb dB_3_2_40.2.2.2.2 (by decide) ?_
                  refine lv_goto (tgt := 121) hx hb dB_3_2_41.1.1.1.1 (by decide) ?_
                  exact JOIN_10 (1 : Int32) _ _ _ (by first | with_reducible assumption | omega | assumption) (by first | exact has_1 (by decide) (Or.inl (by omega)) | exact has_1 (by decide) (Or.inr ⟨by omega, by rw [show a2.toInt.toNat = a2.toNatClampNeg from rfl, ← hlb_]; omega⟩) | exact has_0 (by decide) (by omega) (fun h => by rw [show a2.toInt.toNat = a2.toNatClampNeg from rfl, ← hlb_]; omega) | exact has_0 (by decide) (by omega) (fun h => by omega)) ⟨hP, hD⟩ hS (lv_sub hl [0, 1, 2, 3, 4, 5, 6, 7] rfl)
                · have t_32 : ¬ x5_5.toInt = a2.toInt := fun h => c_32 (Int32.toInt_inj.mp h)
                  refine lv_iload_n hx hb dB_3_2_40.1.2.2.2 rfl (lv_at hl 7 rfl) ?_
                  refine lv_if_lt (tgt := 120) hx hb dB_3_2_40.2.1.1.1 (by decide) (fun c_33 => ?_) (fun c_33 => ?_)
                  · have t_33 : a2.toInt < (0 : Int32).toInt := Int32.lt_iff_toInt_lt.mp c_33
                    refine lv_iconst (v := 0) hx hb dB_3_2_41.1.1.1.2 (by decide) ?_
                    exact JOIN_10 (0 : Int32) _ _ _ (by first | with_reducible assumption | omega | assumption) (by first | exact has_1 (by decide) (Or.inl (by omega)) | exact has_1 (by decide) (Or.inr ⟨by omega, by rw [show a2.toInt.toNat = a2.toNatClampNeg from rfl, ← hlb_]; omega⟩) | exact has_0 (by decide) (by omega) (fun h => by rw [show a2.toInt.toNat = a2.toNatClampNeg from rfl, ← hlb_]; omega) | exact has_0 (by decide) (by omega) (fun h => by omega)) ⟨hP, hD⟩ hS (lv_sub hl [0, 1, 2, 3, 4, 5, 6, 7] rfl)
                  · have t_33 : ¬ a2.toInt < (0 : Int32).toInt := fun h => c_33 (Int32.lt_iff_toInt_lt.mpr h)
                    refine lv_aload_n hx hb dB_3_2_40.2.1.1.2 rfl (lv_at hl 5 rfl) ?_
                    refine lv_iload hx hb dB_3_2_40.2.1.2.1 (lv_at hl 2 rfl) ?_
                    refine lv_iload_n hx hb dB_3_2_40.2.1.2.2 rfl (lv_at hl 7 rfl) ?_
                    refine ct_R hP hD [ob12_0_ mo 0 s1 t2 s3 s4 g5 g6 g7 g8 g9 g10 s11 g12 g13 g14 g15 g16 g17 g18 g19 g20 s21 g22 g23 g24 s25 s26 s27 s28 g29 g30 g31 g32 g33, ai_ cy g5 40 f5, ai_ cy g6 40 f6, ai_ cy g7 40 f7, ai_ cy g8 40 f8, az_ cy g10 40 f10] [0, 1, 2, 3, 4, 5] (by decide) rfl (fun hPc hDw => ?_)
                    have hFc := va_free (wc := []) hD hS hA [] rfl
                    refine va_calli (va_runV (As := [.int x5_5, .int a2]) (rest := []) ⟨hx, hb, hml, hown, hts⟩ (c_X12_mostOf2 l D cy H.size mo g5 g6 g7 g8 g9 g10 g12 g13 g14 g15 g16 g17 g18 g19 g20 g22 g23 g24 g29 g30 g31 g32 g33 (0 : Int32) s1 s3 s4 s11 s21 s25 s26 s27 s28 t2 f5 f6 f7 f8 f10 x5_5 a2 (by first | with_reducible assumption | omega | assumption) (by first | with_reducible assumption | omega | assumption) (by first | with_reducible assumption | assumption | omega) (by first | with_reducible assumption | omega | assumption) (by first | with_reducible assumption | omega | assumption) (by first | with_reducible assumption | assumption | omega) (by first | with_reducible assumption | assumption | omega) (by first | with_reducible assumption | assumption | omega)) (cwV 2 hts gX12_part_X12_mostOf rfl rfl rfl ⟨rfl, hd_X12_mostOf⟩ ⟨Nat.le_of_ble_eq_true rfl, Nat.le_of_ble_eq_true rfl⟩) ⟨bl_, va_recvX hK.1 hP (ci := 12) (q0 := 0) rfl rfl, fun U hU hW => ⟨rfl, by rw [hU], by rw [hU]; exact hPc, kk_mv hW hK, hDw⟩⟩ rfl rfl hl.1 rfl (lv_room (Nat.le_of_ble_eq_true rfl)) dB_3_2_40.2.2.1.1 ⟨Nat.le_of_ble_eq_true rfl, Nat.le_of_ble_eq_true rfl⟩) hS (fun q _ h => hFc q h) hFc (fun r_34 u t H locs ht hvm hw hB hz1 hk1 hS => ?_)
                    have hP : va_P D vwCl _ H := ro_keep hP hk1
                    have f0_r_34 := hw
                    have hlb_ : r_34.toInt = lam (cutR f5 f6 f7 f8 f10 (-9) s4.toNatClampNeg) x5_5.toNatClampNeg a2.toNatClampNeg := by have h_ := (mst_wh hwr_ (nc_ne (x := x5_5) (y := a2) (by omega) (by omega) (by omega)) f0_r_34).2.1; rw [h21i_] at h_; exact h_
                    refine lv_iload_n hx hb dB_3_2_40.2.2.1.2 rfl (lv_at hl 6 rfl) ?_
                    refine lv_icmp_lt (tgt := 120) hx hb dB_3_2_40.2.2.2.1 (by decide) (fun c_35 => ?_) (fun c_35 => ?_)
                    · have t_35 : r_34.toInt < a1.toInt := Int32.lt_iff_toInt_lt.mp c_35
                      refine lv_iconst (v := 0) hx hb dB_3_2_41.1.1.1.2 (by decide) ?_
                      exact JOIN_10 (0 : Int32) _ _ _ (by first | with_reducible assumption | omega | assumption) (by first | exact has_1 (by decide) (Or.inl (by omega)) | exact has_1 (by decide) (Or.inr ⟨by omega, by rw [show a2.toInt.toNat = a2.toNatClampNeg from rfl, ← hlb_]; omega⟩) | exact has_0 (by decide) (by omega) (fun h => by rw [show a2.toInt.toNat = a2.toNatClampNeg from rfl, ← hlb_]; omega) | exact has_0 (by decide) (by omega) (fun h => by omega)) ⟨hP, hD⟩ hS (lv_sub hl [0, 1, 2, 3, 4, 5, 6, 7] rfl)
                    · have t_35 : ¬ r_34.toInt < a1.toInt := fun h => c_35 (Int32.lt_iff_toInt_lt.mpr h)
                      refine lv_iconst (v := 1) hx hb dB_3_2_40.2.2.2.2 (by decide) ?_
                      refine lv_goto (tgt := 121) hx hb dB_3_2_41.1.1.1.1 (by decide) ?_
                      exact JOIN_10 (1 : Int32) _ _ _ (by first | with_reducible assumption | omega | assumption) (by first | exact has_1 (by decide) (Or.inl (by omega)) | exact has_1 (by decide) (Or.inr ⟨by omega, by rw [show a2.toInt.toNat = a2.toNatClampNeg from rfl, ← hlb_]; omega⟩) | exact has_0 (by decide) (by omega) (fun h => by rw [show a2.toInt.toNat = a2.toNatClampNeg from rfl, ← hlb_]; omega) | exact has_0 (by decide) (by omega) (fun h => by omega)) ⟨hP, hD⟩ hS (lv_sub hl [0, 1, 2, 3, 4, 5, 6, 7] rfl)
              · have t_9 : ¬ x5_5.toInt ≤ x7_8.toInt := fun h => c_9 (Int32.le_iff_toInt_le.mpr h)
                refine lv_iload hx hb dB_3_2_39.1.2.2.1 (lv_at hl 1 rfl) ?_
                refine lv_aload_n hx hb dB_3_2_39.1.2.2.2 rfl (lv_at hl 5 rfl) ?_
                refine lv_iload hx hb dB_3_2_39.2.1.1.1 (lv_at hl 2 rfl) ?_
                refine lv_iload hx hb dB_3_2_39.2.1.1.2 (lv_at hl 0 rfl) ?_
                refine ct_R hP hD [ob12_0_ mo 0 s1 t2 s3 s4 g5 g6 g7 g8 g9 g10 s11 g12 g13 g14 g15 g16 g17 g18 g19 g20 s21 g22 g23 g24 s25 s26 s27 s28 g29 g30 g31 g32 g33, ai_ cy g5 40 f5, ai_ cy g6 40 f6, ai_ cy g7 40 f7, ai_ cy g8 40 f8, az_ cy g10 40 f10] [0, 1, 2, 3, 4, 5] (by decide) rfl (fun hPc hDw => ?_)
                have hFc := va_free (wc := []) hD hS hA [] rfl
                refine va_calli (va_runV (As := [.int x5_5, .int x7_8]) (rest := [.int x6_8]) ⟨hx, hb, hml, hown, hts⟩ (c_X12_mostOf2 l D cy H.size mo g5 g6 g7 g8 g9 g10 g12 g13 g14 g15 g16 g17 g18 g19 g20 g22 g23 g24 g29 g30 g31 g32 g33 (0 : Int32) s1 s3 s4 s11 s21 s25 s26 s27 s28 t2 f5 f6 f7 f8 f10 x5_5 x7_8 (by first | with_reducible assumption | omega | assumption) (by first | with_reducible assumption | omega | assumption) (by first | with_reducible assumption | assumption | omega) (by first | with_reducible assumption | omega | assumption) (by first | with_reducible assumption | omega | assumption) (by first | with_reducible assumption | assumption | omega) (by first | with_reducible assumption | assumption | omega) (by first | with_reducible assumption | assumption | omega)) (cwV 2 hts gX12_part_X12_mostOf rfl rfl rfl ⟨rfl, hd_X12_mostOf⟩ ⟨Nat.le_of_ble_eq_true rfl, Nat.le_of_ble_eq_true rfl⟩) ⟨bl_, va_recvX hK.1 hP (ci := 12) (q0 := 0) rfl rfl, fun U hU hW => ⟨rfl, by rw [hU], by rw [hU]; exact hPc, kk_mv hW hK, hDw⟩⟩ rfl rfl hl.1 rfl (lv_room (Nat.le_of_ble_eq_true rfl)) dB_3_2_39.2.1.2.1 ⟨Nat.le_of_ble_eq_true rfl, Nat.le_of_ble_eq_true rfl⟩) hS (fun q _ h => hFc q h) hFc (fun r_36 u t H locs ht hvm hw hB hz1 hk1 hS => ?_)
                have hP : va_P D vwCl _ H := ro_keep hP hk1
                have f0_r_36 := hw
                have hla_ : r_36.toInt = lam (cutR f5 f6 f7 f8 f10 (-9) s4.toNatClampNeg) x7_8.toNatClampNeg x5_5.toNatClampNeg := by rw [lam_cm hws_ (nc_ne (x := x7_8) (y := x5_5) (by omega) (by omega) (by omega))]; have h_ := (mst_wh hwr_ (nc_ne (x := x5_5) (y := x7_8) (by omega) (by omega) (by omega)) f0_r_36).2.1; rw [h21i_] at h_; exact h_
                refine lv_iload_n hx hb dB_3_2_39.2.1.2.2 rfl (lv_at hl 6 rfl) ?_
                refine lv_icmp_ge (tgt := 85) hx hb dB_3_2_39.2.2.1.1 (by decide) (fun c_37 => ?_) (fun c_37 => ?_)
                · have t_37 : a1.toInt ≤ r_36.toInt := Int32.le_iff_toInt_le.mp c_37
                  refine lv_iconst (v := 0) hx hb dB_3_2_39.2.2.2.2 (by decide) ?_
                  refine lv_iand hx hb dB_3_2_40.1.1.1.1 ?_
                  refine lv_topi (fun y_38 ey_38 => ?_)
                  have ty_38 : (y_38.toInt = 0 ∨ y_38.toInt = 1) ∧ y_38.toInt = (if x6_8.toInt = 1 ∧ (0 : Int32).toInt = 1 then 1 else 0) := by rw [ey_38]; exact ⟨and01 (by omega) (by omega), and_if (by omega) (by omega)⟩
                  have hai_ : (y_38.toInt = 0 ∨ y_38.toInt = 1) ∧ _ := ty_38
                  refine lv_istore (lv' := [(6, .int y_38), (7, .int x7_8), (5, .int x5_5), (4, .int x4_5), (3, .int x3_5), (0, .ref mo), (1, .int a1), (2, .int a2)]) hx hb dB_3_2_40.1.1.1.2 hl (by decide) rfl (fun ls hl => ?_)
                  obtain ⟨y_39, ey_39⟩ : ∃ y : Int32, y = x7_8 + 1 := ⟨_, rfl⟩
                  have ty_39 : y_39.toInt = x7_8.toInt + (1 : Int32).toInt := by rw [ey_39]; exact addI (by omega) (by omega)
                  refine lv_iinc (v := y_39) (lv' := [(7, .int y_39), (6, .int y_38), (5, .int x5_5), (4, .int x4_5), (3, .int x3_5), (0, .ref mo), (1, .int a1), (2, .int a2)]) hx hb dB_3_2_40.1.1.2.1 hl (k := 1) rfl (by rw [ey_39]; rfl) (by decide) rfl (fun ls hl => ?_)
                  refine lv_goto (tgt := 60) hx hb dB_3_2_40.1.1.2.2 (by decide) ?_
                  exact ih_8 y_39 y_38 _ _ _ (by omega) (by first | with_reducible assumption | omega | assumption) (by first | with_reducible assumption | omega | assumption) (by first | with_reducible assumption | omega | assumption) (by first | exact nw_0 | exact nw_st v3_8 (by omega) (by omega) hla_ (by omega)) ⟨hP, hD⟩ hS (lv_sub hl [0, 1, 2, 3, 4, 5, 6, 7] rfl)
                · have t_37 : ¬ a1.toInt ≤ r_36.toInt := fun h => c_37 (Int32.le_iff_toInt_le.mpr h)
                  refine lv_iconst (v := 1) hx hb dB_3_2_39.2.2.1.2 (by decide) ?_
                  refine lv_goto (tgt := 86) hx hb dB_3_2_39.2.2.2.1 (by decide) ?_
                  refine lv_iand hx hb dB_3_2_40.1.1.1.1 ?_
                  refine lv_topi (fun y_40 ey_40 => ?_)
                  have ty_40 : (y_40.toInt = 0 ∨ y_40.toInt = 1) ∧ y_40.toInt = (if x6_8.toInt = 1 ∧ (1 : Int32).toInt = 1 then 1 else 0) := by rw [ey_40]; exact ⟨and01 (by omega) (by omega), and_if (by omega) (by omega)⟩
                  have hai_ : (y_40.toInt = 0 ∨ y_40.toInt = 1) ∧ _ := ty_40
                  refine lv_istore (lv' := [(6, .int y_40), (7, .int x7_8), (5, .int x5_5), (4, .int x4_5), (3, .int x3_5), (0, .ref mo), (1, .int a1), (2, .int a2)]) hx hb dB_3_2_40.1.1.1.2 hl (by decide) rfl (fun ls hl => ?_)
                  obtain ⟨y_41, ey_41⟩ : ∃ y : Int32, y = x7_8 + 1 := ⟨_, rfl⟩
                  have ty_41 : y_41.toInt = x7_8.toInt + (1 : Int32).toInt := by rw [ey_41]; exact addI (by omega) (by omega)
                  refine lv_iinc (v := y_41) (lv' := [(7, .int y_41), (6, .int y_40), (5, .int x5_5), (4, .int x4_5), (3, .int x3_5), (0, .ref mo), (1, .int a1), (2, .int a2)]) hx hb dB_3_2_40.1.1.2.1 hl (k := 1) rfl (by rw [ey_41]; rfl) (by decide) rfl (fun ls hl => ?_)
                  refine lv_goto (tgt := 60) hx hb dB_3_2_40.1.1.2.2 (by decide) ?_
                  exact ih_8 y_41 y_40 _ _ _ (by omega) (by first | with_reducible assumption | omega | assumption) (by first | with_reducible assumption | omega | assumption) (by first | with_reducible assumption | omega | assumption) (by first | exact nw_0 | exact nw_st v3_8 (by omega) (by omega) hla_ (by omega)) ⟨hP, hD⟩ hS (lv_sub hl [0, 1, 2, 3, 4, 5, 6, 7] rfl)
      · have t_4 : ¬ a2.toInt = ((-1) : Int32).toInt := fun h => c_4 (Int32.toInt_inj.mp h)
        refine lv_aload_n hx hb dB_3_2_37.2.2.2.2 rfl (lv_at hl 0 rfl) ?_
        refine lv_iload_n hx hb dB_3_2_38.1.1.1.1 rfl (lv_at hl 2 rfl) ?_
        refine ct_R hP hD [ob12_0_ mo 0 s1 t2 s3 s4 g5 g6 g7 g8 g9 g10 s11 g12 g13 g14 g15 g16 g17 g18 g19 g20 s21 g22 g23 g24 s25 s26 s27 s28 g29 g30 g31 g32 g33] [0] (by decide) rfl (fun hPc hDw => ?_)
        have hFc := va_free (wc := []) hD hS hA [] rfl
        refine va_calli (va_runV (As := [.int a2]) (rest := []) ⟨hx, hb, hml, hown, hts⟩ (c_X12_isPlace l D cy H.size mo g5 g6 g7 g8 g9 g10 g12 g13 g14 g15 g16 g17 g18 g19 g20 g22 g23 g24 g29 g30 g31 g32 g33 (0 : Int32) s1 s3 s4 s11 s21 s25 s26 s27 s28 t2 a2 (by first | with_reducible assumption | omega | assumption)) (cwV 1 hts gX12_part_X12_isPlace rfl rfl rfl ⟨rfl, hd_X12_isPlace⟩ ⟨Nat.le_of_ble_eq_true rfl, Nat.le_of_ble_eq_true rfl⟩) ⟨bl_, va_recvX hK.1 hP (ci := 12) (q0 := 0) rfl rfl, fun U hU hW => ⟨rfl, by rw [hU], by rw [hU]; exact hPc, kk_mv hW hK, hDw⟩⟩ rfl rfl hl.1 rfl (lv_room (Nat.le_of_ble_eq_true rfl)) dB_3_2_38.1.1.1.2 ⟨Nat.le_of_ble_eq_true rfl, Nat.le_of_ble_eq_true rfl⟩) hS (fun q _ h => hFc q h) hFc (fun r_42 u t H locs ht hvm hw hB hz1 hk1 hS => ?_)
        have hP : va_P D vwCl _ H := ro_keep hP hk1
        rcases hw with ⟨w_43, e_⟩ | ⟨w_43, e_⟩
        · have e_ := e_.symm
          subst e_
          refine lv_if_ne (tgt := 36) hx hb dB_3_2_38.1.1.2.1 (by decide) (fun c_44 => ?_) (fun c_44 => ?_)
          · have _ := c_44
            have hpr0_ : prI a1.toInt a2.toInt s3.toInt (sumI (bkR f5 f10) s4.toNatClampNeg) = 0 := by unfold prI; (repeat' (first | with_reducible refine if_n (by omega) ?_ | with_reducible refine if_ns (by omega) ?_ | with_reducible refine if_nz (by omega) ?_ | with_reducible exact if_p (by omega) (by omega) | with_reducible exact if_ps (by omega) (by omega) | with_reducible exact if_pz (by omega) (by omega))) <;> omega
            have hws_ : whC (cutR f5 f6 f7 f8 f10 (-9) s4.toNatClampNeg) s3.toNatClampNeg := by have h_ := hwr_; rw [h21i_] at h_; exact h_
            refine lv_iconst (v := 0) hx hb dB_3_2_38.1.2.1.2 (by decide) ?_
            refine lv_istore_n (lv' := [(3, .int 0), (0, .ref mo), (1, .int a1), (2, .int a2)]) hx hb dB_3_2_38.1.2.2.1 rfl hl (by decide) rfl (fun ls hl => ?_)
            refine lv_bipush (v := (-9)) hx hb dB_3_2_38.1.2.2.2 (by decide) ?_
            refine lv_istore (lv' := [(4, .int (-9)), (3, .int 0), (0, .ref mo), (1, .int a1), (2, .int a2)]) hx hb dB_3_2_38.2.1.1.1 hl (by decide) rfl (fun ls hl => ?_)
            refine lv_iconst (v := 0) hx hb dB_3_2_38.2.1.1.2 (by decide) ?_
            refine lv_istore (lv' := [(5, .int 0), (4, .int (-9)), (3, .int 0), (0, .ref mo), (1, .int a1), (2, .int a2)]) hx hb dB_3_2_38.2.1.2.1 hl (by decide) rfl (fun ls hl => ?_)
            suffices LOOP_45 : ∀ (n_45 : Nat) (x5_45 : Int32) (x4_45 : Int32) (x3_45 : Int32) (H : Heap) (locs : List Loc) (ls : Array Slot), s3.toInt - x5_45.toInt < (n_45 : Int) → (0 ≤ x5_45.toInt) → (x5_45.toInt ≤ s3.toInt) → (0 ≤ x3_45.toInt ∧ x3_45.toInt ≤ x5_45.toInt) → (prW (lam (cutR f5 f6 f7 f8 f10 (-9) s4.toNatClampNeg)) a1.toInt a2.toInt x5_45.toNatClampNeg x3_45 x4_45) → pd_2 D vwCl A [ob12_0_ mo 0 s1 t2 s3 s4 g5 g6 g7 g8 g9 g10 s11 g12 g13 g14 g15 g16 g17 g18 g19 g20 s21 g22 g23 g24 s25 s26 s27 s28 g29 g30 g31 g32 g33, ai_ cy g5 40 f5, ai_ cy g6 40 f6, ai_ cy g7 40 f7, ai_ cy g8 40 f8, az_ cy g10 40 f10] H → va_S A s.heap H locs → lv_has ls 8 [(5, .int x5_45), (4, .int x4_45), (3, .int x3_45), (0, .ref mo), (1, .int a1), (2, .int a2)] → W p l e ({ frames := 4, cells := 0, slots := 0, locals := 96 } : Room) s m (([.ref mo, .int a1, .int a2] : List Value).toArray) below meth c H locs 0 0 Q (F0 m 45 ls []) from LOOP_45 ((s3.toInt - (0 : Int32).toInt).toNat + 1) (0 : Int32) ((-9) : Int32) (0 : Int32) _ _ _ (by omega) (by first | with_reducible assumption | omega | assumption) (by first | with_reducible assumption | omega | assumption) (by first | with_reducible assumption | omega | assumption) (by first | exact prW_0 | exact prW_st (nw := decide (S[w].toInt = 1)) (has := decide (S[has].toInt = 1)) v_none (by omega) (by omega) (by omega) hnw_ hha_ (by first | exact Or.inl ⟨decide_eq_true (by omega), by omega⟩ | exact Or.inr ⟨decide_eq_false (by omega), by omega⟩) (by first | exact Or.inl ⟨decide_eq_true (by omega), decide_eq_true (by omega), by omega, rfl⟩ | exact Or.inr ⟨fun h => absurd (of_decide_eq_true h.1) (by omega), rfl⟩ | exact Or.inr ⟨fun h => absurd (of_decide_eq_true h.2.1) (by omega), rfl⟩ | exact Or.inr ⟨fun h => absurd h.2.2 (by omega), rfl⟩)) ⟨hP, hD⟩ hS (lv_sub hl [0, 1, 2, 3, 4, 5] rfl)
            intro n_45
            induction n_45 with
            | zero =>
              intro x5_45 x4_45 x3_45 H locs ls hm v0_45 v1_45 v2_45 v3_45 hPD hS hl; obtain ⟨hP, hD⟩ := hPD
              exact absurd hm (by omega)
            | succ n_45 ih_45 =>
              intro x5_45 x4_45 x3_45 H locs ls hm v0_45 v1_45 v2_45 v3_45 hPD hS hl; obtain ⟨hP, hD⟩ := hPD
              refine lv_iload hx hb dB_3_2_38.2.1.2.2 (lv_at hl 0 rfl) ?_
              refine lv_aload_n hx hb dB_3_2_38.2.2.1.1 rfl (lv_at hl 3 rfl) ?_
              refine va_get (ci := 12) (v := .int s3) (C := RX12) (T := TX12) (N := 34) hx hb hts (fun _ h => List.mem_cons_of_mem _ (List.mem_append_right _ h)) hown hK.1 hP 0 rfl rfl 3 (by decide) (hts (.fieldLink RX12 88 "CutAtlasModel" "places" "I") (List.mem_of_getElem? (i := 2) rfl)) (fun _ h9 => h9) rfl dB_3_2_38.2.2.1.2 ?_
              refine lv_icmp_ge (tgt := 167) hx hb dB_3_2_38.2.2.2.1 (by decide) (fun c_46 => ?_) (fun c_46 => ?_)
              · have t_46 : s3.toInt ≤ x5_45.toInt := Int32.le_iff_toInt_le.mp c_46
                refine lv_iload_n hx hb dB_3_2_42.2.1.1.2 rfl (lv_at hl 5 rfl) ?_
                refine lv_iconst (v := (-1)) hx hb dB_3_2_42.2.1.2.1 (by decide) ?_
                refine lv_icmp_ne (tgt := 176) hx hb dB_3_2_42.2.1.2.2 (by decide) (fun c_47 => ?_) (fun c_47 => ?_)
                · have t_47 : ¬ a2.toInt = ((-1) : Int32).toInt := fun h => c_47 (Int32.toInt_inj.mp h)
                  refine lv_iload hx hb dB_3_2_42.2.2.2.1 (lv_at hl 1 rfl) ?_
                  rw [hQ]
                  exact W.iret (v := x4_45) hx hb hr (fun t ht hW => ⟨⟨x4_45, (), rfl, (⟨fun _ => prW_end (fun a b _ _ h => lam_cm hws_ h) (fun a b c _ _ _ h1 h2 h3 => lam_um hws_ h1 h2 h3) (by rw [show s3 = x5_45 from Int32.toInt_inj.mp (by omega)]; exact v3_45) (by omega) (by first | exact Or.inl ⟨by omega, rfl⟩ | exact Or.inr ⟨by omega, rfl⟩), fun h => absurd hpr0_ h⟩), by rw [ht]; exact hP, hD⟩, hS.F ht⟩) hS.2.2 dB_3_2_42.2.2.2.2
                · have t_47 : a2.toInt = ((-1) : Int32).toInt := congrArg Int32.toInt c_47
                  refine lv_iload_n hx hb dB_3_2_42.2.2.1.1 rfl (lv_at hl 2 rfl) ?_
                  refine lv_goto (tgt := 178) hx hb dB_3_2_42.2.2.1.2 (by decide) ?_
                  rw [hQ]
                  exact W.iret (v := x3_45) hx hb hr (fun t ht hW => ⟨⟨x3_45, (), rfl, (⟨fun _ => prW_end (fun a b _ _ h => lam_cm hws_ h) (fun a b c _ _ _ h1 h2 h3 => lam_um hws_ h1 h2 h3) (by rw [show s3 = x5_45 from Int32.toInt_inj.mp (by omega)]; exact v3_45) (by omega) (by first | exact Or.inl ⟨by omega, rfl⟩ | exact Or.inr ⟨by omega, rfl⟩), fun h => absurd hpr0_ h⟩), by rw [ht]; exact hP, hD⟩, hS.F ht⟩) hS.2.2 dB_3_2_42.2.2.2.2
              · have t_46 : ¬ s3.toInt ≤ x5_45.toInt := fun h => c_46 (Int32.le_iff_toInt_le.mpr h)
                refine lv_iconst (v := 1) hx hb dB_3_2_38.2.2.2.2 (by decide) ?_
                refine lv_istore (lv' := [(6, .int 1), (5, .int x5_45), (4, .int x4_45), (3, .int x3_45), (0, .ref mo), (1, .int a1), (2, .int a2)]) hx hb dB_3_2_39.1.1.1.1 hl (by decide) rfl (fun ls hl => ?_)
                refine lv_iconst (v := 0) hx hb dB_3_2_39.1.1.1.2 (by decide) ?_
                refine lv_istore (lv' := [(7, .int 0), (6, .int 1), (5, .int x5_45), (4, .int x4_45), (3, .int x3_45), (0, .ref mo), (1, .int a1), (2, .int a2)]) hx hb dB_3_2_39.1.1.2.1 hl (by decide) rfl (fun ls hl => ?_)
                suffices LOOP_48 : ∀ (n_48 : Nat) (x7_48 : Int32) (x6_48 : Int32) (H : Heap) (locs : List Loc) (ls : Array Slot), x5_45.toInt - x7_48.toInt < (n_48 : Int) → (0 ≤ x7_48.toInt) → (x7_48.toInt ≤ x5_45.toInt) → (x6_48.toInt = 0 ∨ x6_48.toInt = 1) → ((x6_48.toInt = 1 ↔ ∀ q : Nat, (q : Int) < x7_48.toInt → lam (cutR f5 f6 f7 f8 f10 (-9) s4.toNatClampNeg) q x5_45.toNatClampNeg < a1.toInt)) → pd_2 D vwCl A [ob12_0_ mo 0 s1 t2 s3 s4 g5 g6 g7 g8 g9 g10 s11 g12 g13 g14 g15 g16 g17 g18 g19 g20 s21 g22 g23 g24 s25 s26 s27 s28 g29 g30 g31 g32 g33, ai_ cy g5 40 f5, ai_ cy g6 40 f6, ai_ cy g7 40 f7, ai_ cy g8 40 f8, az_ cy g10 40 f10] H → va_S A s.heap H locs → lv_has ls 8 [(7, .int x7_48), (6, .int x6_48), (5, .int x5_45), (4, .int x4_45), (3, .int x3_45), (0, .ref mo), (1, .int a1), (2, .int a2)] → W p l e ({ frames := 4, cells := 0, slots := 0, locals := 96 } : Room) s m (([.ref mo, .int a1, .int a2] : List Value).toArray) below meth c H locs 0 0 Q (F0 m 60 ls []) from LOOP_48 ((x5_45.toInt - (0 : Int32).toInt).toNat + 1) (0 : Int32) (1 : Int32) _ _ _ (by omega) (by first | with_reducible assumption | omega | assumption) (by first | with_reducible assumption | omega | assumption) (by first | with_reducible assumption | omega | assumption) (by first | exact nw_0 | exact nw_st v_none (by omega) (by omega) hla_ (by omega)) ⟨hP, hD⟩ hS (lv_sub hl [0, 1, 2, 3, 4, 5, 6, 7] rfl)
                intro n_48
                induction n_48 with
                | zero =>
                  intro x7_48 x6_48 H locs ls hm v0_48 v1_48 v2_48 v3_48 hPD hS hl; obtain ⟨hP, hD⟩ := hPD
                  exact absurd hm (by omega)
                | succ n_48 ih_48 =>
                  intro x7_48 x6_48 H locs ls hm v0_48 v1_48 v2_48 v3_48 hPD hS hl; obtain ⟨hP, hD⟩ := hPD
                  refine lv_iload hx hb dB_3_2_39.1.1.2.2 (lv_at hl 0 rfl) ?_
                  refine lv_iload hx hb dB_3_2_39.1.2.1.1 (lv_at hl 2 rfl) ?_
                  refine lv_icmp_ge (tgt := 95) hx hb dB_3_2_39.1.2.1.2 (by decide) (fun c_49 => ?_) (fun c_49 => ?_)
                  · have t_49 : x5_45.toInt ≤ x7_48.toInt := Int32.le_iff_toInt_le.mp c_49
                    have c5_ := clI (i := x5_45) (by omega)
                    have hnw_ : nwP (lam (cutR f5 f6 f7 f8 f10 (-9) s4.toNatClampNeg)) a1.toInt x5_45.toNatClampNeg = decide (x6_48.toInt = 1) := nw_end v3_48 (by omega)
                    have JOIN_50 : ∀ (u0_50 : Int32) (H : Heap) (locs : List Loc) (ls : Array Slot), (u0_50.toInt = 0 ∨ u0_50.toInt = 1) → ((decide (u0_50.toInt = 1) = true ↔ (x5_45.toInt = a2.toInt ∨ (0 ≤ a2.toInt ∧ a1.toInt ≤ lam (cutR f5 f6 f7 f8 f10 (-9) s4.toNatClampNeg) x5_45.toNatClampNeg a2.toInt.toNat)))) → pd_2 D vwCl A [ob12_0_ mo 0 s1 t2 s3 s4 g5 g6 g7 g8 g9 g10 s11 g12 g13 g14 g15 g16 g17 g18 g19 g20 s21 g22 g23 g24 s25 s26 s27 s28 g29 g30 g31 g32 g33, ai_ cy g5 40 f5, ai_ cy g6 40 f6, ai_ cy g7 40 f7, ai_ cy g8 40 f8, az_ cy g10 40 f10] H → va_S A s.heap H locs → lv_has ls 8 [(7, .int x7_48), (6, .int x6_48), (5, .int x5_45), (4, .int x4_45), (3, .int x3_45), (0, .ref mo), (1, .int a1), (2, .int a2)] → W p l e ({ frames := 4, cells := 0, slots := 0, locals := 96 } : Room) s m (([.ref mo, .int a1, .int a2] : List Value).toArray) below meth c H locs 0 0 Q (F0 m 121 ls [.int u0_50]) := by
                      intro u0_50 H locs ls v0_50 v1_50 hPD hS hl; obtain ⟨hP, hD⟩ := hPD
                      have hha_ := v1_50
                      have h01_ := v0_50
                      refine lv_istore (lv' := [(7, .int u0_50), (6, .int x6_48), (5, .int x5_45), (4, .int x4_45), (3, .int x3_45), (0, .ref mo), (1, .int a1), (2, .int a2)]) hx hb dB_3_2_41.1.1.2.1 hl (by decide) rfl (fun ls hl => ?_)
                      refine lv_iload hx hb dB_3_2_41.1.1.2.2 (lv_at hl 1 rfl) ?_
                      refine lv_if_eq (tgt := 144) hx hb dB_3_2_41.1.2.1.1 (by decide) (fun c_51 => ?_) (fun c_51 => ?_)
                      · have t_51 : x6_48.toInt = (0 : Int32).toInt := congrArg Int32.toInt c_51
                        refine lv_iload hx hb dB_3_2_41.2.2.1.1 (lv_at hl 3 rfl) ?_
                        refine lv_istore (lv' := [(4, .int x4_45), (7, .int u0_50), (6, .int x6_48), (5, .int x5_45), (3, .int x3_45), (0, .ref mo), (1, .int a1), (2, .int a2)]) hx hb dB_3_2_41.2.2.1.2 hl (by decide) rfl (fun ls hl => ?_)
                        refine lv_iload_n hx hb dB_3_2_41.2.2.2.1 rfl (lv_at hl 4 rfl) ?_
                        refine lv_iload hx hb dB_3_2_41.2.2.2.2 (lv_at hl 2 rfl) ?_
                        refine lv_if_eq (tgt := 158) hx hb dB_3_2_42.1.1.1 (by decide) (fun c_52 => ?_) (fun c_52 => ?_)
                        · have t_52 : x6_48.toInt = (0 : Int32).toInt := congrArg Int32.toInt c_52
                          refine lv_iconst (v := 0) hx hb dB_3_2_42.1.2.1.1 (by decide) ?_
                          refine lv_iadd hx hb dB_3_2_42.1.2.1.2 ?_
                          refine lv_topi (fun y_53 ey_53 => ?_)
                          have ty_53 : y_53.toInt = x3_45.toInt + (0 : Int32).toInt := by rw [ey_53]; exact addI (by omega) (by omega)
                          refine lv_istore_n (lv' := [(3, .int y_53), (4, .int x4_45), (7, .int u0_50), (6, .int x6_48), (5, .int x5_45), (0, .ref mo), (1, .int a1), (2, .int a2)]) hx hb dB_3_2_42.1.2.2.1 rfl hl (by decide) rfl (fun ls hl => ?_)
                          obtain ⟨y_54, ey_54⟩ : ∃ y : Int32, y = x5_45 + 1 := ⟨_, rfl⟩
                          have ty_54 : y_54.toInt = x5_45.toInt + (1 : Int32).toInt := by rw [ey_54]; exact addI (by omega) (by omega)
                          refine lv_iinc (v := y_54) (lv' := [(5, .int y_54), (3, .int y_53), (4, .int x4_45), (7, .int u0_50), (6, .int x6_48), (0, .ref mo), (1, .int a1), (2, .int a2)]) hx hb dB_3_2_42.1.2.2.2 hl (k := 4) rfl (by rw [ey_54]; rfl) (by decide) rfl (fun ls hl => ?_)
                          refine lv_goto (tgt := 45) hx hb dB_3_2_42.2.1.1.1 (by decide) ?_
                          exact ih_45 y_54 x4_45 y_53 _ _ _ (by omega) (by first | with_reducible assumption | omega | assumption) (by first | with_reducible assumption | omega | assumption) (by first | with_reducible assumption | omega | assumption) (by first | exact prW_0 | exact prW_st (nw := decide (x6_48.toInt = 1)) (has := decide (u0_50.toInt = 1)) v3_45 (by omega) (by omega) (by omega) hnw_ hha_ (by first | exact Or.inl ⟨decide_eq_true (by omega), by omega⟩ | exact Or.inr ⟨decide_eq_false (by omega), by omega⟩) (by first | exact Or.inl ⟨decide_eq_true (by omega), decide_eq_true (by omega), by omega, rfl⟩ | exact Or.inr ⟨fun h => absurd (of_decide_eq_true h.1) (by omega), rfl⟩ | exact Or.inr ⟨fun h => absurd (of_decide_eq_true h.2.1) (by omega), rfl⟩ | exact Or.inr ⟨fun h => absurd h.2.2 (by omega), rfl⟩)) ⟨hP, hD⟩ hS (lv_sub hl [0, 2, 1, 5, 6, 7] rfl)
                        · have t_52 : ¬ x6_48.toInt = (0 : Int32).toInt := fun h => c_52 (Int32.toInt_inj.mp h)
                          exfalso; omega
                      · have t_51 : ¬ x6_48.toInt = (0 : Int32).toInt := fun h => c_51 (Int32.toInt_inj.mp h)
                        refine lv_iload hx hb dB_3_2_41.1.2.1.2 (lv_at hl 0 rfl) ?_
                        refine lv_if_eq (tgt := 144) hx hb dB_3_2_41.1.2.2.1 (by decide) (fun c_55 => ?_) (fun c_55 => ?_)
                        · have t_55 : u0_50.toInt = (0 : Int32).toInt := congrArg Int32.toInt c_55
                          refine lv_iload hx hb dB_3_2_41.2.2.1.1 (lv_at hl 3 rfl) ?_
                          refine lv_istore (lv' := [(4, .int x4_45), (7, .int u0_50), (6, .int x6_48), (5, .int x5_45), (3, .int x3_45), (0, .ref mo), (1, .int a1), (2, .int a2)]) hx hb dB_3_2_41.2.2.1.2 hl (by decide) rfl (fun ls hl => ?_)
                          refine lv_iload_n hx hb dB_3_2_41.2.2.2.1 rfl (lv_at hl 4 rfl) ?_
                          refine lv_iload hx hb dB_3_2_41.2.2.2.2 (lv_at hl 2 rfl) ?_
                          refine lv_if_eq (tgt := 158) hx hb dB_3_2_42.1.1.1 (by decide) (fun c_56 => ?_) (fun c_56 => ?_)
                          · have t_56 : x6_48.toInt = (0 : Int32).toInt := congrArg Int32.toInt c_56
                            refine lv_iconst (v := 0) hx hb dB_3_2_42.1.2.1.1 (by decide) ?_
                            refine lv_iadd hx hb dB_3_2_42.1.2.1.2 ?_
                            refine lv_topi (fun y_57 ey_57 => ?_)
                            have ty_57 : y_57.toInt = x3_45.toInt + (0 : Int32).toInt := by rw [ey_57]; exact addI (by omega) (by omega)
                            refine lv_istore_n (lv' := [(3, .int y_57), (4, .int x4_45), (7, .int u0_50), (6, .int x6_48), (5, .int x5_45), (0, .ref mo), (1, .int a1), (2, .int a2)]) hx hb dB_3_2_42.1.2.2.1 rfl hl (by decide) rfl (fun ls hl => ?_)
                            obtain ⟨y_58, ey_58⟩ : ∃ y : Int32, y = x5_45 + 1 := ⟨_, rfl⟩
                            have ty_58 : y_58.toInt = x5_45.toInt + (1 : Int32).toInt := by rw [ey_58]; exact addI (by omega) (by omega)
                            refine lv_iinc (v := y_58) (lv' := [(5, .int y_58), (3, .int y_57), (4, .int x4_45), (7, .int u0_50), (6, .int x6_48), (0, .ref mo), (1, .int a1), (2, .int a2)]) hx hb dB_3_2_42.1.2.2.2 hl (k := 4) rfl (by rw [ey_58]; rfl) (by decide) rfl (fun ls hl => ?_)
                            refine lv_goto (tgt := 45) hx hb dB_3_2_42.2.1.1.1 (by decide) ?_
                            exact ih_45 y_58 x4_45 y_57 _ _ _ (by omega) (by first | with_reducible assumption | omega | assumption) (by first | with_reducible assumption | omega | assumption) (by first | with_reducible assumption | omega | assumption) (by first | exact prW_0 | exact prW_st (nw := decide (x6_48.toInt = 1)) (has := decide (u0_50.toInt = 1)) v3_45 (by omega) (by omega) (by omega) hnw_ hha_ (by first | exact Or.inl ⟨decide_eq_true (by omega), by omega⟩ | exact Or.inr ⟨decide_eq_false (by omega), by omega⟩) (by first | exact Or.inl ⟨decide_eq_true (by omega), decide_eq_true (by omega), by omega, rfl⟩ | exact Or.inr ⟨fun h => absurd (of_decide_eq_true h.1) (by omega), rfl⟩ | exact Or.inr ⟨fun h => absurd (of_decide_eq_true h.2.1) (by omega), rfl⟩ | exact Or.inr ⟨fun h => absurd h.2.2 (by omega), rfl⟩)) ⟨hP, hD⟩ hS (lv_sub hl [0, 2, 1, 5, 6, 7] rfl)
                          · have t_56 : ¬ x6_48.toInt = (0 : Int32).toInt := fun h => c_56 (Int32.toInt_inj.mp h)
                            refine lv_iconst (v := 1) hx hb dB_3_2_42.1.1.2.1 (by decide) ?_
                            refine lv_goto (tgt := 159) hx hb dB_3_2_42.1.1.2.2 (by decide) ?_
                            refine lv_iadd hx hb dB_3_2_42.1.2.1.2 ?_
                            refine lv_topi (fun y_59 ey_59 => ?_)
                            have ty_59 : y_59.toInt = x3_45.toInt + (1 : Int32).toInt := by rw [ey_59]; exact addI (by omega) (by omega)
                            refine lv_istore_n (lv' := [(3, .int y_59), (4, .int x4_45), (7, .int u0_50), (6, .int x6_48), (5, .int x5_45), (0, .ref mo), (1, .int a1), (2, .int a2)]) hx hb dB_3_2_42.1.2.2.1 rfl hl (by decide) rfl (fun ls hl => ?_)
                            obtain ⟨y_60, ey_60⟩ : ∃ y : Int32, y = x5_45 + 1 := ⟨_, rfl⟩
                            have ty_60 : y_60.toInt = x5_45.toInt + (1 : Int32).toInt := by rw [ey_60]; exact addI (by omega) (by omega)
                            refine lv_iinc (v := y_60) (lv' := [(5, .int y_60), (3, .int y_59), (4, .int x4_45), (7, .int u0_50), (6, .int x6_48), (0, .ref mo), (1, .int a1), (2, .int a2)]) hx hb dB_3_2_42.1.2.2.2 hl (k := 4) rfl (by rw [ey_60]; rfl) (by decide) rfl (fun ls hl => ?_)
                            refine lv_goto (tgt := 45) hx hb dB_3_2_42.2.1.1.1 (by decide) ?_
                            exact ih_45 y_60 x4_45 y_59 _ _ _ (by omega) (by first | with_reducible assumption | omega | assumption) (by first | with_reducible assumption | omega | assumption) (by first | with_reducible assumption | omega | assumption) (by first | exact prW_0 | exact prW_st (nw := decide (x6_48.toInt = 1)) (has := decide (u0_50.toInt = 1)) v3_45 (by omega) (by omega) (by omega) hnw_ hha_ (by first | exact Or.inl ⟨decide_eq_true (by omega), by omega⟩ | exact Or.inr ⟨decide_eq_false (by omega), by omega⟩) (by first | exact Or.inl ⟨decide_eq_true (by omega), decide_eq_true (by omega), by omega, rfl⟩ | exact Or.inr ⟨fun h => absurd (of_decide_eq_true h.1) (by omega), rfl⟩ | exact Or.inr ⟨fun h => absurd (of_decide_eq_true h.2.1) (by omega), rfl⟩ | exact Or.inr ⟨fun h => absurd h.2.2 (by omega), rfl⟩)) ⟨hP, hD⟩ hS (lv_sub hl [0, 2, 1, 5, 6, 7] rfl)
                        · have t_55 : ¬ u0_50.toInt = (0 : Int32).toInt := fun h => c_55 (Int32.toInt_inj.mp h)
                          refine lv_iload hx hb dB_3_2_41.1.2.2.2 (lv_at hl 3 rfl) ?_
                          refine lv_bipush (v := (-9)) hx hb dB_3_2_41.2.1.1.1 (by decide) ?_
                          refine lv_icmp_ne (tgt := 144) hx hb dB_3_2_41.2.1.1.2 (by decide) (fun c_61 => ?_) (fun c_61 => ?_)
                          · have t_61 : ¬ x4_45.toInt = ((-9) : Int32).toInt := fun h => c_61 (Int32.toInt_inj.mp h)
                            refine lv_iload hx hb dB_3_2_41.2.2.1.1 (lv_at hl 3 rfl) ?_
                            refine lv_istore (lv' := [(4, .int x4_45), (7, .int u0_50), (6, .int x6_48), (5, .int x5_45), (3, .int x3_45), (0, .ref mo), (1, .int a1), (2, .int a2)]) hx hb dB_3_2_41.2.2.1.2 hl (by decide) rfl (fun ls hl => ?_)
                            refine lv_iload_n hx hb dB_3_2_41.2.2.2.1 rfl (lv_at hl 4 rfl) ?_
                            refine lv_iload hx hb dB_3_2_41.2.2.2.2 (lv_at hl 2 rfl) ?_
                            refine lv_if_eq (tgt := 158) hx hb dB_3_2_42.1.1.1 (by decide) (fun c_62 => ?_) (fun c_62 => ?_)
                            · have t_62 : x6_48.toInt = (0 : Int32).toInt := congrArg Int32.toInt c_62
                              refine lv_iconst (v := 0) hx hb dB_3_2_42.1.2.1.1 (by decide) ?_
                              refine lv_iadd hx hb dB_3_2_42.1.2.1.2 ?_
                              refine lv_topi (fun y_63 ey_63 => ?_)
                              have ty_63 : y_63.toInt = x3_45.toInt + (0 : Int32).toInt := by rw [ey_63]; exact addI (by omega) (by omega)
                              refine lv_istore_n (lv' := [(3, .int y_63), (4, .int x4_45), (7, .int u0_50), (6, .int x6_48), (5, .int x5_45), (0, .ref mo), (1, .int a1), (2, .int a2)]) hx hb dB_3_2_42.1.2.2.1 rfl hl (by decide) rfl (fun ls hl => ?_)
                              obtain ⟨y_64, ey_64⟩ : ∃ y : Int32, y = x5_45 + 1 := ⟨_, rfl⟩
                              have ty_64 : y_64.toInt = x5_45.toInt + (1 : Int32).toInt := by rw [ey_64]; exact addI (by omega) (by omega)
                              refine lv_iinc (v := y_64) (lv' := [(5, .int y_64), (3, .int y_63), (4, .int x4_45), (7, .int u0_50), (6, .int x6_48), (0, .ref mo), (1, .int a1), (2, .int a2)]) hx hb dB_3_2_42.1.2.2.2 hl (k := 4) rfl (by rw [ey_64]; rfl) (by decide) rfl (fun ls hl => ?_)
                              refine lv_goto (tgt := 45) hx hb dB_3_2_42.2.1.1.1 (by decide) ?_
                              exact ih_45 y_64 x4_45 y_63 _ _ _ (by omega) (by first | with_reducible assumption | omega | assumption) (by first | with_reducible assumption | omega | assumption) (by first | with_reducible assumption | omega | assumption) (by first | exact prW_0 | exact prW_st (nw := decide (x6_48.toInt = 1)) (has := decide (u0_50.toInt = 1)) v3_45 (by omega) (by omega) (by omega) hnw_ hha_ (by first | exact Or.inl ⟨decide_eq_true (by omega), by omega⟩ | exact Or.inr ⟨decide_eq_false (by omega), by omega⟩) (by first | exact Or.inl ⟨decide_eq_true (by omega), decide_eq_true (by omega), by omega, rfl⟩ | exact Or.inr ⟨fun h => absurd (of_decide_eq_true h.1) (by omega), rfl⟩ | exact Or.inr ⟨fun h => absurd (of_decide_eq_true h.2.1) (by omega), rfl⟩ | exact Or.inr ⟨fun h => absurd h.2.2 (by omega), rfl⟩)) ⟨hP, hD⟩ hS (lv_sub hl [0, 2, 1, 5, 6, 7] rfl)
                            · have t_62 : ¬ x6_48.toInt = (0 : Int32).toInt := fun h => c_62 (Int32.toInt_inj.mp h)
                              refine lv_iconst (v := 1) hx hb dB_3_2_42.1.1.2.1 (by decide) ?_
                              refine lv_goto (tgt := 159) hx hb dB_3_2_42.1.1.2.2 (by decide) ?_
                              refine lv_iadd hx hb dB_3_2_42.1.2.1.2 ?_
                              refine lv_topi (fun y_65 ey_65 => ?_)
                              have ty_65 : y_65.toInt = x3_45.toInt + (1 : Int32).toInt := by rw [ey_65]; exact addI (by omega) (by omega)
                              refine lv_istore_n (lv' := [(3, .int y_65), (4, .int x4_45), (7, .int u0_50), (6, .int x6_48), (5, .int x5_45), (0, .ref mo), (1, .int a1), (2, .int a2)]) hx hb dB_3_2_42.1.2.2.1 rfl hl (by decide) rfl (fun ls hl => ?_)
                              obtain ⟨y_66, ey_66⟩ : ∃ y : Int32, y = x5_45 + 1 := ⟨_, rfl⟩
                              have ty_66 : y_66.toInt = x5_45.toInt + (1 : Int32).toInt := by rw [ey_66]; exact addI (by omega) (by omega)
                              refine lv_iinc (v := y_66) (lv' := [(5, .int y_66), (3, .int y_65), (4, .int x4_45), (7, .int u0_50), (6, .int x6_48), (0, .ref mo), (1, .int a1), (2, .int a2)]) hx hb dB_3_2_42.1.2.2.2 hl (k := 4) rfl (by rw [ey_66]; rfl) (by decide) rfl (fun ls hl => ?_)
                              refine lv_goto (tgt := 45) hx hb dB_3_2_42.2.1.1.1 (by decide) ?_
                              exact ih_45 y_66 x4_45 y_65 _ _ _ (by omega) (by first | with_reducible assumption | omega | assumption) (by first | with_reducible assumption | omega | assumption) (by first | with_reducible assumption | omega | assumption) (by first | exact prW_0 | exact prW_st (nw := decide (x6_48.toInt = 1)) (has := decide (u0_50.toInt = 1)) v3_45 (by omega) (by omega) (by omega) hnw_ hha_ (by first | exact Or.inl ⟨decide_eq_true (by omega), by omega⟩ | exact Or.inr ⟨decide_eq_false (by omega), by omega⟩) (by first | exact Or.inl ⟨decide_eq_true (by omega), decide_eq_true (by omega), by omega, rfl⟩ | exact Or.inr ⟨fun h => absurd (of_decide_eq_true h.1) (by omega), rfl⟩ | exact Or.inr ⟨fun h => absurd (of_decide_eq_true h.2.1) (by omega), rfl⟩ | exact Or.inr ⟨fun h => absurd h.2.2 (by omega), rfl⟩)) ⟨hP, hD⟩ hS (lv_sub hl [0, 2, 1, 5, 6, 7] rfl)
                          · have t_61 : x4_45.toInt = ((-9) : Int32).toInt := congrArg Int32.toInt c_61
                            refine lv_iload_n hx hb dB_3_2_41.2.1.2.1 rfl (lv_at hl 4 rfl) ?_
                            refine lv_goto (tgt := 146) hx hb dB_3_2_41.2.1.2.2 (by decide) ?_
                            refine lv_istore (lv' := [(4, .int x3_45), (7, .int u0_50), (6, .int x6_48), (5, .int x5_45), (3, .int x3_45), (0, .ref mo), (1, .int a1), (2, .int a2)]) hx hb dB_3_2_41.2.2.1.2 hl (by decide) rfl (fun ls hl => ?_)
                            refine lv_iload_n hx hb dB_3_2_41.2.2.2.1 rfl (lv_at hl 4 rfl) ?_
                            refine lv_iload hx hb dB_3_2_41.2.2.2.2 (lv_at hl 2 rfl) ?_
                            refine lv_if_eq (tgt := 158) hx hb dB_3_2_42.1.1.1 (by decide) (fun c_67 => ?_) (fun c_67 => ?_)
                            · have t_67 : x6_48.toInt = (0 : Int32).toInt := congrArg Int32.toInt c_67
                              refine lv_iconst (v := 0) hx hb dB_3_2_42.1.2.1.1 (by decide) ?_
                              refine lv_iadd hx hb dB_3_2_42.1.2.1.2 ?_
                              refine lv_topi (fun y_68 ey_68 => ?_)
                              have ty_68 : y_68.toInt = x3_45.toInt + (0 : Int32).toInt := by rw [ey_68]; exact addI (by omega) (by omega)
                              refine lv_istore_n (lv' := [(3, .int y_68), (4, .int x3_45), (7, .int u0_50), (6, .int x6_48), (5, .int x5_45), (0, .ref mo), (1, .int a1), (2, .int a2)]) hx hb dB_3_2_42.1.2.2.1 rfl hl (by decide) rfl (fun ls hl => ?_)
                              obtain ⟨y_69, ey_69⟩ : ∃ y : Int32, y = x5_45 + 1 := ⟨_, rfl⟩
                              have ty_69 : y_69.toInt = x5_45.toInt + (1 : Int32).toInt := by rw [ey_69]; exact addI (by omega) (by omega)
                              refine lv_iinc (v := y_69) (lv' := [(5, .int y_69), (3, .int y_68), (4, .int x3_45), (7, .int u0_50), (6, .int x6_48), (0, .ref mo), (1, .int a1), (2, .int a2)]) hx hb dB_3_2_42.1.2.2.2 hl (k := 4) rfl (by rw [ey_69]; rfl) (by decide) rfl (fun ls hl => ?_)
                              refine lv_goto (tgt := 45) hx hb dB_3_2_42.2.1.1.1 (by decide) ?_
                              exact ih_45 y_69 x3_45 y_68 _ _ _ (by omega) (by first | with_reducible assumption | omega | assumption) (by first | with_reducible assumption | omega | assumption) (by first | with_reducible assumption | omega | assumption) (by first | exact prW_0 | exact prW_st (nw := decide (x6_48.toInt = 1)) (has := decide (u0_50.toInt = 1)) v3_45 (by omega) (by omega) (by omega) hnw_ hha_ (by first | exact Or.inl ⟨decide_eq_true (by omega), by omega⟩ | exact Or.inr ⟨decide_eq_false (by omega), by omega⟩) (by first | exact Or.inl ⟨decide_eq_true (by omega), decide_eq_true (by omega), by omega, rfl⟩ | exact Or.inr ⟨fun h => absurd (of_decide_eq_true h.1) (by omega), rfl⟩ | exact Or.inr ⟨fun h => absurd (of_decide_eq_true h.2.1) (by omega), rfl⟩ | exact Or.inr ⟨fun h => absurd h.2.2 (by omega), rfl⟩)) ⟨hP, hD⟩ hS (lv_sub hl [0, 2, 1, 5, 6, 7] rfl)
                            · have t_67 : ¬ x6_48.toInt = (0 : Int32).toInt := fun h => c_67 (Int32.toInt_inj.mp h)
                              refine lv_iconst (v := 1) hx hb dB_3_2_42.1.1.2.1 (by decide) ?_
                              refine lv_goto (tgt := 159) hx hb dB_3_2_42.1.1.2.2 (by decide) ?_
                              refine lv_iadd hx hb dB_3_2_42.1.2.1.2 ?_
                              refine lv_topi (fun y_70 ey_70 => ?_)
                              have ty_70 : y_70.toInt = x3_45.toInt + (1 : Int32).toInt := by rw [ey_70]; exact addI (by omega) (by omega)
                              refine lv_istore_n (lv' := [(3, .int y_70), (4, .int x3_45), (7, .int u0_50), (6, .int x6_48), (5, .int x5_45), (0, .ref mo), (1, .int a1), (2, .int a2)]) hx hb dB_3_2_42.1.2.2.1 rfl hl (by decide) rfl (fun ls hl => ?_)
                              obtain ⟨y_71, ey_71⟩ : ∃ y : Int32, y = x5_45 + 1 := ⟨_, rfl⟩
                              have ty_71 : y_71.toInt = x5_45.toInt + (1 : Int32).toInt := by rw [ey_71]; exact addI (by omega) (by omega)
                              refine lv_iinc (v := y_71) (lv' := [(5, .int y_71), (3, .int y_70), (4, .int x3_45), (7, .int u0_50), (6, .int x6_48), (0, .ref mo), (1, .int a1), (2, .int a2)]) hx hb dB_3_2_42.1.2.2.2 hl (k := 4) rfl (by rw [ey_71]; rfl) (by decide) rfl (fun ls hl => ?_)
                              refine lv_goto (tgt := 45) hx hb dB_3_2_42.2.1.1.1 (by decide) ?_
                              exact ih_45 y_71 x3_45 y_70 _ _ _ (by omega) (by first | with_reducible assumption | omega | assumption) (by first | with_reducible assumption | omega | assumption) (by first | with_reducible assumption | omega | assumption) (by first | exact prW_0 | exact prW_st (nw := decide (x6_48.toInt = 1)) (has := decide (u0_50.toInt = 1)) v3_45 (by omega) (by omega) (by omega) hnw_ hha_ (by first | exact Or.inl ⟨decide_eq_true (by omega), by omega⟩ | exact Or.inr ⟨decide_eq_false (by omega), by omega⟩) (by first | exact Or.inl ⟨decide_eq_true (by omega), decide_eq_true (by omega), by omega, rfl⟩ | exact Or.inr ⟨fun h => absurd (of_decide_eq_true h.1) (by omega), rfl⟩ | exact Or.inr ⟨fun h => absurd (of_decide_eq_true h.2.1) (by omega), rfl⟩ | exact Or.inr ⟨fun h => absurd h.2.2 (by omega), rfl⟩)) ⟨hP, hD⟩ hS (lv_sub hl [0, 2, 1, 5, 6, 7] rfl)
                    refine lv_iload hx hb dB_3_2_40.1.2.1.1 (lv_at hl 2 rfl) ?_
                    refine lv_iload_n hx hb dB_3_2_40.1.2.1.2 rfl (lv_at hl 7 rfl) ?_
                    refine lv_icmp_eq (tgt := 116) hx hb dB_3_2_40.1.2.2.1 (by decide) (fun c_72 => ?_) (fun c_72 => ?_)
                    · have t_72 : x5_45.toInt = a2.toInt := congrArg Int32.toInt c_72
                      refine lv_iconst (v := 1) hx hb dB_3_2_40.2.2.2.2 (by decide) ?_
                      refine lv_goto (tgt := 121) hx hb dB_3_2_41.1.1.1.1 (by decide) ?_
                      exact JOIN_50 (1 : Int32) _ _ _ (by first | with_reducible assumption | omega | assumption) (by first | exact has_1 (by decide) (Or.inl (by omega)) | exact has_1 (by decide) (Or.inr ⟨by omega, by rw [show a2.toInt.toNat = a2.toNatClampNeg from rfl, ← hlb_]; omega⟩) | exact has_0 (by decide) (by omega) (fun h => by rw [show a2.toInt.toNat = a2.toNatClampNeg from rfl, ← hlb_]; omega) | exact has_0 (by decide) (by omega) (fun h => by omega)) ⟨hP, hD⟩ hS (lv_sub hl [0, 1, 2, 3, 4, 5, 6, 7] rfl)
                    · have t_72 : ¬ x5_45.toInt = a2.toInt := fun h => c_72 (Int32.toInt_inj.mp h)
                      refine lv_iload_n hx hb dB_3_2_40.1.2.2.2 rfl (lv_at hl 7 rfl) ?_
                      refine lv_if_lt (tgt := 120) hx hb dB_3_2_40.2.1.1.1 (by decide) (fun c_73 => ?_) (fun c_73 => ?_)
                      · have t_73 : a2.toInt < (0 : Int32).toInt := Int32.lt_iff_toInt_lt.mp c_73
                        refine lv_iconst (v := 0) hx hb dB_3_2_41.1.1.1.2 (by decide) ?_
                        exact JOIN_50 (0 : Int32) _ _ _ (by first | with_reducible assumption | omega | assumption) (by first | exact has_1 (by decide) (Or.inl (by omega)) | exact has_1 (by decide) (Or.inr ⟨by omega, by rw [show a2.toInt.toNat = a2.toNatClampNeg from rfl, ← hlb_]; omega⟩) | exact has_0 (by decide) (by omega) (fun h => by rw [show a2.toInt.toNat = a2.toNatClampNeg from rfl, ← hlb_]; omega) | exact has_0 (by decide) (by omega) (fun h => by omega)) ⟨hP, hD⟩ hS (lv_sub hl [0, 1, 2, 3, 4, 5, 6, 7] rfl)
                      · have t_73 : ¬ a2.toInt < (0 : Int32).toInt := fun h => c_73 (Int32.lt_iff_toInt_lt.mpr h)
                        refine lv_aload_n hx hb dB_3_2_40.2.1.1.2 rfl (lv_at hl 5 rfl) ?_
                        refine lv_iload hx hb dB_3_2_40.2.1.2.1 (lv_at hl 2 rfl) ?_
                        refine lv_iload_n hx hb dB_3_2_40.2.1.2.2 rfl (lv_at hl 7 rfl) ?_
                        refine ct_R hP hD [ob12_0_ mo 0 s1 t2 s3 s4 g5 g6 g7 g8 g9 g10 s11 g12 g13 g14 g15 g16 g17 g18 g19 g20 s21 g22 g23 g24 s25 s26 s27 s28 g29 g30 g31 g32 g33, ai_ cy g5 40 f5, ai_ cy g6 40 f6, ai_ cy g7 40 f7, ai_ cy g8 40 f8, az_ cy g10 40 f10] [0, 1, 2, 3, 4, 5] (by decide) rfl (fun hPc hDw => ?_)
                        have hFc := va_free (wc := []) hD hS hA [] rfl
                        refine va_calli (va_runV (As := [.int x5_45, .int a2]) (rest := []) ⟨hx, hb, hml, hown, hts⟩ (c_X12_mostOf2 l D cy H.size mo g5 g6 g7 g8 g9 g10 g12 g13 g14 g15 g16 g17 g18 g19 g20 g22 g23 g24 g29 g30 g31 g32 g33 (0 : Int32) s1 s3 s4 s11 s21 s25 s26 s27 s28 t2 f5 f6 f7 f8 f10 x5_45 a2 (by first | with_reducible assumption | omega | assumption) (by first | with_reducible assumption | omega | assumption) (by first | with_reducible assumption | assumption | omega) (by first | with_reducible assumption | omega | assumption) (by first | with_reducible assumption | omega | assumption) (by first | with_reducible assumption | assumption | omega) (by first | with_reducible assumption | assumption | omega) (by first | with_reducible assumption | assumption | omega)) (cwV 2 hts gX12_part_X12_mostOf rfl rfl rfl ⟨rfl, hd_X12_mostOf⟩ ⟨Nat.le_of_ble_eq_true rfl, Nat.le_of_ble_eq_true rfl⟩) ⟨bl_, va_recvX hK.1 hP (ci := 12) (q0 := 0) rfl rfl, fun U hU hW => ⟨rfl, by rw [hU], by rw [hU]; exact hPc, kk_mv hW hK, hDw⟩⟩ rfl rfl hl.1 rfl (lv_room (Nat.le_of_ble_eq_true rfl)) dB_3_2_40.2.2.1.1 ⟨Nat.le_of_ble_eq_true rfl, Nat.le_of_ble_eq_true rfl⟩) hS (fun q _ h => hFc q h) hFc (fun r_74 u t H locs ht hvm hw hB hz1 hk1 hS => ?_)
                        have hP : va_P D vwCl _ H := ro_keep hP hk1
                        have f0_r_74 := hw
                        have hlb_ : r_74.toInt = lam (cutR f5 f6 f7 f8 f10 (-9) s4.toNatClampNeg) x5_45.toNatClampNeg a2.toNatClampNeg := by have h_ := (mst_wh hwr_ (nc_ne (x := x5_45) (y := a2) (by omega) (by omega) (by omega)) f0_r_74).2.1; rw [h21i_] at h_; exact h_
                        refine lv_iload_n hx hb dB_3_2_40.2.2.1.2 rfl (lv_at hl 6 rfl) ?_
                        refine lv_icmp_lt (tgt := 120) hx hb dB_3_2_40.2.2.2.1 (by decide) (fun c_75 => ?_) (fun c_75 => ?_)
                        · have t_75 : r_74.toInt < a1.toInt := Int32.lt_iff_toInt_lt.mp c_75
                          refine lv_iconst (v := 0) hx hb dB_3_2_41.1.1.1.2 (by decide) ?_
                          exact JOIN_50 (0 : Int32) _ _ _ (by first | with_reducible assumption | omega | assumption) (by first | exact has_1 (by decide) (Or.inl (by omega)) | exact has_1 (by decide) (Or.inr ⟨by omega, by rw [show a2.toInt.toNat = a2.toNatClampNeg from rfl, ← hlb_]; omega⟩) | exact has_0 (by decide) (by omega) (fun h => by rw [show a2.toInt.toNat = a2.toNatClampNeg from rfl, ← hlb_]; omega) | exact has_0 (by decide) (by omega) (fun h => by omega)) ⟨hP, hD⟩ hS (lv_sub hl [0, 1, 2, 3, 4, 5, 6, 7] rfl)
                        · have t_75 : ¬ r_74.toInt < a1.toInt := fun h => c_75 (Int32.lt_iff_toInt_lt.mpr h)
                          refine lv_iconst (v := 1) hx hb dB_3_2_40.2.2.2.2 (by decide) ?_
                          refine lv_goto (tgt := 121) hx hb dB_3_2_41.1.1.1.1 (by decide) ?_
                          exact JOIN_50 (1 : Int32) _ _ _ (by first | with_reducible assumption | omega | assumption) (by first | exact has_1 (by decide) (Or.inl (by omega)) | exact has_1 (by decide) (Or.inr ⟨by omega, by rw [show a2.toInt.toNat = a2.toNatClampNeg from rfl, ← hlb_]; omega⟩) | exact has_0 (by decide) (by omega) (fun h => by rw [show a2.toInt.toNat = a2.toNatClampNeg from rfl, ← hlb_]; omega) | exact has_0 (by decide) (by omega) (fun h => by omega)) ⟨hP, hD⟩ hS (lv_sub hl [0, 1, 2, 3, 4, 5, 6, 7] rfl)
                  · have t_49 : ¬ x5_45.toInt ≤ x7_48.toInt := fun h => c_49 (Int32.le_iff_toInt_le.mpr h)
                    refine lv_iload hx hb dB_3_2_39.1.2.2.1 (lv_at hl 1 rfl) ?_
                    refine lv_aload_n hx hb dB_3_2_39.1.2.2.2 rfl (lv_at hl 5 rfl) ?_
                    refine lv_iload hx hb dB_3_2_39.2.1.1.1 (lv_at hl 2 rfl) ?_
                    refine lv_iload hx hb dB_3_2_39.2.1.1.2 (lv_at hl 0 rfl) ?_
                    refine ct_R hP hD [ob12_0_ mo 0 s1 t2 s3 s4 g5 g6 g7 g8 g9 g10 s11 g12 g13 g14 g15 g16 g17 g18 g19 g20 s21 g22 g23 g24 s25 s26 s27 s28 g29 g30 g31 g32 g33, ai_ cy g5 40 f5, ai_ cy g6 40 f6, ai_ cy g7 40 f7, ai_ cy g8 40 f8, az_ cy g10 40 f10] [0, 1, 2, 3, 4, 5] (by decide) rfl (fun hPc hDw => ?_)
                    have hFc := va_free (wc := []) hD hS hA [] rfl
                    refine va_calli (va_runV (As := [.int x5_45, .int x7_48]) (rest := [.int x6_48]) ⟨hx, hb, hml, hown, hts⟩ (c_X12_mostOf2 l D cy H.size mo g5 g6 g7 g8 g9 g10 g12 g13 g14 g15 g16 g17 g18 g19 g20 g22 g23 g24 g29 g30 g31 g32 g33 (0 : Int32) s1 s3 s4 s11 s21 s25 s26 s27 s28 t2 f5 f6 f7 f8 f10 x5_45 x7_48 (by first | with_reducible assumption | omega | assumption) (by first | with_reducible assumption | omega | assumption) (by first | with_reducible assumption | assumption | omega) (by first | with_reducible assumption | omega | assumption) (by first | with_reducible assumption | omega | assumption) (by first | with_reducible assumption | assumption | omega) (by first | with_reducible assumption | assumption | omega) (by first | with_reducible assumption | assumption | omega)) (cwV 2 hts gX12_part_X12_mostOf rfl rfl rfl ⟨rfl, hd_X12_mostOf⟩ ⟨Nat.le_of_ble_eq_true rfl, Nat.le_of_ble_eq_true rfl⟩) ⟨bl_, va_recvX hK.1 hP (ci := 12) (q0 := 0) rfl rfl, fun U hU hW => ⟨rfl, by rw [hU], by rw [hU]; exact hPc, kk_mv hW hK, hDw⟩⟩ rfl rfl hl.1 rfl (lv_room (Nat.le_of_ble_eq_true rfl)) dB_3_2_39.2.1.2.1 ⟨Nat.le_of_ble_eq_true rfl, Nat.le_of_ble_eq_true rfl⟩) hS (fun q _ h => hFc q h) hFc (fun r_76 u t H locs ht hvm hw hB hz1 hk1 hS => ?_)
                    have hP : va_P D vwCl _ H := ro_keep hP hk1
                    have f0_r_76 := hw
                    have hla_ : r_76.toInt = lam (cutR f5 f6 f7 f8 f10 (-9) s4.toNatClampNeg) x7_48.toNatClampNeg x5_45.toNatClampNeg := by rw [lam_cm hws_ (nc_ne (x := x7_48) (y := x5_45) (by omega) (by omega) (by omega))]; have h_ := (mst_wh hwr_ (nc_ne (x := x5_45) (y := x7_48) (by omega) (by omega) (by omega)) f0_r_76).2.1; rw [h21i_] at h_; exact h_
                    refine lv_iload_n hx hb dB_3_2_39.2.1.2.2 rfl (lv_at hl 6 rfl) ?_
                    refine lv_icmp_ge (tgt := 85) hx hb dB_3_2_39.2.2.1.1 (by decide) (fun c_77 => ?_) (fun c_77 => ?_)
                    · have t_77 : a1.toInt ≤ r_76.toInt := Int32.le_iff_toInt_le.mp c_77
                      refine lv_iconst (v := 0) hx hb dB_3_2_39.2.2.2.2 (by decide) ?_
                      refine lv_iand hx hb dB_3_2_40.1.1.1.1 ?_
                      refine lv_topi (fun y_78 ey_78 => ?_)
                      have ty_78 : (y_78.toInt = 0 ∨ y_78.toInt = 1) ∧ y_78.toInt = (if x6_48.toInt = 1 ∧ (0 : Int32).toInt = 1 then 1 else 0) := by rw [ey_78]; exact ⟨and01 (by omega) (by omega), and_if (by omega) (by omega)⟩
                      have hai_ : (y_78.toInt = 0 ∨ y_78.toInt = 1) ∧ _ := ty_78
                      refine lv_istore (lv' := [(6, .int y_78), (7, .int x7_48), (5, .int x5_45), (4, .int x4_45), (3, .int x3_45), (0, .ref mo), (1, .int a1), (2, .int a2)]) hx hb dB_3_2_40.1.1.1.2 hl (by decide) rfl (fun ls hl => ?_)
                      obtain ⟨y_79, ey_79⟩ : ∃ y : Int32, y = x7_48 + 1 := ⟨_, rfl⟩
                      have ty_79 : y_79.toInt = x7_48.toInt + (1 : Int32).toInt := by rw [ey_79]; exact addI (by omega) (by omega)
                      refine lv_iinc (v := y_79) (lv' := [(7, .int y_79), (6, .int y_78), (5, .int x5_45), (4, .int x4_45), (3, .int x3_45), (0, .ref mo), (1, .int a1), (2, .int a2)]) hx hb dB_3_2_40.1.1.2.1 hl (k := 1) rfl (by rw [ey_79]; rfl) (by decide) rfl (fun ls hl => ?_)
                      refine lv_goto (tgt := 60) hx hb dB_3_2_40.1.1.2.2 (by decide) ?_
                      exact ih_48 y_79 y_78 _ _ _ (by omega) (by first | with_reducible assumption | omega | assumption) (by first | with_reducible assumption | omega | assumption) (by first | with_reducible assumption | omega | assumption) (by first | exact nw_0 | exact nw_st v3_48 (by omega) (by omega) hla_ (by omega)) ⟨hP, hD⟩ hS (lv_sub hl [0, 1, 2, 3, 4, 5, 6, 7] rfl)
                    · have t_77 : ¬ a1.toInt ≤ r_76.toInt := fun h => c_77 (Int32.le_iff_toInt_le.mpr h)
                      refine lv_iconst (v := 1) hx hb dB_3_2_39.2.2.1.2 (by decide) ?_
                      refine lv_goto (tgt := 86) hx hb dB_3_2_39.2.2.2.1 (by decide) ?_
                      refine lv_iand hx hb dB_3_2_40.1.1.1.1 ?_
                      refine lv_topi (fun y_80 ey_80 => ?_)
                      have ty_80 : (y_80.toInt = 0 ∨ y_80.toInt = 1) ∧ y_80.toInt = (if x6_48.toInt = 1 ∧ (1 : Int32).toInt = 1 then 1 else 0) := by rw [ey_80]; exact ⟨and01 (by omega) (by omega), and_if (by omega) (by omega)⟩
                      have hai_ : (y_80.toInt = 0 ∨ y_80.toInt = 1) ∧ _ := ty_80
                      refine lv_istore (lv' := [(6, .int y_80), (7, .int x7_48), (5, .int x5_45), (4, .int x4_45), (3, .int x3_45), (0, .ref mo), (1, .int a1), (2, .int a2)]) hx hb dB_3_2_40.1.1.1.2 hl (by decide) rfl (fun ls hl => ?_)
                      obtain ⟨y_81, ey_81⟩ : ∃ y : Int32, y = x7_48 + 1 := ⟨_, rfl⟩
                      have ty_81 : y_81.toInt = x7_48.toInt + (1 : Int32).toInt := by rw [ey_81]; exact addI (by omega) (by omega)
                      refine lv_iinc (v := y_81) (lv' := [(7, .int y_81), (6, .int y_80), (5, .int x5_45), (4, .int x4_45), (3, .int x3_45), (0, .ref mo), (1, .int a1), (2, .int a2)]) hx hb dB_3_2_40.1.1.2.1 hl (k := 1) rfl (by rw [ey_81]; rfl) (by decide) rfl (fun ls hl => ?_)
                      refine lv_goto (tgt := 60) hx hb dB_3_2_40.1.1.2.2 (by decide) ?_
                      exact ih_48 y_81 y_80 _ _ _ (by omega) (by first | with_reducible assumption | omega | assumption) (by first | with_reducible assumption | omega | assumption) (by first | with_reducible assumption | omega | assumption) (by first | exact nw_0 | exact nw_st v3_48 (by omega) (by omega) hla_ (by omega)) ⟨hP, hD⟩ hS (lv_sub hl [0, 1, 2, 3, 4, 5, 6, 7] rfl)
          · exact absurd c_44 (by decide)
        · have e_ := e_.symm
          subst e_
          refine lv_if_ne (tgt := 36) hx hb dB_3_2_38.1.1.2.1 (by decide) (fun c_82 => ?_) (fun c_82 => ?_)
          · exact absurd c_82 (by decide)
          · have _ := c_82
            refine lv_iconst (v := (-1)) hx hb dB_3_2_38.1.1.2.2 (by decide) ?_
            rw [hQ]
            exact W.iret (v := (-1)) hx hb hr (fun t ht hW => ⟨⟨(-1), (), rfl, (⟨fun h => absurd h (by unfold prI; (repeat' (first | with_reducible refine if_n (by omega) ?_ | with_reducible refine if_ns (by omega) ?_ | with_reducible refine if_nz (by omega) ?_ | with_reducible exact if_p (by omega) (by omega) | with_reducible exact if_ps (by omega) (by omega) | with_reducible exact if_pz (by omega) (by omega))) <;> omega), fun _ => (by unfold prI; (repeat' (first | with_reducible refine if_n (by omega) ?_ | with_reducible refine if_ns (by omega) ?_ | with_reducible refine if_nz (by omega) ?_ | with_reducible exact if_p (by omega) (by omega) | with_reducible exact if_ps (by omega) (by omega) | with_reducible exact if_pz (by omega) (by omega))) <;> omega)⟩), by rw [ht]; exact hP, hD⟩, hS.F ht⟩) hS.2.2 dB_3_2_38.1.2.1.1
    · have t_3 : r_2.toInt = (0 : Int32).toInt := congrArg Int32.toInt c_3
      refine lv_bipush (v := (-2)) hx hb dB_3_2_37.2.1.2.1 (by decide) ?_
      rw [hQ]
      exact W.iret (v := (-2)) hx hb hr (fun t ht hW => ⟨⟨(-2), (), rfl, (⟨fun h => absurd h (by unfold prI; (repeat' (first | with_reducible refine if_n (by omega) ?_ | with_reducible refine if_ns (by omega) ?_ | with_reducible refine if_nz (by omega) ?_ | with_reducible exact if_p (by omega) (by omega) | with_reducible exact if_ps (by omega) (by omega) | with_reducible exact if_pz (by omega) (by omega))) <;> omega), fun _ => (by unfold prI; (repeat' (first | with_reducible refine if_n (by omega) ?_ | with_reducible refine if_ns (by omega) ?_ | with_reducible refine if_nz (by omega) ?_ | with_reducible exact if_p (by omega) (by omega) | with_reducible exact if_ps (by omega) (by omega) | with_reducible exact if_pz (by omega) (by omega))) <;> omega)⟩), by rw [ht]; exact hP, hD⟩, hS.F ht⟩) hS.2.2 dB_3_2_37.2.1.2.2
  · have t_1 : ¬ (0 : Int32).toInt ≤ a1.toInt := fun h => c_1 (Int32.le_iff_toInt_le.mpr h)
    refine lv_iconst (v := (-1)) hx hb dB_3_2_37.1.2.1.2 (by decide) ?_
    rw [hQ]
    exact W.iret (v := (-1)) hx hb hr (fun t ht hW => ⟨⟨(-1), (), rfl, (⟨fun h => absurd h (by unfold prI; (repeat' (first | with_reducible refine if_n (by omega) ?_ | with_reducible refine if_ns (by omega) ?_ | with_reducible refine if_nz (by omega) ?_ | with_reducible exact if_p (by omega) (by omega) | with_reducible exact if_ps (by omega) (by omega) | with_reducible exact if_pz (by omega) (by omega))) <;> omega), fun _ => (by unfold prI; (repeat' (first | with_reducible refine if_n (by omega) ?_ | with_reducible refine if_ns (by omega) ?_ | with_reducible refine if_nz (by omega) ?_ | with_reducible exact if_p (by omega) (by omega) | with_reducible exact if_ps (by omega) (by omega) | with_reducible exact if_pz (by omega) (by omega))) <;> omega)⟩), by rw [ht]; exact hP, hD⟩, hS.F ht⟩) hS.2.2 dB_3_2_37.1.2.2.1
end

section
/-! ===== the densest set ===== -/
noncomputable def ush (x k : Int32) : Int32 := (x.toUInt32 >>> (k.toUInt32 &&& Int32.toUInt32 31)).toInt32
noncomputable def bcF (a : Int32) : Int32 := ((((((((a - (ush a 1 &&& 1431655765)) &&& 858993459) + (ush (a - (ush a 1 &&& 1431655765)) 2 &&& 858993459)) + ush (((a - (ush a 1 &&& 1431655765)) &&& 858993459) + (ush (a - (ush a 1 &&& 1431655765)) 2 &&& 858993459)) 4) &&& 252645135) + ush (((((a - (ush a 1 &&& 1431655765)) &&& 858993459) + (ush (a - (ush a 1 &&& 1431655765)) 2 &&& 858993459)) + ush (((a - (ush a 1 &&& 1431655765)) &&& 858993459) + (ush (a - (ush a 1 &&& 1431655765)) 2 &&& 858993459)) 4) &&& 252645135) 8)) + ush ((((((a - (ush a 1 &&& 1431655765)) &&& 858993459) + (ush (a - (ush a 1 &&& 1431655765)) 2 &&& 858993459)) + ush (((a - (ush a 1 &&& 1431655765)) &&& 858993459) + (ush (a - (ush a 1 &&& 1431655765)) 2 &&& 858993459)) 4) &&& 252645135) + ush (((((a - (ush a 1 &&& 1431655765)) &&& 858993459) + (ush (a - (ush a 1 &&& 1431655765)) 2 &&& 858993459)) + ush (((a - (ush a 1 &&& 1431655765)) &&& 858993459) + (ush (a - (ush a 1 &&& 1431655765)) 2 &&& 858993459)) 4) &&& 252645135) 8) 16) &&& 63
set_option maxRecDepth 100000 in
theorem bc_all : ∀ n : Nat, n < 4096 → (bcF (nI n)).toInt = bitI (nI n) := by decide +kernel
end

section
/-! sets in their order: the best so far -/
noncomputable def dBt (W b : Nat → Int) (x : Nat) (m : Int) (n : Nat) : Prop := m * b n < W n * b x ∨ (W n * b x = m * b n ∧ b x < b n)
noncomputable def dnz (W b : Nat → Int) : Nat → Nat × Int
  | 0 => (0, 0)
  | n + 1 => @ite _ (dBt W b (dnz W b n).1 (dnz W b n).2 n) (Classical.propDecidable _) (n, W n) (dnz W b n)
noncomputable def dS_ (W b : Nat → Int) (n : Nat) (x m : Int32) : Prop := x.toInt = ((dnz W b n).1 : Int) ∧ m.toInt = (dnz W b n).2
theorem dnz_y {W b : Nat → Int} {n : Nat} (h : dBt W b (dnz W b n).1 (dnz W b n).2 n) : dnz W b (n + 1) = (n, W n) := if_pos h
theorem dnz_n {W b : Nat → Int} {n : Nat} (h : ¬ dBt W b (dnz W b n).1 (dnz W b n).2 n) : dnz W b (n + 1) = dnz W b n := if_neg h
theorem dnz_lt {W b : Nat → Int} : ∀ n : Nat, (dnz W b n).1 ≤ n ∧ ((dnz W b n).1 < n ∨ n = 0)
  | 0 => ⟨Nat.le_refl _, Or.inr rfl⟩
  | n + 1 => by
    have a := dnz_lt (W := W) (b := b) n
    by_cases h : dBt W b (dnz W b n).1 (dnz W b n).2 n
    · rw [dnz_y h]
      exact ⟨by show n ≤ n + 1; omega, Or.inl (by show n < n + 1; omega)⟩
    · rw [dnz_n h]
      omega
theorem dnz_z {W b : Nat → Int} (h0 : W 0 = 0) : ∀ n : Nat, (dnz W b n).1 = 0 → (dnz W b n).2 = 0
  | 0, _ => rfl
  | n + 1, h => by
    by_cases q : dBt W b (dnz W b n).1 (dnz W b n).2 n
    · rw [dnz_y q] at h ⊢
      have e : n = 0 := h
      show W n = 0
      rw [e, h0]
    · rw [dnz_n q] at h ⊢
      exact dnz_z h0 n h
theorem dnz_W {W b : Nat → Int} (h0 : W 0 = 0) : ∀ n : Nat, (dnz W b n).2 = W (dnz W b n).1
  | 0 => h0.symm
  | n + 1 => by
    by_cases q : dBt W b (dnz W b n).1 (dnz W b n).2 n
    · rw [dnz_y q]
    · rw [dnz_n q]
      exact dnz_W h0 n
noncomputable def bN (n : Nat) : Int := bitI (nI n)
theorem bN_0 : bN 0 = 0 := by decide +kernel
theorem bN_pos {n : Nat} (h0 : n ≠ 0) (hn : n < 4096) : 1 ≤ bN n := by
  have q : ∀ n : Nat, n < 4096 → n ≠ 0 → ∃ i : Nat, i < 12 ∧ n.testBit i = true := fun n hn h0 => by
    refine Classical.byContradiction (fun w => h0 ?_)
    refine Nat.eq_of_testBit_eq (fun i => ?_)
    rw [Nat.zero_testBit]
    rcases Nat.lt_or_ge i 12 with z | z
    · cases g : n.testBit i
      · rfl
      · exact absurd ⟨i, z, g⟩ w
    · exact Nat.testBit_lt_two_pow (Nat.lt_of_lt_of_le hn (Nat.pow_le_pow_right (n := 2) (by decide) (show 12 ≤ i from z)))
  obtain ⟨i, hi, g⟩ := q n hn h0
  have a := sumI_le1 (f := fun i => if bt (nI n) i = true then 1 else 0) (n := 12) (k := i) (fun j _ => by
    try dsimp only
    split <;> omega) hi
  rw [if_pos (by rw [bt_nI (by omega)]; exact g)] at a
  exact a
/-! what lies within a set: by pairs, and by lines -/
noncomputable def inZ (M : Nat → Nat → Int) (S : Nat → Bool) (P : Nat) : Int := sumI (fun y => if S y = true then sumI (inS M S y) P else 0) P
noncomputable def inH (M : Nat → Nat → Int) (S : Nat → Bool) (K P : Nat) : Int := sumI (fun y => if K ≤ y ∧ S y = true then sumI (inS M S y) P else 0) P
theorem inS_add {M N : Nat → Nat → Int} {S : Nat → Bool} {p x : Nat} : inS (fun x y => M x y + N x y) S p x = inS M S p x + inS N S p x := by
  unfold inS
  try dsimp only
  split <;> omega
theorem inZ_add {M N : Nat → Nat → Int} {S : Nat → Bool} {P : Nat} : inZ (fun x y => M x y + N x y) S P = inZ M S P + inZ N S P := by
  unfold inZ
  rw [← sumI_add]
  refine sumI_congr P (fun y _ => ?_)
  try dsimp only
  split
  · rw [← sumI_add]
    exact sumI_congr P (fun x _ => inS_add)
  · rfl
theorem inZ_0 {S : Nat → Bool} {P : Nat} : inZ (fun _ _ => 0) S P = 0 := by
  unfold inZ
  refine (sumI_congr P (fun y _ => ?_)).trans (sumI_zero P)
  split
  · refine (sumI_congr P (fun x _ => ?_)).trans (sumI_zero P)
    unfold inS
    split <;> rfl
  · rfl
theorem inZ_one {S : Nat → Bool} {P a b : Nat} {v : Int} (ha : a < P) (hb : b < P) : inZ (fun x y => if a = x ∧ b = y then v else 0) S P = if b < a ∧ S a = true ∧ S b = true then v else 0 := by
  have row : ∀ y : Nat, sumI (inS (fun x y => if a = x ∧ b = y then v else 0) S y) P = if y = b then (if b < a ∧ S a = true then v else 0) else 0 := fun y => by
    by_cases e : y = b
    · rw [if_pos e]
      refine Eq.trans (sumI_congr P (fun x _ => ?_)) ((sumI_delta (f := fun x => if b < x ∧ S x = true then v else 0) (a := a) P).trans (if_pos ha))
      unfold inS
      dsimp only
      by_cases q : x = a
      · rw [if_pos q, e]
        by_cases w : b < x ∧ S x = true
        · rw [if_pos w, decide_eq_true w.1, w.2, Bool.and_self, if_pos rfl, if_pos ⟨q.symm, rfl⟩]
        · rw [if_neg w, if_neg (fun g => w (by rw [Bool.and_eq_true, decide_eq_true_iff] at g; exact g))]
      · rw [if_neg q]
        split
        · rw [if_neg (fun g => q g.1.symm)]
        · rfl
    · rw [if_neg e]
      refine (sumI_congr P (fun x _ => ?_)).trans (sumI_zero P)
      unfold inS
      dsimp only
      split
      · rw [if_neg (fun g => e g.2.symm)]
      · rfl
  unfold inZ
  refine Eq.trans (sumI_congr P (fun y _ => ?_)) ((sumI_delta (f := fun y => if S y = true then (if b < a ∧ S a = true then v else 0) else 0) (a := b) P).trans ?_)
  · try dsimp only
    rw [row y]
    by_cases e : y = b
    · rw [if_pos e, if_pos e]
    · rw [if_neg e, if_neg e]
      split <;> rfl
  · rw [if_pos hb]
    by_cases q : S b = true
    · rw [if_pos q]
      by_cases w : b < a ∧ S a = true
      · rw [if_pos w, if_pos ⟨w.1, w.2, q⟩]
      · rw [if_neg w, if_neg (fun g => w ⟨g.1, g.2.1⟩)]
    · rw [if_neg q, if_neg (fun g => q g.2.2)]
/-- a line's width, if it lies within S -/
noncomputable def ilI (w g : Nat → Int) (s e : Nat → Nat) (S : Nat → Bool) (l : Nat) : Int := if g l = 0 ∧ S (s l) = true ∧ S (e l) = true then w l else 0
theorem inZ_line {k w g : Nat → Int} {s e : Nat → Nat} {S : Nat → Bool} {P l : Nat} (h : g l = 0 → s l < P ∧ e l < P ∧ s l ≠ e l ∧ k l ≠ 1 ∧ k l ≠ 2) : inZ (fun x y => mlI k w g s e x y l) S P = ilI w g s e S l := by
  unfold mlI ilI
  by_cases z : g l = 0
  · obtain ⟨h1, h2, h3, h4, h5⟩ := h z
    have r : ∀ b : Int, rmW (k l) (w l) b = w l := fun b => by
      unfold rmW
      rw [if_neg h5, if_neg (fun q => h4 q.1)]
    have e1 : inZ (fun x y => if g l ≠ 0 then 0 else (if s l = x ∧ e l = y then rmW (k l) (w l) 1 else 0) + (if e l = x ∧ s l = y then rmW (k l) (w l) 0 else 0)) S P = inZ (fun x y => (if s l = x ∧ e l = y then w l else 0) + (if e l = x ∧ s l = y then w l else 0)) S P := by
      congr 1
      funext x y
      rw [if_neg (fun q => q z), r, r]
    rw [e1, inZ_add, inZ_one h1 h2, inZ_one h2 h1]
    cases a : S (s l) <;> cases b : S (e l) <;> simp [z]
    rcases Nat.lt_or_ge (e l) (s l) with q | q
    · rw [if_pos q, if_neg (by omega)]
      omega
    · rw [if_neg (by omega), if_pos (by omega)]
      omega
  · rw [if_neg (fun q => z q.1)]
    refine Eq.trans ?_ (inZ_0 (S := S) (P := P))
    congr 1
    funext x y
    rw [if_pos z]
theorem inZ_sum {k w g : Nat → Int} {s e : Nat → Nat} {S : Nat → Bool} {P : Nat} : ∀ n : Nat, (∀ l : Nat, l < n → g l = 0 → s l < P ∧ e l < P ∧ s l ≠ e l ∧ k l ≠ 1 ∧ k l ≠ 2) → inZ (fun x y => sumI (mlI k w g s e x y) n) S P = sumI (ilI w g s e S) n
  | 0, _ => inZ_0
  | n + 1, h => by
    show inZ (fun x y => sumI (mlI k w g s e x y) n + mlI k w g s e x y n) S P = sumI (ilI w g s e S) n + ilI w g s e S n
    rw [inZ_add, inZ_sum n (fun l hl => h l (by omega)), inZ_line (h n (by omega))]
theorem inZ_cg {M N : Nat → Nat → Int} {S T : Nat → Bool} {P : Nat} (h : ∀ x y : Nat, x < P → y < P → M x y = N x y) (hS : ∀ x : Nat, x < P → S x = T x) : inZ M S P = inZ N T P := by
  unfold inZ
  refine sumI_congr P (fun y hy => ?_)
  try dsimp only
  rw [hS y hy]
  have e : sumI (inS M S y) P = sumI (inS N T y) P := sumI_congr P (fun x hx => by
    unfold inS
    rw [h x y hx hy, hS x hx])
  rw [e]
theorem inS_nn {M : Nat → Nat → Int} {S : Nat → Bool} {P y : Nat} (h : ∀ x : Nat, x < P → 0 ≤ M x y) : 0 ≤ sumI (inS M S y) P := sumI_nn (fun x hx => by
  unfold inS
  split
  · exact h x hx
  · omega)
theorem inH_le {M : Nat → Nat → Int} {S : Nat → Bool} {K P : Nat} (h : ∀ x y : Nat, x < P → y < P → 0 ≤ M x y) : 0 ≤ inH M S K P ∧ inH M S K P ≤ inZ M S P := by
  have nn : ∀ y : Nat, y < P → 0 ≤ sumI (inS M S y) P := fun y hy => inS_nn (fun x hx => h x y hx hy)
  constructor
  · unfold inH
    refine sumI_nn (fun y hy => ?_)
    try dsimp only
    split
    · exact nn y hy
    · omega
  · unfold inH inZ
    refine sumI_mono2 (fun y hy => ?_)
    try dsimp only
    have := nn y hy
    by_cases z : S y = true
    · rw [if_pos z]
      split <;> omega
    · rw [if_neg z, if_neg (fun g => z g.2)]
      omega
theorem inH_0 {M : Nat → Nat → Int} {S : Nat → Bool} {P : Nat} : inH M S 0 P = inZ M S P := by
  unfold inH inZ
  refine sumI_congr P (fun y _ => ?_)
  try dsimp only
  by_cases z : S y = true
  · rw [if_pos z, if_pos ⟨Nat.zero_le _, z⟩]
  · rw [if_neg z, if_neg (fun g => z g.2)]
theorem inH_P {M : Nat → Nat → Int} {S : Nat → Bool} {P : Nat} : inH M S P P = 0 := by
  unfold inH
  refine (sumI_congr P (fun y hy => ?_)).trans (sumI_zero P)
  try dsimp only
  rw [if_neg (fun g => by omega)]
theorem inH_out {M : Nat → Nat → Int} {S : Nat → Bool} {P p : Nat} (hS : S p = false) : inH M S p P = inH M S (p + 1) P := by
  unfold inH
  refine sumI_congr P (fun y _ => ?_)
  try dsimp only
  by_cases e : y = p
  · rw [e, hS, if_neg (fun g => by cases g.2), if_neg (fun g => by cases g.2)]
  · by_cases z : p ≤ y ∧ S y = true
    · rw [if_pos z, if_pos ⟨by omega, z.2⟩]
    · rw [if_neg z, if_neg (fun g => z ⟨by omega, g.2⟩)]
/-- with the place p -/
theorem inH_in {M : Nat → Nat → Int} {S T : Nat → Bool} {P p : Nat} (hp : p < P) (hT : ∀ x : Nat, T x = (S x || decide (x = p))) : inH M T p P = inH M S (p + 1) P + sumI (inS M S p) P := by
  have st : ∀ x : Nat, p < x → T x = S x := fun x hx => by
    rw [hT x, decide_eq_false (by omega), Bool.or_false]
  have tp : T p = true := by
    rw [hT p, decide_eq_true rfl, Bool.or_true]
  have ie : ∀ y : Nat, p ≤ y → sumI (inS M T y) P = sumI (inS M S y) P := fun y hy => sumI_congr P (fun x _ => by
    unfold inS
    by_cases q : y < x
    · rw [st x (by omega)]
    · rw [decide_eq_false q, Bool.false_and, Bool.false_and])
  have d := sumI_delta (f := fun y => sumI (inS M S y) P) (a := p) P
  rw [if_pos hp] at d
  unfold inH
  rw [← d, ← sumI_add]
  refine sumI_congr P (fun y _ => ?_)
  try dsimp only
  by_cases e : y = p
  · rw [e, if_pos ⟨Nat.le_refl _, tp⟩, if_neg (fun g => by omega), if_pos rfl, ie p (Nat.le_refl _)]
    omega
  · rw [if_neg e]
    by_cases z : p + 1 ≤ y ∧ S y = true
    · rw [if_pos z, if_pos ⟨by omega, by rw [st y (by omega)]; exact z.2⟩, ie y (by omega)]
      omega
    · rw [if_neg z, if_neg (fun g => z ⟨by omega, by rw [← st y (by omega)]; exact g.2⟩)]
      rfl
/-- what stands before chooseForDense -/
noncomputable def hdn (M : Nat → Nat → Int) (P K : Nat) (set : Int32) (sum : Int) : Prop := K ≤ P ∧ (∀ i : Nat, i < K → bt set i = false) ∧ (∀ i : Nat, bt set i = true → i < P) ∧ sum = inH M (bt set) K P
theorem hdn_hnt {M : Nat → Nat → Int} {P K : Nat} {set : Int32} {sum : Int} (h : hdn M P K set sum) : hnt M P K 0 0 set (outZ (mH M K) (bt set) P) := by
  refine ⟨h.1, fun i hi _ => ?_, h.2.1, h.2.2.1, rfl⟩
  rw [bt_z0 i (by omega)]
  exact ⟨fun q => (by cases q), fun q => (by cases q)⟩
noncomputable def wN (M : Nat → Nat → Int) (P n : Nat) : Int := inZ M (bt (nI n)) P
theorem hdn_P {M : Nat → Nat → Int} {P : Nat} : hdn M P P 0 0 := by
  have z : ∀ i : Nat, bt 0 i = false := fun i => by
    cases w : bt 0 i
    · rfl
    · rw [bt_z0 i (bt_hi w)] at w
      cases w
  exact ⟨Nat.le_refl _, fun i _ => z i, fun i hi => (by rw [z i] at hi; cases hi), inH_P.symm⟩
theorem hdn_out {M : Nat → Nat → Int} {P K : Nat} {set : Int32} {sum : Int} (h : hdn M P (K + 1) set sum) : hdn M P K set sum := by
  obtain ⟨h1, h2, h3, h4⟩ := h
  exact ⟨by omega, fun i hi => h2 i (by omega), h3, by rw [inH_out (h2 K (by omega))]; exact h4⟩
theorem hdn_in {M : Nat → Nat → Int} {P K : Nat} {set set2 bit p : Int32} {sum a b : Int} (h : hdn M P (K + 1) set sum) (hP : P ≤ 12) (hp : p.toInt = K) (eb : bit = (1 : Int32) <<< (p &&& 31)) (es : set2 = set ||| bit) (hb : b = sum + a) (ha : a = sumI (inS M (bt set) K) P) : hdn M P K set2 b ∧ set2.toNatClampNeg = set.toNatClampNeg + 2 ^ K := by
  obtain ⟨e, bs⟩ := hnt_set (hdn_hnt h) hP hp eb es
  obtain ⟨h1, h2, h3, h4⟩ := h
  refine ⟨⟨by omega, fun i hi => ?_, fun i hi => ?_, ?_⟩, e⟩
  · rw [bs i, h2 i (by omega), decide_eq_false (by omega)]
    rfl
  · rw [bs i, Bool.or_eq_true, decide_eq_true_iff] at hi
    rcases hi with w | w
    · exact h3 i w
    · omega
  · rw [inH_in (by omega) bs, hb, h4, ha]
theorem hdn_leaf {M : Nat → Nat → Int} {P : Nat} {set : Int32} {sum : Int} (h : hdn M P 0 set sum) (hP : P ≤ 12) : sum = wN M P set.toNatClampNeg ∧ set.toNatClampNeg < 4096 ∧ 0 ≤ set.toInt ∧ set = nI set.toNatClampNeg := by
  have a := hnt_lt (hdn_hnt h) hP
  obtain ⟨b1, b2, _, _⟩ := hnt_num (hdn_hnt h) hP
  have p12 : 2 ^ P ≤ 4096 := Nat.le_trans (Nat.pow_le_pow_right (n := 2) (by decide) hP) (by decide)
  have p0 : 2 ^ 0 = 1 := rfl
  refine ⟨?_, by omega, a.2.1, b1⟩
  unfold wN
  rw [← b1, h.2.2.2, inH_0]
theorem dS_st {W : Nat → Int} {x m x2 m2 : Int32} {n : Nat} {sum : Int} (h : dS_ W bN n x m) (hW : sum = W n) (hn : n < 4096) (ho : (dBt W bN (dnz W bN n).1 (dnz W bN n).2 n → x2.toInt = n ∧ m2.toInt = sum) ∧ (¬ dBt W bN (dnz W bN n).1 (dnz W bN n).2 n → x2 = x ∧ m2 = m)) : dS_ W bN (n + 1) x2 m2 := by
  by_cases z : dBt W bN (dnz W bN n).1 (dnz W bN n).2 n
  · unfold dS_
    rw [dnz_y z]
    obtain ⟨a, b⟩ := ho.1 z
    exact ⟨a, by rw [b, hW]⟩
  · unfold dS_
    rw [dnz_n z]
    obtain ⟨a, b⟩ := ho.2 z
    rw [a, b]
    exact h
theorem dS_to {W b : Nat → Int} {n k : Nat} {x m : Int32} (h : dS_ W b n x m) (e : n = k) : dS_ W b k x m := e ▸ h
/-! lines have two ends: both sides' nets, and the kept ones -/
noncomputable def netD (N : Int) (f6 f7 f10 : Nat → Int32) : Prop := ∀ j : Nat, (j : Int) < N → (f10 j).toInt = 0 → (f6 j).toInt ≠ (f7 j).toInt
noncomputable def netDC (N : Int) (fs fe : Nat → Int32) : Prop := ∀ j : Nat, (j : Int) < N → (fs j).toInt ≠ -9 → (fs j).toInt ≠ (fe j).toInt
noncomputable def pstD (U : Int) (f13 f14 : Nat → Int32) : Prop := ∀ k : Nat, (k : Int) < U → ∀ j : Nat, (j : Int) < (f13 k).toInt → (f14 (200 * k + 5 * j + 4)).toInt < 1000 → (f14 (200 * k + 5 * j + 1)).toInt ≠ (f14 (200 * k + 5 * j + 2)).toInt
theorem netDC_rel {vp vn P N : Int32} {fk fs fe fw fp f5 f6 f7 f8 f9 f10 : Nat → Int32} (h : nrel vp vn fk fs fe fw fp P N f5 f6 f7 f8 f9 f10) (hn : netD N.toInt f6 f7 f10) : netDC vn.toInt fs fe := fun j hj hm => by
  rw [h.2.1] at hj
  obtain ⟨_, _, _, a4, a5⟩ := h.2.2 j hj
  have z : (f10 j).toInt = 0 := Decidable.of_not_not (fun w => absurd (a4 w).1 hm)
  obtain ⟨x, y⟩ := a5 z
  rw [x, y]
  exact hn j hj z
section PND
variable {P N n4 a b k w p : Int32} {f5 f6 f7 f8 f9 f10 e5 e6 e7 e8 e9 e10 f12 f13 f14 e12 e13 e14 : Nat → Int32} {U U2 c : Int}
theorem kept_D (h : kept P N f5 f6 f7 f8 f9 f10 U f12 f13 f14 U2 e12 e13 e14) (hn : netD N.toInt f6 f7 f10) (hp : pstD U f13 f14) (hN : N.toInt ≤ 40) (r9 : rng f9 40 0 100) (r13 : rng f13 30 0 40) (hU : 0 ≤ U) : pstD U2 e13 e14 := by
  obtain ⟨m, d, h2, hd, hk, hP, hN2, he⟩ := h
  intro k hk2 j hj h4
  by_cases q : k = m
  · subst q
    rw [hN2] at hj
    obtain ⟨a0, a1, a2, a3, a4⟩ := he j (by omega)
    rw [a4] at h4
    rw [a1, a2]
    refine hn j hj ?_
    have b := r9 j (by omega)
    by_cases z : (f10 j).toInt ≠ 0
    · rw [if_pos z] at h4
      omega
    · omega
  · obtain ⟨a1, a2, a3⟩ := hk k (by omega)
    rw [a2] at hj
    have b := r13 (k + d) (by omega)
    have c1 := a3 (5 * j + 1) (by omega)
    have c2 := a3 (5 * j + 2) (by omega)
    have c4 := a3 (5 * j + 4) (by omega)
    rw [show 200 * k + 5 * j + 4 = 200 * k + (5 * j + 4) by omega, c4] at h4
    rw [show 200 * k + 5 * j + 1 = 200 * k + (5 * j + 1) by omega, c1, show 200 * k + 5 * j + 2 = 200 * k + (5 * j + 2) by omega, c2]
    exact hp (k + d) (by omega) j hj h4
theorem kptd_D (h : kptd c P N f5 f6 f7 f8 f9 f10 U f12 f13 f14 U2 e12 e13 e14) (hn : netD N.toInt f6 f7 f10) (hp : pstD U f13 f14) (hN : N.toInt ≤ 40) (r9 : rng f9 40 0 100) (r13 : rng f13 30 0 40) (hU : 0 ≤ U) : pstD U2 e13 e14 := by
  by_cases z : c = 0
  · exact kept_D (h.1 z) hn hp hN r9 r13 hU
  · obtain ⟨a, _, b, d⟩ := h.2 z
    rw [a, b, d]
    exact hp
theorem netD_line {k a b w p : Int32} {Pl : Int} (hn : netD N.toInt f6 f7 f10) (h0 : 0 ≤ N.toInt) (h : (lnI k.toInt a.toInt b.toInt w.toInt p.toInt Pl N.toInt = 0 → adR N f5 f6 f7 f8 f9 f10 k a b w p n4 e5 e6 e7 e8 e9 e10) ∧ (lnI k.toInt a.toInt b.toInt w.toInt p.toInt Pl N.toInt ≠ 0 → n4 = N ∧ e5 = f5 ∧ e6 = f6 ∧ e7 = f7 ∧ e8 = f8 ∧ e9 = f9 ∧ e10 = f10)) : netD n4.toInt e6 e7 e10 := by
  have c := clI (i := N) h0
  by_cases z : lnI k.toInt a.toInt b.toInt w.toInt p.toInt Pl N.toInt = 0
  · obtain ⟨b1, _, b3, b4, _, _, b7⟩ := h.1 z
    have ab : a.toInt ≠ b.toInt := by
      unfold lnI at z
      split at z
      · omega
      · rename_i q
        intro e
        apply q
        intro g
        omega
    intro j hj h10
    rw [b3, b4]
    rw [b7] at h10
    by_cases q : j = N.toNatClampNeg
    · rw [q, pk_us, pk_us]
      exact ab
    · rw [pk_un q] at h10
      rw [pk_un q, pk_un q]
      exact hn j (by omega) h10
  · obtain ⟨b1, _, b3, b4, _, _, b7⟩ := h.2 z
    rw [b1, b3, b4, b7]
    exact hn
theorem netD_merge {lo hi : Int} {s3 n3 : Int32} {c : Int} (hn : netD N.toInt f6 f7 f10) (h : (c = 0 → n3.toInt = s3.toInt - 1 ∧ mrgd lo hi f6 f7 f10 e6 e7 e10 N.toInt) ∧ (c ≠ 0 → n3 = s3 ∧ e6 = f6 ∧ e7 = f7 ∧ e10 = f10)) : netD N.toInt e6 e7 e10 := by
  by_cases z : c = 0
  · obtain ⟨_, m1, _⟩ := h.1 z
    intro j hj h10
    obtain ⟨x, y⟩ := m1 j hj
    by_cases q : (f10 j).toInt = 0
    · obtain ⟨y1, y2, y3⟩ := y q
      rw [y3] at h10
      rw [y1, y2]
      intro e
      rw [if_pos e] at h10
      omega
    · obtain ⟨x1, x2, x3⟩ := x q
      rw [x3] at h10
      exact absurd h10 q
  · obtain ⟨_, a, b, d⟩ := h.2 z
    rw [a, b, d]
    exact hn
theorem netD_undo {s3 s4 s11 n3 m4 n11 : Int32} (hn : netD s4.toInt f6 f7 f10) (hp : pstD s11.toInt f13 f14) (hU : 0 ≤ s11.toInt) (h40 : m4.toInt ≤ 40) (h : (s11.toInt = 0 → n3 = s3 ∧ m4 = s4 ∧ e5 = f5 ∧ e6 = f6 ∧ e7 = f7 ∧ e8 = f8 ∧ e9 = f9 ∧ e10 = f10 ∧ n11 = s11) ∧ (s11.toInt ≠ 0 → n11.toInt = s11.toInt - 1 ∧ n3 = f12 n11.toNatClampNeg ∧ m4 = f13 n11.toNatClampNeg ∧ ∀ j : Nat, j < 40 → back f14 (200 * n11.toNatClampNeg) e5 e6 e7 e8 e9 e10 j)) : netD m4.toInt e6 e7 e10 ∧ pstD n11.toInt f13 f14 := by
  by_cases z : s11.toInt = 0
  · obtain ⟨_, b2, _, b4, b5, _, _, b8, b9⟩ := h.1 z
    rw [b2, b4, b5, b8, b9]
    exact ⟨hn, hp⟩
  · obtain ⟨b1, _, b3, b4⟩ := h.2 z
    have c := clI (i := n11) (by omega)
    refine ⟨fun j hj h10 => ?_, fun k hk => hp k (by omega)⟩
    obtain ⟨_, c2, c3, _, _, c6⟩ := b4 j (by omega)
    rw [c2, c3]
    rw [c6] at h10
    refine hp n11.toNatClampNeg (by omega) j (by rw [← b3]; exact hj) ?_
    by_cases q : 999 < (f14 (200 * n11.toNatClampNeg + 5 * j + 4)).toInt
    · rw [if_pos q] at h10
      omega
    · omega
theorem netD_rd {U11 : Int} {cc : Int} {f18 f19 : Nat → Int32} {f19l : Nat → Int64} {A : Nat} {P3 rows st : Int} (hn : netD N.toInt f6 f7 f10) (h0 : 0 ≤ N.toInt) (hP : P3 ≤ 12) (hr : rdn (rwR f18 f19l A P3) N.toInt rows cc st) (ha : apR N.toInt cc f5 f6 f7 f8 f9 f10 e5 e6 e7 e8 e9 e10 f19l (30 * A)) (e4 : n4.toInt = N.toInt + cc) : netD n4.toInt e6 e7 e10 := by
  intro j hj h10
  obtain ⟨⟨s5, s10⟩, ap⟩ := ha
  by_cases q : (j : Int) < N.toInt
  · obtain ⟨_, x, y, _, _⟩ := s5 j q
    rw [s10 j q] at h10
    rw [x, y]
    exact hn j q h10
  · obtain ⟨i, hi⟩ : ∃ i : Nat, j = N.toInt.toNat + i := ⟨j - N.toInt.toNat, by omega⟩
    obtain ⟨_, x, y, _, _, _⟩ := ap i (by omega)
    have w := hr.2.1 i (by omega)
    rw [hi, x, y]
    unfold rwR rdI lnI at w
    have cond : (0 ≤ (f19l (30 * A + 5 * i + 1)).toInt ∧ (f19l (30 * A + 5 * i + 1)).toInt < P3) ∧ (0 ≤ (f19l (30 * A + 5 * i + 2)).toInt ∧ (f19l (30 * A + 5 * i + 2)).toInt < P3) ∧ (f19l (30 * A + 5 * i + 1)).toInt ≠ (f19l (30 * A + 5 * i + 2)).toInt := by
      split at w
      · omega
      · split at w
        · omega
        · split at w
          · omega
          · rename_i g
            have g2 := Decidable.of_not_not g
            exact ⟨g2.2.1, g2.2.2.1, g2.2.2.2.1⟩
    rw [l2iI (by omega) (by omega), l2iI (by omega) (by omega)]
    exact cond.2.2
theorem kpn_D {n : Int} (h : kpn n P N f5 f6 f7 f8 f9 f10 U f12 f13 f14 U2 e12 e13 e14 n4 e5 e6 e7 e8 e9 e10) (hn : netD N.toInt f6 f7 f10) (hp : pstD U f13 f14) (hN : N.toInt ≤ 40) (r9 : rng f9 40 0 100) (r13 : rng f13 30 0 40) (hU : 0 ≤ U) : pstD U2 e13 e14 ∧ (n = 0 → netD n4.toInt e6 e7 e10) := by
  by_cases z : n = 0
  · obtain ⟨a1, _, a3, a4, a5, _, a7, a8, _, _, a11⟩ := h.1 z
    rw [a1, a3, a4, a5, a7, a8, a11]
    exact ⟨hp, fun _ => hn⟩
  · exact ⟨kept_D (h.2 z) hn hp hN r9 r13 hU, fun w => absurd w z⟩
end PND
/-! the widths within a set, on both sides -/
noncomputable def wLn (fw : Nat → Int32) (g : Nat → Int) (fs fe : Nat → Int32) (N n : Nat) : Int := sumI (ilI (wF fw (-9)) g (nF fs) (nF fe) (bt (nI n))) N
theorem in_mtx {M : Nat → Nat → Int32} {P N : Int32} {fk fs fe fw : Nat → Int32} {S : Nat → Bool} (h : mtx M P.toInt fk fs fe fw (-9) N.toNatClampNeg) (hc : netC P.toInt N.toInt fs fe) (hd : netDC N.toInt fs fe) (hp : prng fs fe 40) (hb : sumI (bkF fk fs) N.toNatClampNeg = 0) (hP : 0 ≤ P.toInt ∧ P.toInt ≤ 12) (hN : 0 ≤ N.toInt ∧ N.toInt ≤ 40) : inZ (zM M) S P.toNatClampNeg = sumI (ilI (wF fw (-9)) (gF fs) (nF fs) (nF fe) S) N.toNatClampNeg := by
  have c := clI (i := P) hP.1
  have cN := clI (i := N) hN.1
  rw [← inZ_sum (k := kF fk) (P := P.toNatClampNeg) N.toNatClampNeg (fun l hl hg => ?_)]
  · exact inZ_cg (fun x y hx hy => h x y (by omega) (by omega)) (fun _ _ => rfl)
  · have hm : (fs l).toInt ≠ -9 := fun e => by
      have g1 : gF fs l = 1 := gI_1 e
      omega
    obtain ⟨a, b⟩ := netC_at hc hp hN.2 hl hg
    have d := hd l (by omega) hm
    have ne : nF fs l ≠ nF fe l := by
      rcases hp l (by omega) with w | w
      · exact absurd w hm
      · have c1 := clI (i := fs l) w.1
        have c2 := clI (i := fe l) w.2.2.1
        unfold nF
        omega
    exact ⟨a, b, ne, bkF_0 hb hl hm⟩
theorem wLn_rng {fw fs fe : Nat → Int32} {g : Nat → Int} {N n : Nat} (hw : rng fw 40 0 2000) (hN : N ≤ 40) : 0 ≤ wLn fw g fs fe N n ∧ wLn fw g fs fe N n ≤ 100000 := by
  have a := sumI_rng (g := ilI (wF fw (-9)) g (nF fs) (nF fe) (bt (nI n))) (B := 2001) N (fun j hj => by
    have b := wF_rng (r := -9) hw (show j < 40 by omega)
    unfold ilI
    split <;> omega)
  unfold wLn
  omega
theorem wLn_0 {fw fs fe : Nat → Int32} {g : Nat → Int} {N : Nat} (hN : ∀ l : Nat, l < N → nF fs l < 12) : wLn fw g fs fe N 0 = 0 := by
  unfold wLn
  refine (sumI_congr N (fun l hl => ?_)).trans (sumI_zero N)
  unfold ilI
  have q : ∀ i : Nat, i < 12 → bt (nI 0) i = false := by decide +kernel
  rw [if_neg (fun w => by
    have := w.2.1
    rw [q _ (hN l hl)] at this
    cases this)]
noncomputable def dnI (w P c : Int) : Int := if ¬ (0 ≤ w ∧ w ≤ 2) then -1 else if whI P c = 0 then -2 else 0
noncomputable def dnA (W : Nat → Int) (P : Nat) (w : Int) (r : Int32) : Prop := (w = 0 → r.toInt = ((dnz W bN (2 ^ P)).1 : Int)) ∧ (w = 1 → r.toInt = (dnz W bN (2 ^ P)).2) ∧ (w = 2 → r.toInt = bN (dnz W bN (2 ^ P)).1)
theorem mulB0 {a b : Int} (ha : 0 ≤ a ∧ a ≤ 200000) (hb : 0 ≤ b ∧ b ≤ 12) : 0 ≤ a * b ∧ a * b ≤ 2400000 := by
  refine ⟨Int.mul_nonneg ha.1 hb.1, ?_⟩
  have x := Int.mul_le_mul ha.2 hb.2 hb.1 (show (0 : Int) ≤ 200000 by omega)
  omega
theorem mulBX {y a b : Int32} (e : y = a * b) (ha : 0 ≤ a.toInt ∧ a.toInt ≤ 200000) (hb : 0 ≤ b.toInt ∧ b.toInt ≤ 12) : y.toInt = a.toInt * b.toInt ∧ 0 ≤ y.toInt ∧ y.toInt ≤ 2400000 := by
  have q := mulB0 ha hb
  have z : y.toInt = a.toInt * b.toInt := by
    rw [e, Int32.toInt_mul]
    exact Int.bmod_eq_of_le (by omega) (by omega)
  rw [z]
  exact ⟨rfl, q⟩
theorem mulLX {y : Int64} {a b : Int32} (e : y = a.toInt64 * b.toInt64) (ha : 0 ≤ a.toInt ∧ a.toInt ≤ 200000) (hb : 0 ≤ b.toInt ∧ b.toInt ≤ 12) : y.toInt = a.toInt * b.toInt ∧ 0 ≤ y.toInt ∧ y.toInt ≤ 2400000 := by
  have q := mulB0 ha hb
  have z : y.toInt = a.toInt * b.toInt := by
    rw [e, Int64.toInt_mul, Int32.toInt_toInt64, Int32.toInt_toInt64]
    exact Int.bmod_eq_of_le (by omega) (by omega)
  rw [z]
  exact ⟨rfl, q⟩
theorem subLX {y a b : Int64} (e : y = a - b) (ha : 0 ≤ a.toInt ∧ a.toInt ≤ 2400000) (hb : 0 ≤ b.toInt ∧ b.toInt ≤ 2400000) : y.toInt = a.toInt - b.toInt := by
  rw [e, Int64.toInt_sub]
  exact Int.bmod_eq_of_le (by omega) (by omega)
theorem dS_v {W : Nat → Int} {n : Nat} {x m : Int32} (h : dS_ W bN n x m) (h0 : W 0 = 0) (hn : n ≤ 4096) (hn1 : n ≠ 0) : (0 ≤ x.toInt ∧ x.toInt < 4096) ∧ bitI x = bN (dnz W bN n).1 ∧ m.toInt = W (dnz W bN n).1 ∧ (x.toInt = 0 → m.toInt = 0 ∧ bitI x = 0) := by
  have a := dnz_lt (W := W) (b := bN) n
  have r : 0 ≤ x.toInt ∧ x.toInt < 4096 := by
    have := h.1
    omega
  have e : x = nI (dnz W bN n).1 := by
    have c := clI (i := x) r.1
    have q := nI_cl r.1
    rw [show x.toNatClampNeg = (dnz W bN n).1 by have := h.1; omega] at q
    exact q
  refine ⟨r, by rw [e]; rfl, by rw [h.2]; exact dnz_W h0 n, fun z => ?_⟩
  have z1 : (dnz W bN n).1 = 0 := by
    have := h.1
    omega
  refine ⟨by rw [h.2]; exact dnz_z h0 n z1, ?_⟩
  rw [e, z1]
  exact bN_0
theorem dS_0 {W : Nat → Int} : dS_ W bN (0 : Int32).toNatClampNeg 0 0 := by
  rw [cl_0]
  exact ⟨rfl, rfl⟩
theorem dS_1 {W : Nat → Int} (h0 : W 0 = 0) : dS_ W bN (1 : Int32).toNatClampNeg 0 0 := by
  rw [cl_1]
  have n0 : ¬ dBt W bN (dnz W bN 0).1 (dnz W bN 0).2 0 := by
    unfold dBt
    have e1 : (dnz W bN 0).1 = 0 := rfl
    have e2 : (dnz W bN 0).2 = 0 := rfl
    rw [e1, e2, h0, bN_0]
    omega
  unfold dS_
  rw [dnz_n n0]
  exact ⟨rfl, rfl⟩
theorem dB_iff {W : Nat → Int} {n : Nat} {x m : Int32} {w A B bn bx : Int} (h : dS_ W bN n x m) (hx : bx = bN (dnz W bN n).1) (hb : bn = bN n) (hw : w = W n) (hA : A = m.toInt * bn) (hB : B = w * bx) : dBt W bN (dnz W bN n).1 (dnz W bN n).2 n ↔ (A < B ∨ (B = A ∧ bx < bn)) := by
  unfold dBt
  rw [hA, hB, hx, hb, hw, h.2]
theorem hdn_bd {M : Nat → Nat → Int} {P K : Nat} {set : Int32} {sum : Int} (h : hdn M P K set sum) (hP : P ≤ 12) (h0 : ∀ x y : Nat, x < P → y < P → 0 ≤ M x y) (hB : ∀ n : Nat, 0 ≤ wN M P n ∧ wN M P n ≤ 100000) : 0 ≤ sum ∧ sum ≤ 100000 := by
  have a := inH_le (S := bt set) (K := K) h0
  obtain ⟨e, _, _, _⟩ := hnt_num (hdn_hnt h) hP
  have b := hB set.toNatClampNeg
  unfold wN at b
  rw [← e] at b
  rw [h.2.2.2]
  omega
theorem bc_eq {a r : Int32} (h : 0 ≤ a.toInt ∧ a.toInt < 4096) (e : r = bcF a) : r.toInt = bitI a := by
  have c := clI (i := a) h.1
  have q := bc_all a.toNatClampNeg (by omega)
  rw [← nI_cl h.1] at q
  rw [e, q]
theorem bitI_rng {x : Int32} : 0 ≤ bitI x ∧ bitI x ≤ 12 := by
  have a := sumI_rng (g := fun i => if bt x i = true then 1 else 0) (B := 1) 12 (fun j _ => by
    try dsimp only
    split <;> omega)
  unfold bitI
  omega
theorem il_y {w g : Nat → Int} {s e : Nat → Nat} {S : Nat → Bool} {l : Nat} {v : Int} (hg : g l = 0) (h1 : S (s l) = true) (h2 : S (e l) = true) (hv : v = w l) : v = ilI w g s e S l := by
  unfold ilI
  rw [if_pos ⟨hg, h1, h2⟩, hv]
theorem il_g {w g : Nat → Int} {s e : Nat → Nat} {S : Nat → Bool} {l : Nat} {v : Int} (hg : g l ≠ 0) (hv : v = 0) : v = ilI w g s e S l := by
  unfold ilI
  rw [if_neg (fun q => hg q.1), hv]
theorem il_s {w g : Nat → Int} {s e : Nat → Nat} {S : Nat → Bool} {l : Nat} {v : Int} (h1 : S (s l) = false) (hv : v = 0) : v = ilI w g s e S l := by
  unfold ilI
  rw [if_neg (fun q => by rw [h1] at q; cases q.2.1), hv]
theorem il_e {w g : Nat → Int} {s e : Nat → Nat} {S : Nat → Bool} {l : Nat} {v : Int} (h1 : S (e l) = false) (hv : v = 0) : v = ilI w g s e S l := by
  unfold ilI
  rw [if_neg (fun q => by rw [h1] at q; cases q.2.2), hv]
theorem wF9 {f : Nat → Int32} {j : Nat} : wF f (-9) j = (f j).toInt := by
  unfold wF
  rw [if_neg (by omega)]
  omega
theorem inZ_em {M : Nat → Nat → Int} {P : Nat} (hP : P ≤ 12) : wN M P 0 = 0 := by
  unfold wN inZ
  have q : ∀ i : Nat, i < 12 → bt (nI 0) i = false := by decide +kernel
  refine (sumI_congr P (fun y hy => ?_)).trans (sumI_zero P)
  try dsimp only
  rw [if_neg (by rw [q y (by omega)]; decide)]
theorem netD_read {P N n4 n1 a s11 n11 : Int32} {f5 f6 f7 f8 f9 f10 e5 e6 e7 e8 e9 e10 f12 f13 f14 e12 e13 e14 f15 f17 f18 : Nat → Int32} {f19 : Nat → Int64} (hn : netD N.toInt f6 f7 f10) (hp : pstD s11.toInt f13 f14) (hN : 0 ≤ N.toInt ∧ N.toInt ≤ 40) (hP : P.toInt ≤ 12) (r9 : rng f9 40 0 100) (r13 : rng f13 30 0 40) (hU : 0 ≤ s11.toInt) (h : (¬ (0 ≤ a.toInt ∧ a.toInt < 4) → n1.toInt = -1 ∧ kpn 0 P N f5 f6 f7 f8 f9 f10 s11.toInt f12 f13 f14 n11.toInt e12 e13 e14 n4 e5 e6 e7 e8 e9 e10) ∧ ((0 ≤ a.toInt ∧ a.toInt < 4) → (f15 a.toNatClampNeg).toInt = 0 → n1.toInt = -11 ∧ kpn 0 P N f5 f6 f7 f8 f9 f10 s11.toInt f12 f13 f14 n11.toInt e12 e13 e14 n4 e5 e6 e7 e8 e9 e10) ∧ ((0 ≤ a.toInt ∧ a.toInt < 4) → (f15 a.toNatClampNeg).toInt ≠ 0 → ∃ c : Int, rdn (rwR f18 f19 a.toNatClampNeg P.toInt) N.toInt (f17 a.toNatClampNeg).toInt c n1.toInt ∧ kpn c P N f5 f6 f7 f8 f9 f10 s11.toInt f12 f13 f14 n11.toInt e12 e13 e14 n4 e5 e6 e7 e8 e9 e10 ∧ apR N.toInt c f5 f6 f7 f8 f9 f10 e5 e6 e7 e8 e9 e10 f19 (30 * a.toNatClampNeg) ∧ n4.toInt = N.toInt + c)) : netD n4.toInt e6 e7 e10 ∧ pstD n11.toInt e13 e14 := by
  by_cases w : 0 ≤ a.toInt ∧ a.toInt < 4
  · by_cases z : (f15 a.toNatClampNeg).toInt = 0
    · have k := kpn_D (h.2.1 w z).2 hn hp hN.2 r9 r13 hU
      exact ⟨k.2 rfl, k.1⟩
    · obtain ⟨c, b1, b2, b3, b4⟩ := h.2.2 w z
      have k := kpn_D b2 hn hp hN.2 r9 r13 hU
      exact ⟨netD_rd (f19 := f18) (U11 := 0) hn hN.1 hP b1 b3 b4, k.1⟩
  · have k := kpn_D (h.1 w).2 hn hp hN.2 r9 r13 hU
    exact ⟨k.2 rfl, k.1⟩
end

section
set_option maxHeartbeats 4000000 in
set_option maxRecDepth 100000 in
theorem c_J6_bitCount2 (l : Launch) (D : va_G) (cy : Nat → ClassId) (sz : Nat) (a1 : Int32) (q1 : 0 ≤ a1.toInt ∧ a1.toInt < 4096) : Met l yJ6_bitCount_0f7a4 wsJ6_bitCount_0f7a4 ({ frames := 0, cells := 0, slots := 0, locals := 0 }) (va_Pc [.int a1] (fun U => U.heap.size = sz ∧ va_P D vwCl [] U.heap ∧ kk_ D cy U ∧ va_D (fun _ => True) [])) (va_Qi (fun (r : Int32) (_ : Unit) => (r.toInt = bitI a1) ∧ (0 ≤ r.toInt ∧ r.toInt ≤ 12)) (fun (_ : Unit) (_ : State) => True) (va_A [] sz)) 0 0 (va_A [] sz) := by
  refine ofQ (cc := cJ6_bitCount_0f7a4) (maxL := 1) (ret := (some .int)) (by decide) rfl ?_
  intro p e s m args below meth c s₁ Q hQ B hml hv
  obtain ⟨rfl, hsz, hP, hK, hD0⟩ := hv
  have hx := B.exec
  have hb := B.bytes
  have hr := B.returns
  have hts := atoms_spec (ws := wsJ6_bitCount_0f7a4) B.pre
  have hown : s.vm.findClass RJ6 = some m.cls := by have h_ := findClass_of_methodNamed B.named; exact h_
  have hlocks := B.notSynchronized
  subst hsz
  have hD : va_D (va_A [] s.heap.size) [] := dd_nil
  generalize hAe : va_A [] s.heap.size = A at hD hQ
  have hA : ∀ q : Nat, s.heap.size ≤ q → A q := fun q h => by rw [← hAe]; exact Or.inr h
  have hS : va_S A s.heap s.heap [] := va_S.rf
  have hl := lv_entry ([.int a1]) (n := 1) (Nat.le_of_ble_eq_true rfl)
  rw [lg_entry_eq]
  generalize (lg_sl ([.int a1]) ++ List.replicate (1 - (lg_sl ([.int a1])).length) Slot.unset).toArray = ls at hl ⊢
  have hl : lv_has ls 1 [(0, .int a1)] := hl
  refine lv_iload_n hx hb dB_36_4_0.1.1.1.1 rfl (lv_at hl 0 rfl) ?_
  refine lv_iload_n hx hb dB_36_4_0.1.1.1.2 rfl (lv_at hl 0 rfl) ?_
  refine lv_iconst (v := 1) hx hb dB_36_4_0.1.1.2.1 (by decide) ?_
  refine lv_iushr hx hb dB_36_4_0.1.1.2.2 rfl ?_
  refine lv_topi (fun y_1 ey_1 => ?_)
  refine lv_ldcw (v := 1431655765) hx hb hown (hts (.constant RJ6 265 (1431655765)) (List.mem_of_getElem? (i := 1) rfl)) dB_36_4_0.1.2.1.1 ?_
  refine lv_iand hx hb dB_36_4_0.1.2.1.2 ?_
  refine lv_topi (fun y_2 ey_2 => ?_)
  refine lv_isub hx hb dB_36_4_0.1.2.2.1 ?_
  refine lv_topi (fun y_3 ey_3 => ?_)
  refine lv_istore_n (lv' := [(0, .int y_3)]) hx hb dB_36_4_0.1.2.2.2 rfl hl (by decide) rfl (fun ls hl => ?_)
  refine lv_iload_n hx hb dB_36_4_0.2.1.1.1 rfl (lv_at hl 0 rfl) ?_
  refine lv_ldcw (v := 858993459) hx hb hown (hts (.constant RJ6 266 (858993459)) (List.mem_of_getElem? (i := 2) rfl)) dB_36_4_0.2.1.1.2 ?_
  refine lv_iand hx hb dB_36_4_0.2.1.2.1 ?_
  refine lv_topi (fun y_4 ey_4 => ?_)
  refine lv_iload_n hx hb dB_36_4_0.2.1.2.2 rfl (lv_at hl 0 rfl) ?_
  refine lv_iconst (v := 2) hx hb dB_36_4_0.2.2.1.1 (by decide) ?_
  refine lv_iushr hx hb dB_36_4_0.2.2.1.2 rfl ?_
  refine lv_topi (fun y_5 ey_5 => ?_)
  refine lv_ldcw (v := 858993459) hx hb hown (hts (.constant RJ6 266 (858993459)) (List.mem_of_getElem? (i := 2) rfl)) dB_36_4_0.2.2.2.1 ?_
  refine lv_iand hx hb dB_36_4_0.2.2.2.2 ?_
  refine lv_topi (fun y_6 ey_6 => ?_)
  refine lv_iadd hx hb dB_36_4_1.1.1.1.1 ?_
  refine lv_topi (fun y_7 ey_7 => ?_)
  refine lv_istore_n (lv' := [(0, .int y_7)]) hx hb dB_36_4_1.1.1.1.2 rfl hl (by decide) rfl (fun ls hl => ?_)
  refine lv_iload_n hx hb dB_36_4_1.1.1.2.1 rfl (lv_at hl 0 rfl) ?_
  refine lv_iload_n hx hb dB_36_4_1.1.1.2.2 rfl (lv_at hl 0 rfl) ?_
  refine lv_iconst (v := 4) hx hb dB_36_4_1.1.2.1.1 (by decide) ?_
  refine lv_iushr hx hb dB_36_4_1.1.2.1.2 rfl ?_
  refine lv_topi (fun y_8 ey_8 => ?_)
  refine lv_iadd hx hb dB_36_4_1.1.2.2.1 ?_
  refine lv_topi (fun y_9 ey_9 => ?_)
  refine lv_ldcw (v := 252645135) hx hb hown (hts (.constant RJ6 267 (252645135)) (List.mem_of_getElem? (i := 3) rfl)) dB_36_4_1.1.2.2.2 ?_
  refine lv_iand hx hb dB_36_4_1.2.1.1.1 ?_
  refine lv_topi (fun y_10 ey_10 => ?_)
  refine lv_istore_n (lv' := [(0, .int y_10)]) hx hb dB_36_4_1.2.1.1.2 rfl hl (by decide) rfl (fun ls hl => ?_)
  refine lv_iload_n hx hb dB_36_4_1.2.1.2.1 rfl (lv_at hl 0 rfl) ?_
  refine lv_iload_n hx hb dB_36_4_1.2.1.2.2 rfl (lv_at hl 0 rfl) ?_
  refine lv_bipush (v := 8) hx hb dB_36_4_1.2.2.1.1 (by decide) ?_
  refine lv_iushr hx hb dB_36_4_1.2.2.1.2 rfl ?_
  refine lv_topi (fun y_11 ey_11 => ?_)
  refine lv_iadd hx hb dB_36_4_1.2.2.2.1 ?_
  refine lv_topi (fun y_12 ey_12 => ?_)
  refine lv_istore_n (lv' := [(0, .int y_12)]) hx hb dB_36_4_1.2.2.2.2 rfl hl (by decide) rfl (fun ls hl => ?_)
  refine lv_iload_n hx hb dB_36_4_2.1.1.1 rfl (lv_at hl 0 rfl) ?_
  refine lv_iload_n hx hb dB_36_4_2.1.1.2 rfl (lv_at hl 0 rfl) ?_
  refine lv_bipush (v := 16) hx hb dB_36_4_2.1.2.1 (by decide) ?_
  refine lv_iushr hx hb dB_36_4_2.1.2.2.1 rfl ?_
  refine lv_topi (fun y_13 ey_13 => ?_)
  refine lv_iadd hx hb dB_36_4_2.1.2.2.2 ?_
  refine lv_topi (fun y_14 ey_14 => ?_)
  refine lv_istore_n (lv' := [(0, .int y_14)]) hx hb dB_36_4_2.2.1.1 rfl hl (by decide) rfl (fun ls hl => ?_)
  refine lv_iload_n hx hb dB_36_4_2.2.1.2 rfl (lv_at hl 0 rfl) ?_
  refine lv_bipush (v := 63) hx hb dB_36_4_2.2.2.1 (by decide) ?_
  refine lv_iand hx hb dB_36_4_2.2.2.2.1 ?_
  refine lv_topi (fun y_15 ey_15 => ?_)
  have hbc_ : y_15.toInt = bitI a1 := bc_eq q1 (by rw [ey_15, ey_14, ey_13, ey_12, ey_11, ey_10, ey_9, ey_8, ey_7, ey_6, ey_5, ey_4, ey_3, ey_2, ey_1]; rfl)
  have hbr_ := bitI_rng (x := a1)
  rw [hQ]
  exact W.iret (v := y_15) hx hb hr (fun t ht hW => ⟨⟨y_15, (), rfl, ⟨hbc_, by omega⟩, trivial⟩, hS.F ht⟩) hS.2.2 dB_36_4_2.2.2.2.2

set_option maxHeartbeats 4000000 in
set_option maxRecDepth 100000 in
theorem c_X7_compareDense2 (l : Launch) (D : va_G) (cy : Nat → ClassId) (sz : Nat) (xh : Nat) (u1 : Int32) (u2 : Int32) (u3 : Int32) (u4 : Int32) (u5 : Int32) (u6 : Int32) (u7 : Int32) (u8 : Int32) (xc : Nat) (W_ : Nat → Int) (a1 : Int32) (a2 : Int32) (q1 : 0 ≤ a1.toInt ∧ a1.toInt < 4096) (hB : ∀ n : Nat, 0 ≤ W_ n ∧ W_ n ≤ 100000) (hB0 : W_ 0 = 0) (hd : dS_ W_ bN a1.toNatClampNeg u7 u8) (hsm : a2.toInt = W_ a1.toNatClampNeg) (h70 : 0 ≤ u7.toInt ∧ u7.toInt < 4096) : Met l yX7_compareDense wsX7_compareDense ({ frames := 1, cells := 0, slots := 0, locals := 20 }) (va_Pc [.ref xh, .int a1, .int a2] (fun U => U.heap.size = sz ∧ va_P D vwCl [ob7_0_ xh xc u1 u2 u3 u4 u5 u6 u7 u8] U.heap ∧ kk_ D cy U ∧ va_D (fun _ => True) [ob7_0_ xh xc u1 u2 u3 u4 u5 u6 u7 u8])) (va_Qv (fun (_ : Unit) => True) (fun (_ : Unit) (t : State) => ∃ (v7 : Int32), ∃ (v8 : Int32), (dS_ W_ bN (a1.toNatClampNeg + 1) v7 v8) ∧ va_P D vwCl [ob7_0_ xh xc u1 u2 u3 u4 u5 u6 v7 v8] t.heap ∧ va_D (va_A [ob7_0_ xh xc u1 u2 u3 u4 u5 u6 u7 u8] sz) [ob7_0_ xh xc u1 u2 u3 u4 u5 u6 v7 v8]) (va_A [ob7_0_ xh xc u1 u2 u3 u4 u5 u6 u7 u8] sz)) 0 0 (va_A [ob7_0_ xh xc u1 u2 u3 u4 u5 u6 u7 u8] sz) := by
  refine ofQ (cc := cX7_compareDense) (maxL := 7) (ret := none) (by decide) rfl ?_
  intro p e s m args below meth c s₁ Q hQ B hml hv
  obtain ⟨rfl, hsz, hP, hK, hD0⟩ := hv
  have hx := B.exec
  have hb := B.bytes
  have hr := B.returns
  have hts := atoms_spec (ws := wsX7_compareDense) B.pre
  have hown : s.vm.findClass RX7 = some m.cls := by have h_ := findClass_of_methodNamed B.named; exact h_
  have hlocks := B.notSynchronized
  subst hsz
  have hD := hD0.self (sz := s.heap.size)
  generalize hAe : va_A [ob7_0_ xh xc u1 u2 u3 u4 u5 u6 u7 u8] s.heap.size = A at hD hQ
  have hA : ∀ q : Nat, s.heap.size ≤ q → A q := fun q h => by rw [← hAe]; exact Or.inr h
  have hS : va_S A s.heap s.heap [] := va_S.rf
  have hl := lv_entry ([.ref xh, .int a1, .int a2]) (n := 7) (Nat.le_of_ble_eq_true rfl)
  rw [lg_entry_eq]
  generalize (lg_sl ([.ref xh, .int a1, .int a2]) ++ List.replicate (7 - (lg_sl ([.ref xh, .int a1, .int a2])).length) Slot.unset).toArray = ls at hl ⊢
  have hl : lv_has ls 7 [(0, .ref xh), (1, .int a1), (2, .int a2)] := hl
  have c1_ := clI (i := a1) (by omega)
  have hbw_ := hB a1.toNatClampNeg
  have ebn_ : bN a1.toNatClampNeg = bitI a1 := by unfold bN; rw [← nI_cl q1.1]
  have e7_ : bitI u7 = bN (dnz W_ bN a1.toNatClampNeg).1 := by have h_ := nI_cl h70.1; have c_ := clI (i := u7) h70.1; rw [show u7.toNatClampNeg = (dnz W_ bN a1.toNatClampNeg).1 by have := hd.1; omega] at h_; rw [h_]; rfl
  have e8_ : u8.toInt = W_ (dnz W_ bN a1.toNatClampNeg).1 := by rw [hd.2]; exact dnz_W hB0 _
  have hb8_ := hB (dnz W_ bN a1.toNatClampNeg).1
  refine lv_iload_n hx hb dB_36_1_64.1.1.1.1 rfl (lv_at hl 1 rfl) ?_
  refine ct_R hP hD [] [] (by decide) rfl (fun hPc hDw => ?_)
  have hFc := va_free (wc := []) hD hS hA [] rfl
  refine va_calli (va_runS (As := [.int a1]) (rest := []) ⟨hx, hb, hml, hown, hts⟩ (c_J6_bitCount2 l D cy s.heap.size a1 (by first | with_reducible assumption | omega | assumption)) (va_cwS 1 hts gX7_compareDense_J6_bitCount_0f7a4 rfl rfl rfl hd_J6_bitCount_0f7a4 ⟨Nat.le_of_ble_eq_true rfl, Nat.le_of_ble_eq_true rfl⟩) ⟨bl_, fun U hU hW => ⟨rfl, by rw [hU], by rw [hU]; exact hPc, kk_mv hW hK, hDw⟩⟩ rfl rfl hl.1 rfl (lv_room (Nat.le_of_ble_eq_true rfl)) dB_36_1_64.1.1.1.2 ⟨Nat.le_of_ble_eq_true rfl, Nat.le_of_ble_eq_true rfl⟩) hS (fun q _ h => hFc q h) hFc (fun r_1 u t H locs ht hvm hw hB hz1 hk1 hS => ?_)
  have hP : va_P D vwCl _ H := ro_keep hP hk1
  obtain ⟨f0_r_1, f1_r_1⟩ := hw
  refine lv_istore_n (lv' := [(3, .int r_1), (0, .ref xh), (1, .int a1), (2, .int a2)]) hx hb dB_36_1_64.1.1.2.1 rfl hl (by decide) rfl (fun ls hl => ?_)
  refine lv_aload_n hx hb dB_36_1_64.1.1.2.2 rfl (lv_at hl 1 rfl) ?_
  refine va_get (ci := 7) (v := .int u7) (C := RX7) (T := TX7) (N := 9) hx hb hts (fun _ h => List.mem_cons_of_mem _ (List.mem_append_right _ h)) hown hK.1 hP 0 rfl rfl 7 (by decide) (hts (.fieldLink RX7 69 "CutAtlas$SetHunt" "denseSet" "I") (List.mem_of_getElem? (i := 1) rfl)) (fun _ h9 => h9) rfl dB_36_1_64.1.2.1.1 ?_
  refine ct_R hP hD [] [] (by decide) rfl (fun hPc hDw => ?_)
  have hFc := va_free (wc := []) hD hS hA [] rfl
  refine va_calli (va_runS (As := [.int u7]) (rest := []) ⟨hx, hb, hml, hown, hts⟩ (c_J6_bitCount2 l D cy H.size u7 (by first | with_reducible assumption | omega | assumption)) (va_cwS 1 hts gX7_compareDense_J6_bitCount_0f7a4 rfl rfl rfl hd_J6_bitCount_0f7a4 ⟨Nat.le_of_ble_eq_true rfl, Nat.le_of_ble_eq_true rfl⟩) ⟨bl_, fun U hU hW => ⟨rfl, by rw [hU], by rw [hU]; exact hPc, kk_mv hW hK, hDw⟩⟩ rfl rfl hl.1 rfl (lv_room (Nat.le_of_ble_eq_true rfl)) dB_36_1_64.1.2.1.2 ⟨Nat.le_of_ble_eq_true rfl, Nat.le_of_ble_eq_true rfl⟩) hS (fun q _ h => hFc q h) hFc (fun r_2 u t H locs ht hvm hw hB hz1 hk1 hS => ?_)
  have hP : va_P D vwCl _ H := ro_keep hP hk1
  obtain ⟨f0_r_2, f1_r_2⟩ := hw
  refine lv_istore (lv' := [(4, .int r_2), (3, .int r_1), (0, .ref xh), (1, .int a1), (2, .int a2)]) hx hb dB_36_1_64.1.2.2.1 hl (by decide) rfl (fun ls hl => ?_)
  refine lv_iload_n hx hb dB_36_1_64.1.2.2.2 rfl (lv_at hl 4 rfl) ?_
  refine lv_iload hx hb dB_36_1_64.2.1.1.1 (lv_at hl 0 rfl) ?_
  refine lv_imul hx hb dB_36_1_64.2.1.1.2 ?_
  refine lv_topi (fun y_3 ey_3 => ?_)
  have hmi_ := mulBX ey_3 (by omega) (by omega)
  refine lv_istore (lv' := [(5, .int y_3), (4, .int r_2), (3, .int r_1), (0, .ref xh), (1, .int a1), (2, .int a2)]) hx hb dB_36_1_64.2.1.2.1 hl (by decide) rfl (fun ls hl => ?_)
  refine lv_aload_n hx hb dB_36_1_64.2.1.2.2 rfl (lv_at hl 3 rfl) ?_
  refine va_get (ci := 7) (v := .int u8) (C := RX7) (T := TX7) (N := 9) hx hb hts (fun _ h => List.mem_cons_of_mem _ (List.mem_append_right _ h)) hown hK.1 hP 0 rfl rfl 8 (by decide) (hts (.fieldLink RX7 72 "CutAtlas$SetHunt" "denseSum" "I") (List.mem_of_getElem? (i := 2) rfl)) (fun _ h9 => h9) rfl dB_36_1_64.2.2.1.1 ?_
  refine lv_iload_n hx hb dB_36_1_64.2.2.1.2 rfl (lv_at hl 2 rfl) ?_
  refine lv_imul hx hb dB_36_1_64.2.2.2.1 ?_
  refine lv_topi (fun y_4 ey_4 => ?_)
  have hbe_ := mulBX ey_4 (by omega) (by omega)
  refine lv_istore (lv' := [(6, .int y_4), (5, .int y_3), (4, .int r_2), (3, .int r_1), (0, .ref xh), (1, .int a1), (2, .int a2)]) hx hb dB_36_1_64.2.2.2.2 hl (by decide) rfl (fun ls hl => ?_)
  have hif_ := dB_iff (w := a2.toInt) (A := y_4.toInt) (B := y_3.toInt) (bn := r_1.toInt) (bx := r_2.toInt) hd (by omega) (by omega) hsm hbe_.1 hmi_.1
  refine lv_iload hx hb dB_36_1_65.1.1.1.1 (lv_at hl 1 rfl) ?_
  refine lv_iload hx hb dB_36_1_65.1.1.1.2 (lv_at hl 0 rfl) ?_
  refine lv_icmp_gt (tgt := 48) hx hb dB_36_1_65.1.1.2.1 (by decide) (fun c_5 => ?_) (fun c_5 => ?_)
  · have t_5 : y_4.toInt < y_3.toInt := Int32.lt_iff_toInt_lt.mp c_5
    refine lv_aload_n hx hb dB_36_1_65.2.1.1.2 rfl (lv_at hl 4 rfl) ?_
    refine lv_iload_n hx hb dB_36_1_65.2.1.2.1 rfl (lv_at hl 5 rfl) ?_
    refine va_put (ci := 7) (v := .int a1) (ty := .int) (C := RX7) (T := TX7) (N := 9) hx hb hts (fun _ h => List.mem_cons_of_mem _ (List.mem_append_right _ h)) tyX7 tyX7_ok nmX7 hown hK.1 hP hD hS 0 rfl rfl 7 (by decide) (hts (.fieldLink RX7 69 "CutAtlas$SetHunt" "denseSet" "I") (List.mem_of_getElem? (i := 1) rfl)) (fun _ h9 => h9) rfl (by decide +kernel) rfl rfl (Nat.le_of_ble_eq_true rfl) dB_36_1_65.2.1.2.2 (fun H locs hP hD hS => ?_)
    refine pd_K [ob7_0_ xh xc u1 u2 u3 u4 u5 u6 a1 u8] hP hD (fun hP hD => ?_)
    refine lv_aload_n hx hb dB_36_1_65.2.2.1.1 rfl (lv_at hl 4 rfl) ?_
    refine lv_iload_n hx hb dB_36_1_65.2.2.1.2 rfl (lv_at hl 6 rfl) ?_
    refine va_put (ci := 7) (v := .int a2) (ty := .int) (C := RX7) (T := TX7) (N := 9) hx hb hts (fun _ h => List.mem_cons_of_mem _ (List.mem_append_right _ h)) tyX7 tyX7_ok nmX7 hown hK.1 hP hD hS 0 rfl rfl 8 (by decide) (hts (.fieldLink RX7 72 "CutAtlas$SetHunt" "denseSum" "I") (List.mem_of_getElem? (i := 2) rfl)) (fun _ h9 => h9) rfl (by decide +kernel) rfl rfl (Nat.le_of_ble_eq_true rfl) dB_36_1_65.2.2.2.1 (fun H locs hP hD hS => ?_)
    refine pd_K [ob7_0_ xh xc u1 u2 u3 u4 u5 u6 a1 a2] hP hD (fun hP hD => ?_)
    rw [hQ]
    exact W.vret hx hb hr (fun t ht hW => ⟨⟨(), rfl, trivial, a1, a2, (by first | exact dS_st hd hsm (by omega) ⟨fun _ => ⟨by omega, rfl⟩, fun h => absurd (hif_.mpr (by omega)) h⟩ | exact dS_st hd hsm (by omega) ⟨fun h => absurd (hif_.mp h) (by omega), fun _ => ⟨rfl, rfl⟩⟩), by rw [ht]; exact hP, hD⟩, hS.F ht⟩) hS.2.2 dB_36_1_65.2.2.2.2
  · have t_5 : ¬ y_4.toInt < y_3.toInt := fun h => c_5 (Int32.lt_iff_toInt_lt.mpr h)
    refine lv_iload hx hb dB_36_1_65.1.1.2.2 (lv_at hl 1 rfl) ?_
    refine lv_iload hx hb dB_36_1_65.1.2.1.1 (lv_at hl 0 rfl) ?_
    refine lv_icmp_ne (tgt := 58) hx hb dB_36_1_65.1.2.1.2 (by decide) (fun c_6 => ?_) (fun c_6 => ?_)
    · have t_6 : ¬ y_3.toInt = y_4.toInt := fun h => c_6 (Int32.toInt_inj.mp h)
      rw [hQ]
      exact W.vret hx hb hr (fun t ht hW => ⟨⟨(), rfl, trivial, u7, u8, (by first | exact dS_st hd hsm (by omega) ⟨fun _ => ⟨by omega, rfl⟩, fun h => absurd (hif_.mpr (by omega)) h⟩ | exact dS_st hd hsm (by omega) ⟨fun h => absurd (hif_.mp h) (by omega), fun _ => ⟨rfl, rfl⟩⟩), by rw [ht]; exact hP, hD⟩, hS.F ht⟩) hS.2.2 dB_36_1_65.2.2.2.2
    · have t_6 : y_3.toInt = y_4.toInt := congrArg Int32.toInt c_6
      refine lv_iload_n hx hb dB_36_1_65.1.2.2.1 rfl (lv_at hl 3 rfl) ?_
      refine lv_iload hx hb dB_36_1_65.1.2.2.2 (lv_at hl 2 rfl) ?_
      refine lv_icmp_le (tgt := 58) hx hb dB_36_1_65.2.1.1.1 (by decide) (fun c_7 => ?_) (fun c_7 => ?_)
      · have t_7 : r_1.toInt ≤ r_2.toInt := Int32.le_iff_toInt_le.mp c_7
        rw [hQ]
        exact W.vret hx hb hr (fun t ht hW => ⟨⟨(), rfl, trivial, u7, u8, (by first | exact dS_st hd hsm (by omega) ⟨fun _ => ⟨by omega, rfl⟩, fun h => absurd (hif_.mpr (by omega)) h⟩ | exact dS_st hd hsm (by omega) ⟨fun h => absurd (hif_.mp h) (by omega), fun _ => ⟨rfl, rfl⟩⟩), by rw [ht]; exact hP, hD⟩, hS.F ht⟩) hS.2.2 dB_36_1_65.2.2.2.2
      · have t_7 : ¬ r_1.toInt ≤ r_2.toInt := fun h => c_7 (Int32.le_iff_toInt_le.mpr h)
        refine lv_aload_n hx hb dB_36_1_65.2.1.1.2 rfl (lv_at hl 4 rfl) ?_
        refine lv_iload_n hx hb dB_36_1_65.2.1.2.1 rfl (lv_at hl 5 rfl) ?_
        refine va_put (ci := 7) (v := .int a1) (ty := .int) (C := RX7) (T := TX7) (N := 9) hx hb hts (fun _ h => List.mem_cons_of_mem _ (List.mem_append_right _ h)) tyX7 tyX7_ok nmX7 hown hK.1 hP hD hS 0 rfl rfl 7 (by decide) (hts (.fieldLink RX7 69 "CutAtlas$SetHunt" "denseSet" "I") (List.mem_of_getElem? (i := 1) rfl)) (fun _ h9 => h9) rfl (by decide +kernel) rfl rfl (Nat.le_of_ble_eq_true rfl) dB_36_1_65.2.1.2.2 (fun H locs hP hD hS => ?_)
        refine pd_K [ob7_0_ xh xc u1 u2 u3 u4 u5 u6 a1 u8] hP hD (fun hP hD => ?_)
        refine lv_aload_n hx hb dB_36_1_65.2.2.1.1 rfl (lv_at hl 4 rfl) ?_
        refine lv_iload_n hx hb dB_36_1_65.2.2.1.2 rfl (lv_at hl 6 rfl) ?_
        refine va_put (ci := 7) (v := .int a2) (ty := .int) (C := RX7) (T := TX7) (N := 9) hx hb hts (fun _ h => List.mem_cons_of_mem _ (List.mem_append_right _ h)) tyX7 tyX7_ok nmX7 hown hK.1 hP hD hS 0 rfl rfl 8 (by decide) (hts (.fieldLink RX7 72 "CutAtlas$SetHunt" "denseSum" "I") (List.mem_of_getElem? (i := 2) rfl)) (fun _ h9 => h9) rfl (by decide +kernel) rfl rfl (Nat.le_of_ble_eq_true rfl) dB_36_1_65.2.2.2.1 (fun H locs hP hD hS => ?_)
        refine pd_K [ob7_0_ xh xc u1 u2 u3 u4 u5 u6 a1 a2] hP hD (fun hP hD => ?_)
        rw [hQ]
        exact W.vret hx hb hr (fun t ht hW => ⟨⟨(), rfl, trivial, a1, a2, (by first | exact dS_st hd hsm (by omega) ⟨fun _ => ⟨by omega, rfl⟩, fun h => absurd (hif_.mpr (by omega)) h⟩ | exact dS_st hd hsm (by omega) ⟨fun h => absurd (hif_.mp h) (by omega), fun _ => ⟨rfl, rfl⟩⟩), by rw [ht]; exact hP, hD⟩, hS.F ht⟩) hS.2.2 dB_36_1_65.2.2.2.2
end
