/-- what a line lets, as a number; b: from its first end -/
noncomputable def rmI (k w b : Int32) : Int := if ml_lets k w b = (-5) then 1000000 else (ml_lets k w b).toInt
theorem lets_rng {k w b : Int32} (h0 : 0 ≤ w.toInt) (h1 : w.toInt ≤ 2000) : ml_lets k w b = (-5) ∨ (0 ≤ (ml_lets k w b).toInt ∧ (ml_lets k w b).toInt ≤ 2000) := by
  have z0 : (0 : Int32).toInt = 0 := by decide
  unfold ml_lets
  by_cases h : k = 2
  · rw [if_pos h]
    exact Or.inl rfl
  · rw [if_neg h]
    by_cases h2 : k = 1 ∧ b = 0
    · rw [if_pos h2]
      exact Or.inr ⟨by omega, by omega⟩
    · rw [if_neg h2]
      exact Or.inr ⟨h0, h1⟩
theorem rmI_rng {k w b : Int32} (h0 : 0 ≤ w.toInt) (h1 : w.toInt ≤ 2000) : 0 ≤ rmI k w b ∧ rmI k w b ≤ 1000000 := by
  unfold rmI
  rcases lets_rng (k := k) (b := b) h0 h1 with h | h
  · rw [if_pos h]
    omega
  · by_cases e : ml_lets k w b = (-5)
    · rw [if_pos e]
      omega
    · rw [if_neg e]
      omega
theorem room_I {r k w b l z : Int32} (e : r = ml_room k w b l z) (hl : 0 ≤ l.toInt) (hz : z.toInt = -9) (hw : 0 ≤ w.toInt ∧ w.toInt ≤ 2000) : r.toInt = rmI k w b ∧ 0 ≤ r.toInt ∧ r.toInt ≤ 1000000 := by
  have hne : ¬ (l = z ∧ ¬ (k = 1 ∧ b = 0)) := fun h => by
    have := congrArg Int32.toInt h.1
    omega
  have hR := rmI_rng (k := k) (b := b) hw.1 hw.2
  have e1 : r.toInt = rmI k w b := by
    rw [e]
    unfold ml_room rmI
    by_cases h : ml_lets k w b = (-5)
    · rw [if_pos h, if_pos h]
      decide
    · rw [if_neg h, if_neg h, if_neg hne]
  exact ⟨e1, by omega, by omega⟩
/-- every line carries no more than it lets -/
noncomputable def flOK (f5 f8 f22 : Nat → Int32) : Prop := ∀ j : Nat, j < 40 → -(rmI (f5 j) (f8 j) 0) ≤ (f22 j).toInt ∧ (f22 j).toInt ≤ rmI (f5 j) (f8 j) 1
/-- what line j lets more from x to y -/
noncomputable def lfI (f5 f6 f7 f8 f10 f22 : Nat → Int32) (x y : Int) (j : Nat) : Int := if (f10 j).toInt ≠ 0 then 0 else if (f6 j).toInt = x ∧ (f7 j).toInt = y then rmI (f5 j) (f8 j) 1 - (f22 j).toInt else if (f6 j).toInt = y ∧ (f7 j).toInt = x then rmI (f5 j) (f8 j) 0 + (f22 j).toInt else 0
theorem lfI_rng {f5 f6 f7 f8 f10 f22 : Nat → Int32} (h : flOK f5 f8 f22) (hr : rng f8 40 0 2000) {j : Nat} (hj : j < 40) (x y : Int) : 0 ≤ lfI f5 f6 f7 f8 f10 f22 x y j ∧ lfI f5 f6 f7 f8 f10 f22 x y j ≤ 2000000 := by
  have a := h j hj
  have b := hr j hj
  have c1 := rmI_rng (k := f5 j) (b := 1) b.1 b.2
  have c0 := rmI_rng (k := f5 j) (b := 0) b.1 b.2
  unfold lfI
  (repeat' split) <;> omega
noncomputable def sumI (g : Nat → Int) : Nat → Int
  | 0 => 0
  | n + 1 => sumI g n + g n
theorem sum_st {g : Nat → Int} {i i2 : Int32} {a a2 r : Int} (h : a = sumI g i.toNatClampNeg) (hr : r = g i.toNatClampNeg) (hi : 0 ≤ i.toInt) (e : a2 = a + r) (ei : i2.toInt = i.toInt + 1) : a2 = sumI g i2.toNatClampNeg := by
  have e2 : i2.toNatClampNeg = i.toNatClampNeg + 1 := by
    have x1 := clI (i := i) hi
    have x2 := clI (i := i2) (by omega)
    omega
  rw [e2]
  show a2 = sumI g i.toNatClampNeg + g i.toNatClampNeg
  rw [← h, ← hr, e]

set_option maxHeartbeats 4000000 in
set_option maxRecDepth 100000 in
theorem c_X12_left (l : Launch) (D : va_G) (cy : Nat → ClassId) (sz : Nat) (mo : Nat) (g5 : Nat) (g6 : Nat) (g7 : Nat) (g8 : Nat) (g9 : Nat) (g10 : Nat) (g12 : Nat) (g13 : Nat) (g14 : Nat) (g15 : Nat) (g16 : Nat) (g17 : Nat) (g18 : Nat) (g19 : Nat) (g20 : Nat) (g22 : Nat) (g23 : Nat) (g24 : Nat) (g29 : Nat) (g30 : Nat) (g31 : Nat) (g32 : Nat) (g33 : Nat) (s0 : Int32) (s1 : Int32) (s3 : Int32) (s4 : Int32) (s11 : Int32) (s21 : Int32) (s25 : Int32) (s26 : Int32) (s27 : Int32) (s28 : Int32) (t2 : Int64) (f5 : Nat → Int32) (f6 : Nat → Int32) (f7 : Nat → Int32) (f8 : Nat → Int32) (f10 : Nat → Int32) (f22 : Nat → Int32) (a1 : Int32) (a2 : Int32) (a3 : Int32) (q1 : 0 ≤ a1.toInt ∧ a1.toInt < 40) (h21 : s21.toInt = -9) (hfl : flOK f5 f8 f22) (r_f8 : rng f8 40 (0) (2000)) : Met l yX12_left wsX12_left ({ frames := 2, cells := 0, slots := 0, locals := 46 }) (va_Pc [.ref mo, .int a1, .int a2, .int a3] (fun U => U.heap.size = sz ∧ va_P D vwCl [(mo, .inr (12, [.int s0, .int s1, .long t2, .int s3, .int s4, .ref g5, .ref g6, .ref g7, .ref g8, .ref g9, .ref g10, .int s11, .ref g12, .ref g13, .ref g14, .ref g15, .ref g16, .ref g17, .ref g18, .ref g19, .ref g20, .int s21, .ref g22, .ref g23, .ref g24, .int s25, .int s26, .int s27, .int s28, .ref g29, .ref g30, .ref g31, .ref g32, .ref g33])), (g5, .inl (cy 0, 40, .inl f5)), (g6, .inl (cy 0, 40, .inl f6)), (g7, .inl (cy 0, 40, .inl f7)), (g8, .inl (cy 0, 40, .inl f8)), (g10, .inl (cy 2, 40, .inl f10)), (g22, .inl (cy 0, 40, .inl f22))] U.heap ∧ kk_ D cy U ∧ va_D (fun _ => True) [(mo, .inr (12, [.int s0, .int s1, .long t2, .int s3, .int s4, .ref g5, .ref g6, .ref g7, .ref g8, .ref g9, .ref g10, .int s11, .ref g12, .ref g13, .ref g14, .ref g15, .ref g16, .ref g17, .ref g18, .ref g19, .ref g20, .int s21, .ref g22, .ref g23, .ref g24, .int s25, .int s26, .int s27, .int s28, .ref g29, .ref g30, .ref g31, .ref g32, .ref g33])), (g5, .inl (cy 0, 40, .inl f5)), (g6, .inl (cy 0, 40, .inl f6)), (g7, .inl (cy 0, 40, .inl f7)), (g8, .inl (cy 0, 40, .inl f8)), (g10, .inl (cy 2, 40, .inl f10)), (g22, .inl (cy 0, 40, .inl f22))])) (va_Qi (fun (r : Int32) (_ : Unit) => (r.toInt = lfI f5 f6 f7 f8 f10 f22 a2.toInt a3.toInt a1.toNatClampNeg)) (fun (_ : Unit) (_ : State) => True) (va_A [] sz)) 0 0 (va_A [] sz) := by
  refine ofQ (cc := cX12_left) (maxL := 4) (ret := (some .int)) (by decide) rfl ?_
  intro p e s m args below meth c s₁ Q hQ B hml hv
  obtain ⟨rfl, hsz, hP, hK, hD0⟩ := hv
  have hx := B.exec
  have hb := B.bytes
  have hr := B.returns
  have hts := atoms_spec (ws := wsX12_left) B.pre
  have hown : s.vm.findClass RX12 = some m.cls := by have h_ := findClass_of_methodNamed B.named; exact h_
  have hlocks := B.notSynchronized
  subst hsz
  have hD : va_D (va_A [] s.heap.size) [] := dd_nil
  generalize hAe : va_A [] s.heap.size = A at hD hQ
  have hA : ∀ q : Nat, s.heap.size ≤ q → A q := fun q h => by rw [← hAe]; exact Or.inr h
  have hS : va_S A s.heap s.heap [] := va_S.rf
  have hl := lv_entry ([.ref mo, .int a1, .int a2, .int a3]) (n := 4) (Nat.le_of_ble_eq_true rfl)
  rw [lg_entry_eq]
  generalize (lg_sl ([.ref mo, .int a1, .int a2, .int a3]) ++ List.replicate (4 - (lg_sl ([.ref mo, .int a1, .int a2, .int a3])).length) Slot.unset).toArray = ls at hl ⊢
  have hl : lv_has ls 4 [(0, .ref mo), (1, .int a1), (2, .int a2), (3, .int a3)] := hl
  have z0 : (0 : Int32).toInt = 0 := by decide
  have z1 : (1 : Int32).toInt = 1 := by decide
  have hv : vp_in a1 40 := in_I (by omega) (by omega)
  have fl := hfl _ (in_lt hv)
  have fw := r_f8 _ (in_lt hv)
  have w1 := rmI_rng (k := f5 a1.toNatClampNeg) (b := 1) fw.1 fw.2
  have w0 := rmI_rng (k := f5 a1.toNatClampNeg) (b := 0) fw.1 fw.2
  refine lv_aload_n hx hb dX12_left_0 rfl (lv_at hl 0 rfl) ?_
  refine va_get (ci := 12) (v := .ref g10) (C := RX12) (T := TX12) (N := 34) hx hb hts (fun _ h => List.mem_cons_of_mem _ (List.mem_append_right _ h)) hown hK.1 hP 0 rfl rfl 10 (by decide) (hts (.fieldLink RX12 25 "CutAtlasModel" "isMissing" "[Z") (by decide +kernel)) (fun _ h9 => h9) rfl dX12_left_1 ?_
  refine lv_iload_n hx hb dX12_left_4 rfl (lv_at hl 1 rfl) ?_
  have h_1 : vp_in a1 40 := in_I (by omega) (by omega)
  refine va_zald hx hb hK.1 hP 5 2 rfl rfl (i := a1) h_1 dX12_left_5 ?_
  refine lv_topi (fun y_2 ey_2 => ?_)
  have ky_2 : y_2.toInt = (f10 a1.toNatClampNeg).toInt := by rw [ey_2]
  refine lv_if_eq (tgt := 11) hx hb dX12_left_6 (by decide) (fun c_3 => ?_) (fun c_3 => ?_)
  · have t_3 : y_2.toInt = (0 : Int32).toInt := congrArg Int32.toInt c_3
    refine lv_aload_n hx hb dX12_left_11 rfl (lv_at hl 0 rfl) ?_
    refine va_get (ci := 12) (v := .ref g6) (C := RX12) (T := TX12) (N := 34) hx hb hts (fun _ h => List.mem_cons_of_mem _ (List.mem_append_right _ h)) hown hK.1 hP 0 rfl rfl 6 (by decide) (hts (.fieldLink RX12 13 "CutAtlasModel" "from" "[I") (by decide +kernel)) (fun _ h9 => h9) rfl dX12_left_12 ?_
    refine lv_iload_n hx hb dX12_left_15 rfl (lv_at hl 1 rfl) ?_
    have h_4 : vp_in a1 40 := in_I (by omega) (by omega)
    refine va_iald hx hb hK.1 hP 2 0 rfl rfl (i := a1) h_4 dX12_left_16 ?_
    refine lv_topi (fun y_5 ey_5 => ?_)
    have ky_5 : y_5.toInt = (f6 a1.toNatClampNeg).toInt := by rw [ey_5]
    refine lv_iload_n hx hb dX12_left_17 rfl (lv_at hl 2 rfl) ?_
    refine lv_icmp_ne (tgt := 47) hx hb dX12_left_18 (by decide) (fun c_6 => ?_) (fun c_6 => ?_)
    · have t_6 : ¬ y_5.toInt = a2.toInt := fun h => c_6 (Int32.toInt_inj.mp h)
      refine lv_aload_n hx hb dX12_left_47 rfl (lv_at hl 0 rfl) ?_
      refine va_get (ci := 12) (v := .ref g6) (C := RX12) (T := TX12) (N := 34) hx hb hts (fun _ h => List.mem_cons_of_mem _ (List.mem_append_right _ h)) hown hK.1 hP 0 rfl rfl 6 (by decide) (hts (.fieldLink RX12 13 "CutAtlasModel" "from" "[I") (by decide +kernel)) (fun _ h9 => h9) rfl dX12_left_48 ?_
      refine lv_iload_n hx hb dX12_left_51 rfl (lv_at hl 1 rfl) ?_
      have h_7 : vp_in a1 40 := in_I (by omega) (by omega)
      refine va_iald hx hb hK.1 hP 2 0 rfl rfl (i := a1) h_7 dX12_left_52 ?_
      refine lv_topi (fun y_8 ey_8 => ?_)
      have e_ := (ey_8.trans ey_5.symm).symm
      subst e_
      skip
      refine lv_iload_n hx hb dX12_left_53 rfl (lv_at hl 3 rfl) ?_
      refine lv_icmp_ne (tgt := 83) hx hb dX12_left_54 (by decide) (fun c_9 => ?_) (fun c_9 => ?_)
      · have t_9 : ¬ y_5.toInt = a3.toInt := fun h => c_9 (Int32.toInt_inj.mp h)
        refine lv_iconst (v := 0) hx hb dX12_left_83 (by decide) ?_
        rw [hQ]
        exact W.iret (v := 0) hx hb hr (fun t ht hW => ⟨⟨0, (), rfl, (by unfold lfI; (repeat' split) <;> omega), trivial⟩, hS.F ht⟩) hS.2.2 dX12_left_84
      · have t_9 : y_5.toInt = a3.toInt := congrArg Int32.toInt c_9
        refine lv_aload_n hx hb dX12_left_57 rfl (lv_at hl 0 rfl) ?_
        refine va_get (ci := 12) (v := .ref g7) (C := RX12) (T := TX12) (N := 34) hx hb hts (fun _ h => List.mem_cons_of_mem _ (List.mem_append_right _ h)) hown hK.1 hP 0 rfl rfl 7 (by decide) (hts (.fieldLink RX12 16 "CutAtlasModel" "to" "[I") (by decide +kernel)) (fun _ h9 => h9) rfl dX12_left_58 ?_
        refine lv_iload_n hx hb dX12_left_61 rfl (lv_at hl 1 rfl) ?_
        have h_10 : vp_in a1 40 := in_I (by omega) (by omega)
        refine va_iald hx hb hK.1 hP 3 0 rfl rfl (i := a1) h_10 dX12_left_62 ?_
        refine lv_topi (fun y_11 ey_11 => ?_)
        have ky_11 : y_11.toInt = (f7 a1.toNatClampNeg).toInt := by rw [ey_11]
        refine lv_iload_n hx hb dX12_left_63 rfl (lv_at hl 2 rfl) ?_
        refine lv_icmp_ne (tgt := 83) hx hb dX12_left_64 (by decide) (fun c_12 => ?_) (fun c_12 => ?_)
        · have t_12 : ¬ y_11.toInt = a2.toInt := fun h => c_12 (Int32.toInt_inj.mp h)
          refine lv_iconst (v := 0) hx hb dX12_left_83 (by decide) ?_
          rw [hQ]
          exact W.iret (v := 0) hx hb hr (fun t ht hW => ⟨⟨0, (), rfl, (by unfold lfI; (repeat' split) <;> omega), trivial⟩, hS.F ht⟩) hS.2.2 dX12_left_84
        · have t_12 : y_11.toInt = a2.toInt := congrArg Int32.toInt c_12
          refine lv_aload_n hx hb dX12_left_67 rfl (lv_at hl 0 rfl) ?_
          refine lv_iload_n hx hb dX12_left_68 rfl (lv_at hl 1 rfl) ?_
          refine lv_iconst (v := 0) hx hb dX12_left_69 (by decide) ?_
          refine ct_R hP hD0 [(mo, .inr (12, [.int s0, .int s1, .long t2, .int s3, .int s4, .ref g5, .ref g6, .ref g7, .ref g8, .ref g9, .ref g10, .int s11, .ref g12, .ref g13, .ref g14, .ref g15, .ref g16, .ref g17, .ref g18, .ref g19, .ref g20, .int s21, .ref g22, .ref g23, .ref g24, .int s25, .int s26, .int s27, .int s28, .ref g29, .ref g30, .ref g31, .ref g32, .ref g33])), (g5, .inl (cy 0, 40, .inl f5)), (g8, .inl (cy 0, 40, .inl f8))] [0, 1, 4] (by decide) rfl (fun hPc hDw => ?_)
          have hFc := va_free (wc := []) hD hS hA [] rfl
          refine va_calli (va_runV (As := [.int a1, .int 0]) (rest := []) ⟨hx, hb, hml, hown, hts⟩ (c_X12_room l D cy s.heap.size mo g5 g6 g7 g8 g9 g10 g12 g13 g14 g15 g16 g17 g18 g19 g20 g22 g23 g24 g29 g30 g31 g32 g33 s0 s1 s3 s4 s11 s21 s25 s26 s27 s28 t2 f5 f8 a1 (0 : Int32) (by first | with_reducible assumption | assumption | omega)) (cwV 2 hts gX12_left_X12_room rfl rfl rfl (by decide +kernel) ⟨Nat.le_of_ble_eq_true rfl, Nat.le_of_ble_eq_true rfl⟩) ⟨bl_, va_recvX hK.1 hP (ci := 12) (q0 := 0) rfl rfl, fun U hU hW => ⟨rfl, by rw [hU], by rw [hU]; exact hPc, kk_mv hW hK, hDw⟩⟩ rfl rfl hl.1 rfl (lv_room (Nat.le_of_ble_eq_true rfl)) dX12_left_70 ⟨Nat.le_of_ble_eq_true rfl, Nat.le_of_ble_eq_true rfl⟩) hS (fun q _ h => hFc q h) hFc (fun r_13 u t H locs ht hvm hw hB hz1 hk1 hS => ?_)
          have hP : va_P D vwCl _ H := ro_keep hP hk1
          have f0_r_13 := hw
          have rI_2 := room_I (r := r_13) (by assumption) (by omega) (by omega) (r_f8 _ (in_lt (in_I (by omega) (by omega))))
          refine lv_aload_n hx hb dX12_left_73 rfl (lv_at hl 0 rfl) ?_
          refine va_get (ci := 12) (v := .ref g22) (C := RX12) (T := TX12) (N := 34) hx hb hts (fun _ h => List.mem_cons_of_mem _ (List.mem_append_right _ h)) hown hK.1 hP 0 rfl rfl 22 (by decide) (hts (.fieldLink RX12 61 "CutAtlasModel" "flows" "[I") (by decide +kernel)) (fun _ h9 => h9) rfl dX12_left_74 ?_
          refine lv_iload_n hx hb dX12_left_77 rfl (lv_at hl 1 rfl) ?_
          have h_14 : vp_in a1 40 := in_I (by omega) (by omega)
          refine va_iald hx hb hK.1 hP 6 0 rfl rfl (i := a1) h_14 dX12_left_78 ?_
          refine lv_topi (fun y_15 ey_15 => ?_)
          have ky_15 : y_15.toInt = (f22 a1.toNatClampNeg).toInt := by rw [ey_15]
          refine lv_iadd hx hb dX12_left_79 ?_
          refine lv_topi (fun y_16 ey_16 => ?_)
          have ty_16 : y_16.toInt = r_13.toInt + y_15.toInt := by rw [ey_16]; exact addI (by omega) (by omega)
          refine lv_goto (tgt := 84) hx hb dX12_left_80 (by decide) ?_
          rw [hQ]
          exact W.iret (v := y_16) hx hb hr (fun t ht hW => ⟨⟨y_16, (), rfl, (by unfold lfI; (repeat' split) <;> omega), trivial⟩, hS.F ht⟩) hS.2.2 dX12_left_84
    · have t_6 : y_5.toInt = a2.toInt := congrArg Int32.toInt c_6
      refine lv_aload_n hx hb dX12_left_21 rfl (lv_at hl 0 rfl) ?_
      refine va_get (ci := 12) (v := .ref g7) (C := RX12) (T := TX12) (N := 34) hx hb hts (fun _ h => List.mem_cons_of_mem _ (List.mem_append_right _ h)) hown hK.1 hP 0 rfl rfl 7 (by decide) (hts (.fieldLink RX12 16 "CutAtlasModel" "to" "[I") (by decide +kernel)) (fun _ h9 => h9) rfl dX12_left_22 ?_
      refine lv_iload_n hx hb dX12_left_25 rfl (lv_at hl 1 rfl) ?_
      have h_17 : vp_in a1 40 := in_I (by omega) (by omega)
      refine va_iald hx hb hK.1 hP 3 0 rfl rfl (i := a1) h_17 dX12_left_26 ?_
      refine lv_topi (fun y_18 ey_18 => ?_)
      have ky_18 : y_18.toInt = (f7 a1.toNatClampNeg).toInt := by rw [ey_18]
      refine lv_iload_n hx hb dX12_left_27 rfl (lv_at hl 3 rfl) ?_
      refine lv_icmp_ne (tgt := 47) hx hb dX12_left_28 (by decide) (fun c_19 => ?_) (fun c_19 => ?_)
      · have t_19 : ¬ y_18.toInt = a3.toInt := fun h => c_19 (Int32.toInt_inj.mp h)
        refine lv_aload_n hx hb dX12_left_47 rfl (lv_at hl 0 rfl) ?_
        refine va_get (ci := 12) (v := .ref g6) (C := RX12) (T := TX12) (N := 34) hx hb hts (fun _ h => List.mem_cons_of_mem _ (List.mem_append_right _ h)) hown hK.1 hP 0 rfl rfl 6 (by decide) (hts (.fieldLink RX12 13 "CutAtlasModel" "from" "[I") (by decide +kernel)) (fun _ h9 => h9) rfl dX12_left_48 ?_
        refine lv_iload_n hx hb dX12_left_51 rfl (lv_at hl 1 rfl) ?_
        have h_20 : vp_in a1 40 := in_I (by omega) (by omega)
        refine va_iald hx hb hK.1 hP 2 0 rfl rfl (i := a1) h_20 dX12_left_52 ?_
        refine lv_topi (fun y_21 ey_21 => ?_)
        have e_ := (ey_21.trans ey_5.symm).symm
        subst e_
        skip
        refine lv_iload_n hx hb dX12_left_53 rfl (lv_at hl 3 rfl) ?_
        refine lv_icmp_ne (tgt := 83) hx hb dX12_left_54 (by decide) (fun c_22 => ?_) (fun c_22 => ?_)
        · have t_22 : ¬ y_5.toInt = a3.toInt := fun h => c_22 (Int32.toInt_inj.mp h)
          refine lv_iconst (v := 0) hx hb dX12_left_83 (by decide) ?_
          rw [hQ]
          exact W.iret (v := 0) hx hb hr (fun t ht hW => ⟨⟨0, (), rfl, (by unfold lfI; (repeat' split) <;> omega), trivial⟩, hS.F ht⟩) hS.2.2 dX12_left_84
        · have t_22 : y_5.toInt = a3.toInt := congrArg Int32.toInt c_22
          refine lv_aload_n hx hb dX12_left_57 rfl (lv_at hl 0 rfl) ?_
          refine va_get (ci := 12) (v := .ref g7) (C := RX12) (T := TX12) (N := 34) hx hb hts (fun _ h => List.mem_cons_of_mem _ (List.mem_append_right _ h)) hown hK.1 hP 0 rfl rfl 7 (by decide) (hts (.fieldLink RX12 16 "CutAtlasModel" "to" "[I") (by decide +kernel)) (fun _ h9 => h9) rfl dX12_left_58 ?_
          refine lv_iload_n hx hb dX12_left_61 rfl (lv_at hl 1 rfl) ?_
          have h_23 : vp_in a1 40 := in_I (by omega) (by omega)
          refine va_iald hx hb hK.1 hP 3 0 rfl rfl (i := a1) h_23 dX12_left_62 ?_
          refine lv_topi (fun y_24 ey_24 => ?_)
          have e_ := (ey_24.trans ey_18.symm).symm
          subst e_
          skip
          refine lv_iload_n hx hb dX12_left_63 rfl (lv_at hl 2 rfl) ?_
          refine lv_icmp_ne (tgt := 83) hx hb dX12_left_64 (by decide) (fun c_25 => ?_) (fun c_25 => ?_)
          · have t_25 : ¬ y_18.toInt = a2.toInt := fun h => c_25 (Int32.toInt_inj.mp h)
            refine lv_iconst (v := 0) hx hb dX12_left_83 (by decide) ?_
            rw [hQ]
            exact W.iret (v := 0) hx hb hr (fun t ht hW => ⟨⟨0, (), rfl, (by unfold lfI; (repeat' split) <;> omega), trivial⟩, hS.F ht⟩) hS.2.2 dX12_left_84
          · have t_25 : y_18.toInt = a2.toInt := congrArg Int32.toInt c_25
            refine lv_aload_n hx hb dX12_left_67 rfl (lv_at hl 0 rfl) ?_
            refine lv_iload_n hx hb dX12_left_68 rfl (lv_at hl 1 rfl) ?_
            refine lv_iconst (v := 0) hx hb dX12_left_69 (by decide) ?_
            refine ct_R hP hD0 [(mo, .inr (12, [.int s0, .int s1, .long t2, .int s3, .int s4, .ref g5, .ref g6, .ref g7, .ref g8, .ref g9, .ref g10, .int s11, .ref g12, .ref g13, .ref g14, .ref g15, .ref g16, .ref g17, .ref g18, .ref g19, .ref g20, .int s21, .ref g22, .ref g23, .ref g24, .int s25, .int s26, .int s27, .int s28, .ref g29, .ref g30, .ref g31, .ref g32, .ref g33])), (g5, .inl (cy 0, 40, .inl f5)), (g8, .inl (cy 0, 40, .inl f8))] [0, 1, 4] (by decide) rfl (fun hPc hDw => ?_)
            have hFc := va_free (wc := []) hD hS hA [] rfl
            refine va_calli (va_runV (As := [.int a1, .int 0]) (rest := []) ⟨hx, hb, hml, hown, hts⟩ (c_X12_room l D cy s.heap.size mo g5 g6 g7 g8 g9 g10 g12 g13 g14 g15 g16 g17 g18 g19 g20 g22 g23 g24 g29 g30 g31 g32 g33 s0 s1 s3 s4 s11 s21 s25 s26 s27 s28 t2 f5 f8 a1 (0 : Int32) (by first | with_reducible assumption | assumption | omega)) (cwV 2 hts gX12_left_X12_room rfl rfl rfl (by decide +kernel) ⟨Nat.le_of_ble_eq_true rfl, Nat.le_of_ble_eq_true rfl⟩) ⟨bl_, va_recvX hK.1 hP (ci := 12) (q0 := 0) rfl rfl, fun U hU hW => ⟨rfl, by rw [hU], by rw [hU]; exact hPc, kk_mv hW hK, hDw⟩⟩ rfl rfl hl.1 rfl (lv_room (Nat.le_of_ble_eq_true rfl)) dX12_left_70 ⟨Nat.le_of_ble_eq_true rfl, Nat.le_of_ble_eq_true rfl⟩) hS (fun q _ h => hFc q h) hFc (fun r_26 u t H locs ht hvm hw hB hz1 hk1 hS => ?_)
            have hP : va_P D vwCl _ H := ro_keep hP hk1
            have f0_r_26 := hw
            have rI_2 := room_I (r := r_26) (by assumption) (by omega) (by omega) (r_f8 _ (in_lt (in_I (by omega) (by omega))))
            refine lv_aload_n hx hb dX12_left_73 rfl (lv_at hl 0 rfl) ?_
            refine va_get (ci := 12) (v := .ref g22) (C := RX12) (T := TX12) (N := 34) hx hb hts (fun _ h => List.mem_cons_of_mem _ (List.mem_append_right _ h)) hown hK.1 hP 0 rfl rfl 22 (by decide) (hts (.fieldLink RX12 61 "CutAtlasModel" "flows" "[I") (by decide +kernel)) (fun _ h9 => h9) rfl dX12_left_74 ?_
            refine lv_iload_n hx hb dX12_left_77 rfl (lv_at hl 1 rfl) ?_
            have h_27 : vp_in a1 40 := in_I (by omega) (by omega)
            refine va_iald hx hb hK.1 hP 6 0 rfl rfl (i := a1) h_27 dX12_left_78 ?_
            refine lv_topi (fun y_28 ey_28 => ?_)
            have ky_28 : y_28.toInt = (f22 a1.toNatClampNeg).toInt := by rw [ey_28]
            refine lv_iadd hx hb dX12_left_79 ?_
            refine lv_topi (fun y_29 ey_29 => ?_)
            have ty_29 : y_29.toInt = r_26.toInt + y_28.toInt := by rw [ey_29]; exact addI (by omega) (by omega)
            refine lv_goto (tgt := 84) hx hb dX12_left_80 (by decide) ?_
            rw [hQ]
            exact W.iret (v := y_29) hx hb hr (fun t ht hW => ⟨⟨y_29, (), rfl, (by unfold lfI; (repeat' split) <;> omega), trivial⟩, hS.F ht⟩) hS.2.2 dX12_left_84
      · have t_19 : y_18.toInt = a3.toInt := congrArg Int32.toInt c_19
        refine lv_aload_n hx hb dX12_left_31 rfl (lv_at hl 0 rfl) ?_
        refine lv_iload_n hx hb dX12_left_32 rfl (lv_at hl 1 rfl) ?_
        refine lv_iconst (v := 1) hx hb dX12_left_33 (by decide) ?_
        refine ct_R hP hD0 [(mo, .inr (12, [.int s0, .int s1, .long t2, .int s3, .int s4, .ref g5, .ref g6, .ref g7, .ref g8, .ref g9, .ref g10, .int s11, .ref g12, .ref g13, .ref g14, .ref g15, .ref g16, .ref g17, .ref g18, .ref g19, .ref g20, .int s21, .ref g22, .ref g23, .ref g24, .int s25, .int s26, .int s27, .int s28, .ref g29, .ref g30, .ref g31, .ref g32, .ref g33])), (g5, .inl (cy 0, 40, .inl f5)), (g8, .inl (cy 0, 40, .inl f8))] [0, 1, 4] (by decide) rfl (fun hPc hDw => ?_)
        have hFc := va_free (wc := []) hD hS hA [] rfl
        refine va_calli (va_runV (As := [.int a1, .int 1]) (rest := []) ⟨hx, hb, hml, hown, hts⟩ (c_X12_room l D cy s.heap.size mo g5 g6 g7 g8 g9 g10 g12 g13 g14 g15 g16 g17 g18 g19 g20 g22 g23 g24 g29 g30 g31 g32 g33 s0 s1 s3 s4 s11 s21 s25 s26 s27 s28 t2 f5 f8 a1 (1 : Int32) (by first | with_reducible assumption | assumption | omega)) (cwV 2 hts gX12_left_X12_room rfl rfl rfl (by decide +kernel) ⟨Nat.le_of_ble_eq_true rfl, Nat.le_of_ble_eq_true rfl⟩) ⟨bl_, va_recvX hK.1 hP (ci := 12) (q0 := 0) rfl rfl, fun U hU hW => ⟨rfl, by rw [hU], by rw [hU]; exact hPc, kk_mv hW hK, hDw⟩⟩ rfl rfl hl.1 rfl (lv_room (Nat.le_of_ble_eq_true rfl)) dX12_left_34 ⟨Nat.le_of_ble_eq_true rfl, Nat.le_of_ble_eq_true rfl⟩) hS (fun q _ h => hFc q h) hFc (fun r_30 u t H locs ht hvm hw hB hz1 hk1 hS => ?_)
        have hP : va_P D vwCl _ H := ro_keep hP hk1
        have f0_r_30 := hw
        have rI_1 := room_I (r := r_30) (by assumption) (by omega) (by omega) (r_f8 _ (in_lt (in_I (by omega) (by omega))))
        refine lv_aload_n hx hb dX12_left_37 rfl (lv_at hl 0 rfl) ?_
        refine va_get (ci := 12) (v := .ref g22) (C := RX12) (T := TX12) (N := 34) hx hb hts (fun _ h => List.mem_cons_of_mem _ (List.mem_append_right _ h)) hown hK.1 hP 0 rfl rfl 22 (by decide) (hts (.fieldLink RX12 61 "CutAtlasModel" "flows" "[I") (by decide +kernel)) (fun _ h9 => h9) rfl dX12_left_38 ?_
        refine lv_iload_n hx hb dX12_left_41 rfl (lv_at hl 1 rfl) ?_
        have h_31 : vp_in a1 40 := in_I (by omega) (by omega)
        refine va_iald hx hb hK.1 hP 6 0 rfl rfl (i := a1) h_31 dX12_left_42 ?_
        refine lv_topi (fun y_32 ey_32 => ?_)
        have ky_32 : y_32.toInt = (f22 a1.toNatClampNeg).toInt := by rw [ey_32]
        refine lv_isub hx hb dX12_left_43 ?_
        refine lv_topi (fun y_33 ey_33 => ?_)
        have ty_33 : y_33.toInt = r_30.toInt - y_32.toInt := by rw [ey_33]; exact subI (by omega) (by omega)
        refine lv_goto (tgt := 84) hx hb dX12_left_44 (by decide) ?_
        rw [hQ]
        exact W.iret (v := y_33) hx hb hr (fun t ht hW => ⟨⟨y_33, (), rfl, (by unfold lfI; (repeat' split) <;> omega), trivial⟩, hS.F ht⟩) hS.2.2 dX12_left_84
  · have t_3 : ¬ y_2.toInt = (0 : Int32).toInt := fun h => c_3 (Int32.toInt_inj.mp h)
    refine lv_iconst (v := 0) hx hb dX12_left_9 (by decide) ?_
    rw [hQ]
    exact W.iret (v := 0) hx hb hr (fun t ht hW => ⟨⟨0, (), rfl, (by unfold lfI; (repeat' split) <;> omega), trivial⟩, hS.F ht⟩) hS.2.2 dX12_left_10

set_option maxHeartbeats 4000000 in
set_option maxRecDepth 100000 in
theorem c_X12_leftOf (l : Launch) (D : va_G) (cy : Nat → ClassId) (sz : Nat) (mo : Nat) (g5 : Nat) (g6 : Nat) (g7 : Nat) (g8 : Nat) (g9 : Nat) (g10 : Nat) (g12 : Nat) (g13 : Nat) (g14 : Nat) (g15 : Nat) (g16 : Nat) (g17 : Nat) (g18 : Nat) (g19 : Nat) (g20 : Nat) (g22 : Nat) (g23 : Nat) (g24 : Nat) (g29 : Nat) (g30 : Nat) (g31 : Nat) (g32 : Nat) (g33 : Nat) (s0 : Int32) (s1 : Int32) (s3 : Int32) (s4 : Int32) (s11 : Int32) (s21 : Int32) (s25 : Int32) (s26 : Int32) (s27 : Int32) (s28 : Int32) (t2 : Int64) (f5 : Nat → Int32) (f6 : Nat → Int32) (f7 : Nat → Int32) (f8 : Nat → Int32) (f10 : Nat → Int32) (f22 : Nat → Int32) (a1 : Int32) (a2 : Int32) (hN : 0 ≤ s4.toInt ∧ s4.toInt ≤ 40) (h21 : s21.toInt = -9) (hfl : flOK f5 f8 f22) (r_f8 : rng f8 40 (0) (2000)) : Met l yX12_leftOf wsX12_leftOf ({ frames := 3, cells := 0, slots := 0, locals := 69 }) (va_Pc [.ref mo, .int a1, .int a2] (fun U => U.heap.size = sz ∧ va_P D vwCl [(mo, .inr (12, [.int s0, .int s1, .long t2, .int s3, .int s4, .ref g5, .ref g6, .ref g7, .ref g8, .ref g9, .ref g10, .int s11, .ref g12, .ref g13, .ref g14, .ref g15, .ref g16, .ref g17, .ref g18, .ref g19, .ref g20, .int s21, .ref g22, .ref g23, .ref g24, .int s25, .int s26, .int s27, .int s28, .ref g29, .ref g30, .ref g31, .ref g32, .ref g33])), (g5, .inl (cy 0, 40, .inl f5)), (g6, .inl (cy 0, 40, .inl f6)), (g7, .inl (cy 0, 40, .inl f7)), (g8, .inl (cy 0, 40, .inl f8)), (g10, .inl (cy 2, 40, .inl f10)), (g22, .inl (cy 0, 40, .inl f22))] U.heap ∧ kk_ D cy U ∧ va_D (fun _ => True) [(mo, .inr (12, [.int s0, .int s1, .long t2, .int s3, .int s4, .ref g5, .ref g6, .ref g7, .ref g8, .ref g9, .ref g10, .int s11, .ref g12, .ref g13, .ref g14, .ref g15, .ref g16, .ref g17, .ref g18, .ref g19, .ref g20, .int s21, .ref g22, .ref g23, .ref g24, .int s25, .int s26, .int s27, .int s28, .ref g29, .ref g30, .ref g31, .ref g32, .ref g33])), (g5, .inl (cy 0, 40, .inl f5)), (g6, .inl (cy 0, 40, .inl f6)), (g7, .inl (cy 0, 40, .inl f7)), (g8, .inl (cy 0, 40, .inl f8)), (g10, .inl (cy 2, 40, .inl f10)), (g22, .inl (cy 0, 40, .inl f22))])) (va_Qi (fun (r : Int32) (_ : Unit) => (r.toInt = sumI (lfI f5 f6 f7 f8 f10 f22 a1.toInt a2.toInt) s4.toNatClampNeg) ∧ (0 ≤ r.toInt)) (fun (_ : Unit) (_ : State) => True) (va_A [] sz)) 0 0 (va_A [] sz) := by
  refine ofQ (cc := cX12_leftOf) (maxL := 5) (ret := (some .int)) (by decide) rfl ?_
  intro p e s m args below meth c s₁ Q hQ B hml hv
  obtain ⟨rfl, hsz, hP, hK, hD0⟩ := hv
  have hx := B.exec
  have hb := B.bytes
  have hr := B.returns
  have hts := atoms_spec (ws := wsX12_leftOf) B.pre
  have hown : s.vm.findClass RX12 = some m.cls := by have h_ := findClass_of_methodNamed B.named; exact h_
  have hlocks := B.notSynchronized
  subst hsz
  have hD : va_D (va_A [] s.heap.size) [] := dd_nil
  generalize hAe : va_A [] s.heap.size = A at hD hQ
  have hA : ∀ q : Nat, s.heap.size ≤ q → A q := fun q h => by rw [← hAe]; exact Or.inr h
  have hS : va_S A s.heap s.heap [] := va_S.rf
  have hl := lv_entry ([.ref mo, .int a1, .int a2]) (n := 5) (Nat.le_of_ble_eq_true rfl)
  rw [lg_entry_eq]
  generalize (lg_sl ([.ref mo, .int a1, .int a2]) ++ List.replicate (5 - (lg_sl ([.ref mo, .int a1, .int a2])).length) Slot.unset).toArray = ls at hl ⊢
  have hl : lv_has ls 5 [(0, .ref mo), (1, .int a1), (2, .int a2)] := hl
  have z0 : (0 : Int32).toInt = 0 := by decide
  have z1 : (1 : Int32).toInt = 1 := by decide
  refine lv_iconst (v := 0) hx hb dX12_leftOf_0 (by decide) ?_
  refine lv_istore_n (lv' := [(3, .int 0), (0, .ref mo), (1, .int a1), (2, .int a2)]) hx hb dX12_leftOf_1 rfl hl (by decide) rfl (fun ls hl => ?_)
  refine lv_iconst (v := 0) hx hb dX12_leftOf_2 (by decide) ?_
  refine lv_istore (lv' := [(4, .int 0), (3, .int 0), (0, .ref mo), (1, .int a1), (2, .int a2)]) hx hb dX12_leftOf_3 hl (by decide) rfl (fun ls hl => ?_)
  suffices LOOP_1 : ∀ (n_1 : Nat) (x4_1 : Int32) (x3_1 : Int32) (H : Heap) (locs : List Loc) (ls : Array Slot), s4.toInt - x4_1.toInt < (n_1 : Int) → (0 ≤ x4_1.toInt) → (x4_1.toInt ≤ s4.toInt) → (x3_1.toInt = sumI (lfI f5 f6 f7 f8 f10 f22 a1.toInt a2.toInt) x4_1.toNatClampNeg) → (0 ≤ x3_1.toInt ∧ x3_1.toInt ≤ 2000000 * x4_1.toInt) → va_P D vwCl [(mo, .inr (12, [.int s0, .int s1, .long t2, .int s3, .int s4, .ref g5, .ref g6, .ref g7, .ref g8, .ref g9, .ref g10, .int s11, .ref g12, .ref g13, .ref g14, .ref g15, .ref g16, .ref g17, .ref g18, .ref g19, .ref g20, .int s21, .ref g22, .ref g23, .ref g24, .int s25, .int s26, .int s27, .int s28, .ref g29, .ref g30, .ref g31, .ref g32, .ref g33])), (g5, .inl (cy 0, 40, .inl f5)), (g6, .inl (cy 0, 40, .inl f6)), (g7, .inl (cy 0, 40, .inl f7)), (g8, .inl (cy 0, 40, .inl f8)), (g10, .inl (cy 2, 40, .inl f10)), (g22, .inl (cy 0, 40, .inl f22))] H → va_S A s.heap H locs → lv_has ls 5 [(4, .int x4_1), (3, .int x3_1), (0, .ref mo), (1, .int a1), (2, .int a2)] → W p l e ({ frames := 3, cells := 0, slots := 0, locals := 69 } : Room) s m (([.ref mo, .int a1, .int a2] : List Value).toArray) below meth c H locs 0 0 Q (F0 m 5 ls []) from LOOP_1 ((s4.toInt - (0 : Int32).toInt).toNat + 1) (0 : Int32) (0 : Int32) _ _ _ (by omega) (by first | with_reducible assumption | assumption | omega) (by first | with_reducible assumption | assumption | omega) (by first | exact sum_st (by assumption) (by assumption) (by omega) (by omega) (by omega) | rfl) (by first | with_reducible assumption | assumption | omega) hP  hS (lv_sub hl [0, 1, 2, 3, 4] rfl)
  intro n_1
  induction n_1 with
  | zero =>
    intro x4_1 x3_1 H locs ls hm v0_1 v1_1 v2_1 v3_1 hP hS hl
    exact absurd hm (by omega)
  | succ n_1 ih_1 =>
    intro x4_1 x3_1 H locs ls hm v0_1 v1_1 v2_1 v3_1 hP hS hl
    refine lv_iload hx hb dX12_leftOf_5 (lv_at hl 0 rfl) ?_
    refine lv_aload_n hx hb dX12_leftOf_7 rfl (lv_at hl 2 rfl) ?_
    refine va_get (ci := 12) (v := .int s4) (C := RX12) (T := TX12) (N := 34) hx hb hts (fun _ h => List.mem_cons_of_mem _ (List.mem_append_right _ h)) hown hK.1 hP 0 rfl rfl 4 (by decide) (hts (.fieldLink RX12 95 "CutAtlasModel" "lines" "I") (by decide +kernel)) (fun _ h9 => h9) rfl dX12_leftOf_8 ?_
    refine lv_icmp_ge (tgt := 31) hx hb dX12_leftOf_11 (by decide) (fun c_2 => ?_) (fun c_2 => ?_)
    · have t_2 : s4.toInt ≤ x4_1.toInt := Int32.le_iff_toInt_le.mp c_2
      refine lv_iload_n hx hb dX12_leftOf_31 rfl (lv_at hl 1 rfl) ?_
      rw [hQ]
      exact W.iret (v := x3_1) hx hb hr (fun t ht hW => ⟨⟨x3_1, (), rfl, ⟨by first | with_reducible assumption | assumption | (have e_ := Int32.toInt_inj.mp (show x4_1.toInt = s4.toInt by omega); subst e_; assumption), by omega⟩, trivial⟩, hS.F ht⟩) hS.2.2 dX12_leftOf_32
    · have t_2 : ¬ s4.toInt ≤ x4_1.toInt := fun h => c_2 (Int32.le_iff_toInt_le.mpr h)
      refine lv_iload_n hx hb dX12_leftOf_14 rfl (lv_at hl 1 rfl) ?_
      refine lv_aload_n hx hb dX12_leftOf_15 rfl (lv_at hl 2 rfl) ?_
      refine lv_iload hx hb dX12_leftOf_16 (lv_at hl 0 rfl) ?_
      refine lv_iload_n hx hb dX12_leftOf_18 rfl (lv_at hl 3 rfl) ?_
      refine lv_iload_n hx hb dX12_leftOf_19 rfl (lv_at hl 4 rfl) ?_
      refine ct_R hP hD0 [(mo, .inr (12, [.int s0, .int s1, .long t2, .int s3, .int s4, .ref g5, .ref g6, .ref g7, .ref g8, .ref g9, .ref g10, .int s11, .ref g12, .ref g13, .ref g14, .ref g15, .ref g16, .ref g17, .ref g18, .ref g19, .ref g20, .int s21, .ref g22, .ref g23, .ref g24, .int s25, .int s26, .int s27, .int s28, .ref g29, .ref g30, .ref g31, .ref g32, .ref g33])), (g5, .inl (cy 0, 40, .inl f5)), (g6, .inl (cy 0, 40, .inl f6)), (g7, .inl (cy 0, 40, .inl f7)), (g8, .inl (cy 0, 40, .inl f8)), (g10, .inl (cy 2, 40, .inl f10)), (g22, .inl (cy 0, 40, .inl f22))] [0, 1, 2, 3, 4, 5, 6] (by decide) rfl (fun hPc hDw => ?_)
      have hFc := va_free (wc := []) hD hS hA [] rfl
      refine va_calli (va_runV (As := [.int x4_1, .int a1, .int a2]) (rest := [.int x3_1]) ⟨hx, hb, hml, hown, hts⟩ (c_X12_left l D cy H.size mo g5 g6 g7 g8 g9 g10 g12 g13 g14 g15 g16 g17 g18 g19 g20 g22 g23 g24 g29 g30 g31 g32 g33 s0 s1 s3 s4 s11 s21 s25 s26 s27 s28 t2 f5 f6 f7 f8 f10 f22 x4_1 a1 a2 (by first | with_reducible assumption | assumption | omega) (by first | with_reducible assumption | assumption | omega) (by first | with_reducible assumption | assumption | omega) (by first | with_reducible assumption | assumption | omega)) (cwV 3 hts gX12_leftOf_X12_left rfl rfl rfl (by decide +kernel) ⟨Nat.le_of_ble_eq_true rfl, Nat.le_of_ble_eq_true rfl⟩) ⟨bl_, va_recvX hK.1 hP (ci := 12) (q0 := 0) rfl rfl, fun U hU hW => ⟨rfl, by rw [hU], by rw [hU]; exact hPc, kk_mv hW hK, hDw⟩⟩ rfl rfl hl.1 rfl (lv_room (Nat.le_of_ble_eq_true rfl)) dX12_leftOf_20 ⟨Nat.le_of_ble_eq_true rfl, Nat.le_of_ble_eq_true rfl⟩) hS (fun q _ h => hFc q h) hFc (fun r_3 u t H locs ht hvm hw hB hz1 hk1 hS => ?_)
      have hP : va_P D vwCl _ H := ro_keep hP hk1
      have f0_r_3 := hw
      have rg_ := lfI_rng (f6 := f6) (f7 := f7) (f10 := f10) hfl r_f8 (j := x4_1.toNatClampNeg) (in_lt (in_I (n := 40) (by omega) (by omega))) a1.toInt a2.toInt
      refine lv_iadd hx hb dX12_leftOf_23 ?_
      refine lv_topi (fun y_4 ey_4 => ?_)
      have ty_4 : y_4.toInt = x3_1.toInt + r_3.toInt := by rw [ey_4]; exact addI (by omega) (by omega)
      refine lv_istore_n (lv' := [(3, .int y_4), (4, .int x4_1), (0, .ref mo), (1, .int a1), (2, .int a2)]) hx hb dX12_leftOf_24 rfl hl (by decide) rfl (fun ls hl => ?_)
      obtain ⟨y_5, ey_5⟩ : ∃ y : Int32, y = x4_1 + 1 := ⟨_, rfl⟩
      have ty_5 : y_5.toInt = x4_1.toInt + (1 : Int32).toInt := by rw [ey_5]; exact addI (by omega) (by omega)
      refine lv_iinc (v := y_5) (lv' := [(4, .int y_5), (3, .int y_4), (0, .ref mo), (1, .int a1), (2, .int a2)]) hx hb dX12_leftOf_25 hl (k := 1) rfl (by rw [ey_5]; rfl) (by decide) rfl (fun ls hl => ?_)
      refine lv_goto (tgt := 5) hx hb dX12_leftOf_28 (by decide) ?_
      exact ih_1 y_5 y_4 _ _ _ (by omega) (by first | with_reducible assumption | assumption | omega) (by first | with_reducible assumption | assumption | omega) (by first | exact sum_st (by assumption) (by assumption) (by omega) (by omega) (by omega) | rfl) (by first | with_reducible assumption | assumption | omega) hP  hS (lv_sub hl [0, 1, 2, 3, 4] rfl)
