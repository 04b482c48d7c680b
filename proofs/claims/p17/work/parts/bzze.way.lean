section
set_option maxHeartbeats 4000000 in
set_option maxRecDepth 100000 in
theorem c_X10_roomOfWay2 (l : Launch) (D : va_G) (cy : Nat → ClassId) (sz : Nat) (xw : Nat) (wpo : Nat) (wc : Nat) (wf : Nat) (xc : Nat) (xk : Nat) (clo : Nat) (cro : Nat) (c4 : Nat) (c5 : Nat) (c6 : Nat) (c7 : Nat) (c8 : Nat) (xn : Nat) (n1 : Nat) (n2 : Nat) (n3 : Nat) (n4 : Nat) (n5 : Nat) (vp : Int32) (vn : Int32) (rr : Nat → Nat) (Mr : Nat → Nat → Int32) (ff : Nat → Int32) (a1 : Int32) (a2 : Int32) (a3 : Int32) (hvp : 0 ≤ vp.toInt ∧ vp.toInt ≤ 12) (q1 : 0 ≤ a1.toInt ∧ a1.toInt < vp.toInt) (q2 : 0 ≤ a2.toInt ∧ a2.toInt < vp.toInt) (hmb : ∀ x y : Nat, x < vp.toNatClampNeg → y < vp.toNatClampNeg → -200000000 ≤ zM Mr x y ∧ zM Mr x y ≤ 200000000) (hch : ∃ R : Nat, chQ ff a1.toNatClampNeg a2.toNatClampNeg R vp.toNatClampNeg) (q3 : 1 ≤ a3.toInt) (r_ff : rng ff 12 (0) (11)) : Met l yX10_roomOfWay wsX10_roomOfWay ({ frames := 1, cells := 0, slots := 0, locals := 22 }) (va_Pc [.ref xw, .int a1, .int a2, .int a3] (fun U => U.heap.size = sz ∧ va_P D vwCl [ob10_0_ xw xc xk wpo wc wf, ob0_0_ xc xn xk clo cro c4 c5 c6 c7 c8, ob3_0_ xn vp vn n1 n2 n3 n4 n5, aq_ cy 6 cro 12 (gf_ rr), ai_ cy (rr 0) 12 (Mr 0), ai_ cy (rr 1) 12 (Mr 1), ai_ cy (rr 2) 12 (Mr 2), ai_ cy (rr 3) 12 (Mr 3), ai_ cy (rr 4) 12 (Mr 4), ai_ cy (rr 5) 12 (Mr 5), ai_ cy (rr 6) 12 (Mr 6), ai_ cy (rr 7) 12 (Mr 7), ai_ cy (rr 8) 12 (Mr 8), ai_ cy (rr 9) 12 (Mr 9), ai_ cy (rr 10) 12 (Mr 10), ai_ cy (rr 11) 12 (Mr 11), ai_ cy wf 12 ff] U.heap ∧ kg_ D cy U ∧ va_D (fun _ => True) [ob10_0_ xw xc xk wpo wc wf, ob0_0_ xc xn xk clo cro c4 c5 c6 c7 c8, ob3_0_ xn vp vn n1 n2 n3 n4 n5, aq_ cy 6 cro 12 (gf_ rr), ai_ cy (rr 0) 12 (Mr 0), ai_ cy (rr 1) 12 (Mr 1), ai_ cy (rr 2) 12 (Mr 2), ai_ cy (rr 3) 12 (Mr 3), ai_ cy (rr 4) 12 (Mr 4), ai_ cy (rr 5) 12 (Mr 5), ai_ cy (rr 6) 12 (Mr 6), ai_ cy (rr 7) 12 (Mr 7), ai_ cy (rr 8) 12 (Mr 8), ai_ cy (rr 9) 12 (Mr 9), ai_ cy (rr 10) 12 (Mr 10), ai_ cy (rr 11) 12 (Mr 11), ai_ cy wf 12 ff])) (va_Qi (fun (r : Int32) (_ : Unit) => (1 ≤ r.toInt ∧ r.toInt ≤ a3.toInt) ∧ (∃ R : Nat, chQ ff a1.toNatClampNeg a2.toNatClampNeg R vp.toNatClampNeg ∧ rwZ (zM Mr) ff a2.toNatClampNeg R r.toInt)) (fun (_ : Unit) (_ : State) => True) (va_A [] sz)) 0 0 (va_A [] sz) := by
  refine ofQ (cc := cX10_roomOfWay) (maxL := 7) (ret := (some .int)) (by decide) rfl ?_
  intro p e s m args below meth c s₁ Q hQ B hml hv
  obtain ⟨rfl, hsz, hP, hK, hD0⟩ := hv
  have hG := hK.2
  have hK := hK.1
  have hx := B.exec
  have hb := B.bytes
  have hr := B.returns
  have hts := atoms_spec (ws := wsX10_roomOfWay) B.pre
  have hown : s.vm.findClass RX10 = some m.cls := by have h_ := findClass_of_methodNamed B.named; exact h_
  have hlocks := B.notSynchronized
  subst hsz
  have hD : va_D (va_A [] s.heap.size) [] := dd_nil
  generalize hAe : va_A [] s.heap.size = A at hD hQ
  have hA : ∀ q : Nat, s.heap.size ≤ q → A q := fun q h => by rw [← hAe]; exact Or.inr h
  have hS : va_S A s.heap s.heap [] := va_S.rf
  have hl := lv_entry ([.ref xw, .int a1, .int a2, .int a3]) (n := 7) (Nat.le_of_ble_eq_true rfl)
  rw [lg_entry_eq]
  generalize (lg_sl ([.ref xw, .int a1, .int a2, .int a3]) ++ List.replicate (7 - (lg_sl ([.ref xw, .int a1, .int a2, .int a3])).length) Slot.unset).toArray = ls at hl ⊢
  have hl : lv_has ls 7 [(0, .ref xw), (1, .int a1), (2, .int a2), (3, .int a3)] := hl
  have z0 : (0 : Int32).toInt = 0 := by decide
  have z1 : (1 : Int32).toInt = 1 := by decide
  have z12 : (12 : Int32).toInt = 12 := by decide
  have zq0 : (0 : Int32).toInt = 0 := by decide
  have zq1 : (1 : Int32).toInt = 1 := by decide
  have zqv : (1000000000 : Int32).toInt = 1000000000 := by decide
  obtain ⟨R_, hR_⟩ := hch
  have hR11_ := hR_.1
  have cP_ := clI (i := vp) (by omega)
  refine lv_iload_n hx hb dB_36_2_18.1.1.1.1 rfl (lv_at hl 3 rfl) ?_
  refine lv_istore (lv' := [(4, .int a3), (0, .ref xw), (1, .int a1), (2, .int a2), (3, .int a3)]) hx hb dB_36_2_18.1.1.1.2 hl (by decide) rfl (fun ls hl => ?_)
  refine lv_iload_n hx hb dB_36_2_18.1.1.2.1 rfl (lv_at hl 3 rfl) ?_
  refine lv_istore (lv' := [(5, .int a2), (4, .int a3), (0, .ref xw), (1, .int a1), (2, .int a2), (3, .int a3)]) hx hb dB_36_2_18.1.1.2.2 hl (by decide) rfl (fun ls hl => ?_)
  refine lv_iconst (v := 0) hx hb dB_36_2_18.1.2.1.1 (by decide) ?_
  refine lv_istore (lv' := [(6, .int 0), (5, .int a2), (4, .int a3), (0, .ref xw), (1, .int a1), (2, .int a2), (3, .int a3)]) hx hb dB_36_2_18.1.2.1.2 hl (by decide) rfl (fun ls hl => ?_)
  suffices LOOP_1 : ∀ (n_1 : Nat) (x6_1 : Int32) (x5_1 : Int32) (x4_1 : Int32) (H : Heap) (locs : List Loc) (ls : Array Slot), 12 - x6_1.toInt < (n_1 : Int) → (0 ≤ x5_1.toInt ∧ x5_1.toInt < vp.toInt) → (0 ≤ x6_1.toInt) → (x6_1.toInt ≤ 12) → (1 ≤ x4_1.toInt ∧ x4_1.toInt ≤ a3.toInt) → (atC ff a2.toNatClampNeg R_ x6_1.toNatClampNeg x5_1.toNatClampNeg) → (rwZ (zM Mr) ff a2.toNatClampNeg x6_1.toNatClampNeg x4_1.toInt) → va_P D vwCl [ob10_0_ xw xc xk wpo wc wf, ob0_0_ xc xn xk clo cro c4 c5 c6 c7 c8, ob3_0_ xn vp vn n1 n2 n3 n4 n5, aq_ cy 6 cro 12 (gf_ rr), ai_ cy (rr 0) 12 (Mr 0), ai_ cy (rr 1) 12 (Mr 1), ai_ cy (rr 2) 12 (Mr 2), ai_ cy (rr 3) 12 (Mr 3), ai_ cy (rr 4) 12 (Mr 4), ai_ cy (rr 5) 12 (Mr 5), ai_ cy (rr 6) 12 (Mr 6), ai_ cy (rr 7) 12 (Mr 7), ai_ cy (rr 8) 12 (Mr 8), ai_ cy (rr 9) 12 (Mr 9), ai_ cy (rr 10) 12 (Mr 10), ai_ cy (rr 11) 12 (Mr 11), ai_ cy wf 12 ff] H → va_S A s.heap H locs → lv_has ls 7 [(6, .int x6_1), (5, .int x5_1), (4, .int x4_1), (0, .ref xw), (1, .int a1), (2, .int a2), (3, .int a3)] → W p l e ({ frames := 1, cells := 0, slots := 0, locals := 22 } : Room) s m (([.ref xw, .int a1, .int a2, .int a3] : List Value).toArray) below meth c H locs 0 0 Q (F0 m 9 ls []) from LOOP_1 ((12 - (0 : Int32).toInt).toNat + 1) (0 : Int32) a2 a3 _ _ _ (by omega) (by first | with_reducible assumption | omega | assumption) (by first | with_reducible assumption | omega | assumption) (by first | with_reducible assumption | omega | assumption) (by first | with_reducible assumption | omega | assumption) (by first | exact atC_0 | exact atC_st v_none hR_ (by omega) hyn_ S[ex] (by omega)) (by first | exact rwZ_0 | exact rwZ_st v_none v_none (by omega) S[ex] (by omega) (by omega) (by omega)) hP hS (lv_sub hl [0, 1, 2, 3, 4, 5, 6] rfl)
  intro n_1
  induction n_1 with
  | zero =>
    intro x6_1 x5_1 x4_1 H locs ls hm v0_1 v1_1 v2_1 v3_1 v4_1 v5_1 hP hS hl
    exact absurd hm (by omega)
  | succ n_1 ih_1 =>
    intro x6_1 x5_1 x4_1 H locs ls hm v0_1 v1_1 v2_1 v3_1 v4_1 v5_1 hP hS hl
    refine lv_iload hx hb dB_36_2_18.1.2.2.1 (lv_at hl 0 rfl) ?_
    refine lv_bipush (v := 12) hx hb dB_36_2_18.1.2.2.2 (by decide) ?_
    refine lv_icmp_ge (tgt := 57) hx hb dB_36_2_18.2.1.1.1 (by decide) (fun c_2 => ?_) (fun c_2 => ?_)
    · have t_2 : (12 : Int32).toInt ≤ x6_1.toInt := Int32.le_iff_toInt_le.mp c_2
      have hn6_ : x5_1.toInt = a1.toInt := by first | omega | (exfalso; have h_ := v4_1.1; have c_ := clI (i := x6_1) (by omega); omega)
      have hend_ := atC_end v4_1 hR_ (nc_eq hn6_)
      refine lv_iload hx hb dB_36_2_19.2.2.2.1 (lv_at hl 2 rfl) ?_
      rw [hQ]
      exact W.iret (v := x4_1) hx hb hr (fun t ht hW => ⟨⟨x4_1, (), rfl, ⟨by omega, ⟨R_, hR_, by have h_ := v5_1; rw [hend_] at h_; exact h_⟩⟩, trivial⟩, hS.F ht⟩) hS.2.2 dB_36_2_19.2.2.2.2
    · have t_2 : ¬ (12 : Int32).toInt ≤ x6_1.toInt := fun h => c_2 (Int32.le_iff_toInt_le.mpr h)
      refine lv_iload hx hb dB_36_2_18.2.1.1.2 (lv_at hl 1 rfl) ?_
      refine lv_iload_n hx hb dB_36_2_18.2.1.2.1 rfl (lv_at hl 4 rfl) ?_
      refine lv_icmp_eq (tgt := 57) hx hb dB_36_2_18.2.1.2.2 (by decide) (fun c_3 => ?_) (fun c_3 => ?_)
      · have t_3 : x5_1.toInt = a1.toInt := congrArg Int32.toInt c_3
        have hn6_ : x5_1.toInt = a1.toInt := by first | omega | (exfalso; have h_ := v4_1.1; have c_ := clI (i := x6_1) (by omega); omega)
        have hend_ := atC_end v4_1 hR_ (nc_eq hn6_)
        refine lv_iload hx hb dB_36_2_19.2.2.2.1 (lv_at hl 2 rfl) ?_
        rw [hQ]
        exact W.iret (v := x4_1) hx hb hr (fun t ht hW => ⟨⟨x4_1, (), rfl, ⟨by omega, ⟨R_, hR_, by have h_ := v5_1; rw [hend_] at h_; exact h_⟩⟩, trivial⟩, hS.F ht⟩) hS.2.2 dB_36_2_19.2.2.2.2
      · have t_3 : ¬ x5_1.toInt = a1.toInt := fun h => c_3 (Int32.toInt_inj.mp h)
        have hyn_ : x5_1.toNatClampNeg ≠ a1.toNatClampNeg := nc_ne (x := x5_1) (y := a1) (by omega) (by omega) (by omega)
        have hat_ := atC_P v4_1 hR_ hyn_
        refine lv_iload hx hb dB_36_2_18.2.2.1.1 (lv_at hl 2 rfl) ?_
        refine lv_aload_n hx hb dB_36_2_18.2.2.1.2 rfl (lv_at hl 3 rfl) ?_
        refine lv_aload_n hx hb dB_36_2_18.2.2.2.1 rfl (lv_at hl 3 rfl) ?_
        refine va_get (ci := 10) (v := .ref wf) (C := RX10) (T := TX10) (N := 5) hx hb hts (fun _ h => List.mem_cons_of_mem _ (List.mem_append_left _ (List.mem_append_right _ h))) hown hK.1 hP 0 rfl rfl 4 (by decide) (hts (.fieldLink RX10 20 "CutAtlas$Widening" "cameFrom" "[I") (List.mem_of_getElem? (i := 1) rfl)) (fun _ h9 => h9) rfl dB_36_2_18.2.2.2.2 ?_
        refine lv_iload hx hb dB_36_2_19.1.1.1 (lv_at hl 1 rfl) ?_
        have h_4 : vp_in x5_1 12 := in_I (by first | with_reducible assumption | omega) (by omega)
        refine va_iald hx hb hK.1 hP 16 0 rfl rfl (i := x5_1) h_4 dB_36_2_19.1.1.2.1 ?_
        refine lv_topi (fun y_5 ey_5 => ?_)
        have ry_5 : 0 ≤ y_5.toInt ∧ y_5.toInt ≤ 11 := by rw [ey_5]; exact r_ff _ (in_lt h_4)
        have hxc_ : nF ff x5_1.toNatClampNeg = y_5.toNatClampNeg := by rw [ey_5]; rfl
        rw [hxc_] at hat_
        have hcx_ := clI (i := y_5) (by omega)
        refine lv_iload hx hb dB_36_2_19.1.1.2.2 (lv_at hl 1 rfl) ?_
        refine ct_R hP hD0 [ob10_0_ xw xc xk wpo wc wf, ob0_0_ xc xn xk clo cro c4 c5 c6 c7 c8, ob3_0_ xn vp vn n1 n2 n3 n4 n5, aq_ cy 6 cro 12 (gf_ rr), ai_ cy (rr 0) 12 (Mr 0), ai_ cy (rr 1) 12 (Mr 1), ai_ cy (rr 2) 12 (Mr 2), ai_ cy (rr 3) 12 (Mr 3), ai_ cy (rr 4) 12 (Mr 4), ai_ cy (rr 5) 12 (Mr 5), ai_ cy (rr 6) 12 (Mr 6), ai_ cy (rr 7) 12 (Mr 7), ai_ cy (rr 8) 12 (Mr 8), ai_ cy (rr 9) 12 (Mr 9), ai_ cy (rr 10) 12 (Mr 10), ai_ cy (rr 11) 12 (Mr 11)] [0, 1, 2, 3, 4, 5, 6, 7, 8, 9, 10, 11, 12, 13, 14, 15] (by decide +kernel) rfl (fun hPc hDw => ?_)
        have hFc := va_free (wc := []) hD hS hA [] rfl
        refine va_calli (va_runV (As := [.int y_5, .int x5_1]) (rest := [.int x4_1]) ⟨hx, hb, hml, hown, hts⟩ (c_X10_stepRoom2 l D cy H.size xw wpo wc wf xc xk clo cro c4 c5 c6 c7 c8 xn n1 n2 n3 n4 n5 vp vn rr Mr y_5 x5_1 (by first | with_reducible assumption | omega | assumption) (by first | with_reducible assumption | omega | assumption) (by first | with_reducible assumption | omega | assumption) (by first | with_reducible assumption | assumption | omega)) (cwV 2 hts gX10_roomOfWay_X10_stepRoom rfl rfl rfl ⟨rfl, hd_X10_stepRoom⟩ ⟨Nat.le_of_ble_eq_true rfl, Nat.le_of_ble_eq_true rfl⟩) ⟨bl_g, va_recvX hK.1 hP (ci := 10) (q0 := 0) rfl rfl, fun U hU hW => ⟨rfl, by rw [hU], by rw [hU]; exact hPc, ⟨kk_mv hW hK, arrOfT_moved hW.alike hG⟩, hDw⟩⟩ rfl rfl hl.1 rfl (lv_room (Nat.le_of_ble_eq_true rfl)) dB_36_2_19.1.2.1.1 ⟨Nat.le_of_ble_eq_true rfl, Nat.le_of_ble_eq_true rfl⟩) hS (fun q _ h => hFc q h) hFc (fun r_6 u t H locs ht hvm hw hB hz1 hk1 hS => ?_)
        have hP : va_P D vwCl _ H := ro_keep hP hk1
        obtain ⟨f0_r_6, f1_r_6⟩ := hw
        have har_ := f0_r_6
        refine va_mmin hx hb (by rw [hml]; exact hl.1.symm) hown (hts (.methodLink RX10 87 Lib.Math.min.name) (List.mem_of_getElem? (i := 2) rfl)) (hts (.static Lib.Math.min.name) (List.mem_of_getElem? (i := 3) rfl)) (hts (.initialized "java/lang/Math") (List.mem_of_getElem? (i := 4) rfl)) (hts (.code Lib.Math.min.name Lib.Math.min.code 2 (some .int)) (List.mem_of_getElem? (i := 5) rfl)) (Nat.le_of_ble_eq_true rfl) (Nat.le_of_ble_eq_true rfl) (Nat.le_of_ble_eq_true rfl) (Nat.le_of_ble_eq_true rfl) dB_36_2_19.1.2.1.2 ?_
        refine lv_topi (fun y_7 ey_7 => ?_)
        have ty_7 : y_7 = x4_1 ∨ y_7 = r_6 := by rw [ey_7]; split <;> simp
        have iy_7 : y_7.toInt = x4_1.toInt ∨ y_7.toInt = r_6.toInt := by rcases ty_7 with h | h <;> rw [h] <;> simp
        have hmn_ : y_7.toInt ≤ x4_1.toInt ∧ 1 ≤ y_7.toInt ∧ y_7.toInt ≤ arM (zM Mr y_5.toNatClampNeg x5_1.toNatClampNeg) (zM Mr x5_1.toNatClampNeg y_5.toNatClampNeg) := by have h_ := mnI ey_7; unfold loI at h_; split at h_ <;> omega
        refine lv_istore (lv' := [(4, .int y_7), (6, .int x6_1), (5, .int x5_1), (0, .ref xw), (1, .int a1), (2, .int a2), (3, .int a3)]) hx hb dB_36_2_19.1.2.2.1 hl (by decide) rfl (fun ls hl => ?_)
        refine lv_aload_n hx hb dB_36_2_19.1.2.2.2 rfl (lv_at hl 3 rfl) ?_
        refine va_get (ci := 10) (v := .ref wf) (C := RX10) (T := TX10) (N := 5) hx hb hts (fun _ h => List.mem_cons_of_mem _ (List.mem_append_left _ (List.mem_append_right _ h))) hown hK.1 hP 0 rfl rfl 4 (by decide) (hts (.fieldLink RX10 20 "CutAtlas$Widening" "cameFrom" "[I") (List.mem_of_getElem? (i := 1) rfl)) (fun _ h9 => h9) rfl dB_36_2_19.2.1.1.1 ?_
        refine lv_iload hx hb dB_36_2_19.2.1.1.2 (lv_at hl 2 rfl) ?_
        refine va_iald hx hb hK.1 hP 16 0 rfl rfl (i := x5_1) h_4 dB_36_2_19.2.1.2.1 ?_
        refine lv_topi (fun y_9 ey_9 => ?_)
        have e_ := (ey_9.trans ey_5.symm).symm
        subst e_
        skip
        refine lv_istore (lv' := [(5, .int y_5), (4, .int y_7), (6, .int x6_1), (0, .ref xw), (1, .int a1), (2, .int a2), (3, .int a3)]) hx hb dB_36_2_19.2.1.2.2 hl (by decide) rfl (fun ls hl => ?_)
        obtain ⟨y_10, ey_10⟩ : ∃ y : Int32, y = x6_1 + 1 := ⟨_, rfl⟩
        have ty_10 : y_10.toInt = x6_1.toInt + (1 : Int32).toInt := by rw [ey_10]; exact addI (by omega) (by omega)
        refine lv_iinc (v := y_10) (lv' := [(6, .int y_10), (5, .int y_5), (4, .int y_7), (0, .ref xw), (1, .int a1), (2, .int a2), (3, .int a3)]) hx hb dB_36_2_19.2.2.1.1 hl (k := 2) rfl (by rw [ey_10]; rfl) (by decide) rfl (fun ls hl => ?_)
        refine lv_goto (tgt := 9) hx hb dB_36_2_19.2.2.1.2 (by decide) ?_
        exact ih_1 y_10 y_5 y_7 _ _ _ (by omega) (by first | with_reducible assumption | omega | assumption) (by first | with_reducible assumption | omega | assumption) (by first | with_reducible assumption | omega | assumption) (by first | with_reducible assumption | omega | assumption) (by first | exact atC_0 | exact atC_st v4_1 hR_ (by omega) hyn_ ey_5 (by omega)) (by first | exact rwZ_0 | exact rwZ_st v5_1 v4_1 (by omega) ey_5 (by omega) (by omega) (by omega)) hP hS (lv_sub hl [0, 1, 2, 3, 4, 5, 6] rfl)

set_option maxHeartbeats 4000000 in
set_option maxRecDepth 100000 in
theorem c_X10_sendAlongWay2 (l : Launch) (D : va_G) (cy : Nat → ClassId) (sz : Nat) (xw : Nat) (wpo : Nat) (wc : Nat) (wf : Nat) (xc : Nat) (xk : Nat) (clo : Nat) (cro : Nat) (c4 : Nat) (c5 : Nat) (c6 : Nat) (c7 : Nat) (c8 : Nat) (xn : Nat) (n1 : Nat) (n2 : Nat) (n3 : Nat) (n4 : Nat) (n5 : Nat) (vp : Int32) (vn : Int32) (rr : Nat → Nat) (Mr : Nat → Nat → Int32) (ff : Nat → Int32) (a1 : Int32) (a2 : Int32) (a3 : Int32) (hvp : 0 ≤ vp.toInt ∧ vp.toInt ≤ 12) (q1 : 0 ≤ a1.toInt ∧ a1.toInt < vp.toInt) (q2 : 0 ≤ a2.toInt ∧ a2.toInt < vp.toInt) (hmb : ∀ x y : Nat, x < vp.toNatClampNeg → y < vp.toNatClampNeg → -100000000 ≤ zM Mr x y ∧ zM Mr x y ≤ 180000000) (hch : ∃ R : Nat, chQ ff a1.toNatClampNeg a2.toNatClampNeg R vp.toNatClampNeg) (q3 : 0 ≤ a3.toInt ∧ a3.toInt ≤ 500) (r_ff : rng ff 12 (0) (11)) : Met l yX10_sendAlongWay wsX10_sendAlongWay ({ frames := 0, cells := 0, slots := 0, locals := 0 }) (va_Pc [.ref xw, .int a1, .int a2, .int a3] (fun U => U.heap.size = sz ∧ va_P D vwCl [ob10_0_ xw xc xk wpo wc wf, ob0_0_ xc xn xk clo cro c4 c5 c6 c7 c8, ob3_0_ xn vp vn n1 n2 n3 n4 n5, aq_ cy 6 cro 12 (gf_ rr), ai_ cy (rr 0) 12 (Mr 0), ai_ cy (rr 1) 12 (Mr 1), ai_ cy (rr 2) 12 (Mr 2), ai_ cy (rr 3) 12 (Mr 3), ai_ cy (rr 4) 12 (Mr 4), ai_ cy (rr 5) 12 (Mr 5), ai_ cy (rr 6) 12 (Mr 6), ai_ cy (rr 7) 12 (Mr 7), ai_ cy (rr 8) 12 (Mr 8), ai_ cy (rr 9) 12 (Mr 9), ai_ cy (rr 10) 12 (Mr 10), ai_ cy (rr 11) 12 (Mr 11), ai_ cy wf 12 ff] U.heap ∧ kg_ D cy U ∧ va_D (fun _ => True) [ob10_0_ xw xc xk wpo wc wf, ob0_0_ xc xn xk clo cro c4 c5 c6 c7 c8, ob3_0_ xn vp vn n1 n2 n3 n4 n5, aq_ cy 6 cro 12 (gf_ rr), ai_ cy (rr 0) 12 (Mr 0), ai_ cy (rr 1) 12 (Mr 1), ai_ cy (rr 2) 12 (Mr 2), ai_ cy (rr 3) 12 (Mr 3), ai_ cy (rr 4) 12 (Mr 4), ai_ cy (rr 5) 12 (Mr 5), ai_ cy (rr 6) 12 (Mr 6), ai_ cy (rr 7) 12 (Mr 7), ai_ cy (rr 8) 12 (Mr 8), ai_ cy (rr 9) 12 (Mr 9), ai_ cy (rr 10) 12 (Mr 10), ai_ cy (rr 11) 12 (Mr 11), ai_ cy wf 12 ff])) (va_Qv (fun (_ : Unit) => True) (fun (_ : Unit) (t : State) => ∃ (eMr : Nat → Nat → Int32), (∃ R : Nat, chQ ff a1.toNatClampNeg a2.toNatClampNeg R vp.toNatClampNeg ∧ mwC (zM Mr) (zM eMr) ff a2.toNatClampNeg R a3.toInt) ∧ va_P D vwCl [ob10_0_ xw xc xk wpo wc wf, ob0_0_ xc xn xk clo cro c4 c5 c6 c7 c8, ob3_0_ xn vp vn n1 n2 n3 n4 n5, aq_ cy 6 cro 12 (gf_ rr), ai_ cy (rr 0) 12 (eMr 0), ai_ cy (rr 1) 12 (eMr 1), ai_ cy (rr 2) 12 (eMr 2), ai_ cy (rr 3) 12 (eMr 3), ai_ cy (rr 4) 12 (eMr 4), ai_ cy (rr 5) 12 (eMr 5), ai_ cy (rr 6) 12 (eMr 6), ai_ cy (rr 7) 12 (eMr 7), ai_ cy (rr 8) 12 (eMr 8), ai_ cy (rr 9) 12 (eMr 9), ai_ cy (rr 10) 12 (eMr 10), ai_ cy (rr 11) 12 (eMr 11), ai_ cy wf 12 ff] t.heap ∧ va_D (va_A [ob10_0_ xw xc xk wpo wc wf, ob0_0_ xc xn xk clo cro c4 c5 c6 c7 c8, ob3_0_ xn vp vn n1 n2 n3 n4 n5, aq_ cy 6 cro 12 (gf_ rr), ai_ cy (rr 0) 12 (Mr 0), ai_ cy (rr 1) 12 (Mr 1), ai_ cy (rr 2) 12 (Mr 2), ai_ cy (rr 3) 12 (Mr 3), ai_ cy (rr 4) 12 (Mr 4), ai_ cy (rr 5) 12 (Mr 5), ai_ cy (rr 6) 12 (Mr 6), ai_ cy (rr 7) 12 (Mr 7), ai_ cy (rr 8) 12 (Mr 8), ai_ cy (rr 9) 12 (Mr 9), ai_ cy (rr 10) 12 (Mr 10), ai_ cy (rr 11) 12 (Mr 11), ai_ cy wf 12 ff] sz) [ob10_0_ xw xc xk wpo wc wf, ob0_0_ xc xn xk clo cro c4 c5 c6 c7 c8, ob3_0_ xn vp vn n1 n2 n3 n4 n5, aq_ cy 6 cro 12 (gf_ rr), ai_ cy (rr 0) 12 (eMr 0), ai_ cy (rr 1) 12 (eMr 1), ai_ cy (rr 2) 12 (eMr 2), ai_ cy (rr 3) 12 (eMr 3), ai_ cy (rr 4) 12 (eMr 4), ai_ cy (rr 5) 12 (eMr 5), ai_ cy (rr 6) 12 (eMr 6), ai_ cy (rr 7) 12 (eMr 7), ai_ cy (rr 8) 12 (eMr 8), ai_ cy (rr 9) 12 (eMr 9), ai_ cy (rr 10) 12 (eMr 10), ai_ cy (rr 11) 12 (eMr 11), ai_ cy wf 12 ff]) (va_A [ob10_0_ xw xc xk wpo wc wf, ob0_0_ xc xn xk clo cro c4 c5 c6 c7 c8, ob3_0_ xn vp vn n1 n2 n3 n4 n5, aq_ cy 6 cro 12 (gf_ rr), ai_ cy (rr 0) 12 (Mr 0), ai_ cy (rr 1) 12 (Mr 1), ai_ cy (rr 2) 12 (Mr 2), ai_ cy (rr 3) 12 (Mr 3), ai_ cy (rr 4) 12 (Mr 4), ai_ cy (rr 5) 12 (Mr 5), ai_ cy (rr 6) 12 (Mr 6), ai_ cy (rr 7) 12 (Mr 7), ai_ cy (rr 8) 12 (Mr 8), ai_ cy (rr 9) 12 (Mr 9), ai_ cy (rr 10) 12 (Mr 10), ai_ cy (rr 11) 12 (Mr 11), ai_ cy wf 12 ff] sz)) 0 0 (va_A [ob10_0_ xw xc xk wpo wc wf, ob0_0_ xc xn xk clo cro c4 c5 c6 c7 c8, ob3_0_ xn vp vn n1 n2 n3 n4 n5, aq_ cy 6 cro 12 (gf_ rr), ai_ cy (rr 0) 12 (Mr 0), ai_ cy (rr 1) 12 (Mr 1), ai_ cy (rr 2) 12 (Mr 2), ai_ cy (rr 3) 12 (Mr 3), ai_ cy (rr 4) 12 (Mr 4), ai_ cy (rr 5) 12 (Mr 5), ai_ cy (rr 6) 12 (Mr 6), ai_ cy (rr 7) 12 (Mr 7), ai_ cy (rr 8) 12 (Mr 8), ai_ cy (rr 9) 12 (Mr 9), ai_ cy (rr 10) 12 (Mr 10), ai_ cy (rr 11) 12 (Mr 11), ai_ cy wf 12 ff] sz) := by
  refine ofQ (cc := cX10_sendAlongWay) (maxL := 6) (ret := none) (by decide) rfl ?_
  intro p e s m args below meth c s₁ Q hQ B hml hv
  obtain ⟨rfl, hsz, hP, hK, hD0⟩ := hv
  have hG := hK.2
  have hK := hK.1
  have hx := B.exec
  have hb := B.bytes
  have hr := B.returns
  have hts := atoms_spec (ws := wsX10_sendAlongWay) B.pre
  have hown : s.vm.findClass RX10 = some m.cls := by have h_ := findClass_of_methodNamed B.named; exact h_
  have hlocks := B.notSynchronized
  subst hsz
  have hD := hD0.self (sz := s.heap.size)
  generalize hAe : va_A [ob10_0_ xw xc xk wpo wc wf, ob0_0_ xc xn xk clo cro c4 c5 c6 c7 c8, ob3_0_ xn vp vn n1 n2 n3 n4 n5, aq_ cy 6 cro 12 (gf_ rr), ai_ cy (rr 0) 12 (Mr 0), ai_ cy (rr 1) 12 (Mr 1), ai_ cy (rr 2) 12 (Mr 2), ai_ cy (rr 3) 12 (Mr 3), ai_ cy (rr 4) 12 (Mr 4), ai_ cy (rr 5) 12 (Mr 5), ai_ cy (rr 6) 12 (Mr 6), ai_ cy (rr 7) 12 (Mr 7), ai_ cy (rr 8) 12 (Mr 8), ai_ cy (rr 9) 12 (Mr 9), ai_ cy (rr 10) 12 (Mr 10), ai_ cy (rr 11) 12 (Mr 11), ai_ cy wf 12 ff] s.heap.size = A at hD hQ
  have hA : ∀ q : Nat, s.heap.size ≤ q → A q := fun q h => by rw [← hAe]; exact Or.inr h
  have hS : va_S A s.heap s.heap [] := va_S.rf
  have hl := lv_entry ([.ref xw, .int a1, .int a2, .int a3]) (n := 6) (Nat.le_of_ble_eq_true rfl)
  rw [lg_entry_eq]
  generalize (lg_sl ([.ref xw, .int a1, .int a2, .int a3]) ++ List.replicate (6 - (lg_sl ([.ref xw, .int a1, .int a2, .int a3])).length) Slot.unset).toArray = ls at hl ⊢
  have hl : lv_has ls 6 [(0, .ref xw), (1, .int a1), (2, .int a2), (3, .int a3)] := hl
  have z0 : (0 : Int32).toInt = 0 := by decide
  have z1 : (1 : Int32).toInt = 1 := by decide
  have z12 : (12 : Int32).toInt = 12 := by decide
  have zq0 : (0 : Int32).toInt = 0 := by decide
  have zq1 : (1 : Int32).toInt = 1 := by decide
  have zqv : (1000000000 : Int32).toInt = 1000000000 := by decide
  obtain ⟨R_, hR_⟩ := hch
  have hR11_ := hR_.1
  have cP_ := clI (i := vp) (by omega)
  refine lv_iload_n hx hb dB_36_2_20.1.1.1.1 rfl (lv_at hl 2 rfl) ?_
  refine lv_istore (lv' := [(4, .int a2), (0, .ref xw), (1, .int a1), (2, .int a2), (3, .int a3)]) hx hb dB_36_2_20.1.1.1.2 hl (by decide) rfl (fun ls hl => ?_)
  refine lv_iconst (v := 0) hx hb dB_36_2_20.1.1.2.1 (by decide) ?_
  refine lv_istore (lv' := [(5, .int 0), (4, .int a2), (0, .ref xw), (1, .int a1), (2, .int a2), (3, .int a3)]) hx hb dB_36_2_20.1.1.2.2 hl (by decide) rfl (fun ls hl => ?_)
  suffices LOOP_1 : ∀ (n_1 : Nat) (x5_1 : Int32) (x4_1 : Int32) (m_rr_1 : Nat → Nat → Int32) (H : Heap) (locs : List Loc) (ls : Array Slot), 12 - x5_1.toInt < (n_1 : Int) → (0 ≤ x4_1.toInt ∧ x4_1.toInt < vp.toInt) → (0 ≤ x5_1.toInt) → (x5_1.toInt ≤ 12) → (atC ff a2.toNatClampNeg R_ x5_1.toNatClampNeg x4_1.toNatClampNeg) → (mwC (zM Mr) (zM m_rr_1) ff a2.toNatClampNeg x5_1.toNatClampNeg a3.toInt) → pd_2 D vwCl A [ob10_0_ xw xc xk wpo wc wf, ob0_0_ xc xn xk clo cro c4 c5 c6 c7 c8, ob3_0_ xn vp vn n1 n2 n3 n4 n5, aq_ cy 6 cro 12 (gf_ rr), ai_ cy (rr 0) 12 (m_rr_1 0), ai_ cy (rr 1) 12 (m_rr_1 1), ai_ cy (rr 2) 12 (m_rr_1 2), ai_ cy (rr 3) 12 (m_rr_1 3), ai_ cy (rr 4) 12 (m_rr_1 4), ai_ cy (rr 5) 12 (m_rr_1 5), ai_ cy (rr 6) 12 (m_rr_1 6), ai_ cy (rr 7) 12 (m_rr_1 7), ai_ cy (rr 8) 12 (m_rr_1 8), ai_ cy (rr 9) 12 (m_rr_1 9), ai_ cy (rr 10) 12 (m_rr_1 10), ai_ cy (rr 11) 12 (m_rr_1 11), ai_ cy wf 12 ff] H → va_S A s.heap H locs → lv_has ls 6 [(5, .int x5_1), (4, .int x4_1), (0, .ref xw), (1, .int a1), (2, .int a2), (3, .int a3)] → W p l e ({ frames := 0, cells := 0, slots := 0, locals := 0 } : Room) s m (([.ref xw, .int a1, .int a2, .int a3] : List Value).toArray) below meth c H locs 0 0 Q (F0 m 6 ls []) from LOOP_1 ((12 - (0 : Int32).toInt).toNat + 1) (0 : Int32) a2 Mr _ _ _ (by omega) (by first | with_reducible assumption | omega | assumption) (by first | with_reducible assumption | omega | assumption) (by first | with_reducible assumption | omega | assumption) (by first | exact atC_0 | exact atC_st v_none hR_ (by omega) hyn_ S[ex] (by omega)) (by first | exact mwC_0 | exact mwC_st v_none v_none (by omega) S[ex] (by omega) hed_) ⟨hP, hD⟩ hS (lv_sub hl [0, 1, 2, 3, 4, 5] rfl)
  intro n_1
  induction n_1 with
  | zero =>
    intro x5_1 x4_1 m_rr_1 H locs ls hm v0_1 v1_1 v2_1 v3_1 v4_1 hPD hS hl; obtain ⟨hP, hD⟩ := hPD
    exact absurd hm (by omega)
  | succ n_1 ih_1 =>
    intro x5_1 x4_1 m_rr_1 H locs ls hm v0_1 v1_1 v2_1 v3_1 v4_1 hPD hS hl; obtain ⟨hP, hD⟩ := hPD
    refine lv_iload hx hb dB_36_2_20.1.2.1.1 (lv_at hl 0 rfl) ?_
    refine lv_bipush (v := 12) hx hb dB_36_2_20.1.2.1.2 (by decide) ?_
    refine lv_icmp_ge (tgt := 78) hx hb dB_36_2_20.1.2.2.1 (by decide) (fun c_2 => ?_) (fun c_2 => ?_)
    · have t_2 : (12 : Int32).toInt ≤ x5_1.toInt := Int32.le_iff_toInt_le.mp c_2
      have hn6_ : x4_1.toInt = a1.toInt := by first | omega | (exfalso; have h_ := v3_1.1; have c_ := clI (i := x5_1) (by omega); omega)
      have hend_ := atC_end v3_1 hR_ (nc_eq hn6_)
      rw [hQ]
      exact W.vret hx hb hr (fun t ht hW => ⟨⟨(), rfl, trivial, m_rr_1, (⟨R_, hR_, by have h_ := v4_1; rw [hend_] at h_; exact h_⟩), by rw [ht]; exact hP, hD⟩, hS.F ht⟩) hS.2.2 dB_36_2_22.2.2.2.2
    · have t_2 : ¬ (12 : Int32).toInt ≤ x5_1.toInt := fun h => c_2 (Int32.le_iff_toInt_le.mpr h)
      refine lv_iload hx hb dB_36_2_20.1.2.2.2 (lv_at hl 1 rfl) ?_
      refine lv_iload_n hx hb dB_36_2_20.2.1.1.1 rfl (lv_at hl 3 rfl) ?_
      refine lv_icmp_eq (tgt := 78) hx hb dB_36_2_20.2.1.1.2 (by decide) (fun c_3 => ?_) (fun c_3 => ?_)
      · have t_3 : x4_1.toInt = a1.toInt := congrArg Int32.toInt c_3
        have hn6_ : x4_1.toInt = a1.toInt := by first | omega | (exfalso; have h_ := v3_1.1; have c_ := clI (i := x5_1) (by omega); omega)
        have hend_ := atC_end v3_1 hR_ (nc_eq hn6_)
        rw [hQ]
        exact W.vret hx hb hr (fun t ht hW => ⟨⟨(), rfl, trivial, m_rr_1, (⟨R_, hR_, by have h_ := v4_1; rw [hend_] at h_; exact h_⟩), by rw [ht]; exact hP, hD⟩, hS.F ht⟩) hS.2.2 dB_36_2_22.2.2.2.2
      · have t_3 : ¬ x4_1.toInt = a1.toInt := fun h => c_3 (Int32.toInt_inj.mp h)
        have hyn_ : x4_1.toNatClampNeg ≠ a1.toNatClampNeg := nc_ne (x := x4_1) (y := a1) (by omega) (by omega) (by omega)
        have hat_ := atC_P v3_1 hR_ hyn_
        have c5_ := clI (i := x5_1) (by omega)
        refine lv_aload_n hx hb dB_36_2_20.2.1.2.1 rfl (lv_at hl 2 rfl) ?_
        refine va_get (ci := 10) (v := .ref xc) (C := RX10) (T := TX10) (N := 5) hx hb hts (fun _ h => List.mem_cons_of_mem _ (List.mem_append_left _ (List.mem_append_right _ h))) hown hK.1 hP 0 rfl rfl 0 (by decide) (hts (.fieldLink RX10 23 "CutAtlas$Widening" "current" "LCutAtlas$Current;") (List.mem_of_getElem? (i := 1) rfl)) (fun _ h9 => h9) rfl dB_36_2_20.2.1.2.2 ?_
        refine va_get (ci := 0) (v := .ref cro) (C := RX0) (T := TX0) (N := 9) hx hb hts (fun _ h => List.mem_cons_of_mem _ (List.mem_append_right _ h)) hown hK.1 hP 1 rfl rfl 3 (by decide) (hts (.fieldLink RX10 99 "CutAtlas$Current" "room" "[[I") (List.mem_of_getElem? (i := 2) rfl)) (fun _ h9 => h9) rfl dB_36_2_20.2.2.1.1 ?_
        refine lv_aload_n hx hb dB_36_2_20.2.2.1.2 rfl (lv_at hl 2 rfl) ?_
        refine va_get (ci := 10) (v := .ref wf) (C := RX10) (T := TX10) (N := 5) hx hb hts (fun _ h => List.mem_cons_of_mem _ (List.mem_append_left _ (List.mem_append_right _ h))) hown hK.1 hP 0 rfl rfl 4 (by decide) (hts (.fieldLink RX10 20 "CutAtlas$Widening" "cameFrom" "[I") (List.mem_of_getElem? (i := 3) rfl)) (fun _ h9 => h9) rfl dB_36_2_20.2.2.2.1 ?_
        refine lv_iload hx hb dB_36_2_20.2.2.2.2 (lv_at hl 1 rfl) ?_
        have h_4 : vp_in x4_1 12 := in_I (by first | with_reducible assumption | omega) (by omega)
        refine va_iald hx hb hK.1 hP 16 0 rfl rfl (i := x4_1) h_4 dB_36_2_21.1.1.1.1 ?_
        refine lv_topi (fun y_5 ey_5 => ?_)
        have ry_5 : 0 ≤ y_5.toInt ∧ y_5.toInt ≤ 11 := by rw [ey_5]; exact r_ff _ (in_lt h_4)
        have hxc_ : nF ff x4_1.toNatClampNeg = y_5.toNatClampNeg := by rw [ey_5]; rfl
        rw [hxc_] at hat_
        have hcx_ := clI (i := y_5) (by omega)
        have hb1_ := mwC_b v4_1 (by omega) (by omega) (by omega) y_5.toNatClampNeg x4_1.toNatClampNeg
        have hb2_ := mwC_b v4_1 (by omega) (by omega) (by omega) x4_1.toNatClampNeg y_5.toNatClampNeg
        have hb3_ := hmb _ _ hat_.2.2.1 hat_.2.1
        have hb4_ := hmb _ _ hat_.2.1 hat_.2.2.1
        have h_6 : vp_in y_5 12 := in_I (by first | with_reducible assumption | omega) (by omega)
        refine va_alda hx hb hG hP 3 rfl (i := y_5) h_6 dB_36_2_21.1.1.1.2 ?_
        refine lv_topv (v' := .ref (rr y_5.toNatClampNeg)) (gf_at h_6) ?_
        refine lv_iload hx hb dB_36_2_21.1.1.2.1 (lv_at hl 1 rfl) ?_
        refine lv_dup2_11 hx hb dB_36_2_21.1.1.2.2 rfl rfl ?_
        have hPg : va_P D vwCl (([ob10_0_ xw xc xk wpo wc wf, ob0_0_ xc xn xk clo cro c4 c5 c6 c7 c8, ob3_0_ xn vp vn n1 n2 n3 n4 n5, aq_ cy 6 cro 12 (gf_ rr)] : va_W) ++ (gro (cy 0) rr m_rr_1 ++ ([ai_ cy wf 12 ff] : va_W))) H := hP
        refine va_gld (X := [ob10_0_ xw xc xk wpo wc wf, ob0_0_ xc xn xk clo cro c4 c5 c6 c7 c8, ob3_0_ xn vp vn n1 n2 n3 n4 n5, aq_ cy 6 cro 12 (gf_ rr)]) (Y := [ai_ cy wf 12 ff]) (r := rr) (M := m_rr_1) (k := y_5.toNatClampNeg) hx hb hK.1 hPg 0 rfl (in_lt h_6) (i := x4_1) h_4 dB_36_2_21.1.2.1.1 ?_
        refine lv_topi (fun y_8 ey_8 => ?_)
        have km1_ : y_8.toInt = zM m_rr_1 y_5.toNatClampNeg x4_1.toNatClampNeg := by unfold zM; rw [ey_8]
        refine lv_iload_n hx hb dB_36_2_21.1.2.1.2 rfl (lv_at hl 5 rfl) ?_
        refine lv_isub hx hb dB_36_2_21.1.2.2.1 ?_
        refine lv_topi (fun y_9 ey_9 => ?_)
        have ty_9 : y_9.toInt = y_8.toInt - a3.toInt := by rw [ey_9]; exact subI (by omega) (by omega)
        have h1_ : y_9.toInt = (m_rr_1 y_5.toNatClampNeg x4_1.toNatClampNeg).toInt - a3.toInt := by rw [show (m_rr_1 y_5.toNatClampNeg x4_1.toNatClampNeg).toInt = zM m_rr_1 y_5.toNatClampNeg x4_1.toNatClampNeg from rfl]; omega
        have hPg : va_P D vwCl (([ob10_0_ xw xc xk wpo wc wf, ob0_0_ xc xn xk clo cro c4 c5 c6 c7 c8, ob3_0_ xn vp vn n1 n2 n3 n4 n5, aq_ cy 6 cro 12 (gf_ rr)] : va_W) ++ (gro (cy 0) rr m_rr_1 ++ ([ai_ cy wf 12 ff] : va_W))) H := hP
        have hDg : va_D A (([ob10_0_ xw xc xk wpo wc wf, ob0_0_ xc xn xk clo cro c4 c5 c6 c7 c8, ob3_0_ xn vp vn n1 n2 n3 n4 n5, aq_ cy 6 cro 12 (gf_ rr)] : va_W) ++ (gro (cy 0) rr m_rr_1 ++ ([ai_ cy wf 12 ff] : va_W))) := hD
        refine va_gst (X := [ob10_0_ xw xc xk wpo wc wf, ob0_0_ xc xn xk clo cro c4 c5 c6 c7 c8, ob3_0_ xn vp vn n1 n2 n3 n4 n5, aq_ cy 6 cro 12 (gf_ rr)]) (Y := [ai_ cy wf 12 ff]) (r := rr) (M := m_rr_1) (k := y_5.toNatClampNeg) hx hb hK.1 hPg hDg hS 0 rfl (in_lt h_6) (i := x4_1) h_4 dB_36_2_21.1.2.2.2 (fun H locs hP hD hS => ?_)
        obtain ⟨M_11, eM_11⟩ : ∃ g : Nat → Nat → Int32, g = va_up m_rr_1 y_5.toNatClampNeg (upd (m_rr_1 y_5.toNatClampNeg) x4_1.toNatClampNeg y_9) := ⟨_, rfl⟩
        refine pd_K (D := D) (cl := vwCl) (H := H) (A := A) [ob10_0_ xw xc xk wpo wc wf, ob0_0_ xc xn xk clo cro c4 c5 c6 c7 c8, ob3_0_ xn vp vn n1 n2 n3 n4 n5, aq_ cy 6 cro 12 (gf_ rr), ai_ cy (rr 0) 12 (M_11 0), ai_ cy (rr 1) 12 (M_11 1), ai_ cy (rr 2) 12 (M_11 2), ai_ cy (rr 3) 12 (M_11 3), ai_ cy (rr 4) 12 (M_11 4), ai_ cy (rr 5) 12 (M_11 5), ai_ cy (rr 6) 12 (M_11 6), ai_ cy (rr 7) 12 (M_11 7), ai_ cy (rr 8) 12 (M_11 8), ai_ cy (rr 9) 12 (M_11 9), ai_ cy (rr 10) 12 (M_11 10), ai_ cy (rr 11) 12 (M_11 11), ai_ cy wf 12 ff] (by rw [eM_11]; exact hP) (by rw [eM_11]; exact hD) (fun hP hD => ?_)
        refine lv_aload_n hx hb dB_36_2_21.2.1.1.1 rfl (lv_at hl 2 rfl) ?_
        refine va_get (ci := 10) (v := .ref xc) (C := RX10) (T := TX10) (N := 5) hx hb hts (fun _ h => List.mem_cons_of_mem _ (List.mem_append_left _ (List.mem_append_right _ h))) hown hK.1 hP 0 rfl rfl 0 (by decide) (hts (.fieldLink RX10 23 "CutAtlas$Widening" "current" "LCutAtlas$Current;") (List.mem_of_getElem? (i := 1) rfl)) (fun _ h9 => h9) rfl dB_36_2_21.2.1.1.2 ?_
        refine va_get (ci := 0) (v := .ref cro) (C := RX0) (T := TX0) (N := 9) hx hb hts (fun _ h => List.mem_cons_of_mem _ (List.mem_append_right _ h)) hown hK.1 hP 1 rfl rfl 3 (by decide) (hts (.fieldLink RX10 99 "CutAtlas$Current" "room" "[[I") (List.mem_of_getElem? (i := 2) rfl)) (fun _ h9 => h9) rfl dB_36_2_21.2.1.2.1 ?_
        refine lv_iload hx hb dB_36_2_21.2.1.2.2 (lv_at hl 1 rfl) ?_
        refine va_alda hx hb hG hP 3 rfl (i := x4_1) h_4 dB_36_2_21.2.2.1.1 ?_
        refine lv_topv (v' := .ref (rr x4_1.toNatClampNeg)) (gf_at h_4) ?_
        refine lv_aload_n hx hb dB_36_2_21.2.2.1.2 rfl (lv_at hl 2 rfl) ?_
        refine va_get (ci := 10) (v := .ref wf) (C := RX10) (T := TX10) (N := 5) hx hb hts (fun _ h => List.mem_cons_of_mem _ (List.mem_append_left _ (List.mem_append_right _ h))) hown hK.1 hP 0 rfl rfl 4 (by decide) (hts (.fieldLink RX10 20 "CutAtlas$Widening" "cameFrom" "[I") (List.mem_of_getElem? (i := 3) rfl)) (fun _ h9 => h9) rfl dB_36_2_21.2.2.2.1 ?_
        refine lv_iload hx hb dB_36_2_21.2.2.2.2 (lv_at hl 1 rfl) ?_
        refine va_iald hx hb hK.1 hP 16 0 rfl rfl (i := x4_1) h_4 dB_36_2_22.1.1.1 ?_
        refine lv_topi (fun y_14 ey_14 => ?_)
        have e_ := (ey_14.trans ey_5.symm).symm
        subst e_
        skip
        refine lv_dup2_11 hx hb dB_36_2_22.1.1.2.1 rfl rfl ?_
        have hPg : va_P D vwCl (([ob10_0_ xw xc xk wpo wc wf, ob0_0_ xc xn xk clo cro c4 c5 c6 c7 c8, ob3_0_ xn vp vn n1 n2 n3 n4 n5, aq_ cy 6 cro 12 (gf_ rr)] : va_W) ++ (gro (cy 0) rr M_11 ++ ([ai_ cy wf 12 ff] : va_W))) H := hP
        refine va_gld (X := [ob10_0_ xw xc xk wpo wc wf, ob0_0_ xc xn xk clo cro c4 c5 c6 c7 c8, ob3_0_ xn vp vn n1 n2 n3 n4 n5, aq_ cy 6 cro 12 (gf_ rr)]) (Y := [ai_ cy wf 12 ff]) (r := rr) (M := M_11) (k := x4_1.toNatClampNeg) hx hb hK.1 hPg 0 rfl (in_lt h_4) (i := y_5) h_6 dB_36_2_22.1.1.2.2 ?_
        refine lv_topi (fun y_16 ey_16 => ?_)
        have km2_ : y_16.toInt = (M_11 x4_1.toNatClampNeg y_5.toNatClampNeg).toInt := by rw [ey_16]
        have hv2_ : (M_11 x4_1.toNatClampNeg y_5.toNatClampNeg).toInt = if x4_1.toNatClampNeg = y_5.toNatClampNeg ∧ y_5.toNatClampNeg = x4_1.toNatClampNeg then _ else (m_rr_1 x4_1.toNatClampNeg y_5.toNatClampNeg).toInt := m1_v eM_11
        have hz2_ : (m_rr_1 x4_1.toNatClampNeg y_5.toNatClampNeg).toInt = zM m_rr_1 x4_1.toNatClampNeg y_5.toNatClampNeg := rfl
        have hb5_ : -200000000 ≤ y_16.toInt ∧ y_16.toInt ≤ 200000000 := by rw [km2_, hv2_, if_neg (fun w => hat_.2.2.2.1 w.2)]; omega
        refine lv_iload_n hx hb dB_36_2_22.1.2.1.1 rfl (lv_at hl 5 rfl) ?_
        refine lv_iadd hx hb dB_36_2_22.1.2.1.2 ?_
        refine lv_topi (fun y_17 ey_17 => ?_)
        have ty_17 : y_17.toInt = y_16.toInt + a3.toInt := by rw [ey_17]; exact addI (by omega) (by omega)
        have h2_ : y_17.toInt = (M_11 x4_1.toNatClampNeg y_5.toNatClampNeg).toInt + a3.toInt := by omega
        have hPg : va_P D vwCl (([ob10_0_ xw xc xk wpo wc wf, ob0_0_ xc xn xk clo cro c4 c5 c6 c7 c8, ob3_0_ xn vp vn n1 n2 n3 n4 n5, aq_ cy 6 cro 12 (gf_ rr)] : va_W) ++ (gro (cy 0) rr M_11 ++ ([ai_ cy wf 12 ff] : va_W))) H := hP
        have hDg : va_D A (([ob10_0_ xw xc xk wpo wc wf, ob0_0_ xc xn xk clo cro c4 c5 c6 c7 c8, ob3_0_ xn vp vn n1 n2 n3 n4 n5, aq_ cy 6 cro 12 (gf_ rr)] : va_W) ++ (gro (cy 0) rr M_11 ++ ([ai_ cy wf 12 ff] : va_W))) := hD
        refine va_gst (X := [ob10_0_ xw xc xk wpo wc wf, ob0_0_ xc xn xk clo cro c4 c5 c6 c7 c8, ob3_0_ xn vp vn n1 n2 n3 n4 n5, aq_ cy 6 cro 12 (gf_ rr)]) (Y := [ai_ cy wf 12 ff]) (r := rr) (M := M_11) (k := x4_1.toNatClampNeg) hx hb hK.1 hPg hDg hS 0 rfl (in_lt h_4) (i := y_5) h_6 dB_36_2_22.1.2.2.1 (fun H locs hP hD hS => ?_)
        obtain ⟨M_19, eM_19⟩ : ∃ g : Nat → Nat → Int32, g = va_up M_11 x4_1.toNatClampNeg (upd (M_11 x4_1.toNatClampNeg) y_5.toNatClampNeg y_17) := ⟨_, rfl⟩
        refine pd_K (D := D) (cl := vwCl) (H := H) (A := A) [ob10_0_ xw xc xk wpo wc wf, ob0_0_ xc xn xk clo cro c4 c5 c6 c7 c8, ob3_0_ xn vp vn n1 n2 n3 n4 n5, aq_ cy 6 cro 12 (gf_ rr), ai_ cy (rr 0) 12 (M_19 0), ai_ cy (rr 1) 12 (M_19 1), ai_ cy (rr 2) 12 (M_19 2), ai_ cy (rr 3) 12 (M_19 3), ai_ cy (rr 4) 12 (M_19 4), ai_ cy (rr 5) 12 (M_19 5), ai_ cy (rr 6) 12 (M_19 6), ai_ cy (rr 7) 12 (M_19 7), ai_ cy (rr 8) 12 (M_19 8), ai_ cy (rr 9) 12 (M_19 9), ai_ cy (rr 10) 12 (M_19 10), ai_ cy (rr 11) 12 (M_19 11), ai_ cy wf 12 ff] (by rw [eM_19]; exact hP) (by rw [eM_19]; exact hD) (fun hP hD => ?_)
        have hed_ : edg (zM m_rr_1) (zM M_19) y_5.toNatClampNeg x4_1.toNatClampNeg a3.toInt := edg_mk eM_11 eM_19 h1_ h2_
        refine lv_aload_n hx hb dB_36_2_22.1.2.2.2 rfl (lv_at hl 2 rfl) ?_
        refine va_get (ci := 10) (v := .ref wf) (C := RX10) (T := TX10) (N := 5) hx hb hts (fun _ h => List.mem_cons_of_mem _ (List.mem_append_left _ (List.mem_append_right _ h))) hown hK.1 hP 0 rfl rfl 4 (by decide) (hts (.fieldLink RX10 20 "CutAtlas$Widening" "cameFrom" "[I") (List.mem_of_getElem? (i := 3) rfl)) (fun _ h9 => h9) rfl dB_36_2_22.2.1.1 ?_
        refine lv_iload hx hb dB_36_2_22.2.1.2.1 (lv_at hl 1 rfl) ?_
        refine va_iald hx hb hK.1 hP 16 0 rfl rfl (i := x4_1) h_4 dB_36_2_22.2.1.2.2 ?_
        refine lv_topi (fun y_21 ey_21 => ?_)
        have e_ := (ey_21.trans ey_5.symm).symm
        subst e_
        skip
        refine lv_istore (lv' := [(4, .int y_5), (5, .int x5_1), (0, .ref xw), (1, .int a1), (2, .int a2), (3, .int a3)]) hx hb dB_36_2_22.2.2.1.1 hl (by decide) rfl (fun ls hl => ?_)
        obtain ⟨y_22, ey_22⟩ : ∃ y : Int32, y = x5_1 + 1 := ⟨_, rfl⟩
        have ty_22 : y_22.toInt = x5_1.toInt + (1 : Int32).toInt := by rw [ey_22]; exact addI (by omega) (by omega)
        refine lv_iinc (v := y_22) (lv' := [(5, .int y_22), (4, .int y_5), (0, .ref xw), (1, .int a1), (2, .int a2), (3, .int a3)]) hx hb dB_36_2_22.2.2.1.2 hl (k := 1) rfl (by rw [ey_22]; rfl) (by decide) rfl (fun ls hl => ?_)
        refine lv_goto (tgt := 6) hx hb dB_36_2_22.2.2.2.1 (by decide) ?_
        exact ih_1 y_22 y_5 M_19 _ _ _ (by omega) (by first | with_reducible assumption | omega | assumption) (by first | with_reducible assumption | omega | assumption) (by first | with_reducible assumption | omega | assumption) (by first | exact atC_0 | exact atC_st v3_1 hR_ (by omega) hyn_ ey_5 (by omega)) (by first | exact mwC_0 | exact mwC_st v4_1 v3_1 (by omega) ey_5 (by omega) hed_) ⟨hP, hD⟩ hS (lv_sub hl [0, 1, 2, 3, 4, 5] rfl)
end

section
set_option maxHeartbeats 4000000 in
set_option maxRecDepth 100000 in
theorem c_X10_findPrices2 (l : Launch) (D : va_G) (cy : Nat → ClassId) (sz : Nat) (xw : Nat) (wpo : Nat) (wc : Nat) (wf : Nat) (xc : Nat) (xk : Nat) (clo : Nat) (cro : Nat) (c4 : Nat) (c5 : Nat) (c6 : Nat) (c7 : Nat) (c8 : Nat) (xn : Nat) (n1 : Nat) (n2 : Nat) (n3 : Nat) (n4 : Nat) (n5 : Nat) (vp : Int32) (vn : Int32) (fk : Nat → Int32) (fs : Nat → Int32) (fe : Nat → Int32) (fp : Nat → Int32) (rp : Nat → Nat) (Mp : Nat → Nat → Int32) (k0 : Nat) (k1 : Nat) (k2 : Nat) (k3 : Nat) (k4 : Nat) (hvp : 0 ≤ vp.toInt ∧ vp.toInt ≤ 12) (hvn : 0 ≤ vn.toInt ∧ vn.toInt ≤ 40) (hnc : netC vp.toInt vn.toInt fs fe) (hdc : netDC vn.toInt fs fe) (hpr : prng fs fe 40) (r_fk : rng fk 40 (0) (4)) (r_fp : rng fp 40 (0) (100)) : Met l yX10_findPrices wsX10_findPrices ({ frames := 2, cells := 0, slots := 0, locals := 42 }) (va_Pc [.ref xw] (fun U => U.heap.size = sz ∧ va_P D vwCl [ob10_0_ xw xc xk wpo wc wf, ob0_0_ xc xn xk clo cro c4 c5 c6 c7 c8, ob3_0_ xn vp vn n1 n2 n3 n4 n5, ai_ cy n1 40 fk, ai_ cy n2 40 fs, ai_ cy n3 40 fe, ai_ cy n5 40 fp, aq_ cy 6 wpo 12 (gf_ rp), ai_ cy (rp 0) 12 (Mp 0), ai_ cy (rp 1) 12 (Mp 1), ai_ cy (rp 2) 12 (Mp 2), ai_ cy (rp 3) 12 (Mp 3), ai_ cy (rp 4) 12 (Mp 4), ai_ cy (rp 5) 12 (Mp 5), ai_ cy (rp 6) 12 (Mp 6), ai_ cy (rp 7) 12 (Mp 7), ai_ cy (rp 8) 12 (Mp 8), ai_ cy (rp 9) 12 (Mp 9), ai_ cy (rp 10) 12 (Mp 10), ai_ cy (rp 11) 12 (Mp 11), aq_ cy 3 xk 5 (kf_ k0 k1 k2 k3 k4), ob6_0_ k0, ob5_0_ k1, ob9_0_ k2, ob2_0_ k3, ob8_0_ k4] U.heap ∧ kg_ D cy U ∧ va_D (fun _ => True) [ob10_0_ xw xc xk wpo wc wf, ob0_0_ xc xn xk clo cro c4 c5 c6 c7 c8, ob3_0_ xn vp vn n1 n2 n3 n4 n5, ai_ cy n1 40 fk, ai_ cy n2 40 fs, ai_ cy n3 40 fe, ai_ cy n5 40 fp, aq_ cy 6 wpo 12 (gf_ rp), ai_ cy (rp 0) 12 (Mp 0), ai_ cy (rp 1) 12 (Mp 1), ai_ cy (rp 2) 12 (Mp 2), ai_ cy (rp 3) 12 (Mp 3), ai_ cy (rp 4) 12 (Mp 4), ai_ cy (rp 5) 12 (Mp 5), ai_ cy (rp 6) 12 (Mp 6), ai_ cy (rp 7) 12 (Mp 7), ai_ cy (rp 8) 12 (Mp 8), ai_ cy (rp 9) 12 (Mp 9), ai_ cy (rp 10) 12 (Mp 10), ai_ cy (rp 11) 12 (Mp 11), aq_ cy 3 xk 5 (kf_ k0 k1 k2 k3 k4), ob6_0_ k0, ob5_0_ k1, ob9_0_ k2, ob2_0_ k3, ob8_0_ k4])) (va_Qv (fun (_ : Unit) => True) (fun (_ : Unit) (t : State) => ∃ (eMp : Nat → Nat → Int32), (prM fk fs fe fp vp.toNatClampNeg vn.toNatClampNeg (zM eMp)) ∧ va_P D vwCl [ob10_0_ xw xc xk wpo wc wf, ob0_0_ xc xn xk clo cro c4 c5 c6 c7 c8, ob3_0_ xn vp vn n1 n2 n3 n4 n5, ai_ cy n1 40 fk, ai_ cy n2 40 fs, ai_ cy n3 40 fe, ai_ cy n5 40 fp, aq_ cy 6 wpo 12 (gf_ rp), ai_ cy (rp 0) 12 (eMp 0), ai_ cy (rp 1) 12 (eMp 1), ai_ cy (rp 2) 12 (eMp 2), ai_ cy (rp 3) 12 (eMp 3), ai_ cy (rp 4) 12 (eMp 4), ai_ cy (rp 5) 12 (eMp 5), ai_ cy (rp 6) 12 (eMp 6), ai_ cy (rp 7) 12 (eMp 7), ai_ cy (rp 8) 12 (eMp 8), ai_ cy (rp 9) 12 (eMp 9), ai_ cy (rp 10) 12 (eMp 10), ai_ cy (rp 11) 12 (eMp 11), aq_ cy 3 xk 5 (kf_ k0 k1 k2 k3 k4), ob6_0_ k0, ob5_0_ k1, ob9_0_ k2, ob2_0_ k3, ob8_0_ k4] t.heap ∧ va_D (va_A [ob10_0_ xw xc xk wpo wc wf, ob0_0_ xc xn xk clo cro c4 c5 c6 c7 c8, ob3_0_ xn vp vn n1 n2 n3 n4 n5, ai_ cy n1 40 fk, ai_ cy n2 40 fs, ai_ cy n3 40 fe, ai_ cy n5 40 fp, aq_ cy 6 wpo 12 (gf_ rp), ai_ cy (rp 0) 12 (Mp 0), ai_ cy (rp 1) 12 (Mp 1), ai_ cy (rp 2) 12 (Mp 2), ai_ cy (rp 3) 12 (Mp 3), ai_ cy (rp 4) 12 (Mp 4), ai_ cy (rp 5) 12 (Mp 5), ai_ cy (rp 6) 12 (Mp 6), ai_ cy (rp 7) 12 (Mp 7), ai_ cy (rp 8) 12 (Mp 8), ai_ cy (rp 9) 12 (Mp 9), ai_ cy (rp 10) 12 (Mp 10), ai_ cy (rp 11) 12 (Mp 11), aq_ cy 3 xk 5 (kf_ k0 k1 k2 k3 k4), ob6_0_ k0, ob5_0_ k1, ob9_0_ k2, ob2_0_ k3, ob8_0_ k4] sz) [ob10_0_ xw xc xk wpo wc wf, ob0_0_ xc xn xk clo cro c4 c5 c6 c7 c8, ob3_0_ xn vp vn n1 n2 n3 n4 n5, ai_ cy n1 40 fk, ai_ cy n2 40 fs, ai_ cy n3 40 fe, ai_ cy n5 40 fp, aq_ cy 6 wpo 12 (gf_ rp), ai_ cy (rp 0) 12 (eMp 0), ai_ cy (rp 1) 12 (eMp 1), ai_ cy (rp 2) 12 (eMp 2), ai_ cy (rp 3) 12 (eMp 3), ai_ cy (rp 4) 12 (eMp 4), ai_ cy (rp 5) 12 (eMp 5), ai_ cy (rp 6) 12 (eMp 6), ai_ cy (rp 7) 12 (eMp 7), ai_ cy (rp 8) 12 (eMp 8), ai_ cy (rp 9) 12 (eMp 9), ai_ cy (rp 10) 12 (eMp 10), ai_ cy (rp 11) 12 (eMp 11), aq_ cy 3 xk 5 (kf_ k0 k1 k2 k3 k4), ob6_0_ k0, ob5_0_ k1, ob9_0_ k2, ob2_0_ k3, ob8_0_ k4]) (va_A [ob10_0_ xw xc xk wpo wc wf, ob0_0_ xc xn xk clo cro c4 c5 c6 c7 c8, ob3_0_ xn vp vn n1 n2 n3 n4 n5, ai_ cy n1 40 fk, ai_ cy n2 40 fs, ai_ cy n3 40 fe, ai_ cy n5 40 fp, aq_ cy 6 wpo 12 (gf_ rp), ai_ cy (rp 0) 12 (Mp 0), ai_ cy (rp 1) 12 (Mp 1), ai_ cy (rp 2) 12 (Mp 2), ai_ cy (rp 3) 12 (Mp 3), ai_ cy (rp 4) 12 (Mp 4), ai_ cy (rp 5) 12 (Mp 5), ai_ cy (rp 6) 12 (Mp 6), ai_ cy (rp 7) 12 (Mp 7), ai_ cy (rp 8) 12 (Mp 8), ai_ cy (rp 9) 12 (Mp 9), ai_ cy (rp 10) 12 (Mp 10), ai_ cy (rp 11) 12 (Mp 11), aq_ cy 3 xk 5 (kf_ k0 k1 k2 k3 k4), ob6_0_ k0, ob5_0_ k1, ob9_0_ k2, ob2_0_ k3, ob8_0_ k4] sz)) 0 0 (va_A [ob10_0_ xw xc xk wpo wc wf, ob0_0_ xc xn xk clo cro c4 c5 c6 c7 c8, ob3_0_ xn vp vn n1 n2 n3 n4 n5, ai_ cy n1 40 fk, ai_ cy n2 40 fs, ai_ cy n3 40 fe, ai_ cy n5 40 fp, aq_ cy 6 wpo 12 (gf_ rp), ai_ cy (rp 0) 12 (Mp 0), ai_ cy (rp 1) 12 (Mp 1), ai_ cy (rp 2) 12 (Mp 2), ai_ cy (rp 3) 12 (Mp 3), ai_ cy (rp 4) 12 (Mp 4), ai_ cy (rp 5) 12 (Mp 5), ai_ cy (rp 6) 12 (Mp 6), ai_ cy (rp 7) 12 (Mp 7), ai_ cy (rp 8) 12 (Mp 8), ai_ cy (rp 9) 12 (Mp 9), ai_ cy (rp 10) 12 (Mp 10), ai_ cy (rp 11) 12 (Mp 11), aq_ cy 3 xk 5 (kf_ k0 k1 k2 k3 k4), ob6_0_ k0, ob5_0_ k1, ob9_0_ k2, ob2_0_ k3, ob8_0_ k4] sz) := by
  refine ofQ (cc := cX10_findPrices) (maxL := 6) (ret := none) (by decide) rfl ?_
  intro p e s m args below meth c s₁ Q hQ B hml hv
  obtain ⟨rfl, hsz, hP, hK, hD0⟩ := hv
  have hG := hK.2
  have hK := hK.1
  have hx := B.exec
  have hb := B.bytes
  have hr := B.returns
  have hts := atoms_spec (ws := wsX10_findPrices) B.pre
  have hown : s.vm.findClass RX10 = some m.cls := by have h_ := findClass_of_methodNamed B.named; exact h_
  have hlocks := B.notSynchronized
  subst hsz
  have hD := hD0.self (sz := s.heap.size)
  generalize hAe : va_A [ob10_0_ xw xc xk wpo wc wf, ob0_0_ xc xn xk clo cro c4 c5 c6 c7 c8, ob3_0_ xn vp vn n1 n2 n3 n4 n5, ai_ cy n1 40 fk, ai_ cy n2 40 fs, ai_ cy n3 40 fe, ai_ cy n5 40 fp, aq_ cy 6 wpo 12 (gf_ rp), ai_ cy (rp 0) 12 (Mp 0), ai_ cy (rp 1) 12 (Mp 1), ai_ cy (rp 2) 12 (Mp 2), ai_ cy (rp 3) 12 (Mp 3), ai_ cy (rp 4) 12 (Mp 4), ai_ cy (rp 5) 12 (Mp 5), ai_ cy (rp 6) 12 (Mp 6), ai_ cy (rp 7) 12 (Mp 7), ai_ cy (rp 8) 12 (Mp 8), ai_ cy (rp 9) 12 (Mp 9), ai_ cy (rp 10) 12 (Mp 10), ai_ cy (rp 11) 12 (Mp 11), aq_ cy 3 xk 5 (kf_ k0 k1 k2 k3 k4), ob6_0_ k0, ob5_0_ k1, ob9_0_ k2, ob2_0_ k3, ob8_0_ k4] s.heap.size = A at hD hQ
  have hA : ∀ q : Nat, s.heap.size ≤ q → A q := fun q h => by rw [← hAe]; exact Or.inr h
  have hS : va_S A s.heap s.heap [] := va_S.rf
  have hl := lv_entry ([.ref xw]) (n := 6) (Nat.le_of_ble_eq_true rfl)
  rw [lg_entry_eq]
  generalize (lg_sl ([.ref xw]) ++ List.replicate (6 - (lg_sl ([.ref xw])).length) Slot.unset).toArray = ls at hl ⊢
  have hl : lv_has ls 6 [(0, .ref xw)] := hl
  have zm9 : ((-9) : Int32).toInt = -9 := by decide
  have z0 : (0 : Int32).toInt = 0 := by decide
  have z1 : (1 : Int32).toInt = 1 := by decide
  have z2 : (2 : Int32).toInt = 2 := by decide
  have z3 : (3 : Int32).toInt = 3 := by decide
  have z4 : (4 : Int32).toInt = 4 := by decide
  have z5 : (5 : Int32).toInt = 5 := by decide
  have z6 : (6 : Int32).toInt = 6 := by decide
  have z7 : (7 : Int32).toInt = 7 := by decide
  have z8 : (8 : Int32).toInt = 8 := by decide
  have z9 : (9 : Int32).toInt = 9 := by decide
  have z10 : (10 : Int32).toInt = 10 := by decide
  have z11 : (11 : Int32).toInt = 11 := by decide
  have z1000000000 : (1000000000 : Int32).toInt = 1000000000 := by decide
  have zq0 : (0 : Int32).toInt = 0 := by decide
  have zq1 : (1 : Int32).toInt = 1 := by decide
  have zqv : (1000000000 : Int32).toInt = 1000000000 := by decide
  have cP_ := clI (i := vp) (by omega)
  refine lv_aload_n hx hb dB_36_2_3.1.1.1.1 rfl (lv_at hl 0 rfl) ?_
  refine va_get (ci := 10) (v := .ref xc) (C := RX10) (T := TX10) (N := 5) hx hb hts (fun _ h => List.mem_cons_of_mem _ (List.mem_append_left _ (List.mem_append_left _ (List.mem_append_right _ h)))) hown hK.1 hP 0 rfl rfl 0 (by decide) (hts (.fieldLink RX10 23 "CutAtlas$Widening" "current" "LCutAtlas$Current;") (List.mem_of_getElem? (i := 1) rfl)) (fun _ h9 => h9) rfl dB_36_2_3.1.1.1.2 ?_
  refine va_get (ci := 0) (v := .ref xn) (C := RX0) (T := TX0) (N := 9) hx hb hts (fun _ h => List.mem_cons_of_mem _ (List.mem_append_left _ (List.mem_append_right _ h))) hown hK.1 hP 1 rfl rfl 0 (by decide) (hts (.fieldLink RX10 47 "CutAtlas$Current" "net" "LCutAtlas$Net;") (List.mem_of_getElem? (i := 2) rfl)) (fun _ h9 => h9) rfl dB_36_2_3.1.1.2.1 ?_
  refine lv_astore_n (lv' := [(1, .ref xn), (0, .ref xw)]) hx hb dB_36_2_3.1.1.2.2 rfl hl (by decide) rfl (fun ls hl => ?_)
  refine lv_iconst (v := 0) hx hb dB_36_2_3.1.2.1.1 (by decide) ?_
  refine lv_istore_n (lv' := [(2, .int 0), (1, .ref xn), (0, .ref xw)]) hx hb dB_36_2_3.1.2.1.2 rfl hl (by decide) rfl (fun ls hl => ?_)
  suffices LOOP_1 : ∀ (n_1 : Nat) (x2_1 : Int32) (m_rp_1 : Nat → Nat → Int32) (H : Heap) (locs : List Loc) (ls : Array Slot), vp.toInt - x2_1.toInt < (n_1 : Int) → (0 ≤ x2_1.toInt) → (x2_1.toInt ≤ vp.toInt) → (∀ x y : Nat, (x : Int) < x2_1.toInt → y < 12 → (m_rp_1 x y).toInt = 1000000000) → pd_2 D vwCl A [ob10_0_ xw xc xk wpo wc wf, ob0_0_ xc xn xk clo cro c4 c5 c6 c7 c8, ob3_0_ xn vp vn n1 n2 n3 n4 n5, ai_ cy n1 40 fk, ai_ cy n2 40 fs, ai_ cy n3 40 fe, ai_ cy n5 40 fp, aq_ cy 6 wpo 12 (gf_ rp), ai_ cy (rp 0) 12 (m_rp_1 0), ai_ cy (rp 1) 12 (m_rp_1 1), ai_ cy (rp 2) 12 (m_rp_1 2), ai_ cy (rp 3) 12 (m_rp_1 3), ai_ cy (rp 4) 12 (m_rp_1 4), ai_ cy (rp 5) 12 (m_rp_1 5), ai_ cy (rp 6) 12 (m_rp_1 6), ai_ cy (rp 7) 12 (m_rp_1 7), ai_ cy (rp 8) 12 (m_rp_1 8), ai_ cy (rp 9) 12 (m_rp_1 9), ai_ cy (rp 10) 12 (m_rp_1 10), ai_ cy (rp 11) 12 (m_rp_1 11), aq_ cy 3 xk 5 (kf_ k0 k1 k2 k3 k4), ob6_0_ k0, ob5_0_ k1, ob9_0_ k2, ob2_0_ k3, ob8_0_ k4] H → va_S A s.heap H locs → lv_has ls 6 [(2, .int x2_1), (1, .ref xn), (0, .ref xw)] → W p l e ({ frames := 2, cells := 0, slots := 0, locals := 42 } : Room) s m (([.ref xw] : List Value).toArray) below meth c H locs 0 0 Q (F0 m 10 ls []) from LOOP_1 ((vp.toInt - (0 : Int32).toInt).toNat + 1) (0 : Int32) Mp _ _ _ (by omega) (by first | with_reducible assumption | omega | assumption) (by first | with_reducible assumption | omega | assumption) (by first | exact vr_st eMp v_none hfl_ (by decide) (by omega) | (intro x y hx; omega)) ⟨hP, hD⟩ hS (lv_sub hl [0, 1, 2] rfl)
  intro n_1
  induction n_1 with
  | zero =>
    intro x2_1 m_rp_1 H locs ls hm v0_1 v1_1 v2_1 hPD hS hl; obtain ⟨hP, hD⟩ := hPD
    exact absurd hm (by omega)
  | succ n_1 ih_1 =>
    intro x2_1 m_rp_1 H locs ls hm v0_1 v1_1 v2_1 hPD hS hl; obtain ⟨hP, hD⟩ := hPD
    refine lv_iload_n hx hb dB_36_2_3.1.2.2.1 rfl (lv_at hl 0 rfl) ?_
    refine lv_aload_n hx hb dB_36_2_3.1.2.2.2 rfl (lv_at hl 1 rfl) ?_
    refine va_get (ci := 3) (v := .int vp) (C := RX3) (T := TX3) (N := 7) hx hb hts (fun _ h => List.mem_cons_of_mem _ (List.mem_append_right _ h)) hown hK.1 hP 2 rfl rfl 0 (by decide) (hts (.fieldLink RX10 53 "CutAtlas$Net" "places" "I") (List.mem_of_getElem? (i := 3) rfl)) (fun _ h9 => h9) rfl dB_36_2_3.2.1.1.1 ?_
    refine lv_icmp_ge (tgt := 35) hx hb dB_36_2_3.2.1.1.2 (by decide) (fun c_2 => ?_) (fun c_2 => ?_)
    · have t_2 : vp.toInt ≤ x2_1.toInt := Int32.le_iff_toInt_le.mp c_2
      refine lv_iconst (v := 0) hx hb dB_36_2_4.1.1.2.1 (by decide) ?_
      refine lv_istore_n (lv' := [(2, .int 0), (1, .ref xn), (0, .ref xw)]) hx hb dB_36_2_4.1.1.2.2 rfl hl (by decide) rfl (fun ls hl => ?_)
      suffices LOOP_3 : ∀ (n_3 : Nat) (x2_3 : Int32) (m_rp_3 : Nat → Nat → Int32) (H : Heap) (locs : List Loc) (ls : Array Slot), vn.toInt - x2_3.toInt < (n_3 : Int) → (0 ≤ x2_3.toInt) → (x2_3.toInt ≤ vn.toInt) → (prM fk fs fe fp vp.toNatClampNeg x2_3.toNatClampNeg (zM m_rp_3)) → pd_2 D vwCl A [ob10_0_ xw xc xk wpo wc wf, ob0_0_ xc xn xk clo cro c4 c5 c6 c7 c8, ob3_0_ xn vp vn n1 n2 n3 n4 n5, ai_ cy n1 40 fk, ai_ cy n2 40 fs, ai_ cy n3 40 fe, ai_ cy n5 40 fp, aq_ cy 6 wpo 12 (gf_ rp), ai_ cy (rp 0) 12 (m_rp_3 0), ai_ cy (rp 1) 12 (m_rp_3 1), ai_ cy (rp 2) 12 (m_rp_3 2), ai_ cy (rp 3) 12 (m_rp_3 3), ai_ cy (rp 4) 12 (m_rp_3 4), ai_ cy (rp 5) 12 (m_rp_3 5), ai_ cy (rp 6) 12 (m_rp_3 6), ai_ cy (rp 7) 12 (m_rp_3 7), ai_ cy (rp 8) 12 (m_rp_3 8), ai_ cy (rp 9) 12 (m_rp_3 9), ai_ cy (rp 10) 12 (m_rp_3 10), ai_ cy (rp 11) 12 (m_rp_3 11), aq_ cy 3 xk 5 (kf_ k0 k1 k2 k3 k4), ob6_0_ k0, ob5_0_ k1, ob9_0_ k2, ob2_0_ k3, ob8_0_ k4] H → va_S A s.heap H locs → lv_has ls 6 [(2, .int x2_3), (1, .ref xn), (0, .ref xw)] → W p l e ({ frames := 2, cells := 0, slots := 0, locals := 42 } : Room) s m (([.ref xw] : List Value).toArray) below meth c H locs 0 0 Q (F0 m 37 ls []) from LOOP_3 ((vn.toInt - (0 : Int32).toInt).toNat + 1) (0 : Int32) m_rp_1 _ _ _ (by omega) (by first | with_reducible assumption | omega | assumption) (by first | with_reducible assumption | omega | assumption) (by first | exact prM_00 v2_1 (by omega) hvp | exact hpm_ _ (by omega) | exact prM_nI v_none (by omega) (by omega) (Or.inr (by omega)) | exact prM_nI v_none (by omega) (by omega) (Or.inl (by omega))) ⟨hP, hD⟩ hS (lv_sub hl [0, 1, 2] rfl)
      intro n_3
      induction n_3 with
      | zero =>
        intro x2_3 m_rp_3 H locs ls hm v0_3 v1_3 v2_3 hPD hS hl; obtain ⟨hP, hD⟩ := hPD
        exact absurd hm (by omega)
      | succ n_3 ih_3 =>
        intro x2_3 m_rp_3 H locs ls hm v0_3 v1_3 v2_3 hPD hS hl; obtain ⟨hP, hD⟩ := hPD
        refine lv_iload_n hx hb dB_36_2_4.1.2.1.1 rfl (lv_at hl 0 rfl) ?_
        refine lv_aload_n hx hb dB_36_2_4.1.2.1.2 rfl (lv_at hl 1 rfl) ?_
        refine va_get (ci := 3) (v := .int vn) (C := RX3) (T := TX3) (N := 7) hx hb hts (fun _ h => List.mem_cons_of_mem _ (List.mem_append_right _ h)) hown hK.1 hP 2 rfl rfl 1 (by decide) (hts (.fieldLink RX10 65 "CutAtlas$Net" "lines" "I") (List.mem_of_getElem? (i := 6) rfl)) (fun _ h9 => h9) rfl dB_36_2_4.1.2.2.1 ?_
        refine lv_icmp_ge (tgt := 146) hx hb dB_36_2_4.1.2.2.2 (by decide) (fun c_4 => ?_) (fun c_4 => ?_)
        · have t_4 : vn.toInt ≤ x2_3.toInt := Int32.le_iff_toInt_le.mp c_4
          rw [hQ]
          exact W.vret hx hb hr (fun t ht hW => ⟨⟨(), rfl, trivial, m_rp_3, (by rw [show vn = x2_3 from Int32.toInt_inj.mp (by omega)]; exact v2_3), by rw [ht]; exact hP, hD⟩, hS.F ht⟩) hS.2.2 dB_36_2_8.2.2
        · have t_4 : ¬ vn.toInt ≤ x2_3.toInt := fun h => c_4 (Int32.le_iff_toInt_le.mpr h)
          have cJ_ := clI (i := x2_3) (by omega)
          have hcr_ := cst_rng (k := (fk x2_3.toNatClampNeg).toInt) (r_fp x2_3.toNatClampNeg (by omega)).1 (r_fp x2_3.toNatClampNeg (by omega)).2
          refine lv_aload_n hx hb dB_36_2_4.2.1.1.1 rfl (lv_at hl 2 rfl) ?_
          refine va_get (ci := 10) (v := .ref xk) (C := RX10) (T := TX10) (N := 5) hx hb hts (fun _ h => List.mem_cons_of_mem _ (List.mem_append_left _ (List.mem_append_left _ (List.mem_append_right _ h)))) hown hK.1 hP 0 rfl rfl 1 (by decide) (hts (.fieldLink RX10 27 "CutAtlas$Widening" "kinds" "[LCutAtlas$PlainKind;") (List.mem_of_getElem? (i := 7) rfl)) (fun _ h9 => h9) rfl dB_36_2_4.2.1.1.2 ?_
          refine lv_aload_n hx hb dB_36_2_4.2.1.2.1 rfl (lv_at hl 1 rfl) ?_
          refine va_get (ci := 3) (v := .ref n1) (C := RX3) (T := TX3) (N := 7) hx hb hts (fun _ h => List.mem_cons_of_mem _ (List.mem_append_right _ h)) hown hK.1 hP 2 rfl rfl 2 (by decide) (hts (.fieldLink RX10 68 "CutAtlas$Net" "kinds" "[I") (List.mem_of_getElem? (i := 8) rfl)) (fun _ h9 => h9) rfl dB_36_2_4.2.1.2.2 ?_
          refine lv_iload_n hx hb dB_36_2_4.2.2.1.1 rfl (lv_at hl 0 rfl) ?_
          have h_5 : vp_in x2_3 40 := in_I (by first | with_reducible assumption | omega) (by omega)
          refine va_iald hx hb hK.1 hP 3 0 rfl rfl (i := x2_3) h_5 dB_36_2_4.2.2.1.2 ?_
          refine lv_topi (fun y_6 ey_6 => ?_)
          have ky_6 : y_6.toInt = (fk x2_3.toNatClampNeg).toInt := by rw [ey_6]
          have ry_6 : 0 ≤ y_6.toInt ∧ y_6.toInt ≤ 4 := by rw [ey_6]; exact r_fk _ (in_lt h_5)
          rcases sp_5 (x := y_6) (by omega) with rfl | rfl | rfl | rfl | rfl
          · refine va_aldq hx hb hK.1 hP 20 3 rfl rfl (i := 0) (by unfold vp_in; decide) dB_36_2_4.2.2.2.1 ?_
            refine lv_topv (v' := .ref k0) (by simp [va_up, va_rf, mf_, cl_0, cl_1, cl_2, cl_3, cl_4, kf_]) ?_
            refine lv_aload_n hx hb dB_36_2_4.2.2.2.2 rfl (lv_at hl 1 rfl) ?_
            refine va_get (ci := 3) (v := .ref n5) (C := RX3) (T := TX3) (N := 7) hx hb hts (fun _ h => List.mem_cons_of_mem _ (List.mem_append_right _ h)) hown hK.1 hP 2 rfl rfl 6 (by decide) (hts (.fieldLink RX10 70 "CutAtlas$Net" "prices" "[I") (List.mem_of_getElem? (i := 9) rfl)) (fun _ h9 => h9) rfl dB_36_2_5.1.1.1.1 ?_
            refine lv_iload_n hx hb dB_36_2_5.1.1.1.2 rfl (lv_at hl 0 rfl) ?_
            refine va_iald hx hb hK.1 hP 6 0 rfl rfl (i := x2_3) h_5 dB_36_2_5.1.1.2.1 ?_
            refine lv_topi (fun y_8 ey_8 => ?_)
            have ky_8 : y_8.toInt = (fp x2_3.toNatClampNeg).toInt := by rw [ey_8]
            have ry_8 : 0 ≤ y_8.toInt ∧ y_8.toInt ≤ 100 := by rw [ey_8]; exact r_fp _ (in_lt h_5)
            refine ct_R hP hD [] [] (by decide) rfl (fun hPc hDw => ?_)
            have hFc := va_free (wc := []) hD hS hA [] rfl
            refine va_calli (va_runV (As := [.int y_8]) (rest := []) ⟨hx, hb, hml, hown, hts⟩ (c_X6_costs2 l D cy H.size k0 y_8) (cwV 1 hts gX10_findPrices_X6_costs rfl rfl rfl ⟨rfl, hd_X6_costs⟩ ⟨Nat.le_of_ble_eq_true rfl, Nat.le_of_ble_eq_true rfl⟩) ⟨bl_, va_recvX hK.1 hP (ci := 6) (q0 := 21) rfl rfl, fun U hU hW => ⟨rfl, by rw [hU], by rw [hU]; exact hPc, kk_mv hW hK, hDw⟩⟩ rfl rfl hl.1 rfl (lv_room (Nat.le_of_ble_eq_true rfl)) dB_36_2_5.1.1.2.2 ⟨Nat.le_of_ble_eq_true rfl, Nat.le_of_ble_eq_true rfl⟩) hS (fun q _ h => hFc q h) hFc (fun r_9 u t H locs ht hvm hw hB hz1 hk1 hS => ?_)
            have hP : va_P D vwCl _ H := ro_keep hP hk1
            obtain ⟨f0_r_9, f1_r_9⟩ := hw
            have hcs_ : r_9.toInt = cst (fk x2_3.toNatClampNeg).toInt (fp x2_3.toNatClampNeg).toInt := by unfold cst; (repeat' (first | with_reducible refine if_n (by omega) ?_ | with_reducible refine if_ns (by omega) ?_ | with_reducible refine if_nz (by omega) ?_ | with_reducible exact if_p (by omega) (by omega) | with_reducible exact if_ps (by omega) (by omega) | with_reducible exact if_pz (by omega) (by omega))) <;> omega
            refine lv_istore_n (lv' := [(3, .int r_9), (2, .int x2_3), (1, .ref xn), (0, .ref xw)]) hx hb dB_36_2_5.1.2.1.1 rfl hl (by decide) rfl (fun ls hl => ?_)
            refine lv_iload_n hx hb dB_36_2_5.1.2.1.2 rfl (lv_at hl 0 rfl) ?_
            refine lv_bipush (v := (-9)) hx hb dB_36_2_5.1.2.2.1 (by decide) ?_
            refine lv_icmp_eq (tgt := 140) hx hb dB_36_2_5.1.2.2.2 (by decide) (fun c_10 => ?_) (fun c_10 => ?_)
            · have t_10 : r_9.toInt = ((-9) : Int32).toInt := congrArg Int32.toInt c_10
              first | (have hpm_ : ∀ i2 : Int32, i2.toInt = x2_3.toInt + 1 → prM fk fs fe fp vp.toNatClampNeg i2.toNatClampNeg (zM m_rp_3) := fun i2 ei => prM_sI v2_3 (by omega) ei hms_ S[ea] S[eb] (by omega) (by omega) (by omega) (by omega) (by omega) hcs_ (by omega) (by omega) hv1_ S[q1] em_rp_3 S[ev2]) | skip
              obtain ⟨y_11, ey_11⟩ : ∃ y : Int32, y = x2_3 + 1 := ⟨_, rfl⟩
              have ty_11 : y_11.toInt = x2_3.toInt + (1 : Int32).toInt := by rw [ey_11]; exact addI (by omega) (by omega)
              refine lv_iinc (v := y_11) (lv' := [(2, .int y_11), (3, .int r_9), (1, .ref xn), (0, .ref xw)]) hx hb dB_36_2_8.1 hl (k := 1) rfl (by rw [ey_11]; rfl) (by decide) rfl (fun ls hl => ?_)
              refine lv_goto (tgt := 37) hx hb dB_36_2_8.2.1 (by decide) ?_
              exact ih_3 y_11 m_rp_3 _ _ _ (by omega) (by first | with_reducible assumption | omega | assumption) (by first | with_reducible assumption | omega | assumption) (by first | exact prM_00 v2_1 (by omega) hvp | exact hpm_ _ (by omega) | exact prM_nI v2_3 (by omega) (by omega) (Or.inr (by omega)) | exact prM_nI v2_3 (by omega) (by omega) (Or.inl (by omega))) ⟨hP, hD⟩ hS (lv_sub hl [0, 2, 3] rfl)
            · have t_10 : ¬ r_9.toInt = ((-9) : Int32).toInt := fun h => c_10 (Int32.toInt_inj.mp h)
              refine lv_aload_n hx hb dB_36_2_5.2.1.1.1 rfl (lv_at hl 2 rfl) ?_
              refine lv_iload_n hx hb dB_36_2_5.2.1.1.2 rfl (lv_at hl 1 rfl) ?_
              refine ct_R hP hD [ob3_0_ xn vp vn n1 n2 n3 n4 n5, ai_ cy n2 40 fs] [2, 4] (by decide) rfl (fun hPc hDw => ?_)
              have hFc := va_free (wc := []) hD hS hA [] rfl
              refine va_calli (va_runV (As := [.int x2_3]) (rest := []) ⟨hx, hb, hml, hown, hts⟩ (c_X3_isMissing l D cy H.size xn n1 n2 n3 n4 n5 vp vn fs x2_3 (by first | with_reducible assumption | omega | assumption)) (cwV 1 hts gX10_findPrices_X3_isMissing rfl rfl rfl ⟨rfl, hd_X3_isMissing⟩ ⟨Nat.le_of_ble_eq_true rfl, Nat.le_of_ble_eq_true rfl⟩) ⟨bl_, va_recvX hK.1 hP (ci := 3) (q0 := 2) rfl rfl, fun U hU hW => ⟨rfl, by rw [hU], by rw [hU]; exact hPc, kk_mv hW hK, hDw⟩⟩ rfl rfl hl.1 rfl (lv_room (Nat.le_of_ble_eq_true rfl)) dB_36_2_5.2.1.2.1 ⟨Nat.le_of_ble_eq_true rfl, Nat.le_of_ble_eq_true rfl⟩) hS (fun q _ h => hFc q h) hFc (fun r_12 u t H locs ht hvm hw hB hz1 hk1 hS => ?_)
              have hP : va_P D vwCl _ H := ro_keep hP hk1
              rcases hw with ⟨w_13, e_⟩ | ⟨w_13, e_⟩
              · have e_ := e_.symm
                subst e_
                refine lv_if_ne (tgt := 140) hx hb dB_36_2_5.2.1.2.2 (by decide) (fun c_14 => ?_) (fun c_14 => ?_)
                · have _ := c_14
                  first | (have hpm_ : ∀ i2 : Int32, i2.toInt = x2_3.toInt + 1 → prM fk fs fe fp vp.toNatClampNeg i2.toNatClampNeg (zM m_rp_3) := fun i2 ei => prM_sI v2_3 (by omega) ei hms_ S[ea] S[eb] (by omega) (by omega) (by omega) (by omega) (by omega) hcs_ (by omega) (by omega) hv1_ S[q1] em_rp_3 S[ev2]) | skip
                  obtain ⟨y_15, ey_15⟩ : ∃ y : Int32, y = x2_3 + 1 := ⟨_, rfl⟩
                  have ty_15 : y_15.toInt = x2_3.toInt + (1 : Int32).toInt := by rw [ey_15]; exact addI (by omega) (by omega)
                  refine lv_iinc (v := y_15) (lv' := [(2, .int y_15), (3, .int r_9), (1, .ref xn), (0, .ref xw)]) hx hb dB_36_2_8.1 hl (k := 1) rfl (by rw [ey_15]; rfl) (by decide) rfl (fun ls hl => ?_)
                  refine lv_goto (tgt := 37) hx hb dB_36_2_8.2.1 (by decide) ?_
                  exact ih_3 y_15 m_rp_3 _ _ _ (by omega) (by first | with_reducible assumption | omega | assumption) (by first | with_reducible assumption | omega | assumption) (by first | exact prM_00 v2_1 (by omega) hvp | exact hpm_ _ (by omega) | exact prM_nI v2_3 (by omega) (by omega) (Or.inr (by omega)) | exact prM_nI v2_3 (by omega) (by omega) (Or.inl (by omega))) ⟨hP, hD⟩ hS (lv_sub hl [0, 2, 3] rfl)
                · exact absurd c_14 (by decide)
              · have e_ := e_.symm
                subst e_
                refine lv_if_ne (tgt := 140) hx hb dB_36_2_5.2.1.2.2 (by decide) (fun c_16 => ?_) (fun c_16 => ?_)
                · exact absurd c_16 (by decide)
                · have _ := c_16
                  have hms_ : (fs x2_3.toNatClampNeg).toInt ≠ -9 := by omega
                  have hpc_ := hnc x2_3.toNatClampNeg (by omega) hms_
                  have hdd_ := hdc x2_3.toNatClampNeg (by omega) hms_
                  refine lv_aload_n hx hb dB_36_2_5.2.2.1.1 rfl (lv_at hl 2 rfl) ?_
                  refine va_get (ci := 3) (v := .ref n2) (C := RX3) (T := TX3) (N := 7) hx hb hts (fun _ h => List.mem_cons_of_mem _ (List.mem_append_right _ h)) hown hK.1 hP 2 rfl rfl 3 (by decide) (hts (.fieldLink RX10 81 "CutAtlas$Net" "starts" "[I") (List.mem_of_getElem? (i := 10) rfl)) (fun _ h9 => h9) rfl dB_36_2_5.2.2.1.2 ?_
                  refine lv_iload_n hx hb dB_36_2_5.2.2.2.1 rfl (lv_at hl 1 rfl) ?_
                  refine va_iald hx hb hK.1 hP 4 0 rfl rfl (i := x2_3) h_5 dB_36_2_5.2.2.2.2 ?_
                  refine lv_topi (fun y_18 ey_18 => ?_)
                  have ky_18 : y_18.toInt = (fs x2_3.toNatClampNeg).toInt := by rw [ey_18]
                  have ry_18 := hpr _ (in_lt h_5)
                  have jy_18 : y_18.toInt = (fs x2_3.toNatClampNeg).toInt := by rw [ey_18]
                  have cA_ := clI (i := y_18) (by omega)
                  refine lv_istore (lv' := [(4, .int y_18), (3, .int r_9), (2, .int x2_3), (1, .ref xn), (0, .ref xw)]) hx hb dB_36_2_6.1.1.1.1 hl (by decide) rfl (fun ls hl => ?_)
                  refine lv_aload_n hx hb dB_36_2_6.1.1.1.2 rfl (lv_at hl 3 rfl) ?_
                  refine va_get (ci := 3) (v := .ref n3) (C := RX3) (T := TX3) (N := 7) hx hb hts (fun _ h => List.mem_cons_of_mem _ (List.mem_append_right _ h)) hown hK.1 hP 2 rfl rfl 4 (by decide) (hts (.fieldLink RX10 84 "CutAtlas$Net" "ends" "[I") (List.mem_of_getElem? (i := 11) rfl)) (fun _ h9 => h9) rfl dB_36_2_6.1.1.2.1 ?_
                  refine lv_iload_n hx hb dB_36_2_6.1.1.2.2 rfl (lv_at hl 2 rfl) ?_
                  refine va_iald hx hb hK.1 hP 5 0 rfl rfl (i := x2_3) h_5 dB_36_2_6.1.2.1.1 ?_
                  refine lv_topi (fun y_20 ey_20 => ?_)
                  have ky_20 : y_20.toInt = (fe x2_3.toNatClampNeg).toInt := by rw [ey_20]
                  have ry_20 := hpr _ (in_lt h_5)
                  have jy_20 : y_20.toInt = (fe x2_3.toNatClampNeg).toInt := by rw [ey_20]
                  have cB_ := clI (i := y_20) (by omega)
                  refine lv_istore (lv' := [(5, .int y_20), (4, .int y_18), (3, .int r_9), (2, .int x2_3), (1, .ref xn), (0, .ref xw)]) hx hb dB_36_2_6.1.2.1.2 hl (by decide) rfl (fun ls hl => ?_)
                  refine lv_aload_n hx hb dB_36_2_6.1.2.2.1 rfl (lv_at hl 5 rfl) ?_
                  refine va_get (ci := 10) (v := .ref wpo) (C := RX10) (T := TX10) (N := 5) hx hb hts (fun _ h => List.mem_cons_of_mem _ (List.mem_append_left _ (List.mem_append_left _ (List.mem_append_right _ h)))) hown hK.1 hP 0 rfl rfl 2 (by decide) (hts (.fieldLink RX10 11 "CutAtlas$Widening" "prices" "[[I") (List.mem_of_getElem? (i := 4) rfl)) (fun _ h9 => h9) rfl dB_36_2_6.1.2.2.2 ?_
                  refine lv_iload hx hb dB_36_2_6.2.1.1.1 (lv_at hl 1 rfl) ?_
                  have h_21 : vp_in y_18 12 := in_I (by first | with_reducible assumption | omega) (by omega)
                  refine va_alda hx hb hG hP 7 rfl (i := y_18) h_21 dB_36_2_6.2.1.1.2 ?_
                  refine lv_topv (v' := .ref (rp y_18.toNatClampNeg)) (gf_at h_21) ?_
                  refine lv_iload hx hb dB_36_2_6.2.1.2.1 (lv_at hl 0 rfl) ?_
                  refine lv_aload_n hx hb dB_36_2_6.2.1.2.2 rfl (lv_at hl 5 rfl) ?_
                  refine va_get (ci := 10) (v := .ref wpo) (C := RX10) (T := TX10) (N := 5) hx hb hts (fun _ h => List.mem_cons_of_mem _ (List.mem_append_left _ (List.mem_append_left _ (List.mem_append_right _ h)))) hown hK.1 hP 0 rfl rfl 2 (by decide) (hts (.fieldLink RX10 11 "CutAtlas$Widening" "prices" "[[I") (List.mem_of_getElem? (i := 4) rfl)) (fun _ h9 => h9) rfl dB_36_2_6.2.2.1.1 ?_
                  refine lv_iload hx hb dB_36_2_6.2.2.1.2 (lv_at hl 1 rfl) ?_
                  refine va_alda hx hb hG hP 7 rfl (i := y_18) h_21 dB_36_2_6.2.2.2.1 ?_
                  refine lv_topv (v' := .ref (rp y_18.toNatClampNeg)) (gf_at h_21) ?_
                  refine lv_iload hx hb dB_36_2_6.2.2.2.2 (lv_at hl 0 rfl) ?_
                  have h_23 : vp_in y_20 12 := in_I (by first | with_reducible assumption | omega) (by omega)
                  have hPg : va_P D vwCl (([ob10_0_ xw xc xk wpo wc wf, ob0_0_ xc xn xk clo cro c4 c5 c6 c7 c8, ob3_0_ xn vp vn n1 n2 n3 n4 n5, ai_ cy n1 40 fk, ai_ cy n2 40 fs, ai_ cy n3 40 fe, ai_ cy n5 40 fp, aq_ cy 6 wpo 12 (gf_ rp)] : va_W) ++ (gro (cy 0) rp m_rp_3 ++ ([aq_ cy 3 xk 5 (kf_ k0 k1 k2 k3 k4), ob6_0_ k0, ob5_0_ k1, ob9_0_ k2, ob2_0_ k3, ob8_0_ k4] : va_W))) H := hP
                  refine va_gld (X := [ob10_0_ xw xc xk wpo wc wf, ob0_0_ xc xn xk clo cro c4 c5 c6 c7 c8, ob3_0_ xn vp vn n1 n2 n3 n4 n5, ai_ cy n1 40 fk, ai_ cy n2 40 fs, ai_ cy n3 40 fe, ai_ cy n5 40 fp, aq_ cy 6 wpo 12 (gf_ rp)]) (Y := [aq_ cy 3 xk 5 (kf_ k0 k1 k2 k3 k4), ob6_0_ k0, ob5_0_ k1, ob9_0_ k2, ob2_0_ k3, ob8_0_ k4]) (r := rp) (M := m_rp_3) (k := y_18.toNatClampNeg) hx hb hK.1 hPg 0 rfl (in_lt h_21) (i := y_20) h_23 dB_36_2_7.1.1.1.1 ?_
                  refine lv_topi (fun y_24 ey_24 => ?_)
                  have km1_ : y_24.toInt = (m_rp_3 y_18.toNatClampNeg y_20.toNatClampNeg).toInt := by rw [ey_24]
                  refine lv_iload_n hx hb dB_36_2_7.1.1.1.2 rfl (lv_at hl 2 rfl) ?_
                  refine va_mmin hx hb (by rw [hml]; exact hl.1.symm) hown (hts (.methodLink RX10 87 Lib.Math.min.name) (pc_X10_findPrices wsX10_findPrices_r1 (List.mem_of_getElem? (i := 1) rfl) _ (List.mem_of_getElem? (i := 11) rfl))) (hts (.static Lib.Math.min.name) (pc_X10_findPrices wsX10_findPrices_r1 (List.mem_of_getElem? (i := 1) rfl) _ (List.mem_of_getElem? (i := 12) rfl))) (hts (.initialized "java/lang/Math") (pc_X10_findPrices wsX10_findPrices_r1 (List.mem_of_getElem? (i := 1) rfl) _ (List.mem_of_getElem? (i := 13) rfl))) (hts (.code Lib.Math.min.name Lib.Math.min.code 2 (some .int)) (pc_X10_findPrices wsX10_findPrices_r1 (List.mem_of_getElem? (i := 1) rfl) _ (List.mem_of_getElem? (i := 14) rfl))) (Nat.le_of_ble_eq_true rfl) (Nat.le_of_ble_eq_true rfl) (Nat.le_of_ble_eq_true rfl) (Nat.le_of_ble_eq_true rfl) dB_36_2_7.1.1.2.1 ?_
                  refine lv_topi (fun y_25 ey_25 => ?_)
                  have ty_25 : y_25 = y_24 ∨ y_25 = r_9 := by rw [ey_25]; split <;> simp
                  have iy_25 : y_25.toInt = y_24.toInt ∨ y_25.toInt = r_9.toInt := by rcases ty_25 with h | h <;> rw [h] <;> simp
                  have hv1_ : y_25.toInt = loI (m_rp_3 y_18.toNatClampNeg y_20.toNatClampNeg).toInt r_9.toInt := by have h_ := mnI ey_25; rw [km1_] at h_; exact h_
                  have hPg : va_P D vwCl (([ob10_0_ xw xc xk wpo wc wf, ob0_0_ xc xn xk clo cro c4 c5 c6 c7 c8, ob3_0_ xn vp vn n1 n2 n3 n4 n5, ai_ cy n1 40 fk, ai_ cy n2 40 fs, ai_ cy n3 40 fe, ai_ cy n5 40 fp, aq_ cy 6 wpo 12 (gf_ rp)] : va_W) ++ (gro (cy 0) rp m_rp_3 ++ ([aq_ cy 3 xk 5 (kf_ k0 k1 k2 k3 k4), ob6_0_ k0, ob5_0_ k1, ob9_0_ k2, ob2_0_ k3, ob8_0_ k4] : va_W))) H := hP
                  have hDg : va_D A (([ob10_0_ xw xc xk wpo wc wf, ob0_0_ xc xn xk clo cro c4 c5 c6 c7 c8, ob3_0_ xn vp vn n1 n2 n3 n4 n5, ai_ cy n1 40 fk, ai_ cy n2 40 fs, ai_ cy n3 40 fe, ai_ cy n5 40 fp, aq_ cy 6 wpo 12 (gf_ rp)] : va_W) ++ (gro (cy 0) rp m_rp_3 ++ ([aq_ cy 3 xk 5 (kf_ k0 k1 k2 k3 k4), ob6_0_ k0, ob5_0_ k1, ob9_0_ k2, ob2_0_ k3, ob8_0_ k4] : va_W))) := hD
                  refine va_gst (X := [ob10_0_ xw xc xk wpo wc wf, ob0_0_ xc xn xk clo cro c4 c5 c6 c7 c8, ob3_0_ xn vp vn n1 n2 n3 n4 n5, ai_ cy n1 40 fk, ai_ cy n2 40 fs, ai_ cy n3 40 fe, ai_ cy n5 40 fp, aq_ cy 6 wpo 12 (gf_ rp)]) (Y := [aq_ cy 3 xk 5 (kf_ k0 k1 k2 k3 k4), ob6_0_ k0, ob5_0_ k1, ob9_0_ k2, ob2_0_ k3, ob8_0_ k4]) (r := rp) (M := m_rp_3) (k := y_18.toNatClampNeg) hx hb hK.1 hPg hDg hS 0 rfl (in_lt h_21) (i := y_20) h_23 dB_36_2_7.1.1.2.2 (fun H locs hP hD hS => ?_)
                  obtain ⟨M_27, eM_27⟩ : ∃ g : Nat → Nat → Int32, g = va_up m_rp_3 y_18.toNatClampNeg (upd (m_rp_3 y_18.toNatClampNeg) y_20.toNatClampNeg y_25) := ⟨_, rfl⟩
                  refine pd_K (D := D) (cl := vwCl) (H := H) (A := A) [ob10_0_ xw xc xk wpo wc wf, ob0_0_ xc xn xk clo cro c4 c5 c6 c7 c8, ob3_0_ xn vp vn n1 n2 n3 n4 n5, ai_ cy n1 40 fk, ai_ cy n2 40 fs, ai_ cy n3 40 fe, ai_ cy n5 40 fp, aq_ cy 6 wpo 12 (gf_ rp), ai_ cy (rp 0) 12 (M_27 0), ai_ cy (rp 1) 12 (M_27 1), ai_ cy (rp 2) 12 (M_27 2), ai_ cy (rp 3) 12 (M_27 3), ai_ cy (rp 4) 12 (M_27 4), ai_ cy (rp 5) 12 (M_27 5), ai_ cy (rp 6) 12 (M_27 6), ai_ cy (rp 7) 12 (M_27 7), ai_ cy (rp 8) 12 (M_27 8), ai_ cy (rp 9) 12 (M_27 9), ai_ cy (rp 10) 12 (M_27 10), ai_ cy (rp 11) 12 (M_27 11), aq_ cy 3 xk 5 (kf_ k0 k1 k2 k3 k4), ob6_0_ k0, ob5_0_ k1, ob9_0_ k2, ob2_0_ k3, ob8_0_ k4] (by rw [eM_27]; exact hP) (by rw [eM_27]; exact hD) (fun hP hD => ?_)
                  refine lv_aload_n hx hb dB_36_2_7.1.2.1.1 rfl (lv_at hl 5 rfl) ?_
                  refine va_get (ci := 10) (v := .ref wpo) (C := RX10) (T := TX10) (N := 5) hx hb hts (fun _ h => List.mem_cons_of_mem _ (List.mem_append_left _ (List.mem_append_left _ (List.mem_append_right _ h)))) hown hK.1 hP 0 rfl rfl 2 (by decide) (hts (.fieldLink RX10 11 "CutAtlas$Widening" "prices" "[[I") (List.mem_of_getElem? (i := 4) rfl)) (fun _ h9 => h9) rfl dB_36_2_7.1.2.1.2 ?_
                  refine lv_iload hx hb dB_36_2_7.1.2.2.1 (lv_at hl 0 rfl) ?_
                  refine va_alda hx hb hG hP 7 rfl (i := y_20) h_23 dB_36_2_7.1.2.2.2 ?_
                  refine lv_topv (v' := .ref (rp y_20.toNatClampNeg)) (gf_at h_23) ?_
                  refine lv_iload hx hb dB_36_2_7.2.1.1.1 (lv_at hl 1 rfl) ?_
                  refine lv_aload_n hx hb dB_36_2_7.2.1.1.2 rfl (lv_at hl 5 rfl) ?_
                  refine va_get (ci := 10) (v := .ref wpo) (C := RX10) (T := TX10) (N := 5) hx hb hts (fun _ h => List.mem_cons_of_mem _ (List.mem_append_left _ (List.mem_append_left _ (List.mem_append_right _ h)))) hown hK.1 hP 0 rfl rfl 2 (by decide) (hts (.fieldLink RX10 11 "CutAtlas$Widening" "prices" "[[I") (List.mem_of_getElem? (i := 4) rfl)) (fun _ h9 => h9) rfl dB_36_2_7.2.1.2.1 ?_
                  refine lv_iload hx hb dB_36_2_7.2.1.2.2 (lv_at hl 1 rfl) ?_
                  refine va_alda hx hb hG hP 7 rfl (i := y_18) h_21 dB_36_2_7.2.2.1.1 ?_
                  refine lv_topv (v' := .ref (rp y_18.toNatClampNeg)) (gf_at h_21) ?_
                  refine lv_iload hx hb dB_36_2_7.2.2.1.2 (lv_at hl 0 rfl) ?_
                  have hPg : va_P D vwCl (([ob10_0_ xw xc xk wpo wc wf, ob0_0_ xc xn xk clo cro c4 c5 c6 c7 c8, ob3_0_ xn vp vn n1 n2 n3 n4 n5, ai_ cy n1 40 fk, ai_ cy n2 40 fs, ai_ cy n3 40 fe, ai_ cy n5 40 fp, aq_ cy 6 wpo 12 (gf_ rp)] : va_W) ++ (gro (cy 0) rp M_27 ++ ([aq_ cy 3 xk 5 (kf_ k0 k1 k2 k3 k4), ob6_0_ k0, ob5_0_ k1, ob9_0_ k2, ob2_0_ k3, ob8_0_ k4] : va_W))) H := hP
                  refine va_gld (X := [ob10_0_ xw xc xk wpo wc wf, ob0_0_ xc xn xk clo cro c4 c5 c6 c7 c8, ob3_0_ xn vp vn n1 n2 n3 n4 n5, ai_ cy n1 40 fk, ai_ cy n2 40 fs, ai_ cy n3 40 fe, ai_ cy n5 40 fp, aq_ cy 6 wpo 12 (gf_ rp)]) (Y := [aq_ cy 3 xk 5 (kf_ k0 k1 k2 k3 k4), ob6_0_ k0, ob5_0_ k1, ob9_0_ k2, ob2_0_ k3, ob8_0_ k4]) (r := rp) (M := M_27) (k := y_18.toNatClampNeg) hx hb hK.1 hPg 0 rfl (in_lt h_21) (i := y_20) h_23 dB_36_2_7.2.2.2.1 ?_
                  refine lv_topi (fun y_31 ey_31 => ?_)
                  have hPg : va_P D vwCl (([ob10_0_ xw xc xk wpo wc wf, ob0_0_ xc xn xk clo cro c4 c5 c6 c7 c8, ob3_0_ xn vp vn n1 n2 n3 n4 n5, ai_ cy n1 40 fk, ai_ cy n2 40 fs, ai_ cy n3 40 fe, ai_ cy n5 40 fp, aq_ cy 6 wpo 12 (gf_ rp)] : va_W) ++ (gro (cy 0) rp M_27 ++ ([aq_ cy 3 xk 5 (kf_ k0 k1 k2 k3 k4), ob6_0_ k0, ob5_0_ k1, ob9_0_ k2, ob2_0_ k3, ob8_0_ k4] : va_W))) H := hP
                  have hDg : va_D A (([ob10_0_ xw xc xk wpo wc wf, ob0_0_ xc xn xk clo cro c4 c5 c6 c7 c8, ob3_0_ xn vp vn n1 n2 n3 n4 n5, ai_ cy n1 40 fk, ai_ cy n2 40 fs, ai_ cy n3 40 fe, ai_ cy n5 40 fp, aq_ cy 6 wpo 12 (gf_ rp)] : va_W) ++ (gro (cy 0) rp M_27 ++ ([aq_ cy 3 xk 5 (kf_ k0 k1 k2 k3 k4), ob6_0_ k0, ob5_0_ k1, ob9_0_ k2, ob2_0_ k3, ob8_0_ k4] : va_W))) := hD
                  refine va_gst (X := [ob10_0_ xw xc xk wpo wc wf, ob0_0_ xc xn xk clo cro c4 c5 c6 c7 c8, ob3_0_ xn vp vn n1 n2 n3 n4 n5, ai_ cy n1 40 fk, ai_ cy n2 40 fs, ai_ cy n3 40 fe, ai_ cy n5 40 fp, aq_ cy 6 wpo 12 (gf_ rp)]) (Y := [aq_ cy 3 xk 5 (kf_ k0 k1 k2 k3 k4), ob6_0_ k0, ob5_0_ k1, ob9_0_ k2, ob2_0_ k3, ob8_0_ k4]) (r := rp) (M := M_27) (k := y_20.toNatClampNeg) hx hb hK.1 hPg hDg hS 0 rfl (in_lt h_23) (i := y_18) h_21 dB_36_2_7.2.2.2.2 (fun H locs hP hD hS => ?_)
                  obtain ⟨M_33, eM_33⟩ : ∃ g : Nat → Nat → Int32, g = va_up M_27 y_20.toNatClampNeg (upd (M_27 y_20.toNatClampNeg) y_18.toNatClampNeg y_31) := ⟨_, rfl⟩
                  refine pd_K (D := D) (cl := vwCl) (H := H) (A := A) [ob10_0_ xw xc xk wpo wc wf, ob0_0_ xc xn xk clo cro c4 c5 c6 c7 c8, ob3_0_ xn vp vn n1 n2 n3 n4 n5, ai_ cy n1 40 fk, ai_ cy n2 40 fs, ai_ cy n3 40 fe, ai_ cy n5 40 fp, aq_ cy 6 wpo 12 (gf_ rp), ai_ cy (rp 0) 12 (M_33 0), ai_ cy (rp 1) 12 (M_33 1), ai_ cy (rp 2) 12 (M_33 2), ai_ cy (rp 3) 12 (M_33 3), ai_ cy (rp 4) 12 (M_33 4), ai_ cy (rp 5) 12 (M_33 5), ai_ cy (rp 6) 12 (M_33 6), ai_ cy (rp 7) 12 (M_33 7), ai_ cy (rp 8) 12 (M_33 8), ai_ cy (rp 9) 12 (M_33 9), ai_ cy (rp 10) 12 (M_33 10), ai_ cy (rp 11) 12 (M_33 11), aq_ cy 3 xk 5 (kf_ k0 k1 k2 k3 k4), ob6_0_ k0, ob5_0_ k1, ob9_0_ k2, ob2_0_ k3, ob8_0_ k4] (by rw [eM_33]; exact hP) (by rw [eM_33]; exact hD) (fun hP hD => ?_)
                  first | (have hpm_ : ∀ i2 : Int32, i2.toInt = x2_3.toInt + 1 → prM fk fs fe fp vp.toNatClampNeg i2.toNatClampNeg (zM M_33) := fun i2 ei => prM_sI v2_3 (by omega) ei hms_ ey_18 ey_20 (by omega) (by omega) (by omega) (by omega) (by omega) hcs_ (by omega) (by omega) hv1_ eM_27 eM_33 ey_31) | skip
                  obtain ⟨y_34, ey_34⟩ : ∃ y : Int32, y = x2_3 + 1 := ⟨_, rfl⟩
                  have ty_34 : y_34.toInt = x2_3.toInt + (1 : Int32).toInt := by rw [ey_34]; exact addI (by omega) (by omega)
                  refine lv_iinc (v := y_34) (lv' := [(2, .int y_34), (5, .int y_20), (4, .int y_18), (3, .int r_9), (1, .ref xn), (0, .ref xw)]) hx hb dB_36_2_8.1 hl (k := 3) rfl (by rw [ey_34]; rfl) (by decide) rfl (fun ls hl => ?_)
                  refine lv_goto (tgt := 37) hx hb dB_36_2_8.2.1 (by decide) ?_
                  exact ih_3 y_34 M_33 _ _ _ (by omega) (by first | with_reducible assumption | omega | assumption) (by first | with_reducible assumption | omega | assumption) (by first | exact prM_00 v2_1 (by omega) hvp | exact hpm_ _ (by omega) | exact prM_nI v2_3 (by omega) (by omega) (Or.inr (by omega)) | exact prM_nI v2_3 (by omega) (by omega) (Or.inl (by omega))) ⟨hP, hD⟩ hS (lv_sub hl [0, 4, 5] rfl)
          · refine va_aldq hx hb hK.1 hP 20 3 rfl rfl (i := 1) (by unfold vp_in; decide) dB_36_2_4.2.2.2.1 ?_
            refine lv_topv (v' := .ref k1) (by simp [va_up, va_rf, mf_, cl_0, cl_1, cl_2, cl_3, cl_4, kf_]) ?_
            refine lv_aload_n hx hb dB_36_2_4.2.2.2.2 rfl (lv_at hl 1 rfl) ?_
            refine va_get (ci := 3) (v := .ref n5) (C := RX3) (T := TX3) (N := 7) hx hb hts (fun _ h => List.mem_cons_of_mem _ (List.mem_append_right _ h)) hown hK.1 hP 2 rfl rfl 6 (by decide) (hts (.fieldLink RX10 70 "CutAtlas$Net" "prices" "[I") (List.mem_of_getElem? (i := 9) rfl)) (fun _ h9 => h9) rfl dB_36_2_5.1.1.1.1 ?_
            refine lv_iload_n hx hb dB_36_2_5.1.1.1.2 rfl (lv_at hl 0 rfl) ?_
            refine va_iald hx hb hK.1 hP 6 0 rfl rfl (i := x2_3) h_5 dB_36_2_5.1.1.2.1 ?_
            refine lv_topi (fun y_36 ey_36 => ?_)
            have ky_36 : y_36.toInt = (fp x2_3.toNatClampNeg).toInt := by rw [ey_36]
            have ry_36 : 0 ≤ y_36.toInt ∧ y_36.toInt ≤ 100 := by rw [ey_36]; exact r_fp _ (in_lt h_5)
            refine ct_R hP hD [] [] (by decide) rfl (fun hPc hDw => ?_)
            have hFc := va_free (wc := []) hD hS hA [] rfl
            refine va_calli (va_runU (As := [.int y_36]) (rest := []) ⟨hx, hb, hml, hown, hts⟩ (c_X6_costs2 l D cy H.size k1 y_36) (va_cwU 1 hts gX10_findPrices_X6_costs_u72X5 rfl rfl rfl rfl (by decide +kernel) ⟨Nat.le_of_ble_eq_true rfl, Nat.le_of_ble_eq_true rfl⟩) ⟨bl_, va_recvX hK.1 hP (ci := 5) (q0 := 22) rfl rfl, fun U hU hW => ⟨rfl, by rw [hU], by rw [hU]; exact hPc, kk_mv hW hK, hDw⟩⟩ rfl rfl hl.1 rfl (lv_room (Nat.le_of_ble_eq_true rfl)) dB_36_2_5.1.1.2.2 ⟨Nat.le_of_ble_eq_true rfl, Nat.le_of_ble_eq_true rfl⟩) hS (fun q _ h => hFc q h) hFc (fun r_37 u t H locs ht hvm hw hB hz1 hk1 hS => ?_)
            have hP : va_P D vwCl _ H := ro_keep hP hk1
            obtain ⟨f0_r_37, f1_r_37⟩ := hw
            have hcs_ : r_37.toInt = cst (fk x2_3.toNatClampNeg).toInt (fp x2_3.toNatClampNeg).toInt := by unfold cst; (repeat' (first | with_reducible refine if_n (by omega) ?_ | with_reducible refine if_ns (by omega) ?_ | with_reducible refine if_nz (by omega) ?_ | with_reducible exact if_p (by omega) (by omega) | with_reducible exact if_ps (by omega) (by omega) | with_reducible exact if_pz (by omega) (by omega))) <;> omega
            refine lv_istore_n (lv' := [(3, .int r_37), (2, .int x2_3), (1, .ref xn), (0, .ref xw)]) hx hb dB_36_2_5.1.2.1.1 rfl hl (by decide) rfl (fun ls hl => ?_)
            refine lv_iload_n hx hb dB_36_2_5.1.2.1.2 rfl (lv_at hl 0 rfl) ?_
            refine lv_bipush (v := (-9)) hx hb dB_36_2_5.1.2.2.1 (by decide) ?_
            refine lv_icmp_eq (tgt := 140) hx hb dB_36_2_5.1.2.2.2 (by decide) (fun c_38 => ?_) (fun c_38 => ?_)
            · have t_38 : r_37.toInt = ((-9) : Int32).toInt := congrArg Int32.toInt c_38
              first | (have hpm_ : ∀ i2 : Int32, i2.toInt = x2_3.toInt + 1 → prM fk fs fe fp vp.toNatClampNeg i2.toNatClampNeg (zM m_rp_3) := fun i2 ei => prM_sI v2_3 (by omega) ei hms_ S[ea] S[eb] (by omega) (by omega) (by omega) (by omega) (by omega) hcs_ (by omega) (by omega) hv1_ S[q1] em_rp_3 S[ev2]) | skip
              obtain ⟨y_39, ey_39⟩ : ∃ y : Int32, y = x2_3 + 1 := ⟨_, rfl⟩
              have ty_39 : y_39.toInt = x2_3.toInt + (1 : Int32).toInt := by rw [ey_39]; exact addI (by omega) (by omega)
              refine lv_iinc (v := y_39) (lv' := [(2, .int y_39), (3, .int r_37), (1, .ref xn), (0, .ref xw)]) hx hb dB_36_2_8.1 hl (k := 1) rfl (by rw [ey_39]; rfl) (by decide) rfl (fun ls hl => ?_)
              refine lv_goto (tgt := 37) hx hb dB_36_2_8.2.1 (by decide) ?_
              exact ih_3 y_39 m_rp_3 _ _ _ (by omega) (by first | with_reducible assumption | omega | assumption) (by first | with_reducible assumption | omega | assumption) (by first | exact prM_00 v2_1 (by omega) hvp | exact hpm_ _ (by omega) | exact prM_nI v2_3 (by omega) (by omega) (Or.inr (by omega)) | exact prM_nI v2_3 (by omega) (by omega) (Or.inl (by omega))) ⟨hP, hD⟩ hS (lv_sub hl [0, 2, 3] rfl)
            · have t_38 : ¬ r_37.toInt = ((-9) : Int32).toInt := fun h => c_38 (Int32.toInt_inj.mp h)
              refine lv_aload_n hx hb dB_36_2_5.2.1.1.1 rfl (lv_at hl 2 rfl) ?_
              refine lv_iload_n hx hb dB_36_2_5.2.1.1.2 rfl (lv_at hl 1 rfl) ?_
              refine ct_R hP hD [ob3_0_ xn vp vn n1 n2 n3 n4 n5, ai_ cy n2 40 fs] [2, 4] (by decide) rfl (fun hPc hDw => ?_)
              have hFc := va_free (wc := []) hD hS hA [] rfl
              refine va_calli (va_runV (As := [.int x2_3]) (rest := []) ⟨hx, hb, hml, hown, hts⟩ (c_X3_isMissing l D cy H.size xn n1 n2 n3 n4 n5 vp vn fs x2_3 (by first | with_reducible assumption | omega | assumption)) (cwV 1 hts gX10_findPrices_X3_isMissing rfl rfl rfl ⟨rfl, hd_X3_isMissing⟩ ⟨Nat.le_of_ble_eq_true rfl, Nat.le_of_ble_eq_true rfl⟩) ⟨bl_, va_recvX hK.1 hP (ci := 3) (q0 := 2) rfl rfl, fun U hU hW => ⟨rfl, by rw [hU], by rw [hU]; exact hPc, kk_mv hW hK, hDw⟩⟩ rfl rfl hl.1 rfl (lv_room (Nat.le_of_ble_eq_true rfl)) dB_36_2_5.2.1.2.1 ⟨Nat.le_of_ble_eq_true rfl, Nat.le_of_ble_eq_true rfl⟩) hS (fun q _ h => hFc q h) hFc (fun r_40 u t H locs ht hvm hw hB hz1 hk1 hS => ?_)
              have hP : va_P D vwCl _ H := ro_keep hP hk1
              rcases hw with ⟨w_41, e_⟩ | ⟨w_41, e_⟩
              · have e_ := e_.symm
                subst e_
                refine lv_if_ne (tgt := 140) hx hb dB_36_2_5.2.1.2.2 (by decide) (fun c_42 => ?_) (fun c_42 => ?_)
                · have _ := c_42
                  first | (have hpm_ : ∀ i2 : Int32, i2.toInt = x2_3.toInt + 1 → prM fk fs fe fp vp.toNatClampNeg i2.toNatClampNeg (zM m_rp_3) := fun i2 ei => prM_sI v2_3 (by omega) ei hms_ S[ea] S[eb] (by omega) (by omega) (by omega) (by omega) (by omega) hcs_ (by omega) (by omega) hv1_ S[q1] em_rp_3 S[ev2]) | skip
                  obtain ⟨y_43, ey_43⟩ : ∃ y : Int32, y = x2_3 + 1 := ⟨_, rfl⟩
                  have ty_43 : y_43.toInt = x2_3.toInt + (1 : Int32).toInt := by rw [ey_43]; exact addI (by omega) (by omega)
                  refine lv_iinc (v := y_43) (lv' := [(2, .int y_43), (3, .int r_37), (1, .ref xn), (0, .ref xw)]) hx hb dB_36_2_8.1 hl (k := 1) rfl (by rw [ey_43]; rfl) (by decide) rfl (fun ls hl => ?_)
                  refine lv_goto (tgt := 37) hx hb dB_36_2_8.2.1 (by decide) ?_
                  exact ih_3 y_43 m_rp_3 _ _ _ (by omega) (by first | with_reducible assumption | omega | assumption) (by first | with_reducible assumption | omega | assumption) (by first | exact prM_00 v2_1 (by omega) hvp | exact hpm_ _ (by omega) | exact prM_nI v2_3 (by omega) (by omega) (Or.inr (by omega)) | exact prM_nI v2_3 (by omega) (by omega) (Or.inl (by omega))) ⟨hP, hD⟩ hS (lv_sub hl [0, 2, 3] rfl)
                · exact absurd c_42 (by decide)
              · have e_ := e_.symm
                subst e_
                refine lv_if_ne (tgt := 140) hx hb dB_36_2_5.2.1.2.2 (by decide) (fun c_44 => ?_) (fun c_44 => ?_)
                · exact absurd c_44 (by decide)
                · have _ := c_44
                  have hms_ : (fs x2_3.toNatClampNeg).toInt ≠ -9 := by omega
                  have hpc_ := hnc x2_3.toNatClampNeg (by omega) hms_
                  have hdd_ := hdc x2_3.toNatClampNeg (by omega) hms_
                  refine lv_aload_n hx hb dB_36_2_5.2.2.1.1 rfl (lv_at hl 2 rfl) ?_
                  refine va_get (ci := 3) (v := .ref n2) (C := RX3) (T := TX3) (N := 7) hx hb hts (fun _ h => List.mem_cons_of_mem _ (List.mem_append_right _ h)) hown hK.1 hP 2 rfl rfl 3 (by decide) (hts (.fieldLink RX10 81 "CutAtlas$Net" "starts" "[I") (List.mem_of_getElem? (i := 10) rfl)) (fun _ h9 => h9) rfl dB_36_2_5.2.2.1.2 ?_
                  refine lv_iload_n hx hb dB_36_2_5.2.2.2.1 rfl (lv_at hl 1 rfl) ?_
                  refine va_iald hx hb hK.1 hP 4 0 rfl rfl (i := x2_3) h_5 dB_36_2_5.2.2.2.2 ?_
                  refine lv_topi (fun y_46 ey_46 => ?_)
                  have ky_46 : y_46.toInt = (fs x2_3.toNatClampNeg).toInt := by rw [ey_46]
                  have ry_46 := hpr _ (in_lt h_5)
                  have jy_46 : y_46.toInt = (fs x2_3.toNatClampNeg).toInt := by rw [ey_46]
                  have cA_ := clI (i := y_46) (by omega)
                  refine lv_istore (lv' := [(4, .int y_46), (3, .int r_37), (2, .int x2_3), (1, .ref xn), (0, .ref xw)]) hx hb dB_36_2_6.1.1.1.1 hl (by decide) rfl (fun ls hl => ?_)
                  refine lv_aload_n hx hb dB_36_2_6.1.1.1.2 rfl (lv_at hl 3 rfl) ?_
                  refine va_get (ci := 3) (v := .ref n3) (C := RX3) (T := TX3) (N := 7) hx hb hts (fun _ h => List.mem_cons_of_mem _ (List.mem_append_right _ h)) hown hK.1 hP 2 rfl rfl 4 (by decide) (hts (.fieldLink RX10 84 "CutAtlas$Net" "ends" "[I") (List.mem_of_getElem? (i := 11) rfl)) (fun _ h9 => h9) rfl dB_36_2_6.1.1.2.1 ?_
                  refine lv_iload_n hx hb dB_36_2_6.1.1.2.2 rfl (lv_at hl 2 rfl) ?_
                  refine va_iald hx hb hK.1 hP 5 0 rfl rfl (i := x2_3) h_5 dB_36_2_6.1.2.1.1 ?_
                  refine lv_topi (fun y_48 ey_48 => ?_)
                  have ky_48 : y_48.toInt = (fe x2_3.toNatClampNeg).toInt := by rw [ey_48]
                  have ry_48 := hpr _ (in_lt h_5)
                  have jy_48 : y_48.toInt = (fe x2_3.toNatClampNeg).toInt := by rw [ey_48]
                  have cB_ := clI (i := y_48) (by omega)
                  refine lv_istore (lv' := [(5, .int y_48), (4, .int y_46), (3, .int r_37), (2, .int x2_3), (1, .ref xn), (0, .ref xw)]) hx hb dB_36_2_6.1.2.1.2 hl (by decide) rfl (fun ls hl => ?_)
                  refine lv_aload_n hx hb dB_36_2_6.1.2.2.1 rfl (lv_at hl 5 rfl) ?_
                  refine va_get (ci := 10) (v := .ref wpo) (C := RX10) (T := TX10) (N := 5) hx hb hts (fun _ h => List.mem_cons_of_mem _ (List.mem_append_left _ (List.mem_append_left _ (List.mem_append_right _ h)))) hown hK.1 hP 0 rfl rfl 2 (by decide) (hts (.fieldLink RX10 11 "CutAtlas$Widening" "prices" "[[I") (List.mem_of_getElem? (i := 4) rfl)) (fun _ h9 => h9) rfl dB_36_2_6.1.2.2.2 ?_
                  refine lv_iload hx hb dB_36_2_6.2.1.1.1 (lv_at hl 1 rfl) ?_
                  have h_49 : vp_in y_46 12 := in_I (by first | with_reducible assumption | omega) (by omega)
                  refine va_alda hx hb hG hP 7 rfl (i := y_46) h_49 dB_36_2_6.2.1.1.2 ?_
                  refine lv_topv (v' := .ref (rp y_46.toNatClampNeg)) (gf_at h_49) ?_
                  refine lv_iload hx hb dB_36_2_6.2.1.2.1 (lv_at hl 0 rfl) ?_
                  refine lv_aload_n hx hb dB_36_2_6.2.1.2.2 rfl (lv_at hl 5 rfl) ?_
                  refine va_get (ci := 10) (v := .ref wpo) (C := RX10) (T := TX10) (N := 5) hx hb hts (fun _ h => List.mem_cons_of_mem _ (List.mem_append_left _ (List.mem_append_left _ (List.mem_append_right _ h)))) hown hK.1 hP 0 rfl rfl 2 (by decide) (hts (.fieldLink RX10 11 "CutAtlas$Widening" "prices" "[[I") (List.mem_of_getElem? (i := 4) rfl)) (fun _ h9 => h9) rfl dB_36_2_6.2.2.1.1 ?_
                  refine lv_iload hx hb dB_36_2_6.2.2.1.2 (lv_at hl 1 rfl) ?_
                  refine va_alda hx hb hG hP 7 rfl (i := y_46) h_49 dB_36_2_6.2.2.2.1 ?_
                  refine lv_topv (v' := .ref (rp y_46.toNatClampNeg)) (gf_at h_49) ?_
                  refine lv_iload hx hb dB_36_2_6.2.2.2.2 (lv_at hl 0 rfl) ?_
                  have h_51 : vp_in y_48 12 := in_I (by first | with_reducible assumption | omega) (by omega)
                  have hPg : va_P D vwCl (([ob10_0_ xw xc xk wpo wc wf, ob0_0_ xc xn xk clo cro c4 c5 c6 c7 c8, ob3_0_ xn vp vn n1 n2 n3 n4 n5, ai_ cy n1 40 fk, ai_ cy n2 40 fs, ai_ cy n3 40 fe, ai_ cy n5 40 fp, aq_ cy 6 wpo 12 (gf_ rp)] : va_W) ++ (gro (cy 0) rp m_rp_3 ++ ([aq_ cy 3 xk 5 (kf_ k0 k1 k2 k3 k4), ob6_0_ k0, ob5_0_ k1, ob9_0_ k2, ob2_0_ k3, ob8_0_ k4] : va_W))) H := hP
                  refine va_gld (X := [ob10_0_ xw xc xk wpo wc wf, ob0_0_ xc xn xk clo cro c4 c5 c6 c7 c8, ob3_0_ xn vp vn n1 n2 n3 n4 n5, ai_ cy n1 40 fk, ai_ cy n2 40 fs, ai_ cy n3 40 fe, ai_ cy n5 40 fp, aq_ cy 6 wpo 12 (gf_ rp)]) (Y := [aq_ cy 3 xk 5 (kf_ k0 k1 k2 k3 k4), ob6_0_ k0, ob5_0_ k1, ob9_0_ k2, ob2_0_ k3, ob8_0_ k4]) (r := rp) (M := m_rp_3) (k := y_46.toNatClampNeg) hx hb hK.1 hPg 0 rfl (in_lt h_49) (i := y_48) h_51 dB_36_2_7.1.1.1.1 ?_
                  refine lv_topi (fun y_52 ey_52 => ?_)
                  have km1_ : y_52.toInt = (m_rp_3 y_46.toNatClampNeg y_48.toNatClampNeg).toInt := by rw [ey_52]
                  refine lv_iload_n hx hb dB_36_2_7.1.1.1.2 rfl (lv_at hl 2 rfl) ?_
                  refine va_mmin hx hb (by rw [hml]; exact hl.1.symm) hown (hts (.methodLink RX10 87 Lib.Math.min.name) (pc_X10_findPrices wsX10_findPrices_r1 (List.mem_of_getElem? (i := 1) rfl) _ (List.mem_of_getElem? (i := 11) rfl))) (hts (.static Lib.Math.min.name) (pc_X10_findPrices wsX10_findPrices_r1 (List.mem_of_getElem? (i := 1) rfl) _ (List.mem_of_getElem? (i := 12) rfl))) (hts (.initialized "java/lang/Math") (pc_X10_findPrices wsX10_findPrices_r1 (List.mem_of_getElem? (i := 1) rfl) _ (List.mem_of_getElem? (i := 13) rfl))) (hts (.code Lib.Math.min.name Lib.Math.min.code 2 (some .int)) (pc_X10_findPrices wsX10_findPrices_r1 (List.mem_of_getElem? (i := 1) rfl) _ (List.mem_of_getElem? (i := 14) rfl))) (Nat.le_of_ble_eq_true rfl) (Nat.le_of_ble_eq_true rfl) (Nat.le_of_ble_eq_true rfl) (Nat.le_of_ble_eq_true rfl) dB_36_2_7.1.1.2.1 ?_
                  refine lv_topi (fun y_53 ey_53 => ?_)
                  have ty_53 : y_53 = y_52 ∨ y_53 = r_37 := by rw [ey_53]; split <;> simp
                  have iy_53 : y_53.toInt = y_52.toInt ∨ y_53.toInt = r_37.toInt := by rcases ty_53 with h | h <;> rw [h] <;> simp
                  have hv1_ : y_53.toInt = loI (m_rp_3 y_46.toNatClampNeg y_48.toNatClampNeg).toInt r_37.toInt := by have h_ := mnI ey_53; rw [km1_] at h_; exact h_
                  have hPg : va_P D vwCl (([ob10_0_ xw xc xk wpo wc wf, ob0_0_ xc xn xk clo cro c4 c5 c6 c7 c8, ob3_0_ xn vp vn n1 n2 n3 n4 n5, ai_ cy n1 40 fk, ai_ cy n2 40 fs, ai_ cy n3 40 fe, ai_ cy n5 40 fp, aq_ cy 6 wpo 12 (gf_ rp)] : va_W) ++ (gro (cy 0) rp m_rp_3 ++ ([aq_ cy 3 xk 5 (kf_ k0 k1 k2 k3 k4), ob6_0_ k0, ob5_0_ k1, ob9_0_ k2, ob2_0_ k3, ob8_0_ k4] : va_W))) H := hP
                  have hDg : va_D A (([ob10_0_ xw xc xk wpo wc wf, ob0_0_ xc xn xk clo cro c4 c5 c6 c7 c8, ob3_0_ xn vp vn n1 n2 n3 n4 n5, ai_ cy n1 40 fk, ai_ cy n2 40 fs, ai_ cy n3 40 fe, ai_ cy n5 40 fp, aq_ cy 6 wpo 12 (gf_ rp)] : va_W) ++ (gro (cy 0) rp m_rp_3 ++ ([aq_ cy 3 xk 5 (kf_ k0 k1 k2 k3 k4), ob6_0_ k0, ob5_0_ k1, ob9_0_ k2, ob2_0_ k3, ob8_0_ k4] : va_W))) := hD
                  refine va_gst (X := [ob10_0_ xw xc xk wpo wc wf, ob0_0_ xc xn xk clo cro c4 c5 c6 c7 c8, ob3_0_ xn vp vn n1 n2 n3 n4 n5, ai_ cy n1 40 fk, ai_ cy n2 40 fs, ai_ cy n3 40 fe, ai_ cy n5 40 fp, aq_ cy 6 wpo 12 (gf_ rp)]) (Y := [aq_ cy 3 xk 5 (kf_ k0 k1 k2 k3 k4), ob6_0_ k0, ob5_0_ k1, ob9_0_ k2, ob2_0_ k3, ob8_0_ k4]) (r := rp) (M := m_rp_3) (k := y_46.toNatClampNeg) hx hb hK.1 hPg hDg hS 0 rfl (in_lt h_49) (i := y_48) h_51 dB_36_2_7.1.1.2.2 (fun H locs hP hD hS => ?_)
                  obtain ⟨M_55, eM_55⟩ : ∃ g : Nat → Nat → Int32, g = va_up m_rp_3 y_46.toNatClampNeg (upd (m_rp_3 y_46.toNatClampNeg) y_48.toNatClampNeg y_53) := ⟨_, rfl⟩
                  refine pd_K (D := D) (cl := vwCl) (H := H) (A := A) [ob10_0_ xw xc xk wpo wc wf, ob0_0_ xc xn xk clo cro c4 c5 c6 c7 c8, ob3_0_ xn vp vn n1 n2 n3 n4 n5, ai_ cy n1 40 fk, ai_ cy n2 40 fs, ai_ cy n3 40 fe, ai_ cy n5 40 fp, aq_ cy 6 wpo 12 (gf_ rp), ai_ cy (rp 0) 12 (M_55 0), ai_ cy (rp 1) 12 (M_55 1), ai_ cy (rp 2) 12 (M_55 2), ai_ cy (rp 3) 12 (M_55 3), ai_ cy (rp 4) 12 (M_55 4), ai_ cy (rp 5) 12 (M_55 5), ai_ cy (rp 6) 12 (M_55 6), ai_ cy (rp 7) 12 (M_55 7), ai_ cy (rp 8) 12 (M_55 8), ai_ cy (rp 9) 12 (M_55 9), ai_ cy (rp 10) 12 (M_55 10), ai_ cy (rp 11) 12 (M_55 11), aq_ cy 3 xk 5 (kf_ k0 k1 k2 k3 k4), ob6_0_ k0, ob5_0_ k1, ob9_0_ k2, ob2_0_ k3, ob8_0_ k4] (by rw [eM_55]; exact hP) (by rw [eM_55]; exact hD) (fun hP hD => ?_)
                  refine lv_aload_n hx hb dB_36_2_7.1.2.1.1 rfl (lv_at hl 5 rfl) ?_
                  refine va_get (ci := 10) (v := .ref wpo) (C := RX10) (T := TX10) (N := 5) hx hb hts (fun _ h => List.mem_cons_of_mem _ (List.mem_append_left _ (List.mem_append_left _ (List.mem_append_right _ h)))) hown hK.1 hP 0 rfl rfl 2 (by decide) (hts (.fieldLink RX10 11 "CutAtlas$Widening" "prices" "[[I") (List.mem_of_getElem? (i := 4) rfl)) (fun _ h9 => h9) rfl dB_36_2_7.1.2.1.2 ?_
                  refine lv_iload hx hb dB_36_2_7.1.2.2.1 (lv_at hl 0 rfl) ?_
                  refine va_alda hx hb hG hP 7 rfl (i := y_48) h_51 dB_36_2_7.1.2.2.2 ?_
                  refine lv_topv (v' := .ref (rp y_48.toNatClampNeg)) (gf_at h_51) ?_
                  refine lv_iload hx hb dB_36_2_7.2.1.1.1 (lv_at hl 1 rfl) ?_
                  refine lv_aload_n hx hb dB_36_2_7.2.1.1.2 rfl (lv_at hl 5 rfl) ?_
                  refine va_get (ci := 10) (v := .ref wpo) (C := RX10) (T := TX10) (N := 5) hx hb hts (fun _ h => List.mem_cons_of_mem _ (List.mem_append_left _ (List.mem_append_left _ (List.mem_append_right _ h)))) hown hK.1 hP 0 rfl rfl 2 (by decide) (hts (.fieldLink RX10 11 "CutAtlas$Widening" "prices" "[[I") (List.mem_of_getElem? (i := 4) rfl)) (fun _ h9 => h9) rfl dB_36_2_7.2.1.2.1 ?_
                  refine lv_iload hx hb dB_36_2_7.2.1.2.2 (lv_at hl 1 rfl) ?_
                  refine va_alda hx hb hG hP 7 rfl (i := y_46) h_49 dB_36_2_7.2.2.1.1 ?_
                  refine lv_topv (v' := .ref (rp y_46.toNatClampNeg)) (gf_at h_49) ?_
                  refine lv_iload hx hb dB_36_2_7.2.2.1.2 (lv_at hl 0 rfl) ?_
                  have hPg : va_P D vwCl (([ob10_0_ xw xc xk wpo wc wf, ob0_0_ xc xn xk clo cro c4 c5 c6 c7 c8, ob3_0_ xn vp vn n1 n2 n3 n4 n5, ai_ cy n1 40 fk, ai_ cy n2 40 fs, ai_ cy n3 40 fe, ai_ cy n5 40 fp, aq_ cy 6 wpo 12 (gf_ rp)] : va_W) ++ (gro (cy 0) rp M_55 ++ ([aq_ cy 3 xk 5 (kf_ k0 k1 k2 k3 k4), ob6_0_ k0, ob5_0_ k1, ob9_0_ k2, ob2_0_ k3, ob8_0_ k4] : va_W))) H := hP
                  refine va_gld (X := [ob10_0_ xw xc xk wpo wc wf, ob0_0_ xc xn xk clo cro c4 c5 c6 c7 c8, ob3_0_ xn vp vn n1 n2 n3 n4 n5, ai_ cy n1 40 fk, ai_ cy n2 40 fs, ai_ cy n3 40 fe, ai_ cy n5 40 fp, aq_ cy 6 wpo 12 (gf_ rp)]) (Y := [aq_ cy 3 xk 5 (kf_ k0 k1 k2 k3 k4), ob6_0_ k0, ob5_0_ k1, ob9_0_ k2, ob2_0_ k3, ob8_0_ k4]) (r := rp) (M := M_55) (k := y_46.toNatClampNeg) hx hb hK.1 hPg 0 rfl (in_lt h_49) (i := y_48) h_51 dB_36_2_7.2.2.2.1 ?_
                  refine lv_topi (fun y_59 ey_59 => ?_)
                  have hPg : va_P D vwCl (([ob10_0_ xw xc xk wpo wc wf, ob0_0_ xc xn xk clo cro c4 c5 c6 c7 c8, ob3_0_ xn vp vn n1 n2 n3 n4 n5, ai_ cy n1 40 fk, ai_ cy n2 40 fs, ai_ cy n3 40 fe, ai_ cy n5 40 fp, aq_ cy 6 wpo 12 (gf_ rp)] : va_W) ++ (gro (cy 0) rp M_55 ++ ([aq_ cy 3 xk 5 (kf_ k0 k1 k2 k3 k4), ob6_0_ k0, ob5_0_ k1, ob9_0_ k2, ob2_0_ k3, ob8_0_ k4] : va_W))) H := hP
                  have hDg : va_D A (([ob10_0_ xw xc xk wpo wc wf, ob0_0_ xc xn xk clo cro c4 c5 c6 c7 c8, ob3_0_ xn vp vn n1 n2 n3 n4 n5, ai_ cy n1 40 fk, ai_ cy n2 40 fs, ai_ cy n3 40 fe, ai_ cy n5 40 fp, aq_ cy 6 wpo 12 (gf_ rp)] : va_W) ++ (gro (cy 0) rp M_55 ++ ([aq_ cy 3 xk 5 (kf_ k0 k1 k2 k3 k4), ob6_0_ k0, ob5_0_ k1, ob9_0_ k2, ob2_0_ k3, ob8_0_ k4] : va_W))) := hD
                  refine va_gst (X := [ob10_0_ xw xc xk wpo wc wf, ob0_0_ xc xn xk clo cro c4 c5 c6 c7 c8, ob3_0_ xn vp vn n1 n2 n3 n4 n5, ai_ cy n1 40 fk, ai_ cy n2 40 fs, ai_ cy n3 40 fe, ai_ cy n5 40 fp, aq_ cy 6 wpo 12 (gf_ rp)]) (Y := [aq_ cy 3 xk 5 (kf_ k0 k1 k2 k3 k4), ob6_0_ k0, ob5_0_ k1, ob9_0_ k2, ob2_0_ k3, ob8_0_ k4]) (r := rp) (M := M_55) (k := y_48.toNatClampNeg) hx hb hK.1 hPg hDg hS 0 rfl (in_lt h_51) (i := y_46) h_49 dB_36_2_7.2.2.2.2 (fun H locs hP hD hS => ?_)
                  obtain ⟨M_61, eM_61⟩ : ∃ g : Nat → Nat → Int32, g = va_up M_55 y_48.toNatClampNeg (upd (M_55 y_48.toNatClampNeg) y_46.toNatClampNeg y_59) := ⟨_, rfl⟩
                  refine pd_K (D := D) (cl := vwCl) (H := H) (A := A) [ob10_0_ xw xc xk wpo wc wf, ob0_0_ xc xn xk clo cro c4 c5 c6 c7 c8, ob3_0_ xn vp vn n1 n2 n3 n4 n5, ai_ cy n1 40 fk, ai_ cy n2 40 fs, ai_ cy n3 40 fe, ai_ cy n5 40 fp, aq_ cy 6 wpo 12 (gf_ rp), ai_ cy (rp 0) 12 (M_61 0), ai_ cy (rp 1) 12 (M_61 1), ai_ cy (rp 2) 12 (M_61 2), ai_ cy (rp 3) 12 (M_61 3), ai_ cy (rp 4) 12 (M_61 4), ai_ cy (rp 5) 12 (M_61 5), ai_ cy (rp 6) 12 (M_61 6), ai_ cy (rp 7) 12 (M_61 7), ai_ cy (rp 8) 12 (M_61 8), ai_ cy (rp 9) 12 (M_61 9), ai_ cy (rp 10) 12 (M_61 10), ai_ cy (rp 11) 12 (M_61 11), aq_ cy 3 xk 5 (kf_ k0 k1 k2 k3 k4), ob6_0_ k0, ob5_0_ k1, ob9_0_ k2, ob2_0_ k3, ob8_0_ k4] (by rw [eM_61]; exact hP) (by rw [eM_61]; exact hD) (fun hP hD => ?_)
                  first | (have hpm_ : ∀ i2 : Int32, i2.toInt = x2_3.toInt + 1 → prM fk fs fe fp vp.toNatClampNeg i2.toNatClampNeg (zM M_61) := fun i2 ei => prM_sI v2_3 (by omega) ei hms_ ey_46 ey_48 (by omega) (by omega) (by omega) (by omega) (by omega) hcs_ (by omega) (by omega) hv1_ eM_55 eM_61 ey_59) | skip
                  obtain ⟨y_62, ey_62⟩ : ∃ y : Int32, y = x2_3 + 1 := ⟨_, rfl⟩
                  have ty_62 : y_62.toInt = x2_3.toInt + (1 : Int32).toInt := by rw [ey_62]; exact addI (by omega) (by omega)
                  refine lv_iinc (v := y_62) (lv' := [(2, .int y_62), (5, .int y_48), (4, .int y_46), (3, .int r_37), (1, .ref xn), (0, .ref xw)]) hx hb dB_36_2_8.1 hl (k := 3) rfl (by rw [ey_62]; rfl) (by decide) rfl (fun ls hl => ?_)
                  refine lv_goto (tgt := 37) hx hb dB_36_2_8.2.1 (by decide) ?_
                  exact ih_3 y_62 M_61 _ _ _ (by omega) (by first | with_reducible assumption | omega | assumption) (by first | with_reducible assumption | omega | assumption) (by first | exact prM_00 v2_1 (by omega) hvp | exact hpm_ _ (by omega) | exact prM_nI v2_3 (by omega) (by omega) (Or.inr (by omega)) | exact prM_nI v2_3 (by omega) (by omega) (Or.inl (by omega))) ⟨hP, hD⟩ hS (lv_sub hl [0, 4, 5] rfl)
          · refine va_aldq hx hb hK.1 hP 20 3 rfl rfl (i := 2) (by unfold vp_in; decide) dB_36_2_4.2.2.2.1 ?_
            refine lv_topv (v' := .ref k2) (by simp [va_up, va_rf, mf_, cl_0, cl_1, cl_2, cl_3, cl_4, kf_]) ?_
            refine lv_aload_n hx hb dB_36_2_4.2.2.2.2 rfl (lv_at hl 1 rfl) ?_
            refine va_get (ci := 3) (v := .ref n5) (C := RX3) (T := TX3) (N := 7) hx hb hts (fun _ h => List.mem_cons_of_mem _ (List.mem_append_right _ h)) hown hK.1 hP 2 rfl rfl 6 (by decide) (hts (.fieldLink RX10 70 "CutAtlas$Net" "prices" "[I") (List.mem_of_getElem? (i := 9) rfl)) (fun _ h9 => h9) rfl dB_36_2_5.1.1.1.1 ?_
            refine lv_iload_n hx hb dB_36_2_5.1.1.1.2 rfl (lv_at hl 0 rfl) ?_
            refine va_iald hx hb hK.1 hP 6 0 rfl rfl (i := x2_3) h_5 dB_36_2_5.1.1.2.1 ?_
            refine lv_topi (fun y_64 ey_64 => ?_)
            have ky_64 : y_64.toInt = (fp x2_3.toNatClampNeg).toInt := by rw [ey_64]
            have ry_64 : 0 ≤ y_64.toInt ∧ y_64.toInt ≤ 100 := by rw [ey_64]; exact r_fp _ (in_lt h_5)
            refine ct_R hP hD [] [] (by decide) rfl (fun hPc hDw => ?_)
            have hFc := va_free (wc := []) hD hS hA [] rfl
            refine va_calli (va_runU (As := [.int y_64]) (rest := []) ⟨hx, hb, hml, hown, hts⟩ (c_X6_costs2 l D cy H.size k2 y_64) (va_cwU 1 hts gX10_findPrices_X6_costs_u72X9 rfl rfl rfl rfl (by decide +kernel) ⟨Nat.le_of_ble_eq_true rfl, Nat.le_of_ble_eq_true rfl⟩) ⟨bl_, va_recvX hK.1 hP (ci := 9) (q0 := 23) rfl rfl, fun U hU hW => ⟨rfl, by rw [hU], by rw [hU]; exact hPc, kk_mv hW hK, hDw⟩⟩ rfl rfl hl.1 rfl (lv_room (Nat.le_of_ble_eq_true rfl)) dB_36_2_5.1.1.2.2 ⟨Nat.le_of_ble_eq_true rfl, Nat.le_of_ble_eq_true rfl⟩) hS (fun q _ h => hFc q h) hFc (fun r_65 u t H locs ht hvm hw hB hz1 hk1 hS => ?_)
            have hP : va_P D vwCl _ H := ro_keep hP hk1
            obtain ⟨f0_r_65, f1_r_65⟩ := hw
            have hcs_ : r_65.toInt = cst (fk x2_3.toNatClampNeg).toInt (fp x2_3.toNatClampNeg).toInt := by unfold cst; (repeat' (first | with_reducible refine if_n (by omega) ?_ | with_reducible refine if_ns (by omega) ?_ | with_reducible refine if_nz (by omega) ?_ | with_reducible exact if_p (by omega) (by omega) | with_reducible exact if_ps (by omega) (by omega) | with_reducible exact if_pz (by omega) (by omega))) <;> omega
            refine lv_istore_n (lv' := [(3, .int r_65), (2, .int x2_3), (1, .ref xn), (0, .ref xw)]) hx hb dB_36_2_5.1.2.1.1 rfl hl (by decide) rfl (fun ls hl => ?_)
            refine lv_iload_n hx hb dB_36_2_5.1.2.1.2 rfl (lv_at hl 0 rfl) ?_
            refine lv_bipush (v := (-9)) hx hb dB_36_2_5.1.2.2.1 (by decide) ?_
            refine lv_icmp_eq (tgt := 140) hx hb dB_36_2_5.1.2.2.2 (by decide) (fun c_66 => ?_) (fun c_66 => ?_)
            · have t_66 : r_65.toInt = ((-9) : Int32).toInt := congrArg Int32.toInt c_66
              first | (have hpm_ : ∀ i2 : Int32, i2.toInt = x2_3.toInt + 1 → prM fk fs fe fp vp.toNatClampNeg i2.toNatClampNeg (zM m_rp_3) := fun i2 ei => prM_sI v2_3 (by omega) ei hms_ S[ea] S[eb] (by omega) (by omega) (by omega) (by omega) (by omega) hcs_ (by omega) (by omega) hv1_ S[q1] em_rp_3 S[ev2]) | skip
              obtain ⟨y_67, ey_67⟩ : ∃ y : Int32, y = x2_3 + 1 := ⟨_, rfl⟩
              have ty_67 : y_67.toInt = x2_3.toInt + (1 : Int32).toInt := by rw [ey_67]; exact addI (by omega) (by omega)
              refine lv_iinc (v := y_67) (lv' := [(2, .int y_67), (3, .int r_65), (1, .ref xn), (0, .ref xw)]) hx hb dB_36_2_8.1 hl (k := 1) rfl (by rw [ey_67]; rfl) (by decide) rfl (fun ls hl => ?_)
              refine lv_goto (tgt := 37) hx hb dB_36_2_8.2.1 (by decide) ?_
              exact ih_3 y_67 m_rp_3 _ _ _ (by omega) (by first | with_reducible assumption | omega | assumption) (by first | with_reducible assumption | omega | assumption) (by first | exact prM_00 v2_1 (by omega) hvp | exact hpm_ _ (by omega) | exact prM_nI v2_3 (by omega) (by omega) (Or.inr (by omega)) | exact prM_nI v2_3 (by omega) (by omega) (Or.inl (by omega))) ⟨hP, hD⟩ hS (lv_sub hl [0, 2, 3] rfl)
            · have t_66 : ¬ r_65.toInt = ((-9) : Int32).toInt := fun h => c_66 (Int32.toInt_inj.mp h)
              refine lv_aload_n hx hb dB_36_2_5.2.1.1.1 rfl (lv_at hl 2 rfl) ?_
              refine lv_iload_n hx hb dB_36_2_5.2.1.1.2 rfl (lv_at hl 1 rfl) ?_
              refine ct_R hP hD [ob3_0_ xn vp vn n1 n2 n3 n4 n5, ai_ cy n2 40 fs] [2, 4] (by decide) rfl (fun hPc hDw => ?_)
              have hFc := va_free (wc := []) hD hS hA [] rfl
              refine va_calli (va_runV (As := [.int x2_3]) (rest := []) ⟨hx, hb, hml, hown, hts⟩ (c_X3_isMissing l D cy H.size xn n1 n2 n3 n4 n5 vp vn fs x2_3 (by first | with_reducible assumption | omega | assumption)) (cwV 1 hts gX10_findPrices_X3_isMissing rfl rfl rfl ⟨rfl, hd_X3_isMissing⟩ ⟨Nat.le_of_ble_eq_true rfl, Nat.le_of_ble_eq_true rfl⟩) ⟨bl_, va_recvX hK.1 hP (ci := 3) (q0 := 2) rfl rfl, fun U hU hW => ⟨rfl, by rw [hU], by rw [hU]; exact hPc, kk_mv hW hK, hDw⟩⟩ rfl rfl hl.1 rfl (lv_room (Nat.le_of_ble_eq_true rfl)) dB_36_2_5.2.1.2.1 ⟨Nat.le_of_ble_eq_true rfl, Nat.le_of_ble_eq_true rfl⟩) hS (fun q _ h => hFc q h) hFc (fun r_68 u t H locs ht hvm hw hB hz1 hk1 hS => ?_)
              have hP : va_P D vwCl _ H := ro_keep hP hk1
              rcases hw with ⟨w_69, e_⟩ | ⟨w_69, e_⟩
              · have e_ := e_.symm
                subst e_
                refine lv_if_ne (tgt := 140) hx hb dB_36_2_5.2.1.2.2 (by decide) (fun c_70 => ?_) (fun c_70 => ?_)
                · have _ := c_70
                  first | (have hpm_ : ∀ i2 : Int32, i2.toInt = x2_3.toInt + 1 → prM fk fs fe fp vp.toNatClampNeg i2.toNatClampNeg (zM m_rp_3) := fun i2 ei => prM_sI v2_3 (by omega) ei hms_ S[ea] S[eb] (by omega) (by omega) (by omega) (by omega) (by omega) hcs_ (by omega) (by omega) hv1_ S[q1] em_rp_3 S[ev2]) | skip
                  obtain ⟨y_71, ey_71⟩ : ∃ y : Int32, y = x2_3 + 1 := ⟨_, rfl⟩
                  have ty_71 : y_71.toInt = x2_3.toInt + (1 : Int32).toInt := by rw [ey_71]; exact addI (by omega) (by omega)
                  refine lv_iinc (v := y_71) (lv' := [(2, .int y_71), (3, .int r_65), (1, .ref xn), (0, .ref xw)]) hx hb dB_36_2_8.1 hl (k := 1) rfl (by rw [ey_71]; rfl) (by decide) rfl (fun ls hl => ?_)
                  refine lv_goto (tgt := 37) hx hb dB_36_2_8.2.1 (by decide) ?_
                  exact ih_3 y_71 m_rp_3 _ _ _ (by omega) (by first | with_reducible assumption | omega | assumption) (by first | with_reducible assumption | omega | assumption) (by first | exact prM_00 v2_1 (by omega) hvp | exact hpm_ _ (by omega) | exact prM_nI v2_3 (by omega) (by omega) (Or.inr (by omega)) | exact prM_nI v2_3 (by omega) (by omega) (Or.inl (by omega))) ⟨hP, hD⟩ hS (lv_sub hl [0, 2, 3] rfl)
                · exact absurd c_70 (by decide)
              · have e_ := e_.symm
                subst e_
                refine lv_if_ne (tgt := 140) hx hb dB_36_2_5.2.1.2.2 (by decide) (fun c_72 => ?_) (fun c_72 => ?_)
                · exact absurd c_72 (by decide)
                · have _ := c_72
                  have hms_ : (fs x2_3.toNatClampNeg).toInt ≠ -9 := by omega
                  have hpc_ := hnc x2_3.toNatClampNeg (by omega) hms_
                  have hdd_ := hdc x2_3.toNatClampNeg (by omega) hms_
                  refine lv_aload_n hx hb dB_36_2_5.2.2.1.1 rfl (lv_at hl 2 rfl) ?_
                  refine va_get (ci := 3) (v := .ref n2) (C := RX3) (T := TX3) (N := 7) hx hb hts (fun _ h => List.mem_cons_of_mem _ (List.mem_append_right _ h)) hown hK.1 hP 2 rfl rfl 3 (by decide) (hts (.fieldLink RX10 81 "CutAtlas$Net" "starts" "[I") (List.mem_of_getElem? (i := 10) rfl)) (fun _ h9 => h9) rfl dB_36_2_5.2.2.1.2 ?_
                  refine lv_iload_n hx hb dB_36_2_5.2.2.2.1 rfl (lv_at hl 1 rfl) ?_
                  refine va_iald hx hb hK.1 hP 4 0 rfl rfl (i := x2_3) h_5 dB_36_2_5.2.2.2.2 ?_
                  refine lv_topi (fun y_74 ey_74 => ?_)
                  have ky_74 : y_74.toInt = (fs x2_3.toNatClampNeg).toInt := by rw [ey_74]
                  have ry_74 := hpr _ (in_lt h_5)
                  have jy_74 : y_74.toInt = (fs x2_3.toNatClampNeg).toInt := by rw [ey_74]
                  have cA_ := clI (i := y_74) (by omega)
                  refine lv_istore (lv' := [(4, .int y_74), (3, .int r_65), (2, .int x2_3), (1, .ref xn), (0, .ref xw)]) hx hb dB_36_2_6.1.1.1.1 hl (by decide) rfl (fun ls hl => ?_)
                  refine lv_aload_n hx hb dB_36_2_6.1.1.1.2 rfl (lv_at hl 3 rfl) ?_
                  refine va_get (ci := 3) (v := .ref n3) (C := RX3) (T := TX3) (N := 7) hx hb hts (fun _ h => List.mem_cons_of_mem _ (List.mem_append_right _ h)) hown hK.1 hP 2 rfl rfl 4 (by decide) (hts (.fieldLink RX10 84 "CutAtlas$Net" "ends" "[I") (List.mem_of_getElem? (i := 11) rfl)) (fun _ h9 => h9) rfl dB_36_2_6.1.1.2.1 ?_
                  refine lv_iload_n hx hb dB_36_2_6.1.1.2.2 rfl (lv_at hl 2 rfl) ?_
                  refine va_iald hx hb hK.1 hP 5 0 rfl rfl (i := x2_3) h_5 dB_36_2_6.1.2.1.1 ?_
                  refine lv_topi (fun y_76 ey_76 => ?_)
                  have ky_76 : y_76.toInt = (fe x2_3.toNatClampNeg).toInt := by rw [ey_76]
                  have ry_76 := hpr _ (in_lt h_5)
                  have jy_76 : y_76.toInt = (fe x2_3.toNatClampNeg).toInt := by rw [ey_76]
                  have cB_ := clI (i := y_76) (by omega)
                  refine lv_istore (lv' := [(5, .int y_76), (4, .int y_74), (3, .int r_65), (2, .int x2_3), (1, .ref xn), (0, .ref xw)]) hx hb dB_36_2_6.1.2.1.2 hl (by decide) rfl (fun ls hl => ?_)
                  refine lv_aload_n hx hb dB_36_2_6.1.2.2.1 rfl (lv_at hl 5 rfl) ?_
                  refine va_get (ci := 10) (v := .ref wpo) (C := RX10) (T := TX10) (N := 5) hx hb hts (fun _ h => List.mem_cons_of_mem _ (List.mem_append_left _ (List.mem_append_left _ (List.mem_append_right _ h)))) hown hK.1 hP 0 rfl rfl 2 (by decide) (hts (.fieldLink RX10 11 "CutAtlas$Widening" "prices" "[[I") (List.mem_of_getElem? (i := 4) rfl)) (fun _ h9 => h9) rfl dB_36_2_6.1.2.2.2 ?_
                  refine lv_iload hx hb dB_36_2_6.2.1.1.1 (lv_at hl 1 rfl) ?_
                  have h_77 : vp_in y_74 12 := in_I (by first | with_reducible assumption | omega) (by omega)
                  refine va_alda hx hb hG hP 7 rfl (i := y_74) h_77 dB_36_2_6.2.1.1.2 ?_
                  refine lv_topv (v' := .ref (rp y_74.toNatClampNeg)) (gf_at h_77) ?_
                  refine lv_iload hx hb dB_36_2_6.2.1.2.1 (lv_at hl 0 rfl) ?_
                  refine lv_aload_n hx hb dB_36_2_6.2.1.2.2 rfl (lv_at hl 5 rfl) ?_
                  refine va_get (ci := 10) (v := .ref wpo) (C := RX10) (T := TX10) (N := 5) hx hb hts (fun _ h => List.mem_cons_of_mem _ (List.mem_append_left _ (List.mem_append_left _ (List.mem_append_right _ h)))) hown hK.1 hP 0 rfl rfl 2 (by decide) (hts (.fieldLink RX10 11 "CutAtlas$Widening" "prices" "[[I") (List.mem_of_getElem? (i := 4) rfl)) (fun _ h9 => h9) rfl dB_36_2_6.2.2.1.1 ?_
                  refine lv_iload hx hb dB_36_2_6.2.2.1.2 (lv_at hl 1 rfl) ?_
                  refine va_alda hx hb hG hP 7 rfl (i := y_74) h_77 dB_36_2_6.2.2.2.1 ?_
                  refine lv_topv (v' := .ref (rp y_74.toNatClampNeg)) (gf_at h_77) ?_
                  refine lv_iload hx hb dB_36_2_6.2.2.2.2 (lv_at hl 0 rfl) ?_
                  have h_79 : vp_in y_76 12 := in_I (by first | with_reducible assumption | omega) (by omega)
                  have hPg : va_P D vwCl (([ob10_0_ xw xc xk wpo wc wf, ob0_0_ xc xn xk clo cro c4 c5 c6 c7 c8, ob3_0_ xn vp vn n1 n2 n3 n4 n5, ai_ cy n1 40 fk, ai_ cy n2 40 fs, ai_ cy n3 40 fe, ai_ cy n5 40 fp, aq_ cy 6 wpo 12 (gf_ rp)] : va_W) ++ (gro (cy 0) rp m_rp_3 ++ ([aq_ cy 3 xk 5 (kf_ k0 k1 k2 k3 k4), ob6_0_ k0, ob5_0_ k1, ob9_0_ k2, ob2_0_ k3, ob8_0_ k4] : va_W))) H := hP
                  refine va_gld (X := [ob10_0_ xw xc xk wpo wc wf, ob0_0_ xc xn xk clo cro c4 c5 c6 c7 c8, ob3_0_ xn vp vn n1 n2 n3 n4 n5, ai_ cy n1 40 fk, ai_ cy n2 40 fs, ai_ cy n3 40 fe, ai_ cy n5 40 fp, aq_ cy 6 wpo 12 (gf_ rp)]) (Y := [aq_ cy 3 xk 5 (kf_ k0 k1 k2 k3 k4), ob6_0_ k0, ob5_0_ k1, ob9_0_ k2, ob2_0_ k3, ob8_0_ k4]) (r := rp) (M := m_rp_3) (k := y_74.toNatClampNeg) hx hb hK.1 hPg 0 rfl (in_lt h_77) (i := y_76) h_79 dB_36_2_7.1.1.1.1 ?_
                  refine lv_topi (fun y_80 ey_80 => ?_)
                  have km1_ : y_80.toInt = (m_rp_3 y_74.toNatClampNeg y_76.toNatClampNeg).toInt := by rw [ey_80]
                  refine lv_iload_n hx hb dB_36_2_7.1.1.1.2 rfl (lv_at hl 2 rfl) ?_
                  refine va_mmin hx hb (by rw [hml]; exact hl.1.symm) hown (hts (.methodLink RX10 87 Lib.Math.min.name) (pc_X10_findPrices wsX10_findPrices_r1 (List.mem_of_getElem? (i := 1) rfl) _ (List.mem_of_getElem? (i := 11) rfl))) (hts (.static Lib.Math.min.name) (pc_X10_findPrices wsX10_findPrices_r1 (List.mem_of_getElem? (i := 1) rfl) _ (List.mem_of_getElem? (i := 12) rfl))) (hts (.initialized "java/lang/Math") (pc_X10_findPrices wsX10_findPrices_r1 (List.mem_of_getElem? (i := 1) rfl) _ (List.mem_of_getElem? (i := 13) rfl))) (hts (.code Lib.Math.min.name Lib.Math.min.code 2 (some .int)) (pc_X10_findPrices wsX10_findPrices_r1 (List.mem_of_getElem? (i := 1) rfl) _ (List.mem_of_getElem? (i := 14) rfl))) (Nat.le_of_ble_eq_true rfl) (Nat.le_of_ble_eq_true rfl) (Nat.le_of_ble_eq_true rfl) (Nat.le_of_ble_eq_true rfl) dB_36_2_7.1.1.2.1 ?_
                  refine lv_topi (fun y_81 ey_81 => ?_)
                  have ty_81 : y_81 = y_80 ∨ y_81 = r_65 := by rw [ey_81]; split <;> simp
                  have iy_81 : y_81.toInt = y_80.toInt ∨ y_81.toInt = r_65.toInt := by rcases ty_81 with h | h <;> rw [h] <;> simp
                  have hv1_ : y_81.toInt = loI (m_rp_3 y_74.toNatClampNeg y_76.toNatClampNeg).toInt r_65.toInt := by have h_ := mnI ey_81; rw [km1_] at h_; exact h_
                  have hPg : va_P D vwCl (([ob10_0_ xw xc xk wpo wc wf, ob0_0_ xc xn xk clo cro c4 c5 c6 c7 c8, ob3_0_ xn vp vn n1 n2 n3 n4 n5, ai_ cy n1 40 fk, ai_ cy n2 40 fs, ai_ cy n3 40 fe, ai_ cy n5 40 fp, aq_ cy 6 wpo 12 (gf_ rp)] : va_W) ++ (gro (cy 0) rp m_rp_3 ++ ([aq_ cy 3 xk 5 (kf_ k0 k1 k2 k3 k4), ob6_0_ k0, ob5_0_ k1, ob9_0_ k2, ob2_0_ k3, ob8_0_ k4] : va_W))) H := hP
                  have hDg : va_D A (([ob10_0_ xw xc xk wpo wc wf, ob0_0_ xc xn xk clo cro c4 c5 c6 c7 c8, ob3_0_ xn vp vn n1 n2 n3 n4 n5, ai_ cy n1 40 fk, ai_ cy n2 40 fs, ai_ cy n3 40 fe, ai_ cy n5 40 fp, aq_ cy 6 wpo 12 (gf_ rp)] : va_W) ++ (gro (cy 0) rp m_rp_3 ++ ([aq_ cy 3 xk 5 (kf_ k0 k1 k2 k3 k4), ob6_0_ k0, ob5_0_ k1, ob9_0_ k2, ob2_0_ k3, ob8_0_ k4] : va_W))) := hD
                  refine va_gst (X := [ob10_0_ xw xc xk wpo wc wf, ob0_0_ xc xn xk clo cro c4 c5 c6 c7 c8, ob3_0_ xn vp vn n1 n2 n3 n4 n5, ai_ cy n1 40 fk, ai_ cy n2 40 fs, ai_ cy n3 40 fe, ai_ cy n5 40 fp, aq_ cy 6 wpo 12 (gf_ rp)]) (Y := [aq_ cy 3 xk 5 (kf_ k0 k1 k2 k3 k4), ob6_0_ k0, ob5_0_ k1, ob9_0_ k2, ob2_0_ k3, ob8_0_ k4]) (r := rp) (M := m_rp_3) (k := y_74.toNatClampNeg) hx hb hK.1 hPg hDg hS 0 rfl (in_lt h_77) (i := y_76) h_79 dB_36_2_7.1.1.2.2 (fun H locs hP hD hS => ?_)
                  obtain ⟨M_83, eM_83⟩ : ∃ g : Nat → Nat → Int32, g = va_up m_rp_3 y_74.toNatClampNeg (upd (m_rp_3 y_74.toNatClampNeg) y_76.toNatClampNeg y_81) := ⟨_, rfl⟩
                  refine pd_K (D := D) (cl := vwCl) (H := H) (A := A) [ob10_0_ xw xc xk wpo wc wf, ob0_0_ xc xn xk clo cro c4 c5 c6 c7 c8, ob3_0_ xn vp vn n1 n2 n3 n4 n5, ai_ cy n1 40 fk, ai_ cy n2 40 fs, ai_ cy n3 40 fe, ai_ cy n5 40 fp, aq_ cy 6 wpo 12 (gf_ rp), ai_ cy (rp 0) 12 (M_83 0), ai_ cy (rp 1) 12 (M_83 1), ai_ cy (rp 2) 12 (M_83 2), ai_ cy (rp 3) 12 (M_83 3), ai_ cy (rp 4) 12 (M_83 4), ai_ cy (rp 5) 12 (M_83 5), ai_ cy (rp 6) 12 (M_83 6), ai_ cy (rp 7) 12 (M_83 7), ai_ cy (rp 8) 12 (M_83 8), ai_ cy (rp 9) 12 (M_83 9), ai_ cy (rp 10) 12 (M_83 10), ai_ cy (rp 11) 12 (M_83 11), aq_ cy 3 xk 5 (kf_ k0 k1 k2 k3 k4), ob6_0_ k0, ob5_0_ k1, ob9_0_ k2, ob2_0_ k3, ob8_0_ k4] (by rw [eM_83]; exact hP) (by rw [eM_83]; exact hD) (fun hP hD => ?_)
                  refine lv_aload_n hx hb dB_36_2_7.1.2.1.1 rfl (lv_at hl 5 rfl) ?_
                  refine va_get (ci := 10) (v := .ref wpo) (C := RX10) (T := TX10) (N := 5) hx hb hts (fun _ h => List.mem_cons_of_mem _ (List.mem_append_left _ (List.mem_append_left _ (List.mem_append_right _ h)))) hown hK.1 hP 0 rfl rfl 2 (by decide) (hts (.fieldLink RX10 11 "CutAtlas$Widening" "prices" "[[I") (List.mem_of_getElem? (i := 4) rfl)) (fun _ h9 => h9) rfl dB_36_2_7.1.2.1.2 ?_
                  refine lv_iload hx hb dB_36_2_7.1.2.2.1 (lv_at hl 0 rfl) ?_
                  refine va_alda hx hb hG hP 7 rfl (i := y_76) h_79 dB_36_2_7.1.2.2.2 ?_
                  refine lv_topv (v' := .ref (rp y_76.toNatClampNeg)) (gf_at h_79) ?_
                  refine lv_iload hx hb dB_36_2_7.2.1.1.1 (lv_at hl 1 rfl) ?_
                  refine lv_aload_n hx hb dB_36_2_7.2.1.1.2 rfl (lv_at hl 5 rfl) ?_
                  refine va_get (ci := 10) (v := .ref wpo) (C := RX10) (T := TX10) (N := 5) hx hb hts (fun _ h => List.mem_cons_of_mem _ (List.mem_append_left _ (List.mem_append_left _ (List.mem_append_right _ h)))) hown hK.1 hP 0 rfl rfl 2 (by decide) (hts (.fieldLink RX10 11 "CutAtlas$Widening" "prices" "[[I") (List.mem_of_getElem? (i := 4) rfl)) (fun _ h9 => h9) rfl dB_36_2_7.2.1.2.1 ?_
                  refine lv_iload hx hb dB_36_2_7.2.1.2.2 (lv_at hl 1 rfl) ?_
                  refine va_alda hx hb hG hP 7 rfl (i := y_74) h_77 dB_36_2_7.2.2.1.1 ?_
                  refine lv_topv (v' := .ref (rp y_74.toNatClampNeg)) (gf_at h_77) ?_
                  refine lv_iload hx hb dB_36_2_7.2.2.1.2 (lv_at hl 0 rfl) ?_
                  have hPg : va_P D vwCl (([ob10_0_ xw xc xk wpo wc wf, ob0_0_ xc xn xk clo cro c4 c5 c6 c7 c8, ob3_0_ xn vp vn n1 n2 n3 n4 n5, ai_ cy n1 40 fk, ai_ cy n2 40 fs, ai_ cy n3 40 fe, ai_ cy n5 40 fp, aq_ cy 6 wpo 12 (gf_ rp)] : va_W) ++ (gro (cy 0) rp M_83 ++ ([aq_ cy 3 xk 5 (kf_ k0 k1 k2 k3 k4), ob6_0_ k0, ob5_0_ k1, ob9_0_ k2, ob2_0_ k3, ob8_0_ k4] : va_W))) H := hP
                  refine va_gld (X := [ob10_0_ xw xc xk wpo wc wf, ob0_0_ xc xn xk clo cro c4 c5 c6 c7 c8, ob3_0_ xn vp vn n1 n2 n3 n4 n5, ai_ cy n1 40 fk, ai_ cy n2 40 fs, ai_ cy n3 40 fe, ai_ cy n5 40 fp, aq_ cy 6 wpo 12 (gf_ rp)]) (Y := [aq_ cy 3 xk 5 (kf_ k0 k1 k2 k3 k4), ob6_0_ k0, ob5_0_ k1, ob9_0_ k2, ob2_0_ k3, ob8_0_ k4]) (r := rp) (M := M_83) (k := y_74.toNatClampNeg) hx hb hK.1 hPg 0 rfl (in_lt h_77) (i := y_76) h_79 dB_36_2_7.2.2.2.1 ?_
                  refine lv_topi (fun y_87 ey_87 => ?_)
                  have hPg : va_P D vwCl (([ob10_0_ xw xc xk wpo wc wf, ob0_0_ xc xn xk clo cro c4 c5 c6 c7 c8, ob3_0_ xn vp vn n1 n2 n3 n4 n5, ai_ cy n1 40 fk, ai_ cy n2 40 fs, ai_ cy n3 40 fe, ai_ cy n5 40 fp, aq_ cy 6 wpo 12 (gf_ rp)] : va_W) ++ (gro (cy 0) rp M_83 ++ ([aq_ cy 3 xk 5 (kf_ k0 k1 k2 k3 k4), ob6_0_ k0, ob5_0_ k1, ob9_0_ k2, ob2_0_ k3, ob8_0_ k4] : va_W))) H := hP
                  have hDg : va_D A (([ob10_0_ xw xc xk wpo wc wf, ob0_0_ xc xn xk clo cro c4 c5 c6 c7 c8, ob3_0_ xn vp vn n1 n2 n3 n4 n5, ai_ cy n1 40 fk, ai_ cy n2 40 fs, ai_ cy n3 40 fe, ai_ cy n5 40 fp, aq_ cy 6 wpo 12 (gf_ rp)] : va_W) ++ (gro (cy 0) rp M_83 ++ ([aq_ cy 3 xk 5 (kf_ k0 k1 k2 k3 k4), ob6_0_ k0, ob5_0_ k1, ob9_0_ k2, ob2_0_ k3, ob8_0_ k4] : va_W))) := hD
                  refine va_gst (X := [ob10_0_ xw xc xk wpo wc wf, ob0_0_ xc xn xk clo cro c4 c5 c6 c7 c8, ob3_0_ xn vp vn n1 n2 n3 n4 n5, ai_ cy n1 40 fk, ai_ cy n2 40 fs, ai_ cy n3 40 fe, ai_ cy n5 40 fp, aq_ cy 6 wpo 12 (gf_ rp)]) (Y := [aq_ cy 3 xk 5 (kf_ k0 k1 k2 k3 k4), ob6_0_ k0, ob5_0_ k1, ob9_0_ k2, ob2_0_ k3, ob8_0_ k4]) (r := rp) (M := M_83) (k := y_76.toNatClampNeg) hx hb hK.1 hPg hDg hS 0 rfl (in_lt h_79) (i := y_74) h_77 dB_36_2_7.2.2.2.2 (fun H locs hP hD hS => ?_)
                  obtain ⟨M_89, eM_89⟩ : ∃ g : Nat → Nat → Int32, g = va_up M_83 y_76.toNatClampNeg (upd (M_83 y_76.toNatClampNeg) y_74.toNatClampNeg y_87) := ⟨_, rfl⟩
                  refine pd_K (D := D) (cl := vwCl) (H := H) (A := A) [ob10_0_ xw xc xk wpo wc wf, ob0_0_ xc xn xk clo cro c4 c5 c6 c7 c8, ob3_0_ xn vp vn n1 n2 n3 n4 n5, ai_ cy n1 40 fk, ai_ cy n2 40 fs, ai_ cy n3 40 fe, ai_ cy n5 40 fp, aq_ cy 6 wpo 12 (gf_ rp), ai_ cy (rp 0) 12 (M_89 0), ai_ cy (rp 1) 12 (M_89 1), ai_ cy (rp 2) 12 (M_89 2), ai_ cy (rp 3) 12 (M_89 3), ai_ cy (rp 4) 12 (M_89 4), ai_ cy (rp 5) 12 (M_89 5), ai_ cy (rp 6) 12 (M_89 6), ai_ cy (rp 7) 12 (M_89 7), ai_ cy (rp 8) 12 (M_89 8), ai_ cy (rp 9) 12 (M_89 9), ai_ cy (rp 10) 12 (M_89 10), ai_ cy (rp 11) 12 (M_89 11), aq_ cy 3 xk 5 (kf_ k0 k1 k2 k3 k4), ob6_0_ k0, ob5_0_ k1, ob9_0_ k2, ob2_0_ k3, ob8_0_ k4] (by rw [eM_89]; exact hP) (by rw [eM_89]; exact hD) (fun hP hD => ?_)
                  first | (have hpm_ : ∀ i2 : Int32, i2.toInt = x2_3.toInt + 1 → prM fk fs fe fp vp.toNatClampNeg i2.toNatClampNeg (zM M_89) := fun i2 ei => prM_sI v2_3 (by omega) ei hms_ ey_74 ey_76 (by omega) (by omega) (by omega) (by omega) (by omega) hcs_ (by omega) (by omega) hv1_ eM_83 eM_89 ey_87) | skip
                  obtain ⟨y_90, ey_90⟩ : ∃ y : Int32, y = x2_3 + 1 := ⟨_, rfl⟩
                  have ty_90 : y_90.toInt = x2_3.toInt + (1 : Int32).toInt := by rw [ey_90]; exact addI (by omega) (by omega)
                  refine lv_iinc (v := y_90) (lv' := [(2, .int y_90), (5, .int y_76), (4, .int y_74), (3, .int r_65), (1, .ref xn), (0, .ref xw)]) hx hb dB_36_2_8.1 hl (k := 3) rfl (by rw [ey_90]; rfl) (by decide) rfl (fun ls hl => ?_)
                  refine lv_goto (tgt := 37) hx hb dB_36_2_8.2.1 (by decide) ?_
                  exact ih_3 y_90 M_89 _ _ _ (by omega) (by first | with_reducible assumption | omega | assumption) (by first | with_reducible assumption | omega | assumption) (by first | exact prM_00 v2_1 (by omega) hvp | exact hpm_ _ (by omega) | exact prM_nI v2_3 (by omega) (by omega) (Or.inr (by omega)) | exact prM_nI v2_3 (by omega) (by omega) (Or.inl (by omega))) ⟨hP, hD⟩ hS (lv_sub hl [0, 4, 5] rfl)
          · refine va_aldq hx hb hK.1 hP 20 3 rfl rfl (i := 3) (by unfold vp_in; decide) dB_36_2_4.2.2.2.1 ?_
            refine lv_topv (v' := .ref k3) (by simp [va_up, va_rf, mf_, cl_0, cl_1, cl_2, cl_3, cl_4, kf_]) ?_
            refine lv_aload_n hx hb dB_36_2_4.2.2.2.2 rfl (lv_at hl 1 rfl) ?_
            refine va_get (ci := 3) (v := .ref n5) (C := RX3) (T := TX3) (N := 7) hx hb hts (fun _ h => List.mem_cons_of_mem _ (List.mem_append_right _ h)) hown hK.1 hP 2 rfl rfl 6 (by decide) (hts (.fieldLink RX10 70 "CutAtlas$Net" "prices" "[I") (List.mem_of_getElem? (i := 9) rfl)) (fun _ h9 => h9) rfl dB_36_2_5.1.1.1.1 ?_
            refine lv_iload_n hx hb dB_36_2_5.1.1.1.2 rfl (lv_at hl 0 rfl) ?_
            refine va_iald hx hb hK.1 hP 6 0 rfl rfl (i := x2_3) h_5 dB_36_2_5.1.1.2.1 ?_
            refine lv_topi (fun y_92 ey_92 => ?_)
            have ky_92 : y_92.toInt = (fp x2_3.toNatClampNeg).toInt := by rw [ey_92]
            have ry_92 : 0 ≤ y_92.toInt ∧ y_92.toInt ≤ 100 := by rw [ey_92]; exact r_fp _ (in_lt h_5)
            refine ct_R hP hD [] [] (by decide) rfl (fun hPc hDw => ?_)
            have hFc := va_free (wc := []) hD hS hA [] rfl
            refine va_calli (va_runU (As := [.int y_92]) (rest := []) ⟨hx, hb, hml, hown, hts⟩ (c_X2_costs2 l D cy H.size k3 y_92) (va_cwO 1 hts gX10_findPrices_X2_costs_u72X2 rfl rfl rfl (b0 := cX6_costs) (m0 := 2) (r0 := (some .int)) (by decide +kernel) (by decide +kernel) ⟨Nat.le_of_ble_eq_true rfl, Nat.le_of_ble_eq_true rfl⟩) ⟨bl_, va_recvX hK.1 hP (ci := 2) (q0 := 24) rfl rfl, fun U hU hW => ⟨rfl, by rw [hU], by rw [hU]; exact hPc, kk_mv hW hK, hDw⟩⟩ rfl rfl hl.1 rfl (lv_room (Nat.le_of_ble_eq_true rfl)) dB_36_2_5.1.1.2.2 ⟨Nat.le_of_ble_eq_true rfl, Nat.le_of_ble_eq_true rfl⟩) hS (fun q _ h => hFc q h) hFc (fun r_93 u t H locs ht hvm hw hB hz1 hk1 hS => ?_)
            have hP : va_P D vwCl _ H := ro_keep hP hk1
            obtain ⟨f0_r_93, f1_r_93⟩ := hw
            have hcs_ : r_93.toInt = cst (fk x2_3.toNatClampNeg).toInt (fp x2_3.toNatClampNeg).toInt := by unfold cst; (repeat' (first | with_reducible refine if_n (by omega) ?_ | with_reducible refine if_ns (by omega) ?_ | with_reducible refine if_nz (by omega) ?_ | with_reducible exact if_p (by omega) (by omega) | with_reducible exact if_ps (by omega) (by omega) | with_reducible exact if_pz (by omega) (by omega))) <;> omega
            refine lv_istore_n (lv' := [(3, .int r_93), (2, .int x2_3), (1, .ref xn), (0, .ref xw)]) hx hb dB_36_2_5.1.2.1.1 rfl hl (by decide) rfl (fun ls hl => ?_)
            refine lv_iload_n hx hb dB_36_2_5.1.2.1.2 rfl (lv_at hl 0 rfl) ?_
            refine lv_bipush (v := (-9)) hx hb dB_36_2_5.1.2.2.1 (by decide) ?_
            refine lv_icmp_eq (tgt := 140) hx hb dB_36_2_5.1.2.2.2 (by decide) (fun c_94 => ?_) (fun c_94 => ?_)
            · have t_94 : r_93.toInt = ((-9) : Int32).toInt := congrArg Int32.toInt c_94
              first | (have hpm_ : ∀ i2 : Int32, i2.toInt = x2_3.toInt + 1 → prM fk fs fe fp vp.toNatClampNeg i2.toNatClampNeg (zM m_rp_3) := fun i2 ei => prM_sI v2_3 (by omega) ei hms_ S[ea] S[eb] (by omega) (by omega) (by omega) (by omega) (by omega) hcs_ (by omega) (by omega) hv1_ S[q1] em_rp_3 S[ev2]) | skip
              obtain ⟨y_95, ey_95⟩ : ∃ y : Int32, y = x2_3 + 1 := ⟨_, rfl⟩
              have ty_95 : y_95.toInt = x2_3.toInt + (1 : Int32).toInt := by rw [ey_95]; exact addI (by omega) (by omega)
              refine lv_iinc (v := y_95) (lv' := [(2, .int y_95), (3, .int r_93), (1, .ref xn), (0, .ref xw)]) hx hb dB_36_2_8.1 hl (k := 1) rfl (by rw [ey_95]; rfl) (by decide) rfl (fun ls hl => ?_)
              refine lv_goto (tgt := 37) hx hb dB_36_2_8.2.1 (by decide) ?_
              exact ih_3 y_95 m_rp_3 _ _ _ (by omega) (by first | with_reducible assumption | omega | assumption) (by first | with_reducible assumption | omega | assumption) (by first | exact prM_00 v2_1 (by omega) hvp | exact hpm_ _ (by omega) | exact prM_nI v2_3 (by omega) (by omega) (Or.inr (by omega)) | exact prM_nI v2_3 (by omega) (by omega) (Or.inl (by omega))) ⟨hP, hD⟩ hS (lv_sub hl [0, 2, 3] rfl)
            · have t_94 : ¬ r_93.toInt = ((-9) : Int32).toInt := fun h => c_94 (Int32.toInt_inj.mp h)
              refine lv_aload_n hx hb dB_36_2_5.2.1.1.1 rfl (lv_at hl 2 rfl) ?_
              refine lv_iload_n hx hb dB_36_2_5.2.1.1.2 rfl (lv_at hl 1 rfl) ?_
              refine ct_R hP hD [ob3_0_ xn vp vn n1 n2 n3 n4 n5, ai_ cy n2 40 fs] [2, 4] (by decide) rfl (fun hPc hDw => ?_)
              have hFc := va_free (wc := []) hD hS hA [] rfl
              refine va_calli (va_runV (As := [.int x2_3]) (rest := []) ⟨hx, hb, hml, hown, hts⟩ (c_X3_isMissing l D cy H.size xn n1 n2 n3 n4 n5 vp vn fs x2_3 (by first | with_reducible assumption | omega | assumption)) (cwV 1 hts gX10_findPrices_X3_isMissing rfl rfl rfl ⟨rfl, hd_X3_isMissing⟩ ⟨Nat.le_of_ble_eq_true rfl, Nat.le_of_ble_eq_true rfl⟩) ⟨bl_, va_recvX hK.1 hP (ci := 3) (q0 := 2) rfl rfl, fun U hU hW => ⟨rfl, by rw [hU], by rw [hU]; exact hPc, kk_mv hW hK, hDw⟩⟩ rfl rfl hl.1 rfl (lv_room (Nat.le_of_ble_eq_true rfl)) dB_36_2_5.2.1.2.1 ⟨Nat.le_of_ble_eq_true rfl, Nat.le_of_ble_eq_true rfl⟩) hS (fun q _ h => hFc q h) hFc (fun r_96 u t H locs ht hvm hw hB hz1 hk1 hS => ?_)
              have hP : va_P D vwCl _ H := ro_keep hP hk1
              rcases hw with ⟨w_97, e_⟩ | ⟨w_97, e_⟩
              · have e_ := e_.symm
                subst e_
                refine lv_if_ne (tgt := 140) hx hb dB_36_2_5.2.1.2.2 (by decide) (fun c_98 => ?_) (fun c_98 => ?_)
                · have _ := c_98
                  first | (have hpm_ : ∀ i2 : Int32, i2.toInt = x2_3.toInt + 1 → prM fk fs fe fp vp.toNatClampNeg i2.toNatClampNeg (zM m_rp_3) := fun i2 ei => prM_sI v2_3 (by omega) ei hms_ S[ea] S[eb] (by omega) (by omega) (by omega) (by omega) (by omega) hcs_ (by omega) (by omega) hv1_ S[q1] em_rp_3 S[ev2]) | skip
                  obtain ⟨y_99, ey_99⟩ : ∃ y : Int32, y = x2_3 + 1 := ⟨_, rfl⟩
                  have ty_99 : y_99.toInt = x2_3.toInt + (1 : Int32).toInt := by rw [ey_99]; exact addI (by omega) (by omega)
                  refine lv_iinc (v := y_99) (lv' := [(2, .int y_99), (3, .int r_93), (1, .ref xn), (0, .ref xw)]) hx hb dB_36_2_8.1 hl (k := 1) rfl (by rw [ey_99]; rfl) (by decide) rfl (fun ls hl => ?_)
                  refine lv_goto (tgt := 37) hx hb dB_36_2_8.2.1 (by decide) ?_
                  exact ih_3 y_99 m_rp_3 _ _ _ (by omega) (by first | with_reducible assumption | omega | assumption) (by first | with_reducible assumption | omega | assumption) (by first | exact prM_00 v2_1 (by omega) hvp | exact hpm_ _ (by omega) | exact prM_nI v2_3 (by omega) (by omega) (Or.inr (by omega)) | exact prM_nI v2_3 (by omega) (by omega) (Or.inl (by omega))) ⟨hP, hD⟩ hS (lv_sub hl [0, 2, 3] rfl)
                · exact absurd c_98 (by decide)
              · have e_ := e_.symm
                subst e_
                refine lv_if_ne (tgt := 140) hx hb dB_36_2_5.2.1.2.2 (by decide) (fun c_100 => ?_) (fun c_100 => ?_)
                · exact absurd c_100 (by decide)
                · have _ := c_100
                  have hms_ : (fs x2_3.toNatClampNeg).toInt ≠ -9 := by omega
                  have hpc_ := hnc x2_3.toNatClampNeg (by omega) hms_
                  have hdd_ := hdc x2_3.toNatClampNeg (by omega) hms_
                  refine lv_aload_n hx hb dB_36_2_5.2.2.1.1 rfl (lv_at hl 2 rfl) ?_
                  refine va_get (ci := 3) (v := .ref n2) (C := RX3) (T := TX3) (N := 7) hx hb hts (fun _ h => List.mem_cons_of_mem _ (List.mem_append_right _ h)) hown hK.1 hP 2 rfl rfl 3 (by decide) (hts (.fieldLink RX10 81 "CutAtlas$Net" "starts" "[I") (List.mem_of_getElem? (i := 10) rfl)) (fun _ h9 => h9) rfl dB_36_2_5.2.2.1.2 ?_
                  refine lv_iload_n hx hb dB_36_2_5.2.2.2.1 rfl (lv_at hl 1 rfl) ?_
                  refine va_iald hx hb hK.1 hP 4 0 rfl rfl (i := x2_3) h_5 dB_36_2_5.2.2.2.2 ?_
                  refine lv_topi (fun y_102 ey_102 => ?_)
                  have ky_102 : y_102.toInt = (fs x2_3.toNatClampNeg).toInt := by rw [ey_102]
                  have ry_102 := hpr _ (in_lt h_5)
                  have jy_102 : y_102.toInt = (fs x2_3.toNatClampNeg).toInt := by rw [ey_102]
                  have cA_ := clI (i := y_102) (by omega)
                  refine lv_istore (lv' := [(4, .int y_102), (3, .int r_93), (2, .int x2_3), (1, .ref xn), (0, .ref xw)]) hx hb dB_36_2_6.1.1.1.1 hl (by decide) rfl (fun ls hl => ?_)
                  refine lv_aload_n hx hb dB_36_2_6.1.1.1.2 rfl (lv_at hl 3 rfl) ?_
                  refine va_get (ci := 3) (v := .ref n3) (C := RX3) (T := TX3) (N := 7) hx hb hts (fun _ h => List.mem_cons_of_mem _ (List.mem_append_right _ h)) hown hK.1 hP 2 rfl rfl 4 (by decide) (hts (.fieldLink RX10 84 "CutAtlas$Net" "ends" "[I") (List.mem_of_getElem? (i := 11) rfl)) (fun _ h9 => h9) rfl dB_36_2_6.1.1.2.1 ?_
                  refine lv_iload_n hx hb dB_36_2_6.1.1.2.2 rfl (lv_at hl 2 rfl) ?_
                  refine va_iald hx hb hK.1 hP 5 0 rfl rfl (i := x2_3) h_5 dB_36_2_6.1.2.1.1 ?_
                  refine lv_topi (fun y_104 ey_104 => ?_)
                  have ky_104 : y_104.toInt = (fe x2_3.toNatClampNeg).toInt := by rw [ey_104]
                  have ry_104 := hpr _ (in_lt h_5)
                  have jy_104 : y_104.toInt = (fe x2_3.toNatClampNeg).toInt := by rw [ey_104]
                  have cB_ := clI (i := y_104) (by omega)
                  refine lv_istore (lv' := [(5, .int y_104), (4, .int y_102), (3, .int r_93), (2, .int x2_3), (1, .ref xn), (0, .ref xw)]) hx hb dB_36_2_6.1.2.1.2 hl (by decide) rfl (fun ls hl => ?_)
                  refine lv_aload_n hx hb dB_36_2_6.1.2.2.1 rfl (lv_at hl 5 rfl) ?_
                  refine va_get (ci := 10) (v := .ref wpo) (C := RX10) (T := TX10) (N := 5) hx hb hts (fun _ h => List.mem_cons_of_mem _ (List.mem_append_left _ (List.mem_append_left _ (List.mem_append_right _ h)))) hown hK.1 hP 0 rfl rfl 2 (by decide) (hts (.fieldLink RX10 11 "CutAtlas$Widening" "prices" "[[I") (List.mem_of_getElem? (i := 4) rfl)) (fun _ h9 => h9) rfl dB_36_2_6.1.2.2.2 ?_
                  refine lv_iload hx hb dB_36_2_6.2.1.1.1 (lv_at hl 1 rfl) ?_
                  have h_105 : vp_in y_102 12 := in_I (by first | with_reducible assumption | omega) (by omega)
                  refine va_alda hx hb hG hP 7 rfl (i := y_102) h_105 dB_36_2_6.2.1.1.2 ?_
                  refine lv_topv (v' := .ref (rp y_102.toNatClampNeg)) (gf_at h_105) ?_
                  refine lv_iload hx hb dB_36_2_6.2.1.2.1 (lv_at hl 0 rfl) ?_
                  refine lv_aload_n hx hb dB_36_2_6.2.1.2.2 rfl (lv_at hl 5 rfl) ?_
                  refine va_get (ci := 10) (v := .ref wpo) (C := RX10) (T := TX10) (N := 5) hx hb hts (fun _ h => List.mem_cons_of_mem _ (List.mem_append_left _ (List.mem_append_left _ (List.mem_append_right _ h)))) hown hK.1 hP 0 rfl rfl 2 (by decide) (hts (.fieldLink RX10 11 "CutAtlas$Widening" "prices" "[[I") (List.mem_of_getElem? (i := 4) rfl)) (fun _ h9 => h9) rfl dB_36_2_6.2.2.1.1 ?_
                  refine lv_iload hx hb dB_36_2_6.2.2.1.2 (lv_at hl 1 rfl) ?_
                  refine va_alda hx hb hG hP 7 rfl (i := y_102) h_105 dB_36_2_6.2.2.2.1 ?_
                  refine lv_topv (v' := .ref (rp y_102.toNatClampNeg)) (gf_at h_105) ?_
                  refine lv_iload hx hb dB_36_2_6.2.2.2.2 (lv_at hl 0 rfl) ?_
                  have h_107 : vp_in y_104 12 := in_I (by first | with_reducible assumption | omega) (by omega)
                  have hPg : va_P D vwCl (([ob10_0_ xw xc xk wpo wc wf, ob0_0_ xc xn xk clo cro c4 c5 c6 c7 c8, ob3_0_ xn vp vn n1 n2 n3 n4 n5, ai_ cy n1 40 fk, ai_ cy n2 40 fs, ai_ cy n3 40 fe, ai_ cy n5 40 fp, aq_ cy 6 wpo 12 (gf_ rp)] : va_W) ++ (gro (cy 0) rp m_rp_3 ++ ([aq_ cy 3 xk 5 (kf_ k0 k1 k2 k3 k4), ob6_0_ k0, ob5_0_ k1, ob9_0_ k2, ob2_0_ k3, ob8_0_ k4] : va_W))) H := hP
                  refine va_gld (X := [ob10_0_ xw xc xk wpo wc wf, ob0_0_ xc xn xk clo cro c4 c5 c6 c7 c8, ob3_0_ xn vp vn n1 n2 n3 n4 n5, ai_ cy n1 40 fk, ai_ cy n2 40 fs, ai_ cy n3 40 fe, ai_ cy n5 40 fp, aq_ cy 6 wpo 12 (gf_ rp)]) (Y := [aq_ cy 3 xk 5 (kf_ k0 k1 k2 k3 k4), ob6_0_ k0, ob5_0_ k1, ob9_0_ k2, ob2_0_ k3, ob8_0_ k4]) (r := rp) (M := m_rp_3) (k := y_102.toNatClampNeg) hx hb hK.1 hPg 0 rfl (in_lt h_105) (i := y_104) h_107 dB_36_2_7.1.1.1.1 ?_
                  refine lv_topi (fun y_108 ey_108 => ?_)
                  have km1_ : y_108.toInt = (m_rp_3 y_102.toNatClampNeg y_104.toNatClampNeg).toInt := by rw [ey_108]
                  refine lv_iload_n hx hb dB_36_2_7.1.1.1.2 rfl (lv_at hl 2 rfl) ?_
                  refine va_mmin hx hb (by rw [hml]; exact hl.1.symm) hown (hts (.methodLink RX10 87 Lib.Math.min.name) (pc_X10_findPrices wsX10_findPrices_r1 (List.mem_of_getElem? (i := 1) rfl) _ (List.mem_of_getElem? (i := 11) rfl))) (hts (.static Lib.Math.min.name) (pc_X10_findPrices wsX10_findPrices_r1 (List.mem_of_getElem? (i := 1) rfl) _ (List.mem_of_getElem? (i := 12) rfl))) (hts (.initialized "java/lang/Math") (pc_X10_findPrices wsX10_findPrices_r1 (List.mem_of_getElem? (i := 1) rfl) _ (List.mem_of_getElem? (i := 13) rfl))) (hts (.code Lib.Math.min.name Lib.Math.min.code 2 (some .int)) (pc_X10_findPrices wsX10_findPrices_r1 (List.mem_of_getElem? (i := 1) rfl) _ (List.mem_of_getElem? (i := 14) rfl))) (Nat.le_of_ble_eq_true rfl) (Nat.le_of_ble_eq_true rfl) (Nat.le_of_ble_eq_true rfl) (Nat.le_of_ble_eq_true rfl) dB_36_2_7.1.1.2.1 ?_
                  refine lv_topi (fun y_109 ey_109 => ?_)
                  have ty_109 : y_109 = y_108 ∨ y_109 = r_93 := by rw [ey_109]; split <;> simp
                  have iy_109 : y_109.toInt = y_108.toInt ∨ y_109.toInt = r_93.toInt := by rcases ty_109 with h | h <;> rw [h] <;> simp
                  have hv1_ : y_109.toInt = loI (m_rp_3 y_102.toNatClampNeg y_104.toNatClampNeg).toInt r_93.toInt := by have h_ := mnI ey_109; rw [km1_] at h_; exact h_
                  have hPg : va_P D vwCl (([ob10_0_ xw xc xk wpo wc wf, ob0_0_ xc xn xk clo cro c4 c5 c6 c7 c8, ob3_0_ xn vp vn n1 n2 n3 n4 n5, ai_ cy n1 40 fk, ai_ cy n2 40 fs, ai_ cy n3 40 fe, ai_ cy n5 40 fp, aq_ cy 6 wpo 12 (gf_ rp)] : va_W) ++ (gro (cy 0) rp m_rp_3 ++ ([aq_ cy 3 xk 5 (kf_ k0 k1 k2 k3 k4), ob6_0_ k0, ob5_0_ k1, ob9_0_ k2, ob2_0_ k3, ob8_0_ k4] : va_W))) H := hP
                  have hDg : va_D A (([ob10_0_ xw xc xk wpo wc wf, ob0_0_ xc xn xk clo cro c4 c5 c6 c7 c8, ob3_0_ xn vp vn n1 n2 n3 n4 n5, ai_ cy n1 40 fk, ai_ cy n2 40 fs, ai_ cy n3 40 fe, ai_ cy n5 40 fp, aq_ cy 6 wpo 12 (gf_ rp)] : va_W) ++ (gro (cy 0) rp m_rp_3 ++ ([aq_ cy 3 xk 5 (kf_ k0 k1 k2 k3 k4), ob6_0_ k0, ob5_0_ k1, ob9_0_ k2, ob2_0_ k3, ob8_0_ k4] : va_W))) := hD
                  refine va_gst (X := [ob10_0_ xw xc xk wpo wc wf, ob0_0_ xc xn xk clo cro c4 c5 c6 c7 c8, ob3_0_ xn vp vn n1 n2 n3 n4 n5, ai_ cy n1 40 fk, ai_ cy n2 40 fs, ai_ cy n3 40 fe, ai_ cy n5 40 fp, aq_ cy 6 wpo 12 (gf_ rp)]) (Y := [aq_ cy 3 xk 5 (kf_ k0 k1 k2 k3 k4), ob6_0_ k0, ob5_0_ k1, ob9_0_ k2, ob2_0_ k3, ob8_0_ k4]) (r := rp) (M := m_rp_3) (k := y_102.toNatClampNeg) hx hb hK.1 hPg hDg hS 0 rfl (in_lt h_105) (i := y_104) h_107 dB_36_2_7.1.1.2.2 (fun H locs hP hD hS => ?_)
                  obtain ⟨M_111, eM_111⟩ : ∃ g : Nat → Nat → Int32, g = va_up m_rp_3 y_102.toNatClampNeg (upd (m_rp_3 y_102.toNatClampNeg) y_104.toNatClampNeg y_109) := ⟨_, rfl⟩
                  refine pd_K (D := D) (cl := vwCl) (H := H) (A := A) [ob10_0_ xw xc xk wpo wc wf, ob0_0_ xc xn xk clo cro c4 c5 c6 c7 c8, ob3_0_ xn vp vn n1 n2 n3 n4 n5, ai_ cy n1 40 fk, ai_ cy n2 40 fs, ai_ cy n3 40 fe, ai_ cy n5 40 fp, aq_ cy 6 wpo 12 (gf_ rp), ai_ cy (rp 0) 12 (M_111 0), ai_ cy (rp 1) 12 (M_111 1), ai_ cy (rp 2) 12 (M_111 2), ai_ cy (rp 3) 12 (M_111 3), ai_ cy (rp 4) 12 (M_111 4), ai_ cy (rp 5) 12 (M_111 5), ai_ cy (rp 6) 12 (M_111 6), ai_ cy (rp 7) 12 (M_111 7), ai_ cy (rp 8) 12 (M_111 8), ai_ cy (rp 9) 12 (M_111 9), ai_ cy (rp 10) 12 (M_111 10), ai_ cy (rp 11) 12 (M_111 11), aq_ cy 3 xk 5 (kf_ k0 k1 k2 k3 k4), ob6_0_ k0, ob5_0_ k1, ob9_0_ k2, ob2_0_ k3, ob8_0_ k4] (by rw [eM_111]; exact hP) (by rw [eM_111]; exact hD) (fun hP hD => ?_)
                  refine lv_aload_n hx hb dB_36_2_7.1.2.1.1 rfl (lv_at hl 5 rfl) ?_
                  refine va_get (ci := 10) (v := .ref wpo) (C := RX10) (T := TX10) (N := 5) hx hb hts (fun _ h => List.mem_cons_of_mem _ (List.mem_append_left _ (List.mem_append_left _ (List.mem_append_right _ h)))) hown hK.1 hP 0 rfl rfl 2 (by decide) (hts (.fieldLink RX10 11 "CutAtlas$Widening" "prices" "[[I") (List.mem_of_getElem? (i := 4) rfl)) (fun _ h9 => h9) rfl dB_36_2_7.1.2.1.2 ?_
                  refine lv_iload hx hb dB_36_2_7.1.2.2.1 (lv_at hl 0 rfl) ?_
                  refine va_alda hx hb hG hP 7 rfl (i := y_104) h_107 dB_36_2_7.1.2.2.2 ?_
                  refine lv_topv (v' := .ref (rp y_104.toNatClampNeg)) (gf_at h_107) ?_
                  refine lv_iload hx hb dB_36_2_7.2.1.1.1 (lv_at hl 1 rfl) ?_
                  refine lv_aload_n hx hb dB_36_2_7.2.1.1.2 rfl (lv_at hl 5 rfl) ?_
                  refine va_get (ci := 10) (v := .ref wpo) (C := RX10) (T := TX10) (N := 5) hx hb hts (fun _ h => List.mem_cons_of_mem _ (List.mem_append_left _ (List.mem_append_left _ (List.mem_append_right _ h)))) hown hK.1 hP 0 rfl rfl 2 (by decide) (hts (.fieldLink RX10 11 "CutAtlas$Widening" "prices" "[[I") (List.mem_of_getElem? (i := 4) rfl)) (fun _ h9 => h9) rfl dB_36_2_7.2.1.2.1 ?_
                  refine lv_iload hx hb dB_36_2_7.2.1.2.2 (lv_at hl 1 rfl) ?_
                  refine va_alda hx hb hG hP 7 rfl (i := y_102) h_105 dB_36_2_7.2.2.1.1 ?_
                  refine lv_topv (v' := .ref (rp y_102.toNatClampNeg)) (gf_at h_105) ?_
                  refine lv_iload hx hb dB_36_2_7.2.2.1.2 (lv_at hl 0 rfl) ?_
                  have hPg : va_P D vwCl (([ob10_0_ xw xc xk wpo wc wf, ob0_0_ xc xn xk clo cro c4 c5 c6 c7 c8, ob3_0_ xn vp vn n1 n2 n3 n4 n5, ai_ cy n1 40 fk, ai_ cy n2 40 fs, ai_ cy n3 40 fe, ai_ cy n5 40 fp, aq_ cy 6 wpo 12 (gf_ rp)] : va_W) ++ (gro (cy 0) rp M_111 ++ ([aq_ cy 3 xk 5 (kf_ k0 k1 k2 k3 k4), ob6_0_ k0, ob5_0_ k1, ob9_0_ k2, ob2_0_ k3, ob8_0_ k4] : va_W))) H := hP
                  refine va_gld (X := [ob10_0_ xw xc xk wpo wc wf, ob0_0_ xc xn xk clo cro c4 c5 c6 c7 c8, ob3_0_ xn vp vn n1 n2 n3 n4 n5, ai_ cy n1 40 fk, ai_ cy n2 40 fs, ai_ cy n3 40 fe, ai_ cy n5 40 fp, aq_ cy 6 wpo 12 (gf_ rp)]) (Y := [aq_ cy 3 xk 5 (kf_ k0 k1 k2 k3 k4), ob6_0_ k0, ob5_0_ k1, ob9_0_ k2, ob2_0_ k3, ob8_0_ k4]) (r := rp) (M := M_111) (k := y_102.toNatClampNeg) hx hb hK.1 hPg 0 rfl (in_lt h_105) (i := y_104) h_107 dB_36_2_7.2.2.2.1 ?_
                  refine lv_topi (fun y_115 ey_115 => ?_)
                  have hPg : va_P D vwCl (([ob10_0_ xw xc xk wpo wc wf, ob0_0_ xc xn xk clo cro c4 c5 c6 c7 c8, ob3_0_ xn vp vn n1 n2 n3 n4 n5, ai_ cy n1 40 fk, ai_ cy n2 40 fs, ai_ cy n3 40 fe, ai_ cy n5 40 fp, aq_ cy 6 wpo 12 (gf_ rp)] : va_W) ++ (gro (cy 0) rp M_111 ++ ([aq_ cy 3 xk 5 (kf_ k0 k1 k2 k3 k4), ob6_0_ k0, ob5_0_ k1, ob9_0_ k2, ob2_0_ k3, ob8_0_ k4] : va_W))) H := hP
                  have hDg : va_D A (([ob10_0_ xw xc xk wpo wc wf, ob0_0_ xc xn xk clo cro c4 c5 c6 c7 c8, ob3_0_ xn vp vn n1 n2 n3 n4 n5, ai_ cy n1 40 fk, ai_ cy n2 40 fs, ai_ cy n3 40 fe, ai_ cy n5 40 fp, aq_ cy 6 wpo 12 (gf_ rp)] : va_W) ++ (gro (cy 0) rp M_111 ++ ([aq_ cy 3 xk 5 (kf_ k0 k1 k2 k3 k4), ob6_0_ k0, ob5_0_ k1, ob9_0_ k2, ob2_0_ k3, ob8_0_ k4] : va_W))) := hD
                  refine va_gst (X := [ob10_0_ xw xc xk wpo wc wf, ob0_0_ xc xn xk clo cro c4 c5 c6 c7 c8, ob3_0_ xn vp vn n1 n2 n3 n4 n5, ai_ cy n1 40 fk, ai_ cy n2 40 fs, ai_ cy n3 40 fe, ai_ cy n5 40 fp, aq_ cy 6 wpo 12 (gf_ rp)]) (Y := [aq_ cy 3 xk 5 (kf_ k0 k1 k2 k3 k4), ob6_0_ k0, ob5_0_ k1, ob9_0_ k2, ob2_0_ k3, ob8_0_ k4]) (r := rp) (M := M_111) (k := y_104.toNatClampNeg) hx hb hK.1 hPg hDg hS 0 rfl (in_lt h_107) (i := y_102) h_105 dB_36_2_7.2.2.2.2 (fun H locs hP hD hS => ?_)
                  obtain ⟨M_117, eM_117⟩ : ∃ g : Nat → Nat → Int32, g = va_up M_111 y_104.toNatClampNeg (upd (M_111 y_104.toNatClampNeg) y_102.toNatClampNeg y_115) := ⟨_, rfl⟩
                  refine pd_K (D := D) (cl := vwCl) (H := H) (A := A) [ob10_0_ xw xc xk wpo wc wf, ob0_0_ xc xn xk clo cro c4 c5 c6 c7 c8, ob3_0_ xn vp vn n1 n2 n3 n4 n5, ai_ cy n1 40 fk, ai_ cy n2 40 fs, ai_ cy n3 40 fe, ai_ cy n5 40 fp, aq_ cy 6 wpo 12 (gf_ rp), ai_ cy (rp 0) 12 (M_117 0), ai_ cy (rp 1) 12 (M_117 1), ai_ cy (rp 2) 12 (M_117 2), ai_ cy (rp 3) 12 (M_117 3), ai_ cy (rp 4) 12 (M_117 4), ai_ cy (rp 5) 12 (M_117 5), ai_ cy (rp 6) 12 (M_117 6), ai_ cy (rp 7) 12 (M_117 7), ai_ cy (rp 8) 12 (M_117 8), ai_ cy (rp 9) 12 (M_117 9), ai_ cy (rp 10) 12 (M_117 10), ai_ cy (rp 11) 12 (M_117 11), aq_ cy 3 xk 5 (kf_ k0 k1 k2 k3 k4), ob6_0_ k0, ob5_0_ k1, ob9_0_ k2, ob2_0_ k3, ob8_0_ k4] (by rw [eM_117]; exact hP) (by rw [eM_117]; exact hD) (fun hP hD => ?_)
                  first | (have hpm_ : ∀ i2 : Int32, i2.toInt = x2_3.toInt + 1 → prM fk fs fe fp vp.toNatClampNeg i2.toNatClampNeg (zM M_117) := fun i2 ei => prM_sI v2_3 (by omega) ei hms_ ey_102 ey_104 (by omega) (by omega) (by omega) (by omega) (by omega) hcs_ (by omega) (by omega) hv1_ eM_111 eM_117 ey_115) | skip
                  obtain ⟨y_118, ey_118⟩ : ∃ y : Int32, y = x2_3 + 1 := ⟨_, rfl⟩
                  have ty_118 : y_118.toInt = x2_3.toInt + (1 : Int32).toInt := by rw [ey_118]; exact addI (by omega) (by omega)
                  refine lv_iinc (v := y_118) (lv' := [(2, .int y_118), (5, .int y_104), (4, .int y_102), (3, .int r_93), (1, .ref xn), (0, .ref xw)]) hx hb dB_36_2_8.1 hl (k := 3) rfl (by rw [ey_118]; rfl) (by decide) rfl (fun ls hl => ?_)
                  refine lv_goto (tgt := 37) hx hb dB_36_2_8.2.1 (by decide) ?_
                  exact ih_3 y_118 M_117 _ _ _ (by omega) (by first | with_reducible assumption | omega | assumption) (by first | with_reducible assumption | omega | assumption) (by first | exact prM_00 v2_1 (by omega) hvp | exact hpm_ _ (by omega) | exact prM_nI v2_3 (by omega) (by omega) (Or.inr (by omega)) | exact prM_nI v2_3 (by omega) (by omega) (Or.inl (by omega))) ⟨hP, hD⟩ hS (lv_sub hl [0, 4, 5] rfl)
          · refine va_aldq hx hb hK.1 hP 20 3 rfl rfl (i := 4) (by unfold vp_in; decide) dB_36_2_4.2.2.2.1 ?_
            refine lv_topv (v' := .ref k4) (by simp [va_up, va_rf, mf_, cl_0, cl_1, cl_2, cl_3, cl_4, kf_]) ?_
            refine lv_aload_n hx hb dB_36_2_4.2.2.2.2 rfl (lv_at hl 1 rfl) ?_
            refine va_get (ci := 3) (v := .ref n5) (C := RX3) (T := TX3) (N := 7) hx hb hts (fun _ h => List.mem_cons_of_mem _ (List.mem_append_right _ h)) hown hK.1 hP 2 rfl rfl 6 (by decide) (hts (.fieldLink RX10 70 "CutAtlas$Net" "prices" "[I") (List.mem_of_getElem? (i := 9) rfl)) (fun _ h9 => h9) rfl dB_36_2_5.1.1.1.1 ?_
            refine lv_iload_n hx hb dB_36_2_5.1.1.1.2 rfl (lv_at hl 0 rfl) ?_
            refine va_iald hx hb hK.1 hP 6 0 rfl rfl (i := x2_3) h_5 dB_36_2_5.1.1.2.1 ?_
            refine lv_topi (fun y_120 ey_120 => ?_)
            have ky_120 : y_120.toInt = (fp x2_3.toNatClampNeg).toInt := by rw [ey_120]
            have ry_120 : 0 ≤ y_120.toInt ∧ y_120.toInt ≤ 100 := by rw [ey_120]; exact r_fp _ (in_lt h_5)
            refine ct_R hP hD [ob8_0_ k4] [25] (by decide) rfl (fun hPc hDw => ?_)
            have hFc := va_free (wc := []) hD hS hA [] rfl
            refine va_calli (va_runU (As := [.int y_120]) (rest := []) ⟨hx, hb, hml, hown, hts⟩ (c_X8_costs2 l D cy H.size k4 y_120 (by first | with_reducible assumption | omega | assumption)) (va_cwO 1 hts gX10_findPrices_X8_costs_u72X8 rfl rfl rfl (b0 := cX6_costs) (m0 := 2) (r0 := (some .int)) (by decide +kernel) (by decide +kernel) ⟨Nat.le_of_ble_eq_true rfl, Nat.le_of_ble_eq_true rfl⟩) ⟨bl_, va_recvX hK.1 hP (ci := 8) (q0 := 25) rfl rfl, fun U hU hW => ⟨rfl, by rw [hU], by rw [hU]; exact hPc, kk_mv hW hK, hDw⟩⟩ rfl rfl hl.1 rfl (lv_room (Nat.le_of_ble_eq_true rfl)) dB_36_2_5.1.1.2.2 ⟨Nat.le_of_ble_eq_true rfl, Nat.le_of_ble_eq_true rfl⟩) hS (fun q _ h => hFc q h) hFc (fun r_121 u t H locs ht hvm hw hB hz1 hk1 hS => ?_)
            have hP : va_P D vwCl _ H := ro_keep hP hk1
            obtain ⟨f0_r_121, f1_r_121⟩ := hw
            have hcs_ : r_121.toInt = cst (fk x2_3.toNatClampNeg).toInt (fp x2_3.toNatClampNeg).toInt := by unfold cst; (repeat' (first | with_reducible refine if_n (by omega) ?_ | with_reducible refine if_ns (by omega) ?_ | with_reducible refine if_nz (by omega) ?_ | with_reducible exact if_p (by omega) (by omega) | with_reducible exact if_ps (by omega) (by omega) | with_reducible exact if_pz (by omega) (by omega))) <;> omega
            refine lv_istore_n (lv' := [(3, .int r_121), (2, .int x2_3), (1, .ref xn), (0, .ref xw)]) hx hb dB_36_2_5.1.2.1.1 rfl hl (by decide) rfl (fun ls hl => ?_)
            refine lv_iload_n hx hb dB_36_2_5.1.2.1.2 rfl (lv_at hl 0 rfl) ?_
            refine lv_bipush (v := (-9)) hx hb dB_36_2_5.1.2.2.1 (by decide) ?_
            refine lv_icmp_eq (tgt := 140) hx hb dB_36_2_5.1.2.2.2 (by decide) (fun c_122 => ?_) (fun c_122 => ?_)
            · have t_122 : r_121.toInt = ((-9) : Int32).toInt := congrArg Int32.toInt c_122
              first | (have hpm_ : ∀ i2 : Int32, i2.toInt = x2_3.toInt + 1 → prM fk fs fe fp vp.toNatClampNeg i2.toNatClampNeg (zM m_rp_3) := fun i2 ei => prM_sI v2_3 (by omega) ei hms_ S[ea] S[eb] (by omega) (by omega) (by omega) (by omega) (by omega) hcs_ (by omega) (by omega) hv1_ S[q1] em_rp_3 S[ev2]) | skip
              obtain ⟨y_123, ey_123⟩ : ∃ y : Int32, y = x2_3 + 1 := ⟨_, rfl⟩
              have ty_123 : y_123.toInt = x2_3.toInt + (1 : Int32).toInt := by rw [ey_123]; exact addI (by omega) (by omega)
              refine lv_iinc (v := y_123) (lv' := [(2, .int y_123), (3, .int r_121), (1, .ref xn), (0, .ref xw)]) hx hb dB_36_2_8.1 hl (k := 1) rfl (by rw [ey_123]; rfl) (by decide) rfl (fun ls hl => ?_)
              refine lv_goto (tgt := 37) hx hb dB_36_2_8.2.1 (by decide) ?_
              exact ih_3 y_123 m_rp_3 _ _ _ (by omega) (by first | with_reducible assumption | omega | assumption) (by first | with_reducible assumption | omega | assumption) (by first | exact prM_00 v2_1 (by omega) hvp | exact hpm_ _ (by omega) | exact prM_nI v2_3 (by omega) (by omega) (Or.inr (by omega)) | exact prM_nI v2_3 (by omega) (by omega) (Or.inl (by omega))) ⟨hP, hD⟩ hS (lv_sub hl [0, 2, 3] rfl)
            · have t_122 : ¬ r_121.toInt = ((-9) : Int32).toInt := fun h => c_122 (Int32.toInt_inj.mp h)
              refine lv_aload_n hx hb dB_36_2_5.2.1.1.1 rfl (lv_at hl 2 rfl) ?_
              refine lv_iload_n hx hb dB_36_2_5.2.1.1.2 rfl (lv_at hl 1 rfl) ?_
              refine ct_R hP hD [ob3_0_ xn vp vn n1 n2 n3 n4 n5, ai_ cy n2 40 fs] [2, 4] (by decide) rfl (fun hPc hDw => ?_)
              have hFc := va_free (wc := []) hD hS hA [] rfl
              refine va_calli (va_runV (As := [.int x2_3]) (rest := []) ⟨hx, hb, hml, hown, hts⟩ (c_X3_isMissing l D cy H.size xn n1 n2 n3 n4 n5 vp vn fs x2_3 (by first | with_reducible assumption | omega | assumption)) (cwV 1 hts gX10_findPrices_X3_isMissing rfl rfl rfl ⟨rfl, hd_X3_isMissing⟩ ⟨Nat.le_of_ble_eq_true rfl, Nat.le_of_ble_eq_true rfl⟩) ⟨bl_, va_recvX hK.1 hP (ci := 3) (q0 := 2) rfl rfl, fun U hU hW => ⟨rfl, by rw [hU], by rw [hU]; exact hPc, kk_mv hW hK, hDw⟩⟩ rfl rfl hl.1 rfl (lv_room (Nat.le_of_ble_eq_true rfl)) dB_36_2_5.2.1.2.1 ⟨Nat.le_of_ble_eq_true rfl, Nat.le_of_ble_eq_true rfl⟩) hS (fun q _ h => hFc q h) hFc (fun r_124 u t H locs ht hvm hw hB hz1 hk1 hS => ?_)
              have hP : va_P D vwCl _ H := ro_keep hP hk1
              rcases hw with ⟨w_125, e_⟩ | ⟨w_125, e_⟩
              · have e_ := e_.symm
                subst e_
                refine lv_if_ne (tgt := 140) hx hb dB_36_2_5.2.1.2.2 (by decide) (fun c_126 => ?_) (fun c_126 => ?_)
                · have _ := c_126
                  first | (have hpm_ : ∀ i2 : Int32, i2.toInt = x2_3.toInt + 1 → prM fk fs fe fp vp.toNatClampNeg i2.toNatClampNeg (zM m_rp_3) := fun i2 ei => prM_sI v2_3 (by omega) ei hms_ S[ea] S[eb] (by omega) (by omega) (by omega) (by omega) (by omega) hcs_ (by omega) (by omega) hv1_ S[q1] em_rp_3 S[ev2]) | skip
                  obtain ⟨y_127, ey_127⟩ : ∃ y : Int32, y = x2_3 + 1 := ⟨_, rfl⟩
                  have ty_127 : y_127.toInt = x2_3.toInt + (1 : Int32).toInt := by rw [ey_127]; exact addI (by omega) (by omega)
                  refine lv_iinc (v := y_127) (lv' := [(2, .int y_127), (3, .int r_121), (1, .ref xn), (0, .ref xw)]) hx hb dB_36_2_8.1 hl (k := 1) rfl (by rw [ey_127]; rfl) (by decide) rfl (fun ls hl => ?_)
                  refine lv_goto (tgt := 37) hx hb dB_36_2_8.2.1 (by decide) ?_
                  exact ih_3 y_127 m_rp_3 _ _ _ (by omega) (by first | with_reducible assumption | omega | assumption) (by first | with_reducible assumption | omega | assumption) (by first | exact prM_00 v2_1 (by omega) hvp | exact hpm_ _ (by omega) | exact prM_nI v2_3 (by omega) (by omega) (Or.inr (by omega)) | exact prM_nI v2_3 (by omega) (by omega) (Or.inl (by omega))) ⟨hP, hD⟩ hS (lv_sub hl [0, 2, 3] rfl)
                · exact absurd c_126 (by decide)
              · have e_ := e_.symm
                subst e_
                refine lv_if_ne (tgt := 140) hx hb dB_36_2_5.2.1.2.2 (by decide) (fun c_128 => ?_) (fun c_128 => ?_)
                · exact absurd c_128 (by decide)
                · have _ := c_128
                  have hms_ : (fs x2_3.toNatClampNeg).toInt ≠ -9 := by omega
                  have hpc_ := hnc x2_3.toNatClampNeg (by omega) hms_
                  have hdd_ := hdc x2_3.toNatClampNeg (by omega) hms_
                  refine lv_aload_n hx hb dB_36_2_5.2.2.1.1 rfl (lv_at hl 2 rfl) ?_
                  refine va_get (ci := 3) (v := .ref n2) (C := RX3) (T := TX3) (N := 7) hx hb hts (fun _ h => List.mem_cons_of_mem _ (List.mem_append_right _ h)) hown hK.1 hP 2 rfl rfl 3 (by decide) (hts (.fieldLink RX10 81 "CutAtlas$Net" "starts" "[I") (List.mem_of_getElem? (i := 10) rfl)) (fun _ h9 => h9) rfl dB_36_2_5.2.2.1.2 ?_
                  refine lv_iload_n hx hb dB_36_2_5.2.2.2.1 rfl (lv_at hl 1 rfl) ?_
                  refine va_iald hx hb hK.1 hP 4 0 rfl rfl (i := x2_3) h_5 dB_36_2_5.2.2.2.2 ?_
                  refine lv_topi (fun y_130 ey_130 => ?_)
                  have ky_130 : y_130.toInt = (fs x2_3.toNatClampNeg).toInt := by rw [ey_130]
                  have ry_130 := hpr _ (in_lt h_5)
                  have jy_130 : y_130.toInt = (fs x2_3.toNatClampNeg).toInt := by rw [ey_130]
                  have cA_ := clI (i := y_130) (by omega)
                  refine lv_istore (lv' := [(4, .int y_130), (3, .int r_121), (2, .int x2_3), (1, .ref xn), (0, .ref xw)]) hx hb dB_36_2_6.1.1.1.1 hl (by decide) rfl (fun ls hl => ?_)
                  refine lv_aload_n hx hb dB_36_2_6.1.1.1.2 rfl (lv_at hl 3 rfl) ?_
                  refine va_get (ci := 3) (v := .ref n3) (C := RX3) (T := TX3) (N := 7) hx hb hts (fun _ h => List.mem_cons_of_mem _ (List.mem_append_right _ h)) hown hK.1 hP 2 rfl rfl 4 (by decide) (hts (.fieldLink RX10 84 "CutAtlas$Net" "ends" "[I") (List.mem_of_getElem? (i := 11) rfl)) (fun _ h9 => h9) rfl dB_36_2_6.1.1.2.1 ?_
                  refine lv_iload_n hx hb dB_36_2_6.1.1.2.2 rfl (lv_at hl 2 rfl) ?_
                  refine va_iald hx hb hK.1 hP 5 0 rfl rfl (i := x2_3) h_5 dB_36_2_6.1.2.1.1 ?_
                  refine lv_topi (fun y_132 ey_132 => ?_)
                  have ky_132 : y_132.toInt = (fe x2_3.toNatClampNeg).toInt := by rw [ey_132]
                  have ry_132 := hpr _ (in_lt h_5)
                  have jy_132 : y_132.toInt = (fe x2_3.toNatClampNeg).toInt := by rw [ey_132]
                  have cB_ := clI (i := y_132) (by omega)
                  refine lv_istore (lv' := [(5, .int y_132), (4, .int y_130), (3, .int r_121), (2, .int x2_3), (1, .ref xn), (0, .ref xw)]) hx hb dB_36_2_6.1.2.1.2 hl (by decide) rfl (fun ls hl => ?_)
                  refine lv_aload_n hx hb dB_36_2_6.1.2.2.1 rfl (lv_at hl 5 rfl) ?_
                  refine va_get (ci := 10) (v := .ref wpo) (C := RX10) (T := TX10) (N := 5) hx hb hts (fun _ h => List.mem_cons_of_mem _ (List.mem_append_left _ (List.mem_append_left _ (List.mem_append_right _ h)))) hown hK.1 hP 0 rfl rfl 2 (by decide) (hts (.fieldLink RX10 11 "CutAtlas$Widening" "prices" "[[I") (List.mem_of_getElem? (i := 4) rfl)) (fun _ h9 => h9) rfl dB_36_2_6.1.2.2.2 ?_
                  refine lv_iload hx hb dB_36_2_6.2.1.1.1 (lv_at hl 1 rfl) ?_
                  have h_133 : vp_in y_130 12 := in_I (by first | with_reducible assumption | omega) (by omega)
                  refine va_alda hx hb hG hP 7 rfl (i := y_130) h_133 dB_36_2_6.2.1.1.2 ?_
                  refine lv_topv (v' := .ref (rp y_130.toNatClampNeg)) (gf_at h_133) ?_
                  refine lv_iload hx hb dB_36_2_6.2.1.2.1 (lv_at hl 0 rfl) ?_
                  refine lv_aload_n hx hb dB_36_2_6.2.1.2.2 rfl (lv_at hl 5 rfl) ?_
                  refine va_get (ci := 10) (v := .ref wpo) (C := RX10) (T := TX10) (N := 5) hx hb hts (fun _ h => List.mem_cons_of_mem _ (List.mem_append_left _ (List.mem_append_left _ (List.mem_append_right _ h)))) hown hK.1 hP 0 rfl rfl 2 (by decide) (hts (.fieldLink RX10 11 "CutAtlas$Widening" "prices" "[[I") (List.mem_of_getElem? (i := 4) rfl)) (fun _ h9 => h9) rfl dB_36_2_6.2.2.1.1 ?_
                  refine lv_iload hx hb dB_36_2_6.2.2.1.2 (lv_at hl 1 rfl) ?_
                  refine va_alda hx hb hG hP 7 rfl (i := y_130) h_133 dB_36_2_6.2.2.2.1 ?_
                  refine lv_topv (v' := .ref (rp y_130.toNatClampNeg)) (gf_at h_133) ?_
                  refine lv_iload hx hb dB_36_2_6.2.2.2.2 (lv_at hl 0 rfl) ?_
                  have h_135 : vp_in y_132 12 := in_I (by first | with_reducible assumption | omega) (by omega)
                  have hPg : va_P D vwCl (([ob10_0_ xw xc xk wpo wc wf, ob0_0_ xc xn xk clo cro c4 c5 c6 c7 c8, ob3_0_ xn vp vn n1 n2 n3 n4 n5, ai_ cy n1 40 fk, ai_ cy n2 40 fs, ai_ cy n3 40 fe, ai_ cy n5 40 fp, aq_ cy 6 wpo 12 (gf_ rp)] : va_W) ++ (gro (cy 0) rp m_rp_3 ++ ([aq_ cy 3 xk 5 (kf_ k0 k1 k2 k3 k4), ob6_0_ k0, ob5_0_ k1, ob9_0_ k2, ob2_0_ k3, ob8_0_ k4] : va_W))) H := hP
                  refine va_gld (X := [ob10_0_ xw xc xk wpo wc wf, ob0_0_ xc xn xk clo cro c4 c5 c6 c7 c8, ob3_0_ xn vp vn n1 n2 n3 n4 n5, ai_ cy n1 40 fk, ai_ cy n2 40 fs, ai_ cy n3 40 fe, ai_ cy n5 40 fp, aq_ cy 6 wpo 12 (gf_ rp)]) (Y := [aq_ cy 3 xk 5 (kf_ k0 k1 k2 k3 k4), ob6_0_ k0, ob5_0_ k1, ob9_0_ k2, ob2_0_ k3, ob8_0_ k4]) (r := rp) (M := m_rp_3) (k := y_130.toNatClampNeg) hx hb hK.1 hPg 0 rfl (in_lt h_133) (i := y_132) h_135 dB_36_2_7.1.1.1.1 ?_
                  refine lv_topi (fun y_136 ey_136 => ?_)
                  have km1_ : y_136.toInt = (m_rp_3 y_130.toNatClampNeg y_132.toNatClampNeg).toInt := by rw [ey_136]
                  refine lv_iload_n hx hb dB_36_2_7.1.1.1.2 rfl (lv_at hl 2 rfl) ?_
                  refine va_mmin hx hb (by rw [hml]; exact hl.1.symm) hown (hts (.methodLink RX10 87 Lib.Math.min.name) (pc_X10_findPrices wsX10_findPrices_r1 (List.mem_of_getElem? (i := 1) rfl) _ (List.mem_of_getElem? (i := 11) rfl))) (hts (.static Lib.Math.min.name) (pc_X10_findPrices wsX10_findPrices_r1 (List.mem_of_getElem? (i := 1) rfl) _ (List.mem_of_getElem? (i := 12) rfl))) (hts (.initialized "java/lang/Math") (pc_X10_findPrices wsX10_findPrices_r1 (List.mem_of_getElem? (i := 1) rfl) _ (List.mem_of_getElem? (i := 13) rfl))) (hts (.code Lib.Math.min.name Lib.Math.min.code 2 (some .int)) (pc_X10_findPrices wsX10_findPrices_r1 (List.mem_of_getElem? (i := 1) rfl) _ (List.mem_of_getElem? (i := 14) rfl))) (Nat.le_of_ble_eq_true rfl) (Nat.le_of_ble_eq_true rfl) (Nat.le_of_ble_eq_true rfl) (Nat.le_of_ble_eq_true rfl) dB_36_2_7.1.1.2.1 ?_
                  refine lv_topi (fun y_137 ey_137 => ?_)
                  have ty_137 : y_137 = y_136 ∨ y_137 = r_121 := by rw [ey_137]; split <;> simp
                  have iy_137 : y_137.toInt = y_136.toInt ∨ y_137.toInt = r_121.toInt := by rcases ty_137 with h | h <;> rw [h] <;> simp
                  have hv1_ : y_137.toInt = loI (m_rp_3 y_130.toNatClampNeg y_132.toNatClampNeg).toInt r_121.toInt := by have h_ := mnI ey_137; rw [km1_] at h_; exact h_
                  have hPg : va_P D vwCl (([ob10_0_ xw xc xk wpo wc wf, ob0_0_ xc xn xk clo cro c4 c5 c6 c7 c8, ob3_0_ xn vp vn n1 n2 n3 n4 n5, ai_ cy n1 40 fk, ai_ cy n2 40 fs, ai_ cy n3 40 fe, ai_ cy n5 40 fp, aq_ cy 6 wpo 12 (gf_ rp)] : va_W) ++ (gro (cy 0) rp m_rp_3 ++ ([aq_ cy 3 xk 5 (kf_ k0 k1 k2 k3 k4), ob6_0_ k0, ob5_0_ k1, ob9_0_ k2, ob2_0_ k3, ob8_0_ k4] : va_W))) H := hP
                  have hDg : va_D A (([ob10_0_ xw xc xk wpo wc wf, ob0_0_ xc xn xk clo cro c4 c5 c6 c7 c8, ob3_0_ xn vp vn n1 n2 n3 n4 n5, ai_ cy n1 40 fk, ai_ cy n2 40 fs, ai_ cy n3 40 fe, ai_ cy n5 40 fp, aq_ cy 6 wpo 12 (gf_ rp)] : va_W) ++ (gro (cy 0) rp m_rp_3 ++ ([aq_ cy 3 xk 5 (kf_ k0 k1 k2 k3 k4), ob6_0_ k0, ob5_0_ k1, ob9_0_ k2, ob2_0_ k3, ob8_0_ k4] : va_W))) := hD
                  refine va_gst (X := [ob10_0_ xw xc xk wpo wc wf, ob0_0_ xc xn xk clo cro c4 c5 c6 c7 c8, ob3_0_ xn vp vn n1 n2 n3 n4 n5, ai_ cy n1 40 fk, ai_ cy n2 40 fs, ai_ cy n3 40 fe, ai_ cy n5 40 fp, aq_ cy 6 wpo 12 (gf_ rp)]) (Y := [aq_ cy 3 xk 5 (kf_ k0 k1 k2 k3 k4), ob6_0_ k0, ob5_0_ k1, ob9_0_ k2, ob2_0_ k3, ob8_0_ k4]) (r := rp) (M := m_rp_3) (k := y_130.toNatClampNeg) hx hb hK.1 hPg hDg hS 0 rfl (in_lt h_133) (i := y_132) h_135 dB_36_2_7.1.1.2.2 (fun H locs hP hD hS => ?_)
                  obtain ⟨M_139, eM_139⟩ : ∃ g : Nat → Nat → Int32, g = va_up m_rp_3 y_130.toNatClampNeg (upd (m_rp_3 y_130.toNatClampNeg) y_132.toNatClampNeg y_137) := ⟨_, rfl⟩
                  refine pd_K (D := D) (cl := vwCl) (H := H) (A := A) [ob10_0_ xw xc xk wpo wc wf, ob0_0_ xc xn xk clo cro c4 c5 c6 c7 c8, ob3_0_ xn vp vn n1 n2 n3 n4 n5, ai_ cy n1 40 fk, ai_ cy n2 40 fs, ai_ cy n3 40 fe, ai_ cy n5 40 fp, aq_ cy 6 wpo 12 (gf_ rp), ai_ cy (rp 0) 12 (M_139 0), ai_ cy (rp 1) 12 (M_139 1), ai_ cy (rp 2) 12 (M_139 2), ai_ cy (rp 3) 12 (M_139 3), ai_ cy (rp 4) 12 (M_139 4), ai_ cy (rp 5) 12 (M_139 5), ai_ cy (rp 6) 12 (M_139 6), ai_ cy (rp 7) 12 (M_139 7), ai_ cy (rp 8) 12 (M_139 8), ai_ cy (rp 9) 12 (M_139 9), ai_ cy (rp 10) 12 (M_139 10), ai_ cy (rp 11) 12 (M_139 11), aq_ cy 3 xk 5 (kf_ k0 k1 k2 k3 k4), ob6_0_ k0, ob5_0_ k1, ob9_0_ k2, ob2_0_ k3, ob8_0_ k4] (by rw [eM_139]; exact hP) (by rw [eM_139]; exact hD) (fun hP hD => ?_)
                  refine lv_aload_n hx hb dB_36_2_7.1.2.1.1 rfl (lv_at hl 5 rfl) ?_
                  refine va_get (ci := 10) (v := .ref wpo) (C := RX10) (T := TX10) (N := 5) hx hb hts (fun _ h => List.mem_cons_of_mem _ (List.mem_append_left _ (List.mem_append_left _ (List.mem_append_right _ h)))) hown hK.1 hP 0 rfl rfl 2 (by decide) (hts (.fieldLink RX10 11 "CutAtlas$Widening" "prices" "[[I") (List.mem_of_getElem? (i := 4) rfl)) (fun _ h9 => h9) rfl dB_36_2_7.1.2.1.2 ?_
                  refine lv_iload hx hb dB_36_2_7.1.2.2.1 (lv_at hl 0 rfl) ?_
                  refine va_alda hx hb hG hP 7 rfl (i := y_132) h_135 dB_36_2_7.1.2.2.2 ?_
                  refine lv_topv (v' := .ref (rp y_132.toNatClampNeg)) (gf_at h_135) ?_
                  refine lv_iload hx hb dB_36_2_7.2.1.1.1 (lv_at hl 1 rfl) ?_
                  refine lv_aload_n hx hb dB_36_2_7.2.1.1.2 rfl (lv_at hl 5 rfl) ?_
                  refine va_get (ci := 10) (v := .ref wpo) (C := RX10) (T := TX10) (N := 5) hx hb hts (fun _ h => List.mem_cons_of_mem _ (List.mem_append_left _ (List.mem_append_left _ (List.mem_append_right _ h)))) hown hK.1 hP 0 rfl rfl 2 (by decide) (hts (.fieldLink RX10 11 "CutAtlas$Widening" "prices" "[[I") (List.mem_of_getElem? (i := 4) rfl)) (fun _ h9 => h9) rfl dB_36_2_7.2.1.2.1 ?_
                  refine lv_iload hx hb dB_36_2_7.2.1.2.2 (lv_at hl 1 rfl) ?_
                  refine va_alda hx hb hG hP 7 rfl (i := y_130) h_133 dB_36_2_7.2.2.1.1 ?_
                  refine lv_topv (v' := .ref (rp y_130.toNatClampNeg)) (gf_at h_133) ?_
                  refine lv_iload hx hb dB_36_2_7.2.2.1.2 (lv_at hl 0 rfl) ?_
                  have hPg : va_P D vwCl (([ob10_0_ xw xc xk wpo wc wf, ob0_0_ xc xn xk clo cro c4 c5 c6 c7 c8, ob3_0_ xn vp vn n1 n2 n3 n4 n5, ai_ cy n1 40 fk, ai_ cy n2 40 fs, ai_ cy n3 40 fe, ai_ cy n5 40 fp, aq_ cy 6 wpo 12 (gf_ rp)] : va_W) ++ (gro (cy 0) rp M_139 ++ ([aq_ cy 3 xk 5 (kf_ k0 k1 k2 k3 k4), ob6_0_ k0, ob5_0_ k1, ob9_0_ k2, ob2_0_ k3, ob8_0_ k4] : va_W))) H := hP
                  refine va_gld (X := [ob10_0_ xw xc xk wpo wc wf, ob0_0_ xc xn xk clo cro c4 c5 c6 c7 c8, ob3_0_ xn vp vn n1 n2 n3 n4 n5, ai_ cy n1 40 fk, ai_ cy n2 40 fs, ai_ cy n3 40 fe, ai_ cy n5 40 fp, aq_ cy 6 wpo 12 (gf_ rp)]) (Y := [aq_ cy 3 xk 5 (kf_ k0 k1 k2 k3 k4), ob6_0_ k0, ob5_0_ k1, ob9_0_ k2, ob2_0_ k3, ob8_0_ k4]) (r := rp) (M := M_139) (k := y_130.toNatClampNeg) hx hb hK.1 hPg 0 rfl (in_lt h_133) (i := y_132) h_135 dB_36_2_7.2.2.2.1 ?_
                  refine lv_topi (fun y_143 ey_143 => ?_)
                  have hPg : va_P D vwCl (([ob10_0_ xw xc xk wpo wc wf, ob0_0_ xc xn xk clo cro c4 c5 c6 c7 c8, ob3_0_ xn vp vn n1 n2 n3 n4 n5, ai_ cy n1 40 fk, ai_ cy n2 40 fs, ai_ cy n3 40 fe, ai_ cy n5 40 fp, aq_ cy 6 wpo 12 (gf_ rp)] : va_W) ++ (gro (cy 0) rp M_139 ++ ([aq_ cy 3 xk 5 (kf_ k0 k1 k2 k3 k4), ob6_0_ k0, ob5_0_ k1, ob9_0_ k2, ob2_0_ k3, ob8_0_ k4] : va_W))) H := hP
                  have hDg : va_D A (([ob10_0_ xw xc xk wpo wc wf, ob0_0_ xc xn xk clo cro c4 c5 c6 c7 c8, ob3_0_ xn vp vn n1 n2 n3 n4 n5, ai_ cy n1 40 fk, ai_ cy n2 40 fs, ai_ cy n3 40 fe, ai_ cy n5 40 fp, aq_ cy 6 wpo 12 (gf_ rp)] : va_W) ++ (gro (cy 0) rp M_139 ++ ([aq_ cy 3 xk 5 (kf_ k0 k1 k2 k3 k4), ob6_0_ k0, ob5_0_ k1, ob9_0_ k2, ob2_0_ k3, ob8_0_ k4] : va_W))) := hD
                  refine va_gst (X := [ob10_0_ xw xc xk wpo wc wf, ob0_0_ xc xn xk clo cro c4 c5 c6 c7 c8, ob3_0_ xn vp vn n1 n2 n3 n4 n5, ai_ cy n1 40 fk, ai_ cy n2 40 fs, ai_ cy n3 40 fe, ai_ cy n5 40 fp, aq_ cy 6 wpo 12 (gf_ rp)]) (Y := [aq_ cy 3 xk 5 (kf_ k0 k1 k2 k3 k4), ob6_0_ k0, ob5_0_ k1, ob9_0_ k2, ob2_0_ k3, ob8_0_ k4]) (r := rp) (M := M_139) (k := y_132.toNatClampNeg) hx hb hK.1 hPg hDg hS 0 rfl (in_lt h_135) (i := y_130) h_133 dB_36_2_7.2.2.2.2 (fun H locs hP hD hS => ?_)
                  obtain ⟨M_145, eM_145⟩ : ∃ g : Nat → Nat → Int32, g = va_up M_139 y_132.toNatClampNeg (upd (M_139 y_132.toNatClampNeg) y_130.toNatClampNeg y_143) := ⟨_, rfl⟩
                  refine pd_K (D := D) (cl := vwCl) (H := H) (A := A) [ob10_0_ xw xc xk wpo wc wf, ob0_0_ xc xn xk clo cro c4 c5 c6 c7 c8, ob3_0_ xn vp vn n1 n2 n3 n4 n5, ai_ cy n1 40 fk, ai_ cy n2 40 fs, ai_ cy n3 40 fe, ai_ cy n5 40 fp, aq_ cy 6 wpo 12 (gf_ rp), ai_ cy (rp 0) 12 (M_145 0), ai_ cy (rp 1) 12 (M_145 1), ai_ cy (rp 2) 12 (M_145 2), ai_ cy (rp 3) 12 (M_145 3), ai_ cy (rp 4) 12 (M_145 4), ai_ cy (rp 5) 12 (M_145 5), ai_ cy (rp 6) 12 (M_145 6), ai_ cy (rp 7) 12 (M_145 7), ai_ cy (rp 8) 12 (M_145 8), ai_ cy (rp 9) 12 (M_145 9), ai_ cy (rp 10) 12 (M_145 10), ai_ cy (rp 11) 12 (M_145 11), aq_ cy 3 xk 5 (kf_ k0 k1 k2 k3 k4), ob6_0_ k0, ob5_0_ k1, ob9_0_ k2, ob2_0_ k3, ob8_0_ k4] (by rw [eM_145]; exact hP) (by rw [eM_145]; exact hD) (fun hP hD => ?_)
                  first | (have hpm_ : ∀ i2 : Int32, i2.toInt = x2_3.toInt + 1 → prM fk fs fe fp vp.toNatClampNeg i2.toNatClampNeg (zM M_145) := fun i2 ei => prM_sI v2_3 (by omega) ei hms_ ey_130 ey_132 (by omega) (by omega) (by omega) (by omega) (by omega) hcs_ (by omega) (by omega) hv1_ eM_139 eM_145 ey_143) | skip
                  obtain ⟨y_146, ey_146⟩ : ∃ y : Int32, y = x2_3 + 1 := ⟨_, rfl⟩
                  have ty_146 : y_146.toInt = x2_3.toInt + (1 : Int32).toInt := by rw [ey_146]; exact addI (by omega) (by omega)
                  refine lv_iinc (v := y_146) (lv' := [(2, .int y_146), (5, .int y_132), (4, .int y_130), (3, .int r_121), (1, .ref xn), (0, .ref xw)]) hx hb dB_36_2_8.1 hl (k := 3) rfl (by rw [ey_146]; rfl) (by decide) rfl (fun ls hl => ?_)
                  refine lv_goto (tgt := 37) hx hb dB_36_2_8.2.1 (by decide) ?_
                  exact ih_3 y_146 M_145 _ _ _ (by omega) (by first | with_reducible assumption | omega | assumption) (by first | with_reducible assumption | omega | assumption) (by first | exact prM_00 v2_1 (by omega) hvp | exact hpm_ _ (by omega) | exact prM_nI v2_3 (by omega) (by omega) (Or.inr (by omega)) | exact prM_nI v2_3 (by omega) (by omega) (Or.inl (by omega))) ⟨hP, hD⟩ hS (lv_sub hl [0, 4, 5] rfl)
    · have t_2 : ¬ vp.toInt ≤ x2_1.toInt := fun h => c_2 (Int32.le_iff_toInt_le.mpr h)
      rcases sp_12 (x := x2_1) (by omega) with rfl | rfl | rfl | rfl | rfl | rfl | rfl | rfl | rfl | rfl | rfl | rfl
      · refine lv_aload_n hx hb dB_36_2_3.2.1.2.1 rfl (lv_at hl 2 rfl) ?_
        refine va_get (ci := 10) (v := .ref wpo) (C := RX10) (T := TX10) (N := 5) hx hb hts (fun _ h => List.mem_cons_of_mem _ (List.mem_append_left _ (List.mem_append_left _ (List.mem_append_right _ h)))) hown hK.1 hP 0 rfl rfl 2 (by decide) (hts (.fieldLink RX10 11 "CutAtlas$Widening" "prices" "[[I") (List.mem_of_getElem? (i := 4) rfl)) (fun _ h9 => h9) rfl dB_36_2_3.2.1.2.2 ?_
        refine lv_iload_n hx hb dB_36_2_3.2.2.1.1 rfl (lv_at hl 0 rfl) ?_
        have h_147 : vp_in (0 : Int32) 12 := by unfold vp_in; decide
        refine va_alda hx hb hG hP 7 rfl (i := 0) h_147 dB_36_2_3.2.2.1.2 ?_
        refine lv_topv (v' := .ref (rp 0)) (gf_at h_147) ?_
        refine lv_ldc (v := 1000000000) hx hb hown (hts (.constant RX10 38 (1000000000)) (List.mem_of_getElem? (i := 5) rfl)) dB_36_2_3.2.2.2.1 ?_
        refine ct_S hP hD hS hA [ai_ cy (rp 0) 12 (m_rp_1 0)] [8] (by decide) rfl (fun hPc hDw hFc hC_ => ?_)
        refine va_callv (va_runS (As := [.ref (rp 0), .int 1000000000]) (rest := []) ⟨hx, hb, hml, hown, hts⟩ (c_J7_fill_53178 l D cy H.size (rp 0) 12 (1000000000 : Int32) (m_rp_1 0) (by first | with_reducible assumption | assumption | omega)) (va_cwS 2 hts gX10_findPrices_J7_fill_53178 rfl rfl rfl hd_J7_fill_53178 ⟨Nat.le_of_ble_eq_true rfl, Nat.le_of_ble_eq_true rfl⟩) ⟨bl_, fun U hU hW => ⟨rfl, by rw [hU], by rw [hU]; exact hPc, kk_mv hW hK, hDw⟩⟩ rfl rfl hl.1 rfl (lv_room (Nat.le_of_ble_eq_true rfl)) dB_36_2_3.2.2.2.2 ⟨Nat.le_of_ble_eq_true rfl, Nat.le_of_ble_eq_true rfl⟩) hS (fun q _ h => hFc q h) hFc (fun u t H locs ht hvm hw hB hz1 hk1 hS => ?_)
        obtain ⟨e1_149, g_150, hP1, hD1⟩ := hB
        rw [ht] at hP1
        obtain ⟨hP, hD⟩ := va_join (wr := [ob10_0_ xw xc xk wpo wc wf, ob0_0_ xc xn xk clo cro c4 c5 c6 c7 c8, ob3_0_ xn vp vn n1 n2 n3 n4 n5, ai_ cy n1 40 fk, ai_ cy n2 40 fs, ai_ cy n3 40 fe, ai_ cy n5 40 fp, aq_ cy 6 wpo 12 (gf_ rp), ai_ cy (rp 1) 12 (m_rp_1 1), ai_ cy (rp 2) 12 (m_rp_1 2), ai_ cy (rp 3) 12 (m_rp_1 3), ai_ cy (rp 4) 12 (m_rp_1 4), ai_ cy (rp 5) 12 (m_rp_1 5), ai_ cy (rp 6) 12 (m_rp_1 6), ai_ cy (rp 7) 12 (m_rp_1 7), ai_ cy (rp 8) 12 (m_rp_1 8), ai_ cy (rp 9) 12 (m_rp_1 9), ai_ cy (rp 10) 12 (m_rp_1 10), ai_ cy (rp 11) 12 (m_rp_1 11), aq_ cy 3 xk 5 (kf_ k0 k1 k2 k3 k4), ob6_0_ k0, ob5_0_ k1, ob9_0_ k2, ob2_0_ k3, ob8_0_ k4]) (w1 := [ai_ cy (rp 0) 12 e1_149]) hP hD [8] [0, 1, 2, 3, 4, 5, 6, 7, 9, 10, 11, 12, 13, 14, 15, 16, 17, 18, 19, 20, 21, 22, 23, 24, 25] hC_ rfl (by decide +kernel) (by decide +kernel) hk1 hFc hP1 hD1
        refine pd_S hP hD [ob10_0_ xw xc xk wpo wc wf, ob0_0_ xc xn xk clo cro c4 c5 c6 c7 c8, ob3_0_ xn vp vn n1 n2 n3 n4 n5, ai_ cy n1 40 fk, ai_ cy n2 40 fs, ai_ cy n3 40 fe, ai_ cy n5 40 fp, aq_ cy 6 wpo 12 (gf_ rp), ai_ cy (rp 0) 12 e1_149, ai_ cy (rp 1) 12 (m_rp_1 1), ai_ cy (rp 2) 12 (m_rp_1 2), ai_ cy (rp 3) 12 (m_rp_1 3), ai_ cy (rp 4) 12 (m_rp_1 4), ai_ cy (rp 5) 12 (m_rp_1 5), ai_ cy (rp 6) 12 (m_rp_1 6), ai_ cy (rp 7) 12 (m_rp_1 7), ai_ cy (rp 8) 12 (m_rp_1 8), ai_ cy (rp 9) 12 (m_rp_1 9), ai_ cy (rp 10) 12 (m_rp_1 10), ai_ cy (rp 11) 12 (m_rp_1 11), aq_ cy 3 xk 5 (kf_ k0 k1 k2 k3 k4), ob6_0_ k0, ob5_0_ k1, ob9_0_ k2, ob2_0_ k3, ob8_0_ k4] [0, 1, 2, 3, 4, 5, 6, 7, 25, 8, 9, 10, 11, 12, 13, 14, 15, 16, 17, 18, 19, 20, 21, 22, 23, 24] (by decide +kernel) rfl (fun hP hD => ?_)
        have hfl_ := g_150
        obtain ⟨M_151, eM_151⟩ : ∃ g : Nat → Nat → Int32, g = va_up m_rp_1 0 e1_149 := ⟨_, rfl⟩
        refine pd_K (D := D) (cl := vwCl) (H := H) (A := A) [ob10_0_ xw xc xk wpo wc wf, ob0_0_ xc xn xk clo cro c4 c5 c6 c7 c8, ob3_0_ xn vp vn n1 n2 n3 n4 n5, ai_ cy n1 40 fk, ai_ cy n2 40 fs, ai_ cy n3 40 fe, ai_ cy n5 40 fp, aq_ cy 6 wpo 12 (gf_ rp), ai_ cy (rp 0) 12 (M_151 0), ai_ cy (rp 1) 12 (M_151 1), ai_ cy (rp 2) 12 (M_151 2), ai_ cy (rp 3) 12 (M_151 3), ai_ cy (rp 4) 12 (M_151 4), ai_ cy (rp 5) 12 (M_151 5), ai_ cy (rp 6) 12 (M_151 6), ai_ cy (rp 7) 12 (M_151 7), ai_ cy (rp 8) 12 (M_151 8), ai_ cy (rp 9) 12 (M_151 9), ai_ cy (rp 10) 12 (M_151 10), ai_ cy (rp 11) 12 (M_151 11), aq_ cy 3 xk 5 (kf_ k0 k1 k2 k3 k4), ob6_0_ k0, ob5_0_ k1, ob9_0_ k2, ob2_0_ k3, ob8_0_ k4] (by rw [eM_151]; exact hP) (by rw [eM_151]; exact hD) (fun hP hD => ?_)
        obtain ⟨y_152, ey_152⟩ : ∃ y : Int32, y = (0 : Int32) + 1 := ⟨_, rfl⟩
        have ty_152 : y_152.toInt = (0 : Int32).toInt + (1 : Int32).toInt := by rw [ey_152]; exact addI (by omega) (by omega)
        refine lv_iinc (v := y_152) (lv' := [(2, .int y_152), (1, .ref xn), (0, .ref xw)]) hx hb dB_36_2_4.1.1.1.1 hl (k := 0) rfl (by rw [ey_152]; rfl) (by decide) rfl (fun ls hl => ?_)
        refine lv_goto (tgt := 10) hx hb dB_36_2_4.1.1.1.2 (by decide) ?_
        exact ih_1 y_152 M_151 _ _ _ (by omega) (by first | with_reducible assumption | omega | assumption) (by first | with_reducible assumption | omega | assumption) (by first | exact vr_st eM_151 v2_1 hfl_ (by decide) (by omega) | (intro x y hx; omega)) ⟨hP, hD⟩ hS (lv_sub hl [0, 1, 2] rfl)
      · refine lv_aload_n hx hb dB_36_2_3.2.1.2.1 rfl (lv_at hl 2 rfl) ?_
        refine va_get (ci := 10) (v := .ref wpo) (C := RX10) (T := TX10) (N := 5) hx hb hts (fun _ h => List.mem_cons_of_mem _ (List.mem_append_left _ (List.mem_append_left _ (List.mem_append_right _ h)))) hown hK.1 hP 0 rfl rfl 2 (by decide) (hts (.fieldLink RX10 11 "CutAtlas$Widening" "prices" "[[I") (List.mem_of_getElem? (i := 4) rfl)) (fun _ h9 => h9) rfl dB_36_2_3.2.1.2.2 ?_
        refine lv_iload_n hx hb dB_36_2_3.2.2.1.1 rfl (lv_at hl 0 rfl) ?_
        have h_153 : vp_in (1 : Int32) 12 := by unfold vp_in; decide
        refine va_alda hx hb hG hP 7 rfl (i := 1) h_153 dB_36_2_3.2.2.1.2 ?_
        refine lv_topv (v' := .ref (rp 1)) (gf_at h_153) ?_
        refine lv_ldc (v := 1000000000) hx hb hown (hts (.constant RX10 38 (1000000000)) (List.mem_of_getElem? (i := 5) rfl)) dB_36_2_3.2.2.2.1 ?_
        refine ct_S hP hD hS hA [ai_ cy (rp 1) 12 (m_rp_1 1)] [9] (by decide) rfl (fun hPc hDw hFc hC_ => ?_)
        refine va_callv (va_runS (As := [.ref (rp 1), .int 1000000000]) (rest := []) ⟨hx, hb, hml, hown, hts⟩ (c_J7_fill_53178 l D cy H.size (rp 1) 12 (1000000000 : Int32) (m_rp_1 1) (by first | with_reducible assumption | assumption | omega)) (va_cwS 2 hts gX10_findPrices_J7_fill_53178 rfl rfl rfl hd_J7_fill_53178 ⟨Nat.le_of_ble_eq_true rfl, Nat.le_of_ble_eq_true rfl⟩) ⟨bl_, fun U hU hW => ⟨rfl, by rw [hU], by rw [hU]; exact hPc, kk_mv hW hK, hDw⟩⟩ rfl rfl hl.1 rfl (lv_room (Nat.le_of_ble_eq_true rfl)) dB_36_2_3.2.2.2.2 ⟨Nat.le_of_ble_eq_true rfl, Nat.le_of_ble_eq_true rfl⟩) hS (fun q _ h => hFc q h) hFc (fun u t H locs ht hvm hw hB hz1 hk1 hS => ?_)
        obtain ⟨e1_155, g_156, hP1, hD1⟩ := hB
        rw [ht] at hP1
        obtain ⟨hP, hD⟩ := va_join (wr := [ob10_0_ xw xc xk wpo wc wf, ob0_0_ xc xn xk clo cro c4 c5 c6 c7 c8, ob3_0_ xn vp vn n1 n2 n3 n4 n5, ai_ cy n1 40 fk, ai_ cy n2 40 fs, ai_ cy n3 40 fe, ai_ cy n5 40 fp, aq_ cy 6 wpo 12 (gf_ rp), ai_ cy (rp 0) 12 (m_rp_1 0), ai_ cy (rp 2) 12 (m_rp_1 2), ai_ cy (rp 3) 12 (m_rp_1 3), ai_ cy (rp 4) 12 (m_rp_1 4), ai_ cy (rp 5) 12 (m_rp_1 5), ai_ cy (rp 6) 12 (m_rp_1 6), ai_ cy (rp 7) 12 (m_rp_1 7), ai_ cy (rp 8) 12 (m_rp_1 8), ai_ cy (rp 9) 12 (m_rp_1 9), ai_ cy (rp 10) 12 (m_rp_1 10), ai_ cy (rp 11) 12 (m_rp_1 11), aq_ cy 3 xk 5 (kf_ k0 k1 k2 k3 k4), ob6_0_ k0, ob5_0_ k1, ob9_0_ k2, ob2_0_ k3, ob8_0_ k4]) (w1 := [ai_ cy (rp 1) 12 e1_155]) hP hD [9] [0, 1, 2, 3, 4, 5, 6, 7, 8, 10, 11, 12, 13, 14, 15, 16, 17, 18, 19, 20, 21, 22, 23, 24, 25] hC_ rfl (by decide +kernel) (by decide +kernel) hk1 hFc hP1 hD1
        refine pd_S hP hD [ob10_0_ xw xc xk wpo wc wf, ob0_0_ xc xn xk clo cro c4 c5 c6 c7 c8, ob3_0_ xn vp vn n1 n2 n3 n4 n5, ai_ cy n1 40 fk, ai_ cy n2 40 fs, ai_ cy n3 40 fe, ai_ cy n5 40 fp, aq_ cy 6 wpo 12 (gf_ rp), ai_ cy (rp 0) 12 (m_rp_1 0), ai_ cy (rp 1) 12 e1_155, ai_ cy (rp 2) 12 (m_rp_1 2), ai_ cy (rp 3) 12 (m_rp_1 3), ai_ cy (rp 4) 12 (m_rp_1 4), ai_ cy (rp 5) 12 (m_rp_1 5), ai_ cy (rp 6) 12 (m_rp_1 6), ai_ cy (rp 7) 12 (m_rp_1 7), ai_ cy (rp 8) 12 (m_rp_1 8), ai_ cy (rp 9) 12 (m_rp_1 9), ai_ cy (rp 10) 12 (m_rp_1 10), ai_ cy (rp 11) 12 (m_rp_1 11), aq_ cy 3 xk 5 (kf_ k0 k1 k2 k3 k4), ob6_0_ k0, ob5_0_ k1, ob9_0_ k2, ob2_0_ k3, ob8_0_ k4] [0, 1, 2, 3, 4, 5, 6, 7, 8, 25, 9, 10, 11, 12, 13, 14, 15, 16, 17, 18, 19, 20, 21, 22, 23, 24] (by decide +kernel) rfl (fun hP hD => ?_)
        have hfl_ := g_156
        obtain ⟨M_157, eM_157⟩ : ∃ g : Nat → Nat → Int32, g = va_up m_rp_1 1 e1_155 := ⟨_, rfl⟩
        refine pd_K (D := D) (cl := vwCl) (H := H) (A := A) [ob10_0_ xw xc xk wpo wc wf, ob0_0_ xc xn xk clo cro c4 c5 c6 c7 c8, ob3_0_ xn vp vn n1 n2 n3 n4 n5, ai_ cy n1 40 fk, ai_ cy n2 40 fs, ai_ cy n3 40 fe, ai_ cy n5 40 fp, aq_ cy 6 wpo 12 (gf_ rp), ai_ cy (rp 0) 12 (M_157 0), ai_ cy (rp 1) 12 (M_157 1), ai_ cy (rp 2) 12 (M_157 2), ai_ cy (rp 3) 12 (M_157 3), ai_ cy (rp 4) 12 (M_157 4), ai_ cy (rp 5) 12 (M_157 5), ai_ cy (rp 6) 12 (M_157 6), ai_ cy (rp 7) 12 (M_157 7), ai_ cy (rp 8) 12 (M_157 8), ai_ cy (rp 9) 12 (M_157 9), ai_ cy (rp 10) 12 (M_157 10), ai_ cy (rp 11) 12 (M_157 11), aq_ cy 3 xk 5 (kf_ k0 k1 k2 k3 k4), ob6_0_ k0, ob5_0_ k1, ob9_0_ k2, ob2_0_ k3, ob8_0_ k4] (by rw [eM_157]; exact hP) (by rw [eM_157]; exact hD) (fun hP hD => ?_)
        obtain ⟨y_158, ey_158⟩ : ∃ y : Int32, y = (1 : Int32) + 1 := ⟨_, rfl⟩
        have ty_158 : y_158.toInt = (1 : Int32).toInt + (1 : Int32).toInt := by rw [ey_158]; exact addI (by omega) (by omega)
        refine lv_iinc (v := y_158) (lv' := [(2, .int y_158), (1, .ref xn), (0, .ref xw)]) hx hb dB_36_2_4.1.1.1.1 hl (k := 0) rfl (by rw [ey_158]; rfl) (by decide) rfl (fun ls hl => ?_)
        refine lv_goto (tgt := 10) hx hb dB_36_2_4.1.1.1.2 (by decide) ?_
        exact ih_1 y_158 M_157 _ _ _ (by omega) (by first | with_reducible assumption | omega | assumption) (by first | with_reducible assumption | omega | assumption) (by first | exact vr_st eM_157 v2_1 hfl_ (by decide) (by omega) | (intro x y hx; omega)) ⟨hP, hD⟩ hS (lv_sub hl [0, 1, 2] rfl)
      · refine lv_aload_n hx hb dB_36_2_3.2.1.2.1 rfl (lv_at hl 2 rfl) ?_
        refine va_get (ci := 10) (v := .ref wpo) (C := RX10) (T := TX10) (N := 5) hx hb hts (fun _ h => List.mem_cons_of_mem _ (List.mem_append_left _ (List.mem_append_left _ (List.mem_append_right _ h)))) hown hK.1 hP 0 rfl rfl 2 (by decide) (hts (.fieldLink RX10 11 "CutAtlas$Widening" "prices" "[[I") (List.mem_of_getElem? (i := 4) rfl)) (fun _ h9 => h9) rfl dB_36_2_3.2.1.2.2 ?_
        refine lv_iload_n hx hb dB_36_2_3.2.2.1.1 rfl (lv_at hl 0 rfl) ?_
        have h_159 : vp_in (2 : Int32) 12 := by unfold vp_in; decide
        refine va_alda hx hb hG hP 7 rfl (i := 2) h_159 dB_36_2_3.2.2.1.2 ?_
        refine lv_topv (v' := .ref (rp 2)) (gf_at h_159) ?_
        refine lv_ldc (v := 1000000000) hx hb hown (hts (.constant RX10 38 (1000000000)) (List.mem_of_getElem? (i := 5) rfl)) dB_36_2_3.2.2.2.1 ?_
        refine ct_S hP hD hS hA [ai_ cy (rp 2) 12 (m_rp_1 2)] [10] (by decide) rfl (fun hPc hDw hFc hC_ => ?_)
        refine va_callv (va_runS (As := [.ref (rp 2), .int 1000000000]) (rest := []) ⟨hx, hb, hml, hown, hts⟩ (c_J7_fill_53178 l D cy H.size (rp 2) 12 (1000000000 : Int32) (m_rp_1 2) (by first | with_reducible assumption | assumption | omega)) (va_cwS 2 hts gX10_findPrices_J7_fill_53178 rfl rfl rfl hd_J7_fill_53178 ⟨Nat.le_of_ble_eq_true rfl, Nat.le_of_ble_eq_true rfl⟩) ⟨bl_, fun U hU hW => ⟨rfl, by rw [hU], by rw [hU]; exact hPc, kk_mv hW hK, hDw⟩⟩ rfl rfl hl.1 rfl (lv_room (Nat.le_of_ble_eq_true rfl)) dB_36_2_3.2.2.2.2 ⟨Nat.le_of_ble_eq_true rfl, Nat.le_of_ble_eq_true rfl⟩) hS (fun q _ h => hFc q h) hFc (fun u t H locs ht hvm hw hB hz1 hk1 hS => ?_)
        obtain ⟨e1_161, g_162, hP1, hD1⟩ := hB
        rw [ht] at hP1
        obtain ⟨hP, hD⟩ := va_join (wr := [ob10_0_ xw xc xk wpo wc wf, ob0_0_ xc xn xk clo cro c4 c5 c6 c7 c8, ob3_0_ xn vp vn n1 n2 n3 n4 n5, ai_ cy n1 40 fk, ai_ cy n2 40 fs, ai_ cy n3 40 fe, ai_ cy n5 40 fp, aq_ cy 6 wpo 12 (gf_ rp), ai_ cy (rp 0) 12 (m_rp_1 0), ai_ cy (rp 1) 12 (m_rp_1 1), ai_ cy (rp 3) 12 (m_rp_1 3), ai_ cy (rp 4) 12 (m_rp_1 4), ai_ cy (rp 5) 12 (m_rp_1 5), ai_ cy (rp 6) 12 (m_rp_1 6), ai_ cy (rp 7) 12 (m_rp_1 7), ai_ cy (rp 8) 12 (m_rp_1 8), ai_ cy (rp 9) 12 (m_rp_1 9), ai_ cy (rp 10) 12 (m_rp_1 10), ai_ cy (rp 11) 12 (m_rp_1 11), aq_ cy 3 xk 5 (kf_ k0 k1 k2 k3 k4), ob6_0_ k0, ob5_0_ k1, ob9_0_ k2, ob2_0_ k3, ob8_0_ k4]) (w1 := [ai_ cy (rp 2) 12 e1_161]) hP hD [10] [0, 1, 2, 3, 4, 5, 6, 7, 8, 9, 11, 12, 13, 14, 15, 16, 17, 18, 19, 20, 21, 22, 23, 24, 25] hC_ rfl (by decide +kernel) (by decide +kernel) hk1 hFc hP1 hD1
        refine pd_S hP hD [ob10_0_ xw xc xk wpo wc wf, ob0_0_ xc xn xk clo cro c4 c5 c6 c7 c8, ob3_0_ xn vp vn n1 n2 n3 n4 n5, ai_ cy n1 40 fk, ai_ cy n2 40 fs, ai_ cy n3 40 fe, ai_ cy n5 40 fp, aq_ cy 6 wpo 12 (gf_ rp), ai_ cy (rp 0) 12 (m_rp_1 0), ai_ cy (rp 1) 12 (m_rp_1 1), ai_ cy (rp 2) 12 e1_161, ai_ cy (rp 3) 12 (m_rp_1 3), ai_ cy (rp 4) 12 (m_rp_1 4), ai_ cy (rp 5) 12 (m_rp_1 5), ai_ cy (rp 6) 12 (m_rp_1 6), ai_ cy (rp 7) 12 (m_rp_1 7), ai_ cy (rp 8) 12 (m_rp_1 8), ai_ cy (rp 9) 12 (m_rp_1 9), ai_ cy (rp 10) 12 (m_rp_1 10), ai_ cy (rp 11) 12 (m_rp_1 11), aq_ cy 3 xk 5 (kf_ k0 k1 k2 k3 k4), ob6_0_ k0, ob5_0_ k1, ob9_0_ k2, ob2_0_ k3, ob8_0_ k4] [0, 1, 2, 3, 4, 5, 6, 7, 8, 9, 25, 10, 11, 12, 13, 14, 15, 16, 17, 18, 19, 20, 21, 22, 23, 24] (by decide +kernel) rfl (fun hP hD => ?_)
        have hfl_ := g_162
        obtain ⟨M_163, eM_163⟩ : ∃ g : Nat → Nat → Int32, g = va_up m_rp_1 2 e1_161 := ⟨_, rfl⟩
        refine pd_K (D := D) (cl := vwCl) (H := H) (A := A) [ob10_0_ xw xc xk wpo wc wf, ob0_0_ xc xn xk clo cro c4 c5 c6 c7 c8, ob3_0_ xn vp vn n1 n2 n3 n4 n5, ai_ cy n1 40 fk, ai_ cy n2 40 fs, ai_ cy n3 40 fe, ai_ cy n5 40 fp, aq_ cy 6 wpo 12 (gf_ rp), ai_ cy (rp 0) 12 (M_163 0), ai_ cy (rp 1) 12 (M_163 1), ai_ cy (rp 2) 12 (M_163 2), ai_ cy (rp 3) 12 (M_163 3), ai_ cy (rp 4) 12 (M_163 4), ai_ cy (rp 5) 12 (M_163 5), ai_ cy (rp 6) 12 (M_163 6), ai_ cy (rp 7) 12 (M_163 7), ai_ cy (rp 8) 12 (M_163 8), ai_ cy (rp 9) 12 (M_163 9), ai_ cy (rp 10) 12 (M_163 10), ai_ cy (rp 11) 12 (M_163 11), aq_ cy 3 xk 5 (kf_ k0 k1 k2 k3 k4), ob6_0_ k0, ob5_0_ k1, ob9_0_ k2, ob2_0_ k3, ob8_0_ k4] (by rw [eM_163]; exact hP) (by rw [eM_163]; exact hD) (fun hP hD => ?_)
        obtain ⟨y_164, ey_164⟩ : ∃ y : Int32, y = (2 : Int32) + 1 := ⟨_, rfl⟩
        have ty_164 : y_164.toInt = (2 : Int32).toInt + (1 : Int32).toInt := by rw [ey_164]; exact addI (by omega) (by omega)
        refine lv_iinc (v := y_164) (lv' := [(2, .int y_164), (1, .ref xn), (0, .ref xw)]) hx hb dB_36_2_4.1.1.1.1 hl (k := 0) rfl (by rw [ey_164]; rfl) (by decide) rfl (fun ls hl => ?_)
        refine lv_goto (tgt := 10) hx hb dB_36_2_4.1.1.1.2 (by decide) ?_
        exact ih_1 y_164 M_163 _ _ _ (by omega) (by first | with_reducible assumption | omega | assumption) (by first | with_reducible assumption | omega | assumption) (by first | exact vr_st eM_163 v2_1 hfl_ (by decide) (by omega) | (intro x y hx; omega)) ⟨hP, hD⟩ hS (lv_sub hl [0, 1, 2] rfl)
      · refine lv_aload_n hx hb dB_36_2_3.2.1.2.1 rfl (lv_at hl 2 rfl) ?_
        refine va_get (ci := 10) (v := .ref wpo) (C := RX10) (T := TX10) (N := 5) hx hb hts (fun _ h => List.mem_cons_of_mem _ (List.mem_append_left _ (List.mem_append_left _ (List.mem_append_right _ h)))) hown hK.1 hP 0 rfl rfl 2 (by decide) (hts (.fieldLink RX10 11 "CutAtlas$Widening" "prices" "[[I") (List.mem_of_getElem? (i := 4) rfl)) (fun _ h9 => h9) rfl dB_36_2_3.2.1.2.2 ?_
        refine lv_iload_n hx hb dB_36_2_3.2.2.1.1 rfl (lv_at hl 0 rfl) ?_
        have h_165 : vp_in (3 : Int32) 12 := by unfold vp_in; decide
        refine va_alda hx hb hG hP 7 rfl (i := 3) h_165 dB_36_2_3.2.2.1.2 ?_
        refine lv_topv (v' := .ref (rp 3)) (gf_at h_165) ?_
        refine lv_ldc (v := 1000000000) hx hb hown (hts (.constant RX10 38 (1000000000)) (List.mem_of_getElem? (i := 5) rfl)) dB_36_2_3.2.2.2.1 ?_
        refine ct_S hP hD hS hA [ai_ cy (rp 3) 12 (m_rp_1 3)] [11] (by decide) rfl (fun hPc hDw hFc hC_ => ?_)
        refine va_callv (va_runS (As := [.ref (rp 3), .int 1000000000]) (rest := []) ⟨hx, hb, hml, hown, hts⟩ (c_J7_fill_53178 l D cy H.size (rp 3) 12 (1000000000 : Int32) (m_rp_1 3) (by first | with_reducible assumption | assumption | omega)) (va_cwS 2 hts gX10_findPrices_J7_fill_53178 rfl rfl rfl hd_J7_fill_53178 ⟨Nat.le_of_ble_eq_true rfl, Nat.le_of_ble_eq_true rfl⟩) ⟨bl_, fun U hU hW => ⟨rfl, by rw [hU], by rw [hU]; exact hPc, kk_mv hW hK, hDw⟩⟩ rfl rfl hl.1 rfl (lv_room (Nat.le_of_ble_eq_true rfl)) dB_36_2_3.2.2.2.2 ⟨Nat.le_of_ble_eq_true rfl, Nat.le_of_ble_eq_true rfl⟩) hS (fun q _ h => hFc q h) hFc (fun u t H locs ht hvm hw hB hz1 hk1 hS => ?_)
        obtain ⟨e1_167, g_168, hP1, hD1⟩ := hB
        rw [ht] at hP1
        obtain ⟨hP, hD⟩ := va_join (wr := [ob10_0_ xw xc xk wpo wc wf, ob0_0_ xc xn xk clo cro c4 c5 c6 c7 c8, ob3_0_ xn vp vn n1 n2 n3 n4 n5, ai_ cy n1 40 fk, ai_ cy n2 40 fs, ai_ cy n3 40 fe, ai_ cy n5 40 fp, aq_ cy 6 wpo 12 (gf_ rp), ai_ cy (rp 0) 12 (m_rp_1 0), ai_ cy (rp 1) 12 (m_rp_1 1), ai_ cy (rp 2) 12 (m_rp_1 2), ai_ cy (rp 4) 12 (m_rp_1 4), ai_ cy (rp 5) 12 (m_rp_1 5), ai_ cy (rp 6) 12 (m_rp_1 6), ai_ cy (rp 7) 12 (m_rp_1 7), ai_ cy (rp 8) 12 (m_rp_1 8), ai_ cy (rp 9) 12 (m_rp_1 9), ai_ cy (rp 10) 12 (m_rp_1 10), ai_ cy (rp 11) 12 (m_rp_1 11), aq_ cy 3 xk 5 (kf_ k0 k1 k2 k3 k4), ob6_0_ k0, ob5_0_ k1, ob9_0_ k2, ob2_0_ k3, ob8_0_ k4]) (w1 := [ai_ cy (rp 3) 12 e1_167]) hP hD [11] [0, 1, 2, 3, 4, 5, 6, 7, 8, 9, 10, 12, 13, 14, 15, 16, 17, 18, 19, 20, 21, 22, 23, 24, 25] hC_ rfl (by decide +kernel) (by decide +kernel) hk1 hFc hP1 hD1
        refine pd_S hP hD [ob10_0_ xw xc xk wpo wc wf, ob0_0_ xc xn xk clo cro c4 c5 c6 c7 c8, ob3_0_ xn vp vn n1 n2 n3 n4 n5, ai_ cy n1 40 fk, ai_ cy n2 40 fs, ai_ cy n3 40 fe, ai_ cy n5 40 fp, aq_ cy 6 wpo 12 (gf_ rp), ai_ cy (rp 0) 12 (m_rp_1 0), ai_ cy (rp 1) 12 (m_rp_1 1), ai_ cy (rp 2) 12 (m_rp_1 2), ai_ cy (rp 3) 12 e1_167, ai_ cy (rp 4) 12 (m_rp_1 4), ai_ cy (rp 5) 12 (m_rp_1 5), ai_ cy (rp 6) 12 (m_rp_1 6), ai_ cy (rp 7) 12 (m_rp_1 7), ai_ cy (rp 8) 12 (m_rp_1 8), ai_ cy (rp 9) 12 (m_rp_1 9), ai_ cy (rp 10) 12 (m_rp_1 10), ai_ cy (rp 11) 12 (m_rp_1 11), aq_ cy 3 xk 5 (kf_ k0 k1 k2 k3 k4), ob6_0_ k0, ob5_0_ k1, ob9_0_ k2, ob2_0_ k3, ob8_0_ k4] [0, 1, 2, 3, 4, 5, 6, 7, 8, 9, 10, 25, 11, 12, 13, 14, 15, 16, 17, 18, 19, 20, 21, 22, 23, 24] (by decide +kernel) rfl (fun hP hD => ?_)
        have hfl_ := g_168
        obtain ⟨M_169, eM_169⟩ : ∃ g : Nat → Nat → Int32, g = va_up m_rp_1 3 e1_167 := ⟨_, rfl⟩
        refine pd_K (D := D) (cl := vwCl) (H := H) (A := A) [ob10_0_ xw xc xk wpo wc wf, ob0_0_ xc xn xk clo cro c4 c5 c6 c7 c8, ob3_0_ xn vp vn n1 n2 n3 n4 n5, ai_ cy n1 40 fk, ai_ cy n2 40 fs, ai_ cy n3 40 fe, ai_ cy n5 40 fp, aq_ cy 6 wpo 12 (gf_ rp), ai_ cy (rp 0) 12 (M_169 0), ai_ cy (rp 1) 12 (M_169 1), ai_ cy (rp 2) 12 (M_169 2), ai_ cy (rp 3) 12 (M_169 3), ai_ cy (rp 4) 12 (M_169 4), ai_ cy (rp 5) 12 (M_169 5), ai_ cy (rp 6) 12 (M_169 6), ai_ cy (rp 7) 12 (M_169 7), ai_ cy (rp 8) 12 (M_169 8), ai_ cy (rp 9) 12 (M_169 9), ai_ cy (rp 10) 12 (M_169 10), ai_ cy (rp 11) 12 (M_169 11), aq_ cy 3 xk 5 (kf_ k0 k1 k2 k3 k4), ob6_0_ k0, ob5_0_ k1, ob9_0_ k2, ob2_0_ k3, ob8_0_ k4] (by rw [eM_169]; exact hP) (by rw [eM_169]; exact hD) (fun hP hD => ?_)
        obtain ⟨y_170, ey_170⟩ : ∃ y : Int32, y = (3 : Int32) + 1 := ⟨_, rfl⟩
        have ty_170 : y_170.toInt = (3 : Int32).toInt + (1 : Int32).toInt := by rw [ey_170]; exact addI (by omega) (by omega)
        refine lv_iinc (v := y_170) (lv' := [(2, .int y_170), (1, .ref xn), (0, .ref xw)]) hx hb dB_36_2_4.1.1.1.1 hl (k := 0) rfl (by rw [ey_170]; rfl) (by decide) rfl (fun ls hl => ?_)
        refine lv_goto (tgt := 10) hx hb dB_36_2_4.1.1.1.2 (by decide) ?_
        exact ih_1 y_170 M_169 _ _ _ (by omega) (by first | with_reducible assumption | omega | assumption) (by first | with_reducible assumption | omega | assumption) (by first | exact vr_st eM_169 v2_1 hfl_ (by decide) (by omega) | (intro x y hx; omega)) ⟨hP, hD⟩ hS (lv_sub hl [0, 1, 2] rfl)
      · refine lv_aload_n hx hb dB_36_2_3.2.1.2.1 rfl (lv_at hl 2 rfl) ?_
        refine va_get (ci := 10) (v := .ref wpo) (C := RX10) (T := TX10) (N := 5) hx hb hts (fun _ h => List.mem_cons_of_mem _ (List.mem_append_left _ (List.mem_append_left _ (List.mem_append_right _ h)))) hown hK.1 hP 0 rfl rfl 2 (by decide) (hts (.fieldLink RX10 11 "CutAtlas$Widening" "prices" "[[I") (List.mem_of_getElem? (i := 4) rfl)) (fun _ h9 => h9) rfl dB_36_2_3.2.1.2.2 ?_
        refine lv_iload_n hx hb dB_36_2_3.2.2.1.1 rfl (lv_at hl 0 rfl) ?_
        have h_171 : vp_in (4 : Int32) 12 := by unfold vp_in; decide
        refine va_alda hx hb hG hP 7 rfl (i := 4) h_171 dB_36_2_3.2.2.1.2 ?_
        refine lv_topv (v' := .ref (rp 4)) (gf_at h_171) ?_
        refine lv_ldc (v := 1000000000) hx hb hown (hts (.constant RX10 38 (1000000000)) (List.mem_of_getElem? (i := 5) rfl)) dB_36_2_3.2.2.2.1 ?_
        refine ct_S hP hD hS hA [ai_ cy (rp 4) 12 (m_rp_1 4)] [12] (by decide) rfl (fun hPc hDw hFc hC_ => ?_)
        refine va_callv (va_runS (As := [.ref (rp 4), .int 1000000000]) (rest := []) ⟨hx, hb, hml, hown, hts⟩ (c_J7_fill_53178 l D cy H.size (rp 4) 12 (1000000000 : Int32) (m_rp_1 4) (by first | with_reducible assumption | assumption | omega)) (va_cwS 2 hts gX10_findPrices_J7_fill_53178 rfl rfl rfl hd_J7_fill_53178 ⟨Nat.le_of_ble_eq_true rfl, Nat.le_of_ble_eq_true rfl⟩) ⟨bl_, fun U hU hW => ⟨rfl, by rw [hU], by rw [hU]; exact hPc, kk_mv hW hK, hDw⟩⟩ rfl rfl hl.1 rfl (lv_room (Nat.le_of_ble_eq_true rfl)) dB_36_2_3.2.2.2.2 ⟨Nat.le_of_ble_eq_true rfl, Nat.le_of_ble_eq_true rfl⟩) hS (fun q _ h => hFc q h) hFc (fun u t H locs ht hvm hw hB hz1 hk1 hS => ?_)
        obtain ⟨e1_173, g_174, hP1, hD1⟩ := hB
        rw [ht] at hP1
        obtain ⟨hP, hD⟩ := va_join (wr := [ob10_0_ xw xc xk wpo wc wf, ob0_0_ xc xn xk clo cro c4 c5 c6 c7 c8, ob3_0_ xn vp vn n1 n2 n3 n4 n5, ai_ cy n1 40 fk, ai_ cy n2 40 fs, ai_ cy n3 40 fe, ai_ cy n5 40 fp, aq_ cy 6 wpo 12 (gf_ rp), ai_ cy (rp 0) 12 (m_rp_1 0), ai_ cy (rp 1) 12 (m_rp_1 1), ai_ cy (rp 2) 12 (m_rp_1 2), ai_ cy (rp 3) 12 (m_rp_1 3), ai_ cy (rp 5) 12 (m_rp_1 5), ai_ cy (rp 6) 12 (m_rp_1 6), ai_ cy (rp 7) 12 (m_rp_1 7), ai_ cy (rp 8) 12 (m_rp_1 8), ai_ cy (rp 9) 12 (m_rp_1 9), ai_ cy (rp 10) 12 (m_rp_1 10), ai_ cy (rp 11) 12 (m_rp_1 11), aq_ cy 3 xk 5 (kf_ k0 k1 k2 k3 k4), ob6_0_ k0, ob5_0_ k1, ob9_0_ k2, ob2_0_ k3, ob8_0_ k4]) (w1 := [ai_ cy (rp 4) 12 e1_173]) hP hD [12] [0, 1, 2, 3, 4, 5, 6, 7, 8, 9, 10, 11, 13, 14, 15, 16, 17, 18, 19, 20, 21, 22, 23, 24, 25] hC_ rfl (by decide +kernel) (by decide +kernel) hk1 hFc hP1 hD1
        refine pd_S hP hD [ob10_0_ xw xc xk wpo wc wf, ob0_0_ xc xn xk clo cro c4 c5 c6 c7 c8, ob3_0_ xn vp vn n1 n2 n3 n4 n5, ai_ cy n1 40 fk, ai_ cy n2 40 fs, ai_ cy n3 40 fe, ai_ cy n5 40 fp, aq_ cy 6 wpo 12 (gf_ rp), ai_ cy (rp 0) 12 (m_rp_1 0), ai_ cy (rp 1) 12 (m_rp_1 1), ai_ cy (rp 2) 12 (m_rp_1 2), ai_ cy (rp 3) 12 (m_rp_1 3), ai_ cy (rp 4) 12 e1_173, ai_ cy (rp 5) 12 (m_rp_1 5), ai_ cy (rp 6) 12 (m_rp_1 6), ai_ cy (rp 7) 12 (m_rp_1 7), ai_ cy (rp 8) 12 (m_rp_1 8), ai_ cy (rp 9) 12 (m_rp_1 9), ai_ cy (rp 10) 12 (m_rp_1 10), ai_ cy (rp 11) 12 (m_rp_1 11), aq_ cy 3 xk 5 (kf_ k0 k1 k2 k3 k4), ob6_0_ k0, ob5_0_ k1, ob9_0_ k2, ob2_0_ k3, ob8_0_ k4] [0, 1, 2, 3, 4, 5, 6, 7, 8, 9, 10, 11, 25, 12, 13, 14, 15, 16, 17, 18, 19, 20, 21, 22, 23, 24] (by decide +kernel) rfl (fun hP hD => ?_)
        have hfl_ := g_174
        obtain ⟨M_175, eM_175⟩ : ∃ g : Nat → Nat → Int32, g = va_up m_rp_1 4 e1_173 := ⟨_, rfl⟩
        refine pd_K (D := D) (cl := vwCl) (H := H) (A := A) [ob10_0_ xw xc xk wpo wc wf, ob0_0_ xc xn xk clo cro c4 c5 c6 c7 c8, ob3_0_ xn vp vn n1 n2 n3 n4 n5, ai_ cy n1 40 fk, ai_ cy n2 40 fs, ai_ cy n3 40 fe, ai_ cy n5 40 fp, aq_ cy 6 wpo 12 (gf_ rp), ai_ cy (rp 0) 12 (M_175 0), ai_ cy (rp 1) 12 (M_175 1), ai_ cy (rp 2) 12 (M_175 2), ai_ cy (rp 3) 12 (M_175 3), ai_ cy (rp 4) 12 (M_175 4), ai_ cy (rp 5) 12 (M_175 5), ai_ cy (rp 6) 12 (M_175 6), ai_ cy (rp 7) 12 (M_175 7), ai_ cy (rp 8) 12 (M_175 8), ai_ cy (rp 9) 12 (M_175 9), ai_ cy (rp 10) 12 (M_175 10), ai_ cy (rp 11) 12 (M_175 11), aq_ cy 3 xk 5 (kf_ k0 k1 k2 k3 k4), ob6_0_ k0, ob5_0_ k1, ob9_0_ k2, ob2_0_ k3, ob8_0_ k4] (by rw [eM_175]; exact hP) (by rw [eM_175]; exact hD) (fun hP hD => ?_)
        obtain ⟨y_176, ey_176⟩ : ∃ y : Int32, y = (4 : Int32) + 1 := ⟨_, rfl⟩
        have ty_176 : y_176.toInt = (4 : Int32).toInt + (1 : Int32).toInt := by rw [ey_176]; exact addI (by omega) (by omega)
        refine lv_iinc (v := y_176) (lv' := [(2, .int y_176), (1, .ref xn), (0, .ref xw)]) hx hb dB_36_2_4.1.1.1.1 hl (k := 0) rfl (by rw [ey_176]; rfl) (by decide) rfl (fun ls hl => ?_)
        refine lv_goto (tgt := 10) hx hb dB_36_2_4.1.1.1.2 (by decide) ?_
        exact ih_1 y_176 M_175 _ _ _ (by omega) (by first | with_reducible assumption | omega | assumption) (by first | with_reducible assumption | omega | assumption) (by first | exact vr_st eM_175 v2_1 hfl_ (by decide) (by omega) | (intro x y hx; omega)) ⟨hP, hD⟩ hS (lv_sub hl [0, 1, 2] rfl)
      · refine lv_aload_n hx hb dB_36_2_3.2.1.2.1 rfl (lv_at hl 2 rfl) ?_
        refine va_get (ci := 10) (v := .ref wpo) (C := RX10) (T := TX10) (N := 5) hx hb hts (fun _ h => List.mem_cons_of_mem _ (List.mem_append_left _ (List.mem_append_left _ (List.mem_append_right _ h)))) hown hK.1 hP 0 rfl rfl 2 (by decide) (hts (.fieldLink RX10 11 "CutAtlas$Widening" "prices" "[[I") (List.mem_of_getElem? (i := 4) rfl)) (fun _ h9 => h9) rfl dB_36_2_3.2.1.2.2 ?_
        refine lv_iload_n hx hb dB_36_2_3.2.2.1.1 rfl (lv_at hl 0 rfl) ?_
        have h_177 : vp_in (5 : Int32) 12 := by unfold vp_in; decide
        refine va_alda hx hb hG hP 7 rfl (i := 5) h_177 dB_36_2_3.2.2.1.2 ?_
        refine lv_topv (v' := .ref (rp 5)) (gf_at h_177) ?_
        refine lv_ldc (v := 1000000000) hx hb hown (hts (.constant RX10 38 (1000000000)) (List.mem_of_getElem? (i := 5) rfl)) dB_36_2_3.2.2.2.1 ?_
        refine ct_S hP hD hS hA [ai_ cy (rp 5) 12 (m_rp_1 5)] [13] (by decide) rfl (fun hPc hDw hFc hC_ => ?_)
        refine va_callv (va_runS (As := [.ref (rp 5), .int 1000000000]) (rest := []) ⟨hx, hb, hml, hown, hts⟩ (c_J7_fill_53178 l D cy H.size (rp 5) 12 (1000000000 : Int32) (m_rp_1 5) (by first | with_reducible assumption | assumption | omega)) (va_cwS 2 hts gX10_findPrices_J7_fill_53178 rfl rfl rfl hd_J7_fill_53178 ⟨Nat.le_of_ble_eq_true rfl, Nat.le_of_ble_eq_true rfl⟩) ⟨bl_, fun U hU hW => ⟨rfl, by rw [hU], by rw [hU]; exact hPc, kk_mv hW hK, hDw⟩⟩ rfl rfl hl.1 rfl (lv_room (Nat.le_of_ble_eq_true rfl)) dB_36_2_3.2.2.2.2 ⟨Nat.le_of_ble_eq_true rfl, Nat.le_of_ble_eq_true rfl⟩) hS (fun q _ h => hFc q h) hFc (fun u t H locs ht hvm hw hB hz1 hk1 hS => ?_)
        obtain ⟨e1_179, g_180, hP1, hD1⟩ := hB
        rw [ht] at hP1
        obtain ⟨hP, hD⟩ := va_join (wr := [ob10_0_ xw xc xk wpo wc wf, ob0_0_ xc xn xk clo cro c4 c5 c6 c7 c8, ob3_0_ xn vp vn n1 n2 n3 n4 n5, ai_ cy n1 40 fk, ai_ cy n2 40 fs, ai_ cy n3 40 fe, ai_ cy n5 40 fp, aq_ cy 6 wpo 12 (gf_ rp), ai_ cy (rp 0) 12 (m_rp_1 0), ai_ cy (rp 1) 12 (m_rp_1 1), ai_ cy (rp 2) 12 (m_rp_1 2), ai_ cy (rp 3) 12 (m_rp_1 3), ai_ cy (rp 4) 12 (m_rp_1 4), ai_ cy (rp 6) 12 (m_rp_1 6), ai_ cy (rp 7) 12 (m_rp_1 7), ai_ cy (rp 8) 12 (m_rp_1 8), ai_ cy (rp 9) 12 (m_rp_1 9), ai_ cy (rp 10) 12 (m_rp_1 10), ai_ cy (rp 11) 12 (m_rp_1 11), aq_ cy 3 xk 5 (kf_ k0 k1 k2 k3 k4), ob6_0_ k0, ob5_0_ k1, ob9_0_ k2, ob2_0_ k3, ob8_0_ k4]) (w1 := [ai_ cy (rp 5) 12 e1_179]) hP hD [13] [0, 1, 2, 3, 4, 5, 6, 7, 8, 9, 10, 11, 12, 14, 15, 16, 17, 18, 19, 20, 21, 22, 23, 24, 25] hC_ rfl (by decide +kernel) (by decide +kernel) hk1 hFc hP1 hD1
        refine pd_S hP hD [ob10_0_ xw xc xk wpo wc wf, ob0_0_ xc xn xk clo cro c4 c5 c6 c7 c8, ob3_0_ xn vp vn n1 n2 n3 n4 n5, ai_ cy n1 40 fk, ai_ cy n2 40 fs, ai_ cy n3 40 fe, ai_ cy n5 40 fp, aq_ cy 6 wpo 12 (gf_ rp), ai_ cy (rp 0) 12 (m_rp_1 0), ai_ cy (rp 1) 12 (m_rp_1 1), ai_ cy (rp 2) 12 (m_rp_1 2), ai_ cy (rp 3) 12 (m_rp_1 3), ai_ cy (rp 4) 12 (m_rp_1 4), ai_ cy (rp 5) 12 e1_179, ai_ cy (rp 6) 12 (m_rp_1 6), ai_ cy (rp 7) 12 (m_rp_1 7), ai_ cy (rp 8) 12 (m_rp_1 8), ai_ cy (rp 9) 12 (m_rp_1 9), ai_ cy (rp 10) 12 (m_rp_1 10), ai_ cy (rp 11) 12 (m_rp_1 11), aq_ cy 3 xk 5 (kf_ k0 k1 k2 k3 k4), ob6_0_ k0, ob5_0_ k1, ob9_0_ k2, ob2_0_ k3, ob8_0_ k4] [0, 1, 2, 3, 4, 5, 6, 7, 8, 9, 10, 11, 12, 25, 13, 14, 15, 16, 17, 18, 19, 20, 21, 22, 23, 24] (by decide +kernel) rfl (fun hP hD => ?_)
        have hfl_ := g_180
        obtain ⟨M_181, eM_181⟩ : ∃ g : Nat → Nat → Int32, g = va_up m_rp_1 5 e1_179 := ⟨_, rfl⟩
        refine pd_K (D := D) (cl := vwCl) (H := H) (A := A) [ob10_0_ xw xc xk wpo wc wf, ob0_0_ xc xn xk clo cro c4 c5 c6 c7 c8, ob3_0_ xn vp vn n1 n2 n3 n4 n5, ai_ cy n1 40 fk, ai_ cy n2 40 fs, ai_ cy n3 40 fe, ai_ cy n5 40 fp, aq_ cy 6 wpo 12 (gf_ rp), ai_ cy (rp 0) 12 (M_181 0), ai_ cy (rp 1) 12 (M_181 1), ai_ cy (rp 2) 12 (M_181 2), ai_ cy (rp 3) 12 (M_181 3), ai_ cy (rp 4) 12 (M_181 4), ai_ cy (rp 5) 12 (M_181 5), ai_ cy (rp 6) 12 (M_181 6), ai_ cy (rp 7) 12 (M_181 7), ai_ cy (rp 8) 12 (M_181 8), ai_ cy (rp 9) 12 (M_181 9), ai_ cy (rp 10) 12 (M_181 10), ai_ cy (rp 11) 12 (M_181 11), aq_ cy 3 xk 5 (kf_ k0 k1 k2 k3 k4), ob6_0_ k0, ob5_0_ k1, ob9_0_ k2, ob2_0_ k3, ob8_0_ k4] (by rw [eM_181]; exact hP) (by rw [eM_181]; exact hD) (fun hP hD => ?_)
        obtain ⟨y_182, ey_182⟩ : ∃ y : Int32, y = (5 : Int32) + 1 := ⟨_, rfl⟩
        have ty_182 : y_182.toInt = (5 : Int32).toInt + (1 : Int32).toInt := by rw [ey_182]; exact addI (by omega) (by omega)
        refine lv_iinc (v := y_182) (lv' := [(2, .int y_182), (1, .ref xn), (0, .ref xw)]) hx hb dB_36_2_4.1.1.1.1 hl (k := 0) rfl (by rw [ey_182]; rfl) (by decide) rfl (fun ls hl => ?_)
        refine lv_goto (tgt := 10) hx hb dB_36_2_4.1.1.1.2 (by decide) ?_
        exact ih_1 y_182 M_181 _ _ _ (by omega) (by first | with_reducible assumption | omega | assumption) (by first | with_reducible assumption | omega | assumption) (by first | exact vr_st eM_181 v2_1 hfl_ (by decide) (by omega) | (intro x y hx; omega)) ⟨hP, hD⟩ hS (lv_sub hl [0, 1, 2] rfl)
      · refine lv_aload_n hx hb dB_36_2_3.2.1.2.1 rfl (lv_at hl 2 rfl) ?_
        refine va_get (ci := 10) (v := .ref wpo) (C := RX10) (T := TX10) (N := 5) hx hb hts (fun _ h => List.mem_cons_of_mem _ (List.mem_append_left _ (List.mem_append_left _ (List.mem_append_right _ h)))) hown hK.1 hP 0 rfl rfl 2 (by decide) (hts (.fieldLink RX10 11 "CutAtlas$Widening" "prices" "[[I") (List.mem_of_getElem? (i := 4) rfl)) (fun _ h9 => h9) rfl dB_36_2_3.2.1.2.2 ?_
        refine lv_iload_n hx hb dB_36_2_3.2.2.1.1 rfl (lv_at hl 0 rfl) ?_
        have h_183 : vp_in (6 : Int32) 12 := by unfold vp_in; decide
        refine va_alda hx hb hG hP 7 rfl (i := 6) h_183 dB_36_2_3.2.2.1.2 ?_
        refine lv_topv (v' := .ref (rp 6)) (gf_at h_183) ?_
        refine lv_ldc (v := 1000000000) hx hb hown (hts (.constant RX10 38 (1000000000)) (List.mem_of_getElem? (i := 5) rfl)) dB_36_2_3.2.2.2.1 ?_
        refine ct_S hP hD hS hA [ai_ cy (rp 6) 12 (m_rp_1 6)] [14] (by decide) rfl (fun hPc hDw hFc hC_ => ?_)
        refine va_callv (va_runS (As := [.ref (rp 6), .int 1000000000]) (rest := []) ⟨hx, hb, hml, hown, hts⟩ (c_J7_fill_53178 l D cy H.size (rp 6) 12 (1000000000 : Int32) (m_rp_1 6) (by first | with_reducible assumption | assumption | omega)) (va_cwS 2 hts gX10_findPrices_J7_fill_53178 rfl rfl rfl hd_J7_fill_53178 ⟨Nat.le_of_ble_eq_true rfl, Nat.le_of_ble_eq_true rfl⟩) ⟨bl_, fun U hU hW => ⟨rfl, by rw [hU], by rw [hU]; exact hPc, kk_mv hW hK, hDw⟩⟩ rfl rfl hl.1 rfl (lv_room (Nat.le_of_ble_eq_true rfl)) dB_36_2_3.2.2.2.2 ⟨Nat.le_of_ble_eq_true rfl, Nat.le_of_ble_eq_true rfl⟩) hS (fun q _ h => hFc q h) hFc (fun u t H locs ht hvm hw hB hz1 hk1 hS => ?_)
        obtain ⟨e1_185, g_186, hP1, hD1⟩ := hB
        rw [ht] at hP1
        obtain ⟨hP, hD⟩ := va_join (wr := [ob10_0_ xw xc xk wpo wc wf, ob0_0_ xc xn xk clo cro c4 c5 c6 c7 c8, ob3_0_ xn vp vn n1 n2 n3 n4 n5, ai_ cy n1 40 fk, ai_ cy n2 40 fs, ai_ cy n3 40 fe, ai_ cy n5 40 fp, aq_ cy 6 wpo 12 (gf_ rp), ai_ cy (rp 0) 12 (m_rp_1 0), ai_ cy (rp 1) 12 (m_rp_1 1), ai_ cy (rp 2) 12 (m_rp_1 2), ai_ cy (rp 3) 12 (m_rp_1 3), ai_ cy (rp 4) 12 (m_rp_1 4), ai_ cy (rp 5) 12 (m_rp_1 5), ai_ cy (rp 7) 12 (m_rp_1 7), ai_ cy (rp 8) 12 (m_rp_1 8), ai_ cy (rp 9) 12 (m_rp_1 9), ai_ cy (rp 10) 12 (m_rp_1 10), ai_ cy (rp 11) 12 (m_rp_1 11), aq_ cy 3 xk 5 (kf_ k0 k1 k2 k3 k4), ob6_0_ k0, ob5_0_ k1, ob9_0_ k2, ob2_0_ k3, ob8_0_ k4]) (w1 := [ai_ cy (rp 6) 12 e1_185]) hP hD [14] [0, 1, 2, 3, 4, 5, 6, 7, 8, 9, 10, 11, 12, 13, 15, 16, 17, 18, 19, 20, 21, 22, 23, 24, 25] hC_ rfl (by decide +kernel) (by decide +kernel) hk1 hFc hP1 hD1
        refine pd_S hP hD [ob10_0_ xw xc xk wpo wc wf, ob0_0_ xc xn xk clo cro c4 c5 c6 c7 c8, ob3_0_ xn vp vn n1 n2 n3 n4 n5, ai_ cy n1 40 fk, ai_ cy n2 40 fs, ai_ cy n3 40 fe, ai_ cy n5 40 fp, aq_ cy 6 wpo 12 (gf_ rp), ai_ cy (rp 0) 12 (m_rp_1 0), ai_ cy (rp 1) 12 (m_rp_1 1), ai_ cy (rp 2) 12 (m_rp_1 2), ai_ cy (rp 3) 12 (m_rp_1 3), ai_ cy (rp 4) 12 (m_rp_1 4), ai_ cy (rp 5) 12 (m_rp_1 5), ai_ cy (rp 6) 12 e1_185, ai_ cy (rp 7) 12 (m_rp_1 7), ai_ cy (rp 8) 12 (m_rp_1 8), ai_ cy (rp 9) 12 (m_rp_1 9), ai_ cy (rp 10) 12 (m_rp_1 10), ai_ cy (rp 11) 12 (m_rp_1 11), aq_ cy 3 xk 5 (kf_ k0 k1 k2 k3 k4), ob6_0_ k0, ob5_0_ k1, ob9_0_ k2, ob2_0_ k3, ob8_0_ k4] [0, 1, 2, 3, 4, 5, 6, 7, 8, 9, 10, 11, 12, 13, 25, 14, 15, 16, 17, 18, 19, 20, 21, 22, 23, 24] (by decide +kernel) rfl (fun hP hD => ?_)
        have hfl_ := g_186
        obtain ⟨M_187, eM_187⟩ : ∃ g : Nat → Nat → Int32, g = va_up m_rp_1 6 e1_185 := ⟨_, rfl⟩
        refine pd_K (D := D) (cl := vwCl) (H := H) (A := A) [ob10_0_ xw xc xk wpo wc wf, ob0_0_ xc xn xk clo cro c4 c5 c6 c7 c8, ob3_0_ xn vp vn n1 n2 n3 n4 n5, ai_ cy n1 40 fk, ai_ cy n2 40 fs, ai_ cy n3 40 fe, ai_ cy n5 40 fp, aq_ cy 6 wpo 12 (gf_ rp), ai_ cy (rp 0) 12 (M_187 0), ai_ cy (rp 1) 12 (M_187 1), ai_ cy (rp 2) 12 (M_187 2), ai_ cy (rp 3) 12 (M_187 3), ai_ cy (rp 4) 12 (M_187 4), ai_ cy (rp 5) 12 (M_187 5), ai_ cy (rp 6) 12 (M_187 6), ai_ cy (rp 7) 12 (M_187 7), ai_ cy (rp 8) 12 (M_187 8), ai_ cy (rp 9) 12 (M_187 9), ai_ cy (rp 10) 12 (M_187 10), ai_ cy (rp 11) 12 (M_187 11), aq_ cy 3 xk 5 (kf_ k0 k1 k2 k3 k4), ob6_0_ k0, ob5_0_ k1, ob9_0_ k2, ob2_0_ k3, ob8_0_ k4] (by rw [eM_187]; exact hP) (by rw [eM_187]; exact hD) (fun hP hD => ?_)
        obtain ⟨y_188, ey_188⟩ : ∃ y : Int32, y = (6 : Int32) + 1 := ⟨_, rfl⟩
        have ty_188 : y_188.toInt = (6 : Int32).toInt + (1 : Int32).toInt := by rw [ey_188]; exact addI (by omega) (by omega)
        refine lv_iinc (v := y_188) (lv' := [(2, .int y_188), (1, .ref xn), (0, .ref xw)]) hx hb dB_36_2_4.1.1.1.1 hl (k := 0) rfl (by rw [ey_188]; rfl) (by decide) rfl (fun ls hl => ?_)
        refine lv_goto (tgt := 10) hx hb dB_36_2_4.1.1.1.2 (by decide) ?_
        exact ih_1 y_188 M_187 _ _ _ (by omega) (by first | with_reducible assumption | omega | assumption) (by first | with_reducible assumption | omega | assumption) (by first | exact vr_st eM_187 v2_1 hfl_ (by decide) (by omega) | (intro x y hx; omega)) ⟨hP, hD⟩ hS (lv_sub hl [0, 1, 2] rfl)
      · refine lv_aload_n hx hb dB_36_2_3.2.1.2.1 rfl (lv_at hl 2 rfl) ?_
        refine va_get (ci := 10) (v := .ref wpo) (C := RX10) (T := TX10) (N := 5) hx hb hts (fun _ h => List.mem_cons_of_mem _ (List.mem_append_left _ (List.mem_append_left _ (List.mem_append_right _ h)))) hown hK.1 hP 0 rfl rfl 2 (by decide) (hts (.fieldLink RX10 11 "CutAtlas$Widening" "prices" "[[I") (List.mem_of_getElem? (i := 4) rfl)) (fun _ h9 => h9) rfl dB_36_2_3.2.1.2.2 ?_
        refine lv_iload_n hx hb dB_36_2_3.2.2.1.1 rfl (lv_at hl 0 rfl) ?_
        have h_189 : vp_in (7 : Int32) 12 := by unfold vp_in; decide
        refine va_alda hx hb hG hP 7 rfl (i := 7) h_189 dB_36_2_3.2.2.1.2 ?_
        refine lv_topv (v' := .ref (rp 7)) (gf_at h_189) ?_
        refine lv_ldc (v := 1000000000) hx hb hown (hts (.constant RX10 38 (1000000000)) (List.mem_of_getElem? (i := 5) rfl)) dB_36_2_3.2.2.2.1 ?_
        refine ct_S hP hD hS hA [ai_ cy (rp 7) 12 (m_rp_1 7)] [15] (by decide) rfl (fun hPc hDw hFc hC_ => ?_)
        refine va_callv (va_runS (As := [.ref (rp 7), .int 1000000000]) (rest := []) ⟨hx, hb, hml, hown, hts⟩ (c_J7_fill_53178 l D cy H.size (rp 7) 12 (1000000000 : Int32) (m_rp_1 7) (by first | with_reducible assumption | assumption | omega)) (va_cwS 2 hts gX10_findPrices_J7_fill_53178 rfl rfl rfl hd_J7_fill_53178 ⟨Nat.le_of_ble_eq_true rfl, Nat.le_of_ble_eq_true rfl⟩) ⟨bl_, fun U hU hW => ⟨rfl, by rw [hU], by rw [hU]; exact hPc, kk_mv hW hK, hDw⟩⟩ rfl rfl hl.1 rfl (lv_room (Nat.le_of_ble_eq_true rfl)) dB_36_2_3.2.2.2.2 ⟨Nat.le_of_ble_eq_true rfl, Nat.le_of_ble_eq_true rfl⟩) hS (fun q _ h => hFc q h) hFc (fun u t H locs ht hvm hw hB hz1 hk1 hS => ?_)
        obtain ⟨e1_191, g_192, hP1, hD1⟩ := hB
        rw [ht] at hP1
        obtain ⟨hP, hD⟩ := va_join (wr := [ob10_0_ xw xc xk wpo wc wf, ob0_0_ xc xn xk clo cro c4 c5 c6 c7 c8, ob3_0_ xn vp vn n1 n2 n3 n4 n5, ai_ cy n1 40 fk, ai_ cy n2 40 fs, ai_ cy n3 40 fe, ai_ cy n5 40 fp, aq_ cy 6 wpo 12 (gf_ rp), ai_ cy (rp 0) 12 (m_rp_1 0), ai_ cy (rp 1) 12 (m_rp_1 1), ai_ cy (rp 2) 12 (m_rp_1 2), ai_ cy (rp 3) 12 (m_rp_1 3), ai_ cy (rp 4) 12 (m_rp_1 4), ai_ cy (rp 5) 12 (m_rp_1 5), ai_ cy (rp 6) 12 (m_rp_1 6), ai_ cy (rp 8) 12 (m_rp_1 8), ai_ cy (rp 9) 12 (m_rp_1 9), ai_ cy (rp 10) 12 (m_rp_1 10), ai_ cy (rp 11) 12 (m_rp_1 11), aq_ cy 3 xk 5 (kf_ k0 k1 k2 k3 k4), ob6_0_ k0, ob5_0_ k1, ob9_0_ k2, ob2_0_ k3, ob8_0_ k4]) (w1 := [ai_ cy (rp 7) 12 e1_191]) hP hD [15] [0, 1, 2, 3, 4, 5, 6, 7, 8, 9, 10, 11, 12, 13, 14, 16, 17, 18, 19, 20, 21, 22, 23, 24, 25] hC_ rfl (by decide +kernel) (by decide +kernel) hk1 hFc hP1 hD1
        refine pd_S hP hD [ob10_0_ xw xc xk wpo wc wf, ob0_0_ xc xn xk clo cro c4 c5 c6 c7 c8, ob3_0_ xn vp vn n1 n2 n3 n4 n5, ai_ cy n1 40 fk, ai_ cy n2 40 fs, ai_ cy n3 40 fe, ai_ cy n5 40 fp, aq_ cy 6 wpo 12 (gf_ rp), ai_ cy (rp 0) 12 (m_rp_1 0), ai_ cy (rp 1) 12 (m_rp_1 1), ai_ cy (rp 2) 12 (m_rp_1 2), ai_ cy (rp 3) 12 (m_rp_1 3), ai_ cy (rp 4) 12 (m_rp_1 4), ai_ cy (rp 5) 12 (m_rp_1 5), ai_ cy (rp 6) 12 (m_rp_1 6), ai_ cy (rp 7) 12 e1_191, ai_ cy (rp 8) 12 (m_rp_1 8), ai_ cy (rp 9) 12 (m_rp_1 9), ai_ cy (rp 10) 12 (m_rp_1 10), ai_ cy (rp 11) 12 (m_rp_1 11), aq_ cy 3 xk 5 (kf_ k0 k1 k2 k3 k4), ob6_0_ k0, ob5_0_ k1, ob9_0_ k2, ob2_0_ k3, ob8_0_ k4] [0, 1, 2, 3, 4, 5, 6, 7, 8, 9, 10, 11, 12, 13, 14, 25, 15, 16, 17, 18, 19, 20, 21, 22, 23, 24] (by decide +kernel) rfl (fun hP hD => ?_)
        have hfl_ := g_192
        obtain ⟨M_193, eM_193⟩ : ∃ g : Nat → Nat → Int32, g = va_up m_rp_1 7 e1_191 := ⟨_, rfl⟩
        refine pd_K (D := D) (cl := vwCl) (H := H) (A := A) [ob10_0_ xw xc xk wpo wc wf, ob0_0_ xc xn xk clo cro c4 c5 c6 c7 c8, ob3_0_ xn vp vn n1 n2 n3 n4 n5, ai_ cy n1 40 fk, ai_ cy n2 40 fs, ai_ cy n3 40 fe, ai_ cy n5 40 fp, aq_ cy 6 wpo 12 (gf_ rp), ai_ cy (rp 0) 12 (M_193 0), ai_ cy (rp 1) 12 (M_193 1), ai_ cy (rp 2) 12 (M_193 2), ai_ cy (rp 3) 12 (M_193 3), ai_ cy (rp 4) 12 (M_193 4), ai_ cy (rp 5) 12 (M_193 5), ai_ cy (rp 6) 12 (M_193 6), ai_ cy (rp 7) 12 (M_193 7), ai_ cy (rp 8) 12 (M_193 8), ai_ cy (rp 9) 12 (M_193 9), ai_ cy (rp 10) 12 (M_193 10), ai_ cy (rp 11) 12 (M_193 11), aq_ cy 3 xk 5 (kf_ k0 k1 k2 k3 k4), ob6_0_ k0, ob5_0_ k1, ob9_0_ k2, ob2_0_ k3, ob8_0_ k4] (by rw [eM_193]; exact hP) (by rw [eM_193]; exact hD) (fun hP hD => ?_)
        obtain ⟨y_194, ey_194⟩ : ∃ y : Int32, y = (7 : Int32) + 1 := ⟨_, rfl⟩
        have ty_194 : y_194.toInt = (7 : Int32).toInt + (1 : Int32).toInt := by rw [ey_194]; exact addI (by omega) (by omega)
        refine lv_iinc (v := y_194) (lv' := [(2, .int y_194), (1, .ref xn), (0, .ref xw)]) hx hb dB_36_2_4.1.1.1.1 hl (k := 0) rfl (by rw [ey_194]; rfl) (by decide) rfl (fun ls hl => ?_)
        refine lv_goto (tgt := 10) hx hb dB_36_2_4.1.1.1.2 (by decide) ?_
        exact ih_1 y_194 M_193 _ _ _ (by omega) (by first | with_reducible assumption | omega | assumption) (by first | with_reducible assumption | omega | assumption) (by first | exact vr_st eM_193 v2_1 hfl_ (by decide) (by omega) | (intro x y hx; omega)) ⟨hP, hD⟩ hS (lv_sub hl [0, 1, 2] rfl)
      · refine lv_aload_n hx hb dB_36_2_3.2.1.2.1 rfl (lv_at hl 2 rfl) ?_
        refine va_get (ci := 10) (v := .ref wpo) (C := RX10) (T := TX10) (N := 5) hx hb hts (fun _ h => List.mem_cons_of_mem _ (List.mem_append_left _ (List.mem_append_left _ (List.mem_append_right _ h)))) hown hK.1 hP 0 rfl rfl 2 (by decide) (hts (.fieldLink RX10 11 "CutAtlas$Widening" "prices" "[[I") (List.mem_of_getElem? (i := 4) rfl)) (fun _ h9 => h9) rfl dB_36_2_3.2.1.2.2 ?_
        refine lv_iload_n hx hb dB_36_2_3.2.2.1.1 rfl (lv_at hl 0 rfl) ?_
        have h_195 : vp_in (8 : Int32) 12 := by unfold vp_in; decide
        refine va_alda hx hb hG hP 7 rfl (i := 8) h_195 dB_36_2_3.2.2.1.2 ?_
        refine lv_topv (v' := .ref (rp 8)) (gf_at h_195) ?_
        refine lv_ldc (v := 1000000000) hx hb hown (hts (.constant RX10 38 (1000000000)) (List.mem_of_getElem? (i := 5) rfl)) dB_36_2_3.2.2.2.1 ?_
        refine ct_S hP hD hS hA [ai_ cy (rp 8) 12 (m_rp_1 8)] [16] (by decide) rfl (fun hPc hDw hFc hC_ => ?_)
        refine va_callv (va_runS (As := [.ref (rp 8), .int 1000000000]) (rest := []) ⟨hx, hb, hml, hown, hts⟩ (c_J7_fill_53178 l D cy H.size (rp 8) 12 (1000000000 : Int32) (m_rp_1 8) (by first | with_reducible assumption | assumption | omega)) (va_cwS 2 hts gX10_findPrices_J7_fill_53178 rfl rfl rfl hd_J7_fill_53178 ⟨Nat.le_of_ble_eq_true rfl, Nat.le_of_ble_eq_true rfl⟩) ⟨bl_, fun U hU hW => ⟨rfl, by rw [hU], by rw [hU]; exact hPc, kk_mv hW hK, hDw⟩⟩ rfl rfl hl.1 rfl (lv_room (Nat.le_of_ble_eq_true rfl)) dB_36_2_3.2.2.2.2 ⟨Nat.le_of_ble_eq_true rfl, Nat.le_of_ble_eq_true rfl⟩) hS (fun q _ h => hFc q h) hFc (fun u t H locs ht hvm hw hB hz1 hk1 hS => ?_)
        obtain ⟨e1_197, g_198, hP1, hD1⟩ := hB
        rw [ht] at hP1
        obtain ⟨hP, hD⟩ := va_join (wr := [ob10_0_ xw xc xk wpo wc wf, ob0_0_ xc xn xk clo cro c4 c5 c6 c7 c8, ob3_0_ xn vp vn n1 n2 n3 n4 n5, ai_ cy n1 40 fk, ai_ cy n2 40 fs, ai_ cy n3 40 fe, ai_ cy n5 40 fp, aq_ cy 6 wpo 12 (gf_ rp), ai_ cy (rp 0) 12 (m_rp_1 0), ai_ cy (rp 1) 12 (m_rp_1 1), ai_ cy (rp 2) 12 (m_rp_1 2), ai_ cy (rp 3) 12 (m_rp_1 3), ai_ cy (rp 4) 12 (m_rp_1 4), ai_ cy (rp 5) 12 (m_rp_1 5), ai_ cy (rp 6) 12 (m_rp_1 6), ai_ cy (rp 7) 12 (m_rp_1 7), ai_ cy (rp 9) 12 (m_rp_1 9), ai_ cy (rp 10) 12 (m_rp_1 10), ai_ cy (rp 11) 12 (m_rp_1 11), aq_ cy 3 xk 5 (kf_ k0 k1 k2 k3 k4), ob6_0_ k0, ob5_0_ k1, ob9_0_ k2, ob2_0_ k3, ob8_0_ k4]) (w1 := [ai_ cy (rp 8) 12 e1_197]) hP hD [16] [0, 1, 2, 3, 4, 5, 6, 7, 8, 9, 10, 11, 12, 13, 14, 15, 17, 18, 19, 20, 21, 22, 23, 24, 25] hC_ rfl (by decide +kernel) (by decide +kernel) hk1 hFc hP1 hD1
        refine pd_S hP hD [ob10_0_ xw xc xk wpo wc wf, ob0_0_ xc xn xk clo cro c4 c5 c6 c7 c8, ob3_0_ xn vp vn n1 n2 n3 n4 n5, ai_ cy n1 40 fk, ai_ cy n2 40 fs, ai_ cy n3 40 fe, ai_ cy n5 40 fp, aq_ cy 6 wpo 12 (gf_ rp), ai_ cy (rp 0) 12 (m_rp_1 0), ai_ cy (rp 1) 12 (m_rp_1 1), ai_ cy (rp 2) 12 (m_rp_1 2), ai_ cy (rp 3) 12 (m_rp_1 3), ai_ cy (rp 4) 12 (m_rp_1 4), ai_ cy (rp 5) 12 (m_rp_1 5), ai_ cy (rp 6) 12 (m_rp_1 6), ai_ cy (rp 7) 12 (m_rp_1 7), ai_ cy (rp 8) 12 e1_197, ai_ cy (rp 9) 12 (m_rp_1 9), ai_ cy (rp 10) 12 (m_rp_1 10), ai_ cy (rp 11) 12 (m_rp_1 11), aq_ cy 3 xk 5 (kf_ k0 k1 k2 k3 k4), ob6_0_ k0, ob5_0_ k1, ob9_0_ k2, ob2_0_ k3, ob8_0_ k4] [0, 1, 2, 3, 4, 5, 6, 7, 8, 9, 10, 11, 12, 13, 14, 15, 25, 16, 17, 18, 19, 20, 21, 22, 23, 24] (by decide +kernel) rfl (fun hP hD => ?_)
        have hfl_ := g_198
        obtain ⟨M_199, eM_199⟩ : ∃ g : Nat → Nat → Int32, g = va_up m_rp_1 8 e1_197 := ⟨_, rfl⟩
        refine pd_K (D := D) (cl := vwCl) (H := H) (A := A) [ob10_0_ xw xc xk wpo wc wf, ob0_0_ xc xn xk clo cro c4 c5 c6 c7 c8, ob3_0_ xn vp vn n1 n2 n3 n4 n5, ai_ cy n1 40 fk, ai_ cy n2 40 fs, ai_ cy n3 40 fe, ai_ cy n5 40 fp, aq_ cy 6 wpo 12 (gf_ rp), ai_ cy (rp 0) 12 (M_199 0), ai_ cy (rp 1) 12 (M_199 1), ai_ cy (rp 2) 12 (M_199 2), ai_ cy (rp 3) 12 (M_199 3), ai_ cy (rp 4) 12 (M_199 4), ai_ cy (rp 5) 12 (M_199 5), ai_ cy (rp 6) 12 (M_199 6), ai_ cy (rp 7) 12 (M_199 7), ai_ cy (rp 8) 12 (M_199 8), ai_ cy (rp 9) 12 (M_199 9), ai_ cy (rp 10) 12 (M_199 10), ai_ cy (rp 11) 12 (M_199 11), aq_ cy 3 xk 5 (kf_ k0 k1 k2 k3 k4), ob6_0_ k0, ob5_0_ k1, ob9_0_ k2, ob2_0_ k3, ob8_0_ k4] (by rw [eM_199]; exact hP) (by rw [eM_199]; exact hD) (fun hP hD => ?_)
        obtain ⟨y_200, ey_200⟩ : ∃ y : Int32, y = (8 : Int32) + 1 := ⟨_, rfl⟩
        have ty_200 : y_200.toInt = (8 : Int32).toInt + (1 : Int32).toInt := by rw [ey_200]; exact addI (by omega) (by omega)
        refine lv_iinc (v := y_200) (lv' := [(2, .int y_200), (1, .ref xn), (0, .ref xw)]) hx hb dB_36_2_4.1.1.1.1 hl (k := 0) rfl (by rw [ey_200]; rfl) (by decide) rfl (fun ls hl => ?_)
        refine lv_goto (tgt := 10) hx hb dB_36_2_4.1.1.1.2 (by decide) ?_
        exact ih_1 y_200 M_199 _ _ _ (by omega) (by first | with_reducible assumption | omega | assumption) (by first | with_reducible assumption | omega | assumption) (by first | exact vr_st eM_199 v2_1 hfl_ (by decide) (by omega) | (intro x y hx; omega)) ⟨hP, hD⟩ hS (lv_sub hl [0, 1, 2] rfl)
      · refine lv_aload_n hx hb dB_36_2_3.2.1.2.1 rfl (lv_at hl 2 rfl) ?_
        refine va_get (ci := 10) (v := .ref wpo) (C := RX10) (T := TX10) (N := 5) hx hb hts (fun _ h => List.mem_cons_of_mem _ (List.mem_append_left _ (List.mem_append_left _ (List.mem_append_right _ h)))) hown hK.1 hP 0 rfl rfl 2 (by decide) (hts (.fieldLink RX10 11 "CutAtlas$Widening" "prices" "[[I") (List.mem_of_getElem? (i := 4) rfl)) (fun _ h9 => h9) rfl dB_36_2_3.2.1.2.2 ?_
        refine lv_iload_n hx hb dB_36_2_3.2.2.1.1 rfl (lv_at hl 0 rfl) ?_
        have h_201 : vp_in (9 : Int32) 12 := by unfold vp_in; decide
        refine va_alda hx hb hG hP 7 rfl (i := 9) h_201 dB_36_2_3.2.2.1.2 ?_
        refine lv_topv (v' := .ref (rp 9)) (gf_at h_201) ?_
        refine lv_ldc (v := 1000000000) hx hb hown (hts (.constant RX10 38 (1000000000)) (List.mem_of_getElem? (i := 5) rfl)) dB_36_2_3.2.2.2.1 ?_
        refine ct_S hP hD hS hA [ai_ cy (rp 9) 12 (m_rp_1 9)] [17] (by decide) rfl (fun hPc hDw hFc hC_ => ?_)
        refine va_callv (va_runS (As := [.ref (rp 9), .int 1000000000]) (rest := []) ⟨hx, hb, hml, hown, hts⟩ (c_J7_fill_53178 l D cy H.size (rp 9) 12 (1000000000 : Int32) (m_rp_1 9) (by first | with_reducible assumption | assumption | omega)) (va_cwS 2 hts gX10_findPrices_J7_fill_53178 rfl rfl rfl hd_J7_fill_53178 ⟨Nat.le_of_ble_eq_true rfl, Nat.le_of_ble_eq_true rfl⟩) ⟨bl_, fun U hU hW => ⟨rfl, by rw [hU], by rw [hU]; exact hPc, kk_mv hW hK, hDw⟩⟩ rfl rfl hl.1 rfl (lv_room (Nat.le_of_ble_eq_true rfl)) dB_36_2_3.2.2.2.2 ⟨Nat.le_of_ble_eq_true rfl, Nat.le_of_ble_eq_true rfl⟩) hS (fun q _ h => hFc q h) hFc (fun u t H locs ht hvm hw hB hz1 hk1 hS => ?_)
        obtain ⟨e1_203, g_204, hP1, hD1⟩ := hB
        rw [ht] at hP1
        obtain ⟨hP, hD⟩ := va_join (wr := [ob10_0_ xw xc xk wpo wc wf, ob0_0_ xc xn xk clo cro c4 c5 c6 c7 c8, ob3_0_ xn vp vn n1 n2 n3 n4 n5, ai_ cy n1 40 fk, ai_ cy n2 40 fs, ai_ cy n3 40 fe, ai_ cy n5 40 fp, aq_ cy 6 wpo 12 (gf_ rp), ai_ cy (rp 0) 12 (m_rp_1 0), ai_ cy (rp 1) 12 (m_rp_1 1), ai_ cy (rp 2) 12 (m_rp_1 2), ai_ cy (rp 3) 12 (m_rp_1 3), ai_ cy (rp 4) 12 (m_rp_1 4), ai_ cy (rp 5) 12 (m_rp_1 5), ai_ cy (rp 6) 12 (m_rp_1 6), ai_ cy (rp 7) 12 (m_rp_1 7), ai_ cy (rp 8) 12 (m_rp_1 8), ai_ cy (rp 10) 12 (m_rp_1 10), ai_ cy (rp 11) 12 (m_rp_1 11), aq_ cy 3 xk 5 (kf_ k0 k1 k2 k3 k4), ob6_0_ k0, ob5_0_ k1, ob9_0_ k2, ob2_0_ k3, ob8_0_ k4]) (w1 := [ai_ cy (rp 9) 12 e1_203]) hP hD [17] [0, 1, 2, 3, 4, 5, 6, 7, 8, 9, 10, 11, 12, 13, 14, 15, 16, 18, 19, 20, 21, 22, 23, 24, 25] hC_ rfl (by decide +kernel) (by decide +kernel) hk1 hFc hP1 hD1
        refine pd_S hP hD [ob10_0_ xw xc xk wpo wc wf, ob0_0_ xc xn xk clo cro c4 c5 c6 c7 c8, ob3_0_ xn vp vn n1 n2 n3 n4 n5, ai_ cy n1 40 fk, ai_ cy n2 40 fs, ai_ cy n3 40 fe, ai_ cy n5 40 fp, aq_ cy 6 wpo 12 (gf_ rp), ai_ cy (rp 0) 12 (m_rp_1 0), ai_ cy (rp 1) 12 (m_rp_1 1), ai_ cy (rp 2) 12 (m_rp_1 2), ai_ cy (rp 3) 12 (m_rp_1 3), ai_ cy (rp 4) 12 (m_rp_1 4), ai_ cy (rp 5) 12 (m_rp_1 5), ai_ cy (rp 6) 12 (m_rp_1 6), ai_ cy (rp 7) 12 (m_rp_1 7), ai_ cy (rp 8) 12 (m_rp_1 8), ai_ cy (rp 9) 12 e1_203, ai_ cy (rp 10) 12 (m_rp_1 10), ai_ cy (rp 11) 12 (m_rp_1 11), aq_ cy 3 xk 5 (kf_ k0 k1 k2 k3 k4), ob6_0_ k0, ob5_0_ k1, ob9_0_ k2, ob2_0_ k3, ob8_0_ k4] [0, 1, 2, 3, 4, 5, 6, 7, 8, 9, 10, 11, 12, 13, 14, 15, 16, 25, 17, 18, 19, 20, 21, 22, 23, 24] (by decide +kernel) rfl (fun hP hD => ?_)
        have hfl_ := g_204
        obtain ⟨M_205, eM_205⟩ : ∃ g : Nat → Nat → Int32, g = va_up m_rp_1 9 e1_203 := ⟨_, rfl⟩
        refine pd_K (D := D) (cl := vwCl) (H := H) (A := A) [ob10_0_ xw xc xk wpo wc wf, ob0_0_ xc xn xk clo cro c4 c5 c6 c7 c8, ob3_0_ xn vp vn n1 n2 n3 n4 n5, ai_ cy n1 40 fk, ai_ cy n2 40 fs, ai_ cy n3 40 fe, ai_ cy n5 40 fp, aq_ cy 6 wpo 12 (gf_ rp), ai_ cy (rp 0) 12 (M_205 0), ai_ cy (rp 1) 12 (M_205 1), ai_ cy (rp 2) 12 (M_205 2), ai_ cy (rp 3) 12 (M_205 3), ai_ cy (rp 4) 12 (M_205 4), ai_ cy (rp 5) 12 (M_205 5), ai_ cy (rp 6) 12 (M_205 6), ai_ cy (rp 7) 12 (M_205 7), ai_ cy (rp 8) 12 (M_205 8), ai_ cy (rp 9) 12 (M_205 9), ai_ cy (rp 10) 12 (M_205 10), ai_ cy (rp 11) 12 (M_205 11), aq_ cy 3 xk 5 (kf_ k0 k1 k2 k3 k4), ob6_0_ k0, ob5_0_ k1, ob9_0_ k2, ob2_0_ k3, ob8_0_ k4] (by rw [eM_205]; exact hP) (by rw [eM_205]; exact hD) (fun hP hD => ?_)
        obtain ⟨y_206, ey_206⟩ : ∃ y : Int32, y = (9 : Int32) + 1 := ⟨_, rfl⟩
        have ty_206 : y_206.toInt = (9 : Int32).toInt + (1 : Int32).toInt := by rw [ey_206]; exact addI (by omega) (by omega)
        refine lv_iinc (v := y_206) (lv' := [(2, .int y_206), (1, .ref xn), (0, .ref xw)]) hx hb dB_36_2_4.1.1.1.1 hl (k := 0) rfl (by rw [ey_206]; rfl) (by decide) rfl (fun ls hl => ?_)
        refine lv_goto (tgt := 10) hx hb dB_36_2_4.1.1.1.2 (by decide) ?_
        exact ih_1 y_206 M_205 _ _ _ (by omega) (by first | with_reducible assumption | omega | assumption) (by first | with_reducible assumption | omega | assumption) (by first | exact vr_st eM_205 v2_1 hfl_ (by decide) (by omega) | (intro x y hx; omega)) ⟨hP, hD⟩ hS (lv_sub hl [0, 1, 2] rfl)
      · refine lv_aload_n hx hb dB_36_2_3.2.1.2.1 rfl (lv_at hl 2 rfl) ?_
        refine va_get (ci := 10) (v := .ref wpo) (C := RX10) (T := TX10) (N := 5) hx hb hts (fun _ h => List.mem_cons_of_mem _ (List.mem_append_left _ (List.mem_append_left _ (List.mem_append_right _ h)))) hown hK.1 hP 0 rfl rfl 2 (by decide) (hts (.fieldLink RX10 11 "CutAtlas$Widening" "prices" "[[I") (List.mem_of_getElem? (i := 4) rfl)) (fun _ h9 => h9) rfl dB_36_2_3.2.1.2.2 ?_
        refine lv_iload_n hx hb dB_36_2_3.2.2.1.1 rfl (lv_at hl 0 rfl) ?_
        have h_207 : vp_in (10 : Int32) 12 := by unfold vp_in; decide
        refine va_alda hx hb hG hP 7 rfl (i := 10) h_207 dB_36_2_3.2.2.1.2 ?_
        refine lv_topv (v' := .ref (rp 10)) (gf_at h_207) ?_
        refine lv_ldc (v := 1000000000) hx hb hown (hts (.constant RX10 38 (1000000000)) (List.mem_of_getElem? (i := 5) rfl)) dB_36_2_3.2.2.2.1 ?_
        refine ct_S hP hD hS hA [ai_ cy (rp 10) 12 (m_rp_1 10)] [18] (by decide) rfl (fun hPc hDw hFc hC_ => ?_)
        refine va_callv (va_runS (As := [.ref (rp 10), .int 1000000000]) (rest := []) ⟨hx, hb, hml, hown, hts⟩ (c_J7_fill_53178 l D cy H.size (rp 10) 12 (1000000000 : Int32) (m_rp_1 10) (by first | with_reducible assumption | assumption | omega)) (va_cwS 2 hts gX10_findPrices_J7_fill_53178 rfl rfl rfl hd_J7_fill_53178 ⟨Nat.le_of_ble_eq_true rfl, Nat.le_of_ble_eq_true rfl⟩) ⟨bl_, fun U hU hW => ⟨rfl, by rw [hU], by rw [hU]; exact hPc, kk_mv hW hK, hDw⟩⟩ rfl rfl hl.1 rfl (lv_room (Nat.le_of_ble_eq_true rfl)) dB_36_2_3.2.2.2.2 ⟨Nat.le_of_ble_eq_true rfl, Nat.le_of_ble_eq_true rfl⟩) hS (fun q _ h => hFc q h) hFc (fun u t H locs ht hvm hw hB hz1 hk1 hS => ?_)
        obtain ⟨e1_209, g_210, hP1, hD1⟩ := hB
        rw [ht] at hP1
        obtain ⟨hP, hD⟩ := va_join (wr := [ob10_0_ xw xc xk wpo wc wf, ob0_0_ xc xn xk clo cro c4 c5 c6 c7 c8, ob3_0_ xn vp vn n1 n2 n3 n4 n5, ai_ cy n1 40 fk, ai_ cy n2 40 fs, ai_ cy n3 40 fe, ai_ cy n5 40 fp, aq_ cy 6 wpo 12 (gf_ rp), ai_ cy (rp 0) 12 (m_rp_1 0), ai_ cy (rp 1) 12 (m_rp_1 1), ai_ cy (rp 2) 12 (m_rp_1 2), ai_ cy (rp 3) 12 (m_rp_1 3), ai_ cy (rp 4) 12 (m_rp_1 4), ai_ cy (rp 5) 12 (m_rp_1 5), ai_ cy (rp 6) 12 (m_rp_1 6), ai_ cy (rp 7) 12 (m_rp_1 7), ai_ cy (rp 8) 12 (m_rp_1 8), ai_ cy (rp 9) 12 (m_rp_1 9), ai_ cy (rp 11) 12 (m_rp_1 11), aq_ cy 3 xk 5 (kf_ k0 k1 k2 k3 k4), ob6_0_ k0, ob5_0_ k1, ob9_0_ k2, ob2_0_ k3, ob8_0_ k4]) (w1 := [ai_ cy (rp 10) 12 e1_209]) hP hD [18] [0, 1, 2, 3, 4, 5, 6, 7, 8, 9, 10, 11, 12, 13, 14, 15, 16, 17, 19, 20, 21, 22, 23, 24, 25] hC_ rfl (by decide +kernel) (by decide +kernel) hk1 hFc hP1 hD1
        refine pd_S hP hD [ob10_0_ xw xc xk wpo wc wf, ob0_0_ xc xn xk clo cro c4 c5 c6 c7 c8, ob3_0_ xn vp vn n1 n2 n3 n4 n5, ai_ cy n1 40 fk, ai_ cy n2 40 fs, ai_ cy n3 40 fe, ai_ cy n5 40 fp, aq_ cy 6 wpo 12 (gf_ rp), ai_ cy (rp 0) 12 (m_rp_1 0), ai_ cy (rp 1) 12 (m_rp_1 1), ai_ cy (rp 2) 12 (m_rp_1 2), ai_ cy (rp 3) 12 (m_rp_1 3), ai_ cy (rp 4) 12 (m_rp_1 4), ai_ cy (rp 5) 12 (m_rp_1 5), ai_ cy (rp 6) 12 (m_rp_1 6), ai_ cy (rp 7) 12 (m_rp_1 7), ai_ cy (rp 8) 12 (m_rp_1 8), ai_ cy (rp 9) 12 (m_rp_1 9), ai_ cy (rp 10) 12 e1_209, ai_ cy (rp 11) 12 (m_rp_1 11), aq_ cy 3 xk 5 (kf_ k0 k1 k2 k3 k4), ob6_0_ k0, ob5_0_ k1, ob9_0_ k2, ob2_0_ k3, ob8_0_ k4] [0, 1, 2, 3, 4, 5, 6, 7, 8, 9, 10, 11, 12, 13, 14, 15, 16, 17, 25, 18, 19, 20, 21, 22, 23, 24] (by decide +kernel) rfl (fun hP hD => ?_)
        have hfl_ := g_210
        obtain ⟨M_211, eM_211⟩ : ∃ g : Nat → Nat → Int32, g = va_up m_rp_1 10 e1_209 := ⟨_, rfl⟩
        refine pd_K (D := D) (cl := vwCl) (H := H) (A := A) [ob10_0_ xw xc xk wpo wc wf, ob0_0_ xc xn xk clo cro c4 c5 c6 c7 c8, ob3_0_ xn vp vn n1 n2 n3 n4 n5, ai_ cy n1 40 fk, ai_ cy n2 40 fs, ai_ cy n3 40 fe, ai_ cy n5 40 fp, aq_ cy 6 wpo 12 (gf_ rp), ai_ cy (rp 0) 12 (M_211 0), ai_ cy (rp 1) 12 (M_211 1), ai_ cy (rp 2) 12 (M_211 2), ai_ cy (rp 3) 12 (M_211 3), ai_ cy (rp 4) 12 (M_211 4), ai_ cy (rp 5) 12 (M_211 5), ai_ cy (rp 6) 12 (M_211 6), ai_ cy (rp 7) 12 (M_211 7), ai_ cy (rp 8) 12 (M_211 8), ai_ cy (rp 9) 12 (M_211 9), ai_ cy (rp 10) 12 (M_211 10), ai_ cy (rp 11) 12 (M_211 11), aq_ cy 3 xk 5 (kf_ k0 k1 k2 k3 k4), ob6_0_ k0, ob5_0_ k1, ob9_0_ k2, ob2_0_ k3, ob8_0_ k4] (by rw [eM_211]; exact hP) (by rw [eM_211]; exact hD) (fun hP hD => ?_)
        obtain ⟨y_212, ey_212⟩ : ∃ y : Int32, y = (10 : Int32) + 1 := ⟨_, rfl⟩
        have ty_212 : y_212.toInt = (10 : Int32).toInt + (1 : Int32).toInt := by rw [ey_212]; exact addI (by omega) (by omega)
        refine lv_iinc (v := y_212) (lv' := [(2, .int y_212), (1, .ref xn), (0, .ref xw)]) hx hb dB_36_2_4.1.1.1.1 hl (k := 0) rfl (by rw [ey_212]; rfl) (by decide) rfl (fun ls hl => ?_)
        refine lv_goto (tgt := 10) hx hb dB_36_2_4.1.1.1.2 (by decide) ?_
        exact ih_1 y_212 M_211 _ _ _ (by omega) (by first | with_reducible assumption | omega | assumption) (by first | with_reducible assumption | omega | assumption) (by first | exact vr_st eM_211 v2_1 hfl_ (by decide) (by omega) | (intro x y hx; omega)) ⟨hP, hD⟩ hS (lv_sub hl [0, 1, 2] rfl)
      · refine lv_aload_n hx hb dB_36_2_3.2.1.2.1 rfl (lv_at hl 2 rfl) ?_
        refine va_get (ci := 10) (v := .ref wpo) (C := RX10) (T := TX10) (N := 5) hx hb hts (fun _ h => List.mem_cons_of_mem _ (List.mem_append_left _ (List.mem_append_left _ (List.mem_append_right _ h)))) hown hK.1 hP 0 rfl rfl 2 (by decide) (hts (.fieldLink RX10 11 "CutAtlas$Widening" "prices" "[[I") (List.mem_of_getElem? (i := 4) rfl)) (fun _ h9 => h9) rfl dB_36_2_3.2.1.2.2 ?_
        refine lv_iload_n hx hb dB_36_2_3.2.2.1.1 rfl (lv_at hl 0 rfl) ?_
        have h_213 : vp_in (11 : Int32) 12 := by unfold vp_in; decide
        refine va_alda hx hb hG hP 7 rfl (i := 11) h_213 dB_36_2_3.2.2.1.2 ?_
        refine lv_topv (v' := .ref (rp 11)) (gf_at h_213) ?_
        refine lv_ldc (v := 1000000000) hx hb hown (hts (.constant RX10 38 (1000000000)) (List.mem_of_getElem? (i := 5) rfl)) dB_36_2_3.2.2.2.1 ?_
        refine ct_S hP hD hS hA [ai_ cy (rp 11) 12 (m_rp_1 11)] [19] (by decide) rfl (fun hPc hDw hFc hC_ => ?_)
        refine va_callv (va_runS (As := [.ref (rp 11), .int 1000000000]) (rest := []) ⟨hx, hb, hml, hown, hts⟩ (c_J7_fill_53178 l D cy H.size (rp 11) 12 (1000000000 : Int32) (m_rp_1 11) (by first | with_reducible assumption | assumption | omega)) (va_cwS 2 hts gX10_findPrices_J7_fill_53178 rfl rfl rfl hd_J7_fill_53178 ⟨Nat.le_of_ble_eq_true rfl, Nat.le_of_ble_eq_true rfl⟩) ⟨bl_, fun U hU hW => ⟨rfl, by rw [hU], by rw [hU]; exact hPc, kk_mv hW hK, hDw⟩⟩ rfl rfl hl.1 rfl (lv_room (Nat.le_of_ble_eq_true rfl)) dB_36_2_3.2.2.2.2 ⟨Nat.le_of_ble_eq_true rfl, Nat.le_of_ble_eq_true rfl⟩) hS (fun q _ h => hFc q h) hFc (fun u t H locs ht hvm hw hB hz1 hk1 hS => ?_)
        obtain ⟨e1_215, g_216, hP1, hD1⟩ := hB
        rw [ht] at hP1
        obtain ⟨hP, hD⟩ := va_join (wr := [ob10_0_ xw xc xk wpo wc wf, ob0_0_ xc xn xk clo cro c4 c5 c6 c7 c8, ob3_0_ xn vp vn n1 n2 n3 n4 n5, ai_ cy n1 40 fk, ai_ cy n2 40 fs, ai_ cy n3 40 fe, ai_ cy n5 40 fp, aq_ cy 6 wpo 12 (gf_ rp), ai_ cy (rp 0) 12 (m_rp_1 0), ai_ cy (rp 1) 12 (m_rp_1 1), ai_ cy (rp 2) 12 (m_rp_1 2), ai_ cy (rp 3) 12 (m_rp_1 3), ai_ cy (rp 4) 12 (m_rp_1 4), ai_ cy (rp 5) 12 (m_rp_1 5), ai_ cy (rp 6) 12 (m_rp_1 6), ai_ cy (rp 7) 12 (m_rp_1 7), ai_ cy (rp 8) 12 (m_rp_1 8), ai_ cy (rp 9) 12 (m_rp_1 9), ai_ cy (rp 10) 12 (m_rp_1 10), aq_ cy 3 xk 5 (kf_ k0 k1 k2 k3 k4), ob6_0_ k0, ob5_0_ k1, ob9_0_ k2, ob2_0_ k3, ob8_0_ k4]) (w1 := [ai_ cy (rp 11) 12 e1_215]) hP hD [19] [0, 1, 2, 3, 4, 5, 6, 7, 8, 9, 10, 11, 12, 13, 14, 15, 16, 17, 18, 20, 21, 22, 23, 24, 25] hC_ rfl (by decide +kernel) (by decide +kernel) hk1 hFc hP1 hD1
        refine pd_S hP hD [ob10_0_ xw xc xk wpo wc wf, ob0_0_ xc xn xk clo cro c4 c5 c6 c7 c8, ob3_0_ xn vp vn n1 n2 n3 n4 n5, ai_ cy n1 40 fk, ai_ cy n2 40 fs, ai_ cy n3 40 fe, ai_ cy n5 40 fp, aq_ cy 6 wpo 12 (gf_ rp), ai_ cy (rp 0) 12 (m_rp_1 0), ai_ cy (rp 1) 12 (m_rp_1 1), ai_ cy (rp 2) 12 (m_rp_1 2), ai_ cy (rp 3) 12 (m_rp_1 3), ai_ cy (rp 4) 12 (m_rp_1 4), ai_ cy (rp 5) 12 (m_rp_1 5), ai_ cy (rp 6) 12 (m_rp_1 6), ai_ cy (rp 7) 12 (m_rp_1 7), ai_ cy (rp 8) 12 (m_rp_1 8), ai_ cy (rp 9) 12 (m_rp_1 9), ai_ cy (rp 10) 12 (m_rp_1 10), ai_ cy (rp 11) 12 e1_215, aq_ cy 3 xk 5 (kf_ k0 k1 k2 k3 k4), ob6_0_ k0, ob5_0_ k1, ob9_0_ k2, ob2_0_ k3, ob8_0_ k4] [0, 1, 2, 3, 4, 5, 6, 7, 8, 9, 10, 11, 12, 13, 14, 15, 16, 17, 18, 25, 19, 20, 21, 22, 23, 24] (by decide +kernel) rfl (fun hP hD => ?_)
        have hfl_ := g_216
        obtain ⟨M_217, eM_217⟩ : ∃ g : Nat → Nat → Int32, g = va_up m_rp_1 11 e1_215 := ⟨_, rfl⟩
        refine pd_K (D := D) (cl := vwCl) (H := H) (A := A) [ob10_0_ xw xc xk wpo wc wf, ob0_0_ xc xn xk clo cro c4 c5 c6 c7 c8, ob3_0_ xn vp vn n1 n2 n3 n4 n5, ai_ cy n1 40 fk, ai_ cy n2 40 fs, ai_ cy n3 40 fe, ai_ cy n5 40 fp, aq_ cy 6 wpo 12 (gf_ rp), ai_ cy (rp 0) 12 (M_217 0), ai_ cy (rp 1) 12 (M_217 1), ai_ cy (rp 2) 12 (M_217 2), ai_ cy (rp 3) 12 (M_217 3), ai_ cy (rp 4) 12 (M_217 4), ai_ cy (rp 5) 12 (M_217 5), ai_ cy (rp 6) 12 (M_217 6), ai_ cy (rp 7) 12 (M_217 7), ai_ cy (rp 8) 12 (M_217 8), ai_ cy (rp 9) 12 (M_217 9), ai_ cy (rp 10) 12 (M_217 10), ai_ cy (rp 11) 12 (M_217 11), aq_ cy 3 xk 5 (kf_ k0 k1 k2 k3 k4), ob6_0_ k0, ob5_0_ k1, ob9_0_ k2, ob2_0_ k3, ob8_0_ k4] (by rw [eM_217]; exact hP) (by rw [eM_217]; exact hD) (fun hP hD => ?_)
        obtain ⟨y_218, ey_218⟩ : ∃ y : Int32, y = (11 : Int32) + 1 := ⟨_, rfl⟩
        have ty_218 : y_218.toInt = (11 : Int32).toInt + (1 : Int32).toInt := by rw [ey_218]; exact addI (by omega) (by omega)
        refine lv_iinc (v := y_218) (lv' := [(2, .int y_218), (1, .ref xn), (0, .ref xw)]) hx hb dB_36_2_4.1.1.1.1 hl (k := 0) rfl (by rw [ey_218]; rfl) (by decide) rfl (fun ls hl => ?_)
        refine lv_goto (tgt := 10) hx hb dB_36_2_4.1.1.1.2 (by decide) ?_
        exact ih_1 y_218 M_217 _ _ _ (by omega) (by first | with_reducible assumption | omega | assumption) (by first | with_reducible assumption | omega | assumption) (by first | exact vr_st eM_217 v2_1 hfl_ (by decide) (by omega) | (intro x y hx; omega)) ⟨hP, hD⟩ hS (lv_sub hl [0, 1, 2] rfl)
end

section
set_option maxHeartbeats 4000000 in
set_option maxRecDepth 100000 in
theorem c_X10_pay2 (l : Launch) (D : va_G) (cy : Nat → ClassId) (sz : Nat) (xw : Nat) (wpo : Nat) (wc : Nat) (wf : Nat) (xc : Nat) (xk : Nat) (clo : Nat) (cro : Nat) (c4 : Nat) (c5 : Nat) (c6 : Nat) (c7 : Nat) (c8 : Nat) (xn : Nat) (n1 : Nat) (n2 : Nat) (n3 : Nat) (n4 : Nat) (n5 : Nat) (vp : Int32) (vn : Int32) (fk : Nat → Int32) (fs : Nat → Int32) (fe : Nat → Int32) (fp : Nat → Int32) (rr : Nat → Nat) (Mr : Nat → Nat → Int32) (rp : Nat → Nat) (Mp : Nat → Nat → Int32) (fc : Nat → Int32) (ff : Nat → Int32) (k0 : Nat) (k1 : Nat) (k2 : Nat) (k3 : Nat) (k4 : Nat) (a1 : Int32) (a2 : Int32) (a3 : Int32) (hvp : 0 ≤ vp.toInt ∧ vp.toInt ≤ 12) (hvn : 0 ≤ vn.toInt ∧ vn.toInt ≤ 40) (q1 : 0 ≤ a1.toInt ∧ a1.toInt < vp.toInt) (q2 : 0 ≤ a2.toInt ∧ a2.toInt < vp.toInt) (hne : a1.toInt ≠ a2.toInt) (hnc : netC vp.toInt vn.toInt fs fe) (hdc : netDC vn.toInt fs fe) (hmz : ∀ x y : Nat, x < vp.toNatClampNeg → y < vp.toNatClampNeg → 0 ≤ zM Mr x y ∧ zM Mr x y ≤ 160000000) (q3 : 1 ≤ a3.toInt ∧ a3.toInt ≤ 500) (hpr : prng fs fe 40) (r_ff : rng ff 12 (0) (11)) (r_fk : rng fk 40 (0) (4)) (r_fp : rng fp 40 (0) (100)) : Met l yX10_pay wsX10_pay ({ frames := 3, cells := 0, slots := 0, locals := 71 }) (va_Pc [.ref xw, .int a1, .int a2, .int a3] (fun U => U.heap.size = sz ∧ va_P D vwCl [ob10_0_ xw xc xk wpo wc wf, ob0_0_ xc xn xk clo cro c4 c5 c6 c7 c8, ob3_0_ xn vp vn n1 n2 n3 n4 n5, ai_ cy n1 40 fk, ai_ cy n2 40 fs, ai_ cy n3 40 fe, ai_ cy n5 40 fp, aq_ cy 6 cro 12 (gf_ rr), ai_ cy (rr 0) 12 (Mr 0), ai_ cy (rr 1) 12 (Mr 1), ai_ cy (rr 2) 12 (Mr 2), ai_ cy (rr 3) 12 (Mr 3), ai_ cy (rr 4) 12 (Mr 4), ai_ cy (rr 5) 12 (Mr 5), ai_ cy (rr 6) 12 (Mr 6), ai_ cy (rr 7) 12 (Mr 7), ai_ cy (rr 8) 12 (Mr 8), ai_ cy (rr 9) 12 (Mr 9), ai_ cy (rr 10) 12 (Mr 10), ai_ cy (rr 11) 12 (Mr 11), aq_ cy 6 wpo 12 (gf_ rp), ai_ cy (rp 0) 12 (Mp 0), ai_ cy (rp 1) 12 (Mp 1), ai_ cy (rp 2) 12 (Mp 2), ai_ cy (rp 3) 12 (Mp 3), ai_ cy (rp 4) 12 (Mp 4), ai_ cy (rp 5) 12 (Mp 5), ai_ cy (rp 6) 12 (Mp 6), ai_ cy (rp 7) 12 (Mp 7), ai_ cy (rp 8) 12 (Mp 8), ai_ cy (rp 9) 12 (Mp 9), ai_ cy (rp 10) 12 (Mp 10), ai_ cy (rp 11) 12 (Mp 11), ai_ cy wc 12 fc, ai_ cy wf 12 ff, aq_ cy 3 xk 5 (kf_ k0 k1 k2 k3 k4), ob6_0_ k0, ob5_0_ k1, ob9_0_ k2, ob2_0_ k3, ob8_0_ k4] U.heap ∧ kg_ D cy U ∧ va_D (fun _ => True) [ob10_0_ xw xc xk wpo wc wf, ob0_0_ xc xn xk clo cro c4 c5 c6 c7 c8, ob3_0_ xn vp vn n1 n2 n3 n4 n5, ai_ cy n1 40 fk, ai_ cy n2 40 fs, ai_ cy n3 40 fe, ai_ cy n5 40 fp, aq_ cy 6 cro 12 (gf_ rr), ai_ cy (rr 0) 12 (Mr 0), ai_ cy (rr 1) 12 (Mr 1), ai_ cy (rr 2) 12 (Mr 2), ai_ cy (rr 3) 12 (Mr 3), ai_ cy (rr 4) 12 (Mr 4), ai_ cy (rr 5) 12 (Mr 5), ai_ cy (rr 6) 12 (Mr 6), ai_ cy (rr 7) 12 (Mr 7), ai_ cy (rr 8) 12 (Mr 8), ai_ cy (rr 9) 12 (Mr 9), ai_ cy (rr 10) 12 (Mr 10), ai_ cy (rr 11) 12 (Mr 11), aq_ cy 6 wpo 12 (gf_ rp), ai_ cy (rp 0) 12 (Mp 0), ai_ cy (rp 1) 12 (Mp 1), ai_ cy (rp 2) 12 (Mp 2), ai_ cy (rp 3) 12 (Mp 3), ai_ cy (rp 4) 12 (Mp 4), ai_ cy (rp 5) 12 (Mp 5), ai_ cy (rp 6) 12 (Mp 6), ai_ cy (rp 7) 12 (Mp 7), ai_ cy (rp 8) 12 (Mp 8), ai_ cy (rp 9) 12 (Mp 9), ai_ cy (rp 10) 12 (Mp 10), ai_ cy (rp 11) 12 (Mp 11), ai_ cy wc 12 fc, ai_ cy wf 12 ff, aq_ cy 3 xk 5 (kf_ k0 k1 k2 k3 k4), ob6_0_ k0, ob5_0_ k1, ob9_0_ k2, ob2_0_ k3, ob8_0_ k4])) (va_Qi (fun (r : Int32) (_ : Unit) => (payR (zM Mr) (prM fk fs fe fp vp.toNatClampNeg vn.toNatClampNeg) vp.toNatClampNeg a1.toNatClampNeg a2.toNatClampNeg a3.toInt r.toInt)) (fun (_ : Unit) (t : State) => ∃ (eMr : Nat → Nat → Int32), ∃ (eMp : Nat → Nat → Int32), ∃ (ec : Nat → Int32), ∃ (ef : Nat → Int32), (rng ef 12 (0) (11)) ∧ va_P D vwCl [ob10_0_ xw xc xk wpo wc wf, ob0_0_ xc xn xk clo cro c4 c5 c6 c7 c8, ob3_0_ xn vp vn n1 n2 n3 n4 n5, ai_ cy n1 40 fk, ai_ cy n2 40 fs, ai_ cy n3 40 fe, ai_ cy n5 40 fp, aq_ cy 6 cro 12 (gf_ rr), ai_ cy (rr 0) 12 (eMr 0), ai_ cy (rr 1) 12 (eMr 1), ai_ cy (rr 2) 12 (eMr 2), ai_ cy (rr 3) 12 (eMr 3), ai_ cy (rr 4) 12 (eMr 4), ai_ cy (rr 5) 12 (eMr 5), ai_ cy (rr 6) 12 (eMr 6), ai_ cy (rr 7) 12 (eMr 7), ai_ cy (rr 8) 12 (eMr 8), ai_ cy (rr 9) 12 (eMr 9), ai_ cy (rr 10) 12 (eMr 10), ai_ cy (rr 11) 12 (eMr 11), aq_ cy 6 wpo 12 (gf_ rp), ai_ cy (rp 0) 12 (eMp 0), ai_ cy (rp 1) 12 (eMp 1), ai_ cy (rp 2) 12 (eMp 2), ai_ cy (rp 3) 12 (eMp 3), ai_ cy (rp 4) 12 (eMp 4), ai_ cy (rp 5) 12 (eMp 5), ai_ cy (rp 6) 12 (eMp 6), ai_ cy (rp 7) 12 (eMp 7), ai_ cy (rp 8) 12 (eMp 8), ai_ cy (rp 9) 12 (eMp 9), ai_ cy (rp 10) 12 (eMp 10), ai_ cy (rp 11) 12 (eMp 11), ai_ cy wc 12 ec, ai_ cy wf 12 ef, aq_ cy 3 xk 5 (kf_ k0 k1 k2 k3 k4), ob6_0_ k0, ob5_0_ k1, ob9_0_ k2, ob2_0_ k3, ob8_0_ k4] t.heap ∧ va_D (va_A [ob10_0_ xw xc xk wpo wc wf, ob0_0_ xc xn xk clo cro c4 c5 c6 c7 c8, ob3_0_ xn vp vn n1 n2 n3 n4 n5, ai_ cy n1 40 fk, ai_ cy n2 40 fs, ai_ cy n3 40 fe, ai_ cy n5 40 fp, aq_ cy 6 cro 12 (gf_ rr), ai_ cy (rr 0) 12 (Mr 0), ai_ cy (rr 1) 12 (Mr 1), ai_ cy (rr 2) 12 (Mr 2), ai_ cy (rr 3) 12 (Mr 3), ai_ cy (rr 4) 12 (Mr 4), ai_ cy (rr 5) 12 (Mr 5), ai_ cy (rr 6) 12 (Mr 6), ai_ cy (rr 7) 12 (Mr 7), ai_ cy (rr 8) 12 (Mr 8), ai_ cy (rr 9) 12 (Mr 9), ai_ cy (rr 10) 12 (Mr 10), ai_ cy (rr 11) 12 (Mr 11), aq_ cy 6 wpo 12 (gf_ rp), ai_ cy (rp 0) 12 (Mp 0), ai_ cy (rp 1) 12 (Mp 1), ai_ cy (rp 2) 12 (Mp 2), ai_ cy (rp 3) 12 (Mp 3), ai_ cy (rp 4) 12 (Mp 4), ai_ cy (rp 5) 12 (Mp 5), ai_ cy (rp 6) 12 (Mp 6), ai_ cy (rp 7) 12 (Mp 7), ai_ cy (rp 8) 12 (Mp 8), ai_ cy (rp 9) 12 (Mp 9), ai_ cy (rp 10) 12 (Mp 10), ai_ cy (rp 11) 12 (Mp 11), ai_ cy wc 12 fc, ai_ cy wf 12 ff, aq_ cy 3 xk 5 (kf_ k0 k1 k2 k3 k4), ob6_0_ k0, ob5_0_ k1, ob9_0_ k2, ob2_0_ k3, ob8_0_ k4] sz) [ob10_0_ xw xc xk wpo wc wf, ob0_0_ xc xn xk clo cro c4 c5 c6 c7 c8, ob3_0_ xn vp vn n1 n2 n3 n4 n5, ai_ cy n1 40 fk, ai_ cy n2 40 fs, ai_ cy n3 40 fe, ai_ cy n5 40 fp, aq_ cy 6 cro 12 (gf_ rr), ai_ cy (rr 0) 12 (eMr 0), ai_ cy (rr 1) 12 (eMr 1), ai_ cy (rr 2) 12 (eMr 2), ai_ cy (rr 3) 12 (eMr 3), ai_ cy (rr 4) 12 (eMr 4), ai_ cy (rr 5) 12 (eMr 5), ai_ cy (rr 6) 12 (eMr 6), ai_ cy (rr 7) 12 (eMr 7), ai_ cy (rr 8) 12 (eMr 8), ai_ cy (rr 9) 12 (eMr 9), ai_ cy (rr 10) 12 (eMr 10), ai_ cy (rr 11) 12 (eMr 11), aq_ cy 6 wpo 12 (gf_ rp), ai_ cy (rp 0) 12 (eMp 0), ai_ cy (rp 1) 12 (eMp 1), ai_ cy (rp 2) 12 (eMp 2), ai_ cy (rp 3) 12 (eMp 3), ai_ cy (rp 4) 12 (eMp 4), ai_ cy (rp 5) 12 (eMp 5), ai_ cy (rp 6) 12 (eMp 6), ai_ cy (rp 7) 12 (eMp 7), ai_ cy (rp 8) 12 (eMp 8), ai_ cy (rp 9) 12 (eMp 9), ai_ cy (rp 10) 12 (eMp 10), ai_ cy (rp 11) 12 (eMp 11), ai_ cy wc 12 ec, ai_ cy wf 12 ef, aq_ cy 3 xk 5 (kf_ k0 k1 k2 k3 k4), ob6_0_ k0, ob5_0_ k1, ob9_0_ k2, ob2_0_ k3, ob8_0_ k4]) (va_A [ob10_0_ xw xc xk wpo wc wf, ob0_0_ xc xn xk clo cro c4 c5 c6 c7 c8, ob3_0_ xn vp vn n1 n2 n3 n4 n5, ai_ cy n1 40 fk, ai_ cy n2 40 fs, ai_ cy n3 40 fe, ai_ cy n5 40 fp, aq_ cy 6 cro 12 (gf_ rr), ai_ cy (rr 0) 12 (Mr 0), ai_ cy (rr 1) 12 (Mr 1), ai_ cy (rr 2) 12 (Mr 2), ai_ cy (rr 3) 12 (Mr 3), ai_ cy (rr 4) 12 (Mr 4), ai_ cy (rr 5) 12 (Mr 5), ai_ cy (rr 6) 12 (Mr 6), ai_ cy (rr 7) 12 (Mr 7), ai_ cy (rr 8) 12 (Mr 8), ai_ cy (rr 9) 12 (Mr 9), ai_ cy (rr 10) 12 (Mr 10), ai_ cy (rr 11) 12 (Mr 11), aq_ cy 6 wpo 12 (gf_ rp), ai_ cy (rp 0) 12 (Mp 0), ai_ cy (rp 1) 12 (Mp 1), ai_ cy (rp 2) 12 (Mp 2), ai_ cy (rp 3) 12 (Mp 3), ai_ cy (rp 4) 12 (Mp 4), ai_ cy (rp 5) 12 (Mp 5), ai_ cy (rp 6) 12 (Mp 6), ai_ cy (rp 7) 12 (Mp 7), ai_ cy (rp 8) 12 (Mp 8), ai_ cy (rp 9) 12 (Mp 9), ai_ cy (rp 10) 12 (Mp 10), ai_ cy (rp 11) 12 (Mp 11), ai_ cy wc 12 fc, ai_ cy wf 12 ff, aq_ cy 3 xk 5 (kf_ k0 k1 k2 k3 k4), ob6_0_ k0, ob5_0_ k1, ob9_0_ k2, ob2_0_ k3, ob8_0_ k4] sz)) 0 0 (va_A [ob10_0_ xw xc xk wpo wc wf, ob0_0_ xc xn xk clo cro c4 c5 c6 c7 c8, ob3_0_ xn vp vn n1 n2 n3 n4 n5, ai_ cy n1 40 fk, ai_ cy n2 40 fs, ai_ cy n3 40 fe, ai_ cy n5 40 fp, aq_ cy 6 cro 12 (gf_ rr), ai_ cy (rr 0) 12 (Mr 0), ai_ cy (rr 1) 12 (Mr 1), ai_ cy (rr 2) 12 (Mr 2), ai_ cy (rr 3) 12 (Mr 3), ai_ cy (rr 4) 12 (Mr 4), ai_ cy (rr 5) 12 (Mr 5), ai_ cy (rr 6) 12 (Mr 6), ai_ cy (rr 7) 12 (Mr 7), ai_ cy (rr 8) 12 (Mr 8), ai_ cy (rr 9) 12 (Mr 9), ai_ cy (rr 10) 12 (Mr 10), ai_ cy (rr 11) 12 (Mr 11), aq_ cy 6 wpo 12 (gf_ rp), ai_ cy (rp 0) 12 (Mp 0), ai_ cy (rp 1) 12 (Mp 1), ai_ cy (rp 2) 12 (Mp 2), ai_ cy (rp 3) 12 (Mp 3), ai_ cy (rp 4) 12 (Mp 4), ai_ cy (rp 5) 12 (Mp 5), ai_ cy (rp 6) 12 (Mp 6), ai_ cy (rp 7) 12 (Mp 7), ai_ cy (rp 8) 12 (Mp 8), ai_ cy (rp 9) 12 (Mp 9), ai_ cy (rp 10) 12 (Mp 10), ai_ cy (rp 11) 12 (Mp 11), ai_ cy wc 12 fc, ai_ cy wf 12 ff, aq_ cy 3 xk 5 (kf_ k0 k1 k2 k3 k4), ob6_0_ k0, ob5_0_ k1, ob9_0_ k2, ob2_0_ k3, ob8_0_ k4] sz) := by
  refine ofQ (cc := cX10_pay) (maxL := 8) (ret := (some .int)) (by decide) rfl ?_
  intro p e s m args below meth c s₁ Q hQ B hml hv
  obtain ⟨rfl, hsz, hP, hK, hD0⟩ := hv
  have hG := hK.2
  have hK := hK.1
  have hx := B.exec
  have hb := B.bytes
  have hr := B.returns
  have hts := atoms_spec (ws := wsX10_pay) B.pre
  have hown : s.vm.findClass RX10 = some m.cls := by have h_ := findClass_of_methodNamed B.named; exact h_
  have hlocks := B.notSynchronized
  subst hsz
  have hD := hD0.self (sz := s.heap.size)
  generalize hAe : va_A [ob10_0_ xw xc xk wpo wc wf, ob0_0_ xc xn xk clo cro c4 c5 c6 c7 c8, ob3_0_ xn vp vn n1 n2 n3 n4 n5, ai_ cy n1 40 fk, ai_ cy n2 40 fs, ai_ cy n3 40 fe, ai_ cy n5 40 fp, aq_ cy 6 cro 12 (gf_ rr), ai_ cy (rr 0) 12 (Mr 0), ai_ cy (rr 1) 12 (Mr 1), ai_ cy (rr 2) 12 (Mr 2), ai_ cy (rr 3) 12 (Mr 3), ai_ cy (rr 4) 12 (Mr 4), ai_ cy (rr 5) 12 (Mr 5), ai_ cy (rr 6) 12 (Mr 6), ai_ cy (rr 7) 12 (Mr 7), ai_ cy (rr 8) 12 (Mr 8), ai_ cy (rr 9) 12 (Mr 9), ai_ cy (rr 10) 12 (Mr 10), ai_ cy (rr 11) 12 (Mr 11), aq_ cy 6 wpo 12 (gf_ rp), ai_ cy (rp 0) 12 (Mp 0), ai_ cy (rp 1) 12 (Mp 1), ai_ cy (rp 2) 12 (Mp 2), ai_ cy (rp 3) 12 (Mp 3), ai_ cy (rp 4) 12 (Mp 4), ai_ cy (rp 5) 12 (Mp 5), ai_ cy (rp 6) 12 (Mp 6), ai_ cy (rp 7) 12 (Mp 7), ai_ cy (rp 8) 12 (Mp 8), ai_ cy (rp 9) 12 (Mp 9), ai_ cy (rp 10) 12 (Mp 10), ai_ cy (rp 11) 12 (Mp 11), ai_ cy wc 12 fc, ai_ cy wf 12 ff, aq_ cy 3 xk 5 (kf_ k0 k1 k2 k3 k4), ob6_0_ k0, ob5_0_ k1, ob9_0_ k2, ob2_0_ k3, ob8_0_ k4] s.heap.size = A at hD hQ
  have hA : ∀ q : Nat, s.heap.size ≤ q → A q := fun q h => by rw [← hAe]; exact Or.inr h
  have hS : va_S A s.heap s.heap [] := va_S.rf
  have hl := lv_entry ([.ref xw, .int a1, .int a2, .int a3]) (n := 8) (Nat.le_of_ble_eq_true rfl)
  rw [lg_entry_eq]
  generalize (lg_sl ([.ref xw, .int a1, .int a2, .int a3]) ++ List.replicate (8 - (lg_sl ([.ref xw, .int a1, .int a2, .int a3])).length) Slot.unset).toArray = ls at hl ⊢
  have hl : lv_has ls 8 [(0, .ref xw), (1, .int a1), (2, .int a2), (3, .int a3)] := hl
  have zm9 : ((-9) : Int32).toInt = -9 := by decide
  have z0 : (0 : Int32).toInt = 0 := by decide
  have z1 : (1 : Int32).toInt = 1 := by decide
  have z500 : (500 : Int32).toInt = 500 := by decide
  have z1000000000 : (1000000000 : Int32).toInt = 1000000000 := by decide
  have zq0 : (0 : Int32).toInt = 0 := by decide
  have zq1 : (1 : Int32).toInt = 1 := by decide
  have zqv : (1000000000 : Int32).toInt = 1000000000 := by decide
  have c1_ : a1.toNatClampNeg < vp.toNatClampNeg := nc_lt (by omega) (by omega)
  have c2_ : a2.toNatClampNeg < vp.toNatClampNeg := nc_lt (by omega) (by omega)
  have cP_ := clI (i := vp) (by omega)
  have cN_ := clI (i := vn) (by omega)
  refine lv_aload_n hx hb dB_36_2_14.1.1.1.1 rfl (lv_at hl 0 rfl) ?_
  refine ct_S hP hD hS hA [ob10_0_ xw xc xk wpo wc wf, ob0_0_ xc xn xk clo cro c4 c5 c6 c7 c8, ob3_0_ xn vp vn n1 n2 n3 n4 n5, ai_ cy n1 40 fk, ai_ cy n2 40 fs, ai_ cy n3 40 fe, ai_ cy n5 40 fp, aq_ cy 6 wpo 12 (gf_ rp), ai_ cy (rp 0) 12 (Mp 0), ai_ cy (rp 1) 12 (Mp 1), ai_ cy (rp 2) 12 (Mp 2), ai_ cy (rp 3) 12 (Mp 3), ai_ cy (rp 4) 12 (Mp 4), ai_ cy (rp 5) 12 (Mp 5), ai_ cy (rp 6) 12 (Mp 6), ai_ cy (rp 7) 12 (Mp 7), ai_ cy (rp 8) 12 (Mp 8), ai_ cy (rp 9) 12 (Mp 9), ai_ cy (rp 10) 12 (Mp 10), ai_ cy (rp 11) 12 (Mp 11), aq_ cy 3 xk 5 (kf_ k0 k1 k2 k3 k4), ob6_0_ k0, ob5_0_ k1, ob9_0_ k2, ob2_0_ k3, ob8_0_ k4] [0, 1, 2, 3, 4, 5, 6, 20, 21, 22, 23, 24, 25, 26, 27, 28, 29, 30, 31, 32, 35, 36, 37, 38, 39, 40] (by decide +kernel) rfl (fun hPc hDw hFc hC_ => ?_)
  refine va_callv (va_runV (As := []) (rest := []) ⟨hx, hb, hml, hown, hts⟩ (c_X10_findPrices2 l D cy s.heap.size xw wpo wc wf xc xk clo cro c4 c5 c6 c7 c8 xn n1 n2 n3 n4 n5 vp vn fk fs fe fp rp Mp k0 k1 k2 k3 k4 (by first | with_reducible assumption | omega | assumption) (by first | with_reducible assumption | omega | assumption) (by first | with_reducible assumption | assumption | omega) (by first | with_reducible assumption | assumption | omega) (by first | with_reducible assumption | assumption | omega) (by first | with_reducible assumption | assumption | omega) (by first | with_reducible assumption | assumption | omega)) (cwV 0 hts gX10_pay_X10_findPrices rfl rfl rfl ⟨rfl, hd_X10_findPrices⟩ ⟨Nat.le_of_ble_eq_true rfl, Nat.le_of_ble_eq_true rfl⟩) ⟨bl_g, va_recvX hK.1 hP (ci := 10) (q0 := 0) rfl rfl, fun U hU hW => ⟨rfl, by rw [hU], by rw [hU]; exact hPc, ⟨kk_mv hW hK, arrOfT_moved hW.alike hG⟩, hDw⟩⟩ rfl rfl hl.1 rfl (lv_room (Nat.le_of_ble_eq_true rfl)) dB_36_2_14.1.1.1.2 ⟨Nat.le_of_ble_eq_true rfl, Nat.le_of_ble_eq_true rfl⟩) hS (fun q _ h => hFc q h) hFc (fun u t H locs ht hvm hw hB hz1 hk1 hS => ?_)
  obtain ⟨eMp_2, g_3, hP1, hD1⟩ := hB
  rw [ht] at hP1
  obtain ⟨hP, hD⟩ := va_join (wr := [aq_ cy 6 cro 12 (gf_ rr), ai_ cy (rr 0) 12 (Mr 0), ai_ cy (rr 1) 12 (Mr 1), ai_ cy (rr 2) 12 (Mr 2), ai_ cy (rr 3) 12 (Mr 3), ai_ cy (rr 4) 12 (Mr 4), ai_ cy (rr 5) 12 (Mr 5), ai_ cy (rr 6) 12 (Mr 6), ai_ cy (rr 7) 12 (Mr 7), ai_ cy (rr 8) 12 (Mr 8), ai_ cy (rr 9) 12 (Mr 9), ai_ cy (rr 10) 12 (Mr 10), ai_ cy (rr 11) 12 (Mr 11), ai_ cy wc 12 fc, ai_ cy wf 12 ff]) (w1 := [ob10_0_ xw xc xk wpo wc wf, ob0_0_ xc xn xk clo cro c4 c5 c6 c7 c8, ob3_0_ xn vp vn n1 n2 n3 n4 n5, ai_ cy n1 40 fk, ai_ cy n2 40 fs, ai_ cy n3 40 fe, ai_ cy n5 40 fp, aq_ cy 6 wpo 12 (gf_ rp), ai_ cy (rp 0) 12 (eMp_2 0), ai_ cy (rp 1) 12 (eMp_2 1), ai_ cy (rp 2) 12 (eMp_2 2), ai_ cy (rp 3) 12 (eMp_2 3), ai_ cy (rp 4) 12 (eMp_2 4), ai_ cy (rp 5) 12 (eMp_2 5), ai_ cy (rp 6) 12 (eMp_2 6), ai_ cy (rp 7) 12 (eMp_2 7), ai_ cy (rp 8) 12 (eMp_2 8), ai_ cy (rp 9) 12 (eMp_2 9), ai_ cy (rp 10) 12 (eMp_2 10), ai_ cy (rp 11) 12 (eMp_2 11), aq_ cy 3 xk 5 (kf_ k0 k1 k2 k3 k4), ob6_0_ k0, ob5_0_ k1, ob9_0_ k2, ob2_0_ k3, ob8_0_ k4]) hP hD [0, 1, 2, 3, 4, 5, 6, 20, 21, 22, 23, 24, 25, 26, 27, 28, 29, 30, 31, 32, 35, 36, 37, 38, 39, 40] [7, 8, 9, 10, 11, 12, 13, 14, 15, 16, 17, 18, 19, 33, 34] hC_ rfl (by decide +kernel) (by decide +kernel) hk1 hFc hP1 hD1
  refine pd_S hP hD [ob10_0_ xw xc xk wpo wc wf, ob0_0_ xc xn xk clo cro c4 c5 c6 c7 c8, ob3_0_ xn vp vn n1 n2 n3 n4 n5, ai_ cy n1 40 fk, ai_ cy n2 40 fs, ai_ cy n3 40 fe, ai_ cy n5 40 fp, aq_ cy 6 cro 12 (gf_ rr), ai_ cy (rr 0) 12 (Mr 0), ai_ cy (rr 1) 12 (Mr 1), ai_ cy (rr 2) 12 (Mr 2), ai_ cy (rr 3) 12 (Mr 3), ai_ cy (rr 4) 12 (Mr 4), ai_ cy (rr 5) 12 (Mr 5), ai_ cy (rr 6) 12 (Mr 6), ai_ cy (rr 7) 12 (Mr 7), ai_ cy (rr 8) 12 (Mr 8), ai_ cy (rr 9) 12 (Mr 9), ai_ cy (rr 10) 12 (Mr 10), ai_ cy (rr 11) 12 (Mr 11), aq_ cy 6 wpo 12 (gf_ rp), ai_ cy (rp 0) 12 (eMp_2 0), ai_ cy (rp 1) 12 (eMp_2 1), ai_ cy (rp 2) 12 (eMp_2 2), ai_ cy (rp 3) 12 (eMp_2 3), ai_ cy (rp 4) 12 (eMp_2 4), ai_ cy (rp 5) 12 (eMp_2 5), ai_ cy (rp 6) 12 (eMp_2 6), ai_ cy (rp 7) 12 (eMp_2 7), ai_ cy (rp 8) 12 (eMp_2 8), ai_ cy (rp 9) 12 (eMp_2 9), ai_ cy (rp 10) 12 (eMp_2 10), ai_ cy (rp 11) 12 (eMp_2 11), ai_ cy wc 12 fc, ai_ cy wf 12 ff, aq_ cy 3 xk 5 (kf_ k0 k1 k2 k3 k4), ob6_0_ k0, ob5_0_ k1, ob9_0_ k2, ob2_0_ k3, ob8_0_ k4] [15, 16, 17, 18, 19, 20, 21, 0, 1, 2, 3, 4, 5, 6, 7, 8, 9, 10, 11, 12, 22, 23, 24, 25, 26, 27, 28, 29, 30, 31, 32, 33, 34, 13, 14, 35, 36, 37, 38, 39, 40] (by decide +kernel) rfl (fun hP hD => ?_)
  have hprm_ := g_3
  have hok0_ := okM_0 hprm_ r_fp (by omega) (fun x y hx hy => (hmz x y hx hy).1)
  have hpo0_ := potC_0 hok0_ (fun x y hx hy => (hmz x y hx hy).1)
  refine lv_iload_n hx hb dB_36_2_14.1.1.2.1 rfl (lv_at hl 3 rfl) ?_
  refine lv_istore (lv' := [(4, .int a3), (0, .ref xw), (1, .int a1), (2, .int a2), (3, .int a3)]) hx hb dB_36_2_14.1.1.2.2 hl (by decide) rfl (fun ls hl => ?_)
  refine lv_iconst (v := 0) hx hb dB_36_2_14.1.2.1.1 (by decide) ?_
  refine lv_istore (lv' := [(5, .int 0), (4, .int a3), (0, .ref xw), (1, .int a1), (2, .int a2), (3, .int a3)]) hx hb dB_36_2_14.1.2.1.2 hl (by decide) rfl (fun ls hl => ?_)
  refine lv_iconst (v := 0) hx hb dB_36_2_14.1.2.2.1 (by decide) ?_
  refine lv_istore (lv' := [(6, .int 0), (5, .int 0), (4, .int a3), (0, .ref xw), (1, .int a1), (2, .int a2), (3, .int a3)]) hx hb dB_36_2_14.1.2.2.2 hl (by decide) rfl (fun ls hl => ?_)
  suffices LOOP_4 : ∀ (n_4 : Nat) (x6_4 : Int32) (x5_4 : Int32) (x4_4 : Int32) (m_rr_4 : Nat → Nat → Int32) (c_wc_4 : Nat → Int32) (c_wf_4 : Nat → Int32) (H : Heap) (locs : List Loc) (ls : Array Slot), 500 - x6_4.toInt < (n_4 : Int) → (0 ≤ x6_4.toInt) → (x6_4.toInt ≤ 500) → (0 ≤ x4_4.toInt ∧ x4_4.toInt + x6_4.toInt ≤ a3.toInt) → (okM (zM m_rr_4) (zM eMp_2) vp.toNatClampNeg) → (∃ pi : Nat → Int, potC (zM m_rr_4) (zM eMp_2) vp.toNatClampNeg pi) → (cnZ (zM Mr) (zM m_rr_4) vp.toNatClampNeg a1.toNatClampNeg a2.toNatClampNeg (a3.toInt - x4_4.toInt)) → (x5_4.toInt = cPZ (zM m_rr_4) (zM eMp_2) vp.toNatClampNeg) → (∀ x y : Nat, x < vp.toNatClampNeg → y < vp.toNatClampNeg → -(6000 * (a3.toInt - x4_4.toInt)) ≤ zM m_rr_4 x y ∧ zM m_rr_4 x y ≤ 160000000 + 6000 * (a3.toInt - x4_4.toInt)) → (-(1212 * (a3.toInt - x4_4.toInt)) ≤ x5_4.toInt ∧ x5_4.toInt ≤ 1212 * (a3.toInt - x4_4.toInt)) → (rng c_wf_4 12 (0) (11)) → pd_2 D vwCl A [ob10_0_ xw xc xk wpo wc wf, ob0_0_ xc xn xk clo cro c4 c5 c6 c7 c8, ob3_0_ xn vp vn n1 n2 n3 n4 n5, ai_ cy n1 40 fk, ai_ cy n2 40 fs, ai_ cy n3 40 fe, ai_ cy n5 40 fp, aq_ cy 6 cro 12 (gf_ rr), ai_ cy (rr 0) 12 (m_rr_4 0), ai_ cy (rr 1) 12 (m_rr_4 1), ai_ cy (rr 2) 12 (m_rr_4 2), ai_ cy (rr 3) 12 (m_rr_4 3), ai_ cy (rr 4) 12 (m_rr_4 4), ai_ cy (rr 5) 12 (m_rr_4 5), ai_ cy (rr 6) 12 (m_rr_4 6), ai_ cy (rr 7) 12 (m_rr_4 7), ai_ cy (rr 8) 12 (m_rr_4 8), ai_ cy (rr 9) 12 (m_rr_4 9), ai_ cy (rr 10) 12 (m_rr_4 10), ai_ cy (rr 11) 12 (m_rr_4 11), aq_ cy 6 wpo 12 (gf_ rp), ai_ cy (rp 0) 12 (eMp_2 0), ai_ cy (rp 1) 12 (eMp_2 1), ai_ cy (rp 2) 12 (eMp_2 2), ai_ cy (rp 3) 12 (eMp_2 3), ai_ cy (rp 4) 12 (eMp_2 4), ai_ cy (rp 5) 12 (eMp_2 5), ai_ cy (rp 6) 12 (eMp_2 6), ai_ cy (rp 7) 12 (eMp_2 7), ai_ cy (rp 8) 12 (eMp_2 8), ai_ cy (rp 9) 12 (eMp_2 9), ai_ cy (rp 10) 12 (eMp_2 10), ai_ cy (rp 11) 12 (eMp_2 11), ai_ cy wc 12 c_wc_4, ai_ cy wf 12 c_wf_4, aq_ cy 3 xk 5 (kf_ k0 k1 k2 k3 k4), ob6_0_ k0, ob5_0_ k1, ob9_0_ k2, ob2_0_ k3, ob8_0_ k4] H → va_S A s.heap H locs → lv_has ls 8 [(6, .int x6_4), (5, .int x5_4), (4, .int x4_4), (0, .ref xw), (1, .int a1), (2, .int a2), (3, .int a3)] → W p l e ({ frames := 3, cells := 0, slots := 0, locals := 71 } : Room) s m (([.ref xw, .int a1, .int a2, .int a3] : List Value).toArray) below meth c H locs 0 0 Q (F0 m 13 ls []) from LOOP_4 ((500 - (0 : Int32).toInt).toNat + 1) (0 : Int32) (0 : Int32) a3 Mr fc ff _ _ _ (by omega) (by first | with_reducible assumption | omega | assumption) (by first | with_reducible assumption | omega | assumption) (by first | with_reducible assumption | omega | assumption) (by first | exact hok0_ | exact hps_.1) (by first | exact ⟨_, hpo0_⟩ | exact hps_.2.1) (by first | (rw [Int.sub_self]; exact cnZ_0) | (rw [show a3.toInt - a3.toInt = a3.toInt - S[l4].toInt + S[am].toInt by omega]; exact hps_.2.2.1)) (by first | exact (cPZ_0 (fun x y hx hy => (hmz x y hx hy).1)).symm | (rw [hps_.2.2.2]; omega)) (by first | (intro x y hx hy; have h_ := hmz x y hx hy; omega) | (intro x y hx hy; have h_ := v_none x y hx hy; have g_ := hmw2_ x y; omega)) (by first | omega) (by first | with_reducible assumption | assumption | exact rng_zero (by omega) (by omega) | exact orng_zero) ⟨hP, hD⟩ hS (lv_sub hl [0, 1, 2, 3, 4, 5, 6] rfl)
  intro n_4
  induction n_4 with
  | zero =>
    intro x6_4 x5_4 x4_4 m_rr_4 c_wc_4 c_wf_4 H locs ls hm v0_4 v1_4 v2_4 v3_4 v4_4 v5_4 v6_4 v7_4 v8_4 rc_wf_4 hPD hS hl; obtain ⟨hP, hD⟩ := hPD
    exact absurd hm (by omega)
  | succ n_4 ih_4 =>
    intro x6_4 x5_4 x4_4 m_rr_4 c_wc_4 c_wf_4 H locs ls hm v0_4 v1_4 v2_4 v3_4 v4_4 v5_4 v6_4 v7_4 v8_4 rc_wf_4 hPD hS hl; obtain ⟨hP, hD⟩ := hPD
    refine lv_iload hx hb dB_36_2_14.2.1.1.1 (lv_at hl 0 rfl) ?_
    refine lv_sipush (v := 500) hx hb dB_36_2_14.2.1.1.2 (by decide) ?_
    refine lv_icmp_ge (tgt := 90) hx hb dB_36_2_14.2.1.2.1 (by decide) (fun c_5 => ?_) (fun c_5 => ?_)
    · have t_5 : (500 : Int32).toInt ≤ x6_4.toInt := Int32.le_iff_toInt_le.mp c_5
      refine lv_iload hx hb dB_36_2_17.2.1 (lv_at hl 1 rfl) ?_
      rw [hQ]
      exact W.iret (v := x5_4) hx hb hr (fun t ht hW => ⟨⟨x5_4, (), rfl, (⟨_, hprm_, Or.inr ⟨_, by have h_ := v5_4; rw [show a3.toInt - x4_4.toInt = a3.toInt by omega] at h_; exact h_, v3_4, v4_4, v6_4⟩⟩), m_rr_4, eMp_2, c_wc_4, c_wf_4, (by first | with_reducible assumption | assumption | exact rng_zero (by omega) (by omega) | omega), by rw [ht]; exact hP, hD⟩, hS.F ht⟩) hS.2.2 dB_36_2_17.2.2
    · have t_5 : ¬ (500 : Int32).toInt ≤ x6_4.toInt := fun h => c_5 (Int32.le_iff_toInt_le.mpr h)
      refine lv_iload hx hb dB_36_2_14.2.1.2.2 (lv_at hl 2 rfl) ?_
      refine lv_if_le (tgt := 90) hx hb dB_36_2_14.2.2.1.1 (by decide) (fun c_6 => ?_) (fun c_6 => ?_)
      · have t_6 : x4_4.toInt ≤ (0 : Int32).toInt := Int32.le_iff_toInt_le.mp c_6
        refine lv_iload hx hb dB_36_2_17.2.1 (lv_at hl 1 rfl) ?_
        rw [hQ]
        exact W.iret (v := x5_4) hx hb hr (fun t ht hW => ⟨⟨x5_4, (), rfl, (⟨_, hprm_, Or.inr ⟨_, by have h_ := v5_4; rw [show a3.toInt - x4_4.toInt = a3.toInt by omega] at h_; exact h_, v3_4, v4_4, v6_4⟩⟩), m_rr_4, eMp_2, c_wc_4, c_wf_4, (by first | with_reducible assumption | assumption | exact rng_zero (by omega) (by omega) | omega), by rw [ht]; exact hP, hD⟩, hS.F ht⟩) hS.2.2 dB_36_2_17.2.2
      · have t_6 : ¬ x4_4.toInt ≤ (0 : Int32).toInt := fun h => c_6 (Int32.le_iff_toInt_le.mpr h)
        have hok_ := v3_4
        have hpo_ := v4_4
        refine lv_aload_n hx hb dB_36_2_14.2.2.1.2 rfl (lv_at hl 3 rfl) ?_
        refine lv_iload_n hx hb dB_36_2_14.2.2.2.1 rfl (lv_at hl 4 rfl) ?_
        refine ct_S hP hD hS hA [ob10_0_ xw xc xk wpo wc wf, ob0_0_ xc xn xk clo cro c4 c5 c6 c7 c8, ob3_0_ xn vp vn n1 n2 n3 n4 n5, aq_ cy 6 cro 12 (gf_ rr), ai_ cy (rr 0) 12 (m_rr_4 0), ai_ cy (rr 1) 12 (m_rr_4 1), ai_ cy (rr 2) 12 (m_rr_4 2), ai_ cy (rr 3) 12 (m_rr_4 3), ai_ cy (rr 4) 12 (m_rr_4 4), ai_ cy (rr 5) 12 (m_rr_4 5), ai_ cy (rr 6) 12 (m_rr_4 6), ai_ cy (rr 7) 12 (m_rr_4 7), ai_ cy (rr 8) 12 (m_rr_4 8), ai_ cy (rr 9) 12 (m_rr_4 9), ai_ cy (rr 10) 12 (m_rr_4 10), ai_ cy (rr 11) 12 (m_rr_4 11), aq_ cy 6 wpo 12 (gf_ rp), ai_ cy (rp 0) 12 (eMp_2 0), ai_ cy (rp 1) 12 (eMp_2 1), ai_ cy (rp 2) 12 (eMp_2 2), ai_ cy (rp 3) 12 (eMp_2 3), ai_ cy (rp 4) 12 (eMp_2 4), ai_ cy (rp 5) 12 (eMp_2 5), ai_ cy (rp 6) 12 (eMp_2 6), ai_ cy (rp 7) 12 (eMp_2 7), ai_ cy (rp 8) 12 (eMp_2 8), ai_ cy (rp 9) 12 (eMp_2 9), ai_ cy (rp 10) 12 (eMp_2 10), ai_ cy (rp 11) 12 (eMp_2 11), ai_ cy wc 12 c_wc_4, ai_ cy wf 12 c_wf_4] [0, 1, 2, 7, 8, 9, 10, 11, 12, 13, 14, 15, 16, 17, 18, 19, 20, 21, 22, 23, 24, 25, 26, 27, 28, 29, 30, 31, 32, 33, 34] (by decide +kernel) rfl (fun hPc hDw hFc hC_ => ?_)
        refine va_callv (va_runV (As := [.int a1]) (rest := []) ⟨hx, hb, hml, hown, hts⟩ (c_X10_findCosts2 l D cy H.size xw wpo wc wf xc xk clo cro c4 c5 c6 c7 c8 xn n1 n2 n3 n4 n5 vp vn rr m_rr_4 rp eMp_2 c_wc_4 c_wf_4 a1 (by first | with_reducible assumption | omega | assumption) (by first | with_reducible assumption | omega | assumption) (by first | with_reducible assumption | assumption | omega) (by first | with_reducible assumption | assumption | omega) (by first | with_reducible assumption | assumption | omega)) (cwV 1 hts gX10_pay_X10_findCosts rfl rfl rfl ⟨rfl, hd_X10_findCosts⟩ ⟨Nat.le_of_ble_eq_true rfl, Nat.le_of_ble_eq_true rfl⟩) ⟨bl_g, va_recvX hK.1 hP (ci := 10) (q0 := 0) rfl rfl, fun U hU hW => ⟨rfl, by rw [hU], by rw [hU]; exact hPc, ⟨kk_mv hW hK, arrOfT_moved hW.alike hG⟩, hDw⟩⟩ rfl rfl hl.1 rfl (lv_room (Nat.le_of_ble_eq_true rfl)) dB_36_2_14.2.2.2.2 ⟨Nat.le_of_ble_eq_true rfl, Nat.le_of_ble_eq_true rfl⟩) hS (fun q _ h => hFc q h) hFc (fun u t H locs ht hvm hw hB hz1 hk1 hS => ?_)
        obtain ⟨ec_8, ef_9, g_10, g_11, g_12, hP1, hD1⟩ := hB
        rw [ht] at hP1
        obtain ⟨hP, hD⟩ := va_join (wr := [ai_ cy n1 40 fk, ai_ cy n2 40 fs, ai_ cy n3 40 fe, ai_ cy n5 40 fp, aq_ cy 3 xk 5 (kf_ k0 k1 k2 k3 k4), ob6_0_ k0, ob5_0_ k1, ob9_0_ k2, ob2_0_ k3, ob8_0_ k4]) (w1 := [ob10_0_ xw xc xk wpo wc wf, ob0_0_ xc xn xk clo cro c4 c5 c6 c7 c8, ob3_0_ xn vp vn n1 n2 n3 n4 n5, aq_ cy 6 cro 12 (gf_ rr), ai_ cy (rr 0) 12 (m_rr_4 0), ai_ cy (rr 1) 12 (m_rr_4 1), ai_ cy (rr 2) 12 (m_rr_4 2), ai_ cy (rr 3) 12 (m_rr_4 3), ai_ cy (rr 4) 12 (m_rr_4 4), ai_ cy (rr 5) 12 (m_rr_4 5), ai_ cy (rr 6) 12 (m_rr_4 6), ai_ cy (rr 7) 12 (m_rr_4 7), ai_ cy (rr 8) 12 (m_rr_4 8), ai_ cy (rr 9) 12 (m_rr_4 9), ai_ cy (rr 10) 12 (m_rr_4 10), ai_ cy (rr 11) 12 (m_rr_4 11), aq_ cy 6 wpo 12 (gf_ rp), ai_ cy (rp 0) 12 (eMp_2 0), ai_ cy (rp 1) 12 (eMp_2 1), ai_ cy (rp 2) 12 (eMp_2 2), ai_ cy (rp 3) 12 (eMp_2 3), ai_ cy (rp 4) 12 (eMp_2 4), ai_ cy (rp 5) 12 (eMp_2 5), ai_ cy (rp 6) 12 (eMp_2 6), ai_ cy (rp 7) 12 (eMp_2 7), ai_ cy (rp 8) 12 (eMp_2 8), ai_ cy (rp 9) 12 (eMp_2 9), ai_ cy (rp 10) 12 (eMp_2 10), ai_ cy (rp 11) 12 (eMp_2 11), ai_ cy wc 12 ec_8, ai_ cy wf 12 ef_9]) hP hD [0, 1, 2, 7, 8, 9, 10, 11, 12, 13, 14, 15, 16, 17, 18, 19, 20, 21, 22, 23, 24, 25, 26, 27, 28, 29, 30, 31, 32, 33, 34] [3, 4, 5, 6, 35, 36, 37, 38, 39, 40] hC_ rfl (by decide) (by decide) hk1 hFc hP1 hD1
        refine pd_S hP hD [ob10_0_ xw xc xk wpo wc wf, ob0_0_ xc xn xk clo cro c4 c5 c6 c7 c8, ob3_0_ xn vp vn n1 n2 n3 n4 n5, ai_ cy n1 40 fk, ai_ cy n2 40 fs, ai_ cy n3 40 fe, ai_ cy n5 40 fp, aq_ cy 6 cro 12 (gf_ rr), ai_ cy (rr 0) 12 (m_rr_4 0), ai_ cy (rr 1) 12 (m_rr_4 1), ai_ cy (rr 2) 12 (m_rr_4 2), ai_ cy (rr 3) 12 (m_rr_4 3), ai_ cy (rr 4) 12 (m_rr_4 4), ai_ cy (rr 5) 12 (m_rr_4 5), ai_ cy (rr 6) 12 (m_rr_4 6), ai_ cy (rr 7) 12 (m_rr_4 7), ai_ cy (rr 8) 12 (m_rr_4 8), ai_ cy (rr 9) 12 (m_rr_4 9), ai_ cy (rr 10) 12 (m_rr_4 10), ai_ cy (rr 11) 12 (m_rr_4 11), aq_ cy 6 wpo 12 (gf_ rp), ai_ cy (rp 0) 12 (eMp_2 0), ai_ cy (rp 1) 12 (eMp_2 1), ai_ cy (rp 2) 12 (eMp_2 2), ai_ cy (rp 3) 12 (eMp_2 3), ai_ cy (rp 4) 12 (eMp_2 4), ai_ cy (rp 5) 12 (eMp_2 5), ai_ cy (rp 6) 12 (eMp_2 6), ai_ cy (rp 7) 12 (eMp_2 7), ai_ cy (rp 8) 12 (eMp_2 8), ai_ cy (rp 9) 12 (eMp_2 9), ai_ cy (rp 10) 12 (eMp_2 10), ai_ cy (rp 11) 12 (eMp_2 11), ai_ cy wc 12 ec_8, ai_ cy wf 12 ef_9, aq_ cy 3 xk 5 (kf_ k0 k1 k2 k3 k4), ob6_0_ k0, ob5_0_ k1, ob9_0_ k2, ob2_0_ k3, ob8_0_ k4] [10, 11, 12, 0, 1, 2, 3, 13, 14, 15, 16, 17, 18, 19, 20, 21, 22, 23, 24, 25, 26, 27, 28, 29, 30, 31, 32, 33, 34, 35, 36, 37, 38, 39, 40, 4, 5, 6, 7, 8, 9] (by decide +kernel) rfl (fun hP hD => ?_)
        have hz_ := g_10
        have hlo_ := g_11 _ c2_
        refine lv_aload_n hx hb dB_36_2_15.1.1.1.1 rfl (lv_at hl 3 rfl) ?_
        refine va_get (ci := 10) (v := .ref wc) (C := RX10) (T := TX10) (N := 5) hx hb hts (fun _ h => List.mem_cons_of_mem _ (List.mem_append_left _ (List.mem_append_left _ (List.mem_append_right _ h)))) hown hK.1 hP 0 rfl rfl 3 (by decide) (hts (.fieldLink RX10 16 "CutAtlas$Widening" "costs" "[I") (List.mem_of_getElem? (i := 1) rfl)) (fun _ h9 => h9) rfl dB_36_2_15.1.1.1.2 ?_
        refine lv_iload_n hx hb dB_36_2_15.1.1.2.1 rfl (lv_at hl 5 rfl) ?_
        have h_13 : vp_in a2 12 := in_I (by first | with_reducible assumption | omega) (by omega)
        refine va_iald hx hb hK.1 hP 33 0 rfl rfl (i := a2) h_13 dB_36_2_15.1.1.2.2 ?_
        refine lv_topi (fun y_14 ey_14 => ?_)
        have hct_ : y_14.toInt = (ec_8 a2.toNatClampNeg).toInt := by rw [ey_14]
        refine lv_ldc (v := 1000000000) hx hb hown (hts (.constant RX10 38 (1000000000)) (List.mem_of_getElem? (i := 2) rfl)) dB_36_2_15.1.2.1.1 ?_
        refine lv_icmp_ne (tgt := 45) hx hb dB_36_2_15.1.2.1.2 (by decide) (fun c_15 => ?_) (fun c_15 => ?_)
        · have t_15 : ¬ y_14.toInt = (1000000000 : Int32).toInt := fun h => c_15 (Int32.toInt_inj.mp h)
          have hft_ : (ec_8 a2.toNatClampNeg).toInt ≠ 1000000000 := by omega
          have hhi_ := czC_hi hz_ (by omega) c2_ hft_
          have hch_ := czC_ch hz_ c2_ hft_ (by omega)
          have hmb1_ : ∀ x y : Nat, x < vp.toNatClampNeg → y < vp.toNatClampNeg → -200000000 ≤ zM m_rr_4 x y ∧ zM m_rr_4 x y ≤ 200000000 := fun x y hx hy => by have h_ := v7_4 x y hx hy; omega
          have hmb2_ : ∀ x y : Nat, x < vp.toNatClampNeg → y < vp.toNatClampNeg → -100000000 ≤ zM m_rr_4 x y ∧ zM m_rr_4 x y ≤ 180000000 := fun x y hx hy => by have h_ := v7_4 x y hx hy; omega
          refine lv_aload_n hx hb dB_36_2_15.2.1.1.1 rfl (lv_at hl 3 rfl) ?_
          refine lv_iload_n hx hb dB_36_2_15.2.1.1.2 rfl (lv_at hl 4 rfl) ?_
          refine lv_iload_n hx hb dB_36_2_15.2.1.2.1 rfl (lv_at hl 5 rfl) ?_
          refine lv_iload hx hb dB_36_2_15.2.1.2.2 (lv_at hl 2 rfl) ?_
          refine ct_R hP hD [ob10_0_ xw xc xk wpo wc wf, ob0_0_ xc xn xk clo cro c4 c5 c6 c7 c8, ob3_0_ xn vp vn n1 n2 n3 n4 n5, aq_ cy 6 cro 12 (gf_ rr), ai_ cy (rr 0) 12 (m_rr_4 0), ai_ cy (rr 1) 12 (m_rr_4 1), ai_ cy (rr 2) 12 (m_rr_4 2), ai_ cy (rr 3) 12 (m_rr_4 3), ai_ cy (rr 4) 12 (m_rr_4 4), ai_ cy (rr 5) 12 (m_rr_4 5), ai_ cy (rr 6) 12 (m_rr_4 6), ai_ cy (rr 7) 12 (m_rr_4 7), ai_ cy (rr 8) 12 (m_rr_4 8), ai_ cy (rr 9) 12 (m_rr_4 9), ai_ cy (rr 10) 12 (m_rr_4 10), ai_ cy (rr 11) 12 (m_rr_4 11), ai_ cy wf 12 ef_9] [0, 1, 2, 7, 8, 9, 10, 11, 12, 13, 14, 15, 16, 17, 18, 19, 34] (by decide +kernel) rfl (fun hPc hDw => ?_)
          have hFc := va_free (wc := []) hD hS hA [] rfl
          refine va_calli (va_runV (As := [.int a1, .int a2, .int x4_4]) (rest := []) ⟨hx, hb, hml, hown, hts⟩ (c_X10_roomOfWay2 l D cy H.size xw wpo wc wf xc xk clo cro c4 c5 c6 c7 c8 xn n1 n2 n3 n4 n5 vp vn rr m_rr_4 ef_9 a1 a2 x4_4 (by first | with_reducible assumption | omega | assumption) (by first | with_reducible assumption | omega | assumption) (by first | with_reducible assumption | omega | assumption) (by first | with_reducible assumption | assumption | omega) (by first | with_reducible assumption | assumption | omega) (by first | with_reducible assumption | omega | assumption) (by first | with_reducible assumption | assumption | omega)) (cwV 3 hts gX10_pay_X10_roomOfWay rfl rfl rfl ⟨rfl, hd_X10_roomOfWay⟩ ⟨Nat.le_of_ble_eq_true rfl, Nat.le_of_ble_eq_true rfl⟩) ⟨bl_g, va_recvX hK.1 hP (ci := 10) (q0 := 0) rfl rfl, fun U hU hW => ⟨rfl, by rw [hU], by rw [hU]; exact hPc, ⟨kk_mv hW hK, arrOfT_moved hW.alike hG⟩, hDw⟩⟩ rfl rfl hl.1 rfl (lv_room (Nat.le_of_ble_eq_true rfl)) dB_36_2_15.2.2.1.1 ⟨Nat.le_of_ble_eq_true rfl, Nat.le_of_ble_eq_true rfl⟩) hS (fun q _ h => hFc q h) hFc (fun r_16 u t H locs ht hvm hw hB hz1 hk1 hS => ?_)
          have hP : va_P D vwCl _ H := ro_keep hP hk1
          obtain ⟨f0_r_16, f1_r_16⟩ := hw
          have har_ := f0_r_16
          have hrw_ := f1_r_16
          refine lv_istore (lv' := [(7, .int r_16), (6, .int x6_4), (5, .int x5_4), (4, .int x4_4), (0, .ref xw), (1, .int a1), (2, .int a2), (3, .int a3)]) hx hb dB_36_2_15.2.2.1.2 hl (by decide) rfl (fun ls hl => ?_)
          refine lv_aload_n hx hb dB_36_2_15.2.2.2.1 rfl (lv_at hl 4 rfl) ?_
          refine lv_iload_n hx hb dB_36_2_15.2.2.2.2 rfl (lv_at hl 5 rfl) ?_
          refine lv_iload_n hx hb dB_36_2_16.1.1.1.1 rfl (lv_at hl 6 rfl) ?_
          refine lv_iload hx hb dB_36_2_16.1.1.1.2 (lv_at hl 0 rfl) ?_
          refine ct_S hP hD hS hA [ob10_0_ xw xc xk wpo wc wf, ob0_0_ xc xn xk clo cro c4 c5 c6 c7 c8, ob3_0_ xn vp vn n1 n2 n3 n4 n5, aq_ cy 6 cro 12 (gf_ rr), ai_ cy (rr 0) 12 (m_rr_4 0), ai_ cy (rr 1) 12 (m_rr_4 1), ai_ cy (rr 2) 12 (m_rr_4 2), ai_ cy (rr 3) 12 (m_rr_4 3), ai_ cy (rr 4) 12 (m_rr_4 4), ai_ cy (rr 5) 12 (m_rr_4 5), ai_ cy (rr 6) 12 (m_rr_4 6), ai_ cy (rr 7) 12 (m_rr_4 7), ai_ cy (rr 8) 12 (m_rr_4 8), ai_ cy (rr 9) 12 (m_rr_4 9), ai_ cy (rr 10) 12 (m_rr_4 10), ai_ cy (rr 11) 12 (m_rr_4 11), ai_ cy wf 12 ef_9] [0, 1, 2, 7, 8, 9, 10, 11, 12, 13, 14, 15, 16, 17, 18, 19, 34] (by decide +kernel) rfl (fun hPc hDw hFc hC_ => ?_)
          refine va_callv (va_runV (As := [.int a1, .int a2, .int r_16]) (rest := []) ⟨hx, hb, hml, hown, hts⟩ (c_X10_sendAlongWay2 l D cy H.size xw wpo wc wf xc xk clo cro c4 c5 c6 c7 c8 xn n1 n2 n3 n4 n5 vp vn rr m_rr_4 ef_9 a1 a2 r_16 (by first | with_reducible assumption | omega | assumption) (by first | with_reducible assumption | omega | assumption) (by first | with_reducible assumption | omega | assumption) (by first | with_reducible assumption | assumption | omega) (by first | with_reducible assumption | assumption | omega) (by first | with_reducible assumption | omega | assumption) (by first | with_reducible assumption | assumption | omega)) (cwV 3 hts gX10_pay_X10_sendAlongWay rfl rfl rfl ⟨rfl, hd_X10_sendAlongWay⟩ ⟨Nat.le_of_ble_eq_true rfl, Nat.le_of_ble_eq_true rfl⟩) ⟨bl_g, va_recvX hK.1 hP (ci := 10) (q0 := 0) rfl rfl, fun U hU hW => ⟨rfl, by rw [hU], by rw [hU]; exact hPc, ⟨kk_mv hW hK, arrOfT_moved hW.alike hG⟩, hDw⟩⟩ rfl rfl hl.1 rfl (lv_room (Nat.le_of_ble_eq_true rfl)) dB_36_2_16.1.1.2.1 ⟨Nat.le_of_ble_eq_true rfl, Nat.le_of_ble_eq_true rfl⟩) hS (fun q _ h => hFc q h) hFc (fun u t H locs ht hvm hw hB hz1 hk1 hS => ?_)
          obtain ⟨eMr_18, g_19, hP1, hD1⟩ := hB
          rw [ht] at hP1
          obtain ⟨hP, hD⟩ := va_join (wr := [ai_ cy n1 40 fk, ai_ cy n2 40 fs, ai_ cy n3 40 fe, ai_ cy n5 40 fp, aq_ cy 6 wpo 12 (gf_ rp), ai_ cy (rp 0) 12 (eMp_2 0), ai_ cy (rp 1) 12 (eMp_2 1), ai_ cy (rp 2) 12 (eMp_2 2), ai_ cy (rp 3) 12 (eMp_2 3), ai_ cy (rp 4) 12 (eMp_2 4), ai_ cy (rp 5) 12 (eMp_2 5), ai_ cy (rp 6) 12 (eMp_2 6), ai_ cy (rp 7) 12 (eMp_2 7), ai_ cy (rp 8) 12 (eMp_2 8), ai_ cy (rp 9) 12 (eMp_2 9), ai_ cy (rp 10) 12 (eMp_2 10), ai_ cy (rp 11) 12 (eMp_2 11), ai_ cy wc 12 ec_8, aq_ cy 3 xk 5 (kf_ k0 k1 k2 k3 k4), ob6_0_ k0, ob5_0_ k1, ob9_0_ k2, ob2_0_ k3, ob8_0_ k4]) (w1 := [ob10_0_ xw xc xk wpo wc wf, ob0_0_ xc xn xk clo cro c4 c5 c6 c7 c8, ob3_0_ xn vp vn n1 n2 n3 n4 n5, aq_ cy 6 cro 12 (gf_ rr), ai_ cy (rr 0) 12 (eMr_18 0), ai_ cy (rr 1) 12 (eMr_18 1), ai_ cy (rr 2) 12 (eMr_18 2), ai_ cy (rr 3) 12 (eMr_18 3), ai_ cy (rr 4) 12 (eMr_18 4), ai_ cy (rr 5) 12 (eMr_18 5), ai_ cy (rr 6) 12 (eMr_18 6), ai_ cy (rr 7) 12 (eMr_18 7), ai_ cy (rr 8) 12 (eMr_18 8), ai_ cy (rr 9) 12 (eMr_18 9), ai_ cy (rr 10) 12 (eMr_18 10), ai_ cy (rr 11) 12 (eMr_18 11), ai_ cy wf 12 ef_9]) hP hD [0, 1, 2, 7, 8, 9, 10, 11, 12, 13, 14, 15, 16, 17, 18, 19, 34] [3, 4, 5, 6, 20, 21, 22, 23, 24, 25, 26, 27, 28, 29, 30, 31, 32, 33, 35, 36, 37, 38, 39, 40] hC_ rfl (by decide +kernel) (by decide +kernel) hk1 hFc hP1 hD1
          refine pd_S hP hD [ob10_0_ xw xc xk wpo wc wf, ob0_0_ xc xn xk clo cro c4 c5 c6 c7 c8, ob3_0_ xn vp vn n1 n2 n3 n4 n5, ai_ cy n1 40 fk, ai_ cy n2 40 fs, ai_ cy n3 40 fe, ai_ cy n5 40 fp, aq_ cy 6 cro 12 (gf_ rr), ai_ cy (rr 0) 12 (eMr_18 0), ai_ cy (rr 1) 12 (eMr_18 1), ai_ cy (rr 2) 12 (eMr_18 2), ai_ cy (rr 3) 12 (eMr_18 3), ai_ cy (rr 4) 12 (eMr_18 4), ai_ cy (rr 5) 12 (eMr_18 5), ai_ cy (rr 6) 12 (eMr_18 6), ai_ cy (rr 7) 12 (eMr_18 7), ai_ cy (rr 8) 12 (eMr_18 8), ai_ cy (rr 9) 12 (eMr_18 9), ai_ cy (rr 10) 12 (eMr_18 10), ai_ cy (rr 11) 12 (eMr_18 11), aq_ cy 6 wpo 12 (gf_ rp), ai_ cy (rp 0) 12 (eMp_2 0), ai_ cy (rp 1) 12 (eMp_2 1), ai_ cy (rp 2) 12 (eMp_2 2), ai_ cy (rp 3) 12 (eMp_2 3), ai_ cy (rp 4) 12 (eMp_2 4), ai_ cy (rp 5) 12 (eMp_2 5), ai_ cy (rp 6) 12 (eMp_2 6), ai_ cy (rp 7) 12 (eMp_2 7), ai_ cy (rp 8) 12 (eMp_2 8), ai_ cy (rp 9) 12 (eMp_2 9), ai_ cy (rp 10) 12 (eMp_2 10), ai_ cy (rp 11) 12 (eMp_2 11), ai_ cy wc 12 ec_8, ai_ cy wf 12 ef_9, aq_ cy 3 xk 5 (kf_ k0 k1 k2 k3 k4), ob6_0_ k0, ob5_0_ k1, ob9_0_ k2, ob2_0_ k3, ob8_0_ k4] [24, 25, 26, 0, 1, 2, 3, 27, 28, 29, 30, 31, 32, 33, 34, 35, 36, 37, 38, 39, 4, 5, 6, 7, 8, 9, 10, 11, 12, 13, 14, 15, 16, 17, 40, 18, 19, 20, 21, 22, 23] (by decide +kernel) rfl (fun hP hD => ?_)
          have hmw_ := g_19
          have hps_ := pay_step v3_4 v4_4 v5_4 hz_ c1_ c2_ (by omega) hft_ har_.1 hrw_ hmw_
          have hmw2_ : ∀ x y : Nat, zM m_rr_4 x y - 6000 ≤ zM eMr_18 x y ∧ zM eMr_18 x y ≤ zM m_rr_4 x y + 6000 := by obtain ⟨R_, hR_, h_⟩ := hmw_; have g_ := hR_.1; exact fun x y => mwC_b h_ (by omega) (by omega) (by omega) x y
          have hpb_ := pr_b (a := r_16.toInt) (c := (ec_8 a2.toNatClampNeg).toInt) (B := 1212) (by omega) (by omega) (by omega)
          refine lv_iload hx hb dB_36_2_16.1.1.2.2 (lv_at hl 2 rfl) ?_
          refine lv_iload hx hb dB_36_2_16.1.2.1.1 (lv_at hl 0 rfl) ?_
          refine lv_aload_n hx hb dB_36_2_16.1.2.1.2 rfl (lv_at hl 4 rfl) ?_
          refine va_get (ci := 10) (v := .ref wc) (C := RX10) (T := TX10) (N := 5) hx hb hts (fun _ h => List.mem_cons_of_mem _ (List.mem_append_left _ (List.mem_append_left _ (List.mem_append_right _ h)))) hown hK.1 hP 0 rfl rfl 3 (by decide) (hts (.fieldLink RX10 16 "CutAtlas$Widening" "costs" "[I") (List.mem_of_getElem? (i := 1) rfl)) (fun _ h9 => h9) rfl dB_36_2_16.1.2.2.1 ?_
          refine lv_iload_n hx hb dB_36_2_16.1.2.2.2 rfl (lv_at hl 6 rfl) ?_
          refine va_iald hx hb hK.1 hP 33 0 rfl rfl (i := a2) h_13 dB_36_2_16.2.1.1.1 ?_
          refine lv_topi (fun y_21 ey_21 => ?_)
          have e_ := (ey_21.trans ey_14.symm).symm
          subst e_
          skip
          have hct2_ : y_14.toInt = (ec_8 a2.toNatClampNeg).toInt := by rw [ey_14]
          refine lv_imul hx hb dB_36_2_16.2.1.1.2 ?_
          refine lv_topi (fun y_22 ey_22 => ?_)
          have hml_ : y_22.toInt = r_16.toInt * (ec_8 a2.toNatClampNeg).toInt := by rw [← hct2_, ey_22]; rw [← hct2_] at hpb_; exact mulI (by omega) (by omega)
          refine lv_iadd hx hb dB_36_2_16.2.1.2.1 ?_
          refine lv_topi (fun y_23 ey_23 => ?_)
          have ty_23 : y_23.toInt = x5_4.toInt + y_22.toInt := by rw [ey_23]; exact addI (by omega) (by omega)
          refine lv_istore (lv' := [(5, .int y_23), (7, .int r_16), (6, .int x6_4), (4, .int x4_4), (0, .ref xw), (1, .int a1), (2, .int a2), (3, .int a3)]) hx hb dB_36_2_16.2.1.2.2 hl (by decide) rfl (fun ls hl => ?_)
          refine lv_iload hx hb dB_36_2_16.2.2.1.1 (lv_at hl 3 rfl) ?_
          refine lv_iload hx hb dB_36_2_16.2.2.1.2 (lv_at hl 1 rfl) ?_
          refine lv_isub hx hb dB_36_2_16.2.2.2.1 ?_
          refine lv_topi (fun y_24 ey_24 => ?_)
          have ty_24 : y_24.toInt = x4_4.toInt - r_16.toInt := by rw [ey_24]; exact subI (by omega) (by omega)
          refine lv_istore (lv' := [(4, .int y_24), (5, .int y_23), (7, .int r_16), (6, .int x6_4), (0, .ref xw), (1, .int a1), (2, .int a2), (3, .int a3)]) hx hb dB_36_2_16.2.2.2.2 hl (by decide) rfl (fun ls hl => ?_)
          obtain ⟨y_25, ey_25⟩ : ∃ y : Int32, y = x6_4 + 1 := ⟨_, rfl⟩
          have ty_25 : y_25.toInt = x6_4.toInt + (1 : Int32).toInt := by rw [ey_25]; exact addI (by omega) (by omega)
          refine lv_iinc (v := y_25) (lv' := [(6, .int y_25), (4, .int y_24), (5, .int y_23), (7, .int r_16), (0, .ref xw), (1, .int a1), (2, .int a2), (3, .int a3)]) hx hb dB_36_2_17.1.1 hl (k := 3) rfl (by rw [ey_25]; rfl) (by decide) rfl (fun ls hl => ?_)
          refine lv_goto (tgt := 13) hx hb dB_36_2_17.1.2 (by decide) ?_
          exact ih_4 y_25 y_23 y_24 eMr_18 ec_8 ef_9 _ _ _ (by omega) (by first | with_reducible assumption | omega | assumption) (by first | with_reducible assumption | omega | assumption) (by first | with_reducible assumption | omega | assumption) (by first | exact hok0_ | exact hps_.1) (by first | exact ⟨_, hpo0_⟩ | exact hps_.2.1) (by first | (rw [Int.sub_self]; exact cnZ_0) | (rw [show a3.toInt - y_24.toInt = a3.toInt - x4_4.toInt + r_16.toInt by omega]; exact hps_.2.2.1)) (by first | exact (cPZ_0 (fun x y hx hy => (hmz x y hx hy).1)).symm | (rw [hps_.2.2.2]; omega)) (by first | (intro x y hx hy; have h_ := hmz x y hx hy; omega) | (intro x y hx hy; have h_ := v7_4 x y hx hy; have g_ := hmw2_ x y; omega)) (by first | omega) (by first | with_reducible assumption | assumption | exact rng_zero (by omega) (by omega) | exact orng_zero) ⟨hP, hD⟩ hS (lv_sub hl [0, 2, 1, 4, 5, 6, 7] rfl)
        · have t_15 : y_14.toInt = (1000000000 : Int32).toInt := congrArg Int32.toInt c_15
          refine lv_bipush (v := (-9)) hx hb dB_36_2_15.1.2.2.1 (by decide) ?_
          rw [hQ]
          exact W.iret (v := (-9)) hx hb hr (fun t ht hW => ⟨⟨(-9), (), rfl, (by obtain ⟨S_, hs_, hS_⟩ := pay_none v3_4 hz_ (by omega) c2_ (by omega); exact ⟨_, hprm_, Or.inl ⟨by decide, _, _, S_, by omega, v5_4, hs_, hS_⟩⟩), m_rr_4, eMp_2, ec_8, ef_9, (by first | with_reducible assumption | assumption | exact rng_zero (by omega) (by omega) | omega), by rw [ht]; exact hP, hD⟩, hS.F ht⟩) hS.2.2 dB_36_2_15.1.2.2.2
end

section
set_option maxHeartbeats 4000000 in
set_option maxRecDepth 100000 in
theorem c_X11_cheapest2 (l : Launch) (D : va_G) (cy : Nat → ClassId) (sz : Nat) (xo : Nat) (xk : Nat) (xn : Nat) (xc : Nat) (xh : Nat) (xt : Nat) (xw : Nat) (xm : Nat) (xp : Nat) (pf : Int32) (ph : Int32) (tr : Int64) (fi : Int32) (n1 : Nat) (n2 : Nat) (n3 : Nat) (n4 : Nat) (n5 : Nat) (vp : Int32) (vn : Int32) (clo : Nat) (cro : Nat) (c4 : Nat) (c5 : Nat) (c6 : Nat) (c7 : Nat) (c8 : Nat) (fk : Nat → Int32) (fs : Nat → Int32) (fe : Nat → Int32) (fw : Nat → Int32) (fp : Nat → Int32) (rl : Nat → Nat) (Ml : Nat → Nat → Int32) (rr : Nat → Nat) (Mr : Nat → Nat → Int32) (f4 : Nat → Int32) (f5 : Nat → Int32) (f6 : Nat → Int32) (f7 : Nat → Int32) (f8 : Nat → Int32) (k0 : Nat) (k1 : Nat) (k2 : Nat) (k3 : Nat) (k4 : Nat) (wpo : Nat) (wc : Nat) (wf : Nat) (rp : Nat → Nat) (Mp : Nat → Nat → Int32) (fc : Nat → Int32) (ff : Nat → Int32) (a1 : Int32) (a2 : Int32) (a3 : Int32) (hvp : 0 ≤ vp.toInt ∧ vp.toInt ≤ 12) (hvn : 0 ≤ vn.toInt ∧ vn.toInt ≤ 40) (hnc : netC vp.toInt vn.toInt fs fe) (hdc : netDC vn.toInt fs fe) (hpr : prng fs fe 40) (r_f7 : rng f7 12 (0) (11)) (r_f8 : rng f8 12 (0) (11)) (r_fk : rng fk 40 (0) (4)) (r_fw : rng fw 40 (0) (2000)) (r_fp : rng fp 40 (0) (100)) (r_ff : rng ff 12 (0) (11)) : Met l yX11_cheapest wsX11_cheapest ({ frames := 5, cells := 0, slots := 0, locals := 110 }) (va_Pc [.ref xo, .int a1, .int a2, .int a3] (fun U => U.heap.size = sz ∧ va_P D vwCl [ob11_0_ xo xk xn xc xh xt xw xm xp pf ph tr fi, ob3_0_ xn vp vn n1 n2 n3 n4 n5, ai_ cy n1 40 fk, ai_ cy n2 40 fs, ai_ cy n3 40 fe, ai_ cy n4 40 fw, ai_ cy n5 40 fp, ob0_0_ xc xn xk clo cro c4 c5 c6 c7 c8, aq_ cy 6 clo 12 (gf_ rl), ai_ cy (rl 0) 12 (Ml 0), ai_ cy (rl 1) 12 (Ml 1), ai_ cy (rl 2) 12 (Ml 2), ai_ cy (rl 3) 12 (Ml 3), ai_ cy (rl 4) 12 (Ml 4), ai_ cy (rl 5) 12 (Ml 5), ai_ cy (rl 6) 12 (Ml 6), ai_ cy (rl 7) 12 (Ml 7), ai_ cy (rl 8) 12 (Ml 8), ai_ cy (rl 9) 12 (Ml 9), ai_ cy (rl 10) 12 (Ml 10), ai_ cy (rl 11) 12 (Ml 11), aq_ cy 6 cro 12 (gf_ rr), ai_ cy (rr 0) 12 (Mr 0), ai_ cy (rr 1) 12 (Mr 1), ai_ cy (rr 2) 12 (Mr 2), ai_ cy (rr 3) 12 (Mr 3), ai_ cy (rr 4) 12 (Mr 4), ai_ cy (rr 5) 12 (Mr 5), ai_ cy (rr 6) 12 (Mr 6), ai_ cy (rr 7) 12 (Mr 7), ai_ cy (rr 8) 12 (Mr 8), ai_ cy (rr 9) 12 (Mr 9), ai_ cy (rr 10) 12 (Mr 10), ai_ cy (rr 11) 12 (Mr 11), ai_ cy c4 40 f4, ai_ cy c5 40 f5, ai_ cy c6 40 f6, ai_ cy c7 12 f7, ai_ cy c8 12 f8, aq_ cy 3 xk 5 (kf_ k0 k1 k2 k3 k4), ob6_0_ k0, ob5_0_ k1, ob9_0_ k2, ob2_0_ k3, ob8_0_ k4, ob10_0_ xw xc xk wpo wc wf, aq_ cy 6 wpo 12 (gf_ rp), ai_ cy (rp 0) 12 (Mp 0), ai_ cy (rp 1) 12 (Mp 1), ai_ cy (rp 2) 12 (Mp 2), ai_ cy (rp 3) 12 (Mp 3), ai_ cy (rp 4) 12 (Mp 4), ai_ cy (rp 5) 12 (Mp 5), ai_ cy (rp 6) 12 (Mp 6), ai_ cy (rp 7) 12 (Mp 7), ai_ cy (rp 8) 12 (Mp 8), ai_ cy (rp 9) 12 (Mp 9), ai_ cy (rp 10) 12 (Mp 10), ai_ cy (rp 11) 12 (Mp 11), ai_ cy wc 12 fc, ai_ cy wf 12 ff] U.heap ∧ kg_ D cy U ∧ va_D (fun _ => True) [ob11_0_ xo xk xn xc xh xt xw xm xp pf ph tr fi, ob3_0_ xn vp vn n1 n2 n3 n4 n5, ai_ cy n1 40 fk, ai_ cy n2 40 fs, ai_ cy n3 40 fe, ai_ cy n4 40 fw, ai_ cy n5 40 fp, ob0_0_ xc xn xk clo cro c4 c5 c6 c7 c8, aq_ cy 6 clo 12 (gf_ rl), ai_ cy (rl 0) 12 (Ml 0), ai_ cy (rl 1) 12 (Ml 1), ai_ cy (rl 2) 12 (Ml 2), ai_ cy (rl 3) 12 (Ml 3), ai_ cy (rl 4) 12 (Ml 4), ai_ cy (rl 5) 12 (Ml 5), ai_ cy (rl 6) 12 (Ml 6), ai_ cy (rl 7) 12 (Ml 7), ai_ cy (rl 8) 12 (Ml 8), ai_ cy (rl 9) 12 (Ml 9), ai_ cy (rl 10) 12 (Ml 10), ai_ cy (rl 11) 12 (Ml 11), aq_ cy 6 cro 12 (gf_ rr), ai_ cy (rr 0) 12 (Mr 0), ai_ cy (rr 1) 12 (Mr 1), ai_ cy (rr 2) 12 (Mr 2), ai_ cy (rr 3) 12 (Mr 3), ai_ cy (rr 4) 12 (Mr 4), ai_ cy (rr 5) 12 (Mr 5), ai_ cy (rr 6) 12 (Mr 6), ai_ cy (rr 7) 12 (Mr 7), ai_ cy (rr 8) 12 (Mr 8), ai_ cy (rr 9) 12 (Mr 9), ai_ cy (rr 10) 12 (Mr 10), ai_ cy (rr 11) 12 (Mr 11), ai_ cy c4 40 f4, ai_ cy c5 40 f5, ai_ cy c6 40 f6, ai_ cy c7 12 f7, ai_ cy c8 12 f8, aq_ cy 3 xk 5 (kf_ k0 k1 k2 k3 k4), ob6_0_ k0, ob5_0_ k1, ob9_0_ k2, ob2_0_ k3, ob8_0_ k4, ob10_0_ xw xc xk wpo wc wf, aq_ cy 6 wpo 12 (gf_ rp), ai_ cy (rp 0) 12 (Mp 0), ai_ cy (rp 1) 12 (Mp 1), ai_ cy (rp 2) 12 (Mp 2), ai_ cy (rp 3) 12 (Mp 3), ai_ cy (rp 4) 12 (Mp 4), ai_ cy (rp 5) 12 (Mp 5), ai_ cy (rp 6) 12 (Mp 6), ai_ cy (rp 7) 12 (Mp 7), ai_ cy (rp 8) 12 (Mp 8), ai_ cy (rp 9) 12 (Mp 9), ai_ cy (rp 10) 12 (Mp 10), ai_ cy (rp 11) 12 (Mp 11), ai_ cy wc 12 fc, ai_ cy wf 12 ff])) (va_Qi (fun (r : Int32) (_ : Unit) => ((ckI a1.toInt a2.toInt a3.toInt vp.toInt = 0 → chA (cutF fk fs fe fw (-9) vn.toNatClampNeg) (fun r => chR (fun l => rmW (kF fk l) (wF fw (-9) l) 1) (fun l => rmW (kF fk l) (wF fw (-9) l) 0) (gF fs) (cstF fk fp) (nF fs) (nF fe) vn.toNatClampNeg a1.toNatClampNeg a2.toNatClampNeg a3.toInt r) a1.toNatClampNeg a2.toNatClampNeg a3.toInt r.toInt) ∧ (ckI a1.toInt a2.toInt a3.toInt vp.toInt ≠ 0 → r.toInt = -1))) (fun (_ : Unit) (t : State) => ∃ (eMl : Nat → Nat → Int32), ∃ (eMr : Nat → Nat → Int32), ∃ (e4 : Nat → Int32), ∃ (e5 : Nat → Int32), ∃ (e6 : Nat → Int32), ∃ (e7 : Nat → Int32), ∃ (e8 : Nat → Int32), ∃ (eMp : Nat → Nat → Int32), ∃ (ec : Nat → Int32), ∃ (ef : Nat → Int32), (rng e7 12 (0) (11)) ∧ (rng e8 12 (0) (11)) ∧ (rng ef 12 (0) (11)) ∧ va_P D vwCl [ob11_0_ xo xk xn xc xh xt xw xm xp pf ph tr fi, ob3_0_ xn vp vn n1 n2 n3 n4 n5, ai_ cy n1 40 fk, ai_ cy n2 40 fs, ai_ cy n3 40 fe, ai_ cy n4 40 fw, ai_ cy n5 40 fp, ob0_0_ xc xn xk clo cro c4 c5 c6 c7 c8, aq_ cy 6 clo 12 (gf_ rl), ai_ cy (rl 0) 12 (eMl 0), ai_ cy (rl 1) 12 (eMl 1), ai_ cy (rl 2) 12 (eMl 2), ai_ cy (rl 3) 12 (eMl 3), ai_ cy (rl 4) 12 (eMl 4), ai_ cy (rl 5) 12 (eMl 5), ai_ cy (rl 6) 12 (eMl 6), ai_ cy (rl 7) 12 (eMl 7), ai_ cy (rl 8) 12 (eMl 8), ai_ cy (rl 9) 12 (eMl 9), ai_ cy (rl 10) 12 (eMl 10), ai_ cy (rl 11) 12 (eMl 11), aq_ cy 6 cro 12 (gf_ rr), ai_ cy (rr 0) 12 (eMr 0), ai_ cy (rr 1) 12 (eMr 1), ai_ cy (rr 2) 12 (eMr 2), ai_ cy (rr 3) 12 (eMr 3), ai_ cy (rr 4) 12 (eMr 4), ai_ cy (rr 5) 12 (eMr 5), ai_ cy (rr 6) 12 (eMr 6), ai_ cy (rr 7) 12 (eMr 7), ai_ cy (rr 8) 12 (eMr 8), ai_ cy (rr 9) 12 (eMr 9), ai_ cy (rr 10) 12 (eMr 10), ai_ cy (rr 11) 12 (eMr 11), ai_ cy c4 40 e4, ai_ cy c5 40 e5, ai_ cy c6 40 e6, ai_ cy c7 12 e7, ai_ cy c8 12 e8, aq_ cy 3 xk 5 (kf_ k0 k1 k2 k3 k4), ob6_0_ k0, ob5_0_ k1, ob9_0_ k2, ob2_0_ k3, ob8_0_ k4, ob10_0_ xw xc xk wpo wc wf, aq_ cy 6 wpo 12 (gf_ rp), ai_ cy (rp 0) 12 (eMp 0), ai_ cy (rp 1) 12 (eMp 1), ai_ cy (rp 2) 12 (eMp 2), ai_ cy (rp 3) 12 (eMp 3), ai_ cy (rp 4) 12 (eMp 4), ai_ cy (rp 5) 12 (eMp 5), ai_ cy (rp 6) 12 (eMp 6), ai_ cy (rp 7) 12 (eMp 7), ai_ cy (rp 8) 12 (eMp 8), ai_ cy (rp 9) 12 (eMp 9), ai_ cy (rp 10) 12 (eMp 10), ai_ cy (rp 11) 12 (eMp 11), ai_ cy wc 12 ec, ai_ cy wf 12 ef] t.heap ∧ va_D (va_A [ob11_0_ xo xk xn xc xh xt xw xm xp pf ph tr fi, ob3_0_ xn vp vn n1 n2 n3 n4 n5, ai_ cy n1 40 fk, ai_ cy n2 40 fs, ai_ cy n3 40 fe, ai_ cy n4 40 fw, ai_ cy n5 40 fp, ob0_0_ xc xn xk clo cro c4 c5 c6 c7 c8, aq_ cy 6 clo 12 (gf_ rl), ai_ cy (rl 0) 12 (Ml 0), ai_ cy (rl 1) 12 (Ml 1), ai_ cy (rl 2) 12 (Ml 2), ai_ cy (rl 3) 12 (Ml 3), ai_ cy (rl 4) 12 (Ml 4), ai_ cy (rl 5) 12 (Ml 5), ai_ cy (rl 6) 12 (Ml 6), ai_ cy (rl 7) 12 (Ml 7), ai_ cy (rl 8) 12 (Ml 8), ai_ cy (rl 9) 12 (Ml 9), ai_ cy (rl 10) 12 (Ml 10), ai_ cy (rl 11) 12 (Ml 11), aq_ cy 6 cro 12 (gf_ rr), ai_ cy (rr 0) 12 (Mr 0), ai_ cy (rr 1) 12 (Mr 1), ai_ cy (rr 2) 12 (Mr 2), ai_ cy (rr 3) 12 (Mr 3), ai_ cy (rr 4) 12 (Mr 4), ai_ cy (rr 5) 12 (Mr 5), ai_ cy (rr 6) 12 (Mr 6), ai_ cy (rr 7) 12 (Mr 7), ai_ cy (rr 8) 12 (Mr 8), ai_ cy (rr 9) 12 (Mr 9), ai_ cy (rr 10) 12 (Mr 10), ai_ cy (rr 11) 12 (Mr 11), ai_ cy c4 40 f4, ai_ cy c5 40 f5, ai_ cy c6 40 f6, ai_ cy c7 12 f7, ai_ cy c8 12 f8, aq_ cy 3 xk 5 (kf_ k0 k1 k2 k3 k4), ob6_0_ k0, ob5_0_ k1, ob9_0_ k2, ob2_0_ k3, ob8_0_ k4, ob10_0_ xw xc xk wpo wc wf, aq_ cy 6 wpo 12 (gf_ rp), ai_ cy (rp 0) 12 (Mp 0), ai_ cy (rp 1) 12 (Mp 1), ai_ cy (rp 2) 12 (Mp 2), ai_ cy (rp 3) 12 (Mp 3), ai_ cy (rp 4) 12 (Mp 4), ai_ cy (rp 5) 12 (Mp 5), ai_ cy (rp 6) 12 (Mp 6), ai_ cy (rp 7) 12 (Mp 7), ai_ cy (rp 8) 12 (Mp 8), ai_ cy (rp 9) 12 (Mp 9), ai_ cy (rp 10) 12 (Mp 10), ai_ cy (rp 11) 12 (Mp 11), ai_ cy wc 12 fc, ai_ cy wf 12 ff] sz) [ob11_0_ xo xk xn xc xh xt xw xm xp pf ph tr fi, ob3_0_ xn vp vn n1 n2 n3 n4 n5, ai_ cy n1 40 fk, ai_ cy n2 40 fs, ai_ cy n3 40 fe, ai_ cy n4 40 fw, ai_ cy n5 40 fp, ob0_0_ xc xn xk clo cro c4 c5 c6 c7 c8, aq_ cy 6 clo 12 (gf_ rl), ai_ cy (rl 0) 12 (eMl 0), ai_ cy (rl 1) 12 (eMl 1), ai_ cy (rl 2) 12 (eMl 2), ai_ cy (rl 3) 12 (eMl 3), ai_ cy (rl 4) 12 (eMl 4), ai_ cy (rl 5) 12 (eMl 5), ai_ cy (rl 6) 12 (eMl 6), ai_ cy (rl 7) 12 (eMl 7), ai_ cy (rl 8) 12 (eMl 8), ai_ cy (rl 9) 12 (eMl 9), ai_ cy (rl 10) 12 (eMl 10), ai_ cy (rl 11) 12 (eMl 11), aq_ cy 6 cro 12 (gf_ rr), ai_ cy (rr 0) 12 (eMr 0), ai_ cy (rr 1) 12 (eMr 1), ai_ cy (rr 2) 12 (eMr 2), ai_ cy (rr 3) 12 (eMr 3), ai_ cy (rr 4) 12 (eMr 4), ai_ cy (rr 5) 12 (eMr 5), ai_ cy (rr 6) 12 (eMr 6), ai_ cy (rr 7) 12 (eMr 7), ai_ cy (rr 8) 12 (eMr 8), ai_ cy (rr 9) 12 (eMr 9), ai_ cy (rr 10) 12 (eMr 10), ai_ cy (rr 11) 12 (eMr 11), ai_ cy c4 40 e4, ai_ cy c5 40 e5, ai_ cy c6 40 e6, ai_ cy c7 12 e7, ai_ cy c8 12 e8, aq_ cy 3 xk 5 (kf_ k0 k1 k2 k3 k4), ob6_0_ k0, ob5_0_ k1, ob9_0_ k2, ob2_0_ k3, ob8_0_ k4, ob10_0_ xw xc xk wpo wc wf, aq_ cy 6 wpo 12 (gf_ rp), ai_ cy (rp 0) 12 (eMp 0), ai_ cy (rp 1) 12 (eMp 1), ai_ cy (rp 2) 12 (eMp 2), ai_ cy (rp 3) 12 (eMp 3), ai_ cy (rp 4) 12 (eMp 4), ai_ cy (rp 5) 12 (eMp 5), ai_ cy (rp 6) 12 (eMp 6), ai_ cy (rp 7) 12 (eMp 7), ai_ cy (rp 8) 12 (eMp 8), ai_ cy (rp 9) 12 (eMp 9), ai_ cy (rp 10) 12 (eMp 10), ai_ cy (rp 11) 12 (eMp 11), ai_ cy wc 12 ec, ai_ cy wf 12 ef]) (va_A [ob11_0_ xo xk xn xc xh xt xw xm xp pf ph tr fi, ob3_0_ xn vp vn n1 n2 n3 n4 n5, ai_ cy n1 40 fk, ai_ cy n2 40 fs, ai_ cy n3 40 fe, ai_ cy n4 40 fw, ai_ cy n5 40 fp, ob0_0_ xc xn xk clo cro c4 c5 c6 c7 c8, aq_ cy 6 clo 12 (gf_ rl), ai_ cy (rl 0) 12 (Ml 0), ai_ cy (rl 1) 12 (Ml 1), ai_ cy (rl 2) 12 (Ml 2), ai_ cy (rl 3) 12 (Ml 3), ai_ cy (rl 4) 12 (Ml 4), ai_ cy (rl 5) 12 (Ml 5), ai_ cy (rl 6) 12 (Ml 6), ai_ cy (rl 7) 12 (Ml 7), ai_ cy (rl 8) 12 (Ml 8), ai_ cy (rl 9) 12 (Ml 9), ai_ cy (rl 10) 12 (Ml 10), ai_ cy (rl 11) 12 (Ml 11), aq_ cy 6 cro 12 (gf_ rr), ai_ cy (rr 0) 12 (Mr 0), ai_ cy (rr 1) 12 (Mr 1), ai_ cy (rr 2) 12 (Mr 2), ai_ cy (rr 3) 12 (Mr 3), ai_ cy (rr 4) 12 (Mr 4), ai_ cy (rr 5) 12 (Mr 5), ai_ cy (rr 6) 12 (Mr 6), ai_ cy (rr 7) 12 (Mr 7), ai_ cy (rr 8) 12 (Mr 8), ai_ cy (rr 9) 12 (Mr 9), ai_ cy (rr 10) 12 (Mr 10), ai_ cy (rr 11) 12 (Mr 11), ai_ cy c4 40 f4, ai_ cy c5 40 f5, ai_ cy c6 40 f6, ai_ cy c7 12 f7, ai_ cy c8 12 f8, aq_ cy 3 xk 5 (kf_ k0 k1 k2 k3 k4), ob6_0_ k0, ob5_0_ k1, ob9_0_ k2, ob2_0_ k3, ob8_0_ k4, ob10_0_ xw xc xk wpo wc wf, aq_ cy 6 wpo 12 (gf_ rp), ai_ cy (rp 0) 12 (Mp 0), ai_ cy (rp 1) 12 (Mp 1), ai_ cy (rp 2) 12 (Mp 2), ai_ cy (rp 3) 12 (Mp 3), ai_ cy (rp 4) 12 (Mp 4), ai_ cy (rp 5) 12 (Mp 5), ai_ cy (rp 6) 12 (Mp 6), ai_ cy (rp 7) 12 (Mp 7), ai_ cy (rp 8) 12 (Mp 8), ai_ cy (rp 9) 12 (Mp 9), ai_ cy (rp 10) 12 (Mp 10), ai_ cy (rp 11) 12 (Mp 11), ai_ cy wc 12 fc, ai_ cy wf 12 ff] sz)) 0 0 (va_A [ob11_0_ xo xk xn xc xh xt xw xm xp pf ph tr fi, ob3_0_ xn vp vn n1 n2 n3 n4 n5, ai_ cy n1 40 fk, ai_ cy n2 40 fs, ai_ cy n3 40 fe, ai_ cy n4 40 fw, ai_ cy n5 40 fp, ob0_0_ xc xn xk clo cro c4 c5 c6 c7 c8, aq_ cy 6 clo 12 (gf_ rl), ai_ cy (rl 0) 12 (Ml 0), ai_ cy (rl 1) 12 (Ml 1), ai_ cy (rl 2) 12 (Ml 2), ai_ cy (rl 3) 12 (Ml 3), ai_ cy (rl 4) 12 (Ml 4), ai_ cy (rl 5) 12 (Ml 5), ai_ cy (rl 6) 12 (Ml 6), ai_ cy (rl 7) 12 (Ml 7), ai_ cy (rl 8) 12 (Ml 8), ai_ cy (rl 9) 12 (Ml 9), ai_ cy (rl 10) 12 (Ml 10), ai_ cy (rl 11) 12 (Ml 11), aq_ cy 6 cro 12 (gf_ rr), ai_ cy (rr 0) 12 (Mr 0), ai_ cy (rr 1) 12 (Mr 1), ai_ cy (rr 2) 12 (Mr 2), ai_ cy (rr 3) 12 (Mr 3), ai_ cy (rr 4) 12 (Mr 4), ai_ cy (rr 5) 12 (Mr 5), ai_ cy (rr 6) 12 (Mr 6), ai_ cy (rr 7) 12 (Mr 7), ai_ cy (rr 8) 12 (Mr 8), ai_ cy (rr 9) 12 (Mr 9), ai_ cy (rr 10) 12 (Mr 10), ai_ cy (rr 11) 12 (Mr 11), ai_ cy c4 40 f4, ai_ cy c5 40 f5, ai_ cy c6 40 f6, ai_ cy c7 12 f7, ai_ cy c8 12 f8, aq_ cy 3 xk 5 (kf_ k0 k1 k2 k3 k4), ob6_0_ k0, ob5_0_ k1, ob9_0_ k2, ob2_0_ k3, ob8_0_ k4, ob10_0_ xw xc xk wpo wc wf, aq_ cy 6 wpo 12 (gf_ rp), ai_ cy (rp 0) 12 (Mp 0), ai_ cy (rp 1) 12 (Mp 1), ai_ cy (rp 2) 12 (Mp 2), ai_ cy (rp 3) 12 (Mp 3), ai_ cy (rp 4) 12 (Mp 4), ai_ cy (rp 5) 12 (Mp 5), ai_ cy (rp 6) 12 (Mp 6), ai_ cy (rp 7) 12 (Mp 7), ai_ cy (rp 8) 12 (Mp 8), ai_ cy (rp 9) 12 (Mp 9), ai_ cy (rp 10) 12 (Mp 10), ai_ cy (rp 11) 12 (Mp 11), ai_ cy wc 12 fc, ai_ cy wf 12 ff] sz) := by
  refine ofQ (cc := cX11_cheapest) (maxL := 5) (ret := (some .int)) (by decide) rfl ?_
  intro p e s m args below meth c s₁ Q hQ B hml hv
  obtain ⟨rfl, hsz, hP, hK, hD0⟩ := hv
  have hG := hK.2
  have hK := hK.1
  have hx := B.exec
  have hb := B.bytes
  have hr := B.returns
  have hts := atoms_spec (ws := wsX11_cheapest) B.pre
  have hown : s.vm.findClass RX11 = some m.cls := by have h_ := findClass_of_methodNamed B.named; exact h_
  have hlocks := B.notSynchronized
  subst hsz
  have hD := hD0.self (sz := s.heap.size)
  generalize hAe : va_A [ob11_0_ xo xk xn xc xh xt xw xm xp pf ph tr fi, ob3_0_ xn vp vn n1 n2 n3 n4 n5, ai_ cy n1 40 fk, ai_ cy n2 40 fs, ai_ cy n3 40 fe, ai_ cy n4 40 fw, ai_ cy n5 40 fp, ob0_0_ xc xn xk clo cro c4 c5 c6 c7 c8, aq_ cy 6 clo 12 (gf_ rl), ai_ cy (rl 0) 12 (Ml 0), ai_ cy (rl 1) 12 (Ml 1), ai_ cy (rl 2) 12 (Ml 2), ai_ cy (rl 3) 12 (Ml 3), ai_ cy (rl 4) 12 (Ml 4), ai_ cy (rl 5) 12 (Ml 5), ai_ cy (rl 6) 12 (Ml 6), ai_ cy (rl 7) 12 (Ml 7), ai_ cy (rl 8) 12 (Ml 8), ai_ cy (rl 9) 12 (Ml 9), ai_ cy (rl 10) 12 (Ml 10), ai_ cy (rl 11) 12 (Ml 11), aq_ cy 6 cro 12 (gf_ rr), ai_ cy (rr 0) 12 (Mr 0), ai_ cy (rr 1) 12 (Mr 1), ai_ cy (rr 2) 12 (Mr 2), ai_ cy (rr 3) 12 (Mr 3), ai_ cy (rr 4) 12 (Mr 4), ai_ cy (rr 5) 12 (Mr 5), ai_ cy (rr 6) 12 (Mr 6), ai_ cy (rr 7) 12 (Mr 7), ai_ cy (rr 8) 12 (Mr 8), ai_ cy (rr 9) 12 (Mr 9), ai_ cy (rr 10) 12 (Mr 10), ai_ cy (rr 11) 12 (Mr 11), ai_ cy c4 40 f4, ai_ cy c5 40 f5, ai_ cy c6 40 f6, ai_ cy c7 12 f7, ai_ cy c8 12 f8, aq_ cy 3 xk 5 (kf_ k0 k1 k2 k3 k4), ob6_0_ k0, ob5_0_ k1, ob9_0_ k2, ob2_0_ k3, ob8_0_ k4, ob10_0_ xw xc xk wpo wc wf, aq_ cy 6 wpo 12 (gf_ rp), ai_ cy (rp 0) 12 (Mp 0), ai_ cy (rp 1) 12 (Mp 1), ai_ cy (rp 2) 12 (Mp 2), ai_ cy (rp 3) 12 (Mp 3), ai_ cy (rp 4) 12 (Mp 4), ai_ cy (rp 5) 12 (Mp 5), ai_ cy (rp 6) 12 (Mp 6), ai_ cy (rp 7) 12 (Mp 7), ai_ cy (rp 8) 12 (Mp 8), ai_ cy (rp 9) 12 (Mp 9), ai_ cy (rp 10) 12 (Mp 10), ai_ cy (rp 11) 12 (Mp 11), ai_ cy wc 12 fc, ai_ cy wf 12 ff] s.heap.size = A at hD hQ
  have hA : ∀ q : Nat, s.heap.size ≤ q → A q := fun q h => by rw [← hAe]; exact Or.inr h
  have hS : va_S A s.heap s.heap [] := va_S.rf
  have hl := lv_entry ([.ref xo, .int a1, .int a2, .int a3]) (n := 5) (Nat.le_of_ble_eq_true rfl)
  rw [lg_entry_eq]
  generalize (lg_sl ([.ref xo, .int a1, .int a2, .int a3]) ++ List.replicate (5 - (lg_sl ([.ref xo, .int a1, .int a2, .int a3])).length) Slot.unset).toArray = ls at hl ⊢
  have hl : lv_has ls 5 [(0, .ref xo), (1, .int a1), (2, .int a2), (3, .int a3)] := hl
  have zm5 : ((-5) : Int32).toInt = -5 := by decide
  have zm1 : ((-1) : Int32).toInt = -1 := by decide
  have z0 : (0 : Int32).toInt = 0 := by decide
  have z500 : (500 : Int32).toInt = 500 := by decide
  have zq0 : (0 : Int32).toInt = 0 := by decide
  have zq1 : (1 : Int32).toInt = 1 := by decide
  have zqv : (1000000000 : Int32).toInt = 1000000000 := by decide
  refine lv_aload_n hx hb dB_36_3_5.1.1.1.1 rfl (lv_at hl 0 rfl) ?_
  refine va_get (ci := 11) (v := .ref xn) (C := RX11) (T := TX11) (N := 12) hx hb hts (fun _ h => List.mem_cons_of_mem _ (List.mem_append_left _ (List.mem_append_left _ (List.mem_append_left _ (List.mem_append_right _ h))))) hown hK.1 hP 0 rfl rfl 1 (by decide) (hts (.fieldLink RX11 31 "CutAtlas" "net" "LCutAtlas$Net;") (List.mem_of_getElem? (i := 1) rfl)) (fun _ h9 => h9) rfl dB_36_3_5.1.1.1.2 ?_
  refine lv_iload_n hx hb dB_36_3_5.1.1.2.1 rfl (lv_at hl 1 rfl) ?_
  refine lv_i2l (v := a1.toInt64) hx hb dB_36_3_5.1.1.2.2 rfl ?_
  have q_5 : (a1.toInt64).toInt = a1.toInt := Int32.toInt_toInt64 a1
  refine lv_iload_n hx hb dB_36_3_5.1.2.1.1 rfl (lv_at hl 2 rfl) ?_
  refine lv_i2l (v := a2.toInt64) hx hb dB_36_3_5.1.2.1.2 rfl ?_
  have q_7 : (a2.toInt64).toInt = a2.toInt := Int32.toInt_toInt64 a2
  refine ct_R hP hD [ob3_0_ xn vp vn n1 n2 n3 n4 n5] [1] (by decide) rfl (fun hPc hDw => ?_)
  have hFc := va_free (wc := []) hD hS hA [] rfl
  refine va_calli (va_runV (As := [.long a1.toInt64, .long a2.toInt64]) (rest := []) ⟨hx, hb, hml, hown, hts⟩ (c_X3_hasPair l D cy s.heap.size xn n1 n2 n3 n4 n5 vp vn a1.toInt64 a2.toInt64) (cwV 2 hts gX11_cheapest_X3_hasPair rfl rfl rfl ⟨rfl, hd_X3_hasPair⟩ ⟨Nat.le_of_ble_eq_true rfl, Nat.le_of_ble_eq_true rfl⟩) ⟨bl_, va_recvX hK.1 hP (ci := 3) (q0 := 1) rfl rfl, fun U hU hW => ⟨rfl, by rw [hU], by rw [hU]; exact hPc, kk_mv hW hK, hDw⟩⟩ rfl rfl hl.1 rfl (lv_room (Nat.le_of_ble_eq_true rfl)) dB_36_3_5.1.2.2.1 ⟨Nat.le_of_ble_eq_true rfl, Nat.le_of_ble_eq_true rfl⟩) hS (fun q _ h => hFc q h) hFc (fun r_1 u t H locs ht hvm hw hB hz1 hk1 hS => ?_)
  have hP : va_P D vwCl _ H := ro_keep hP hk1
  rcases hw with ⟨w_2, e_⟩ | ⟨w_2, e_⟩
  · have e_ := e_.symm
    subst e_
    refine lv_if_eq (tgt := 25) hx hb dB_36_3_5.1.2.2.2 (by decide) (fun c_3 => ?_) (fun c_3 => ?_)
    · exact absurd c_3 (by decide)
    · have _ := c_3
      refine lv_iload_n hx hb dB_36_3_5.2.1.1.1 rfl (lv_at hl 3 rfl) ?_
      refine lv_if_lt (tgt := 25) hx hb dB_36_3_5.2.1.1.2 (by decide) (fun c_4 => ?_) (fun c_4 => ?_)
      · have t_4 : a3.toInt < (0 : Int32).toInt := Int32.lt_iff_toInt_lt.mp c_4
        refine lv_iconst (v := (-1)) hx hb dB_36_3_5.2.2.1.2 (by decide) ?_
        rw [hQ]
        exact W.iret (v := (-1)) hx hb hr (fun t ht hW => ⟨⟨(-1), (), rfl, (⟨fun h => absurd h (by unfold ckI; (repeat' (first | with_reducible refine if_n (by omega) ?_ | with_reducible refine if_ns (by omega) ?_ | with_reducible refine if_nz (by omega) ?_ | with_reducible exact if_p (by omega) (by omega) | with_reducible exact if_ps (by omega) (by omega) | with_reducible exact if_pz (by omega) (by omega))) <;> omega), fun _ => by decide⟩), Ml, Mr, f4, f5, f6, f7, f8, Mp, fc, ff, (by first | with_reducible assumption | assumption | exact rng_zero (by omega) (by omega) | omega), (by first | with_reducible assumption | assumption | exact rng_zero (by omega) (by omega) | omega), (by first | with_reducible assumption | assumption | exact rng_zero (by omega) (by omega) | omega), by rw [ht]; exact hP, hD⟩, hS.F ht⟩) hS.2.2 dB_36_3_5.2.2.2.1
      · have t_4 : ¬ a3.toInt < (0 : Int32).toInt := fun h => c_4 (Int32.lt_iff_toInt_lt.mpr h)
        refine lv_iload_n hx hb dB_36_3_5.2.1.2.1 rfl (lv_at hl 3 rfl) ?_
        refine lv_sipush (v := 500) hx hb dB_36_3_5.2.1.2.2 (by decide) ?_
        refine lv_icmp_le (tgt := 27) hx hb dB_36_3_5.2.2.1.1 (by decide) (fun c_5 => ?_) (fun c_5 => ?_)
        · have t_5 : a3.toInt ≤ (500 : Int32).toInt := Int32.le_iff_toInt_le.mp c_5
          refine lv_aload_n hx hb dB_36_3_5.2.2.2.2 rfl (lv_at hl 0 rfl) ?_
          refine lv_iload_n hx hb dB_36_3_6.1.1.1.1 rfl (lv_at hl 1 rfl) ?_
          refine lv_iload_n hx hb dB_36_3_6.1.1.1.2 rfl (lv_at hl 2 rfl) ?_
          refine ct_S hP hD hS hA [ob11_0_ xo xk xn xc xh xt xw xm xp pf ph tr fi, ob3_0_ xn vp vn n1 n2 n3 n4 n5, ai_ cy n1 40 fk, ai_ cy n2 40 fs, ai_ cy n3 40 fe, ai_ cy n4 40 fw, ai_ cy n5 40 fp, ob0_0_ xc xn xk clo cro c4 c5 c6 c7 c8, aq_ cy 6 clo 12 (gf_ rl), ai_ cy (rl 0) 12 (Ml 0), ai_ cy (rl 1) 12 (Ml 1), ai_ cy (rl 2) 12 (Ml 2), ai_ cy (rl 3) 12 (Ml 3), ai_ cy (rl 4) 12 (Ml 4), ai_ cy (rl 5) 12 (Ml 5), ai_ cy (rl 6) 12 (Ml 6), ai_ cy (rl 7) 12 (Ml 7), ai_ cy (rl 8) 12 (Ml 8), ai_ cy (rl 9) 12 (Ml 9), ai_ cy (rl 10) 12 (Ml 10), ai_ cy (rl 11) 12 (Ml 11), aq_ cy 6 cro 12 (gf_ rr), ai_ cy (rr 0) 12 (Mr 0), ai_ cy (rr 1) 12 (Mr 1), ai_ cy (rr 2) 12 (Mr 2), ai_ cy (rr 3) 12 (Mr 3), ai_ cy (rr 4) 12 (Mr 4), ai_ cy (rr 5) 12 (Mr 5), ai_ cy (rr 6) 12 (Mr 6), ai_ cy (rr 7) 12 (Mr 7), ai_ cy (rr 8) 12 (Mr 8), ai_ cy (rr 9) 12 (Mr 9), ai_ cy (rr 10) 12 (Mr 10), ai_ cy (rr 11) 12 (Mr 11), ai_ cy c4 40 f4, ai_ cy c5 40 f5, ai_ cy c6 40 f6, ai_ cy c7 12 f7, ai_ cy c8 12 f8, aq_ cy 3 xk 5 (kf_ k0 k1 k2 k3 k4), ob6_0_ k0, ob5_0_ k1, ob9_0_ k2, ob2_0_ k3, ob8_0_ k4] [0, 1, 2, 3, 4, 5, 6, 7, 8, 9, 10, 11, 12, 13, 14, 15, 16, 17, 18, 19, 20, 21, 22, 23, 24, 25, 26, 27, 28, 29, 30, 31, 32, 33, 34, 35, 36, 37, 38, 39, 40, 41, 42, 43, 44] (by decide +kernel) rfl (fun hPc hDw hFc hC_ => ?_)
          refine va_calli (va_runV (As := [.int a1, .int a2]) (rest := []) ⟨hx, hb, hml, hown, hts⟩ (c_X11_mostNow4 l D cy H.size xo xk xn xc xh xt xw xm xp pf ph tr fi n1 n2 n3 n4 n5 vp vn clo cro c4 c5 c6 c7 c8 fk fs fe fw fp rl Ml rr Mr f4 f5 f6 f7 f8 k0 k1 k2 k3 k4 a1 a2 (by first | with_reducible assumption | omega | assumption) (by first | with_reducible assumption | omega | assumption) (by first | with_reducible assumption | omega | assumption) (by first | with_reducible assumption | omega | assumption) (by first | with_reducible assumption | assumption | omega) (by first | with_reducible assumption | assumption | omega) (by first | with_reducible assumption | assumption | omega) (by first | with_reducible assumption | assumption | omega) (by first | with_reducible assumption | assumption | omega) (by first | with_reducible assumption | assumption | omega) (by first | with_reducible assumption | assumption | omega) (by first | with_reducible assumption | assumption | omega)) (cwV 2 hts gX11_cheapest_X11_mostNow rfl rfl rfl ⟨rfl, hd_X11_mostNow⟩ ⟨Nat.le_of_ble_eq_true rfl, Nat.le_of_ble_eq_true rfl⟩) ⟨bl_g, va_recvX hK.1 hP (ci := 11) (q0 := 0) rfl rfl, fun U hU hW => ⟨rfl, by rw [hU], by rw [hU]; exact hPc, ⟨kk_mv hW hK, arrOfT_moved hW.alike hG⟩, hDw⟩⟩ rfl rfl hl.1 rfl (lv_room (Nat.le_of_ble_eq_true rfl)) dB_36_3_6.1.1.2.1 ⟨Nat.le_of_ble_eq_true rfl, Nat.le_of_ble_eq_true rfl⟩) hS (fun q _ h => hFc q h) hFc (fun r_6 u t H locs ht hvm hw hB hz1 hk1 hS => ?_)
          obtain ⟨eu_, hw⟩ := hw
          have eu_ := eu_.symm
          subst eu_
          obtain ⟨eMl_7, eMr_8, e4_9, e5_10, e6_11, e7_12, e8_13, g_14, g_15, g_16, g_17, g_18, g_19, g_20, hP1, hD1⟩ := hB
          rw [ht] at hP1
          obtain ⟨hP, hD⟩ := va_join (wr := [ob10_0_ xw xc xk wpo wc wf, aq_ cy 6 wpo 12 (gf_ rp), ai_ cy (rp 0) 12 (Mp 0), ai_ cy (rp 1) 12 (Mp 1), ai_ cy (rp 2) 12 (Mp 2), ai_ cy (rp 3) 12 (Mp 3), ai_ cy (rp 4) 12 (Mp 4), ai_ cy (rp 5) 12 (Mp 5), ai_ cy (rp 6) 12 (Mp 6), ai_ cy (rp 7) 12 (Mp 7), ai_ cy (rp 8) 12 (Mp 8), ai_ cy (rp 9) 12 (Mp 9), ai_ cy (rp 10) 12 (Mp 10), ai_ cy (rp 11) 12 (Mp 11), ai_ cy wc 12 fc, ai_ cy wf 12 ff]) (w1 := [ob11_0_ xo xk xn xc xh xt xw xm xp pf ph tr fi, ob3_0_ xn vp vn n1 n2 n3 n4 n5, ai_ cy n1 40 fk, ai_ cy n2 40 fs, ai_ cy n3 40 fe, ai_ cy n4 40 fw, ai_ cy n5 40 fp, ob0_0_ xc xn xk clo cro c4 c5 c6 c7 c8, aq_ cy 6 clo 12 (gf_ rl), ai_ cy (rl 0) 12 (eMl_7 0), ai_ cy (rl 1) 12 (eMl_7 1), ai_ cy (rl 2) 12 (eMl_7 2), ai_ cy (rl 3) 12 (eMl_7 3), ai_ cy (rl 4) 12 (eMl_7 4), ai_ cy (rl 5) 12 (eMl_7 5), ai_ cy (rl 6) 12 (eMl_7 6), ai_ cy (rl 7) 12 (eMl_7 7), ai_ cy (rl 8) 12 (eMl_7 8), ai_ cy (rl 9) 12 (eMl_7 9), ai_ cy (rl 10) 12 (eMl_7 10), ai_ cy (rl 11) 12 (eMl_7 11), aq_ cy 6 cro 12 (gf_ rr), ai_ cy (rr 0) 12 (eMr_8 0), ai_ cy (rr 1) 12 (eMr_8 1), ai_ cy (rr 2) 12 (eMr_8 2), ai_ cy (rr 3) 12 (eMr_8 3), ai_ cy (rr 4) 12 (eMr_8 4), ai_ cy (rr 5) 12 (eMr_8 5), ai_ cy (rr 6) 12 (eMr_8 6), ai_ cy (rr 7) 12 (eMr_8 7), ai_ cy (rr 8) 12 (eMr_8 8), ai_ cy (rr 9) 12 (eMr_8 9), ai_ cy (rr 10) 12 (eMr_8 10), ai_ cy (rr 11) 12 (eMr_8 11), ai_ cy c4 40 e4_9, ai_ cy c5 40 e5_10, ai_ cy c6 40 e6_11, ai_ cy c7 12 e7_12, ai_ cy c8 12 e8_13, aq_ cy 3 xk 5 (kf_ k0 k1 k2 k3 k4), ob6_0_ k0, ob5_0_ k1, ob9_0_ k2, ob2_0_ k3, ob8_0_ k4]) hP hD [0, 1, 2, 3, 4, 5, 6, 7, 8, 9, 10, 11, 12, 13, 14, 15, 16, 17, 18, 19, 20, 21, 22, 23, 24, 25, 26, 27, 28, 29, 30, 31, 32, 33, 34, 35, 36, 37, 38, 39, 40, 41, 42, 43, 44] [45, 46, 47, 48, 49, 50, 51, 52, 53, 54, 55, 56, 57, 58, 59, 60] hC_ rfl (by decide +kernel) (by decide +kernel) hk1 hFc hP1 hD1
          refine pd_S hP hD [ob11_0_ xo xk xn xc xh xt xw xm xp pf ph tr fi, ob3_0_ xn vp vn n1 n2 n3 n4 n5, ai_ cy n1 40 fk, ai_ cy n2 40 fs, ai_ cy n3 40 fe, ai_ cy n4 40 fw, ai_ cy n5 40 fp, ob0_0_ xc xn xk clo cro c4 c5 c6 c7 c8, aq_ cy 6 clo 12 (gf_ rl), ai_ cy (rl 0) 12 (eMl_7 0), ai_ cy (rl 1) 12 (eMl_7 1), ai_ cy (rl 2) 12 (eMl_7 2), ai_ cy (rl 3) 12 (eMl_7 3), ai_ cy (rl 4) 12 (eMl_7 4), ai_ cy (rl 5) 12 (eMl_7 5), ai_ cy (rl 6) 12 (eMl_7 6), ai_ cy (rl 7) 12 (eMl_7 7), ai_ cy (rl 8) 12 (eMl_7 8), ai_ cy (rl 9) 12 (eMl_7 9), ai_ cy (rl 10) 12 (eMl_7 10), ai_ cy (rl 11) 12 (eMl_7 11), aq_ cy 6 cro 12 (gf_ rr), ai_ cy (rr 0) 12 (eMr_8 0), ai_ cy (rr 1) 12 (eMr_8 1), ai_ cy (rr 2) 12 (eMr_8 2), ai_ cy (rr 3) 12 (eMr_8 3), ai_ cy (rr 4) 12 (eMr_8 4), ai_ cy (rr 5) 12 (eMr_8 5), ai_ cy (rr 6) 12 (eMr_8 6), ai_ cy (rr 7) 12 (eMr_8 7), ai_ cy (rr 8) 12 (eMr_8 8), ai_ cy (rr 9) 12 (eMr_8 9), ai_ cy (rr 10) 12 (eMr_8 10), ai_ cy (rr 11) 12 (eMr_8 11), ai_ cy c4 40 e4_9, ai_ cy c5 40 e5_10, ai_ cy c6 40 e6_11, ai_ cy c7 12 e7_12, ai_ cy c8 12 e8_13, aq_ cy 3 xk 5 (kf_ k0 k1 k2 k3 k4), ob6_0_ k0, ob5_0_ k1, ob9_0_ k2, ob2_0_ k3, ob8_0_ k4, ob10_0_ xw xc xk wpo wc wf, aq_ cy 6 wpo 12 (gf_ rp), ai_ cy (rp 0) 12 (Mp 0), ai_ cy (rp 1) 12 (Mp 1), ai_ cy (rp 2) 12 (Mp 2), ai_ cy (rp 3) 12 (Mp 3), ai_ cy (rp 4) 12 (Mp 4), ai_ cy (rp 5) 12 (Mp 5), ai_ cy (rp 6) 12 (Mp 6), ai_ cy (rp 7) 12 (Mp 7), ai_ cy (rp 8) 12 (Mp 8), ai_ cy (rp 9) 12 (Mp 9), ai_ cy (rp 10) 12 (Mp 10), ai_ cy (rp 11) 12 (Mp 11), ai_ cy wc 12 fc, ai_ cy wf 12 ff] [16, 17, 18, 19, 20, 21, 22, 23, 24, 25, 26, 27, 28, 29, 30, 31, 32, 33, 34, 35, 36, 37, 38, 39, 40, 41, 42, 43, 44, 45, 46, 47, 48, 49, 50, 51, 52, 53, 54, 55, 56, 57, 58, 59, 60, 0, 1, 2, 3, 4, 5, 6, 7, 8, 9, 10, 11, 12, 13, 14, 15] (by decide +kernel) rfl (fun hP hD => ?_)
          have f0_r_6 := hw
          have hmo_ := f0_r_6
          have hfl_ := g_15
          have hcn_ := g_17
          have hmx_ := g_18
          refine lv_istore (lv' := [(4, .int r_6), (0, .ref xo), (1, .int a1), (2, .int a2), (3, .int a3)]) hx hb dB_36_3_6.1.1.2.2 hl (by decide) rfl (fun ls hl => ?_)
          refine lv_iload hx hb dB_36_3_6.1.2.1.1 (lv_at hl 0 rfl) ?_
          refine lv_bipush (v := (-5)) hx hb dB_36_3_6.1.2.1.2 (by decide) ?_
          refine lv_icmp_eq (tgt := 48) hx hb dB_36_3_6.1.2.2.1 (by decide) (fun c_21 => ?_) (fun c_21 => ?_)
          · have t_21 : r_6.toInt = ((-5) : Int32).toInt := congrArg Int32.toInt c_21
            refine lv_iconst (v := 0) hx hb dB_36_3_6.2.1.2.1 (by decide) ?_
            rw [hQ]
            exact W.iret (v := 0) hx hb hr (fun t ht hW => ⟨⟨0, (), rfl, (⟨fun _ => chA_0 hmo_ (by omega) (by decide), fun h => absurd (by unfold ckI; (repeat' (first | with_reducible refine if_n (by omega) ?_ | with_reducible refine if_ns (by omega) ?_ | with_reducible refine if_nz (by omega) ?_ | with_reducible exact if_p (by omega) (by omega) | with_reducible exact if_ps (by omega) (by omega) | with_reducible exact if_pz (by omega) (by omega))) <;> omega) h⟩), eMl_7, eMr_8, e4_9, e5_10, e6_11, e7_12, e8_13, Mp, fc, ff, (by first | with_reducible assumption | assumption | exact rng_zero (by omega) (by omega) | omega), (by first | with_reducible assumption | assumption | exact rng_zero (by omega) (by omega) | omega), (by first | with_reducible assumption | assumption | exact rng_zero (by omega) (by omega) | omega), by rw [ht]; exact hP, hD⟩, hS.F ht⟩) hS.2.2 dB_36_3_6.2.1.2.2
          · have t_21 : ¬ r_6.toInt = ((-5) : Int32).toInt := fun h => c_21 (Int32.toInt_inj.mp h)
            refine lv_iload hx hb dB_36_3_6.1.2.2.2 (lv_at hl 0 rfl) ?_
            refine lv_iload_n hx hb dB_36_3_6.2.1.1.1 rfl (lv_at hl 4 rfl) ?_
            refine lv_icmp_lt (tgt := 50) hx hb dB_36_3_6.2.1.1.2 (by decide) (fun c_22 => ?_) (fun c_22 => ?_)
            · have t_22 : r_6.toInt < a3.toInt := Int32.lt_iff_toInt_lt.mp c_22
              have hm0_ : 0 ≤ r_6.toInt := by rcases hmo_ with ⟨h_, _⟩ | ⟨h_, _⟩ <;> omega
              have hfw_ := hfl_ (by omega)
              have hmz_ : ∀ x y : Nat, x < vp.toNatClampNeg → y < vp.toNatClampNeg → 0 ≤ zM eMr_8 x y ∧ zM eMr_8 x y ≤ 160000000 := fun x y hx hy => by have h_ := hfw_.1 x y hx hy; have g_ := hfw_.1 y x hy hx; omega
              refine lv_aload_n hx hb dB_36_3_6.2.2.1.1 rfl (lv_at hl 1 rfl) ?_
              refine va_get (ci := 11) (v := .ref xw) (C := RX11) (T := TX11) (N := 12) hx hb hts (fun _ h => List.mem_cons_of_mem _ (List.mem_append_left _ (List.mem_append_left _ (List.mem_append_left _ (List.mem_append_right _ h))))) hown hK.1 hP 0 rfl rfl 5 (by decide) (hts (.fieldLink RX11 65 "CutAtlas" "widening" "LCutAtlas$Widening;") (List.mem_of_getElem? (i := 2) rfl)) (fun _ h9 => h9) rfl dB_36_3_6.2.2.1.2 ?_
              refine lv_iload_n hx hb dB_36_3_6.2.2.2.1 rfl (lv_at hl 2 rfl) ?_
              refine lv_iload_n hx hb dB_36_3_6.2.2.2.2 rfl (lv_at hl 3 rfl) ?_
              refine lv_iload_n hx hb dB_36_3_7.1.1 rfl (lv_at hl 4 rfl) ?_
              refine lv_iload hx hb dB_36_3_7.1.2 (lv_at hl 0 rfl) ?_
              refine lv_isub hx hb dB_36_3_7.2.1 ?_
              refine lv_topi (fun y_23 ey_23 => ?_)
              have ty_23 : y_23.toInt = a3.toInt - r_6.toInt := by rw [ey_23]; exact subI (by omega) (by omega)
              refine ct_S hP hD hS hA [ob10_0_ xw xc xk wpo wc wf, ob0_0_ xc xn xk clo cro c4 c5 c6 c7 c8, ob3_0_ xn vp vn n1 n2 n3 n4 n5, ai_ cy n1 40 fk, ai_ cy n2 40 fs, ai_ cy n3 40 fe, ai_ cy n5 40 fp, aq_ cy 6 cro 12 (gf_ rr), ai_ cy (rr 0) 12 (eMr_8 0), ai_ cy (rr 1) 12 (eMr_8 1), ai_ cy (rr 2) 12 (eMr_8 2), ai_ cy (rr 3) 12 (eMr_8 3), ai_ cy (rr 4) 12 (eMr_8 4), ai_ cy (rr 5) 12 (eMr_8 5), ai_ cy (rr 6) 12 (eMr_8 6), ai_ cy (rr 7) 12 (eMr_8 7), ai_ cy (rr 8) 12 (eMr_8 8), ai_ cy (rr 9) 12 (eMr_8 9), ai_ cy (rr 10) 12 (eMr_8 10), ai_ cy (rr 11) 12 (eMr_8 11), aq_ cy 6 wpo 12 (gf_ rp), ai_ cy (rp 0) 12 (Mp 0), ai_ cy (rp 1) 12 (Mp 1), ai_ cy (rp 2) 12 (Mp 2), ai_ cy (rp 3) 12 (Mp 3), ai_ cy (rp 4) 12 (Mp 4), ai_ cy (rp 5) 12 (Mp 5), ai_ cy (rp 6) 12 (Mp 6), ai_ cy (rp 7) 12 (Mp 7), ai_ cy (rp 8) 12 (Mp 8), ai_ cy (rp 9) 12 (Mp 9), ai_ cy (rp 10) 12 (Mp 10), ai_ cy (rp 11) 12 (Mp 11), ai_ cy wc 12 fc, ai_ cy wf 12 ff, aq_ cy 3 xk 5 (kf_ k0 k1 k2 k3 k4), ob6_0_ k0, ob5_0_ k1, ob9_0_ k2, ob2_0_ k3, ob8_0_ k4] [45, 7, 1, 2, 3, 4, 6, 21, 22, 23, 24, 25, 26, 27, 28, 29, 30, 31, 32, 33, 46, 47, 48, 49, 50, 51, 52, 53, 54, 55, 56, 57, 58, 59, 60, 39, 40, 41, 42, 43, 44] (by decide +kernel) rfl (fun hPc hDw hFc hC_ => ?_)
              refine va_calli (va_runV (As := [.int a1, .int a2, .int y_23]) (rest := []) ⟨hx, hb, hml, hown, hts⟩ (c_X10_pay2 l D cy H.size xw wpo wc wf xc xk clo cro c4 c5 c6 c7 c8 xn n1 n2 n3 n4 n5 vp vn fk fs fe fp rr eMr_8 rp Mp fc ff k0 k1 k2 k3 k4 a1 a2 y_23 (by first | with_reducible assumption | omega | assumption) (by first | with_reducible assumption | omega | assumption) (by first | with_reducible assumption | omega | assumption) (by first | with_reducible assumption | omega | assumption) (by first | with_reducible assumption | assumption | omega) (by first | with_reducible assumption | assumption | omega) (by first | with_reducible assumption | assumption | omega) (by first | with_reducible assumption | assumption | omega) (by first | with_reducible assumption | omega | assumption) (by first | with_reducible assumption | assumption | omega) (by first | with_reducible assumption | assumption | omega) (by first | with_reducible assumption | assumption | omega) (by first | with_reducible assumption | assumption | omega)) (cwV 3 hts gX11_cheapest_X10_pay rfl rfl rfl ⟨rfl, hd_X10_pay⟩ ⟨Nat.le_of_ble_eq_true rfl, Nat.le_of_ble_eq_true rfl⟩) ⟨bl_g, va_recvX hK.1 hP (ci := 10) (q0 := 45) rfl rfl, fun U hU hW => ⟨rfl, by rw [hU], by rw [hU]; exact hPc, ⟨kk_mv hW hK, arrOfT_moved hW.alike hG⟩, hDw⟩⟩ rfl rfl hl.1 rfl (lv_room (Nat.le_of_ble_eq_true rfl)) dB_36_3_7.2.2.1 ⟨Nat.le_of_ble_eq_true rfl, Nat.le_of_ble_eq_true rfl⟩) hS (fun q _ h => hFc q h) hFc (fun r_24 u t H locs ht hvm hw hB hz1 hk1 hS => ?_)
              obtain ⟨eMr_25, eMp_26, ec_27, ef_28, g_29, hP1, hD1⟩ := hB
              rw [ht] at hP1
              obtain ⟨hP, hD⟩ := va_join (wr := [ob11_0_ xo xk xn xc xh xt xw xm xp pf ph tr fi, ai_ cy n4 40 fw, aq_ cy 6 clo 12 (gf_ rl), ai_ cy (rl 0) 12 (eMl_7 0), ai_ cy (rl 1) 12 (eMl_7 1), ai_ cy (rl 2) 12 (eMl_7 2), ai_ cy (rl 3) 12 (eMl_7 3), ai_ cy (rl 4) 12 (eMl_7 4), ai_ cy (rl 5) 12 (eMl_7 5), ai_ cy (rl 6) 12 (eMl_7 6), ai_ cy (rl 7) 12 (eMl_7 7), ai_ cy (rl 8) 12 (eMl_7 8), ai_ cy (rl 9) 12 (eMl_7 9), ai_ cy (rl 10) 12 (eMl_7 10), ai_ cy (rl 11) 12 (eMl_7 11), ai_ cy c4 40 e4_9, ai_ cy c5 40 e5_10, ai_ cy c6 40 e6_11, ai_ cy c7 12 e7_12, ai_ cy c8 12 e8_13]) (w1 := [ob10_0_ xw xc xk wpo wc wf, ob0_0_ xc xn xk clo cro c4 c5 c6 c7 c8, ob3_0_ xn vp vn n1 n2 n3 n4 n5, ai_ cy n1 40 fk, ai_ cy n2 40 fs, ai_ cy n3 40 fe, ai_ cy n5 40 fp, aq_ cy 6 cro 12 (gf_ rr), ai_ cy (rr 0) 12 (eMr_25 0), ai_ cy (rr 1) 12 (eMr_25 1), ai_ cy (rr 2) 12 (eMr_25 2), ai_ cy (rr 3) 12 (eMr_25 3), ai_ cy (rr 4) 12 (eMr_25 4), ai_ cy (rr 5) 12 (eMr_25 5), ai_ cy (rr 6) 12 (eMr_25 6), ai_ cy (rr 7) 12 (eMr_25 7), ai_ cy (rr 8) 12 (eMr_25 8), ai_ cy (rr 9) 12 (eMr_25 9), ai_ cy (rr 10) 12 (eMr_25 10), ai_ cy (rr 11) 12 (eMr_25 11), aq_ cy 6 wpo 12 (gf_ rp), ai_ cy (rp 0) 12 (eMp_26 0), ai_ cy (rp 1) 12 (eMp_26 1), ai_ cy (rp 2) 12 (eMp_26 2), ai_ cy (rp 3) 12 (eMp_26 3), ai_ cy (rp 4) 12 (eMp_26 4), ai_ cy (rp 5) 12 (eMp_26 5), ai_ cy (rp 6) 12 (eMp_26 6), ai_ cy (rp 7) 12 (eMp_26 7), ai_ cy (rp 8) 12 (eMp_26 8), ai_ cy (rp 9) 12 (eMp_26 9), ai_ cy (rp 10) 12 (eMp_26 10), ai_ cy (rp 11) 12 (eMp_26 11), ai_ cy wc 12 ec_27, ai_ cy wf 12 ef_28, aq_ cy 3 xk 5 (kf_ k0 k1 k2 k3 k4), ob6_0_ k0, ob5_0_ k1, ob9_0_ k2, ob2_0_ k3, ob8_0_ k4]) hP hD [45, 7, 1, 2, 3, 4, 6, 21, 22, 23, 24, 25, 26, 27, 28, 29, 30, 31, 32, 33, 46, 47, 48, 49, 50, 51, 52, 53, 54, 55, 56, 57, 58, 59, 60, 39, 40, 41, 42, 43, 44] [0, 5, 8, 9, 10, 11, 12, 13, 14, 15, 16, 17, 18, 19, 20, 34, 35, 36, 37, 38] hC_ rfl (by decide +kernel) (by decide +kernel) hk1 hFc hP1 hD1
              refine pd_S hP hD [ob11_0_ xo xk xn xc xh xt xw xm xp pf ph tr fi, ob3_0_ xn vp vn n1 n2 n3 n4 n5, ai_ cy n1 40 fk, ai_ cy n2 40 fs, ai_ cy n3 40 fe, ai_ cy n4 40 fw, ai_ cy n5 40 fp, ob0_0_ xc xn xk clo cro c4 c5 c6 c7 c8, aq_ cy 6 clo 12 (gf_ rl), ai_ cy (rl 0) 12 (eMl_7 0), ai_ cy (rl 1) 12 (eMl_7 1), ai_ cy (rl 2) 12 (eMl_7 2), ai_ cy (rl 3) 12 (eMl_7 3), ai_ cy (rl 4) 12 (eMl_7 4), ai_ cy (rl 5) 12 (eMl_7 5), ai_ cy (rl 6) 12 (eMl_7 6), ai_ cy (rl 7) 12 (eMl_7 7), ai_ cy (rl 8) 12 (eMl_7 8), ai_ cy (rl 9) 12 (eMl_7 9), ai_ cy (rl 10) 12 (eMl_7 10), ai_ cy (rl 11) 12 (eMl_7 11), aq_ cy 6 cro 12 (gf_ rr), ai_ cy (rr 0) 12 (eMr_25 0), ai_ cy (rr 1) 12 (eMr_25 1), ai_ cy (rr 2) 12 (eMr_25 2), ai_ cy (rr 3) 12 (eMr_25 3), ai_ cy (rr 4) 12 (eMr_25 4), ai_ cy (rr 5) 12 (eMr_25 5), ai_ cy (rr 6) 12 (eMr_25 6), ai_ cy (rr 7) 12 (eMr_25 7), ai_ cy (rr 8) 12 (eMr_25 8), ai_ cy (rr 9) 12 (eMr_25 9), ai_ cy (rr 10) 12 (eMr_25 10), ai_ cy (rr 11) 12 (eMr_25 11), ai_ cy c4 40 e4_9, ai_ cy c5 40 e5_10, ai_ cy c6 40 e6_11, ai_ cy c7 12 e7_12, ai_ cy c8 12 e8_13, aq_ cy 3 xk 5 (kf_ k0 k1 k2 k3 k4), ob6_0_ k0, ob5_0_ k1, ob9_0_ k2, ob2_0_ k3, ob8_0_ k4, ob10_0_ xw xc xk wpo wc wf, aq_ cy 6 wpo 12 (gf_ rp), ai_ cy (rp 0) 12 (eMp_26 0), ai_ cy (rp 1) 12 (eMp_26 1), ai_ cy (rp 2) 12 (eMp_26 2), ai_ cy (rp 3) 12 (eMp_26 3), ai_ cy (rp 4) 12 (eMp_26 4), ai_ cy (rp 5) 12 (eMp_26 5), ai_ cy (rp 6) 12 (eMp_26 6), ai_ cy (rp 7) 12 (eMp_26 7), ai_ cy (rp 8) 12 (eMp_26 8), ai_ cy (rp 9) 12 (eMp_26 9), ai_ cy (rp 10) 12 (eMp_26 10), ai_ cy (rp 11) 12 (eMp_26 11), ai_ cy wc 12 ec_27, ai_ cy wf 12 ef_28] [0, 22, 23, 24, 25, 1, 26, 21, 2, 3, 4, 5, 6, 7, 8, 9, 10, 11, 12, 13, 14, 27, 28, 29, 30, 31, 32, 33, 34, 35, 36, 37, 38, 39, 15, 16, 17, 18, 19, 55, 56, 57, 58, 59, 60, 20, 40, 41, 42, 43, 44, 45, 46, 47, 48, 49, 50, 51, 52, 53, 54] (by decide +kernel) rfl (fun hP hD => ?_)
              have f0_r_24 := hw
              have hpy_ : payR (zM eMr_8) (prM fk fs fe fp vp.toNatClampNeg vn.toNatClampNeg) vp.toNatClampNeg a1.toNatClampNeg a2.toNatClampNeg (a3.toInt - r_6.toInt) r_24.toInt := by have h_ := f0_r_24; rw [show y_23.toInt = a3.toInt - r_6.toInt by omega] at h_; exact h_
              rw [hQ]
              exact W.iret (v := r_24) hx hb hr (fun t ht hW => ⟨⟨r_24, (), rfl, (⟨fun _ => chA_p hmo_ (by omega) (pay_ans (mtx_pt hmx_ hnc hpr hvp hvn) (hcn_ (by omega)) hnc hdc hpr r_fp hvn hvp hpy_), fun h => absurd (by unfold ckI; (repeat' (first | with_reducible refine if_n (by omega) ?_ | with_reducible refine if_ns (by omega) ?_ | with_reducible refine if_nz (by omega) ?_ | with_reducible exact if_p (by omega) (by omega) | with_reducible exact if_ps (by omega) (by omega) | with_reducible exact if_pz (by omega) (by omega))) <;> omega) h⟩), eMl_7, eMr_25, e4_9, e5_10, e6_11, e7_12, e8_13, eMp_26, ec_27, ef_28, (by first | with_reducible assumption | assumption | exact rng_zero (by omega) (by omega) | omega), (by first | with_reducible assumption | assumption | exact rng_zero (by omega) (by omega) | omega), (by first | with_reducible assumption | assumption | exact rng_zero (by omega) (by omega) | omega), by rw [ht]; exact hP, hD⟩, hS.F ht⟩) hS.2.2 dB_36_3_7.2.2.2
            · have t_22 : ¬ r_6.toInt < a3.toInt := fun h => c_22 (Int32.lt_iff_toInt_lt.mpr h)
              refine lv_iconst (v := 0) hx hb dB_36_3_6.2.1.2.1 (by decide) ?_
              rw [hQ]
              exact W.iret (v := 0) hx hb hr (fun t ht hW => ⟨⟨0, (), rfl, (⟨fun _ => chA_0 hmo_ (by omega) (by decide), fun h => absurd (by unfold ckI; (repeat' (first | with_reducible refine if_n (by omega) ?_ | with_reducible refine if_ns (by omega) ?_ | with_reducible refine if_nz (by omega) ?_ | with_reducible exact if_p (by omega) (by omega) | with_reducible exact if_ps (by omega) (by omega) | with_reducible exact if_pz (by omega) (by omega))) <;> omega) h⟩), eMl_7, eMr_8, e4_9, e5_10, e6_11, e7_12, e8_13, Mp, fc, ff, (by first | with_reducible assumption | assumption | exact rng_zero (by omega) (by omega) | omega), (by first | with_reducible assumption | assumption | exact rng_zero (by omega) (by omega) | omega), (by first | with_reducible assumption | assumption | exact rng_zero (by omega) (by omega) | omega), by rw [ht]; exact hP, hD⟩, hS.F ht⟩) hS.2.2 dB_36_3_6.2.1.2.2
        · have t_5 : ¬ a3.toInt ≤ (500 : Int32).toInt := fun h => c_5 (Int32.le_iff_toInt_le.mpr h)
          refine lv_iconst (v := (-1)) hx hb dB_36_3_5.2.2.1.2 (by decide) ?_
          rw [hQ]
          exact W.iret (v := (-1)) hx hb hr (fun t ht hW => ⟨⟨(-1), (), rfl, (⟨fun h => absurd h (by unfold ckI; (repeat' (first | with_reducible refine if_n (by omega) ?_ | with_reducible refine if_ns (by omega) ?_ | with_reducible refine if_nz (by omega) ?_ | with_reducible exact if_p (by omega) (by omega) | with_reducible exact if_ps (by omega) (by omega) | with_reducible exact if_pz (by omega) (by omega))) <;> omega), fun _ => by decide⟩), Ml, Mr, f4, f5, f6, f7, f8, Mp, fc, ff, (by first | with_reducible assumption | assumption | exact rng_zero (by omega) (by omega) | omega), (by first | with_reducible assumption | assumption | exact rng_zero (by omega) (by omega) | omega), (by first | with_reducible assumption | assumption | exact rng_zero (by omega) (by omega) | omega), by rw [ht]; exact hP, hD⟩, hS.F ht⟩) hS.2.2 dB_36_3_5.2.2.2.1
  · have e_ := e_.symm
    subst e_
    refine lv_if_eq (tgt := 25) hx hb dB_36_3_5.1.2.2.2 (by decide) (fun c_30 => ?_) (fun c_30 => ?_)
    · have _ := c_30
      refine lv_iconst (v := (-1)) hx hb dB_36_3_5.2.2.1.2 (by decide) ?_
      rw [hQ]
      exact W.iret (v := (-1)) hx hb hr (fun t ht hW => ⟨⟨(-1), (), rfl, (⟨fun h => absurd h (by unfold ckI; (repeat' (first | with_reducible refine if_n (by omega) ?_ | with_reducible refine if_ns (by omega) ?_ | with_reducible refine if_nz (by omega) ?_ | with_reducible exact if_p (by omega) (by omega) | with_reducible exact if_ps (by omega) (by omega) | with_reducible exact if_pz (by omega) (by omega))) <;> omega), fun _ => by decide⟩), Ml, Mr, f4, f5, f6, f7, f8, Mp, fc, ff, (by first | with_reducible assumption | assumption | exact rng_zero (by omega) (by omega) | omega), (by first | with_reducible assumption | assumption | exact rng_zero (by omega) (by omega) | omega), (by first | with_reducible assumption | assumption | exact rng_zero (by omega) (by omega) | omega), by rw [ht]; exact hP, hD⟩, hS.F ht⟩) hS.2.2 dB_36_3_5.2.2.2.1
    · exact absurd c_30 (by decide)
end
