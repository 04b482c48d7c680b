set_option maxHeartbeats 4000000 in
set_option maxRecDepth 100000 in
theorem c_X7_chooseForCut2_0 (l : Launch) (D : va_G) (cy : Nat → ClassId) (sz : Nat) (xh : Nat) (u1 : Int32) (u2 : Int32) (u3 : Int32) (u4 : Int32) (u5 : Int32) (u6 : Int32) (u7 : Int32) (u8 : Int32) (xc : Nat) (xk : Nat) (clo : Nat) (cro : Nat) (c4 : Nat) (c5 : Nat) (c6 : Nat) (c7 : Nat) (c8 : Nat) (xn : Nat) (n1 : Nat) (n2 : Nat) (n3 : Nat) (n4 : Nat) (n5 : Nat) (vp : Int32) (vn : Int32) (rl : Nat → Nat) (Ml : Nat → Nat → Int32) (a1 : Int32) (a2 : Int32) (a3 : Int32) (hvp : 0 ≤ vp.toInt ∧ vp.toInt ≤ 12) (q1 : -1 ≤ a1.toInt ∧ a1.toInt < 0) (hM : ∀ x y : Nat, x < vp.toNatClampNeg → y < vp.toNatClampNeg → 0 ≤ zM Ml x y ∧ zM Ml x y ≤ 80000000) (hA : 0 ≤ u3.toInt ∧ u3.toInt ≤ 1000000) (hh : hnt (zM Ml) vp.toNatClampNeg (a1.toInt + 1).toNat u1 u2 a2 a3.toInt) (hs : scn (qF (zM Ml) vp.toNatClampNeg u1 u2 u3.toInt) u4.toInt a2.toNatClampNeg u5 u6) : Met l yX7_chooseForCut wsX7_chooseForCut ({ frames := 1, cells := 0, slots := 0, locals := 22 }) (va_Pc [.ref xh, .int a1, .int a2, .int a3] (fun U => U.heap.size = sz ∧ va_P D vwCl [ob7_0_ xh xc u1 u2 u3 u4 u5 u6 u7 u8, ob0_0_ xc xn xk clo cro c4 c5 c6 c7 c8, ob3_0_ xn vp vn n1 n2 n3 n4 n5, aq_ cy 6 clo 12 (gf_ rl), ai_ cy (rl 0) 12 (Ml 0), ai_ cy (rl 1) 12 (Ml 1), ai_ cy (rl 2) 12 (Ml 2), ai_ cy (rl 3) 12 (Ml 3), ai_ cy (rl 4) 12 (Ml 4), ai_ cy (rl 5) 12 (Ml 5), ai_ cy (rl 6) 12 (Ml 6), ai_ cy (rl 7) 12 (Ml 7), ai_ cy (rl 8) 12 (Ml 8), ai_ cy (rl 9) 12 (Ml 9), ai_ cy (rl 10) 12 (Ml 10), ai_ cy (rl 11) 12 (Ml 11)] U.heap ∧ kg_ D cy U ∧ va_D (fun _ => True) [ob7_0_ xh xc u1 u2 u3 u4 u5 u6 u7 u8, ob0_0_ xc xn xk clo cro c4 c5 c6 c7 c8, ob3_0_ xn vp vn n1 n2 n3 n4 n5, aq_ cy 6 clo 12 (gf_ rl), ai_ cy (rl 0) 12 (Ml 0), ai_ cy (rl 1) 12 (Ml 1), ai_ cy (rl 2) 12 (Ml 2), ai_ cy (rl 3) 12 (Ml 3), ai_ cy (rl 4) 12 (Ml 4), ai_ cy (rl 5) 12 (Ml 5), ai_ cy (rl 6) 12 (Ml 6), ai_ cy (rl 7) 12 (Ml 7), ai_ cy (rl 8) 12 (Ml 8), ai_ cy (rl 9) 12 (Ml 9), ai_ cy (rl 10) 12 (Ml 10), ai_ cy (rl 11) 12 (Ml 11)])) (va_Qv (fun (_ : Unit) => True) (fun (_ : Unit) (t : State) => ∃ (v5 : Int32), ∃ (v6 : Int32), (scn (qF (zM Ml) vp.toNatClampNeg u1 u2 u3.toInt) u4.toInt (a2.toNatClampNeg + 2 ^ (a1.toInt + 1).toNat) v5 v6) ∧ va_P D vwCl [ob7_0_ xh xc u1 u2 u3 u4 v5 v6 u7 u8, ob0_0_ xc xn xk clo cro c4 c5 c6 c7 c8, ob3_0_ xn vp vn n1 n2 n3 n4 n5, aq_ cy 6 clo 12 (gf_ rl), ai_ cy (rl 0) 12 (Ml 0), ai_ cy (rl 1) 12 (Ml 1), ai_ cy (rl 2) 12 (Ml 2), ai_ cy (rl 3) 12 (Ml 3), ai_ cy (rl 4) 12 (Ml 4), ai_ cy (rl 5) 12 (Ml 5), ai_ cy (rl 6) 12 (Ml 6), ai_ cy (rl 7) 12 (Ml 7), ai_ cy (rl 8) 12 (Ml 8), ai_ cy (rl 9) 12 (Ml 9), ai_ cy (rl 10) 12 (Ml 10), ai_ cy (rl 11) 12 (Ml 11)] t.heap ∧ va_D (va_A [ob7_0_ xh xc u1 u2 u3 u4 u5 u6 u7 u8, ob0_0_ xc xn xk clo cro c4 c5 c6 c7 c8, ob3_0_ xn vp vn n1 n2 n3 n4 n5, aq_ cy 6 clo 12 (gf_ rl), ai_ cy (rl 0) 12 (Ml 0), ai_ cy (rl 1) 12 (Ml 1), ai_ cy (rl 2) 12 (Ml 2), ai_ cy (rl 3) 12 (Ml 3), ai_ cy (rl 4) 12 (Ml 4), ai_ cy (rl 5) 12 (Ml 5), ai_ cy (rl 6) 12 (Ml 6), ai_ cy (rl 7) 12 (Ml 7), ai_ cy (rl 8) 12 (Ml 8), ai_ cy (rl 9) 12 (Ml 9), ai_ cy (rl 10) 12 (Ml 10), ai_ cy (rl 11) 12 (Ml 11)] sz) [ob7_0_ xh xc u1 u2 u3 u4 v5 v6 u7 u8, ob0_0_ xc xn xk clo cro c4 c5 c6 c7 c8, ob3_0_ xn vp vn n1 n2 n3 n4 n5, aq_ cy 6 clo 12 (gf_ rl), ai_ cy (rl 0) 12 (Ml 0), ai_ cy (rl 1) 12 (Ml 1), ai_ cy (rl 2) 12 (Ml 2), ai_ cy (rl 3) 12 (Ml 3), ai_ cy (rl 4) 12 (Ml 4), ai_ cy (rl 5) 12 (Ml 5), ai_ cy (rl 6) 12 (Ml 6), ai_ cy (rl 7) 12 (Ml 7), ai_ cy (rl 8) 12 (Ml 8), ai_ cy (rl 9) 12 (Ml 9), ai_ cy (rl 10) 12 (Ml 10), ai_ cy (rl 11) 12 (Ml 11)]) (va_A [ob7_0_ xh xc u1 u2 u3 u4 u5 u6 u7 u8, ob0_0_ xc xn xk clo cro c4 c5 c6 c7 c8, ob3_0_ xn vp vn n1 n2 n3 n4 n5, aq_ cy 6 clo 12 (gf_ rl), ai_ cy (rl 0) 12 (Ml 0), ai_ cy (rl 1) 12 (Ml 1), ai_ cy (rl 2) 12 (Ml 2), ai_ cy (rl 3) 12 (Ml 3), ai_ cy (rl 4) 12 (Ml 4), ai_ cy (rl 5) 12 (Ml 5), ai_ cy (rl 6) 12 (Ml 6), ai_ cy (rl 7) 12 (Ml 7), ai_ cy (rl 8) 12 (Ml 8), ai_ cy (rl 9) 12 (Ml 9), ai_ cy (rl 10) 12 (Ml 10), ai_ cy (rl 11) 12 (Ml 11)] sz)) 0 0 (va_A [ob7_0_ xh xc u1 u2 u3 u4 u5 u6 u7 u8, ob0_0_ xc xn xk clo cro c4 c5 c6 c7 c8, ob3_0_ xn vp vn n1 n2 n3 n4 n5, aq_ cy 6 clo 12 (gf_ rl), ai_ cy (rl 0) 12 (Ml 0), ai_ cy (rl 1) 12 (Ml 1), ai_ cy (rl 2) 12 (Ml 2), ai_ cy (rl 3) 12 (Ml 3), ai_ cy (rl 4) 12 (Ml 4), ai_ cy (rl 5) 12 (Ml 5), ai_ cy (rl 6) 12 (Ml 6), ai_ cy (rl 7) 12 (Ml 7), ai_ cy (rl 8) 12 (Ml 8), ai_ cy (rl 9) 12 (Ml 9), ai_ cy (rl 10) 12 (Ml 10), ai_ cy (rl 11) 12 (Ml 11)] sz) := by
  refine ofQ (cc := cX7_chooseForCut) (maxL := 5) (ret := none) (by decide) rfl ?_
  intro p e s m args below meth c s₁ Q hQ B hml hv
  obtain ⟨rfl, hsz, hP, hK, hD0⟩ := hv
  have hG := hK.2
  have hK := hK.1
  have hx := B.exec
  have hb := B.bytes
  have hr := B.returns
  have hts := atoms_spec (ws := wsX7_chooseForCut) B.pre
  have hown : s.vm.findClass RX7 = some m.cls := by have h_ := findClass_of_methodNamed B.named; exact h_
  have hlocks := B.notSynchronized
  subst hsz
  have hD := hD0.self (sz := s.heap.size)
  generalize hAe : va_A [ob7_0_ xh xc u1 u2 u3 u4 u5 u6 u7 u8, ob0_0_ xc xn xk clo cro c4 c5 c6 c7 c8, ob3_0_ xn vp vn n1 n2 n3 n4 n5, aq_ cy 6 clo 12 (gf_ rl), ai_ cy (rl 0) 12 (Ml 0), ai_ cy (rl 1) 12 (Ml 1), ai_ cy (rl 2) 12 (Ml 2), ai_ cy (rl 3) 12 (Ml 3), ai_ cy (rl 4) 12 (Ml 4), ai_ cy (rl 5) 12 (Ml 5), ai_ cy (rl 6) 12 (Ml 6), ai_ cy (rl 7) 12 (Ml 7), ai_ cy (rl 8) 12 (Ml 8), ai_ cy (rl 9) 12 (Ml 9), ai_ cy (rl 10) 12 (Ml 10), ai_ cy (rl 11) 12 (Ml 11)] s.heap.size = A at hD hQ
  have hA : ∀ q : Nat, s.heap.size ≤ q → A q := fun q h => by rw [← hAe]; exact Or.inr h
  have hS : va_S A s.heap s.heap [] := va_S.rf
  have hl := lv_entry ([.ref xh, .int a1, .int a2, .int a3]) (n := 5) (Nat.le_of_ble_eq_true rfl)
  rw [lg_entry_eq]
  generalize (lg_sl ([.ref xh, .int a1, .int a2, .int a3]) ++ List.replicate (5 - (lg_sl ([.ref xh, .int a1, .int a2, .int a3])).length) Slot.unset).toArray = ls at hl ⊢
  have hl : lv_has ls 5 [(0, .ref xh), (1, .int a1), (2, .int a2), (3, .int a3)] := hl
  have zm9 : ((-9) : Int32).toInt = -9 := by decide
  have z0 : (0 : Int32).toInt = 0 := by decide
  have cv_ := clI (i := vp) (by omega)
  have hnn_ : ∀ x y : Nat, x < vp.toNatClampNeg → y < vp.toNatClampNeg → 0 ≤ zM Ml x y := fun x y hx hy => (hM x y hx hy).1
  have ha3_ := hnt_nn hh hnn_
  have hlt_ := hnt_lt hh (by omega)
  refine lv_iload_n hx hb dB_36_1_58.1.1.1.1 rfl (lv_at hl 3 rfl) ?_
  refine lv_aload_n hx hb dB_36_1_58.1.1.1.2 rfl (lv_at hl 0 rfl) ?_
  refine va_get (ci := 7) (v := .int u3) (C := RX7) (T := TX7) (N := 9) hx hb hts (fun _ h => List.mem_cons_of_mem _ (List.mem_append_left _ (List.mem_append_left _ (List.mem_append_right _ h)))) hown hK.1 hP 0 rfl rfl 3 (by decide) (hts (.fieldLink RX7 33 "CutAtlas$SetHunt" "aim" "I") (List.mem_of_getElem? (i := 1) rfl)) (fun _ h9 => h9) rfl dB_36_1_58.1.1.2.1 ?_
  refine lv_icmp_gt (tgt := 17) hx hb dB_36_1_58.1.1.2.2 (by decide) (fun c_1 => ?_) (fun c_1 => ?_)
  · have t_1 : u3.toInt < a3.toInt := Int32.lt_iff_toInt_lt.mp c_1
    rw [hQ]
    exact W.vret hx hb hr (fun t ht hW => ⟨⟨(), rfl, trivial, u5, u6, (by first | exact scn_skip hs (fun j h1 h2 => hnt_big hh (by omega) hnn_ (by omega) h1 h2) | exact scn_found hs (by omega)), by rw [ht]; exact hP, hD⟩, hS.F ht⟩) hS.2.2 dB_36_1_58.2.1.1.1
  · have t_1 : ¬ u3.toInt < a3.toInt := fun h => c_1 (Int32.lt_iff_toInt_lt.mpr h)
    refine lv_aload_n hx hb dB_36_1_58.1.2.1.1 rfl (lv_at hl 0 rfl) ?_
    refine va_get (ci := 7) (v := .int u6) (C := RX7) (T := TX7) (N := 9) hx hb hts (fun _ h => List.mem_cons_of_mem _ (List.mem_append_left _ (List.mem_append_left _ (List.mem_append_right _ h)))) hown hK.1 hP 0 rfl rfl 6 (by decide) (hts (.fieldLink RX7 24 "CutAtlas$SetHunt" "found" "I") (List.mem_of_getElem? (i := 2) rfl)) (fun _ h9 => h9) rfl dB_36_1_58.1.2.1.2 ?_
    refine lv_bipush (v := (-9)) hx hb dB_36_1_58.1.2.2.1 (by decide) ?_
    refine lv_icmp_eq (tgt := 18) hx hb dB_36_1_58.1.2.2.2 (by decide) (fun c_2 => ?_) (fun c_2 => ?_)
    · have t_2 : u6.toInt = ((-9) : Int32).toInt := congrArg Int32.toInt c_2
      refine lv_iload_n hx hb dB_36_1_58.2.1.1.2 rfl (lv_at hl 1 rfl) ?_
      refine lv_if_ge (tgt := 29) hx hb dB_36_1_58.2.1.2.1 (by decide) (fun c_3 => ?_) (fun c_3 => ?_)
      · have t_3 : (0 : Int32).toInt ≤ a1.toInt := Int32.le_iff_toInt_le.mp c_3
        exfalso; omega
      · have t_3 : ¬ (0 : Int32).toInt ≤ a1.toInt := fun h => c_3 (Int32.le_iff_toInt_le.mpr h)
        have hK_ : (a1.toInt + 1).toNat = 0 := by omega
        have hh0_ : hnt (zM Ml) vp.toNatClampNeg 0 u1 u2 a2 a3.toInt := by rw [hK_] at hh; exact hh
        have hsn_ := scn_not hs (by omega) (by omega)
        have hcb_ := cnQ_nn (p := qF (zM Ml) vp.toNatClampNeg u1 u2 u3.toInt) (k := a2.toNatClampNeg)
        refine lv_aload_n hx hb dB_36_1_58.2.1.2.2 rfl (lv_at hl 0 rfl) ?_
        refine lv_iload_n hx hb dB_36_1_58.2.2.1.1 rfl (lv_at hl 2 rfl) ?_
        refine lv_iload_n hx hb dB_36_1_58.2.2.1.2 rfl (lv_at hl 3 rfl) ?_
        refine ct_S hP hD hS hA [ob7_0_ xh xc u1 u2 u3 u4 u5 u6 u7 u8] [0] (by decide) rfl (fun hPc hDw hFc hC_ => ?_)
        refine va_callv (va_runV (As := [.int a2, .int a3]) (rest := []) ⟨hx, hb, hml, hown, hts⟩ (c_X7_meet2 l D cy s.heap.size xh u1 u2 u3 u4 u5 u6 u7 u8 xc a2 a3 (by first | with_reducible assumption | omega | assumption)) (cwV 2 hts gX7_chooseForCut_X7_meet rfl rfl rfl ⟨rfl, hd_X7_meet⟩ ⟨Nat.le_of_ble_eq_true rfl, Nat.le_of_ble_eq_true rfl⟩) ⟨bl_, va_recvX hK.1 hP (ci := 7) (q0 := 0) rfl rfl, fun U hU hW => ⟨rfl, by rw [hU], by rw [hU]; exact hPc, kk_mv hW hK, hDw⟩⟩ rfl rfl hl.1 rfl (lv_room (Nat.le_of_ble_eq_true rfl)) dB_36_1_58.2.2.2.1 ⟨Nat.le_of_ble_eq_true rfl, Nat.le_of_ble_eq_true rfl⟩) hS (fun q _ h => hFc q h) hFc (fun u t H locs ht hvm hw hB hz1 hk1 hS => ?_)
        obtain ⟨v5_5, v6_6, g_7, hP1, hD1⟩ := hB
        rw [ht] at hP1
        obtain ⟨hP, hD⟩ := va_join (wr := [ob0_0_ xc xn xk clo cro c4 c5 c6 c7 c8, ob3_0_ xn vp vn n1 n2 n3 n4 n5, aq_ cy 6 clo 12 (gf_ rl), ai_ cy (rl 0) 12 (Ml 0), ai_ cy (rl 1) 12 (Ml 1), ai_ cy (rl 2) 12 (Ml 2), ai_ cy (rl 3) 12 (Ml 3), ai_ cy (rl 4) 12 (Ml 4), ai_ cy (rl 5) 12 (Ml 5), ai_ cy (rl 6) 12 (Ml 6), ai_ cy (rl 7) 12 (Ml 7), ai_ cy (rl 8) 12 (Ml 8), ai_ cy (rl 9) 12 (Ml 9), ai_ cy (rl 10) 12 (Ml 10), ai_ cy (rl 11) 12 (Ml 11)]) (w1 := [ob7_0_ xh xc u1 u2 u3 u4 v5_5 v6_6 u7 u8]) hP hD [0] [1, 2, 3, 4, 5, 6, 7, 8, 9, 10, 11, 12, 13, 14, 15] hC_ rfl (by decide +kernel) (by decide +kernel) hk1 hFc hP1 hD1
        refine pd_S hP hD [ob7_0_ xh xc u1 u2 u3 u4 v5_5 v6_6 u7 u8, ob0_0_ xc xn xk clo cro c4 c5 c6 c7 c8, ob3_0_ xn vp vn n1 n2 n3 n4 n5, aq_ cy 6 clo 12 (gf_ rl), ai_ cy (rl 0) 12 (Ml 0), ai_ cy (rl 1) 12 (Ml 1), ai_ cy (rl 2) 12 (Ml 2), ai_ cy (rl 3) 12 (Ml 3), ai_ cy (rl 4) 12 (Ml 4), ai_ cy (rl 5) 12 (Ml 5), ai_ cy (rl 6) 12 (Ml 6), ai_ cy (rl 7) 12 (Ml 7), ai_ cy (rl 8) 12 (Ml 8), ai_ cy (rl 9) 12 (Ml 9), ai_ cy (rl 10) 12 (Ml 10), ai_ cy (rl 11) 12 (Ml 11)] [15, 0, 1, 2, 3, 4, 5, 6, 7, 8, 9, 10, 11, 12, 13, 14] (by decide +kernel) rfl (fun hP hD => ?_)
        rw [hQ]
        exact W.vret hx hb hr (fun t ht hW => ⟨⟨(), rfl, trivial, v5_5, v6_6, (scn_to (leaf_end hs (by omega) hlt_ (hnt_leaf hh0_ (by omega)) g_7) (by rw [hK_])), by rw [ht]; exact hP, hD⟩, hS.F ht⟩) hS.2.2 dB_36_1_58.2.2.2.2
    · have t_2 : ¬ u6.toInt = ((-9) : Int32).toInt := fun h => c_2 (Int32.toInt_inj.mp h)
      rw [hQ]
      exact W.vret hx hb hr (fun t ht hW => ⟨⟨(), rfl, trivial, u5, u6, (by first | exact scn_skip hs (fun j h1 h2 => hnt_big hh (by omega) hnn_ (by omega) h1 h2) | exact scn_found hs (by omega)), by rw [ht]; exact hP, hD⟩, hS.F ht⟩) hS.2.2 dB_36_1_58.2.1.1.1

set_option maxHeartbeats 4000000 in
set_option maxRecDepth 100000 in
theorem c_X7_chooseForCut2_1 (l : Launch) (D : va_G) (cy : Nat → ClassId) (sz : Nat) (xh : Nat) (u1 : Int32) (u2 : Int32) (u3 : Int32) (u4 : Int32) (u5 : Int32) (u6 : Int32) (u7 : Int32) (u8 : Int32) (xc : Nat) (xk : Nat) (clo : Nat) (cro : Nat) (c4 : Nat) (c5 : Nat) (c6 : Nat) (c7 : Nat) (c8 : Nat) (xn : Nat) (n1 : Nat) (n2 : Nat) (n3 : Nat) (n4 : Nat) (n5 : Nat) (vp : Int32) (vn : Int32) (rl : Nat → Nat) (Ml : Nat → Nat → Int32) (a1 : Int32) (a2 : Int32) (a3 : Int32) (hvp : 0 ≤ vp.toInt ∧ vp.toInt ≤ 12) (q1 : -1 ≤ a1.toInt ∧ a1.toInt < 1) (hM : ∀ x y : Nat, x < vp.toNatClampNeg → y < vp.toNatClampNeg → 0 ≤ zM Ml x y ∧ zM Ml x y ≤ 80000000) (hA : 0 ≤ u3.toInt ∧ u3.toInt ≤ 1000000) (hh : hnt (zM Ml) vp.toNatClampNeg (a1.toInt + 1).toNat u1 u2 a2 a3.toInt) (hs : scn (qF (zM Ml) vp.toNatClampNeg u1 u2 u3.toInt) u4.toInt a2.toNatClampNeg u5 u6) : Met l yX7_chooseForCut wsX7_chooseForCut ({ frames := 2, cells := 0, slots := 0, locals := 46 }) (va_Pc [.ref xh, .int a1, .int a2, .int a3] (fun U => U.heap.size = sz ∧ va_P D vwCl [ob7_0_ xh xc u1 u2 u3 u4 u5 u6 u7 u8, ob0_0_ xc xn xk clo cro c4 c5 c6 c7 c8, ob3_0_ xn vp vn n1 n2 n3 n4 n5, aq_ cy 6 clo 12 (gf_ rl), ai_ cy (rl 0) 12 (Ml 0), ai_ cy (rl 1) 12 (Ml 1), ai_ cy (rl 2) 12 (Ml 2), ai_ cy (rl 3) 12 (Ml 3), ai_ cy (rl 4) 12 (Ml 4), ai_ cy (rl 5) 12 (Ml 5), ai_ cy (rl 6) 12 (Ml 6), ai_ cy (rl 7) 12 (Ml 7), ai_ cy (rl 8) 12 (Ml 8), ai_ cy (rl 9) 12 (Ml 9), ai_ cy (rl 10) 12 (Ml 10), ai_ cy (rl 11) 12 (Ml 11)] U.heap ∧ kg_ D cy U ∧ va_D (fun _ => True) [ob7_0_ xh xc u1 u2 u3 u4 u5 u6 u7 u8, ob0_0_ xc xn xk clo cro c4 c5 c6 c7 c8, ob3_0_ xn vp vn n1 n2 n3 n4 n5, aq_ cy 6 clo 12 (gf_ rl), ai_ cy (rl 0) 12 (Ml 0), ai_ cy (rl 1) 12 (Ml 1), ai_ cy (rl 2) 12 (Ml 2), ai_ cy (rl 3) 12 (Ml 3), ai_ cy (rl 4) 12 (Ml 4), ai_ cy (rl 5) 12 (Ml 5), ai_ cy (rl 6) 12 (Ml 6), ai_ cy (rl 7) 12 (Ml 7), ai_ cy (rl 8) 12 (Ml 8), ai_ cy (rl 9) 12 (Ml 9), ai_ cy (rl 10) 12 (Ml 10), ai_ cy (rl 11) 12 (Ml 11)])) (va_Qv (fun (_ : Unit) => True) (fun (_ : Unit) (t : State) => ∃ (v5 : Int32), ∃ (v6 : Int32), (scn (qF (zM Ml) vp.toNatClampNeg u1 u2 u3.toInt) u4.toInt (a2.toNatClampNeg + 2 ^ (a1.toInt + 1).toNat) v5 v6) ∧ va_P D vwCl [ob7_0_ xh xc u1 u2 u3 u4 v5 v6 u7 u8, ob0_0_ xc xn xk clo cro c4 c5 c6 c7 c8, ob3_0_ xn vp vn n1 n2 n3 n4 n5, aq_ cy 6 clo 12 (gf_ rl), ai_ cy (rl 0) 12 (Ml 0), ai_ cy (rl 1) 12 (Ml 1), ai_ cy (rl 2) 12 (Ml 2), ai_ cy (rl 3) 12 (Ml 3), ai_ cy (rl 4) 12 (Ml 4), ai_ cy (rl 5) 12 (Ml 5), ai_ cy (rl 6) 12 (Ml 6), ai_ cy (rl 7) 12 (Ml 7), ai_ cy (rl 8) 12 (Ml 8), ai_ cy (rl 9) 12 (Ml 9), ai_ cy (rl 10) 12 (Ml 10), ai_ cy (rl 11) 12 (Ml 11)] t.heap ∧ va_D (va_A [ob7_0_ xh xc u1 u2 u3 u4 u5 u6 u7 u8, ob0_0_ xc xn xk clo cro c4 c5 c6 c7 c8, ob3_0_ xn vp vn n1 n2 n3 n4 n5, aq_ cy 6 clo 12 (gf_ rl), ai_ cy (rl 0) 12 (Ml 0), ai_ cy (rl 1) 12 (Ml 1), ai_ cy (rl 2) 12 (Ml 2), ai_ cy (rl 3) 12 (Ml 3), ai_ cy (rl 4) 12 (Ml 4), ai_ cy (rl 5) 12 (Ml 5), ai_ cy (rl 6) 12 (Ml 6), ai_ cy (rl 7) 12 (Ml 7), ai_ cy (rl 8) 12 (Ml 8), ai_ cy (rl 9) 12 (Ml 9), ai_ cy (rl 10) 12 (Ml 10), ai_ cy (rl 11) 12 (Ml 11)] sz) [ob7_0_ xh xc u1 u2 u3 u4 v5 v6 u7 u8, ob0_0_ xc xn xk clo cro c4 c5 c6 c7 c8, ob3_0_ xn vp vn n1 n2 n3 n4 n5, aq_ cy 6 clo 12 (gf_ rl), ai_ cy (rl 0) 12 (Ml 0), ai_ cy (rl 1) 12 (Ml 1), ai_ cy (rl 2) 12 (Ml 2), ai_ cy (rl 3) 12 (Ml 3), ai_ cy (rl 4) 12 (Ml 4), ai_ cy (rl 5) 12 (Ml 5), ai_ cy (rl 6) 12 (Ml 6), ai_ cy (rl 7) 12 (Ml 7), ai_ cy (rl 8) 12 (Ml 8), ai_ cy (rl 9) 12 (Ml 9), ai_ cy (rl 10) 12 (Ml 10), ai_ cy (rl 11) 12 (Ml 11)]) (va_A [ob7_0_ xh xc u1 u2 u3 u4 u5 u6 u7 u8, ob0_0_ xc xn xk clo cro c4 c5 c6 c7 c8, ob3_0_ xn vp vn n1 n2 n3 n4 n5, aq_ cy 6 clo 12 (gf_ rl), ai_ cy (rl 0) 12 (Ml 0), ai_ cy (rl 1) 12 (Ml 1), ai_ cy (rl 2) 12 (Ml 2), ai_ cy (rl 3) 12 (Ml 3), ai_ cy (rl 4) 12 (Ml 4), ai_ cy (rl 5) 12 (Ml 5), ai_ cy (rl 6) 12 (Ml 6), ai_ cy (rl 7) 12 (Ml 7), ai_ cy (rl 8) 12 (Ml 8), ai_ cy (rl 9) 12 (Ml 9), ai_ cy (rl 10) 12 (Ml 10), ai_ cy (rl 11) 12 (Ml 11)] sz)) 0 0 (va_A [ob7_0_ xh xc u1 u2 u3 u4 u5 u6 u7 u8, ob0_0_ xc xn xk clo cro c4 c5 c6 c7 c8, ob3_0_ xn vp vn n1 n2 n3 n4 n5, aq_ cy 6 clo 12 (gf_ rl), ai_ cy (rl 0) 12 (Ml 0), ai_ cy (rl 1) 12 (Ml 1), ai_ cy (rl 2) 12 (Ml 2), ai_ cy (rl 3) 12 (Ml 3), ai_ cy (rl 4) 12 (Ml 4), ai_ cy (rl 5) 12 (Ml 5), ai_ cy (rl 6) 12 (Ml 6), ai_ cy (rl 7) 12 (Ml 7), ai_ cy (rl 8) 12 (Ml 8), ai_ cy (rl 9) 12 (Ml 9), ai_ cy (rl 10) 12 (Ml 10), ai_ cy (rl 11) 12 (Ml 11)] sz) := by
  refine ofQ (cc := cX7_chooseForCut) (maxL := 5) (ret := none) (by decide) rfl ?_
  intro p e s m args below meth c s₁ Q hQ B hml hv
  obtain ⟨rfl, hsz, hP, hK, hD0⟩ := hv
  have hG := hK.2
  have hK := hK.1
  have hx := B.exec
  have hb := B.bytes
  have hr := B.returns
  have hts := atoms_spec (ws := wsX7_chooseForCut) B.pre
  have hown : s.vm.findClass RX7 = some m.cls := by have h_ := findClass_of_methodNamed B.named; exact h_
  have hlocks := B.notSynchronized
  subst hsz
  have hD := hD0.self (sz := s.heap.size)
  generalize hAe : va_A [ob7_0_ xh xc u1 u2 u3 u4 u5 u6 u7 u8, ob0_0_ xc xn xk clo cro c4 c5 c6 c7 c8, ob3_0_ xn vp vn n1 n2 n3 n4 n5, aq_ cy 6 clo 12 (gf_ rl), ai_ cy (rl 0) 12 (Ml 0), ai_ cy (rl 1) 12 (Ml 1), ai_ cy (rl 2) 12 (Ml 2), ai_ cy (rl 3) 12 (Ml 3), ai_ cy (rl 4) 12 (Ml 4), ai_ cy (rl 5) 12 (Ml 5), ai_ cy (rl 6) 12 (Ml 6), ai_ cy (rl 7) 12 (Ml 7), ai_ cy (rl 8) 12 (Ml 8), ai_ cy (rl 9) 12 (Ml 9), ai_ cy (rl 10) 12 (Ml 10), ai_ cy (rl 11) 12 (Ml 11)] s.heap.size = A at hD hQ
  have hA : ∀ q : Nat, s.heap.size ≤ q → A q := fun q h => by rw [← hAe]; exact Or.inr h
  have hS : va_S A s.heap s.heap [] := va_S.rf
  have hl := lv_entry ([.ref xh, .int a1, .int a2, .int a3]) (n := 5) (Nat.le_of_ble_eq_true rfl)
  rw [lg_entry_eq]
  generalize (lg_sl ([.ref xh, .int a1, .int a2, .int a3]) ++ List.replicate (5 - (lg_sl ([.ref xh, .int a1, .int a2, .int a3])).length) Slot.unset).toArray = ls at hl ⊢
  have hl : lv_has ls 5 [(0, .ref xh), (1, .int a1), (2, .int a2), (3, .int a3)] := hl
  have zm9 : ((-9) : Int32).toInt = -9 := by decide
  have z0 : (0 : Int32).toInt = 0 := by decide
  have z1 : (1 : Int32).toInt = 1 := by decide
  have cv_ := clI (i := vp) (by omega)
  have hnn_ : ∀ x y : Nat, x < vp.toNatClampNeg → y < vp.toNatClampNeg → 0 ≤ zM Ml x y := fun x y hx hy => (hM x y hx hy).1
  have ha3_ := hnt_nn hh hnn_
  have hlt_ := hnt_lt hh (by omega)
  refine lv_iload_n hx hb dB_36_1_58.1.1.1.1 rfl (lv_at hl 3 rfl) ?_
  refine lv_aload_n hx hb dB_36_1_58.1.1.1.2 rfl (lv_at hl 0 rfl) ?_
  refine va_get (ci := 7) (v := .int u3) (C := RX7) (T := TX7) (N := 9) hx hb hts (fun _ h => List.mem_cons_of_mem _ (List.mem_append_left _ (List.mem_append_left _ (List.mem_append_right _ h)))) hown hK.1 hP 0 rfl rfl 3 (by decide) (hts (.fieldLink RX7 33 "CutAtlas$SetHunt" "aim" "I") (List.mem_of_getElem? (i := 1) rfl)) (fun _ h9 => h9) rfl dB_36_1_58.1.1.2.1 ?_
  refine lv_icmp_gt (tgt := 17) hx hb dB_36_1_58.1.1.2.2 (by decide) (fun c_1 => ?_) (fun c_1 => ?_)
  · have t_1 : u3.toInt < a3.toInt := Int32.lt_iff_toInt_lt.mp c_1
    rw [hQ]
    exact W.vret hx hb hr (fun t ht hW => ⟨⟨(), rfl, trivial, u5, u6, (by first | exact scn_skip hs (fun j h1 h2 => hnt_big hh (by omega) hnn_ (by omega) h1 h2) | exact scn_found hs (by omega)), by rw [ht]; exact hP, hD⟩, hS.F ht⟩) hS.2.2 dB_36_1_58.2.1.1.1
  · have t_1 : ¬ u3.toInt < a3.toInt := fun h => c_1 (Int32.lt_iff_toInt_lt.mpr h)
    refine lv_aload_n hx hb dB_36_1_58.1.2.1.1 rfl (lv_at hl 0 rfl) ?_
    refine va_get (ci := 7) (v := .int u6) (C := RX7) (T := TX7) (N := 9) hx hb hts (fun _ h => List.mem_cons_of_mem _ (List.mem_append_left _ (List.mem_append_left _ (List.mem_append_right _ h)))) hown hK.1 hP 0 rfl rfl 6 (by decide) (hts (.fieldLink RX7 24 "CutAtlas$SetHunt" "found" "I") (List.mem_of_getElem? (i := 2) rfl)) (fun _ h9 => h9) rfl dB_36_1_58.1.2.1.2 ?_
    refine lv_bipush (v := (-9)) hx hb dB_36_1_58.1.2.2.1 (by decide) ?_
    refine lv_icmp_eq (tgt := 18) hx hb dB_36_1_58.1.2.2.2 (by decide) (fun c_2 => ?_) (fun c_2 => ?_)
    · have t_2 : u6.toInt = ((-9) : Int32).toInt := congrArg Int32.toInt c_2
      refine lv_iload_n hx hb dB_36_1_58.2.1.1.2 rfl (lv_at hl 1 rfl) ?_
      refine lv_if_ge (tgt := 29) hx hb dB_36_1_58.2.1.2.1 (by decide) (fun c_3 => ?_) (fun c_3 => ?_)
      · have t_3 : (0 : Int32).toInt ≤ a1.toInt := Int32.le_iff_toInt_le.mp c_3
        have cp_ := clI (i := a1) (by omega)
        have hK_ : (a1.toInt + 1).toNat = a1.toNatClampNeg + 1 := by omega
        have hh1_ : hnt (zM Ml) vp.toNatClampNeg (a1.toNatClampNeg + 1) u1 u2 a2 a3.toInt := by rw [hK_] at hh; exact hh
        have hap_ : a1.toInt < vp.toInt := by have h_ := hh1_.1; omega
        refine lv_iconst (v := 1) hx hb dB_36_1_59.1.1.1.1 (by decide) ?_
        refine lv_iload_n hx hb dB_36_1_59.1.1.1.2 rfl (lv_at hl 1 rfl) ?_
        refine lv_ishl hx hb dB_36_1_59.1.1.2.1 ?_
        refine lv_topi (fun y_4 ey_4 => ?_)
        refine lv_istore (lv' := [(4, .int y_4), (0, .ref xh), (1, .int a1), (2, .int a2), (3, .int a3)]) hx hb dB_36_1_59.1.1.2.2 hl (by decide) rfl (fun ls hl => ?_)
        have JOIN_5 : ∀ (o5_5 : Int32) (o6_5 : Int32) (H : Heap) (locs : List Loc) (ls : Array Slot), (scn (qF (zM Ml) vp.toNatClampNeg u1 u2 u3.toInt) u4.toInt (a2.toNatClampNeg + 2 ^ a1.toNatClampNeg) o5_5 o6_5) → pd_2 D vwCl A [ob7_0_ xh xc u1 u2 u3 u4 o5_5 o6_5 u7 u8, ob0_0_ xc xn xk clo cro c4 c5 c6 c7 c8, ob3_0_ xn vp vn n1 n2 n3 n4 n5, aq_ cy 6 clo 12 (gf_ rl), ai_ cy (rl 0) 12 (Ml 0), ai_ cy (rl 1) 12 (Ml 1), ai_ cy (rl 2) 12 (Ml 2), ai_ cy (rl 3) 12 (Ml 3), ai_ cy (rl 4) 12 (Ml 4), ai_ cy (rl 5) 12 (Ml 5), ai_ cy (rl 6) 12 (Ml 6), ai_ cy (rl 7) 12 (Ml 7), ai_ cy (rl 8) 12 (Ml 8), ai_ cy (rl 9) 12 (Ml 9), ai_ cy (rl 10) 12 (Ml 10), ai_ cy (rl 11) 12 (Ml 11)] H → va_S A s.heap H locs → lv_has ls 5 [(4, .int y_4), (0, .ref xh), (1, .int a1), (2, .int a2), (3, .int a3)] → W p l e ({ frames := 2, cells := 0, slots := 0, locals := 46 } : Room) s m (([.ref xh, .int a1, .int a2, .int a3] : List Value).toArray) below meth c H locs 0 0 Q (F0 m 60 ls []) := by
          intro o5_5 o6_5 H locs ls v0_5 hPD hS hl; obtain ⟨hP, hD⟩ := hPD
          refine lv_aload_n hx hb dB_36_1_60.1.2.1.2 rfl (lv_at hl 1 rfl) ?_
          refine va_get (ci := 7) (v := .int u2) (C := RX7) (T := TX7) (N := 9) hx hb hts (fun _ h => List.mem_cons_of_mem _ (List.mem_append_left _ (List.mem_append_left _ (List.mem_append_right _ h)))) hown hK.1 hP 0 rfl rfl 2 (by decide) (hts (.fieldLink RX7 30 "CutAtlas$SetHunt" "mustNot" "I") (List.mem_of_getElem? (i := 4) rfl)) (fun _ h9 => h9) rfl dB_36_1_60.1.2.2.1 ?_
          refine lv_iload hx hb dB_36_1_60.1.2.2.2 (lv_at hl 0 rfl) ?_
          refine lv_iand hx hb dB_36_1_60.2.1.1.1 ?_
          refine lv_topi (fun y_6 ey_6 => ?_)
          have hnu_ := and_bit (mu := u2) (by omega) (by omega) ey_4 ey_6
          refine lv_if_ne (tgt := 89) hx hb dB_36_1_60.2.1.1.2 (by decide) (fun c_7 => ?_) (fun c_7 => ?_)
          · have t_7 : ¬ y_6.toInt = (0 : Int32).toInt := fun h => c_7 (Int32.toInt_inj.mp h)
            rw [hQ]
            exact W.vret hx hb hr (fun t ht hW => ⟨⟨(), rfl, trivial, o5_5, o6_5, (by first | exact scn_to (scn_skip v0_5 (fun j h1 h2 => hnt_nout hh1_ (by omega) (hnu_.2 (by omega)) h1 h2)) (by rw [pw_K hK_]; omega) | exact scn_to of_none (by rw [hKq_, hst_.1, pw_K hK_]; omega)), by rw [ht]; exact hP, hD⟩, hS.F ht⟩) hS.2.2 dB_36_1_61.2.2.2.2
          · have t_7 : y_6.toInt = (0 : Int32).toInt := congrArg Int32.toInt c_7
            refine lv_aload_n hx hb dB_36_1_60.2.1.2.1 rfl (lv_at hl 1 rfl) ?_
            refine lv_iload_n hx hb dB_36_1_60.2.1.2.2 rfl (lv_at hl 2 rfl) ?_
            refine lv_iconst (v := 1) hx hb dB_36_1_60.2.2.1.1 (by decide) ?_
            refine lv_isub hx hb dB_36_1_60.2.2.1.2 ?_
            refine lv_topi (fun y_8 ey_8 => ?_)
            have ty_8 : y_8.toInt = a1.toInt - (1 : Int32).toInt := by rw [ey_8]; exact subI (by omega) (by omega)
            refine lv_iload_n hx hb dB_36_1_60.2.2.2.1 rfl (lv_at hl 3 rfl) ?_
            refine lv_iload hx hb dB_36_1_60.2.2.2.2 (lv_at hl 0 rfl) ?_
            refine lv_ior hx hb dB_36_1_61.1.1.1 ?_
            refine lv_topi (fun y_9 ey_9 => ?_)
            have hst_ := hnt_set hh1_ (by omega) (by omega) ey_4 ey_9
            refine lv_iload_n hx hb dB_36_1_61.1.1.2 rfl (lv_at hl 4 rfl) ?_
            refine lv_aload_n hx hb dB_36_1_61.1.2.1 rfl (lv_at hl 1 rfl) ?_
            refine lv_iload_n hx hb dB_36_1_61.1.2.2 rfl (lv_at hl 2 rfl) ?_
            refine lv_iload_n hx hb dB_36_1_61.2.1.1 rfl (lv_at hl 3 rfl) ?_
            refine ct_R hP hD [ob7_0_ xh xc u1 u2 u3 u4 o5_5 o6_5 u7 u8, ob0_0_ xc xn xk clo cro c4 c5 c6 c7 c8, ob3_0_ xn vp vn n1 n2 n3 n4 n5, aq_ cy 6 clo 12 (gf_ rl), ai_ cy (rl 0) 12 (Ml 0), ai_ cy (rl 1) 12 (Ml 1), ai_ cy (rl 2) 12 (Ml 2), ai_ cy (rl 3) 12 (Ml 3), ai_ cy (rl 4) 12 (Ml 4), ai_ cy (rl 5) 12 (Ml 5), ai_ cy (rl 6) 12 (Ml 6), ai_ cy (rl 7) 12 (Ml 7), ai_ cy (rl 8) 12 (Ml 8), ai_ cy (rl 9) 12 (Ml 9), ai_ cy (rl 10) 12 (Ml 10), ai_ cy (rl 11) 12 (Ml 11)] [0, 1, 2, 3, 4, 5, 6, 7, 8, 9, 10, 11, 12, 13, 14, 15] (by decide +kernel) rfl (fun hPc hDw => ?_)
            have hFc := va_free (wc := []) hD hS hA [] rfl
            refine va_calli (va_runV (As := [.int a1, .int a2]) (rest := [.int a3, .int y_9, .int y_8, .ref xh]) ⟨hx, hb, hml, hown, hts⟩ (c_X7_letOut2 l D cy H.size xh u1 u2 u3 u4 o5_5 o6_5 u7 u8 xc xk clo cro c4 c5 c6 c7 c8 xn n1 n2 n3 n4 n5 vp vn rl Ml a1 a2 (by first | with_reducible assumption | omega | assumption) (by first | with_reducible assumption | omega | assumption) (by first | with_reducible assumption | assumption | omega)) (cwV 2 hts gX7_chooseForCut_X7_letOut rfl rfl rfl ⟨rfl, hd_X7_letOut⟩ ⟨Nat.le_of_ble_eq_true rfl, Nat.le_of_ble_eq_true rfl⟩) ⟨bl_g, va_recvX hK.1 hP (ci := 7) (q0 := 0) rfl rfl, fun U hU hW => ⟨rfl, by rw [hU], by rw [hU]; exact hPc, ⟨kk_mv hW hK, arrOfT_moved hW.alike hG⟩, hDw⟩⟩ rfl rfl hl.1 rfl (lv_room (Nat.le_of_ble_eq_true rfl)) dB_36_1_61.2.1.2 ⟨Nat.le_of_ble_eq_true rfl, Nat.le_of_ble_eq_true rfl⟩) hS (fun q _ h => hFc q h) hFc (fun r_10 u t H locs ht hvm hw hB hz1 hk1 hS => ?_)
            have hP : va_P D vwCl _ H := ro_keep hP hk1
            obtain ⟨f0_r_10, f1_r_10⟩ := hw
            refine lv_iadd hx hb dB_36_1_61.2.2.1 ?_
            refine lv_topi (fun y_11 ey_11 => ?_)
            have ty_11 : y_11.toInt = a3.toInt + r_10.toInt := by rw [ey_11]; exact addI (by omega) (by omega)
            have hKq_ : (y_8.toInt + 1).toNat = a1.toNatClampNeg := by omega
            have hrh_ : hnt (zM Ml) vp.toNatClampNeg (y_8.toInt + 1).toNat u1 u2 y_9 y_11.toInt := by rw [hKq_]; exact hnt_out hh1_ (by omega) (by omega) ey_4 ey_9 (hnu_.1 (by omega)) ty_11 f0_r_10
            have hrs_ : scn (qF (zM Ml) vp.toNatClampNeg u1 u2 u3.toInt) u4.toInt y_9.toNatClampNeg o5_5 o6_5 := scn_to v0_5 hst_.1.symm
            refine ct_S hP hD hS hA [ob7_0_ xh xc u1 u2 u3 u4 o5_5 o6_5 u7 u8, ob0_0_ xc xn xk clo cro c4 c5 c6 c7 c8, ob3_0_ xn vp vn n1 n2 n3 n4 n5, aq_ cy 6 clo 12 (gf_ rl), ai_ cy (rl 0) 12 (Ml 0), ai_ cy (rl 1) 12 (Ml 1), ai_ cy (rl 2) 12 (Ml 2), ai_ cy (rl 3) 12 (Ml 3), ai_ cy (rl 4) 12 (Ml 4), ai_ cy (rl 5) 12 (Ml 5), ai_ cy (rl 6) 12 (Ml 6), ai_ cy (rl 7) 12 (Ml 7), ai_ cy (rl 8) 12 (Ml 8), ai_ cy (rl 9) 12 (Ml 9), ai_ cy (rl 10) 12 (Ml 10), ai_ cy (rl 11) 12 (Ml 11)] [0, 1, 2, 3, 4, 5, 6, 7, 8, 9, 10, 11, 12, 13, 14, 15] (by decide +kernel) rfl (fun hPc hDw hFc hC_ => ?_)
            refine va_callv (va_runV (As := [.int y_8, .int y_9, .int y_11]) (rest := []) ⟨hx, hb, hml, hown, hts⟩ (c_X7_chooseForCut2_0 l D cy H.size xh u1 u2 u3 u4 o5_5 o6_5 u7 u8 xc xk clo cro c4 c5 c6 c7 c8 xn n1 n2 n3 n4 n5 vp vn rl Ml y_8 y_9 y_11 (by first | with_reducible assumption | omega | assumption) (by first | with_reducible assumption | omega | assumption) (by first | with_reducible assumption | assumption | omega) (by first | with_reducible assumption | omega | assumption) (by first | with_reducible assumption | assumption | omega) (by first | with_reducible assumption | assumption | omega)) (cwV 3 hts gX7_chooseForCut_X7_chooseForCut rfl rfl rfl ⟨rfl, hd_X7_chooseForCut⟩ ⟨Nat.le_of_ble_eq_true rfl, Nat.le_of_ble_eq_true rfl⟩) ⟨bl_g, va_recvX hK.1 hP (ci := 7) (q0 := 0) rfl rfl, fun U hU hW => ⟨rfl, by rw [hU], by rw [hU]; exact hPc, ⟨kk_mv hW hK, arrOfT_moved hW.alike hG⟩, hDw⟩⟩ rfl rfl hl.1 rfl (lv_room (Nat.le_of_ble_eq_true rfl)) dB_36_1_61.2.2.2.1 ⟨Nat.le_of_ble_eq_true rfl, Nat.le_of_ble_eq_true rfl⟩) hS (fun q _ h => hFc q h) hFc (fun u t H locs ht hvm hw hB hz1 hk1 hS => ?_)
            obtain ⟨v5_13, v6_14, g_15, hP1, hD1⟩ := hB
            rw [ht] at hP1
            obtain ⟨hP, hD⟩ := va_join (wr := []) (w1 := [ob7_0_ xh xc u1 u2 u3 u4 v5_13 v6_14 u7 u8, ob0_0_ xc xn xk clo cro c4 c5 c6 c7 c8, ob3_0_ xn vp vn n1 n2 n3 n4 n5, aq_ cy 6 clo 12 (gf_ rl), ai_ cy (rl 0) 12 (Ml 0), ai_ cy (rl 1) 12 (Ml 1), ai_ cy (rl 2) 12 (Ml 2), ai_ cy (rl 3) 12 (Ml 3), ai_ cy (rl 4) 12 (Ml 4), ai_ cy (rl 5) 12 (Ml 5), ai_ cy (rl 6) 12 (Ml 6), ai_ cy (rl 7) 12 (Ml 7), ai_ cy (rl 8) 12 (Ml 8), ai_ cy (rl 9) 12 (Ml 9), ai_ cy (rl 10) 12 (Ml 10), ai_ cy (rl 11) 12 (Ml 11)]) hP hD [0, 1, 2, 3, 4, 5, 6, 7, 8, 9, 10, 11, 12, 13, 14, 15] [] hC_ rfl (by decide) (by decide) hk1 hFc hP1 hD1
            refine pd_K [ob7_0_ xh xc u1 u2 u3 u4 v5_13 v6_14 u7 u8, ob0_0_ xc xn xk clo cro c4 c5 c6 c7 c8, ob3_0_ xn vp vn n1 n2 n3 n4 n5, aq_ cy 6 clo 12 (gf_ rl), ai_ cy (rl 0) 12 (Ml 0), ai_ cy (rl 1) 12 (Ml 1), ai_ cy (rl 2) 12 (Ml 2), ai_ cy (rl 3) 12 (Ml 3), ai_ cy (rl 4) 12 (Ml 4), ai_ cy (rl 5) 12 (Ml 5), ai_ cy (rl 6) 12 (Ml 6), ai_ cy (rl 7) 12 (Ml 7), ai_ cy (rl 8) 12 (Ml 8), ai_ cy (rl 9) 12 (Ml 9), ai_ cy (rl 10) 12 (Ml 10), ai_ cy (rl 11) 12 (Ml 11)] hP hD (fun hP hD => ?_)
            rw [hQ]
            exact W.vret hx hb hr (fun t ht hW => ⟨⟨(), rfl, trivial, v5_13, v6_14, (by first | exact scn_to (scn_skip v0_5 (fun j h1 h2 => hnt_nout hh1_ (by omega) (hnu_.2 (by omega)) h1 h2)) (by rw [pw_K hK_]; omega) | exact scn_to g_15 (by rw [hKq_, hst_.1, pw_K hK_]; omega)), by rw [ht]; exact hP, hD⟩, hS.F ht⟩) hS.2.2 dB_36_1_61.2.2.2.2
        refine lv_aload_n hx hb dB_36_1_59.1.2.1.1 rfl (lv_at hl 1 rfl) ?_
        refine va_get (ci := 7) (v := .int u1) (C := RX7) (T := TX7) (N := 9) hx hb hts (fun _ h => List.mem_cons_of_mem _ (List.mem_append_left _ (List.mem_append_left _ (List.mem_append_right _ h)))) hown hK.1 hP 0 rfl rfl 1 (by decide) (hts (.fieldLink RX7 27 "CutAtlas$SetHunt" "must" "I") (List.mem_of_getElem? (i := 3) rfl)) (fun _ h9 => h9) rfl dB_36_1_59.1.2.1.2 ?_
        refine lv_iload hx hb dB_36_1_59.1.2.2.1 (lv_at hl 0 rfl) ?_
        refine lv_iand hx hb dB_36_1_59.1.2.2.2 ?_
        refine lv_topi (fun y_16 ey_16 => ?_)
        have hmu_ := and_bit (mu := u1) (by omega) (by omega) ey_4 ey_16
        refine lv_if_ne (tgt := 60) hx hb dB_36_1_59.2.1.1.1 (by decide) (fun c_17 => ?_) (fun c_17 => ?_)
        · have t_17 : ¬ y_16.toInt = (0 : Int32).toInt := fun h => c_17 (Int32.toInt_inj.mp h)
          exact JOIN_5 u5 u6 _ _ _ (by first | exact scn_skip hs (fun j h1 h2 => hnt_nin hh1_ (by omega) (hmu_.2 (by omega)) h1 h2) | exact scn_to of_none (by rw [hKr_])) ⟨hP, hD⟩ hS (lv_sub hl [0, 1, 2, 3, 4] rfl)
        · have t_17 : y_16.toInt = (0 : Int32).toInt := congrArg Int32.toInt c_17
          refine lv_aload_n hx hb dB_36_1_59.2.1.1.2 rfl (lv_at hl 1 rfl) ?_
          refine lv_iload_n hx hb dB_36_1_59.2.1.2.1 rfl (lv_at hl 2 rfl) ?_
          refine lv_iconst (v := 1) hx hb dB_36_1_59.2.1.2.2 (by decide) ?_
          refine lv_isub hx hb dB_36_1_59.2.2.1.1 ?_
          refine lv_topi (fun y_18 ey_18 => ?_)
          have ty_18 : y_18.toInt = a1.toInt - (1 : Int32).toInt := by rw [ey_18]; exact subI (by omega) (by omega)
          refine lv_iload_n hx hb dB_36_1_59.2.2.1.2 rfl (lv_at hl 3 rfl) ?_
          refine lv_iload_n hx hb dB_36_1_59.2.2.2.1 rfl (lv_at hl 4 rfl) ?_
          refine lv_aload_n hx hb dB_36_1_59.2.2.2.2 rfl (lv_at hl 1 rfl) ?_
          refine lv_iload_n hx hb dB_36_1_60.1.1.1.1 rfl (lv_at hl 2 rfl) ?_
          refine lv_iload_n hx hb dB_36_1_60.1.1.1.2 rfl (lv_at hl 3 rfl) ?_
          refine ct_R hP hD [ob7_0_ xh xc u1 u2 u3 u4 u5 u6 u7 u8, ob0_0_ xc xn xk clo cro c4 c5 c6 c7 c8, ob3_0_ xn vp vn n1 n2 n3 n4 n5, aq_ cy 6 clo 12 (gf_ rl), ai_ cy (rl 0) 12 (Ml 0), ai_ cy (rl 1) 12 (Ml 1), ai_ cy (rl 2) 12 (Ml 2), ai_ cy (rl 3) 12 (Ml 3), ai_ cy (rl 4) 12 (Ml 4), ai_ cy (rl 5) 12 (Ml 5), ai_ cy (rl 6) 12 (Ml 6), ai_ cy (rl 7) 12 (Ml 7), ai_ cy (rl 8) 12 (Ml 8), ai_ cy (rl 9) 12 (Ml 9), ai_ cy (rl 10) 12 (Ml 10), ai_ cy (rl 11) 12 (Ml 11)] [0, 1, 2, 3, 4, 5, 6, 7, 8, 9, 10, 11, 12, 13, 14, 15] (by decide +kernel) rfl (fun hPc hDw => ?_)
          have hFc := va_free (wc := []) hD hS hA [] rfl
          refine va_calli (va_runV (As := [.int a1, .int a2]) (rest := [.int a3, .int a2, .int y_18, .ref xh]) ⟨hx, hb, hml, hown, hts⟩ (c_X7_letIn2 l D cy s.heap.size xh u1 u2 u3 u4 u5 u6 u7 u8 xc xk clo cro c4 c5 c6 c7 c8 xn n1 n2 n3 n4 n5 vp vn rl Ml a1 a2 (by first | with_reducible assumption | omega | assumption) (by first | with_reducible assumption | omega | assumption) (by first | with_reducible assumption | assumption | omega)) (cwV 2 hts gX7_chooseForCut_X7_letIn rfl rfl rfl ⟨rfl, hd_X7_letIn⟩ ⟨Nat.le_of_ble_eq_true rfl, Nat.le_of_ble_eq_true rfl⟩) ⟨bl_g, va_recvX hK.1 hP (ci := 7) (q0 := 0) rfl rfl, fun U hU hW => ⟨rfl, by rw [hU], by rw [hU]; exact hPc, ⟨kk_mv hW hK, arrOfT_moved hW.alike hG⟩, hDw⟩⟩ rfl rfl hl.1 rfl (lv_room (Nat.le_of_ble_eq_true rfl)) dB_36_1_60.1.1.2.1 ⟨Nat.le_of_ble_eq_true rfl, Nat.le_of_ble_eq_true rfl⟩) hS (fun q _ h => hFc q h) hFc (fun r_19 u t H locs ht hvm hw hB hz1 hk1 hS => ?_)
          have hP : va_P D vwCl _ H := ro_keep hP hk1
          obtain ⟨f0_r_19, f1_r_19⟩ := hw
          refine lv_iadd hx hb dB_36_1_60.1.1.2.2 ?_
          refine lv_topi (fun y_20 ey_20 => ?_)
          have ty_20 : y_20.toInt = a3.toInt + r_19.toInt := by rw [ey_20]; exact addI (by omega) (by omega)
          have hKr_ : (y_18.toInt + 1).toNat = a1.toNatClampNeg := by omega
          have hrh_ : hnt (zM Ml) vp.toNatClampNeg (y_18.toInt + 1).toNat u1 u2 a2 y_20.toInt := by rw [hKr_]; exact hnt_in hh1_ (hmu_.1 (by omega)) ty_20 f0_r_19
          refine ct_S hP hD hS hA [ob7_0_ xh xc u1 u2 u3 u4 u5 u6 u7 u8, ob0_0_ xc xn xk clo cro c4 c5 c6 c7 c8, ob3_0_ xn vp vn n1 n2 n3 n4 n5, aq_ cy 6 clo 12 (gf_ rl), ai_ cy (rl 0) 12 (Ml 0), ai_ cy (rl 1) 12 (Ml 1), ai_ cy (rl 2) 12 (Ml 2), ai_ cy (rl 3) 12 (Ml 3), ai_ cy (rl 4) 12 (Ml 4), ai_ cy (rl 5) 12 (Ml 5), ai_ cy (rl 6) 12 (Ml 6), ai_ cy (rl 7) 12 (Ml 7), ai_ cy (rl 8) 12 (Ml 8), ai_ cy (rl 9) 12 (Ml 9), ai_ cy (rl 10) 12 (Ml 10), ai_ cy (rl 11) 12 (Ml 11)] [0, 1, 2, 3, 4, 5, 6, 7, 8, 9, 10, 11, 12, 13, 14, 15] (by decide +kernel) rfl (fun hPc hDw hFc hC_ => ?_)
          refine va_callv (va_runV (As := [.int y_18, .int a2, .int y_20]) (rest := []) ⟨hx, hb, hml, hown, hts⟩ (c_X7_chooseForCut2_0 l D cy H.size xh u1 u2 u3 u4 u5 u6 u7 u8 xc xk clo cro c4 c5 c6 c7 c8 xn n1 n2 n3 n4 n5 vp vn rl Ml y_18 a2 y_20 (by first | with_reducible assumption | omega | assumption) (by first | with_reducible assumption | omega | assumption) (by first | with_reducible assumption | assumption | omega) (by first | with_reducible assumption | omega | assumption) (by first | with_reducible assumption | assumption | omega) (by first | with_reducible assumption | assumption | omega)) (cwV 3 hts gX7_chooseForCut_X7_chooseForCut rfl rfl rfl ⟨rfl, hd_X7_chooseForCut⟩ ⟨Nat.le_of_ble_eq_true rfl, Nat.le_of_ble_eq_true rfl⟩) ⟨bl_g, va_recvX hK.1 hP (ci := 7) (q0 := 0) rfl rfl, fun U hU hW => ⟨rfl, by rw [hU], by rw [hU]; exact hPc, ⟨kk_mv hW hK, arrOfT_moved hW.alike hG⟩, hDw⟩⟩ rfl rfl hl.1 rfl (lv_room (Nat.le_of_ble_eq_true rfl)) dB_36_1_60.1.2.1.1 ⟨Nat.le_of_ble_eq_true rfl, Nat.le_of_ble_eq_true rfl⟩) hS (fun q _ h => hFc q h) hFc (fun u t H locs ht hvm hw hB hz1 hk1 hS => ?_)
          obtain ⟨v5_22, v6_23, g_24, hP1, hD1⟩ := hB
          rw [ht] at hP1
          obtain ⟨hP, hD⟩ := va_join (wr := []) (w1 := [ob7_0_ xh xc u1 u2 u3 u4 v5_22 v6_23 u7 u8, ob0_0_ xc xn xk clo cro c4 c5 c6 c7 c8, ob3_0_ xn vp vn n1 n2 n3 n4 n5, aq_ cy 6 clo 12 (gf_ rl), ai_ cy (rl 0) 12 (Ml 0), ai_ cy (rl 1) 12 (Ml 1), ai_ cy (rl 2) 12 (Ml 2), ai_ cy (rl 3) 12 (Ml 3), ai_ cy (rl 4) 12 (Ml 4), ai_ cy (rl 5) 12 (Ml 5), ai_ cy (rl 6) 12 (Ml 6), ai_ cy (rl 7) 12 (Ml 7), ai_ cy (rl 8) 12 (Ml 8), ai_ cy (rl 9) 12 (Ml 9), ai_ cy (rl 10) 12 (Ml 10), ai_ cy (rl 11) 12 (Ml 11)]) hP hD [0, 1, 2, 3, 4, 5, 6, 7, 8, 9, 10, 11, 12, 13, 14, 15] [] hC_ rfl (by decide) (by decide) hk1 hFc hP1 hD1
          refine pd_K [ob7_0_ xh xc u1 u2 u3 u4 v5_22 v6_23 u7 u8, ob0_0_ xc xn xk clo cro c4 c5 c6 c7 c8, ob3_0_ xn vp vn n1 n2 n3 n4 n5, aq_ cy 6 clo 12 (gf_ rl), ai_ cy (rl 0) 12 (Ml 0), ai_ cy (rl 1) 12 (Ml 1), ai_ cy (rl 2) 12 (Ml 2), ai_ cy (rl 3) 12 (Ml 3), ai_ cy (rl 4) 12 (Ml 4), ai_ cy (rl 5) 12 (Ml 5), ai_ cy (rl 6) 12 (Ml 6), ai_ cy (rl 7) 12 (Ml 7), ai_ cy (rl 8) 12 (Ml 8), ai_ cy (rl 9) 12 (Ml 9), ai_ cy (rl 10) 12 (Ml 10), ai_ cy (rl 11) 12 (Ml 11)] hP hD (fun hP hD => ?_)
          exact JOIN_5 v5_22 v6_23 _ _ _ (by first | exact scn_skip hs (fun j h1 h2 => hnt_nin hh1_ (by omega) (hmu_.2 (by omega)) h1 h2) | exact scn_to g_24 (by rw [hKr_])) ⟨hP, hD⟩ hS (lv_sub hl [0, 1, 2, 3, 4] rfl)
      · have t_3 : ¬ (0 : Int32).toInt ≤ a1.toInt := fun h => c_3 (Int32.le_iff_toInt_le.mpr h)
        have hK_ : (a1.toInt + 1).toNat = 0 := by omega
        have hh0_ : hnt (zM Ml) vp.toNatClampNeg 0 u1 u2 a2 a3.toInt := by rw [hK_] at hh; exact hh
        have hsn_ := scn_not hs (by omega) (by omega)
        have hcb_ := cnQ_nn (p := qF (zM Ml) vp.toNatClampNeg u1 u2 u3.toInt) (k := a2.toNatClampNeg)
        refine lv_aload_n hx hb dB_36_1_58.2.1.2.2 rfl (lv_at hl 0 rfl) ?_
        refine lv_iload_n hx hb dB_36_1_58.2.2.1.1 rfl (lv_at hl 2 rfl) ?_
        refine lv_iload_n hx hb dB_36_1_58.2.2.1.2 rfl (lv_at hl 3 rfl) ?_
        refine ct_S hP hD hS hA [ob7_0_ xh xc u1 u2 u3 u4 u5 u6 u7 u8] [0] (by decide) rfl (fun hPc hDw hFc hC_ => ?_)
        refine va_callv (va_runV (As := [.int a2, .int a3]) (rest := []) ⟨hx, hb, hml, hown, hts⟩ (c_X7_meet2 l D cy s.heap.size xh u1 u2 u3 u4 u5 u6 u7 u8 xc a2 a3 (by first | with_reducible assumption | omega | assumption)) (cwV 2 hts gX7_chooseForCut_X7_meet rfl rfl rfl ⟨rfl, hd_X7_meet⟩ ⟨Nat.le_of_ble_eq_true rfl, Nat.le_of_ble_eq_true rfl⟩) ⟨bl_, va_recvX hK.1 hP (ci := 7) (q0 := 0) rfl rfl, fun U hU hW => ⟨rfl, by rw [hU], by rw [hU]; exact hPc, kk_mv hW hK, hDw⟩⟩ rfl rfl hl.1 rfl (lv_room (Nat.le_of_ble_eq_true rfl)) dB_36_1_58.2.2.2.1 ⟨Nat.le_of_ble_eq_true rfl, Nat.le_of_ble_eq_true rfl⟩) hS (fun q _ h => hFc q h) hFc (fun u t H locs ht hvm hw hB hz1 hk1 hS => ?_)
        obtain ⟨v5_26, v6_27, g_28, hP1, hD1⟩ := hB
        rw [ht] at hP1
        obtain ⟨hP, hD⟩ := va_join (wr := [ob0_0_ xc xn xk clo cro c4 c5 c6 c7 c8, ob3_0_ xn vp vn n1 n2 n3 n4 n5, aq_ cy 6 clo 12 (gf_ rl), ai_ cy (rl 0) 12 (Ml 0), ai_ cy (rl 1) 12 (Ml 1), ai_ cy (rl 2) 12 (Ml 2), ai_ cy (rl 3) 12 (Ml 3), ai_ cy (rl 4) 12 (Ml 4), ai_ cy (rl 5) 12 (Ml 5), ai_ cy (rl 6) 12 (Ml 6), ai_ cy (rl 7) 12 (Ml 7), ai_ cy (rl 8) 12 (Ml 8), ai_ cy (rl 9) 12 (Ml 9), ai_ cy (rl 10) 12 (Ml 10), ai_ cy (rl 11) 12 (Ml 11)]) (w1 := [ob7_0_ xh xc u1 u2 u3 u4 v5_26 v6_27 u7 u8]) hP hD [0] [1, 2, 3, 4, 5, 6, 7, 8, 9, 10, 11, 12, 13, 14, 15] hC_ rfl (by decide +kernel) (by decide +kernel) hk1 hFc hP1 hD1
        refine pd_S hP hD [ob7_0_ xh xc u1 u2 u3 u4 v5_26 v6_27 u7 u8, ob0_0_ xc xn xk clo cro c4 c5 c6 c7 c8, ob3_0_ xn vp vn n1 n2 n3 n4 n5, aq_ cy 6 clo 12 (gf_ rl), ai_ cy (rl 0) 12 (Ml 0), ai_ cy (rl 1) 12 (Ml 1), ai_ cy (rl 2) 12 (Ml 2), ai_ cy (rl 3) 12 (Ml 3), ai_ cy (rl 4) 12 (Ml 4), ai_ cy (rl 5) 12 (Ml 5), ai_ cy (rl 6) 12 (Ml 6), ai_ cy (rl 7) 12 (Ml 7), ai_ cy (rl 8) 12 (Ml 8), ai_ cy (rl 9) 12 (Ml 9), ai_ cy (rl 10) 12 (Ml 10), ai_ cy (rl 11) 12 (Ml 11)] [15, 0, 1, 2, 3, 4, 5, 6, 7, 8, 9, 10, 11, 12, 13, 14] (by decide +kernel) rfl (fun hP hD => ?_)
        rw [hQ]
        exact W.vret hx hb hr (fun t ht hW => ⟨⟨(), rfl, trivial, v5_26, v6_27, (scn_to (leaf_end hs (by omega) hlt_ (hnt_leaf hh0_ (by omega)) g_28) (by rw [hK_])), by rw [ht]; exact hP, hD⟩, hS.F ht⟩) hS.2.2 dB_36_1_58.2.2.2.2
    · have t_2 : ¬ u6.toInt = ((-9) : Int32).toInt := fun h => c_2 (Int32.toInt_inj.mp h)
      rw [hQ]
      exact W.vret hx hb hr (fun t ht hW => ⟨⟨(), rfl, trivial, u5, u6, (by first | exact scn_skip hs (fun j h1 h2 => hnt_big hh (by omega) hnn_ (by omega) h1 h2) | exact scn_found hs (by omega)), by rw [ht]; exact hP, hD⟩, hS.F ht⟩) hS.2.2 dB_36_1_58.2.1.1.1

set_option maxHeartbeats 4000000 in
set_option maxRecDepth 100000 in
theorem c_X7_chooseForCut2_2 (l : Launch) (D : va_G) (cy : Nat → ClassId) (sz : Nat) (xh : Nat) (u1 : Int32) (u2 : Int32) (u3 : Int32) (u4 : Int32) (u5 : Int32) (u6 : Int32) (u7 : Int32) (u8 : Int32) (xc : Nat) (xk : Nat) (clo : Nat) (cro : Nat) (c4 : Nat) (c5 : Nat) (c6 : Nat) (c7 : Nat) (c8 : Nat) (xn : Nat) (n1 : Nat) (n2 : Nat) (n3 : Nat) (n4 : Nat) (n5 : Nat) (vp : Int32) (vn : Int32) (rl : Nat → Nat) (Ml : Nat → Nat → Int32) (a1 : Int32) (a2 : Int32) (a3 : Int32) (hvp : 0 ≤ vp.toInt ∧ vp.toInt ≤ 12) (q1 : -1 ≤ a1.toInt ∧ a1.toInt < 2) (hM : ∀ x y : Nat, x < vp.toNatClampNeg → y < vp.toNatClampNeg → 0 ≤ zM Ml x y ∧ zM Ml x y ≤ 80000000) (hA : 0 ≤ u3.toInt ∧ u3.toInt ≤ 1000000) (hh : hnt (zM Ml) vp.toNatClampNeg (a1.toInt + 1).toNat u1 u2 a2 a3.toInt) (hs : scn (qF (zM Ml) vp.toNatClampNeg u1 u2 u3.toInt) u4.toInt a2.toNatClampNeg u5 u6) : Met l yX7_chooseForCut wsX7_chooseForCut ({ frames := 3, cells := 0, slots := 0, locals := 70 }) (va_Pc [.ref xh, .int a1, .int a2, .int a3] (fun U => U.heap.size = sz ∧ va_P D vwCl [ob7_0_ xh xc u1 u2 u3 u4 u5 u6 u7 u8, ob0_0_ xc xn xk clo cro c4 c5 c6 c7 c8, ob3_0_ xn vp vn n1 n2 n3 n4 n5, aq_ cy 6 clo 12 (gf_ rl), ai_ cy (rl 0) 12 (Ml 0), ai_ cy (rl 1) 12 (Ml 1), ai_ cy (rl 2) 12 (Ml 2), ai_ cy (rl 3) 12 (Ml 3), ai_ cy (rl 4) 12 (Ml 4), ai_ cy (rl 5) 12 (Ml 5), ai_ cy (rl 6) 12 (Ml 6), ai_ cy (rl 7) 12 (Ml 7), ai_ cy (rl 8) 12 (Ml 8), ai_ cy (rl 9) 12 (Ml 9), ai_ cy (rl 10) 12 (Ml 10), ai_ cy (rl 11) 12 (Ml 11)] U.heap ∧ kg_ D cy U ∧ va_D (fun _ => True) [ob7_0_ xh xc u1 u2 u3 u4 u5 u6 u7 u8, ob0_0_ xc xn xk clo cro c4 c5 c6 c7 c8, ob3_0_ xn vp vn n1 n2 n3 n4 n5, aq_ cy 6 clo 12 (gf_ rl), ai_ cy (rl 0) 12 (Ml 0), ai_ cy (rl 1) 12 (Ml 1), ai_ cy (rl 2) 12 (Ml 2), ai_ cy (rl 3) 12 (Ml 3), ai_ cy (rl 4) 12 (Ml 4), ai_ cy (rl 5) 12 (Ml 5), ai_ cy (rl 6) 12 (Ml 6), ai_ cy (rl 7) 12 (Ml 7), ai_ cy (rl 8) 12 (Ml 8), ai_ cy (rl 9) 12 (Ml 9), ai_ cy (rl 10) 12 (Ml 10), ai_ cy (rl 11) 12 (Ml 11)])) (va_Qv (fun (_ : Unit) => True) (fun (_ : Unit) (t : State) => ∃ (v5 : Int32), ∃ (v6 : Int32), (scn (qF (zM Ml) vp.toNatClampNeg u1 u2 u3.toInt) u4.toInt (a2.toNatClampNeg + 2 ^ (a1.toInt + 1).toNat) v5 v6) ∧ va_P D vwCl [ob7_0_ xh xc u1 u2 u3 u4 v5 v6 u7 u8, ob0_0_ xc xn xk clo cro c4 c5 c6 c7 c8, ob3_0_ xn vp vn n1 n2 n3 n4 n5, aq_ cy 6 clo 12 (gf_ rl), ai_ cy (rl 0) 12 (Ml 0), ai_ cy (rl 1) 12 (Ml 1), ai_ cy (rl 2) 12 (Ml 2), ai_ cy (rl 3) 12 (Ml 3), ai_ cy (rl 4) 12 (Ml 4), ai_ cy (rl 5) 12 (Ml 5), ai_ cy (rl 6) 12 (Ml 6), ai_ cy (rl 7) 12 (Ml 7), ai_ cy (rl 8) 12 (Ml 8), ai_ cy (rl 9) 12 (Ml 9), ai_ cy (rl 10) 12 (Ml 10), ai_ cy (rl 11) 12 (Ml 11)] t.heap ∧ va_D (va_A [ob7_0_ xh xc u1 u2 u3 u4 u5 u6 u7 u8, ob0_0_ xc xn xk clo cro c4 c5 c6 c7 c8, ob3_0_ xn vp vn n1 n2 n3 n4 n5, aq_ cy 6 clo 12 (gf_ rl), ai_ cy (rl 0) 12 (Ml 0), ai_ cy (rl 1) 12 (Ml 1), ai_ cy (rl 2) 12 (Ml 2), ai_ cy (rl 3) 12 (Ml 3), ai_ cy (rl 4) 12 (Ml 4), ai_ cy (rl 5) 12 (Ml 5), ai_ cy (rl 6) 12 (Ml 6), ai_ cy (rl 7) 12 (Ml 7), ai_ cy (rl 8) 12 (Ml 8), ai_ cy (rl 9) 12 (Ml 9), ai_ cy (rl 10) 12 (Ml 10), ai_ cy (rl 11) 12 (Ml 11)] sz) [ob7_0_ xh xc u1 u2 u3 u4 v5 v6 u7 u8, ob0_0_ xc xn xk clo cro c4 c5 c6 c7 c8, ob3_0_ xn vp vn n1 n2 n3 n4 n5, aq_ cy 6 clo 12 (gf_ rl), ai_ cy (rl 0) 12 (Ml 0), ai_ cy (rl 1) 12 (Ml 1), ai_ cy (rl 2) 12 (Ml 2), ai_ cy (rl 3) 12 (Ml 3), ai_ cy (rl 4) 12 (Ml 4), ai_ cy (rl 5) 12 (Ml 5), ai_ cy (rl 6) 12 (Ml 6), ai_ cy (rl 7) 12 (Ml 7), ai_ cy (rl 8) 12 (Ml 8), ai_ cy (rl 9) 12 (Ml 9), ai_ cy (rl 10) 12 (Ml 10), ai_ cy (rl 11) 12 (Ml 11)]) (va_A [ob7_0_ xh xc u1 u2 u3 u4 u5 u6 u7 u8, ob0_0_ xc xn xk clo cro c4 c5 c6 c7 c8, ob3_0_ xn vp vn n1 n2 n3 n4 n5, aq_ cy 6 clo 12 (gf_ rl), ai_ cy (rl 0) 12 (Ml 0), ai_ cy (rl 1) 12 (Ml 1), ai_ cy (rl 2) 12 (Ml 2), ai_ cy (rl 3) 12 (Ml 3), ai_ cy (rl 4) 12 (Ml 4), ai_ cy (rl 5) 12 (Ml 5), ai_ cy (rl 6) 12 (Ml 6), ai_ cy (rl 7) 12 (Ml 7), ai_ cy (rl 8) 12 (Ml 8), ai_ cy (rl 9) 12 (Ml 9), ai_ cy (rl 10) 12 (Ml 10), ai_ cy (rl 11) 12 (Ml 11)] sz)) 0 0 (va_A [ob7_0_ xh xc u1 u2 u3 u4 u5 u6 u7 u8, ob0_0_ xc xn xk clo cro c4 c5 c6 c7 c8, ob3_0_ xn vp vn n1 n2 n3 n4 n5, aq_ cy 6 clo 12 (gf_ rl), ai_ cy (rl 0) 12 (Ml 0), ai_ cy (rl 1) 12 (Ml 1), ai_ cy (rl 2) 12 (Ml 2), ai_ cy (rl 3) 12 (Ml 3), ai_ cy (rl 4) 12 (Ml 4), ai_ cy (rl 5) 12 (Ml 5), ai_ cy (rl 6) 12 (Ml 6), ai_ cy (rl 7) 12 (Ml 7), ai_ cy (rl 8) 12 (Ml 8), ai_ cy (rl 9) 12 (Ml 9), ai_ cy (rl 10) 12 (Ml 10), ai_ cy (rl 11) 12 (Ml 11)] sz) := by
  refine ofQ (cc := cX7_chooseForCut) (maxL := 5) (ret := none) (by decide) rfl ?_
  intro p e s m args below meth c s₁ Q hQ B hml hv
  obtain ⟨rfl, hsz, hP, hK, hD0⟩ := hv
  have hG := hK.2
  have hK := hK.1
  have hx := B.exec
  have hb := B.bytes
  have hr := B.returns
  have hts := atoms_spec (ws := wsX7_chooseForCut) B.pre
  have hown : s.vm.findClass RX7 = some m.cls := by have h_ := findClass_of_methodNamed B.named; exact h_
  have hlocks := B.notSynchronized
  subst hsz
  have hD := hD0.self (sz := s.heap.size)
  generalize hAe : va_A [ob7_0_ xh xc u1 u2 u3 u4 u5 u6 u7 u8, ob0_0_ xc xn xk clo cro c4 c5 c6 c7 c8, ob3_0_ xn vp vn n1 n2 n3 n4 n5, aq_ cy 6 clo 12 (gf_ rl), ai_ cy (rl 0) 12 (Ml 0), ai_ cy (rl 1) 12 (Ml 1), ai_ cy (rl 2) 12 (Ml 2), ai_ cy (rl 3) 12 (Ml 3), ai_ cy (rl 4) 12 (Ml 4), ai_ cy (rl 5) 12 (Ml 5), ai_ cy (rl 6) 12 (Ml 6), ai_ cy (rl 7) 12 (Ml 7), ai_ cy (rl 8) 12 (Ml 8), ai_ cy (rl 9) 12 (Ml 9), ai_ cy (rl 10) 12 (Ml 10), ai_ cy (rl 11) 12 (Ml 11)] s.heap.size = A at hD hQ
  have hA : ∀ q : Nat, s.heap.size ≤ q → A q := fun q h => by rw [← hAe]; exact Or.inr h
  have hS : va_S A s.heap s.heap [] := va_S.rf
  have hl := lv_entry ([.ref xh, .int a1, .int a2, .int a3]) (n := 5) (Nat.le_of_ble_eq_true rfl)
  rw [lg_entry_eq]
  generalize (lg_sl ([.ref xh, .int a1, .int a2, .int a3]) ++ List.replicate (5 - (lg_sl ([.ref xh, .int a1, .int a2, .int a3])).length) Slot.unset).toArray = ls at hl ⊢
  have hl : lv_has ls 5 [(0, .ref xh), (1, .int a1), (2, .int a2), (3, .int a3)] := hl
  have zm9 : ((-9) : Int32).toInt = -9 := by decide
  have z0 : (0 : Int32).toInt = 0 := by decide
  have z1 : (1 : Int32).toInt = 1 := by decide
  have cv_ := clI (i := vp) (by omega)
  have hnn_ : ∀ x y : Nat, x < vp.toNatClampNeg → y < vp.toNatClampNeg → 0 ≤ zM Ml x y := fun x y hx hy => (hM x y hx hy).1
  have ha3_ := hnt_nn hh hnn_
  have hlt_ := hnt_lt hh (by omega)
  refine lv_iload_n hx hb dB_36_1_58.1.1.1.1 rfl (lv_at hl 3 rfl) ?_
  refine lv_aload_n hx hb dB_36_1_58.1.1.1.2 rfl (lv_at hl 0 rfl) ?_
  refine va_get (ci := 7) (v := .int u3) (C := RX7) (T := TX7) (N := 9) hx hb hts (fun _ h => List.mem_cons_of_mem _ (List.mem_append_left _ (List.mem_append_left _ (List.mem_append_right _ h)))) hown hK.1 hP 0 rfl rfl 3 (by decide) (hts (.fieldLink RX7 33 "CutAtlas$SetHunt" "aim" "I") (List.mem_of_getElem? (i := 1) rfl)) (fun _ h9 => h9) rfl dB_36_1_58.1.1.2.1 ?_
  refine lv_icmp_gt (tgt := 17) hx hb dB_36_1_58.1.1.2.2 (by decide) (fun c_1 => ?_) (fun c_1 => ?_)
  · have t_1 : u3.toInt < a3.toInt := Int32.lt_iff_toInt_lt.mp c_1
    rw [hQ]
    exact W.vret hx hb hr (fun t ht hW => ⟨⟨(), rfl, trivial, u5, u6, (by first | exact scn_skip hs (fun j h1 h2 => hnt_big hh (by omega) hnn_ (by omega) h1 h2) | exact scn_found hs (by omega)), by rw [ht]; exact hP, hD⟩, hS.F ht⟩) hS.2.2 dB_36_1_58.2.1.1.1
  · have t_1 : ¬ u3.toInt < a3.toInt := fun h => c_1 (Int32.lt_iff_toInt_lt.mpr h)
    refine lv_aload_n hx hb dB_36_1_58.1.2.1.1 rfl (lv_at hl 0 rfl) ?_
    refine va_get (ci := 7) (v := .int u6) (C := RX7) (T := TX7) (N := 9) hx hb hts (fun _ h => List.mem_cons_of_mem _ (List.mem_append_left _ (List.mem_append_left _ (List.mem_append_right _ h)))) hown hK.1 hP 0 rfl rfl 6 (by decide) (hts (.fieldLink RX7 24 "CutAtlas$SetHunt" "found" "I") (List.mem_of_getElem? (i := 2) rfl)) (fun _ h9 => h9) rfl dB_36_1_58.1.2.1.2 ?_
    refine lv_bipush (v := (-9)) hx hb dB_36_1_58.1.2.2.1 (by decide) ?_
    refine lv_icmp_eq (tgt := 18) hx hb dB_36_1_58.1.2.2.2 (by decide) (fun c_2 => ?_) (fun c_2 => ?_)
    · have t_2 : u6.toInt = ((-9) : Int32).toInt := congrArg Int32.toInt c_2
      refine lv_iload_n hx hb dB_36_1_58.2.1.1.2 rfl (lv_at hl 1 rfl) ?_
      refine lv_if_ge (tgt := 29) hx hb dB_36_1_58.2.1.2.1 (by decide) (fun c_3 => ?_) (fun c_3 => ?_)
      · have t_3 : (0 : Int32).toInt ≤ a1.toInt := Int32.le_iff_toInt_le.mp c_3
        have cp_ := clI (i := a1) (by omega)
        have hK_ : (a1.toInt + 1).toNat = a1.toNatClampNeg + 1 := by omega
        have hh1_ : hnt (zM Ml) vp.toNatClampNeg (a1.toNatClampNeg + 1) u1 u2 a2 a3.toInt := by rw [hK_] at hh; exact hh
        have hap_ : a1.toInt < vp.toInt := by have h_ := hh1_.1; omega
        refine lv_iconst (v := 1) hx hb dB_36_1_59.1.1.1.1 (by decide) ?_
        refine lv_iload_n hx hb dB_36_1_59.1.1.1.2 rfl (lv_at hl 1 rfl) ?_
        refine lv_ishl hx hb dB_36_1_59.1.1.2.1 ?_
        refine lv_topi (fun y_4 ey_4 => ?_)
        refine lv_istore (lv' := [(4, .int y_4), (0, .ref xh), (1, .int a1), (2, .int a2), (3, .int a3)]) hx hb dB_36_1_59.1.1.2.2 hl (by decide) rfl (fun ls hl => ?_)
        have JOIN_5 : ∀ (o5_5 : Int32) (o6_5 : Int32) (H : Heap) (locs : List Loc) (ls : Array Slot), (scn (qF (zM Ml) vp.toNatClampNeg u1 u2 u3.toInt) u4.toInt (a2.toNatClampNeg + 2 ^ a1.toNatClampNeg) o5_5 o6_5) → pd_2 D vwCl A [ob7_0_ xh xc u1 u2 u3 u4 o5_5 o6_5 u7 u8, ob0_0_ xc xn xk clo cro c4 c5 c6 c7 c8, ob3_0_ xn vp vn n1 n2 n3 n4 n5, aq_ cy 6 clo 12 (gf_ rl), ai_ cy (rl 0) 12 (Ml 0), ai_ cy (rl 1) 12 (Ml 1), ai_ cy (rl 2) 12 (Ml 2), ai_ cy (rl 3) 12 (Ml 3), ai_ cy (rl 4) 12 (Ml 4), ai_ cy (rl 5) 12 (Ml 5), ai_ cy (rl 6) 12 (Ml 6), ai_ cy (rl 7) 12 (Ml 7), ai_ cy (rl 8) 12 (Ml 8), ai_ cy (rl 9) 12 (Ml 9), ai_ cy (rl 10) 12 (Ml 10), ai_ cy (rl 11) 12 (Ml 11)] H → va_S A s.heap H locs → lv_has ls 5 [(4, .int y_4), (0, .ref xh), (1, .int a1), (2, .int a2), (3, .int a3)] → W p l e ({ frames := 3, cells := 0, slots := 0, locals := 70 } : Room) s m (([.ref xh, .int a1, .int a2, .int a3] : List Value).toArray) below meth c H locs 0 0 Q (F0 m 60 ls []) := by
          intro o5_5 o6_5 H locs ls v0_5 hPD hS hl; obtain ⟨hP, hD⟩ := hPD
          refine lv_aload_n hx hb dB_36_1_60.1.2.1.2 rfl (lv_at hl 1 rfl) ?_
          refine va_get (ci := 7) (v := .int u2) (C := RX7) (T := TX7) (N := 9) hx hb hts (fun _ h => List.mem_cons_of_mem _ (List.mem_append_left _ (List.mem_append_left _ (List.mem_append_right _ h)))) hown hK.1 hP 0 rfl rfl 2 (by decide) (hts (.fieldLink RX7 30 "CutAtlas$SetHunt" "mustNot" "I") (List.mem_of_getElem? (i := 4) rfl)) (fun _ h9 => h9) rfl dB_36_1_60.1.2.2.1 ?_
          refine lv_iload hx hb dB_36_1_60.1.2.2.2 (lv_at hl 0 rfl) ?_
          refine lv_iand hx hb dB_36_1_60.2.1.1.1 ?_
          refine lv_topi (fun y_6 ey_6 => ?_)
          have hnu_ := and_bit (mu := u2) (by omega) (by omega) ey_4 ey_6
          refine lv_if_ne (tgt := 89) hx hb dB_36_1_60.2.1.1.2 (by decide) (fun c_7 => ?_) (fun c_7 => ?_)
          · have t_7 : ¬ y_6.toInt = (0 : Int32).toInt := fun h => c_7 (Int32.toInt_inj.mp h)
            rw [hQ]
            exact W.vret hx hb hr (fun t ht hW => ⟨⟨(), rfl, trivial, o5_5, o6_5, (by first | exact scn_to (scn_skip v0_5 (fun j h1 h2 => hnt_nout hh1_ (by omega) (hnu_.2 (by omega)) h1 h2)) (by rw [pw_K hK_]; omega) | exact scn_to of_none (by rw [hKq_, hst_.1, pw_K hK_]; omega)), by rw [ht]; exact hP, hD⟩, hS.F ht⟩) hS.2.2 dB_36_1_61.2.2.2.2
          · have t_7 : y_6.toInt = (0 : Int32).toInt := congrArg Int32.toInt c_7
            refine lv_aload_n hx hb dB_36_1_60.2.1.2.1 rfl (lv_at hl 1 rfl) ?_
            refine lv_iload_n hx hb dB_36_1_60.2.1.2.2 rfl (lv_at hl 2 rfl) ?_
            refine lv_iconst (v := 1) hx hb dB_36_1_60.2.2.1.1 (by decide) ?_
            refine lv_isub hx hb dB_36_1_60.2.2.1.2 ?_
            refine lv_topi (fun y_8 ey_8 => ?_)
            have ty_8 : y_8.toInt = a1.toInt - (1 : Int32).toInt := by rw [ey_8]; exact subI (by omega) (by omega)
            refine lv_iload_n hx hb dB_36_1_60.2.2.2.1 rfl (lv_at hl 3 rfl) ?_
            refine lv_iload hx hb dB_36_1_60.2.2.2.2 (lv_at hl 0 rfl) ?_
            refine lv_ior hx hb dB_36_1_61.1.1.1 ?_
            refine lv_topi (fun y_9 ey_9 => ?_)
            have hst_ := hnt_set hh1_ (by omega) (by omega) ey_4 ey_9
            refine lv_iload_n hx hb dB_36_1_61.1.1.2 rfl (lv_at hl 4 rfl) ?_
            refine lv_aload_n hx hb dB_36_1_61.1.2.1 rfl (lv_at hl 1 rfl) ?_
            refine lv_iload_n hx hb dB_36_1_61.1.2.2 rfl (lv_at hl 2 rfl) ?_
            refine lv_iload_n hx hb dB_36_1_61.2.1.1 rfl (lv_at hl 3 rfl) ?_
            refine ct_R hP hD [ob7_0_ xh xc u1 u2 u3 u4 o5_5 o6_5 u7 u8, ob0_0_ xc xn xk clo cro c4 c5 c6 c7 c8, ob3_0_ xn vp vn n1 n2 n3 n4 n5, aq_ cy 6 clo 12 (gf_ rl), ai_ cy (rl 0) 12 (Ml 0), ai_ cy (rl 1) 12 (Ml 1), ai_ cy (rl 2) 12 (Ml 2), ai_ cy (rl 3) 12 (Ml 3), ai_ cy (rl 4) 12 (Ml 4), ai_ cy (rl 5) 12 (Ml 5), ai_ cy (rl 6) 12 (Ml 6), ai_ cy (rl 7) 12 (Ml 7), ai_ cy (rl 8) 12 (Ml 8), ai_ cy (rl 9) 12 (Ml 9), ai_ cy (rl 10) 12 (Ml 10), ai_ cy (rl 11) 12 (Ml 11)] [0, 1, 2, 3, 4, 5, 6, 7, 8, 9, 10, 11, 12, 13, 14, 15] (by decide +kernel) rfl (fun hPc hDw => ?_)
            have hFc := va_free (wc := []) hD hS hA [] rfl
            refine va_calli (va_runV (As := [.int a1, .int a2]) (rest := [.int a3, .int y_9, .int y_8, .ref xh]) ⟨hx, hb, hml, hown, hts⟩ (c_X7_letOut2 l D cy H.size xh u1 u2 u3 u4 o5_5 o6_5 u7 u8 xc xk clo cro c4 c5 c6 c7 c8 xn n1 n2 n3 n4 n5 vp vn rl Ml a1 a2 (by first | with_reducible assumption | omega | assumption) (by first | with_reducible assumption | omega | assumption) (by first | with_reducible assumption | assumption | omega)) (cwV 2 hts gX7_chooseForCut_X7_letOut rfl rfl rfl ⟨rfl, hd_X7_letOut⟩ ⟨Nat.le_of_ble_eq_true rfl, Nat.le_of_ble_eq_true rfl⟩) ⟨bl_g, va_recvX hK.1 hP (ci := 7) (q0 := 0) rfl rfl, fun U hU hW => ⟨rfl, by rw [hU], by rw [hU]; exact hPc, ⟨kk_mv hW hK, arrOfT_moved hW.alike hG⟩, hDw⟩⟩ rfl rfl hl.1 rfl (lv_room (Nat.le_of_ble_eq_true rfl)) dB_36_1_61.2.1.2 ⟨Nat.le_of_ble_eq_true rfl, Nat.le_of_ble_eq_true rfl⟩) hS (fun q _ h => hFc q h) hFc (fun r_10 u t H locs ht hvm hw hB hz1 hk1 hS => ?_)
            have hP : va_P D vwCl _ H := ro_keep hP hk1
            obtain ⟨f0_r_10, f1_r_10⟩ := hw
            refine lv_iadd hx hb dB_36_1_61.2.2.1 ?_
            refine lv_topi (fun y_11 ey_11 => ?_)
            have ty_11 : y_11.toInt = a3.toInt + r_10.toInt := by rw [ey_11]; exact addI (by omega) (by omega)
            have hKq_ : (y_8.toInt + 1).toNat = a1.toNatClampNeg := by omega
            have hrh_ : hnt (zM Ml) vp.toNatClampNeg (y_8.toInt + 1).toNat u1 u2 y_9 y_11.toInt := by rw [hKq_]; exact hnt_out hh1_ (by omega) (by omega) ey_4 ey_9 (hnu_.1 (by omega)) ty_11 f0_r_10
            have hrs_ : scn (qF (zM Ml) vp.toNatClampNeg u1 u2 u3.toInt) u4.toInt y_9.toNatClampNeg o5_5 o6_5 := scn_to v0_5 hst_.1.symm
            refine ct_S hP hD hS hA [ob7_0_ xh xc u1 u2 u3 u4 o5_5 o6_5 u7 u8, ob0_0_ xc xn xk clo cro c4 c5 c6 c7 c8, ob3_0_ xn vp vn n1 n2 n3 n4 n5, aq_ cy 6 clo 12 (gf_ rl), ai_ cy (rl 0) 12 (Ml 0), ai_ cy (rl 1) 12 (Ml 1), ai_ cy (rl 2) 12 (Ml 2), ai_ cy (rl 3) 12 (Ml 3), ai_ cy (rl 4) 12 (Ml 4), ai_ cy (rl 5) 12 (Ml 5), ai_ cy (rl 6) 12 (Ml 6), ai_ cy (rl 7) 12 (Ml 7), ai_ cy (rl 8) 12 (Ml 8), ai_ cy (rl 9) 12 (Ml 9), ai_ cy (rl 10) 12 (Ml 10), ai_ cy (rl 11) 12 (Ml 11)] [0, 1, 2, 3, 4, 5, 6, 7, 8, 9, 10, 11, 12, 13, 14, 15] (by decide +kernel) rfl (fun hPc hDw hFc hC_ => ?_)
            refine va_callv (va_runV (As := [.int y_8, .int y_9, .int y_11]) (rest := []) ⟨hx, hb, hml, hown, hts⟩ (c_X7_chooseForCut2_1 l D cy H.size xh u1 u2 u3 u4 o5_5 o6_5 u7 u8 xc xk clo cro c4 c5 c6 c7 c8 xn n1 n2 n3 n4 n5 vp vn rl Ml y_8 y_9 y_11 (by first | with_reducible assumption | omega | assumption) (by first | with_reducible assumption | omega | assumption) (by first | with_reducible assumption | assumption | omega) (by first | with_reducible assumption | omega | assumption) (by first | with_reducible assumption | assumption | omega) (by first | with_reducible assumption | assumption | omega)) (cwV 3 hts gX7_chooseForCut_X7_chooseForCut rfl rfl rfl ⟨rfl, hd_X7_chooseForCut⟩ ⟨Nat.le_of_ble_eq_true rfl, Nat.le_of_ble_eq_true rfl⟩) ⟨bl_g, va_recvX hK.1 hP (ci := 7) (q0 := 0) rfl rfl, fun U hU hW => ⟨rfl, by rw [hU], by rw [hU]; exact hPc, ⟨kk_mv hW hK, arrOfT_moved hW.alike hG⟩, hDw⟩⟩ rfl rfl hl.1 rfl (lv_room (Nat.le_of_ble_eq_true rfl)) dB_36_1_61.2.2.2.1 ⟨Nat.le_of_ble_eq_true rfl, Nat.le_of_ble_eq_true rfl⟩) hS (fun q _ h => hFc q h) hFc (fun u t H locs ht hvm hw hB hz1 hk1 hS => ?_)
            obtain ⟨v5_13, v6_14, g_15, hP1, hD1⟩ := hB
            rw [ht] at hP1
            obtain ⟨hP, hD⟩ := va_join (wr := []) (w1 := [ob7_0_ xh xc u1 u2 u3 u4 v5_13 v6_14 u7 u8, ob0_0_ xc xn xk clo cro c4 c5 c6 c7 c8, ob3_0_ xn vp vn n1 n2 n3 n4 n5, aq_ cy 6 clo 12 (gf_ rl), ai_ cy (rl 0) 12 (Ml 0), ai_ cy (rl 1) 12 (Ml 1), ai_ cy (rl 2) 12 (Ml 2), ai_ cy (rl 3) 12 (Ml 3), ai_ cy (rl 4) 12 (Ml 4), ai_ cy (rl 5) 12 (Ml 5), ai_ cy (rl 6) 12 (Ml 6), ai_ cy (rl 7) 12 (Ml 7), ai_ cy (rl 8) 12 (Ml 8), ai_ cy (rl 9) 12 (Ml 9), ai_ cy (rl 10) 12 (Ml 10), ai_ cy (rl 11) 12 (Ml 11)]) hP hD [0, 1, 2, 3, 4, 5, 6, 7, 8, 9, 10, 11, 12, 13, 14, 15] [] hC_ rfl (by decide) (by decide) hk1 hFc hP1 hD1
            refine pd_K [ob7_0_ xh xc u1 u2 u3 u4 v5_13 v6_14 u7 u8, ob0_0_ xc xn xk clo cro c4 c5 c6 c7 c8, ob3_0_ xn vp vn n1 n2 n3 n4 n5, aq_ cy 6 clo 12 (gf_ rl), ai_ cy (rl 0) 12 (Ml 0), ai_ cy (rl 1) 12 (Ml 1), ai_ cy (rl 2) 12 (Ml 2), ai_ cy (rl 3) 12 (Ml 3), ai_ cy (rl 4) 12 (Ml 4), ai_ cy (rl 5) 12 (Ml 5), ai_ cy (rl 6) 12 (Ml 6), ai_ cy (rl 7) 12 (Ml 7), ai_ cy (rl 8) 12 (Ml 8), ai_ cy (rl 9) 12 (Ml 9), ai_ cy (rl 10) 12 (Ml 10), ai_ cy (rl 11) 12 (Ml 11)] hP hD (fun hP hD => ?_)
            rw [hQ]
            exact W.vret hx hb hr (fun t ht hW => ⟨⟨(), rfl, trivial, v5_13, v6_14, (by first | exact scn_to (scn_skip v0_5 (fun j h1 h2 => hnt_nout hh1_ (by omega) (hnu_.2 (by omega)) h1 h2)) (by rw [pw_K hK_]; omega) | exact scn_to g_15 (by rw [hKq_, hst_.1, pw_K hK_]; omega)), by rw [ht]; exact hP, hD⟩, hS.F ht⟩) hS.2.2 dB_36_1_61.2.2.2.2
        refine lv_aload_n hx hb dB_36_1_59.1.2.1.1 rfl (lv_at hl 1 rfl) ?_
        refine va_get (ci := 7) (v := .int u1) (C := RX7) (T := TX7) (N := 9) hx hb hts (fun _ h => List.mem_cons_of_mem _ (List.mem_append_left _ (List.mem_append_left _ (List.mem_append_right _ h)))) hown hK.1 hP 0 rfl rfl 1 (by decide) (hts (.fieldLink RX7 27 "CutAtlas$SetHunt" "must" "I") (List.mem_of_getElem? (i := 3) rfl)) (fun _ h9 => h9) rfl dB_36_1_59.1.2.1.2 ?_
        refine lv_iload hx hb dB_36_1_59.1.2.2.1 (lv_at hl 0 rfl) ?_
        refine lv_iand hx hb dB_36_1_59.1.2.2.2 ?_
        refine lv_topi (fun y_16 ey_16 => ?_)
        have hmu_ := and_bit (mu := u1) (by omega) (by omega) ey_4 ey_16
        refine lv_if_ne (tgt := 60) hx hb dB_36_1_59.2.1.1.1 (by decide) (fun c_17 => ?_) (fun c_17 => ?_)
        · have t_17 : ¬ y_16.toInt = (0 : Int32).toInt := fun h => c_17 (Int32.toInt_inj.mp h)
          exact JOIN_5 u5 u6 _ _ _ (by first | exact scn_skip hs (fun j h1 h2 => hnt_nin hh1_ (by omega) (hmu_.2 (by omega)) h1 h2) | exact scn_to of_none (by rw [hKr_])) ⟨hP, hD⟩ hS (lv_sub hl [0, 1, 2, 3, 4] rfl)
        · have t_17 : y_16.toInt = (0 : Int32).toInt := congrArg Int32.toInt c_17
          refine lv_aload_n hx hb dB_36_1_59.2.1.1.2 rfl (lv_at hl 1 rfl) ?_
          refine lv_iload_n hx hb dB_36_1_59.2.1.2.1 rfl (lv_at hl 2 rfl) ?_
          refine lv_iconst (v := 1) hx hb dB_36_1_59.2.1.2.2 (by decide) ?_
          refine lv_isub hx hb dB_36_1_59.2.2.1.1 ?_
          refine lv_topi (fun y_18 ey_18 => ?_)
          have ty_18 : y_18.toInt = a1.toInt - (1 : Int32).toInt := by rw [ey_18]; exact subI (by omega) (by omega)
          refine lv_iload_n hx hb dB_36_1_59.2.2.1.2 rfl (lv_at hl 3 rfl) ?_
          refine lv_iload_n hx hb dB_36_1_59.2.2.2.1 rfl (lv_at hl 4 rfl) ?_
          refine lv_aload_n hx hb dB_36_1_59.2.2.2.2 rfl (lv_at hl 1 rfl) ?_
          refine lv_iload_n hx hb dB_36_1_60.1.1.1.1 rfl (lv_at hl 2 rfl) ?_
          refine lv_iload_n hx hb dB_36_1_60.1.1.1.2 rfl (lv_at hl 3 rfl) ?_
          refine ct_R hP hD [ob7_0_ xh xc u1 u2 u3 u4 u5 u6 u7 u8, ob0_0_ xc xn xk clo cro c4 c5 c6 c7 c8, ob3_0_ xn vp vn n1 n2 n3 n4 n5, aq_ cy 6 clo 12 (gf_ rl), ai_ cy (rl 0) 12 (Ml 0), ai_ cy (rl 1) 12 (Ml 1), ai_ cy (rl 2) 12 (Ml 2), ai_ cy (rl 3) 12 (Ml 3), ai_ cy (rl 4) 12 (Ml 4), ai_ cy (rl 5) 12 (Ml 5), ai_ cy (rl 6) 12 (Ml 6), ai_ cy (rl 7) 12 (Ml 7), ai_ cy (rl 8) 12 (Ml 8), ai_ cy (rl 9) 12 (Ml 9), ai_ cy (rl 10) 12 (Ml 10), ai_ cy (rl 11) 12 (Ml 11)] [0, 1, 2, 3, 4, 5, 6, 7, 8, 9, 10, 11, 12, 13, 14, 15] (by decide +kernel) rfl (fun hPc hDw => ?_)
          have hFc := va_free (wc := []) hD hS hA [] rfl
          refine va_calli (va_runV (As := [.int a1, .int a2]) (rest := [.int a3, .int a2, .int y_18, .ref xh]) ⟨hx, hb, hml, hown, hts⟩ (c_X7_letIn2 l D cy s.heap.size xh u1 u2 u3 u4 u5 u6 u7 u8 xc xk clo cro c4 c5 c6 c7 c8 xn n1 n2 n3 n4 n5 vp vn rl Ml a1 a2 (by first | with_reducible assumption | omega | assumption) (by first | with_reducible assumption | omega | assumption) (by first | with_reducible assumption | assumption | omega)) (cwV 2 hts gX7_chooseForCut_X7_letIn rfl rfl rfl ⟨rfl, hd_X7_letIn⟩ ⟨Nat.le_of_ble_eq_true rfl, Nat.le_of_ble_eq_true rfl⟩) ⟨bl_g, va_recvX hK.1 hP (ci := 7) (q0 := 0) rfl rfl, fun U hU hW => ⟨rfl, by rw [hU], by rw [hU]; exact hPc, ⟨kk_mv hW hK, arrOfT_moved hW.alike hG⟩, hDw⟩⟩ rfl rfl hl.1 rfl (lv_room (Nat.le_of_ble_eq_true rfl)) dB_36_1_60.1.1.2.1 ⟨Nat.le_of_ble_eq_true rfl, Nat.le_of_ble_eq_true rfl⟩) hS (fun q _ h => hFc q h) hFc (fun r_19 u t H locs ht hvm hw hB hz1 hk1 hS => ?_)
          have hP : va_P D vwCl _ H := ro_keep hP hk1
          obtain ⟨f0_r_19, f1_r_19⟩ := hw
          refine lv_iadd hx hb dB_36_1_60.1.1.2.2 ?_
          refine lv_topi (fun y_20 ey_20 => ?_)
          have ty_20 : y_20.toInt = a3.toInt + r_19.toInt := by rw [ey_20]; exact addI (by omega) (by omega)
          have hKr_ : (y_18.toInt + 1).toNat = a1.toNatClampNeg := by omega
          have hrh_ : hnt (zM Ml) vp.toNatClampNeg (y_18.toInt + 1).toNat u1 u2 a2 y_20.toInt := by rw [hKr_]; exact hnt_in hh1_ (hmu_.1 (by omega)) ty_20 f0_r_19
          refine ct_S hP hD hS hA [ob7_0_ xh xc u1 u2 u3 u4 u5 u6 u7 u8, ob0_0_ xc xn xk clo cro c4 c5 c6 c7 c8, ob3_0_ xn vp vn n1 n2 n3 n4 n5, aq_ cy 6 clo 12 (gf_ rl), ai_ cy (rl 0) 12 (Ml 0), ai_ cy (rl 1) 12 (Ml 1), ai_ cy (rl 2) 12 (Ml 2), ai_ cy (rl 3) 12 (Ml 3), ai_ cy (rl 4) 12 (Ml 4), ai_ cy (rl 5) 12 (Ml 5), ai_ cy (rl 6) 12 (Ml 6), ai_ cy (rl 7) 12 (Ml 7), ai_ cy (rl 8) 12 (Ml 8), ai_ cy (rl 9) 12 (Ml 9), ai_ cy (rl 10) 12 (Ml 10), ai_ cy (rl 11) 12 (Ml 11)] [0, 1, 2, 3, 4, 5, 6, 7, 8, 9, 10, 11, 12, 13, 14, 15] (by decide +kernel) rfl (fun hPc hDw hFc hC_ => ?_)
          refine va_callv (va_runV (As := [.int y_18, .int a2, .int y_20]) (rest := []) ⟨hx, hb, hml, hown, hts⟩ (c_X7_chooseForCut2_1 l D cy H.size xh u1 u2 u3 u4 u5 u6 u7 u8 xc xk clo cro c4 c5 c6 c7 c8 xn n1 n2 n3 n4 n5 vp vn rl Ml y_18 a2 y_20 (by first | with_reducible assumption | omega | assumption) (by first | with_reducible assumption | omega | assumption) (by first | with_reducible assumption | assumption | omega) (by first | with_reducible assumption | omega | assumption) (by first | with_reducible assumption | assumption | omega) (by first | with_reducible assumption | assumption | omega)) (cwV 3 hts gX7_chooseForCut_X7_chooseForCut rfl rfl rfl ⟨rfl, hd_X7_chooseForCut⟩ ⟨Nat.le_of_ble_eq_true rfl, Nat.le_of_ble_eq_true rfl⟩) ⟨bl_g, va_recvX hK.1 hP (ci := 7) (q0 := 0) rfl rfl, fun U hU hW => ⟨rfl, by rw [hU], by rw [hU]; exact hPc, ⟨kk_mv hW hK, arrOfT_moved hW.alike hG⟩, hDw⟩⟩ rfl rfl hl.1 rfl (lv_room (Nat.le_of_ble_eq_true rfl)) dB_36_1_60.1.2.1.1 ⟨Nat.le_of_ble_eq_true rfl, Nat.le_of_ble_eq_true rfl⟩) hS (fun q _ h => hFc q h) hFc (fun u t H locs ht hvm hw hB hz1 hk1 hS => ?_)
          obtain ⟨v5_22, v6_23, g_24, hP1, hD1⟩ := hB
          rw [ht] at hP1
          obtain ⟨hP, hD⟩ := va_join (wr := []) (w1 := [ob7_0_ xh xc u1 u2 u3 u4 v5_22 v6_23 u7 u8, ob0_0_ xc xn xk clo cro c4 c5 c6 c7 c8, ob3_0_ xn vp vn n1 n2 n3 n4 n5, aq_ cy 6 clo 12 (gf_ rl), ai_ cy (rl 0) 12 (Ml 0), ai_ cy (rl 1) 12 (Ml 1), ai_ cy (rl 2) 12 (Ml 2), ai_ cy (rl 3) 12 (Ml 3), ai_ cy (rl 4) 12 (Ml 4), ai_ cy (rl 5) 12 (Ml 5), ai_ cy (rl 6) 12 (Ml 6), ai_ cy (rl 7) 12 (Ml 7), ai_ cy (rl 8) 12 (Ml 8), ai_ cy (rl 9) 12 (Ml 9), ai_ cy (rl 10) 12 (Ml 10), ai_ cy (rl 11) 12 (Ml 11)]) hP hD [0, 1, 2, 3, 4, 5, 6, 7, 8, 9, 10, 11, 12, 13, 14, 15] [] hC_ rfl (by decide) (by decide) hk1 hFc hP1 hD1
          refine pd_K [ob7_0_ xh xc u1 u2 u3 u4 v5_22 v6_23 u7 u8, ob0_0_ xc xn xk clo cro c4 c5 c6 c7 c8, ob3_0_ xn vp vn n1 n2 n3 n4 n5, aq_ cy 6 clo 12 (gf_ rl), ai_ cy (rl 0) 12 (Ml 0), ai_ cy (rl 1) 12 (Ml 1), ai_ cy (rl 2) 12 (Ml 2), ai_ cy (rl 3) 12 (Ml 3), ai_ cy (rl 4) 12 (Ml 4), ai_ cy (rl 5) 12 (Ml 5), ai_ cy (rl 6) 12 (Ml 6), ai_ cy (rl 7) 12 (Ml 7), ai_ cy (rl 8) 12 (Ml 8), ai_ cy (rl 9) 12 (Ml 9), ai_ cy (rl 10) 12 (Ml 10), ai_ cy (rl 11) 12 (Ml 11)] hP hD (fun hP hD => ?_)
          exact JOIN_5 v5_22 v6_23 _ _ _ (by first | exact scn_skip hs (fun j h1 h2 => hnt_nin hh1_ (by omega) (hmu_.2 (by omega)) h1 h2) | exact scn_to g_24 (by rw [hKr_])) ⟨hP, hD⟩ hS (lv_sub hl [0, 1, 2, 3, 4] rfl)
      · have t_3 : ¬ (0 : Int32).toInt ≤ a1.toInt := fun h => c_3 (Int32.le_iff_toInt_le.mpr h)
        have hK_ : (a1.toInt + 1).toNat = 0 := by omega
        have hh0_ : hnt (zM Ml) vp.toNatClampNeg 0 u1 u2 a2 a3.toInt := by rw [hK_] at hh; exact hh
        have hsn_ := scn_not hs (by omega) (by omega)
        have hcb_ := cnQ_nn (p := qF (zM Ml) vp.toNatClampNeg u1 u2 u3.toInt) (k := a2.toNatClampNeg)
        refine lv_aload_n hx hb dB_36_1_58.2.1.2.2 rfl (lv_at hl 0 rfl) ?_
        refine lv_iload_n hx hb dB_36_1_58.2.2.1.1 rfl (lv_at hl 2 rfl) ?_
        refine lv_iload_n hx hb dB_36_1_58.2.2.1.2 rfl (lv_at hl 3 rfl) ?_
        refine ct_S hP hD hS hA [ob7_0_ xh xc u1 u2 u3 u4 u5 u6 u7 u8] [0] (by decide) rfl (fun hPc hDw hFc hC_ => ?_)
        refine va_callv (va_runV (As := [.int a2, .int a3]) (rest := []) ⟨hx, hb, hml, hown, hts⟩ (c_X7_meet2 l D cy s.heap.size xh u1 u2 u3 u4 u5 u6 u7 u8 xc a2 a3 (by first | with_reducible assumption | omega | assumption)) (cwV 2 hts gX7_chooseForCut_X7_meet rfl rfl rfl ⟨rfl, hd_X7_meet⟩ ⟨Nat.le_of_ble_eq_true rfl, Nat.le_of_ble_eq_true rfl⟩) ⟨bl_, va_recvX hK.1 hP (ci := 7) (q0 := 0) rfl rfl, fun U hU hW => ⟨rfl, by rw [hU], by rw [hU]; exact hPc, kk_mv hW hK, hDw⟩⟩ rfl rfl hl.1 rfl (lv_room (Nat.le_of_ble_eq_true rfl)) dB_36_1_58.2.2.2.1 ⟨Nat.le_of_ble_eq_true rfl, Nat.le_of_ble_eq_true rfl⟩) hS (fun q _ h => hFc q h) hFc (fun u t H locs ht hvm hw hB hz1 hk1 hS => ?_)
        obtain ⟨v5_26, v6_27, g_28, hP1, hD1⟩ := hB
        rw [ht] at hP1
        obtain ⟨hP, hD⟩ := va_join (wr := [ob0_0_ xc xn xk clo cro c4 c5 c6 c7 c8, ob3_0_ xn vp vn n1 n2 n3 n4 n5, aq_ cy 6 clo 12 (gf_ rl), ai_ cy (rl 0) 12 (Ml 0), ai_ cy (rl 1) 12 (Ml 1), ai_ cy (rl 2) 12 (Ml 2), ai_ cy (rl 3) 12 (Ml 3), ai_ cy (rl 4) 12 (Ml 4), ai_ cy (rl 5) 12 (Ml 5), ai_ cy (rl 6) 12 (Ml 6), ai_ cy (rl 7) 12 (Ml 7), ai_ cy (rl 8) 12 (Ml 8), ai_ cy (rl 9) 12 (Ml 9), ai_ cy (rl 10) 12 (Ml 10), ai_ cy (rl 11) 12 (Ml 11)]) (w1 := [ob7_0_ xh xc u1 u2 u3 u4 v5_26 v6_27 u7 u8]) hP hD [0] [1, 2, 3, 4, 5, 6, 7, 8, 9, 10, 11, 12, 13, 14, 15] hC_ rfl (by decide +kernel) (by decide +kernel) hk1 hFc hP1 hD1
        refine pd_S hP hD [ob7_0_ xh xc u1 u2 u3 u4 v5_26 v6_27 u7 u8, ob0_0_ xc xn xk clo cro c4 c5 c6 c7 c8, ob3_0_ xn vp vn n1 n2 n3 n4 n5, aq_ cy 6 clo 12 (gf_ rl), ai_ cy (rl 0) 12 (Ml 0), ai_ cy (rl 1) 12 (Ml 1), ai_ cy (rl 2) 12 (Ml 2), ai_ cy (rl 3) 12 (Ml 3), ai_ cy (rl 4) 12 (Ml 4), ai_ cy (rl 5) 12 (Ml 5), ai_ cy (rl 6) 12 (Ml 6), ai_ cy (rl 7) 12 (Ml 7), ai_ cy (rl 8) 12 (Ml 8), ai_ cy (rl 9) 12 (Ml 9), ai_ cy (rl 10) 12 (Ml 10), ai_ cy (rl 11) 12 (Ml 11)] [15, 0, 1, 2, 3, 4, 5, 6, 7, 8, 9, 10, 11, 12, 13, 14] (by decide +kernel) rfl (fun hP hD => ?_)
        rw [hQ]
        exact W.vret hx hb hr (fun t ht hW => ⟨⟨(), rfl, trivial, v5_26, v6_27, (scn_to (leaf_end hs (by omega) hlt_ (hnt_leaf hh0_ (by omega)) g_28) (by rw [hK_])), by rw [ht]; exact hP, hD⟩, hS.F ht⟩) hS.2.2 dB_36_1_58.2.2.2.2
    · have t_2 : ¬ u6.toInt = ((-9) : Int32).toInt := fun h => c_2 (Int32.toInt_inj.mp h)
      rw [hQ]
      exact W.vret hx hb hr (fun t ht hW => ⟨⟨(), rfl, trivial, u5, u6, (by first | exact scn_skip hs (fun j h1 h2 => hnt_big hh (by omega) hnn_ (by omega) h1 h2) | exact scn_found hs (by omega)), by rw [ht]; exact hP, hD⟩, hS.F ht⟩) hS.2.2 dB_36_1_58.2.1.1.1

set_option maxHeartbeats 4000000 in
set_option maxRecDepth 100000 in
theorem c_X7_chooseForCut2_3 (l : Launch) (D : va_G) (cy : Nat → ClassId) (sz : Nat) (xh : Nat) (u1 : Int32) (u2 : Int32) (u3 : Int32) (u4 : Int32) (u5 : Int32) (u6 : Int32) (u7 : Int32) (u8 : Int32) (xc : Nat) (xk : Nat) (clo : Nat) (cro : Nat) (c4 : Nat) (c5 : Nat) (c6 : Nat) (c7 : Nat) (c8 : Nat) (xn : Nat) (n1 : Nat) (n2 : Nat) (n3 : Nat) (n4 : Nat) (n5 : Nat) (vp : Int32) (vn : Int32) (rl : Nat → Nat) (Ml : Nat → Nat → Int32) (a1 : Int32) (a2 : Int32) (a3 : Int32) (hvp : 0 ≤ vp.toInt ∧ vp.toInt ≤ 12) (q1 : -1 ≤ a1.toInt ∧ a1.toInt < 3) (hM : ∀ x y : Nat, x < vp.toNatClampNeg → y < vp.toNatClampNeg → 0 ≤ zM Ml x y ∧ zM Ml x y ≤ 80000000) (hA : 0 ≤ u3.toInt ∧ u3.toInt ≤ 1000000) (hh : hnt (zM Ml) vp.toNatClampNeg (a1.toInt + 1).toNat u1 u2 a2 a3.toInt) (hs : scn (qF (zM Ml) vp.toNatClampNeg u1 u2 u3.toInt) u4.toInt a2.toNatClampNeg u5 u6) : Met l yX7_chooseForCut wsX7_chooseForCut ({ frames := 4, cells := 0, slots := 0, locals := 94 }) (va_Pc [.ref xh, .int a1, .int a2, .int a3] (fun U => U.heap.size = sz ∧ va_P D vwCl [ob7_0_ xh xc u1 u2 u3 u4 u5 u6 u7 u8, ob0_0_ xc xn xk clo cro c4 c5 c6 c7 c8, ob3_0_ xn vp vn n1 n2 n3 n4 n5, aq_ cy 6 clo 12 (gf_ rl), ai_ cy (rl 0) 12 (Ml 0), ai_ cy (rl 1) 12 (Ml 1), ai_ cy (rl 2) 12 (Ml 2), ai_ cy (rl 3) 12 (Ml 3), ai_ cy (rl 4) 12 (Ml 4), ai_ cy (rl 5) 12 (Ml 5), ai_ cy (rl 6) 12 (Ml 6), ai_ cy (rl 7) 12 (Ml 7), ai_ cy (rl 8) 12 (Ml 8), ai_ cy (rl 9) 12 (Ml 9), ai_ cy (rl 10) 12 (Ml 10), ai_ cy (rl 11) 12 (Ml 11)] U.heap ∧ kg_ D cy U ∧ va_D (fun _ => True) [ob7_0_ xh xc u1 u2 u3 u4 u5 u6 u7 u8, ob0_0_ xc xn xk clo cro c4 c5 c6 c7 c8, ob3_0_ xn vp vn n1 n2 n3 n4 n5, aq_ cy 6 clo 12 (gf_ rl), ai_ cy (rl 0) 12 (Ml 0), ai_ cy (rl 1) 12 (Ml 1), ai_ cy (rl 2) 12 (Ml 2), ai_ cy (rl 3) 12 (Ml 3), ai_ cy (rl 4) 12 (Ml 4), ai_ cy (rl 5) 12 (Ml 5), ai_ cy (rl 6) 12 (Ml 6), ai_ cy (rl 7) 12 (Ml 7), ai_ cy (rl 8) 12 (Ml 8), ai_ cy (rl 9) 12 (Ml 9), ai_ cy (rl 10) 12 (Ml 10), ai_ cy (rl 11) 12 (Ml 11)])) (va_Qv (fun (_ : Unit) => True) (fun (_ : Unit) (t : State) => ∃ (v5 : Int32), ∃ (v6 : Int32), (scn (qF (zM Ml) vp.toNatClampNeg u1 u2 u3.toInt) u4.toInt (a2.toNatClampNeg + 2 ^ (a1.toInt + 1).toNat) v5 v6) ∧ va_P D vwCl [ob7_0_ xh xc u1 u2 u3 u4 v5 v6 u7 u8, ob0_0_ xc xn xk clo cro c4 c5 c6 c7 c8, ob3_0_ xn vp vn n1 n2 n3 n4 n5, aq_ cy 6 clo 12 (gf_ rl), ai_ cy (rl 0) 12 (Ml 0), ai_ cy (rl 1) 12 (Ml 1), ai_ cy (rl 2) 12 (Ml 2), ai_ cy (rl 3) 12 (Ml 3), ai_ cy (rl 4) 12 (Ml 4), ai_ cy (rl 5) 12 (Ml 5), ai_ cy (rl 6) 12 (Ml 6), ai_ cy (rl 7) 12 (Ml 7), ai_ cy (rl 8) 12 (Ml 8), ai_ cy (rl 9) 12 (Ml 9), ai_ cy (rl 10) 12 (Ml 10), ai_ cy (rl 11) 12 (Ml 11)] t.heap ∧ va_D (va_A [ob7_0_ xh xc u1 u2 u3 u4 u5 u6 u7 u8, ob0_0_ xc xn xk clo cro c4 c5 c6 c7 c8, ob3_0_ xn vp vn n1 n2 n3 n4 n5, aq_ cy 6 clo 12 (gf_ rl), ai_ cy (rl 0) 12 (Ml 0), ai_ cy (rl 1) 12 (Ml 1), ai_ cy (rl 2) 12 (Ml 2), ai_ cy (rl 3) 12 (Ml 3), ai_ cy (rl 4) 12 (Ml 4), ai_ cy (rl 5) 12 (Ml 5), ai_ cy (rl 6) 12 (Ml 6), ai_ cy (rl 7) 12 (Ml 7), ai_ cy (rl 8) 12 (Ml 8), ai_ cy (rl 9) 12 (Ml 9), ai_ cy (rl 10) 12 (Ml 10), ai_ cy (rl 11) 12 (Ml 11)] sz) [ob7_0_ xh xc u1 u2 u3 u4 v5 v6 u7 u8, ob0_0_ xc xn xk clo cro c4 c5 c6 c7 c8, ob3_0_ xn vp vn n1 n2 n3 n4 n5, aq_ cy 6 clo 12 (gf_ rl), ai_ cy (rl 0) 12 (Ml 0), ai_ cy (rl 1) 12 (Ml 1), ai_ cy (rl 2) 12 (Ml 2), ai_ cy (rl 3) 12 (Ml 3), ai_ cy (rl 4) 12 (Ml 4), ai_ cy (rl 5) 12 (Ml 5), ai_ cy (rl 6) 12 (Ml 6), ai_ cy (rl 7) 12 (Ml 7), ai_ cy (rl 8) 12 (Ml 8), ai_ cy (rl 9) 12 (Ml 9), ai_ cy (rl 10) 12 (Ml 10), ai_ cy (rl 11) 12 (Ml 11)]) (va_A [ob7_0_ xh xc u1 u2 u3 u4 u5 u6 u7 u8, ob0_0_ xc xn xk clo cro c4 c5 c6 c7 c8, ob3_0_ xn vp vn n1 n2 n3 n4 n5, aq_ cy 6 clo 12 (gf_ rl), ai_ cy (rl 0) 12 (Ml 0), ai_ cy (rl 1) 12 (Ml 1), ai_ cy (rl 2) 12 (Ml 2), ai_ cy (rl 3) 12 (Ml 3), ai_ cy (rl 4) 12 (Ml 4), ai_ cy (rl 5) 12 (Ml 5), ai_ cy (rl 6) 12 (Ml 6), ai_ cy (rl 7) 12 (Ml 7), ai_ cy (rl 8) 12 (Ml 8), ai_ cy (rl 9) 12 (Ml 9), ai_ cy (rl 10) 12 (Ml 10), ai_ cy (rl 11) 12 (Ml 11)] sz)) 0 0 (va_A [ob7_0_ xh xc u1 u2 u3 u4 u5 u6 u7 u8, ob0_0_ xc xn xk clo cro c4 c5 c6 c7 c8, ob3_0_ xn vp vn n1 n2 n3 n4 n5, aq_ cy 6 clo 12 (gf_ rl), ai_ cy (rl 0) 12 (Ml 0), ai_ cy (rl 1) 12 (Ml 1), ai_ cy (rl 2) 12 (Ml 2), ai_ cy (rl 3) 12 (Ml 3), ai_ cy (rl 4) 12 (Ml 4), ai_ cy (rl 5) 12 (Ml 5), ai_ cy (rl 6) 12 (Ml 6), ai_ cy (rl 7) 12 (Ml 7), ai_ cy (rl 8) 12 (Ml 8), ai_ cy (rl 9) 12 (Ml 9), ai_ cy (rl 10) 12 (Ml 10), ai_ cy (rl 11) 12 (Ml 11)] sz) := by
  refine ofQ (cc := cX7_chooseForCut) (maxL := 5) (ret := none) (by decide) rfl ?_
  intro p e s m args below meth c s₁ Q hQ B hml hv
  obtain ⟨rfl, hsz, hP, hK, hD0⟩ := hv
  have hG := hK.2
  have hK := hK.1
  have hx := B.exec
  have hb := B.bytes
  have hr := B.returns
  have hts := atoms_spec (ws := wsX7_chooseForCut) B.pre
  have hown : s.vm.findClass RX7 = some m.cls := by have h_ := findClass_of_methodNamed B.named; exact h_
  have hlocks := B.notSynchronized
  subst hsz
  have hD := hD0.self (sz := s.heap.size)
  generalize hAe : va_A [ob7_0_ xh xc u1 u2 u3 u4 u5 u6 u7 u8, ob0_0_ xc xn xk clo cro c4 c5 c6 c7 c8, ob3_0_ xn vp vn n1 n2 n3 n4 n5, aq_ cy 6 clo 12 (gf_ rl), ai_ cy (rl 0) 12 (Ml 0), ai_ cy (rl 1) 12 (Ml 1), ai_ cy (rl 2) 12 (Ml 2), ai_ cy (rl 3) 12 (Ml 3), ai_ cy (rl 4) 12 (Ml 4), ai_ cy (rl 5) 12 (Ml 5), ai_ cy (rl 6) 12 (Ml 6), ai_ cy (rl 7) 12 (Ml 7), ai_ cy (rl 8) 12 (Ml 8), ai_ cy (rl 9) 12 (Ml 9), ai_ cy (rl 10) 12 (Ml 10), ai_ cy (rl 11) 12 (Ml 11)] s.heap.size = A at hD hQ
  have hA : ∀ q : Nat, s.heap.size ≤ q → A q := fun q h => by rw [← hAe]; exact Or.inr h
  have hS : va_S A s.heap s.heap [] := va_S.rf
  have hl := lv_entry ([.ref xh, .int a1, .int a2, .int a3]) (n := 5) (Nat.le_of_ble_eq_true rfl)
  rw [lg_entry_eq]
  generalize (lg_sl ([.ref xh, .int a1, .int a2, .int a3]) ++ List.replicate (5 - (lg_sl ([.ref xh, .int a1, .int a2, .int a3])).length) Slot.unset).toArray = ls at hl ⊢
  have hl : lv_has ls 5 [(0, .ref xh), (1, .int a1), (2, .int a2), (3, .int a3)] := hl
  have zm9 : ((-9) : Int32).toInt = -9 := by decide
  have z0 : (0 : Int32).toInt = 0 := by decide
  have z1 : (1 : Int32).toInt = 1 := by decide
  have cv_ := clI (i := vp) (by omega)
  have hnn_ : ∀ x y : Nat, x < vp.toNatClampNeg → y < vp.toNatClampNeg → 0 ≤ zM Ml x y := fun x y hx hy => (hM x y hx hy).1
  have ha3_ := hnt_nn hh hnn_
  have hlt_ := hnt_lt hh (by omega)
  refine lv_iload_n hx hb dB_36_1_58.1.1.1.1 rfl (lv_at hl 3 rfl) ?_
  refine lv_aload_n hx hb dB_36_1_58.1.1.1.2 rfl (lv_at hl 0 rfl) ?_
  refine va_get (ci := 7) (v := .int u3) (C := RX7) (T := TX7) (N := 9) hx hb hts (fun _ h => List.mem_cons_of_mem _ (List.mem_append_left _ (List.mem_append_left _ (List.mem_append_right _ h)))) hown hK.1 hP 0 rfl rfl 3 (by decide) (hts (.fieldLink RX7 33 "CutAtlas$SetHunt" "aim" "I") (List.mem_of_getElem? (i := 1) rfl)) (fun _ h9 => h9) rfl dB_36_1_58.1.1.2.1 ?_
  refine lv_icmp_gt (tgt := 17) hx hb dB_36_1_58.1.1.2.2 (by decide) (fun c_1 => ?_) (fun c_1 => ?_)
  · have t_1 : u3.toInt < a3.toInt := Int32.lt_iff_toInt_lt.mp c_1
    rw [hQ]
    exact W.vret hx hb hr (fun t ht hW => ⟨⟨(), rfl, trivial, u5, u6, (by first | exact scn_skip hs (fun j h1 h2 => hnt_big hh (by omega) hnn_ (by omega) h1 h2) | exact scn_found hs (by omega)), by rw [ht]; exact hP, hD⟩, hS.F ht⟩) hS.2.2 dB_36_1_58.2.1.1.1
  · have t_1 : ¬ u3.toInt < a3.toInt := fun h => c_1 (Int32.lt_iff_toInt_lt.mpr h)
    refine lv_aload_n hx hb dB_36_1_58.1.2.1.1 rfl (lv_at hl 0 rfl) ?_
    refine va_get (ci := 7) (v := .int u6) (C := RX7) (T := TX7) (N := 9) hx hb hts (fun _ h => List.mem_cons_of_mem _ (List.mem_append_left _ (List.mem_append_left _ (List.mem_append_right _ h)))) hown hK.1 hP 0 rfl rfl 6 (by decide) (hts (.fieldLink RX7 24 "CutAtlas$SetHunt" "found" "I") (List.mem_of_getElem? (i := 2) rfl)) (fun _ h9 => h9) rfl dB_36_1_58.1.2.1.2 ?_
    refine lv_bipush (v := (-9)) hx hb dB_36_1_58.1.2.2.1 (by decide) ?_
    refine lv_icmp_eq (tgt := 18) hx hb dB_36_1_58.1.2.2.2 (by decide) (fun c_2 => ?_) (fun c_2 => ?_)
    · have t_2 : u6.toInt = ((-9) : Int32).toInt := congrArg Int32.toInt c_2
      refine lv_iload_n hx hb dB_36_1_58.2.1.1.2 rfl (lv_at hl 1 rfl) ?_
      refine lv_if_ge (tgt := 29) hx hb dB_36_1_58.2.1.2.1 (by decide) (fun c_3 => ?_) (fun c_3 => ?_)
      · have t_3 : (0 : Int32).toInt ≤ a1.toInt := Int32.le_iff_toInt_le.mp c_3
        have cp_ := clI (i := a1) (by omega)
        have hK_ : (a1.toInt + 1).toNat = a1.toNatClampNeg + 1 := by omega
        have hh1_ : hnt (zM Ml) vp.toNatClampNeg (a1.toNatClampNeg + 1) u1 u2 a2 a3.toInt := by rw [hK_] at hh; exact hh
        have hap_ : a1.toInt < vp.toInt := by have h_ := hh1_.1; omega
        refine lv_iconst (v := 1) hx hb dB_36_1_59.1.1.1.1 (by decide) ?_
        refine lv_iload_n hx hb dB_36_1_59.1.1.1.2 rfl (lv_at hl 1 rfl) ?_
        refine lv_ishl hx hb dB_36_1_59.1.1.2.1 ?_
        refine lv_topi (fun y_4 ey_4 => ?_)
        refine lv_istore (lv' := [(4, .int y_4), (0, .ref xh), (1, .int a1), (2, .int a2), (3, .int a3)]) hx hb dB_36_1_59.1.1.2.2 hl (by decide) rfl (fun ls hl => ?_)
        have JOIN_5 : ∀ (o5_5 : Int32) (o6_5 : Int32) (H : Heap) (locs : List Loc) (ls : Array Slot), (scn (qF (zM Ml) vp.toNatClampNeg u1 u2 u3.toInt) u4.toInt (a2.toNatClampNeg + 2 ^ a1.toNatClampNeg) o5_5 o6_5) → pd_2 D vwCl A [ob7_0_ xh xc u1 u2 u3 u4 o5_5 o6_5 u7 u8, ob0_0_ xc xn xk clo cro c4 c5 c6 c7 c8, ob3_0_ xn vp vn n1 n2 n3 n4 n5, aq_ cy 6 clo 12 (gf_ rl), ai_ cy (rl 0) 12 (Ml 0), ai_ cy (rl 1) 12 (Ml 1), ai_ cy (rl 2) 12 (Ml 2), ai_ cy (rl 3) 12 (Ml 3), ai_ cy (rl 4) 12 (Ml 4), ai_ cy (rl 5) 12 (Ml 5), ai_ cy (rl 6) 12 (Ml 6), ai_ cy (rl 7) 12 (Ml 7), ai_ cy (rl 8) 12 (Ml 8), ai_ cy (rl 9) 12 (Ml 9), ai_ cy (rl 10) 12 (Ml 10), ai_ cy (rl 11) 12 (Ml 11)] H → va_S A s.heap H locs → lv_has ls 5 [(4, .int y_4), (0, .ref xh), (1, .int a1), (2, .int a2), (3, .int a3)] → W p l e ({ frames := 4, cells := 0, slots := 0, locals := 94 } : Room) s m (([.ref xh, .int a1, .int a2, .int a3] : List Value).toArray) below meth c H locs 0 0 Q (F0 m 60 ls []) := by
          intro o5_5 o6_5 H locs ls v0_5 hPD hS hl; obtain ⟨hP, hD⟩ := hPD
          refine lv_aload_n hx hb dB_36_1_60.1.2.1.2 rfl (lv_at hl 1 rfl) ?_
          refine va_get (ci := 7) (v := .int u2) (C := RX7) (T := TX7) (N := 9) hx hb hts (fun _ h => List.mem_cons_of_mem _ (List.mem_append_left _ (List.mem_append_left _ (List.mem_append_right _ h)))) hown hK.1 hP 0 rfl rfl 2 (by decide) (hts (.fieldLink RX7 30 "CutAtlas$SetHunt" "mustNot" "I") (List.mem_of_getElem? (i := 4) rfl)) (fun _ h9 => h9) rfl dB_36_1_60.1.2.2.1 ?_
          refine lv_iload hx hb dB_36_1_60.1.2.2.2 (lv_at hl 0 rfl) ?_
          refine lv_iand hx hb dB_36_1_60.2.1.1.1 ?_
          refine lv_topi (fun y_6 ey_6 => ?_)
          have hnu_ := and_bit (mu := u2) (by omega) (by omega) ey_4 ey_6
          refine lv_if_ne (tgt := 89) hx hb dB_36_1_60.2.1.1.2 (by decide) (fun c_7 => ?_) (fun c_7 => ?_)
          · have t_7 : ¬ y_6.toInt = (0 : Int32).toInt := fun h => c_7 (Int32.toInt_inj.mp h)
            rw [hQ]
            exact W.vret hx hb hr (fun t ht hW => ⟨⟨(), rfl, trivial, o5_5, o6_5, (by first | exact scn_to (scn_skip v0_5 (fun j h1 h2 => hnt_nout hh1_ (by omega) (hnu_.2 (by omega)) h1 h2)) (by rw [pw_K hK_]; omega) | exact scn_to of_none (by rw [hKq_, hst_.1, pw_K hK_]; omega)), by rw [ht]; exact hP, hD⟩, hS.F ht⟩) hS.2.2 dB_36_1_61.2.2.2.2
          · have t_7 : y_6.toInt = (0 : Int32).toInt := congrArg Int32.toInt c_7
            refine lv_aload_n hx hb dB_36_1_60.2.1.2.1 rfl (lv_at hl 1 rfl) ?_
            refine lv_iload_n hx hb dB_36_1_60.2.1.2.2 rfl (lv_at hl 2 rfl) ?_
            refine lv_iconst (v := 1) hx hb dB_36_1_60.2.2.1.1 (by decide) ?_
            refine lv_isub hx hb dB_36_1_60.2.2.1.2 ?_
            refine lv_topi (fun y_8 ey_8 => ?_)
            have ty_8 : y_8.toInt = a1.toInt - (1 : Int32).toInt := by rw [ey_8]; exact subI (by omega) (by omega)
            refine lv_iload_n hx hb dB_36_1_60.2.2.2.1 rfl (lv_at hl 3 rfl) ?_
            refine lv_iload hx hb dB_36_1_60.2.2.2.2 (lv_at hl 0 rfl) ?_
            refine lv_ior hx hb dB_36_1_61.1.1.1 ?_
            refine lv_topi (fun y_9 ey_9 => ?_)
            have hst_ := hnt_set hh1_ (by omega) (by omega) ey_4 ey_9
            refine lv_iload_n hx hb dB_36_1_61.1.1.2 rfl (lv_at hl 4 rfl) ?_
            refine lv_aload_n hx hb dB_36_1_61.1.2.1 rfl (lv_at hl 1 rfl) ?_
            refine lv_iload_n hx hb dB_36_1_61.1.2.2 rfl (lv_at hl 2 rfl) ?_
            refine lv_iload_n hx hb dB_36_1_61.2.1.1 rfl (lv_at hl 3 rfl) ?_
            refine ct_R hP hD [ob7_0_ xh xc u1 u2 u3 u4 o5_5 o6_5 u7 u8, ob0_0_ xc xn xk clo cro c4 c5 c6 c7 c8, ob3_0_ xn vp vn n1 n2 n3 n4 n5, aq_ cy 6 clo 12 (gf_ rl), ai_ cy (rl 0) 12 (Ml 0), ai_ cy (rl 1) 12 (Ml 1), ai_ cy (rl 2) 12 (Ml 2), ai_ cy (rl 3) 12 (Ml 3), ai_ cy (rl 4) 12 (Ml 4), ai_ cy (rl 5) 12 (Ml 5), ai_ cy (rl 6) 12 (Ml 6), ai_ cy (rl 7) 12 (Ml 7), ai_ cy (rl 8) 12 (Ml 8), ai_ cy (rl 9) 12 (Ml 9), ai_ cy (rl 10) 12 (Ml 10), ai_ cy (rl 11) 12 (Ml 11)] [0, 1, 2, 3, 4, 5, 6, 7, 8, 9, 10, 11, 12, 13, 14, 15] (by decide +kernel) rfl (fun hPc hDw => ?_)
            have hFc := va_free (wc := []) hD hS hA [] rfl
            refine va_calli (va_runV (As := [.int a1, .int a2]) (rest := [.int a3, .int y_9, .int y_8, .ref xh]) ⟨hx, hb, hml, hown, hts⟩ (c_X7_letOut2 l D cy H.size xh u1 u2 u3 u4 o5_5 o6_5 u7 u8 xc xk clo cro c4 c5 c6 c7 c8 xn n1 n2 n3 n4 n5 vp vn rl Ml a1 a2 (by first | with_reducible assumption | omega | assumption) (by first | with_reducible assumption | omega | assumption) (by first | with_reducible assumption | assumption | omega)) (cwV 2 hts gX7_chooseForCut_X7_letOut rfl rfl rfl ⟨rfl, hd_X7_letOut⟩ ⟨Nat.le_of_ble_eq_true rfl, Nat.le_of_ble_eq_true rfl⟩) ⟨bl_g, va_recvX hK.1 hP (ci := 7) (q0 := 0) rfl rfl, fun U hU hW => ⟨rfl, by rw [hU], by rw [hU]; exact hPc, ⟨kk_mv hW hK, arrOfT_moved hW.alike hG⟩, hDw⟩⟩ rfl rfl hl.1 rfl (lv_room (Nat.le_of_ble_eq_true rfl)) dB_36_1_61.2.1.2 ⟨Nat.le_of_ble_eq_true rfl, Nat.le_of_ble_eq_true rfl⟩) hS (fun q _ h => hFc q h) hFc (fun r_10 u t H locs ht hvm hw hB hz1 hk1 hS => ?_)
            have hP : va_P D vwCl _ H := ro_keep hP hk1
            obtain ⟨f0_r_10, f1_r_10⟩ := hw
            refine lv_iadd hx hb dB_36_1_61.2.2.1 ?_
            refine lv_topi (fun y_11 ey_11 => ?_)
            have ty_11 : y_11.toInt = a3.toInt + r_10.toInt := by rw [ey_11]; exact addI (by omega) (by omega)
            have hKq_ : (y_8.toInt + 1).toNat = a1.toNatClampNeg := by omega
            have hrh_ : hnt (zM Ml) vp.toNatClampNeg (y_8.toInt + 1).toNat u1 u2 y_9 y_11.toInt := by rw [hKq_]; exact hnt_out hh1_ (by omega) (by omega) ey_4 ey_9 (hnu_.1 (by omega)) ty_11 f0_r_10
            have hrs_ : scn (qF (zM Ml) vp.toNatClampNeg u1 u2 u3.toInt) u4.toInt y_9.toNatClampNeg o5_5 o6_5 := scn_to v0_5 hst_.1.symm
            refine ct_S hP hD hS hA [ob7_0_ xh xc u1 u2 u3 u4 o5_5 o6_5 u7 u8, ob0_0_ xc xn xk clo cro c4 c5 c6 c7 c8, ob3_0_ xn vp vn n1 n2 n3 n4 n5, aq_ cy 6 clo 12 (gf_ rl), ai_ cy (rl 0) 12 (Ml 0), ai_ cy (rl 1) 12 (Ml 1), ai_ cy (rl 2) 12 (Ml 2), ai_ cy (rl 3) 12 (Ml 3), ai_ cy (rl 4) 12 (Ml 4), ai_ cy (rl 5) 12 (Ml 5), ai_ cy (rl 6) 12 (Ml 6), ai_ cy (rl 7) 12 (Ml 7), ai_ cy (rl 8) 12 (Ml 8), ai_ cy (rl 9) 12 (Ml 9), ai_ cy (rl 10) 12 (Ml 10), ai_ cy (rl 11) 12 (Ml 11)] [0, 1, 2, 3, 4, 5, 6, 7, 8, 9, 10, 11, 12, 13, 14, 15] (by decide +kernel) rfl (fun hPc hDw hFc hC_ => ?_)
            refine va_callv (va_runV (As := [.int y_8, .int y_9, .int y_11]) (rest := []) ⟨hx, hb, hml, hown, hts⟩ (c_X7_chooseForCut2_2 l D cy H.size xh u1 u2 u3 u4 o5_5 o6_5 u7 u8 xc xk clo cro c4 c5 c6 c7 c8 xn n1 n2 n3 n4 n5 vp vn rl Ml y_8 y_9 y_11 (by first | with_reducible assumption | omega | assumption) (by first | with_reducible assumption | omega | assumption) (by first | with_reducible assumption | assumption | omega) (by first | with_reducible assumption | omega | assumption) (by first | with_reducible assumption | assumption | omega) (by first | with_reducible assumption | assumption | omega)) (cwV 3 hts gX7_chooseForCut_X7_chooseForCut rfl rfl rfl ⟨rfl, hd_X7_chooseForCut⟩ ⟨Nat.le_of_ble_eq_true rfl, Nat.le_of_ble_eq_true rfl⟩) ⟨bl_g, va_recvX hK.1 hP (ci := 7) (q0 := 0) rfl rfl, fun U hU hW => ⟨rfl, by rw [hU], by rw [hU]; exact hPc, ⟨kk_mv hW hK, arrOfT_moved hW.alike hG⟩, hDw⟩⟩ rfl rfl hl.1 rfl (lv_room (Nat.le_of_ble_eq_true rfl)) dB_36_1_61.2.2.2.1 ⟨Nat.le_of_ble_eq_true rfl, Nat.le_of_ble_eq_true rfl⟩) hS (fun q _ h => hFc q h) hFc (fun u t H locs ht hvm hw hB hz1 hk1 hS => ?_)
            obtain ⟨v5_13, v6_14, g_15, hP1, hD1⟩ := hB
            rw [ht] at hP1
            obtain ⟨hP, hD⟩ := va_join (wr := []) (w1 := [ob7_0_ xh xc u1 u2 u3 u4 v5_13 v6_14 u7 u8, ob0_0_ xc xn xk clo cro c4 c5 c6 c7 c8, ob3_0_ xn vp vn n1 n2 n3 n4 n5, aq_ cy 6 clo 12 (gf_ rl), ai_ cy (rl 0) 12 (Ml 0), ai_ cy (rl 1) 12 (Ml 1), ai_ cy (rl 2) 12 (Ml 2), ai_ cy (rl 3) 12 (Ml 3), ai_ cy (rl 4) 12 (Ml 4), ai_ cy (rl 5) 12 (Ml 5), ai_ cy (rl 6) 12 (Ml 6), ai_ cy (rl 7) 12 (Ml 7), ai_ cy (rl 8) 12 (Ml 8), ai_ cy (rl 9) 12 (Ml 9), ai_ cy (rl 10) 12 (Ml 10), ai_ cy (rl 11) 12 (Ml 11)]) hP hD [0, 1, 2, 3, 4, 5, 6, 7, 8, 9, 10, 11, 12, 13, 14, 15] [] hC_ rfl (by decide) (by decide) hk1 hFc hP1 hD1
            refine pd_K [ob7_0_ xh xc u1 u2 u3 u4 v5_13 v6_14 u7 u8, ob0_0_ xc xn xk clo cro c4 c5 c6 c7 c8, ob3_0_ xn vp vn n1 n2 n3 n4 n5, aq_ cy 6 clo 12 (gf_ rl), ai_ cy (rl 0) 12 (Ml 0), ai_ cy (rl 1) 12 (Ml 1), ai_ cy (rl 2) 12 (Ml 2), ai_ cy (rl 3) 12 (Ml 3), ai_ cy (rl 4) 12 (Ml 4), ai_ cy (rl 5) 12 (Ml 5), ai_ cy (rl 6) 12 (Ml 6), ai_ cy (rl 7) 12 (Ml 7), ai_ cy (rl 8) 12 (Ml 8), ai_ cy (rl 9) 12 (Ml 9), ai_ cy (rl 10) 12 (Ml 10), ai_ cy (rl 11) 12 (Ml 11)] hP hD (fun hP hD => ?_)
            rw [hQ]
            exact W.vret hx hb hr (fun t ht hW => ⟨⟨(), rfl, trivial, v5_13, v6_14, (by first | exact scn_to (scn_skip v0_5 (fun j h1 h2 => hnt_nout hh1_ (by omega) (hnu_.2 (by omega)) h1 h2)) (by rw [pw_K hK_]; omega) | exact scn_to g_15 (by rw [hKq_, hst_.1, pw_K hK_]; omega)), by rw [ht]; exact hP, hD⟩, hS.F ht⟩) hS.2.2 dB_36_1_61.2.2.2.2
        refine lv_aload_n hx hb dB_36_1_59.1.2.1.1 rfl (lv_at hl 1 rfl) ?_
        refine va_get (ci := 7) (v := .int u1) (C := RX7) (T := TX7) (N := 9) hx hb hts (fun _ h => List.mem_cons_of_mem _ (List.mem_append_left _ (List.mem_append_left _ (List.mem_append_right _ h)))) hown hK.1 hP 0 rfl rfl 1 (by decide) (hts (.fieldLink RX7 27 "CutAtlas$SetHunt" "must" "I") (List.mem_of_getElem? (i := 3) rfl)) (fun _ h9 => h9) rfl dB_36_1_59.1.2.1.2 ?_
        refine lv_iload hx hb dB_36_1_59.1.2.2.1 (lv_at hl 0 rfl) ?_
        refine lv_iand hx hb dB_36_1_59.1.2.2.2 ?_
        refine lv_topi (fun y_16 ey_16 => ?_)
        have hmu_ := and_bit (mu := u1) (by omega) (by omega) ey_4 ey_16
        refine lv_if_ne (tgt := 60) hx hb dB_36_1_59.2.1.1.1 (by decide) (fun c_17 => ?_) (fun c_17 => ?_)
        · have t_17 : ¬ y_16.toInt = (0 : Int32).toInt := fun h => c_17 (Int32.toInt_inj.mp h)
          exact JOIN_5 u5 u6 _ _ _ (by first | exact scn_skip hs (fun j h1 h2 => hnt_nin hh1_ (by omega) (hmu_.2 (by omega)) h1 h2) | exact scn_to of_none (by rw [hKr_])) ⟨hP, hD⟩ hS (lv_sub hl [0, 1, 2, 3, 4] rfl)
        · have t_17 : y_16.toInt = (0 : Int32).toInt := congrArg Int32.toInt c_17
          refine lv_aload_n hx hb dB_36_1_59.2.1.1.2 rfl (lv_at hl 1 rfl) ?_
          refine lv_iload_n hx hb dB_36_1_59.2.1.2.1 rfl (lv_at hl 2 rfl) ?_
          refine lv_iconst (v := 1) hx hb dB_36_1_59.2.1.2.2 (by decide) ?_
          refine lv_isub hx hb dB_36_1_59.2.2.1.1 ?_
          refine lv_topi (fun y_18 ey_18 => ?_)
          have ty_18 : y_18.toInt = a1.toInt - (1 : Int32).toInt := by rw [ey_18]; exact subI (by omega) (by omega)
          refine lv_iload_n hx hb dB_36_1_59.2.2.1.2 rfl (lv_at hl 3 rfl) ?_
          refine lv_iload_n hx hb dB_36_1_59.2.2.2.1 rfl (lv_at hl 4 rfl) ?_
          refine lv_aload_n hx hb dB_36_1_59.2.2.2.2 rfl (lv_at hl 1 rfl) ?_
          refine lv_iload_n hx hb dB_36_1_60.1.1.1.1 rfl (lv_at hl 2 rfl) ?_
          refine lv_iload_n hx hb dB_36_1_60.1.1.1.2 rfl (lv_at hl 3 rfl) ?_
          refine ct_R hP hD [ob7_0_ xh xc u1 u2 u3 u4 u5 u6 u7 u8, ob0_0_ xc xn xk clo cro c4 c5 c6 c7 c8, ob3_0_ xn vp vn n1 n2 n3 n4 n5, aq_ cy 6 clo 12 (gf_ rl), ai_ cy (rl 0) 12 (Ml 0), ai_ cy (rl 1) 12 (Ml 1), ai_ cy (rl 2) 12 (Ml 2), ai_ cy (rl 3) 12 (Ml 3), ai_ cy (rl 4) 12 (Ml 4), ai_ cy (rl 5) 12 (Ml 5), ai_ cy (rl 6) 12 (Ml 6), ai_ cy (rl 7) 12 (Ml 7), ai_ cy (rl 8) 12 (Ml 8), ai_ cy (rl 9) 12 (Ml 9), ai_ cy (rl 10) 12 (Ml 10), ai_ cy (rl 11) 12 (Ml 11)] [0, 1, 2, 3, 4, 5, 6, 7, 8, 9, 10, 11, 12, 13, 14, 15] (by decide +kernel) rfl (fun hPc hDw => ?_)
          have hFc := va_free (wc := []) hD hS hA [] rfl
          refine va_calli (va_runV (As := [.int a1, .int a2]) (rest := [.int a3, .int a2, .int y_18, .ref xh]) ⟨hx, hb, hml, hown, hts⟩ (c_X7_letIn2 l D cy s.heap.size xh u1 u2 u3 u4 u5 u6 u7 u8 xc xk clo cro c4 c5 c6 c7 c8 xn n1 n2 n3 n4 n5 vp vn rl Ml a1 a2 (by first | with_reducible assumption | omega | assumption) (by first | with_reducible assumption | omega | assumption) (by first | with_reducible assumption | assumption | omega)) (cwV 2 hts gX7_chooseForCut_X7_letIn rfl rfl rfl ⟨rfl, hd_X7_letIn⟩ ⟨Nat.le_of_ble_eq_true rfl, Nat.le_of_ble_eq_true rfl⟩) ⟨bl_g, va_recvX hK.1 hP (ci := 7) (q0 := 0) rfl rfl, fun U hU hW => ⟨rfl, by rw [hU], by rw [hU]; exact hPc, ⟨kk_mv hW hK, arrOfT_moved hW.alike hG⟩, hDw⟩⟩ rfl rfl hl.1 rfl (lv_room (Nat.le_of_ble_eq_true rfl)) dB_36_1_60.1.1.2.1 ⟨Nat.le_of_ble_eq_true rfl, Nat.le_of_ble_eq_true rfl⟩) hS (fun q _ h => hFc q h) hFc (fun r_19 u t H locs ht hvm hw hB hz1 hk1 hS => ?_)
          have hP : va_P D vwCl _ H := ro_keep hP hk1
          obtain ⟨f0_r_19, f1_r_19⟩ := hw
          refine lv_iadd hx hb dB_36_1_60.1.1.2.2 ?_
          refine lv_topi (fun y_20 ey_20 => ?_)
          have ty_20 : y_20.toInt = a3.toInt + r_19.toInt := by rw [ey_20]; exact addI (by omega) (by omega)
          have hKr_ : (y_18.toInt + 1).toNat = a1.toNatClampNeg := by omega
          have hrh_ : hnt (zM Ml) vp.toNatClampNeg (y_18.toInt + 1).toNat u1 u2 a2 y_20.toInt := by rw [hKr_]; exact hnt_in hh1_ (hmu_.1 (by omega)) ty_20 f0_r_19
          refine ct_S hP hD hS hA [ob7_0_ xh xc u1 u2 u3 u4 u5 u6 u7 u8, ob0_0_ xc xn xk clo cro c4 c5 c6 c7 c8, ob3_0_ xn vp vn n1 n2 n3 n4 n5, aq_ cy 6 clo 12 (gf_ rl), ai_ cy (rl 0) 12 (Ml 0), ai_ cy (rl 1) 12 (Ml 1), ai_ cy (rl 2) 12 (Ml 2), ai_ cy (rl 3) 12 (Ml 3), ai_ cy (rl 4) 12 (Ml 4), ai_ cy (rl 5) 12 (Ml 5), ai_ cy (rl 6) 12 (Ml 6), ai_ cy (rl 7) 12 (Ml 7), ai_ cy (rl 8) 12 (Ml 8), ai_ cy (rl 9) 12 (Ml 9), ai_ cy (rl 10) 12 (Ml 10), ai_ cy (rl 11) 12 (Ml 11)] [0, 1, 2, 3, 4, 5, 6, 7, 8, 9, 10, 11, 12, 13, 14, 15] (by decide +kernel) rfl (fun hPc hDw hFc hC_ => ?_)
          refine va_callv (va_runV (As := [.int y_18, .int a2, .int y_20]) (rest := []) ⟨hx, hb, hml, hown, hts⟩ (c_X7_chooseForCut2_2 l D cy H.size xh u1 u2 u3 u4 u5 u6 u7 u8 xc xk clo cro c4 c5 c6 c7 c8 xn n1 n2 n3 n4 n5 vp vn rl Ml y_18 a2 y_20 (by first | with_reducible assumption | omega | assumption) (by first | with_reducible assumption | omega | assumption) (by first | with_reducible assumption | assumption | omega) (by first | with_reducible assumption | omega | assumption) (by first | with_reducible assumption | assumption | omega) (by first | with_reducible assumption | assumption | omega)) (cwV 3 hts gX7_chooseForCut_X7_chooseForCut rfl rfl rfl ⟨rfl, hd_X7_chooseForCut⟩ ⟨Nat.le_of_ble_eq_true rfl, Nat.le_of_ble_eq_true rfl⟩) ⟨bl_g, va_recvX hK.1 hP (ci := 7) (q0 := 0) rfl rfl, fun U hU hW => ⟨rfl, by rw [hU], by rw [hU]; exact hPc, ⟨kk_mv hW hK, arrOfT_moved hW.alike hG⟩, hDw⟩⟩ rfl rfl hl.1 rfl (lv_room (Nat.le_of_ble_eq_true rfl)) dB_36_1_60.1.2.1.1 ⟨Nat.le_of_ble_eq_true rfl, Nat.le_of_ble_eq_true rfl⟩) hS (fun q _ h => hFc q h) hFc (fun u t H locs ht hvm hw hB hz1 hk1 hS => ?_)
          obtain ⟨v5_22, v6_23, g_24, hP1, hD1⟩ := hB
          rw [ht] at hP1
          obtain ⟨hP, hD⟩ := va_join (wr := []) (w1 := [ob7_0_ xh xc u1 u2 u3 u4 v5_22 v6_23 u7 u8, ob0_0_ xc xn xk clo cro c4 c5 c6 c7 c8, ob3_0_ xn vp vn n1 n2 n3 n4 n5, aq_ cy 6 clo 12 (gf_ rl), ai_ cy (rl 0) 12 (Ml 0), ai_ cy (rl 1) 12 (Ml 1), ai_ cy (rl 2) 12 (Ml 2), ai_ cy (rl 3) 12 (Ml 3), ai_ cy (rl 4) 12 (Ml 4), ai_ cy (rl 5) 12 (Ml 5), ai_ cy (rl 6) 12 (Ml 6), ai_ cy (rl 7) 12 (Ml 7), ai_ cy (rl 8) 12 (Ml 8), ai_ cy (rl 9) 12 (Ml 9), ai_ cy (rl 10) 12 (Ml 10), ai_ cy (rl 11) 12 (Ml 11)]) hP hD [0, 1, 2, 3, 4, 5, 6, 7, 8, 9, 10, 11, 12, 13, 14, 15] [] hC_ rfl (by decide) (by decide) hk1 hFc hP1 hD1
          refine pd_K [ob7_0_ xh xc u1 u2 u3 u4 v5_22 v6_23 u7 u8, ob0_0_ xc xn xk clo cro c4 c5 c6 c7 c8, ob3_0_ xn vp vn n1 n2 n3 n4 n5, aq_ cy 6 clo 12 (gf_ rl), ai_ cy (rl 0) 12 (Ml 0), ai_ cy (rl 1) 12 (Ml 1), ai_ cy (rl 2) 12 (Ml 2), ai_ cy (rl 3) 12 (Ml 3), ai_ cy (rl 4) 12 (Ml 4), ai_ cy (rl 5) 12 (Ml 5), ai_ cy (rl 6) 12 (Ml 6), ai_ cy (rl 7) 12 (Ml 7), ai_ cy (rl 8) 12 (Ml 8), ai_ cy (rl 9) 12 (Ml 9), ai_ cy (rl 10) 12 (Ml 10), ai_ cy (rl 11) 12 (Ml 11)] hP hD (fun hP hD => ?_)
          exact JOIN_5 v5_22 v6_23 _ _ _ (by first | exact scn_skip hs (fun j h1 h2 => hnt_nin hh1_ (by omega) (hmu_.2 (by omega)) h1 h2) | exact scn_to g_24 (by rw [hKr_])) ⟨hP, hD⟩ hS (lv_sub hl [0, 1, 2, 3, 4] rfl)
      · have t_3 : ¬ (0 : Int32).toInt ≤ a1.toInt := fun h => c_3 (Int32.le_iff_toInt_le.mpr h)
        have hK_ : (a1.toInt + 1).toNat = 0 := by omega
        have hh0_ : hnt (zM Ml) vp.toNatClampNeg 0 u1 u2 a2 a3.toInt := by rw [hK_] at hh; exact hh
        have hsn_ := scn_not hs (by omega) (by omega)
        have hcb_ := cnQ_nn (p := qF (zM Ml) vp.toNatClampNeg u1 u2 u3.toInt) (k := a2.toNatClampNeg)
        refine lv_aload_n hx hb dB_36_1_58.2.1.2.2 rfl (lv_at hl 0 rfl) ?_
        refine lv_iload_n hx hb dB_36_1_58.2.2.1.1 rfl (lv_at hl 2 rfl) ?_
        refine lv_iload_n hx hb dB_36_1_58.2.2.1.2 rfl (lv_at hl 3 rfl) ?_
        refine ct_S hP hD hS hA [ob7_0_ xh xc u1 u2 u3 u4 u5 u6 u7 u8] [0] (by decide) rfl (fun hPc hDw hFc hC_ => ?_)
        refine va_callv (va_runV (As := [.int a2, .int a3]) (rest := []) ⟨hx, hb, hml, hown, hts⟩ (c_X7_meet2 l D cy s.heap.size xh u1 u2 u3 u4 u5 u6 u7 u8 xc a2 a3 (by first | with_reducible assumption | omega | assumption)) (cwV 2 hts gX7_chooseForCut_X7_meet rfl rfl rfl ⟨rfl, hd_X7_meet⟩ ⟨Nat.le_of_ble_eq_true rfl, Nat.le_of_ble_eq_true rfl⟩) ⟨bl_, va_recvX hK.1 hP (ci := 7) (q0 := 0) rfl rfl, fun U hU hW => ⟨rfl, by rw [hU], by rw [hU]; exact hPc, kk_mv hW hK, hDw⟩⟩ rfl rfl hl.1 rfl (lv_room (Nat.le_of_ble_eq_true rfl)) dB_36_1_58.2.2.2.1 ⟨Nat.le_of_ble_eq_true rfl, Nat.le_of_ble_eq_true rfl⟩) hS (fun q _ h => hFc q h) hFc (fun u t H locs ht hvm hw hB hz1 hk1 hS => ?_)
        obtain ⟨v5_26, v6_27, g_28, hP1, hD1⟩ := hB
        rw [ht] at hP1
        obtain ⟨hP, hD⟩ := va_join (wr := [ob0_0_ xc xn xk clo cro c4 c5 c6 c7 c8, ob3_0_ xn vp vn n1 n2 n3 n4 n5, aq_ cy 6 clo 12 (gf_ rl), ai_ cy (rl 0) 12 (Ml 0), ai_ cy (rl 1) 12 (Ml 1), ai_ cy (rl 2) 12 (Ml 2), ai_ cy (rl 3) 12 (Ml 3), ai_ cy (rl 4) 12 (Ml 4), ai_ cy (rl 5) 12 (Ml 5), ai_ cy (rl 6) 12 (Ml 6), ai_ cy (rl 7) 12 (Ml 7), ai_ cy (rl 8) 12 (Ml 8), ai_ cy (rl 9) 12 (Ml 9), ai_ cy (rl 10) 12 (Ml 10), ai_ cy (rl 11) 12 (Ml 11)]) (w1 := [ob7_0_ xh xc u1 u2 u3 u4 v5_26 v6_27 u7 u8]) hP hD [0] [1, 2, 3, 4, 5, 6, 7, 8, 9, 10, 11, 12, 13, 14, 15] hC_ rfl (by decide +kernel) (by decide +kernel) hk1 hFc hP1 hD1
        refine pd_S hP hD [ob7_0_ xh xc u1 u2 u3 u4 v5_26 v6_27 u7 u8, ob0_0_ xc xn xk clo cro c4 c5 c6 c7 c8, ob3_0_ xn vp vn n1 n2 n3 n4 n5, aq_ cy 6 clo 12 (gf_ rl), ai_ cy (rl 0) 12 (Ml 0), ai_ cy (rl 1) 12 (Ml 1), ai_ cy (rl 2) 12 (Ml 2), ai_ cy (rl 3) 12 (Ml 3), ai_ cy (rl 4) 12 (Ml 4), ai_ cy (rl 5) 12 (Ml 5), ai_ cy (rl 6) 12 (Ml 6), ai_ cy (rl 7) 12 (Ml 7), ai_ cy (rl 8) 12 (Ml 8), ai_ cy (rl 9) 12 (Ml 9), ai_ cy (rl 10) 12 (Ml 10), ai_ cy (rl 11) 12 (Ml 11)] [15, 0, 1, 2, 3, 4, 5, 6, 7, 8, 9, 10, 11, 12, 13, 14] (by decide +kernel) rfl (fun hP hD => ?_)
        rw [hQ]
        exact W.vret hx hb hr (fun t ht hW => ⟨⟨(), rfl, trivial, v5_26, v6_27, (scn_to (leaf_end hs (by omega) hlt_ (hnt_leaf hh0_ (by omega)) g_28) (by rw [hK_])), by rw [ht]; exact hP, hD⟩, hS.F ht⟩) hS.2.2 dB_36_1_58.2.2.2.2
    · have t_2 : ¬ u6.toInt = ((-9) : Int32).toInt := fun h => c_2 (Int32.toInt_inj.mp h)
      rw [hQ]
      exact W.vret hx hb hr (fun t ht hW => ⟨⟨(), rfl, trivial, u5, u6, (by first | exact scn_skip hs (fun j h1 h2 => hnt_big hh (by omega) hnn_ (by omega) h1 h2) | exact scn_found hs (by omega)), by rw [ht]; exact hP, hD⟩, hS.F ht⟩) hS.2.2 dB_36_1_58.2.1.1.1

set_option maxHeartbeats 4000000 in
set_option maxRecDepth 100000 in
theorem c_X7_chooseForCut2_4 (l : Launch) (D : va_G) (cy : Nat → ClassId) (sz : Nat) (xh : Nat) (u1 : Int32) (u2 : Int32) (u3 : Int32) (u4 : Int32) (u5 : Int32) (u6 : Int32) (u7 : Int32) (u8 : Int32) (xc : Nat) (xk : Nat) (clo : Nat) (cro : Nat) (c4 : Nat) (c5 : Nat) (c6 : Nat) (c7 : Nat) (c8 : Nat) (xn : Nat) (n1 : Nat) (n2 : Nat) (n3 : Nat) (n4 : Nat) (n5 : Nat) (vp : Int32) (vn : Int32) (rl : Nat → Nat) (Ml : Nat → Nat → Int32) (a1 : Int32) (a2 : Int32) (a3 : Int32) (hvp : 0 ≤ vp.toInt ∧ vp.toInt ≤ 12) (q1 : -1 ≤ a1.toInt ∧ a1.toInt < 4) (hM : ∀ x y : Nat, x < vp.toNatClampNeg → y < vp.toNatClampNeg → 0 ≤ zM Ml x y ∧ zM Ml x y ≤ 80000000) (hA : 0 ≤ u3.toInt ∧ u3.toInt ≤ 1000000) (hh : hnt (zM Ml) vp.toNatClampNeg (a1.toInt + 1).toNat u1 u2 a2 a3.toInt) (hs : scn (qF (zM Ml) vp.toNatClampNeg u1 u2 u3.toInt) u4.toInt a2.toNatClampNeg u5 u6) : Met l yX7_chooseForCut wsX7_chooseForCut ({ frames := 5, cells := 0, slots := 0, locals := 118 }) (va_Pc [.ref xh, .int a1, .int a2, .int a3] (fun U => U.heap.size = sz ∧ va_P D vwCl [ob7_0_ xh xc u1 u2 u3 u4 u5 u6 u7 u8, ob0_0_ xc xn xk clo cro c4 c5 c6 c7 c8, ob3_0_ xn vp vn n1 n2 n3 n4 n5, aq_ cy 6 clo 12 (gf_ rl), ai_ cy (rl 0) 12 (Ml 0), ai_ cy (rl 1) 12 (Ml 1), ai_ cy (rl 2) 12 (Ml 2), ai_ cy (rl 3) 12 (Ml 3), ai_ cy (rl 4) 12 (Ml 4), ai_ cy (rl 5) 12 (Ml 5), ai_ cy (rl 6) 12 (Ml 6), ai_ cy (rl 7) 12 (Ml 7), ai_ cy (rl 8) 12 (Ml 8), ai_ cy (rl 9) 12 (Ml 9), ai_ cy (rl 10) 12 (Ml 10), ai_ cy (rl 11) 12 (Ml 11)] U.heap ∧ kg_ D cy U ∧ va_D (fun _ => True) [ob7_0_ xh xc u1 u2 u3 u4 u5 u6 u7 u8, ob0_0_ xc xn xk clo cro c4 c5 c6 c7 c8, ob3_0_ xn vp vn n1 n2 n3 n4 n5, aq_ cy 6 clo 12 (gf_ rl), ai_ cy (rl 0) 12 (Ml 0), ai_ cy (rl 1) 12 (Ml 1), ai_ cy (rl 2) 12 (Ml 2), ai_ cy (rl 3) 12 (Ml 3), ai_ cy (rl 4) 12 (Ml 4), ai_ cy (rl 5) 12 (Ml 5), ai_ cy (rl 6) 12 (Ml 6), ai_ cy (rl 7) 12 (Ml 7), ai_ cy (rl 8) 12 (Ml 8), ai_ cy (rl 9) 12 (Ml 9), ai_ cy (rl 10) 12 (Ml 10), ai_ cy (rl 11) 12 (Ml 11)])) (va_Qv (fun (_ : Unit) => True) (fun (_ : Unit) (t : State) => ∃ (v5 : Int32), ∃ (v6 : Int32), (scn (qF (zM Ml) vp.toNatClampNeg u1 u2 u3.toInt) u4.toInt (a2.toNatClampNeg + 2 ^ (a1.toInt + 1).toNat) v5 v6) ∧ va_P D vwCl [ob7_0_ xh xc u1 u2 u3 u4 v5 v6 u7 u8, ob0_0_ xc xn xk clo cro c4 c5 c6 c7 c8, ob3_0_ xn vp vn n1 n2 n3 n4 n5, aq_ cy 6 clo 12 (gf_ rl), ai_ cy (rl 0) 12 (Ml 0), ai_ cy (rl 1) 12 (Ml 1), ai_ cy (rl 2) 12 (Ml 2), ai_ cy (rl 3) 12 (Ml 3), ai_ cy (rl 4) 12 (Ml 4), ai_ cy (rl 5) 12 (Ml 5), ai_ cy (rl 6) 12 (Ml 6), ai_ cy (rl 7) 12 (Ml 7), ai_ cy (rl 8) 12 (Ml 8), ai_ cy (rl 9) 12 (Ml 9), ai_ cy (rl 10) 12 (Ml 10), ai_ cy (rl 11) 12 (Ml 11)] t.heap ∧ va_D (va_A [ob7_0_ xh xc u1 u2 u3 u4 u5 u6 u7 u8, ob0_0_ xc xn xk clo cro c4 c5 c6 c7 c8, ob3_0_ xn vp vn n1 n2 n3 n4 n5, aq_ cy 6 clo 12 (gf_ rl), ai_ cy (rl 0) 12 (Ml 0), ai_ cy (rl 1) 12 (Ml 1), ai_ cy (rl 2) 12 (Ml 2), ai_ cy (rl 3) 12 (Ml 3), ai_ cy (rl 4) 12 (Ml 4), ai_ cy (rl 5) 12 (Ml 5), ai_ cy (rl 6) 12 (Ml 6), ai_ cy (rl 7) 12 (Ml 7), ai_ cy (rl 8) 12 (Ml 8), ai_ cy (rl 9) 12 (Ml 9), ai_ cy (rl 10) 12 (Ml 10), ai_ cy (rl 11) 12 (Ml 11)] sz) [ob7_0_ xh xc u1 u2 u3 u4 v5 v6 u7 u8, ob0_0_ xc xn xk clo cro c4 c5 c6 c7 c8, ob3_0_ xn vp vn n1 n2 n3 n4 n5, aq_ cy 6 clo 12 (gf_ rl), ai_ cy (rl 0) 12 (Ml 0), ai_ cy (rl 1) 12 (Ml 1), ai_ cy (rl 2) 12 (Ml 2), ai_ cy (rl 3) 12 (Ml 3), ai_ cy (rl 4) 12 (Ml 4), ai_ cy (rl 5) 12 (Ml 5), ai_ cy (rl 6) 12 (Ml 6), ai_ cy (rl 7) 12 (Ml 7), ai_ cy (rl 8) 12 (Ml 8), ai_ cy (rl 9) 12 (Ml 9), ai_ cy (rl 10) 12 (Ml 10), ai_ cy (rl 11) 12 (Ml 11)]) (va_A [ob7_0_ xh xc u1 u2 u3 u4 u5 u6 u7 u8, ob0_0_ xc xn xk clo cro c4 c5 c6 c7 c8, ob3_0_ xn vp vn n1 n2 n3 n4 n5, aq_ cy 6 clo 12 (gf_ rl), ai_ cy (rl 0) 12 (Ml 0), ai_ cy (rl 1) 12 (Ml 1), ai_ cy (rl 2) 12 (Ml 2), ai_ cy (rl 3) 12 (Ml 3), ai_ cy (rl 4) 12 (Ml 4), ai_ cy (rl 5) 12 (Ml 5), ai_ cy (rl 6) 12 (Ml 6), ai_ cy (rl 7) 12 (Ml 7), ai_ cy (rl 8) 12 (Ml 8), ai_ cy (rl 9) 12 (Ml 9), ai_ cy (rl 10) 12 (Ml 10), ai_ cy (rl 11) 12 (Ml 11)] sz)) 0 0 (va_A [ob7_0_ xh xc u1 u2 u3 u4 u5 u6 u7 u8, ob0_0_ xc xn xk clo cro c4 c5 c6 c7 c8, ob3_0_ xn vp vn n1 n2 n3 n4 n5, aq_ cy 6 clo 12 (gf_ rl), ai_ cy (rl 0) 12 (Ml 0), ai_ cy (rl 1) 12 (Ml 1), ai_ cy (rl 2) 12 (Ml 2), ai_ cy (rl 3) 12 (Ml 3), ai_ cy (rl 4) 12 (Ml 4), ai_ cy (rl 5) 12 (Ml 5), ai_ cy (rl 6) 12 (Ml 6), ai_ cy (rl 7) 12 (Ml 7), ai_ cy (rl 8) 12 (Ml 8), ai_ cy (rl 9) 12 (Ml 9), ai_ cy (rl 10) 12 (Ml 10), ai_ cy (rl 11) 12 (Ml 11)] sz) := by
  refine ofQ (cc := cX7_chooseForCut) (maxL := 5) (ret := none) (by decide) rfl ?_
  intro p e s m args below meth c s₁ Q hQ B hml hv
  obtain ⟨rfl, hsz, hP, hK, hD0⟩ := hv
  have hG := hK.2
  have hK := hK.1
  have hx := B.exec
  have hb := B.bytes
  have hr := B.returns
  have hts := atoms_spec (ws := wsX7_chooseForCut) B.pre
  have hown : s.vm.findClass RX7 = some m.cls := by have h_ := findClass_of_methodNamed B.named; exact h_
  have hlocks := B.notSynchronized
  subst hsz
  have hD := hD0.self (sz := s.heap.size)
  generalize hAe : va_A [ob7_0_ xh xc u1 u2 u3 u4 u5 u6 u7 u8, ob0_0_ xc xn xk clo cro c4 c5 c6 c7 c8, ob3_0_ xn vp vn n1 n2 n3 n4 n5, aq_ cy 6 clo 12 (gf_ rl), ai_ cy (rl 0) 12 (Ml 0), ai_ cy (rl 1) 12 (Ml 1), ai_ cy (rl 2) 12 (Ml 2), ai_ cy (rl 3) 12 (Ml 3), ai_ cy (rl 4) 12 (Ml 4), ai_ cy (rl 5) 12 (Ml 5), ai_ cy (rl 6) 12 (Ml 6), ai_ cy (rl 7) 12 (Ml 7), ai_ cy (rl 8) 12 (Ml 8), ai_ cy (rl 9) 12 (Ml 9), ai_ cy (rl 10) 12 (Ml 10), ai_ cy (rl 11) 12 (Ml 11)] s.heap.size = A at hD hQ
  have hA : ∀ q : Nat, s.heap.size ≤ q → A q := fun q h => by rw [← hAe]; exact Or.inr h
  have hS : va_S A s.heap s.heap [] := va_S.rf
  have hl := lv_entry ([.ref xh, .int a1, .int a2, .int a3]) (n := 5) (Nat.le_of_ble_eq_true rfl)
  rw [lg_entry_eq]
  generalize (lg_sl ([.ref xh, .int a1, .int a2, .int a3]) ++ List.replicate (5 - (lg_sl ([.ref xh, .int a1, .int a2, .int a3])).length) Slot.unset).toArray = ls at hl ⊢
  have hl : lv_has ls 5 [(0, .ref xh), (1, .int a1), (2, .int a2), (3, .int a3)] := hl
  have zm9 : ((-9) : Int32).toInt = -9 := by decide
  have z0 : (0 : Int32).toInt = 0 := by decide
  have z1 : (1 : Int32).toInt = 1 := by decide
  have cv_ := clI (i := vp) (by omega)
  have hnn_ : ∀ x y : Nat, x < vp.toNatClampNeg → y < vp.toNatClampNeg → 0 ≤ zM Ml x y := fun x y hx hy => (hM x y hx hy).1
  have ha3_ := hnt_nn hh hnn_
  have hlt_ := hnt_lt hh (by omega)
  refine lv_iload_n hx hb dB_36_1_58.1.1.1.1 rfl (lv_at hl 3 rfl) ?_
  refine lv_aload_n hx hb dB_36_1_58.1.1.1.2 rfl (lv_at hl 0 rfl) ?_
  refine va_get (ci := 7) (v := .int u3) (C := RX7) (T := TX7) (N := 9) hx hb hts (fun _ h => List.mem_cons_of_mem _ (List.mem_append_left _ (List.mem_append_left _ (List.mem_append_right _ h)))) hown hK.1 hP 0 rfl rfl 3 (by decide) (hts (.fieldLink RX7 33 "CutAtlas$SetHunt" "aim" "I") (List.mem_of_getElem? (i := 1) rfl)) (fun _ h9 => h9) rfl dB_36_1_58.1.1.2.1 ?_
  refine lv_icmp_gt (tgt := 17) hx hb dB_36_1_58.1.1.2.2 (by decide) (fun c_1 => ?_) (fun c_1 => ?_)
  · have t_1 : u3.toInt < a3.toInt := Int32.lt_iff_toInt_lt.mp c_1
    rw [hQ]
    exact W.vret hx hb hr (fun t ht hW => ⟨⟨(), rfl, trivial, u5, u6, (by first | exact scn_skip hs (fun j h1 h2 => hnt_big hh (by omega) hnn_ (by omega) h1 h2) | exact scn_found hs (by omega)), by rw [ht]; exact hP, hD⟩, hS.F ht⟩) hS.2.2 dB_36_1_58.2.1.1.1
  · have t_1 : ¬ u3.toInt < a3.toInt := fun h => c_1 (Int32.lt_iff_toInt_lt.mpr h)
    refine lv_aload_n hx hb dB_36_1_58.1.2.1.1 rfl (lv_at hl 0 rfl) ?_
    refine va_get (ci := 7) (v := .int u6) (C := RX7) (T := TX7) (N := 9) hx hb hts (fun _ h => List.mem_cons_of_mem _ (List.mem_append_left _ (List.mem_append_left _ (List.mem_append_right _ h)))) hown hK.1 hP 0 rfl rfl 6 (by decide) (hts (.fieldLink RX7 24 "CutAtlas$SetHunt" "found" "I") (List.mem_of_getElem? (i := 2) rfl)) (fun _ h9 => h9) rfl dB_36_1_58.1.2.1.2 ?_
    refine lv_bipush (v := (-9)) hx hb dB_36_1_58.1.2.2.1 (by decide) ?_
    refine lv_icmp_eq (tgt := 18) hx hb dB_36_1_58.1.2.2.2 (by decide) (fun c_2 => ?_) (fun c_2 => ?_)
    · have t_2 : u6.toInt = ((-9) : Int32).toInt := congrArg Int32.toInt c_2
      refine lv_iload_n hx hb dB_36_1_58.2.1.1.2 rfl (lv_at hl 1 rfl) ?_
      refine lv_if_ge (tgt := 29) hx hb dB_36_1_58.2.1.2.1 (by decide) (fun c_3 => ?_) (fun c_3 => ?_)
      · have t_3 : (0 : Int32).toInt ≤ a1.toInt := Int32.le_iff_toInt_le.mp c_3
        have cp_ := clI (i := a1) (by omega)
        have hK_ : (a1.toInt + 1).toNat = a1.toNatClampNeg + 1 := by omega
        have hh1_ : hnt (zM Ml) vp.toNatClampNeg (a1.toNatClampNeg + 1) u1 u2 a2 a3.toInt := by rw [hK_] at hh; exact hh
        have hap_ : a1.toInt < vp.toInt := by have h_ := hh1_.1; omega
        refine lv_iconst (v := 1) hx hb dB_36_1_59.1.1.1.1 (by decide) ?_
        refine lv_iload_n hx hb dB_36_1_59.1.1.1.2 rfl (lv_at hl 1 rfl) ?_
        refine lv_ishl hx hb dB_36_1_59.1.1.2.1 ?_
        refine lv_topi (fun y_4 ey_4 => ?_)
        refine lv_istore (lv' := [(4, .int y_4), (0, .ref xh), (1, .int a1), (2, .int a2), (3, .int a3)]) hx hb dB_36_1_59.1.1.2.2 hl (by decide) rfl (fun ls hl => ?_)
        have JOIN_5 : ∀ (o5_5 : Int32) (o6_5 : Int32) (H : Heap) (locs : List Loc) (ls : Array Slot), (scn (qF (zM Ml) vp.toNatClampNeg u1 u2 u3.toInt) u4.toInt (a2.toNatClampNeg + 2 ^ a1.toNatClampNeg) o5_5 o6_5) → pd_2 D vwCl A [ob7_0_ xh xc u1 u2 u3 u4 o5_5 o6_5 u7 u8, ob0_0_ xc xn xk clo cro c4 c5 c6 c7 c8, ob3_0_ xn vp vn n1 n2 n3 n4 n5, aq_ cy 6 clo 12 (gf_ rl), ai_ cy (rl 0) 12 (Ml 0), ai_ cy (rl 1) 12 (Ml 1), ai_ cy (rl 2) 12 (Ml 2), ai_ cy (rl 3) 12 (Ml 3), ai_ cy (rl 4) 12 (Ml 4), ai_ cy (rl 5) 12 (Ml 5), ai_ cy (rl 6) 12 (Ml 6), ai_ cy (rl 7) 12 (Ml 7), ai_ cy (rl 8) 12 (Ml 8), ai_ cy (rl 9) 12 (Ml 9), ai_ cy (rl 10) 12 (Ml 10), ai_ cy (rl 11) 12 (Ml 11)] H → va_S A s.heap H locs → lv_has ls 5 [(4, .int y_4), (0, .ref xh), (1, .int a1), (2, .int a2), (3, .int a3)] → W p l e ({ frames := 5, cells := 0, slots := 0, locals := 118 } : Room) s m (([.ref xh, .int a1, .int a2, .int a3] : List Value).toArray) below meth c H locs 0 0 Q (F0 m 60 ls []) := by
          intro o5_5 o6_5 H locs ls v0_5 hPD hS hl; obtain ⟨hP, hD⟩ := hPD
          refine lv_aload_n hx hb dB_36_1_60.1.2.1.2 rfl (lv_at hl 1 rfl) ?_
          refine va_get (ci := 7) (v := .int u2) (C := RX7) (T := TX7) (N := 9) hx hb hts (fun _ h => List.mem_cons_of_mem _ (List.mem_append_left _ (List.mem_append_left _ (List.mem_append_right _ h)))) hown hK.1 hP 0 rfl rfl 2 (by decide) (hts (.fieldLink RX7 30 "CutAtlas$SetHunt" "mustNot" "I") (List.mem_of_getElem? (i := 4) rfl)) (fun _ h9 => h9) rfl dB_36_1_60.1.2.2.1 ?_
          refine lv_iload hx hb dB_36_1_60.1.2.2.2 (lv_at hl 0 rfl) ?_
          refine lv_iand hx hb dB_36_1_60.2.1.1.1 ?_
          refine lv_topi (fun y_6 ey_6 => ?_)
          have hnu_ := and_bit (mu := u2) (by omega) (by omega) ey_4 ey_6
          refine lv_if_ne (tgt := 89) hx hb dB_36_1_60.2.1.1.2 (by decide) (fun c_7 => ?_) (fun c_7 => ?_)
          · have t_7 : ¬ y_6.toInt = (0 : Int32).toInt := fun h => c_7 (Int32.toInt_inj.mp h)
            rw [hQ]
            exact W.vret hx hb hr (fun t ht hW => ⟨⟨(), rfl, trivial, o5_5, o6_5, (by first | exact scn_to (scn_skip v0_5 (fun j h1 h2 => hnt_nout hh1_ (by omega) (hnu_.2 (by omega)) h1 h2)) (by rw [pw_K hK_]; omega) | exact scn_to of_none (by rw [hKq_, hst_.1, pw_K hK_]; omega)), by rw [ht]; exact hP, hD⟩, hS.F ht⟩) hS.2.2 dB_36_1_61.2.2.2.2
          · have t_7 : y_6.toInt = (0 : Int32).toInt := congrArg Int32.toInt c_7
            refine lv_aload_n hx hb dB_36_1_60.2.1.2.1 rfl (lv_at hl 1 rfl) ?_
            refine lv_iload_n hx hb dB_36_1_60.2.1.2.2 rfl (lv_at hl 2 rfl) ?_
            refine lv_iconst (v := 1) hx hb dB_36_1_60.2.2.1.1 (by decide) ?_
            refine lv_isub hx hb dB_36_1_60.2.2.1.2 ?_
            refine lv_topi (fun y_8 ey_8 => ?_)
            have ty_8 : y_8.toInt = a1.toInt - (1 : Int32).toInt := by rw [ey_8]; exact subI (by omega) (by omega)
            refine lv_iload_n hx hb dB_36_1_60.2.2.2.1 rfl (lv_at hl 3 rfl) ?_
            refine lv_iload hx hb dB_36_1_60.2.2.2.2 (lv_at hl 0 rfl) ?_
            refine lv_ior hx hb dB_36_1_61.1.1.1 ?_
            refine lv_topi (fun y_9 ey_9 => ?_)
            have hst_ := hnt_set hh1_ (by omega) (by omega) ey_4 ey_9
            refine lv_iload_n hx hb dB_36_1_61.1.1.2 rfl (lv_at hl 4 rfl) ?_
            refine lv_aload_n hx hb dB_36_1_61.1.2.1 rfl (lv_at hl 1 rfl) ?_
            refine lv_iload_n hx hb dB_36_1_61.1.2.2 rfl (lv_at hl 2 rfl) ?_
            refine lv_iload_n hx hb dB_36_1_61.2.1.1 rfl (lv_at hl 3 rfl) ?_
            refine ct_R hP hD [ob7_0_ xh xc u1 u2 u3 u4 o5_5 o6_5 u7 u8, ob0_0_ xc xn xk clo cro c4 c5 c6 c7 c8, ob3_0_ xn vp vn n1 n2 n3 n4 n5, aq_ cy 6 clo 12 (gf_ rl), ai_ cy (rl 0) 12 (Ml 0), ai_ cy (rl 1) 12 (Ml 1), ai_ cy (rl 2) 12 (Ml 2), ai_ cy (rl 3) 12 (Ml 3), ai_ cy (rl 4) 12 (Ml 4), ai_ cy (rl 5) 12 (Ml 5), ai_ cy (rl 6) 12 (Ml 6), ai_ cy (rl 7) 12 (Ml 7), ai_ cy (rl 8) 12 (Ml 8), ai_ cy (rl 9) 12 (Ml 9), ai_ cy (rl 10) 12 (Ml 10), ai_ cy (rl 11) 12 (Ml 11)] [0, 1, 2, 3, 4, 5, 6, 7, 8, 9, 10, 11, 12, 13, 14, 15] (by decide +kernel) rfl (fun hPc hDw => ?_)
            have hFc := va_free (wc := []) hD hS hA [] rfl
            refine va_calli (va_runV (As := [.int a1, .int a2]) (rest := [.int a3, .int y_9, .int y_8, .ref xh]) ⟨hx, hb, hml, hown, hts⟩ (c_X7_letOut2 l D cy H.size xh u1 u2 u3 u4 o5_5 o6_5 u7 u8 xc xk clo cro c4 c5 c6 c7 c8 xn n1 n2 n3 n4 n5 vp vn rl Ml a1 a2 (by first | with_reducible assumption | omega | assumption) (by first | with_reducible assumption | omega | assumption) (by first | with_reducible assumption | assumption | omega)) (cwV 2 hts gX7_chooseForCut_X7_letOut rfl rfl rfl ⟨rfl, hd_X7_letOut⟩ ⟨Nat.le_of_ble_eq_true rfl, Nat.le_of_ble_eq_true rfl⟩) ⟨bl_g, va_recvX hK.1 hP (ci := 7) (q0 := 0) rfl rfl, fun U hU hW => ⟨rfl, by rw [hU], by rw [hU]; exact hPc, ⟨kk_mv hW hK, arrOfT_moved hW.alike hG⟩, hDw⟩⟩ rfl rfl hl.1 rfl (lv_room (Nat.le_of_ble_eq_true rfl)) dB_36_1_61.2.1.2 ⟨Nat.le_of_ble_eq_true rfl, Nat.le_of_ble_eq_true rfl⟩) hS (fun q _ h => hFc q h) hFc (fun r_10 u t H locs ht hvm hw hB hz1 hk1 hS => ?_)
            have hP : va_P D vwCl _ H := ro_keep hP hk1
            obtain ⟨f0_r_10, f1_r_10⟩ := hw
            refine lv_iadd hx hb dB_36_1_61.2.2.1 ?_
            refine lv_topi (fun y_11 ey_11 => ?_)
            have ty_11 : y_11.toInt = a3.toInt + r_10.toInt := by rw [ey_11]; exact addI (by omega) (by omega)
            have hKq_ : (y_8.toInt + 1).toNat = a1.toNatClampNeg := by omega
            have hrh_ : hnt (zM Ml) vp.toNatClampNeg (y_8.toInt + 1).toNat u1 u2 y_9 y_11.toInt := by rw [hKq_]; exact hnt_out hh1_ (by omega) (by omega) ey_4 ey_9 (hnu_.1 (by omega)) ty_11 f0_r_10
            have hrs_ : scn (qF (zM Ml) vp.toNatClampNeg u1 u2 u3.toInt) u4.toInt y_9.toNatClampNeg o5_5 o6_5 := scn_to v0_5 hst_.1.symm
            refine ct_S hP hD hS hA [ob7_0_ xh xc u1 u2 u3 u4 o5_5 o6_5 u7 u8, ob0_0_ xc xn xk clo cro c4 c5 c6 c7 c8, ob3_0_ xn vp vn n1 n2 n3 n4 n5, aq_ cy 6 clo 12 (gf_ rl), ai_ cy (rl 0) 12 (Ml 0), ai_ cy (rl 1) 12 (Ml 1), ai_ cy (rl 2) 12 (Ml 2), ai_ cy (rl 3) 12 (Ml 3), ai_ cy (rl 4) 12 (Ml 4), ai_ cy (rl 5) 12 (Ml 5), ai_ cy (rl 6) 12 (Ml 6), ai_ cy (rl 7) 12 (Ml 7), ai_ cy (rl 8) 12 (Ml 8), ai_ cy (rl 9) 12 (Ml 9), ai_ cy (rl 10) 12 (Ml 10), ai_ cy (rl 11) 12 (Ml 11)] [0, 1, 2, 3, 4, 5, 6, 7, 8, 9, 10, 11, 12, 13, 14, 15] (by decide +kernel) rfl (fun hPc hDw hFc hC_ => ?_)
            refine va_callv (va_runV (As := [.int y_8, .int y_9, .int y_11]) (rest := []) ⟨hx, hb, hml, hown, hts⟩ (c_X7_chooseForCut2_3 l D cy H.size xh u1 u2 u3 u4 o5_5 o6_5 u7 u8 xc xk clo cro c4 c5 c6 c7 c8 xn n1 n2 n3 n4 n5 vp vn rl Ml y_8 y_9 y_11 (by first | with_reducible assumption | omega | assumption) (by first | with_reducible assumption | omega | assumption) (by first | with_reducible assumption | assumption | omega) (by first | with_reducible assumption | omega | assumption) (by first | with_reducible assumption | assumption | omega) (by first | with_reducible assumption | assumption | omega)) (cwV 3 hts gX7_chooseForCut_X7_chooseForCut rfl rfl rfl ⟨rfl, hd_X7_chooseForCut⟩ ⟨Nat.le_of_ble_eq_true rfl, Nat.le_of_ble_eq_true rfl⟩) ⟨bl_g, va_recvX hK.1 hP (ci := 7) (q0 := 0) rfl rfl, fun U hU hW => ⟨rfl, by rw [hU], by rw [hU]; exact hPc, ⟨kk_mv hW hK, arrOfT_moved hW.alike hG⟩, hDw⟩⟩ rfl rfl hl.1 rfl (lv_room (Nat.le_of_ble_eq_true rfl)) dB_36_1_61.2.2.2.1 ⟨Nat.le_of_ble_eq_true rfl, Nat.le_of_ble_eq_true rfl⟩) hS (fun q _ h => hFc q h) hFc (fun u t H locs ht hvm hw hB hz1 hk1 hS => ?_)
            obtain ⟨v5_13, v6_14, g_15, hP1, hD1⟩ := hB
            rw [ht] at hP1
            obtain ⟨hP, hD⟩ := va_join (wr := []) (w1 := [ob7_0_ xh xc u1 u2 u3 u4 v5_13 v6_14 u7 u8, ob0_0_ xc xn xk clo cro c4 c5 c6 c7 c8, ob3_0_ xn vp vn n1 n2 n3 n4 n5, aq_ cy 6 clo 12 (gf_ rl), ai_ cy (rl 0) 12 (Ml 0), ai_ cy (rl 1) 12 (Ml 1), ai_ cy (rl 2) 12 (Ml 2), ai_ cy (rl 3) 12 (Ml 3), ai_ cy (rl 4) 12 (Ml 4), ai_ cy (rl 5) 12 (Ml 5), ai_ cy (rl 6) 12 (Ml 6), ai_ cy (rl 7) 12 (Ml 7), ai_ cy (rl 8) 12 (Ml 8), ai_ cy (rl 9) 12 (Ml 9), ai_ cy (rl 10) 12 (Ml 10), ai_ cy (rl 11) 12 (Ml 11)]) hP hD [0, 1, 2, 3, 4, 5, 6, 7, 8, 9, 10, 11, 12, 13, 14, 15] [] hC_ rfl (by decide) (by decide) hk1 hFc hP1 hD1
            refine pd_K [ob7_0_ xh xc u1 u2 u3 u4 v5_13 v6_14 u7 u8, ob0_0_ xc xn xk clo cro c4 c5 c6 c7 c8, ob3_0_ xn vp vn n1 n2 n3 n4 n5, aq_ cy 6 clo 12 (gf_ rl), ai_ cy (rl 0) 12 (Ml 0), ai_ cy (rl 1) 12 (Ml 1), ai_ cy (rl 2) 12 (Ml 2), ai_ cy (rl 3) 12 (Ml 3), ai_ cy (rl 4) 12 (Ml 4), ai_ cy (rl 5) 12 (Ml 5), ai_ cy (rl 6) 12 (Ml 6), ai_ cy (rl 7) 12 (Ml 7), ai_ cy (rl 8) 12 (Ml 8), ai_ cy (rl 9) 12 (Ml 9), ai_ cy (rl 10) 12 (Ml 10), ai_ cy (rl 11) 12 (Ml 11)] hP hD (fun hP hD => ?_)
            rw [hQ]
            exact W.vret hx hb hr (fun t ht hW => ⟨⟨(), rfl, trivial, v5_13, v6_14, (by first | exact scn_to (scn_skip v0_5 (fun j h1 h2 => hnt_nout hh1_ (by omega) (hnu_.2 (by omega)) h1 h2)) (by rw [pw_K hK_]; omega) | exact scn_to g_15 (by rw [hKq_, hst_.1, pw_K hK_]; omega)), by rw [ht]; exact hP, hD⟩, hS.F ht⟩) hS.2.2 dB_36_1_61.2.2.2.2
        refine lv_aload_n hx hb dB_36_1_59.1.2.1.1 rfl (lv_at hl 1 rfl) ?_
        refine va_get (ci := 7) (v := .int u1) (C := RX7) (T := TX7) (N := 9) hx hb hts (fun _ h => List.mem_cons_of_mem _ (List.mem_append_left _ (List.mem_append_left _ (List.mem_append_right _ h)))) hown hK.1 hP 0 rfl rfl 1 (by decide) (hts (.fieldLink RX7 27 "CutAtlas$SetHunt" "must" "I") (List.mem_of_getElem? (i := 3) rfl)) (fun _ h9 => h9) rfl dB_36_1_59.1.2.1.2 ?_
        refine lv_iload hx hb dB_36_1_59.1.2.2.1 (lv_at hl 0 rfl) ?_
        refine lv_iand hx hb dB_36_1_59.1.2.2.2 ?_
        refine lv_topi (fun y_16 ey_16 => ?_)
        have hmu_ := and_bit (mu := u1) (by omega) (by omega) ey_4 ey_16
        refine lv_if_ne (tgt := 60) hx hb dB_36_1_59.2.1.1.1 (by decide) (fun c_17 => ?_) (fun c_17 => ?_)
        · have t_17 : ¬ y_16.toInt = (0 : Int32).toInt := fun h => c_17 (Int32.toInt_inj.mp h)
          exact JOIN_5 u5 u6 _ _ _ (by first | exact scn_skip hs (fun j h1 h2 => hnt_nin hh1_ (by omega) (hmu_.2 (by omega)) h1 h2) | exact scn_to of_none (by rw [hKr_])) ⟨hP, hD⟩ hS (lv_sub hl [0, 1, 2, 3, 4] rfl)
        · have t_17 : y_16.toInt = (0 : Int32).toInt := congrArg Int32.toInt c_17
          refine lv_aload_n hx hb dB_36_1_59.2.1.1.2 rfl (lv_at hl 1 rfl) ?_
          refine lv_iload_n hx hb dB_36_1_59.2.1.2.1 rfl (lv_at hl 2 rfl) ?_
          refine lv_iconst (v := 1) hx hb dB_36_1_59.2.1.2.2 (by decide) ?_
          refine lv_isub hx hb dB_36_1_59.2.2.1.1 ?_
          refine lv_topi (fun y_18 ey_18 => ?_)
          have ty_18 : y_18.toInt = a1.toInt - (1 : Int32).toInt := by rw [ey_18]; exact subI (by omega) (by omega)
          refine lv_iload_n hx hb dB_36_1_59.2.2.1.2 rfl (lv_at hl 3 rfl) ?_
          refine lv_iload_n hx hb dB_36_1_59.2.2.2.1 rfl (lv_at hl 4 rfl) ?_
          refine lv_aload_n hx hb dB_36_1_59.2.2.2.2 rfl (lv_at hl 1 rfl) ?_
          refine lv_iload_n hx hb dB_36_1_60.1.1.1.1 rfl (lv_at hl 2 rfl) ?_
          refine lv_iload_n hx hb dB_36_1_60.1.1.1.2 rfl (lv_at hl 3 rfl) ?_
          refine ct_R hP hD [ob7_0_ xh xc u1 u2 u3 u4 u5 u6 u7 u8, ob0_0_ xc xn xk clo cro c4 c5 c6 c7 c8, ob3_0_ xn vp vn n1 n2 n3 n4 n5, aq_ cy 6 clo 12 (gf_ rl), ai_ cy (rl 0) 12 (Ml 0), ai_ cy (rl 1) 12 (Ml 1), ai_ cy (rl 2) 12 (Ml 2), ai_ cy (rl 3) 12 (Ml 3), ai_ cy (rl 4) 12 (Ml 4), ai_ cy (rl 5) 12 (Ml 5), ai_ cy (rl 6) 12 (Ml 6), ai_ cy (rl 7) 12 (Ml 7), ai_ cy (rl 8) 12 (Ml 8), ai_ cy (rl 9) 12 (Ml 9), ai_ cy (rl 10) 12 (Ml 10), ai_ cy (rl 11) 12 (Ml 11)] [0, 1, 2, 3, 4, 5, 6, 7, 8, 9, 10, 11, 12, 13, 14, 15] (by decide +kernel) rfl (fun hPc hDw => ?_)
          have hFc := va_free (wc := []) hD hS hA [] rfl
          refine va_calli (va_runV (As := [.int a1, .int a2]) (rest := [.int a3, .int a2, .int y_18, .ref xh]) ⟨hx, hb, hml, hown, hts⟩ (c_X7_letIn2 l D cy s.heap.size xh u1 u2 u3 u4 u5 u6 u7 u8 xc xk clo cro c4 c5 c6 c7 c8 xn n1 n2 n3 n4 n5 vp vn rl Ml a1 a2 (by first | with_reducible assumption | omega | assumption) (by first | with_reducible assumption | omega | assumption) (by first | with_reducible assumption | assumption | omega)) (cwV 2 hts gX7_chooseForCut_X7_letIn rfl rfl rfl ⟨rfl, hd_X7_letIn⟩ ⟨Nat.le_of_ble_eq_true rfl, Nat.le_of_ble_eq_true rfl⟩) ⟨bl_g, va_recvX hK.1 hP (ci := 7) (q0 := 0) rfl rfl, fun U hU hW => ⟨rfl, by rw [hU], by rw [hU]; exact hPc, ⟨kk_mv hW hK, arrOfT_moved hW.alike hG⟩, hDw⟩⟩ rfl rfl hl.1 rfl (lv_room (Nat.le_of_ble_eq_true rfl)) dB_36_1_60.1.1.2.1 ⟨Nat.le_of_ble_eq_true rfl, Nat.le_of_ble_eq_true rfl⟩) hS (fun q _ h => hFc q h) hFc (fun r_19 u t H locs ht hvm hw hB hz1 hk1 hS => ?_)
          have hP : va_P D vwCl _ H := ro_keep hP hk1
          obtain ⟨f0_r_19, f1_r_19⟩ := hw
          refine lv_iadd hx hb dB_36_1_60.1.1.2.2 ?_
          refine lv_topi (fun y_20 ey_20 => ?_)
          have ty_20 : y_20.toInt = a3.toInt + r_19.toInt := by rw [ey_20]; exact addI (by omega) (by omega)
          have hKr_ : (y_18.toInt + 1).toNat = a1.toNatClampNeg := by omega
          have hrh_ : hnt (zM Ml) vp.toNatClampNeg (y_18.toInt + 1).toNat u1 u2 a2 y_20.toInt := by rw [hKr_]; exact hnt_in hh1_ (hmu_.1 (by omega)) ty_20 f0_r_19
          refine ct_S hP hD hS hA [ob7_0_ xh xc u1 u2 u3 u4 u5 u6 u7 u8, ob0_0_ xc xn xk clo cro c4 c5 c6 c7 c8, ob3_0_ xn vp vn n1 n2 n3 n4 n5, aq_ cy 6 clo 12 (gf_ rl), ai_ cy (rl 0) 12 (Ml 0), ai_ cy (rl 1) 12 (Ml 1), ai_ cy (rl 2) 12 (Ml 2), ai_ cy (rl 3) 12 (Ml 3), ai_ cy (rl 4) 12 (Ml 4), ai_ cy (rl 5) 12 (Ml 5), ai_ cy (rl 6) 12 (Ml 6), ai_ cy (rl 7) 12 (Ml 7), ai_ cy (rl 8) 12 (Ml 8), ai_ cy (rl 9) 12 (Ml 9), ai_ cy (rl 10) 12 (Ml 10), ai_ cy (rl 11) 12 (Ml 11)] [0, 1, 2, 3, 4, 5, 6, 7, 8, 9, 10, 11, 12, 13, 14, 15] (by decide +kernel) rfl (fun hPc hDw hFc hC_ => ?_)
          refine va_callv (va_runV (As := [.int y_18, .int a2, .int y_20]) (rest := []) ⟨hx, hb, hml, hown, hts⟩ (c_X7_chooseForCut2_3 l D cy H.size xh u1 u2 u3 u4 u5 u6 u7 u8 xc xk clo cro c4 c5 c6 c7 c8 xn n1 n2 n3 n4 n5 vp vn rl Ml y_18 a2 y_20 (by first | with_reducible assumption | omega | assumption) (by first | with_reducible assumption | omega | assumption) (by first | with_reducible assumption | assumption | omega) (by first | with_reducible assumption | omega | assumption) (by first | with_reducible assumption | assumption | omega) (by first | with_reducible assumption | assumption | omega)) (cwV 3 hts gX7_chooseForCut_X7_chooseForCut rfl rfl rfl ⟨rfl, hd_X7_chooseForCut⟩ ⟨Nat.le_of_ble_eq_true rfl, Nat.le_of_ble_eq_true rfl⟩) ⟨bl_g, va_recvX hK.1 hP (ci := 7) (q0 := 0) rfl rfl, fun U hU hW => ⟨rfl, by rw [hU], by rw [hU]; exact hPc, ⟨kk_mv hW hK, arrOfT_moved hW.alike hG⟩, hDw⟩⟩ rfl rfl hl.1 rfl (lv_room (Nat.le_of_ble_eq_true rfl)) dB_36_1_60.1.2.1.1 ⟨Nat.le_of_ble_eq_true rfl, Nat.le_of_ble_eq_true rfl⟩) hS (fun q _ h => hFc q h) hFc (fun u t H locs ht hvm hw hB hz1 hk1 hS => ?_)
          obtain ⟨v5_22, v6_23, g_24, hP1, hD1⟩ := hB
          rw [ht] at hP1
          obtain ⟨hP, hD⟩ := va_join (wr := []) (w1 := [ob7_0_ xh xc u1 u2 u3 u4 v5_22 v6_23 u7 u8, ob0_0_ xc xn xk clo cro c4 c5 c6 c7 c8, ob3_0_ xn vp vn n1 n2 n3 n4 n5, aq_ cy 6 clo 12 (gf_ rl), ai_ cy (rl 0) 12 (Ml 0), ai_ cy (rl 1) 12 (Ml 1), ai_ cy (rl 2) 12 (Ml 2), ai_ cy (rl 3) 12 (Ml 3), ai_ cy (rl 4) 12 (Ml 4), ai_ cy (rl 5) 12 (Ml 5), ai_ cy (rl 6) 12 (Ml 6), ai_ cy (rl 7) 12 (Ml 7), ai_ cy (rl 8) 12 (Ml 8), ai_ cy (rl 9) 12 (Ml 9), ai_ cy (rl 10) 12 (Ml 10), ai_ cy (rl 11) 12 (Ml 11)]) hP hD [0, 1, 2, 3, 4, 5, 6, 7, 8, 9, 10, 11, 12, 13, 14, 15] [] hC_ rfl (by decide) (by decide) hk1 hFc hP1 hD1
          refine pd_K [ob7_0_ xh xc u1 u2 u3 u4 v5_22 v6_23 u7 u8, ob0_0_ xc xn xk clo cro c4 c5 c6 c7 c8, ob3_0_ xn vp vn n1 n2 n3 n4 n5, aq_ cy 6 clo 12 (gf_ rl), ai_ cy (rl 0) 12 (Ml 0), ai_ cy (rl 1) 12 (Ml 1), ai_ cy (rl 2) 12 (Ml 2), ai_ cy (rl 3) 12 (Ml 3), ai_ cy (rl 4) 12 (Ml 4), ai_ cy (rl 5) 12 (Ml 5), ai_ cy (rl 6) 12 (Ml 6), ai_ cy (rl 7) 12 (Ml 7), ai_ cy (rl 8) 12 (Ml 8), ai_ cy (rl 9) 12 (Ml 9), ai_ cy (rl 10) 12 (Ml 10), ai_ cy (rl 11) 12 (Ml 11)] hP hD (fun hP hD => ?_)
          exact JOIN_5 v5_22 v6_23 _ _ _ (by first | exact scn_skip hs (fun j h1 h2 => hnt_nin hh1_ (by omega) (hmu_.2 (by omega)) h1 h2) | exact scn_to g_24 (by rw [hKr_])) ⟨hP, hD⟩ hS (lv_sub hl [0, 1, 2, 3, 4] rfl)
      · have t_3 : ¬ (0 : Int32).toInt ≤ a1.toInt := fun h => c_3 (Int32.le_iff_toInt_le.mpr h)
        have hK_ : (a1.toInt + 1).toNat = 0 := by omega
        have hh0_ : hnt (zM Ml) vp.toNatClampNeg 0 u1 u2 a2 a3.toInt := by rw [hK_] at hh; exact hh
        have hsn_ := scn_not hs (by omega) (by omega)
        have hcb_ := cnQ_nn (p := qF (zM Ml) vp.toNatClampNeg u1 u2 u3.toInt) (k := a2.toNatClampNeg)
        refine lv_aload_n hx hb dB_36_1_58.2.1.2.2 rfl (lv_at hl 0 rfl) ?_
        refine lv_iload_n hx hb dB_36_1_58.2.2.1.1 rfl (lv_at hl 2 rfl) ?_
        refine lv_iload_n hx hb dB_36_1_58.2.2.1.2 rfl (lv_at hl 3 rfl) ?_
        refine ct_S hP hD hS hA [ob7_0_ xh xc u1 u2 u3 u4 u5 u6 u7 u8] [0] (by decide) rfl (fun hPc hDw hFc hC_ => ?_)
        refine va_callv (va_runV (As := [.int a2, .int a3]) (rest := []) ⟨hx, hb, hml, hown, hts⟩ (c_X7_meet2 l D cy s.heap.size xh u1 u2 u3 u4 u5 u6 u7 u8 xc a2 a3 (by first | with_reducible assumption | omega | assumption)) (cwV 2 hts gX7_chooseForCut_X7_meet rfl rfl rfl ⟨rfl, hd_X7_meet⟩ ⟨Nat.le_of_ble_eq_true rfl, Nat.le_of_ble_eq_true rfl⟩) ⟨bl_, va_recvX hK.1 hP (ci := 7) (q0 := 0) rfl rfl, fun U hU hW => ⟨rfl, by rw [hU], by rw [hU]; exact hPc, kk_mv hW hK, hDw⟩⟩ rfl rfl hl.1 rfl (lv_room (Nat.le_of_ble_eq_true rfl)) dB_36_1_58.2.2.2.1 ⟨Nat.le_of_ble_eq_true rfl, Nat.le_of_ble_eq_true rfl⟩) hS (fun q _ h => hFc q h) hFc (fun u t H locs ht hvm hw hB hz1 hk1 hS => ?_)
        obtain ⟨v5_26, v6_27, g_28, hP1, hD1⟩ := hB
        rw [ht] at hP1
        obtain ⟨hP, hD⟩ := va_join (wr := [ob0_0_ xc xn xk clo cro c4 c5 c6 c7 c8, ob3_0_ xn vp vn n1 n2 n3 n4 n5, aq_ cy 6 clo 12 (gf_ rl), ai_ cy (rl 0) 12 (Ml 0), ai_ cy (rl 1) 12 (Ml 1), ai_ cy (rl 2) 12 (Ml 2), ai_ cy (rl 3) 12 (Ml 3), ai_ cy (rl 4) 12 (Ml 4), ai_ cy (rl 5) 12 (Ml 5), ai_ cy (rl 6) 12 (Ml 6), ai_ cy (rl 7) 12 (Ml 7), ai_ cy (rl 8) 12 (Ml 8), ai_ cy (rl 9) 12 (Ml 9), ai_ cy (rl 10) 12 (Ml 10), ai_ cy (rl 11) 12 (Ml 11)]) (w1 := [ob7_0_ xh xc u1 u2 u3 u4 v5_26 v6_27 u7 u8]) hP hD [0] [1, 2, 3, 4, 5, 6, 7, 8, 9, 10, 11, 12, 13, 14, 15] hC_ rfl (by decide +kernel) (by decide +kernel) hk1 hFc hP1 hD1
        refine pd_S hP hD [ob7_0_ xh xc u1 u2 u3 u4 v5_26 v6_27 u7 u8, ob0_0_ xc xn xk clo cro c4 c5 c6 c7 c8, ob3_0_ xn vp vn n1 n2 n3 n4 n5, aq_ cy 6 clo 12 (gf_ rl), ai_ cy (rl 0) 12 (Ml 0), ai_ cy (rl 1) 12 (Ml 1), ai_ cy (rl 2) 12 (Ml 2), ai_ cy (rl 3) 12 (Ml 3), ai_ cy (rl 4) 12 (Ml 4), ai_ cy (rl 5) 12 (Ml 5), ai_ cy (rl 6) 12 (Ml 6), ai_ cy (rl 7) 12 (Ml 7), ai_ cy (rl 8) 12 (Ml 8), ai_ cy (rl 9) 12 (Ml 9), ai_ cy (rl 10) 12 (Ml 10), ai_ cy (rl 11) 12 (Ml 11)] [15, 0, 1, 2, 3, 4, 5, 6, 7, 8, 9, 10, 11, 12, 13, 14] (by decide +kernel) rfl (fun hP hD => ?_)
        rw [hQ]
        exact W.vret hx hb hr (fun t ht hW => ⟨⟨(), rfl, trivial, v5_26, v6_27, (scn_to (leaf_end hs (by omega) hlt_ (hnt_leaf hh0_ (by omega)) g_28) (by rw [hK_])), by rw [ht]; exact hP, hD⟩, hS.F ht⟩) hS.2.2 dB_36_1_58.2.2.2.2
    · have t_2 : ¬ u6.toInt = ((-9) : Int32).toInt := fun h => c_2 (Int32.toInt_inj.mp h)
      rw [hQ]
      exact W.vret hx hb hr (fun t ht hW => ⟨⟨(), rfl, trivial, u5, u6, (by first | exact scn_skip hs (fun j h1 h2 => hnt_big hh (by omega) hnn_ (by omega) h1 h2) | exact scn_found hs (by omega)), by rw [ht]; exact hP, hD⟩, hS.F ht⟩) hS.2.2 dB_36_1_58.2.1.1.1

set_option maxHeartbeats 4000000 in
set_option maxRecDepth 100000 in
theorem c_X7_chooseForCut2_5 (l : Launch) (D : va_G) (cy : Nat → ClassId) (sz : Nat) (xh : Nat) (u1 : Int32) (u2 : Int32) (u3 : Int32) (u4 : Int32) (u5 : Int32) (u6 : Int32) (u7 : Int32) (u8 : Int32) (xc : Nat) (xk : Nat) (clo : Nat) (cro : Nat) (c4 : Nat) (c5 : Nat) (c6 : Nat) (c7 : Nat) (c8 : Nat) (xn : Nat) (n1 : Nat) (n2 : Nat) (n3 : Nat) (n4 : Nat) (n5 : Nat) (vp : Int32) (vn : Int32) (rl : Nat → Nat) (Ml : Nat → Nat → Int32) (a1 : Int32) (a2 : Int32) (a3 : Int32) (hvp : 0 ≤ vp.toInt ∧ vp.toInt ≤ 12) (q1 : -1 ≤ a1.toInt ∧ a1.toInt < 5) (hM : ∀ x y : Nat, x < vp.toNatClampNeg → y < vp.toNatClampNeg → 0 ≤ zM Ml x y ∧ zM Ml x y ≤ 80000000) (hA : 0 ≤ u3.toInt ∧ u3.toInt ≤ 1000000) (hh : hnt (zM Ml) vp.toNatClampNeg (a1.toInt + 1).toNat u1 u2 a2 a3.toInt) (hs : scn (qF (zM Ml) vp.toNatClampNeg u1 u2 u3.toInt) u4.toInt a2.toNatClampNeg u5 u6) : Met l yX7_chooseForCut wsX7_chooseForCut ({ frames := 6, cells := 0, slots := 0, locals := 142 }) (va_Pc [.ref xh, .int a1, .int a2, .int a3] (fun U => U.heap.size = sz ∧ va_P D vwCl [ob7_0_ xh xc u1 u2 u3 u4 u5 u6 u7 u8, ob0_0_ xc xn xk clo cro c4 c5 c6 c7 c8, ob3_0_ xn vp vn n1 n2 n3 n4 n5, aq_ cy 6 clo 12 (gf_ rl), ai_ cy (rl 0) 12 (Ml 0), ai_ cy (rl 1) 12 (Ml 1), ai_ cy (rl 2) 12 (Ml 2), ai_ cy (rl 3) 12 (Ml 3), ai_ cy (rl 4) 12 (Ml 4), ai_ cy (rl 5) 12 (Ml 5), ai_ cy (rl 6) 12 (Ml 6), ai_ cy (rl 7) 12 (Ml 7), ai_ cy (rl 8) 12 (Ml 8), ai_ cy (rl 9) 12 (Ml 9), ai_ cy (rl 10) 12 (Ml 10), ai_ cy (rl 11) 12 (Ml 11)] U.heap ∧ kg_ D cy U ∧ va_D (fun _ => True) [ob7_0_ xh xc u1 u2 u3 u4 u5 u6 u7 u8, ob0_0_ xc xn xk clo cro c4 c5 c6 c7 c8, ob3_0_ xn vp vn n1 n2 n3 n4 n5, aq_ cy 6 clo 12 (gf_ rl), ai_ cy (rl 0) 12 (Ml 0), ai_ cy (rl 1) 12 (Ml 1), ai_ cy (rl 2) 12 (Ml 2), ai_ cy (rl 3) 12 (Ml 3), ai_ cy (rl 4) 12 (Ml 4), ai_ cy (rl 5) 12 (Ml 5), ai_ cy (rl 6) 12 (Ml 6), ai_ cy (rl 7) 12 (Ml 7), ai_ cy (rl 8) 12 (Ml 8), ai_ cy (rl 9) 12 (Ml 9), ai_ cy (rl 10) 12 (Ml 10), ai_ cy (rl 11) 12 (Ml 11)])) (va_Qv (fun (_ : Unit) => True) (fun (_ : Unit) (t : State) => ∃ (v5 : Int32), ∃ (v6 : Int32), (scn (qF (zM Ml) vp.toNatClampNeg u1 u2 u3.toInt) u4.toInt (a2.toNatClampNeg + 2 ^ (a1.toInt + 1).toNat) v5 v6) ∧ va_P D vwCl [ob7_0_ xh xc u1 u2 u3 u4 v5 v6 u7 u8, ob0_0_ xc xn xk clo cro c4 c5 c6 c7 c8, ob3_0_ xn vp vn n1 n2 n3 n4 n5, aq_ cy 6 clo 12 (gf_ rl), ai_ cy (rl 0) 12 (Ml 0), ai_ cy (rl 1) 12 (Ml 1), ai_ cy (rl 2) 12 (Ml 2), ai_ cy (rl 3) 12 (Ml 3), ai_ cy (rl 4) 12 (Ml 4), ai_ cy (rl 5) 12 (Ml 5), ai_ cy (rl 6) 12 (Ml 6), ai_ cy (rl 7) 12 (Ml 7), ai_ cy (rl 8) 12 (Ml 8), ai_ cy (rl 9) 12 (Ml 9), ai_ cy (rl 10) 12 (Ml 10), ai_ cy (rl 11) 12 (Ml 11)] t.heap ∧ va_D (va_A [ob7_0_ xh xc u1 u2 u3 u4 u5 u6 u7 u8, ob0_0_ xc xn xk clo cro c4 c5 c6 c7 c8, ob3_0_ xn vp vn n1 n2 n3 n4 n5, aq_ cy 6 clo 12 (gf_ rl), ai_ cy (rl 0) 12 (Ml 0), ai_ cy (rl 1) 12 (Ml 1), ai_ cy (rl 2) 12 (Ml 2), ai_ cy (rl 3) 12 (Ml 3), ai_ cy (rl 4) 12 (Ml 4), ai_ cy (rl 5) 12 (Ml 5), ai_ cy (rl 6) 12 (Ml 6), ai_ cy (rl 7) 12 (Ml 7), ai_ cy (rl 8) 12 (Ml 8), ai_ cy (rl 9) 12 (Ml 9), ai_ cy (rl 10) 12 (Ml 10), ai_ cy (rl 11) 12 (Ml 11)] sz) [ob7_0_ xh xc u1 u2 u3 u4 v5 v6 u7 u8, ob0_0_ xc xn xk clo cro c4 c5 c6 c7 c8, ob3_0_ xn vp vn n1 n2 n3 n4 n5, aq_ cy 6 clo 12 (gf_ rl), ai_ cy (rl 0) 12 (Ml 0), ai_ cy (rl 1) 12 (Ml 1), ai_ cy (rl 2) 12 (Ml 2), ai_ cy (rl 3) 12 (Ml 3), ai_ cy (rl 4) 12 (Ml 4), ai_ cy (rl 5) 12 (Ml 5), ai_ cy (rl 6) 12 (Ml 6), ai_ cy (rl 7) 12 (Ml 7), ai_ cy (rl 8) 12 (Ml 8), ai_ cy (rl 9) 12 (Ml 9), ai_ cy (rl 10) 12 (Ml 10), ai_ cy (rl 11) 12 (Ml 11)]) (va_A [ob7_0_ xh xc u1 u2 u3 u4 u5 u6 u7 u8, ob0_0_ xc xn xk clo cro c4 c5 c6 c7 c8, ob3_0_ xn vp vn n1 n2 n3 n4 n5, aq_ cy 6 clo 12 (gf_ rl), ai_ cy (rl 0) 12 (Ml 0), ai_ cy (rl 1) 12 (Ml 1), ai_ cy (rl 2) 12 (Ml 2), ai_ cy (rl 3) 12 (Ml 3), ai_ cy (rl 4) 12 (Ml 4), ai_ cy (rl 5) 12 (Ml 5), ai_ cy (rl 6) 12 (Ml 6), ai_ cy (rl 7) 12 (Ml 7), ai_ cy (rl 8) 12 (Ml 8), ai_ cy (rl 9) 12 (Ml 9), ai_ cy (rl 10) 12 (Ml 10), ai_ cy (rl 11) 12 (Ml 11)] sz)) 0 0 (va_A [ob7_0_ xh xc u1 u2 u3 u4 u5 u6 u7 u8, ob0_0_ xc xn xk clo cro c4 c5 c6 c7 c8, ob3_0_ xn vp vn n1 n2 n3 n4 n5, aq_ cy 6 clo 12 (gf_ rl), ai_ cy (rl 0) 12 (Ml 0), ai_ cy (rl 1) 12 (Ml 1), ai_ cy (rl 2) 12 (Ml 2), ai_ cy (rl 3) 12 (Ml 3), ai_ cy (rl 4) 12 (Ml 4), ai_ cy (rl 5) 12 (Ml 5), ai_ cy (rl 6) 12 (Ml 6), ai_ cy (rl 7) 12 (Ml 7), ai_ cy (rl 8) 12 (Ml 8), ai_ cy (rl 9) 12 (Ml 9), ai_ cy (rl 10) 12 (Ml 10), ai_ cy (rl 11) 12 (Ml 11)] sz) := by
  refine ofQ (cc := cX7_chooseForCut) (maxL := 5) (ret := none) (by decide) rfl ?_
  intro p e s m args below meth c s₁ Q hQ B hml hv
  obtain ⟨rfl, hsz, hP, hK, hD0⟩ := hv
  have hG := hK.2
  have hK := hK.1
  have hx := B.exec
  have hb := B.bytes
  have hr := B.returns
  have hts := atoms_spec (ws := wsX7_chooseForCut) B.pre
  have hown : s.vm.findClass RX7 = some m.cls := by have h_ := findClass_of_methodNamed B.named; exact h_
  have hlocks := B.notSynchronized
  subst hsz
  have hD := hD0.self (sz := s.heap.size)
  generalize hAe : va_A [ob7_0_ xh xc u1 u2 u3 u4 u5 u6 u7 u8, ob0_0_ xc xn xk clo cro c4 c5 c6 c7 c8, ob3_0_ xn vp vn n1 n2 n3 n4 n5, aq_ cy 6 clo 12 (gf_ rl), ai_ cy (rl 0) 12 (Ml 0), ai_ cy (rl 1) 12 (Ml 1), ai_ cy (rl 2) 12 (Ml 2), ai_ cy (rl 3) 12 (Ml 3), ai_ cy (rl 4) 12 (Ml 4), ai_ cy (rl 5) 12 (Ml 5), ai_ cy (rl 6) 12 (Ml 6), ai_ cy (rl 7) 12 (Ml 7), ai_ cy (rl 8) 12 (Ml 8), ai_ cy (rl 9) 12 (Ml 9), ai_ cy (rl 10) 12 (Ml 10), ai_ cy (rl 11) 12 (Ml 11)] s.heap.size = A at hD hQ
  have hA : ∀ q : Nat, s.heap.size ≤ q → A q := fun q h => by rw [← hAe]; exact Or.inr h
  have hS : va_S A s.heap s.heap [] := va_S.rf
  have hl := lv_entry ([.ref xh, .int a1, .int a2, .int a3]) (n := 5) (Nat.le_of_ble_eq_true rfl)
  rw [lg_entry_eq]
  generalize (lg_sl ([.ref xh, .int a1, .int a2, .int a3]) ++ List.replicate (5 - (lg_sl ([.ref xh, .int a1, .int a2, .int a3])).length) Slot.unset).toArray = ls at hl ⊢
  have hl : lv_has ls 5 [(0, .ref xh), (1, .int a1), (2, .int a2), (3, .int a3)] := hl
  have zm9 : ((-9) : Int32).toInt = -9 := by decide
  have z0 : (0 : Int32).toInt = 0 := by decide
  have z1 : (1 : Int32).toInt = 1 := by decide
  have cv_ := clI (i := vp) (by omega)
  have hnn_ : ∀ x y : Nat, x < vp.toNatClampNeg → y < vp.toNatClampNeg → 0 ≤ zM Ml x y := fun x y hx hy => (hM x y hx hy).1
  have ha3_ := hnt_nn hh hnn_
  have hlt_ := hnt_lt hh (by omega)
  refine lv_iload_n hx hb dB_36_1_58.1.1.1.1 rfl (lv_at hl 3 rfl) ?_
  refine lv_aload_n hx hb dB_36_1_58.1.1.1.2 rfl (lv_at hl 0 rfl) ?_
  refine va_get (ci := 7) (v := .int u3) (C := RX7) (T := TX7) (N := 9) hx hb hts (fun _ h => List.mem_cons_of_mem _ (List.mem_append_left _ (List.mem_append_left _ (List.mem_append_right _ h)))) hown hK.1 hP 0 rfl rfl 3 (by decide) (hts (.fieldLink RX7 33 "CutAtlas$SetHunt" "aim" "I") (List.mem_of_getElem? (i := 1) rfl)) (fun _ h9 => h9) rfl dB_36_1_58.1.1.2.1 ?_
  refine lv_icmp_gt (tgt := 17) hx hb dB_36_1_58.1.1.2.2 (by decide) (fun c_1 => ?_) (fun c_1 => ?_)
  · have t_1 : u3.toInt < a3.toInt := Int32.lt_iff_toInt_lt.mp c_1
    rw [hQ]
    exact W.vret hx hb hr (fun t ht hW => ⟨⟨(), rfl, trivial, u5, u6, (by first | exact scn_skip hs (fun j h1 h2 => hnt_big hh (by omega) hnn_ (by omega) h1 h2) | exact scn_found hs (by omega)), by rw [ht]; exact hP, hD⟩, hS.F ht⟩) hS.2.2 dB_36_1_58.2.1.1.1
  · have t_1 : ¬ u3.toInt < a3.toInt := fun h => c_1 (Int32.lt_iff_toInt_lt.mpr h)
    refine lv_aload_n hx hb dB_36_1_58.1.2.1.1 rfl (lv_at hl 0 rfl) ?_
    refine va_get (ci := 7) (v := .int u6) (C := RX7) (T := TX7) (N := 9) hx hb hts (fun _ h => List.mem_cons_of_mem _ (List.mem_append_left _ (List.mem_append_left _ (List.mem_append_right _ h)))) hown hK.1 hP 0 rfl rfl 6 (by decide) (hts (.fieldLink RX7 24 "CutAtlas$SetHunt" "found" "I") (List.mem_of_getElem? (i := 2) rfl)) (fun _ h9 => h9) rfl dB_36_1_58.1.2.1.2 ?_
    refine lv_bipush (v := (-9)) hx hb dB_36_1_58.1.2.2.1 (by decide) ?_
    refine lv_icmp_eq (tgt := 18) hx hb dB_36_1_58.1.2.2.2 (by decide) (fun c_2 => ?_) (fun c_2 => ?_)
    · have t_2 : u6.toInt = ((-9) : Int32).toInt := congrArg Int32.toInt c_2
      refine lv_iload_n hx hb dB_36_1_58.2.1.1.2 rfl (lv_at hl 1 rfl) ?_
      refine lv_if_ge (tgt := 29) hx hb dB_36_1_58.2.1.2.1 (by decide) (fun c_3 => ?_) (fun c_3 => ?_)
      · have t_3 : (0 : Int32).toInt ≤ a1.toInt := Int32.le_iff_toInt_le.mp c_3
        have cp_ := clI (i := a1) (by omega)
        have hK_ : (a1.toInt + 1).toNat = a1.toNatClampNeg + 1 := by omega
        have hh1_ : hnt (zM Ml) vp.toNatClampNeg (a1.toNatClampNeg + 1) u1 u2 a2 a3.toInt := by rw [hK_] at hh; exact hh
        have hap_ : a1.toInt < vp.toInt := by have h_ := hh1_.1; omega
        refine lv_iconst (v := 1) hx hb dB_36_1_59.1.1.1.1 (by decide) ?_
        refine lv_iload_n hx hb dB_36_1_59.1.1.1.2 rfl (lv_at hl 1 rfl) ?_
        refine lv_ishl hx hb dB_36_1_59.1.1.2.1 ?_
        refine lv_topi (fun y_4 ey_4 => ?_)
        refine lv_istore (lv' := [(4, .int y_4), (0, .ref xh), (1, .int a1), (2, .int a2), (3, .int a3)]) hx hb dB_36_1_59.1.1.2.2 hl (by decide) rfl (fun ls hl => ?_)
        have JOIN_5 : ∀ (o5_5 : Int32) (o6_5 : Int32) (H : Heap) (locs : List Loc) (ls : Array Slot), (scn (qF (zM Ml) vp.toNatClampNeg u1 u2 u3.toInt) u4.toInt (a2.toNatClampNeg + 2 ^ a1.toNatClampNeg) o5_5 o6_5) → pd_2 D vwCl A [ob7_0_ xh xc u1 u2 u3 u4 o5_5 o6_5 u7 u8, ob0_0_ xc xn xk clo cro c4 c5 c6 c7 c8, ob3_0_ xn vp vn n1 n2 n3 n4 n5, aq_ cy 6 clo 12 (gf_ rl), ai_ cy (rl 0) 12 (Ml 0), ai_ cy (rl 1) 12 (Ml 1), ai_ cy (rl 2) 12 (Ml 2), ai_ cy (rl 3) 12 (Ml 3), ai_ cy (rl 4) 12 (Ml 4), ai_ cy (rl 5) 12 (Ml 5), ai_ cy (rl 6) 12 (Ml 6), ai_ cy (rl 7) 12 (Ml 7), ai_ cy (rl 8) 12 (Ml 8), ai_ cy (rl 9) 12 (Ml 9), ai_ cy (rl 10) 12 (Ml 10), ai_ cy (rl 11) 12 (Ml 11)] H → va_S A s.heap H locs → lv_has ls 5 [(4, .int y_4), (0, .ref xh), (1, .int a1), (2, .int a2), (3, .int a3)] → W p l e ({ frames := 6, cells := 0, slots := 0, locals := 142 } : Room) s m (([.ref xh, .int a1, .int a2, .int a3] : List Value).toArray) below meth c H locs 0 0 Q (F0 m 60 ls []) := by
          intro o5_5 o6_5 H locs ls v0_5 hPD hS hl; obtain ⟨hP, hD⟩ := hPD
          refine lv_aload_n hx hb dB_36_1_60.1.2.1.2 rfl (lv_at hl 1 rfl) ?_
          refine va_get (ci := 7) (v := .int u2) (C := RX7) (T := TX7) (N := 9) hx hb hts (fun _ h => List.mem_cons_of_mem _ (List.mem_append_left _ (List.mem_append_left _ (List.mem_append_right _ h)))) hown hK.1 hP 0 rfl rfl 2 (by decide) (hts (.fieldLink RX7 30 "CutAtlas$SetHunt" "mustNot" "I") (List.mem_of_getElem? (i := 4) rfl)) (fun _ h9 => h9) rfl dB_36_1_60.1.2.2.1 ?_
          refine lv_iload hx hb dB_36_1_60.1.2.2.2 (lv_at hl 0 rfl) ?_
          refine lv_iand hx hb dB_36_1_60.2.1.1.1 ?_
          refine lv_topi (fun y_6 ey_6 => ?_)
          have hnu_ := and_bit (mu := u2) (by omega) (by omega) ey_4 ey_6
          refine lv_if_ne (tgt := 89) hx hb dB_36_1_60.2.1.1.2 (by decide) (fun c_7 => ?_) (fun c_7 => ?_)
          · have t_7 : ¬ y_6.toInt = (0 : Int32).toInt := fun h => c_7 (Int32.toInt_inj.mp h)
            rw [hQ]
            exact W.vret hx hb hr (fun t ht hW => ⟨⟨(), rfl, trivial, o5_5, o6_5, (by first | exact scn_to (scn_skip v0_5 (fun j h1 h2 => hnt_nout hh1_ (by omega) (hnu_.2 (by omega)) h1 h2)) (by rw [pw_K hK_]; omega) | exact scn_to of_none (by rw [hKq_, hst_.1, pw_K hK_]; omega)), by rw [ht]; exact hP, hD⟩, hS.F ht⟩) hS.2.2 dB_36_1_61.2.2.2.2
          · have t_7 : y_6.toInt = (0 : Int32).toInt := congrArg Int32.toInt c_7
            refine lv_aload_n hx hb dB_36_1_60.2.1.2.1 rfl (lv_at hl 1 rfl) ?_
            refine lv_iload_n hx hb dB_36_1_60.2.1.2.2 rfl (lv_at hl 2 rfl) ?_
            refine lv_iconst (v := 1) hx hb dB_36_1_60.2.2.1.1 (by decide) ?_
            refine lv_isub hx hb dB_36_1_60.2.2.1.2 ?_
            refine lv_topi (fun y_8 ey_8 => ?_)
            have ty_8 : y_8.toInt = a1.toInt - (1 : Int32).toInt := by rw [ey_8]; exact subI (by omega) (by omega)
            refine lv_iload_n hx hb dB_36_1_60.2.2.2.1 rfl (lv_at hl 3 rfl) ?_
            refine lv_iload hx hb dB_36_1_60.2.2.2.2 (lv_at hl 0 rfl) ?_
            refine lv_ior hx hb dB_36_1_61.1.1.1 ?_
            refine lv_topi (fun y_9 ey_9 => ?_)
            have hst_ := hnt_set hh1_ (by omega) (by omega) ey_4 ey_9
            refine lv_iload_n hx hb dB_36_1_61.1.1.2 rfl (lv_at hl 4 rfl) ?_
            refine lv_aload_n hx hb dB_36_1_61.1.2.1 rfl (lv_at hl 1 rfl) ?_
            refine lv_iload_n hx hb dB_36_1_61.1.2.2 rfl (lv_at hl 2 rfl) ?_
            refine lv_iload_n hx hb dB_36_1_61.2.1.1 rfl (lv_at hl 3 rfl) ?_
            refine ct_R hP hD [ob7_0_ xh xc u1 u2 u3 u4 o5_5 o6_5 u7 u8, ob0_0_ xc xn xk clo cro c4 c5 c6 c7 c8, ob3_0_ xn vp vn n1 n2 n3 n4 n5, aq_ cy 6 clo 12 (gf_ rl), ai_ cy (rl 0) 12 (Ml 0), ai_ cy (rl 1) 12 (Ml 1), ai_ cy (rl 2) 12 (Ml 2), ai_ cy (rl 3) 12 (Ml 3), ai_ cy (rl 4) 12 (Ml 4), ai_ cy (rl 5) 12 (Ml 5), ai_ cy (rl 6) 12 (Ml 6), ai_ cy (rl 7) 12 (Ml 7), ai_ cy (rl 8) 12 (Ml 8), ai_ cy (rl 9) 12 (Ml 9), ai_ cy (rl 10) 12 (Ml 10), ai_ cy (rl 11) 12 (Ml 11)] [0, 1, 2, 3, 4, 5, 6, 7, 8, 9, 10, 11, 12, 13, 14, 15] (by decide +kernel) rfl (fun hPc hDw => ?_)
            have hFc := va_free (wc := []) hD hS hA [] rfl
            refine va_calli (va_runV (As := [.int a1, .int a2]) (rest := [.int a3, .int y_9, .int y_8, .ref xh]) ⟨hx, hb, hml, hown, hts⟩ (c_X7_letOut2 l D cy H.size xh u1 u2 u3 u4 o5_5 o6_5 u7 u8 xc xk clo cro c4 c5 c6 c7 c8 xn n1 n2 n3 n4 n5 vp vn rl Ml a1 a2 (by first | with_reducible assumption | omega | assumption) (by first | with_reducible assumption | omega | assumption) (by first | with_reducible assumption | assumption | omega)) (cwV 2 hts gX7_chooseForCut_X7_letOut rfl rfl rfl ⟨rfl, hd_X7_letOut⟩ ⟨Nat.le_of_ble_eq_true rfl, Nat.le_of_ble_eq_true rfl⟩) ⟨bl_g, va_recvX hK.1 hP (ci := 7) (q0 := 0) rfl rfl, fun U hU hW => ⟨rfl, by rw [hU], by rw [hU]; exact hPc, ⟨kk_mv hW hK, arrOfT_moved hW.alike hG⟩, hDw⟩⟩ rfl rfl hl.1 rfl (lv_room (Nat.le_of_ble_eq_true rfl)) dB_36_1_61.2.1.2 ⟨Nat.le_of_ble_eq_true rfl, Nat.le_of_ble_eq_true rfl⟩) hS (fun q _ h => hFc q h) hFc (fun r_10 u t H locs ht hvm hw hB hz1 hk1 hS => ?_)
            have hP : va_P D vwCl _ H := ro_keep hP hk1
            obtain ⟨f0_r_10, f1_r_10⟩ := hw
            refine lv_iadd hx hb dB_36_1_61.2.2.1 ?_
            refine lv_topi (fun y_11 ey_11 => ?_)
            have ty_11 : y_11.toInt = a3.toInt + r_10.toInt := by rw [ey_11]; exact addI (by omega) (by omega)
            have hKq_ : (y_8.toInt + 1).toNat = a1.toNatClampNeg := by omega
            have hrh_ : hnt (zM Ml) vp.toNatClampNeg (y_8.toInt + 1).toNat u1 u2 y_9 y_11.toInt := by rw [hKq_]; exact hnt_out hh1_ (by omega) (by omega) ey_4 ey_9 (hnu_.1 (by omega)) ty_11 f0_r_10
            have hrs_ : scn (qF (zM Ml) vp.toNatClampNeg u1 u2 u3.toInt) u4.toInt y_9.toNatClampNeg o5_5 o6_5 := scn_to v0_5 hst_.1.symm
            refine ct_S hP hD hS hA [ob7_0_ xh xc u1 u2 u3 u4 o5_5 o6_5 u7 u8, ob0_0_ xc xn xk clo cro c4 c5 c6 c7 c8, ob3_0_ xn vp vn n1 n2 n3 n4 n5, aq_ cy 6 clo 12 (gf_ rl), ai_ cy (rl 0) 12 (Ml 0), ai_ cy (rl 1) 12 (Ml 1), ai_ cy (rl 2) 12 (Ml 2), ai_ cy (rl 3) 12 (Ml 3), ai_ cy (rl 4) 12 (Ml 4), ai_ cy (rl 5) 12 (Ml 5), ai_ cy (rl 6) 12 (Ml 6), ai_ cy (rl 7) 12 (Ml 7), ai_ cy (rl 8) 12 (Ml 8), ai_ cy (rl 9) 12 (Ml 9), ai_ cy (rl 10) 12 (Ml 10), ai_ cy (rl 11) 12 (Ml 11)] [0, 1, 2, 3, 4, 5, 6, 7, 8, 9, 10, 11, 12, 13, 14, 15] (by decide +kernel) rfl (fun hPc hDw hFc hC_ => ?_)
            refine va_callv (va_runV (As := [.int y_8, .int y_9, .int y_11]) (rest := []) ⟨hx, hb, hml, hown, hts⟩ (c_X7_chooseForCut2_4 l D cy H.size xh u1 u2 u3 u4 o5_5 o6_5 u7 u8 xc xk clo cro c4 c5 c6 c7 c8 xn n1 n2 n3 n4 n5 vp vn rl Ml y_8 y_9 y_11 (by first | with_reducible assumption | omega | assumption) (by first | with_reducible assumption | omega | assumption) (by first | with_reducible assumption | assumption | omega) (by first | with_reducible assumption | omega | assumption) (by first | with_reducible assumption | assumption | omega) (by first | with_reducible assumption | assumption | omega)) (cwV 3 hts gX7_chooseForCut_X7_chooseForCut rfl rfl rfl ⟨rfl, hd_X7_chooseForCut⟩ ⟨Nat.le_of_ble_eq_true rfl, Nat.le_of_ble_eq_true rfl⟩) ⟨bl_g, va_recvX hK.1 hP (ci := 7) (q0 := 0) rfl rfl, fun U hU hW => ⟨rfl, by rw [hU], by rw [hU]; exact hPc, ⟨kk_mv hW hK, arrOfT_moved hW.alike hG⟩, hDw⟩⟩ rfl rfl hl.1 rfl (lv_room (Nat.le_of_ble_eq_true rfl)) dB_36_1_61.2.2.2.1 ⟨Nat.le_of_ble_eq_true rfl, Nat.le_of_ble_eq_true rfl⟩) hS (fun q _ h => hFc q h) hFc (fun u t H locs ht hvm hw hB hz1 hk1 hS => ?_)
            obtain ⟨v5_13, v6_14, g_15, hP1, hD1⟩ := hB
            rw [ht] at hP1
            obtain ⟨hP, hD⟩ := va_join (wr := []) (w1 := [ob7_0_ xh xc u1 u2 u3 u4 v5_13 v6_14 u7 u8, ob0_0_ xc xn xk clo cro c4 c5 c6 c7 c8, ob3_0_ xn vp vn n1 n2 n3 n4 n5, aq_ cy 6 clo 12 (gf_ rl), ai_ cy (rl 0) 12 (Ml 0), ai_ cy (rl 1) 12 (Ml 1), ai_ cy (rl 2) 12 (Ml 2), ai_ cy (rl 3) 12 (Ml 3), ai_ cy (rl 4) 12 (Ml 4), ai_ cy (rl 5) 12 (Ml 5), ai_ cy (rl 6) 12 (Ml 6), ai_ cy (rl 7) 12 (Ml 7), ai_ cy (rl 8) 12 (Ml 8), ai_ cy (rl 9) 12 (Ml 9), ai_ cy (rl 10) 12 (Ml 10), ai_ cy (rl 11) 12 (Ml 11)]) hP hD [0, 1, 2, 3, 4, 5, 6, 7, 8, 9, 10, 11, 12, 13, 14, 15] [] hC_ rfl (by decide) (by decide) hk1 hFc hP1 hD1
            refine pd_K [ob7_0_ xh xc u1 u2 u3 u4 v5_13 v6_14 u7 u8, ob0_0_ xc xn xk clo cro c4 c5 c6 c7 c8, ob3_0_ xn vp vn n1 n2 n3 n4 n5, aq_ cy 6 clo 12 (gf_ rl), ai_ cy (rl 0) 12 (Ml 0), ai_ cy (rl 1) 12 (Ml 1), ai_ cy (rl 2) 12 (Ml 2), ai_ cy (rl 3) 12 (Ml 3), ai_ cy (rl 4) 12 (Ml 4), ai_ cy (rl 5) 12 (Ml 5), ai_ cy (rl 6) 12 (Ml 6), ai_ cy (rl 7) 12 (Ml 7), ai_ cy (rl 8) 12 (Ml 8), ai_ cy (rl 9) 12 (Ml 9), ai_ cy (rl 10) 12 (Ml 10), ai_ cy (rl 11) 12 (Ml 11)] hP hD (fun hP hD => ?_)
            rw [hQ]
            exact W.vret hx hb hr (fun t ht hW => ⟨⟨(), rfl, trivial, v5_13, v6_14, (by first | exact scn_to (scn_skip v0_5 (fun j h1 h2 => hnt_nout hh1_ (by omega) (hnu_.2 (by omega)) h1 h2)) (by rw [pw_K hK_]; omega) | exact scn_to g_15 (by rw [hKq_, hst_.1, pw_K hK_]; omega)), by rw [ht]; exact hP, hD⟩, hS.F ht⟩) hS.2.2 dB_36_1_61.2.2.2.2
        refine lv_aload_n hx hb dB_36_1_59.1.2.1.1 rfl (lv_at hl 1 rfl) ?_
        refine va_get (ci := 7) (v := .int u1) (C := RX7) (T := TX7) (N := 9) hx hb hts (fun _ h => List.mem_cons_of_mem _ (List.mem_append_left _ (List.mem_append_left _ (List.mem_append_right _ h)))) hown hK.1 hP 0 rfl rfl 1 (by decide) (hts (.fieldLink RX7 27 "CutAtlas$SetHunt" "must" "I") (List.mem_of_getElem? (i := 3) rfl)) (fun _ h9 => h9) rfl dB_36_1_59.1.2.1.2 ?_
        refine lv_iload hx hb dB_36_1_59.1.2.2.1 (lv_at hl 0 rfl) ?_
        refine lv_iand hx hb dB_36_1_59.1.2.2.2 ?_
        refine lv_topi (fun y_16 ey_16 => ?_)
        have hmu_ := and_bit (mu := u1) (by omega) (by omega) ey_4 ey_16
        refine lv_if_ne (tgt := 60) hx hb dB_36_1_59.2.1.1.1 (by decide) (fun c_17 => ?_) (fun c_17 => ?_)
        · have t_17 : ¬ y_16.toInt = (0 : Int32).toInt := fun h => c_17 (Int32.toInt_inj.mp h)
          exact JOIN_5 u5 u6 _ _ _ (by first | exact scn_skip hs (fun j h1 h2 => hnt_nin hh1_ (by omega) (hmu_.2 (by omega)) h1 h2) | exact scn_to of_none (by rw [hKr_])) ⟨hP, hD⟩ hS (lv_sub hl [0, 1, 2, 3, 4] rfl)
        · have t_17 : y_16.toInt = (0 : Int32).toInt := congrArg Int32.toInt c_17
          refine lv_aload_n hx hb dB_36_1_59.2.1.1.2 rfl (lv_at hl 1 rfl) ?_
          refine lv_iload_n hx hb dB_36_1_59.2.1.2.1 rfl (lv_at hl 2 rfl) ?_
          refine lv_iconst (v := 1) hx hb dB_36_1_59.2.1.2.2 (by decide) ?_
          refine lv_isub hx hb dB_36_1_59.2.2.1.1 ?_
          refine lv_topi (fun y_18 ey_18 => ?_)
          have ty_18 : y_18.toInt = a1.toInt - (1 : Int32).toInt := by rw [ey_18]; exact subI (by omega) (by omega)
          refine lv_iload_n hx hb dB_36_1_59.2.2.1.2 rfl (lv_at hl 3 rfl) ?_
          refine lv_iload_n hx hb dB_36_1_59.2.2.2.1 rfl (lv_at hl 4 rfl) ?_
          refine lv_aload_n hx hb dB_36_1_59.2.2.2.2 rfl (lv_at hl 1 rfl) ?_
          refine lv_iload_n hx hb dB_36_1_60.1.1.1.1 rfl (lv_at hl 2 rfl) ?_
          refine lv_iload_n hx hb dB_36_1_60.1.1.1.2 rfl (lv_at hl 3 rfl) ?_
          refine ct_R hP hD [ob7_0_ xh xc u1 u2 u3 u4 u5 u6 u7 u8, ob0_0_ xc xn xk clo cro c4 c5 c6 c7 c8, ob3_0_ xn vp vn n1 n2 n3 n4 n5, aq_ cy 6 clo 12 (gf_ rl), ai_ cy (rl 0) 12 (Ml 0), ai_ cy (rl 1) 12 (Ml 1), ai_ cy (rl 2) 12 (Ml 2), ai_ cy (rl 3) 12 (Ml 3), ai_ cy (rl 4) 12 (Ml 4), ai_ cy (rl 5) 12 (Ml 5), ai_ cy (rl 6) 12 (Ml 6), ai_ cy (rl 7) 12 (Ml 7), ai_ cy (rl 8) 12 (Ml 8), ai_ cy (rl 9) 12 (Ml 9), ai_ cy (rl 10) 12 (Ml 10), ai_ cy (rl 11) 12 (Ml 11)] [0, 1, 2, 3, 4, 5, 6, 7, 8, 9, 10, 11, 12, 13, 14, 15] (by decide +kernel) rfl (fun hPc hDw => ?_)
          have hFc := va_free (wc := []) hD hS hA [] rfl
          refine va_calli (va_runV (As := [.int a1, .int a2]) (rest := [.int a3, .int a2, .int y_18, .ref xh]) ⟨hx, hb, hml, hown, hts⟩ (c_X7_letIn2 l D cy s.heap.size xh u1 u2 u3 u4 u5 u6 u7 u8 xc xk clo cro c4 c5 c6 c7 c8 xn n1 n2 n3 n4 n5 vp vn rl Ml a1 a2 (by first | with_reducible assumption | omega | assumption) (by first | with_reducible assumption | omega | assumption) (by first | with_reducible assumption | assumption | omega)) (cwV 2 hts gX7_chooseForCut_X7_letIn rfl rfl rfl ⟨rfl, hd_X7_letIn⟩ ⟨Nat.le_of_ble_eq_true rfl, Nat.le_of_ble_eq_true rfl⟩) ⟨bl_g, va_recvX hK.1 hP (ci := 7) (q0 := 0) rfl rfl, fun U hU hW => ⟨rfl, by rw [hU], by rw [hU]; exact hPc, ⟨kk_mv hW hK, arrOfT_moved hW.alike hG⟩, hDw⟩⟩ rfl rfl hl.1 rfl (lv_room (Nat.le_of_ble_eq_true rfl)) dB_36_1_60.1.1.2.1 ⟨Nat.le_of_ble_eq_true rfl, Nat.le_of_ble_eq_true rfl⟩) hS (fun q _ h => hFc q h) hFc (fun r_19 u t H locs ht hvm hw hB hz1 hk1 hS => ?_)
          have hP : va_P D vwCl _ H := ro_keep hP hk1
          obtain ⟨f0_r_19, f1_r_19⟩ := hw
          refine lv_iadd hx hb dB_36_1_60.1.1.2.2 ?_
          refine lv_topi (fun y_20 ey_20 => ?_)
          have ty_20 : y_20.toInt = a3.toInt + r_19.toInt := by rw [ey_20]; exact addI (by omega) (by omega)
          have hKr_ : (y_18.toInt + 1).toNat = a1.toNatClampNeg := by omega
          have hrh_ : hnt (zM Ml) vp.toNatClampNeg (y_18.toInt + 1).toNat u1 u2 a2 y_20.toInt := by rw [hKr_]; exact hnt_in hh1_ (hmu_.1 (by omega)) ty_20 f0_r_19
          refine ct_S hP hD hS hA [ob7_0_ xh xc u1 u2 u3 u4 u5 u6 u7 u8, ob0_0_ xc xn xk clo cro c4 c5 c6 c7 c8, ob3_0_ xn vp vn n1 n2 n3 n4 n5, aq_ cy 6 clo 12 (gf_ rl), ai_ cy (rl 0) 12 (Ml 0), ai_ cy (rl 1) 12 (Ml 1), ai_ cy (rl 2) 12 (Ml 2), ai_ cy (rl 3) 12 (Ml 3), ai_ cy (rl 4) 12 (Ml 4), ai_ cy (rl 5) 12 (Ml 5), ai_ cy (rl 6) 12 (Ml 6), ai_ cy (rl 7) 12 (Ml 7), ai_ cy (rl 8) 12 (Ml 8), ai_ cy (rl 9) 12 (Ml 9), ai_ cy (rl 10) 12 (Ml 10), ai_ cy (rl 11) 12 (Ml 11)] [0, 1, 2, 3, 4, 5, 6, 7, 8, 9, 10, 11, 12, 13, 14, 15] (by decide +kernel) rfl (fun hPc hDw hFc hC_ => ?_)
          refine va_callv (va_runV (As := [.int y_18, .int a2, .int y_20]) (rest := []) ⟨hx, hb, hml, hown, hts⟩ (c_X7_chooseForCut2_4 l D cy H.size xh u1 u2 u3 u4 u5 u6 u7 u8 xc xk clo cro c4 c5 c6 c7 c8 xn n1 n2 n3 n4 n5 vp vn rl Ml y_18 a2 y_20 (by first | with_reducible assumption | omega | assumption) (by first | with_reducible assumption | omega | assumption) (by first | with_reducible assumption | assumption | omega) (by first | with_reducible assumption | omega | assumption) (by first | with_reducible assumption | assumption | omega) (by first | with_reducible assumption | assumption | omega)) (cwV 3 hts gX7_chooseForCut_X7_chooseForCut rfl rfl rfl ⟨rfl, hd_X7_chooseForCut⟩ ⟨Nat.le_of_ble_eq_true rfl, Nat.le_of_ble_eq_true rfl⟩) ⟨bl_g, va_recvX hK.1 hP (ci := 7) (q0 := 0) rfl rfl, fun U hU hW => ⟨rfl, by rw [hU], by rw [hU]; exact hPc, ⟨kk_mv hW hK, arrOfT_moved hW.alike hG⟩, hDw⟩⟩ rfl rfl hl.1 rfl (lv_room (Nat.le_of_ble_eq_true rfl)) dB_36_1_60.1.2.1.1 ⟨Nat.le_of_ble_eq_true rfl, Nat.le_of_ble_eq_true rfl⟩) hS (fun q _ h => hFc q h) hFc (fun u t H locs ht hvm hw hB hz1 hk1 hS => ?_)
          obtain ⟨v5_22, v6_23, g_24, hP1, hD1⟩ := hB
          rw [ht] at hP1
          obtain ⟨hP, hD⟩ := va_join (wr := []) (w1 := [ob7_0_ xh xc u1 u2 u3 u4 v5_22 v6_23 u7 u8, ob0_0_ xc xn xk clo cro c4 c5 c6 c7 c8, ob3_0_ xn vp vn n1 n2 n3 n4 n5, aq_ cy 6 clo 12 (gf_ rl), ai_ cy (rl 0) 12 (Ml 0), ai_ cy (rl 1) 12 (Ml 1), ai_ cy (rl 2) 12 (Ml 2), ai_ cy (rl 3) 12 (Ml 3), ai_ cy (rl 4) 12 (Ml 4), ai_ cy (rl 5) 12 (Ml 5), ai_ cy (rl 6) 12 (Ml 6), ai_ cy (rl 7) 12 (Ml 7), ai_ cy (rl 8) 12 (Ml 8), ai_ cy (rl 9) 12 (Ml 9), ai_ cy (rl 10) 12 (Ml 10), ai_ cy (rl 11) 12 (Ml 11)]) hP hD [0, 1, 2, 3, 4, 5, 6, 7, 8, 9, 10, 11, 12, 13, 14, 15] [] hC_ rfl (by decide) (by decide) hk1 hFc hP1 hD1
          refine pd_K [ob7_0_ xh xc u1 u2 u3 u4 v5_22 v6_23 u7 u8, ob0_0_ xc xn xk clo cro c4 c5 c6 c7 c8, ob3_0_ xn vp vn n1 n2 n3 n4 n5, aq_ cy 6 clo 12 (gf_ rl), ai_ cy (rl 0) 12 (Ml 0), ai_ cy (rl 1) 12 (Ml 1), ai_ cy (rl 2) 12 (Ml 2), ai_ cy (rl 3) 12 (Ml 3), ai_ cy (rl 4) 12 (Ml 4), ai_ cy (rl 5) 12 (Ml 5), ai_ cy (rl 6) 12 (Ml 6), ai_ cy (rl 7) 12 (Ml 7), ai_ cy (rl 8) 12 (Ml 8), ai_ cy (rl 9) 12 (Ml 9), ai_ cy (rl 10) 12 (Ml 10), ai_ cy (rl 11) 12 (Ml 11)] hP hD (fun hP hD => ?_)
          exact JOIN_5 v5_22 v6_23 _ _ _ (by first | exact scn_skip hs (fun j h1 h2 => hnt_nin hh1_ (by omega) (hmu_.2 (by omega)) h1 h2) | exact scn_to g_24 (by rw [hKr_])) ⟨hP, hD⟩ hS (lv_sub hl [0, 1, 2, 3, 4] rfl)
      · have t_3 : ¬ (0 : Int32).toInt ≤ a1.toInt := fun h => c_3 (Int32.le_iff_toInt_le.mpr h)
        have hK_ : (a1.toInt + 1).toNat = 0 := by omega
        have hh0_ : hnt (zM Ml) vp.toNatClampNeg 0 u1 u2 a2 a3.toInt := by rw [hK_] at hh; exact hh
        have hsn_ := scn_not hs (by omega) (by omega)
        have hcb_ := cnQ_nn (p := qF (zM Ml) vp.toNatClampNeg u1 u2 u3.toInt) (k := a2.toNatClampNeg)
        refine lv_aload_n hx hb dB_36_1_58.2.1.2.2 rfl (lv_at hl 0 rfl) ?_
        refine lv_iload_n hx hb dB_36_1_58.2.2.1.1 rfl (lv_at hl 2 rfl) ?_
        refine lv_iload_n hx hb dB_36_1_58.2.2.1.2 rfl (lv_at hl 3 rfl) ?_
        refine ct_S hP hD hS hA [ob7_0_ xh xc u1 u2 u3 u4 u5 u6 u7 u8] [0] (by decide) rfl (fun hPc hDw hFc hC_ => ?_)
        refine va_callv (va_runV (As := [.int a2, .int a3]) (rest := []) ⟨hx, hb, hml, hown, hts⟩ (c_X7_meet2 l D cy s.heap.size xh u1 u2 u3 u4 u5 u6 u7 u8 xc a2 a3 (by first | with_reducible assumption | omega | assumption)) (cwV 2 hts gX7_chooseForCut_X7_meet rfl rfl rfl ⟨rfl, hd_X7_meet⟩ ⟨Nat.le_of_ble_eq_true rfl, Nat.le_of_ble_eq_true rfl⟩) ⟨bl_, va_recvX hK.1 hP (ci := 7) (q0 := 0) rfl rfl, fun U hU hW => ⟨rfl, by rw [hU], by rw [hU]; exact hPc, kk_mv hW hK, hDw⟩⟩ rfl rfl hl.1 rfl (lv_room (Nat.le_of_ble_eq_true rfl)) dB_36_1_58.2.2.2.1 ⟨Nat.le_of_ble_eq_true rfl, Nat.le_of_ble_eq_true rfl⟩) hS (fun q _ h => hFc q h) hFc (fun u t H locs ht hvm hw hB hz1 hk1 hS => ?_)
        obtain ⟨v5_26, v6_27, g_28, hP1, hD1⟩ := hB
        rw [ht] at hP1
        obtain ⟨hP, hD⟩ := va_join (wr := [ob0_0_ xc xn xk clo cro c4 c5 c6 c7 c8, ob3_0_ xn vp vn n1 n2 n3 n4 n5, aq_ cy 6 clo 12 (gf_ rl), ai_ cy (rl 0) 12 (Ml 0), ai_ cy (rl 1) 12 (Ml 1), ai_ cy (rl 2) 12 (Ml 2), ai_ cy (rl 3) 12 (Ml 3), ai_ cy (rl 4) 12 (Ml 4), ai_ cy (rl 5) 12 (Ml 5), ai_ cy (rl 6) 12 (Ml 6), ai_ cy (rl 7) 12 (Ml 7), ai_ cy (rl 8) 12 (Ml 8), ai_ cy (rl 9) 12 (Ml 9), ai_ cy (rl 10) 12 (Ml 10), ai_ cy (rl 11) 12 (Ml 11)]) (w1 := [ob7_0_ xh xc u1 u2 u3 u4 v5_26 v6_27 u7 u8]) hP hD [0] [1, 2, 3, 4, 5, 6, 7, 8, 9, 10, 11, 12, 13, 14, 15] hC_ rfl (by decide +kernel) (by decide +kernel) hk1 hFc hP1 hD1
        refine pd_S hP hD [ob7_0_ xh xc u1 u2 u3 u4 v5_26 v6_27 u7 u8, ob0_0_ xc xn xk clo cro c4 c5 c6 c7 c8, ob3_0_ xn vp vn n1 n2 n3 n4 n5, aq_ cy 6 clo 12 (gf_ rl), ai_ cy (rl 0) 12 (Ml 0), ai_ cy (rl 1) 12 (Ml 1), ai_ cy (rl 2) 12 (Ml 2), ai_ cy (rl 3) 12 (Ml 3), ai_ cy (rl 4) 12 (Ml 4), ai_ cy (rl 5) 12 (Ml 5), ai_ cy (rl 6) 12 (Ml 6), ai_ cy (rl 7) 12 (Ml 7), ai_ cy (rl 8) 12 (Ml 8), ai_ cy (rl 9) 12 (Ml 9), ai_ cy (rl 10) 12 (Ml 10), ai_ cy (rl 11) 12 (Ml 11)] [15, 0, 1, 2, 3, 4, 5, 6, 7, 8, 9, 10, 11, 12, 13, 14] (by decide +kernel) rfl (fun hP hD => ?_)
        rw [hQ]
        exact W.vret hx hb hr (fun t ht hW => ⟨⟨(), rfl, trivial, v5_26, v6_27, (scn_to (leaf_end hs (by omega) hlt_ (hnt_leaf hh0_ (by omega)) g_28) (by rw [hK_])), by rw [ht]; exact hP, hD⟩, hS.F ht⟩) hS.2.2 dB_36_1_58.2.2.2.2
    · have t_2 : ¬ u6.toInt = ((-9) : Int32).toInt := fun h => c_2 (Int32.toInt_inj.mp h)
      rw [hQ]
      exact W.vret hx hb hr (fun t ht hW => ⟨⟨(), rfl, trivial, u5, u6, (by first | exact scn_skip hs (fun j h1 h2 => hnt_big hh (by omega) hnn_ (by omega) h1 h2) | exact scn_found hs (by omega)), by rw [ht]; exact hP, hD⟩, hS.F ht⟩) hS.2.2 dB_36_1_58.2.1.1.1

set_option maxHeartbeats 4000000 in
set_option maxRecDepth 100000 in
theorem c_X7_chooseForCut2_6 (l : Launch) (D : va_G) (cy : Nat → ClassId) (sz : Nat) (xh : Nat) (u1 : Int32) (u2 : Int32) (u3 : Int32) (u4 : Int32) (u5 : Int32) (u6 : Int32) (u7 : Int32) (u8 : Int32) (xc : Nat) (xk : Nat) (clo : Nat) (cro : Nat) (c4 : Nat) (c5 : Nat) (c6 : Nat) (c7 : Nat) (c8 : Nat) (xn : Nat) (n1 : Nat) (n2 : Nat) (n3 : Nat) (n4 : Nat) (n5 : Nat) (vp : Int32) (vn : Int32) (rl : Nat → Nat) (Ml : Nat → Nat → Int32) (a1 : Int32) (a2 : Int32) (a3 : Int32) (hvp : 0 ≤ vp.toInt ∧ vp.toInt ≤ 12) (q1 : -1 ≤ a1.toInt ∧ a1.toInt < 6) (hM : ∀ x y : Nat, x < vp.toNatClampNeg → y < vp.toNatClampNeg → 0 ≤ zM Ml x y ∧ zM Ml x y ≤ 80000000) (hA : 0 ≤ u3.toInt ∧ u3.toInt ≤ 1000000) (hh : hnt (zM Ml) vp.toNatClampNeg (a1.toInt + 1).toNat u1 u2 a2 a3.toInt) (hs : scn (qF (zM Ml) vp.toNatClampNeg u1 u2 u3.toInt) u4.toInt a2.toNatClampNeg u5 u6) : Met l yX7_chooseForCut wsX7_chooseForCut ({ frames := 7, cells := 0, slots := 0, locals := 166 }) (va_Pc [.ref xh, .int a1, .int a2, .int a3] (fun U => U.heap.size = sz ∧ va_P D vwCl [ob7_0_ xh xc u1 u2 u3 u4 u5 u6 u7 u8, ob0_0_ xc xn xk clo cro c4 c5 c6 c7 c8, ob3_0_ xn vp vn n1 n2 n3 n4 n5, aq_ cy 6 clo 12 (gf_ rl), ai_ cy (rl 0) 12 (Ml 0), ai_ cy (rl 1) 12 (Ml 1), ai_ cy (rl 2) 12 (Ml 2), ai_ cy (rl 3) 12 (Ml 3), ai_ cy (rl 4) 12 (Ml 4), ai_ cy (rl 5) 12 (Ml 5), ai_ cy (rl 6) 12 (Ml 6), ai_ cy (rl 7) 12 (Ml 7), ai_ cy (rl 8) 12 (Ml 8), ai_ cy (rl 9) 12 (Ml 9), ai_ cy (rl 10) 12 (Ml 10), ai_ cy (rl 11) 12 (Ml 11)] U.heap ∧ kg_ D cy U ∧ va_D (fun _ => True) [ob7_0_ xh xc u1 u2 u3 u4 u5 u6 u7 u8, ob0_0_ xc xn xk clo cro c4 c5 c6 c7 c8, ob3_0_ xn vp vn n1 n2 n3 n4 n5, aq_ cy 6 clo 12 (gf_ rl), ai_ cy (rl 0) 12 (Ml 0), ai_ cy (rl 1) 12 (Ml 1), ai_ cy (rl 2) 12 (Ml 2), ai_ cy (rl 3) 12 (Ml 3), ai_ cy (rl 4) 12 (Ml 4), ai_ cy (rl 5) 12 (Ml 5), ai_ cy (rl 6) 12 (Ml 6), ai_ cy (rl 7) 12 (Ml 7), ai_ cy (rl 8) 12 (Ml 8), ai_ cy (rl 9) 12 (Ml 9), ai_ cy (rl 10) 12 (Ml 10), ai_ cy (rl 11) 12 (Ml 11)])) (va_Qv (fun (_ : Unit) => True) (fun (_ : Unit) (t : State) => ∃ (v5 : Int32), ∃ (v6 : Int32), (scn (qF (zM Ml) vp.toNatClampNeg u1 u2 u3.toInt) u4.toInt (a2.toNatClampNeg + 2 ^ (a1.toInt + 1).toNat) v5 v6) ∧ va_P D vwCl [ob7_0_ xh xc u1 u2 u3 u4 v5 v6 u7 u8, ob0_0_ xc xn xk clo cro c4 c5 c6 c7 c8, ob3_0_ xn vp vn n1 n2 n3 n4 n5, aq_ cy 6 clo 12 (gf_ rl), ai_ cy (rl 0) 12 (Ml 0), ai_ cy (rl 1) 12 (Ml 1), ai_ cy (rl 2) 12 (Ml 2), ai_ cy (rl 3) 12 (Ml 3), ai_ cy (rl 4) 12 (Ml 4), ai_ cy (rl 5) 12 (Ml 5), ai_ cy (rl 6) 12 (Ml 6), ai_ cy (rl 7) 12 (Ml 7), ai_ cy (rl 8) 12 (Ml 8), ai_ cy (rl 9) 12 (Ml 9), ai_ cy (rl 10) 12 (Ml 10), ai_ cy (rl 11) 12 (Ml 11)] t.heap ∧ va_D (va_A [ob7_0_ xh xc u1 u2 u3 u4 u5 u6 u7 u8, ob0_0_ xc xn xk clo cro c4 c5 c6 c7 c8, ob3_0_ xn vp vn n1 n2 n3 n4 n5, aq_ cy 6 clo 12 (gf_ rl), ai_ cy (rl 0) 12 (Ml 0), ai_ cy (rl 1) 12 (Ml 1), ai_ cy (rl 2) 12 (Ml 2), ai_ cy (rl 3) 12 (Ml 3), ai_ cy (rl 4) 12 (Ml 4), ai_ cy (rl 5) 12 (Ml 5), ai_ cy (rl 6) 12 (Ml 6), ai_ cy (rl 7) 12 (Ml 7), ai_ cy (rl 8) 12 (Ml 8), ai_ cy (rl 9) 12 (Ml 9), ai_ cy (rl 10) 12 (Ml 10), ai_ cy (rl 11) 12 (Ml 11)] sz) [ob7_0_ xh xc u1 u2 u3 u4 v5 v6 u7 u8, ob0_0_ xc xn xk clo cro c4 c5 c6 c7 c8, ob3_0_ xn vp vn n1 n2 n3 n4 n5, aq_ cy 6 clo 12 (gf_ rl), ai_ cy (rl 0) 12 (Ml 0), ai_ cy (rl 1) 12 (Ml 1), ai_ cy (rl 2) 12 (Ml 2), ai_ cy (rl 3) 12 (Ml 3), ai_ cy (rl 4) 12 (Ml 4), ai_ cy (rl 5) 12 (Ml 5), ai_ cy (rl 6) 12 (Ml 6), ai_ cy (rl 7) 12 (Ml 7), ai_ cy (rl 8) 12 (Ml 8), ai_ cy (rl 9) 12 (Ml 9), ai_ cy (rl 10) 12 (Ml 10), ai_ cy (rl 11) 12 (Ml 11)]) (va_A [ob7_0_ xh xc u1 u2 u3 u4 u5 u6 u7 u8, ob0_0_ xc xn xk clo cro c4 c5 c6 c7 c8, ob3_0_ xn vp vn n1 n2 n3 n4 n5, aq_ cy 6 clo 12 (gf_ rl), ai_ cy (rl 0) 12 (Ml 0), ai_ cy (rl 1) 12 (Ml 1), ai_ cy (rl 2) 12 (Ml 2), ai_ cy (rl 3) 12 (Ml 3), ai_ cy (rl 4) 12 (Ml 4), ai_ cy (rl 5) 12 (Ml 5), ai_ cy (rl 6) 12 (Ml 6), ai_ cy (rl 7) 12 (Ml 7), ai_ cy (rl 8) 12 (Ml 8), ai_ cy (rl 9) 12 (Ml 9), ai_ cy (rl 10) 12 (Ml 10), ai_ cy (rl 11) 12 (Ml 11)] sz)) 0 0 (va_A [ob7_0_ xh xc u1 u2 u3 u4 u5 u6 u7 u8, ob0_0_ xc xn xk clo cro c4 c5 c6 c7 c8, ob3_0_ xn vp vn n1 n2 n3 n4 n5, aq_ cy 6 clo 12 (gf_ rl), ai_ cy (rl 0) 12 (Ml 0), ai_ cy (rl 1) 12 (Ml 1), ai_ cy (rl 2) 12 (Ml 2), ai_ cy (rl 3) 12 (Ml 3), ai_ cy (rl 4) 12 (Ml 4), ai_ cy (rl 5) 12 (Ml 5), ai_ cy (rl 6) 12 (Ml 6), ai_ cy (rl 7) 12 (Ml 7), ai_ cy (rl 8) 12 (Ml 8), ai_ cy (rl 9) 12 (Ml 9), ai_ cy (rl 10) 12 (Ml 10), ai_ cy (rl 11) 12 (Ml 11)] sz) := by
  refine ofQ (cc := cX7_chooseForCut) (maxL := 5) (ret := none) (by decide) rfl ?_
  intro p e s m args below meth c s₁ Q hQ B hml hv
  obtain ⟨rfl, hsz, hP, hK, hD0⟩ := hv
  have hG := hK.2
  have hK := hK.1
  have hx := B.exec
  have hb := B.bytes
  have hr := B.returns
  have hts := atoms_spec (ws := wsX7_chooseForCut) B.pre
  have hown : s.vm.findClass RX7 = some m.cls := by have h_ := findClass_of_methodNamed B.named; exact h_
  have hlocks := B.notSynchronized
  subst hsz
  have hD := hD0.self (sz := s.heap.size)
  generalize hAe : va_A [ob7_0_ xh xc u1 u2 u3 u4 u5 u6 u7 u8, ob0_0_ xc xn xk clo cro c4 c5 c6 c7 c8, ob3_0_ xn vp vn n1 n2 n3 n4 n5, aq_ cy 6 clo 12 (gf_ rl), ai_ cy (rl 0) 12 (Ml 0), ai_ cy (rl 1) 12 (Ml 1), ai_ cy (rl 2) 12 (Ml 2), ai_ cy (rl 3) 12 (Ml 3), ai_ cy (rl 4) 12 (Ml 4), ai_ cy (rl 5) 12 (Ml 5), ai_ cy (rl 6) 12 (Ml 6), ai_ cy (rl 7) 12 (Ml 7), ai_ cy (rl 8) 12 (Ml 8), ai_ cy (rl 9) 12 (Ml 9), ai_ cy (rl 10) 12 (Ml 10), ai_ cy (rl 11) 12 (Ml 11)] s.heap.size = A at hD hQ
  have hA : ∀ q : Nat, s.heap.size ≤ q → A q := fun q h => by rw [← hAe]; exact Or.inr h
  have hS : va_S A s.heap s.heap [] := va_S.rf
  have hl := lv_entry ([.ref xh, .int a1, .int a2, .int a3]) (n := 5) (Nat.le_of_ble_eq_true rfl)
  rw [lg_entry_eq]
  generalize (lg_sl ([.ref xh, .int a1, .int a2, .int a3]) ++ List.replicate (5 - (lg_sl ([.ref xh, .int a1, .int a2, .int a3])).length) Slot.unset).toArray = ls at hl ⊢
  have hl : lv_has ls 5 [(0, .ref xh), (1, .int a1), (2, .int a2), (3, .int a3)] := hl
  have zm9 : ((-9) : Int32).toInt = -9 := by decide
  have z0 : (0 : Int32).toInt = 0 := by decide
  have z1 : (1 : Int32).toInt = 1 := by decide
  have cv_ := clI (i := vp) (by omega)
  have hnn_ : ∀ x y : Nat, x < vp.toNatClampNeg → y < vp.toNatClampNeg → 0 ≤ zM Ml x y := fun x y hx hy => (hM x y hx hy).1
  have ha3_ := hnt_nn hh hnn_
  have hlt_ := hnt_lt hh (by omega)
  refine lv_iload_n hx hb dB_36_1_58.1.1.1.1 rfl (lv_at hl 3 rfl) ?_
  refine lv_aload_n hx hb dB_36_1_58.1.1.1.2 rfl (lv_at hl 0 rfl) ?_
  refine va_get (ci := 7) (v := .int u3) (C := RX7) (T := TX7) (N := 9) hx hb hts (fun _ h => List.mem_cons_of_mem _ (List.mem_append_left _ (List.mem_append_left _ (List.mem_append_right _ h)))) hown hK.1 hP 0 rfl rfl 3 (by decide) (hts (.fieldLink RX7 33 "CutAtlas$SetHunt" "aim" "I") (List.mem_of_getElem? (i := 1) rfl)) (fun _ h9 => h9) rfl dB_36_1_58.1.1.2.1 ?_
  refine lv_icmp_gt (tgt := 17) hx hb dB_36_1_58.1.1.2.2 (by decide) (fun c_1 => ?_) (fun c_1 => ?_)
  · have t_1 : u3.toInt < a3.toInt := Int32.lt_iff_toInt_lt.mp c_1
    rw [hQ]
    exact W.vret hx hb hr (fun t ht hW => ⟨⟨(), rfl, trivial, u5, u6, (by first | exact scn_skip hs (fun j h1 h2 => hnt_big hh (by omega) hnn_ (by omega) h1 h2) | exact scn_found hs (by omega)), by rw [ht]; exact hP, hD⟩, hS.F ht⟩) hS.2.2 dB_36_1_58.2.1.1.1
  · have t_1 : ¬ u3.toInt < a3.toInt := fun h => c_1 (Int32.lt_iff_toInt_lt.mpr h)
    refine lv_aload_n hx hb dB_36_1_58.1.2.1.1 rfl (lv_at hl 0 rfl) ?_
    refine va_get (ci := 7) (v := .int u6) (C := RX7) (T := TX7) (N := 9) hx hb hts (fun _ h => List.mem_cons_of_mem _ (List.mem_append_left _ (List.mem_append_left _ (List.mem_append_right _ h)))) hown hK.1 hP 0 rfl rfl 6 (by decide) (hts (.fieldLink RX7 24 "CutAtlas$SetHunt" "found" "I") (List.mem_of_getElem? (i := 2) rfl)) (fun _ h9 => h9) rfl dB_36_1_58.1.2.1.2 ?_
    refine lv_bipush (v := (-9)) hx hb dB_36_1_58.1.2.2.1 (by decide) ?_
    refine lv_icmp_eq (tgt := 18) hx hb dB_36_1_58.1.2.2.2 (by decide) (fun c_2 => ?_) (fun c_2 => ?_)
    · have t_2 : u6.toInt = ((-9) : Int32).toInt := congrArg Int32.toInt c_2
      refine lv_iload_n hx hb dB_36_1_58.2.1.1.2 rfl (lv_at hl 1 rfl) ?_
      refine lv_if_ge (tgt := 29) hx hb dB_36_1_58.2.1.2.1 (by decide) (fun c_3 => ?_) (fun c_3 => ?_)
      · have t_3 : (0 : Int32).toInt ≤ a1.toInt := Int32.le_iff_toInt_le.mp c_3
        have cp_ := clI (i := a1) (by omega)
        have hK_ : (a1.toInt + 1).toNat = a1.toNatClampNeg + 1 := by omega
        have hh1_ : hnt (zM Ml) vp.toNatClampNeg (a1.toNatClampNeg + 1) u1 u2 a2 a3.toInt := by rw [hK_] at hh; exact hh
        have hap_ : a1.toInt < vp.toInt := by have h_ := hh1_.1; omega
        refine lv_iconst (v := 1) hx hb dB_36_1_59.1.1.1.1 (by decide) ?_
        refine lv_iload_n hx hb dB_36_1_59.1.1.1.2 rfl (lv_at hl 1 rfl) ?_
        refine lv_ishl hx hb dB_36_1_59.1.1.2.1 ?_
        refine lv_topi (fun y_4 ey_4 => ?_)
        refine lv_istore (lv' := [(4, .int y_4), (0, .ref xh), (1, .int a1), (2, .int a2), (3, .int a3)]) hx hb dB_36_1_59.1.1.2.2 hl (by decide) rfl (fun ls hl => ?_)
        have JOIN_5 : ∀ (o5_5 : Int32) (o6_5 : Int32) (H : Heap) (locs : List Loc) (ls : Array Slot), (scn (qF (zM Ml) vp.toNatClampNeg u1 u2 u3.toInt) u4.toInt (a2.toNatClampNeg + 2 ^ a1.toNatClampNeg) o5_5 o6_5) → pd_2 D vwCl A [ob7_0_ xh xc u1 u2 u3 u4 o5_5 o6_5 u7 u8, ob0_0_ xc xn xk clo cro c4 c5 c6 c7 c8, ob3_0_ xn vp vn n1 n2 n3 n4 n5, aq_ cy 6 clo 12 (gf_ rl), ai_ cy (rl 0) 12 (Ml 0), ai_ cy (rl 1) 12 (Ml 1), ai_ cy (rl 2) 12 (Ml 2), ai_ cy (rl 3) 12 (Ml 3), ai_ cy (rl 4) 12 (Ml 4), ai_ cy (rl 5) 12 (Ml 5), ai_ cy (rl 6) 12 (Ml 6), ai_ cy (rl 7) 12 (Ml 7), ai_ cy (rl 8) 12 (Ml 8), ai_ cy (rl 9) 12 (Ml 9), ai_ cy (rl 10) 12 (Ml 10), ai_ cy (rl 11) 12 (Ml 11)] H → va_S A s.heap H locs → lv_has ls 5 [(4, .int y_4), (0, .ref xh), (1, .int a1), (2, .int a2), (3, .int a3)] → W p l e ({ frames := 7, cells := 0, slots := 0, locals := 166 } : Room) s m (([.ref xh, .int a1, .int a2, .int a3] : List Value).toArray) below meth c H locs 0 0 Q (F0 m 60 ls []) := by
          intro o5_5 o6_5 H locs ls v0_5 hPD hS hl; obtain ⟨hP, hD⟩ := hPD
          refine lv_aload_n hx hb dB_36_1_60.1.2.1.2 rfl (lv_at hl 1 rfl) ?_
          refine va_get (ci := 7) (v := .int u2) (C := RX7) (T := TX7) (N := 9) hx hb hts (fun _ h => List.mem_cons_of_mem _ (List.mem_append_left _ (List.mem_append_left _ (List.mem_append_right _ h)))) hown hK.1 hP 0 rfl rfl 2 (by decide) (hts (.fieldLink RX7 30 "CutAtlas$SetHunt" "mustNot" "I") (List.mem_of_getElem? (i := 4) rfl)) (fun _ h9 => h9) rfl dB_36_1_60.1.2.2.1 ?_
          refine lv_iload hx hb dB_36_1_60.1.2.2.2 (lv_at hl 0 rfl) ?_
          refine lv_iand hx hb dB_36_1_60.2.1.1.1 ?_
          refine lv_topi (fun y_6 ey_6 => ?_)
          have hnu_ := and_bit (mu := u2) (by omega) (by omega) ey_4 ey_6
          refine lv_if_ne (tgt := 89) hx hb dB_36_1_60.2.1.1.2 (by decide) (fun c_7 => ?_) (fun c_7 => ?_)
          · have t_7 : ¬ y_6.toInt = (0 : Int32).toInt := fun h => c_7 (Int32.toInt_inj.mp h)
            rw [hQ]
            exact W.vret hx hb hr (fun t ht hW => ⟨⟨(), rfl, trivial, o5_5, o6_5, (by first | exact scn_to (scn_skip v0_5 (fun j h1 h2 => hnt_nout hh1_ (by omega) (hnu_.2 (by omega)) h1 h2)) (by rw [pw_K hK_]; omega) | exact scn_to of_none (by rw [hKq_, hst_.1, pw_K hK_]; omega)), by rw [ht]; exact hP, hD⟩, hS.F ht⟩) hS.2.2 dB_36_1_61.2.2.2.2
          · have t_7 : y_6.toInt = (0 : Int32).toInt := congrArg Int32.toInt c_7
            refine lv_aload_n hx hb dB_36_1_60.2.1.2.1 rfl (lv_at hl 1 rfl) ?_
            refine lv_iload_n hx hb dB_36_1_60.2.1.2.2 rfl (lv_at hl 2 rfl) ?_
            refine lv_iconst (v := 1) hx hb dB_36_1_60.2.2.1.1 (by decide) ?_
            refine lv_isub hx hb dB_36_1_60.2.2.1.2 ?_
            refine lv_topi (fun y_8 ey_8 => ?_)
            have ty_8 : y_8.toInt = a1.toInt - (1 : Int32).toInt := by rw [ey_8]; exact subI (by omega) (by omega)
            refine lv_iload_n hx hb dB_36_1_60.2.2.2.1 rfl (lv_at hl 3 rfl) ?_
            refine lv_iload hx hb dB_36_1_60.2.2.2.2 (lv_at hl 0 rfl) ?_
            refine lv_ior hx hb dB_36_1_61.1.1.1 ?_
            refine lv_topi (fun y_9 ey_9 => ?_)
            have hst_ := hnt_set hh1_ (by omega) (by omega) ey_4 ey_9
            refine lv_iload_n hx hb dB_36_1_61.1.1.2 rfl (lv_at hl 4 rfl) ?_
            refine lv_aload_n hx hb dB_36_1_61.1.2.1 rfl (lv_at hl 1 rfl) ?_
            refine lv_iload_n hx hb dB_36_1_61.1.2.2 rfl (lv_at hl 2 rfl) ?_
            refine lv_iload_n hx hb dB_36_1_61.2.1.1 rfl (lv_at hl 3 rfl) ?_
            refine ct_R hP hD [ob7_0_ xh xc u1 u2 u3 u4 o5_5 o6_5 u7 u8, ob0_0_ xc xn xk clo cro c4 c5 c6 c7 c8, ob3_0_ xn vp vn n1 n2 n3 n4 n5, aq_ cy 6 clo 12 (gf_ rl), ai_ cy (rl 0) 12 (Ml 0), ai_ cy (rl 1) 12 (Ml 1), ai_ cy (rl 2) 12 (Ml 2), ai_ cy (rl 3) 12 (Ml 3), ai_ cy (rl 4) 12 (Ml 4), ai_ cy (rl 5) 12 (Ml 5), ai_ cy (rl 6) 12 (Ml 6), ai_ cy (rl 7) 12 (Ml 7), ai_ cy (rl 8) 12 (Ml 8), ai_ cy (rl 9) 12 (Ml 9), ai_ cy (rl 10) 12 (Ml 10), ai_ cy (rl 11) 12 (Ml 11)] [0, 1, 2, 3, 4, 5, 6, 7, 8, 9, 10, 11, 12, 13, 14, 15] (by decide +kernel) rfl (fun hPc hDw => ?_)
            have hFc := va_free (wc := []) hD hS hA [] rfl
            refine va_calli (va_runV (As := [.int a1, .int a2]) (rest := [.int a3, .int y_9, .int y_8, .ref xh]) ⟨hx, hb, hml, hown, hts⟩ (c_X7_letOut2 l D cy H.size xh u1 u2 u3 u4 o5_5 o6_5 u7 u8 xc xk clo cro c4 c5 c6 c7 c8 xn n1 n2 n3 n4 n5 vp vn rl Ml a1 a2 (by first | with_reducible assumption | omega | assumption) (by first | with_reducible assumption | omega | assumption) (by first | with_reducible assumption | assumption | omega)) (cwV 2 hts gX7_chooseForCut_X7_letOut rfl rfl rfl ⟨rfl, hd_X7_letOut⟩ ⟨Nat.le_of_ble_eq_true rfl, Nat.le_of_ble_eq_true rfl⟩) ⟨bl_g, va_recvX hK.1 hP (ci := 7) (q0 := 0) rfl rfl, fun U hU hW => ⟨rfl, by rw [hU], by rw [hU]; exact hPc, ⟨kk_mv hW hK, arrOfT_moved hW.alike hG⟩, hDw⟩⟩ rfl rfl hl.1 rfl (lv_room (Nat.le_of_ble_eq_true rfl)) dB_36_1_61.2.1.2 ⟨Nat.le_of_ble_eq_true rfl, Nat.le_of_ble_eq_true rfl⟩) hS (fun q _ h => hFc q h) hFc (fun r_10 u t H locs ht hvm hw hB hz1 hk1 hS => ?_)
            have hP : va_P D vwCl _ H := ro_keep hP hk1
            obtain ⟨f0_r_10, f1_r_10⟩ := hw
            refine lv_iadd hx hb dB_36_1_61.2.2.1 ?_
            refine lv_topi (fun y_11 ey_11 => ?_)
            have ty_11 : y_11.toInt = a3.toInt + r_10.toInt := by rw [ey_11]; exact addI (by omega) (by omega)
            have hKq_ : (y_8.toInt + 1).toNat = a1.toNatClampNeg := by omega
            have hrh_ : hnt (zM Ml) vp.toNatClampNeg (y_8.toInt + 1).toNat u1 u2 y_9 y_11.toInt := by rw [hKq_]; exact hnt_out hh1_ (by omega) (by omega) ey_4 ey_9 (hnu_.1 (by omega)) ty_11 f0_r_10
            have hrs_ : scn (qF (zM Ml) vp.toNatClampNeg u1 u2 u3.toInt) u4.toInt y_9.toNatClampNeg o5_5 o6_5 := scn_to v0_5 hst_.1.symm
            refine ct_S hP hD hS hA [ob7_0_ xh xc u1 u2 u3 u4 o5_5 o6_5 u7 u8, ob0_0_ xc xn xk clo cro c4 c5 c6 c7 c8, ob3_0_ xn vp vn n1 n2 n3 n4 n5, aq_ cy 6 clo 12 (gf_ rl), ai_ cy (rl 0) 12 (Ml 0), ai_ cy (rl 1) 12 (Ml 1), ai_ cy (rl 2) 12 (Ml 2), ai_ cy (rl 3) 12 (Ml 3), ai_ cy (rl 4) 12 (Ml 4), ai_ cy (rl 5) 12 (Ml 5), ai_ cy (rl 6) 12 (Ml 6), ai_ cy (rl 7) 12 (Ml 7), ai_ cy (rl 8) 12 (Ml 8), ai_ cy (rl 9) 12 (Ml 9), ai_ cy (rl 10) 12 (Ml 10), ai_ cy (rl 11) 12 (Ml 11)] [0, 1, 2, 3, 4, 5, 6, 7, 8, 9, 10, 11, 12, 13, 14, 15] (by decide +kernel) rfl (fun hPc hDw hFc hC_ => ?_)
            refine va_callv (va_runV (As := [.int y_8, .int y_9, .int y_11]) (rest := []) ⟨hx, hb, hml, hown, hts⟩ (c_X7_chooseForCut2_5 l D cy H.size xh u1 u2 u3 u4 o5_5 o6_5 u7 u8 xc xk clo cro c4 c5 c6 c7 c8 xn n1 n2 n3 n4 n5 vp vn rl Ml y_8 y_9 y_11 (by first | with_reducible assumption | omega | assumption) (by first | with_reducible assumption | omega | assumption) (by first | with_reducible assumption | assumption | omega) (by first | with_reducible assumption | omega | assumption) (by first | with_reducible assumption | assumption | omega) (by first | with_reducible assumption | assumption | omega)) (cwV 3 hts gX7_chooseForCut_X7_chooseForCut rfl rfl rfl ⟨rfl, hd_X7_chooseForCut⟩ ⟨Nat.le_of_ble_eq_true rfl, Nat.le_of_ble_eq_true rfl⟩) ⟨bl_g, va_recvX hK.1 hP (ci := 7) (q0 := 0) rfl rfl, fun U hU hW => ⟨rfl, by rw [hU], by rw [hU]; exact hPc, ⟨kk_mv hW hK, arrOfT_moved hW.alike hG⟩, hDw⟩⟩ rfl rfl hl.1 rfl (lv_room (Nat.le_of_ble_eq_true rfl)) dB_36_1_61.2.2.2.1 ⟨Nat.le_of_ble_eq_true rfl, Nat.le_of_ble_eq_true rfl⟩) hS (fun q _ h => hFc q h) hFc (fun u t H locs ht hvm hw hB hz1 hk1 hS => ?_)
            obtain ⟨v5_13, v6_14, g_15, hP1, hD1⟩ := hB
            rw [ht] at hP1
            obtain ⟨hP, hD⟩ := va_join (wr := []) (w1 := [ob7_0_ xh xc u1 u2 u3 u4 v5_13 v6_14 u7 u8, ob0_0_ xc xn xk clo cro c4 c5 c6 c7 c8, ob3_0_ xn vp vn n1 n2 n3 n4 n5, aq_ cy 6 clo 12 (gf_ rl), ai_ cy (rl 0) 12 (Ml 0), ai_ cy (rl 1) 12 (Ml 1), ai_ cy (rl 2) 12 (Ml 2), ai_ cy (rl 3) 12 (Ml 3), ai_ cy (rl 4) 12 (Ml 4), ai_ cy (rl 5) 12 (Ml 5), ai_ cy (rl 6) 12 (Ml 6), ai_ cy (rl 7) 12 (Ml 7), ai_ cy (rl 8) 12 (Ml 8), ai_ cy (rl 9) 12 (Ml 9), ai_ cy (rl 10) 12 (Ml 10), ai_ cy (rl 11) 12 (Ml 11)]) hP hD [0, 1, 2, 3, 4, 5, 6, 7, 8, 9, 10, 11, 12, 13, 14, 15] [] hC_ rfl (by decide) (by decide) hk1 hFc hP1 hD1
            refine pd_K [ob7_0_ xh xc u1 u2 u3 u4 v5_13 v6_14 u7 u8, ob0_0_ xc xn xk clo cro c4 c5 c6 c7 c8, ob3_0_ xn vp vn n1 n2 n3 n4 n5, aq_ cy 6 clo 12 (gf_ rl), ai_ cy (rl 0) 12 (Ml 0), ai_ cy (rl 1) 12 (Ml 1), ai_ cy (rl 2) 12 (Ml 2), ai_ cy (rl 3) 12 (Ml 3), ai_ cy (rl 4) 12 (Ml 4), ai_ cy (rl 5) 12 (Ml 5), ai_ cy (rl 6) 12 (Ml 6), ai_ cy (rl 7) 12 (Ml 7), ai_ cy (rl 8) 12 (Ml 8), ai_ cy (rl 9) 12 (Ml 9), ai_ cy (rl 10) 12 (Ml 10), ai_ cy (rl 11) 12 (Ml 11)] hP hD (fun hP hD => ?_)
            rw [hQ]
            exact W.vret hx hb hr (fun t ht hW => ⟨⟨(), rfl, trivial, v5_13, v6_14, (by first | exact scn_to (scn_skip v0_5 (fun j h1 h2 => hnt_nout hh1_ (by omega) (hnu_.2 (by omega)) h1 h2)) (by rw [pw_K hK_]; omega) | exact scn_to g_15 (by rw [hKq_, hst_.1, pw_K hK_]; omega)), by rw [ht]; exact hP, hD⟩, hS.F ht⟩) hS.2.2 dB_36_1_61.2.2.2.2
        refine lv_aload_n hx hb dB_36_1_59.1.2.1.1 rfl (lv_at hl 1 rfl) ?_
        refine va_get (ci := 7) (v := .int u1) (C := RX7) (T := TX7) (N := 9) hx hb hts (fun _ h => List.mem_cons_of_mem _ (List.mem_append_left _ (List.mem_append_left _ (List.mem_append_right _ h)))) hown hK.1 hP 0 rfl rfl 1 (by decide) (hts (.fieldLink RX7 27 "CutAtlas$SetHunt" "must" "I") (List.mem_of_getElem? (i := 3) rfl)) (fun _ h9 => h9) rfl dB_36_1_59.1.2.1.2 ?_
        refine lv_iload hx hb dB_36_1_59.1.2.2.1 (lv_at hl 0 rfl) ?_
        refine lv_iand hx hb dB_36_1_59.1.2.2.2 ?_
        refine lv_topi (fun y_16 ey_16 => ?_)
        have hmu_ := and_bit (mu := u1) (by omega) (by omega) ey_4 ey_16
        refine lv_if_ne (tgt := 60) hx hb dB_36_1_59.2.1.1.1 (by decide) (fun c_17 => ?_) (fun c_17 => ?_)
        · have t_17 : ¬ y_16.toInt = (0 : Int32).toInt := fun h => c_17 (Int32.toInt_inj.mp h)
          exact JOIN_5 u5 u6 _ _ _ (by first | exact scn_skip hs (fun j h1 h2 => hnt_nin hh1_ (by omega) (hmu_.2 (by omega)) h1 h2) | exact scn_to of_none (by rw [hKr_])) ⟨hP, hD⟩ hS (lv_sub hl [0, 1, 2, 3, 4] rfl)
        · have t_17 : y_16.toInt = (0 : Int32).toInt := congrArg Int32.toInt c_17
          refine lv_aload_n hx hb dB_36_1_59.2.1.1.2 rfl (lv_at hl 1 rfl) ?_
          refine lv_iload_n hx hb dB_36_1_59.2.1.2.1 rfl (lv_at hl 2 rfl) ?_
          refine lv_iconst (v := 1) hx hb dB_36_1_59.2.1.2.2 (by decide) ?_
          refine lv_isub hx hb dB_36_1_59.2.2.1.1 ?_
          refine lv_topi (fun y_18 ey_18 => ?_)
          have ty_18 : y_18.toInt = a1.toInt - (1 : Int32).toInt := by rw [ey_18]; exact subI (by omega) (by omega)
          refine lv_iload_n hx hb dB_36_1_59.2.2.1.2 rfl (lv_at hl 3 rfl) ?_
          refine lv_iload_n hx hb dB_36_1_59.2.2.2.1 rfl (lv_at hl 4 rfl) ?_
          refine lv_aload_n hx hb dB_36_1_59.2.2.2.2 rfl (lv_at hl 1 rfl) ?_
          refine lv_iload_n hx hb dB_36_1_60.1.1.1.1 rfl (lv_at hl 2 rfl) ?_
          refine lv_iload_n hx hb dB_36_1_60.1.1.1.2 rfl (lv_at hl 3 rfl) ?_
          refine ct_R hP hD [ob7_0_ xh xc u1 u2 u3 u4 u5 u6 u7 u8, ob0_0_ xc xn xk clo cro c4 c5 c6 c7 c8, ob3_0_ xn vp vn n1 n2 n3 n4 n5, aq_ cy 6 clo 12 (gf_ rl), ai_ cy (rl 0) 12 (Ml 0), ai_ cy (rl 1) 12 (Ml 1), ai_ cy (rl 2) 12 (Ml 2), ai_ cy (rl 3) 12 (Ml 3), ai_ cy (rl 4) 12 (Ml 4), ai_ cy (rl 5) 12 (Ml 5), ai_ cy (rl 6) 12 (Ml 6), ai_ cy (rl 7) 12 (Ml 7), ai_ cy (rl 8) 12 (Ml 8), ai_ cy (rl 9) 12 (Ml 9), ai_ cy (rl 10) 12 (Ml 10), ai_ cy (rl 11) 12 (Ml 11)] [0, 1, 2, 3, 4, 5, 6, 7, 8, 9, 10, 11, 12, 13, 14, 15] (by decide +kernel) rfl (fun hPc hDw => ?_)
          have hFc := va_free (wc := []) hD hS hA [] rfl
          refine va_calli (va_runV (As := [.int a1, .int a2]) (rest := [.int a3, .int a2, .int y_18, .ref xh]) ⟨hx, hb, hml, hown, hts⟩ (c_X7_letIn2 l D cy s.heap.size xh u1 u2 u3 u4 u5 u6 u7 u8 xc xk clo cro c4 c5 c6 c7 c8 xn n1 n2 n3 n4 n5 vp vn rl Ml a1 a2 (by first | with_reducible assumption | omega | assumption) (by first | with_reducible assumption | omega | assumption) (by first | with_reducible assumption | assumption | omega)) (cwV 2 hts gX7_chooseForCut_X7_letIn rfl rfl rfl ⟨rfl, hd_X7_letIn⟩ ⟨Nat.le_of_ble_eq_true rfl, Nat.le_of_ble_eq_true rfl⟩) ⟨bl_g, va_recvX hK.1 hP (ci := 7) (q0 := 0) rfl rfl, fun U hU hW => ⟨rfl, by rw [hU], by rw [hU]; exact hPc, ⟨kk_mv hW hK, arrOfT_moved hW.alike hG⟩, hDw⟩⟩ rfl rfl hl.1 rfl (lv_room (Nat.le_of_ble_eq_true rfl)) dB_36_1_60.1.1.2.1 ⟨Nat.le_of_ble_eq_true rfl, Nat.le_of_ble_eq_true rfl⟩) hS (fun q _ h => hFc q h) hFc (fun r_19 u t H locs ht hvm hw hB hz1 hk1 hS => ?_)
          have hP : va_P D vwCl _ H := ro_keep hP hk1
          obtain ⟨f0_r_19, f1_r_19⟩ := hw
          refine lv_iadd hx hb dB_36_1_60.1.1.2.2 ?_
          refine lv_topi (fun y_20 ey_20 => ?_)
          have ty_20 : y_20.toInt = a3.toInt + r_19.toInt := by rw [ey_20]; exact addI (by omega) (by omega)
          have hKr_ : (y_18.toInt + 1).toNat = a1.toNatClampNeg := by omega
          have hrh_ : hnt (zM Ml) vp.toNatClampNeg (y_18.toInt + 1).toNat u1 u2 a2 y_20.toInt := by rw [hKr_]; exact hnt_in hh1_ (hmu_.1 (by omega)) ty_20 f0_r_19
          refine ct_S hP hD hS hA [ob7_0_ xh xc u1 u2 u3 u4 u5 u6 u7 u8, ob0_0_ xc xn xk clo cro c4 c5 c6 c7 c8, ob3_0_ xn vp vn n1 n2 n3 n4 n5, aq_ cy 6 clo 12 (gf_ rl), ai_ cy (rl 0) 12 (Ml 0), ai_ cy (rl 1) 12 (Ml 1), ai_ cy (rl 2) 12 (Ml 2), ai_ cy (rl 3) 12 (Ml 3), ai_ cy (rl 4) 12 (Ml 4), ai_ cy (rl 5) 12 (Ml 5), ai_ cy (rl 6) 12 (Ml 6), ai_ cy (rl 7) 12 (Ml 7), ai_ cy (rl 8) 12 (Ml 8), ai_ cy (rl 9) 12 (Ml 9), ai_ cy (rl 10) 12 (Ml 10), ai_ cy (rl 11) 12 (Ml 11)] [0, 1, 2, 3, 4, 5, 6, 7, 8, 9, 10, 11, 12, 13, 14, 15] (by decide +kernel) rfl (fun hPc hDw hFc hC_ => ?_)
          refine va_callv (va_runV (As := [.int y_18, .int a2, .int y_20]) (rest := []) ⟨hx, hb, hml, hown, hts⟩ (c_X7_chooseForCut2_5 l D cy H.size xh u1 u2 u3 u4 u5 u6 u7 u8 xc xk clo cro c4 c5 c6 c7 c8 xn n1 n2 n3 n4 n5 vp vn rl Ml y_18 a2 y_20 (by first | with_reducible assumption | omega | assumption) (by first | with_reducible assumption | omega | assumption) (by first | with_reducible assumption | assumption | omega) (by first | with_reducible assumption | omega | assumption) (by first | with_reducible assumption | assumption | omega) (by first | with_reducible assumption | assumption | omega)) (cwV 3 hts gX7_chooseForCut_X7_chooseForCut rfl rfl rfl ⟨rfl, hd_X7_chooseForCut⟩ ⟨Nat.le_of_ble_eq_true rfl, Nat.le_of_ble_eq_true rfl⟩) ⟨bl_g, va_recvX hK.1 hP (ci := 7) (q0 := 0) rfl rfl, fun U hU hW => ⟨rfl, by rw [hU], by rw [hU]; exact hPc, ⟨kk_mv hW hK, arrOfT_moved hW.alike hG⟩, hDw⟩⟩ rfl rfl hl.1 rfl (lv_room (Nat.le_of_ble_eq_true rfl)) dB_36_1_60.1.2.1.1 ⟨Nat.le_of_ble_eq_true rfl, Nat.le_of_ble_eq_true rfl⟩) hS (fun q _ h => hFc q h) hFc (fun u t H locs ht hvm hw hB hz1 hk1 hS => ?_)
          obtain ⟨v5_22, v6_23, g_24, hP1, hD1⟩ := hB
          rw [ht] at hP1
          obtain ⟨hP, hD⟩ := va_join (wr := []) (w1 := [ob7_0_ xh xc u1 u2 u3 u4 v5_22 v6_23 u7 u8, ob0_0_ xc xn xk clo cro c4 c5 c6 c7 c8, ob3_0_ xn vp vn n1 n2 n3 n4 n5, aq_ cy 6 clo 12 (gf_ rl), ai_ cy (rl 0) 12 (Ml 0), ai_ cy (rl 1) 12 (Ml 1), ai_ cy (rl 2) 12 (Ml 2), ai_ cy (rl 3) 12 (Ml 3), ai_ cy (rl 4) 12 (Ml 4), ai_ cy (rl 5) 12 (Ml 5), ai_ cy (rl 6) 12 (Ml 6), ai_ cy (rl 7) 12 (Ml 7), ai_ cy (rl 8) 12 (Ml 8), ai_ cy (rl 9) 12 (Ml 9), ai_ cy (rl 10) 12 (Ml 10), ai_ cy (rl 11) 12 (Ml 11)]) hP hD [0, 1, 2, 3, 4, 5, 6, 7, 8, 9, 10, 11, 12, 13, 14, 15] [] hC_ rfl (by decide) (by decide) hk1 hFc hP1 hD1
          refine pd_K [ob7_0_ xh xc u1 u2 u3 u4 v5_22 v6_23 u7 u8, ob0_0_ xc xn xk clo cro c4 c5 c6 c7 c8, ob3_0_ xn vp vn n1 n2 n3 n4 n5, aq_ cy 6 clo 12 (gf_ rl), ai_ cy (rl 0) 12 (Ml 0), ai_ cy (rl 1) 12 (Ml 1), ai_ cy (rl 2) 12 (Ml 2), ai_ cy (rl 3) 12 (Ml 3), ai_ cy (rl 4) 12 (Ml 4), ai_ cy (rl 5) 12 (Ml 5), ai_ cy (rl 6) 12 (Ml 6), ai_ cy (rl 7) 12 (Ml 7), ai_ cy (rl 8) 12 (Ml 8), ai_ cy (rl 9) 12 (Ml 9), ai_ cy (rl 10) 12 (Ml 10), ai_ cy (rl 11) 12 (Ml 11)] hP hD (fun hP hD => ?_)
          exact JOIN_5 v5_22 v6_23 _ _ _ (by first | exact scn_skip hs (fun j h1 h2 => hnt_nin hh1_ (by omega) (hmu_.2 (by omega)) h1 h2) | exact scn_to g_24 (by rw [hKr_])) ⟨hP, hD⟩ hS (lv_sub hl [0, 1, 2, 3, 4] rfl)
      · have t_3 : ¬ (0 : Int32).toInt ≤ a1.toInt := fun h => c_3 (Int32.le_iff_toInt_le.mpr h)
        have hK_ : (a1.toInt + 1).toNat = 0 := by omega
        have hh0_ : hnt (zM Ml) vp.toNatClampNeg 0 u1 u2 a2 a3.toInt := by rw [hK_] at hh; exact hh
        have hsn_ := scn_not hs (by omega) (by omega)
        have hcb_ := cnQ_nn (p := qF (zM Ml) vp.toNatClampNeg u1 u2 u3.toInt) (k := a2.toNatClampNeg)
        refine lv_aload_n hx hb dB_36_1_58.2.1.2.2 rfl (lv_at hl 0 rfl) ?_
        refine lv_iload_n hx hb dB_36_1_58.2.2.1.1 rfl (lv_at hl 2 rfl) ?_
        refine lv_iload_n hx hb dB_36_1_58.2.2.1.2 rfl (lv_at hl 3 rfl) ?_
        refine ct_S hP hD hS hA [ob7_0_ xh xc u1 u2 u3 u4 u5 u6 u7 u8] [0] (by decide) rfl (fun hPc hDw hFc hC_ => ?_)
        refine va_callv (va_runV (As := [.int a2, .int a3]) (rest := []) ⟨hx, hb, hml, hown, hts⟩ (c_X7_meet2 l D cy s.heap.size xh u1 u2 u3 u4 u5 u6 u7 u8 xc a2 a3 (by first | with_reducible assumption | omega | assumption)) (cwV 2 hts gX7_chooseForCut_X7_meet rfl rfl rfl ⟨rfl, hd_X7_meet⟩ ⟨Nat.le_of_ble_eq_true rfl, Nat.le_of_ble_eq_true rfl⟩) ⟨bl_, va_recvX hK.1 hP (ci := 7) (q0 := 0) rfl rfl, fun U hU hW => ⟨rfl, by rw [hU], by rw [hU]; exact hPc, kk_mv hW hK, hDw⟩⟩ rfl rfl hl.1 rfl (lv_room (Nat.le_of_ble_eq_true rfl)) dB_36_1_58.2.2.2.1 ⟨Nat.le_of_ble_eq_true rfl, Nat.le_of_ble_eq_true rfl⟩) hS (fun q _ h => hFc q h) hFc (fun u t H locs ht hvm hw hB hz1 hk1 hS => ?_)
        obtain ⟨v5_26, v6_27, g_28, hP1, hD1⟩ := hB
        rw [ht] at hP1
        obtain ⟨hP, hD⟩ := va_join (wr := [ob0_0_ xc xn xk clo cro c4 c5 c6 c7 c8, ob3_0_ xn vp vn n1 n2 n3 n4 n5, aq_ cy 6 clo 12 (gf_ rl), ai_ cy (rl 0) 12 (Ml 0), ai_ cy (rl 1) 12 (Ml 1), ai_ cy (rl 2) 12 (Ml 2), ai_ cy (rl 3) 12 (Ml 3), ai_ cy (rl 4) 12 (Ml 4), ai_ cy (rl 5) 12 (Ml 5), ai_ cy (rl 6) 12 (Ml 6), ai_ cy (rl 7) 12 (Ml 7), ai_ cy (rl 8) 12 (Ml 8), ai_ cy (rl 9) 12 (Ml 9), ai_ cy (rl 10) 12 (Ml 10), ai_ cy (rl 11) 12 (Ml 11)]) (w1 := [ob7_0_ xh xc u1 u2 u3 u4 v5_26 v6_27 u7 u8]) hP hD [0] [1, 2, 3, 4, 5, 6, 7, 8, 9, 10, 11, 12, 13, 14, 15] hC_ rfl (by decide +kernel) (by decide +kernel) hk1 hFc hP1 hD1
        refine pd_S hP hD [ob7_0_ xh xc u1 u2 u3 u4 v5_26 v6_27 u7 u8, ob0_0_ xc xn xk clo cro c4 c5 c6 c7 c8, ob3_0_ xn vp vn n1 n2 n3 n4 n5, aq_ cy 6 clo 12 (gf_ rl), ai_ cy (rl 0) 12 (Ml 0), ai_ cy (rl 1) 12 (Ml 1), ai_ cy (rl 2) 12 (Ml 2), ai_ cy (rl 3) 12 (Ml 3), ai_ cy (rl 4) 12 (Ml 4), ai_ cy (rl 5) 12 (Ml 5), ai_ cy (rl 6) 12 (Ml 6), ai_ cy (rl 7) 12 (Ml 7), ai_ cy (rl 8) 12 (Ml 8), ai_ cy (rl 9) 12 (Ml 9), ai_ cy (rl 10) 12 (Ml 10), ai_ cy (rl 11) 12 (Ml 11)] [15, 0, 1, 2, 3, 4, 5, 6, 7, 8, 9, 10, 11, 12, 13, 14] (by decide +kernel) rfl (fun hP hD => ?_)
        rw [hQ]
        exact W.vret hx hb hr (fun t ht hW => ⟨⟨(), rfl, trivial, v5_26, v6_27, (scn_to (leaf_end hs (by omega) hlt_ (hnt_leaf hh0_ (by omega)) g_28) (by rw [hK_])), by rw [ht]; exact hP, hD⟩, hS.F ht⟩) hS.2.2 dB_36_1_58.2.2.2.2
    · have t_2 : ¬ u6.toInt = ((-9) : Int32).toInt := fun h => c_2 (Int32.toInt_inj.mp h)
      rw [hQ]
      exact W.vret hx hb hr (fun t ht hW => ⟨⟨(), rfl, trivial, u5, u6, (by first | exact scn_skip hs (fun j h1 h2 => hnt_big hh (by omega) hnn_ (by omega) h1 h2) | exact scn_found hs (by omega)), by rw [ht]; exact hP, hD⟩, hS.F ht⟩) hS.2.2 dB_36_1_58.2.1.1.1

set_option maxHeartbeats 4000000 in
set_option maxRecDepth 100000 in
theorem c_X7_chooseForCut2_7 (l : Launch) (D : va_G) (cy : Nat → ClassId) (sz : Nat) (xh : Nat) (u1 : Int32) (u2 : Int32) (u3 : Int32) (u4 : Int32) (u5 : Int32) (u6 : Int32) (u7 : Int32) (u8 : Int32) (xc : Nat) (xk : Nat) (clo : Nat) (cro : Nat) (c4 : Nat) (c5 : Nat) (c6 : Nat) (c7 : Nat) (c8 : Nat) (xn : Nat) (n1 : Nat) (n2 : Nat) (n3 : Nat) (n4 : Nat) (n5 : Nat) (vp : Int32) (vn : Int32) (rl : Nat → Nat) (Ml : Nat → Nat → Int32) (a1 : Int32) (a2 : Int32) (a3 : Int32) (hvp : 0 ≤ vp.toInt ∧ vp.toInt ≤ 12) (q1 : -1 ≤ a1.toInt ∧ a1.toInt < 7) (hM : ∀ x y : Nat, x < vp.toNatClampNeg → y < vp.toNatClampNeg → 0 ≤ zM Ml x y ∧ zM Ml x y ≤ 80000000) (hA : 0 ≤ u3.toInt ∧ u3.toInt ≤ 1000000) (hh : hnt (zM Ml) vp.toNatClampNeg (a1.toInt + 1).toNat u1 u2 a2 a3.toInt) (hs : scn (qF (zM Ml) vp.toNatClampNeg u1 u2 u3.toInt) u4.toInt a2.toNatClampNeg u5 u6) : Met l yX7_chooseForCut wsX7_chooseForCut ({ frames := 8, cells := 0, slots := 0, locals := 190 }) (va_Pc [.ref xh, .int a1, .int a2, .int a3] (fun U => U.heap.size = sz ∧ va_P D vwCl [ob7_0_ xh xc u1 u2 u3 u4 u5 u6 u7 u8, ob0_0_ xc xn xk clo cro c4 c5 c6 c7 c8, ob3_0_ xn vp vn n1 n2 n3 n4 n5, aq_ cy 6 clo 12 (gf_ rl), ai_ cy (rl 0) 12 (Ml 0), ai_ cy (rl 1) 12 (Ml 1), ai_ cy (rl 2) 12 (Ml 2), ai_ cy (rl 3) 12 (Ml 3), ai_ cy (rl 4) 12 (Ml 4), ai_ cy (rl 5) 12 (Ml 5), ai_ cy (rl 6) 12 (Ml 6), ai_ cy (rl 7) 12 (Ml 7), ai_ cy (rl 8) 12 (Ml 8), ai_ cy (rl 9) 12 (Ml 9), ai_ cy (rl 10) 12 (Ml 10), ai_ cy (rl 11) 12 (Ml 11)] U.heap ∧ kg_ D cy U ∧ va_D (fun _ => True) [ob7_0_ xh xc u1 u2 u3 u4 u5 u6 u7 u8, ob0_0_ xc xn xk clo cro c4 c5 c6 c7 c8, ob3_0_ xn vp vn n1 n2 n3 n4 n5, aq_ cy 6 clo 12 (gf_ rl), ai_ cy (rl 0) 12 (Ml 0), ai_ cy (rl 1) 12 (Ml 1), ai_ cy (rl 2) 12 (Ml 2), ai_ cy (rl 3) 12 (Ml 3), ai_ cy (rl 4) 12 (Ml 4), ai_ cy (rl 5) 12 (Ml 5), ai_ cy (rl 6) 12 (Ml 6), ai_ cy (rl 7) 12 (Ml 7), ai_ cy (rl 8) 12 (Ml 8), ai_ cy (rl 9) 12 (Ml 9), ai_ cy (rl 10) 12 (Ml 10), ai_ cy (rl 11) 12 (Ml 11)])) (va_Qv (fun (_ : Unit) => True) (fun (_ : Unit) (t : State) => ∃ (v5 : Int32), ∃ (v6 : Int32), (scn (qF (zM Ml) vp.toNatClampNeg u1 u2 u3.toInt) u4.toInt (a2.toNatClampNeg + 2 ^ (a1.toInt + 1).toNat) v5 v6) ∧ va_P D vwCl [ob7_0_ xh xc u1 u2 u3 u4 v5 v6 u7 u8, ob0_0_ xc xn xk clo cro c4 c5 c6 c7 c8, ob3_0_ xn vp vn n1 n2 n3 n4 n5, aq_ cy 6 clo 12 (gf_ rl), ai_ cy (rl 0) 12 (Ml 0), ai_ cy (rl 1) 12 (Ml 1), ai_ cy (rl 2) 12 (Ml 2), ai_ cy (rl 3) 12 (Ml 3), ai_ cy (rl 4) 12 (Ml 4), ai_ cy (rl 5) 12 (Ml 5), ai_ cy (rl 6) 12 (Ml 6), ai_ cy (rl 7) 12 (Ml 7), ai_ cy (rl 8) 12 (Ml 8), ai_ cy (rl 9) 12 (Ml 9), ai_ cy (rl 10) 12 (Ml 10), ai_ cy (rl 11) 12 (Ml 11)] t.heap ∧ va_D (va_A [ob7_0_ xh xc u1 u2 u3 u4 u5 u6 u7 u8, ob0_0_ xc xn xk clo cro c4 c5 c6 c7 c8, ob3_0_ xn vp vn n1 n2 n3 n4 n5, aq_ cy 6 clo 12 (gf_ rl), ai_ cy (rl 0) 12 (Ml 0), ai_ cy (rl 1) 12 (Ml 1), ai_ cy (rl 2) 12 (Ml 2), ai_ cy (rl 3) 12 (Ml 3), ai_ cy (rl 4) 12 (Ml 4), ai_ cy (rl 5) 12 (Ml 5), ai_ cy (rl 6) 12 (Ml 6), ai_ cy (rl 7) 12 (Ml 7), ai_ cy (rl 8) 12 (Ml 8), ai_ cy (rl 9) 12 (Ml 9), ai_ cy (rl 10) 12 (Ml 10), ai_ cy (rl 11) 12 (Ml 11)] sz) [ob7_0_ xh xc u1 u2 u3 u4 v5 v6 u7 u8, ob0_0_ xc xn xk clo cro c4 c5 c6 c7 c8, ob3_0_ xn vp vn n1 n2 n3 n4 n5, aq_ cy 6 clo 12 (gf_ rl), ai_ cy (rl 0) 12 (Ml 0), ai_ cy (rl 1) 12 (Ml 1), ai_ cy (rl 2) 12 (Ml 2), ai_ cy (rl 3) 12 (Ml 3), ai_ cy (rl 4) 12 (Ml 4), ai_ cy (rl 5) 12 (Ml 5), ai_ cy (rl 6) 12 (Ml 6), ai_ cy (rl 7) 12 (Ml 7), ai_ cy (rl 8) 12 (Ml 8), ai_ cy (rl 9) 12 (Ml 9), ai_ cy (rl 10) 12 (Ml 10), ai_ cy (rl 11) 12 (Ml 11)]) (va_A [ob7_0_ xh xc u1 u2 u3 u4 u5 u6 u7 u8, ob0_0_ xc xn xk clo cro c4 c5 c6 c7 c8, ob3_0_ xn vp vn n1 n2 n3 n4 n5, aq_ cy 6 clo 12 (gf_ rl), ai_ cy (rl 0) 12 (Ml 0), ai_ cy (rl 1) 12 (Ml 1), ai_ cy (rl 2) 12 (Ml 2), ai_ cy (rl 3) 12 (Ml 3), ai_ cy (rl 4) 12 (Ml 4), ai_ cy (rl 5) 12 (Ml 5), ai_ cy (rl 6) 12 (Ml 6), ai_ cy (rl 7) 12 (Ml 7), ai_ cy (rl 8) 12 (Ml 8), ai_ cy (rl 9) 12 (Ml 9), ai_ cy (rl 10) 12 (Ml 10), ai_ cy (rl 11) 12 (Ml 11)] sz)) 0 0 (va_A [ob7_0_ xh xc u1 u2 u3 u4 u5 u6 u7 u8, ob0_0_ xc xn xk clo cro c4 c5 c6 c7 c8, ob3_0_ xn vp vn n1 n2 n3 n4 n5, aq_ cy 6 clo 12 (gf_ rl), ai_ cy (rl 0) 12 (Ml 0), ai_ cy (rl 1) 12 (Ml 1), ai_ cy (rl 2) 12 (Ml 2), ai_ cy (rl 3) 12 (Ml 3), ai_ cy (rl 4) 12 (Ml 4), ai_ cy (rl 5) 12 (Ml 5), ai_ cy (rl 6) 12 (Ml 6), ai_ cy (rl 7) 12 (Ml 7), ai_ cy (rl 8) 12 (Ml 8), ai_ cy (rl 9) 12 (Ml 9), ai_ cy (rl 10) 12 (Ml 10), ai_ cy (rl 11) 12 (Ml 11)] sz) := by
  refine ofQ (cc := cX7_chooseForCut) (maxL := 5) (ret := none) (by decide) rfl ?_
  intro p e s m args below meth c s₁ Q hQ B hml hv
  obtain ⟨rfl, hsz, hP, hK, hD0⟩ := hv
  have hG := hK.2
  have hK := hK.1
  have hx := B.exec
  have hb := B.bytes
  have hr := B.returns
  have hts := atoms_spec (ws := wsX7_chooseForCut) B.pre
  have hown : s.vm.findClass RX7 = some m.cls := by have h_ := findClass_of_methodNamed B.named; exact h_
  have hlocks := B.notSynchronized
  subst hsz
  have hD := hD0.self (sz := s.heap.size)
  generalize hAe : va_A [ob7_0_ xh xc u1 u2 u3 u4 u5 u6 u7 u8, ob0_0_ xc xn xk clo cro c4 c5 c6 c7 c8, ob3_0_ xn vp vn n1 n2 n3 n4 n5, aq_ cy 6 clo 12 (gf_ rl), ai_ cy (rl 0) 12 (Ml 0), ai_ cy (rl 1) 12 (Ml 1), ai_ cy (rl 2) 12 (Ml 2), ai_ cy (rl 3) 12 (Ml 3), ai_ cy (rl 4) 12 (Ml 4), ai_ cy (rl 5) 12 (Ml 5), ai_ cy (rl 6) 12 (Ml 6), ai_ cy (rl 7) 12 (Ml 7), ai_ cy (rl 8) 12 (Ml 8), ai_ cy (rl 9) 12 (Ml 9), ai_ cy (rl 10) 12 (Ml 10), ai_ cy (rl 11) 12 (Ml 11)] s.heap.size = A at hD hQ
  have hA : ∀ q : Nat, s.heap.size ≤ q → A q := fun q h => by rw [← hAe]; exact Or.inr h
  have hS : va_S A s.heap s.heap [] := va_S.rf
  have hl := lv_entry ([.ref xh, .int a1, .int a2, .int a3]) (n := 5) (Nat.le_of_ble_eq_true rfl)
  rw [lg_entry_eq]
  generalize (lg_sl ([.ref xh, .int a1, .int a2, .int a3]) ++ List.replicate (5 - (lg_sl ([.ref xh, .int a1, .int a2, .int a3])).length) Slot.unset).toArray = ls at hl ⊢
  have hl : lv_has ls 5 [(0, .ref xh), (1, .int a1), (2, .int a2), (3, .int a3)] := hl
  have zm9 : ((-9) : Int32).toInt = -9 := by decide
  have z0 : (0 : Int32).toInt = 0 := by decide
  have z1 : (1 : Int32).toInt = 1 := by decide
  have cv_ := clI (i := vp) (by omega)
  have hnn_ : ∀ x y : Nat, x < vp.toNatClampNeg → y < vp.toNatClampNeg → 0 ≤ zM Ml x y := fun x y hx hy => (hM x y hx hy).1
  have ha3_ := hnt_nn hh hnn_
  have hlt_ := hnt_lt hh (by omega)
  refine lv_iload_n hx hb dB_36_1_58.1.1.1.1 rfl (lv_at hl 3 rfl) ?_
  refine lv_aload_n hx hb dB_36_1_58.1.1.1.2 rfl (lv_at hl 0 rfl) ?_
  refine va_get (ci := 7) (v := .int u3) (C := RX7) (T := TX7) (N := 9) hx hb hts (fun _ h => List.mem_cons_of_mem _ (List.mem_append_left _ (List.mem_append_left _ (List.mem_append_right _ h)))) hown hK.1 hP 0 rfl rfl 3 (by decide) (hts (.fieldLink RX7 33 "CutAtlas$SetHunt" "aim" "I") (List.mem_of_getElem? (i := 1) rfl)) (fun _ h9 => h9) rfl dB_36_1_58.1.1.2.1 ?_
  refine lv_icmp_gt (tgt := 17) hx hb dB_36_1_58.1.1.2.2 (by decide) (fun c_1 => ?_) (fun c_1 => ?_)
  · have t_1 : u3.toInt < a3.toInt := Int32.lt_iff_toInt_lt.mp c_1
    rw [hQ]
    exact W.vret hx hb hr (fun t ht hW => ⟨⟨(), rfl, trivial, u5, u6, (by first | exact scn_skip hs (fun j h1 h2 => hnt_big hh (by omega) hnn_ (by omega) h1 h2) | exact scn_found hs (by omega)), by rw [ht]; exact hP, hD⟩, hS.F ht⟩) hS.2.2 dB_36_1_58.2.1.1.1
  · have t_1 : ¬ u3.toInt < a3.toInt := fun h => c_1 (Int32.lt_iff_toInt_lt.mpr h)
    refine lv_aload_n hx hb dB_36_1_58.1.2.1.1 rfl (lv_at hl 0 rfl) ?_
    refine va_get (ci := 7) (v := .int u6) (C := RX7) (T := TX7) (N := 9) hx hb hts (fun _ h => List.mem_cons_of_mem _ (List.mem_append_left _ (List.mem_append_left _ (List.mem_append_right _ h)))) hown hK.1 hP 0 rfl rfl 6 (by decide) (hts (.fieldLink RX7 24 "CutAtlas$SetHunt" "found" "I") (List.mem_of_getElem? (i := 2) rfl)) (fun _ h9 => h9) rfl dB_36_1_58.1.2.1.2 ?_
    refine lv_bipush (v := (-9)) hx hb dB_36_1_58.1.2.2.1 (by decide) ?_
    refine lv_icmp_eq (tgt := 18) hx hb dB_36_1_58.1.2.2.2 (by decide) (fun c_2 => ?_) (fun c_2 => ?_)
    · have t_2 : u6.toInt = ((-9) : Int32).toInt := congrArg Int32.toInt c_2
      refine lv_iload_n hx hb dB_36_1_58.2.1.1.2 rfl (lv_at hl 1 rfl) ?_
      refine lv_if_ge (tgt := 29) hx hb dB_36_1_58.2.1.2.1 (by decide) (fun c_3 => ?_) (fun c_3 => ?_)
      · have t_3 : (0 : Int32).toInt ≤ a1.toInt := Int32.le_iff_toInt_le.mp c_3
        have cp_ := clI (i := a1) (by omega)
        have hK_ : (a1.toInt + 1).toNat = a1.toNatClampNeg + 1 := by omega
        have hh1_ : hnt (zM Ml) vp.toNatClampNeg (a1.toNatClampNeg + 1) u1 u2 a2 a3.toInt := by rw [hK_] at hh; exact hh
        have hap_ : a1.toInt < vp.toInt := by have h_ := hh1_.1; omega
        refine lv_iconst (v := 1) hx hb dB_36_1_59.1.1.1.1 (by decide) ?_
        refine lv_iload_n hx hb dB_36_1_59.1.1.1.2 rfl (lv_at hl 1 rfl) ?_
        refine lv_ishl hx hb dB_36_1_59.1.1.2.1 ?_
        refine lv_topi (fun y_4 ey_4 => ?_)
        refine lv_istore (lv' := [(4, .int y_4), (0, .ref xh), (1, .int a1), (2, .int a2), (3, .int a3)]) hx hb dB_36_1_59.1.1.2.2 hl (by decide) rfl (fun ls hl => ?_)
        have JOIN_5 : ∀ (o5_5 : Int32) (o6_5 : Int32) (H : Heap) (locs : List Loc) (ls : Array Slot), (scn (qF (zM Ml) vp.toNatClampNeg u1 u2 u3.toInt) u4.toInt (a2.toNatClampNeg + 2 ^ a1.toNatClampNeg) o5_5 o6_5) → pd_2 D vwCl A [ob7_0_ xh xc u1 u2 u3 u4 o5_5 o6_5 u7 u8, ob0_0_ xc xn xk clo cro c4 c5 c6 c7 c8, ob3_0_ xn vp vn n1 n2 n3 n4 n5, aq_ cy 6 clo 12 (gf_ rl), ai_ cy (rl 0) 12 (Ml 0), ai_ cy (rl 1) 12 (Ml 1), ai_ cy (rl 2) 12 (Ml 2), ai_ cy (rl 3) 12 (Ml 3), ai_ cy (rl 4) 12 (Ml 4), ai_ cy (rl 5) 12 (Ml 5), ai_ cy (rl 6) 12 (Ml 6), ai_ cy (rl 7) 12 (Ml 7), ai_ cy (rl 8) 12 (Ml 8), ai_ cy (rl 9) 12 (Ml 9), ai_ cy (rl 10) 12 (Ml 10), ai_ cy (rl 11) 12 (Ml 11)] H → va_S A s.heap H locs → lv_has ls 5 [(4, .int y_4), (0, .ref xh), (1, .int a1), (2, .int a2), (3, .int a3)] → W p l e ({ frames := 8, cells := 0, slots := 0, locals := 190 } : Room) s m (([.ref xh, .int a1, .int a2, .int a3] : List Value).toArray) below meth c H locs 0 0 Q (F0 m 60 ls []) := by
          intro o5_5 o6_5 H locs ls v0_5 hPD hS hl; obtain ⟨hP, hD⟩ := hPD
          refine lv_aload_n hx hb dB_36_1_60.1.2.1.2 rfl (lv_at hl 1 rfl) ?_
          refine va_get (ci := 7) (v := .int u2) (C := RX7) (T := TX7) (N := 9) hx hb hts (fun _ h => List.mem_cons_of_mem _ (List.mem_append_left _ (List.mem_append_left _ (List.mem_append_right _ h)))) hown hK.1 hP 0 rfl rfl 2 (by decide) (hts (.fieldLink RX7 30 "CutAtlas$SetHunt" "mustNot" "I") (List.mem_of_getElem? (i := 4) rfl)) (fun _ h9 => h9) rfl dB_36_1_60.1.2.2.1 ?_
          refine lv_iload hx hb dB_36_1_60.1.2.2.2 (lv_at hl 0 rfl) ?_
          refine lv_iand hx hb dB_36_1_60.2.1.1.1 ?_
          refine lv_topi (fun y_6 ey_6 => ?_)
          have hnu_ := and_bit (mu := u2) (by omega) (by omega) ey_4 ey_6
          refine lv_if_ne (tgt := 89) hx hb dB_36_1_60.2.1.1.2 (by decide) (fun c_7 => ?_) (fun c_7 => ?_)
          · have t_7 : ¬ y_6.toInt = (0 : Int32).toInt := fun h => c_7 (Int32.toInt_inj.mp h)
            rw [hQ]
            exact W.vret hx hb hr (fun t ht hW => ⟨⟨(), rfl, trivial, o5_5, o6_5, (by first | exact scn_to (scn_skip v0_5 (fun j h1 h2 => hnt_nout hh1_ (by omega) (hnu_.2 (by omega)) h1 h2)) (by rw [pw_K hK_]; omega) | exact scn_to of_none (by rw [hKq_, hst_.1, pw_K hK_]; omega)), by rw [ht]; exact hP, hD⟩, hS.F ht⟩) hS.2.2 dB_36_1_61.2.2.2.2
          · have t_7 : y_6.toInt = (0 : Int32).toInt := congrArg Int32.toInt c_7
            refine lv_aload_n hx hb dB_36_1_60.2.1.2.1 rfl (lv_at hl 1 rfl) ?_
            refine lv_iload_n hx hb dB_36_1_60.2.1.2.2 rfl (lv_at hl 2 rfl) ?_
            refine lv_iconst (v := 1) hx hb dB_36_1_60.2.2.1.1 (by decide) ?_
            refine lv_isub hx hb dB_36_1_60.2.2.1.2 ?_
            refine lv_topi (fun y_8 ey_8 => ?_)
            have ty_8 : y_8.toInt = a1.toInt - (1 : Int32).toInt := by rw [ey_8]; exact subI (by omega) (by omega)
            refine lv_iload_n hx hb dB_36_1_60.2.2.2.1 rfl (lv_at hl 3 rfl) ?_
            refine lv_iload hx hb dB_36_1_60.2.2.2.2 (lv_at hl 0 rfl) ?_
            refine lv_ior hx hb dB_36_1_61.1.1.1 ?_
            refine lv_topi (fun y_9 ey_9 => ?_)
            have hst_ := hnt_set hh1_ (by omega) (by omega) ey_4 ey_9
            refine lv_iload_n hx hb dB_36_1_61.1.1.2 rfl (lv_at hl 4 rfl) ?_
            refine lv_aload_n hx hb dB_36_1_61.1.2.1 rfl (lv_at hl 1 rfl) ?_
            refine lv_iload_n hx hb dB_36_1_61.1.2.2 rfl (lv_at hl 2 rfl) ?_
            refine lv_iload_n hx hb dB_36_1_61.2.1.1 rfl (lv_at hl 3 rfl) ?_
            refine ct_R hP hD [ob7_0_ xh xc u1 u2 u3 u4 o5_5 o6_5 u7 u8, ob0_0_ xc xn xk clo cro c4 c5 c6 c7 c8, ob3_0_ xn vp vn n1 n2 n3 n4 n5, aq_ cy 6 clo 12 (gf_ rl), ai_ cy (rl 0) 12 (Ml 0), ai_ cy (rl 1) 12 (Ml 1), ai_ cy (rl 2) 12 (Ml 2), ai_ cy (rl 3) 12 (Ml 3), ai_ cy (rl 4) 12 (Ml 4), ai_ cy (rl 5) 12 (Ml 5), ai_ cy (rl 6) 12 (Ml 6), ai_ cy (rl 7) 12 (Ml 7), ai_ cy (rl 8) 12 (Ml 8), ai_ cy (rl 9) 12 (Ml 9), ai_ cy (rl 10) 12 (Ml 10), ai_ cy (rl 11) 12 (Ml 11)] [0, 1, 2, 3, 4, 5, 6, 7, 8, 9, 10, 11, 12, 13, 14, 15] (by decide +kernel) rfl (fun hPc hDw => ?_)
            have hFc := va_free (wc := []) hD hS hA [] rfl
            refine va_calli (va_runV (As := [.int a1, .int a2]) (rest := [.int a3, .int y_9, .int y_8, .ref xh]) ⟨hx, hb, hml, hown, hts⟩ (c_X7_letOut2 l D cy H.size xh u1 u2 u3 u4 o5_5 o6_5 u7 u8 xc xk clo cro c4 c5 c6 c7 c8 xn n1 n2 n3 n4 n5 vp vn rl Ml a1 a2 (by first | with_reducible assumption | omega | assumption) (by first | with_reducible assumption | omega | assumption) (by first | with_reducible assumption | assumption | omega)) (cwV 2 hts gX7_chooseForCut_X7_letOut rfl rfl rfl ⟨rfl, hd_X7_letOut⟩ ⟨Nat.le_of_ble_eq_true rfl, Nat.le_of_ble_eq_true rfl⟩) ⟨bl_g, va_recvX hK.1 hP (ci := 7) (q0 := 0) rfl rfl, fun U hU hW => ⟨rfl, by rw [hU], by rw [hU]; exact hPc, ⟨kk_mv hW hK, arrOfT_moved hW.alike hG⟩, hDw⟩⟩ rfl rfl hl.1 rfl (lv_room (Nat.le_of_ble_eq_true rfl)) dB_36_1_61.2.1.2 ⟨Nat.le_of_ble_eq_true rfl, Nat.le_of_ble_eq_true rfl⟩) hS (fun q _ h => hFc q h) hFc (fun r_10 u t H locs ht hvm hw hB hz1 hk1 hS => ?_)
            have hP : va_P D vwCl _ H := ro_keep hP hk1
            obtain ⟨f0_r_10, f1_r_10⟩ := hw
            refine lv_iadd hx hb dB_36_1_61.2.2.1 ?_
            refine lv_topi (fun y_11 ey_11 => ?_)
            have ty_11 : y_11.toInt = a3.toInt + r_10.toInt := by rw [ey_11]; exact addI (by omega) (by omega)
            have hKq_ : (y_8.toInt + 1).toNat = a1.toNatClampNeg := by omega
            have hrh_ : hnt (zM Ml) vp.toNatClampNeg (y_8.toInt + 1).toNat u1 u2 y_9 y_11.toInt := by rw [hKq_]; exact hnt_out hh1_ (by omega) (by omega) ey_4 ey_9 (hnu_.1 (by omega)) ty_11 f0_r_10
            have hrs_ : scn (qF (zM Ml) vp.toNatClampNeg u1 u2 u3.toInt) u4.toInt y_9.toNatClampNeg o5_5 o6_5 := scn_to v0_5 hst_.1.symm
            refine ct_S hP hD hS hA [ob7_0_ xh xc u1 u2 u3 u4 o5_5 o6_5 u7 u8, ob0_0_ xc xn xk clo cro c4 c5 c6 c7 c8, ob3_0_ xn vp vn n1 n2 n3 n4 n5, aq_ cy 6 clo 12 (gf_ rl), ai_ cy (rl 0) 12 (Ml 0), ai_ cy (rl 1) 12 (Ml 1), ai_ cy (rl 2) 12 (Ml 2), ai_ cy (rl 3) 12 (Ml 3), ai_ cy (rl 4) 12 (Ml 4), ai_ cy (rl 5) 12 (Ml 5), ai_ cy (rl 6) 12 (Ml 6), ai_ cy (rl 7) 12 (Ml 7), ai_ cy (rl 8) 12 (Ml 8), ai_ cy (rl 9) 12 (Ml 9), ai_ cy (rl 10) 12 (Ml 10), ai_ cy (rl 11) 12 (Ml 11)] [0, 1, 2, 3, 4, 5, 6, 7, 8, 9, 10, 11, 12, 13, 14, 15] (by decide +kernel) rfl (fun hPc hDw hFc hC_ => ?_)
            refine va_callv (va_runV (As := [.int y_8, .int y_9, .int y_11]) (rest := []) ⟨hx, hb, hml, hown, hts⟩ (c_X7_chooseForCut2_6 l D cy H.size xh u1 u2 u3 u4 o5_5 o6_5 u7 u8 xc xk clo cro c4 c5 c6 c7 c8 xn n1 n2 n3 n4 n5 vp vn rl Ml y_8 y_9 y_11 (by first | with_reducible assumption | omega | assumption) (by first | with_reducible assumption | omega | assumption) (by first | with_reducible assumption | assumption | omega) (by first | with_reducible assumption | omega | assumption) (by first | with_reducible assumption | assumption | omega) (by first | with_reducible assumption | assumption | omega)) (cwV 3 hts gX7_chooseForCut_X7_chooseForCut rfl rfl rfl ⟨rfl, hd_X7_chooseForCut⟩ ⟨Nat.le_of_ble_eq_true rfl, Nat.le_of_ble_eq_true rfl⟩) ⟨bl_g, va_recvX hK.1 hP (ci := 7) (q0 := 0) rfl rfl, fun U hU hW => ⟨rfl, by rw [hU], by rw [hU]; exact hPc, ⟨kk_mv hW hK, arrOfT_moved hW.alike hG⟩, hDw⟩⟩ rfl rfl hl.1 rfl (lv_room (Nat.le_of_ble_eq_true rfl)) dB_36_1_61.2.2.2.1 ⟨Nat.le_of_ble_eq_true rfl, Nat.le_of_ble_eq_true rfl⟩) hS (fun q _ h => hFc q h) hFc (fun u t H locs ht hvm hw hB hz1 hk1 hS => ?_)
            obtain ⟨v5_13, v6_14, g_15, hP1, hD1⟩ := hB
            rw [ht] at hP1
            obtain ⟨hP, hD⟩ := va_join (wr := []) (w1 := [ob7_0_ xh xc u1 u2 u3 u4 v5_13 v6_14 u7 u8, ob0_0_ xc xn xk clo cro c4 c5 c6 c7 c8, ob3_0_ xn vp vn n1 n2 n3 n4 n5, aq_ cy 6 clo 12 (gf_ rl), ai_ cy (rl 0) 12 (Ml 0), ai_ cy (rl 1) 12 (Ml 1), ai_ cy (rl 2) 12 (Ml 2), ai_ cy (rl 3) 12 (Ml 3), ai_ cy (rl 4) 12 (Ml 4), ai_ cy (rl 5) 12 (Ml 5), ai_ cy (rl 6) 12 (Ml 6), ai_ cy (rl 7) 12 (Ml 7), ai_ cy (rl 8) 12 (Ml 8), ai_ cy (rl 9) 12 (Ml 9), ai_ cy (rl 10) 12 (Ml 10), ai_ cy (rl 11) 12 (Ml 11)]) hP hD [0, 1, 2, 3, 4, 5, 6, 7, 8, 9, 10, 11, 12, 13, 14, 15] [] hC_ rfl (by decide) (by decide) hk1 hFc hP1 hD1
            refine pd_K [ob7_0_ xh xc u1 u2 u3 u4 v5_13 v6_14 u7 u8, ob0_0_ xc xn xk clo cro c4 c5 c6 c7 c8, ob3_0_ xn vp vn n1 n2 n3 n4 n5, aq_ cy 6 clo 12 (gf_ rl), ai_ cy (rl 0) 12 (Ml 0), ai_ cy (rl 1) 12 (Ml 1), ai_ cy (rl 2) 12 (Ml 2), ai_ cy (rl 3) 12 (Ml 3), ai_ cy (rl 4) 12 (Ml 4), ai_ cy (rl 5) 12 (Ml 5), ai_ cy (rl 6) 12 (Ml 6), ai_ cy (rl 7) 12 (Ml 7), ai_ cy (rl 8) 12 (Ml 8), ai_ cy (rl 9) 12 (Ml 9), ai_ cy (rl 10) 12 (Ml 10), ai_ cy (rl 11) 12 (Ml 11)] hP hD (fun hP hD => ?_)
            rw [hQ]
            exact W.vret hx hb hr (fun t ht hW => ⟨⟨(), rfl, trivial, v5_13, v6_14, (by first | exact scn_to (scn_skip v0_5 (fun j h1 h2 => hnt_nout hh1_ (by omega) (hnu_.2 (by omega)) h1 h2)) (by rw [pw_K hK_]; omega) | exact scn_to g_15 (by rw [hKq_, hst_.1, pw_K hK_]; omega)), by rw [ht]; exact hP, hD⟩, hS.F ht⟩) hS.2.2 dB_36_1_61.2.2.2.2
        refine lv_aload_n hx hb dB_36_1_59.1.2.1.1 rfl (lv_at hl 1 rfl) ?_
        refine va_get (ci := 7) (v := .int u1) (C := RX7) (T := TX7) (N := 9) hx hb hts (fun _ h => List.mem_cons_of_mem _ (List.mem_append_left _ (List.mem_append_left _ (List.mem_append_right _ h)))) hown hK.1 hP 0 rfl rfl 1 (by decide) (hts (.fieldLink RX7 27 "CutAtlas$SetHunt" "must" "I") (List.mem_of_getElem? (i := 3) rfl)) (fun _ h9 => h9) rfl dB_36_1_59.1.2.1.2 ?_
        refine lv_iload hx hb dB_36_1_59.1.2.2.1 (lv_at hl 0 rfl) ?_
        refine lv_iand hx hb dB_36_1_59.1.2.2.2 ?_
        refine lv_topi (fun y_16 ey_16 => ?_)
        have hmu_ := and_bit (mu := u1) (by omega) (by omega) ey_4 ey_16
        refine lv_if_ne (tgt := 60) hx hb dB_36_1_59.2.1.1.1 (by decide) (fun c_17 => ?_) (fun c_17 => ?_)
        · have t_17 : ¬ y_16.toInt = (0 : Int32).toInt := fun h => c_17 (Int32.toInt_inj.mp h)
          exact JOIN_5 u5 u6 _ _ _ (by first | exact scn_skip hs (fun j h1 h2 => hnt_nin hh1_ (by omega) (hmu_.2 (by omega)) h1 h2) | exact scn_to of_none (by rw [hKr_])) ⟨hP, hD⟩ hS (lv_sub hl [0, 1, 2, 3, 4] rfl)
        · have t_17 : y_16.toInt = (0 : Int32).toInt := congrArg Int32.toInt c_17
          refine lv_aload_n hx hb dB_36_1_59.2.1.1.2 rfl (lv_at hl 1 rfl) ?_
          refine lv_iload_n hx hb dB_36_1_59.2.1.2.1 rfl (lv_at hl 2 rfl) ?_
          refine lv_iconst (v := 1) hx hb dB_36_1_59.2.1.2.2 (by decide) ?_
          refine lv_isub hx hb dB_36_1_59.2.2.1.1 ?_
          refine lv_topi (fun y_18 ey_18 => ?_)
          have ty_18 : y_18.toInt = a1.toInt - (1 : Int32).toInt := by rw [ey_18]; exact subI (by omega) (by omega)
          refine lv_iload_n hx hb dB_36_1_59.2.2.1.2 rfl (lv_at hl 3 rfl) ?_
          refine lv_iload_n hx hb dB_36_1_59.2.2.2.1 rfl (lv_at hl 4 rfl) ?_
          refine lv_aload_n hx hb dB_36_1_59.2.2.2.2 rfl (lv_at hl 1 rfl) ?_
          refine lv_iload_n hx hb dB_36_1_60.1.1.1.1 rfl (lv_at hl 2 rfl) ?_
          refine lv_iload_n hx hb dB_36_1_60.1.1.1.2 rfl (lv_at hl 3 rfl) ?_
          refine ct_R hP hD [ob7_0_ xh xc u1 u2 u3 u4 u5 u6 u7 u8, ob0_0_ xc xn xk clo cro c4 c5 c6 c7 c8, ob3_0_ xn vp vn n1 n2 n3 n4 n5, aq_ cy 6 clo 12 (gf_ rl), ai_ cy (rl 0) 12 (Ml 0), ai_ cy (rl 1) 12 (Ml 1), ai_ cy (rl 2) 12 (Ml 2), ai_ cy (rl 3) 12 (Ml 3), ai_ cy (rl 4) 12 (Ml 4), ai_ cy (rl 5) 12 (Ml 5), ai_ cy (rl 6) 12 (Ml 6), ai_ cy (rl 7) 12 (Ml 7), ai_ cy (rl 8) 12 (Ml 8), ai_ cy (rl 9) 12 (Ml 9), ai_ cy (rl 10) 12 (Ml 10), ai_ cy (rl 11) 12 (Ml 11)] [0, 1, 2, 3, 4, 5, 6, 7, 8, 9, 10, 11, 12, 13, 14, 15] (by decide +kernel) rfl (fun hPc hDw => ?_)
          have hFc := va_free (wc := []) hD hS hA [] rfl
          refine va_calli (va_runV (As := [.int a1, .int a2]) (rest := [.int a3, .int a2, .int y_18, .ref xh]) ⟨hx, hb, hml, hown, hts⟩ (c_X7_letIn2 l D cy s.heap.size xh u1 u2 u3 u4 u5 u6 u7 u8 xc xk clo cro c4 c5 c6 c7 c8 xn n1 n2 n3 n4 n5 vp vn rl Ml a1 a2 (by first | with_reducible assumption | omega | assumption) (by first | with_reducible assumption | omega | assumption) (by first | with_reducible assumption | assumption | omega)) (cwV 2 hts gX7_chooseForCut_X7_letIn rfl rfl rfl ⟨rfl, hd_X7_letIn⟩ ⟨Nat.le_of_ble_eq_true rfl, Nat.le_of_ble_eq_true rfl⟩) ⟨bl_g, va_recvX hK.1 hP (ci := 7) (q0 := 0) rfl rfl, fun U hU hW => ⟨rfl, by rw [hU], by rw [hU]; exact hPc, ⟨kk_mv hW hK, arrOfT_moved hW.alike hG⟩, hDw⟩⟩ rfl rfl hl.1 rfl (lv_room (Nat.le_of_ble_eq_true rfl)) dB_36_1_60.1.1.2.1 ⟨Nat.le_of_ble_eq_true rfl, Nat.le_of_ble_eq_true rfl⟩) hS (fun q _ h => hFc q h) hFc (fun r_19 u t H locs ht hvm hw hB hz1 hk1 hS => ?_)
          have hP : va_P D vwCl _ H := ro_keep hP hk1
          obtain ⟨f0_r_19, f1_r_19⟩ := hw
          refine lv_iadd hx hb dB_36_1_60.1.1.2.2 ?_
          refine lv_topi (fun y_20 ey_20 => ?_)
          have ty_20 : y_20.toInt = a3.toInt + r_19.toInt := by rw [ey_20]; exact addI (by omega) (by omega)
          have hKr_ : (y_18.toInt + 1).toNat = a1.toNatClampNeg := by omega
          have hrh_ : hnt (zM Ml) vp.toNatClampNeg (y_18.toInt + 1).toNat u1 u2 a2 y_20.toInt := by rw [hKr_]; exact hnt_in hh1_ (hmu_.1 (by omega)) ty_20 f0_r_19
          refine ct_S hP hD hS hA [ob7_0_ xh xc u1 u2 u3 u4 u5 u6 u7 u8, ob0_0_ xc xn xk clo cro c4 c5 c6 c7 c8, ob3_0_ xn vp vn n1 n2 n3 n4 n5, aq_ cy 6 clo 12 (gf_ rl), ai_ cy (rl 0) 12 (Ml 0), ai_ cy (rl 1) 12 (Ml 1), ai_ cy (rl 2) 12 (Ml 2), ai_ cy (rl 3) 12 (Ml 3), ai_ cy (rl 4) 12 (Ml 4), ai_ cy (rl 5) 12 (Ml 5), ai_ cy (rl 6) 12 (Ml 6), ai_ cy (rl 7) 12 (Ml 7), ai_ cy (rl 8) 12 (Ml 8), ai_ cy (rl 9) 12 (Ml 9), ai_ cy (rl 10) 12 (Ml 10), ai_ cy (rl 11) 12 (Ml 11)] [0, 1, 2, 3, 4, 5, 6, 7, 8, 9, 10, 11, 12, 13, 14, 15] (by decide +kernel) rfl (fun hPc hDw hFc hC_ => ?_)
          refine va_callv (va_runV (As := [.int y_18, .int a2, .int y_20]) (rest := []) ⟨hx, hb, hml, hown, hts⟩ (c_X7_chooseForCut2_6 l D cy H.size xh u1 u2 u3 u4 u5 u6 u7 u8 xc xk clo cro c4 c5 c6 c7 c8 xn n1 n2 n3 n4 n5 vp vn rl Ml y_18 a2 y_20 (by first | with_reducible assumption | omega | assumption) (by first | with_reducible assumption | omega | assumption) (by first | with_reducible assumption | assumption | omega) (by first | with_reducible assumption | omega | assumption) (by first | with_reducible assumption | assumption | omega) (by first | with_reducible assumption | assumption | omega)) (cwV 3 hts gX7_chooseForCut_X7_chooseForCut rfl rfl rfl ⟨rfl, hd_X7_chooseForCut⟩ ⟨Nat.le_of_ble_eq_true rfl, Nat.le_of_ble_eq_true rfl⟩) ⟨bl_g, va_recvX hK.1 hP (ci := 7) (q0 := 0) rfl rfl, fun U hU hW => ⟨rfl, by rw [hU], by rw [hU]; exact hPc, ⟨kk_mv hW hK, arrOfT_moved hW.alike hG⟩, hDw⟩⟩ rfl rfl hl.1 rfl (lv_room (Nat.le_of_ble_eq_true rfl)) dB_36_1_60.1.2.1.1 ⟨Nat.le_of_ble_eq_true rfl, Nat.le_of_ble_eq_true rfl⟩) hS (fun q _ h => hFc q h) hFc (fun u t H locs ht hvm hw hB hz1 hk1 hS => ?_)
          obtain ⟨v5_22, v6_23, g_24, hP1, hD1⟩ := hB
          rw [ht] at hP1
          obtain ⟨hP, hD⟩ := va_join (wr := []) (w1 := [ob7_0_ xh xc u1 u2 u3 u4 v5_22 v6_23 u7 u8, ob0_0_ xc xn xk clo cro c4 c5 c6 c7 c8, ob3_0_ xn vp vn n1 n2 n3 n4 n5, aq_ cy 6 clo 12 (gf_ rl), ai_ cy (rl 0) 12 (Ml 0), ai_ cy (rl 1) 12 (Ml 1), ai_ cy (rl 2) 12 (Ml 2), ai_ cy (rl 3) 12 (Ml 3), ai_ cy (rl 4) 12 (Ml 4), ai_ cy (rl 5) 12 (Ml 5), ai_ cy (rl 6) 12 (Ml 6), ai_ cy (rl 7) 12 (Ml 7), ai_ cy (rl 8) 12 (Ml 8), ai_ cy (rl 9) 12 (Ml 9), ai_ cy (rl 10) 12 (Ml 10), ai_ cy (rl 11) 12 (Ml 11)]) hP hD [0, 1, 2, 3, 4, 5, 6, 7, 8, 9, 10, 11, 12, 13, 14, 15] [] hC_ rfl (by decide) (by decide) hk1 hFc hP1 hD1
          refine pd_K [ob7_0_ xh xc u1 u2 u3 u4 v5_22 v6_23 u7 u8, ob0_0_ xc xn xk clo cro c4 c5 c6 c7 c8, ob3_0_ xn vp vn n1 n2 n3 n4 n5, aq_ cy 6 clo 12 (gf_ rl), ai_ cy (rl 0) 12 (Ml 0), ai_ cy (rl 1) 12 (Ml 1), ai_ cy (rl 2) 12 (Ml 2), ai_ cy (rl 3) 12 (Ml 3), ai_ cy (rl 4) 12 (Ml 4), ai_ cy (rl 5) 12 (Ml 5), ai_ cy (rl 6) 12 (Ml 6), ai_ cy (rl 7) 12 (Ml 7), ai_ cy (rl 8) 12 (Ml 8), ai_ cy (rl 9) 12 (Ml 9), ai_ cy (rl 10) 12 (Ml 10), ai_ cy (rl 11) 12 (Ml 11)] hP hD (fun hP hD => ?_)
          exact JOIN_5 v5_22 v6_23 _ _ _ (by first | exact scn_skip hs (fun j h1 h2 => hnt_nin hh1_ (by omega) (hmu_.2 (by omega)) h1 h2) | exact scn_to g_24 (by rw [hKr_])) ⟨hP, hD⟩ hS (lv_sub hl [0, 1, 2, 3, 4] rfl)
      · have t_3 : ¬ (0 : Int32).toInt ≤ a1.toInt := fun h => c_3 (Int32.le_iff_toInt_le.mpr h)
        have hK_ : (a1.toInt + 1).toNat = 0 := by omega
        have hh0_ : hnt (zM Ml) vp.toNatClampNeg 0 u1 u2 a2 a3.toInt := by rw [hK_] at hh; exact hh
        have hsn_ := scn_not hs (by omega) (by omega)
        have hcb_ := cnQ_nn (p := qF (zM Ml) vp.toNatClampNeg u1 u2 u3.toInt) (k := a2.toNatClampNeg)
        refine lv_aload_n hx hb dB_36_1_58.2.1.2.2 rfl (lv_at hl 0 rfl) ?_
        refine lv_iload_n hx hb dB_36_1_58.2.2.1.1 rfl (lv_at hl 2 rfl) ?_
        refine lv_iload_n hx hb dB_36_1_58.2.2.1.2 rfl (lv_at hl 3 rfl) ?_
        refine ct_S hP hD hS hA [ob7_0_ xh xc u1 u2 u3 u4 u5 u6 u7 u8] [0] (by decide) rfl (fun hPc hDw hFc hC_ => ?_)
        refine va_callv (va_runV (As := [.int a2, .int a3]) (rest := []) ⟨hx, hb, hml, hown, hts⟩ (c_X7_meet2 l D cy s.heap.size xh u1 u2 u3 u4 u5 u6 u7 u8 xc a2 a3 (by first | with_reducible assumption | omega | assumption)) (cwV 2 hts gX7_chooseForCut_X7_meet rfl rfl rfl ⟨rfl, hd_X7_meet⟩ ⟨Nat.le_of_ble_eq_true rfl, Nat.le_of_ble_eq_true rfl⟩) ⟨bl_, va_recvX hK.1 hP (ci := 7) (q0 := 0) rfl rfl, fun U hU hW => ⟨rfl, by rw [hU], by rw [hU]; exact hPc, kk_mv hW hK, hDw⟩⟩ rfl rfl hl.1 rfl (lv_room (Nat.le_of_ble_eq_true rfl)) dB_36_1_58.2.2.2.1 ⟨Nat.le_of_ble_eq_true rfl, Nat.le_of_ble_eq_true rfl⟩) hS (fun q _ h => hFc q h) hFc (fun u t H locs ht hvm hw hB hz1 hk1 hS => ?_)
        obtain ⟨v5_26, v6_27, g_28, hP1, hD1⟩ := hB
        rw [ht] at hP1
        obtain ⟨hP, hD⟩ := va_join (wr := [ob0_0_ xc xn xk clo cro c4 c5 c6 c7 c8, ob3_0_ xn vp vn n1 n2 n3 n4 n5, aq_ cy 6 clo 12 (gf_ rl), ai_ cy (rl 0) 12 (Ml 0), ai_ cy (rl 1) 12 (Ml 1), ai_ cy (rl 2) 12 (Ml 2), ai_ cy (rl 3) 12 (Ml 3), ai_ cy (rl 4) 12 (Ml 4), ai_ cy (rl 5) 12 (Ml 5), ai_ cy (rl 6) 12 (Ml 6), ai_ cy (rl 7) 12 (Ml 7), ai_ cy (rl 8) 12 (Ml 8), ai_ cy (rl 9) 12 (Ml 9), ai_ cy (rl 10) 12 (Ml 10), ai_ cy (rl 11) 12 (Ml 11)]) (w1 := [ob7_0_ xh xc u1 u2 u3 u4 v5_26 v6_27 u7 u8]) hP hD [0] [1, 2, 3, 4, 5, 6, 7, 8, 9, 10, 11, 12, 13, 14, 15] hC_ rfl (by decide +kernel) (by decide +kernel) hk1 hFc hP1 hD1
        refine pd_S hP hD [ob7_0_ xh xc u1 u2 u3 u4 v5_26 v6_27 u7 u8, ob0_0_ xc xn xk clo cro c4 c5 c6 c7 c8, ob3_0_ xn vp vn n1 n2 n3 n4 n5, aq_ cy 6 clo 12 (gf_ rl), ai_ cy (rl 0) 12 (Ml 0), ai_ cy (rl 1) 12 (Ml 1), ai_ cy (rl 2) 12 (Ml 2), ai_ cy (rl 3) 12 (Ml 3), ai_ cy (rl 4) 12 (Ml 4), ai_ cy (rl 5) 12 (Ml 5), ai_ cy (rl 6) 12 (Ml 6), ai_ cy (rl 7) 12 (Ml 7), ai_ cy (rl 8) 12 (Ml 8), ai_ cy (rl 9) 12 (Ml 9), ai_ cy (rl 10) 12 (Ml 10), ai_ cy (rl 11) 12 (Ml 11)] [15, 0, 1, 2, 3, 4, 5, 6, 7, 8, 9, 10, 11, 12, 13, 14] (by decide +kernel) rfl (fun hP hD => ?_)
        rw [hQ]
        exact W.vret hx hb hr (fun t ht hW => ⟨⟨(), rfl, trivial, v5_26, v6_27, (scn_to (leaf_end hs (by omega) hlt_ (hnt_leaf hh0_ (by omega)) g_28) (by rw [hK_])), by rw [ht]; exact hP, hD⟩, hS.F ht⟩) hS.2.2 dB_36_1_58.2.2.2.2
    · have t_2 : ¬ u6.toInt = ((-9) : Int32).toInt := fun h => c_2 (Int32.toInt_inj.mp h)
      rw [hQ]
      exact W.vret hx hb hr (fun t ht hW => ⟨⟨(), rfl, trivial, u5, u6, (by first | exact scn_skip hs (fun j h1 h2 => hnt_big hh (by omega) hnn_ (by omega) h1 h2) | exact scn_found hs (by omega)), by rw [ht]; exact hP, hD⟩, hS.F ht⟩) hS.2.2 dB_36_1_58.2.1.1.1

set_option maxHeartbeats 4000000 in
set_option maxRecDepth 100000 in
theorem c_X7_chooseForCut2_8 (l : Launch) (D : va_G) (cy : Nat → ClassId) (sz : Nat) (xh : Nat) (u1 : Int32) (u2 : Int32) (u3 : Int32) (u4 : Int32) (u5 : Int32) (u6 : Int32) (u7 : Int32) (u8 : Int32) (xc : Nat) (xk : Nat) (clo : Nat) (cro : Nat) (c4 : Nat) (c5 : Nat) (c6 : Nat) (c7 : Nat) (c8 : Nat) (xn : Nat) (n1 : Nat) (n2 : Nat) (n3 : Nat) (n4 : Nat) (n5 : Nat) (vp : Int32) (vn : Int32) (rl : Nat → Nat) (Ml : Nat → Nat → Int32) (a1 : Int32) (a2 : Int32) (a3 : Int32) (hvp : 0 ≤ vp.toInt ∧ vp.toInt ≤ 12) (q1 : -1 ≤ a1.toInt ∧ a1.toInt < 8) (hM : ∀ x y : Nat, x < vp.toNatClampNeg → y < vp.toNatClampNeg → 0 ≤ zM Ml x y ∧ zM Ml x y ≤ 80000000) (hA : 0 ≤ u3.toInt ∧ u3.toInt ≤ 1000000) (hh : hnt (zM Ml) vp.toNatClampNeg (a1.toInt + 1).toNat u1 u2 a2 a3.toInt) (hs : scn (qF (zM Ml) vp.toNatClampNeg u1 u2 u3.toInt) u4.toInt a2.toNatClampNeg u5 u6) : Met l yX7_chooseForCut wsX7_chooseForCut ({ frames := 9, cells := 0, slots := 0, locals := 214 }) (va_Pc [.ref xh, .int a1, .int a2, .int a3] (fun U => U.heap.size = sz ∧ va_P D vwCl [ob7_0_ xh xc u1 u2 u3 u4 u5 u6 u7 u8, ob0_0_ xc xn xk clo cro c4 c5 c6 c7 c8, ob3_0_ xn vp vn n1 n2 n3 n4 n5, aq_ cy 6 clo 12 (gf_ rl), ai_ cy (rl 0) 12 (Ml 0), ai_ cy (rl 1) 12 (Ml 1), ai_ cy (rl 2) 12 (Ml 2), ai_ cy (rl 3) 12 (Ml 3), ai_ cy (rl 4) 12 (Ml 4), ai_ cy (rl 5) 12 (Ml 5), ai_ cy (rl 6) 12 (Ml 6), ai_ cy (rl 7) 12 (Ml 7), ai_ cy (rl 8) 12 (Ml 8), ai_ cy (rl 9) 12 (Ml 9), ai_ cy (rl 10) 12 (Ml 10), ai_ cy (rl 11) 12 (Ml 11)] U.heap ∧ kg_ D cy U ∧ va_D (fun _ => True) [ob7_0_ xh xc u1 u2 u3 u4 u5 u6 u7 u8, ob0_0_ xc xn xk clo cro c4 c5 c6 c7 c8, ob3_0_ xn vp vn n1 n2 n3 n4 n5, aq_ cy 6 clo 12 (gf_ rl), ai_ cy (rl 0) 12 (Ml 0), ai_ cy (rl 1) 12 (Ml 1), ai_ cy (rl 2) 12 (Ml 2), ai_ cy (rl 3) 12 (Ml 3), ai_ cy (rl 4) 12 (Ml 4), ai_ cy (rl 5) 12 (Ml 5), ai_ cy (rl 6) 12 (Ml 6), ai_ cy (rl 7) 12 (Ml 7), ai_ cy (rl 8) 12 (Ml 8), ai_ cy (rl 9) 12 (Ml 9), ai_ cy (rl 10) 12 (Ml 10), ai_ cy (rl 11) 12 (Ml 11)])) (va_Qv (fun (_ : Unit) => True) (fun (_ : Unit) (t : State) => ∃ (v5 : Int32), ∃ (v6 : Int32), (scn (qF (zM Ml) vp.toNatClampNeg u1 u2 u3.toInt) u4.toInt (a2.toNatClampNeg + 2 ^ (a1.toInt + 1).toNat) v5 v6) ∧ va_P D vwCl [ob7_0_ xh xc u1 u2 u3 u4 v5 v6 u7 u8, ob0_0_ xc xn xk clo cro c4 c5 c6 c7 c8, ob3_0_ xn vp vn n1 n2 n3 n4 n5, aq_ cy 6 clo 12 (gf_ rl), ai_ cy (rl 0) 12 (Ml 0), ai_ cy (rl 1) 12 (Ml 1), ai_ cy (rl 2) 12 (Ml 2), ai_ cy (rl 3) 12 (Ml 3), ai_ cy (rl 4) 12 (Ml 4), ai_ cy (rl 5) 12 (Ml 5), ai_ cy (rl 6) 12 (Ml 6), ai_ cy (rl 7) 12 (Ml 7), ai_ cy (rl 8) 12 (Ml 8), ai_ cy (rl 9) 12 (Ml 9), ai_ cy (rl 10) 12 (Ml 10), ai_ cy (rl 11) 12 (Ml 11)] t.heap ∧ va_D (va_A [ob7_0_ xh xc u1 u2 u3 u4 u5 u6 u7 u8, ob0_0_ xc xn xk clo cro c4 c5 c6 c7 c8, ob3_0_ xn vp vn n1 n2 n3 n4 n5, aq_ cy 6 clo 12 (gf_ rl), ai_ cy (rl 0) 12 (Ml 0), ai_ cy (rl 1) 12 (Ml 1), ai_ cy (rl 2) 12 (Ml 2), ai_ cy (rl 3) 12 (Ml 3), ai_ cy (rl 4) 12 (Ml 4), ai_ cy (rl 5) 12 (Ml 5), ai_ cy (rl 6) 12 (Ml 6), ai_ cy (rl 7) 12 (Ml 7), ai_ cy (rl 8) 12 (Ml 8), ai_ cy (rl 9) 12 (Ml 9), ai_ cy (rl 10) 12 (Ml 10), ai_ cy (rl 11) 12 (Ml 11)] sz) [ob7_0_ xh xc u1 u2 u3 u4 v5 v6 u7 u8, ob0_0_ xc xn xk clo cro c4 c5 c6 c7 c8, ob3_0_ xn vp vn n1 n2 n3 n4 n5, aq_ cy 6 clo 12 (gf_ rl), ai_ cy (rl 0) 12 (Ml 0), ai_ cy (rl 1) 12 (Ml 1), ai_ cy (rl 2) 12 (Ml 2), ai_ cy (rl 3) 12 (Ml 3), ai_ cy (rl 4) 12 (Ml 4), ai_ cy (rl 5) 12 (Ml 5), ai_ cy (rl 6) 12 (Ml 6), ai_ cy (rl 7) 12 (Ml 7), ai_ cy (rl 8) 12 (Ml 8), ai_ cy (rl 9) 12 (Ml 9), ai_ cy (rl 10) 12 (Ml 10), ai_ cy (rl 11) 12 (Ml 11)]) (va_A [ob7_0_ xh xc u1 u2 u3 u4 u5 u6 u7 u8, ob0_0_ xc xn xk clo cro c4 c5 c6 c7 c8, ob3_0_ xn vp vn n1 n2 n3 n4 n5, aq_ cy 6 clo 12 (gf_ rl), ai_ cy (rl 0) 12 (Ml 0), ai_ cy (rl 1) 12 (Ml 1), ai_ cy (rl 2) 12 (Ml 2), ai_ cy (rl 3) 12 (Ml 3), ai_ cy (rl 4) 12 (Ml 4), ai_ cy (rl 5) 12 (Ml 5), ai_ cy (rl 6) 12 (Ml 6), ai_ cy (rl 7) 12 (Ml 7), ai_ cy (rl 8) 12 (Ml 8), ai_ cy (rl 9) 12 (Ml 9), ai_ cy (rl 10) 12 (Ml 10), ai_ cy (rl 11) 12 (Ml 11)] sz)) 0 0 (va_A [ob7_0_ xh xc u1 u2 u3 u4 u5 u6 u7 u8, ob0_0_ xc xn xk clo cro c4 c5 c6 c7 c8, ob3_0_ xn vp vn n1 n2 n3 n4 n5, aq_ cy 6 clo 12 (gf_ rl), ai_ cy (rl 0) 12 (Ml 0), ai_ cy (rl 1) 12 (Ml 1), ai_ cy (rl 2) 12 (Ml 2), ai_ cy (rl 3) 12 (Ml 3), ai_ cy (rl 4) 12 (Ml 4), ai_ cy (rl 5) 12 (Ml 5), ai_ cy (rl 6) 12 (Ml 6), ai_ cy (rl 7) 12 (Ml 7), ai_ cy (rl 8) 12 (Ml 8), ai_ cy (rl 9) 12 (Ml 9), ai_ cy (rl 10) 12 (Ml 10), ai_ cy (rl 11) 12 (Ml 11)] sz) := by
  refine ofQ (cc := cX7_chooseForCut) (maxL := 5) (ret := none) (by decide) rfl ?_
  intro p e s m args below meth c s₁ Q hQ B hml hv
  obtain ⟨rfl, hsz, hP, hK, hD0⟩ := hv
  have hG := hK.2
  have hK := hK.1
  have hx := B.exec
  have hb := B.bytes
  have hr := B.returns
  have hts := atoms_spec (ws := wsX7_chooseForCut) B.pre
  have hown : s.vm.findClass RX7 = some m.cls := by have h_ := findClass_of_methodNamed B.named; exact h_
  have hlocks := B.notSynchronized
  subst hsz
  have hD := hD0.self (sz := s.heap.size)
  generalize hAe : va_A [ob7_0_ xh xc u1 u2 u3 u4 u5 u6 u7 u8, ob0_0_ xc xn xk clo cro c4 c5 c6 c7 c8, ob3_0_ xn vp vn n1 n2 n3 n4 n5, aq_ cy 6 clo 12 (gf_ rl), ai_ cy (rl 0) 12 (Ml 0), ai_ cy (rl 1) 12 (Ml 1), ai_ cy (rl 2) 12 (Ml 2), ai_ cy (rl 3) 12 (Ml 3), ai_ cy (rl 4) 12 (Ml 4), ai_ cy (rl 5) 12 (Ml 5), ai_ cy (rl 6) 12 (Ml 6), ai_ cy (rl 7) 12 (Ml 7), ai_ cy (rl 8) 12 (Ml 8), ai_ cy (rl 9) 12 (Ml 9), ai_ cy (rl 10) 12 (Ml 10), ai_ cy (rl 11) 12 (Ml 11)] s.heap.size = A at hD hQ
  have hA : ∀ q : Nat, s.heap.size ≤ q → A q := fun q h => by rw [← hAe]; exact Or.inr h
  have hS : va_S A s.heap s.heap [] := va_S.rf
  have hl := lv_entry ([.ref xh, .int a1, .int a2, .int a3]) (n := 5) (Nat.le_of_ble_eq_true rfl)
  rw [lg_entry_eq]
  generalize (lg_sl ([.ref xh, .int a1, .int a2, .int a3]) ++ List.replicate (5 - (lg_sl ([.ref xh, .int a1, .int a2, .int a3])).length) Slot.unset).toArray = ls at hl ⊢
  have hl : lv_has ls 5 [(0, .ref xh), (1, .int a1), (2, .int a2), (3, .int a3)] := hl
  have zm9 : ((-9) : Int32).toInt = -9 := by decide
  have z0 : (0 : Int32).toInt = 0 := by decide
  have z1 : (1 : Int32).toInt = 1 := by decide
  have cv_ := clI (i := vp) (by omega)
  have hnn_ : ∀ x y : Nat, x < vp.toNatClampNeg → y < vp.toNatClampNeg → 0 ≤ zM Ml x y := fun x y hx hy => (hM x y hx hy).1
  have ha3_ := hnt_nn hh hnn_
  have hlt_ := hnt_lt hh (by omega)
  refine lv_iload_n hx hb dB_36_1_58.1.1.1.1 rfl (lv_at hl 3 rfl) ?_
  refine lv_aload_n hx hb dB_36_1_58.1.1.1.2 rfl (lv_at hl 0 rfl) ?_
  refine va_get (ci := 7) (v := .int u3) (C := RX7) (T := TX7) (N := 9) hx hb hts (fun _ h => List.mem_cons_of_mem _ (List.mem_append_left _ (List.mem_append_left _ (List.mem_append_right _ h)))) hown hK.1 hP 0 rfl rfl 3 (by decide) (hts (.fieldLink RX7 33 "CutAtlas$SetHunt" "aim" "I") (List.mem_of_getElem? (i := 1) rfl)) (fun _ h9 => h9) rfl dB_36_1_58.1.1.2.1 ?_
  refine lv_icmp_gt (tgt := 17) hx hb dB_36_1_58.1.1.2.2 (by decide) (fun c_1 => ?_) (fun c_1 => ?_)
  · have t_1 : u3.toInt < a3.toInt := Int32.lt_iff_toInt_lt.mp c_1
    rw [hQ]
    exact W.vret hx hb hr (fun t ht hW => ⟨⟨(), rfl, trivial, u5, u6, (by first | exact scn_skip hs (fun j h1 h2 => hnt_big hh (by omega) hnn_ (by omega) h1 h2) | exact scn_found hs (by omega)), by rw [ht]; exact hP, hD⟩, hS.F ht⟩) hS.2.2 dB_36_1_58.2.1.1.1
  · have t_1 : ¬ u3.toInt < a3.toInt := fun h => c_1 (Int32.lt_iff_toInt_lt.mpr h)
    refine lv_aload_n hx hb dB_36_1_58.1.2.1.1 rfl (lv_at hl 0 rfl) ?_
    refine va_get (ci := 7) (v := .int u6) (C := RX7) (T := TX7) (N := 9) hx hb hts (fun _ h => List.mem_cons_of_mem _ (List.mem_append_left _ (List.mem_append_left _ (List.mem_append_right _ h)))) hown hK.1 hP 0 rfl rfl 6 (by decide) (hts (.fieldLink RX7 24 "CutAtlas$SetHunt" "found" "I") (List.mem_of_getElem? (i := 2) rfl)) (fun _ h9 => h9) rfl dB_36_1_58.1.2.1.2 ?_
    refine lv_bipush (v := (-9)) hx hb dB_36_1_58.1.2.2.1 (by decide) ?_
    refine lv_icmp_eq (tgt := 18) hx hb dB_36_1_58.1.2.2.2 (by decide) (fun c_2 => ?_) (fun c_2 => ?_)
    · have t_2 : u6.toInt = ((-9) : Int32).toInt := congrArg Int32.toInt c_2
      refine lv_iload_n hx hb dB_36_1_58.2.1.1.2 rfl (lv_at hl 1 rfl) ?_
      refine lv_if_ge (tgt := 29) hx hb dB_36_1_58.2.1.2.1 (by decide) (fun c_3 => ?_) (fun c_3 => ?_)
      · have t_3 : (0 : Int32).toInt ≤ a1.toInt := Int32.le_iff_toInt_le.mp c_3
        have cp_ := clI (i := a1) (by omega)
        have hK_ : (a1.toInt + 1).toNat = a1.toNatClampNeg + 1 := by omega
        have hh1_ : hnt (zM Ml) vp.toNatClampNeg (a1.toNatClampNeg + 1) u1 u2 a2 a3.toInt := by rw [hK_] at hh; exact hh
        have hap_ : a1.toInt < vp.toInt := by have h_ := hh1_.1; omega
        refine lv_iconst (v := 1) hx hb dB_36_1_59.1.1.1.1 (by decide) ?_
        refine lv_iload_n hx hb dB_36_1_59.1.1.1.2 rfl (lv_at hl 1 rfl) ?_
        refine lv_ishl hx hb dB_36_1_59.1.1.2.1 ?_
        refine lv_topi (fun y_4 ey_4 => ?_)
        refine lv_istore (lv' := [(4, .int y_4), (0, .ref xh), (1, .int a1), (2, .int a2), (3, .int a3)]) hx hb dB_36_1_59.1.1.2.2 hl (by decide) rfl (fun ls hl => ?_)
        have JOIN_5 : ∀ (o5_5 : Int32) (o6_5 : Int32) (H : Heap) (locs : List Loc) (ls : Array Slot), (scn (qF (zM Ml) vp.toNatClampNeg u1 u2 u3.toInt) u4.toInt (a2.toNatClampNeg + 2 ^ a1.toNatClampNeg) o5_5 o6_5) → pd_2 D vwCl A [ob7_0_ xh xc u1 u2 u3 u4 o5_5 o6_5 u7 u8, ob0_0_ xc xn xk clo cro c4 c5 c6 c7 c8, ob3_0_ xn vp vn n1 n2 n3 n4 n5, aq_ cy 6 clo 12 (gf_ rl), ai_ cy (rl 0) 12 (Ml 0), ai_ cy (rl 1) 12 (Ml 1), ai_ cy (rl 2) 12 (Ml 2), ai_ cy (rl 3) 12 (Ml 3), ai_ cy (rl 4) 12 (Ml 4), ai_ cy (rl 5) 12 (Ml 5), ai_ cy (rl 6) 12 (Ml 6), ai_ cy (rl 7) 12 (Ml 7), ai_ cy (rl 8) 12 (Ml 8), ai_ cy (rl 9) 12 (Ml 9), ai_ cy (rl 10) 12 (Ml 10), ai_ cy (rl 11) 12 (Ml 11)] H → va_S A s.heap H locs → lv_has ls 5 [(4, .int y_4), (0, .ref xh), (1, .int a1), (2, .int a2), (3, .int a3)] → W p l e ({ frames := 9, cells := 0, slots := 0, locals := 214 } : Room) s m (([.ref xh, .int a1, .int a2, .int a3] : List Value).toArray) below meth c H locs 0 0 Q (F0 m 60 ls []) := by
          intro o5_5 o6_5 H locs ls v0_5 hPD hS hl; obtain ⟨hP, hD⟩ := hPD
          refine lv_aload_n hx hb dB_36_1_60.1.2.1.2 rfl (lv_at hl 1 rfl) ?_
          refine va_get (ci := 7) (v := .int u2) (C := RX7) (T := TX7) (N := 9) hx hb hts (fun _ h => List.mem_cons_of_mem _ (List.mem_append_left _ (List.mem_append_left _ (List.mem_append_right _ h)))) hown hK.1 hP 0 rfl rfl 2 (by decide) (hts (.fieldLink RX7 30 "CutAtlas$SetHunt" "mustNot" "I") (List.mem_of_getElem? (i := 4) rfl)) (fun _ h9 => h9) rfl dB_36_1_60.1.2.2.1 ?_
          refine lv_iload hx hb dB_36_1_60.1.2.2.2 (lv_at hl 0 rfl) ?_
          refine lv_iand hx hb dB_36_1_60.2.1.1.1 ?_
          refine lv_topi (fun y_6 ey_6 => ?_)
          have hnu_ := and_bit (mu := u2) (by omega) (by omega) ey_4 ey_6
          refine lv_if_ne (tgt := 89) hx hb dB_36_1_60.2.1.1.2 (by decide) (fun c_7 => ?_) (fun c_7 => ?_)
          · have t_7 : ¬ y_6.toInt = (0 : Int32).toInt := fun h => c_7 (Int32.toInt_inj.mp h)
            rw [hQ]
            exact W.vret hx hb hr (fun t ht hW => ⟨⟨(), rfl, trivial, o5_5, o6_5, (by first | exact scn_to (scn_skip v0_5 (fun j h1 h2 => hnt_nout hh1_ (by omega) (hnu_.2 (by omega)) h1 h2)) (by rw [pw_K hK_]; omega) | exact scn_to of_none (by rw [hKq_, hst_.1, pw_K hK_]; omega)), by rw [ht]; exact hP, hD⟩, hS.F ht⟩) hS.2.2 dB_36_1_61.2.2.2.2
          · have t_7 : y_6.toInt = (0 : Int32).toInt := congrArg Int32.toInt c_7
            refine lv_aload_n hx hb dB_36_1_60.2.1.2.1 rfl (lv_at hl 1 rfl) ?_
            refine lv_iload_n hx hb dB_36_1_60.2.1.2.2 rfl (lv_at hl 2 rfl) ?_
            refine lv_iconst (v := 1) hx hb dB_36_1_60.2.2.1.1 (by decide) ?_
            refine lv_isub hx hb dB_36_1_60.2.2.1.2 ?_
            refine lv_topi (fun y_8 ey_8 => ?_)
            have ty_8 : y_8.toInt = a1.toInt - (1 : Int32).toInt := by rw [ey_8]; exact subI (by omega) (by omega)
            refine lv_iload_n hx hb dB_36_1_60.2.2.2.1 rfl (lv_at hl 3 rfl) ?_
            refine lv_iload hx hb dB_36_1_60.2.2.2.2 (lv_at hl 0 rfl) ?_
            refine lv_ior hx hb dB_36_1_61.1.1.1 ?_
            refine lv_topi (fun y_9 ey_9 => ?_)
            have hst_ := hnt_set hh1_ (by omega) (by omega) ey_4 ey_9
            refine lv_iload_n hx hb dB_36_1_61.1.1.2 rfl (lv_at hl 4 rfl) ?_
            refine lv_aload_n hx hb dB_36_1_61.1.2.1 rfl (lv_at hl 1 rfl) ?_
            refine lv_iload_n hx hb dB_36_1_61.1.2.2 rfl (lv_at hl 2 rfl) ?_
            refine lv_iload_n hx hb dB_36_1_61.2.1.1 rfl (lv_at hl 3 rfl) ?_
            refine ct_R hP hD [ob7_0_ xh xc u1 u2 u3 u4 o5_5 o6_5 u7 u8, ob0_0_ xc xn xk clo cro c4 c5 c6 c7 c8, ob3_0_ xn vp vn n1 n2 n3 n4 n5, aq_ cy 6 clo 12 (gf_ rl), ai_ cy (rl 0) 12 (Ml 0), ai_ cy (rl 1) 12 (Ml 1), ai_ cy (rl 2) 12 (Ml 2), ai_ cy (rl 3) 12 (Ml 3), ai_ cy (rl 4) 12 (Ml 4), ai_ cy (rl 5) 12 (Ml 5), ai_ cy (rl 6) 12 (Ml 6), ai_ cy (rl 7) 12 (Ml 7), ai_ cy (rl 8) 12 (Ml 8), ai_ cy (rl 9) 12 (Ml 9), ai_ cy (rl 10) 12 (Ml 10), ai_ cy (rl 11) 12 (Ml 11)] [0, 1, 2, 3, 4, 5, 6, 7, 8, 9, 10, 11, 12, 13, 14, 15] (by decide +kernel) rfl (fun hPc hDw => ?_)
            have hFc := va_free (wc := []) hD hS hA [] rfl
            refine va_calli (va_runV (As := [.int a1, .int a2]) (rest := [.int a3, .int y_9, .int y_8, .ref xh]) ⟨hx, hb, hml, hown, hts⟩ (c_X7_letOut2 l D cy H.size xh u1 u2 u3 u4 o5_5 o6_5 u7 u8 xc xk clo cro c4 c5 c6 c7 c8 xn n1 n2 n3 n4 n5 vp vn rl Ml a1 a2 (by first | with_reducible assumption | omega | assumption) (by first | with_reducible assumption | omega | assumption) (by first | with_reducible assumption | assumption | omega)) (cwV 2 hts gX7_chooseForCut_X7_letOut rfl rfl rfl ⟨rfl, hd_X7_letOut⟩ ⟨Nat.le_of_ble_eq_true rfl, Nat.le_of_ble_eq_true rfl⟩) ⟨bl_g, va_recvX hK.1 hP (ci := 7) (q0 := 0) rfl rfl, fun U hU hW => ⟨rfl, by rw [hU], by rw [hU]; exact hPc, ⟨kk_mv hW hK, arrOfT_moved hW.alike hG⟩, hDw⟩⟩ rfl rfl hl.1 rfl (lv_room (Nat.le_of_ble_eq_true rfl)) dB_36_1_61.2.1.2 ⟨Nat.le_of_ble_eq_true rfl, Nat.le_of_ble_eq_true rfl⟩) hS (fun q _ h => hFc q h) hFc (fun r_10 u t H locs ht hvm hw hB hz1 hk1 hS => ?_)
            have hP : va_P D vwCl _ H := ro_keep hP hk1
            obtain ⟨f0_r_10, f1_r_10⟩ := hw
            refine lv_iadd hx hb dB_36_1_61.2.2.1 ?_
            refine lv_topi (fun y_11 ey_11 => ?_)
            have ty_11 : y_11.toInt = a3.toInt + r_10.toInt := by rw [ey_11]; exact addI (by omega) (by omega)
            have hKq_ : (y_8.toInt + 1).toNat = a1.toNatClampNeg := by omega
            have hrh_ : hnt (zM Ml) vp.toNatClampNeg (y_8.toInt + 1).toNat u1 u2 y_9 y_11.toInt := by rw [hKq_]; exact hnt_out hh1_ (by omega) (by omega) ey_4 ey_9 (hnu_.1 (by omega)) ty_11 f0_r_10
            have hrs_ : scn (qF (zM Ml) vp.toNatClampNeg u1 u2 u3.toInt) u4.toInt y_9.toNatClampNeg o5_5 o6_5 := scn_to v0_5 hst_.1.symm
            refine ct_S hP hD hS hA [ob7_0_ xh xc u1 u2 u3 u4 o5_5 o6_5 u7 u8, ob0_0_ xc xn xk clo cro c4 c5 c6 c7 c8, ob3_0_ xn vp vn n1 n2 n3 n4 n5, aq_ cy 6 clo 12 (gf_ rl), ai_ cy (rl 0) 12 (Ml 0), ai_ cy (rl 1) 12 (Ml 1), ai_ cy (rl 2) 12 (Ml 2), ai_ cy (rl 3) 12 (Ml 3), ai_ cy (rl 4) 12 (Ml 4), ai_ cy (rl 5) 12 (Ml 5), ai_ cy (rl 6) 12 (Ml 6), ai_ cy (rl 7) 12 (Ml 7), ai_ cy (rl 8) 12 (Ml 8), ai_ cy (rl 9) 12 (Ml 9), ai_ cy (rl 10) 12 (Ml 10), ai_ cy (rl 11) 12 (Ml 11)] [0, 1, 2, 3, 4, 5, 6, 7, 8, 9, 10, 11, 12, 13, 14, 15] (by decide +kernel) rfl (fun hPc hDw hFc hC_ => ?_)
            refine va_callv (va_runV (As := [.int y_8, .int y_9, .int y_11]) (rest := []) ⟨hx, hb, hml, hown, hts⟩ (c_X7_chooseForCut2_7 l D cy H.size xh u1 u2 u3 u4 o5_5 o6_5 u7 u8 xc xk clo cro c4 c5 c6 c7 c8 xn n1 n2 n3 n4 n5 vp vn rl Ml y_8 y_9 y_11 (by first | with_reducible assumption | omega | assumption) (by first | with_reducible assumption | omega | assumption) (by first | with_reducible assumption | assumption | omega) (by first | with_reducible assumption | omega | assumption) (by first | with_reducible assumption | assumption | omega) (by first | with_reducible assumption | assumption | omega)) (cwV 3 hts gX7_chooseForCut_X7_chooseForCut rfl rfl rfl ⟨rfl, hd_X7_chooseForCut⟩ ⟨Nat.le_of_ble_eq_true rfl, Nat.le_of_ble_eq_true rfl⟩) ⟨bl_g, va_recvX hK.1 hP (ci := 7) (q0 := 0) rfl rfl, fun U hU hW => ⟨rfl, by rw [hU], by rw [hU]; exact hPc, ⟨kk_mv hW hK, arrOfT_moved hW.alike hG⟩, hDw⟩⟩ rfl rfl hl.1 rfl (lv_room (Nat.le_of_ble_eq_true rfl)) dB_36_1_61.2.2.2.1 ⟨Nat.le_of_ble_eq_true rfl, Nat.le_of_ble_eq_true rfl⟩) hS (fun q _ h => hFc q h) hFc (fun u t H locs ht hvm hw hB hz1 hk1 hS => ?_)
            obtain ⟨v5_13, v6_14, g_15, hP1, hD1⟩ := hB
            rw [ht] at hP1
            obtain ⟨hP, hD⟩ := va_join (wr := []) (w1 := [ob7_0_ xh xc u1 u2 u3 u4 v5_13 v6_14 u7 u8, ob0_0_ xc xn xk clo cro c4 c5 c6 c7 c8, ob3_0_ xn vp vn n1 n2 n3 n4 n5, aq_ cy 6 clo 12 (gf_ rl), ai_ cy (rl 0) 12 (Ml 0), ai_ cy (rl 1) 12 (Ml 1), ai_ cy (rl 2) 12 (Ml 2), ai_ cy (rl 3) 12 (Ml 3), ai_ cy (rl 4) 12 (Ml 4), ai_ cy (rl 5) 12 (Ml 5), ai_ cy (rl 6) 12 (Ml 6), ai_ cy (rl 7) 12 (Ml 7), ai_ cy (rl 8) 12 (Ml 8), ai_ cy (rl 9) 12 (Ml 9), ai_ cy (rl 10) 12 (Ml 10), ai_ cy (rl 11) 12 (Ml 11)]) hP hD [0, 1, 2, 3, 4, 5, 6, 7, 8, 9, 10, 11, 12, 13, 14, 15] [] hC_ rfl (by decide) (by decide) hk1 hFc hP1 hD1
            refine pd_K [ob7_0_ xh xc u1 u2 u3 u4 v5_13 v6_14 u7 u8, ob0_0_ xc xn xk clo cro c4 c5 c6 c7 c8, ob3_0_ xn vp vn n1 n2 n3 n4 n5, aq_ cy 6 clo 12 (gf_ rl), ai_ cy (rl 0) 12 (Ml 0), ai_ cy (rl 1) 12 (Ml 1), ai_ cy (rl 2) 12 (Ml 2), ai_ cy (rl 3) 12 (Ml 3), ai_ cy (rl 4) 12 (Ml 4), ai_ cy (rl 5) 12 (Ml 5), ai_ cy (rl 6) 12 (Ml 6), ai_ cy (rl 7) 12 (Ml 7), ai_ cy (rl 8) 12 (Ml 8), ai_ cy (rl 9) 12 (Ml 9), ai_ cy (rl 10) 12 (Ml 10), ai_ cy (rl 11) 12 (Ml 11)] hP hD (fun hP hD => ?_)
            rw [hQ]
            exact W.vret hx hb hr (fun t ht hW => ⟨⟨(), rfl, trivial, v5_13, v6_14, (by first | exact scn_to (scn_skip v0_5 (fun j h1 h2 => hnt_nout hh1_ (by omega) (hnu_.2 (by omega)) h1 h2)) (by rw [pw_K hK_]; omega) | exact scn_to g_15 (by rw [hKq_, hst_.1, pw_K hK_]; omega)), by rw [ht]; exact hP, hD⟩, hS.F ht⟩) hS.2.2 dB_36_1_61.2.2.2.2
        refine lv_aload_n hx hb dB_36_1_59.1.2.1.1 rfl (lv_at hl 1 rfl) ?_
        refine va_get (ci := 7) (v := .int u1) (C := RX7) (T := TX7) (N := 9) hx hb hts (fun _ h => List.mem_cons_of_mem _ (List.mem_append_left _ (List.mem_append_left _ (List.mem_append_right _ h)))) hown hK.1 hP 0 rfl rfl 1 (by decide) (hts (.fieldLink RX7 27 "CutAtlas$SetHunt" "must" "I") (List.mem_of_getElem? (i := 3) rfl)) (fun _ h9 => h9) rfl dB_36_1_59.1.2.1.2 ?_
        refine lv_iload hx hb dB_36_1_59.1.2.2.1 (lv_at hl 0 rfl) ?_
        refine lv_iand hx hb dB_36_1_59.1.2.2.2 ?_
        refine lv_topi (fun y_16 ey_16 => ?_)
        have hmu_ := and_bit (mu := u1) (by omega) (by omega) ey_4 ey_16
        refine lv_if_ne (tgt := 60) hx hb dB_36_1_59.2.1.1.1 (by decide) (fun c_17 => ?_) (fun c_17 => ?_)
        · have t_17 : ¬ y_16.toInt = (0 : Int32).toInt := fun h => c_17 (Int32.toInt_inj.mp h)
          exact JOIN_5 u5 u6 _ _ _ (by first | exact scn_skip hs (fun j h1 h2 => hnt_nin hh1_ (by omega) (hmu_.2 (by omega)) h1 h2) | exact scn_to of_none (by rw [hKr_])) ⟨hP, hD⟩ hS (lv_sub hl [0, 1, 2, 3, 4] rfl)
        · have t_17 : y_16.toInt = (0 : Int32).toInt := congrArg Int32.toInt c_17
          refine lv_aload_n hx hb dB_36_1_59.2.1.1.2 rfl (lv_at hl 1 rfl) ?_
          refine lv_iload_n hx hb dB_36_1_59.2.1.2.1 rfl (lv_at hl 2 rfl) ?_
          refine lv_iconst (v := 1) hx hb dB_36_1_59.2.1.2.2 (by decide) ?_
          refine lv_isub hx hb dB_36_1_59.2.2.1.1 ?_
          refine lv_topi (fun y_18 ey_18 => ?_)
          have ty_18 : y_18.toInt = a1.toInt - (1 : Int32).toInt := by rw [ey_18]; exact subI (by omega) (by omega)
          refine lv_iload_n hx hb dB_36_1_59.2.2.1.2 rfl (lv_at hl 3 rfl) ?_
          refine lv_iload_n hx hb dB_36_1_59.2.2.2.1 rfl (lv_at hl 4 rfl) ?_
          refine lv_aload_n hx hb dB_36_1_59.2.2.2.2 rfl (lv_at hl 1 rfl) ?_
          refine lv_iload_n hx hb dB_36_1_60.1.1.1.1 rfl (lv_at hl 2 rfl) ?_
          refine lv_iload_n hx hb dB_36_1_60.1.1.1.2 rfl (lv_at hl 3 rfl) ?_
          refine ct_R hP hD [ob7_0_ xh xc u1 u2 u3 u4 u5 u6 u7 u8, ob0_0_ xc xn xk clo cro c4 c5 c6 c7 c8, ob3_0_ xn vp vn n1 n2 n3 n4 n5, aq_ cy 6 clo 12 (gf_ rl), ai_ cy (rl 0) 12 (Ml 0), ai_ cy (rl 1) 12 (Ml 1), ai_ cy (rl 2) 12 (Ml 2), ai_ cy (rl 3) 12 (Ml 3), ai_ cy (rl 4) 12 (Ml 4), ai_ cy (rl 5) 12 (Ml 5), ai_ cy (rl 6) 12 (Ml 6), ai_ cy (rl 7) 12 (Ml 7), ai_ cy (rl 8) 12 (Ml 8), ai_ cy (rl 9) 12 (Ml 9), ai_ cy (rl 10) 12 (Ml 10), ai_ cy (rl 11) 12 (Ml 11)] [0, 1, 2, 3, 4, 5, 6, 7, 8, 9, 10, 11, 12, 13, 14, 15] (by decide +kernel) rfl (fun hPc hDw => ?_)
          have hFc := va_free (wc := []) hD hS hA [] rfl
          refine va_calli (va_runV (As := [.int a1, .int a2]) (rest := [.int a3, .int a2, .int y_18, .ref xh]) ⟨hx, hb, hml, hown, hts⟩ (c_X7_letIn2 l D cy s.heap.size xh u1 u2 u3 u4 u5 u6 u7 u8 xc xk clo cro c4 c5 c6 c7 c8 xn n1 n2 n3 n4 n5 vp vn rl Ml a1 a2 (by first | with_reducible assumption | omega | assumption) (by first | with_reducible assumption | omega | assumption) (by first | with_reducible assumption | assumption | omega)) (cwV 2 hts gX7_chooseForCut_X7_letIn rfl rfl rfl ⟨rfl, hd_X7_letIn⟩ ⟨Nat.le_of_ble_eq_true rfl, Nat.le_of_ble_eq_true rfl⟩) ⟨bl_g, va_recvX hK.1 hP (ci := 7) (q0 := 0) rfl rfl, fun U hU hW => ⟨rfl, by rw [hU], by rw [hU]; exact hPc, ⟨kk_mv hW hK, arrOfT_moved hW.alike hG⟩, hDw⟩⟩ rfl rfl hl.1 rfl (lv_room (Nat.le_of_ble_eq_true rfl)) dB_36_1_60.1.1.2.1 ⟨Nat.le_of_ble_eq_true rfl, Nat.le_of_ble_eq_true rfl⟩) hS (fun q _ h => hFc q h) hFc (fun r_19 u t H locs ht hvm hw hB hz1 hk1 hS => ?_)
          have hP : va_P D vwCl _ H := ro_keep hP hk1
          obtain ⟨f0_r_19, f1_r_19⟩ := hw
          refine lv_iadd hx hb dB_36_1_60.1.1.2.2 ?_
          refine lv_topi (fun y_20 ey_20 => ?_)
          have ty_20 : y_20.toInt = a3.toInt + r_19.toInt := by rw [ey_20]; exact addI (by omega) (by omega)
          have hKr_ : (y_18.toInt + 1).toNat = a1.toNatClampNeg := by omega
          have hrh_ : hnt (zM Ml) vp.toNatClampNeg (y_18.toInt + 1).toNat u1 u2 a2 y_20.toInt := by rw [hKr_]; exact hnt_in hh1_ (hmu_.1 (by omega)) ty_20 f0_r_19
          refine ct_S hP hD hS hA [ob7_0_ xh xc u1 u2 u3 u4 u5 u6 u7 u8, ob0_0_ xc xn xk clo cro c4 c5 c6 c7 c8, ob3_0_ xn vp vn n1 n2 n3 n4 n5, aq_ cy 6 clo 12 (gf_ rl), ai_ cy (rl 0) 12 (Ml 0), ai_ cy (rl 1) 12 (Ml 1), ai_ cy (rl 2) 12 (Ml 2), ai_ cy (rl 3) 12 (Ml 3), ai_ cy (rl 4) 12 (Ml 4), ai_ cy (rl 5) 12 (Ml 5), ai_ cy (rl 6) 12 (Ml 6), ai_ cy (rl 7) 12 (Ml 7), ai_ cy (rl 8) 12 (Ml 8), ai_ cy (rl 9) 12 (Ml 9), ai_ cy (rl 10) 12 (Ml 10), ai_ cy (rl 11) 12 (Ml 11)] [0, 1, 2, 3, 4, 5, 6, 7, 8, 9, 10, 11, 12, 13, 14, 15] (by decide +kernel) rfl (fun hPc hDw hFc hC_ => ?_)
          refine va_callv (va_runV (As := [.int y_18, .int a2, .int y_20]) (rest := []) ⟨hx, hb, hml, hown, hts⟩ (c_X7_chooseForCut2_7 l D cy H.size xh u1 u2 u3 u4 u5 u6 u7 u8 xc xk clo cro c4 c5 c6 c7 c8 xn n1 n2 n3 n4 n5 vp vn rl Ml y_18 a2 y_20 (by first | with_reducible assumption | omega | assumption) (by first | with_reducible assumption | omega | assumption) (by first | with_reducible assumption | assumption | omega) (by first | with_reducible assumption | omega | assumption) (by first | with_reducible assumption | assumption | omega) (by first | with_reducible assumption | assumption | omega)) (cwV 3 hts gX7_chooseForCut_X7_chooseForCut rfl rfl rfl ⟨rfl, hd_X7_chooseForCut⟩ ⟨Nat.le_of_ble_eq_true rfl, Nat.le_of_ble_eq_true rfl⟩) ⟨bl_g, va_recvX hK.1 hP (ci := 7) (q0 := 0) rfl rfl, fun U hU hW => ⟨rfl, by rw [hU], by rw [hU]; exact hPc, ⟨kk_mv hW hK, arrOfT_moved hW.alike hG⟩, hDw⟩⟩ rfl rfl hl.1 rfl (lv_room (Nat.le_of_ble_eq_true rfl)) dB_36_1_60.1.2.1.1 ⟨Nat.le_of_ble_eq_true rfl, Nat.le_of_ble_eq_true rfl⟩) hS (fun q _ h => hFc q h) hFc (fun u t H locs ht hvm hw hB hz1 hk1 hS => ?_)
          obtain ⟨v5_22, v6_23, g_24, hP1, hD1⟩ := hB
          rw [ht] at hP1
          obtain ⟨hP, hD⟩ := va_join (wr := []) (w1 := [ob7_0_ xh xc u1 u2 u3 u4 v5_22 v6_23 u7 u8, ob0_0_ xc xn xk clo cro c4 c5 c6 c7 c8, ob3_0_ xn vp vn n1 n2 n3 n4 n5, aq_ cy 6 clo 12 (gf_ rl), ai_ cy (rl 0) 12 (Ml 0), ai_ cy (rl 1) 12 (Ml 1), ai_ cy (rl 2) 12 (Ml 2), ai_ cy (rl 3) 12 (Ml 3), ai_ cy (rl 4) 12 (Ml 4), ai_ cy (rl 5) 12 (Ml 5), ai_ cy (rl 6) 12 (Ml 6), ai_ cy (rl 7) 12 (Ml 7), ai_ cy (rl 8) 12 (Ml 8), ai_ cy (rl 9) 12 (Ml 9), ai_ cy (rl 10) 12 (Ml 10), ai_ cy (rl 11) 12 (Ml 11)]) hP hD [0, 1, 2, 3, 4, 5, 6, 7, 8, 9, 10, 11, 12, 13, 14, 15] [] hC_ rfl (by decide) (by decide) hk1 hFc hP1 hD1
          refine pd_K [ob7_0_ xh xc u1 u2 u3 u4 v5_22 v6_23 u7 u8, ob0_0_ xc xn xk clo cro c4 c5 c6 c7 c8, ob3_0_ xn vp vn n1 n2 n3 n4 n5, aq_ cy 6 clo 12 (gf_ rl), ai_ cy (rl 0) 12 (Ml 0), ai_ cy (rl 1) 12 (Ml 1), ai_ cy (rl 2) 12 (Ml 2), ai_ cy (rl 3) 12 (Ml 3), ai_ cy (rl 4) 12 (Ml 4), ai_ cy (rl 5) 12 (Ml 5), ai_ cy (rl 6) 12 (Ml 6), ai_ cy (rl 7) 12 (Ml 7), ai_ cy (rl 8) 12 (Ml 8), ai_ cy (rl 9) 12 (Ml 9), ai_ cy (rl 10) 12 (Ml 10), ai_ cy (rl 11) 12 (Ml 11)] hP hD (fun hP hD => ?_)
          exact JOIN_5 v5_22 v6_23 _ _ _ (by first | exact scn_skip hs (fun j h1 h2 => hnt_nin hh1_ (by omega) (hmu_.2 (by omega)) h1 h2) | exact scn_to g_24 (by rw [hKr_])) ⟨hP, hD⟩ hS (lv_sub hl [0, 1, 2, 3, 4] rfl)
      · have t_3 : ¬ (0 : Int32).toInt ≤ a1.toInt := fun h => c_3 (Int32.le_iff_toInt_le.mpr h)
        have hK_ : (a1.toInt + 1).toNat = 0 := by omega
        have hh0_ : hnt (zM Ml) vp.toNatClampNeg 0 u1 u2 a2 a3.toInt := by rw [hK_] at hh; exact hh
        have hsn_ := scn_not hs (by omega) (by omega)
        have hcb_ := cnQ_nn (p := qF (zM Ml) vp.toNatClampNeg u1 u2 u3.toInt) (k := a2.toNatClampNeg)
        refine lv_aload_n hx hb dB_36_1_58.2.1.2.2 rfl (lv_at hl 0 rfl) ?_
        refine lv_iload_n hx hb dB_36_1_58.2.2.1.1 rfl (lv_at hl 2 rfl) ?_
        refine lv_iload_n hx hb dB_36_1_58.2.2.1.2 rfl (lv_at hl 3 rfl) ?_
        refine ct_S hP hD hS hA [ob7_0_ xh xc u1 u2 u3 u4 u5 u6 u7 u8] [0] (by decide) rfl (fun hPc hDw hFc hC_ => ?_)
        refine va_callv (va_runV (As := [.int a2, .int a3]) (rest := []) ⟨hx, hb, hml, hown, hts⟩ (c_X7_meet2 l D cy s.heap.size xh u1 u2 u3 u4 u5 u6 u7 u8 xc a2 a3 (by first | with_reducible assumption | omega | assumption)) (cwV 2 hts gX7_chooseForCut_X7_meet rfl rfl rfl ⟨rfl, hd_X7_meet⟩ ⟨Nat.le_of_ble_eq_true rfl, Nat.le_of_ble_eq_true rfl⟩) ⟨bl_, va_recvX hK.1 hP (ci := 7) (q0 := 0) rfl rfl, fun U hU hW => ⟨rfl, by rw [hU], by rw [hU]; exact hPc, kk_mv hW hK, hDw⟩⟩ rfl rfl hl.1 rfl (lv_room (Nat.le_of_ble_eq_true rfl)) dB_36_1_58.2.2.2.1 ⟨Nat.le_of_ble_eq_true rfl, Nat.le_of_ble_eq_true rfl⟩) hS (fun q _ h => hFc q h) hFc (fun u t H locs ht hvm hw hB hz1 hk1 hS => ?_)
        obtain ⟨v5_26, v6_27, g_28, hP1, hD1⟩ := hB
        rw [ht] at hP1
        obtain ⟨hP, hD⟩ := va_join (wr := [ob0_0_ xc xn xk clo cro c4 c5 c6 c7 c8, ob3_0_ xn vp vn n1 n2 n3 n4 n5, aq_ cy 6 clo 12 (gf_ rl), ai_ cy (rl 0) 12 (Ml 0), ai_ cy (rl 1) 12 (Ml 1), ai_ cy (rl 2) 12 (Ml 2), ai_ cy (rl 3) 12 (Ml 3), ai_ cy (rl 4) 12 (Ml 4), ai_ cy (rl 5) 12 (Ml 5), ai_ cy (rl 6) 12 (Ml 6), ai_ cy (rl 7) 12 (Ml 7), ai_ cy (rl 8) 12 (Ml 8), ai_ cy (rl 9) 12 (Ml 9), ai_ cy (rl 10) 12 (Ml 10), ai_ cy (rl 11) 12 (Ml 11)]) (w1 := [ob7_0_ xh xc u1 u2 u3 u4 v5_26 v6_27 u7 u8]) hP hD [0] [1, 2, 3, 4, 5, 6, 7, 8, 9, 10, 11, 12, 13, 14, 15] hC_ rfl (by decide +kernel) (by decide +kernel) hk1 hFc hP1 hD1
        refine pd_S hP hD [ob7_0_ xh xc u1 u2 u3 u4 v5_26 v6_27 u7 u8, ob0_0_ xc xn xk clo cro c4 c5 c6 c7 c8, ob3_0_ xn vp vn n1 n2 n3 n4 n5, aq_ cy 6 clo 12 (gf_ rl), ai_ cy (rl 0) 12 (Ml 0), ai_ cy (rl 1) 12 (Ml 1), ai_ cy (rl 2) 12 (Ml 2), ai_ cy (rl 3) 12 (Ml 3), ai_ cy (rl 4) 12 (Ml 4), ai_ cy (rl 5) 12 (Ml 5), ai_ cy (rl 6) 12 (Ml 6), ai_ cy (rl 7) 12 (Ml 7), ai_ cy (rl 8) 12 (Ml 8), ai_ cy (rl 9) 12 (Ml 9), ai_ cy (rl 10) 12 (Ml 10), ai_ cy (rl 11) 12 (Ml 11)] [15, 0, 1, 2, 3, 4, 5, 6, 7, 8, 9, 10, 11, 12, 13, 14] (by decide +kernel) rfl (fun hP hD => ?_)
        rw [hQ]
        exact W.vret hx hb hr (fun t ht hW => ⟨⟨(), rfl, trivial, v5_26, v6_27, (scn_to (leaf_end hs (by omega) hlt_ (hnt_leaf hh0_ (by omega)) g_28) (by rw [hK_])), by rw [ht]; exact hP, hD⟩, hS.F ht⟩) hS.2.2 dB_36_1_58.2.2.2.2
    · have t_2 : ¬ u6.toInt = ((-9) : Int32).toInt := fun h => c_2 (Int32.toInt_inj.mp h)
      rw [hQ]
      exact W.vret hx hb hr (fun t ht hW => ⟨⟨(), rfl, trivial, u5, u6, (by first | exact scn_skip hs (fun j h1 h2 => hnt_big hh (by omega) hnn_ (by omega) h1 h2) | exact scn_found hs (by omega)), by rw [ht]; exact hP, hD⟩, hS.F ht⟩) hS.2.2 dB_36_1_58.2.1.1.1

set_option maxHeartbeats 4000000 in
set_option maxRecDepth 100000 in
theorem c_X7_chooseForCut2_9 (l : Launch) (D : va_G) (cy : Nat → ClassId) (sz : Nat) (xh : Nat) (u1 : Int32) (u2 : Int32) (u3 : Int32) (u4 : Int32) (u5 : Int32) (u6 : Int32) (u7 : Int32) (u8 : Int32) (xc : Nat) (xk : Nat) (clo : Nat) (cro : Nat) (c4 : Nat) (c5 : Nat) (c6 : Nat) (c7 : Nat) (c8 : Nat) (xn : Nat) (n1 : Nat) (n2 : Nat) (n3 : Nat) (n4 : Nat) (n5 : Nat) (vp : Int32) (vn : Int32) (rl : Nat → Nat) (Ml : Nat → Nat → Int32) (a1 : Int32) (a2 : Int32) (a3 : Int32) (hvp : 0 ≤ vp.toInt ∧ vp.toInt ≤ 12) (q1 : -1 ≤ a1.toInt ∧ a1.toInt < 9) (hM : ∀ x y : Nat, x < vp.toNatClampNeg → y < vp.toNatClampNeg → 0 ≤ zM Ml x y ∧ zM Ml x y ≤ 80000000) (hA : 0 ≤ u3.toInt ∧ u3.toInt ≤ 1000000) (hh : hnt (zM Ml) vp.toNatClampNeg (a1.toInt + 1).toNat u1 u2 a2 a3.toInt) (hs : scn (qF (zM Ml) vp.toNatClampNeg u1 u2 u3.toInt) u4.toInt a2.toNatClampNeg u5 u6) : Met l yX7_chooseForCut wsX7_chooseForCut ({ frames := 10, cells := 0, slots := 0, locals := 238 }) (va_Pc [.ref xh, .int a1, .int a2, .int a3] (fun U => U.heap.size = sz ∧ va_P D vwCl [ob7_0_ xh xc u1 u2 u3 u4 u5 u6 u7 u8, ob0_0_ xc xn xk clo cro c4 c5 c6 c7 c8, ob3_0_ xn vp vn n1 n2 n3 n4 n5, aq_ cy 6 clo 12 (gf_ rl), ai_ cy (rl 0) 12 (Ml 0), ai_ cy (rl 1) 12 (Ml 1), ai_ cy (rl 2) 12 (Ml 2), ai_ cy (rl 3) 12 (Ml 3), ai_ cy (rl 4) 12 (Ml 4), ai_ cy (rl 5) 12 (Ml 5), ai_ cy (rl 6) 12 (Ml 6), ai_ cy (rl 7) 12 (Ml 7), ai_ cy (rl 8) 12 (Ml 8), ai_ cy (rl 9) 12 (Ml 9), ai_ cy (rl 10) 12 (Ml 10), ai_ cy (rl 11) 12 (Ml 11)] U.heap ∧ kg_ D cy U ∧ va_D (fun _ => True) [ob7_0_ xh xc u1 u2 u3 u4 u5 u6 u7 u8, ob0_0_ xc xn xk clo cro c4 c5 c6 c7 c8, ob3_0_ xn vp vn n1 n2 n3 n4 n5, aq_ cy 6 clo 12 (gf_ rl), ai_ cy (rl 0) 12 (Ml 0), ai_ cy (rl 1) 12 (Ml 1), ai_ cy (rl 2) 12 (Ml 2), ai_ cy (rl 3) 12 (Ml 3), ai_ cy (rl 4) 12 (Ml 4), ai_ cy (rl 5) 12 (Ml 5), ai_ cy (rl 6) 12 (Ml 6), ai_ cy (rl 7) 12 (Ml 7), ai_ cy (rl 8) 12 (Ml 8), ai_ cy (rl 9) 12 (Ml 9), ai_ cy (rl 10) 12 (Ml 10), ai_ cy (rl 11) 12 (Ml 11)])) (va_Qv (fun (_ : Unit) => True) (fun (_ : Unit) (t : State) => ∃ (v5 : Int32), ∃ (v6 : Int32), (scn (qF (zM Ml) vp.toNatClampNeg u1 u2 u3.toInt) u4.toInt (a2.toNatClampNeg + 2 ^ (a1.toInt + 1).toNat) v5 v6) ∧ va_P D vwCl [ob7_0_ xh xc u1 u2 u3 u4 v5 v6 u7 u8, ob0_0_ xc xn xk clo cro c4 c5 c6 c7 c8, ob3_0_ xn vp vn n1 n2 n3 n4 n5, aq_ cy 6 clo 12 (gf_ rl), ai_ cy (rl 0) 12 (Ml 0), ai_ cy (rl 1) 12 (Ml 1), ai_ cy (rl 2) 12 (Ml 2), ai_ cy (rl 3) 12 (Ml 3), ai_ cy (rl 4) 12 (Ml 4), ai_ cy (rl 5) 12 (Ml 5), ai_ cy (rl 6) 12 (Ml 6), ai_ cy (rl 7) 12 (Ml 7), ai_ cy (rl 8) 12 (Ml 8), ai_ cy (rl 9) 12 (Ml 9), ai_ cy (rl 10) 12 (Ml 10), ai_ cy (rl 11) 12 (Ml 11)] t.heap ∧ va_D (va_A [ob7_0_ xh xc u1 u2 u3 u4 u5 u6 u7 u8, ob0_0_ xc xn xk clo cro c4 c5 c6 c7 c8, ob3_0_ xn vp vn n1 n2 n3 n4 n5, aq_ cy 6 clo 12 (gf_ rl), ai_ cy (rl 0) 12 (Ml 0), ai_ cy (rl 1) 12 (Ml 1), ai_ cy (rl 2) 12 (Ml 2), ai_ cy (rl 3) 12 (Ml 3), ai_ cy (rl 4) 12 (Ml 4), ai_ cy (rl 5) 12 (Ml 5), ai_ cy (rl 6) 12 (Ml 6), ai_ cy (rl 7) 12 (Ml 7), ai_ cy (rl 8) 12 (Ml 8), ai_ cy (rl 9) 12 (Ml 9), ai_ cy (rl 10) 12 (Ml 10), ai_ cy (rl 11) 12 (Ml 11)] sz) [ob7_0_ xh xc u1 u2 u3 u4 v5 v6 u7 u8, ob0_0_ xc xn xk clo cro c4 c5 c6 c7 c8, ob3_0_ xn vp vn n1 n2 n3 n4 n5, aq_ cy 6 clo 12 (gf_ rl), ai_ cy (rl 0) 12 (Ml 0), ai_ cy (rl 1) 12 (Ml 1), ai_ cy (rl 2) 12 (Ml 2), ai_ cy (rl 3) 12 (Ml 3), ai_ cy (rl 4) 12 (Ml 4), ai_ cy (rl 5) 12 (Ml 5), ai_ cy (rl 6) 12 (Ml 6), ai_ cy (rl 7) 12 (Ml 7), ai_ cy (rl 8) 12 (Ml 8), ai_ cy (rl 9) 12 (Ml 9), ai_ cy (rl 10) 12 (Ml 10), ai_ cy (rl 11) 12 (Ml 11)]) (va_A [ob7_0_ xh xc u1 u2 u3 u4 u5 u6 u7 u8, ob0_0_ xc xn xk clo cro c4 c5 c6 c7 c8, ob3_0_ xn vp vn n1 n2 n3 n4 n5, aq_ cy 6 clo 12 (gf_ rl), ai_ cy (rl 0) 12 (Ml 0), ai_ cy (rl 1) 12 (Ml 1), ai_ cy (rl 2) 12 (Ml 2), ai_ cy (rl 3) 12 (Ml 3), ai_ cy (rl 4) 12 (Ml 4), ai_ cy (rl 5) 12 (Ml 5), ai_ cy (rl 6) 12 (Ml 6), ai_ cy (rl 7) 12 (Ml 7), ai_ cy (rl 8) 12 (Ml 8), ai_ cy (rl 9) 12 (Ml 9), ai_ cy (rl 10) 12 (Ml 10), ai_ cy (rl 11) 12 (Ml 11)] sz)) 0 0 (va_A [ob7_0_ xh xc u1 u2 u3 u4 u5 u6 u7 u8, ob0_0_ xc xn xk clo cro c4 c5 c6 c7 c8, ob3_0_ xn vp vn n1 n2 n3 n4 n5, aq_ cy 6 clo 12 (gf_ rl), ai_ cy (rl 0) 12 (Ml 0), ai_ cy (rl 1) 12 (Ml 1), ai_ cy (rl 2) 12 (Ml 2), ai_ cy (rl 3) 12 (Ml 3), ai_ cy (rl 4) 12 (Ml 4), ai_ cy (rl 5) 12 (Ml 5), ai_ cy (rl 6) 12 (Ml 6), ai_ cy (rl 7) 12 (Ml 7), ai_ cy (rl 8) 12 (Ml 8), ai_ cy (rl 9) 12 (Ml 9), ai_ cy (rl 10) 12 (Ml 10), ai_ cy (rl 11) 12 (Ml 11)] sz) := by
  refine ofQ (cc := cX7_chooseForCut) (maxL := 5) (ret := none) (by decide) rfl ?_
  intro p e s m args below meth c s₁ Q hQ B hml hv
  obtain ⟨rfl, hsz, hP, hK, hD0⟩ := hv
  have hG := hK.2
  have hK := hK.1
  have hx := B.exec
  have hb := B.bytes
  have hr := B.returns
  have hts := atoms_spec (ws := wsX7_chooseForCut) B.pre
  have hown : s.vm.findClass RX7 = some m.cls := by have h_ := findClass_of_methodNamed B.named; exact h_
  have hlocks := B.notSynchronized
  subst hsz
  have hD := hD0.self (sz := s.heap.size)
  generalize hAe : va_A [ob7_0_ xh xc u1 u2 u3 u4 u5 u6 u7 u8, ob0_0_ xc xn xk clo cro c4 c5 c6 c7 c8, ob3_0_ xn vp vn n1 n2 n3 n4 n5, aq_ cy 6 clo 12 (gf_ rl), ai_ cy (rl 0) 12 (Ml 0), ai_ cy (rl 1) 12 (Ml 1), ai_ cy (rl 2) 12 (Ml 2), ai_ cy (rl 3) 12 (Ml 3), ai_ cy (rl 4) 12 (Ml 4), ai_ cy (rl 5) 12 (Ml 5), ai_ cy (rl 6) 12 (Ml 6), ai_ cy (rl 7) 12 (Ml 7), ai_ cy (rl 8) 12 (Ml 8), ai_ cy (rl 9) 12 (Ml 9), ai_ cy (rl 10) 12 (Ml 10), ai_ cy (rl 11) 12 (Ml 11)] s.heap.size = A at hD hQ
  have hA : ∀ q : Nat, s.heap.size ≤ q → A q := fun q h => by rw [← hAe]; exact Or.inr h
  have hS : va_S A s.heap s.heap [] := va_S.rf
  have hl := lv_entry ([.ref xh, .int a1, .int a2, .int a3]) (n := 5) (Nat.le_of_ble_eq_true rfl)
  rw [lg_entry_eq]
  generalize (lg_sl ([.ref xh, .int a1, .int a2, .int a3]) ++ List.replicate (5 - (lg_sl ([.ref xh, .int a1, .int a2, .int a3])).length) Slot.unset).toArray = ls at hl ⊢
  have hl : lv_has ls 5 [(0, .ref xh), (1, .int a1), (2, .int a2), (3, .int a3)] := hl
  have zm9 : ((-9) : Int32).toInt = -9 := by decide
  have z0 : (0 : Int32).toInt = 0 := by decide
  have z1 : (1 : Int32).toInt = 1 := by decide
  have cv_ := clI (i := vp) (by omega)
  have hnn_ : ∀ x y : Nat, x < vp.toNatClampNeg → y < vp.toNatClampNeg → 0 ≤ zM Ml x y := fun x y hx hy => (hM x y hx hy).1
  have ha3_ := hnt_nn hh hnn_
  have hlt_ := hnt_lt hh (by omega)
  refine lv_iload_n hx hb dB_36_1_58.1.1.1.1 rfl (lv_at hl 3 rfl) ?_
  refine lv_aload_n hx hb dB_36_1_58.1.1.1.2 rfl (lv_at hl 0 rfl) ?_
  refine va_get (ci := 7) (v := .int u3) (C := RX7) (T := TX7) (N := 9) hx hb hts (fun _ h => List.mem_cons_of_mem _ (List.mem_append_left _ (List.mem_append_left _ (List.mem_append_right _ h)))) hown hK.1 hP 0 rfl rfl 3 (by decide) (hts (.fieldLink RX7 33 "CutAtlas$SetHunt" "aim" "I") (List.mem_of_getElem? (i := 1) rfl)) (fun _ h9 => h9) rfl dB_36_1_58.1.1.2.1 ?_
  refine lv_icmp_gt (tgt := 17) hx hb dB_36_1_58.1.1.2.2 (by decide) (fun c_1 => ?_) (fun c_1 => ?_)
  · have t_1 : u3.toInt < a3.toInt := Int32.lt_iff_toInt_lt.mp c_1
    rw [hQ]
    exact W.vret hx hb hr (fun t ht hW => ⟨⟨(), rfl, trivial, u5, u6, (by first | exact scn_skip hs (fun j h1 h2 => hnt_big hh (by omega) hnn_ (by omega) h1 h2) | exact scn_found hs (by omega)), by rw [ht]; exact hP, hD⟩, hS.F ht⟩) hS.2.2 dB_36_1_58.2.1.1.1
  · have t_1 : ¬ u3.toInt < a3.toInt := fun h => c_1 (Int32.lt_iff_toInt_lt.mpr h)
    refine lv_aload_n hx hb dB_36_1_58.1.2.1.1 rfl (lv_at hl 0 rfl) ?_
    refine va_get (ci := 7) (v := .int u6) (C := RX7) (T := TX7) (N := 9) hx hb hts (fun _ h => List.mem_cons_of_mem _ (List.mem_append_left _ (List.mem_append_left _ (List.mem_append_right _ h)))) hown hK.1 hP 0 rfl rfl 6 (by decide) (hts (.fieldLink RX7 24 "CutAtlas$SetHunt" "found" "I") (List.mem_of_getElem? (i := 2) rfl)) (fun _ h9 => h9) rfl dB_36_1_58.1.2.1.2 ?_
    refine lv_bipush (v := (-9)) hx hb dB_36_1_58.1.2.2.1 (by decide) ?_
    refine lv_icmp_eq (tgt := 18) hx hb dB_36_1_58.1.2.2.2 (by decide) (fun c_2 => ?_) (fun c_2 => ?_)
    · have t_2 : u6.toInt = ((-9) : Int32).toInt := congrArg Int32.toInt c_2
      refine lv_iload_n hx hb dB_36_1_58.2.1.1.2 rfl (lv_at hl 1 rfl) ?_
      refine lv_if_ge (tgt := 29) hx hb dB_36_1_58.2.1.2.1 (by decide) (fun c_3 => ?_) (fun c_3 => ?_)
      · have t_3 : (0 : Int32).toInt ≤ a1.toInt := Int32.le_iff_toInt_le.mp c_3
        have cp_ := clI (i := a1) (by omega)
        have hK_ : (a1.toInt + 1).toNat = a1.toNatClampNeg + 1 := by omega
        have hh1_ : hnt (zM Ml) vp.toNatClampNeg (a1.toNatClampNeg + 1) u1 u2 a2 a3.toInt := by rw [hK_] at hh; exact hh
        have hap_ : a1.toInt < vp.toInt := by have h_ := hh1_.1; omega
        refine lv_iconst (v := 1) hx hb dB_36_1_59.1.1.1.1 (by decide) ?_
        refine lv_iload_n hx hb dB_36_1_59.1.1.1.2 rfl (lv_at hl 1 rfl) ?_
        refine lv_ishl hx hb dB_36_1_59.1.1.2.1 ?_
        refine lv_topi (fun y_4 ey_4 => ?_)
        refine lv_istore (lv' := [(4, .int y_4), (0, .ref xh), (1, .int a1), (2, .int a2), (3, .int a3)]) hx hb dB_36_1_59.1.1.2.2 hl (by decide) rfl (fun ls hl => ?_)
        have JOIN_5 : ∀ (o5_5 : Int32) (o6_5 : Int32) (H : Heap) (locs : List Loc) (ls : Array Slot), (scn (qF (zM Ml) vp.toNatClampNeg u1 u2 u3.toInt) u4.toInt (a2.toNatClampNeg + 2 ^ a1.toNatClampNeg) o5_5 o6_5) → pd_2 D vwCl A [ob7_0_ xh xc u1 u2 u3 u4 o5_5 o6_5 u7 u8, ob0_0_ xc xn xk clo cro c4 c5 c6 c7 c8, ob3_0_ xn vp vn n1 n2 n3 n4 n5, aq_ cy 6 clo 12 (gf_ rl), ai_ cy (rl 0) 12 (Ml 0), ai_ cy (rl 1) 12 (Ml 1), ai_ cy (rl 2) 12 (Ml 2), ai_ cy (rl 3) 12 (Ml 3), ai_ cy (rl 4) 12 (Ml 4), ai_ cy (rl 5) 12 (Ml 5), ai_ cy (rl 6) 12 (Ml 6), ai_ cy (rl 7) 12 (Ml 7), ai_ cy (rl 8) 12 (Ml 8), ai_ cy (rl 9) 12 (Ml 9), ai_ cy (rl 10) 12 (Ml 10), ai_ cy (rl 11) 12 (Ml 11)] H → va_S A s.heap H locs → lv_has ls 5 [(4, .int y_4), (0, .ref xh), (1, .int a1), (2, .int a2), (3, .int a3)] → W p l e ({ frames := 10, cells := 0, slots := 0, locals := 238 } : Room) s m (([.ref xh, .int a1, .int a2, .int a3] : List Value).toArray) below meth c H locs 0 0 Q (F0 m 60 ls []) := by
          intro o5_5 o6_5 H locs ls v0_5 hPD hS hl; obtain ⟨hP, hD⟩ := hPD
          refine lv_aload_n hx hb dB_36_1_60.1.2.1.2 rfl (lv_at hl 1 rfl) ?_
          refine va_get (ci := 7) (v := .int u2) (C := RX7) (T := TX7) (N := 9) hx hb hts (fun _ h => List.mem_cons_of_mem _ (List.mem_append_left _ (List.mem_append_left _ (List.mem_append_right _ h)))) hown hK.1 hP 0 rfl rfl 2 (by decide) (hts (.fieldLink RX7 30 "CutAtlas$SetHunt" "mustNot" "I") (List.mem_of_getElem? (i := 4) rfl)) (fun _ h9 => h9) rfl dB_36_1_60.1.2.2.1 ?_
          refine lv_iload hx hb dB_36_1_60.1.2.2.2 (lv_at hl 0 rfl) ?_
          refine lv_iand hx hb dB_36_1_60.2.1.1.1 ?_
          refine lv_topi (fun y_6 ey_6 => ?_)
          have hnu_ := and_bit (mu := u2) (by omega) (by omega) ey_4 ey_6
          refine lv_if_ne (tgt := 89) hx hb dB_36_1_60.2.1.1.2 (by decide) (fun c_7 => ?_) (fun c_7 => ?_)
          · have t_7 : ¬ y_6.toInt = (0 : Int32).toInt := fun h => c_7 (Int32.toInt_inj.mp h)
            rw [hQ]
            exact W.vret hx hb hr (fun t ht hW => ⟨⟨(), rfl, trivial, o5_5, o6_5, (by first | exact scn_to (scn_skip v0_5 (fun j h1 h2 => hnt_nout hh1_ (by omega) (hnu_.2 (by omega)) h1 h2)) (by rw [pw_K hK_]; omega) | exact scn_to of_none (by rw [hKq_, hst_.1, pw_K hK_]; omega)), by rw [ht]; exact hP, hD⟩, hS.F ht⟩) hS.2.2 dB_36_1_61.2.2.2.2
          · have t_7 : y_6.toInt = (0 : Int32).toInt := congrArg Int32.toInt c_7
            refine lv_aload_n hx hb dB_36_1_60.2.1.2.1 rfl (lv_at hl 1 rfl) ?_
            refine lv_iload_n hx hb dB_36_1_60.2.1.2.2 rfl (lv_at hl 2 rfl) ?_
            refine lv_iconst (v := 1) hx hb dB_36_1_60.2.2.1.1 (by decide) ?_
            refine lv_isub hx hb dB_36_1_60.2.2.1.2 ?_
            refine lv_topi (fun y_8 ey_8 => ?_)
            have ty_8 : y_8.toInt = a1.toInt - (1 : Int32).toInt := by rw [ey_8]; exact subI (by omega) (by omega)
            refine lv_iload_n hx hb dB_36_1_60.2.2.2.1 rfl (lv_at hl 3 rfl) ?_
            refine lv_iload hx hb dB_36_1_60.2.2.2.2 (lv_at hl 0 rfl) ?_
            refine lv_ior hx hb dB_36_1_61.1.1.1 ?_
            refine lv_topi (fun y_9 ey_9 => ?_)
            have hst_ := hnt_set hh1_ (by omega) (by omega) ey_4 ey_9
            refine lv_iload_n hx hb dB_36_1_61.1.1.2 rfl (lv_at hl 4 rfl) ?_
            refine lv_aload_n hx hb dB_36_1_61.1.2.1 rfl (lv_at hl 1 rfl) ?_
            refine lv_iload_n hx hb dB_36_1_61.1.2.2 rfl (lv_at hl 2 rfl) ?_
            refine lv_iload_n hx hb dB_36_1_61.2.1.1 rfl (lv_at hl 3 rfl) ?_
            refine ct_R hP hD [ob7_0_ xh xc u1 u2 u3 u4 o5_5 o6_5 u7 u8, ob0_0_ xc xn xk clo cro c4 c5 c6 c7 c8, ob3_0_ xn vp vn n1 n2 n3 n4 n5, aq_ cy 6 clo 12 (gf_ rl), ai_ cy (rl 0) 12 (Ml 0), ai_ cy (rl 1) 12 (Ml 1), ai_ cy (rl 2) 12 (Ml 2), ai_ cy (rl 3) 12 (Ml 3), ai_ cy (rl 4) 12 (Ml 4), ai_ cy (rl 5) 12 (Ml 5), ai_ cy (rl 6) 12 (Ml 6), ai_ cy (rl 7) 12 (Ml 7), ai_ cy (rl 8) 12 (Ml 8), ai_ cy (rl 9) 12 (Ml 9), ai_ cy (rl 10) 12 (Ml 10), ai_ cy (rl 11) 12 (Ml 11)] [0, 1, 2, 3, 4, 5, 6, 7, 8, 9, 10, 11, 12, 13, 14, 15] (by decide +kernel) rfl (fun hPc hDw => ?_)
            have hFc := va_free (wc := []) hD hS hA [] rfl
            refine va_calli (va_runV (As := [.int a1, .int a2]) (rest := [.int a3, .int y_9, .int y_8, .ref xh]) ⟨hx, hb, hml, hown, hts⟩ (c_X7_letOut2 l D cy H.size xh u1 u2 u3 u4 o5_5 o6_5 u7 u8 xc xk clo cro c4 c5 c6 c7 c8 xn n1 n2 n3 n4 n5 vp vn rl Ml a1 a2 (by first | with_reducible assumption | omega | assumption) (by first | with_reducible assumption | omega | assumption) (by first | with_reducible assumption | assumption | omega)) (cwV 2 hts gX7_chooseForCut_X7_letOut rfl rfl rfl ⟨rfl, hd_X7_letOut⟩ ⟨Nat.le_of_ble_eq_true rfl, Nat.le_of_ble_eq_true rfl⟩) ⟨bl_g, va_recvX hK.1 hP (ci := 7) (q0 := 0) rfl rfl, fun U hU hW => ⟨rfl, by rw [hU], by rw [hU]; exact hPc, ⟨kk_mv hW hK, arrOfT_moved hW.alike hG⟩, hDw⟩⟩ rfl rfl hl.1 rfl (lv_room (Nat.le_of_ble_eq_true rfl)) dB_36_1_61.2.1.2 ⟨Nat.le_of_ble_eq_true rfl, Nat.le_of_ble_eq_true rfl⟩) hS (fun q _ h => hFc q h) hFc (fun r_10 u t H locs ht hvm hw hB hz1 hk1 hS => ?_)
            have hP : va_P D vwCl _ H := ro_keep hP hk1
            obtain ⟨f0_r_10, f1_r_10⟩ := hw
            refine lv_iadd hx hb dB_36_1_61.2.2.1 ?_
            refine lv_topi (fun y_11 ey_11 => ?_)
            have ty_11 : y_11.toInt = a3.toInt + r_10.toInt := by rw [ey_11]; exact addI (by omega) (by omega)
            have hKq_ : (y_8.toInt + 1).toNat = a1.toNatClampNeg := by omega
            have hrh_ : hnt (zM Ml) vp.toNatClampNeg (y_8.toInt + 1).toNat u1 u2 y_9 y_11.toInt := by rw [hKq_]; exact hnt_out hh1_ (by omega) (by omega) ey_4 ey_9 (hnu_.1 (by omega)) ty_11 f0_r_10
            have hrs_ : scn (qF (zM Ml) vp.toNatClampNeg u1 u2 u3.toInt) u4.toInt y_9.toNatClampNeg o5_5 o6_5 := scn_to v0_5 hst_.1.symm
            refine ct_S hP hD hS hA [ob7_0_ xh xc u1 u2 u3 u4 o5_5 o6_5 u7 u8, ob0_0_ xc xn xk clo cro c4 c5 c6 c7 c8, ob3_0_ xn vp vn n1 n2 n3 n4 n5, aq_ cy 6 clo 12 (gf_ rl), ai_ cy (rl 0) 12 (Ml 0), ai_ cy (rl 1) 12 (Ml 1), ai_ cy (rl 2) 12 (Ml 2), ai_ cy (rl 3) 12 (Ml 3), ai_ cy (rl 4) 12 (Ml 4), ai_ cy (rl 5) 12 (Ml 5), ai_ cy (rl 6) 12 (Ml 6), ai_ cy (rl 7) 12 (Ml 7), ai_ cy (rl 8) 12 (Ml 8), ai_ cy (rl 9) 12 (Ml 9), ai_ cy (rl 10) 12 (Ml 10), ai_ cy (rl 11) 12 (Ml 11)] [0, 1, 2, 3, 4, 5, 6, 7, 8, 9, 10, 11, 12, 13, 14, 15] (by decide +kernel) rfl (fun hPc hDw hFc hC_ => ?_)
            refine va_callv (va_runV (As := [.int y_8, .int y_9, .int y_11]) (rest := []) ⟨hx, hb, hml, hown, hts⟩ (c_X7_chooseForCut2_8 l D cy H.size xh u1 u2 u3 u4 o5_5 o6_5 u7 u8 xc xk clo cro c4 c5 c6 c7 c8 xn n1 n2 n3 n4 n5 vp vn rl Ml y_8 y_9 y_11 (by first | with_reducible assumption | omega | assumption) (by first | with_reducible assumption | omega | assumption) (by first | with_reducible assumption | assumption | omega) (by first | with_reducible assumption | omega | assumption) (by first | with_reducible assumption | assumption | omega) (by first | with_reducible assumption | assumption | omega)) (cwV 3 hts gX7_chooseForCut_X7_chooseForCut rfl rfl rfl ⟨rfl, hd_X7_chooseForCut⟩ ⟨Nat.le_of_ble_eq_true rfl, Nat.le_of_ble_eq_true rfl⟩) ⟨bl_g, va_recvX hK.1 hP (ci := 7) (q0 := 0) rfl rfl, fun U hU hW => ⟨rfl, by rw [hU], by rw [hU]; exact hPc, ⟨kk_mv hW hK, arrOfT_moved hW.alike hG⟩, hDw⟩⟩ rfl rfl hl.1 rfl (lv_room (Nat.le_of_ble_eq_true rfl)) dB_36_1_61.2.2.2.1 ⟨Nat.le_of_ble_eq_true rfl, Nat.le_of_ble_eq_true rfl⟩) hS (fun q _ h => hFc q h) hFc (fun u t H locs ht hvm hw hB hz1 hk1 hS => ?_)
            obtain ⟨v5_13, v6_14, g_15, hP1, hD1⟩ := hB
            rw [ht] at hP1
            obtain ⟨hP, hD⟩ := va_join (wr := []) (w1 := [ob7_0_ xh xc u1 u2 u3 u4 v5_13 v6_14 u7 u8, ob0_0_ xc xn xk clo cro c4 c5 c6 c7 c8, ob3_0_ xn vp vn n1 n2 n3 n4 n5, aq_ cy 6 clo 12 (gf_ rl), ai_ cy (rl 0) 12 (Ml 0), ai_ cy (rl 1) 12 (Ml 1), ai_ cy (rl 2) 12 (Ml 2), ai_ cy (rl 3) 12 (Ml 3), ai_ cy (rl 4) 12 (Ml 4), ai_ cy (rl 5) 12 (Ml 5), ai_ cy (rl 6) 12 (Ml 6), ai_ cy (rl 7) 12 (Ml 7), ai_ cy (rl 8) 12 (Ml 8), ai_ cy (rl 9) 12 (Ml 9), ai_ cy (rl 10) 12 (Ml 10), ai_ cy (rl 11) 12 (Ml 11)]) hP hD [0, 1, 2, 3, 4, 5, 6, 7, 8, 9, 10, 11, 12, 13, 14, 15] [] hC_ rfl (by decide) (by decide) hk1 hFc hP1 hD1
            refine pd_K [ob7_0_ xh xc u1 u2 u3 u4 v5_13 v6_14 u7 u8, ob0_0_ xc xn xk clo cro c4 c5 c6 c7 c8, ob3_0_ xn vp vn n1 n2 n3 n4 n5, aq_ cy 6 clo 12 (gf_ rl), ai_ cy (rl 0) 12 (Ml 0), ai_ cy (rl 1) 12 (Ml 1), ai_ cy (rl 2) 12 (Ml 2), ai_ cy (rl 3) 12 (Ml 3), ai_ cy (rl 4) 12 (Ml 4), ai_ cy (rl 5) 12 (Ml 5), ai_ cy (rl 6) 12 (Ml 6), ai_ cy (rl 7) 12 (Ml 7), ai_ cy (rl 8) 12 (Ml 8), ai_ cy (rl 9) 12 (Ml 9), ai_ cy (rl 10) 12 (Ml 10), ai_ cy (rl 11) 12 (Ml 11)] hP hD (fun hP hD => ?_)
            rw [hQ]
            exact W.vret hx hb hr (fun t ht hW => ⟨⟨(), rfl, trivial, v5_13, v6_14, (by first | exact scn_to (scn_skip v0_5 (fun j h1 h2 => hnt_nout hh1_ (by omega) (hnu_.2 (by omega)) h1 h2)) (by rw [pw_K hK_]; omega) | exact scn_to g_15 (by rw [hKq_, hst_.1, pw_K hK_]; omega)), by rw [ht]; exact hP, hD⟩, hS.F ht⟩) hS.2.2 dB_36_1_61.2.2.2.2
        refine lv_aload_n hx hb dB_36_1_59.1.2.1.1 rfl (lv_at hl 1 rfl) ?_
        refine va_get (ci := 7) (v := .int u1) (C := RX7) (T := TX7) (N := 9) hx hb hts (fun _ h => List.mem_cons_of_mem _ (List.mem_append_left _ (List.mem_append_left _ (List.mem_append_right _ h)))) hown hK.1 hP 0 rfl rfl 1 (by decide) (hts (.fieldLink RX7 27 "CutAtlas$SetHunt" "must" "I") (List.mem_of_getElem? (i := 3) rfl)) (fun _ h9 => h9) rfl dB_36_1_59.1.2.1.2 ?_
        refine lv_iload hx hb dB_36_1_59.1.2.2.1 (lv_at hl 0 rfl) ?_
        refine lv_iand hx hb dB_36_1_59.1.2.2.2 ?_
        refine lv_topi (fun y_16 ey_16 => ?_)
        have hmu_ := and_bit (mu := u1) (by omega) (by omega) ey_4 ey_16
        refine lv_if_ne (tgt := 60) hx hb dB_36_1_59.2.1.1.1 (by decide) (fun c_17 => ?_) (fun c_17 => ?_)
        · have t_17 : ¬ y_16.toInt = (0 : Int32).toInt := fun h => c_17 (Int32.toInt_inj.mp h)
          exact JOIN_5 u5 u6 _ _ _ (by first | exact scn_skip hs (fun j h1 h2 => hnt_nin hh1_ (by omega) (hmu_.2 (by omega)) h1 h2) | exact scn_to of_none (by rw [hKr_])) ⟨hP, hD⟩ hS (lv_sub hl [0, 1, 2, 3, 4] rfl)
        · have t_17 : y_16.toInt = (0 : Int32).toInt := congrArg Int32.toInt c_17
          refine lv_aload_n hx hb dB_36_1_59.2.1.1.2 rfl (lv_at hl 1 rfl) ?_
          refine lv_iload_n hx hb dB_36_1_59.2.1.2.1 rfl (lv_at hl 2 rfl) ?_
          refine lv_iconst (v := 1) hx hb dB_36_1_59.2.1.2.2 (by decide) ?_
          refine lv_isub hx hb dB_36_1_59.2.2.1.1 ?_
          refine lv_topi (fun y_18 ey_18 => ?_)
          have ty_18 : y_18.toInt = a1.toInt - (1 : Int32).toInt := by rw [ey_18]; exact subI (by omega) (by omega)
          refine lv_iload_n hx hb dB_36_1_59.2.2.1.2 rfl (lv_at hl 3 rfl) ?_
          refine lv_iload_n hx hb dB_36_1_59.2.2.2.1 rfl (lv_at hl 4 rfl) ?_
          refine lv_aload_n hx hb dB_36_1_59.2.2.2.2 rfl (lv_at hl 1 rfl) ?_
          refine lv_iload_n hx hb dB_36_1_60.1.1.1.1 rfl (lv_at hl 2 rfl) ?_
          refine lv_iload_n hx hb dB_36_1_60.1.1.1.2 rfl (lv_at hl 3 rfl) ?_
          refine ct_R hP hD [ob7_0_ xh xc u1 u2 u3 u4 u5 u6 u7 u8, ob0_0_ xc xn xk clo cro c4 c5 c6 c7 c8, ob3_0_ xn vp vn n1 n2 n3 n4 n5, aq_ cy 6 clo 12 (gf_ rl), ai_ cy (rl 0) 12 (Ml 0), ai_ cy (rl 1) 12 (Ml 1), ai_ cy (rl 2) 12 (Ml 2), ai_ cy (rl 3) 12 (Ml 3), ai_ cy (rl 4) 12 (Ml 4), ai_ cy (rl 5) 12 (Ml 5), ai_ cy (rl 6) 12 (Ml 6), ai_ cy (rl 7) 12 (Ml 7), ai_ cy (rl 8) 12 (Ml 8), ai_ cy (rl 9) 12 (Ml 9), ai_ cy (rl 10) 12 (Ml 10), ai_ cy (rl 11) 12 (Ml 11)] [0, 1, 2, 3, 4, 5, 6, 7, 8, 9, 10, 11, 12, 13, 14, 15] (by decide +kernel) rfl (fun hPc hDw => ?_)
          have hFc := va_free (wc := []) hD hS hA [] rfl
          refine va_calli (va_runV (As := [.int a1, .int a2]) (rest := [.int a3, .int a2, .int y_18, .ref xh]) ⟨hx, hb, hml, hown, hts⟩ (c_X7_letIn2 l D cy s.heap.size xh u1 u2 u3 u4 u5 u6 u7 u8 xc xk clo cro c4 c5 c6 c7 c8 xn n1 n2 n3 n4 n5 vp vn rl Ml a1 a2 (by first | with_reducible assumption | omega | assumption) (by first | with_reducible assumption | omega | assumption) (by first | with_reducible assumption | assumption | omega)) (cwV 2 hts gX7_chooseForCut_X7_letIn rfl rfl rfl ⟨rfl, hd_X7_letIn⟩ ⟨Nat.le_of_ble_eq_true rfl, Nat.le_of_ble_eq_true rfl⟩) ⟨bl_g, va_recvX hK.1 hP (ci := 7) (q0 := 0) rfl rfl, fun U hU hW => ⟨rfl, by rw [hU], by rw [hU]; exact hPc, ⟨kk_mv hW hK, arrOfT_moved hW.alike hG⟩, hDw⟩⟩ rfl rfl hl.1 rfl (lv_room (Nat.le_of_ble_eq_true rfl)) dB_36_1_60.1.1.2.1 ⟨Nat.le_of_ble_eq_true rfl, Nat.le_of_ble_eq_true rfl⟩) hS (fun q _ h => hFc q h) hFc (fun r_19 u t H locs ht hvm hw hB hz1 hk1 hS => ?_)
          have hP : va_P D vwCl _ H := ro_keep hP hk1
          obtain ⟨f0_r_19, f1_r_19⟩ := hw
          refine lv_iadd hx hb dB_36_1_60.1.1.2.2 ?_
          refine lv_topi (fun y_20 ey_20 => ?_)
          have ty_20 : y_20.toInt = a3.toInt + r_19.toInt := by rw [ey_20]; exact addI (by omega) (by omega)
          have hKr_ : (y_18.toInt + 1).toNat = a1.toNatClampNeg := by omega
          have hrh_ : hnt (zM Ml) vp.toNatClampNeg (y_18.toInt + 1).toNat u1 u2 a2 y_20.toInt := by rw [hKr_]; exact hnt_in hh1_ (hmu_.1 (by omega)) ty_20 f0_r_19
          refine ct_S hP hD hS hA [ob7_0_ xh xc u1 u2 u3 u4 u5 u6 u7 u8, ob0_0_ xc xn xk clo cro c4 c5 c6 c7 c8, ob3_0_ xn vp vn n1 n2 n3 n4 n5, aq_ cy 6 clo 12 (gf_ rl), ai_ cy (rl 0) 12 (Ml 0), ai_ cy (rl 1) 12 (Ml 1), ai_ cy (rl 2) 12 (Ml 2), ai_ cy (rl 3) 12 (Ml 3), ai_ cy (rl 4) 12 (Ml 4), ai_ cy (rl 5) 12 (Ml 5), ai_ cy (rl 6) 12 (Ml 6), ai_ cy (rl 7) 12 (Ml 7), ai_ cy (rl 8) 12 (Ml 8), ai_ cy (rl 9) 12 (Ml 9), ai_ cy (rl 10) 12 (Ml 10), ai_ cy (rl 11) 12 (Ml 11)] [0, 1, 2, 3, 4, 5, 6, 7, 8, 9, 10, 11, 12, 13, 14, 15] (by decide +kernel) rfl (fun hPc hDw hFc hC_ => ?_)
          refine va_callv (va_runV (As := [.int y_18, .int a2, .int y_20]) (rest := []) ⟨hx, hb, hml, hown, hts⟩ (c_X7_chooseForCut2_8 l D cy H.size xh u1 u2 u3 u4 u5 u6 u7 u8 xc xk clo cro c4 c5 c6 c7 c8 xn n1 n2 n3 n4 n5 vp vn rl Ml y_18 a2 y_20 (by first | with_reducible assumption | omega | assumption) (by first | with_reducible assumption | omega | assumption) (by first | with_reducible assumption | assumption | omega) (by first | with_reducible assumption | omega | assumption) (by first | with_reducible assumption | assumption | omega) (by first | with_reducible assumption | assumption | omega)) (cwV 3 hts gX7_chooseForCut_X7_chooseForCut rfl rfl rfl ⟨rfl, hd_X7_chooseForCut⟩ ⟨Nat.le_of_ble_eq_true rfl, Nat.le_of_ble_eq_true rfl⟩) ⟨bl_g, va_recvX hK.1 hP (ci := 7) (q0 := 0) rfl rfl, fun U hU hW => ⟨rfl, by rw [hU], by rw [hU]; exact hPc, ⟨kk_mv hW hK, arrOfT_moved hW.alike hG⟩, hDw⟩⟩ rfl rfl hl.1 rfl (lv_room (Nat.le_of_ble_eq_true rfl)) dB_36_1_60.1.2.1.1 ⟨Nat.le_of_ble_eq_true rfl, Nat.le_of_ble_eq_true rfl⟩) hS (fun q _ h => hFc q h) hFc (fun u t H locs ht hvm hw hB hz1 hk1 hS => ?_)
          obtain ⟨v5_22, v6_23, g_24, hP1, hD1⟩ := hB
          rw [ht] at hP1
          obtain ⟨hP, hD⟩ := va_join (wr := []) (w1 := [ob7_0_ xh xc u1 u2 u3 u4 v5_22 v6_23 u7 u8, ob0_0_ xc xn xk clo cro c4 c5 c6 c7 c8, ob3_0_ xn vp vn n1 n2 n3 n4 n5, aq_ cy 6 clo 12 (gf_ rl), ai_ cy (rl 0) 12 (Ml 0), ai_ cy (rl 1) 12 (Ml 1), ai_ cy (rl 2) 12 (Ml 2), ai_ cy (rl 3) 12 (Ml 3), ai_ cy (rl 4) 12 (Ml 4), ai_ cy (rl 5) 12 (Ml 5), ai_ cy (rl 6) 12 (Ml 6), ai_ cy (rl 7) 12 (Ml 7), ai_ cy (rl 8) 12 (Ml 8), ai_ cy (rl 9) 12 (Ml 9), ai_ cy (rl 10) 12 (Ml 10), ai_ cy (rl 11) 12 (Ml 11)]) hP hD [0, 1, 2, 3, 4, 5, 6, 7, 8, 9, 10, 11, 12, 13, 14, 15] [] hC_ rfl (by decide) (by decide) hk1 hFc hP1 hD1
          refine pd_K [ob7_0_ xh xc u1 u2 u3 u4 v5_22 v6_23 u7 u8, ob0_0_ xc xn xk clo cro c4 c5 c6 c7 c8, ob3_0_ xn vp vn n1 n2 n3 n4 n5, aq_ cy 6 clo 12 (gf_ rl), ai_ cy (rl 0) 12 (Ml 0), ai_ cy (rl 1) 12 (Ml 1), ai_ cy (rl 2) 12 (Ml 2), ai_ cy (rl 3) 12 (Ml 3), ai_ cy (rl 4) 12 (Ml 4), ai_ cy (rl 5) 12 (Ml 5), ai_ cy (rl 6) 12 (Ml 6), ai_ cy (rl 7) 12 (Ml 7), ai_ cy (rl 8) 12 (Ml 8), ai_ cy (rl 9) 12 (Ml 9), ai_ cy (rl 10) 12 (Ml 10), ai_ cy (rl 11) 12 (Ml 11)] hP hD (fun hP hD => ?_)
          exact JOIN_5 v5_22 v6_23 _ _ _ (by first | exact scn_skip hs (fun j h1 h2 => hnt_nin hh1_ (by omega) (hmu_.2 (by omega)) h1 h2) | exact scn_to g_24 (by rw [hKr_])) ⟨hP, hD⟩ hS (lv_sub hl [0, 1, 2, 3, 4] rfl)
      · have t_3 : ¬ (0 : Int32).toInt ≤ a1.toInt := fun h => c_3 (Int32.le_iff_toInt_le.mpr h)
        have hK_ : (a1.toInt + 1).toNat = 0 := by omega
        have hh0_ : hnt (zM Ml) vp.toNatClampNeg 0 u1 u2 a2 a3.toInt := by rw [hK_] at hh; exact hh
        have hsn_ := scn_not hs (by omega) (by omega)
        have hcb_ := cnQ_nn (p := qF (zM Ml) vp.toNatClampNeg u1 u2 u3.toInt) (k := a2.toNatClampNeg)
        refine lv_aload_n hx hb dB_36_1_58.2.1.2.2 rfl (lv_at hl 0 rfl) ?_
        refine lv_iload_n hx hb dB_36_1_58.2.2.1.1 rfl (lv_at hl 2 rfl) ?_
        refine lv_iload_n hx hb dB_36_1_58.2.2.1.2 rfl (lv_at hl 3 rfl) ?_
        refine ct_S hP hD hS hA [ob7_0_ xh xc u1 u2 u3 u4 u5 u6 u7 u8] [0] (by decide) rfl (fun hPc hDw hFc hC_ => ?_)
        refine va_callv (va_runV (As := [.int a2, .int a3]) (rest := []) ⟨hx, hb, hml, hown, hts⟩ (c_X7_meet2 l D cy s.heap.size xh u1 u2 u3 u4 u5 u6 u7 u8 xc a2 a3 (by first | with_reducible assumption | omega | assumption)) (cwV 2 hts gX7_chooseForCut_X7_meet rfl rfl rfl ⟨rfl, hd_X7_meet⟩ ⟨Nat.le_of_ble_eq_true rfl, Nat.le_of_ble_eq_true rfl⟩) ⟨bl_, va_recvX hK.1 hP (ci := 7) (q0 := 0) rfl rfl, fun U hU hW => ⟨rfl, by rw [hU], by rw [hU]; exact hPc, kk_mv hW hK, hDw⟩⟩ rfl rfl hl.1 rfl (lv_room (Nat.le_of_ble_eq_true rfl)) dB_36_1_58.2.2.2.1 ⟨Nat.le_of_ble_eq_true rfl, Nat.le_of_ble_eq_true rfl⟩) hS (fun q _ h => hFc q h) hFc (fun u t H locs ht hvm hw hB hz1 hk1 hS => ?_)
        obtain ⟨v5_26, v6_27, g_28, hP1, hD1⟩ := hB
        rw [ht] at hP1
        obtain ⟨hP, hD⟩ := va_join (wr := [ob0_0_ xc xn xk clo cro c4 c5 c6 c7 c8, ob3_0_ xn vp vn n1 n2 n3 n4 n5, aq_ cy 6 clo 12 (gf_ rl), ai_ cy (rl 0) 12 (Ml 0), ai_ cy (rl 1) 12 (Ml 1), ai_ cy (rl 2) 12 (Ml 2), ai_ cy (rl 3) 12 (Ml 3), ai_ cy (rl 4) 12 (Ml 4), ai_ cy (rl 5) 12 (Ml 5), ai_ cy (rl 6) 12 (Ml 6), ai_ cy (rl 7) 12 (Ml 7), ai_ cy (rl 8) 12 (Ml 8), ai_ cy (rl 9) 12 (Ml 9), ai_ cy (rl 10) 12 (Ml 10), ai_ cy (rl 11) 12 (Ml 11)]) (w1 := [ob7_0_ xh xc u1 u2 u3 u4 v5_26 v6_27 u7 u8]) hP hD [0] [1, 2, 3, 4, 5, 6, 7, 8, 9, 10, 11, 12, 13, 14, 15] hC_ rfl (by decide +kernel) (by decide +kernel) hk1 hFc hP1 hD1
        refine pd_S hP hD [ob7_0_ xh xc u1 u2 u3 u4 v5_26 v6_27 u7 u8, ob0_0_ xc xn xk clo cro c4 c5 c6 c7 c8, ob3_0_ xn vp vn n1 n2 n3 n4 n5, aq_ cy 6 clo 12 (gf_ rl), ai_ cy (rl 0) 12 (Ml 0), ai_ cy (rl 1) 12 (Ml 1), ai_ cy (rl 2) 12 (Ml 2), ai_ cy (rl 3) 12 (Ml 3), ai_ cy (rl 4) 12 (Ml 4), ai_ cy (rl 5) 12 (Ml 5), ai_ cy (rl 6) 12 (Ml 6), ai_ cy (rl 7) 12 (Ml 7), ai_ cy (rl 8) 12 (Ml 8), ai_ cy (rl 9) 12 (Ml 9), ai_ cy (rl 10) 12 (Ml 10), ai_ cy (rl 11) 12 (Ml 11)] [15, 0, 1, 2, 3, 4, 5, 6, 7, 8, 9, 10, 11, 12, 13, 14] (by decide +kernel) rfl (fun hP hD => ?_)
        rw [hQ]
        exact W.vret hx hb hr (fun t ht hW => ⟨⟨(), rfl, trivial, v5_26, v6_27, (scn_to (leaf_end hs (by omega) hlt_ (hnt_leaf hh0_ (by omega)) g_28) (by rw [hK_])), by rw [ht]; exact hP, hD⟩, hS.F ht⟩) hS.2.2 dB_36_1_58.2.2.2.2
    · have t_2 : ¬ u6.toInt = ((-9) : Int32).toInt := fun h => c_2 (Int32.toInt_inj.mp h)
      rw [hQ]
      exact W.vret hx hb hr (fun t ht hW => ⟨⟨(), rfl, trivial, u5, u6, (by first | exact scn_skip hs (fun j h1 h2 => hnt_big hh (by omega) hnn_ (by omega) h1 h2) | exact scn_found hs (by omega)), by rw [ht]; exact hP, hD⟩, hS.F ht⟩) hS.2.2 dB_36_1_58.2.1.1.1

set_option maxHeartbeats 4000000 in
set_option maxRecDepth 100000 in
theorem c_X7_chooseForCut2_10 (l : Launch) (D : va_G) (cy : Nat → ClassId) (sz : Nat) (xh : Nat) (u1 : Int32) (u2 : Int32) (u3 : Int32) (u4 : Int32) (u5 : Int32) (u6 : Int32) (u7 : Int32) (u8 : Int32) (xc : Nat) (xk : Nat) (clo : Nat) (cro : Nat) (c4 : Nat) (c5 : Nat) (c6 : Nat) (c7 : Nat) (c8 : Nat) (xn : Nat) (n1 : Nat) (n2 : Nat) (n3 : Nat) (n4 : Nat) (n5 : Nat) (vp : Int32) (vn : Int32) (rl : Nat → Nat) (Ml : Nat → Nat → Int32) (a1 : Int32) (a2 : Int32) (a3 : Int32) (hvp : 0 ≤ vp.toInt ∧ vp.toInt ≤ 12) (q1 : -1 ≤ a1.toInt ∧ a1.toInt < 10) (hM : ∀ x y : Nat, x < vp.toNatClampNeg → y < vp.toNatClampNeg → 0 ≤ zM Ml x y ∧ zM Ml x y ≤ 80000000) (hA : 0 ≤ u3.toInt ∧ u3.toInt ≤ 1000000) (hh : hnt (zM Ml) vp.toNatClampNeg (a1.toInt + 1).toNat u1 u2 a2 a3.toInt) (hs : scn (qF (zM Ml) vp.toNatClampNeg u1 u2 u3.toInt) u4.toInt a2.toNatClampNeg u5 u6) : Met l yX7_chooseForCut wsX7_chooseForCut ({ frames := 11, cells := 0, slots := 0, locals := 262 }) (va_Pc [.ref xh, .int a1, .int a2, .int a3] (fun U => U.heap.size = sz ∧ va_P D vwCl [ob7_0_ xh xc u1 u2 u3 u4 u5 u6 u7 u8, ob0_0_ xc xn xk clo cro c4 c5 c6 c7 c8, ob3_0_ xn vp vn n1 n2 n3 n4 n5, aq_ cy 6 clo 12 (gf_ rl), ai_ cy (rl 0) 12 (Ml 0), ai_ cy (rl 1) 12 (Ml 1), ai_ cy (rl 2) 12 (Ml 2), ai_ cy (rl 3) 12 (Ml 3), ai_ cy (rl 4) 12 (Ml 4), ai_ cy (rl 5) 12 (Ml 5), ai_ cy (rl 6) 12 (Ml 6), ai_ cy (rl 7) 12 (Ml 7), ai_ cy (rl 8) 12 (Ml 8), ai_ cy (rl 9) 12 (Ml 9), ai_ cy (rl 10) 12 (Ml 10), ai_ cy (rl 11) 12 (Ml 11)] U.heap ∧ kg_ D cy U ∧ va_D (fun _ => True) [ob7_0_ xh xc u1 u2 u3 u4 u5 u6 u7 u8, ob0_0_ xc xn xk clo cro c4 c5 c6 c7 c8, ob3_0_ xn vp vn n1 n2 n3 n4 n5, aq_ cy 6 clo 12 (gf_ rl), ai_ cy (rl 0) 12 (Ml 0), ai_ cy (rl 1) 12 (Ml 1), ai_ cy (rl 2) 12 (Ml 2), ai_ cy (rl 3) 12 (Ml 3), ai_ cy (rl 4) 12 (Ml 4), ai_ cy (rl 5) 12 (Ml 5), ai_ cy (rl 6) 12 (Ml 6), ai_ cy (rl 7) 12 (Ml 7), ai_ cy (rl 8) 12 (Ml 8), ai_ cy (rl 9) 12 (Ml 9), ai_ cy (rl 10) 12 (Ml 10), ai_ cy (rl 11) 12 (Ml 11)])) (va_Qv (fun (_ : Unit) => True) (fun (_ : Unit) (t : State) => ∃ (v5 : Int32), ∃ (v6 : Int32), (scn (qF (zM Ml) vp.toNatClampNeg u1 u2 u3.toInt) u4.toInt (a2.toNatClampNeg + 2 ^ (a1.toInt + 1).toNat) v5 v6) ∧ va_P D vwCl [ob7_0_ xh xc u1 u2 u3 u4 v5 v6 u7 u8, ob0_0_ xc xn xk clo cro c4 c5 c6 c7 c8, ob3_0_ xn vp vn n1 n2 n3 n4 n5, aq_ cy 6 clo 12 (gf_ rl), ai_ cy (rl 0) 12 (Ml 0), ai_ cy (rl 1) 12 (Ml 1), ai_ cy (rl 2) 12 (Ml 2), ai_ cy (rl 3) 12 (Ml 3), ai_ cy (rl 4) 12 (Ml 4), ai_ cy (rl 5) 12 (Ml 5), ai_ cy (rl 6) 12 (Ml 6), ai_ cy (rl 7) 12 (Ml 7), ai_ cy (rl 8) 12 (Ml 8), ai_ cy (rl 9) 12 (Ml 9), ai_ cy (rl 10) 12 (Ml 10), ai_ cy (rl 11) 12 (Ml 11)] t.heap ∧ va_D (va_A [ob7_0_ xh xc u1 u2 u3 u4 u5 u6 u7 u8, ob0_0_ xc xn xk clo cro c4 c5 c6 c7 c8, ob3_0_ xn vp vn n1 n2 n3 n4 n5, aq_ cy 6 clo 12 (gf_ rl), ai_ cy (rl 0) 12 (Ml 0), ai_ cy (rl 1) 12 (Ml 1), ai_ cy (rl 2) 12 (Ml 2), ai_ cy (rl 3) 12 (Ml 3), ai_ cy (rl 4) 12 (Ml 4), ai_ cy (rl 5) 12 (Ml 5), ai_ cy (rl 6) 12 (Ml 6), ai_ cy (rl 7) 12 (Ml 7), ai_ cy (rl 8) 12 (Ml 8), ai_ cy (rl 9) 12 (Ml 9), ai_ cy (rl 10) 12 (Ml 10), ai_ cy (rl 11) 12 (Ml 11)] sz) [ob7_0_ xh xc u1 u2 u3 u4 v5 v6 u7 u8, ob0_0_ xc xn xk clo cro c4 c5 c6 c7 c8, ob3_0_ xn vp vn n1 n2 n3 n4 n5, aq_ cy 6 clo 12 (gf_ rl), ai_ cy (rl 0) 12 (Ml 0), ai_ cy (rl 1) 12 (Ml 1), ai_ cy (rl 2) 12 (Ml 2), ai_ cy (rl 3) 12 (Ml 3), ai_ cy (rl 4) 12 (Ml 4), ai_ cy (rl 5) 12 (Ml 5), ai_ cy (rl 6) 12 (Ml 6), ai_ cy (rl 7) 12 (Ml 7), ai_ cy (rl 8) 12 (Ml 8), ai_ cy (rl 9) 12 (Ml 9), ai_ cy (rl 10) 12 (Ml 10), ai_ cy (rl 11) 12 (Ml 11)]) (va_A [ob7_0_ xh xc u1 u2 u3 u4 u5 u6 u7 u8, ob0_0_ xc xn xk clo cro c4 c5 c6 c7 c8, ob3_0_ xn vp vn n1 n2 n3 n4 n5, aq_ cy 6 clo 12 (gf_ rl), ai_ cy (rl 0) 12 (Ml 0), ai_ cy (rl 1) 12 (Ml 1), ai_ cy (rl 2) 12 (Ml 2), ai_ cy (rl 3) 12 (Ml 3), ai_ cy (rl 4) 12 (Ml 4), ai_ cy (rl 5) 12 (Ml 5), ai_ cy (rl 6) 12 (Ml 6), ai_ cy (rl 7) 12 (Ml 7), ai_ cy (rl 8) 12 (Ml 8), ai_ cy (rl 9) 12 (Ml 9), ai_ cy (rl 10) 12 (Ml 10), ai_ cy (rl 11) 12 (Ml 11)] sz)) 0 0 (va_A [ob7_0_ xh xc u1 u2 u3 u4 u5 u6 u7 u8, ob0_0_ xc xn xk clo cro c4 c5 c6 c7 c8, ob3_0_ xn vp vn n1 n2 n3 n4 n5, aq_ cy 6 clo 12 (gf_ rl), ai_ cy (rl 0) 12 (Ml 0), ai_ cy (rl 1) 12 (Ml 1), ai_ cy (rl 2) 12 (Ml 2), ai_ cy (rl 3) 12 (Ml 3), ai_ cy (rl 4) 12 (Ml 4), ai_ cy (rl 5) 12 (Ml 5), ai_ cy (rl 6) 12 (Ml 6), ai_ cy (rl 7) 12 (Ml 7), ai_ cy (rl 8) 12 (Ml 8), ai_ cy (rl 9) 12 (Ml 9), ai_ cy (rl 10) 12 (Ml 10), ai_ cy (rl 11) 12 (Ml 11)] sz) := by
  refine ofQ (cc := cX7_chooseForCut) (maxL := 5) (ret := none) (by decide) rfl ?_
  intro p e s m args below meth c s₁ Q hQ B hml hv
  obtain ⟨rfl, hsz, hP, hK, hD0⟩ := hv
  have hG := hK.2
  have hK := hK.1
  have hx := B.exec
  have hb := B.bytes
  have hr := B.returns
  have hts := atoms_spec (ws := wsX7_chooseForCut) B.pre
  have hown : s.vm.findClass RX7 = some m.cls := by have h_ := findClass_of_methodNamed B.named; exact h_
  have hlocks := B.notSynchronized
  subst hsz
  have hD := hD0.self (sz := s.heap.size)
  generalize hAe : va_A [ob7_0_ xh xc u1 u2 u3 u4 u5 u6 u7 u8, ob0_0_ xc xn xk clo cro c4 c5 c6 c7 c8, ob3_0_ xn vp vn n1 n2 n3 n4 n5, aq_ cy 6 clo 12 (gf_ rl), ai_ cy (rl 0) 12 (Ml 0), ai_ cy (rl 1) 12 (Ml 1), ai_ cy (rl 2) 12 (Ml 2), ai_ cy (rl 3) 12 (Ml 3), ai_ cy (rl 4) 12 (Ml 4), ai_ cy (rl 5) 12 (Ml 5), ai_ cy (rl 6) 12 (Ml 6), ai_ cy (rl 7) 12 (Ml 7), ai_ cy (rl 8) 12 (Ml 8), ai_ cy (rl 9) 12 (Ml 9), ai_ cy (rl 10) 12 (Ml 10), ai_ cy (rl 11) 12 (Ml 11)] s.heap.size = A at hD hQ
  have hA : ∀ q : Nat, s.heap.size ≤ q → A q := fun q h => by rw [← hAe]; exact Or.inr h
  have hS : va_S A s.heap s.heap [] := va_S.rf
  have hl := lv_entry ([.ref xh, .int a1, .int a2, .int a3]) (n := 5) (Nat.le_of_ble_eq_true rfl)
  rw [lg_entry_eq]
  generalize (lg_sl ([.ref xh, .int a1, .int a2, .int a3]) ++ List.replicate (5 - (lg_sl ([.ref xh, .int a1, .int a2, .int a3])).length) Slot.unset).toArray = ls at hl ⊢
  have hl : lv_has ls 5 [(0, .ref xh), (1, .int a1), (2, .int a2), (3, .int a3)] := hl
  have zm9 : ((-9) : Int32).toInt = -9 := by decide
  have z0 : (0 : Int32).toInt = 0 := by decide
  have z1 : (1 : Int32).toInt = 1 := by decide
  have cv_ := clI (i := vp) (by omega)
  have hnn_ : ∀ x y : Nat, x < vp.toNatClampNeg → y < vp.toNatClampNeg → 0 ≤ zM Ml x y := fun x y hx hy => (hM x y hx hy).1
  have ha3_ := hnt_nn hh hnn_
  have hlt_ := hnt_lt hh (by omega)
  refine lv_iload_n hx hb dB_36_1_58.1.1.1.1 rfl (lv_at hl 3 rfl) ?_
  refine lv_aload_n hx hb dB_36_1_58.1.1.1.2 rfl (lv_at hl 0 rfl) ?_
  refine va_get (ci := 7) (v := .int u3) (C := RX7) (T := TX7) (N := 9) hx hb hts (fun _ h => List.mem_cons_of_mem _ (List.mem_append_left _ (List.mem_append_left _ (List.mem_append_right _ h)))) hown hK.1 hP 0 rfl rfl 3 (by decide) (hts (.fieldLink RX7 33 "CutAtlas$SetHunt" "aim" "I") (List.mem_of_getElem? (i := 1) rfl)) (fun _ h9 => h9) rfl dB_36_1_58.1.1.2.1 ?_
  refine lv_icmp_gt (tgt := 17) hx hb dB_36_1_58.1.1.2.2 (by decide) (fun c_1 => ?_) (fun c_1 => ?_)
  · have t_1 : u3.toInt < a3.toInt := Int32.lt_iff_toInt_lt.mp c_1
    rw [hQ]
    exact W.vret hx hb hr (fun t ht hW => ⟨⟨(), rfl, trivial, u5, u6, (by first | exact scn_skip hs (fun j h1 h2 => hnt_big hh (by omega) hnn_ (by omega) h1 h2) | exact scn_found hs (by omega)), by rw [ht]; exact hP, hD⟩, hS.F ht⟩) hS.2.2 dB_36_1_58.2.1.1.1
  · have t_1 : ¬ u3.toInt < a3.toInt := fun h => c_1 (Int32.lt_iff_toInt_lt.mpr h)
    refine lv_aload_n hx hb dB_36_1_58.1.2.1.1 rfl (lv_at hl 0 rfl) ?_
    refine va_get (ci := 7) (v := .int u6) (C := RX7) (T := TX7) (N := 9) hx hb hts (fun _ h => List.mem_cons_of_mem _ (List.mem_append_left _ (List.mem_append_left _ (List.mem_append_right _ h)))) hown hK.1 hP 0 rfl rfl 6 (by decide) (hts (.fieldLink RX7 24 "CutAtlas$SetHunt" "found" "I") (List.mem_of_getElem? (i := 2) rfl)) (fun _ h9 => h9) rfl dB_36_1_58.1.2.1.2 ?_
    refine lv_bipush (v := (-9)) hx hb dB_36_1_58.1.2.2.1 (by decide) ?_
    refine lv_icmp_eq (tgt := 18) hx hb dB_36_1_58.1.2.2.2 (by decide) (fun c_2 => ?_) (fun c_2 => ?_)
    · have t_2 : u6.toInt = ((-9) : Int32).toInt := congrArg Int32.toInt c_2
      refine lv_iload_n hx hb dB_36_1_58.2.1.1.2 rfl (lv_at hl 1 rfl) ?_
      refine lv_if_ge (tgt := 29) hx hb dB_36_1_58.2.1.2.1 (by decide) (fun c_3 => ?_) (fun c_3 => ?_)
      · have t_3 : (0 : Int32).toInt ≤ a1.toInt := Int32.le_iff_toInt_le.mp c_3
        have cp_ := clI (i := a1) (by omega)
        have hK_ : (a1.toInt + 1).toNat = a1.toNatClampNeg + 1 := by omega
        have hh1_ : hnt (zM Ml) vp.toNatClampNeg (a1.toNatClampNeg + 1) u1 u2 a2 a3.toInt := by rw [hK_] at hh; exact hh
        have hap_ : a1.toInt < vp.toInt := by have h_ := hh1_.1; omega
        refine lv_iconst (v := 1) hx hb dB_36_1_59.1.1.1.1 (by decide) ?_
        refine lv_iload_n hx hb dB_36_1_59.1.1.1.2 rfl (lv_at hl 1 rfl) ?_
        refine lv_ishl hx hb dB_36_1_59.1.1.2.1 ?_
        refine lv_topi (fun y_4 ey_4 => ?_)
        refine lv_istore (lv' := [(4, .int y_4), (0, .ref xh), (1, .int a1), (2, .int a2), (3, .int a3)]) hx hb dB_36_1_59.1.1.2.2 hl (by decide) rfl (fun ls hl => ?_)
        have JOIN_5 : ∀ (o5_5 : Int32) (o6_5 : Int32) (H : Heap) (locs : List Loc) (ls : Array Slot), (scn (qF (zM Ml) vp.toNatClampNeg u1 u2 u3.toInt) u4.toInt (a2.toNatClampNeg + 2 ^ a1.toNatClampNeg) o5_5 o6_5) → pd_2 D vwCl A [ob7_0_ xh xc u1 u2 u3 u4 o5_5 o6_5 u7 u8, ob0_0_ xc xn xk clo cro c4 c5 c6 c7 c8, ob3_0_ xn vp vn n1 n2 n3 n4 n5, aq_ cy 6 clo 12 (gf_ rl), ai_ cy (rl 0) 12 (Ml 0), ai_ cy (rl 1) 12 (Ml 1), ai_ cy (rl 2) 12 (Ml 2), ai_ cy (rl 3) 12 (Ml 3), ai_ cy (rl 4) 12 (Ml 4), ai_ cy (rl 5) 12 (Ml 5), ai_ cy (rl 6) 12 (Ml 6), ai_ cy (rl 7) 12 (Ml 7), ai_ cy (rl 8) 12 (Ml 8), ai_ cy (rl 9) 12 (Ml 9), ai_ cy (rl 10) 12 (Ml 10), ai_ cy (rl 11) 12 (Ml 11)] H → va_S A s.heap H locs → lv_has ls 5 [(4, .int y_4), (0, .ref xh), (1, .int a1), (2, .int a2), (3, .int a3)] → W p l e ({ frames := 11, cells := 0, slots := 0, locals := 262 } : Room) s m (([.ref xh, .int a1, .int a2, .int a3] : List Value).toArray) below meth c H locs 0 0 Q (F0 m 60 ls []) := by
          intro o5_5 o6_5 H locs ls v0_5 hPD hS hl; obtain ⟨hP, hD⟩ := hPD
          refine lv_aload_n hx hb dB_36_1_60.1.2.1.2 rfl (lv_at hl 1 rfl) ?_
          refine va_get (ci := 7) (v := .int u2) (C := RX7) (T := TX7) (N := 9) hx hb hts (fun _ h => List.mem_cons_of_mem _ (List.mem_append_left _ (List.mem_append_left _ (List.mem_append_right _ h)))) hown hK.1 hP 0 rfl rfl 2 (by decide) (hts (.fieldLink RX7 30 "CutAtlas$SetHunt" "mustNot" "I") (List.mem_of_getElem? (i := 4) rfl)) (fun _ h9 => h9) rfl dB_36_1_60.1.2.2.1 ?_
          refine lv_iload hx hb dB_36_1_60.1.2.2.2 (lv_at hl 0 rfl) ?_
          refine lv_iand hx hb dB_36_1_60.2.1.1.1 ?_
          refine lv_topi (fun y_6 ey_6 => ?_)
          have hnu_ := and_bit (mu := u2) (by omega) (by omega) ey_4 ey_6
          refine lv_if_ne (tgt := 89) hx hb dB_36_1_60.2.1.1.2 (by decide) (fun c_7 => ?_) (fun c_7 => ?_)
          · have t_7 : ¬ y_6.toInt = (0 : Int32).toInt := fun h => c_7 (Int32.toInt_inj.mp h)
            rw [hQ]
            exact W.vret hx hb hr (fun t ht hW => ⟨⟨(), rfl, trivial, o5_5, o6_5, (by first | exact scn_to (scn_skip v0_5 (fun j h1 h2 => hnt_nout hh1_ (by omega) (hnu_.2 (by omega)) h1 h2)) (by rw [pw_K hK_]; omega) | exact scn_to of_none (by rw [hKq_, hst_.1, pw_K hK_]; omega)), by rw [ht]; exact hP, hD⟩, hS.F ht⟩) hS.2.2 dB_36_1_61.2.2.2.2
          · have t_7 : y_6.toInt = (0 : Int32).toInt := congrArg Int32.toInt c_7
            refine lv_aload_n hx hb dB_36_1_60.2.1.2.1 rfl (lv_at hl 1 rfl) ?_
            refine lv_iload_n hx hb dB_36_1_60.2.1.2.2 rfl (lv_at hl 2 rfl) ?_
            refine lv_iconst (v := 1) hx hb dB_36_1_60.2.2.1.1 (by decide) ?_
            refine lv_isub hx hb dB_36_1_60.2.2.1.2 ?_
            refine lv_topi (fun y_8 ey_8 => ?_)
            have ty_8 : y_8.toInt = a1.toInt - (1 : Int32).toInt := by rw [ey_8]; exact subI (by omega) (by omega)
            refine lv_iload_n hx hb dB_36_1_60.2.2.2.1 rfl (lv_at hl 3 rfl) ?_
            refine lv_iload hx hb dB_36_1_60.2.2.2.2 (lv_at hl 0 rfl) ?_
            refine lv_ior hx hb dB_36_1_61.1.1.1 ?_
            refine lv_topi (fun y_9 ey_9 => ?_)
            have hst_ := hnt_set hh1_ (by omega) (by omega) ey_4 ey_9
            refine lv_iload_n hx hb dB_36_1_61.1.1.2 rfl (lv_at hl 4 rfl) ?_
            refine lv_aload_n hx hb dB_36_1_61.1.2.1 rfl (lv_at hl 1 rfl) ?_
            refine lv_iload_n hx hb dB_36_1_61.1.2.2 rfl (lv_at hl 2 rfl) ?_
            refine lv_iload_n hx hb dB_36_1_61.2.1.1 rfl (lv_at hl 3 rfl) ?_
            refine ct_R hP hD [ob7_0_ xh xc u1 u2 u3 u4 o5_5 o6_5 u7 u8, ob0_0_ xc xn xk clo cro c4 c5 c6 c7 c8, ob3_0_ xn vp vn n1 n2 n3 n4 n5, aq_ cy 6 clo 12 (gf_ rl), ai_ cy (rl 0) 12 (Ml 0), ai_ cy (rl 1) 12 (Ml 1), ai_ cy (rl 2) 12 (Ml 2), ai_ cy (rl 3) 12 (Ml 3), ai_ cy (rl 4) 12 (Ml 4), ai_ cy (rl 5) 12 (Ml 5), ai_ cy (rl 6) 12 (Ml 6), ai_ cy (rl 7) 12 (Ml 7), ai_ cy (rl 8) 12 (Ml 8), ai_ cy (rl 9) 12 (Ml 9), ai_ cy (rl 10) 12 (Ml 10), ai_ cy (rl 11) 12 (Ml 11)] [0, 1, 2, 3, 4, 5, 6, 7, 8, 9, 10, 11, 12, 13, 14, 15] (by decide +kernel) rfl (fun hPc hDw => ?_)
            have hFc := va_free (wc := []) hD hS hA [] rfl
            refine va_calli (va_runV (As := [.int a1, .int a2]) (rest := [.int a3, .int y_9, .int y_8, .ref xh]) ⟨hx, hb, hml, hown, hts⟩ (c_X7_letOut2 l D cy H.size xh u1 u2 u3 u4 o5_5 o6_5 u7 u8 xc xk clo cro c4 c5 c6 c7 c8 xn n1 n2 n3 n4 n5 vp vn rl Ml a1 a2 (by first | with_reducible assumption | omega | assumption) (by first | with_reducible assumption | omega | assumption) (by first | with_reducible assumption | assumption | omega)) (cwV 2 hts gX7_chooseForCut_X7_letOut rfl rfl rfl ⟨rfl, hd_X7_letOut⟩ ⟨Nat.le_of_ble_eq_true rfl, Nat.le_of_ble_eq_true rfl⟩) ⟨bl_g, va_recvX hK.1 hP (ci := 7) (q0 := 0) rfl rfl, fun U hU hW => ⟨rfl, by rw [hU], by rw [hU]; exact hPc, ⟨kk_mv hW hK, arrOfT_moved hW.alike hG⟩, hDw⟩⟩ rfl rfl hl.1 rfl (lv_room (Nat.le_of_ble_eq_true rfl)) dB_36_1_61.2.1.2 ⟨Nat.le_of_ble_eq_true rfl, Nat.le_of_ble_eq_true rfl⟩) hS (fun q _ h => hFc q h) hFc (fun r_10 u t H locs ht hvm hw hB hz1 hk1 hS => ?_)
            have hP : va_P D vwCl _ H := ro_keep hP hk1
            obtain ⟨f0_r_10, f1_r_10⟩ := hw
            refine lv_iadd hx hb dB_36_1_61.2.2.1 ?_
            refine lv_topi (fun y_11 ey_11 => ?_)
            have ty_11 : y_11.toInt = a3.toInt + r_10.toInt := by rw [ey_11]; exact addI (by omega) (by omega)
            have hKq_ : (y_8.toInt + 1).toNat = a1.toNatClampNeg := by omega
            have hrh_ : hnt (zM Ml) vp.toNatClampNeg (y_8.toInt + 1).toNat u1 u2 y_9 y_11.toInt := by rw [hKq_]; exact hnt_out hh1_ (by omega) (by omega) ey_4 ey_9 (hnu_.1 (by omega)) ty_11 f0_r_10
            have hrs_ : scn (qF (zM Ml) vp.toNatClampNeg u1 u2 u3.toInt) u4.toInt y_9.toNatClampNeg o5_5 o6_5 := scn_to v0_5 hst_.1.symm
            refine ct_S hP hD hS hA [ob7_0_ xh xc u1 u2 u3 u4 o5_5 o6_5 u7 u8, ob0_0_ xc xn xk clo cro c4 c5 c6 c7 c8, ob3_0_ xn vp vn n1 n2 n3 n4 n5, aq_ cy 6 clo 12 (gf_ rl), ai_ cy (rl 0) 12 (Ml 0), ai_ cy (rl 1) 12 (Ml 1), ai_ cy (rl 2) 12 (Ml 2), ai_ cy (rl 3) 12 (Ml 3), ai_ cy (rl 4) 12 (Ml 4), ai_ cy (rl 5) 12 (Ml 5), ai_ cy (rl 6) 12 (Ml 6), ai_ cy (rl 7) 12 (Ml 7), ai_ cy (rl 8) 12 (Ml 8), ai_ cy (rl 9) 12 (Ml 9), ai_ cy (rl 10) 12 (Ml 10), ai_ cy (rl 11) 12 (Ml 11)] [0, 1, 2, 3, 4, 5, 6, 7, 8, 9, 10, 11, 12, 13, 14, 15] (by decide +kernel) rfl (fun hPc hDw hFc hC_ => ?_)
            refine va_callv (va_runV (As := [.int y_8, .int y_9, .int y_11]) (rest := []) ⟨hx, hb, hml, hown, hts⟩ (c_X7_chooseForCut2_9 l D cy H.size xh u1 u2 u3 u4 o5_5 o6_5 u7 u8 xc xk clo cro c4 c5 c6 c7 c8 xn n1 n2 n3 n4 n5 vp vn rl Ml y_8 y_9 y_11 (by first | with_reducible assumption | omega | assumption) (by first | with_reducible assumption | omega | assumption) (by first | with_reducible assumption | assumption | omega) (by first | with_reducible assumption | omega | assumption) (by first | with_reducible assumption | assumption | omega) (by first | with_reducible assumption | assumption | omega)) (cwV 3 hts gX7_chooseForCut_X7_chooseForCut rfl rfl rfl ⟨rfl, hd_X7_chooseForCut⟩ ⟨Nat.le_of_ble_eq_true rfl, Nat.le_of_ble_eq_true rfl⟩) ⟨bl_g, va_recvX hK.1 hP (ci := 7) (q0 := 0) rfl rfl, fun U hU hW => ⟨rfl, by rw [hU], by rw [hU]; exact hPc, ⟨kk_mv hW hK, arrOfT_moved hW.alike hG⟩, hDw⟩⟩ rfl rfl hl.1 rfl (lv_room (Nat.le_of_ble_eq_true rfl)) dB_36_1_61.2.2.2.1 ⟨Nat.le_of_ble_eq_true rfl, Nat.le_of_ble_eq_true rfl⟩) hS (fun q _ h => hFc q h) hFc (fun u t H locs ht hvm hw hB hz1 hk1 hS => ?_)
            obtain ⟨v5_13, v6_14, g_15, hP1, hD1⟩ := hB
            rw [ht] at hP1
            obtain ⟨hP, hD⟩ := va_join (wr := []) (w1 := [ob7_0_ xh xc u1 u2 u3 u4 v5_13 v6_14 u7 u8, ob0_0_ xc xn xk clo cro c4 c5 c6 c7 c8, ob3_0_ xn vp vn n1 n2 n3 n4 n5, aq_ cy 6 clo 12 (gf_ rl), ai_ cy (rl 0) 12 (Ml 0), ai_ cy (rl 1) 12 (Ml 1), ai_ cy (rl 2) 12 (Ml 2), ai_ cy (rl 3) 12 (Ml 3), ai_ cy (rl 4) 12 (Ml 4), ai_ cy (rl 5) 12 (Ml 5), ai_ cy (rl 6) 12 (Ml 6), ai_ cy (rl 7) 12 (Ml 7), ai_ cy (rl 8) 12 (Ml 8), ai_ cy (rl 9) 12 (Ml 9), ai_ cy (rl 10) 12 (Ml 10), ai_ cy (rl 11) 12 (Ml 11)]) hP hD [0, 1, 2, 3, 4, 5, 6, 7, 8, 9, 10, 11, 12, 13, 14, 15] [] hC_ rfl (by decide) (by decide) hk1 hFc hP1 hD1
            refine pd_K [ob7_0_ xh xc u1 u2 u3 u4 v5_13 v6_14 u7 u8, ob0_0_ xc xn xk clo cro c4 c5 c6 c7 c8, ob3_0_ xn vp vn n1 n2 n3 n4 n5, aq_ cy 6 clo 12 (gf_ rl), ai_ cy (rl 0) 12 (Ml 0), ai_ cy (rl 1) 12 (Ml 1), ai_ cy (rl 2) 12 (Ml 2), ai_ cy (rl 3) 12 (Ml 3), ai_ cy (rl 4) 12 (Ml 4), ai_ cy (rl 5) 12 (Ml 5), ai_ cy (rl 6) 12 (Ml 6), ai_ cy (rl 7) 12 (Ml 7), ai_ cy (rl 8) 12 (Ml 8), ai_ cy (rl 9) 12 (Ml 9), ai_ cy (rl 10) 12 (Ml 10), ai_ cy (rl 11) 12 (Ml 11)] hP hD (fun hP hD => ?_)
            rw [hQ]
            exact W.vret hx hb hr (fun t ht hW => ⟨⟨(), rfl, trivial, v5_13, v6_14, (by first | exact scn_to (scn_skip v0_5 (fun j h1 h2 => hnt_nout hh1_ (by omega) (hnu_.2 (by omega)) h1 h2)) (by rw [pw_K hK_]; omega) | exact scn_to g_15 (by rw [hKq_, hst_.1, pw_K hK_]; omega)), by rw [ht]; exact hP, hD⟩, hS.F ht⟩) hS.2.2 dB_36_1_61.2.2.2.2
        refine lv_aload_n hx hb dB_36_1_59.1.2.1.1 rfl (lv_at hl 1 rfl) ?_
        refine va_get (ci := 7) (v := .int u1) (C := RX7) (T := TX7) (N := 9) hx hb hts (fun _ h => List.mem_cons_of_mem _ (List.mem_append_left _ (List.mem_append_left _ (List.mem_append_right _ h)))) hown hK.1 hP 0 rfl rfl 1 (by decide) (hts (.fieldLink RX7 27 "CutAtlas$SetHunt" "must" "I") (List.mem_of_getElem? (i := 3) rfl)) (fun _ h9 => h9) rfl dB_36_1_59.1.2.1.2 ?_
        refine lv_iload hx hb dB_36_1_59.1.2.2.1 (lv_at hl 0 rfl) ?_
        refine lv_iand hx hb dB_36_1_59.1.2.2.2 ?_
        refine lv_topi (fun y_16 ey_16 => ?_)
        have hmu_ := and_bit (mu := u1) (by omega) (by omega) ey_4 ey_16
        refine lv_if_ne (tgt := 60) hx hb dB_36_1_59.2.1.1.1 (by decide) (fun c_17 => ?_) (fun c_17 => ?_)
        · have t_17 : ¬ y_16.toInt = (0 : Int32).toInt := fun h => c_17 (Int32.toInt_inj.mp h)
          exact JOIN_5 u5 u6 _ _ _ (by first | exact scn_skip hs (fun j h1 h2 => hnt_nin hh1_ (by omega) (hmu_.2 (by omega)) h1 h2) | exact scn_to of_none (by rw [hKr_])) ⟨hP, hD⟩ hS (lv_sub hl [0, 1, 2, 3, 4] rfl)
        · have t_17 : y_16.toInt = (0 : Int32).toInt := congrArg Int32.toInt c_17
          refine lv_aload_n hx hb dB_36_1_59.2.1.1.2 rfl (lv_at hl 1 rfl) ?_
          refine lv_iload_n hx hb dB_36_1_59.2.1.2.1 rfl (lv_at hl 2 rfl) ?_
          refine lv_iconst (v := 1) hx hb dB_36_1_59.2.1.2.2 (by decide) ?_
          refine lv_isub hx hb dB_36_1_59.2.2.1.1 ?_
          refine lv_topi (fun y_18 ey_18 => ?_)
          have ty_18 : y_18.toInt = a1.toInt - (1 : Int32).toInt := by rw [ey_18]; exact subI (by omega) (by omega)
          refine lv_iload_n hx hb dB_36_1_59.2.2.1.2 rfl (lv_at hl 3 rfl) ?_
          refine lv_iload_n hx hb dB_36_1_59.2.2.2.1 rfl (lv_at hl 4 rfl) ?_
          refine lv_aload_n hx hb dB_36_1_59.2.2.2.2 rfl (lv_at hl 1 rfl) ?_
          refine lv_iload_n hx hb dB_36_1_60.1.1.1.1 rfl (lv_at hl 2 rfl) ?_
          refine lv_iload_n hx hb dB_36_1_60.1.1.1.2 rfl (lv_at hl 3 rfl) ?_
          refine ct_R hP hD [ob7_0_ xh xc u1 u2 u3 u4 u5 u6 u7 u8, ob0_0_ xc xn xk clo cro c4 c5 c6 c7 c8, ob3_0_ xn vp vn n1 n2 n3 n4 n5, aq_ cy 6 clo 12 (gf_ rl), ai_ cy (rl 0) 12 (Ml 0), ai_ cy (rl 1) 12 (Ml 1), ai_ cy (rl 2) 12 (Ml 2), ai_ cy (rl 3) 12 (Ml 3), ai_ cy (rl 4) 12 (Ml 4), ai_ cy (rl 5) 12 (Ml 5), ai_ cy (rl 6) 12 (Ml 6), ai_ cy (rl 7) 12 (Ml 7), ai_ cy (rl 8) 12 (Ml 8), ai_ cy (rl 9) 12 (Ml 9), ai_ cy (rl 10) 12 (Ml 10), ai_ cy (rl 11) 12 (Ml 11)] [0, 1, 2, 3, 4, 5, 6, 7, 8, 9, 10, 11, 12, 13, 14, 15] (by decide +kernel) rfl (fun hPc hDw => ?_)
          have hFc := va_free (wc := []) hD hS hA [] rfl
          refine va_calli (va_runV (As := [.int a1, .int a2]) (rest := [.int a3, .int a2, .int y_18, .ref xh]) ⟨hx, hb, hml, hown, hts⟩ (c_X7_letIn2 l D cy s.heap.size xh u1 u2 u3 u4 u5 u6 u7 u8 xc xk clo cro c4 c5 c6 c7 c8 xn n1 n2 n3 n4 n5 vp vn rl Ml a1 a2 (by first | with_reducible assumption | omega | assumption) (by first | with_reducible assumption | omega | assumption) (by first | with_reducible assumption | assumption | omega)) (cwV 2 hts gX7_chooseForCut_X7_letIn rfl rfl rfl ⟨rfl, hd_X7_letIn⟩ ⟨Nat.le_of_ble_eq_true rfl, Nat.le_of_ble_eq_true rfl⟩) ⟨bl_g, va_recvX hK.1 hP (ci := 7) (q0 := 0) rfl rfl, fun U hU hW => ⟨rfl, by rw [hU], by rw [hU]; exact hPc, ⟨kk_mv hW hK, arrOfT_moved hW.alike hG⟩, hDw⟩⟩ rfl rfl hl.1 rfl (lv_room (Nat.le_of_ble_eq_true rfl)) dB_36_1_60.1.1.2.1 ⟨Nat.le_of_ble_eq_true rfl, Nat.le_of_ble_eq_true rfl⟩) hS (fun q _ h => hFc q h) hFc (fun r_19 u t H locs ht hvm hw hB hz1 hk1 hS => ?_)
          have hP : va_P D vwCl _ H := ro_keep hP hk1
          obtain ⟨f0_r_19, f1_r_19⟩ := hw
          refine lv_iadd hx hb dB_36_1_60.1.1.2.2 ?_
          refine lv_topi (fun y_20 ey_20 => ?_)
          have ty_20 : y_20.toInt = a3.toInt + r_19.toInt := by rw [ey_20]; exact addI (by omega) (by omega)
          have hKr_ : (y_18.toInt + 1).toNat = a1.toNatClampNeg := by omega
          have hrh_ : hnt (zM Ml) vp.toNatClampNeg (y_18.toInt + 1).toNat u1 u2 a2 y_20.toInt := by rw [hKr_]; exact hnt_in hh1_ (hmu_.1 (by omega)) ty_20 f0_r_19
          refine ct_S hP hD hS hA [ob7_0_ xh xc u1 u2 u3 u4 u5 u6 u7 u8, ob0_0_ xc xn xk clo cro c4 c5 c6 c7 c8, ob3_0_ xn vp vn n1 n2 n3 n4 n5, aq_ cy 6 clo 12 (gf_ rl), ai_ cy (rl 0) 12 (Ml 0), ai_ cy (rl 1) 12 (Ml 1), ai_ cy (rl 2) 12 (Ml 2), ai_ cy (rl 3) 12 (Ml 3), ai_ cy (rl 4) 12 (Ml 4), ai_ cy (rl 5) 12 (Ml 5), ai_ cy (rl 6) 12 (Ml 6), ai_ cy (rl 7) 12 (Ml 7), ai_ cy (rl 8) 12 (Ml 8), ai_ cy (rl 9) 12 (Ml 9), ai_ cy (rl 10) 12 (Ml 10), ai_ cy (rl 11) 12 (Ml 11)] [0, 1, 2, 3, 4, 5, 6, 7, 8, 9, 10, 11, 12, 13, 14, 15] (by decide +kernel) rfl (fun hPc hDw hFc hC_ => ?_)
          refine va_callv (va_runV (As := [.int y_18, .int a2, .int y_20]) (rest := []) ⟨hx, hb, hml, hown, hts⟩ (c_X7_chooseForCut2_9 l D cy H.size xh u1 u2 u3 u4 u5 u6 u7 u8 xc xk clo cro c4 c5 c6 c7 c8 xn n1 n2 n3 n4 n5 vp vn rl Ml y_18 a2 y_20 (by first | with_reducible assumption | omega | assumption) (by first | with_reducible assumption | omega | assumption) (by first | with_reducible assumption | assumption | omega) (by first | with_reducible assumption | omega | assumption) (by first | with_reducible assumption | assumption | omega) (by first | with_reducible assumption | assumption | omega)) (cwV 3 hts gX7_chooseForCut_X7_chooseForCut rfl rfl rfl ⟨rfl, hd_X7_chooseForCut⟩ ⟨Nat.le_of_ble_eq_true rfl, Nat.le_of_ble_eq_true rfl⟩) ⟨bl_g, va_recvX hK.1 hP (ci := 7) (q0 := 0) rfl rfl, fun U hU hW => ⟨rfl, by rw [hU], by rw [hU]; exact hPc, ⟨kk_mv hW hK, arrOfT_moved hW.alike hG⟩, hDw⟩⟩ rfl rfl hl.1 rfl (lv_room (Nat.le_of_ble_eq_true rfl)) dB_36_1_60.1.2.1.1 ⟨Nat.le_of_ble_eq_true rfl, Nat.le_of_ble_eq_true rfl⟩) hS (fun q _ h => hFc q h) hFc (fun u t H locs ht hvm hw hB hz1 hk1 hS => ?_)
          obtain ⟨v5_22, v6_23, g_24, hP1, hD1⟩ := hB
          rw [ht] at hP1
          obtain ⟨hP, hD⟩ := va_join (wr := []) (w1 := [ob7_0_ xh xc u1 u2 u3 u4 v5_22 v6_23 u7 u8, ob0_0_ xc xn xk clo cro c4 c5 c6 c7 c8, ob3_0_ xn vp vn n1 n2 n3 n4 n5, aq_ cy 6 clo 12 (gf_ rl), ai_ cy (rl 0) 12 (Ml 0), ai_ cy (rl 1) 12 (Ml 1), ai_ cy (rl 2) 12 (Ml 2), ai_ cy (rl 3) 12 (Ml 3), ai_ cy (rl 4) 12 (Ml 4), ai_ cy (rl 5) 12 (Ml 5), ai_ cy (rl 6) 12 (Ml 6), ai_ cy (rl 7) 12 (Ml 7), ai_ cy (rl 8) 12 (Ml 8), ai_ cy (rl 9) 12 (Ml 9), ai_ cy (rl 10) 12 (Ml 10), ai_ cy (rl 11) 12 (Ml 11)]) hP hD [0, 1, 2, 3, 4, 5, 6, 7, 8, 9, 10, 11, 12, 13, 14, 15] [] hC_ rfl (by decide) (by decide) hk1 hFc hP1 hD1
          refine pd_K [ob7_0_ xh xc u1 u2 u3 u4 v5_22 v6_23 u7 u8, ob0_0_ xc xn xk clo cro c4 c5 c6 c7 c8, ob3_0_ xn vp vn n1 n2 n3 n4 n5, aq_ cy 6 clo 12 (gf_ rl), ai_ cy (rl 0) 12 (Ml 0), ai_ cy (rl 1) 12 (Ml 1), ai_ cy (rl 2) 12 (Ml 2), ai_ cy (rl 3) 12 (Ml 3), ai_ cy (rl 4) 12 (Ml 4), ai_ cy (rl 5) 12 (Ml 5), ai_ cy (rl 6) 12 (Ml 6), ai_ cy (rl 7) 12 (Ml 7), ai_ cy (rl 8) 12 (Ml 8), ai_ cy (rl 9) 12 (Ml 9), ai_ cy (rl 10) 12 (Ml 10), ai_ cy (rl 11) 12 (Ml 11)] hP hD (fun hP hD => ?_)
          exact JOIN_5 v5_22 v6_23 _ _ _ (by first | exact scn_skip hs (fun j h1 h2 => hnt_nin hh1_ (by omega) (hmu_.2 (by omega)) h1 h2) | exact scn_to g_24 (by rw [hKr_])) ⟨hP, hD⟩ hS (lv_sub hl [0, 1, 2, 3, 4] rfl)
      · have t_3 : ¬ (0 : Int32).toInt ≤ a1.toInt := fun h => c_3 (Int32.le_iff_toInt_le.mpr h)
        have hK_ : (a1.toInt + 1).toNat = 0 := by omega
        have hh0_ : hnt (zM Ml) vp.toNatClampNeg 0 u1 u2 a2 a3.toInt := by rw [hK_] at hh; exact hh
        have hsn_ := scn_not hs (by omega) (by omega)
        have hcb_ := cnQ_nn (p := qF (zM Ml) vp.toNatClampNeg u1 u2 u3.toInt) (k := a2.toNatClampNeg)
        refine lv_aload_n hx hb dB_36_1_58.2.1.2.2 rfl (lv_at hl 0 rfl) ?_
        refine lv_iload_n hx hb dB_36_1_58.2.2.1.1 rfl (lv_at hl 2 rfl) ?_
        refine lv_iload_n hx hb dB_36_1_58.2.2.1.2 rfl (lv_at hl 3 rfl) ?_
        refine ct_S hP hD hS hA [ob7_0_ xh xc u1 u2 u3 u4 u5 u6 u7 u8] [0] (by decide) rfl (fun hPc hDw hFc hC_ => ?_)
        refine va_callv (va_runV (As := [.int a2, .int a3]) (rest := []) ⟨hx, hb, hml, hown, hts⟩ (c_X7_meet2 l D cy s.heap.size xh u1 u2 u3 u4 u5 u6 u7 u8 xc a2 a3 (by first | with_reducible assumption | omega | assumption)) (cwV 2 hts gX7_chooseForCut_X7_meet rfl rfl rfl ⟨rfl, hd_X7_meet⟩ ⟨Nat.le_of_ble_eq_true rfl, Nat.le_of_ble_eq_true rfl⟩) ⟨bl_, va_recvX hK.1 hP (ci := 7) (q0 := 0) rfl rfl, fun U hU hW => ⟨rfl, by rw [hU], by rw [hU]; exact hPc, kk_mv hW hK, hDw⟩⟩ rfl rfl hl.1 rfl (lv_room (Nat.le_of_ble_eq_true rfl)) dB_36_1_58.2.2.2.1 ⟨Nat.le_of_ble_eq_true rfl, Nat.le_of_ble_eq_true rfl⟩) hS (fun q _ h => hFc q h) hFc (fun u t H locs ht hvm hw hB hz1 hk1 hS => ?_)
        obtain ⟨v5_26, v6_27, g_28, hP1, hD1⟩ := hB
        rw [ht] at hP1
        obtain ⟨hP, hD⟩ := va_join (wr := [ob0_0_ xc xn xk clo cro c4 c5 c6 c7 c8, ob3_0_ xn vp vn n1 n2 n3 n4 n5, aq_ cy 6 clo 12 (gf_ rl), ai_ cy (rl 0) 12 (Ml 0), ai_ cy (rl 1) 12 (Ml 1), ai_ cy (rl 2) 12 (Ml 2), ai_ cy (rl 3) 12 (Ml 3), ai_ cy (rl 4) 12 (Ml 4), ai_ cy (rl 5) 12 (Ml 5), ai_ cy (rl 6) 12 (Ml 6), ai_ cy (rl 7) 12 (Ml 7), ai_ cy (rl 8) 12 (Ml 8), ai_ cy (rl 9) 12 (Ml 9), ai_ cy (rl 10) 12 (Ml 10), ai_ cy (rl 11) 12 (Ml 11)]) (w1 := [ob7_0_ xh xc u1 u2 u3 u4 v5_26 v6_27 u7 u8]) hP hD [0] [1, 2, 3, 4, 5, 6, 7, 8, 9, 10, 11, 12, 13, 14, 15] hC_ rfl (by decide +kernel) (by decide +kernel) hk1 hFc hP1 hD1
        refine pd_S hP hD [ob7_0_ xh xc u1 u2 u3 u4 v5_26 v6_27 u7 u8, ob0_0_ xc xn xk clo cro c4 c5 c6 c7 c8, ob3_0_ xn vp vn n1 n2 n3 n4 n5, aq_ cy 6 clo 12 (gf_ rl), ai_ cy (rl 0) 12 (Ml 0), ai_ cy (rl 1) 12 (Ml 1), ai_ cy (rl 2) 12 (Ml 2), ai_ cy (rl 3) 12 (Ml 3), ai_ cy (rl 4) 12 (Ml 4), ai_ cy (rl 5) 12 (Ml 5), ai_ cy (rl 6) 12 (Ml 6), ai_ cy (rl 7) 12 (Ml 7), ai_ cy (rl 8) 12 (Ml 8), ai_ cy (rl 9) 12 (Ml 9), ai_ cy (rl 10) 12 (Ml 10), ai_ cy (rl 11) 12 (Ml 11)] [15, 0, 1, 2, 3, 4, 5, 6, 7, 8, 9, 10, 11, 12, 13, 14] (by decide +kernel) rfl (fun hP hD => ?_)
        rw [hQ]
        exact W.vret hx hb hr (fun t ht hW => ⟨⟨(), rfl, trivial, v5_26, v6_27, (scn_to (leaf_end hs (by omega) hlt_ (hnt_leaf hh0_ (by omega)) g_28) (by rw [hK_])), by rw [ht]; exact hP, hD⟩, hS.F ht⟩) hS.2.2 dB_36_1_58.2.2.2.2
    · have t_2 : ¬ u6.toInt = ((-9) : Int32).toInt := fun h => c_2 (Int32.toInt_inj.mp h)
      rw [hQ]
      exact W.vret hx hb hr (fun t ht hW => ⟨⟨(), rfl, trivial, u5, u6, (by first | exact scn_skip hs (fun j h1 h2 => hnt_big hh (by omega) hnn_ (by omega) h1 h2) | exact scn_found hs (by omega)), by rw [ht]; exact hP, hD⟩, hS.F ht⟩) hS.2.2 dB_36_1_58.2.1.1.1

set_option maxHeartbeats 4000000 in
set_option maxRecDepth 100000 in
theorem c_X7_chooseForCut2_11 (l : Launch) (D : va_G) (cy : Nat → ClassId) (sz : Nat) (xh : Nat) (u1 : Int32) (u2 : Int32) (u3 : Int32) (u4 : Int32) (u5 : Int32) (u6 : Int32) (u7 : Int32) (u8 : Int32) (xc : Nat) (xk : Nat) (clo : Nat) (cro : Nat) (c4 : Nat) (c5 : Nat) (c6 : Nat) (c7 : Nat) (c8 : Nat) (xn : Nat) (n1 : Nat) (n2 : Nat) (n3 : Nat) (n4 : Nat) (n5 : Nat) (vp : Int32) (vn : Int32) (rl : Nat → Nat) (Ml : Nat → Nat → Int32) (a1 : Int32) (a2 : Int32) (a3 : Int32) (hvp : 0 ≤ vp.toInt ∧ vp.toInt ≤ 12) (q1 : -1 ≤ a1.toInt ∧ a1.toInt < 11) (hM : ∀ x y : Nat, x < vp.toNatClampNeg → y < vp.toNatClampNeg → 0 ≤ zM Ml x y ∧ zM Ml x y ≤ 80000000) (hA : 0 ≤ u3.toInt ∧ u3.toInt ≤ 1000000) (hh : hnt (zM Ml) vp.toNatClampNeg (a1.toInt + 1).toNat u1 u2 a2 a3.toInt) (hs : scn (qF (zM Ml) vp.toNatClampNeg u1 u2 u3.toInt) u4.toInt a2.toNatClampNeg u5 u6) : Met l yX7_chooseForCut wsX7_chooseForCut ({ frames := 12, cells := 0, slots := 0, locals := 286 }) (va_Pc [.ref xh, .int a1, .int a2, .int a3] (fun U => U.heap.size = sz ∧ va_P D vwCl [ob7_0_ xh xc u1 u2 u3 u4 u5 u6 u7 u8, ob0_0_ xc xn xk clo cro c4 c5 c6 c7 c8, ob3_0_ xn vp vn n1 n2 n3 n4 n5, aq_ cy 6 clo 12 (gf_ rl), ai_ cy (rl 0) 12 (Ml 0), ai_ cy (rl 1) 12 (Ml 1), ai_ cy (rl 2) 12 (Ml 2), ai_ cy (rl 3) 12 (Ml 3), ai_ cy (rl 4) 12 (Ml 4), ai_ cy (rl 5) 12 (Ml 5), ai_ cy (rl 6) 12 (Ml 6), ai_ cy (rl 7) 12 (Ml 7), ai_ cy (rl 8) 12 (Ml 8), ai_ cy (rl 9) 12 (Ml 9), ai_ cy (rl 10) 12 (Ml 10), ai_ cy (rl 11) 12 (Ml 11)] U.heap ∧ kg_ D cy U ∧ va_D (fun _ => True) [ob7_0_ xh xc u1 u2 u3 u4 u5 u6 u7 u8, ob0_0_ xc xn xk clo cro c4 c5 c6 c7 c8, ob3_0_ xn vp vn n1 n2 n3 n4 n5, aq_ cy 6 clo 12 (gf_ rl), ai_ cy (rl 0) 12 (Ml 0), ai_ cy (rl 1) 12 (Ml 1), ai_ cy (rl 2) 12 (Ml 2), ai_ cy (rl 3) 12 (Ml 3), ai_ cy (rl 4) 12 (Ml 4), ai_ cy (rl 5) 12 (Ml 5), ai_ cy (rl 6) 12 (Ml 6), ai_ cy (rl 7) 12 (Ml 7), ai_ cy (rl 8) 12 (Ml 8), ai_ cy (rl 9) 12 (Ml 9), ai_ cy (rl 10) 12 (Ml 10), ai_ cy (rl 11) 12 (Ml 11)])) (va_Qv (fun (_ : Unit) => True) (fun (_ : Unit) (t : State) => ∃ (v5 : Int32), ∃ (v6 : Int32), (scn (qF (zM Ml) vp.toNatClampNeg u1 u2 u3.toInt) u4.toInt (a2.toNatClampNeg + 2 ^ (a1.toInt + 1).toNat) v5 v6) ∧ va_P D vwCl [ob7_0_ xh xc u1 u2 u3 u4 v5 v6 u7 u8, ob0_0_ xc xn xk clo cro c4 c5 c6 c7 c8, ob3_0_ xn vp vn n1 n2 n3 n4 n5, aq_ cy 6 clo 12 (gf_ rl), ai_ cy (rl 0) 12 (Ml 0), ai_ cy (rl 1) 12 (Ml 1), ai_ cy (rl 2) 12 (Ml 2), ai_ cy (rl 3) 12 (Ml 3), ai_ cy (rl 4) 12 (Ml 4), ai_ cy (rl 5) 12 (Ml 5), ai_ cy (rl 6) 12 (Ml 6), ai_ cy (rl 7) 12 (Ml 7), ai_ cy (rl 8) 12 (Ml 8), ai_ cy (rl 9) 12 (Ml 9), ai_ cy (rl 10) 12 (Ml 10), ai_ cy (rl 11) 12 (Ml 11)] t.heap ∧ va_D (va_A [ob7_0_ xh xc u1 u2 u3 u4 u5 u6 u7 u8, ob0_0_ xc xn xk clo cro c4 c5 c6 c7 c8, ob3_0_ xn vp vn n1 n2 n3 n4 n5, aq_ cy 6 clo 12 (gf_ rl), ai_ cy (rl 0) 12 (Ml 0), ai_ cy (rl 1) 12 (Ml 1), ai_ cy (rl 2) 12 (Ml 2), ai_ cy (rl 3) 12 (Ml 3), ai_ cy (rl 4) 12 (Ml 4), ai_ cy (rl 5) 12 (Ml 5), ai_ cy (rl 6) 12 (Ml 6), ai_ cy (rl 7) 12 (Ml 7), ai_ cy (rl 8) 12 (Ml 8), ai_ cy (rl 9) 12 (Ml 9), ai_ cy (rl 10) 12 (Ml 10), ai_ cy (rl 11) 12 (Ml 11)] sz) [ob7_0_ xh xc u1 u2 u3 u4 v5 v6 u7 u8, ob0_0_ xc xn xk clo cro c4 c5 c6 c7 c8, ob3_0_ xn vp vn n1 n2 n3 n4 n5, aq_ cy 6 clo 12 (gf_ rl), ai_ cy (rl 0) 12 (Ml 0), ai_ cy (rl 1) 12 (Ml 1), ai_ cy (rl 2) 12 (Ml 2), ai_ cy (rl 3) 12 (Ml 3), ai_ cy (rl 4) 12 (Ml 4), ai_ cy (rl 5) 12 (Ml 5), ai_ cy (rl 6) 12 (Ml 6), ai_ cy (rl 7) 12 (Ml 7), ai_ cy (rl 8) 12 (Ml 8), ai_ cy (rl 9) 12 (Ml 9), ai_ cy (rl 10) 12 (Ml 10), ai_ cy (rl 11) 12 (Ml 11)]) (va_A [ob7_0_ xh xc u1 u2 u3 u4 u5 u6 u7 u8, ob0_0_ xc xn xk clo cro c4 c5 c6 c7 c8, ob3_0_ xn vp vn n1 n2 n3 n4 n5, aq_ cy 6 clo 12 (gf_ rl), ai_ cy (rl 0) 12 (Ml 0), ai_ cy (rl 1) 12 (Ml 1), ai_ cy (rl 2) 12 (Ml 2), ai_ cy (rl 3) 12 (Ml 3), ai_ cy (rl 4) 12 (Ml 4), ai_ cy (rl 5) 12 (Ml 5), ai_ cy (rl 6) 12 (Ml 6), ai_ cy (rl 7) 12 (Ml 7), ai_ cy (rl 8) 12 (Ml 8), ai_ cy (rl 9) 12 (Ml 9), ai_ cy (rl 10) 12 (Ml 10), ai_ cy (rl 11) 12 (Ml 11)] sz)) 0 0 (va_A [ob7_0_ xh xc u1 u2 u3 u4 u5 u6 u7 u8, ob0_0_ xc xn xk clo cro c4 c5 c6 c7 c8, ob3_0_ xn vp vn n1 n2 n3 n4 n5, aq_ cy 6 clo 12 (gf_ rl), ai_ cy (rl 0) 12 (Ml 0), ai_ cy (rl 1) 12 (Ml 1), ai_ cy (rl 2) 12 (Ml 2), ai_ cy (rl 3) 12 (Ml 3), ai_ cy (rl 4) 12 (Ml 4), ai_ cy (rl 5) 12 (Ml 5), ai_ cy (rl 6) 12 (Ml 6), ai_ cy (rl 7) 12 (Ml 7), ai_ cy (rl 8) 12 (Ml 8), ai_ cy (rl 9) 12 (Ml 9), ai_ cy (rl 10) 12 (Ml 10), ai_ cy (rl 11) 12 (Ml 11)] sz) := by
  refine ofQ (cc := cX7_chooseForCut) (maxL := 5) (ret := none) (by decide) rfl ?_
  intro p e s m args below meth c s₁ Q hQ B hml hv
  obtain ⟨rfl, hsz, hP, hK, hD0⟩ := hv
  have hG := hK.2
  have hK := hK.1
  have hx := B.exec
  have hb := B.bytes
  have hr := B.returns
  have hts := atoms_spec (ws := wsX7_chooseForCut) B.pre
  have hown : s.vm.findClass RX7 = some m.cls := by have h_ := findClass_of_methodNamed B.named; exact h_
  have hlocks := B.notSynchronized
  subst hsz
  have hD := hD0.self (sz := s.heap.size)
  generalize hAe : va_A [ob7_0_ xh xc u1 u2 u3 u4 u5 u6 u7 u8, ob0_0_ xc xn xk clo cro c4 c5 c6 c7 c8, ob3_0_ xn vp vn n1 n2 n3 n4 n5, aq_ cy 6 clo 12 (gf_ rl), ai_ cy (rl 0) 12 (Ml 0), ai_ cy (rl 1) 12 (Ml 1), ai_ cy (rl 2) 12 (Ml 2), ai_ cy (rl 3) 12 (Ml 3), ai_ cy (rl 4) 12 (Ml 4), ai_ cy (rl 5) 12 (Ml 5), ai_ cy (rl 6) 12 (Ml 6), ai_ cy (rl 7) 12 (Ml 7), ai_ cy (rl 8) 12 (Ml 8), ai_ cy (rl 9) 12 (Ml 9), ai_ cy (rl 10) 12 (Ml 10), ai_ cy (rl 11) 12 (Ml 11)] s.heap.size = A at hD hQ
  have hA : ∀ q : Nat, s.heap.size ≤ q → A q := fun q h => by rw [← hAe]; exact Or.inr h
  have hS : va_S A s.heap s.heap [] := va_S.rf
  have hl := lv_entry ([.ref xh, .int a1, .int a2, .int a3]) (n := 5) (Nat.le_of_ble_eq_true rfl)
  rw [lg_entry_eq]
  generalize (lg_sl ([.ref xh, .int a1, .int a2, .int a3]) ++ List.replicate (5 - (lg_sl ([.ref xh, .int a1, .int a2, .int a3])).length) Slot.unset).toArray = ls at hl ⊢
  have hl : lv_has ls 5 [(0, .ref xh), (1, .int a1), (2, .int a2), (3, .int a3)] := hl
  have zm9 : ((-9) : Int32).toInt = -9 := by decide
  have z0 : (0 : Int32).toInt = 0 := by decide
  have z1 : (1 : Int32).toInt = 1 := by decide
  have cv_ := clI (i := vp) (by omega)
  have hnn_ : ∀ x y : Nat, x < vp.toNatClampNeg → y < vp.toNatClampNeg → 0 ≤ zM Ml x y := fun x y hx hy => (hM x y hx hy).1
  have ha3_ := hnt_nn hh hnn_
  have hlt_ := hnt_lt hh (by omega)
  refine lv_iload_n hx hb dB_36_1_58.1.1.1.1 rfl (lv_at hl 3 rfl) ?_
  refine lv_aload_n hx hb dB_36_1_58.1.1.1.2 rfl (lv_at hl 0 rfl) ?_
  refine va_get (ci := 7) (v := .int u3) (C := RX7) (T := TX7) (N := 9) hx hb hts (fun _ h => List.mem_cons_of_mem _ (List.mem_append_left _ (List.mem_append_left _ (List.mem_append_right _ h)))) hown hK.1 hP 0 rfl rfl 3 (by decide) (hts (.fieldLink RX7 33 "CutAtlas$SetHunt" "aim" "I") (List.mem_of_getElem? (i := 1) rfl)) (fun _ h9 => h9) rfl dB_36_1_58.1.1.2.1 ?_
  refine lv_icmp_gt (tgt := 17) hx hb dB_36_1_58.1.1.2.2 (by decide) (fun c_1 => ?_) (fun c_1 => ?_)
  · have t_1 : u3.toInt < a3.toInt := Int32.lt_iff_toInt_lt.mp c_1
    rw [hQ]
    exact W.vret hx hb hr (fun t ht hW => ⟨⟨(), rfl, trivial, u5, u6, (by first | exact scn_skip hs (fun j h1 h2 => hnt_big hh (by omega) hnn_ (by omega) h1 h2) | exact scn_found hs (by omega)), by rw [ht]; exact hP, hD⟩, hS.F ht⟩) hS.2.2 dB_36_1_58.2.1.1.1
  · have t_1 : ¬ u3.toInt < a3.toInt := fun h => c_1 (Int32.lt_iff_toInt_lt.mpr h)
    refine lv_aload_n hx hb dB_36_1_58.1.2.1.1 rfl (lv_at hl 0 rfl) ?_
    refine va_get (ci := 7) (v := .int u6) (C := RX7) (T := TX7) (N := 9) hx hb hts (fun _ h => List.mem_cons_of_mem _ (List.mem_append_left _ (List.mem_append_left _ (List.mem_append_right _ h)))) hown hK.1 hP 0 rfl rfl 6 (by decide) (hts (.fieldLink RX7 24 "CutAtlas$SetHunt" "found" "I") (List.mem_of_getElem? (i := 2) rfl)) (fun _ h9 => h9) rfl dB_36_1_58.1.2.1.2 ?_
    refine lv_bipush (v := (-9)) hx hb dB_36_1_58.1.2.2.1 (by decide) ?_
    refine lv_icmp_eq (tgt := 18) hx hb dB_36_1_58.1.2.2.2 (by decide) (fun c_2 => ?_) (fun c_2 => ?_)
    · have t_2 : u6.toInt = ((-9) : Int32).toInt := congrArg Int32.toInt c_2
      refine lv_iload_n hx hb dB_36_1_58.2.1.1.2 rfl (lv_at hl 1 rfl) ?_
      refine lv_if_ge (tgt := 29) hx hb dB_36_1_58.2.1.2.1 (by decide) (fun c_3 => ?_) (fun c_3 => ?_)
      · have t_3 : (0 : Int32).toInt ≤ a1.toInt := Int32.le_iff_toInt_le.mp c_3
        have cp_ := clI (i := a1) (by omega)
        have hK_ : (a1.toInt + 1).toNat = a1.toNatClampNeg + 1 := by omega
        have hh1_ : hnt (zM Ml) vp.toNatClampNeg (a1.toNatClampNeg + 1) u1 u2 a2 a3.toInt := by rw [hK_] at hh; exact hh
        have hap_ : a1.toInt < vp.toInt := by have h_ := hh1_.1; omega
        refine lv_iconst (v := 1) hx hb dB_36_1_59.1.1.1.1 (by decide) ?_
        refine lv_iload_n hx hb dB_36_1_59.1.1.1.2 rfl (lv_at hl 1 rfl) ?_
        refine lv_ishl hx hb dB_36_1_59.1.1.2.1 ?_
        refine lv_topi (fun y_4 ey_4 => ?_)
        refine lv_istore (lv' := [(4, .int y_4), (0, .ref xh), (1, .int a1), (2, .int a2), (3, .int a3)]) hx hb dB_36_1_59.1.1.2.2 hl (by decide) rfl (fun ls hl => ?_)
        have JOIN_5 : ∀ (o5_5 : Int32) (o6_5 : Int32) (H : Heap) (locs : List Loc) (ls : Array Slot), (scn (qF (zM Ml) vp.toNatClampNeg u1 u2 u3.toInt) u4.toInt (a2.toNatClampNeg + 2 ^ a1.toNatClampNeg) o5_5 o6_5) → pd_2 D vwCl A [ob7_0_ xh xc u1 u2 u3 u4 o5_5 o6_5 u7 u8, ob0_0_ xc xn xk clo cro c4 c5 c6 c7 c8, ob3_0_ xn vp vn n1 n2 n3 n4 n5, aq_ cy 6 clo 12 (gf_ rl), ai_ cy (rl 0) 12 (Ml 0), ai_ cy (rl 1) 12 (Ml 1), ai_ cy (rl 2) 12 (Ml 2), ai_ cy (rl 3) 12 (Ml 3), ai_ cy (rl 4) 12 (Ml 4), ai_ cy (rl 5) 12 (Ml 5), ai_ cy (rl 6) 12 (Ml 6), ai_ cy (rl 7) 12 (Ml 7), ai_ cy (rl 8) 12 (Ml 8), ai_ cy (rl 9) 12 (Ml 9), ai_ cy (rl 10) 12 (Ml 10), ai_ cy (rl 11) 12 (Ml 11)] H → va_S A s.heap H locs → lv_has ls 5 [(4, .int y_4), (0, .ref xh), (1, .int a1), (2, .int a2), (3, .int a3)] → W p l e ({ frames := 12, cells := 0, slots := 0, locals := 286 } : Room) s m (([.ref xh, .int a1, .int a2, .int a3] : List Value).toArray) below meth c H locs 0 0 Q (F0 m 60 ls []) := by
          intro o5_5 o6_5 H locs ls v0_5 hPD hS hl; obtain ⟨hP, hD⟩ := hPD
          refine lv_aload_n hx hb dB_36_1_60.1.2.1.2 rfl (lv_at hl 1 rfl) ?_
          refine va_get (ci := 7) (v := .int u2) (C := RX7) (T := TX7) (N := 9) hx hb hts (fun _ h => List.mem_cons_of_mem _ (List.mem_append_left _ (List.mem_append_left _ (List.mem_append_right _ h)))) hown hK.1 hP 0 rfl rfl 2 (by decide) (hts (.fieldLink RX7 30 "CutAtlas$SetHunt" "mustNot" "I") (List.mem_of_getElem? (i := 4) rfl)) (fun _ h9 => h9) rfl dB_36_1_60.1.2.2.1 ?_
          refine lv_iload hx hb dB_36_1_60.1.2.2.2 (lv_at hl 0 rfl) ?_
          refine lv_iand hx hb dB_36_1_60.2.1.1.1 ?_
          refine lv_topi (fun y_6 ey_6 => ?_)
          have hnu_ := and_bit (mu := u2) (by omega) (by omega) ey_4 ey_6
          refine lv_if_ne (tgt := 89) hx hb dB_36_1_60.2.1.1.2 (by decide) (fun c_7 => ?_) (fun c_7 => ?_)
          · have t_7 : ¬ y_6.toInt = (0 : Int32).toInt := fun h => c_7 (Int32.toInt_inj.mp h)
            rw [hQ]
            exact W.vret hx hb hr (fun t ht hW => ⟨⟨(), rfl, trivial, o5_5, o6_5, (by first | exact scn_to (scn_skip v0_5 (fun j h1 h2 => hnt_nout hh1_ (by omega) (hnu_.2 (by omega)) h1 h2)) (by rw [pw_K hK_]; omega) | exact scn_to of_none (by rw [hKq_, hst_.1, pw_K hK_]; omega)), by rw [ht]; exact hP, hD⟩, hS.F ht⟩) hS.2.2 dB_36_1_61.2.2.2.2
          · have t_7 : y_6.toInt = (0 : Int32).toInt := congrArg Int32.toInt c_7
            refine lv_aload_n hx hb dB_36_1_60.2.1.2.1 rfl (lv_at hl 1 rfl) ?_
            refine lv_iload_n hx hb dB_36_1_60.2.1.2.2 rfl (lv_at hl 2 rfl) ?_
            refine lv_iconst (v := 1) hx hb dB_36_1_60.2.2.1.1 (by decide) ?_
            refine lv_isub hx hb dB_36_1_60.2.2.1.2 ?_
            refine lv_topi (fun y_8 ey_8 => ?_)
            have ty_8 : y_8.toInt = a1.toInt - (1 : Int32).toInt := by rw [ey_8]; exact subI (by omega) (by omega)
            refine lv_iload_n hx hb dB_36_1_60.2.2.2.1 rfl (lv_at hl 3 rfl) ?_
            refine lv_iload hx hb dB_36_1_60.2.2.2.2 (lv_at hl 0 rfl) ?_
            refine lv_ior hx hb dB_36_1_61.1.1.1 ?_
            refine lv_topi (fun y_9 ey_9 => ?_)
            have hst_ := hnt_set hh1_ (by omega) (by omega) ey_4 ey_9
            refine lv_iload_n hx hb dB_36_1_61.1.1.2 rfl (lv_at hl 4 rfl) ?_
            refine lv_aload_n hx hb dB_36_1_61.1.2.1 rfl (lv_at hl 1 rfl) ?_
            refine lv_iload_n hx hb dB_36_1_61.1.2.2 rfl (lv_at hl 2 rfl) ?_
            refine lv_iload_n hx hb dB_36_1_61.2.1.1 rfl (lv_at hl 3 rfl) ?_
            refine ct_R hP hD [ob7_0_ xh xc u1 u2 u3 u4 o5_5 o6_5 u7 u8, ob0_0_ xc xn xk clo cro c4 c5 c6 c7 c8, ob3_0_ xn vp vn n1 n2 n3 n4 n5, aq_ cy 6 clo 12 (gf_ rl), ai_ cy (rl 0) 12 (Ml 0), ai_ cy (rl 1) 12 (Ml 1), ai_ cy (rl 2) 12 (Ml 2), ai_ cy (rl 3) 12 (Ml 3), ai_ cy (rl 4) 12 (Ml 4), ai_ cy (rl 5) 12 (Ml 5), ai_ cy (rl 6) 12 (Ml 6), ai_ cy (rl 7) 12 (Ml 7), ai_ cy (rl 8) 12 (Ml 8), ai_ cy (rl 9) 12 (Ml 9), ai_ cy (rl 10) 12 (Ml 10), ai_ cy (rl 11) 12 (Ml 11)] [0, 1, 2, 3, 4, 5, 6, 7, 8, 9, 10, 11, 12, 13, 14, 15] (by decide +kernel) rfl (fun hPc hDw => ?_)
            have hFc := va_free (wc := []) hD hS hA [] rfl
            refine va_calli (va_runV (As := [.int a1, .int a2]) (rest := [.int a3, .int y_9, .int y_8, .ref xh]) ⟨hx, hb, hml, hown, hts⟩ (c_X7_letOut2 l D cy H.size xh u1 u2 u3 u4 o5_5 o6_5 u7 u8 xc xk clo cro c4 c5 c6 c7 c8 xn n1 n2 n3 n4 n5 vp vn rl Ml a1 a2 (by first | with_reducible assumption | omega | assumption) (by first | with_reducible assumption | omega | assumption) (by first | with_reducible assumption | assumption | omega)) (cwV 2 hts gX7_chooseForCut_X7_letOut rfl rfl rfl ⟨rfl, hd_X7_letOut⟩ ⟨Nat.le_of_ble_eq_true rfl, Nat.le_of_ble_eq_true rfl⟩) ⟨bl_g, va_recvX hK.1 hP (ci := 7) (q0 := 0) rfl rfl, fun U hU hW => ⟨rfl, by rw [hU], by rw [hU]; exact hPc, ⟨kk_mv hW hK, arrOfT_moved hW.alike hG⟩, hDw⟩⟩ rfl rfl hl.1 rfl (lv_room (Nat.le_of_ble_eq_true rfl)) dB_36_1_61.2.1.2 ⟨Nat.le_of_ble_eq_true rfl, Nat.le_of_ble_eq_true rfl⟩) hS (fun q _ h => hFc q h) hFc (fun r_10 u t H locs ht hvm hw hB hz1 hk1 hS => ?_)
            have hP : va_P D vwCl _ H := ro_keep hP hk1
            obtain ⟨f0_r_10, f1_r_10⟩ := hw
            refine lv_iadd hx hb dB_36_1_61.2.2.1 ?_
            refine lv_topi (fun y_11 ey_11 => ?_)
            have ty_11 : y_11.toInt = a3.toInt + r_10.toInt := by rw [ey_11]; exact addI (by omega) (by omega)
            have hKq_ : (y_8.toInt + 1).toNat = a1.toNatClampNeg := by omega
            have hrh_ : hnt (zM Ml) vp.toNatClampNeg (y_8.toInt + 1).toNat u1 u2 y_9 y_11.toInt := by rw [hKq_]; exact hnt_out hh1_ (by omega) (by omega) ey_4 ey_9 (hnu_.1 (by omega)) ty_11 f0_r_10
            have hrs_ : scn (qF (zM Ml) vp.toNatClampNeg u1 u2 u3.toInt) u4.toInt y_9.toNatClampNeg o5_5 o6_5 := scn_to v0_5 hst_.1.symm
            refine ct_S hP hD hS hA [ob7_0_ xh xc u1 u2 u3 u4 o5_5 o6_5 u7 u8, ob0_0_ xc xn xk clo cro c4 c5 c6 c7 c8, ob3_0_ xn vp vn n1 n2 n3 n4 n5, aq_ cy 6 clo 12 (gf_ rl), ai_ cy (rl 0) 12 (Ml 0), ai_ cy (rl 1) 12 (Ml 1), ai_ cy (rl 2) 12 (Ml 2), ai_ cy (rl 3) 12 (Ml 3), ai_ cy (rl 4) 12 (Ml 4), ai_ cy (rl 5) 12 (Ml 5), ai_ cy (rl 6) 12 (Ml 6), ai_ cy (rl 7) 12 (Ml 7), ai_ cy (rl 8) 12 (Ml 8), ai_ cy (rl 9) 12 (Ml 9), ai_ cy (rl 10) 12 (Ml 10), ai_ cy (rl 11) 12 (Ml 11)] [0, 1, 2, 3, 4, 5, 6, 7, 8, 9, 10, 11, 12, 13, 14, 15] (by decide +kernel) rfl (fun hPc hDw hFc hC_ => ?_)
            refine va_callv (va_runV (As := [.int y_8, .int y_9, .int y_11]) (rest := []) ⟨hx, hb, hml, hown, hts⟩ (c_X7_chooseForCut2_10 l D cy H.size xh u1 u2 u3 u4 o5_5 o6_5 u7 u8 xc xk clo cro c4 c5 c6 c7 c8 xn n1 n2 n3 n4 n5 vp vn rl Ml y_8 y_9 y_11 (by first | with_reducible assumption | omega | assumption) (by first | with_reducible assumption | omega | assumption) (by first | with_reducible assumption | assumption | omega) (by first | with_reducible assumption | omega | assumption) (by first | with_reducible assumption | assumption | omega) (by first | with_reducible assumption | assumption | omega)) (cwV 3 hts gX7_chooseForCut_X7_chooseForCut rfl rfl rfl ⟨rfl, hd_X7_chooseForCut⟩ ⟨Nat.le_of_ble_eq_true rfl, Nat.le_of_ble_eq_true rfl⟩) ⟨bl_g, va_recvX hK.1 hP (ci := 7) (q0 := 0) rfl rfl, fun U hU hW => ⟨rfl, by rw [hU], by rw [hU]; exact hPc, ⟨kk_mv hW hK, arrOfT_moved hW.alike hG⟩, hDw⟩⟩ rfl rfl hl.1 rfl (lv_room (Nat.le_of_ble_eq_true rfl)) dB_36_1_61.2.2.2.1 ⟨Nat.le_of_ble_eq_true rfl, Nat.le_of_ble_eq_true rfl⟩) hS (fun q _ h => hFc q h) hFc (fun u t H locs ht hvm hw hB hz1 hk1 hS => ?_)
            obtain ⟨v5_13, v6_14, g_15, hP1, hD1⟩ := hB
            rw [ht] at hP1
            obtain ⟨hP, hD⟩ := va_join (wr := []) (w1 := [ob7_0_ xh xc u1 u2 u3 u4 v5_13 v6_14 u7 u8, ob0_0_ xc xn xk clo cro c4 c5 c6 c7 c8, ob3_0_ xn vp vn n1 n2 n3 n4 n5, aq_ cy 6 clo 12 (gf_ rl), ai_ cy (rl 0) 12 (Ml 0), ai_ cy (rl 1) 12 (Ml 1), ai_ cy (rl 2) 12 (Ml 2), ai_ cy (rl 3) 12 (Ml 3), ai_ cy (rl 4) 12 (Ml 4), ai_ cy (rl 5) 12 (Ml 5), ai_ cy (rl 6) 12 (Ml 6), ai_ cy (rl 7) 12 (Ml 7), ai_ cy (rl 8) 12 (Ml 8), ai_ cy (rl 9) 12 (Ml 9), ai_ cy (rl 10) 12 (Ml 10), ai_ cy (rl 11) 12 (Ml 11)]) hP hD [0, 1, 2, 3, 4, 5, 6, 7, 8, 9, 10, 11, 12, 13, 14, 15] [] hC_ rfl (by decide) (by decide) hk1 hFc hP1 hD1
            refine pd_K [ob7_0_ xh xc u1 u2 u3 u4 v5_13 v6_14 u7 u8, ob0_0_ xc xn xk clo cro c4 c5 c6 c7 c8, ob3_0_ xn vp vn n1 n2 n3 n4 n5, aq_ cy 6 clo 12 (gf_ rl), ai_ cy (rl 0) 12 (Ml 0), ai_ cy (rl 1) 12 (Ml 1), ai_ cy (rl 2) 12 (Ml 2), ai_ cy (rl 3) 12 (Ml 3), ai_ cy (rl 4) 12 (Ml 4), ai_ cy (rl 5) 12 (Ml 5), ai_ cy (rl 6) 12 (Ml 6), ai_ cy (rl 7) 12 (Ml 7), ai_ cy (rl 8) 12 (Ml 8), ai_ cy (rl 9) 12 (Ml 9), ai_ cy (rl 10) 12 (Ml 10), ai_ cy (rl 11) 12 (Ml 11)] hP hD (fun hP hD => ?_)
            rw [hQ]
            exact W.vret hx hb hr (fun t ht hW => ⟨⟨(), rfl, trivial, v5_13, v6_14, (by first | exact scn_to (scn_skip v0_5 (fun j h1 h2 => hnt_nout hh1_ (by omega) (hnu_.2 (by omega)) h1 h2)) (by rw [pw_K hK_]; omega) | exact scn_to g_15 (by rw [hKq_, hst_.1, pw_K hK_]; omega)), by rw [ht]; exact hP, hD⟩, hS.F ht⟩) hS.2.2 dB_36_1_61.2.2.2.2
        refine lv_aload_n hx hb dB_36_1_59.1.2.1.1 rfl (lv_at hl 1 rfl) ?_
        refine va_get (ci := 7) (v := .int u1) (C := RX7) (T := TX7) (N := 9) hx hb hts (fun _ h => List.mem_cons_of_mem _ (List.mem_append_left _ (List.mem_append_left _ (List.mem_append_right _ h)))) hown hK.1 hP 0 rfl rfl 1 (by decide) (hts (.fieldLink RX7 27 "CutAtlas$SetHunt" "must" "I") (List.mem_of_getElem? (i := 3) rfl)) (fun _ h9 => h9) rfl dB_36_1_59.1.2.1.2 ?_
        refine lv_iload hx hb dB_36_1_59.1.2.2.1 (lv_at hl 0 rfl) ?_
        refine lv_iand hx hb dB_36_1_59.1.2.2.2 ?_
        refine lv_topi (fun y_16 ey_16 => ?_)
        have hmu_ := and_bit (mu := u1) (by omega) (by omega) ey_4 ey_16
        refine lv_if_ne (tgt := 60) hx hb dB_36_1_59.2.1.1.1 (by decide) (fun c_17 => ?_) (fun c_17 => ?_)
        · have t_17 : ¬ y_16.toInt = (0 : Int32).toInt := fun h => c_17 (Int32.toInt_inj.mp h)
          exact JOIN_5 u5 u6 _ _ _ (by first | exact scn_skip hs (fun j h1 h2 => hnt_nin hh1_ (by omega) (hmu_.2 (by omega)) h1 h2) | exact scn_to of_none (by rw [hKr_])) ⟨hP, hD⟩ hS (lv_sub hl [0, 1, 2, 3, 4] rfl)
        · have t_17 : y_16.toInt = (0 : Int32).toInt := congrArg Int32.toInt c_17
          refine lv_aload_n hx hb dB_36_1_59.2.1.1.2 rfl (lv_at hl 1 rfl) ?_
          refine lv_iload_n hx hb dB_36_1_59.2.1.2.1 rfl (lv_at hl 2 rfl) ?_
          refine lv_iconst (v := 1) hx hb dB_36_1_59.2.1.2.2 (by decide) ?_
          refine lv_isub hx hb dB_36_1_59.2.2.1.1 ?_
          refine lv_topi (fun y_18 ey_18 => ?_)
          have ty_18 : y_18.toInt = a1.toInt - (1 : Int32).toInt := by rw [ey_18]; exact subI (by omega) (by omega)
          refine lv_iload_n hx hb dB_36_1_59.2.2.1.2 rfl (lv_at hl 3 rfl) ?_
          refine lv_iload_n hx hb dB_36_1_59.2.2.2.1 rfl (lv_at hl 4 rfl) ?_
          refine lv_aload_n hx hb dB_36_1_59.2.2.2.2 rfl (lv_at hl 1 rfl) ?_
          refine lv_iload_n hx hb dB_36_1_60.1.1.1.1 rfl (lv_at hl 2 rfl) ?_
          refine lv_iload_n hx hb dB_36_1_60.1.1.1.2 rfl (lv_at hl 3 rfl) ?_
          refine ct_R hP hD [ob7_0_ xh xc u1 u2 u3 u4 u5 u6 u7 u8, ob0_0_ xc xn xk clo cro c4 c5 c6 c7 c8, ob3_0_ xn vp vn n1 n2 n3 n4 n5, aq_ cy 6 clo 12 (gf_ rl), ai_ cy (rl 0) 12 (Ml 0), ai_ cy (rl 1) 12 (Ml 1), ai_ cy (rl 2) 12 (Ml 2), ai_ cy (rl 3) 12 (Ml 3), ai_ cy (rl 4) 12 (Ml 4), ai_ cy (rl 5) 12 (Ml 5), ai_ cy (rl 6) 12 (Ml 6), ai_ cy (rl 7) 12 (Ml 7), ai_ cy (rl 8) 12 (Ml 8), ai_ cy (rl 9) 12 (Ml 9), ai_ cy (rl 10) 12 (Ml 10), ai_ cy (rl 11) 12 (Ml 11)] [0, 1, 2, 3, 4, 5, 6, 7, 8, 9, 10, 11, 12, 13, 14, 15] (by decide +kernel) rfl (fun hPc hDw => ?_)
          have hFc := va_free (wc := []) hD hS hA [] rfl
          refine va_calli (va_runV (As := [.int a1, .int a2]) (rest := [.int a3, .int a2, .int y_18, .ref xh]) ⟨hx, hb, hml, hown, hts⟩ (c_X7_letIn2 l D cy s.heap.size xh u1 u2 u3 u4 u5 u6 u7 u8 xc xk clo cro c4 c5 c6 c7 c8 xn n1 n2 n3 n4 n5 vp vn rl Ml a1 a2 (by first | with_reducible assumption | omega | assumption) (by first | with_reducible assumption | omega | assumption) (by first | with_reducible assumption | assumption | omega)) (cwV 2 hts gX7_chooseForCut_X7_letIn rfl rfl rfl ⟨rfl, hd_X7_letIn⟩ ⟨Nat.le_of_ble_eq_true rfl, Nat.le_of_ble_eq_true rfl⟩) ⟨bl_g, va_recvX hK.1 hP (ci := 7) (q0 := 0) rfl rfl, fun U hU hW => ⟨rfl, by rw [hU], by rw [hU]; exact hPc, ⟨kk_mv hW hK, arrOfT_moved hW.alike hG⟩, hDw⟩⟩ rfl rfl hl.1 rfl (lv_room (Nat.le_of_ble_eq_true rfl)) dB_36_1_60.1.1.2.1 ⟨Nat.le_of_ble_eq_true rfl, Nat.le_of_ble_eq_true rfl⟩) hS (fun q _ h => hFc q h) hFc (fun r_19 u t H locs ht hvm hw hB hz1 hk1 hS => ?_)
          have hP : va_P D vwCl _ H := ro_keep hP hk1
          obtain ⟨f0_r_19, f1_r_19⟩ := hw
          refine lv_iadd hx hb dB_36_1_60.1.1.2.2 ?_
          refine lv_topi (fun y_20 ey_20 => ?_)
          have ty_20 : y_20.toInt = a3.toInt + r_19.toInt := by rw [ey_20]; exact addI (by omega) (by omega)
          have hKr_ : (y_18.toInt + 1).toNat = a1.toNatClampNeg := by omega
          have hrh_ : hnt (zM Ml) vp.toNatClampNeg (y_18.toInt + 1).toNat u1 u2 a2 y_20.toInt := by rw [hKr_]; exact hnt_in hh1_ (hmu_.1 (by omega)) ty_20 f0_r_19
          refine ct_S hP hD hS hA [ob7_0_ xh xc u1 u2 u3 u4 u5 u6 u7 u8, ob0_0_ xc xn xk clo cro c4 c5 c6 c7 c8, ob3_0_ xn vp vn n1 n2 n3 n4 n5, aq_ cy 6 clo 12 (gf_ rl), ai_ cy (rl 0) 12 (Ml 0), ai_ cy (rl 1) 12 (Ml 1), ai_ cy (rl 2) 12 (Ml 2), ai_ cy (rl 3) 12 (Ml 3), ai_ cy (rl 4) 12 (Ml 4), ai_ cy (rl 5) 12 (Ml 5), ai_ cy (rl 6) 12 (Ml 6), ai_ cy (rl 7) 12 (Ml 7), ai_ cy (rl 8) 12 (Ml 8), ai_ cy (rl 9) 12 (Ml 9), ai_ cy (rl 10) 12 (Ml 10), ai_ cy (rl 11) 12 (Ml 11)] [0, 1, 2, 3, 4, 5, 6, 7, 8, 9, 10, 11, 12, 13, 14, 15] (by decide +kernel) rfl (fun hPc hDw hFc hC_ => ?_)
          refine va_callv (va_runV (As := [.int y_18, .int a2, .int y_20]) (rest := []) ⟨hx, hb, hml, hown, hts⟩ (c_X7_chooseForCut2_10 l D cy H.size xh u1 u2 u3 u4 u5 u6 u7 u8 xc xk clo cro c4 c5 c6 c7 c8 xn n1 n2 n3 n4 n5 vp vn rl Ml y_18 a2 y_20 (by first | with_reducible assumption | omega | assumption) (by first | with_reducible assumption | omega | assumption) (by first | with_reducible assumption | assumption | omega) (by first | with_reducible assumption | omega | assumption) (by first | with_reducible assumption | assumption | omega) (by first | with_reducible assumption | assumption | omega)) (cwV 3 hts gX7_chooseForCut_X7_chooseForCut rfl rfl rfl ⟨rfl, hd_X7_chooseForCut⟩ ⟨Nat.le_of_ble_eq_true rfl, Nat.le_of_ble_eq_true rfl⟩) ⟨bl_g, va_recvX hK.1 hP (ci := 7) (q0 := 0) rfl rfl, fun U hU hW => ⟨rfl, by rw [hU], by rw [hU]; exact hPc, ⟨kk_mv hW hK, arrOfT_moved hW.alike hG⟩, hDw⟩⟩ rfl rfl hl.1 rfl (lv_room (Nat.le_of_ble_eq_true rfl)) dB_36_1_60.1.2.1.1 ⟨Nat.le_of_ble_eq_true rfl, Nat.le_of_ble_eq_true rfl⟩) hS (fun q _ h => hFc q h) hFc (fun u t H locs ht hvm hw hB hz1 hk1 hS => ?_)
          obtain ⟨v5_22, v6_23, g_24, hP1, hD1⟩ := hB
          rw [ht] at hP1
          obtain ⟨hP, hD⟩ := va_join (wr := []) (w1 := [ob7_0_ xh xc u1 u2 u3 u4 v5_22 v6_23 u7 u8, ob0_0_ xc xn xk clo cro c4 c5 c6 c7 c8, ob3_0_ xn vp vn n1 n2 n3 n4 n5, aq_ cy 6 clo 12 (gf_ rl), ai_ cy (rl 0) 12 (Ml 0), ai_ cy (rl 1) 12 (Ml 1), ai_ cy (rl 2) 12 (Ml 2), ai_ cy (rl 3) 12 (Ml 3), ai_ cy (rl 4) 12 (Ml 4), ai_ cy (rl 5) 12 (Ml 5), ai_ cy (rl 6) 12 (Ml 6), ai_ cy (rl 7) 12 (Ml 7), ai_ cy (rl 8) 12 (Ml 8), ai_ cy (rl 9) 12 (Ml 9), ai_ cy (rl 10) 12 (Ml 10), ai_ cy (rl 11) 12 (Ml 11)]) hP hD [0, 1, 2, 3, 4, 5, 6, 7, 8, 9, 10, 11, 12, 13, 14, 15] [] hC_ rfl (by decide) (by decide) hk1 hFc hP1 hD1
          refine pd_K [ob7_0_ xh xc u1 u2 u3 u4 v5_22 v6_23 u7 u8, ob0_0_ xc xn xk clo cro c4 c5 c6 c7 c8, ob3_0_ xn vp vn n1 n2 n3 n4 n5, aq_ cy 6 clo 12 (gf_ rl), ai_ cy (rl 0) 12 (Ml 0), ai_ cy (rl 1) 12 (Ml 1), ai_ cy (rl 2) 12 (Ml 2), ai_ cy (rl 3) 12 (Ml 3), ai_ cy (rl 4) 12 (Ml 4), ai_ cy (rl 5) 12 (Ml 5), ai_ cy (rl 6) 12 (Ml 6), ai_ cy (rl 7) 12 (Ml 7), ai_ cy (rl 8) 12 (Ml 8), ai_ cy (rl 9) 12 (Ml 9), ai_ cy (rl 10) 12 (Ml 10), ai_ cy (rl 11) 12 (Ml 11)] hP hD (fun hP hD => ?_)
          exact JOIN_5 v5_22 v6_23 _ _ _ (by first | exact scn_skip hs (fun j h1 h2 => hnt_nin hh1_ (by omega) (hmu_.2 (by omega)) h1 h2) | exact scn_to g_24 (by rw [hKr_])) ⟨hP, hD⟩ hS (lv_sub hl [0, 1, 2, 3, 4] rfl)
      · have t_3 : ¬ (0 : Int32).toInt ≤ a1.toInt := fun h => c_3 (Int32.le_iff_toInt_le.mpr h)
        have hK_ : (a1.toInt + 1).toNat = 0 := by omega
        have hh0_ : hnt (zM Ml) vp.toNatClampNeg 0 u1 u2 a2 a3.toInt := by rw [hK_] at hh; exact hh
        have hsn_ := scn_not hs (by omega) (by omega)
        have hcb_ := cnQ_nn (p := qF (zM Ml) vp.toNatClampNeg u1 u2 u3.toInt) (k := a2.toNatClampNeg)
        refine lv_aload_n hx hb dB_36_1_58.2.1.2.2 rfl (lv_at hl 0 rfl) ?_
        refine lv_iload_n hx hb dB_36_1_58.2.2.1.1 rfl (lv_at hl 2 rfl) ?_
        refine lv_iload_n hx hb dB_36_1_58.2.2.1.2 rfl (lv_at hl 3 rfl) ?_
        refine ct_S hP hD hS hA [ob7_0_ xh xc u1 u2 u3 u4 u5 u6 u7 u8] [0] (by decide) rfl (fun hPc hDw hFc hC_ => ?_)
        refine va_callv (va_runV (As := [.int a2, .int a3]) (rest := []) ⟨hx, hb, hml, hown, hts⟩ (c_X7_meet2 l D cy s.heap.size xh u1 u2 u3 u4 u5 u6 u7 u8 xc a2 a3 (by first | with_reducible assumption | omega | assumption)) (cwV 2 hts gX7_chooseForCut_X7_meet rfl rfl rfl ⟨rfl, hd_X7_meet⟩ ⟨Nat.le_of_ble_eq_true rfl, Nat.le_of_ble_eq_true rfl⟩) ⟨bl_, va_recvX hK.1 hP (ci := 7) (q0 := 0) rfl rfl, fun U hU hW => ⟨rfl, by rw [hU], by rw [hU]; exact hPc, kk_mv hW hK, hDw⟩⟩ rfl rfl hl.1 rfl (lv_room (Nat.le_of_ble_eq_true rfl)) dB_36_1_58.2.2.2.1 ⟨Nat.le_of_ble_eq_true rfl, Nat.le_of_ble_eq_true rfl⟩) hS (fun q _ h => hFc q h) hFc (fun u t H locs ht hvm hw hB hz1 hk1 hS => ?_)
        obtain ⟨v5_26, v6_27, g_28, hP1, hD1⟩ := hB
        rw [ht] at hP1
        obtain ⟨hP, hD⟩ := va_join (wr := [ob0_0_ xc xn xk clo cro c4 c5 c6 c7 c8, ob3_0_ xn vp vn n1 n2 n3 n4 n5, aq_ cy 6 clo 12 (gf_ rl), ai_ cy (rl 0) 12 (Ml 0), ai_ cy (rl 1) 12 (Ml 1), ai_ cy (rl 2) 12 (Ml 2), ai_ cy (rl 3) 12 (Ml 3), ai_ cy (rl 4) 12 (Ml 4), ai_ cy (rl 5) 12 (Ml 5), ai_ cy (rl 6) 12 (Ml 6), ai_ cy (rl 7) 12 (Ml 7), ai_ cy (rl 8) 12 (Ml 8), ai_ cy (rl 9) 12 (Ml 9), ai_ cy (rl 10) 12 (Ml 10), ai_ cy (rl 11) 12 (Ml 11)]) (w1 := [ob7_0_ xh xc u1 u2 u3 u4 v5_26 v6_27 u7 u8]) hP hD [0] [1, 2, 3, 4, 5, 6, 7, 8, 9, 10, 11, 12, 13, 14, 15] hC_ rfl (by decide +kernel) (by decide +kernel) hk1 hFc hP1 hD1
        refine pd_S hP hD [ob7_0_ xh xc u1 u2 u3 u4 v5_26 v6_27 u7 u8, ob0_0_ xc xn xk clo cro c4 c5 c6 c7 c8, ob3_0_ xn vp vn n1 n2 n3 n4 n5, aq_ cy 6 clo 12 (gf_ rl), ai_ cy (rl 0) 12 (Ml 0), ai_ cy (rl 1) 12 (Ml 1), ai_ cy (rl 2) 12 (Ml 2), ai_ cy (rl 3) 12 (Ml 3), ai_ cy (rl 4) 12 (Ml 4), ai_ cy (rl 5) 12 (Ml 5), ai_ cy (rl 6) 12 (Ml 6), ai_ cy (rl 7) 12 (Ml 7), ai_ cy (rl 8) 12 (Ml 8), ai_ cy (rl 9) 12 (Ml 9), ai_ cy (rl 10) 12 (Ml 10), ai_ cy (rl 11) 12 (Ml 11)] [15, 0, 1, 2, 3, 4, 5, 6, 7, 8, 9, 10, 11, 12, 13, 14] (by decide +kernel) rfl (fun hP hD => ?_)
        rw [hQ]
        exact W.vret hx hb hr (fun t ht hW => ⟨⟨(), rfl, trivial, v5_26, v6_27, (scn_to (leaf_end hs (by omega) hlt_ (hnt_leaf hh0_ (by omega)) g_28) (by rw [hK_])), by rw [ht]; exact hP, hD⟩, hS.F ht⟩) hS.2.2 dB_36_1_58.2.2.2.2
    · have t_2 : ¬ u6.toInt = ((-9) : Int32).toInt := fun h => c_2 (Int32.toInt_inj.mp h)
      rw [hQ]
      exact W.vret hx hb hr (fun t ht hW => ⟨⟨(), rfl, trivial, u5, u6, (by first | exact scn_skip hs (fun j h1 h2 => hnt_big hh (by omega) hnn_ (by omega) h1 h2) | exact scn_found hs (by omega)), by rw [ht]; exact hP, hD⟩, hS.F ht⟩) hS.2.2 dB_36_1_58.2.1.1.1

set_option maxHeartbeats 4000000 in
set_option maxRecDepth 100000 in
theorem c_X7_chooseForCut2_12 (l : Launch) (D : va_G) (cy : Nat → ClassId) (sz : Nat) (xh : Nat) (u1 : Int32) (u2 : Int32) (u3 : Int32) (u4 : Int32) (u5 : Int32) (u6 : Int32) (u7 : Int32) (u8 : Int32) (xc : Nat) (xk : Nat) (clo : Nat) (cro : Nat) (c4 : Nat) (c5 : Nat) (c6 : Nat) (c7 : Nat) (c8 : Nat) (xn : Nat) (n1 : Nat) (n2 : Nat) (n3 : Nat) (n4 : Nat) (n5 : Nat) (vp : Int32) (vn : Int32) (rl : Nat → Nat) (Ml : Nat → Nat → Int32) (a1 : Int32) (a2 : Int32) (a3 : Int32) (hvp : 0 ≤ vp.toInt ∧ vp.toInt ≤ 12) (q1 : -1 ≤ a1.toInt ∧ a1.toInt < 12) (hM : ∀ x y : Nat, x < vp.toNatClampNeg → y < vp.toNatClampNeg → 0 ≤ zM Ml x y ∧ zM Ml x y ≤ 80000000) (hA : 0 ≤ u3.toInt ∧ u3.toInt ≤ 1000000) (hh : hnt (zM Ml) vp.toNatClampNeg (a1.toInt + 1).toNat u1 u2 a2 a3.toInt) (hs : scn (qF (zM Ml) vp.toNatClampNeg u1 u2 u3.toInt) u4.toInt a2.toNatClampNeg u5 u6) : Met l yX7_chooseForCut wsX7_chooseForCut ({ frames := 13, cells := 0, slots := 0, locals := 310 }) (va_Pc [.ref xh, .int a1, .int a2, .int a3] (fun U => U.heap.size = sz ∧ va_P D vwCl [ob7_0_ xh xc u1 u2 u3 u4 u5 u6 u7 u8, ob0_0_ xc xn xk clo cro c4 c5 c6 c7 c8, ob3_0_ xn vp vn n1 n2 n3 n4 n5, aq_ cy 6 clo 12 (gf_ rl), ai_ cy (rl 0) 12 (Ml 0), ai_ cy (rl 1) 12 (Ml 1), ai_ cy (rl 2) 12 (Ml 2), ai_ cy (rl 3) 12 (Ml 3), ai_ cy (rl 4) 12 (Ml 4), ai_ cy (rl 5) 12 (Ml 5), ai_ cy (rl 6) 12 (Ml 6), ai_ cy (rl 7) 12 (Ml 7), ai_ cy (rl 8) 12 (Ml 8), ai_ cy (rl 9) 12 (Ml 9), ai_ cy (rl 10) 12 (Ml 10), ai_ cy (rl 11) 12 (Ml 11)] U.heap ∧ kg_ D cy U ∧ va_D (fun _ => True) [ob7_0_ xh xc u1 u2 u3 u4 u5 u6 u7 u8, ob0_0_ xc xn xk clo cro c4 c5 c6 c7 c8, ob3_0_ xn vp vn n1 n2 n3 n4 n5, aq_ cy 6 clo 12 (gf_ rl), ai_ cy (rl 0) 12 (Ml 0), ai_ cy (rl 1) 12 (Ml 1), ai_ cy (rl 2) 12 (Ml 2), ai_ cy (rl 3) 12 (Ml 3), ai_ cy (rl 4) 12 (Ml 4), ai_ cy (rl 5) 12 (Ml 5), ai_ cy (rl 6) 12 (Ml 6), ai_ cy (rl 7) 12 (Ml 7), ai_ cy (rl 8) 12 (Ml 8), ai_ cy (rl 9) 12 (Ml 9), ai_ cy (rl 10) 12 (Ml 10), ai_ cy (rl 11) 12 (Ml 11)])) (va_Qv (fun (_ : Unit) => True) (fun (_ : Unit) (t : State) => ∃ (v5 : Int32), ∃ (v6 : Int32), (scn (qF (zM Ml) vp.toNatClampNeg u1 u2 u3.toInt) u4.toInt (a2.toNatClampNeg + 2 ^ (a1.toInt + 1).toNat) v5 v6) ∧ va_P D vwCl [ob7_0_ xh xc u1 u2 u3 u4 v5 v6 u7 u8, ob0_0_ xc xn xk clo cro c4 c5 c6 c7 c8, ob3_0_ xn vp vn n1 n2 n3 n4 n5, aq_ cy 6 clo 12 (gf_ rl), ai_ cy (rl 0) 12 (Ml 0), ai_ cy (rl 1) 12 (Ml 1), ai_ cy (rl 2) 12 (Ml 2), ai_ cy (rl 3) 12 (Ml 3), ai_ cy (rl 4) 12 (Ml 4), ai_ cy (rl 5) 12 (Ml 5), ai_ cy (rl 6) 12 (Ml 6), ai_ cy (rl 7) 12 (Ml 7), ai_ cy (rl 8) 12 (Ml 8), ai_ cy (rl 9) 12 (Ml 9), ai_ cy (rl 10) 12 (Ml 10), ai_ cy (rl 11) 12 (Ml 11)] t.heap ∧ va_D (va_A [ob7_0_ xh xc u1 u2 u3 u4 u5 u6 u7 u8, ob0_0_ xc xn xk clo cro c4 c5 c6 c7 c8, ob3_0_ xn vp vn n1 n2 n3 n4 n5, aq_ cy 6 clo 12 (gf_ rl), ai_ cy (rl 0) 12 (Ml 0), ai_ cy (rl 1) 12 (Ml 1), ai_ cy (rl 2) 12 (Ml 2), ai_ cy (rl 3) 12 (Ml 3), ai_ cy (rl 4) 12 (Ml 4), ai_ cy (rl 5) 12 (Ml 5), ai_ cy (rl 6) 12 (Ml 6), ai_ cy (rl 7) 12 (Ml 7), ai_ cy (rl 8) 12 (Ml 8), ai_ cy (rl 9) 12 (Ml 9), ai_ cy (rl 10) 12 (Ml 10), ai_ cy (rl 11) 12 (Ml 11)] sz) [ob7_0_ xh xc u1 u2 u3 u4 v5 v6 u7 u8, ob0_0_ xc xn xk clo cro c4 c5 c6 c7 c8, ob3_0_ xn vp vn n1 n2 n3 n4 n5, aq_ cy 6 clo 12 (gf_ rl), ai_ cy (rl 0) 12 (Ml 0), ai_ cy (rl 1) 12 (Ml 1), ai_ cy (rl 2) 12 (Ml 2), ai_ cy (rl 3) 12 (Ml 3), ai_ cy (rl 4) 12 (Ml 4), ai_ cy (rl 5) 12 (Ml 5), ai_ cy (rl 6) 12 (Ml 6), ai_ cy (rl 7) 12 (Ml 7), ai_ cy (rl 8) 12 (Ml 8), ai_ cy (rl 9) 12 (Ml 9), ai_ cy (rl 10) 12 (Ml 10), ai_ cy (rl 11) 12 (Ml 11)]) (va_A [ob7_0_ xh xc u1 u2 u3 u4 u5 u6 u7 u8, ob0_0_ xc xn xk clo cro c4 c5 c6 c7 c8, ob3_0_ xn vp vn n1 n2 n3 n4 n5, aq_ cy 6 clo 12 (gf_ rl), ai_ cy (rl 0) 12 (Ml 0), ai_ cy (rl 1) 12 (Ml 1), ai_ cy (rl 2) 12 (Ml 2), ai_ cy (rl 3) 12 (Ml 3), ai_ cy (rl 4) 12 (Ml 4), ai_ cy (rl 5) 12 (Ml 5), ai_ cy (rl 6) 12 (Ml 6), ai_ cy (rl 7) 12 (Ml 7), ai_ cy (rl 8) 12 (Ml 8), ai_ cy (rl 9) 12 (Ml 9), ai_ cy (rl 10) 12 (Ml 10), ai_ cy (rl 11) 12 (Ml 11)] sz)) 0 0 (va_A [ob7_0_ xh xc u1 u2 u3 u4 u5 u6 u7 u8, ob0_0_ xc xn xk clo cro c4 c5 c6 c7 c8, ob3_0_ xn vp vn n1 n2 n3 n4 n5, aq_ cy 6 clo 12 (gf_ rl), ai_ cy (rl 0) 12 (Ml 0), ai_ cy (rl 1) 12 (Ml 1), ai_ cy (rl 2) 12 (Ml 2), ai_ cy (rl 3) 12 (Ml 3), ai_ cy (rl 4) 12 (Ml 4), ai_ cy (rl 5) 12 (Ml 5), ai_ cy (rl 6) 12 (Ml 6), ai_ cy (rl 7) 12 (Ml 7), ai_ cy (rl 8) 12 (Ml 8), ai_ cy (rl 9) 12 (Ml 9), ai_ cy (rl 10) 12 (Ml 10), ai_ cy (rl 11) 12 (Ml 11)] sz) := by
  refine ofQ (cc := cX7_chooseForCut) (maxL := 5) (ret := none) (by decide) rfl ?_
  intro p e s m args below meth c s₁ Q hQ B hml hv
  obtain ⟨rfl, hsz, hP, hK, hD0⟩ := hv
  have hG := hK.2
  have hK := hK.1
  have hx := B.exec
  have hb := B.bytes
  have hr := B.returns
  have hts := atoms_spec (ws := wsX7_chooseForCut) B.pre
  have hown : s.vm.findClass RX7 = some m.cls := by have h_ := findClass_of_methodNamed B.named; exact h_
  have hlocks := B.notSynchronized
  subst hsz
  have hD := hD0.self (sz := s.heap.size)
  generalize hAe : va_A [ob7_0_ xh xc u1 u2 u3 u4 u5 u6 u7 u8, ob0_0_ xc xn xk clo cro c4 c5 c6 c7 c8, ob3_0_ xn vp vn n1 n2 n3 n4 n5, aq_ cy 6 clo 12 (gf_ rl), ai_ cy (rl 0) 12 (Ml 0), ai_ cy (rl 1) 12 (Ml 1), ai_ cy (rl 2) 12 (Ml 2), ai_ cy (rl 3) 12 (Ml 3), ai_ cy (rl 4) 12 (Ml 4), ai_ cy (rl 5) 12 (Ml 5), ai_ cy (rl 6) 12 (Ml 6), ai_ cy (rl 7) 12 (Ml 7), ai_ cy (rl 8) 12 (Ml 8), ai_ cy (rl 9) 12 (Ml 9), ai_ cy (rl 10) 12 (Ml 10), ai_ cy (rl 11) 12 (Ml 11)] s.heap.size = A at hD hQ
  have hA : ∀ q : Nat, s.heap.size ≤ q → A q := fun q h => by rw [← hAe]; exact Or.inr h
  have hS : va_S A s.heap s.heap [] := va_S.rf
  have hl := lv_entry ([.ref xh, .int a1, .int a2, .int a3]) (n := 5) (Nat.le_of_ble_eq_true rfl)
  rw [lg_entry_eq]
  generalize (lg_sl ([.ref xh, .int a1, .int a2, .int a3]) ++ List.replicate (5 - (lg_sl ([.ref xh, .int a1, .int a2, .int a3])).length) Slot.unset).toArray = ls at hl ⊢
  have hl : lv_has ls 5 [(0, .ref xh), (1, .int a1), (2, .int a2), (3, .int a3)] := hl
  have zm9 : ((-9) : Int32).toInt = -9 := by decide
  have z0 : (0 : Int32).toInt = 0 := by decide
  have z1 : (1 : Int32).toInt = 1 := by decide
  have cv_ := clI (i := vp) (by omega)
  have hnn_ : ∀ x y : Nat, x < vp.toNatClampNeg → y < vp.toNatClampNeg → 0 ≤ zM Ml x y := fun x y hx hy => (hM x y hx hy).1
  have ha3_ := hnt_nn hh hnn_
  have hlt_ := hnt_lt hh (by omega)
  refine lv_iload_n hx hb dB_36_1_58.1.1.1.1 rfl (lv_at hl 3 rfl) ?_
  refine lv_aload_n hx hb dB_36_1_58.1.1.1.2 rfl (lv_at hl 0 rfl) ?_
  refine va_get (ci := 7) (v := .int u3) (C := RX7) (T := TX7) (N := 9) hx hb hts (fun _ h => List.mem_cons_of_mem _ (List.mem_append_left _ (List.mem_append_left _ (List.mem_append_right _ h)))) hown hK.1 hP 0 rfl rfl 3 (by decide) (hts (.fieldLink RX7 33 "CutAtlas$SetHunt" "aim" "I") (List.mem_of_getElem? (i := 1) rfl)) (fun _ h9 => h9) rfl dB_36_1_58.1.1.2.1 ?_
  refine lv_icmp_gt (tgt := 17) hx hb dB_36_1_58.1.1.2.2 (by decide) (fun c_1 => ?_) (fun c_1 => ?_)
  · have t_1 : u3.toInt < a3.toInt := Int32.lt_iff_toInt_lt.mp c_1
    rw [hQ]
    exact W.vret hx hb hr (fun t ht hW => ⟨⟨(), rfl, trivial, u5, u6, (by first | exact scn_skip hs (fun j h1 h2 => hnt_big hh (by omega) hnn_ (by omega) h1 h2) | exact scn_found hs (by omega)), by rw [ht]; exact hP, hD⟩, hS.F ht⟩) hS.2.2 dB_36_1_58.2.1.1.1
  · have t_1 : ¬ u3.toInt < a3.toInt := fun h => c_1 (Int32.lt_iff_toInt_lt.mpr h)
    refine lv_aload_n hx hb dB_36_1_58.1.2.1.1 rfl (lv_at hl 0 rfl) ?_
    refine va_get (ci := 7) (v := .int u6) (C := RX7) (T := TX7) (N := 9) hx hb hts (fun _ h => List.mem_cons_of_mem _ (List.mem_append_left _ (List.mem_append_left _ (List.mem_append_right _ h)))) hown hK.1 hP 0 rfl rfl 6 (by decide) (hts (.fieldLink RX7 24 "CutAtlas$SetHunt" "found" "I") (List.mem_of_getElem? (i := 2) rfl)) (fun _ h9 => h9) rfl dB_36_1_58.1.2.1.2 ?_
    refine lv_bipush (v := (-9)) hx hb dB_36_1_58.1.2.2.1 (by decide) ?_
    refine lv_icmp_eq (tgt := 18) hx hb dB_36_1_58.1.2.2.2 (by decide) (fun c_2 => ?_) (fun c_2 => ?_)
    · have t_2 : u6.toInt = ((-9) : Int32).toInt := congrArg Int32.toInt c_2
      refine lv_iload_n hx hb dB_36_1_58.2.1.1.2 rfl (lv_at hl 1 rfl) ?_
      refine lv_if_ge (tgt := 29) hx hb dB_36_1_58.2.1.2.1 (by decide) (fun c_3 => ?_) (fun c_3 => ?_)
      · have t_3 : (0 : Int32).toInt ≤ a1.toInt := Int32.le_iff_toInt_le.mp c_3
        have cp_ := clI (i := a1) (by omega)
        have hK_ : (a1.toInt + 1).toNat = a1.toNatClampNeg + 1 := by omega
        have hh1_ : hnt (zM Ml) vp.toNatClampNeg (a1.toNatClampNeg + 1) u1 u2 a2 a3.toInt := by rw [hK_] at hh; exact hh
        have hap_ : a1.toInt < vp.toInt := by have h_ := hh1_.1; omega
        refine lv_iconst (v := 1) hx hb dB_36_1_59.1.1.1.1 (by decide) ?_
        refine lv_iload_n hx hb dB_36_1_59.1.1.1.2 rfl (lv_at hl 1 rfl) ?_
        refine lv_ishl hx hb dB_36_1_59.1.1.2.1 ?_
        refine lv_topi (fun y_4 ey_4 => ?_)
        refine lv_istore (lv' := [(4, .int y_4), (0, .ref xh), (1, .int a1), (2, .int a2), (3, .int a3)]) hx hb dB_36_1_59.1.1.2.2 hl (by decide) rfl (fun ls hl => ?_)
        have JOIN_5 : ∀ (o5_5 : Int32) (o6_5 : Int32) (H : Heap) (locs : List Loc) (ls : Array Slot), (scn (qF (zM Ml) vp.toNatClampNeg u1 u2 u3.toInt) u4.toInt (a2.toNatClampNeg + 2 ^ a1.toNatClampNeg) o5_5 o6_5) → pd_2 D vwCl A [ob7_0_ xh xc u1 u2 u3 u4 o5_5 o6_5 u7 u8, ob0_0_ xc xn xk clo cro c4 c5 c6 c7 c8, ob3_0_ xn vp vn n1 n2 n3 n4 n5, aq_ cy 6 clo 12 (gf_ rl), ai_ cy (rl 0) 12 (Ml 0), ai_ cy (rl 1) 12 (Ml 1), ai_ cy (rl 2) 12 (Ml 2), ai_ cy (rl 3) 12 (Ml 3), ai_ cy (rl 4) 12 (Ml 4), ai_ cy (rl 5) 12 (Ml 5), ai_ cy (rl 6) 12 (Ml 6), ai_ cy (rl 7) 12 (Ml 7), ai_ cy (rl 8) 12 (Ml 8), ai_ cy (rl 9) 12 (Ml 9), ai_ cy (rl 10) 12 (Ml 10), ai_ cy (rl 11) 12 (Ml 11)] H → va_S A s.heap H locs → lv_has ls 5 [(4, .int y_4), (0, .ref xh), (1, .int a1), (2, .int a2), (3, .int a3)] → W p l e ({ frames := 13, cells := 0, slots := 0, locals := 310 } : Room) s m (([.ref xh, .int a1, .int a2, .int a3] : List Value).toArray) below meth c H locs 0 0 Q (F0 m 60 ls []) := by
          intro o5_5 o6_5 H locs ls v0_5 hPD hS hl; obtain ⟨hP, hD⟩ := hPD
          refine lv_aload_n hx hb dB_36_1_60.1.2.1.2 rfl (lv_at hl 1 rfl) ?_
          refine va_get (ci := 7) (v := .int u2) (C := RX7) (T := TX7) (N := 9) hx hb hts (fun _ h => List.mem_cons_of_mem _ (List.mem_append_left _ (List.mem_append_left _ (List.mem_append_right _ h)))) hown hK.1 hP 0 rfl rfl 2 (by decide) (hts (.fieldLink RX7 30 "CutAtlas$SetHunt" "mustNot" "I") (List.mem_of_getElem? (i := 4) rfl)) (fun _ h9 => h9) rfl dB_36_1_60.1.2.2.1 ?_
          refine lv_iload hx hb dB_36_1_60.1.2.2.2 (lv_at hl 0 rfl) ?_
          refine lv_iand hx hb dB_36_1_60.2.1.1.1 ?_
          refine lv_topi (fun y_6 ey_6 => ?_)
          have hnu_ := and_bit (mu := u2) (by omega) (by omega) ey_4 ey_6
          refine lv_if_ne (tgt := 89) hx hb dB_36_1_60.2.1.1.2 (by decide) (fun c_7 => ?_) (fun c_7 => ?_)
          · have t_7 : ¬ y_6.toInt = (0 : Int32).toInt := fun h => c_7 (Int32.toInt_inj.mp h)
            rw [hQ]
            exact W.vret hx hb hr (fun t ht hW => ⟨⟨(), rfl, trivial, o5_5, o6_5, (by first | exact scn_to (scn_skip v0_5 (fun j h1 h2 => hnt_nout hh1_ (by omega) (hnu_.2 (by omega)) h1 h2)) (by rw [pw_K hK_]; omega) | exact scn_to of_none (by rw [hKq_, hst_.1, pw_K hK_]; omega)), by rw [ht]; exact hP, hD⟩, hS.F ht⟩) hS.2.2 dB_36_1_61.2.2.2.2
          · have t_7 : y_6.toInt = (0 : Int32).toInt := congrArg Int32.toInt c_7
            refine lv_aload_n hx hb dB_36_1_60.2.1.2.1 rfl (lv_at hl 1 rfl) ?_
            refine lv_iload_n hx hb dB_36_1_60.2.1.2.2 rfl (lv_at hl 2 rfl) ?_
            refine lv_iconst (v := 1) hx hb dB_36_1_60.2.2.1.1 (by decide) ?_
            refine lv_isub hx hb dB_36_1_60.2.2.1.2 ?_
            refine lv_topi (fun y_8 ey_8 => ?_)
            have ty_8 : y_8.toInt = a1.toInt - (1 : Int32).toInt := by rw [ey_8]; exact subI (by omega) (by omega)
            refine lv_iload_n hx hb dB_36_1_60.2.2.2.1 rfl (lv_at hl 3 rfl) ?_
            refine lv_iload hx hb dB_36_1_60.2.2.2.2 (lv_at hl 0 rfl) ?_
            refine lv_ior hx hb dB_36_1_61.1.1.1 ?_
            refine lv_topi (fun y_9 ey_9 => ?_)
            have hst_ := hnt_set hh1_ (by omega) (by omega) ey_4 ey_9
            refine lv_iload_n hx hb dB_36_1_61.1.1.2 rfl (lv_at hl 4 rfl) ?_
            refine lv_aload_n hx hb dB_36_1_61.1.2.1 rfl (lv_at hl 1 rfl) ?_
            refine lv_iload_n hx hb dB_36_1_61.1.2.2 rfl (lv_at hl 2 rfl) ?_
            refine lv_iload_n hx hb dB_36_1_61.2.1.1 rfl (lv_at hl 3 rfl) ?_
            refine ct_R hP hD [ob7_0_ xh xc u1 u2 u3 u4 o5_5 o6_5 u7 u8, ob0_0_ xc xn xk clo cro c4 c5 c6 c7 c8, ob3_0_ xn vp vn n1 n2 n3 n4 n5, aq_ cy 6 clo 12 (gf_ rl), ai_ cy (rl 0) 12 (Ml 0), ai_ cy (rl 1) 12 (Ml 1), ai_ cy (rl 2) 12 (Ml 2), ai_ cy (rl 3) 12 (Ml 3), ai_ cy (rl 4) 12 (Ml 4), ai_ cy (rl 5) 12 (Ml 5), ai_ cy (rl 6) 12 (Ml 6), ai_ cy (rl 7) 12 (Ml 7), ai_ cy (rl 8) 12 (Ml 8), ai_ cy (rl 9) 12 (Ml 9), ai_ cy (rl 10) 12 (Ml 10), ai_ cy (rl 11) 12 (Ml 11)] [0, 1, 2, 3, 4, 5, 6, 7, 8, 9, 10, 11, 12, 13, 14, 15] (by decide +kernel) rfl (fun hPc hDw => ?_)
            have hFc := va_free (wc := []) hD hS hA [] rfl
            refine va_calli (va_runV (As := [.int a1, .int a2]) (rest := [.int a3, .int y_9, .int y_8, .ref xh]) ⟨hx, hb, hml, hown, hts⟩ (c_X7_letOut2 l D cy H.size xh u1 u2 u3 u4 o5_5 o6_5 u7 u8 xc xk clo cro c4 c5 c6 c7 c8 xn n1 n2 n3 n4 n5 vp vn rl Ml a1 a2 (by first | with_reducible assumption | omega | assumption) (by first | with_reducible assumption | omega | assumption) (by first | with_reducible assumption | assumption | omega)) (cwV 2 hts gX7_chooseForCut_X7_letOut rfl rfl rfl ⟨rfl, hd_X7_letOut⟩ ⟨Nat.le_of_ble_eq_true rfl, Nat.le_of_ble_eq_true rfl⟩) ⟨bl_g, va_recvX hK.1 hP (ci := 7) (q0 := 0) rfl rfl, fun U hU hW => ⟨rfl, by rw [hU], by rw [hU]; exact hPc, ⟨kk_mv hW hK, arrOfT_moved hW.alike hG⟩, hDw⟩⟩ rfl rfl hl.1 rfl (lv_room (Nat.le_of_ble_eq_true rfl)) dB_36_1_61.2.1.2 ⟨Nat.le_of_ble_eq_true rfl, Nat.le_of_ble_eq_true rfl⟩) hS (fun q _ h => hFc q h) hFc (fun r_10 u t H locs ht hvm hw hB hz1 hk1 hS => ?_)
            have hP : va_P D vwCl _ H := ro_keep hP hk1
            obtain ⟨f0_r_10, f1_r_10⟩ := hw
            refine lv_iadd hx hb dB_36_1_61.2.2.1 ?_
            refine lv_topi (fun y_11 ey_11 => ?_)
            have ty_11 : y_11.toInt = a3.toInt + r_10.toInt := by rw [ey_11]; exact addI (by omega) (by omega)
            have hKq_ : (y_8.toInt + 1).toNat = a1.toNatClampNeg := by omega
            have hrh_ : hnt (zM Ml) vp.toNatClampNeg (y_8.toInt + 1).toNat u1 u2 y_9 y_11.toInt := by rw [hKq_]; exact hnt_out hh1_ (by omega) (by omega) ey_4 ey_9 (hnu_.1 (by omega)) ty_11 f0_r_10
            have hrs_ : scn (qF (zM Ml) vp.toNatClampNeg u1 u2 u3.toInt) u4.toInt y_9.toNatClampNeg o5_5 o6_5 := scn_to v0_5 hst_.1.symm
            refine ct_S hP hD hS hA [ob7_0_ xh xc u1 u2 u3 u4 o5_5 o6_5 u7 u8, ob0_0_ xc xn xk clo cro c4 c5 c6 c7 c8, ob3_0_ xn vp vn n1 n2 n3 n4 n5, aq_ cy 6 clo 12 (gf_ rl), ai_ cy (rl 0) 12 (Ml 0), ai_ cy (rl 1) 12 (Ml 1), ai_ cy (rl 2) 12 (Ml 2), ai_ cy (rl 3) 12 (Ml 3), ai_ cy (rl 4) 12 (Ml 4), ai_ cy (rl 5) 12 (Ml 5), ai_ cy (rl 6) 12 (Ml 6), ai_ cy (rl 7) 12 (Ml 7), ai_ cy (rl 8) 12 (Ml 8), ai_ cy (rl 9) 12 (Ml 9), ai_ cy (rl 10) 12 (Ml 10), ai_ cy (rl 11) 12 (Ml 11)] [0, 1, 2, 3, 4, 5, 6, 7, 8, 9, 10, 11, 12, 13, 14, 15] (by decide +kernel) rfl (fun hPc hDw hFc hC_ => ?_)
            refine va_callv (va_runV (As := [.int y_8, .int y_9, .int y_11]) (rest := []) ⟨hx, hb, hml, hown, hts⟩ (c_X7_chooseForCut2_11 l D cy H.size xh u1 u2 u3 u4 o5_5 o6_5 u7 u8 xc xk clo cro c4 c5 c6 c7 c8 xn n1 n2 n3 n4 n5 vp vn rl Ml y_8 y_9 y_11 (by first | with_reducible assumption | omega | assumption) (by first | with_reducible assumption | omega | assumption) (by first | with_reducible assumption | assumption | omega) (by first | with_reducible assumption | omega | assumption) (by first | with_reducible assumption | assumption | omega) (by first | with_reducible assumption | assumption | omega)) (cwV 3 hts gX7_chooseForCut_X7_chooseForCut rfl rfl rfl ⟨rfl, hd_X7_chooseForCut⟩ ⟨Nat.le_of_ble_eq_true rfl, Nat.le_of_ble_eq_true rfl⟩) ⟨bl_g, va_recvX hK.1 hP (ci := 7) (q0 := 0) rfl rfl, fun U hU hW => ⟨rfl, by rw [hU], by rw [hU]; exact hPc, ⟨kk_mv hW hK, arrOfT_moved hW.alike hG⟩, hDw⟩⟩ rfl rfl hl.1 rfl (lv_room (Nat.le_of_ble_eq_true rfl)) dB_36_1_61.2.2.2.1 ⟨Nat.le_of_ble_eq_true rfl, Nat.le_of_ble_eq_true rfl⟩) hS (fun q _ h => hFc q h) hFc (fun u t H locs ht hvm hw hB hz1 hk1 hS => ?_)
            obtain ⟨v5_13, v6_14, g_15, hP1, hD1⟩ := hB
            rw [ht] at hP1
            obtain ⟨hP, hD⟩ := va_join (wr := []) (w1 := [ob7_0_ xh xc u1 u2 u3 u4 v5_13 v6_14 u7 u8, ob0_0_ xc xn xk clo cro c4 c5 c6 c7 c8, ob3_0_ xn vp vn n1 n2 n3 n4 n5, aq_ cy 6 clo 12 (gf_ rl), ai_ cy (rl 0) 12 (Ml 0), ai_ cy (rl 1) 12 (Ml 1), ai_ cy (rl 2) 12 (Ml 2), ai_ cy (rl 3) 12 (Ml 3), ai_ cy (rl 4) 12 (Ml 4), ai_ cy (rl 5) 12 (Ml 5), ai_ cy (rl 6) 12 (Ml 6), ai_ cy (rl 7) 12 (Ml 7), ai_ cy (rl 8) 12 (Ml 8), ai_ cy (rl 9) 12 (Ml 9), ai_ cy (rl 10) 12 (Ml 10), ai_ cy (rl 11) 12 (Ml 11)]) hP hD [0, 1, 2, 3, 4, 5, 6, 7, 8, 9, 10, 11, 12, 13, 14, 15] [] hC_ rfl (by decide) (by decide) hk1 hFc hP1 hD1
            refine pd_K [ob7_0_ xh xc u1 u2 u3 u4 v5_13 v6_14 u7 u8, ob0_0_ xc xn xk clo cro c4 c5 c6 c7 c8, ob3_0_ xn vp vn n1 n2 n3 n4 n5, aq_ cy 6 clo 12 (gf_ rl), ai_ cy (rl 0) 12 (Ml 0), ai_ cy (rl 1) 12 (Ml 1), ai_ cy (rl 2) 12 (Ml 2), ai_ cy (rl 3) 12 (Ml 3), ai_ cy (rl 4) 12 (Ml 4), ai_ cy (rl 5) 12 (Ml 5), ai_ cy (rl 6) 12 (Ml 6), ai_ cy (rl 7) 12 (Ml 7), ai_ cy (rl 8) 12 (Ml 8), ai_ cy (rl 9) 12 (Ml 9), ai_ cy (rl 10) 12 (Ml 10), ai_ cy (rl 11) 12 (Ml 11)] hP hD (fun hP hD => ?_)
            rw [hQ]
            exact W.vret hx hb hr (fun t ht hW => ⟨⟨(), rfl, trivial, v5_13, v6_14, (by first | exact scn_to (scn_skip v0_5 (fun j h1 h2 => hnt_nout hh1_ (by omega) (hnu_.2 (by omega)) h1 h2)) (by rw [pw_K hK_]; omega) | exact scn_to g_15 (by rw [hKq_, hst_.1, pw_K hK_]; omega)), by rw [ht]; exact hP, hD⟩, hS.F ht⟩) hS.2.2 dB_36_1_61.2.2.2.2
        refine lv_aload_n hx hb dB_36_1_59.1.2.1.1 rfl (lv_at hl 1 rfl) ?_
        refine va_get (ci := 7) (v := .int u1) (C := RX7) (T := TX7) (N := 9) hx hb hts (fun _ h => List.mem_cons_of_mem _ (List.mem_append_left _ (List.mem_append_left _ (List.mem_append_right _ h)))) hown hK.1 hP 0 rfl rfl 1 (by decide) (hts (.fieldLink RX7 27 "CutAtlas$SetHunt" "must" "I") (List.mem_of_getElem? (i := 3) rfl)) (fun _ h9 => h9) rfl dB_36_1_59.1.2.1.2 ?_
        refine lv_iload hx hb dB_36_1_59.1.2.2.1 (lv_at hl 0 rfl) ?_
        refine lv_iand hx hb dB_36_1_59.1.2.2.2 ?_
        refine lv_topi (fun y_16 ey_16 => ?_)
        have hmu_ := and_bit (mu := u1) (by omega) (by omega) ey_4 ey_16
        refine lv_if_ne (tgt := 60) hx hb dB_36_1_59.2.1.1.1 (by decide) (fun c_17 => ?_) (fun c_17 => ?_)
        · have t_17 : ¬ y_16.toInt = (0 : Int32).toInt := fun h => c_17 (Int32.toInt_inj.mp h)
          exact JOIN_5 u5 u6 _ _ _ (by first | exact scn_skip hs (fun j h1 h2 => hnt_nin hh1_ (by omega) (hmu_.2 (by omega)) h1 h2) | exact scn_to of_none (by rw [hKr_])) ⟨hP, hD⟩ hS (lv_sub hl [0, 1, 2, 3, 4] rfl)
        · have t_17 : y_16.toInt = (0 : Int32).toInt := congrArg Int32.toInt c_17
          refine lv_aload_n hx hb dB_36_1_59.2.1.1.2 rfl (lv_at hl 1 rfl) ?_
          refine lv_iload_n hx hb dB_36_1_59.2.1.2.1 rfl (lv_at hl 2 rfl) ?_
          refine lv_iconst (v := 1) hx hb dB_36_1_59.2.1.2.2 (by decide) ?_
          refine lv_isub hx hb dB_36_1_59.2.2.1.1 ?_
          refine lv_topi (fun y_18 ey_18 => ?_)
          have ty_18 : y_18.toInt = a1.toInt - (1 : Int32).toInt := by rw [ey_18]; exact subI (by omega) (by omega)
          refine lv_iload_n hx hb dB_36_1_59.2.2.1.2 rfl (lv_at hl 3 rfl) ?_
          refine lv_iload_n hx hb dB_36_1_59.2.2.2.1 rfl (lv_at hl 4 rfl) ?_
          refine lv_aload_n hx hb dB_36_1_59.2.2.2.2 rfl (lv_at hl 1 rfl) ?_
          refine lv_iload_n hx hb dB_36_1_60.1.1.1.1 rfl (lv_at hl 2 rfl) ?_
          refine lv_iload_n hx hb dB_36_1_60.1.1.1.2 rfl (lv_at hl 3 rfl) ?_
          refine ct_R hP hD [ob7_0_ xh xc u1 u2 u3 u4 u5 u6 u7 u8, ob0_0_ xc xn xk clo cro c4 c5 c6 c7 c8, ob3_0_ xn vp vn n1 n2 n3 n4 n5, aq_ cy 6 clo 12 (gf_ rl), ai_ cy (rl 0) 12 (Ml 0), ai_ cy (rl 1) 12 (Ml 1), ai_ cy (rl 2) 12 (Ml 2), ai_ cy (rl 3) 12 (Ml 3), ai_ cy (rl 4) 12 (Ml 4), ai_ cy (rl 5) 12 (Ml 5), ai_ cy (rl 6) 12 (Ml 6), ai_ cy (rl 7) 12 (Ml 7), ai_ cy (rl 8) 12 (Ml 8), ai_ cy (rl 9) 12 (Ml 9), ai_ cy (rl 10) 12 (Ml 10), ai_ cy (rl 11) 12 (Ml 11)] [0, 1, 2, 3, 4, 5, 6, 7, 8, 9, 10, 11, 12, 13, 14, 15] (by decide +kernel) rfl (fun hPc hDw => ?_)
          have hFc := va_free (wc := []) hD hS hA [] rfl
          refine va_calli (va_runV (As := [.int a1, .int a2]) (rest := [.int a3, .int a2, .int y_18, .ref xh]) ⟨hx, hb, hml, hown, hts⟩ (c_X7_letIn2 l D cy s.heap.size xh u1 u2 u3 u4 u5 u6 u7 u8 xc xk clo cro c4 c5 c6 c7 c8 xn n1 n2 n3 n4 n5 vp vn rl Ml a1 a2 (by first | with_reducible assumption | omega | assumption) (by first | with_reducible assumption | omega | assumption) (by first | with_reducible assumption | assumption | omega)) (cwV 2 hts gX7_chooseForCut_X7_letIn rfl rfl rfl ⟨rfl, hd_X7_letIn⟩ ⟨Nat.le_of_ble_eq_true rfl, Nat.le_of_ble_eq_true rfl⟩) ⟨bl_g, va_recvX hK.1 hP (ci := 7) (q0 := 0) rfl rfl, fun U hU hW => ⟨rfl, by rw [hU], by rw [hU]; exact hPc, ⟨kk_mv hW hK, arrOfT_moved hW.alike hG⟩, hDw⟩⟩ rfl rfl hl.1 rfl (lv_room (Nat.le_of_ble_eq_true rfl)) dB_36_1_60.1.1.2.1 ⟨Nat.le_of_ble_eq_true rfl, Nat.le_of_ble_eq_true rfl⟩) hS (fun q _ h => hFc q h) hFc (fun r_19 u t H locs ht hvm hw hB hz1 hk1 hS => ?_)
          have hP : va_P D vwCl _ H := ro_keep hP hk1
          obtain ⟨f0_r_19, f1_r_19⟩ := hw
          refine lv_iadd hx hb dB_36_1_60.1.1.2.2 ?_
          refine lv_topi (fun y_20 ey_20 => ?_)
          have ty_20 : y_20.toInt = a3.toInt + r_19.toInt := by rw [ey_20]; exact addI (by omega) (by omega)
          have hKr_ : (y_18.toInt + 1).toNat = a1.toNatClampNeg := by omega
          have hrh_ : hnt (zM Ml) vp.toNatClampNeg (y_18.toInt + 1).toNat u1 u2 a2 y_20.toInt := by rw [hKr_]; exact hnt_in hh1_ (hmu_.1 (by omega)) ty_20 f0_r_19
          refine ct_S hP hD hS hA [ob7_0_ xh xc u1 u2 u3 u4 u5 u6 u7 u8, ob0_0_ xc xn xk clo cro c4 c5 c6 c7 c8, ob3_0_ xn vp vn n1 n2 n3 n4 n5, aq_ cy 6 clo 12 (gf_ rl), ai_ cy (rl 0) 12 (Ml 0), ai_ cy (rl 1) 12 (Ml 1), ai_ cy (rl 2) 12 (Ml 2), ai_ cy (rl 3) 12 (Ml 3), ai_ cy (rl 4) 12 (Ml 4), ai_ cy (rl 5) 12 (Ml 5), ai_ cy (rl 6) 12 (Ml 6), ai_ cy (rl 7) 12 (Ml 7), ai_ cy (rl 8) 12 (Ml 8), ai_ cy (rl 9) 12 (Ml 9), ai_ cy (rl 10) 12 (Ml 10), ai_ cy (rl 11) 12 (Ml 11)] [0, 1, 2, 3, 4, 5, 6, 7, 8, 9, 10, 11, 12, 13, 14, 15] (by decide +kernel) rfl (fun hPc hDw hFc hC_ => ?_)
          refine va_callv (va_runV (As := [.int y_18, .int a2, .int y_20]) (rest := []) ⟨hx, hb, hml, hown, hts⟩ (c_X7_chooseForCut2_11 l D cy H.size xh u1 u2 u3 u4 u5 u6 u7 u8 xc xk clo cro c4 c5 c6 c7 c8 xn n1 n2 n3 n4 n5 vp vn rl Ml y_18 a2 y_20 (by first | with_reducible assumption | omega | assumption) (by first | with_reducible assumption | omega | assumption) (by first | with_reducible assumption | assumption | omega) (by first | with_reducible assumption | omega | assumption) (by first | with_reducible assumption | assumption | omega) (by first | with_reducible assumption | assumption | omega)) (cwV 3 hts gX7_chooseForCut_X7_chooseForCut rfl rfl rfl ⟨rfl, hd_X7_chooseForCut⟩ ⟨Nat.le_of_ble_eq_true rfl, Nat.le_of_ble_eq_true rfl⟩) ⟨bl_g, va_recvX hK.1 hP (ci := 7) (q0 := 0) rfl rfl, fun U hU hW => ⟨rfl, by rw [hU], by rw [hU]; exact hPc, ⟨kk_mv hW hK, arrOfT_moved hW.alike hG⟩, hDw⟩⟩ rfl rfl hl.1 rfl (lv_room (Nat.le_of_ble_eq_true rfl)) dB_36_1_60.1.2.1.1 ⟨Nat.le_of_ble_eq_true rfl, Nat.le_of_ble_eq_true rfl⟩) hS (fun q _ h => hFc q h) hFc (fun u t H locs ht hvm hw hB hz1 hk1 hS => ?_)
          obtain ⟨v5_22, v6_23, g_24, hP1, hD1⟩ := hB
          rw [ht] at hP1
          obtain ⟨hP, hD⟩ := va_join (wr := []) (w1 := [ob7_0_ xh xc u1 u2 u3 u4 v5_22 v6_23 u7 u8, ob0_0_ xc xn xk clo cro c4 c5 c6 c7 c8, ob3_0_ xn vp vn n1 n2 n3 n4 n5, aq_ cy 6 clo 12 (gf_ rl), ai_ cy (rl 0) 12 (Ml 0), ai_ cy (rl 1) 12 (Ml 1), ai_ cy (rl 2) 12 (Ml 2), ai_ cy (rl 3) 12 (Ml 3), ai_ cy (rl 4) 12 (Ml 4), ai_ cy (rl 5) 12 (Ml 5), ai_ cy (rl 6) 12 (Ml 6), ai_ cy (rl 7) 12 (Ml 7), ai_ cy (rl 8) 12 (Ml 8), ai_ cy (rl 9) 12 (Ml 9), ai_ cy (rl 10) 12 (Ml 10), ai_ cy (rl 11) 12 (Ml 11)]) hP hD [0, 1, 2, 3, 4, 5, 6, 7, 8, 9, 10, 11, 12, 13, 14, 15] [] hC_ rfl (by decide) (by decide) hk1 hFc hP1 hD1
          refine pd_K [ob7_0_ xh xc u1 u2 u3 u4 v5_22 v6_23 u7 u8, ob0_0_ xc xn xk clo cro c4 c5 c6 c7 c8, ob3_0_ xn vp vn n1 n2 n3 n4 n5, aq_ cy 6 clo 12 (gf_ rl), ai_ cy (rl 0) 12 (Ml 0), ai_ cy (rl 1) 12 (Ml 1), ai_ cy (rl 2) 12 (Ml 2), ai_ cy (rl 3) 12 (Ml 3), ai_ cy (rl 4) 12 (Ml 4), ai_ cy (rl 5) 12 (Ml 5), ai_ cy (rl 6) 12 (Ml 6), ai_ cy (rl 7) 12 (Ml 7), ai_ cy (rl 8) 12 (Ml 8), ai_ cy (rl 9) 12 (Ml 9), ai_ cy (rl 10) 12 (Ml 10), ai_ cy (rl 11) 12 (Ml 11)] hP hD (fun hP hD => ?_)
          exact JOIN_5 v5_22 v6_23 _ _ _ (by first | exact scn_skip hs (fun j h1 h2 => hnt_nin hh1_ (by omega) (hmu_.2 (by omega)) h1 h2) | exact scn_to g_24 (by rw [hKr_])) ⟨hP, hD⟩ hS (lv_sub hl [0, 1, 2, 3, 4] rfl)
      · have t_3 : ¬ (0 : Int32).toInt ≤ a1.toInt := fun h => c_3 (Int32.le_iff_toInt_le.mpr h)
        have hK_ : (a1.toInt + 1).toNat = 0 := by omega
        have hh0_ : hnt (zM Ml) vp.toNatClampNeg 0 u1 u2 a2 a3.toInt := by rw [hK_] at hh; exact hh
        have hsn_ := scn_not hs (by omega) (by omega)
        have hcb_ := cnQ_nn (p := qF (zM Ml) vp.toNatClampNeg u1 u2 u3.toInt) (k := a2.toNatClampNeg)
        refine lv_aload_n hx hb dB_36_1_58.2.1.2.2 rfl (lv_at hl 0 rfl) ?_
        refine lv_iload_n hx hb dB_36_1_58.2.2.1.1 rfl (lv_at hl 2 rfl) ?_
        refine lv_iload_n hx hb dB_36_1_58.2.2.1.2 rfl (lv_at hl 3 rfl) ?_
        refine ct_S hP hD hS hA [ob7_0_ xh xc u1 u2 u3 u4 u5 u6 u7 u8] [0] (by decide) rfl (fun hPc hDw hFc hC_ => ?_)
        refine va_callv (va_runV (As := [.int a2, .int a3]) (rest := []) ⟨hx, hb, hml, hown, hts⟩ (c_X7_meet2 l D cy s.heap.size xh u1 u2 u3 u4 u5 u6 u7 u8 xc a2 a3 (by first | with_reducible assumption | omega | assumption)) (cwV 2 hts gX7_chooseForCut_X7_meet rfl rfl rfl ⟨rfl, hd_X7_meet⟩ ⟨Nat.le_of_ble_eq_true rfl, Nat.le_of_ble_eq_true rfl⟩) ⟨bl_, va_recvX hK.1 hP (ci := 7) (q0 := 0) rfl rfl, fun U hU hW => ⟨rfl, by rw [hU], by rw [hU]; exact hPc, kk_mv hW hK, hDw⟩⟩ rfl rfl hl.1 rfl (lv_room (Nat.le_of_ble_eq_true rfl)) dB_36_1_58.2.2.2.1 ⟨Nat.le_of_ble_eq_true rfl, Nat.le_of_ble_eq_true rfl⟩) hS (fun q _ h => hFc q h) hFc (fun u t H locs ht hvm hw hB hz1 hk1 hS => ?_)
        obtain ⟨v5_26, v6_27, g_28, hP1, hD1⟩ := hB
        rw [ht] at hP1
        obtain ⟨hP, hD⟩ := va_join (wr := [ob0_0_ xc xn xk clo cro c4 c5 c6 c7 c8, ob3_0_ xn vp vn n1 n2 n3 n4 n5, aq_ cy 6 clo 12 (gf_ rl), ai_ cy (rl 0) 12 (Ml 0), ai_ cy (rl 1) 12 (Ml 1), ai_ cy (rl 2) 12 (Ml 2), ai_ cy (rl 3) 12 (Ml 3), ai_ cy (rl 4) 12 (Ml 4), ai_ cy (rl 5) 12 (Ml 5), ai_ cy (rl 6) 12 (Ml 6), ai_ cy (rl 7) 12 (Ml 7), ai_ cy (rl 8) 12 (Ml 8), ai_ cy (rl 9) 12 (Ml 9), ai_ cy (rl 10) 12 (Ml 10), ai_ cy (rl 11) 12 (Ml 11)]) (w1 := [ob7_0_ xh xc u1 u2 u3 u4 v5_26 v6_27 u7 u8]) hP hD [0] [1, 2, 3, 4, 5, 6, 7, 8, 9, 10, 11, 12, 13, 14, 15] hC_ rfl (by decide +kernel) (by decide +kernel) hk1 hFc hP1 hD1
        refine pd_S hP hD [ob7_0_ xh xc u1 u2 u3 u4 v5_26 v6_27 u7 u8, ob0_0_ xc xn xk clo cro c4 c5 c6 c7 c8, ob3_0_ xn vp vn n1 n2 n3 n4 n5, aq_ cy 6 clo 12 (gf_ rl), ai_ cy (rl 0) 12 (Ml 0), ai_ cy (rl 1) 12 (Ml 1), ai_ cy (rl 2) 12 (Ml 2), ai_ cy (rl 3) 12 (Ml 3), ai_ cy (rl 4) 12 (Ml 4), ai_ cy (rl 5) 12 (Ml 5), ai_ cy (rl 6) 12 (Ml 6), ai_ cy (rl 7) 12 (Ml 7), ai_ cy (rl 8) 12 (Ml 8), ai_ cy (rl 9) 12 (Ml 9), ai_ cy (rl 10) 12 (Ml 10), ai_ cy (rl 11) 12 (Ml 11)] [15, 0, 1, 2, 3, 4, 5, 6, 7, 8, 9, 10, 11, 12, 13, 14] (by decide +kernel) rfl (fun hP hD => ?_)
        rw [hQ]
        exact W.vret hx hb hr (fun t ht hW => ⟨⟨(), rfl, trivial, v5_26, v6_27, (scn_to (leaf_end hs (by omega) hlt_ (hnt_leaf hh0_ (by omega)) g_28) (by rw [hK_])), by rw [ht]; exact hP, hD⟩, hS.F ht⟩) hS.2.2 dB_36_1_58.2.2.2.2
    · have t_2 : ¬ u6.toInt = ((-9) : Int32).toInt := fun h => c_2 (Int32.toInt_inj.mp h)
      rw [hQ]
      exact W.vret hx hb hr (fun t ht hW => ⟨⟨(), rfl, trivial, u5, u6, (by first | exact scn_skip hs (fun j h1 h2 => hnt_big hh (by omega) hnn_ (by omega) h1 h2) | exact scn_found hs (by omega)), by rw [ht]; exact hP, hD⟩, hS.F ht⟩) hS.2.2 dB_36_1_58.2.1.1.1
