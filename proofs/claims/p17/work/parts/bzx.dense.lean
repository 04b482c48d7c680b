section
set_option maxHeartbeats 4000000 in
set_option maxRecDepth 100000 in
theorem c_X7_chooseForDense2_0 (l : Launch) (D : va_G) (cy : Nat → ClassId) (sz : Nat) (xh : Nat) (u1 : Int32) (u2 : Int32) (u3 : Int32) (u4 : Int32) (u5 : Int32) (u6 : Int32) (u7 : Int32) (u8 : Int32) (xc : Nat) (xk : Nat) (clo : Nat) (cro : Nat) (c4 : Nat) (c5 : Nat) (c6 : Nat) (c7 : Nat) (c8 : Nat) (xn : Nat) (n1 : Nat) (n2 : Nat) (n3 : Nat) (n4 : Nat) (n5 : Nat) (vp : Int32) (vn : Int32) (rl : Nat → Nat) (Ml : Nat → Nat → Int32) (a1 : Int32) (a2 : Int32) (a3 : Int32) (hvp : 0 ≤ vp.toInt ∧ vp.toInt ≤ 12) (q1 : -1 ≤ a1.toInt ∧ a1.toInt < 0) (hM : ∀ x y : Nat, x < vp.toNatClampNeg → y < vp.toNatClampNeg → 0 ≤ zM Ml x y ∧ zM Ml x y ≤ 80000000) (hB : ∀ n : Nat, 0 ≤ wN (zM Ml) vp.toNatClampNeg n ∧ wN (zM Ml) vp.toNatClampNeg n ≤ 100000) (hB0 : wN (zM Ml) vp.toNatClampNeg 0 = 0) (hh : hdn (zM Ml) vp.toNatClampNeg (a1.toInt + 1).toNat a2 a3.toInt) (hs : dS_ (wN (zM Ml) vp.toNatClampNeg) bN a2.toNatClampNeg u7 u8) : Met l yX7_chooseForDense wsX7_chooseForDense ({ frames := 2, cells := 0, slots := 0, locals := 46 }) (va_Pc [.ref xh, .int a1, .int a2, .int a3] (fun U => U.heap.size = sz ∧ va_P D vwCl [ob7_0_ xh xc u1 u2 u3 u4 u5 u6 u7 u8, ob0_0_ xc xn xk clo cro c4 c5 c6 c7 c8, ob3_0_ xn vp vn n1 n2 n3 n4 n5, aq_ cy 6 clo 12 (gf_ rl), ai_ cy (rl 0) 12 (Ml 0), ai_ cy (rl 1) 12 (Ml 1), ai_ cy (rl 2) 12 (Ml 2), ai_ cy (rl 3) 12 (Ml 3), ai_ cy (rl 4) 12 (Ml 4), ai_ cy (rl 5) 12 (Ml 5), ai_ cy (rl 6) 12 (Ml 6), ai_ cy (rl 7) 12 (Ml 7), ai_ cy (rl 8) 12 (Ml 8), ai_ cy (rl 9) 12 (Ml 9), ai_ cy (rl 10) 12 (Ml 10), ai_ cy (rl 11) 12 (Ml 11)] U.heap ∧ kg_ D cy U ∧ va_D (fun _ => True) [ob7_0_ xh xc u1 u2 u3 u4 u5 u6 u7 u8, ob0_0_ xc xn xk clo cro c4 c5 c6 c7 c8, ob3_0_ xn vp vn n1 n2 n3 n4 n5, aq_ cy 6 clo 12 (gf_ rl), ai_ cy (rl 0) 12 (Ml 0), ai_ cy (rl 1) 12 (Ml 1), ai_ cy (rl 2) 12 (Ml 2), ai_ cy (rl 3) 12 (Ml 3), ai_ cy (rl 4) 12 (Ml 4), ai_ cy (rl 5) 12 (Ml 5), ai_ cy (rl 6) 12 (Ml 6), ai_ cy (rl 7) 12 (Ml 7), ai_ cy (rl 8) 12 (Ml 8), ai_ cy (rl 9) 12 (Ml 9), ai_ cy (rl 10) 12 (Ml 10), ai_ cy (rl 11) 12 (Ml 11)])) (va_Qv (fun (_ : Unit) => True) (fun (_ : Unit) (t : State) => ∃ (v7 : Int32), ∃ (v8 : Int32), (dS_ (wN (zM Ml) vp.toNatClampNeg) bN (a2.toNatClampNeg + 2 ^ (a1.toInt + 1).toNat) v7 v8) ∧ va_P D vwCl [ob7_0_ xh xc u1 u2 u3 u4 u5 u6 v7 v8, ob0_0_ xc xn xk clo cro c4 c5 c6 c7 c8, ob3_0_ xn vp vn n1 n2 n3 n4 n5, aq_ cy 6 clo 12 (gf_ rl), ai_ cy (rl 0) 12 (Ml 0), ai_ cy (rl 1) 12 (Ml 1), ai_ cy (rl 2) 12 (Ml 2), ai_ cy (rl 3) 12 (Ml 3), ai_ cy (rl 4) 12 (Ml 4), ai_ cy (rl 5) 12 (Ml 5), ai_ cy (rl 6) 12 (Ml 6), ai_ cy (rl 7) 12 (Ml 7), ai_ cy (rl 8) 12 (Ml 8), ai_ cy (rl 9) 12 (Ml 9), ai_ cy (rl 10) 12 (Ml 10), ai_ cy (rl 11) 12 (Ml 11)] t.heap ∧ va_D (va_A [ob7_0_ xh xc u1 u2 u3 u4 u5 u6 u7 u8, ob0_0_ xc xn xk clo cro c4 c5 c6 c7 c8, ob3_0_ xn vp vn n1 n2 n3 n4 n5, aq_ cy 6 clo 12 (gf_ rl), ai_ cy (rl 0) 12 (Ml 0), ai_ cy (rl 1) 12 (Ml 1), ai_ cy (rl 2) 12 (Ml 2), ai_ cy (rl 3) 12 (Ml 3), ai_ cy (rl 4) 12 (Ml 4), ai_ cy (rl 5) 12 (Ml 5), ai_ cy (rl 6) 12 (Ml 6), ai_ cy (rl 7) 12 (Ml 7), ai_ cy (rl 8) 12 (Ml 8), ai_ cy (rl 9) 12 (Ml 9), ai_ cy (rl 10) 12 (Ml 10), ai_ cy (rl 11) 12 (Ml 11)] sz) [ob7_0_ xh xc u1 u2 u3 u4 u5 u6 v7 v8, ob0_0_ xc xn xk clo cro c4 c5 c6 c7 c8, ob3_0_ xn vp vn n1 n2 n3 n4 n5, aq_ cy 6 clo 12 (gf_ rl), ai_ cy (rl 0) 12 (Ml 0), ai_ cy (rl 1) 12 (Ml 1), ai_ cy (rl 2) 12 (Ml 2), ai_ cy (rl 3) 12 (Ml 3), ai_ cy (rl 4) 12 (Ml 4), ai_ cy (rl 5) 12 (Ml 5), ai_ cy (rl 6) 12 (Ml 6), ai_ cy (rl 7) 12 (Ml 7), ai_ cy (rl 8) 12 (Ml 8), ai_ cy (rl 9) 12 (Ml 9), ai_ cy (rl 10) 12 (Ml 10), ai_ cy (rl 11) 12 (Ml 11)]) (va_A [ob7_0_ xh xc u1 u2 u3 u4 u5 u6 u7 u8, ob0_0_ xc xn xk clo cro c4 c5 c6 c7 c8, ob3_0_ xn vp vn n1 n2 n3 n4 n5, aq_ cy 6 clo 12 (gf_ rl), ai_ cy (rl 0) 12 (Ml 0), ai_ cy (rl 1) 12 (Ml 1), ai_ cy (rl 2) 12 (Ml 2), ai_ cy (rl 3) 12 (Ml 3), ai_ cy (rl 4) 12 (Ml 4), ai_ cy (rl 5) 12 (Ml 5), ai_ cy (rl 6) 12 (Ml 6), ai_ cy (rl 7) 12 (Ml 7), ai_ cy (rl 8) 12 (Ml 8), ai_ cy (rl 9) 12 (Ml 9), ai_ cy (rl 10) 12 (Ml 10), ai_ cy (rl 11) 12 (Ml 11)] sz)) 0 0 (va_A [ob7_0_ xh xc u1 u2 u3 u4 u5 u6 u7 u8, ob0_0_ xc xn xk clo cro c4 c5 c6 c7 c8, ob3_0_ xn vp vn n1 n2 n3 n4 n5, aq_ cy 6 clo 12 (gf_ rl), ai_ cy (rl 0) 12 (Ml 0), ai_ cy (rl 1) 12 (Ml 1), ai_ cy (rl 2) 12 (Ml 2), ai_ cy (rl 3) 12 (Ml 3), ai_ cy (rl 4) 12 (Ml 4), ai_ cy (rl 5) 12 (Ml 5), ai_ cy (rl 6) 12 (Ml 6), ai_ cy (rl 7) 12 (Ml 7), ai_ cy (rl 8) 12 (Ml 8), ai_ cy (rl 9) 12 (Ml 9), ai_ cy (rl 10) 12 (Ml 10), ai_ cy (rl 11) 12 (Ml 11)] sz) := by
  refine ofQ (cc := cX7_chooseForDense) (maxL := 4) (ret := none) (by decide) rfl ?_
  intro p e s m args below meth c s₁ Q hQ B hml hv
  obtain ⟨rfl, hsz, hP, hK, hD0⟩ := hv
  have hG := hK.2
  have hK := hK.1
  have hx := B.exec
  have hb := B.bytes
  have hr := B.returns
  have hts := atoms_spec (ws := wsX7_chooseForDense) B.pre
  have hown : s.vm.findClass RX7 = some m.cls := by have h_ := findClass_of_methodNamed B.named; exact h_
  have hlocks := B.notSynchronized
  subst hsz
  have hD := hD0.self (sz := s.heap.size)
  generalize hAe : va_A [ob7_0_ xh xc u1 u2 u3 u4 u5 u6 u7 u8, ob0_0_ xc xn xk clo cro c4 c5 c6 c7 c8, ob3_0_ xn vp vn n1 n2 n3 n4 n5, aq_ cy 6 clo 12 (gf_ rl), ai_ cy (rl 0) 12 (Ml 0), ai_ cy (rl 1) 12 (Ml 1), ai_ cy (rl 2) 12 (Ml 2), ai_ cy (rl 3) 12 (Ml 3), ai_ cy (rl 4) 12 (Ml 4), ai_ cy (rl 5) 12 (Ml 5), ai_ cy (rl 6) 12 (Ml 6), ai_ cy (rl 7) 12 (Ml 7), ai_ cy (rl 8) 12 (Ml 8), ai_ cy (rl 9) 12 (Ml 9), ai_ cy (rl 10) 12 (Ml 10), ai_ cy (rl 11) 12 (Ml 11)] s.heap.size = A at hD hQ
  have hA : ∀ q : Nat, s.heap.size ≤ q → A q := fun q h => by rw [← hAe]; exact Or.inr h
  have hS : va_S A s.heap s.heap [] := va_S.rf
  have hl := lv_entry ([.ref xh, .int a1, .int a2, .int a3]) (n := 4) (Nat.le_of_ble_eq_true rfl)
  rw [lg_entry_eq]
  generalize (lg_sl ([.ref xh, .int a1, .int a2, .int a3]) ++ List.replicate (4 - (lg_sl ([.ref xh, .int a1, .int a2, .int a3])).length) Slot.unset).toArray = ls at hl ⊢
  have hl : lv_has ls 4 [(0, .ref xh), (1, .int a1), (2, .int a2), (3, .int a3)] := hl
  have z0 : (0 : Int32).toInt = 0 := by decide
  have cv_ := clI (i := vp) (by omega)
  have hnn_ : ∀ x y : Nat, x < vp.toNatClampNeg → y < vp.toNatClampNeg → 0 ≤ zM Ml x y := fun x y hx hy => (hM x y hx hy).1
  have ha3_ := hdn_bd hh (by omega) hnn_ hB
  have h7r_ : 0 ≤ u7.toInt ∧ u7.toInt < 4096 := by have h1_ := hs.1; have h2_ := dnz_lt (W := (wN (zM Ml) vp.toNatClampNeg)) (b := bN) a2.toNatClampNeg; have h3_ := hnt_lt (hdn_hnt hh) (by omega); omega
  refine lv_iload_n hx hb dB_36_1_62.1.1.1.1 rfl (lv_at hl 1 rfl) ?_
  refine lv_if_ge (tgt := 11) hx hb dB_36_1_62.1.1.1.2 (by decide) (fun c_1 => ?_) (fun c_1 => ?_)
  · have t_1 : (0 : Int32).toInt ≤ a1.toInt := Int32.le_iff_toInt_le.mp c_1
    exfalso; omega
  · have t_1 : ¬ (0 : Int32).toInt ≤ a1.toInt := fun h => c_1 (Int32.le_iff_toInt_le.mpr h)
    have hK_ : (a1.toInt + 1).toNat = 0 := by omega
    have hh0_ : hdn (zM Ml) vp.toNatClampNeg 0 a2 a3.toInt := by rw [hK_] at hh; exact hh
    have hlf_ := hdn_leaf hh0_ (by omega)
    have cA2_ := clI (i := a2) (by omega)
    have hsm_ := hlf_.1
    refine lv_aload_n hx hb dB_36_1_62.1.1.2.1 rfl (lv_at hl 0 rfl) ?_
    refine lv_iload_n hx hb dB_36_1_62.1.1.2.2 rfl (lv_at hl 2 rfl) ?_
    refine lv_iload_n hx hb dB_36_1_62.1.2.1.1 rfl (lv_at hl 3 rfl) ?_
    refine ct_S hP hD hS hA [ob7_0_ xh xc u1 u2 u3 u4 u5 u6 u7 u8] [0] (by decide) rfl (fun hPc hDw hFc hC_ => ?_)
    refine va_callv (va_runV (As := [.int a2, .int a3]) (rest := []) ⟨hx, hb, hml, hown, hts⟩ (c_X7_compareDense2 l D cy s.heap.size xh u1 u2 u3 u4 u5 u6 u7 u8 xc (wN (zM Ml) vp.toNatClampNeg) a2 a3 (by first | with_reducible assumption | omega | assumption) (by first | with_reducible assumption | assumption | omega) (by first | with_reducible assumption | assumption | omega) (by first | with_reducible assumption | assumption | omega) (by first | with_reducible assumption | omega | assumption) (by first | with_reducible assumption | omega | assumption)) (cwV 2 hts gX7_chooseForDense_X7_compareDense rfl rfl rfl ⟨rfl, hd_X7_compareDense⟩ ⟨Nat.le_of_ble_eq_true rfl, Nat.le_of_ble_eq_true rfl⟩) ⟨bl_, va_recvX hK.1 hP (ci := 7) (q0 := 0) rfl rfl, fun U hU hW => ⟨rfl, by rw [hU], by rw [hU]; exact hPc, kk_mv hW hK, hDw⟩⟩ rfl rfl hl.1 rfl (lv_room (Nat.le_of_ble_eq_true rfl)) dB_36_1_62.1.2.1.2 ⟨Nat.le_of_ble_eq_true rfl, Nat.le_of_ble_eq_true rfl⟩) hS (fun q _ h => hFc q h) hFc (fun u t H locs ht hvm hw hB hz1 hk1 hS => ?_)
    obtain ⟨v7_3, v8_4, g_5, hP1, hD1⟩ := hB
    rw [ht] at hP1
    obtain ⟨hP, hD⟩ := va_join (wr := [ob0_0_ xc xn xk clo cro c4 c5 c6 c7 c8, ob3_0_ xn vp vn n1 n2 n3 n4 n5, aq_ cy 6 clo 12 (gf_ rl), ai_ cy (rl 0) 12 (Ml 0), ai_ cy (rl 1) 12 (Ml 1), ai_ cy (rl 2) 12 (Ml 2), ai_ cy (rl 3) 12 (Ml 3), ai_ cy (rl 4) 12 (Ml 4), ai_ cy (rl 5) 12 (Ml 5), ai_ cy (rl 6) 12 (Ml 6), ai_ cy (rl 7) 12 (Ml 7), ai_ cy (rl 8) 12 (Ml 8), ai_ cy (rl 9) 12 (Ml 9), ai_ cy (rl 10) 12 (Ml 10), ai_ cy (rl 11) 12 (Ml 11)]) (w1 := [ob7_0_ xh xc u1 u2 u3 u4 u5 u6 v7_3 v8_4]) hP hD [0] [1, 2, 3, 4, 5, 6, 7, 8, 9, 10, 11, 12, 13, 14, 15] hC_ rfl (by decide +kernel) (by decide +kernel) hk1 hFc hP1 hD1
    refine pd_S hP hD [ob7_0_ xh xc u1 u2 u3 u4 u5 u6 v7_3 v8_4, ob0_0_ xc xn xk clo cro c4 c5 c6 c7 c8, ob3_0_ xn vp vn n1 n2 n3 n4 n5, aq_ cy 6 clo 12 (gf_ rl), ai_ cy (rl 0) 12 (Ml 0), ai_ cy (rl 1) 12 (Ml 1), ai_ cy (rl 2) 12 (Ml 2), ai_ cy (rl 3) 12 (Ml 3), ai_ cy (rl 4) 12 (Ml 4), ai_ cy (rl 5) 12 (Ml 5), ai_ cy (rl 6) 12 (Ml 6), ai_ cy (rl 7) 12 (Ml 7), ai_ cy (rl 8) 12 (Ml 8), ai_ cy (rl 9) 12 (Ml 9), ai_ cy (rl 10) 12 (Ml 10), ai_ cy (rl 11) 12 (Ml 11)] [15, 0, 1, 2, 3, 4, 5, 6, 7, 8, 9, 10, 11, 12, 13, 14] (by decide +kernel) rfl (fun hP hD => ?_)
    rw [hQ]
    exact W.vret hx hb hr (fun t ht hW => ⟨⟨(), rfl, trivial, v7_3, v8_4, (dS_to g_5 (by rw [hK_])), by rw [ht]; exact hP, hD⟩, hS.F ht⟩) hS.2.2 dB_36_1_62.1.2.2.1

set_option maxHeartbeats 4000000 in
set_option maxRecDepth 100000 in
theorem c_X7_chooseForDense2_1 (l : Launch) (D : va_G) (cy : Nat → ClassId) (sz : Nat) (xh : Nat) (u1 : Int32) (u2 : Int32) (u3 : Int32) (u4 : Int32) (u5 : Int32) (u6 : Int32) (u7 : Int32) (u8 : Int32) (xc : Nat) (xk : Nat) (clo : Nat) (cro : Nat) (c4 : Nat) (c5 : Nat) (c6 : Nat) (c7 : Nat) (c8 : Nat) (xn : Nat) (n1 : Nat) (n2 : Nat) (n3 : Nat) (n4 : Nat) (n5 : Nat) (vp : Int32) (vn : Int32) (rl : Nat → Nat) (Ml : Nat → Nat → Int32) (a1 : Int32) (a2 : Int32) (a3 : Int32) (hvp : 0 ≤ vp.toInt ∧ vp.toInt ≤ 12) (q1 : -1 ≤ a1.toInt ∧ a1.toInt < 1) (hM : ∀ x y : Nat, x < vp.toNatClampNeg → y < vp.toNatClampNeg → 0 ≤ zM Ml x y ∧ zM Ml x y ≤ 80000000) (hB : ∀ n : Nat, 0 ≤ wN (zM Ml) vp.toNatClampNeg n ∧ wN (zM Ml) vp.toNatClampNeg n ≤ 100000) (hB0 : wN (zM Ml) vp.toNatClampNeg 0 = 0) (hh : hdn (zM Ml) vp.toNatClampNeg (a1.toInt + 1).toNat a2 a3.toInt) (hs : dS_ (wN (zM Ml) vp.toNatClampNeg) bN a2.toNatClampNeg u7 u8) : Met l yX7_chooseForDense wsX7_chooseForDense ({ frames := 3, cells := 0, slots := 0, locals := 69 }) (va_Pc [.ref xh, .int a1, .int a2, .int a3] (fun U => U.heap.size = sz ∧ va_P D vwCl [ob7_0_ xh xc u1 u2 u3 u4 u5 u6 u7 u8, ob0_0_ xc xn xk clo cro c4 c5 c6 c7 c8, ob3_0_ xn vp vn n1 n2 n3 n4 n5, aq_ cy 6 clo 12 (gf_ rl), ai_ cy (rl 0) 12 (Ml 0), ai_ cy (rl 1) 12 (Ml 1), ai_ cy (rl 2) 12 (Ml 2), ai_ cy (rl 3) 12 (Ml 3), ai_ cy (rl 4) 12 (Ml 4), ai_ cy (rl 5) 12 (Ml 5), ai_ cy (rl 6) 12 (Ml 6), ai_ cy (rl 7) 12 (Ml 7), ai_ cy (rl 8) 12 (Ml 8), ai_ cy (rl 9) 12 (Ml 9), ai_ cy (rl 10) 12 (Ml 10), ai_ cy (rl 11) 12 (Ml 11)] U.heap ∧ kg_ D cy U ∧ va_D (fun _ => True) [ob7_0_ xh xc u1 u2 u3 u4 u5 u6 u7 u8, ob0_0_ xc xn xk clo cro c4 c5 c6 c7 c8, ob3_0_ xn vp vn n1 n2 n3 n4 n5, aq_ cy 6 clo 12 (gf_ rl), ai_ cy (rl 0) 12 (Ml 0), ai_ cy (rl 1) 12 (Ml 1), ai_ cy (rl 2) 12 (Ml 2), ai_ cy (rl 3) 12 (Ml 3), ai_ cy (rl 4) 12 (Ml 4), ai_ cy (rl 5) 12 (Ml 5), ai_ cy (rl 6) 12 (Ml 6), ai_ cy (rl 7) 12 (Ml 7), ai_ cy (rl 8) 12 (Ml 8), ai_ cy (rl 9) 12 (Ml 9), ai_ cy (rl 10) 12 (Ml 10), ai_ cy (rl 11) 12 (Ml 11)])) (va_Qv (fun (_ : Unit) => True) (fun (_ : Unit) (t : State) => ∃ (v7 : Int32), ∃ (v8 : Int32), (dS_ (wN (zM Ml) vp.toNatClampNeg) bN (a2.toNatClampNeg + 2 ^ (a1.toInt + 1).toNat) v7 v8) ∧ va_P D vwCl [ob7_0_ xh xc u1 u2 u3 u4 u5 u6 v7 v8, ob0_0_ xc xn xk clo cro c4 c5 c6 c7 c8, ob3_0_ xn vp vn n1 n2 n3 n4 n5, aq_ cy 6 clo 12 (gf_ rl), ai_ cy (rl 0) 12 (Ml 0), ai_ cy (rl 1) 12 (Ml 1), ai_ cy (rl 2) 12 (Ml 2), ai_ cy (rl 3) 12 (Ml 3), ai_ cy (rl 4) 12 (Ml 4), ai_ cy (rl 5) 12 (Ml 5), ai_ cy (rl 6) 12 (Ml 6), ai_ cy (rl 7) 12 (Ml 7), ai_ cy (rl 8) 12 (Ml 8), ai_ cy (rl 9) 12 (Ml 9), ai_ cy (rl 10) 12 (Ml 10), ai_ cy (rl 11) 12 (Ml 11)] t.heap ∧ va_D (va_A [ob7_0_ xh xc u1 u2 u3 u4 u5 u6 u7 u8, ob0_0_ xc xn xk clo cro c4 c5 c6 c7 c8, ob3_0_ xn vp vn n1 n2 n3 n4 n5, aq_ cy 6 clo 12 (gf_ rl), ai_ cy (rl 0) 12 (Ml 0), ai_ cy (rl 1) 12 (Ml 1), ai_ cy (rl 2) 12 (Ml 2), ai_ cy (rl 3) 12 (Ml 3), ai_ cy (rl 4) 12 (Ml 4), ai_ cy (rl 5) 12 (Ml 5), ai_ cy (rl 6) 12 (Ml 6), ai_ cy (rl 7) 12 (Ml 7), ai_ cy (rl 8) 12 (Ml 8), ai_ cy (rl 9) 12 (Ml 9), ai_ cy (rl 10) 12 (Ml 10), ai_ cy (rl 11) 12 (Ml 11)] sz) [ob7_0_ xh xc u1 u2 u3 u4 u5 u6 v7 v8, ob0_0_ xc xn xk clo cro c4 c5 c6 c7 c8, ob3_0_ xn vp vn n1 n2 n3 n4 n5, aq_ cy 6 clo 12 (gf_ rl), ai_ cy (rl 0) 12 (Ml 0), ai_ cy (rl 1) 12 (Ml 1), ai_ cy (rl 2) 12 (Ml 2), ai_ cy (rl 3) 12 (Ml 3), ai_ cy (rl 4) 12 (Ml 4), ai_ cy (rl 5) 12 (Ml 5), ai_ cy (rl 6) 12 (Ml 6), ai_ cy (rl 7) 12 (Ml 7), ai_ cy (rl 8) 12 (Ml 8), ai_ cy (rl 9) 12 (Ml 9), ai_ cy (rl 10) 12 (Ml 10), ai_ cy (rl 11) 12 (Ml 11)]) (va_A [ob7_0_ xh xc u1 u2 u3 u4 u5 u6 u7 u8, ob0_0_ xc xn xk clo cro c4 c5 c6 c7 c8, ob3_0_ xn vp vn n1 n2 n3 n4 n5, aq_ cy 6 clo 12 (gf_ rl), ai_ cy (rl 0) 12 (Ml 0), ai_ cy (rl 1) 12 (Ml 1), ai_ cy (rl 2) 12 (Ml 2), ai_ cy (rl 3) 12 (Ml 3), ai_ cy (rl 4) 12 (Ml 4), ai_ cy (rl 5) 12 (Ml 5), ai_ cy (rl 6) 12 (Ml 6), ai_ cy (rl 7) 12 (Ml 7), ai_ cy (rl 8) 12 (Ml 8), ai_ cy (rl 9) 12 (Ml 9), ai_ cy (rl 10) 12 (Ml 10), ai_ cy (rl 11) 12 (Ml 11)] sz)) 0 0 (va_A [ob7_0_ xh xc u1 u2 u3 u4 u5 u6 u7 u8, ob0_0_ xc xn xk clo cro c4 c5 c6 c7 c8, ob3_0_ xn vp vn n1 n2 n3 n4 n5, aq_ cy 6 clo 12 (gf_ rl), ai_ cy (rl 0) 12 (Ml 0), ai_ cy (rl 1) 12 (Ml 1), ai_ cy (rl 2) 12 (Ml 2), ai_ cy (rl 3) 12 (Ml 3), ai_ cy (rl 4) 12 (Ml 4), ai_ cy (rl 5) 12 (Ml 5), ai_ cy (rl 6) 12 (Ml 6), ai_ cy (rl 7) 12 (Ml 7), ai_ cy (rl 8) 12 (Ml 8), ai_ cy (rl 9) 12 (Ml 9), ai_ cy (rl 10) 12 (Ml 10), ai_ cy (rl 11) 12 (Ml 11)] sz) := by
  refine ofQ (cc := cX7_chooseForDense) (maxL := 4) (ret := none) (by decide) rfl ?_
  intro p e s m args below meth c s₁ Q hQ B hml hv
  obtain ⟨rfl, hsz, hP, hK, hD0⟩ := hv
  have hG := hK.2
  have hK := hK.1
  have hx := B.exec
  have hb := B.bytes
  have hr := B.returns
  have hts := atoms_spec (ws := wsX7_chooseForDense) B.pre
  have hown : s.vm.findClass RX7 = some m.cls := by have h_ := findClass_of_methodNamed B.named; exact h_
  have hlocks := B.notSynchronized
  subst hsz
  have hD := hD0.self (sz := s.heap.size)
  generalize hAe : va_A [ob7_0_ xh xc u1 u2 u3 u4 u5 u6 u7 u8, ob0_0_ xc xn xk clo cro c4 c5 c6 c7 c8, ob3_0_ xn vp vn n1 n2 n3 n4 n5, aq_ cy 6 clo 12 (gf_ rl), ai_ cy (rl 0) 12 (Ml 0), ai_ cy (rl 1) 12 (Ml 1), ai_ cy (rl 2) 12 (Ml 2), ai_ cy (rl 3) 12 (Ml 3), ai_ cy (rl 4) 12 (Ml 4), ai_ cy (rl 5) 12 (Ml 5), ai_ cy (rl 6) 12 (Ml 6), ai_ cy (rl 7) 12 (Ml 7), ai_ cy (rl 8) 12 (Ml 8), ai_ cy (rl 9) 12 (Ml 9), ai_ cy (rl 10) 12 (Ml 10), ai_ cy (rl 11) 12 (Ml 11)] s.heap.size = A at hD hQ
  have hA : ∀ q : Nat, s.heap.size ≤ q → A q := fun q h => by rw [← hAe]; exact Or.inr h
  have hS : va_S A s.heap s.heap [] := va_S.rf
  have hl := lv_entry ([.ref xh, .int a1, .int a2, .int a3]) (n := 4) (Nat.le_of_ble_eq_true rfl)
  rw [lg_entry_eq]
  generalize (lg_sl ([.ref xh, .int a1, .int a2, .int a3]) ++ List.replicate (4 - (lg_sl ([.ref xh, .int a1, .int a2, .int a3])).length) Slot.unset).toArray = ls at hl ⊢
  have hl : lv_has ls 4 [(0, .ref xh), (1, .int a1), (2, .int a2), (3, .int a3)] := hl
  have z0 : (0 : Int32).toInt = 0 := by decide
  have z1 : (1 : Int32).toInt = 1 := by decide
  have cv_ := clI (i := vp) (by omega)
  have hnn_ : ∀ x y : Nat, x < vp.toNatClampNeg → y < vp.toNatClampNeg → 0 ≤ zM Ml x y := fun x y hx hy => (hM x y hx hy).1
  have ha3_ := hdn_bd hh (by omega) hnn_ hB
  have h7r_ : 0 ≤ u7.toInt ∧ u7.toInt < 4096 := by have h1_ := hs.1; have h2_ := dnz_lt (W := (wN (zM Ml) vp.toNatClampNeg)) (b := bN) a2.toNatClampNeg; have h3_ := hnt_lt (hdn_hnt hh) (by omega); omega
  refine lv_iload_n hx hb dB_36_1_62.1.1.1.1 rfl (lv_at hl 1 rfl) ?_
  refine lv_if_ge (tgt := 11) hx hb dB_36_1_62.1.1.1.2 (by decide) (fun c_1 => ?_) (fun c_1 => ?_)
  · have t_1 : (0 : Int32).toInt ≤ a1.toInt := Int32.le_iff_toInt_le.mp c_1
    have cp_ := clI (i := a1) (by omega)
    have hK_ : (a1.toInt + 1).toNat = a1.toNatClampNeg + 1 := by omega
    have hh1_ : hdn (zM Ml) vp.toNatClampNeg (a1.toNatClampNeg + 1) a2 a3.toInt := by rw [hK_] at hh; exact hh
    have hap_ : a1.toInt < vp.toInt := by have h_ := hh1_.1; omega
    refine lv_aload_n hx hb dB_36_1_62.1.2.2.2 rfl (lv_at hl 0 rfl) ?_
    refine lv_iload_n hx hb dB_36_1_62.2.1.1.1 rfl (lv_at hl 1 rfl) ?_
    refine lv_iconst (v := 1) hx hb dB_36_1_62.2.1.1.2 (by decide) ?_
    refine lv_isub hx hb dB_36_1_62.2.1.2.1 ?_
    refine lv_topi (fun y_2 ey_2 => ?_)
    have ty_2 : y_2.toInt = a1.toInt - (1 : Int32).toInt := by rw [ey_2]; exact subI (by omega) (by omega)
    refine lv_iload_n hx hb dB_36_1_62.2.1.2.2 rfl (lv_at hl 2 rfl) ?_
    refine lv_iload_n hx hb dB_36_1_62.2.2.1.1 rfl (lv_at hl 3 rfl) ?_
    have hKr_ : (y_2.toInt + 1).toNat = a1.toNatClampNeg := by omega
    have hrh_ : hdn (zM Ml) vp.toNatClampNeg (y_2.toInt + 1).toNat a2 a3.toInt := by rw [hKr_]; exact hdn_out hh1_
    refine ct_S hP hD hS hA [ob7_0_ xh xc u1 u2 u3 u4 u5 u6 u7 u8, ob0_0_ xc xn xk clo cro c4 c5 c6 c7 c8, ob3_0_ xn vp vn n1 n2 n3 n4 n5, aq_ cy 6 clo 12 (gf_ rl), ai_ cy (rl 0) 12 (Ml 0), ai_ cy (rl 1) 12 (Ml 1), ai_ cy (rl 2) 12 (Ml 2), ai_ cy (rl 3) 12 (Ml 3), ai_ cy (rl 4) 12 (Ml 4), ai_ cy (rl 5) 12 (Ml 5), ai_ cy (rl 6) 12 (Ml 6), ai_ cy (rl 7) 12 (Ml 7), ai_ cy (rl 8) 12 (Ml 8), ai_ cy (rl 9) 12 (Ml 9), ai_ cy (rl 10) 12 (Ml 10), ai_ cy (rl 11) 12 (Ml 11)] [0, 1, 2, 3, 4, 5, 6, 7, 8, 9, 10, 11, 12, 13, 14, 15] (by decide +kernel) rfl (fun hPc hDw hFc hC_ => ?_)
    refine va_callv (va_runV (As := [.int y_2, .int a2, .int a3]) (rest := []) ⟨hx, hb, hml, hown, hts⟩ (c_X7_chooseForDense2_0 l D cy s.heap.size xh u1 u2 u3 u4 u5 u6 u7 u8 xc xk clo cro c4 c5 c6 c7 c8 xn n1 n2 n3 n4 n5 vp vn rl Ml y_2 a2 a3 (by first | with_reducible assumption | omega | assumption) (by first | with_reducible assumption | omega | assumption) (by first | with_reducible assumption | assumption | omega) (by first | with_reducible assumption | assumption | omega) (by first | with_reducible assumption | omega | assumption) (by first | with_reducible assumption | assumption | omega) (by first | with_reducible assumption | assumption | omega)) (cwV 3 hts gX7_chooseForDense_X7_chooseForDense rfl rfl rfl ⟨rfl, hd_X7_chooseForDense⟩ ⟨Nat.le_of_ble_eq_true rfl, Nat.le_of_ble_eq_true rfl⟩) ⟨bl_g, va_recvX hK.1 hP (ci := 7) (q0 := 0) rfl rfl, fun U hU hW => ⟨rfl, by rw [hU], by rw [hU]; exact hPc, ⟨kk_mv hW hK, arrOfT_moved hW.alike hG⟩, hDw⟩⟩ rfl rfl hl.1 rfl (lv_room (Nat.le_of_ble_eq_true rfl)) dB_36_1_62.2.2.1.2 ⟨Nat.le_of_ble_eq_true rfl, Nat.le_of_ble_eq_true rfl⟩) hS (fun q _ h => hFc q h) hFc (fun u t H locs ht hvm hw hB hz1 hk1 hS => ?_)
    obtain ⟨v7_4, v8_5, g_6, hP1, hD1⟩ := hB
    rw [ht] at hP1
    obtain ⟨hP, hD⟩ := va_join (wr := []) (w1 := [ob7_0_ xh xc u1 u2 u3 u4 u5 u6 v7_4 v8_5, ob0_0_ xc xn xk clo cro c4 c5 c6 c7 c8, ob3_0_ xn vp vn n1 n2 n3 n4 n5, aq_ cy 6 clo 12 (gf_ rl), ai_ cy (rl 0) 12 (Ml 0), ai_ cy (rl 1) 12 (Ml 1), ai_ cy (rl 2) 12 (Ml 2), ai_ cy (rl 3) 12 (Ml 3), ai_ cy (rl 4) 12 (Ml 4), ai_ cy (rl 5) 12 (Ml 5), ai_ cy (rl 6) 12 (Ml 6), ai_ cy (rl 7) 12 (Ml 7), ai_ cy (rl 8) 12 (Ml 8), ai_ cy (rl 9) 12 (Ml 9), ai_ cy (rl 10) 12 (Ml 10), ai_ cy (rl 11) 12 (Ml 11)]) hP hD [0, 1, 2, 3, 4, 5, 6, 7, 8, 9, 10, 11, 12, 13, 14, 15] [] hC_ rfl (by decide) (by decide) hk1 hFc hP1 hD1
    refine pd_K [ob7_0_ xh xc u1 u2 u3 u4 u5 u6 v7_4 v8_5, ob0_0_ xc xn xk clo cro c4 c5 c6 c7 c8, ob3_0_ xn vp vn n1 n2 n3 n4 n5, aq_ cy 6 clo 12 (gf_ rl), ai_ cy (rl 0) 12 (Ml 0), ai_ cy (rl 1) 12 (Ml 1), ai_ cy (rl 2) 12 (Ml 2), ai_ cy (rl 3) 12 (Ml 3), ai_ cy (rl 4) 12 (Ml 4), ai_ cy (rl 5) 12 (Ml 5), ai_ cy (rl 6) 12 (Ml 6), ai_ cy (rl 7) 12 (Ml 7), ai_ cy (rl 8) 12 (Ml 8), ai_ cy (rl 9) 12 (Ml 9), ai_ cy (rl 10) 12 (Ml 10), ai_ cy (rl 11) 12 (Ml 11)] hP hD (fun hP hD => ?_)
    have hs1_ := dS_to g_6 (show _ = a2.toNatClampNeg + 2 ^ a1.toNatClampNeg by rw [hKr_])
    refine lv_aload_n hx hb dB_36_1_62.2.2.2.1 rfl (lv_at hl 0 rfl) ?_
    refine lv_iload_n hx hb dB_36_1_62.2.2.2.2 rfl (lv_at hl 1 rfl) ?_
    refine lv_iconst (v := 1) hx hb dB_36_1_63.1.1.1 (by decide) ?_
    refine lv_isub hx hb dB_36_1_63.1.1.2.1 ?_
    refine lv_topi (fun y_7 ey_7 => ?_)
    have e_ := (ey_7.trans ey_2.symm).symm
    subst e_
    refine lv_iload_n hx hb dB_36_1_63.1.1.2.2 rfl (lv_at hl 2 rfl) ?_
    refine lv_iconst (v := 1) hx hb dB_36_1_63.1.2.1.1 (by decide) ?_
    refine lv_iload_n hx hb dB_36_1_63.1.2.1.2 rfl (lv_at hl 1 rfl) ?_
    refine lv_ishl hx hb dB_36_1_63.1.2.2.1 ?_
    refine lv_topi (fun y_8 ey_8 => ?_)
    refine lv_ior hx hb dB_36_1_63.1.2.2.2 ?_
    refine lv_topi (fun y_9 ey_9 => ?_)
    refine lv_iload_n hx hb dB_36_1_63.2.1.1.1 rfl (lv_at hl 3 rfl) ?_
    refine lv_aload_n hx hb dB_36_1_63.2.1.1.2 rfl (lv_at hl 0 rfl) ?_
    refine lv_iload_n hx hb dB_36_1_63.2.1.2.1 rfl (lv_at hl 1 rfl) ?_
    refine lv_iload_n hx hb dB_36_1_63.2.1.2.2 rfl (lv_at hl 2 rfl) ?_
    refine ct_R hP hD [ob7_0_ xh xc u1 u2 u3 u4 u5 u6 v7_4 v8_5, ob0_0_ xc xn xk clo cro c4 c5 c6 c7 c8, ob3_0_ xn vp vn n1 n2 n3 n4 n5, aq_ cy 6 clo 12 (gf_ rl), ai_ cy (rl 0) 12 (Ml 0), ai_ cy (rl 1) 12 (Ml 1), ai_ cy (rl 2) 12 (Ml 2), ai_ cy (rl 3) 12 (Ml 3), ai_ cy (rl 4) 12 (Ml 4), ai_ cy (rl 5) 12 (Ml 5), ai_ cy (rl 6) 12 (Ml 6), ai_ cy (rl 7) 12 (Ml 7), ai_ cy (rl 8) 12 (Ml 8), ai_ cy (rl 9) 12 (Ml 9), ai_ cy (rl 10) 12 (Ml 10), ai_ cy (rl 11) 12 (Ml 11)] [0, 1, 2, 3, 4, 5, 6, 7, 8, 9, 10, 11, 12, 13, 14, 15] (by decide +kernel) rfl (fun hPc hDw => ?_)
    have hFc := va_free (wc := []) hD hS hA [] rfl
    refine va_calli (va_runV (As := [.int a1, .int a2]) (rest := [.int a3, .int y_9, .int y_2, .ref xh]) ⟨hx, hb, hml, hown, hts⟩ (c_X7_letIn2 l D cy H.size xh u1 u2 u3 u4 u5 u6 v7_4 v8_5 xc xk clo cro c4 c5 c6 c7 c8 xn n1 n2 n3 n4 n5 vp vn rl Ml a1 a2 (by first | with_reducible assumption | omega | assumption) (by first | with_reducible assumption | omega | assumption) (by first | with_reducible assumption | assumption | omega)) (cwV 2 hts gX7_chooseForDense_X7_letIn rfl rfl rfl ⟨rfl, hd_X7_letIn⟩ ⟨Nat.le_of_ble_eq_true rfl, Nat.le_of_ble_eq_true rfl⟩) ⟨bl_g, va_recvX hK.1 hP (ci := 7) (q0 := 0) rfl rfl, fun U hU hW => ⟨rfl, by rw [hU], by rw [hU]; exact hPc, ⟨kk_mv hW hK, arrOfT_moved hW.alike hG⟩, hDw⟩⟩ rfl rfl hl.1 rfl (lv_room (Nat.le_of_ble_eq_true rfl)) dB_36_1_63.2.2.1.1 ⟨Nat.le_of_ble_eq_true rfl, Nat.le_of_ble_eq_true rfl⟩) hS (fun q _ h => hFc q h) hFc (fun r_10 u t H locs ht hvm hw hB hz1 hk1 hS => ?_)
    have hP : va_P D vwCl _ H := ro_keep hP hk1
    obtain ⟨f0_r_10, f1_r_10⟩ := hw
    refine lv_iadd hx hb dB_36_1_63.2.2.1.2 ?_
    refine lv_topi (fun y_11 ey_11 => ?_)
    have ty_11 : y_11.toInt = a3.toInt + r_10.toInt := by rw [ey_11]; exact addI (by omega) (by omega)
    have hKq_ : (y_2.toInt + 1).toNat = a1.toNatClampNeg := by omega
    have hin_ := hdn_in hh1_ (by omega) (by omega) ey_8 ey_9 ty_11 f0_r_10
    have hrh2_ : hdn (zM Ml) vp.toNatClampNeg (y_2.toInt + 1).toNat y_9 y_11.toInt := by rw [hKq_]; exact hin_.1
    have hrs_ : dS_ (wN (zM Ml) vp.toNatClampNeg) bN y_9.toNatClampNeg v7_4 v8_5 := dS_to hs1_ hin_.2.symm
    refine ct_S hP hD hS hA [ob7_0_ xh xc u1 u2 u3 u4 u5 u6 v7_4 v8_5, ob0_0_ xc xn xk clo cro c4 c5 c6 c7 c8, ob3_0_ xn vp vn n1 n2 n3 n4 n5, aq_ cy 6 clo 12 (gf_ rl), ai_ cy (rl 0) 12 (Ml 0), ai_ cy (rl 1) 12 (Ml 1), ai_ cy (rl 2) 12 (Ml 2), ai_ cy (rl 3) 12 (Ml 3), ai_ cy (rl 4) 12 (Ml 4), ai_ cy (rl 5) 12 (Ml 5), ai_ cy (rl 6) 12 (Ml 6), ai_ cy (rl 7) 12 (Ml 7), ai_ cy (rl 8) 12 (Ml 8), ai_ cy (rl 9) 12 (Ml 9), ai_ cy (rl 10) 12 (Ml 10), ai_ cy (rl 11) 12 (Ml 11)] [0, 1, 2, 3, 4, 5, 6, 7, 8, 9, 10, 11, 12, 13, 14, 15] (by decide +kernel) rfl (fun hPc hDw hFc hC_ => ?_)
    refine va_callv (va_runV (As := [.int y_2, .int y_9, .int y_11]) (rest := []) ⟨hx, hb, hml, hown, hts⟩ (c_X7_chooseForDense2_0 l D cy H.size xh u1 u2 u3 u4 u5 u6 v7_4 v8_5 xc xk clo cro c4 c5 c6 c7 c8 xn n1 n2 n3 n4 n5 vp vn rl Ml y_2 y_9 y_11 (by first | with_reducible assumption | omega | assumption) (by first | with_reducible assumption | omega | assumption) (by first | with_reducible assumption | assumption | omega) (by first | with_reducible assumption | assumption | omega) (by first | with_reducible assumption | omega | assumption) (by first | with_reducible assumption | assumption | omega) (by first | with_reducible assumption | assumption | omega)) (cwV 3 hts gX7_chooseForDense_X7_chooseForDense rfl rfl rfl ⟨rfl, hd_X7_chooseForDense⟩ ⟨Nat.le_of_ble_eq_true rfl, Nat.le_of_ble_eq_true rfl⟩) ⟨bl_g, va_recvX hK.1 hP (ci := 7) (q0 := 0) rfl rfl, fun U hU hW => ⟨rfl, by rw [hU], by rw [hU]; exact hPc, ⟨kk_mv hW hK, arrOfT_moved hW.alike hG⟩, hDw⟩⟩ rfl rfl hl.1 rfl (lv_room (Nat.le_of_ble_eq_true rfl)) dB_36_1_63.2.2.2.1 ⟨Nat.le_of_ble_eq_true rfl, Nat.le_of_ble_eq_true rfl⟩) hS (fun q _ h => hFc q h) hFc (fun u t H locs ht hvm hw hB hz1 hk1 hS => ?_)
    obtain ⟨v7_13, v8_14, g_15, hP1, hD1⟩ := hB
    rw [ht] at hP1
    obtain ⟨hP, hD⟩ := va_join (wr := []) (w1 := [ob7_0_ xh xc u1 u2 u3 u4 u5 u6 v7_13 v8_14, ob0_0_ xc xn xk clo cro c4 c5 c6 c7 c8, ob3_0_ xn vp vn n1 n2 n3 n4 n5, aq_ cy 6 clo 12 (gf_ rl), ai_ cy (rl 0) 12 (Ml 0), ai_ cy (rl 1) 12 (Ml 1), ai_ cy (rl 2) 12 (Ml 2), ai_ cy (rl 3) 12 (Ml 3), ai_ cy (rl 4) 12 (Ml 4), ai_ cy (rl 5) 12 (Ml 5), ai_ cy (rl 6) 12 (Ml 6), ai_ cy (rl 7) 12 (Ml 7), ai_ cy (rl 8) 12 (Ml 8), ai_ cy (rl 9) 12 (Ml 9), ai_ cy (rl 10) 12 (Ml 10), ai_ cy (rl 11) 12 (Ml 11)]) hP hD [0, 1, 2, 3, 4, 5, 6, 7, 8, 9, 10, 11, 12, 13, 14, 15] [] hC_ rfl (by decide) (by decide) hk1 hFc hP1 hD1
    refine pd_K [ob7_0_ xh xc u1 u2 u3 u4 u5 u6 v7_13 v8_14, ob0_0_ xc xn xk clo cro c4 c5 c6 c7 c8, ob3_0_ xn vp vn n1 n2 n3 n4 n5, aq_ cy 6 clo 12 (gf_ rl), ai_ cy (rl 0) 12 (Ml 0), ai_ cy (rl 1) 12 (Ml 1), ai_ cy (rl 2) 12 (Ml 2), ai_ cy (rl 3) 12 (Ml 3), ai_ cy (rl 4) 12 (Ml 4), ai_ cy (rl 5) 12 (Ml 5), ai_ cy (rl 6) 12 (Ml 6), ai_ cy (rl 7) 12 (Ml 7), ai_ cy (rl 8) 12 (Ml 8), ai_ cy (rl 9) 12 (Ml 9), ai_ cy (rl 10) 12 (Ml 10), ai_ cy (rl 11) 12 (Ml 11)] hP hD (fun hP hD => ?_)
    rw [hQ]
    exact W.vret hx hb hr (fun t ht hW => ⟨⟨(), rfl, trivial, v7_13, v8_14, (dS_to g_15 (by rw [hKq_, hin_.2, pw_K hK_]; omega)), by rw [ht]; exact hP, hD⟩, hS.F ht⟩) hS.2.2 dB_36_1_63.2.2.2.2
  · have t_1 : ¬ (0 : Int32).toInt ≤ a1.toInt := fun h => c_1 (Int32.le_iff_toInt_le.mpr h)
    have hK_ : (a1.toInt + 1).toNat = 0 := by omega
    have hh0_ : hdn (zM Ml) vp.toNatClampNeg 0 a2 a3.toInt := by rw [hK_] at hh; exact hh
    have hlf_ := hdn_leaf hh0_ (by omega)
    have cA2_ := clI (i := a2) (by omega)
    have hsm_ := hlf_.1
    refine lv_aload_n hx hb dB_36_1_62.1.1.2.1 rfl (lv_at hl 0 rfl) ?_
    refine lv_iload_n hx hb dB_36_1_62.1.1.2.2 rfl (lv_at hl 2 rfl) ?_
    refine lv_iload_n hx hb dB_36_1_62.1.2.1.1 rfl (lv_at hl 3 rfl) ?_
    refine ct_S hP hD hS hA [ob7_0_ xh xc u1 u2 u3 u4 u5 u6 u7 u8] [0] (by decide) rfl (fun hPc hDw hFc hC_ => ?_)
    refine va_callv (va_runV (As := [.int a2, .int a3]) (rest := []) ⟨hx, hb, hml, hown, hts⟩ (c_X7_compareDense2 l D cy s.heap.size xh u1 u2 u3 u4 u5 u6 u7 u8 xc (wN (zM Ml) vp.toNatClampNeg) a2 a3 (by first | with_reducible assumption | omega | assumption) (by first | with_reducible assumption | assumption | omega) (by first | with_reducible assumption | assumption | omega) (by first | with_reducible assumption | assumption | omega) (by first | with_reducible assumption | omega | assumption) (by first | with_reducible assumption | omega | assumption)) (cwV 2 hts gX7_chooseForDense_X7_compareDense rfl rfl rfl ⟨rfl, hd_X7_compareDense⟩ ⟨Nat.le_of_ble_eq_true rfl, Nat.le_of_ble_eq_true rfl⟩) ⟨bl_, va_recvX hK.1 hP (ci := 7) (q0 := 0) rfl rfl, fun U hU hW => ⟨rfl, by rw [hU], by rw [hU]; exact hPc, kk_mv hW hK, hDw⟩⟩ rfl rfl hl.1 rfl (lv_room (Nat.le_of_ble_eq_true rfl)) dB_36_1_62.1.2.1.2 ⟨Nat.le_of_ble_eq_true rfl, Nat.le_of_ble_eq_true rfl⟩) hS (fun q _ h => hFc q h) hFc (fun u t H locs ht hvm hw hB hz1 hk1 hS => ?_)
    obtain ⟨v7_17, v8_18, g_19, hP1, hD1⟩ := hB
    rw [ht] at hP1
    obtain ⟨hP, hD⟩ := va_join (wr := [ob0_0_ xc xn xk clo cro c4 c5 c6 c7 c8, ob3_0_ xn vp vn n1 n2 n3 n4 n5, aq_ cy 6 clo 12 (gf_ rl), ai_ cy (rl 0) 12 (Ml 0), ai_ cy (rl 1) 12 (Ml 1), ai_ cy (rl 2) 12 (Ml 2), ai_ cy (rl 3) 12 (Ml 3), ai_ cy (rl 4) 12 (Ml 4), ai_ cy (rl 5) 12 (Ml 5), ai_ cy (rl 6) 12 (Ml 6), ai_ cy (rl 7) 12 (Ml 7), ai_ cy (rl 8) 12 (Ml 8), ai_ cy (rl 9) 12 (Ml 9), ai_ cy (rl 10) 12 (Ml 10), ai_ cy (rl 11) 12 (Ml 11)]) (w1 := [ob7_0_ xh xc u1 u2 u3 u4 u5 u6 v7_17 v8_18]) hP hD [0] [1, 2, 3, 4, 5, 6, 7, 8, 9, 10, 11, 12, 13, 14, 15] hC_ rfl (by decide +kernel) (by decide +kernel) hk1 hFc hP1 hD1
    refine pd_S hP hD [ob7_0_ xh xc u1 u2 u3 u4 u5 u6 v7_17 v8_18, ob0_0_ xc xn xk clo cro c4 c5 c6 c7 c8, ob3_0_ xn vp vn n1 n2 n3 n4 n5, aq_ cy 6 clo 12 (gf_ rl), ai_ cy (rl 0) 12 (Ml 0), ai_ cy (rl 1) 12 (Ml 1), ai_ cy (rl 2) 12 (Ml 2), ai_ cy (rl 3) 12 (Ml 3), ai_ cy (rl 4) 12 (Ml 4), ai_ cy (rl 5) 12 (Ml 5), ai_ cy (rl 6) 12 (Ml 6), ai_ cy (rl 7) 12 (Ml 7), ai_ cy (rl 8) 12 (Ml 8), ai_ cy (rl 9) 12 (Ml 9), ai_ cy (rl 10) 12 (Ml 10), ai_ cy (rl 11) 12 (Ml 11)] [15, 0, 1, 2, 3, 4, 5, 6, 7, 8, 9, 10, 11, 12, 13, 14] (by decide +kernel) rfl (fun hP hD => ?_)
    rw [hQ]
    exact W.vret hx hb hr (fun t ht hW => ⟨⟨(), rfl, trivial, v7_17, v8_18, (dS_to g_19 (by rw [hK_])), by rw [ht]; exact hP, hD⟩, hS.F ht⟩) hS.2.2 dB_36_1_62.1.2.2.1

set_option maxHeartbeats 4000000 in
set_option maxRecDepth 100000 in
theorem c_X7_chooseForDense2_2 (l : Launch) (D : va_G) (cy : Nat → ClassId) (sz : Nat) (xh : Nat) (u1 : Int32) (u2 : Int32) (u3 : Int32) (u4 : Int32) (u5 : Int32) (u6 : Int32) (u7 : Int32) (u8 : Int32) (xc : Nat) (xk : Nat) (clo : Nat) (cro : Nat) (c4 : Nat) (c5 : Nat) (c6 : Nat) (c7 : Nat) (c8 : Nat) (xn : Nat) (n1 : Nat) (n2 : Nat) (n3 : Nat) (n4 : Nat) (n5 : Nat) (vp : Int32) (vn : Int32) (rl : Nat → Nat) (Ml : Nat → Nat → Int32) (a1 : Int32) (a2 : Int32) (a3 : Int32) (hvp : 0 ≤ vp.toInt ∧ vp.toInt ≤ 12) (q1 : -1 ≤ a1.toInt ∧ a1.toInt < 2) (hM : ∀ x y : Nat, x < vp.toNatClampNeg → y < vp.toNatClampNeg → 0 ≤ zM Ml x y ∧ zM Ml x y ≤ 80000000) (hB : ∀ n : Nat, 0 ≤ wN (zM Ml) vp.toNatClampNeg n ∧ wN (zM Ml) vp.toNatClampNeg n ≤ 100000) (hB0 : wN (zM Ml) vp.toNatClampNeg 0 = 0) (hh : hdn (zM Ml) vp.toNatClampNeg (a1.toInt + 1).toNat a2 a3.toInt) (hs : dS_ (wN (zM Ml) vp.toNatClampNeg) bN a2.toNatClampNeg u7 u8) : Met l yX7_chooseForDense wsX7_chooseForDense ({ frames := 4, cells := 0, slots := 0, locals := 92 }) (va_Pc [.ref xh, .int a1, .int a2, .int a3] (fun U => U.heap.size = sz ∧ va_P D vwCl [ob7_0_ xh xc u1 u2 u3 u4 u5 u6 u7 u8, ob0_0_ xc xn xk clo cro c4 c5 c6 c7 c8, ob3_0_ xn vp vn n1 n2 n3 n4 n5, aq_ cy 6 clo 12 (gf_ rl), ai_ cy (rl 0) 12 (Ml 0), ai_ cy (rl 1) 12 (Ml 1), ai_ cy (rl 2) 12 (Ml 2), ai_ cy (rl 3) 12 (Ml 3), ai_ cy (rl 4) 12 (Ml 4), ai_ cy (rl 5) 12 (Ml 5), ai_ cy (rl 6) 12 (Ml 6), ai_ cy (rl 7) 12 (Ml 7), ai_ cy (rl 8) 12 (Ml 8), ai_ cy (rl 9) 12 (Ml 9), ai_ cy (rl 10) 12 (Ml 10), ai_ cy (rl 11) 12 (Ml 11)] U.heap ∧ kg_ D cy U ∧ va_D (fun _ => True) [ob7_0_ xh xc u1 u2 u3 u4 u5 u6 u7 u8, ob0_0_ xc xn xk clo cro c4 c5 c6 c7 c8, ob3_0_ xn vp vn n1 n2 n3 n4 n5, aq_ cy 6 clo 12 (gf_ rl), ai_ cy (rl 0) 12 (Ml 0), ai_ cy (rl 1) 12 (Ml 1), ai_ cy (rl 2) 12 (Ml 2), ai_ cy (rl 3) 12 (Ml 3), ai_ cy (rl 4) 12 (Ml 4), ai_ cy (rl 5) 12 (Ml 5), ai_ cy (rl 6) 12 (Ml 6), ai_ cy (rl 7) 12 (Ml 7), ai_ cy (rl 8) 12 (Ml 8), ai_ cy (rl 9) 12 (Ml 9), ai_ cy (rl 10) 12 (Ml 10), ai_ cy (rl 11) 12 (Ml 11)])) (va_Qv (fun (_ : Unit) => True) (fun (_ : Unit) (t : State) => ∃ (v7 : Int32), ∃ (v8 : Int32), (dS_ (wN (zM Ml) vp.toNatClampNeg) bN (a2.toNatClampNeg + 2 ^ (a1.toInt + 1).toNat) v7 v8) ∧ va_P D vwCl [ob7_0_ xh xc u1 u2 u3 u4 u5 u6 v7 v8, ob0_0_ xc xn xk clo cro c4 c5 c6 c7 c8, ob3_0_ xn vp vn n1 n2 n3 n4 n5, aq_ cy 6 clo 12 (gf_ rl), ai_ cy (rl 0) 12 (Ml 0), ai_ cy (rl 1) 12 (Ml 1), ai_ cy (rl 2) 12 (Ml 2), ai_ cy (rl 3) 12 (Ml 3), ai_ cy (rl 4) 12 (Ml 4), ai_ cy (rl 5) 12 (Ml 5), ai_ cy (rl 6) 12 (Ml 6), ai_ cy (rl 7) 12 (Ml 7), ai_ cy (rl 8) 12 (Ml 8), ai_ cy (rl 9) 12 (Ml 9), ai_ cy (rl 10) 12 (Ml 10), ai_ cy (rl 11) 12 (Ml 11)] t.heap ∧ va_D (va_A [ob7_0_ xh xc u1 u2 u3 u4 u5 u6 u7 u8, ob0_0_ xc xn xk clo cro c4 c5 c6 c7 c8, ob3_0_ xn vp vn n1 n2 n3 n4 n5, aq_ cy 6 clo 12 (gf_ rl), ai_ cy (rl 0) 12 (Ml 0), ai_ cy (rl 1) 12 (Ml 1), ai_ cy (rl 2) 12 (Ml 2), ai_ cy (rl 3) 12 (Ml 3), ai_ cy (rl 4) 12 (Ml 4), ai_ cy (rl 5) 12 (Ml 5), ai_ cy (rl 6) 12 (Ml 6), ai_ cy (rl 7) 12 (Ml 7), ai_ cy (rl 8) 12 (Ml 8), ai_ cy (rl 9) 12 (Ml 9), ai_ cy (rl 10) 12 (Ml 10), ai_ cy (rl 11) 12 (Ml 11)] sz) [ob7_0_ xh xc u1 u2 u3 u4 u5 u6 v7 v8, ob0_0_ xc xn xk clo cro c4 c5 c6 c7 c8, ob3_0_ xn vp vn n1 n2 n3 n4 n5, aq_ cy 6 clo 12 (gf_ rl), ai_ cy (rl 0) 12 (Ml 0), ai_ cy (rl 1) 12 (Ml 1), ai_ cy (rl 2) 12 (Ml 2), ai_ cy (rl 3) 12 (Ml 3), ai_ cy (rl 4) 12 (Ml 4), ai_ cy (rl 5) 12 (Ml 5), ai_ cy (rl 6) 12 (Ml 6), ai_ cy (rl 7) 12 (Ml 7), ai_ cy (rl 8) 12 (Ml 8), ai_ cy (rl 9) 12 (Ml 9), ai_ cy (rl 10) 12 (Ml 10), ai_ cy (rl 11) 12 (Ml 11)]) (va_A [ob7_0_ xh xc u1 u2 u3 u4 u5 u6 u7 u8, ob0_0_ xc xn xk clo cro c4 c5 c6 c7 c8, ob3_0_ xn vp vn n1 n2 n3 n4 n5, aq_ cy 6 clo 12 (gf_ rl), ai_ cy (rl 0) 12 (Ml 0), ai_ cy (rl 1) 12 (Ml 1), ai_ cy (rl 2) 12 (Ml 2), ai_ cy (rl 3) 12 (Ml 3), ai_ cy (rl 4) 12 (Ml 4), ai_ cy (rl 5) 12 (Ml 5), ai_ cy (rl 6) 12 (Ml 6), ai_ cy (rl 7) 12 (Ml 7), ai_ cy (rl 8) 12 (Ml 8), ai_ cy (rl 9) 12 (Ml 9), ai_ cy (rl 10) 12 (Ml 10), ai_ cy (rl 11) 12 (Ml 11)] sz)) 0 0 (va_A [ob7_0_ xh xc u1 u2 u3 u4 u5 u6 u7 u8, ob0_0_ xc xn xk clo cro c4 c5 c6 c7 c8, ob3_0_ xn vp vn n1 n2 n3 n4 n5, aq_ cy 6 clo 12 (gf_ rl), ai_ cy (rl 0) 12 (Ml 0), ai_ cy (rl 1) 12 (Ml 1), ai_ cy (rl 2) 12 (Ml 2), ai_ cy (rl 3) 12 (Ml 3), ai_ cy (rl 4) 12 (Ml 4), ai_ cy (rl 5) 12 (Ml 5), ai_ cy (rl 6) 12 (Ml 6), ai_ cy (rl 7) 12 (Ml 7), ai_ cy (rl 8) 12 (Ml 8), ai_ cy (rl 9) 12 (Ml 9), ai_ cy (rl 10) 12 (Ml 10), ai_ cy (rl 11) 12 (Ml 11)] sz) := by
  refine ofQ (cc := cX7_chooseForDense) (maxL := 4) (ret := none) (by decide) rfl ?_
  intro p e s m args below meth c s₁ Q hQ B hml hv
  obtain ⟨rfl, hsz, hP, hK, hD0⟩ := hv
  have hG := hK.2
  have hK := hK.1
  have hx := B.exec
  have hb := B.bytes
  have hr := B.returns
  have hts := atoms_spec (ws := wsX7_chooseForDense) B.pre
  have hown : s.vm.findClass RX7 = some m.cls := by have h_ := findClass_of_methodNamed B.named; exact h_
  have hlocks := B.notSynchronized
  subst hsz
  have hD := hD0.self (sz := s.heap.size)
  generalize hAe : va_A [ob7_0_ xh xc u1 u2 u3 u4 u5 u6 u7 u8, ob0_0_ xc xn xk clo cro c4 c5 c6 c7 c8, ob3_0_ xn vp vn n1 n2 n3 n4 n5, aq_ cy 6 clo 12 (gf_ rl), ai_ cy (rl 0) 12 (Ml 0), ai_ cy (rl 1) 12 (Ml 1), ai_ cy (rl 2) 12 (Ml 2), ai_ cy (rl 3) 12 (Ml 3), ai_ cy (rl 4) 12 (Ml 4), ai_ cy (rl 5) 12 (Ml 5), ai_ cy (rl 6) 12 (Ml 6), ai_ cy (rl 7) 12 (Ml 7), ai_ cy (rl 8) 12 (Ml 8), ai_ cy (rl 9) 12 (Ml 9), ai_ cy (rl 10) 12 (Ml 10), ai_ cy (rl 11) 12 (Ml 11)] s.heap.size = A at hD hQ
  have hA : ∀ q : Nat, s.heap.size ≤ q → A q := fun q h => by rw [← hAe]; exact Or.inr h
  have hS : va_S A s.heap s.heap [] := va_S.rf
  have hl := lv_entry ([.ref xh, .int a1, .int a2, .int a3]) (n := 4) (Nat.le_of_ble_eq_true rfl)
  rw [lg_entry_eq]
  generalize (lg_sl ([.ref xh, .int a1, .int a2, .int a3]) ++ List.replicate (4 - (lg_sl ([.ref xh, .int a1, .int a2, .int a3])).length) Slot.unset).toArray = ls at hl ⊢
  have hl : lv_has ls 4 [(0, .ref xh), (1, .int a1), (2, .int a2), (3, .int a3)] := hl
  have z0 : (0 : Int32).toInt = 0 := by decide
  have z1 : (1 : Int32).toInt = 1 := by decide
  have cv_ := clI (i := vp) (by omega)
  have hnn_ : ∀ x y : Nat, x < vp.toNatClampNeg → y < vp.toNatClampNeg → 0 ≤ zM Ml x y := fun x y hx hy => (hM x y hx hy).1
  have ha3_ := hdn_bd hh (by omega) hnn_ hB
  have h7r_ : 0 ≤ u7.toInt ∧ u7.toInt < 4096 := by have h1_ := hs.1; have h2_ := dnz_lt (W := (wN (zM Ml) vp.toNatClampNeg)) (b := bN) a2.toNatClampNeg; have h3_ := hnt_lt (hdn_hnt hh) (by omega); omega
  refine lv_iload_n hx hb dB_36_1_62.1.1.1.1 rfl (lv_at hl 1 rfl) ?_
  refine lv_if_ge (tgt := 11) hx hb dB_36_1_62.1.1.1.2 (by decide) (fun c_1 => ?_) (fun c_1 => ?_)
  · have t_1 : (0 : Int32).toInt ≤ a1.toInt := Int32.le_iff_toInt_le.mp c_1
    have cp_ := clI (i := a1) (by omega)
    have hK_ : (a1.toInt + 1).toNat = a1.toNatClampNeg + 1 := by omega
    have hh1_ : hdn (zM Ml) vp.toNatClampNeg (a1.toNatClampNeg + 1) a2 a3.toInt := by rw [hK_] at hh; exact hh
    have hap_ : a1.toInt < vp.toInt := by have h_ := hh1_.1; omega
    refine lv_aload_n hx hb dB_36_1_62.1.2.2.2 rfl (lv_at hl 0 rfl) ?_
    refine lv_iload_n hx hb dB_36_1_62.2.1.1.1 rfl (lv_at hl 1 rfl) ?_
    refine lv_iconst (v := 1) hx hb dB_36_1_62.2.1.1.2 (by decide) ?_
    refine lv_isub hx hb dB_36_1_62.2.1.2.1 ?_
    refine lv_topi (fun y_2 ey_2 => ?_)
    have ty_2 : y_2.toInt = a1.toInt - (1 : Int32).toInt := by rw [ey_2]; exact subI (by omega) (by omega)
    refine lv_iload_n hx hb dB_36_1_62.2.1.2.2 rfl (lv_at hl 2 rfl) ?_
    refine lv_iload_n hx hb dB_36_1_62.2.2.1.1 rfl (lv_at hl 3 rfl) ?_
    have hKr_ : (y_2.toInt + 1).toNat = a1.toNatClampNeg := by omega
    have hrh_ : hdn (zM Ml) vp.toNatClampNeg (y_2.toInt + 1).toNat a2 a3.toInt := by rw [hKr_]; exact hdn_out hh1_
    refine ct_S hP hD hS hA [ob7_0_ xh xc u1 u2 u3 u4 u5 u6 u7 u8, ob0_0_ xc xn xk clo cro c4 c5 c6 c7 c8, ob3_0_ xn vp vn n1 n2 n3 n4 n5, aq_ cy 6 clo 12 (gf_ rl), ai_ cy (rl 0) 12 (Ml 0), ai_ cy (rl 1) 12 (Ml 1), ai_ cy (rl 2) 12 (Ml 2), ai_ cy (rl 3) 12 (Ml 3), ai_ cy (rl 4) 12 (Ml 4), ai_ cy (rl 5) 12 (Ml 5), ai_ cy (rl 6) 12 (Ml 6), ai_ cy (rl 7) 12 (Ml 7), ai_ cy (rl 8) 12 (Ml 8), ai_ cy (rl 9) 12 (Ml 9), ai_ cy (rl 10) 12 (Ml 10), ai_ cy (rl 11) 12 (Ml 11)] [0, 1, 2, 3, 4, 5, 6, 7, 8, 9, 10, 11, 12, 13, 14, 15] (by decide +kernel) rfl (fun hPc hDw hFc hC_ => ?_)
    refine va_callv (va_runV (As := [.int y_2, .int a2, .int a3]) (rest := []) ⟨hx, hb, hml, hown, hts⟩ (c_X7_chooseForDense2_1 l D cy s.heap.size xh u1 u2 u3 u4 u5 u6 u7 u8 xc xk clo cro c4 c5 c6 c7 c8 xn n1 n2 n3 n4 n5 vp vn rl Ml y_2 a2 a3 (by first | with_reducible assumption | omega | assumption) (by first | with_reducible assumption | omega | assumption) (by first | with_reducible assumption | assumption | omega) (by first | with_reducible assumption | assumption | omega) (by first | with_reducible assumption | omega | assumption) (by first | with_reducible assumption | assumption | omega) (by first | with_reducible assumption | assumption | omega)) (cwV 3 hts gX7_chooseForDense_X7_chooseForDense rfl rfl rfl ⟨rfl, hd_X7_chooseForDense⟩ ⟨Nat.le_of_ble_eq_true rfl, Nat.le_of_ble_eq_true rfl⟩) ⟨bl_g, va_recvX hK.1 hP (ci := 7) (q0 := 0) rfl rfl, fun U hU hW => ⟨rfl, by rw [hU], by rw [hU]; exact hPc, ⟨kk_mv hW hK, arrOfT_moved hW.alike hG⟩, hDw⟩⟩ rfl rfl hl.1 rfl (lv_room (Nat.le_of_ble_eq_true rfl)) dB_36_1_62.2.2.1.2 ⟨Nat.le_of_ble_eq_true rfl, Nat.le_of_ble_eq_true rfl⟩) hS (fun q _ h => hFc q h) hFc (fun u t H locs ht hvm hw hB hz1 hk1 hS => ?_)
    obtain ⟨v7_4, v8_5, g_6, hP1, hD1⟩ := hB
    rw [ht] at hP1
    obtain ⟨hP, hD⟩ := va_join (wr := []) (w1 := [ob7_0_ xh xc u1 u2 u3 u4 u5 u6 v7_4 v8_5, ob0_0_ xc xn xk clo cro c4 c5 c6 c7 c8, ob3_0_ xn vp vn n1 n2 n3 n4 n5, aq_ cy 6 clo 12 (gf_ rl), ai_ cy (rl 0) 12 (Ml 0), ai_ cy (rl 1) 12 (Ml 1), ai_ cy (rl 2) 12 (Ml 2), ai_ cy (rl 3) 12 (Ml 3), ai_ cy (rl 4) 12 (Ml 4), ai_ cy (rl 5) 12 (Ml 5), ai_ cy (rl 6) 12 (Ml 6), ai_ cy (rl 7) 12 (Ml 7), ai_ cy (rl 8) 12 (Ml 8), ai_ cy (rl 9) 12 (Ml 9), ai_ cy (rl 10) 12 (Ml 10), ai_ cy (rl 11) 12 (Ml 11)]) hP hD [0, 1, 2, 3, 4, 5, 6, 7, 8, 9, 10, 11, 12, 13, 14, 15] [] hC_ rfl (by decide) (by decide) hk1 hFc hP1 hD1
    refine pd_K [ob7_0_ xh xc u1 u2 u3 u4 u5 u6 v7_4 v8_5, ob0_0_ xc xn xk clo cro c4 c5 c6 c7 c8, ob3_0_ xn vp vn n1 n2 n3 n4 n5, aq_ cy 6 clo 12 (gf_ rl), ai_ cy (rl 0) 12 (Ml 0), ai_ cy (rl 1) 12 (Ml 1), ai_ cy (rl 2) 12 (Ml 2), ai_ cy (rl 3) 12 (Ml 3), ai_ cy (rl 4) 12 (Ml 4), ai_ cy (rl 5) 12 (Ml 5), ai_ cy (rl 6) 12 (Ml 6), ai_ cy (rl 7) 12 (Ml 7), ai_ cy (rl 8) 12 (Ml 8), ai_ cy (rl 9) 12 (Ml 9), ai_ cy (rl 10) 12 (Ml 10), ai_ cy (rl 11) 12 (Ml 11)] hP hD (fun hP hD => ?_)
    have hs1_ := dS_to g_6 (show _ = a2.toNatClampNeg + 2 ^ a1.toNatClampNeg by rw [hKr_])
    refine lv_aload_n hx hb dB_36_1_62.2.2.2.1 rfl (lv_at hl 0 rfl) ?_
    refine lv_iload_n hx hb dB_36_1_62.2.2.2.2 rfl (lv_at hl 1 rfl) ?_
    refine lv_iconst (v := 1) hx hb dB_36_1_63.1.1.1 (by decide) ?_
    refine lv_isub hx hb dB_36_1_63.1.1.2.1 ?_
    refine lv_topi (fun y_7 ey_7 => ?_)
    have e_ := (ey_7.trans ey_2.symm).symm
    subst e_
    refine lv_iload_n hx hb dB_36_1_63.1.1.2.2 rfl (lv_at hl 2 rfl) ?_
    refine lv_iconst (v := 1) hx hb dB_36_1_63.1.2.1.1 (by decide) ?_
    refine lv_iload_n hx hb dB_36_1_63.1.2.1.2 rfl (lv_at hl 1 rfl) ?_
    refine lv_ishl hx hb dB_36_1_63.1.2.2.1 ?_
    refine lv_topi (fun y_8 ey_8 => ?_)
    refine lv_ior hx hb dB_36_1_63.1.2.2.2 ?_
    refine lv_topi (fun y_9 ey_9 => ?_)
    refine lv_iload_n hx hb dB_36_1_63.2.1.1.1 rfl (lv_at hl 3 rfl) ?_
    refine lv_aload_n hx hb dB_36_1_63.2.1.1.2 rfl (lv_at hl 0 rfl) ?_
    refine lv_iload_n hx hb dB_36_1_63.2.1.2.1 rfl (lv_at hl 1 rfl) ?_
    refine lv_iload_n hx hb dB_36_1_63.2.1.2.2 rfl (lv_at hl 2 rfl) ?_
    refine ct_R hP hD [ob7_0_ xh xc u1 u2 u3 u4 u5 u6 v7_4 v8_5, ob0_0_ xc xn xk clo cro c4 c5 c6 c7 c8, ob3_0_ xn vp vn n1 n2 n3 n4 n5, aq_ cy 6 clo 12 (gf_ rl), ai_ cy (rl 0) 12 (Ml 0), ai_ cy (rl 1) 12 (Ml 1), ai_ cy (rl 2) 12 (Ml 2), ai_ cy (rl 3) 12 (Ml 3), ai_ cy (rl 4) 12 (Ml 4), ai_ cy (rl 5) 12 (Ml 5), ai_ cy (rl 6) 12 (Ml 6), ai_ cy (rl 7) 12 (Ml 7), ai_ cy (rl 8) 12 (Ml 8), ai_ cy (rl 9) 12 (Ml 9), ai_ cy (rl 10) 12 (Ml 10), ai_ cy (rl 11) 12 (Ml 11)] [0, 1, 2, 3, 4, 5, 6, 7, 8, 9, 10, 11, 12, 13, 14, 15] (by decide +kernel) rfl (fun hPc hDw => ?_)
    have hFc := va_free (wc := []) hD hS hA [] rfl
    refine va_calli (va_runV (As := [.int a1, .int a2]) (rest := [.int a3, .int y_9, .int y_2, .ref xh]) ⟨hx, hb, hml, hown, hts⟩ (c_X7_letIn2 l D cy H.size xh u1 u2 u3 u4 u5 u6 v7_4 v8_5 xc xk clo cro c4 c5 c6 c7 c8 xn n1 n2 n3 n4 n5 vp vn rl Ml a1 a2 (by first | with_reducible assumption | omega | assumption) (by first | with_reducible assumption | omega | assumption) (by first | with_reducible assumption | assumption | omega)) (cwV 2 hts gX7_chooseForDense_X7_letIn rfl rfl rfl ⟨rfl, hd_X7_letIn⟩ ⟨Nat.le_of_ble_eq_true rfl, Nat.le_of_ble_eq_true rfl⟩) ⟨bl_g, va_recvX hK.1 hP (ci := 7) (q0 := 0) rfl rfl, fun U hU hW => ⟨rfl, by rw [hU], by rw [hU]; exact hPc, ⟨kk_mv hW hK, arrOfT_moved hW.alike hG⟩, hDw⟩⟩ rfl rfl hl.1 rfl (lv_room (Nat.le_of_ble_eq_true rfl)) dB_36_1_63.2.2.1.1 ⟨Nat.le_of_ble_eq_true rfl, Nat.le_of_ble_eq_true rfl⟩) hS (fun q _ h => hFc q h) hFc (fun r_10 u t H locs ht hvm hw hB hz1 hk1 hS => ?_)
    have hP : va_P D vwCl _ H := ro_keep hP hk1
    obtain ⟨f0_r_10, f1_r_10⟩ := hw
    refine lv_iadd hx hb dB_36_1_63.2.2.1.2 ?_
    refine lv_topi (fun y_11 ey_11 => ?_)
    have ty_11 : y_11.toInt = a3.toInt + r_10.toInt := by rw [ey_11]; exact addI (by omega) (by omega)
    have hKq_ : (y_2.toInt + 1).toNat = a1.toNatClampNeg := by omega
    have hin_ := hdn_in hh1_ (by omega) (by omega) ey_8 ey_9 ty_11 f0_r_10
    have hrh2_ : hdn (zM Ml) vp.toNatClampNeg (y_2.toInt + 1).toNat y_9 y_11.toInt := by rw [hKq_]; exact hin_.1
    have hrs_ : dS_ (wN (zM Ml) vp.toNatClampNeg) bN y_9.toNatClampNeg v7_4 v8_5 := dS_to hs1_ hin_.2.symm
    refine ct_S hP hD hS hA [ob7_0_ xh xc u1 u2 u3 u4 u5 u6 v7_4 v8_5, ob0_0_ xc xn xk clo cro c4 c5 c6 c7 c8, ob3_0_ xn vp vn n1 n2 n3 n4 n5, aq_ cy 6 clo 12 (gf_ rl), ai_ cy (rl 0) 12 (Ml 0), ai_ cy (rl 1) 12 (Ml 1), ai_ cy (rl 2) 12 (Ml 2), ai_ cy (rl 3) 12 (Ml 3), ai_ cy (rl 4) 12 (Ml 4), ai_ cy (rl 5) 12 (Ml 5), ai_ cy (rl 6) 12 (Ml 6), ai_ cy (rl 7) 12 (Ml 7), ai_ cy (rl 8) 12 (Ml 8), ai_ cy (rl 9) 12 (Ml 9), ai_ cy (rl 10) 12 (Ml 10), ai_ cy (rl 11) 12 (Ml 11)] [0, 1, 2, 3, 4, 5, 6, 7, 8, 9, 10, 11, 12, 13, 14, 15] (by decide +kernel) rfl (fun hPc hDw hFc hC_ => ?_)
    refine va_callv (va_runV (As := [.int y_2, .int y_9, .int y_11]) (rest := []) ⟨hx, hb, hml, hown, hts⟩ (c_X7_chooseForDense2_1 l D cy H.size xh u1 u2 u3 u4 u5 u6 v7_4 v8_5 xc xk clo cro c4 c5 c6 c7 c8 xn n1 n2 n3 n4 n5 vp vn rl Ml y_2 y_9 y_11 (by first | with_reducible assumption | omega | assumption) (by first | with_reducible assumption | omega | assumption) (by first | with_reducible assumption | assumption | omega) (by first | with_reducible assumption | assumption | omega) (by first | with_reducible assumption | omega | assumption) (by first | with_reducible assumption | assumption | omega) (by first | with_reducible assumption | assumption | omega)) (cwV 3 hts gX7_chooseForDense_X7_chooseForDense rfl rfl rfl ⟨rfl, hd_X7_chooseForDense⟩ ⟨Nat.le_of_ble_eq_true rfl, Nat.le_of_ble_eq_true rfl⟩) ⟨bl_g, va_recvX hK.1 hP (ci := 7) (q0 := 0) rfl rfl, fun U hU hW => ⟨rfl, by rw [hU], by rw [hU]; exact hPc, ⟨kk_mv hW hK, arrOfT_moved hW.alike hG⟩, hDw⟩⟩ rfl rfl hl.1 rfl (lv_room (Nat.le_of_ble_eq_true rfl)) dB_36_1_63.2.2.2.1 ⟨Nat.le_of_ble_eq_true rfl, Nat.le_of_ble_eq_true rfl⟩) hS (fun q _ h => hFc q h) hFc (fun u t H locs ht hvm hw hB hz1 hk1 hS => ?_)
    obtain ⟨v7_13, v8_14, g_15, hP1, hD1⟩ := hB
    rw [ht] at hP1
    obtain ⟨hP, hD⟩ := va_join (wr := []) (w1 := [ob7_0_ xh xc u1 u2 u3 u4 u5 u6 v7_13 v8_14, ob0_0_ xc xn xk clo cro c4 c5 c6 c7 c8, ob3_0_ xn vp vn n1 n2 n3 n4 n5, aq_ cy 6 clo 12 (gf_ rl), ai_ cy (rl 0) 12 (Ml 0), ai_ cy (rl 1) 12 (Ml 1), ai_ cy (rl 2) 12 (Ml 2), ai_ cy (rl 3) 12 (Ml 3), ai_ cy (rl 4) 12 (Ml 4), ai_ cy (rl 5) 12 (Ml 5), ai_ cy (rl 6) 12 (Ml 6), ai_ cy (rl 7) 12 (Ml 7), ai_ cy (rl 8) 12 (Ml 8), ai_ cy (rl 9) 12 (Ml 9), ai_ cy (rl 10) 12 (Ml 10), ai_ cy (rl 11) 12 (Ml 11)]) hP hD [0, 1, 2, 3, 4, 5, 6, 7, 8, 9, 10, 11, 12, 13, 14, 15] [] hC_ rfl (by decide) (by decide) hk1 hFc hP1 hD1
    refine pd_K [ob7_0_ xh xc u1 u2 u3 u4 u5 u6 v7_13 v8_14, ob0_0_ xc xn xk clo cro c4 c5 c6 c7 c8, ob3_0_ xn vp vn n1 n2 n3 n4 n5, aq_ cy 6 clo 12 (gf_ rl), ai_ cy (rl 0) 12 (Ml 0), ai_ cy (rl 1) 12 (Ml 1), ai_ cy (rl 2) 12 (Ml 2), ai_ cy (rl 3) 12 (Ml 3), ai_ cy (rl 4) 12 (Ml 4), ai_ cy (rl 5) 12 (Ml 5), ai_ cy (rl 6) 12 (Ml 6), ai_ cy (rl 7) 12 (Ml 7), ai_ cy (rl 8) 12 (Ml 8), ai_ cy (rl 9) 12 (Ml 9), ai_ cy (rl 10) 12 (Ml 10), ai_ cy (rl 11) 12 (Ml 11)] hP hD (fun hP hD => ?_)
    rw [hQ]
    exact W.vret hx hb hr (fun t ht hW => ⟨⟨(), rfl, trivial, v7_13, v8_14, (dS_to g_15 (by rw [hKq_, hin_.2, pw_K hK_]; omega)), by rw [ht]; exact hP, hD⟩, hS.F ht⟩) hS.2.2 dB_36_1_63.2.2.2.2
  · have t_1 : ¬ (0 : Int32).toInt ≤ a1.toInt := fun h => c_1 (Int32.le_iff_toInt_le.mpr h)
    have hK_ : (a1.toInt + 1).toNat = 0 := by omega
    have hh0_ : hdn (zM Ml) vp.toNatClampNeg 0 a2 a3.toInt := by rw [hK_] at hh; exact hh
    have hlf_ := hdn_leaf hh0_ (by omega)
    have cA2_ := clI (i := a2) (by omega)
    have hsm_ := hlf_.1
    refine lv_aload_n hx hb dB_36_1_62.1.1.2.1 rfl (lv_at hl 0 rfl) ?_
    refine lv_iload_n hx hb dB_36_1_62.1.1.2.2 rfl (lv_at hl 2 rfl) ?_
    refine lv_iload_n hx hb dB_36_1_62.1.2.1.1 rfl (lv_at hl 3 rfl) ?_
    refine ct_S hP hD hS hA [ob7_0_ xh xc u1 u2 u3 u4 u5 u6 u7 u8] [0] (by decide) rfl (fun hPc hDw hFc hC_ => ?_)
    refine va_callv (va_runV (As := [.int a2, .int a3]) (rest := []) ⟨hx, hb, hml, hown, hts⟩ (c_X7_compareDense2 l D cy s.heap.size xh u1 u2 u3 u4 u5 u6 u7 u8 xc (wN (zM Ml) vp.toNatClampNeg) a2 a3 (by first | with_reducible assumption | omega | assumption) (by first | with_reducible assumption | assumption | omega) (by first | with_reducible assumption | assumption | omega) (by first | with_reducible assumption | assumption | omega) (by first | with_reducible assumption | omega | assumption) (by first | with_reducible assumption | omega | assumption)) (cwV 2 hts gX7_chooseForDense_X7_compareDense rfl rfl rfl ⟨rfl, hd_X7_compareDense⟩ ⟨Nat.le_of_ble_eq_true rfl, Nat.le_of_ble_eq_true rfl⟩) ⟨bl_, va_recvX hK.1 hP (ci := 7) (q0 := 0) rfl rfl, fun U hU hW => ⟨rfl, by rw [hU], by rw [hU]; exact hPc, kk_mv hW hK, hDw⟩⟩ rfl rfl hl.1 rfl (lv_room (Nat.le_of_ble_eq_true rfl)) dB_36_1_62.1.2.1.2 ⟨Nat.le_of_ble_eq_true rfl, Nat.le_of_ble_eq_true rfl⟩) hS (fun q _ h => hFc q h) hFc (fun u t H locs ht hvm hw hB hz1 hk1 hS => ?_)
    obtain ⟨v7_17, v8_18, g_19, hP1, hD1⟩ := hB
    rw [ht] at hP1
    obtain ⟨hP, hD⟩ := va_join (wr := [ob0_0_ xc xn xk clo cro c4 c5 c6 c7 c8, ob3_0_ xn vp vn n1 n2 n3 n4 n5, aq_ cy 6 clo 12 (gf_ rl), ai_ cy (rl 0) 12 (Ml 0), ai_ cy (rl 1) 12 (Ml 1), ai_ cy (rl 2) 12 (Ml 2), ai_ cy (rl 3) 12 (Ml 3), ai_ cy (rl 4) 12 (Ml 4), ai_ cy (rl 5) 12 (Ml 5), ai_ cy (rl 6) 12 (Ml 6), ai_ cy (rl 7) 12 (Ml 7), ai_ cy (rl 8) 12 (Ml 8), ai_ cy (rl 9) 12 (Ml 9), ai_ cy (rl 10) 12 (Ml 10), ai_ cy (rl 11) 12 (Ml 11)]) (w1 := [ob7_0_ xh xc u1 u2 u3 u4 u5 u6 v7_17 v8_18]) hP hD [0] [1, 2, 3, 4, 5, 6, 7, 8, 9, 10, 11, 12, 13, 14, 15] hC_ rfl (by decide +kernel) (by decide +kernel) hk1 hFc hP1 hD1
    refine pd_S hP hD [ob7_0_ xh xc u1 u2 u3 u4 u5 u6 v7_17 v8_18, ob0_0_ xc xn xk clo cro c4 c5 c6 c7 c8, ob3_0_ xn vp vn n1 n2 n3 n4 n5, aq_ cy 6 clo 12 (gf_ rl), ai_ cy (rl 0) 12 (Ml 0), ai_ cy (rl 1) 12 (Ml 1), ai_ cy (rl 2) 12 (Ml 2), ai_ cy (rl 3) 12 (Ml 3), ai_ cy (rl 4) 12 (Ml 4), ai_ cy (rl 5) 12 (Ml 5), ai_ cy (rl 6) 12 (Ml 6), ai_ cy (rl 7) 12 (Ml 7), ai_ cy (rl 8) 12 (Ml 8), ai_ cy (rl 9) 12 (Ml 9), ai_ cy (rl 10) 12 (Ml 10), ai_ cy (rl 11) 12 (Ml 11)] [15, 0, 1, 2, 3, 4, 5, 6, 7, 8, 9, 10, 11, 12, 13, 14] (by decide +kernel) rfl (fun hP hD => ?_)
    rw [hQ]
    exact W.vret hx hb hr (fun t ht hW => ⟨⟨(), rfl, trivial, v7_17, v8_18, (dS_to g_19 (by rw [hK_])), by rw [ht]; exact hP, hD⟩, hS.F ht⟩) hS.2.2 dB_36_1_62.1.2.2.1

set_option maxHeartbeats 4000000 in
set_option maxRecDepth 100000 in
theorem c_X7_chooseForDense2_3 (l : Launch) (D : va_G) (cy : Nat → ClassId) (sz : Nat) (xh : Nat) (u1 : Int32) (u2 : Int32) (u3 : Int32) (u4 : Int32) (u5 : Int32) (u6 : Int32) (u7 : Int32) (u8 : Int32) (xc : Nat) (xk : Nat) (clo : Nat) (cro : Nat) (c4 : Nat) (c5 : Nat) (c6 : Nat) (c7 : Nat) (c8 : Nat) (xn : Nat) (n1 : Nat) (n2 : Nat) (n3 : Nat) (n4 : Nat) (n5 : Nat) (vp : Int32) (vn : Int32) (rl : Nat → Nat) (Ml : Nat → Nat → Int32) (a1 : Int32) (a2 : Int32) (a3 : Int32) (hvp : 0 ≤ vp.toInt ∧ vp.toInt ≤ 12) (q1 : -1 ≤ a1.toInt ∧ a1.toInt < 3) (hM : ∀ x y : Nat, x < vp.toNatClampNeg → y < vp.toNatClampNeg → 0 ≤ zM Ml x y ∧ zM Ml x y ≤ 80000000) (hB : ∀ n : Nat, 0 ≤ wN (zM Ml) vp.toNatClampNeg n ∧ wN (zM Ml) vp.toNatClampNeg n ≤ 100000) (hB0 : wN (zM Ml) vp.toNatClampNeg 0 = 0) (hh : hdn (zM Ml) vp.toNatClampNeg (a1.toInt + 1).toNat a2 a3.toInt) (hs : dS_ (wN (zM Ml) vp.toNatClampNeg) bN a2.toNatClampNeg u7 u8) : Met l yX7_chooseForDense wsX7_chooseForDense ({ frames := 5, cells := 0, slots := 0, locals := 115 }) (va_Pc [.ref xh, .int a1, .int a2, .int a3] (fun U => U.heap.size = sz ∧ va_P D vwCl [ob7_0_ xh xc u1 u2 u3 u4 u5 u6 u7 u8, ob0_0_ xc xn xk clo cro c4 c5 c6 c7 c8, ob3_0_ xn vp vn n1 n2 n3 n4 n5, aq_ cy 6 clo 12 (gf_ rl), ai_ cy (rl 0) 12 (Ml 0), ai_ cy (rl 1) 12 (Ml 1), ai_ cy (rl 2) 12 (Ml 2), ai_ cy (rl 3) 12 (Ml 3), ai_ cy (rl 4) 12 (Ml 4), ai_ cy (rl 5) 12 (Ml 5), ai_ cy (rl 6) 12 (Ml 6), ai_ cy (rl 7) 12 (Ml 7), ai_ cy (rl 8) 12 (Ml 8), ai_ cy (rl 9) 12 (Ml 9), ai_ cy (rl 10) 12 (Ml 10), ai_ cy (rl 11) 12 (Ml 11)] U.heap ∧ kg_ D cy U ∧ va_D (fun _ => True) [ob7_0_ xh xc u1 u2 u3 u4 u5 u6 u7 u8, ob0_0_ xc xn xk clo cro c4 c5 c6 c7 c8, ob3_0_ xn vp vn n1 n2 n3 n4 n5, aq_ cy 6 clo 12 (gf_ rl), ai_ cy (rl 0) 12 (Ml 0), ai_ cy (rl 1) 12 (Ml 1), ai_ cy (rl 2) 12 (Ml 2), ai_ cy (rl 3) 12 (Ml 3), ai_ cy (rl 4) 12 (Ml 4), ai_ cy (rl 5) 12 (Ml 5), ai_ cy (rl 6) 12 (Ml 6), ai_ cy (rl 7) 12 (Ml 7), ai_ cy (rl 8) 12 (Ml 8), ai_ cy (rl 9) 12 (Ml 9), ai_ cy (rl 10) 12 (Ml 10), ai_ cy (rl 11) 12 (Ml 11)])) (va_Qv (fun (_ : Unit) => True) (fun (_ : Unit) (t : State) => ∃ (v7 : Int32), ∃ (v8 : Int32), (dS_ (wN (zM Ml) vp.toNatClampNeg) bN (a2.toNatClampNeg + 2 ^ (a1.toInt + 1).toNat) v7 v8) ∧ va_P D vwCl [ob7_0_ xh xc u1 u2 u3 u4 u5 u6 v7 v8, ob0_0_ xc xn xk clo cro c4 c5 c6 c7 c8, ob3_0_ xn vp vn n1 n2 n3 n4 n5, aq_ cy 6 clo 12 (gf_ rl), ai_ cy (rl 0) 12 (Ml 0), ai_ cy (rl 1) 12 (Ml 1), ai_ cy (rl 2) 12 (Ml 2), ai_ cy (rl 3) 12 (Ml 3), ai_ cy (rl 4) 12 (Ml 4), ai_ cy (rl 5) 12 (Ml 5), ai_ cy (rl 6) 12 (Ml 6), ai_ cy (rl 7) 12 (Ml 7), ai_ cy (rl 8) 12 (Ml 8), ai_ cy (rl 9) 12 (Ml 9), ai_ cy (rl 10) 12 (Ml 10), ai_ cy (rl 11) 12 (Ml 11)] t.heap ∧ va_D (va_A [ob7_0_ xh xc u1 u2 u3 u4 u5 u6 u7 u8, ob0_0_ xc xn xk clo cro c4 c5 c6 c7 c8, ob3_0_ xn vp vn n1 n2 n3 n4 n5, aq_ cy 6 clo 12 (gf_ rl), ai_ cy (rl 0) 12 (Ml 0), ai_ cy (rl 1) 12 (Ml 1), ai_ cy (rl 2) 12 (Ml 2), ai_ cy (rl 3) 12 (Ml 3), ai_ cy (rl 4) 12 (Ml 4), ai_ cy (rl 5) 12 (Ml 5), ai_ cy (rl 6) 12 (Ml 6), ai_ cy (rl 7) 12 (Ml 7), ai_ cy (rl 8) 12 (Ml 8), ai_ cy (rl 9) 12 (Ml 9), ai_ cy (rl 10) 12 (Ml 10), ai_ cy (rl 11) 12 (Ml 11)] sz) [ob7_0_ xh xc u1 u2 u3 u4 u5 u6 v7 v8, ob0_0_ xc xn xk clo cro c4 c5 c6 c7 c8, ob3_0_ xn vp vn n1 n2 n3 n4 n5, aq_ cy 6 clo 12 (gf_ rl), ai_ cy (rl 0) 12 (Ml 0), ai_ cy (rl 1) 12 (Ml 1), ai_ cy (rl 2) 12 (Ml 2), ai_ cy (rl 3) 12 (Ml 3), ai_ cy (rl 4) 12 (Ml 4), ai_ cy (rl 5) 12 (Ml 5), ai_ cy (rl 6) 12 (Ml 6), ai_ cy (rl 7) 12 (Ml 7), ai_ cy (rl 8) 12 (Ml 8), ai_ cy (rl 9) 12 (Ml 9), ai_ cy (rl 10) 12 (Ml 10), ai_ cy (rl 11) 12 (Ml 11)]) (va_A [ob7_0_ xh xc u1 u2 u3 u4 u5 u6 u7 u8, ob0_0_ xc xn xk clo cro c4 c5 c6 c7 c8, ob3_0_ xn vp vn n1 n2 n3 n4 n5, aq_ cy 6 clo 12 (gf_ rl), ai_ cy (rl 0) 12 (Ml 0), ai_ cy (rl 1) 12 (Ml 1), ai_ cy (rl 2) 12 (Ml 2), ai_ cy (rl 3) 12 (Ml 3), ai_ cy (rl 4) 12 (Ml 4), ai_ cy (rl 5) 12 (Ml 5), ai_ cy (rl 6) 12 (Ml 6), ai_ cy (rl 7) 12 (Ml 7), ai_ cy (rl 8) 12 (Ml 8), ai_ cy (rl 9) 12 (Ml 9), ai_ cy (rl 10) 12 (Ml 10), ai_ cy (rl 11) 12 (Ml 11)] sz)) 0 0 (va_A [ob7_0_ xh xc u1 u2 u3 u4 u5 u6 u7 u8, ob0_0_ xc xn xk clo cro c4 c5 c6 c7 c8, ob3_0_ xn vp vn n1 n2 n3 n4 n5, aq_ cy 6 clo 12 (gf_ rl), ai_ cy (rl 0) 12 (Ml 0), ai_ cy (rl 1) 12 (Ml 1), ai_ cy (rl 2) 12 (Ml 2), ai_ cy (rl 3) 12 (Ml 3), ai_ cy (rl 4) 12 (Ml 4), ai_ cy (rl 5) 12 (Ml 5), ai_ cy (rl 6) 12 (Ml 6), ai_ cy (rl 7) 12 (Ml 7), ai_ cy (rl 8) 12 (Ml 8), ai_ cy (rl 9) 12 (Ml 9), ai_ cy (rl 10) 12 (Ml 10), ai_ cy (rl 11) 12 (Ml 11)] sz) := by
  refine ofQ (cc := cX7_chooseForDense) (maxL := 4) (ret := none) (by decide) rfl ?_
  intro p e s m args below meth c s₁ Q hQ B hml hv
  obtain ⟨rfl, hsz, hP, hK, hD0⟩ := hv
  have hG := hK.2
  have hK := hK.1
  have hx := B.exec
  have hb := B.bytes
  have hr := B.returns
  have hts := atoms_spec (ws := wsX7_chooseForDense) B.pre
  have hown : s.vm.findClass RX7 = some m.cls := by have h_ := findClass_of_methodNamed B.named; exact h_
  have hlocks := B.notSynchronized
  subst hsz
  have hD := hD0.self (sz := s.heap.size)
  generalize hAe : va_A [ob7_0_ xh xc u1 u2 u3 u4 u5 u6 u7 u8, ob0_0_ xc xn xk clo cro c4 c5 c6 c7 c8, ob3_0_ xn vp vn n1 n2 n3 n4 n5, aq_ cy 6 clo 12 (gf_ rl), ai_ cy (rl 0) 12 (Ml 0), ai_ cy (rl 1) 12 (Ml 1), ai_ cy (rl 2) 12 (Ml 2), ai_ cy (rl 3) 12 (Ml 3), ai_ cy (rl 4) 12 (Ml 4), ai_ cy (rl 5) 12 (Ml 5), ai_ cy (rl 6) 12 (Ml 6), ai_ cy (rl 7) 12 (Ml 7), ai_ cy (rl 8) 12 (Ml 8), ai_ cy (rl 9) 12 (Ml 9), ai_ cy (rl 10) 12 (Ml 10), ai_ cy (rl 11) 12 (Ml 11)] s.heap.size = A at hD hQ
  have hA : ∀ q : Nat, s.heap.size ≤ q → A q := fun q h => by rw [← hAe]; exact Or.inr h
  have hS : va_S A s.heap s.heap [] := va_S.rf
  have hl := lv_entry ([.ref xh, .int a1, .int a2, .int a3]) (n := 4) (Nat.le_of_ble_eq_true rfl)
  rw [lg_entry_eq]
  generalize (lg_sl ([.ref xh, .int a1, .int a2, .int a3]) ++ List.replicate (4 - (lg_sl ([.ref xh, .int a1, .int a2, .int a3])).length) Slot.unset).toArray = ls at hl ⊢
  have hl : lv_has ls 4 [(0, .ref xh), (1, .int a1), (2, .int a2), (3, .int a3)] := hl
  have z0 : (0 : Int32).toInt = 0 := by decide
  have z1 : (1 : Int32).toInt = 1 := by decide
  have cv_ := clI (i := vp) (by omega)
  have hnn_ : ∀ x y : Nat, x < vp.toNatClampNeg → y < vp.toNatClampNeg → 0 ≤ zM Ml x y := fun x y hx hy => (hM x y hx hy).1
  have ha3_ := hdn_bd hh (by omega) hnn_ hB
  have h7r_ : 0 ≤ u7.toInt ∧ u7.toInt < 4096 := by have h1_ := hs.1; have h2_ := dnz_lt (W := (wN (zM Ml) vp.toNatClampNeg)) (b := bN) a2.toNatClampNeg; have h3_ := hnt_lt (hdn_hnt hh) (by omega); omega
  refine lv_iload_n hx hb dB_36_1_62.1.1.1.1 rfl (lv_at hl 1 rfl) ?_
  refine lv_if_ge (tgt := 11) hx hb dB_36_1_62.1.1.1.2 (by decide) (fun c_1 => ?_) (fun c_1 => ?_)
  · have t_1 : (0 : Int32).toInt ≤ a1.toInt := Int32.le_iff_toInt_le.mp c_1
    have cp_ := clI (i := a1) (by omega)
    have hK_ : (a1.toInt + 1).toNat = a1.toNatClampNeg + 1 := by omega
    have hh1_ : hdn (zM Ml) vp.toNatClampNeg (a1.toNatClampNeg + 1) a2 a3.toInt := by rw [hK_] at hh; exact hh
    have hap_ : a1.toInt < vp.toInt := by have h_ := hh1_.1; omega
    refine lv_aload_n hx hb dB_36_1_62.1.2.2.2 rfl (lv_at hl 0 rfl) ?_
    refine lv_iload_n hx hb dB_36_1_62.2.1.1.1 rfl (lv_at hl 1 rfl) ?_
    refine lv_iconst (v := 1) hx hb dB_36_1_62.2.1.1.2 (by decide) ?_
    refine lv_isub hx hb dB_36_1_62.2.1.2.1 ?_
    refine lv_topi (fun y_2 ey_2 => ?_)
    have ty_2 : y_2.toInt = a1.toInt - (1 : Int32).toInt := by rw [ey_2]; exact subI (by omega) (by omega)
    refine lv_iload_n hx hb dB_36_1_62.2.1.2.2 rfl (lv_at hl 2 rfl) ?_
    refine lv_iload_n hx hb dB_36_1_62.2.2.1.1 rfl (lv_at hl 3 rfl) ?_
    have hKr_ : (y_2.toInt + 1).toNat = a1.toNatClampNeg := by omega
    have hrh_ : hdn (zM Ml) vp.toNatClampNeg (y_2.toInt + 1).toNat a2 a3.toInt := by rw [hKr_]; exact hdn_out hh1_
    refine ct_S hP hD hS hA [ob7_0_ xh xc u1 u2 u3 u4 u5 u6 u7 u8, ob0_0_ xc xn xk clo cro c4 c5 c6 c7 c8, ob3_0_ xn vp vn n1 n2 n3 n4 n5, aq_ cy 6 clo 12 (gf_ rl), ai_ cy (rl 0) 12 (Ml 0), ai_ cy (rl 1) 12 (Ml 1), ai_ cy (rl 2) 12 (Ml 2), ai_ cy (rl 3) 12 (Ml 3), ai_ cy (rl 4) 12 (Ml 4), ai_ cy (rl 5) 12 (Ml 5), ai_ cy (rl 6) 12 (Ml 6), ai_ cy (rl 7) 12 (Ml 7), ai_ cy (rl 8) 12 (Ml 8), ai_ cy (rl 9) 12 (Ml 9), ai_ cy (rl 10) 12 (Ml 10), ai_ cy (rl 11) 12 (Ml 11)] [0, 1, 2, 3, 4, 5, 6, 7, 8, 9, 10, 11, 12, 13, 14, 15] (by decide +kernel) rfl (fun hPc hDw hFc hC_ => ?_)
    refine va_callv (va_runV (As := [.int y_2, .int a2, .int a3]) (rest := []) ⟨hx, hb, hml, hown, hts⟩ (c_X7_chooseForDense2_2 l D cy s.heap.size xh u1 u2 u3 u4 u5 u6 u7 u8 xc xk clo cro c4 c5 c6 c7 c8 xn n1 n2 n3 n4 n5 vp vn rl Ml y_2 a2 a3 (by first | with_reducible assumption | omega | assumption) (by first | with_reducible assumption | omega | assumption) (by first | with_reducible assumption | assumption | omega) (by first | with_reducible assumption | assumption | omega) (by first | with_reducible assumption | omega | assumption) (by first | with_reducible assumption | assumption | omega) (by first | with_reducible assumption | assumption | omega)) (cwV 3 hts gX7_chooseForDense_X7_chooseForDense rfl rfl rfl ⟨rfl, hd_X7_chooseForDense⟩ ⟨Nat.le_of_ble_eq_true rfl, Nat.le_of_ble_eq_true rfl⟩) ⟨bl_g, va_recvX hK.1 hP (ci := 7) (q0 := 0) rfl rfl, fun U hU hW => ⟨rfl, by rw [hU], by rw [hU]; exact hPc, ⟨kk_mv hW hK, arrOfT_moved hW.alike hG⟩, hDw⟩⟩ rfl rfl hl.1 rfl (lv_room (Nat.le_of_ble_eq_true rfl)) dB_36_1_62.2.2.1.2 ⟨Nat.le_of_ble_eq_true rfl, Nat.le_of_ble_eq_true rfl⟩) hS (fun q _ h => hFc q h) hFc (fun u t H locs ht hvm hw hB hz1 hk1 hS => ?_)
    obtain ⟨v7_4, v8_5, g_6, hP1, hD1⟩ := hB
    rw [ht] at hP1
    obtain ⟨hP, hD⟩ := va_join (wr := []) (w1 := [ob7_0_ xh xc u1 u2 u3 u4 u5 u6 v7_4 v8_5, ob0_0_ xc xn xk clo cro c4 c5 c6 c7 c8, ob3_0_ xn vp vn n1 n2 n3 n4 n5, aq_ cy 6 clo 12 (gf_ rl), ai_ cy (rl 0) 12 (Ml 0), ai_ cy (rl 1) 12 (Ml 1), ai_ cy (rl 2) 12 (Ml 2), ai_ cy (rl 3) 12 (Ml 3), ai_ cy (rl 4) 12 (Ml 4), ai_ cy (rl 5) 12 (Ml 5), ai_ cy (rl 6) 12 (Ml 6), ai_ cy (rl 7) 12 (Ml 7), ai_ cy (rl 8) 12 (Ml 8), ai_ cy (rl 9) 12 (Ml 9), ai_ cy (rl 10) 12 (Ml 10), ai_ cy (rl 11) 12 (Ml 11)]) hP hD [0, 1, 2, 3, 4, 5, 6, 7, 8, 9, 10, 11, 12, 13, 14, 15] [] hC_ rfl (by decide) (by decide) hk1 hFc hP1 hD1
    refine pd_K [ob7_0_ xh xc u1 u2 u3 u4 u5 u6 v7_4 v8_5, ob0_0_ xc xn xk clo cro c4 c5 c6 c7 c8, ob3_0_ xn vp vn n1 n2 n3 n4 n5, aq_ cy 6 clo 12 (gf_ rl), ai_ cy (rl 0) 12 (Ml 0), ai_ cy (rl 1) 12 (Ml 1), ai_ cy (rl 2) 12 (Ml 2), ai_ cy (rl 3) 12 (Ml 3), ai_ cy (rl 4) 12 (Ml 4), ai_ cy (rl 5) 12 (Ml 5), ai_ cy (rl 6) 12 (Ml 6), ai_ cy (rl 7) 12 (Ml 7), ai_ cy (rl 8) 12 (Ml 8), ai_ cy (rl 9) 12 (Ml 9), ai_ cy (rl 10) 12 (Ml 10), ai_ cy (rl 11) 12 (Ml 11)] hP hD (fun hP hD => ?_)
    have hs1_ := dS_to g_6 (show _ = a2.toNatClampNeg + 2 ^ a1.toNatClampNeg by rw [hKr_])
    refine lv_aload_n hx hb dB_36_1_62.2.2.2.1 rfl (lv_at hl 0 rfl) ?_
    refine lv_iload_n hx hb dB_36_1_62.2.2.2.2 rfl (lv_at hl 1 rfl) ?_
    refine lv_iconst (v := 1) hx hb dB_36_1_63.1.1.1 (by decide) ?_
    refine lv_isub hx hb dB_36_1_63.1.1.2.1 ?_
    refine lv_topi (fun y_7 ey_7 => ?_)
    have e_ := (ey_7.trans ey_2.symm).symm
    subst e_
    refine lv_iload_n hx hb dB_36_1_63.1.1.2.2 rfl (lv_at hl 2 rfl) ?_
    refine lv_iconst (v := 1) hx hb dB_36_1_63.1.2.1.1 (by decide) ?_
    refine lv_iload_n hx hb dB_36_1_63.1.2.1.2 rfl (lv_at hl 1 rfl) ?_
    refine lv_ishl hx hb dB_36_1_63.1.2.2.1 ?_
    refine lv_topi (fun y_8 ey_8 => ?_)
    refine lv_ior hx hb dB_36_1_63.1.2.2.2 ?_
    refine lv_topi (fun y_9 ey_9 => ?_)
    refine lv_iload_n hx hb dB_36_1_63.2.1.1.1 rfl (lv_at hl 3 rfl) ?_
    refine lv_aload_n hx hb dB_36_1_63.2.1.1.2 rfl (lv_at hl 0 rfl) ?_
    refine lv_iload_n hx hb dB_36_1_63.2.1.2.1 rfl (lv_at hl 1 rfl) ?_
    refine lv_iload_n hx hb dB_36_1_63.2.1.2.2 rfl (lv_at hl 2 rfl) ?_
    refine ct_R hP hD [ob7_0_ xh xc u1 u2 u3 u4 u5 u6 v7_4 v8_5, ob0_0_ xc xn xk clo cro c4 c5 c6 c7 c8, ob3_0_ xn vp vn n1 n2 n3 n4 n5, aq_ cy 6 clo 12 (gf_ rl), ai_ cy (rl 0) 12 (Ml 0), ai_ cy (rl 1) 12 (Ml 1), ai_ cy (rl 2) 12 (Ml 2), ai_ cy (rl 3) 12 (Ml 3), ai_ cy (rl 4) 12 (Ml 4), ai_ cy (rl 5) 12 (Ml 5), ai_ cy (rl 6) 12 (Ml 6), ai_ cy (rl 7) 12 (Ml 7), ai_ cy (rl 8) 12 (Ml 8), ai_ cy (rl 9) 12 (Ml 9), ai_ cy (rl 10) 12 (Ml 10), ai_ cy (rl 11) 12 (Ml 11)] [0, 1, 2, 3, 4, 5, 6, 7, 8, 9, 10, 11, 12, 13, 14, 15] (by decide +kernel) rfl (fun hPc hDw => ?_)
    have hFc := va_free (wc := []) hD hS hA [] rfl
    refine va_calli (va_runV (As := [.int a1, .int a2]) (rest := [.int a3, .int y_9, .int y_2, .ref xh]) ⟨hx, hb, hml, hown, hts⟩ (c_X7_letIn2 l D cy H.size xh u1 u2 u3 u4 u5 u6 v7_4 v8_5 xc xk clo cro c4 c5 c6 c7 c8 xn n1 n2 n3 n4 n5 vp vn rl Ml a1 a2 (by first | with_reducible assumption | omega | assumption) (by first | with_reducible assumption | omega | assumption) (by first | with_reducible assumption | assumption | omega)) (cwV 2 hts gX7_chooseForDense_X7_letIn rfl rfl rfl ⟨rfl, hd_X7_letIn⟩ ⟨Nat.le_of_ble_eq_true rfl, Nat.le_of_ble_eq_true rfl⟩) ⟨bl_g, va_recvX hK.1 hP (ci := 7) (q0 := 0) rfl rfl, fun U hU hW => ⟨rfl, by rw [hU], by rw [hU]; exact hPc, ⟨kk_mv hW hK, arrOfT_moved hW.alike hG⟩, hDw⟩⟩ rfl rfl hl.1 rfl (lv_room (Nat.le_of_ble_eq_true rfl)) dB_36_1_63.2.2.1.1 ⟨Nat.le_of_ble_eq_true rfl, Nat.le_of_ble_eq_true rfl⟩) hS (fun q _ h => hFc q h) hFc (fun r_10 u t H locs ht hvm hw hB hz1 hk1 hS => ?_)
    have hP : va_P D vwCl _ H := ro_keep hP hk1
    obtain ⟨f0_r_10, f1_r_10⟩ := hw
    refine lv_iadd hx hb dB_36_1_63.2.2.1.2 ?_
    refine lv_topi (fun y_11 ey_11 => ?_)
    have ty_11 : y_11.toInt = a3.toInt + r_10.toInt := by rw [ey_11]; exact addI (by omega) (by omega)
    have hKq_ : (y_2.toInt + 1).toNat = a1.toNatClampNeg := by omega
    have hin_ := hdn_in hh1_ (by omega) (by omega) ey_8 ey_9 ty_11 f0_r_10
    have hrh2_ : hdn (zM Ml) vp.toNatClampNeg (y_2.toInt + 1).toNat y_9 y_11.toInt := by rw [hKq_]; exact hin_.1
    have hrs_ : dS_ (wN (zM Ml) vp.toNatClampNeg) bN y_9.toNatClampNeg v7_4 v8_5 := dS_to hs1_ hin_.2.symm
    refine ct_S hP hD hS hA [ob7_0_ xh xc u1 u2 u3 u4 u5 u6 v7_4 v8_5, ob0_0_ xc xn xk clo cro c4 c5 c6 c7 c8, ob3_0_ xn vp vn n1 n2 n3 n4 n5, aq_ cy 6 clo 12 (gf_ rl), ai_ cy (rl 0) 12 (Ml 0), ai_ cy (rl 1) 12 (Ml 1), ai_ cy (rl 2) 12 (Ml 2), ai_ cy (rl 3) 12 (Ml 3), ai_ cy (rl 4) 12 (Ml 4), ai_ cy (rl 5) 12 (Ml 5), ai_ cy (rl 6) 12 (Ml 6), ai_ cy (rl 7) 12 (Ml 7), ai_ cy (rl 8) 12 (Ml 8), ai_ cy (rl 9) 12 (Ml 9), ai_ cy (rl 10) 12 (Ml 10), ai_ cy (rl 11) 12 (Ml 11)] [0, 1, 2, 3, 4, 5, 6, 7, 8, 9, 10, 11, 12, 13, 14, 15] (by decide +kernel) rfl (fun hPc hDw hFc hC_ => ?_)
    refine va_callv (va_runV (As := [.int y_2, .int y_9, .int y_11]) (rest := []) ⟨hx, hb, hml, hown, hts⟩ (c_X7_chooseForDense2_2 l D cy H.size xh u1 u2 u3 u4 u5 u6 v7_4 v8_5 xc xk clo cro c4 c5 c6 c7 c8 xn n1 n2 n3 n4 n5 vp vn rl Ml y_2 y_9 y_11 (by first | with_reducible assumption | omega | assumption) (by first | with_reducible assumption | omega | assumption) (by first | with_reducible assumption | assumption | omega) (by first | with_reducible assumption | assumption | omega) (by first | with_reducible assumption | omega | assumption) (by first | with_reducible assumption | assumption | omega) (by first | with_reducible assumption | assumption | omega)) (cwV 3 hts gX7_chooseForDense_X7_chooseForDense rfl rfl rfl ⟨rfl, hd_X7_chooseForDense⟩ ⟨Nat.le_of_ble_eq_true rfl, Nat.le_of_ble_eq_true rfl⟩) ⟨bl_g, va_recvX hK.1 hP (ci := 7) (q0 := 0) rfl rfl, fun U hU hW => ⟨rfl, by rw [hU], by rw [hU]; exact hPc, ⟨kk_mv hW hK, arrOfT_moved hW.alike hG⟩, hDw⟩⟩ rfl rfl hl.1 rfl (lv_room (Nat.le_of_ble_eq_true rfl)) dB_36_1_63.2.2.2.1 ⟨Nat.le_of_ble_eq_true rfl, Nat.le_of_ble_eq_true rfl⟩) hS (fun q _ h => hFc q h) hFc (fun u t H locs ht hvm hw hB hz1 hk1 hS => ?_)
    obtain ⟨v7_13, v8_14, g_15, hP1, hD1⟩ := hB
    rw [ht] at hP1
    obtain ⟨hP, hD⟩ := va_join (wr := []) (w1 := [ob7_0_ xh xc u1 u2 u3 u4 u5 u6 v7_13 v8_14, ob0_0_ xc xn xk clo cro c4 c5 c6 c7 c8, ob3_0_ xn vp vn n1 n2 n3 n4 n5, aq_ cy 6 clo 12 (gf_ rl), ai_ cy (rl 0) 12 (Ml 0), ai_ cy (rl 1) 12 (Ml 1), ai_ cy (rl 2) 12 (Ml 2), ai_ cy (rl 3) 12 (Ml 3), ai_ cy (rl 4) 12 (Ml 4), ai_ cy (rl 5) 12 (Ml 5), ai_ cy (rl 6) 12 (Ml 6), ai_ cy (rl 7) 12 (Ml 7), ai_ cy (rl 8) 12 (Ml 8), ai_ cy (rl 9) 12 (Ml 9), ai_ cy (rl 10) 12 (Ml 10), ai_ cy (rl 11) 12 (Ml 11)]) hP hD [0, 1, 2, 3, 4, 5, 6, 7, 8, 9, 10, 11, 12, 13, 14, 15] [] hC_ rfl (by decide) (by decide) hk1 hFc hP1 hD1
    refine pd_K [ob7_0_ xh xc u1 u2 u3 u4 u5 u6 v7_13 v8_14, ob0_0_ xc xn xk clo cro c4 c5 c6 c7 c8, ob3_0_ xn vp vn n1 n2 n3 n4 n5, aq_ cy 6 clo 12 (gf_ rl), ai_ cy (rl 0) 12 (Ml 0), ai_ cy (rl 1) 12 (Ml 1), ai_ cy (rl 2) 12 (Ml 2), ai_ cy (rl 3) 12 (Ml 3), ai_ cy (rl 4) 12 (Ml 4), ai_ cy (rl 5) 12 (Ml 5), ai_ cy (rl 6) 12 (Ml 6), ai_ cy (rl 7) 12 (Ml 7), ai_ cy (rl 8) 12 (Ml 8), ai_ cy (rl 9) 12 (Ml 9), ai_ cy (rl 10) 12 (Ml 10), ai_ cy (rl 11) 12 (Ml 11)] hP hD (fun hP hD => ?_)
    rw [hQ]
    exact W.vret hx hb hr (fun t ht hW => ⟨⟨(), rfl, trivial, v7_13, v8_14, (dS_to g_15 (by rw [hKq_, hin_.2, pw_K hK_]; omega)), by rw [ht]; exact hP, hD⟩, hS.F ht⟩) hS.2.2 dB_36_1_63.2.2.2.2
  · have t_1 : ¬ (0 : Int32).toInt ≤ a1.toInt := fun h => c_1 (Int32.le_iff_toInt_le.mpr h)
    have hK_ : (a1.toInt + 1).toNat = 0 := by omega
    have hh0_ : hdn (zM Ml) vp.toNatClampNeg 0 a2 a3.toInt := by rw [hK_] at hh; exact hh
    have hlf_ := hdn_leaf hh0_ (by omega)
    have cA2_ := clI (i := a2) (by omega)
    have hsm_ := hlf_.1
    refine lv_aload_n hx hb dB_36_1_62.1.1.2.1 rfl (lv_at hl 0 rfl) ?_
    refine lv_iload_n hx hb dB_36_1_62.1.1.2.2 rfl (lv_at hl 2 rfl) ?_
    refine lv_iload_n hx hb dB_36_1_62.1.2.1.1 rfl (lv_at hl 3 rfl) ?_
    refine ct_S hP hD hS hA [ob7_0_ xh xc u1 u2 u3 u4 u5 u6 u7 u8] [0] (by decide) rfl (fun hPc hDw hFc hC_ => ?_)
    refine va_callv (va_runV (As := [.int a2, .int a3]) (rest := []) ⟨hx, hb, hml, hown, hts⟩ (c_X7_compareDense2 l D cy s.heap.size xh u1 u2 u3 u4 u5 u6 u7 u8 xc (wN (zM Ml) vp.toNatClampNeg) a2 a3 (by first | with_reducible assumption | omega | assumption) (by first | with_reducible assumption | assumption | omega) (by first | with_reducible assumption | assumption | omega) (by first | with_reducible assumption | assumption | omega) (by first | with_reducible assumption | omega | assumption) (by first | with_reducible assumption | omega | assumption)) (cwV 2 hts gX7_chooseForDense_X7_compareDense rfl rfl rfl ⟨rfl, hd_X7_compareDense⟩ ⟨Nat.le_of_ble_eq_true rfl, Nat.le_of_ble_eq_true rfl⟩) ⟨bl_, va_recvX hK.1 hP (ci := 7) (q0 := 0) rfl rfl, fun U hU hW => ⟨rfl, by rw [hU], by rw [hU]; exact hPc, kk_mv hW hK, hDw⟩⟩ rfl rfl hl.1 rfl (lv_room (Nat.le_of_ble_eq_true rfl)) dB_36_1_62.1.2.1.2 ⟨Nat.le_of_ble_eq_true rfl, Nat.le_of_ble_eq_true rfl⟩) hS (fun q _ h => hFc q h) hFc (fun u t H locs ht hvm hw hB hz1 hk1 hS => ?_)
    obtain ⟨v7_17, v8_18, g_19, hP1, hD1⟩ := hB
    rw [ht] at hP1
    obtain ⟨hP, hD⟩ := va_join (wr := [ob0_0_ xc xn xk clo cro c4 c5 c6 c7 c8, ob3_0_ xn vp vn n1 n2 n3 n4 n5, aq_ cy 6 clo 12 (gf_ rl), ai_ cy (rl 0) 12 (Ml 0), ai_ cy (rl 1) 12 (Ml 1), ai_ cy (rl 2) 12 (Ml 2), ai_ cy (rl 3) 12 (Ml 3), ai_ cy (rl 4) 12 (Ml 4), ai_ cy (rl 5) 12 (Ml 5), ai_ cy (rl 6) 12 (Ml 6), ai_ cy (rl 7) 12 (Ml 7), ai_ cy (rl 8) 12 (Ml 8), ai_ cy (rl 9) 12 (Ml 9), ai_ cy (rl 10) 12 (Ml 10), ai_ cy (rl 11) 12 (Ml 11)]) (w1 := [ob7_0_ xh xc u1 u2 u3 u4 u5 u6 v7_17 v8_18]) hP hD [0] [1, 2, 3, 4, 5, 6, 7, 8, 9, 10, 11, 12, 13, 14, 15] hC_ rfl (by decide +kernel) (by decide +kernel) hk1 hFc hP1 hD1
    refine pd_S hP hD [ob7_0_ xh xc u1 u2 u3 u4 u5 u6 v7_17 v8_18, ob0_0_ xc xn xk clo cro c4 c5 c6 c7 c8, ob3_0_ xn vp vn n1 n2 n3 n4 n5, aq_ cy 6 clo 12 (gf_ rl), ai_ cy (rl 0) 12 (Ml 0), ai_ cy (rl 1) 12 (Ml 1), ai_ cy (rl 2) 12 (Ml 2), ai_ cy (rl 3) 12 (Ml 3), ai_ cy (rl 4) 12 (Ml 4), ai_ cy (rl 5) 12 (Ml 5), ai_ cy (rl 6) 12 (Ml 6), ai_ cy (rl 7) 12 (Ml 7), ai_ cy (rl 8) 12 (Ml 8), ai_ cy (rl 9) 12 (Ml 9), ai_ cy (rl 10) 12 (Ml 10), ai_ cy (rl 11) 12 (Ml 11)] [15, 0, 1, 2, 3, 4, 5, 6, 7, 8, 9, 10, 11, 12, 13, 14] (by decide +kernel) rfl (fun hP hD => ?_)
    rw [hQ]
    exact W.vret hx hb hr (fun t ht hW => ⟨⟨(), rfl, trivial, v7_17, v8_18, (dS_to g_19 (by rw [hK_])), by rw [ht]; exact hP, hD⟩, hS.F ht⟩) hS.2.2 dB_36_1_62.1.2.2.1

set_option maxHeartbeats 4000000 in
set_option maxRecDepth 100000 in
theorem c_X7_chooseForDense2_4 (l : Launch) (D : va_G) (cy : Nat → ClassId) (sz : Nat) (xh : Nat) (u1 : Int32) (u2 : Int32) (u3 : Int32) (u4 : Int32) (u5 : Int32) (u6 : Int32) (u7 : Int32) (u8 : Int32) (xc : Nat) (xk : Nat) (clo : Nat) (cro : Nat) (c4 : Nat) (c5 : Nat) (c6 : Nat) (c7 : Nat) (c8 : Nat) (xn : Nat) (n1 : Nat) (n2 : Nat) (n3 : Nat) (n4 : Nat) (n5 : Nat) (vp : Int32) (vn : Int32) (rl : Nat → Nat) (Ml : Nat → Nat → Int32) (a1 : Int32) (a2 : Int32) (a3 : Int32) (hvp : 0 ≤ vp.toInt ∧ vp.toInt ≤ 12) (q1 : -1 ≤ a1.toInt ∧ a1.toInt < 4) (hM : ∀ x y : Nat, x < vp.toNatClampNeg → y < vp.toNatClampNeg → 0 ≤ zM Ml x y ∧ zM Ml x y ≤ 80000000) (hB : ∀ n : Nat, 0 ≤ wN (zM Ml) vp.toNatClampNeg n ∧ wN (zM Ml) vp.toNatClampNeg n ≤ 100000) (hB0 : wN (zM Ml) vp.toNatClampNeg 0 = 0) (hh : hdn (zM Ml) vp.toNatClampNeg (a1.toInt + 1).toNat a2 a3.toInt) (hs : dS_ (wN (zM Ml) vp.toNatClampNeg) bN a2.toNatClampNeg u7 u8) : Met l yX7_chooseForDense wsX7_chooseForDense ({ frames := 6, cells := 0, slots := 0, locals := 138 }) (va_Pc [.ref xh, .int a1, .int a2, .int a3] (fun U => U.heap.size = sz ∧ va_P D vwCl [ob7_0_ xh xc u1 u2 u3 u4 u5 u6 u7 u8, ob0_0_ xc xn xk clo cro c4 c5 c6 c7 c8, ob3_0_ xn vp vn n1 n2 n3 n4 n5, aq_ cy 6 clo 12 (gf_ rl), ai_ cy (rl 0) 12 (Ml 0), ai_ cy (rl 1) 12 (Ml 1), ai_ cy (rl 2) 12 (Ml 2), ai_ cy (rl 3) 12 (Ml 3), ai_ cy (rl 4) 12 (Ml 4), ai_ cy (rl 5) 12 (Ml 5), ai_ cy (rl 6) 12 (Ml 6), ai_ cy (rl 7) 12 (Ml 7), ai_ cy (rl 8) 12 (Ml 8), ai_ cy (rl 9) 12 (Ml 9), ai_ cy (rl 10) 12 (Ml 10), ai_ cy (rl 11) 12 (Ml 11)] U.heap ∧ kg_ D cy U ∧ va_D (fun _ => True) [ob7_0_ xh xc u1 u2 u3 u4 u5 u6 u7 u8, ob0_0_ xc xn xk clo cro c4 c5 c6 c7 c8, ob3_0_ xn vp vn n1 n2 n3 n4 n5, aq_ cy 6 clo 12 (gf_ rl), ai_ cy (rl 0) 12 (Ml 0), ai_ cy (rl 1) 12 (Ml 1), ai_ cy (rl 2) 12 (Ml 2), ai_ cy (rl 3) 12 (Ml 3), ai_ cy (rl 4) 12 (Ml 4), ai_ cy (rl 5) 12 (Ml 5), ai_ cy (rl 6) 12 (Ml 6), ai_ cy (rl 7) 12 (Ml 7), ai_ cy (rl 8) 12 (Ml 8), ai_ cy (rl 9) 12 (Ml 9), ai_ cy (rl 10) 12 (Ml 10), ai_ cy (rl 11) 12 (Ml 11)])) (va_Qv (fun (_ : Unit) => True) (fun (_ : Unit) (t : State) => ∃ (v7 : Int32), ∃ (v8 : Int32), (dS_ (wN (zM Ml) vp.toNatClampNeg) bN (a2.toNatClampNeg + 2 ^ (a1.toInt + 1).toNat) v7 v8) ∧ va_P D vwCl [ob7_0_ xh xc u1 u2 u3 u4 u5 u6 v7 v8, ob0_0_ xc xn xk clo cro c4 c5 c6 c7 c8, ob3_0_ xn vp vn n1 n2 n3 n4 n5, aq_ cy 6 clo 12 (gf_ rl), ai_ cy (rl 0) 12 (Ml 0), ai_ cy (rl 1) 12 (Ml 1), ai_ cy (rl 2) 12 (Ml 2), ai_ cy (rl 3) 12 (Ml 3), ai_ cy (rl 4) 12 (Ml 4), ai_ cy (rl 5) 12 (Ml 5), ai_ cy (rl 6) 12 (Ml 6), ai_ cy (rl 7) 12 (Ml 7), ai_ cy (rl 8) 12 (Ml 8), ai_ cy (rl 9) 12 (Ml 9), ai_ cy (rl 10) 12 (Ml 10), ai_ cy (rl 11) 12 (Ml 11)] t.heap ∧ va_D (va_A [ob7_0_ xh xc u1 u2 u3 u4 u5 u6 u7 u8, ob0_0_ xc xn xk clo cro c4 c5 c6 c7 c8, ob3_0_ xn vp vn n1 n2 n3 n4 n5, aq_ cy 6 clo 12 (gf_ rl), ai_ cy (rl 0) 12 (Ml 0), ai_ cy (rl 1) 12 (Ml 1), ai_ cy (rl 2) 12 (Ml 2), ai_ cy (rl 3) 12 (Ml 3), ai_ cy (rl 4) 12 (Ml 4), ai_ cy (rl 5) 12 (Ml 5), ai_ cy (rl 6) 12 (Ml 6), ai_ cy (rl 7) 12 (Ml 7), ai_ cy (rl 8) 12 (Ml 8), ai_ cy (rl 9) 12 (Ml 9), ai_ cy (rl 10) 12 (Ml 10), ai_ cy (rl 11) 12 (Ml 11)] sz) [ob7_0_ xh xc u1 u2 u3 u4 u5 u6 v7 v8, ob0_0_ xc xn xk clo cro c4 c5 c6 c7 c8, ob3_0_ xn vp vn n1 n2 n3 n4 n5, aq_ cy 6 clo 12 (gf_ rl), ai_ cy (rl 0) 12 (Ml 0), ai_ cy (rl 1) 12 (Ml 1), ai_ cy (rl 2) 12 (Ml 2), ai_ cy (rl 3) 12 (Ml 3), ai_ cy (rl 4) 12 (Ml 4), ai_ cy (rl 5) 12 (Ml 5), ai_ cy (rl 6) 12 (Ml 6), ai_ cy (rl 7) 12 (Ml 7), ai_ cy (rl 8) 12 (Ml 8), ai_ cy (rl 9) 12 (Ml 9), ai_ cy (rl 10) 12 (Ml 10), ai_ cy (rl 11) 12 (Ml 11)]) (va_A [ob7_0_ xh xc u1 u2 u3 u4 u5 u6 u7 u8, ob0_0_ xc xn xk clo cro c4 c5 c6 c7 c8, ob3_0_ xn vp vn n1 n2 n3 n4 n5, aq_ cy 6 clo 12 (gf_ rl), ai_ cy (rl 0) 12 (Ml 0), ai_ cy (rl 1) 12 (Ml 1), ai_ cy (rl 2) 12 (Ml 2), ai_ cy (rl 3) 12 (Ml 3), ai_ cy (rl 4) 12 (Ml 4), ai_ cy (rl 5) 12 (Ml 5), ai_ cy (rl 6) 12 (Ml 6), ai_ cy (rl 7) 12 (Ml 7), ai_ cy (rl 8) 12 (Ml 8), ai_ cy (rl 9) 12 (Ml 9), ai_ cy (rl 10) 12 (Ml 10), ai_ cy (rl 11) 12 (Ml 11)] sz)) 0 0 (va_A [ob7_0_ xh xc u1 u2 u3 u4 u5 u6 u7 u8, ob0_0_ xc xn xk clo cro c4 c5 c6 c7 c8, ob3_0_ xn vp vn n1 n2 n3 n4 n5, aq_ cy 6 clo 12 (gf_ rl), ai_ cy (rl 0) 12 (Ml 0), ai_ cy (rl 1) 12 (Ml 1), ai_ cy (rl 2) 12 (Ml 2), ai_ cy (rl 3) 12 (Ml 3), ai_ cy (rl 4) 12 (Ml 4), ai_ cy (rl 5) 12 (Ml 5), ai_ cy (rl 6) 12 (Ml 6), ai_ cy (rl 7) 12 (Ml 7), ai_ cy (rl 8) 12 (Ml 8), ai_ cy (rl 9) 12 (Ml 9), ai_ cy (rl 10) 12 (Ml 10), ai_ cy (rl 11) 12 (Ml 11)] sz) := by
  refine ofQ (cc := cX7_chooseForDense) (maxL := 4) (ret := none) (by decide) rfl ?_
  intro p e s m args below meth c s₁ Q hQ B hml hv
  obtain ⟨rfl, hsz, hP, hK, hD0⟩ := hv
  have hG := hK.2
  have hK := hK.1
  have hx := B.exec
  have hb := B.bytes
  have hr := B.returns
  have hts := atoms_spec (ws := wsX7_chooseForDense) B.pre
  have hown : s.vm.findClass RX7 = some m.cls := by have h_ := findClass_of_methodNamed B.named; exact h_
  have hlocks := B.notSynchronized
  subst hsz
  have hD := hD0.self (sz := s.heap.size)
  generalize hAe : va_A [ob7_0_ xh xc u1 u2 u3 u4 u5 u6 u7 u8, ob0_0_ xc xn xk clo cro c4 c5 c6 c7 c8, ob3_0_ xn vp vn n1 n2 n3 n4 n5, aq_ cy 6 clo 12 (gf_ rl), ai_ cy (rl 0) 12 (Ml 0), ai_ cy (rl 1) 12 (Ml 1), ai_ cy (rl 2) 12 (Ml 2), ai_ cy (rl 3) 12 (Ml 3), ai_ cy (rl 4) 12 (Ml 4), ai_ cy (rl 5) 12 (Ml 5), ai_ cy (rl 6) 12 (Ml 6), ai_ cy (rl 7) 12 (Ml 7), ai_ cy (rl 8) 12 (Ml 8), ai_ cy (rl 9) 12 (Ml 9), ai_ cy (rl 10) 12 (Ml 10), ai_ cy (rl 11) 12 (Ml 11)] s.heap.size = A at hD hQ
  have hA : ∀ q : Nat, s.heap.size ≤ q → A q := fun q h => by rw [← hAe]; exact Or.inr h
  have hS : va_S A s.heap s.heap [] := va_S.rf
  have hl := lv_entry ([.ref xh, .int a1, .int a2, .int a3]) (n := 4) (Nat.le_of_ble_eq_true rfl)
  rw [lg_entry_eq]
  generalize (lg_sl ([.ref xh, .int a1, .int a2, .int a3]) ++ List.replicate (4 - (lg_sl ([.ref xh, .int a1, .int a2, .int a3])).length) Slot.unset).toArray = ls at hl ⊢
  have hl : lv_has ls 4 [(0, .ref xh), (1, .int a1), (2, .int a2), (3, .int a3)] := hl
  have z0 : (0 : Int32).toInt = 0 := by decide
  have z1 : (1 : Int32).toInt = 1 := by decide
  have cv_ := clI (i := vp) (by omega)
  have hnn_ : ∀ x y : Nat, x < vp.toNatClampNeg → y < vp.toNatClampNeg → 0 ≤ zM Ml x y := fun x y hx hy => (hM x y hx hy).1
  have ha3_ := hdn_bd hh (by omega) hnn_ hB
  have h7r_ : 0 ≤ u7.toInt ∧ u7.toInt < 4096 := by have h1_ := hs.1; have h2_ := dnz_lt (W := (wN (zM Ml) vp.toNatClampNeg)) (b := bN) a2.toNatClampNeg; have h3_ := hnt_lt (hdn_hnt hh) (by omega); omega
  refine lv_iload_n hx hb dB_36_1_62.1.1.1.1 rfl (lv_at hl 1 rfl) ?_
  refine lv_if_ge (tgt := 11) hx hb dB_36_1_62.1.1.1.2 (by decide) (fun c_1 => ?_) (fun c_1 => ?_)
  · have t_1 : (0 : Int32).toInt ≤ a1.toInt := Int32.le_iff_toInt_le.mp c_1
    have cp_ := clI (i := a1) (by omega)
    have hK_ : (a1.toInt + 1).toNat = a1.toNatClampNeg + 1 := by omega
    have hh1_ : hdn (zM Ml) vp.toNatClampNeg (a1.toNatClampNeg + 1) a2 a3.toInt := by rw [hK_] at hh; exact hh
    have hap_ : a1.toInt < vp.toInt := by have h_ := hh1_.1; omega
    refine lv_aload_n hx hb dB_36_1_62.1.2.2.2 rfl (lv_at hl 0 rfl) ?_
    refine lv_iload_n hx hb dB_36_1_62.2.1.1.1 rfl (lv_at hl 1 rfl) ?_
    refine lv_iconst (v := 1) hx hb dB_36_1_62.2.1.1.2 (by decide) ?_
    refine lv_isub hx hb dB_36_1_62.2.1.2.1 ?_
    refine lv_topi (fun y_2 ey_2 => ?_)
    have ty_2 : y_2.toInt = a1.toInt - (1 : Int32).toInt := by rw [ey_2]; exact subI (by omega) (by omega)
    refine lv_iload_n hx hb dB_36_1_62.2.1.2.2 rfl (lv_at hl 2 rfl) ?_
    refine lv_iload_n hx hb dB_36_1_62.2.2.1.1 rfl (lv_at hl 3 rfl) ?_
    have hKr_ : (y_2.toInt + 1).toNat = a1.toNatClampNeg := by omega
    have hrh_ : hdn (zM Ml) vp.toNatClampNeg (y_2.toInt + 1).toNat a2 a3.toInt := by rw [hKr_]; exact hdn_out hh1_
    refine ct_S hP hD hS hA [ob7_0_ xh xc u1 u2 u3 u4 u5 u6 u7 u8, ob0_0_ xc xn xk clo cro c4 c5 c6 c7 c8, ob3_0_ xn vp vn n1 n2 n3 n4 n5, aq_ cy 6 clo 12 (gf_ rl), ai_ cy (rl 0) 12 (Ml 0), ai_ cy (rl 1) 12 (Ml 1), ai_ cy (rl 2) 12 (Ml 2), ai_ cy (rl 3) 12 (Ml 3), ai_ cy (rl 4) 12 (Ml 4), ai_ cy (rl 5) 12 (Ml 5), ai_ cy (rl 6) 12 (Ml 6), ai_ cy (rl 7) 12 (Ml 7), ai_ cy (rl 8) 12 (Ml 8), ai_ cy (rl 9) 12 (Ml 9), ai_ cy (rl 10) 12 (Ml 10), ai_ cy (rl 11) 12 (Ml 11)] [0, 1, 2, 3, 4, 5, 6, 7, 8, 9, 10, 11, 12, 13, 14, 15] (by decide +kernel) rfl (fun hPc hDw hFc hC_ => ?_)
    refine va_callv (va_runV (As := [.int y_2, .int a2, .int a3]) (rest := []) ⟨hx, hb, hml, hown, hts⟩ (c_X7_chooseForDense2_3 l D cy s.heap.size xh u1 u2 u3 u4 u5 u6 u7 u8 xc xk clo cro c4 c5 c6 c7 c8 xn n1 n2 n3 n4 n5 vp vn rl Ml y_2 a2 a3 (by first | with_reducible assumption | omega | assumption) (by first | with_reducible assumption | omega | assumption) (by first | with_reducible assumption | assumption | omega) (by first | with_reducible assumption | assumption | omega) (by first | with_reducible assumption | omega | assumption) (by first | with_reducible assumption | assumption | omega) (by first | with_reducible assumption | assumption | omega)) (cwV 3 hts gX7_chooseForDense_X7_chooseForDense rfl rfl rfl ⟨rfl, hd_X7_chooseForDense⟩ ⟨Nat.le_of_ble_eq_true rfl, Nat.le_of_ble_eq_true rfl⟩) ⟨bl_g, va_recvX hK.1 hP (ci := 7) (q0 := 0) rfl rfl, fun U hU hW => ⟨rfl, by rw [hU], by rw [hU]; exact hPc, ⟨kk_mv hW hK, arrOfT_moved hW.alike hG⟩, hDw⟩⟩ rfl rfl hl.1 rfl (lv_room (Nat.le_of_ble_eq_true rfl)) dB_36_1_62.2.2.1.2 ⟨Nat.le_of_ble_eq_true rfl, Nat.le_of_ble_eq_true rfl⟩) hS (fun q _ h => hFc q h) hFc (fun u t H locs ht hvm hw hB hz1 hk1 hS => ?_)
    obtain ⟨v7_4, v8_5, g_6, hP1, hD1⟩ := hB
    rw [ht] at hP1
    obtain ⟨hP, hD⟩ := va_join (wr := []) (w1 := [ob7_0_ xh xc u1 u2 u3 u4 u5 u6 v7_4 v8_5, ob0_0_ xc xn xk clo cro c4 c5 c6 c7 c8, ob3_0_ xn vp vn n1 n2 n3 n4 n5, aq_ cy 6 clo 12 (gf_ rl), ai_ cy (rl 0) 12 (Ml 0), ai_ cy (rl 1) 12 (Ml 1), ai_ cy (rl 2) 12 (Ml 2), ai_ cy (rl 3) 12 (Ml 3), ai_ cy (rl 4) 12 (Ml 4), ai_ cy (rl 5) 12 (Ml 5), ai_ cy (rl 6) 12 (Ml 6), ai_ cy (rl 7) 12 (Ml 7), ai_ cy (rl 8) 12 (Ml 8), ai_ cy (rl 9) 12 (Ml 9), ai_ cy (rl 10) 12 (Ml 10), ai_ cy (rl 11) 12 (Ml 11)]) hP hD [0, 1, 2, 3, 4, 5, 6, 7, 8, 9, 10, 11, 12, 13, 14, 15] [] hC_ rfl (by decide) (by decide) hk1 hFc hP1 hD1
    refine pd_K [ob7_0_ xh xc u1 u2 u3 u4 u5 u6 v7_4 v8_5, ob0_0_ xc xn xk clo cro c4 c5 c6 c7 c8, ob3_0_ xn vp vn n1 n2 n3 n4 n5, aq_ cy 6 clo 12 (gf_ rl), ai_ cy (rl 0) 12 (Ml 0), ai_ cy (rl 1) 12 (Ml 1), ai_ cy (rl 2) 12 (Ml 2), ai_ cy (rl 3) 12 (Ml 3), ai_ cy (rl 4) 12 (Ml 4), ai_ cy (rl 5) 12 (Ml 5), ai_ cy (rl 6) 12 (Ml 6), ai_ cy (rl 7) 12 (Ml 7), ai_ cy (rl 8) 12 (Ml 8), ai_ cy (rl 9) 12 (Ml 9), ai_ cy (rl 10) 12 (Ml 10), ai_ cy (rl 11) 12 (Ml 11)] hP hD (fun hP hD => ?_)
    have hs1_ := dS_to g_6 (show _ = a2.toNatClampNeg + 2 ^ a1.toNatClampNeg by rw [hKr_])
    refine lv_aload_n hx hb dB_36_1_62.2.2.2.1 rfl (lv_at hl 0 rfl) ?_
    refine lv_iload_n hx hb dB_36_1_62.2.2.2.2 rfl (lv_at hl 1 rfl) ?_
    refine lv_iconst (v := 1) hx hb dB_36_1_63.1.1.1 (by decide) ?_
    refine lv_isub hx hb dB_36_1_63.1.1.2.1 ?_
    refine lv_topi (fun y_7 ey_7 => ?_)
    have e_ := (ey_7.trans ey_2.symm).symm
    subst e_
    refine lv_iload_n hx hb dB_36_1_63.1.1.2.2 rfl (lv_at hl 2 rfl) ?_
    refine lv_iconst (v := 1) hx hb dB_36_1_63.1.2.1.1 (by decide) ?_
    refine lv_iload_n hx hb dB_36_1_63.1.2.1.2 rfl (lv_at hl 1 rfl) ?_
    refine lv_ishl hx hb dB_36_1_63.1.2.2.1 ?_
    refine lv_topi (fun y_8 ey_8 => ?_)
    refine lv_ior hx hb dB_36_1_63.1.2.2.2 ?_
    refine lv_topi (fun y_9 ey_9 => ?_)
    refine lv_iload_n hx hb dB_36_1_63.2.1.1.1 rfl (lv_at hl 3 rfl) ?_
    refine lv_aload_n hx hb dB_36_1_63.2.1.1.2 rfl (lv_at hl 0 rfl) ?_
    refine lv_iload_n hx hb dB_36_1_63.2.1.2.1 rfl (lv_at hl 1 rfl) ?_
    refine lv_iload_n hx hb dB_36_1_63.2.1.2.2 rfl (lv_at hl 2 rfl) ?_
    refine ct_R hP hD [ob7_0_ xh xc u1 u2 u3 u4 u5 u6 v7_4 v8_5, ob0_0_ xc xn xk clo cro c4 c5 c6 c7 c8, ob3_0_ xn vp vn n1 n2 n3 n4 n5, aq_ cy 6 clo 12 (gf_ rl), ai_ cy (rl 0) 12 (Ml 0), ai_ cy (rl 1) 12 (Ml 1), ai_ cy (rl 2) 12 (Ml 2), ai_ cy (rl 3) 12 (Ml 3), ai_ cy (rl 4) 12 (Ml 4), ai_ cy (rl 5) 12 (Ml 5), ai_ cy (rl 6) 12 (Ml 6), ai_ cy (rl 7) 12 (Ml 7), ai_ cy (rl 8) 12 (Ml 8), ai_ cy (rl 9) 12 (Ml 9), ai_ cy (rl 10) 12 (Ml 10), ai_ cy (rl 11) 12 (Ml 11)] [0, 1, 2, 3, 4, 5, 6, 7, 8, 9, 10, 11, 12, 13, 14, 15] (by decide +kernel) rfl (fun hPc hDw => ?_)
    have hFc := va_free (wc := []) hD hS hA [] rfl
    refine va_calli (va_runV (As := [.int a1, .int a2]) (rest := [.int a3, .int y_9, .int y_2, .ref xh]) ⟨hx, hb, hml, hown, hts⟩ (c_X7_letIn2 l D cy H.size xh u1 u2 u3 u4 u5 u6 v7_4 v8_5 xc xk clo cro c4 c5 c6 c7 c8 xn n1 n2 n3 n4 n5 vp vn rl Ml a1 a2 (by first | with_reducible assumption | omega | assumption) (by first | with_reducible assumption | omega | assumption) (by first | with_reducible assumption | assumption | omega)) (cwV 2 hts gX7_chooseForDense_X7_letIn rfl rfl rfl ⟨rfl, hd_X7_letIn⟩ ⟨Nat.le_of_ble_eq_true rfl, Nat.le_of_ble_eq_true rfl⟩) ⟨bl_g, va_recvX hK.1 hP (ci := 7) (q0 := 0) rfl rfl, fun U hU hW => ⟨rfl, by rw [hU], by rw [hU]; exact hPc, ⟨kk_mv hW hK, arrOfT_moved hW.alike hG⟩, hDw⟩⟩ rfl rfl hl.1 rfl (lv_room (Nat.le_of_ble_eq_true rfl)) dB_36_1_63.2.2.1.1 ⟨Nat.le_of_ble_eq_true rfl, Nat.le_of_ble_eq_true rfl⟩) hS (fun q _ h => hFc q h) hFc (fun r_10 u t H locs ht hvm hw hB hz1 hk1 hS => ?_)
    have hP : va_P D vwCl _ H := ro_keep hP hk1
    obtain ⟨f0_r_10, f1_r_10⟩ := hw
    refine lv_iadd hx hb dB_36_1_63.2.2.1.2 ?_
    refine lv_topi (fun y_11 ey_11 => ?_)
    have ty_11 : y_11.toInt = a3.toInt + r_10.toInt := by rw [ey_11]; exact addI (by omega) (by omega)
    have hKq_ : (y_2.toInt + 1).toNat = a1.toNatClampNeg := by omega
    have hin_ := hdn_in hh1_ (by omega) (by omega) ey_8 ey_9 ty_11 f0_r_10
    have hrh2_ : hdn (zM Ml) vp.toNatClampNeg (y_2.toInt + 1).toNat y_9 y_11.toInt := by rw [hKq_]; exact hin_.1
    have hrs_ : dS_ (wN (zM Ml) vp.toNatClampNeg) bN y_9.toNatClampNeg v7_4 v8_5 := dS_to hs1_ hin_.2.symm
    refine ct_S hP hD hS hA [ob7_0_ xh xc u1 u2 u3 u4 u5 u6 v7_4 v8_5, ob0_0_ xc xn xk clo cro c4 c5 c6 c7 c8, ob3_0_ xn vp vn n1 n2 n3 n4 n5, aq_ cy 6 clo 12 (gf_ rl), ai_ cy (rl 0) 12 (Ml 0), ai_ cy (rl 1) 12 (Ml 1), ai_ cy (rl 2) 12 (Ml 2), ai_ cy (rl 3) 12 (Ml 3), ai_ cy (rl 4) 12 (Ml 4), ai_ cy (rl 5) 12 (Ml 5), ai_ cy (rl 6) 12 (Ml 6), ai_ cy (rl 7) 12 (Ml 7), ai_ cy (rl 8) 12 (Ml 8), ai_ cy (rl 9) 12 (Ml 9), ai_ cy (rl 10) 12 (Ml 10), ai_ cy (rl 11) 12 (Ml 11)] [0, 1, 2, 3, 4, 5, 6, 7, 8, 9, 10, 11, 12, 13, 14, 15] (by decide +kernel) rfl (fun hPc hDw hFc hC_ => ?_)
    refine va_callv (va_runV (As := [.int y_2, .int y_9, .int y_11]) (rest := []) ⟨hx, hb, hml, hown, hts⟩ (c_X7_chooseForDense2_3 l D cy H.size xh u1 u2 u3 u4 u5 u6 v7_4 v8_5 xc xk clo cro c4 c5 c6 c7 c8 xn n1 n2 n3 n4 n5 vp vn rl Ml y_2 y_9 y_11 (by first | with_reducible assumption | omega | assumption) (by first | with_reducible assumption | omega | assumption) (by first | with_reducible assumption | assumption | omega) (by first | with_reducible assumption | assumption | omega) (by first | with_reducible assumption | omega | assumption) (by first | with_reducible assumption | assumption | omega) (by first | with_reducible assumption | assumption | omega)) (cwV 3 hts gX7_chooseForDense_X7_chooseForDense rfl rfl rfl ⟨rfl, hd_X7_chooseForDense⟩ ⟨Nat.le_of_ble_eq_true rfl, Nat.le_of_ble_eq_true rfl⟩) ⟨bl_g, va_recvX hK.1 hP (ci := 7) (q0 := 0) rfl rfl, fun U hU hW => ⟨rfl, by rw [hU], by rw [hU]; exact hPc, ⟨kk_mv hW hK, arrOfT_moved hW.alike hG⟩, hDw⟩⟩ rfl rfl hl.1 rfl (lv_room (Nat.le_of_ble_eq_true rfl)) dB_36_1_63.2.2.2.1 ⟨Nat.le_of_ble_eq_true rfl, Nat.le_of_ble_eq_true rfl⟩) hS (fun q _ h => hFc q h) hFc (fun u t H locs ht hvm hw hB hz1 hk1 hS => ?_)
    obtain ⟨v7_13, v8_14, g_15, hP1, hD1⟩ := hB
    rw [ht] at hP1
    obtain ⟨hP, hD⟩ := va_join (wr := []) (w1 := [ob7_0_ xh xc u1 u2 u3 u4 u5 u6 v7_13 v8_14, ob0_0_ xc xn xk clo cro c4 c5 c6 c7 c8, ob3_0_ xn vp vn n1 n2 n3 n4 n5, aq_ cy 6 clo 12 (gf_ rl), ai_ cy (rl 0) 12 (Ml 0), ai_ cy (rl 1) 12 (Ml 1), ai_ cy (rl 2) 12 (Ml 2), ai_ cy (rl 3) 12 (Ml 3), ai_ cy (rl 4) 12 (Ml 4), ai_ cy (rl 5) 12 (Ml 5), ai_ cy (rl 6) 12 (Ml 6), ai_ cy (rl 7) 12 (Ml 7), ai_ cy (rl 8) 12 (Ml 8), ai_ cy (rl 9) 12 (Ml 9), ai_ cy (rl 10) 12 (Ml 10), ai_ cy (rl 11) 12 (Ml 11)]) hP hD [0, 1, 2, 3, 4, 5, 6, 7, 8, 9, 10, 11, 12, 13, 14, 15] [] hC_ rfl (by decide) (by decide) hk1 hFc hP1 hD1
    refine pd_K [ob7_0_ xh xc u1 u2 u3 u4 u5 u6 v7_13 v8_14, ob0_0_ xc xn xk clo cro c4 c5 c6 c7 c8, ob3_0_ xn vp vn n1 n2 n3 n4 n5, aq_ cy 6 clo 12 (gf_ rl), ai_ cy (rl 0) 12 (Ml 0), ai_ cy (rl 1) 12 (Ml 1), ai_ cy (rl 2) 12 (Ml 2), ai_ cy (rl 3) 12 (Ml 3), ai_ cy (rl 4) 12 (Ml 4), ai_ cy (rl 5) 12 (Ml 5), ai_ cy (rl 6) 12 (Ml 6), ai_ cy (rl 7) 12 (Ml 7), ai_ cy (rl 8) 12 (Ml 8), ai_ cy (rl 9) 12 (Ml 9), ai_ cy (rl 10) 12 (Ml 10), ai_ cy (rl 11) 12 (Ml 11)] hP hD (fun hP hD => ?_)
    rw [hQ]
    exact W.vret hx hb hr (fun t ht hW => ⟨⟨(), rfl, trivial, v7_13, v8_14, (dS_to g_15 (by rw [hKq_, hin_.2, pw_K hK_]; omega)), by rw [ht]; exact hP, hD⟩, hS.F ht⟩) hS.2.2 dB_36_1_63.2.2.2.2
  · have t_1 : ¬ (0 : Int32).toInt ≤ a1.toInt := fun h => c_1 (Int32.le_iff_toInt_le.mpr h)
    have hK_ : (a1.toInt + 1).toNat = 0 := by omega
    have hh0_ : hdn (zM Ml) vp.toNatClampNeg 0 a2 a3.toInt := by rw [hK_] at hh; exact hh
    have hlf_ := hdn_leaf hh0_ (by omega)
    have cA2_ := clI (i := a2) (by omega)
    have hsm_ := hlf_.1
    refine lv_aload_n hx hb dB_36_1_62.1.1.2.1 rfl (lv_at hl 0 rfl) ?_
    refine lv_iload_n hx hb dB_36_1_62.1.1.2.2 rfl (lv_at hl 2 rfl) ?_
    refine lv_iload_n hx hb dB_36_1_62.1.2.1.1 rfl (lv_at hl 3 rfl) ?_
    refine ct_S hP hD hS hA [ob7_0_ xh xc u1 u2 u3 u4 u5 u6 u7 u8] [0] (by decide) rfl (fun hPc hDw hFc hC_ => ?_)
    refine va_callv (va_runV (As := [.int a2, .int a3]) (rest := []) ⟨hx, hb, hml, hown, hts⟩ (c_X7_compareDense2 l D cy s.heap.size xh u1 u2 u3 u4 u5 u6 u7 u8 xc (wN (zM Ml) vp.toNatClampNeg) a2 a3 (by first | with_reducible assumption | omega | assumption) (by first | with_reducible assumption | assumption | omega) (by first | with_reducible assumption | assumption | omega) (by first | with_reducible assumption | assumption | omega) (by first | with_reducible assumption | omega | assumption) (by first | with_reducible assumption | omega | assumption)) (cwV 2 hts gX7_chooseForDense_X7_compareDense rfl rfl rfl ⟨rfl, hd_X7_compareDense⟩ ⟨Nat.le_of_ble_eq_true rfl, Nat.le_of_ble_eq_true rfl⟩) ⟨bl_, va_recvX hK.1 hP (ci := 7) (q0 := 0) rfl rfl, fun U hU hW => ⟨rfl, by rw [hU], by rw [hU]; exact hPc, kk_mv hW hK, hDw⟩⟩ rfl rfl hl.1 rfl (lv_room (Nat.le_of_ble_eq_true rfl)) dB_36_1_62.1.2.1.2 ⟨Nat.le_of_ble_eq_true rfl, Nat.le_of_ble_eq_true rfl⟩) hS (fun q _ h => hFc q h) hFc (fun u t H locs ht hvm hw hB hz1 hk1 hS => ?_)
    obtain ⟨v7_17, v8_18, g_19, hP1, hD1⟩ := hB
    rw [ht] at hP1
    obtain ⟨hP, hD⟩ := va_join (wr := [ob0_0_ xc xn xk clo cro c4 c5 c6 c7 c8, ob3_0_ xn vp vn n1 n2 n3 n4 n5, aq_ cy 6 clo 12 (gf_ rl), ai_ cy (rl 0) 12 (Ml 0), ai_ cy (rl 1) 12 (Ml 1), ai_ cy (rl 2) 12 (Ml 2), ai_ cy (rl 3) 12 (Ml 3), ai_ cy (rl 4) 12 (Ml 4), ai_ cy (rl 5) 12 (Ml 5), ai_ cy (rl 6) 12 (Ml 6), ai_ cy (rl 7) 12 (Ml 7), ai_ cy (rl 8) 12 (Ml 8), ai_ cy (rl 9) 12 (Ml 9), ai_ cy (rl 10) 12 (Ml 10), ai_ cy (rl 11) 12 (Ml 11)]) (w1 := [ob7_0_ xh xc u1 u2 u3 u4 u5 u6 v7_17 v8_18]) hP hD [0] [1, 2, 3, 4, 5, 6, 7, 8, 9, 10, 11, 12, 13, 14, 15] hC_ rfl (by decide +kernel) (by decide +kernel) hk1 hFc hP1 hD1
    refine pd_S hP hD [ob7_0_ xh xc u1 u2 u3 u4 u5 u6 v7_17 v8_18, ob0_0_ xc xn xk clo cro c4 c5 c6 c7 c8, ob3_0_ xn vp vn n1 n2 n3 n4 n5, aq_ cy 6 clo 12 (gf_ rl), ai_ cy (rl 0) 12 (Ml 0), ai_ cy (rl 1) 12 (Ml 1), ai_ cy (rl 2) 12 (Ml 2), ai_ cy (rl 3) 12 (Ml 3), ai_ cy (rl 4) 12 (Ml 4), ai_ cy (rl 5) 12 (Ml 5), ai_ cy (rl 6) 12 (Ml 6), ai_ cy (rl 7) 12 (Ml 7), ai_ cy (rl 8) 12 (Ml 8), ai_ cy (rl 9) 12 (Ml 9), ai_ cy (rl 10) 12 (Ml 10), ai_ cy (rl 11) 12 (Ml 11)] [15, 0, 1, 2, 3, 4, 5, 6, 7, 8, 9, 10, 11, 12, 13, 14] (by decide +kernel) rfl (fun hP hD => ?_)
    rw [hQ]
    exact W.vret hx hb hr (fun t ht hW => ⟨⟨(), rfl, trivial, v7_17, v8_18, (dS_to g_19 (by rw [hK_])), by rw [ht]; exact hP, hD⟩, hS.F ht⟩) hS.2.2 dB_36_1_62.1.2.2.1

set_option maxHeartbeats 4000000 in
set_option maxRecDepth 100000 in
theorem c_X7_chooseForDense2_5 (l : Launch) (D : va_G) (cy : Nat → ClassId) (sz : Nat) (xh : Nat) (u1 : Int32) (u2 : Int32) (u3 : Int32) (u4 : Int32) (u5 : Int32) (u6 : Int32) (u7 : Int32) (u8 : Int32) (xc : Nat) (xk : Nat) (clo : Nat) (cro : Nat) (c4 : Nat) (c5 : Nat) (c6 : Nat) (c7 : Nat) (c8 : Nat) (xn : Nat) (n1 : Nat) (n2 : Nat) (n3 : Nat) (n4 : Nat) (n5 : Nat) (vp : Int32) (vn : Int32) (rl : Nat → Nat) (Ml : Nat → Nat → Int32) (a1 : Int32) (a2 : Int32) (a3 : Int32) (hvp : 0 ≤ vp.toInt ∧ vp.toInt ≤ 12) (q1 : -1 ≤ a1.toInt ∧ a1.toInt < 5) (hM : ∀ x y : Nat, x < vp.toNatClampNeg → y < vp.toNatClampNeg → 0 ≤ zM Ml x y ∧ zM Ml x y ≤ 80000000) (hB : ∀ n : Nat, 0 ≤ wN (zM Ml) vp.toNatClampNeg n ∧ wN (zM Ml) vp.toNatClampNeg n ≤ 100000) (hB0 : wN (zM Ml) vp.toNatClampNeg 0 = 0) (hh : hdn (zM Ml) vp.toNatClampNeg (a1.toInt + 1).toNat a2 a3.toInt) (hs : dS_ (wN (zM Ml) vp.toNatClampNeg) bN a2.toNatClampNeg u7 u8) : Met l yX7_chooseForDense wsX7_chooseForDense ({ frames := 7, cells := 0, slots := 0, locals := 161 }) (va_Pc [.ref xh, .int a1, .int a2, .int a3] (fun U => U.heap.size = sz ∧ va_P D vwCl [ob7_0_ xh xc u1 u2 u3 u4 u5 u6 u7 u8, ob0_0_ xc xn xk clo cro c4 c5 c6 c7 c8, ob3_0_ xn vp vn n1 n2 n3 n4 n5, aq_ cy 6 clo 12 (gf_ rl), ai_ cy (rl 0) 12 (Ml 0), ai_ cy (rl 1) 12 (Ml 1), ai_ cy (rl 2) 12 (Ml 2), ai_ cy (rl 3) 12 (Ml 3), ai_ cy (rl 4) 12 (Ml 4), ai_ cy (rl 5) 12 (Ml 5), ai_ cy (rl 6) 12 (Ml 6), ai_ cy (rl 7) 12 (Ml 7), ai_ cy (rl 8) 12 (Ml 8), ai_ cy (rl 9) 12 (Ml 9), ai_ cy (rl 10) 12 (Ml 10), ai_ cy (rl 11) 12 (Ml 11)] U.heap ∧ kg_ D cy U ∧ va_D (fun _ => True) [ob7_0_ xh xc u1 u2 u3 u4 u5 u6 u7 u8, ob0_0_ xc xn xk clo cro c4 c5 c6 c7 c8, ob3_0_ xn vp vn n1 n2 n3 n4 n5, aq_ cy 6 clo 12 (gf_ rl), ai_ cy (rl 0) 12 (Ml 0), ai_ cy (rl 1) 12 (Ml 1), ai_ cy (rl 2) 12 (Ml 2), ai_ cy (rl 3) 12 (Ml 3), ai_ cy (rl 4) 12 (Ml 4), ai_ cy (rl 5) 12 (Ml 5), ai_ cy (rl 6) 12 (Ml 6), ai_ cy (rl 7) 12 (Ml 7), ai_ cy (rl 8) 12 (Ml 8), ai_ cy (rl 9) 12 (Ml 9), ai_ cy (rl 10) 12 (Ml 10), ai_ cy (rl 11) 12 (Ml 11)])) (va_Qv (fun (_ : Unit) => True) (fun (_ : Unit) (t : State) => ∃ (v7 : Int32), ∃ (v8 : Int32), (dS_ (wN (zM Ml) vp.toNatClampNeg) bN (a2.toNatClampNeg + 2 ^ (a1.toInt + 1).toNat) v7 v8) ∧ va_P D vwCl [ob7_0_ xh xc u1 u2 u3 u4 u5 u6 v7 v8, ob0_0_ xc xn xk clo cro c4 c5 c6 c7 c8, ob3_0_ xn vp vn n1 n2 n3 n4 n5, aq_ cy 6 clo 12 (gf_ rl), ai_ cy (rl 0) 12 (Ml 0), ai_ cy (rl 1) 12 (Ml 1), ai_ cy (rl 2) 12 (Ml 2), ai_ cy (rl 3) 12 (Ml 3), ai_ cy (rl 4) 12 (Ml 4), ai_ cy (rl 5) 12 (Ml 5), ai_ cy (rl 6) 12 (Ml 6), ai_ cy (rl 7) 12 (Ml 7), ai_ cy (rl 8) 12 (Ml 8), ai_ cy (rl 9) 12 (Ml 9), ai_ cy (rl 10) 12 (Ml 10), ai_ cy (rl 11) 12 (Ml 11)] t.heap ∧ va_D (va_A [ob7_0_ xh xc u1 u2 u3 u4 u5 u6 u7 u8, ob0_0_ xc xn xk clo cro c4 c5 c6 c7 c8, ob3_0_ xn vp vn n1 n2 n3 n4 n5, aq_ cy 6 clo 12 (gf_ rl), ai_ cy (rl 0) 12 (Ml 0), ai_ cy (rl 1) 12 (Ml 1), ai_ cy (rl 2) 12 (Ml 2), ai_ cy (rl 3) 12 (Ml 3), ai_ cy (rl 4) 12 (Ml 4), ai_ cy (rl 5) 12 (Ml 5), ai_ cy (rl 6) 12 (Ml 6), ai_ cy (rl 7) 12 (Ml 7), ai_ cy (rl 8) 12 (Ml 8), ai_ cy (rl 9) 12 (Ml 9), ai_ cy (rl 10) 12 (Ml 10), ai_ cy (rl 11) 12 (Ml 11)] sz) [ob7_0_ xh xc u1 u2 u3 u4 u5 u6 v7 v8, ob0_0_ xc xn xk clo cro c4 c5 c6 c7 c8, ob3_0_ xn vp vn n1 n2 n3 n4 n5, aq_ cy 6 clo 12 (gf_ rl), ai_ cy (rl 0) 12 (Ml 0), ai_ cy (rl 1) 12 (Ml 1), ai_ cy (rl 2) 12 (Ml 2), ai_ cy (rl 3) 12 (Ml 3), ai_ cy (rl 4) 12 (Ml 4), ai_ cy (rl 5) 12 (Ml 5), ai_ cy (rl 6) 12 (Ml 6), ai_ cy (rl 7) 12 (Ml 7), ai_ cy (rl 8) 12 (Ml 8), ai_ cy (rl 9) 12 (Ml 9), ai_ cy (rl 10) 12 (Ml 10), ai_ cy (rl 11) 12 (Ml 11)]) (va_A [ob7_0_ xh xc u1 u2 u3 u4 u5 u6 u7 u8, ob0_0_ xc xn xk clo cro c4 c5 c6 c7 c8, ob3_0_ xn vp vn n1 n2 n3 n4 n5, aq_ cy 6 clo 12 (gf_ rl), ai_ cy (rl 0) 12 (Ml 0), ai_ cy (rl 1) 12 (Ml 1), ai_ cy (rl 2) 12 (Ml 2), ai_ cy (rl 3) 12 (Ml 3), ai_ cy (rl 4) 12 (Ml 4), ai_ cy (rl 5) 12 (Ml 5), ai_ cy (rl 6) 12 (Ml 6), ai_ cy (rl 7) 12 (Ml 7), ai_ cy (rl 8) 12 (Ml 8), ai_ cy (rl 9) 12 (Ml 9), ai_ cy (rl 10) 12 (Ml 10), ai_ cy (rl 11) 12 (Ml 11)] sz)) 0 0 (va_A [ob7_0_ xh xc u1 u2 u3 u4 u5 u6 u7 u8, ob0_0_ xc xn xk clo cro c4 c5 c6 c7 c8, ob3_0_ xn vp vn n1 n2 n3 n4 n5, aq_ cy 6 clo 12 (gf_ rl), ai_ cy (rl 0) 12 (Ml 0), ai_ cy (rl 1) 12 (Ml 1), ai_ cy (rl 2) 12 (Ml 2), ai_ cy (rl 3) 12 (Ml 3), ai_ cy (rl 4) 12 (Ml 4), ai_ cy (rl 5) 12 (Ml 5), ai_ cy (rl 6) 12 (Ml 6), ai_ cy (rl 7) 12 (Ml 7), ai_ cy (rl 8) 12 (Ml 8), ai_ cy (rl 9) 12 (Ml 9), ai_ cy (rl 10) 12 (Ml 10), ai_ cy (rl 11) 12 (Ml 11)] sz) := by
  refine ofQ (cc := cX7_chooseForDense) (maxL := 4) (ret := none) (by decide) rfl ?_
  intro p e s m args below meth c s₁ Q hQ B hml hv
  obtain ⟨rfl, hsz, hP, hK, hD0⟩ := hv
  have hG := hK.2
  have hK := hK.1
  have hx := B.exec
  have hb := B.bytes
  have hr := B.returns
  have hts := atoms_spec (ws := wsX7_chooseForDense) B.pre
  have hown : s.vm.findClass RX7 = some m.cls := by have h_ := findClass_of_methodNamed B.named; exact h_
  have hlocks := B.notSynchronized
  subst hsz
  have hD := hD0.self (sz := s.heap.size)
  generalize hAe : va_A [ob7_0_ xh xc u1 u2 u3 u4 u5 u6 u7 u8, ob0_0_ xc xn xk clo cro c4 c5 c6 c7 c8, ob3_0_ xn vp vn n1 n2 n3 n4 n5, aq_ cy 6 clo 12 (gf_ rl), ai_ cy (rl 0) 12 (Ml 0), ai_ cy (rl 1) 12 (Ml 1), ai_ cy (rl 2) 12 (Ml 2), ai_ cy (rl 3) 12 (Ml 3), ai_ cy (rl 4) 12 (Ml 4), ai_ cy (rl 5) 12 (Ml 5), ai_ cy (rl 6) 12 (Ml 6), ai_ cy (rl 7) 12 (Ml 7), ai_ cy (rl 8) 12 (Ml 8), ai_ cy (rl 9) 12 (Ml 9), ai_ cy (rl 10) 12 (Ml 10), ai_ cy (rl 11) 12 (Ml 11)] s.heap.size = A at hD hQ
  have hA : ∀ q : Nat, s.heap.size ≤ q → A q := fun q h => by rw [← hAe]; exact Or.inr h
  have hS : va_S A s.heap s.heap [] := va_S.rf
  have hl := lv_entry ([.ref xh, .int a1, .int a2, .int a3]) (n := 4) (Nat.le_of_ble_eq_true rfl)
  rw [lg_entry_eq]
  generalize (lg_sl ([.ref xh, .int a1, .int a2, .int a3]) ++ List.replicate (4 - (lg_sl ([.ref xh, .int a1, .int a2, .int a3])).length) Slot.unset).toArray = ls at hl ⊢
  have hl : lv_has ls 4 [(0, .ref xh), (1, .int a1), (2, .int a2), (3, .int a3)] := hl
  have z0 : (0 : Int32).toInt = 0 := by decide
  have z1 : (1 : Int32).toInt = 1 := by decide
  have cv_ := clI (i := vp) (by omega)
  have hnn_ : ∀ x y : Nat, x < vp.toNatClampNeg → y < vp.toNatClampNeg → 0 ≤ zM Ml x y := fun x y hx hy => (hM x y hx hy).1
  have ha3_ := hdn_bd hh (by omega) hnn_ hB
  have h7r_ : 0 ≤ u7.toInt ∧ u7.toInt < 4096 := by have h1_ := hs.1; have h2_ := dnz_lt (W := (wN (zM Ml) vp.toNatClampNeg)) (b := bN) a2.toNatClampNeg; have h3_ := hnt_lt (hdn_hnt hh) (by omega); omega
  refine lv_iload_n hx hb dB_36_1_62.1.1.1.1 rfl (lv_at hl 1 rfl) ?_
  refine lv_if_ge (tgt := 11) hx hb dB_36_1_62.1.1.1.2 (by decide) (fun c_1 => ?_) (fun c_1 => ?_)
  · have t_1 : (0 : Int32).toInt ≤ a1.toInt := Int32.le_iff_toInt_le.mp c_1
    have cp_ := clI (i := a1) (by omega)
    have hK_ : (a1.toInt + 1).toNat = a1.toNatClampNeg + 1 := by omega
    have hh1_ : hdn (zM Ml) vp.toNatClampNeg (a1.toNatClampNeg + 1) a2 a3.toInt := by rw [hK_] at hh; exact hh
    have hap_ : a1.toInt < vp.toInt := by have h_ := hh1_.1; omega
    refine lv_aload_n hx hb dB_36_1_62.1.2.2.2 rfl (lv_at hl 0 rfl) ?_
    refine lv_iload_n hx hb dB_36_1_62.2.1.1.1 rfl (lv_at hl 1 rfl) ?_
    refine lv_iconst (v := 1) hx hb dB_36_1_62.2.1.1.2 (by decide) ?_
    refine lv_isub hx hb dB_36_1_62.2.1.2.1 ?_
    refine lv_topi (fun y_2 ey_2 => ?_)
    have ty_2 : y_2.toInt = a1.toInt - (1 : Int32).toInt := by rw [ey_2]; exact subI (by omega) (by omega)
    refine lv_iload_n hx hb dB_36_1_62.2.1.2.2 rfl (lv_at hl 2 rfl) ?_
    refine lv_iload_n hx hb dB_36_1_62.2.2.1.1 rfl (lv_at hl 3 rfl) ?_
    have hKr_ : (y_2.toInt + 1).toNat = a1.toNatClampNeg := by omega
    have hrh_ : hdn (zM Ml) vp.toNatClampNeg (y_2.toInt + 1).toNat a2 a3.toInt := by rw [hKr_]; exact hdn_out hh1_
    refine ct_S hP hD hS hA [ob7_0_ xh xc u1 u2 u3 u4 u5 u6 u7 u8, ob0_0_ xc xn xk clo cro c4 c5 c6 c7 c8, ob3_0_ xn vp vn n1 n2 n3 n4 n5, aq_ cy 6 clo 12 (gf_ rl), ai_ cy (rl 0) 12 (Ml 0), ai_ cy (rl 1) 12 (Ml 1), ai_ cy (rl 2) 12 (Ml 2), ai_ cy (rl 3) 12 (Ml 3), ai_ cy (rl 4) 12 (Ml 4), ai_ cy (rl 5) 12 (Ml 5), ai_ cy (rl 6) 12 (Ml 6), ai_ cy (rl 7) 12 (Ml 7), ai_ cy (rl 8) 12 (Ml 8), ai_ cy (rl 9) 12 (Ml 9), ai_ cy (rl 10) 12 (Ml 10), ai_ cy (rl 11) 12 (Ml 11)] [0, 1, 2, 3, 4, 5, 6, 7, 8, 9, 10, 11, 12, 13, 14, 15] (by decide +kernel) rfl (fun hPc hDw hFc hC_ => ?_)
    refine va_callv (va_runV (As := [.int y_2, .int a2, .int a3]) (rest := []) ⟨hx, hb, hml, hown, hts⟩ (c_X7_chooseForDense2_4 l D cy s.heap.size xh u1 u2 u3 u4 u5 u6 u7 u8 xc xk clo cro c4 c5 c6 c7 c8 xn n1 n2 n3 n4 n5 vp vn rl Ml y_2 a2 a3 (by first | with_reducible assumption | omega | assumption) (by first | with_reducible assumption | omega | assumption) (by first | with_reducible assumption | assumption | omega) (by first | with_reducible assumption | assumption | omega) (by first | with_reducible assumption | omega | assumption) (by first | with_reducible assumption | assumption | omega) (by first | with_reducible assumption | assumption | omega)) (cwV 3 hts gX7_chooseForDense_X7_chooseForDense rfl rfl rfl ⟨rfl, hd_X7_chooseForDense⟩ ⟨Nat.le_of_ble_eq_true rfl, Nat.le_of_ble_eq_true rfl⟩) ⟨bl_g, va_recvX hK.1 hP (ci := 7) (q0 := 0) rfl rfl, fun U hU hW => ⟨rfl, by rw [hU], by rw [hU]; exact hPc, ⟨kk_mv hW hK, arrOfT_moved hW.alike hG⟩, hDw⟩⟩ rfl rfl hl.1 rfl (lv_room (Nat.le_of_ble_eq_true rfl)) dB_36_1_62.2.2.1.2 ⟨Nat.le_of_ble_eq_true rfl, Nat.le_of_ble_eq_true rfl⟩) hS (fun q _ h => hFc q h) hFc (fun u t H locs ht hvm hw hB hz1 hk1 hS => ?_)
    obtain ⟨v7_4, v8_5, g_6, hP1, hD1⟩ := hB
    rw [ht] at hP1
    obtain ⟨hP, hD⟩ := va_join (wr := []) (w1 := [ob7_0_ xh xc u1 u2 u3 u4 u5 u6 v7_4 v8_5, ob0_0_ xc xn xk clo cro c4 c5 c6 c7 c8, ob3_0_ xn vp vn n1 n2 n3 n4 n5, aq_ cy 6 clo 12 (gf_ rl), ai_ cy (rl 0) 12 (Ml 0), ai_ cy (rl 1) 12 (Ml 1), ai_ cy (rl 2) 12 (Ml 2), ai_ cy (rl 3) 12 (Ml 3), ai_ cy (rl 4) 12 (Ml 4), ai_ cy (rl 5) 12 (Ml 5), ai_ cy (rl 6) 12 (Ml 6), ai_ cy (rl 7) 12 (Ml 7), ai_ cy (rl 8) 12 (Ml 8), ai_ cy (rl 9) 12 (Ml 9), ai_ cy (rl 10) 12 (Ml 10), ai_ cy (rl 11) 12 (Ml 11)]) hP hD [0, 1, 2, 3, 4, 5, 6, 7, 8, 9, 10, 11, 12, 13, 14, 15] [] hC_ rfl (by decide) (by decide) hk1 hFc hP1 hD1
    refine pd_K [ob7_0_ xh xc u1 u2 u3 u4 u5 u6 v7_4 v8_5, ob0_0_ xc xn xk clo cro c4 c5 c6 c7 c8, ob3_0_ xn vp vn n1 n2 n3 n4 n5, aq_ cy 6 clo 12 (gf_ rl), ai_ cy (rl 0) 12 (Ml 0), ai_ cy (rl 1) 12 (Ml 1), ai_ cy (rl 2) 12 (Ml 2), ai_ cy (rl 3) 12 (Ml 3), ai_ cy (rl 4) 12 (Ml 4), ai_ cy (rl 5) 12 (Ml 5), ai_ cy (rl 6) 12 (Ml 6), ai_ cy (rl 7) 12 (Ml 7), ai_ cy (rl 8) 12 (Ml 8), ai_ cy (rl 9) 12 (Ml 9), ai_ cy (rl 10) 12 (Ml 10), ai_ cy (rl 11) 12 (Ml 11)] hP hD (fun hP hD => ?_)
    have hs1_ := dS_to g_6 (show _ = a2.toNatClampNeg + 2 ^ a1.toNatClampNeg by rw [hKr_])
    refine lv_aload_n hx hb dB_36_1_62.2.2.2.1 rfl (lv_at hl 0 rfl) ?_
    refine lv_iload_n hx hb dB_36_1_62.2.2.2.2 rfl (lv_at hl 1 rfl) ?_
    refine lv_iconst (v := 1) hx hb dB_36_1_63.1.1.1 (by decide) ?_
    refine lv_isub hx hb dB_36_1_63.1.1.2.1 ?_
    refine lv_topi (fun y_7 ey_7 => ?_)
    have e_ := (ey_7.trans ey_2.symm).symm
    subst e_
    refine lv_iload_n hx hb dB_36_1_63.1.1.2.2 rfl (lv_at hl 2 rfl) ?_
    refine lv_iconst (v := 1) hx hb dB_36_1_63.1.2.1.1 (by decide) ?_
    refine lv_iload_n hx hb dB_36_1_63.1.2.1.2 rfl (lv_at hl 1 rfl) ?_
    refine lv_ishl hx hb dB_36_1_63.1.2.2.1 ?_
    refine lv_topi (fun y_8 ey_8 => ?_)
    refine lv_ior hx hb dB_36_1_63.1.2.2.2 ?_
    refine lv_topi (fun y_9 ey_9 => ?_)
    refine lv_iload_n hx hb dB_36_1_63.2.1.1.1 rfl (lv_at hl 3 rfl) ?_
    refine lv_aload_n hx hb dB_36_1_63.2.1.1.2 rfl (lv_at hl 0 rfl) ?_
    refine lv_iload_n hx hb dB_36_1_63.2.1.2.1 rfl (lv_at hl 1 rfl) ?_
    refine lv_iload_n hx hb dB_36_1_63.2.1.2.2 rfl (lv_at hl 2 rfl) ?_
    refine ct_R hP hD [ob7_0_ xh xc u1 u2 u3 u4 u5 u6 v7_4 v8_5, ob0_0_ xc xn xk clo cro c4 c5 c6 c7 c8, ob3_0_ xn vp vn n1 n2 n3 n4 n5, aq_ cy 6 clo 12 (gf_ rl), ai_ cy (rl 0) 12 (Ml 0), ai_ cy (rl 1) 12 (Ml 1), ai_ cy (rl 2) 12 (Ml 2), ai_ cy (rl 3) 12 (Ml 3), ai_ cy (rl 4) 12 (Ml 4), ai_ cy (rl 5) 12 (Ml 5), ai_ cy (rl 6) 12 (Ml 6), ai_ cy (rl 7) 12 (Ml 7), ai_ cy (rl 8) 12 (Ml 8), ai_ cy (rl 9) 12 (Ml 9), ai_ cy (rl 10) 12 (Ml 10), ai_ cy (rl 11) 12 (Ml 11)] [0, 1, 2, 3, 4, 5, 6, 7, 8, 9, 10, 11, 12, 13, 14, 15] (by decide +kernel) rfl (fun hPc hDw => ?_)
    have hFc := va_free (wc := []) hD hS hA [] rfl
    refine va_calli (va_runV (As := [.int a1, .int a2]) (rest := [.int a3, .int y_9, .int y_2, .ref xh]) ⟨hx, hb, hml, hown, hts⟩ (c_X7_letIn2 l D cy H.size xh u1 u2 u3 u4 u5 u6 v7_4 v8_5 xc xk clo cro c4 c5 c6 c7 c8 xn n1 n2 n3 n4 n5 vp vn rl Ml a1 a2 (by first | with_reducible assumption | omega | assumption) (by first | with_reducible assumption | omega | assumption) (by first | with_reducible assumption | assumption | omega)) (cwV 2 hts gX7_chooseForDense_X7_letIn rfl rfl rfl ⟨rfl, hd_X7_letIn⟩ ⟨Nat.le_of_ble_eq_true rfl, Nat.le_of_ble_eq_true rfl⟩) ⟨bl_g, va_recvX hK.1 hP (ci := 7) (q0 := 0) rfl rfl, fun U hU hW => ⟨rfl, by rw [hU], by rw [hU]; exact hPc, ⟨kk_mv hW hK, arrOfT_moved hW.alike hG⟩, hDw⟩⟩ rfl rfl hl.1 rfl (lv_room (Nat.le_of_ble_eq_true rfl)) dB_36_1_63.2.2.1.1 ⟨Nat.le_of_ble_eq_true rfl, Nat.le_of_ble_eq_true rfl⟩) hS (fun q _ h => hFc q h) hFc (fun r_10 u t H locs ht hvm hw hB hz1 hk1 hS => ?_)
    have hP : va_P D vwCl _ H := ro_keep hP hk1
    obtain ⟨f0_r_10, f1_r_10⟩ := hw
    refine lv_iadd hx hb dB_36_1_63.2.2.1.2 ?_
    refine lv_topi (fun y_11 ey_11 => ?_)
    have ty_11 : y_11.toInt = a3.toInt + r_10.toInt := by rw [ey_11]; exact addI (by omega) (by omega)
    have hKq_ : (y_2.toInt + 1).toNat = a1.toNatClampNeg := by omega
    have hin_ := hdn_in hh1_ (by omega) (by omega) ey_8 ey_9 ty_11 f0_r_10
    have hrh2_ : hdn (zM Ml) vp.toNatClampNeg (y_2.toInt + 1).toNat y_9 y_11.toInt := by rw [hKq_]; exact hin_.1
    have hrs_ : dS_ (wN (zM Ml) vp.toNatClampNeg) bN y_9.toNatClampNeg v7_4 v8_5 := dS_to hs1_ hin_.2.symm
    refine ct_S hP hD hS hA [ob7_0_ xh xc u1 u2 u3 u4 u5 u6 v7_4 v8_5, ob0_0_ xc xn xk clo cro c4 c5 c6 c7 c8, ob3_0_ xn vp vn n1 n2 n3 n4 n5, aq_ cy 6 clo 12 (gf_ rl), ai_ cy (rl 0) 12 (Ml 0), ai_ cy (rl 1) 12 (Ml 1), ai_ cy (rl 2) 12 (Ml 2), ai_ cy (rl 3) 12 (Ml 3), ai_ cy (rl 4) 12 (Ml 4), ai_ cy (rl 5) 12 (Ml 5), ai_ cy (rl 6) 12 (Ml 6), ai_ cy (rl 7) 12 (Ml 7), ai_ cy (rl 8) 12 (Ml 8), ai_ cy (rl 9) 12 (Ml 9), ai_ cy (rl 10) 12 (Ml 10), ai_ cy (rl 11) 12 (Ml 11)] [0, 1, 2, 3, 4, 5, 6, 7, 8, 9, 10, 11, 12, 13, 14, 15] (by decide +kernel) rfl (fun hPc hDw hFc hC_ => ?_)
    refine va_callv (va_runV (As := [.int y_2, .int y_9, .int y_11]) (rest := []) ⟨hx, hb, hml, hown, hts⟩ (c_X7_chooseForDense2_4 l D cy H.size xh u1 u2 u3 u4 u5 u6 v7_4 v8_5 xc xk clo cro c4 c5 c6 c7 c8 xn n1 n2 n3 n4 n5 vp vn rl Ml y_2 y_9 y_11 (by first | with_reducible assumption | omega | assumption) (by first | with_reducible assumption | omega | assumption) (by first | with_reducible assumption | assumption | omega) (by first | with_reducible assumption | assumption | omega) (by first | with_reducible assumption | omega | assumption) (by first | with_reducible assumption | assumption | omega) (by first | with_reducible assumption | assumption | omega)) (cwV 3 hts gX7_chooseForDense_X7_chooseForDense rfl rfl rfl ⟨rfl, hd_X7_chooseForDense⟩ ⟨Nat.le_of_ble_eq_true rfl, Nat.le_of_ble_eq_true rfl⟩) ⟨bl_g, va_recvX hK.1 hP (ci := 7) (q0 := 0) rfl rfl, fun U hU hW => ⟨rfl, by rw [hU], by rw [hU]; exact hPc, ⟨kk_mv hW hK, arrOfT_moved hW.alike hG⟩, hDw⟩⟩ rfl rfl hl.1 rfl (lv_room (Nat.le_of_ble_eq_true rfl)) dB_36_1_63.2.2.2.1 ⟨Nat.le_of_ble_eq_true rfl, Nat.le_of_ble_eq_true rfl⟩) hS (fun q _ h => hFc q h) hFc (fun u t H locs ht hvm hw hB hz1 hk1 hS => ?_)
    obtain ⟨v7_13, v8_14, g_15, hP1, hD1⟩ := hB
    rw [ht] at hP1
    obtain ⟨hP, hD⟩ := va_join (wr := []) (w1 := [ob7_0_ xh xc u1 u2 u3 u4 u5 u6 v7_13 v8_14, ob0_0_ xc xn xk clo cro c4 c5 c6 c7 c8, ob3_0_ xn vp vn n1 n2 n3 n4 n5, aq_ cy 6 clo 12 (gf_ rl), ai_ cy (rl 0) 12 (Ml 0), ai_ cy (rl 1) 12 (Ml 1), ai_ cy (rl 2) 12 (Ml 2), ai_ cy (rl 3) 12 (Ml 3), ai_ cy (rl 4) 12 (Ml 4), ai_ cy (rl 5) 12 (Ml 5), ai_ cy (rl 6) 12 (Ml 6), ai_ cy (rl 7) 12 (Ml 7), ai_ cy (rl 8) 12 (Ml 8), ai_ cy (rl 9) 12 (Ml 9), ai_ cy (rl 10) 12 (Ml 10), ai_ cy (rl 11) 12 (Ml 11)]) hP hD [0, 1, 2, 3, 4, 5, 6, 7, 8, 9, 10, 11, 12, 13, 14, 15] [] hC_ rfl (by decide) (by decide) hk1 hFc hP1 hD1
    refine pd_K [ob7_0_ xh xc u1 u2 u3 u4 u5 u6 v7_13 v8_14, ob0_0_ xc xn xk clo cro c4 c5 c6 c7 c8, ob3_0_ xn vp vn n1 n2 n3 n4 n5, aq_ cy 6 clo 12 (gf_ rl), ai_ cy (rl 0) 12 (Ml 0), ai_ cy (rl 1) 12 (Ml 1), ai_ cy (rl 2) 12 (Ml 2), ai_ cy (rl 3) 12 (Ml 3), ai_ cy (rl 4) 12 (Ml 4), ai_ cy (rl 5) 12 (Ml 5), ai_ cy (rl 6) 12 (Ml 6), ai_ cy (rl 7) 12 (Ml 7), ai_ cy (rl 8) 12 (Ml 8), ai_ cy (rl 9) 12 (Ml 9), ai_ cy (rl 10) 12 (Ml 10), ai_ cy (rl 11) 12 (Ml 11)] hP hD (fun hP hD => ?_)
    rw [hQ]
    exact W.vret hx hb hr (fun t ht hW => ⟨⟨(), rfl, trivial, v7_13, v8_14, (dS_to g_15 (by rw [hKq_, hin_.2, pw_K hK_]; omega)), by rw [ht]; exact hP, hD⟩, hS.F ht⟩) hS.2.2 dB_36_1_63.2.2.2.2
  · have t_1 : ¬ (0 : Int32).toInt ≤ a1.toInt := fun h => c_1 (Int32.le_iff_toInt_le.mpr h)
    have hK_ : (a1.toInt + 1).toNat = 0 := by omega
    have hh0_ : hdn (zM Ml) vp.toNatClampNeg 0 a2 a3.toInt := by rw [hK_] at hh; exact hh
    have hlf_ := hdn_leaf hh0_ (by omega)
    have cA2_ := clI (i := a2) (by omega)
    have hsm_ := hlf_.1
    refine lv_aload_n hx hb dB_36_1_62.1.1.2.1 rfl (lv_at hl 0 rfl) ?_
    refine lv_iload_n hx hb dB_36_1_62.1.1.2.2 rfl (lv_at hl 2 rfl) ?_
    refine lv_iload_n hx hb dB_36_1_62.1.2.1.1 rfl (lv_at hl 3 rfl) ?_
    refine ct_S hP hD hS hA [ob7_0_ xh xc u1 u2 u3 u4 u5 u6 u7 u8] [0] (by decide) rfl (fun hPc hDw hFc hC_ => ?_)
    refine va_callv (va_runV (As := [.int a2, .int a3]) (rest := []) ⟨hx, hb, hml, hown, hts⟩ (c_X7_compareDense2 l D cy s.heap.size xh u1 u2 u3 u4 u5 u6 u7 u8 xc (wN (zM Ml) vp.toNatClampNeg) a2 a3 (by first | with_reducible assumption | omega | assumption) (by first | with_reducible assumption | assumption | omega) (by first | with_reducible assumption | assumption | omega) (by first | with_reducible assumption | assumption | omega) (by first | with_reducible assumption | omega | assumption) (by first | with_reducible assumption | omega | assumption)) (cwV 2 hts gX7_chooseForDense_X7_compareDense rfl rfl rfl ⟨rfl, hd_X7_compareDense⟩ ⟨Nat.le_of_ble_eq_true rfl, Nat.le_of_ble_eq_true rfl⟩) ⟨bl_, va_recvX hK.1 hP (ci := 7) (q0 := 0) rfl rfl, fun U hU hW => ⟨rfl, by rw [hU], by rw [hU]; exact hPc, kk_mv hW hK, hDw⟩⟩ rfl rfl hl.1 rfl (lv_room (Nat.le_of_ble_eq_true rfl)) dB_36_1_62.1.2.1.2 ⟨Nat.le_of_ble_eq_true rfl, Nat.le_of_ble_eq_true rfl⟩) hS (fun q _ h => hFc q h) hFc (fun u t H locs ht hvm hw hB hz1 hk1 hS => ?_)
    obtain ⟨v7_17, v8_18, g_19, hP1, hD1⟩ := hB
    rw [ht] at hP1
    obtain ⟨hP, hD⟩ := va_join (wr := [ob0_0_ xc xn xk clo cro c4 c5 c6 c7 c8, ob3_0_ xn vp vn n1 n2 n3 n4 n5, aq_ cy 6 clo 12 (gf_ rl), ai_ cy (rl 0) 12 (Ml 0), ai_ cy (rl 1) 12 (Ml 1), ai_ cy (rl 2) 12 (Ml 2), ai_ cy (rl 3) 12 (Ml 3), ai_ cy (rl 4) 12 (Ml 4), ai_ cy (rl 5) 12 (Ml 5), ai_ cy (rl 6) 12 (Ml 6), ai_ cy (rl 7) 12 (Ml 7), ai_ cy (rl 8) 12 (Ml 8), ai_ cy (rl 9) 12 (Ml 9), ai_ cy (rl 10) 12 (Ml 10), ai_ cy (rl 11) 12 (Ml 11)]) (w1 := [ob7_0_ xh xc u1 u2 u3 u4 u5 u6 v7_17 v8_18]) hP hD [0] [1, 2, 3, 4, 5, 6, 7, 8, 9, 10, 11, 12, 13, 14, 15] hC_ rfl (by decide +kernel) (by decide +kernel) hk1 hFc hP1 hD1
    refine pd_S hP hD [ob7_0_ xh xc u1 u2 u3 u4 u5 u6 v7_17 v8_18, ob0_0_ xc xn xk clo cro c4 c5 c6 c7 c8, ob3_0_ xn vp vn n1 n2 n3 n4 n5, aq_ cy 6 clo 12 (gf_ rl), ai_ cy (rl 0) 12 (Ml 0), ai_ cy (rl 1) 12 (Ml 1), ai_ cy (rl 2) 12 (Ml 2), ai_ cy (rl 3) 12 (Ml 3), ai_ cy (rl 4) 12 (Ml 4), ai_ cy (rl 5) 12 (Ml 5), ai_ cy (rl 6) 12 (Ml 6), ai_ cy (rl 7) 12 (Ml 7), ai_ cy (rl 8) 12 (Ml 8), ai_ cy (rl 9) 12 (Ml 9), ai_ cy (rl 10) 12 (Ml 10), ai_ cy (rl 11) 12 (Ml 11)] [15, 0, 1, 2, 3, 4, 5, 6, 7, 8, 9, 10, 11, 12, 13, 14] (by decide +kernel) rfl (fun hP hD => ?_)
    rw [hQ]
    exact W.vret hx hb hr (fun t ht hW => ⟨⟨(), rfl, trivial, v7_17, v8_18, (dS_to g_19 (by rw [hK_])), by rw [ht]; exact hP, hD⟩, hS.F ht⟩) hS.2.2 dB_36_1_62.1.2.2.1

set_option maxHeartbeats 4000000 in
set_option maxRecDepth 100000 in
theorem c_X7_chooseForDense2_6 (l : Launch) (D : va_G) (cy : Nat → ClassId) (sz : Nat) (xh : Nat) (u1 : Int32) (u2 : Int32) (u3 : Int32) (u4 : Int32) (u5 : Int32) (u6 : Int32) (u7 : Int32) (u8 : Int32) (xc : Nat) (xk : Nat) (clo : Nat) (cro : Nat) (c4 : Nat) (c5 : Nat) (c6 : Nat) (c7 : Nat) (c8 : Nat) (xn : Nat) (n1 : Nat) (n2 : Nat) (n3 : Nat) (n4 : Nat) (n5 : Nat) (vp : Int32) (vn : Int32) (rl : Nat → Nat) (Ml : Nat → Nat → Int32) (a1 : Int32) (a2 : Int32) (a3 : Int32) (hvp : 0 ≤ vp.toInt ∧ vp.toInt ≤ 12) (q1 : -1 ≤ a1.toInt ∧ a1.toInt < 6) (hM : ∀ x y : Nat, x < vp.toNatClampNeg → y < vp.toNatClampNeg → 0 ≤ zM Ml x y ∧ zM Ml x y ≤ 80000000) (hB : ∀ n : Nat, 0 ≤ wN (zM Ml) vp.toNatClampNeg n ∧ wN (zM Ml) vp.toNatClampNeg n ≤ 100000) (hB0 : wN (zM Ml) vp.toNatClampNeg 0 = 0) (hh : hdn (zM Ml) vp.toNatClampNeg (a1.toInt + 1).toNat a2 a3.toInt) (hs : dS_ (wN (zM Ml) vp.toNatClampNeg) bN a2.toNatClampNeg u7 u8) : Met l yX7_chooseForDense wsX7_chooseForDense ({ frames := 8, cells := 0, slots := 0, locals := 184 }) (va_Pc [.ref xh, .int a1, .int a2, .int a3] (fun U => U.heap.size = sz ∧ va_P D vwCl [ob7_0_ xh xc u1 u2 u3 u4 u5 u6 u7 u8, ob0_0_ xc xn xk clo cro c4 c5 c6 c7 c8, ob3_0_ xn vp vn n1 n2 n3 n4 n5, aq_ cy 6 clo 12 (gf_ rl), ai_ cy (rl 0) 12 (Ml 0), ai_ cy (rl 1) 12 (Ml 1), ai_ cy (rl 2) 12 (Ml 2), ai_ cy (rl 3) 12 (Ml 3), ai_ cy (rl 4) 12 (Ml 4), ai_ cy (rl 5) 12 (Ml 5), ai_ cy (rl 6) 12 (Ml 6), ai_ cy (rl 7) 12 (Ml 7), ai_ cy (rl 8) 12 (Ml 8), ai_ cy (rl 9) 12 (Ml 9), ai_ cy (rl 10) 12 (Ml 10), ai_ cy (rl 11) 12 (Ml 11)] U.heap ∧ kg_ D cy U ∧ va_D (fun _ => True) [ob7_0_ xh xc u1 u2 u3 u4 u5 u6 u7 u8, ob0_0_ xc xn xk clo cro c4 c5 c6 c7 c8, ob3_0_ xn vp vn n1 n2 n3 n4 n5, aq_ cy 6 clo 12 (gf_ rl), ai_ cy (rl 0) 12 (Ml 0), ai_ cy (rl 1) 12 (Ml 1), ai_ cy (rl 2) 12 (Ml 2), ai_ cy (rl 3) 12 (Ml 3), ai_ cy (rl 4) 12 (Ml 4), ai_ cy (rl 5) 12 (Ml 5), ai_ cy (rl 6) 12 (Ml 6), ai_ cy (rl 7) 12 (Ml 7), ai_ cy (rl 8) 12 (Ml 8), ai_ cy (rl 9) 12 (Ml 9), ai_ cy (rl 10) 12 (Ml 10), ai_ cy (rl 11) 12 (Ml 11)])) (va_Qv (fun (_ : Unit) => True) (fun (_ : Unit) (t : State) => ∃ (v7 : Int32), ∃ (v8 : Int32), (dS_ (wN (zM Ml) vp.toNatClampNeg) bN (a2.toNatClampNeg + 2 ^ (a1.toInt + 1).toNat) v7 v8) ∧ va_P D vwCl [ob7_0_ xh xc u1 u2 u3 u4 u5 u6 v7 v8, ob0_0_ xc xn xk clo cro c4 c5 c6 c7 c8, ob3_0_ xn vp vn n1 n2 n3 n4 n5, aq_ cy 6 clo 12 (gf_ rl), ai_ cy (rl 0) 12 (Ml 0), ai_ cy (rl 1) 12 (Ml 1), ai_ cy (rl 2) 12 (Ml 2), ai_ cy (rl 3) 12 (Ml 3), ai_ cy (rl 4) 12 (Ml 4), ai_ cy (rl 5) 12 (Ml 5), ai_ cy (rl 6) 12 (Ml 6), ai_ cy (rl 7) 12 (Ml 7), ai_ cy (rl 8) 12 (Ml 8), ai_ cy (rl 9) 12 (Ml 9), ai_ cy (rl 10) 12 (Ml 10), ai_ cy (rl 11) 12 (Ml 11)] t.heap ∧ va_D (va_A [ob7_0_ xh xc u1 u2 u3 u4 u5 u6 u7 u8, ob0_0_ xc xn xk clo cro c4 c5 c6 c7 c8, ob3_0_ xn vp vn n1 n2 n3 n4 n5, aq_ cy 6 clo 12 (gf_ rl), ai_ cy (rl 0) 12 (Ml 0), ai_ cy (rl 1) 12 (Ml 1), ai_ cy (rl 2) 12 (Ml 2), ai_ cy (rl 3) 12 (Ml 3), ai_ cy (rl 4) 12 (Ml 4), ai_ cy (rl 5) 12 (Ml 5), ai_ cy (rl 6) 12 (Ml 6), ai_ cy (rl 7) 12 (Ml 7), ai_ cy (rl 8) 12 (Ml 8), ai_ cy (rl 9) 12 (Ml 9), ai_ cy (rl 10) 12 (Ml 10), ai_ cy (rl 11) 12 (Ml 11)] sz) [ob7_0_ xh xc u1 u2 u3 u4 u5 u6 v7 v8, ob0_0_ xc xn xk clo cro c4 c5 c6 c7 c8, ob3_0_ xn vp vn n1 n2 n3 n4 n5, aq_ cy 6 clo 12 (gf_ rl), ai_ cy (rl 0) 12 (Ml 0), ai_ cy (rl 1) 12 (Ml 1), ai_ cy (rl 2) 12 (Ml 2), ai_ cy (rl 3) 12 (Ml 3), ai_ cy (rl 4) 12 (Ml 4), ai_ cy (rl 5) 12 (Ml 5), ai_ cy (rl 6) 12 (Ml 6), ai_ cy (rl 7) 12 (Ml 7), ai_ cy (rl 8) 12 (Ml 8), ai_ cy (rl 9) 12 (Ml 9), ai_ cy (rl 10) 12 (Ml 10), ai_ cy (rl 11) 12 (Ml 11)]) (va_A [ob7_0_ xh xc u1 u2 u3 u4 u5 u6 u7 u8, ob0_0_ xc xn xk clo cro c4 c5 c6 c7 c8, ob3_0_ xn vp vn n1 n2 n3 n4 n5, aq_ cy 6 clo 12 (gf_ rl), ai_ cy (rl 0) 12 (Ml 0), ai_ cy (rl 1) 12 (Ml 1), ai_ cy (rl 2) 12 (Ml 2), ai_ cy (rl 3) 12 (Ml 3), ai_ cy (rl 4) 12 (Ml 4), ai_ cy (rl 5) 12 (Ml 5), ai_ cy (rl 6) 12 (Ml 6), ai_ cy (rl 7) 12 (Ml 7), ai_ cy (rl 8) 12 (Ml 8), ai_ cy (rl 9) 12 (Ml 9), ai_ cy (rl 10) 12 (Ml 10), ai_ cy (rl 11) 12 (Ml 11)] sz)) 0 0 (va_A [ob7_0_ xh xc u1 u2 u3 u4 u5 u6 u7 u8, ob0_0_ xc xn xk clo cro c4 c5 c6 c7 c8, ob3_0_ xn vp vn n1 n2 n3 n4 n5, aq_ cy 6 clo 12 (gf_ rl), ai_ cy (rl 0) 12 (Ml 0), ai_ cy (rl 1) 12 (Ml 1), ai_ cy (rl 2) 12 (Ml 2), ai_ cy (rl 3) 12 (Ml 3), ai_ cy (rl 4) 12 (Ml 4), ai_ cy (rl 5) 12 (Ml 5), ai_ cy (rl 6) 12 (Ml 6), ai_ cy (rl 7) 12 (Ml 7), ai_ cy (rl 8) 12 (Ml 8), ai_ cy (rl 9) 12 (Ml 9), ai_ cy (rl 10) 12 (Ml 10), ai_ cy (rl 11) 12 (Ml 11)] sz) := by
  refine ofQ (cc := cX7_chooseForDense) (maxL := 4) (ret := none) (by decide) rfl ?_
  intro p e s m args below meth c s₁ Q hQ B hml hv
  obtain ⟨rfl, hsz, hP, hK, hD0⟩ := hv
  have hG := hK.2
  have hK := hK.1
  have hx := B.exec
  have hb := B.bytes
  have hr := B.returns
  have hts := atoms_spec (ws := wsX7_chooseForDense) B.pre
  have hown : s.vm.findClass RX7 = some m.cls := by have h_ := findClass_of_methodNamed B.named; exact h_
  have hlocks := B.notSynchronized
  subst hsz
  have hD := hD0.self (sz := s.heap.size)
  generalize hAe : va_A [ob7_0_ xh xc u1 u2 u3 u4 u5 u6 u7 u8, ob0_0_ xc xn xk clo cro c4 c5 c6 c7 c8, ob3_0_ xn vp vn n1 n2 n3 n4 n5, aq_ cy 6 clo 12 (gf_ rl), ai_ cy (rl 0) 12 (Ml 0), ai_ cy (rl 1) 12 (Ml 1), ai_ cy (rl 2) 12 (Ml 2), ai_ cy (rl 3) 12 (Ml 3), ai_ cy (rl 4) 12 (Ml 4), ai_ cy (rl 5) 12 (Ml 5), ai_ cy (rl 6) 12 (Ml 6), ai_ cy (rl 7) 12 (Ml 7), ai_ cy (rl 8) 12 (Ml 8), ai_ cy (rl 9) 12 (Ml 9), ai_ cy (rl 10) 12 (Ml 10), ai_ cy (rl 11) 12 (Ml 11)] s.heap.size = A at hD hQ
  have hA : ∀ q : Nat, s.heap.size ≤ q → A q := fun q h => by rw [← hAe]; exact Or.inr h
  have hS : va_S A s.heap s.heap [] := va_S.rf
  have hl := lv_entry ([.ref xh, .int a1, .int a2, .int a3]) (n := 4) (Nat.le_of_ble_eq_true rfl)
  rw [lg_entry_eq]
  generalize (lg_sl ([.ref xh, .int a1, .int a2, .int a3]) ++ List.replicate (4 - (lg_sl ([.ref xh, .int a1, .int a2, .int a3])).length) Slot.unset).toArray = ls at hl ⊢
  have hl : lv_has ls 4 [(0, .ref xh), (1, .int a1), (2, .int a2), (3, .int a3)] := hl
  have z0 : (0 : Int32).toInt = 0 := by decide
  have z1 : (1 : Int32).toInt = 1 := by decide
  have cv_ := clI (i := vp) (by omega)
  have hnn_ : ∀ x y : Nat, x < vp.toNatClampNeg → y < vp.toNatClampNeg → 0 ≤ zM Ml x y := fun x y hx hy => (hM x y hx hy).1
  have ha3_ := hdn_bd hh (by omega) hnn_ hB
  have h7r_ : 0 ≤ u7.toInt ∧ u7.toInt < 4096 := by have h1_ := hs.1; have h2_ := dnz_lt (W := (wN (zM Ml) vp.toNatClampNeg)) (b := bN) a2.toNatClampNeg; have h3_ := hnt_lt (hdn_hnt hh) (by omega); omega
  refine lv_iload_n hx hb dB_36_1_62.1.1.1.1 rfl (lv_at hl 1 rfl) ?_
  refine lv_if_ge (tgt := 11) hx hb dB_36_1_62.1.1.1.2 (by decide) (fun c_1 => ?_) (fun c_1 => ?_)
  · have t_1 : (0 : Int32).toInt ≤ a1.toInt := Int32.le_iff_toInt_le.mp c_1
    have cp_ := clI (i := a1) (by omega)
    have hK_ : (a1.toInt + 1).toNat = a1.toNatClampNeg + 1 := by omega
    have hh1_ : hdn (zM Ml) vp.toNatClampNeg (a1.toNatClampNeg + 1) a2 a3.toInt := by rw [hK_] at hh; exact hh
    have hap_ : a1.toInt < vp.toInt := by have h_ := hh1_.1; omega
    refine lv_aload_n hx hb dB_36_1_62.1.2.2.2 rfl (lv_at hl 0 rfl) ?_
    refine lv_iload_n hx hb dB_36_1_62.2.1.1.1 rfl (lv_at hl 1 rfl) ?_
    refine lv_iconst (v := 1) hx hb dB_36_1_62.2.1.1.2 (by decide) ?_
    refine lv_isub hx hb dB_36_1_62.2.1.2.1 ?_
    refine lv_topi (fun y_2 ey_2 => ?_)
    have ty_2 : y_2.toInt = a1.toInt - (1 : Int32).toInt := by rw [ey_2]; exact subI (by omega) (by omega)
    refine lv_iload_n hx hb dB_36_1_62.2.1.2.2 rfl (lv_at hl 2 rfl) ?_
    refine lv_iload_n hx hb dB_36_1_62.2.2.1.1 rfl (lv_at hl 3 rfl) ?_
    have hKr_ : (y_2.toInt + 1).toNat = a1.toNatClampNeg := by omega
    have hrh_ : hdn (zM Ml) vp.toNatClampNeg (y_2.toInt + 1).toNat a2 a3.toInt := by rw [hKr_]; exact hdn_out hh1_
    refine ct_S hP hD hS hA [ob7_0_ xh xc u1 u2 u3 u4 u5 u6 u7 u8, ob0_0_ xc xn xk clo cro c4 c5 c6 c7 c8, ob3_0_ xn vp vn n1 n2 n3 n4 n5, aq_ cy 6 clo 12 (gf_ rl), ai_ cy (rl 0) 12 (Ml 0), ai_ cy (rl 1) 12 (Ml 1), ai_ cy (rl 2) 12 (Ml 2), ai_ cy (rl 3) 12 (Ml 3), ai_ cy (rl 4) 12 (Ml 4), ai_ cy (rl 5) 12 (Ml 5), ai_ cy (rl 6) 12 (Ml 6), ai_ cy (rl 7) 12 (Ml 7), ai_ cy (rl 8) 12 (Ml 8), ai_ cy (rl 9) 12 (Ml 9), ai_ cy (rl 10) 12 (Ml 10), ai_ cy (rl 11) 12 (Ml 11)] [0, 1, 2, 3, 4, 5, 6, 7, 8, 9, 10, 11, 12, 13, 14, 15] (by decide +kernel) rfl (fun hPc hDw hFc hC_ => ?_)
    refine va_callv (va_runV (As := [.int y_2, .int a2, .int a3]) (rest := []) ⟨hx, hb, hml, hown, hts⟩ (c_X7_chooseForDense2_5 l D cy s.heap.size xh u1 u2 u3 u4 u5 u6 u7 u8 xc xk clo cro c4 c5 c6 c7 c8 xn n1 n2 n3 n4 n5 vp vn rl Ml y_2 a2 a3 (by first | with_reducible assumption | omega | assumption) (by first | with_reducible assumption | omega | assumption) (by first | with_reducible assumption | assumption | omega) (by first | with_reducible assumption | assumption | omega) (by first | with_reducible assumption | omega | assumption) (by first | with_reducible assumption | assumption | omega) (by first | with_reducible assumption | assumption | omega)) (cwV 3 hts gX7_chooseForDense_X7_chooseForDense rfl rfl rfl ⟨rfl, hd_X7_chooseForDense⟩ ⟨Nat.le_of_ble_eq_true rfl, Nat.le_of_ble_eq_true rfl⟩) ⟨bl_g, va_recvX hK.1 hP (ci := 7) (q0 := 0) rfl rfl, fun U hU hW => ⟨rfl, by rw [hU], by rw [hU]; exact hPc, ⟨kk_mv hW hK, arrOfT_moved hW.alike hG⟩, hDw⟩⟩ rfl rfl hl.1 rfl (lv_room (Nat.le_of_ble_eq_true rfl)) dB_36_1_62.2.2.1.2 ⟨Nat.le_of_ble_eq_true rfl, Nat.le_of_ble_eq_true rfl⟩) hS (fun q _ h => hFc q h) hFc (fun u t H locs ht hvm hw hB hz1 hk1 hS => ?_)
    obtain ⟨v7_4, v8_5, g_6, hP1, hD1⟩ := hB
    rw [ht] at hP1
    obtain ⟨hP, hD⟩ := va_join (wr := []) (w1 := [ob7_0_ xh xc u1 u2 u3 u4 u5 u6 v7_4 v8_5, ob0_0_ xc xn xk clo cro c4 c5 c6 c7 c8, ob3_0_ xn vp vn n1 n2 n3 n4 n5, aq_ cy 6 clo 12 (gf_ rl), ai_ cy (rl 0) 12 (Ml 0), ai_ cy (rl 1) 12 (Ml 1), ai_ cy (rl 2) 12 (Ml 2), ai_ cy (rl 3) 12 (Ml 3), ai_ cy (rl 4) 12 (Ml 4), ai_ cy (rl 5) 12 (Ml 5), ai_ cy (rl 6) 12 (Ml 6), ai_ cy (rl 7) 12 (Ml 7), ai_ cy (rl 8) 12 (Ml 8), ai_ cy (rl 9) 12 (Ml 9), ai_ cy (rl 10) 12 (Ml 10), ai_ cy (rl 11) 12 (Ml 11)]) hP hD [0, 1, 2, 3, 4, 5, 6, 7, 8, 9, 10, 11, 12, 13, 14, 15] [] hC_ rfl (by decide) (by decide) hk1 hFc hP1 hD1
    refine pd_K [ob7_0_ xh xc u1 u2 u3 u4 u5 u6 v7_4 v8_5, ob0_0_ xc xn xk clo cro c4 c5 c6 c7 c8, ob3_0_ xn vp vn n1 n2 n3 n4 n5, aq_ cy 6 clo 12 (gf_ rl), ai_ cy (rl 0) 12 (Ml 0), ai_ cy (rl 1) 12 (Ml 1), ai_ cy (rl 2) 12 (Ml 2), ai_ cy (rl 3) 12 (Ml 3), ai_ cy (rl 4) 12 (Ml 4), ai_ cy (rl 5) 12 (Ml 5), ai_ cy (rl 6) 12 (Ml 6), ai_ cy (rl 7) 12 (Ml 7), ai_ cy (rl 8) 12 (Ml 8), ai_ cy (rl 9) 12 (Ml 9), ai_ cy (rl 10) 12 (Ml 10), ai_ cy (rl 11) 12 (Ml 11)] hP hD (fun hP hD => ?_)
    have hs1_ := dS_to g_6 (show _ = a2.toNatClampNeg + 2 ^ a1.toNatClampNeg by rw [hKr_])
    refine lv_aload_n hx hb dB_36_1_62.2.2.2.1 rfl (lv_at hl 0 rfl) ?_
    refine lv_iload_n hx hb dB_36_1_62.2.2.2.2 rfl (lv_at hl 1 rfl) ?_
    refine lv_iconst (v := 1) hx hb dB_36_1_63.1.1.1 (by decide) ?_
    refine lv_isub hx hb dB_36_1_63.1.1.2.1 ?_
    refine lv_topi (fun y_7 ey_7 => ?_)
    have e_ := (ey_7.trans ey_2.symm).symm
    subst e_
    refine lv_iload_n hx hb dB_36_1_63.1.1.2.2 rfl (lv_at hl 2 rfl) ?_
    refine lv_iconst (v := 1) hx hb dB_36_1_63.1.2.1.1 (by decide) ?_
    refine lv_iload_n hx hb dB_36_1_63.1.2.1.2 rfl (lv_at hl 1 rfl) ?_
    refine lv_ishl hx hb dB_36_1_63.1.2.2.1 ?_
    refine lv_topi (fun y_8 ey_8 => ?_)
    refine lv_ior hx hb dB_36_1_63.1.2.2.2 ?_
    refine lv_topi (fun y_9 ey_9 => ?_)
    refine lv_iload_n hx hb dB_36_1_63.2.1.1.1 rfl (lv_at hl 3 rfl) ?_
    refine lv_aload_n hx hb dB_36_1_63.2.1.1.2 rfl (lv_at hl 0 rfl) ?_
    refine lv_iload_n hx hb dB_36_1_63.2.1.2.1 rfl (lv_at hl 1 rfl) ?_
    refine lv_iload_n hx hb dB_36_1_63.2.1.2.2 rfl (lv_at hl 2 rfl) ?_
    refine ct_R hP hD [ob7_0_ xh xc u1 u2 u3 u4 u5 u6 v7_4 v8_5, ob0_0_ xc xn xk clo cro c4 c5 c6 c7 c8, ob3_0_ xn vp vn n1 n2 n3 n4 n5, aq_ cy 6 clo 12 (gf_ rl), ai_ cy (rl 0) 12 (Ml 0), ai_ cy (rl 1) 12 (Ml 1), ai_ cy (rl 2) 12 (Ml 2), ai_ cy (rl 3) 12 (Ml 3), ai_ cy (rl 4) 12 (Ml 4), ai_ cy (rl 5) 12 (Ml 5), ai_ cy (rl 6) 12 (Ml 6), ai_ cy (rl 7) 12 (Ml 7), ai_ cy (rl 8) 12 (Ml 8), ai_ cy (rl 9) 12 (Ml 9), ai_ cy (rl 10) 12 (Ml 10), ai_ cy (rl 11) 12 (Ml 11)] [0, 1, 2, 3, 4, 5, 6, 7, 8, 9, 10, 11, 12, 13, 14, 15] (by decide +kernel) rfl (fun hPc hDw => ?_)
    have hFc := va_free (wc := []) hD hS hA [] rfl
    refine va_calli (va_runV (As := [.int a1, .int a2]) (rest := [.int a3, .int y_9, .int y_2, .ref xh]) ⟨hx, hb, hml, hown, hts⟩ (c_X7_letIn2 l D cy H.size xh u1 u2 u3 u4 u5 u6 v7_4 v8_5 xc xk clo cro c4 c5 c6 c7 c8 xn n1 n2 n3 n4 n5 vp vn rl Ml a1 a2 (by first | with_reducible assumption | omega | assumption) (by first | with_reducible assumption | omega | assumption) (by first | with_reducible assumption | assumption | omega)) (cwV 2 hts gX7_chooseForDense_X7_letIn rfl rfl rfl ⟨rfl, hd_X7_letIn⟩ ⟨Nat.le_of_ble_eq_true rfl, Nat.le_of_ble_eq_true rfl⟩) ⟨bl_g, va_recvX hK.1 hP (ci := 7) (q0 := 0) rfl rfl, fun U hU hW => ⟨rfl, by rw [hU], by rw [hU]; exact hPc, ⟨kk_mv hW hK, arrOfT_moved hW.alike hG⟩, hDw⟩⟩ rfl rfl hl.1 rfl (lv_room (Nat.le_of_ble_eq_true rfl)) dB_36_1_63.2.2.1.1 ⟨Nat.le_of_ble_eq_true rfl, Nat.le_of_ble_eq_true rfl⟩) hS (fun q _ h => hFc q h) hFc (fun r_10 u t H locs ht hvm hw hB hz1 hk1 hS => ?_)
    have hP : va_P D vwCl _ H := ro_keep hP hk1
    obtain ⟨f0_r_10, f1_r_10⟩ := hw
    refine lv_iadd hx hb dB_36_1_63.2.2.1.2 ?_
    refine lv_topi (fun y_11 ey_11 => ?_)
    have ty_11 : y_11.toInt = a3.toInt + r_10.toInt := by rw [ey_11]; exact addI (by omega) (by omega)
    have hKq_ : (y_2.toInt + 1).toNat = a1.toNatClampNeg := by omega
    have hin_ := hdn_in hh1_ (by omega) (by omega) ey_8 ey_9 ty_11 f0_r_10
    have hrh2_ : hdn (zM Ml) vp.toNatClampNeg (y_2.toInt + 1).toNat y_9 y_11.toInt := by rw [hKq_]; exact hin_.1
    have hrs_ : dS_ (wN (zM Ml) vp.toNatClampNeg) bN y_9.toNatClampNeg v7_4 v8_5 := dS_to hs1_ hin_.2.symm
    refine ct_S hP hD hS hA [ob7_0_ xh xc u1 u2 u3 u4 u5 u6 v7_4 v8_5, ob0_0_ xc xn xk clo cro c4 c5 c6 c7 c8, ob3_0_ xn vp vn n1 n2 n3 n4 n5, aq_ cy 6 clo 12 (gf_ rl), ai_ cy (rl 0) 12 (Ml 0), ai_ cy (rl 1) 12 (Ml 1), ai_ cy (rl 2) 12 (Ml 2), ai_ cy (rl 3) 12 (Ml 3), ai_ cy (rl 4) 12 (Ml 4), ai_ cy (rl 5) 12 (Ml 5), ai_ cy (rl 6) 12 (Ml 6), ai_ cy (rl 7) 12 (Ml 7), ai_ cy (rl 8) 12 (Ml 8), ai_ cy (rl 9) 12 (Ml 9), ai_ cy (rl 10) 12 (Ml 10), ai_ cy (rl 11) 12 (Ml 11)] [0, 1, 2, 3, 4, 5, 6, 7, 8, 9, 10, 11, 12, 13, 14, 15] (by decide +kernel) rfl (fun hPc hDw hFc hC_ => ?_)
    refine va_callv (va_runV (As := [.int y_2, .int y_9, .int y_11]) (rest := []) ⟨hx, hb, hml, hown, hts⟩ (c_X7_chooseForDense2_5 l D cy H.size xh u1 u2 u3 u4 u5 u6 v7_4 v8_5 xc xk clo cro c4 c5 c6 c7 c8 xn n1 n2 n3 n4 n5 vp vn rl Ml y_2 y_9 y_11 (by first | with_reducible assumption | omega | assumption) (by first | with_reducible assumption | omega | assumption) (by first | with_reducible assumption | assumption | omega) (by first | with_reducible assumption | assumption | omega) (by first | with_reducible assumption | omega | assumption) (by first | with_reducible assumption | assumption | omega) (by first | with_reducible assumption | assumption | omega)) (cwV 3 hts gX7_chooseForDense_X7_chooseForDense rfl rfl rfl ⟨rfl, hd_X7_chooseForDense⟩ ⟨Nat.le_of_ble_eq_true rfl, Nat.le_of_ble_eq_true rfl⟩) ⟨bl_g, va_recvX hK.1 hP (ci := 7) (q0 := 0) rfl rfl, fun U hU hW => ⟨rfl, by rw [hU], by rw [hU]; exact hPc, ⟨kk_mv hW hK, arrOfT_moved hW.alike hG⟩, hDw⟩⟩ rfl rfl hl.1 rfl (lv_room (Nat.le_of_ble_eq_true rfl)) dB_36_1_63.2.2.2.1 ⟨Nat.le_of_ble_eq_true rfl, Nat.le_of_ble_eq_true rfl⟩) hS (fun q _ h => hFc q h) hFc (fun u t H locs ht hvm hw hB hz1 hk1 hS => ?_)
    obtain ⟨v7_13, v8_14, g_15, hP1, hD1⟩ := hB
    rw [ht] at hP1
    obtain ⟨hP, hD⟩ := va_join (wr := []) (w1 := [ob7_0_ xh xc u1 u2 u3 u4 u5 u6 v7_13 v8_14, ob0_0_ xc xn xk clo cro c4 c5 c6 c7 c8, ob3_0_ xn vp vn n1 n2 n3 n4 n5, aq_ cy 6 clo 12 (gf_ rl), ai_ cy (rl 0) 12 (Ml 0), ai_ cy (rl 1) 12 (Ml 1), ai_ cy (rl 2) 12 (Ml 2), ai_ cy (rl 3) 12 (Ml 3), ai_ cy (rl 4) 12 (Ml 4), ai_ cy (rl 5) 12 (Ml 5), ai_ cy (rl 6) 12 (Ml 6), ai_ cy (rl 7) 12 (Ml 7), ai_ cy (rl 8) 12 (Ml 8), ai_ cy (rl 9) 12 (Ml 9), ai_ cy (rl 10) 12 (Ml 10), ai_ cy (rl 11) 12 (Ml 11)]) hP hD [0, 1, 2, 3, 4, 5, 6, 7, 8, 9, 10, 11, 12, 13, 14, 15] [] hC_ rfl (by decide) (by decide) hk1 hFc hP1 hD1
    refine pd_K [ob7_0_ xh xc u1 u2 u3 u4 u5 u6 v7_13 v8_14, ob0_0_ xc xn xk clo cro c4 c5 c6 c7 c8, ob3_0_ xn vp vn n1 n2 n3 n4 n5, aq_ cy 6 clo 12 (gf_ rl), ai_ cy (rl 0) 12 (Ml 0), ai_ cy (rl 1) 12 (Ml 1), ai_ cy (rl 2) 12 (Ml 2), ai_ cy (rl 3) 12 (Ml 3), ai_ cy (rl 4) 12 (Ml 4), ai_ cy (rl 5) 12 (Ml 5), ai_ cy (rl 6) 12 (Ml 6), ai_ cy (rl 7) 12 (Ml 7), ai_ cy (rl 8) 12 (Ml 8), ai_ cy (rl 9) 12 (Ml 9), ai_ cy (rl 10) 12 (Ml 10), ai_ cy (rl 11) 12 (Ml 11)] hP hD (fun hP hD => ?_)
    rw [hQ]
    exact W.vret hx hb hr (fun t ht hW => ⟨⟨(), rfl, trivial, v7_13, v8_14, (dS_to g_15 (by rw [hKq_, hin_.2, pw_K hK_]; omega)), by rw [ht]; exact hP, hD⟩, hS.F ht⟩) hS.2.2 dB_36_1_63.2.2.2.2
  · have t_1 : ¬ (0 : Int32).toInt ≤ a1.toInt := fun h => c_1 (Int32.le_iff_toInt_le.mpr h)
    have hK_ : (a1.toInt + 1).toNat = 0 := by omega
    have hh0_ : hdn (zM Ml) vp.toNatClampNeg 0 a2 a3.toInt := by rw [hK_] at hh; exact hh
    have hlf_ := hdn_leaf hh0_ (by omega)
    have cA2_ := clI (i := a2) (by omega)
    have hsm_ := hlf_.1
    refine lv_aload_n hx hb dB_36_1_62.1.1.2.1 rfl (lv_at hl 0 rfl) ?_
    refine lv_iload_n hx hb dB_36_1_62.1.1.2.2 rfl (lv_at hl 2 rfl) ?_
    refine lv_iload_n hx hb dB_36_1_62.1.2.1.1 rfl (lv_at hl 3 rfl) ?_
    refine ct_S hP hD hS hA [ob7_0_ xh xc u1 u2 u3 u4 u5 u6 u7 u8] [0] (by decide) rfl (fun hPc hDw hFc hC_ => ?_)
    refine va_callv (va_runV (As := [.int a2, .int a3]) (rest := []) ⟨hx, hb, hml, hown, hts⟩ (c_X7_compareDense2 l D cy s.heap.size xh u1 u2 u3 u4 u5 u6 u7 u8 xc (wN (zM Ml) vp.toNatClampNeg) a2 a3 (by first | with_reducible assumption | omega | assumption) (by first | with_reducible assumption | assumption | omega) (by first | with_reducible assumption | assumption | omega) (by first | with_reducible assumption | assumption | omega) (by first | with_reducible assumption | omega | assumption) (by first | with_reducible assumption | omega | assumption)) (cwV 2 hts gX7_chooseForDense_X7_compareDense rfl rfl rfl ⟨rfl, hd_X7_compareDense⟩ ⟨Nat.le_of_ble_eq_true rfl, Nat.le_of_ble_eq_true rfl⟩) ⟨bl_, va_recvX hK.1 hP (ci := 7) (q0 := 0) rfl rfl, fun U hU hW => ⟨rfl, by rw [hU], by rw [hU]; exact hPc, kk_mv hW hK, hDw⟩⟩ rfl rfl hl.1 rfl (lv_room (Nat.le_of_ble_eq_true rfl)) dB_36_1_62.1.2.1.2 ⟨Nat.le_of_ble_eq_true rfl, Nat.le_of_ble_eq_true rfl⟩) hS (fun q _ h => hFc q h) hFc (fun u t H locs ht hvm hw hB hz1 hk1 hS => ?_)
    obtain ⟨v7_17, v8_18, g_19, hP1, hD1⟩ := hB
    rw [ht] at hP1
    obtain ⟨hP, hD⟩ := va_join (wr := [ob0_0_ xc xn xk clo cro c4 c5 c6 c7 c8, ob3_0_ xn vp vn n1 n2 n3 n4 n5, aq_ cy 6 clo 12 (gf_ rl), ai_ cy (rl 0) 12 (Ml 0), ai_ cy (rl 1) 12 (Ml 1), ai_ cy (rl 2) 12 (Ml 2), ai_ cy (rl 3) 12 (Ml 3), ai_ cy (rl 4) 12 (Ml 4), ai_ cy (rl 5) 12 (Ml 5), ai_ cy (rl 6) 12 (Ml 6), ai_ cy (rl 7) 12 (Ml 7), ai_ cy (rl 8) 12 (Ml 8), ai_ cy (rl 9) 12 (Ml 9), ai_ cy (rl 10) 12 (Ml 10), ai_ cy (rl 11) 12 (Ml 11)]) (w1 := [ob7_0_ xh xc u1 u2 u3 u4 u5 u6 v7_17 v8_18]) hP hD [0] [1, 2, 3, 4, 5, 6, 7, 8, 9, 10, 11, 12, 13, 14, 15] hC_ rfl (by decide +kernel) (by decide +kernel) hk1 hFc hP1 hD1
    refine pd_S hP hD [ob7_0_ xh xc u1 u2 u3 u4 u5 u6 v7_17 v8_18, ob0_0_ xc xn xk clo cro c4 c5 c6 c7 c8, ob3_0_ xn vp vn n1 n2 n3 n4 n5, aq_ cy 6 clo 12 (gf_ rl), ai_ cy (rl 0) 12 (Ml 0), ai_ cy (rl 1) 12 (Ml 1), ai_ cy (rl 2) 12 (Ml 2), ai_ cy (rl 3) 12 (Ml 3), ai_ cy (rl 4) 12 (Ml 4), ai_ cy (rl 5) 12 (Ml 5), ai_ cy (rl 6) 12 (Ml 6), ai_ cy (rl 7) 12 (Ml 7), ai_ cy (rl 8) 12 (Ml 8), ai_ cy (rl 9) 12 (Ml 9), ai_ cy (rl 10) 12 (Ml 10), ai_ cy (rl 11) 12 (Ml 11)] [15, 0, 1, 2, 3, 4, 5, 6, 7, 8, 9, 10, 11, 12, 13, 14] (by decide +kernel) rfl (fun hP hD => ?_)
    rw [hQ]
    exact W.vret hx hb hr (fun t ht hW => ⟨⟨(), rfl, trivial, v7_17, v8_18, (dS_to g_19 (by rw [hK_])), by rw [ht]; exact hP, hD⟩, hS.F ht⟩) hS.2.2 dB_36_1_62.1.2.2.1

set_option maxHeartbeats 4000000 in
set_option maxRecDepth 100000 in
theorem c_X7_chooseForDense2_7 (l : Launch) (D : va_G) (cy : Nat → ClassId) (sz : Nat) (xh : Nat) (u1 : Int32) (u2 : Int32) (u3 : Int32) (u4 : Int32) (u5 : Int32) (u6 : Int32) (u7 : Int32) (u8 : Int32) (xc : Nat) (xk : Nat) (clo : Nat) (cro : Nat) (c4 : Nat) (c5 : Nat) (c6 : Nat) (c7 : Nat) (c8 : Nat) (xn : Nat) (n1 : Nat) (n2 : Nat) (n3 : Nat) (n4 : Nat) (n5 : Nat) (vp : Int32) (vn : Int32) (rl : Nat → Nat) (Ml : Nat → Nat → Int32) (a1 : Int32) (a2 : Int32) (a3 : Int32) (hvp : 0 ≤ vp.toInt ∧ vp.toInt ≤ 12) (q1 : -1 ≤ a1.toInt ∧ a1.toInt < 7) (hM : ∀ x y : Nat, x < vp.toNatClampNeg → y < vp.toNatClampNeg → 0 ≤ zM Ml x y ∧ zM Ml x y ≤ 80000000) (hB : ∀ n : Nat, 0 ≤ wN (zM Ml) vp.toNatClampNeg n ∧ wN (zM Ml) vp.toNatClampNeg n ≤ 100000) (hB0 : wN (zM Ml) vp.toNatClampNeg 0 = 0) (hh : hdn (zM Ml) vp.toNatClampNeg (a1.toInt + 1).toNat a2 a3.toInt) (hs : dS_ (wN (zM Ml) vp.toNatClampNeg) bN a2.toNatClampNeg u7 u8) : Met l yX7_chooseForDense wsX7_chooseForDense ({ frames := 9, cells := 0, slots := 0, locals := 207 }) (va_Pc [.ref xh, .int a1, .int a2, .int a3] (fun U => U.heap.size = sz ∧ va_P D vwCl [ob7_0_ xh xc u1 u2 u3 u4 u5 u6 u7 u8, ob0_0_ xc xn xk clo cro c4 c5 c6 c7 c8, ob3_0_ xn vp vn n1 n2 n3 n4 n5, aq_ cy 6 clo 12 (gf_ rl), ai_ cy (rl 0) 12 (Ml 0), ai_ cy (rl 1) 12 (Ml 1), ai_ cy (rl 2) 12 (Ml 2), ai_ cy (rl 3) 12 (Ml 3), ai_ cy (rl 4) 12 (Ml 4), ai_ cy (rl 5) 12 (Ml 5), ai_ cy (rl 6) 12 (Ml 6), ai_ cy (rl 7) 12 (Ml 7), ai_ cy (rl 8) 12 (Ml 8), ai_ cy (rl 9) 12 (Ml 9), ai_ cy (rl 10) 12 (Ml 10), ai_ cy (rl 11) 12 (Ml 11)] U.heap ∧ kg_ D cy U ∧ va_D (fun _ => True) [ob7_0_ xh xc u1 u2 u3 u4 u5 u6 u7 u8, ob0_0_ xc xn xk clo cro c4 c5 c6 c7 c8, ob3_0_ xn vp vn n1 n2 n3 n4 n5, aq_ cy 6 clo 12 (gf_ rl), ai_ cy (rl 0) 12 (Ml 0), ai_ cy (rl 1) 12 (Ml 1), ai_ cy (rl 2) 12 (Ml 2), ai_ cy (rl 3) 12 (Ml 3), ai_ cy (rl 4) 12 (Ml 4), ai_ cy (rl 5) 12 (Ml 5), ai_ cy (rl 6) 12 (Ml 6), ai_ cy (rl 7) 12 (Ml 7), ai_ cy (rl 8) 12 (Ml 8), ai_ cy (rl 9) 12 (Ml 9), ai_ cy (rl 10) 12 (Ml 10), ai_ cy (rl 11) 12 (Ml 11)])) (va_Qv (fun (_ : Unit) => True) (fun (_ : Unit) (t : State) => ∃ (v7 : Int32), ∃ (v8 : Int32), (dS_ (wN (zM Ml) vp.toNatClampNeg) bN (a2.toNatClampNeg + 2 ^ (a1.toInt + 1).toNat) v7 v8) ∧ va_P D vwCl [ob7_0_ xh xc u1 u2 u3 u4 u5 u6 v7 v8, ob0_0_ xc xn xk clo cro c4 c5 c6 c7 c8, ob3_0_ xn vp vn n1 n2 n3 n4 n5, aq_ cy 6 clo 12 (gf_ rl), ai_ cy (rl 0) 12 (Ml 0), ai_ cy (rl 1) 12 (Ml 1), ai_ cy (rl 2) 12 (Ml 2), ai_ cy (rl 3) 12 (Ml 3), ai_ cy (rl 4) 12 (Ml 4), ai_ cy (rl 5) 12 (Ml 5), ai_ cy (rl 6) 12 (Ml 6), ai_ cy (rl 7) 12 (Ml 7), ai_ cy (rl 8) 12 (Ml 8), ai_ cy (rl 9) 12 (Ml 9), ai_ cy (rl 10) 12 (Ml 10), ai_ cy (rl 11) 12 (Ml 11)] t.heap ∧ va_D (va_A [ob7_0_ xh xc u1 u2 u3 u4 u5 u6 u7 u8, ob0_0_ xc xn xk clo cro c4 c5 c6 c7 c8, ob3_0_ xn vp vn n1 n2 n3 n4 n5, aq_ cy 6 clo 12 (gf_ rl), ai_ cy (rl 0) 12 (Ml 0), ai_ cy (rl 1) 12 (Ml 1), ai_ cy (rl 2) 12 (Ml 2), ai_ cy (rl 3) 12 (Ml 3), ai_ cy (rl 4) 12 (Ml 4), ai_ cy (rl 5) 12 (Ml 5), ai_ cy (rl 6) 12 (Ml 6), ai_ cy (rl 7) 12 (Ml 7), ai_ cy (rl 8) 12 (Ml 8), ai_ cy (rl 9) 12 (Ml 9), ai_ cy (rl 10) 12 (Ml 10), ai_ cy (rl 11) 12 (Ml 11)] sz) [ob7_0_ xh xc u1 u2 u3 u4 u5 u6 v7 v8, ob0_0_ xc xn xk clo cro c4 c5 c6 c7 c8, ob3_0_ xn vp vn n1 n2 n3 n4 n5, aq_ cy 6 clo 12 (gf_ rl), ai_ cy (rl 0) 12 (Ml 0), ai_ cy (rl 1) 12 (Ml 1), ai_ cy (rl 2) 12 (Ml 2), ai_ cy (rl 3) 12 (Ml 3), ai_ cy (rl 4) 12 (Ml 4), ai_ cy (rl 5) 12 (Ml 5), ai_ cy (rl 6) 12 (Ml 6), ai_ cy (rl 7) 12 (Ml 7), ai_ cy (rl 8) 12 (Ml 8), ai_ cy (rl 9) 12 (Ml 9), ai_ cy (rl 10) 12 (Ml 10), ai_ cy (rl 11) 12 (Ml 11)]) (va_A [ob7_0_ xh xc u1 u2 u3 u4 u5 u6 u7 u8, ob0_0_ xc xn xk clo cro c4 c5 c6 c7 c8, ob3_0_ xn vp vn n1 n2 n3 n4 n5, aq_ cy 6 clo 12 (gf_ rl), ai_ cy (rl 0) 12 (Ml 0), ai_ cy (rl 1) 12 (Ml 1), ai_ cy (rl 2) 12 (Ml 2), ai_ cy (rl 3) 12 (Ml 3), ai_ cy (rl 4) 12 (Ml 4), ai_ cy (rl 5) 12 (Ml 5), ai_ cy (rl 6) 12 (Ml 6), ai_ cy (rl 7) 12 (Ml 7), ai_ cy (rl 8) 12 (Ml 8), ai_ cy (rl 9) 12 (Ml 9), ai_ cy (rl 10) 12 (Ml 10), ai_ cy (rl 11) 12 (Ml 11)] sz)) 0 0 (va_A [ob7_0_ xh xc u1 u2 u3 u4 u5 u6 u7 u8, ob0_0_ xc xn xk clo cro c4 c5 c6 c7 c8, ob3_0_ xn vp vn n1 n2 n3 n4 n5, aq_ cy 6 clo 12 (gf_ rl), ai_ cy (rl 0) 12 (Ml 0), ai_ cy (rl 1) 12 (Ml 1), ai_ cy (rl 2) 12 (Ml 2), ai_ cy (rl 3) 12 (Ml 3), ai_ cy (rl 4) 12 (Ml 4), ai_ cy (rl 5) 12 (Ml 5), ai_ cy (rl 6) 12 (Ml 6), ai_ cy (rl 7) 12 (Ml 7), ai_ cy (rl 8) 12 (Ml 8), ai_ cy (rl 9) 12 (Ml 9), ai_ cy (rl 10) 12 (Ml 10), ai_ cy (rl 11) 12 (Ml 11)] sz) := by
  refine ofQ (cc := cX7_chooseForDense) (maxL := 4) (ret := none) (by decide) rfl ?_
  intro p e s m args below meth c s₁ Q hQ B hml hv
  obtain ⟨rfl, hsz, hP, hK, hD0⟩ := hv
  have hG := hK.2
  have hK := hK.1
  have hx := B.exec
  have hb := B.bytes
  have hr := B.returns
  have hts := atoms_spec (ws := wsX7_chooseForDense) B.pre
  have hown : s.vm.findClass RX7 = some m.cls := by have h_ := findClass_of_methodNamed B.named; exact h_
  have hlocks := B.notSynchronized
  subst hsz
  have hD := hD0.self (sz := s.heap.size)
  generalize hAe : va_A [ob7_0_ xh xc u1 u2 u3 u4 u5 u6 u7 u8, ob0_0_ xc xn xk clo cro c4 c5 c6 c7 c8, ob3_0_ xn vp vn n1 n2 n3 n4 n5, aq_ cy 6 clo 12 (gf_ rl), ai_ cy (rl 0) 12 (Ml 0), ai_ cy (rl 1) 12 (Ml 1), ai_ cy (rl 2) 12 (Ml 2), ai_ cy (rl 3) 12 (Ml 3), ai_ cy (rl 4) 12 (Ml 4), ai_ cy (rl 5) 12 (Ml 5), ai_ cy (rl 6) 12 (Ml 6), ai_ cy (rl 7) 12 (Ml 7), ai_ cy (rl 8) 12 (Ml 8), ai_ cy (rl 9) 12 (Ml 9), ai_ cy (rl 10) 12 (Ml 10), ai_ cy (rl 11) 12 (Ml 11)] s.heap.size = A at hD hQ
  have hA : ∀ q : Nat, s.heap.size ≤ q → A q := fun q h => by rw [← hAe]; exact Or.inr h
  have hS : va_S A s.heap s.heap [] := va_S.rf
  have hl := lv_entry ([.ref xh, .int a1, .int a2, .int a3]) (n := 4) (Nat.le_of_ble_eq_true rfl)
  rw [lg_entry_eq]
  generalize (lg_sl ([.ref xh, .int a1, .int a2, .int a3]) ++ List.replicate (4 - (lg_sl ([.ref xh, .int a1, .int a2, .int a3])).length) Slot.unset).toArray = ls at hl ⊢
  have hl : lv_has ls 4 [(0, .ref xh), (1, .int a1), (2, .int a2), (3, .int a3)] := hl
  have z0 : (0 : Int32).toInt = 0 := by decide
  have z1 : (1 : Int32).toInt = 1 := by decide
  have cv_ := clI (i := vp) (by omega)
  have hnn_ : ∀ x y : Nat, x < vp.toNatClampNeg → y < vp.toNatClampNeg → 0 ≤ zM Ml x y := fun x y hx hy => (hM x y hx hy).1
  have ha3_ := hdn_bd hh (by omega) hnn_ hB
  have h7r_ : 0 ≤ u7.toInt ∧ u7.toInt < 4096 := by have h1_ := hs.1; have h2_ := dnz_lt (W := (wN (zM Ml) vp.toNatClampNeg)) (b := bN) a2.toNatClampNeg; have h3_ := hnt_lt (hdn_hnt hh) (by omega); omega
  refine lv_iload_n hx hb dB_36_1_62.1.1.1.1 rfl (lv_at hl 1 rfl) ?_
  refine lv_if_ge (tgt := 11) hx hb dB_36_1_62.1.1.1.2 (by decide) (fun c_1 => ?_) (fun c_1 => ?_)
  · have t_1 : (0 : Int32).toInt ≤ a1.toInt := Int32.le_iff_toInt_le.mp c_1
    have cp_ := clI (i := a1) (by omega)
    have hK_ : (a1.toInt + 1).toNat = a1.toNatClampNeg + 1 := by omega
    have hh1_ : hdn (zM Ml) vp.toNatClampNeg (a1.toNatClampNeg + 1) a2 a3.toInt := by rw [hK_] at hh; exact hh
    have hap_ : a1.toInt < vp.toInt := by have h_ := hh1_.1; omega
    refine lv_aload_n hx hb dB_36_1_62.1.2.2.2 rfl (lv_at hl 0 rfl) ?_
    refine lv_iload_n hx hb dB_36_1_62.2.1.1.1 rfl (lv_at hl 1 rfl) ?_
    refine lv_iconst (v := 1) hx hb dB_36_1_62.2.1.1.2 (by decide) ?_
    refine lv_isub hx hb dB_36_1_62.2.1.2.1 ?_
    refine lv_topi (fun y_2 ey_2 => ?_)
    have ty_2 : y_2.toInt = a1.toInt - (1 : Int32).toInt := by rw [ey_2]; exact subI (by omega) (by omega)
    refine lv_iload_n hx hb dB_36_1_62.2.1.2.2 rfl (lv_at hl 2 rfl) ?_
    refine lv_iload_n hx hb dB_36_1_62.2.2.1.1 rfl (lv_at hl 3 rfl) ?_
    have hKr_ : (y_2.toInt + 1).toNat = a1.toNatClampNeg := by omega
    have hrh_ : hdn (zM Ml) vp.toNatClampNeg (y_2.toInt + 1).toNat a2 a3.toInt := by rw [hKr_]; exact hdn_out hh1_
    refine ct_S hP hD hS hA [ob7_0_ xh xc u1 u2 u3 u4 u5 u6 u7 u8, ob0_0_ xc xn xk clo cro c4 c5 c6 c7 c8, ob3_0_ xn vp vn n1 n2 n3 n4 n5, aq_ cy 6 clo 12 (gf_ rl), ai_ cy (rl 0) 12 (Ml 0), ai_ cy (rl 1) 12 (Ml 1), ai_ cy (rl 2) 12 (Ml 2), ai_ cy (rl 3) 12 (Ml 3), ai_ cy (rl 4) 12 (Ml 4), ai_ cy (rl 5) 12 (Ml 5), ai_ cy (rl 6) 12 (Ml 6), ai_ cy (rl 7) 12 (Ml 7), ai_ cy (rl 8) 12 (Ml 8), ai_ cy (rl 9) 12 (Ml 9), ai_ cy (rl 10) 12 (Ml 10), ai_ cy (rl 11) 12 (Ml 11)] [0, 1, 2, 3, 4, 5, 6, 7, 8, 9, 10, 11, 12, 13, 14, 15] (by decide +kernel) rfl (fun hPc hDw hFc hC_ => ?_)
    refine va_callv (va_runV (As := [.int y_2, .int a2, .int a3]) (rest := []) ⟨hx, hb, hml, hown, hts⟩ (c_X7_chooseForDense2_6 l D cy s.heap.size xh u1 u2 u3 u4 u5 u6 u7 u8 xc xk clo cro c4 c5 c6 c7 c8 xn n1 n2 n3 n4 n5 vp vn rl Ml y_2 a2 a3 (by first | with_reducible assumption | omega | assumption) (by first | with_reducible assumption | omega | assumption) (by first | with_reducible assumption | assumption | omega) (by first | with_reducible assumption | assumption | omega) (by first | with_reducible assumption | omega | assumption) (by first | with_reducible assumption | assumption | omega) (by first | with_reducible assumption | assumption | omega)) (cwV 3 hts gX7_chooseForDense_X7_chooseForDense rfl rfl rfl ⟨rfl, hd_X7_chooseForDense⟩ ⟨Nat.le_of_ble_eq_true rfl, Nat.le_of_ble_eq_true rfl⟩) ⟨bl_g, va_recvX hK.1 hP (ci := 7) (q0 := 0) rfl rfl, fun U hU hW => ⟨rfl, by rw [hU], by rw [hU]; exact hPc, ⟨kk_mv hW hK, arrOfT_moved hW.alike hG⟩, hDw⟩⟩ rfl rfl hl.1 rfl (lv_room (Nat.le_of_ble_eq_true rfl)) dB_36_1_62.2.2.1.2 ⟨Nat.le_of_ble_eq_true rfl, Nat.le_of_ble_eq_true rfl⟩) hS (fun q _ h => hFc q h) hFc (fun u t H locs ht hvm hw hB hz1 hk1 hS => ?_)
    obtain ⟨v7_4, v8_5, g_6, hP1, hD1⟩ := hB
    rw [ht] at hP1
    obtain ⟨hP, hD⟩ := va_join (wr := []) (w1 := [ob7_0_ xh xc u1 u2 u3 u4 u5 u6 v7_4 v8_5, ob0_0_ xc xn xk clo cro c4 c5 c6 c7 c8, ob3_0_ xn vp vn n1 n2 n3 n4 n5, aq_ cy 6 clo 12 (gf_ rl), ai_ cy (rl 0) 12 (Ml 0), ai_ cy (rl 1) 12 (Ml 1), ai_ cy (rl 2) 12 (Ml 2), ai_ cy (rl 3) 12 (Ml 3), ai_ cy (rl 4) 12 (Ml 4), ai_ cy (rl 5) 12 (Ml 5), ai_ cy (rl 6) 12 (Ml 6), ai_ cy (rl 7) 12 (Ml 7), ai_ cy (rl 8) 12 (Ml 8), ai_ cy (rl 9) 12 (Ml 9), ai_ cy (rl 10) 12 (Ml 10), ai_ cy (rl 11) 12 (Ml 11)]) hP hD [0, 1, 2, 3, 4, 5, 6, 7, 8, 9, 10, 11, 12, 13, 14, 15] [] hC_ rfl (by decide) (by decide) hk1 hFc hP1 hD1
    refine pd_K [ob7_0_ xh xc u1 u2 u3 u4 u5 u6 v7_4 v8_5, ob0_0_ xc xn xk clo cro c4 c5 c6 c7 c8, ob3_0_ xn vp vn n1 n2 n3 n4 n5, aq_ cy 6 clo 12 (gf_ rl), ai_ cy (rl 0) 12 (Ml 0), ai_ cy (rl 1) 12 (Ml 1), ai_ cy (rl 2) 12 (Ml 2), ai_ cy (rl 3) 12 (Ml 3), ai_ cy (rl 4) 12 (Ml 4), ai_ cy (rl 5) 12 (Ml 5), ai_ cy (rl 6) 12 (Ml 6), ai_ cy (rl 7) 12 (Ml 7), ai_ cy (rl 8) 12 (Ml 8), ai_ cy (rl 9) 12 (Ml 9), ai_ cy (rl 10) 12 (Ml 10), ai_ cy (rl 11) 12 (Ml 11)] hP hD (fun hP hD => ?_)
    have hs1_ := dS_to g_6 (show _ = a2.toNatClampNeg + 2 ^ a1.toNatClampNeg by rw [hKr_])
    refine lv_aload_n hx hb dB_36_1_62.2.2.2.1 rfl (lv_at hl 0 rfl) ?_
    refine lv_iload_n hx hb dB_36_1_62.2.2.2.2 rfl (lv_at hl 1 rfl) ?_
    refine lv_iconst (v := 1) hx hb dB_36_1_63.1.1.1 (by decide) ?_
    refine lv_isub hx hb dB_36_1_63.1.1.2.1 ?_
    refine lv_topi (fun y_7 ey_7 => ?_)
    have e_ := (ey_7.trans ey_2.symm).symm
    subst e_
    refine lv_iload_n hx hb dB_36_1_63.1.1.2.2 rfl (lv_at hl 2 rfl) ?_
    refine lv_iconst (v := 1) hx hb dB_36_1_63.1.2.1.1 (by decide) ?_
    refine lv_iload_n hx hb dB_36_1_63.1.2.1.2 rfl (lv_at hl 1 rfl) ?_
    refine lv_ishl hx hb dB_36_1_63.1.2.2.1 ?_
    refine lv_topi (fun y_8 ey_8 => ?_)
    refine lv_ior hx hb dB_36_1_63.1.2.2.2 ?_
    refine lv_topi (fun y_9 ey_9 => ?_)
    refine lv_iload_n hx hb dB_36_1_63.2.1.1.1 rfl (lv_at hl 3 rfl) ?_
    refine lv_aload_n hx hb dB_36_1_63.2.1.1.2 rfl (lv_at hl 0 rfl) ?_
    refine lv_iload_n hx hb dB_36_1_63.2.1.2.1 rfl (lv_at hl 1 rfl) ?_
    refine lv_iload_n hx hb dB_36_1_63.2.1.2.2 rfl (lv_at hl 2 rfl) ?_
    refine ct_R hP hD [ob7_0_ xh xc u1 u2 u3 u4 u5 u6 v7_4 v8_5, ob0_0_ xc xn xk clo cro c4 c5 c6 c7 c8, ob3_0_ xn vp vn n1 n2 n3 n4 n5, aq_ cy 6 clo 12 (gf_ rl), ai_ cy (rl 0) 12 (Ml 0), ai_ cy (rl 1) 12 (Ml 1), ai_ cy (rl 2) 12 (Ml 2), ai_ cy (rl 3) 12 (Ml 3), ai_ cy (rl 4) 12 (Ml 4), ai_ cy (rl 5) 12 (Ml 5), ai_ cy (rl 6) 12 (Ml 6), ai_ cy (rl 7) 12 (Ml 7), ai_ cy (rl 8) 12 (Ml 8), ai_ cy (rl 9) 12 (Ml 9), ai_ cy (rl 10) 12 (Ml 10), ai_ cy (rl 11) 12 (Ml 11)] [0, 1, 2, 3, 4, 5, 6, 7, 8, 9, 10, 11, 12, 13, 14, 15] (by decide +kernel) rfl (fun hPc hDw => ?_)
    have hFc := va_free (wc := []) hD hS hA [] rfl
    refine va_calli (va_runV (As := [.int a1, .int a2]) (rest := [.int a3, .int y_9, .int y_2, .ref xh]) ⟨hx, hb, hml, hown, hts⟩ (c_X7_letIn2 l D cy H.size xh u1 u2 u3 u4 u5 u6 v7_4 v8_5 xc xk clo cro c4 c5 c6 c7 c8 xn n1 n2 n3 n4 n5 vp vn rl Ml a1 a2 (by first | with_reducible assumption | omega | assumption) (by first | with_reducible assumption | omega | assumption) (by first | with_reducible assumption | assumption | omega)) (cwV 2 hts gX7_chooseForDense_X7_letIn rfl rfl rfl ⟨rfl, hd_X7_letIn⟩ ⟨Nat.le_of_ble_eq_true rfl, Nat.le_of_ble_eq_true rfl⟩) ⟨bl_g, va_recvX hK.1 hP (ci := 7) (q0 := 0) rfl rfl, fun U hU hW => ⟨rfl, by rw [hU], by rw [hU]; exact hPc, ⟨kk_mv hW hK, arrOfT_moved hW.alike hG⟩, hDw⟩⟩ rfl rfl hl.1 rfl (lv_room (Nat.le_of_ble_eq_true rfl)) dB_36_1_63.2.2.1.1 ⟨Nat.le_of_ble_eq_true rfl, Nat.le_of_ble_eq_true rfl⟩) hS (fun q _ h => hFc q h) hFc (fun r_10 u t H locs ht hvm hw hB hz1 hk1 hS => ?_)
    have hP : va_P D vwCl _ H := ro_keep hP hk1
    obtain ⟨f0_r_10, f1_r_10⟩ := hw
    refine lv_iadd hx hb dB_36_1_63.2.2.1.2 ?_
    refine lv_topi (fun y_11 ey_11 => ?_)
    have ty_11 : y_11.toInt = a3.toInt + r_10.toInt := by rw [ey_11]; exact addI (by omega) (by omega)
    have hKq_ : (y_2.toInt + 1).toNat = a1.toNatClampNeg := by omega
    have hin_ := hdn_in hh1_ (by omega) (by omega) ey_8 ey_9 ty_11 f0_r_10
    have hrh2_ : hdn (zM Ml) vp.toNatClampNeg (y_2.toInt + 1).toNat y_9 y_11.toInt := by rw [hKq_]; exact hin_.1
    have hrs_ : dS_ (wN (zM Ml) vp.toNatClampNeg) bN y_9.toNatClampNeg v7_4 v8_5 := dS_to hs1_ hin_.2.symm
    refine ct_S hP hD hS hA [ob7_0_ xh xc u1 u2 u3 u4 u5 u6 v7_4 v8_5, ob0_0_ xc xn xk clo cro c4 c5 c6 c7 c8, ob3_0_ xn vp vn n1 n2 n3 n4 n5, aq_ cy 6 clo 12 (gf_ rl), ai_ cy (rl 0) 12 (Ml 0), ai_ cy (rl 1) 12 (Ml 1), ai_ cy (rl 2) 12 (Ml 2), ai_ cy (rl 3) 12 (Ml 3), ai_ cy (rl 4) 12 (Ml 4), ai_ cy (rl 5) 12 (Ml 5), ai_ cy (rl 6) 12 (Ml 6), ai_ cy (rl 7) 12 (Ml 7), ai_ cy (rl 8) 12 (Ml 8), ai_ cy (rl 9) 12 (Ml 9), ai_ cy (rl 10) 12 (Ml 10), ai_ cy (rl 11) 12 (Ml 11)] [0, 1, 2, 3, 4, 5, 6, 7, 8, 9, 10, 11, 12, 13, 14, 15] (by decide +kernel) rfl (fun hPc hDw hFc hC_ => ?_)
    refine va_callv (va_runV (As := [.int y_2, .int y_9, .int y_11]) (rest := []) ⟨hx, hb, hml, hown, hts⟩ (c_X7_chooseForDense2_6 l D cy H.size xh u1 u2 u3 u4 u5 u6 v7_4 v8_5 xc xk clo cro c4 c5 c6 c7 c8 xn n1 n2 n3 n4 n5 vp vn rl Ml y_2 y_9 y_11 (by first | with_reducible assumption | omega | assumption) (by first | with_reducible assumption | omega | assumption) (by first | with_reducible assumption | assumption | omega) (by first | with_reducible assumption | assumption | omega) (by first | with_reducible assumption | omega | assumption) (by first | with_reducible assumption | assumption | omega) (by first | with_reducible assumption | assumption | omega)) (cwV 3 hts gX7_chooseForDense_X7_chooseForDense rfl rfl rfl ⟨rfl, hd_X7_chooseForDense⟩ ⟨Nat.le_of_ble_eq_true rfl, Nat.le_of_ble_eq_true rfl⟩) ⟨bl_g, va_recvX hK.1 hP (ci := 7) (q0 := 0) rfl rfl, fun U hU hW => ⟨rfl, by rw [hU], by rw [hU]; exact hPc, ⟨kk_mv hW hK, arrOfT_moved hW.alike hG⟩, hDw⟩⟩ rfl rfl hl.1 rfl (lv_room (Nat.le_of_ble_eq_true rfl)) dB_36_1_63.2.2.2.1 ⟨Nat.le_of_ble_eq_true rfl, Nat.le_of_ble_eq_true rfl⟩) hS (fun q _ h => hFc q h) hFc (fun u t H locs ht hvm hw hB hz1 hk1 hS => ?_)
    obtain ⟨v7_13, v8_14, g_15, hP1, hD1⟩ := hB
    rw [ht] at hP1
    obtain ⟨hP, hD⟩ := va_join (wr := []) (w1 := [ob7_0_ xh xc u1 u2 u3 u4 u5 u6 v7_13 v8_14, ob0_0_ xc xn xk clo cro c4 c5 c6 c7 c8, ob3_0_ xn vp vn n1 n2 n3 n4 n5, aq_ cy 6 clo 12 (gf_ rl), ai_ cy (rl 0) 12 (Ml 0), ai_ cy (rl 1) 12 (Ml 1), ai_ cy (rl 2) 12 (Ml 2), ai_ cy (rl 3) 12 (Ml 3), ai_ cy (rl 4) 12 (Ml 4), ai_ cy (rl 5) 12 (Ml 5), ai_ cy (rl 6) 12 (Ml 6), ai_ cy (rl 7) 12 (Ml 7), ai_ cy (rl 8) 12 (Ml 8), ai_ cy (rl 9) 12 (Ml 9), ai_ cy (rl 10) 12 (Ml 10), ai_ cy (rl 11) 12 (Ml 11)]) hP hD [0, 1, 2, 3, 4, 5, 6, 7, 8, 9, 10, 11, 12, 13, 14, 15] [] hC_ rfl (by decide) (by decide) hk1 hFc hP1 hD1
    refine pd_K [ob7_0_ xh xc u1 u2 u3 u4 u5 u6 v7_13 v8_14, ob0_0_ xc xn xk clo cro c4 c5 c6 c7 c8, ob3_0_ xn vp vn n1 n2 n3 n4 n5, aq_ cy 6 clo 12 (gf_ rl), ai_ cy (rl 0) 12 (Ml 0), ai_ cy (rl 1) 12 (Ml 1), ai_ cy (rl 2) 12 (Ml 2), ai_ cy (rl 3) 12 (Ml 3), ai_ cy (rl 4) 12 (Ml 4), ai_ cy (rl 5) 12 (Ml 5), ai_ cy (rl 6) 12 (Ml 6), ai_ cy (rl 7) 12 (Ml 7), ai_ cy (rl 8) 12 (Ml 8), ai_ cy (rl 9) 12 (Ml 9), ai_ cy (rl 10) 12 (Ml 10), ai_ cy (rl 11) 12 (Ml 11)] hP hD (fun hP hD => ?_)
    rw [hQ]
    exact W.vret hx hb hr (fun t ht hW => ⟨⟨(), rfl, trivial, v7_13, v8_14, (dS_to g_15 (by rw [hKq_, hin_.2, pw_K hK_]; omega)), by rw [ht]; exact hP, hD⟩, hS.F ht⟩) hS.2.2 dB_36_1_63.2.2.2.2
  · have t_1 : ¬ (0 : Int32).toInt ≤ a1.toInt := fun h => c_1 (Int32.le_iff_toInt_le.mpr h)
    have hK_ : (a1.toInt + 1).toNat = 0 := by omega
    have hh0_ : hdn (zM Ml) vp.toNatClampNeg 0 a2 a3.toInt := by rw [hK_] at hh; exact hh
    have hlf_ := hdn_leaf hh0_ (by omega)
    have cA2_ := clI (i := a2) (by omega)
    have hsm_ := hlf_.1
    refine lv_aload_n hx hb dB_36_1_62.1.1.2.1 rfl (lv_at hl 0 rfl) ?_
    refine lv_iload_n hx hb dB_36_1_62.1.1.2.2 rfl (lv_at hl 2 rfl) ?_
    refine lv_iload_n hx hb dB_36_1_62.1.2.1.1 rfl (lv_at hl 3 rfl) ?_
    refine ct_S hP hD hS hA [ob7_0_ xh xc u1 u2 u3 u4 u5 u6 u7 u8] [0] (by decide) rfl (fun hPc hDw hFc hC_ => ?_)
    refine va_callv (va_runV (As := [.int a2, .int a3]) (rest := []) ⟨hx, hb, hml, hown, hts⟩ (c_X7_compareDense2 l D cy s.heap.size xh u1 u2 u3 u4 u5 u6 u7 u8 xc (wN (zM Ml) vp.toNatClampNeg) a2 a3 (by first | with_reducible assumption | omega | assumption) (by first | with_reducible assumption | assumption | omega) (by first | with_reducible assumption | assumption | omega) (by first | with_reducible assumption | assumption | omega) (by first | with_reducible assumption | omega | assumption) (by first | with_reducible assumption | omega | assumption)) (cwV 2 hts gX7_chooseForDense_X7_compareDense rfl rfl rfl ⟨rfl, hd_X7_compareDense⟩ ⟨Nat.le_of_ble_eq_true rfl, Nat.le_of_ble_eq_true rfl⟩) ⟨bl_, va_recvX hK.1 hP (ci := 7) (q0 := 0) rfl rfl, fun U hU hW => ⟨rfl, by rw [hU], by rw [hU]; exact hPc, kk_mv hW hK, hDw⟩⟩ rfl rfl hl.1 rfl (lv_room (Nat.le_of_ble_eq_true rfl)) dB_36_1_62.1.2.1.2 ⟨Nat.le_of_ble_eq_true rfl, Nat.le_of_ble_eq_true rfl⟩) hS (fun q _ h => hFc q h) hFc (fun u t H locs ht hvm hw hB hz1 hk1 hS => ?_)
    obtain ⟨v7_17, v8_18, g_19, hP1, hD1⟩ := hB
    rw [ht] at hP1
    obtain ⟨hP, hD⟩ := va_join (wr := [ob0_0_ xc xn xk clo cro c4 c5 c6 c7 c8, ob3_0_ xn vp vn n1 n2 n3 n4 n5, aq_ cy 6 clo 12 (gf_ rl), ai_ cy (rl 0) 12 (Ml 0), ai_ cy (rl 1) 12 (Ml 1), ai_ cy (rl 2) 12 (Ml 2), ai_ cy (rl 3) 12 (Ml 3), ai_ cy (rl 4) 12 (Ml 4), ai_ cy (rl 5) 12 (Ml 5), ai_ cy (rl 6) 12 (Ml 6), ai_ cy (rl 7) 12 (Ml 7), ai_ cy (rl 8) 12 (Ml 8), ai_ cy (rl 9) 12 (Ml 9), ai_ cy (rl 10) 12 (Ml 10), ai_ cy (rl 11) 12 (Ml 11)]) (w1 := [ob7_0_ xh xc u1 u2 u3 u4 u5 u6 v7_17 v8_18]) hP hD [0] [1, 2, 3, 4, 5, 6, 7, 8, 9, 10, 11, 12, 13, 14, 15] hC_ rfl (by decide +kernel) (by decide +kernel) hk1 hFc hP1 hD1
    refine pd_S hP hD [ob7_0_ xh xc u1 u2 u3 u4 u5 u6 v7_17 v8_18, ob0_0_ xc xn xk clo cro c4 c5 c6 c7 c8, ob3_0_ xn vp vn n1 n2 n3 n4 n5, aq_ cy 6 clo 12 (gf_ rl), ai_ cy (rl 0) 12 (Ml 0), ai_ cy (rl 1) 12 (Ml 1), ai_ cy (rl 2) 12 (Ml 2), ai_ cy (rl 3) 12 (Ml 3), ai_ cy (rl 4) 12 (Ml 4), ai_ cy (rl 5) 12 (Ml 5), ai_ cy (rl 6) 12 (Ml 6), ai_ cy (rl 7) 12 (Ml 7), ai_ cy (rl 8) 12 (Ml 8), ai_ cy (rl 9) 12 (Ml 9), ai_ cy (rl 10) 12 (Ml 10), ai_ cy (rl 11) 12 (Ml 11)] [15, 0, 1, 2, 3, 4, 5, 6, 7, 8, 9, 10, 11, 12, 13, 14] (by decide +kernel) rfl (fun hP hD => ?_)
    rw [hQ]
    exact W.vret hx hb hr (fun t ht hW => ⟨⟨(), rfl, trivial, v7_17, v8_18, (dS_to g_19 (by rw [hK_])), by rw [ht]; exact hP, hD⟩, hS.F ht⟩) hS.2.2 dB_36_1_62.1.2.2.1

set_option maxHeartbeats 4000000 in
set_option maxRecDepth 100000 in
theorem c_X7_chooseForDense2_8 (l : Launch) (D : va_G) (cy : Nat → ClassId) (sz : Nat) (xh : Nat) (u1 : Int32) (u2 : Int32) (u3 : Int32) (u4 : Int32) (u5 : Int32) (u6 : Int32) (u7 : Int32) (u8 : Int32) (xc : Nat) (xk : Nat) (clo : Nat) (cro : Nat) (c4 : Nat) (c5 : Nat) (c6 : Nat) (c7 : Nat) (c8 : Nat) (xn : Nat) (n1 : Nat) (n2 : Nat) (n3 : Nat) (n4 : Nat) (n5 : Nat) (vp : Int32) (vn : Int32) (rl : Nat → Nat) (Ml : Nat → Nat → Int32) (a1 : Int32) (a2 : Int32) (a3 : Int32) (hvp : 0 ≤ vp.toInt ∧ vp.toInt ≤ 12) (q1 : -1 ≤ a1.toInt ∧ a1.toInt < 8) (hM : ∀ x y : Nat, x < vp.toNatClampNeg → y < vp.toNatClampNeg → 0 ≤ zM Ml x y ∧ zM Ml x y ≤ 80000000) (hB : ∀ n : Nat, 0 ≤ wN (zM Ml) vp.toNatClampNeg n ∧ wN (zM Ml) vp.toNatClampNeg n ≤ 100000) (hB0 : wN (zM Ml) vp.toNatClampNeg 0 = 0) (hh : hdn (zM Ml) vp.toNatClampNeg (a1.toInt + 1).toNat a2 a3.toInt) (hs : dS_ (wN (zM Ml) vp.toNatClampNeg) bN a2.toNatClampNeg u7 u8) : Met l yX7_chooseForDense wsX7_chooseForDense ({ frames := 10, cells := 0, slots := 0, locals := 230 }) (va_Pc [.ref xh, .int a1, .int a2, .int a3] (fun U => U.heap.size = sz ∧ va_P D vwCl [ob7_0_ xh xc u1 u2 u3 u4 u5 u6 u7 u8, ob0_0_ xc xn xk clo cro c4 c5 c6 c7 c8, ob3_0_ xn vp vn n1 n2 n3 n4 n5, aq_ cy 6 clo 12 (gf_ rl), ai_ cy (rl 0) 12 (Ml 0), ai_ cy (rl 1) 12 (Ml 1), ai_ cy (rl 2) 12 (Ml 2), ai_ cy (rl 3) 12 (Ml 3), ai_ cy (rl 4) 12 (Ml 4), ai_ cy (rl 5) 12 (Ml 5), ai_ cy (rl 6) 12 (Ml 6), ai_ cy (rl 7) 12 (Ml 7), ai_ cy (rl 8) 12 (Ml 8), ai_ cy (rl 9) 12 (Ml 9), ai_ cy (rl 10) 12 (Ml 10), ai_ cy (rl 11) 12 (Ml 11)] U.heap ∧ kg_ D cy U ∧ va_D (fun _ => True) [ob7_0_ xh xc u1 u2 u3 u4 u5 u6 u7 u8, ob0_0_ xc xn xk clo cro c4 c5 c6 c7 c8, ob3_0_ xn vp vn n1 n2 n3 n4 n5, aq_ cy 6 clo 12 (gf_ rl), ai_ cy (rl 0) 12 (Ml 0), ai_ cy (rl 1) 12 (Ml 1), ai_ cy (rl 2) 12 (Ml 2), ai_ cy (rl 3) 12 (Ml 3), ai_ cy (rl 4) 12 (Ml 4), ai_ cy (rl 5) 12 (Ml 5), ai_ cy (rl 6) 12 (Ml 6), ai_ cy (rl 7) 12 (Ml 7), ai_ cy (rl 8) 12 (Ml 8), ai_ cy (rl 9) 12 (Ml 9), ai_ cy (rl 10) 12 (Ml 10), ai_ cy (rl 11) 12 (Ml 11)])) (va_Qv (fun (_ : Unit) => True) (fun (_ : Unit) (t : State) => ∃ (v7 : Int32), ∃ (v8 : Int32), (dS_ (wN (zM Ml) vp.toNatClampNeg) bN (a2.toNatClampNeg + 2 ^ (a1.toInt + 1).toNat) v7 v8) ∧ va_P D vwCl [ob7_0_ xh xc u1 u2 u3 u4 u5 u6 v7 v8, ob0_0_ xc xn xk clo cro c4 c5 c6 c7 c8, ob3_0_ xn vp vn n1 n2 n3 n4 n5, aq_ cy 6 clo 12 (gf_ rl), ai_ cy (rl 0) 12 (Ml 0), ai_ cy (rl 1) 12 (Ml 1), ai_ cy (rl 2) 12 (Ml 2), ai_ cy (rl 3) 12 (Ml 3), ai_ cy (rl 4) 12 (Ml 4), ai_ cy (rl 5) 12 (Ml 5), ai_ cy (rl 6) 12 (Ml 6), ai_ cy (rl 7) 12 (Ml 7), ai_ cy (rl 8) 12 (Ml 8), ai_ cy (rl 9) 12 (Ml 9), ai_ cy (rl 10) 12 (Ml 10), ai_ cy (rl 11) 12 (Ml 11)] t.heap ∧ va_D (va_A [ob7_0_ xh xc u1 u2 u3 u4 u5 u6 u7 u8, ob0_0_ xc xn xk clo cro c4 c5 c6 c7 c8, ob3_0_ xn vp vn n1 n2 n3 n4 n5, aq_ cy 6 clo 12 (gf_ rl), ai_ cy (rl 0) 12 (Ml 0), ai_ cy (rl 1) 12 (Ml 1), ai_ cy (rl 2) 12 (Ml 2), ai_ cy (rl 3) 12 (Ml 3), ai_ cy (rl 4) 12 (Ml 4), ai_ cy (rl 5) 12 (Ml 5), ai_ cy (rl 6) 12 (Ml 6), ai_ cy (rl 7) 12 (Ml 7), ai_ cy (rl 8) 12 (Ml 8), ai_ cy (rl 9) 12 (Ml 9), ai_ cy (rl 10) 12 (Ml 10), ai_ cy (rl 11) 12 (Ml 11)] sz) [ob7_0_ xh xc u1 u2 u3 u4 u5 u6 v7 v8, ob0_0_ xc xn xk clo cro c4 c5 c6 c7 c8, ob3_0_ xn vp vn n1 n2 n3 n4 n5, aq_ cy 6 clo 12 (gf_ rl), ai_ cy (rl 0) 12 (Ml 0), ai_ cy (rl 1) 12 (Ml 1), ai_ cy (rl 2) 12 (Ml 2), ai_ cy (rl 3) 12 (Ml 3), ai_ cy (rl 4) 12 (Ml 4), ai_ cy (rl 5) 12 (Ml 5), ai_ cy (rl 6) 12 (Ml 6), ai_ cy (rl 7) 12 (Ml 7), ai_ cy (rl 8) 12 (Ml 8), ai_ cy (rl 9) 12 (Ml 9), ai_ cy (rl 10) 12 (Ml 10), ai_ cy (rl 11) 12 (Ml 11)]) (va_A [ob7_0_ xh xc u1 u2 u3 u4 u5 u6 u7 u8, ob0_0_ xc xn xk clo cro c4 c5 c6 c7 c8, ob3_0_ xn vp vn n1 n2 n3 n4 n5, aq_ cy 6 clo 12 (gf_ rl), ai_ cy (rl 0) 12 (Ml 0), ai_ cy (rl 1) 12 (Ml 1), ai_ cy (rl 2) 12 (Ml 2), ai_ cy (rl 3) 12 (Ml 3), ai_ cy (rl 4) 12 (Ml 4), ai_ cy (rl 5) 12 (Ml 5), ai_ cy (rl 6) 12 (Ml 6), ai_ cy (rl 7) 12 (Ml 7), ai_ cy (rl 8) 12 (Ml 8), ai_ cy (rl 9) 12 (Ml 9), ai_ cy (rl 10) 12 (Ml 10), ai_ cy (rl 11) 12 (Ml 11)] sz)) 0 0 (va_A [ob7_0_ xh xc u1 u2 u3 u4 u5 u6 u7 u8, ob0_0_ xc xn xk clo cro c4 c5 c6 c7 c8, ob3_0_ xn vp vn n1 n2 n3 n4 n5, aq_ cy 6 clo 12 (gf_ rl), ai_ cy (rl 0) 12 (Ml 0), ai_ cy (rl 1) 12 (Ml 1), ai_ cy (rl 2) 12 (Ml 2), ai_ cy (rl 3) 12 (Ml 3), ai_ cy (rl 4) 12 (Ml 4), ai_ cy (rl 5) 12 (Ml 5), ai_ cy (rl 6) 12 (Ml 6), ai_ cy (rl 7) 12 (Ml 7), ai_ cy (rl 8) 12 (Ml 8), ai_ cy (rl 9) 12 (Ml 9), ai_ cy (rl 10) 12 (Ml 10), ai_ cy (rl 11) 12 (Ml 11)] sz) := by
  refine ofQ (cc := cX7_chooseForDense) (maxL := 4) (ret := none) (by decide) rfl ?_
  intro p e s m args below meth c s₁ Q hQ B hml hv
  obtain ⟨rfl, hsz, hP, hK, hD0⟩ := hv
  have hG := hK.2
  have hK := hK.1
  have hx := B.exec
  have hb := B.bytes
  have hr := B.returns
  have hts := atoms_spec (ws := wsX7_chooseForDense) B.pre
  have hown : s.vm.findClass RX7 = some m.cls := by have h_ := findClass_of_methodNamed B.named; exact h_
  have hlocks := B.notSynchronized
  subst hsz
  have hD := hD0.self (sz := s.heap.size)
  generalize hAe : va_A [ob7_0_ xh xc u1 u2 u3 u4 u5 u6 u7 u8, ob0_0_ xc xn xk clo cro c4 c5 c6 c7 c8, ob3_0_ xn vp vn n1 n2 n3 n4 n5, aq_ cy 6 clo 12 (gf_ rl), ai_ cy (rl 0) 12 (Ml 0), ai_ cy (rl 1) 12 (Ml 1), ai_ cy (rl 2) 12 (Ml 2), ai_ cy (rl 3) 12 (Ml 3), ai_ cy (rl 4) 12 (Ml 4), ai_ cy (rl 5) 12 (Ml 5), ai_ cy (rl 6) 12 (Ml 6), ai_ cy (rl 7) 12 (Ml 7), ai_ cy (rl 8) 12 (Ml 8), ai_ cy (rl 9) 12 (Ml 9), ai_ cy (rl 10) 12 (Ml 10), ai_ cy (rl 11) 12 (Ml 11)] s.heap.size = A at hD hQ
  have hA : ∀ q : Nat, s.heap.size ≤ q → A q := fun q h => by rw [← hAe]; exact Or.inr h
  have hS : va_S A s.heap s.heap [] := va_S.rf
  have hl := lv_entry ([.ref xh, .int a1, .int a2, .int a3]) (n := 4) (Nat.le_of_ble_eq_true rfl)
  rw [lg_entry_eq]
  generalize (lg_sl ([.ref xh, .int a1, .int a2, .int a3]) ++ List.replicate (4 - (lg_sl ([.ref xh, .int a1, .int a2, .int a3])).length) Slot.unset).toArray = ls at hl ⊢
  have hl : lv_has ls 4 [(0, .ref xh), (1, .int a1), (2, .int a2), (3, .int a3)] := hl
  have z0 : (0 : Int32).toInt = 0 := by decide
  have z1 : (1 : Int32).toInt = 1 := by decide
  have cv_ := clI (i := vp) (by omega)
  have hnn_ : ∀ x y : Nat, x < vp.toNatClampNeg → y < vp.toNatClampNeg → 0 ≤ zM Ml x y := fun x y hx hy => (hM x y hx hy).1
  have ha3_ := hdn_bd hh (by omega) hnn_ hB
  have h7r_ : 0 ≤ u7.toInt ∧ u7.toInt < 4096 := by have h1_ := hs.1; have h2_ := dnz_lt (W := (wN (zM Ml) vp.toNatClampNeg)) (b := bN) a2.toNatClampNeg; have h3_ := hnt_lt (hdn_hnt hh) (by omega); omega
  refine lv_iload_n hx hb dB_36_1_62.1.1.1.1 rfl (lv_at hl 1 rfl) ?_
  refine lv_if_ge (tgt := 11) hx hb dB_36_1_62.1.1.1.2 (by decide) (fun c_1 => ?_) (fun c_1 => ?_)
  · have t_1 : (0 : Int32).toInt ≤ a1.toInt := Int32.le_iff_toInt_le.mp c_1
    have cp_ := clI (i := a1) (by omega)
    have hK_ : (a1.toInt + 1).toNat = a1.toNatClampNeg + 1 := by omega
    have hh1_ : hdn (zM Ml) vp.toNatClampNeg (a1.toNatClampNeg + 1) a2 a3.toInt := by rw [hK_] at hh; exact hh
    have hap_ : a1.toInt < vp.toInt := by have h_ := hh1_.1; omega
    refine lv_aload_n hx hb dB_36_1_62.1.2.2.2 rfl (lv_at hl 0 rfl) ?_
    refine lv_iload_n hx hb dB_36_1_62.2.1.1.1 rfl (lv_at hl 1 rfl) ?_
    refine lv_iconst (v := 1) hx hb dB_36_1_62.2.1.1.2 (by decide) ?_
    refine lv_isub hx hb dB_36_1_62.2.1.2.1 ?_
    refine lv_topi (fun y_2 ey_2 => ?_)
    have ty_2 : y_2.toInt = a1.toInt - (1 : Int32).toInt := by rw [ey_2]; exact subI (by omega) (by omega)
    refine lv_iload_n hx hb dB_36_1_62.2.1.2.2 rfl (lv_at hl 2 rfl) ?_
    refine lv_iload_n hx hb dB_36_1_62.2.2.1.1 rfl (lv_at hl 3 rfl) ?_
    have hKr_ : (y_2.toInt + 1).toNat = a1.toNatClampNeg := by omega
    have hrh_ : hdn (zM Ml) vp.toNatClampNeg (y_2.toInt + 1).toNat a2 a3.toInt := by rw [hKr_]; exact hdn_out hh1_
    refine ct_S hP hD hS hA [ob7_0_ xh xc u1 u2 u3 u4 u5 u6 u7 u8, ob0_0_ xc xn xk clo cro c4 c5 c6 c7 c8, ob3_0_ xn vp vn n1 n2 n3 n4 n5, aq_ cy 6 clo 12 (gf_ rl), ai_ cy (rl 0) 12 (Ml 0), ai_ cy (rl 1) 12 (Ml 1), ai_ cy (rl 2) 12 (Ml 2), ai_ cy (rl 3) 12 (Ml 3), ai_ cy (rl 4) 12 (Ml 4), ai_ cy (rl 5) 12 (Ml 5), ai_ cy (rl 6) 12 (Ml 6), ai_ cy (rl 7) 12 (Ml 7), ai_ cy (rl 8) 12 (Ml 8), ai_ cy (rl 9) 12 (Ml 9), ai_ cy (rl 10) 12 (Ml 10), ai_ cy (rl 11) 12 (Ml 11)] [0, 1, 2, 3, 4, 5, 6, 7, 8, 9, 10, 11, 12, 13, 14, 15] (by decide +kernel) rfl (fun hPc hDw hFc hC_ => ?_)
    refine va_callv (va_runV (As := [.int y_2, .int a2, .int a3]) (rest := []) ⟨hx, hb, hml, hown, hts⟩ (c_X7_chooseForDense2_7 l D cy s.heap.size xh u1 u2 u3 u4 u5 u6 u7 u8 xc xk clo cro c4 c5 c6 c7 c8 xn n1 n2 n3 n4 n5 vp vn rl Ml y_2 a2 a3 (by first | with_reducible assumption | omega | assumption) (by first | with_reducible assumption | omega | assumption) (by first | with_reducible assumption | assumption | omega) (by first | with_reducible assumption | assumption | omega) (by first | with_reducible assumption | omega | assumption) (by first | with_reducible assumption | assumption | omega) (by first | with_reducible assumption | assumption | omega)) (cwV 3 hts gX7_chooseForDense_X7_chooseForDense rfl rfl rfl ⟨rfl, hd_X7_chooseForDense⟩ ⟨Nat.le_of_ble_eq_true rfl, Nat.le_of_ble_eq_true rfl⟩) ⟨bl_g, va_recvX hK.1 hP (ci := 7) (q0 := 0) rfl rfl, fun U hU hW => ⟨rfl, by rw [hU], by rw [hU]; exact hPc, ⟨kk_mv hW hK, arrOfT_moved hW.alike hG⟩, hDw⟩⟩ rfl rfl hl.1 rfl (lv_room (Nat.le_of_ble_eq_true rfl)) dB_36_1_62.2.2.1.2 ⟨Nat.le_of_ble_eq_true rfl, Nat.le_of_ble_eq_true rfl⟩) hS (fun q _ h => hFc q h) hFc (fun u t H locs ht hvm hw hB hz1 hk1 hS => ?_)
    obtain ⟨v7_4, v8_5, g_6, hP1, hD1⟩ := hB
    rw [ht] at hP1
    obtain ⟨hP, hD⟩ := va_join (wr := []) (w1 := [ob7_0_ xh xc u1 u2 u3 u4 u5 u6 v7_4 v8_5, ob0_0_ xc xn xk clo cro c4 c5 c6 c7 c8, ob3_0_ xn vp vn n1 n2 n3 n4 n5, aq_ cy 6 clo 12 (gf_ rl), ai_ cy (rl 0) 12 (Ml 0), ai_ cy (rl 1) 12 (Ml 1), ai_ cy (rl 2) 12 (Ml 2), ai_ cy (rl 3) 12 (Ml 3), ai_ cy (rl 4) 12 (Ml 4), ai_ cy (rl 5) 12 (Ml 5), ai_ cy (rl 6) 12 (Ml 6), ai_ cy (rl 7) 12 (Ml 7), ai_ cy (rl 8) 12 (Ml 8), ai_ cy (rl 9) 12 (Ml 9), ai_ cy (rl 10) 12 (Ml 10), ai_ cy (rl 11) 12 (Ml 11)]) hP hD [0, 1, 2, 3, 4, 5, 6, 7, 8, 9, 10, 11, 12, 13, 14, 15] [] hC_ rfl (by decide) (by decide) hk1 hFc hP1 hD1
    refine pd_K [ob7_0_ xh xc u1 u2 u3 u4 u5 u6 v7_4 v8_5, ob0_0_ xc xn xk clo cro c4 c5 c6 c7 c8, ob3_0_ xn vp vn n1 n2 n3 n4 n5, aq_ cy 6 clo 12 (gf_ rl), ai_ cy (rl 0) 12 (Ml 0), ai_ cy (rl 1) 12 (Ml 1), ai_ cy (rl 2) 12 (Ml 2), ai_ cy (rl 3) 12 (Ml 3), ai_ cy (rl 4) 12 (Ml 4), ai_ cy (rl 5) 12 (Ml 5), ai_ cy (rl 6) 12 (Ml 6), ai_ cy (rl 7) 12 (Ml 7), ai_ cy (rl 8) 12 (Ml 8), ai_ cy (rl 9) 12 (Ml 9), ai_ cy (rl 10) 12 (Ml 10), ai_ cy (rl 11) 12 (Ml 11)] hP hD (fun hP hD => ?_)
    have hs1_ := dS_to g_6 (show _ = a2.toNatClampNeg + 2 ^ a1.toNatClampNeg by rw [hKr_])
    refine lv_aload_n hx hb dB_36_1_62.2.2.2.1 rfl (lv_at hl 0 rfl) ?_
    refine lv_iload_n hx hb dB_36_1_62.2.2.2.2 rfl (lv_at hl 1 rfl) ?_
    refine lv_iconst (v := 1) hx hb dB_36_1_63.1.1.1 (by decide) ?_
    refine lv_isub hx hb dB_36_1_63.1.1.2.1 ?_
    refine lv_topi (fun y_7 ey_7 => ?_)
    have e_ := (ey_7.trans ey_2.symm).symm
    subst e_
    refine lv_iload_n hx hb dB_36_1_63.1.1.2.2 rfl (lv_at hl 2 rfl) ?_
    refine lv_iconst (v := 1) hx hb dB_36_1_63.1.2.1.1 (by decide) ?_
    refine lv_iload_n hx hb dB_36_1_63.1.2.1.2 rfl (lv_at hl 1 rfl) ?_
    refine lv_ishl hx hb dB_36_1_63.1.2.2.1 ?_
    refine lv_topi (fun y_8 ey_8 => ?_)
    refine lv_ior hx hb dB_36_1_63.1.2.2.2 ?_
    refine lv_topi (fun y_9 ey_9 => ?_)
    refine lv_iload_n hx hb dB_36_1_63.2.1.1.1 rfl (lv_at hl 3 rfl) ?_
    refine lv_aload_n hx hb dB_36_1_63.2.1.1.2 rfl (lv_at hl 0 rfl) ?_
    refine lv_iload_n hx hb dB_36_1_63.2.1.2.1 rfl (lv_at hl 1 rfl) ?_
    refine lv_iload_n hx hb dB_36_1_63.2.1.2.2 rfl (lv_at hl 2 rfl) ?_
    refine ct_R hP hD [ob7_0_ xh xc u1 u2 u3 u4 u5 u6 v7_4 v8_5, ob0_0_ xc xn xk clo cro c4 c5 c6 c7 c8, ob3_0_ xn vp vn n1 n2 n3 n4 n5, aq_ cy 6 clo 12 (gf_ rl), ai_ cy (rl 0) 12 (Ml 0), ai_ cy (rl 1) 12 (Ml 1), ai_ cy (rl 2) 12 (Ml 2), ai_ cy (rl 3) 12 (Ml 3), ai_ cy (rl 4) 12 (Ml 4), ai_ cy (rl 5) 12 (Ml 5), ai_ cy (rl 6) 12 (Ml 6), ai_ cy (rl 7) 12 (Ml 7), ai_ cy (rl 8) 12 (Ml 8), ai_ cy (rl 9) 12 (Ml 9), ai_ cy (rl 10) 12 (Ml 10), ai_ cy (rl 11) 12 (Ml 11)] [0, 1, 2, 3, 4, 5, 6, 7, 8, 9, 10, 11, 12, 13, 14, 15] (by decide +kernel) rfl (fun hPc hDw => ?_)
    have hFc := va_free (wc := []) hD hS hA [] rfl
    refine va_calli (va_runV (As := [.int a1, .int a2]) (rest := [.int a3, .int y_9, .int y_2, .ref xh]) ⟨hx, hb, hml, hown, hts⟩ (c_X7_letIn2 l D cy H.size xh u1 u2 u3 u4 u5 u6 v7_4 v8_5 xc xk clo cro c4 c5 c6 c7 c8 xn n1 n2 n3 n4 n5 vp vn rl Ml a1 a2 (by first | with_reducible assumption | omega | assumption) (by first | with_reducible assumption | omega | assumption) (by first | with_reducible assumption | assumption | omega)) (cwV 2 hts gX7_chooseForDense_X7_letIn rfl rfl rfl ⟨rfl, hd_X7_letIn⟩ ⟨Nat.le_of_ble_eq_true rfl, Nat.le_of_ble_eq_true rfl⟩) ⟨bl_g, va_recvX hK.1 hP (ci := 7) (q0 := 0) rfl rfl, fun U hU hW => ⟨rfl, by rw [hU], by rw [hU]; exact hPc, ⟨kk_mv hW hK, arrOfT_moved hW.alike hG⟩, hDw⟩⟩ rfl rfl hl.1 rfl (lv_room (Nat.le_of_ble_eq_true rfl)) dB_36_1_63.2.2.1.1 ⟨Nat.le_of_ble_eq_true rfl, Nat.le_of_ble_eq_true rfl⟩) hS (fun q _ h => hFc q h) hFc (fun r_10 u t H locs ht hvm hw hB hz1 hk1 hS => ?_)
    have hP : va_P D vwCl _ H := ro_keep hP hk1
    obtain ⟨f0_r_10, f1_r_10⟩ := hw
    refine lv_iadd hx hb dB_36_1_63.2.2.1.2 ?_
    refine lv_topi (fun y_11 ey_11 => ?_)
    have ty_11 : y_11.toInt = a3.toInt + r_10.toInt := by rw [ey_11]; exact addI (by omega) (by omega)
    have hKq_ : (y_2.toInt + 1).toNat = a1.toNatClampNeg := by omega
    have hin_ := hdn_in hh1_ (by omega) (by omega) ey_8 ey_9 ty_11 f0_r_10
    have hrh2_ : hdn (zM Ml) vp.toNatClampNeg (y_2.toInt + 1).toNat y_9 y_11.toInt := by rw [hKq_]; exact hin_.1
    have hrs_ : dS_ (wN (zM Ml) vp.toNatClampNeg) bN y_9.toNatClampNeg v7_4 v8_5 := dS_to hs1_ hin_.2.symm
    refine ct_S hP hD hS hA [ob7_0_ xh xc u1 u2 u3 u4 u5 u6 v7_4 v8_5, ob0_0_ xc xn xk clo cro c4 c5 c6 c7 c8, ob3_0_ xn vp vn n1 n2 n3 n4 n5, aq_ cy 6 clo 12 (gf_ rl), ai_ cy (rl 0) 12 (Ml 0), ai_ cy (rl 1) 12 (Ml 1), ai_ cy (rl 2) 12 (Ml 2), ai_ cy (rl 3) 12 (Ml 3), ai_ cy (rl 4) 12 (Ml 4), ai_ cy (rl 5) 12 (Ml 5), ai_ cy (rl 6) 12 (Ml 6), ai_ cy (rl 7) 12 (Ml 7), ai_ cy (rl 8) 12 (Ml 8), ai_ cy (rl 9) 12 (Ml 9), ai_ cy (rl 10) 12 (Ml 10), ai_ cy (rl 11) 12 (Ml 11)] [0, 1, 2, 3, 4, 5, 6, 7, 8, 9, 10, 11, 12, 13, 14, 15] (by decide +kernel) rfl (fun hPc hDw hFc hC_ => ?_)
    refine va_callv (va_runV (As := [.int y_2, .int y_9, .int y_11]) (rest := []) ⟨hx, hb, hml, hown, hts⟩ (c_X7_chooseForDense2_7 l D cy H.size xh u1 u2 u3 u4 u5 u6 v7_4 v8_5 xc xk clo cro c4 c5 c6 c7 c8 xn n1 n2 n3 n4 n5 vp vn rl Ml y_2 y_9 y_11 (by first | with_reducible assumption | omega | assumption) (by first | with_reducible assumption | omega | assumption) (by first | with_reducible assumption | assumption | omega) (by first | with_reducible assumption | assumption | omega) (by first | with_reducible assumption | omega | assumption) (by first | with_reducible assumption | assumption | omega) (by first | with_reducible assumption | assumption | omega)) (cwV 3 hts gX7_chooseForDense_X7_chooseForDense rfl rfl rfl ⟨rfl, hd_X7_chooseForDense⟩ ⟨Nat.le_of_ble_eq_true rfl, Nat.le_of_ble_eq_true rfl⟩) ⟨bl_g, va_recvX hK.1 hP (ci := 7) (q0 := 0) rfl rfl, fun U hU hW => ⟨rfl, by rw [hU], by rw [hU]; exact hPc, ⟨kk_mv hW hK, arrOfT_moved hW.alike hG⟩, hDw⟩⟩ rfl rfl hl.1 rfl (lv_room (Nat.le_of_ble_eq_true rfl)) dB_36_1_63.2.2.2.1 ⟨Nat.le_of_ble_eq_true rfl, Nat.le_of_ble_eq_true rfl⟩) hS (fun q _ h => hFc q h) hFc (fun u t H locs ht hvm hw hB hz1 hk1 hS => ?_)
    obtain ⟨v7_13, v8_14, g_15, hP1, hD1⟩ := hB
    rw [ht] at hP1
    obtain ⟨hP, hD⟩ := va_join (wr := []) (w1 := [ob7_0_ xh xc u1 u2 u3 u4 u5 u6 v7_13 v8_14, ob0_0_ xc xn xk clo cro c4 c5 c6 c7 c8, ob3_0_ xn vp vn n1 n2 n3 n4 n5, aq_ cy 6 clo 12 (gf_ rl), ai_ cy (rl 0) 12 (Ml 0), ai_ cy (rl 1) 12 (Ml 1), ai_ cy (rl 2) 12 (Ml 2), ai_ cy (rl 3) 12 (Ml 3), ai_ cy (rl 4) 12 (Ml 4), ai_ cy (rl 5) 12 (Ml 5), ai_ cy (rl 6) 12 (Ml 6), ai_ cy (rl 7) 12 (Ml 7), ai_ cy (rl 8) 12 (Ml 8), ai_ cy (rl 9) 12 (Ml 9), ai_ cy (rl 10) 12 (Ml 10), ai_ cy (rl 11) 12 (Ml 11)]) hP hD [0, 1, 2, 3, 4, 5, 6, 7, 8, 9, 10, 11, 12, 13, 14, 15] [] hC_ rfl (by decide) (by decide) hk1 hFc hP1 hD1
    refine pd_K [ob7_0_ xh xc u1 u2 u3 u4 u5 u6 v7_13 v8_14, ob0_0_ xc xn xk clo cro c4 c5 c6 c7 c8, ob3_0_ xn vp vn n1 n2 n3 n4 n5, aq_ cy 6 clo 12 (gf_ rl), ai_ cy (rl 0) 12 (Ml 0), ai_ cy (rl 1) 12 (Ml 1), ai_ cy (rl 2) 12 (Ml 2), ai_ cy (rl 3) 12 (Ml 3), ai_ cy (rl 4) 12 (Ml 4), ai_ cy (rl 5) 12 (Ml 5), ai_ cy (rl 6) 12 (Ml 6), ai_ cy (rl 7) 12 (Ml 7), ai_ cy (rl 8) 12 (Ml 8), ai_ cy (rl 9) 12 (Ml 9), ai_ cy (rl 10) 12 (Ml 10), ai_ cy (rl 11) 12 (Ml 11)] hP hD (fun hP hD => ?_)
    rw [hQ]
    exact W.vret hx hb hr (fun t ht hW => ⟨⟨(), rfl, trivial, v7_13, v8_14, (dS_to g_15 (by rw [hKq_, hin_.2, pw_K hK_]; omega)), by rw [ht]; exact hP, hD⟩, hS.F ht⟩) hS.2.2 dB_36_1_63.2.2.2.2
  · have t_1 : ¬ (0 : Int32).toInt ≤ a1.toInt := fun h => c_1 (Int32.le_iff_toInt_le.mpr h)
    have hK_ : (a1.toInt + 1).toNat = 0 := by omega
    have hh0_ : hdn (zM Ml) vp.toNatClampNeg 0 a2 a3.toInt := by rw [hK_] at hh; exact hh
    have hlf_ := hdn_leaf hh0_ (by omega)
    have cA2_ := clI (i := a2) (by omega)
    have hsm_ := hlf_.1
    refine lv_aload_n hx hb dB_36_1_62.1.1.2.1 rfl (lv_at hl 0 rfl) ?_
    refine lv_iload_n hx hb dB_36_1_62.1.1.2.2 rfl (lv_at hl 2 rfl) ?_
    refine lv_iload_n hx hb dB_36_1_62.1.2.1.1 rfl (lv_at hl 3 rfl) ?_
    refine ct_S hP hD hS hA [ob7_0_ xh xc u1 u2 u3 u4 u5 u6 u7 u8] [0] (by decide) rfl (fun hPc hDw hFc hC_ => ?_)
    refine va_callv (va_runV (As := [.int a2, .int a3]) (rest := []) ⟨hx, hb, hml, hown, hts⟩ (c_X7_compareDense2 l D cy s.heap.size xh u1 u2 u3 u4 u5 u6 u7 u8 xc (wN (zM Ml) vp.toNatClampNeg) a2 a3 (by first | with_reducible assumption | omega | assumption) (by first | with_reducible assumption | assumption | omega) (by first | with_reducible assumption | assumption | omega) (by first | with_reducible assumption | assumption | omega) (by first | with_reducible assumption | omega | assumption) (by first | with_reducible assumption | omega | assumption)) (cwV 2 hts gX7_chooseForDense_X7_compareDense rfl rfl rfl ⟨rfl, hd_X7_compareDense⟩ ⟨Nat.le_of_ble_eq_true rfl, Nat.le_of_ble_eq_true rfl⟩) ⟨bl_, va_recvX hK.1 hP (ci := 7) (q0 := 0) rfl rfl, fun U hU hW => ⟨rfl, by rw [hU], by rw [hU]; exact hPc, kk_mv hW hK, hDw⟩⟩ rfl rfl hl.1 rfl (lv_room (Nat.le_of_ble_eq_true rfl)) dB_36_1_62.1.2.1.2 ⟨Nat.le_of_ble_eq_true rfl, Nat.le_of_ble_eq_true rfl⟩) hS (fun q _ h => hFc q h) hFc (fun u t H locs ht hvm hw hB hz1 hk1 hS => ?_)
    obtain ⟨v7_17, v8_18, g_19, hP1, hD1⟩ := hB
    rw [ht] at hP1
    obtain ⟨hP, hD⟩ := va_join (wr := [ob0_0_ xc xn xk clo cro c4 c5 c6 c7 c8, ob3_0_ xn vp vn n1 n2 n3 n4 n5, aq_ cy 6 clo 12 (gf_ rl), ai_ cy (rl 0) 12 (Ml 0), ai_ cy (rl 1) 12 (Ml 1), ai_ cy (rl 2) 12 (Ml 2), ai_ cy (rl 3) 12 (Ml 3), ai_ cy (rl 4) 12 (Ml 4), ai_ cy (rl 5) 12 (Ml 5), ai_ cy (rl 6) 12 (Ml 6), ai_ cy (rl 7) 12 (Ml 7), ai_ cy (rl 8) 12 (Ml 8), ai_ cy (rl 9) 12 (Ml 9), ai_ cy (rl 10) 12 (Ml 10), ai_ cy (rl 11) 12 (Ml 11)]) (w1 := [ob7_0_ xh xc u1 u2 u3 u4 u5 u6 v7_17 v8_18]) hP hD [0] [1, 2, 3, 4, 5, 6, 7, 8, 9, 10, 11, 12, 13, 14, 15] hC_ rfl (by decide +kernel) (by decide +kernel) hk1 hFc hP1 hD1
    refine pd_S hP hD [ob7_0_ xh xc u1 u2 u3 u4 u5 u6 v7_17 v8_18, ob0_0_ xc xn xk clo cro c4 c5 c6 c7 c8, ob3_0_ xn vp vn n1 n2 n3 n4 n5, aq_ cy 6 clo 12 (gf_ rl), ai_ cy (rl 0) 12 (Ml 0), ai_ cy (rl 1) 12 (Ml 1), ai_ cy (rl 2) 12 (Ml 2), ai_ cy (rl 3) 12 (Ml 3), ai_ cy (rl 4) 12 (Ml 4), ai_ cy (rl 5) 12 (Ml 5), ai_ cy (rl 6) 12 (Ml 6), ai_ cy (rl 7) 12 (Ml 7), ai_ cy (rl 8) 12 (Ml 8), ai_ cy (rl 9) 12 (Ml 9), ai_ cy (rl 10) 12 (Ml 10), ai_ cy (rl 11) 12 (Ml 11)] [15, 0, 1, 2, 3, 4, 5, 6, 7, 8, 9, 10, 11, 12, 13, 14] (by decide +kernel) rfl (fun hP hD => ?_)
    rw [hQ]
    exact W.vret hx hb hr (fun t ht hW => ⟨⟨(), rfl, trivial, v7_17, v8_18, (dS_to g_19 (by rw [hK_])), by rw [ht]; exact hP, hD⟩, hS.F ht⟩) hS.2.2 dB_36_1_62.1.2.2.1

set_option maxHeartbeats 4000000 in
set_option maxRecDepth 100000 in
theorem c_X7_chooseForDense2_9 (l : Launch) (D : va_G) (cy : Nat → ClassId) (sz : Nat) (xh : Nat) (u1 : Int32) (u2 : Int32) (u3 : Int32) (u4 : Int32) (u5 : Int32) (u6 : Int32) (u7 : Int32) (u8 : Int32) (xc : Nat) (xk : Nat) (clo : Nat) (cro : Nat) (c4 : Nat) (c5 : Nat) (c6 : Nat) (c7 : Nat) (c8 : Nat) (xn : Nat) (n1 : Nat) (n2 : Nat) (n3 : Nat) (n4 : Nat) (n5 : Nat) (vp : Int32) (vn : Int32) (rl : Nat → Nat) (Ml : Nat → Nat → Int32) (a1 : Int32) (a2 : Int32) (a3 : Int32) (hvp : 0 ≤ vp.toInt ∧ vp.toInt ≤ 12) (q1 : -1 ≤ a1.toInt ∧ a1.toInt < 9) (hM : ∀ x y : Nat, x < vp.toNatClampNeg → y < vp.toNatClampNeg → 0 ≤ zM Ml x y ∧ zM Ml x y ≤ 80000000) (hB : ∀ n : Nat, 0 ≤ wN (zM Ml) vp.toNatClampNeg n ∧ wN (zM Ml) vp.toNatClampNeg n ≤ 100000) (hB0 : wN (zM Ml) vp.toNatClampNeg 0 = 0) (hh : hdn (zM Ml) vp.toNatClampNeg (a1.toInt + 1).toNat a2 a3.toInt) (hs : dS_ (wN (zM Ml) vp.toNatClampNeg) bN a2.toNatClampNeg u7 u8) : Met l yX7_chooseForDense wsX7_chooseForDense ({ frames := 11, cells := 0, slots := 0, locals := 253 }) (va_Pc [.ref xh, .int a1, .int a2, .int a3] (fun U => U.heap.size = sz ∧ va_P D vwCl [ob7_0_ xh xc u1 u2 u3 u4 u5 u6 u7 u8, ob0_0_ xc xn xk clo cro c4 c5 c6 c7 c8, ob3_0_ xn vp vn n1 n2 n3 n4 n5, aq_ cy 6 clo 12 (gf_ rl), ai_ cy (rl 0) 12 (Ml 0), ai_ cy (rl 1) 12 (Ml 1), ai_ cy (rl 2) 12 (Ml 2), ai_ cy (rl 3) 12 (Ml 3), ai_ cy (rl 4) 12 (Ml 4), ai_ cy (rl 5) 12 (Ml 5), ai_ cy (rl 6) 12 (Ml 6), ai_ cy (rl 7) 12 (Ml 7), ai_ cy (rl 8) 12 (Ml 8), ai_ cy (rl 9) 12 (Ml 9), ai_ cy (rl 10) 12 (Ml 10), ai_ cy (rl 11) 12 (Ml 11)] U.heap ∧ kg_ D cy U ∧ va_D (fun _ => True) [ob7_0_ xh xc u1 u2 u3 u4 u5 u6 u7 u8, ob0_0_ xc xn xk clo cro c4 c5 c6 c7 c8, ob3_0_ xn vp vn n1 n2 n3 n4 n5, aq_ cy 6 clo 12 (gf_ rl), ai_ cy (rl 0) 12 (Ml 0), ai_ cy (rl 1) 12 (Ml 1), ai_ cy (rl 2) 12 (Ml 2), ai_ cy (rl 3) 12 (Ml 3), ai_ cy (rl 4) 12 (Ml 4), ai_ cy (rl 5) 12 (Ml 5), ai_ cy (rl 6) 12 (Ml 6), ai_ cy (rl 7) 12 (Ml 7), ai_ cy (rl 8) 12 (Ml 8), ai_ cy (rl 9) 12 (Ml 9), ai_ cy (rl 10) 12 (Ml 10), ai_ cy (rl 11) 12 (Ml 11)])) (va_Qv (fun (_ : Unit) => True) (fun (_ : Unit) (t : State) => ∃ (v7 : Int32), ∃ (v8 : Int32), (dS_ (wN (zM Ml) vp.toNatClampNeg) bN (a2.toNatClampNeg + 2 ^ (a1.toInt + 1).toNat) v7 v8) ∧ va_P D vwCl [ob7_0_ xh xc u1 u2 u3 u4 u5 u6 v7 v8, ob0_0_ xc xn xk clo cro c4 c5 c6 c7 c8, ob3_0_ xn vp vn n1 n2 n3 n4 n5, aq_ cy 6 clo 12 (gf_ rl), ai_ cy (rl 0) 12 (Ml 0), ai_ cy (rl 1) 12 (Ml 1), ai_ cy (rl 2) 12 (Ml 2), ai_ cy (rl 3) 12 (Ml 3), ai_ cy (rl 4) 12 (Ml 4), ai_ cy (rl 5) 12 (Ml 5), ai_ cy (rl 6) 12 (Ml 6), ai_ cy (rl 7) 12 (Ml 7), ai_ cy (rl 8) 12 (Ml 8), ai_ cy (rl 9) 12 (Ml 9), ai_ cy (rl 10) 12 (Ml 10), ai_ cy (rl 11) 12 (Ml 11)] t.heap ∧ va_D (va_A [ob7_0_ xh xc u1 u2 u3 u4 u5 u6 u7 u8, ob0_0_ xc xn xk clo cro c4 c5 c6 c7 c8, ob3_0_ xn vp vn n1 n2 n3 n4 n5, aq_ cy 6 clo 12 (gf_ rl), ai_ cy (rl 0) 12 (Ml 0), ai_ cy (rl 1) 12 (Ml 1), ai_ cy (rl 2) 12 (Ml 2), ai_ cy (rl 3) 12 (Ml 3), ai_ cy (rl 4) 12 (Ml 4), ai_ cy (rl 5) 12 (Ml 5), ai_ cy (rl 6) 12 (Ml 6), ai_ cy (rl 7) 12 (Ml 7), ai_ cy (rl 8) 12 (Ml 8), ai_ cy (rl 9) 12 (Ml 9), ai_ cy (rl 10) 12 (Ml 10), ai_ cy (rl 11) 12 (Ml 11)] sz) [ob7_0_ xh xc u1 u2 u3 u4 u5 u6 v7 v8, ob0_0_ xc xn xk clo cro c4 c5 c6 c7 c8, ob3_0_ xn vp vn n1 n2 n3 n4 n5, aq_ cy 6 clo 12 (gf_ rl), ai_ cy (rl 0) 12 (Ml 0), ai_ cy (rl 1) 12 (Ml 1), ai_ cy (rl 2) 12 (Ml 2), ai_ cy (rl 3) 12 (Ml 3), ai_ cy (rl 4) 12 (Ml 4), ai_ cy (rl 5) 12 (Ml 5), ai_ cy (rl 6) 12 (Ml 6), ai_ cy (rl 7) 12 (Ml 7), ai_ cy (rl 8) 12 (Ml 8), ai_ cy (rl 9) 12 (Ml 9), ai_ cy (rl 10) 12 (Ml 10), ai_ cy (rl 11) 12 (Ml 11)]) (va_A [ob7_0_ xh xc u1 u2 u3 u4 u5 u6 u7 u8, ob0_0_ xc xn xk clo cro c4 c5 c6 c7 c8, ob3_0_ xn vp vn n1 n2 n3 n4 n5, aq_ cy 6 clo 12 (gf_ rl), ai_ cy (rl 0) 12 (Ml 0), ai_ cy (rl 1) 12 (Ml 1), ai_ cy (rl 2) 12 (Ml 2), ai_ cy (rl 3) 12 (Ml 3), ai_ cy (rl 4) 12 (Ml 4), ai_ cy (rl 5) 12 (Ml 5), ai_ cy (rl 6) 12 (Ml 6), ai_ cy (rl 7) 12 (Ml 7), ai_ cy (rl 8) 12 (Ml 8), ai_ cy (rl 9) 12 (Ml 9), ai_ cy (rl 10) 12 (Ml 10), ai_ cy (rl 11) 12 (Ml 11)] sz)) 0 0 (va_A [ob7_0_ xh xc u1 u2 u3 u4 u5 u6 u7 u8, ob0_0_ xc xn xk clo cro c4 c5 c6 c7 c8, ob3_0_ xn vp vn n1 n2 n3 n4 n5, aq_ cy 6 clo 12 (gf_ rl), ai_ cy (rl 0) 12 (Ml 0), ai_ cy (rl 1) 12 (Ml 1), ai_ cy (rl 2) 12 (Ml 2), ai_ cy (rl 3) 12 (Ml 3), ai_ cy (rl 4) 12 (Ml 4), ai_ cy (rl 5) 12 (Ml 5), ai_ cy (rl 6) 12 (Ml 6), ai_ cy (rl 7) 12 (Ml 7), ai_ cy (rl 8) 12 (Ml 8), ai_ cy (rl 9) 12 (Ml 9), ai_ cy (rl 10) 12 (Ml 10), ai_ cy (rl 11) 12 (Ml 11)] sz) := by
  refine ofQ (cc := cX7_chooseForDense) (maxL := 4) (ret := none) (by decide) rfl ?_
  intro p e s m args below meth c s₁ Q hQ B hml hv
  obtain ⟨rfl, hsz, hP, hK, hD0⟩ := hv
  have hG := hK.2
  have hK := hK.1
  have hx := B.exec
  have hb := B.bytes
  have hr := B.returns
  have hts := atoms_spec (ws := wsX7_chooseForDense) B.pre
  have hown : s.vm.findClass RX7 = some m.cls := by have h_ := findClass_of_methodNamed B.named; exact h_
  have hlocks := B.notSynchronized
  subst hsz
  have hD := hD0.self (sz := s.heap.size)
  generalize hAe : va_A [ob7_0_ xh xc u1 u2 u3 u4 u5 u6 u7 u8, ob0_0_ xc xn xk clo cro c4 c5 c6 c7 c8, ob3_0_ xn vp vn n1 n2 n3 n4 n5, aq_ cy 6 clo 12 (gf_ rl), ai_ cy (rl 0) 12 (Ml 0), ai_ cy (rl 1) 12 (Ml 1), ai_ cy (rl 2) 12 (Ml 2), ai_ cy (rl 3) 12 (Ml 3), ai_ cy (rl 4) 12 (Ml 4), ai_ cy (rl 5) 12 (Ml 5), ai_ cy (rl 6) 12 (Ml 6), ai_ cy (rl 7) 12 (Ml 7), ai_ cy (rl 8) 12 (Ml 8), ai_ cy (rl 9) 12 (Ml 9), ai_ cy (rl 10) 12 (Ml 10), ai_ cy (rl 11) 12 (Ml 11)] s.heap.size = A at hD hQ
  have hA : ∀ q : Nat, s.heap.size ≤ q → A q := fun q h => by rw [← hAe]; exact Or.inr h
  have hS : va_S A s.heap s.heap [] := va_S.rf
  have hl := lv_entry ([.ref xh, .int a1, .int a2, .int a3]) (n := 4) (Nat.le_of_ble_eq_true rfl)
  rw [lg_entry_eq]
  generalize (lg_sl ([.ref xh, .int a1, .int a2, .int a3]) ++ List.replicate (4 - (lg_sl ([.ref xh, .int a1, .int a2, .int a3])).length) Slot.unset).toArray = ls at hl ⊢
  have hl : lv_has ls 4 [(0, .ref xh), (1, .int a1), (2, .int a2), (3, .int a3)] := hl
  have z0 : (0 : Int32).toInt = 0 := by decide
  have z1 : (1 : Int32).toInt = 1 := by decide
  have cv_ := clI (i := vp) (by omega)
  have hnn_ : ∀ x y : Nat, x < vp.toNatClampNeg → y < vp.toNatClampNeg → 0 ≤ zM Ml x y := fun x y hx hy => (hM x y hx hy).1
  have ha3_ := hdn_bd hh (by omega) hnn_ hB
  have h7r_ : 0 ≤ u7.toInt ∧ u7.toInt < 4096 := by have h1_ := hs.1; have h2_ := dnz_lt (W := (wN (zM Ml) vp.toNatClampNeg)) (b := bN) a2.toNatClampNeg; have h3_ := hnt_lt (hdn_hnt hh) (by omega); omega
  refine lv_iload_n hx hb dB_36_1_62.1.1.1.1 rfl (lv_at hl 1 rfl) ?_
  refine lv_if_ge (tgt := 11) hx hb dB_36_1_62.1.1.1.2 (by decide) (fun c_1 => ?_) (fun c_1 => ?_)
  · have t_1 : (0 : Int32).toInt ≤ a1.toInt := Int32.le_iff_toInt_le.mp c_1
    have cp_ := clI (i := a1) (by omega)
    have hK_ : (a1.toInt + 1).toNat = a1.toNatClampNeg + 1 := by omega
    have hh1_ : hdn (zM Ml) vp.toNatClampNeg (a1.toNatClampNeg + 1) a2 a3.toInt := by rw [hK_] at hh; exact hh
    have hap_ : a1.toInt < vp.toInt := by have h_ := hh1_.1; omega
    refine lv_aload_n hx hb dB_36_1_62.1.2.2.2 rfl (lv_at hl 0 rfl) ?_
    refine lv_iload_n hx hb dB_36_1_62.2.1.1.1 rfl (lv_at hl 1 rfl) ?_
    refine lv_iconst (v := 1) hx hb dB_36_1_62.2.1.1.2 (by decide) ?_
    refine lv_isub hx hb dB_36_1_62.2.1.2.1 ?_
    refine lv_topi (fun y_2 ey_2 => ?_)
    have ty_2 : y_2.toInt = a1.toInt - (1 : Int32).toInt := by rw [ey_2]; exact subI (by omega) (by omega)
    refine lv_iload_n hx hb dB_36_1_62.2.1.2.2 rfl (lv_at hl 2 rfl) ?_
    refine lv_iload_n hx hb dB_36_1_62.2.2.1.1 rfl (lv_at hl 3 rfl) ?_
    have hKr_ : (y_2.toInt + 1).toNat = a1.toNatClampNeg := by omega
    have hrh_ : hdn (zM Ml) vp.toNatClampNeg (y_2.toInt + 1).toNat a2 a3.toInt := by rw [hKr_]; exact hdn_out hh1_
    refine ct_S hP hD hS hA [ob7_0_ xh xc u1 u2 u3 u4 u5 u6 u7 u8, ob0_0_ xc xn xk clo cro c4 c5 c6 c7 c8, ob3_0_ xn vp vn n1 n2 n3 n4 n5, aq_ cy 6 clo 12 (gf_ rl), ai_ cy (rl 0) 12 (Ml 0), ai_ cy (rl 1) 12 (Ml 1), ai_ cy (rl 2) 12 (Ml 2), ai_ cy (rl 3) 12 (Ml 3), ai_ cy (rl 4) 12 (Ml 4), ai_ cy (rl 5) 12 (Ml 5), ai_ cy (rl 6) 12 (Ml 6), ai_ cy (rl 7) 12 (Ml 7), ai_ cy (rl 8) 12 (Ml 8), ai_ cy (rl 9) 12 (Ml 9), ai_ cy (rl 10) 12 (Ml 10), ai_ cy (rl 11) 12 (Ml 11)] [0, 1, 2, 3, 4, 5, 6, 7, 8, 9, 10, 11, 12, 13, 14, 15] (by decide +kernel) rfl (fun hPc hDw hFc hC_ => ?_)
    refine va_callv (va_runV (As := [.int y_2, .int a2, .int a3]) (rest := []) ⟨hx, hb, hml, hown, hts⟩ (c_X7_chooseForDense2_8 l D cy s.heap.size xh u1 u2 u3 u4 u5 u6 u7 u8 xc xk clo cro c4 c5 c6 c7 c8 xn n1 n2 n3 n4 n5 vp vn rl Ml y_2 a2 a3 (by first | with_reducible assumption | omega | assumption) (by first | with_reducible assumption | omega | assumption) (by first | with_reducible assumption | assumption | omega) (by first | with_reducible assumption | assumption | omega) (by first | with_reducible assumption | omega | assumption) (by first | with_reducible assumption | assumption | omega) (by first | with_reducible assumption | assumption | omega)) (cwV 3 hts gX7_chooseForDense_X7_chooseForDense rfl rfl rfl ⟨rfl, hd_X7_chooseForDense⟩ ⟨Nat.le_of_ble_eq_true rfl, Nat.le_of_ble_eq_true rfl⟩) ⟨bl_g, va_recvX hK.1 hP (ci := 7) (q0 := 0) rfl rfl, fun U hU hW => ⟨rfl, by rw [hU], by rw [hU]; exact hPc, ⟨kk_mv hW hK, arrOfT_moved hW.alike hG⟩, hDw⟩⟩ rfl rfl hl.1 rfl (lv_room (Nat.le_of_ble_eq_true rfl)) dB_36_1_62.2.2.1.2 ⟨Nat.le_of_ble_eq_true rfl, Nat.le_of_ble_eq_true rfl⟩) hS (fun q _ h => hFc q h) hFc (fun u t H locs ht hvm hw hB hz1 hk1 hS => ?_)
    obtain ⟨v7_4, v8_5, g_6, hP1, hD1⟩ := hB
    rw [ht] at hP1
    obtain ⟨hP, hD⟩ := va_join (wr := []) (w1 := [ob7_0_ xh xc u1 u2 u3 u4 u5 u6 v7_4 v8_5, ob0_0_ xc xn xk clo cro c4 c5 c6 c7 c8, ob3_0_ xn vp vn n1 n2 n3 n4 n5, aq_ cy 6 clo 12 (gf_ rl), ai_ cy (rl 0) 12 (Ml 0), ai_ cy (rl 1) 12 (Ml 1), ai_ cy (rl 2) 12 (Ml 2), ai_ cy (rl 3) 12 (Ml 3), ai_ cy (rl 4) 12 (Ml 4), ai_ cy (rl 5) 12 (Ml 5), ai_ cy (rl 6) 12 (Ml 6), ai_ cy (rl 7) 12 (Ml 7), ai_ cy (rl 8) 12 (Ml 8), ai_ cy (rl 9) 12 (Ml 9), ai_ cy (rl 10) 12 (Ml 10), ai_ cy (rl 11) 12 (Ml 11)]) hP hD [0, 1, 2, 3, 4, 5, 6, 7, 8, 9, 10, 11, 12, 13, 14, 15] [] hC_ rfl (by decide) (by decide) hk1 hFc hP1 hD1
    refine pd_K [ob7_0_ xh xc u1 u2 u3 u4 u5 u6 v7_4 v8_5, ob0_0_ xc xn xk clo cro c4 c5 c6 c7 c8, ob3_0_ xn vp vn n1 n2 n3 n4 n5, aq_ cy 6 clo 12 (gf_ rl), ai_ cy (rl 0) 12 (Ml 0), ai_ cy (rl 1) 12 (Ml 1), ai_ cy (rl 2) 12 (Ml 2), ai_ cy (rl 3) 12 (Ml 3), ai_ cy (rl 4) 12 (Ml 4), ai_ cy (rl 5) 12 (Ml 5), ai_ cy (rl 6) 12 (Ml 6), ai_ cy (rl 7) 12 (Ml 7), ai_ cy (rl 8) 12 (Ml 8), ai_ cy (rl 9) 12 (Ml 9), ai_ cy (rl 10) 12 (Ml 10), ai_ cy (rl 11) 12 (Ml 11)] hP hD (fun hP hD => ?_)
    have hs1_ := dS_to g_6 (show _ = a2.toNatClampNeg + 2 ^ a1.toNatClampNeg by rw [hKr_])
    refine lv_aload_n hx hb dB_36_1_62.2.2.2.1 rfl (lv_at hl 0 rfl) ?_
    refine lv_iload_n hx hb dB_36_1_62.2.2.2.2 rfl (lv_at hl 1 rfl) ?_
    refine lv_iconst (v := 1) hx hb dB_36_1_63.1.1.1 (by decide) ?_
    refine lv_isub hx hb dB_36_1_63.1.1.2.1 ?_
    refine lv_topi (fun y_7 ey_7 => ?_)
    have e_ := (ey_7.trans ey_2.symm).symm
    subst e_
    refine lv_iload_n hx hb dB_36_1_63.1.1.2.2 rfl (lv_at hl 2 rfl) ?_
    refine lv_iconst (v := 1) hx hb dB_36_1_63.1.2.1.1 (by decide) ?_
    refine lv_iload_n hx hb dB_36_1_63.1.2.1.2 rfl (lv_at hl 1 rfl) ?_
    refine lv_ishl hx hb dB_36_1_63.1.2.2.1 ?_
    refine lv_topi (fun y_8 ey_8 => ?_)
    refine lv_ior hx hb dB_36_1_63.1.2.2.2 ?_
    refine lv_topi (fun y_9 ey_9 => ?_)
    refine lv_iload_n hx hb dB_36_1_63.2.1.1.1 rfl (lv_at hl 3 rfl) ?_
    refine lv_aload_n hx hb dB_36_1_63.2.1.1.2 rfl (lv_at hl 0 rfl) ?_
    refine lv_iload_n hx hb dB_36_1_63.2.1.2.1 rfl (lv_at hl 1 rfl) ?_
    refine lv_iload_n hx hb dB_36_1_63.2.1.2.2 rfl (lv_at hl 2 rfl) ?_
    refine ct_R hP hD [ob7_0_ xh xc u1 u2 u3 u4 u5 u6 v7_4 v8_5, ob0_0_ xc xn xk clo cro c4 c5 c6 c7 c8, ob3_0_ xn vp vn n1 n2 n3 n4 n5, aq_ cy 6 clo 12 (gf_ rl), ai_ cy (rl 0) 12 (Ml 0), ai_ cy (rl 1) 12 (Ml 1), ai_ cy (rl 2) 12 (Ml 2), ai_ cy (rl 3) 12 (Ml 3), ai_ cy (rl 4) 12 (Ml 4), ai_ cy (rl 5) 12 (Ml 5), ai_ cy (rl 6) 12 (Ml 6), ai_ cy (rl 7) 12 (Ml 7), ai_ cy (rl 8) 12 (Ml 8), ai_ cy (rl 9) 12 (Ml 9), ai_ cy (rl 10) 12 (Ml 10), ai_ cy (rl 11) 12 (Ml 11)] [0, 1, 2, 3, 4, 5, 6, 7, 8, 9, 10, 11, 12, 13, 14, 15] (by decide +kernel) rfl (fun hPc hDw => ?_)
    have hFc := va_free (wc := []) hD hS hA [] rfl
    refine va_calli (va_runV (As := [.int a1, .int a2]) (rest := [.int a3, .int y_9, .int y_2, .ref xh]) ⟨hx, hb, hml, hown, hts⟩ (c_X7_letIn2 l D cy H.size xh u1 u2 u3 u4 u5 u6 v7_4 v8_5 xc xk clo cro c4 c5 c6 c7 c8 xn n1 n2 n3 n4 n5 vp vn rl Ml a1 a2 (by first | with_reducible assumption | omega | assumption) (by first | with_reducible assumption | omega | assumption) (by first | with_reducible assumption | assumption | omega)) (cwV 2 hts gX7_chooseForDense_X7_letIn rfl rfl rfl ⟨rfl, hd_X7_letIn⟩ ⟨Nat.le_of_ble_eq_true rfl, Nat.le_of_ble_eq_true rfl⟩) ⟨bl_g, va_recvX hK.1 hP (ci := 7) (q0 := 0) rfl rfl, fun U hU hW => ⟨rfl, by rw [hU], by rw [hU]; exact hPc, ⟨kk_mv hW hK, arrOfT_moved hW.alike hG⟩, hDw⟩⟩ rfl rfl hl.1 rfl (lv_room (Nat.le_of_ble_eq_true rfl)) dB_36_1_63.2.2.1.1 ⟨Nat.le_of_ble_eq_true rfl, Nat.le_of_ble_eq_true rfl⟩) hS (fun q _ h => hFc q h) hFc (fun r_10 u t H locs ht hvm hw hB hz1 hk1 hS => ?_)
    have hP : va_P D vwCl _ H := ro_keep hP hk1
    obtain ⟨f0_r_10, f1_r_10⟩ := hw
    refine lv_iadd hx hb dB_36_1_63.2.2.1.2 ?_
    refine lv_topi (fun y_11 ey_11 => ?_)
    have ty_11 : y_11.toInt = a3.toInt + r_10.toInt := by rw [ey_11]; exact addI (by omega) (by omega)
    have hKq_ : (y_2.toInt + 1).toNat = a1.toNatClampNeg := by omega
    have hin_ := hdn_in hh1_ (by omega) (by omega) ey_8 ey_9 ty_11 f0_r_10
    have hrh2_ : hdn (zM Ml) vp.toNatClampNeg (y_2.toInt + 1).toNat y_9 y_11.toInt := by rw [hKq_]; exact hin_.1
    have hrs_ : dS_ (wN (zM Ml) vp.toNatClampNeg) bN y_9.toNatClampNeg v7_4 v8_5 := dS_to hs1_ hin_.2.symm
    refine ct_S hP hD hS hA [ob7_0_ xh xc u1 u2 u3 u4 u5 u6 v7_4 v8_5, ob0_0_ xc xn xk clo cro c4 c5 c6 c7 c8, ob3_0_ xn vp vn n1 n2 n3 n4 n5, aq_ cy 6 clo 12 (gf_ rl), ai_ cy (rl 0) 12 (Ml 0), ai_ cy (rl 1) 12 (Ml 1), ai_ cy (rl 2) 12 (Ml 2), ai_ cy (rl 3) 12 (Ml 3), ai_ cy (rl 4) 12 (Ml 4), ai_ cy (rl 5) 12 (Ml 5), ai_ cy (rl 6) 12 (Ml 6), ai_ cy (rl 7) 12 (Ml 7), ai_ cy (rl 8) 12 (Ml 8), ai_ cy (rl 9) 12 (Ml 9), ai_ cy (rl 10) 12 (Ml 10), ai_ cy (rl 11) 12 (Ml 11)] [0, 1, 2, 3, 4, 5, 6, 7, 8, 9, 10, 11, 12, 13, 14, 15] (by decide +kernel) rfl (fun hPc hDw hFc hC_ => ?_)
    refine va_callv (va_runV (As := [.int y_2, .int y_9, .int y_11]) (rest := []) ⟨hx, hb, hml, hown, hts⟩ (c_X7_chooseForDense2_8 l D cy H.size xh u1 u2 u3 u4 u5 u6 v7_4 v8_5 xc xk clo cro c4 c5 c6 c7 c8 xn n1 n2 n3 n4 n5 vp vn rl Ml y_2 y_9 y_11 (by first | with_reducible assumption | omega | assumption) (by first | with_reducible assumption | omega | assumption) (by first | with_reducible assumption | assumption | omega) (by first | with_reducible assumption | assumption | omega) (by first | with_reducible assumption | omega | assumption) (by first | with_reducible assumption | assumption | omega) (by first | with_reducible assumption | assumption | omega)) (cwV 3 hts gX7_chooseForDense_X7_chooseForDense rfl rfl rfl ⟨rfl, hd_X7_chooseForDense⟩ ⟨Nat.le_of_ble_eq_true rfl, Nat.le_of_ble_eq_true rfl⟩) ⟨bl_g, va_recvX hK.1 hP (ci := 7) (q0 := 0) rfl rfl, fun U hU hW => ⟨rfl, by rw [hU], by rw [hU]; exact hPc, ⟨kk_mv hW hK, arrOfT_moved hW.alike hG⟩, hDw⟩⟩ rfl rfl hl.1 rfl (lv_room (Nat.le_of_ble_eq_true rfl)) dB_36_1_63.2.2.2.1 ⟨Nat.le_of_ble_eq_true rfl, Nat.le_of_ble_eq_true rfl⟩) hS (fun q _ h => hFc q h) hFc (fun u t H locs ht hvm hw hB hz1 hk1 hS => ?_)
    obtain ⟨v7_13, v8_14, g_15, hP1, hD1⟩ := hB
    rw [ht] at hP1
    obtain ⟨hP, hD⟩ := va_join (wr := []) (w1 := [ob7_0_ xh xc u1 u2 u3 u4 u5 u6 v7_13 v8_14, ob0_0_ xc xn xk clo cro c4 c5 c6 c7 c8, ob3_0_ xn vp vn n1 n2 n3 n4 n5, aq_ cy 6 clo 12 (gf_ rl), ai_ cy (rl 0) 12 (Ml 0), ai_ cy (rl 1) 12 (Ml 1), ai_ cy (rl 2) 12 (Ml 2), ai_ cy (rl 3) 12 (Ml 3), ai_ cy (rl 4) 12 (Ml 4), ai_ cy (rl 5) 12 (Ml 5), ai_ cy (rl 6) 12 (Ml 6), ai_ cy (rl 7) 12 (Ml 7), ai_ cy (rl 8) 12 (Ml 8), ai_ cy (rl 9) 12 (Ml 9), ai_ cy (rl 10) 12 (Ml 10), ai_ cy (rl 11) 12 (Ml 11)]) hP hD [0, 1, 2, 3, 4, 5, 6, 7, 8, 9, 10, 11, 12, 13, 14, 15] [] hC_ rfl (by decide) (by decide) hk1 hFc hP1 hD1
    refine pd_K [ob7_0_ xh xc u1 u2 u3 u4 u5 u6 v7_13 v8_14, ob0_0_ xc xn xk clo cro c4 c5 c6 c7 c8, ob3_0_ xn vp vn n1 n2 n3 n4 n5, aq_ cy 6 clo 12 (gf_ rl), ai_ cy (rl 0) 12 (Ml 0), ai_ cy (rl 1) 12 (Ml 1), ai_ cy (rl 2) 12 (Ml 2), ai_ cy (rl 3) 12 (Ml 3), ai_ cy (rl 4) 12 (Ml 4), ai_ cy (rl 5) 12 (Ml 5), ai_ cy (rl 6) 12 (Ml 6), ai_ cy (rl 7) 12 (Ml 7), ai_ cy (rl 8) 12 (Ml 8), ai_ cy (rl 9) 12 (Ml 9), ai_ cy (rl 10) 12 (Ml 10), ai_ cy (rl 11) 12 (Ml 11)] hP hD (fun hP hD => ?_)
    rw [hQ]
    exact W.vret hx hb hr (fun t ht hW => ⟨⟨(), rfl, trivial, v7_13, v8_14, (dS_to g_15 (by rw [hKq_, hin_.2, pw_K hK_]; omega)), by rw [ht]; exact hP, hD⟩, hS.F ht⟩) hS.2.2 dB_36_1_63.2.2.2.2
  · have t_1 : ¬ (0 : Int32).toInt ≤ a1.toInt := fun h => c_1 (Int32.le_iff_toInt_le.mpr h)
    have hK_ : (a1.toInt + 1).toNat = 0 := by omega
    have hh0_ : hdn (zM Ml) vp.toNatClampNeg 0 a2 a3.toInt := by rw [hK_] at hh; exact hh
    have hlf_ := hdn_leaf hh0_ (by omega)
    have cA2_ := clI (i := a2) (by omega)
    have hsm_ := hlf_.1
    refine lv_aload_n hx hb dB_36_1_62.1.1.2.1 rfl (lv_at hl 0 rfl) ?_
    refine lv_iload_n hx hb dB_36_1_62.1.1.2.2 rfl (lv_at hl 2 rfl) ?_
    refine lv_iload_n hx hb dB_36_1_62.1.2.1.1 rfl (lv_at hl 3 rfl) ?_
    refine ct_S hP hD hS hA [ob7_0_ xh xc u1 u2 u3 u4 u5 u6 u7 u8] [0] (by decide) rfl (fun hPc hDw hFc hC_ => ?_)
    refine va_callv (va_runV (As := [.int a2, .int a3]) (rest := []) ⟨hx, hb, hml, hown, hts⟩ (c_X7_compareDense2 l D cy s.heap.size xh u1 u2 u3 u4 u5 u6 u7 u8 xc (wN (zM Ml) vp.toNatClampNeg) a2 a3 (by first | with_reducible assumption | omega | assumption) (by first | with_reducible assumption | assumption | omega) (by first | with_reducible assumption | assumption | omega) (by first | with_reducible assumption | assumption | omega) (by first | with_reducible assumption | omega | assumption) (by first | with_reducible assumption | omega | assumption)) (cwV 2 hts gX7_chooseForDense_X7_compareDense rfl rfl rfl ⟨rfl, hd_X7_compareDense⟩ ⟨Nat.le_of_ble_eq_true rfl, Nat.le_of_ble_eq_true rfl⟩) ⟨bl_, va_recvX hK.1 hP (ci := 7) (q0 := 0) rfl rfl, fun U hU hW => ⟨rfl, by rw [hU], by rw [hU]; exact hPc, kk_mv hW hK, hDw⟩⟩ rfl rfl hl.1 rfl (lv_room (Nat.le_of_ble_eq_true rfl)) dB_36_1_62.1.2.1.2 ⟨Nat.le_of_ble_eq_true rfl, Nat.le_of_ble_eq_true rfl⟩) hS (fun q _ h => hFc q h) hFc (fun u t H locs ht hvm hw hB hz1 hk1 hS => ?_)
    obtain ⟨v7_17, v8_18, g_19, hP1, hD1⟩ := hB
    rw [ht] at hP1
    obtain ⟨hP, hD⟩ := va_join (wr := [ob0_0_ xc xn xk clo cro c4 c5 c6 c7 c8, ob3_0_ xn vp vn n1 n2 n3 n4 n5, aq_ cy 6 clo 12 (gf_ rl), ai_ cy (rl 0) 12 (Ml 0), ai_ cy (rl 1) 12 (Ml 1), ai_ cy (rl 2) 12 (Ml 2), ai_ cy (rl 3) 12 (Ml 3), ai_ cy (rl 4) 12 (Ml 4), ai_ cy (rl 5) 12 (Ml 5), ai_ cy (rl 6) 12 (Ml 6), ai_ cy (rl 7) 12 (Ml 7), ai_ cy (rl 8) 12 (Ml 8), ai_ cy (rl 9) 12 (Ml 9), ai_ cy (rl 10) 12 (Ml 10), ai_ cy (rl 11) 12 (Ml 11)]) (w1 := [ob7_0_ xh xc u1 u2 u3 u4 u5 u6 v7_17 v8_18]) hP hD [0] [1, 2, 3, 4, 5, 6, 7, 8, 9, 10, 11, 12, 13, 14, 15] hC_ rfl (by decide +kernel) (by decide +kernel) hk1 hFc hP1 hD1
    refine pd_S hP hD [ob7_0_ xh xc u1 u2 u3 u4 u5 u6 v7_17 v8_18, ob0_0_ xc xn xk clo cro c4 c5 c6 c7 c8, ob3_0_ xn vp vn n1 n2 n3 n4 n5, aq_ cy 6 clo 12 (gf_ rl), ai_ cy (rl 0) 12 (Ml 0), ai_ cy (rl 1) 12 (Ml 1), ai_ cy (rl 2) 12 (Ml 2), ai_ cy (rl 3) 12 (Ml 3), ai_ cy (rl 4) 12 (Ml 4), ai_ cy (rl 5) 12 (Ml 5), ai_ cy (rl 6) 12 (Ml 6), ai_ cy (rl 7) 12 (Ml 7), ai_ cy (rl 8) 12 (Ml 8), ai_ cy (rl 9) 12 (Ml 9), ai_ cy (rl 10) 12 (Ml 10), ai_ cy (rl 11) 12 (Ml 11)] [15, 0, 1, 2, 3, 4, 5, 6, 7, 8, 9, 10, 11, 12, 13, 14] (by decide +kernel) rfl (fun hP hD => ?_)
    rw [hQ]
    exact W.vret hx hb hr (fun t ht hW => ⟨⟨(), rfl, trivial, v7_17, v8_18, (dS_to g_19 (by rw [hK_])), by rw [ht]; exact hP, hD⟩, hS.F ht⟩) hS.2.2 dB_36_1_62.1.2.2.1

set_option maxHeartbeats 4000000 in
set_option maxRecDepth 100000 in
theorem c_X7_chooseForDense2_10 (l : Launch) (D : va_G) (cy : Nat → ClassId) (sz : Nat) (xh : Nat) (u1 : Int32) (u2 : Int32) (u3 : Int32) (u4 : Int32) (u5 : Int32) (u6 : Int32) (u7 : Int32) (u8 : Int32) (xc : Nat) (xk : Nat) (clo : Nat) (cro : Nat) (c4 : Nat) (c5 : Nat) (c6 : Nat) (c7 : Nat) (c8 : Nat) (xn : Nat) (n1 : Nat) (n2 : Nat) (n3 : Nat) (n4 : Nat) (n5 : Nat) (vp : Int32) (vn : Int32) (rl : Nat → Nat) (Ml : Nat → Nat → Int32) (a1 : Int32) (a2 : Int32) (a3 : Int32) (hvp : 0 ≤ vp.toInt ∧ vp.toInt ≤ 12) (q1 : -1 ≤ a1.toInt ∧ a1.toInt < 10) (hM : ∀ x y : Nat, x < vp.toNatClampNeg → y < vp.toNatClampNeg → 0 ≤ zM Ml x y ∧ zM Ml x y ≤ 80000000) (hB : ∀ n : Nat, 0 ≤ wN (zM Ml) vp.toNatClampNeg n ∧ wN (zM Ml) vp.toNatClampNeg n ≤ 100000) (hB0 : wN (zM Ml) vp.toNatClampNeg 0 = 0) (hh : hdn (zM Ml) vp.toNatClampNeg (a1.toInt + 1).toNat a2 a3.toInt) (hs : dS_ (wN (zM Ml) vp.toNatClampNeg) bN a2.toNatClampNeg u7 u8) : Met l yX7_chooseForDense wsX7_chooseForDense ({ frames := 12, cells := 0, slots := 0, locals := 276 }) (va_Pc [.ref xh, .int a1, .int a2, .int a3] (fun U => U.heap.size = sz ∧ va_P D vwCl [ob7_0_ xh xc u1 u2 u3 u4 u5 u6 u7 u8, ob0_0_ xc xn xk clo cro c4 c5 c6 c7 c8, ob3_0_ xn vp vn n1 n2 n3 n4 n5, aq_ cy 6 clo 12 (gf_ rl), ai_ cy (rl 0) 12 (Ml 0), ai_ cy (rl 1) 12 (Ml 1), ai_ cy (rl 2) 12 (Ml 2), ai_ cy (rl 3) 12 (Ml 3), ai_ cy (rl 4) 12 (Ml 4), ai_ cy (rl 5) 12 (Ml 5), ai_ cy (rl 6) 12 (Ml 6), ai_ cy (rl 7) 12 (Ml 7), ai_ cy (rl 8) 12 (Ml 8), ai_ cy (rl 9) 12 (Ml 9), ai_ cy (rl 10) 12 (Ml 10), ai_ cy (rl 11) 12 (Ml 11)] U.heap ∧ kg_ D cy U ∧ va_D (fun _ => True) [ob7_0_ xh xc u1 u2 u3 u4 u5 u6 u7 u8, ob0_0_ xc xn xk clo cro c4 c5 c6 c7 c8, ob3_0_ xn vp vn n1 n2 n3 n4 n5, aq_ cy 6 clo 12 (gf_ rl), ai_ cy (rl 0) 12 (Ml 0), ai_ cy (rl 1) 12 (Ml 1), ai_ cy (rl 2) 12 (Ml 2), ai_ cy (rl 3) 12 (Ml 3), ai_ cy (rl 4) 12 (Ml 4), ai_ cy (rl 5) 12 (Ml 5), ai_ cy (rl 6) 12 (Ml 6), ai_ cy (rl 7) 12 (Ml 7), ai_ cy (rl 8) 12 (Ml 8), ai_ cy (rl 9) 12 (Ml 9), ai_ cy (rl 10) 12 (Ml 10), ai_ cy (rl 11) 12 (Ml 11)])) (va_Qv (fun (_ : Unit) => True) (fun (_ : Unit) (t : State) => ∃ (v7 : Int32), ∃ (v8 : Int32), (dS_ (wN (zM Ml) vp.toNatClampNeg) bN (a2.toNatClampNeg + 2 ^ (a1.toInt + 1).toNat) v7 v8) ∧ va_P D vwCl [ob7_0_ xh xc u1 u2 u3 u4 u5 u6 v7 v8, ob0_0_ xc xn xk clo cro c4 c5 c6 c7 c8, ob3_0_ xn vp vn n1 n2 n3 n4 n5, aq_ cy 6 clo 12 (gf_ rl), ai_ cy (rl 0) 12 (Ml 0), ai_ cy (rl 1) 12 (Ml 1), ai_ cy (rl 2) 12 (Ml 2), ai_ cy (rl 3) 12 (Ml 3), ai_ cy (rl 4) 12 (Ml 4), ai_ cy (rl 5) 12 (Ml 5), ai_ cy (rl 6) 12 (Ml 6), ai_ cy (rl 7) 12 (Ml 7), ai_ cy (rl 8) 12 (Ml 8), ai_ cy (rl 9) 12 (Ml 9), ai_ cy (rl 10) 12 (Ml 10), ai_ cy (rl 11) 12 (Ml 11)] t.heap ∧ va_D (va_A [ob7_0_ xh xc u1 u2 u3 u4 u5 u6 u7 u8, ob0_0_ xc xn xk clo cro c4 c5 c6 c7 c8, ob3_0_ xn vp vn n1 n2 n3 n4 n5, aq_ cy 6 clo 12 (gf_ rl), ai_ cy (rl 0) 12 (Ml 0), ai_ cy (rl 1) 12 (Ml 1), ai_ cy (rl 2) 12 (Ml 2), ai_ cy (rl 3) 12 (Ml 3), ai_ cy (rl 4) 12 (Ml 4), ai_ cy (rl 5) 12 (Ml 5), ai_ cy (rl 6) 12 (Ml 6), ai_ cy (rl 7) 12 (Ml 7), ai_ cy (rl 8) 12 (Ml 8), ai_ cy (rl 9) 12 (Ml 9), ai_ cy (rl 10) 12 (Ml 10), ai_ cy (rl 11) 12 (Ml 11)] sz) [ob7_0_ xh xc u1 u2 u3 u4 u5 u6 v7 v8, ob0_0_ xc xn xk clo cro c4 c5 c6 c7 c8, ob3_0_ xn vp vn n1 n2 n3 n4 n5, aq_ cy 6 clo 12 (gf_ rl), ai_ cy (rl 0) 12 (Ml 0), ai_ cy (rl 1) 12 (Ml 1), ai_ cy (rl 2) 12 (Ml 2), ai_ cy (rl 3) 12 (Ml 3), ai_ cy (rl 4) 12 (Ml 4), ai_ cy (rl 5) 12 (Ml 5), ai_ cy (rl 6) 12 (Ml 6), ai_ cy (rl 7) 12 (Ml 7), ai_ cy (rl 8) 12 (Ml 8), ai_ cy (rl 9) 12 (Ml 9), ai_ cy (rl 10) 12 (Ml 10), ai_ cy (rl 11) 12 (Ml 11)]) (va_A [ob7_0_ xh xc u1 u2 u3 u4 u5 u6 u7 u8, ob0_0_ xc xn xk clo cro c4 c5 c6 c7 c8, ob3_0_ xn vp vn n1 n2 n3 n4 n5, aq_ cy 6 clo 12 (gf_ rl), ai_ cy (rl 0) 12 (Ml 0), ai_ cy (rl 1) 12 (Ml 1), ai_ cy (rl 2) 12 (Ml 2), ai_ cy (rl 3) 12 (Ml 3), ai_ cy (rl 4) 12 (Ml 4), ai_ cy (rl 5) 12 (Ml 5), ai_ cy (rl 6) 12 (Ml 6), ai_ cy (rl 7) 12 (Ml 7), ai_ cy (rl 8) 12 (Ml 8), ai_ cy (rl 9) 12 (Ml 9), ai_ cy (rl 10) 12 (Ml 10), ai_ cy (rl 11) 12 (Ml 11)] sz)) 0 0 (va_A [ob7_0_ xh xc u1 u2 u3 u4 u5 u6 u7 u8, ob0_0_ xc xn xk clo cro c4 c5 c6 c7 c8, ob3_0_ xn vp vn n1 n2 n3 n4 n5, aq_ cy 6 clo 12 (gf_ rl), ai_ cy (rl 0) 12 (Ml 0), ai_ cy (rl 1) 12 (Ml 1), ai_ cy (rl 2) 12 (Ml 2), ai_ cy (rl 3) 12 (Ml 3), ai_ cy (rl 4) 12 (Ml 4), ai_ cy (rl 5) 12 (Ml 5), ai_ cy (rl 6) 12 (Ml 6), ai_ cy (rl 7) 12 (Ml 7), ai_ cy (rl 8) 12 (Ml 8), ai_ cy (rl 9) 12 (Ml 9), ai_ cy (rl 10) 12 (Ml 10), ai_ cy (rl 11) 12 (Ml 11)] sz) := by
  refine ofQ (cc := cX7_chooseForDense) (maxL := 4) (ret := none) (by decide) rfl ?_
  intro p e s m args below meth c s₁ Q hQ B hml hv
  obtain ⟨rfl, hsz, hP, hK, hD0⟩ := hv
  have hG := hK.2
  have hK := hK.1
  have hx := B.exec
  have hb := B.bytes
  have hr := B.returns
  have hts := atoms_spec (ws := wsX7_chooseForDense) B.pre
  have hown : s.vm.findClass RX7 = some m.cls := by have h_ := findClass_of_methodNamed B.named; exact h_
  have hlocks := B.notSynchronized
  subst hsz
  have hD := hD0.self (sz := s.heap.size)
  generalize hAe : va_A [ob7_0_ xh xc u1 u2 u3 u4 u5 u6 u7 u8, ob0_0_ xc xn xk clo cro c4 c5 c6 c7 c8, ob3_0_ xn vp vn n1 n2 n3 n4 n5, aq_ cy 6 clo 12 (gf_ rl), ai_ cy (rl 0) 12 (Ml 0), ai_ cy (rl 1) 12 (Ml 1), ai_ cy (rl 2) 12 (Ml 2), ai_ cy (rl 3) 12 (Ml 3), ai_ cy (rl 4) 12 (Ml 4), ai_ cy (rl 5) 12 (Ml 5), ai_ cy (rl 6) 12 (Ml 6), ai_ cy (rl 7) 12 (Ml 7), ai_ cy (rl 8) 12 (Ml 8), ai_ cy (rl 9) 12 (Ml 9), ai_ cy (rl 10) 12 (Ml 10), ai_ cy (rl 11) 12 (Ml 11)] s.heap.size = A at hD hQ
  have hA : ∀ q : Nat, s.heap.size ≤ q → A q := fun q h => by rw [← hAe]; exact Or.inr h
  have hS : va_S A s.heap s.heap [] := va_S.rf
  have hl := lv_entry ([.ref xh, .int a1, .int a2, .int a3]) (n := 4) (Nat.le_of_ble_eq_true rfl)
  rw [lg_entry_eq]
  generalize (lg_sl ([.ref xh, .int a1, .int a2, .int a3]) ++ List.replicate (4 - (lg_sl ([.ref xh, .int a1, .int a2, .int a3])).length) Slot.unset).toArray = ls at hl ⊢
  have hl : lv_has ls 4 [(0, .ref xh), (1, .int a1), (2, .int a2), (3, .int a3)] := hl
  have z0 : (0 : Int32).toInt = 0 := by decide
  have z1 : (1 : Int32).toInt = 1 := by decide
  have cv_ := clI (i := vp) (by omega)
  have hnn_ : ∀ x y : Nat, x < vp.toNatClampNeg → y < vp.toNatClampNeg → 0 ≤ zM Ml x y := fun x y hx hy => (hM x y hx hy).1
  have ha3_ := hdn_bd hh (by omega) hnn_ hB
  have h7r_ : 0 ≤ u7.toInt ∧ u7.toInt < 4096 := by have h1_ := hs.1; have h2_ := dnz_lt (W := (wN (zM Ml) vp.toNatClampNeg)) (b := bN) a2.toNatClampNeg; have h3_ := hnt_lt (hdn_hnt hh) (by omega); omega
  refine lv_iload_n hx hb dB_36_1_62.1.1.1.1 rfl (lv_at hl 1 rfl) ?_
  refine lv_if_ge (tgt := 11) hx hb dB_36_1_62.1.1.1.2 (by decide) (fun c_1 => ?_) (fun c_1 => ?_)
  · have t_1 : (0 : Int32).toInt ≤ a1.toInt := Int32.le_iff_toInt_le.mp c_1
    have cp_ := clI (i := a1) (by omega)
    have hK_ : (a1.toInt + 1).toNat = a1.toNatClampNeg + 1 := by omega
    have hh1_ : hdn (zM Ml) vp.toNatClampNeg (a1.toNatClampNeg + 1) a2 a3.toInt := by rw [hK_] at hh; exact hh
    have hap_ : a1.toInt < vp.toInt := by have h_ := hh1_.1; omega
    refine lv_aload_n hx hb dB_36_1_62.1.2.2.2 rfl (lv_at hl 0 rfl) ?_
    refine lv_iload_n hx hb dB_36_1_62.2.1.1.1 rfl (lv_at hl 1 rfl) ?_
    refine lv_iconst (v := 1) hx hb dB_36_1_62.2.1.1.2 (by decide) ?_
    refine lv_isub hx hb dB_36_1_62.2.1.2.1 ?_
    refine lv_topi (fun y_2 ey_2 => ?_)
    have ty_2 : y_2.toInt = a1.toInt - (1 : Int32).toInt := by rw [ey_2]; exact subI (by omega) (by omega)
    refine lv_iload_n hx hb dB_36_1_62.2.1.2.2 rfl (lv_at hl 2 rfl) ?_
    refine lv_iload_n hx hb dB_36_1_62.2.2.1.1 rfl (lv_at hl 3 rfl) ?_
    have hKr_ : (y_2.toInt + 1).toNat = a1.toNatClampNeg := by omega
    have hrh_ : hdn (zM Ml) vp.toNatClampNeg (y_2.toInt + 1).toNat a2 a3.toInt := by rw [hKr_]; exact hdn_out hh1_
    refine ct_S hP hD hS hA [ob7_0_ xh xc u1 u2 u3 u4 u5 u6 u7 u8, ob0_0_ xc xn xk clo cro c4 c5 c6 c7 c8, ob3_0_ xn vp vn n1 n2 n3 n4 n5, aq_ cy 6 clo 12 (gf_ rl), ai_ cy (rl 0) 12 (Ml 0), ai_ cy (rl 1) 12 (Ml 1), ai_ cy (rl 2) 12 (Ml 2), ai_ cy (rl 3) 12 (Ml 3), ai_ cy (rl 4) 12 (Ml 4), ai_ cy (rl 5) 12 (Ml 5), ai_ cy (rl 6) 12 (Ml 6), ai_ cy (rl 7) 12 (Ml 7), ai_ cy (rl 8) 12 (Ml 8), ai_ cy (rl 9) 12 (Ml 9), ai_ cy (rl 10) 12 (Ml 10), ai_ cy (rl 11) 12 (Ml 11)] [0, 1, 2, 3, 4, 5, 6, 7, 8, 9, 10, 11, 12, 13, 14, 15] (by decide +kernel) rfl (fun hPc hDw hFc hC_ => ?_)
    refine va_callv (va_runV (As := [.int y_2, .int a2, .int a3]) (rest := []) ⟨hx, hb, hml, hown, hts⟩ (c_X7_chooseForDense2_9 l D cy s.heap.size xh u1 u2 u3 u4 u5 u6 u7 u8 xc xk clo cro c4 c5 c6 c7 c8 xn n1 n2 n3 n4 n5 vp vn rl Ml y_2 a2 a3 (by first | with_reducible assumption | omega | assumption) (by first | with_reducible assumption | omega | assumption) (by first | with_reducible assumption | assumption | omega) (by first | with_reducible assumption | assumption | omega) (by first | with_reducible assumption | omega | assumption) (by first | with_reducible assumption | assumption | omega) (by first | with_reducible assumption | assumption | omega)) (cwV 3 hts gX7_chooseForDense_X7_chooseForDense rfl rfl rfl ⟨rfl, hd_X7_chooseForDense⟩ ⟨Nat.le_of_ble_eq_true rfl, Nat.le_of_ble_eq_true rfl⟩) ⟨bl_g, va_recvX hK.1 hP (ci := 7) (q0 := 0) rfl rfl, fun U hU hW => ⟨rfl, by rw [hU], by rw [hU]; exact hPc, ⟨kk_mv hW hK, arrOfT_moved hW.alike hG⟩, hDw⟩⟩ rfl rfl hl.1 rfl (lv_room (Nat.le_of_ble_eq_true rfl)) dB_36_1_62.2.2.1.2 ⟨Nat.le_of_ble_eq_true rfl, Nat.le_of_ble_eq_true rfl⟩) hS (fun q _ h => hFc q h) hFc (fun u t H locs ht hvm hw hB hz1 hk1 hS => ?_)
    obtain ⟨v7_4, v8_5, g_6, hP1, hD1⟩ := hB
    rw [ht] at hP1
    obtain ⟨hP, hD⟩ := va_join (wr := []) (w1 := [ob7_0_ xh xc u1 u2 u3 u4 u5 u6 v7_4 v8_5, ob0_0_ xc xn xk clo cro c4 c5 c6 c7 c8, ob3_0_ xn vp vn n1 n2 n3 n4 n5, aq_ cy 6 clo 12 (gf_ rl), ai_ cy (rl 0) 12 (Ml 0), ai_ cy (rl 1) 12 (Ml 1), ai_ cy (rl 2) 12 (Ml 2), ai_ cy (rl 3) 12 (Ml 3), ai_ cy (rl 4) 12 (Ml 4), ai_ cy (rl 5) 12 (Ml 5), ai_ cy (rl 6) 12 (Ml 6), ai_ cy (rl 7) 12 (Ml 7), ai_ cy (rl 8) 12 (Ml 8), ai_ cy (rl 9) 12 (Ml 9), ai_ cy (rl 10) 12 (Ml 10), ai_ cy (rl 11) 12 (Ml 11)]) hP hD [0, 1, 2, 3, 4, 5, 6, 7, 8, 9, 10, 11, 12, 13, 14, 15] [] hC_ rfl (by decide) (by decide) hk1 hFc hP1 hD1
    refine pd_K [ob7_0_ xh xc u1 u2 u3 u4 u5 u6 v7_4 v8_5, ob0_0_ xc xn xk clo cro c4 c5 c6 c7 c8, ob3_0_ xn vp vn n1 n2 n3 n4 n5, aq_ cy 6 clo 12 (gf_ rl), ai_ cy (rl 0) 12 (Ml 0), ai_ cy (rl 1) 12 (Ml 1), ai_ cy (rl 2) 12 (Ml 2), ai_ cy (rl 3) 12 (Ml 3), ai_ cy (rl 4) 12 (Ml 4), ai_ cy (rl 5) 12 (Ml 5), ai_ cy (rl 6) 12 (Ml 6), ai_ cy (rl 7) 12 (Ml 7), ai_ cy (rl 8) 12 (Ml 8), ai_ cy (rl 9) 12 (Ml 9), ai_ cy (rl 10) 12 (Ml 10), ai_ cy (rl 11) 12 (Ml 11)] hP hD (fun hP hD => ?_)
    have hs1_ := dS_to g_6 (show _ = a2.toNatClampNeg + 2 ^ a1.toNatClampNeg by rw [hKr_])
    refine lv_aload_n hx hb dB_36_1_62.2.2.2.1 rfl (lv_at hl 0 rfl) ?_
    refine lv_iload_n hx hb dB_36_1_62.2.2.2.2 rfl (lv_at hl 1 rfl) ?_
    refine lv_iconst (v := 1) hx hb dB_36_1_63.1.1.1 (by decide) ?_
    refine lv_isub hx hb dB_36_1_63.1.1.2.1 ?_
    refine lv_topi (fun y_7 ey_7 => ?_)
    have e_ := (ey_7.trans ey_2.symm).symm
    subst e_
    refine lv_iload_n hx hb dB_36_1_63.1.1.2.2 rfl (lv_at hl 2 rfl) ?_
    refine lv_iconst (v := 1) hx hb dB_36_1_63.1.2.1.1 (by decide) ?_
    refine lv_iload_n hx hb dB_36_1_63.1.2.1.2 rfl (lv_at hl 1 rfl) ?_
    refine lv_ishl hx hb dB_36_1_63.1.2.2.1 ?_
    refine lv_topi (fun y_8 ey_8 => ?_)
    refine lv_ior hx hb dB_36_1_63.1.2.2.2 ?_
    refine lv_topi (fun y_9 ey_9 => ?_)
    refine lv_iload_n hx hb dB_36_1_63.2.1.1.1 rfl (lv_at hl 3 rfl) ?_
    refine lv_aload_n hx hb dB_36_1_63.2.1.1.2 rfl (lv_at hl 0 rfl) ?_
    refine lv_iload_n hx hb dB_36_1_63.2.1.2.1 rfl (lv_at hl 1 rfl) ?_
    refine lv_iload_n hx hb dB_36_1_63.2.1.2.2 rfl (lv_at hl 2 rfl) ?_
    refine ct_R hP hD [ob7_0_ xh xc u1 u2 u3 u4 u5 u6 v7_4 v8_5, ob0_0_ xc xn xk clo cro c4 c5 c6 c7 c8, ob3_0_ xn vp vn n1 n2 n3 n4 n5, aq_ cy 6 clo 12 (gf_ rl), ai_ cy (rl 0) 12 (Ml 0), ai_ cy (rl 1) 12 (Ml 1), ai_ cy (rl 2) 12 (Ml 2), ai_ cy (rl 3) 12 (Ml 3), ai_ cy (rl 4) 12 (Ml 4), ai_ cy (rl 5) 12 (Ml 5), ai_ cy (rl 6) 12 (Ml 6), ai_ cy (rl 7) 12 (Ml 7), ai_ cy (rl 8) 12 (Ml 8), ai_ cy (rl 9) 12 (Ml 9), ai_ cy (rl 10) 12 (Ml 10), ai_ cy (rl 11) 12 (Ml 11)] [0, 1, 2, 3, 4, 5, 6, 7, 8, 9, 10, 11, 12, 13, 14, 15] (by decide +kernel) rfl (fun hPc hDw => ?_)
    have hFc := va_free (wc := []) hD hS hA [] rfl
    refine va_calli (va_runV (As := [.int a1, .int a2]) (rest := [.int a3, .int y_9, .int y_2, .ref xh]) ⟨hx, hb, hml, hown, hts⟩ (c_X7_letIn2 l D cy H.size xh u1 u2 u3 u4 u5 u6 v7_4 v8_5 xc xk clo cro c4 c5 c6 c7 c8 xn n1 n2 n3 n4 n5 vp vn rl Ml a1 a2 (by first | with_reducible assumption | omega | assumption) (by first | with_reducible assumption | omega | assumption) (by first | with_reducible assumption | assumption | omega)) (cwV 2 hts gX7_chooseForDense_X7_letIn rfl rfl rfl ⟨rfl, hd_X7_letIn⟩ ⟨Nat.le_of_ble_eq_true rfl, Nat.le_of_ble_eq_true rfl⟩) ⟨bl_g, va_recvX hK.1 hP (ci := 7) (q0 := 0) rfl rfl, fun U hU hW => ⟨rfl, by rw [hU], by rw [hU]; exact hPc, ⟨kk_mv hW hK, arrOfT_moved hW.alike hG⟩, hDw⟩⟩ rfl rfl hl.1 rfl (lv_room (Nat.le_of_ble_eq_true rfl)) dB_36_1_63.2.2.1.1 ⟨Nat.le_of_ble_eq_true rfl, Nat.le_of_ble_eq_true rfl⟩) hS (fun q _ h => hFc q h) hFc (fun r_10 u t H locs ht hvm hw hB hz1 hk1 hS => ?_)
    have hP : va_P D vwCl _ H := ro_keep hP hk1
    obtain ⟨f0_r_10, f1_r_10⟩ := hw
    refine lv_iadd hx hb dB_36_1_63.2.2.1.2 ?_
    refine lv_topi (fun y_11 ey_11 => ?_)
    have ty_11 : y_11.toInt = a3.toInt + r_10.toInt := by rw [ey_11]; exact addI (by omega) (by omega)
    have hKq_ : (y_2.toInt + 1).toNat = a1.toNatClampNeg := by omega
    have hin_ := hdn_in hh1_ (by omega) (by omega) ey_8 ey_9 ty_11 f0_r_10
    have hrh2_ : hdn (zM Ml) vp.toNatClampNeg (y_2.toInt + 1).toNat y_9 y_11.toInt := by rw [hKq_]; exact hin_.1
    have hrs_ : dS_ (wN (zM Ml) vp.toNatClampNeg) bN y_9.toNatClampNeg v7_4 v8_5 := dS_to hs1_ hin_.2.symm
    refine ct_S hP hD hS hA [ob7_0_ xh xc u1 u2 u3 u4 u5 u6 v7_4 v8_5, ob0_0_ xc xn xk clo cro c4 c5 c6 c7 c8, ob3_0_ xn vp vn n1 n2 n3 n4 n5, aq_ cy 6 clo 12 (gf_ rl), ai_ cy (rl 0) 12 (Ml 0), ai_ cy (rl 1) 12 (Ml 1), ai_ cy (rl 2) 12 (Ml 2), ai_ cy (rl 3) 12 (Ml 3), ai_ cy (rl 4) 12 (Ml 4), ai_ cy (rl 5) 12 (Ml 5), ai_ cy (rl 6) 12 (Ml 6), ai_ cy (rl 7) 12 (Ml 7), ai_ cy (rl 8) 12 (Ml 8), ai_ cy (rl 9) 12 (Ml 9), ai_ cy (rl 10) 12 (Ml 10), ai_ cy (rl 11) 12 (Ml 11)] [0, 1, 2, 3, 4, 5, 6, 7, 8, 9, 10, 11, 12, 13, 14, 15] (by decide +kernel) rfl (fun hPc hDw hFc hC_ => ?_)
    refine va_callv (va_runV (As := [.int y_2, .int y_9, .int y_11]) (rest := []) ⟨hx, hb, hml, hown, hts⟩ (c_X7_chooseForDense2_9 l D cy H.size xh u1 u2 u3 u4 u5 u6 v7_4 v8_5 xc xk clo cro c4 c5 c6 c7 c8 xn n1 n2 n3 n4 n5 vp vn rl Ml y_2 y_9 y_11 (by first | with_reducible assumption | omega | assumption) (by first | with_reducible assumption | omega | assumption) (by first | with_reducible assumption | assumption | omega) (by first | with_reducible assumption | assumption | omega) (by first | with_reducible assumption | omega | assumption) (by first | with_reducible assumption | assumption | omega) (by first | with_reducible assumption | assumption | omega)) (cwV 3 hts gX7_chooseForDense_X7_chooseForDense rfl rfl rfl ⟨rfl, hd_X7_chooseForDense⟩ ⟨Nat.le_of_ble_eq_true rfl, Nat.le_of_ble_eq_true rfl⟩) ⟨bl_g, va_recvX hK.1 hP (ci := 7) (q0 := 0) rfl rfl, fun U hU hW => ⟨rfl, by rw [hU], by rw [hU]; exact hPc, ⟨kk_mv hW hK, arrOfT_moved hW.alike hG⟩, hDw⟩⟩ rfl rfl hl.1 rfl (lv_room (Nat.le_of_ble_eq_true rfl)) dB_36_1_63.2.2.2.1 ⟨Nat.le_of_ble_eq_true rfl, Nat.le_of_ble_eq_true rfl⟩) hS (fun q _ h => hFc q h) hFc (fun u t H locs ht hvm hw hB hz1 hk1 hS => ?_)
    obtain ⟨v7_13, v8_14, g_15, hP1, hD1⟩ := hB
    rw [ht] at hP1
    obtain ⟨hP, hD⟩ := va_join (wr := []) (w1 := [ob7_0_ xh xc u1 u2 u3 u4 u5 u6 v7_13 v8_14, ob0_0_ xc xn xk clo cro c4 c5 c6 c7 c8, ob3_0_ xn vp vn n1 n2 n3 n4 n5, aq_ cy 6 clo 12 (gf_ rl), ai_ cy (rl 0) 12 (Ml 0), ai_ cy (rl 1) 12 (Ml 1), ai_ cy (rl 2) 12 (Ml 2), ai_ cy (rl 3) 12 (Ml 3), ai_ cy (rl 4) 12 (Ml 4), ai_ cy (rl 5) 12 (Ml 5), ai_ cy (rl 6) 12 (Ml 6), ai_ cy (rl 7) 12 (Ml 7), ai_ cy (rl 8) 12 (Ml 8), ai_ cy (rl 9) 12 (Ml 9), ai_ cy (rl 10) 12 (Ml 10), ai_ cy (rl 11) 12 (Ml 11)]) hP hD [0, 1, 2, 3, 4, 5, 6, 7, 8, 9, 10, 11, 12, 13, 14, 15] [] hC_ rfl (by decide) (by decide) hk1 hFc hP1 hD1
    refine pd_K [ob7_0_ xh xc u1 u2 u3 u4 u5 u6 v7_13 v8_14, ob0_0_ xc xn xk clo cro c4 c5 c6 c7 c8, ob3_0_ xn vp vn n1 n2 n3 n4 n5, aq_ cy 6 clo 12 (gf_ rl), ai_ cy (rl 0) 12 (Ml 0), ai_ cy (rl 1) 12 (Ml 1), ai_ cy (rl 2) 12 (Ml 2), ai_ cy (rl 3) 12 (Ml 3), ai_ cy (rl 4) 12 (Ml 4), ai_ cy (rl 5) 12 (Ml 5), ai_ cy (rl 6) 12 (Ml 6), ai_ cy (rl 7) 12 (Ml 7), ai_ cy (rl 8) 12 (Ml 8), ai_ cy (rl 9) 12 (Ml 9), ai_ cy (rl 10) 12 (Ml 10), ai_ cy (rl 11) 12 (Ml 11)] hP hD (fun hP hD => ?_)
    rw [hQ]
    exact W.vret hx hb hr (fun t ht hW => ⟨⟨(), rfl, trivial, v7_13, v8_14, (dS_to g_15 (by rw [hKq_, hin_.2, pw_K hK_]; omega)), by rw [ht]; exact hP, hD⟩, hS.F ht⟩) hS.2.2 dB_36_1_63.2.2.2.2
  · have t_1 : ¬ (0 : Int32).toInt ≤ a1.toInt := fun h => c_1 (Int32.le_iff_toInt_le.mpr h)
    have hK_ : (a1.toInt + 1).toNat = 0 := by omega
    have hh0_ : hdn (zM Ml) vp.toNatClampNeg 0 a2 a3.toInt := by rw [hK_] at hh; exact hh
    have hlf_ := hdn_leaf hh0_ (by omega)
    have cA2_ := clI (i := a2) (by omega)
    have hsm_ := hlf_.1
    refine lv_aload_n hx hb dB_36_1_62.1.1.2.1 rfl (lv_at hl 0 rfl) ?_
    refine lv_iload_n hx hb dB_36_1_62.1.1.2.2 rfl (lv_at hl 2 rfl) ?_
    refine lv_iload_n hx hb dB_36_1_62.1.2.1.1 rfl (lv_at hl 3 rfl) ?_
    refine ct_S hP hD hS hA [ob7_0_ xh xc u1 u2 u3 u4 u5 u6 u7 u8] [0] (by decide) rfl (fun hPc hDw hFc hC_ => ?_)
    refine va_callv (va_runV (As := [.int a2, .int a3]) (rest := []) ⟨hx, hb, hml, hown, hts⟩ (c_X7_compareDense2 l D cy s.heap.size xh u1 u2 u3 u4 u5 u6 u7 u8 xc (wN (zM Ml) vp.toNatClampNeg) a2 a3 (by first | with_reducible assumption | omega | assumption) (by first | with_reducible assumption | assumption | omega) (by first | with_reducible assumption | assumption | omega) (by first | with_reducible assumption | assumption | omega) (by first | with_reducible assumption | omega | assumption) (by first | with_reducible assumption | omega | assumption)) (cwV 2 hts gX7_chooseForDense_X7_compareDense rfl rfl rfl ⟨rfl, hd_X7_compareDense⟩ ⟨Nat.le_of_ble_eq_true rfl, Nat.le_of_ble_eq_true rfl⟩) ⟨bl_, va_recvX hK.1 hP (ci := 7) (q0 := 0) rfl rfl, fun U hU hW => ⟨rfl, by rw [hU], by rw [hU]; exact hPc, kk_mv hW hK, hDw⟩⟩ rfl rfl hl.1 rfl (lv_room (Nat.le_of_ble_eq_true rfl)) dB_36_1_62.1.2.1.2 ⟨Nat.le_of_ble_eq_true rfl, Nat.le_of_ble_eq_true rfl⟩) hS (fun q _ h => hFc q h) hFc (fun u t H locs ht hvm hw hB hz1 hk1 hS => ?_)
    obtain ⟨v7_17, v8_18, g_19, hP1, hD1⟩ := hB
    rw [ht] at hP1
    obtain ⟨hP, hD⟩ := va_join (wr := [ob0_0_ xc xn xk clo cro c4 c5 c6 c7 c8, ob3_0_ xn vp vn n1 n2 n3 n4 n5, aq_ cy 6 clo 12 (gf_ rl), ai_ cy (rl 0) 12 (Ml 0), ai_ cy (rl 1) 12 (Ml 1), ai_ cy (rl 2) 12 (Ml 2), ai_ cy (rl 3) 12 (Ml 3), ai_ cy (rl 4) 12 (Ml 4), ai_ cy (rl 5) 12 (Ml 5), ai_ cy (rl 6) 12 (Ml 6), ai_ cy (rl 7) 12 (Ml 7), ai_ cy (rl 8) 12 (Ml 8), ai_ cy (rl 9) 12 (Ml 9), ai_ cy (rl 10) 12 (Ml 10), ai_ cy (rl 11) 12 (Ml 11)]) (w1 := [ob7_0_ xh xc u1 u2 u3 u4 u5 u6 v7_17 v8_18]) hP hD [0] [1, 2, 3, 4, 5, 6, 7, 8, 9, 10, 11, 12, 13, 14, 15] hC_ rfl (by decide +kernel) (by decide +kernel) hk1 hFc hP1 hD1
    refine pd_S hP hD [ob7_0_ xh xc u1 u2 u3 u4 u5 u6 v7_17 v8_18, ob0_0_ xc xn xk clo cro c4 c5 c6 c7 c8, ob3_0_ xn vp vn n1 n2 n3 n4 n5, aq_ cy 6 clo 12 (gf_ rl), ai_ cy (rl 0) 12 (Ml 0), ai_ cy (rl 1) 12 (Ml 1), ai_ cy (rl 2) 12 (Ml 2), ai_ cy (rl 3) 12 (Ml 3), ai_ cy (rl 4) 12 (Ml 4), ai_ cy (rl 5) 12 (Ml 5), ai_ cy (rl 6) 12 (Ml 6), ai_ cy (rl 7) 12 (Ml 7), ai_ cy (rl 8) 12 (Ml 8), ai_ cy (rl 9) 12 (Ml 9), ai_ cy (rl 10) 12 (Ml 10), ai_ cy (rl 11) 12 (Ml 11)] [15, 0, 1, 2, 3, 4, 5, 6, 7, 8, 9, 10, 11, 12, 13, 14] (by decide +kernel) rfl (fun hP hD => ?_)
    rw [hQ]
    exact W.vret hx hb hr (fun t ht hW => ⟨⟨(), rfl, trivial, v7_17, v8_18, (dS_to g_19 (by rw [hK_])), by rw [ht]; exact hP, hD⟩, hS.F ht⟩) hS.2.2 dB_36_1_62.1.2.2.1

set_option maxHeartbeats 4000000 in
set_option maxRecDepth 100000 in
theorem c_X7_chooseForDense2_11 (l : Launch) (D : va_G) (cy : Nat → ClassId) (sz : Nat) (xh : Nat) (u1 : Int32) (u2 : Int32) (u3 : Int32) (u4 : Int32) (u5 : Int32) (u6 : Int32) (u7 : Int32) (u8 : Int32) (xc : Nat) (xk : Nat) (clo : Nat) (cro : Nat) (c4 : Nat) (c5 : Nat) (c6 : Nat) (c7 : Nat) (c8 : Nat) (xn : Nat) (n1 : Nat) (n2 : Nat) (n3 : Nat) (n4 : Nat) (n5 : Nat) (vp : Int32) (vn : Int32) (rl : Nat → Nat) (Ml : Nat → Nat → Int32) (a1 : Int32) (a2 : Int32) (a3 : Int32) (hvp : 0 ≤ vp.toInt ∧ vp.toInt ≤ 12) (q1 : -1 ≤ a1.toInt ∧ a1.toInt < 11) (hM : ∀ x y : Nat, x < vp.toNatClampNeg → y < vp.toNatClampNeg → 0 ≤ zM Ml x y ∧ zM Ml x y ≤ 80000000) (hB : ∀ n : Nat, 0 ≤ wN (zM Ml) vp.toNatClampNeg n ∧ wN (zM Ml) vp.toNatClampNeg n ≤ 100000) (hB0 : wN (zM Ml) vp.toNatClampNeg 0 = 0) (hh : hdn (zM Ml) vp.toNatClampNeg (a1.toInt + 1).toNat a2 a3.toInt) (hs : dS_ (wN (zM Ml) vp.toNatClampNeg) bN a2.toNatClampNeg u7 u8) : Met l yX7_chooseForDense wsX7_chooseForDense ({ frames := 13, cells := 0, slots := 0, locals := 299 }) (va_Pc [.ref xh, .int a1, .int a2, .int a3] (fun U => U.heap.size = sz ∧ va_P D vwCl [ob7_0_ xh xc u1 u2 u3 u4 u5 u6 u7 u8, ob0_0_ xc xn xk clo cro c4 c5 c6 c7 c8, ob3_0_ xn vp vn n1 n2 n3 n4 n5, aq_ cy 6 clo 12 (gf_ rl), ai_ cy (rl 0) 12 (Ml 0), ai_ cy (rl 1) 12 (Ml 1), ai_ cy (rl 2) 12 (Ml 2), ai_ cy (rl 3) 12 (Ml 3), ai_ cy (rl 4) 12 (Ml 4), ai_ cy (rl 5) 12 (Ml 5), ai_ cy (rl 6) 12 (Ml 6), ai_ cy (rl 7) 12 (Ml 7), ai_ cy (rl 8) 12 (Ml 8), ai_ cy (rl 9) 12 (Ml 9), ai_ cy (rl 10) 12 (Ml 10), ai_ cy (rl 11) 12 (Ml 11)] U.heap ∧ kg_ D cy U ∧ va_D (fun _ => True) [ob7_0_ xh xc u1 u2 u3 u4 u5 u6 u7 u8, ob0_0_ xc xn xk clo cro c4 c5 c6 c7 c8, ob3_0_ xn vp vn n1 n2 n3 n4 n5, aq_ cy 6 clo 12 (gf_ rl), ai_ cy (rl 0) 12 (Ml 0), ai_ cy (rl 1) 12 (Ml 1), ai_ cy (rl 2) 12 (Ml 2), ai_ cy (rl 3) 12 (Ml 3), ai_ cy (rl 4) 12 (Ml 4), ai_ cy (rl 5) 12 (Ml 5), ai_ cy (rl 6) 12 (Ml 6), ai_ cy (rl 7) 12 (Ml 7), ai_ cy (rl 8) 12 (Ml 8), ai_ cy (rl 9) 12 (Ml 9), ai_ cy (rl 10) 12 (Ml 10), ai_ cy (rl 11) 12 (Ml 11)])) (va_Qv (fun (_ : Unit) => True) (fun (_ : Unit) (t : State) => ∃ (v7 : Int32), ∃ (v8 : Int32), (dS_ (wN (zM Ml) vp.toNatClampNeg) bN (a2.toNatClampNeg + 2 ^ (a1.toInt + 1).toNat) v7 v8) ∧ va_P D vwCl [ob7_0_ xh xc u1 u2 u3 u4 u5 u6 v7 v8, ob0_0_ xc xn xk clo cro c4 c5 c6 c7 c8, ob3_0_ xn vp vn n1 n2 n3 n4 n5, aq_ cy 6 clo 12 (gf_ rl), ai_ cy (rl 0) 12 (Ml 0), ai_ cy (rl 1) 12 (Ml 1), ai_ cy (rl 2) 12 (Ml 2), ai_ cy (rl 3) 12 (Ml 3), ai_ cy (rl 4) 12 (Ml 4), ai_ cy (rl 5) 12 (Ml 5), ai_ cy (rl 6) 12 (Ml 6), ai_ cy (rl 7) 12 (Ml 7), ai_ cy (rl 8) 12 (Ml 8), ai_ cy (rl 9) 12 (Ml 9), ai_ cy (rl 10) 12 (Ml 10), ai_ cy (rl 11) 12 (Ml 11)] t.heap ∧ va_D (va_A [ob7_0_ xh xc u1 u2 u3 u4 u5 u6 u7 u8, ob0_0_ xc xn xk clo cro c4 c5 c6 c7 c8, ob3_0_ xn vp vn n1 n2 n3 n4 n5, aq_ cy 6 clo 12 (gf_ rl), ai_ cy (rl 0) 12 (Ml 0), ai_ cy (rl 1) 12 (Ml 1), ai_ cy (rl 2) 12 (Ml 2), ai_ cy (rl 3) 12 (Ml 3), ai_ cy (rl 4) 12 (Ml 4), ai_ cy (rl 5) 12 (Ml 5), ai_ cy (rl 6) 12 (Ml 6), ai_ cy (rl 7) 12 (Ml 7), ai_ cy (rl 8) 12 (Ml 8), ai_ cy (rl 9) 12 (Ml 9), ai_ cy (rl 10) 12 (Ml 10), ai_ cy (rl 11) 12 (Ml 11)] sz) [ob7_0_ xh xc u1 u2 u3 u4 u5 u6 v7 v8, ob0_0_ xc xn xk clo cro c4 c5 c6 c7 c8, ob3_0_ xn vp vn n1 n2 n3 n4 n5, aq_ cy 6 clo 12 (gf_ rl), ai_ cy (rl 0) 12 (Ml 0), ai_ cy (rl 1) 12 (Ml 1), ai_ cy (rl 2) 12 (Ml 2), ai_ cy (rl 3) 12 (Ml 3), ai_ cy (rl 4) 12 (Ml 4), ai_ cy (rl 5) 12 (Ml 5), ai_ cy (rl 6) 12 (Ml 6), ai_ cy (rl 7) 12 (Ml 7), ai_ cy (rl 8) 12 (Ml 8), ai_ cy (rl 9) 12 (Ml 9), ai_ cy (rl 10) 12 (Ml 10), ai_ cy (rl 11) 12 (Ml 11)]) (va_A [ob7_0_ xh xc u1 u2 u3 u4 u5 u6 u7 u8, ob0_0_ xc xn xk clo cro c4 c5 c6 c7 c8, ob3_0_ xn vp vn n1 n2 n3 n4 n5, aq_ cy 6 clo 12 (gf_ rl), ai_ cy (rl 0) 12 (Ml 0), ai_ cy (rl 1) 12 (Ml 1), ai_ cy (rl 2) 12 (Ml 2), ai_ cy (rl 3) 12 (Ml 3), ai_ cy (rl 4) 12 (Ml 4), ai_ cy (rl 5) 12 (Ml 5), ai_ cy (rl 6) 12 (Ml 6), ai_ cy (rl 7) 12 (Ml 7), ai_ cy (rl 8) 12 (Ml 8), ai_ cy (rl 9) 12 (Ml 9), ai_ cy (rl 10) 12 (Ml 10), ai_ cy (rl 11) 12 (Ml 11)] sz)) 0 0 (va_A [ob7_0_ xh xc u1 u2 u3 u4 u5 u6 u7 u8, ob0_0_ xc xn xk clo cro c4 c5 c6 c7 c8, ob3_0_ xn vp vn n1 n2 n3 n4 n5, aq_ cy 6 clo 12 (gf_ rl), ai_ cy (rl 0) 12 (Ml 0), ai_ cy (rl 1) 12 (Ml 1), ai_ cy (rl 2) 12 (Ml 2), ai_ cy (rl 3) 12 (Ml 3), ai_ cy (rl 4) 12 (Ml 4), ai_ cy (rl 5) 12 (Ml 5), ai_ cy (rl 6) 12 (Ml 6), ai_ cy (rl 7) 12 (Ml 7), ai_ cy (rl 8) 12 (Ml 8), ai_ cy (rl 9) 12 (Ml 9), ai_ cy (rl 10) 12 (Ml 10), ai_ cy (rl 11) 12 (Ml 11)] sz) := by
  refine ofQ (cc := cX7_chooseForDense) (maxL := 4) (ret := none) (by decide) rfl ?_
  intro p e s m args below meth c s₁ Q hQ B hml hv
  obtain ⟨rfl, hsz, hP, hK, hD0⟩ := hv
  have hG := hK.2
  have hK := hK.1
  have hx := B.exec
  have hb := B.bytes
  have hr := B.returns
  have hts := atoms_spec (ws := wsX7_chooseForDense) B.pre
  have hown : s.vm.findClass RX7 = some m.cls := by have h_ := findClass_of_methodNamed B.named; exact h_
  have hlocks := B.notSynchronized
  subst hsz
  have hD := hD0.self (sz := s.heap.size)
  generalize hAe : va_A [ob7_0_ xh xc u1 u2 u3 u4 u5 u6 u7 u8, ob0_0_ xc xn xk clo cro c4 c5 c6 c7 c8, ob3_0_ xn vp vn n1 n2 n3 n4 n5, aq_ cy 6 clo 12 (gf_ rl), ai_ cy (rl 0) 12 (Ml 0), ai_ cy (rl 1) 12 (Ml 1), ai_ cy (rl 2) 12 (Ml 2), ai_ cy (rl 3) 12 (Ml 3), ai_ cy (rl 4) 12 (Ml 4), ai_ cy (rl 5) 12 (Ml 5), ai_ cy (rl 6) 12 (Ml 6), ai_ cy (rl 7) 12 (Ml 7), ai_ cy (rl 8) 12 (Ml 8), ai_ cy (rl 9) 12 (Ml 9), ai_ cy (rl 10) 12 (Ml 10), ai_ cy (rl 11) 12 (Ml 11)] s.heap.size = A at hD hQ
  have hA : ∀ q : Nat, s.heap.size ≤ q → A q := fun q h => by rw [← hAe]; exact Or.inr h
  have hS : va_S A s.heap s.heap [] := va_S.rf
  have hl := lv_entry ([.ref xh, .int a1, .int a2, .int a3]) (n := 4) (Nat.le_of_ble_eq_true rfl)
  rw [lg_entry_eq]
  generalize (lg_sl ([.ref xh, .int a1, .int a2, .int a3]) ++ List.replicate (4 - (lg_sl ([.ref xh, .int a1, .int a2, .int a3])).length) Slot.unset).toArray = ls at hl ⊢
  have hl : lv_has ls 4 [(0, .ref xh), (1, .int a1), (2, .int a2), (3, .int a3)] := hl
  have z0 : (0 : Int32).toInt = 0 := by decide
  have z1 : (1 : Int32).toInt = 1 := by decide
  have cv_ := clI (i := vp) (by omega)
  have hnn_ : ∀ x y : Nat, x < vp.toNatClampNeg → y < vp.toNatClampNeg → 0 ≤ zM Ml x y := fun x y hx hy => (hM x y hx hy).1
  have ha3_ := hdn_bd hh (by omega) hnn_ hB
  have h7r_ : 0 ≤ u7.toInt ∧ u7.toInt < 4096 := by have h1_ := hs.1; have h2_ := dnz_lt (W := (wN (zM Ml) vp.toNatClampNeg)) (b := bN) a2.toNatClampNeg; have h3_ := hnt_lt (hdn_hnt hh) (by omega); omega
  refine lv_iload_n hx hb dB_36_1_62.1.1.1.1 rfl (lv_at hl 1 rfl) ?_
  refine lv_if_ge (tgt := 11) hx hb dB_36_1_62.1.1.1.2 (by decide) (fun c_1 => ?_) (fun c_1 => ?_)
  · have t_1 : (0 : Int32).toInt ≤ a1.toInt := Int32.le_iff_toInt_le.mp c_1
    have cp_ := clI (i := a1) (by omega)
    have hK_ : (a1.toInt + 1).toNat = a1.toNatClampNeg + 1 := by omega
    have hh1_ : hdn (zM Ml) vp.toNatClampNeg (a1.toNatClampNeg + 1) a2 a3.toInt := by rw [hK_] at hh; exact hh
    have hap_ : a1.toInt < vp.toInt := by have h_ := hh1_.1; omega
    refine lv_aload_n hx hb dB_36_1_62.1.2.2.2 rfl (lv_at hl 0 rfl) ?_
    refine lv_iload_n hx hb dB_36_1_62.2.1.1.1 rfl (lv_at hl 1 rfl) ?_
    refine lv_iconst (v := 1) hx hb dB_36_1_62.2.1.1.2 (by decide) ?_
    refine lv_isub hx hb dB_36_1_62.2.1.2.1 ?_
    refine lv_topi (fun y_2 ey_2 => ?_)
    have ty_2 : y_2.toInt = a1.toInt - (1 : Int32).toInt := by rw [ey_2]; exact subI (by omega) (by omega)
    refine lv_iload_n hx hb dB_36_1_62.2.1.2.2 rfl (lv_at hl 2 rfl) ?_
    refine lv_iload_n hx hb dB_36_1_62.2.2.1.1 rfl (lv_at hl 3 rfl) ?_
    have hKr_ : (y_2.toInt + 1).toNat = a1.toNatClampNeg := by omega
    have hrh_ : hdn (zM Ml) vp.toNatClampNeg (y_2.toInt + 1).toNat a2 a3.toInt := by rw [hKr_]; exact hdn_out hh1_
    refine ct_S hP hD hS hA [ob7_0_ xh xc u1 u2 u3 u4 u5 u6 u7 u8, ob0_0_ xc xn xk clo cro c4 c5 c6 c7 c8, ob3_0_ xn vp vn n1 n2 n3 n4 n5, aq_ cy 6 clo 12 (gf_ rl), ai_ cy (rl 0) 12 (Ml 0), ai_ cy (rl 1) 12 (Ml 1), ai_ cy (rl 2) 12 (Ml 2), ai_ cy (rl 3) 12 (Ml 3), ai_ cy (rl 4) 12 (Ml 4), ai_ cy (rl 5) 12 (Ml 5), ai_ cy (rl 6) 12 (Ml 6), ai_ cy (rl 7) 12 (Ml 7), ai_ cy (rl 8) 12 (Ml 8), ai_ cy (rl 9) 12 (Ml 9), ai_ cy (rl 10) 12 (Ml 10), ai_ cy (rl 11) 12 (Ml 11)] [0, 1, 2, 3, 4, 5, 6, 7, 8, 9, 10, 11, 12, 13, 14, 15] (by decide +kernel) rfl (fun hPc hDw hFc hC_ => ?_)
    refine va_callv (va_runV (As := [.int y_2, .int a2, .int a3]) (rest := []) ⟨hx, hb, hml, hown, hts⟩ (c_X7_chooseForDense2_10 l D cy s.heap.size xh u1 u2 u3 u4 u5 u6 u7 u8 xc xk clo cro c4 c5 c6 c7 c8 xn n1 n2 n3 n4 n5 vp vn rl Ml y_2 a2 a3 (by first | with_reducible assumption | omega | assumption) (by first | with_reducible assumption | omega | assumption) (by first | with_reducible assumption | assumption | omega) (by first | with_reducible assumption | assumption | omega) (by first | with_reducible assumption | omega | assumption) (by first | with_reducible assumption | assumption | omega) (by first | with_reducible assumption | assumption | omega)) (cwV 3 hts gX7_chooseForDense_X7_chooseForDense rfl rfl rfl ⟨rfl, hd_X7_chooseForDense⟩ ⟨Nat.le_of_ble_eq_true rfl, Nat.le_of_ble_eq_true rfl⟩) ⟨bl_g, va_recvX hK.1 hP (ci := 7) (q0 := 0) rfl rfl, fun U hU hW => ⟨rfl, by rw [hU], by rw [hU]; exact hPc, ⟨kk_mv hW hK, arrOfT_moved hW.alike hG⟩, hDw⟩⟩ rfl rfl hl.1 rfl (lv_room (Nat.le_of_ble_eq_true rfl)) dB_36_1_62.2.2.1.2 ⟨Nat.le_of_ble_eq_true rfl, Nat.le_of_ble_eq_true rfl⟩) hS (fun q _ h => hFc q h) hFc (fun u t H locs ht hvm hw hB hz1 hk1 hS => ?_)
    obtain ⟨v7_4, v8_5, g_6, hP1, hD1⟩ := hB
    rw [ht] at hP1
    obtain ⟨hP, hD⟩ := va_join (wr := []) (w1 := [ob7_0_ xh xc u1 u2 u3 u4 u5 u6 v7_4 v8_5, ob0_0_ xc xn xk clo cro c4 c5 c6 c7 c8, ob3_0_ xn vp vn n1 n2 n3 n4 n5, aq_ cy 6 clo 12 (gf_ rl), ai_ cy (rl 0) 12 (Ml 0), ai_ cy (rl 1) 12 (Ml 1), ai_ cy (rl 2) 12 (Ml 2), ai_ cy (rl 3) 12 (Ml 3), ai_ cy (rl 4) 12 (Ml 4), ai_ cy (rl 5) 12 (Ml 5), ai_ cy (rl 6) 12 (Ml 6), ai_ cy (rl 7) 12 (Ml 7), ai_ cy (rl 8) 12 (Ml 8), ai_ cy (rl 9) 12 (Ml 9), ai_ cy (rl 10) 12 (Ml 10), ai_ cy (rl 11) 12 (Ml 11)]) hP hD [0, 1, 2, 3, 4, 5, 6, 7, 8, 9, 10, 11, 12, 13, 14, 15] [] hC_ rfl (by decide) (by decide) hk1 hFc hP1 hD1
    refine pd_K [ob7_0_ xh xc u1 u2 u3 u4 u5 u6 v7_4 v8_5, ob0_0_ xc xn xk clo cro c4 c5 c6 c7 c8, ob3_0_ xn vp vn n1 n2 n3 n4 n5, aq_ cy 6 clo 12 (gf_ rl), ai_ cy (rl 0) 12 (Ml 0), ai_ cy (rl 1) 12 (Ml 1), ai_ cy (rl 2) 12 (Ml 2), ai_ cy (rl 3) 12 (Ml 3), ai_ cy (rl 4) 12 (Ml 4), ai_ cy (rl 5) 12 (Ml 5), ai_ cy (rl 6) 12 (Ml 6), ai_ cy (rl 7) 12 (Ml 7), ai_ cy (rl 8) 12 (Ml 8), ai_ cy (rl 9) 12 (Ml 9), ai_ cy (rl 10) 12 (Ml 10), ai_ cy (rl 11) 12 (Ml 11)] hP hD (fun hP hD => ?_)
    have hs1_ := dS_to g_6 (show _ = a2.toNatClampNeg + 2 ^ a1.toNatClampNeg by rw [hKr_])
    refine lv_aload_n hx hb dB_36_1_62.2.2.2.1 rfl (lv_at hl 0 rfl) ?_
    refine lv_iload_n hx hb dB_36_1_62.2.2.2.2 rfl (lv_at hl 1 rfl) ?_
    refine lv_iconst (v := 1) hx hb dB_36_1_63.1.1.1 (by decide) ?_
    refine lv_isub hx hb dB_36_1_63.1.1.2.1 ?_
    refine lv_topi (fun y_7 ey_7 => ?_)
    have e_ := (ey_7.trans ey_2.symm).symm
    subst e_
    refine lv_iload_n hx hb dB_36_1_63.1.1.2.2 rfl (lv_at hl 2 rfl) ?_
    refine lv_iconst (v := 1) hx hb dB_36_1_63.1.2.1.1 (by decide) ?_
    refine lv_iload_n hx hb dB_36_1_63.1.2.1.2 rfl (lv_at hl 1 rfl) ?_
    refine lv_ishl hx hb dB_36_1_63.1.2.2.1 ?_
    refine lv_topi (fun y_8 ey_8 => ?_)
    refine lv_ior hx hb dB_36_1_63.1.2.2.2 ?_
    refine lv_topi (fun y_9 ey_9 => ?_)
    refine lv_iload_n hx hb dB_36_1_63.2.1.1.1 rfl (lv_at hl 3 rfl) ?_
    refine lv_aload_n hx hb dB_36_1_63.2.1.1.2 rfl (lv_at hl 0 rfl) ?_
    refine lv_iload_n hx hb dB_36_1_63.2.1.2.1 rfl (lv_at hl 1 rfl) ?_
    refine lv_iload_n hx hb dB_36_1_63.2.1.2.2 rfl (lv_at hl 2 rfl) ?_
    refine ct_R hP hD [ob7_0_ xh xc u1 u2 u3 u4 u5 u6 v7_4 v8_5, ob0_0_ xc xn xk clo cro c4 c5 c6 c7 c8, ob3_0_ xn vp vn n1 n2 n3 n4 n5, aq_ cy 6 clo 12 (gf_ rl), ai_ cy (rl 0) 12 (Ml 0), ai_ cy (rl 1) 12 (Ml 1), ai_ cy (rl 2) 12 (Ml 2), ai_ cy (rl 3) 12 (Ml 3), ai_ cy (rl 4) 12 (Ml 4), ai_ cy (rl 5) 12 (Ml 5), ai_ cy (rl 6) 12 (Ml 6), ai_ cy (rl 7) 12 (Ml 7), ai_ cy (rl 8) 12 (Ml 8), ai_ cy (rl 9) 12 (Ml 9), ai_ cy (rl 10) 12 (Ml 10), ai_ cy (rl 11) 12 (Ml 11)] [0, 1, 2, 3, 4, 5, 6, 7, 8, 9, 10, 11, 12, 13, 14, 15] (by decide +kernel) rfl (fun hPc hDw => ?_)
    have hFc := va_free (wc := []) hD hS hA [] rfl
    refine va_calli (va_runV (As := [.int a1, .int a2]) (rest := [.int a3, .int y_9, .int y_2, .ref xh]) ⟨hx, hb, hml, hown, hts⟩ (c_X7_letIn2 l D cy H.size xh u1 u2 u3 u4 u5 u6 v7_4 v8_5 xc xk clo cro c4 c5 c6 c7 c8 xn n1 n2 n3 n4 n5 vp vn rl Ml a1 a2 (by first | with_reducible assumption | omega | assumption) (by first | with_reducible assumption | omega | assumption) (by first | with_reducible assumption | assumption | omega)) (cwV 2 hts gX7_chooseForDense_X7_letIn rfl rfl rfl ⟨rfl, hd_X7_letIn⟩ ⟨Nat.le_of_ble_eq_true rfl, Nat.le_of_ble_eq_true rfl⟩) ⟨bl_g, va_recvX hK.1 hP (ci := 7) (q0 := 0) rfl rfl, fun U hU hW => ⟨rfl, by rw [hU], by rw [hU]; exact hPc, ⟨kk_mv hW hK, arrOfT_moved hW.alike hG⟩, hDw⟩⟩ rfl rfl hl.1 rfl (lv_room (Nat.le_of_ble_eq_true rfl)) dB_36_1_63.2.2.1.1 ⟨Nat.le_of_ble_eq_true rfl, Nat.le_of_ble_eq_true rfl⟩) hS (fun q _ h => hFc q h) hFc (fun r_10 u t H locs ht hvm hw hB hz1 hk1 hS => ?_)
    have hP : va_P D vwCl _ H := ro_keep hP hk1
    obtain ⟨f0_r_10, f1_r_10⟩ := hw
    refine lv_iadd hx hb dB_36_1_63.2.2.1.2 ?_
    refine lv_topi (fun y_11 ey_11 => ?_)
    have ty_11 : y_11.toInt = a3.toInt + r_10.toInt := by rw [ey_11]; exact addI (by omega) (by omega)
    have hKq_ : (y_2.toInt + 1).toNat = a1.toNatClampNeg := by omega
    have hin_ := hdn_in hh1_ (by omega) (by omega) ey_8 ey_9 ty_11 f0_r_10
    have hrh2_ : hdn (zM Ml) vp.toNatClampNeg (y_2.toInt + 1).toNat y_9 y_11.toInt := by rw [hKq_]; exact hin_.1
    have hrs_ : dS_ (wN (zM Ml) vp.toNatClampNeg) bN y_9.toNatClampNeg v7_4 v8_5 := dS_to hs1_ hin_.2.symm
    refine ct_S hP hD hS hA [ob7_0_ xh xc u1 u2 u3 u4 u5 u6 v7_4 v8_5, ob0_0_ xc xn xk clo cro c4 c5 c6 c7 c8, ob3_0_ xn vp vn n1 n2 n3 n4 n5, aq_ cy 6 clo 12 (gf_ rl), ai_ cy (rl 0) 12 (Ml 0), ai_ cy (rl 1) 12 (Ml 1), ai_ cy (rl 2) 12 (Ml 2), ai_ cy (rl 3) 12 (Ml 3), ai_ cy (rl 4) 12 (Ml 4), ai_ cy (rl 5) 12 (Ml 5), ai_ cy (rl 6) 12 (Ml 6), ai_ cy (rl 7) 12 (Ml 7), ai_ cy (rl 8) 12 (Ml 8), ai_ cy (rl 9) 12 (Ml 9), ai_ cy (rl 10) 12 (Ml 10), ai_ cy (rl 11) 12 (Ml 11)] [0, 1, 2, 3, 4, 5, 6, 7, 8, 9, 10, 11, 12, 13, 14, 15] (by decide +kernel) rfl (fun hPc hDw hFc hC_ => ?_)
    refine va_callv (va_runV (As := [.int y_2, .int y_9, .int y_11]) (rest := []) ⟨hx, hb, hml, hown, hts⟩ (c_X7_chooseForDense2_10 l D cy H.size xh u1 u2 u3 u4 u5 u6 v7_4 v8_5 xc xk clo cro c4 c5 c6 c7 c8 xn n1 n2 n3 n4 n5 vp vn rl Ml y_2 y_9 y_11 (by first | with_reducible assumption | omega | assumption) (by first | with_reducible assumption | omega | assumption) (by first | with_reducible assumption | assumption | omega) (by first | with_reducible assumption | assumption | omega) (by first | with_reducible assumption | omega | assumption) (by first | with_reducible assumption | assumption | omega) (by first | with_reducible assumption | assumption | omega)) (cwV 3 hts gX7_chooseForDense_X7_chooseForDense rfl rfl rfl ⟨rfl, hd_X7_chooseForDense⟩ ⟨Nat.le_of_ble_eq_true rfl, Nat.le_of_ble_eq_true rfl⟩) ⟨bl_g, va_recvX hK.1 hP (ci := 7) (q0 := 0) rfl rfl, fun U hU hW => ⟨rfl, by rw [hU], by rw [hU]; exact hPc, ⟨kk_mv hW hK, arrOfT_moved hW.alike hG⟩, hDw⟩⟩ rfl rfl hl.1 rfl (lv_room (Nat.le_of_ble_eq_true rfl)) dB_36_1_63.2.2.2.1 ⟨Nat.le_of_ble_eq_true rfl, Nat.le_of_ble_eq_true rfl⟩) hS (fun q _ h => hFc q h) hFc (fun u t H locs ht hvm hw hB hz1 hk1 hS => ?_)
    obtain ⟨v7_13, v8_14, g_15, hP1, hD1⟩ := hB
    rw [ht] at hP1
    obtain ⟨hP, hD⟩ := va_join (wr := []) (w1 := [ob7_0_ xh xc u1 u2 u3 u4 u5 u6 v7_13 v8_14, ob0_0_ xc xn xk clo cro c4 c5 c6 c7 c8, ob3_0_ xn vp vn n1 n2 n3 n4 n5, aq_ cy 6 clo 12 (gf_ rl), ai_ cy (rl 0) 12 (Ml 0), ai_ cy (rl 1) 12 (Ml 1), ai_ cy (rl 2) 12 (Ml 2), ai_ cy (rl 3) 12 (Ml 3), ai_ cy (rl 4) 12 (Ml 4), ai_ cy (rl 5) 12 (Ml 5), ai_ cy (rl 6) 12 (Ml 6), ai_ cy (rl 7) 12 (Ml 7), ai_ cy (rl 8) 12 (Ml 8), ai_ cy (rl 9) 12 (Ml 9), ai_ cy (rl 10) 12 (Ml 10), ai_ cy (rl 11) 12 (Ml 11)]) hP hD [0, 1, 2, 3, 4, 5, 6, 7, 8, 9, 10, 11, 12, 13, 14, 15] [] hC_ rfl (by decide) (by decide) hk1 hFc hP1 hD1
    refine pd_K [ob7_0_ xh xc u1 u2 u3 u4 u5 u6 v7_13 v8_14, ob0_0_ xc xn xk clo cro c4 c5 c6 c7 c8, ob3_0_ xn vp vn n1 n2 n3 n4 n5, aq_ cy 6 clo 12 (gf_ rl), ai_ cy (rl 0) 12 (Ml 0), ai_ cy (rl 1) 12 (Ml 1), ai_ cy (rl 2) 12 (Ml 2), ai_ cy (rl 3) 12 (Ml 3), ai_ cy (rl 4) 12 (Ml 4), ai_ cy (rl 5) 12 (Ml 5), ai_ cy (rl 6) 12 (Ml 6), ai_ cy (rl 7) 12 (Ml 7), ai_ cy (rl 8) 12 (Ml 8), ai_ cy (rl 9) 12 (Ml 9), ai_ cy (rl 10) 12 (Ml 10), ai_ cy (rl 11) 12 (Ml 11)] hP hD (fun hP hD => ?_)
    rw [hQ]
    exact W.vret hx hb hr (fun t ht hW => ⟨⟨(), rfl, trivial, v7_13, v8_14, (dS_to g_15 (by rw [hKq_, hin_.2, pw_K hK_]; omega)), by rw [ht]; exact hP, hD⟩, hS.F ht⟩) hS.2.2 dB_36_1_63.2.2.2.2
  · have t_1 : ¬ (0 : Int32).toInt ≤ a1.toInt := fun h => c_1 (Int32.le_iff_toInt_le.mpr h)
    have hK_ : (a1.toInt + 1).toNat = 0 := by omega
    have hh0_ : hdn (zM Ml) vp.toNatClampNeg 0 a2 a3.toInt := by rw [hK_] at hh; exact hh
    have hlf_ := hdn_leaf hh0_ (by omega)
    have cA2_ := clI (i := a2) (by omega)
    have hsm_ := hlf_.1
    refine lv_aload_n hx hb dB_36_1_62.1.1.2.1 rfl (lv_at hl 0 rfl) ?_
    refine lv_iload_n hx hb dB_36_1_62.1.1.2.2 rfl (lv_at hl 2 rfl) ?_
    refine lv_iload_n hx hb dB_36_1_62.1.2.1.1 rfl (lv_at hl 3 rfl) ?_
    refine ct_S hP hD hS hA [ob7_0_ xh xc u1 u2 u3 u4 u5 u6 u7 u8] [0] (by decide) rfl (fun hPc hDw hFc hC_ => ?_)
    refine va_callv (va_runV (As := [.int a2, .int a3]) (rest := []) ⟨hx, hb, hml, hown, hts⟩ (c_X7_compareDense2 l D cy s.heap.size xh u1 u2 u3 u4 u5 u6 u7 u8 xc (wN (zM Ml) vp.toNatClampNeg) a2 a3 (by first | with_reducible assumption | omega | assumption) (by first | with_reducible assumption | assumption | omega) (by first | with_reducible assumption | assumption | omega) (by first | with_reducible assumption | assumption | omega) (by first | with_reducible assumption | omega | assumption) (by first | with_reducible assumption | omega | assumption)) (cwV 2 hts gX7_chooseForDense_X7_compareDense rfl rfl rfl ⟨rfl, hd_X7_compareDense⟩ ⟨Nat.le_of_ble_eq_true rfl, Nat.le_of_ble_eq_true rfl⟩) ⟨bl_, va_recvX hK.1 hP (ci := 7) (q0 := 0) rfl rfl, fun U hU hW => ⟨rfl, by rw [hU], by rw [hU]; exact hPc, kk_mv hW hK, hDw⟩⟩ rfl rfl hl.1 rfl (lv_room (Nat.le_of_ble_eq_true rfl)) dB_36_1_62.1.2.1.2 ⟨Nat.le_of_ble_eq_true rfl, Nat.le_of_ble_eq_true rfl⟩) hS (fun q _ h => hFc q h) hFc (fun u t H locs ht hvm hw hB hz1 hk1 hS => ?_)
    obtain ⟨v7_17, v8_18, g_19, hP1, hD1⟩ := hB
    rw [ht] at hP1
    obtain ⟨hP, hD⟩ := va_join (wr := [ob0_0_ xc xn xk clo cro c4 c5 c6 c7 c8, ob3_0_ xn vp vn n1 n2 n3 n4 n5, aq_ cy 6 clo 12 (gf_ rl), ai_ cy (rl 0) 12 (Ml 0), ai_ cy (rl 1) 12 (Ml 1), ai_ cy (rl 2) 12 (Ml 2), ai_ cy (rl 3) 12 (Ml 3), ai_ cy (rl 4) 12 (Ml 4), ai_ cy (rl 5) 12 (Ml 5), ai_ cy (rl 6) 12 (Ml 6), ai_ cy (rl 7) 12 (Ml 7), ai_ cy (rl 8) 12 (Ml 8), ai_ cy (rl 9) 12 (Ml 9), ai_ cy (rl 10) 12 (Ml 10), ai_ cy (rl 11) 12 (Ml 11)]) (w1 := [ob7_0_ xh xc u1 u2 u3 u4 u5 u6 v7_17 v8_18]) hP hD [0] [1, 2, 3, 4, 5, 6, 7, 8, 9, 10, 11, 12, 13, 14, 15] hC_ rfl (by decide +kernel) (by decide +kernel) hk1 hFc hP1 hD1
    refine pd_S hP hD [ob7_0_ xh xc u1 u2 u3 u4 u5 u6 v7_17 v8_18, ob0_0_ xc xn xk clo cro c4 c5 c6 c7 c8, ob3_0_ xn vp vn n1 n2 n3 n4 n5, aq_ cy 6 clo 12 (gf_ rl), ai_ cy (rl 0) 12 (Ml 0), ai_ cy (rl 1) 12 (Ml 1), ai_ cy (rl 2) 12 (Ml 2), ai_ cy (rl 3) 12 (Ml 3), ai_ cy (rl 4) 12 (Ml 4), ai_ cy (rl 5) 12 (Ml 5), ai_ cy (rl 6) 12 (Ml 6), ai_ cy (rl 7) 12 (Ml 7), ai_ cy (rl 8) 12 (Ml 8), ai_ cy (rl 9) 12 (Ml 9), ai_ cy (rl 10) 12 (Ml 10), ai_ cy (rl 11) 12 (Ml 11)] [15, 0, 1, 2, 3, 4, 5, 6, 7, 8, 9, 10, 11, 12, 13, 14] (by decide +kernel) rfl (fun hP hD => ?_)
    rw [hQ]
    exact W.vret hx hb hr (fun t ht hW => ⟨⟨(), rfl, trivial, v7_17, v8_18, (dS_to g_19 (by rw [hK_])), by rw [ht]; exact hP, hD⟩, hS.F ht⟩) hS.2.2 dB_36_1_62.1.2.2.1

set_option maxHeartbeats 4000000 in
set_option maxRecDepth 100000 in
theorem c_X7_chooseForDense2_12 (l : Launch) (D : va_G) (cy : Nat → ClassId) (sz : Nat) (xh : Nat) (u1 : Int32) (u2 : Int32) (u3 : Int32) (u4 : Int32) (u5 : Int32) (u6 : Int32) (u7 : Int32) (u8 : Int32) (xc : Nat) (xk : Nat) (clo : Nat) (cro : Nat) (c4 : Nat) (c5 : Nat) (c6 : Nat) (c7 : Nat) (c8 : Nat) (xn : Nat) (n1 : Nat) (n2 : Nat) (n3 : Nat) (n4 : Nat) (n5 : Nat) (vp : Int32) (vn : Int32) (rl : Nat → Nat) (Ml : Nat → Nat → Int32) (a1 : Int32) (a2 : Int32) (a3 : Int32) (hvp : 0 ≤ vp.toInt ∧ vp.toInt ≤ 12) (q1 : -1 ≤ a1.toInt ∧ a1.toInt < 12) (hM : ∀ x y : Nat, x < vp.toNatClampNeg → y < vp.toNatClampNeg → 0 ≤ zM Ml x y ∧ zM Ml x y ≤ 80000000) (hB : ∀ n : Nat, 0 ≤ wN (zM Ml) vp.toNatClampNeg n ∧ wN (zM Ml) vp.toNatClampNeg n ≤ 100000) (hB0 : wN (zM Ml) vp.toNatClampNeg 0 = 0) (hh : hdn (zM Ml) vp.toNatClampNeg (a1.toInt + 1).toNat a2 a3.toInt) (hs : dS_ (wN (zM Ml) vp.toNatClampNeg) bN a2.toNatClampNeg u7 u8) : Met l yX7_chooseForDense wsX7_chooseForDense ({ frames := 14, cells := 0, slots := 0, locals := 322 }) (va_Pc [.ref xh, .int a1, .int a2, .int a3] (fun U => U.heap.size = sz ∧ va_P D vwCl [ob7_0_ xh xc u1 u2 u3 u4 u5 u6 u7 u8, ob0_0_ xc xn xk clo cro c4 c5 c6 c7 c8, ob3_0_ xn vp vn n1 n2 n3 n4 n5, aq_ cy 6 clo 12 (gf_ rl), ai_ cy (rl 0) 12 (Ml 0), ai_ cy (rl 1) 12 (Ml 1), ai_ cy (rl 2) 12 (Ml 2), ai_ cy (rl 3) 12 (Ml 3), ai_ cy (rl 4) 12 (Ml 4), ai_ cy (rl 5) 12 (Ml 5), ai_ cy (rl 6) 12 (Ml 6), ai_ cy (rl 7) 12 (Ml 7), ai_ cy (rl 8) 12 (Ml 8), ai_ cy (rl 9) 12 (Ml 9), ai_ cy (rl 10) 12 (Ml 10), ai_ cy (rl 11) 12 (Ml 11)] U.heap ∧ kg_ D cy U ∧ va_D (fun _ => True) [ob7_0_ xh xc u1 u2 u3 u4 u5 u6 u7 u8, ob0_0_ xc xn xk clo cro c4 c5 c6 c7 c8, ob3_0_ xn vp vn n1 n2 n3 n4 n5, aq_ cy 6 clo 12 (gf_ rl), ai_ cy (rl 0) 12 (Ml 0), ai_ cy (rl 1) 12 (Ml 1), ai_ cy (rl 2) 12 (Ml 2), ai_ cy (rl 3) 12 (Ml 3), ai_ cy (rl 4) 12 (Ml 4), ai_ cy (rl 5) 12 (Ml 5), ai_ cy (rl 6) 12 (Ml 6), ai_ cy (rl 7) 12 (Ml 7), ai_ cy (rl 8) 12 (Ml 8), ai_ cy (rl 9) 12 (Ml 9), ai_ cy (rl 10) 12 (Ml 10), ai_ cy (rl 11) 12 (Ml 11)])) (va_Qv (fun (_ : Unit) => True) (fun (_ : Unit) (t : State) => ∃ (v7 : Int32), ∃ (v8 : Int32), (dS_ (wN (zM Ml) vp.toNatClampNeg) bN (a2.toNatClampNeg + 2 ^ (a1.toInt + 1).toNat) v7 v8) ∧ va_P D vwCl [ob7_0_ xh xc u1 u2 u3 u4 u5 u6 v7 v8, ob0_0_ xc xn xk clo cro c4 c5 c6 c7 c8, ob3_0_ xn vp vn n1 n2 n3 n4 n5, aq_ cy 6 clo 12 (gf_ rl), ai_ cy (rl 0) 12 (Ml 0), ai_ cy (rl 1) 12 (Ml 1), ai_ cy (rl 2) 12 (Ml 2), ai_ cy (rl 3) 12 (Ml 3), ai_ cy (rl 4) 12 (Ml 4), ai_ cy (rl 5) 12 (Ml 5), ai_ cy (rl 6) 12 (Ml 6), ai_ cy (rl 7) 12 (Ml 7), ai_ cy (rl 8) 12 (Ml 8), ai_ cy (rl 9) 12 (Ml 9), ai_ cy (rl 10) 12 (Ml 10), ai_ cy (rl 11) 12 (Ml 11)] t.heap ∧ va_D (va_A [ob7_0_ xh xc u1 u2 u3 u4 u5 u6 u7 u8, ob0_0_ xc xn xk clo cro c4 c5 c6 c7 c8, ob3_0_ xn vp vn n1 n2 n3 n4 n5, aq_ cy 6 clo 12 (gf_ rl), ai_ cy (rl 0) 12 (Ml 0), ai_ cy (rl 1) 12 (Ml 1), ai_ cy (rl 2) 12 (Ml 2), ai_ cy (rl 3) 12 (Ml 3), ai_ cy (rl 4) 12 (Ml 4), ai_ cy (rl 5) 12 (Ml 5), ai_ cy (rl 6) 12 (Ml 6), ai_ cy (rl 7) 12 (Ml 7), ai_ cy (rl 8) 12 (Ml 8), ai_ cy (rl 9) 12 (Ml 9), ai_ cy (rl 10) 12 (Ml 10), ai_ cy (rl 11) 12 (Ml 11)] sz) [ob7_0_ xh xc u1 u2 u3 u4 u5 u6 v7 v8, ob0_0_ xc xn xk clo cro c4 c5 c6 c7 c8, ob3_0_ xn vp vn n1 n2 n3 n4 n5, aq_ cy 6 clo 12 (gf_ rl), ai_ cy (rl 0) 12 (Ml 0), ai_ cy (rl 1) 12 (Ml 1), ai_ cy (rl 2) 12 (Ml 2), ai_ cy (rl 3) 12 (Ml 3), ai_ cy (rl 4) 12 (Ml 4), ai_ cy (rl 5) 12 (Ml 5), ai_ cy (rl 6) 12 (Ml 6), ai_ cy (rl 7) 12 (Ml 7), ai_ cy (rl 8) 12 (Ml 8), ai_ cy (rl 9) 12 (Ml 9), ai_ cy (rl 10) 12 (Ml 10), ai_ cy (rl 11) 12 (Ml 11)]) (va_A [ob7_0_ xh xc u1 u2 u3 u4 u5 u6 u7 u8, ob0_0_ xc xn xk clo cro c4 c5 c6 c7 c8, ob3_0_ xn vp vn n1 n2 n3 n4 n5, aq_ cy 6 clo 12 (gf_ rl), ai_ cy (rl 0) 12 (Ml 0), ai_ cy (rl 1) 12 (Ml 1), ai_ cy (rl 2) 12 (Ml 2), ai_ cy (rl 3) 12 (Ml 3), ai_ cy (rl 4) 12 (Ml 4), ai_ cy (rl 5) 12 (Ml 5), ai_ cy (rl 6) 12 (Ml 6), ai_ cy (rl 7) 12 (Ml 7), ai_ cy (rl 8) 12 (Ml 8), ai_ cy (rl 9) 12 (Ml 9), ai_ cy (rl 10) 12 (Ml 10), ai_ cy (rl 11) 12 (Ml 11)] sz)) 0 0 (va_A [ob7_0_ xh xc u1 u2 u3 u4 u5 u6 u7 u8, ob0_0_ xc xn xk clo cro c4 c5 c6 c7 c8, ob3_0_ xn vp vn n1 n2 n3 n4 n5, aq_ cy 6 clo 12 (gf_ rl), ai_ cy (rl 0) 12 (Ml 0), ai_ cy (rl 1) 12 (Ml 1), ai_ cy (rl 2) 12 (Ml 2), ai_ cy (rl 3) 12 (Ml 3), ai_ cy (rl 4) 12 (Ml 4), ai_ cy (rl 5) 12 (Ml 5), ai_ cy (rl 6) 12 (Ml 6), ai_ cy (rl 7) 12 (Ml 7), ai_ cy (rl 8) 12 (Ml 8), ai_ cy (rl 9) 12 (Ml 9), ai_ cy (rl 10) 12 (Ml 10), ai_ cy (rl 11) 12 (Ml 11)] sz) := by
  refine ofQ (cc := cX7_chooseForDense) (maxL := 4) (ret := none) (by decide) rfl ?_
  intro p e s m args below meth c s₁ Q hQ B hml hv
  obtain ⟨rfl, hsz, hP, hK, hD0⟩ := hv
  have hG := hK.2
  have hK := hK.1
  have hx := B.exec
  have hb := B.bytes
  have hr := B.returns
  have hts := atoms_spec (ws := wsX7_chooseForDense) B.pre
  have hown : s.vm.findClass RX7 = some m.cls := by have h_ := findClass_of_methodNamed B.named; exact h_
  have hlocks := B.notSynchronized
  subst hsz
  have hD := hD0.self (sz := s.heap.size)
  generalize hAe : va_A [ob7_0_ xh xc u1 u2 u3 u4 u5 u6 u7 u8, ob0_0_ xc xn xk clo cro c4 c5 c6 c7 c8, ob3_0_ xn vp vn n1 n2 n3 n4 n5, aq_ cy 6 clo 12 (gf_ rl), ai_ cy (rl 0) 12 (Ml 0), ai_ cy (rl 1) 12 (Ml 1), ai_ cy (rl 2) 12 (Ml 2), ai_ cy (rl 3) 12 (Ml 3), ai_ cy (rl 4) 12 (Ml 4), ai_ cy (rl 5) 12 (Ml 5), ai_ cy (rl 6) 12 (Ml 6), ai_ cy (rl 7) 12 (Ml 7), ai_ cy (rl 8) 12 (Ml 8), ai_ cy (rl 9) 12 (Ml 9), ai_ cy (rl 10) 12 (Ml 10), ai_ cy (rl 11) 12 (Ml 11)] s.heap.size = A at hD hQ
  have hA : ∀ q : Nat, s.heap.size ≤ q → A q := fun q h => by rw [← hAe]; exact Or.inr h
  have hS : va_S A s.heap s.heap [] := va_S.rf
  have hl := lv_entry ([.ref xh, .int a1, .int a2, .int a3]) (n := 4) (Nat.le_of_ble_eq_true rfl)
  rw [lg_entry_eq]
  generalize (lg_sl ([.ref xh, .int a1, .int a2, .int a3]) ++ List.replicate (4 - (lg_sl ([.ref xh, .int a1, .int a2, .int a3])).length) Slot.unset).toArray = ls at hl ⊢
  have hl : lv_has ls 4 [(0, .ref xh), (1, .int a1), (2, .int a2), (3, .int a3)] := hl
  have z0 : (0 : Int32).toInt = 0 := by decide
  have z1 : (1 : Int32).toInt = 1 := by decide
  have cv_ := clI (i := vp) (by omega)
  have hnn_ : ∀ x y : Nat, x < vp.toNatClampNeg → y < vp.toNatClampNeg → 0 ≤ zM Ml x y := fun x y hx hy => (hM x y hx hy).1
  have ha3_ := hdn_bd hh (by omega) hnn_ hB
  have h7r_ : 0 ≤ u7.toInt ∧ u7.toInt < 4096 := by have h1_ := hs.1; have h2_ := dnz_lt (W := (wN (zM Ml) vp.toNatClampNeg)) (b := bN) a2.toNatClampNeg; have h3_ := hnt_lt (hdn_hnt hh) (by omega); omega
  refine lv_iload_n hx hb dB_36_1_62.1.1.1.1 rfl (lv_at hl 1 rfl) ?_
  refine lv_if_ge (tgt := 11) hx hb dB_36_1_62.1.1.1.2 (by decide) (fun c_1 => ?_) (fun c_1 => ?_)
  · have t_1 : (0 : Int32).toInt ≤ a1.toInt := Int32.le_iff_toInt_le.mp c_1
    have cp_ := clI (i := a1) (by omega)
    have hK_ : (a1.toInt + 1).toNat = a1.toNatClampNeg + 1 := by omega
    have hh1_ : hdn (zM Ml) vp.toNatClampNeg (a1.toNatClampNeg + 1) a2 a3.toInt := by rw [hK_] at hh; exact hh
    have hap_ : a1.toInt < vp.toInt := by have h_ := hh1_.1; omega
    refine lv_aload_n hx hb dB_36_1_62.1.2.2.2 rfl (lv_at hl 0 rfl) ?_
    refine lv_iload_n hx hb dB_36_1_62.2.1.1.1 rfl (lv_at hl 1 rfl) ?_
    refine lv_iconst (v := 1) hx hb dB_36_1_62.2.1.1.2 (by decide) ?_
    refine lv_isub hx hb dB_36_1_62.2.1.2.1 ?_
    refine lv_topi (fun y_2 ey_2 => ?_)
    have ty_2 : y_2.toInt = a1.toInt - (1 : Int32).toInt := by rw [ey_2]; exact subI (by omega) (by omega)
    refine lv_iload_n hx hb dB_36_1_62.2.1.2.2 rfl (lv_at hl 2 rfl) ?_
    refine lv_iload_n hx hb dB_36_1_62.2.2.1.1 rfl (lv_at hl 3 rfl) ?_
    have hKr_ : (y_2.toInt + 1).toNat = a1.toNatClampNeg := by omega
    have hrh_ : hdn (zM Ml) vp.toNatClampNeg (y_2.toInt + 1).toNat a2 a3.toInt := by rw [hKr_]; exact hdn_out hh1_
    refine ct_S hP hD hS hA [ob7_0_ xh xc u1 u2 u3 u4 u5 u6 u7 u8, ob0_0_ xc xn xk clo cro c4 c5 c6 c7 c8, ob3_0_ xn vp vn n1 n2 n3 n4 n5, aq_ cy 6 clo 12 (gf_ rl), ai_ cy (rl 0) 12 (Ml 0), ai_ cy (rl 1) 12 (Ml 1), ai_ cy (rl 2) 12 (Ml 2), ai_ cy (rl 3) 12 (Ml 3), ai_ cy (rl 4) 12 (Ml 4), ai_ cy (rl 5) 12 (Ml 5), ai_ cy (rl 6) 12 (Ml 6), ai_ cy (rl 7) 12 (Ml 7), ai_ cy (rl 8) 12 (Ml 8), ai_ cy (rl 9) 12 (Ml 9), ai_ cy (rl 10) 12 (Ml 10), ai_ cy (rl 11) 12 (Ml 11)] [0, 1, 2, 3, 4, 5, 6, 7, 8, 9, 10, 11, 12, 13, 14, 15] (by decide +kernel) rfl (fun hPc hDw hFc hC_ => ?_)
    refine va_callv (va_runV (As := [.int y_2, .int a2, .int a3]) (rest := []) ⟨hx, hb, hml, hown, hts⟩ (c_X7_chooseForDense2_11 l D cy s.heap.size xh u1 u2 u3 u4 u5 u6 u7 u8 xc xk clo cro c4 c5 c6 c7 c8 xn n1 n2 n3 n4 n5 vp vn rl Ml y_2 a2 a3 (by first | with_reducible assumption | omega | assumption) (by first | with_reducible assumption | omega | assumption) (by first | with_reducible assumption | assumption | omega) (by first | with_reducible assumption | assumption | omega) (by first | with_reducible assumption | omega | assumption) (by first | with_reducible assumption | assumption | omega) (by first | with_reducible assumption | assumption | omega)) (cwV 3 hts gX7_chooseForDense_X7_chooseForDense rfl rfl rfl ⟨rfl, hd_X7_chooseForDense⟩ ⟨Nat.le_of_ble_eq_true rfl, Nat.le_of_ble_eq_true rfl⟩) ⟨bl_g, va_recvX hK.1 hP (ci := 7) (q0 := 0) rfl rfl, fun U hU hW => ⟨rfl, by rw [hU], by rw [hU]; exact hPc, ⟨kk_mv hW hK, arrOfT_moved hW.alike hG⟩, hDw⟩⟩ rfl rfl hl.1 rfl (lv_room (Nat.le_of_ble_eq_true rfl)) dB_36_1_62.2.2.1.2 ⟨Nat.le_of_ble_eq_true rfl, Nat.le_of_ble_eq_true rfl⟩) hS (fun q _ h => hFc q h) hFc (fun u t H locs ht hvm hw hB hz1 hk1 hS => ?_)
    obtain ⟨v7_4, v8_5, g_6, hP1, hD1⟩ := hB
    rw [ht] at hP1
    obtain ⟨hP, hD⟩ := va_join (wr := []) (w1 := [ob7_0_ xh xc u1 u2 u3 u4 u5 u6 v7_4 v8_5, ob0_0_ xc xn xk clo cro c4 c5 c6 c7 c8, ob3_0_ xn vp vn n1 n2 n3 n4 n5, aq_ cy 6 clo 12 (gf_ rl), ai_ cy (rl 0) 12 (Ml 0), ai_ cy (rl 1) 12 (Ml 1), ai_ cy (rl 2) 12 (Ml 2), ai_ cy (rl 3) 12 (Ml 3), ai_ cy (rl 4) 12 (Ml 4), ai_ cy (rl 5) 12 (Ml 5), ai_ cy (rl 6) 12 (Ml 6), ai_ cy (rl 7) 12 (Ml 7), ai_ cy (rl 8) 12 (Ml 8), ai_ cy (rl 9) 12 (Ml 9), ai_ cy (rl 10) 12 (Ml 10), ai_ cy (rl 11) 12 (Ml 11)]) hP hD [0, 1, 2, 3, 4, 5, 6, 7, 8, 9, 10, 11, 12, 13, 14, 15] [] hC_ rfl (by decide) (by decide) hk1 hFc hP1 hD1
    refine pd_K [ob7_0_ xh xc u1 u2 u3 u4 u5 u6 v7_4 v8_5, ob0_0_ xc xn xk clo cro c4 c5 c6 c7 c8, ob3_0_ xn vp vn n1 n2 n3 n4 n5, aq_ cy 6 clo 12 (gf_ rl), ai_ cy (rl 0) 12 (Ml 0), ai_ cy (rl 1) 12 (Ml 1), ai_ cy (rl 2) 12 (Ml 2), ai_ cy (rl 3) 12 (Ml 3), ai_ cy (rl 4) 12 (Ml 4), ai_ cy (rl 5) 12 (Ml 5), ai_ cy (rl 6) 12 (Ml 6), ai_ cy (rl 7) 12 (Ml 7), ai_ cy (rl 8) 12 (Ml 8), ai_ cy (rl 9) 12 (Ml 9), ai_ cy (rl 10) 12 (Ml 10), ai_ cy (rl 11) 12 (Ml 11)] hP hD (fun hP hD => ?_)
    have hs1_ := dS_to g_6 (show _ = a2.toNatClampNeg + 2 ^ a1.toNatClampNeg by rw [hKr_])
    refine lv_aload_n hx hb dB_36_1_62.2.2.2.1 rfl (lv_at hl 0 rfl) ?_
    refine lv_iload_n hx hb dB_36_1_62.2.2.2.2 rfl (lv_at hl 1 rfl) ?_
    refine lv_iconst (v := 1) hx hb dB_36_1_63.1.1.1 (by decide) ?_
    refine lv_isub hx hb dB_36_1_63.1.1.2.1 ?_
    refine lv_topi (fun y_7 ey_7 => ?_)
    have e_ := (ey_7.trans ey_2.symm).symm
    subst e_
    refine lv_iload_n hx hb dB_36_1_63.1.1.2.2 rfl (lv_at hl 2 rfl) ?_
    refine lv_iconst (v := 1) hx hb dB_36_1_63.1.2.1.1 (by decide) ?_
    refine lv_iload_n hx hb dB_36_1_63.1.2.1.2 rfl (lv_at hl 1 rfl) ?_
    refine lv_ishl hx hb dB_36_1_63.1.2.2.1 ?_
    refine lv_topi (fun y_8 ey_8 => ?_)
    refine lv_ior hx hb dB_36_1_63.1.2.2.2 ?_
    refine lv_topi (fun y_9 ey_9 => ?_)
    refine lv_iload_n hx hb dB_36_1_63.2.1.1.1 rfl (lv_at hl 3 rfl) ?_
    refine lv_aload_n hx hb dB_36_1_63.2.1.1.2 rfl (lv_at hl 0 rfl) ?_
    refine lv_iload_n hx hb dB_36_1_63.2.1.2.1 rfl (lv_at hl 1 rfl) ?_
    refine lv_iload_n hx hb dB_36_1_63.2.1.2.2 rfl (lv_at hl 2 rfl) ?_
    refine ct_R hP hD [ob7_0_ xh xc u1 u2 u3 u4 u5 u6 v7_4 v8_5, ob0_0_ xc xn xk clo cro c4 c5 c6 c7 c8, ob3_0_ xn vp vn n1 n2 n3 n4 n5, aq_ cy 6 clo 12 (gf_ rl), ai_ cy (rl 0) 12 (Ml 0), ai_ cy (rl 1) 12 (Ml 1), ai_ cy (rl 2) 12 (Ml 2), ai_ cy (rl 3) 12 (Ml 3), ai_ cy (rl 4) 12 (Ml 4), ai_ cy (rl 5) 12 (Ml 5), ai_ cy (rl 6) 12 (Ml 6), ai_ cy (rl 7) 12 (Ml 7), ai_ cy (rl 8) 12 (Ml 8), ai_ cy (rl 9) 12 (Ml 9), ai_ cy (rl 10) 12 (Ml 10), ai_ cy (rl 11) 12 (Ml 11)] [0, 1, 2, 3, 4, 5, 6, 7, 8, 9, 10, 11, 12, 13, 14, 15] (by decide +kernel) rfl (fun hPc hDw => ?_)
    have hFc := va_free (wc := []) hD hS hA [] rfl
    refine va_calli (va_runV (As := [.int a1, .int a2]) (rest := [.int a3, .int y_9, .int y_2, .ref xh]) ⟨hx, hb, hml, hown, hts⟩ (c_X7_letIn2 l D cy H.size xh u1 u2 u3 u4 u5 u6 v7_4 v8_5 xc xk clo cro c4 c5 c6 c7 c8 xn n1 n2 n3 n4 n5 vp vn rl Ml a1 a2 (by first | with_reducible assumption | omega | assumption) (by first | with_reducible assumption | omega | assumption) (by first | with_reducible assumption | assumption | omega)) (cwV 2 hts gX7_chooseForDense_X7_letIn rfl rfl rfl ⟨rfl, hd_X7_letIn⟩ ⟨Nat.le_of_ble_eq_true rfl, Nat.le_of_ble_eq_true rfl⟩) ⟨bl_g, va_recvX hK.1 hP (ci := 7) (q0 := 0) rfl rfl, fun U hU hW => ⟨rfl, by rw [hU], by rw [hU]; exact hPc, ⟨kk_mv hW hK, arrOfT_moved hW.alike hG⟩, hDw⟩⟩ rfl rfl hl.1 rfl (lv_room (Nat.le_of_ble_eq_true rfl)) dB_36_1_63.2.2.1.1 ⟨Nat.le_of_ble_eq_true rfl, Nat.le_of_ble_eq_true rfl⟩) hS (fun q _ h => hFc q h) hFc (fun r_10 u t H locs ht hvm hw hB hz1 hk1 hS => ?_)
    have hP : va_P D vwCl _ H := ro_keep hP hk1
    obtain ⟨f0_r_10, f1_r_10⟩ := hw
    refine lv_iadd hx hb dB_36_1_63.2.2.1.2 ?_
    refine lv_topi (fun y_11 ey_11 => ?_)
    have ty_11 : y_11.toInt = a3.toInt + r_10.toInt := by rw [ey_11]; exact addI (by omega) (by omega)
    have hKq_ : (y_2.toInt + 1).toNat = a1.toNatClampNeg := by omega
    have hin_ := hdn_in hh1_ (by omega) (by omega) ey_8 ey_9 ty_11 f0_r_10
    have hrh2_ : hdn (zM Ml) vp.toNatClampNeg (y_2.toInt + 1).toNat y_9 y_11.toInt := by rw [hKq_]; exact hin_.1
    have hrs_ : dS_ (wN (zM Ml) vp.toNatClampNeg) bN y_9.toNatClampNeg v7_4 v8_5 := dS_to hs1_ hin_.2.symm
    refine ct_S hP hD hS hA [ob7_0_ xh xc u1 u2 u3 u4 u5 u6 v7_4 v8_5, ob0_0_ xc xn xk clo cro c4 c5 c6 c7 c8, ob3_0_ xn vp vn n1 n2 n3 n4 n5, aq_ cy 6 clo 12 (gf_ rl), ai_ cy (rl 0) 12 (Ml 0), ai_ cy (rl 1) 12 (Ml 1), ai_ cy (rl 2) 12 (Ml 2), ai_ cy (rl 3) 12 (Ml 3), ai_ cy (rl 4) 12 (Ml 4), ai_ cy (rl 5) 12 (Ml 5), ai_ cy (rl 6) 12 (Ml 6), ai_ cy (rl 7) 12 (Ml 7), ai_ cy (rl 8) 12 (Ml 8), ai_ cy (rl 9) 12 (Ml 9), ai_ cy (rl 10) 12 (Ml 10), ai_ cy (rl 11) 12 (Ml 11)] [0, 1, 2, 3, 4, 5, 6, 7, 8, 9, 10, 11, 12, 13, 14, 15] (by decide +kernel) rfl (fun hPc hDw hFc hC_ => ?_)
    refine va_callv (va_runV (As := [.int y_2, .int y_9, .int y_11]) (rest := []) ⟨hx, hb, hml, hown, hts⟩ (c_X7_chooseForDense2_11 l D cy H.size xh u1 u2 u3 u4 u5 u6 v7_4 v8_5 xc xk clo cro c4 c5 c6 c7 c8 xn n1 n2 n3 n4 n5 vp vn rl Ml y_2 y_9 y_11 (by first | with_reducible assumption | omega | assumption) (by first | with_reducible assumption | omega | assumption) (by first | with_reducible assumption | assumption | omega) (by first | with_reducible assumption | assumption | omega) (by first | with_reducible assumption | omega | assumption) (by first | with_reducible assumption | assumption | omega) (by first | with_reducible assumption | assumption | omega)) (cwV 3 hts gX7_chooseForDense_X7_chooseForDense rfl rfl rfl ⟨rfl, hd_X7_chooseForDense⟩ ⟨Nat.le_of_ble_eq_true rfl, Nat.le_of_ble_eq_true rfl⟩) ⟨bl_g, va_recvX hK.1 hP (ci := 7) (q0 := 0) rfl rfl, fun U hU hW => ⟨rfl, by rw [hU], by rw [hU]; exact hPc, ⟨kk_mv hW hK, arrOfT_moved hW.alike hG⟩, hDw⟩⟩ rfl rfl hl.1 rfl (lv_room (Nat.le_of_ble_eq_true rfl)) dB_36_1_63.2.2.2.1 ⟨Nat.le_of_ble_eq_true rfl, Nat.le_of_ble_eq_true rfl⟩) hS (fun q _ h => hFc q h) hFc (fun u t H locs ht hvm hw hB hz1 hk1 hS => ?_)
    obtain ⟨v7_13, v8_14, g_15, hP1, hD1⟩ := hB
    rw [ht] at hP1
    obtain ⟨hP, hD⟩ := va_join (wr := []) (w1 := [ob7_0_ xh xc u1 u2 u3 u4 u5 u6 v7_13 v8_14, ob0_0_ xc xn xk clo cro c4 c5 c6 c7 c8, ob3_0_ xn vp vn n1 n2 n3 n4 n5, aq_ cy 6 clo 12 (gf_ rl), ai_ cy (rl 0) 12 (Ml 0), ai_ cy (rl 1) 12 (Ml 1), ai_ cy (rl 2) 12 (Ml 2), ai_ cy (rl 3) 12 (Ml 3), ai_ cy (rl 4) 12 (Ml 4), ai_ cy (rl 5) 12 (Ml 5), ai_ cy (rl 6) 12 (Ml 6), ai_ cy (rl 7) 12 (Ml 7), ai_ cy (rl 8) 12 (Ml 8), ai_ cy (rl 9) 12 (Ml 9), ai_ cy (rl 10) 12 (Ml 10), ai_ cy (rl 11) 12 (Ml 11)]) hP hD [0, 1, 2, 3, 4, 5, 6, 7, 8, 9, 10, 11, 12, 13, 14, 15] [] hC_ rfl (by decide) (by decide) hk1 hFc hP1 hD1
    refine pd_K [ob7_0_ xh xc u1 u2 u3 u4 u5 u6 v7_13 v8_14, ob0_0_ xc xn xk clo cro c4 c5 c6 c7 c8, ob3_0_ xn vp vn n1 n2 n3 n4 n5, aq_ cy 6 clo 12 (gf_ rl), ai_ cy (rl 0) 12 (Ml 0), ai_ cy (rl 1) 12 (Ml 1), ai_ cy (rl 2) 12 (Ml 2), ai_ cy (rl 3) 12 (Ml 3), ai_ cy (rl 4) 12 (Ml 4), ai_ cy (rl 5) 12 (Ml 5), ai_ cy (rl 6) 12 (Ml 6), ai_ cy (rl 7) 12 (Ml 7), ai_ cy (rl 8) 12 (Ml 8), ai_ cy (rl 9) 12 (Ml 9), ai_ cy (rl 10) 12 (Ml 10), ai_ cy (rl 11) 12 (Ml 11)] hP hD (fun hP hD => ?_)
    rw [hQ]
    exact W.vret hx hb hr (fun t ht hW => ⟨⟨(), rfl, trivial, v7_13, v8_14, (dS_to g_15 (by rw [hKq_, hin_.2, pw_K hK_]; omega)), by rw [ht]; exact hP, hD⟩, hS.F ht⟩) hS.2.2 dB_36_1_63.2.2.2.2
  · have t_1 : ¬ (0 : Int32).toInt ≤ a1.toInt := fun h => c_1 (Int32.le_iff_toInt_le.mpr h)
    have hK_ : (a1.toInt + 1).toNat = 0 := by omega
    have hh0_ : hdn (zM Ml) vp.toNatClampNeg 0 a2 a3.toInt := by rw [hK_] at hh; exact hh
    have hlf_ := hdn_leaf hh0_ (by omega)
    have cA2_ := clI (i := a2) (by omega)
    have hsm_ := hlf_.1
    refine lv_aload_n hx hb dB_36_1_62.1.1.2.1 rfl (lv_at hl 0 rfl) ?_
    refine lv_iload_n hx hb dB_36_1_62.1.1.2.2 rfl (lv_at hl 2 rfl) ?_
    refine lv_iload_n hx hb dB_36_1_62.1.2.1.1 rfl (lv_at hl 3 rfl) ?_
    refine ct_S hP hD hS hA [ob7_0_ xh xc u1 u2 u3 u4 u5 u6 u7 u8] [0] (by decide) rfl (fun hPc hDw hFc hC_ => ?_)
    refine va_callv (va_runV (As := [.int a2, .int a3]) (rest := []) ⟨hx, hb, hml, hown, hts⟩ (c_X7_compareDense2 l D cy s.heap.size xh u1 u2 u3 u4 u5 u6 u7 u8 xc (wN (zM Ml) vp.toNatClampNeg) a2 a3 (by first | with_reducible assumption | omega | assumption) (by first | with_reducible assumption | assumption | omega) (by first | with_reducible assumption | assumption | omega) (by first | with_reducible assumption | assumption | omega) (by first | with_reducible assumption | omega | assumption) (by first | with_reducible assumption | omega | assumption)) (cwV 2 hts gX7_chooseForDense_X7_compareDense rfl rfl rfl ⟨rfl, hd_X7_compareDense⟩ ⟨Nat.le_of_ble_eq_true rfl, Nat.le_of_ble_eq_true rfl⟩) ⟨bl_, va_recvX hK.1 hP (ci := 7) (q0 := 0) rfl rfl, fun U hU hW => ⟨rfl, by rw [hU], by rw [hU]; exact hPc, kk_mv hW hK, hDw⟩⟩ rfl rfl hl.1 rfl (lv_room (Nat.le_of_ble_eq_true rfl)) dB_36_1_62.1.2.1.2 ⟨Nat.le_of_ble_eq_true rfl, Nat.le_of_ble_eq_true rfl⟩) hS (fun q _ h => hFc q h) hFc (fun u t H locs ht hvm hw hB hz1 hk1 hS => ?_)
    obtain ⟨v7_17, v8_18, g_19, hP1, hD1⟩ := hB
    rw [ht] at hP1
    obtain ⟨hP, hD⟩ := va_join (wr := [ob0_0_ xc xn xk clo cro c4 c5 c6 c7 c8, ob3_0_ xn vp vn n1 n2 n3 n4 n5, aq_ cy 6 clo 12 (gf_ rl), ai_ cy (rl 0) 12 (Ml 0), ai_ cy (rl 1) 12 (Ml 1), ai_ cy (rl 2) 12 (Ml 2), ai_ cy (rl 3) 12 (Ml 3), ai_ cy (rl 4) 12 (Ml 4), ai_ cy (rl 5) 12 (Ml 5), ai_ cy (rl 6) 12 (Ml 6), ai_ cy (rl 7) 12 (Ml 7), ai_ cy (rl 8) 12 (Ml 8), ai_ cy (rl 9) 12 (Ml 9), ai_ cy (rl 10) 12 (Ml 10), ai_ cy (rl 11) 12 (Ml 11)]) (w1 := [ob7_0_ xh xc u1 u2 u3 u4 u5 u6 v7_17 v8_18]) hP hD [0] [1, 2, 3, 4, 5, 6, 7, 8, 9, 10, 11, 12, 13, 14, 15] hC_ rfl (by decide +kernel) (by decide +kernel) hk1 hFc hP1 hD1
    refine pd_S hP hD [ob7_0_ xh xc u1 u2 u3 u4 u5 u6 v7_17 v8_18, ob0_0_ xc xn xk clo cro c4 c5 c6 c7 c8, ob3_0_ xn vp vn n1 n2 n3 n4 n5, aq_ cy 6 clo 12 (gf_ rl), ai_ cy (rl 0) 12 (Ml 0), ai_ cy (rl 1) 12 (Ml 1), ai_ cy (rl 2) 12 (Ml 2), ai_ cy (rl 3) 12 (Ml 3), ai_ cy (rl 4) 12 (Ml 4), ai_ cy (rl 5) 12 (Ml 5), ai_ cy (rl 6) 12 (Ml 6), ai_ cy (rl 7) 12 (Ml 7), ai_ cy (rl 8) 12 (Ml 8), ai_ cy (rl 9) 12 (Ml 9), ai_ cy (rl 10) 12 (Ml 10), ai_ cy (rl 11) 12 (Ml 11)] [15, 0, 1, 2, 3, 4, 5, 6, 7, 8, 9, 10, 11, 12, 13, 14] (by decide +kernel) rfl (fun hP hD => ?_)
    rw [hQ]
    exact W.vret hx hb hr (fun t ht hW => ⟨⟨(), rfl, trivial, v7_17, v8_18, (dS_to g_19 (by rw [hK_])), by rw [ht]; exact hP, hD⟩, hS.F ht⟩) hS.2.2 dB_36_1_62.1.2.2.1
end

section
set_option maxHeartbeats 4000000 in
set_option maxRecDepth 100000 in
theorem c_X7_findDensest2 (l : Launch) (D : va_G) (cy : Nat → ClassId) (sz : Nat) (xh : Nat) (u1 : Int32) (u2 : Int32) (u3 : Int32) (u4 : Int32) (u5 : Int32) (u6 : Int32) (u7 : Int32) (u8 : Int32) (xc : Nat) (xk : Nat) (clo : Nat) (cro : Nat) (c4 : Nat) (c5 : Nat) (c6 : Nat) (c7 : Nat) (c8 : Nat) (xn : Nat) (n1 : Nat) (n2 : Nat) (n3 : Nat) (n4 : Nat) (n5 : Nat) (vp : Int32) (vn : Int32) (rl : Nat → Nat) (Ml : Nat → Nat → Int32) (hvp : 0 ≤ vp.toInt ∧ vp.toInt ≤ 12) (hM : ∀ x y : Nat, x < vp.toNatClampNeg → y < vp.toNatClampNeg → 0 ≤ zM Ml x y ∧ zM Ml x y ≤ 80000000) (hB : ∀ n : Nat, 0 ≤ wN (zM Ml) vp.toNatClampNeg n ∧ wN (zM Ml) vp.toNatClampNeg n ≤ 100000) (hB0 : wN (zM Ml) vp.toNatClampNeg 0 = 0) : Met l yX7_findDensest wsX7_findDensest ({ frames := 15, cells := 0, slots := 0, locals := 345 }) (va_Pc [.ref xh] (fun U => U.heap.size = sz ∧ va_P D vwCl [ob7_0_ xh xc u1 u2 u3 u4 u5 u6 u7 u8, ob0_0_ xc xn xk clo cro c4 c5 c6 c7 c8, ob3_0_ xn vp vn n1 n2 n3 n4 n5, aq_ cy 6 clo 12 (gf_ rl), ai_ cy (rl 0) 12 (Ml 0), ai_ cy (rl 1) 12 (Ml 1), ai_ cy (rl 2) 12 (Ml 2), ai_ cy (rl 3) 12 (Ml 3), ai_ cy (rl 4) 12 (Ml 4), ai_ cy (rl 5) 12 (Ml 5), ai_ cy (rl 6) 12 (Ml 6), ai_ cy (rl 7) 12 (Ml 7), ai_ cy (rl 8) 12 (Ml 8), ai_ cy (rl 9) 12 (Ml 9), ai_ cy (rl 10) 12 (Ml 10), ai_ cy (rl 11) 12 (Ml 11)] U.heap ∧ kg_ D cy U ∧ va_D (fun _ => True) [ob7_0_ xh xc u1 u2 u3 u4 u5 u6 u7 u8, ob0_0_ xc xn xk clo cro c4 c5 c6 c7 c8, ob3_0_ xn vp vn n1 n2 n3 n4 n5, aq_ cy 6 clo 12 (gf_ rl), ai_ cy (rl 0) 12 (Ml 0), ai_ cy (rl 1) 12 (Ml 1), ai_ cy (rl 2) 12 (Ml 2), ai_ cy (rl 3) 12 (Ml 3), ai_ cy (rl 4) 12 (Ml 4), ai_ cy (rl 5) 12 (Ml 5), ai_ cy (rl 6) 12 (Ml 6), ai_ cy (rl 7) 12 (Ml 7), ai_ cy (rl 8) 12 (Ml 8), ai_ cy (rl 9) 12 (Ml 9), ai_ cy (rl 10) 12 (Ml 10), ai_ cy (rl 11) 12 (Ml 11)])) (va_Qv (fun (_ : Unit) => True) (fun (_ : Unit) (t : State) => ∃ (v7 : Int32), ∃ (v8 : Int32), (dS_ (wN (zM Ml) vp.toNatClampNeg) bN (2 ^ vp.toNatClampNeg) v7 v8) ∧ va_P D vwCl [ob7_0_ xh xc u1 u2 u3 u4 u5 u6 v7 v8, ob0_0_ xc xn xk clo cro c4 c5 c6 c7 c8, ob3_0_ xn vp vn n1 n2 n3 n4 n5, aq_ cy 6 clo 12 (gf_ rl), ai_ cy (rl 0) 12 (Ml 0), ai_ cy (rl 1) 12 (Ml 1), ai_ cy (rl 2) 12 (Ml 2), ai_ cy (rl 3) 12 (Ml 3), ai_ cy (rl 4) 12 (Ml 4), ai_ cy (rl 5) 12 (Ml 5), ai_ cy (rl 6) 12 (Ml 6), ai_ cy (rl 7) 12 (Ml 7), ai_ cy (rl 8) 12 (Ml 8), ai_ cy (rl 9) 12 (Ml 9), ai_ cy (rl 10) 12 (Ml 10), ai_ cy (rl 11) 12 (Ml 11)] t.heap ∧ va_D (va_A [ob7_0_ xh xc u1 u2 u3 u4 u5 u6 u7 u8, ob0_0_ xc xn xk clo cro c4 c5 c6 c7 c8, ob3_0_ xn vp vn n1 n2 n3 n4 n5, aq_ cy 6 clo 12 (gf_ rl), ai_ cy (rl 0) 12 (Ml 0), ai_ cy (rl 1) 12 (Ml 1), ai_ cy (rl 2) 12 (Ml 2), ai_ cy (rl 3) 12 (Ml 3), ai_ cy (rl 4) 12 (Ml 4), ai_ cy (rl 5) 12 (Ml 5), ai_ cy (rl 6) 12 (Ml 6), ai_ cy (rl 7) 12 (Ml 7), ai_ cy (rl 8) 12 (Ml 8), ai_ cy (rl 9) 12 (Ml 9), ai_ cy (rl 10) 12 (Ml 10), ai_ cy (rl 11) 12 (Ml 11)] sz) [ob7_0_ xh xc u1 u2 u3 u4 u5 u6 v7 v8, ob0_0_ xc xn xk clo cro c4 c5 c6 c7 c8, ob3_0_ xn vp vn n1 n2 n3 n4 n5, aq_ cy 6 clo 12 (gf_ rl), ai_ cy (rl 0) 12 (Ml 0), ai_ cy (rl 1) 12 (Ml 1), ai_ cy (rl 2) 12 (Ml 2), ai_ cy (rl 3) 12 (Ml 3), ai_ cy (rl 4) 12 (Ml 4), ai_ cy (rl 5) 12 (Ml 5), ai_ cy (rl 6) 12 (Ml 6), ai_ cy (rl 7) 12 (Ml 7), ai_ cy (rl 8) 12 (Ml 8), ai_ cy (rl 9) 12 (Ml 9), ai_ cy (rl 10) 12 (Ml 10), ai_ cy (rl 11) 12 (Ml 11)]) (va_A [ob7_0_ xh xc u1 u2 u3 u4 u5 u6 u7 u8, ob0_0_ xc xn xk clo cro c4 c5 c6 c7 c8, ob3_0_ xn vp vn n1 n2 n3 n4 n5, aq_ cy 6 clo 12 (gf_ rl), ai_ cy (rl 0) 12 (Ml 0), ai_ cy (rl 1) 12 (Ml 1), ai_ cy (rl 2) 12 (Ml 2), ai_ cy (rl 3) 12 (Ml 3), ai_ cy (rl 4) 12 (Ml 4), ai_ cy (rl 5) 12 (Ml 5), ai_ cy (rl 6) 12 (Ml 6), ai_ cy (rl 7) 12 (Ml 7), ai_ cy (rl 8) 12 (Ml 8), ai_ cy (rl 9) 12 (Ml 9), ai_ cy (rl 10) 12 (Ml 10), ai_ cy (rl 11) 12 (Ml 11)] sz)) 0 0 (va_A [ob7_0_ xh xc u1 u2 u3 u4 u5 u6 u7 u8, ob0_0_ xc xn xk clo cro c4 c5 c6 c7 c8, ob3_0_ xn vp vn n1 n2 n3 n4 n5, aq_ cy 6 clo 12 (gf_ rl), ai_ cy (rl 0) 12 (Ml 0), ai_ cy (rl 1) 12 (Ml 1), ai_ cy (rl 2) 12 (Ml 2), ai_ cy (rl 3) 12 (Ml 3), ai_ cy (rl 4) 12 (Ml 4), ai_ cy (rl 5) 12 (Ml 5), ai_ cy (rl 6) 12 (Ml 6), ai_ cy (rl 7) 12 (Ml 7), ai_ cy (rl 8) 12 (Ml 8), ai_ cy (rl 9) 12 (Ml 9), ai_ cy (rl 10) 12 (Ml 10), ai_ cy (rl 11) 12 (Ml 11)] sz) := by
  refine ofQ (cc := cX7_findDensest) (maxL := 1) (ret := none) (by decide) rfl ?_
  intro p e s m args below meth c s₁ Q hQ B hml hv
  obtain ⟨rfl, hsz, hP, hK, hD0⟩ := hv
  have hG := hK.2
  have hK := hK.1
  have hx := B.exec
  have hb := B.bytes
  have hr := B.returns
  have hts := atoms_spec (ws := wsX7_findDensest) B.pre
  have hown : s.vm.findClass RX7 = some m.cls := by have h_ := findClass_of_methodNamed B.named; exact h_
  have hlocks := B.notSynchronized
  subst hsz
  have hD := hD0.self (sz := s.heap.size)
  generalize hAe : va_A [ob7_0_ xh xc u1 u2 u3 u4 u5 u6 u7 u8, ob0_0_ xc xn xk clo cro c4 c5 c6 c7 c8, ob3_0_ xn vp vn n1 n2 n3 n4 n5, aq_ cy 6 clo 12 (gf_ rl), ai_ cy (rl 0) 12 (Ml 0), ai_ cy (rl 1) 12 (Ml 1), ai_ cy (rl 2) 12 (Ml 2), ai_ cy (rl 3) 12 (Ml 3), ai_ cy (rl 4) 12 (Ml 4), ai_ cy (rl 5) 12 (Ml 5), ai_ cy (rl 6) 12 (Ml 6), ai_ cy (rl 7) 12 (Ml 7), ai_ cy (rl 8) 12 (Ml 8), ai_ cy (rl 9) 12 (Ml 9), ai_ cy (rl 10) 12 (Ml 10), ai_ cy (rl 11) 12 (Ml 11)] s.heap.size = A at hD hQ
  have hA : ∀ q : Nat, s.heap.size ≤ q → A q := fun q h => by rw [← hAe]; exact Or.inr h
  have hS : va_S A s.heap s.heap [] := va_S.rf
  have hl := lv_entry ([.ref xh]) (n := 1) (Nat.le_of_ble_eq_true rfl)
  rw [lg_entry_eq]
  generalize (lg_sl ([.ref xh]) ++ List.replicate (1 - (lg_sl ([.ref xh])).length) Slot.unset).toArray = ls at hl ⊢
  have hl : lv_has ls 1 [(0, .ref xh)] := hl
  have z0 : (0 : Int32).toInt = 0 := by decide
  have z1 : (1 : Int32).toInt = 1 := by decide
  have cv_ := clI (i := vp) (by omega)
  refine lv_aload_n hx hb dB_36_1_68.1.1.1.1 rfl (lv_at hl 0 rfl) ?_
  refine lv_iconst (v := 0) hx hb dB_36_1_68.1.1.1.2 (by decide) ?_
  refine va_put (ci := 7) (v := .int 0) (ty := .int) (C := RX7) (T := TX7) (N := 9) hx hb hts (fun _ h => List.mem_cons_of_mem _ (List.mem_append_left _ (List.mem_append_left _ (List.mem_append_right _ h)))) tyX7 tyX7_ok nmX7 hown hK.1 hP hD hS 0 rfl rfl 7 (by decide) (hts (.fieldLink RX7 69 "CutAtlas$SetHunt" "denseSet" "I") (List.mem_of_getElem? (i := 1) rfl)) (fun _ h9 => h9) rfl (by decide +kernel) rfl rfl (Nat.le_of_ble_eq_true rfl) dB_36_1_68.1.1.2.1 (fun H locs hP hD hS => ?_)
  refine pd_K [ob7_0_ xh xc u1 u2 u3 u4 u5 u6 0 u8, ob0_0_ xc xn xk clo cro c4 c5 c6 c7 c8, ob3_0_ xn vp vn n1 n2 n3 n4 n5, aq_ cy 6 clo 12 (gf_ rl), ai_ cy (rl 0) 12 (Ml 0), ai_ cy (rl 1) 12 (Ml 1), ai_ cy (rl 2) 12 (Ml 2), ai_ cy (rl 3) 12 (Ml 3), ai_ cy (rl 4) 12 (Ml 4), ai_ cy (rl 5) 12 (Ml 5), ai_ cy (rl 6) 12 (Ml 6), ai_ cy (rl 7) 12 (Ml 7), ai_ cy (rl 8) 12 (Ml 8), ai_ cy (rl 9) 12 (Ml 9), ai_ cy (rl 10) 12 (Ml 10), ai_ cy (rl 11) 12 (Ml 11)] hP hD (fun hP hD => ?_)
  refine lv_aload_n hx hb dB_36_1_68.1.1.2.2 rfl (lv_at hl 0 rfl) ?_
  refine lv_iconst (v := 0) hx hb dB_36_1_68.1.2.1.1 (by decide) ?_
  refine va_put (ci := 7) (v := .int 0) (ty := .int) (C := RX7) (T := TX7) (N := 9) hx hb hts (fun _ h => List.mem_cons_of_mem _ (List.mem_append_left _ (List.mem_append_left _ (List.mem_append_right _ h)))) tyX7 tyX7_ok nmX7 hown hK.1 hP hD hS 0 rfl rfl 8 (by decide) (hts (.fieldLink RX7 72 "CutAtlas$SetHunt" "denseSum" "I") (List.mem_of_getElem? (i := 2) rfl)) (fun _ h9 => h9) rfl (by decide +kernel) rfl rfl (Nat.le_of_ble_eq_true rfl) dB_36_1_68.1.2.1.2 (fun H locs hP hD hS => ?_)
  refine pd_K [ob7_0_ xh xc u1 u2 u3 u4 u5 u6 0 0, ob0_0_ xc xn xk clo cro c4 c5 c6 c7 c8, ob3_0_ xn vp vn n1 n2 n3 n4 n5, aq_ cy 6 clo 12 (gf_ rl), ai_ cy (rl 0) 12 (Ml 0), ai_ cy (rl 1) 12 (Ml 1), ai_ cy (rl 2) 12 (Ml 2), ai_ cy (rl 3) 12 (Ml 3), ai_ cy (rl 4) 12 (Ml 4), ai_ cy (rl 5) 12 (Ml 5), ai_ cy (rl 6) 12 (Ml 6), ai_ cy (rl 7) 12 (Ml 7), ai_ cy (rl 8) 12 (Ml 8), ai_ cy (rl 9) 12 (Ml 9), ai_ cy (rl 10) 12 (Ml 10), ai_ cy (rl 11) 12 (Ml 11)] hP hD (fun hP hD => ?_)
  refine lv_aload_n hx hb dB_36_1_68.1.2.2.1 rfl (lv_at hl 0 rfl) ?_
  refine lv_aload_n hx hb dB_36_1_68.1.2.2.2 rfl (lv_at hl 0 rfl) ?_
  refine va_get (ci := 7) (v := .ref xc) (C := RX7) (T := TX7) (N := 9) hx hb hts (fun _ h => List.mem_cons_of_mem _ (List.mem_append_left _ (List.mem_append_left _ (List.mem_append_right _ h)))) hown hK.1 hP 0 rfl rfl 0 (by decide) (hts (.fieldLink RX7 9 "CutAtlas$SetHunt" "current" "LCutAtlas$Current;") (List.mem_of_getElem? (i := 3) rfl)) (fun _ h9 => h9) rfl dB_36_1_68.2.1.1.1 ?_
  refine va_get (ci := 0) (v := .ref xn) (C := RX0) (T := TX0) (N := 9) hx hb hts (fun _ h => List.mem_cons_of_mem _ (List.mem_append_left _ (List.mem_append_right _ h))) hown hK.1 hP 1 rfl rfl 0 (by decide) (hts (.fieldLink RX7 39 "CutAtlas$Current" "net" "LCutAtlas$Net;") (List.mem_of_getElem? (i := 4) rfl)) (fun _ h9 => h9) rfl dB_36_1_68.2.1.1.2 ?_
  refine va_get (ci := 3) (v := .int vp) (C := RX3) (T := TX3) (N := 7) hx hb hts (fun _ h => List.mem_cons_of_mem _ (List.mem_append_right _ h)) hown hK.1 hP 2 rfl rfl 0 (by decide) (hts (.fieldLink RX7 45 "CutAtlas$Net" "places" "I") (List.mem_of_getElem? (i := 5) rfl)) (fun _ h9 => h9) rfl dB_36_1_68.2.1.2.1 ?_
  refine lv_iconst (v := 1) hx hb dB_36_1_68.2.1.2.2 (by decide) ?_
  refine lv_isub hx hb dB_36_1_68.2.2.1.1 ?_
  refine lv_topi (fun y_1 ey_1 => ?_)
  have ty_1 : y_1.toInt = vp.toInt - (1 : Int32).toInt := by rw [ey_1]; exact subI (by omega) (by omega)
  refine lv_iconst (v := 0) hx hb dB_36_1_68.2.2.1.2 (by decide) ?_
  refine lv_iconst (v := 0) hx hb dB_36_1_68.2.2.2.1 (by decide) ?_
  have hKr_ : (y_1.toInt + 1).toNat = vp.toNatClampNeg := by omega
  have hrh_ : hdn (zM Ml) vp.toNatClampNeg (y_1.toInt + 1).toNat (0 : Int32) (0 : Int32).toInt := by rw [hKr_]; exact hdn_P
  have hrs_ : dS_ (wN (zM Ml) vp.toNatClampNeg) bN (0 : Int32).toNatClampNeg (0 : Int32) (0 : Int32) := dS_0
  refine ct_S hP hD hS hA [ob7_0_ xh xc u1 u2 u3 u4 u5 u6 0 0, ob0_0_ xc xn xk clo cro c4 c5 c6 c7 c8, ob3_0_ xn vp vn n1 n2 n3 n4 n5, aq_ cy 6 clo 12 (gf_ rl), ai_ cy (rl 0) 12 (Ml 0), ai_ cy (rl 1) 12 (Ml 1), ai_ cy (rl 2) 12 (Ml 2), ai_ cy (rl 3) 12 (Ml 3), ai_ cy (rl 4) 12 (Ml 4), ai_ cy (rl 5) 12 (Ml 5), ai_ cy (rl 6) 12 (Ml 6), ai_ cy (rl 7) 12 (Ml 7), ai_ cy (rl 8) 12 (Ml 8), ai_ cy (rl 9) 12 (Ml 9), ai_ cy (rl 10) 12 (Ml 10), ai_ cy (rl 11) 12 (Ml 11)] [0, 1, 2, 3, 4, 5, 6, 7, 8, 9, 10, 11, 12, 13, 14, 15] (by decide +kernel) rfl (fun hPc hDw hFc hC_ => ?_)
  refine va_callv (va_runV (As := [.int y_1, .int 0, .int 0]) (rest := []) ⟨hx, hb, hml, hown, hts⟩ (c_X7_chooseForDense2_12 l D cy H.size xh u1 u2 u3 u4 u5 u6 (0 : Int32) (0 : Int32) xc xk clo cro c4 c5 c6 c7 c8 xn n1 n2 n3 n4 n5 vp vn rl Ml y_1 (0 : Int32) (0 : Int32) (by first | with_reducible assumption | omega | assumption) (by first | with_reducible assumption | omega | assumption) (by first | with_reducible assumption | assumption | omega) (by first | with_reducible assumption | assumption | omega) (by first | with_reducible assumption | omega | assumption) (by first | with_reducible assumption | assumption | omega) (by first | with_reducible assumption | assumption | omega)) (cwV 3 hts gX7_findDensest_X7_chooseForDense rfl rfl rfl ⟨rfl, hd_X7_chooseForDense⟩ ⟨Nat.le_of_ble_eq_true rfl, Nat.le_of_ble_eq_true rfl⟩) ⟨bl_g, va_recvX hK.1 hP (ci := 7) (q0 := 0) rfl rfl, fun U hU hW => ⟨rfl, by rw [hU], by rw [hU]; exact hPc, ⟨kk_mv hW hK, arrOfT_moved hW.alike hG⟩, hDw⟩⟩ rfl rfl hl.1 rfl (lv_room (Nat.le_of_ble_eq_true rfl)) dB_36_1_68.2.2.2.2 ⟨Nat.le_of_ble_eq_true rfl, Nat.le_of_ble_eq_true rfl⟩) hS (fun q _ h => hFc q h) hFc (fun u t H locs ht hvm hw hB hz1 hk1 hS => ?_)
  obtain ⟨v7_3, v8_4, g_5, hP1, hD1⟩ := hB
  rw [ht] at hP1
  obtain ⟨hP, hD⟩ := va_join (wr := []) (w1 := [ob7_0_ xh xc u1 u2 u3 u4 u5 u6 v7_3 v8_4, ob0_0_ xc xn xk clo cro c4 c5 c6 c7 c8, ob3_0_ xn vp vn n1 n2 n3 n4 n5, aq_ cy 6 clo 12 (gf_ rl), ai_ cy (rl 0) 12 (Ml 0), ai_ cy (rl 1) 12 (Ml 1), ai_ cy (rl 2) 12 (Ml 2), ai_ cy (rl 3) 12 (Ml 3), ai_ cy (rl 4) 12 (Ml 4), ai_ cy (rl 5) 12 (Ml 5), ai_ cy (rl 6) 12 (Ml 6), ai_ cy (rl 7) 12 (Ml 7), ai_ cy (rl 8) 12 (Ml 8), ai_ cy (rl 9) 12 (Ml 9), ai_ cy (rl 10) 12 (Ml 10), ai_ cy (rl 11) 12 (Ml 11)]) hP hD [0, 1, 2, 3, 4, 5, 6, 7, 8, 9, 10, 11, 12, 13, 14, 15] [] hC_ rfl (by decide) (by decide) hk1 hFc hP1 hD1
  refine pd_K [ob7_0_ xh xc u1 u2 u3 u4 u5 u6 v7_3 v8_4, ob0_0_ xc xn xk clo cro c4 c5 c6 c7 c8, ob3_0_ xn vp vn n1 n2 n3 n4 n5, aq_ cy 6 clo 12 (gf_ rl), ai_ cy (rl 0) 12 (Ml 0), ai_ cy (rl 1) 12 (Ml 1), ai_ cy (rl 2) 12 (Ml 2), ai_ cy (rl 3) 12 (Ml 3), ai_ cy (rl 4) 12 (Ml 4), ai_ cy (rl 5) 12 (Ml 5), ai_ cy (rl 6) 12 (Ml 6), ai_ cy (rl 7) 12 (Ml 7), ai_ cy (rl 8) 12 (Ml 8), ai_ cy (rl 9) 12 (Ml 9), ai_ cy (rl 10) 12 (Ml 10), ai_ cy (rl 11) 12 (Ml 11)] hP hD (fun hP hD => ?_)
  rw [hQ]
  exact W.vret hx hb hr (fun t ht hW => ⟨⟨(), rfl, trivial, v7_3, v8_4, (dS_to g_5 (by rw [hKr_, cl_0, Nat.zero_add])), by rw [ht]; exact hP, hD⟩, hS.F ht⟩) hS.2.2 dB_36_1_69

set_option maxHeartbeats 4000000 in
set_option maxRecDepth 100000 in
theorem c_X11_dense2 (l : Launch) (D : va_G) (cy : Nat → ClassId) (sz : Nat) (xo : Nat) (xk : Nat) (xn : Nat) (xc : Nat) (xh : Nat) (xt : Nat) (xw : Nat) (xm : Nat) (xp : Nat) (pf : Int32) (ph : Int32) (tr : Int64) (fi : Int32) (n1 : Nat) (n2 : Nat) (n3 : Nat) (n4 : Nat) (n5 : Nat) (vp : Int32) (vn : Int32) (clo : Nat) (cro : Nat) (c4 : Nat) (c5 : Nat) (c6 : Nat) (c7 : Nat) (c8 : Nat) (fk : Nat → Int32) (fs : Nat → Int32) (fe : Nat → Int32) (fw : Nat → Int32) (fp : Nat → Int32) (rl : Nat → Nat) (Ml : Nat → Nat → Int32) (rr : Nat → Nat) (Mr : Nat → Nat → Int32) (f4 : Nat → Int32) (f5 : Nat → Int32) (f6 : Nat → Int32) (f7 : Nat → Int32) (f8 : Nat → Int32) (k0 : Nat) (k1 : Nat) (k2 : Nat) (k3 : Nat) (k4 : Nat) (u1 : Int32) (u2 : Int32) (u3 : Int32) (u4 : Int32) (u5 : Int32) (u6 : Int32) (u7 : Int32) (u8 : Int32) (a1 : Int32) (hvp : 0 ≤ vp.toInt ∧ vp.toInt ≤ 12) (hvn : 0 ≤ vn.toInt ∧ vn.toInt ≤ 40) (hnc : netC vp.toInt vn.toInt fs fe) (hdc : netDC vn.toInt fs fe) (hpr : prng fs fe 40) (r_f7 : rng f7 12 (0) (11)) (r_f8 : rng f8 12 (0) (11)) (r_fk : rng fk 40 (0) (4)) (r_fw : rng fw 40 (0) (2000)) : Met l yX11_dense wsX11_dense ({ frames := 16, cells := 0, slots := 0, locals := 365 }) (va_Pc [.ref xo, .int a1] (fun U => U.heap.size = sz ∧ va_P D vwCl [ob11_0_ xo xk xn xc xh xt xw xm xp pf ph tr fi, ob3_0_ xn vp vn n1 n2 n3 n4 n5, ai_ cy n1 40 fk, ai_ cy n2 40 fs, ai_ cy n3 40 fe, ai_ cy n4 40 fw, ai_ cy n5 40 fp, ob0_0_ xc xn xk clo cro c4 c5 c6 c7 c8, aq_ cy 6 clo 12 (gf_ rl), ai_ cy (rl 0) 12 (Ml 0), ai_ cy (rl 1) 12 (Ml 1), ai_ cy (rl 2) 12 (Ml 2), ai_ cy (rl 3) 12 (Ml 3), ai_ cy (rl 4) 12 (Ml 4), ai_ cy (rl 5) 12 (Ml 5), ai_ cy (rl 6) 12 (Ml 6), ai_ cy (rl 7) 12 (Ml 7), ai_ cy (rl 8) 12 (Ml 8), ai_ cy (rl 9) 12 (Ml 9), ai_ cy (rl 10) 12 (Ml 10), ai_ cy (rl 11) 12 (Ml 11), aq_ cy 6 cro 12 (gf_ rr), ai_ cy (rr 0) 12 (Mr 0), ai_ cy (rr 1) 12 (Mr 1), ai_ cy (rr 2) 12 (Mr 2), ai_ cy (rr 3) 12 (Mr 3), ai_ cy (rr 4) 12 (Mr 4), ai_ cy (rr 5) 12 (Mr 5), ai_ cy (rr 6) 12 (Mr 6), ai_ cy (rr 7) 12 (Mr 7), ai_ cy (rr 8) 12 (Mr 8), ai_ cy (rr 9) 12 (Mr 9), ai_ cy (rr 10) 12 (Mr 10), ai_ cy (rr 11) 12 (Mr 11), ai_ cy c4 40 f4, ai_ cy c5 40 f5, ai_ cy c6 40 f6, ai_ cy c7 12 f7, ai_ cy c8 12 f8, aq_ cy 3 xk 5 (kf_ k0 k1 k2 k3 k4), ob6_0_ k0, ob5_0_ k1, ob9_0_ k2, ob2_0_ k3, ob8_0_ k4, ob7_0_ xh xc u1 u2 u3 u4 u5 u6 u7 u8] U.heap ∧ kg_ D cy U ∧ va_D (fun _ => True) [ob11_0_ xo xk xn xc xh xt xw xm xp pf ph tr fi, ob3_0_ xn vp vn n1 n2 n3 n4 n5, ai_ cy n1 40 fk, ai_ cy n2 40 fs, ai_ cy n3 40 fe, ai_ cy n4 40 fw, ai_ cy n5 40 fp, ob0_0_ xc xn xk clo cro c4 c5 c6 c7 c8, aq_ cy 6 clo 12 (gf_ rl), ai_ cy (rl 0) 12 (Ml 0), ai_ cy (rl 1) 12 (Ml 1), ai_ cy (rl 2) 12 (Ml 2), ai_ cy (rl 3) 12 (Ml 3), ai_ cy (rl 4) 12 (Ml 4), ai_ cy (rl 5) 12 (Ml 5), ai_ cy (rl 6) 12 (Ml 6), ai_ cy (rl 7) 12 (Ml 7), ai_ cy (rl 8) 12 (Ml 8), ai_ cy (rl 9) 12 (Ml 9), ai_ cy (rl 10) 12 (Ml 10), ai_ cy (rl 11) 12 (Ml 11), aq_ cy 6 cro 12 (gf_ rr), ai_ cy (rr 0) 12 (Mr 0), ai_ cy (rr 1) 12 (Mr 1), ai_ cy (rr 2) 12 (Mr 2), ai_ cy (rr 3) 12 (Mr 3), ai_ cy (rr 4) 12 (Mr 4), ai_ cy (rr 5) 12 (Mr 5), ai_ cy (rr 6) 12 (Mr 6), ai_ cy (rr 7) 12 (Mr 7), ai_ cy (rr 8) 12 (Mr 8), ai_ cy (rr 9) 12 (Mr 9), ai_ cy (rr 10) 12 (Mr 10), ai_ cy (rr 11) 12 (Mr 11), ai_ cy c4 40 f4, ai_ cy c5 40 f5, ai_ cy c6 40 f6, ai_ cy c7 12 f7, ai_ cy c8 12 f8, aq_ cy 3 xk 5 (kf_ k0 k1 k2 k3 k4), ob6_0_ k0, ob5_0_ k1, ob9_0_ k2, ob2_0_ k3, ob8_0_ k4, ob7_0_ xh xc u1 u2 u3 u4 u5 u6 u7 u8])) (va_Qi (fun (r : Int32) (_ : Unit) => ((dnI a1.toInt vp.toInt (sumI (bkF fk fs) vn.toNatClampNeg) = 0 → dnA (wLn fw (gF fs) fs fe vn.toNatClampNeg) vp.toNatClampNeg a1.toInt r) ∧ (dnI a1.toInt vp.toInt (sumI (bkF fk fs) vn.toNatClampNeg) ≠ 0 → r.toInt = dnI a1.toInt vp.toInt (sumI (bkF fk fs) vn.toNatClampNeg)))) (fun (_ : Unit) (t : State) => ∃ (eMl : Nat → Nat → Int32), ∃ (eMr : Nat → Nat → Int32), ∃ (e4 : Nat → Int32), ∃ (e5 : Nat → Int32), ∃ (e6 : Nat → Int32), ∃ (e7 : Nat → Int32), ∃ (e8 : Nat → Int32), ∃ (v7 : Int32), ∃ (v8 : Int32), (rng e7 12 (0) (11)) ∧ (rng e8 12 (0) (11)) ∧ va_P D vwCl [ob11_0_ xo xk xn xc xh xt xw xm xp pf ph tr fi, ob3_0_ xn vp vn n1 n2 n3 n4 n5, ai_ cy n1 40 fk, ai_ cy n2 40 fs, ai_ cy n3 40 fe, ai_ cy n4 40 fw, ai_ cy n5 40 fp, ob0_0_ xc xn xk clo cro c4 c5 c6 c7 c8, aq_ cy 6 clo 12 (gf_ rl), ai_ cy (rl 0) 12 (eMl 0), ai_ cy (rl 1) 12 (eMl 1), ai_ cy (rl 2) 12 (eMl 2), ai_ cy (rl 3) 12 (eMl 3), ai_ cy (rl 4) 12 (eMl 4), ai_ cy (rl 5) 12 (eMl 5), ai_ cy (rl 6) 12 (eMl 6), ai_ cy (rl 7) 12 (eMl 7), ai_ cy (rl 8) 12 (eMl 8), ai_ cy (rl 9) 12 (eMl 9), ai_ cy (rl 10) 12 (eMl 10), ai_ cy (rl 11) 12 (eMl 11), aq_ cy 6 cro 12 (gf_ rr), ai_ cy (rr 0) 12 (eMr 0), ai_ cy (rr 1) 12 (eMr 1), ai_ cy (rr 2) 12 (eMr 2), ai_ cy (rr 3) 12 (eMr 3), ai_ cy (rr 4) 12 (eMr 4), ai_ cy (rr 5) 12 (eMr 5), ai_ cy (rr 6) 12 (eMr 6), ai_ cy (rr 7) 12 (eMr 7), ai_ cy (rr 8) 12 (eMr 8), ai_ cy (rr 9) 12 (eMr 9), ai_ cy (rr 10) 12 (eMr 10), ai_ cy (rr 11) 12 (eMr 11), ai_ cy c4 40 e4, ai_ cy c5 40 e5, ai_ cy c6 40 e6, ai_ cy c7 12 e7, ai_ cy c8 12 e8, aq_ cy 3 xk 5 (kf_ k0 k1 k2 k3 k4), ob6_0_ k0, ob5_0_ k1, ob9_0_ k2, ob2_0_ k3, ob8_0_ k4, ob7_0_ xh xc u1 u2 u3 u4 u5 u6 v7 v8] t.heap ∧ va_D (va_A [ob11_0_ xo xk xn xc xh xt xw xm xp pf ph tr fi, ob3_0_ xn vp vn n1 n2 n3 n4 n5, ai_ cy n1 40 fk, ai_ cy n2 40 fs, ai_ cy n3 40 fe, ai_ cy n4 40 fw, ai_ cy n5 40 fp, ob0_0_ xc xn xk clo cro c4 c5 c6 c7 c8, aq_ cy 6 clo 12 (gf_ rl), ai_ cy (rl 0) 12 (Ml 0), ai_ cy (rl 1) 12 (Ml 1), ai_ cy (rl 2) 12 (Ml 2), ai_ cy (rl 3) 12 (Ml 3), ai_ cy (rl 4) 12 (Ml 4), ai_ cy (rl 5) 12 (Ml 5), ai_ cy (rl 6) 12 (Ml 6), ai_ cy (rl 7) 12 (Ml 7), ai_ cy (rl 8) 12 (Ml 8), ai_ cy (rl 9) 12 (Ml 9), ai_ cy (rl 10) 12 (Ml 10), ai_ cy (rl 11) 12 (Ml 11), aq_ cy 6 cro 12 (gf_ rr), ai_ cy (rr 0) 12 (Mr 0), ai_ cy (rr 1) 12 (Mr 1), ai_ cy (rr 2) 12 (Mr 2), ai_ cy (rr 3) 12 (Mr 3), ai_ cy (rr 4) 12 (Mr 4), ai_ cy (rr 5) 12 (Mr 5), ai_ cy (rr 6) 12 (Mr 6), ai_ cy (rr 7) 12 (Mr 7), ai_ cy (rr 8) 12 (Mr 8), ai_ cy (rr 9) 12 (Mr 9), ai_ cy (rr 10) 12 (Mr 10), ai_ cy (rr 11) 12 (Mr 11), ai_ cy c4 40 f4, ai_ cy c5 40 f5, ai_ cy c6 40 f6, ai_ cy c7 12 f7, ai_ cy c8 12 f8, aq_ cy 3 xk 5 (kf_ k0 k1 k2 k3 k4), ob6_0_ k0, ob5_0_ k1, ob9_0_ k2, ob2_0_ k3, ob8_0_ k4, ob7_0_ xh xc u1 u2 u3 u4 u5 u6 u7 u8] sz) [ob11_0_ xo xk xn xc xh xt xw xm xp pf ph tr fi, ob3_0_ xn vp vn n1 n2 n3 n4 n5, ai_ cy n1 40 fk, ai_ cy n2 40 fs, ai_ cy n3 40 fe, ai_ cy n4 40 fw, ai_ cy n5 40 fp, ob0_0_ xc xn xk clo cro c4 c5 c6 c7 c8, aq_ cy 6 clo 12 (gf_ rl), ai_ cy (rl 0) 12 (eMl 0), ai_ cy (rl 1) 12 (eMl 1), ai_ cy (rl 2) 12 (eMl 2), ai_ cy (rl 3) 12 (eMl 3), ai_ cy (rl 4) 12 (eMl 4), ai_ cy (rl 5) 12 (eMl 5), ai_ cy (rl 6) 12 (eMl 6), ai_ cy (rl 7) 12 (eMl 7), ai_ cy (rl 8) 12 (eMl 8), ai_ cy (rl 9) 12 (eMl 9), ai_ cy (rl 10) 12 (eMl 10), ai_ cy (rl 11) 12 (eMl 11), aq_ cy 6 cro 12 (gf_ rr), ai_ cy (rr 0) 12 (eMr 0), ai_ cy (rr 1) 12 (eMr 1), ai_ cy (rr 2) 12 (eMr 2), ai_ cy (rr 3) 12 (eMr 3), ai_ cy (rr 4) 12 (eMr 4), ai_ cy (rr 5) 12 (eMr 5), ai_ cy (rr 6) 12 (eMr 6), ai_ cy (rr 7) 12 (eMr 7), ai_ cy (rr 8) 12 (eMr 8), ai_ cy (rr 9) 12 (eMr 9), ai_ cy (rr 10) 12 (eMr 10), ai_ cy (rr 11) 12 (eMr 11), ai_ cy c4 40 e4, ai_ cy c5 40 e5, ai_ cy c6 40 e6, ai_ cy c7 12 e7, ai_ cy c8 12 e8, aq_ cy 3 xk 5 (kf_ k0 k1 k2 k3 k4), ob6_0_ k0, ob5_0_ k1, ob9_0_ k2, ob2_0_ k3, ob8_0_ k4, ob7_0_ xh xc u1 u2 u3 u4 u5 u6 v7 v8]) (va_A [ob11_0_ xo xk xn xc xh xt xw xm xp pf ph tr fi, ob3_0_ xn vp vn n1 n2 n3 n4 n5, ai_ cy n1 40 fk, ai_ cy n2 40 fs, ai_ cy n3 40 fe, ai_ cy n4 40 fw, ai_ cy n5 40 fp, ob0_0_ xc xn xk clo cro c4 c5 c6 c7 c8, aq_ cy 6 clo 12 (gf_ rl), ai_ cy (rl 0) 12 (Ml 0), ai_ cy (rl 1) 12 (Ml 1), ai_ cy (rl 2) 12 (Ml 2), ai_ cy (rl 3) 12 (Ml 3), ai_ cy (rl 4) 12 (Ml 4), ai_ cy (rl 5) 12 (Ml 5), ai_ cy (rl 6) 12 (Ml 6), ai_ cy (rl 7) 12 (Ml 7), ai_ cy (rl 8) 12 (Ml 8), ai_ cy (rl 9) 12 (Ml 9), ai_ cy (rl 10) 12 (Ml 10), ai_ cy (rl 11) 12 (Ml 11), aq_ cy 6 cro 12 (gf_ rr), ai_ cy (rr 0) 12 (Mr 0), ai_ cy (rr 1) 12 (Mr 1), ai_ cy (rr 2) 12 (Mr 2), ai_ cy (rr 3) 12 (Mr 3), ai_ cy (rr 4) 12 (Mr 4), ai_ cy (rr 5) 12 (Mr 5), ai_ cy (rr 6) 12 (Mr 6), ai_ cy (rr 7) 12 (Mr 7), ai_ cy (rr 8) 12 (Mr 8), ai_ cy (rr 9) 12 (Mr 9), ai_ cy (rr 10) 12 (Mr 10), ai_ cy (rr 11) 12 (Mr 11), ai_ cy c4 40 f4, ai_ cy c5 40 f5, ai_ cy c6 40 f6, ai_ cy c7 12 f7, ai_ cy c8 12 f8, aq_ cy 3 xk 5 (kf_ k0 k1 k2 k3 k4), ob6_0_ k0, ob5_0_ k1, ob9_0_ k2, ob2_0_ k3, ob8_0_ k4, ob7_0_ xh xc u1 u2 u3 u4 u5 u6 u7 u8] sz)) 0 0 (va_A [ob11_0_ xo xk xn xc xh xt xw xm xp pf ph tr fi, ob3_0_ xn vp vn n1 n2 n3 n4 n5, ai_ cy n1 40 fk, ai_ cy n2 40 fs, ai_ cy n3 40 fe, ai_ cy n4 40 fw, ai_ cy n5 40 fp, ob0_0_ xc xn xk clo cro c4 c5 c6 c7 c8, aq_ cy 6 clo 12 (gf_ rl), ai_ cy (rl 0) 12 (Ml 0), ai_ cy (rl 1) 12 (Ml 1), ai_ cy (rl 2) 12 (Ml 2), ai_ cy (rl 3) 12 (Ml 3), ai_ cy (rl 4) 12 (Ml 4), ai_ cy (rl 5) 12 (Ml 5), ai_ cy (rl 6) 12 (Ml 6), ai_ cy (rl 7) 12 (Ml 7), ai_ cy (rl 8) 12 (Ml 8), ai_ cy (rl 9) 12 (Ml 9), ai_ cy (rl 10) 12 (Ml 10), ai_ cy (rl 11) 12 (Ml 11), aq_ cy 6 cro 12 (gf_ rr), ai_ cy (rr 0) 12 (Mr 0), ai_ cy (rr 1) 12 (Mr 1), ai_ cy (rr 2) 12 (Mr 2), ai_ cy (rr 3) 12 (Mr 3), ai_ cy (rr 4) 12 (Mr 4), ai_ cy (rr 5) 12 (Mr 5), ai_ cy (rr 6) 12 (Mr 6), ai_ cy (rr 7) 12 (Mr 7), ai_ cy (rr 8) 12 (Mr 8), ai_ cy (rr 9) 12 (Mr 9), ai_ cy (rr 10) 12 (Mr 10), ai_ cy (rr 11) 12 (Mr 11), ai_ cy c4 40 f4, ai_ cy c5 40 f5, ai_ cy c6 40 f6, ai_ cy c7 12 f7, ai_ cy c8 12 f8, aq_ cy 3 xk 5 (kf_ k0 k1 k2 k3 k4), ob6_0_ k0, ob5_0_ k1, ob9_0_ k2, ob2_0_ k3, ob8_0_ k4, ob7_0_ xh xc u1 u2 u3 u4 u5 u6 u7 u8] sz) := by
  refine ofQ (cc := cX11_dense) (maxL := 2) (ret := (some .int)) (by decide) rfl ?_
  intro p e s m args below meth c s₁ Q hQ B hml hv
  obtain ⟨rfl, hsz, hP, hK, hD0⟩ := hv
  have hG := hK.2
  have hK := hK.1
  have hx := B.exec
  have hb := B.bytes
  have hr := B.returns
  have hts := atoms_spec (ws := wsX11_dense) B.pre
  have hown : s.vm.findClass RX11 = some m.cls := by have h_ := findClass_of_methodNamed B.named; exact h_
  have hlocks := B.notSynchronized
  subst hsz
  have hD := hD0.self (sz := s.heap.size)
  generalize hAe : va_A [ob11_0_ xo xk xn xc xh xt xw xm xp pf ph tr fi, ob3_0_ xn vp vn n1 n2 n3 n4 n5, ai_ cy n1 40 fk, ai_ cy n2 40 fs, ai_ cy n3 40 fe, ai_ cy n4 40 fw, ai_ cy n5 40 fp, ob0_0_ xc xn xk clo cro c4 c5 c6 c7 c8, aq_ cy 6 clo 12 (gf_ rl), ai_ cy (rl 0) 12 (Ml 0), ai_ cy (rl 1) 12 (Ml 1), ai_ cy (rl 2) 12 (Ml 2), ai_ cy (rl 3) 12 (Ml 3), ai_ cy (rl 4) 12 (Ml 4), ai_ cy (rl 5) 12 (Ml 5), ai_ cy (rl 6) 12 (Ml 6), ai_ cy (rl 7) 12 (Ml 7), ai_ cy (rl 8) 12 (Ml 8), ai_ cy (rl 9) 12 (Ml 9), ai_ cy (rl 10) 12 (Ml 10), ai_ cy (rl 11) 12 (Ml 11), aq_ cy 6 cro 12 (gf_ rr), ai_ cy (rr 0) 12 (Mr 0), ai_ cy (rr 1) 12 (Mr 1), ai_ cy (rr 2) 12 (Mr 2), ai_ cy (rr 3) 12 (Mr 3), ai_ cy (rr 4) 12 (Mr 4), ai_ cy (rr 5) 12 (Mr 5), ai_ cy (rr 6) 12 (Mr 6), ai_ cy (rr 7) 12 (Mr 7), ai_ cy (rr 8) 12 (Mr 8), ai_ cy (rr 9) 12 (Mr 9), ai_ cy (rr 10) 12 (Mr 10), ai_ cy (rr 11) 12 (Mr 11), ai_ cy c4 40 f4, ai_ cy c5 40 f5, ai_ cy c6 40 f6, ai_ cy c7 12 f7, ai_ cy c8 12 f8, aq_ cy 3 xk 5 (kf_ k0 k1 k2 k3 k4), ob6_0_ k0, ob5_0_ k1, ob9_0_ k2, ob2_0_ k3, ob8_0_ k4, ob7_0_ xh xc u1 u2 u3 u4 u5 u6 u7 u8] s.heap.size = A at hD hQ
  have hA : ∀ q : Nat, s.heap.size ≤ q → A q := fun q h => by rw [← hAe]; exact Or.inr h
  have hS : va_S A s.heap s.heap [] := va_S.rf
  have hl := lv_entry ([.ref xo, .int a1]) (n := 2) (Nat.le_of_ble_eq_true rfl)
  rw [lg_entry_eq]
  generalize (lg_sl ([.ref xo, .int a1]) ++ List.replicate (2 - (lg_sl ([.ref xo, .int a1])).length) Slot.unset).toArray = ls at hl ⊢
  have hl : lv_has ls 2 [(0, .ref xo), (1, .int a1)] := hl
  have zm9 : ((-9) : Int32).toInt = -9 := by decide
  have zm2 : ((-2) : Int32).toInt = -2 := by decide
  have zm1 : ((-1) : Int32).toInt = -1 := by decide
  have z0 : (0 : Int32).toInt = 0 := by decide
  have z1 : (1 : Int32).toInt = 1 := by decide
  have z2 : (2 : Int32).toInt = 2 := by decide
  have zq0 : (0 : Int32).toInt = 0 := by decide
  have zq1 : (1 : Int32).toInt = 1 := by decide
  have zq2 : (2 : Int32).toInt = 2 := by decide
  have zq3 : (3 : Int32).toInt = 3 := by decide
  have zq4 : (4 : Int32).toInt = 4 := by decide
  have zq5 : (5 : Int32).toInt = 5 := by decide
  have zqm9 : ((-9) : Int32).toInt = -9 := by decide
  have zqm1 : ((-1) : Int32).toInt = -1 := by decide
  have zqm2 : ((-2) : Int32).toInt = -2 := by decide
  have cv_ := clI (i := vp) (by omega)
  refine lv_iload_n hx hb dB_36_3_19.1.1.1.1 rfl (lv_at hl 1 rfl) ?_
  refine lv_if_lt (tgt := 9) hx hb dB_36_3_19.1.1.1.2 (by decide) (fun c_1 => ?_) (fun c_1 => ?_)
  · have t_1 : a1.toInt < (0 : Int32).toInt := Int32.lt_iff_toInt_lt.mp c_1
    refine lv_iconst (v := (-1)) hx hb dB_36_3_19.1.2.1.2 (by decide) ?_
    rw [hQ]
    exact W.iret (v := (-1)) hx hb hr (fun t ht hW => ⟨⟨(-1), (), rfl, (⟨fun h => absurd h (by unfold dnI; (repeat' (first | with_reducible refine if_n (by omega) ?_ | with_reducible refine if_ns (by omega) ?_ | with_reducible refine if_nz (by omega) ?_ | with_reducible exact if_p (by omega) (by omega) | with_reducible exact if_ps (by omega) (by omega) | with_reducible exact if_pz (by omega) (by omega))) <;> omega), fun _ => (by unfold dnI; (repeat' (first | with_reducible refine if_n (by omega) ?_ | with_reducible refine if_ns (by omega) ?_ | with_reducible refine if_nz (by omega) ?_ | with_reducible exact if_p (by omega) (by omega) | with_reducible exact if_ps (by omega) (by omega) | with_reducible exact if_pz (by omega) (by omega))) <;> omega)⟩), Ml, Mr, f4, f5, f6, f7, f8, u7, u8, (by first | with_reducible assumption | assumption | exact rng_zero (by omega) (by omega) | omega), (by first | with_reducible assumption | assumption | exact rng_zero (by omega) (by omega) | omega), by rw [ht]; exact hP, hD⟩, hS.F ht⟩) hS.2.2 dB_36_3_19.1.2.2.1
  · have t_1 : ¬ a1.toInt < (0 : Int32).toInt := fun h => c_1 (Int32.lt_iff_toInt_lt.mpr h)
    refine lv_iload_n hx hb dB_36_3_19.1.1.2.1 rfl (lv_at hl 1 rfl) ?_
    refine lv_iconst (v := 2) hx hb dB_36_3_19.1.1.2.2 (by decide) ?_
    refine lv_icmp_le (tgt := 11) hx hb dB_36_3_19.1.2.1.1 (by decide) (fun c_2 => ?_) (fun c_2 => ?_)
    · have t_2 : a1.toInt ≤ (2 : Int32).toInt := Int32.le_iff_toInt_le.mp c_2
      refine lv_aload_n hx hb dB_36_3_19.1.2.2.2 rfl (lv_at hl 0 rfl) ?_
      refine va_get (ci := 11) (v := .ref xn) (C := RX11) (T := TX11) (N := 12) hx hb hts (fun _ h => List.mem_cons_of_mem _ (List.mem_append_left _ (List.mem_append_left _ (List.mem_append_left _ (List.mem_append_right _ h))))) hown hK.1 hP 0 rfl rfl 1 (by decide) (hts (.fieldLink RX11 31 "CutAtlas" "net" "LCutAtlas$Net;") (List.mem_of_getElem? (i := 1) rfl)) (fun _ h9 => h9) rfl dB_36_3_19.2.1.1.1 ?_
      refine ct_R hP hD [ob3_0_ xn vp vn n1 n2 n3 n4 n5, ai_ cy n1 40 fk, ai_ cy n2 40 fs] [1, 2, 3] (by decide) rfl (fun hPc hDw => ?_)
      have hFc := va_free (wc := []) hD hS hA [] rfl
      refine va_calli (va_runV (As := []) (rest := []) ⟨hx, hb, hml, hown, hts⟩ (c_X3_isWhole2 l D cy s.heap.size xn n1 n2 n3 n4 n5 vp vn fk fs (by first | with_reducible assumption | omega | assumption)) (cwV 0 hts gX11_dense_X3_isWhole rfl rfl rfl ⟨rfl, hd_X3_isWhole⟩ ⟨Nat.le_of_ble_eq_true rfl, Nat.le_of_ble_eq_true rfl⟩) ⟨bl_, va_recvX hK.1 hP (ci := 3) (q0 := 1) rfl rfl, fun U hU hW => ⟨rfl, by rw [hU], by rw [hU]; exact hPc, kk_mv hW hK, hDw⟩⟩ rfl rfl hl.1 rfl (lv_room (Nat.le_of_ble_eq_true rfl)) dB_36_3_19.2.1.1.2 ⟨Nat.le_of_ble_eq_true rfl, Nat.le_of_ble_eq_true rfl⟩) hS (fun q _ h => hFc q h) hFc (fun r_3 u t H locs ht hvm hw hB hz1 hk1 hS => ?_)
      have hP : va_P D vwCl _ H := ro_keep hP hk1
      obtain ⟨f0_r_3, f1_r_3⟩ := hw
      have hw1_ := f1_r_3
      refine lv_if_ne (tgt := 24) hx hb dB_36_3_19.2.1.2.1 (by decide) (fun c_4 => ?_) (fun c_4 => ?_)
      · have t_4 : ¬ r_3.toInt = (0 : Int32).toInt := fun h => c_4 (Int32.toInt_inj.mp h)
        have hwb_ := whI_1 (P := vp.toInt) (c := sumI (bkF fk fs) vn.toNatClampNeg) (by omega)
        have hwi_ := hwb_.2
        have hdn0_ : dnI a1.toInt vp.toInt (sumI (bkF fk fs) vn.toNatClampNeg) = 0 := by unfold dnI; (repeat' (first | with_reducible refine if_n (by omega) ?_ | with_reducible refine if_ns (by omega) ?_ | with_reducible refine if_nz (by omega) ?_ | with_reducible exact if_p (by omega) (by omega) | with_reducible exact if_ps (by omega) (by omega) | with_reducible exact if_pz (by omega) (by omega))) <;> omega
        refine lv_aload_n hx hb dB_36_3_19.2.2.1.2 rfl (lv_at hl 0 rfl) ?_
        refine va_get (ci := 11) (v := .ref xc) (C := RX11) (T := TX11) (N := 12) hx hb hts (fun _ h => List.mem_cons_of_mem _ (List.mem_append_left _ (List.mem_append_left _ (List.mem_append_left _ (List.mem_append_right _ h))))) hown hK.1 hP 0 rfl rfl 2 (by decide) (hts (.fieldLink RX11 40 "CutAtlas" "current" "LCutAtlas$Current;") (List.mem_of_getElem? (i := 2) rfl)) (fun _ h9 => h9) rfl dB_36_3_19.2.2.2.1 ?_
        refine lv_bipush (v := (-9)) hx hb dB_36_3_19.2.2.2.2 (by decide) ?_
        refine ct_S hP hD hS hA [ob0_0_ xc xn xk clo cro c4 c5 c6 c7 c8, ob3_0_ xn vp vn n1 n2 n3 n4 n5, ai_ cy n1 40 fk, ai_ cy n2 40 fs, ai_ cy n3 40 fe, ai_ cy n4 40 fw, aq_ cy 6 clo 12 (gf_ rl), ai_ cy (rl 0) 12 (Ml 0), ai_ cy (rl 1) 12 (Ml 1), ai_ cy (rl 2) 12 (Ml 2), ai_ cy (rl 3) 12 (Ml 3), ai_ cy (rl 4) 12 (Ml 4), ai_ cy (rl 5) 12 (Ml 5), ai_ cy (rl 6) 12 (Ml 6), ai_ cy (rl 7) 12 (Ml 7), ai_ cy (rl 8) 12 (Ml 8), ai_ cy (rl 9) 12 (Ml 9), ai_ cy (rl 10) 12 (Ml 10), ai_ cy (rl 11) 12 (Ml 11), ai_ cy c5 40 f5, ai_ cy c6 40 f6, aq_ cy 3 xk 5 (kf_ k0 k1 k2 k3 k4), ob6_0_ k0, ob5_0_ k1, ob9_0_ k2, ob2_0_ k3, ob8_0_ k4] [7, 1, 2, 3, 4, 5, 8, 9, 10, 11, 12, 13, 14, 15, 16, 17, 18, 19, 20, 35, 36, 39, 40, 41, 42, 43, 44] (by decide +kernel) rfl (fun hPc hDw hFc hC_ => ?_)
        refine va_callv (va_runV (As := [.int (-9)]) (rest := []) ⟨hx, hb, hml, hown, hts⟩ (c_X0_load2 l D cy H.size xc xk clo cro c4 c5 c6 c7 c8 xn n1 n2 n3 n4 n5 vp vn fk fs fe fw rl Ml f5 f6 k0 k1 k2 k3 k4 ((-9) : Int32) (by first | with_reducible assumption | omega | assumption) (by first | with_reducible assumption | omega | assumption) (by first | with_reducible assumption | assumption | omega) (by first | with_reducible assumption | assumption | omega) (by first | with_reducible assumption | assumption | omega) (by first | with_reducible assumption | assumption | omega)) (cwV 1 hts gX11_dense_X0_load rfl rfl rfl ⟨rfl, hd_X0_load⟩ ⟨Nat.le_of_ble_eq_true rfl, Nat.le_of_ble_eq_true rfl⟩) ⟨bl_g, va_recvX hK.1 hP (ci := 0) (q0 := 7) rfl rfl, fun U hU hW => ⟨rfl, by rw [hU], by rw [hU]; exact hPc, ⟨kk_mv hW hK, arrOfT_moved hW.alike hG⟩, hDw⟩⟩ rfl rfl hl.1 rfl (lv_room (Nat.le_of_ble_eq_true rfl)) dB_36_3_20.1.1.1.1 ⟨Nat.le_of_ble_eq_true rfl, Nat.le_of_ble_eq_true rfl⟩) hS (fun q _ h => hFc q h) hFc (fun u t H locs ht hvm hw hB hz1 hk1 hS => ?_)
        obtain ⟨eMl_6, e5_7, e6_8, g_9, g_10, hP1, hD1⟩ := hB
        rw [ht] at hP1
        obtain ⟨hP, hD⟩ := va_join (wr := [ob11_0_ xo xk xn xc xh xt xw xm xp pf ph tr fi, ai_ cy n5 40 fp, aq_ cy 6 cro 12 (gf_ rr), ai_ cy (rr 0) 12 (Mr 0), ai_ cy (rr 1) 12 (Mr 1), ai_ cy (rr 2) 12 (Mr 2), ai_ cy (rr 3) 12 (Mr 3), ai_ cy (rr 4) 12 (Mr 4), ai_ cy (rr 5) 12 (Mr 5), ai_ cy (rr 6) 12 (Mr 6), ai_ cy (rr 7) 12 (Mr 7), ai_ cy (rr 8) 12 (Mr 8), ai_ cy (rr 9) 12 (Mr 9), ai_ cy (rr 10) 12 (Mr 10), ai_ cy (rr 11) 12 (Mr 11), ai_ cy c4 40 f4, ai_ cy c7 12 f7, ai_ cy c8 12 f8, ob7_0_ xh xc u1 u2 u3 u4 u5 u6 u7 u8]) (w1 := [ob0_0_ xc xn xk clo cro c4 c5 c6 c7 c8, ob3_0_ xn vp vn n1 n2 n3 n4 n5, ai_ cy n1 40 fk, ai_ cy n2 40 fs, ai_ cy n3 40 fe, ai_ cy n4 40 fw, aq_ cy 6 clo 12 (gf_ rl), ai_ cy (rl 0) 12 (eMl_6 0), ai_ cy (rl 1) 12 (eMl_6 1), ai_ cy (rl 2) 12 (eMl_6 2), ai_ cy (rl 3) 12 (eMl_6 3), ai_ cy (rl 4) 12 (eMl_6 4), ai_ cy (rl 5) 12 (eMl_6 5), ai_ cy (rl 6) 12 (eMl_6 6), ai_ cy (rl 7) 12 (eMl_6 7), ai_ cy (rl 8) 12 (eMl_6 8), ai_ cy (rl 9) 12 (eMl_6 9), ai_ cy (rl 10) 12 (eMl_6 10), ai_ cy (rl 11) 12 (eMl_6 11), ai_ cy c5 40 e5_7, ai_ cy c6 40 e6_8, aq_ cy 3 xk 5 (kf_ k0 k1 k2 k3 k4), ob6_0_ k0, ob5_0_ k1, ob9_0_ k2, ob2_0_ k3, ob8_0_ k4]) hP hD [7, 1, 2, 3, 4, 5, 8, 9, 10, 11, 12, 13, 14, 15, 16, 17, 18, 19, 20, 35, 36, 39, 40, 41, 42, 43, 44] [0, 6, 21, 22, 23, 24, 25, 26, 27, 28, 29, 30, 31, 32, 33, 34, 37, 38, 45] hC_ rfl (by decide +kernel) (by decide +kernel) hk1 hFc hP1 hD1
        refine pd_S hP hD [ob11_0_ xo xk xn xc xh xt xw xm xp pf ph tr fi, ob3_0_ xn vp vn n1 n2 n3 n4 n5, ai_ cy n1 40 fk, ai_ cy n2 40 fs, ai_ cy n3 40 fe, ai_ cy n4 40 fw, ai_ cy n5 40 fp, ob0_0_ xc xn xk clo cro c4 c5 c6 c7 c8, aq_ cy 6 clo 12 (gf_ rl), ai_ cy (rl 0) 12 (eMl_6 0), ai_ cy (rl 1) 12 (eMl_6 1), ai_ cy (rl 2) 12 (eMl_6 2), ai_ cy (rl 3) 12 (eMl_6 3), ai_ cy (rl 4) 12 (eMl_6 4), ai_ cy (rl 5) 12 (eMl_6 5), ai_ cy (rl 6) 12 (eMl_6 6), ai_ cy (rl 7) 12 (eMl_6 7), ai_ cy (rl 8) 12 (eMl_6 8), ai_ cy (rl 9) 12 (eMl_6 9), ai_ cy (rl 10) 12 (eMl_6 10), ai_ cy (rl 11) 12 (eMl_6 11), aq_ cy 6 cro 12 (gf_ rr), ai_ cy (rr 0) 12 (Mr 0), ai_ cy (rr 1) 12 (Mr 1), ai_ cy (rr 2) 12 (Mr 2), ai_ cy (rr 3) 12 (Mr 3), ai_ cy (rr 4) 12 (Mr 4), ai_ cy (rr 5) 12 (Mr 5), ai_ cy (rr 6) 12 (Mr 6), ai_ cy (rr 7) 12 (Mr 7), ai_ cy (rr 8) 12 (Mr 8), ai_ cy (rr 9) 12 (Mr 9), ai_ cy (rr 10) 12 (Mr 10), ai_ cy (rr 11) 12 (Mr 11), ai_ cy c4 40 f4, ai_ cy c5 40 e5_7, ai_ cy c6 40 e6_8, ai_ cy c7 12 f7, ai_ cy c8 12 f8, aq_ cy 3 xk 5 (kf_ k0 k1 k2 k3 k4), ob6_0_ k0, ob5_0_ k1, ob9_0_ k2, ob2_0_ k3, ob8_0_ k4, ob7_0_ xh xc u1 u2 u3 u4 u5 u6 u7 u8] [0, 20, 21, 22, 23, 24, 1, 19, 25, 26, 27, 28, 29, 30, 31, 32, 33, 34, 35, 36, 37, 2, 3, 4, 5, 6, 7, 8, 9, 10, 11, 12, 13, 14, 15, 38, 39, 16, 17, 40, 41, 42, 43, 44, 45, 18] (by decide +kernel) rfl (fun hP hD => ?_)
        have hmx_ := g_9
        have hM_ : ∀ x y : Nat, x < vp.toNatClampNeg → y < vp.toNatClampNeg → 0 ≤ zM eMl_6 x y ∧ zM eMl_6 x y ≤ 80000000 := fun x y hx hy => mtx_bd hmx_ r_fw (by have c_ := clI (i := vn) (by omega); omega) (by have c_ := clI (i := vp) (by omega); omega) (by have c_ := clI (i := vp) (by omega); omega)
        have hWe_ : wN (zM eMl_6) vp.toNatClampNeg = wLn fw (gF fs) fs fe vn.toNatClampNeg := funext (fun n => in_mtx hmx_ hnc hdc hpr hwi_ hvp hvn)
        have hB_ : ∀ n : Nat, 0 ≤ wN (zM eMl_6) vp.toNatClampNeg n ∧ wN (zM eMl_6) vp.toNatClampNeg n ≤ 100000 := fun n => by rw [hWe_]; exact wLn_rng r_fw (by have c_ := clI (i := vn) (by omega); omega)
        have hB0_ : wN (zM eMl_6) vp.toNatClampNeg 0 = 0 := inZ_em (by omega)
        refine lv_aload_n hx hb dB_36_3_20.1.1.1.2 rfl (lv_at hl 0 rfl) ?_
        refine va_get (ci := 11) (v := .ref xh) (C := RX11) (T := TX11) (N := 12) hx hb hts (fun _ h => List.mem_cons_of_mem _ (List.mem_append_left _ (List.mem_append_left _ (List.mem_append_left _ (List.mem_append_right _ h))))) hown hK.1 hP 0 rfl rfl 3 (by decide) (hts (.fieldLink RX11 49 "CutAtlas" "hunt" "LCutAtlas$SetHunt;") (List.mem_of_getElem? (i := 3) rfl)) (fun _ h9 => h9) rfl dB_36_3_20.1.1.2.1 ?_
        refine ct_S hP hD hS hA [ob7_0_ xh xc u1 u2 u3 u4 u5 u6 u7 u8, ob0_0_ xc xn xk clo cro c4 c5 c6 c7 c8, ob3_0_ xn vp vn n1 n2 n3 n4 n5, aq_ cy 6 clo 12 (gf_ rl), ai_ cy (rl 0) 12 (eMl_6 0), ai_ cy (rl 1) 12 (eMl_6 1), ai_ cy (rl 2) 12 (eMl_6 2), ai_ cy (rl 3) 12 (eMl_6 3), ai_ cy (rl 4) 12 (eMl_6 4), ai_ cy (rl 5) 12 (eMl_6 5), ai_ cy (rl 6) 12 (eMl_6 6), ai_ cy (rl 7) 12 (eMl_6 7), ai_ cy (rl 8) 12 (eMl_6 8), ai_ cy (rl 9) 12 (eMl_6 9), ai_ cy (rl 10) 12 (eMl_6 10), ai_ cy (rl 11) 12 (eMl_6 11)] [45, 7, 1, 8, 9, 10, 11, 12, 13, 14, 15, 16, 17, 18, 19, 20] (by decide +kernel) rfl (fun hPc hDw hFc hC_ => ?_)
        refine va_callv (va_runV (As := []) (rest := []) ⟨hx, hb, hml, hown, hts⟩ (c_X7_findDensest2 l D cy H.size xh u1 u2 u3 u4 u5 u6 u7 u8 xc xk clo cro c4 c5 c6 c7 c8 xn n1 n2 n3 n4 n5 vp vn rl eMl_6 (by first | with_reducible assumption | omega | assumption) (by first | with_reducible assumption | assumption | omega) (by first | with_reducible assumption | assumption | omega) (by first | with_reducible assumption | omega | assumption)) (cwV 0 hts gX11_dense_X7_findDensest rfl rfl rfl ⟨rfl, hd_X7_findDensest⟩ ⟨Nat.le_of_ble_eq_true rfl, Nat.le_of_ble_eq_true rfl⟩) ⟨bl_g, va_recvX hK.1 hP (ci := 7) (q0 := 45) rfl rfl, fun U hU hW => ⟨rfl, by rw [hU], by rw [hU]; exact hPc, ⟨kk_mv hW hK, arrOfT_moved hW.alike hG⟩, hDw⟩⟩ rfl rfl hl.1 rfl (lv_room (Nat.le_of_ble_eq_true rfl)) dB_36_3_20.1.1.2.2 ⟨Nat.le_of_ble_eq_true rfl, Nat.le_of_ble_eq_true rfl⟩) hS (fun q _ h => hFc q h) hFc (fun u t H locs ht hvm hw hB hz1 hk1 hS => ?_)
        obtain ⟨v7_12, v8_13, g_14, hP1, hD1⟩ := hB
        rw [ht] at hP1
        obtain ⟨hP, hD⟩ := va_join (wr := [ob11_0_ xo xk xn xc xh xt xw xm xp pf ph tr fi, ai_ cy n1 40 fk, ai_ cy n2 40 fs, ai_ cy n3 40 fe, ai_ cy n4 40 fw, ai_ cy n5 40 fp, aq_ cy 6 cro 12 (gf_ rr), ai_ cy (rr 0) 12 (Mr 0), ai_ cy (rr 1) 12 (Mr 1), ai_ cy (rr 2) 12 (Mr 2), ai_ cy (rr 3) 12 (Mr 3), ai_ cy (rr 4) 12 (Mr 4), ai_ cy (rr 5) 12 (Mr 5), ai_ cy (rr 6) 12 (Mr 6), ai_ cy (rr 7) 12 (Mr 7), ai_ cy (rr 8) 12 (Mr 8), ai_ cy (rr 9) 12 (Mr 9), ai_ cy (rr 10) 12 (Mr 10), ai_ cy (rr 11) 12 (Mr 11), ai_ cy c4 40 f4, ai_ cy c5 40 e5_7, ai_ cy c6 40 e6_8, ai_ cy c7 12 f7, ai_ cy c8 12 f8, aq_ cy 3 xk 5 (kf_ k0 k1 k2 k3 k4), ob6_0_ k0, ob5_0_ k1, ob9_0_ k2, ob2_0_ k3, ob8_0_ k4]) (w1 := [ob7_0_ xh xc u1 u2 u3 u4 u5 u6 v7_12 v8_13, ob0_0_ xc xn xk clo cro c4 c5 c6 c7 c8, ob3_0_ xn vp vn n1 n2 n3 n4 n5, aq_ cy 6 clo 12 (gf_ rl), ai_ cy (rl 0) 12 (eMl_6 0), ai_ cy (rl 1) 12 (eMl_6 1), ai_ cy (rl 2) 12 (eMl_6 2), ai_ cy (rl 3) 12 (eMl_6 3), ai_ cy (rl 4) 12 (eMl_6 4), ai_ cy (rl 5) 12 (eMl_6 5), ai_ cy (rl 6) 12 (eMl_6 6), ai_ cy (rl 7) 12 (eMl_6 7), ai_ cy (rl 8) 12 (eMl_6 8), ai_ cy (rl 9) 12 (eMl_6 9), ai_ cy (rl 10) 12 (eMl_6 10), ai_ cy (rl 11) 12 (eMl_6 11)]) hP hD [45, 7, 1, 8, 9, 10, 11, 12, 13, 14, 15, 16, 17, 18, 19, 20] [0, 2, 3, 4, 5, 6, 21, 22, 23, 24, 25, 26, 27, 28, 29, 30, 31, 32, 33, 34, 35, 36, 37, 38, 39, 40, 41, 42, 43, 44] hC_ rfl (by decide +kernel) (by decide +kernel) hk1 hFc hP1 hD1
        refine pd_S hP hD [ob11_0_ xo xk xn xc xh xt xw xm xp pf ph tr fi, ob3_0_ xn vp vn n1 n2 n3 n4 n5, ai_ cy n1 40 fk, ai_ cy n2 40 fs, ai_ cy n3 40 fe, ai_ cy n4 40 fw, ai_ cy n5 40 fp, ob0_0_ xc xn xk clo cro c4 c5 c6 c7 c8, aq_ cy 6 clo 12 (gf_ rl), ai_ cy (rl 0) 12 (eMl_6 0), ai_ cy (rl 1) 12 (eMl_6 1), ai_ cy (rl 2) 12 (eMl_6 2), ai_ cy (rl 3) 12 (eMl_6 3), ai_ cy (rl 4) 12 (eMl_6 4), ai_ cy (rl 5) 12 (eMl_6 5), ai_ cy (rl 6) 12 (eMl_6 6), ai_ cy (rl 7) 12 (eMl_6 7), ai_ cy (rl 8) 12 (eMl_6 8), ai_ cy (rl 9) 12 (eMl_6 9), ai_ cy (rl 10) 12 (eMl_6 10), ai_ cy (rl 11) 12 (eMl_6 11), aq_ cy 6 cro 12 (gf_ rr), ai_ cy (rr 0) 12 (Mr 0), ai_ cy (rr 1) 12 (Mr 1), ai_ cy (rr 2) 12 (Mr 2), ai_ cy (rr 3) 12 (Mr 3), ai_ cy (rr 4) 12 (Mr 4), ai_ cy (rr 5) 12 (Mr 5), ai_ cy (rr 6) 12 (Mr 6), ai_ cy (rr 7) 12 (Mr 7), ai_ cy (rr 8) 12 (Mr 8), ai_ cy (rr 9) 12 (Mr 9), ai_ cy (rr 10) 12 (Mr 10), ai_ cy (rr 11) 12 (Mr 11), ai_ cy c4 40 f4, ai_ cy c5 40 e5_7, ai_ cy c6 40 e6_8, ai_ cy c7 12 f7, ai_ cy c8 12 f8, aq_ cy 3 xk 5 (kf_ k0 k1 k2 k3 k4), ob6_0_ k0, ob5_0_ k1, ob9_0_ k2, ob2_0_ k3, ob8_0_ k4, ob7_0_ xh xc u1 u2 u3 u4 u5 u6 v7_12 v8_13] [0, 32, 1, 2, 3, 4, 5, 31, 33, 34, 35, 36, 37, 38, 39, 40, 41, 42, 43, 44, 45, 6, 7, 8, 9, 10, 11, 12, 13, 14, 15, 16, 17, 18, 19, 20, 21, 22, 23, 24, 25, 26, 27, 28, 29, 30] (by decide +kernel) rfl (fun hP hD => ?_)
        have hds_ := g_14
        have hdv_ := dS_v hds_ hB0_ (p2_le hvp) (Nat.ne_of_gt (Nat.two_pow_pos _))
        rw [hWe_] at hds_ hdv_
        refine lv_iload_n hx hb dB_36_3_20.1.2.1.1 rfl (lv_at hl 1 rfl) ?_
        refine lv_if_ne (tgt := 52) hx hb dB_36_3_20.1.2.1.2 (by decide) (fun c_15 => ?_) (fun c_15 => ?_)
        · have t_15 : ¬ a1.toInt = (0 : Int32).toInt := fun h => c_15 (Int32.toInt_inj.mp h)
          refine lv_iload_n hx hb dB_36_3_20.2.1.2.1 rfl (lv_at hl 1 rfl) ?_
          refine lv_iconst (v := 1) hx hb dB_36_3_20.2.1.2.2 (by decide) ?_
          refine lv_icmp_ne (tgt := 67) hx hb dB_36_3_20.2.2.1.1 (by decide) (fun c_16 => ?_) (fun c_16 => ?_)
          · have t_16 : ¬ a1.toInt = (1 : Int32).toInt := fun h => c_16 (Int32.toInt_inj.mp h)
            have h7_ := hdv_.1
            refine lv_aload_n hx hb dB_36_3_21.1.2.1 rfl (lv_at hl 0 rfl) ?_
            refine va_get (ci := 11) (v := .ref xh) (C := RX11) (T := TX11) (N := 12) hx hb hts (fun _ h => List.mem_cons_of_mem _ (List.mem_append_left _ (List.mem_append_left _ (List.mem_append_left _ (List.mem_append_right _ h))))) hown hK.1 hP 0 rfl rfl 3 (by decide) (hts (.fieldLink RX11 49 "CutAtlas" "hunt" "LCutAtlas$SetHunt;") (List.mem_of_getElem? (i := 3) rfl)) (fun _ h9 => h9) rfl dB_36_3_21.1.2.2 ?_
            refine va_get (ci := 7) (v := .int v7_12) (C := RX7) (T := TX7) (N := 9) hx hb hts (fun _ h => List.mem_cons_of_mem _ (List.mem_append_left _ (List.mem_append_left _ (List.mem_append_right _ h)))) hown hK.1 hP 45 rfl rfl 7 (by decide) (hts (.fieldLink RX11 236 "CutAtlas$SetHunt" "denseSet" "I") (List.mem_of_getElem? (i := 4) rfl)) (fun _ h9 => h9) rfl dB_36_3_21.2.1 ?_
            refine ct_R hP hD [] [] (by decide) rfl (fun hPc hDw => ?_)
            have hFc := va_free (wc := []) hD hS hA [] rfl
            refine va_calli (va_runS (As := [.int v7_12]) (rest := []) ⟨hx, hb, hml, hown, hts⟩ (c_J6_bitCount2 l D cy H.size v7_12 (by first | with_reducible assumption | omega | assumption)) (va_cwS 1 hts gX11_dense_J6_bitCount_0f7a4 rfl rfl rfl hd_J6_bitCount_0f7a4 ⟨Nat.le_of_ble_eq_true rfl, Nat.le_of_ble_eq_true rfl⟩) ⟨bl_, fun U hU hW => ⟨rfl, by rw [hU], by rw [hU]; exact hPc, kk_mv hW hK, hDw⟩⟩ rfl rfl hl.1 rfl (lv_room (Nat.le_of_ble_eq_true rfl)) dB_36_3_21.2.2.1 ⟨Nat.le_of_ble_eq_true rfl, Nat.le_of_ble_eq_true rfl⟩) hS (fun q _ h => hFc q h) hFc (fun r_17 u t H locs ht hvm hw hB hz1 hk1 hS => ?_)
            have hP : va_P D vwCl _ H := ro_keep hP hk1
            obtain ⟨f0_r_17, f1_r_17⟩ := hw
            first | (have hbc_ := f0_r_17.trans hdv_.2.1) | skip
            rw [hQ]
            exact W.iret (v := r_17) hx hb hr (fun t ht hW => ⟨⟨r_17, (), rfl, (by first | exact ⟨fun _ => ⟨fun h => absurd h (by omega), fun h => absurd h (by omega), fun _ => hbc_⟩, fun h => absurd hdn0_ h⟩ | exact ⟨fun _ => ⟨fun h => absurd h (by omega), fun _ => hrt_, fun h => absurd h (by omega)⟩, fun h => absurd hdn0_ h⟩), eMl_6, Mr, f4, e5_7, e6_8, f7, f8, v7_12, v8_13, (by first | with_reducible assumption | assumption | exact rng_zero (by omega) (by omega) | omega), (by first | with_reducible assumption | assumption | exact rng_zero (by omega) (by omega) | omega), by rw [ht]; exact hP, hD⟩, hS.F ht⟩) hS.2.2 dB_36_3_21.2.2.2
          · have t_16 : a1.toInt = (1 : Int32).toInt := congrArg Int32.toInt c_16
            have hrt_ := hds_.2
            refine lv_aload_n hx hb dB_36_3_20.2.2.1.2 rfl (lv_at hl 0 rfl) ?_
            refine va_get (ci := 11) (v := .ref xh) (C := RX11) (T := TX11) (N := 12) hx hb hts (fun _ h => List.mem_cons_of_mem _ (List.mem_append_left _ (List.mem_append_left _ (List.mem_append_left _ (List.mem_append_right _ h))))) hown hK.1 hP 0 rfl rfl 3 (by decide) (hts (.fieldLink RX11 49 "CutAtlas" "hunt" "LCutAtlas$SetHunt;") (List.mem_of_getElem? (i := 3) rfl)) (fun _ h9 => h9) rfl dB_36_3_20.2.2.2.1 ?_
            refine va_get (ci := 7) (v := .int v8_13) (C := RX7) (T := TX7) (N := 9) hx hb hts (fun _ h => List.mem_cons_of_mem _ (List.mem_append_left _ (List.mem_append_left _ (List.mem_append_right _ h)))) hown hK.1 hP 45 rfl rfl 8 (by decide) (hts (.fieldLink RX11 239 "CutAtlas$SetHunt" "denseSum" "I") (List.mem_of_getElem? (i := 5) rfl)) (fun _ h9 => h9) rfl dB_36_3_20.2.2.2.2 ?_
            refine lv_goto (tgt := 77) hx hb dB_36_3_21.1.1 (by decide) ?_
            first | (have hbc_ := f0_v8_13.trans hdv_.2.1) | skip
            rw [hQ]
            exact W.iret (v := v8_13) hx hb hr (fun t ht hW => ⟨⟨v8_13, (), rfl, (by first | exact ⟨fun _ => ⟨fun h => absurd h (by omega), fun h => absurd h (by omega), fun _ => hbc_⟩, fun h => absurd hdn0_ h⟩ | exact ⟨fun _ => ⟨fun h => absurd h (by omega), fun _ => hrt_, fun h => absurd h (by omega)⟩, fun h => absurd hdn0_ h⟩), eMl_6, Mr, f4, e5_7, e6_8, f7, f8, v7_12, v8_13, (by first | with_reducible assumption | assumption | exact rng_zero (by omega) (by omega) | omega), (by first | with_reducible assumption | assumption | exact rng_zero (by omega) (by omega) | omega), by rw [ht]; exact hP, hD⟩, hS.F ht⟩) hS.2.2 dB_36_3_21.2.2.2
        · have t_15 : a1.toInt = (0 : Int32).toInt := congrArg Int32.toInt c_15
          refine lv_aload_n hx hb dB_36_3_20.1.2.2.1 rfl (lv_at hl 0 rfl) ?_
          refine va_get (ci := 11) (v := .ref xh) (C := RX11) (T := TX11) (N := 12) hx hb hts (fun _ h => List.mem_cons_of_mem _ (List.mem_append_left _ (List.mem_append_left _ (List.mem_append_left _ (List.mem_append_right _ h))))) hown hK.1 hP 0 rfl rfl 3 (by decide) (hts (.fieldLink RX11 49 "CutAtlas" "hunt" "LCutAtlas$SetHunt;") (List.mem_of_getElem? (i := 3) rfl)) (fun _ h9 => h9) rfl dB_36_3_20.1.2.2.2 ?_
          refine va_get (ci := 7) (v := .int v7_12) (C := RX7) (T := TX7) (N := 9) hx hb hts (fun _ h => List.mem_cons_of_mem _ (List.mem_append_left _ (List.mem_append_left _ (List.mem_append_right _ h)))) hown hK.1 hP 45 rfl rfl 7 (by decide) (hts (.fieldLink RX11 236 "CutAtlas$SetHunt" "denseSet" "I") (List.mem_of_getElem? (i := 4) rfl)) (fun _ h9 => h9) rfl dB_36_3_20.2.1.1.1 ?_
          rw [hQ]
          exact W.iret (v := v7_12) hx hb hr (fun t ht hW => ⟨⟨v7_12, (), rfl, (⟨fun _ => ⟨fun _ => hds_.1, fun h => absurd h (by omega), fun h => absurd h (by omega)⟩, fun h => absurd hdn0_ h⟩), eMl_6, Mr, f4, e5_7, e6_8, f7, f8, v7_12, v8_13, (by first | with_reducible assumption | assumption | exact rng_zero (by omega) (by omega) | omega), (by first | with_reducible assumption | assumption | exact rng_zero (by omega) (by omega) | omega), by rw [ht]; exact hP, hD⟩, hS.F ht⟩) hS.2.2 dB_36_3_20.2.1.1.2
      · have t_4 : r_3.toInt = (0 : Int32).toInt := congrArg Int32.toInt c_4
        refine lv_bipush (v := (-2)) hx hb dB_36_3_19.2.1.2.2 (by decide) ?_
        rw [hQ]
        exact W.iret (v := (-2)) hx hb hr (fun t ht hW => ⟨⟨(-2), (), rfl, (⟨fun h => absurd h (by unfold dnI; (repeat' (first | with_reducible refine if_n (by omega) ?_ | with_reducible refine if_ns (by omega) ?_ | with_reducible refine if_nz (by omega) ?_ | with_reducible exact if_p (by omega) (by omega) | with_reducible exact if_ps (by omega) (by omega) | with_reducible exact if_pz (by omega) (by omega))) <;> omega), fun _ => (by unfold dnI; (repeat' (first | with_reducible refine if_n (by omega) ?_ | with_reducible refine if_ns (by omega) ?_ | with_reducible refine if_nz (by omega) ?_ | with_reducible exact if_p (by omega) (by omega) | with_reducible exact if_ps (by omega) (by omega) | with_reducible exact if_pz (by omega) (by omega))) <;> omega)⟩), Ml, Mr, f4, f5, f6, f7, f8, u7, u8, (by first | with_reducible assumption | assumption | exact rng_zero (by omega) (by omega) | omega), (by first | with_reducible assumption | assumption | exact rng_zero (by omega) (by omega) | omega), by rw [ht]; exact hP, hD⟩, hS.F ht⟩) hS.2.2 dB_36_3_19.2.2.1.1
    · have t_2 : ¬ a1.toInt ≤ (2 : Int32).toInt := fun h => c_2 (Int32.le_iff_toInt_le.mpr h)
      refine lv_iconst (v := (-1)) hx hb dB_36_3_19.1.2.1.2 (by decide) ?_
      rw [hQ]
      exact W.iret (v := (-1)) hx hb hr (fun t ht hW => ⟨⟨(-1), (), rfl, (⟨fun h => absurd h (by unfold dnI; (repeat' (first | with_reducible refine if_n (by omega) ?_ | with_reducible refine if_ns (by omega) ?_ | with_reducible refine if_nz (by omega) ?_ | with_reducible exact if_p (by omega) (by omega) | with_reducible exact if_ps (by omega) (by omega) | with_reducible exact if_pz (by omega) (by omega))) <;> omega), fun _ => (by unfold dnI; (repeat' (first | with_reducible refine if_n (by omega) ?_ | with_reducible refine if_ns (by omega) ?_ | with_reducible refine if_nz (by omega) ?_ | with_reducible exact if_p (by omega) (by omega) | with_reducible exact if_ps (by omega) (by omega) | with_reducible exact if_pz (by omega) (by omega))) <;> omega)⟩), Ml, Mr, f4, f5, f6, f7, f8, u7, u8, (by first | with_reducible assumption | assumption | exact rng_zero (by omega) (by omega) | omega), (by first | with_reducible assumption | assumption | exact rng_zero (by omega) (by omega) | omega), by rw [ht]; exact hP, hD⟩, hS.F ht⟩) hS.2.2 dB_36_3_19.1.2.2.1
end

section
set_option maxHeartbeats 4000000 in
set_option maxRecDepth 100000 in
theorem c_X12_dense2 (l : Launch) (D : va_G) (cy : Nat → ClassId) (sz : Nat) (mo : Nat) (g5 : Nat) (g6 : Nat) (g7 : Nat) (g8 : Nat) (g9 : Nat) (g10 : Nat) (g12 : Nat) (g13 : Nat) (g14 : Nat) (g15 : Nat) (g16 : Nat) (g17 : Nat) (g18 : Nat) (g19 : Nat) (g20 : Nat) (g22 : Nat) (g23 : Nat) (g24 : Nat) (g29 : Nat) (g30 : Nat) (g31 : Nat) (g32 : Nat) (g33 : Nat) (s0 : Int32) (s1 : Int32) (s3 : Int32) (s4 : Int32) (s11 : Int32) (s21 : Int32) (s25 : Int32) (s26 : Int32) (s27 : Int32) (s28 : Int32) (t2 : Int64) (f5 : Nat → Int32) (f6 : Nat → Int32) (f7 : Nat → Int32) (f8 : Nat → Int32) (f10 : Nat → Int32) (a1 : Int32) (hN : 0 ≤ s4.toInt ∧ s4.toInt ≤ 40) (hPl : 0 ≤ s3.toInt ∧ s3.toInt ≤ 12) (h21 : s21 = (-9)) (hnet : netE s3.toInt s4.toInt f6 f7 f10) (r_f6 : rng f6 40 (0) (11)) (r_f7 : rng f7 40 (0) (11)) (r_f8 : rng f8 40 (0) (2000)) : Met l yX12_dense wsX12_dense ({ frames := 1, cells := 0, slots := 0, locals := 25 }) (va_Pc [.ref mo, .int a1] (fun U => U.heap.size = sz ∧ va_P D vwCl [ob12_0_ mo s0 s1 t2 s3 s4 g5 g6 g7 g8 g9 g10 s11 g12 g13 g14 g15 g16 g17 g18 g19 g20 s21 g22 g23 g24 s25 s26 s27 s28 g29 g30 g31 g32 g33, ai_ cy g5 40 f5, ai_ cy g6 40 f6, ai_ cy g7 40 f7, ai_ cy g8 40 f8, az_ cy g10 40 f10] U.heap ∧ kk_ D cy U ∧ va_D (fun _ => True) [ob12_0_ mo s0 s1 t2 s3 s4 g5 g6 g7 g8 g9 g10 s11 g12 g13 g14 g15 g16 g17 g18 g19 g20 s21 g22 g23 g24 s25 s26 s27 s28 g29 g30 g31 g32 g33, ai_ cy g5 40 f5, ai_ cy g6 40 f6, ai_ cy g7 40 f7, ai_ cy g8 40 f8, az_ cy g10 40 f10])) (va_Qi (fun (r : Int32) (_ : Unit) => ((dnI a1.toInt s3.toInt (sumI (bkR f5 f10) s4.toNatClampNeg) = 0 → dnA (wLn f8 (kF f10) f6 f7 s4.toNatClampNeg) s3.toNatClampNeg a1.toInt r) ∧ (dnI a1.toInt s3.toInt (sumI (bkR f5 f10) s4.toNatClampNeg) ≠ 0 → r.toInt = dnI a1.toInt s3.toInt (sumI (bkR f5 f10) s4.toNatClampNeg)))) (fun (_ : Unit) (t : State) => va_P D vwCl [ob12_0_ mo 0 s1 t2 s3 s4 g5 g6 g7 g8 g9 g10 s11 g12 g13 g14 g15 g16 g17 g18 g19 g20 s21 g22 g23 g24 s25 s26 s27 s28 g29 g30 g31 g32 g33, ai_ cy g5 40 f5, ai_ cy g6 40 f6, ai_ cy g7 40 f7, ai_ cy g8 40 f8, az_ cy g10 40 f10] t.heap ∧ va_D (va_A [ob12_0_ mo s0 s1 t2 s3 s4 g5 g6 g7 g8 g9 g10 s11 g12 g13 g14 g15 g16 g17 g18 g19 g20 s21 g22 g23 g24 s25 s26 s27 s28 g29 g30 g31 g32 g33, ai_ cy g5 40 f5, ai_ cy g6 40 f6, ai_ cy g7 40 f7, ai_ cy g8 40 f8, az_ cy g10 40 f10] sz) [ob12_0_ mo 0 s1 t2 s3 s4 g5 g6 g7 g8 g9 g10 s11 g12 g13 g14 g15 g16 g17 g18 g19 g20 s21 g22 g23 g24 s25 s26 s27 s28 g29 g30 g31 g32 g33, ai_ cy g5 40 f5, ai_ cy g6 40 f6, ai_ cy g7 40 f7, ai_ cy g8 40 f8, az_ cy g10 40 f10]) (va_A [ob12_0_ mo s0 s1 t2 s3 s4 g5 g6 g7 g8 g9 g10 s11 g12 g13 g14 g15 g16 g17 g18 g19 g20 s21 g22 g23 g24 s25 s26 s27 s28 g29 g30 g31 g32 g33, ai_ cy g5 40 f5, ai_ cy g6 40 f6, ai_ cy g7 40 f7, ai_ cy g8 40 f8, az_ cy g10 40 f10] sz)) 0 0 (va_A [ob12_0_ mo s0 s1 t2 s3 s4 g5 g6 g7 g8 g9 g10 s11 g12 g13 g14 g15 g16 g17 g18 g19 g20 s21 g22 g23 g24 s25 s26 s27 s28 g29 g30 g31 g32 g33, ai_ cy g5 40 f5, ai_ cy g6 40 f6, ai_ cy g7 40 f7, ai_ cy g8 40 f8, az_ cy g10 40 f10] sz) := by
  refine ofQ (cc := cX12_dense) (maxL := 8) (ret := (some .int)) (by decide) rfl ?_
  intro p e s m args below meth c s₁ Q hQ B hml hv
  obtain ⟨rfl, hsz, hP, hK, hD0⟩ := hv
  have hx := B.exec
  have hb := B.bytes
  have hr := B.returns
  have hts := atoms_spec (ws := wsX12_dense) B.pre
  have hown : s.vm.findClass RX12 = some m.cls := by have h_ := findClass_of_methodNamed B.named; exact h_
  have hlocks := B.notSynchronized
  subst hsz
  have hD := hD0.self (sz := s.heap.size)
  generalize hAe : va_A [ob12_0_ mo s0 s1 t2 s3 s4 g5 g6 g7 g8 g9 g10 s11 g12 g13 g14 g15 g16 g17 g18 g19 g20 s21 g22 g23 g24 s25 s26 s27 s28 g29 g30 g31 g32 g33, ai_ cy g5 40 f5, ai_ cy g6 40 f6, ai_ cy g7 40 f7, ai_ cy g8 40 f8, az_ cy g10 40 f10] s.heap.size = A at hD hQ
  have hA : ∀ q : Nat, s.heap.size ≤ q → A q := fun q h => by rw [← hAe]; exact Or.inr h
  have hS : va_S A s.heap s.heap [] := va_S.rf
  have hl := lv_entry ([.ref mo, .int a1]) (n := 8) (Nat.le_of_ble_eq_true rfl)
  rw [lg_entry_eq]
  generalize (lg_sl ([.ref mo, .int a1]) ++ List.replicate (8 - (lg_sl ([.ref mo, .int a1])).length) Slot.unset).toArray = ls at hl ⊢
  have hl : lv_has ls 8 [(0, .ref mo), (1, .int a1)] := hl
  have zm2 : ((-2) : Int32).toInt = -2 := by decide
  have zm1 : ((-1) : Int32).toInt = -1 := by decide
  have z0 : (0 : Int32).toInt = 0 := by decide
  have zl0 : (0 : Int64).toInt = 0 := by decide
  have z1 : (1 : Int32).toInt = 1 := by decide
  have zl2 : (2 : Int64).toInt = 2 := by decide
  have zq0 : (0 : Int32).toInt = 0 := by decide
  have zq1 : (1 : Int32).toInt = 1 := by decide
  have zq2 : (2 : Int32).toInt = 2 := by decide
  have zq3 : (3 : Int32).toInt = 3 := by decide
  have zq4 : (4 : Int32).toInt = 4 := by decide
  have zq5 : (5 : Int32).toInt = 5 := by decide
  have zqm9 : ((-9) : Int32).toInt = -9 := by decide
  have zqm1 : ((-1) : Int32).toInt = -1 := by decide
  have zqm2 : ((-2) : Int32).toInt = -2 := by decide
  have cs_ := clI (i := s3) (by omega)
  have cN_ := clI (i := s4) (by omega)
  have hp2_ := p2_le (P := s3) (by omega)
  have zl0_ : (0 : Int64).toInt = 0 := by decide
  have hW0_ : wLn f8 (kF f10) f6 f7 s4.toNatClampNeg 0 = 0 := wLn_0 (fun l hl => by have h_ := r_f6 l (by omega); have c_ := clI (i := f6 l) h_.1; unfold nF; omega)
  refine lv_aload_n hx hb dB_3_2_27.1.1.1.1 rfl (lv_at hl 0 rfl) ?_
  refine lv_iconst (v := 0) hx hb dB_3_2_27.1.1.1.2 (by decide) ?_
  refine va_put (ci := 12) (v := .int 0) (ty := .int) (C := RX12) (T := TX12) (N := 34) hx hb hts (fun _ h => List.mem_cons_of_mem _ (List.mem_append_right _ h)) tyX12 tyX12_ok nmX12 hown hK.1 hP hD hS 0 rfl rfl 0 (by decide) (hts (.fieldLink RX12 85 "CutAtlasModel" "thrown" "I") (List.mem_of_getElem? (i := 1) rfl)) (fun _ h9 => h9) rfl (by decide +kernel) rfl rfl (Nat.le_of_ble_eq_true rfl) dB_3_2_27.1.1.2.1 (fun H locs hP hD hS => ?_)
  refine pd_K [ob12_0_ mo 0 s1 t2 s3 s4 g5 g6 g7 g8 g9 g10 s11 g12 g13 g14 g15 g16 g17 g18 g19 g20 s21 g22 g23 g24 s25 s26 s27 s28 g29 g30 g31 g32 g33, ai_ cy g5 40 f5, ai_ cy g6 40 f6, ai_ cy g7 40 f7, ai_ cy g8 40 f8, az_ cy g10 40 f10] hP hD (fun hP hD => ?_)
  refine lv_iload_n hx hb dB_3_2_27.1.1.2.2 rfl (lv_at hl 1 rfl) ?_
  refine lv_i2l (v := a1.toInt64) hx hb dB_3_2_27.1.2.1.1 rfl ?_
  have q_6 : (a1.toInt64).toInt = a1.toInt := Int32.toInt_toInt64 a1
  refine lv_lconst (v := 0) hx hb dB_3_2_27.1.2.1.2 (by decide) ?_
  refine lv_ldc2 (v := 2) hx hb hown (hts (.constantLong RX12 149 (2)) (List.mem_of_getElem? (i := 2) rfl)) dB_3_2_27.1.2.2.1 ?_
  refine ct_R hP hD [] [] (by decide) rfl (fun hPc hDw => ?_)
  have hFc := va_free (wc := []) hD hS hA [] rfl
  refine va_calli (va_runS (As := [.long a1.toInt64, .long 0, .long 2]) (rest := []) ⟨hx, hb, hml, hown, hts⟩ (c_X12_in l D cy H.size a1.toInt64 (0 : Int64) (2 : Int64)) (va_cwS 3 hts gX12_dense_X12_in rfl rfl rfl hd_X12_in ⟨Nat.le_of_ble_eq_true rfl, Nat.le_of_ble_eq_true rfl⟩) ⟨bl_, fun U hU hW => ⟨rfl, by rw [hU], by rw [hU]; exact hPc, kk_mv hW hK, hDw⟩⟩ rfl rfl hl.1 rfl (lv_room (Nat.le_of_ble_eq_true rfl)) dB_3_2_27.1.2.2.2 ⟨Nat.le_of_ble_eq_true rfl, Nat.le_of_ble_eq_true rfl⟩) hS (fun q _ h => hFc q h) hFc (fun r_1 u t H locs ht hvm hw hB hz1 hk1 hS => ?_)
  have hP : va_P D vwCl _ H := ro_keep hP hk1
  rcases hw with ⟨w_2, e_⟩ | ⟨w_2, e_⟩
  · have e_ := e_.symm
    subst e_
    refine lv_if_ne (tgt := 19) hx hb dB_3_2_27.2.1.1.1 (by decide) (fun c_3 => ?_) (fun c_3 => ?_)
    · have _ := c_3
      refine lv_aload_n hx hb dB_3_2_27.2.1.2.2 rfl (lv_at hl 0 rfl) ?_
      refine ct_R hP hD [ob12_0_ mo 0 s1 t2 s3 s4 g5 g6 g7 g8 g9 g10 s11 g12 g13 g14 g15 g16 g17 g18 g19 g20 s21 g22 g23 g24 s25 s26 s27 s28 g29 g30 g31 g32 g33, ai_ cy g5 40 f5, az_ cy g10 40 f10] [0, 1, 5] (by decide) rfl (fun hPc hDw => ?_)
      have hFc := va_free (wc := []) hD hS hA [] rfl
      refine va_calli (va_runV (As := []) (rest := []) ⟨hx, hb, hml, hown, hts⟩ (c_X12_isWhole2 l D cy H.size mo g5 g6 g7 g8 g9 g10 g12 g13 g14 g15 g16 g17 g18 g19 g20 g22 g23 g24 g29 g30 g31 g32 g33 (0 : Int32) s1 s3 s4 s11 s21 s25 s26 s27 s28 t2 f5 f10 (by first | with_reducible assumption | omega | assumption)) (cwV 0 hts gX12_dense_X12_isWhole rfl rfl rfl ⟨rfl, hd_X12_isWhole⟩ ⟨Nat.le_of_ble_eq_true rfl, Nat.le_of_ble_eq_true rfl⟩) ⟨bl_, va_recvX hK.1 hP (ci := 12) (q0 := 0) rfl rfl, fun U hU hW => ⟨rfl, by rw [hU], by rw [hU]; exact hPc, kk_mv hW hK, hDw⟩⟩ rfl rfl hl.1 rfl (lv_room (Nat.le_of_ble_eq_true rfl)) dB_3_2_27.2.2.1.1 ⟨Nat.le_of_ble_eq_true rfl, Nat.le_of_ble_eq_true rfl⟩) hS (fun q _ h => hFc q h) hFc (fun r_4 u t H locs ht hvm hw hB hz1 hk1 hS => ?_)
      have hP : va_P D vwCl _ H := ro_keep hP hk1
      obtain ⟨f0_r_4, f1_r_4⟩ := hw
      have hw1_ := f1_r_4
      refine lv_if_ne (tgt := 29) hx hb dB_3_2_27.2.2.1.2 (by decide) (fun c_5 => ?_) (fun c_5 => ?_)
      · have t_5 : ¬ r_4.toInt = (0 : Int32).toInt := fun h => c_5 (Int32.toInt_inj.mp h)
        have hwb_ := whI_1 (P := s3.toInt) (c := sumI (bkR f5 f10) s4.toNatClampNeg) (by omega)
        have hdn0_ : dnI a1.toInt s3.toInt (sumI (bkR f5 f10) s4.toNatClampNeg) = 0 := by unfold dnI; (repeat' (first | with_reducible refine if_n (by omega) ?_ | with_reducible refine if_ns (by omega) ?_ | with_reducible refine if_nz (by omega) ?_ | with_reducible exact if_p (by omega) (by omega) | with_reducible exact if_ps (by omega) (by omega) | with_reducible exact if_pz (by omega) (by omega))) <;> omega
        have hp1_ : 1 ≤ 2 ^ s3.toNatClampNeg := Nat.one_le_two_pow
        refine lv_iconst (v := 0) hx hb dB_3_2_28.1.1.1.1 (by decide) ?_
        refine lv_istore_n (lv' := [(2, .int 0), (0, .ref mo), (1, .int a1)]) hx hb dB_3_2_28.1.1.1.2 rfl hl (by decide) rfl (fun ls hl => ?_)
        refine lv_iconst (v := 0) hx hb dB_3_2_28.1.1.2.1 (by decide) ?_
        refine lv_istore_n (lv' := [(3, .int 0), (2, .int 0), (0, .ref mo), (1, .int a1)]) hx hb dB_3_2_28.1.1.2.2 rfl hl (by decide) rfl (fun ls hl => ?_)
        refine lv_iconst (v := 1) hx hb dB_3_2_28.1.2.1.1 (by decide) ?_
        refine lv_istore (lv' := [(4, .int 1), (3, .int 0), (2, .int 0), (0, .ref mo), (1, .int a1)]) hx hb dB_3_2_28.1.2.1.2 hl (by decide) rfl (fun ls hl => ?_)
        suffices LOOP_6 : ∀ (n_6 : Nat) (x4_6 : Int32) (x3_6 : Int32) (x2_6 : Int32) (H : Heap) (locs : List Loc) (ls : Array Slot), 4100 - x4_6.toInt < (n_6 : Int) → (1 ≤ x4_6.toInt) → (x4_6.toInt ≤ ((2 ^ s3.toNatClampNeg : Nat) : Int)) → (dS_ (wLn f8 (kF f10) f6 f7 s4.toNatClampNeg) bN x4_6.toNatClampNeg x2_6 x3_6) → pd_2 D vwCl A [ob12_0_ mo 0 s1 t2 s3 s4 g5 g6 g7 g8 g9 g10 s11 g12 g13 g14 g15 g16 g17 g18 g19 g20 s21 g22 g23 g24 s25 s26 s27 s28 g29 g30 g31 g32 g33, ai_ cy g5 40 f5, ai_ cy g6 40 f6, ai_ cy g7 40 f7, ai_ cy g8 40 f8, az_ cy g10 40 f10] H → va_S A s.heap H locs → lv_has ls 8 [(4, .int x4_6), (3, .int x3_6), (2, .int x2_6), (0, .ref mo), (1, .int a1)] → W p l e ({ frames := 1, cells := 0, slots := 0, locals := 25 } : Room) s m (([.ref mo, .int a1] : List Value).toArray) below meth c H locs 0 0 Q (F0 m 36 ls []) from LOOP_6 ((4100 - (1 : Int32).toInt).toNat + 1) (1 : Int32) (0 : Int32) (0 : Int32) _ _ _ (by omega) (by first | with_reducible assumption | omega | assumption) (by first | omega | exact Int.ofNat_le.mpr hp1_) (by first | exact dS_1 hW0_ | exact hds2_ _ (by omega)) ⟨hP, hD⟩ hS (lv_sub hl [0, 1, 2, 3, 4] rfl)
        intro n_6
        induction n_6 with
        | zero =>
          intro x4_6 x3_6 x2_6 H locs ls hm v0_6 v1_6 v2_6 hPD hS hl; obtain ⟨hP, hD⟩ := hPD
          exact absurd hm (by omega)
        | succ n_6 ih_6 =>
          intro x4_6 x3_6 x2_6 H locs ls hm v0_6 v1_6 v2_6 hPD hS hl; obtain ⟨hP, hD⟩ := hPD
          refine lv_iload hx hb dB_3_2_28.1.2.2.1 (lv_at hl 0 rfl) ?_
          refine lv_iconst (v := 1) hx hb dB_3_2_28.1.2.2.2 (by decide) ?_
          refine lv_aload_n hx hb dB_3_2_28.2.1.1.1 rfl (lv_at hl 3 rfl) ?_
          refine va_get (ci := 12) (v := .int s3) (C := RX12) (T := TX12) (N := 34) hx hb hts (fun _ h => List.mem_cons_of_mem _ (List.mem_append_right _ h)) hown hK.1 hP 0 rfl rfl 3 (by decide) (hts (.fieldLink RX12 88 "CutAtlasModel" "places" "I") (List.mem_of_getElem? (i := 3) rfl)) (fun _ h9 => h9) rfl dB_3_2_28.2.1.1.2 ?_
          refine lv_ishl hx hb dB_3_2_28.2.1.2.1 ?_
          refine lv_topi (fun y_7 ey_7 => ?_)
          have ty_7 : (1 ≤ y_7.toInt ∧ y_7.toInt ≤ 4096) ∧ y_7.toInt = ((2 ^ s3.toNatClampNeg : Nat) : Int) := ⟨by rw [ey_7]; exact shl1 (by omega) (by omega), shl_E (by omega) ey_7⟩
          refine lv_icmp_ge (tgt := 189) hx hb dB_3_2_28.2.1.2.2 (by decide) (fun c_8 => ?_) (fun c_8 => ?_)
          · have t_8 : y_7.toInt ≤ x4_6.toInt := Int32.le_iff_toInt_le.mp c_8
            have hds_ : dS_ (wLn f8 (kF f10) f6 f7 s4.toNatClampNeg) bN (2 ^ s3.toNatClampNeg) x2_6 x3_6 := dS_to v2_6 (by have c_ := clI (i := x4_6) (by omega); omega)
            have hdw_ := dS_v hds_ hW0_ (by omega) (Nat.ne_of_gt (Nat.two_pow_pos _))
            refine lv_iload_n hx hb dB_3_3_19.1.1.1 rfl (lv_at hl 4 rfl) ?_
            refine lv_if_ne (tgt := 197) hx hb dB_3_3_19.1.1.2.1 (by decide) (fun c_9 => ?_) (fun c_9 => ?_)
            · have t_9 : ¬ a1.toInt = (0 : Int32).toInt := fun h => c_9 (Int32.toInt_inj.mp h)
              refine lv_iload_n hx hb dB_3_3_19.1.2.2.1 rfl (lv_at hl 4 rfl) ?_
              refine lv_iconst (v := 1) hx hb dB_3_3_19.1.2.2.2 (by decide) ?_
              refine lv_icmp_ne (tgt := 206) hx hb dB_3_3_19.2.1.1 (by decide) (fun c_10 => ?_) (fun c_10 => ?_)
              · have t_10 : ¬ a1.toInt = (1 : Int32).toInt := fun h => c_10 (Int32.toInt_inj.mp h)
                refine lv_iload_n hx hb dB_3_3_19.2.2.1 rfl (lv_at hl 2 rfl) ?_
                refine ct_R hP hD [] [] (by decide) rfl (fun hPc hDw => ?_)
                have hFc := va_free (wc := []) hD hS hA [] rfl
                refine va_calli (va_runS (As := [.int x2_6]) (rest := []) ⟨hx, hb, hml, hown, hts⟩ (c_X12_bitsOf2 l D cy H.size x2_6) (va_cwS 1 hts gX12_dense_X12_bitsOf rfl rfl rfl hd_X12_bitsOf ⟨Nat.le_of_ble_eq_true rfl, Nat.le_of_ble_eq_true rfl⟩) ⟨bl_, fun U hU hW => ⟨rfl, by rw [hU], by rw [hU]; exact hPc, kk_mv hW hK, hDw⟩⟩ rfl rfl hl.1 rfl (lv_room (Nat.le_of_ble_eq_true rfl)) dB_3_3_19.2.2.2.1 ⟨Nat.le_of_ble_eq_true rfl, Nat.le_of_ble_eq_true rfl⟩) hS (fun q _ h => hFc q h) hFc (fun r_11 u t H locs ht hvm hw hB hz1 hk1 hS => ?_)
                have hP : va_P D vwCl _ H := ro_keep hP hk1
                obtain ⟨f0_r_11, f1_r_11⟩ := hw
                first | (have hbc_ := f0_r_11.trans hdw_.2.1) | skip
                rw [hQ]
                exact W.iret (v := r_11) hx hb hr (fun t ht hW => ⟨⟨r_11, (), rfl, (by first | exact ⟨fun _ => ⟨fun h => absurd h (by omega), fun h => absurd h (by omega), fun _ => hbc_⟩, fun h => absurd hdn0_ h⟩ | exact ⟨fun _ => ⟨fun _ => hds_.1, fun h => absurd h (by omega), fun h => absurd h (by omega)⟩, fun h => absurd hdn0_ h⟩ | exact ⟨fun _ => ⟨fun h => absurd h (by omega), fun _ => hds_.2, fun h => absurd h (by omega)⟩, fun h => absurd hdn0_ h⟩), by rw [ht]; exact hP, hD⟩, hS.F ht⟩) hS.2.2 dB_3_3_19.2.2.2.2
              · have t_10 : a1.toInt = (1 : Int32).toInt := congrArg Int32.toInt c_10
                refine lv_iload_n hx hb dB_3_3_19.2.1.2.1 rfl (lv_at hl 1 rfl) ?_
                refine lv_goto (tgt := 210) hx hb dB_3_3_19.2.1.2.2 (by decide) ?_
                first | (have hbc_ := f0_x3_6.trans hdw_.2.1) | skip
                rw [hQ]
                exact W.iret (v := x3_6) hx hb hr (fun t ht hW => ⟨⟨x3_6, (), rfl, (by first | exact ⟨fun _ => ⟨fun h => absurd h (by omega), fun h => absurd h (by omega), fun _ => hbc_⟩, fun h => absurd hdn0_ h⟩ | exact ⟨fun _ => ⟨fun _ => hds_.1, fun h => absurd h (by omega), fun h => absurd h (by omega)⟩, fun h => absurd hdn0_ h⟩ | exact ⟨fun _ => ⟨fun h => absurd h (by omega), fun _ => hds_.2, fun h => absurd h (by omega)⟩, fun h => absurd hdn0_ h⟩), by rw [ht]; exact hP, hD⟩, hS.F ht⟩) hS.2.2 dB_3_3_19.2.2.2.2
            · have t_9 : a1.toInt = (0 : Int32).toInt := congrArg Int32.toInt c_9
              refine lv_iload_n hx hb dB_3_3_19.1.1.2.2 rfl (lv_at hl 2 rfl) ?_
              refine lv_goto (tgt := 210) hx hb dB_3_3_19.1.2.1 (by decide) ?_
              first | (have hbc_ := f0_x2_6.trans hdw_.2.1) | skip
              rw [hQ]
              exact W.iret (v := x2_6) hx hb hr (fun t ht hW => ⟨⟨x2_6, (), rfl, (by first | exact ⟨fun _ => ⟨fun h => absurd h (by omega), fun h => absurd h (by omega), fun _ => hbc_⟩, fun h => absurd hdn0_ h⟩ | exact ⟨fun _ => ⟨fun _ => hds_.1, fun h => absurd h (by omega), fun h => absurd h (by omega)⟩, fun h => absurd hdn0_ h⟩ | exact ⟨fun _ => ⟨fun h => absurd h (by omega), fun _ => hds_.2, fun h => absurd h (by omega)⟩, fun h => absurd hdn0_ h⟩), by rw [ht]; exact hP, hD⟩, hS.F ht⟩) hS.2.2 dB_3_3_19.2.2.2.2
          · have t_8 : ¬ y_7.toInt ≤ x4_6.toInt := fun h => c_8 (Int32.le_iff_toInt_le.mpr h)
            have c4_ := clI (i := x4_6) (by omega)
            have hdv_ := dS_v v2_6 hW0_ (by omega) (by omega)
            have hbm_ := wLn_rng (g := kF f10) (fs := f6) (fe := f7) (N := s4.toNatClampNeg) (n := (dnz (wLn f8 (kF f10) f6 f7 s4.toNatClampNeg) bN x4_6.toNatClampNeg).1) r_f8 (by omega)
            have hb2r_ := bitI_rng (x := x2_6)
            have hb4r_ := bitI_rng (x := x4_6)
            refine lv_iconst (v := 0) hx hb dB_3_2_28.2.2.1.1 (by decide) ?_
            refine lv_istore (lv' := [(5, .int 0), (4, .int x4_6), (3, .int x3_6), (2, .int x2_6), (0, .ref mo), (1, .int a1)]) hx hb dB_3_2_28.2.2.1.2 hl (by decide) rfl (fun ls hl => ?_)
            refine lv_iconst (v := 0) hx hb dB_3_2_28.2.2.2.1 (by decide) ?_
            refine lv_istore (lv' := [(6, .int 0), (5, .int 0), (4, .int x4_6), (3, .int x3_6), (2, .int x2_6), (0, .ref mo), (1, .int a1)]) hx hb dB_3_2_28.2.2.2.2 hl (by decide) rfl (fun ls hl => ?_)
            suffices LOOP_12 : ∀ (n_12 : Nat) (x6_12 : Int32) (x5_12 : Int32) (H : Heap) (locs : List Loc) (ls : Array Slot), s4.toInt - x6_12.toInt < (n_12 : Int) → (0 ≤ x6_12.toInt) → (x6_12.toInt ≤ s4.toInt) → (0 ≤ x5_12.toInt ∧ x5_12.toInt ≤ 2000 * x6_12.toInt) → (x5_12.toInt = sumI (ilI (wF f8 (-9)) (kF f10) (nF f6) (nF f7) (bt x4_6)) x6_12.toNatClampNeg) → pd_2 D vwCl A [ob12_0_ mo 0 s1 t2 s3 s4 g5 g6 g7 g8 g9 g10 s11 g12 g13 g14 g15 g16 g17 g18 g19 g20 s21 g22 g23 g24 s25 s26 s27 s28 g29 g30 g31 g32 g33, ai_ cy g5 40 f5, ai_ cy g6 40 f6, ai_ cy g7 40 f7, ai_ cy g8 40 f8, az_ cy g10 40 f10] H → va_S A s.heap H locs → lv_has ls 8 [(6, .int x6_12), (5, .int x5_12), (4, .int x4_6), (3, .int x3_6), (2, .int x2_6), (0, .ref mo), (1, .int a1)] → W p l e ({ frames := 1, cells := 0, slots := 0, locals := 25 } : Room) s m (([.ref mo, .int a1] : List Value).toArray) below meth c H locs 0 0 Q (F0 m 53 ls []) from LOOP_12 ((s4.toInt - (0 : Int32).toInt).toNat + 1) (0 : Int32) (0 : Int32) _ _ _ (by omega) (by first | with_reducible assumption | omega | assumption) (by first | with_reducible assumption | omega | assumption) (by first | with_reducible assumption | omega | assumption) (by first | exact sum_0 | exact cnt_st v_none (by omega) (by omega) (by omega)) ⟨hP, hD⟩ hS (lv_sub hl [0, 1, 2, 3, 4, 5, 6] rfl)
            intro n_12
            induction n_12 with
            | zero =>
              intro x6_12 x5_12 H locs ls hm v0_12 v1_12 v2_12 v3_12 hPD hS hl; obtain ⟨hP, hD⟩ := hPD
              exact absurd hm (by omega)
            | succ n_12 ih_12 =>
              intro x6_12 x5_12 H locs ls hm v0_12 v1_12 v2_12 v3_12 hPD hS hl; obtain ⟨hP, hD⟩ := hPD
              refine lv_iload hx hb dB_3_2_29.1.1.1.1 (lv_at hl 0 rfl) ?_
              refine lv_aload_n hx hb dB_3_2_29.1.1.1.2 rfl (lv_at hl 5 rfl) ?_
              refine va_get (ci := 12) (v := .int s4) (C := RX12) (T := TX12) (N := 34) hx hb hts (fun _ h => List.mem_cons_of_mem _ (List.mem_append_right _ h)) hown hK.1 hP 0 rfl rfl 4 (by decide) (hts (.fieldLink RX12 95 "CutAtlasModel" "lines" "I") (List.mem_of_getElem? (i := 4) rfl)) (fun _ h9 => h9) rfl dB_3_2_29.1.1.2.1 ?_
              refine lv_icmp_ge (tgt := 126) hx hb dB_3_2_29.1.1.2.2 (by decide) (fun c_13 => ?_) (fun c_13 => ?_)
              · have t_13 : s4.toInt ≤ x6_12.toInt := Int32.le_iff_toInt_le.mp c_13
                have hsum_ : x5_12.toInt = wLn f8 (kF f10) f6 f7 s4.toNatClampNeg x4_6.toNatClampNeg := by unfold wLn; rw [← nI_cl (show 0 ≤ x4_6.toInt by omega)]; exact sum_end v3_12 (by omega)
                have hbs_ := wLn_rng (g := kF f10) (fs := f6) (fe := f7) (N := s4.toNatClampNeg) (n := x4_6.toNatClampNeg) r_f8 (by omega)
                refine lv_iload hx hb dB_3_3_16.2.2.1.2 (lv_at hl 1 rfl) ?_
                refine lv_i2l (v := x5_12.toInt64) hx hb dB_3_3_16.2.2.2.1 rfl ?_
                have q_128 : (x5_12.toInt64).toInt = x5_12.toInt := Int32.toInt_toInt64 x5_12
                refine lv_iload_n hx hb dB_3_3_16.2.2.2.2 rfl (lv_at hl 4 rfl) ?_
                refine ct_R hP hD [] [] (by decide) rfl (fun hPc hDw => ?_)
                have hFc := va_free (wc := []) hD hS hA [] rfl
                refine va_calli (va_runS (As := [.int x2_6]) (rest := [.long x5_12.toInt64]) ⟨hx, hb, hml, hown, hts⟩ (c_X12_bitsOf2 l D cy H.size x2_6) (va_cwS 1 hts gX12_dense_X12_bitsOf rfl rfl rfl hd_X12_bitsOf ⟨Nat.le_of_ble_eq_true rfl, Nat.le_of_ble_eq_true rfl⟩) ⟨bl_, fun U hU hW => ⟨rfl, by rw [hU], by rw [hU]; exact hPc, kk_mv hW hK, hDw⟩⟩ rfl rfl hl.1 rfl (lv_room (Nat.le_of_ble_eq_true rfl)) dB_3_3_17.1.1.1.1 ⟨Nat.le_of_ble_eq_true rfl, Nat.le_of_ble_eq_true rfl⟩) hS (fun q _ h => hFc q h) hFc (fun r_14 u t H locs ht hvm hw hB hz1 hk1 hS => ?_)
                have hP : va_P D vwCl _ H := ro_keep hP hk1
                obtain ⟨f0_r_14, f1_r_14⟩ := hw
                refine lv_i2l (v := r_14.toInt64) hx hb dB_3_3_17.1.1.1.2 rfl ?_
                have q_133 : (r_14.toInt64).toInt = r_14.toInt := Int32.toInt_toInt64 r_14
                refine lv_lmul hx hb dB_3_3_17.1.1.2.1 ?_
                refine lv_topl (fun y_15 ey_15 => ?_)
                have hm1_ := mulLX ey_15 (by omega) (by omega)
                refine lv_iload_n hx hb dB_3_3_17.1.1.2.2 rfl (lv_at hl 3 rfl) ?_
                refine lv_i2l (v := x3_6.toInt64) hx hb dB_3_3_17.1.2.1.1 rfl ?_
                have q_136 : (x3_6.toInt64).toInt = x3_6.toInt := Int32.toInt_toInt64 x3_6
                refine lv_iload hx hb dB_3_3_17.1.2.1.2 (lv_at hl 2 rfl) ?_
                refine ct_R hP hD [] [] (by decide) rfl (fun hPc hDw => ?_)
                have hFc := va_free (wc := []) hD hS hA [] rfl
                refine va_calli (va_runS (As := [.int x4_6]) (rest := [.long x3_6.toInt64, .long y_15]) ⟨hx, hb, hml, hown, hts⟩ (c_X12_bitsOf2 l D cy H.size x4_6) (va_cwS 1 hts gX12_dense_X12_bitsOf rfl rfl rfl hd_X12_bitsOf ⟨Nat.le_of_ble_eq_true rfl, Nat.le_of_ble_eq_true rfl⟩) ⟨bl_, fun U hU hW => ⟨rfl, by rw [hU], by rw [hU]; exact hPc, kk_mv hW hK, hDw⟩⟩ rfl rfl hl.1 rfl (lv_room (Nat.le_of_ble_eq_true rfl)) dB_3_3_17.1.2.2.1 ⟨Nat.le_of_ble_eq_true rfl, Nat.le_of_ble_eq_true rfl⟩) hS (fun q _ h => hFc q h) hFc (fun r_16 u t H locs ht hvm hw hB hz1 hk1 hS => ?_)
                have hP : va_P D vwCl _ H := ro_keep hP hk1
                obtain ⟨f0_r_16, f1_r_16⟩ := hw
                refine lv_i2l (v := r_16.toInt64) hx hb dB_3_3_17.1.2.2.2 rfl ?_
                have q_142 : (r_16.toInt64).toInt = r_16.toInt := Int32.toInt_toInt64 r_16
                refine lv_lmul hx hb dB_3_3_17.2.1.1.1 ?_
                refine lv_topl (fun y_17 ey_17 => ?_)
                have hm2_ := mulLX ey_17 (by omega) (by omega)
                refine lv_lsub hx hb dB_3_3_17.2.1.1.2 ?_
                refine lv_topl (fun y_18 ey_18 => ?_)
                have hby_ := subLX ey_18 hm1_.2 hm2_.2
                have hB1_ : y_15.toInt = x5_12.toInt * bitI x2_6 := by rw [hm1_.1]; congr 1
                have hA1_ : y_17.toInt = x3_6.toInt * bitI x4_6 := by rw [hm2_.1]; congr 1
                have hif_ := dB_iff (n := x4_6.toNatClampNeg) (w := x5_12.toInt) (A := y_17.toInt) (B := y_15.toInt) (bn := bitI x4_6) (bx := bitI x2_6) v2_6 hdv_.2.1 (show bitI x4_6 = bN x4_6.toNatClampNeg by unfold bN; rw [← nI_cl (show 0 ≤ x4_6.toInt by omega)]) hsum_ hA1_ hB1_
                have hz0_ := hdv_.2.2.2
                have hbp_ : 1 ≤ bitI x4_6 := by have h_ := bN_pos (n := x4_6.toNatClampNeg) (by omega) (by omega); unfold bN at h_; rw [← nI_cl (show 0 ≤ x4_6.toInt by omega)] at h_; exact h_
                refine lv_lstore (lv' := [(6, .long y_18), (5, .int x5_12), (4, .int x4_6), (3, .int x3_6), (2, .int x2_6), (0, .ref mo), (1, .int a1)]) hx hb dB_3_3_17.2.1.2.1 hl (by decide) rfl (fun ls hl => ?_)
                refine lv_iload_n hx hb dB_3_3_17.2.1.2.2 rfl (lv_at hl 4 rfl) ?_
                refine lv_if_eq (tgt := 177) hx hb dB_3_3_17.2.2.1.1 (by decide) (fun c_19 => ?_) (fun c_19 => ?_)
                · have t_19 : x2_6.toInt = (0 : Int32).toInt := congrArg Int32.toInt c_19
                  have hds2_ : ∀ n2 : Int32, n2.toInt = x4_6.toInt + 1 → dS_ (wLn f8 (kF f10) f6 f7 s4.toNatClampNeg) bN n2.toNatClampNeg x4_6 x5_12 := fun n2 e2 => dS_to (dS_st v2_6 hsum_ (by omega) ⟨fun _ => ⟨by omega, rfl⟩, fun h => absurd (hif_.mpr (by first | omega | (have z_ := hz0_ (by omega); have y1_ : y_15.toInt = 0 := (by rw [hB1_, z_.2, Int.mul_zero]); have y2_ : y_17.toInt = 0 := (by rw [hA1_, z_.1, Int.zero_mul]); omega))) h⟩) (by have c_ := clI (i := n2) (by omega); omega)
                  refine lv_iload hx hb dB_3_3_18.2.1.2.1 (lv_at hl 2 rfl) ?_
                  refine lv_istore_n (lv' := [(2, .int x4_6), (6, .long y_18), (5, .int x5_12), (4, .int x4_6), (3, .int x3_6), (0, .ref mo), (1, .int a1)]) hx hb dB_3_3_18.2.1.2.2 rfl hl (by decide) rfl (fun ls hl => ?_)
                  refine lv_iload hx hb dB_3_3_18.2.2.1.1 (lv_at hl 2 rfl) ?_
                  refine lv_istore_n (lv' := [(3, .int x5_12), (2, .int x4_6), (6, .long y_18), (5, .int x5_12), (4, .int x4_6), (0, .ref mo), (1, .int a1)]) hx hb dB_3_3_18.2.2.1.2 rfl hl (by decide) rfl (fun ls hl => ?_)
                  first | (have hds2_ := hds2_) | (have hds2_ : ∀ n2 : Int32, n2.toInt = x4_6.toInt + 1 → dS_ (wLn f8 (kF f10) f6 f7 s4.toNatClampNeg) bN n2.toNatClampNeg x4_6 x5_12 := fun n2 e2 => dS_to (dS_st v2_6 hsum_ (by omega) ⟨fun h => absurd (hif_.mp h) (by omega), fun _ => ⟨rfl, rfl⟩⟩) (by have c_ := clI (i := n2) (by omega); omega))
                  obtain ⟨y_20, ey_20⟩ : ∃ y : Int32, y = x4_6 + 1 := ⟨_, rfl⟩
                  have ty_20 : y_20.toInt = x4_6.toInt + (1 : Int32).toInt := by rw [ey_20]; exact addI (by omega) (by omega)
                  refine lv_iinc (v := y_20) (lv' := [(4, .int y_20), (3, .int x5_12), (2, .int x4_6), (6, .long y_18), (5, .int x5_12), (0, .ref mo), (1, .int a1)]) hx hb dB_3_3_18.2.2.2.1 hl (k := 4) rfl (by rw [ey_20]; rfl) (by decide) rfl (fun ls hl => ?_)
                  refine lv_goto (tgt := 36) hx hb dB_3_3_18.2.2.2.2 (by decide) ?_
                  exact ih_6 y_20 x5_12 x4_6 _ _ _ (by omega) (by first | with_reducible assumption | omega | assumption) (by first | omega | exact Int.ofNat_le.mpr hp1_) (by first | exact dS_1 hW0_ | exact hds2_ _ (by omega)) ⟨hP, hD⟩ hS (lv_sub hl [0, 1, 2, 5, 6] rfl)
                · have t_19 : ¬ x2_6.toInt = (0 : Int32).toInt := fun h => c_19 (Int32.toInt_inj.mp h)
                  refine lv_lload hx hb dB_3_3_17.2.2.1.2 (lv_at hl 0 rfl) ?_
                  refine lv_lconst (v := 0) hx hb dB_3_3_17.2.2.2.1 (by decide) ?_
                  refine W.lcmp hx hb dB_3_3_17.2.2.2.2 ?_
                  refine lv_if_gt (tgt := 177) hx hb dB_3_3_18.1.1.1.1 (by decide) (fun c_21 => ?_) (fun c_21 => ?_)
                  · have t_21 : (0 : Int64).toInt < y_18.toInt := Int64.lt_iff_toInt_lt.mp ((lg_cmp_gt y_18 0).mp c_21)
                    have hds2_ : ∀ n2 : Int32, n2.toInt = x4_6.toInt + 1 → dS_ (wLn f8 (kF f10) f6 f7 s4.toNatClampNeg) bN n2.toNatClampNeg x4_6 x5_12 := fun n2 e2 => dS_to (dS_st v2_6 hsum_ (by omega) ⟨fun _ => ⟨by omega, rfl⟩, fun h => absurd (hif_.mpr (by first | omega | (have z_ := hz0_ (by omega); have y1_ : y_15.toInt = 0 := (by rw [hB1_, z_.2, Int.mul_zero]); have y2_ : y_17.toInt = 0 := (by rw [hA1_, z_.1, Int.zero_mul]); omega))) h⟩) (by have c_ := clI (i := n2) (by omega); omega)
                    refine lv_iload hx hb dB_3_3_18.2.1.2.1 (lv_at hl 2 rfl) ?_
                    refine lv_istore_n (lv' := [(2, .int x4_6), (6, .long y_18), (5, .int x5_12), (4, .int x4_6), (3, .int x3_6), (0, .ref mo), (1, .int a1)]) hx hb dB_3_3_18.2.1.2.2 rfl hl (by decide) rfl (fun ls hl => ?_)
                    refine lv_iload hx hb dB_3_3_18.2.2.1.1 (lv_at hl 2 rfl) ?_
                    refine lv_istore_n (lv' := [(3, .int x5_12), (2, .int x4_6), (6, .long y_18), (5, .int x5_12), (4, .int x4_6), (0, .ref mo), (1, .int a1)]) hx hb dB_3_3_18.2.2.1.2 rfl hl (by decide) rfl (fun ls hl => ?_)
                    first | (have hds2_ := hds2_) | (have hds2_ : ∀ n2 : Int32, n2.toInt = x4_6.toInt + 1 → dS_ (wLn f8 (kF f10) f6 f7 s4.toNatClampNeg) bN n2.toNatClampNeg x4_6 x5_12 := fun n2 e2 => dS_to (dS_st v2_6 hsum_ (by omega) ⟨fun h => absurd (hif_.mp h) (by omega), fun _ => ⟨rfl, rfl⟩⟩) (by have c_ := clI (i := n2) (by omega); omega))
                    obtain ⟨y_22, ey_22⟩ : ∃ y : Int32, y = x4_6 + 1 := ⟨_, rfl⟩
                    have ty_22 : y_22.toInt = x4_6.toInt + (1 : Int32).toInt := by rw [ey_22]; exact addI (by omega) (by omega)
                    refine lv_iinc (v := y_22) (lv' := [(4, .int y_22), (3, .int x5_12), (2, .int x4_6), (6, .long y_18), (5, .int x5_12), (0, .ref mo), (1, .int a1)]) hx hb dB_3_3_18.2.2.2.1 hl (k := 4) rfl (by rw [ey_22]; rfl) (by decide) rfl (fun ls hl => ?_)
                    refine lv_goto (tgt := 36) hx hb dB_3_3_18.2.2.2.2 (by decide) ?_
                    exact ih_6 y_22 x5_12 x4_6 _ _ _ (by omega) (by first | with_reducible assumption | omega | assumption) (by first | omega | exact Int.ofNat_le.mpr hp1_) (by first | exact dS_1 hW0_ | exact hds2_ _ (by omega)) ⟨hP, hD⟩ hS (lv_sub hl [0, 1, 2, 5, 6] rfl)
                  · have t_21 : ¬ (0 : Int64).toInt < y_18.toInt := fun h => c_21 ((lg_cmp_gt y_18 0).mpr (Int64.lt_iff_toInt_lt.mpr h))
                    refine lv_lload hx hb dB_3_3_18.1.1.1.2 (lv_at hl 0 rfl) ?_
                    refine lv_lconst (v := 0) hx hb dB_3_3_18.1.1.2.1 (by decide) ?_
                    refine W.lcmp hx hb dB_3_3_18.1.1.2.2 ?_
                    refine lv_if_ne (tgt := 183) hx hb dB_3_3_18.1.2.1.1 (by decide) (fun c_23 => ?_) (fun c_23 => ?_)
                    · have t_23 : ¬ y_18.toInt = (0 : Int64).toInt := fun h => c_23 ((lg_cmp_eq y_18 0).mpr (Int64.toInt_inj.mp h))
                      first | (have hds2_ := hds2_) | (have hds2_ : ∀ n2 : Int32, n2.toInt = x4_6.toInt + 1 → dS_ (wLn f8 (kF f10) f6 f7 s4.toNatClampNeg) bN n2.toNatClampNeg x2_6 x3_6 := fun n2 e2 => dS_to (dS_st v2_6 hsum_ (by omega) ⟨fun h => absurd (hif_.mp h) (by omega), fun _ => ⟨rfl, rfl⟩⟩) (by have c_ := clI (i := n2) (by omega); omega))
                      obtain ⟨y_24, ey_24⟩ : ∃ y : Int32, y = x4_6 + 1 := ⟨_, rfl⟩
                      have ty_24 : y_24.toInt = x4_6.toInt + (1 : Int32).toInt := by rw [ey_24]; exact addI (by omega) (by omega)
                      refine lv_iinc (v := y_24) (lv' := [(4, .int y_24), (6, .long y_18), (5, .int x5_12), (3, .int x3_6), (2, .int x2_6), (0, .ref mo), (1, .int a1)]) hx hb dB_3_3_18.2.2.2.1 hl (k := 2) rfl (by rw [ey_24]; rfl) (by decide) rfl (fun ls hl => ?_)
                      refine lv_goto (tgt := 36) hx hb dB_3_3_18.2.2.2.2 (by decide) ?_
                      exact ih_6 y_24 x3_6 x2_6 _ _ _ (by omega) (by first | with_reducible assumption | omega | assumption) (by first | omega | exact Int.ofNat_le.mpr hp1_) (by first | exact dS_1 hW0_ | exact hds2_ _ (by omega)) ⟨hP, hD⟩ hS (lv_sub hl [0, 3, 4, 5, 6] rfl)
                    · have t_23 : y_18.toInt = (0 : Int64).toInt := congrArg Int64.toInt ((lg_cmp_eq y_18 0).mp c_23)
                      refine lv_iload hx hb dB_3_3_18.1.2.1.2 (lv_at hl 2 rfl) ?_
                      refine ct_R hP hD [] [] (by decide) rfl (fun hPc hDw => ?_)
                      have hFc := va_free (wc := []) hD hS hA [] rfl
                      refine va_calli (va_runS (As := [.int x4_6]) (rest := []) ⟨hx, hb, hml, hown, hts⟩ (c_X12_bitsOf2 l D cy H.size x4_6) (va_cwS 1 hts gX12_dense_X12_bitsOf rfl rfl rfl hd_X12_bitsOf ⟨Nat.le_of_ble_eq_true rfl, Nat.le_of_ble_eq_true rfl⟩) ⟨bl_, fun U hU hW => ⟨rfl, by rw [hU], by rw [hU]; exact hPc, kk_mv hW hK, hDw⟩⟩ rfl rfl hl.1 rfl (lv_room (Nat.le_of_ble_eq_true rfl)) dB_3_3_18.1.2.2.1 ⟨Nat.le_of_ble_eq_true rfl, Nat.le_of_ble_eq_true rfl⟩) hS (fun q _ h => hFc q h) hFc (fun r_25 u t H locs ht hvm hw hB hz1 hk1 hS => ?_)
                      have hP : va_P D vwCl _ H := ro_keep hP hk1
                      obtain ⟨f0_r_25, f1_r_25⟩ := hw
                      refine lv_iload_n hx hb dB_3_3_18.1.2.2.2 rfl (lv_at hl 4 rfl) ?_
                      refine ct_R hP hD [] [] (by decide) rfl (fun hPc hDw => ?_)
                      have hFc := va_free (wc := []) hD hS hA [] rfl
                      refine va_calli (va_runS (As := [.int x2_6]) (rest := [.int r_25]) ⟨hx, hb, hml, hown, hts⟩ (c_X12_bitsOf2 l D cy H.size x2_6) (va_cwS 1 hts gX12_dense_X12_bitsOf rfl rfl rfl hd_X12_bitsOf ⟨Nat.le_of_ble_eq_true rfl, Nat.le_of_ble_eq_true rfl⟩) ⟨bl_, fun U hU hW => ⟨rfl, by rw [hU], by rw [hU]; exact hPc, kk_mv hW hK, hDw⟩⟩ rfl rfl hl.1 rfl (lv_room (Nat.le_of_ble_eq_true rfl)) dB_3_3_18.2.1.1.1 ⟨Nat.le_of_ble_eq_true rfl, Nat.le_of_ble_eq_true rfl⟩) hS (fun q _ h => hFc q h) hFc (fun r_26 u t H locs ht hvm hw hB hz1 hk1 hS => ?_)
                      have hP : va_P D vwCl _ H := ro_keep hP hk1
                      obtain ⟨f0_r_26, f1_r_26⟩ := hw
                      refine lv_icmp_le (tgt := 183) hx hb dB_3_3_18.2.1.1.2 (by decide) (fun c_27 => ?_) (fun c_27 => ?_)
                      · have t_27 : r_25.toInt ≤ r_26.toInt := Int32.le_iff_toInt_le.mp c_27
                        first | (have hds2_ := hds2_) | (have hds2_ : ∀ n2 : Int32, n2.toInt = x4_6.toInt + 1 → dS_ (wLn f8 (kF f10) f6 f7 s4.toNatClampNeg) bN n2.toNatClampNeg x2_6 x3_6 := fun n2 e2 => dS_to (dS_st v2_6 hsum_ (by omega) ⟨fun h => absurd (hif_.mp h) (by omega), fun _ => ⟨rfl, rfl⟩⟩) (by have c_ := clI (i := n2) (by omega); omega))
                        obtain ⟨y_28, ey_28⟩ : ∃ y : Int32, y = x4_6 + 1 := ⟨_, rfl⟩
                        have ty_28 : y_28.toInt = x4_6.toInt + (1 : Int32).toInt := by rw [ey_28]; exact addI (by omega) (by omega)
                        refine lv_iinc (v := y_28) (lv' := [(4, .int y_28), (6, .long y_18), (5, .int x5_12), (3, .int x3_6), (2, .int x2_6), (0, .ref mo), (1, .int a1)]) hx hb dB_3_3_18.2.2.2.1 hl (k := 2) rfl (by rw [ey_28]; rfl) (by decide) rfl (fun ls hl => ?_)
                        refine lv_goto (tgt := 36) hx hb dB_3_3_18.2.2.2.2 (by decide) ?_
                        exact ih_6 y_28 x3_6 x2_6 _ _ _ (by omega) (by first | with_reducible assumption | omega | assumption) (by first | omega | exact Int.ofNat_le.mpr hp1_) (by first | exact dS_1 hW0_ | exact hds2_ _ (by omega)) ⟨hP, hD⟩ hS (lv_sub hl [0, 3, 4, 5, 6] rfl)
                      · have t_27 : ¬ r_25.toInt ≤ r_26.toInt := fun h => c_27 (Int32.le_iff_toInt_le.mpr h)
                        have hds2_ : ∀ n2 : Int32, n2.toInt = x4_6.toInt + 1 → dS_ (wLn f8 (kF f10) f6 f7 s4.toNatClampNeg) bN n2.toNatClampNeg x4_6 x5_12 := fun n2 e2 => dS_to (dS_st v2_6 hsum_ (by omega) ⟨fun _ => ⟨by omega, rfl⟩, fun h => absurd (hif_.mpr (by first | omega | (have z_ := hz0_ (by omega); have y1_ : y_15.toInt = 0 := (by rw [hB1_, z_.2, Int.mul_zero]); have y2_ : y_17.toInt = 0 := (by rw [hA1_, z_.1, Int.zero_mul]); omega))) h⟩) (by have c_ := clI (i := n2) (by omega); omega)
                        refine lv_iload hx hb dB_3_3_18.2.1.2.1 (lv_at hl 2 rfl) ?_
                        refine lv_istore_n (lv' := [(2, .int x4_6), (6, .long y_18), (5, .int x5_12), (4, .int x4_6), (3, .int x3_6), (0, .ref mo), (1, .int a1)]) hx hb dB_3_3_18.2.1.2.2 rfl hl (by decide) rfl (fun ls hl => ?_)
                        refine lv_iload hx hb dB_3_3_18.2.2.1.1 (lv_at hl 2 rfl) ?_
                        refine lv_istore_n (lv' := [(3, .int x5_12), (2, .int x4_6), (6, .long y_18), (5, .int x5_12), (4, .int x4_6), (0, .ref mo), (1, .int a1)]) hx hb dB_3_3_18.2.2.1.2 rfl hl (by decide) rfl (fun ls hl => ?_)
                        first | (have hds2_ := hds2_) | (have hds2_ : ∀ n2 : Int32, n2.toInt = x4_6.toInt + 1 → dS_ (wLn f8 (kF f10) f6 f7 s4.toNatClampNeg) bN n2.toNatClampNeg x4_6 x5_12 := fun n2 e2 => dS_to (dS_st v2_6 hsum_ (by omega) ⟨fun h => absurd (hif_.mp h) (by omega), fun _ => ⟨rfl, rfl⟩⟩) (by have c_ := clI (i := n2) (by omega); omega))
                        obtain ⟨y_29, ey_29⟩ : ∃ y : Int32, y = x4_6 + 1 := ⟨_, rfl⟩
                        have ty_29 : y_29.toInt = x4_6.toInt + (1 : Int32).toInt := by rw [ey_29]; exact addI (by omega) (by omega)
                        refine lv_iinc (v := y_29) (lv' := [(4, .int y_29), (3, .int x5_12), (2, .int x4_6), (6, .long y_18), (5, .int x5_12), (0, .ref mo), (1, .int a1)]) hx hb dB_3_3_18.2.2.2.1 hl (k := 4) rfl (by rw [ey_29]; rfl) (by decide) rfl (fun ls hl => ?_)
                        refine lv_goto (tgt := 36) hx hb dB_3_3_18.2.2.2.2 (by decide) ?_
                        exact ih_6 y_29 x5_12 x4_6 _ _ _ (by omega) (by first | with_reducible assumption | omega | assumption) (by first | omega | exact Int.ofNat_le.mpr hp1_) (by first | exact dS_1 hW0_ | exact hds2_ _ (by omega)) ⟨hP, hD⟩ hS (lv_sub hl [0, 1, 2, 5, 6] rfl)
              · have t_13 : ¬ s4.toInt ≤ x6_12.toInt := fun h => c_13 (Int32.le_iff_toInt_le.mpr h)
                have c6_ := clI (i := x6_12) (by omega)
                refine lv_iload hx hb dB_3_2_29.1.2.1.1 (lv_at hl 1 rfl) ?_
                refine lv_aload_n hx hb dB_3_2_29.1.2.1.2 rfl (lv_at hl 5 rfl) ?_
                refine va_get (ci := 12) (v := .ref g10) (C := RX12) (T := TX12) (N := 34) hx hb hts (fun _ h => List.mem_cons_of_mem _ (List.mem_append_right _ h)) hown hK.1 hP 0 rfl rfl 10 (by decide) (hts (.fieldLink RX12 25 "CutAtlasModel" "isMissing" "[Z") (List.mem_of_getElem? (i := 5) rfl)) (fun _ h9 => h9) rfl dB_3_2_29.1.2.2.1 ?_
                refine lv_iload hx hb dB_3_2_29.1.2.2.2 (lv_at hl 0 rfl) ?_
                have h_30 : vp_in x6_12 40 := in_I (by first | with_reducible assumption | omega) (by omega)
                refine va_zald hx hb hK.1 hP 5 2 rfl rfl (i := x6_12) h_30 dB_3_2_29.2.1.1.1 ?_
                refine lv_topi (fun y_31 ey_31 => ?_)
                have ky_31 : y_31.toInt = (f10 x6_12.toNatClampNeg).toInt := by rw [ey_31]
                refine lv_if_ne (tgt := 116) hx hb dB_3_2_29.2.1.1.2 (by decide) (fun c_32 => ?_) (fun c_32 => ?_)
                · have t_32 : ¬ y_31.toInt = (0 : Int32).toInt := fun h => c_32 (Int32.toInt_inj.mp h)
                  refine lv_iconst (v := 0) hx hb dB_3_3_16.2.1.1.1 (by decide) ?_
                  have hv_ : (0 : Int32).toInt = ilI (wF f8 (-9)) (kF f10) (nF f6) (nF f7) (bt x4_6) x6_12.toNatClampNeg := by first | exact il_y (show kF f10 x6_12.toNatClampNeg = 0 by unfold kF; omega) (b_tr hA_ (by omega)) (b_tr hB_ (by omega)) (by rw [wF9]; omega) | exact il_g (show kF f10 x6_12.toNatClampNeg ≠ 0 by unfold kF; omega) (by omega) | exact il_s (bt_fl hA_ (by omega)) (by omega) | exact il_e (bt_fl hB_ (by omega)) (by omega)
                  refine lv_iadd hx hb dB_3_3_16.2.1.1.2 ?_
                  refine lv_topi (fun y_33 ey_33 => ?_)
                  have ty_33 : y_33.toInt = x5_12.toInt + (0 : Int32).toInt := by rw [ey_33]; exact addI (by omega) (by omega)
                  refine lv_istore (lv' := [(5, .int y_33), (6, .int x6_12), (4, .int x4_6), (3, .int x3_6), (2, .int x2_6), (0, .ref mo), (1, .int a1)]) hx hb dB_3_3_16.2.1.2.1 hl (by decide) rfl (fun ls hl => ?_)
                  obtain ⟨y_34, ey_34⟩ : ∃ y : Int32, y = x6_12 + 1 := ⟨_, rfl⟩
                  have ty_34 : y_34.toInt = x6_12.toInt + (1 : Int32).toInt := by rw [ey_34]; exact addI (by omega) (by omega)
                  refine lv_iinc (v := y_34) (lv' := [(6, .int y_34), (5, .int y_33), (4, .int x4_6), (3, .int x3_6), (2, .int x2_6), (0, .ref mo), (1, .int a1)]) hx hb dB_3_3_16.2.1.2.2 hl (k := 1) rfl (by rw [ey_34]; rfl) (by decide) rfl (fun ls hl => ?_)
                  refine lv_goto (tgt := 53) hx hb dB_3_3_16.2.2.1.1 (by decide) ?_
                  exact ih_12 y_34 y_33 _ _ _ (by omega) (by first | with_reducible assumption | omega | assumption) (by first | with_reducible assumption | omega | assumption) (by first | with_reducible assumption | omega | assumption) (by first | exact sum_0 | exact cnt_st v3_12 (by omega) (by omega) (by omega)) ⟨hP, hD⟩ hS (lv_sub hl [0, 1, 2, 3, 4, 5, 6] rfl)
                · have t_32 : y_31.toInt = (0 : Int32).toInt := congrArg Int32.toInt c_32
                  refine lv_iload hx hb dB_3_2_29.2.1.2.1 (lv_at hl 2 rfl) ?_
                  refine lv_aload_n hx hb dB_3_2_29.2.1.2.2 rfl (lv_at hl 5 rfl) ?_
                  refine va_get (ci := 12) (v := .ref g6) (C := RX12) (T := TX12) (N := 34) hx hb hts (fun _ h => List.mem_cons_of_mem _ (List.mem_append_right _ h)) hown hK.1 hP 0 rfl rfl 6 (by decide) (hts (.fieldLink RX12 13 "CutAtlasModel" "from" "[I") (List.mem_of_getElem? (i := 6) rfl)) (fun _ h9 => h9) rfl dB_3_2_29.2.2.1.1 ?_
                  refine lv_iload hx hb dB_3_2_29.2.2.1.2 (lv_at hl 0 rfl) ?_
                  refine va_iald hx hb hK.1 hP 2 0 rfl rfl (i := x6_12) h_30 dB_3_2_29.2.2.2.1 ?_
                  refine lv_topi (fun y_36 ey_36 => ?_)
                  have ky_36 : y_36.toInt = (f6 x6_12.toNatClampNeg).toInt := by rw [ey_36]
                  have ry_36 : 0 ≤ y_36.toInt ∧ y_36.toInt ≤ 11 := by rw [ey_36]; exact r_f6 _ (in_lt h_30)
                  refine lv_ishr hx hb dB_3_2_29.2.2.2.2 ?_
                  refine lv_topi (fun y_37 ey_37 => ?_)
                  refine lv_iconst (v := 1) hx hb dB_3_2_30.1.1.1 (by decide) ?_
                  refine lv_iand hx hb dB_3_2_30.1.1.2 ?_
                  refine lv_topi (fun y_38 ey_38 => ?_)
                  have hA_ : y_38.toInt = if bt x4_6 (nF f6 x6_12.toNatClampNeg) = true then 1 else 0 := by have h_ := bI_w (x := x4_6) (y := y_36) (by omega) (by omega) ey_37 ey_38; rw [ey_36] at h_; exact h_
                  refine lv_iconst (v := 1) hx hb dB_3_2_30.1.2.1 (by decide) ?_
                  refine lv_icmp_ne (tgt := 116) hx hb dB_3_2_30.1.2.2.1 (by decide) (fun c_39 => ?_) (fun c_39 => ?_)
                  · have t_39 : ¬ y_38.toInt = (1 : Int32).toInt := fun h => c_39 (Int32.toInt_inj.mp h)
                    refine lv_iconst (v := 0) hx hb dB_3_3_16.2.1.1.1 (by decide) ?_
                    have hv_ : (0 : Int32).toInt = ilI (wF f8 (-9)) (kF f10) (nF f6) (nF f7) (bt x4_6) x6_12.toNatClampNeg := by first | exact il_y (show kF f10 x6_12.toNatClampNeg = 0 by unfold kF; omega) (b_tr hA_ (by omega)) (b_tr hB_ (by omega)) (by rw [wF9]; omega) | exact il_g (show kF f10 x6_12.toNatClampNeg ≠ 0 by unfold kF; omega) (by omega) | exact il_s (bt_fl hA_ (by omega)) (by omega) | exact il_e (bt_fl hB_ (by omega)) (by omega)
                    refine lv_iadd hx hb dB_3_3_16.2.1.1.2 ?_
                    refine lv_topi (fun y_40 ey_40 => ?_)
                    have ty_40 : y_40.toInt = x5_12.toInt + (0 : Int32).toInt := by rw [ey_40]; exact addI (by omega) (by omega)
                    refine lv_istore (lv' := [(5, .int y_40), (6, .int x6_12), (4, .int x4_6), (3, .int x3_6), (2, .int x2_6), (0, .ref mo), (1, .int a1)]) hx hb dB_3_3_16.2.1.2.1 hl (by decide) rfl (fun ls hl => ?_)
                    obtain ⟨y_41, ey_41⟩ : ∃ y : Int32, y = x6_12 + 1 := ⟨_, rfl⟩
                    have ty_41 : y_41.toInt = x6_12.toInt + (1 : Int32).toInt := by rw [ey_41]; exact addI (by omega) (by omega)
                    refine lv_iinc (v := y_41) (lv' := [(6, .int y_41), (5, .int y_40), (4, .int x4_6), (3, .int x3_6), (2, .int x2_6), (0, .ref mo), (1, .int a1)]) hx hb dB_3_3_16.2.1.2.2 hl (k := 1) rfl (by rw [ey_41]; rfl) (by decide) rfl (fun ls hl => ?_)
                    refine lv_goto (tgt := 53) hx hb dB_3_3_16.2.2.1.1 (by decide) ?_
                    exact ih_12 y_41 y_40 _ _ _ (by omega) (by first | with_reducible assumption | omega | assumption) (by first | with_reducible assumption | omega | assumption) (by first | with_reducible assumption | omega | assumption) (by first | exact sum_0 | exact cnt_st v3_12 (by omega) (by omega) (by omega)) ⟨hP, hD⟩ hS (lv_sub hl [0, 1, 2, 3, 4, 5, 6] rfl)
                  · have t_39 : y_38.toInt = (1 : Int32).toInt := congrArg Int32.toInt c_39
                    refine lv_iload hx hb dB_3_2_30.1.2.2.2 (lv_at hl 2 rfl) ?_
                    refine lv_aload_n hx hb dB_3_2_30.2.1.1 rfl (lv_at hl 5 rfl) ?_
                    refine va_get (ci := 12) (v := .ref g7) (C := RX12) (T := TX12) (N := 34) hx hb hts (fun _ h => List.mem_cons_of_mem _ (List.mem_append_right _ h)) hown hK.1 hP 0 rfl rfl 7 (by decide) (hts (.fieldLink RX12 16 "CutAtlasModel" "to" "[I") (List.mem_of_getElem? (i := 7) rfl)) (fun _ h9 => h9) rfl dB_3_2_30.2.1.2.1 ?_
                    refine lv_iload hx hb dB_3_2_30.2.1.2.2 (lv_at hl 0 rfl) ?_
                    refine va_iald hx hb hK.1 hP 3 0 rfl rfl (i := x6_12) h_30 dB_3_2_30.2.2.1 ?_
                    refine lv_topi (fun y_43 ey_43 => ?_)
                    have ky_43 : y_43.toInt = (f7 x6_12.toNatClampNeg).toInt := by rw [ey_43]
                    have ry_43 : 0 ≤ y_43.toInt ∧ y_43.toInt ≤ 11 := by rw [ey_43]; exact r_f7 _ (in_lt h_30)
                    refine lv_ishr hx hb dB_3_2_30.2.2.2.1 ?_
                    refine lv_topi (fun y_44 ey_44 => ?_)
                    refine lv_iconst (v := 1) hx hb dB_3_2_30.2.2.2.2 (by decide) ?_
                    refine lv_iand hx hb dB_3_3_16.1.1.1.1 ?_
                    refine lv_topi (fun y_45 ey_45 => ?_)
                    have hB_ : y_45.toInt = if bt x4_6 (nF f7 x6_12.toNatClampNeg) = true then 1 else 0 := by have h_ := bI_w (x := x4_6) (y := y_43) (by omega) (by omega) ey_44 ey_45; rw [ey_43] at h_; exact h_
                    refine lv_iconst (v := 1) hx hb dB_3_3_16.1.1.1.2 (by decide) ?_
                    refine lv_icmp_ne (tgt := 116) hx hb dB_3_3_16.1.1.2.1 (by decide) (fun c_46 => ?_) (fun c_46 => ?_)
                    · have t_46 : ¬ y_45.toInt = (1 : Int32).toInt := fun h => c_46 (Int32.toInt_inj.mp h)
                      refine lv_iconst (v := 0) hx hb dB_3_3_16.2.1.1.1 (by decide) ?_
                      have hv_ : (0 : Int32).toInt = ilI (wF f8 (-9)) (kF f10) (nF f6) (nF f7) (bt x4_6) x6_12.toNatClampNeg := by first | exact il_y (show kF f10 x6_12.toNatClampNeg = 0 by unfold kF; omega) (b_tr hA_ (by omega)) (b_tr hB_ (by omega)) (by rw [wF9]; omega) | exact il_g (show kF f10 x6_12.toNatClampNeg ≠ 0 by unfold kF; omega) (by omega) | exact il_s (bt_fl hA_ (by omega)) (by omega) | exact il_e (bt_fl hB_ (by omega)) (by omega)
                      refine lv_iadd hx hb dB_3_3_16.2.1.1.2 ?_
                      refine lv_topi (fun y_47 ey_47 => ?_)
                      have ty_47 : y_47.toInt = x5_12.toInt + (0 : Int32).toInt := by rw [ey_47]; exact addI (by omega) (by omega)
                      refine lv_istore (lv' := [(5, .int y_47), (6, .int x6_12), (4, .int x4_6), (3, .int x3_6), (2, .int x2_6), (0, .ref mo), (1, .int a1)]) hx hb dB_3_3_16.2.1.2.1 hl (by decide) rfl (fun ls hl => ?_)
                      obtain ⟨y_48, ey_48⟩ : ∃ y : Int32, y = x6_12 + 1 := ⟨_, rfl⟩
                      have ty_48 : y_48.toInt = x6_12.toInt + (1 : Int32).toInt := by rw [ey_48]; exact addI (by omega) (by omega)
                      refine lv_iinc (v := y_48) (lv' := [(6, .int y_48), (5, .int y_47), (4, .int x4_6), (3, .int x3_6), (2, .int x2_6), (0, .ref mo), (1, .int a1)]) hx hb dB_3_3_16.2.1.2.2 hl (k := 1) rfl (by rw [ey_48]; rfl) (by decide) rfl (fun ls hl => ?_)
                      refine lv_goto (tgt := 53) hx hb dB_3_3_16.2.2.1.1 (by decide) ?_
                      exact ih_12 y_48 y_47 _ _ _ (by omega) (by first | with_reducible assumption | omega | assumption) (by first | with_reducible assumption | omega | assumption) (by first | with_reducible assumption | omega | assumption) (by first | exact sum_0 | exact cnt_st v3_12 (by omega) (by omega) (by omega)) ⟨hP, hD⟩ hS (lv_sub hl [0, 1, 2, 3, 4, 5, 6] rfl)
                    · have t_46 : y_45.toInt = (1 : Int32).toInt := congrArg Int32.toInt c_46
                      refine lv_aload_n hx hb dB_3_3_16.1.1.2.2 rfl (lv_at hl 5 rfl) ?_
                      refine va_get (ci := 12) (v := .ref g8) (C := RX12) (T := TX12) (N := 34) hx hb hts (fun _ h => List.mem_cons_of_mem _ (List.mem_append_right _ h)) hown hK.1 hP 0 rfl rfl 8 (by decide) (hts (.fieldLink RX12 19 "CutAtlasModel" "width" "[I") (List.mem_of_getElem? (i := 8) rfl)) (fun _ h9 => h9) rfl dB_3_3_16.1.2.1.1 ?_
                      refine lv_iload hx hb dB_3_3_16.1.2.1.2 (lv_at hl 0 rfl) ?_
                      refine va_iald hx hb hK.1 hP 4 0 rfl rfl (i := x6_12) h_30 dB_3_3_16.1.2.2.1 ?_
                      refine lv_topi (fun y_50 ey_50 => ?_)
                      have ky_50 : y_50.toInt = (f8 x6_12.toNatClampNeg).toInt := by rw [ey_50]
                      have ry_50 : 0 ≤ y_50.toInt ∧ y_50.toInt ≤ 2000 := by rw [ey_50]; exact r_f8 _ (in_lt h_30)
                      refine lv_goto (tgt := 117) hx hb dB_3_3_16.1.2.2.2 (by decide) ?_
                      have hv_ : y_50.toInt = ilI (wF f8 (-9)) (kF f10) (nF f6) (nF f7) (bt x4_6) x6_12.toNatClampNeg := by first | exact il_y (show kF f10 x6_12.toNatClampNeg = 0 by unfold kF; omega) (b_tr hA_ (by omega)) (b_tr hB_ (by omega)) (by rw [wF9]; omega) | exact il_g (show kF f10 x6_12.toNatClampNeg ≠ 0 by unfold kF; omega) (by omega) | exact il_s (bt_fl hA_ (by omega)) (by omega) | exact il_e (bt_fl hB_ (by omega)) (by omega)
                      refine lv_iadd hx hb dB_3_3_16.2.1.1.2 ?_
                      refine lv_topi (fun y_51 ey_51 => ?_)
                      have ty_51 : y_51.toInt = x5_12.toInt + y_50.toInt := by rw [ey_51]; exact addI (by omega) (by omega)
                      refine lv_istore (lv' := [(5, .int y_51), (6, .int x6_12), (4, .int x4_6), (3, .int x3_6), (2, .int x2_6), (0, .ref mo), (1, .int a1)]) hx hb dB_3_3_16.2.1.2.1 hl (by decide) rfl (fun ls hl => ?_)
                      obtain ⟨y_52, ey_52⟩ : ∃ y : Int32, y = x6_12 + 1 := ⟨_, rfl⟩
                      have ty_52 : y_52.toInt = x6_12.toInt + (1 : Int32).toInt := by rw [ey_52]; exact addI (by omega) (by omega)
                      refine lv_iinc (v := y_52) (lv' := [(6, .int y_52), (5, .int y_51), (4, .int x4_6), (3, .int x3_6), (2, .int x2_6), (0, .ref mo), (1, .int a1)]) hx hb dB_3_3_16.2.1.2.2 hl (k := 1) rfl (by rw [ey_52]; rfl) (by decide) rfl (fun ls hl => ?_)
                      refine lv_goto (tgt := 53) hx hb dB_3_3_16.2.2.1.1 (by decide) ?_
                      exact ih_12 y_52 y_51 _ _ _ (by omega) (by first | with_reducible assumption | omega | assumption) (by first | with_reducible assumption | omega | assumption) (by first | with_reducible assumption | omega | assumption) (by first | exact sum_0 | exact cnt_st v3_12 (by omega) (by omega) (by omega)) ⟨hP, hD⟩ hS (lv_sub hl [0, 1, 2, 3, 4, 5, 6] rfl)
      · have t_5 : r_4.toInt = (0 : Int32).toInt := congrArg Int32.toInt c_5
        refine lv_bipush (v := (-2)) hx hb dB_3_2_27.2.2.2.1 (by decide) ?_
        rw [hQ]
        exact W.iret (v := (-2)) hx hb hr (fun t ht hW => ⟨⟨(-2), (), rfl, (⟨fun h => absurd h (by unfold dnI; (repeat' (first | with_reducible refine if_n (by omega) ?_ | with_reducible refine if_ns (by omega) ?_ | with_reducible refine if_nz (by omega) ?_ | with_reducible exact if_p (by omega) (by omega) | with_reducible exact if_ps (by omega) (by omega) | with_reducible exact if_pz (by omega) (by omega))) <;> omega), fun _ => (by unfold dnI; (repeat' (first | with_reducible refine if_n (by omega) ?_ | with_reducible refine if_ns (by omega) ?_ | with_reducible refine if_nz (by omega) ?_ | with_reducible exact if_p (by omega) (by omega) | with_reducible exact if_ps (by omega) (by omega) | with_reducible exact if_pz (by omega) (by omega))) <;> omega)⟩), by rw [ht]; exact hP, hD⟩, hS.F ht⟩) hS.2.2 dB_3_2_27.2.2.2.2
    · exact absurd c_3 (by decide)
  · have e_ := e_.symm
    subst e_
    refine lv_if_ne (tgt := 19) hx hb dB_3_2_27.2.1.1.1 (by decide) (fun c_53 => ?_) (fun c_53 => ?_)
    · exact absurd c_53 (by decide)
    · have _ := c_53
      refine lv_iconst (v := (-1)) hx hb dB_3_2_27.2.1.1.2 (by decide) ?_
      rw [hQ]
      exact W.iret (v := (-1)) hx hb hr (fun t ht hW => ⟨⟨(-1), (), rfl, (⟨fun h => absurd h (by unfold dnI; (repeat' (first | with_reducible refine if_n (by omega) ?_ | with_reducible refine if_ns (by omega) ?_ | with_reducible refine if_nz (by omega) ?_ | with_reducible exact if_p (by omega) (by omega) | with_reducible exact if_ps (by omega) (by omega) | with_reducible exact if_pz (by omega) (by omega))) <;> omega), fun _ => (by unfold dnI; (repeat' (first | with_reducible refine if_n (by omega) ?_ | with_reducible refine if_ns (by omega) ?_ | with_reducible refine if_nz (by omega) ?_ | with_reducible exact if_p (by omega) (by omega) | with_reducible exact if_ps (by omega) (by omega) | with_reducible exact if_pz (by omega) (by omega))) <;> omega)⟩), by rw [ht]; exact hP, hD⟩, hS.F ht⟩) hS.2.2 dB_3_2_27.2.1.2.1
end
