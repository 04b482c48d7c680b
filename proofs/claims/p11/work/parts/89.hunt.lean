section
set_option maxHeartbeats 4000000 in
set_option maxRecDepth 100000 in
theorem c_X7_chooseForDense_0 (l : Launch) (D : va_G) (cy : Nat → ClassId) (sz : Nat) (xh : Nat) (u1 : Int32) (u2 : Int32) (u3 : Int32) (u4 : Int32) (u5 : Int32) (u6 : Int32) (u7 : Int32) (u8 : Int32) (xc : Nat) (xk : Nat) (clo : Nat) (cro : Nat) (c4 : Nat) (c5 : Nat) (c6 : Nat) (c7 : Nat) (c8 : Nat) (xn : Nat) (n1 : Nat) (n2 : Nat) (n3 : Nat) (n4 : Nat) (n5 : Nat) (vp : Int32) (vn : Int32) (rl : Nat → Nat) (Ml : Nat → Nat → Int32) (a1 : Int32) (a2 : Int32) (a3 : Int32) (hvp : 0 ≤ vp.toInt ∧ vp.toInt ≤ 12) (q1 : -1 ≤ a1.toInt ∧ a1.toInt < 0) : Met l yX7_chooseForDense wsX7_chooseForDense ({ frames := 2, cells := 0, slots := 0, locals := 46 }) (va_Pc [.ref xh, .int a1, .int a2, .int a3] (fun U => U.heap.size = sz ∧ va_P D vwCl [ob7_0_ xh xc u1 u2 u3 u4 u5 u6 u7 u8, ob0_0_ xc xn xk clo cro c4 c5 c6 c7 c8, ob3_0_ xn vp vn n1 n2 n3 n4 n5, aq_ cy 6 clo 12 (gf_ rl), ai_ cy (rl 0) 12 (Ml 0), ai_ cy (rl 1) 12 (Ml 1), ai_ cy (rl 2) 12 (Ml 2), ai_ cy (rl 3) 12 (Ml 3), ai_ cy (rl 4) 12 (Ml 4), ai_ cy (rl 5) 12 (Ml 5), ai_ cy (rl 6) 12 (Ml 6), ai_ cy (rl 7) 12 (Ml 7), ai_ cy (rl 8) 12 (Ml 8), ai_ cy (rl 9) 12 (Ml 9), ai_ cy (rl 10) 12 (Ml 10), ai_ cy (rl 11) 12 (Ml 11)] U.heap ∧ kg_ D cy U ∧ va_D (fun _ => True) [ob7_0_ xh xc u1 u2 u3 u4 u5 u6 u7 u8, ob0_0_ xc xn xk clo cro c4 c5 c6 c7 c8, ob3_0_ xn vp vn n1 n2 n3 n4 n5, aq_ cy 6 clo 12 (gf_ rl), ai_ cy (rl 0) 12 (Ml 0), ai_ cy (rl 1) 12 (Ml 1), ai_ cy (rl 2) 12 (Ml 2), ai_ cy (rl 3) 12 (Ml 3), ai_ cy (rl 4) 12 (Ml 4), ai_ cy (rl 5) 12 (Ml 5), ai_ cy (rl 6) 12 (Ml 6), ai_ cy (rl 7) 12 (Ml 7), ai_ cy (rl 8) 12 (Ml 8), ai_ cy (rl 9) 12 (Ml 9), ai_ cy (rl 10) 12 (Ml 10), ai_ cy (rl 11) 12 (Ml 11)])) (va_Qv (fun (_ : Unit) => True) (fun (_ : Unit) (t : State) => ∃ (v7 : Int32), ∃ (v8 : Int32), va_P D vwCl [ob7_0_ xh xc u1 u2 u3 u4 u5 u6 v7 v8, ob0_0_ xc xn xk clo cro c4 c5 c6 c7 c8, ob3_0_ xn vp vn n1 n2 n3 n4 n5, aq_ cy 6 clo 12 (gf_ rl), ai_ cy (rl 0) 12 (Ml 0), ai_ cy (rl 1) 12 (Ml 1), ai_ cy (rl 2) 12 (Ml 2), ai_ cy (rl 3) 12 (Ml 3), ai_ cy (rl 4) 12 (Ml 4), ai_ cy (rl 5) 12 (Ml 5), ai_ cy (rl 6) 12 (Ml 6), ai_ cy (rl 7) 12 (Ml 7), ai_ cy (rl 8) 12 (Ml 8), ai_ cy (rl 9) 12 (Ml 9), ai_ cy (rl 10) 12 (Ml 10), ai_ cy (rl 11) 12 (Ml 11)] t.heap ∧ va_D (va_A [ob7_0_ xh xc u1 u2 u3 u4 u5 u6 u7 u8, ob0_0_ xc xn xk clo cro c4 c5 c6 c7 c8, ob3_0_ xn vp vn n1 n2 n3 n4 n5, aq_ cy 6 clo 12 (gf_ rl), ai_ cy (rl 0) 12 (Ml 0), ai_ cy (rl 1) 12 (Ml 1), ai_ cy (rl 2) 12 (Ml 2), ai_ cy (rl 3) 12 (Ml 3), ai_ cy (rl 4) 12 (Ml 4), ai_ cy (rl 5) 12 (Ml 5), ai_ cy (rl 6) 12 (Ml 6), ai_ cy (rl 7) 12 (Ml 7), ai_ cy (rl 8) 12 (Ml 8), ai_ cy (rl 9) 12 (Ml 9), ai_ cy (rl 10) 12 (Ml 10), ai_ cy (rl 11) 12 (Ml 11)] sz) [ob7_0_ xh xc u1 u2 u3 u4 u5 u6 v7 v8, ob0_0_ xc xn xk clo cro c4 c5 c6 c7 c8, ob3_0_ xn vp vn n1 n2 n3 n4 n5, aq_ cy 6 clo 12 (gf_ rl), ai_ cy (rl 0) 12 (Ml 0), ai_ cy (rl 1) 12 (Ml 1), ai_ cy (rl 2) 12 (Ml 2), ai_ cy (rl 3) 12 (Ml 3), ai_ cy (rl 4) 12 (Ml 4), ai_ cy (rl 5) 12 (Ml 5), ai_ cy (rl 6) 12 (Ml 6), ai_ cy (rl 7) 12 (Ml 7), ai_ cy (rl 8) 12 (Ml 8), ai_ cy (rl 9) 12 (Ml 9), ai_ cy (rl 10) 12 (Ml 10), ai_ cy (rl 11) 12 (Ml 11)]) (va_A [ob7_0_ xh xc u1 u2 u3 u4 u5 u6 u7 u8, ob0_0_ xc xn xk clo cro c4 c5 c6 c7 c8, ob3_0_ xn vp vn n1 n2 n3 n4 n5, aq_ cy 6 clo 12 (gf_ rl), ai_ cy (rl 0) 12 (Ml 0), ai_ cy (rl 1) 12 (Ml 1), ai_ cy (rl 2) 12 (Ml 2), ai_ cy (rl 3) 12 (Ml 3), ai_ cy (rl 4) 12 (Ml 4), ai_ cy (rl 5) 12 (Ml 5), ai_ cy (rl 6) 12 (Ml 6), ai_ cy (rl 7) 12 (Ml 7), ai_ cy (rl 8) 12 (Ml 8), ai_ cy (rl 9) 12 (Ml 9), ai_ cy (rl 10) 12 (Ml 10), ai_ cy (rl 11) 12 (Ml 11)] sz)) 0 0 (va_A [ob7_0_ xh xc u1 u2 u3 u4 u5 u6 u7 u8, ob0_0_ xc xn xk clo cro c4 c5 c6 c7 c8, ob3_0_ xn vp vn n1 n2 n3 n4 n5, aq_ cy 6 clo 12 (gf_ rl), ai_ cy (rl 0) 12 (Ml 0), ai_ cy (rl 1) 12 (Ml 1), ai_ cy (rl 2) 12 (Ml 2), ai_ cy (rl 3) 12 (Ml 3), ai_ cy (rl 4) 12 (Ml 4), ai_ cy (rl 5) 12 (Ml 5), ai_ cy (rl 6) 12 (Ml 6), ai_ cy (rl 7) 12 (Ml 7), ai_ cy (rl 8) 12 (Ml 8), ai_ cy (rl 9) 12 (Ml 9), ai_ cy (rl 10) 12 (Ml 10), ai_ cy (rl 11) 12 (Ml 11)] sz) := by
  refine ofQ (cc := cX7_chooseForDense) (maxL := 4) (ret := none) (by decide) rfl ?_
  intro p e s m args below meth c s₁ Q hQ B hml hv
  obtain ⟨rfl, hsz, hP, hK, hD0⟩ := hv
  have hG := hK.2
  have hK := hK.1
  have hx := B.exec
  have hb := B.bytes
  have hr := B.returns
  have hts := atoms_spec (ws := wsX7_chooseForDense) B.pre
  have hown : s.vm.findClass RX7 = some m.cls := by have h_ := findClass_of_methodNamed B.named; exact h_
  have hlocks := B.notSynchronized
  subst hsz
  have hD := hD0.self (sz := s.heap.size)
  generalize hAe : va_A [ob7_0_ xh xc u1 u2 u3 u4 u5 u6 u7 u8, ob0_0_ xc xn xk clo cro c4 c5 c6 c7 c8, ob3_0_ xn vp vn n1 n2 n3 n4 n5, aq_ cy 6 clo 12 (gf_ rl), ai_ cy (rl 0) 12 (Ml 0), ai_ cy (rl 1) 12 (Ml 1), ai_ cy (rl 2) 12 (Ml 2), ai_ cy (rl 3) 12 (Ml 3), ai_ cy (rl 4) 12 (Ml 4), ai_ cy (rl 5) 12 (Ml 5), ai_ cy (rl 6) 12 (Ml 6), ai_ cy (rl 7) 12 (Ml 7), ai_ cy (rl 8) 12 (Ml 8), ai_ cy (rl 9) 12 (Ml 9), ai_ cy (rl 10) 12 (Ml 10), ai_ cy (rl 11) 12 (Ml 11)] s.heap.size = A at hD hQ
  have hA : ∀ q : Nat, s.heap.size ≤ q → A q := fun q h => by rw [← hAe]; exact Or.inr h
  have hS : va_S A s.heap s.heap [] := va_S.rf
  have hl := lv_entry ([.ref xh, .int a1, .int a2, .int a3]) (n := 4) (Nat.le_of_ble_eq_true rfl)
  rw [lg_entry_eq]
  generalize (lg_sl ([.ref xh, .int a1, .int a2, .int a3]) ++ List.replicate (4 - (lg_sl ([.ref xh, .int a1, .int a2, .int a3])).length) Slot.unset).toArray = ls at hl ⊢
  have hl : lv_has ls 4 [(0, .ref xh), (1, .int a1), (2, .int a2), (3, .int a3)] := hl
  have z0 : (0 : Int32).toInt = 0 := by decide
  refine lv_iload_n hx hb dB_36_1_62.1.1.1.1 rfl (lv_at hl 1 rfl) ?_
  refine lv_if_ge (tgt := 11) hx hb dB_36_1_62.1.1.1.2 (by decide) (fun c_1 => ?_) (fun c_1 => ?_)
  · have t_1 : (0 : Int32).toInt ≤ a1.toInt := Int32.le_iff_toInt_le.mp c_1
    exfalso; omega
  · have t_1 : ¬ (0 : Int32).toInt ≤ a1.toInt := fun h => c_1 (Int32.le_iff_toInt_le.mpr h)
    refine lv_aload_n hx hb dB_36_1_62.1.1.2.1 rfl (lv_at hl 0 rfl) ?_
    refine lv_iload_n hx hb dB_36_1_62.1.1.2.2 rfl (lv_at hl 2 rfl) ?_
    refine lv_iload_n hx hb dB_36_1_62.1.2.1.1 rfl (lv_at hl 3 rfl) ?_
    refine ct_S hP hD hS hA [ob7_0_ xh xc u1 u2 u3 u4 u5 u6 u7 u8] [0] (by decide) rfl (fun hPc hDw hFc hC_ => ?_)
    refine va_callv (va_runV (As := [.int a2, .int a3]) (rest := []) ⟨hx, hb, hml, hown, hts⟩ (c_X7_compareDense l D cy s.heap.size xh u1 u2 u3 u4 u5 u6 u7 u8 xc a2 a3) (cwV 2 hts gX7_chooseForDense_X7_compareDense rfl rfl rfl ⟨rfl, hd_X7_compareDense⟩ ⟨Nat.le_of_ble_eq_true rfl, Nat.le_of_ble_eq_true rfl⟩) ⟨bl_, va_recvX hK.1 hP (ci := 7) (q0 := 0) rfl rfl, fun U hU hW => ⟨rfl, by rw [hU], by rw [hU]; exact hPc, kk_mv hW hK, hDw⟩⟩ rfl rfl hl.1 rfl (lv_room (Nat.le_of_ble_eq_true rfl)) dB_36_1_62.1.2.1.2 ⟨Nat.le_of_ble_eq_true rfl, Nat.le_of_ble_eq_true rfl⟩) hS (fun q _ h => hFc q h) hFc (fun u t H locs ht hvm hw hB hz1 hk1 hS => ?_)
    obtain ⟨v7_3, v8_4, hP1, hD1⟩ := hB
    rw [ht] at hP1
    obtain ⟨hP, hD⟩ := va_join (wr := [ob0_0_ xc xn xk clo cro c4 c5 c6 c7 c8, ob3_0_ xn vp vn n1 n2 n3 n4 n5, aq_ cy 6 clo 12 (gf_ rl), ai_ cy (rl 0) 12 (Ml 0), ai_ cy (rl 1) 12 (Ml 1), ai_ cy (rl 2) 12 (Ml 2), ai_ cy (rl 3) 12 (Ml 3), ai_ cy (rl 4) 12 (Ml 4), ai_ cy (rl 5) 12 (Ml 5), ai_ cy (rl 6) 12 (Ml 6), ai_ cy (rl 7) 12 (Ml 7), ai_ cy (rl 8) 12 (Ml 8), ai_ cy (rl 9) 12 (Ml 9), ai_ cy (rl 10) 12 (Ml 10), ai_ cy (rl 11) 12 (Ml 11)]) (w1 := [ob7_0_ xh xc u1 u2 u3 u4 u5 u6 v7_3 v8_4]) hP hD [0] [1, 2, 3, 4, 5, 6, 7, 8, 9, 10, 11, 12, 13, 14, 15] hC_ rfl (by decide +kernel) (by decide +kernel) hk1 hFc hP1 hD1
    refine pd_S hP hD [ob7_0_ xh xc u1 u2 u3 u4 u5 u6 v7_3 v8_4, ob0_0_ xc xn xk clo cro c4 c5 c6 c7 c8, ob3_0_ xn vp vn n1 n2 n3 n4 n5, aq_ cy 6 clo 12 (gf_ rl), ai_ cy (rl 0) 12 (Ml 0), ai_ cy (rl 1) 12 (Ml 1), ai_ cy (rl 2) 12 (Ml 2), ai_ cy (rl 3) 12 (Ml 3), ai_ cy (rl 4) 12 (Ml 4), ai_ cy (rl 5) 12 (Ml 5), ai_ cy (rl 6) 12 (Ml 6), ai_ cy (rl 7) 12 (Ml 7), ai_ cy (rl 8) 12 (Ml 8), ai_ cy (rl 9) 12 (Ml 9), ai_ cy (rl 10) 12 (Ml 10), ai_ cy (rl 11) 12 (Ml 11)] [15, 0, 1, 2, 3, 4, 5, 6, 7, 8, 9, 10, 11, 12, 13, 14] (by decide +kernel) rfl (fun hP hD => ?_)
    rw [hQ]
    exact W.vret hx hb hr (fun t ht hW => ⟨⟨(), rfl, trivial, v7_3, v8_4, by rw [ht]; exact hP, hD⟩, hS.F ht⟩) hS.2.2 dB_36_1_62.1.2.2.1

set_option maxHeartbeats 4000000 in
set_option maxRecDepth 100000 in
theorem c_X7_chooseForDense_1 (l : Launch) (D : va_G) (cy : Nat → ClassId) (sz : Nat) (xh : Nat) (u1 : Int32) (u2 : Int32) (u3 : Int32) (u4 : Int32) (u5 : Int32) (u6 : Int32) (u7 : Int32) (u8 : Int32) (xc : Nat) (xk : Nat) (clo : Nat) (cro : Nat) (c4 : Nat) (c5 : Nat) (c6 : Nat) (c7 : Nat) (c8 : Nat) (xn : Nat) (n1 : Nat) (n2 : Nat) (n3 : Nat) (n4 : Nat) (n5 : Nat) (vp : Int32) (vn : Int32) (rl : Nat → Nat) (Ml : Nat → Nat → Int32) (a1 : Int32) (a2 : Int32) (a3 : Int32) (hvp : 0 ≤ vp.toInt ∧ vp.toInt ≤ 12) (q1 : -1 ≤ a1.toInt ∧ a1.toInt < 1) : Met l yX7_chooseForDense wsX7_chooseForDense ({ frames := 3, cells := 0, slots := 0, locals := 69 }) (va_Pc [.ref xh, .int a1, .int a2, .int a3] (fun U => U.heap.size = sz ∧ va_P D vwCl [ob7_0_ xh xc u1 u2 u3 u4 u5 u6 u7 u8, ob0_0_ xc xn xk clo cro c4 c5 c6 c7 c8, ob3_0_ xn vp vn n1 n2 n3 n4 n5, aq_ cy 6 clo 12 (gf_ rl), ai_ cy (rl 0) 12 (Ml 0), ai_ cy (rl 1) 12 (Ml 1), ai_ cy (rl 2) 12 (Ml 2), ai_ cy (rl 3) 12 (Ml 3), ai_ cy (rl 4) 12 (Ml 4), ai_ cy (rl 5) 12 (Ml 5), ai_ cy (rl 6) 12 (Ml 6), ai_ cy (rl 7) 12 (Ml 7), ai_ cy (rl 8) 12 (Ml 8), ai_ cy (rl 9) 12 (Ml 9), ai_ cy (rl 10) 12 (Ml 10), ai_ cy (rl 11) 12 (Ml 11)] U.heap ∧ kg_ D cy U ∧ va_D (fun _ => True) [ob7_0_ xh xc u1 u2 u3 u4 u5 u6 u7 u8, ob0_0_ xc xn xk clo cro c4 c5 c6 c7 c8, ob3_0_ xn vp vn n1 n2 n3 n4 n5, aq_ cy 6 clo 12 (gf_ rl), ai_ cy (rl 0) 12 (Ml 0), ai_ cy (rl 1) 12 (Ml 1), ai_ cy (rl 2) 12 (Ml 2), ai_ cy (rl 3) 12 (Ml 3), ai_ cy (rl 4) 12 (Ml 4), ai_ cy (rl 5) 12 (Ml 5), ai_ cy (rl 6) 12 (Ml 6), ai_ cy (rl 7) 12 (Ml 7), ai_ cy (rl 8) 12 (Ml 8), ai_ cy (rl 9) 12 (Ml 9), ai_ cy (rl 10) 12 (Ml 10), ai_ cy (rl 11) 12 (Ml 11)])) (va_Qv (fun (_ : Unit) => True) (fun (_ : Unit) (t : State) => ∃ (v7 : Int32), ∃ (v8 : Int32), va_P D vwCl [ob7_0_ xh xc u1 u2 u3 u4 u5 u6 v7 v8, ob0_0_ xc xn xk clo cro c4 c5 c6 c7 c8, ob3_0_ xn vp vn n1 n2 n3 n4 n5, aq_ cy 6 clo 12 (gf_ rl), ai_ cy (rl 0) 12 (Ml 0), ai_ cy (rl 1) 12 (Ml 1), ai_ cy (rl 2) 12 (Ml 2), ai_ cy (rl 3) 12 (Ml 3), ai_ cy (rl 4) 12 (Ml 4), ai_ cy (rl 5) 12 (Ml 5), ai_ cy (rl 6) 12 (Ml 6), ai_ cy (rl 7) 12 (Ml 7), ai_ cy (rl 8) 12 (Ml 8), ai_ cy (rl 9) 12 (Ml 9), ai_ cy (rl 10) 12 (Ml 10), ai_ cy (rl 11) 12 (Ml 11)] t.heap ∧ va_D (va_A [ob7_0_ xh xc u1 u2 u3 u4 u5 u6 u7 u8, ob0_0_ xc xn xk clo cro c4 c5 c6 c7 c8, ob3_0_ xn vp vn n1 n2 n3 n4 n5, aq_ cy 6 clo 12 (gf_ rl), ai_ cy (rl 0) 12 (Ml 0), ai_ cy (rl 1) 12 (Ml 1), ai_ cy (rl 2) 12 (Ml 2), ai_ cy (rl 3) 12 (Ml 3), ai_ cy (rl 4) 12 (Ml 4), ai_ cy (rl 5) 12 (Ml 5), ai_ cy (rl 6) 12 (Ml 6), ai_ cy (rl 7) 12 (Ml 7), ai_ cy (rl 8) 12 (Ml 8), ai_ cy (rl 9) 12 (Ml 9), ai_ cy (rl 10) 12 (Ml 10), ai_ cy (rl 11) 12 (Ml 11)] sz) [ob7_0_ xh xc u1 u2 u3 u4 u5 u6 v7 v8, ob0_0_ xc xn xk clo cro c4 c5 c6 c7 c8, ob3_0_ xn vp vn n1 n2 n3 n4 n5, aq_ cy 6 clo 12 (gf_ rl), ai_ cy (rl 0) 12 (Ml 0), ai_ cy (rl 1) 12 (Ml 1), ai_ cy (rl 2) 12 (Ml 2), ai_ cy (rl 3) 12 (Ml 3), ai_ cy (rl 4) 12 (Ml 4), ai_ cy (rl 5) 12 (Ml 5), ai_ cy (rl 6) 12 (Ml 6), ai_ cy (rl 7) 12 (Ml 7), ai_ cy (rl 8) 12 (Ml 8), ai_ cy (rl 9) 12 (Ml 9), ai_ cy (rl 10) 12 (Ml 10), ai_ cy (rl 11) 12 (Ml 11)]) (va_A [ob7_0_ xh xc u1 u2 u3 u4 u5 u6 u7 u8, ob0_0_ xc xn xk clo cro c4 c5 c6 c7 c8, ob3_0_ xn vp vn n1 n2 n3 n4 n5, aq_ cy 6 clo 12 (gf_ rl), ai_ cy (rl 0) 12 (Ml 0), ai_ cy (rl 1) 12 (Ml 1), ai_ cy (rl 2) 12 (Ml 2), ai_ cy (rl 3) 12 (Ml 3), ai_ cy (rl 4) 12 (Ml 4), ai_ cy (rl 5) 12 (Ml 5), ai_ cy (rl 6) 12 (Ml 6), ai_ cy (rl 7) 12 (Ml 7), ai_ cy (rl 8) 12 (Ml 8), ai_ cy (rl 9) 12 (Ml 9), ai_ cy (rl 10) 12 (Ml 10), ai_ cy (rl 11) 12 (Ml 11)] sz)) 0 0 (va_A [ob7_0_ xh xc u1 u2 u3 u4 u5 u6 u7 u8, ob0_0_ xc xn xk clo cro c4 c5 c6 c7 c8, ob3_0_ xn vp vn n1 n2 n3 n4 n5, aq_ cy 6 clo 12 (gf_ rl), ai_ cy (rl 0) 12 (Ml 0), ai_ cy (rl 1) 12 (Ml 1), ai_ cy (rl 2) 12 (Ml 2), ai_ cy (rl 3) 12 (Ml 3), ai_ cy (rl 4) 12 (Ml 4), ai_ cy (rl 5) 12 (Ml 5), ai_ cy (rl 6) 12 (Ml 6), ai_ cy (rl 7) 12 (Ml 7), ai_ cy (rl 8) 12 (Ml 8), ai_ cy (rl 9) 12 (Ml 9), ai_ cy (rl 10) 12 (Ml 10), ai_ cy (rl 11) 12 (Ml 11)] sz) := by
  refine ofQ (cc := cX7_chooseForDense) (maxL := 4) (ret := none) (by decide) rfl ?_
  intro p e s m args below meth c s₁ Q hQ B hml hv
  obtain ⟨rfl, hsz, hP, hK, hD0⟩ := hv
  have hG := hK.2
  have hK := hK.1
  have hx := B.exec
  have hb := B.bytes
  have hr := B.returns
  have hts := atoms_spec (ws := wsX7_chooseForDense) B.pre
  have hown : s.vm.findClass RX7 = some m.cls := by have h_ := findClass_of_methodNamed B.named; exact h_
  have hlocks := B.notSynchronized
  subst hsz
  have hD := hD0.self (sz := s.heap.size)
  generalize hAe : va_A [ob7_0_ xh xc u1 u2 u3 u4 u5 u6 u7 u8, ob0_0_ xc xn xk clo cro c4 c5 c6 c7 c8, ob3_0_ xn vp vn n1 n2 n3 n4 n5, aq_ cy 6 clo 12 (gf_ rl), ai_ cy (rl 0) 12 (Ml 0), ai_ cy (rl 1) 12 (Ml 1), ai_ cy (rl 2) 12 (Ml 2), ai_ cy (rl 3) 12 (Ml 3), ai_ cy (rl 4) 12 (Ml 4), ai_ cy (rl 5) 12 (Ml 5), ai_ cy (rl 6) 12 (Ml 6), ai_ cy (rl 7) 12 (Ml 7), ai_ cy (rl 8) 12 (Ml 8), ai_ cy (rl 9) 12 (Ml 9), ai_ cy (rl 10) 12 (Ml 10), ai_ cy (rl 11) 12 (Ml 11)] s.heap.size = A at hD hQ
  have hA : ∀ q : Nat, s.heap.size ≤ q → A q := fun q h => by rw [← hAe]; exact Or.inr h
  have hS : va_S A s.heap s.heap [] := va_S.rf
  have hl := lv_entry ([.ref xh, .int a1, .int a2, .int a3]) (n := 4) (Nat.le_of_ble_eq_true rfl)
  rw [lg_entry_eq]
  generalize (lg_sl ([.ref xh, .int a1, .int a2, .int a3]) ++ List.replicate (4 - (lg_sl ([.ref xh, .int a1, .int a2, .int a3])).length) Slot.unset).toArray = ls at hl ⊢
  have hl : lv_has ls 4 [(0, .ref xh), (1, .int a1), (2, .int a2), (3, .int a3)] := hl
  have z0 : (0 : Int32).toInt = 0 := by decide
  have z1 : (1 : Int32).toInt = 1 := by decide
  refine lv_iload_n hx hb dB_36_1_62.1.1.1.1 rfl (lv_at hl 1 rfl) ?_
  refine lv_if_ge (tgt := 11) hx hb dB_36_1_62.1.1.1.2 (by decide) (fun c_1 => ?_) (fun c_1 => ?_)
  · have t_1 : (0 : Int32).toInt ≤ a1.toInt := Int32.le_iff_toInt_le.mp c_1
    refine lv_aload_n hx hb dB_36_1_62.1.2.2.2 rfl (lv_at hl 0 rfl) ?_
    refine lv_iload_n hx hb dB_36_1_62.2.1.1.1 rfl (lv_at hl 1 rfl) ?_
    refine lv_iconst (v := 1) hx hb dB_36_1_62.2.1.1.2 (by decide) ?_
    refine lv_isub hx hb dB_36_1_62.2.1.2.1 ?_
    refine lv_topi (fun y_2 ey_2 => ?_)
    have ty_2 : y_2.toInt = a1.toInt - (1 : Int32).toInt := by rw [ey_2]; exact subI (by omega) (by omega)
    refine lv_iload_n hx hb dB_36_1_62.2.1.2.2 rfl (lv_at hl 2 rfl) ?_
    refine lv_iload_n hx hb dB_36_1_62.2.2.1.1 rfl (lv_at hl 3 rfl) ?_
    refine ct_S hP hD hS hA [ob7_0_ xh xc u1 u2 u3 u4 u5 u6 u7 u8, ob0_0_ xc xn xk clo cro c4 c5 c6 c7 c8, ob3_0_ xn vp vn n1 n2 n3 n4 n5, aq_ cy 6 clo 12 (gf_ rl), ai_ cy (rl 0) 12 (Ml 0), ai_ cy (rl 1) 12 (Ml 1), ai_ cy (rl 2) 12 (Ml 2), ai_ cy (rl 3) 12 (Ml 3), ai_ cy (rl 4) 12 (Ml 4), ai_ cy (rl 5) 12 (Ml 5), ai_ cy (rl 6) 12 (Ml 6), ai_ cy (rl 7) 12 (Ml 7), ai_ cy (rl 8) 12 (Ml 8), ai_ cy (rl 9) 12 (Ml 9), ai_ cy (rl 10) 12 (Ml 10), ai_ cy (rl 11) 12 (Ml 11)] [0, 1, 2, 3, 4, 5, 6, 7, 8, 9, 10, 11, 12, 13, 14, 15] (by decide +kernel) rfl (fun hPc hDw hFc hC_ => ?_)
    refine va_callv (va_runV (As := [.int y_2, .int a2, .int a3]) (rest := []) ⟨hx, hb, hml, hown, hts⟩ (c_X7_chooseForDense_0 l D cy s.heap.size xh u1 u2 u3 u4 u5 u6 u7 u8 xc xk clo cro c4 c5 c6 c7 c8 xn n1 n2 n3 n4 n5 vp vn rl Ml y_2 a2 a3 (by first | with_reducible assumption | omega | assumption) (by first | with_reducible assumption | omega | assumption)) (cwV 3 hts gX7_chooseForDense_X7_chooseForDense rfl rfl rfl ⟨rfl, hd_X7_chooseForDense⟩ ⟨Nat.le_of_ble_eq_true rfl, Nat.le_of_ble_eq_true rfl⟩) ⟨bl_g, va_recvX hK.1 hP (ci := 7) (q0 := 0) rfl rfl, fun U hU hW => ⟨rfl, by rw [hU], by rw [hU]; exact hPc, ⟨kk_mv hW hK, arrOfT_moved hW.alike hG⟩, hDw⟩⟩ rfl rfl hl.1 rfl (lv_room (Nat.le_of_ble_eq_true rfl)) dB_36_1_62.2.2.1.2 ⟨Nat.le_of_ble_eq_true rfl, Nat.le_of_ble_eq_true rfl⟩) hS (fun q _ h => hFc q h) hFc (fun u t H locs ht hvm hw hB hz1 hk1 hS => ?_)
    obtain ⟨v7_4, v8_5, hP1, hD1⟩ := hB
    rw [ht] at hP1
    obtain ⟨hP, hD⟩ := va_join (wr := []) (w1 := [ob7_0_ xh xc u1 u2 u3 u4 u5 u6 v7_4 v8_5, ob0_0_ xc xn xk clo cro c4 c5 c6 c7 c8, ob3_0_ xn vp vn n1 n2 n3 n4 n5, aq_ cy 6 clo 12 (gf_ rl), ai_ cy (rl 0) 12 (Ml 0), ai_ cy (rl 1) 12 (Ml 1), ai_ cy (rl 2) 12 (Ml 2), ai_ cy (rl 3) 12 (Ml 3), ai_ cy (rl 4) 12 (Ml 4), ai_ cy (rl 5) 12 (Ml 5), ai_ cy (rl 6) 12 (Ml 6), ai_ cy (rl 7) 12 (Ml 7), ai_ cy (rl 8) 12 (Ml 8), ai_ cy (rl 9) 12 (Ml 9), ai_ cy (rl 10) 12 (Ml 10), ai_ cy (rl 11) 12 (Ml 11)]) hP hD [0, 1, 2, 3, 4, 5, 6, 7, 8, 9, 10, 11, 12, 13, 14, 15] [] hC_ rfl (by decide) (by decide) hk1 hFc hP1 hD1
    refine pd_K [ob7_0_ xh xc u1 u2 u3 u4 u5 u6 v7_4 v8_5, ob0_0_ xc xn xk clo cro c4 c5 c6 c7 c8, ob3_0_ xn vp vn n1 n2 n3 n4 n5, aq_ cy 6 clo 12 (gf_ rl), ai_ cy (rl 0) 12 (Ml 0), ai_ cy (rl 1) 12 (Ml 1), ai_ cy (rl 2) 12 (Ml 2), ai_ cy (rl 3) 12 (Ml 3), ai_ cy (rl 4) 12 (Ml 4), ai_ cy (rl 5) 12 (Ml 5), ai_ cy (rl 6) 12 (Ml 6), ai_ cy (rl 7) 12 (Ml 7), ai_ cy (rl 8) 12 (Ml 8), ai_ cy (rl 9) 12 (Ml 9), ai_ cy (rl 10) 12 (Ml 10), ai_ cy (rl 11) 12 (Ml 11)] hP hD (fun hP hD => ?_)
    refine lv_aload_n hx hb dB_36_1_62.2.2.2.1 rfl (lv_at hl 0 rfl) ?_
    refine lv_iload_n hx hb dB_36_1_62.2.2.2.2 rfl (lv_at hl 1 rfl) ?_
    refine lv_iconst (v := 1) hx hb dB_36_1_63.1.1.1 (by decide) ?_
    refine lv_isub hx hb dB_36_1_63.1.1.2.1 ?_
    refine lv_topi (fun y_6 ey_6 => ?_)
    have e_ := (ey_6.trans ey_2.symm).symm
    subst e_
    refine lv_iload_n hx hb dB_36_1_63.1.1.2.2 rfl (lv_at hl 2 rfl) ?_
    refine lv_iconst (v := 1) hx hb dB_36_1_63.1.2.1.1 (by decide) ?_
    refine lv_iload_n hx hb dB_36_1_63.1.2.1.2 rfl (lv_at hl 1 rfl) ?_
    refine lv_ishl hx hb dB_36_1_63.1.2.2.1 ?_
    refine lv_topi (fun y_7 ey_7 => ?_)
    refine lv_ior hx hb dB_36_1_63.1.2.2.2 ?_
    refine lv_topi (fun y_8 ey_8 => ?_)
    refine lv_iload_n hx hb dB_36_1_63.2.1.1.1 rfl (lv_at hl 3 rfl) ?_
    refine lv_aload_n hx hb dB_36_1_63.2.1.1.2 rfl (lv_at hl 0 rfl) ?_
    refine lv_iload_n hx hb dB_36_1_63.2.1.2.1 rfl (lv_at hl 1 rfl) ?_
    refine lv_iload_n hx hb dB_36_1_63.2.1.2.2 rfl (lv_at hl 2 rfl) ?_
    refine ct_R hP hD [ob7_0_ xh xc u1 u2 u3 u4 u5 u6 v7_4 v8_5, ob0_0_ xc xn xk clo cro c4 c5 c6 c7 c8, ob3_0_ xn vp vn n1 n2 n3 n4 n5, aq_ cy 6 clo 12 (gf_ rl), ai_ cy (rl 0) 12 (Ml 0), ai_ cy (rl 1) 12 (Ml 1), ai_ cy (rl 2) 12 (Ml 2), ai_ cy (rl 3) 12 (Ml 3), ai_ cy (rl 4) 12 (Ml 4), ai_ cy (rl 5) 12 (Ml 5), ai_ cy (rl 6) 12 (Ml 6), ai_ cy (rl 7) 12 (Ml 7), ai_ cy (rl 8) 12 (Ml 8), ai_ cy (rl 9) 12 (Ml 9), ai_ cy (rl 10) 12 (Ml 10), ai_ cy (rl 11) 12 (Ml 11)] [0, 1, 2, 3, 4, 5, 6, 7, 8, 9, 10, 11, 12, 13, 14, 15] (by decide +kernel) rfl (fun hPc hDw => ?_)
    have hFc := va_free (wc := []) hD hS hA [] rfl
    refine va_calli (va_runV (As := [.int a1, .int a2]) (rest := [.int a3, .int y_8, .int y_2, .ref xh]) ⟨hx, hb, hml, hown, hts⟩ (c_X7_letIn l D cy H.size xh u1 u2 u3 u4 u5 u6 v7_4 v8_5 xc xk clo cro c4 c5 c6 c7 c8 xn n1 n2 n3 n4 n5 vp vn rl Ml a1 a2 (by first | with_reducible assumption | omega | assumption) (by first | with_reducible assumption | omega | assumption)) (cwV 2 hts gX7_chooseForDense_X7_letIn rfl rfl rfl ⟨rfl, hd_X7_letIn⟩ ⟨Nat.le_of_ble_eq_true rfl, Nat.le_of_ble_eq_true rfl⟩) ⟨bl_g, va_recvX hK.1 hP (ci := 7) (q0 := 0) rfl rfl, fun U hU hW => ⟨rfl, by rw [hU], by rw [hU]; exact hPc, ⟨kk_mv hW hK, arrOfT_moved hW.alike hG⟩, hDw⟩⟩ rfl rfl hl.1 rfl (lv_room (Nat.le_of_ble_eq_true rfl)) dB_36_1_63.2.2.1.1 ⟨Nat.le_of_ble_eq_true rfl, Nat.le_of_ble_eq_true rfl⟩) hS (fun q _ h => hFc q h) hFc (fun r_9 u t H locs ht hvm hw hB hz1 hk1 hS => ?_)
    have hP : va_P D vwCl _ H := ro_keep hP hk1
    refine lv_iadd hx hb dB_36_1_63.2.2.1.2 ?_
    refine lv_topi (fun y_10 ey_10 => ?_)
    refine ct_S hP hD hS hA [ob7_0_ xh xc u1 u2 u3 u4 u5 u6 v7_4 v8_5, ob0_0_ xc xn xk clo cro c4 c5 c6 c7 c8, ob3_0_ xn vp vn n1 n2 n3 n4 n5, aq_ cy 6 clo 12 (gf_ rl), ai_ cy (rl 0) 12 (Ml 0), ai_ cy (rl 1) 12 (Ml 1), ai_ cy (rl 2) 12 (Ml 2), ai_ cy (rl 3) 12 (Ml 3), ai_ cy (rl 4) 12 (Ml 4), ai_ cy (rl 5) 12 (Ml 5), ai_ cy (rl 6) 12 (Ml 6), ai_ cy (rl 7) 12 (Ml 7), ai_ cy (rl 8) 12 (Ml 8), ai_ cy (rl 9) 12 (Ml 9), ai_ cy (rl 10) 12 (Ml 10), ai_ cy (rl 11) 12 (Ml 11)] [0, 1, 2, 3, 4, 5, 6, 7, 8, 9, 10, 11, 12, 13, 14, 15] (by decide +kernel) rfl (fun hPc hDw hFc hC_ => ?_)
    refine va_callv (va_runV (As := [.int y_2, .int y_8, .int y_10]) (rest := []) ⟨hx, hb, hml, hown, hts⟩ (c_X7_chooseForDense_0 l D cy H.size xh u1 u2 u3 u4 u5 u6 v7_4 v8_5 xc xk clo cro c4 c5 c6 c7 c8 xn n1 n2 n3 n4 n5 vp vn rl Ml y_2 y_8 y_10 (by first | with_reducible assumption | omega | assumption) (by first | with_reducible assumption | omega | assumption)) (cwV 3 hts gX7_chooseForDense_X7_chooseForDense rfl rfl rfl ⟨rfl, hd_X7_chooseForDense⟩ ⟨Nat.le_of_ble_eq_true rfl, Nat.le_of_ble_eq_true rfl⟩) ⟨bl_g, va_recvX hK.1 hP (ci := 7) (q0 := 0) rfl rfl, fun U hU hW => ⟨rfl, by rw [hU], by rw [hU]; exact hPc, ⟨kk_mv hW hK, arrOfT_moved hW.alike hG⟩, hDw⟩⟩ rfl rfl hl.1 rfl (lv_room (Nat.le_of_ble_eq_true rfl)) dB_36_1_63.2.2.2.1 ⟨Nat.le_of_ble_eq_true rfl, Nat.le_of_ble_eq_true rfl⟩) hS (fun q _ h => hFc q h) hFc (fun u t H locs ht hvm hw hB hz1 hk1 hS => ?_)
    obtain ⟨v7_12, v8_13, hP1, hD1⟩ := hB
    rw [ht] at hP1
    obtain ⟨hP, hD⟩ := va_join (wr := []) (w1 := [ob7_0_ xh xc u1 u2 u3 u4 u5 u6 v7_12 v8_13, ob0_0_ xc xn xk clo cro c4 c5 c6 c7 c8, ob3_0_ xn vp vn n1 n2 n3 n4 n5, aq_ cy 6 clo 12 (gf_ rl), ai_ cy (rl 0) 12 (Ml 0), ai_ cy (rl 1) 12 (Ml 1), ai_ cy (rl 2) 12 (Ml 2), ai_ cy (rl 3) 12 (Ml 3), ai_ cy (rl 4) 12 (Ml 4), ai_ cy (rl 5) 12 (Ml 5), ai_ cy (rl 6) 12 (Ml 6), ai_ cy (rl 7) 12 (Ml 7), ai_ cy (rl 8) 12 (Ml 8), ai_ cy (rl 9) 12 (Ml 9), ai_ cy (rl 10) 12 (Ml 10), ai_ cy (rl 11) 12 (Ml 11)]) hP hD [0, 1, 2, 3, 4, 5, 6, 7, 8, 9, 10, 11, 12, 13, 14, 15] [] hC_ rfl (by decide) (by decide) hk1 hFc hP1 hD1
    refine pd_K [ob7_0_ xh xc u1 u2 u3 u4 u5 u6 v7_12 v8_13, ob0_0_ xc xn xk clo cro c4 c5 c6 c7 c8, ob3_0_ xn vp vn n1 n2 n3 n4 n5, aq_ cy 6 clo 12 (gf_ rl), ai_ cy (rl 0) 12 (Ml 0), ai_ cy (rl 1) 12 (Ml 1), ai_ cy (rl 2) 12 (Ml 2), ai_ cy (rl 3) 12 (Ml 3), ai_ cy (rl 4) 12 (Ml 4), ai_ cy (rl 5) 12 (Ml 5), ai_ cy (rl 6) 12 (Ml 6), ai_ cy (rl 7) 12 (Ml 7), ai_ cy (rl 8) 12 (Ml 8), ai_ cy (rl 9) 12 (Ml 9), ai_ cy (rl 10) 12 (Ml 10), ai_ cy (rl 11) 12 (Ml 11)] hP hD (fun hP hD => ?_)
    rw [hQ]
    exact W.vret hx hb hr (fun t ht hW => ⟨⟨(), rfl, trivial, v7_12, v8_13, by rw [ht]; exact hP, hD⟩, hS.F ht⟩) hS.2.2 dB_36_1_63.2.2.2.2
  · have t_1 : ¬ (0 : Int32).toInt ≤ a1.toInt := fun h => c_1 (Int32.le_iff_toInt_le.mpr h)
    refine lv_aload_n hx hb dB_36_1_62.1.1.2.1 rfl (lv_at hl 0 rfl) ?_
    refine lv_iload_n hx hb dB_36_1_62.1.1.2.2 rfl (lv_at hl 2 rfl) ?_
    refine lv_iload_n hx hb dB_36_1_62.1.2.1.1 rfl (lv_at hl 3 rfl) ?_
    refine ct_S hP hD hS hA [ob7_0_ xh xc u1 u2 u3 u4 u5 u6 u7 u8] [0] (by decide) rfl (fun hPc hDw hFc hC_ => ?_)
    refine va_callv (va_runV (As := [.int a2, .int a3]) (rest := []) ⟨hx, hb, hml, hown, hts⟩ (c_X7_compareDense l D cy s.heap.size xh u1 u2 u3 u4 u5 u6 u7 u8 xc a2 a3) (cwV 2 hts gX7_chooseForDense_X7_compareDense rfl rfl rfl ⟨rfl, hd_X7_compareDense⟩ ⟨Nat.le_of_ble_eq_true rfl, Nat.le_of_ble_eq_true rfl⟩) ⟨bl_, va_recvX hK.1 hP (ci := 7) (q0 := 0) rfl rfl, fun U hU hW => ⟨rfl, by rw [hU], by rw [hU]; exact hPc, kk_mv hW hK, hDw⟩⟩ rfl rfl hl.1 rfl (lv_room (Nat.le_of_ble_eq_true rfl)) dB_36_1_62.1.2.1.2 ⟨Nat.le_of_ble_eq_true rfl, Nat.le_of_ble_eq_true rfl⟩) hS (fun q _ h => hFc q h) hFc (fun u t H locs ht hvm hw hB hz1 hk1 hS => ?_)
    obtain ⟨v7_15, v8_16, hP1, hD1⟩ := hB
    rw [ht] at hP1
    obtain ⟨hP, hD⟩ := va_join (wr := [ob0_0_ xc xn xk clo cro c4 c5 c6 c7 c8, ob3_0_ xn vp vn n1 n2 n3 n4 n5, aq_ cy 6 clo 12 (gf_ rl), ai_ cy (rl 0) 12 (Ml 0), ai_ cy (rl 1) 12 (Ml 1), ai_ cy (rl 2) 12 (Ml 2), ai_ cy (rl 3) 12 (Ml 3), ai_ cy (rl 4) 12 (Ml 4), ai_ cy (rl 5) 12 (Ml 5), ai_ cy (rl 6) 12 (Ml 6), ai_ cy (rl 7) 12 (Ml 7), ai_ cy (rl 8) 12 (Ml 8), ai_ cy (rl 9) 12 (Ml 9), ai_ cy (rl 10) 12 (Ml 10), ai_ cy (rl 11) 12 (Ml 11)]) (w1 := [ob7_0_ xh xc u1 u2 u3 u4 u5 u6 v7_15 v8_16]) hP hD [0] [1, 2, 3, 4, 5, 6, 7, 8, 9, 10, 11, 12, 13, 14, 15] hC_ rfl (by decide +kernel) (by decide +kernel) hk1 hFc hP1 hD1
    refine pd_S hP hD [ob7_0_ xh xc u1 u2 u3 u4 u5 u6 v7_15 v8_16, ob0_0_ xc xn xk clo cro c4 c5 c6 c7 c8, ob3_0_ xn vp vn n1 n2 n3 n4 n5, aq_ cy 6 clo 12 (gf_ rl), ai_ cy (rl 0) 12 (Ml 0), ai_ cy (rl 1) 12 (Ml 1), ai_ cy (rl 2) 12 (Ml 2), ai_ cy (rl 3) 12 (Ml 3), ai_ cy (rl 4) 12 (Ml 4), ai_ cy (rl 5) 12 (Ml 5), ai_ cy (rl 6) 12 (Ml 6), ai_ cy (rl 7) 12 (Ml 7), ai_ cy (rl 8) 12 (Ml 8), ai_ cy (rl 9) 12 (Ml 9), ai_ cy (rl 10) 12 (Ml 10), ai_ cy (rl 11) 12 (Ml 11)] [15, 0, 1, 2, 3, 4, 5, 6, 7, 8, 9, 10, 11, 12, 13, 14] (by decide +kernel) rfl (fun hP hD => ?_)
    rw [hQ]
    exact W.vret hx hb hr (fun t ht hW => ⟨⟨(), rfl, trivial, v7_15, v8_16, by rw [ht]; exact hP, hD⟩, hS.F ht⟩) hS.2.2 dB_36_1_62.1.2.2.1

set_option maxHeartbeats 4000000 in
set_option maxRecDepth 100000 in
theorem c_X7_chooseForDense_2 (l : Launch) (D : va_G) (cy : Nat → ClassId) (sz : Nat) (xh : Nat) (u1 : Int32) (u2 : Int32) (u3 : Int32) (u4 : Int32) (u5 : Int32) (u6 : Int32) (u7 : Int32) (u8 : Int32) (xc : Nat) (xk : Nat) (clo : Nat) (cro : Nat) (c4 : Nat) (c5 : Nat) (c6 : Nat) (c7 : Nat) (c8 : Nat) (xn : Nat) (n1 : Nat) (n2 : Nat) (n3 : Nat) (n4 : Nat) (n5 : Nat) (vp : Int32) (vn : Int32) (rl : Nat → Nat) (Ml : Nat → Nat → Int32) (a1 : Int32) (a2 : Int32) (a3 : Int32) (hvp : 0 ≤ vp.toInt ∧ vp.toInt ≤ 12) (q1 : -1 ≤ a1.toInt ∧ a1.toInt < 2) : Met l yX7_chooseForDense wsX7_chooseForDense ({ frames := 4, cells := 0, slots := 0, locals := 92 }) (va_Pc [.ref xh, .int a1, .int a2, .int a3] (fun U => U.heap.size = sz ∧ va_P D vwCl [ob7_0_ xh xc u1 u2 u3 u4 u5 u6 u7 u8, ob0_0_ xc xn xk clo cro c4 c5 c6 c7 c8, ob3_0_ xn vp vn n1 n2 n3 n4 n5, aq_ cy 6 clo 12 (gf_ rl), ai_ cy (rl 0) 12 (Ml 0), ai_ cy (rl 1) 12 (Ml 1), ai_ cy (rl 2) 12 (Ml 2), ai_ cy (rl 3) 12 (Ml 3), ai_ cy (rl 4) 12 (Ml 4), ai_ cy (rl 5) 12 (Ml 5), ai_ cy (rl 6) 12 (Ml 6), ai_ cy (rl 7) 12 (Ml 7), ai_ cy (rl 8) 12 (Ml 8), ai_ cy (rl 9) 12 (Ml 9), ai_ cy (rl 10) 12 (Ml 10), ai_ cy (rl 11) 12 (Ml 11)] U.heap ∧ kg_ D cy U ∧ va_D (fun _ => True) [ob7_0_ xh xc u1 u2 u3 u4 u5 u6 u7 u8, ob0_0_ xc xn xk clo cro c4 c5 c6 c7 c8, ob3_0_ xn vp vn n1 n2 n3 n4 n5, aq_ cy 6 clo 12 (gf_ rl), ai_ cy (rl 0) 12 (Ml 0), ai_ cy (rl 1) 12 (Ml 1), ai_ cy (rl 2) 12 (Ml 2), ai_ cy (rl 3) 12 (Ml 3), ai_ cy (rl 4) 12 (Ml 4), ai_ cy (rl 5) 12 (Ml 5), ai_ cy (rl 6) 12 (Ml 6), ai_ cy (rl 7) 12 (Ml 7), ai_ cy (rl 8) 12 (Ml 8), ai_ cy (rl 9) 12 (Ml 9), ai_ cy (rl 10) 12 (Ml 10), ai_ cy (rl 11) 12 (Ml 11)])) (va_Qv (fun (_ : Unit) => True) (fun (_ : Unit) (t : State) => ∃ (v7 : Int32), ∃ (v8 : Int32), va_P D vwCl [ob7_0_ xh xc u1 u2 u3 u4 u5 u6 v7 v8, ob0_0_ xc xn xk clo cro c4 c5 c6 c7 c8, ob3_0_ xn vp vn n1 n2 n3 n4 n5, aq_ cy 6 clo 12 (gf_ rl), ai_ cy (rl 0) 12 (Ml 0), ai_ cy (rl 1) 12 (Ml 1), ai_ cy (rl 2) 12 (Ml 2), ai_ cy (rl 3) 12 (Ml 3), ai_ cy (rl 4) 12 (Ml 4), ai_ cy (rl 5) 12 (Ml 5), ai_ cy (rl 6) 12 (Ml 6), ai_ cy (rl 7) 12 (Ml 7), ai_ cy (rl 8) 12 (Ml 8), ai_ cy (rl 9) 12 (Ml 9), ai_ cy (rl 10) 12 (Ml 10), ai_ cy (rl 11) 12 (Ml 11)] t.heap ∧ va_D (va_A [ob7_0_ xh xc u1 u2 u3 u4 u5 u6 u7 u8, ob0_0_ xc xn xk clo cro c4 c5 c6 c7 c8, ob3_0_ xn vp vn n1 n2 n3 n4 n5, aq_ cy 6 clo 12 (gf_ rl), ai_ cy (rl 0) 12 (Ml 0), ai_ cy (rl 1) 12 (Ml 1), ai_ cy (rl 2) 12 (Ml 2), ai_ cy (rl 3) 12 (Ml 3), ai_ cy (rl 4) 12 (Ml 4), ai_ cy (rl 5) 12 (Ml 5), ai_ cy (rl 6) 12 (Ml 6), ai_ cy (rl 7) 12 (Ml 7), ai_ cy (rl 8) 12 (Ml 8), ai_ cy (rl 9) 12 (Ml 9), ai_ cy (rl 10) 12 (Ml 10), ai_ cy (rl 11) 12 (Ml 11)] sz) [ob7_0_ xh xc u1 u2 u3 u4 u5 u6 v7 v8, ob0_0_ xc xn xk clo cro c4 c5 c6 c7 c8, ob3_0_ xn vp vn n1 n2 n3 n4 n5, aq_ cy 6 clo 12 (gf_ rl), ai_ cy (rl 0) 12 (Ml 0), ai_ cy (rl 1) 12 (Ml 1), ai_ cy (rl 2) 12 (Ml 2), ai_ cy (rl 3) 12 (Ml 3), ai_ cy (rl 4) 12 (Ml 4), ai_ cy (rl 5) 12 (Ml 5), ai_ cy (rl 6) 12 (Ml 6), ai_ cy (rl 7) 12 (Ml 7), ai_ cy (rl 8) 12 (Ml 8), ai_ cy (rl 9) 12 (Ml 9), ai_ cy (rl 10) 12 (Ml 10), ai_ cy (rl 11) 12 (Ml 11)]) (va_A [ob7_0_ xh xc u1 u2 u3 u4 u5 u6 u7 u8, ob0_0_ xc xn xk clo cro c4 c5 c6 c7 c8, ob3_0_ xn vp vn n1 n2 n3 n4 n5, aq_ cy 6 clo 12 (gf_ rl), ai_ cy (rl 0) 12 (Ml 0), ai_ cy (rl 1) 12 (Ml 1), ai_ cy (rl 2) 12 (Ml 2), ai_ cy (rl 3) 12 (Ml 3), ai_ cy (rl 4) 12 (Ml 4), ai_ cy (rl 5) 12 (Ml 5), ai_ cy (rl 6) 12 (Ml 6), ai_ cy (rl 7) 12 (Ml 7), ai_ cy (rl 8) 12 (Ml 8), ai_ cy (rl 9) 12 (Ml 9), ai_ cy (rl 10) 12 (Ml 10), ai_ cy (rl 11) 12 (Ml 11)] sz)) 0 0 (va_A [ob7_0_ xh xc u1 u2 u3 u4 u5 u6 u7 u8, ob0_0_ xc xn xk clo cro c4 c5 c6 c7 c8, ob3_0_ xn vp vn n1 n2 n3 n4 n5, aq_ cy 6 clo 12 (gf_ rl), ai_ cy (rl 0) 12 (Ml 0), ai_ cy (rl 1) 12 (Ml 1), ai_ cy (rl 2) 12 (Ml 2), ai_ cy (rl 3) 12 (Ml 3), ai_ cy (rl 4) 12 (Ml 4), ai_ cy (rl 5) 12 (Ml 5), ai_ cy (rl 6) 12 (Ml 6), ai_ cy (rl 7) 12 (Ml 7), ai_ cy (rl 8) 12 (Ml 8), ai_ cy (rl 9) 12 (Ml 9), ai_ cy (rl 10) 12 (Ml 10), ai_ cy (rl 11) 12 (Ml 11)] sz) := by
  refine ofQ (cc := cX7_chooseForDense) (maxL := 4) (ret := none) (by decide) rfl ?_
  intro p e s m args below meth c s₁ Q hQ B hml hv
  obtain ⟨rfl, hsz, hP, hK, hD0⟩ := hv
  have hG := hK.2
  have hK := hK.1
  have hx := B.exec
  have hb := B.bytes
  have hr := B.returns
  have hts := atoms_spec (ws := wsX7_chooseForDense) B.pre
  have hown : s.vm.findClass RX7 = some m.cls := by have h_ := findClass_of_methodNamed B.named; exact h_
  have hlocks := B.notSynchronized
  subst hsz
  have hD := hD0.self (sz := s.heap.size)
  generalize hAe : va_A [ob7_0_ xh xc u1 u2 u3 u4 u5 u6 u7 u8, ob0_0_ xc xn xk clo cro c4 c5 c6 c7 c8, ob3_0_ xn vp vn n1 n2 n3 n4 n5, aq_ cy 6 clo 12 (gf_ rl), ai_ cy (rl 0) 12 (Ml 0), ai_ cy (rl 1) 12 (Ml 1), ai_ cy (rl 2) 12 (Ml 2), ai_ cy (rl 3) 12 (Ml 3), ai_ cy (rl 4) 12 (Ml 4), ai_ cy (rl 5) 12 (Ml 5), ai_ cy (rl 6) 12 (Ml 6), ai_ cy (rl 7) 12 (Ml 7), ai_ cy (rl 8) 12 (Ml 8), ai_ cy (rl 9) 12 (Ml 9), ai_ cy (rl 10) 12 (Ml 10), ai_ cy (rl 11) 12 (Ml 11)] s.heap.size = A at hD hQ
  have hA : ∀ q : Nat, s.heap.size ≤ q → A q := fun q h => by rw [← hAe]; exact Or.inr h
  have hS : va_S A s.heap s.heap [] := va_S.rf
  have hl := lv_entry ([.ref xh, .int a1, .int a2, .int a3]) (n := 4) (Nat.le_of_ble_eq_true rfl)
  rw [lg_entry_eq]
  generalize (lg_sl ([.ref xh, .int a1, .int a2, .int a3]) ++ List.replicate (4 - (lg_sl ([.ref xh, .int a1, .int a2, .int a3])).length) Slot.unset).toArray = ls at hl ⊢
  have hl : lv_has ls 4 [(0, .ref xh), (1, .int a1), (2, .int a2), (3, .int a3)] := hl
  have z0 : (0 : Int32).toInt = 0 := by decide
  have z1 : (1 : Int32).toInt = 1 := by decide
  refine lv_iload_n hx hb dB_36_1_62.1.1.1.1 rfl (lv_at hl 1 rfl) ?_
  refine lv_if_ge (tgt := 11) hx hb dB_36_1_62.1.1.1.2 (by decide) (fun c_1 => ?_) (fun c_1 => ?_)
  · have t_1 : (0 : Int32).toInt ≤ a1.toInt := Int32.le_iff_toInt_le.mp c_1
    refine lv_aload_n hx hb dB_36_1_62.1.2.2.2 rfl (lv_at hl 0 rfl) ?_
    refine lv_iload_n hx hb dB_36_1_62.2.1.1.1 rfl (lv_at hl 1 rfl) ?_
    refine lv_iconst (v := 1) hx hb dB_36_1_62.2.1.1.2 (by decide) ?_
    refine lv_isub hx hb dB_36_1_62.2.1.2.1 ?_
    refine lv_topi (fun y_2 ey_2 => ?_)
    have ty_2 : y_2.toInt = a1.toInt - (1 : Int32).toInt := by rw [ey_2]; exact subI (by omega) (by omega)
    refine lv_iload_n hx hb dB_36_1_62.2.1.2.2 rfl (lv_at hl 2 rfl) ?_
    refine lv_iload_n hx hb dB_36_1_62.2.2.1.1 rfl (lv_at hl 3 rfl) ?_
    refine ct_S hP hD hS hA [ob7_0_ xh xc u1 u2 u3 u4 u5 u6 u7 u8, ob0_0_ xc xn xk clo cro c4 c5 c6 c7 c8, ob3_0_ xn vp vn n1 n2 n3 n4 n5, aq_ cy 6 clo 12 (gf_ rl), ai_ cy (rl 0) 12 (Ml 0), ai_ cy (rl 1) 12 (Ml 1), ai_ cy (rl 2) 12 (Ml 2), ai_ cy (rl 3) 12 (Ml 3), ai_ cy (rl 4) 12 (Ml 4), ai_ cy (rl 5) 12 (Ml 5), ai_ cy (rl 6) 12 (Ml 6), ai_ cy (rl 7) 12 (Ml 7), ai_ cy (rl 8) 12 (Ml 8), ai_ cy (rl 9) 12 (Ml 9), ai_ cy (rl 10) 12 (Ml 10), ai_ cy (rl 11) 12 (Ml 11)] [0, 1, 2, 3, 4, 5, 6, 7, 8, 9, 10, 11, 12, 13, 14, 15] (by decide +kernel) rfl (fun hPc hDw hFc hC_ => ?_)
    refine va_callv (va_runV (As := [.int y_2, .int a2, .int a3]) (rest := []) ⟨hx, hb, hml, hown, hts⟩ (c_X7_chooseForDense_1 l D cy s.heap.size xh u1 u2 u3 u4 u5 u6 u7 u8 xc xk clo cro c4 c5 c6 c7 c8 xn n1 n2 n3 n4 n5 vp vn rl Ml y_2 a2 a3 (by first | with_reducible assumption | omega | assumption) (by first | with_reducible assumption | omega | assumption)) (cwV 3 hts gX7_chooseForDense_X7_chooseForDense rfl rfl rfl ⟨rfl, hd_X7_chooseForDense⟩ ⟨Nat.le_of_ble_eq_true rfl, Nat.le_of_ble_eq_true rfl⟩) ⟨bl_g, va_recvX hK.1 hP (ci := 7) (q0 := 0) rfl rfl, fun U hU hW => ⟨rfl, by rw [hU], by rw [hU]; exact hPc, ⟨kk_mv hW hK, arrOfT_moved hW.alike hG⟩, hDw⟩⟩ rfl rfl hl.1 rfl (lv_room (Nat.le_of_ble_eq_true rfl)) dB_36_1_62.2.2.1.2 ⟨Nat.le_of_ble_eq_true rfl, Nat.le_of_ble_eq_true rfl⟩) hS (fun q _ h => hFc q h) hFc (fun u t H locs ht hvm hw hB hz1 hk1 hS => ?_)
    obtain ⟨v7_4, v8_5, hP1, hD1⟩ := hB
    rw [ht] at hP1
    obtain ⟨hP, hD⟩ := va_join (wr := []) (w1 := [ob7_0_ xh xc u1 u2 u3 u4 u5 u6 v7_4 v8_5, ob0_0_ xc xn xk clo cro c4 c5 c6 c7 c8, ob3_0_ xn vp vn n1 n2 n3 n4 n5, aq_ cy 6 clo 12 (gf_ rl), ai_ cy (rl 0) 12 (Ml 0), ai_ cy (rl 1) 12 (Ml 1), ai_ cy (rl 2) 12 (Ml 2), ai_ cy (rl 3) 12 (Ml 3), ai_ cy (rl 4) 12 (Ml 4), ai_ cy (rl 5) 12 (Ml 5), ai_ cy (rl 6) 12 (Ml 6), ai_ cy (rl 7) 12 (Ml 7), ai_ cy (rl 8) 12 (Ml 8), ai_ cy (rl 9) 12 (Ml 9), ai_ cy (rl 10) 12 (Ml 10), ai_ cy (rl 11) 12 (Ml 11)]) hP hD [0, 1, 2, 3, 4, 5, 6, 7, 8, 9, 10, 11, 12, 13, 14, 15] [] hC_ rfl (by decide) (by decide) hk1 hFc hP1 hD1
    refine pd_K [ob7_0_ xh xc u1 u2 u3 u4 u5 u6 v7_4 v8_5, ob0_0_ xc xn xk clo cro c4 c5 c6 c7 c8, ob3_0_ xn vp vn n1 n2 n3 n4 n5, aq_ cy 6 clo 12 (gf_ rl), ai_ cy (rl 0) 12 (Ml 0), ai_ cy (rl 1) 12 (Ml 1), ai_ cy (rl 2) 12 (Ml 2), ai_ cy (rl 3) 12 (Ml 3), ai_ cy (rl 4) 12 (Ml 4), ai_ cy (rl 5) 12 (Ml 5), ai_ cy (rl 6) 12 (Ml 6), ai_ cy (rl 7) 12 (Ml 7), ai_ cy (rl 8) 12 (Ml 8), ai_ cy (rl 9) 12 (Ml 9), ai_ cy (rl 10) 12 (Ml 10), ai_ cy (rl 11) 12 (Ml 11)] hP hD (fun hP hD => ?_)
    refine lv_aload_n hx hb dB_36_1_62.2.2.2.1 rfl (lv_at hl 0 rfl) ?_
    refine lv_iload_n hx hb dB_36_1_62.2.2.2.2 rfl (lv_at hl 1 rfl) ?_
    refine lv_iconst (v := 1) hx hb dB_36_1_63.1.1.1 (by decide) ?_
    refine lv_isub hx hb dB_36_1_63.1.1.2.1 ?_
    refine lv_topi (fun y_6 ey_6 => ?_)
    have e_ := (ey_6.trans ey_2.symm).symm
    subst e_
    refine lv_iload_n hx hb dB_36_1_63.1.1.2.2 rfl (lv_at hl 2 rfl) ?_
    refine lv_iconst (v := 1) hx hb dB_36_1_63.1.2.1.1 (by decide) ?_
    refine lv_iload_n hx hb dB_36_1_63.1.2.1.2 rfl (lv_at hl 1 rfl) ?_
    refine lv_ishl hx hb dB_36_1_63.1.2.2.1 ?_
    refine lv_topi (fun y_7 ey_7 => ?_)
    refine lv_ior hx hb dB_36_1_63.1.2.2.2 ?_
    refine lv_topi (fun y_8 ey_8 => ?_)
    refine lv_iload_n hx hb dB_36_1_63.2.1.1.1 rfl (lv_at hl 3 rfl) ?_
    refine lv_aload_n hx hb dB_36_1_63.2.1.1.2 rfl (lv_at hl 0 rfl) ?_
    refine lv_iload_n hx hb dB_36_1_63.2.1.2.1 rfl (lv_at hl 1 rfl) ?_
    refine lv_iload_n hx hb dB_36_1_63.2.1.2.2 rfl (lv_at hl 2 rfl) ?_
    refine ct_R hP hD [ob7_0_ xh xc u1 u2 u3 u4 u5 u6 v7_4 v8_5, ob0_0_ xc xn xk clo cro c4 c5 c6 c7 c8, ob3_0_ xn vp vn n1 n2 n3 n4 n5, aq_ cy 6 clo 12 (gf_ rl), ai_ cy (rl 0) 12 (Ml 0), ai_ cy (rl 1) 12 (Ml 1), ai_ cy (rl 2) 12 (Ml 2), ai_ cy (rl 3) 12 (Ml 3), ai_ cy (rl 4) 12 (Ml 4), ai_ cy (rl 5) 12 (Ml 5), ai_ cy (rl 6) 12 (Ml 6), ai_ cy (rl 7) 12 (Ml 7), ai_ cy (rl 8) 12 (Ml 8), ai_ cy (rl 9) 12 (Ml 9), ai_ cy (rl 10) 12 (Ml 10), ai_ cy (rl 11) 12 (Ml 11)] [0, 1, 2, 3, 4, 5, 6, 7, 8, 9, 10, 11, 12, 13, 14, 15] (by decide +kernel) rfl (fun hPc hDw => ?_)
    have hFc := va_free (wc := []) hD hS hA [] rfl
    refine va_calli (va_runV (As := [.int a1, .int a2]) (rest := [.int a3, .int y_8, .int y_2, .ref xh]) ⟨hx, hb, hml, hown, hts⟩ (c_X7_letIn l D cy H.size xh u1 u2 u3 u4 u5 u6 v7_4 v8_5 xc xk clo cro c4 c5 c6 c7 c8 xn n1 n2 n3 n4 n5 vp vn rl Ml a1 a2 (by first | with_reducible assumption | omega | assumption) (by first | with_reducible assumption | omega | assumption)) (cwV 2 hts gX7_chooseForDense_X7_letIn rfl rfl rfl ⟨rfl, hd_X7_letIn⟩ ⟨Nat.le_of_ble_eq_true rfl, Nat.le_of_ble_eq_true rfl⟩) ⟨bl_g, va_recvX hK.1 hP (ci := 7) (q0 := 0) rfl rfl, fun U hU hW => ⟨rfl, by rw [hU], by rw [hU]; exact hPc, ⟨kk_mv hW hK, arrOfT_moved hW.alike hG⟩, hDw⟩⟩ rfl rfl hl.1 rfl (lv_room (Nat.le_of_ble_eq_true rfl)) dB_36_1_63.2.2.1.1 ⟨Nat.le_of_ble_eq_true rfl, Nat.le_of_ble_eq_true rfl⟩) hS (fun q _ h => hFc q h) hFc (fun r_9 u t H locs ht hvm hw hB hz1 hk1 hS => ?_)
    have hP : va_P D vwCl _ H := ro_keep hP hk1
    refine lv_iadd hx hb dB_36_1_63.2.2.1.2 ?_
    refine lv_topi (fun y_10 ey_10 => ?_)
    refine ct_S hP hD hS hA [ob7_0_ xh xc u1 u2 u3 u4 u5 u6 v7_4 v8_5, ob0_0_ xc xn xk clo cro c4 c5 c6 c7 c8, ob3_0_ xn vp vn n1 n2 n3 n4 n5, aq_ cy 6 clo 12 (gf_ rl), ai_ cy (rl 0) 12 (Ml 0), ai_ cy (rl 1) 12 (Ml 1), ai_ cy (rl 2) 12 (Ml 2), ai_ cy (rl 3) 12 (Ml 3), ai_ cy (rl 4) 12 (Ml 4), ai_ cy (rl 5) 12 (Ml 5), ai_ cy (rl 6) 12 (Ml 6), ai_ cy (rl 7) 12 (Ml 7), ai_ cy (rl 8) 12 (Ml 8), ai_ cy (rl 9) 12 (Ml 9), ai_ cy (rl 10) 12 (Ml 10), ai_ cy (rl 11) 12 (Ml 11)] [0, 1, 2, 3, 4, 5, 6, 7, 8, 9, 10, 11, 12, 13, 14, 15] (by decide +kernel) rfl (fun hPc hDw hFc hC_ => ?_)
    refine va_callv (va_runV (As := [.int y_2, .int y_8, .int y_10]) (rest := []) ⟨hx, hb, hml, hown, hts⟩ (c_X7_chooseForDense_1 l D cy H.size xh u1 u2 u3 u4 u5 u6 v7_4 v8_5 xc xk clo cro c4 c5 c6 c7 c8 xn n1 n2 n3 n4 n5 vp vn rl Ml y_2 y_8 y_10 (by first | with_reducible assumption | omega | assumption) (by first | with_reducible assumption | omega | assumption)) (cwV 3 hts gX7_chooseForDense_X7_chooseForDense rfl rfl rfl ⟨rfl, hd_X7_chooseForDense⟩ ⟨Nat.le_of_ble_eq_true rfl, Nat.le_of_ble_eq_true rfl⟩) ⟨bl_g, va_recvX hK.1 hP (ci := 7) (q0 := 0) rfl rfl, fun U hU hW => ⟨rfl, by rw [hU], by rw [hU]; exact hPc, ⟨kk_mv hW hK, arrOfT_moved hW.alike hG⟩, hDw⟩⟩ rfl rfl hl.1 rfl (lv_room (Nat.le_of_ble_eq_true rfl)) dB_36_1_63.2.2.2.1 ⟨Nat.le_of_ble_eq_true rfl, Nat.le_of_ble_eq_true rfl⟩) hS (fun q _ h => hFc q h) hFc (fun u t H locs ht hvm hw hB hz1 hk1 hS => ?_)
    obtain ⟨v7_12, v8_13, hP1, hD1⟩ := hB
    rw [ht] at hP1
    obtain ⟨hP, hD⟩ := va_join (wr := []) (w1 := [ob7_0_ xh xc u1 u2 u3 u4 u5 u6 v7_12 v8_13, ob0_0_ xc xn xk clo cro c4 c5 c6 c7 c8, ob3_0_ xn vp vn n1 n2 n3 n4 n5, aq_ cy 6 clo 12 (gf_ rl), ai_ cy (rl 0) 12 (Ml 0), ai_ cy (rl 1) 12 (Ml 1), ai_ cy (rl 2) 12 (Ml 2), ai_ cy (rl 3) 12 (Ml 3), ai_ cy (rl 4) 12 (Ml 4), ai_ cy (rl 5) 12 (Ml 5), ai_ cy (rl 6) 12 (Ml 6), ai_ cy (rl 7) 12 (Ml 7), ai_ cy (rl 8) 12 (Ml 8), ai_ cy (rl 9) 12 (Ml 9), ai_ cy (rl 10) 12 (Ml 10), ai_ cy (rl 11) 12 (Ml 11)]) hP hD [0, 1, 2, 3, 4, 5, 6, 7, 8, 9, 10, 11, 12, 13, 14, 15] [] hC_ rfl (by decide) (by decide) hk1 hFc hP1 hD1
    refine pd_K [ob7_0_ xh xc u1 u2 u3 u4 u5 u6 v7_12 v8_13, ob0_0_ xc xn xk clo cro c4 c5 c6 c7 c8, ob3_0_ xn vp vn n1 n2 n3 n4 n5, aq_ cy 6 clo 12 (gf_ rl), ai_ cy (rl 0) 12 (Ml 0), ai_ cy (rl 1) 12 (Ml 1), ai_ cy (rl 2) 12 (Ml 2), ai_ cy (rl 3) 12 (Ml 3), ai_ cy (rl 4) 12 (Ml 4), ai_ cy (rl 5) 12 (Ml 5), ai_ cy (rl 6) 12 (Ml 6), ai_ cy (rl 7) 12 (Ml 7), ai_ cy (rl 8) 12 (Ml 8), ai_ cy (rl 9) 12 (Ml 9), ai_ cy (rl 10) 12 (Ml 10), ai_ cy (rl 11) 12 (Ml 11)] hP hD (fun hP hD => ?_)
    rw [hQ]
    exact W.vret hx hb hr (fun t ht hW => ⟨⟨(), rfl, trivial, v7_12, v8_13, by rw [ht]; exact hP, hD⟩, hS.F ht⟩) hS.2.2 dB_36_1_63.2.2.2.2
  · have t_1 : ¬ (0 : Int32).toInt ≤ a1.toInt := fun h => c_1 (Int32.le_iff_toInt_le.mpr h)
    refine lv_aload_n hx hb dB_36_1_62.1.1.2.1 rfl (lv_at hl 0 rfl) ?_
    refine lv_iload_n hx hb dB_36_1_62.1.1.2.2 rfl (lv_at hl 2 rfl) ?_
    refine lv_iload_n hx hb dB_36_1_62.1.2.1.1 rfl (lv_at hl 3 rfl) ?_
    refine ct_S hP hD hS hA [ob7_0_ xh xc u1 u2 u3 u4 u5 u6 u7 u8] [0] (by decide) rfl (fun hPc hDw hFc hC_ => ?_)
    refine va_callv (va_runV (As := [.int a2, .int a3]) (rest := []) ⟨hx, hb, hml, hown, hts⟩ (c_X7_compareDense l D cy s.heap.size xh u1 u2 u3 u4 u5 u6 u7 u8 xc a2 a3) (cwV 2 hts gX7_chooseForDense_X7_compareDense rfl rfl rfl ⟨rfl, hd_X7_compareDense⟩ ⟨Nat.le_of_ble_eq_true rfl, Nat.le_of_ble_eq_true rfl⟩) ⟨bl_, va_recvX hK.1 hP (ci := 7) (q0 := 0) rfl rfl, fun U hU hW => ⟨rfl, by rw [hU], by rw [hU]; exact hPc, kk_mv hW hK, hDw⟩⟩ rfl rfl hl.1 rfl (lv_room (Nat.le_of_ble_eq_true rfl)) dB_36_1_62.1.2.1.2 ⟨Nat.le_of_ble_eq_true rfl, Nat.le_of_ble_eq_true rfl⟩) hS (fun q _ h => hFc q h) hFc (fun u t H locs ht hvm hw hB hz1 hk1 hS => ?_)
    obtain ⟨v7_15, v8_16, hP1, hD1⟩ := hB
    rw [ht] at hP1
    obtain ⟨hP, hD⟩ := va_join (wr := [ob0_0_ xc xn xk clo cro c4 c5 c6 c7 c8, ob3_0_ xn vp vn n1 n2 n3 n4 n5, aq_ cy 6 clo 12 (gf_ rl), ai_ cy (rl 0) 12 (Ml 0), ai_ cy (rl 1) 12 (Ml 1), ai_ cy (rl 2) 12 (Ml 2), ai_ cy (rl 3) 12 (Ml 3), ai_ cy (rl 4) 12 (Ml 4), ai_ cy (rl 5) 12 (Ml 5), ai_ cy (rl 6) 12 (Ml 6), ai_ cy (rl 7) 12 (Ml 7), ai_ cy (rl 8) 12 (Ml 8), ai_ cy (rl 9) 12 (Ml 9), ai_ cy (rl 10) 12 (Ml 10), ai_ cy (rl 11) 12 (Ml 11)]) (w1 := [ob7_0_ xh xc u1 u2 u3 u4 u5 u6 v7_15 v8_16]) hP hD [0] [1, 2, 3, 4, 5, 6, 7, 8, 9, 10, 11, 12, 13, 14, 15] hC_ rfl (by decide +kernel) (by decide +kernel) hk1 hFc hP1 hD1
    refine pd_S hP hD [ob7_0_ xh xc u1 u2 u3 u4 u5 u6 v7_15 v8_16, ob0_0_ xc xn xk clo cro c4 c5 c6 c7 c8, ob3_0_ xn vp vn n1 n2 n3 n4 n5, aq_ cy 6 clo 12 (gf_ rl), ai_ cy (rl 0) 12 (Ml 0), ai_ cy (rl 1) 12 (Ml 1), ai_ cy (rl 2) 12 (Ml 2), ai_ cy (rl 3) 12 (Ml 3), ai_ cy (rl 4) 12 (Ml 4), ai_ cy (rl 5) 12 (Ml 5), ai_ cy (rl 6) 12 (Ml 6), ai_ cy (rl 7) 12 (Ml 7), ai_ cy (rl 8) 12 (Ml 8), ai_ cy (rl 9) 12 (Ml 9), ai_ cy (rl 10) 12 (Ml 10), ai_ cy (rl 11) 12 (Ml 11)] [15, 0, 1, 2, 3, 4, 5, 6, 7, 8, 9, 10, 11, 12, 13, 14] (by decide +kernel) rfl (fun hP hD => ?_)
    rw [hQ]
    exact W.vret hx hb hr (fun t ht hW => ⟨⟨(), rfl, trivial, v7_15, v8_16, by rw [ht]; exact hP, hD⟩, hS.F ht⟩) hS.2.2 dB_36_1_62.1.2.2.1

set_option maxHeartbeats 4000000 in
set_option maxRecDepth 100000 in
theorem c_X7_chooseForDense_3 (l : Launch) (D : va_G) (cy : Nat → ClassId) (sz : Nat) (xh : Nat) (u1 : Int32) (u2 : Int32) (u3 : Int32) (u4 : Int32) (u5 : Int32) (u6 : Int32) (u7 : Int32) (u8 : Int32) (xc : Nat) (xk : Nat) (clo : Nat) (cro : Nat) (c4 : Nat) (c5 : Nat) (c6 : Nat) (c7 : Nat) (c8 : Nat) (xn : Nat) (n1 : Nat) (n2 : Nat) (n3 : Nat) (n4 : Nat) (n5 : Nat) (vp : Int32) (vn : Int32) (rl : Nat → Nat) (Ml : Nat → Nat → Int32) (a1 : Int32) (a2 : Int32) (a3 : Int32) (hvp : 0 ≤ vp.toInt ∧ vp.toInt ≤ 12) (q1 : -1 ≤ a1.toInt ∧ a1.toInt < 3) : Met l yX7_chooseForDense wsX7_chooseForDense ({ frames := 5, cells := 0, slots := 0, locals := 115 }) (va_Pc [.ref xh, .int a1, .int a2, .int a3] (fun U => U.heap.size = sz ∧ va_P D vwCl [ob7_0_ xh xc u1 u2 u3 u4 u5 u6 u7 u8, ob0_0_ xc xn xk clo cro c4 c5 c6 c7 c8, ob3_0_ xn vp vn n1 n2 n3 n4 n5, aq_ cy 6 clo 12 (gf_ rl), ai_ cy (rl 0) 12 (Ml 0), ai_ cy (rl 1) 12 (Ml 1), ai_ cy (rl 2) 12 (Ml 2), ai_ cy (rl 3) 12 (Ml 3), ai_ cy (rl 4) 12 (Ml 4), ai_ cy (rl 5) 12 (Ml 5), ai_ cy (rl 6) 12 (Ml 6), ai_ cy (rl 7) 12 (Ml 7), ai_ cy (rl 8) 12 (Ml 8), ai_ cy (rl 9) 12 (Ml 9), ai_ cy (rl 10) 12 (Ml 10), ai_ cy (rl 11) 12 (Ml 11)] U.heap ∧ kg_ D cy U ∧ va_D (fun _ => True) [ob7_0_ xh xc u1 u2 u3 u4 u5 u6 u7 u8, ob0_0_ xc xn xk clo cro c4 c5 c6 c7 c8, ob3_0_ xn vp vn n1 n2 n3 n4 n5, aq_ cy 6 clo 12 (gf_ rl), ai_ cy (rl 0) 12 (Ml 0), ai_ cy (rl 1) 12 (Ml 1), ai_ cy (rl 2) 12 (Ml 2), ai_ cy (rl 3) 12 (Ml 3), ai_ cy (rl 4) 12 (Ml 4), ai_ cy (rl 5) 12 (Ml 5), ai_ cy (rl 6) 12 (Ml 6), ai_ cy (rl 7) 12 (Ml 7), ai_ cy (rl 8) 12 (Ml 8), ai_ cy (rl 9) 12 (Ml 9), ai_ cy (rl 10) 12 (Ml 10), ai_ cy (rl 11) 12 (Ml 11)])) (va_Qv (fun (_ : Unit) => True) (fun (_ : Unit) (t : State) => ∃ (v7 : Int32), ∃ (v8 : Int32), va_P D vwCl [ob7_0_ xh xc u1 u2 u3 u4 u5 u6 v7 v8, ob0_0_ xc xn xk clo cro c4 c5 c6 c7 c8, ob3_0_ xn vp vn n1 n2 n3 n4 n5, aq_ cy 6 clo 12 (gf_ rl), ai_ cy (rl 0) 12 (Ml 0), ai_ cy (rl 1) 12 (Ml 1), ai_ cy (rl 2) 12 (Ml 2), ai_ cy (rl 3) 12 (Ml 3), ai_ cy (rl 4) 12 (Ml 4), ai_ cy (rl 5) 12 (Ml 5), ai_ cy (rl 6) 12 (Ml 6), ai_ cy (rl 7) 12 (Ml 7), ai_ cy (rl 8) 12 (Ml 8), ai_ cy (rl 9) 12 (Ml 9), ai_ cy (rl 10) 12 (Ml 10), ai_ cy (rl 11) 12 (Ml 11)] t.heap ∧ va_D (va_A [ob7_0_ xh xc u1 u2 u3 u4 u5 u6 u7 u8, ob0_0_ xc xn xk clo cro c4 c5 c6 c7 c8, ob3_0_ xn vp vn n1 n2 n3 n4 n5, aq_ cy 6 clo 12 (gf_ rl), ai_ cy (rl 0) 12 (Ml 0), ai_ cy (rl 1) 12 (Ml 1), ai_ cy (rl 2) 12 (Ml 2), ai_ cy (rl 3) 12 (Ml 3), ai_ cy (rl 4) 12 (Ml 4), ai_ cy (rl 5) 12 (Ml 5), ai_ cy (rl 6) 12 (Ml 6), ai_ cy (rl 7) 12 (Ml 7), ai_ cy (rl 8) 12 (Ml 8), ai_ cy (rl 9) 12 (Ml 9), ai_ cy (rl 10) 12 (Ml 10), ai_ cy (rl 11) 12 (Ml 11)] sz) [ob7_0_ xh xc u1 u2 u3 u4 u5 u6 v7 v8, ob0_0_ xc xn xk clo cro c4 c5 c6 c7 c8, ob3_0_ xn vp vn n1 n2 n3 n4 n5, aq_ cy 6 clo 12 (gf_ rl), ai_ cy (rl 0) 12 (Ml 0), ai_ cy (rl 1) 12 (Ml 1), ai_ cy (rl 2) 12 (Ml 2), ai_ cy (rl 3) 12 (Ml 3), ai_ cy (rl 4) 12 (Ml 4), ai_ cy (rl 5) 12 (Ml 5), ai_ cy (rl 6) 12 (Ml 6), ai_ cy (rl 7) 12 (Ml 7), ai_ cy (rl 8) 12 (Ml 8), ai_ cy (rl 9) 12 (Ml 9), ai_ cy (rl 10) 12 (Ml 10), ai_ cy (rl 11) 12 (Ml 11)]) (va_A [ob7_0_ xh xc u1 u2 u3 u4 u5 u6 u7 u8, ob0_0_ xc xn xk clo cro c4 c5 c6 c7 c8, ob3_0_ xn vp vn n1 n2 n3 n4 n5, aq_ cy 6 clo 12 (gf_ rl), ai_ cy (rl 0) 12 (Ml 0), ai_ cy (rl 1) 12 (Ml 1), ai_ cy (rl 2) 12 (Ml 2), ai_ cy (rl 3) 12 (Ml 3), ai_ cy (rl 4) 12 (Ml 4), ai_ cy (rl 5) 12 (Ml 5), ai_ cy (rl 6) 12 (Ml 6), ai_ cy (rl 7) 12 (Ml 7), ai_ cy (rl 8) 12 (Ml 8), ai_ cy (rl 9) 12 (Ml 9), ai_ cy (rl 10) 12 (Ml 10), ai_ cy (rl 11) 12 (Ml 11)] sz)) 0 0 (va_A [ob7_0_ xh xc u1 u2 u3 u4 u5 u6 u7 u8, ob0_0_ xc xn xk clo cro c4 c5 c6 c7 c8, ob3_0_ xn vp vn n1 n2 n3 n4 n5, aq_ cy 6 clo 12 (gf_ rl), ai_ cy (rl 0) 12 (Ml 0), ai_ cy (rl 1) 12 (Ml 1), ai_ cy (rl 2) 12 (Ml 2), ai_ cy (rl 3) 12 (Ml 3), ai_ cy (rl 4) 12 (Ml 4), ai_ cy (rl 5) 12 (Ml 5), ai_ cy (rl 6) 12 (Ml 6), ai_ cy (rl 7) 12 (Ml 7), ai_ cy (rl 8) 12 (Ml 8), ai_ cy (rl 9) 12 (Ml 9), ai_ cy (rl 10) 12 (Ml 10), ai_ cy (rl 11) 12 (Ml 11)] sz) := by
  refine ofQ (cc := cX7_chooseForDense) (maxL := 4) (ret := none) (by decide) rfl ?_
  intro p e s m args below meth c s₁ Q hQ B hml hv
  obtain ⟨rfl, hsz, hP, hK, hD0⟩ := hv
  have hG := hK.2
  have hK := hK.1
  have hx := B.exec
  have hb := B.bytes
  have hr := B.returns
  have hts := atoms_spec (ws := wsX7_chooseForDense) B.pre
  have hown : s.vm.findClass RX7 = some m.cls := by have h_ := findClass_of_methodNamed B.named; exact h_
  have hlocks := B.notSynchronized
  subst hsz
  have hD := hD0.self (sz := s.heap.size)
  generalize hAe : va_A [ob7_0_ xh xc u1 u2 u3 u4 u5 u6 u7 u8, ob0_0_ xc xn xk clo cro c4 c5 c6 c7 c8, ob3_0_ xn vp vn n1 n2 n3 n4 n5, aq_ cy 6 clo 12 (gf_ rl), ai_ cy (rl 0) 12 (Ml 0), ai_ cy (rl 1) 12 (Ml 1), ai_ cy (rl 2) 12 (Ml 2), ai_ cy (rl 3) 12 (Ml 3), ai_ cy (rl 4) 12 (Ml 4), ai_ cy (rl 5) 12 (Ml 5), ai_ cy (rl 6) 12 (Ml 6), ai_ cy (rl 7) 12 (Ml 7), ai_ cy (rl 8) 12 (Ml 8), ai_ cy (rl 9) 12 (Ml 9), ai_ cy (rl 10) 12 (Ml 10), ai_ cy (rl 11) 12 (Ml 11)] s.heap.size = A at hD hQ
  have hA : ∀ q : Nat, s.heap.size ≤ q → A q := fun q h => by rw [← hAe]; exact Or.inr h
  have hS : va_S A s.heap s.heap [] := va_S.rf
  have hl := lv_entry ([.ref xh, .int a1, .int a2, .int a3]) (n := 4) (Nat.le_of_ble_eq_true rfl)
  rw [lg_entry_eq]
  generalize (lg_sl ([.ref xh, .int a1, .int a2, .int a3]) ++ List.replicate (4 - (lg_sl ([.ref xh, .int a1, .int a2, .int a3])).length) Slot.unset).toArray = ls at hl ⊢
  have hl : lv_has ls 4 [(0, .ref xh), (1, .int a1), (2, .int a2), (3, .int a3)] := hl
  have z0 : (0 : Int32).toInt = 0 := by decide
  have z1 : (1 : Int32).toInt = 1 := by decide
  refine lv_iload_n hx hb dB_36_1_62.1.1.1.1 rfl (lv_at hl 1 rfl) ?_
  refine lv_if_ge (tgt := 11) hx hb dB_36_1_62.1.1.1.2 (by decide) (fun c_1 => ?_) (fun c_1 => ?_)
  · have t_1 : (0 : Int32).toInt ≤ a1.toInt := Int32.le_iff_toInt_le.mp c_1
    refine lv_aload_n hx hb dB_36_1_62.1.2.2.2 rfl (lv_at hl 0 rfl) ?_
    refine lv_iload_n hx hb dB_36_1_62.2.1.1.1 rfl (lv_at hl 1 rfl) ?_
    refine lv_iconst (v := 1) hx hb dB_36_1_62.2.1.1.2 (by decide) ?_
    refine lv_isub hx hb dB_36_1_62.2.1.2.1 ?_
    refine lv_topi (fun y_2 ey_2 => ?_)
    have ty_2 : y_2.toInt = a1.toInt - (1 : Int32).toInt := by rw [ey_2]; exact subI (by omega) (by omega)
    refine lv_iload_n hx hb dB_36_1_62.2.1.2.2 rfl (lv_at hl 2 rfl) ?_
    refine lv_iload_n hx hb dB_36_1_62.2.2.1.1 rfl (lv_at hl 3 rfl) ?_
    refine ct_S hP hD hS hA [ob7_0_ xh xc u1 u2 u3 u4 u5 u6 u7 u8, ob0_0_ xc xn xk clo cro c4 c5 c6 c7 c8, ob3_0_ xn vp vn n1 n2 n3 n4 n5, aq_ cy 6 clo 12 (gf_ rl), ai_ cy (rl 0) 12 (Ml 0), ai_ cy (rl 1) 12 (Ml 1), ai_ cy (rl 2) 12 (Ml 2), ai_ cy (rl 3) 12 (Ml 3), ai_ cy (rl 4) 12 (Ml 4), ai_ cy (rl 5) 12 (Ml 5), ai_ cy (rl 6) 12 (Ml 6), ai_ cy (rl 7) 12 (Ml 7), ai_ cy (rl 8) 12 (Ml 8), ai_ cy (rl 9) 12 (Ml 9), ai_ cy (rl 10) 12 (Ml 10), ai_ cy (rl 11) 12 (Ml 11)] [0, 1, 2, 3, 4, 5, 6, 7, 8, 9, 10, 11, 12, 13, 14, 15] (by decide +kernel) rfl (fun hPc hDw hFc hC_ => ?_)
    refine va_callv (va_runV (As := [.int y_2, .int a2, .int a3]) (rest := []) ⟨hx, hb, hml, hown, hts⟩ (c_X7_chooseForDense_2 l D cy s.heap.size xh u1 u2 u3 u4 u5 u6 u7 u8 xc xk clo cro c4 c5 c6 c7 c8 xn n1 n2 n3 n4 n5 vp vn rl Ml y_2 a2 a3 (by first | with_reducible assumption | omega | assumption) (by first | with_reducible assumption | omega | assumption)) (cwV 3 hts gX7_chooseForDense_X7_chooseForDense rfl rfl rfl ⟨rfl, hd_X7_chooseForDense⟩ ⟨Nat.le_of_ble_eq_true rfl, Nat.le_of_ble_eq_true rfl⟩) ⟨bl_g, va_recvX hK.1 hP (ci := 7) (q0 := 0) rfl rfl, fun U hU hW => ⟨rfl, by rw [hU], by rw [hU]; exact hPc, ⟨kk_mv hW hK, arrOfT_moved hW.alike hG⟩, hDw⟩⟩ rfl rfl hl.1 rfl (lv_room (Nat.le_of_ble_eq_true rfl)) dB_36_1_62.2.2.1.2 ⟨Nat.le_of_ble_eq_true rfl, Nat.le_of_ble_eq_true rfl⟩) hS (fun q _ h => hFc q h) hFc (fun u t H locs ht hvm hw hB hz1 hk1 hS => ?_)
    obtain ⟨v7_4, v8_5, hP1, hD1⟩ := hB
    rw [ht] at hP1
    obtain ⟨hP, hD⟩ := va_join (wr := []) (w1 := [ob7_0_ xh xc u1 u2 u3 u4 u5 u6 v7_4 v8_5, ob0_0_ xc xn xk clo cro c4 c5 c6 c7 c8, ob3_0_ xn vp vn n1 n2 n3 n4 n5, aq_ cy 6 clo 12 (gf_ rl), ai_ cy (rl 0) 12 (Ml 0), ai_ cy (rl 1) 12 (Ml 1), ai_ cy (rl 2) 12 (Ml 2), ai_ cy (rl 3) 12 (Ml 3), ai_ cy (rl 4) 12 (Ml 4), ai_ cy (rl 5) 12 (Ml 5), ai_ cy (rl 6) 12 (Ml 6), ai_ cy (rl 7) 12 (Ml 7), ai_ cy (rl 8) 12 (Ml 8), ai_ cy (rl 9) 12 (Ml 9), ai_ cy (rl 10) 12 (Ml 10), ai_ cy (rl 11) 12 (Ml 11)]) hP hD [0, 1, 2, 3, 4, 5, 6, 7, 8, 9, 10, 11, 12, 13, 14, 15] [] hC_ rfl (by decide) (by decide) hk1 hFc hP1 hD1
    refine pd_K [ob7_0_ xh xc u1 u2 u3 u4 u5 u6 v7_4 v8_5, ob0_0_ xc xn xk clo cro c4 c5 c6 c7 c8, ob3_0_ xn vp vn n1 n2 n3 n4 n5, aq_ cy 6 clo 12 (gf_ rl), ai_ cy (rl 0) 12 (Ml 0), ai_ cy (rl 1) 12 (Ml 1), ai_ cy (rl 2) 12 (Ml 2), ai_ cy (rl 3) 12 (Ml 3), ai_ cy (rl 4) 12 (Ml 4), ai_ cy (rl 5) 12 (Ml 5), ai_ cy (rl 6) 12 (Ml 6), ai_ cy (rl 7) 12 (Ml 7), ai_ cy (rl 8) 12 (Ml 8), ai_ cy (rl 9) 12 (Ml 9), ai_ cy (rl 10) 12 (Ml 10), ai_ cy (rl 11) 12 (Ml 11)] hP hD (fun hP hD => ?_)
    refine lv_aload_n hx hb dB_36_1_62.2.2.2.1 rfl (lv_at hl 0 rfl) ?_
    refine lv_iload_n hx hb dB_36_1_62.2.2.2.2 rfl (lv_at hl 1 rfl) ?_
    refine lv_iconst (v := 1) hx hb dB_36_1_63.1.1.1 (by decide) ?_
    refine lv_isub hx hb dB_36_1_63.1.1.2.1 ?_
    refine lv_topi (fun y_6 ey_6 => ?_)
    have e_ := (ey_6.trans ey_2.symm).symm
    subst e_
    refine lv_iload_n hx hb dB_36_1_63.1.1.2.2 rfl (lv_at hl 2 rfl) ?_
    refine lv_iconst (v := 1) hx hb dB_36_1_63.1.2.1.1 (by decide) ?_
    refine lv_iload_n hx hb dB_36_1_63.1.2.1.2 rfl (lv_at hl 1 rfl) ?_
    refine lv_ishl hx hb dB_36_1_63.1.2.2.1 ?_
    refine lv_topi (fun y_7 ey_7 => ?_)
    refine lv_ior hx hb dB_36_1_63.1.2.2.2 ?_
    refine lv_topi (fun y_8 ey_8 => ?_)
    refine lv_iload_n hx hb dB_36_1_63.2.1.1.1 rfl (lv_at hl 3 rfl) ?_
    refine lv_aload_n hx hb dB_36_1_63.2.1.1.2 rfl (lv_at hl 0 rfl) ?_
    refine lv_iload_n hx hb dB_36_1_63.2.1.2.1 rfl (lv_at hl 1 rfl) ?_
    refine lv_iload_n hx hb dB_36_1_63.2.1.2.2 rfl (lv_at hl 2 rfl) ?_
    refine ct_R hP hD [ob7_0_ xh xc u1 u2 u3 u4 u5 u6 v7_4 v8_5, ob0_0_ xc xn xk clo cro c4 c5 c6 c7 c8, ob3_0_ xn vp vn n1 n2 n3 n4 n5, aq_ cy 6 clo 12 (gf_ rl), ai_ cy (rl 0) 12 (Ml 0), ai_ cy (rl 1) 12 (Ml 1), ai_ cy (rl 2) 12 (Ml 2), ai_ cy (rl 3) 12 (Ml 3), ai_ cy (rl 4) 12 (Ml 4), ai_ cy (rl 5) 12 (Ml 5), ai_ cy (rl 6) 12 (Ml 6), ai_ cy (rl 7) 12 (Ml 7), ai_ cy (rl 8) 12 (Ml 8), ai_ cy (rl 9) 12 (Ml 9), ai_ cy (rl 10) 12 (Ml 10), ai_ cy (rl 11) 12 (Ml 11)] [0, 1, 2, 3, 4, 5, 6, 7, 8, 9, 10, 11, 12, 13, 14, 15] (by decide +kernel) rfl (fun hPc hDw => ?_)
    have hFc := va_free (wc := []) hD hS hA [] rfl
    refine va_calli (va_runV (As := [.int a1, .int a2]) (rest := [.int a3, .int y_8, .int y_2, .ref xh]) ⟨hx, hb, hml, hown, hts⟩ (c_X7_letIn l D cy H.size xh u1 u2 u3 u4 u5 u6 v7_4 v8_5 xc xk clo cro c4 c5 c6 c7 c8 xn n1 n2 n3 n4 n5 vp vn rl Ml a1 a2 (by first | with_reducible assumption | omega | assumption) (by first | with_reducible assumption | omega | assumption)) (cwV 2 hts gX7_chooseForDense_X7_letIn rfl rfl rfl ⟨rfl, hd_X7_letIn⟩ ⟨Nat.le_of_ble_eq_true rfl, Nat.le_of_ble_eq_true rfl⟩) ⟨bl_g, va_recvX hK.1 hP (ci := 7) (q0 := 0) rfl rfl, fun U hU hW => ⟨rfl, by rw [hU], by rw [hU]; exact hPc, ⟨kk_mv hW hK, arrOfT_moved hW.alike hG⟩, hDw⟩⟩ rfl rfl hl.1 rfl (lv_room (Nat.le_of_ble_eq_true rfl)) dB_36_1_63.2.2.1.1 ⟨Nat.le_of_ble_eq_true rfl, Nat.le_of_ble_eq_true rfl⟩) hS (fun q _ h => hFc q h) hFc (fun r_9 u t H locs ht hvm hw hB hz1 hk1 hS => ?_)
    have hP : va_P D vwCl _ H := ro_keep hP hk1
    refine lv_iadd hx hb dB_36_1_63.2.2.1.2 ?_
    refine lv_topi (fun y_10 ey_10 => ?_)
    refine ct_S hP hD hS hA [ob7_0_ xh xc u1 u2 u3 u4 u5 u6 v7_4 v8_5, ob0_0_ xc xn xk clo cro c4 c5 c6 c7 c8, ob3_0_ xn vp vn n1 n2 n3 n4 n5, aq_ cy 6 clo 12 (gf_ rl), ai_ cy (rl 0) 12 (Ml 0), ai_ cy (rl 1) 12 (Ml 1), ai_ cy (rl 2) 12 (Ml 2), ai_ cy (rl 3) 12 (Ml 3), ai_ cy (rl 4) 12 (Ml 4), ai_ cy (rl 5) 12 (Ml 5), ai_ cy (rl 6) 12 (Ml 6), ai_ cy (rl 7) 12 (Ml 7), ai_ cy (rl 8) 12 (Ml 8), ai_ cy (rl 9) 12 (Ml 9), ai_ cy (rl 10) 12 (Ml 10), ai_ cy (rl 11) 12 (Ml 11)] [0, 1, 2, 3, 4, 5, 6, 7, 8, 9, 10, 11, 12, 13, 14, 15] (by decide +kernel) rfl (fun hPc hDw hFc hC_ => ?_)
    refine va_callv (va_runV (As := [.int y_2, .int y_8, .int y_10]) (rest := []) ⟨hx, hb, hml, hown, hts⟩ (c_X7_chooseForDense_2 l D cy H.size xh u1 u2 u3 u4 u5 u6 v7_4 v8_5 xc xk clo cro c4 c5 c6 c7 c8 xn n1 n2 n3 n4 n5 vp vn rl Ml y_2 y_8 y_10 (by first | with_reducible assumption | omega | assumption) (by first | with_reducible assumption | omega | assumption)) (cwV 3 hts gX7_chooseForDense_X7_chooseForDense rfl rfl rfl ⟨rfl, hd_X7_chooseForDense⟩ ⟨Nat.le_of_ble_eq_true rfl, Nat.le_of_ble_eq_true rfl⟩) ⟨bl_g, va_recvX hK.1 hP (ci := 7) (q0 := 0) rfl rfl, fun U hU hW => ⟨rfl, by rw [hU], by rw [hU]; exact hPc, ⟨kk_mv hW hK, arrOfT_moved hW.alike hG⟩, hDw⟩⟩ rfl rfl hl.1 rfl (lv_room (Nat.le_of_ble_eq_true rfl)) dB_36_1_63.2.2.2.1 ⟨Nat.le_of_ble_eq_true rfl, Nat.le_of_ble_eq_true rfl⟩) hS (fun q _ h => hFc q h) hFc (fun u t H locs ht hvm hw hB hz1 hk1 hS => ?_)
    obtain ⟨v7_12, v8_13, hP1, hD1⟩ := hB
    rw [ht] at hP1
    obtain ⟨hP, hD⟩ := va_join (wr := []) (w1 := [ob7_0_ xh xc u1 u2 u3 u4 u5 u6 v7_12 v8_13, ob0_0_ xc xn xk clo cro c4 c5 c6 c7 c8, ob3_0_ xn vp vn n1 n2 n3 n4 n5, aq_ cy 6 clo 12 (gf_ rl), ai_ cy (rl 0) 12 (Ml 0), ai_ cy (rl 1) 12 (Ml 1), ai_ cy (rl 2) 12 (Ml 2), ai_ cy (rl 3) 12 (Ml 3), ai_ cy (rl 4) 12 (Ml 4), ai_ cy (rl 5) 12 (Ml 5), ai_ cy (rl 6) 12 (Ml 6), ai_ cy (rl 7) 12 (Ml 7), ai_ cy (rl 8) 12 (Ml 8), ai_ cy (rl 9) 12 (Ml 9), ai_ cy (rl 10) 12 (Ml 10), ai_ cy (rl 11) 12 (Ml 11)]) hP hD [0, 1, 2, 3, 4, 5, 6, 7, 8, 9, 10, 11, 12, 13, 14, 15] [] hC_ rfl (by decide) (by decide) hk1 hFc hP1 hD1
    refine pd_K [ob7_0_ xh xc u1 u2 u3 u4 u5 u6 v7_12 v8_13, ob0_0_ xc xn xk clo cro c4 c5 c6 c7 c8, ob3_0_ xn vp vn n1 n2 n3 n4 n5, aq_ cy 6 clo 12 (gf_ rl), ai_ cy (rl 0) 12 (Ml 0), ai_ cy (rl 1) 12 (Ml 1), ai_ cy (rl 2) 12 (Ml 2), ai_ cy (rl 3) 12 (Ml 3), ai_ cy (rl 4) 12 (Ml 4), ai_ cy (rl 5) 12 (Ml 5), ai_ cy (rl 6) 12 (Ml 6), ai_ cy (rl 7) 12 (Ml 7), ai_ cy (rl 8) 12 (Ml 8), ai_ cy (rl 9) 12 (Ml 9), ai_ cy (rl 10) 12 (Ml 10), ai_ cy (rl 11) 12 (Ml 11)] hP hD (fun hP hD => ?_)
    rw [hQ]
    exact W.vret hx hb hr (fun t ht hW => ⟨⟨(), rfl, trivial, v7_12, v8_13, by rw [ht]; exact hP, hD⟩, hS.F ht⟩) hS.2.2 dB_36_1_63.2.2.2.2
  · have t_1 : ¬ (0 : Int32).toInt ≤ a1.toInt := fun h => c_1 (Int32.le_iff_toInt_le.mpr h)
    refine lv_aload_n hx hb dB_36_1_62.1.1.2.1 rfl (lv_at hl 0 rfl) ?_
    refine lv_iload_n hx hb dB_36_1_62.1.1.2.2 rfl (lv_at hl 2 rfl) ?_
    refine lv_iload_n hx hb dB_36_1_62.1.2.1.1 rfl (lv_at hl 3 rfl) ?_
    refine ct_S hP hD hS hA [ob7_0_ xh xc u1 u2 u3 u4 u5 u6 u7 u8] [0] (by decide) rfl (fun hPc hDw hFc hC_ => ?_)
    refine va_callv (va_runV (As := [.int a2, .int a3]) (rest := []) ⟨hx, hb, hml, hown, hts⟩ (c_X7_compareDense l D cy s.heap.size xh u1 u2 u3 u4 u5 u6 u7 u8 xc a2 a3) (cwV 2 hts gX7_chooseForDense_X7_compareDense rfl rfl rfl ⟨rfl, hd_X7_compareDense⟩ ⟨Nat.le_of_ble_eq_true rfl, Nat.le_of_ble_eq_true rfl⟩) ⟨bl_, va_recvX hK.1 hP (ci := 7) (q0 := 0) rfl rfl, fun U hU hW => ⟨rfl, by rw [hU], by rw [hU]; exact hPc, kk_mv hW hK, hDw⟩⟩ rfl rfl hl.1 rfl (lv_room (Nat.le_of_ble_eq_true rfl)) dB_36_1_62.1.2.1.2 ⟨Nat.le_of_ble_eq_true rfl, Nat.le_of_ble_eq_true rfl⟩) hS (fun q _ h => hFc q h) hFc (fun u t H locs ht hvm hw hB hz1 hk1 hS => ?_)
    obtain ⟨v7_15, v8_16, hP1, hD1⟩ := hB
    rw [ht] at hP1
    obtain ⟨hP, hD⟩ := va_join (wr := [ob0_0_ xc xn xk clo cro c4 c5 c6 c7 c8, ob3_0_ xn vp vn n1 n2 n3 n4 n5, aq_ cy 6 clo 12 (gf_ rl), ai_ cy (rl 0) 12 (Ml 0), ai_ cy (rl 1) 12 (Ml 1), ai_ cy (rl 2) 12 (Ml 2), ai_ cy (rl 3) 12 (Ml 3), ai_ cy (rl 4) 12 (Ml 4), ai_ cy (rl 5) 12 (Ml 5), ai_ cy (rl 6) 12 (Ml 6), ai_ cy (rl 7) 12 (Ml 7), ai_ cy (rl 8) 12 (Ml 8), ai_ cy (rl 9) 12 (Ml 9), ai_ cy (rl 10) 12 (Ml 10), ai_ cy (rl 11) 12 (Ml 11)]) (w1 := [ob7_0_ xh xc u1 u2 u3 u4 u5 u6 v7_15 v8_16]) hP hD [0] [1, 2, 3, 4, 5, 6, 7, 8, 9, 10, 11, 12, 13, 14, 15] hC_ rfl (by decide +kernel) (by decide +kernel) hk1 hFc hP1 hD1
    refine pd_S hP hD [ob7_0_ xh xc u1 u2 u3 u4 u5 u6 v7_15 v8_16, ob0_0_ xc xn xk clo cro c4 c5 c6 c7 c8, ob3_0_ xn vp vn n1 n2 n3 n4 n5, aq_ cy 6 clo 12 (gf_ rl), ai_ cy (rl 0) 12 (Ml 0), ai_ cy (rl 1) 12 (Ml 1), ai_ cy (rl 2) 12 (Ml 2), ai_ cy (rl 3) 12 (Ml 3), ai_ cy (rl 4) 12 (Ml 4), ai_ cy (rl 5) 12 (Ml 5), ai_ cy (rl 6) 12 (Ml 6), ai_ cy (rl 7) 12 (Ml 7), ai_ cy (rl 8) 12 (Ml 8), ai_ cy (rl 9) 12 (Ml 9), ai_ cy (rl 10) 12 (Ml 10), ai_ cy (rl 11) 12 (Ml 11)] [15, 0, 1, 2, 3, 4, 5, 6, 7, 8, 9, 10, 11, 12, 13, 14] (by decide +kernel) rfl (fun hP hD => ?_)
    rw [hQ]
    exact W.vret hx hb hr (fun t ht hW => ⟨⟨(), rfl, trivial, v7_15, v8_16, by rw [ht]; exact hP, hD⟩, hS.F ht⟩) hS.2.2 dB_36_1_62.1.2.2.1

set_option maxHeartbeats 4000000 in
set_option maxRecDepth 100000 in
theorem c_X7_chooseForDense_4 (l : Launch) (D : va_G) (cy : Nat → ClassId) (sz : Nat) (xh : Nat) (u1 : Int32) (u2 : Int32) (u3 : Int32) (u4 : Int32) (u5 : Int32) (u6 : Int32) (u7 : Int32) (u8 : Int32) (xc : Nat) (xk : Nat) (clo : Nat) (cro : Nat) (c4 : Nat) (c5 : Nat) (c6 : Nat) (c7 : Nat) (c8 : Nat) (xn : Nat) (n1 : Nat) (n2 : Nat) (n3 : Nat) (n4 : Nat) (n5 : Nat) (vp : Int32) (vn : Int32) (rl : Nat → Nat) (Ml : Nat → Nat → Int32) (a1 : Int32) (a2 : Int32) (a3 : Int32) (hvp : 0 ≤ vp.toInt ∧ vp.toInt ≤ 12) (q1 : -1 ≤ a1.toInt ∧ a1.toInt < 4) : Met l yX7_chooseForDense wsX7_chooseForDense ({ frames := 6, cells := 0, slots := 0, locals := 138 }) (va_Pc [.ref xh, .int a1, .int a2, .int a3] (fun U => U.heap.size = sz ∧ va_P D vwCl [ob7_0_ xh xc u1 u2 u3 u4 u5 u6 u7 u8, ob0_0_ xc xn xk clo cro c4 c5 c6 c7 c8, ob3_0_ xn vp vn n1 n2 n3 n4 n5, aq_ cy 6 clo 12 (gf_ rl), ai_ cy (rl 0) 12 (Ml 0), ai_ cy (rl 1) 12 (Ml 1), ai_ cy (rl 2) 12 (Ml 2), ai_ cy (rl 3) 12 (Ml 3), ai_ cy (rl 4) 12 (Ml 4), ai_ cy (rl 5) 12 (Ml 5), ai_ cy (rl 6) 12 (Ml 6), ai_ cy (rl 7) 12 (Ml 7), ai_ cy (rl 8) 12 (Ml 8), ai_ cy (rl 9) 12 (Ml 9), ai_ cy (rl 10) 12 (Ml 10), ai_ cy (rl 11) 12 (Ml 11)] U.heap ∧ kg_ D cy U ∧ va_D (fun _ => True) [ob7_0_ xh xc u1 u2 u3 u4 u5 u6 u7 u8, ob0_0_ xc xn xk clo cro c4 c5 c6 c7 c8, ob3_0_ xn vp vn n1 n2 n3 n4 n5, aq_ cy 6 clo 12 (gf_ rl), ai_ cy (rl 0) 12 (Ml 0), ai_ cy (rl 1) 12 (Ml 1), ai_ cy (rl 2) 12 (Ml 2), ai_ cy (rl 3) 12 (Ml 3), ai_ cy (rl 4) 12 (Ml 4), ai_ cy (rl 5) 12 (Ml 5), ai_ cy (rl 6) 12 (Ml 6), ai_ cy (rl 7) 12 (Ml 7), ai_ cy (rl 8) 12 (Ml 8), ai_ cy (rl 9) 12 (Ml 9), ai_ cy (rl 10) 12 (Ml 10), ai_ cy (rl 11) 12 (Ml 11)])) (va_Qv (fun (_ : Unit) => True) (fun (_ : Unit) (t : State) => ∃ (v7 : Int32), ∃ (v8 : Int32), va_P D vwCl [ob7_0_ xh xc u1 u2 u3 u4 u5 u6 v7 v8, ob0_0_ xc xn xk clo cro c4 c5 c6 c7 c8, ob3_0_ xn vp vn n1 n2 n3 n4 n5, aq_ cy 6 clo 12 (gf_ rl), ai_ cy (rl 0) 12 (Ml 0), ai_ cy (rl 1) 12 (Ml 1), ai_ cy (rl 2) 12 (Ml 2), ai_ cy (rl 3) 12 (Ml 3), ai_ cy (rl 4) 12 (Ml 4), ai_ cy (rl 5) 12 (Ml 5), ai_ cy (rl 6) 12 (Ml 6), ai_ cy (rl 7) 12 (Ml 7), ai_ cy (rl 8) 12 (Ml 8), ai_ cy (rl 9) 12 (Ml 9), ai_ cy (rl 10) 12 (Ml 10), ai_ cy (rl 11) 12 (Ml 11)] t.heap ∧ va_D (va_A [ob7_0_ xh xc u1 u2 u3 u4 u5 u6 u7 u8, ob0_0_ xc xn xk clo cro c4 c5 c6 c7 c8, ob3_0_ xn vp vn n1 n2 n3 n4 n5, aq_ cy 6 clo 12 (gf_ rl), ai_ cy (rl 0) 12 (Ml 0), ai_ cy (rl 1) 12 (Ml 1), ai_ cy (rl 2) 12 (Ml 2), ai_ cy (rl 3) 12 (Ml 3), ai_ cy (rl 4) 12 (Ml 4), ai_ cy (rl 5) 12 (Ml 5), ai_ cy (rl 6) 12 (Ml 6), ai_ cy (rl 7) 12 (Ml 7), ai_ cy (rl 8) 12 (Ml 8), ai_ cy (rl 9) 12 (Ml 9), ai_ cy (rl 10) 12 (Ml 10), ai_ cy (rl 11) 12 (Ml 11)] sz) [ob7_0_ xh xc u1 u2 u3 u4 u5 u6 v7 v8, ob0_0_ xc xn xk clo cro c4 c5 c6 c7 c8, ob3_0_ xn vp vn n1 n2 n3 n4 n5, aq_ cy 6 clo 12 (gf_ rl), ai_ cy (rl 0) 12 (Ml 0), ai_ cy (rl 1) 12 (Ml 1), ai_ cy (rl 2) 12 (Ml 2), ai_ cy (rl 3) 12 (Ml 3), ai_ cy (rl 4) 12 (Ml 4), ai_ cy (rl 5) 12 (Ml 5), ai_ cy (rl 6) 12 (Ml 6), ai_ cy (rl 7) 12 (Ml 7), ai_ cy (rl 8) 12 (Ml 8), ai_ cy (rl 9) 12 (Ml 9), ai_ cy (rl 10) 12 (Ml 10), ai_ cy (rl 11) 12 (Ml 11)]) (va_A [ob7_0_ xh xc u1 u2 u3 u4 u5 u6 u7 u8, ob0_0_ xc xn xk clo cro c4 c5 c6 c7 c8, ob3_0_ xn vp vn n1 n2 n3 n4 n5, aq_ cy 6 clo 12 (gf_ rl), ai_ cy (rl 0) 12 (Ml 0), ai_ cy (rl 1) 12 (Ml 1), ai_ cy (rl 2) 12 (Ml 2), ai_ cy (rl 3) 12 (Ml 3), ai_ cy (rl 4) 12 (Ml 4), ai_ cy (rl 5) 12 (Ml 5), ai_ cy (rl 6) 12 (Ml 6), ai_ cy (rl 7) 12 (Ml 7), ai_ cy (rl 8) 12 (Ml 8), ai_ cy (rl 9) 12 (Ml 9), ai_ cy (rl 10) 12 (Ml 10), ai_ cy (rl 11) 12 (Ml 11)] sz)) 0 0 (va_A [ob7_0_ xh xc u1 u2 u3 u4 u5 u6 u7 u8, ob0_0_ xc xn xk clo cro c4 c5 c6 c7 c8, ob3_0_ xn vp vn n1 n2 n3 n4 n5, aq_ cy 6 clo 12 (gf_ rl), ai_ cy (rl 0) 12 (Ml 0), ai_ cy (rl 1) 12 (Ml 1), ai_ cy (rl 2) 12 (Ml 2), ai_ cy (rl 3) 12 (Ml 3), ai_ cy (rl 4) 12 (Ml 4), ai_ cy (rl 5) 12 (Ml 5), ai_ cy (rl 6) 12 (Ml 6), ai_ cy (rl 7) 12 (Ml 7), ai_ cy (rl 8) 12 (Ml 8), ai_ cy (rl 9) 12 (Ml 9), ai_ cy (rl 10) 12 (Ml 10), ai_ cy (rl 11) 12 (Ml 11)] sz) := by
  refine ofQ (cc := cX7_chooseForDense) (maxL := 4) (ret := none) (by decide) rfl ?_
  intro p e s m args below meth c s₁ Q hQ B hml hv
  obtain ⟨rfl, hsz, hP, hK, hD0⟩ := hv
  have hG := hK.2
  have hK := hK.1
  have hx := B.exec
  have hb := B.bytes
  have hr := B.returns
  have hts := atoms_spec (ws := wsX7_chooseForDense) B.pre
  have hown : s.vm.findClass RX7 = some m.cls := by have h_ := findClass_of_methodNamed B.named; exact h_
  have hlocks := B.notSynchronized
  subst hsz
  have hD := hD0.self (sz := s.heap.size)
  generalize hAe : va_A [ob7_0_ xh xc u1 u2 u3 u4 u5 u6 u7 u8, ob0_0_ xc xn xk clo cro c4 c5 c6 c7 c8, ob3_0_ xn vp vn n1 n2 n3 n4 n5, aq_ cy 6 clo 12 (gf_ rl), ai_ cy (rl 0) 12 (Ml 0), ai_ cy (rl 1) 12 (Ml 1), ai_ cy (rl 2) 12 (Ml 2), ai_ cy (rl 3) 12 (Ml 3), ai_ cy (rl 4) 12 (Ml 4), ai_ cy (rl 5) 12 (Ml 5), ai_ cy (rl 6) 12 (Ml 6), ai_ cy (rl 7) 12 (Ml 7), ai_ cy (rl 8) 12 (Ml 8), ai_ cy (rl 9) 12 (Ml 9), ai_ cy (rl 10) 12 (Ml 10), ai_ cy (rl 11) 12 (Ml 11)] s.heap.size = A at hD hQ
  have hA : ∀ q : Nat, s.heap.size ≤ q → A q := fun q h => by rw [← hAe]; exact Or.inr h
  have hS : va_S A s.heap s.heap [] := va_S.rf
  have hl := lv_entry ([.ref xh, .int a1, .int a2, .int a3]) (n := 4) (Nat.le_of_ble_eq_true rfl)
  rw [lg_entry_eq]
  generalize (lg_sl ([.ref xh, .int a1, .int a2, .int a3]) ++ List.replicate (4 - (lg_sl ([.ref xh, .int a1, .int a2, .int a3])).length) Slot.unset).toArray = ls at hl ⊢
  have hl : lv_has ls 4 [(0, .ref xh), (1, .int a1), (2, .int a2), (3, .int a3)] := hl
  have z0 : (0 : Int32).toInt = 0 := by decide
  have z1 : (1 : Int32).toInt = 1 := by decide
  refine lv_iload_n hx hb dB_36_1_62.1.1.1.1 rfl (lv_at hl 1 rfl) ?_
  refine lv_if_ge (tgt := 11) hx hb dB_36_1_62.1.1.1.2 (by decide) (fun c_1 => ?_) (fun c_1 => ?_)
  · have t_1 : (0 : Int32).toInt ≤ a1.toInt := Int32.le_iff_toInt_le.mp c_1
    refine lv_aload_n hx hb dB_36_1_62.1.2.2.2 rfl (lv_at hl 0 rfl) ?_
    refine lv_iload_n hx hb dB_36_1_62.2.1.1.1 rfl (lv_at hl 1 rfl) ?_
    refine lv_iconst (v := 1) hx hb dB_36_1_62.2.1.1.2 (by decide) ?_
    refine lv_isub hx hb dB_36_1_62.2.1.2.1 ?_
    refine lv_topi (fun y_2 ey_2 => ?_)
    have ty_2 : y_2.toInt = a1.toInt - (1 : Int32).toInt := by rw [ey_2]; exact subI (by omega) (by omega)
    refine lv_iload_n hx hb dB_36_1_62.2.1.2.2 rfl (lv_at hl 2 rfl) ?_
    refine lv_iload_n hx hb dB_36_1_62.2.2.1.1 rfl (lv_at hl 3 rfl) ?_
    refine ct_S hP hD hS hA [ob7_0_ xh xc u1 u2 u3 u4 u5 u6 u7 u8, ob0_0_ xc xn xk clo cro c4 c5 c6 c7 c8, ob3_0_ xn vp vn n1 n2 n3 n4 n5, aq_ cy 6 clo 12 (gf_ rl), ai_ cy (rl 0) 12 (Ml 0), ai_ cy (rl 1) 12 (Ml 1), ai_ cy (rl 2) 12 (Ml 2), ai_ cy (rl 3) 12 (Ml 3), ai_ cy (rl 4) 12 (Ml 4), ai_ cy (rl 5) 12 (Ml 5), ai_ cy (rl 6) 12 (Ml 6), ai_ cy (rl 7) 12 (Ml 7), ai_ cy (rl 8) 12 (Ml 8), ai_ cy (rl 9) 12 (Ml 9), ai_ cy (rl 10) 12 (Ml 10), ai_ cy (rl 11) 12 (Ml 11)] [0, 1, 2, 3, 4, 5, 6, 7, 8, 9, 10, 11, 12, 13, 14, 15] (by decide +kernel) rfl (fun hPc hDw hFc hC_ => ?_)
    refine va_callv (va_runV (As := [.int y_2, .int a2, .int a3]) (rest := []) ⟨hx, hb, hml, hown, hts⟩ (c_X7_chooseForDense_3 l D cy s.heap.size xh u1 u2 u3 u4 u5 u6 u7 u8 xc xk clo cro c4 c5 c6 c7 c8 xn n1 n2 n3 n4 n5 vp vn rl Ml y_2 a2 a3 (by first | with_reducible assumption | omega | assumption) (by first | with_reducible assumption | omega | assumption)) (cwV 3 hts gX7_chooseForDense_X7_chooseForDense rfl rfl rfl ⟨rfl, hd_X7_chooseForDense⟩ ⟨Nat.le_of_ble_eq_true rfl, Nat.le_of_ble_eq_true rfl⟩) ⟨bl_g, va_recvX hK.1 hP (ci := 7) (q0 := 0) rfl rfl, fun U hU hW => ⟨rfl, by rw [hU], by rw [hU]; exact hPc, ⟨kk_mv hW hK, arrOfT_moved hW.alike hG⟩, hDw⟩⟩ rfl rfl hl.1 rfl (lv_room (Nat.le_of_ble_eq_true rfl)) dB_36_1_62.2.2.1.2 ⟨Nat.le_of_ble_eq_true rfl, Nat.le_of_ble_eq_true rfl⟩) hS (fun q _ h => hFc q h) hFc (fun u t H locs ht hvm hw hB hz1 hk1 hS => ?_)
    obtain ⟨v7_4, v8_5, hP1, hD1⟩ := hB
    rw [ht] at hP1
    obtain ⟨hP, hD⟩ := va_join (wr := []) (w1 := [ob7_0_ xh xc u1 u2 u3 u4 u5 u6 v7_4 v8_5, ob0_0_ xc xn xk clo cro c4 c5 c6 c7 c8, ob3_0_ xn vp vn n1 n2 n3 n4 n5, aq_ cy 6 clo 12 (gf_ rl), ai_ cy (rl 0) 12 (Ml 0), ai_ cy (rl 1) 12 (Ml 1), ai_ cy (rl 2) 12 (Ml 2), ai_ cy (rl 3) 12 (Ml 3), ai_ cy (rl 4) 12 (Ml 4), ai_ cy (rl 5) 12 (Ml 5), ai_ cy (rl 6) 12 (Ml 6), ai_ cy (rl 7) 12 (Ml 7), ai_ cy (rl 8) 12 (Ml 8), ai_ cy (rl 9) 12 (Ml 9), ai_ cy (rl 10) 12 (Ml 10), ai_ cy (rl 11) 12 (Ml 11)]) hP hD [0, 1, 2, 3, 4, 5, 6, 7, 8, 9, 10, 11, 12, 13, 14, 15] [] hC_ rfl (by decide) (by decide) hk1 hFc hP1 hD1
    refine pd_K [ob7_0_ xh xc u1 u2 u3 u4 u5 u6 v7_4 v8_5, ob0_0_ xc xn xk clo cro c4 c5 c6 c7 c8, ob3_0_ xn vp vn n1 n2 n3 n4 n5, aq_ cy 6 clo 12 (gf_ rl), ai_ cy (rl 0) 12 (Ml 0), ai_ cy (rl 1) 12 (Ml 1), ai_ cy (rl 2) 12 (Ml 2), ai_ cy (rl 3) 12 (Ml 3), ai_ cy (rl 4) 12 (Ml 4), ai_ cy (rl 5) 12 (Ml 5), ai_ cy (rl 6) 12 (Ml 6), ai_ cy (rl 7) 12 (Ml 7), ai_ cy (rl 8) 12 (Ml 8), ai_ cy (rl 9) 12 (Ml 9), ai_ cy (rl 10) 12 (Ml 10), ai_ cy (rl 11) 12 (Ml 11)] hP hD (fun hP hD => ?_)
    refine lv_aload_n hx hb dB_36_1_62.2.2.2.1 rfl (lv_at hl 0 rfl) ?_
    refine lv_iload_n hx hb dB_36_1_62.2.2.2.2 rfl (lv_at hl 1 rfl) ?_
    refine lv_iconst (v := 1) hx hb dB_36_1_63.1.1.1 (by decide) ?_
    refine lv_isub hx hb dB_36_1_63.1.1.2.1 ?_
    refine lv_topi (fun y_6 ey_6 => ?_)
    have e_ := (ey_6.trans ey_2.symm).symm
    subst e_
    refine lv_iload_n hx hb dB_36_1_63.1.1.2.2 rfl (lv_at hl 2 rfl) ?_
    refine lv_iconst (v := 1) hx hb dB_36_1_63.1.2.1.1 (by decide) ?_
    refine lv_iload_n hx hb dB_36_1_63.1.2.1.2 rfl (lv_at hl 1 rfl) ?_
    refine lv_ishl hx hb dB_36_1_63.1.2.2.1 ?_
    refine lv_topi (fun y_7 ey_7 => ?_)
    refine lv_ior hx hb dB_36_1_63.1.2.2.2 ?_
    refine lv_topi (fun y_8 ey_8 => ?_)
    refine lv_iload_n hx hb dB_36_1_63.2.1.1.1 rfl (lv_at hl 3 rfl) ?_
    refine lv_aload_n hx hb dB_36_1_63.2.1.1.2 rfl (lv_at hl 0 rfl) ?_
    refine lv_iload_n hx hb dB_36_1_63.2.1.2.1 rfl (lv_at hl 1 rfl) ?_
    refine lv_iload_n hx hb dB_36_1_63.2.1.2.2 rfl (lv_at hl 2 rfl) ?_
    refine ct_R hP hD [ob7_0_ xh xc u1 u2 u3 u4 u5 u6 v7_4 v8_5, ob0_0_ xc xn xk clo cro c4 c5 c6 c7 c8, ob3_0_ xn vp vn n1 n2 n3 n4 n5, aq_ cy 6 clo 12 (gf_ rl), ai_ cy (rl 0) 12 (Ml 0), ai_ cy (rl 1) 12 (Ml 1), ai_ cy (rl 2) 12 (Ml 2), ai_ cy (rl 3) 12 (Ml 3), ai_ cy (rl 4) 12 (Ml 4), ai_ cy (rl 5) 12 (Ml 5), ai_ cy (rl 6) 12 (Ml 6), ai_ cy (rl 7) 12 (Ml 7), ai_ cy (rl 8) 12 (Ml 8), ai_ cy (rl 9) 12 (Ml 9), ai_ cy (rl 10) 12 (Ml 10), ai_ cy (rl 11) 12 (Ml 11)] [0, 1, 2, 3, 4, 5, 6, 7, 8, 9, 10, 11, 12, 13, 14, 15] (by decide +kernel) rfl (fun hPc hDw => ?_)
    have hFc := va_free (wc := []) hD hS hA [] rfl
    refine va_calli (va_runV (As := [.int a1, .int a2]) (rest := [.int a3, .int y_8, .int y_2, .ref xh]) ⟨hx, hb, hml, hown, hts⟩ (c_X7_letIn l D cy H.size xh u1 u2 u3 u4 u5 u6 v7_4 v8_5 xc xk clo cro c4 c5 c6 c7 c8 xn n1 n2 n3 n4 n5 vp vn rl Ml a1 a2 (by first | with_reducible assumption | omega | assumption) (by first | with_reducible assumption | omega | assumption)) (cwV 2 hts gX7_chooseForDense_X7_letIn rfl rfl rfl ⟨rfl, hd_X7_letIn⟩ ⟨Nat.le_of_ble_eq_true rfl, Nat.le_of_ble_eq_true rfl⟩) ⟨bl_g, va_recvX hK.1 hP (ci := 7) (q0 := 0) rfl rfl, fun U hU hW => ⟨rfl, by rw [hU], by rw [hU]; exact hPc, ⟨kk_mv hW hK, arrOfT_moved hW.alike hG⟩, hDw⟩⟩ rfl rfl hl.1 rfl (lv_room (Nat.le_of_ble_eq_true rfl)) dB_36_1_63.2.2.1.1 ⟨Nat.le_of_ble_eq_true rfl, Nat.le_of_ble_eq_true rfl⟩) hS (fun q _ h => hFc q h) hFc (fun r_9 u t H locs ht hvm hw hB hz1 hk1 hS => ?_)
    have hP : va_P D vwCl _ H := ro_keep hP hk1
    refine lv_iadd hx hb dB_36_1_63.2.2.1.2 ?_
    refine lv_topi (fun y_10 ey_10 => ?_)
    refine ct_S hP hD hS hA [ob7_0_ xh xc u1 u2 u3 u4 u5 u6 v7_4 v8_5, ob0_0_ xc xn xk clo cro c4 c5 c6 c7 c8, ob3_0_ xn vp vn n1 n2 n3 n4 n5, aq_ cy 6 clo 12 (gf_ rl), ai_ cy (rl 0) 12 (Ml 0), ai_ cy (rl 1) 12 (Ml 1), ai_ cy (rl 2) 12 (Ml 2), ai_ cy (rl 3) 12 (Ml 3), ai_ cy (rl 4) 12 (Ml 4), ai_ cy (rl 5) 12 (Ml 5), ai_ cy (rl 6) 12 (Ml 6), ai_ cy (rl 7) 12 (Ml 7), ai_ cy (rl 8) 12 (Ml 8), ai_ cy (rl 9) 12 (Ml 9), ai_ cy (rl 10) 12 (Ml 10), ai_ cy (rl 11) 12 (Ml 11)] [0, 1, 2, 3, 4, 5, 6, 7, 8, 9, 10, 11, 12, 13, 14, 15] (by decide +kernel) rfl (fun hPc hDw hFc hC_ => ?_)
    refine va_callv (va_runV (As := [.int y_2, .int y_8, .int y_10]) (rest := []) ⟨hx, hb, hml, hown, hts⟩ (c_X7_chooseForDense_3 l D cy H.size xh u1 u2 u3 u4 u5 u6 v7_4 v8_5 xc xk clo cro c4 c5 c6 c7 c8 xn n1 n2 n3 n4 n5 vp vn rl Ml y_2 y_8 y_10 (by first | with_reducible assumption | omega | assumption) (by first | with_reducible assumption | omega | assumption)) (cwV 3 hts gX7_chooseForDense_X7_chooseForDense rfl rfl rfl ⟨rfl, hd_X7_chooseForDense⟩ ⟨Nat.le_of_ble_eq_true rfl, Nat.le_of_ble_eq_true rfl⟩) ⟨bl_g, va_recvX hK.1 hP (ci := 7) (q0 := 0) rfl rfl, fun U hU hW => ⟨rfl, by rw [hU], by rw [hU]; exact hPc, ⟨kk_mv hW hK, arrOfT_moved hW.alike hG⟩, hDw⟩⟩ rfl rfl hl.1 rfl (lv_room (Nat.le_of_ble_eq_true rfl)) dB_36_1_63.2.2.2.1 ⟨Nat.le_of_ble_eq_true rfl, Nat.le_of_ble_eq_true rfl⟩) hS (fun q _ h => hFc q h) hFc (fun u t H locs ht hvm hw hB hz1 hk1 hS => ?_)
    obtain ⟨v7_12, v8_13, hP1, hD1⟩ := hB
    rw [ht] at hP1
    obtain ⟨hP, hD⟩ := va_join (wr := []) (w1 := [ob7_0_ xh xc u1 u2 u3 u4 u5 u6 v7_12 v8_13, ob0_0_ xc xn xk clo cro c4 c5 c6 c7 c8, ob3_0_ xn vp vn n1 n2 n3 n4 n5, aq_ cy 6 clo 12 (gf_ rl), ai_ cy (rl 0) 12 (Ml 0), ai_ cy (rl 1) 12 (Ml 1), ai_ cy (rl 2) 12 (Ml 2), ai_ cy (rl 3) 12 (Ml 3), ai_ cy (rl 4) 12 (Ml 4), ai_ cy (rl 5) 12 (Ml 5), ai_ cy (rl 6) 12 (Ml 6), ai_ cy (rl 7) 12 (Ml 7), ai_ cy (rl 8) 12 (Ml 8), ai_ cy (rl 9) 12 (Ml 9), ai_ cy (rl 10) 12 (Ml 10), ai_ cy (rl 11) 12 (Ml 11)]) hP hD [0, 1, 2, 3, 4, 5, 6, 7, 8, 9, 10, 11, 12, 13, 14, 15] [] hC_ rfl (by decide) (by decide) hk1 hFc hP1 hD1
    refine pd_K [ob7_0_ xh xc u1 u2 u3 u4 u5 u6 v7_12 v8_13, ob0_0_ xc xn xk clo cro c4 c5 c6 c7 c8, ob3_0_ xn vp vn n1 n2 n3 n4 n5, aq_ cy 6 clo 12 (gf_ rl), ai_ cy (rl 0) 12 (Ml 0), ai_ cy (rl 1) 12 (Ml 1), ai_ cy (rl 2) 12 (Ml 2), ai_ cy (rl 3) 12 (Ml 3), ai_ cy (rl 4) 12 (Ml 4), ai_ cy (rl 5) 12 (Ml 5), ai_ cy (rl 6) 12 (Ml 6), ai_ cy (rl 7) 12 (Ml 7), ai_ cy (rl 8) 12 (Ml 8), ai_ cy (rl 9) 12 (Ml 9), ai_ cy (rl 10) 12 (Ml 10), ai_ cy (rl 11) 12 (Ml 11)] hP hD (fun hP hD => ?_)
    rw [hQ]
    exact W.vret hx hb hr (fun t ht hW => ⟨⟨(), rfl, trivial, v7_12, v8_13, by rw [ht]; exact hP, hD⟩, hS.F ht⟩) hS.2.2 dB_36_1_63.2.2.2.2
  · have t_1 : ¬ (0 : Int32).toInt ≤ a1.toInt := fun h => c_1 (Int32.le_iff_toInt_le.mpr h)
    refine lv_aload_n hx hb dB_36_1_62.1.1.2.1 rfl (lv_at hl 0 rfl) ?_
    refine lv_iload_n hx hb dB_36_1_62.1.1.2.2 rfl (lv_at hl 2 rfl) ?_
    refine lv_iload_n hx hb dB_36_1_62.1.2.1.1 rfl (lv_at hl 3 rfl) ?_
    refine ct_S hP hD hS hA [ob7_0_ xh xc u1 u2 u3 u4 u5 u6 u7 u8] [0] (by decide) rfl (fun hPc hDw hFc hC_ => ?_)
    refine va_callv (va_runV (As := [.int a2, .int a3]) (rest := []) ⟨hx, hb, hml, hown, hts⟩ (c_X7_compareDense l D cy s.heap.size xh u1 u2 u3 u4 u5 u6 u7 u8 xc a2 a3) (cwV 2 hts gX7_chooseForDense_X7_compareDense rfl rfl rfl ⟨rfl, hd_X7_compareDense⟩ ⟨Nat.le_of_ble_eq_true rfl, Nat.le_of_ble_eq_true rfl⟩) ⟨bl_, va_recvX hK.1 hP (ci := 7) (q0 := 0) rfl rfl, fun U hU hW => ⟨rfl, by rw [hU], by rw [hU]; exact hPc, kk_mv hW hK, hDw⟩⟩ rfl rfl hl.1 rfl (lv_room (Nat.le_of_ble_eq_true rfl)) dB_36_1_62.1.2.1.2 ⟨Nat.le_of_ble_eq_true rfl, Nat.le_of_ble_eq_true rfl⟩) hS (fun q _ h => hFc q h) hFc (fun u t H locs ht hvm hw hB hz1 hk1 hS => ?_)
    obtain ⟨v7_15, v8_16, hP1, hD1⟩ := hB
    rw [ht] at hP1
    obtain ⟨hP, hD⟩ := va_join (wr := [ob0_0_ xc xn xk clo cro c4 c5 c6 c7 c8, ob3_0_ xn vp vn n1 n2 n3 n4 n5, aq_ cy 6 clo 12 (gf_ rl), ai_ cy (rl 0) 12 (Ml 0), ai_ cy (rl 1) 12 (Ml 1), ai_ cy (rl 2) 12 (Ml 2), ai_ cy (rl 3) 12 (Ml 3), ai_ cy (rl 4) 12 (Ml 4), ai_ cy (rl 5) 12 (Ml 5), ai_ cy (rl 6) 12 (Ml 6), ai_ cy (rl 7) 12 (Ml 7), ai_ cy (rl 8) 12 (Ml 8), ai_ cy (rl 9) 12 (Ml 9), ai_ cy (rl 10) 12 (Ml 10), ai_ cy (rl 11) 12 (Ml 11)]) (w1 := [ob7_0_ xh xc u1 u2 u3 u4 u5 u6 v7_15 v8_16]) hP hD [0] [1, 2, 3, 4, 5, 6, 7, 8, 9, 10, 11, 12, 13, 14, 15] hC_ rfl (by decide +kernel) (by decide +kernel) hk1 hFc hP1 hD1
    refine pd_S hP hD [ob7_0_ xh xc u1 u2 u3 u4 u5 u6 v7_15 v8_16, ob0_0_ xc xn xk clo cro c4 c5 c6 c7 c8, ob3_0_ xn vp vn n1 n2 n3 n4 n5, aq_ cy 6 clo 12 (gf_ rl), ai_ cy (rl 0) 12 (Ml 0), ai_ cy (rl 1) 12 (Ml 1), ai_ cy (rl 2) 12 (Ml 2), ai_ cy (rl 3) 12 (Ml 3), ai_ cy (rl 4) 12 (Ml 4), ai_ cy (rl 5) 12 (Ml 5), ai_ cy (rl 6) 12 (Ml 6), ai_ cy (rl 7) 12 (Ml 7), ai_ cy (rl 8) 12 (Ml 8), ai_ cy (rl 9) 12 (Ml 9), ai_ cy (rl 10) 12 (Ml 10), ai_ cy (rl 11) 12 (Ml 11)] [15, 0, 1, 2, 3, 4, 5, 6, 7, 8, 9, 10, 11, 12, 13, 14] (by decide +kernel) rfl (fun hP hD => ?_)
    rw [hQ]
    exact W.vret hx hb hr (fun t ht hW => ⟨⟨(), rfl, trivial, v7_15, v8_16, by rw [ht]; exact hP, hD⟩, hS.F ht⟩) hS.2.2 dB_36_1_62.1.2.2.1

set_option maxHeartbeats 4000000 in
set_option maxRecDepth 100000 in
theorem c_X7_chooseForDense_5 (l : Launch) (D : va_G) (cy : Nat → ClassId) (sz : Nat) (xh : Nat) (u1 : Int32) (u2 : Int32) (u3 : Int32) (u4 : Int32) (u5 : Int32) (u6 : Int32) (u7 : Int32) (u8 : Int32) (xc : Nat) (xk : Nat) (clo : Nat) (cro : Nat) (c4 : Nat) (c5 : Nat) (c6 : Nat) (c7 : Nat) (c8 : Nat) (xn : Nat) (n1 : Nat) (n2 : Nat) (n3 : Nat) (n4 : Nat) (n5 : Nat) (vp : Int32) (vn : Int32) (rl : Nat → Nat) (Ml : Nat → Nat → Int32) (a1 : Int32) (a2 : Int32) (a3 : Int32) (hvp : 0 ≤ vp.toInt ∧ vp.toInt ≤ 12) (q1 : -1 ≤ a1.toInt ∧ a1.toInt < 5) : Met l yX7_chooseForDense wsX7_chooseForDense ({ frames := 7, cells := 0, slots := 0, locals := 161 }) (va_Pc [.ref xh, .int a1, .int a2, .int a3] (fun U => U.heap.size = sz ∧ va_P D vwCl [ob7_0_ xh xc u1 u2 u3 u4 u5 u6 u7 u8, ob0_0_ xc xn xk clo cro c4 c5 c6 c7 c8, ob3_0_ xn vp vn n1 n2 n3 n4 n5, aq_ cy 6 clo 12 (gf_ rl), ai_ cy (rl 0) 12 (Ml 0), ai_ cy (rl 1) 12 (Ml 1), ai_ cy (rl 2) 12 (Ml 2), ai_ cy (rl 3) 12 (Ml 3), ai_ cy (rl 4) 12 (Ml 4), ai_ cy (rl 5) 12 (Ml 5), ai_ cy (rl 6) 12 (Ml 6), ai_ cy (rl 7) 12 (Ml 7), ai_ cy (rl 8) 12 (Ml 8), ai_ cy (rl 9) 12 (Ml 9), ai_ cy (rl 10) 12 (Ml 10), ai_ cy (rl 11) 12 (Ml 11)] U.heap ∧ kg_ D cy U ∧ va_D (fun _ => True) [ob7_0_ xh xc u1 u2 u3 u4 u5 u6 u7 u8, ob0_0_ xc xn xk clo cro c4 c5 c6 c7 c8, ob3_0_ xn vp vn n1 n2 n3 n4 n5, aq_ cy 6 clo 12 (gf_ rl), ai_ cy (rl 0) 12 (Ml 0), ai_ cy (rl 1) 12 (Ml 1), ai_ cy (rl 2) 12 (Ml 2), ai_ cy (rl 3) 12 (Ml 3), ai_ cy (rl 4) 12 (Ml 4), ai_ cy (rl 5) 12 (Ml 5), ai_ cy (rl 6) 12 (Ml 6), ai_ cy (rl 7) 12 (Ml 7), ai_ cy (rl 8) 12 (Ml 8), ai_ cy (rl 9) 12 (Ml 9), ai_ cy (rl 10) 12 (Ml 10), ai_ cy (rl 11) 12 (Ml 11)])) (va_Qv (fun (_ : Unit) => True) (fun (_ : Unit) (t : State) => ∃ (v7 : Int32), ∃ (v8 : Int32), va_P D vwCl [ob7_0_ xh xc u1 u2 u3 u4 u5 u6 v7 v8, ob0_0_ xc xn xk clo cro c4 c5 c6 c7 c8, ob3_0_ xn vp vn n1 n2 n3 n4 n5, aq_ cy 6 clo 12 (gf_ rl), ai_ cy (rl 0) 12 (Ml 0), ai_ cy (rl 1) 12 (Ml 1), ai_ cy (rl 2) 12 (Ml 2), ai_ cy (rl 3) 12 (Ml 3), ai_ cy (rl 4) 12 (Ml 4), ai_ cy (rl 5) 12 (Ml 5), ai_ cy (rl 6) 12 (Ml 6), ai_ cy (rl 7) 12 (Ml 7), ai_ cy (rl 8) 12 (Ml 8), ai_ cy (rl 9) 12 (Ml 9), ai_ cy (rl 10) 12 (Ml 10), ai_ cy (rl 11) 12 (Ml 11)] t.heap ∧ va_D (va_A [ob7_0_ xh xc u1 u2 u3 u4 u5 u6 u7 u8, ob0_0_ xc xn xk clo cro c4 c5 c6 c7 c8, ob3_0_ xn vp vn n1 n2 n3 n4 n5, aq_ cy 6 clo 12 (gf_ rl), ai_ cy (rl 0) 12 (Ml 0), ai_ cy (rl 1) 12 (Ml 1), ai_ cy (rl 2) 12 (Ml 2), ai_ cy (rl 3) 12 (Ml 3), ai_ cy (rl 4) 12 (Ml 4), ai_ cy (rl 5) 12 (Ml 5), ai_ cy (rl 6) 12 (Ml 6), ai_ cy (rl 7) 12 (Ml 7), ai_ cy (rl 8) 12 (Ml 8), ai_ cy (rl 9) 12 (Ml 9), ai_ cy (rl 10) 12 (Ml 10), ai_ cy (rl 11) 12 (Ml 11)] sz) [ob7_0_ xh xc u1 u2 u3 u4 u5 u6 v7 v8, ob0_0_ xc xn xk clo cro c4 c5 c6 c7 c8, ob3_0_ xn vp vn n1 n2 n3 n4 n5, aq_ cy 6 clo 12 (gf_ rl), ai_ cy (rl 0) 12 (Ml 0), ai_ cy (rl 1) 12 (Ml 1), ai_ cy (rl 2) 12 (Ml 2), ai_ cy (rl 3) 12 (Ml 3), ai_ cy (rl 4) 12 (Ml 4), ai_ cy (rl 5) 12 (Ml 5), ai_ cy (rl 6) 12 (Ml 6), ai_ cy (rl 7) 12 (Ml 7), ai_ cy (rl 8) 12 (Ml 8), ai_ cy (rl 9) 12 (Ml 9), ai_ cy (rl 10) 12 (Ml 10), ai_ cy (rl 11) 12 (Ml 11)]) (va_A [ob7_0_ xh xc u1 u2 u3 u4 u5 u6 u7 u8, ob0_0_ xc xn xk clo cro c4 c5 c6 c7 c8, ob3_0_ xn vp vn n1 n2 n3 n4 n5, aq_ cy 6 clo 12 (gf_ rl), ai_ cy (rl 0) 12 (Ml 0), ai_ cy (rl 1) 12 (Ml 1), ai_ cy (rl 2) 12 (Ml 2), ai_ cy (rl 3) 12 (Ml 3), ai_ cy (rl 4) 12 (Ml 4), ai_ cy (rl 5) 12 (Ml 5), ai_ cy (rl 6) 12 (Ml 6), ai_ cy (rl 7) 12 (Ml 7), ai_ cy (rl 8) 12 (Ml 8), ai_ cy (rl 9) 12 (Ml 9), ai_ cy (rl 10) 12 (Ml 10), ai_ cy (rl 11) 12 (Ml 11)] sz)) 0 0 (va_A [ob7_0_ xh xc u1 u2 u3 u4 u5 u6 u7 u8, ob0_0_ xc xn xk clo cro c4 c5 c6 c7 c8, ob3_0_ xn vp vn n1 n2 n3 n4 n5, aq_ cy 6 clo 12 (gf_ rl), ai_ cy (rl 0) 12 (Ml 0), ai_ cy (rl 1) 12 (Ml 1), ai_ cy (rl 2) 12 (Ml 2), ai_ cy (rl 3) 12 (Ml 3), ai_ cy (rl 4) 12 (Ml 4), ai_ cy (rl 5) 12 (Ml 5), ai_ cy (rl 6) 12 (Ml 6), ai_ cy (rl 7) 12 (Ml 7), ai_ cy (rl 8) 12 (Ml 8), ai_ cy (rl 9) 12 (Ml 9), ai_ cy (rl 10) 12 (Ml 10), ai_ cy (rl 11) 12 (Ml 11)] sz) := by
  refine ofQ (cc := cX7_chooseForDense) (maxL := 4) (ret := none) (by decide) rfl ?_
  intro p e s m args below meth c s₁ Q hQ B hml hv
  obtain ⟨rfl, hsz, hP, hK, hD0⟩ := hv
  have hG := hK.2
  have hK := hK.1
  have hx := B.exec
  have hb := B.bytes
  have hr := B.returns
  have hts := atoms_spec (ws := wsX7_chooseForDense) B.pre
  have hown : s.vm.findClass RX7 = some m.cls := by have h_ := findClass_of_methodNamed B.named; exact h_
  have hlocks := B.notSynchronized
  subst hsz
  have hD := hD0.self (sz := s.heap.size)
  generalize hAe : va_A [ob7_0_ xh xc u1 u2 u3 u4 u5 u6 u7 u8, ob0_0_ xc xn xk clo cro c4 c5 c6 c7 c8, ob3_0_ xn vp vn n1 n2 n3 n4 n5, aq_ cy 6 clo 12 (gf_ rl), ai_ cy (rl 0) 12 (Ml 0), ai_ cy (rl 1) 12 (Ml 1), ai_ cy (rl 2) 12 (Ml 2), ai_ cy (rl 3) 12 (Ml 3), ai_ cy (rl 4) 12 (Ml 4), ai_ cy (rl 5) 12 (Ml 5), ai_ cy (rl 6) 12 (Ml 6), ai_ cy (rl 7) 12 (Ml 7), ai_ cy (rl 8) 12 (Ml 8), ai_ cy (rl 9) 12 (Ml 9), ai_ cy (rl 10) 12 (Ml 10), ai_ cy (rl 11) 12 (Ml 11)] s.heap.size = A at hD hQ
  have hA : ∀ q : Nat, s.heap.size ≤ q → A q := fun q h => by rw [← hAe]; exact Or.inr h
  have hS : va_S A s.heap s.heap [] := va_S.rf
  have hl := lv_entry ([.ref xh, .int a1, .int a2, .int a3]) (n := 4) (Nat.le_of_ble_eq_true rfl)
  rw [lg_entry_eq]
  generalize (lg_sl ([.ref xh, .int a1, .int a2, .int a3]) ++ List.replicate (4 - (lg_sl ([.ref xh, .int a1, .int a2, .int a3])).length) Slot.unset).toArray = ls at hl ⊢
  have hl : lv_has ls 4 [(0, .ref xh), (1, .int a1), (2, .int a2), (3, .int a3)] := hl
  have z0 : (0 : Int32).toInt = 0 := by decide
  have z1 : (1 : Int32).toInt = 1 := by decide
  refine lv_iload_n hx hb dB_36_1_62.1.1.1.1 rfl (lv_at hl 1 rfl) ?_
  refine lv_if_ge (tgt := 11) hx hb dB_36_1_62.1.1.1.2 (by decide) (fun c_1 => ?_) (fun c_1 => ?_)
  · have t_1 : (0 : Int32).toInt ≤ a1.toInt := Int32.le_iff_toInt_le.mp c_1
    refine lv_aload_n hx hb dB_36_1_62.1.2.2.2 rfl (lv_at hl 0 rfl) ?_
    refine lv_iload_n hx hb dB_36_1_62.2.1.1.1 rfl (lv_at hl 1 rfl) ?_
    refine lv_iconst (v := 1) hx hb dB_36_1_62.2.1.1.2 (by decide) ?_
    refine lv_isub hx hb dB_36_1_62.2.1.2.1 ?_
    refine lv_topi (fun y_2 ey_2 => ?_)
    have ty_2 : y_2.toInt = a1.toInt - (1 : Int32).toInt := by rw [ey_2]; exact subI (by omega) (by omega)
    refine lv_iload_n hx hb dB_36_1_62.2.1.2.2 rfl (lv_at hl 2 rfl) ?_
    refine lv_iload_n hx hb dB_36_1_62.2.2.1.1 rfl (lv_at hl 3 rfl) ?_
    refine ct_S hP hD hS hA [ob7_0_ xh xc u1 u2 u3 u4 u5 u6 u7 u8, ob0_0_ xc xn xk clo cro c4 c5 c6 c7 c8, ob3_0_ xn vp vn n1 n2 n3 n4 n5, aq_ cy 6 clo 12 (gf_ rl), ai_ cy (rl 0) 12 (Ml 0), ai_ cy (rl 1) 12 (Ml 1), ai_ cy (rl 2) 12 (Ml 2), ai_ cy (rl 3) 12 (Ml 3), ai_ cy (rl 4) 12 (Ml 4), ai_ cy (rl 5) 12 (Ml 5), ai_ cy (rl 6) 12 (Ml 6), ai_ cy (rl 7) 12 (Ml 7), ai_ cy (rl 8) 12 (Ml 8), ai_ cy (rl 9) 12 (Ml 9), ai_ cy (rl 10) 12 (Ml 10), ai_ cy (rl 11) 12 (Ml 11)] [0, 1, 2, 3, 4, 5, 6, 7, 8, 9, 10, 11, 12, 13, 14, 15] (by decide +kernel) rfl (fun hPc hDw hFc hC_ => ?_)
    refine va_callv (va_runV (As := [.int y_2, .int a2, .int a3]) (rest := []) ⟨hx, hb, hml, hown, hts⟩ (c_X7_chooseForDense_4 l D cy s.heap.size xh u1 u2 u3 u4 u5 u6 u7 u8 xc xk clo cro c4 c5 c6 c7 c8 xn n1 n2 n3 n4 n5 vp vn rl Ml y_2 a2 a3 (by first | with_reducible assumption | omega | assumption) (by first | with_reducible assumption | omega | assumption)) (cwV 3 hts gX7_chooseForDense_X7_chooseForDense rfl rfl rfl ⟨rfl, hd_X7_chooseForDense⟩ ⟨Nat.le_of_ble_eq_true rfl, Nat.le_of_ble_eq_true rfl⟩) ⟨bl_g, va_recvX hK.1 hP (ci := 7) (q0 := 0) rfl rfl, fun U hU hW => ⟨rfl, by rw [hU], by rw [hU]; exact hPc, ⟨kk_mv hW hK, arrOfT_moved hW.alike hG⟩, hDw⟩⟩ rfl rfl hl.1 rfl (lv_room (Nat.le_of_ble_eq_true rfl)) dB_36_1_62.2.2.1.2 ⟨Nat.le_of_ble_eq_true rfl, Nat.le_of_ble_eq_true rfl⟩) hS (fun q _ h => hFc q h) hFc (fun u t H locs ht hvm hw hB hz1 hk1 hS => ?_)
    obtain ⟨v7_4, v8_5, hP1, hD1⟩ := hB
    rw [ht] at hP1
    obtain ⟨hP, hD⟩ := va_join (wr := []) (w1 := [ob7_0_ xh xc u1 u2 u3 u4 u5 u6 v7_4 v8_5, ob0_0_ xc xn xk clo cro c4 c5 c6 c7 c8, ob3_0_ xn vp vn n1 n2 n3 n4 n5, aq_ cy 6 clo 12 (gf_ rl), ai_ cy (rl 0) 12 (Ml 0), ai_ cy (rl 1) 12 (Ml 1), ai_ cy (rl 2) 12 (Ml 2), ai_ cy (rl 3) 12 (Ml 3), ai_ cy (rl 4) 12 (Ml 4), ai_ cy (rl 5) 12 (Ml 5), ai_ cy (rl 6) 12 (Ml 6), ai_ cy (rl 7) 12 (Ml 7), ai_ cy (rl 8) 12 (Ml 8), ai_ cy (rl 9) 12 (Ml 9), ai_ cy (rl 10) 12 (Ml 10), ai_ cy (rl 11) 12 (Ml 11)]) hP hD [0, 1, 2, 3, 4, 5, 6, 7, 8, 9, 10, 11, 12, 13, 14, 15] [] hC_ rfl (by decide) (by decide) hk1 hFc hP1 hD1
    refine pd_K [ob7_0_ xh xc u1 u2 u3 u4 u5 u6 v7_4 v8_5, ob0_0_ xc xn xk clo cro c4 c5 c6 c7 c8, ob3_0_ xn vp vn n1 n2 n3 n4 n5, aq_ cy 6 clo 12 (gf_ rl), ai_ cy (rl 0) 12 (Ml 0), ai_ cy (rl 1) 12 (Ml 1), ai_ cy (rl 2) 12 (Ml 2), ai_ cy (rl 3) 12 (Ml 3), ai_ cy (rl 4) 12 (Ml 4), ai_ cy (rl 5) 12 (Ml 5), ai_ cy (rl 6) 12 (Ml 6), ai_ cy (rl 7) 12 (Ml 7), ai_ cy (rl 8) 12 (Ml 8), ai_ cy (rl 9) 12 (Ml 9), ai_ cy (rl 10) 12 (Ml 10), ai_ cy (rl 11) 12 (Ml 11)] hP hD (fun hP hD => ?_)
    refine lv_aload_n hx hb dB_36_1_62.2.2.2.1 rfl (lv_at hl 0 rfl) ?_
    refine lv_iload_n hx hb dB_36_1_62.2.2.2.2 rfl (lv_at hl 1 rfl) ?_
    refine lv_iconst (v := 1) hx hb dB_36_1_63.1.1.1 (by decide) ?_
    refine lv_isub hx hb dB_36_1_63.1.1.2.1 ?_
    refine lv_topi (fun y_6 ey_6 => ?_)
    have e_ := (ey_6.trans ey_2.symm).symm
    subst e_
    refine lv_iload_n hx hb dB_36_1_63.1.1.2.2 rfl (lv_at hl 2 rfl) ?_
    refine lv_iconst (v := 1) hx hb dB_36_1_63.1.2.1.1 (by decide) ?_
    refine lv_iload_n hx hb dB_36_1_63.1.2.1.2 rfl (lv_at hl 1 rfl) ?_
    refine lv_ishl hx hb dB_36_1_63.1.2.2.1 ?_
    refine lv_topi (fun y_7 ey_7 => ?_)
    refine lv_ior hx hb dB_36_1_63.1.2.2.2 ?_
    refine lv_topi (fun y_8 ey_8 => ?_)
    refine lv_iload_n hx hb dB_36_1_63.2.1.1.1 rfl (lv_at hl 3 rfl) ?_
    refine lv_aload_n hx hb dB_36_1_63.2.1.1.2 rfl (lv_at hl 0 rfl) ?_
    refine lv_iload_n hx hb dB_36_1_63.2.1.2.1 rfl (lv_at hl 1 rfl) ?_
    refine lv_iload_n hx hb dB_36_1_63.2.1.2.2 rfl (lv_at hl 2 rfl) ?_
    refine ct_R hP hD [ob7_0_ xh xc u1 u2 u3 u4 u5 u6 v7_4 v8_5, ob0_0_ xc xn xk clo cro c4 c5 c6 c7 c8, ob3_0_ xn vp vn n1 n2 n3 n4 n5, aq_ cy 6 clo 12 (gf_ rl), ai_ cy (rl 0) 12 (Ml 0), ai_ cy (rl 1) 12 (Ml 1), ai_ cy (rl 2) 12 (Ml 2), ai_ cy (rl 3) 12 (Ml 3), ai_ cy (rl 4) 12 (Ml 4), ai_ cy (rl 5) 12 (Ml 5), ai_ cy (rl 6) 12 (Ml 6), ai_ cy (rl 7) 12 (Ml 7), ai_ cy (rl 8) 12 (Ml 8), ai_ cy (rl 9) 12 (Ml 9), ai_ cy (rl 10) 12 (Ml 10), ai_ cy (rl 11) 12 (Ml 11)] [0, 1, 2, 3, 4, 5, 6, 7, 8, 9, 10, 11, 12, 13, 14, 15] (by decide +kernel) rfl (fun hPc hDw => ?_)
    have hFc := va_free (wc := []) hD hS hA [] rfl
    refine va_calli (va_runV (As := [.int a1, .int a2]) (rest := [.int a3, .int y_8, .int y_2, .ref xh]) ⟨hx, hb, hml, hown, hts⟩ (c_X7_letIn l D cy H.size xh u1 u2 u3 u4 u5 u6 v7_4 v8_5 xc xk clo cro c4 c5 c6 c7 c8 xn n1 n2 n3 n4 n5 vp vn rl Ml a1 a2 (by first | with_reducible assumption | omega | assumption) (by first | with_reducible assumption | omega | assumption)) (cwV 2 hts gX7_chooseForDense_X7_letIn rfl rfl rfl ⟨rfl, hd_X7_letIn⟩ ⟨Nat.le_of_ble_eq_true rfl, Nat.le_of_ble_eq_true rfl⟩) ⟨bl_g, va_recvX hK.1 hP (ci := 7) (q0 := 0) rfl rfl, fun U hU hW => ⟨rfl, by rw [hU], by rw [hU]; exact hPc, ⟨kk_mv hW hK, arrOfT_moved hW.alike hG⟩, hDw⟩⟩ rfl rfl hl.1 rfl (lv_room (Nat.le_of_ble_eq_true rfl)) dB_36_1_63.2.2.1.1 ⟨Nat.le_of_ble_eq_true rfl, Nat.le_of_ble_eq_true rfl⟩) hS (fun q _ h => hFc q h) hFc (fun r_9 u t H locs ht hvm hw hB hz1 hk1 hS => ?_)
    have hP : va_P D vwCl _ H := ro_keep hP hk1
    refine lv_iadd hx hb dB_36_1_63.2.2.1.2 ?_
    refine lv_topi (fun y_10 ey_10 => ?_)
    refine ct_S hP hD hS hA [ob7_0_ xh xc u1 u2 u3 u4 u5 u6 v7_4 v8_5, ob0_0_ xc xn xk clo cro c4 c5 c6 c7 c8, ob3_0_ xn vp vn n1 n2 n3 n4 n5, aq_ cy 6 clo 12 (gf_ rl), ai_ cy (rl 0) 12 (Ml 0), ai_ cy (rl 1) 12 (Ml 1), ai_ cy (rl 2) 12 (Ml 2), ai_ cy (rl 3) 12 (Ml 3), ai_ cy (rl 4) 12 (Ml 4), ai_ cy (rl 5) 12 (Ml 5), ai_ cy (rl 6) 12 (Ml 6), ai_ cy (rl 7) 12 (Ml 7), ai_ cy (rl 8) 12 (Ml 8), ai_ cy (rl 9) 12 (Ml 9), ai_ cy (rl 10) 12 (Ml 10), ai_ cy (rl 11) 12 (Ml 11)] [0, 1, 2, 3, 4, 5, 6, 7, 8, 9, 10, 11, 12, 13, 14, 15] (by decide +kernel) rfl (fun hPc hDw hFc hC_ => ?_)
    refine va_callv (va_runV (As := [.int y_2, .int y_8, .int y_10]) (rest := []) ⟨hx, hb, hml, hown, hts⟩ (c_X7_chooseForDense_4 l D cy H.size xh u1 u2 u3 u4 u5 u6 v7_4 v8_5 xc xk clo cro c4 c5 c6 c7 c8 xn n1 n2 n3 n4 n5 vp vn rl Ml y_2 y_8 y_10 (by first | with_reducible assumption | omega | assumption) (by first | with_reducible assumption | omega | assumption)) (cwV 3 hts gX7_chooseForDense_X7_chooseForDense rfl rfl rfl ⟨rfl, hd_X7_chooseForDense⟩ ⟨Nat.le_of_ble_eq_true rfl, Nat.le_of_ble_eq_true rfl⟩) ⟨bl_g, va_recvX hK.1 hP (ci := 7) (q0 := 0) rfl rfl, fun U hU hW => ⟨rfl, by rw [hU], by rw [hU]; exact hPc, ⟨kk_mv hW hK, arrOfT_moved hW.alike hG⟩, hDw⟩⟩ rfl rfl hl.1 rfl (lv_room (Nat.le_of_ble_eq_true rfl)) dB_36_1_63.2.2.2.1 ⟨Nat.le_of_ble_eq_true rfl, Nat.le_of_ble_eq_true rfl⟩) hS (fun q _ h => hFc q h) hFc (fun u t H locs ht hvm hw hB hz1 hk1 hS => ?_)
    obtain ⟨v7_12, v8_13, hP1, hD1⟩ := hB
    rw [ht] at hP1
    obtain ⟨hP, hD⟩ := va_join (wr := []) (w1 := [ob7_0_ xh xc u1 u2 u3 u4 u5 u6 v7_12 v8_13, ob0_0_ xc xn xk clo cro c4 c5 c6 c7 c8, ob3_0_ xn vp vn n1 n2 n3 n4 n5, aq_ cy 6 clo 12 (gf_ rl), ai_ cy (rl 0) 12 (Ml 0), ai_ cy (rl 1) 12 (Ml 1), ai_ cy (rl 2) 12 (Ml 2), ai_ cy (rl 3) 12 (Ml 3), ai_ cy (rl 4) 12 (Ml 4), ai_ cy (rl 5) 12 (Ml 5), ai_ cy (rl 6) 12 (Ml 6), ai_ cy (rl 7) 12 (Ml 7), ai_ cy (rl 8) 12 (Ml 8), ai_ cy (rl 9) 12 (Ml 9), ai_ cy (rl 10) 12 (Ml 10), ai_ cy (rl 11) 12 (Ml 11)]) hP hD [0, 1, 2, 3, 4, 5, 6, 7, 8, 9, 10, 11, 12, 13, 14, 15] [] hC_ rfl (by decide) (by decide) hk1 hFc hP1 hD1
    refine pd_K [ob7_0_ xh xc u1 u2 u3 u4 u5 u6 v7_12 v8_13, ob0_0_ xc xn xk clo cro c4 c5 c6 c7 c8, ob3_0_ xn vp vn n1 n2 n3 n4 n5, aq_ cy 6 clo 12 (gf_ rl), ai_ cy (rl 0) 12 (Ml 0), ai_ cy (rl 1) 12 (Ml 1), ai_ cy (rl 2) 12 (Ml 2), ai_ cy (rl 3) 12 (Ml 3), ai_ cy (rl 4) 12 (Ml 4), ai_ cy (rl 5) 12 (Ml 5), ai_ cy (rl 6) 12 (Ml 6), ai_ cy (rl 7) 12 (Ml 7), ai_ cy (rl 8) 12 (Ml 8), ai_ cy (rl 9) 12 (Ml 9), ai_ cy (rl 10) 12 (Ml 10), ai_ cy (rl 11) 12 (Ml 11)] hP hD (fun hP hD => ?_)
    rw [hQ]
    exact W.vret hx hb hr (fun t ht hW => ⟨⟨(), rfl, trivial, v7_12, v8_13, by rw [ht]; exact hP, hD⟩, hS.F ht⟩) hS.2.2 dB_36_1_63.2.2.2.2
  · have t_1 : ¬ (0 : Int32).toInt ≤ a1.toInt := fun h => c_1 (Int32.le_iff_toInt_le.mpr h)
    refine lv_aload_n hx hb dB_36_1_62.1.1.2.1 rfl (lv_at hl 0 rfl) ?_
    refine lv_iload_n hx hb dB_36_1_62.1.1.2.2 rfl (lv_at hl 2 rfl) ?_
    refine lv_iload_n hx hb dB_36_1_62.1.2.1.1 rfl (lv_at hl 3 rfl) ?_
    refine ct_S hP hD hS hA [ob7_0_ xh xc u1 u2 u3 u4 u5 u6 u7 u8] [0] (by decide) rfl (fun hPc hDw hFc hC_ => ?_)
    refine va_callv (va_runV (As := [.int a2, .int a3]) (rest := []) ⟨hx, hb, hml, hown, hts⟩ (c_X7_compareDense l D cy s.heap.size xh u1 u2 u3 u4 u5 u6 u7 u8 xc a2 a3) (cwV 2 hts gX7_chooseForDense_X7_compareDense rfl rfl rfl ⟨rfl, hd_X7_compareDense⟩ ⟨Nat.le_of_ble_eq_true rfl, Nat.le_of_ble_eq_true rfl⟩) ⟨bl_, va_recvX hK.1 hP (ci := 7) (q0 := 0) rfl rfl, fun U hU hW => ⟨rfl, by rw [hU], by rw [hU]; exact hPc, kk_mv hW hK, hDw⟩⟩ rfl rfl hl.1 rfl (lv_room (Nat.le_of_ble_eq_true rfl)) dB_36_1_62.1.2.1.2 ⟨Nat.le_of_ble_eq_true rfl, Nat.le_of_ble_eq_true rfl⟩) hS (fun q _ h => hFc q h) hFc (fun u t H locs ht hvm hw hB hz1 hk1 hS => ?_)
    obtain ⟨v7_15, v8_16, hP1, hD1⟩ := hB
    rw [ht] at hP1
    obtain ⟨hP, hD⟩ := va_join (wr := [ob0_0_ xc xn xk clo cro c4 c5 c6 c7 c8, ob3_0_ xn vp vn n1 n2 n3 n4 n5, aq_ cy 6 clo 12 (gf_ rl), ai_ cy (rl 0) 12 (Ml 0), ai_ cy (rl 1) 12 (Ml 1), ai_ cy (rl 2) 12 (Ml 2), ai_ cy (rl 3) 12 (Ml 3), ai_ cy (rl 4) 12 (Ml 4), ai_ cy (rl 5) 12 (Ml 5), ai_ cy (rl 6) 12 (Ml 6), ai_ cy (rl 7) 12 (Ml 7), ai_ cy (rl 8) 12 (Ml 8), ai_ cy (rl 9) 12 (Ml 9), ai_ cy (rl 10) 12 (Ml 10), ai_ cy (rl 11) 12 (Ml 11)]) (w1 := [ob7_0_ xh xc u1 u2 u3 u4 u5 u6 v7_15 v8_16]) hP hD [0] [1, 2, 3, 4, 5, 6, 7, 8, 9, 10, 11, 12, 13, 14, 15] hC_ rfl (by decide +kernel) (by decide +kernel) hk1 hFc hP1 hD1
    refine pd_S hP hD [ob7_0_ xh xc u1 u2 u3 u4 u5 u6 v7_15 v8_16, ob0_0_ xc xn xk clo cro c4 c5 c6 c7 c8, ob3_0_ xn vp vn n1 n2 n3 n4 n5, aq_ cy 6 clo 12 (gf_ rl), ai_ cy (rl 0) 12 (Ml 0), ai_ cy (rl 1) 12 (Ml 1), ai_ cy (rl 2) 12 (Ml 2), ai_ cy (rl 3) 12 (Ml 3), ai_ cy (rl 4) 12 (Ml 4), ai_ cy (rl 5) 12 (Ml 5), ai_ cy (rl 6) 12 (Ml 6), ai_ cy (rl 7) 12 (Ml 7), ai_ cy (rl 8) 12 (Ml 8), ai_ cy (rl 9) 12 (Ml 9), ai_ cy (rl 10) 12 (Ml 10), ai_ cy (rl 11) 12 (Ml 11)] [15, 0, 1, 2, 3, 4, 5, 6, 7, 8, 9, 10, 11, 12, 13, 14] (by decide +kernel) rfl (fun hP hD => ?_)
    rw [hQ]
    exact W.vret hx hb hr (fun t ht hW => ⟨⟨(), rfl, trivial, v7_15, v8_16, by rw [ht]; exact hP, hD⟩, hS.F ht⟩) hS.2.2 dB_36_1_62.1.2.2.1

set_option maxHeartbeats 4000000 in
set_option maxRecDepth 100000 in
theorem c_X7_chooseForDense_6 (l : Launch) (D : va_G) (cy : Nat → ClassId) (sz : Nat) (xh : Nat) (u1 : Int32) (u2 : Int32) (u3 : Int32) (u4 : Int32) (u5 : Int32) (u6 : Int32) (u7 : Int32) (u8 : Int32) (xc : Nat) (xk : Nat) (clo : Nat) (cro : Nat) (c4 : Nat) (c5 : Nat) (c6 : Nat) (c7 : Nat) (c8 : Nat) (xn : Nat) (n1 : Nat) (n2 : Nat) (n3 : Nat) (n4 : Nat) (n5 : Nat) (vp : Int32) (vn : Int32) (rl : Nat → Nat) (Ml : Nat → Nat → Int32) (a1 : Int32) (a2 : Int32) (a3 : Int32) (hvp : 0 ≤ vp.toInt ∧ vp.toInt ≤ 12) (q1 : -1 ≤ a1.toInt ∧ a1.toInt < 6) : Met l yX7_chooseForDense wsX7_chooseForDense ({ frames := 8, cells := 0, slots := 0, locals := 184 }) (va_Pc [.ref xh, .int a1, .int a2, .int a3] (fun U => U.heap.size = sz ∧ va_P D vwCl [ob7_0_ xh xc u1 u2 u3 u4 u5 u6 u7 u8, ob0_0_ xc xn xk clo cro c4 c5 c6 c7 c8, ob3_0_ xn vp vn n1 n2 n3 n4 n5, aq_ cy 6 clo 12 (gf_ rl), ai_ cy (rl 0) 12 (Ml 0), ai_ cy (rl 1) 12 (Ml 1), ai_ cy (rl 2) 12 (Ml 2), ai_ cy (rl 3) 12 (Ml 3), ai_ cy (rl 4) 12 (Ml 4), ai_ cy (rl 5) 12 (Ml 5), ai_ cy (rl 6) 12 (Ml 6), ai_ cy (rl 7) 12 (Ml 7), ai_ cy (rl 8) 12 (Ml 8), ai_ cy (rl 9) 12 (Ml 9), ai_ cy (rl 10) 12 (Ml 10), ai_ cy (rl 11) 12 (Ml 11)] U.heap ∧ kg_ D cy U ∧ va_D (fun _ => True) [ob7_0_ xh xc u1 u2 u3 u4 u5 u6 u7 u8, ob0_0_ xc xn xk clo cro c4 c5 c6 c7 c8, ob3_0_ xn vp vn n1 n2 n3 n4 n5, aq_ cy 6 clo 12 (gf_ rl), ai_ cy (rl 0) 12 (Ml 0), ai_ cy (rl 1) 12 (Ml 1), ai_ cy (rl 2) 12 (Ml 2), ai_ cy (rl 3) 12 (Ml 3), ai_ cy (rl 4) 12 (Ml 4), ai_ cy (rl 5) 12 (Ml 5), ai_ cy (rl 6) 12 (Ml 6), ai_ cy (rl 7) 12 (Ml 7), ai_ cy (rl 8) 12 (Ml 8), ai_ cy (rl 9) 12 (Ml 9), ai_ cy (rl 10) 12 (Ml 10), ai_ cy (rl 11) 12 (Ml 11)])) (va_Qv (fun (_ : Unit) => True) (fun (_ : Unit) (t : State) => ∃ (v7 : Int32), ∃ (v8 : Int32), va_P D vwCl [ob7_0_ xh xc u1 u2 u3 u4 u5 u6 v7 v8, ob0_0_ xc xn xk clo cro c4 c5 c6 c7 c8, ob3_0_ xn vp vn n1 n2 n3 n4 n5, aq_ cy 6 clo 12 (gf_ rl), ai_ cy (rl 0) 12 (Ml 0), ai_ cy (rl 1) 12 (Ml 1), ai_ cy (rl 2) 12 (Ml 2), ai_ cy (rl 3) 12 (Ml 3), ai_ cy (rl 4) 12 (Ml 4), ai_ cy (rl 5) 12 (Ml 5), ai_ cy (rl 6) 12 (Ml 6), ai_ cy (rl 7) 12 (Ml 7), ai_ cy (rl 8) 12 (Ml 8), ai_ cy (rl 9) 12 (Ml 9), ai_ cy (rl 10) 12 (Ml 10), ai_ cy (rl 11) 12 (Ml 11)] t.heap ∧ va_D (va_A [ob7_0_ xh xc u1 u2 u3 u4 u5 u6 u7 u8, ob0_0_ xc xn xk clo cro c4 c5 c6 c7 c8, ob3_0_ xn vp vn n1 n2 n3 n4 n5, aq_ cy 6 clo 12 (gf_ rl), ai_ cy (rl 0) 12 (Ml 0), ai_ cy (rl 1) 12 (Ml 1), ai_ cy (rl 2) 12 (Ml 2), ai_ cy (rl 3) 12 (Ml 3), ai_ cy (rl 4) 12 (Ml 4), ai_ cy (rl 5) 12 (Ml 5), ai_ cy (rl 6) 12 (Ml 6), ai_ cy (rl 7) 12 (Ml 7), ai_ cy (rl 8) 12 (Ml 8), ai_ cy (rl 9) 12 (Ml 9), ai_ cy (rl 10) 12 (Ml 10), ai_ cy (rl 11) 12 (Ml 11)] sz) [ob7_0_ xh xc u1 u2 u3 u4 u5 u6 v7 v8, ob0_0_ xc xn xk clo cro c4 c5 c6 c7 c8, ob3_0_ xn vp vn n1 n2 n3 n4 n5, aq_ cy 6 clo 12 (gf_ rl), ai_ cy (rl 0) 12 (Ml 0), ai_ cy (rl 1) 12 (Ml 1), ai_ cy (rl 2) 12 (Ml 2), ai_ cy (rl 3) 12 (Ml 3), ai_ cy (rl 4) 12 (Ml 4), ai_ cy (rl 5) 12 (Ml 5), ai_ cy (rl 6) 12 (Ml 6), ai_ cy (rl 7) 12 (Ml 7), ai_ cy (rl 8) 12 (Ml 8), ai_ cy (rl 9) 12 (Ml 9), ai_ cy (rl 10) 12 (Ml 10), ai_ cy (rl 11) 12 (Ml 11)]) (va_A [ob7_0_ xh xc u1 u2 u3 u4 u5 u6 u7 u8, ob0_0_ xc xn xk clo cro c4 c5 c6 c7 c8, ob3_0_ xn vp vn n1 n2 n3 n4 n5, aq_ cy 6 clo 12 (gf_ rl), ai_ cy (rl 0) 12 (Ml 0), ai_ cy (rl 1) 12 (Ml 1), ai_ cy (rl 2) 12 (Ml 2), ai_ cy (rl 3) 12 (Ml 3), ai_ cy (rl 4) 12 (Ml 4), ai_ cy (rl 5) 12 (Ml 5), ai_ cy (rl 6) 12 (Ml 6), ai_ cy (rl 7) 12 (Ml 7), ai_ cy (rl 8) 12 (Ml 8), ai_ cy (rl 9) 12 (Ml 9), ai_ cy (rl 10) 12 (Ml 10), ai_ cy (rl 11) 12 (Ml 11)] sz)) 0 0 (va_A [ob7_0_ xh xc u1 u2 u3 u4 u5 u6 u7 u8, ob0_0_ xc xn xk clo cro c4 c5 c6 c7 c8, ob3_0_ xn vp vn n1 n2 n3 n4 n5, aq_ cy 6 clo 12 (gf_ rl), ai_ cy (rl 0) 12 (Ml 0), ai_ cy (rl 1) 12 (Ml 1), ai_ cy (rl 2) 12 (Ml 2), ai_ cy (rl 3) 12 (Ml 3), ai_ cy (rl 4) 12 (Ml 4), ai_ cy (rl 5) 12 (Ml 5), ai_ cy (rl 6) 12 (Ml 6), ai_ cy (rl 7) 12 (Ml 7), ai_ cy (rl 8) 12 (Ml 8), ai_ cy (rl 9) 12 (Ml 9), ai_ cy (rl 10) 12 (Ml 10), ai_ cy (rl 11) 12 (Ml 11)] sz) := by
  refine ofQ (cc := cX7_chooseForDense) (maxL := 4) (ret := none) (by decide) rfl ?_
  intro p e s m args below meth c s₁ Q hQ B hml hv
  obtain ⟨rfl, hsz, hP, hK, hD0⟩ := hv
  have hG := hK.2
  have hK := hK.1
  have hx := B.exec
  have hb := B.bytes
  have hr := B.returns
  have hts := atoms_spec (ws := wsX7_chooseForDense) B.pre
  have hown : s.vm.findClass RX7 = some m.cls := by have h_ := findClass_of_methodNamed B.named; exact h_
  have hlocks := B.notSynchronized
  subst hsz
  have hD := hD0.self (sz := s.heap.size)
  generalize hAe : va_A [ob7_0_ xh xc u1 u2 u3 u4 u5 u6 u7 u8, ob0_0_ xc xn xk clo cro c4 c5 c6 c7 c8, ob3_0_ xn vp vn n1 n2 n3 n4 n5, aq_ cy 6 clo 12 (gf_ rl), ai_ cy (rl 0) 12 (Ml 0), ai_ cy (rl 1) 12 (Ml 1), ai_ cy (rl 2) 12 (Ml 2), ai_ cy (rl 3) 12 (Ml 3), ai_ cy (rl 4) 12 (Ml 4), ai_ cy (rl 5) 12 (Ml 5), ai_ cy (rl 6) 12 (Ml 6), ai_ cy (rl 7) 12 (Ml 7), ai_ cy (rl 8) 12 (Ml 8), ai_ cy (rl 9) 12 (Ml 9), ai_ cy (rl 10) 12 (Ml 10), ai_ cy (rl 11) 12 (Ml 11)] s.heap.size = A at hD hQ
  have hA : ∀ q : Nat, s.heap.size ≤ q → A q := fun q h => by rw [← hAe]; exact Or.inr h
  have hS : va_S A s.heap s.heap [] := va_S.rf
  have hl := lv_entry ([.ref xh, .int a1, .int a2, .int a3]) (n := 4) (Nat.le_of_ble_eq_true rfl)
  rw [lg_entry_eq]
  generalize (lg_sl ([.ref xh, .int a1, .int a2, .int a3]) ++ List.replicate (4 - (lg_sl ([.ref xh, .int a1, .int a2, .int a3])).length) Slot.unset).toArray = ls at hl ⊢
  have hl : lv_has ls 4 [(0, .ref xh), (1, .int a1), (2, .int a2), (3, .int a3)] := hl
  have z0 : (0 : Int32).toInt = 0 := by decide
  have z1 : (1 : Int32).toInt = 1 := by decide
  refine lv_iload_n hx hb dB_36_1_62.1.1.1.1 rfl (lv_at hl 1 rfl) ?_
  refine lv_if_ge (tgt := 11) hx hb dB_36_1_62.1.1.1.2 (by decide) (fun c_1 => ?_) (fun c_1 => ?_)
  · have t_1 : (0 : Int32).toInt ≤ a1.toInt := Int32.le_iff_toInt_le.mp c_1
    refine lv_aload_n hx hb dB_36_1_62.1.2.2.2 rfl (lv_at hl 0 rfl) ?_
    refine lv_iload_n hx hb dB_36_1_62.2.1.1.1 rfl (lv_at hl 1 rfl) ?_
    refine lv_iconst (v := 1) hx hb dB_36_1_62.2.1.1.2 (by decide) ?_
    refine lv_isub hx hb dB_36_1_62.2.1.2.1 ?_
    refine lv_topi (fun y_2 ey_2 => ?_)
    have ty_2 : y_2.toInt = a1.toInt - (1 : Int32).toInt := by rw [ey_2]; exact subI (by omega) (by omega)
    refine lv_iload_n hx hb dB_36_1_62.2.1.2.2 rfl (lv_at hl 2 rfl) ?_
    refine lv_iload_n hx hb dB_36_1_62.2.2.1.1 rfl (lv_at hl 3 rfl) ?_
    refine ct_S hP hD hS hA [ob7_0_ xh xc u1 u2 u3 u4 u5 u6 u7 u8, ob0_0_ xc xn xk clo cro c4 c5 c6 c7 c8, ob3_0_ xn vp vn n1 n2 n3 n4 n5, aq_ cy 6 clo 12 (gf_ rl), ai_ cy (rl 0) 12 (Ml 0), ai_ cy (rl 1) 12 (Ml 1), ai_ cy (rl 2) 12 (Ml 2), ai_ cy (rl 3) 12 (Ml 3), ai_ cy (rl 4) 12 (Ml 4), ai_ cy (rl 5) 12 (Ml 5), ai_ cy (rl 6) 12 (Ml 6), ai_ cy (rl 7) 12 (Ml 7), ai_ cy (rl 8) 12 (Ml 8), ai_ cy (rl 9) 12 (Ml 9), ai_ cy (rl 10) 12 (Ml 10), ai_ cy (rl 11) 12 (Ml 11)] [0, 1, 2, 3, 4, 5, 6, 7, 8, 9, 10, 11, 12, 13, 14, 15] (by decide +kernel) rfl (fun hPc hDw hFc hC_ => ?_)
    refine va_callv (va_runV (As := [.int y_2, .int a2, .int a3]) (rest := []) ⟨hx, hb, hml, hown, hts⟩ (c_X7_chooseForDense_5 l D cy s.heap.size xh u1 u2 u3 u4 u5 u6 u7 u8 xc xk clo cro c4 c5 c6 c7 c8 xn n1 n2 n3 n4 n5 vp vn rl Ml y_2 a2 a3 (by first | with_reducible assumption | omega | assumption) (by first | with_reducible assumption | omega | assumption)) (cwV 3 hts gX7_chooseForDense_X7_chooseForDense rfl rfl rfl ⟨rfl, hd_X7_chooseForDense⟩ ⟨Nat.le_of_ble_eq_true rfl, Nat.le_of_ble_eq_true rfl⟩) ⟨bl_g, va_recvX hK.1 hP (ci := 7) (q0 := 0) rfl rfl, fun U hU hW => ⟨rfl, by rw [hU], by rw [hU]; exact hPc, ⟨kk_mv hW hK, arrOfT_moved hW.alike hG⟩, hDw⟩⟩ rfl rfl hl.1 rfl (lv_room (Nat.le_of_ble_eq_true rfl)) dB_36_1_62.2.2.1.2 ⟨Nat.le_of_ble_eq_true rfl, Nat.le_of_ble_eq_true rfl⟩) hS (fun q _ h => hFc q h) hFc (fun u t H locs ht hvm hw hB hz1 hk1 hS => ?_)
    obtain ⟨v7_4, v8_5, hP1, hD1⟩ := hB
    rw [ht] at hP1
    obtain ⟨hP, hD⟩ := va_join (wr := []) (w1 := [ob7_0_ xh xc u1 u2 u3 u4 u5 u6 v7_4 v8_5, ob0_0_ xc xn xk clo cro c4 c5 c6 c7 c8, ob3_0_ xn vp vn n1 n2 n3 n4 n5, aq_ cy 6 clo 12 (gf_ rl), ai_ cy (rl 0) 12 (Ml 0), ai_ cy (rl 1) 12 (Ml 1), ai_ cy (rl 2) 12 (Ml 2), ai_ cy (rl 3) 12 (Ml 3), ai_ cy (rl 4) 12 (Ml 4), ai_ cy (rl 5) 12 (Ml 5), ai_ cy (rl 6) 12 (Ml 6), ai_ cy (rl 7) 12 (Ml 7), ai_ cy (rl 8) 12 (Ml 8), ai_ cy (rl 9) 12 (Ml 9), ai_ cy (rl 10) 12 (Ml 10), ai_ cy (rl 11) 12 (Ml 11)]) hP hD [0, 1, 2, 3, 4, 5, 6, 7, 8, 9, 10, 11, 12, 13, 14, 15] [] hC_ rfl (by decide) (by decide) hk1 hFc hP1 hD1
    refine pd_K [ob7_0_ xh xc u1 u2 u3 u4 u5 u6 v7_4 v8_5, ob0_0_ xc xn xk clo cro c4 c5 c6 c7 c8, ob3_0_ xn vp vn n1 n2 n3 n4 n5, aq_ cy 6 clo 12 (gf_ rl), ai_ cy (rl 0) 12 (Ml 0), ai_ cy (rl 1) 12 (Ml 1), ai_ cy (rl 2) 12 (Ml 2), ai_ cy (rl 3) 12 (Ml 3), ai_ cy (rl 4) 12 (Ml 4), ai_ cy (rl 5) 12 (Ml 5), ai_ cy (rl 6) 12 (Ml 6), ai_ cy (rl 7) 12 (Ml 7), ai_ cy (rl 8) 12 (Ml 8), ai_ cy (rl 9) 12 (Ml 9), ai_ cy (rl 10) 12 (Ml 10), ai_ cy (rl 11) 12 (Ml 11)] hP hD (fun hP hD => ?_)
    refine lv_aload_n hx hb dB_36_1_62.2.2.2.1 rfl (lv_at hl 0 rfl) ?_
    refine lv_iload_n hx hb dB_36_1_62.2.2.2.2 rfl (lv_at hl 1 rfl) ?_
    refine lv_iconst (v := 1) hx hb dB_36_1_63.1.1.1 (by decide) ?_
    refine lv_isub hx hb dB_36_1_63.1.1.2.1 ?_
    refine lv_topi (fun y_6 ey_6 => ?_)
    have e_ := (ey_6.trans ey_2.symm).symm
    subst e_
    refine lv_iload_n hx hb dB_36_1_63.1.1.2.2 rfl (lv_at hl 2 rfl) ?_
    refine lv_iconst (v := 1) hx hb dB_36_1_63.1.2.1.1 (by decide) ?_
    refine lv_iload_n hx hb dB_36_1_63.1.2.1.2 rfl (lv_at hl 1 rfl) ?_
    refine lv_ishl hx hb dB_36_1_63.1.2.2.1 ?_
    refine lv_topi (fun y_7 ey_7 => ?_)
    refine lv_ior hx hb dB_36_1_63.1.2.2.2 ?_
    refine lv_topi (fun y_8 ey_8 => ?_)
    refine lv_iload_n hx hb dB_36_1_63.2.1.1.1 rfl (lv_at hl 3 rfl) ?_
    refine lv_aload_n hx hb dB_36_1_63.2.1.1.2 rfl (lv_at hl 0 rfl) ?_
    refine lv_iload_n hx hb dB_36_1_63.2.1.2.1 rfl (lv_at hl 1 rfl) ?_
    refine lv_iload_n hx hb dB_36_1_63.2.1.2.2 rfl (lv_at hl 2 rfl) ?_
    refine ct_R hP hD [ob7_0_ xh xc u1 u2 u3 u4 u5 u6 v7_4 v8_5, ob0_0_ xc xn xk clo cro c4 c5 c6 c7 c8, ob3_0_ xn vp vn n1 n2 n3 n4 n5, aq_ cy 6 clo 12 (gf_ rl), ai_ cy (rl 0) 12 (Ml 0), ai_ cy (rl 1) 12 (Ml 1), ai_ cy (rl 2) 12 (Ml 2), ai_ cy (rl 3) 12 (Ml 3), ai_ cy (rl 4) 12 (Ml 4), ai_ cy (rl 5) 12 (Ml 5), ai_ cy (rl 6) 12 (Ml 6), ai_ cy (rl 7) 12 (Ml 7), ai_ cy (rl 8) 12 (Ml 8), ai_ cy (rl 9) 12 (Ml 9), ai_ cy (rl 10) 12 (Ml 10), ai_ cy (rl 11) 12 (Ml 11)] [0, 1, 2, 3, 4, 5, 6, 7, 8, 9, 10, 11, 12, 13, 14, 15] (by decide +kernel) rfl (fun hPc hDw => ?_)
    have hFc := va_free (wc := []) hD hS hA [] rfl
    refine va_calli (va_runV (As := [.int a1, .int a2]) (rest := [.int a3, .int y_8, .int y_2, .ref xh]) ⟨hx, hb, hml, hown, hts⟩ (c_X7_letIn l D cy H.size xh u1 u2 u3 u4 u5 u6 v7_4 v8_5 xc xk clo cro c4 c5 c6 c7 c8 xn n1 n2 n3 n4 n5 vp vn rl Ml a1 a2 (by first | with_reducible assumption | omega | assumption) (by first | with_reducible assumption | omega | assumption)) (cwV 2 hts gX7_chooseForDense_X7_letIn rfl rfl rfl ⟨rfl, hd_X7_letIn⟩ ⟨Nat.le_of_ble_eq_true rfl, Nat.le_of_ble_eq_true rfl⟩) ⟨bl_g, va_recvX hK.1 hP (ci := 7) (q0 := 0) rfl rfl, fun U hU hW => ⟨rfl, by rw [hU], by rw [hU]; exact hPc, ⟨kk_mv hW hK, arrOfT_moved hW.alike hG⟩, hDw⟩⟩ rfl rfl hl.1 rfl (lv_room (Nat.le_of_ble_eq_true rfl)) dB_36_1_63.2.2.1.1 ⟨Nat.le_of_ble_eq_true rfl, Nat.le_of_ble_eq_true rfl⟩) hS (fun q _ h => hFc q h) hFc (fun r_9 u t H locs ht hvm hw hB hz1 hk1 hS => ?_)
    have hP : va_P D vwCl _ H := ro_keep hP hk1
    refine lv_iadd hx hb dB_36_1_63.2.2.1.2 ?_
    refine lv_topi (fun y_10 ey_10 => ?_)
    refine ct_S hP hD hS hA [ob7_0_ xh xc u1 u2 u3 u4 u5 u6 v7_4 v8_5, ob0_0_ xc xn xk clo cro c4 c5 c6 c7 c8, ob3_0_ xn vp vn n1 n2 n3 n4 n5, aq_ cy 6 clo 12 (gf_ rl), ai_ cy (rl 0) 12 (Ml 0), ai_ cy (rl 1) 12 (Ml 1), ai_ cy (rl 2) 12 (Ml 2), ai_ cy (rl 3) 12 (Ml 3), ai_ cy (rl 4) 12 (Ml 4), ai_ cy (rl 5) 12 (Ml 5), ai_ cy (rl 6) 12 (Ml 6), ai_ cy (rl 7) 12 (Ml 7), ai_ cy (rl 8) 12 (Ml 8), ai_ cy (rl 9) 12 (Ml 9), ai_ cy (rl 10) 12 (Ml 10), ai_ cy (rl 11) 12 (Ml 11)] [0, 1, 2, 3, 4, 5, 6, 7, 8, 9, 10, 11, 12, 13, 14, 15] (by decide +kernel) rfl (fun hPc hDw hFc hC_ => ?_)
    refine va_callv (va_runV (As := [.int y_2, .int y_8, .int y_10]) (rest := []) ⟨hx, hb, hml, hown, hts⟩ (c_X7_chooseForDense_5 l D cy H.size xh u1 u2 u3 u4 u5 u6 v7_4 v8_5 xc xk clo cro c4 c5 c6 c7 c8 xn n1 n2 n3 n4 n5 vp vn rl Ml y_2 y_8 y_10 (by first | with_reducible assumption | omega | assumption) (by first | with_reducible assumption | omega | assumption)) (cwV 3 hts gX7_chooseForDense_X7_chooseForDense rfl rfl rfl ⟨rfl, hd_X7_chooseForDense⟩ ⟨Nat.le_of_ble_eq_true rfl, Nat.le_of_ble_eq_true rfl⟩) ⟨bl_g, va_recvX hK.1 hP (ci := 7) (q0 := 0) rfl rfl, fun U hU hW => ⟨rfl, by rw [hU], by rw [hU]; exact hPc, ⟨kk_mv hW hK, arrOfT_moved hW.alike hG⟩, hDw⟩⟩ rfl rfl hl.1 rfl (lv_room (Nat.le_of_ble_eq_true rfl)) dB_36_1_63.2.2.2.1 ⟨Nat.le_of_ble_eq_true rfl, Nat.le_of_ble_eq_true rfl⟩) hS (fun q _ h => hFc q h) hFc (fun u t H locs ht hvm hw hB hz1 hk1 hS => ?_)
    obtain ⟨v7_12, v8_13, hP1, hD1⟩ := hB
    rw [ht] at hP1
    obtain ⟨hP, hD⟩ := va_join (wr := []) (w1 := [ob7_0_ xh xc u1 u2 u3 u4 u5 u6 v7_12 v8_13, ob0_0_ xc xn xk clo cro c4 c5 c6 c7 c8, ob3_0_ xn vp vn n1 n2 n3 n4 n5, aq_ cy 6 clo 12 (gf_ rl), ai_ cy (rl 0) 12 (Ml 0), ai_ cy (rl 1) 12 (Ml 1), ai_ cy (rl 2) 12 (Ml 2), ai_ cy (rl 3) 12 (Ml 3), ai_ cy (rl 4) 12 (Ml 4), ai_ cy (rl 5) 12 (Ml 5), ai_ cy (rl 6) 12 (Ml 6), ai_ cy (rl 7) 12 (Ml 7), ai_ cy (rl 8) 12 (Ml 8), ai_ cy (rl 9) 12 (Ml 9), ai_ cy (rl 10) 12 (Ml 10), ai_ cy (rl 11) 12 (Ml 11)]) hP hD [0, 1, 2, 3, 4, 5, 6, 7, 8, 9, 10, 11, 12, 13, 14, 15] [] hC_ rfl (by decide) (by decide) hk1 hFc hP1 hD1
    refine pd_K [ob7_0_ xh xc u1 u2 u3 u4 u5 u6 v7_12 v8_13, ob0_0_ xc xn xk clo cro c4 c5 c6 c7 c8, ob3_0_ xn vp vn n1 n2 n3 n4 n5, aq_ cy 6 clo 12 (gf_ rl), ai_ cy (rl 0) 12 (Ml 0), ai_ cy (rl 1) 12 (Ml 1), ai_ cy (rl 2) 12 (Ml 2), ai_ cy (rl 3) 12 (Ml 3), ai_ cy (rl 4) 12 (Ml 4), ai_ cy (rl 5) 12 (Ml 5), ai_ cy (rl 6) 12 (Ml 6), ai_ cy (rl 7) 12 (Ml 7), ai_ cy (rl 8) 12 (Ml 8), ai_ cy (rl 9) 12 (Ml 9), ai_ cy (rl 10) 12 (Ml 10), ai_ cy (rl 11) 12 (Ml 11)] hP hD (fun hP hD => ?_)
    rw [hQ]
    exact W.vret hx hb hr (fun t ht hW => ⟨⟨(), rfl, trivial, v7_12, v8_13, by rw [ht]; exact hP, hD⟩, hS.F ht⟩) hS.2.2 dB_36_1_63.2.2.2.2
  · have t_1 : ¬ (0 : Int32).toInt ≤ a1.toInt := fun h => c_1 (Int32.le_iff_toInt_le.mpr h)
    refine lv_aload_n hx hb dB_36_1_62.1.1.2.1 rfl (lv_at hl 0 rfl) ?_
    refine lv_iload_n hx hb dB_36_1_62.1.1.2.2 rfl (lv_at hl 2 rfl) ?_
    refine lv_iload_n hx hb dB_36_1_62.1.2.1.1 rfl (lv_at hl 3 rfl) ?_
    refine ct_S hP hD hS hA [ob7_0_ xh xc u1 u2 u3 u4 u5 u6 u7 u8] [0] (by decide) rfl (fun hPc hDw hFc hC_ => ?_)
    refine va_callv (va_runV (As := [.int a2, .int a3]) (rest := []) ⟨hx, hb, hml, hown, hts⟩ (c_X7_compareDense l D cy s.heap.size xh u1 u2 u3 u4 u5 u6 u7 u8 xc a2 a3) (cwV 2 hts gX7_chooseForDense_X7_compareDense rfl rfl rfl ⟨rfl, hd_X7_compareDense⟩ ⟨Nat.le_of_ble_eq_true rfl, Nat.le_of_ble_eq_true rfl⟩) ⟨bl_, va_recvX hK.1 hP (ci := 7) (q0 := 0) rfl rfl, fun U hU hW => ⟨rfl, by rw [hU], by rw [hU]; exact hPc, kk_mv hW hK, hDw⟩⟩ rfl rfl hl.1 rfl (lv_room (Nat.le_of_ble_eq_true rfl)) dB_36_1_62.1.2.1.2 ⟨Nat.le_of_ble_eq_true rfl, Nat.le_of_ble_eq_true rfl⟩) hS (fun q _ h => hFc q h) hFc (fun u t H locs ht hvm hw hB hz1 hk1 hS => ?_)
    obtain ⟨v7_15, v8_16, hP1, hD1⟩ := hB
    rw [ht] at hP1
    obtain ⟨hP, hD⟩ := va_join (wr := [ob0_0_ xc xn xk clo cro c4 c5 c6 c7 c8, ob3_0_ xn vp vn n1 n2 n3 n4 n5, aq_ cy 6 clo 12 (gf_ rl), ai_ cy (rl 0) 12 (Ml 0), ai_ cy (rl 1) 12 (Ml 1), ai_ cy (rl 2) 12 (Ml 2), ai_ cy (rl 3) 12 (Ml 3), ai_ cy (rl 4) 12 (Ml 4), ai_ cy (rl 5) 12 (Ml 5), ai_ cy (rl 6) 12 (Ml 6), ai_ cy (rl 7) 12 (Ml 7), ai_ cy (rl 8) 12 (Ml 8), ai_ cy (rl 9) 12 (Ml 9), ai_ cy (rl 10) 12 (Ml 10), ai_ cy (rl 11) 12 (Ml 11)]) (w1 := [ob7_0_ xh xc u1 u2 u3 u4 u5 u6 v7_15 v8_16]) hP hD [0] [1, 2, 3, 4, 5, 6, 7, 8, 9, 10, 11, 12, 13, 14, 15] hC_ rfl (by decide +kernel) (by decide +kernel) hk1 hFc hP1 hD1
    refine pd_S hP hD [ob7_0_ xh xc u1 u2 u3 u4 u5 u6 v7_15 v8_16, ob0_0_ xc xn xk clo cro c4 c5 c6 c7 c8, ob3_0_ xn vp vn n1 n2 n3 n4 n5, aq_ cy 6 clo 12 (gf_ rl), ai_ cy (rl 0) 12 (Ml 0), ai_ cy (rl 1) 12 (Ml 1), ai_ cy (rl 2) 12 (Ml 2), ai_ cy (rl 3) 12 (Ml 3), ai_ cy (rl 4) 12 (Ml 4), ai_ cy (rl 5) 12 (Ml 5), ai_ cy (rl 6) 12 (Ml 6), ai_ cy (rl 7) 12 (Ml 7), ai_ cy (rl 8) 12 (Ml 8), ai_ cy (rl 9) 12 (Ml 9), ai_ cy (rl 10) 12 (Ml 10), ai_ cy (rl 11) 12 (Ml 11)] [15, 0, 1, 2, 3, 4, 5, 6, 7, 8, 9, 10, 11, 12, 13, 14] (by decide +kernel) rfl (fun hP hD => ?_)
    rw [hQ]
    exact W.vret hx hb hr (fun t ht hW => ⟨⟨(), rfl, trivial, v7_15, v8_16, by rw [ht]; exact hP, hD⟩, hS.F ht⟩) hS.2.2 dB_36_1_62.1.2.2.1

set_option maxHeartbeats 4000000 in
set_option maxRecDepth 100000 in
theorem c_X7_chooseForDense_7 (l : Launch) (D : va_G) (cy : Nat → ClassId) (sz : Nat) (xh : Nat) (u1 : Int32) (u2 : Int32) (u3 : Int32) (u4 : Int32) (u5 : Int32) (u6 : Int32) (u7 : Int32) (u8 : Int32) (xc : Nat) (xk : Nat) (clo : Nat) (cro : Nat) (c4 : Nat) (c5 : Nat) (c6 : Nat) (c7 : Nat) (c8 : Nat) (xn : Nat) (n1 : Nat) (n2 : Nat) (n3 : Nat) (n4 : Nat) (n5 : Nat) (vp : Int32) (vn : Int32) (rl : Nat → Nat) (Ml : Nat → Nat → Int32) (a1 : Int32) (a2 : Int32) (a3 : Int32) (hvp : 0 ≤ vp.toInt ∧ vp.toInt ≤ 12) (q1 : -1 ≤ a1.toInt ∧ a1.toInt < 7) : Met l yX7_chooseForDense wsX7_chooseForDense ({ frames := 9, cells := 0, slots := 0, locals := 207 }) (va_Pc [.ref xh, .int a1, .int a2, .int a3] (fun U => U.heap.size = sz ∧ va_P D vwCl [ob7_0_ xh xc u1 u2 u3 u4 u5 u6 u7 u8, ob0_0_ xc xn xk clo cro c4 c5 c6 c7 c8, ob3_0_ xn vp vn n1 n2 n3 n4 n5, aq_ cy 6 clo 12 (gf_ rl), ai_ cy (rl 0) 12 (Ml 0), ai_ cy (rl 1) 12 (Ml 1), ai_ cy (rl 2) 12 (Ml 2), ai_ cy (rl 3) 12 (Ml 3), ai_ cy (rl 4) 12 (Ml 4), ai_ cy (rl 5) 12 (Ml 5), ai_ cy (rl 6) 12 (Ml 6), ai_ cy (rl 7) 12 (Ml 7), ai_ cy (rl 8) 12 (Ml 8), ai_ cy (rl 9) 12 (Ml 9), ai_ cy (rl 10) 12 (Ml 10), ai_ cy (rl 11) 12 (Ml 11)] U.heap ∧ kg_ D cy U ∧ va_D (fun _ => True) [ob7_0_ xh xc u1 u2 u3 u4 u5 u6 u7 u8, ob0_0_ xc xn xk clo cro c4 c5 c6 c7 c8, ob3_0_ xn vp vn n1 n2 n3 n4 n5, aq_ cy 6 clo 12 (gf_ rl), ai_ cy (rl 0) 12 (Ml 0), ai_ cy (rl 1) 12 (Ml 1), ai_ cy (rl 2) 12 (Ml 2), ai_ cy (rl 3) 12 (Ml 3), ai_ cy (rl 4) 12 (Ml 4), ai_ cy (rl 5) 12 (Ml 5), ai_ cy (rl 6) 12 (Ml 6), ai_ cy (rl 7) 12 (Ml 7), ai_ cy (rl 8) 12 (Ml 8), ai_ cy (rl 9) 12 (Ml 9), ai_ cy (rl 10) 12 (Ml 10), ai_ cy (rl 11) 12 (Ml 11)])) (va_Qv (fun (_ : Unit) => True) (fun (_ : Unit) (t : State) => ∃ (v7 : Int32), ∃ (v8 : Int32), va_P D vwCl [ob7_0_ xh xc u1 u2 u3 u4 u5 u6 v7 v8, ob0_0_ xc xn xk clo cro c4 c5 c6 c7 c8, ob3_0_ xn vp vn n1 n2 n3 n4 n5, aq_ cy 6 clo 12 (gf_ rl), ai_ cy (rl 0) 12 (Ml 0), ai_ cy (rl 1) 12 (Ml 1), ai_ cy (rl 2) 12 (Ml 2), ai_ cy (rl 3) 12 (Ml 3), ai_ cy (rl 4) 12 (Ml 4), ai_ cy (rl 5) 12 (Ml 5), ai_ cy (rl 6) 12 (Ml 6), ai_ cy (rl 7) 12 (Ml 7), ai_ cy (rl 8) 12 (Ml 8), ai_ cy (rl 9) 12 (Ml 9), ai_ cy (rl 10) 12 (Ml 10), ai_ cy (rl 11) 12 (Ml 11)] t.heap ∧ va_D (va_A [ob7_0_ xh xc u1 u2 u3 u4 u5 u6 u7 u8, ob0_0_ xc xn xk clo cro c4 c5 c6 c7 c8, ob3_0_ xn vp vn n1 n2 n3 n4 n5, aq_ cy 6 clo 12 (gf_ rl), ai_ cy (rl 0) 12 (Ml 0), ai_ cy (rl 1) 12 (Ml 1), ai_ cy (rl 2) 12 (Ml 2), ai_ cy (rl 3) 12 (Ml 3), ai_ cy (rl 4) 12 (Ml 4), ai_ cy (rl 5) 12 (Ml 5), ai_ cy (rl 6) 12 (Ml 6), ai_ cy (rl 7) 12 (Ml 7), ai_ cy (rl 8) 12 (Ml 8), ai_ cy (rl 9) 12 (Ml 9), ai_ cy (rl 10) 12 (Ml 10), ai_ cy (rl 11) 12 (Ml 11)] sz) [ob7_0_ xh xc u1 u2 u3 u4 u5 u6 v7 v8, ob0_0_ xc xn xk clo cro c4 c5 c6 c7 c8, ob3_0_ xn vp vn n1 n2 n3 n4 n5, aq_ cy 6 clo 12 (gf_ rl), ai_ cy (rl 0) 12 (Ml 0), ai_ cy (rl 1) 12 (Ml 1), ai_ cy (rl 2) 12 (Ml 2), ai_ cy (rl 3) 12 (Ml 3), ai_ cy (rl 4) 12 (Ml 4), ai_ cy (rl 5) 12 (Ml 5), ai_ cy (rl 6) 12 (Ml 6), ai_ cy (rl 7) 12 (Ml 7), ai_ cy (rl 8) 12 (Ml 8), ai_ cy (rl 9) 12 (Ml 9), ai_ cy (rl 10) 12 (Ml 10), ai_ cy (rl 11) 12 (Ml 11)]) (va_A [ob7_0_ xh xc u1 u2 u3 u4 u5 u6 u7 u8, ob0_0_ xc xn xk clo cro c4 c5 c6 c7 c8, ob3_0_ xn vp vn n1 n2 n3 n4 n5, aq_ cy 6 clo 12 (gf_ rl), ai_ cy (rl 0) 12 (Ml 0), ai_ cy (rl 1) 12 (Ml 1), ai_ cy (rl 2) 12 (Ml 2), ai_ cy (rl 3) 12 (Ml 3), ai_ cy (rl 4) 12 (Ml 4), ai_ cy (rl 5) 12 (Ml 5), ai_ cy (rl 6) 12 (Ml 6), ai_ cy (rl 7) 12 (Ml 7), ai_ cy (rl 8) 12 (Ml 8), ai_ cy (rl 9) 12 (Ml 9), ai_ cy (rl 10) 12 (Ml 10), ai_ cy (rl 11) 12 (Ml 11)] sz)) 0 0 (va_A [ob7_0_ xh xc u1 u2 u3 u4 u5 u6 u7 u8, ob0_0_ xc xn xk clo cro c4 c5 c6 c7 c8, ob3_0_ xn vp vn n1 n2 n3 n4 n5, aq_ cy 6 clo 12 (gf_ rl), ai_ cy (rl 0) 12 (Ml 0), ai_ cy (rl 1) 12 (Ml 1), ai_ cy (rl 2) 12 (Ml 2), ai_ cy (rl 3) 12 (Ml 3), ai_ cy (rl 4) 12 (Ml 4), ai_ cy (rl 5) 12 (Ml 5), ai_ cy (rl 6) 12 (Ml 6), ai_ cy (rl 7) 12 (Ml 7), ai_ cy (rl 8) 12 (Ml 8), ai_ cy (rl 9) 12 (Ml 9), ai_ cy (rl 10) 12 (Ml 10), ai_ cy (rl 11) 12 (Ml 11)] sz) := by
  refine ofQ (cc := cX7_chooseForDense) (maxL := 4) (ret := none) (by decide) rfl ?_
  intro p e s m args below meth c s₁ Q hQ B hml hv
  obtain ⟨rfl, hsz, hP, hK, hD0⟩ := hv
  have hG := hK.2
  have hK := hK.1
  have hx := B.exec
  have hb := B.bytes
  have hr := B.returns
  have hts := atoms_spec (ws := wsX7_chooseForDense) B.pre
  have hown : s.vm.findClass RX7 = some m.cls := by have h_ := findClass_of_methodNamed B.named; exact h_
  have hlocks := B.notSynchronized
  subst hsz
  have hD := hD0.self (sz := s.heap.size)
  generalize hAe : va_A [ob7_0_ xh xc u1 u2 u3 u4 u5 u6 u7 u8, ob0_0_ xc xn xk clo cro c4 c5 c6 c7 c8, ob3_0_ xn vp vn n1 n2 n3 n4 n5, aq_ cy 6 clo 12 (gf_ rl), ai_ cy (rl 0) 12 (Ml 0), ai_ cy (rl 1) 12 (Ml 1), ai_ cy (rl 2) 12 (Ml 2), ai_ cy (rl 3) 12 (Ml 3), ai_ cy (rl 4) 12 (Ml 4), ai_ cy (rl 5) 12 (Ml 5), ai_ cy (rl 6) 12 (Ml 6), ai_ cy (rl 7) 12 (Ml 7), ai_ cy (rl 8) 12 (Ml 8), ai_ cy (rl 9) 12 (Ml 9), ai_ cy (rl 10) 12 (Ml 10), ai_ cy (rl 11) 12 (Ml 11)] s.heap.size = A at hD hQ
  have hA : ∀ q : Nat, s.heap.size ≤ q → A q := fun q h => by rw [← hAe]; exact Or.inr h
  have hS : va_S A s.heap s.heap [] := va_S.rf
  have hl := lv_entry ([.ref xh, .int a1, .int a2, .int a3]) (n := 4) (Nat.le_of_ble_eq_true rfl)
  rw [lg_entry_eq]
  generalize (lg_sl ([.ref xh, .int a1, .int a2, .int a3]) ++ List.replicate (4 - (lg_sl ([.ref xh, .int a1, .int a2, .int a3])).length) Slot.unset).toArray = ls at hl ⊢
  have hl : lv_has ls 4 [(0, .ref xh), (1, .int a1), (2, .int a2), (3, .int a3)] := hl
  have z0 : (0 : Int32).toInt = 0 := by decide
  have z1 : (1 : Int32).toInt = 1 := by decide
  refine lv_iload_n hx hb dB_36_1_62.1.1.1.1 rfl (lv_at hl 1 rfl) ?_
  refine lv_if_ge (tgt := 11) hx hb dB_36_1_62.1.1.1.2 (by decide) (fun c_1 => ?_) (fun c_1 => ?_)
  · have t_1 : (0 : Int32).toInt ≤ a1.toInt := Int32.le_iff_toInt_le.mp c_1
    refine lv_aload_n hx hb dB_36_1_62.1.2.2.2 rfl (lv_at hl 0 rfl) ?_
    refine lv_iload_n hx hb dB_36_1_62.2.1.1.1 rfl (lv_at hl 1 rfl) ?_
    refine lv_iconst (v := 1) hx hb dB_36_1_62.2.1.1.2 (by decide) ?_
    refine lv_isub hx hb dB_36_1_62.2.1.2.1 ?_
    refine lv_topi (fun y_2 ey_2 => ?_)
    have ty_2 : y_2.toInt = a1.toInt - (1 : Int32).toInt := by rw [ey_2]; exact subI (by omega) (by omega)
    refine lv_iload_n hx hb dB_36_1_62.2.1.2.2 rfl (lv_at hl 2 rfl) ?_
    refine lv_iload_n hx hb dB_36_1_62.2.2.1.1 rfl (lv_at hl 3 rfl) ?_
    refine ct_S hP hD hS hA [ob7_0_ xh xc u1 u2 u3 u4 u5 u6 u7 u8, ob0_0_ xc xn xk clo cro c4 c5 c6 c7 c8, ob3_0_ xn vp vn n1 n2 n3 n4 n5, aq_ cy 6 clo 12 (gf_ rl), ai_ cy (rl 0) 12 (Ml 0), ai_ cy (rl 1) 12 (Ml 1), ai_ cy (rl 2) 12 (Ml 2), ai_ cy (rl 3) 12 (Ml 3), ai_ cy (rl 4) 12 (Ml 4), ai_ cy (rl 5) 12 (Ml 5), ai_ cy (rl 6) 12 (Ml 6), ai_ cy (rl 7) 12 (Ml 7), ai_ cy (rl 8) 12 (Ml 8), ai_ cy (rl 9) 12 (Ml 9), ai_ cy (rl 10) 12 (Ml 10), ai_ cy (rl 11) 12 (Ml 11)] [0, 1, 2, 3, 4, 5, 6, 7, 8, 9, 10, 11, 12, 13, 14, 15] (by decide +kernel) rfl (fun hPc hDw hFc hC_ => ?_)
    refine va_callv (va_runV (As := [.int y_2, .int a2, .int a3]) (rest := []) ⟨hx, hb, hml, hown, hts⟩ (c_X7_chooseForDense_6 l D cy s.heap.size xh u1 u2 u3 u4 u5 u6 u7 u8 xc xk clo cro c4 c5 c6 c7 c8 xn n1 n2 n3 n4 n5 vp vn rl Ml y_2 a2 a3 (by first | with_reducible assumption | omega | assumption) (by first | with_reducible assumption | omega | assumption)) (cwV 3 hts gX7_chooseForDense_X7_chooseForDense rfl rfl rfl ⟨rfl, hd_X7_chooseForDense⟩ ⟨Nat.le_of_ble_eq_true rfl, Nat.le_of_ble_eq_true rfl⟩) ⟨bl_g, va_recvX hK.1 hP (ci := 7) (q0 := 0) rfl rfl, fun U hU hW => ⟨rfl, by rw [hU], by rw [hU]; exact hPc, ⟨kk_mv hW hK, arrOfT_moved hW.alike hG⟩, hDw⟩⟩ rfl rfl hl.1 rfl (lv_room (Nat.le_of_ble_eq_true rfl)) dB_36_1_62.2.2.1.2 ⟨Nat.le_of_ble_eq_true rfl, Nat.le_of_ble_eq_true rfl⟩) hS (fun q _ h => hFc q h) hFc (fun u t H locs ht hvm hw hB hz1 hk1 hS => ?_)
    obtain ⟨v7_4, v8_5, hP1, hD1⟩ := hB
    rw [ht] at hP1
    obtain ⟨hP, hD⟩ := va_join (wr := []) (w1 := [ob7_0_ xh xc u1 u2 u3 u4 u5 u6 v7_4 v8_5, ob0_0_ xc xn xk clo cro c4 c5 c6 c7 c8, ob3_0_ xn vp vn n1 n2 n3 n4 n5, aq_ cy 6 clo 12 (gf_ rl), ai_ cy (rl 0) 12 (Ml 0), ai_ cy (rl 1) 12 (Ml 1), ai_ cy (rl 2) 12 (Ml 2), ai_ cy (rl 3) 12 (Ml 3), ai_ cy (rl 4) 12 (Ml 4), ai_ cy (rl 5) 12 (Ml 5), ai_ cy (rl 6) 12 (Ml 6), ai_ cy (rl 7) 12 (Ml 7), ai_ cy (rl 8) 12 (Ml 8), ai_ cy (rl 9) 12 (Ml 9), ai_ cy (rl 10) 12 (Ml 10), ai_ cy (rl 11) 12 (Ml 11)]) hP hD [0, 1, 2, 3, 4, 5, 6, 7, 8, 9, 10, 11, 12, 13, 14, 15] [] hC_ rfl (by decide) (by decide) hk1 hFc hP1 hD1
    refine pd_K [ob7_0_ xh xc u1 u2 u3 u4 u5 u6 v7_4 v8_5, ob0_0_ xc xn xk clo cro c4 c5 c6 c7 c8, ob3_0_ xn vp vn n1 n2 n3 n4 n5, aq_ cy 6 clo 12 (gf_ rl), ai_ cy (rl 0) 12 (Ml 0), ai_ cy (rl 1) 12 (Ml 1), ai_ cy (rl 2) 12 (Ml 2), ai_ cy (rl 3) 12 (Ml 3), ai_ cy (rl 4) 12 (Ml 4), ai_ cy (rl 5) 12 (Ml 5), ai_ cy (rl 6) 12 (Ml 6), ai_ cy (rl 7) 12 (Ml 7), ai_ cy (rl 8) 12 (Ml 8), ai_ cy (rl 9) 12 (Ml 9), ai_ cy (rl 10) 12 (Ml 10), ai_ cy (rl 11) 12 (Ml 11)] hP hD (fun hP hD => ?_)
    refine lv_aload_n hx hb dB_36_1_62.2.2.2.1 rfl (lv_at hl 0 rfl) ?_
    refine lv_iload_n hx hb dB_36_1_62.2.2.2.2 rfl (lv_at hl 1 rfl) ?_
    refine lv_iconst (v := 1) hx hb dB_36_1_63.1.1.1 (by decide) ?_
    refine lv_isub hx hb dB_36_1_63.1.1.2.1 ?_
    refine lv_topi (fun y_6 ey_6 => ?_)
    have e_ := (ey_6.trans ey_2.symm).symm
    subst e_
    refine lv_iload_n hx hb dB_36_1_63.1.1.2.2 rfl (lv_at hl 2 rfl) ?_
    refine lv_iconst (v := 1) hx hb dB_36_1_63.1.2.1.1 (by decide) ?_
    refine lv_iload_n hx hb dB_36_1_63.1.2.1.2 rfl (lv_at hl 1 rfl) ?_
    refine lv_ishl hx hb dB_36_1_63.1.2.2.1 ?_
    refine lv_topi (fun y_7 ey_7 => ?_)
    refine lv_ior hx hb dB_36_1_63.1.2.2.2 ?_
    refine lv_topi (fun y_8 ey_8 => ?_)
    refine lv_iload_n hx hb dB_36_1_63.2.1.1.1 rfl (lv_at hl 3 rfl) ?_
    refine lv_aload_n hx hb dB_36_1_63.2.1.1.2 rfl (lv_at hl 0 rfl) ?_
    refine lv_iload_n hx hb dB_36_1_63.2.1.2.1 rfl (lv_at hl 1 rfl) ?_
    refine lv_iload_n hx hb dB_36_1_63.2.1.2.2 rfl (lv_at hl 2 rfl) ?_
    refine ct_R hP hD [ob7_0_ xh xc u1 u2 u3 u4 u5 u6 v7_4 v8_5, ob0_0_ xc xn xk clo cro c4 c5 c6 c7 c8, ob3_0_ xn vp vn n1 n2 n3 n4 n5, aq_ cy 6 clo 12 (gf_ rl), ai_ cy (rl 0) 12 (Ml 0), ai_ cy (rl 1) 12 (Ml 1), ai_ cy (rl 2) 12 (Ml 2), ai_ cy (rl 3) 12 (Ml 3), ai_ cy (rl 4) 12 (Ml 4), ai_ cy (rl 5) 12 (Ml 5), ai_ cy (rl 6) 12 (Ml 6), ai_ cy (rl 7) 12 (Ml 7), ai_ cy (rl 8) 12 (Ml 8), ai_ cy (rl 9) 12 (Ml 9), ai_ cy (rl 10) 12 (Ml 10), ai_ cy (rl 11) 12 (Ml 11)] [0, 1, 2, 3, 4, 5, 6, 7, 8, 9, 10, 11, 12, 13, 14, 15] (by decide +kernel) rfl (fun hPc hDw => ?_)
    have hFc := va_free (wc := []) hD hS hA [] rfl
    refine va_calli (va_runV (As := [.int a1, .int a2]) (rest := [.int a3, .int y_8, .int y_2, .ref xh]) ⟨hx, hb, hml, hown, hts⟩ (c_X7_letIn l D cy H.size xh u1 u2 u3 u4 u5 u6 v7_4 v8_5 xc xk clo cro c4 c5 c6 c7 c8 xn n1 n2 n3 n4 n5 vp vn rl Ml a1 a2 (by first | with_reducible assumption | omega | assumption) (by first | with_reducible assumption | omega | assumption)) (cwV 2 hts gX7_chooseForDense_X7_letIn rfl rfl rfl ⟨rfl, hd_X7_letIn⟩ ⟨Nat.le_of_ble_eq_true rfl, Nat.le_of_ble_eq_true rfl⟩) ⟨bl_g, va_recvX hK.1 hP (ci := 7) (q0 := 0) rfl rfl, fun U hU hW => ⟨rfl, by rw [hU], by rw [hU]; exact hPc, ⟨kk_mv hW hK, arrOfT_moved hW.alike hG⟩, hDw⟩⟩ rfl rfl hl.1 rfl (lv_room (Nat.le_of_ble_eq_true rfl)) dB_36_1_63.2.2.1.1 ⟨Nat.le_of_ble_eq_true rfl, Nat.le_of_ble_eq_true rfl⟩) hS (fun q _ h => hFc q h) hFc (fun r_9 u t H locs ht hvm hw hB hz1 hk1 hS => ?_)
    have hP : va_P D vwCl _ H := ro_keep hP hk1
    refine lv_iadd hx hb dB_36_1_63.2.2.1.2 ?_
    refine lv_topi (fun y_10 ey_10 => ?_)
    refine ct_S hP hD hS hA [ob7_0_ xh xc u1 u2 u3 u4 u5 u6 v7_4 v8_5, ob0_0_ xc xn xk clo cro c4 c5 c6 c7 c8, ob3_0_ xn vp vn n1 n2 n3 n4 n5, aq_ cy 6 clo 12 (gf_ rl), ai_ cy (rl 0) 12 (Ml 0), ai_ cy (rl 1) 12 (Ml 1), ai_ cy (rl 2) 12 (Ml 2), ai_ cy (rl 3) 12 (Ml 3), ai_ cy (rl 4) 12 (Ml 4), ai_ cy (rl 5) 12 (Ml 5), ai_ cy (rl 6) 12 (Ml 6), ai_ cy (rl 7) 12 (Ml 7), ai_ cy (rl 8) 12 (Ml 8), ai_ cy (rl 9) 12 (Ml 9), ai_ cy (rl 10) 12 (Ml 10), ai_ cy (rl 11) 12 (Ml 11)] [0, 1, 2, 3, 4, 5, 6, 7, 8, 9, 10, 11, 12, 13, 14, 15] (by decide +kernel) rfl (fun hPc hDw hFc hC_ => ?_)
    refine va_callv (va_runV (As := [.int y_2, .int y_8, .int y_10]) (rest := []) ⟨hx, hb, hml, hown, hts⟩ (c_X7_chooseForDense_6 l D cy H.size xh u1 u2 u3 u4 u5 u6 v7_4 v8_5 xc xk clo cro c4 c5 c6 c7 c8 xn n1 n2 n3 n4 n5 vp vn rl Ml y_2 y_8 y_10 (by first | with_reducible assumption | omega | assumption) (by first | with_reducible assumption | omega | assumption)) (cwV 3 hts gX7_chooseForDense_X7_chooseForDense rfl rfl rfl ⟨rfl, hd_X7_chooseForDense⟩ ⟨Nat.le_of_ble_eq_true rfl, Nat.le_of_ble_eq_true rfl⟩) ⟨bl_g, va_recvX hK.1 hP (ci := 7) (q0 := 0) rfl rfl, fun U hU hW => ⟨rfl, by rw [hU], by rw [hU]; exact hPc, ⟨kk_mv hW hK, arrOfT_moved hW.alike hG⟩, hDw⟩⟩ rfl rfl hl.1 rfl (lv_room (Nat.le_of_ble_eq_true rfl)) dB_36_1_63.2.2.2.1 ⟨Nat.le_of_ble_eq_true rfl, Nat.le_of_ble_eq_true rfl⟩) hS (fun q _ h => hFc q h) hFc (fun u t H locs ht hvm hw hB hz1 hk1 hS => ?_)
    obtain ⟨v7_12, v8_13, hP1, hD1⟩ := hB
    rw [ht] at hP1
    obtain ⟨hP, hD⟩ := va_join (wr := []) (w1 := [ob7_0_ xh xc u1 u2 u3 u4 u5 u6 v7_12 v8_13, ob0_0_ xc xn xk clo cro c4 c5 c6 c7 c8, ob3_0_ xn vp vn n1 n2 n3 n4 n5, aq_ cy 6 clo 12 (gf_ rl), ai_ cy (rl 0) 12 (Ml 0), ai_ cy (rl 1) 12 (Ml 1), ai_ cy (rl 2) 12 (Ml 2), ai_ cy (rl 3) 12 (Ml 3), ai_ cy (rl 4) 12 (Ml 4), ai_ cy (rl 5) 12 (Ml 5), ai_ cy (rl 6) 12 (Ml 6), ai_ cy (rl 7) 12 (Ml 7), ai_ cy (rl 8) 12 (Ml 8), ai_ cy (rl 9) 12 (Ml 9), ai_ cy (rl 10) 12 (Ml 10), ai_ cy (rl 11) 12 (Ml 11)]) hP hD [0, 1, 2, 3, 4, 5, 6, 7, 8, 9, 10, 11, 12, 13, 14, 15] [] hC_ rfl (by decide) (by decide) hk1 hFc hP1 hD1
    refine pd_K [ob7_0_ xh xc u1 u2 u3 u4 u5 u6 v7_12 v8_13, ob0_0_ xc xn xk clo cro c4 c5 c6 c7 c8, ob3_0_ xn vp vn n1 n2 n3 n4 n5, aq_ cy 6 clo 12 (gf_ rl), ai_ cy (rl 0) 12 (Ml 0), ai_ cy (rl 1) 12 (Ml 1), ai_ cy (rl 2) 12 (Ml 2), ai_ cy (rl 3) 12 (Ml 3), ai_ cy (rl 4) 12 (Ml 4), ai_ cy (rl 5) 12 (Ml 5), ai_ cy (rl 6) 12 (Ml 6), ai_ cy (rl 7) 12 (Ml 7), ai_ cy (rl 8) 12 (Ml 8), ai_ cy (rl 9) 12 (Ml 9), ai_ cy (rl 10) 12 (Ml 10), ai_ cy (rl 11) 12 (Ml 11)] hP hD (fun hP hD => ?_)
    rw [hQ]
    exact W.vret hx hb hr (fun t ht hW => ⟨⟨(), rfl, trivial, v7_12, v8_13, by rw [ht]; exact hP, hD⟩, hS.F ht⟩) hS.2.2 dB_36_1_63.2.2.2.2
  · have t_1 : ¬ (0 : Int32).toInt ≤ a1.toInt := fun h => c_1 (Int32.le_iff_toInt_le.mpr h)
    refine lv_aload_n hx hb dB_36_1_62.1.1.2.1 rfl (lv_at hl 0 rfl) ?_
    refine lv_iload_n hx hb dB_36_1_62.1.1.2.2 rfl (lv_at hl 2 rfl) ?_
    refine lv_iload_n hx hb dB_36_1_62.1.2.1.1 rfl (lv_at hl 3 rfl) ?_
    refine ct_S hP hD hS hA [ob7_0_ xh xc u1 u2 u3 u4 u5 u6 u7 u8] [0] (by decide) rfl (fun hPc hDw hFc hC_ => ?_)
    refine va_callv (va_runV (As := [.int a2, .int a3]) (rest := []) ⟨hx, hb, hml, hown, hts⟩ (c_X7_compareDense l D cy s.heap.size xh u1 u2 u3 u4 u5 u6 u7 u8 xc a2 a3) (cwV 2 hts gX7_chooseForDense_X7_compareDense rfl rfl rfl ⟨rfl, hd_X7_compareDense⟩ ⟨Nat.le_of_ble_eq_true rfl, Nat.le_of_ble_eq_true rfl⟩) ⟨bl_, va_recvX hK.1 hP (ci := 7) (q0 := 0) rfl rfl, fun U hU hW => ⟨rfl, by rw [hU], by rw [hU]; exact hPc, kk_mv hW hK, hDw⟩⟩ rfl rfl hl.1 rfl (lv_room (Nat.le_of_ble_eq_true rfl)) dB_36_1_62.1.2.1.2 ⟨Nat.le_of_ble_eq_true rfl, Nat.le_of_ble_eq_true rfl⟩) hS (fun q _ h => hFc q h) hFc (fun u t H locs ht hvm hw hB hz1 hk1 hS => ?_)
    obtain ⟨v7_15, v8_16, hP1, hD1⟩ := hB
    rw [ht] at hP1
    obtain ⟨hP, hD⟩ := va_join (wr := [ob0_0_ xc xn xk clo cro c4 c5 c6 c7 c8, ob3_0_ xn vp vn n1 n2 n3 n4 n5, aq_ cy 6 clo 12 (gf_ rl), ai_ cy (rl 0) 12 (Ml 0), ai_ cy (rl 1) 12 (Ml 1), ai_ cy (rl 2) 12 (Ml 2), ai_ cy (rl 3) 12 (Ml 3), ai_ cy (rl 4) 12 (Ml 4), ai_ cy (rl 5) 12 (Ml 5), ai_ cy (rl 6) 12 (Ml 6), ai_ cy (rl 7) 12 (Ml 7), ai_ cy (rl 8) 12 (Ml 8), ai_ cy (rl 9) 12 (Ml 9), ai_ cy (rl 10) 12 (Ml 10), ai_ cy (rl 11) 12 (Ml 11)]) (w1 := [ob7_0_ xh xc u1 u2 u3 u4 u5 u6 v7_15 v8_16]) hP hD [0] [1, 2, 3, 4, 5, 6, 7, 8, 9, 10, 11, 12, 13, 14, 15] hC_ rfl (by decide +kernel) (by decide +kernel) hk1 hFc hP1 hD1
    refine pd_S hP hD [ob7_0_ xh xc u1 u2 u3 u4 u5 u6 v7_15 v8_16, ob0_0_ xc xn xk clo cro c4 c5 c6 c7 c8, ob3_0_ xn vp vn n1 n2 n3 n4 n5, aq_ cy 6 clo 12 (gf_ rl), ai_ cy (rl 0) 12 (Ml 0), ai_ cy (rl 1) 12 (Ml 1), ai_ cy (rl 2) 12 (Ml 2), ai_ cy (rl 3) 12 (Ml 3), ai_ cy (rl 4) 12 (Ml 4), ai_ cy (rl 5) 12 (Ml 5), ai_ cy (rl 6) 12 (Ml 6), ai_ cy (rl 7) 12 (Ml 7), ai_ cy (rl 8) 12 (Ml 8), ai_ cy (rl 9) 12 (Ml 9), ai_ cy (rl 10) 12 (Ml 10), ai_ cy (rl 11) 12 (Ml 11)] [15, 0, 1, 2, 3, 4, 5, 6, 7, 8, 9, 10, 11, 12, 13, 14] (by decide +kernel) rfl (fun hP hD => ?_)
    rw [hQ]
    exact W.vret hx hb hr (fun t ht hW => ⟨⟨(), rfl, trivial, v7_15, v8_16, by rw [ht]; exact hP, hD⟩, hS.F ht⟩) hS.2.2 dB_36_1_62.1.2.2.1

set_option maxHeartbeats 4000000 in
set_option maxRecDepth 100000 in
theorem c_X7_chooseForDense_8 (l : Launch) (D : va_G) (cy : Nat → ClassId) (sz : Nat) (xh : Nat) (u1 : Int32) (u2 : Int32) (u3 : Int32) (u4 : Int32) (u5 : Int32) (u6 : Int32) (u7 : Int32) (u8 : Int32) (xc : Nat) (xk : Nat) (clo : Nat) (cro : Nat) (c4 : Nat) (c5 : Nat) (c6 : Nat) (c7 : Nat) (c8 : Nat) (xn : Nat) (n1 : Nat) (n2 : Nat) (n3 : Nat) (n4 : Nat) (n5 : Nat) (vp : Int32) (vn : Int32) (rl : Nat → Nat) (Ml : Nat → Nat → Int32) (a1 : Int32) (a2 : Int32) (a3 : Int32) (hvp : 0 ≤ vp.toInt ∧ vp.toInt ≤ 12) (q1 : -1 ≤ a1.toInt ∧ a1.toInt < 8) : Met l yX7_chooseForDense wsX7_chooseForDense ({ frames := 10, cells := 0, slots := 0, locals := 230 }) (va_Pc [.ref xh, .int a1, .int a2, .int a3] (fun U => U.heap.size = sz ∧ va_P D vwCl [ob7_0_ xh xc u1 u2 u3 u4 u5 u6 u7 u8, ob0_0_ xc xn xk clo cro c4 c5 c6 c7 c8, ob3_0_ xn vp vn n1 n2 n3 n4 n5, aq_ cy 6 clo 12 (gf_ rl), ai_ cy (rl 0) 12 (Ml 0), ai_ cy (rl 1) 12 (Ml 1), ai_ cy (rl 2) 12 (Ml 2), ai_ cy (rl 3) 12 (Ml 3), ai_ cy (rl 4) 12 (Ml 4), ai_ cy (rl 5) 12 (Ml 5), ai_ cy (rl 6) 12 (Ml 6), ai_ cy (rl 7) 12 (Ml 7), ai_ cy (rl 8) 12 (Ml 8), ai_ cy (rl 9) 12 (Ml 9), ai_ cy (rl 10) 12 (Ml 10), ai_ cy (rl 11) 12 (Ml 11)] U.heap ∧ kg_ D cy U ∧ va_D (fun _ => True) [ob7_0_ xh xc u1 u2 u3 u4 u5 u6 u7 u8, ob0_0_ xc xn xk clo cro c4 c5 c6 c7 c8, ob3_0_ xn vp vn n1 n2 n3 n4 n5, aq_ cy 6 clo 12 (gf_ rl), ai_ cy (rl 0) 12 (Ml 0), ai_ cy (rl 1) 12 (Ml 1), ai_ cy (rl 2) 12 (Ml 2), ai_ cy (rl 3) 12 (Ml 3), ai_ cy (rl 4) 12 (Ml 4), ai_ cy (rl 5) 12 (Ml 5), ai_ cy (rl 6) 12 (Ml 6), ai_ cy (rl 7) 12 (Ml 7), ai_ cy (rl 8) 12 (Ml 8), ai_ cy (rl 9) 12 (Ml 9), ai_ cy (rl 10) 12 (Ml 10), ai_ cy (rl 11) 12 (Ml 11)])) (va_Qv (fun (_ : Unit) => True) (fun (_ : Unit) (t : State) => ∃ (v7 : Int32), ∃ (v8 : Int32), va_P D vwCl [ob7_0_ xh xc u1 u2 u3 u4 u5 u6 v7 v8, ob0_0_ xc xn xk clo cro c4 c5 c6 c7 c8, ob3_0_ xn vp vn n1 n2 n3 n4 n5, aq_ cy 6 clo 12 (gf_ rl), ai_ cy (rl 0) 12 (Ml 0), ai_ cy (rl 1) 12 (Ml 1), ai_ cy (rl 2) 12 (Ml 2), ai_ cy (rl 3) 12 (Ml 3), ai_ cy (rl 4) 12 (Ml 4), ai_ cy (rl 5) 12 (Ml 5), ai_ cy (rl 6) 12 (Ml 6), ai_ cy (rl 7) 12 (Ml 7), ai_ cy (rl 8) 12 (Ml 8), ai_ cy (rl 9) 12 (Ml 9), ai_ cy (rl 10) 12 (Ml 10), ai_ cy (rl 11) 12 (Ml 11)] t.heap ∧ va_D (va_A [ob7_0_ xh xc u1 u2 u3 u4 u5 u6 u7 u8, ob0_0_ xc xn xk clo cro c4 c5 c6 c7 c8, ob3_0_ xn vp vn n1 n2 n3 n4 n5, aq_ cy 6 clo 12 (gf_ rl), ai_ cy (rl 0) 12 (Ml 0), ai_ cy (rl 1) 12 (Ml 1), ai_ cy (rl 2) 12 (Ml 2), ai_ cy (rl 3) 12 (Ml 3), ai_ cy (rl 4) 12 (Ml 4), ai_ cy (rl 5) 12 (Ml 5), ai_ cy (rl 6) 12 (Ml 6), ai_ cy (rl 7) 12 (Ml 7), ai_ cy (rl 8) 12 (Ml 8), ai_ cy (rl 9) 12 (Ml 9), ai_ cy (rl 10) 12 (Ml 10), ai_ cy (rl 11) 12 (Ml 11)] sz) [ob7_0_ xh xc u1 u2 u3 u4 u5 u6 v7 v8, ob0_0_ xc xn xk clo cro c4 c5 c6 c7 c8, ob3_0_ xn vp vn n1 n2 n3 n4 n5, aq_ cy 6 clo 12 (gf_ rl), ai_ cy (rl 0) 12 (Ml 0), ai_ cy (rl 1) 12 (Ml 1), ai_ cy (rl 2) 12 (Ml 2), ai_ cy (rl 3) 12 (Ml 3), ai_ cy (rl 4) 12 (Ml 4), ai_ cy (rl 5) 12 (Ml 5), ai_ cy (rl 6) 12 (Ml 6), ai_ cy (rl 7) 12 (Ml 7), ai_ cy (rl 8) 12 (Ml 8), ai_ cy (rl 9) 12 (Ml 9), ai_ cy (rl 10) 12 (Ml 10), ai_ cy (rl 11) 12 (Ml 11)]) (va_A [ob7_0_ xh xc u1 u2 u3 u4 u5 u6 u7 u8, ob0_0_ xc xn xk clo cro c4 c5 c6 c7 c8, ob3_0_ xn vp vn n1 n2 n3 n4 n5, aq_ cy 6 clo 12 (gf_ rl), ai_ cy (rl 0) 12 (Ml 0), ai_ cy (rl 1) 12 (Ml 1), ai_ cy (rl 2) 12 (Ml 2), ai_ cy (rl 3) 12 (Ml 3), ai_ cy (rl 4) 12 (Ml 4), ai_ cy (rl 5) 12 (Ml 5), ai_ cy (rl 6) 12 (Ml 6), ai_ cy (rl 7) 12 (Ml 7), ai_ cy (rl 8) 12 (Ml 8), ai_ cy (rl 9) 12 (Ml 9), ai_ cy (rl 10) 12 (Ml 10), ai_ cy (rl 11) 12 (Ml 11)] sz)) 0 0 (va_A [ob7_0_ xh xc u1 u2 u3 u4 u5 u6 u7 u8, ob0_0_ xc xn xk clo cro c4 c5 c6 c7 c8, ob3_0_ xn vp vn n1 n2 n3 n4 n5, aq_ cy 6 clo 12 (gf_ rl), ai_ cy (rl 0) 12 (Ml 0), ai_ cy (rl 1) 12 (Ml 1), ai_ cy (rl 2) 12 (Ml 2), ai_ cy (rl 3) 12 (Ml 3), ai_ cy (rl 4) 12 (Ml 4), ai_ cy (rl 5) 12 (Ml 5), ai_ cy (rl 6) 12 (Ml 6), ai_ cy (rl 7) 12 (Ml 7), ai_ cy (rl 8) 12 (Ml 8), ai_ cy (rl 9) 12 (Ml 9), ai_ cy (rl 10) 12 (Ml 10), ai_ cy (rl 11) 12 (Ml 11)] sz) := by
  refine ofQ (cc := cX7_chooseForDense) (maxL := 4) (ret := none) (by decide) rfl ?_
  intro p e s m args below meth c s₁ Q hQ B hml hv
  obtain ⟨rfl, hsz, hP, hK, hD0⟩ := hv
  have hG := hK.2
  have hK := hK.1
  have hx := B.exec
  have hb := B.bytes
  have hr := B.returns
  have hts := atoms_spec (ws := wsX7_chooseForDense) B.pre
  have hown : s.vm.findClass RX7 = some m.cls := by have h_ := findClass_of_methodNamed B.named; exact h_
  have hlocks := B.notSynchronized
  subst hsz
  have hD := hD0.self (sz := s.heap.size)
  generalize hAe : va_A [ob7_0_ xh xc u1 u2 u3 u4 u5 u6 u7 u8, ob0_0_ xc xn xk clo cro c4 c5 c6 c7 c8, ob3_0_ xn vp vn n1 n2 n3 n4 n5, aq_ cy 6 clo 12 (gf_ rl), ai_ cy (rl 0) 12 (Ml 0), ai_ cy (rl 1) 12 (Ml 1), ai_ cy (rl 2) 12 (Ml 2), ai_ cy (rl 3) 12 (Ml 3), ai_ cy (rl 4) 12 (Ml 4), ai_ cy (rl 5) 12 (Ml 5), ai_ cy (rl 6) 12 (Ml 6), ai_ cy (rl 7) 12 (Ml 7), ai_ cy (rl 8) 12 (Ml 8), ai_ cy (rl 9) 12 (Ml 9), ai_ cy (rl 10) 12 (Ml 10), ai_ cy (rl 11) 12 (Ml 11)] s.heap.size = A at hD hQ
  have hA : ∀ q : Nat, s.heap.size ≤ q → A q := fun q h => by rw [← hAe]; exact Or.inr h
  have hS : va_S A s.heap s.heap [] := va_S.rf
  have hl := lv_entry ([.ref xh, .int a1, .int a2, .int a3]) (n := 4) (Nat.le_of_ble_eq_true rfl)
  rw [lg_entry_eq]
  generalize (lg_sl ([.ref xh, .int a1, .int a2, .int a3]) ++ List.replicate (4 - (lg_sl ([.ref xh, .int a1, .int a2, .int a3])).length) Slot.unset).toArray = ls at hl ⊢
  have hl : lv_has ls 4 [(0, .ref xh), (1, .int a1), (2, .int a2), (3, .int a3)] := hl
  have z0 : (0 : Int32).toInt = 0 := by decide
  have z1 : (1 : Int32).toInt = 1 := by decide
  refine lv_iload_n hx hb dB_36_1_62.1.1.1.1 rfl (lv_at hl 1 rfl) ?_
  refine lv_if_ge (tgt := 11) hx hb dB_36_1_62.1.1.1.2 (by decide) (fun c_1 => ?_) (fun c_1 => ?_)
  · have t_1 : (0 : Int32).toInt ≤ a1.toInt := Int32.le_iff_toInt_le.mp c_1
    refine lv_aload_n hx hb dB_36_1_62.1.2.2.2 rfl (lv_at hl 0 rfl) ?_
    refine lv_iload_n hx hb dB_36_1_62.2.1.1.1 rfl (lv_at hl 1 rfl) ?_
    refine lv_iconst (v := 1) hx hb dB_36_1_62.2.1.1.2 (by decide) ?_
    refine lv_isub hx hb dB_36_1_62.2.1.2.1 ?_
    refine lv_topi (fun y_2 ey_2 => ?_)
    have ty_2 : y_2.toInt = a1.toInt - (1 : Int32).toInt := by rw [ey_2]; exact subI (by omega) (by omega)
    refine lv_iload_n hx hb dB_36_1_62.2.1.2.2 rfl (lv_at hl 2 rfl) ?_
    refine lv_iload_n hx hb dB_36_1_62.2.2.1.1 rfl (lv_at hl 3 rfl) ?_
    refine ct_S hP hD hS hA [ob7_0_ xh xc u1 u2 u3 u4 u5 u6 u7 u8, ob0_0_ xc xn xk clo cro c4 c5 c6 c7 c8, ob3_0_ xn vp vn n1 n2 n3 n4 n5, aq_ cy 6 clo 12 (gf_ rl), ai_ cy (rl 0) 12 (Ml 0), ai_ cy (rl 1) 12 (Ml 1), ai_ cy (rl 2) 12 (Ml 2), ai_ cy (rl 3) 12 (Ml 3), ai_ cy (rl 4) 12 (Ml 4), ai_ cy (rl 5) 12 (Ml 5), ai_ cy (rl 6) 12 (Ml 6), ai_ cy (rl 7) 12 (Ml 7), ai_ cy (rl 8) 12 (Ml 8), ai_ cy (rl 9) 12 (Ml 9), ai_ cy (rl 10) 12 (Ml 10), ai_ cy (rl 11) 12 (Ml 11)] [0, 1, 2, 3, 4, 5, 6, 7, 8, 9, 10, 11, 12, 13, 14, 15] (by decide +kernel) rfl (fun hPc hDw hFc hC_ => ?_)
    refine va_callv (va_runV (As := [.int y_2, .int a2, .int a3]) (rest := []) ⟨hx, hb, hml, hown, hts⟩ (c_X7_chooseForDense_7 l D cy s.heap.size xh u1 u2 u3 u4 u5 u6 u7 u8 xc xk clo cro c4 c5 c6 c7 c8 xn n1 n2 n3 n4 n5 vp vn rl Ml y_2 a2 a3 (by first | with_reducible assumption | omega | assumption) (by first | with_reducible assumption | omega | assumption)) (cwV 3 hts gX7_chooseForDense_X7_chooseForDense rfl rfl rfl ⟨rfl, hd_X7_chooseForDense⟩ ⟨Nat.le_of_ble_eq_true rfl, Nat.le_of_ble_eq_true rfl⟩) ⟨bl_g, va_recvX hK.1 hP (ci := 7) (q0 := 0) rfl rfl, fun U hU hW => ⟨rfl, by rw [hU], by rw [hU]; exact hPc, ⟨kk_mv hW hK, arrOfT_moved hW.alike hG⟩, hDw⟩⟩ rfl rfl hl.1 rfl (lv_room (Nat.le_of_ble_eq_true rfl)) dB_36_1_62.2.2.1.2 ⟨Nat.le_of_ble_eq_true rfl, Nat.le_of_ble_eq_true rfl⟩) hS (fun q _ h => hFc q h) hFc (fun u t H locs ht hvm hw hB hz1 hk1 hS => ?_)
    obtain ⟨v7_4, v8_5, hP1, hD1⟩ := hB
    rw [ht] at hP1
    obtain ⟨hP, hD⟩ := va_join (wr := []) (w1 := [ob7_0_ xh xc u1 u2 u3 u4 u5 u6 v7_4 v8_5, ob0_0_ xc xn xk clo cro c4 c5 c6 c7 c8, ob3_0_ xn vp vn n1 n2 n3 n4 n5, aq_ cy 6 clo 12 (gf_ rl), ai_ cy (rl 0) 12 (Ml 0), ai_ cy (rl 1) 12 (Ml 1), ai_ cy (rl 2) 12 (Ml 2), ai_ cy (rl 3) 12 (Ml 3), ai_ cy (rl 4) 12 (Ml 4), ai_ cy (rl 5) 12 (Ml 5), ai_ cy (rl 6) 12 (Ml 6), ai_ cy (rl 7) 12 (Ml 7), ai_ cy (rl 8) 12 (Ml 8), ai_ cy (rl 9) 12 (Ml 9), ai_ cy (rl 10) 12 (Ml 10), ai_ cy (rl 11) 12 (Ml 11)]) hP hD [0, 1, 2, 3, 4, 5, 6, 7, 8, 9, 10, 11, 12, 13, 14, 15] [] hC_ rfl (by decide) (by decide) hk1 hFc hP1 hD1
    refine pd_K [ob7_0_ xh xc u1 u2 u3 u4 u5 u6 v7_4 v8_5, ob0_0_ xc xn xk clo cro c4 c5 c6 c7 c8, ob3_0_ xn vp vn n1 n2 n3 n4 n5, aq_ cy 6 clo 12 (gf_ rl), ai_ cy (rl 0) 12 (Ml 0), ai_ cy (rl 1) 12 (Ml 1), ai_ cy (rl 2) 12 (Ml 2), ai_ cy (rl 3) 12 (Ml 3), ai_ cy (rl 4) 12 (Ml 4), ai_ cy (rl 5) 12 (Ml 5), ai_ cy (rl 6) 12 (Ml 6), ai_ cy (rl 7) 12 (Ml 7), ai_ cy (rl 8) 12 (Ml 8), ai_ cy (rl 9) 12 (Ml 9), ai_ cy (rl 10) 12 (Ml 10), ai_ cy (rl 11) 12 (Ml 11)] hP hD (fun hP hD => ?_)
    refine lv_aload_n hx hb dB_36_1_62.2.2.2.1 rfl (lv_at hl 0 rfl) ?_
    refine lv_iload_n hx hb dB_36_1_62.2.2.2.2 rfl (lv_at hl 1 rfl) ?_
    refine lv_iconst (v := 1) hx hb dB_36_1_63.1.1.1 (by decide) ?_
    refine lv_isub hx hb dB_36_1_63.1.1.2.1 ?_
    refine lv_topi (fun y_6 ey_6 => ?_)
    have e_ := (ey_6.trans ey_2.symm).symm
    subst e_
    refine lv_iload_n hx hb dB_36_1_63.1.1.2.2 rfl (lv_at hl 2 rfl) ?_
    refine lv_iconst (v := 1) hx hb dB_36_1_63.1.2.1.1 (by decide) ?_
    refine lv_iload_n hx hb dB_36_1_63.1.2.1.2 rfl (lv_at hl 1 rfl) ?_
    refine lv_ishl hx hb dB_36_1_63.1.2.2.1 ?_
    refine lv_topi (fun y_7 ey_7 => ?_)
    refine lv_ior hx hb dB_36_1_63.1.2.2.2 ?_
    refine lv_topi (fun y_8 ey_8 => ?_)
    refine lv_iload_n hx hb dB_36_1_63.2.1.1.1 rfl (lv_at hl 3 rfl) ?_
    refine lv_aload_n hx hb dB_36_1_63.2.1.1.2 rfl (lv_at hl 0 rfl) ?_
    refine lv_iload_n hx hb dB_36_1_63.2.1.2.1 rfl (lv_at hl 1 rfl) ?_
    refine lv_iload_n hx hb dB_36_1_63.2.1.2.2 rfl (lv_at hl 2 rfl) ?_
    refine ct_R hP hD [ob7_0_ xh xc u1 u2 u3 u4 u5 u6 v7_4 v8_5, ob0_0_ xc xn xk clo cro c4 c5 c6 c7 c8, ob3_0_ xn vp vn n1 n2 n3 n4 n5, aq_ cy 6 clo 12 (gf_ rl), ai_ cy (rl 0) 12 (Ml 0), ai_ cy (rl 1) 12 (Ml 1), ai_ cy (rl 2) 12 (Ml 2), ai_ cy (rl 3) 12 (Ml 3), ai_ cy (rl 4) 12 (Ml 4), ai_ cy (rl 5) 12 (Ml 5), ai_ cy (rl 6) 12 (Ml 6), ai_ cy (rl 7) 12 (Ml 7), ai_ cy (rl 8) 12 (Ml 8), ai_ cy (rl 9) 12 (Ml 9), ai_ cy (rl 10) 12 (Ml 10), ai_ cy (rl 11) 12 (Ml 11)] [0, 1, 2, 3, 4, 5, 6, 7, 8, 9, 10, 11, 12, 13, 14, 15] (by decide +kernel) rfl (fun hPc hDw => ?_)
    have hFc := va_free (wc := []) hD hS hA [] rfl
    refine va_calli (va_runV (As := [.int a1, .int a2]) (rest := [.int a3, .int y_8, .int y_2, .ref xh]) ⟨hx, hb, hml, hown, hts⟩ (c_X7_letIn l D cy H.size xh u1 u2 u3 u4 u5 u6 v7_4 v8_5 xc xk clo cro c4 c5 c6 c7 c8 xn n1 n2 n3 n4 n5 vp vn rl Ml a1 a2 (by first | with_reducible assumption | omega | assumption) (by first | with_reducible assumption | omega | assumption)) (cwV 2 hts gX7_chooseForDense_X7_letIn rfl rfl rfl ⟨rfl, hd_X7_letIn⟩ ⟨Nat.le_of_ble_eq_true rfl, Nat.le_of_ble_eq_true rfl⟩) ⟨bl_g, va_recvX hK.1 hP (ci := 7) (q0 := 0) rfl rfl, fun U hU hW => ⟨rfl, by rw [hU], by rw [hU]; exact hPc, ⟨kk_mv hW hK, arrOfT_moved hW.alike hG⟩, hDw⟩⟩ rfl rfl hl.1 rfl (lv_room (Nat.le_of_ble_eq_true rfl)) dB_36_1_63.2.2.1.1 ⟨Nat.le_of_ble_eq_true rfl, Nat.le_of_ble_eq_true rfl⟩) hS (fun q _ h => hFc q h) hFc (fun r_9 u t H locs ht hvm hw hB hz1 hk1 hS => ?_)
    have hP : va_P D vwCl _ H := ro_keep hP hk1
    refine lv_iadd hx hb dB_36_1_63.2.2.1.2 ?_
    refine lv_topi (fun y_10 ey_10 => ?_)
    refine ct_S hP hD hS hA [ob7_0_ xh xc u1 u2 u3 u4 u5 u6 v7_4 v8_5, ob0_0_ xc xn xk clo cro c4 c5 c6 c7 c8, ob3_0_ xn vp vn n1 n2 n3 n4 n5, aq_ cy 6 clo 12 (gf_ rl), ai_ cy (rl 0) 12 (Ml 0), ai_ cy (rl 1) 12 (Ml 1), ai_ cy (rl 2) 12 (Ml 2), ai_ cy (rl 3) 12 (Ml 3), ai_ cy (rl 4) 12 (Ml 4), ai_ cy (rl 5) 12 (Ml 5), ai_ cy (rl 6) 12 (Ml 6), ai_ cy (rl 7) 12 (Ml 7), ai_ cy (rl 8) 12 (Ml 8), ai_ cy (rl 9) 12 (Ml 9), ai_ cy (rl 10) 12 (Ml 10), ai_ cy (rl 11) 12 (Ml 11)] [0, 1, 2, 3, 4, 5, 6, 7, 8, 9, 10, 11, 12, 13, 14, 15] (by decide +kernel) rfl (fun hPc hDw hFc hC_ => ?_)
    refine va_callv (va_runV (As := [.int y_2, .int y_8, .int y_10]) (rest := []) ⟨hx, hb, hml, hown, hts⟩ (c_X7_chooseForDense_7 l D cy H.size xh u1 u2 u3 u4 u5 u6 v7_4 v8_5 xc xk clo cro c4 c5 c6 c7 c8 xn n1 n2 n3 n4 n5 vp vn rl Ml y_2 y_8 y_10 (by first | with_reducible assumption | omega | assumption) (by first | with_reducible assumption | omega | assumption)) (cwV 3 hts gX7_chooseForDense_X7_chooseForDense rfl rfl rfl ⟨rfl, hd_X7_chooseForDense⟩ ⟨Nat.le_of_ble_eq_true rfl, Nat.le_of_ble_eq_true rfl⟩) ⟨bl_g, va_recvX hK.1 hP (ci := 7) (q0 := 0) rfl rfl, fun U hU hW => ⟨rfl, by rw [hU], by rw [hU]; exact hPc, ⟨kk_mv hW hK, arrOfT_moved hW.alike hG⟩, hDw⟩⟩ rfl rfl hl.1 rfl (lv_room (Nat.le_of_ble_eq_true rfl)) dB_36_1_63.2.2.2.1 ⟨Nat.le_of_ble_eq_true rfl, Nat.le_of_ble_eq_true rfl⟩) hS (fun q _ h => hFc q h) hFc (fun u t H locs ht hvm hw hB hz1 hk1 hS => ?_)
    obtain ⟨v7_12, v8_13, hP1, hD1⟩ := hB
    rw [ht] at hP1
    obtain ⟨hP, hD⟩ := va_join (wr := []) (w1 := [ob7_0_ xh xc u1 u2 u3 u4 u5 u6 v7_12 v8_13, ob0_0_ xc xn xk clo cro c4 c5 c6 c7 c8, ob3_0_ xn vp vn n1 n2 n3 n4 n5, aq_ cy 6 clo 12 (gf_ rl), ai_ cy (rl 0) 12 (Ml 0), ai_ cy (rl 1) 12 (Ml 1), ai_ cy (rl 2) 12 (Ml 2), ai_ cy (rl 3) 12 (Ml 3), ai_ cy (rl 4) 12 (Ml 4), ai_ cy (rl 5) 12 (Ml 5), ai_ cy (rl 6) 12 (Ml 6), ai_ cy (rl 7) 12 (Ml 7), ai_ cy (rl 8) 12 (Ml 8), ai_ cy (rl 9) 12 (Ml 9), ai_ cy (rl 10) 12 (Ml 10), ai_ cy (rl 11) 12 (Ml 11)]) hP hD [0, 1, 2, 3, 4, 5, 6, 7, 8, 9, 10, 11, 12, 13, 14, 15] [] hC_ rfl (by decide) (by decide) hk1 hFc hP1 hD1
    refine pd_K [ob7_0_ xh xc u1 u2 u3 u4 u5 u6 v7_12 v8_13, ob0_0_ xc xn xk clo cro c4 c5 c6 c7 c8, ob3_0_ xn vp vn n1 n2 n3 n4 n5, aq_ cy 6 clo 12 (gf_ rl), ai_ cy (rl 0) 12 (Ml 0), ai_ cy (rl 1) 12 (Ml 1), ai_ cy (rl 2) 12 (Ml 2), ai_ cy (rl 3) 12 (Ml 3), ai_ cy (rl 4) 12 (Ml 4), ai_ cy (rl 5) 12 (Ml 5), ai_ cy (rl 6) 12 (Ml 6), ai_ cy (rl 7) 12 (Ml 7), ai_ cy (rl 8) 12 (Ml 8), ai_ cy (rl 9) 12 (Ml 9), ai_ cy (rl 10) 12 (Ml 10), ai_ cy (rl 11) 12 (Ml 11)] hP hD (fun hP hD => ?_)
    rw [hQ]
    exact W.vret hx hb hr (fun t ht hW => ⟨⟨(), rfl, trivial, v7_12, v8_13, by rw [ht]; exact hP, hD⟩, hS.F ht⟩) hS.2.2 dB_36_1_63.2.2.2.2
  · have t_1 : ¬ (0 : Int32).toInt ≤ a1.toInt := fun h => c_1 (Int32.le_iff_toInt_le.mpr h)
    refine lv_aload_n hx hb dB_36_1_62.1.1.2.1 rfl (lv_at hl 0 rfl) ?_
    refine lv_iload_n hx hb dB_36_1_62.1.1.2.2 rfl (lv_at hl 2 rfl) ?_
    refine lv_iload_n hx hb dB_36_1_62.1.2.1.1 rfl (lv_at hl 3 rfl) ?_
    refine ct_S hP hD hS hA [ob7_0_ xh xc u1 u2 u3 u4 u5 u6 u7 u8] [0] (by decide) rfl (fun hPc hDw hFc hC_ => ?_)
    refine va_callv (va_runV (As := [.int a2, .int a3]) (rest := []) ⟨hx, hb, hml, hown, hts⟩ (c_X7_compareDense l D cy s.heap.size xh u1 u2 u3 u4 u5 u6 u7 u8 xc a2 a3) (cwV 2 hts gX7_chooseForDense_X7_compareDense rfl rfl rfl ⟨rfl, hd_X7_compareDense⟩ ⟨Nat.le_of_ble_eq_true rfl, Nat.le_of_ble_eq_true rfl⟩) ⟨bl_, va_recvX hK.1 hP (ci := 7) (q0 := 0) rfl rfl, fun U hU hW => ⟨rfl, by rw [hU], by rw [hU]; exact hPc, kk_mv hW hK, hDw⟩⟩ rfl rfl hl.1 rfl (lv_room (Nat.le_of_ble_eq_true rfl)) dB_36_1_62.1.2.1.2 ⟨Nat.le_of_ble_eq_true rfl, Nat.le_of_ble_eq_true rfl⟩) hS (fun q _ h => hFc q h) hFc (fun u t H locs ht hvm hw hB hz1 hk1 hS => ?_)
    obtain ⟨v7_15, v8_16, hP1, hD1⟩ := hB
    rw [ht] at hP1
    obtain ⟨hP, hD⟩ := va_join (wr := [ob0_0_ xc xn xk clo cro c4 c5 c6 c7 c8, ob3_0_ xn vp vn n1 n2 n3 n4 n5, aq_ cy 6 clo 12 (gf_ rl), ai_ cy (rl 0) 12 (Ml 0), ai_ cy (rl 1) 12 (Ml 1), ai_ cy (rl 2) 12 (Ml 2), ai_ cy (rl 3) 12 (Ml 3), ai_ cy (rl 4) 12 (Ml 4), ai_ cy (rl 5) 12 (Ml 5), ai_ cy (rl 6) 12 (Ml 6), ai_ cy (rl 7) 12 (Ml 7), ai_ cy (rl 8) 12 (Ml 8), ai_ cy (rl 9) 12 (Ml 9), ai_ cy (rl 10) 12 (Ml 10), ai_ cy (rl 11) 12 (Ml 11)]) (w1 := [ob7_0_ xh xc u1 u2 u3 u4 u5 u6 v7_15 v8_16]) hP hD [0] [1, 2, 3, 4, 5, 6, 7, 8, 9, 10, 11, 12, 13, 14, 15] hC_ rfl (by decide +kernel) (by decide +kernel) hk1 hFc hP1 hD1
    refine pd_S hP hD [ob7_0_ xh xc u1 u2 u3 u4 u5 u6 v7_15 v8_16, ob0_0_ xc xn xk clo cro c4 c5 c6 c7 c8, ob3_0_ xn vp vn n1 n2 n3 n4 n5, aq_ cy 6 clo 12 (gf_ rl), ai_ cy (rl 0) 12 (Ml 0), ai_ cy (rl 1) 12 (Ml 1), ai_ cy (rl 2) 12 (Ml 2), ai_ cy (rl 3) 12 (Ml 3), ai_ cy (rl 4) 12 (Ml 4), ai_ cy (rl 5) 12 (Ml 5), ai_ cy (rl 6) 12 (Ml 6), ai_ cy (rl 7) 12 (Ml 7), ai_ cy (rl 8) 12 (Ml 8), ai_ cy (rl 9) 12 (Ml 9), ai_ cy (rl 10) 12 (Ml 10), ai_ cy (rl 11) 12 (Ml 11)] [15, 0, 1, 2, 3, 4, 5, 6, 7, 8, 9, 10, 11, 12, 13, 14] (by decide +kernel) rfl (fun hP hD => ?_)
    rw [hQ]
    exact W.vret hx hb hr (fun t ht hW => ⟨⟨(), rfl, trivial, v7_15, v8_16, by rw [ht]; exact hP, hD⟩, hS.F ht⟩) hS.2.2 dB_36_1_62.1.2.2.1

set_option maxHeartbeats 4000000 in
set_option maxRecDepth 100000 in
theorem c_X7_chooseForDense_9 (l : Launch) (D : va_G) (cy : Nat → ClassId) (sz : Nat) (xh : Nat) (u1 : Int32) (u2 : Int32) (u3 : Int32) (u4 : Int32) (u5 : Int32) (u6 : Int32) (u7 : Int32) (u8 : Int32) (xc : Nat) (xk : Nat) (clo : Nat) (cro : Nat) (c4 : Nat) (c5 : Nat) (c6 : Nat) (c7 : Nat) (c8 : Nat) (xn : Nat) (n1 : Nat) (n2 : Nat) (n3 : Nat) (n4 : Nat) (n5 : Nat) (vp : Int32) (vn : Int32) (rl : Nat → Nat) (Ml : Nat → Nat → Int32) (a1 : Int32) (a2 : Int32) (a3 : Int32) (hvp : 0 ≤ vp.toInt ∧ vp.toInt ≤ 12) (q1 : -1 ≤ a1.toInt ∧ a1.toInt < 9) : Met l yX7_chooseForDense wsX7_chooseForDense ({ frames := 11, cells := 0, slots := 0, locals := 253 }) (va_Pc [.ref xh, .int a1, .int a2, .int a3] (fun U => U.heap.size = sz ∧ va_P D vwCl [ob7_0_ xh xc u1 u2 u3 u4 u5 u6 u7 u8, ob0_0_ xc xn xk clo cro c4 c5 c6 c7 c8, ob3_0_ xn vp vn n1 n2 n3 n4 n5, aq_ cy 6 clo 12 (gf_ rl), ai_ cy (rl 0) 12 (Ml 0), ai_ cy (rl 1) 12 (Ml 1), ai_ cy (rl 2) 12 (Ml 2), ai_ cy (rl 3) 12 (Ml 3), ai_ cy (rl 4) 12 (Ml 4), ai_ cy (rl 5) 12 (Ml 5), ai_ cy (rl 6) 12 (Ml 6), ai_ cy (rl 7) 12 (Ml 7), ai_ cy (rl 8) 12 (Ml 8), ai_ cy (rl 9) 12 (Ml 9), ai_ cy (rl 10) 12 (Ml 10), ai_ cy (rl 11) 12 (Ml 11)] U.heap ∧ kg_ D cy U ∧ va_D (fun _ => True) [ob7_0_ xh xc u1 u2 u3 u4 u5 u6 u7 u8, ob0_0_ xc xn xk clo cro c4 c5 c6 c7 c8, ob3_0_ xn vp vn n1 n2 n3 n4 n5, aq_ cy 6 clo 12 (gf_ rl), ai_ cy (rl 0) 12 (Ml 0), ai_ cy (rl 1) 12 (Ml 1), ai_ cy (rl 2) 12 (Ml 2), ai_ cy (rl 3) 12 (Ml 3), ai_ cy (rl 4) 12 (Ml 4), ai_ cy (rl 5) 12 (Ml 5), ai_ cy (rl 6) 12 (Ml 6), ai_ cy (rl 7) 12 (Ml 7), ai_ cy (rl 8) 12 (Ml 8), ai_ cy (rl 9) 12 (Ml 9), ai_ cy (rl 10) 12 (Ml 10), ai_ cy (rl 11) 12 (Ml 11)])) (va_Qv (fun (_ : Unit) => True) (fun (_ : Unit) (t : State) => ∃ (v7 : Int32), ∃ (v8 : Int32), va_P D vwCl [ob7_0_ xh xc u1 u2 u3 u4 u5 u6 v7 v8, ob0_0_ xc xn xk clo cro c4 c5 c6 c7 c8, ob3_0_ xn vp vn n1 n2 n3 n4 n5, aq_ cy 6 clo 12 (gf_ rl), ai_ cy (rl 0) 12 (Ml 0), ai_ cy (rl 1) 12 (Ml 1), ai_ cy (rl 2) 12 (Ml 2), ai_ cy (rl 3) 12 (Ml 3), ai_ cy (rl 4) 12 (Ml 4), ai_ cy (rl 5) 12 (Ml 5), ai_ cy (rl 6) 12 (Ml 6), ai_ cy (rl 7) 12 (Ml 7), ai_ cy (rl 8) 12 (Ml 8), ai_ cy (rl 9) 12 (Ml 9), ai_ cy (rl 10) 12 (Ml 10), ai_ cy (rl 11) 12 (Ml 11)] t.heap ∧ va_D (va_A [ob7_0_ xh xc u1 u2 u3 u4 u5 u6 u7 u8, ob0_0_ xc xn xk clo cro c4 c5 c6 c7 c8, ob3_0_ xn vp vn n1 n2 n3 n4 n5, aq_ cy 6 clo 12 (gf_ rl), ai_ cy (rl 0) 12 (Ml 0), ai_ cy (rl 1) 12 (Ml 1), ai_ cy (rl 2) 12 (Ml 2), ai_ cy (rl 3) 12 (Ml 3), ai_ cy (rl 4) 12 (Ml 4), ai_ cy (rl 5) 12 (Ml 5), ai_ cy (rl 6) 12 (Ml 6), ai_ cy (rl 7) 12 (Ml 7), ai_ cy (rl 8) 12 (Ml 8), ai_ cy (rl 9) 12 (Ml 9), ai_ cy (rl 10) 12 (Ml 10), ai_ cy (rl 11) 12 (Ml 11)] sz) [ob7_0_ xh xc u1 u2 u3 u4 u5 u6 v7 v8, ob0_0_ xc xn xk clo cro c4 c5 c6 c7 c8, ob3_0_ xn vp vn n1 n2 n3 n4 n5, aq_ cy 6 clo 12 (gf_ rl), ai_ cy (rl 0) 12 (Ml 0), ai_ cy (rl 1) 12 (Ml 1), ai_ cy (rl 2) 12 (Ml 2), ai_ cy (rl 3) 12 (Ml 3), ai_ cy (rl 4) 12 (Ml 4), ai_ cy (rl 5) 12 (Ml 5), ai_ cy (rl 6) 12 (Ml 6), ai_ cy (rl 7) 12 (Ml 7), ai_ cy (rl 8) 12 (Ml 8), ai_ cy (rl 9) 12 (Ml 9), ai_ cy (rl 10) 12 (Ml 10), ai_ cy (rl 11) 12 (Ml 11)]) (va_A [ob7_0_ xh xc u1 u2 u3 u4 u5 u6 u7 u8, ob0_0_ xc xn xk clo cro c4 c5 c6 c7 c8, ob3_0_ xn vp vn n1 n2 n3 n4 n5, aq_ cy 6 clo 12 (gf_ rl), ai_ cy (rl 0) 12 (Ml 0), ai_ cy (rl 1) 12 (Ml 1), ai_ cy (rl 2) 12 (Ml 2), ai_ cy (rl 3) 12 (Ml 3), ai_ cy (rl 4) 12 (Ml 4), ai_ cy (rl 5) 12 (Ml 5), ai_ cy (rl 6) 12 (Ml 6), ai_ cy (rl 7) 12 (Ml 7), ai_ cy (rl 8) 12 (Ml 8), ai_ cy (rl 9) 12 (Ml 9), ai_ cy (rl 10) 12 (Ml 10), ai_ cy (rl 11) 12 (Ml 11)] sz)) 0 0 (va_A [ob7_0_ xh xc u1 u2 u3 u4 u5 u6 u7 u8, ob0_0_ xc xn xk clo cro c4 c5 c6 c7 c8, ob3_0_ xn vp vn n1 n2 n3 n4 n5, aq_ cy 6 clo 12 (gf_ rl), ai_ cy (rl 0) 12 (Ml 0), ai_ cy (rl 1) 12 (Ml 1), ai_ cy (rl 2) 12 (Ml 2), ai_ cy (rl 3) 12 (Ml 3), ai_ cy (rl 4) 12 (Ml 4), ai_ cy (rl 5) 12 (Ml 5), ai_ cy (rl 6) 12 (Ml 6), ai_ cy (rl 7) 12 (Ml 7), ai_ cy (rl 8) 12 (Ml 8), ai_ cy (rl 9) 12 (Ml 9), ai_ cy (rl 10) 12 (Ml 10), ai_ cy (rl 11) 12 (Ml 11)] sz) := by
  refine ofQ (cc := cX7_chooseForDense) (maxL := 4) (ret := none) (by decide) rfl ?_
  intro p e s m args below meth c s₁ Q hQ B hml hv
  obtain ⟨rfl, hsz, hP, hK, hD0⟩ := hv
  have hG := hK.2
  have hK := hK.1
  have hx := B.exec
  have hb := B.bytes
  have hr := B.returns
  have hts := atoms_spec (ws := wsX7_chooseForDense) B.pre
  have hown : s.vm.findClass RX7 = some m.cls := by have h_ := findClass_of_methodNamed B.named; exact h_
  have hlocks := B.notSynchronized
  subst hsz
  have hD := hD0.self (sz := s.heap.size)
  generalize hAe : va_A [ob7_0_ xh xc u1 u2 u3 u4 u5 u6 u7 u8, ob0_0_ xc xn xk clo cro c4 c5 c6 c7 c8, ob3_0_ xn vp vn n1 n2 n3 n4 n5, aq_ cy 6 clo 12 (gf_ rl), ai_ cy (rl 0) 12 (Ml 0), ai_ cy (rl 1) 12 (Ml 1), ai_ cy (rl 2) 12 (Ml 2), ai_ cy (rl 3) 12 (Ml 3), ai_ cy (rl 4) 12 (Ml 4), ai_ cy (rl 5) 12 (Ml 5), ai_ cy (rl 6) 12 (Ml 6), ai_ cy (rl 7) 12 (Ml 7), ai_ cy (rl 8) 12 (Ml 8), ai_ cy (rl 9) 12 (Ml 9), ai_ cy (rl 10) 12 (Ml 10), ai_ cy (rl 11) 12 (Ml 11)] s.heap.size = A at hD hQ
  have hA : ∀ q : Nat, s.heap.size ≤ q → A q := fun q h => by rw [← hAe]; exact Or.inr h
  have hS : va_S A s.heap s.heap [] := va_S.rf
  have hl := lv_entry ([.ref xh, .int a1, .int a2, .int a3]) (n := 4) (Nat.le_of_ble_eq_true rfl)
  rw [lg_entry_eq]
  generalize (lg_sl ([.ref xh, .int a1, .int a2, .int a3]) ++ List.replicate (4 - (lg_sl ([.ref xh, .int a1, .int a2, .int a3])).length) Slot.unset).toArray = ls at hl ⊢
  have hl : lv_has ls 4 [(0, .ref xh), (1, .int a1), (2, .int a2), (3, .int a3)] := hl
  have z0 : (0 : Int32).toInt = 0 := by decide
  have z1 : (1 : Int32).toInt = 1 := by decide
  refine lv_iload_n hx hb dB_36_1_62.1.1.1.1 rfl (lv_at hl 1 rfl) ?_
  refine lv_if_ge (tgt := 11) hx hb dB_36_1_62.1.1.1.2 (by decide) (fun c_1 => ?_) (fun c_1 => ?_)
  · have t_1 : (0 : Int32).toInt ≤ a1.toInt := Int32.le_iff_toInt_le.mp c_1
    refine lv_aload_n hx hb dB_36_1_62.1.2.2.2 rfl (lv_at hl 0 rfl) ?_
    refine lv_iload_n hx hb dB_36_1_62.2.1.1.1 rfl (lv_at hl 1 rfl) ?_
    refine lv_iconst (v := 1) hx hb dB_36_1_62.2.1.1.2 (by decide) ?_
    refine lv_isub hx hb dB_36_1_62.2.1.2.1 ?_
    refine lv_topi (fun y_2 ey_2 => ?_)
    have ty_2 : y_2.toInt = a1.toInt - (1 : Int32).toInt := by rw [ey_2]; exact subI (by omega) (by omega)
    refine lv_iload_n hx hb dB_36_1_62.2.1.2.2 rfl (lv_at hl 2 rfl) ?_
    refine lv_iload_n hx hb dB_36_1_62.2.2.1.1 rfl (lv_at hl 3 rfl) ?_
    refine ct_S hP hD hS hA [ob7_0_ xh xc u1 u2 u3 u4 u5 u6 u7 u8, ob0_0_ xc xn xk clo cro c4 c5 c6 c7 c8, ob3_0_ xn vp vn n1 n2 n3 n4 n5, aq_ cy 6 clo 12 (gf_ rl), ai_ cy (rl 0) 12 (Ml 0), ai_ cy (rl 1) 12 (Ml 1), ai_ cy (rl 2) 12 (Ml 2), ai_ cy (rl 3) 12 (Ml 3), ai_ cy (rl 4) 12 (Ml 4), ai_ cy (rl 5) 12 (Ml 5), ai_ cy (rl 6) 12 (Ml 6), ai_ cy (rl 7) 12 (Ml 7), ai_ cy (rl 8) 12 (Ml 8), ai_ cy (rl 9) 12 (Ml 9), ai_ cy (rl 10) 12 (Ml 10), ai_ cy (rl 11) 12 (Ml 11)] [0, 1, 2, 3, 4, 5, 6, 7, 8, 9, 10, 11, 12, 13, 14, 15] (by decide +kernel) rfl (fun hPc hDw hFc hC_ => ?_)
    refine va_callv (va_runV (As := [.int y_2, .int a2, .int a3]) (rest := []) ⟨hx, hb, hml, hown, hts⟩ (c_X7_chooseForDense_8 l D cy s.heap.size xh u1 u2 u3 u4 u5 u6 u7 u8 xc xk clo cro c4 c5 c6 c7 c8 xn n1 n2 n3 n4 n5 vp vn rl Ml y_2 a2 a3 (by first | with_reducible assumption | omega | assumption) (by first | with_reducible assumption | omega | assumption)) (cwV 3 hts gX7_chooseForDense_X7_chooseForDense rfl rfl rfl ⟨rfl, hd_X7_chooseForDense⟩ ⟨Nat.le_of_ble_eq_true rfl, Nat.le_of_ble_eq_true rfl⟩) ⟨bl_g, va_recvX hK.1 hP (ci := 7) (q0 := 0) rfl rfl, fun U hU hW => ⟨rfl, by rw [hU], by rw [hU]; exact hPc, ⟨kk_mv hW hK, arrOfT_moved hW.alike hG⟩, hDw⟩⟩ rfl rfl hl.1 rfl (lv_room (Nat.le_of_ble_eq_true rfl)) dB_36_1_62.2.2.1.2 ⟨Nat.le_of_ble_eq_true rfl, Nat.le_of_ble_eq_true rfl⟩) hS (fun q _ h => hFc q h) hFc (fun u t H locs ht hvm hw hB hz1 hk1 hS => ?_)
    obtain ⟨v7_4, v8_5, hP1, hD1⟩ := hB
    rw [ht] at hP1
    obtain ⟨hP, hD⟩ := va_join (wr := []) (w1 := [ob7_0_ xh xc u1 u2 u3 u4 u5 u6 v7_4 v8_5, ob0_0_ xc xn xk clo cro c4 c5 c6 c7 c8, ob3_0_ xn vp vn n1 n2 n3 n4 n5, aq_ cy 6 clo 12 (gf_ rl), ai_ cy (rl 0) 12 (Ml 0), ai_ cy (rl 1) 12 (Ml 1), ai_ cy (rl 2) 12 (Ml 2), ai_ cy (rl 3) 12 (Ml 3), ai_ cy (rl 4) 12 (Ml 4), ai_ cy (rl 5) 12 (Ml 5), ai_ cy (rl 6) 12 (Ml 6), ai_ cy (rl 7) 12 (Ml 7), ai_ cy (rl 8) 12 (Ml 8), ai_ cy (rl 9) 12 (Ml 9), ai_ cy (rl 10) 12 (Ml 10), ai_ cy (rl 11) 12 (Ml 11)]) hP hD [0, 1, 2, 3, 4, 5, 6, 7, 8, 9, 10, 11, 12, 13, 14, 15] [] hC_ rfl (by decide) (by decide) hk1 hFc hP1 hD1
    refine pd_K [ob7_0_ xh xc u1 u2 u3 u4 u5 u6 v7_4 v8_5, ob0_0_ xc xn xk clo cro c4 c5 c6 c7 c8, ob3_0_ xn vp vn n1 n2 n3 n4 n5, aq_ cy 6 clo 12 (gf_ rl), ai_ cy (rl 0) 12 (Ml 0), ai_ cy (rl 1) 12 (Ml 1), ai_ cy (rl 2) 12 (Ml 2), ai_ cy (rl 3) 12 (Ml 3), ai_ cy (rl 4) 12 (Ml 4), ai_ cy (rl 5) 12 (Ml 5), ai_ cy (rl 6) 12 (Ml 6), ai_ cy (rl 7) 12 (Ml 7), ai_ cy (rl 8) 12 (Ml 8), ai_ cy (rl 9) 12 (Ml 9), ai_ cy (rl 10) 12 (Ml 10), ai_ cy (rl 11) 12 (Ml 11)] hP hD (fun hP hD => ?_)
    refine lv_aload_n hx hb dB_36_1_62.2.2.2.1 rfl (lv_at hl 0 rfl) ?_
    refine lv_iload_n hx hb dB_36_1_62.2.2.2.2 rfl (lv_at hl 1 rfl) ?_
    refine lv_iconst (v := 1) hx hb dB_36_1_63.1.1.1 (by decide) ?_
    refine lv_isub hx hb dB_36_1_63.1.1.2.1 ?_
    refine lv_topi (fun y_6 ey_6 => ?_)
    have e_ := (ey_6.trans ey_2.symm).symm
    subst e_
    refine lv_iload_n hx hb dB_36_1_63.1.1.2.2 rfl (lv_at hl 2 rfl) ?_
    refine lv_iconst (v := 1) hx hb dB_36_1_63.1.2.1.1 (by decide) ?_
    refine lv_iload_n hx hb dB_36_1_63.1.2.1.2 rfl (lv_at hl 1 rfl) ?_
    refine lv_ishl hx hb dB_36_1_63.1.2.2.1 ?_
    refine lv_topi (fun y_7 ey_7 => ?_)
    refine lv_ior hx hb dB_36_1_63.1.2.2.2 ?_
    refine lv_topi (fun y_8 ey_8 => ?_)
    refine lv_iload_n hx hb dB_36_1_63.2.1.1.1 rfl (lv_at hl 3 rfl) ?_
    refine lv_aload_n hx hb dB_36_1_63.2.1.1.2 rfl (lv_at hl 0 rfl) ?_
    refine lv_iload_n hx hb dB_36_1_63.2.1.2.1 rfl (lv_at hl 1 rfl) ?_
    refine lv_iload_n hx hb dB_36_1_63.2.1.2.2 rfl (lv_at hl 2 rfl) ?_
    refine ct_R hP hD [ob7_0_ xh xc u1 u2 u3 u4 u5 u6 v7_4 v8_5, ob0_0_ xc xn xk clo cro c4 c5 c6 c7 c8, ob3_0_ xn vp vn n1 n2 n3 n4 n5, aq_ cy 6 clo 12 (gf_ rl), ai_ cy (rl 0) 12 (Ml 0), ai_ cy (rl 1) 12 (Ml 1), ai_ cy (rl 2) 12 (Ml 2), ai_ cy (rl 3) 12 (Ml 3), ai_ cy (rl 4) 12 (Ml 4), ai_ cy (rl 5) 12 (Ml 5), ai_ cy (rl 6) 12 (Ml 6), ai_ cy (rl 7) 12 (Ml 7), ai_ cy (rl 8) 12 (Ml 8), ai_ cy (rl 9) 12 (Ml 9), ai_ cy (rl 10) 12 (Ml 10), ai_ cy (rl 11) 12 (Ml 11)] [0, 1, 2, 3, 4, 5, 6, 7, 8, 9, 10, 11, 12, 13, 14, 15] (by decide +kernel) rfl (fun hPc hDw => ?_)
    have hFc := va_free (wc := []) hD hS hA [] rfl
    refine va_calli (va_runV (As := [.int a1, .int a2]) (rest := [.int a3, .int y_8, .int y_2, .ref xh]) ⟨hx, hb, hml, hown, hts⟩ (c_X7_letIn l D cy H.size xh u1 u2 u3 u4 u5 u6 v7_4 v8_5 xc xk clo cro c4 c5 c6 c7 c8 xn n1 n2 n3 n4 n5 vp vn rl Ml a1 a2 (by first | with_reducible assumption | omega | assumption) (by first | with_reducible assumption | omega | assumption)) (cwV 2 hts gX7_chooseForDense_X7_letIn rfl rfl rfl ⟨rfl, hd_X7_letIn⟩ ⟨Nat.le_of_ble_eq_true rfl, Nat.le_of_ble_eq_true rfl⟩) ⟨bl_g, va_recvX hK.1 hP (ci := 7) (q0 := 0) rfl rfl, fun U hU hW => ⟨rfl, by rw [hU], by rw [hU]; exact hPc, ⟨kk_mv hW hK, arrOfT_moved hW.alike hG⟩, hDw⟩⟩ rfl rfl hl.1 rfl (lv_room (Nat.le_of_ble_eq_true rfl)) dB_36_1_63.2.2.1.1 ⟨Nat.le_of_ble_eq_true rfl, Nat.le_of_ble_eq_true rfl⟩) hS (fun q _ h => hFc q h) hFc (fun r_9 u t H locs ht hvm hw hB hz1 hk1 hS => ?_)
    have hP : va_P D vwCl _ H := ro_keep hP hk1
    refine lv_iadd hx hb dB_36_1_63.2.2.1.2 ?_
    refine lv_topi (fun y_10 ey_10 => ?_)
    refine ct_S hP hD hS hA [ob7_0_ xh xc u1 u2 u3 u4 u5 u6 v7_4 v8_5, ob0_0_ xc xn xk clo cro c4 c5 c6 c7 c8, ob3_0_ xn vp vn n1 n2 n3 n4 n5, aq_ cy 6 clo 12 (gf_ rl), ai_ cy (rl 0) 12 (Ml 0), ai_ cy (rl 1) 12 (Ml 1), ai_ cy (rl 2) 12 (Ml 2), ai_ cy (rl 3) 12 (Ml 3), ai_ cy (rl 4) 12 (Ml 4), ai_ cy (rl 5) 12 (Ml 5), ai_ cy (rl 6) 12 (Ml 6), ai_ cy (rl 7) 12 (Ml 7), ai_ cy (rl 8) 12 (Ml 8), ai_ cy (rl 9) 12 (Ml 9), ai_ cy (rl 10) 12 (Ml 10), ai_ cy (rl 11) 12 (Ml 11)] [0, 1, 2, 3, 4, 5, 6, 7, 8, 9, 10, 11, 12, 13, 14, 15] (by decide +kernel) rfl (fun hPc hDw hFc hC_ => ?_)
    refine va_callv (va_runV (As := [.int y_2, .int y_8, .int y_10]) (rest := []) ⟨hx, hb, hml, hown, hts⟩ (c_X7_chooseForDense_8 l D cy H.size xh u1 u2 u3 u4 u5 u6 v7_4 v8_5 xc xk clo cro c4 c5 c6 c7 c8 xn n1 n2 n3 n4 n5 vp vn rl Ml y_2 y_8 y_10 (by first | with_reducible assumption | omega | assumption) (by first | with_reducible assumption | omega | assumption)) (cwV 3 hts gX7_chooseForDense_X7_chooseForDense rfl rfl rfl ⟨rfl, hd_X7_chooseForDense⟩ ⟨Nat.le_of_ble_eq_true rfl, Nat.le_of_ble_eq_true rfl⟩) ⟨bl_g, va_recvX hK.1 hP (ci := 7) (q0 := 0) rfl rfl, fun U hU hW => ⟨rfl, by rw [hU], by rw [hU]; exact hPc, ⟨kk_mv hW hK, arrOfT_moved hW.alike hG⟩, hDw⟩⟩ rfl rfl hl.1 rfl (lv_room (Nat.le_of_ble_eq_true rfl)) dB_36_1_63.2.2.2.1 ⟨Nat.le_of_ble_eq_true rfl, Nat.le_of_ble_eq_true rfl⟩) hS (fun q _ h => hFc q h) hFc (fun u t H locs ht hvm hw hB hz1 hk1 hS => ?_)
    obtain ⟨v7_12, v8_13, hP1, hD1⟩ := hB
    rw [ht] at hP1
    obtain ⟨hP, hD⟩ := va_join (wr := []) (w1 := [ob7_0_ xh xc u1 u2 u3 u4 u5 u6 v7_12 v8_13, ob0_0_ xc xn xk clo cro c4 c5 c6 c7 c8, ob3_0_ xn vp vn n1 n2 n3 n4 n5, aq_ cy 6 clo 12 (gf_ rl), ai_ cy (rl 0) 12 (Ml 0), ai_ cy (rl 1) 12 (Ml 1), ai_ cy (rl 2) 12 (Ml 2), ai_ cy (rl 3) 12 (Ml 3), ai_ cy (rl 4) 12 (Ml 4), ai_ cy (rl 5) 12 (Ml 5), ai_ cy (rl 6) 12 (Ml 6), ai_ cy (rl 7) 12 (Ml 7), ai_ cy (rl 8) 12 (Ml 8), ai_ cy (rl 9) 12 (Ml 9), ai_ cy (rl 10) 12 (Ml 10), ai_ cy (rl 11) 12 (Ml 11)]) hP hD [0, 1, 2, 3, 4, 5, 6, 7, 8, 9, 10, 11, 12, 13, 14, 15] [] hC_ rfl (by decide) (by decide) hk1 hFc hP1 hD1
    refine pd_K [ob7_0_ xh xc u1 u2 u3 u4 u5 u6 v7_12 v8_13, ob0_0_ xc xn xk clo cro c4 c5 c6 c7 c8, ob3_0_ xn vp vn n1 n2 n3 n4 n5, aq_ cy 6 clo 12 (gf_ rl), ai_ cy (rl 0) 12 (Ml 0), ai_ cy (rl 1) 12 (Ml 1), ai_ cy (rl 2) 12 (Ml 2), ai_ cy (rl 3) 12 (Ml 3), ai_ cy (rl 4) 12 (Ml 4), ai_ cy (rl 5) 12 (Ml 5), ai_ cy (rl 6) 12 (Ml 6), ai_ cy (rl 7) 12 (Ml 7), ai_ cy (rl 8) 12 (Ml 8), ai_ cy (rl 9) 12 (Ml 9), ai_ cy (rl 10) 12 (Ml 10), ai_ cy (rl 11) 12 (Ml 11)] hP hD (fun hP hD => ?_)
    rw [hQ]
    exact W.vret hx hb hr (fun t ht hW => ⟨⟨(), rfl, trivial, v7_12, v8_13, by rw [ht]; exact hP, hD⟩, hS.F ht⟩) hS.2.2 dB_36_1_63.2.2.2.2
  · have t_1 : ¬ (0 : Int32).toInt ≤ a1.toInt := fun h => c_1 (Int32.le_iff_toInt_le.mpr h)
    refine lv_aload_n hx hb dB_36_1_62.1.1.2.1 rfl (lv_at hl 0 rfl) ?_
    refine lv_iload_n hx hb dB_36_1_62.1.1.2.2 rfl (lv_at hl 2 rfl) ?_
    refine lv_iload_n hx hb dB_36_1_62.1.2.1.1 rfl (lv_at hl 3 rfl) ?_
    refine ct_S hP hD hS hA [ob7_0_ xh xc u1 u2 u3 u4 u5 u6 u7 u8] [0] (by decide) rfl (fun hPc hDw hFc hC_ => ?_)
    refine va_callv (va_runV (As := [.int a2, .int a3]) (rest := []) ⟨hx, hb, hml, hown, hts⟩ (c_X7_compareDense l D cy s.heap.size xh u1 u2 u3 u4 u5 u6 u7 u8 xc a2 a3) (cwV 2 hts gX7_chooseForDense_X7_compareDense rfl rfl rfl ⟨rfl, hd_X7_compareDense⟩ ⟨Nat.le_of_ble_eq_true rfl, Nat.le_of_ble_eq_true rfl⟩) ⟨bl_, va_recvX hK.1 hP (ci := 7) (q0 := 0) rfl rfl, fun U hU hW => ⟨rfl, by rw [hU], by rw [hU]; exact hPc, kk_mv hW hK, hDw⟩⟩ rfl rfl hl.1 rfl (lv_room (Nat.le_of_ble_eq_true rfl)) dB_36_1_62.1.2.1.2 ⟨Nat.le_of_ble_eq_true rfl, Nat.le_of_ble_eq_true rfl⟩) hS (fun q _ h => hFc q h) hFc (fun u t H locs ht hvm hw hB hz1 hk1 hS => ?_)
    obtain ⟨v7_15, v8_16, hP1, hD1⟩ := hB
    rw [ht] at hP1
    obtain ⟨hP, hD⟩ := va_join (wr := [ob0_0_ xc xn xk clo cro c4 c5 c6 c7 c8, ob3_0_ xn vp vn n1 n2 n3 n4 n5, aq_ cy 6 clo 12 (gf_ rl), ai_ cy (rl 0) 12 (Ml 0), ai_ cy (rl 1) 12 (Ml 1), ai_ cy (rl 2) 12 (Ml 2), ai_ cy (rl 3) 12 (Ml 3), ai_ cy (rl 4) 12 (Ml 4), ai_ cy (rl 5) 12 (Ml 5), ai_ cy (rl 6) 12 (Ml 6), ai_ cy (rl 7) 12 (Ml 7), ai_ cy (rl 8) 12 (Ml 8), ai_ cy (rl 9) 12 (Ml 9), ai_ cy (rl 10) 12 (Ml 10), ai_ cy (rl 11) 12 (Ml 11)]) (w1 := [ob7_0_ xh xc u1 u2 u3 u4 u5 u6 v7_15 v8_16]) hP hD [0] [1, 2, 3, 4, 5, 6, 7, 8, 9, 10, 11, 12, 13, 14, 15] hC_ rfl (by decide +kernel) (by decide +kernel) hk1 hFc hP1 hD1
    refine pd_S hP hD [ob7_0_ xh xc u1 u2 u3 u4 u5 u6 v7_15 v8_16, ob0_0_ xc xn xk clo cro c4 c5 c6 c7 c8, ob3_0_ xn vp vn n1 n2 n3 n4 n5, aq_ cy 6 clo 12 (gf_ rl), ai_ cy (rl 0) 12 (Ml 0), ai_ cy (rl 1) 12 (Ml 1), ai_ cy (rl 2) 12 (Ml 2), ai_ cy (rl 3) 12 (Ml 3), ai_ cy (rl 4) 12 (Ml 4), ai_ cy (rl 5) 12 (Ml 5), ai_ cy (rl 6) 12 (Ml 6), ai_ cy (rl 7) 12 (Ml 7), ai_ cy (rl 8) 12 (Ml 8), ai_ cy (rl 9) 12 (Ml 9), ai_ cy (rl 10) 12 (Ml 10), ai_ cy (rl 11) 12 (Ml 11)] [15, 0, 1, 2, 3, 4, 5, 6, 7, 8, 9, 10, 11, 12, 13, 14] (by decide +kernel) rfl (fun hP hD => ?_)
    rw [hQ]
    exact W.vret hx hb hr (fun t ht hW => ⟨⟨(), rfl, trivial, v7_15, v8_16, by rw [ht]; exact hP, hD⟩, hS.F ht⟩) hS.2.2 dB_36_1_62.1.2.2.1

set_option maxHeartbeats 4000000 in
set_option maxRecDepth 100000 in
theorem c_X7_chooseForDense_10 (l : Launch) (D : va_G) (cy : Nat → ClassId) (sz : Nat) (xh : Nat) (u1 : Int32) (u2 : Int32) (u3 : Int32) (u4 : Int32) (u5 : Int32) (u6 : Int32) (u7 : Int32) (u8 : Int32) (xc : Nat) (xk : Nat) (clo : Nat) (cro : Nat) (c4 : Nat) (c5 : Nat) (c6 : Nat) (c7 : Nat) (c8 : Nat) (xn : Nat) (n1 : Nat) (n2 : Nat) (n3 : Nat) (n4 : Nat) (n5 : Nat) (vp : Int32) (vn : Int32) (rl : Nat → Nat) (Ml : Nat → Nat → Int32) (a1 : Int32) (a2 : Int32) (a3 : Int32) (hvp : 0 ≤ vp.toInt ∧ vp.toInt ≤ 12) (q1 : -1 ≤ a1.toInt ∧ a1.toInt < 10) : Met l yX7_chooseForDense wsX7_chooseForDense ({ frames := 12, cells := 0, slots := 0, locals := 276 }) (va_Pc [.ref xh, .int a1, .int a2, .int a3] (fun U => U.heap.size = sz ∧ va_P D vwCl [ob7_0_ xh xc u1 u2 u3 u4 u5 u6 u7 u8, ob0_0_ xc xn xk clo cro c4 c5 c6 c7 c8, ob3_0_ xn vp vn n1 n2 n3 n4 n5, aq_ cy 6 clo 12 (gf_ rl), ai_ cy (rl 0) 12 (Ml 0), ai_ cy (rl 1) 12 (Ml 1), ai_ cy (rl 2) 12 (Ml 2), ai_ cy (rl 3) 12 (Ml 3), ai_ cy (rl 4) 12 (Ml 4), ai_ cy (rl 5) 12 (Ml 5), ai_ cy (rl 6) 12 (Ml 6), ai_ cy (rl 7) 12 (Ml 7), ai_ cy (rl 8) 12 (Ml 8), ai_ cy (rl 9) 12 (Ml 9), ai_ cy (rl 10) 12 (Ml 10), ai_ cy (rl 11) 12 (Ml 11)] U.heap ∧ kg_ D cy U ∧ va_D (fun _ => True) [ob7_0_ xh xc u1 u2 u3 u4 u5 u6 u7 u8, ob0_0_ xc xn xk clo cro c4 c5 c6 c7 c8, ob3_0_ xn vp vn n1 n2 n3 n4 n5, aq_ cy 6 clo 12 (gf_ rl), ai_ cy (rl 0) 12 (Ml 0), ai_ cy (rl 1) 12 (Ml 1), ai_ cy (rl 2) 12 (Ml 2), ai_ cy (rl 3) 12 (Ml 3), ai_ cy (rl 4) 12 (Ml 4), ai_ cy (rl 5) 12 (Ml 5), ai_ cy (rl 6) 12 (Ml 6), ai_ cy (rl 7) 12 (Ml 7), ai_ cy (rl 8) 12 (Ml 8), ai_ cy (rl 9) 12 (Ml 9), ai_ cy (rl 10) 12 (Ml 10), ai_ cy (rl 11) 12 (Ml 11)])) (va_Qv (fun (_ : Unit) => True) (fun (_ : Unit) (t : State) => ∃ (v7 : Int32), ∃ (v8 : Int32), va_P D vwCl [ob7_0_ xh xc u1 u2 u3 u4 u5 u6 v7 v8, ob0_0_ xc xn xk clo cro c4 c5 c6 c7 c8, ob3_0_ xn vp vn n1 n2 n3 n4 n5, aq_ cy 6 clo 12 (gf_ rl), ai_ cy (rl 0) 12 (Ml 0), ai_ cy (rl 1) 12 (Ml 1), ai_ cy (rl 2) 12 (Ml 2), ai_ cy (rl 3) 12 (Ml 3), ai_ cy (rl 4) 12 (Ml 4), ai_ cy (rl 5) 12 (Ml 5), ai_ cy (rl 6) 12 (Ml 6), ai_ cy (rl 7) 12 (Ml 7), ai_ cy (rl 8) 12 (Ml 8), ai_ cy (rl 9) 12 (Ml 9), ai_ cy (rl 10) 12 (Ml 10), ai_ cy (rl 11) 12 (Ml 11)] t.heap ∧ va_D (va_A [ob7_0_ xh xc u1 u2 u3 u4 u5 u6 u7 u8, ob0_0_ xc xn xk clo cro c4 c5 c6 c7 c8, ob3_0_ xn vp vn n1 n2 n3 n4 n5, aq_ cy 6 clo 12 (gf_ rl), ai_ cy (rl 0) 12 (Ml 0), ai_ cy (rl 1) 12 (Ml 1), ai_ cy (rl 2) 12 (Ml 2), ai_ cy (rl 3) 12 (Ml 3), ai_ cy (rl 4) 12 (Ml 4), ai_ cy (rl 5) 12 (Ml 5), ai_ cy (rl 6) 12 (Ml 6), ai_ cy (rl 7) 12 (Ml 7), ai_ cy (rl 8) 12 (Ml 8), ai_ cy (rl 9) 12 (Ml 9), ai_ cy (rl 10) 12 (Ml 10), ai_ cy (rl 11) 12 (Ml 11)] sz) [ob7_0_ xh xc u1 u2 u3 u4 u5 u6 v7 v8, ob0_0_ xc xn xk clo cro c4 c5 c6 c7 c8, ob3_0_ xn vp vn n1 n2 n3 n4 n5, aq_ cy 6 clo 12 (gf_ rl), ai_ cy (rl 0) 12 (Ml 0), ai_ cy (rl 1) 12 (Ml 1), ai_ cy (rl 2) 12 (Ml 2), ai_ cy (rl 3) 12 (Ml 3), ai_ cy (rl 4) 12 (Ml 4), ai_ cy (rl 5) 12 (Ml 5), ai_ cy (rl 6) 12 (Ml 6), ai_ cy (rl 7) 12 (Ml 7), ai_ cy (rl 8) 12 (Ml 8), ai_ cy (rl 9) 12 (Ml 9), ai_ cy (rl 10) 12 (Ml 10), ai_ cy (rl 11) 12 (Ml 11)]) (va_A [ob7_0_ xh xc u1 u2 u3 u4 u5 u6 u7 u8, ob0_0_ xc xn xk clo cro c4 c5 c6 c7 c8, ob3_0_ xn vp vn n1 n2 n3 n4 n5, aq_ cy 6 clo 12 (gf_ rl), ai_ cy (rl 0) 12 (Ml 0), ai_ cy (rl 1) 12 (Ml 1), ai_ cy (rl 2) 12 (Ml 2), ai_ cy (rl 3) 12 (Ml 3), ai_ cy (rl 4) 12 (Ml 4), ai_ cy (rl 5) 12 (Ml 5), ai_ cy (rl 6) 12 (Ml 6), ai_ cy (rl 7) 12 (Ml 7), ai_ cy (rl 8) 12 (Ml 8), ai_ cy (rl 9) 12 (Ml 9), ai_ cy (rl 10) 12 (Ml 10), ai_ cy (rl 11) 12 (Ml 11)] sz)) 0 0 (va_A [ob7_0_ xh xc u1 u2 u3 u4 u5 u6 u7 u8, ob0_0_ xc xn xk clo cro c4 c5 c6 c7 c8, ob3_0_ xn vp vn n1 n2 n3 n4 n5, aq_ cy 6 clo 12 (gf_ rl), ai_ cy (rl 0) 12 (Ml 0), ai_ cy (rl 1) 12 (Ml 1), ai_ cy (rl 2) 12 (Ml 2), ai_ cy (rl 3) 12 (Ml 3), ai_ cy (rl 4) 12 (Ml 4), ai_ cy (rl 5) 12 (Ml 5), ai_ cy (rl 6) 12 (Ml 6), ai_ cy (rl 7) 12 (Ml 7), ai_ cy (rl 8) 12 (Ml 8), ai_ cy (rl 9) 12 (Ml 9), ai_ cy (rl 10) 12 (Ml 10), ai_ cy (rl 11) 12 (Ml 11)] sz) := by
  refine ofQ (cc := cX7_chooseForDense) (maxL := 4) (ret := none) (by decide) rfl ?_
  intro p e s m args below meth c s₁ Q hQ B hml hv
  obtain ⟨rfl, hsz, hP, hK, hD0⟩ := hv
  have hG := hK.2
  have hK := hK.1
  have hx := B.exec
  have hb := B.bytes
  have hr := B.returns
  have hts := atoms_spec (ws := wsX7_chooseForDense) B.pre
  have hown : s.vm.findClass RX7 = some m.cls := by have h_ := findClass_of_methodNamed B.named; exact h_
  have hlocks := B.notSynchronized
  subst hsz
  have hD := hD0.self (sz := s.heap.size)
  generalize hAe : va_A [ob7_0_ xh xc u1 u2 u3 u4 u5 u6 u7 u8, ob0_0_ xc xn xk clo cro c4 c5 c6 c7 c8, ob3_0_ xn vp vn n1 n2 n3 n4 n5, aq_ cy 6 clo 12 (gf_ rl), ai_ cy (rl 0) 12 (Ml 0), ai_ cy (rl 1) 12 (Ml 1), ai_ cy (rl 2) 12 (Ml 2), ai_ cy (rl 3) 12 (Ml 3), ai_ cy (rl 4) 12 (Ml 4), ai_ cy (rl 5) 12 (Ml 5), ai_ cy (rl 6) 12 (Ml 6), ai_ cy (rl 7) 12 (Ml 7), ai_ cy (rl 8) 12 (Ml 8), ai_ cy (rl 9) 12 (Ml 9), ai_ cy (rl 10) 12 (Ml 10), ai_ cy (rl 11) 12 (Ml 11)] s.heap.size = A at hD hQ
  have hA : ∀ q : Nat, s.heap.size ≤ q → A q := fun q h => by rw [← hAe]; exact Or.inr h
  have hS : va_S A s.heap s.heap [] := va_S.rf
  have hl := lv_entry ([.ref xh, .int a1, .int a2, .int a3]) (n := 4) (Nat.le_of_ble_eq_true rfl)
  rw [lg_entry_eq]
  generalize (lg_sl ([.ref xh, .int a1, .int a2, .int a3]) ++ List.replicate (4 - (lg_sl ([.ref xh, .int a1, .int a2, .int a3])).length) Slot.unset).toArray = ls at hl ⊢
  have hl : lv_has ls 4 [(0, .ref xh), (1, .int a1), (2, .int a2), (3, .int a3)] := hl
  have z0 : (0 : Int32).toInt = 0 := by decide
  have z1 : (1 : Int32).toInt = 1 := by decide
  refine lv_iload_n hx hb dB_36_1_62.1.1.1.1 rfl (lv_at hl 1 rfl) ?_
  refine lv_if_ge (tgt := 11) hx hb dB_36_1_62.1.1.1.2 (by decide) (fun c_1 => ?_) (fun c_1 => ?_)
  · have t_1 : (0 : Int32).toInt ≤ a1.toInt := Int32.le_iff_toInt_le.mp c_1
    refine lv_aload_n hx hb dB_36_1_62.1.2.2.2 rfl (lv_at hl 0 rfl) ?_
    refine lv_iload_n hx hb dB_36_1_62.2.1.1.1 rfl (lv_at hl 1 rfl) ?_
    refine lv_iconst (v := 1) hx hb dB_36_1_62.2.1.1.2 (by decide) ?_
    refine lv_isub hx hb dB_36_1_62.2.1.2.1 ?_
    refine lv_topi (fun y_2 ey_2 => ?_)
    have ty_2 : y_2.toInt = a1.toInt - (1 : Int32).toInt := by rw [ey_2]; exact subI (by omega) (by omega)
    refine lv_iload_n hx hb dB_36_1_62.2.1.2.2 rfl (lv_at hl 2 rfl) ?_
    refine lv_iload_n hx hb dB_36_1_62.2.2.1.1 rfl (lv_at hl 3 rfl) ?_
    refine ct_S hP hD hS hA [ob7_0_ xh xc u1 u2 u3 u4 u5 u6 u7 u8, ob0_0_ xc xn xk clo cro c4 c5 c6 c7 c8, ob3_0_ xn vp vn n1 n2 n3 n4 n5, aq_ cy 6 clo 12 (gf_ rl), ai_ cy (rl 0) 12 (Ml 0), ai_ cy (rl 1) 12 (Ml 1), ai_ cy (rl 2) 12 (Ml 2), ai_ cy (rl 3) 12 (Ml 3), ai_ cy (rl 4) 12 (Ml 4), ai_ cy (rl 5) 12 (Ml 5), ai_ cy (rl 6) 12 (Ml 6), ai_ cy (rl 7) 12 (Ml 7), ai_ cy (rl 8) 12 (Ml 8), ai_ cy (rl 9) 12 (Ml 9), ai_ cy (rl 10) 12 (Ml 10), ai_ cy (rl 11) 12 (Ml 11)] [0, 1, 2, 3, 4, 5, 6, 7, 8, 9, 10, 11, 12, 13, 14, 15] (by decide +kernel) rfl (fun hPc hDw hFc hC_ => ?_)
    refine va_callv (va_runV (As := [.int y_2, .int a2, .int a3]) (rest := []) ⟨hx, hb, hml, hown, hts⟩ (c_X7_chooseForDense_9 l D cy s.heap.size xh u1 u2 u3 u4 u5 u6 u7 u8 xc xk clo cro c4 c5 c6 c7 c8 xn n1 n2 n3 n4 n5 vp vn rl Ml y_2 a2 a3 (by first | with_reducible assumption | omega | assumption) (by first | with_reducible assumption | omega | assumption)) (cwV 3 hts gX7_chooseForDense_X7_chooseForDense rfl rfl rfl ⟨rfl, hd_X7_chooseForDense⟩ ⟨Nat.le_of_ble_eq_true rfl, Nat.le_of_ble_eq_true rfl⟩) ⟨bl_g, va_recvX hK.1 hP (ci := 7) (q0 := 0) rfl rfl, fun U hU hW => ⟨rfl, by rw [hU], by rw [hU]; exact hPc, ⟨kk_mv hW hK, arrOfT_moved hW.alike hG⟩, hDw⟩⟩ rfl rfl hl.1 rfl (lv_room (Nat.le_of_ble_eq_true rfl)) dB_36_1_62.2.2.1.2 ⟨Nat.le_of_ble_eq_true rfl, Nat.le_of_ble_eq_true rfl⟩) hS (fun q _ h => hFc q h) hFc (fun u t H locs ht hvm hw hB hz1 hk1 hS => ?_)
    obtain ⟨v7_4, v8_5, hP1, hD1⟩ := hB
    rw [ht] at hP1
    obtain ⟨hP, hD⟩ := va_join (wr := []) (w1 := [ob7_0_ xh xc u1 u2 u3 u4 u5 u6 v7_4 v8_5, ob0_0_ xc xn xk clo cro c4 c5 c6 c7 c8, ob3_0_ xn vp vn n1 n2 n3 n4 n5, aq_ cy 6 clo 12 (gf_ rl), ai_ cy (rl 0) 12 (Ml 0), ai_ cy (rl 1) 12 (Ml 1), ai_ cy (rl 2) 12 (Ml 2), ai_ cy (rl 3) 12 (Ml 3), ai_ cy (rl 4) 12 (Ml 4), ai_ cy (rl 5) 12 (Ml 5), ai_ cy (rl 6) 12 (Ml 6), ai_ cy (rl 7) 12 (Ml 7), ai_ cy (rl 8) 12 (Ml 8), ai_ cy (rl 9) 12 (Ml 9), ai_ cy (rl 10) 12 (Ml 10), ai_ cy (rl 11) 12 (Ml 11)]) hP hD [0, 1, 2, 3, 4, 5, 6, 7, 8, 9, 10, 11, 12, 13, 14, 15] [] hC_ rfl (by decide) (by decide) hk1 hFc hP1 hD1
    refine pd_K [ob7_0_ xh xc u1 u2 u3 u4 u5 u6 v7_4 v8_5, ob0_0_ xc xn xk clo cro c4 c5 c6 c7 c8, ob3_0_ xn vp vn n1 n2 n3 n4 n5, aq_ cy 6 clo 12 (gf_ rl), ai_ cy (rl 0) 12 (Ml 0), ai_ cy (rl 1) 12 (Ml 1), ai_ cy (rl 2) 12 (Ml 2), ai_ cy (rl 3) 12 (Ml 3), ai_ cy (rl 4) 12 (Ml 4), ai_ cy (rl 5) 12 (Ml 5), ai_ cy (rl 6) 12 (Ml 6), ai_ cy (rl 7) 12 (Ml 7), ai_ cy (rl 8) 12 (Ml 8), ai_ cy (rl 9) 12 (Ml 9), ai_ cy (rl 10) 12 (Ml 10), ai_ cy (rl 11) 12 (Ml 11)] hP hD (fun hP hD => ?_)
    refine lv_aload_n hx hb dB_36_1_62.2.2.2.1 rfl (lv_at hl 0 rfl) ?_
    refine lv_iload_n hx hb dB_36_1_62.2.2.2.2 rfl (lv_at hl 1 rfl) ?_
    refine lv_iconst (v := 1) hx hb dB_36_1_63.1.1.1 (by decide) ?_
    refine lv_isub hx hb dB_36_1_63.1.1.2.1 ?_
    refine lv_topi (fun y_6 ey_6 => ?_)
    have e_ := (ey_6.trans ey_2.symm).symm
    subst e_
    refine lv_iload_n hx hb dB_36_1_63.1.1.2.2 rfl (lv_at hl 2 rfl) ?_
    refine lv_iconst (v := 1) hx hb dB_36_1_63.1.2.1.1 (by decide) ?_
    refine lv_iload_n hx hb dB_36_1_63.1.2.1.2 rfl (lv_at hl 1 rfl) ?_
    refine lv_ishl hx hb dB_36_1_63.1.2.2.1 ?_
    refine lv_topi (fun y_7 ey_7 => ?_)
    refine lv_ior hx hb dB_36_1_63.1.2.2.2 ?_
    refine lv_topi (fun y_8 ey_8 => ?_)
    refine lv_iload_n hx hb dB_36_1_63.2.1.1.1 rfl (lv_at hl 3 rfl) ?_
    refine lv_aload_n hx hb dB_36_1_63.2.1.1.2 rfl (lv_at hl 0 rfl) ?_
    refine lv_iload_n hx hb dB_36_1_63.2.1.2.1 rfl (lv_at hl 1 rfl) ?_
    refine lv_iload_n hx hb dB_36_1_63.2.1.2.2 rfl (lv_at hl 2 rfl) ?_
    refine ct_R hP hD [ob7_0_ xh xc u1 u2 u3 u4 u5 u6 v7_4 v8_5, ob0_0_ xc xn xk clo cro c4 c5 c6 c7 c8, ob3_0_ xn vp vn n1 n2 n3 n4 n5, aq_ cy 6 clo 12 (gf_ rl), ai_ cy (rl 0) 12 (Ml 0), ai_ cy (rl 1) 12 (Ml 1), ai_ cy (rl 2) 12 (Ml 2), ai_ cy (rl 3) 12 (Ml 3), ai_ cy (rl 4) 12 (Ml 4), ai_ cy (rl 5) 12 (Ml 5), ai_ cy (rl 6) 12 (Ml 6), ai_ cy (rl 7) 12 (Ml 7), ai_ cy (rl 8) 12 (Ml 8), ai_ cy (rl 9) 12 (Ml 9), ai_ cy (rl 10) 12 (Ml 10), ai_ cy (rl 11) 12 (Ml 11)] [0, 1, 2, 3, 4, 5, 6, 7, 8, 9, 10, 11, 12, 13, 14, 15] (by decide +kernel) rfl (fun hPc hDw => ?_)
    have hFc := va_free (wc := []) hD hS hA [] rfl
    refine va_calli (va_runV (As := [.int a1, .int a2]) (rest := [.int a3, .int y_8, .int y_2, .ref xh]) ⟨hx, hb, hml, hown, hts⟩ (c_X7_letIn l D cy H.size xh u1 u2 u3 u4 u5 u6 v7_4 v8_5 xc xk clo cro c4 c5 c6 c7 c8 xn n1 n2 n3 n4 n5 vp vn rl Ml a1 a2 (by first | with_reducible assumption | omega | assumption) (by first | with_reducible assumption | omega | assumption)) (cwV 2 hts gX7_chooseForDense_X7_letIn rfl rfl rfl ⟨rfl, hd_X7_letIn⟩ ⟨Nat.le_of_ble_eq_true rfl, Nat.le_of_ble_eq_true rfl⟩) ⟨bl_g, va_recvX hK.1 hP (ci := 7) (q0 := 0) rfl rfl, fun U hU hW => ⟨rfl, by rw [hU], by rw [hU]; exact hPc, ⟨kk_mv hW hK, arrOfT_moved hW.alike hG⟩, hDw⟩⟩ rfl rfl hl.1 rfl (lv_room (Nat.le_of_ble_eq_true rfl)) dB_36_1_63.2.2.1.1 ⟨Nat.le_of_ble_eq_true rfl, Nat.le_of_ble_eq_true rfl⟩) hS (fun q _ h => hFc q h) hFc (fun r_9 u t H locs ht hvm hw hB hz1 hk1 hS => ?_)
    have hP : va_P D vwCl _ H := ro_keep hP hk1
    refine lv_iadd hx hb dB_36_1_63.2.2.1.2 ?_
    refine lv_topi (fun y_10 ey_10 => ?_)
    refine ct_S hP hD hS hA [ob7_0_ xh xc u1 u2 u3 u4 u5 u6 v7_4 v8_5, ob0_0_ xc xn xk clo cro c4 c5 c6 c7 c8, ob3_0_ xn vp vn n1 n2 n3 n4 n5, aq_ cy 6 clo 12 (gf_ rl), ai_ cy (rl 0) 12 (Ml 0), ai_ cy (rl 1) 12 (Ml 1), ai_ cy (rl 2) 12 (Ml 2), ai_ cy (rl 3) 12 (Ml 3), ai_ cy (rl 4) 12 (Ml 4), ai_ cy (rl 5) 12 (Ml 5), ai_ cy (rl 6) 12 (Ml 6), ai_ cy (rl 7) 12 (Ml 7), ai_ cy (rl 8) 12 (Ml 8), ai_ cy (rl 9) 12 (Ml 9), ai_ cy (rl 10) 12 (Ml 10), ai_ cy (rl 11) 12 (Ml 11)] [0, 1, 2, 3, 4, 5, 6, 7, 8, 9, 10, 11, 12, 13, 14, 15] (by decide +kernel) rfl (fun hPc hDw hFc hC_ => ?_)
    refine va_callv (va_runV (As := [.int y_2, .int y_8, .int y_10]) (rest := []) ⟨hx, hb, hml, hown, hts⟩ (c_X7_chooseForDense_9 l D cy H.size xh u1 u2 u3 u4 u5 u6 v7_4 v8_5 xc xk clo cro c4 c5 c6 c7 c8 xn n1 n2 n3 n4 n5 vp vn rl Ml y_2 y_8 y_10 (by first | with_reducible assumption | omega | assumption) (by first | with_reducible assumption | omega | assumption)) (cwV 3 hts gX7_chooseForDense_X7_chooseForDense rfl rfl rfl ⟨rfl, hd_X7_chooseForDense⟩ ⟨Nat.le_of_ble_eq_true rfl, Nat.le_of_ble_eq_true rfl⟩) ⟨bl_g, va_recvX hK.1 hP (ci := 7) (q0 := 0) rfl rfl, fun U hU hW => ⟨rfl, by rw [hU], by rw [hU]; exact hPc, ⟨kk_mv hW hK, arrOfT_moved hW.alike hG⟩, hDw⟩⟩ rfl rfl hl.1 rfl (lv_room (Nat.le_of_ble_eq_true rfl)) dB_36_1_63.2.2.2.1 ⟨Nat.le_of_ble_eq_true rfl, Nat.le_of_ble_eq_true rfl⟩) hS (fun q _ h => hFc q h) hFc (fun u t H locs ht hvm hw hB hz1 hk1 hS => ?_)
    obtain ⟨v7_12, v8_13, hP1, hD1⟩ := hB
    rw [ht] at hP1
    obtain ⟨hP, hD⟩ := va_join (wr := []) (w1 := [ob7_0_ xh xc u1 u2 u3 u4 u5 u6 v7_12 v8_13, ob0_0_ xc xn xk clo cro c4 c5 c6 c7 c8, ob3_0_ xn vp vn n1 n2 n3 n4 n5, aq_ cy 6 clo 12 (gf_ rl), ai_ cy (rl 0) 12 (Ml 0), ai_ cy (rl 1) 12 (Ml 1), ai_ cy (rl 2) 12 (Ml 2), ai_ cy (rl 3) 12 (Ml 3), ai_ cy (rl 4) 12 (Ml 4), ai_ cy (rl 5) 12 (Ml 5), ai_ cy (rl 6) 12 (Ml 6), ai_ cy (rl 7) 12 (Ml 7), ai_ cy (rl 8) 12 (Ml 8), ai_ cy (rl 9) 12 (Ml 9), ai_ cy (rl 10) 12 (Ml 10), ai_ cy (rl 11) 12 (Ml 11)]) hP hD [0, 1, 2, 3, 4, 5, 6, 7, 8, 9, 10, 11, 12, 13, 14, 15] [] hC_ rfl (by decide) (by decide) hk1 hFc hP1 hD1
    refine pd_K [ob7_0_ xh xc u1 u2 u3 u4 u5 u6 v7_12 v8_13, ob0_0_ xc xn xk clo cro c4 c5 c6 c7 c8, ob3_0_ xn vp vn n1 n2 n3 n4 n5, aq_ cy 6 clo 12 (gf_ rl), ai_ cy (rl 0) 12 (Ml 0), ai_ cy (rl 1) 12 (Ml 1), ai_ cy (rl 2) 12 (Ml 2), ai_ cy (rl 3) 12 (Ml 3), ai_ cy (rl 4) 12 (Ml 4), ai_ cy (rl 5) 12 (Ml 5), ai_ cy (rl 6) 12 (Ml 6), ai_ cy (rl 7) 12 (Ml 7), ai_ cy (rl 8) 12 (Ml 8), ai_ cy (rl 9) 12 (Ml 9), ai_ cy (rl 10) 12 (Ml 10), ai_ cy (rl 11) 12 (Ml 11)] hP hD (fun hP hD => ?_)
    rw [hQ]
    exact W.vret hx hb hr (fun t ht hW => ⟨⟨(), rfl, trivial, v7_12, v8_13, by rw [ht]; exact hP, hD⟩, hS.F ht⟩) hS.2.2 dB_36_1_63.2.2.2.2
  · have t_1 : ¬ (0 : Int32).toInt ≤ a1.toInt := fun h => c_1 (Int32.le_iff_toInt_le.mpr h)
    refine lv_aload_n hx hb dB_36_1_62.1.1.2.1 rfl (lv_at hl 0 rfl) ?_
    refine lv_iload_n hx hb dB_36_1_62.1.1.2.2 rfl (lv_at hl 2 rfl) ?_
    refine lv_iload_n hx hb dB_36_1_62.1.2.1.1 rfl (lv_at hl 3 rfl) ?_
    refine ct_S hP hD hS hA [ob7_0_ xh xc u1 u2 u3 u4 u5 u6 u7 u8] [0] (by decide) rfl (fun hPc hDw hFc hC_ => ?_)
    refine va_callv (va_runV (As := [.int a2, .int a3]) (rest := []) ⟨hx, hb, hml, hown, hts⟩ (c_X7_compareDense l D cy s.heap.size xh u1 u2 u3 u4 u5 u6 u7 u8 xc a2 a3) (cwV 2 hts gX7_chooseForDense_X7_compareDense rfl rfl rfl ⟨rfl, hd_X7_compareDense⟩ ⟨Nat.le_of_ble_eq_true rfl, Nat.le_of_ble_eq_true rfl⟩) ⟨bl_, va_recvX hK.1 hP (ci := 7) (q0 := 0) rfl rfl, fun U hU hW => ⟨rfl, by rw [hU], by rw [hU]; exact hPc, kk_mv hW hK, hDw⟩⟩ rfl rfl hl.1 rfl (lv_room (Nat.le_of_ble_eq_true rfl)) dB_36_1_62.1.2.1.2 ⟨Nat.le_of_ble_eq_true rfl, Nat.le_of_ble_eq_true rfl⟩) hS (fun q _ h => hFc q h) hFc (fun u t H locs ht hvm hw hB hz1 hk1 hS => ?_)
    obtain ⟨v7_15, v8_16, hP1, hD1⟩ := hB
    rw [ht] at hP1
    obtain ⟨hP, hD⟩ := va_join (wr := [ob0_0_ xc xn xk clo cro c4 c5 c6 c7 c8, ob3_0_ xn vp vn n1 n2 n3 n4 n5, aq_ cy 6 clo 12 (gf_ rl), ai_ cy (rl 0) 12 (Ml 0), ai_ cy (rl 1) 12 (Ml 1), ai_ cy (rl 2) 12 (Ml 2), ai_ cy (rl 3) 12 (Ml 3), ai_ cy (rl 4) 12 (Ml 4), ai_ cy (rl 5) 12 (Ml 5), ai_ cy (rl 6) 12 (Ml 6), ai_ cy (rl 7) 12 (Ml 7), ai_ cy (rl 8) 12 (Ml 8), ai_ cy (rl 9) 12 (Ml 9), ai_ cy (rl 10) 12 (Ml 10), ai_ cy (rl 11) 12 (Ml 11)]) (w1 := [ob7_0_ xh xc u1 u2 u3 u4 u5 u6 v7_15 v8_16]) hP hD [0] [1, 2, 3, 4, 5, 6, 7, 8, 9, 10, 11, 12, 13, 14, 15] hC_ rfl (by decide +kernel) (by decide +kernel) hk1 hFc hP1 hD1
    refine pd_S hP hD [ob7_0_ xh xc u1 u2 u3 u4 u5 u6 v7_15 v8_16, ob0_0_ xc xn xk clo cro c4 c5 c6 c7 c8, ob3_0_ xn vp vn n1 n2 n3 n4 n5, aq_ cy 6 clo 12 (gf_ rl), ai_ cy (rl 0) 12 (Ml 0), ai_ cy (rl 1) 12 (Ml 1), ai_ cy (rl 2) 12 (Ml 2), ai_ cy (rl 3) 12 (Ml 3), ai_ cy (rl 4) 12 (Ml 4), ai_ cy (rl 5) 12 (Ml 5), ai_ cy (rl 6) 12 (Ml 6), ai_ cy (rl 7) 12 (Ml 7), ai_ cy (rl 8) 12 (Ml 8), ai_ cy (rl 9) 12 (Ml 9), ai_ cy (rl 10) 12 (Ml 10), ai_ cy (rl 11) 12 (Ml 11)] [15, 0, 1, 2, 3, 4, 5, 6, 7, 8, 9, 10, 11, 12, 13, 14] (by decide +kernel) rfl (fun hP hD => ?_)
    rw [hQ]
    exact W.vret hx hb hr (fun t ht hW => ⟨⟨(), rfl, trivial, v7_15, v8_16, by rw [ht]; exact hP, hD⟩, hS.F ht⟩) hS.2.2 dB_36_1_62.1.2.2.1

set_option maxHeartbeats 4000000 in
set_option maxRecDepth 100000 in
theorem c_X7_chooseForDense_11 (l : Launch) (D : va_G) (cy : Nat → ClassId) (sz : Nat) (xh : Nat) (u1 : Int32) (u2 : Int32) (u3 : Int32) (u4 : Int32) (u5 : Int32) (u6 : Int32) (u7 : Int32) (u8 : Int32) (xc : Nat) (xk : Nat) (clo : Nat) (cro : Nat) (c4 : Nat) (c5 : Nat) (c6 : Nat) (c7 : Nat) (c8 : Nat) (xn : Nat) (n1 : Nat) (n2 : Nat) (n3 : Nat) (n4 : Nat) (n5 : Nat) (vp : Int32) (vn : Int32) (rl : Nat → Nat) (Ml : Nat → Nat → Int32) (a1 : Int32) (a2 : Int32) (a3 : Int32) (hvp : 0 ≤ vp.toInt ∧ vp.toInt ≤ 12) (q1 : -1 ≤ a1.toInt ∧ a1.toInt < 11) : Met l yX7_chooseForDense wsX7_chooseForDense ({ frames := 13, cells := 0, slots := 0, locals := 299 }) (va_Pc [.ref xh, .int a1, .int a2, .int a3] (fun U => U.heap.size = sz ∧ va_P D vwCl [ob7_0_ xh xc u1 u2 u3 u4 u5 u6 u7 u8, ob0_0_ xc xn xk clo cro c4 c5 c6 c7 c8, ob3_0_ xn vp vn n1 n2 n3 n4 n5, aq_ cy 6 clo 12 (gf_ rl), ai_ cy (rl 0) 12 (Ml 0), ai_ cy (rl 1) 12 (Ml 1), ai_ cy (rl 2) 12 (Ml 2), ai_ cy (rl 3) 12 (Ml 3), ai_ cy (rl 4) 12 (Ml 4), ai_ cy (rl 5) 12 (Ml 5), ai_ cy (rl 6) 12 (Ml 6), ai_ cy (rl 7) 12 (Ml 7), ai_ cy (rl 8) 12 (Ml 8), ai_ cy (rl 9) 12 (Ml 9), ai_ cy (rl 10) 12 (Ml 10), ai_ cy (rl 11) 12 (Ml 11)] U.heap ∧ kg_ D cy U ∧ va_D (fun _ => True) [ob7_0_ xh xc u1 u2 u3 u4 u5 u6 u7 u8, ob0_0_ xc xn xk clo cro c4 c5 c6 c7 c8, ob3_0_ xn vp vn n1 n2 n3 n4 n5, aq_ cy 6 clo 12 (gf_ rl), ai_ cy (rl 0) 12 (Ml 0), ai_ cy (rl 1) 12 (Ml 1), ai_ cy (rl 2) 12 (Ml 2), ai_ cy (rl 3) 12 (Ml 3), ai_ cy (rl 4) 12 (Ml 4), ai_ cy (rl 5) 12 (Ml 5), ai_ cy (rl 6) 12 (Ml 6), ai_ cy (rl 7) 12 (Ml 7), ai_ cy (rl 8) 12 (Ml 8), ai_ cy (rl 9) 12 (Ml 9), ai_ cy (rl 10) 12 (Ml 10), ai_ cy (rl 11) 12 (Ml 11)])) (va_Qv (fun (_ : Unit) => True) (fun (_ : Unit) (t : State) => ∃ (v7 : Int32), ∃ (v8 : Int32), va_P D vwCl [ob7_0_ xh xc u1 u2 u3 u4 u5 u6 v7 v8, ob0_0_ xc xn xk clo cro c4 c5 c6 c7 c8, ob3_0_ xn vp vn n1 n2 n3 n4 n5, aq_ cy 6 clo 12 (gf_ rl), ai_ cy (rl 0) 12 (Ml 0), ai_ cy (rl 1) 12 (Ml 1), ai_ cy (rl 2) 12 (Ml 2), ai_ cy (rl 3) 12 (Ml 3), ai_ cy (rl 4) 12 (Ml 4), ai_ cy (rl 5) 12 (Ml 5), ai_ cy (rl 6) 12 (Ml 6), ai_ cy (rl 7) 12 (Ml 7), ai_ cy (rl 8) 12 (Ml 8), ai_ cy (rl 9) 12 (Ml 9), ai_ cy (rl 10) 12 (Ml 10), ai_ cy (rl 11) 12 (Ml 11)] t.heap ∧ va_D (va_A [ob7_0_ xh xc u1 u2 u3 u4 u5 u6 u7 u8, ob0_0_ xc xn xk clo cro c4 c5 c6 c7 c8, ob3_0_ xn vp vn n1 n2 n3 n4 n5, aq_ cy 6 clo 12 (gf_ rl), ai_ cy (rl 0) 12 (Ml 0), ai_ cy (rl 1) 12 (Ml 1), ai_ cy (rl 2) 12 (Ml 2), ai_ cy (rl 3) 12 (Ml 3), ai_ cy (rl 4) 12 (Ml 4), ai_ cy (rl 5) 12 (Ml 5), ai_ cy (rl 6) 12 (Ml 6), ai_ cy (rl 7) 12 (Ml 7), ai_ cy (rl 8) 12 (Ml 8), ai_ cy (rl 9) 12 (Ml 9), ai_ cy (rl 10) 12 (Ml 10), ai_ cy (rl 11) 12 (Ml 11)] sz) [ob7_0_ xh xc u1 u2 u3 u4 u5 u6 v7 v8, ob0_0_ xc xn xk clo cro c4 c5 c6 c7 c8, ob3_0_ xn vp vn n1 n2 n3 n4 n5, aq_ cy 6 clo 12 (gf_ rl), ai_ cy (rl 0) 12 (Ml 0), ai_ cy (rl 1) 12 (Ml 1), ai_ cy (rl 2) 12 (Ml 2), ai_ cy (rl 3) 12 (Ml 3), ai_ cy (rl 4) 12 (Ml 4), ai_ cy (rl 5) 12 (Ml 5), ai_ cy (rl 6) 12 (Ml 6), ai_ cy (rl 7) 12 (Ml 7), ai_ cy (rl 8) 12 (Ml 8), ai_ cy (rl 9) 12 (Ml 9), ai_ cy (rl 10) 12 (Ml 10), ai_ cy (rl 11) 12 (Ml 11)]) (va_A [ob7_0_ xh xc u1 u2 u3 u4 u5 u6 u7 u8, ob0_0_ xc xn xk clo cro c4 c5 c6 c7 c8, ob3_0_ xn vp vn n1 n2 n3 n4 n5, aq_ cy 6 clo 12 (gf_ rl), ai_ cy (rl 0) 12 (Ml 0), ai_ cy (rl 1) 12 (Ml 1), ai_ cy (rl 2) 12 (Ml 2), ai_ cy (rl 3) 12 (Ml 3), ai_ cy (rl 4) 12 (Ml 4), ai_ cy (rl 5) 12 (Ml 5), ai_ cy (rl 6) 12 (Ml 6), ai_ cy (rl 7) 12 (Ml 7), ai_ cy (rl 8) 12 (Ml 8), ai_ cy (rl 9) 12 (Ml 9), ai_ cy (rl 10) 12 (Ml 10), ai_ cy (rl 11) 12 (Ml 11)] sz)) 0 0 (va_A [ob7_0_ xh xc u1 u2 u3 u4 u5 u6 u7 u8, ob0_0_ xc xn xk clo cro c4 c5 c6 c7 c8, ob3_0_ xn vp vn n1 n2 n3 n4 n5, aq_ cy 6 clo 12 (gf_ rl), ai_ cy (rl 0) 12 (Ml 0), ai_ cy (rl 1) 12 (Ml 1), ai_ cy (rl 2) 12 (Ml 2), ai_ cy (rl 3) 12 (Ml 3), ai_ cy (rl 4) 12 (Ml 4), ai_ cy (rl 5) 12 (Ml 5), ai_ cy (rl 6) 12 (Ml 6), ai_ cy (rl 7) 12 (Ml 7), ai_ cy (rl 8) 12 (Ml 8), ai_ cy (rl 9) 12 (Ml 9), ai_ cy (rl 10) 12 (Ml 10), ai_ cy (rl 11) 12 (Ml 11)] sz) := by
  refine ofQ (cc := cX7_chooseForDense) (maxL := 4) (ret := none) (by decide) rfl ?_
  intro p e s m args below meth c s₁ Q hQ B hml hv
  obtain ⟨rfl, hsz, hP, hK, hD0⟩ := hv
  have hG := hK.2
  have hK := hK.1
  have hx := B.exec
  have hb := B.bytes
  have hr := B.returns
  have hts := atoms_spec (ws := wsX7_chooseForDense) B.pre
  have hown : s.vm.findClass RX7 = some m.cls := by have h_ := findClass_of_methodNamed B.named; exact h_
  have hlocks := B.notSynchronized
  subst hsz
  have hD := hD0.self (sz := s.heap.size)
  generalize hAe : va_A [ob7_0_ xh xc u1 u2 u3 u4 u5 u6 u7 u8, ob0_0_ xc xn xk clo cro c4 c5 c6 c7 c8, ob3_0_ xn vp vn n1 n2 n3 n4 n5, aq_ cy 6 clo 12 (gf_ rl), ai_ cy (rl 0) 12 (Ml 0), ai_ cy (rl 1) 12 (Ml 1), ai_ cy (rl 2) 12 (Ml 2), ai_ cy (rl 3) 12 (Ml 3), ai_ cy (rl 4) 12 (Ml 4), ai_ cy (rl 5) 12 (Ml 5), ai_ cy (rl 6) 12 (Ml 6), ai_ cy (rl 7) 12 (Ml 7), ai_ cy (rl 8) 12 (Ml 8), ai_ cy (rl 9) 12 (Ml 9), ai_ cy (rl 10) 12 (Ml 10), ai_ cy (rl 11) 12 (Ml 11)] s.heap.size = A at hD hQ
  have hA : ∀ q : Nat, s.heap.size ≤ q → A q := fun q h => by rw [← hAe]; exact Or.inr h
  have hS : va_S A s.heap s.heap [] := va_S.rf
  have hl := lv_entry ([.ref xh, .int a1, .int a2, .int a3]) (n := 4) (Nat.le_of_ble_eq_true rfl)
  rw [lg_entry_eq]
  generalize (lg_sl ([.ref xh, .int a1, .int a2, .int a3]) ++ List.replicate (4 - (lg_sl ([.ref xh, .int a1, .int a2, .int a3])).length) Slot.unset).toArray = ls at hl ⊢
  have hl : lv_has ls 4 [(0, .ref xh), (1, .int a1), (2, .int a2), (3, .int a3)] := hl
  have z0 : (0 : Int32).toInt = 0 := by decide
  have z1 : (1 : Int32).toInt = 1 := by decide
  refine lv_iload_n hx hb dB_36_1_62.1.1.1.1 rfl (lv_at hl 1 rfl) ?_
  refine lv_if_ge (tgt := 11) hx hb dB_36_1_62.1.1.1.2 (by decide) (fun c_1 => ?_) (fun c_1 => ?_)
  · have t_1 : (0 : Int32).toInt ≤ a1.toInt := Int32.le_iff_toInt_le.mp c_1
    refine lv_aload_n hx hb dB_36_1_62.1.2.2.2 rfl (lv_at hl 0 rfl) ?_
    refine lv_iload_n hx hb dB_36_1_62.2.1.1.1 rfl (lv_at hl 1 rfl) ?_
    refine lv_iconst (v := 1) hx hb dB_36_1_62.2.1.1.2 (by decide) ?_
    refine lv_isub hx hb dB_36_1_62.2.1.2.1 ?_
    refine lv_topi (fun y_2 ey_2 => ?_)
    have ty_2 : y_2.toInt = a1.toInt - (1 : Int32).toInt := by rw [ey_2]; exact subI (by omega) (by omega)
    refine lv_iload_n hx hb dB_36_1_62.2.1.2.2 rfl (lv_at hl 2 rfl) ?_
    refine lv_iload_n hx hb dB_36_1_62.2.2.1.1 rfl (lv_at hl 3 rfl) ?_
    refine ct_S hP hD hS hA [ob7_0_ xh xc u1 u2 u3 u4 u5 u6 u7 u8, ob0_0_ xc xn xk clo cro c4 c5 c6 c7 c8, ob3_0_ xn vp vn n1 n2 n3 n4 n5, aq_ cy 6 clo 12 (gf_ rl), ai_ cy (rl 0) 12 (Ml 0), ai_ cy (rl 1) 12 (Ml 1), ai_ cy (rl 2) 12 (Ml 2), ai_ cy (rl 3) 12 (Ml 3), ai_ cy (rl 4) 12 (Ml 4), ai_ cy (rl 5) 12 (Ml 5), ai_ cy (rl 6) 12 (Ml 6), ai_ cy (rl 7) 12 (Ml 7), ai_ cy (rl 8) 12 (Ml 8), ai_ cy (rl 9) 12 (Ml 9), ai_ cy (rl 10) 12 (Ml 10), ai_ cy (rl 11) 12 (Ml 11)] [0, 1, 2, 3, 4, 5, 6, 7, 8, 9, 10, 11, 12, 13, 14, 15] (by decide +kernel) rfl (fun hPc hDw hFc hC_ => ?_)
    refine va_callv (va_runV (As := [.int y_2, .int a2, .int a3]) (rest := []) ⟨hx, hb, hml, hown, hts⟩ (c_X7_chooseForDense_10 l D cy s.heap.size xh u1 u2 u3 u4 u5 u6 u7 u8 xc xk clo cro c4 c5 c6 c7 c8 xn n1 n2 n3 n4 n5 vp vn rl Ml y_2 a2 a3 (by first | with_reducible assumption | omega | assumption) (by first | with_reducible assumption | omega | assumption)) (cwV 3 hts gX7_chooseForDense_X7_chooseForDense rfl rfl rfl ⟨rfl, hd_X7_chooseForDense⟩ ⟨Nat.le_of_ble_eq_true rfl, Nat.le_of_ble_eq_true rfl⟩) ⟨bl_g, va_recvX hK.1 hP (ci := 7) (q0 := 0) rfl rfl, fun U hU hW => ⟨rfl, by rw [hU], by rw [hU]; exact hPc, ⟨kk_mv hW hK, arrOfT_moved hW.alike hG⟩, hDw⟩⟩ rfl rfl hl.1 rfl (lv_room (Nat.le_of_ble_eq_true rfl)) dB_36_1_62.2.2.1.2 ⟨Nat.le_of_ble_eq_true rfl, Nat.le_of_ble_eq_true rfl⟩) hS (fun q _ h => hFc q h) hFc (fun u t H locs ht hvm hw hB hz1 hk1 hS => ?_)
    obtain ⟨v7_4, v8_5, hP1, hD1⟩ := hB
    rw [ht] at hP1
    obtain ⟨hP, hD⟩ := va_join (wr := []) (w1 := [ob7_0_ xh xc u1 u2 u3 u4 u5 u6 v7_4 v8_5, ob0_0_ xc xn xk clo cro c4 c5 c6 c7 c8, ob3_0_ xn vp vn n1 n2 n3 n4 n5, aq_ cy 6 clo 12 (gf_ rl), ai_ cy (rl 0) 12 (Ml 0), ai_ cy (rl 1) 12 (Ml 1), ai_ cy (rl 2) 12 (Ml 2), ai_ cy (rl 3) 12 (Ml 3), ai_ cy (rl 4) 12 (Ml 4), ai_ cy (rl 5) 12 (Ml 5), ai_ cy (rl 6) 12 (Ml 6), ai_ cy (rl 7) 12 (Ml 7), ai_ cy (rl 8) 12 (Ml 8), ai_ cy (rl 9) 12 (Ml 9), ai_ cy (rl 10) 12 (Ml 10), ai_ cy (rl 11) 12 (Ml 11)]) hP hD [0, 1, 2, 3, 4, 5, 6, 7, 8, 9, 10, 11, 12, 13, 14, 15] [] hC_ rfl (by decide) (by decide) hk1 hFc hP1 hD1
    refine pd_K [ob7_0_ xh xc u1 u2 u3 u4 u5 u6 v7_4 v8_5, ob0_0_ xc xn xk clo cro c4 c5 c6 c7 c8, ob3_0_ xn vp vn n1 n2 n3 n4 n5, aq_ cy 6 clo 12 (gf_ rl), ai_ cy (rl 0) 12 (Ml 0), ai_ cy (rl 1) 12 (Ml 1), ai_ cy (rl 2) 12 (Ml 2), ai_ cy (rl 3) 12 (Ml 3), ai_ cy (rl 4) 12 (Ml 4), ai_ cy (rl 5) 12 (Ml 5), ai_ cy (rl 6) 12 (Ml 6), ai_ cy (rl 7) 12 (Ml 7), ai_ cy (rl 8) 12 (Ml 8), ai_ cy (rl 9) 12 (Ml 9), ai_ cy (rl 10) 12 (Ml 10), ai_ cy (rl 11) 12 (Ml 11)] hP hD (fun hP hD => ?_)
    refine lv_aload_n hx hb dB_36_1_62.2.2.2.1 rfl (lv_at hl 0 rfl) ?_
    refine lv_iload_n hx hb dB_36_1_62.2.2.2.2 rfl (lv_at hl 1 rfl) ?_
    refine lv_iconst (v := 1) hx hb dB_36_1_63.1.1.1 (by decide) ?_
    refine lv_isub hx hb dB_36_1_63.1.1.2.1 ?_
    refine lv_topi (fun y_6 ey_6 => ?_)
    have e_ := (ey_6.trans ey_2.symm).symm
    subst e_
    refine lv_iload_n hx hb dB_36_1_63.1.1.2.2 rfl (lv_at hl 2 rfl) ?_
    refine lv_iconst (v := 1) hx hb dB_36_1_63.1.2.1.1 (by decide) ?_
    refine lv_iload_n hx hb dB_36_1_63.1.2.1.2 rfl (lv_at hl 1 rfl) ?_
    refine lv_ishl hx hb dB_36_1_63.1.2.2.1 ?_
    refine lv_topi (fun y_7 ey_7 => ?_)
    refine lv_ior hx hb dB_36_1_63.1.2.2.2 ?_
    refine lv_topi (fun y_8 ey_8 => ?_)
    refine lv_iload_n hx hb dB_36_1_63.2.1.1.1 rfl (lv_at hl 3 rfl) ?_
    refine lv_aload_n hx hb dB_36_1_63.2.1.1.2 rfl (lv_at hl 0 rfl) ?_
    refine lv_iload_n hx hb dB_36_1_63.2.1.2.1 rfl (lv_at hl 1 rfl) ?_
    refine lv_iload_n hx hb dB_36_1_63.2.1.2.2 rfl (lv_at hl 2 rfl) ?_
    refine ct_R hP hD [ob7_0_ xh xc u1 u2 u3 u4 u5 u6 v7_4 v8_5, ob0_0_ xc xn xk clo cro c4 c5 c6 c7 c8, ob3_0_ xn vp vn n1 n2 n3 n4 n5, aq_ cy 6 clo 12 (gf_ rl), ai_ cy (rl 0) 12 (Ml 0), ai_ cy (rl 1) 12 (Ml 1), ai_ cy (rl 2) 12 (Ml 2), ai_ cy (rl 3) 12 (Ml 3), ai_ cy (rl 4) 12 (Ml 4), ai_ cy (rl 5) 12 (Ml 5), ai_ cy (rl 6) 12 (Ml 6), ai_ cy (rl 7) 12 (Ml 7), ai_ cy (rl 8) 12 (Ml 8), ai_ cy (rl 9) 12 (Ml 9), ai_ cy (rl 10) 12 (Ml 10), ai_ cy (rl 11) 12 (Ml 11)] [0, 1, 2, 3, 4, 5, 6, 7, 8, 9, 10, 11, 12, 13, 14, 15] (by decide +kernel) rfl (fun hPc hDw => ?_)
    have hFc := va_free (wc := []) hD hS hA [] rfl
    refine va_calli (va_runV (As := [.int a1, .int a2]) (rest := [.int a3, .int y_8, .int y_2, .ref xh]) ⟨hx, hb, hml, hown, hts⟩ (c_X7_letIn l D cy H.size xh u1 u2 u3 u4 u5 u6 v7_4 v8_5 xc xk clo cro c4 c5 c6 c7 c8 xn n1 n2 n3 n4 n5 vp vn rl Ml a1 a2 (by first | with_reducible assumption | omega | assumption) (by first | with_reducible assumption | omega | assumption)) (cwV 2 hts gX7_chooseForDense_X7_letIn rfl rfl rfl ⟨rfl, hd_X7_letIn⟩ ⟨Nat.le_of_ble_eq_true rfl, Nat.le_of_ble_eq_true rfl⟩) ⟨bl_g, va_recvX hK.1 hP (ci := 7) (q0 := 0) rfl rfl, fun U hU hW => ⟨rfl, by rw [hU], by rw [hU]; exact hPc, ⟨kk_mv hW hK, arrOfT_moved hW.alike hG⟩, hDw⟩⟩ rfl rfl hl.1 rfl (lv_room (Nat.le_of_ble_eq_true rfl)) dB_36_1_63.2.2.1.1 ⟨Nat.le_of_ble_eq_true rfl, Nat.le_of_ble_eq_true rfl⟩) hS (fun q _ h => hFc q h) hFc (fun r_9 u t H locs ht hvm hw hB hz1 hk1 hS => ?_)
    have hP : va_P D vwCl _ H := ro_keep hP hk1
    refine lv_iadd hx hb dB_36_1_63.2.2.1.2 ?_
    refine lv_topi (fun y_10 ey_10 => ?_)
    refine ct_S hP hD hS hA [ob7_0_ xh xc u1 u2 u3 u4 u5 u6 v7_4 v8_5, ob0_0_ xc xn xk clo cro c4 c5 c6 c7 c8, ob3_0_ xn vp vn n1 n2 n3 n4 n5, aq_ cy 6 clo 12 (gf_ rl), ai_ cy (rl 0) 12 (Ml 0), ai_ cy (rl 1) 12 (Ml 1), ai_ cy (rl 2) 12 (Ml 2), ai_ cy (rl 3) 12 (Ml 3), ai_ cy (rl 4) 12 (Ml 4), ai_ cy (rl 5) 12 (Ml 5), ai_ cy (rl 6) 12 (Ml 6), ai_ cy (rl 7) 12 (Ml 7), ai_ cy (rl 8) 12 (Ml 8), ai_ cy (rl 9) 12 (Ml 9), ai_ cy (rl 10) 12 (Ml 10), ai_ cy (rl 11) 12 (Ml 11)] [0, 1, 2, 3, 4, 5, 6, 7, 8, 9, 10, 11, 12, 13, 14, 15] (by decide +kernel) rfl (fun hPc hDw hFc hC_ => ?_)
    refine va_callv (va_runV (As := [.int y_2, .int y_8, .int y_10]) (rest := []) ⟨hx, hb, hml, hown, hts⟩ (c_X7_chooseForDense_10 l D cy H.size xh u1 u2 u3 u4 u5 u6 v7_4 v8_5 xc xk clo cro c4 c5 c6 c7 c8 xn n1 n2 n3 n4 n5 vp vn rl Ml y_2 y_8 y_10 (by first | with_reducible assumption | omega | assumption) (by first | with_reducible assumption | omega | assumption)) (cwV 3 hts gX7_chooseForDense_X7_chooseForDense rfl rfl rfl ⟨rfl, hd_X7_chooseForDense⟩ ⟨Nat.le_of_ble_eq_true rfl, Nat.le_of_ble_eq_true rfl⟩) ⟨bl_g, va_recvX hK.1 hP (ci := 7) (q0 := 0) rfl rfl, fun U hU hW => ⟨rfl, by rw [hU], by rw [hU]; exact hPc, ⟨kk_mv hW hK, arrOfT_moved hW.alike hG⟩, hDw⟩⟩ rfl rfl hl.1 rfl (lv_room (Nat.le_of_ble_eq_true rfl)) dB_36_1_63.2.2.2.1 ⟨Nat.le_of_ble_eq_true rfl, Nat.le_of_ble_eq_true rfl⟩) hS (fun q _ h => hFc q h) hFc (fun u t H locs ht hvm hw hB hz1 hk1 hS => ?_)
    obtain ⟨v7_12, v8_13, hP1, hD1⟩ := hB
    rw [ht] at hP1
    obtain ⟨hP, hD⟩ := va_join (wr := []) (w1 := [ob7_0_ xh xc u1 u2 u3 u4 u5 u6 v7_12 v8_13, ob0_0_ xc xn xk clo cro c4 c5 c6 c7 c8, ob3_0_ xn vp vn n1 n2 n3 n4 n5, aq_ cy 6 clo 12 (gf_ rl), ai_ cy (rl 0) 12 (Ml 0), ai_ cy (rl 1) 12 (Ml 1), ai_ cy (rl 2) 12 (Ml 2), ai_ cy (rl 3) 12 (Ml 3), ai_ cy (rl 4) 12 (Ml 4), ai_ cy (rl 5) 12 (Ml 5), ai_ cy (rl 6) 12 (Ml 6), ai_ cy (rl 7) 12 (Ml 7), ai_ cy (rl 8) 12 (Ml 8), ai_ cy (rl 9) 12 (Ml 9), ai_ cy (rl 10) 12 (Ml 10), ai_ cy (rl 11) 12 (Ml 11)]) hP hD [0, 1, 2, 3, 4, 5, 6, 7, 8, 9, 10, 11, 12, 13, 14, 15] [] hC_ rfl (by decide) (by decide) hk1 hFc hP1 hD1
    refine pd_K [ob7_0_ xh xc u1 u2 u3 u4 u5 u6 v7_12 v8_13, ob0_0_ xc xn xk clo cro c4 c5 c6 c7 c8, ob3_0_ xn vp vn n1 n2 n3 n4 n5, aq_ cy 6 clo 12 (gf_ rl), ai_ cy (rl 0) 12 (Ml 0), ai_ cy (rl 1) 12 (Ml 1), ai_ cy (rl 2) 12 (Ml 2), ai_ cy (rl 3) 12 (Ml 3), ai_ cy (rl 4) 12 (Ml 4), ai_ cy (rl 5) 12 (Ml 5), ai_ cy (rl 6) 12 (Ml 6), ai_ cy (rl 7) 12 (Ml 7), ai_ cy (rl 8) 12 (Ml 8), ai_ cy (rl 9) 12 (Ml 9), ai_ cy (rl 10) 12 (Ml 10), ai_ cy (rl 11) 12 (Ml 11)] hP hD (fun hP hD => ?_)
    rw [hQ]
    exact W.vret hx hb hr (fun t ht hW => ⟨⟨(), rfl, trivial, v7_12, v8_13, by rw [ht]; exact hP, hD⟩, hS.F ht⟩) hS.2.2 dB_36_1_63.2.2.2.2
  · have t_1 : ¬ (0 : Int32).toInt ≤ a1.toInt := fun h => c_1 (Int32.le_iff_toInt_le.mpr h)
    refine lv_aload_n hx hb dB_36_1_62.1.1.2.1 rfl (lv_at hl 0 rfl) ?_
    refine lv_iload_n hx hb dB_36_1_62.1.1.2.2 rfl (lv_at hl 2 rfl) ?_
    refine lv_iload_n hx hb dB_36_1_62.1.2.1.1 rfl (lv_at hl 3 rfl) ?_
    refine ct_S hP hD hS hA [ob7_0_ xh xc u1 u2 u3 u4 u5 u6 u7 u8] [0] (by decide) rfl (fun hPc hDw hFc hC_ => ?_)
    refine va_callv (va_runV (As := [.int a2, .int a3]) (rest := []) ⟨hx, hb, hml, hown, hts⟩ (c_X7_compareDense l D cy s.heap.size xh u1 u2 u3 u4 u5 u6 u7 u8 xc a2 a3) (cwV 2 hts gX7_chooseForDense_X7_compareDense rfl rfl rfl ⟨rfl, hd_X7_compareDense⟩ ⟨Nat.le_of_ble_eq_true rfl, Nat.le_of_ble_eq_true rfl⟩) ⟨bl_, va_recvX hK.1 hP (ci := 7) (q0 := 0) rfl rfl, fun U hU hW => ⟨rfl, by rw [hU], by rw [hU]; exact hPc, kk_mv hW hK, hDw⟩⟩ rfl rfl hl.1 rfl (lv_room (Nat.le_of_ble_eq_true rfl)) dB_36_1_62.1.2.1.2 ⟨Nat.le_of_ble_eq_true rfl, Nat.le_of_ble_eq_true rfl⟩) hS (fun q _ h => hFc q h) hFc (fun u t H locs ht hvm hw hB hz1 hk1 hS => ?_)
    obtain ⟨v7_15, v8_16, hP1, hD1⟩ := hB
    rw [ht] at hP1
    obtain ⟨hP, hD⟩ := va_join (wr := [ob0_0_ xc xn xk clo cro c4 c5 c6 c7 c8, ob3_0_ xn vp vn n1 n2 n3 n4 n5, aq_ cy 6 clo 12 (gf_ rl), ai_ cy (rl 0) 12 (Ml 0), ai_ cy (rl 1) 12 (Ml 1), ai_ cy (rl 2) 12 (Ml 2), ai_ cy (rl 3) 12 (Ml 3), ai_ cy (rl 4) 12 (Ml 4), ai_ cy (rl 5) 12 (Ml 5), ai_ cy (rl 6) 12 (Ml 6), ai_ cy (rl 7) 12 (Ml 7), ai_ cy (rl 8) 12 (Ml 8), ai_ cy (rl 9) 12 (Ml 9), ai_ cy (rl 10) 12 (Ml 10), ai_ cy (rl 11) 12 (Ml 11)]) (w1 := [ob7_0_ xh xc u1 u2 u3 u4 u5 u6 v7_15 v8_16]) hP hD [0] [1, 2, 3, 4, 5, 6, 7, 8, 9, 10, 11, 12, 13, 14, 15] hC_ rfl (by decide +kernel) (by decide +kernel) hk1 hFc hP1 hD1
    refine pd_S hP hD [ob7_0_ xh xc u1 u2 u3 u4 u5 u6 v7_15 v8_16, ob0_0_ xc xn xk clo cro c4 c5 c6 c7 c8, ob3_0_ xn vp vn n1 n2 n3 n4 n5, aq_ cy 6 clo 12 (gf_ rl), ai_ cy (rl 0) 12 (Ml 0), ai_ cy (rl 1) 12 (Ml 1), ai_ cy (rl 2) 12 (Ml 2), ai_ cy (rl 3) 12 (Ml 3), ai_ cy (rl 4) 12 (Ml 4), ai_ cy (rl 5) 12 (Ml 5), ai_ cy (rl 6) 12 (Ml 6), ai_ cy (rl 7) 12 (Ml 7), ai_ cy (rl 8) 12 (Ml 8), ai_ cy (rl 9) 12 (Ml 9), ai_ cy (rl 10) 12 (Ml 10), ai_ cy (rl 11) 12 (Ml 11)] [15, 0, 1, 2, 3, 4, 5, 6, 7, 8, 9, 10, 11, 12, 13, 14] (by decide +kernel) rfl (fun hP hD => ?_)
    rw [hQ]
    exact W.vret hx hb hr (fun t ht hW => ⟨⟨(), rfl, trivial, v7_15, v8_16, by rw [ht]; exact hP, hD⟩, hS.F ht⟩) hS.2.2 dB_36_1_62.1.2.2.1

set_option maxHeartbeats 4000000 in
set_option maxRecDepth 100000 in
theorem c_X7_chooseForDense_12 (l : Launch) (D : va_G) (cy : Nat → ClassId) (sz : Nat) (xh : Nat) (u1 : Int32) (u2 : Int32) (u3 : Int32) (u4 : Int32) (u5 : Int32) (u6 : Int32) (u7 : Int32) (u8 : Int32) (xc : Nat) (xk : Nat) (clo : Nat) (cro : Nat) (c4 : Nat) (c5 : Nat) (c6 : Nat) (c7 : Nat) (c8 : Nat) (xn : Nat) (n1 : Nat) (n2 : Nat) (n3 : Nat) (n4 : Nat) (n5 : Nat) (vp : Int32) (vn : Int32) (rl : Nat → Nat) (Ml : Nat → Nat → Int32) (a1 : Int32) (a2 : Int32) (a3 : Int32) (hvp : 0 ≤ vp.toInt ∧ vp.toInt ≤ 12) (q1 : -1 ≤ a1.toInt ∧ a1.toInt < 12) : Met l yX7_chooseForDense wsX7_chooseForDense ({ frames := 14, cells := 0, slots := 0, locals := 322 }) (va_Pc [.ref xh, .int a1, .int a2, .int a3] (fun U => U.heap.size = sz ∧ va_P D vwCl [ob7_0_ xh xc u1 u2 u3 u4 u5 u6 u7 u8, ob0_0_ xc xn xk clo cro c4 c5 c6 c7 c8, ob3_0_ xn vp vn n1 n2 n3 n4 n5, aq_ cy 6 clo 12 (gf_ rl), ai_ cy (rl 0) 12 (Ml 0), ai_ cy (rl 1) 12 (Ml 1), ai_ cy (rl 2) 12 (Ml 2), ai_ cy (rl 3) 12 (Ml 3), ai_ cy (rl 4) 12 (Ml 4), ai_ cy (rl 5) 12 (Ml 5), ai_ cy (rl 6) 12 (Ml 6), ai_ cy (rl 7) 12 (Ml 7), ai_ cy (rl 8) 12 (Ml 8), ai_ cy (rl 9) 12 (Ml 9), ai_ cy (rl 10) 12 (Ml 10), ai_ cy (rl 11) 12 (Ml 11)] U.heap ∧ kg_ D cy U ∧ va_D (fun _ => True) [ob7_0_ xh xc u1 u2 u3 u4 u5 u6 u7 u8, ob0_0_ xc xn xk clo cro c4 c5 c6 c7 c8, ob3_0_ xn vp vn n1 n2 n3 n4 n5, aq_ cy 6 clo 12 (gf_ rl), ai_ cy (rl 0) 12 (Ml 0), ai_ cy (rl 1) 12 (Ml 1), ai_ cy (rl 2) 12 (Ml 2), ai_ cy (rl 3) 12 (Ml 3), ai_ cy (rl 4) 12 (Ml 4), ai_ cy (rl 5) 12 (Ml 5), ai_ cy (rl 6) 12 (Ml 6), ai_ cy (rl 7) 12 (Ml 7), ai_ cy (rl 8) 12 (Ml 8), ai_ cy (rl 9) 12 (Ml 9), ai_ cy (rl 10) 12 (Ml 10), ai_ cy (rl 11) 12 (Ml 11)])) (va_Qv (fun (_ : Unit) => True) (fun (_ : Unit) (t : State) => ∃ (v7 : Int32), ∃ (v8 : Int32), va_P D vwCl [ob7_0_ xh xc u1 u2 u3 u4 u5 u6 v7 v8, ob0_0_ xc xn xk clo cro c4 c5 c6 c7 c8, ob3_0_ xn vp vn n1 n2 n3 n4 n5, aq_ cy 6 clo 12 (gf_ rl), ai_ cy (rl 0) 12 (Ml 0), ai_ cy (rl 1) 12 (Ml 1), ai_ cy (rl 2) 12 (Ml 2), ai_ cy (rl 3) 12 (Ml 3), ai_ cy (rl 4) 12 (Ml 4), ai_ cy (rl 5) 12 (Ml 5), ai_ cy (rl 6) 12 (Ml 6), ai_ cy (rl 7) 12 (Ml 7), ai_ cy (rl 8) 12 (Ml 8), ai_ cy (rl 9) 12 (Ml 9), ai_ cy (rl 10) 12 (Ml 10), ai_ cy (rl 11) 12 (Ml 11)] t.heap ∧ va_D (va_A [ob7_0_ xh xc u1 u2 u3 u4 u5 u6 u7 u8, ob0_0_ xc xn xk clo cro c4 c5 c6 c7 c8, ob3_0_ xn vp vn n1 n2 n3 n4 n5, aq_ cy 6 clo 12 (gf_ rl), ai_ cy (rl 0) 12 (Ml 0), ai_ cy (rl 1) 12 (Ml 1), ai_ cy (rl 2) 12 (Ml 2), ai_ cy (rl 3) 12 (Ml 3), ai_ cy (rl 4) 12 (Ml 4), ai_ cy (rl 5) 12 (Ml 5), ai_ cy (rl 6) 12 (Ml 6), ai_ cy (rl 7) 12 (Ml 7), ai_ cy (rl 8) 12 (Ml 8), ai_ cy (rl 9) 12 (Ml 9), ai_ cy (rl 10) 12 (Ml 10), ai_ cy (rl 11) 12 (Ml 11)] sz) [ob7_0_ xh xc u1 u2 u3 u4 u5 u6 v7 v8, ob0_0_ xc xn xk clo cro c4 c5 c6 c7 c8, ob3_0_ xn vp vn n1 n2 n3 n4 n5, aq_ cy 6 clo 12 (gf_ rl), ai_ cy (rl 0) 12 (Ml 0), ai_ cy (rl 1) 12 (Ml 1), ai_ cy (rl 2) 12 (Ml 2), ai_ cy (rl 3) 12 (Ml 3), ai_ cy (rl 4) 12 (Ml 4), ai_ cy (rl 5) 12 (Ml 5), ai_ cy (rl 6) 12 (Ml 6), ai_ cy (rl 7) 12 (Ml 7), ai_ cy (rl 8) 12 (Ml 8), ai_ cy (rl 9) 12 (Ml 9), ai_ cy (rl 10) 12 (Ml 10), ai_ cy (rl 11) 12 (Ml 11)]) (va_A [ob7_0_ xh xc u1 u2 u3 u4 u5 u6 u7 u8, ob0_0_ xc xn xk clo cro c4 c5 c6 c7 c8, ob3_0_ xn vp vn n1 n2 n3 n4 n5, aq_ cy 6 clo 12 (gf_ rl), ai_ cy (rl 0) 12 (Ml 0), ai_ cy (rl 1) 12 (Ml 1), ai_ cy (rl 2) 12 (Ml 2), ai_ cy (rl 3) 12 (Ml 3), ai_ cy (rl 4) 12 (Ml 4), ai_ cy (rl 5) 12 (Ml 5), ai_ cy (rl 6) 12 (Ml 6), ai_ cy (rl 7) 12 (Ml 7), ai_ cy (rl 8) 12 (Ml 8), ai_ cy (rl 9) 12 (Ml 9), ai_ cy (rl 10) 12 (Ml 10), ai_ cy (rl 11) 12 (Ml 11)] sz)) 0 0 (va_A [ob7_0_ xh xc u1 u2 u3 u4 u5 u6 u7 u8, ob0_0_ xc xn xk clo cro c4 c5 c6 c7 c8, ob3_0_ xn vp vn n1 n2 n3 n4 n5, aq_ cy 6 clo 12 (gf_ rl), ai_ cy (rl 0) 12 (Ml 0), ai_ cy (rl 1) 12 (Ml 1), ai_ cy (rl 2) 12 (Ml 2), ai_ cy (rl 3) 12 (Ml 3), ai_ cy (rl 4) 12 (Ml 4), ai_ cy (rl 5) 12 (Ml 5), ai_ cy (rl 6) 12 (Ml 6), ai_ cy (rl 7) 12 (Ml 7), ai_ cy (rl 8) 12 (Ml 8), ai_ cy (rl 9) 12 (Ml 9), ai_ cy (rl 10) 12 (Ml 10), ai_ cy (rl 11) 12 (Ml 11)] sz) := by
  refine ofQ (cc := cX7_chooseForDense) (maxL := 4) (ret := none) (by decide) rfl ?_
  intro p e s m args below meth c s₁ Q hQ B hml hv
  obtain ⟨rfl, hsz, hP, hK, hD0⟩ := hv
  have hG := hK.2
  have hK := hK.1
  have hx := B.exec
  have hb := B.bytes
  have hr := B.returns
  have hts := atoms_spec (ws := wsX7_chooseForDense) B.pre
  have hown : s.vm.findClass RX7 = some m.cls := by have h_ := findClass_of_methodNamed B.named; exact h_
  have hlocks := B.notSynchronized
  subst hsz
  have hD := hD0.self (sz := s.heap.size)
  generalize hAe : va_A [ob7_0_ xh xc u1 u2 u3 u4 u5 u6 u7 u8, ob0_0_ xc xn xk clo cro c4 c5 c6 c7 c8, ob3_0_ xn vp vn n1 n2 n3 n4 n5, aq_ cy 6 clo 12 (gf_ rl), ai_ cy (rl 0) 12 (Ml 0), ai_ cy (rl 1) 12 (Ml 1), ai_ cy (rl 2) 12 (Ml 2), ai_ cy (rl 3) 12 (Ml 3), ai_ cy (rl 4) 12 (Ml 4), ai_ cy (rl 5) 12 (Ml 5), ai_ cy (rl 6) 12 (Ml 6), ai_ cy (rl 7) 12 (Ml 7), ai_ cy (rl 8) 12 (Ml 8), ai_ cy (rl 9) 12 (Ml 9), ai_ cy (rl 10) 12 (Ml 10), ai_ cy (rl 11) 12 (Ml 11)] s.heap.size = A at hD hQ
  have hA : ∀ q : Nat, s.heap.size ≤ q → A q := fun q h => by rw [← hAe]; exact Or.inr h
  have hS : va_S A s.heap s.heap [] := va_S.rf
  have hl := lv_entry ([.ref xh, .int a1, .int a2, .int a3]) (n := 4) (Nat.le_of_ble_eq_true rfl)
  rw [lg_entry_eq]
  generalize (lg_sl ([.ref xh, .int a1, .int a2, .int a3]) ++ List.replicate (4 - (lg_sl ([.ref xh, .int a1, .int a2, .int a3])).length) Slot.unset).toArray = ls at hl ⊢
  have hl : lv_has ls 4 [(0, .ref xh), (1, .int a1), (2, .int a2), (3, .int a3)] := hl
  have z0 : (0 : Int32).toInt = 0 := by decide
  have z1 : (1 : Int32).toInt = 1 := by decide
  refine lv_iload_n hx hb dB_36_1_62.1.1.1.1 rfl (lv_at hl 1 rfl) ?_
  refine lv_if_ge (tgt := 11) hx hb dB_36_1_62.1.1.1.2 (by decide) (fun c_1 => ?_) (fun c_1 => ?_)
  · have t_1 : (0 : Int32).toInt ≤ a1.toInt := Int32.le_iff_toInt_le.mp c_1
    refine lv_aload_n hx hb dB_36_1_62.1.2.2.2 rfl (lv_at hl 0 rfl) ?_
    refine lv_iload_n hx hb dB_36_1_62.2.1.1.1 rfl (lv_at hl 1 rfl) ?_
    refine lv_iconst (v := 1) hx hb dB_36_1_62.2.1.1.2 (by decide) ?_
    refine lv_isub hx hb dB_36_1_62.2.1.2.1 ?_
    refine lv_topi (fun y_2 ey_2 => ?_)
    have ty_2 : y_2.toInt = a1.toInt - (1 : Int32).toInt := by rw [ey_2]; exact subI (by omega) (by omega)
    refine lv_iload_n hx hb dB_36_1_62.2.1.2.2 rfl (lv_at hl 2 rfl) ?_
    refine lv_iload_n hx hb dB_36_1_62.2.2.1.1 rfl (lv_at hl 3 rfl) ?_
    refine ct_S hP hD hS hA [ob7_0_ xh xc u1 u2 u3 u4 u5 u6 u7 u8, ob0_0_ xc xn xk clo cro c4 c5 c6 c7 c8, ob3_0_ xn vp vn n1 n2 n3 n4 n5, aq_ cy 6 clo 12 (gf_ rl), ai_ cy (rl 0) 12 (Ml 0), ai_ cy (rl 1) 12 (Ml 1), ai_ cy (rl 2) 12 (Ml 2), ai_ cy (rl 3) 12 (Ml 3), ai_ cy (rl 4) 12 (Ml 4), ai_ cy (rl 5) 12 (Ml 5), ai_ cy (rl 6) 12 (Ml 6), ai_ cy (rl 7) 12 (Ml 7), ai_ cy (rl 8) 12 (Ml 8), ai_ cy (rl 9) 12 (Ml 9), ai_ cy (rl 10) 12 (Ml 10), ai_ cy (rl 11) 12 (Ml 11)] [0, 1, 2, 3, 4, 5, 6, 7, 8, 9, 10, 11, 12, 13, 14, 15] (by decide +kernel) rfl (fun hPc hDw hFc hC_ => ?_)
    refine va_callv (va_runV (As := [.int y_2, .int a2, .int a3]) (rest := []) ⟨hx, hb, hml, hown, hts⟩ (c_X7_chooseForDense_11 l D cy s.heap.size xh u1 u2 u3 u4 u5 u6 u7 u8 xc xk clo cro c4 c5 c6 c7 c8 xn n1 n2 n3 n4 n5 vp vn rl Ml y_2 a2 a3 (by first | with_reducible assumption | omega | assumption) (by first | with_reducible assumption | omega | assumption)) (cwV 3 hts gX7_chooseForDense_X7_chooseForDense rfl rfl rfl ⟨rfl, hd_X7_chooseForDense⟩ ⟨Nat.le_of_ble_eq_true rfl, Nat.le_of_ble_eq_true rfl⟩) ⟨bl_g, va_recvX hK.1 hP (ci := 7) (q0 := 0) rfl rfl, fun U hU hW => ⟨rfl, by rw [hU], by rw [hU]; exact hPc, ⟨kk_mv hW hK, arrOfT_moved hW.alike hG⟩, hDw⟩⟩ rfl rfl hl.1 rfl (lv_room (Nat.le_of_ble_eq_true rfl)) dB_36_1_62.2.2.1.2 ⟨Nat.le_of_ble_eq_true rfl, Nat.le_of_ble_eq_true rfl⟩) hS (fun q _ h => hFc q h) hFc (fun u t H locs ht hvm hw hB hz1 hk1 hS => ?_)
    obtain ⟨v7_4, v8_5, hP1, hD1⟩ := hB
    rw [ht] at hP1
    obtain ⟨hP, hD⟩ := va_join (wr := []) (w1 := [ob7_0_ xh xc u1 u2 u3 u4 u5 u6 v7_4 v8_5, ob0_0_ xc xn xk clo cro c4 c5 c6 c7 c8, ob3_0_ xn vp vn n1 n2 n3 n4 n5, aq_ cy 6 clo 12 (gf_ rl), ai_ cy (rl 0) 12 (Ml 0), ai_ cy (rl 1) 12 (Ml 1), ai_ cy (rl 2) 12 (Ml 2), ai_ cy (rl 3) 12 (Ml 3), ai_ cy (rl 4) 12 (Ml 4), ai_ cy (rl 5) 12 (Ml 5), ai_ cy (rl 6) 12 (Ml 6), ai_ cy (rl 7) 12 (Ml 7), ai_ cy (rl 8) 12 (Ml 8), ai_ cy (rl 9) 12 (Ml 9), ai_ cy (rl 10) 12 (Ml 10), ai_ cy (rl 11) 12 (Ml 11)]) hP hD [0, 1, 2, 3, 4, 5, 6, 7, 8, 9, 10, 11, 12, 13, 14, 15] [] hC_ rfl (by decide) (by decide) hk1 hFc hP1 hD1
    refine pd_K [ob7_0_ xh xc u1 u2 u3 u4 u5 u6 v7_4 v8_5, ob0_0_ xc xn xk clo cro c4 c5 c6 c7 c8, ob3_0_ xn vp vn n1 n2 n3 n4 n5, aq_ cy 6 clo 12 (gf_ rl), ai_ cy (rl 0) 12 (Ml 0), ai_ cy (rl 1) 12 (Ml 1), ai_ cy (rl 2) 12 (Ml 2), ai_ cy (rl 3) 12 (Ml 3), ai_ cy (rl 4) 12 (Ml 4), ai_ cy (rl 5) 12 (Ml 5), ai_ cy (rl 6) 12 (Ml 6), ai_ cy (rl 7) 12 (Ml 7), ai_ cy (rl 8) 12 (Ml 8), ai_ cy (rl 9) 12 (Ml 9), ai_ cy (rl 10) 12 (Ml 10), ai_ cy (rl 11) 12 (Ml 11)] hP hD (fun hP hD => ?_)
    refine lv_aload_n hx hb dB_36_1_62.2.2.2.1 rfl (lv_at hl 0 rfl) ?_
    refine lv_iload_n hx hb dB_36_1_62.2.2.2.2 rfl (lv_at hl 1 rfl) ?_
    refine lv_iconst (v := 1) hx hb dB_36_1_63.1.1.1 (by decide) ?_
    refine lv_isub hx hb dB_36_1_63.1.1.2.1 ?_
    refine lv_topi (fun y_6 ey_6 => ?_)
    have e_ := (ey_6.trans ey_2.symm).symm
    subst e_
    refine lv_iload_n hx hb dB_36_1_63.1.1.2.2 rfl (lv_at hl 2 rfl) ?_
    refine lv_iconst (v := 1) hx hb dB_36_1_63.1.2.1.1 (by decide) ?_
    refine lv_iload_n hx hb dB_36_1_63.1.2.1.2 rfl (lv_at hl 1 rfl) ?_
    refine lv_ishl hx hb dB_36_1_63.1.2.2.1 ?_
    refine lv_topi (fun y_7 ey_7 => ?_)
    refine lv_ior hx hb dB_36_1_63.1.2.2.2 ?_
    refine lv_topi (fun y_8 ey_8 => ?_)
    refine lv_iload_n hx hb dB_36_1_63.2.1.1.1 rfl (lv_at hl 3 rfl) ?_
    refine lv_aload_n hx hb dB_36_1_63.2.1.1.2 rfl (lv_at hl 0 rfl) ?_
    refine lv_iload_n hx hb dB_36_1_63.2.1.2.1 rfl (lv_at hl 1 rfl) ?_
    refine lv_iload_n hx hb dB_36_1_63.2.1.2.2 rfl (lv_at hl 2 rfl) ?_
    refine ct_R hP hD [ob7_0_ xh xc u1 u2 u3 u4 u5 u6 v7_4 v8_5, ob0_0_ xc xn xk clo cro c4 c5 c6 c7 c8, ob3_0_ xn vp vn n1 n2 n3 n4 n5, aq_ cy 6 clo 12 (gf_ rl), ai_ cy (rl 0) 12 (Ml 0), ai_ cy (rl 1) 12 (Ml 1), ai_ cy (rl 2) 12 (Ml 2), ai_ cy (rl 3) 12 (Ml 3), ai_ cy (rl 4) 12 (Ml 4), ai_ cy (rl 5) 12 (Ml 5), ai_ cy (rl 6) 12 (Ml 6), ai_ cy (rl 7) 12 (Ml 7), ai_ cy (rl 8) 12 (Ml 8), ai_ cy (rl 9) 12 (Ml 9), ai_ cy (rl 10) 12 (Ml 10), ai_ cy (rl 11) 12 (Ml 11)] [0, 1, 2, 3, 4, 5, 6, 7, 8, 9, 10, 11, 12, 13, 14, 15] (by decide +kernel) rfl (fun hPc hDw => ?_)
    have hFc := va_free (wc := []) hD hS hA [] rfl
    refine va_calli (va_runV (As := [.int a1, .int a2]) (rest := [.int a3, .int y_8, .int y_2, .ref xh]) ⟨hx, hb, hml, hown, hts⟩ (c_X7_letIn l D cy H.size xh u1 u2 u3 u4 u5 u6 v7_4 v8_5 xc xk clo cro c4 c5 c6 c7 c8 xn n1 n2 n3 n4 n5 vp vn rl Ml a1 a2 (by first | with_reducible assumption | omega | assumption) (by first | with_reducible assumption | omega | assumption)) (cwV 2 hts gX7_chooseForDense_X7_letIn rfl rfl rfl ⟨rfl, hd_X7_letIn⟩ ⟨Nat.le_of_ble_eq_true rfl, Nat.le_of_ble_eq_true rfl⟩) ⟨bl_g, va_recvX hK.1 hP (ci := 7) (q0 := 0) rfl rfl, fun U hU hW => ⟨rfl, by rw [hU], by rw [hU]; exact hPc, ⟨kk_mv hW hK, arrOfT_moved hW.alike hG⟩, hDw⟩⟩ rfl rfl hl.1 rfl (lv_room (Nat.le_of_ble_eq_true rfl)) dB_36_1_63.2.2.1.1 ⟨Nat.le_of_ble_eq_true rfl, Nat.le_of_ble_eq_true rfl⟩) hS (fun q _ h => hFc q h) hFc (fun r_9 u t H locs ht hvm hw hB hz1 hk1 hS => ?_)
    have hP : va_P D vwCl _ H := ro_keep hP hk1
    refine lv_iadd hx hb dB_36_1_63.2.2.1.2 ?_
    refine lv_topi (fun y_10 ey_10 => ?_)
    refine ct_S hP hD hS hA [ob7_0_ xh xc u1 u2 u3 u4 u5 u6 v7_4 v8_5, ob0_0_ xc xn xk clo cro c4 c5 c6 c7 c8, ob3_0_ xn vp vn n1 n2 n3 n4 n5, aq_ cy 6 clo 12 (gf_ rl), ai_ cy (rl 0) 12 (Ml 0), ai_ cy (rl 1) 12 (Ml 1), ai_ cy (rl 2) 12 (Ml 2), ai_ cy (rl 3) 12 (Ml 3), ai_ cy (rl 4) 12 (Ml 4), ai_ cy (rl 5) 12 (Ml 5), ai_ cy (rl 6) 12 (Ml 6), ai_ cy (rl 7) 12 (Ml 7), ai_ cy (rl 8) 12 (Ml 8), ai_ cy (rl 9) 12 (Ml 9), ai_ cy (rl 10) 12 (Ml 10), ai_ cy (rl 11) 12 (Ml 11)] [0, 1, 2, 3, 4, 5, 6, 7, 8, 9, 10, 11, 12, 13, 14, 15] (by decide +kernel) rfl (fun hPc hDw hFc hC_ => ?_)
    refine va_callv (va_runV (As := [.int y_2, .int y_8, .int y_10]) (rest := []) ⟨hx, hb, hml, hown, hts⟩ (c_X7_chooseForDense_11 l D cy H.size xh u1 u2 u3 u4 u5 u6 v7_4 v8_5 xc xk clo cro c4 c5 c6 c7 c8 xn n1 n2 n3 n4 n5 vp vn rl Ml y_2 y_8 y_10 (by first | with_reducible assumption | omega | assumption) (by first | with_reducible assumption | omega | assumption)) (cwV 3 hts gX7_chooseForDense_X7_chooseForDense rfl rfl rfl ⟨rfl, hd_X7_chooseForDense⟩ ⟨Nat.le_of_ble_eq_true rfl, Nat.le_of_ble_eq_true rfl⟩) ⟨bl_g, va_recvX hK.1 hP (ci := 7) (q0 := 0) rfl rfl, fun U hU hW => ⟨rfl, by rw [hU], by rw [hU]; exact hPc, ⟨kk_mv hW hK, arrOfT_moved hW.alike hG⟩, hDw⟩⟩ rfl rfl hl.1 rfl (lv_room (Nat.le_of_ble_eq_true rfl)) dB_36_1_63.2.2.2.1 ⟨Nat.le_of_ble_eq_true rfl, Nat.le_of_ble_eq_true rfl⟩) hS (fun q _ h => hFc q h) hFc (fun u t H locs ht hvm hw hB hz1 hk1 hS => ?_)
    obtain ⟨v7_12, v8_13, hP1, hD1⟩ := hB
    rw [ht] at hP1
    obtain ⟨hP, hD⟩ := va_join (wr := []) (w1 := [ob7_0_ xh xc u1 u2 u3 u4 u5 u6 v7_12 v8_13, ob0_0_ xc xn xk clo cro c4 c5 c6 c7 c8, ob3_0_ xn vp vn n1 n2 n3 n4 n5, aq_ cy 6 clo 12 (gf_ rl), ai_ cy (rl 0) 12 (Ml 0), ai_ cy (rl 1) 12 (Ml 1), ai_ cy (rl 2) 12 (Ml 2), ai_ cy (rl 3) 12 (Ml 3), ai_ cy (rl 4) 12 (Ml 4), ai_ cy (rl 5) 12 (Ml 5), ai_ cy (rl 6) 12 (Ml 6), ai_ cy (rl 7) 12 (Ml 7), ai_ cy (rl 8) 12 (Ml 8), ai_ cy (rl 9) 12 (Ml 9), ai_ cy (rl 10) 12 (Ml 10), ai_ cy (rl 11) 12 (Ml 11)]) hP hD [0, 1, 2, 3, 4, 5, 6, 7, 8, 9, 10, 11, 12, 13, 14, 15] [] hC_ rfl (by decide) (by decide) hk1 hFc hP1 hD1
    refine pd_K [ob7_0_ xh xc u1 u2 u3 u4 u5 u6 v7_12 v8_13, ob0_0_ xc xn xk clo cro c4 c5 c6 c7 c8, ob3_0_ xn vp vn n1 n2 n3 n4 n5, aq_ cy 6 clo 12 (gf_ rl), ai_ cy (rl 0) 12 (Ml 0), ai_ cy (rl 1) 12 (Ml 1), ai_ cy (rl 2) 12 (Ml 2), ai_ cy (rl 3) 12 (Ml 3), ai_ cy (rl 4) 12 (Ml 4), ai_ cy (rl 5) 12 (Ml 5), ai_ cy (rl 6) 12 (Ml 6), ai_ cy (rl 7) 12 (Ml 7), ai_ cy (rl 8) 12 (Ml 8), ai_ cy (rl 9) 12 (Ml 9), ai_ cy (rl 10) 12 (Ml 10), ai_ cy (rl 11) 12 (Ml 11)] hP hD (fun hP hD => ?_)
    rw [hQ]
    exact W.vret hx hb hr (fun t ht hW => ⟨⟨(), rfl, trivial, v7_12, v8_13, by rw [ht]; exact hP, hD⟩, hS.F ht⟩) hS.2.2 dB_36_1_63.2.2.2.2
  · have t_1 : ¬ (0 : Int32).toInt ≤ a1.toInt := fun h => c_1 (Int32.le_iff_toInt_le.mpr h)
    refine lv_aload_n hx hb dB_36_1_62.1.1.2.1 rfl (lv_at hl 0 rfl) ?_
    refine lv_iload_n hx hb dB_36_1_62.1.1.2.2 rfl (lv_at hl 2 rfl) ?_
    refine lv_iload_n hx hb dB_36_1_62.1.2.1.1 rfl (lv_at hl 3 rfl) ?_
    refine ct_S hP hD hS hA [ob7_0_ xh xc u1 u2 u3 u4 u5 u6 u7 u8] [0] (by decide) rfl (fun hPc hDw hFc hC_ => ?_)
    refine va_callv (va_runV (As := [.int a2, .int a3]) (rest := []) ⟨hx, hb, hml, hown, hts⟩ (c_X7_compareDense l D cy s.heap.size xh u1 u2 u3 u4 u5 u6 u7 u8 xc a2 a3) (cwV 2 hts gX7_chooseForDense_X7_compareDense rfl rfl rfl ⟨rfl, hd_X7_compareDense⟩ ⟨Nat.le_of_ble_eq_true rfl, Nat.le_of_ble_eq_true rfl⟩) ⟨bl_, va_recvX hK.1 hP (ci := 7) (q0 := 0) rfl rfl, fun U hU hW => ⟨rfl, by rw [hU], by rw [hU]; exact hPc, kk_mv hW hK, hDw⟩⟩ rfl rfl hl.1 rfl (lv_room (Nat.le_of_ble_eq_true rfl)) dB_36_1_62.1.2.1.2 ⟨Nat.le_of_ble_eq_true rfl, Nat.le_of_ble_eq_true rfl⟩) hS (fun q _ h => hFc q h) hFc (fun u t H locs ht hvm hw hB hz1 hk1 hS => ?_)
    obtain ⟨v7_15, v8_16, hP1, hD1⟩ := hB
    rw [ht] at hP1
    obtain ⟨hP, hD⟩ := va_join (wr := [ob0_0_ xc xn xk clo cro c4 c5 c6 c7 c8, ob3_0_ xn vp vn n1 n2 n3 n4 n5, aq_ cy 6 clo 12 (gf_ rl), ai_ cy (rl 0) 12 (Ml 0), ai_ cy (rl 1) 12 (Ml 1), ai_ cy (rl 2) 12 (Ml 2), ai_ cy (rl 3) 12 (Ml 3), ai_ cy (rl 4) 12 (Ml 4), ai_ cy (rl 5) 12 (Ml 5), ai_ cy (rl 6) 12 (Ml 6), ai_ cy (rl 7) 12 (Ml 7), ai_ cy (rl 8) 12 (Ml 8), ai_ cy (rl 9) 12 (Ml 9), ai_ cy (rl 10) 12 (Ml 10), ai_ cy (rl 11) 12 (Ml 11)]) (w1 := [ob7_0_ xh xc u1 u2 u3 u4 u5 u6 v7_15 v8_16]) hP hD [0] [1, 2, 3, 4, 5, 6, 7, 8, 9, 10, 11, 12, 13, 14, 15] hC_ rfl (by decide +kernel) (by decide +kernel) hk1 hFc hP1 hD1
    refine pd_S hP hD [ob7_0_ xh xc u1 u2 u3 u4 u5 u6 v7_15 v8_16, ob0_0_ xc xn xk clo cro c4 c5 c6 c7 c8, ob3_0_ xn vp vn n1 n2 n3 n4 n5, aq_ cy 6 clo 12 (gf_ rl), ai_ cy (rl 0) 12 (Ml 0), ai_ cy (rl 1) 12 (Ml 1), ai_ cy (rl 2) 12 (Ml 2), ai_ cy (rl 3) 12 (Ml 3), ai_ cy (rl 4) 12 (Ml 4), ai_ cy (rl 5) 12 (Ml 5), ai_ cy (rl 6) 12 (Ml 6), ai_ cy (rl 7) 12 (Ml 7), ai_ cy (rl 8) 12 (Ml 8), ai_ cy (rl 9) 12 (Ml 9), ai_ cy (rl 10) 12 (Ml 10), ai_ cy (rl 11) 12 (Ml 11)] [15, 0, 1, 2, 3, 4, 5, 6, 7, 8, 9, 10, 11, 12, 13, 14] (by decide +kernel) rfl (fun hP hD => ?_)
    rw [hQ]
    exact W.vret hx hb hr (fun t ht hW => ⟨⟨(), rfl, trivial, v7_15, v8_16, by rw [ht]; exact hP, hD⟩, hS.F ht⟩) hS.2.2 dB_36_1_62.1.2.2.1

set_option maxHeartbeats 4000000 in
set_option maxRecDepth 100000 in
theorem c_X7_hunt (l : Launch) (D : va_G) (cy : Nat → ClassId) (sz : Nat) (xh : Nat) (u1 : Int32) (u2 : Int32) (u3 : Int32) (u4 : Int32) (u5 : Int32) (u6 : Int32) (u7 : Int32) (u8 : Int32) (xc : Nat) (xk : Nat) (clo : Nat) (cro : Nat) (c4 : Nat) (c5 : Nat) (c6 : Nat) (c7 : Nat) (c8 : Nat) (xn : Nat) (n1 : Nat) (n2 : Nat) (n3 : Nat) (n4 : Nat) (n5 : Nat) (vp : Int32) (vn : Int32) (rl : Nat → Nat) (Ml : Nat → Nat → Int32) (a1 : Int32) (a2 : Int32) (a3 : Int32) (a4 : Int32) (hvp : 0 ≤ vp.toInt ∧ vp.toInt ≤ 12) : Met l yX7_hunt wsX7_hunt ({ frames := 14, cells := 0, slots := 0, locals := 334 }) (va_Pc [.ref xh, .int a1, .int a2, .int a3, .int a4] (fun U => U.heap.size = sz ∧ va_P D vwCl [ob7_0_ xh xc u1 u2 u3 u4 u5 u6 u7 u8, ob0_0_ xc xn xk clo cro c4 c5 c6 c7 c8, ob3_0_ xn vp vn n1 n2 n3 n4 n5, aq_ cy 6 clo 12 (gf_ rl), ai_ cy (rl 0) 12 (Ml 0), ai_ cy (rl 1) 12 (Ml 1), ai_ cy (rl 2) 12 (Ml 2), ai_ cy (rl 3) 12 (Ml 3), ai_ cy (rl 4) 12 (Ml 4), ai_ cy (rl 5) 12 (Ml 5), ai_ cy (rl 6) 12 (Ml 6), ai_ cy (rl 7) 12 (Ml 7), ai_ cy (rl 8) 12 (Ml 8), ai_ cy (rl 9) 12 (Ml 9), ai_ cy (rl 10) 12 (Ml 10), ai_ cy (rl 11) 12 (Ml 11)] U.heap ∧ kg_ D cy U ∧ va_D (fun _ => True) [ob7_0_ xh xc u1 u2 u3 u4 u5 u6 u7 u8, ob0_0_ xc xn xk clo cro c4 c5 c6 c7 c8, ob3_0_ xn vp vn n1 n2 n3 n4 n5, aq_ cy 6 clo 12 (gf_ rl), ai_ cy (rl 0) 12 (Ml 0), ai_ cy (rl 1) 12 (Ml 1), ai_ cy (rl 2) 12 (Ml 2), ai_ cy (rl 3) 12 (Ml 3), ai_ cy (rl 4) 12 (Ml 4), ai_ cy (rl 5) 12 (Ml 5), ai_ cy (rl 6) 12 (Ml 6), ai_ cy (rl 7) 12 (Ml 7), ai_ cy (rl 8) 12 (Ml 8), ai_ cy (rl 9) 12 (Ml 9), ai_ cy (rl 10) 12 (Ml 10), ai_ cy (rl 11) 12 (Ml 11)])) (va_Qv (fun (_ : Unit) => True) (fun (_ : Unit) (t : State) => ∃ (v5 : Int32), ∃ (v6 : Int32), va_P D vwCl [ob7_0_ xh xc a1 a2 a3 a4 v5 v6 u7 u8, ob0_0_ xc xn xk clo cro c4 c5 c6 c7 c8, ob3_0_ xn vp vn n1 n2 n3 n4 n5, aq_ cy 6 clo 12 (gf_ rl), ai_ cy (rl 0) 12 (Ml 0), ai_ cy (rl 1) 12 (Ml 1), ai_ cy (rl 2) 12 (Ml 2), ai_ cy (rl 3) 12 (Ml 3), ai_ cy (rl 4) 12 (Ml 4), ai_ cy (rl 5) 12 (Ml 5), ai_ cy (rl 6) 12 (Ml 6), ai_ cy (rl 7) 12 (Ml 7), ai_ cy (rl 8) 12 (Ml 8), ai_ cy (rl 9) 12 (Ml 9), ai_ cy (rl 10) 12 (Ml 10), ai_ cy (rl 11) 12 (Ml 11)] t.heap ∧ va_D (va_A [ob7_0_ xh xc u1 u2 u3 u4 u5 u6 u7 u8, ob0_0_ xc xn xk clo cro c4 c5 c6 c7 c8, ob3_0_ xn vp vn n1 n2 n3 n4 n5, aq_ cy 6 clo 12 (gf_ rl), ai_ cy (rl 0) 12 (Ml 0), ai_ cy (rl 1) 12 (Ml 1), ai_ cy (rl 2) 12 (Ml 2), ai_ cy (rl 3) 12 (Ml 3), ai_ cy (rl 4) 12 (Ml 4), ai_ cy (rl 5) 12 (Ml 5), ai_ cy (rl 6) 12 (Ml 6), ai_ cy (rl 7) 12 (Ml 7), ai_ cy (rl 8) 12 (Ml 8), ai_ cy (rl 9) 12 (Ml 9), ai_ cy (rl 10) 12 (Ml 10), ai_ cy (rl 11) 12 (Ml 11)] sz) [ob7_0_ xh xc a1 a2 a3 a4 v5 v6 u7 u8, ob0_0_ xc xn xk clo cro c4 c5 c6 c7 c8, ob3_0_ xn vp vn n1 n2 n3 n4 n5, aq_ cy 6 clo 12 (gf_ rl), ai_ cy (rl 0) 12 (Ml 0), ai_ cy (rl 1) 12 (Ml 1), ai_ cy (rl 2) 12 (Ml 2), ai_ cy (rl 3) 12 (Ml 3), ai_ cy (rl 4) 12 (Ml 4), ai_ cy (rl 5) 12 (Ml 5), ai_ cy (rl 6) 12 (Ml 6), ai_ cy (rl 7) 12 (Ml 7), ai_ cy (rl 8) 12 (Ml 8), ai_ cy (rl 9) 12 (Ml 9), ai_ cy (rl 10) 12 (Ml 10), ai_ cy (rl 11) 12 (Ml 11)]) (va_A [ob7_0_ xh xc u1 u2 u3 u4 u5 u6 u7 u8, ob0_0_ xc xn xk clo cro c4 c5 c6 c7 c8, ob3_0_ xn vp vn n1 n2 n3 n4 n5, aq_ cy 6 clo 12 (gf_ rl), ai_ cy (rl 0) 12 (Ml 0), ai_ cy (rl 1) 12 (Ml 1), ai_ cy (rl 2) 12 (Ml 2), ai_ cy (rl 3) 12 (Ml 3), ai_ cy (rl 4) 12 (Ml 4), ai_ cy (rl 5) 12 (Ml 5), ai_ cy (rl 6) 12 (Ml 6), ai_ cy (rl 7) 12 (Ml 7), ai_ cy (rl 8) 12 (Ml 8), ai_ cy (rl 9) 12 (Ml 9), ai_ cy (rl 10) 12 (Ml 10), ai_ cy (rl 11) 12 (Ml 11)] sz)) 0 0 (va_A [ob7_0_ xh xc u1 u2 u3 u4 u5 u6 u7 u8, ob0_0_ xc xn xk clo cro c4 c5 c6 c7 c8, ob3_0_ xn vp vn n1 n2 n3 n4 n5, aq_ cy 6 clo 12 (gf_ rl), ai_ cy (rl 0) 12 (Ml 0), ai_ cy (rl 1) 12 (Ml 1), ai_ cy (rl 2) 12 (Ml 2), ai_ cy (rl 3) 12 (Ml 3), ai_ cy (rl 4) 12 (Ml 4), ai_ cy (rl 5) 12 (Ml 5), ai_ cy (rl 6) 12 (Ml 6), ai_ cy (rl 7) 12 (Ml 7), ai_ cy (rl 8) 12 (Ml 8), ai_ cy (rl 9) 12 (Ml 9), ai_ cy (rl 10) 12 (Ml 10), ai_ cy (rl 11) 12 (Ml 11)] sz) := by
  refine ofQ (cc := cX7_hunt) (maxL := 5) (ret := none) (by decide) rfl ?_
  intro p e s m args below meth c s₁ Q hQ B hml hv
  obtain ⟨rfl, hsz, hP, hK, hD0⟩ := hv
  have hG := hK.2
  have hK := hK.1
  have hx := B.exec
  have hb := B.bytes
  have hr := B.returns
  have hts := atoms_spec (ws := wsX7_hunt) B.pre
  have hown : s.vm.findClass RX7 = some m.cls := by have h_ := findClass_of_methodNamed B.named; exact h_
  have hlocks := B.notSynchronized
  subst hsz
  have hD := hD0.self (sz := s.heap.size)
  generalize hAe : va_A [ob7_0_ xh xc u1 u2 u3 u4 u5 u6 u7 u8, ob0_0_ xc xn xk clo cro c4 c5 c6 c7 c8, ob3_0_ xn vp vn n1 n2 n3 n4 n5, aq_ cy 6 clo 12 (gf_ rl), ai_ cy (rl 0) 12 (Ml 0), ai_ cy (rl 1) 12 (Ml 1), ai_ cy (rl 2) 12 (Ml 2), ai_ cy (rl 3) 12 (Ml 3), ai_ cy (rl 4) 12 (Ml 4), ai_ cy (rl 5) 12 (Ml 5), ai_ cy (rl 6) 12 (Ml 6), ai_ cy (rl 7) 12 (Ml 7), ai_ cy (rl 8) 12 (Ml 8), ai_ cy (rl 9) 12 (Ml 9), ai_ cy (rl 10) 12 (Ml 10), ai_ cy (rl 11) 12 (Ml 11)] s.heap.size = A at hD hQ
  have hA : ∀ q : Nat, s.heap.size ≤ q → A q := fun q h => by rw [← hAe]; exact Or.inr h
  have hS : va_S A s.heap s.heap [] := va_S.rf
  have hl := lv_entry ([.ref xh, .int a1, .int a2, .int a3, .int a4]) (n := 5) (Nat.le_of_ble_eq_true rfl)
  rw [lg_entry_eq]
  generalize (lg_sl ([.ref xh, .int a1, .int a2, .int a3, .int a4]) ++ List.replicate (5 - (lg_sl ([.ref xh, .int a1, .int a2, .int a3, .int a4])).length) Slot.unset).toArray = ls at hl ⊢
  have hl : lv_has ls 5 [(0, .ref xh), (1, .int a1), (2, .int a2), (3, .int a3), (4, .int a4)] := hl
  have zm9 : ((-9) : Int32).toInt = -9 := by decide
  have z0 : (0 : Int32).toInt = 0 := by decide
  have z1 : (1 : Int32).toInt = 1 := by decide
  refine lv_aload_n hx hb dB_36_1_70.1.1.1.1 rfl (lv_at hl 0 rfl) ?_
  refine lv_iload_n hx hb dB_36_1_70.1.1.1.2 rfl (lv_at hl 1 rfl) ?_
  refine va_put (ci := 7) (v := .int a1) (ty := .int) (C := RX7) (T := TX7) (N := 9) hx hb hts (fun _ h => List.mem_cons_of_mem _ (List.mem_append_left _ (List.mem_append_left _ (List.mem_append_right _ h)))) tyX7 tyX7_ok nmX7 hown hK.1 hP hD hS 0 rfl rfl 1 (by decide) (hts (.fieldLink RX7 27 "CutAtlas$SetHunt" "must" "I") (List.mem_of_getElem? (i := 1) rfl)) (fun _ h9 => h9) rfl (by decide +kernel) rfl rfl (Nat.le_of_ble_eq_true rfl) dB_36_1_70.1.1.2.1 (fun H locs hP hD hS => ?_)
  refine pd_K [ob7_0_ xh xc a1 u2 u3 u4 u5 u6 u7 u8, ob0_0_ xc xn xk clo cro c4 c5 c6 c7 c8, ob3_0_ xn vp vn n1 n2 n3 n4 n5, aq_ cy 6 clo 12 (gf_ rl), ai_ cy (rl 0) 12 (Ml 0), ai_ cy (rl 1) 12 (Ml 1), ai_ cy (rl 2) 12 (Ml 2), ai_ cy (rl 3) 12 (Ml 3), ai_ cy (rl 4) 12 (Ml 4), ai_ cy (rl 5) 12 (Ml 5), ai_ cy (rl 6) 12 (Ml 6), ai_ cy (rl 7) 12 (Ml 7), ai_ cy (rl 8) 12 (Ml 8), ai_ cy (rl 9) 12 (Ml 9), ai_ cy (rl 10) 12 (Ml 10), ai_ cy (rl 11) 12 (Ml 11)] hP hD (fun hP hD => ?_)
  refine lv_aload_n hx hb dB_36_1_70.1.1.2.2 rfl (lv_at hl 0 rfl) ?_
  refine lv_iload_n hx hb dB_36_1_70.1.2.1.1 rfl (lv_at hl 2 rfl) ?_
  refine va_put (ci := 7) (v := .int a2) (ty := .int) (C := RX7) (T := TX7) (N := 9) hx hb hts (fun _ h => List.mem_cons_of_mem _ (List.mem_append_left _ (List.mem_append_left _ (List.mem_append_right _ h)))) tyX7 tyX7_ok nmX7 hown hK.1 hP hD hS 0 rfl rfl 2 (by decide) (hts (.fieldLink RX7 30 "CutAtlas$SetHunt" "mustNot" "I") (List.mem_of_getElem? (i := 2) rfl)) (fun _ h9 => h9) rfl (by decide +kernel) rfl rfl (Nat.le_of_ble_eq_true rfl) dB_36_1_70.1.2.1.2 (fun H locs hP hD hS => ?_)
  refine pd_K [ob7_0_ xh xc a1 a2 u3 u4 u5 u6 u7 u8, ob0_0_ xc xn xk clo cro c4 c5 c6 c7 c8, ob3_0_ xn vp vn n1 n2 n3 n4 n5, aq_ cy 6 clo 12 (gf_ rl), ai_ cy (rl 0) 12 (Ml 0), ai_ cy (rl 1) 12 (Ml 1), ai_ cy (rl 2) 12 (Ml 2), ai_ cy (rl 3) 12 (Ml 3), ai_ cy (rl 4) 12 (Ml 4), ai_ cy (rl 5) 12 (Ml 5), ai_ cy (rl 6) 12 (Ml 6), ai_ cy (rl 7) 12 (Ml 7), ai_ cy (rl 8) 12 (Ml 8), ai_ cy (rl 9) 12 (Ml 9), ai_ cy (rl 10) 12 (Ml 10), ai_ cy (rl 11) 12 (Ml 11)] hP hD (fun hP hD => ?_)
  refine lv_aload_n hx hb dB_36_1_70.1.2.2.1 rfl (lv_at hl 0 rfl) ?_
  refine lv_iload_n hx hb dB_36_1_70.1.2.2.2 rfl (lv_at hl 3 rfl) ?_
  refine va_put (ci := 7) (v := .int a3) (ty := .int) (C := RX7) (T := TX7) (N := 9) hx hb hts (fun _ h => List.mem_cons_of_mem _ (List.mem_append_left _ (List.mem_append_left _ (List.mem_append_right _ h)))) tyX7 tyX7_ok nmX7 hown hK.1 hP hD hS 0 rfl rfl 3 (by decide) (hts (.fieldLink RX7 33 "CutAtlas$SetHunt" "aim" "I") (List.mem_of_getElem? (i := 3) rfl)) (fun _ h9 => h9) rfl (by decide +kernel) rfl rfl (Nat.le_of_ble_eq_true rfl) dB_36_1_70.2.1.1.1 (fun H locs hP hD hS => ?_)
  refine pd_K [ob7_0_ xh xc a1 a2 a3 u4 u5 u6 u7 u8, ob0_0_ xc xn xk clo cro c4 c5 c6 c7 c8, ob3_0_ xn vp vn n1 n2 n3 n4 n5, aq_ cy 6 clo 12 (gf_ rl), ai_ cy (rl 0) 12 (Ml 0), ai_ cy (rl 1) 12 (Ml 1), ai_ cy (rl 2) 12 (Ml 2), ai_ cy (rl 3) 12 (Ml 3), ai_ cy (rl 4) 12 (Ml 4), ai_ cy (rl 5) 12 (Ml 5), ai_ cy (rl 6) 12 (Ml 6), ai_ cy (rl 7) 12 (Ml 7), ai_ cy (rl 8) 12 (Ml 8), ai_ cy (rl 9) 12 (Ml 9), ai_ cy (rl 10) 12 (Ml 10), ai_ cy (rl 11) 12 (Ml 11)] hP hD (fun hP hD => ?_)
  refine lv_aload_n hx hb dB_36_1_70.2.1.1.2 rfl (lv_at hl 0 rfl) ?_
  refine lv_iload hx hb dB_36_1_70.2.1.2.1 (lv_at hl 4 rfl) ?_
  refine va_put (ci := 7) (v := .int a4) (ty := .int) (C := RX7) (T := TX7) (N := 9) hx hb hts (fun _ h => List.mem_cons_of_mem _ (List.mem_append_left _ (List.mem_append_left _ (List.mem_append_right _ h)))) tyX7 tyX7_ok nmX7 hown hK.1 hP hD hS 0 rfl rfl 4 (by decide) (hts (.fieldLink RX7 36 "CutAtlas$SetHunt" "wanted" "I") (List.mem_of_getElem? (i := 4) rfl)) (fun _ h9 => h9) rfl (by decide +kernel) rfl rfl (Nat.le_of_ble_eq_true rfl) dB_36_1_70.2.1.2.2 (fun H locs hP hD hS => ?_)
  refine pd_K [ob7_0_ xh xc a1 a2 a3 a4 u5 u6 u7 u8, ob0_0_ xc xn xk clo cro c4 c5 c6 c7 c8, ob3_0_ xn vp vn n1 n2 n3 n4 n5, aq_ cy 6 clo 12 (gf_ rl), ai_ cy (rl 0) 12 (Ml 0), ai_ cy (rl 1) 12 (Ml 1), ai_ cy (rl 2) 12 (Ml 2), ai_ cy (rl 3) 12 (Ml 3), ai_ cy (rl 4) 12 (Ml 4), ai_ cy (rl 5) 12 (Ml 5), ai_ cy (rl 6) 12 (Ml 6), ai_ cy (rl 7) 12 (Ml 7), ai_ cy (rl 8) 12 (Ml 8), ai_ cy (rl 9) 12 (Ml 9), ai_ cy (rl 10) 12 (Ml 10), ai_ cy (rl 11) 12 (Ml 11)] hP hD (fun hP hD => ?_)
  refine lv_aload_n hx hb dB_36_1_70.2.2.1.1 rfl (lv_at hl 0 rfl) ?_
  refine lv_iconst (v := 0) hx hb dB_36_1_70.2.2.1.2 (by decide) ?_
  refine va_put (ci := 7) (v := .int 0) (ty := .int) (C := RX7) (T := TX7) (N := 9) hx hb hts (fun _ h => List.mem_cons_of_mem _ (List.mem_append_left _ (List.mem_append_left _ (List.mem_append_right _ h)))) tyX7 tyX7_ok nmX7 hown hK.1 hP hD hS 0 rfl rfl 5 (by decide) (hts (.fieldLink RX7 20 "CutAtlas$SetHunt" "met" "I") (List.mem_of_getElem? (i := 5) rfl)) (fun _ h9 => h9) rfl (by decide +kernel) rfl rfl (Nat.le_of_ble_eq_true rfl) dB_36_1_70.2.2.2.1 (fun H locs hP hD hS => ?_)
  refine pd_K [ob7_0_ xh xc a1 a2 a3 a4 0 u6 u7 u8, ob0_0_ xc xn xk clo cro c4 c5 c6 c7 c8, ob3_0_ xn vp vn n1 n2 n3 n4 n5, aq_ cy 6 clo 12 (gf_ rl), ai_ cy (rl 0) 12 (Ml 0), ai_ cy (rl 1) 12 (Ml 1), ai_ cy (rl 2) 12 (Ml 2), ai_ cy (rl 3) 12 (Ml 3), ai_ cy (rl 4) 12 (Ml 4), ai_ cy (rl 5) 12 (Ml 5), ai_ cy (rl 6) 12 (Ml 6), ai_ cy (rl 7) 12 (Ml 7), ai_ cy (rl 8) 12 (Ml 8), ai_ cy (rl 9) 12 (Ml 9), ai_ cy (rl 10) 12 (Ml 10), ai_ cy (rl 11) 12 (Ml 11)] hP hD (fun hP hD => ?_)
  refine lv_aload_n hx hb dB_36_1_70.2.2.2.2 rfl (lv_at hl 0 rfl) ?_
  refine lv_bipush (v := (-9)) hx hb dB_36_1_71.1.1.1 (by decide) ?_
  refine va_put (ci := 7) (v := .int (-9)) (ty := .int) (C := RX7) (T := TX7) (N := 9) hx hb hts (fun _ h => List.mem_cons_of_mem _ (List.mem_append_left _ (List.mem_append_left _ (List.mem_append_right _ h)))) tyX7 tyX7_ok nmX7 hown hK.1 hP hD hS 0 rfl rfl 6 (by decide) (hts (.fieldLink RX7 24 "CutAtlas$SetHunt" "found" "I") (List.mem_of_getElem? (i := 6) rfl)) (fun _ h9 => h9) rfl (by decide +kernel) rfl rfl (Nat.le_of_ble_eq_true rfl) dB_36_1_71.1.1.2.1 (fun H locs hP hD hS => ?_)
  refine pd_K [ob7_0_ xh xc a1 a2 a3 a4 0 (-9) u7 u8, ob0_0_ xc xn xk clo cro c4 c5 c6 c7 c8, ob3_0_ xn vp vn n1 n2 n3 n4 n5, aq_ cy 6 clo 12 (gf_ rl), ai_ cy (rl 0) 12 (Ml 0), ai_ cy (rl 1) 12 (Ml 1), ai_ cy (rl 2) 12 (Ml 2), ai_ cy (rl 3) 12 (Ml 3), ai_ cy (rl 4) 12 (Ml 4), ai_ cy (rl 5) 12 (Ml 5), ai_ cy (rl 6) 12 (Ml 6), ai_ cy (rl 7) 12 (Ml 7), ai_ cy (rl 8) 12 (Ml 8), ai_ cy (rl 9) 12 (Ml 9), ai_ cy (rl 10) 12 (Ml 10), ai_ cy (rl 11) 12 (Ml 11)] hP hD (fun hP hD => ?_)
  refine lv_aload_n hx hb dB_36_1_71.1.1.2.2 rfl (lv_at hl 0 rfl) ?_
  refine lv_aload_n hx hb dB_36_1_71.1.2.1 rfl (lv_at hl 0 rfl) ?_
  refine va_get (ci := 7) (v := .ref xc) (C := RX7) (T := TX7) (N := 9) hx hb hts (fun _ h => List.mem_cons_of_mem _ (List.mem_append_left _ (List.mem_append_left _ (List.mem_append_right _ h)))) hown hK.1 hP 0 rfl rfl 0 (by decide) (hts (.fieldLink RX7 9 "CutAtlas$SetHunt" "current" "LCutAtlas$Current;") (List.mem_of_getElem? (i := 7) rfl)) (fun _ h9 => h9) rfl dB_36_1_71.1.2.2.1 ?_
  refine va_get (ci := 0) (v := .ref xn) (C := RX0) (T := TX0) (N := 9) hx hb hts (fun _ h => List.mem_cons_of_mem _ (List.mem_append_left _ (List.mem_append_right _ h))) hown hK.1 hP 1 rfl rfl 0 (by decide) (hts (.fieldLink RX7 39 "CutAtlas$Current" "net" "LCutAtlas$Net;") (List.mem_of_getElem? (i := 8) rfl)) (fun _ h9 => h9) rfl dB_36_1_71.1.2.2.2 ?_
  refine va_get (ci := 3) (v := .int vp) (C := RX3) (T := TX3) (N := 7) hx hb hts (fun _ h => List.mem_cons_of_mem _ (List.mem_append_right _ h)) hown hK.1 hP 2 rfl rfl 0 (by decide) (hts (.fieldLink RX7 45 "CutAtlas$Net" "places" "I") (List.mem_of_getElem? (i := 9) rfl)) (fun _ h9 => h9) rfl dB_36_1_71.2.1.1 ?_
  refine lv_iconst (v := 1) hx hb dB_36_1_71.2.1.2.1 (by decide) ?_
  refine lv_isub hx hb dB_36_1_71.2.1.2.2 ?_
  refine lv_topi (fun y_1 ey_1 => ?_)
  have ty_1 : y_1.toInt = vp.toInt - (1 : Int32).toInt := by rw [ey_1]; exact subI (by omega) (by omega)
  refine lv_iconst (v := 0) hx hb dB_36_1_71.2.2.1.1 (by decide) ?_
  refine lv_iconst (v := 0) hx hb dB_36_1_71.2.2.1.2 (by decide) ?_
  refine ct_S hP hD hS hA [ob7_0_ xh xc a1 a2 a3 a4 0 (-9) u7 u8, ob0_0_ xc xn xk clo cro c4 c5 c6 c7 c8, ob3_0_ xn vp vn n1 n2 n3 n4 n5, aq_ cy 6 clo 12 (gf_ rl), ai_ cy (rl 0) 12 (Ml 0), ai_ cy (rl 1) 12 (Ml 1), ai_ cy (rl 2) 12 (Ml 2), ai_ cy (rl 3) 12 (Ml 3), ai_ cy (rl 4) 12 (Ml 4), ai_ cy (rl 5) 12 (Ml 5), ai_ cy (rl 6) 12 (Ml 6), ai_ cy (rl 7) 12 (Ml 7), ai_ cy (rl 8) 12 (Ml 8), ai_ cy (rl 9) 12 (Ml 9), ai_ cy (rl 10) 12 (Ml 10), ai_ cy (rl 11) 12 (Ml 11)] [0, 1, 2, 3, 4, 5, 6, 7, 8, 9, 10, 11, 12, 13, 14, 15] (by decide +kernel) rfl (fun hPc hDw hFc hC_ => ?_)
  refine va_callv (va_runV (As := [.int y_1, .int 0, .int 0]) (rest := []) ⟨hx, hb, hml, hown, hts⟩ (c_X7_chooseForCut_12 l D cy H.size xh a1 a2 a3 a4 (0 : Int32) ((-9) : Int32) u7 u8 xc xk clo cro c4 c5 c6 c7 c8 xn n1 n2 n3 n4 n5 vp vn rl Ml y_1 (0 : Int32) (0 : Int32) (by first | with_reducible assumption | omega | assumption) (by first | with_reducible assumption | omega | assumption)) (cwV 3 hts gX7_hunt_X7_chooseForCut rfl rfl rfl ⟨rfl, hd_X7_chooseForCut⟩ ⟨Nat.le_of_ble_eq_true rfl, Nat.le_of_ble_eq_true rfl⟩) ⟨bl_g, va_recvX hK.1 hP (ci := 7) (q0 := 0) rfl rfl, fun U hU hW => ⟨rfl, by rw [hU], by rw [hU]; exact hPc, ⟨kk_mv hW hK, arrOfT_moved hW.alike hG⟩, hDw⟩⟩ rfl rfl hl.1 rfl (lv_room (Nat.le_of_ble_eq_true rfl)) dB_36_1_71.2.2.2.1 ⟨Nat.le_of_ble_eq_true rfl, Nat.le_of_ble_eq_true rfl⟩) hS (fun q _ h => hFc q h) hFc (fun u t H locs ht hvm hw hB hz1 hk1 hS => ?_)
  obtain ⟨v5_3, v6_4, hP1, hD1⟩ := hB
  rw [ht] at hP1
  obtain ⟨hP, hD⟩ := va_join (wr := []) (w1 := [ob7_0_ xh xc a1 a2 a3 a4 v5_3 v6_4 u7 u8, ob0_0_ xc xn xk clo cro c4 c5 c6 c7 c8, ob3_0_ xn vp vn n1 n2 n3 n4 n5, aq_ cy 6 clo 12 (gf_ rl), ai_ cy (rl 0) 12 (Ml 0), ai_ cy (rl 1) 12 (Ml 1), ai_ cy (rl 2) 12 (Ml 2), ai_ cy (rl 3) 12 (Ml 3), ai_ cy (rl 4) 12 (Ml 4), ai_ cy (rl 5) 12 (Ml 5), ai_ cy (rl 6) 12 (Ml 6), ai_ cy (rl 7) 12 (Ml 7), ai_ cy (rl 8) 12 (Ml 8), ai_ cy (rl 9) 12 (Ml 9), ai_ cy (rl 10) 12 (Ml 10), ai_ cy (rl 11) 12 (Ml 11)]) hP hD [0, 1, 2, 3, 4, 5, 6, 7, 8, 9, 10, 11, 12, 13, 14, 15] [] hC_ rfl (by decide) (by decide) hk1 hFc hP1 hD1
  refine pd_K [ob7_0_ xh xc a1 a2 a3 a4 v5_3 v6_4 u7 u8, ob0_0_ xc xn xk clo cro c4 c5 c6 c7 c8, ob3_0_ xn vp vn n1 n2 n3 n4 n5, aq_ cy 6 clo 12 (gf_ rl), ai_ cy (rl 0) 12 (Ml 0), ai_ cy (rl 1) 12 (Ml 1), ai_ cy (rl 2) 12 (Ml 2), ai_ cy (rl 3) 12 (Ml 3), ai_ cy (rl 4) 12 (Ml 4), ai_ cy (rl 5) 12 (Ml 5), ai_ cy (rl 6) 12 (Ml 6), ai_ cy (rl 7) 12 (Ml 7), ai_ cy (rl 8) 12 (Ml 8), ai_ cy (rl 9) 12 (Ml 9), ai_ cy (rl 10) 12 (Ml 10), ai_ cy (rl 11) 12 (Ml 11)] hP hD (fun hP hD => ?_)
  rw [hQ]
  exact W.vret hx hb hr (fun t ht hW => ⟨⟨(), rfl, trivial, v5_3, v6_4, by rw [ht]; exact hP, hD⟩, hS.F ht⟩) hS.2.2 dB_36_1_71.2.2.2.2

set_option maxHeartbeats 4000000 in
set_option maxRecDepth 100000 in
theorem c_X7_countCuts (l : Launch) (D : va_G) (cy : Nat → ClassId) (sz : Nat) (xh : Nat) (u1 : Int32) (u2 : Int32) (u3 : Int32) (u4 : Int32) (u5 : Int32) (u6 : Int32) (u7 : Int32) (u8 : Int32) (xc : Nat) (xk : Nat) (clo : Nat) (cro : Nat) (c4 : Nat) (c5 : Nat) (c6 : Nat) (c7 : Nat) (c8 : Nat) (xn : Nat) (n1 : Nat) (n2 : Nat) (n3 : Nat) (n4 : Nat) (n5 : Nat) (vp : Int32) (vn : Int32) (rl : Nat → Nat) (Ml : Nat → Nat → Int32) (a1 : Int32) (a2 : Int32) (a3 : Int32) (hvp : 0 ≤ vp.toInt ∧ vp.toInt ≤ 12) : Met l yX7_countCuts wsX7_countCuts ({ frames := 15, cells := 0, slots := 0, locals := 358 }) (va_Pc [.ref xh, .int a1, .int a2, .int a3] (fun U => U.heap.size = sz ∧ va_P D vwCl [ob7_0_ xh xc u1 u2 u3 u4 u5 u6 u7 u8, ob0_0_ xc xn xk clo cro c4 c5 c6 c7 c8, ob3_0_ xn vp vn n1 n2 n3 n4 n5, aq_ cy 6 clo 12 (gf_ rl), ai_ cy (rl 0) 12 (Ml 0), ai_ cy (rl 1) 12 (Ml 1), ai_ cy (rl 2) 12 (Ml 2), ai_ cy (rl 3) 12 (Ml 3), ai_ cy (rl 4) 12 (Ml 4), ai_ cy (rl 5) 12 (Ml 5), ai_ cy (rl 6) 12 (Ml 6), ai_ cy (rl 7) 12 (Ml 7), ai_ cy (rl 8) 12 (Ml 8), ai_ cy (rl 9) 12 (Ml 9), ai_ cy (rl 10) 12 (Ml 10), ai_ cy (rl 11) 12 (Ml 11)] U.heap ∧ kg_ D cy U ∧ va_D (fun _ => True) [ob7_0_ xh xc u1 u2 u3 u4 u5 u6 u7 u8, ob0_0_ xc xn xk clo cro c4 c5 c6 c7 c8, ob3_0_ xn vp vn n1 n2 n3 n4 n5, aq_ cy 6 clo 12 (gf_ rl), ai_ cy (rl 0) 12 (Ml 0), ai_ cy (rl 1) 12 (Ml 1), ai_ cy (rl 2) 12 (Ml 2), ai_ cy (rl 3) 12 (Ml 3), ai_ cy (rl 4) 12 (Ml 4), ai_ cy (rl 5) 12 (Ml 5), ai_ cy (rl 6) 12 (Ml 6), ai_ cy (rl 7) 12 (Ml 7), ai_ cy (rl 8) 12 (Ml 8), ai_ cy (rl 9) 12 (Ml 9), ai_ cy (rl 10) 12 (Ml 10), ai_ cy (rl 11) 12 (Ml 11)])) (va_Qi (fun (r : Int32) (_ : Unit) => True) (fun (_ : Unit) (t : State) => ∃ (v5 : Int32), ∃ (v6 : Int32), va_P D vwCl [ob7_0_ xh xc a1 a2 a3 1000000000 v5 v6 u7 u8, ob0_0_ xc xn xk clo cro c4 c5 c6 c7 c8, ob3_0_ xn vp vn n1 n2 n3 n4 n5, aq_ cy 6 clo 12 (gf_ rl), ai_ cy (rl 0) 12 (Ml 0), ai_ cy (rl 1) 12 (Ml 1), ai_ cy (rl 2) 12 (Ml 2), ai_ cy (rl 3) 12 (Ml 3), ai_ cy (rl 4) 12 (Ml 4), ai_ cy (rl 5) 12 (Ml 5), ai_ cy (rl 6) 12 (Ml 6), ai_ cy (rl 7) 12 (Ml 7), ai_ cy (rl 8) 12 (Ml 8), ai_ cy (rl 9) 12 (Ml 9), ai_ cy (rl 10) 12 (Ml 10), ai_ cy (rl 11) 12 (Ml 11)] t.heap ∧ va_D (va_A [ob7_0_ xh xc u1 u2 u3 u4 u5 u6 u7 u8, ob0_0_ xc xn xk clo cro c4 c5 c6 c7 c8, ob3_0_ xn vp vn n1 n2 n3 n4 n5, aq_ cy 6 clo 12 (gf_ rl), ai_ cy (rl 0) 12 (Ml 0), ai_ cy (rl 1) 12 (Ml 1), ai_ cy (rl 2) 12 (Ml 2), ai_ cy (rl 3) 12 (Ml 3), ai_ cy (rl 4) 12 (Ml 4), ai_ cy (rl 5) 12 (Ml 5), ai_ cy (rl 6) 12 (Ml 6), ai_ cy (rl 7) 12 (Ml 7), ai_ cy (rl 8) 12 (Ml 8), ai_ cy (rl 9) 12 (Ml 9), ai_ cy (rl 10) 12 (Ml 10), ai_ cy (rl 11) 12 (Ml 11)] sz) [ob7_0_ xh xc a1 a2 a3 1000000000 v5 v6 u7 u8, ob0_0_ xc xn xk clo cro c4 c5 c6 c7 c8, ob3_0_ xn vp vn n1 n2 n3 n4 n5, aq_ cy 6 clo 12 (gf_ rl), ai_ cy (rl 0) 12 (Ml 0), ai_ cy (rl 1) 12 (Ml 1), ai_ cy (rl 2) 12 (Ml 2), ai_ cy (rl 3) 12 (Ml 3), ai_ cy (rl 4) 12 (Ml 4), ai_ cy (rl 5) 12 (Ml 5), ai_ cy (rl 6) 12 (Ml 6), ai_ cy (rl 7) 12 (Ml 7), ai_ cy (rl 8) 12 (Ml 8), ai_ cy (rl 9) 12 (Ml 9), ai_ cy (rl 10) 12 (Ml 10), ai_ cy (rl 11) 12 (Ml 11)]) (va_A [ob7_0_ xh xc u1 u2 u3 u4 u5 u6 u7 u8, ob0_0_ xc xn xk clo cro c4 c5 c6 c7 c8, ob3_0_ xn vp vn n1 n2 n3 n4 n5, aq_ cy 6 clo 12 (gf_ rl), ai_ cy (rl 0) 12 (Ml 0), ai_ cy (rl 1) 12 (Ml 1), ai_ cy (rl 2) 12 (Ml 2), ai_ cy (rl 3) 12 (Ml 3), ai_ cy (rl 4) 12 (Ml 4), ai_ cy (rl 5) 12 (Ml 5), ai_ cy (rl 6) 12 (Ml 6), ai_ cy (rl 7) 12 (Ml 7), ai_ cy (rl 8) 12 (Ml 8), ai_ cy (rl 9) 12 (Ml 9), ai_ cy (rl 10) 12 (Ml 10), ai_ cy (rl 11) 12 (Ml 11)] sz)) 0 0 (va_A [ob7_0_ xh xc u1 u2 u3 u4 u5 u6 u7 u8, ob0_0_ xc xn xk clo cro c4 c5 c6 c7 c8, ob3_0_ xn vp vn n1 n2 n3 n4 n5, aq_ cy 6 clo 12 (gf_ rl), ai_ cy (rl 0) 12 (Ml 0), ai_ cy (rl 1) 12 (Ml 1), ai_ cy (rl 2) 12 (Ml 2), ai_ cy (rl 3) 12 (Ml 3), ai_ cy (rl 4) 12 (Ml 4), ai_ cy (rl 5) 12 (Ml 5), ai_ cy (rl 6) 12 (Ml 6), ai_ cy (rl 7) 12 (Ml 7), ai_ cy (rl 8) 12 (Ml 8), ai_ cy (rl 9) 12 (Ml 9), ai_ cy (rl 10) 12 (Ml 10), ai_ cy (rl 11) 12 (Ml 11)] sz) := by
  refine ofQ (cc := cX7_countCuts) (maxL := 4) (ret := (some .int)) (by decide) rfl ?_
  intro p e s m args below meth c s₁ Q hQ B hml hv
  obtain ⟨rfl, hsz, hP, hK, hD0⟩ := hv
  have hG := hK.2
  have hK := hK.1
  have hx := B.exec
  have hb := B.bytes
  have hr := B.returns
  have hts := atoms_spec (ws := wsX7_countCuts) B.pre
  have hown : s.vm.findClass RX7 = some m.cls := by have h_ := findClass_of_methodNamed B.named; exact h_
  have hlocks := B.notSynchronized
  subst hsz
  have hD := hD0.self (sz := s.heap.size)
  generalize hAe : va_A [ob7_0_ xh xc u1 u2 u3 u4 u5 u6 u7 u8, ob0_0_ xc xn xk clo cro c4 c5 c6 c7 c8, ob3_0_ xn vp vn n1 n2 n3 n4 n5, aq_ cy 6 clo 12 (gf_ rl), ai_ cy (rl 0) 12 (Ml 0), ai_ cy (rl 1) 12 (Ml 1), ai_ cy (rl 2) 12 (Ml 2), ai_ cy (rl 3) 12 (Ml 3), ai_ cy (rl 4) 12 (Ml 4), ai_ cy (rl 5) 12 (Ml 5), ai_ cy (rl 6) 12 (Ml 6), ai_ cy (rl 7) 12 (Ml 7), ai_ cy (rl 8) 12 (Ml 8), ai_ cy (rl 9) 12 (Ml 9), ai_ cy (rl 10) 12 (Ml 10), ai_ cy (rl 11) 12 (Ml 11)] s.heap.size = A at hD hQ
  have hA : ∀ q : Nat, s.heap.size ≤ q → A q := fun q h => by rw [← hAe]; exact Or.inr h
  have hS : va_S A s.heap s.heap [] := va_S.rf
  have hl := lv_entry ([.ref xh, .int a1, .int a2, .int a3]) (n := 4) (Nat.le_of_ble_eq_true rfl)
  rw [lg_entry_eq]
  generalize (lg_sl ([.ref xh, .int a1, .int a2, .int a3]) ++ List.replicate (4 - (lg_sl ([.ref xh, .int a1, .int a2, .int a3])).length) Slot.unset).toArray = ls at hl ⊢
  have hl : lv_has ls 4 [(0, .ref xh), (1, .int a1), (2, .int a2), (3, .int a3)] := hl
  have z1000000000 : (1000000000 : Int32).toInt = 1000000000 := by decide
  refine lv_aload_n hx hb dB_36_1_66.1.1.1 rfl (lv_at hl 0 rfl) ?_
  refine lv_iload_n hx hb dB_36_1_66.1.1.2 rfl (lv_at hl 1 rfl) ?_
  refine lv_iload_n hx hb dB_36_1_66.1.2.1 rfl (lv_at hl 2 rfl) ?_
  refine lv_iload_n hx hb dB_36_1_66.1.2.2 rfl (lv_at hl 3 rfl) ?_
  refine lv_ldc (v := 1000000000) hx hb hown (hts (.constant RX7 15 (1000000000)) (List.mem_of_getElem? (i := 1) rfl)) dB_36_1_66.2.1.1 ?_
  refine ct_S hP hD hS hA [ob7_0_ xh xc u1 u2 u3 u4 u5 u6 u7 u8, ob0_0_ xc xn xk clo cro c4 c5 c6 c7 c8, ob3_0_ xn vp vn n1 n2 n3 n4 n5, aq_ cy 6 clo 12 (gf_ rl), ai_ cy (rl 0) 12 (Ml 0), ai_ cy (rl 1) 12 (Ml 1), ai_ cy (rl 2) 12 (Ml 2), ai_ cy (rl 3) 12 (Ml 3), ai_ cy (rl 4) 12 (Ml 4), ai_ cy (rl 5) 12 (Ml 5), ai_ cy (rl 6) 12 (Ml 6), ai_ cy (rl 7) 12 (Ml 7), ai_ cy (rl 8) 12 (Ml 8), ai_ cy (rl 9) 12 (Ml 9), ai_ cy (rl 10) 12 (Ml 10), ai_ cy (rl 11) 12 (Ml 11)] [0, 1, 2, 3, 4, 5, 6, 7, 8, 9, 10, 11, 12, 13, 14, 15] (by decide +kernel) rfl (fun hPc hDw hFc hC_ => ?_)
  refine va_callv (va_runV (As := [.int a1, .int a2, .int a3, .int 1000000000]) (rest := []) ⟨hx, hb, hml, hown, hts⟩ (c_X7_hunt l D cy s.heap.size xh u1 u2 u3 u4 u5 u6 u7 u8 xc xk clo cro c4 c5 c6 c7 c8 xn n1 n2 n3 n4 n5 vp vn rl Ml a1 a2 a3 (1000000000 : Int32) (by first | with_reducible assumption | omega | assumption)) (cwV 4 hts gX7_countCuts_X7_hunt rfl rfl rfl ⟨rfl, hd_X7_hunt⟩ ⟨Nat.le_of_ble_eq_true rfl, Nat.le_of_ble_eq_true rfl⟩) ⟨bl_g, va_recvX hK.1 hP (ci := 7) (q0 := 0) rfl rfl, fun U hU hW => ⟨rfl, by rw [hU], by rw [hU]; exact hPc, ⟨kk_mv hW hK, arrOfT_moved hW.alike hG⟩, hDw⟩⟩ rfl rfl hl.1 rfl (lv_room (Nat.le_of_ble_eq_true rfl)) dB_36_1_66.2.1.2 ⟨Nat.le_of_ble_eq_true rfl, Nat.le_of_ble_eq_true rfl⟩) hS (fun q _ h => hFc q h) hFc (fun u t H locs ht hvm hw hB hz1 hk1 hS => ?_)
  obtain ⟨v5_2, v6_3, hP1, hD1⟩ := hB
  rw [ht] at hP1
  obtain ⟨hP, hD⟩ := va_join (wr := []) (w1 := [ob7_0_ xh xc a1 a2 a3 1000000000 v5_2 v6_3 u7 u8, ob0_0_ xc xn xk clo cro c4 c5 c6 c7 c8, ob3_0_ xn vp vn n1 n2 n3 n4 n5, aq_ cy 6 clo 12 (gf_ rl), ai_ cy (rl 0) 12 (Ml 0), ai_ cy (rl 1) 12 (Ml 1), ai_ cy (rl 2) 12 (Ml 2), ai_ cy (rl 3) 12 (Ml 3), ai_ cy (rl 4) 12 (Ml 4), ai_ cy (rl 5) 12 (Ml 5), ai_ cy (rl 6) 12 (Ml 6), ai_ cy (rl 7) 12 (Ml 7), ai_ cy (rl 8) 12 (Ml 8), ai_ cy (rl 9) 12 (Ml 9), ai_ cy (rl 10) 12 (Ml 10), ai_ cy (rl 11) 12 (Ml 11)]) hP hD [0, 1, 2, 3, 4, 5, 6, 7, 8, 9, 10, 11, 12, 13, 14, 15] [] hC_ rfl (by decide) (by decide) hk1 hFc hP1 hD1
  refine pd_K [ob7_0_ xh xc a1 a2 a3 1000000000 v5_2 v6_3 u7 u8, ob0_0_ xc xn xk clo cro c4 c5 c6 c7 c8, ob3_0_ xn vp vn n1 n2 n3 n4 n5, aq_ cy 6 clo 12 (gf_ rl), ai_ cy (rl 0) 12 (Ml 0), ai_ cy (rl 1) 12 (Ml 1), ai_ cy (rl 2) 12 (Ml 2), ai_ cy (rl 3) 12 (Ml 3), ai_ cy (rl 4) 12 (Ml 4), ai_ cy (rl 5) 12 (Ml 5), ai_ cy (rl 6) 12 (Ml 6), ai_ cy (rl 7) 12 (Ml 7), ai_ cy (rl 8) 12 (Ml 8), ai_ cy (rl 9) 12 (Ml 9), ai_ cy (rl 10) 12 (Ml 10), ai_ cy (rl 11) 12 (Ml 11)] hP hD (fun hP hD => ?_)
  refine lv_aload_n hx hb dB_36_1_66.2.2.1 rfl (lv_at hl 0 rfl) ?_
  refine va_get (ci := 7) (v := .int v5_2) (C := RX7) (T := TX7) (N := 9) hx hb hts (fun _ h => List.mem_cons_of_mem _ (List.mem_append_left _ (List.mem_append_left _ (List.mem_append_right _ h)))) hown hK.1 hP 0 rfl rfl 5 (by decide) (hts (.fieldLink RX7 20 "CutAtlas$SetHunt" "met" "I") (List.mem_of_getElem? (i := 2) rfl)) (fun _ h9 => h9) rfl dB_36_1_66.2.2.2.1 ?_
  rw [hQ]
  exact W.iret (v := v5_2) hx hb hr (fun t ht hW => ⟨⟨v5_2, (), rfl, trivial, v5_2, v6_3, by rw [ht]; exact hP, hD⟩, hS.F ht⟩) hS.2.2 dB_36_1_66.2.2.2.2

set_option maxHeartbeats 4000000 in
set_option maxRecDepth 100000 in
theorem c_X7_findCut (l : Launch) (D : va_G) (cy : Nat → ClassId) (sz : Nat) (xh : Nat) (u1 : Int32) (u2 : Int32) (u3 : Int32) (u4 : Int32) (u5 : Int32) (u6 : Int32) (u7 : Int32) (u8 : Int32) (xc : Nat) (xk : Nat) (clo : Nat) (cro : Nat) (c4 : Nat) (c5 : Nat) (c6 : Nat) (c7 : Nat) (c8 : Nat) (xn : Nat) (n1 : Nat) (n2 : Nat) (n3 : Nat) (n4 : Nat) (n5 : Nat) (vp : Int32) (vn : Int32) (rl : Nat → Nat) (Ml : Nat → Nat → Int32) (a1 : Int32) (a2 : Int32) (a3 : Int32) (a4 : Int32) (hvp : 0 ≤ vp.toInt ∧ vp.toInt ≤ 12) : Met l yX7_findCut wsX7_findCut ({ frames := 15, cells := 0, slots := 0, locals := 358 }) (va_Pc [.ref xh, .int a1, .int a2, .int a3, .int a4] (fun U => U.heap.size = sz ∧ va_P D vwCl [ob7_0_ xh xc u1 u2 u3 u4 u5 u6 u7 u8, ob0_0_ xc xn xk clo cro c4 c5 c6 c7 c8, ob3_0_ xn vp vn n1 n2 n3 n4 n5, aq_ cy 6 clo 12 (gf_ rl), ai_ cy (rl 0) 12 (Ml 0), ai_ cy (rl 1) 12 (Ml 1), ai_ cy (rl 2) 12 (Ml 2), ai_ cy (rl 3) 12 (Ml 3), ai_ cy (rl 4) 12 (Ml 4), ai_ cy (rl 5) 12 (Ml 5), ai_ cy (rl 6) 12 (Ml 6), ai_ cy (rl 7) 12 (Ml 7), ai_ cy (rl 8) 12 (Ml 8), ai_ cy (rl 9) 12 (Ml 9), ai_ cy (rl 10) 12 (Ml 10), ai_ cy (rl 11) 12 (Ml 11)] U.heap ∧ kg_ D cy U ∧ va_D (fun _ => True) [ob7_0_ xh xc u1 u2 u3 u4 u5 u6 u7 u8, ob0_0_ xc xn xk clo cro c4 c5 c6 c7 c8, ob3_0_ xn vp vn n1 n2 n3 n4 n5, aq_ cy 6 clo 12 (gf_ rl), ai_ cy (rl 0) 12 (Ml 0), ai_ cy (rl 1) 12 (Ml 1), ai_ cy (rl 2) 12 (Ml 2), ai_ cy (rl 3) 12 (Ml 3), ai_ cy (rl 4) 12 (Ml 4), ai_ cy (rl 5) 12 (Ml 5), ai_ cy (rl 6) 12 (Ml 6), ai_ cy (rl 7) 12 (Ml 7), ai_ cy (rl 8) 12 (Ml 8), ai_ cy (rl 9) 12 (Ml 9), ai_ cy (rl 10) 12 (Ml 10), ai_ cy (rl 11) 12 (Ml 11)])) (va_Qi (fun (r : Int32) (_ : Unit) => True) (fun (_ : Unit) (t : State) => ∃ (v5 : Int32), ∃ (v6 : Int32), va_P D vwCl [ob7_0_ xh xc a1 a2 a3 a4 v5 v6 u7 u8, ob0_0_ xc xn xk clo cro c4 c5 c6 c7 c8, ob3_0_ xn vp vn n1 n2 n3 n4 n5, aq_ cy 6 clo 12 (gf_ rl), ai_ cy (rl 0) 12 (Ml 0), ai_ cy (rl 1) 12 (Ml 1), ai_ cy (rl 2) 12 (Ml 2), ai_ cy (rl 3) 12 (Ml 3), ai_ cy (rl 4) 12 (Ml 4), ai_ cy (rl 5) 12 (Ml 5), ai_ cy (rl 6) 12 (Ml 6), ai_ cy (rl 7) 12 (Ml 7), ai_ cy (rl 8) 12 (Ml 8), ai_ cy (rl 9) 12 (Ml 9), ai_ cy (rl 10) 12 (Ml 10), ai_ cy (rl 11) 12 (Ml 11)] t.heap ∧ va_D (va_A [ob7_0_ xh xc u1 u2 u3 u4 u5 u6 u7 u8, ob0_0_ xc xn xk clo cro c4 c5 c6 c7 c8, ob3_0_ xn vp vn n1 n2 n3 n4 n5, aq_ cy 6 clo 12 (gf_ rl), ai_ cy (rl 0) 12 (Ml 0), ai_ cy (rl 1) 12 (Ml 1), ai_ cy (rl 2) 12 (Ml 2), ai_ cy (rl 3) 12 (Ml 3), ai_ cy (rl 4) 12 (Ml 4), ai_ cy (rl 5) 12 (Ml 5), ai_ cy (rl 6) 12 (Ml 6), ai_ cy (rl 7) 12 (Ml 7), ai_ cy (rl 8) 12 (Ml 8), ai_ cy (rl 9) 12 (Ml 9), ai_ cy (rl 10) 12 (Ml 10), ai_ cy (rl 11) 12 (Ml 11)] sz) [ob7_0_ xh xc a1 a2 a3 a4 v5 v6 u7 u8, ob0_0_ xc xn xk clo cro c4 c5 c6 c7 c8, ob3_0_ xn vp vn n1 n2 n3 n4 n5, aq_ cy 6 clo 12 (gf_ rl), ai_ cy (rl 0) 12 (Ml 0), ai_ cy (rl 1) 12 (Ml 1), ai_ cy (rl 2) 12 (Ml 2), ai_ cy (rl 3) 12 (Ml 3), ai_ cy (rl 4) 12 (Ml 4), ai_ cy (rl 5) 12 (Ml 5), ai_ cy (rl 6) 12 (Ml 6), ai_ cy (rl 7) 12 (Ml 7), ai_ cy (rl 8) 12 (Ml 8), ai_ cy (rl 9) 12 (Ml 9), ai_ cy (rl 10) 12 (Ml 10), ai_ cy (rl 11) 12 (Ml 11)]) (va_A [ob7_0_ xh xc u1 u2 u3 u4 u5 u6 u7 u8, ob0_0_ xc xn xk clo cro c4 c5 c6 c7 c8, ob3_0_ xn vp vn n1 n2 n3 n4 n5, aq_ cy 6 clo 12 (gf_ rl), ai_ cy (rl 0) 12 (Ml 0), ai_ cy (rl 1) 12 (Ml 1), ai_ cy (rl 2) 12 (Ml 2), ai_ cy (rl 3) 12 (Ml 3), ai_ cy (rl 4) 12 (Ml 4), ai_ cy (rl 5) 12 (Ml 5), ai_ cy (rl 6) 12 (Ml 6), ai_ cy (rl 7) 12 (Ml 7), ai_ cy (rl 8) 12 (Ml 8), ai_ cy (rl 9) 12 (Ml 9), ai_ cy (rl 10) 12 (Ml 10), ai_ cy (rl 11) 12 (Ml 11)] sz)) 0 0 (va_A [ob7_0_ xh xc u1 u2 u3 u4 u5 u6 u7 u8, ob0_0_ xc xn xk clo cro c4 c5 c6 c7 c8, ob3_0_ xn vp vn n1 n2 n3 n4 n5, aq_ cy 6 clo 12 (gf_ rl), ai_ cy (rl 0) 12 (Ml 0), ai_ cy (rl 1) 12 (Ml 1), ai_ cy (rl 2) 12 (Ml 2), ai_ cy (rl 3) 12 (Ml 3), ai_ cy (rl 4) 12 (Ml 4), ai_ cy (rl 5) 12 (Ml 5), ai_ cy (rl 6) 12 (Ml 6), ai_ cy (rl 7) 12 (Ml 7), ai_ cy (rl 8) 12 (Ml 8), ai_ cy (rl 9) 12 (Ml 9), ai_ cy (rl 10) 12 (Ml 10), ai_ cy (rl 11) 12 (Ml 11)] sz) := by
  refine ofQ (cc := cX7_findCut) (maxL := 5) (ret := (some .int)) (by decide) rfl ?_
  intro p e s m args below meth c s₁ Q hQ B hml hv
  obtain ⟨rfl, hsz, hP, hK, hD0⟩ := hv
  have hG := hK.2
  have hK := hK.1
  have hx := B.exec
  have hb := B.bytes
  have hr := B.returns
  have hts := atoms_spec (ws := wsX7_findCut) B.pre
  have hown : s.vm.findClass RX7 = some m.cls := by have h_ := findClass_of_methodNamed B.named; exact h_
  have hlocks := B.notSynchronized
  subst hsz
  have hD := hD0.self (sz := s.heap.size)
  generalize hAe : va_A [ob7_0_ xh xc u1 u2 u3 u4 u5 u6 u7 u8, ob0_0_ xc xn xk clo cro c4 c5 c6 c7 c8, ob3_0_ xn vp vn n1 n2 n3 n4 n5, aq_ cy 6 clo 12 (gf_ rl), ai_ cy (rl 0) 12 (Ml 0), ai_ cy (rl 1) 12 (Ml 1), ai_ cy (rl 2) 12 (Ml 2), ai_ cy (rl 3) 12 (Ml 3), ai_ cy (rl 4) 12 (Ml 4), ai_ cy (rl 5) 12 (Ml 5), ai_ cy (rl 6) 12 (Ml 6), ai_ cy (rl 7) 12 (Ml 7), ai_ cy (rl 8) 12 (Ml 8), ai_ cy (rl 9) 12 (Ml 9), ai_ cy (rl 10) 12 (Ml 10), ai_ cy (rl 11) 12 (Ml 11)] s.heap.size = A at hD hQ
  have hA : ∀ q : Nat, s.heap.size ≤ q → A q := fun q h => by rw [← hAe]; exact Or.inr h
  have hS : va_S A s.heap s.heap [] := va_S.rf
  have hl := lv_entry ([.ref xh, .int a1, .int a2, .int a3, .int a4]) (n := 5) (Nat.le_of_ble_eq_true rfl)
  rw [lg_entry_eq]
  generalize (lg_sl ([.ref xh, .int a1, .int a2, .int a3, .int a4]) ++ List.replicate (5 - (lg_sl ([.ref xh, .int a1, .int a2, .int a3, .int a4])).length) Slot.unset).toArray = ls at hl ⊢
  have hl : lv_has ls 5 [(0, .ref xh), (1, .int a1), (2, .int a2), (3, .int a3), (4, .int a4)] := hl
  refine lv_aload_n hx hb dB_36_1_67.1.1.1 rfl (lv_at hl 0 rfl) ?_
  refine lv_iload_n hx hb dB_36_1_67.1.1.2 rfl (lv_at hl 1 rfl) ?_
  refine lv_iload_n hx hb dB_36_1_67.1.2.1 rfl (lv_at hl 2 rfl) ?_
  refine lv_iload_n hx hb dB_36_1_67.1.2.2 rfl (lv_at hl 3 rfl) ?_
  refine lv_iload hx hb dB_36_1_67.2.1.1 (lv_at hl 4 rfl) ?_
  refine ct_S hP hD hS hA [ob7_0_ xh xc u1 u2 u3 u4 u5 u6 u7 u8, ob0_0_ xc xn xk clo cro c4 c5 c6 c7 c8, ob3_0_ xn vp vn n1 n2 n3 n4 n5, aq_ cy 6 clo 12 (gf_ rl), ai_ cy (rl 0) 12 (Ml 0), ai_ cy (rl 1) 12 (Ml 1), ai_ cy (rl 2) 12 (Ml 2), ai_ cy (rl 3) 12 (Ml 3), ai_ cy (rl 4) 12 (Ml 4), ai_ cy (rl 5) 12 (Ml 5), ai_ cy (rl 6) 12 (Ml 6), ai_ cy (rl 7) 12 (Ml 7), ai_ cy (rl 8) 12 (Ml 8), ai_ cy (rl 9) 12 (Ml 9), ai_ cy (rl 10) 12 (Ml 10), ai_ cy (rl 11) 12 (Ml 11)] [0, 1, 2, 3, 4, 5, 6, 7, 8, 9, 10, 11, 12, 13, 14, 15] (by decide +kernel) rfl (fun hPc hDw hFc hC_ => ?_)
  refine va_callv (va_runV (As := [.int a1, .int a2, .int a3, .int a4]) (rest := []) ⟨hx, hb, hml, hown, hts⟩ (c_X7_hunt l D cy s.heap.size xh u1 u2 u3 u4 u5 u6 u7 u8 xc xk clo cro c4 c5 c6 c7 c8 xn n1 n2 n3 n4 n5 vp vn rl Ml a1 a2 a3 a4 (by first | with_reducible assumption | omega | assumption)) (cwV 4 hts gX7_findCut_X7_hunt rfl rfl rfl ⟨rfl, hd_X7_hunt⟩ ⟨Nat.le_of_ble_eq_true rfl, Nat.le_of_ble_eq_true rfl⟩) ⟨bl_g, va_recvX hK.1 hP (ci := 7) (q0 := 0) rfl rfl, fun U hU hW => ⟨rfl, by rw [hU], by rw [hU]; exact hPc, ⟨kk_mv hW hK, arrOfT_moved hW.alike hG⟩, hDw⟩⟩ rfl rfl hl.1 rfl (lv_room (Nat.le_of_ble_eq_true rfl)) dB_36_1_67.2.1.2 ⟨Nat.le_of_ble_eq_true rfl, Nat.le_of_ble_eq_true rfl⟩) hS (fun q _ h => hFc q h) hFc (fun u t H locs ht hvm hw hB hz1 hk1 hS => ?_)
  obtain ⟨v5_2, v6_3, hP1, hD1⟩ := hB
  rw [ht] at hP1
  obtain ⟨hP, hD⟩ := va_join (wr := []) (w1 := [ob7_0_ xh xc a1 a2 a3 a4 v5_2 v6_3 u7 u8, ob0_0_ xc xn xk clo cro c4 c5 c6 c7 c8, ob3_0_ xn vp vn n1 n2 n3 n4 n5, aq_ cy 6 clo 12 (gf_ rl), ai_ cy (rl 0) 12 (Ml 0), ai_ cy (rl 1) 12 (Ml 1), ai_ cy (rl 2) 12 (Ml 2), ai_ cy (rl 3) 12 (Ml 3), ai_ cy (rl 4) 12 (Ml 4), ai_ cy (rl 5) 12 (Ml 5), ai_ cy (rl 6) 12 (Ml 6), ai_ cy (rl 7) 12 (Ml 7), ai_ cy (rl 8) 12 (Ml 8), ai_ cy (rl 9) 12 (Ml 9), ai_ cy (rl 10) 12 (Ml 10), ai_ cy (rl 11) 12 (Ml 11)]) hP hD [0, 1, 2, 3, 4, 5, 6, 7, 8, 9, 10, 11, 12, 13, 14, 15] [] hC_ rfl (by decide) (by decide) hk1 hFc hP1 hD1
  refine pd_K [ob7_0_ xh xc a1 a2 a3 a4 v5_2 v6_3 u7 u8, ob0_0_ xc xn xk clo cro c4 c5 c6 c7 c8, ob3_0_ xn vp vn n1 n2 n3 n4 n5, aq_ cy 6 clo 12 (gf_ rl), ai_ cy (rl 0) 12 (Ml 0), ai_ cy (rl 1) 12 (Ml 1), ai_ cy (rl 2) 12 (Ml 2), ai_ cy (rl 3) 12 (Ml 3), ai_ cy (rl 4) 12 (Ml 4), ai_ cy (rl 5) 12 (Ml 5), ai_ cy (rl 6) 12 (Ml 6), ai_ cy (rl 7) 12 (Ml 7), ai_ cy (rl 8) 12 (Ml 8), ai_ cy (rl 9) 12 (Ml 9), ai_ cy (rl 10) 12 (Ml 10), ai_ cy (rl 11) 12 (Ml 11)] hP hD (fun hP hD => ?_)
  refine lv_aload_n hx hb dB_36_1_67.2.2.1 rfl (lv_at hl 0 rfl) ?_
  refine va_get (ci := 7) (v := .int v6_3) (C := RX7) (T := TX7) (N := 9) hx hb hts (fun _ h => List.mem_cons_of_mem _ (List.mem_append_left _ (List.mem_append_left _ (List.mem_append_right _ h)))) hown hK.1 hP 0 rfl rfl 6 (by decide) (hts (.fieldLink RX7 24 "CutAtlas$SetHunt" "found" "I") (List.mem_of_getElem? (i := 1) rfl)) (fun _ h9 => h9) rfl dB_36_1_67.2.2.2.1 ?_
  rw [hQ]
  exact W.iret (v := v6_3) hx hb hr (fun t ht hW => ⟨⟨v6_3, (), rfl, trivial, v5_2, v6_3, by rw [ht]; exact hP, hD⟩, hS.F ht⟩) hS.2.2 dB_36_1_67.2.2.2.2

set_option maxHeartbeats 4000000 in
set_option maxRecDepth 100000 in
theorem c_X7_findDensest (l : Launch) (D : va_G) (cy : Nat → ClassId) (sz : Nat) (xh : Nat) (u1 : Int32) (u2 : Int32) (u3 : Int32) (u4 : Int32) (u5 : Int32) (u6 : Int32) (u7 : Int32) (u8 : Int32) (xc : Nat) (xk : Nat) (clo : Nat) (cro : Nat) (c4 : Nat) (c5 : Nat) (c6 : Nat) (c7 : Nat) (c8 : Nat) (xn : Nat) (n1 : Nat) (n2 : Nat) (n3 : Nat) (n4 : Nat) (n5 : Nat) (vp : Int32) (vn : Int32) (rl : Nat → Nat) (Ml : Nat → Nat → Int32) (hvp : 0 ≤ vp.toInt ∧ vp.toInt ≤ 12) : Met l yX7_findDensest wsX7_findDensest ({ frames := 15, cells := 0, slots := 0, locals := 345 }) (va_Pc [.ref xh] (fun U => U.heap.size = sz ∧ va_P D vwCl [ob7_0_ xh xc u1 u2 u3 u4 u5 u6 u7 u8, ob0_0_ xc xn xk clo cro c4 c5 c6 c7 c8, ob3_0_ xn vp vn n1 n2 n3 n4 n5, aq_ cy 6 clo 12 (gf_ rl), ai_ cy (rl 0) 12 (Ml 0), ai_ cy (rl 1) 12 (Ml 1), ai_ cy (rl 2) 12 (Ml 2), ai_ cy (rl 3) 12 (Ml 3), ai_ cy (rl 4) 12 (Ml 4), ai_ cy (rl 5) 12 (Ml 5), ai_ cy (rl 6) 12 (Ml 6), ai_ cy (rl 7) 12 (Ml 7), ai_ cy (rl 8) 12 (Ml 8), ai_ cy (rl 9) 12 (Ml 9), ai_ cy (rl 10) 12 (Ml 10), ai_ cy (rl 11) 12 (Ml 11)] U.heap ∧ kg_ D cy U ∧ va_D (fun _ => True) [ob7_0_ xh xc u1 u2 u3 u4 u5 u6 u7 u8, ob0_0_ xc xn xk clo cro c4 c5 c6 c7 c8, ob3_0_ xn vp vn n1 n2 n3 n4 n5, aq_ cy 6 clo 12 (gf_ rl), ai_ cy (rl 0) 12 (Ml 0), ai_ cy (rl 1) 12 (Ml 1), ai_ cy (rl 2) 12 (Ml 2), ai_ cy (rl 3) 12 (Ml 3), ai_ cy (rl 4) 12 (Ml 4), ai_ cy (rl 5) 12 (Ml 5), ai_ cy (rl 6) 12 (Ml 6), ai_ cy (rl 7) 12 (Ml 7), ai_ cy (rl 8) 12 (Ml 8), ai_ cy (rl 9) 12 (Ml 9), ai_ cy (rl 10) 12 (Ml 10), ai_ cy (rl 11) 12 (Ml 11)])) (va_Qv (fun (_ : Unit) => True) (fun (_ : Unit) (t : State) => ∃ (v7 : Int32), ∃ (v8 : Int32), va_P D vwCl [ob7_0_ xh xc u1 u2 u3 u4 u5 u6 v7 v8, ob0_0_ xc xn xk clo cro c4 c5 c6 c7 c8, ob3_0_ xn vp vn n1 n2 n3 n4 n5, aq_ cy 6 clo 12 (gf_ rl), ai_ cy (rl 0) 12 (Ml 0), ai_ cy (rl 1) 12 (Ml 1), ai_ cy (rl 2) 12 (Ml 2), ai_ cy (rl 3) 12 (Ml 3), ai_ cy (rl 4) 12 (Ml 4), ai_ cy (rl 5) 12 (Ml 5), ai_ cy (rl 6) 12 (Ml 6), ai_ cy (rl 7) 12 (Ml 7), ai_ cy (rl 8) 12 (Ml 8), ai_ cy (rl 9) 12 (Ml 9), ai_ cy (rl 10) 12 (Ml 10), ai_ cy (rl 11) 12 (Ml 11)] t.heap ∧ va_D (va_A [ob7_0_ xh xc u1 u2 u3 u4 u5 u6 u7 u8, ob0_0_ xc xn xk clo cro c4 c5 c6 c7 c8, ob3_0_ xn vp vn n1 n2 n3 n4 n5, aq_ cy 6 clo 12 (gf_ rl), ai_ cy (rl 0) 12 (Ml 0), ai_ cy (rl 1) 12 (Ml 1), ai_ cy (rl 2) 12 (Ml 2), ai_ cy (rl 3) 12 (Ml 3), ai_ cy (rl 4) 12 (Ml 4), ai_ cy (rl 5) 12 (Ml 5), ai_ cy (rl 6) 12 (Ml 6), ai_ cy (rl 7) 12 (Ml 7), ai_ cy (rl 8) 12 (Ml 8), ai_ cy (rl 9) 12 (Ml 9), ai_ cy (rl 10) 12 (Ml 10), ai_ cy (rl 11) 12 (Ml 11)] sz) [ob7_0_ xh xc u1 u2 u3 u4 u5 u6 v7 v8, ob0_0_ xc xn xk clo cro c4 c5 c6 c7 c8, ob3_0_ xn vp vn n1 n2 n3 n4 n5, aq_ cy 6 clo 12 (gf_ rl), ai_ cy (rl 0) 12 (Ml 0), ai_ cy (rl 1) 12 (Ml 1), ai_ cy (rl 2) 12 (Ml 2), ai_ cy (rl 3) 12 (Ml 3), ai_ cy (rl 4) 12 (Ml 4), ai_ cy (rl 5) 12 (Ml 5), ai_ cy (rl 6) 12 (Ml 6), ai_ cy (rl 7) 12 (Ml 7), ai_ cy (rl 8) 12 (Ml 8), ai_ cy (rl 9) 12 (Ml 9), ai_ cy (rl 10) 12 (Ml 10), ai_ cy (rl 11) 12 (Ml 11)]) (va_A [ob7_0_ xh xc u1 u2 u3 u4 u5 u6 u7 u8, ob0_0_ xc xn xk clo cro c4 c5 c6 c7 c8, ob3_0_ xn vp vn n1 n2 n3 n4 n5, aq_ cy 6 clo 12 (gf_ rl), ai_ cy (rl 0) 12 (Ml 0), ai_ cy (rl 1) 12 (Ml 1), ai_ cy (rl 2) 12 (Ml 2), ai_ cy (rl 3) 12 (Ml 3), ai_ cy (rl 4) 12 (Ml 4), ai_ cy (rl 5) 12 (Ml 5), ai_ cy (rl 6) 12 (Ml 6), ai_ cy (rl 7) 12 (Ml 7), ai_ cy (rl 8) 12 (Ml 8), ai_ cy (rl 9) 12 (Ml 9), ai_ cy (rl 10) 12 (Ml 10), ai_ cy (rl 11) 12 (Ml 11)] sz)) 0 0 (va_A [ob7_0_ xh xc u1 u2 u3 u4 u5 u6 u7 u8, ob0_0_ xc xn xk clo cro c4 c5 c6 c7 c8, ob3_0_ xn vp vn n1 n2 n3 n4 n5, aq_ cy 6 clo 12 (gf_ rl), ai_ cy (rl 0) 12 (Ml 0), ai_ cy (rl 1) 12 (Ml 1), ai_ cy (rl 2) 12 (Ml 2), ai_ cy (rl 3) 12 (Ml 3), ai_ cy (rl 4) 12 (Ml 4), ai_ cy (rl 5) 12 (Ml 5), ai_ cy (rl 6) 12 (Ml 6), ai_ cy (rl 7) 12 (Ml 7), ai_ cy (rl 8) 12 (Ml 8), ai_ cy (rl 9) 12 (Ml 9), ai_ cy (rl 10) 12 (Ml 10), ai_ cy (rl 11) 12 (Ml 11)] sz) := by
  refine ofQ (cc := cX7_findDensest) (maxL := 1) (ret := none) (by decide) rfl ?_
  intro p e s m args below meth c s₁ Q hQ B hml hv
  obtain ⟨rfl, hsz, hP, hK, hD0⟩ := hv
  have hG := hK.2
  have hK := hK.1
  have hx := B.exec
  have hb := B.bytes
  have hr := B.returns
  have hts := atoms_spec (ws := wsX7_findDensest) B.pre
  have hown : s.vm.findClass RX7 = some m.cls := by have h_ := findClass_of_methodNamed B.named; exact h_
  have hlocks := B.notSynchronized
  subst hsz
  have hD := hD0.self (sz := s.heap.size)
  generalize hAe : va_A [ob7_0_ xh xc u1 u2 u3 u4 u5 u6 u7 u8, ob0_0_ xc xn xk clo cro c4 c5 c6 c7 c8, ob3_0_ xn vp vn n1 n2 n3 n4 n5, aq_ cy 6 clo 12 (gf_ rl), ai_ cy (rl 0) 12 (Ml 0), ai_ cy (rl 1) 12 (Ml 1), ai_ cy (rl 2) 12 (Ml 2), ai_ cy (rl 3) 12 (Ml 3), ai_ cy (rl 4) 12 (Ml 4), ai_ cy (rl 5) 12 (Ml 5), ai_ cy (rl 6) 12 (Ml 6), ai_ cy (rl 7) 12 (Ml 7), ai_ cy (rl 8) 12 (Ml 8), ai_ cy (rl 9) 12 (Ml 9), ai_ cy (rl 10) 12 (Ml 10), ai_ cy (rl 11) 12 (Ml 11)] s.heap.size = A at hD hQ
  have hA : ∀ q : Nat, s.heap.size ≤ q → A q := fun q h => by rw [← hAe]; exact Or.inr h
  have hS : va_S A s.heap s.heap [] := va_S.rf
  have hl := lv_entry ([.ref xh]) (n := 1) (Nat.le_of_ble_eq_true rfl)
  rw [lg_entry_eq]
  generalize (lg_sl ([.ref xh]) ++ List.replicate (1 - (lg_sl ([.ref xh])).length) Slot.unset).toArray = ls at hl ⊢
  have hl : lv_has ls 1 [(0, .ref xh)] := hl
  have z0 : (0 : Int32).toInt = 0 := by decide
  have z1 : (1 : Int32).toInt = 1 := by decide
  refine lv_aload_n hx hb dB_36_1_68.1.1.1.1 rfl (lv_at hl 0 rfl) ?_
  refine lv_iconst (v := 0) hx hb dB_36_1_68.1.1.1.2 (by decide) ?_
  refine va_put (ci := 7) (v := .int 0) (ty := .int) (C := RX7) (T := TX7) (N := 9) hx hb hts (fun _ h => List.mem_cons_of_mem _ (List.mem_append_left _ (List.mem_append_left _ (List.mem_append_right _ h)))) tyX7 tyX7_ok nmX7 hown hK.1 hP hD hS 0 rfl rfl 7 (by decide) (hts (.fieldLink RX7 69 "CutAtlas$SetHunt" "denseSet" "I") (List.mem_of_getElem? (i := 1) rfl)) (fun _ h9 => h9) rfl (by decide +kernel) rfl rfl (Nat.le_of_ble_eq_true rfl) dB_36_1_68.1.1.2.1 (fun H locs hP hD hS => ?_)
  refine pd_K [ob7_0_ xh xc u1 u2 u3 u4 u5 u6 0 u8, ob0_0_ xc xn xk clo cro c4 c5 c6 c7 c8, ob3_0_ xn vp vn n1 n2 n3 n4 n5, aq_ cy 6 clo 12 (gf_ rl), ai_ cy (rl 0) 12 (Ml 0), ai_ cy (rl 1) 12 (Ml 1), ai_ cy (rl 2) 12 (Ml 2), ai_ cy (rl 3) 12 (Ml 3), ai_ cy (rl 4) 12 (Ml 4), ai_ cy (rl 5) 12 (Ml 5), ai_ cy (rl 6) 12 (Ml 6), ai_ cy (rl 7) 12 (Ml 7), ai_ cy (rl 8) 12 (Ml 8), ai_ cy (rl 9) 12 (Ml 9), ai_ cy (rl 10) 12 (Ml 10), ai_ cy (rl 11) 12 (Ml 11)] hP hD (fun hP hD => ?_)
  refine lv_aload_n hx hb dB_36_1_68.1.1.2.2 rfl (lv_at hl 0 rfl) ?_
  refine lv_iconst (v := 0) hx hb dB_36_1_68.1.2.1.1 (by decide) ?_
  refine va_put (ci := 7) (v := .int 0) (ty := .int) (C := RX7) (T := TX7) (N := 9) hx hb hts (fun _ h => List.mem_cons_of_mem _ (List.mem_append_left _ (List.mem_append_left _ (List.mem_append_right _ h)))) tyX7 tyX7_ok nmX7 hown hK.1 hP hD hS 0 rfl rfl 8 (by decide) (hts (.fieldLink RX7 72 "CutAtlas$SetHunt" "denseSum" "I") (List.mem_of_getElem? (i := 2) rfl)) (fun _ h9 => h9) rfl (by decide +kernel) rfl rfl (Nat.le_of_ble_eq_true rfl) dB_36_1_68.1.2.1.2 (fun H locs hP hD hS => ?_)
  refine pd_K [ob7_0_ xh xc u1 u2 u3 u4 u5 u6 0 0, ob0_0_ xc xn xk clo cro c4 c5 c6 c7 c8, ob3_0_ xn vp vn n1 n2 n3 n4 n5, aq_ cy 6 clo 12 (gf_ rl), ai_ cy (rl 0) 12 (Ml 0), ai_ cy (rl 1) 12 (Ml 1), ai_ cy (rl 2) 12 (Ml 2), ai_ cy (rl 3) 12 (Ml 3), ai_ cy (rl 4) 12 (Ml 4), ai_ cy (rl 5) 12 (Ml 5), ai_ cy (rl 6) 12 (Ml 6), ai_ cy (rl 7) 12 (Ml 7), ai_ cy (rl 8) 12 (Ml 8), ai_ cy (rl 9) 12 (Ml 9), ai_ cy (rl 10) 12 (Ml 10), ai_ cy (rl 11) 12 (Ml 11)] hP hD (fun hP hD => ?_)
  refine lv_aload_n hx hb dB_36_1_68.1.2.2.1 rfl (lv_at hl 0 rfl) ?_
  refine lv_aload_n hx hb dB_36_1_68.1.2.2.2 rfl (lv_at hl 0 rfl) ?_
  refine va_get (ci := 7) (v := .ref xc) (C := RX7) (T := TX7) (N := 9) hx hb hts (fun _ h => List.mem_cons_of_mem _ (List.mem_append_left _ (List.mem_append_left _ (List.mem_append_right _ h)))) hown hK.1 hP 0 rfl rfl 0 (by decide) (hts (.fieldLink RX7 9 "CutAtlas$SetHunt" "current" "LCutAtlas$Current;") (List.mem_of_getElem? (i := 3) rfl)) (fun _ h9 => h9) rfl dB_36_1_68.2.1.1.1 ?_
  refine va_get (ci := 0) (v := .ref xn) (C := RX0) (T := TX0) (N := 9) hx hb hts (fun _ h => List.mem_cons_of_mem _ (List.mem_append_left _ (List.mem_append_right _ h))) hown hK.1 hP 1 rfl rfl 0 (by decide) (hts (.fieldLink RX7 39 "CutAtlas$Current" "net" "LCutAtlas$Net;") (List.mem_of_getElem? (i := 4) rfl)) (fun _ h9 => h9) rfl dB_36_1_68.2.1.1.2 ?_
  refine va_get (ci := 3) (v := .int vp) (C := RX3) (T := TX3) (N := 7) hx hb hts (fun _ h => List.mem_cons_of_mem _ (List.mem_append_right _ h)) hown hK.1 hP 2 rfl rfl 0 (by decide) (hts (.fieldLink RX7 45 "CutAtlas$Net" "places" "I") (List.mem_of_getElem? (i := 5) rfl)) (fun _ h9 => h9) rfl dB_36_1_68.2.1.2.1 ?_
  refine lv_iconst (v := 1) hx hb dB_36_1_68.2.1.2.2 (by decide) ?_
  refine lv_isub hx hb dB_36_1_68.2.2.1.1 ?_
  refine lv_topi (fun y_1 ey_1 => ?_)
  have ty_1 : y_1.toInt = vp.toInt - (1 : Int32).toInt := by rw [ey_1]; exact subI (by omega) (by omega)
  refine lv_iconst (v := 0) hx hb dB_36_1_68.2.2.1.2 (by decide) ?_
  refine lv_iconst (v := 0) hx hb dB_36_1_68.2.2.2.1 (by decide) ?_
  refine ct_S hP hD hS hA [ob7_0_ xh xc u1 u2 u3 u4 u5 u6 0 0, ob0_0_ xc xn xk clo cro c4 c5 c6 c7 c8, ob3_0_ xn vp vn n1 n2 n3 n4 n5, aq_ cy 6 clo 12 (gf_ rl), ai_ cy (rl 0) 12 (Ml 0), ai_ cy (rl 1) 12 (Ml 1), ai_ cy (rl 2) 12 (Ml 2), ai_ cy (rl 3) 12 (Ml 3), ai_ cy (rl 4) 12 (Ml 4), ai_ cy (rl 5) 12 (Ml 5), ai_ cy (rl 6) 12 (Ml 6), ai_ cy (rl 7) 12 (Ml 7), ai_ cy (rl 8) 12 (Ml 8), ai_ cy (rl 9) 12 (Ml 9), ai_ cy (rl 10) 12 (Ml 10), ai_ cy (rl 11) 12 (Ml 11)] [0, 1, 2, 3, 4, 5, 6, 7, 8, 9, 10, 11, 12, 13, 14, 15] (by decide +kernel) rfl (fun hPc hDw hFc hC_ => ?_)
  refine va_callv (va_runV (As := [.int y_1, .int 0, .int 0]) (rest := []) ⟨hx, hb, hml, hown, hts⟩ (c_X7_chooseForDense_12 l D cy H.size xh u1 u2 u3 u4 u5 u6 (0 : Int32) (0 : Int32) xc xk clo cro c4 c5 c6 c7 c8 xn n1 n2 n3 n4 n5 vp vn rl Ml y_1 (0 : Int32) (0 : Int32) (by first | with_reducible assumption | omega | assumption) (by first | with_reducible assumption | omega | assumption)) (cwV 3 hts gX7_findDensest_X7_chooseForDense rfl rfl rfl ⟨rfl, hd_X7_chooseForDense⟩ ⟨Nat.le_of_ble_eq_true rfl, Nat.le_of_ble_eq_true rfl⟩) ⟨bl_g, va_recvX hK.1 hP (ci := 7) (q0 := 0) rfl rfl, fun U hU hW => ⟨rfl, by rw [hU], by rw [hU]; exact hPc, ⟨kk_mv hW hK, arrOfT_moved hW.alike hG⟩, hDw⟩⟩ rfl rfl hl.1 rfl (lv_room (Nat.le_of_ble_eq_true rfl)) dB_36_1_68.2.2.2.2 ⟨Nat.le_of_ble_eq_true rfl, Nat.le_of_ble_eq_true rfl⟩) hS (fun q _ h => hFc q h) hFc (fun u t H locs ht hvm hw hB hz1 hk1 hS => ?_)
  obtain ⟨v7_3, v8_4, hP1, hD1⟩ := hB
  rw [ht] at hP1
  obtain ⟨hP, hD⟩ := va_join (wr := []) (w1 := [ob7_0_ xh xc u1 u2 u3 u4 u5 u6 v7_3 v8_4, ob0_0_ xc xn xk clo cro c4 c5 c6 c7 c8, ob3_0_ xn vp vn n1 n2 n3 n4 n5, aq_ cy 6 clo 12 (gf_ rl), ai_ cy (rl 0) 12 (Ml 0), ai_ cy (rl 1) 12 (Ml 1), ai_ cy (rl 2) 12 (Ml 2), ai_ cy (rl 3) 12 (Ml 3), ai_ cy (rl 4) 12 (Ml 4), ai_ cy (rl 5) 12 (Ml 5), ai_ cy (rl 6) 12 (Ml 6), ai_ cy (rl 7) 12 (Ml 7), ai_ cy (rl 8) 12 (Ml 8), ai_ cy (rl 9) 12 (Ml 9), ai_ cy (rl 10) 12 (Ml 10), ai_ cy (rl 11) 12 (Ml 11)]) hP hD [0, 1, 2, 3, 4, 5, 6, 7, 8, 9, 10, 11, 12, 13, 14, 15] [] hC_ rfl (by decide) (by decide) hk1 hFc hP1 hD1
  refine pd_K [ob7_0_ xh xc u1 u2 u3 u4 u5 u6 v7_3 v8_4, ob0_0_ xc xn xk clo cro c4 c5 c6 c7 c8, ob3_0_ xn vp vn n1 n2 n3 n4 n5, aq_ cy 6 clo 12 (gf_ rl), ai_ cy (rl 0) 12 (Ml 0), ai_ cy (rl 1) 12 (Ml 1), ai_ cy (rl 2) 12 (Ml 2), ai_ cy (rl 3) 12 (Ml 3), ai_ cy (rl 4) 12 (Ml 4), ai_ cy (rl 5) 12 (Ml 5), ai_ cy (rl 6) 12 (Ml 6), ai_ cy (rl 7) 12 (Ml 7), ai_ cy (rl 8) 12 (Ml 8), ai_ cy (rl 9) 12 (Ml 9), ai_ cy (rl 10) 12 (Ml 10), ai_ cy (rl 11) 12 (Ml 11)] hP hD (fun hP hD => ?_)
  rw [hQ]
  exact W.vret hx hb hr (fun t ht hW => ⟨⟨(), rfl, trivial, v7_3, v8_4, by rw [ht]; exact hP, hD⟩, hS.F ht⟩) hS.2.2 dB_36_1_69
end

section
set_option maxHeartbeats 4000000 in
set_option maxRecDepth 100000 in
theorem c_X10_stepCosts (l : Launch) (D : va_G) (cy : Nat → ClassId) (sz : Nat) (xw : Nat) (wpo : Nat) (wc : Nat) (wf : Nat) (xc : Nat) (xk : Nat) (clo : Nat) (cro : Nat) (c4 : Nat) (c5 : Nat) (c6 : Nat) (c7 : Nat) (c8 : Nat) (xn : Nat) (n1 : Nat) (n2 : Nat) (n3 : Nat) (n4 : Nat) (n5 : Nat) (vp : Int32) (vn : Int32) (rr : Nat → Nat) (Mr : Nat → Nat → Int32) (rp : Nat → Nat) (Mp : Nat → Nat → Int32) (a1 : Int32) (a2 : Int32) (q1 : 0 ≤ a1.toInt ∧ a1.toInt ≤ 11) (q2 : 0 ≤ a2.toInt ∧ a2.toInt ≤ 11) : Met l yX10_stepCosts wsX10_stepCosts ({ frames := 0, cells := 0, slots := 0, locals := 0 }) (va_Pc [.ref xw, .int a1, .int a2] (fun U => U.heap.size = sz ∧ va_P D vwCl [ob10_0_ xw xc xk wpo wc wf, ob0_0_ xc xn xk clo cro c4 c5 c6 c7 c8, ob3_0_ xn vp vn n1 n2 n3 n4 n5, aq_ cy 6 cro 12 (gf_ rr), ai_ cy (rr 0) 12 (Mr 0), ai_ cy (rr 1) 12 (Mr 1), ai_ cy (rr 2) 12 (Mr 2), ai_ cy (rr 3) 12 (Mr 3), ai_ cy (rr 4) 12 (Mr 4), ai_ cy (rr 5) 12 (Mr 5), ai_ cy (rr 6) 12 (Mr 6), ai_ cy (rr 7) 12 (Mr 7), ai_ cy (rr 8) 12 (Mr 8), ai_ cy (rr 9) 12 (Mr 9), ai_ cy (rr 10) 12 (Mr 10), ai_ cy (rr 11) 12 (Mr 11), aq_ cy 6 wpo 12 (gf_ rp), ai_ cy (rp 0) 12 (Mp 0), ai_ cy (rp 1) 12 (Mp 1), ai_ cy (rp 2) 12 (Mp 2), ai_ cy (rp 3) 12 (Mp 3), ai_ cy (rp 4) 12 (Mp 4), ai_ cy (rp 5) 12 (Mp 5), ai_ cy (rp 6) 12 (Mp 6), ai_ cy (rp 7) 12 (Mp 7), ai_ cy (rp 8) 12 (Mp 8), ai_ cy (rp 9) 12 (Mp 9), ai_ cy (rp 10) 12 (Mp 10), ai_ cy (rp 11) 12 (Mp 11)] U.heap ∧ kg_ D cy U ∧ va_D (fun _ => True) [ob10_0_ xw xc xk wpo wc wf, ob0_0_ xc xn xk clo cro c4 c5 c6 c7 c8, ob3_0_ xn vp vn n1 n2 n3 n4 n5, aq_ cy 6 cro 12 (gf_ rr), ai_ cy (rr 0) 12 (Mr 0), ai_ cy (rr 1) 12 (Mr 1), ai_ cy (rr 2) 12 (Mr 2), ai_ cy (rr 3) 12 (Mr 3), ai_ cy (rr 4) 12 (Mr 4), ai_ cy (rr 5) 12 (Mr 5), ai_ cy (rr 6) 12 (Mr 6), ai_ cy (rr 7) 12 (Mr 7), ai_ cy (rr 8) 12 (Mr 8), ai_ cy (rr 9) 12 (Mr 9), ai_ cy (rr 10) 12 (Mr 10), ai_ cy (rr 11) 12 (Mr 11), aq_ cy 6 wpo 12 (gf_ rp), ai_ cy (rp 0) 12 (Mp 0), ai_ cy (rp 1) 12 (Mp 1), ai_ cy (rp 2) 12 (Mp 2), ai_ cy (rp 3) 12 (Mp 3), ai_ cy (rp 4) 12 (Mp 4), ai_ cy (rp 5) 12 (Mp 5), ai_ cy (rp 6) 12 (Mp 6), ai_ cy (rp 7) 12 (Mp 7), ai_ cy (rp 8) 12 (Mp 8), ai_ cy (rp 9) 12 (Mp 9), ai_ cy (rp 10) 12 (Mp 10), ai_ cy (rp 11) 12 (Mp 11)])) (va_Qi (fun (r : Int32) (_ : Unit) => True) (fun (_ : Unit) (_ : State) => True) (va_A [] sz)) 0 0 (va_A [] sz) := by
  refine ofQ (cc := cX10_stepCosts) (maxL := 3) (ret := (some .int)) (by decide) rfl ?_
  intro p e s m args below meth c s₁ Q hQ B hml hv
  obtain ⟨rfl, hsz, hP, hK, hD0⟩ := hv
  have hG := hK.2
  have hK := hK.1
  have hx := B.exec
  have hb := B.bytes
  have hr := B.returns
  have hts := atoms_spec (ws := wsX10_stepCosts) B.pre
  have hown : s.vm.findClass RX10 = some m.cls := by have h_ := findClass_of_methodNamed B.named; exact h_
  have hlocks := B.notSynchronized
  subst hsz
  have hD : va_D (va_A [] s.heap.size) [] := dd_nil
  generalize hAe : va_A [] s.heap.size = A at hD hQ
  have hA : ∀ q : Nat, s.heap.size ≤ q → A q := fun q h => by rw [← hAe]; exact Or.inr h
  have hS : va_S A s.heap s.heap [] := va_S.rf
  have hl := lv_entry ([.ref xw, .int a1, .int a2]) (n := 3) (Nat.le_of_ble_eq_true rfl)
  rw [lg_entry_eq]
  generalize (lg_sl ([.ref xw, .int a1, .int a2]) ++ List.replicate (3 - (lg_sl ([.ref xw, .int a1, .int a2])).length) Slot.unset).toArray = ls at hl ⊢
  have hl : lv_has ls 3 [(0, .ref xw), (1, .int a1), (2, .int a2)] := hl
  have z0 : (0 : Int32).toInt = 0 := by decide
  refine lv_aload_n hx hb dB_36_2_23.1.1.1.1 rfl (lv_at hl 0 rfl) ?_
  refine va_get (ci := 10) (v := .ref xc) (C := RX10) (T := TX10) (N := 5) hx hb hts (fun _ h => List.mem_cons_of_mem _ (List.mem_append_left _ (List.mem_append_right _ h))) hown hK.1 hP 0 rfl rfl 0 (by decide) (hts (.fieldLink RX10 23 "CutAtlas$Widening" "current" "LCutAtlas$Current;") (List.mem_of_getElem? (i := 1) rfl)) (fun _ h9 => h9) rfl dB_36_2_23.1.1.1.2 ?_
  refine va_get (ci := 0) (v := .ref cro) (C := RX0) (T := TX0) (N := 9) hx hb hts (fun _ h => List.mem_cons_of_mem _ (List.mem_append_right _ h)) hown hK.1 hP 1 rfl rfl 3 (by decide) (hts (.fieldLink RX10 99 "CutAtlas$Current" "room" "[[I") (List.mem_of_getElem? (i := 2) rfl)) (fun _ h9 => h9) rfl dB_36_2_23.1.1.2.1 ?_
  refine lv_iload_n hx hb dB_36_2_23.1.1.2.2 rfl (lv_at hl 2 rfl) ?_
  have h_1 : vp_in a2 12 := in_I (by first | with_reducible assumption | omega) (by omega)
  refine va_alda hx hb hG hP 3 rfl (i := a2) h_1 dB_36_2_23.1.2.1.1 ?_
  refine lv_topv (v' := .ref (rr a2.toNatClampNeg)) (gf_at h_1) ?_
  refine lv_iload_n hx hb dB_36_2_23.1.2.1.2 rfl (lv_at hl 1 rfl) ?_
  have h_2 : vp_in a1 12 := in_I (by first | with_reducible assumption | omega) (by omega)
  have hPg : va_P D vwCl (([ob10_0_ xw xc xk wpo wc wf, ob0_0_ xc xn xk clo cro c4 c5 c6 c7 c8, ob3_0_ xn vp vn n1 n2 n3 n4 n5, aq_ cy 6 cro 12 (gf_ rr)] : va_W) ++ (gro (cy 0) rr Mr ++ ([aq_ cy 6 wpo 12 (gf_ rp), ai_ cy (rp 0) 12 (Mp 0), ai_ cy (rp 1) 12 (Mp 1), ai_ cy (rp 2) 12 (Mp 2), ai_ cy (rp 3) 12 (Mp 3), ai_ cy (rp 4) 12 (Mp 4), ai_ cy (rp 5) 12 (Mp 5), ai_ cy (rp 6) 12 (Mp 6), ai_ cy (rp 7) 12 (Mp 7), ai_ cy (rp 8) 12 (Mp 8), ai_ cy (rp 9) 12 (Mp 9), ai_ cy (rp 10) 12 (Mp 10), ai_ cy (rp 11) 12 (Mp 11)] : va_W))) s.heap := hP
  refine va_gld (X := [ob10_0_ xw xc xk wpo wc wf, ob0_0_ xc xn xk clo cro c4 c5 c6 c7 c8, ob3_0_ xn vp vn n1 n2 n3 n4 n5, aq_ cy 6 cro 12 (gf_ rr)]) (Y := [aq_ cy 6 wpo 12 (gf_ rp), ai_ cy (rp 0) 12 (Mp 0), ai_ cy (rp 1) 12 (Mp 1), ai_ cy (rp 2) 12 (Mp 2), ai_ cy (rp 3) 12 (Mp 3), ai_ cy (rp 4) 12 (Mp 4), ai_ cy (rp 5) 12 (Mp 5), ai_ cy (rp 6) 12 (Mp 6), ai_ cy (rp 7) 12 (Mp 7), ai_ cy (rp 8) 12 (Mp 8), ai_ cy (rp 9) 12 (Mp 9), ai_ cy (rp 10) 12 (Mp 10), ai_ cy (rp 11) 12 (Mp 11)]) (r := rr) (M := Mr) (k := a2.toNatClampNeg) hx hb hK.1 hPg 0 rfl (in_lt h_1) (i := a1) h_2 dB_36_2_23.1.2.2.1 ?_
  refine lv_topi (fun y_3 ey_3 => ?_)
  refine lv_if_ge (tgt := 24) hx hb dB_36_2_23.1.2.2.2 (by decide) (fun c_4 => ?_) (fun c_4 => ?_)
  · have t_4 : (0 : Int32).toInt ≤ y_3.toInt := Int32.le_iff_toInt_le.mp c_4
    refine lv_aload_n hx hb dB_36_2_24.1.1.1.1 rfl (lv_at hl 0 rfl) ?_
    refine va_get (ci := 10) (v := .ref xc) (C := RX10) (T := TX10) (N := 5) hx hb hts (fun _ h => List.mem_cons_of_mem _ (List.mem_append_left _ (List.mem_append_right _ h))) hown hK.1 hP 0 rfl rfl 0 (by decide) (hts (.fieldLink RX10 23 "CutAtlas$Widening" "current" "LCutAtlas$Current;") (List.mem_of_getElem? (i := 1) rfl)) (fun _ h9 => h9) rfl dB_36_2_24.1.1.1.2 ?_
    refine va_get (ci := 0) (v := .ref cro) (C := RX0) (T := TX0) (N := 9) hx hb hts (fun _ h => List.mem_cons_of_mem _ (List.mem_append_right _ h)) hown hK.1 hP 1 rfl rfl 3 (by decide) (hts (.fieldLink RX10 99 "CutAtlas$Current" "room" "[[I") (List.mem_of_getElem? (i := 2) rfl)) (fun _ h9 => h9) rfl dB_36_2_24.1.1.2.1 ?_
    refine lv_iload_n hx hb dB_36_2_24.1.1.2.2 rfl (lv_at hl 1 rfl) ?_
    refine va_alda hx hb hG hP 3 rfl (i := a1) h_2 dB_36_2_24.1.2.1.1 ?_
    refine lv_topv (v' := .ref (rr a1.toNatClampNeg)) (gf_at h_2) ?_
    refine lv_iload_n hx hb dB_36_2_24.1.2.1.2 rfl (lv_at hl 2 rfl) ?_
    have hPg : va_P D vwCl (([ob10_0_ xw xc xk wpo wc wf, ob0_0_ xc xn xk clo cro c4 c5 c6 c7 c8, ob3_0_ xn vp vn n1 n2 n3 n4 n5, aq_ cy 6 cro 12 (gf_ rr)] : va_W) ++ (gro (cy 0) rr Mr ++ ([aq_ cy 6 wpo 12 (gf_ rp), ai_ cy (rp 0) 12 (Mp 0), ai_ cy (rp 1) 12 (Mp 1), ai_ cy (rp 2) 12 (Mp 2), ai_ cy (rp 3) 12 (Mp 3), ai_ cy (rp 4) 12 (Mp 4), ai_ cy (rp 5) 12 (Mp 5), ai_ cy (rp 6) 12 (Mp 6), ai_ cy (rp 7) 12 (Mp 7), ai_ cy (rp 8) 12 (Mp 8), ai_ cy (rp 9) 12 (Mp 9), ai_ cy (rp 10) 12 (Mp 10), ai_ cy (rp 11) 12 (Mp 11)] : va_W))) s.heap := hP
    refine va_gld (X := [ob10_0_ xw xc xk wpo wc wf, ob0_0_ xc xn xk clo cro c4 c5 c6 c7 c8, ob3_0_ xn vp vn n1 n2 n3 n4 n5, aq_ cy 6 cro 12 (gf_ rr)]) (Y := [aq_ cy 6 wpo 12 (gf_ rp), ai_ cy (rp 0) 12 (Mp 0), ai_ cy (rp 1) 12 (Mp 1), ai_ cy (rp 2) 12 (Mp 2), ai_ cy (rp 3) 12 (Mp 3), ai_ cy (rp 4) 12 (Mp 4), ai_ cy (rp 5) 12 (Mp 5), ai_ cy (rp 6) 12 (Mp 6), ai_ cy (rp 7) 12 (Mp 7), ai_ cy (rp 8) 12 (Mp 8), ai_ cy (rp 9) 12 (Mp 9), ai_ cy (rp 10) 12 (Mp 10), ai_ cy (rp 11) 12 (Mp 11)]) (r := rr) (M := Mr) (k := a1.toNatClampNeg) hx hb hK.1 hPg 0 rfl (in_lt h_2) (i := a2) h_1 dB_36_2_24.1.2.2.1 ?_
    refine lv_topi (fun y_7 ey_7 => ?_)
    refine lv_if_le (tgt := 42) hx hb dB_36_2_24.1.2.2.2 (by decide) (fun c_8 => ?_) (fun c_8 => ?_)
    · have t_8 : y_7.toInt ≤ (0 : Int32).toInt := Int32.le_iff_toInt_le.mp c_8
      refine lv_aload_n hx hb dB_36_2_24.2.1.2.1 rfl (lv_at hl 0 rfl) ?_
      refine va_get (ci := 10) (v := .ref wpo) (C := RX10) (T := TX10) (N := 5) hx hb hts (fun _ h => List.mem_cons_of_mem _ (List.mem_append_left _ (List.mem_append_right _ h))) hown hK.1 hP 0 rfl rfl 2 (by decide) (hts (.fieldLink RX10 11 "CutAtlas$Widening" "prices" "[[I") (List.mem_of_getElem? (i := 3) rfl)) (fun _ h9 => h9) rfl dB_36_2_24.2.1.2.2 ?_
      refine lv_iload_n hx hb dB_36_2_24.2.2.1.1 rfl (lv_at hl 1 rfl) ?_
      refine va_alda hx hb hG hP 16 rfl (i := a1) h_2 dB_36_2_24.2.2.1.2 ?_
      refine lv_topv (v' := .ref (rp a1.toNatClampNeg)) (gf_at h_2) ?_
      refine lv_iload_n hx hb dB_36_2_24.2.2.2.1 rfl (lv_at hl 2 rfl) ?_
      have hPg : va_P D vwCl (([ob10_0_ xw xc xk wpo wc wf, ob0_0_ xc xn xk clo cro c4 c5 c6 c7 c8, ob3_0_ xn vp vn n1 n2 n3 n4 n5, aq_ cy 6 cro 12 (gf_ rr), ai_ cy (rr 0) 12 (Mr 0), ai_ cy (rr 1) 12 (Mr 1), ai_ cy (rr 2) 12 (Mr 2), ai_ cy (rr 3) 12 (Mr 3), ai_ cy (rr 4) 12 (Mr 4), ai_ cy (rr 5) 12 (Mr 5), ai_ cy (rr 6) 12 (Mr 6), ai_ cy (rr 7) 12 (Mr 7), ai_ cy (rr 8) 12 (Mr 8), ai_ cy (rr 9) 12 (Mr 9), ai_ cy (rr 10) 12 (Mr 10), ai_ cy (rr 11) 12 (Mr 11), aq_ cy 6 wpo 12 (gf_ rp)] : va_W) ++ (gro (cy 0) rp Mp ++ ([] : va_W))) s.heap := hP
      refine va_gld (X := [ob10_0_ xw xc xk wpo wc wf, ob0_0_ xc xn xk clo cro c4 c5 c6 c7 c8, ob3_0_ xn vp vn n1 n2 n3 n4 n5, aq_ cy 6 cro 12 (gf_ rr), ai_ cy (rr 0) 12 (Mr 0), ai_ cy (rr 1) 12 (Mr 1), ai_ cy (rr 2) 12 (Mr 2), ai_ cy (rr 3) 12 (Mr 3), ai_ cy (rr 4) 12 (Mr 4), ai_ cy (rr 5) 12 (Mr 5), ai_ cy (rr 6) 12 (Mr 6), ai_ cy (rr 7) 12 (Mr 7), ai_ cy (rr 8) 12 (Mr 8), ai_ cy (rr 9) 12 (Mr 9), ai_ cy (rr 10) 12 (Mr 10), ai_ cy (rr 11) 12 (Mr 11), aq_ cy 6 wpo 12 (gf_ rp)]) (Y := []) (r := rp) (M := Mp) (k := a1.toNatClampNeg) hx hb hK.1 hPg 0 rfl (in_lt h_2) (i := a2) h_1 dB_36_2_24.2.2.2.2 ?_
      refine lv_topi (fun y_11 ey_11 => ?_)
      rw [hQ]
      exact W.iret (v := y_11) hx hb hr (fun t ht hW => ⟨⟨y_11, (), rfl, trivial, trivial⟩, hS.F ht⟩) hS.2.2 dB_36_2_25
    · have t_8 : ¬ y_7.toInt ≤ (0 : Int32).toInt := fun h => c_8 (Int32.le_iff_toInt_le.mpr h)
      refine lv_iconst (v := 0) hx hb dB_36_2_24.2.1.1.1 (by decide) ?_
      refine lv_goto (tgt := 50) hx hb dB_36_2_24.2.1.1.2 (by decide) ?_
      rw [hQ]
      exact W.iret (v := 0) hx hb hr (fun t ht hW => ⟨⟨0, (), rfl, trivial, trivial⟩, hS.F ht⟩) hS.2.2 dB_36_2_25
  · have t_4 : ¬ (0 : Int32).toInt ≤ y_3.toInt := fun h => c_4 (Int32.le_iff_toInt_le.mpr h)
    refine lv_aload_n hx hb dB_36_2_23.2.1.1.1 rfl (lv_at hl 0 rfl) ?_
    refine va_get (ci := 10) (v := .ref wpo) (C := RX10) (T := TX10) (N := 5) hx hb hts (fun _ h => List.mem_cons_of_mem _ (List.mem_append_left _ (List.mem_append_right _ h))) hown hK.1 hP 0 rfl rfl 2 (by decide) (hts (.fieldLink RX10 11 "CutAtlas$Widening" "prices" "[[I") (List.mem_of_getElem? (i := 3) rfl)) (fun _ h9 => h9) rfl dB_36_2_23.2.1.1.2 ?_
    refine lv_iload_n hx hb dB_36_2_23.2.1.2.1 rfl (lv_at hl 1 rfl) ?_
    refine va_alda hx hb hG hP 16 rfl (i := a1) h_2 dB_36_2_23.2.1.2.2 ?_
    refine lv_topv (v' := .ref (rp a1.toNatClampNeg)) (gf_at h_2) ?_
    refine lv_iload_n hx hb dB_36_2_23.2.2.1.1 rfl (lv_at hl 2 rfl) ?_
    have hPg : va_P D vwCl (([ob10_0_ xw xc xk wpo wc wf, ob0_0_ xc xn xk clo cro c4 c5 c6 c7 c8, ob3_0_ xn vp vn n1 n2 n3 n4 n5, aq_ cy 6 cro 12 (gf_ rr), ai_ cy (rr 0) 12 (Mr 0), ai_ cy (rr 1) 12 (Mr 1), ai_ cy (rr 2) 12 (Mr 2), ai_ cy (rr 3) 12 (Mr 3), ai_ cy (rr 4) 12 (Mr 4), ai_ cy (rr 5) 12 (Mr 5), ai_ cy (rr 6) 12 (Mr 6), ai_ cy (rr 7) 12 (Mr 7), ai_ cy (rr 8) 12 (Mr 8), ai_ cy (rr 9) 12 (Mr 9), ai_ cy (rr 10) 12 (Mr 10), ai_ cy (rr 11) 12 (Mr 11), aq_ cy 6 wpo 12 (gf_ rp)] : va_W) ++ (gro (cy 0) rp Mp ++ ([] : va_W))) s.heap := hP
    refine va_gld (X := [ob10_0_ xw xc xk wpo wc wf, ob0_0_ xc xn xk clo cro c4 c5 c6 c7 c8, ob3_0_ xn vp vn n1 n2 n3 n4 n5, aq_ cy 6 cro 12 (gf_ rr), ai_ cy (rr 0) 12 (Mr 0), ai_ cy (rr 1) 12 (Mr 1), ai_ cy (rr 2) 12 (Mr 2), ai_ cy (rr 3) 12 (Mr 3), ai_ cy (rr 4) 12 (Mr 4), ai_ cy (rr 5) 12 (Mr 5), ai_ cy (rr 6) 12 (Mr 6), ai_ cy (rr 7) 12 (Mr 7), ai_ cy (rr 8) 12 (Mr 8), ai_ cy (rr 9) 12 (Mr 9), ai_ cy (rr 10) 12 (Mr 10), ai_ cy (rr 11) 12 (Mr 11), aq_ cy 6 wpo 12 (gf_ rp)]) (Y := []) (r := rp) (M := Mp) (k := a1.toNatClampNeg) hx hb hK.1 hPg 0 rfl (in_lt h_2) (i := a2) h_1 dB_36_2_23.2.2.1.2 ?_
    refine lv_topi (fun y_14 ey_14 => ?_)
    refine lv_ineg hx hb dB_36_2_23.2.2.2.1 ?_
    refine lv_topi (fun y_15 ey_15 => ?_)
    rw [hQ]
    exact W.iret (v := y_15) hx hb hr (fun t ht hW => ⟨⟨y_15, (), rfl, trivial, trivial⟩, hS.F ht⟩) hS.2.2 dB_36_2_23.2.2.2.2

set_option maxHeartbeats 4000000 in
set_option maxRecDepth 100000 in
theorem c_X10_stepRoom (l : Launch) (D : va_G) (cy : Nat → ClassId) (sz : Nat) (xw : Nat) (wpo : Nat) (wc : Nat) (wf : Nat) (xc : Nat) (xk : Nat) (clo : Nat) (cro : Nat) (c4 : Nat) (c5 : Nat) (c6 : Nat) (c7 : Nat) (c8 : Nat) (xn : Nat) (n1 : Nat) (n2 : Nat) (n3 : Nat) (n4 : Nat) (n5 : Nat) (vp : Int32) (vn : Int32) (rr : Nat → Nat) (Mr : Nat → Nat → Int32) (a1 : Int32) (a2 : Int32) (q1 : 0 ≤ a1.toInt ∧ a1.toInt ≤ 11) (q2 : 0 ≤ a2.toInt ∧ a2.toInt ≤ 11) : Met l yX10_stepRoom wsX10_stepRoom ({ frames := 0, cells := 0, slots := 0, locals := 0 }) (va_Pc [.ref xw, .int a1, .int a2] (fun U => U.heap.size = sz ∧ va_P D vwCl [ob10_0_ xw xc xk wpo wc wf, ob0_0_ xc xn xk clo cro c4 c5 c6 c7 c8, ob3_0_ xn vp vn n1 n2 n3 n4 n5, aq_ cy 6 cro 12 (gf_ rr), ai_ cy (rr 0) 12 (Mr 0), ai_ cy (rr 1) 12 (Mr 1), ai_ cy (rr 2) 12 (Mr 2), ai_ cy (rr 3) 12 (Mr 3), ai_ cy (rr 4) 12 (Mr 4), ai_ cy (rr 5) 12 (Mr 5), ai_ cy (rr 6) 12 (Mr 6), ai_ cy (rr 7) 12 (Mr 7), ai_ cy (rr 8) 12 (Mr 8), ai_ cy (rr 9) 12 (Mr 9), ai_ cy (rr 10) 12 (Mr 10), ai_ cy (rr 11) 12 (Mr 11)] U.heap ∧ kg_ D cy U ∧ va_D (fun _ => True) [ob10_0_ xw xc xk wpo wc wf, ob0_0_ xc xn xk clo cro c4 c5 c6 c7 c8, ob3_0_ xn vp vn n1 n2 n3 n4 n5, aq_ cy 6 cro 12 (gf_ rr), ai_ cy (rr 0) 12 (Mr 0), ai_ cy (rr 1) 12 (Mr 1), ai_ cy (rr 2) 12 (Mr 2), ai_ cy (rr 3) 12 (Mr 3), ai_ cy (rr 4) 12 (Mr 4), ai_ cy (rr 5) 12 (Mr 5), ai_ cy (rr 6) 12 (Mr 6), ai_ cy (rr 7) 12 (Mr 7), ai_ cy (rr 8) 12 (Mr 8), ai_ cy (rr 9) 12 (Mr 9), ai_ cy (rr 10) 12 (Mr 10), ai_ cy (rr 11) 12 (Mr 11)])) (va_Qi (fun (r : Int32) (_ : Unit) => True) (fun (_ : Unit) (_ : State) => True) (va_A [] sz)) 0 0 (va_A [] sz) := by
  refine ofQ (cc := cX10_stepRoom) (maxL := 3) (ret := (some .int)) (by decide) rfl ?_
  intro p e s m args below meth c s₁ Q hQ B hml hv
  obtain ⟨rfl, hsz, hP, hK, hD0⟩ := hv
  have hG := hK.2
  have hK := hK.1
  have hx := B.exec
  have hb := B.bytes
  have hr := B.returns
  have hts := atoms_spec (ws := wsX10_stepRoom) B.pre
  have hown : s.vm.findClass RX10 = some m.cls := by have h_ := findClass_of_methodNamed B.named; exact h_
  have hlocks := B.notSynchronized
  subst hsz
  have hD : va_D (va_A [] s.heap.size) [] := dd_nil
  generalize hAe : va_A [] s.heap.size = A at hD hQ
  have hA : ∀ q : Nat, s.heap.size ≤ q → A q := fun q h => by rw [← hAe]; exact Or.inr h
  have hS : va_S A s.heap s.heap [] := va_S.rf
  have hl := lv_entry ([.ref xw, .int a1, .int a2]) (n := 3) (Nat.le_of_ble_eq_true rfl)
  rw [lg_entry_eq]
  generalize (lg_sl ([.ref xw, .int a1, .int a2]) ++ List.replicate (3 - (lg_sl ([.ref xw, .int a1, .int a2])).length) Slot.unset).toArray = ls at hl ⊢
  have hl : lv_has ls 3 [(0, .ref xw), (1, .int a1), (2, .int a2)] := hl
  have z0 : (0 : Int32).toInt = 0 := by decide
  have z1000000000 : (1000000000 : Int32).toInt = 1000000000 := by decide
  refine lv_aload_n hx hb dB_36_2_26.1.1.1.1 rfl (lv_at hl 0 rfl) ?_
  refine va_get (ci := 10) (v := .ref xc) (C := RX10) (T := TX10) (N := 5) hx hb hts (fun _ h => List.mem_cons_of_mem _ (List.mem_append_left _ (List.mem_append_right _ h))) hown hK.1 hP 0 rfl rfl 0 (by decide) (hts (.fieldLink RX10 23 "CutAtlas$Widening" "current" "LCutAtlas$Current;") (List.mem_of_getElem? (i := 1) rfl)) (fun _ h9 => h9) rfl dB_36_2_26.1.1.1.2 ?_
  refine va_get (ci := 0) (v := .ref cro) (C := RX0) (T := TX0) (N := 9) hx hb hts (fun _ h => List.mem_cons_of_mem _ (List.mem_append_right _ h)) hown hK.1 hP 1 rfl rfl 3 (by decide) (hts (.fieldLink RX10 99 "CutAtlas$Current" "room" "[[I") (List.mem_of_getElem? (i := 2) rfl)) (fun _ h9 => h9) rfl dB_36_2_26.1.1.2.1 ?_
  refine lv_iload_n hx hb dB_36_2_26.1.1.2.2 rfl (lv_at hl 2 rfl) ?_
  have h_1 : vp_in a2 12 := in_I (by first | with_reducible assumption | omega) (by omega)
  refine va_alda hx hb hG hP 3 rfl (i := a2) h_1 dB_36_2_26.1.2.1.1 ?_
  refine lv_topv (v' := .ref (rr a2.toNatClampNeg)) (gf_at h_1) ?_
  refine lv_iload_n hx hb dB_36_2_26.1.2.1.2 rfl (lv_at hl 1 rfl) ?_
  have h_2 : vp_in a1 12 := in_I (by first | with_reducible assumption | omega) (by omega)
  have hPg : va_P D vwCl (([ob10_0_ xw xc xk wpo wc wf, ob0_0_ xc xn xk clo cro c4 c5 c6 c7 c8, ob3_0_ xn vp vn n1 n2 n3 n4 n5, aq_ cy 6 cro 12 (gf_ rr)] : va_W) ++ (gro (cy 0) rr Mr ++ ([] : va_W))) s.heap := hP
  refine va_gld (X := [ob10_0_ xw xc xk wpo wc wf, ob0_0_ xc xn xk clo cro c4 c5 c6 c7 c8, ob3_0_ xn vp vn n1 n2 n3 n4 n5, aq_ cy 6 cro 12 (gf_ rr)]) (Y := []) (r := rr) (M := Mr) (k := a2.toNatClampNeg) hx hb hK.1 hPg 0 rfl (in_lt h_1) (i := a1) h_2 dB_36_2_26.1.2.2.1 ?_
  refine lv_topi (fun y_3 ey_3 => ?_)
  refine lv_if_ge (tgt := 27) hx hb dB_36_2_26.1.2.2.2 (by decide) (fun c_4 => ?_) (fun c_4 => ?_)
  · have t_4 : (0 : Int32).toInt ≤ y_3.toInt := Int32.le_iff_toInt_le.mp c_4
    refine lv_aload_n hx hb dB_36_2_27.1.1.1.2 rfl (lv_at hl 0 rfl) ?_
    refine va_get (ci := 10) (v := .ref xc) (C := RX10) (T := TX10) (N := 5) hx hb hts (fun _ h => List.mem_cons_of_mem _ (List.mem_append_left _ (List.mem_append_right _ h))) hown hK.1 hP 0 rfl rfl 0 (by decide) (hts (.fieldLink RX10 23 "CutAtlas$Widening" "current" "LCutAtlas$Current;") (List.mem_of_getElem? (i := 1) rfl)) (fun _ h9 => h9) rfl dB_36_2_27.1.1.2.1 ?_
    refine va_get (ci := 0) (v := .ref cro) (C := RX0) (T := TX0) (N := 9) hx hb hts (fun _ h => List.mem_cons_of_mem _ (List.mem_append_right _ h)) hown hK.1 hP 1 rfl rfl 3 (by decide) (hts (.fieldLink RX10 99 "CutAtlas$Current" "room" "[[I") (List.mem_of_getElem? (i := 2) rfl)) (fun _ h9 => h9) rfl dB_36_2_27.1.1.2.2 ?_
    refine lv_iload_n hx hb dB_36_2_27.1.2.1.1 rfl (lv_at hl 1 rfl) ?_
    refine va_alda hx hb hG hP 3 rfl (i := a1) h_2 dB_36_2_27.1.2.1.2 ?_
    refine lv_topv (v' := .ref (rr a1.toNatClampNeg)) (gf_at h_2) ?_
    refine lv_iload_n hx hb dB_36_2_27.1.2.2.1 rfl (lv_at hl 2 rfl) ?_
    have hPg : va_P D vwCl (([ob10_0_ xw xc xk wpo wc wf, ob0_0_ xc xn xk clo cro c4 c5 c6 c7 c8, ob3_0_ xn vp vn n1 n2 n3 n4 n5, aq_ cy 6 cro 12 (gf_ rr)] : va_W) ++ (gro (cy 0) rr Mr ++ ([] : va_W))) s.heap := hP
    refine va_gld (X := [ob10_0_ xw xc xk wpo wc wf, ob0_0_ xc xn xk clo cro c4 c5 c6 c7 c8, ob3_0_ xn vp vn n1 n2 n3 n4 n5, aq_ cy 6 cro 12 (gf_ rr)]) (Y := []) (r := rr) (M := Mr) (k := a1.toNatClampNeg) hx hb hK.1 hPg 0 rfl (in_lt h_2) (i := a2) h_1 dB_36_2_27.1.2.2.2 ?_
    refine lv_topi (fun y_7 ey_7 => ?_)
    refine lv_if_le (tgt := 55) hx hb dB_36_2_27.2.1.1.1 (by decide) (fun c_8 => ?_) (fun c_8 => ?_)
    · have t_8 : y_7.toInt ≤ (0 : Int32).toInt := Int32.le_iff_toInt_le.mp c_8
      refine lv_ldc (v := 1000000000) hx hb hown (hts (.constant RX10 38 (1000000000)) (List.mem_of_getElem? (i := 3) rfl)) dB_36_2_28.2.1 ?_
      rw [hQ]
      exact W.iret (v := 1000000000) hx hb hr (fun t ht hW => ⟨⟨1000000000, (), rfl, trivial, trivial⟩, hS.F ht⟩) hS.2.2 dB_36_2_28.2.2
    · have t_8 : ¬ y_7.toInt ≤ (0 : Int32).toInt := fun h => c_8 (Int32.le_iff_toInt_le.mpr h)
      refine lv_aload_n hx hb dB_36_2_27.2.1.1.2 rfl (lv_at hl 0 rfl) ?_
      refine va_get (ci := 10) (v := .ref xc) (C := RX10) (T := TX10) (N := 5) hx hb hts (fun _ h => List.mem_cons_of_mem _ (List.mem_append_left _ (List.mem_append_right _ h))) hown hK.1 hP 0 rfl rfl 0 (by decide) (hts (.fieldLink RX10 23 "CutAtlas$Widening" "current" "LCutAtlas$Current;") (List.mem_of_getElem? (i := 1) rfl)) (fun _ h9 => h9) rfl dB_36_2_27.2.1.2.1 ?_
      refine va_get (ci := 0) (v := .ref cro) (C := RX0) (T := TX0) (N := 9) hx hb hts (fun _ h => List.mem_cons_of_mem _ (List.mem_append_right _ h)) hown hK.1 hP 1 rfl rfl 3 (by decide) (hts (.fieldLink RX10 99 "CutAtlas$Current" "room" "[[I") (List.mem_of_getElem? (i := 2) rfl)) (fun _ h9 => h9) rfl dB_36_2_27.2.1.2.2 ?_
      refine lv_iload_n hx hb dB_36_2_27.2.2.1.1 rfl (lv_at hl 1 rfl) ?_
      refine va_alda hx hb hG hP 3 rfl (i := a1) h_2 dB_36_2_27.2.2.1.2 ?_
      refine lv_topv (v' := .ref (rr a1.toNatClampNeg)) (gf_at h_2) ?_
      refine lv_iload_n hx hb dB_36_2_27.2.2.2.1 rfl (lv_at hl 2 rfl) ?_
      have hPg : va_P D vwCl (([ob10_0_ xw xc xk wpo wc wf, ob0_0_ xc xn xk clo cro c4 c5 c6 c7 c8, ob3_0_ xn vp vn n1 n2 n3 n4 n5, aq_ cy 6 cro 12 (gf_ rr)] : va_W) ++ (gro (cy 0) rr Mr ++ ([] : va_W))) s.heap := hP
      refine va_gld (X := [ob10_0_ xw xc xk wpo wc wf, ob0_0_ xc xn xk clo cro c4 c5 c6 c7 c8, ob3_0_ xn vp vn n1 n2 n3 n4 n5, aq_ cy 6 cro 12 (gf_ rr)]) (Y := []) (r := rr) (M := Mr) (k := a1.toNatClampNeg) hx hb hK.1 hPg 0 rfl (in_lt h_2) (i := a2) h_1 dB_36_2_27.2.2.2.2 ?_
      refine lv_topi (fun y_11 ey_11 => ?_)
      refine lv_goto (tgt := 57) hx hb dB_36_2_28.1 (by decide) ?_
      rw [hQ]
      exact W.iret (v := y_11) hx hb hr (fun t ht hW => ⟨⟨y_11, (), rfl, trivial, trivial⟩, hS.F ht⟩) hS.2.2 dB_36_2_28.2.2
  · have t_4 : ¬ (0 : Int32).toInt ≤ y_3.toInt := fun h => c_4 (Int32.le_iff_toInt_le.mpr h)
    refine lv_aload_n hx hb dB_36_2_26.2.1.1.1 rfl (lv_at hl 0 rfl) ?_
    refine va_get (ci := 10) (v := .ref xc) (C := RX10) (T := TX10) (N := 5) hx hb hts (fun _ h => List.mem_cons_of_mem _ (List.mem_append_left _ (List.mem_append_right _ h))) hown hK.1 hP 0 rfl rfl 0 (by decide) (hts (.fieldLink RX10 23 "CutAtlas$Widening" "current" "LCutAtlas$Current;") (List.mem_of_getElem? (i := 1) rfl)) (fun _ h9 => h9) rfl dB_36_2_26.2.1.1.2 ?_
    refine va_get (ci := 0) (v := .ref cro) (C := RX0) (T := TX0) (N := 9) hx hb hts (fun _ h => List.mem_cons_of_mem _ (List.mem_append_right _ h)) hown hK.1 hP 1 rfl rfl 3 (by decide) (hts (.fieldLink RX10 99 "CutAtlas$Current" "room" "[[I") (List.mem_of_getElem? (i := 2) rfl)) (fun _ h9 => h9) rfl dB_36_2_26.2.1.2.1 ?_
    refine lv_iload_n hx hb dB_36_2_26.2.1.2.2 rfl (lv_at hl 2 rfl) ?_
    refine va_alda hx hb hG hP 3 rfl (i := a2) h_1 dB_36_2_26.2.2.1.1 ?_
    refine lv_topv (v' := .ref (rr a2.toNatClampNeg)) (gf_at h_1) ?_
    refine lv_iload_n hx hb dB_36_2_26.2.2.1.2 rfl (lv_at hl 1 rfl) ?_
    have hPg : va_P D vwCl (([ob10_0_ xw xc xk wpo wc wf, ob0_0_ xc xn xk clo cro c4 c5 c6 c7 c8, ob3_0_ xn vp vn n1 n2 n3 n4 n5, aq_ cy 6 cro 12 (gf_ rr)] : va_W) ++ (gro (cy 0) rr Mr ++ ([] : va_W))) s.heap := hP
    refine va_gld (X := [ob10_0_ xw xc xk wpo wc wf, ob0_0_ xc xn xk clo cro c4 c5 c6 c7 c8, ob3_0_ xn vp vn n1 n2 n3 n4 n5, aq_ cy 6 cro 12 (gf_ rr)]) (Y := []) (r := rr) (M := Mr) (k := a2.toNatClampNeg) hx hb hK.1 hPg 0 rfl (in_lt h_1) (i := a1) h_2 dB_36_2_26.2.2.2.1 ?_
    refine lv_topi (fun y_14 ey_14 => ?_)
    refine lv_ineg hx hb dB_36_2_26.2.2.2.2 ?_
    refine lv_topi (fun y_15 ey_15 => ?_)
    rw [hQ]
    exact W.iret (v := y_15) hx hb hr (fun t ht hW => ⟨⟨y_15, (), rfl, trivial, trivial⟩, hS.F ht⟩) hS.2.2 dB_36_2_27.1.1.1.1

set_option maxHeartbeats 4000000 in
set_option maxRecDepth 100000 in
theorem c_X10_roomOfWay (l : Launch) (D : va_G) (cy : Nat → ClassId) (sz : Nat) (xw : Nat) (wpo : Nat) (wc : Nat) (wf : Nat) (xc : Nat) (xk : Nat) (clo : Nat) (cro : Nat) (c4 : Nat) (c5 : Nat) (c6 : Nat) (c7 : Nat) (c8 : Nat) (xn : Nat) (n1 : Nat) (n2 : Nat) (n3 : Nat) (n4 : Nat) (n5 : Nat) (vp : Int32) (vn : Int32) (rr : Nat → Nat) (Mr : Nat → Nat → Int32) (ff : Nat → Int32) (a1 : Int32) (a2 : Int32) (a3 : Int32) (q2 : 0 ≤ a2.toInt ∧ a2.toInt ≤ 11) (r_ff : rng ff 12 (0) (11)) : Met l yX10_roomOfWay wsX10_roomOfWay ({ frames := 1, cells := 0, slots := 0, locals := 22 }) (va_Pc [.ref xw, .int a1, .int a2, .int a3] (fun U => U.heap.size = sz ∧ va_P D vwCl [ob10_0_ xw xc xk wpo wc wf, ob0_0_ xc xn xk clo cro c4 c5 c6 c7 c8, ob3_0_ xn vp vn n1 n2 n3 n4 n5, aq_ cy 6 cro 12 (gf_ rr), ai_ cy (rr 0) 12 (Mr 0), ai_ cy (rr 1) 12 (Mr 1), ai_ cy (rr 2) 12 (Mr 2), ai_ cy (rr 3) 12 (Mr 3), ai_ cy (rr 4) 12 (Mr 4), ai_ cy (rr 5) 12 (Mr 5), ai_ cy (rr 6) 12 (Mr 6), ai_ cy (rr 7) 12 (Mr 7), ai_ cy (rr 8) 12 (Mr 8), ai_ cy (rr 9) 12 (Mr 9), ai_ cy (rr 10) 12 (Mr 10), ai_ cy (rr 11) 12 (Mr 11), ai_ cy wf 12 ff] U.heap ∧ kg_ D cy U ∧ va_D (fun _ => True) [ob10_0_ xw xc xk wpo wc wf, ob0_0_ xc xn xk clo cro c4 c5 c6 c7 c8, ob3_0_ xn vp vn n1 n2 n3 n4 n5, aq_ cy 6 cro 12 (gf_ rr), ai_ cy (rr 0) 12 (Mr 0), ai_ cy (rr 1) 12 (Mr 1), ai_ cy (rr 2) 12 (Mr 2), ai_ cy (rr 3) 12 (Mr 3), ai_ cy (rr 4) 12 (Mr 4), ai_ cy (rr 5) 12 (Mr 5), ai_ cy (rr 6) 12 (Mr 6), ai_ cy (rr 7) 12 (Mr 7), ai_ cy (rr 8) 12 (Mr 8), ai_ cy (rr 9) 12 (Mr 9), ai_ cy (rr 10) 12 (Mr 10), ai_ cy (rr 11) 12 (Mr 11), ai_ cy wf 12 ff])) (va_Qi (fun (r : Int32) (_ : Unit) => True) (fun (_ : Unit) (_ : State) => True) (va_A [] sz)) 0 0 (va_A [] sz) := by
  refine ofQ (cc := cX10_roomOfWay) (maxL := 7) (ret := (some .int)) (by decide) rfl ?_
  intro p e s m args below meth c s₁ Q hQ B hml hv
  obtain ⟨rfl, hsz, hP, hK, hD0⟩ := hv
  have hG := hK.2
  have hK := hK.1
  have hx := B.exec
  have hb := B.bytes
  have hr := B.returns
  have hts := atoms_spec (ws := wsX10_roomOfWay) B.pre
  have hown : s.vm.findClass RX10 = some m.cls := by have h_ := findClass_of_methodNamed B.named; exact h_
  have hlocks := B.notSynchronized
  subst hsz
  have hD : va_D (va_A [] s.heap.size) [] := dd_nil
  generalize hAe : va_A [] s.heap.size = A at hD hQ
  have hA : ∀ q : Nat, s.heap.size ≤ q → A q := fun q h => by rw [← hAe]; exact Or.inr h
  have hS : va_S A s.heap s.heap [] := va_S.rf
  have hl := lv_entry ([.ref xw, .int a1, .int a2, .int a3]) (n := 7) (Nat.le_of_ble_eq_true rfl)
  rw [lg_entry_eq]
  generalize (lg_sl ([.ref xw, .int a1, .int a2, .int a3]) ++ List.replicate (7 - (lg_sl ([.ref xw, .int a1, .int a2, .int a3])).length) Slot.unset).toArray = ls at hl ⊢
  have hl : lv_has ls 7 [(0, .ref xw), (1, .int a1), (2, .int a2), (3, .int a3)] := hl
  have z0 : (0 : Int32).toInt = 0 := by decide
  have z1 : (1 : Int32).toInt = 1 := by decide
  have z12 : (12 : Int32).toInt = 12 := by decide
  refine lv_iload_n hx hb dB_36_2_18.1.1.1.1 rfl (lv_at hl 3 rfl) ?_
  refine lv_istore (lv' := [(4, .int a3), (0, .ref xw), (1, .int a1), (2, .int a2), (3, .int a3)]) hx hb dB_36_2_18.1.1.1.2 hl (by decide) rfl (fun ls hl => ?_)
  refine lv_iload_n hx hb dB_36_2_18.1.1.2.1 rfl (lv_at hl 3 rfl) ?_
  refine lv_istore (lv' := [(5, .int a2), (4, .int a3), (0, .ref xw), (1, .int a1), (2, .int a2), (3, .int a3)]) hx hb dB_36_2_18.1.1.2.2 hl (by decide) rfl (fun ls hl => ?_)
  refine lv_iconst (v := 0) hx hb dB_36_2_18.1.2.1.1 (by decide) ?_
  refine lv_istore (lv' := [(6, .int 0), (5, .int a2), (4, .int a3), (0, .ref xw), (1, .int a1), (2, .int a2), (3, .int a3)]) hx hb dB_36_2_18.1.2.1.2 hl (by decide) rfl (fun ls hl => ?_)
  suffices LOOP_1 : ∀ (n_1 : Nat) (x6_1 : Int32) (x5_1 : Int32) (x4_1 : Int32) (H : Heap) (locs : List Loc) (ls : Array Slot), 12 - x6_1.toInt < (n_1 : Int) → (0 ≤ x5_1.toInt ∧ x5_1.toInt ≤ 11) → (0 ≤ x6_1.toInt) → (x6_1.toInt ≤ 12) → va_P D vwCl [ob10_0_ xw xc xk wpo wc wf, ob0_0_ xc xn xk clo cro c4 c5 c6 c7 c8, ob3_0_ xn vp vn n1 n2 n3 n4 n5, aq_ cy 6 cro 12 (gf_ rr), ai_ cy (rr 0) 12 (Mr 0), ai_ cy (rr 1) 12 (Mr 1), ai_ cy (rr 2) 12 (Mr 2), ai_ cy (rr 3) 12 (Mr 3), ai_ cy (rr 4) 12 (Mr 4), ai_ cy (rr 5) 12 (Mr 5), ai_ cy (rr 6) 12 (Mr 6), ai_ cy (rr 7) 12 (Mr 7), ai_ cy (rr 8) 12 (Mr 8), ai_ cy (rr 9) 12 (Mr 9), ai_ cy (rr 10) 12 (Mr 10), ai_ cy (rr 11) 12 (Mr 11), ai_ cy wf 12 ff] H → va_S A s.heap H locs → lv_has ls 7 [(6, .int x6_1), (5, .int x5_1), (4, .int x4_1), (0, .ref xw), (1, .int a1), (2, .int a2), (3, .int a3)] → W p l e ({ frames := 1, cells := 0, slots := 0, locals := 22 } : Room) s m (([.ref xw, .int a1, .int a2, .int a3] : List Value).toArray) below meth c H locs 0 0 Q (F0 m 9 ls []) from LOOP_1 ((12 - (0 : Int32).toInt).toNat + 1) (0 : Int32) a2 a3 _ _ _ (by omega) (by first | with_reducible assumption | omega | assumption) (by first | with_reducible assumption | omega | assumption) (by first | with_reducible assumption | omega | assumption) hP hS (lv_sub hl [0, 1, 2, 3, 4, 5, 6] rfl)
  intro n_1
  induction n_1 with
  | zero =>
    intro x6_1 x5_1 x4_1 H locs ls hm v0_1 v1_1 v2_1 hP hS hl
    exact absurd hm (by omega)
  | succ n_1 ih_1 =>
    intro x6_1 x5_1 x4_1 H locs ls hm v0_1 v1_1 v2_1 hP hS hl
    refine lv_iload hx hb dB_36_2_18.1.2.2.1 (lv_at hl 0 rfl) ?_
    refine lv_bipush (v := 12) hx hb dB_36_2_18.1.2.2.2 (by decide) ?_
    refine lv_icmp_ge (tgt := 57) hx hb dB_36_2_18.2.1.1.1 (by decide) (fun c_2 => ?_) (fun c_2 => ?_)
    · have t_2 : (12 : Int32).toInt ≤ x6_1.toInt := Int32.le_iff_toInt_le.mp c_2
      refine lv_iload hx hb dB_36_2_19.2.2.2.1 (lv_at hl 2 rfl) ?_
      rw [hQ]
      exact W.iret (v := x4_1) hx hb hr (fun t ht hW => ⟨⟨x4_1, (), rfl, trivial, trivial⟩, hS.F ht⟩) hS.2.2 dB_36_2_19.2.2.2.2
    · have t_2 : ¬ (12 : Int32).toInt ≤ x6_1.toInt := fun h => c_2 (Int32.le_iff_toInt_le.mpr h)
      refine lv_iload hx hb dB_36_2_18.2.1.1.2 (lv_at hl 1 rfl) ?_
      refine lv_iload_n hx hb dB_36_2_18.2.1.2.1 rfl (lv_at hl 4 rfl) ?_
      refine lv_icmp_eq (tgt := 57) hx hb dB_36_2_18.2.1.2.2 (by decide) (fun c_3 => ?_) (fun c_3 => ?_)
      · have t_3 : x5_1.toInt = a1.toInt := congrArg Int32.toInt c_3
        refine lv_iload hx hb dB_36_2_19.2.2.2.1 (lv_at hl 2 rfl) ?_
        rw [hQ]
        exact W.iret (v := x4_1) hx hb hr (fun t ht hW => ⟨⟨x4_1, (), rfl, trivial, trivial⟩, hS.F ht⟩) hS.2.2 dB_36_2_19.2.2.2.2
      · have t_3 : ¬ x5_1.toInt = a1.toInt := fun h => c_3 (Int32.toInt_inj.mp h)
        refine lv_iload hx hb dB_36_2_18.2.2.1.1 (lv_at hl 2 rfl) ?_
        refine lv_aload_n hx hb dB_36_2_18.2.2.1.2 rfl (lv_at hl 3 rfl) ?_
        refine lv_aload_n hx hb dB_36_2_18.2.2.2.1 rfl (lv_at hl 3 rfl) ?_
        refine va_get (ci := 10) (v := .ref wf) (C := RX10) (T := TX10) (N := 5) hx hb hts (fun _ h => List.mem_cons_of_mem _ (List.mem_append_left _ (List.mem_append_right _ h))) hown hK.1 hP 0 rfl rfl 4 (by decide) (hts (.fieldLink RX10 20 "CutAtlas$Widening" "cameFrom" "[I") (List.mem_of_getElem? (i := 1) rfl)) (fun _ h9 => h9) rfl dB_36_2_18.2.2.2.2 ?_
        refine lv_iload hx hb dB_36_2_19.1.1.1 (lv_at hl 1 rfl) ?_
        have h_4 : vp_in x5_1 12 := in_I (by first | with_reducible assumption | omega) (by omega)
        refine va_iald hx hb hK.1 hP 16 0 rfl rfl (i := x5_1) h_4 dB_36_2_19.1.1.2.1 ?_
        refine lv_topi (fun y_5 ey_5 => ?_)
        have ry_5 : 0 ≤ y_5.toInt ∧ y_5.toInt ≤ 11 := by rw [ey_5]; exact r_ff _ (in_lt h_4)
        refine lv_iload hx hb dB_36_2_19.1.1.2.2 (lv_at hl 1 rfl) ?_
        refine ct_R hP hD0 [ob10_0_ xw xc xk wpo wc wf, ob0_0_ xc xn xk clo cro c4 c5 c6 c7 c8, ob3_0_ xn vp vn n1 n2 n3 n4 n5, aq_ cy 6 cro 12 (gf_ rr), ai_ cy (rr 0) 12 (Mr 0), ai_ cy (rr 1) 12 (Mr 1), ai_ cy (rr 2) 12 (Mr 2), ai_ cy (rr 3) 12 (Mr 3), ai_ cy (rr 4) 12 (Mr 4), ai_ cy (rr 5) 12 (Mr 5), ai_ cy (rr 6) 12 (Mr 6), ai_ cy (rr 7) 12 (Mr 7), ai_ cy (rr 8) 12 (Mr 8), ai_ cy (rr 9) 12 (Mr 9), ai_ cy (rr 10) 12 (Mr 10), ai_ cy (rr 11) 12 (Mr 11)] [0, 1, 2, 3, 4, 5, 6, 7, 8, 9, 10, 11, 12, 13, 14, 15] (by decide +kernel) rfl (fun hPc hDw => ?_)
        have hFc := va_free (wc := []) hD hS hA [] rfl
        refine va_calli (va_runV (As := [.int y_5, .int x5_1]) (rest := [.int x4_1]) ⟨hx, hb, hml, hown, hts⟩ (c_X10_stepRoom l D cy H.size xw wpo wc wf xc xk clo cro c4 c5 c6 c7 c8 xn n1 n2 n3 n4 n5 vp vn rr Mr y_5 x5_1 (by first | with_reducible assumption | omega | assumption) (by first | with_reducible assumption | omega | assumption)) (cwV 2 hts gX10_roomOfWay_X10_stepRoom rfl rfl rfl ⟨rfl, hd_X10_stepRoom⟩ ⟨Nat.le_of_ble_eq_true rfl, Nat.le_of_ble_eq_true rfl⟩) ⟨bl_g, va_recvX hK.1 hP (ci := 10) (q0 := 0) rfl rfl, fun U hU hW => ⟨rfl, by rw [hU], by rw [hU]; exact hPc, ⟨kk_mv hW hK, arrOfT_moved hW.alike hG⟩, hDw⟩⟩ rfl rfl hl.1 rfl (lv_room (Nat.le_of_ble_eq_true rfl)) dB_36_2_19.1.2.1.1 ⟨Nat.le_of_ble_eq_true rfl, Nat.le_of_ble_eq_true rfl⟩) hS (fun q _ h => hFc q h) hFc (fun r_6 u t H locs ht hvm hw hB hz1 hk1 hS => ?_)
        have hP : va_P D vwCl _ H := ro_keep hP hk1
        refine va_mmin hx hb (by rw [hml]; exact hl.1.symm) hown (hts (.methodLink RX10 87 Lib.Math.min.name) (List.mem_of_getElem? (i := 2) rfl)) (hts (.static Lib.Math.min.name) (List.mem_of_getElem? (i := 3) rfl)) (hts (.initialized "java/lang/Math") (List.mem_of_getElem? (i := 4) rfl)) (hts (.code Lib.Math.min.name Lib.Math.min.code 2 (some .int)) (List.mem_of_getElem? (i := 5) rfl)) (Nat.le_of_ble_eq_true rfl) (Nat.le_of_ble_eq_true rfl) (Nat.le_of_ble_eq_true rfl) (Nat.le_of_ble_eq_true rfl) dB_36_2_19.1.2.1.2 ?_
        refine lv_topi (fun y_7 ey_7 => ?_)
        have ty_7 : y_7 = x4_1 ∨ y_7 = r_6 := by rw [ey_7]; split <;> simp
        have iy_7 : y_7.toInt = x4_1.toInt ∨ y_7.toInt = r_6.toInt := by rcases ty_7 with h | h <;> rw [h] <;> simp
        refine lv_istore (lv' := [(4, .int y_7), (6, .int x6_1), (5, .int x5_1), (0, .ref xw), (1, .int a1), (2, .int a2), (3, .int a3)]) hx hb dB_36_2_19.1.2.2.1 hl (by decide) rfl (fun ls hl => ?_)
        refine lv_aload_n hx hb dB_36_2_19.1.2.2.2 rfl (lv_at hl 3 rfl) ?_
        refine va_get (ci := 10) (v := .ref wf) (C := RX10) (T := TX10) (N := 5) hx hb hts (fun _ h => List.mem_cons_of_mem _ (List.mem_append_left _ (List.mem_append_right _ h))) hown hK.1 hP 0 rfl rfl 4 (by decide) (hts (.fieldLink RX10 20 "CutAtlas$Widening" "cameFrom" "[I") (List.mem_of_getElem? (i := 1) rfl)) (fun _ h9 => h9) rfl dB_36_2_19.2.1.1.1 ?_
        refine lv_iload hx hb dB_36_2_19.2.1.1.2 (lv_at hl 2 rfl) ?_
        refine va_iald hx hb hK.1 hP 16 0 rfl rfl (i := x5_1) h_4 dB_36_2_19.2.1.2.1 ?_
        refine lv_topi (fun y_9 ey_9 => ?_)
        have e_ := (ey_9.trans ey_5.symm).symm
        subst e_
        skip
        refine lv_istore (lv' := [(5, .int y_5), (4, .int y_7), (6, .int x6_1), (0, .ref xw), (1, .int a1), (2, .int a2), (3, .int a3)]) hx hb dB_36_2_19.2.1.2.2 hl (by decide) rfl (fun ls hl => ?_)
        obtain ⟨y_10, ey_10⟩ : ∃ y : Int32, y = x6_1 + 1 := ⟨_, rfl⟩
        have ty_10 : y_10.toInt = x6_1.toInt + (1 : Int32).toInt := by rw [ey_10]; exact addI (by omega) (by omega)
        refine lv_iinc (v := y_10) (lv' := [(6, .int y_10), (5, .int y_5), (4, .int y_7), (0, .ref xw), (1, .int a1), (2, .int a2), (3, .int a3)]) hx hb dB_36_2_19.2.2.1.1 hl (k := 2) rfl (by rw [ey_10]; rfl) (by decide) rfl (fun ls hl => ?_)
        refine lv_goto (tgt := 9) hx hb dB_36_2_19.2.2.1.2 (by decide) ?_
        exact ih_1 y_10 y_5 y_7 _ _ _ (by omega) (by first | with_reducible assumption | omega | assumption) (by first | with_reducible assumption | omega | assumption) (by first | with_reducible assumption | omega | assumption) hP hS (lv_sub hl [0, 1, 2, 3, 4, 5, 6] rfl)

set_option maxHeartbeats 4000000 in
set_option maxRecDepth 100000 in
theorem c_X10_sendAlongWay (l : Launch) (D : va_G) (cy : Nat → ClassId) (sz : Nat) (xw : Nat) (wpo : Nat) (wc : Nat) (wf : Nat) (xc : Nat) (xk : Nat) (clo : Nat) (cro : Nat) (c4 : Nat) (c5 : Nat) (c6 : Nat) (c7 : Nat) (c8 : Nat) (xn : Nat) (n1 : Nat) (n2 : Nat) (n3 : Nat) (n4 : Nat) (n5 : Nat) (vp : Int32) (vn : Int32) (rr : Nat → Nat) (Mr : Nat → Nat → Int32) (ff : Nat → Int32) (a1 : Int32) (a2 : Int32) (a3 : Int32) (q2 : 0 ≤ a2.toInt ∧ a2.toInt ≤ 11) (r_ff : rng ff 12 (0) (11)) : Met l yX10_sendAlongWay wsX10_sendAlongWay ({ frames := 0, cells := 0, slots := 0, locals := 0 }) (va_Pc [.ref xw, .int a1, .int a2, .int a3] (fun U => U.heap.size = sz ∧ va_P D vwCl [ob10_0_ xw xc xk wpo wc wf, ob0_0_ xc xn xk clo cro c4 c5 c6 c7 c8, ob3_0_ xn vp vn n1 n2 n3 n4 n5, aq_ cy 6 cro 12 (gf_ rr), ai_ cy (rr 0) 12 (Mr 0), ai_ cy (rr 1) 12 (Mr 1), ai_ cy (rr 2) 12 (Mr 2), ai_ cy (rr 3) 12 (Mr 3), ai_ cy (rr 4) 12 (Mr 4), ai_ cy (rr 5) 12 (Mr 5), ai_ cy (rr 6) 12 (Mr 6), ai_ cy (rr 7) 12 (Mr 7), ai_ cy (rr 8) 12 (Mr 8), ai_ cy (rr 9) 12 (Mr 9), ai_ cy (rr 10) 12 (Mr 10), ai_ cy (rr 11) 12 (Mr 11), ai_ cy wf 12 ff] U.heap ∧ kg_ D cy U ∧ va_D (fun _ => True) [ob10_0_ xw xc xk wpo wc wf, ob0_0_ xc xn xk clo cro c4 c5 c6 c7 c8, ob3_0_ xn vp vn n1 n2 n3 n4 n5, aq_ cy 6 cro 12 (gf_ rr), ai_ cy (rr 0) 12 (Mr 0), ai_ cy (rr 1) 12 (Mr 1), ai_ cy (rr 2) 12 (Mr 2), ai_ cy (rr 3) 12 (Mr 3), ai_ cy (rr 4) 12 (Mr 4), ai_ cy (rr 5) 12 (Mr 5), ai_ cy (rr 6) 12 (Mr 6), ai_ cy (rr 7) 12 (Mr 7), ai_ cy (rr 8) 12 (Mr 8), ai_ cy (rr 9) 12 (Mr 9), ai_ cy (rr 10) 12 (Mr 10), ai_ cy (rr 11) 12 (Mr 11), ai_ cy wf 12 ff])) (va_Qv (fun (_ : Unit) => True) (fun (_ : Unit) (t : State) => ∃ (eMr : Nat → Nat → Int32), va_P D vwCl [ob10_0_ xw xc xk wpo wc wf, ob0_0_ xc xn xk clo cro c4 c5 c6 c7 c8, ob3_0_ xn vp vn n1 n2 n3 n4 n5, aq_ cy 6 cro 12 (gf_ rr), ai_ cy (rr 0) 12 (eMr 0), ai_ cy (rr 1) 12 (eMr 1), ai_ cy (rr 2) 12 (eMr 2), ai_ cy (rr 3) 12 (eMr 3), ai_ cy (rr 4) 12 (eMr 4), ai_ cy (rr 5) 12 (eMr 5), ai_ cy (rr 6) 12 (eMr 6), ai_ cy (rr 7) 12 (eMr 7), ai_ cy (rr 8) 12 (eMr 8), ai_ cy (rr 9) 12 (eMr 9), ai_ cy (rr 10) 12 (eMr 10), ai_ cy (rr 11) 12 (eMr 11), ai_ cy wf 12 ff] t.heap ∧ va_D (va_A [ob10_0_ xw xc xk wpo wc wf, ob0_0_ xc xn xk clo cro c4 c5 c6 c7 c8, ob3_0_ xn vp vn n1 n2 n3 n4 n5, aq_ cy 6 cro 12 (gf_ rr), ai_ cy (rr 0) 12 (Mr 0), ai_ cy (rr 1) 12 (Mr 1), ai_ cy (rr 2) 12 (Mr 2), ai_ cy (rr 3) 12 (Mr 3), ai_ cy (rr 4) 12 (Mr 4), ai_ cy (rr 5) 12 (Mr 5), ai_ cy (rr 6) 12 (Mr 6), ai_ cy (rr 7) 12 (Mr 7), ai_ cy (rr 8) 12 (Mr 8), ai_ cy (rr 9) 12 (Mr 9), ai_ cy (rr 10) 12 (Mr 10), ai_ cy (rr 11) 12 (Mr 11), ai_ cy wf 12 ff] sz) [ob10_0_ xw xc xk wpo wc wf, ob0_0_ xc xn xk clo cro c4 c5 c6 c7 c8, ob3_0_ xn vp vn n1 n2 n3 n4 n5, aq_ cy 6 cro 12 (gf_ rr), ai_ cy (rr 0) 12 (eMr 0), ai_ cy (rr 1) 12 (eMr 1), ai_ cy (rr 2) 12 (eMr 2), ai_ cy (rr 3) 12 (eMr 3), ai_ cy (rr 4) 12 (eMr 4), ai_ cy (rr 5) 12 (eMr 5), ai_ cy (rr 6) 12 (eMr 6), ai_ cy (rr 7) 12 (eMr 7), ai_ cy (rr 8) 12 (eMr 8), ai_ cy (rr 9) 12 (eMr 9), ai_ cy (rr 10) 12 (eMr 10), ai_ cy (rr 11) 12 (eMr 11), ai_ cy wf 12 ff]) (va_A [ob10_0_ xw xc xk wpo wc wf, ob0_0_ xc xn xk clo cro c4 c5 c6 c7 c8, ob3_0_ xn vp vn n1 n2 n3 n4 n5, aq_ cy 6 cro 12 (gf_ rr), ai_ cy (rr 0) 12 (Mr 0), ai_ cy (rr 1) 12 (Mr 1), ai_ cy (rr 2) 12 (Mr 2), ai_ cy (rr 3) 12 (Mr 3), ai_ cy (rr 4) 12 (Mr 4), ai_ cy (rr 5) 12 (Mr 5), ai_ cy (rr 6) 12 (Mr 6), ai_ cy (rr 7) 12 (Mr 7), ai_ cy (rr 8) 12 (Mr 8), ai_ cy (rr 9) 12 (Mr 9), ai_ cy (rr 10) 12 (Mr 10), ai_ cy (rr 11) 12 (Mr 11), ai_ cy wf 12 ff] sz)) 0 0 (va_A [ob10_0_ xw xc xk wpo wc wf, ob0_0_ xc xn xk clo cro c4 c5 c6 c7 c8, ob3_0_ xn vp vn n1 n2 n3 n4 n5, aq_ cy 6 cro 12 (gf_ rr), ai_ cy (rr 0) 12 (Mr 0), ai_ cy (rr 1) 12 (Mr 1), ai_ cy (rr 2) 12 (Mr 2), ai_ cy (rr 3) 12 (Mr 3), ai_ cy (rr 4) 12 (Mr 4), ai_ cy (rr 5) 12 (Mr 5), ai_ cy (rr 6) 12 (Mr 6), ai_ cy (rr 7) 12 (Mr 7), ai_ cy (rr 8) 12 (Mr 8), ai_ cy (rr 9) 12 (Mr 9), ai_ cy (rr 10) 12 (Mr 10), ai_ cy (rr 11) 12 (Mr 11), ai_ cy wf 12 ff] sz) := by
  refine ofQ (cc := cX10_sendAlongWay) (maxL := 6) (ret := none) (by decide) rfl ?_
  intro p e s m args below meth c s₁ Q hQ B hml hv
  obtain ⟨rfl, hsz, hP, hK, hD0⟩ := hv
  have hG := hK.2
  have hK := hK.1
  have hx := B.exec
  have hb := B.bytes
  have hr := B.returns
  have hts := atoms_spec (ws := wsX10_sendAlongWay) B.pre
  have hown : s.vm.findClass RX10 = some m.cls := by have h_ := findClass_of_methodNamed B.named; exact h_
  have hlocks := B.notSynchronized
  subst hsz
  have hD := hD0.self (sz := s.heap.size)
  generalize hAe : va_A [ob10_0_ xw xc xk wpo wc wf, ob0_0_ xc xn xk clo cro c4 c5 c6 c7 c8, ob3_0_ xn vp vn n1 n2 n3 n4 n5, aq_ cy 6 cro 12 (gf_ rr), ai_ cy (rr 0) 12 (Mr 0), ai_ cy (rr 1) 12 (Mr 1), ai_ cy (rr 2) 12 (Mr 2), ai_ cy (rr 3) 12 (Mr 3), ai_ cy (rr 4) 12 (Mr 4), ai_ cy (rr 5) 12 (Mr 5), ai_ cy (rr 6) 12 (Mr 6), ai_ cy (rr 7) 12 (Mr 7), ai_ cy (rr 8) 12 (Mr 8), ai_ cy (rr 9) 12 (Mr 9), ai_ cy (rr 10) 12 (Mr 10), ai_ cy (rr 11) 12 (Mr 11), ai_ cy wf 12 ff] s.heap.size = A at hD hQ
  have hA : ∀ q : Nat, s.heap.size ≤ q → A q := fun q h => by rw [← hAe]; exact Or.inr h
  have hS : va_S A s.heap s.heap [] := va_S.rf
  have hl := lv_entry ([.ref xw, .int a1, .int a2, .int a3]) (n := 6) (Nat.le_of_ble_eq_true rfl)
  rw [lg_entry_eq]
  generalize (lg_sl ([.ref xw, .int a1, .int a2, .int a3]) ++ List.replicate (6 - (lg_sl ([.ref xw, .int a1, .int a2, .int a3])).length) Slot.unset).toArray = ls at hl ⊢
  have hl : lv_has ls 6 [(0, .ref xw), (1, .int a1), (2, .int a2), (3, .int a3)] := hl
  have z0 : (0 : Int32).toInt = 0 := by decide
  have z1 : (1 : Int32).toInt = 1 := by decide
  have z12 : (12 : Int32).toInt = 12 := by decide
  refine lv_iload_n hx hb dB_36_2_20.1.1.1.1 rfl (lv_at hl 2 rfl) ?_
  refine lv_istore (lv' := [(4, .int a2), (0, .ref xw), (1, .int a1), (2, .int a2), (3, .int a3)]) hx hb dB_36_2_20.1.1.1.2 hl (by decide) rfl (fun ls hl => ?_)
  refine lv_iconst (v := 0) hx hb dB_36_2_20.1.1.2.1 (by decide) ?_
  refine lv_istore (lv' := [(5, .int 0), (4, .int a2), (0, .ref xw), (1, .int a1), (2, .int a2), (3, .int a3)]) hx hb dB_36_2_20.1.1.2.2 hl (by decide) rfl (fun ls hl => ?_)
  suffices LOOP_1 : ∀ (n_1 : Nat) (x5_1 : Int32) (x4_1 : Int32) (m_rr_1 : Nat → Nat → Int32) (H : Heap) (locs : List Loc) (ls : Array Slot), 12 - x5_1.toInt < (n_1 : Int) → (0 ≤ x4_1.toInt ∧ x4_1.toInt ≤ 11) → (0 ≤ x5_1.toInt) → (x5_1.toInt ≤ 12) → pd_2 D vwCl A [ob10_0_ xw xc xk wpo wc wf, ob0_0_ xc xn xk clo cro c4 c5 c6 c7 c8, ob3_0_ xn vp vn n1 n2 n3 n4 n5, aq_ cy 6 cro 12 (gf_ rr), ai_ cy (rr 0) 12 (m_rr_1 0), ai_ cy (rr 1) 12 (m_rr_1 1), ai_ cy (rr 2) 12 (m_rr_1 2), ai_ cy (rr 3) 12 (m_rr_1 3), ai_ cy (rr 4) 12 (m_rr_1 4), ai_ cy (rr 5) 12 (m_rr_1 5), ai_ cy (rr 6) 12 (m_rr_1 6), ai_ cy (rr 7) 12 (m_rr_1 7), ai_ cy (rr 8) 12 (m_rr_1 8), ai_ cy (rr 9) 12 (m_rr_1 9), ai_ cy (rr 10) 12 (m_rr_1 10), ai_ cy (rr 11) 12 (m_rr_1 11), ai_ cy wf 12 ff] H → va_S A s.heap H locs → lv_has ls 6 [(5, .int x5_1), (4, .int x4_1), (0, .ref xw), (1, .int a1), (2, .int a2), (3, .int a3)] → W p l e ({ frames := 0, cells := 0, slots := 0, locals := 0 } : Room) s m (([.ref xw, .int a1, .int a2, .int a3] : List Value).toArray) below meth c H locs 0 0 Q (F0 m 6 ls []) from LOOP_1 ((12 - (0 : Int32).toInt).toNat + 1) (0 : Int32) a2 Mr _ _ _ (by omega) (by first | with_reducible assumption | omega | assumption) (by first | with_reducible assumption | omega | assumption) (by first | with_reducible assumption | omega | assumption) ⟨hP, hD⟩ hS (lv_sub hl [0, 1, 2, 3, 4, 5] rfl)
  intro n_1
  induction n_1 with
  | zero =>
    intro x5_1 x4_1 m_rr_1 H locs ls hm v0_1 v1_1 v2_1 hPD hS hl; obtain ⟨hP, hD⟩ := hPD
    exact absurd hm (by omega)
  | succ n_1 ih_1 =>
    intro x5_1 x4_1 m_rr_1 H locs ls hm v0_1 v1_1 v2_1 hPD hS hl; obtain ⟨hP, hD⟩ := hPD
    refine lv_iload hx hb dB_36_2_20.1.2.1.1 (lv_at hl 0 rfl) ?_
    refine lv_bipush (v := 12) hx hb dB_36_2_20.1.2.1.2 (by decide) ?_
    refine lv_icmp_ge (tgt := 78) hx hb dB_36_2_20.1.2.2.1 (by decide) (fun c_2 => ?_) (fun c_2 => ?_)
    · have t_2 : (12 : Int32).toInt ≤ x5_1.toInt := Int32.le_iff_toInt_le.mp c_2
      rw [hQ]
      exact W.vret hx hb hr (fun t ht hW => ⟨⟨(), rfl, trivial, m_rr_1, by rw [ht]; exact hP, hD⟩, hS.F ht⟩) hS.2.2 dB_36_2_22.2.2.2.2
    · have t_2 : ¬ (12 : Int32).toInt ≤ x5_1.toInt := fun h => c_2 (Int32.le_iff_toInt_le.mpr h)
      refine lv_iload hx hb dB_36_2_20.1.2.2.2 (lv_at hl 1 rfl) ?_
      refine lv_iload_n hx hb dB_36_2_20.2.1.1.1 rfl (lv_at hl 3 rfl) ?_
      refine lv_icmp_eq (tgt := 78) hx hb dB_36_2_20.2.1.1.2 (by decide) (fun c_3 => ?_) (fun c_3 => ?_)
      · have t_3 : x4_1.toInt = a1.toInt := congrArg Int32.toInt c_3
        rw [hQ]
        exact W.vret hx hb hr (fun t ht hW => ⟨⟨(), rfl, trivial, m_rr_1, by rw [ht]; exact hP, hD⟩, hS.F ht⟩) hS.2.2 dB_36_2_22.2.2.2.2
      · have t_3 : ¬ x4_1.toInt = a1.toInt := fun h => c_3 (Int32.toInt_inj.mp h)
        refine lv_aload_n hx hb dB_36_2_20.2.1.2.1 rfl (lv_at hl 2 rfl) ?_
        refine va_get (ci := 10) (v := .ref xc) (C := RX10) (T := TX10) (N := 5) hx hb hts (fun _ h => List.mem_cons_of_mem _ (List.mem_append_left _ (List.mem_append_right _ h))) hown hK.1 hP 0 rfl rfl 0 (by decide) (hts (.fieldLink RX10 23 "CutAtlas$Widening" "current" "LCutAtlas$Current;") (List.mem_of_getElem? (i := 1) rfl)) (fun _ h9 => h9) rfl dB_36_2_20.2.1.2.2 ?_
        refine va_get (ci := 0) (v := .ref cro) (C := RX0) (T := TX0) (N := 9) hx hb hts (fun _ h => List.mem_cons_of_mem _ (List.mem_append_right _ h)) hown hK.1 hP 1 rfl rfl 3 (by decide) (hts (.fieldLink RX10 99 "CutAtlas$Current" "room" "[[I") (List.mem_of_getElem? (i := 2) rfl)) (fun _ h9 => h9) rfl dB_36_2_20.2.2.1.1 ?_
        refine lv_aload_n hx hb dB_36_2_20.2.2.1.2 rfl (lv_at hl 2 rfl) ?_
        refine va_get (ci := 10) (v := .ref wf) (C := RX10) (T := TX10) (N := 5) hx hb hts (fun _ h => List.mem_cons_of_mem _ (List.mem_append_left _ (List.mem_append_right _ h))) hown hK.1 hP 0 rfl rfl 4 (by decide) (hts (.fieldLink RX10 20 "CutAtlas$Widening" "cameFrom" "[I") (List.mem_of_getElem? (i := 3) rfl)) (fun _ h9 => h9) rfl dB_36_2_20.2.2.2.1 ?_
        refine lv_iload hx hb dB_36_2_20.2.2.2.2 (lv_at hl 1 rfl) ?_
        have h_4 : vp_in x4_1 12 := in_I (by first | with_reducible assumption | omega) (by omega)
        refine va_iald hx hb hK.1 hP 16 0 rfl rfl (i := x4_1) h_4 dB_36_2_21.1.1.1.1 ?_
        refine lv_topi (fun y_5 ey_5 => ?_)
        have ry_5 : 0 ≤ y_5.toInt ∧ y_5.toInt ≤ 11 := by rw [ey_5]; exact r_ff _ (in_lt h_4)
        have h_6 : vp_in y_5 12 := in_I (by first | with_reducible assumption | omega) (by omega)
        refine va_alda hx hb hG hP 3 rfl (i := y_5) h_6 dB_36_2_21.1.1.1.2 ?_
        refine lv_topv (v' := .ref (rr y_5.toNatClampNeg)) (gf_at h_6) ?_
        refine lv_iload hx hb dB_36_2_21.1.1.2.1 (lv_at hl 1 rfl) ?_
        refine lv_dup2_11 hx hb dB_36_2_21.1.1.2.2 rfl rfl ?_
        have hPg : va_P D vwCl (([ob10_0_ xw xc xk wpo wc wf, ob0_0_ xc xn xk clo cro c4 c5 c6 c7 c8, ob3_0_ xn vp vn n1 n2 n3 n4 n5, aq_ cy 6 cro 12 (gf_ rr)] : va_W) ++ (gro (cy 0) rr m_rr_1 ++ ([ai_ cy wf 12 ff] : va_W))) H := hP
        refine va_gld (X := [ob10_0_ xw xc xk wpo wc wf, ob0_0_ xc xn xk clo cro c4 c5 c6 c7 c8, ob3_0_ xn vp vn n1 n2 n3 n4 n5, aq_ cy 6 cro 12 (gf_ rr)]) (Y := [ai_ cy wf 12 ff]) (r := rr) (M := m_rr_1) (k := y_5.toNatClampNeg) hx hb hK.1 hPg 0 rfl (in_lt h_6) (i := x4_1) h_4 dB_36_2_21.1.2.1.1 ?_
        refine lv_topi (fun y_8 ey_8 => ?_)
        refine lv_iload_n hx hb dB_36_2_21.1.2.1.2 rfl (lv_at hl 5 rfl) ?_
        refine lv_isub hx hb dB_36_2_21.1.2.2.1 ?_
        refine lv_topi (fun y_9 ey_9 => ?_)
        have hPg : va_P D vwCl (([ob10_0_ xw xc xk wpo wc wf, ob0_0_ xc xn xk clo cro c4 c5 c6 c7 c8, ob3_0_ xn vp vn n1 n2 n3 n4 n5, aq_ cy 6 cro 12 (gf_ rr)] : va_W) ++ (gro (cy 0) rr m_rr_1 ++ ([ai_ cy wf 12 ff] : va_W))) H := hP
        have hDg : va_D A (([ob10_0_ xw xc xk wpo wc wf, ob0_0_ xc xn xk clo cro c4 c5 c6 c7 c8, ob3_0_ xn vp vn n1 n2 n3 n4 n5, aq_ cy 6 cro 12 (gf_ rr)] : va_W) ++ (gro (cy 0) rr m_rr_1 ++ ([ai_ cy wf 12 ff] : va_W))) := hD
        refine va_gst (X := [ob10_0_ xw xc xk wpo wc wf, ob0_0_ xc xn xk clo cro c4 c5 c6 c7 c8, ob3_0_ xn vp vn n1 n2 n3 n4 n5, aq_ cy 6 cro 12 (gf_ rr)]) (Y := [ai_ cy wf 12 ff]) (r := rr) (M := m_rr_1) (k := y_5.toNatClampNeg) hx hb hK.1 hPg hDg hS 0 rfl (in_lt h_6) (i := x4_1) h_4 dB_36_2_21.1.2.2.2 (fun H locs hP hD hS => ?_)
        obtain ⟨M_11, eM_11⟩ : ∃ g : Nat → Nat → Int32, g = va_up m_rr_1 y_5.toNatClampNeg (upd (m_rr_1 y_5.toNatClampNeg) x4_1.toNatClampNeg y_9) := ⟨_, rfl⟩
        refine pd_K (D := D) (cl := vwCl) (H := H) (A := A) [ob10_0_ xw xc xk wpo wc wf, ob0_0_ xc xn xk clo cro c4 c5 c6 c7 c8, ob3_0_ xn vp vn n1 n2 n3 n4 n5, aq_ cy 6 cro 12 (gf_ rr), ai_ cy (rr 0) 12 (M_11 0), ai_ cy (rr 1) 12 (M_11 1), ai_ cy (rr 2) 12 (M_11 2), ai_ cy (rr 3) 12 (M_11 3), ai_ cy (rr 4) 12 (M_11 4), ai_ cy (rr 5) 12 (M_11 5), ai_ cy (rr 6) 12 (M_11 6), ai_ cy (rr 7) 12 (M_11 7), ai_ cy (rr 8) 12 (M_11 8), ai_ cy (rr 9) 12 (M_11 9), ai_ cy (rr 10) 12 (M_11 10), ai_ cy (rr 11) 12 (M_11 11), ai_ cy wf 12 ff] (by rw [eM_11]; exact hP) (by rw [eM_11]; exact hD) (fun hP hD => ?_)
        refine lv_aload_n hx hb dB_36_2_21.2.1.1.1 rfl (lv_at hl 2 rfl) ?_
        refine va_get (ci := 10) (v := .ref xc) (C := RX10) (T := TX10) (N := 5) hx hb hts (fun _ h => List.mem_cons_of_mem _ (List.mem_append_left _ (List.mem_append_right _ h))) hown hK.1 hP 0 rfl rfl 0 (by decide) (hts (.fieldLink RX10 23 "CutAtlas$Widening" "current" "LCutAtlas$Current;") (List.mem_of_getElem? (i := 1) rfl)) (fun _ h9 => h9) rfl dB_36_2_21.2.1.1.2 ?_
        refine va_get (ci := 0) (v := .ref cro) (C := RX0) (T := TX0) (N := 9) hx hb hts (fun _ h => List.mem_cons_of_mem _ (List.mem_append_right _ h)) hown hK.1 hP 1 rfl rfl 3 (by decide) (hts (.fieldLink RX10 99 "CutAtlas$Current" "room" "[[I") (List.mem_of_getElem? (i := 2) rfl)) (fun _ h9 => h9) rfl dB_36_2_21.2.1.2.1 ?_
        refine lv_iload hx hb dB_36_2_21.2.1.2.2 (lv_at hl 1 rfl) ?_
        refine va_alda hx hb hG hP 3 rfl (i := x4_1) h_4 dB_36_2_21.2.2.1.1 ?_
        refine lv_topv (v' := .ref (rr x4_1.toNatClampNeg)) (gf_at h_4) ?_
        refine lv_aload_n hx hb dB_36_2_21.2.2.1.2 rfl (lv_at hl 2 rfl) ?_
        refine va_get (ci := 10) (v := .ref wf) (C := RX10) (T := TX10) (N := 5) hx hb hts (fun _ h => List.mem_cons_of_mem _ (List.mem_append_left _ (List.mem_append_right _ h))) hown hK.1 hP 0 rfl rfl 4 (by decide) (hts (.fieldLink RX10 20 "CutAtlas$Widening" "cameFrom" "[I") (List.mem_of_getElem? (i := 3) rfl)) (fun _ h9 => h9) rfl dB_36_2_21.2.2.2.1 ?_
        refine lv_iload hx hb dB_36_2_21.2.2.2.2 (lv_at hl 1 rfl) ?_
        refine va_iald hx hb hK.1 hP 16 0 rfl rfl (i := x4_1) h_4 dB_36_2_22.1.1.1 ?_
        refine lv_topi (fun y_14 ey_14 => ?_)
        have e_ := (ey_14.trans ey_5.symm).symm
        subst e_
        skip
        refine lv_dup2_11 hx hb dB_36_2_22.1.1.2.1 rfl rfl ?_
        have hPg : va_P D vwCl (([ob10_0_ xw xc xk wpo wc wf, ob0_0_ xc xn xk clo cro c4 c5 c6 c7 c8, ob3_0_ xn vp vn n1 n2 n3 n4 n5, aq_ cy 6 cro 12 (gf_ rr)] : va_W) ++ (gro (cy 0) rr M_11 ++ ([ai_ cy wf 12 ff] : va_W))) H := hP
        refine va_gld (X := [ob10_0_ xw xc xk wpo wc wf, ob0_0_ xc xn xk clo cro c4 c5 c6 c7 c8, ob3_0_ xn vp vn n1 n2 n3 n4 n5, aq_ cy 6 cro 12 (gf_ rr)]) (Y := [ai_ cy wf 12 ff]) (r := rr) (M := M_11) (k := x4_1.toNatClampNeg) hx hb hK.1 hPg 0 rfl (in_lt h_4) (i := y_5) h_6 dB_36_2_22.1.1.2.2 ?_
        refine lv_topi (fun y_16 ey_16 => ?_)
        refine lv_iload_n hx hb dB_36_2_22.1.2.1.1 rfl (lv_at hl 5 rfl) ?_
        refine lv_iadd hx hb dB_36_2_22.1.2.1.2 ?_
        refine lv_topi (fun y_17 ey_17 => ?_)
        have hPg : va_P D vwCl (([ob10_0_ xw xc xk wpo wc wf, ob0_0_ xc xn xk clo cro c4 c5 c6 c7 c8, ob3_0_ xn vp vn n1 n2 n3 n4 n5, aq_ cy 6 cro 12 (gf_ rr)] : va_W) ++ (gro (cy 0) rr M_11 ++ ([ai_ cy wf 12 ff] : va_W))) H := hP
        have hDg : va_D A (([ob10_0_ xw xc xk wpo wc wf, ob0_0_ xc xn xk clo cro c4 c5 c6 c7 c8, ob3_0_ xn vp vn n1 n2 n3 n4 n5, aq_ cy 6 cro 12 (gf_ rr)] : va_W) ++ (gro (cy 0) rr M_11 ++ ([ai_ cy wf 12 ff] : va_W))) := hD
        refine va_gst (X := [ob10_0_ xw xc xk wpo wc wf, ob0_0_ xc xn xk clo cro c4 c5 c6 c7 c8, ob3_0_ xn vp vn n1 n2 n3 n4 n5, aq_ cy 6 cro 12 (gf_ rr)]) (Y := [ai_ cy wf 12 ff]) (r := rr) (M := M_11) (k := x4_1.toNatClampNeg) hx hb hK.1 hPg hDg hS 0 rfl (in_lt h_4) (i := y_5) h_6 dB_36_2_22.1.2.2.1 (fun H locs hP hD hS => ?_)
        obtain ⟨M_19, eM_19⟩ : ∃ g : Nat → Nat → Int32, g = va_up M_11 x4_1.toNatClampNeg (upd (M_11 x4_1.toNatClampNeg) y_5.toNatClampNeg y_17) := ⟨_, rfl⟩
        refine pd_K (D := D) (cl := vwCl) (H := H) (A := A) [ob10_0_ xw xc xk wpo wc wf, ob0_0_ xc xn xk clo cro c4 c5 c6 c7 c8, ob3_0_ xn vp vn n1 n2 n3 n4 n5, aq_ cy 6 cro 12 (gf_ rr), ai_ cy (rr 0) 12 (M_19 0), ai_ cy (rr 1) 12 (M_19 1), ai_ cy (rr 2) 12 (M_19 2), ai_ cy (rr 3) 12 (M_19 3), ai_ cy (rr 4) 12 (M_19 4), ai_ cy (rr 5) 12 (M_19 5), ai_ cy (rr 6) 12 (M_19 6), ai_ cy (rr 7) 12 (M_19 7), ai_ cy (rr 8) 12 (M_19 8), ai_ cy (rr 9) 12 (M_19 9), ai_ cy (rr 10) 12 (M_19 10), ai_ cy (rr 11) 12 (M_19 11), ai_ cy wf 12 ff] (by rw [eM_19]; exact hP) (by rw [eM_19]; exact hD) (fun hP hD => ?_)
        refine lv_aload_n hx hb dB_36_2_22.1.2.2.2 rfl (lv_at hl 2 rfl) ?_
        refine va_get (ci := 10) (v := .ref wf) (C := RX10) (T := TX10) (N := 5) hx hb hts (fun _ h => List.mem_cons_of_mem _ (List.mem_append_left _ (List.mem_append_right _ h))) hown hK.1 hP 0 rfl rfl 4 (by decide) (hts (.fieldLink RX10 20 "CutAtlas$Widening" "cameFrom" "[I") (List.mem_of_getElem? (i := 3) rfl)) (fun _ h9 => h9) rfl dB_36_2_22.2.1.1 ?_
        refine lv_iload hx hb dB_36_2_22.2.1.2.1 (lv_at hl 1 rfl) ?_
        refine va_iald hx hb hK.1 hP 16 0 rfl rfl (i := x4_1) h_4 dB_36_2_22.2.1.2.2 ?_
        refine lv_topi (fun y_21 ey_21 => ?_)
        have e_ := (ey_21.trans ey_5.symm).symm
        subst e_
        skip
        refine lv_istore (lv' := [(4, .int y_5), (5, .int x5_1), (0, .ref xw), (1, .int a1), (2, .int a2), (3, .int a3)]) hx hb dB_36_2_22.2.2.1.1 hl (by decide) rfl (fun ls hl => ?_)
        obtain ⟨y_22, ey_22⟩ : ∃ y : Int32, y = x5_1 + 1 := ⟨_, rfl⟩
        have ty_22 : y_22.toInt = x5_1.toInt + (1 : Int32).toInt := by rw [ey_22]; exact addI (by omega) (by omega)
        refine lv_iinc (v := y_22) (lv' := [(5, .int y_22), (4, .int y_5), (0, .ref xw), (1, .int a1), (2, .int a2), (3, .int a3)]) hx hb dB_36_2_22.2.2.1.2 hl (k := 1) rfl (by rw [ey_22]; rfl) (by decide) rfl (fun ls hl => ?_)
        refine lv_goto (tgt := 6) hx hb dB_36_2_22.2.2.2.1 (by decide) ?_
        exact ih_1 y_22 y_5 M_19 _ _ _ (by omega) (by first | with_reducible assumption | omega | assumption) (by first | with_reducible assumption | omega | assumption) (by first | with_reducible assumption | omega | assumption) ⟨hP, hD⟩ hS (lv_sub hl [0, 1, 2, 3, 4, 5] rfl)

set_option maxHeartbeats 4000000 in
set_option maxRecDepth 100000 in
theorem c_X10_lookFrom (l : Launch) (D : va_G) (cy : Nat → ClassId) (sz : Nat) (xw : Nat) (wpo : Nat) (wc : Nat) (wf : Nat) (xc : Nat) (xk : Nat) (clo : Nat) (cro : Nat) (c4 : Nat) (c5 : Nat) (c6 : Nat) (c7 : Nat) (c8 : Nat) (xn : Nat) (n1 : Nat) (n2 : Nat) (n3 : Nat) (n4 : Nat) (n5 : Nat) (vp : Int32) (vn : Int32) (rr : Nat → Nat) (Mr : Nat → Nat → Int32) (rp : Nat → Nat) (Mp : Nat → Nat → Int32) (fc : Nat → Int32) (ff : Nat → Int32) (a1 : Int32) (hvp : 0 ≤ vp.toInt ∧ vp.toInt ≤ 12) (q1 : 0 ≤ a1.toInt ∧ a1.toInt ≤ 11) (r_ff : rng ff 12 (0) (11)) : Met l yX10_lookFrom wsX10_lookFrom ({ frames := 1, cells := 0, slots := 0, locals := 22 }) (va_Pc [.ref xw, .int a1] (fun U => U.heap.size = sz ∧ va_P D vwCl [ob10_0_ xw xc xk wpo wc wf, ob0_0_ xc xn xk clo cro c4 c5 c6 c7 c8, ob3_0_ xn vp vn n1 n2 n3 n4 n5, aq_ cy 6 cro 12 (gf_ rr), ai_ cy (rr 0) 12 (Mr 0), ai_ cy (rr 1) 12 (Mr 1), ai_ cy (rr 2) 12 (Mr 2), ai_ cy (rr 3) 12 (Mr 3), ai_ cy (rr 4) 12 (Mr 4), ai_ cy (rr 5) 12 (Mr 5), ai_ cy (rr 6) 12 (Mr 6), ai_ cy (rr 7) 12 (Mr 7), ai_ cy (rr 8) 12 (Mr 8), ai_ cy (rr 9) 12 (Mr 9), ai_ cy (rr 10) 12 (Mr 10), ai_ cy (rr 11) 12 (Mr 11), aq_ cy 6 wpo 12 (gf_ rp), ai_ cy (rp 0) 12 (Mp 0), ai_ cy (rp 1) 12 (Mp 1), ai_ cy (rp 2) 12 (Mp 2), ai_ cy (rp 3) 12 (Mp 3), ai_ cy (rp 4) 12 (Mp 4), ai_ cy (rp 5) 12 (Mp 5), ai_ cy (rp 6) 12 (Mp 6), ai_ cy (rp 7) 12 (Mp 7), ai_ cy (rp 8) 12 (Mp 8), ai_ cy (rp 9) 12 (Mp 9), ai_ cy (rp 10) 12 (Mp 10), ai_ cy (rp 11) 12 (Mp 11), ai_ cy wc 12 fc, ai_ cy wf 12 ff] U.heap ∧ kg_ D cy U ∧ va_D (fun _ => True) [ob10_0_ xw xc xk wpo wc wf, ob0_0_ xc xn xk clo cro c4 c5 c6 c7 c8, ob3_0_ xn vp vn n1 n2 n3 n4 n5, aq_ cy 6 cro 12 (gf_ rr), ai_ cy (rr 0) 12 (Mr 0), ai_ cy (rr 1) 12 (Mr 1), ai_ cy (rr 2) 12 (Mr 2), ai_ cy (rr 3) 12 (Mr 3), ai_ cy (rr 4) 12 (Mr 4), ai_ cy (rr 5) 12 (Mr 5), ai_ cy (rr 6) 12 (Mr 6), ai_ cy (rr 7) 12 (Mr 7), ai_ cy (rr 8) 12 (Mr 8), ai_ cy (rr 9) 12 (Mr 9), ai_ cy (rr 10) 12 (Mr 10), ai_ cy (rr 11) 12 (Mr 11), aq_ cy 6 wpo 12 (gf_ rp), ai_ cy (rp 0) 12 (Mp 0), ai_ cy (rp 1) 12 (Mp 1), ai_ cy (rp 2) 12 (Mp 2), ai_ cy (rp 3) 12 (Mp 3), ai_ cy (rp 4) 12 (Mp 4), ai_ cy (rp 5) 12 (Mp 5), ai_ cy (rp 6) 12 (Mp 6), ai_ cy (rp 7) 12 (Mp 7), ai_ cy (rp 8) 12 (Mp 8), ai_ cy (rp 9) 12 (Mp 9), ai_ cy (rp 10) 12 (Mp 10), ai_ cy (rp 11) 12 (Mp 11), ai_ cy wc 12 fc, ai_ cy wf 12 ff])) (va_Qi (fun (r : Int32) (_ : Unit) => (r.toInt = 0 ∨ r.toInt = 1)) (fun (_ : Unit) (t : State) => ∃ (ec : Nat → Int32), ∃ (ef : Nat → Int32), (rng ef 12 (0) (11)) ∧ va_P D vwCl [ob10_0_ xw xc xk wpo wc wf, ob0_0_ xc xn xk clo cro c4 c5 c6 c7 c8, ob3_0_ xn vp vn n1 n2 n3 n4 n5, aq_ cy 6 cro 12 (gf_ rr), ai_ cy (rr 0) 12 (Mr 0), ai_ cy (rr 1) 12 (Mr 1), ai_ cy (rr 2) 12 (Mr 2), ai_ cy (rr 3) 12 (Mr 3), ai_ cy (rr 4) 12 (Mr 4), ai_ cy (rr 5) 12 (Mr 5), ai_ cy (rr 6) 12 (Mr 6), ai_ cy (rr 7) 12 (Mr 7), ai_ cy (rr 8) 12 (Mr 8), ai_ cy (rr 9) 12 (Mr 9), ai_ cy (rr 10) 12 (Mr 10), ai_ cy (rr 11) 12 (Mr 11), aq_ cy 6 wpo 12 (gf_ rp), ai_ cy (rp 0) 12 (Mp 0), ai_ cy (rp 1) 12 (Mp 1), ai_ cy (rp 2) 12 (Mp 2), ai_ cy (rp 3) 12 (Mp 3), ai_ cy (rp 4) 12 (Mp 4), ai_ cy (rp 5) 12 (Mp 5), ai_ cy (rp 6) 12 (Mp 6), ai_ cy (rp 7) 12 (Mp 7), ai_ cy (rp 8) 12 (Mp 8), ai_ cy (rp 9) 12 (Mp 9), ai_ cy (rp 10) 12 (Mp 10), ai_ cy (rp 11) 12 (Mp 11), ai_ cy wc 12 ec, ai_ cy wf 12 ef] t.heap ∧ va_D (va_A [ob10_0_ xw xc xk wpo wc wf, ob0_0_ xc xn xk clo cro c4 c5 c6 c7 c8, ob3_0_ xn vp vn n1 n2 n3 n4 n5, aq_ cy 6 cro 12 (gf_ rr), ai_ cy (rr 0) 12 (Mr 0), ai_ cy (rr 1) 12 (Mr 1), ai_ cy (rr 2) 12 (Mr 2), ai_ cy (rr 3) 12 (Mr 3), ai_ cy (rr 4) 12 (Mr 4), ai_ cy (rr 5) 12 (Mr 5), ai_ cy (rr 6) 12 (Mr 6), ai_ cy (rr 7) 12 (Mr 7), ai_ cy (rr 8) 12 (Mr 8), ai_ cy (rr 9) 12 (Mr 9), ai_ cy (rr 10) 12 (Mr 10), ai_ cy (rr 11) 12 (Mr 11), aq_ cy 6 wpo 12 (gf_ rp), ai_ cy (rp 0) 12 (Mp 0), ai_ cy (rp 1) 12 (Mp 1), ai_ cy (rp 2) 12 (Mp 2), ai_ cy (rp 3) 12 (Mp 3), ai_ cy (rp 4) 12 (Mp 4), ai_ cy (rp 5) 12 (Mp 5), ai_ cy (rp 6) 12 (Mp 6), ai_ cy (rp 7) 12 (Mp 7), ai_ cy (rp 8) 12 (Mp 8), ai_ cy (rp 9) 12 (Mp 9), ai_ cy (rp 10) 12 (Mp 10), ai_ cy (rp 11) 12 (Mp 11), ai_ cy wc 12 fc, ai_ cy wf 12 ff] sz) [ob10_0_ xw xc xk wpo wc wf, ob0_0_ xc xn xk clo cro c4 c5 c6 c7 c8, ob3_0_ xn vp vn n1 n2 n3 n4 n5, aq_ cy 6 cro 12 (gf_ rr), ai_ cy (rr 0) 12 (Mr 0), ai_ cy (rr 1) 12 (Mr 1), ai_ cy (rr 2) 12 (Mr 2), ai_ cy (rr 3) 12 (Mr 3), ai_ cy (rr 4) 12 (Mr 4), ai_ cy (rr 5) 12 (Mr 5), ai_ cy (rr 6) 12 (Mr 6), ai_ cy (rr 7) 12 (Mr 7), ai_ cy (rr 8) 12 (Mr 8), ai_ cy (rr 9) 12 (Mr 9), ai_ cy (rr 10) 12 (Mr 10), ai_ cy (rr 11) 12 (Mr 11), aq_ cy 6 wpo 12 (gf_ rp), ai_ cy (rp 0) 12 (Mp 0), ai_ cy (rp 1) 12 (Mp 1), ai_ cy (rp 2) 12 (Mp 2), ai_ cy (rp 3) 12 (Mp 3), ai_ cy (rp 4) 12 (Mp 4), ai_ cy (rp 5) 12 (Mp 5), ai_ cy (rp 6) 12 (Mp 6), ai_ cy (rp 7) 12 (Mp 7), ai_ cy (rp 8) 12 (Mp 8), ai_ cy (rp 9) 12 (Mp 9), ai_ cy (rp 10) 12 (Mp 10), ai_ cy (rp 11) 12 (Mp 11), ai_ cy wc 12 ec, ai_ cy wf 12 ef]) (va_A [ob10_0_ xw xc xk wpo wc wf, ob0_0_ xc xn xk clo cro c4 c5 c6 c7 c8, ob3_0_ xn vp vn n1 n2 n3 n4 n5, aq_ cy 6 cro 12 (gf_ rr), ai_ cy (rr 0) 12 (Mr 0), ai_ cy (rr 1) 12 (Mr 1), ai_ cy (rr 2) 12 (Mr 2), ai_ cy (rr 3) 12 (Mr 3), ai_ cy (rr 4) 12 (Mr 4), ai_ cy (rr 5) 12 (Mr 5), ai_ cy (rr 6) 12 (Mr 6), ai_ cy (rr 7) 12 (Mr 7), ai_ cy (rr 8) 12 (Mr 8), ai_ cy (rr 9) 12 (Mr 9), ai_ cy (rr 10) 12 (Mr 10), ai_ cy (rr 11) 12 (Mr 11), aq_ cy 6 wpo 12 (gf_ rp), ai_ cy (rp 0) 12 (Mp 0), ai_ cy (rp 1) 12 (Mp 1), ai_ cy (rp 2) 12 (Mp 2), ai_ cy (rp 3) 12 (Mp 3), ai_ cy (rp 4) 12 (Mp 4), ai_ cy (rp 5) 12 (Mp 5), ai_ cy (rp 6) 12 (Mp 6), ai_ cy (rp 7) 12 (Mp 7), ai_ cy (rp 8) 12 (Mp 8), ai_ cy (rp 9) 12 (Mp 9), ai_ cy (rp 10) 12 (Mp 10), ai_ cy (rp 11) 12 (Mp 11), ai_ cy wc 12 fc, ai_ cy wf 12 ff] sz)) 0 0 (va_A [ob10_0_ xw xc xk wpo wc wf, ob0_0_ xc xn xk clo cro c4 c5 c6 c7 c8, ob3_0_ xn vp vn n1 n2 n3 n4 n5, aq_ cy 6 cro 12 (gf_ rr), ai_ cy (rr 0) 12 (Mr 0), ai_ cy (rr 1) 12 (Mr 1), ai_ cy (rr 2) 12 (Mr 2), ai_ cy (rr 3) 12 (Mr 3), ai_ cy (rr 4) 12 (Mr 4), ai_ cy (rr 5) 12 (Mr 5), ai_ cy (rr 6) 12 (Mr 6), ai_ cy (rr 7) 12 (Mr 7), ai_ cy (rr 8) 12 (Mr 8), ai_ cy (rr 9) 12 (Mr 9), ai_ cy (rr 10) 12 (Mr 10), ai_ cy (rr 11) 12 (Mr 11), aq_ cy 6 wpo 12 (gf_ rp), ai_ cy (rp 0) 12 (Mp 0), ai_ cy (rp 1) 12 (Mp 1), ai_ cy (rp 2) 12 (Mp 2), ai_ cy (rp 3) 12 (Mp 3), ai_ cy (rp 4) 12 (Mp 4), ai_ cy (rp 5) 12 (Mp 5), ai_ cy (rp 6) 12 (Mp 6), ai_ cy (rp 7) 12 (Mp 7), ai_ cy (rp 8) 12 (Mp 8), ai_ cy (rp 9) 12 (Mp 9), ai_ cy (rp 10) 12 (Mp 10), ai_ cy (rp 11) 12 (Mp 11), ai_ cy wc 12 fc, ai_ cy wf 12 ff] sz) := by
  refine ofQ (cc := cX10_lookFrom) (maxL := 5) (ret := (some .boolean)) (by decide) rfl ?_
  intro p e s m args below meth c s₁ Q hQ B hml hv
  obtain ⟨rfl, hsz, hP, hK, hD0⟩ := hv
  have hG := hK.2
  have hK := hK.1
  have hx := B.exec
  have hb := B.bytes
  have hr := B.returns
  have hts := atoms_spec (ws := wsX10_lookFrom) B.pre
  have hown : s.vm.findClass RX10 = some m.cls := by have h_ := findClass_of_methodNamed B.named; exact h_
  have hlocks := B.notSynchronized
  subst hsz
  have hD := hD0.self (sz := s.heap.size)
  generalize hAe : va_A [ob10_0_ xw xc xk wpo wc wf, ob0_0_ xc xn xk clo cro c4 c5 c6 c7 c8, ob3_0_ xn vp vn n1 n2 n3 n4 n5, aq_ cy 6 cro 12 (gf_ rr), ai_ cy (rr 0) 12 (Mr 0), ai_ cy (rr 1) 12 (Mr 1), ai_ cy (rr 2) 12 (Mr 2), ai_ cy (rr 3) 12 (Mr 3), ai_ cy (rr 4) 12 (Mr 4), ai_ cy (rr 5) 12 (Mr 5), ai_ cy (rr 6) 12 (Mr 6), ai_ cy (rr 7) 12 (Mr 7), ai_ cy (rr 8) 12 (Mr 8), ai_ cy (rr 9) 12 (Mr 9), ai_ cy (rr 10) 12 (Mr 10), ai_ cy (rr 11) 12 (Mr 11), aq_ cy 6 wpo 12 (gf_ rp), ai_ cy (rp 0) 12 (Mp 0), ai_ cy (rp 1) 12 (Mp 1), ai_ cy (rp 2) 12 (Mp 2), ai_ cy (rp 3) 12 (Mp 3), ai_ cy (rp 4) 12 (Mp 4), ai_ cy (rp 5) 12 (Mp 5), ai_ cy (rp 6) 12 (Mp 6), ai_ cy (rp 7) 12 (Mp 7), ai_ cy (rp 8) 12 (Mp 8), ai_ cy (rp 9) 12 (Mp 9), ai_ cy (rp 10) 12 (Mp 10), ai_ cy (rp 11) 12 (Mp 11), ai_ cy wc 12 fc, ai_ cy wf 12 ff] s.heap.size = A at hD hQ
  have hA : ∀ q : Nat, s.heap.size ≤ q → A q := fun q h => by rw [← hAe]; exact Or.inr h
  have hS : va_S A s.heap s.heap [] := va_S.rf
  have hl := lv_entry ([.ref xw, .int a1]) (n := 5) (Nat.le_of_ble_eq_true rfl)
  rw [lg_entry_eq]
  generalize (lg_sl ([.ref xw, .int a1]) ++ List.replicate (5 - (lg_sl ([.ref xw, .int a1])).length) Slot.unset).toArray = ls at hl ⊢
  have hl : lv_has ls 5 [(0, .ref xw), (1, .int a1)] := hl
  have z0 : (0 : Int32).toInt = 0 := by decide
  have z1 : (1 : Int32).toInt = 1 := by decide
  have z1000000000 : (1000000000 : Int32).toInt = 1000000000 := by decide
  refine lv_iconst (v := 0) hx hb dB_36_2_10.1.1.1.1 (by decide) ?_
  refine lv_istore_n (lv' := [(2, .int 0), (0, .ref xw), (1, .int a1)]) hx hb dB_36_2_10.1.1.1.2 rfl hl (by decide) rfl (fun ls hl => ?_)
  refine lv_iconst (v := 0) hx hb dB_36_2_10.1.1.2.1 (by decide) ?_
  refine lv_istore_n (lv' := [(3, .int 0), (2, .int 0), (0, .ref xw), (1, .int a1)]) hx hb dB_36_2_10.1.1.2.2 rfl hl (by decide) rfl (fun ls hl => ?_)
  suffices LOOP_1 : ∀ (n_1 : Nat) (x3_1 : Int32) (x2_1 : Int32) (c_wc_1 : Nat → Int32) (c_wf_1 : Nat → Int32) (H : Heap) (locs : List Loc) (ls : Array Slot), vp.toInt - x3_1.toInt < (n_1 : Int) → (0 ≤ x3_1.toInt) → (x3_1.toInt ≤ vp.toInt) → (x2_1.toInt = 0 ∨ x2_1.toInt = 1) → (rng c_wf_1 12 (0) (11)) → pd_2 D vwCl A [ob10_0_ xw xc xk wpo wc wf, ob0_0_ xc xn xk clo cro c4 c5 c6 c7 c8, ob3_0_ xn vp vn n1 n2 n3 n4 n5, aq_ cy 6 cro 12 (gf_ rr), ai_ cy (rr 0) 12 (Mr 0), ai_ cy (rr 1) 12 (Mr 1), ai_ cy (rr 2) 12 (Mr 2), ai_ cy (rr 3) 12 (Mr 3), ai_ cy (rr 4) 12 (Mr 4), ai_ cy (rr 5) 12 (Mr 5), ai_ cy (rr 6) 12 (Mr 6), ai_ cy (rr 7) 12 (Mr 7), ai_ cy (rr 8) 12 (Mr 8), ai_ cy (rr 9) 12 (Mr 9), ai_ cy (rr 10) 12 (Mr 10), ai_ cy (rr 11) 12 (Mr 11), aq_ cy 6 wpo 12 (gf_ rp), ai_ cy (rp 0) 12 (Mp 0), ai_ cy (rp 1) 12 (Mp 1), ai_ cy (rp 2) 12 (Mp 2), ai_ cy (rp 3) 12 (Mp 3), ai_ cy (rp 4) 12 (Mp 4), ai_ cy (rp 5) 12 (Mp 5), ai_ cy (rp 6) 12 (Mp 6), ai_ cy (rp 7) 12 (Mp 7), ai_ cy (rp 8) 12 (Mp 8), ai_ cy (rp 9) 12 (Mp 9), ai_ cy (rp 10) 12 (Mp 10), ai_ cy (rp 11) 12 (Mp 11), ai_ cy wc 12 c_wc_1, ai_ cy wf 12 c_wf_1] H → va_S A s.heap H locs → lv_has ls 5 [(3, .int x3_1), (2, .int x2_1), (0, .ref xw), (1, .int a1)] → W p l e ({ frames := 1, cells := 0, slots := 0, locals := 22 } : Room) s m (([.ref xw, .int a1] : List Value).toArray) below meth c H locs 0 0 Q (F0 m 4 ls []) from LOOP_1 ((vp.toInt - (0 : Int32).toInt).toNat + 1) (0 : Int32) (0 : Int32) fc ff _ _ _ (by omega) (by first | with_reducible assumption | omega | assumption) (by first | with_reducible assumption | omega | assumption) (by first | with_reducible assumption | omega | assumption) (by first | with_reducible assumption | assumption | exact rng_zero (by omega) (by omega) | exact orng_zero) ⟨hP, hD⟩ hS (lv_sub hl [0, 1, 2, 3] rfl)
  intro n_1
  induction n_1 with
  | zero =>
    intro x3_1 x2_1 c_wc_1 c_wf_1 H locs ls hm v0_1 v1_1 v2_1 rc_wf_1 hPD hS hl; obtain ⟨hP, hD⟩ := hPD
    exact absurd hm (by omega)
  | succ n_1 ih_1 =>
    intro x3_1 x2_1 c_wc_1 c_wf_1 H locs ls hm v0_1 v1_1 v2_1 rc_wf_1 hPD hS hl; obtain ⟨hP, hD⟩ := hPD
    refine lv_iload_n hx hb dB_36_2_10.1.2.1.1 rfl (lv_at hl 0 rfl) ?_
    refine lv_aload_n hx hb dB_36_2_10.1.2.1.2 rfl (lv_at hl 2 rfl) ?_
    refine va_get (ci := 10) (v := .ref xc) (C := RX10) (T := TX10) (N := 5) hx hb hts (fun _ h => List.mem_cons_of_mem _ (List.mem_append_left _ (List.mem_append_left _ (List.mem_append_right _ h)))) hown hK.1 hP 0 rfl rfl 0 (by decide) (hts (.fieldLink RX10 23 "CutAtlas$Widening" "current" "LCutAtlas$Current;") (List.mem_of_getElem? (i := 1) rfl)) (fun _ h9 => h9) rfl dB_36_2_10.1.2.2.1 ?_
    refine va_get (ci := 0) (v := .ref xn) (C := RX0) (T := TX0) (N := 9) hx hb hts (fun _ h => List.mem_cons_of_mem _ (List.mem_append_left _ (List.mem_append_right _ h))) hown hK.1 hP 1 rfl rfl 0 (by decide) (hts (.fieldLink RX10 47 "CutAtlas$Current" "net" "LCutAtlas$Net;") (List.mem_of_getElem? (i := 2) rfl)) (fun _ h9 => h9) rfl dB_36_2_10.1.2.2.2 ?_
    refine va_get (ci := 3) (v := .int vp) (C := RX3) (T := TX3) (N := 7) hx hb hts (fun _ h => List.mem_cons_of_mem _ (List.mem_append_right _ h)) hown hK.1 hP 2 rfl rfl 0 (by decide) (hts (.fieldLink RX10 53 "CutAtlas$Net" "places" "I") (List.mem_of_getElem? (i := 3) rfl)) (fun _ h9 => h9) rfl dB_36_2_10.2.1.1.1 ?_
    refine lv_icmp_ge (tgt := 91) hx hb dB_36_2_10.2.1.1.2 (by decide) (fun c_2 => ?_) (fun c_2 => ?_)
    · have t_2 : vp.toInt ≤ x3_1.toInt := Int32.le_iff_toInt_le.mp c_2
      refine lv_iload_n hx hb dB_36_2_13.2.2.1 rfl (lv_at hl 1 rfl) ?_
      rw [hQ]
      exact W.zret (ty := .boolean) (v := x2_1) hx hb hr (nar_b (by omega)) (fun t ht hW => ⟨⟨x2_1, (), rfl, (by omega), c_wc_1, c_wf_1, (by first | with_reducible assumption | assumption | exact rng_zero (by omega) (by omega) | omega), by rw [ht]; exact hP, hD⟩, hS.F ht⟩) hS.2.2 dB_36_2_13.2.2.2
    · have t_2 : ¬ vp.toInt ≤ x3_1.toInt := fun h => c_2 (Int32.le_iff_toInt_le.mpr h)
      refine lv_iload_n hx hb dB_36_2_10.2.1.2.1 rfl (lv_at hl 3 rfl) ?_
      refine lv_iload_n hx hb dB_36_2_10.2.1.2.2 rfl (lv_at hl 0 rfl) ?_
      refine lv_icmp_ne (tgt := 28) hx hb dB_36_2_10.2.2.1.1 (by decide) (fun c_3 => ?_) (fun c_3 => ?_)
      · have t_3 : ¬ a1.toInt = x3_1.toInt := fun h => c_3 (Int32.toInt_inj.mp h)
        refine lv_aload_n hx hb dB_36_2_10.2.2.2.2 rfl (lv_at hl 2 rfl) ?_
        refine lv_iload_n hx hb dB_36_2_11.1.1.1.1 rfl (lv_at hl 3 rfl) ?_
        refine lv_iload_n hx hb dB_36_2_11.1.1.1.2 rfl (lv_at hl 0 rfl) ?_
        refine ct_R hP hD [ob10_0_ xw xc xk wpo wc wf, ob0_0_ xc xn xk clo cro c4 c5 c6 c7 c8, ob3_0_ xn vp vn n1 n2 n3 n4 n5, aq_ cy 6 cro 12 (gf_ rr), ai_ cy (rr 0) 12 (Mr 0), ai_ cy (rr 1) 12 (Mr 1), ai_ cy (rr 2) 12 (Mr 2), ai_ cy (rr 3) 12 (Mr 3), ai_ cy (rr 4) 12 (Mr 4), ai_ cy (rr 5) 12 (Mr 5), ai_ cy (rr 6) 12 (Mr 6), ai_ cy (rr 7) 12 (Mr 7), ai_ cy (rr 8) 12 (Mr 8), ai_ cy (rr 9) 12 (Mr 9), ai_ cy (rr 10) 12 (Mr 10), ai_ cy (rr 11) 12 (Mr 11), aq_ cy 6 wpo 12 (gf_ rp), ai_ cy (rp 0) 12 (Mp 0), ai_ cy (rp 1) 12 (Mp 1), ai_ cy (rp 2) 12 (Mp 2), ai_ cy (rp 3) 12 (Mp 3), ai_ cy (rp 4) 12 (Mp 4), ai_ cy (rp 5) 12 (Mp 5), ai_ cy (rp 6) 12 (Mp 6), ai_ cy (rp 7) 12 (Mp 7), ai_ cy (rp 8) 12 (Mp 8), ai_ cy (rp 9) 12 (Mp 9), ai_ cy (rp 10) 12 (Mp 10), ai_ cy (rp 11) 12 (Mp 11)] [0, 1, 2, 3, 4, 5, 6, 7, 8, 9, 10, 11, 12, 13, 14, 15, 16, 17, 18, 19, 20, 21, 22, 23, 24, 25, 26, 27, 28] (by decide +kernel) rfl (fun hPc hDw => ?_)
        have hFc := va_free (wc := []) hD hS hA [] rfl
        refine va_calli (va_runV (As := [.int a1, .int x3_1]) (rest := []) ⟨hx, hb, hml, hown, hts⟩ (c_X10_stepCosts l D cy H.size xw wpo wc wf xc xk clo cro c4 c5 c6 c7 c8 xn n1 n2 n3 n4 n5 vp vn rr Mr rp Mp a1 x3_1 (by first | with_reducible assumption | omega | assumption) (by first | with_reducible assumption | omega | assumption)) (cwV 2 hts gX10_lookFrom_X10_stepCosts rfl rfl rfl ⟨rfl, hd_X10_stepCosts⟩ ⟨Nat.le_of_ble_eq_true rfl, Nat.le_of_ble_eq_true rfl⟩) ⟨bl_g, va_recvX hK.1 hP (ci := 10) (q0 := 0) rfl rfl, fun U hU hW => ⟨rfl, by rw [hU], by rw [hU]; exact hPc, ⟨kk_mv hW hK, arrOfT_moved hW.alike hG⟩, hDw⟩⟩ rfl rfl hl.1 rfl (lv_room (Nat.le_of_ble_eq_true rfl)) dB_36_2_11.1.1.2.1 ⟨Nat.le_of_ble_eq_true rfl, Nat.le_of_ble_eq_true rfl⟩) hS (fun q _ h => hFc q h) hFc (fun r_4 u t H locs ht hvm hw hB hz1 hk1 hS => ?_)
        have hP : va_P D vwCl _ H := ro_keep hP hk1
        refine lv_istore (lv' := [(4, .int r_4), (3, .int x3_1), (2, .int x2_1), (0, .ref xw), (1, .int a1)]) hx hb dB_36_2_11.1.1.2.2 hl (by decide) rfl (fun ls hl => ?_)
        refine lv_iload hx hb dB_36_2_11.1.2.1.1 (lv_at hl 0 rfl) ?_
        refine lv_ldc (v := 1000000000) hx hb hown (hts (.constant RX10 38 (1000000000)) (List.mem_of_getElem? (i := 4) rfl)) dB_36_2_11.1.2.1.2 ?_
        refine lv_icmp_eq (tgt := 85) hx hb dB_36_2_11.1.2.2.1 (by decide) (fun c_5 => ?_) (fun c_5 => ?_)
        · have t_5 : r_4.toInt = (1000000000 : Int32).toInt := congrArg Int32.toInt c_5
          obtain ⟨y_6, ey_6⟩ : ∃ y : Int32, y = x3_1 + 1 := ⟨_, rfl⟩
          have ty_6 : y_6.toInt = x3_1.toInt + (1 : Int32).toInt := by rw [ey_6]; exact addI (by omega) (by omega)
          refine lv_iinc (v := y_6) (lv' := [(3, .int y_6), (4, .int r_4), (2, .int x2_1), (0, .ref xw), (1, .int a1)]) hx hb dB_36_2_13.2.1.1 hl (k := 1) rfl (by rw [ey_6]; rfl) (by decide) rfl (fun ls hl => ?_)
          refine lv_goto (tgt := 4) hx hb dB_36_2_13.2.1.2 (by decide) ?_
          exact ih_1 y_6 x2_1 c_wc_1 c_wf_1 _ _ _ (by omega) (by first | with_reducible assumption | omega | assumption) (by first | with_reducible assumption | omega | assumption) (by first | with_reducible assumption | omega | assumption) (by first | with_reducible assumption | assumption | exact rng_zero (by omega) (by omega) | exact orng_zero) ⟨hP, hD⟩ hS (lv_sub hl [0, 2, 3, 4] rfl)
        · have t_5 : ¬ r_4.toInt = (1000000000 : Int32).toInt := fun h => c_5 (Int32.toInt_inj.mp h)
          refine lv_aload_n hx hb dB_36_2_11.1.2.2.2 rfl (lv_at hl 3 rfl) ?_
          refine va_get (ci := 10) (v := .ref wc) (C := RX10) (T := TX10) (N := 5) hx hb hts (fun _ h => List.mem_cons_of_mem _ (List.mem_append_left _ (List.mem_append_left _ (List.mem_append_right _ h)))) hown hK.1 hP 0 rfl rfl 3 (by decide) (hts (.fieldLink RX10 16 "CutAtlas$Widening" "costs" "[I") (List.mem_of_getElem? (i := 5) rfl)) (fun _ h9 => h9) rfl dB_36_2_11.2.1.1.1 ?_
          refine lv_iload_n hx hb dB_36_2_11.2.1.1.2 rfl (lv_at hl 4 rfl) ?_
          have h_7 : vp_in a1 12 := in_I (by first | with_reducible assumption | omega) (by omega)
          refine va_iald hx hb hK.1 hP 29 0 rfl rfl (i := a1) h_7 dB_36_2_11.2.1.2.1 ?_
          refine lv_topi (fun y_8 ey_8 => ?_)
          refine lv_iload hx hb dB_36_2_11.2.1.2.2 (lv_at hl 0 rfl) ?_
          refine lv_iadd hx hb dB_36_2_11.2.2.1.1 ?_
          refine lv_topi (fun y_9 ey_9 => ?_)
          refine lv_aload_n hx hb dB_36_2_11.2.2.1.2 rfl (lv_at hl 3 rfl) ?_
          refine va_get (ci := 10) (v := .ref wc) (C := RX10) (T := TX10) (N := 5) hx hb hts (fun _ h => List.mem_cons_of_mem _ (List.mem_append_left _ (List.mem_append_left _ (List.mem_append_right _ h)))) hown hK.1 hP 0 rfl rfl 3 (by decide) (hts (.fieldLink RX10 16 "CutAtlas$Widening" "costs" "[I") (List.mem_of_getElem? (i := 5) rfl)) (fun _ h9 => h9) rfl dB_36_2_11.2.2.2.1 ?_
          refine lv_iload_n hx hb dB_36_2_11.2.2.2.2 rfl (lv_at hl 1 rfl) ?_
          have h_10 : vp_in x3_1 12 := in_I (by first | with_reducible assumption | omega) (by omega)
          refine va_iald hx hb hK.1 hP 29 0 rfl rfl (i := x3_1) h_10 dB_36_2_12.1.1.1.1 ?_
          refine lv_topi (fun y_11 ey_11 => ?_)
          refine lv_icmp_ge (tgt := 85) hx hb dB_36_2_12.1.1.1.2 (by decide) (fun c_12 => ?_) (fun c_12 => ?_)
          · have t_12 : y_11.toInt ≤ y_9.toInt := Int32.le_iff_toInt_le.mp c_12
            obtain ⟨y_13, ey_13⟩ : ∃ y : Int32, y = x3_1 + 1 := ⟨_, rfl⟩
            have ty_13 : y_13.toInt = x3_1.toInt + (1 : Int32).toInt := by rw [ey_13]; exact addI (by omega) (by omega)
            refine lv_iinc (v := y_13) (lv' := [(3, .int y_13), (4, .int r_4), (2, .int x2_1), (0, .ref xw), (1, .int a1)]) hx hb dB_36_2_13.2.1.1 hl (k := 1) rfl (by rw [ey_13]; rfl) (by decide) rfl (fun ls hl => ?_)
            refine lv_goto (tgt := 4) hx hb dB_36_2_13.2.1.2 (by decide) ?_
            exact ih_1 y_13 x2_1 c_wc_1 c_wf_1 _ _ _ (by omega) (by first | with_reducible assumption | omega | assumption) (by first | with_reducible assumption | omega | assumption) (by first | with_reducible assumption | omega | assumption) (by first | with_reducible assumption | assumption | exact rng_zero (by omega) (by omega) | exact orng_zero) ⟨hP, hD⟩ hS (lv_sub hl [0, 2, 3, 4] rfl)
          · have t_12 : ¬ y_11.toInt ≤ y_9.toInt := fun h => c_12 (Int32.le_iff_toInt_le.mpr h)
            refine lv_aload_n hx hb dB_36_2_12.1.1.2.1 rfl (lv_at hl 3 rfl) ?_
            refine va_get (ci := 10) (v := .ref wc) (C := RX10) (T := TX10) (N := 5) hx hb hts (fun _ h => List.mem_cons_of_mem _ (List.mem_append_left _ (List.mem_append_left _ (List.mem_append_right _ h)))) hown hK.1 hP 0 rfl rfl 3 (by decide) (hts (.fieldLink RX10 16 "CutAtlas$Widening" "costs" "[I") (List.mem_of_getElem? (i := 5) rfl)) (fun _ h9 => h9) rfl dB_36_2_12.1.1.2.2 ?_
            refine lv_iload_n hx hb dB_36_2_12.1.2.1.1 rfl (lv_at hl 1 rfl) ?_
            refine lv_aload_n hx hb dB_36_2_12.1.2.1.2 rfl (lv_at hl 3 rfl) ?_
            refine va_get (ci := 10) (v := .ref wc) (C := RX10) (T := TX10) (N := 5) hx hb hts (fun _ h => List.mem_cons_of_mem _ (List.mem_append_left _ (List.mem_append_left _ (List.mem_append_right _ h)))) hown hK.1 hP 0 rfl rfl 3 (by decide) (hts (.fieldLink RX10 16 "CutAtlas$Widening" "costs" "[I") (List.mem_of_getElem? (i := 5) rfl)) (fun _ h9 => h9) rfl dB_36_2_12.1.2.2.1 ?_
            refine lv_iload_n hx hb dB_36_2_12.1.2.2.2 rfl (lv_at hl 4 rfl) ?_
            refine va_iald hx hb hK.1 hP 29 0 rfl rfl (i := a1) h_7 dB_36_2_12.2.1.1.1 ?_
            refine lv_topi (fun y_15 ey_15 => ?_)
            have e_ := (ey_15.trans ey_8.symm).symm
            subst e_
            skip
            refine lv_iload hx hb dB_36_2_12.2.1.1.2 (lv_at hl 0 rfl) ?_
            refine lv_iadd hx hb dB_36_2_12.2.1.2.1 ?_
            refine lv_topi (fun y_16 ey_16 => ?_)
            have e_ := (ey_16.trans ey_9.symm).symm
            subst e_
            refine va_iast hx hb hK.1 hP hD hS 29 0 rfl rfl (i := x3_1) h_10 dB_36_2_12.2.1.2.2 (fun H locs hP hD hS => ?_)
            obtain ⟨f_18, ef_18⟩ : ∃ g : Nat → Int32, g = upd c_wc_1 x3_1.toNatClampNeg y_9 := ⟨_, rfl⟩
            refine pd_K (D := D) (cl := vwCl) (H := H) (A := A) [ob10_0_ xw xc xk wpo wc wf, ob0_0_ xc xn xk clo cro c4 c5 c6 c7 c8, ob3_0_ xn vp vn n1 n2 n3 n4 n5, aq_ cy 6 cro 12 (gf_ rr), ai_ cy (rr 0) 12 (Mr 0), ai_ cy (rr 1) 12 (Mr 1), ai_ cy (rr 2) 12 (Mr 2), ai_ cy (rr 3) 12 (Mr 3), ai_ cy (rr 4) 12 (Mr 4), ai_ cy (rr 5) 12 (Mr 5), ai_ cy (rr 6) 12 (Mr 6), ai_ cy (rr 7) 12 (Mr 7), ai_ cy (rr 8) 12 (Mr 8), ai_ cy (rr 9) 12 (Mr 9), ai_ cy (rr 10) 12 (Mr 10), ai_ cy (rr 11) 12 (Mr 11), aq_ cy 6 wpo 12 (gf_ rp), ai_ cy (rp 0) 12 (Mp 0), ai_ cy (rp 1) 12 (Mp 1), ai_ cy (rp 2) 12 (Mp 2), ai_ cy (rp 3) 12 (Mp 3), ai_ cy (rp 4) 12 (Mp 4), ai_ cy (rp 5) 12 (Mp 5), ai_ cy (rp 6) 12 (Mp 6), ai_ cy (rp 7) 12 (Mp 7), ai_ cy (rp 8) 12 (Mp 8), ai_ cy (rp 9) 12 (Mp 9), ai_ cy (rp 10) 12 (Mp 10), ai_ cy (rp 11) 12 (Mp 11), ai_ cy wc 12 f_18, ai_ cy wf 12 c_wf_1] (by rw [ef_18]; exact hP) (by rw [ef_18]; exact hD) (fun hP hD => ?_)
            refine lv_aload_n hx hb dB_36_2_12.2.2.1.1 rfl (lv_at hl 3 rfl) ?_
            refine va_get (ci := 10) (v := .ref wf) (C := RX10) (T := TX10) (N := 5) hx hb hts (fun _ h => List.mem_cons_of_mem _ (List.mem_append_left _ (List.mem_append_left _ (List.mem_append_right _ h)))) hown hK.1 hP 0 rfl rfl 4 (by decide) (hts (.fieldLink RX10 20 "CutAtlas$Widening" "cameFrom" "[I") (List.mem_of_getElem? (i := 6) rfl)) (fun _ h9 => h9) rfl dB_36_2_12.2.2.1.2 ?_
            refine lv_iload_n hx hb dB_36_2_12.2.2.2.1 rfl (lv_at hl 1 rfl) ?_
            refine lv_iload_n hx hb dB_36_2_12.2.2.2.2 rfl (lv_at hl 4 rfl) ?_
            refine va_iast hx hb hK.1 hP hD hS 30 0 rfl rfl (i := x3_1) h_10 dB_36_2_13.1.1 (fun H locs hP hD hS => ?_)
            obtain ⟨f_20, ef_20⟩ : ∃ g : Nat → Int32, g = upd c_wf_1 x3_1.toNatClampNeg a1 := ⟨_, rfl⟩
            refine pd_K (D := D) (cl := vwCl) (H := H) (A := A) [ob10_0_ xw xc xk wpo wc wf, ob0_0_ xc xn xk clo cro c4 c5 c6 c7 c8, ob3_0_ xn vp vn n1 n2 n3 n4 n5, aq_ cy 6 cro 12 (gf_ rr), ai_ cy (rr 0) 12 (Mr 0), ai_ cy (rr 1) 12 (Mr 1), ai_ cy (rr 2) 12 (Mr 2), ai_ cy (rr 3) 12 (Mr 3), ai_ cy (rr 4) 12 (Mr 4), ai_ cy (rr 5) 12 (Mr 5), ai_ cy (rr 6) 12 (Mr 6), ai_ cy (rr 7) 12 (Mr 7), ai_ cy (rr 8) 12 (Mr 8), ai_ cy (rr 9) 12 (Mr 9), ai_ cy (rr 10) 12 (Mr 10), ai_ cy (rr 11) 12 (Mr 11), aq_ cy 6 wpo 12 (gf_ rp), ai_ cy (rp 0) 12 (Mp 0), ai_ cy (rp 1) 12 (Mp 1), ai_ cy (rp 2) 12 (Mp 2), ai_ cy (rp 3) 12 (Mp 3), ai_ cy (rp 4) 12 (Mp 4), ai_ cy (rp 5) 12 (Mp 5), ai_ cy (rp 6) 12 (Mp 6), ai_ cy (rp 7) 12 (Mp 7), ai_ cy (rp 8) 12 (Mp 8), ai_ cy (rp 9) 12 (Mp 9), ai_ cy (rp 10) 12 (Mp 10), ai_ cy (rp 11) 12 (Mp 11), ai_ cy wc 12 f_18, ai_ cy wf 12 f_20] (by rw [ef_20]; exact hP) (by rw [ef_20]; exact hD) (fun hP hD => ?_)
            have rf_20 : rng f_20 12 (0) (11) := by rw [ef_20]; exact rng_upd rc_wf_1 (by omega) (by omega)
            refine lv_iconst (v := 1) hx hb dB_36_2_13.1.2.1 (by decide) ?_
            refine lv_istore_n (lv' := [(2, .int 1), (4, .int r_4), (3, .int x3_1), (0, .ref xw), (1, .int a1)]) hx hb dB_36_2_13.1.2.2 rfl hl (by decide) rfl (fun ls hl => ?_)
            obtain ⟨y_21, ey_21⟩ : ∃ y : Int32, y = x3_1 + 1 := ⟨_, rfl⟩
            have ty_21 : y_21.toInt = x3_1.toInt + (1 : Int32).toInt := by rw [ey_21]; exact addI (by omega) (by omega)
            refine lv_iinc (v := y_21) (lv' := [(3, .int y_21), (2, .int 1), (4, .int r_4), (0, .ref xw), (1, .int a1)]) hx hb dB_36_2_13.2.1.1 hl (k := 2) rfl (by rw [ey_21]; rfl) (by decide) rfl (fun ls hl => ?_)
            refine lv_goto (tgt := 4) hx hb dB_36_2_13.2.1.2 (by decide) ?_
            exact ih_1 y_21 (1 : Int32) f_18 f_20 _ _ _ (by omega) (by first | with_reducible assumption | omega | assumption) (by first | with_reducible assumption | omega | assumption) (by first | with_reducible assumption | omega | assumption) (by first | with_reducible assumption | assumption | exact rng_zero (by omega) (by omega) | exact orng_zero) ⟨hP, hD⟩ hS (lv_sub hl [0, 1, 3, 4] rfl)
      · have t_3 : a1.toInt = x3_1.toInt := congrArg Int32.toInt c_3
        refine lv_ldc (v := 1000000000) hx hb hown (hts (.constant RX10 38 (1000000000)) (List.mem_of_getElem? (i := 4) rfl)) dB_36_2_10.2.2.1.2 ?_
        refine lv_goto (tgt := 34) hx hb dB_36_2_10.2.2.2.1 (by decide) ?_
        refine lv_istore (lv' := [(4, .int 1000000000), (3, .int x3_1), (2, .int x2_1), (0, .ref xw), (1, .int a1)]) hx hb dB_36_2_11.1.1.2.2 hl (by decide) rfl (fun ls hl => ?_)
        refine lv_iload hx hb dB_36_2_11.1.2.1.1 (lv_at hl 0 rfl) ?_
        refine lv_ldc (v := 1000000000) hx hb hown (hts (.constant RX10 38 (1000000000)) (List.mem_of_getElem? (i := 4) rfl)) dB_36_2_11.1.2.1.2 ?_
        refine lv_icmp_eq (tgt := 85) hx hb dB_36_2_11.1.2.2.1 (by decide) (fun c_22 => ?_) (fun c_22 => ?_)
        · have _ := c_22
          obtain ⟨y_23, ey_23⟩ : ∃ y : Int32, y = x3_1 + 1 := ⟨_, rfl⟩
          have ty_23 : y_23.toInt = x3_1.toInt + (1 : Int32).toInt := by rw [ey_23]; exact addI (by omega) (by omega)
          refine lv_iinc (v := y_23) (lv' := [(3, .int y_23), (4, .int 1000000000), (2, .int x2_1), (0, .ref xw), (1, .int a1)]) hx hb dB_36_2_13.2.1.1 hl (k := 1) rfl (by rw [ey_23]; rfl) (by decide) rfl (fun ls hl => ?_)
          refine lv_goto (tgt := 4) hx hb dB_36_2_13.2.1.2 (by decide) ?_
          exact ih_1 y_23 x2_1 c_wc_1 c_wf_1 _ _ _ (by omega) (by first | with_reducible assumption | omega | assumption) (by first | with_reducible assumption | omega | assumption) (by first | with_reducible assumption | omega | assumption) (by first | with_reducible assumption | assumption | exact rng_zero (by omega) (by omega) | exact orng_zero) ⟨hP, hD⟩ hS (lv_sub hl [0, 2, 3, 4] rfl)
        · exact absurd c_22 (by decide)

set_option maxHeartbeats 4000000 in
set_option maxRecDepth 100000 in
theorem c_X10_findCosts (l : Launch) (D : va_G) (cy : Nat → ClassId) (sz : Nat) (xw : Nat) (wpo : Nat) (wc : Nat) (wf : Nat) (xc : Nat) (xk : Nat) (clo : Nat) (cro : Nat) (c4 : Nat) (c5 : Nat) (c6 : Nat) (c7 : Nat) (c8 : Nat) (xn : Nat) (n1 : Nat) (n2 : Nat) (n3 : Nat) (n4 : Nat) (n5 : Nat) (vp : Int32) (vn : Int32) (rr : Nat → Nat) (Mr : Nat → Nat → Int32) (rp : Nat → Nat) (Mp : Nat → Nat → Int32) (fc : Nat → Int32) (ff : Nat → Int32) (a1 : Int32) (hvp : 0 ≤ vp.toInt ∧ vp.toInt ≤ 12) (q1 : 0 ≤ a1.toInt ∧ a1.toInt ≤ 11) (r_ff : rng ff 12 (0) (11)) : Met l yX10_findCosts wsX10_findCosts ({ frames := 2, cells := 0, slots := 0, locals := 46 }) (va_Pc [.ref xw, .int a1] (fun U => U.heap.size = sz ∧ va_P D vwCl [ob10_0_ xw xc xk wpo wc wf, ob0_0_ xc xn xk clo cro c4 c5 c6 c7 c8, ob3_0_ xn vp vn n1 n2 n3 n4 n5, aq_ cy 6 cro 12 (gf_ rr), ai_ cy (rr 0) 12 (Mr 0), ai_ cy (rr 1) 12 (Mr 1), ai_ cy (rr 2) 12 (Mr 2), ai_ cy (rr 3) 12 (Mr 3), ai_ cy (rr 4) 12 (Mr 4), ai_ cy (rr 5) 12 (Mr 5), ai_ cy (rr 6) 12 (Mr 6), ai_ cy (rr 7) 12 (Mr 7), ai_ cy (rr 8) 12 (Mr 8), ai_ cy (rr 9) 12 (Mr 9), ai_ cy (rr 10) 12 (Mr 10), ai_ cy (rr 11) 12 (Mr 11), aq_ cy 6 wpo 12 (gf_ rp), ai_ cy (rp 0) 12 (Mp 0), ai_ cy (rp 1) 12 (Mp 1), ai_ cy (rp 2) 12 (Mp 2), ai_ cy (rp 3) 12 (Mp 3), ai_ cy (rp 4) 12 (Mp 4), ai_ cy (rp 5) 12 (Mp 5), ai_ cy (rp 6) 12 (Mp 6), ai_ cy (rp 7) 12 (Mp 7), ai_ cy (rp 8) 12 (Mp 8), ai_ cy (rp 9) 12 (Mp 9), ai_ cy (rp 10) 12 (Mp 10), ai_ cy (rp 11) 12 (Mp 11), ai_ cy wc 12 fc, ai_ cy wf 12 ff] U.heap ∧ kg_ D cy U ∧ va_D (fun _ => True) [ob10_0_ xw xc xk wpo wc wf, ob0_0_ xc xn xk clo cro c4 c5 c6 c7 c8, ob3_0_ xn vp vn n1 n2 n3 n4 n5, aq_ cy 6 cro 12 (gf_ rr), ai_ cy (rr 0) 12 (Mr 0), ai_ cy (rr 1) 12 (Mr 1), ai_ cy (rr 2) 12 (Mr 2), ai_ cy (rr 3) 12 (Mr 3), ai_ cy (rr 4) 12 (Mr 4), ai_ cy (rr 5) 12 (Mr 5), ai_ cy (rr 6) 12 (Mr 6), ai_ cy (rr 7) 12 (Mr 7), ai_ cy (rr 8) 12 (Mr 8), ai_ cy (rr 9) 12 (Mr 9), ai_ cy (rr 10) 12 (Mr 10), ai_ cy (rr 11) 12 (Mr 11), aq_ cy 6 wpo 12 (gf_ rp), ai_ cy (rp 0) 12 (Mp 0), ai_ cy (rp 1) 12 (Mp 1), ai_ cy (rp 2) 12 (Mp 2), ai_ cy (rp 3) 12 (Mp 3), ai_ cy (rp 4) 12 (Mp 4), ai_ cy (rp 5) 12 (Mp 5), ai_ cy (rp 6) 12 (Mp 6), ai_ cy (rp 7) 12 (Mp 7), ai_ cy (rp 8) 12 (Mp 8), ai_ cy (rp 9) 12 (Mp 9), ai_ cy (rp 10) 12 (Mp 10), ai_ cy (rp 11) 12 (Mp 11), ai_ cy wc 12 fc, ai_ cy wf 12 ff])) (va_Qv (fun (_ : Unit) => True) (fun (_ : Unit) (t : State) => ∃ (ec : Nat → Int32), ∃ (ef : Nat → Int32), (rng ef 12 (0) (11)) ∧ va_P D vwCl [ob10_0_ xw xc xk wpo wc wf, ob0_0_ xc xn xk clo cro c4 c5 c6 c7 c8, ob3_0_ xn vp vn n1 n2 n3 n4 n5, aq_ cy 6 cro 12 (gf_ rr), ai_ cy (rr 0) 12 (Mr 0), ai_ cy (rr 1) 12 (Mr 1), ai_ cy (rr 2) 12 (Mr 2), ai_ cy (rr 3) 12 (Mr 3), ai_ cy (rr 4) 12 (Mr 4), ai_ cy (rr 5) 12 (Mr 5), ai_ cy (rr 6) 12 (Mr 6), ai_ cy (rr 7) 12 (Mr 7), ai_ cy (rr 8) 12 (Mr 8), ai_ cy (rr 9) 12 (Mr 9), ai_ cy (rr 10) 12 (Mr 10), ai_ cy (rr 11) 12 (Mr 11), aq_ cy 6 wpo 12 (gf_ rp), ai_ cy (rp 0) 12 (Mp 0), ai_ cy (rp 1) 12 (Mp 1), ai_ cy (rp 2) 12 (Mp 2), ai_ cy (rp 3) 12 (Mp 3), ai_ cy (rp 4) 12 (Mp 4), ai_ cy (rp 5) 12 (Mp 5), ai_ cy (rp 6) 12 (Mp 6), ai_ cy (rp 7) 12 (Mp 7), ai_ cy (rp 8) 12 (Mp 8), ai_ cy (rp 9) 12 (Mp 9), ai_ cy (rp 10) 12 (Mp 10), ai_ cy (rp 11) 12 (Mp 11), ai_ cy wc 12 ec, ai_ cy wf 12 ef] t.heap ∧ va_D (va_A [ob10_0_ xw xc xk wpo wc wf, ob0_0_ xc xn xk clo cro c4 c5 c6 c7 c8, ob3_0_ xn vp vn n1 n2 n3 n4 n5, aq_ cy 6 cro 12 (gf_ rr), ai_ cy (rr 0) 12 (Mr 0), ai_ cy (rr 1) 12 (Mr 1), ai_ cy (rr 2) 12 (Mr 2), ai_ cy (rr 3) 12 (Mr 3), ai_ cy (rr 4) 12 (Mr 4), ai_ cy (rr 5) 12 (Mr 5), ai_ cy (rr 6) 12 (Mr 6), ai_ cy (rr 7) 12 (Mr 7), ai_ cy (rr 8) 12 (Mr 8), ai_ cy (rr 9) 12 (Mr 9), ai_ cy (rr 10) 12 (Mr 10), ai_ cy (rr 11) 12 (Mr 11), aq_ cy 6 wpo 12 (gf_ rp), ai_ cy (rp 0) 12 (Mp 0), ai_ cy (rp 1) 12 (Mp 1), ai_ cy (rp 2) 12 (Mp 2), ai_ cy (rp 3) 12 (Mp 3), ai_ cy (rp 4) 12 (Mp 4), ai_ cy (rp 5) 12 (Mp 5), ai_ cy (rp 6) 12 (Mp 6), ai_ cy (rp 7) 12 (Mp 7), ai_ cy (rp 8) 12 (Mp 8), ai_ cy (rp 9) 12 (Mp 9), ai_ cy (rp 10) 12 (Mp 10), ai_ cy (rp 11) 12 (Mp 11), ai_ cy wc 12 fc, ai_ cy wf 12 ff] sz) [ob10_0_ xw xc xk wpo wc wf, ob0_0_ xc xn xk clo cro c4 c5 c6 c7 c8, ob3_0_ xn vp vn n1 n2 n3 n4 n5, aq_ cy 6 cro 12 (gf_ rr), ai_ cy (rr 0) 12 (Mr 0), ai_ cy (rr 1) 12 (Mr 1), ai_ cy (rr 2) 12 (Mr 2), ai_ cy (rr 3) 12 (Mr 3), ai_ cy (rr 4) 12 (Mr 4), ai_ cy (rr 5) 12 (Mr 5), ai_ cy (rr 6) 12 (Mr 6), ai_ cy (rr 7) 12 (Mr 7), ai_ cy (rr 8) 12 (Mr 8), ai_ cy (rr 9) 12 (Mr 9), ai_ cy (rr 10) 12 (Mr 10), ai_ cy (rr 11) 12 (Mr 11), aq_ cy 6 wpo 12 (gf_ rp), ai_ cy (rp 0) 12 (Mp 0), ai_ cy (rp 1) 12 (Mp 1), ai_ cy (rp 2) 12 (Mp 2), ai_ cy (rp 3) 12 (Mp 3), ai_ cy (rp 4) 12 (Mp 4), ai_ cy (rp 5) 12 (Mp 5), ai_ cy (rp 6) 12 (Mp 6), ai_ cy (rp 7) 12 (Mp 7), ai_ cy (rp 8) 12 (Mp 8), ai_ cy (rp 9) 12 (Mp 9), ai_ cy (rp 10) 12 (Mp 10), ai_ cy (rp 11) 12 (Mp 11), ai_ cy wc 12 ec, ai_ cy wf 12 ef]) (va_A [ob10_0_ xw xc xk wpo wc wf, ob0_0_ xc xn xk clo cro c4 c5 c6 c7 c8, ob3_0_ xn vp vn n1 n2 n3 n4 n5, aq_ cy 6 cro 12 (gf_ rr), ai_ cy (rr 0) 12 (Mr 0), ai_ cy (rr 1) 12 (Mr 1), ai_ cy (rr 2) 12 (Mr 2), ai_ cy (rr 3) 12 (Mr 3), ai_ cy (rr 4) 12 (Mr 4), ai_ cy (rr 5) 12 (Mr 5), ai_ cy (rr 6) 12 (Mr 6), ai_ cy (rr 7) 12 (Mr 7), ai_ cy (rr 8) 12 (Mr 8), ai_ cy (rr 9) 12 (Mr 9), ai_ cy (rr 10) 12 (Mr 10), ai_ cy (rr 11) 12 (Mr 11), aq_ cy 6 wpo 12 (gf_ rp), ai_ cy (rp 0) 12 (Mp 0), ai_ cy (rp 1) 12 (Mp 1), ai_ cy (rp 2) 12 (Mp 2), ai_ cy (rp 3) 12 (Mp 3), ai_ cy (rp 4) 12 (Mp 4), ai_ cy (rp 5) 12 (Mp 5), ai_ cy (rp 6) 12 (Mp 6), ai_ cy (rp 7) 12 (Mp 7), ai_ cy (rp 8) 12 (Mp 8), ai_ cy (rp 9) 12 (Mp 9), ai_ cy (rp 10) 12 (Mp 10), ai_ cy (rp 11) 12 (Mp 11), ai_ cy wc 12 fc, ai_ cy wf 12 ff] sz)) 0 0 (va_A [ob10_0_ xw xc xk wpo wc wf, ob0_0_ xc xn xk clo cro c4 c5 c6 c7 c8, ob3_0_ xn vp vn n1 n2 n3 n4 n5, aq_ cy 6 cro 12 (gf_ rr), ai_ cy (rr 0) 12 (Mr 0), ai_ cy (rr 1) 12 (Mr 1), ai_ cy (rr 2) 12 (Mr 2), ai_ cy (rr 3) 12 (Mr 3), ai_ cy (rr 4) 12 (Mr 4), ai_ cy (rr 5) 12 (Mr 5), ai_ cy (rr 6) 12 (Mr 6), ai_ cy (rr 7) 12 (Mr 7), ai_ cy (rr 8) 12 (Mr 8), ai_ cy (rr 9) 12 (Mr 9), ai_ cy (rr 10) 12 (Mr 10), ai_ cy (rr 11) 12 (Mr 11), aq_ cy 6 wpo 12 (gf_ rp), ai_ cy (rp 0) 12 (Mp 0), ai_ cy (rp 1) 12 (Mp 1), ai_ cy (rp 2) 12 (Mp 2), ai_ cy (rp 3) 12 (Mp 3), ai_ cy (rp 4) 12 (Mp 4), ai_ cy (rp 5) 12 (Mp 5), ai_ cy (rp 6) 12 (Mp 6), ai_ cy (rp 7) 12 (Mp 7), ai_ cy (rp 8) 12 (Mp 8), ai_ cy (rp 9) 12 (Mp 9), ai_ cy (rp 10) 12 (Mp 10), ai_ cy (rp 11) 12 (Mp 11), ai_ cy wc 12 fc, ai_ cy wf 12 ff] sz) := by
  refine ofQ (cc := cX10_findCosts) (maxL := 6) (ret := none) (by decide) rfl ?_
  intro p e s m args below meth c s₁ Q hQ B hml hv
  obtain ⟨rfl, hsz, hP, hK, hD0⟩ := hv
  have hG := hK.2
  have hK := hK.1
  have hx := B.exec
  have hb := B.bytes
  have hr := B.returns
  have hts := atoms_spec (ws := wsX10_findCosts) B.pre
  have hown : s.vm.findClass RX10 = some m.cls := by have h_ := findClass_of_methodNamed B.named; exact h_
  have hlocks := B.notSynchronized
  subst hsz
  have hD := hD0.self (sz := s.heap.size)
  generalize hAe : va_A [ob10_0_ xw xc xk wpo wc wf, ob0_0_ xc xn xk clo cro c4 c5 c6 c7 c8, ob3_0_ xn vp vn n1 n2 n3 n4 n5, aq_ cy 6 cro 12 (gf_ rr), ai_ cy (rr 0) 12 (Mr 0), ai_ cy (rr 1) 12 (Mr 1), ai_ cy (rr 2) 12 (Mr 2), ai_ cy (rr 3) 12 (Mr 3), ai_ cy (rr 4) 12 (Mr 4), ai_ cy (rr 5) 12 (Mr 5), ai_ cy (rr 6) 12 (Mr 6), ai_ cy (rr 7) 12 (Mr 7), ai_ cy (rr 8) 12 (Mr 8), ai_ cy (rr 9) 12 (Mr 9), ai_ cy (rr 10) 12 (Mr 10), ai_ cy (rr 11) 12 (Mr 11), aq_ cy 6 wpo 12 (gf_ rp), ai_ cy (rp 0) 12 (Mp 0), ai_ cy (rp 1) 12 (Mp 1), ai_ cy (rp 2) 12 (Mp 2), ai_ cy (rp 3) 12 (Mp 3), ai_ cy (rp 4) 12 (Mp 4), ai_ cy (rp 5) 12 (Mp 5), ai_ cy (rp 6) 12 (Mp 6), ai_ cy (rp 7) 12 (Mp 7), ai_ cy (rp 8) 12 (Mp 8), ai_ cy (rp 9) 12 (Mp 9), ai_ cy (rp 10) 12 (Mp 10), ai_ cy (rp 11) 12 (Mp 11), ai_ cy wc 12 fc, ai_ cy wf 12 ff] s.heap.size = A at hD hQ
  have hA : ∀ q : Nat, s.heap.size ≤ q → A q := fun q h => by rw [← hAe]; exact Or.inr h
  have hS : va_S A s.heap s.heap [] := va_S.rf
  have hl := lv_entry ([.ref xw, .int a1]) (n := 6) (Nat.le_of_ble_eq_true rfl)
  rw [lg_entry_eq]
  generalize (lg_sl ([.ref xw, .int a1]) ++ List.replicate (6 - (lg_sl ([.ref xw, .int a1])).length) Slot.unset).toArray = ls at hl ⊢
  have hl : lv_has ls 6 [(0, .ref xw), (1, .int a1)] := hl
  have z0 : (0 : Int32).toInt = 0 := by decide
  have z1 : (1 : Int32).toInt = 1 := by decide
  have z1000000000 : (1000000000 : Int32).toInt = 1000000000 := by decide
  refine lv_aload_n hx hb dB_36_2_0.1.1.1.1 rfl (lv_at hl 0 rfl) ?_
  refine va_get (ci := 10) (v := .ref xc) (C := RX10) (T := TX10) (N := 5) hx hb hts (fun _ h => List.mem_cons_of_mem _ (List.mem_append_left _ (List.mem_append_left _ (List.mem_append_right _ h)))) hown hK.1 hP 0 rfl rfl 0 (by decide) (hts (.fieldLink RX10 23 "CutAtlas$Widening" "current" "LCutAtlas$Current;") (List.mem_of_getElem? (i := 1) rfl)) (fun _ h9 => h9) rfl dB_36_2_0.1.1.1.2 ?_
  refine va_get (ci := 0) (v := .ref xn) (C := RX0) (T := TX0) (N := 9) hx hb hts (fun _ h => List.mem_cons_of_mem _ (List.mem_append_left _ (List.mem_append_right _ h))) hown hK.1 hP 1 rfl rfl 0 (by decide) (hts (.fieldLink RX10 47 "CutAtlas$Current" "net" "LCutAtlas$Net;") (List.mem_of_getElem? (i := 2) rfl)) (fun _ h9 => h9) rfl dB_36_2_0.1.1.2.1 ?_
  refine va_get (ci := 3) (v := .int vp) (C := RX3) (T := TX3) (N := 7) hx hb hts (fun _ h => List.mem_cons_of_mem _ (List.mem_append_right _ h)) hown hK.1 hP 2 rfl rfl 0 (by decide) (hts (.fieldLink RX10 53 "CutAtlas$Net" "places" "I") (List.mem_of_getElem? (i := 3) rfl)) (fun _ h9 => h9) rfl dB_36_2_0.1.1.2.2 ?_
  refine lv_istore_n (lv' := [(2, .int vp), (0, .ref xw), (1, .int a1)]) hx hb dB_36_2_0.1.2.1.1 rfl hl (by decide) rfl (fun ls hl => ?_)
  refine lv_aload_n hx hb dB_36_2_0.1.2.1.2 rfl (lv_at hl 1 rfl) ?_
  refine va_get (ci := 10) (v := .ref wc) (C := RX10) (T := TX10) (N := 5) hx hb hts (fun _ h => List.mem_cons_of_mem _ (List.mem_append_left _ (List.mem_append_left _ (List.mem_append_right _ h)))) hown hK.1 hP 0 rfl rfl 3 (by decide) (hts (.fieldLink RX10 16 "CutAtlas$Widening" "costs" "[I") (List.mem_of_getElem? (i := 4) rfl)) (fun _ h9 => h9) rfl dB_36_2_0.1.2.2.1 ?_
  refine lv_ldc (v := 1000000000) hx hb hown (hts (.constant RX10 38 (1000000000)) (List.mem_of_getElem? (i := 5) rfl)) dB_36_2_0.1.2.2.2 ?_
  refine ct_S hP hD hS hA [ai_ cy wc 12 fc] [29] (by decide) rfl (fun hPc hDw hFc hC_ => ?_)
  refine va_callv (va_runS (As := [.ref wc, .int 1000000000]) (rest := []) ⟨hx, hb, hml, hown, hts⟩ (c_J7_fill_53178 l D cy s.heap.size wc 12 (1000000000 : Int32) fc (by first | with_reducible assumption | assumption | omega)) (va_cwS 2 hts gX10_findCosts_J7_fill_53178 rfl rfl rfl hd_J7_fill_53178 ⟨Nat.le_of_ble_eq_true rfl, Nat.le_of_ble_eq_true rfl⟩) ⟨bl_, fun U hU hW => ⟨rfl, by rw [hU], by rw [hU]; exact hPc, kk_mv hW hK, hDw⟩⟩ rfl rfl hl.1 rfl (lv_room (Nat.le_of_ble_eq_true rfl)) dB_36_2_0.2.1.1.1 ⟨Nat.le_of_ble_eq_true rfl, Nat.le_of_ble_eq_true rfl⟩) hS (fun q _ h => hFc q h) hFc (fun u t H locs ht hvm hw hB hz1 hk1 hS => ?_)
  obtain ⟨e1_2, g_3, hP1, hD1⟩ := hB
  rw [ht] at hP1
  obtain ⟨hP, hD⟩ := va_join (wr := [ob10_0_ xw xc xk wpo wc wf, ob0_0_ xc xn xk clo cro c4 c5 c6 c7 c8, ob3_0_ xn vp vn n1 n2 n3 n4 n5, aq_ cy 6 cro 12 (gf_ rr), ai_ cy (rr 0) 12 (Mr 0), ai_ cy (rr 1) 12 (Mr 1), ai_ cy (rr 2) 12 (Mr 2), ai_ cy (rr 3) 12 (Mr 3), ai_ cy (rr 4) 12 (Mr 4), ai_ cy (rr 5) 12 (Mr 5), ai_ cy (rr 6) 12 (Mr 6), ai_ cy (rr 7) 12 (Mr 7), ai_ cy (rr 8) 12 (Mr 8), ai_ cy (rr 9) 12 (Mr 9), ai_ cy (rr 10) 12 (Mr 10), ai_ cy (rr 11) 12 (Mr 11), aq_ cy 6 wpo 12 (gf_ rp), ai_ cy (rp 0) 12 (Mp 0), ai_ cy (rp 1) 12 (Mp 1), ai_ cy (rp 2) 12 (Mp 2), ai_ cy (rp 3) 12 (Mp 3), ai_ cy (rp 4) 12 (Mp 4), ai_ cy (rp 5) 12 (Mp 5), ai_ cy (rp 6) 12 (Mp 6), ai_ cy (rp 7) 12 (Mp 7), ai_ cy (rp 8) 12 (Mp 8), ai_ cy (rp 9) 12 (Mp 9), ai_ cy (rp 10) 12 (Mp 10), ai_ cy (rp 11) 12 (Mp 11), ai_ cy wf 12 ff]) (w1 := [ai_ cy wc 12 e1_2]) hP hD [29] [0, 1, 2, 3, 4, 5, 6, 7, 8, 9, 10, 11, 12, 13, 14, 15, 16, 17, 18, 19, 20, 21, 22, 23, 24, 25, 26, 27, 28, 30] hC_ rfl (by decide +kernel) (by decide +kernel) hk1 hFc hP1 hD1
  refine pd_S hP hD [ob10_0_ xw xc xk wpo wc wf, ob0_0_ xc xn xk clo cro c4 c5 c6 c7 c8, ob3_0_ xn vp vn n1 n2 n3 n4 n5, aq_ cy 6 cro 12 (gf_ rr), ai_ cy (rr 0) 12 (Mr 0), ai_ cy (rr 1) 12 (Mr 1), ai_ cy (rr 2) 12 (Mr 2), ai_ cy (rr 3) 12 (Mr 3), ai_ cy (rr 4) 12 (Mr 4), ai_ cy (rr 5) 12 (Mr 5), ai_ cy (rr 6) 12 (Mr 6), ai_ cy (rr 7) 12 (Mr 7), ai_ cy (rr 8) 12 (Mr 8), ai_ cy (rr 9) 12 (Mr 9), ai_ cy (rr 10) 12 (Mr 10), ai_ cy (rr 11) 12 (Mr 11), aq_ cy 6 wpo 12 (gf_ rp), ai_ cy (rp 0) 12 (Mp 0), ai_ cy (rp 1) 12 (Mp 1), ai_ cy (rp 2) 12 (Mp 2), ai_ cy (rp 3) 12 (Mp 3), ai_ cy (rp 4) 12 (Mp 4), ai_ cy (rp 5) 12 (Mp 5), ai_ cy (rp 6) 12 (Mp 6), ai_ cy (rp 7) 12 (Mp 7), ai_ cy (rp 8) 12 (Mp 8), ai_ cy (rp 9) 12 (Mp 9), ai_ cy (rp 10) 12 (Mp 10), ai_ cy (rp 11) 12 (Mp 11), ai_ cy wc 12 e1_2, ai_ cy wf 12 ff] [0, 1, 2, 3, 4, 5, 6, 7, 8, 9, 10, 11, 12, 13, 14, 15, 16, 17, 18, 19, 20, 21, 22, 23, 24, 25, 26, 27, 28, 30, 29] (by decide +kernel) rfl (fun hP hD => ?_)
  refine lv_aload_n hx hb dB_36_2_0.2.1.1.2 rfl (lv_at hl 1 rfl) ?_
  refine va_get (ci := 10) (v := .ref wc) (C := RX10) (T := TX10) (N := 5) hx hb hts (fun _ h => List.mem_cons_of_mem _ (List.mem_append_left _ (List.mem_append_left _ (List.mem_append_right _ h)))) hown hK.1 hP 0 rfl rfl 3 (by decide) (hts (.fieldLink RX10 16 "CutAtlas$Widening" "costs" "[I") (List.mem_of_getElem? (i := 4) rfl)) (fun _ h9 => h9) rfl dB_36_2_0.2.1.2.1 ?_
  refine lv_iload_n hx hb dB_36_2_0.2.1.2.2 rfl (lv_at hl 2 rfl) ?_
  refine lv_iconst (v := 0) hx hb dB_36_2_0.2.2.1.1 (by decide) ?_
  have h_4 : vp_in a1 12 := in_I (by first | with_reducible assumption | omega) (by omega)
  refine va_iast hx hb hK.1 hP hD hS 29 0 rfl rfl (i := a1) h_4 dB_36_2_0.2.2.1.2 (fun H locs hP hD hS => ?_)
  obtain ⟨f_5, ef_5⟩ : ∃ g : Nat → Int32, g = upd e1_2 a1.toNatClampNeg (0 : Int32) := ⟨_, rfl⟩
  refine pd_K (D := D) (cl := vwCl) (H := H) (A := A) [ob10_0_ xw xc xk wpo wc wf, ob0_0_ xc xn xk clo cro c4 c5 c6 c7 c8, ob3_0_ xn vp vn n1 n2 n3 n4 n5, aq_ cy 6 cro 12 (gf_ rr), ai_ cy (rr 0) 12 (Mr 0), ai_ cy (rr 1) 12 (Mr 1), ai_ cy (rr 2) 12 (Mr 2), ai_ cy (rr 3) 12 (Mr 3), ai_ cy (rr 4) 12 (Mr 4), ai_ cy (rr 5) 12 (Mr 5), ai_ cy (rr 6) 12 (Mr 6), ai_ cy (rr 7) 12 (Mr 7), ai_ cy (rr 8) 12 (Mr 8), ai_ cy (rr 9) 12 (Mr 9), ai_ cy (rr 10) 12 (Mr 10), ai_ cy (rr 11) 12 (Mr 11), aq_ cy 6 wpo 12 (gf_ rp), ai_ cy (rp 0) 12 (Mp 0), ai_ cy (rp 1) 12 (Mp 1), ai_ cy (rp 2) 12 (Mp 2), ai_ cy (rp 3) 12 (Mp 3), ai_ cy (rp 4) 12 (Mp 4), ai_ cy (rp 5) 12 (Mp 5), ai_ cy (rp 6) 12 (Mp 6), ai_ cy (rp 7) 12 (Mp 7), ai_ cy (rp 8) 12 (Mp 8), ai_ cy (rp 9) 12 (Mp 9), ai_ cy (rp 10) 12 (Mp 10), ai_ cy (rp 11) 12 (Mp 11), ai_ cy wc 12 f_5, ai_ cy wf 12 ff] (by rw [ef_5]; exact hP) (by rw [ef_5]; exact hD) (fun hP hD => ?_)
  refine lv_iconst (v := 1) hx hb dB_36_2_0.2.2.2.1 (by decide) ?_
  refine lv_istore_n (lv' := [(3, .int 1), (2, .int vp), (0, .ref xw), (1, .int a1)]) hx hb dB_36_2_0.2.2.2.2 rfl hl (by decide) rfl (fun ls hl => ?_)
  refine lv_iconst (v := 0) hx hb dB_36_2_1.1.1.1.1 (by decide) ?_
  refine lv_istore (lv' := [(4, .int 0), (3, .int 1), (2, .int vp), (0, .ref xw), (1, .int a1)]) hx hb dB_36_2_1.1.1.1.2 hl (by decide) rfl (fun ls hl => ?_)
  suffices LOOP_6 : ∀ (n_6 : Nat) (x4_6 : Int32) (x3_6 : Int32) (c_wc_6 : Nat → Int32) (c_wf_6 : Nat → Int32) (H : Heap) (locs : List Loc) (ls : Array Slot), 12 - x4_6.toInt < (n_6 : Int) → (0 ≤ x4_6.toInt) → (x4_6.toInt ≤ 12) → ((0 : Int) ≤ 0) → (rng c_wf_6 12 (0) (11)) → pd_2 D vwCl A [ob10_0_ xw xc xk wpo wc wf, ob0_0_ xc xn xk clo cro c4 c5 c6 c7 c8, ob3_0_ xn vp vn n1 n2 n3 n4 n5, aq_ cy 6 cro 12 (gf_ rr), ai_ cy (rr 0) 12 (Mr 0), ai_ cy (rr 1) 12 (Mr 1), ai_ cy (rr 2) 12 (Mr 2), ai_ cy (rr 3) 12 (Mr 3), ai_ cy (rr 4) 12 (Mr 4), ai_ cy (rr 5) 12 (Mr 5), ai_ cy (rr 6) 12 (Mr 6), ai_ cy (rr 7) 12 (Mr 7), ai_ cy (rr 8) 12 (Mr 8), ai_ cy (rr 9) 12 (Mr 9), ai_ cy (rr 10) 12 (Mr 10), ai_ cy (rr 11) 12 (Mr 11), aq_ cy 6 wpo 12 (gf_ rp), ai_ cy (rp 0) 12 (Mp 0), ai_ cy (rp 1) 12 (Mp 1), ai_ cy (rp 2) 12 (Mp 2), ai_ cy (rp 3) 12 (Mp 3), ai_ cy (rp 4) 12 (Mp 4), ai_ cy (rp 5) 12 (Mp 5), ai_ cy (rp 6) 12 (Mp 6), ai_ cy (rp 7) 12 (Mp 7), ai_ cy (rp 8) 12 (Mp 8), ai_ cy (rp 9) 12 (Mp 9), ai_ cy (rp 10) 12 (Mp 10), ai_ cy (rp 11) 12 (Mp 11), ai_ cy wc 12 c_wc_6, ai_ cy wf 12 c_wf_6] H → va_S A s.heap H locs → lv_has ls 6 [(4, .int x4_6), (3, .int x3_6), (2, .int vp), (0, .ref xw), (1, .int a1)] → W p l e ({ frames := 2, cells := 0, slots := 0, locals := 46 } : Room) s m (([.ref xw, .int a1] : List Value).toArray) below meth c H locs 0 0 Q (F0 m 32 ls []) from LOOP_6 ((12 - (0 : Int32).toInt).toNat + 1) (0 : Int32) (1 : Int32) f_5 ff _ _ _ (by omega) (by first | with_reducible assumption | omega | assumption) (by first | with_reducible assumption | omega | assumption) (by first | with_reducible assumption | assumption | omega) (by first | with_reducible assumption | assumption | exact rng_zero (by omega) (by omega) | exact orng_zero) ⟨hP, hD⟩ hS (lv_sub hl [0, 1, 2, 3, 4] rfl)
  intro n_6
  induction n_6 with
  | zero =>
    intro x4_6 x3_6 c_wc_6 c_wf_6 H locs ls hm v0_6 v1_6 v2_6 rc_wf_6 hPD hS hl; obtain ⟨hP, hD⟩ := hPD
    exact absurd hm (by omega)
  | succ n_6 ih_6 =>
    intro x4_6 x3_6 c_wc_6 c_wf_6 H locs ls hm v0_6 v1_6 v2_6 rc_wf_6 hPD hS hl; obtain ⟨hP, hD⟩ := hPD
    refine lv_iload hx hb dB_36_2_1.1.1.2.1 (lv_at hl 0 rfl) ?_
    refine lv_iload_n hx hb dB_36_2_1.1.1.2.2 rfl (lv_at hl 2 rfl) ?_
    refine lv_icmp_ge (tgt := 88) hx hb dB_36_2_1.1.2.1.1 (by decide) (fun c_7 => ?_) (fun c_7 => ?_)
    · have t_7 : vp.toInt ≤ x4_6.toInt := Int32.le_iff_toInt_le.mp c_7
      rw [hQ]
      exact W.vret hx hb hr (fun t ht hW => ⟨⟨(), rfl, trivial, c_wc_6, c_wf_6, (by first | with_reducible assumption | assumption | exact rng_zero (by omega) (by omega) | omega), by rw [ht]; exact hP, hD⟩, hS.F ht⟩) hS.2.2 dB_36_2_2.2.2.2.2
    · have t_7 : ¬ vp.toInt ≤ x4_6.toInt := fun h => c_7 (Int32.le_iff_toInt_le.mpr h)
      refine lv_iload_n hx hb dB_36_2_1.1.2.1.2 rfl (lv_at hl 1 rfl) ?_
      refine lv_if_eq (tgt := 88) hx hb dB_36_2_1.1.2.2.1 (by decide) (fun c_8 => ?_) (fun c_8 => ?_)
      · have t_8 : x3_6.toInt = (0 : Int32).toInt := congrArg Int32.toInt c_8
        rw [hQ]
        exact W.vret hx hb hr (fun t ht hW => ⟨⟨(), rfl, trivial, c_wc_6, c_wf_6, (by first | with_reducible assumption | assumption | exact rng_zero (by omega) (by omega) | omega), by rw [ht]; exact hP, hD⟩, hS.F ht⟩) hS.2.2 dB_36_2_2.2.2.2.2
      · have t_8 : ¬ x3_6.toInt = (0 : Int32).toInt := fun h => c_8 (Int32.toInt_inj.mp h)
        refine lv_iconst (v := 0) hx hb dB_36_2_1.1.2.2.2 (by decide) ?_
        refine lv_istore_n (lv' := [(3, .int 0), (4, .int x4_6), (2, .int vp), (0, .ref xw), (1, .int a1)]) hx hb dB_36_2_1.2.1.1.1 rfl hl (by decide) rfl (fun ls hl => ?_)
        refine lv_iconst (v := 0) hx hb dB_36_2_1.2.1.1.2 (by decide) ?_
        refine lv_istore (lv' := [(5, .int 0), (3, .int 0), (4, .int x4_6), (2, .int vp), (0, .ref xw), (1, .int a1)]) hx hb dB_36_2_1.2.1.2.1 hl (by decide) rfl (fun ls hl => ?_)
        suffices LOOP_9 : ∀ (n_9 : Nat) (x5_9 : Int32) (x3_9 : Int32) (c_wc_9 : Nat → Int32) (c_wf_9 : Nat → Int32) (H : Heap) (locs : List Loc) (ls : Array Slot), 12 - x5_9.toInt < (n_9 : Int) → (0 ≤ x5_9.toInt) → (x5_9.toInt ≤ 12) → (rng c_wf_9 12 (0) (11)) → pd_2 D vwCl A [ob10_0_ xw xc xk wpo wc wf, ob0_0_ xc xn xk clo cro c4 c5 c6 c7 c8, ob3_0_ xn vp vn n1 n2 n3 n4 n5, aq_ cy 6 cro 12 (gf_ rr), ai_ cy (rr 0) 12 (Mr 0), ai_ cy (rr 1) 12 (Mr 1), ai_ cy (rr 2) 12 (Mr 2), ai_ cy (rr 3) 12 (Mr 3), ai_ cy (rr 4) 12 (Mr 4), ai_ cy (rr 5) 12 (Mr 5), ai_ cy (rr 6) 12 (Mr 6), ai_ cy (rr 7) 12 (Mr 7), ai_ cy (rr 8) 12 (Mr 8), ai_ cy (rr 9) 12 (Mr 9), ai_ cy (rr 10) 12 (Mr 10), ai_ cy (rr 11) 12 (Mr 11), aq_ cy 6 wpo 12 (gf_ rp), ai_ cy (rp 0) 12 (Mp 0), ai_ cy (rp 1) 12 (Mp 1), ai_ cy (rp 2) 12 (Mp 2), ai_ cy (rp 3) 12 (Mp 3), ai_ cy (rp 4) 12 (Mp 4), ai_ cy (rp 5) 12 (Mp 5), ai_ cy (rp 6) 12 (Mp 6), ai_ cy (rp 7) 12 (Mp 7), ai_ cy (rp 8) 12 (Mp 8), ai_ cy (rp 9) 12 (Mp 9), ai_ cy (rp 10) 12 (Mp 10), ai_ cy (rp 11) 12 (Mp 11), ai_ cy wc 12 c_wc_9, ai_ cy wf 12 c_wf_9] H → va_S A s.heap H locs → lv_has ls 6 [(5, .int x5_9), (3, .int x3_9), (4, .int x4_6), (2, .int vp), (0, .ref xw), (1, .int a1)] → W p l e ({ frames := 2, cells := 0, slots := 0, locals := 46 } : Room) s m (([.ref xw, .int a1] : List Value).toArray) below meth c H locs 0 0 Q (F0 m 47 ls []) from LOOP_9 ((12 - (0 : Int32).toInt).toNat + 1) (0 : Int32) (0 : Int32) c_wc_6 c_wf_6 _ _ _ (by omega) (by first | with_reducible assumption | omega | assumption) (by first | with_reducible assumption | omega | assumption) (by first | with_reducible assumption | assumption | exact rng_zero (by omega) (by omega) | exact orng_zero) ⟨hP, hD⟩ hS (lv_sub hl [0, 1, 2, 3, 4, 5] rfl)
        intro n_9
        induction n_9 with
        | zero =>
          intro x5_9 x3_9 c_wc_9 c_wf_9 H locs ls hm v0_9 v1_9 rc_wf_9 hPD hS hl; obtain ⟨hP, hD⟩ := hPD
          exact absurd hm (by omega)
        | succ n_9 ih_9 =>
          intro x5_9 x3_9 c_wc_9 c_wf_9 H locs ls hm v0_9 v1_9 rc_wf_9 hPD hS hl; obtain ⟨hP, hD⟩ := hPD
          refine lv_iload hx hb dB_36_2_1.2.1.2.2 (lv_at hl 0 rfl) ?_
          refine lv_iload_n hx hb dB_36_2_1.2.2.1.1 rfl (lv_at hl 3 rfl) ?_
          refine lv_icmp_ge (tgt := 82) hx hb dB_36_2_1.2.2.1.2 (by decide) (fun c_10 => ?_) (fun c_10 => ?_)
          · have t_10 : vp.toInt ≤ x5_9.toInt := Int32.le_iff_toInt_le.mp c_10
            obtain ⟨y_11, ey_11⟩ : ∃ y : Int32, y = x4_6 + 1 := ⟨_, rfl⟩
            have ty_11 : y_11.toInt = x4_6.toInt + (1 : Int32).toInt := by rw [ey_11]; exact addI (by omega) (by omega)
            refine lv_iinc (v := y_11) (lv' := [(4, .int y_11), (5, .int x5_9), (3, .int x3_9), (2, .int vp), (0, .ref xw), (1, .int a1)]) hx hb dB_36_2_2.2.2.1.2 hl (k := 2) rfl (by rw [ey_11]; rfl) (by decide) rfl (fun ls hl => ?_)
            refine lv_goto (tgt := 32) hx hb dB_36_2_2.2.2.2.1 (by decide) ?_
            exact ih_6 y_11 x3_9 c_wc_9 c_wf_9 _ _ _ (by omega) (by first | with_reducible assumption | omega | assumption) (by first | with_reducible assumption | omega | assumption) (by first | with_reducible assumption | assumption | omega) (by first | with_reducible assumption | assumption | exact rng_zero (by omega) (by omega) | exact orng_zero) ⟨hP, hD⟩ hS (lv_sub hl [0, 2, 3, 4, 5] rfl)
          · have t_10 : ¬ vp.toInt ≤ x5_9.toInt := fun h => c_10 (Int32.le_iff_toInt_le.mpr h)
            refine lv_aload_n hx hb dB_36_2_1.2.2.2.1 rfl (lv_at hl 4 rfl) ?_
            refine va_get (ci := 10) (v := .ref wc) (C := RX10) (T := TX10) (N := 5) hx hb hts (fun _ h => List.mem_cons_of_mem _ (List.mem_append_left _ (List.mem_append_left _ (List.mem_append_right _ h)))) hown hK.1 hP 0 rfl rfl 3 (by decide) (hts (.fieldLink RX10 16 "CutAtlas$Widening" "costs" "[I") (List.mem_of_getElem? (i := 4) rfl)) (fun _ h9 => h9) rfl dB_36_2_1.2.2.2.2 ?_
            refine lv_iload hx hb dB_36_2_2.1.1.1 (lv_at hl 0 rfl) ?_
            have h_12 : vp_in x5_9 12 := in_I (by first | with_reducible assumption | omega) (by omega)
            refine va_iald hx hb hK.1 hP 29 0 rfl rfl (i := x5_9) h_12 dB_36_2_2.1.1.2.1 ?_
            refine lv_topi (fun y_13 ey_13 => ?_)
            refine lv_ldc (v := 1000000000) hx hb hown (hts (.constant RX10 38 (1000000000)) (List.mem_of_getElem? (i := 5) rfl)) dB_36_2_2.1.1.2.2 ?_
            refine lv_icmp_eq (tgt := 76) hx hb dB_36_2_2.1.2.1.1 (by decide) (fun c_14 => ?_) (fun c_14 => ?_)
            · have t_14 : y_13.toInt = (1000000000 : Int32).toInt := congrArg Int32.toInt c_14
              obtain ⟨y_15, ey_15⟩ : ∃ y : Int32, y = x5_9 + 1 := ⟨_, rfl⟩
              have ty_15 : y_15.toInt = x5_9.toInt + (1 : Int32).toInt := by rw [ey_15]; exact addI (by omega) (by omega)
              refine lv_iinc (v := y_15) (lv' := [(5, .int y_15), (3, .int x3_9), (4, .int x4_6), (2, .int vp), (0, .ref xw), (1, .int a1)]) hx hb dB_36_2_2.2.1.2.2 hl (k := 0) rfl (by rw [ey_15]; rfl) (by decide) rfl (fun ls hl => ?_)
              refine lv_goto (tgt := 47) hx hb dB_36_2_2.2.2.1.1 (by decide) ?_
              exact ih_9 y_15 x3_9 c_wc_9 c_wf_9 _ _ _ (by omega) (by first | with_reducible assumption | omega | assumption) (by first | with_reducible assumption | omega | assumption) (by first | with_reducible assumption | assumption | exact rng_zero (by omega) (by omega) | exact orng_zero) ⟨hP, hD⟩ hS (lv_sub hl [0, 1, 2, 3, 4, 5] rfl)
            · have t_14 : ¬ y_13.toInt = (1000000000 : Int32).toInt := fun h => c_14 (Int32.toInt_inj.mp h)
              refine lv_aload_n hx hb dB_36_2_2.1.2.1.2 rfl (lv_at hl 4 rfl) ?_
              refine lv_iload hx hb dB_36_2_2.1.2.2.1 (lv_at hl 0 rfl) ?_
              refine ct_S hP hD hS hA [ob10_0_ xw xc xk wpo wc wf, ob0_0_ xc xn xk clo cro c4 c5 c6 c7 c8, ob3_0_ xn vp vn n1 n2 n3 n4 n5, aq_ cy 6 cro 12 (gf_ rr), ai_ cy (rr 0) 12 (Mr 0), ai_ cy (rr 1) 12 (Mr 1), ai_ cy (rr 2) 12 (Mr 2), ai_ cy (rr 3) 12 (Mr 3), ai_ cy (rr 4) 12 (Mr 4), ai_ cy (rr 5) 12 (Mr 5), ai_ cy (rr 6) 12 (Mr 6), ai_ cy (rr 7) 12 (Mr 7), ai_ cy (rr 8) 12 (Mr 8), ai_ cy (rr 9) 12 (Mr 9), ai_ cy (rr 10) 12 (Mr 10), ai_ cy (rr 11) 12 (Mr 11), aq_ cy 6 wpo 12 (gf_ rp), ai_ cy (rp 0) 12 (Mp 0), ai_ cy (rp 1) 12 (Mp 1), ai_ cy (rp 2) 12 (Mp 2), ai_ cy (rp 3) 12 (Mp 3), ai_ cy (rp 4) 12 (Mp 4), ai_ cy (rp 5) 12 (Mp 5), ai_ cy (rp 6) 12 (Mp 6), ai_ cy (rp 7) 12 (Mp 7), ai_ cy (rp 8) 12 (Mp 8), ai_ cy (rp 9) 12 (Mp 9), ai_ cy (rp 10) 12 (Mp 10), ai_ cy (rp 11) 12 (Mp 11), ai_ cy wc 12 c_wc_9, ai_ cy wf 12 c_wf_9] [0, 1, 2, 3, 4, 5, 6, 7, 8, 9, 10, 11, 12, 13, 14, 15, 16, 17, 18, 19, 20, 21, 22, 23, 24, 25, 26, 27, 28, 29, 30] (by decide +kernel) rfl (fun hPc hDw hFc hC_ => ?_)
              refine va_calli (va_runV (As := [.int x5_9]) (rest := []) ⟨hx, hb, hml, hown, hts⟩ (c_X10_lookFrom l D cy H.size xw wpo wc wf xc xk clo cro c4 c5 c6 c7 c8 xn n1 n2 n3 n4 n5 vp vn rr Mr rp Mp c_wc_9 c_wf_9 x5_9 (by first | with_reducible assumption | omega | assumption) (by first | with_reducible assumption | omega | assumption) (by first | with_reducible assumption | assumption | omega)) (cwV 1 hts gX10_findCosts_X10_lookFrom rfl rfl rfl ⟨rfl, hd_X10_lookFrom⟩ ⟨Nat.le_of_ble_eq_true rfl, Nat.le_of_ble_eq_true rfl⟩) ⟨bl_g, va_recvX hK.1 hP (ci := 10) (q0 := 0) rfl rfl, fun U hU hW => ⟨rfl, by rw [hU], by rw [hU]; exact hPc, ⟨kk_mv hW hK, arrOfT_moved hW.alike hG⟩, hDw⟩⟩ rfl rfl hl.1 rfl (lv_room (Nat.le_of_ble_eq_true rfl)) dB_36_2_2.1.2.2.2 ⟨Nat.le_of_ble_eq_true rfl, Nat.le_of_ble_eq_true rfl⟩) hS (fun q _ h => hFc q h) hFc (fun r_16 u t H locs ht hvm hw hB hz1 hk1 hS => ?_)
              obtain ⟨ec_17, ef_18, g_19, hP1, hD1⟩ := hB
              rw [ht] at hP1
              obtain ⟨hP, hD⟩ := va_join (wr := []) (w1 := [ob10_0_ xw xc xk wpo wc wf, ob0_0_ xc xn xk clo cro c4 c5 c6 c7 c8, ob3_0_ xn vp vn n1 n2 n3 n4 n5, aq_ cy 6 cro 12 (gf_ rr), ai_ cy (rr 0) 12 (Mr 0), ai_ cy (rr 1) 12 (Mr 1), ai_ cy (rr 2) 12 (Mr 2), ai_ cy (rr 3) 12 (Mr 3), ai_ cy (rr 4) 12 (Mr 4), ai_ cy (rr 5) 12 (Mr 5), ai_ cy (rr 6) 12 (Mr 6), ai_ cy (rr 7) 12 (Mr 7), ai_ cy (rr 8) 12 (Mr 8), ai_ cy (rr 9) 12 (Mr 9), ai_ cy (rr 10) 12 (Mr 10), ai_ cy (rr 11) 12 (Mr 11), aq_ cy 6 wpo 12 (gf_ rp), ai_ cy (rp 0) 12 (Mp 0), ai_ cy (rp 1) 12 (Mp 1), ai_ cy (rp 2) 12 (Mp 2), ai_ cy (rp 3) 12 (Mp 3), ai_ cy (rp 4) 12 (Mp 4), ai_ cy (rp 5) 12 (Mp 5), ai_ cy (rp 6) 12 (Mp 6), ai_ cy (rp 7) 12 (Mp 7), ai_ cy (rp 8) 12 (Mp 8), ai_ cy (rp 9) 12 (Mp 9), ai_ cy (rp 10) 12 (Mp 10), ai_ cy (rp 11) 12 (Mp 11), ai_ cy wc 12 ec_17, ai_ cy wf 12 ef_18]) hP hD [0, 1, 2, 3, 4, 5, 6, 7, 8, 9, 10, 11, 12, 13, 14, 15, 16, 17, 18, 19, 20, 21, 22, 23, 24, 25, 26, 27, 28, 29, 30] [] hC_ rfl (by decide) (by decide) hk1 hFc hP1 hD1
              refine pd_K [ob10_0_ xw xc xk wpo wc wf, ob0_0_ xc xn xk clo cro c4 c5 c6 c7 c8, ob3_0_ xn vp vn n1 n2 n3 n4 n5, aq_ cy 6 cro 12 (gf_ rr), ai_ cy (rr 0) 12 (Mr 0), ai_ cy (rr 1) 12 (Mr 1), ai_ cy (rr 2) 12 (Mr 2), ai_ cy (rr 3) 12 (Mr 3), ai_ cy (rr 4) 12 (Mr 4), ai_ cy (rr 5) 12 (Mr 5), ai_ cy (rr 6) 12 (Mr 6), ai_ cy (rr 7) 12 (Mr 7), ai_ cy (rr 8) 12 (Mr 8), ai_ cy (rr 9) 12 (Mr 9), ai_ cy (rr 10) 12 (Mr 10), ai_ cy (rr 11) 12 (Mr 11), aq_ cy 6 wpo 12 (gf_ rp), ai_ cy (rp 0) 12 (Mp 0), ai_ cy (rp 1) 12 (Mp 1), ai_ cy (rp 2) 12 (Mp 2), ai_ cy (rp 3) 12 (Mp 3), ai_ cy (rp 4) 12 (Mp 4), ai_ cy (rp 5) 12 (Mp 5), ai_ cy (rp 6) 12 (Mp 6), ai_ cy (rp 7) 12 (Mp 7), ai_ cy (rp 8) 12 (Mp 8), ai_ cy (rp 9) 12 (Mp 9), ai_ cy (rp 10) 12 (Mp 10), ai_ cy (rp 11) 12 (Mp 11), ai_ cy wc 12 ec_17, ai_ cy wf 12 ef_18] hP hD (fun hP hD => ?_)
              have f0_r_16 := hw
              refine lv_if_eq (tgt := 76) hx hb dB_36_2_2.2.1.1.1 (by decide) (fun c_20 => ?_) (fun c_20 => ?_)
              · have t_20 : r_16.toInt = (0 : Int32).toInt := congrArg Int32.toInt c_20
                obtain ⟨y_21, ey_21⟩ : ∃ y : Int32, y = x5_9 + 1 := ⟨_, rfl⟩
                have ty_21 : y_21.toInt = x5_9.toInt + (1 : Int32).toInt := by rw [ey_21]; exact addI (by omega) (by omega)
                refine lv_iinc (v := y_21) (lv' := [(5, .int y_21), (3, .int x3_9), (4, .int x4_6), (2, .int vp), (0, .ref xw), (1, .int a1)]) hx hb dB_36_2_2.2.1.2.2 hl (k := 0) rfl (by rw [ey_21]; rfl) (by decide) rfl (fun ls hl => ?_)
                refine lv_goto (tgt := 47) hx hb dB_36_2_2.2.2.1.1 (by decide) ?_
                exact ih_9 y_21 x3_9 ec_17 ef_18 _ _ _ (by omega) (by first | with_reducible assumption | omega | assumption) (by first | with_reducible assumption | omega | assumption) (by first | with_reducible assumption | assumption | exact rng_zero (by omega) (by omega) | exact orng_zero) ⟨hP, hD⟩ hS (lv_sub hl [0, 1, 2, 3, 4, 5] rfl)
              · have t_20 : ¬ r_16.toInt = (0 : Int32).toInt := fun h => c_20 (Int32.toInt_inj.mp h)
                refine lv_iconst (v := 1) hx hb dB_36_2_2.2.1.1.2 (by decide) ?_
                refine lv_istore_n (lv' := [(3, .int 1), (5, .int x5_9), (4, .int x4_6), (2, .int vp), (0, .ref xw), (1, .int a1)]) hx hb dB_36_2_2.2.1.2.1 rfl hl (by decide) rfl (fun ls hl => ?_)
                obtain ⟨y_22, ey_22⟩ : ∃ y : Int32, y = x5_9 + 1 := ⟨_, rfl⟩
                have ty_22 : y_22.toInt = x5_9.toInt + (1 : Int32).toInt := by rw [ey_22]; exact addI (by omega) (by omega)
                refine lv_iinc (v := y_22) (lv' := [(5, .int y_22), (3, .int 1), (4, .int x4_6), (2, .int vp), (0, .ref xw), (1, .int a1)]) hx hb dB_36_2_2.2.1.2.2 hl (k := 1) rfl (by rw [ey_22]; rfl) (by decide) rfl (fun ls hl => ?_)
                refine lv_goto (tgt := 47) hx hb dB_36_2_2.2.2.1.1 (by decide) ?_
                exact ih_9 y_22 (1 : Int32) ec_17 ef_18 _ _ _ (by omega) (by first | with_reducible assumption | omega | assumption) (by first | with_reducible assumption | omega | assumption) (by first | with_reducible assumption | assumption | exact rng_zero (by omega) (by omega) | exact orng_zero) ⟨hP, hD⟩ hS (lv_sub hl [0, 1, 2, 3, 4, 5] rfl)
end
