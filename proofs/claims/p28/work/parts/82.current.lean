set_option maxHeartbeats 4000000 in
set_option maxRecDepth 100000 in
theorem c_X0_sendOver (l : Launch) (D : va_G) (cy : Nat → ClassId) (sz : Nat) (xc : Nat) (xk : Nat) (clo : Nat) (cro : Nat) (c4 : Nat) (c5 : Nat) (c6 : Nat) (c7 : Nat) (c8 : Nat) (xn : Nat) (n1 : Nat) (n2 : Nat) (n3 : Nat) (n4 : Nat) (n5 : Nat) (vp : Int32) (vn : Int32) (fs : Nat → Int32) (fe : Nat → Int32) (rr : Nat → Nat) (Mr : Nat → Nat → Int32) (f4 : Nat → Int32) (f5 : Nat → Int32) (f6 : Nat → Int32) (a1 : Int32) (a2 : Int32) (a3 : Int32) (hvn : 0 ≤ vn.toInt ∧ vn.toInt ≤ 40) (q1 : 0 ≤ a1.toInt ∧ a1.toInt ≤ 11) (q2 : 0 ≤ a2.toInt ∧ a2.toInt ≤ 11) : Met l yX0_sendOver wsX0_sendOver ({ frames := 1, cells := 0, slots := 0, locals := 13 }) (va_Pc [.ref xc, .int a1, .int a2, .int a3] (fun U => U.heap.size = sz ∧ va_P D vwCl [(xc, .inr (0, [.ref xn, .ref xk, .ref clo, .ref cro, .ref c4, .ref c5, .ref c6, .ref c7, .ref c8])), (xn, .inr (3, [.int vp, .int vn, .ref n1, .ref n2, .ref n3, .ref n4, .ref n5])), (n2, .inl (cy 0, 40, .inl fs)), (n3, .inl (cy 0, 40, .inl fe)), (cro, .inl (cy 6, 12, .inr (.inr (.inr (.inr (gf_ rr)))))), ((rr 0), .inl (cy 0, 12, .inl (Mr 0))), ((rr 1), .inl (cy 0, 12, .inl (Mr 1))), ((rr 2), .inl (cy 0, 12, .inl (Mr 2))), ((rr 3), .inl (cy 0, 12, .inl (Mr 3))), ((rr 4), .inl (cy 0, 12, .inl (Mr 4))), ((rr 5), .inl (cy 0, 12, .inl (Mr 5))), ((rr 6), .inl (cy 0, 12, .inl (Mr 6))), ((rr 7), .inl (cy 0, 12, .inl (Mr 7))), ((rr 8), .inl (cy 0, 12, .inl (Mr 8))), ((rr 9), .inl (cy 0, 12, .inl (Mr 9))), ((rr 10), .inl (cy 0, 12, .inl (Mr 10))), ((rr 11), .inl (cy 0, 12, .inl (Mr 11))), (c4, .inl (cy 0, 40, .inl f4)), (c5, .inl (cy 0, 40, .inl f5)), (c6, .inl (cy 0, 40, .inl f6))] U.heap ∧ kg_ D cy U ∧ va_D (fun _ => True) [(xc, .inr (0, [.ref xn, .ref xk, .ref clo, .ref cro, .ref c4, .ref c5, .ref c6, .ref c7, .ref c8])), (xn, .inr (3, [.int vp, .int vn, .ref n1, .ref n2, .ref n3, .ref n4, .ref n5])), (n2, .inl (cy 0, 40, .inl fs)), (n3, .inl (cy 0, 40, .inl fe)), (cro, .inl (cy 6, 12, .inr (.inr (.inr (.inr (gf_ rr)))))), ((rr 0), .inl (cy 0, 12, .inl (Mr 0))), ((rr 1), .inl (cy 0, 12, .inl (Mr 1))), ((rr 2), .inl (cy 0, 12, .inl (Mr 2))), ((rr 3), .inl (cy 0, 12, .inl (Mr 3))), ((rr 4), .inl (cy 0, 12, .inl (Mr 4))), ((rr 5), .inl (cy 0, 12, .inl (Mr 5))), ((rr 6), .inl (cy 0, 12, .inl (Mr 6))), ((rr 7), .inl (cy 0, 12, .inl (Mr 7))), ((rr 8), .inl (cy 0, 12, .inl (Mr 8))), ((rr 9), .inl (cy 0, 12, .inl (Mr 9))), ((rr 10), .inl (cy 0, 12, .inl (Mr 10))), ((rr 11), .inl (cy 0, 12, .inl (Mr 11))), (c4, .inl (cy 0, 40, .inl f4)), (c5, .inl (cy 0, 40, .inl f5)), (c6, .inl (cy 0, 40, .inl f6))])) (va_Qv (fun (_ : Unit) => True) (fun (_ : Unit) (t : State) => ∃ (eMr : Nat → Nat → Int32), ∃ (e4 : Nat → Int32), va_P D vwCl [(xc, .inr (0, [.ref xn, .ref xk, .ref clo, .ref cro, .ref c4, .ref c5, .ref c6, .ref c7, .ref c8])), (xn, .inr (3, [.int vp, .int vn, .ref n1, .ref n2, .ref n3, .ref n4, .ref n5])), (n2, .inl (cy 0, 40, .inl fs)), (n3, .inl (cy 0, 40, .inl fe)), (cro, .inl (cy 6, 12, .inr (.inr (.inr (.inr (gf_ rr)))))), ((rr 0), .inl (cy 0, 12, .inl (eMr 0))), ((rr 1), .inl (cy 0, 12, .inl (eMr 1))), ((rr 2), .inl (cy 0, 12, .inl (eMr 2))), ((rr 3), .inl (cy 0, 12, .inl (eMr 3))), ((rr 4), .inl (cy 0, 12, .inl (eMr 4))), ((rr 5), .inl (cy 0, 12, .inl (eMr 5))), ((rr 6), .inl (cy 0, 12, .inl (eMr 6))), ((rr 7), .inl (cy 0, 12, .inl (eMr 7))), ((rr 8), .inl (cy 0, 12, .inl (eMr 8))), ((rr 9), .inl (cy 0, 12, .inl (eMr 9))), ((rr 10), .inl (cy 0, 12, .inl (eMr 10))), ((rr 11), .inl (cy 0, 12, .inl (eMr 11))), (c4, .inl (cy 0, 40, .inl e4)), (c5, .inl (cy 0, 40, .inl f5)), (c6, .inl (cy 0, 40, .inl f6))] t.heap ∧ va_D (va_A [(xc, .inr (0, [.ref xn, .ref xk, .ref clo, .ref cro, .ref c4, .ref c5, .ref c6, .ref c7, .ref c8])), (xn, .inr (3, [.int vp, .int vn, .ref n1, .ref n2, .ref n3, .ref n4, .ref n5])), (n2, .inl (cy 0, 40, .inl fs)), (n3, .inl (cy 0, 40, .inl fe)), (cro, .inl (cy 6, 12, .inr (.inr (.inr (.inr (gf_ rr)))))), ((rr 0), .inl (cy 0, 12, .inl (Mr 0))), ((rr 1), .inl (cy 0, 12, .inl (Mr 1))), ((rr 2), .inl (cy 0, 12, .inl (Mr 2))), ((rr 3), .inl (cy 0, 12, .inl (Mr 3))), ((rr 4), .inl (cy 0, 12, .inl (Mr 4))), ((rr 5), .inl (cy 0, 12, .inl (Mr 5))), ((rr 6), .inl (cy 0, 12, .inl (Mr 6))), ((rr 7), .inl (cy 0, 12, .inl (Mr 7))), ((rr 8), .inl (cy 0, 12, .inl (Mr 8))), ((rr 9), .inl (cy 0, 12, .inl (Mr 9))), ((rr 10), .inl (cy 0, 12, .inl (Mr 10))), ((rr 11), .inl (cy 0, 12, .inl (Mr 11))), (c4, .inl (cy 0, 40, .inl f4)), (c5, .inl (cy 0, 40, .inl f5)), (c6, .inl (cy 0, 40, .inl f6))] sz) [(xc, .inr (0, [.ref xn, .ref xk, .ref clo, .ref cro, .ref c4, .ref c5, .ref c6, .ref c7, .ref c8])), (xn, .inr (3, [.int vp, .int vn, .ref n1, .ref n2, .ref n3, .ref n4, .ref n5])), (n2, .inl (cy 0, 40, .inl fs)), (n3, .inl (cy 0, 40, .inl fe)), (cro, .inl (cy 6, 12, .inr (.inr (.inr (.inr (gf_ rr)))))), ((rr 0), .inl (cy 0, 12, .inl (eMr 0))), ((rr 1), .inl (cy 0, 12, .inl (eMr 1))), ((rr 2), .inl (cy 0, 12, .inl (eMr 2))), ((rr 3), .inl (cy 0, 12, .inl (eMr 3))), ((rr 4), .inl (cy 0, 12, .inl (eMr 4))), ((rr 5), .inl (cy 0, 12, .inl (eMr 5))), ((rr 6), .inl (cy 0, 12, .inl (eMr 6))), ((rr 7), .inl (cy 0, 12, .inl (eMr 7))), ((rr 8), .inl (cy 0, 12, .inl (eMr 8))), ((rr 9), .inl (cy 0, 12, .inl (eMr 9))), ((rr 10), .inl (cy 0, 12, .inl (eMr 10))), ((rr 11), .inl (cy 0, 12, .inl (eMr 11))), (c4, .inl (cy 0, 40, .inl e4)), (c5, .inl (cy 0, 40, .inl f5)), (c6, .inl (cy 0, 40, .inl f6))]) (va_A [(xc, .inr (0, [.ref xn, .ref xk, .ref clo, .ref cro, .ref c4, .ref c5, .ref c6, .ref c7, .ref c8])), (xn, .inr (3, [.int vp, .int vn, .ref n1, .ref n2, .ref n3, .ref n4, .ref n5])), (n2, .inl (cy 0, 40, .inl fs)), (n3, .inl (cy 0, 40, .inl fe)), (cro, .inl (cy 6, 12, .inr (.inr (.inr (.inr (gf_ rr)))))), ((rr 0), .inl (cy 0, 12, .inl (Mr 0))), ((rr 1), .inl (cy 0, 12, .inl (Mr 1))), ((rr 2), .inl (cy 0, 12, .inl (Mr 2))), ((rr 3), .inl (cy 0, 12, .inl (Mr 3))), ((rr 4), .inl (cy 0, 12, .inl (Mr 4))), ((rr 5), .inl (cy 0, 12, .inl (Mr 5))), ((rr 6), .inl (cy 0, 12, .inl (Mr 6))), ((rr 7), .inl (cy 0, 12, .inl (Mr 7))), ((rr 8), .inl (cy 0, 12, .inl (Mr 8))), ((rr 9), .inl (cy 0, 12, .inl (Mr 9))), ((rr 10), .inl (cy 0, 12, .inl (Mr 10))), ((rr 11), .inl (cy 0, 12, .inl (Mr 11))), (c4, .inl (cy 0, 40, .inl f4)), (c5, .inl (cy 0, 40, .inl f5)), (c6, .inl (cy 0, 40, .inl f6))] sz)) 0 0 (va_A [(xc, .inr (0, [.ref xn, .ref xk, .ref clo, .ref cro, .ref c4, .ref c5, .ref c6, .ref c7, .ref c8])), (xn, .inr (3, [.int vp, .int vn, .ref n1, .ref n2, .ref n3, .ref n4, .ref n5])), (n2, .inl (cy 0, 40, .inl fs)), (n3, .inl (cy 0, 40, .inl fe)), (cro, .inl (cy 6, 12, .inr (.inr (.inr (.inr (gf_ rr)))))), ((rr 0), .inl (cy 0, 12, .inl (Mr 0))), ((rr 1), .inl (cy 0, 12, .inl (Mr 1))), ((rr 2), .inl (cy 0, 12, .inl (Mr 2))), ((rr 3), .inl (cy 0, 12, .inl (Mr 3))), ((rr 4), .inl (cy 0, 12, .inl (Mr 4))), ((rr 5), .inl (cy 0, 12, .inl (Mr 5))), ((rr 6), .inl (cy 0, 12, .inl (Mr 6))), ((rr 7), .inl (cy 0, 12, .inl (Mr 7))), ((rr 8), .inl (cy 0, 12, .inl (Mr 8))), ((rr 9), .inl (cy 0, 12, .inl (Mr 9))), ((rr 10), .inl (cy 0, 12, .inl (Mr 10))), ((rr 11), .inl (cy 0, 12, .inl (Mr 11))), (c4, .inl (cy 0, 40, .inl f4)), (c5, .inl (cy 0, 40, .inl f5)), (c6, .inl (cy 0, 40, .inl f6))] sz) := by
  refine ofQ (cc := cX0_sendOver) (maxL := 7) (ret := none) (by decide) rfl ?_
  intro p e s m args below meth c s₁ Q hQ B hml hv
  obtain ⟨rfl, hsz, hP, hK, hD0⟩ := hv
  have hG := hK.2
  have hK := hK.1
  have hx := B.exec
  have hb := B.bytes
  have hr := B.returns
  have hts := atoms_spec (ws := wsX0_sendOver) B.pre
  have hown : s.vm.findClass RX0 = some m.cls := by have h_ := findClass_of_methodNamed B.named; exact h_
  have hlocks := B.notSynchronized
  subst hsz
  have hD := hD0.self (sz := s.heap.size)
  generalize hAe : va_A [(xc, .inr (0, [.ref xn, .ref xk, .ref clo, .ref cro, .ref c4, .ref c5, .ref c6, .ref c7, .ref c8])), (xn, .inr (3, [.int vp, .int vn, .ref n1, .ref n2, .ref n3, .ref n4, .ref n5])), (n2, .inl (cy 0, 40, .inl fs)), (n3, .inl (cy 0, 40, .inl fe)), (cro, .inl (cy 6, 12, .inr (.inr (.inr (.inr (gf_ rr)))))), ((rr 0), .inl (cy 0, 12, .inl (Mr 0))), ((rr 1), .inl (cy 0, 12, .inl (Mr 1))), ((rr 2), .inl (cy 0, 12, .inl (Mr 2))), ((rr 3), .inl (cy 0, 12, .inl (Mr 3))), ((rr 4), .inl (cy 0, 12, .inl (Mr 4))), ((rr 5), .inl (cy 0, 12, .inl (Mr 5))), ((rr 6), .inl (cy 0, 12, .inl (Mr 6))), ((rr 7), .inl (cy 0, 12, .inl (Mr 7))), ((rr 8), .inl (cy 0, 12, .inl (Mr 8))), ((rr 9), .inl (cy 0, 12, .inl (Mr 9))), ((rr 10), .inl (cy 0, 12, .inl (Mr 10))), ((rr 11), .inl (cy 0, 12, .inl (Mr 11))), (c4, .inl (cy 0, 40, .inl f4)), (c5, .inl (cy 0, 40, .inl f5)), (c6, .inl (cy 0, 40, .inl f6))] s.heap.size = A at hD hQ
  have hA : ∀ q : Nat, s.heap.size ≤ q → A q := fun q h => by rw [← hAe]; exact Or.inr h
  have hS : va_S A s.heap s.heap [] := va_S.rf
  have hl := lv_entry ([.ref xc, .int a1, .int a2, .int a3]) (n := 7) (Nat.le_of_ble_eq_true rfl)
  rw [lg_entry_eq]
  generalize (lg_sl ([.ref xc, .int a1, .int a2, .int a3]) ++ List.replicate (7 - (lg_sl ([.ref xc, .int a1, .int a2, .int a3])).length) Slot.unset).toArray = ls at hl ⊢
  have hl : lv_has ls 7 [(0, .ref xc), (1, .int a1), (2, .int a2), (3, .int a3)] := hl
  have z0 : (0 : Int32).toInt = 0 := by decide
  have z1 : (1 : Int32).toInt = 1 := by decide
  refine lv_aload_n hx hb dX0_sendOver_0 rfl (lv_at hl 0 rfl) ?_
  refine va_get (ci := 0) (v := .ref cro) (C := RX0) (T := TX0) (N := 9) hx hb hts (fun _ h => List.mem_cons_of_mem _ (List.mem_append_left _ (List.mem_append_right _ h))) hown hK.1 hP 0 rfl rfl 3 (by decide) (hts (.fieldLink RX0 16 "CutAtlas$Current" "room" "[[I") (by decide +kernel)) (fun _ h9 => h9) rfl dX0_sendOver_1 ?_
  refine lv_iload_n hx hb dX0_sendOver_4 rfl (lv_at hl 1 rfl) ?_
  have h_1 : vp_in a1 12 := in_I (by omega) (by omega)
  refine va_alda hx hb hG hP 4 rfl (i := a1) h_1 dX0_sendOver_5 ?_
  refine lv_topv (v' := .ref (rr a1.toNatClampNeg)) (gf_at h_1) ?_
  refine lv_iload_n hx hb dX0_sendOver_6 rfl (lv_at hl 2 rfl) ?_
  refine lv_dup2_11 hx hb dX0_sendOver_7 rfl rfl ?_
  have h_2 : vp_in a2 12 := in_I (by omega) (by omega)
  have hPg : va_P D vwCl (([(xc, .inr (0, [.ref xn, .ref xk, .ref clo, .ref cro, .ref c4, .ref c5, .ref c6, .ref c7, .ref c8])), (xn, .inr (3, [.int vp, .int vn, .ref n1, .ref n2, .ref n3, .ref n4, .ref n5])), (n2, .inl (cy 0, 40, .inl fs)), (n3, .inl (cy 0, 40, .inl fe)), (cro, .inl (cy 6, 12, .inr (.inr (.inr (.inr (gf_ rr))))))] : va_W) ++ (gro (cy 0) rr Mr ++ ([(c4, .inl (cy 0, 40, .inl f4)), (c5, .inl (cy 0, 40, .inl f5)), (c6, .inl (cy 0, 40, .inl f6))] : va_W))) s.heap := hP
  refine va_gld (X := [(xc, .inr (0, [.ref xn, .ref xk, .ref clo, .ref cro, .ref c4, .ref c5, .ref c6, .ref c7, .ref c8])), (xn, .inr (3, [.int vp, .int vn, .ref n1, .ref n2, .ref n3, .ref n4, .ref n5])), (n2, .inl (cy 0, 40, .inl fs)), (n3, .inl (cy 0, 40, .inl fe)), (cro, .inl (cy 6, 12, .inr (.inr (.inr (.inr (gf_ rr))))))]) (Y := [(c4, .inl (cy 0, 40, .inl f4)), (c5, .inl (cy 0, 40, .inl f5)), (c6, .inl (cy 0, 40, .inl f6))]) (r := rr) (M := Mr) (k := a1.toNatClampNeg) hx hb hK.1 hPg 0 rfl (in_lt h_1) (i := a2) h_2 dX0_sendOver_8 ?_
  refine lv_topi (fun y_3 ey_3 => ?_)
  refine lv_iload_n hx hb dX0_sendOver_9 rfl (lv_at hl 3 rfl) ?_
  refine lv_isub hx hb dX0_sendOver_10 ?_
  refine lv_topi (fun y_4 ey_4 => ?_)
  have h_5 : vp_in a2 12 := in_I (by omega) (by omega)
  have hPg : va_P D vwCl (([(xc, .inr (0, [.ref xn, .ref xk, .ref clo, .ref cro, .ref c4, .ref c5, .ref c6, .ref c7, .ref c8])), (xn, .inr (3, [.int vp, .int vn, .ref n1, .ref n2, .ref n3, .ref n4, .ref n5])), (n2, .inl (cy 0, 40, .inl fs)), (n3, .inl (cy 0, 40, .inl fe)), (cro, .inl (cy 6, 12, .inr (.inr (.inr (.inr (gf_ rr))))))] : va_W) ++ (gro (cy 0) rr Mr ++ ([(c4, .inl (cy 0, 40, .inl f4)), (c5, .inl (cy 0, 40, .inl f5)), (c6, .inl (cy 0, 40, .inl f6))] : va_W))) s.heap := hP
  have hDg : va_D A (([(xc, .inr (0, [.ref xn, .ref xk, .ref clo, .ref cro, .ref c4, .ref c5, .ref c6, .ref c7, .ref c8])), (xn, .inr (3, [.int vp, .int vn, .ref n1, .ref n2, .ref n3, .ref n4, .ref n5])), (n2, .inl (cy 0, 40, .inl fs)), (n3, .inl (cy 0, 40, .inl fe)), (cro, .inl (cy 6, 12, .inr (.inr (.inr (.inr (gf_ rr))))))] : va_W) ++ (gro (cy 0) rr Mr ++ ([(c4, .inl (cy 0, 40, .inl f4)), (c5, .inl (cy 0, 40, .inl f5)), (c6, .inl (cy 0, 40, .inl f6))] : va_W))) := hD
  refine va_gst (X := [(xc, .inr (0, [.ref xn, .ref xk, .ref clo, .ref cro, .ref c4, .ref c5, .ref c6, .ref c7, .ref c8])), (xn, .inr (3, [.int vp, .int vn, .ref n1, .ref n2, .ref n3, .ref n4, .ref n5])), (n2, .inl (cy 0, 40, .inl fs)), (n3, .inl (cy 0, 40, .inl fe)), (cro, .inl (cy 6, 12, .inr (.inr (.inr (.inr (gf_ rr))))))]) (Y := [(c4, .inl (cy 0, 40, .inl f4)), (c5, .inl (cy 0, 40, .inl f5)), (c6, .inl (cy 0, 40, .inl f6))]) (r := rr) (M := Mr) (k := a1.toNatClampNeg) hx hb hK.1 hPg hDg hS 0 rfl (in_lt h_1) (i := a2) h_5 dX0_sendOver_11 (fun H locs hP hD hS => ?_)
  obtain ⟨M_6, eM_6⟩ : ∃ g : Nat → Nat → Int32, g = va_up Mr a1.toNatClampNeg (upd (Mr a1.toNatClampNeg) a2.toNatClampNeg y_4) := ⟨_, rfl⟩
  have hP : va_P D vwCl [(xc, .inr (0, [.ref xn, .ref xk, .ref clo, .ref cro, .ref c4, .ref c5, .ref c6, .ref c7, .ref c8])), (xn, .inr (3, [.int vp, .int vn, .ref n1, .ref n2, .ref n3, .ref n4, .ref n5])), (n2, .inl (cy 0, 40, .inl fs)), (n3, .inl (cy 0, 40, .inl fe)), (cro, .inl (cy 6, 12, .inr (.inr (.inr (.inr (gf_ rr)))))), ((rr 0), .inl (cy 0, 12, .inl (M_6 0))), ((rr 1), .inl (cy 0, 12, .inl (M_6 1))), ((rr 2), .inl (cy 0, 12, .inl (M_6 2))), ((rr 3), .inl (cy 0, 12, .inl (M_6 3))), ((rr 4), .inl (cy 0, 12, .inl (M_6 4))), ((rr 5), .inl (cy 0, 12, .inl (M_6 5))), ((rr 6), .inl (cy 0, 12, .inl (M_6 6))), ((rr 7), .inl (cy 0, 12, .inl (M_6 7))), ((rr 8), .inl (cy 0, 12, .inl (M_6 8))), ((rr 9), .inl (cy 0, 12, .inl (M_6 9))), ((rr 10), .inl (cy 0, 12, .inl (M_6 10))), ((rr 11), .inl (cy 0, 12, .inl (M_6 11))), (c4, .inl (cy 0, 40, .inl f4)), (c5, .inl (cy 0, 40, .inl f5)), (c6, .inl (cy 0, 40, .inl f6))] H := by rw [eM_6]; exact hP
  have hD : va_D A [(xc, .inr (0, [.ref xn, .ref xk, .ref clo, .ref cro, .ref c4, .ref c5, .ref c6, .ref c7, .ref c8])), (xn, .inr (3, [.int vp, .int vn, .ref n1, .ref n2, .ref n3, .ref n4, .ref n5])), (n2, .inl (cy 0, 40, .inl fs)), (n3, .inl (cy 0, 40, .inl fe)), (cro, .inl (cy 6, 12, .inr (.inr (.inr (.inr (gf_ rr)))))), ((rr 0), .inl (cy 0, 12, .inl (M_6 0))), ((rr 1), .inl (cy 0, 12, .inl (M_6 1))), ((rr 2), .inl (cy 0, 12, .inl (M_6 2))), ((rr 3), .inl (cy 0, 12, .inl (M_6 3))), ((rr 4), .inl (cy 0, 12, .inl (M_6 4))), ((rr 5), .inl (cy 0, 12, .inl (M_6 5))), ((rr 6), .inl (cy 0, 12, .inl (M_6 6))), ((rr 7), .inl (cy 0, 12, .inl (M_6 7))), ((rr 8), .inl (cy 0, 12, .inl (M_6 8))), ((rr 9), .inl (cy 0, 12, .inl (M_6 9))), ((rr 10), .inl (cy 0, 12, .inl (M_6 10))), ((rr 11), .inl (cy 0, 12, .inl (M_6 11))), (c4, .inl (cy 0, 40, .inl f4)), (c5, .inl (cy 0, 40, .inl f5)), (c6, .inl (cy 0, 40, .inl f6))] := by rw [eM_6]; exact hD
  refine lv_aload_n hx hb dX0_sendOver_12 rfl (lv_at hl 0 rfl) ?_
  refine va_get (ci := 0) (v := .ref cro) (C := RX0) (T := TX0) (N := 9) hx hb hts (fun _ h => List.mem_cons_of_mem _ (List.mem_append_left _ (List.mem_append_right _ h))) hown hK.1 hP 0 rfl rfl 3 (by decide) (hts (.fieldLink RX0 16 "CutAtlas$Current" "room" "[[I") (by decide +kernel)) (fun _ h9 => h9) rfl dX0_sendOver_13 ?_
  refine lv_iload_n hx hb dX0_sendOver_16 rfl (lv_at hl 2 rfl) ?_
  have h_7 : vp_in a2 12 := in_I (by omega) (by omega)
  refine va_alda hx hb hG hP 4 rfl (i := a2) h_7 dX0_sendOver_17 ?_
  refine lv_topv (v' := .ref (rr a2.toNatClampNeg)) (gf_at h_7) ?_
  refine lv_iload_n hx hb dX0_sendOver_18 rfl (lv_at hl 1 rfl) ?_
  refine lv_dup2_11 hx hb dX0_sendOver_19 rfl rfl ?_
  have h_8 : vp_in a1 12 := in_I (by omega) (by omega)
  have hPg : va_P D vwCl (([(xc, .inr (0, [.ref xn, .ref xk, .ref clo, .ref cro, .ref c4, .ref c5, .ref c6, .ref c7, .ref c8])), (xn, .inr (3, [.int vp, .int vn, .ref n1, .ref n2, .ref n3, .ref n4, .ref n5])), (n2, .inl (cy 0, 40, .inl fs)), (n3, .inl (cy 0, 40, .inl fe)), (cro, .inl (cy 6, 12, .inr (.inr (.inr (.inr (gf_ rr))))))] : va_W) ++ (gro (cy 0) rr M_6 ++ ([(c4, .inl (cy 0, 40, .inl f4)), (c5, .inl (cy 0, 40, .inl f5)), (c6, .inl (cy 0, 40, .inl f6))] : va_W))) H := hP
  refine va_gld (X := [(xc, .inr (0, [.ref xn, .ref xk, .ref clo, .ref cro, .ref c4, .ref c5, .ref c6, .ref c7, .ref c8])), (xn, .inr (3, [.int vp, .int vn, .ref n1, .ref n2, .ref n3, .ref n4, .ref n5])), (n2, .inl (cy 0, 40, .inl fs)), (n3, .inl (cy 0, 40, .inl fe)), (cro, .inl (cy 6, 12, .inr (.inr (.inr (.inr (gf_ rr))))))]) (Y := [(c4, .inl (cy 0, 40, .inl f4)), (c5, .inl (cy 0, 40, .inl f5)), (c6, .inl (cy 0, 40, .inl f6))]) (r := rr) (M := M_6) (k := a2.toNatClampNeg) hx hb hK.1 hPg 0 rfl (in_lt h_7) (i := a1) h_8 dX0_sendOver_20 ?_
  refine lv_topi (fun y_9 ey_9 => ?_)
  refine lv_iload_n hx hb dX0_sendOver_21 rfl (lv_at hl 3 rfl) ?_
  refine lv_iadd hx hb dX0_sendOver_22 ?_
  refine lv_topi (fun y_10 ey_10 => ?_)
  have h_11 : vp_in a1 12 := in_I (by omega) (by omega)
  have hPg : va_P D vwCl (([(xc, .inr (0, [.ref xn, .ref xk, .ref clo, .ref cro, .ref c4, .ref c5, .ref c6, .ref c7, .ref c8])), (xn, .inr (3, [.int vp, .int vn, .ref n1, .ref n2, .ref n3, .ref n4, .ref n5])), (n2, .inl (cy 0, 40, .inl fs)), (n3, .inl (cy 0, 40, .inl fe)), (cro, .inl (cy 6, 12, .inr (.inr (.inr (.inr (gf_ rr))))))] : va_W) ++ (gro (cy 0) rr M_6 ++ ([(c4, .inl (cy 0, 40, .inl f4)), (c5, .inl (cy 0, 40, .inl f5)), (c6, .inl (cy 0, 40, .inl f6))] : va_W))) H := hP
  have hDg : va_D A (([(xc, .inr (0, [.ref xn, .ref xk, .ref clo, .ref cro, .ref c4, .ref c5, .ref c6, .ref c7, .ref c8])), (xn, .inr (3, [.int vp, .int vn, .ref n1, .ref n2, .ref n3, .ref n4, .ref n5])), (n2, .inl (cy 0, 40, .inl fs)), (n3, .inl (cy 0, 40, .inl fe)), (cro, .inl (cy 6, 12, .inr (.inr (.inr (.inr (gf_ rr))))))] : va_W) ++ (gro (cy 0) rr M_6 ++ ([(c4, .inl (cy 0, 40, .inl f4)), (c5, .inl (cy 0, 40, .inl f5)), (c6, .inl (cy 0, 40, .inl f6))] : va_W))) := hD
  refine va_gst (X := [(xc, .inr (0, [.ref xn, .ref xk, .ref clo, .ref cro, .ref c4, .ref c5, .ref c6, .ref c7, .ref c8])), (xn, .inr (3, [.int vp, .int vn, .ref n1, .ref n2, .ref n3, .ref n4, .ref n5])), (n2, .inl (cy 0, 40, .inl fs)), (n3, .inl (cy 0, 40, .inl fe)), (cro, .inl (cy 6, 12, .inr (.inr (.inr (.inr (gf_ rr))))))]) (Y := [(c4, .inl (cy 0, 40, .inl f4)), (c5, .inl (cy 0, 40, .inl f5)), (c6, .inl (cy 0, 40, .inl f6))]) (r := rr) (M := M_6) (k := a2.toNatClampNeg) hx hb hK.1 hPg hDg hS 0 rfl (in_lt h_7) (i := a1) h_11 dX0_sendOver_23 (fun H locs hP hD hS => ?_)
  obtain ⟨M_12, eM_12⟩ : ∃ g : Nat → Nat → Int32, g = va_up M_6 a2.toNatClampNeg (upd (M_6 a2.toNatClampNeg) a1.toNatClampNeg y_10) := ⟨_, rfl⟩
  have hP : va_P D vwCl [(xc, .inr (0, [.ref xn, .ref xk, .ref clo, .ref cro, .ref c4, .ref c5, .ref c6, .ref c7, .ref c8])), (xn, .inr (3, [.int vp, .int vn, .ref n1, .ref n2, .ref n3, .ref n4, .ref n5])), (n2, .inl (cy 0, 40, .inl fs)), (n3, .inl (cy 0, 40, .inl fe)), (cro, .inl (cy 6, 12, .inr (.inr (.inr (.inr (gf_ rr)))))), ((rr 0), .inl (cy 0, 12, .inl (M_12 0))), ((rr 1), .inl (cy 0, 12, .inl (M_12 1))), ((rr 2), .inl (cy 0, 12, .inl (M_12 2))), ((rr 3), .inl (cy 0, 12, .inl (M_12 3))), ((rr 4), .inl (cy 0, 12, .inl (M_12 4))), ((rr 5), .inl (cy 0, 12, .inl (M_12 5))), ((rr 6), .inl (cy 0, 12, .inl (M_12 6))), ((rr 7), .inl (cy 0, 12, .inl (M_12 7))), ((rr 8), .inl (cy 0, 12, .inl (M_12 8))), ((rr 9), .inl (cy 0, 12, .inl (M_12 9))), ((rr 10), .inl (cy 0, 12, .inl (M_12 10))), ((rr 11), .inl (cy 0, 12, .inl (M_12 11))), (c4, .inl (cy 0, 40, .inl f4)), (c5, .inl (cy 0, 40, .inl f5)), (c6, .inl (cy 0, 40, .inl f6))] H := by rw [eM_12]; exact hP
  have hD : va_D A [(xc, .inr (0, [.ref xn, .ref xk, .ref clo, .ref cro, .ref c4, .ref c5, .ref c6, .ref c7, .ref c8])), (xn, .inr (3, [.int vp, .int vn, .ref n1, .ref n2, .ref n3, .ref n4, .ref n5])), (n2, .inl (cy 0, 40, .inl fs)), (n3, .inl (cy 0, 40, .inl fe)), (cro, .inl (cy 6, 12, .inr (.inr (.inr (.inr (gf_ rr)))))), ((rr 0), .inl (cy 0, 12, .inl (M_12 0))), ((rr 1), .inl (cy 0, 12, .inl (M_12 1))), ((rr 2), .inl (cy 0, 12, .inl (M_12 2))), ((rr 3), .inl (cy 0, 12, .inl (M_12 3))), ((rr 4), .inl (cy 0, 12, .inl (M_12 4))), ((rr 5), .inl (cy 0, 12, .inl (M_12 5))), ((rr 6), .inl (cy 0, 12, .inl (M_12 6))), ((rr 7), .inl (cy 0, 12, .inl (M_12 7))), ((rr 8), .inl (cy 0, 12, .inl (M_12 8))), ((rr 9), .inl (cy 0, 12, .inl (M_12 9))), ((rr 10), .inl (cy 0, 12, .inl (M_12 10))), ((rr 11), .inl (cy 0, 12, .inl (M_12 11))), (c4, .inl (cy 0, 40, .inl f4)), (c5, .inl (cy 0, 40, .inl f5)), (c6, .inl (cy 0, 40, .inl f6))] := by rw [eM_12]; exact hD
  refine lv_iload_n hx hb dX0_sendOver_24 rfl (lv_at hl 3 rfl) ?_
  refine lv_istore (lv' := [(4, .int a3), (0, .ref xc), (1, .int a1), (2, .int a2), (3, .int a3)]) hx hb dX0_sendOver_25 hl (by decide) rfl (fun ls hl => ?_)
  refine lv_iconst (v := 0) hx hb dX0_sendOver_27 (by decide) ?_
  refine lv_istore (lv' := [(5, .int 0), (4, .int a3), (0, .ref xc), (1, .int a1), (2, .int a2), (3, .int a3)]) hx hb dX0_sendOver_28 hl (by decide) rfl (fun ls hl => ?_)
  suffices LOOP_13 : ∀ (n_13 : Nat) (x5_13 : Int32) (x4_13 : Int32) (c_c4_13 : Nat → Int32) (H : Heap) (locs : List Loc) (ls : Array Slot), vn.toInt - x5_13.toInt < (n_13 : Int) → (0 ≤ x5_13.toInt) → (x5_13.toInt ≤ vn.toInt) → va_P D vwCl [(xc, .inr (0, [.ref xn, .ref xk, .ref clo, .ref cro, .ref c4, .ref c5, .ref c6, .ref c7, .ref c8])), (xn, .inr (3, [.int vp, .int vn, .ref n1, .ref n2, .ref n3, .ref n4, .ref n5])), (n2, .inl (cy 0, 40, .inl fs)), (n3, .inl (cy 0, 40, .inl fe)), (cro, .inl (cy 6, 12, .inr (.inr (.inr (.inr (gf_ rr)))))), ((rr 0), .inl (cy 0, 12, .inl (M_12 0))), ((rr 1), .inl (cy 0, 12, .inl (M_12 1))), ((rr 2), .inl (cy 0, 12, .inl (M_12 2))), ((rr 3), .inl (cy 0, 12, .inl (M_12 3))), ((rr 4), .inl (cy 0, 12, .inl (M_12 4))), ((rr 5), .inl (cy 0, 12, .inl (M_12 5))), ((rr 6), .inl (cy 0, 12, .inl (M_12 6))), ((rr 7), .inl (cy 0, 12, .inl (M_12 7))), ((rr 8), .inl (cy 0, 12, .inl (M_12 8))), ((rr 9), .inl (cy 0, 12, .inl (M_12 9))), ((rr 10), .inl (cy 0, 12, .inl (M_12 10))), ((rr 11), .inl (cy 0, 12, .inl (M_12 11))), (c4, .inl (cy 0, 40, .inl c_c4_13)), (c5, .inl (cy 0, 40, .inl f5)), (c6, .inl (cy 0, 40, .inl f6))] H → va_D A [(xc, .inr (0, [.ref xn, .ref xk, .ref clo, .ref cro, .ref c4, .ref c5, .ref c6, .ref c7, .ref c8])), (xn, .inr (3, [.int vp, .int vn, .ref n1, .ref n2, .ref n3, .ref n4, .ref n5])), (n2, .inl (cy 0, 40, .inl fs)), (n3, .inl (cy 0, 40, .inl fe)), (cro, .inl (cy 6, 12, .inr (.inr (.inr (.inr (gf_ rr)))))), ((rr 0), .inl (cy 0, 12, .inl (M_12 0))), ((rr 1), .inl (cy 0, 12, .inl (M_12 1))), ((rr 2), .inl (cy 0, 12, .inl (M_12 2))), ((rr 3), .inl (cy 0, 12, .inl (M_12 3))), ((rr 4), .inl (cy 0, 12, .inl (M_12 4))), ((rr 5), .inl (cy 0, 12, .inl (M_12 5))), ((rr 6), .inl (cy 0, 12, .inl (M_12 6))), ((rr 7), .inl (cy 0, 12, .inl (M_12 7))), ((rr 8), .inl (cy 0, 12, .inl (M_12 8))), ((rr 9), .inl (cy 0, 12, .inl (M_12 9))), ((rr 10), .inl (cy 0, 12, .inl (M_12 10))), ((rr 11), .inl (cy 0, 12, .inl (M_12 11))), (c4, .inl (cy 0, 40, .inl c_c4_13)), (c5, .inl (cy 0, 40, .inl f5)), (c6, .inl (cy 0, 40, .inl f6))] → va_S A s.heap H locs → lv_has ls 7 [(5, .int x5_13), (4, .int x4_13), (0, .ref xc), (1, .int a1), (2, .int a2), (3, .int a3)] → W p l e ({ frames := 1, cells := 0, slots := 0, locals := 13 } : Room) s m (([.ref xc, .int a1, .int a2, .int a3] : List Value).toArray) below meth c H locs 0 0 Q (F0 m 30 ls []) from LOOP_13 ((vn.toInt - (0 : Int32).toInt).toNat + 1) (0 : Int32) a3 f4 _ _ _ (by omega) (by first | with_reducible assumption | assumption | omega) (by first | with_reducible assumption | assumption | omega) hP hD hS (lv_sub hl [0, 1, 2, 3, 4, 5] rfl)
  intro n_13
  induction n_13 with
  | zero =>
    intro x5_13 x4_13 c_c4_13 H locs ls hm v0_13 v1_13 hP hD hS hl
    exact absurd hm (by omega)
  | succ n_13 ih_13 =>
    intro x5_13 x4_13 c_c4_13 H locs ls hm v0_13 v1_13 hP hD hS hl
    refine lv_iload hx hb dX0_sendOver_30 (lv_at hl 0 rfl) ?_
    refine lv_aload_n hx hb dX0_sendOver_32 rfl (lv_at hl 2 rfl) ?_
    refine va_get (ci := 0) (v := .ref xn) (C := RX0) (T := TX0) (N := 9) hx hb hts (fun _ h => List.mem_cons_of_mem _ (List.mem_append_left _ (List.mem_append_right _ h))) hown hK.1 hP 0 rfl rfl 0 (by decide) (hts (.fieldLink RX0 35 "CutAtlas$Current" "net" "LCutAtlas$Net;") (by decide +kernel)) (fun _ h9 => h9) rfl dX0_sendOver_33 ?_
    refine va_get (ci := 3) (v := .int vn) (C := RX3) (T := TX3) (N := 7) hx hb hts (fun _ h => List.mem_cons_of_mem _ (List.mem_append_right _ h)) hown hK.1 hP 1 rfl rfl 1 (by decide) (hts (.fieldLink RX0 55 "CutAtlas$Net" "lines" "I") (by decide +kernel)) (fun _ h9 => h9) rfl dX0_sendOver_36 ?_
    refine lv_icmp_ge (tgt := 194) hx hb dX0_sendOver_39 (by decide) (fun c_14 => ?_) (fun c_14 => ?_)
    · have t_14 : vn.toInt ≤ x5_13.toInt := Int32.le_iff_toInt_le.mp c_14
      have hP9 := hP.sub (ws' := [(xc, .inr (0, [.ref xn, .ref xk, .ref clo, .ref cro, .ref c4, .ref c5, .ref c6, .ref c7, .ref c8])), (xn, .inr (3, [.int vp, .int vn, .ref n1, .ref n2, .ref n3, .ref n4, .ref n5])), (n2, .inl (cy 0, 40, .inl fs)), (n3, .inl (cy 0, 40, .inl fe)), (cro, .inl (cy 6, 12, .inr (.inr (.inr (.inr (gf_ rr)))))), ((rr 0), .inl (cy 0, 12, .inl (M_12 0))), ((rr 1), .inl (cy 0, 12, .inl (M_12 1))), ((rr 2), .inl (cy 0, 12, .inl (M_12 2))), ((rr 3), .inl (cy 0, 12, .inl (M_12 3))), ((rr 4), .inl (cy 0, 12, .inl (M_12 4))), ((rr 5), .inl (cy 0, 12, .inl (M_12 5))), ((rr 6), .inl (cy 0, 12, .inl (M_12 6))), ((rr 7), .inl (cy 0, 12, .inl (M_12 7))), ((rr 8), .inl (cy 0, 12, .inl (M_12 8))), ((rr 9), .inl (cy 0, 12, .inl (M_12 9))), ((rr 10), .inl (cy 0, 12, .inl (M_12 10))), ((rr 11), .inl (cy 0, 12, .inl (M_12 11))), (c4, .inl (cy 0, 40, .inl c_c4_13)), (c5, .inl (cy 0, 40, .inl f5)), (c6, .inl (cy 0, 40, .inl f6))]) [0, 1, 2, 3, 4, 5, 6, 7, 8, 9, 10, 11, 12, 13, 14, 15, 16, 17, 18, 19] rfl
      have hD9 := hD.sub (ws' := [(xc, .inr (0, [.ref xn, .ref xk, .ref clo, .ref cro, .ref c4, .ref c5, .ref c6, .ref c7, .ref c8])), (xn, .inr (3, [.int vp, .int vn, .ref n1, .ref n2, .ref n3, .ref n4, .ref n5])), (n2, .inl (cy 0, 40, .inl fs)), (n3, .inl (cy 0, 40, .inl fe)), (cro, .inl (cy 6, 12, .inr (.inr (.inr (.inr (gf_ rr)))))), ((rr 0), .inl (cy 0, 12, .inl (M_12 0))), ((rr 1), .inl (cy 0, 12, .inl (M_12 1))), ((rr 2), .inl (cy 0, 12, .inl (M_12 2))), ((rr 3), .inl (cy 0, 12, .inl (M_12 3))), ((rr 4), .inl (cy 0, 12, .inl (M_12 4))), ((rr 5), .inl (cy 0, 12, .inl (M_12 5))), ((rr 6), .inl (cy 0, 12, .inl (M_12 6))), ((rr 7), .inl (cy 0, 12, .inl (M_12 7))), ((rr 8), .inl (cy 0, 12, .inl (M_12 8))), ((rr 9), .inl (cy 0, 12, .inl (M_12 9))), ((rr 10), .inl (cy 0, 12, .inl (M_12 10))), ((rr 11), .inl (cy 0, 12, .inl (M_12 11))), (c4, .inl (cy 0, 40, .inl c_c4_13)), (c5, .inl (cy 0, 40, .inl f5)), (c6, .inl (cy 0, 40, .inl f6))]) [0, 1, 2, 3, 4, 5, 6, 7, 8, 9, 10, 11, 12, 13, 14, 15, 16, 17, 18, 19] (by decide +kernel) rfl
      rw [hQ]
      exact W.vret hx hb hr (fun t ht hW => ⟨⟨(), rfl, trivial, M_12, c_c4_13, by rw [ht]; exact hP9, hD9⟩, hS.F ht⟩) hS.2.2 dX0_sendOver_194
    · have t_14 : ¬ vn.toInt ≤ x5_13.toInt := fun h => c_14 (Int32.le_iff_toInt_le.mpr h)
      refine lv_iload hx hb dX0_sendOver_42 (lv_at hl 1 rfl) ?_
      refine lv_if_le (tgt := 194) hx hb dX0_sendOver_44 (by decide) (fun c_15 => ?_) (fun c_15 => ?_)
      · have t_15 : x4_13.toInt ≤ (0 : Int32).toInt := Int32.le_iff_toInt_le.mp c_15
        have hP9 := hP.sub (ws' := [(xc, .inr (0, [.ref xn, .ref xk, .ref clo, .ref cro, .ref c4, .ref c5, .ref c6, .ref c7, .ref c8])), (xn, .inr (3, [.int vp, .int vn, .ref n1, .ref n2, .ref n3, .ref n4, .ref n5])), (n2, .inl (cy 0, 40, .inl fs)), (n3, .inl (cy 0, 40, .inl fe)), (cro, .inl (cy 6, 12, .inr (.inr (.inr (.inr (gf_ rr)))))), ((rr 0), .inl (cy 0, 12, .inl (M_12 0))), ((rr 1), .inl (cy 0, 12, .inl (M_12 1))), ((rr 2), .inl (cy 0, 12, .inl (M_12 2))), ((rr 3), .inl (cy 0, 12, .inl (M_12 3))), ((rr 4), .inl (cy 0, 12, .inl (M_12 4))), ((rr 5), .inl (cy 0, 12, .inl (M_12 5))), ((rr 6), .inl (cy 0, 12, .inl (M_12 6))), ((rr 7), .inl (cy 0, 12, .inl (M_12 7))), ((rr 8), .inl (cy 0, 12, .inl (M_12 8))), ((rr 9), .inl (cy 0, 12, .inl (M_12 9))), ((rr 10), .inl (cy 0, 12, .inl (M_12 10))), ((rr 11), .inl (cy 0, 12, .inl (M_12 11))), (c4, .inl (cy 0, 40, .inl c_c4_13)), (c5, .inl (cy 0, 40, .inl f5)), (c6, .inl (cy 0, 40, .inl f6))]) [0, 1, 2, 3, 4, 5, 6, 7, 8, 9, 10, 11, 12, 13, 14, 15, 16, 17, 18, 19] rfl
        have hD9 := hD.sub (ws' := [(xc, .inr (0, [.ref xn, .ref xk, .ref clo, .ref cro, .ref c4, .ref c5, .ref c6, .ref c7, .ref c8])), (xn, .inr (3, [.int vp, .int vn, .ref n1, .ref n2, .ref n3, .ref n4, .ref n5])), (n2, .inl (cy 0, 40, .inl fs)), (n3, .inl (cy 0, 40, .inl fe)), (cro, .inl (cy 6, 12, .inr (.inr (.inr (.inr (gf_ rr)))))), ((rr 0), .inl (cy 0, 12, .inl (M_12 0))), ((rr 1), .inl (cy 0, 12, .inl (M_12 1))), ((rr 2), .inl (cy 0, 12, .inl (M_12 2))), ((rr 3), .inl (cy 0, 12, .inl (M_12 3))), ((rr 4), .inl (cy 0, 12, .inl (M_12 4))), ((rr 5), .inl (cy 0, 12, .inl (M_12 5))), ((rr 6), .inl (cy 0, 12, .inl (M_12 6))), ((rr 7), .inl (cy 0, 12, .inl (M_12 7))), ((rr 8), .inl (cy 0, 12, .inl (M_12 8))), ((rr 9), .inl (cy 0, 12, .inl (M_12 9))), ((rr 10), .inl (cy 0, 12, .inl (M_12 10))), ((rr 11), .inl (cy 0, 12, .inl (M_12 11))), (c4, .inl (cy 0, 40, .inl c_c4_13)), (c5, .inl (cy 0, 40, .inl f5)), (c6, .inl (cy 0, 40, .inl f6))]) [0, 1, 2, 3, 4, 5, 6, 7, 8, 9, 10, 11, 12, 13, 14, 15, 16, 17, 18, 19] (by decide +kernel) rfl
        rw [hQ]
        exact W.vret hx hb hr (fun t ht hW => ⟨⟨(), rfl, trivial, M_12, c_c4_13, by rw [ht]; exact hP9, hD9⟩, hS.F ht⟩) hS.2.2 dX0_sendOver_194
      · have t_15 : ¬ x4_13.toInt ≤ (0 : Int32).toInt := fun h => c_15 (Int32.le_iff_toInt_le.mpr h)
        refine lv_aload_n hx hb dX0_sendOver_47 rfl (lv_at hl 2 rfl) ?_
        refine va_get (ci := 0) (v := .ref xn) (C := RX0) (T := TX0) (N := 9) hx hb hts (fun _ h => List.mem_cons_of_mem _ (List.mem_append_left _ (List.mem_append_right _ h))) hown hK.1 hP 0 rfl rfl 0 (by decide) (hts (.fieldLink RX0 35 "CutAtlas$Current" "net" "LCutAtlas$Net;") (by decide +kernel)) (fun _ h9 => h9) rfl dX0_sendOver_48 ?_
        refine va_get (ci := 3) (v := .ref n2) (C := RX3) (T := TX3) (N := 7) hx hb hts (fun _ h => List.mem_cons_of_mem _ (List.mem_append_right _ h)) hown hK.1 hP 1 rfl rfl 3 (by decide) (hts (.fieldLink RX0 76 "CutAtlas$Net" "starts" "[I") (by decide +kernel)) (fun _ h9 => h9) rfl dX0_sendOver_51 ?_
        refine lv_iload hx hb dX0_sendOver_54 (lv_at hl 0 rfl) ?_
        have h_16 : vp_in x5_13 40 := in_I (by omega) (by omega)
        refine va_iald hx hb hK.1 hP 2 0 rfl rfl (i := x5_13) h_16 dX0_sendOver_56 ?_
        refine lv_topi (fun y_17 ey_17 => ?_)
        refine lv_iload_n hx hb dX0_sendOver_57 rfl (lv_at hl 3 rfl) ?_
        refine lv_icmp_ne (tgt := 119) hx hb dX0_sendOver_58 (by decide) (fun c_18 => ?_) (fun c_18 => ?_)
        · have t_18 : ¬ y_17.toInt = a1.toInt := fun h => c_18 (Int32.toInt_inj.mp h)
          refine lv_aload_n hx hb dX0_sendOver_119 rfl (lv_at hl 2 rfl) ?_
          refine va_get (ci := 0) (v := .ref xn) (C := RX0) (T := TX0) (N := 9) hx hb hts (fun _ h => List.mem_cons_of_mem _ (List.mem_append_left _ (List.mem_append_right _ h))) hown hK.1 hP 0 rfl rfl 0 (by decide) (hts (.fieldLink RX0 35 "CutAtlas$Current" "net" "LCutAtlas$Net;") (by decide +kernel)) (fun _ h9 => h9) rfl dX0_sendOver_120 ?_
          refine va_get (ci := 3) (v := .ref n2) (C := RX3) (T := TX3) (N := 7) hx hb hts (fun _ h => List.mem_cons_of_mem _ (List.mem_append_right _ h)) hown hK.1 hP 1 rfl rfl 3 (by decide) (hts (.fieldLink RX0 76 "CutAtlas$Net" "starts" "[I") (by decide +kernel)) (fun _ h9 => h9) rfl dX0_sendOver_123 ?_
          refine lv_iload hx hb dX0_sendOver_126 (lv_at hl 0 rfl) ?_
          have h_19 : vp_in x5_13 40 := in_I (by omega) (by omega)
          refine va_iald hx hb hK.1 hP 2 0 rfl rfl (i := x5_13) h_19 dX0_sendOver_128 ?_
          refine lv_topi (fun y_20 ey_20 => ?_)
          have e_ := (ey_20.trans ey_17.symm).symm
          subst e_
          skip
          refine lv_iload_n hx hb dX0_sendOver_129 rfl (lv_at hl 4 rfl) ?_
          refine lv_icmp_ne (tgt := 188) hx hb dX0_sendOver_130 (by decide) (fun c_21 => ?_) (fun c_21 => ?_)
          · have t_21 : ¬ y_17.toInt = a2.toInt := fun h => c_21 (Int32.toInt_inj.mp h)
            obtain ⟨y_22, ey_22⟩ : ∃ y : Int32, y = x5_13 + 1 := ⟨_, rfl⟩
            have ty_22 : y_22.toInt = x5_13.toInt + (1 : Int32).toInt := by rw [ey_22]; exact addI (by omega) (by omega)
            refine lv_iinc (v := y_22) (lv' := [(5, .int y_22), (4, .int x4_13), (0, .ref xc), (1, .int a1), (2, .int a2), (3, .int a3)]) hx hb dX0_sendOver_188 hl (k := 0) rfl (by rw [ey_22]; rfl) (by decide) rfl (fun ls hl => ?_)
            refine lv_goto (tgt := 30) hx hb dX0_sendOver_191 (by decide) ?_
            exact ih_13 y_22 x4_13 c_c4_13 _ _ _ (by omega) (by first | with_reducible assumption | assumption | omega) (by first | with_reducible assumption | assumption | omega) hP hD hS (lv_sub hl [0, 1, 2, 3, 4, 5] rfl)
          · have t_21 : y_17.toInt = a2.toInt := congrArg Int32.toInt c_21
            refine lv_aload_n hx hb dX0_sendOver_133 rfl (lv_at hl 2 rfl) ?_
            refine va_get (ci := 0) (v := .ref xn) (C := RX0) (T := TX0) (N := 9) hx hb hts (fun _ h => List.mem_cons_of_mem _ (List.mem_append_left _ (List.mem_append_right _ h))) hown hK.1 hP 0 rfl rfl 0 (by decide) (hts (.fieldLink RX0 35 "CutAtlas$Current" "net" "LCutAtlas$Net;") (by decide +kernel)) (fun _ h9 => h9) rfl dX0_sendOver_134 ?_
            refine va_get (ci := 3) (v := .ref n3) (C := RX3) (T := TX3) (N := 7) hx hb hts (fun _ h => List.mem_cons_of_mem _ (List.mem_append_right _ h)) hown hK.1 hP 1 rfl rfl 4 (by decide) (hts (.fieldLink RX0 79 "CutAtlas$Net" "ends" "[I") (by decide +kernel)) (fun _ h9 => h9) rfl dX0_sendOver_137 ?_
            refine lv_iload hx hb dX0_sendOver_140 (lv_at hl 0 rfl) ?_
            have h_23 : vp_in x5_13 40 := in_I (by omega) (by omega)
            refine va_iald hx hb hK.1 hP 3 0 rfl rfl (i := x5_13) h_23 dX0_sendOver_142 ?_
            refine lv_topi (fun y_24 ey_24 => ?_)
            refine lv_iload_n hx hb dX0_sendOver_143 rfl (lv_at hl 3 rfl) ?_
            refine lv_icmp_ne (tgt := 188) hx hb dX0_sendOver_144 (by decide) (fun c_25 => ?_) (fun c_25 => ?_)
            · have t_25 : ¬ y_24.toInt = a1.toInt := fun h => c_25 (Int32.toInt_inj.mp h)
              obtain ⟨y_26, ey_26⟩ : ∃ y : Int32, y = x5_13 + 1 := ⟨_, rfl⟩
              have ty_26 : y_26.toInt = x5_13.toInt + (1 : Int32).toInt := by rw [ey_26]; exact addI (by omega) (by omega)
              refine lv_iinc (v := y_26) (lv' := [(5, .int y_26), (4, .int x4_13), (0, .ref xc), (1, .int a1), (2, .int a2), (3, .int a3)]) hx hb dX0_sendOver_188 hl (k := 0) rfl (by rw [ey_26]; rfl) (by decide) rfl (fun ls hl => ?_)
              refine lv_goto (tgt := 30) hx hb dX0_sendOver_191 (by decide) ?_
              exact ih_13 y_26 x4_13 c_c4_13 _ _ _ (by omega) (by first | with_reducible assumption | assumption | omega) (by first | with_reducible assumption | assumption | omega) hP hD hS (lv_sub hl [0, 1, 2, 3, 4, 5] rfl)
            · have t_25 : y_24.toInt = a1.toInt := congrArg Int32.toInt c_25
              refine lv_iload hx hb dX0_sendOver_147 (lv_at hl 1 rfl) ?_
              refine lv_aload_n hx hb dX0_sendOver_149 rfl (lv_at hl 2 rfl) ?_
              refine va_get (ci := 0) (v := .ref c6) (C := RX0) (T := TX0) (N := 9) hx hb hts (fun _ h => List.mem_cons_of_mem _ (List.mem_append_left _ (List.mem_append_right _ h))) hown hK.1 hP 0 rfl rfl 6 (by decide) (hts (.fieldLink RX0 26 "CutAtlas$Current" "letsBack" "[I") (by decide +kernel)) (fun _ h9 => h9) rfl dX0_sendOver_150 ?_
              refine lv_iload hx hb dX0_sendOver_153 (lv_at hl 0 rfl) ?_
              have h_27 : vp_in x5_13 40 := in_I (by omega) (by omega)
              refine va_iald hx hb hK.1 hP 19 0 rfl rfl (i := x5_13) h_27 dX0_sendOver_155 ?_
              refine lv_topi (fun y_28 ey_28 => ?_)
              refine lv_aload_n hx hb dX0_sendOver_156 rfl (lv_at hl 2 rfl) ?_
              refine va_get (ci := 0) (v := .ref c4) (C := RX0) (T := TX0) (N := 9) hx hb hts (fun _ h => List.mem_cons_of_mem _ (List.mem_append_left _ (List.mem_append_right _ h))) hown hK.1 hP 0 rfl rfl 4 (by decide) (hts (.fieldLink RX0 19 "CutAtlas$Current" "flowing" "[I") (by decide +kernel)) (fun _ h9 => h9) rfl dX0_sendOver_157 ?_
              refine lv_iload hx hb dX0_sendOver_160 (lv_at hl 0 rfl) ?_
              have h_29 : vp_in x5_13 40 := in_I (by omega) (by omega)
              refine va_iald hx hb hK.1 hP 17 0 rfl rfl (i := x5_13) h_29 dX0_sendOver_162 ?_
              refine lv_topi (fun y_30 ey_30 => ?_)
              refine lv_iadd hx hb dX0_sendOver_163 ?_
              refine lv_topi (fun y_31 ey_31 => ?_)
              refine va_mmin hx hb (by rw [hml]; exact hl.1.symm) hown (hts (.methodLink RX0 101 Lib.Math.min.name) (by decide +kernel)) (hts (.static Lib.Math.min.name) (by decide +kernel)) (hts (.initialized "java/lang/Math") (by decide +kernel)) (hts (.code Lib.Math.min.name Lib.Math.min.code 2 (some .int)) (by decide +kernel)) (Nat.le_of_ble_eq_true rfl) (Nat.le_of_ble_eq_true rfl) (Nat.le_of_ble_eq_true rfl) (Nat.le_of_ble_eq_true rfl) dX0_sendOver_164 ?_
              refine lv_topi (fun y_32 ey_32 => ?_)
              have ty_32 : y_32 = x4_13 ∨ y_32 = y_31 := by rw [ey_32]; split <;> simp
              have iy_32 : y_32.toInt = x4_13.toInt ∨ y_32.toInt = y_31.toInt := by rcases ty_32 with h | h <;> rw [h] <;> simp
              refine lv_istore (lv' := [(6, .int y_32), (5, .int x5_13), (4, .int x4_13), (0, .ref xc), (1, .int a1), (2, .int a2), (3, .int a3)]) hx hb dX0_sendOver_167 hl (by decide) rfl (fun ls hl => ?_)
              refine lv_aload_n hx hb dX0_sendOver_169 rfl (lv_at hl 3 rfl) ?_
              refine va_get (ci := 0) (v := .ref c4) (C := RX0) (T := TX0) (N := 9) hx hb hts (fun _ h => List.mem_cons_of_mem _ (List.mem_append_left _ (List.mem_append_right _ h))) hown hK.1 hP 0 rfl rfl 4 (by decide) (hts (.fieldLink RX0 19 "CutAtlas$Current" "flowing" "[I") (by decide +kernel)) (fun _ h9 => h9) rfl dX0_sendOver_170 ?_
              refine lv_iload hx hb dX0_sendOver_173 (lv_at hl 1 rfl) ?_
              refine lv_dup2_11 hx hb dX0_sendOver_175 rfl rfl ?_
              have h_33 : vp_in x5_13 40 := in_I (by omega) (by omega)
              refine va_iald hx hb hK.1 hP 17 0 rfl rfl (i := x5_13) h_33 dX0_sendOver_176 ?_
              refine lv_topi (fun y_34 ey_34 => ?_)
              have e_ := (ey_34.trans ey_30.symm).symm
              subst e_
              skip
              refine lv_iload hx hb dX0_sendOver_177 (lv_at hl 0 rfl) ?_
              refine lv_isub hx hb dX0_sendOver_179 ?_
              refine lv_topi (fun y_35 ey_35 => ?_)
              have h_36 : vp_in x5_13 40 := in_I (by omega) (by omega)
              refine va_iast hx hb hK.1 hP hD hS 17 0 rfl rfl (i := x5_13) h_36 dX0_sendOver_180 (fun H locs hP hD hS => ?_)
              obtain ⟨f_37, ef_37⟩ : ∃ g : Nat → Int32, g = upd c_c4_13 x5_13.toNatClampNeg y_35 := ⟨_, rfl⟩
              have hP : va_P D vwCl [(xc, .inr (0, [.ref xn, .ref xk, .ref clo, .ref cro, .ref c4, .ref c5, .ref c6, .ref c7, .ref c8])), (xn, .inr (3, [.int vp, .int vn, .ref n1, .ref n2, .ref n3, .ref n4, .ref n5])), (n2, .inl (cy 0, 40, .inl fs)), (n3, .inl (cy 0, 40, .inl fe)), (cro, .inl (cy 6, 12, .inr (.inr (.inr (.inr (gf_ rr)))))), ((rr 0), .inl (cy 0, 12, .inl (M_12 0))), ((rr 1), .inl (cy 0, 12, .inl (M_12 1))), ((rr 2), .inl (cy 0, 12, .inl (M_12 2))), ((rr 3), .inl (cy 0, 12, .inl (M_12 3))), ((rr 4), .inl (cy 0, 12, .inl (M_12 4))), ((rr 5), .inl (cy 0, 12, .inl (M_12 5))), ((rr 6), .inl (cy 0, 12, .inl (M_12 6))), ((rr 7), .inl (cy 0, 12, .inl (M_12 7))), ((rr 8), .inl (cy 0, 12, .inl (M_12 8))), ((rr 9), .inl (cy 0, 12, .inl (M_12 9))), ((rr 10), .inl (cy 0, 12, .inl (M_12 10))), ((rr 11), .inl (cy 0, 12, .inl (M_12 11))), (c4, .inl (cy 0, 40, .inl f_37)), (c5, .inl (cy 0, 40, .inl f5)), (c6, .inl (cy 0, 40, .inl f6))] H := by rw [ef_37]; exact hP
              have hD : va_D A [(xc, .inr (0, [.ref xn, .ref xk, .ref clo, .ref cro, .ref c4, .ref c5, .ref c6, .ref c7, .ref c8])), (xn, .inr (3, [.int vp, .int vn, .ref n1, .ref n2, .ref n3, .ref n4, .ref n5])), (n2, .inl (cy 0, 40, .inl fs)), (n3, .inl (cy 0, 40, .inl fe)), (cro, .inl (cy 6, 12, .inr (.inr (.inr (.inr (gf_ rr)))))), ((rr 0), .inl (cy 0, 12, .inl (M_12 0))), ((rr 1), .inl (cy 0, 12, .inl (M_12 1))), ((rr 2), .inl (cy 0, 12, .inl (M_12 2))), ((rr 3), .inl (cy 0, 12, .inl (M_12 3))), ((rr 4), .inl (cy 0, 12, .inl (M_12 4))), ((rr 5), .inl (cy 0, 12, .inl (M_12 5))), ((rr 6), .inl (cy 0, 12, .inl (M_12 6))), ((rr 7), .inl (cy 0, 12, .inl (M_12 7))), ((rr 8), .inl (cy 0, 12, .inl (M_12 8))), ((rr 9), .inl (cy 0, 12, .inl (M_12 9))), ((rr 10), .inl (cy 0, 12, .inl (M_12 10))), ((rr 11), .inl (cy 0, 12, .inl (M_12 11))), (c4, .inl (cy 0, 40, .inl f_37)), (c5, .inl (cy 0, 40, .inl f5)), (c6, .inl (cy 0, 40, .inl f6))] := by rw [ef_37]; exact hD
              refine lv_iload hx hb dX0_sendOver_181 (lv_at hl 2 rfl) ?_
              refine lv_iload hx hb dX0_sendOver_183 (lv_at hl 0 rfl) ?_
              refine lv_isub hx hb dX0_sendOver_185 ?_
              refine lv_topi (fun y_38 ey_38 => ?_)
              refine lv_istore (lv' := [(4, .int y_38), (6, .int y_32), (5, .int x5_13), (0, .ref xc), (1, .int a1), (2, .int a2), (3, .int a3)]) hx hb dX0_sendOver_186 hl (by decide) rfl (fun ls hl => ?_)
              obtain ⟨y_39, ey_39⟩ : ∃ y : Int32, y = x5_13 + 1 := ⟨_, rfl⟩
              have ty_39 : y_39.toInt = x5_13.toInt + (1 : Int32).toInt := by rw [ey_39]; exact addI (by omega) (by omega)
              refine lv_iinc (v := y_39) (lv' := [(5, .int y_39), (4, .int y_38), (6, .int y_32), (0, .ref xc), (1, .int a1), (2, .int a2), (3, .int a3)]) hx hb dX0_sendOver_188 hl (k := 2) rfl (by rw [ey_39]; rfl) (by decide) rfl (fun ls hl => ?_)
              refine lv_goto (tgt := 30) hx hb dX0_sendOver_191 (by decide) ?_
              exact ih_13 y_39 y_38 f_37 _ _ _ (by omega) (by first | with_reducible assumption | assumption | omega) (by first | with_reducible assumption | assumption | omega) hP hD hS (lv_sub hl [0, 1, 3, 4, 5, 6] rfl)
        · have t_18 : y_17.toInt = a1.toInt := congrArg Int32.toInt c_18
          refine lv_aload_n hx hb dX0_sendOver_61 rfl (lv_at hl 2 rfl) ?_
          refine va_get (ci := 0) (v := .ref xn) (C := RX0) (T := TX0) (N := 9) hx hb hts (fun _ h => List.mem_cons_of_mem _ (List.mem_append_left _ (List.mem_append_right _ h))) hown hK.1 hP 0 rfl rfl 0 (by decide) (hts (.fieldLink RX0 35 "CutAtlas$Current" "net" "LCutAtlas$Net;") (by decide +kernel)) (fun _ h9 => h9) rfl dX0_sendOver_62 ?_
          refine va_get (ci := 3) (v := .ref n3) (C := RX3) (T := TX3) (N := 7) hx hb hts (fun _ h => List.mem_cons_of_mem _ (List.mem_append_right _ h)) hown hK.1 hP 1 rfl rfl 4 (by decide) (hts (.fieldLink RX0 79 "CutAtlas$Net" "ends" "[I") (by decide +kernel)) (fun _ h9 => h9) rfl dX0_sendOver_65 ?_
          refine lv_iload hx hb dX0_sendOver_68 (lv_at hl 0 rfl) ?_
          have h_40 : vp_in x5_13 40 := in_I (by omega) (by omega)
          refine va_iald hx hb hK.1 hP 3 0 rfl rfl (i := x5_13) h_40 dX0_sendOver_70 ?_
          refine lv_topi (fun y_41 ey_41 => ?_)
          refine lv_iload_n hx hb dX0_sendOver_71 rfl (lv_at hl 4 rfl) ?_
          refine lv_icmp_ne (tgt := 119) hx hb dX0_sendOver_72 (by decide) (fun c_42 => ?_) (fun c_42 => ?_)
          · have t_42 : ¬ y_41.toInt = a2.toInt := fun h => c_42 (Int32.toInt_inj.mp h)
            refine lv_aload_n hx hb dX0_sendOver_119 rfl (lv_at hl 2 rfl) ?_
            refine va_get (ci := 0) (v := .ref xn) (C := RX0) (T := TX0) (N := 9) hx hb hts (fun _ h => List.mem_cons_of_mem _ (List.mem_append_left _ (List.mem_append_right _ h))) hown hK.1 hP 0 rfl rfl 0 (by decide) (hts (.fieldLink RX0 35 "CutAtlas$Current" "net" "LCutAtlas$Net;") (by decide +kernel)) (fun _ h9 => h9) rfl dX0_sendOver_120 ?_
            refine va_get (ci := 3) (v := .ref n2) (C := RX3) (T := TX3) (N := 7) hx hb hts (fun _ h => List.mem_cons_of_mem _ (List.mem_append_right _ h)) hown hK.1 hP 1 rfl rfl 3 (by decide) (hts (.fieldLink RX0 76 "CutAtlas$Net" "starts" "[I") (by decide +kernel)) (fun _ h9 => h9) rfl dX0_sendOver_123 ?_
            refine lv_iload hx hb dX0_sendOver_126 (lv_at hl 0 rfl) ?_
            have h_43 : vp_in x5_13 40 := in_I (by omega) (by omega)
            refine va_iald hx hb hK.1 hP 2 0 rfl rfl (i := x5_13) h_43 dX0_sendOver_128 ?_
            refine lv_topi (fun y_44 ey_44 => ?_)
            have e_ := (ey_44.trans ey_17.symm).symm
            subst e_
            skip
            refine lv_iload_n hx hb dX0_sendOver_129 rfl (lv_at hl 4 rfl) ?_
            refine lv_icmp_ne (tgt := 188) hx hb dX0_sendOver_130 (by decide) (fun c_45 => ?_) (fun c_45 => ?_)
            · have t_45 : ¬ y_17.toInt = a2.toInt := fun h => c_45 (Int32.toInt_inj.mp h)
              obtain ⟨y_46, ey_46⟩ : ∃ y : Int32, y = x5_13 + 1 := ⟨_, rfl⟩
              have ty_46 : y_46.toInt = x5_13.toInt + (1 : Int32).toInt := by rw [ey_46]; exact addI (by omega) (by omega)
              refine lv_iinc (v := y_46) (lv' := [(5, .int y_46), (4, .int x4_13), (0, .ref xc), (1, .int a1), (2, .int a2), (3, .int a3)]) hx hb dX0_sendOver_188 hl (k := 0) rfl (by rw [ey_46]; rfl) (by decide) rfl (fun ls hl => ?_)
              refine lv_goto (tgt := 30) hx hb dX0_sendOver_191 (by decide) ?_
              exact ih_13 y_46 x4_13 c_c4_13 _ _ _ (by omega) (by first | with_reducible assumption | assumption | omega) (by first | with_reducible assumption | assumption | omega) hP hD hS (lv_sub hl [0, 1, 2, 3, 4, 5] rfl)
            · have t_45 : y_17.toInt = a2.toInt := congrArg Int32.toInt c_45
              refine lv_aload_n hx hb dX0_sendOver_133 rfl (lv_at hl 2 rfl) ?_
              refine va_get (ci := 0) (v := .ref xn) (C := RX0) (T := TX0) (N := 9) hx hb hts (fun _ h => List.mem_cons_of_mem _ (List.mem_append_left _ (List.mem_append_right _ h))) hown hK.1 hP 0 rfl rfl 0 (by decide) (hts (.fieldLink RX0 35 "CutAtlas$Current" "net" "LCutAtlas$Net;") (by decide +kernel)) (fun _ h9 => h9) rfl dX0_sendOver_134 ?_
              refine va_get (ci := 3) (v := .ref n3) (C := RX3) (T := TX3) (N := 7) hx hb hts (fun _ h => List.mem_cons_of_mem _ (List.mem_append_right _ h)) hown hK.1 hP 1 rfl rfl 4 (by decide) (hts (.fieldLink RX0 79 "CutAtlas$Net" "ends" "[I") (by decide +kernel)) (fun _ h9 => h9) rfl dX0_sendOver_137 ?_
              refine lv_iload hx hb dX0_sendOver_140 (lv_at hl 0 rfl) ?_
              have h_47 : vp_in x5_13 40 := in_I (by omega) (by omega)
              refine va_iald hx hb hK.1 hP 3 0 rfl rfl (i := x5_13) h_47 dX0_sendOver_142 ?_
              refine lv_topi (fun y_48 ey_48 => ?_)
              have e_ := (ey_48.trans ey_41.symm).symm
              subst e_
              skip
              refine lv_iload_n hx hb dX0_sendOver_143 rfl (lv_at hl 3 rfl) ?_
              refine lv_icmp_ne (tgt := 188) hx hb dX0_sendOver_144 (by decide) (fun c_49 => ?_) (fun c_49 => ?_)
              · have t_49 : ¬ y_41.toInt = a1.toInt := fun h => c_49 (Int32.toInt_inj.mp h)
                obtain ⟨y_50, ey_50⟩ : ∃ y : Int32, y = x5_13 + 1 := ⟨_, rfl⟩
                have ty_50 : y_50.toInt = x5_13.toInt + (1 : Int32).toInt := by rw [ey_50]; exact addI (by omega) (by omega)
                refine lv_iinc (v := y_50) (lv' := [(5, .int y_50), (4, .int x4_13), (0, .ref xc), (1, .int a1), (2, .int a2), (3, .int a3)]) hx hb dX0_sendOver_188 hl (k := 0) rfl (by rw [ey_50]; rfl) (by decide) rfl (fun ls hl => ?_)
                refine lv_goto (tgt := 30) hx hb dX0_sendOver_191 (by decide) ?_
                exact ih_13 y_50 x4_13 c_c4_13 _ _ _ (by omega) (by first | with_reducible assumption | assumption | omega) (by first | with_reducible assumption | assumption | omega) hP hD hS (lv_sub hl [0, 1, 2, 3, 4, 5] rfl)
              · have t_49 : y_41.toInt = a1.toInt := congrArg Int32.toInt c_49
                refine lv_iload hx hb dX0_sendOver_147 (lv_at hl 1 rfl) ?_
                refine lv_aload_n hx hb dX0_sendOver_149 rfl (lv_at hl 2 rfl) ?_
                refine va_get (ci := 0) (v := .ref c6) (C := RX0) (T := TX0) (N := 9) hx hb hts (fun _ h => List.mem_cons_of_mem _ (List.mem_append_left _ (List.mem_append_right _ h))) hown hK.1 hP 0 rfl rfl 6 (by decide) (hts (.fieldLink RX0 26 "CutAtlas$Current" "letsBack" "[I") (by decide +kernel)) (fun _ h9 => h9) rfl dX0_sendOver_150 ?_
                refine lv_iload hx hb dX0_sendOver_153 (lv_at hl 0 rfl) ?_
                have h_51 : vp_in x5_13 40 := in_I (by omega) (by omega)
                refine va_iald hx hb hK.1 hP 19 0 rfl rfl (i := x5_13) h_51 dX0_sendOver_155 ?_
                refine lv_topi (fun y_52 ey_52 => ?_)
                refine lv_aload_n hx hb dX0_sendOver_156 rfl (lv_at hl 2 rfl) ?_
                refine va_get (ci := 0) (v := .ref c4) (C := RX0) (T := TX0) (N := 9) hx hb hts (fun _ h => List.mem_cons_of_mem _ (List.mem_append_left _ (List.mem_append_right _ h))) hown hK.1 hP 0 rfl rfl 4 (by decide) (hts (.fieldLink RX0 19 "CutAtlas$Current" "flowing" "[I") (by decide +kernel)) (fun _ h9 => h9) rfl dX0_sendOver_157 ?_
                refine lv_iload hx hb dX0_sendOver_160 (lv_at hl 0 rfl) ?_
                have h_53 : vp_in x5_13 40 := in_I (by omega) (by omega)
                refine va_iald hx hb hK.1 hP 17 0 rfl rfl (i := x5_13) h_53 dX0_sendOver_162 ?_
                refine lv_topi (fun y_54 ey_54 => ?_)
                refine lv_iadd hx hb dX0_sendOver_163 ?_
                refine lv_topi (fun y_55 ey_55 => ?_)
                refine va_mmin hx hb (by rw [hml]; exact hl.1.symm) hown (hts (.methodLink RX0 101 Lib.Math.min.name) (by decide +kernel)) (hts (.static Lib.Math.min.name) (by decide +kernel)) (hts (.initialized "java/lang/Math") (by decide +kernel)) (hts (.code Lib.Math.min.name Lib.Math.min.code 2 (some .int)) (by decide +kernel)) (Nat.le_of_ble_eq_true rfl) (Nat.le_of_ble_eq_true rfl) (Nat.le_of_ble_eq_true rfl) (Nat.le_of_ble_eq_true rfl) dX0_sendOver_164 ?_
                refine lv_topi (fun y_56 ey_56 => ?_)
                have ty_56 : y_56 = x4_13 ∨ y_56 = y_55 := by rw [ey_56]; split <;> simp
                have iy_56 : y_56.toInt = x4_13.toInt ∨ y_56.toInt = y_55.toInt := by rcases ty_56 with h | h <;> rw [h] <;> simp
                refine lv_istore (lv' := [(6, .int y_56), (5, .int x5_13), (4, .int x4_13), (0, .ref xc), (1, .int a1), (2, .int a2), (3, .int a3)]) hx hb dX0_sendOver_167 hl (by decide) rfl (fun ls hl => ?_)
                refine lv_aload_n hx hb dX0_sendOver_169 rfl (lv_at hl 3 rfl) ?_
                refine va_get (ci := 0) (v := .ref c4) (C := RX0) (T := TX0) (N := 9) hx hb hts (fun _ h => List.mem_cons_of_mem _ (List.mem_append_left _ (List.mem_append_right _ h))) hown hK.1 hP 0 rfl rfl 4 (by decide) (hts (.fieldLink RX0 19 "CutAtlas$Current" "flowing" "[I") (by decide +kernel)) (fun _ h9 => h9) rfl dX0_sendOver_170 ?_
                refine lv_iload hx hb dX0_sendOver_173 (lv_at hl 1 rfl) ?_
                refine lv_dup2_11 hx hb dX0_sendOver_175 rfl rfl ?_
                have h_57 : vp_in x5_13 40 := in_I (by omega) (by omega)
                refine va_iald hx hb hK.1 hP 17 0 rfl rfl (i := x5_13) h_57 dX0_sendOver_176 ?_
                refine lv_topi (fun y_58 ey_58 => ?_)
                have e_ := (ey_58.trans ey_54.symm).symm
                subst e_
                skip
                refine lv_iload hx hb dX0_sendOver_177 (lv_at hl 0 rfl) ?_
                refine lv_isub hx hb dX0_sendOver_179 ?_
                refine lv_topi (fun y_59 ey_59 => ?_)
                have h_60 : vp_in x5_13 40 := in_I (by omega) (by omega)
                refine va_iast hx hb hK.1 hP hD hS 17 0 rfl rfl (i := x5_13) h_60 dX0_sendOver_180 (fun H locs hP hD hS => ?_)
                obtain ⟨f_61, ef_61⟩ : ∃ g : Nat → Int32, g = upd c_c4_13 x5_13.toNatClampNeg y_59 := ⟨_, rfl⟩
                have hP : va_P D vwCl [(xc, .inr (0, [.ref xn, .ref xk, .ref clo, .ref cro, .ref c4, .ref c5, .ref c6, .ref c7, .ref c8])), (xn, .inr (3, [.int vp, .int vn, .ref n1, .ref n2, .ref n3, .ref n4, .ref n5])), (n2, .inl (cy 0, 40, .inl fs)), (n3, .inl (cy 0, 40, .inl fe)), (cro, .inl (cy 6, 12, .inr (.inr (.inr (.inr (gf_ rr)))))), ((rr 0), .inl (cy 0, 12, .inl (M_12 0))), ((rr 1), .inl (cy 0, 12, .inl (M_12 1))), ((rr 2), .inl (cy 0, 12, .inl (M_12 2))), ((rr 3), .inl (cy 0, 12, .inl (M_12 3))), ((rr 4), .inl (cy 0, 12, .inl (M_12 4))), ((rr 5), .inl (cy 0, 12, .inl (M_12 5))), ((rr 6), .inl (cy 0, 12, .inl (M_12 6))), ((rr 7), .inl (cy 0, 12, .inl (M_12 7))), ((rr 8), .inl (cy 0, 12, .inl (M_12 8))), ((rr 9), .inl (cy 0, 12, .inl (M_12 9))), ((rr 10), .inl (cy 0, 12, .inl (M_12 10))), ((rr 11), .inl (cy 0, 12, .inl (M_12 11))), (c4, .inl (cy 0, 40, .inl f_61)), (c5, .inl (cy 0, 40, .inl f5)), (c6, .inl (cy 0, 40, .inl f6))] H := by rw [ef_61]; exact hP
                have hD : va_D A [(xc, .inr (0, [.ref xn, .ref xk, .ref clo, .ref cro, .ref c4, .ref c5, .ref c6, .ref c7, .ref c8])), (xn, .inr (3, [.int vp, .int vn, .ref n1, .ref n2, .ref n3, .ref n4, .ref n5])), (n2, .inl (cy 0, 40, .inl fs)), (n3, .inl (cy 0, 40, .inl fe)), (cro, .inl (cy 6, 12, .inr (.inr (.inr (.inr (gf_ rr)))))), ((rr 0), .inl (cy 0, 12, .inl (M_12 0))), ((rr 1), .inl (cy 0, 12, .inl (M_12 1))), ((rr 2), .inl (cy 0, 12, .inl (M_12 2))), ((rr 3), .inl (cy 0, 12, .inl (M_12 3))), ((rr 4), .inl (cy 0, 12, .inl (M_12 4))), ((rr 5), .inl (cy 0, 12, .inl (M_12 5))), ((rr 6), .inl (cy 0, 12, .inl (M_12 6))), ((rr 7), .inl (cy 0, 12, .inl (M_12 7))), ((rr 8), .inl (cy 0, 12, .inl (M_12 8))), ((rr 9), .inl (cy 0, 12, .inl (M_12 9))), ((rr 10), .inl (cy 0, 12, .inl (M_12 10))), ((rr 11), .inl (cy 0, 12, .inl (M_12 11))), (c4, .inl (cy 0, 40, .inl f_61)), (c5, .inl (cy 0, 40, .inl f5)), (c6, .inl (cy 0, 40, .inl f6))] := by rw [ef_61]; exact hD
                refine lv_iload hx hb dX0_sendOver_181 (lv_at hl 2 rfl) ?_
                refine lv_iload hx hb dX0_sendOver_183 (lv_at hl 0 rfl) ?_
                refine lv_isub hx hb dX0_sendOver_185 ?_
                refine lv_topi (fun y_62 ey_62 => ?_)
                refine lv_istore (lv' := [(4, .int y_62), (6, .int y_56), (5, .int x5_13), (0, .ref xc), (1, .int a1), (2, .int a2), (3, .int a3)]) hx hb dX0_sendOver_186 hl (by decide) rfl (fun ls hl => ?_)
                obtain ⟨y_63, ey_63⟩ : ∃ y : Int32, y = x5_13 + 1 := ⟨_, rfl⟩
                have ty_63 : y_63.toInt = x5_13.toInt + (1 : Int32).toInt := by rw [ey_63]; exact addI (by omega) (by omega)
                refine lv_iinc (v := y_63) (lv' := [(5, .int y_63), (4, .int y_62), (6, .int y_56), (0, .ref xc), (1, .int a1), (2, .int a2), (3, .int a3)]) hx hb dX0_sendOver_188 hl (k := 2) rfl (by rw [ey_63]; rfl) (by decide) rfl (fun ls hl => ?_)
                refine lv_goto (tgt := 30) hx hb dX0_sendOver_191 (by decide) ?_
                exact ih_13 y_63 y_62 f_61 _ _ _ (by omega) (by first | with_reducible assumption | assumption | omega) (by first | with_reducible assumption | assumption | omega) hP hD hS (lv_sub hl [0, 1, 3, 4, 5, 6] rfl)
          · have t_42 : y_41.toInt = a2.toInt := congrArg Int32.toInt c_42
            refine lv_iload hx hb dX0_sendOver_75 (lv_at hl 1 rfl) ?_
            refine lv_aload_n hx hb dX0_sendOver_77 rfl (lv_at hl 2 rfl) ?_
            refine va_get (ci := 0) (v := .ref c5) (C := RX0) (T := TX0) (N := 9) hx hb hts (fun _ h => List.mem_cons_of_mem _ (List.mem_append_left _ (List.mem_append_right _ h))) hown hK.1 hP 0 rfl rfl 5 (by decide) (hts (.fieldLink RX0 23 "CutAtlas$Current" "letsForth" "[I") (by decide +kernel)) (fun _ h9 => h9) rfl dX0_sendOver_78 ?_
            refine lv_iload hx hb dX0_sendOver_81 (lv_at hl 0 rfl) ?_
            have h_64 : vp_in x5_13 40 := in_I (by omega) (by omega)
            refine va_iald hx hb hK.1 hP 18 0 rfl rfl (i := x5_13) h_64 dX0_sendOver_83 ?_
            refine lv_topi (fun y_65 ey_65 => ?_)
            refine lv_aload_n hx hb dX0_sendOver_84 rfl (lv_at hl 2 rfl) ?_
            refine va_get (ci := 0) (v := .ref c4) (C := RX0) (T := TX0) (N := 9) hx hb hts (fun _ h => List.mem_cons_of_mem _ (List.mem_append_left _ (List.mem_append_right _ h))) hown hK.1 hP 0 rfl rfl 4 (by decide) (hts (.fieldLink RX0 19 "CutAtlas$Current" "flowing" "[I") (by decide +kernel)) (fun _ h9 => h9) rfl dX0_sendOver_85 ?_
            refine lv_iload hx hb dX0_sendOver_88 (lv_at hl 0 rfl) ?_
            have h_66 : vp_in x5_13 40 := in_I (by omega) (by omega)
            refine va_iald hx hb hK.1 hP 17 0 rfl rfl (i := x5_13) h_66 dX0_sendOver_90 ?_
            refine lv_topi (fun y_67 ey_67 => ?_)
            refine lv_isub hx hb dX0_sendOver_91 ?_
            refine lv_topi (fun y_68 ey_68 => ?_)
            refine va_mmin hx hb (by rw [hml]; exact hl.1.symm) hown (hts (.methodLink RX0 101 Lib.Math.min.name) (by decide +kernel)) (hts (.static Lib.Math.min.name) (by decide +kernel)) (hts (.initialized "java/lang/Math") (by decide +kernel)) (hts (.code Lib.Math.min.name Lib.Math.min.code 2 (some .int)) (by decide +kernel)) (Nat.le_of_ble_eq_true rfl) (Nat.le_of_ble_eq_true rfl) (Nat.le_of_ble_eq_true rfl) (Nat.le_of_ble_eq_true rfl) dX0_sendOver_92 ?_
            refine lv_topi (fun y_69 ey_69 => ?_)
            have ty_69 : y_69 = x4_13 ∨ y_69 = y_68 := by rw [ey_69]; split <;> simp
            have iy_69 : y_69.toInt = x4_13.toInt ∨ y_69.toInt = y_68.toInt := by rcases ty_69 with h | h <;> rw [h] <;> simp
            refine lv_istore (lv' := [(6, .int y_69), (5, .int x5_13), (4, .int x4_13), (0, .ref xc), (1, .int a1), (2, .int a2), (3, .int a3)]) hx hb dX0_sendOver_95 hl (by decide) rfl (fun ls hl => ?_)
            refine lv_aload_n hx hb dX0_sendOver_97 rfl (lv_at hl 3 rfl) ?_
            refine va_get (ci := 0) (v := .ref c4) (C := RX0) (T := TX0) (N := 9) hx hb hts (fun _ h => List.mem_cons_of_mem _ (List.mem_append_left _ (List.mem_append_right _ h))) hown hK.1 hP 0 rfl rfl 4 (by decide) (hts (.fieldLink RX0 19 "CutAtlas$Current" "flowing" "[I") (by decide +kernel)) (fun _ h9 => h9) rfl dX0_sendOver_98 ?_
            refine lv_iload hx hb dX0_sendOver_101 (lv_at hl 1 rfl) ?_
            refine lv_dup2_11 hx hb dX0_sendOver_103 rfl rfl ?_
            have h_70 : vp_in x5_13 40 := in_I (by omega) (by omega)
            refine va_iald hx hb hK.1 hP 17 0 rfl rfl (i := x5_13) h_70 dX0_sendOver_104 ?_
            refine lv_topi (fun y_71 ey_71 => ?_)
            have e_ := (ey_71.trans ey_67.symm).symm
            subst e_
            skip
            refine lv_iload hx hb dX0_sendOver_105 (lv_at hl 0 rfl) ?_
            refine lv_iadd hx hb dX0_sendOver_107 ?_
            refine lv_topi (fun y_72 ey_72 => ?_)
            have h_73 : vp_in x5_13 40 := in_I (by omega) (by omega)
            refine va_iast hx hb hK.1 hP hD hS 17 0 rfl rfl (i := x5_13) h_73 dX0_sendOver_108 (fun H locs hP hD hS => ?_)
            obtain ⟨f_74, ef_74⟩ : ∃ g : Nat → Int32, g = upd c_c4_13 x5_13.toNatClampNeg y_72 := ⟨_, rfl⟩
            have hP : va_P D vwCl [(xc, .inr (0, [.ref xn, .ref xk, .ref clo, .ref cro, .ref c4, .ref c5, .ref c6, .ref c7, .ref c8])), (xn, .inr (3, [.int vp, .int vn, .ref n1, .ref n2, .ref n3, .ref n4, .ref n5])), (n2, .inl (cy 0, 40, .inl fs)), (n3, .inl (cy 0, 40, .inl fe)), (cro, .inl (cy 6, 12, .inr (.inr (.inr (.inr (gf_ rr)))))), ((rr 0), .inl (cy 0, 12, .inl (M_12 0))), ((rr 1), .inl (cy 0, 12, .inl (M_12 1))), ((rr 2), .inl (cy 0, 12, .inl (M_12 2))), ((rr 3), .inl (cy 0, 12, .inl (M_12 3))), ((rr 4), .inl (cy 0, 12, .inl (M_12 4))), ((rr 5), .inl (cy 0, 12, .inl (M_12 5))), ((rr 6), .inl (cy 0, 12, .inl (M_12 6))), ((rr 7), .inl (cy 0, 12, .inl (M_12 7))), ((rr 8), .inl (cy 0, 12, .inl (M_12 8))), ((rr 9), .inl (cy 0, 12, .inl (M_12 9))), ((rr 10), .inl (cy 0, 12, .inl (M_12 10))), ((rr 11), .inl (cy 0, 12, .inl (M_12 11))), (c4, .inl (cy 0, 40, .inl f_74)), (c5, .inl (cy 0, 40, .inl f5)), (c6, .inl (cy 0, 40, .inl f6))] H := by rw [ef_74]; exact hP
            have hD : va_D A [(xc, .inr (0, [.ref xn, .ref xk, .ref clo, .ref cro, .ref c4, .ref c5, .ref c6, .ref c7, .ref c8])), (xn, .inr (3, [.int vp, .int vn, .ref n1, .ref n2, .ref n3, .ref n4, .ref n5])), (n2, .inl (cy 0, 40, .inl fs)), (n3, .inl (cy 0, 40, .inl fe)), (cro, .inl (cy 6, 12, .inr (.inr (.inr (.inr (gf_ rr)))))), ((rr 0), .inl (cy 0, 12, .inl (M_12 0))), ((rr 1), .inl (cy 0, 12, .inl (M_12 1))), ((rr 2), .inl (cy 0, 12, .inl (M_12 2))), ((rr 3), .inl (cy 0, 12, .inl (M_12 3))), ((rr 4), .inl (cy 0, 12, .inl (M_12 4))), ((rr 5), .inl (cy 0, 12, .inl (M_12 5))), ((rr 6), .inl (cy 0, 12, .inl (M_12 6))), ((rr 7), .inl (cy 0, 12, .inl (M_12 7))), ((rr 8), .inl (cy 0, 12, .inl (M_12 8))), ((rr 9), .inl (cy 0, 12, .inl (M_12 9))), ((rr 10), .inl (cy 0, 12, .inl (M_12 10))), ((rr 11), .inl (cy 0, 12, .inl (M_12 11))), (c4, .inl (cy 0, 40, .inl f_74)), (c5, .inl (cy 0, 40, .inl f5)), (c6, .inl (cy 0, 40, .inl f6))] := by rw [ef_74]; exact hD
            refine lv_iload hx hb dX0_sendOver_109 (lv_at hl 2 rfl) ?_
            refine lv_iload hx hb dX0_sendOver_111 (lv_at hl 0 rfl) ?_
            refine lv_isub hx hb dX0_sendOver_113 ?_
            refine lv_topi (fun y_75 ey_75 => ?_)
            refine lv_istore (lv' := [(4, .int y_75), (6, .int y_69), (5, .int x5_13), (0, .ref xc), (1, .int a1), (2, .int a2), (3, .int a3)]) hx hb dX0_sendOver_114 hl (by decide) rfl (fun ls hl => ?_)
            refine lv_goto (tgt := 188) hx hb dX0_sendOver_116 (by decide) ?_
            obtain ⟨y_76, ey_76⟩ : ∃ y : Int32, y = x5_13 + 1 := ⟨_, rfl⟩
            have ty_76 : y_76.toInt = x5_13.toInt + (1 : Int32).toInt := by rw [ey_76]; exact addI (by omega) (by omega)
            refine lv_iinc (v := y_76) (lv' := [(5, .int y_76), (4, .int y_75), (6, .int y_69), (0, .ref xc), (1, .int a1), (2, .int a2), (3, .int a3)]) hx hb dX0_sendOver_188 hl (k := 2) rfl (by rw [ey_76]; rfl) (by decide) rfl (fun ls hl => ?_)
            refine lv_goto (tgt := 30) hx hb dX0_sendOver_191 (by decide) ?_
            exact ih_13 y_76 y_75 f_74 _ _ _ (by omega) (by first | with_reducible assumption | assumption | omega) (by first | with_reducible assumption | assumption | omega) hP hD hS (lv_sub hl [0, 1, 3, 4, 5, 6] rfl)
