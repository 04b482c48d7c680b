section
set_option maxHeartbeats 4000000 in
set_option maxRecDepth 100000 in
theorem c_X0_sendOver (l : Launch) (D : va_G) (cy : Nat → ClassId) (sz : Nat) (xc : Nat) (xk : Nat) (clo : Nat) (cro : Nat) (c4 : Nat) (c5 : Nat) (c6 : Nat) (c7 : Nat) (c8 : Nat) (xn : Nat) (n1 : Nat) (n2 : Nat) (n3 : Nat) (n4 : Nat) (n5 : Nat) (vp : Int32) (vn : Int32) (fs : Nat → Int32) (fe : Nat → Int32) (rr : Nat → Nat) (Mr : Nat → Nat → Int32) (f4 : Nat → Int32) (f5 : Nat → Int32) (f6 : Nat → Int32) (a1 : Int32) (a2 : Int32) (a3 : Int32) (hvn : 0 ≤ vn.toInt ∧ vn.toInt ≤ 40) (q1 : 0 ≤ a1.toInt ∧ a1.toInt ≤ 11) (q2 : 0 ≤ a2.toInt ∧ a2.toInt ≤ 11) : Met l yX0_sendOver wsX0_sendOver ({ frames := 1, cells := 0, slots := 0, locals := 13 }) (va_Pc [.ref xc, .int a1, .int a2, .int a3] (fun U => U.heap.size = sz ∧ va_P D vwCl [(xc, .inr (0, [.ref xn, .ref xk, .ref clo, .ref cro, .ref c4, .ref c5, .ref c6, .ref c7, .ref c8])), (xn, .inr (3, [.int vp, .int vn, .ref n1, .ref n2, .ref n3, .ref n4, .ref n5])), (n2, .inl (cy 0, 40, .inl fs)), (n3, .inl (cy 0, 40, .inl fe)), (cro, .inl (cy 6, 12, .inr (.inr (.inr (.inr (gf_ rr)))))), ((rr 0), .inl (cy 0, 12, .inl (Mr 0))), ((rr 1), .inl (cy 0, 12, .inl (Mr 1))), ((rr 2), .inl (cy 0, 12, .inl (Mr 2))), ((rr 3), .inl (cy 0, 12, .inl (Mr 3))), ((rr 4), .inl (cy 0, 12, .inl (Mr 4))), ((rr 5), .inl (cy 0, 12, .inl (Mr 5))), ((rr 6), .inl (cy 0, 12, .inl (Mr 6))), ((rr 7), .inl (cy 0, 12, .inl (Mr 7))), ((rr 8), .inl (cy 0, 12, .inl (Mr 8))), ((rr 9), .inl (cy 0, 12, .inl (Mr 9))), ((rr 10), .inl (cy 0, 12, .inl (Mr 10))), ((rr 11), .inl (cy 0, 12, .inl (Mr 11))), (c4, .inl (cy 0, 40, .inl f4)), (c5, .inl (cy 0, 40, .inl f5)), (c6, .inl (cy 0, 40, .inl f6))] U.heap ∧ kg_ D cy U ∧ va_D (fun _ => True) [(xc, .inr (0, [.ref xn, .ref xk, .ref clo, .ref cro, .ref c4, .ref c5, .ref c6, .ref c7, .ref c8])), (xn, .inr (3, [.int vp, .int vn, .ref n1, .ref n2, .ref n3, .ref n4, .ref n5])), (n2, .inl (cy 0, 40, .inl fs)), (n3, .inl (cy 0, 40, .inl fe)), (cro, .inl (cy 6, 12, .inr (.inr (.inr (.inr (gf_ rr)))))), ((rr 0), .inl (cy 0, 12, .inl (Mr 0))), ((rr 1), .inl (cy 0, 12, .inl (Mr 1))), ((rr 2), .inl (cy 0, 12, .inl (Mr 2))), ((rr 3), .inl (cy 0, 12, .inl (Mr 3))), ((rr 4), .inl (cy 0, 12, .inl (Mr 4))), ((rr 5), .inl (cy 0, 12, .inl (Mr 5))), ((rr 6), .inl (cy 0, 12, .inl (Mr 6))), ((rr 7), .inl (cy 0, 12, .inl (Mr 7))), ((rr 8), .inl (cy 0, 12, .inl (Mr 8))), ((rr 9), .inl (cy 0, 12, .inl (Mr 9))), ((rr 10), .inl (cy 0, 12, .inl (Mr 10))), ((rr 11), .inl (cy 0, 12, .inl (Mr 11))), (c4, .inl (cy 0, 40, .inl f4)), (c5, .inl (cy 0, 40, .inl f5)), (c6, .inl (cy 0, 40, .inl f6))])) (va_Qv (fun (_ : Unit) => True) (fun (_ : Unit) (t : State) => ∃ (eMr : Nat → Nat → Int32), ∃ (e4 : Nat → Int32), va_P D vwCl [(xc, .inr (0, [.ref xn, .ref xk, .ref clo, .ref cro, .ref c4, .ref c5, .ref c6, .ref c7, .ref c8])), (xn, .inr (3, [.int vp, .int vn, .ref n1, .ref n2, .ref n3, .ref n4, .ref n5])), (n2, .inl (cy 0, 40, .inl fs)), (n3, .inl (cy 0, 40, .inl fe)), (cro, .inl (cy 6, 12, .inr (.inr (.inr (.inr (gf_ rr)))))), ((rr 0), .inl (cy 0, 12, .inl (eMr 0))), ((rr 1), .inl (cy 0, 12, .inl (eMr 1))), ((rr 2), .inl (cy 0, 12, .inl (eMr 2))), ((rr 3), .inl (cy 0, 12, .inl (eMr 3))), ((rr 4), .inl (cy 0, 12, .inl (eMr 4))), ((rr 5), .inl (cy 0, 12, .inl (eMr 5))), ((rr 6), .inl (cy 0, 12, .inl (eMr 6))), ((rr 7), .inl (cy 0, 12, .inl (eMr 7))), ((rr 8), .inl (cy 0, 12, .inl (eMr 8))), ((rr 9), .inl (cy 0, 12, .inl (eMr 9))), ((rr 10), .inl (cy 0, 12, .inl (eMr 10))), ((rr 11), .inl (cy 0, 12, .inl (eMr 11))), (c4, .inl (cy 0, 40, .inl e4)), (c5, .inl (cy 0, 40, .inl f5)), (c6, .inl (cy 0, 40, .inl f6))] t.heap ∧ va_D (va_A [(xc, .inr (0, [.ref xn, .ref xk, .ref clo, .ref cro, .ref c4, .ref c5, .ref c6, .ref c7, .ref c8])), (xn, .inr (3, [.int vp, .int vn, .ref n1, .ref n2, .ref n3, .ref n4, .ref n5])), (n2, .inl (cy 0, 40, .inl fs)), (n3, .inl (cy 0, 40, .inl fe)), (cro, .inl (cy 6, 12, .inr (.inr (.inr (.inr (gf_ rr)))))), ((rr 0), .inl (cy 0, 12, .inl (Mr 0))), ((rr 1), .inl (cy 0, 12, .inl (Mr 1))), ((rr 2), .inl (cy 0, 12, .inl (Mr 2))), ((rr 3), .inl (cy 0, 12, .inl (Mr 3))), ((rr 4), .inl (cy 0, 12, .inl (Mr 4))), ((rr 5), .inl (cy 0, 12, .inl (Mr 5))), ((rr 6), .inl (cy 0, 12, .inl (Mr 6))), ((rr 7), .inl (cy 0, 12, .inl (Mr 7))), ((rr 8), .inl (cy 0, 12, .inl (Mr 8))), ((rr 9), .inl (cy 0, 12, .inl (Mr 9))), ((rr 10), .inl (cy 0, 12, .inl (Mr 10))), ((rr 11), .inl (cy 0, 12, .inl (Mr 11))), (c4, .inl (cy 0, 40, .inl f4)), (c5, .inl (cy 0, 40, .inl f5)), (c6, .inl (cy 0, 40, .inl f6))] sz) [(xc, .inr (0, [.ref xn, .ref xk, .ref clo, .ref cro, .ref c4, .ref c5, .ref c6, .ref c7, .ref c8])), (xn, .inr (3, [.int vp, .int vn, .ref n1, .ref n2, .ref n3, .ref n4, .ref n5])), (n2, .inl (cy 0, 40, .inl fs)), (n3, .inl (cy 0, 40, .inl fe)), (cro, .inl (cy 6, 12, .inr (.inr (.inr (.inr (gf_ rr)))))), ((rr 0), .inl (cy 0, 12, .inl (eMr 0))), ((rr 1), .inl (cy 0, 12, .inl (eMr 1))), ((rr 2), .inl (cy 0, 12, .inl (eMr 2))), ((rr 3), .inl (cy 0, 12, .inl (eMr 3))), ((rr 4), .inl (cy 0, 12, .inl (eMr 4))), ((rr 5), .inl (cy 0, 12, .inl (eMr 5))), ((rr 6), .inl (cy 0, 12, .inl (eMr 6))), ((rr 7), .inl (cy 0, 12, .inl (eMr 7))), ((rr 8), .inl (cy 0, 12, .inl (eMr 8))), ((rr 9), .inl (cy 0, 12, .inl (eMr 9))), ((rr 10), .inl (cy 0, 12, .inl (eMr 10))), ((rr 11), .inl (cy 0, 12, .inl (eMr 11))), (c4, .inl (cy 0, 40, .inl e4)), (c5, .inl (cy 0, 40, .inl f5)), (c6, .inl (cy 0, 40, .inl f6))]) (va_A [(xc, .inr (0, [.ref xn, .ref xk, .ref clo, .ref cro, .ref c4, .ref c5, .ref c6, .ref c7, .ref c8])), (xn, .inr (3, [.int vp, .int vn, .ref n1, .ref n2, .ref n3, .ref n4, .ref n5])), (n2, .inl (cy 0, 40, .inl fs)), (n3, .inl (cy 0, 40, .inl fe)), (cro, .inl (cy 6, 12, .inr (.inr (.inr (.inr (gf_ rr)))))), ((rr 0), .inl (cy 0, 12, .inl (Mr 0))), ((rr 1), .inl (cy 0, 12, .inl (Mr 1))), ((rr 2), .inl (cy 0, 12, .inl (Mr 2))), ((rr 3), .inl (cy 0, 12, .inl (Mr 3))), ((rr 4), .inl (cy 0, 12, .inl (Mr 4))), ((rr 5), .inl (cy 0, 12, .inl (Mr 5))), ((rr 6), .inl (cy 0, 12, .inl (Mr 6))), ((rr 7), .inl (cy 0, 12, .inl (Mr 7))), ((rr 8), .inl (cy 0, 12, .inl (Mr 8))), ((rr 9), .inl (cy 0, 12, .inl (Mr 9))), ((rr 10), .inl (cy 0, 12, .inl (Mr 10))), ((rr 11), .inl (cy 0, 12, .inl (Mr 11))), (c4, .inl (cy 0, 40, .inl f4)), (c5, .inl (cy 0, 40, .inl f5)), (c6, .inl (cy 0, 40, .inl f6))] sz)) 0 0 (va_A [(xc, .inr (0, [.ref xn, .ref xk, .ref clo, .ref cro, .ref c4, .ref c5, .ref c6, .ref c7, .ref c8])), (xn, .inr (3, [.int vp, .int vn, .ref n1, .ref n2, .ref n3, .ref n4, .ref n5])), (n2, .inl (cy 0, 40, .inl fs)), (n3, .inl (cy 0, 40, .inl fe)), (cro, .inl (cy 6, 12, .inr (.inr (.inr (.inr (gf_ rr)))))), ((rr 0), .inl (cy 0, 12, .inl (Mr 0))), ((rr 1), .inl (cy 0, 12, .inl (Mr 1))), ((rr 2), .inl (cy 0, 12, .inl (Mr 2))), ((rr 3), .inl (cy 0, 12, .inl (Mr 3))), ((rr 4), .inl (cy 0, 12, .inl (Mr 4))), ((rr 5), .inl (cy 0, 12, .inl (Mr 5))), ((rr 6), .inl (cy 0, 12, .inl (Mr 6))), ((rr 7), .inl (cy 0, 12, .inl (Mr 7))), ((rr 8), .inl (cy 0, 12, .inl (Mr 8))), ((rr 9), .inl (cy 0, 12, .inl (Mr 9))), ((rr 10), .inl (cy 0, 12, .inl (Mr 10))), ((rr 11), .inl (cy 0, 12, .inl (Mr 11))), (c4, .inl (cy 0, 40, .inl f4)), (c5, .inl (cy 0, 40, .inl f5)), (c6, .inl (cy 0, 40, .inl f6))] sz) := by
  refine ofQ (cc := cX0_sendOver) (maxL := 7) (ret := none) (by decide) rfl ?_
  intro p e s m args below meth c s₁ Q hQ B hml hv
  obtain ⟨rfl, hsz, hP, hK, hD0⟩ := hv
  have hG := hK.2
  have hK := hK.1
  have hx := B.exec
  have hb := B.bytes
  have hr := B.returns
  have hts := atoms_spec (ws := wsX0_sendOver) B.pre
  have hown : s.vm.findClass RX0 = some m.cls := by have h_ := findClass_of_methodNamed B.named; exact h_
  have hlocks := B.notSynchronized
  subst hsz
  have hD := hD0.self (sz := s.heap.size)
  generalize hAe : va_A [(xc, .inr (0, [.ref xn, .ref xk, .ref clo, .ref cro, .ref c4, .ref c5, .ref c6, .ref c7, .ref c8])), (xn, .inr (3, [.int vp, .int vn, .ref n1, .ref n2, .ref n3, .ref n4, .ref n5])), (n2, .inl (cy 0, 40, .inl fs)), (n3, .inl (cy 0, 40, .inl fe)), (cro, .inl (cy 6, 12, .inr (.inr (.inr (.inr (gf_ rr)))))), ((rr 0), .inl (cy 0, 12, .inl (Mr 0))), ((rr 1), .inl (cy 0, 12, .inl (Mr 1))), ((rr 2), .inl (cy 0, 12, .inl (Mr 2))), ((rr 3), .inl (cy 0, 12, .inl (Mr 3))), ((rr 4), .inl (cy 0, 12, .inl (Mr 4))), ((rr 5), .inl (cy 0, 12, .inl (Mr 5))), ((rr 6), .inl (cy 0, 12, .inl (Mr 6))), ((rr 7), .inl (cy 0, 12, .inl (Mr 7))), ((rr 8), .inl (cy 0, 12, .inl (Mr 8))), ((rr 9), .inl (cy 0, 12, .inl (Mr 9))), ((rr 10), .inl (cy 0, 12, .inl (Mr 10))), ((rr 11), .inl (cy 0, 12, .inl (Mr 11))), (c4, .inl (cy 0, 40, .inl f4)), (c5, .inl (cy 0, 40, .inl f5)), (c6, .inl (cy 0, 40, .inl f6))] s.heap.size = A at hD hQ
  have hA : ∀ q : Nat, s.heap.size ≤ q → A q := fun q h => by rw [← hAe]; exact Or.inr h
  have hS : va_S A s.heap s.heap [] := va_S.rf
  have hl := lv_entry ([.ref xc, .int a1, .int a2, .int a3]) (n := 7) (Nat.le_of_ble_eq_true rfl)
  rw [lg_entry_eq]
  generalize (lg_sl ([.ref xc, .int a1, .int a2, .int a3]) ++ List.replicate (7 - (lg_sl ([.ref xc, .int a1, .int a2, .int a3])).length) Slot.unset).toArray = ls at hl ⊢
  have hl : lv_has ls 7 [(0, .ref xc), (1, .int a1), (2, .int a2), (3, .int a3)] := hl
  have z0 : (0 : Int32).toInt = 0 := by decide
  have z1 : (1 : Int32).toInt = 1 := by decide
  refine lv_aload_n hx hb dX0_sendOver_0 rfl (lv_at hl 0 rfl) ?_
  refine va_get (ci := 0) (v := .ref cro) (C := RX0) (T := TX0) (N := 9) hx hb hts (fun _ h => List.mem_cons_of_mem _ (List.mem_append_left _ (List.mem_append_right _ h))) hown hK.1 hP 0 rfl rfl 3 (by decide) (hts (.fieldLink RX0 16 "CutAtlas$Current" "room" "[[I") (by decide +kernel)) (fun _ h9 => h9) rfl dX0_sendOver_1 ?_
  refine lv_iload_n hx hb dX0_sendOver_4 rfl (lv_at hl 1 rfl) ?_
  have h_1 : vp_in a1 12 := in_I (by omega) (by omega)
  refine va_alda hx hb hG hP 4 rfl (i := a1) h_1 dX0_sendOver_5 ?_
  refine lv_topv (v' := .ref (rr a1.toNatClampNeg)) (gf_at h_1) ?_
  refine lv_iload_n hx hb dX0_sendOver_6 rfl (lv_at hl 2 rfl) ?_
  refine lv_dup2_11 hx hb dX0_sendOver_7 rfl rfl ?_
  have h_2 : vp_in a2 12 := in_I (by omega) (by omega)
  have hPg : va_P D vwCl (([(xc, .inr (0, [.ref xn, .ref xk, .ref clo, .ref cro, .ref c4, .ref c5, .ref c6, .ref c7, .ref c8])), (xn, .inr (3, [.int vp, .int vn, .ref n1, .ref n2, .ref n3, .ref n4, .ref n5])), (n2, .inl (cy 0, 40, .inl fs)), (n3, .inl (cy 0, 40, .inl fe)), (cro, .inl (cy 6, 12, .inr (.inr (.inr (.inr (gf_ rr))))))] : va_W) ++ (gro (cy 0) rr Mr ++ ([(c4, .inl (cy 0, 40, .inl f4)), (c5, .inl (cy 0, 40, .inl f5)), (c6, .inl (cy 0, 40, .inl f6))] : va_W))) s.heap := hP
  refine va_gld (X := [(xc, .inr (0, [.ref xn, .ref xk, .ref clo, .ref cro, .ref c4, .ref c5, .ref c6, .ref c7, .ref c8])), (xn, .inr (3, [.int vp, .int vn, .ref n1, .ref n2, .ref n3, .ref n4, .ref n5])), (n2, .inl (cy 0, 40, .inl fs)), (n3, .inl (cy 0, 40, .inl fe)), (cro, .inl (cy 6, 12, .inr (.inr (.inr (.inr (gf_ rr))))))]) (Y := [(c4, .inl (cy 0, 40, .inl f4)), (c5, .inl (cy 0, 40, .inl f5)), (c6, .inl (cy 0, 40, .inl f6))]) (r := rr) (M := Mr) (k := a1.toNatClampNeg) hx hb hK.1 hPg 0 rfl (in_lt h_1) (i := a2) h_2 dX0_sendOver_8 ?_
  refine lv_topi (fun y_3 ey_3 => ?_)
  refine lv_iload_n hx hb dX0_sendOver_9 rfl (lv_at hl 3 rfl) ?_
  refine lv_isub hx hb dX0_sendOver_10 ?_
  refine lv_topi (fun y_4 ey_4 => ?_)
  have h_5 : vp_in a2 12 := in_I (by omega) (by omega)
  have hPg : va_P D vwCl (([(xc, .inr (0, [.ref xn, .ref xk, .ref clo, .ref cro, .ref c4, .ref c5, .ref c6, .ref c7, .ref c8])), (xn, .inr (3, [.int vp, .int vn, .ref n1, .ref n2, .ref n3, .ref n4, .ref n5])), (n2, .inl (cy 0, 40, .inl fs)), (n3, .inl (cy 0, 40, .inl fe)), (cro, .inl (cy 6, 12, .inr (.inr (.inr (.inr (gf_ rr))))))] : va_W) ++ (gro (cy 0) rr Mr ++ ([(c4, .inl (cy 0, 40, .inl f4)), (c5, .inl (cy 0, 40, .inl f5)), (c6, .inl (cy 0, 40, .inl f6))] : va_W))) s.heap := hP
  have hDg : va_D A (([(xc, .inr (0, [.ref xn, .ref xk, .ref clo, .ref cro, .ref c4, .ref c5, .ref c6, .ref c7, .ref c8])), (xn, .inr (3, [.int vp, .int vn, .ref n1, .ref n2, .ref n3, .ref n4, .ref n5])), (n2, .inl (cy 0, 40, .inl fs)), (n3, .inl (cy 0, 40, .inl fe)), (cro, .inl (cy 6, 12, .inr (.inr (.inr (.inr (gf_ rr))))))] : va_W) ++ (gro (cy 0) rr Mr ++ ([(c4, .inl (cy 0, 40, .inl f4)), (c5, .inl (cy 0, 40, .inl f5)), (c6, .inl (cy 0, 40, .inl f6))] : va_W))) := hD
  refine va_gst (X := [(xc, .inr (0, [.ref xn, .ref xk, .ref clo, .ref cro, .ref c4, .ref c5, .ref c6, .ref c7, .ref c8])), (xn, .inr (3, [.int vp, .int vn, .ref n1, .ref n2, .ref n3, .ref n4, .ref n5])), (n2, .inl (cy 0, 40, .inl fs)), (n3, .inl (cy 0, 40, .inl fe)), (cro, .inl (cy 6, 12, .inr (.inr (.inr (.inr (gf_ rr))))))]) (Y := [(c4, .inl (cy 0, 40, .inl f4)), (c5, .inl (cy 0, 40, .inl f5)), (c6, .inl (cy 0, 40, .inl f6))]) (r := rr) (M := Mr) (k := a1.toNatClampNeg) hx hb hK.1 hPg hDg hS 0 rfl (in_lt h_1) (i := a2) h_5 dX0_sendOver_11 (fun H locs hP hD hS => ?_)
  obtain ⟨M_6, eM_6⟩ : ∃ g : Nat → Nat → Int32, g = va_up Mr a1.toNatClampNeg (upd (Mr a1.toNatClampNeg) a2.toNatClampNeg y_4) := ⟨_, rfl⟩
  refine pd_K (D := D) (cl := vwCl) (H := H) (A := A) [(xc, .inr (0, [.ref xn, .ref xk, .ref clo, .ref cro, .ref c4, .ref c5, .ref c6, .ref c7, .ref c8])), (xn, .inr (3, [.int vp, .int vn, .ref n1, .ref n2, .ref n3, .ref n4, .ref n5])), (n2, .inl (cy 0, 40, .inl fs)), (n3, .inl (cy 0, 40, .inl fe)), (cro, .inl (cy 6, 12, .inr (.inr (.inr (.inr (gf_ rr)))))), ((rr 0), .inl (cy 0, 12, .inl (M_6 0))), ((rr 1), .inl (cy 0, 12, .inl (M_6 1))), ((rr 2), .inl (cy 0, 12, .inl (M_6 2))), ((rr 3), .inl (cy 0, 12, .inl (M_6 3))), ((rr 4), .inl (cy 0, 12, .inl (M_6 4))), ((rr 5), .inl (cy 0, 12, .inl (M_6 5))), ((rr 6), .inl (cy 0, 12, .inl (M_6 6))), ((rr 7), .inl (cy 0, 12, .inl (M_6 7))), ((rr 8), .inl (cy 0, 12, .inl (M_6 8))), ((rr 9), .inl (cy 0, 12, .inl (M_6 9))), ((rr 10), .inl (cy 0, 12, .inl (M_6 10))), ((rr 11), .inl (cy 0, 12, .inl (M_6 11))), (c4, .inl (cy 0, 40, .inl f4)), (c5, .inl (cy 0, 40, .inl f5)), (c6, .inl (cy 0, 40, .inl f6))] (by rw [eM_6]; exact hP) (by rw [eM_6]; exact hD) (fun hP hD => ?_)
  refine lv_aload_n hx hb dX0_sendOver_12 rfl (lv_at hl 0 rfl) ?_
  refine va_get (ci := 0) (v := .ref cro) (C := RX0) (T := TX0) (N := 9) hx hb hts (fun _ h => List.mem_cons_of_mem _ (List.mem_append_left _ (List.mem_append_right _ h))) hown hK.1 hP 0 rfl rfl 3 (by decide) (hts (.fieldLink RX0 16 "CutAtlas$Current" "room" "[[I") (by decide +kernel)) (fun _ h9 => h9) rfl dX0_sendOver_13 ?_
  refine lv_iload_n hx hb dX0_sendOver_16 rfl (lv_at hl 2 rfl) ?_
  have h_7 : vp_in a2 12 := in_I (by omega) (by omega)
  refine va_alda hx hb hG hP 4 rfl (i := a2) h_7 dX0_sendOver_17 ?_
  refine lv_topv (v' := .ref (rr a2.toNatClampNeg)) (gf_at h_7) ?_
  refine lv_iload_n hx hb dX0_sendOver_18 rfl (lv_at hl 1 rfl) ?_
  refine lv_dup2_11 hx hb dX0_sendOver_19 rfl rfl ?_
  have h_8 : vp_in a1 12 := in_I (by omega) (by omega)
  have hPg : va_P D vwCl (([(xc, .inr (0, [.ref xn, .ref xk, .ref clo, .ref cro, .ref c4, .ref c5, .ref c6, .ref c7, .ref c8])), (xn, .inr (3, [.int vp, .int vn, .ref n1, .ref n2, .ref n3, .ref n4, .ref n5])), (n2, .inl (cy 0, 40, .inl fs)), (n3, .inl (cy 0, 40, .inl fe)), (cro, .inl (cy 6, 12, .inr (.inr (.inr (.inr (gf_ rr))))))] : va_W) ++ (gro (cy 0) rr M_6 ++ ([(c4, .inl (cy 0, 40, .inl f4)), (c5, .inl (cy 0, 40, .inl f5)), (c6, .inl (cy 0, 40, .inl f6))] : va_W))) H := hP
  refine va_gld (X := [(xc, .inr (0, [.ref xn, .ref xk, .ref clo, .ref cro, .ref c4, .ref c5, .ref c6, .ref c7, .ref c8])), (xn, .inr (3, [.int vp, .int vn, .ref n1, .ref n2, .ref n3, .ref n4, .ref n5])), (n2, .inl (cy 0, 40, .inl fs)), (n3, .inl (cy 0, 40, .inl fe)), (cro, .inl (cy 6, 12, .inr (.inr (.inr (.inr (gf_ rr))))))]) (Y := [(c4, .inl (cy 0, 40, .inl f4)), (c5, .inl (cy 0, 40, .inl f5)), (c6, .inl (cy 0, 40, .inl f6))]) (r := rr) (M := M_6) (k := a2.toNatClampNeg) hx hb hK.1 hPg 0 rfl (in_lt h_7) (i := a1) h_8 dX0_sendOver_20 ?_
  refine lv_topi (fun y_9 ey_9 => ?_)
  refine lv_iload_n hx hb dX0_sendOver_21 rfl (lv_at hl 3 rfl) ?_
  refine lv_iadd hx hb dX0_sendOver_22 ?_
  refine lv_topi (fun y_10 ey_10 => ?_)
  have h_11 : vp_in a1 12 := in_I (by omega) (by omega)
  have hPg : va_P D vwCl (([(xc, .inr (0, [.ref xn, .ref xk, .ref clo, .ref cro, .ref c4, .ref c5, .ref c6, .ref c7, .ref c8])), (xn, .inr (3, [.int vp, .int vn, .ref n1, .ref n2, .ref n3, .ref n4, .ref n5])), (n2, .inl (cy 0, 40, .inl fs)), (n3, .inl (cy 0, 40, .inl fe)), (cro, .inl (cy 6, 12, .inr (.inr (.inr (.inr (gf_ rr))))))] : va_W) ++ (gro (cy 0) rr M_6 ++ ([(c4, .inl (cy 0, 40, .inl f4)), (c5, .inl (cy 0, 40, .inl f5)), (c6, .inl (cy 0, 40, .inl f6))] : va_W))) H := hP
  have hDg : va_D A (([(xc, .inr (0, [.ref xn, .ref xk, .ref clo, .ref cro, .ref c4, .ref c5, .ref c6, .ref c7, .ref c8])), (xn, .inr (3, [.int vp, .int vn, .ref n1, .ref n2, .ref n3, .ref n4, .ref n5])), (n2, .inl (cy 0, 40, .inl fs)), (n3, .inl (cy 0, 40, .inl fe)), (cro, .inl (cy 6, 12, .inr (.inr (.inr (.inr (gf_ rr))))))] : va_W) ++ (gro (cy 0) rr M_6 ++ ([(c4, .inl (cy 0, 40, .inl f4)), (c5, .inl (cy 0, 40, .inl f5)), (c6, .inl (cy 0, 40, .inl f6))] : va_W))) := hD
  refine va_gst (X := [(xc, .inr (0, [.ref xn, .ref xk, .ref clo, .ref cro, .ref c4, .ref c5, .ref c6, .ref c7, .ref c8])), (xn, .inr (3, [.int vp, .int vn, .ref n1, .ref n2, .ref n3, .ref n4, .ref n5])), (n2, .inl (cy 0, 40, .inl fs)), (n3, .inl (cy 0, 40, .inl fe)), (cro, .inl (cy 6, 12, .inr (.inr (.inr (.inr (gf_ rr))))))]) (Y := [(c4, .inl (cy 0, 40, .inl f4)), (c5, .inl (cy 0, 40, .inl f5)), (c6, .inl (cy 0, 40, .inl f6))]) (r := rr) (M := M_6) (k := a2.toNatClampNeg) hx hb hK.1 hPg hDg hS 0 rfl (in_lt h_7) (i := a1) h_11 dX0_sendOver_23 (fun H locs hP hD hS => ?_)
  obtain ⟨M_12, eM_12⟩ : ∃ g : Nat → Nat → Int32, g = va_up M_6 a2.toNatClampNeg (upd (M_6 a2.toNatClampNeg) a1.toNatClampNeg y_10) := ⟨_, rfl⟩
  refine pd_K (D := D) (cl := vwCl) (H := H) (A := A) [(xc, .inr (0, [.ref xn, .ref xk, .ref clo, .ref cro, .ref c4, .ref c5, .ref c6, .ref c7, .ref c8])), (xn, .inr (3, [.int vp, .int vn, .ref n1, .ref n2, .ref n3, .ref n4, .ref n5])), (n2, .inl (cy 0, 40, .inl fs)), (n3, .inl (cy 0, 40, .inl fe)), (cro, .inl (cy 6, 12, .inr (.inr (.inr (.inr (gf_ rr)))))), ((rr 0), .inl (cy 0, 12, .inl (M_12 0))), ((rr 1), .inl (cy 0, 12, .inl (M_12 1))), ((rr 2), .inl (cy 0, 12, .inl (M_12 2))), ((rr 3), .inl (cy 0, 12, .inl (M_12 3))), ((rr 4), .inl (cy 0, 12, .inl (M_12 4))), ((rr 5), .inl (cy 0, 12, .inl (M_12 5))), ((rr 6), .inl (cy 0, 12, .inl (M_12 6))), ((rr 7), .inl (cy 0, 12, .inl (M_12 7))), ((rr 8), .inl (cy 0, 12, .inl (M_12 8))), ((rr 9), .inl (cy 0, 12, .inl (M_12 9))), ((rr 10), .inl (cy 0, 12, .inl (M_12 10))), ((rr 11), .inl (cy 0, 12, .inl (M_12 11))), (c4, .inl (cy 0, 40, .inl f4)), (c5, .inl (cy 0, 40, .inl f5)), (c6, .inl (cy 0, 40, .inl f6))] (by rw [eM_12]; exact hP) (by rw [eM_12]; exact hD) (fun hP hD => ?_)
  refine lv_iload_n hx hb dX0_sendOver_24 rfl (lv_at hl 3 rfl) ?_
  refine lv_istore (lv' := [(4, .int a3), (0, .ref xc), (1, .int a1), (2, .int a2), (3, .int a3)]) hx hb dX0_sendOver_25 hl (by decide) rfl (fun ls hl => ?_)
  refine lv_iconst (v := 0) hx hb dX0_sendOver_27 (by decide) ?_
  refine lv_istore (lv' := [(5, .int 0), (4, .int a3), (0, .ref xc), (1, .int a1), (2, .int a2), (3, .int a3)]) hx hb dX0_sendOver_28 hl (by decide) rfl (fun ls hl => ?_)
  suffices LOOP_13 : ∀ (n_13 : Nat) (x5_13 : Int32) (x4_13 : Int32) (c_c4_13 : Nat → Int32) (H : Heap) (locs : List Loc) (ls : Array Slot), vn.toInt - x5_13.toInt < (n_13 : Int) → (0 ≤ x5_13.toInt) → (x5_13.toInt ≤ vn.toInt) → va_P D vwCl [(xc, .inr (0, [.ref xn, .ref xk, .ref clo, .ref cro, .ref c4, .ref c5, .ref c6, .ref c7, .ref c8])), (xn, .inr (3, [.int vp, .int vn, .ref n1, .ref n2, .ref n3, .ref n4, .ref n5])), (n2, .inl (cy 0, 40, .inl fs)), (n3, .inl (cy 0, 40, .inl fe)), (cro, .inl (cy 6, 12, .inr (.inr (.inr (.inr (gf_ rr)))))), ((rr 0), .inl (cy 0, 12, .inl (M_12 0))), ((rr 1), .inl (cy 0, 12, .inl (M_12 1))), ((rr 2), .inl (cy 0, 12, .inl (M_12 2))), ((rr 3), .inl (cy 0, 12, .inl (M_12 3))), ((rr 4), .inl (cy 0, 12, .inl (M_12 4))), ((rr 5), .inl (cy 0, 12, .inl (M_12 5))), ((rr 6), .inl (cy 0, 12, .inl (M_12 6))), ((rr 7), .inl (cy 0, 12, .inl (M_12 7))), ((rr 8), .inl (cy 0, 12, .inl (M_12 8))), ((rr 9), .inl (cy 0, 12, .inl (M_12 9))), ((rr 10), .inl (cy 0, 12, .inl (M_12 10))), ((rr 11), .inl (cy 0, 12, .inl (M_12 11))), (c4, .inl (cy 0, 40, .inl c_c4_13)), (c5, .inl (cy 0, 40, .inl f5)), (c6, .inl (cy 0, 40, .inl f6))] H → va_D A [(xc, .inr (0, [.ref xn, .ref xk, .ref clo, .ref cro, .ref c4, .ref c5, .ref c6, .ref c7, .ref c8])), (xn, .inr (3, [.int vp, .int vn, .ref n1, .ref n2, .ref n3, .ref n4, .ref n5])), (n2, .inl (cy 0, 40, .inl fs)), (n3, .inl (cy 0, 40, .inl fe)), (cro, .inl (cy 6, 12, .inr (.inr (.inr (.inr (gf_ rr)))))), ((rr 0), .inl (cy 0, 12, .inl (M_12 0))), ((rr 1), .inl (cy 0, 12, .inl (M_12 1))), ((rr 2), .inl (cy 0, 12, .inl (M_12 2))), ((rr 3), .inl (cy 0, 12, .inl (M_12 3))), ((rr 4), .inl (cy 0, 12, .inl (M_12 4))), ((rr 5), .inl (cy 0, 12, .inl (M_12 5))), ((rr 6), .inl (cy 0, 12, .inl (M_12 6))), ((rr 7), .inl (cy 0, 12, .inl (M_12 7))), ((rr 8), .inl (cy 0, 12, .inl (M_12 8))), ((rr 9), .inl (cy 0, 12, .inl (M_12 9))), ((rr 10), .inl (cy 0, 12, .inl (M_12 10))), ((rr 11), .inl (cy 0, 12, .inl (M_12 11))), (c4, .inl (cy 0, 40, .inl c_c4_13)), (c5, .inl (cy 0, 40, .inl f5)), (c6, .inl (cy 0, 40, .inl f6))] → va_S A s.heap H locs → lv_has ls 7 [(5, .int x5_13), (4, .int x4_13), (0, .ref xc), (1, .int a1), (2, .int a2), (3, .int a3)] → W p l e ({ frames := 1, cells := 0, slots := 0, locals := 13 } : Room) s m (([.ref xc, .int a1, .int a2, .int a3] : List Value).toArray) below meth c H locs 0 0 Q (F0 m 30 ls []) from LOOP_13 ((vn.toInt - (0 : Int32).toInt).toNat + 1) (0 : Int32) a3 f4 _ _ _ (by omega) (by first | with_reducible assumption | omega | assumption) (by first | with_reducible assumption | omega | assumption) hP hD hS (lv_sub hl [0, 1, 2, 3, 4, 5] rfl)
  intro n_13
  induction n_13 with
  | zero =>
    intro x5_13 x4_13 c_c4_13 H locs ls hm v0_13 v1_13 hP hD hS hl
    exact absurd hm (by omega)
  | succ n_13 ih_13 =>
    intro x5_13 x4_13 c_c4_13 H locs ls hm v0_13 v1_13 hP hD hS hl
    refine lv_iload hx hb dX0_sendOver_30 (lv_at hl 0 rfl) ?_
    refine lv_aload_n hx hb dX0_sendOver_32 rfl (lv_at hl 2 rfl) ?_
    refine va_get (ci := 0) (v := .ref xn) (C := RX0) (T := TX0) (N := 9) hx hb hts (fun _ h => List.mem_cons_of_mem _ (List.mem_append_left _ (List.mem_append_right _ h))) hown hK.1 hP 0 rfl rfl 0 (by decide) (hts (.fieldLink RX0 35 "CutAtlas$Current" "net" "LCutAtlas$Net;") (by decide +kernel)) (fun _ h9 => h9) rfl dX0_sendOver_33 ?_
    refine va_get (ci := 3) (v := .int vn) (C := RX3) (T := TX3) (N := 7) hx hb hts (fun _ h => List.mem_cons_of_mem _ (List.mem_append_right _ h)) hown hK.1 hP 1 rfl rfl 1 (by decide) (hts (.fieldLink RX0 55 "CutAtlas$Net" "lines" "I") (by decide +kernel)) (fun _ h9 => h9) rfl dX0_sendOver_36 ?_
    refine lv_icmp_ge (tgt := 194) hx hb dX0_sendOver_39 (by decide) (fun c_14 => ?_) (fun c_14 => ?_)
    · have t_14 : vn.toInt ≤ x5_13.toInt := Int32.le_iff_toInt_le.mp c_14
      rw [hQ]
      exact W.vret hx hb hr (fun t ht hW => ⟨⟨(), rfl, trivial, M_12, c_c4_13, by rw [ht]; exact hP, hD⟩, hS.F ht⟩) hS.2.2 dX0_sendOver_194
    · have t_14 : ¬ vn.toInt ≤ x5_13.toInt := fun h => c_14 (Int32.le_iff_toInt_le.mpr h)
      refine lv_iload hx hb dX0_sendOver_42 (lv_at hl 1 rfl) ?_
      refine lv_if_le (tgt := 194) hx hb dX0_sendOver_44 (by decide) (fun c_15 => ?_) (fun c_15 => ?_)
      · have t_15 : x4_13.toInt ≤ (0 : Int32).toInt := Int32.le_iff_toInt_le.mp c_15
        rw [hQ]
        exact W.vret hx hb hr (fun t ht hW => ⟨⟨(), rfl, trivial, M_12, c_c4_13, by rw [ht]; exact hP, hD⟩, hS.F ht⟩) hS.2.2 dX0_sendOver_194
      · have t_15 : ¬ x4_13.toInt ≤ (0 : Int32).toInt := fun h => c_15 (Int32.le_iff_toInt_le.mpr h)
        refine lv_aload_n hx hb dX0_sendOver_47 rfl (lv_at hl 2 rfl) ?_
        refine va_get (ci := 0) (v := .ref xn) (C := RX0) (T := TX0) (N := 9) hx hb hts (fun _ h => List.mem_cons_of_mem _ (List.mem_append_left _ (List.mem_append_right _ h))) hown hK.1 hP 0 rfl rfl 0 (by decide) (hts (.fieldLink RX0 35 "CutAtlas$Current" "net" "LCutAtlas$Net;") (by decide +kernel)) (fun _ h9 => h9) rfl dX0_sendOver_48 ?_
        refine va_get (ci := 3) (v := .ref n2) (C := RX3) (T := TX3) (N := 7) hx hb hts (fun _ h => List.mem_cons_of_mem _ (List.mem_append_right _ h)) hown hK.1 hP 1 rfl rfl 3 (by decide) (hts (.fieldLink RX0 76 "CutAtlas$Net" "starts" "[I") (by decide +kernel)) (fun _ h9 => h9) rfl dX0_sendOver_51 ?_
        refine lv_iload hx hb dX0_sendOver_54 (lv_at hl 0 rfl) ?_
        have h_16 : vp_in x5_13 40 := in_I (by omega) (by omega)
        refine va_iald hx hb hK.1 hP 2 0 rfl rfl (i := x5_13) h_16 dX0_sendOver_56 ?_
        refine lv_topi (fun y_17 ey_17 => ?_)
        refine lv_iload_n hx hb dX0_sendOver_57 rfl (lv_at hl 3 rfl) ?_
        refine lv_icmp_ne (tgt := 119) hx hb dX0_sendOver_58 (by decide) (fun c_18 => ?_) (fun c_18 => ?_)
        · have t_18 : ¬ y_17.toInt = a1.toInt := fun h => c_18 (Int32.toInt_inj.mp h)
          refine lv_aload_n hx hb dX0_sendOver_119 rfl (lv_at hl 2 rfl) ?_
          refine va_get (ci := 0) (v := .ref xn) (C := RX0) (T := TX0) (N := 9) hx hb hts (fun _ h => List.mem_cons_of_mem _ (List.mem_append_left _ (List.mem_append_right _ h))) hown hK.1 hP 0 rfl rfl 0 (by decide) (hts (.fieldLink RX0 35 "CutAtlas$Current" "net" "LCutAtlas$Net;") (by decide +kernel)) (fun _ h9 => h9) rfl dX0_sendOver_120 ?_
          refine va_get (ci := 3) (v := .ref n2) (C := RX3) (T := TX3) (N := 7) hx hb hts (fun _ h => List.mem_cons_of_mem _ (List.mem_append_right _ h)) hown hK.1 hP 1 rfl rfl 3 (by decide) (hts (.fieldLink RX0 76 "CutAtlas$Net" "starts" "[I") (by decide +kernel)) (fun _ h9 => h9) rfl dX0_sendOver_123 ?_
          refine lv_iload hx hb dX0_sendOver_126 (lv_at hl 0 rfl) ?_
          have h_19 : vp_in x5_13 40 := in_I (by omega) (by omega)
          refine va_iald hx hb hK.1 hP 2 0 rfl rfl (i := x5_13) h_19 dX0_sendOver_128 ?_
          refine lv_topi (fun y_20 ey_20 => ?_)
          have e_ := (ey_20.trans ey_17.symm).symm
          subst e_
          skip
          refine lv_iload_n hx hb dX0_sendOver_129 rfl (lv_at hl 4 rfl) ?_
          refine lv_icmp_ne (tgt := 188) hx hb dX0_sendOver_130 (by decide) (fun c_21 => ?_) (fun c_21 => ?_)
          · have t_21 : ¬ y_17.toInt = a2.toInt := fun h => c_21 (Int32.toInt_inj.mp h)
            obtain ⟨y_22, ey_22⟩ : ∃ y : Int32, y = x5_13 + 1 := ⟨_, rfl⟩
            have ty_22 : y_22.toInt = x5_13.toInt + (1 : Int32).toInt := by rw [ey_22]; exact addI (by omega) (by omega)
            refine lv_iinc (v := y_22) (lv' := [(5, .int y_22), (4, .int x4_13), (0, .ref xc), (1, .int a1), (2, .int a2), (3, .int a3)]) hx hb dX0_sendOver_188 hl (k := 0) rfl (by rw [ey_22]; rfl) (by decide) rfl (fun ls hl => ?_)
            refine lv_goto (tgt := 30) hx hb dX0_sendOver_191 (by decide) ?_
            exact ih_13 y_22 x4_13 c_c4_13 _ _ _ (by omega) (by first | with_reducible assumption | omega | assumption) (by first | with_reducible assumption | omega | assumption) hP hD hS (lv_sub hl [0, 1, 2, 3, 4, 5] rfl)
          · have t_21 : y_17.toInt = a2.toInt := congrArg Int32.toInt c_21
            refine lv_aload_n hx hb dX0_sendOver_133 rfl (lv_at hl 2 rfl) ?_
            refine va_get (ci := 0) (v := .ref xn) (C := RX0) (T := TX0) (N := 9) hx hb hts (fun _ h => List.mem_cons_of_mem _ (List.mem_append_left _ (List.mem_append_right _ h))) hown hK.1 hP 0 rfl rfl 0 (by decide) (hts (.fieldLink RX0 35 "CutAtlas$Current" "net" "LCutAtlas$Net;") (by decide +kernel)) (fun _ h9 => h9) rfl dX0_sendOver_134 ?_
            refine va_get (ci := 3) (v := .ref n3) (C := RX3) (T := TX3) (N := 7) hx hb hts (fun _ h => List.mem_cons_of_mem _ (List.mem_append_right _ h)) hown hK.1 hP 1 rfl rfl 4 (by decide) (hts (.fieldLink RX0 79 "CutAtlas$Net" "ends" "[I") (by decide +kernel)) (fun _ h9 => h9) rfl dX0_sendOver_137 ?_
            refine lv_iload hx hb dX0_sendOver_140 (lv_at hl 0 rfl) ?_
            have h_23 : vp_in x5_13 40 := in_I (by omega) (by omega)
            refine va_iald hx hb hK.1 hP 3 0 rfl rfl (i := x5_13) h_23 dX0_sendOver_142 ?_
            refine lv_topi (fun y_24 ey_24 => ?_)
            refine lv_iload_n hx hb dX0_sendOver_143 rfl (lv_at hl 3 rfl) ?_
            refine lv_icmp_ne (tgt := 188) hx hb dX0_sendOver_144 (by decide) (fun c_25 => ?_) (fun c_25 => ?_)
            · have t_25 : ¬ y_24.toInt = a1.toInt := fun h => c_25 (Int32.toInt_inj.mp h)
              obtain ⟨y_26, ey_26⟩ : ∃ y : Int32, y = x5_13 + 1 := ⟨_, rfl⟩
              have ty_26 : y_26.toInt = x5_13.toInt + (1 : Int32).toInt := by rw [ey_26]; exact addI (by omega) (by omega)
              refine lv_iinc (v := y_26) (lv' := [(5, .int y_26), (4, .int x4_13), (0, .ref xc), (1, .int a1), (2, .int a2), (3, .int a3)]) hx hb dX0_sendOver_188 hl (k := 0) rfl (by rw [ey_26]; rfl) (by decide) rfl (fun ls hl => ?_)
              refine lv_goto (tgt := 30) hx hb dX0_sendOver_191 (by decide) ?_
              exact ih_13 y_26 x4_13 c_c4_13 _ _ _ (by omega) (by first | with_reducible assumption | omega | assumption) (by first | with_reducible assumption | omega | assumption) hP hD hS (lv_sub hl [0, 1, 2, 3, 4, 5] rfl)
            · have t_25 : y_24.toInt = a1.toInt := congrArg Int32.toInt c_25
              refine lv_iload hx hb dX0_sendOver_147 (lv_at hl 1 rfl) ?_
              refine lv_aload_n hx hb dX0_sendOver_149 rfl (lv_at hl 2 rfl) ?_
              refine va_get (ci := 0) (v := .ref c6) (C := RX0) (T := TX0) (N := 9) hx hb hts (fun _ h => List.mem_cons_of_mem _ (List.mem_append_left _ (List.mem_append_right _ h))) hown hK.1 hP 0 rfl rfl 6 (by decide) (hts (.fieldLink RX0 26 "CutAtlas$Current" "letsBack" "[I") (by decide +kernel)) (fun _ h9 => h9) rfl dX0_sendOver_150 ?_
              refine lv_iload hx hb dX0_sendOver_153 (lv_at hl 0 rfl) ?_
              have h_27 : vp_in x5_13 40 := in_I (by omega) (by omega)
              refine va_iald hx hb hK.1 hP 19 0 rfl rfl (i := x5_13) h_27 dX0_sendOver_155 ?_
              refine lv_topi (fun y_28 ey_28 => ?_)
              refine lv_aload_n hx hb dX0_sendOver_156 rfl (lv_at hl 2 rfl) ?_
              refine va_get (ci := 0) (v := .ref c4) (C := RX0) (T := TX0) (N := 9) hx hb hts (fun _ h => List.mem_cons_of_mem _ (List.mem_append_left _ (List.mem_append_right _ h))) hown hK.1 hP 0 rfl rfl 4 (by decide) (hts (.fieldLink RX0 19 "CutAtlas$Current" "flowing" "[I") (by decide +kernel)) (fun _ h9 => h9) rfl dX0_sendOver_157 ?_
              refine lv_iload hx hb dX0_sendOver_160 (lv_at hl 0 rfl) ?_
              have h_29 : vp_in x5_13 40 := in_I (by omega) (by omega)
              refine va_iald hx hb hK.1 hP 17 0 rfl rfl (i := x5_13) h_29 dX0_sendOver_162 ?_
              refine lv_topi (fun y_30 ey_30 => ?_)
              refine lv_iadd hx hb dX0_sendOver_163 ?_
              refine lv_topi (fun y_31 ey_31 => ?_)
              refine va_mmin hx hb (by rw [hml]; exact hl.1.symm) hown (hts (.methodLink RX0 101 Lib.Math.min.name) (by decide +kernel)) (hts (.static Lib.Math.min.name) (by decide +kernel)) (hts (.initialized "java/lang/Math") (by decide +kernel)) (hts (.code Lib.Math.min.name Lib.Math.min.code 2 (some .int)) (by decide +kernel)) (Nat.le_of_ble_eq_true rfl) (Nat.le_of_ble_eq_true rfl) (Nat.le_of_ble_eq_true rfl) (Nat.le_of_ble_eq_true rfl) dX0_sendOver_164 ?_
              refine lv_topi (fun y_32 ey_32 => ?_)
              have ty_32 : y_32 = x4_13 ∨ y_32 = y_31 := by rw [ey_32]; split <;> simp
              have iy_32 : y_32.toInt = x4_13.toInt ∨ y_32.toInt = y_31.toInt := by rcases ty_32 with h | h <;> rw [h] <;> simp
              refine lv_istore (lv' := [(6, .int y_32), (5, .int x5_13), (4, .int x4_13), (0, .ref xc), (1, .int a1), (2, .int a2), (3, .int a3)]) hx hb dX0_sendOver_167 hl (by decide) rfl (fun ls hl => ?_)
              refine lv_aload_n hx hb dX0_sendOver_169 rfl (lv_at hl 3 rfl) ?_
              refine va_get (ci := 0) (v := .ref c4) (C := RX0) (T := TX0) (N := 9) hx hb hts (fun _ h => List.mem_cons_of_mem _ (List.mem_append_left _ (List.mem_append_right _ h))) hown hK.1 hP 0 rfl rfl 4 (by decide) (hts (.fieldLink RX0 19 "CutAtlas$Current" "flowing" "[I") (by decide +kernel)) (fun _ h9 => h9) rfl dX0_sendOver_170 ?_
              refine lv_iload hx hb dX0_sendOver_173 (lv_at hl 1 rfl) ?_
              refine lv_dup2_11 hx hb dX0_sendOver_175 rfl rfl ?_
              have h_33 : vp_in x5_13 40 := in_I (by omega) (by omega)
              refine va_iald hx hb hK.1 hP 17 0 rfl rfl (i := x5_13) h_33 dX0_sendOver_176 ?_
              refine lv_topi (fun y_34 ey_34 => ?_)
              have e_ := (ey_34.trans ey_30.symm).symm
              subst e_
              skip
              refine lv_iload hx hb dX0_sendOver_177 (lv_at hl 0 rfl) ?_
              refine lv_isub hx hb dX0_sendOver_179 ?_
              refine lv_topi (fun y_35 ey_35 => ?_)
              have h_36 : vp_in x5_13 40 := in_I (by omega) (by omega)
              refine va_iast hx hb hK.1 hP hD hS 17 0 rfl rfl (i := x5_13) h_36 dX0_sendOver_180 (fun H locs hP hD hS => ?_)
              obtain ⟨f_37, ef_37⟩ : ∃ g : Nat → Int32, g = upd c_c4_13 x5_13.toNatClampNeg y_35 := ⟨_, rfl⟩
              refine pd_K (D := D) (cl := vwCl) (H := H) (A := A) [(xc, .inr (0, [.ref xn, .ref xk, .ref clo, .ref cro, .ref c4, .ref c5, .ref c6, .ref c7, .ref c8])), (xn, .inr (3, [.int vp, .int vn, .ref n1, .ref n2, .ref n3, .ref n4, .ref n5])), (n2, .inl (cy 0, 40, .inl fs)), (n3, .inl (cy 0, 40, .inl fe)), (cro, .inl (cy 6, 12, .inr (.inr (.inr (.inr (gf_ rr)))))), ((rr 0), .inl (cy 0, 12, .inl (M_12 0))), ((rr 1), .inl (cy 0, 12, .inl (M_12 1))), ((rr 2), .inl (cy 0, 12, .inl (M_12 2))), ((rr 3), .inl (cy 0, 12, .inl (M_12 3))), ((rr 4), .inl (cy 0, 12, .inl (M_12 4))), ((rr 5), .inl (cy 0, 12, .inl (M_12 5))), ((rr 6), .inl (cy 0, 12, .inl (M_12 6))), ((rr 7), .inl (cy 0, 12, .inl (M_12 7))), ((rr 8), .inl (cy 0, 12, .inl (M_12 8))), ((rr 9), .inl (cy 0, 12, .inl (M_12 9))), ((rr 10), .inl (cy 0, 12, .inl (M_12 10))), ((rr 11), .inl (cy 0, 12, .inl (M_12 11))), (c4, .inl (cy 0, 40, .inl f_37)), (c5, .inl (cy 0, 40, .inl f5)), (c6, .inl (cy 0, 40, .inl f6))] (by rw [ef_37]; exact hP) (by rw [ef_37]; exact hD) (fun hP hD => ?_)
              refine lv_iload hx hb dX0_sendOver_181 (lv_at hl 2 rfl) ?_
              refine lv_iload hx hb dX0_sendOver_183 (lv_at hl 0 rfl) ?_
              refine lv_isub hx hb dX0_sendOver_185 ?_
              refine lv_topi (fun y_38 ey_38 => ?_)
              refine lv_istore (lv' := [(4, .int y_38), (6, .int y_32), (5, .int x5_13), (0, .ref xc), (1, .int a1), (2, .int a2), (3, .int a3)]) hx hb dX0_sendOver_186 hl (by decide) rfl (fun ls hl => ?_)
              obtain ⟨y_39, ey_39⟩ : ∃ y : Int32, y = x5_13 + 1 := ⟨_, rfl⟩
              have ty_39 : y_39.toInt = x5_13.toInt + (1 : Int32).toInt := by rw [ey_39]; exact addI (by omega) (by omega)
              refine lv_iinc (v := y_39) (lv' := [(5, .int y_39), (4, .int y_38), (6, .int y_32), (0, .ref xc), (1, .int a1), (2, .int a2), (3, .int a3)]) hx hb dX0_sendOver_188 hl (k := 2) rfl (by rw [ey_39]; rfl) (by decide) rfl (fun ls hl => ?_)
              refine lv_goto (tgt := 30) hx hb dX0_sendOver_191 (by decide) ?_
              exact ih_13 y_39 y_38 f_37 _ _ _ (by omega) (by first | with_reducible assumption | omega | assumption) (by first | with_reducible assumption | omega | assumption) hP hD hS (lv_sub hl [0, 1, 3, 4, 5, 6] rfl)
        · have t_18 : y_17.toInt = a1.toInt := congrArg Int32.toInt c_18
          refine lv_aload_n hx hb dX0_sendOver_61 rfl (lv_at hl 2 rfl) ?_
          refine va_get (ci := 0) (v := .ref xn) (C := RX0) (T := TX0) (N := 9) hx hb hts (fun _ h => List.mem_cons_of_mem _ (List.mem_append_left _ (List.mem_append_right _ h))) hown hK.1 hP 0 rfl rfl 0 (by decide) (hts (.fieldLink RX0 35 "CutAtlas$Current" "net" "LCutAtlas$Net;") (by decide +kernel)) (fun _ h9 => h9) rfl dX0_sendOver_62 ?_
          refine va_get (ci := 3) (v := .ref n3) (C := RX3) (T := TX3) (N := 7) hx hb hts (fun _ h => List.mem_cons_of_mem _ (List.mem_append_right _ h)) hown hK.1 hP 1 rfl rfl 4 (by decide) (hts (.fieldLink RX0 79 "CutAtlas$Net" "ends" "[I") (by decide +kernel)) (fun _ h9 => h9) rfl dX0_sendOver_65 ?_
          refine lv_iload hx hb dX0_sendOver_68 (lv_at hl 0 rfl) ?_
          have h_40 : vp_in x5_13 40 := in_I (by omega) (by omega)
          refine va_iald hx hb hK.1 hP 3 0 rfl rfl (i := x5_13) h_40 dX0_sendOver_70 ?_
          refine lv_topi (fun y_41 ey_41 => ?_)
          refine lv_iload_n hx hb dX0_sendOver_71 rfl (lv_at hl 4 rfl) ?_
          refine lv_icmp_ne (tgt := 119) hx hb dX0_sendOver_72 (by decide) (fun c_42 => ?_) (fun c_42 => ?_)
          · have t_42 : ¬ y_41.toInt = a2.toInt := fun h => c_42 (Int32.toInt_inj.mp h)
            refine lv_aload_n hx hb dX0_sendOver_119 rfl (lv_at hl 2 rfl) ?_
            refine va_get (ci := 0) (v := .ref xn) (C := RX0) (T := TX0) (N := 9) hx hb hts (fun _ h => List.mem_cons_of_mem _ (List.mem_append_left _ (List.mem_append_right _ h))) hown hK.1 hP 0 rfl rfl 0 (by decide) (hts (.fieldLink RX0 35 "CutAtlas$Current" "net" "LCutAtlas$Net;") (by decide +kernel)) (fun _ h9 => h9) rfl dX0_sendOver_120 ?_
            refine va_get (ci := 3) (v := .ref n2) (C := RX3) (T := TX3) (N := 7) hx hb hts (fun _ h => List.mem_cons_of_mem _ (List.mem_append_right _ h)) hown hK.1 hP 1 rfl rfl 3 (by decide) (hts (.fieldLink RX0 76 "CutAtlas$Net" "starts" "[I") (by decide +kernel)) (fun _ h9 => h9) rfl dX0_sendOver_123 ?_
            refine lv_iload hx hb dX0_sendOver_126 (lv_at hl 0 rfl) ?_
            have h_43 : vp_in x5_13 40 := in_I (by omega) (by omega)
            refine va_iald hx hb hK.1 hP 2 0 rfl rfl (i := x5_13) h_43 dX0_sendOver_128 ?_
            refine lv_topi (fun y_44 ey_44 => ?_)
            have e_ := (ey_44.trans ey_17.symm).symm
            subst e_
            skip
            refine lv_iload_n hx hb dX0_sendOver_129 rfl (lv_at hl 4 rfl) ?_
            refine lv_icmp_ne (tgt := 188) hx hb dX0_sendOver_130 (by decide) (fun c_45 => ?_) (fun c_45 => ?_)
            · have t_45 : ¬ y_17.toInt = a2.toInt := fun h => c_45 (Int32.toInt_inj.mp h)
              obtain ⟨y_46, ey_46⟩ : ∃ y : Int32, y = x5_13 + 1 := ⟨_, rfl⟩
              have ty_46 : y_46.toInt = x5_13.toInt + (1 : Int32).toInt := by rw [ey_46]; exact addI (by omega) (by omega)
              refine lv_iinc (v := y_46) (lv' := [(5, .int y_46), (4, .int x4_13), (0, .ref xc), (1, .int a1), (2, .int a2), (3, .int a3)]) hx hb dX0_sendOver_188 hl (k := 0) rfl (by rw [ey_46]; rfl) (by decide) rfl (fun ls hl => ?_)
              refine lv_goto (tgt := 30) hx hb dX0_sendOver_191 (by decide) ?_
              exact ih_13 y_46 x4_13 c_c4_13 _ _ _ (by omega) (by first | with_reducible assumption | omega | assumption) (by first | with_reducible assumption | omega | assumption) hP hD hS (lv_sub hl [0, 1, 2, 3, 4, 5] rfl)
            · have t_45 : y_17.toInt = a2.toInt := congrArg Int32.toInt c_45
              refine lv_aload_n hx hb dX0_sendOver_133 rfl (lv_at hl 2 rfl) ?_
              refine va_get (ci := 0) (v := .ref xn) (C := RX0) (T := TX0) (N := 9) hx hb hts (fun _ h => List.mem_cons_of_mem _ (List.mem_append_left _ (List.mem_append_right _ h))) hown hK.1 hP 0 rfl rfl 0 (by decide) (hts (.fieldLink RX0 35 "CutAtlas$Current" "net" "LCutAtlas$Net;") (by decide +kernel)) (fun _ h9 => h9) rfl dX0_sendOver_134 ?_
              refine va_get (ci := 3) (v := .ref n3) (C := RX3) (T := TX3) (N := 7) hx hb hts (fun _ h => List.mem_cons_of_mem _ (List.mem_append_right _ h)) hown hK.1 hP 1 rfl rfl 4 (by decide) (hts (.fieldLink RX0 79 "CutAtlas$Net" "ends" "[I") (by decide +kernel)) (fun _ h9 => h9) rfl dX0_sendOver_137 ?_
              refine lv_iload hx hb dX0_sendOver_140 (lv_at hl 0 rfl) ?_
              have h_47 : vp_in x5_13 40 := in_I (by omega) (by omega)
              refine va_iald hx hb hK.1 hP 3 0 rfl rfl (i := x5_13) h_47 dX0_sendOver_142 ?_
              refine lv_topi (fun y_48 ey_48 => ?_)
              have e_ := (ey_48.trans ey_41.symm).symm
              subst e_
              skip
              refine lv_iload_n hx hb dX0_sendOver_143 rfl (lv_at hl 3 rfl) ?_
              refine lv_icmp_ne (tgt := 188) hx hb dX0_sendOver_144 (by decide) (fun c_49 => ?_) (fun c_49 => ?_)
              · have t_49 : ¬ y_41.toInt = a1.toInt := fun h => c_49 (Int32.toInt_inj.mp h)
                obtain ⟨y_50, ey_50⟩ : ∃ y : Int32, y = x5_13 + 1 := ⟨_, rfl⟩
                have ty_50 : y_50.toInt = x5_13.toInt + (1 : Int32).toInt := by rw [ey_50]; exact addI (by omega) (by omega)
                refine lv_iinc (v := y_50) (lv' := [(5, .int y_50), (4, .int x4_13), (0, .ref xc), (1, .int a1), (2, .int a2), (3, .int a3)]) hx hb dX0_sendOver_188 hl (k := 0) rfl (by rw [ey_50]; rfl) (by decide) rfl (fun ls hl => ?_)
                refine lv_goto (tgt := 30) hx hb dX0_sendOver_191 (by decide) ?_
                exact ih_13 y_50 x4_13 c_c4_13 _ _ _ (by omega) (by first | with_reducible assumption | omega | assumption) (by first | with_reducible assumption | omega | assumption) hP hD hS (lv_sub hl [0, 1, 2, 3, 4, 5] rfl)
              · have t_49 : y_41.toInt = a1.toInt := congrArg Int32.toInt c_49
                refine lv_iload hx hb dX0_sendOver_147 (lv_at hl 1 rfl) ?_
                refine lv_aload_n hx hb dX0_sendOver_149 rfl (lv_at hl 2 rfl) ?_
                refine va_get (ci := 0) (v := .ref c6) (C := RX0) (T := TX0) (N := 9) hx hb hts (fun _ h => List.mem_cons_of_mem _ (List.mem_append_left _ (List.mem_append_right _ h))) hown hK.1 hP 0 rfl rfl 6 (by decide) (hts (.fieldLink RX0 26 "CutAtlas$Current" "letsBack" "[I") (by decide +kernel)) (fun _ h9 => h9) rfl dX0_sendOver_150 ?_
                refine lv_iload hx hb dX0_sendOver_153 (lv_at hl 0 rfl) ?_
                have h_51 : vp_in x5_13 40 := in_I (by omega) (by omega)
                refine va_iald hx hb hK.1 hP 19 0 rfl rfl (i := x5_13) h_51 dX0_sendOver_155 ?_
                refine lv_topi (fun y_52 ey_52 => ?_)
                refine lv_aload_n hx hb dX0_sendOver_156 rfl (lv_at hl 2 rfl) ?_
                refine va_get (ci := 0) (v := .ref c4) (C := RX0) (T := TX0) (N := 9) hx hb hts (fun _ h => List.mem_cons_of_mem _ (List.mem_append_left _ (List.mem_append_right _ h))) hown hK.1 hP 0 rfl rfl 4 (by decide) (hts (.fieldLink RX0 19 "CutAtlas$Current" "flowing" "[I") (by decide +kernel)) (fun _ h9 => h9) rfl dX0_sendOver_157 ?_
                refine lv_iload hx hb dX0_sendOver_160 (lv_at hl 0 rfl) ?_
                have h_53 : vp_in x5_13 40 := in_I (by omega) (by omega)
                refine va_iald hx hb hK.1 hP 17 0 rfl rfl (i := x5_13) h_53 dX0_sendOver_162 ?_
                refine lv_topi (fun y_54 ey_54 => ?_)
                refine lv_iadd hx hb dX0_sendOver_163 ?_
                refine lv_topi (fun y_55 ey_55 => ?_)
                refine va_mmin hx hb (by rw [hml]; exact hl.1.symm) hown (hts (.methodLink RX0 101 Lib.Math.min.name) (by decide +kernel)) (hts (.static Lib.Math.min.name) (by decide +kernel)) (hts (.initialized "java/lang/Math") (by decide +kernel)) (hts (.code Lib.Math.min.name Lib.Math.min.code 2 (some .int)) (by decide +kernel)) (Nat.le_of_ble_eq_true rfl) (Nat.le_of_ble_eq_true rfl) (Nat.le_of_ble_eq_true rfl) (Nat.le_of_ble_eq_true rfl) dX0_sendOver_164 ?_
                refine lv_topi (fun y_56 ey_56 => ?_)
                have ty_56 : y_56 = x4_13 ∨ y_56 = y_55 := by rw [ey_56]; split <;> simp
                have iy_56 : y_56.toInt = x4_13.toInt ∨ y_56.toInt = y_55.toInt := by rcases ty_56 with h | h <;> rw [h] <;> simp
                refine lv_istore (lv' := [(6, .int y_56), (5, .int x5_13), (4, .int x4_13), (0, .ref xc), (1, .int a1), (2, .int a2), (3, .int a3)]) hx hb dX0_sendOver_167 hl (by decide) rfl (fun ls hl => ?_)
                refine lv_aload_n hx hb dX0_sendOver_169 rfl (lv_at hl 3 rfl) ?_
                refine va_get (ci := 0) (v := .ref c4) (C := RX0) (T := TX0) (N := 9) hx hb hts (fun _ h => List.mem_cons_of_mem _ (List.mem_append_left _ (List.mem_append_right _ h))) hown hK.1 hP 0 rfl rfl 4 (by decide) (hts (.fieldLink RX0 19 "CutAtlas$Current" "flowing" "[I") (by decide +kernel)) (fun _ h9 => h9) rfl dX0_sendOver_170 ?_
                refine lv_iload hx hb dX0_sendOver_173 (lv_at hl 1 rfl) ?_
                refine lv_dup2_11 hx hb dX0_sendOver_175 rfl rfl ?_
                have h_57 : vp_in x5_13 40 := in_I (by omega) (by omega)
                refine va_iald hx hb hK.1 hP 17 0 rfl rfl (i := x5_13) h_57 dX0_sendOver_176 ?_
                refine lv_topi (fun y_58 ey_58 => ?_)
                have e_ := (ey_58.trans ey_54.symm).symm
                subst e_
                skip
                refine lv_iload hx hb dX0_sendOver_177 (lv_at hl 0 rfl) ?_
                refine lv_isub hx hb dX0_sendOver_179 ?_
                refine lv_topi (fun y_59 ey_59 => ?_)
                have h_60 : vp_in x5_13 40 := in_I (by omega) (by omega)
                refine va_iast hx hb hK.1 hP hD hS 17 0 rfl rfl (i := x5_13) h_60 dX0_sendOver_180 (fun H locs hP hD hS => ?_)
                obtain ⟨f_61, ef_61⟩ : ∃ g : Nat → Int32, g = upd c_c4_13 x5_13.toNatClampNeg y_59 := ⟨_, rfl⟩
                refine pd_K (D := D) (cl := vwCl) (H := H) (A := A) [(xc, .inr (0, [.ref xn, .ref xk, .ref clo, .ref cro, .ref c4, .ref c5, .ref c6, .ref c7, .ref c8])), (xn, .inr (3, [.int vp, .int vn, .ref n1, .ref n2, .ref n3, .ref n4, .ref n5])), (n2, .inl (cy 0, 40, .inl fs)), (n3, .inl (cy 0, 40, .inl fe)), (cro, .inl (cy 6, 12, .inr (.inr (.inr (.inr (gf_ rr)))))), ((rr 0), .inl (cy 0, 12, .inl (M_12 0))), ((rr 1), .inl (cy 0, 12, .inl (M_12 1))), ((rr 2), .inl (cy 0, 12, .inl (M_12 2))), ((rr 3), .inl (cy 0, 12, .inl (M_12 3))), ((rr 4), .inl (cy 0, 12, .inl (M_12 4))), ((rr 5), .inl (cy 0, 12, .inl (M_12 5))), ((rr 6), .inl (cy 0, 12, .inl (M_12 6))), ((rr 7), .inl (cy 0, 12, .inl (M_12 7))), ((rr 8), .inl (cy 0, 12, .inl (M_12 8))), ((rr 9), .inl (cy 0, 12, .inl (M_12 9))), ((rr 10), .inl (cy 0, 12, .inl (M_12 10))), ((rr 11), .inl (cy 0, 12, .inl (M_12 11))), (c4, .inl (cy 0, 40, .inl f_61)), (c5, .inl (cy 0, 40, .inl f5)), (c6, .inl (cy 0, 40, .inl f6))] (by rw [ef_61]; exact hP) (by rw [ef_61]; exact hD) (fun hP hD => ?_)
                refine lv_iload hx hb dX0_sendOver_181 (lv_at hl 2 rfl) ?_
                refine lv_iload hx hb dX0_sendOver_183 (lv_at hl 0 rfl) ?_
                refine lv_isub hx hb dX0_sendOver_185 ?_
                refine lv_topi (fun y_62 ey_62 => ?_)
                refine lv_istore (lv' := [(4, .int y_62), (6, .int y_56), (5, .int x5_13), (0, .ref xc), (1, .int a1), (2, .int a2), (3, .int a3)]) hx hb dX0_sendOver_186 hl (by decide) rfl (fun ls hl => ?_)
                obtain ⟨y_63, ey_63⟩ : ∃ y : Int32, y = x5_13 + 1 := ⟨_, rfl⟩
                have ty_63 : y_63.toInt = x5_13.toInt + (1 : Int32).toInt := by rw [ey_63]; exact addI (by omega) (by omega)
                refine lv_iinc (v := y_63) (lv' := [(5, .int y_63), (4, .int y_62), (6, .int y_56), (0, .ref xc), (1, .int a1), (2, .int a2), (3, .int a3)]) hx hb dX0_sendOver_188 hl (k := 2) rfl (by rw [ey_63]; rfl) (by decide) rfl (fun ls hl => ?_)
                refine lv_goto (tgt := 30) hx hb dX0_sendOver_191 (by decide) ?_
                exact ih_13 y_63 y_62 f_61 _ _ _ (by omega) (by first | with_reducible assumption | omega | assumption) (by first | with_reducible assumption | omega | assumption) hP hD hS (lv_sub hl [0, 1, 3, 4, 5, 6] rfl)
          · have t_42 : y_41.toInt = a2.toInt := congrArg Int32.toInt c_42
            refine lv_iload hx hb dX0_sendOver_75 (lv_at hl 1 rfl) ?_
            refine lv_aload_n hx hb dX0_sendOver_77 rfl (lv_at hl 2 rfl) ?_
            refine va_get (ci := 0) (v := .ref c5) (C := RX0) (T := TX0) (N := 9) hx hb hts (fun _ h => List.mem_cons_of_mem _ (List.mem_append_left _ (List.mem_append_right _ h))) hown hK.1 hP 0 rfl rfl 5 (by decide) (hts (.fieldLink RX0 23 "CutAtlas$Current" "letsForth" "[I") (by decide +kernel)) (fun _ h9 => h9) rfl dX0_sendOver_78 ?_
            refine lv_iload hx hb dX0_sendOver_81 (lv_at hl 0 rfl) ?_
            have h_64 : vp_in x5_13 40 := in_I (by omega) (by omega)
            refine va_iald hx hb hK.1 hP 18 0 rfl rfl (i := x5_13) h_64 dX0_sendOver_83 ?_
            refine lv_topi (fun y_65 ey_65 => ?_)
            refine lv_aload_n hx hb dX0_sendOver_84 rfl (lv_at hl 2 rfl) ?_
            refine va_get (ci := 0) (v := .ref c4) (C := RX0) (T := TX0) (N := 9) hx hb hts (fun _ h => List.mem_cons_of_mem _ (List.mem_append_left _ (List.mem_append_right _ h))) hown hK.1 hP 0 rfl rfl 4 (by decide) (hts (.fieldLink RX0 19 "CutAtlas$Current" "flowing" "[I") (by decide +kernel)) (fun _ h9 => h9) rfl dX0_sendOver_85 ?_
            refine lv_iload hx hb dX0_sendOver_88 (lv_at hl 0 rfl) ?_
            have h_66 : vp_in x5_13 40 := in_I (by omega) (by omega)
            refine va_iald hx hb hK.1 hP 17 0 rfl rfl (i := x5_13) h_66 dX0_sendOver_90 ?_
            refine lv_topi (fun y_67 ey_67 => ?_)
            refine lv_isub hx hb dX0_sendOver_91 ?_
            refine lv_topi (fun y_68 ey_68 => ?_)
            refine va_mmin hx hb (by rw [hml]; exact hl.1.symm) hown (hts (.methodLink RX0 101 Lib.Math.min.name) (by decide +kernel)) (hts (.static Lib.Math.min.name) (by decide +kernel)) (hts (.initialized "java/lang/Math") (by decide +kernel)) (hts (.code Lib.Math.min.name Lib.Math.min.code 2 (some .int)) (by decide +kernel)) (Nat.le_of_ble_eq_true rfl) (Nat.le_of_ble_eq_true rfl) (Nat.le_of_ble_eq_true rfl) (Nat.le_of_ble_eq_true rfl) dX0_sendOver_92 ?_
            refine lv_topi (fun y_69 ey_69 => ?_)
            have ty_69 : y_69 = x4_13 ∨ y_69 = y_68 := by rw [ey_69]; split <;> simp
            have iy_69 : y_69.toInt = x4_13.toInt ∨ y_69.toInt = y_68.toInt := by rcases ty_69 with h | h <;> rw [h] <;> simp
            refine lv_istore (lv' := [(6, .int y_69), (5, .int x5_13), (4, .int x4_13), (0, .ref xc), (1, .int a1), (2, .int a2), (3, .int a3)]) hx hb dX0_sendOver_95 hl (by decide) rfl (fun ls hl => ?_)
            refine lv_aload_n hx hb dX0_sendOver_97 rfl (lv_at hl 3 rfl) ?_
            refine va_get (ci := 0) (v := .ref c4) (C := RX0) (T := TX0) (N := 9) hx hb hts (fun _ h => List.mem_cons_of_mem _ (List.mem_append_left _ (List.mem_append_right _ h))) hown hK.1 hP 0 rfl rfl 4 (by decide) (hts (.fieldLink RX0 19 "CutAtlas$Current" "flowing" "[I") (by decide +kernel)) (fun _ h9 => h9) rfl dX0_sendOver_98 ?_
            refine lv_iload hx hb dX0_sendOver_101 (lv_at hl 1 rfl) ?_
            refine lv_dup2_11 hx hb dX0_sendOver_103 rfl rfl ?_
            have h_70 : vp_in x5_13 40 := in_I (by omega) (by omega)
            refine va_iald hx hb hK.1 hP 17 0 rfl rfl (i := x5_13) h_70 dX0_sendOver_104 ?_
            refine lv_topi (fun y_71 ey_71 => ?_)
            have e_ := (ey_71.trans ey_67.symm).symm
            subst e_
            skip
            refine lv_iload hx hb dX0_sendOver_105 (lv_at hl 0 rfl) ?_
            refine lv_iadd hx hb dX0_sendOver_107 ?_
            refine lv_topi (fun y_72 ey_72 => ?_)
            have h_73 : vp_in x5_13 40 := in_I (by omega) (by omega)
            refine va_iast hx hb hK.1 hP hD hS 17 0 rfl rfl (i := x5_13) h_73 dX0_sendOver_108 (fun H locs hP hD hS => ?_)
            obtain ⟨f_74, ef_74⟩ : ∃ g : Nat → Int32, g = upd c_c4_13 x5_13.toNatClampNeg y_72 := ⟨_, rfl⟩
            refine pd_K (D := D) (cl := vwCl) (H := H) (A := A) [(xc, .inr (0, [.ref xn, .ref xk, .ref clo, .ref cro, .ref c4, .ref c5, .ref c6, .ref c7, .ref c8])), (xn, .inr (3, [.int vp, .int vn, .ref n1, .ref n2, .ref n3, .ref n4, .ref n5])), (n2, .inl (cy 0, 40, .inl fs)), (n3, .inl (cy 0, 40, .inl fe)), (cro, .inl (cy 6, 12, .inr (.inr (.inr (.inr (gf_ rr)))))), ((rr 0), .inl (cy 0, 12, .inl (M_12 0))), ((rr 1), .inl (cy 0, 12, .inl (M_12 1))), ((rr 2), .inl (cy 0, 12, .inl (M_12 2))), ((rr 3), .inl (cy 0, 12, .inl (M_12 3))), ((rr 4), .inl (cy 0, 12, .inl (M_12 4))), ((rr 5), .inl (cy 0, 12, .inl (M_12 5))), ((rr 6), .inl (cy 0, 12, .inl (M_12 6))), ((rr 7), .inl (cy 0, 12, .inl (M_12 7))), ((rr 8), .inl (cy 0, 12, .inl (M_12 8))), ((rr 9), .inl (cy 0, 12, .inl (M_12 9))), ((rr 10), .inl (cy 0, 12, .inl (M_12 10))), ((rr 11), .inl (cy 0, 12, .inl (M_12 11))), (c4, .inl (cy 0, 40, .inl f_74)), (c5, .inl (cy 0, 40, .inl f5)), (c6, .inl (cy 0, 40, .inl f6))] (by rw [ef_74]; exact hP) (by rw [ef_74]; exact hD) (fun hP hD => ?_)
            refine lv_iload hx hb dX0_sendOver_109 (lv_at hl 2 rfl) ?_
            refine lv_iload hx hb dX0_sendOver_111 (lv_at hl 0 rfl) ?_
            refine lv_isub hx hb dX0_sendOver_113 ?_
            refine lv_topi (fun y_75 ey_75 => ?_)
            refine lv_istore (lv' := [(4, .int y_75), (6, .int y_69), (5, .int x5_13), (0, .ref xc), (1, .int a1), (2, .int a2), (3, .int a3)]) hx hb dX0_sendOver_114 hl (by decide) rfl (fun ls hl => ?_)
            refine lv_goto (tgt := 188) hx hb dX0_sendOver_116 (by decide) ?_
            obtain ⟨y_76, ey_76⟩ : ∃ y : Int32, y = x5_13 + 1 := ⟨_, rfl⟩
            have ty_76 : y_76.toInt = x5_13.toInt + (1 : Int32).toInt := by rw [ey_76]; exact addI (by omega) (by omega)
            refine lv_iinc (v := y_76) (lv' := [(5, .int y_76), (4, .int y_75), (6, .int y_69), (0, .ref xc), (1, .int a1), (2, .int a2), (3, .int a3)]) hx hb dX0_sendOver_188 hl (k := 2) rfl (by rw [ey_76]; rfl) (by decide) rfl (fun ls hl => ?_)
            refine lv_goto (tgt := 30) hx hb dX0_sendOver_191 (by decide) ?_
            exact ih_13 y_76 y_75 f_74 _ _ _ (by omega) (by first | with_reducible assumption | omega | assumption) (by first | with_reducible assumption | omega | assumption) hP hD hS (lv_sub hl [0, 1, 3, 4, 5, 6] rfl)
end

section
set_option maxHeartbeats 4000000 in
set_option maxRecDepth 100000 in
theorem c_X0_sendAlongWay (l : Launch) (D : va_G) (cy : Nat → ClassId) (sz : Nat) (xc : Nat) (xk : Nat) (clo : Nat) (cro : Nat) (c4 : Nat) (c5 : Nat) (c6 : Nat) (c7 : Nat) (c8 : Nat) (xn : Nat) (n1 : Nat) (n2 : Nat) (n3 : Nat) (n4 : Nat) (n5 : Nat) (vp : Int32) (vn : Int32) (fs : Nat → Int32) (fe : Nat → Int32) (rr : Nat → Nat) (Mr : Nat → Nat → Int32) (f4 : Nat → Int32) (f5 : Nat → Int32) (f6 : Nat → Int32) (f8 : Nat → Int32) (a1 : Int32) (a2 : Int32) (hvn : 0 ≤ vn.toInt ∧ vn.toInt ≤ 40) (q2 : 0 ≤ a2.toInt ∧ a2.toInt ≤ 11) (r_f8 : rng f8 12 (0) (11)) : Met l yX0_sendAlongWay wsX0_sendAlongWay ({ frames := 2, cells := 0, slots := 0, locals := 39 }) (va_Pc [.ref xc, .int a1, .int a2] (fun U => U.heap.size = sz ∧ va_P D vwCl [(xc, .inr (0, [.ref xn, .ref xk, .ref clo, .ref cro, .ref c4, .ref c5, .ref c6, .ref c7, .ref c8])), (xn, .inr (3, [.int vp, .int vn, .ref n1, .ref n2, .ref n3, .ref n4, .ref n5])), (n2, .inl (cy 0, 40, .inl fs)), (n3, .inl (cy 0, 40, .inl fe)), (cro, .inl (cy 6, 12, .inr (.inr (.inr (.inr (gf_ rr)))))), ((rr 0), .inl (cy 0, 12, .inl (Mr 0))), ((rr 1), .inl (cy 0, 12, .inl (Mr 1))), ((rr 2), .inl (cy 0, 12, .inl (Mr 2))), ((rr 3), .inl (cy 0, 12, .inl (Mr 3))), ((rr 4), .inl (cy 0, 12, .inl (Mr 4))), ((rr 5), .inl (cy 0, 12, .inl (Mr 5))), ((rr 6), .inl (cy 0, 12, .inl (Mr 6))), ((rr 7), .inl (cy 0, 12, .inl (Mr 7))), ((rr 8), .inl (cy 0, 12, .inl (Mr 8))), ((rr 9), .inl (cy 0, 12, .inl (Mr 9))), ((rr 10), .inl (cy 0, 12, .inl (Mr 10))), ((rr 11), .inl (cy 0, 12, .inl (Mr 11))), (c4, .inl (cy 0, 40, .inl f4)), (c5, .inl (cy 0, 40, .inl f5)), (c6, .inl (cy 0, 40, .inl f6)), (c8, .inl (cy 0, 12, .inl f8))] U.heap ∧ kg_ D cy U ∧ va_D (fun _ => True) [(xc, .inr (0, [.ref xn, .ref xk, .ref clo, .ref cro, .ref c4, .ref c5, .ref c6, .ref c7, .ref c8])), (xn, .inr (3, [.int vp, .int vn, .ref n1, .ref n2, .ref n3, .ref n4, .ref n5])), (n2, .inl (cy 0, 40, .inl fs)), (n3, .inl (cy 0, 40, .inl fe)), (cro, .inl (cy 6, 12, .inr (.inr (.inr (.inr (gf_ rr)))))), ((rr 0), .inl (cy 0, 12, .inl (Mr 0))), ((rr 1), .inl (cy 0, 12, .inl (Mr 1))), ((rr 2), .inl (cy 0, 12, .inl (Mr 2))), ((rr 3), .inl (cy 0, 12, .inl (Mr 3))), ((rr 4), .inl (cy 0, 12, .inl (Mr 4))), ((rr 5), .inl (cy 0, 12, .inl (Mr 5))), ((rr 6), .inl (cy 0, 12, .inl (Mr 6))), ((rr 7), .inl (cy 0, 12, .inl (Mr 7))), ((rr 8), .inl (cy 0, 12, .inl (Mr 8))), ((rr 9), .inl (cy 0, 12, .inl (Mr 9))), ((rr 10), .inl (cy 0, 12, .inl (Mr 10))), ((rr 11), .inl (cy 0, 12, .inl (Mr 11))), (c4, .inl (cy 0, 40, .inl f4)), (c5, .inl (cy 0, 40, .inl f5)), (c6, .inl (cy 0, 40, .inl f6)), (c8, .inl (cy 0, 12, .inl f8))])) (va_Qi (fun (r : Int32) (_ : Unit) => True) (fun (_ : Unit) (t : State) => ∃ (eMr : Nat → Nat → Int32), ∃ (e4 : Nat → Int32), va_P D vwCl [(xc, .inr (0, [.ref xn, .ref xk, .ref clo, .ref cro, .ref c4, .ref c5, .ref c6, .ref c7, .ref c8])), (xn, .inr (3, [.int vp, .int vn, .ref n1, .ref n2, .ref n3, .ref n4, .ref n5])), (n2, .inl (cy 0, 40, .inl fs)), (n3, .inl (cy 0, 40, .inl fe)), (cro, .inl (cy 6, 12, .inr (.inr (.inr (.inr (gf_ rr)))))), ((rr 0), .inl (cy 0, 12, .inl (eMr 0))), ((rr 1), .inl (cy 0, 12, .inl (eMr 1))), ((rr 2), .inl (cy 0, 12, .inl (eMr 2))), ((rr 3), .inl (cy 0, 12, .inl (eMr 3))), ((rr 4), .inl (cy 0, 12, .inl (eMr 4))), ((rr 5), .inl (cy 0, 12, .inl (eMr 5))), ((rr 6), .inl (cy 0, 12, .inl (eMr 6))), ((rr 7), .inl (cy 0, 12, .inl (eMr 7))), ((rr 8), .inl (cy 0, 12, .inl (eMr 8))), ((rr 9), .inl (cy 0, 12, .inl (eMr 9))), ((rr 10), .inl (cy 0, 12, .inl (eMr 10))), ((rr 11), .inl (cy 0, 12, .inl (eMr 11))), (c4, .inl (cy 0, 40, .inl e4)), (c5, .inl (cy 0, 40, .inl f5)), (c6, .inl (cy 0, 40, .inl f6)), (c8, .inl (cy 0, 12, .inl f8))] t.heap ∧ va_D (va_A [(xc, .inr (0, [.ref xn, .ref xk, .ref clo, .ref cro, .ref c4, .ref c5, .ref c6, .ref c7, .ref c8])), (xn, .inr (3, [.int vp, .int vn, .ref n1, .ref n2, .ref n3, .ref n4, .ref n5])), (n2, .inl (cy 0, 40, .inl fs)), (n3, .inl (cy 0, 40, .inl fe)), (cro, .inl (cy 6, 12, .inr (.inr (.inr (.inr (gf_ rr)))))), ((rr 0), .inl (cy 0, 12, .inl (Mr 0))), ((rr 1), .inl (cy 0, 12, .inl (Mr 1))), ((rr 2), .inl (cy 0, 12, .inl (Mr 2))), ((rr 3), .inl (cy 0, 12, .inl (Mr 3))), ((rr 4), .inl (cy 0, 12, .inl (Mr 4))), ((rr 5), .inl (cy 0, 12, .inl (Mr 5))), ((rr 6), .inl (cy 0, 12, .inl (Mr 6))), ((rr 7), .inl (cy 0, 12, .inl (Mr 7))), ((rr 8), .inl (cy 0, 12, .inl (Mr 8))), ((rr 9), .inl (cy 0, 12, .inl (Mr 9))), ((rr 10), .inl (cy 0, 12, .inl (Mr 10))), ((rr 11), .inl (cy 0, 12, .inl (Mr 11))), (c4, .inl (cy 0, 40, .inl f4)), (c5, .inl (cy 0, 40, .inl f5)), (c6, .inl (cy 0, 40, .inl f6)), (c8, .inl (cy 0, 12, .inl f8))] sz) [(xc, .inr (0, [.ref xn, .ref xk, .ref clo, .ref cro, .ref c4, .ref c5, .ref c6, .ref c7, .ref c8])), (xn, .inr (3, [.int vp, .int vn, .ref n1, .ref n2, .ref n3, .ref n4, .ref n5])), (n2, .inl (cy 0, 40, .inl fs)), (n3, .inl (cy 0, 40, .inl fe)), (cro, .inl (cy 6, 12, .inr (.inr (.inr (.inr (gf_ rr)))))), ((rr 0), .inl (cy 0, 12, .inl (eMr 0))), ((rr 1), .inl (cy 0, 12, .inl (eMr 1))), ((rr 2), .inl (cy 0, 12, .inl (eMr 2))), ((rr 3), .inl (cy 0, 12, .inl (eMr 3))), ((rr 4), .inl (cy 0, 12, .inl (eMr 4))), ((rr 5), .inl (cy 0, 12, .inl (eMr 5))), ((rr 6), .inl (cy 0, 12, .inl (eMr 6))), ((rr 7), .inl (cy 0, 12, .inl (eMr 7))), ((rr 8), .inl (cy 0, 12, .inl (eMr 8))), ((rr 9), .inl (cy 0, 12, .inl (eMr 9))), ((rr 10), .inl (cy 0, 12, .inl (eMr 10))), ((rr 11), .inl (cy 0, 12, .inl (eMr 11))), (c4, .inl (cy 0, 40, .inl e4)), (c5, .inl (cy 0, 40, .inl f5)), (c6, .inl (cy 0, 40, .inl f6)), (c8, .inl (cy 0, 12, .inl f8))]) (va_A [(xc, .inr (0, [.ref xn, .ref xk, .ref clo, .ref cro, .ref c4, .ref c5, .ref c6, .ref c7, .ref c8])), (xn, .inr (3, [.int vp, .int vn, .ref n1, .ref n2, .ref n3, .ref n4, .ref n5])), (n2, .inl (cy 0, 40, .inl fs)), (n3, .inl (cy 0, 40, .inl fe)), (cro, .inl (cy 6, 12, .inr (.inr (.inr (.inr (gf_ rr)))))), ((rr 0), .inl (cy 0, 12, .inl (Mr 0))), ((rr 1), .inl (cy 0, 12, .inl (Mr 1))), ((rr 2), .inl (cy 0, 12, .inl (Mr 2))), ((rr 3), .inl (cy 0, 12, .inl (Mr 3))), ((rr 4), .inl (cy 0, 12, .inl (Mr 4))), ((rr 5), .inl (cy 0, 12, .inl (Mr 5))), ((rr 6), .inl (cy 0, 12, .inl (Mr 6))), ((rr 7), .inl (cy 0, 12, .inl (Mr 7))), ((rr 8), .inl (cy 0, 12, .inl (Mr 8))), ((rr 9), .inl (cy 0, 12, .inl (Mr 9))), ((rr 10), .inl (cy 0, 12, .inl (Mr 10))), ((rr 11), .inl (cy 0, 12, .inl (Mr 11))), (c4, .inl (cy 0, 40, .inl f4)), (c5, .inl (cy 0, 40, .inl f5)), (c6, .inl (cy 0, 40, .inl f6)), (c8, .inl (cy 0, 12, .inl f8))] sz)) 0 0 (va_A [(xc, .inr (0, [.ref xn, .ref xk, .ref clo, .ref cro, .ref c4, .ref c5, .ref c6, .ref c7, .ref c8])), (xn, .inr (3, [.int vp, .int vn, .ref n1, .ref n2, .ref n3, .ref n4, .ref n5])), (n2, .inl (cy 0, 40, .inl fs)), (n3, .inl (cy 0, 40, .inl fe)), (cro, .inl (cy 6, 12, .inr (.inr (.inr (.inr (gf_ rr)))))), ((rr 0), .inl (cy 0, 12, .inl (Mr 0))), ((rr 1), .inl (cy 0, 12, .inl (Mr 1))), ((rr 2), .inl (cy 0, 12, .inl (Mr 2))), ((rr 3), .inl (cy 0, 12, .inl (Mr 3))), ((rr 4), .inl (cy 0, 12, .inl (Mr 4))), ((rr 5), .inl (cy 0, 12, .inl (Mr 5))), ((rr 6), .inl (cy 0, 12, .inl (Mr 6))), ((rr 7), .inl (cy 0, 12, .inl (Mr 7))), ((rr 8), .inl (cy 0, 12, .inl (Mr 8))), ((rr 9), .inl (cy 0, 12, .inl (Mr 9))), ((rr 10), .inl (cy 0, 12, .inl (Mr 10))), ((rr 11), .inl (cy 0, 12, .inl (Mr 11))), (c4, .inl (cy 0, 40, .inl f4)), (c5, .inl (cy 0, 40, .inl f5)), (c6, .inl (cy 0, 40, .inl f6)), (c8, .inl (cy 0, 12, .inl f8))] sz) := by
  refine ofQ (cc := cX0_sendAlongWay) (maxL := 6) (ret := (some .int)) (by decide) rfl ?_
  intro p e s m args below meth c s₁ Q hQ B hml hv
  obtain ⟨rfl, hsz, hP, hK, hD0⟩ := hv
  have hG := hK.2
  have hK := hK.1
  have hx := B.exec
  have hb := B.bytes
  have hr := B.returns
  have hts := atoms_spec (ws := wsX0_sendAlongWay) B.pre
  have hown : s.vm.findClass RX0 = some m.cls := by have h_ := findClass_of_methodNamed B.named; exact h_
  have hlocks := B.notSynchronized
  subst hsz
  have hD := hD0.self (sz := s.heap.size)
  generalize hAe : va_A [(xc, .inr (0, [.ref xn, .ref xk, .ref clo, .ref cro, .ref c4, .ref c5, .ref c6, .ref c7, .ref c8])), (xn, .inr (3, [.int vp, .int vn, .ref n1, .ref n2, .ref n3, .ref n4, .ref n5])), (n2, .inl (cy 0, 40, .inl fs)), (n3, .inl (cy 0, 40, .inl fe)), (cro, .inl (cy 6, 12, .inr (.inr (.inr (.inr (gf_ rr)))))), ((rr 0), .inl (cy 0, 12, .inl (Mr 0))), ((rr 1), .inl (cy 0, 12, .inl (Mr 1))), ((rr 2), .inl (cy 0, 12, .inl (Mr 2))), ((rr 3), .inl (cy 0, 12, .inl (Mr 3))), ((rr 4), .inl (cy 0, 12, .inl (Mr 4))), ((rr 5), .inl (cy 0, 12, .inl (Mr 5))), ((rr 6), .inl (cy 0, 12, .inl (Mr 6))), ((rr 7), .inl (cy 0, 12, .inl (Mr 7))), ((rr 8), .inl (cy 0, 12, .inl (Mr 8))), ((rr 9), .inl (cy 0, 12, .inl (Mr 9))), ((rr 10), .inl (cy 0, 12, .inl (Mr 10))), ((rr 11), .inl (cy 0, 12, .inl (Mr 11))), (c4, .inl (cy 0, 40, .inl f4)), (c5, .inl (cy 0, 40, .inl f5)), (c6, .inl (cy 0, 40, .inl f6)), (c8, .inl (cy 0, 12, .inl f8))] s.heap.size = A at hD hQ
  have hA : ∀ q : Nat, s.heap.size ≤ q → A q := fun q h => by rw [← hAe]; exact Or.inr h
  have hS : va_S A s.heap s.heap [] := va_S.rf
  have hl := lv_entry ([.ref xc, .int a1, .int a2]) (n := 6) (Nat.le_of_ble_eq_true rfl)
  rw [lg_entry_eq]
  generalize (lg_sl ([.ref xc, .int a1, .int a2]) ++ List.replicate (6 - (lg_sl ([.ref xc, .int a1, .int a2])).length) Slot.unset).toArray = ls at hl ⊢
  have hl : lv_has ls 6 [(0, .ref xc), (1, .int a1), (2, .int a2)] := hl
  have z0 : (0 : Int32).toInt = 0 := by decide
  have z1 : (1 : Int32).toInt = 1 := by decide
  have z12 : (12 : Int32).toInt = 12 := by decide
  have z1000000000 : (1000000000 : Int32).toInt = 1000000000 := by decide
  refine lv_ldc (v := 1000000000) hx hb hown (hts (.constant RX0 100 (1000000000)) (by decide +kernel)) dX0_sendAlongWay_0 ?_
  refine lv_istore_n (lv' := [(3, .int 1000000000), (0, .ref xc), (1, .int a1), (2, .int a2)]) hx hb dX0_sendAlongWay_2 rfl hl (by decide) rfl (fun ls hl => ?_)
  refine lv_iload_n hx hb dX0_sendAlongWay_3 rfl (lv_at hl 3 rfl) ?_
  refine lv_istore (lv' := [(4, .int a2), (3, .int 1000000000), (0, .ref xc), (1, .int a1), (2, .int a2)]) hx hb dX0_sendAlongWay_4 hl (by decide) rfl (fun ls hl => ?_)
  refine lv_iconst (v := 0) hx hb dX0_sendAlongWay_6 (by decide) ?_
  refine lv_istore (lv' := [(5, .int 0), (4, .int a2), (3, .int 1000000000), (0, .ref xc), (1, .int a1), (2, .int a2)]) hx hb dX0_sendAlongWay_7 hl (by decide) rfl (fun ls hl => ?_)
  suffices LOOP_1 : ∀ (n_1 : Nat) (x5_1 : Int32) (x4_1 : Int32) (x3_1 : Int32) (H : Heap) (locs : List Loc) (ls : Array Slot), 12 - x5_1.toInt < (n_1 : Int) → (0 ≤ x4_1.toInt ∧ x4_1.toInt ≤ 11) → (0 ≤ x5_1.toInt) → (x5_1.toInt ≤ 12) → va_P D vwCl [(xc, .inr (0, [.ref xn, .ref xk, .ref clo, .ref cro, .ref c4, .ref c5, .ref c6, .ref c7, .ref c8])), (xn, .inr (3, [.int vp, .int vn, .ref n1, .ref n2, .ref n3, .ref n4, .ref n5])), (n2, .inl (cy 0, 40, .inl fs)), (n3, .inl (cy 0, 40, .inl fe)), (cro, .inl (cy 6, 12, .inr (.inr (.inr (.inr (gf_ rr)))))), ((rr 0), .inl (cy 0, 12, .inl (Mr 0))), ((rr 1), .inl (cy 0, 12, .inl (Mr 1))), ((rr 2), .inl (cy 0, 12, .inl (Mr 2))), ((rr 3), .inl (cy 0, 12, .inl (Mr 3))), ((rr 4), .inl (cy 0, 12, .inl (Mr 4))), ((rr 5), .inl (cy 0, 12, .inl (Mr 5))), ((rr 6), .inl (cy 0, 12, .inl (Mr 6))), ((rr 7), .inl (cy 0, 12, .inl (Mr 7))), ((rr 8), .inl (cy 0, 12, .inl (Mr 8))), ((rr 9), .inl (cy 0, 12, .inl (Mr 9))), ((rr 10), .inl (cy 0, 12, .inl (Mr 10))), ((rr 11), .inl (cy 0, 12, .inl (Mr 11))), (c4, .inl (cy 0, 40, .inl f4)), (c5, .inl (cy 0, 40, .inl f5)), (c6, .inl (cy 0, 40, .inl f6)), (c8, .inl (cy 0, 12, .inl f8))] H → va_D A [(xc, .inr (0, [.ref xn, .ref xk, .ref clo, .ref cro, .ref c4, .ref c5, .ref c6, .ref c7, .ref c8])), (xn, .inr (3, [.int vp, .int vn, .ref n1, .ref n2, .ref n3, .ref n4, .ref n5])), (n2, .inl (cy 0, 40, .inl fs)), (n3, .inl (cy 0, 40, .inl fe)), (cro, .inl (cy 6, 12, .inr (.inr (.inr (.inr (gf_ rr)))))), ((rr 0), .inl (cy 0, 12, .inl (Mr 0))), ((rr 1), .inl (cy 0, 12, .inl (Mr 1))), ((rr 2), .inl (cy 0, 12, .inl (Mr 2))), ((rr 3), .inl (cy 0, 12, .inl (Mr 3))), ((rr 4), .inl (cy 0, 12, .inl (Mr 4))), ((rr 5), .inl (cy 0, 12, .inl (Mr 5))), ((rr 6), .inl (cy 0, 12, .inl (Mr 6))), ((rr 7), .inl (cy 0, 12, .inl (Mr 7))), ((rr 8), .inl (cy 0, 12, .inl (Mr 8))), ((rr 9), .inl (cy 0, 12, .inl (Mr 9))), ((rr 10), .inl (cy 0, 12, .inl (Mr 10))), ((rr 11), .inl (cy 0, 12, .inl (Mr 11))), (c4, .inl (cy 0, 40, .inl f4)), (c5, .inl (cy 0, 40, .inl f5)), (c6, .inl (cy 0, 40, .inl f6)), (c8, .inl (cy 0, 12, .inl f8))] → va_S A s.heap H locs → lv_has ls 6 [(5, .int x5_1), (4, .int x4_1), (3, .int x3_1), (0, .ref xc), (1, .int a1), (2, .int a2)] → W p l e ({ frames := 2, cells := 0, slots := 0, locals := 39 } : Room) s m (([.ref xc, .int a1, .int a2] : List Value).toArray) below meth c H locs 0 0 Q (F0 m 9 ls []) from LOOP_1 ((12 - (0 : Int32).toInt).toNat + 1) (0 : Int32) a2 (1000000000 : Int32) _ _ _ (by omega) (by first | with_reducible assumption | omega | assumption) (by first | with_reducible assumption | omega | assumption) (by first | with_reducible assumption | omega | assumption) hP hD hS (lv_sub hl [0, 1, 2, 3, 4, 5] rfl)
  intro n_1
  induction n_1 with
  | zero =>
    intro x5_1 x4_1 x3_1 H locs ls hm v0_1 v1_1 v2_1 hP hD hS hl
    exact absurd hm (by omega)
  | succ n_1 ih_1 =>
    intro x5_1 x4_1 x3_1 H locs ls hm v0_1 v1_1 v2_1 hP hD hS hl
    refine lv_iload hx hb dX0_sendAlongWay_9 (lv_at hl 0 rfl) ?_
    refine lv_bipush (v := 12) hx hb dX0_sendAlongWay_11 (by decide) ?_
    refine lv_icmp_ge (tgt := 57) hx hb dX0_sendAlongWay_13 (by decide) (fun c_2 => ?_) (fun c_2 => ?_)
    · have t_2 : (12 : Int32).toInt ≤ x5_1.toInt := Int32.le_iff_toInt_le.mp c_2
      refine lv_iload_n hx hb dX0_sendAlongWay_57 rfl (lv_at hl 5 rfl) ?_
      refine lv_istore (lv' := [(4, .int a2), (5, .int x5_1), (3, .int x3_1), (0, .ref xc), (1, .int a1), (2, .int a2)]) hx hb dX0_sendAlongWay_58 hl (by decide) rfl (fun ls hl => ?_)
      refine lv_iconst (v := 0) hx hb dX0_sendAlongWay_60 (by decide) ?_
      refine lv_istore (lv' := [(5, .int 0), (4, .int a2), (3, .int x3_1), (0, .ref xc), (1, .int a1), (2, .int a2)]) hx hb dX0_sendAlongWay_61 hl (by decide) rfl (fun ls hl => ?_)
      suffices LOOP_3 : ∀ (n_3 : Nat) (x5_3 : Int32) (x4_3 : Int32) (m_rr_3 : Nat → Nat → Int32) (c_c4_3 : Nat → Int32) (H : Heap) (locs : List Loc) (ls : Array Slot), 12 - x5_3.toInt < (n_3 : Int) → (0 ≤ x4_3.toInt ∧ x4_3.toInt ≤ 11) → (0 ≤ x5_3.toInt) → (x5_3.toInt ≤ 12) → va_P D vwCl [(xc, .inr (0, [.ref xn, .ref xk, .ref clo, .ref cro, .ref c4, .ref c5, .ref c6, .ref c7, .ref c8])), (xn, .inr (3, [.int vp, .int vn, .ref n1, .ref n2, .ref n3, .ref n4, .ref n5])), (n2, .inl (cy 0, 40, .inl fs)), (n3, .inl (cy 0, 40, .inl fe)), (cro, .inl (cy 6, 12, .inr (.inr (.inr (.inr (gf_ rr)))))), ((rr 0), .inl (cy 0, 12, .inl (m_rr_3 0))), ((rr 1), .inl (cy 0, 12, .inl (m_rr_3 1))), ((rr 2), .inl (cy 0, 12, .inl (m_rr_3 2))), ((rr 3), .inl (cy 0, 12, .inl (m_rr_3 3))), ((rr 4), .inl (cy 0, 12, .inl (m_rr_3 4))), ((rr 5), .inl (cy 0, 12, .inl (m_rr_3 5))), ((rr 6), .inl (cy 0, 12, .inl (m_rr_3 6))), ((rr 7), .inl (cy 0, 12, .inl (m_rr_3 7))), ((rr 8), .inl (cy 0, 12, .inl (m_rr_3 8))), ((rr 9), .inl (cy 0, 12, .inl (m_rr_3 9))), ((rr 10), .inl (cy 0, 12, .inl (m_rr_3 10))), ((rr 11), .inl (cy 0, 12, .inl (m_rr_3 11))), (c4, .inl (cy 0, 40, .inl c_c4_3)), (c5, .inl (cy 0, 40, .inl f5)), (c6, .inl (cy 0, 40, .inl f6)), (c8, .inl (cy 0, 12, .inl f8))] H → va_D A [(xc, .inr (0, [.ref xn, .ref xk, .ref clo, .ref cro, .ref c4, .ref c5, .ref c6, .ref c7, .ref c8])), (xn, .inr (3, [.int vp, .int vn, .ref n1, .ref n2, .ref n3, .ref n4, .ref n5])), (n2, .inl (cy 0, 40, .inl fs)), (n3, .inl (cy 0, 40, .inl fe)), (cro, .inl (cy 6, 12, .inr (.inr (.inr (.inr (gf_ rr)))))), ((rr 0), .inl (cy 0, 12, .inl (m_rr_3 0))), ((rr 1), .inl (cy 0, 12, .inl (m_rr_3 1))), ((rr 2), .inl (cy 0, 12, .inl (m_rr_3 2))), ((rr 3), .inl (cy 0, 12, .inl (m_rr_3 3))), ((rr 4), .inl (cy 0, 12, .inl (m_rr_3 4))), ((rr 5), .inl (cy 0, 12, .inl (m_rr_3 5))), ((rr 6), .inl (cy 0, 12, .inl (m_rr_3 6))), ((rr 7), .inl (cy 0, 12, .inl (m_rr_3 7))), ((rr 8), .inl (cy 0, 12, .inl (m_rr_3 8))), ((rr 9), .inl (cy 0, 12, .inl (m_rr_3 9))), ((rr 10), .inl (cy 0, 12, .inl (m_rr_3 10))), ((rr 11), .inl (cy 0, 12, .inl (m_rr_3 11))), (c4, .inl (cy 0, 40, .inl c_c4_3)), (c5, .inl (cy 0, 40, .inl f5)), (c6, .inl (cy 0, 40, .inl f6)), (c8, .inl (cy 0, 12, .inl f8))] → va_S A s.heap H locs → lv_has ls 6 [(5, .int x5_3), (4, .int x4_3), (3, .int x3_1), (0, .ref xc), (1, .int a1), (2, .int a2)] → W p l e ({ frames := 2, cells := 0, slots := 0, locals := 39 } : Room) s m (([.ref xc, .int a1, .int a2] : List Value).toArray) below meth c H locs 0 0 Q (F0 m 63 ls []) from LOOP_3 ((12 - (0 : Int32).toInt).toNat + 1) (0 : Int32) a2 Mr f4 _ _ _ (by omega) (by first | with_reducible assumption | omega | assumption) (by first | with_reducible assumption | omega | assumption) (by first | with_reducible assumption | omega | assumption) hP hD hS (lv_sub hl [0, 1, 2, 3, 4, 5] rfl)
      intro n_3
      induction n_3 with
      | zero =>
        intro x5_3 x4_3 m_rr_3 c_c4_3 H locs ls hm v0_3 v1_3 v2_3 hP hD hS hl
        exact absurd hm (by omega)
      | succ n_3 ih_3 =>
        intro x5_3 x4_3 m_rr_3 c_c4_3 H locs ls hm v0_3 v1_3 v2_3 hP hD hS hl
        refine lv_iload hx hb dX0_sendAlongWay_63 (lv_at hl 0 rfl) ?_
        refine lv_bipush (v := 12) hx hb dX0_sendAlongWay_65 (by decide) ?_
        refine lv_icmp_ge (tgt := 105) hx hb dX0_sendAlongWay_67 (by decide) (fun c_4 => ?_) (fun c_4 => ?_)
        · have t_4 : (12 : Int32).toInt ≤ x5_3.toInt := Int32.le_iff_toInt_le.mp c_4
          refine lv_iload_n hx hb dX0_sendAlongWay_105 rfl (lv_at hl 2 rfl) ?_
          rw [hQ]
          exact W.iret (v := x3_1) hx hb hr (fun t ht hW => ⟨⟨x3_1, (), rfl, trivial, m_rr_3, c_c4_3, by rw [ht]; exact hP, hD⟩, hS.F ht⟩) hS.2.2 dX0_sendAlongWay_106
        · have t_4 : ¬ (12 : Int32).toInt ≤ x5_3.toInt := fun h => c_4 (Int32.le_iff_toInt_le.mpr h)
          refine lv_iload hx hb dX0_sendAlongWay_70 (lv_at hl 1 rfl) ?_
          refine lv_iload_n hx hb dX0_sendAlongWay_72 rfl (lv_at hl 4 rfl) ?_
          refine lv_icmp_eq (tgt := 105) hx hb dX0_sendAlongWay_73 (by decide) (fun c_5 => ?_) (fun c_5 => ?_)
          · have t_5 : x4_3.toInt = a1.toInt := congrArg Int32.toInt c_5
            refine lv_iload_n hx hb dX0_sendAlongWay_105 rfl (lv_at hl 2 rfl) ?_
            rw [hQ]
            exact W.iret (v := x3_1) hx hb hr (fun t ht hW => ⟨⟨x3_1, (), rfl, trivial, m_rr_3, c_c4_3, by rw [ht]; exact hP, hD⟩, hS.F ht⟩) hS.2.2 dX0_sendAlongWay_106
          · have t_5 : ¬ x4_3.toInt = a1.toInt := fun h => c_5 (Int32.toInt_inj.mp h)
            refine lv_aload_n hx hb dX0_sendAlongWay_76 rfl (lv_at hl 3 rfl) ?_
            refine lv_aload_n hx hb dX0_sendAlongWay_77 rfl (lv_at hl 3 rfl) ?_
            refine va_get (ci := 0) (v := .ref c8) (C := RX0) (T := TX0) (N := 9) hx hb hts (fun _ h => List.mem_cons_of_mem _ (List.mem_append_left _ (List.mem_append_right _ h))) hown hK.1 hP 0 rfl rfl 8 (by decide) (hts (.fieldLink RX0 32 "CutAtlas$Current" "cameFrom" "[I") (by decide +kernel)) (fun _ h9 => h9) rfl dX0_sendAlongWay_78 ?_
            refine lv_iload hx hb dX0_sendAlongWay_81 (lv_at hl 1 rfl) ?_
            have h_6 : vp_in x4_3 12 := in_I (by omega) (by omega)
            refine va_iald hx hb hK.1 hP 20 0 rfl rfl (i := x4_3) h_6 dX0_sendAlongWay_83 ?_
            refine lv_topi (fun y_7 ey_7 => ?_)
            have ry_7 : 0 ≤ y_7.toInt ∧ y_7.toInt ≤ 11 := by rw [ey_7]; exact r_f8 _ (in_lt h_6)
            refine lv_iload hx hb dX0_sendAlongWay_84 (lv_at hl 1 rfl) ?_
            refine lv_iload_n hx hb dX0_sendAlongWay_86 rfl (lv_at hl 2 rfl) ?_
            refine ct_S hP hD hS hA [(xc, .inr (0, [.ref xn, .ref xk, .ref clo, .ref cro, .ref c4, .ref c5, .ref c6, .ref c7, .ref c8])), (xn, .inr (3, [.int vp, .int vn, .ref n1, .ref n2, .ref n3, .ref n4, .ref n5])), (n2, .inl (cy 0, 40, .inl fs)), (n3, .inl (cy 0, 40, .inl fe)), (cro, .inl (cy 6, 12, .inr (.inr (.inr (.inr (gf_ rr)))))), ((rr 0), .inl (cy 0, 12, .inl (m_rr_3 0))), ((rr 1), .inl (cy 0, 12, .inl (m_rr_3 1))), ((rr 2), .inl (cy 0, 12, .inl (m_rr_3 2))), ((rr 3), .inl (cy 0, 12, .inl (m_rr_3 3))), ((rr 4), .inl (cy 0, 12, .inl (m_rr_3 4))), ((rr 5), .inl (cy 0, 12, .inl (m_rr_3 5))), ((rr 6), .inl (cy 0, 12, .inl (m_rr_3 6))), ((rr 7), .inl (cy 0, 12, .inl (m_rr_3 7))), ((rr 8), .inl (cy 0, 12, .inl (m_rr_3 8))), ((rr 9), .inl (cy 0, 12, .inl (m_rr_3 9))), ((rr 10), .inl (cy 0, 12, .inl (m_rr_3 10))), ((rr 11), .inl (cy 0, 12, .inl (m_rr_3 11))), (c4, .inl (cy 0, 40, .inl c_c4_3)), (c5, .inl (cy 0, 40, .inl f5)), (c6, .inl (cy 0, 40, .inl f6))] [0, 1, 2, 3, 4, 5, 6, 7, 8, 9, 10, 11, 12, 13, 14, 15, 16, 17, 18, 19] (by decide +kernel) rfl (fun hPc hDw hFc hC_ => ?_)
            refine va_callv (va_runV (As := [.int y_7, .int x4_3, .int x3_1]) (rest := []) ⟨hx, hb, hml, hown, hts⟩ (c_X0_sendOver l D cy H.size xc xk clo cro c4 c5 c6 c7 c8 xn n1 n2 n3 n4 n5 vp vn fs fe rr m_rr_3 c_c4_3 f5 f6 y_7 x4_3 x3_1 (by first | with_reducible assumption | omega | assumption) (by first | with_reducible assumption | omega | assumption) (by first | with_reducible assumption | omega | assumption)) (cwV 3 hts gX0_sendAlongWay_X0_sendOver rfl rfl rfl (by decide +kernel) ⟨Nat.le_of_ble_eq_true rfl, Nat.le_of_ble_eq_true rfl⟩) ⟨bl_g, va_recvX hK.1 hP (ci := 0) (q0 := 0) rfl rfl, fun U hU hW => ⟨rfl, by rw [hU], by rw [hU]; exact hPc, ⟨kk_mv hW hK, arrOfT_moved hW.alike hG⟩, hDw⟩⟩ rfl rfl hl.1 rfl (lv_room (Nat.le_of_ble_eq_true rfl)) dX0_sendAlongWay_87 ⟨Nat.le_of_ble_eq_true rfl, Nat.le_of_ble_eq_true rfl⟩) hS (fun q _ h => hFc q h) hFc (fun u t H locs ht hvm hw hB hz1 hk1 hS => ?_)
            obtain ⟨eMr_9, e4_10, hP1, hD1⟩ := hB
            rw [ht] at hP1
            obtain ⟨hP, hD⟩ := va_join (wr := [(c8, .inl (cy 0, 12, .inl f8))]) (w1 := [(xc, .inr (0, [.ref xn, .ref xk, .ref clo, .ref cro, .ref c4, .ref c5, .ref c6, .ref c7, .ref c8])), (xn, .inr (3, [.int vp, .int vn, .ref n1, .ref n2, .ref n3, .ref n4, .ref n5])), (n2, .inl (cy 0, 40, .inl fs)), (n3, .inl (cy 0, 40, .inl fe)), (cro, .inl (cy 6, 12, .inr (.inr (.inr (.inr (gf_ rr)))))), ((rr 0), .inl (cy 0, 12, .inl (eMr_9 0))), ((rr 1), .inl (cy 0, 12, .inl (eMr_9 1))), ((rr 2), .inl (cy 0, 12, .inl (eMr_9 2))), ((rr 3), .inl (cy 0, 12, .inl (eMr_9 3))), ((rr 4), .inl (cy 0, 12, .inl (eMr_9 4))), ((rr 5), .inl (cy 0, 12, .inl (eMr_9 5))), ((rr 6), .inl (cy 0, 12, .inl (eMr_9 6))), ((rr 7), .inl (cy 0, 12, .inl (eMr_9 7))), ((rr 8), .inl (cy 0, 12, .inl (eMr_9 8))), ((rr 9), .inl (cy 0, 12, .inl (eMr_9 9))), ((rr 10), .inl (cy 0, 12, .inl (eMr_9 10))), ((rr 11), .inl (cy 0, 12, .inl (eMr_9 11))), (c4, .inl (cy 0, 40, .inl e4_10)), (c5, .inl (cy 0, 40, .inl f5)), (c6, .inl (cy 0, 40, .inl f6))]) hP hD [0, 1, 2, 3, 4, 5, 6, 7, 8, 9, 10, 11, 12, 13, 14, 15, 16, 17, 18, 19] [20] hC_ rfl (by decide) (by decide) hk1 hFc hP1 hD1
            refine pd_S hP hD [(xc, .inr (0, [.ref xn, .ref xk, .ref clo, .ref cro, .ref c4, .ref c5, .ref c6, .ref c7, .ref c8])), (xn, .inr (3, [.int vp, .int vn, .ref n1, .ref n2, .ref n3, .ref n4, .ref n5])), (n2, .inl (cy 0, 40, .inl fs)), (n3, .inl (cy 0, 40, .inl fe)), (cro, .inl (cy 6, 12, .inr (.inr (.inr (.inr (gf_ rr)))))), ((rr 0), .inl (cy 0, 12, .inl (eMr_9 0))), ((rr 1), .inl (cy 0, 12, .inl (eMr_9 1))), ((rr 2), .inl (cy 0, 12, .inl (eMr_9 2))), ((rr 3), .inl (cy 0, 12, .inl (eMr_9 3))), ((rr 4), .inl (cy 0, 12, .inl (eMr_9 4))), ((rr 5), .inl (cy 0, 12, .inl (eMr_9 5))), ((rr 6), .inl (cy 0, 12, .inl (eMr_9 6))), ((rr 7), .inl (cy 0, 12, .inl (eMr_9 7))), ((rr 8), .inl (cy 0, 12, .inl (eMr_9 8))), ((rr 9), .inl (cy 0, 12, .inl (eMr_9 9))), ((rr 10), .inl (cy 0, 12, .inl (eMr_9 10))), ((rr 11), .inl (cy 0, 12, .inl (eMr_9 11))), (c4, .inl (cy 0, 40, .inl e4_10)), (c5, .inl (cy 0, 40, .inl f5)), (c6, .inl (cy 0, 40, .inl f6)), (c8, .inl (cy 0, 12, .inl f8))] [1, 2, 3, 4, 5, 6, 7, 8, 9, 10, 11, 12, 13, 14, 15, 16, 17, 18, 19, 20, 0] (by decide +kernel) rfl (fun hP hD => ?_)
            refine lv_aload_n hx hb dX0_sendAlongWay_90 rfl (lv_at hl 3 rfl) ?_
            refine va_get (ci := 0) (v := .ref c8) (C := RX0) (T := TX0) (N := 9) hx hb hts (fun _ h => List.mem_cons_of_mem _ (List.mem_append_left _ (List.mem_append_right _ h))) hown hK.1 hP 0 rfl rfl 8 (by decide) (hts (.fieldLink RX0 32 "CutAtlas$Current" "cameFrom" "[I") (by decide +kernel)) (fun _ h9 => h9) rfl dX0_sendAlongWay_91 ?_
            refine lv_iload hx hb dX0_sendAlongWay_94 (lv_at hl 1 rfl) ?_
            have h_11 : vp_in x4_3 12 := in_I (by omega) (by omega)
            refine va_iald hx hb hK.1 hP 20 0 rfl rfl (i := x4_3) h_11 dX0_sendAlongWay_96 ?_
            refine lv_topi (fun y_12 ey_12 => ?_)
            have e_ := (ey_12.trans ey_7.symm).symm
            subst e_
            skip
            refine lv_istore (lv' := [(4, .int y_7), (5, .int x5_3), (3, .int x3_1), (0, .ref xc), (1, .int a1), (2, .int a2)]) hx hb dX0_sendAlongWay_97 hl (by decide) rfl (fun ls hl => ?_)
            obtain ⟨y_13, ey_13⟩ : ∃ y : Int32, y = x5_3 + 1 := ⟨_, rfl⟩
            have ty_13 : y_13.toInt = x5_3.toInt + (1 : Int32).toInt := by rw [ey_13]; exact addI (by omega) (by omega)
            refine lv_iinc (v := y_13) (lv' := [(5, .int y_13), (4, .int y_7), (3, .int x3_1), (0, .ref xc), (1, .int a1), (2, .int a2)]) hx hb dX0_sendAlongWay_99 hl (k := 1) rfl (by rw [ey_13]; rfl) (by decide) rfl (fun ls hl => ?_)
            refine lv_goto (tgt := 63) hx hb dX0_sendAlongWay_102 (by decide) ?_
            exact ih_3 y_13 y_7 eMr_9 e4_10 _ _ _ (by omega) (by first | with_reducible assumption | omega | assumption) (by first | with_reducible assumption | omega | assumption) (by first | with_reducible assumption | omega | assumption) hP hD hS (lv_sub hl [0, 1, 2, 3, 4, 5] rfl)
    · have t_2 : ¬ (12 : Int32).toInt ≤ x5_1.toInt := fun h => c_2 (Int32.le_iff_toInt_le.mpr h)
      refine lv_iload hx hb dX0_sendAlongWay_16 (lv_at hl 1 rfl) ?_
      refine lv_iload_n hx hb dX0_sendAlongWay_18 rfl (lv_at hl 4 rfl) ?_
      refine lv_icmp_eq (tgt := 57) hx hb dX0_sendAlongWay_19 (by decide) (fun c_14 => ?_) (fun c_14 => ?_)
      · have t_14 : x4_1.toInt = a1.toInt := congrArg Int32.toInt c_14
        refine lv_iload_n hx hb dX0_sendAlongWay_57 rfl (lv_at hl 5 rfl) ?_
        refine lv_istore (lv' := [(4, .int a2), (5, .int x5_1), (3, .int x3_1), (0, .ref xc), (1, .int a1), (2, .int a2)]) hx hb dX0_sendAlongWay_58 hl (by decide) rfl (fun ls hl => ?_)
        refine lv_iconst (v := 0) hx hb dX0_sendAlongWay_60 (by decide) ?_
        refine lv_istore (lv' := [(5, .int 0), (4, .int a2), (3, .int x3_1), (0, .ref xc), (1, .int a1), (2, .int a2)]) hx hb dX0_sendAlongWay_61 hl (by decide) rfl (fun ls hl => ?_)
        suffices LOOP_15 : ∀ (n_15 : Nat) (x5_15 : Int32) (x4_15 : Int32) (m_rr_15 : Nat → Nat → Int32) (c_c4_15 : Nat → Int32) (H : Heap) (locs : List Loc) (ls : Array Slot), 12 - x5_15.toInt < (n_15 : Int) → (0 ≤ x4_15.toInt ∧ x4_15.toInt ≤ 11) → (0 ≤ x5_15.toInt) → (x5_15.toInt ≤ 12) → va_P D vwCl [(xc, .inr (0, [.ref xn, .ref xk, .ref clo, .ref cro, .ref c4, .ref c5, .ref c6, .ref c7, .ref c8])), (xn, .inr (3, [.int vp, .int vn, .ref n1, .ref n2, .ref n3, .ref n4, .ref n5])), (n2, .inl (cy 0, 40, .inl fs)), (n3, .inl (cy 0, 40, .inl fe)), (cro, .inl (cy 6, 12, .inr (.inr (.inr (.inr (gf_ rr)))))), ((rr 0), .inl (cy 0, 12, .inl (m_rr_15 0))), ((rr 1), .inl (cy 0, 12, .inl (m_rr_15 1))), ((rr 2), .inl (cy 0, 12, .inl (m_rr_15 2))), ((rr 3), .inl (cy 0, 12, .inl (m_rr_15 3))), ((rr 4), .inl (cy 0, 12, .inl (m_rr_15 4))), ((rr 5), .inl (cy 0, 12, .inl (m_rr_15 5))), ((rr 6), .inl (cy 0, 12, .inl (m_rr_15 6))), ((rr 7), .inl (cy 0, 12, .inl (m_rr_15 7))), ((rr 8), .inl (cy 0, 12, .inl (m_rr_15 8))), ((rr 9), .inl (cy 0, 12, .inl (m_rr_15 9))), ((rr 10), .inl (cy 0, 12, .inl (m_rr_15 10))), ((rr 11), .inl (cy 0, 12, .inl (m_rr_15 11))), (c4, .inl (cy 0, 40, .inl c_c4_15)), (c5, .inl (cy 0, 40, .inl f5)), (c6, .inl (cy 0, 40, .inl f6)), (c8, .inl (cy 0, 12, .inl f8))] H → va_D A [(xc, .inr (0, [.ref xn, .ref xk, .ref clo, .ref cro, .ref c4, .ref c5, .ref c6, .ref c7, .ref c8])), (xn, .inr (3, [.int vp, .int vn, .ref n1, .ref n2, .ref n3, .ref n4, .ref n5])), (n2, .inl (cy 0, 40, .inl fs)), (n3, .inl (cy 0, 40, .inl fe)), (cro, .inl (cy 6, 12, .inr (.inr (.inr (.inr (gf_ rr)))))), ((rr 0), .inl (cy 0, 12, .inl (m_rr_15 0))), ((rr 1), .inl (cy 0, 12, .inl (m_rr_15 1))), ((rr 2), .inl (cy 0, 12, .inl (m_rr_15 2))), ((rr 3), .inl (cy 0, 12, .inl (m_rr_15 3))), ((rr 4), .inl (cy 0, 12, .inl (m_rr_15 4))), ((rr 5), .inl (cy 0, 12, .inl (m_rr_15 5))), ((rr 6), .inl (cy 0, 12, .inl (m_rr_15 6))), ((rr 7), .inl (cy 0, 12, .inl (m_rr_15 7))), ((rr 8), .inl (cy 0, 12, .inl (m_rr_15 8))), ((rr 9), .inl (cy 0, 12, .inl (m_rr_15 9))), ((rr 10), .inl (cy 0, 12, .inl (m_rr_15 10))), ((rr 11), .inl (cy 0, 12, .inl (m_rr_15 11))), (c4, .inl (cy 0, 40, .inl c_c4_15)), (c5, .inl (cy 0, 40, .inl f5)), (c6, .inl (cy 0, 40, .inl f6)), (c8, .inl (cy 0, 12, .inl f8))] → va_S A s.heap H locs → lv_has ls 6 [(5, .int x5_15), (4, .int x4_15), (3, .int x3_1), (0, .ref xc), (1, .int a1), (2, .int a2)] → W p l e ({ frames := 2, cells := 0, slots := 0, locals := 39 } : Room) s m (([.ref xc, .int a1, .int a2] : List Value).toArray) below meth c H locs 0 0 Q (F0 m 63 ls []) from LOOP_15 ((12 - (0 : Int32).toInt).toNat + 1) (0 : Int32) a2 Mr f4 _ _ _ (by omega) (by first | with_reducible assumption | omega | assumption) (by first | with_reducible assumption | omega | assumption) (by first | with_reducible assumption | omega | assumption) hP hD hS (lv_sub hl [0, 1, 2, 3, 4, 5] rfl)
        intro n_15
        induction n_15 with
        | zero =>
          intro x5_15 x4_15 m_rr_15 c_c4_15 H locs ls hm v0_15 v1_15 v2_15 hP hD hS hl
          exact absurd hm (by omega)
        | succ n_15 ih_15 =>
          intro x5_15 x4_15 m_rr_15 c_c4_15 H locs ls hm v0_15 v1_15 v2_15 hP hD hS hl
          refine lv_iload hx hb dX0_sendAlongWay_63 (lv_at hl 0 rfl) ?_
          refine lv_bipush (v := 12) hx hb dX0_sendAlongWay_65 (by decide) ?_
          refine lv_icmp_ge (tgt := 105) hx hb dX0_sendAlongWay_67 (by decide) (fun c_16 => ?_) (fun c_16 => ?_)
          · have t_16 : (12 : Int32).toInt ≤ x5_15.toInt := Int32.le_iff_toInt_le.mp c_16
            refine lv_iload_n hx hb dX0_sendAlongWay_105 rfl (lv_at hl 2 rfl) ?_
            rw [hQ]
            exact W.iret (v := x3_1) hx hb hr (fun t ht hW => ⟨⟨x3_1, (), rfl, trivial, m_rr_15, c_c4_15, by rw [ht]; exact hP, hD⟩, hS.F ht⟩) hS.2.2 dX0_sendAlongWay_106
          · have t_16 : ¬ (12 : Int32).toInt ≤ x5_15.toInt := fun h => c_16 (Int32.le_iff_toInt_le.mpr h)
            refine lv_iload hx hb dX0_sendAlongWay_70 (lv_at hl 1 rfl) ?_
            refine lv_iload_n hx hb dX0_sendAlongWay_72 rfl (lv_at hl 4 rfl) ?_
            refine lv_icmp_eq (tgt := 105) hx hb dX0_sendAlongWay_73 (by decide) (fun c_17 => ?_) (fun c_17 => ?_)
            · have t_17 : x4_15.toInt = a1.toInt := congrArg Int32.toInt c_17
              refine lv_iload_n hx hb dX0_sendAlongWay_105 rfl (lv_at hl 2 rfl) ?_
              rw [hQ]
              exact W.iret (v := x3_1) hx hb hr (fun t ht hW => ⟨⟨x3_1, (), rfl, trivial, m_rr_15, c_c4_15, by rw [ht]; exact hP, hD⟩, hS.F ht⟩) hS.2.2 dX0_sendAlongWay_106
            · have t_17 : ¬ x4_15.toInt = a1.toInt := fun h => c_17 (Int32.toInt_inj.mp h)
              refine lv_aload_n hx hb dX0_sendAlongWay_76 rfl (lv_at hl 3 rfl) ?_
              refine lv_aload_n hx hb dX0_sendAlongWay_77 rfl (lv_at hl 3 rfl) ?_
              refine va_get (ci := 0) (v := .ref c8) (C := RX0) (T := TX0) (N := 9) hx hb hts (fun _ h => List.mem_cons_of_mem _ (List.mem_append_left _ (List.mem_append_right _ h))) hown hK.1 hP 0 rfl rfl 8 (by decide) (hts (.fieldLink RX0 32 "CutAtlas$Current" "cameFrom" "[I") (by decide +kernel)) (fun _ h9 => h9) rfl dX0_sendAlongWay_78 ?_
              refine lv_iload hx hb dX0_sendAlongWay_81 (lv_at hl 1 rfl) ?_
              have h_18 : vp_in x4_15 12 := in_I (by omega) (by omega)
              refine va_iald hx hb hK.1 hP 20 0 rfl rfl (i := x4_15) h_18 dX0_sendAlongWay_83 ?_
              refine lv_topi (fun y_19 ey_19 => ?_)
              have ry_19 : 0 ≤ y_19.toInt ∧ y_19.toInt ≤ 11 := by rw [ey_19]; exact r_f8 _ (in_lt h_18)
              refine lv_iload hx hb dX0_sendAlongWay_84 (lv_at hl 1 rfl) ?_
              refine lv_iload_n hx hb dX0_sendAlongWay_86 rfl (lv_at hl 2 rfl) ?_
              refine ct_S hP hD hS hA [(xc, .inr (0, [.ref xn, .ref xk, .ref clo, .ref cro, .ref c4, .ref c5, .ref c6, .ref c7, .ref c8])), (xn, .inr (3, [.int vp, .int vn, .ref n1, .ref n2, .ref n3, .ref n4, .ref n5])), (n2, .inl (cy 0, 40, .inl fs)), (n3, .inl (cy 0, 40, .inl fe)), (cro, .inl (cy 6, 12, .inr (.inr (.inr (.inr (gf_ rr)))))), ((rr 0), .inl (cy 0, 12, .inl (m_rr_15 0))), ((rr 1), .inl (cy 0, 12, .inl (m_rr_15 1))), ((rr 2), .inl (cy 0, 12, .inl (m_rr_15 2))), ((rr 3), .inl (cy 0, 12, .inl (m_rr_15 3))), ((rr 4), .inl (cy 0, 12, .inl (m_rr_15 4))), ((rr 5), .inl (cy 0, 12, .inl (m_rr_15 5))), ((rr 6), .inl (cy 0, 12, .inl (m_rr_15 6))), ((rr 7), .inl (cy 0, 12, .inl (m_rr_15 7))), ((rr 8), .inl (cy 0, 12, .inl (m_rr_15 8))), ((rr 9), .inl (cy 0, 12, .inl (m_rr_15 9))), ((rr 10), .inl (cy 0, 12, .inl (m_rr_15 10))), ((rr 11), .inl (cy 0, 12, .inl (m_rr_15 11))), (c4, .inl (cy 0, 40, .inl c_c4_15)), (c5, .inl (cy 0, 40, .inl f5)), (c6, .inl (cy 0, 40, .inl f6))] [0, 1, 2, 3, 4, 5, 6, 7, 8, 9, 10, 11, 12, 13, 14, 15, 16, 17, 18, 19] (by decide +kernel) rfl (fun hPc hDw hFc hC_ => ?_)
              refine va_callv (va_runV (As := [.int y_19, .int x4_15, .int x3_1]) (rest := []) ⟨hx, hb, hml, hown, hts⟩ (c_X0_sendOver l D cy H.size xc xk clo cro c4 c5 c6 c7 c8 xn n1 n2 n3 n4 n5 vp vn fs fe rr m_rr_15 c_c4_15 f5 f6 y_19 x4_15 x3_1 (by first | with_reducible assumption | omega | assumption) (by first | with_reducible assumption | omega | assumption) (by first | with_reducible assumption | omega | assumption)) (cwV 3 hts gX0_sendAlongWay_X0_sendOver rfl rfl rfl (by decide +kernel) ⟨Nat.le_of_ble_eq_true rfl, Nat.le_of_ble_eq_true rfl⟩) ⟨bl_g, va_recvX hK.1 hP (ci := 0) (q0 := 0) rfl rfl, fun U hU hW => ⟨rfl, by rw [hU], by rw [hU]; exact hPc, ⟨kk_mv hW hK, arrOfT_moved hW.alike hG⟩, hDw⟩⟩ rfl rfl hl.1 rfl (lv_room (Nat.le_of_ble_eq_true rfl)) dX0_sendAlongWay_87 ⟨Nat.le_of_ble_eq_true rfl, Nat.le_of_ble_eq_true rfl⟩) hS (fun q _ h => hFc q h) hFc (fun u t H locs ht hvm hw hB hz1 hk1 hS => ?_)
              obtain ⟨eMr_21, e4_22, hP1, hD1⟩ := hB
              rw [ht] at hP1
              obtain ⟨hP, hD⟩ := va_join (wr := [(c8, .inl (cy 0, 12, .inl f8))]) (w1 := [(xc, .inr (0, [.ref xn, .ref xk, .ref clo, .ref cro, .ref c4, .ref c5, .ref c6, .ref c7, .ref c8])), (xn, .inr (3, [.int vp, .int vn, .ref n1, .ref n2, .ref n3, .ref n4, .ref n5])), (n2, .inl (cy 0, 40, .inl fs)), (n3, .inl (cy 0, 40, .inl fe)), (cro, .inl (cy 6, 12, .inr (.inr (.inr (.inr (gf_ rr)))))), ((rr 0), .inl (cy 0, 12, .inl (eMr_21 0))), ((rr 1), .inl (cy 0, 12, .inl (eMr_21 1))), ((rr 2), .inl (cy 0, 12, .inl (eMr_21 2))), ((rr 3), .inl (cy 0, 12, .inl (eMr_21 3))), ((rr 4), .inl (cy 0, 12, .inl (eMr_21 4))), ((rr 5), .inl (cy 0, 12, .inl (eMr_21 5))), ((rr 6), .inl (cy 0, 12, .inl (eMr_21 6))), ((rr 7), .inl (cy 0, 12, .inl (eMr_21 7))), ((rr 8), .inl (cy 0, 12, .inl (eMr_21 8))), ((rr 9), .inl (cy 0, 12, .inl (eMr_21 9))), ((rr 10), .inl (cy 0, 12, .inl (eMr_21 10))), ((rr 11), .inl (cy 0, 12, .inl (eMr_21 11))), (c4, .inl (cy 0, 40, .inl e4_22)), (c5, .inl (cy 0, 40, .inl f5)), (c6, .inl (cy 0, 40, .inl f6))]) hP hD [0, 1, 2, 3, 4, 5, 6, 7, 8, 9, 10, 11, 12, 13, 14, 15, 16, 17, 18, 19] [20] hC_ rfl (by decide) (by decide) hk1 hFc hP1 hD1
              refine pd_S hP hD [(xc, .inr (0, [.ref xn, .ref xk, .ref clo, .ref cro, .ref c4, .ref c5, .ref c6, .ref c7, .ref c8])), (xn, .inr (3, [.int vp, .int vn, .ref n1, .ref n2, .ref n3, .ref n4, .ref n5])), (n2, .inl (cy 0, 40, .inl fs)), (n3, .inl (cy 0, 40, .inl fe)), (cro, .inl (cy 6, 12, .inr (.inr (.inr (.inr (gf_ rr)))))), ((rr 0), .inl (cy 0, 12, .inl (eMr_21 0))), ((rr 1), .inl (cy 0, 12, .inl (eMr_21 1))), ((rr 2), .inl (cy 0, 12, .inl (eMr_21 2))), ((rr 3), .inl (cy 0, 12, .inl (eMr_21 3))), ((rr 4), .inl (cy 0, 12, .inl (eMr_21 4))), ((rr 5), .inl (cy 0, 12, .inl (eMr_21 5))), ((rr 6), .inl (cy 0, 12, .inl (eMr_21 6))), ((rr 7), .inl (cy 0, 12, .inl (eMr_21 7))), ((rr 8), .inl (cy 0, 12, .inl (eMr_21 8))), ((rr 9), .inl (cy 0, 12, .inl (eMr_21 9))), ((rr 10), .inl (cy 0, 12, .inl (eMr_21 10))), ((rr 11), .inl (cy 0, 12, .inl (eMr_21 11))), (c4, .inl (cy 0, 40, .inl e4_22)), (c5, .inl (cy 0, 40, .inl f5)), (c6, .inl (cy 0, 40, .inl f6)), (c8, .inl (cy 0, 12, .inl f8))] [1, 2, 3, 4, 5, 6, 7, 8, 9, 10, 11, 12, 13, 14, 15, 16, 17, 18, 19, 20, 0] (by decide +kernel) rfl (fun hP hD => ?_)
              refine lv_aload_n hx hb dX0_sendAlongWay_90 rfl (lv_at hl 3 rfl) ?_
              refine va_get (ci := 0) (v := .ref c8) (C := RX0) (T := TX0) (N := 9) hx hb hts (fun _ h => List.mem_cons_of_mem _ (List.mem_append_left _ (List.mem_append_right _ h))) hown hK.1 hP 0 rfl rfl 8 (by decide) (hts (.fieldLink RX0 32 "CutAtlas$Current" "cameFrom" "[I") (by decide +kernel)) (fun _ h9 => h9) rfl dX0_sendAlongWay_91 ?_
              refine lv_iload hx hb dX0_sendAlongWay_94 (lv_at hl 1 rfl) ?_
              have h_23 : vp_in x4_15 12 := in_I (by omega) (by omega)
              refine va_iald hx hb hK.1 hP 20 0 rfl rfl (i := x4_15) h_23 dX0_sendAlongWay_96 ?_
              refine lv_topi (fun y_24 ey_24 => ?_)
              have e_ := (ey_24.trans ey_19.symm).symm
              subst e_
              skip
              refine lv_istore (lv' := [(4, .int y_19), (5, .int x5_15), (3, .int x3_1), (0, .ref xc), (1, .int a1), (2, .int a2)]) hx hb dX0_sendAlongWay_97 hl (by decide) rfl (fun ls hl => ?_)
              obtain ⟨y_25, ey_25⟩ : ∃ y : Int32, y = x5_15 + 1 := ⟨_, rfl⟩
              have ty_25 : y_25.toInt = x5_15.toInt + (1 : Int32).toInt := by rw [ey_25]; exact addI (by omega) (by omega)
              refine lv_iinc (v := y_25) (lv' := [(5, .int y_25), (4, .int y_19), (3, .int x3_1), (0, .ref xc), (1, .int a1), (2, .int a2)]) hx hb dX0_sendAlongWay_99 hl (k := 1) rfl (by rw [ey_25]; rfl) (by decide) rfl (fun ls hl => ?_)
              refine lv_goto (tgt := 63) hx hb dX0_sendAlongWay_102 (by decide) ?_
              exact ih_15 y_25 y_19 eMr_21 e4_22 _ _ _ (by omega) (by first | with_reducible assumption | omega | assumption) (by first | with_reducible assumption | omega | assumption) (by first | with_reducible assumption | omega | assumption) hP hD hS (lv_sub hl [0, 1, 2, 3, 4, 5] rfl)
      · have t_14 : ¬ x4_1.toInt = a1.toInt := fun h => c_14 (Int32.toInt_inj.mp h)
        refine lv_iload_n hx hb dX0_sendAlongWay_22 rfl (lv_at hl 2 rfl) ?_
        refine lv_aload_n hx hb dX0_sendAlongWay_23 rfl (lv_at hl 3 rfl) ?_
        refine va_get (ci := 0) (v := .ref cro) (C := RX0) (T := TX0) (N := 9) hx hb hts (fun _ h => List.mem_cons_of_mem _ (List.mem_append_left _ (List.mem_append_right _ h))) hown hK.1 hP 0 rfl rfl 3 (by decide) (hts (.fieldLink RX0 16 "CutAtlas$Current" "room" "[[I") (by decide +kernel)) (fun _ h9 => h9) rfl dX0_sendAlongWay_24 ?_
        refine lv_aload_n hx hb dX0_sendAlongWay_27 rfl (lv_at hl 3 rfl) ?_
        refine va_get (ci := 0) (v := .ref c8) (C := RX0) (T := TX0) (N := 9) hx hb hts (fun _ h => List.mem_cons_of_mem _ (List.mem_append_left _ (List.mem_append_right _ h))) hown hK.1 hP 0 rfl rfl 8 (by decide) (hts (.fieldLink RX0 32 "CutAtlas$Current" "cameFrom" "[I") (by decide +kernel)) (fun _ h9 => h9) rfl dX0_sendAlongWay_28 ?_
        refine lv_iload hx hb dX0_sendAlongWay_31 (lv_at hl 1 rfl) ?_
        have h_26 : vp_in x4_1 12 := in_I (by omega) (by omega)
        refine va_iald hx hb hK.1 hP 20 0 rfl rfl (i := x4_1) h_26 dX0_sendAlongWay_33 ?_
        refine lv_topi (fun y_27 ey_27 => ?_)
        have ry_27 : 0 ≤ y_27.toInt ∧ y_27.toInt ≤ 11 := by rw [ey_27]; exact r_f8 _ (in_lt h_26)
        have h_28 : vp_in y_27 12 := in_I (by omega) (by omega)
        refine va_alda hx hb hG hP 4 rfl (i := y_27) h_28 dX0_sendAlongWay_34 ?_
        refine lv_topv (v' := .ref (rr y_27.toNatClampNeg)) (gf_at h_28) ?_
        refine lv_iload hx hb dX0_sendAlongWay_35 (lv_at hl 1 rfl) ?_
        have h_29 : vp_in x4_1 12 := in_I (by omega) (by omega)
        have hPg : va_P D vwCl (([(xc, .inr (0, [.ref xn, .ref xk, .ref clo, .ref cro, .ref c4, .ref c5, .ref c6, .ref c7, .ref c8])), (xn, .inr (3, [.int vp, .int vn, .ref n1, .ref n2, .ref n3, .ref n4, .ref n5])), (n2, .inl (cy 0, 40, .inl fs)), (n3, .inl (cy 0, 40, .inl fe)), (cro, .inl (cy 6, 12, .inr (.inr (.inr (.inr (gf_ rr))))))] : va_W) ++ (gro (cy 0) rr Mr ++ ([(c4, .inl (cy 0, 40, .inl f4)), (c5, .inl (cy 0, 40, .inl f5)), (c6, .inl (cy 0, 40, .inl f6)), (c8, .inl (cy 0, 12, .inl f8))] : va_W))) H := hP
        refine va_gld (X := [(xc, .inr (0, [.ref xn, .ref xk, .ref clo, .ref cro, .ref c4, .ref c5, .ref c6, .ref c7, .ref c8])), (xn, .inr (3, [.int vp, .int vn, .ref n1, .ref n2, .ref n3, .ref n4, .ref n5])), (n2, .inl (cy 0, 40, .inl fs)), (n3, .inl (cy 0, 40, .inl fe)), (cro, .inl (cy 6, 12, .inr (.inr (.inr (.inr (gf_ rr))))))]) (Y := [(c4, .inl (cy 0, 40, .inl f4)), (c5, .inl (cy 0, 40, .inl f5)), (c6, .inl (cy 0, 40, .inl f6)), (c8, .inl (cy 0, 12, .inl f8))]) (r := rr) (M := Mr) (k := y_27.toNatClampNeg) hx hb hK.1 hPg 0 rfl (in_lt h_28) (i := x4_1) h_29 dX0_sendAlongWay_37 ?_
        refine lv_topi (fun y_30 ey_30 => ?_)
        refine va_mmin hx hb (by rw [hml]; exact hl.1.symm) hown (hts (.methodLink RX0 101 Lib.Math.min.name) (by decide +kernel)) (hts (.static Lib.Math.min.name) (by decide +kernel)) (hts (.initialized "java/lang/Math") (by decide +kernel)) (hts (.code Lib.Math.min.name Lib.Math.min.code 2 (some .int)) (by decide +kernel)) (Nat.le_of_ble_eq_true rfl) (Nat.le_of_ble_eq_true rfl) (Nat.le_of_ble_eq_true rfl) (Nat.le_of_ble_eq_true rfl) dX0_sendAlongWay_38 ?_
        refine lv_topi (fun y_31 ey_31 => ?_)
        have ty_31 : y_31 = x3_1 ∨ y_31 = y_30 := by rw [ey_31]; split <;> simp
        have iy_31 : y_31.toInt = x3_1.toInt ∨ y_31.toInt = y_30.toInt := by rcases ty_31 with h | h <;> rw [h] <;> simp
        refine lv_istore_n (lv' := [(3, .int y_31), (5, .int x5_1), (4, .int x4_1), (0, .ref xc), (1, .int a1), (2, .int a2)]) hx hb dX0_sendAlongWay_41 rfl hl (by decide) rfl (fun ls hl => ?_)
        refine lv_aload_n hx hb dX0_sendAlongWay_42 rfl (lv_at hl 3 rfl) ?_
        refine va_get (ci := 0) (v := .ref c8) (C := RX0) (T := TX0) (N := 9) hx hb hts (fun _ h => List.mem_cons_of_mem _ (List.mem_append_left _ (List.mem_append_right _ h))) hown hK.1 hP 0 rfl rfl 8 (by decide) (hts (.fieldLink RX0 32 "CutAtlas$Current" "cameFrom" "[I") (by decide +kernel)) (fun _ h9 => h9) rfl dX0_sendAlongWay_43 ?_
        refine lv_iload hx hb dX0_sendAlongWay_46 (lv_at hl 2 rfl) ?_
        have h_32 : vp_in x4_1 12 := in_I (by omega) (by omega)
        refine va_iald hx hb hK.1 hP 20 0 rfl rfl (i := x4_1) h_32 dX0_sendAlongWay_48 ?_
        refine lv_topi (fun y_33 ey_33 => ?_)
        have e_ := (ey_33.trans ey_27.symm).symm
        subst e_
        skip
        refine lv_istore (lv' := [(4, .int y_27), (3, .int y_31), (5, .int x5_1), (0, .ref xc), (1, .int a1), (2, .int a2)]) hx hb dX0_sendAlongWay_49 hl (by decide) rfl (fun ls hl => ?_)
        obtain ⟨y_34, ey_34⟩ : ∃ y : Int32, y = x5_1 + 1 := ⟨_, rfl⟩
        have ty_34 : y_34.toInt = x5_1.toInt + (1 : Int32).toInt := by rw [ey_34]; exact addI (by omega) (by omega)
        refine lv_iinc (v := y_34) (lv' := [(5, .int y_34), (4, .int y_27), (3, .int y_31), (0, .ref xc), (1, .int a1), (2, .int a2)]) hx hb dX0_sendAlongWay_51 hl (k := 2) rfl (by rw [ey_34]; rfl) (by decide) rfl (fun ls hl => ?_)
        refine lv_goto (tgt := 9) hx hb dX0_sendAlongWay_54 (by decide) ?_
        exact ih_1 y_34 y_27 y_31 _ _ _ (by omega) (by first | with_reducible assumption | omega | assumption) (by first | with_reducible assumption | omega | assumption) (by first | with_reducible assumption | omega | assumption) hP hD hS (lv_sub hl [0, 1, 2, 3, 4, 5] rfl)
end
