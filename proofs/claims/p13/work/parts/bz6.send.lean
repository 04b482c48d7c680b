section
set_option maxHeartbeats 4000000 in
set_option maxRecDepth 100000 in
theorem c_X0_sendOver2 (l : Launch) (D : va_G) (cy : Nat → ClassId) (sz : Nat) (xc : Nat) (xk : Nat) (clo : Nat) (cro : Nat) (c4 : Nat) (c5 : Nat) (c6 : Nat) (c7 : Nat) (c8 : Nat) (xn : Nat) (n1 : Nat) (n2 : Nat) (n3 : Nat) (n4 : Nat) (n5 : Nat) (vp : Int32) (vn : Int32) (fs : Nat → Int32) (fe : Nat → Int32) (rr : Nat → Nat) (Mr : Nat → Nat → Int32) (f4 : Nat → Int32) (f5 : Nat → Int32) (f6 : Nat → Int32) (a1 : Int32) (a2 : Int32) (a3 : Int32) (hvp : 0 ≤ vp.toInt ∧ vp.toInt ≤ 12) (hvn : 0 ≤ vn.toInt ∧ vn.toInt ≤ 40) (q1 : 0 ≤ a1.toInt ∧ a1.toInt < vp.toInt) (q2 : 0 ≤ a2.toInt ∧ a2.toInt < vp.toInt) (hrm : rmk (zM Mr) vp.toNatClampNeg) (ha : 0 ≤ a3.toInt ∧ a3.toInt ≤ zM Mr a1.toNatClampNeg a2.toNatClampNeg) : Met l yX0_sendOver wsX0_sendOver ({ frames := 1, cells := 0, slots := 0, locals := 13 }) (va_Pc [.ref xc, .int a1, .int a2, .int a3] (fun U => U.heap.size = sz ∧ va_P D vwCl [ob0_0_ xc xn xk clo cro c4 c5 c6 c7 c8, ob3_0_ xn vp vn n1 n2 n3 n4 n5, ai_ cy n2 40 fs, ai_ cy n3 40 fe, aq_ cy 6 cro 12 (gf_ rr), ai_ cy (rr 0) 12 (Mr 0), ai_ cy (rr 1) 12 (Mr 1), ai_ cy (rr 2) 12 (Mr 2), ai_ cy (rr 3) 12 (Mr 3), ai_ cy (rr 4) 12 (Mr 4), ai_ cy (rr 5) 12 (Mr 5), ai_ cy (rr 6) 12 (Mr 6), ai_ cy (rr 7) 12 (Mr 7), ai_ cy (rr 8) 12 (Mr 8), ai_ cy (rr 9) 12 (Mr 9), ai_ cy (rr 10) 12 (Mr 10), ai_ cy (rr 11) 12 (Mr 11), ai_ cy c4 40 f4, ai_ cy c5 40 f5, ai_ cy c6 40 f6] U.heap ∧ kg_ D cy U ∧ va_D (fun _ => True) [ob0_0_ xc xn xk clo cro c4 c5 c6 c7 c8, ob3_0_ xn vp vn n1 n2 n3 n4 n5, ai_ cy n2 40 fs, ai_ cy n3 40 fe, aq_ cy 6 cro 12 (gf_ rr), ai_ cy (rr 0) 12 (Mr 0), ai_ cy (rr 1) 12 (Mr 1), ai_ cy (rr 2) 12 (Mr 2), ai_ cy (rr 3) 12 (Mr 3), ai_ cy (rr 4) 12 (Mr 4), ai_ cy (rr 5) 12 (Mr 5), ai_ cy (rr 6) 12 (Mr 6), ai_ cy (rr 7) 12 (Mr 7), ai_ cy (rr 8) 12 (Mr 8), ai_ cy (rr 9) 12 (Mr 9), ai_ cy (rr 10) 12 (Mr 10), ai_ cy (rr 11) 12 (Mr 11), ai_ cy c4 40 f4, ai_ cy c5 40 f5, ai_ cy c6 40 f6])) (va_Qv (fun (_ : Unit) => True) (fun (_ : Unit) (t : State) => ∃ (eMr : Nat → Nat → Int32), ∃ (e4 : Nat → Int32), (edg (zM Mr) (zM eMr) a1.toNatClampNeg a2.toNatClampNeg a3.toInt) ∧ va_P D vwCl [ob0_0_ xc xn xk clo cro c4 c5 c6 c7 c8, ob3_0_ xn vp vn n1 n2 n3 n4 n5, ai_ cy n2 40 fs, ai_ cy n3 40 fe, aq_ cy 6 cro 12 (gf_ rr), ai_ cy (rr 0) 12 (eMr 0), ai_ cy (rr 1) 12 (eMr 1), ai_ cy (rr 2) 12 (eMr 2), ai_ cy (rr 3) 12 (eMr 3), ai_ cy (rr 4) 12 (eMr 4), ai_ cy (rr 5) 12 (eMr 5), ai_ cy (rr 6) 12 (eMr 6), ai_ cy (rr 7) 12 (eMr 7), ai_ cy (rr 8) 12 (eMr 8), ai_ cy (rr 9) 12 (eMr 9), ai_ cy (rr 10) 12 (eMr 10), ai_ cy (rr 11) 12 (eMr 11), ai_ cy c4 40 e4, ai_ cy c5 40 f5, ai_ cy c6 40 f6] t.heap ∧ va_D (va_A [ob0_0_ xc xn xk clo cro c4 c5 c6 c7 c8, ob3_0_ xn vp vn n1 n2 n3 n4 n5, ai_ cy n2 40 fs, ai_ cy n3 40 fe, aq_ cy 6 cro 12 (gf_ rr), ai_ cy (rr 0) 12 (Mr 0), ai_ cy (rr 1) 12 (Mr 1), ai_ cy (rr 2) 12 (Mr 2), ai_ cy (rr 3) 12 (Mr 3), ai_ cy (rr 4) 12 (Mr 4), ai_ cy (rr 5) 12 (Mr 5), ai_ cy (rr 6) 12 (Mr 6), ai_ cy (rr 7) 12 (Mr 7), ai_ cy (rr 8) 12 (Mr 8), ai_ cy (rr 9) 12 (Mr 9), ai_ cy (rr 10) 12 (Mr 10), ai_ cy (rr 11) 12 (Mr 11), ai_ cy c4 40 f4, ai_ cy c5 40 f5, ai_ cy c6 40 f6] sz) [ob0_0_ xc xn xk clo cro c4 c5 c6 c7 c8, ob3_0_ xn vp vn n1 n2 n3 n4 n5, ai_ cy n2 40 fs, ai_ cy n3 40 fe, aq_ cy 6 cro 12 (gf_ rr), ai_ cy (rr 0) 12 (eMr 0), ai_ cy (rr 1) 12 (eMr 1), ai_ cy (rr 2) 12 (eMr 2), ai_ cy (rr 3) 12 (eMr 3), ai_ cy (rr 4) 12 (eMr 4), ai_ cy (rr 5) 12 (eMr 5), ai_ cy (rr 6) 12 (eMr 6), ai_ cy (rr 7) 12 (eMr 7), ai_ cy (rr 8) 12 (eMr 8), ai_ cy (rr 9) 12 (eMr 9), ai_ cy (rr 10) 12 (eMr 10), ai_ cy (rr 11) 12 (eMr 11), ai_ cy c4 40 e4, ai_ cy c5 40 f5, ai_ cy c6 40 f6]) (va_A [ob0_0_ xc xn xk clo cro c4 c5 c6 c7 c8, ob3_0_ xn vp vn n1 n2 n3 n4 n5, ai_ cy n2 40 fs, ai_ cy n3 40 fe, aq_ cy 6 cro 12 (gf_ rr), ai_ cy (rr 0) 12 (Mr 0), ai_ cy (rr 1) 12 (Mr 1), ai_ cy (rr 2) 12 (Mr 2), ai_ cy (rr 3) 12 (Mr 3), ai_ cy (rr 4) 12 (Mr 4), ai_ cy (rr 5) 12 (Mr 5), ai_ cy (rr 6) 12 (Mr 6), ai_ cy (rr 7) 12 (Mr 7), ai_ cy (rr 8) 12 (Mr 8), ai_ cy (rr 9) 12 (Mr 9), ai_ cy (rr 10) 12 (Mr 10), ai_ cy (rr 11) 12 (Mr 11), ai_ cy c4 40 f4, ai_ cy c5 40 f5, ai_ cy c6 40 f6] sz)) 0 0 (va_A [ob0_0_ xc xn xk clo cro c4 c5 c6 c7 c8, ob3_0_ xn vp vn n1 n2 n3 n4 n5, ai_ cy n2 40 fs, ai_ cy n3 40 fe, aq_ cy 6 cro 12 (gf_ rr), ai_ cy (rr 0) 12 (Mr 0), ai_ cy (rr 1) 12 (Mr 1), ai_ cy (rr 2) 12 (Mr 2), ai_ cy (rr 3) 12 (Mr 3), ai_ cy (rr 4) 12 (Mr 4), ai_ cy (rr 5) 12 (Mr 5), ai_ cy (rr 6) 12 (Mr 6), ai_ cy (rr 7) 12 (Mr 7), ai_ cy (rr 8) 12 (Mr 8), ai_ cy (rr 9) 12 (Mr 9), ai_ cy (rr 10) 12 (Mr 10), ai_ cy (rr 11) 12 (Mr 11), ai_ cy c4 40 f4, ai_ cy c5 40 f5, ai_ cy c6 40 f6] sz) := by
  refine ofQ (cc := cX0_sendOver) (maxL := 7) (ret := none) (by decide) rfl ?_
  intro p e s m args below meth c s₁ Q hQ B hml hv
  obtain ⟨rfl, hsz, hP, hK, hD0⟩ := hv
  have hG := hK.2
  have hK := hK.1
  have hx := B.exec
  have hb := B.bytes
  have hr := B.returns
  have hts := atoms_spec (ws := wsX0_sendOver) B.pre
  have hown : s.vm.findClass RX0 = some m.cls := by have h_ := findClass_of_methodNamed B.named; exact h_
  have hlocks := B.notSynchronized
  subst hsz
  have hD := hD0.self (sz := s.heap.size)
  generalize hAe : va_A [ob0_0_ xc xn xk clo cro c4 c5 c6 c7 c8, ob3_0_ xn vp vn n1 n2 n3 n4 n5, ai_ cy n2 40 fs, ai_ cy n3 40 fe, aq_ cy 6 cro 12 (gf_ rr), ai_ cy (rr 0) 12 (Mr 0), ai_ cy (rr 1) 12 (Mr 1), ai_ cy (rr 2) 12 (Mr 2), ai_ cy (rr 3) 12 (Mr 3), ai_ cy (rr 4) 12 (Mr 4), ai_ cy (rr 5) 12 (Mr 5), ai_ cy (rr 6) 12 (Mr 6), ai_ cy (rr 7) 12 (Mr 7), ai_ cy (rr 8) 12 (Mr 8), ai_ cy (rr 9) 12 (Mr 9), ai_ cy (rr 10) 12 (Mr 10), ai_ cy (rr 11) 12 (Mr 11), ai_ cy c4 40 f4, ai_ cy c5 40 f5, ai_ cy c6 40 f6] s.heap.size = A at hD hQ
  have hA : ∀ q : Nat, s.heap.size ≤ q → A q := fun q h => by rw [← hAe]; exact Or.inr h
  have hS : va_S A s.heap s.heap [] := va_S.rf
  have hl := lv_entry ([.ref xc, .int a1, .int a2, .int a3]) (n := 7) (Nat.le_of_ble_eq_true rfl)
  rw [lg_entry_eq]
  generalize (lg_sl ([.ref xc, .int a1, .int a2, .int a3]) ++ List.replicate (7 - (lg_sl ([.ref xc, .int a1, .int a2, .int a3])).length) Slot.unset).toArray = ls at hl ⊢
  have hl : lv_has ls 7 [(0, .ref xc), (1, .int a1), (2, .int a2), (3, .int a3)] := hl
  have z0 : (0 : Int32).toInt = 0 := by decide
  have z1 : (1 : Int32).toInt = 1 := by decide
  have h12_ := hrm _ _ (nc_lt (x := a1) (P := vp) (by omega) (by omega)) (nc_lt (x := a2) (P := vp) (by omega) (by omega))
  have h21_ := hrm _ _ (nc_lt (x := a2) (P := vp) (by omega) (by omega)) (nc_lt (x := a1) (P := vp) (by omega) (by omega))
  refine lv_aload_n hx hb dB_36_0_39.1.1.1.1 rfl (lv_at hl 0 rfl) ?_
  refine va_get (ci := 0) (v := .ref cro) (C := RX0) (T := TX0) (N := 9) hx hb hts (fun _ h => List.mem_cons_of_mem _ (List.mem_append_left _ (List.mem_append_right _ h))) hown hK.1 hP 0 rfl rfl 3 (by decide) (hts (.fieldLink RX0 16 "CutAtlas$Current" "room" "[[I") (List.mem_of_getElem? (i := 1) rfl)) (fun _ h9 => h9) rfl dB_36_0_39.1.1.1.2 ?_
  refine lv_iload_n hx hb dB_36_0_39.1.1.2.1 rfl (lv_at hl 1 rfl) ?_
  have h_1 : vp_in a1 12 := in_I (by first | with_reducible assumption | omega) (by omega)
  refine va_alda hx hb hG hP 4 rfl (i := a1) h_1 dB_36_0_39.1.1.2.2 ?_
  refine lv_topv (v' := .ref (rr a1.toNatClampNeg)) (gf_at h_1) ?_
  refine lv_iload_n hx hb dB_36_0_39.1.2.1.1 rfl (lv_at hl 2 rfl) ?_
  refine lv_dup2_11 hx hb dB_36_0_39.1.2.1.2 rfl rfl ?_
  have h_2 : vp_in a2 12 := in_I (by first | with_reducible assumption | omega) (by omega)
  have hPg : va_P D vwCl (([ob0_0_ xc xn xk clo cro c4 c5 c6 c7 c8, ob3_0_ xn vp vn n1 n2 n3 n4 n5, ai_ cy n2 40 fs, ai_ cy n3 40 fe, aq_ cy 6 cro 12 (gf_ rr)] : va_W) ++ (gro (cy 0) rr Mr ++ ([ai_ cy c4 40 f4, ai_ cy c5 40 f5, ai_ cy c6 40 f6] : va_W))) s.heap := hP
  refine va_gld (X := [ob0_0_ xc xn xk clo cro c4 c5 c6 c7 c8, ob3_0_ xn vp vn n1 n2 n3 n4 n5, ai_ cy n2 40 fs, ai_ cy n3 40 fe, aq_ cy 6 cro 12 (gf_ rr)]) (Y := [ai_ cy c4 40 f4, ai_ cy c5 40 f5, ai_ cy c6 40 f6]) (r := rr) (M := Mr) (k := a1.toNatClampNeg) hx hb hK.1 hPg 0 rfl (in_lt h_1) (i := a2) h_2 dB_36_0_39.1.2.2.1 ?_
  refine lv_topi (fun y_3 ey_3 => ?_)
  have km1_ : y_3.toInt = zM Mr a1.toNatClampNeg a2.toNatClampNeg := by unfold zM; rw [ey_3]
  refine lv_iload_n hx hb dB_36_0_39.1.2.2.2 rfl (lv_at hl 3 rfl) ?_
  refine lv_isub hx hb dB_36_0_39.2.1.1.1 ?_
  refine lv_topi (fun y_4 ey_4 => ?_)
  have ty_4 : y_4.toInt = y_3.toInt - a3.toInt := by rw [ey_4]; exact subI (by omega) (by omega)
  have h1_ : y_4.toInt = (Mr a1.toNatClampNeg a2.toNatClampNeg).toInt - a3.toInt := by rw [show (Mr a1.toNatClampNeg a2.toNatClampNeg).toInt = zM Mr a1.toNatClampNeg a2.toNatClampNeg from rfl]; omega
  have hPg : va_P D vwCl (([ob0_0_ xc xn xk clo cro c4 c5 c6 c7 c8, ob3_0_ xn vp vn n1 n2 n3 n4 n5, ai_ cy n2 40 fs, ai_ cy n3 40 fe, aq_ cy 6 cro 12 (gf_ rr)] : va_W) ++ (gro (cy 0) rr Mr ++ ([ai_ cy c4 40 f4, ai_ cy c5 40 f5, ai_ cy c6 40 f6] : va_W))) s.heap := hP
  have hDg : va_D A (([ob0_0_ xc xn xk clo cro c4 c5 c6 c7 c8, ob3_0_ xn vp vn n1 n2 n3 n4 n5, ai_ cy n2 40 fs, ai_ cy n3 40 fe, aq_ cy 6 cro 12 (gf_ rr)] : va_W) ++ (gro (cy 0) rr Mr ++ ([ai_ cy c4 40 f4, ai_ cy c5 40 f5, ai_ cy c6 40 f6] : va_W))) := hD
  refine va_gst (X := [ob0_0_ xc xn xk clo cro c4 c5 c6 c7 c8, ob3_0_ xn vp vn n1 n2 n3 n4 n5, ai_ cy n2 40 fs, ai_ cy n3 40 fe, aq_ cy 6 cro 12 (gf_ rr)]) (Y := [ai_ cy c4 40 f4, ai_ cy c5 40 f5, ai_ cy c6 40 f6]) (r := rr) (M := Mr) (k := a1.toNatClampNeg) hx hb hK.1 hPg hDg hS 0 rfl (in_lt h_1) (i := a2) h_2 dB_36_0_39.2.1.1.2 (fun H locs hP hD hS => ?_)
  obtain ⟨M_6, eM_6⟩ : ∃ g : Nat → Nat → Int32, g = va_up Mr a1.toNatClampNeg (upd (Mr a1.toNatClampNeg) a2.toNatClampNeg y_4) := ⟨_, rfl⟩
  refine pd_K (D := D) (cl := vwCl) (H := H) (A := A) [ob0_0_ xc xn xk clo cro c4 c5 c6 c7 c8, ob3_0_ xn vp vn n1 n2 n3 n4 n5, ai_ cy n2 40 fs, ai_ cy n3 40 fe, aq_ cy 6 cro 12 (gf_ rr), ai_ cy (rr 0) 12 (M_6 0), ai_ cy (rr 1) 12 (M_6 1), ai_ cy (rr 2) 12 (M_6 2), ai_ cy (rr 3) 12 (M_6 3), ai_ cy (rr 4) 12 (M_6 4), ai_ cy (rr 5) 12 (M_6 5), ai_ cy (rr 6) 12 (M_6 6), ai_ cy (rr 7) 12 (M_6 7), ai_ cy (rr 8) 12 (M_6 8), ai_ cy (rr 9) 12 (M_6 9), ai_ cy (rr 10) 12 (M_6 10), ai_ cy (rr 11) 12 (M_6 11), ai_ cy c4 40 f4, ai_ cy c5 40 f5, ai_ cy c6 40 f6] (by rw [eM_6]; exact hP) (by rw [eM_6]; exact hD) (fun hP hD => ?_)
  refine lv_aload_n hx hb dB_36_0_39.2.1.2.1 rfl (lv_at hl 0 rfl) ?_
  refine va_get (ci := 0) (v := .ref cro) (C := RX0) (T := TX0) (N := 9) hx hb hts (fun _ h => List.mem_cons_of_mem _ (List.mem_append_left _ (List.mem_append_right _ h))) hown hK.1 hP 0 rfl rfl 3 (by decide) (hts (.fieldLink RX0 16 "CutAtlas$Current" "room" "[[I") (List.mem_of_getElem? (i := 1) rfl)) (fun _ h9 => h9) rfl dB_36_0_39.2.1.2.2 ?_
  refine lv_iload_n hx hb dB_36_0_39.2.2.1.1 rfl (lv_at hl 2 rfl) ?_
  refine va_alda hx hb hG hP 4 rfl (i := a2) h_2 dB_36_0_39.2.2.1.2 ?_
  refine lv_topv (v' := .ref (rr a2.toNatClampNeg)) (gf_at h_2) ?_
  refine lv_iload_n hx hb dB_36_0_39.2.2.2.1 rfl (lv_at hl 1 rfl) ?_
  refine lv_dup2_11 hx hb dB_36_0_39.2.2.2.2 rfl rfl ?_
  have hPg : va_P D vwCl (([ob0_0_ xc xn xk clo cro c4 c5 c6 c7 c8, ob3_0_ xn vp vn n1 n2 n3 n4 n5, ai_ cy n2 40 fs, ai_ cy n3 40 fe, aq_ cy 6 cro 12 (gf_ rr)] : va_W) ++ (gro (cy 0) rr M_6 ++ ([ai_ cy c4 40 f4, ai_ cy c5 40 f5, ai_ cy c6 40 f6] : va_W))) H := hP
  refine va_gld (X := [ob0_0_ xc xn xk clo cro c4 c5 c6 c7 c8, ob3_0_ xn vp vn n1 n2 n3 n4 n5, ai_ cy n2 40 fs, ai_ cy n3 40 fe, aq_ cy 6 cro 12 (gf_ rr)]) (Y := [ai_ cy c4 40 f4, ai_ cy c5 40 f5, ai_ cy c6 40 f6]) (r := rr) (M := M_6) (k := a2.toNatClampNeg) hx hb hK.1 hPg 0 rfl (in_lt h_2) (i := a1) h_1 dB_36_0_40.1.1.1.1 ?_
  refine lv_topi (fun y_9 ey_9 => ?_)
  have km2_ : y_9.toInt = (M_6 a2.toNatClampNeg a1.toNatClampNeg).toInt := by rw [ey_9]
  have hv2_ : (M_6 a2.toNatClampNeg a1.toNatClampNeg).toInt = if a2.toNatClampNeg = a1.toNatClampNeg ∧ a1.toNatClampNeg = a2.toNatClampNeg then _ else (Mr a2.toNatClampNeg a1.toNatClampNeg).toInt := m1_v eM_6
  have hz2_ : (Mr a2.toNatClampNeg a1.toNatClampNeg).toInt = zM Mr a2.toNatClampNeg a1.toNatClampNeg := rfl
  have hz1_ : (Mr a1.toNatClampNeg a2.toNatClampNeg).toInt = zM Mr a1.toNatClampNeg a2.toNatClampNeg := rfl
  have hb2_ : -160000000 ≤ y_9.toInt ∧ y_9.toInt ≤ 160000000 := by rw [km2_, hv2_]; split <;> omega
  refine lv_iload_n hx hb dB_36_0_40.1.1.1.2 rfl (lv_at hl 3 rfl) ?_
  refine lv_iadd hx hb dB_36_0_40.1.1.2.1 ?_
  refine lv_topi (fun y_10 ey_10 => ?_)
  have ty_10 : y_10.toInt = y_9.toInt + a3.toInt := by rw [ey_10]; exact addI (by omega) (by omega)
  have h2_ : y_10.toInt = (M_6 a2.toNatClampNeg a1.toNatClampNeg).toInt + a3.toInt := by omega
  have hPg : va_P D vwCl (([ob0_0_ xc xn xk clo cro c4 c5 c6 c7 c8, ob3_0_ xn vp vn n1 n2 n3 n4 n5, ai_ cy n2 40 fs, ai_ cy n3 40 fe, aq_ cy 6 cro 12 (gf_ rr)] : va_W) ++ (gro (cy 0) rr M_6 ++ ([ai_ cy c4 40 f4, ai_ cy c5 40 f5, ai_ cy c6 40 f6] : va_W))) H := hP
  have hDg : va_D A (([ob0_0_ xc xn xk clo cro c4 c5 c6 c7 c8, ob3_0_ xn vp vn n1 n2 n3 n4 n5, ai_ cy n2 40 fs, ai_ cy n3 40 fe, aq_ cy 6 cro 12 (gf_ rr)] : va_W) ++ (gro (cy 0) rr M_6 ++ ([ai_ cy c4 40 f4, ai_ cy c5 40 f5, ai_ cy c6 40 f6] : va_W))) := hD
  refine va_gst (X := [ob0_0_ xc xn xk clo cro c4 c5 c6 c7 c8, ob3_0_ xn vp vn n1 n2 n3 n4 n5, ai_ cy n2 40 fs, ai_ cy n3 40 fe, aq_ cy 6 cro 12 (gf_ rr)]) (Y := [ai_ cy c4 40 f4, ai_ cy c5 40 f5, ai_ cy c6 40 f6]) (r := rr) (M := M_6) (k := a2.toNatClampNeg) hx hb hK.1 hPg hDg hS 0 rfl (in_lt h_2) (i := a1) h_1 dB_36_0_40.1.1.2.2 (fun H locs hP hD hS => ?_)
  obtain ⟨M_12, eM_12⟩ : ∃ g : Nat → Nat → Int32, g = va_up M_6 a2.toNatClampNeg (upd (M_6 a2.toNatClampNeg) a1.toNatClampNeg y_10) := ⟨_, rfl⟩
  refine pd_K (D := D) (cl := vwCl) (H := H) (A := A) [ob0_0_ xc xn xk clo cro c4 c5 c6 c7 c8, ob3_0_ xn vp vn n1 n2 n3 n4 n5, ai_ cy n2 40 fs, ai_ cy n3 40 fe, aq_ cy 6 cro 12 (gf_ rr), ai_ cy (rr 0) 12 (M_12 0), ai_ cy (rr 1) 12 (M_12 1), ai_ cy (rr 2) 12 (M_12 2), ai_ cy (rr 3) 12 (M_12 3), ai_ cy (rr 4) 12 (M_12 4), ai_ cy (rr 5) 12 (M_12 5), ai_ cy (rr 6) 12 (M_12 6), ai_ cy (rr 7) 12 (M_12 7), ai_ cy (rr 8) 12 (M_12 8), ai_ cy (rr 9) 12 (M_12 9), ai_ cy (rr 10) 12 (M_12 10), ai_ cy (rr 11) 12 (M_12 11), ai_ cy c4 40 f4, ai_ cy c5 40 f5, ai_ cy c6 40 f6] (by rw [eM_12]; exact hP) (by rw [eM_12]; exact hD) (fun hP hD => ?_)
  have hed_ : edg (zM Mr) (zM M_12) a1.toNatClampNeg a2.toNatClampNeg a3.toInt := edg_mk eM_6 eM_12 h1_ h2_
  refine lv_iload_n hx hb dB_36_0_40.1.2.1.1 rfl (lv_at hl 3 rfl) ?_
  refine lv_istore (lv' := [(4, .int a3), (0, .ref xc), (1, .int a1), (2, .int a2), (3, .int a3)]) hx hb dB_36_0_40.1.2.1.2 hl (by decide) rfl (fun ls hl => ?_)
  refine lv_iconst (v := 0) hx hb dB_36_0_40.1.2.2.1 (by decide) ?_
  refine lv_istore (lv' := [(5, .int 0), (4, .int a3), (0, .ref xc), (1, .int a1), (2, .int a2), (3, .int a3)]) hx hb dB_36_0_40.1.2.2.2 hl (by decide) rfl (fun ls hl => ?_)
  suffices LOOP_13 : ∀ (n_13 : Nat) (x5_13 : Int32) (x4_13 : Int32) (c_c4_13 : Nat → Int32) (H : Heap) (locs : List Loc) (ls : Array Slot), vn.toInt - x5_13.toInt < (n_13 : Int) → (0 ≤ x5_13.toInt) → (x5_13.toInt ≤ vn.toInt) → pd_2 D vwCl A [ob0_0_ xc xn xk clo cro c4 c5 c6 c7 c8, ob3_0_ xn vp vn n1 n2 n3 n4 n5, ai_ cy n2 40 fs, ai_ cy n3 40 fe, aq_ cy 6 cro 12 (gf_ rr), ai_ cy (rr 0) 12 (M_12 0), ai_ cy (rr 1) 12 (M_12 1), ai_ cy (rr 2) 12 (M_12 2), ai_ cy (rr 3) 12 (M_12 3), ai_ cy (rr 4) 12 (M_12 4), ai_ cy (rr 5) 12 (M_12 5), ai_ cy (rr 6) 12 (M_12 6), ai_ cy (rr 7) 12 (M_12 7), ai_ cy (rr 8) 12 (M_12 8), ai_ cy (rr 9) 12 (M_12 9), ai_ cy (rr 10) 12 (M_12 10), ai_ cy (rr 11) 12 (M_12 11), ai_ cy c4 40 c_c4_13, ai_ cy c5 40 f5, ai_ cy c6 40 f6] H → va_S A s.heap H locs → lv_has ls 7 [(5, .int x5_13), (4, .int x4_13), (0, .ref xc), (1, .int a1), (2, .int a2), (3, .int a3)] → W p l e ({ frames := 1, cells := 0, slots := 0, locals := 13 } : Room) s m (([.ref xc, .int a1, .int a2, .int a3] : List Value).toArray) below meth c H locs 0 0 Q (F0 m 30 ls []) from LOOP_13 ((vn.toInt - (0 : Int32).toInt).toNat + 1) (0 : Int32) a3 f4 _ _ _ (by omega) (by first | with_reducible assumption | omega | assumption) (by first | with_reducible assumption | omega | assumption) ⟨hP, hD⟩ hS (lv_sub hl [0, 1, 2, 3, 4, 5] rfl)
  intro n_13
  induction n_13 with
  | zero =>
    intro x5_13 x4_13 c_c4_13 H locs ls hm v0_13 v1_13 hPD hS hl; obtain ⟨hP, hD⟩ := hPD
    exact absurd hm (by omega)
  | succ n_13 ih_13 =>
    intro x5_13 x4_13 c_c4_13 H locs ls hm v0_13 v1_13 hPD hS hl; obtain ⟨hP, hD⟩ := hPD
    refine lv_iload hx hb dB_36_0_40.2.1.1.1 (lv_at hl 0 rfl) ?_
    refine lv_aload_n hx hb dB_36_0_40.2.1.1.2 rfl (lv_at hl 2 rfl) ?_
    refine va_get (ci := 0) (v := .ref xn) (C := RX0) (T := TX0) (N := 9) hx hb hts (fun _ h => List.mem_cons_of_mem _ (List.mem_append_left _ (List.mem_append_right _ h))) hown hK.1 hP 0 rfl rfl 0 (by decide) (hts (.fieldLink RX0 35 "CutAtlas$Current" "net" "LCutAtlas$Net;") (List.mem_of_getElem? (i := 2) rfl)) (fun _ h9 => h9) rfl dB_36_0_40.2.1.2.1 ?_
    refine va_get (ci := 3) (v := .int vn) (C := RX3) (T := TX3) (N := 7) hx hb hts (fun _ h => List.mem_cons_of_mem _ (List.mem_append_right _ h)) hown hK.1 hP 1 rfl rfl 1 (by decide) (hts (.fieldLink RX0 55 "CutAtlas$Net" "lines" "I") (List.mem_of_getElem? (i := 3) rfl)) (fun _ h9 => h9) rfl dB_36_0_40.2.1.2.2 ?_
    refine lv_icmp_ge (tgt := 194) hx hb dB_36_0_40.2.2.1.1 (by decide) (fun c_14 => ?_) (fun c_14 => ?_)
    · have t_14 : vn.toInt ≤ x5_13.toInt := Int32.le_iff_toInt_le.mp c_14
      rw [hQ]
      exact W.vret hx hb hr (fun t ht hW => ⟨⟨(), rfl, trivial, M_12, c_c4_13, (hed_), by rw [ht]; exact hP, hD⟩, hS.F ht⟩) hS.2.2 dB_36_0_45.2.2.2.2
    · have t_14 : ¬ vn.toInt ≤ x5_13.toInt := fun h => c_14 (Int32.le_iff_toInt_le.mpr h)
      refine lv_iload hx hb dB_36_0_40.2.2.1.2 (lv_at hl 1 rfl) ?_
      refine lv_if_le (tgt := 194) hx hb dB_36_0_40.2.2.2.1 (by decide) (fun c_15 => ?_) (fun c_15 => ?_)
      · have t_15 : x4_13.toInt ≤ (0 : Int32).toInt := Int32.le_iff_toInt_le.mp c_15
        rw [hQ]
        exact W.vret hx hb hr (fun t ht hW => ⟨⟨(), rfl, trivial, M_12, c_c4_13, (hed_), by rw [ht]; exact hP, hD⟩, hS.F ht⟩) hS.2.2 dB_36_0_45.2.2.2.2
      · have t_15 : ¬ x4_13.toInt ≤ (0 : Int32).toInt := fun h => c_15 (Int32.le_iff_toInt_le.mpr h)
        refine lv_aload_n hx hb dB_36_0_40.2.2.2.2 rfl (lv_at hl 2 rfl) ?_
        refine va_get (ci := 0) (v := .ref xn) (C := RX0) (T := TX0) (N := 9) hx hb hts (fun _ h => List.mem_cons_of_mem _ (List.mem_append_left _ (List.mem_append_right _ h))) hown hK.1 hP 0 rfl rfl 0 (by decide) (hts (.fieldLink RX0 35 "CutAtlas$Current" "net" "LCutAtlas$Net;") (List.mem_of_getElem? (i := 2) rfl)) (fun _ h9 => h9) rfl dB_36_0_41.1.1.1.1 ?_
        refine va_get (ci := 3) (v := .ref n2) (C := RX3) (T := TX3) (N := 7) hx hb hts (fun _ h => List.mem_cons_of_mem _ (List.mem_append_right _ h)) hown hK.1 hP 1 rfl rfl 3 (by decide) (hts (.fieldLink RX0 76 "CutAtlas$Net" "starts" "[I") (List.mem_of_getElem? (i := 4) rfl)) (fun _ h9 => h9) rfl dB_36_0_41.1.1.1.2 ?_
        refine lv_iload hx hb dB_36_0_41.1.1.2.1 (lv_at hl 0 rfl) ?_
        have h_16 : vp_in x5_13 40 := in_I (by first | with_reducible assumption | omega) (by omega)
        refine va_iald hx hb hK.1 hP 2 0 rfl rfl (i := x5_13) h_16 dB_36_0_41.1.1.2.2 ?_
        refine lv_topi (fun y_17 ey_17 => ?_)
        refine lv_iload_n hx hb dB_36_0_41.1.2.1.1 rfl (lv_at hl 3 rfl) ?_
        refine lv_icmp_ne (tgt := 119) hx hb dB_36_0_41.1.2.1.2 (by decide) (fun c_18 => ?_) (fun c_18 => ?_)
        · have t_18 : ¬ y_17.toInt = a1.toInt := fun h => c_18 (Int32.toInt_inj.mp h)
          refine lv_aload_n hx hb dB_36_0_43.1.2.2.1 rfl (lv_at hl 2 rfl) ?_
          refine va_get (ci := 0) (v := .ref xn) (C := RX0) (T := TX0) (N := 9) hx hb hts (fun _ h => List.mem_cons_of_mem _ (List.mem_append_left _ (List.mem_append_right _ h))) hown hK.1 hP 0 rfl rfl 0 (by decide) (hts (.fieldLink RX0 35 "CutAtlas$Current" "net" "LCutAtlas$Net;") (List.mem_of_getElem? (i := 2) rfl)) (fun _ h9 => h9) rfl dB_36_0_43.1.2.2.2 ?_
          refine va_get (ci := 3) (v := .ref n2) (C := RX3) (T := TX3) (N := 7) hx hb hts (fun _ h => List.mem_cons_of_mem _ (List.mem_append_right _ h)) hown hK.1 hP 1 rfl rfl 3 (by decide) (hts (.fieldLink RX0 76 "CutAtlas$Net" "starts" "[I") (List.mem_of_getElem? (i := 4) rfl)) (fun _ h9 => h9) rfl dB_36_0_43.2.1.1.1 ?_
          refine lv_iload hx hb dB_36_0_43.2.1.1.2 (lv_at hl 0 rfl) ?_
          refine va_iald hx hb hK.1 hP 2 0 rfl rfl (i := x5_13) h_16 dB_36_0_43.2.1.2.1 ?_
          refine lv_topi (fun y_20 ey_20 => ?_)
          have e_ := (ey_20.trans ey_17.symm).symm
          subst e_
          skip
          refine lv_iload_n hx hb dB_36_0_43.2.1.2.2 rfl (lv_at hl 4 rfl) ?_
          refine lv_icmp_ne (tgt := 188) hx hb dB_36_0_43.2.2.1.1 (by decide) (fun c_21 => ?_) (fun c_21 => ?_)
          · have t_21 : ¬ y_17.toInt = a2.toInt := fun h => c_21 (Int32.toInt_inj.mp h)
            obtain ⟨y_22, ey_22⟩ : ∃ y : Int32, y = x5_13 + 1 := ⟨_, rfl⟩
            have ty_22 : y_22.toInt = x5_13.toInt + (1 : Int32).toInt := by rw [ey_22]; exact addI (by omega) (by omega)
            refine lv_iinc (v := y_22) (lv' := [(5, .int y_22), (4, .int x4_13), (0, .ref xc), (1, .int a1), (2, .int a2), (3, .int a3)]) hx hb dB_36_0_45.2.2.1.2 hl (k := 0) rfl (by rw [ey_22]; rfl) (by decide) rfl (fun ls hl => ?_)
            refine lv_goto (tgt := 30) hx hb dB_36_0_45.2.2.2.1 (by decide) ?_
            exact ih_13 y_22 x4_13 c_c4_13 _ _ _ (by omega) (by first | with_reducible assumption | omega | assumption) (by first | with_reducible assumption | omega | assumption) ⟨hP, hD⟩ hS (lv_sub hl [0, 1, 2, 3, 4, 5] rfl)
          · have t_21 : y_17.toInt = a2.toInt := congrArg Int32.toInt c_21
            refine lv_aload_n hx hb dB_36_0_43.2.2.1.2 rfl (lv_at hl 2 rfl) ?_
            refine va_get (ci := 0) (v := .ref xn) (C := RX0) (T := TX0) (N := 9) hx hb hts (fun _ h => List.mem_cons_of_mem _ (List.mem_append_left _ (List.mem_append_right _ h))) hown hK.1 hP 0 rfl rfl 0 (by decide) (hts (.fieldLink RX0 35 "CutAtlas$Current" "net" "LCutAtlas$Net;") (List.mem_of_getElem? (i := 2) rfl)) (fun _ h9 => h9) rfl dB_36_0_43.2.2.2.1 ?_
            refine va_get (ci := 3) (v := .ref n3) (C := RX3) (T := TX3) (N := 7) hx hb hts (fun _ h => List.mem_cons_of_mem _ (List.mem_append_right _ h)) hown hK.1 hP 1 rfl rfl 4 (by decide) (hts (.fieldLink RX0 79 "CutAtlas$Net" "ends" "[I") (List.mem_of_getElem? (i := 5) rfl)) (fun _ h9 => h9) rfl dB_36_0_43.2.2.2.2 ?_
            refine lv_iload hx hb dB_36_0_44.1.1.1.1 (lv_at hl 0 rfl) ?_
            refine va_iald hx hb hK.1 hP 3 0 rfl rfl (i := x5_13) h_16 dB_36_0_44.1.1.1.2 ?_
            refine lv_topi (fun y_24 ey_24 => ?_)
            refine lv_iload_n hx hb dB_36_0_44.1.1.2.1 rfl (lv_at hl 3 rfl) ?_
            refine lv_icmp_ne (tgt := 188) hx hb dB_36_0_44.1.1.2.2 (by decide) (fun c_25 => ?_) (fun c_25 => ?_)
            · have t_25 : ¬ y_24.toInt = a1.toInt := fun h => c_25 (Int32.toInt_inj.mp h)
              obtain ⟨y_26, ey_26⟩ : ∃ y : Int32, y = x5_13 + 1 := ⟨_, rfl⟩
              have ty_26 : y_26.toInt = x5_13.toInt + (1 : Int32).toInt := by rw [ey_26]; exact addI (by omega) (by omega)
              refine lv_iinc (v := y_26) (lv' := [(5, .int y_26), (4, .int x4_13), (0, .ref xc), (1, .int a1), (2, .int a2), (3, .int a3)]) hx hb dB_36_0_45.2.2.1.2 hl (k := 0) rfl (by rw [ey_26]; rfl) (by decide) rfl (fun ls hl => ?_)
              refine lv_goto (tgt := 30) hx hb dB_36_0_45.2.2.2.1 (by decide) ?_
              exact ih_13 y_26 x4_13 c_c4_13 _ _ _ (by omega) (by first | with_reducible assumption | omega | assumption) (by first | with_reducible assumption | omega | assumption) ⟨hP, hD⟩ hS (lv_sub hl [0, 1, 2, 3, 4, 5] rfl)
            · have t_25 : y_24.toInt = a1.toInt := congrArg Int32.toInt c_25
              refine lv_iload hx hb dB_36_0_44.1.2.1.1 (lv_at hl 1 rfl) ?_
              refine lv_aload_n hx hb dB_36_0_44.1.2.1.2 rfl (lv_at hl 2 rfl) ?_
              refine va_get (ci := 0) (v := .ref c6) (C := RX0) (T := TX0) (N := 9) hx hb hts (fun _ h => List.mem_cons_of_mem _ (List.mem_append_left _ (List.mem_append_right _ h))) hown hK.1 hP 0 rfl rfl 6 (by decide) (hts (.fieldLink RX0 26 "CutAtlas$Current" "letsBack" "[I") (List.mem_of_getElem? (i := 12) rfl)) (fun _ h9 => h9) rfl dB_36_0_44.1.2.2.1 ?_
              refine lv_iload hx hb dB_36_0_44.1.2.2.2 (lv_at hl 0 rfl) ?_
              refine va_iald hx hb hK.1 hP 19 0 rfl rfl (i := x5_13) h_16 dB_36_0_44.2.1.1.1 ?_
              refine lv_topi (fun y_28 ey_28 => ?_)
              refine lv_aload_n hx hb dB_36_0_44.2.1.1.2 rfl (lv_at hl 2 rfl) ?_
              refine va_get (ci := 0) (v := .ref c4) (C := RX0) (T := TX0) (N := 9) hx hb hts (fun _ h => List.mem_cons_of_mem _ (List.mem_append_left _ (List.mem_append_right _ h))) hown hK.1 hP 0 rfl rfl 4 (by decide) (hts (.fieldLink RX0 19 "CutAtlas$Current" "flowing" "[I") (List.mem_of_getElem? (i := 7) rfl)) (fun _ h9 => h9) rfl dB_36_0_44.2.1.2.1 ?_
              refine lv_iload hx hb dB_36_0_44.2.1.2.2 (lv_at hl 0 rfl) ?_
              refine va_iald hx hb hK.1 hP 17 0 rfl rfl (i := x5_13) h_16 dB_36_0_44.2.2.1.1 ?_
              refine lv_topi (fun y_30 ey_30 => ?_)
              refine lv_iadd hx hb dB_36_0_44.2.2.1.2 ?_
              refine lv_topi (fun y_31 ey_31 => ?_)
              refine va_mmin hx hb (by rw [hml]; exact hl.1.symm) hown (hts (.methodLink RX0 101 Lib.Math.min.name) (List.mem_of_getElem? (i := 8) rfl)) (hts (.static Lib.Math.min.name) (List.mem_of_getElem? (i := 9) rfl)) (hts (.initialized "java/lang/Math") (List.mem_of_getElem? (i := 10) rfl)) (hts (.code Lib.Math.min.name Lib.Math.min.code 2 (some .int)) (List.mem_of_getElem? (i := 11) rfl)) (Nat.le_of_ble_eq_true rfl) (Nat.le_of_ble_eq_true rfl) (Nat.le_of_ble_eq_true rfl) (Nat.le_of_ble_eq_true rfl) dB_36_0_44.2.2.2.1 ?_
              refine lv_topi (fun y_32 ey_32 => ?_)
              have ty_32 : y_32 = x4_13 ∨ y_32 = y_31 := by rw [ey_32]; split <;> simp
              have iy_32 : y_32.toInt = x4_13.toInt ∨ y_32.toInt = y_31.toInt := by rcases ty_32 with h | h <;> rw [h] <;> simp
              refine lv_istore (lv' := [(6, .int y_32), (5, .int x5_13), (4, .int x4_13), (0, .ref xc), (1, .int a1), (2, .int a2), (3, .int a3)]) hx hb dB_36_0_44.2.2.2.2 hl (by decide) rfl (fun ls hl => ?_)
              refine lv_aload_n hx hb dB_36_0_45.1.1.1 rfl (lv_at hl 3 rfl) ?_
              refine va_get (ci := 0) (v := .ref c4) (C := RX0) (T := TX0) (N := 9) hx hb hts (fun _ h => List.mem_cons_of_mem _ (List.mem_append_left _ (List.mem_append_right _ h))) hown hK.1 hP 0 rfl rfl 4 (by decide) (hts (.fieldLink RX0 19 "CutAtlas$Current" "flowing" "[I") (List.mem_of_getElem? (i := 7) rfl)) (fun _ h9 => h9) rfl dB_36_0_45.1.1.2.1 ?_
              refine lv_iload hx hb dB_36_0_45.1.1.2.2 (lv_at hl 1 rfl) ?_
              refine lv_dup2_11 hx hb dB_36_0_45.1.2.1.1 rfl rfl ?_
              refine va_iald hx hb hK.1 hP 17 0 rfl rfl (i := x5_13) h_16 dB_36_0_45.1.2.1.2 ?_
              refine lv_topi (fun y_34 ey_34 => ?_)
              have e_ := (ey_34.trans ey_30.symm).symm
              subst e_
              skip
              refine lv_iload hx hb dB_36_0_45.1.2.2.1 (lv_at hl 0 rfl) ?_
              refine lv_isub hx hb dB_36_0_45.1.2.2.2 ?_
              refine lv_topi (fun y_35 ey_35 => ?_)
              refine va_iast hx hb hK.1 hP hD hS 17 0 rfl rfl (i := x5_13) h_16 dB_36_0_45.2.1.1.1 (fun H locs hP hD hS => ?_)
              obtain ⟨f_37, ef_37⟩ : ∃ g : Nat → Int32, g = upd c_c4_13 x5_13.toNatClampNeg y_35 := ⟨_, rfl⟩
              refine pd_K (D := D) (cl := vwCl) (H := H) (A := A) [ob0_0_ xc xn xk clo cro c4 c5 c6 c7 c8, ob3_0_ xn vp vn n1 n2 n3 n4 n5, ai_ cy n2 40 fs, ai_ cy n3 40 fe, aq_ cy 6 cro 12 (gf_ rr), ai_ cy (rr 0) 12 (M_12 0), ai_ cy (rr 1) 12 (M_12 1), ai_ cy (rr 2) 12 (M_12 2), ai_ cy (rr 3) 12 (M_12 3), ai_ cy (rr 4) 12 (M_12 4), ai_ cy (rr 5) 12 (M_12 5), ai_ cy (rr 6) 12 (M_12 6), ai_ cy (rr 7) 12 (M_12 7), ai_ cy (rr 8) 12 (M_12 8), ai_ cy (rr 9) 12 (M_12 9), ai_ cy (rr 10) 12 (M_12 10), ai_ cy (rr 11) 12 (M_12 11), ai_ cy c4 40 f_37, ai_ cy c5 40 f5, ai_ cy c6 40 f6] (by rw [ef_37]; exact hP) (by rw [ef_37]; exact hD) (fun hP hD => ?_)
              refine lv_iload hx hb dB_36_0_45.2.1.1.2 (lv_at hl 2 rfl) ?_
              refine lv_iload hx hb dB_36_0_45.2.1.2.1 (lv_at hl 0 rfl) ?_
              refine lv_isub hx hb dB_36_0_45.2.1.2.2 ?_
              refine lv_topi (fun y_38 ey_38 => ?_)
              refine lv_istore (lv' := [(4, .int y_38), (6, .int y_32), (5, .int x5_13), (0, .ref xc), (1, .int a1), (2, .int a2), (3, .int a3)]) hx hb dB_36_0_45.2.2.1.1 hl (by decide) rfl (fun ls hl => ?_)
              obtain ⟨y_39, ey_39⟩ : ∃ y : Int32, y = x5_13 + 1 := ⟨_, rfl⟩
              have ty_39 : y_39.toInt = x5_13.toInt + (1 : Int32).toInt := by rw [ey_39]; exact addI (by omega) (by omega)
              refine lv_iinc (v := y_39) (lv' := [(5, .int y_39), (4, .int y_38), (6, .int y_32), (0, .ref xc), (1, .int a1), (2, .int a2), (3, .int a3)]) hx hb dB_36_0_45.2.2.1.2 hl (k := 2) rfl (by rw [ey_39]; rfl) (by decide) rfl (fun ls hl => ?_)
              refine lv_goto (tgt := 30) hx hb dB_36_0_45.2.2.2.1 (by decide) ?_
              exact ih_13 y_39 y_38 f_37 _ _ _ (by omega) (by first | with_reducible assumption | omega | assumption) (by first | with_reducible assumption | omega | assumption) ⟨hP, hD⟩ hS (lv_sub hl [0, 1, 3, 4, 5, 6] rfl)
        · have t_18 : y_17.toInt = a1.toInt := congrArg Int32.toInt c_18
          refine lv_aload_n hx hb dB_36_0_41.1.2.2.1 rfl (lv_at hl 2 rfl) ?_
          refine va_get (ci := 0) (v := .ref xn) (C := RX0) (T := TX0) (N := 9) hx hb hts (fun _ h => List.mem_cons_of_mem _ (List.mem_append_left _ (List.mem_append_right _ h))) hown hK.1 hP 0 rfl rfl 0 (by decide) (hts (.fieldLink RX0 35 "CutAtlas$Current" "net" "LCutAtlas$Net;") (List.mem_of_getElem? (i := 2) rfl)) (fun _ h9 => h9) rfl dB_36_0_41.1.2.2.2 ?_
          refine va_get (ci := 3) (v := .ref n3) (C := RX3) (T := TX3) (N := 7) hx hb hts (fun _ h => List.mem_cons_of_mem _ (List.mem_append_right _ h)) hown hK.1 hP 1 rfl rfl 4 (by decide) (hts (.fieldLink RX0 79 "CutAtlas$Net" "ends" "[I") (List.mem_of_getElem? (i := 5) rfl)) (fun _ h9 => h9) rfl dB_36_0_41.2.1.1.1 ?_
          refine lv_iload hx hb dB_36_0_41.2.1.1.2 (lv_at hl 0 rfl) ?_
          refine va_iald hx hb hK.1 hP 3 0 rfl rfl (i := x5_13) h_16 dB_36_0_41.2.1.2.1 ?_
          refine lv_topi (fun y_41 ey_41 => ?_)
          refine lv_iload_n hx hb dB_36_0_41.2.1.2.2 rfl (lv_at hl 4 rfl) ?_
          refine lv_icmp_ne (tgt := 119) hx hb dB_36_0_41.2.2.1.1 (by decide) (fun c_42 => ?_) (fun c_42 => ?_)
          · have t_42 : ¬ y_41.toInt = a2.toInt := fun h => c_42 (Int32.toInt_inj.mp h)
            refine lv_aload_n hx hb dB_36_0_43.1.2.2.1 rfl (lv_at hl 2 rfl) ?_
            refine va_get (ci := 0) (v := .ref xn) (C := RX0) (T := TX0) (N := 9) hx hb hts (fun _ h => List.mem_cons_of_mem _ (List.mem_append_left _ (List.mem_append_right _ h))) hown hK.1 hP 0 rfl rfl 0 (by decide) (hts (.fieldLink RX0 35 "CutAtlas$Current" "net" "LCutAtlas$Net;") (List.mem_of_getElem? (i := 2) rfl)) (fun _ h9 => h9) rfl dB_36_0_43.1.2.2.2 ?_
            refine va_get (ci := 3) (v := .ref n2) (C := RX3) (T := TX3) (N := 7) hx hb hts (fun _ h => List.mem_cons_of_mem _ (List.mem_append_right _ h)) hown hK.1 hP 1 rfl rfl 3 (by decide) (hts (.fieldLink RX0 76 "CutAtlas$Net" "starts" "[I") (List.mem_of_getElem? (i := 4) rfl)) (fun _ h9 => h9) rfl dB_36_0_43.2.1.1.1 ?_
            refine lv_iload hx hb dB_36_0_43.2.1.1.2 (lv_at hl 0 rfl) ?_
            refine va_iald hx hb hK.1 hP 2 0 rfl rfl (i := x5_13) h_16 dB_36_0_43.2.1.2.1 ?_
            refine lv_topi (fun y_44 ey_44 => ?_)
            have e_ := (ey_44.trans ey_17.symm).symm
            subst e_
            skip
            refine lv_iload_n hx hb dB_36_0_43.2.1.2.2 rfl (lv_at hl 4 rfl) ?_
            refine lv_icmp_ne (tgt := 188) hx hb dB_36_0_43.2.2.1.1 (by decide) (fun c_45 => ?_) (fun c_45 => ?_)
            · have t_45 : ¬ y_17.toInt = a2.toInt := fun h => c_45 (Int32.toInt_inj.mp h)
              obtain ⟨y_46, ey_46⟩ : ∃ y : Int32, y = x5_13 + 1 := ⟨_, rfl⟩
              have ty_46 : y_46.toInt = x5_13.toInt + (1 : Int32).toInt := by rw [ey_46]; exact addI (by omega) (by omega)
              refine lv_iinc (v := y_46) (lv' := [(5, .int y_46), (4, .int x4_13), (0, .ref xc), (1, .int a1), (2, .int a2), (3, .int a3)]) hx hb dB_36_0_45.2.2.1.2 hl (k := 0) rfl (by rw [ey_46]; rfl) (by decide) rfl (fun ls hl => ?_)
              refine lv_goto (tgt := 30) hx hb dB_36_0_45.2.2.2.1 (by decide) ?_
              exact ih_13 y_46 x4_13 c_c4_13 _ _ _ (by omega) (by first | with_reducible assumption | omega | assumption) (by first | with_reducible assumption | omega | assumption) ⟨hP, hD⟩ hS (lv_sub hl [0, 1, 2, 3, 4, 5] rfl)
            · have t_45 : y_17.toInt = a2.toInt := congrArg Int32.toInt c_45
              refine lv_aload_n hx hb dB_36_0_43.2.2.1.2 rfl (lv_at hl 2 rfl) ?_
              refine va_get (ci := 0) (v := .ref xn) (C := RX0) (T := TX0) (N := 9) hx hb hts (fun _ h => List.mem_cons_of_mem _ (List.mem_append_left _ (List.mem_append_right _ h))) hown hK.1 hP 0 rfl rfl 0 (by decide) (hts (.fieldLink RX0 35 "CutAtlas$Current" "net" "LCutAtlas$Net;") (List.mem_of_getElem? (i := 2) rfl)) (fun _ h9 => h9) rfl dB_36_0_43.2.2.2.1 ?_
              refine va_get (ci := 3) (v := .ref n3) (C := RX3) (T := TX3) (N := 7) hx hb hts (fun _ h => List.mem_cons_of_mem _ (List.mem_append_right _ h)) hown hK.1 hP 1 rfl rfl 4 (by decide) (hts (.fieldLink RX0 79 "CutAtlas$Net" "ends" "[I") (List.mem_of_getElem? (i := 5) rfl)) (fun _ h9 => h9) rfl dB_36_0_43.2.2.2.2 ?_
              refine lv_iload hx hb dB_36_0_44.1.1.1.1 (lv_at hl 0 rfl) ?_
              refine va_iald hx hb hK.1 hP 3 0 rfl rfl (i := x5_13) h_16 dB_36_0_44.1.1.1.2 ?_
              refine lv_topi (fun y_48 ey_48 => ?_)
              have e_ := (ey_48.trans ey_41.symm).symm
              subst e_
              skip
              refine lv_iload_n hx hb dB_36_0_44.1.1.2.1 rfl (lv_at hl 3 rfl) ?_
              refine lv_icmp_ne (tgt := 188) hx hb dB_36_0_44.1.1.2.2 (by decide) (fun c_49 => ?_) (fun c_49 => ?_)
              · have t_49 : ¬ y_41.toInt = a1.toInt := fun h => c_49 (Int32.toInt_inj.mp h)
                obtain ⟨y_50, ey_50⟩ : ∃ y : Int32, y = x5_13 + 1 := ⟨_, rfl⟩
                have ty_50 : y_50.toInt = x5_13.toInt + (1 : Int32).toInt := by rw [ey_50]; exact addI (by omega) (by omega)
                refine lv_iinc (v := y_50) (lv' := [(5, .int y_50), (4, .int x4_13), (0, .ref xc), (1, .int a1), (2, .int a2), (3, .int a3)]) hx hb dB_36_0_45.2.2.1.2 hl (k := 0) rfl (by rw [ey_50]; rfl) (by decide) rfl (fun ls hl => ?_)
                refine lv_goto (tgt := 30) hx hb dB_36_0_45.2.2.2.1 (by decide) ?_
                exact ih_13 y_50 x4_13 c_c4_13 _ _ _ (by omega) (by first | with_reducible assumption | omega | assumption) (by first | with_reducible assumption | omega | assumption) ⟨hP, hD⟩ hS (lv_sub hl [0, 1, 2, 3, 4, 5] rfl)
              · have t_49 : y_41.toInt = a1.toInt := congrArg Int32.toInt c_49
                refine lv_iload hx hb dB_36_0_44.1.2.1.1 (lv_at hl 1 rfl) ?_
                refine lv_aload_n hx hb dB_36_0_44.1.2.1.2 rfl (lv_at hl 2 rfl) ?_
                refine va_get (ci := 0) (v := .ref c6) (C := RX0) (T := TX0) (N := 9) hx hb hts (fun _ h => List.mem_cons_of_mem _ (List.mem_append_left _ (List.mem_append_right _ h))) hown hK.1 hP 0 rfl rfl 6 (by decide) (hts (.fieldLink RX0 26 "CutAtlas$Current" "letsBack" "[I") (List.mem_of_getElem? (i := 12) rfl)) (fun _ h9 => h9) rfl dB_36_0_44.1.2.2.1 ?_
                refine lv_iload hx hb dB_36_0_44.1.2.2.2 (lv_at hl 0 rfl) ?_
                refine va_iald hx hb hK.1 hP 19 0 rfl rfl (i := x5_13) h_16 dB_36_0_44.2.1.1.1 ?_
                refine lv_topi (fun y_52 ey_52 => ?_)
                refine lv_aload_n hx hb dB_36_0_44.2.1.1.2 rfl (lv_at hl 2 rfl) ?_
                refine va_get (ci := 0) (v := .ref c4) (C := RX0) (T := TX0) (N := 9) hx hb hts (fun _ h => List.mem_cons_of_mem _ (List.mem_append_left _ (List.mem_append_right _ h))) hown hK.1 hP 0 rfl rfl 4 (by decide) (hts (.fieldLink RX0 19 "CutAtlas$Current" "flowing" "[I") (List.mem_of_getElem? (i := 7) rfl)) (fun _ h9 => h9) rfl dB_36_0_44.2.1.2.1 ?_
                refine lv_iload hx hb dB_36_0_44.2.1.2.2 (lv_at hl 0 rfl) ?_
                refine va_iald hx hb hK.1 hP 17 0 rfl rfl (i := x5_13) h_16 dB_36_0_44.2.2.1.1 ?_
                refine lv_topi (fun y_54 ey_54 => ?_)
                refine lv_iadd hx hb dB_36_0_44.2.2.1.2 ?_
                refine lv_topi (fun y_55 ey_55 => ?_)
                refine va_mmin hx hb (by rw [hml]; exact hl.1.symm) hown (hts (.methodLink RX0 101 Lib.Math.min.name) (List.mem_of_getElem? (i := 8) rfl)) (hts (.static Lib.Math.min.name) (List.mem_of_getElem? (i := 9) rfl)) (hts (.initialized "java/lang/Math") (List.mem_of_getElem? (i := 10) rfl)) (hts (.code Lib.Math.min.name Lib.Math.min.code 2 (some .int)) (List.mem_of_getElem? (i := 11) rfl)) (Nat.le_of_ble_eq_true rfl) (Nat.le_of_ble_eq_true rfl) (Nat.le_of_ble_eq_true rfl) (Nat.le_of_ble_eq_true rfl) dB_36_0_44.2.2.2.1 ?_
                refine lv_topi (fun y_56 ey_56 => ?_)
                have ty_56 : y_56 = x4_13 ∨ y_56 = y_55 := by rw [ey_56]; split <;> simp
                have iy_56 : y_56.toInt = x4_13.toInt ∨ y_56.toInt = y_55.toInt := by rcases ty_56 with h | h <;> rw [h] <;> simp
                refine lv_istore (lv' := [(6, .int y_56), (5, .int x5_13), (4, .int x4_13), (0, .ref xc), (1, .int a1), (2, .int a2), (3, .int a3)]) hx hb dB_36_0_44.2.2.2.2 hl (by decide) rfl (fun ls hl => ?_)
                refine lv_aload_n hx hb dB_36_0_45.1.1.1 rfl (lv_at hl 3 rfl) ?_
                refine va_get (ci := 0) (v := .ref c4) (C := RX0) (T := TX0) (N := 9) hx hb hts (fun _ h => List.mem_cons_of_mem _ (List.mem_append_left _ (List.mem_append_right _ h))) hown hK.1 hP 0 rfl rfl 4 (by decide) (hts (.fieldLink RX0 19 "CutAtlas$Current" "flowing" "[I") (List.mem_of_getElem? (i := 7) rfl)) (fun _ h9 => h9) rfl dB_36_0_45.1.1.2.1 ?_
                refine lv_iload hx hb dB_36_0_45.1.1.2.2 (lv_at hl 1 rfl) ?_
                refine lv_dup2_11 hx hb dB_36_0_45.1.2.1.1 rfl rfl ?_
                refine va_iald hx hb hK.1 hP 17 0 rfl rfl (i := x5_13) h_16 dB_36_0_45.1.2.1.2 ?_
                refine lv_topi (fun y_58 ey_58 => ?_)
                have e_ := (ey_58.trans ey_54.symm).symm
                subst e_
                skip
                refine lv_iload hx hb dB_36_0_45.1.2.2.1 (lv_at hl 0 rfl) ?_
                refine lv_isub hx hb dB_36_0_45.1.2.2.2 ?_
                refine lv_topi (fun y_59 ey_59 => ?_)
                refine va_iast hx hb hK.1 hP hD hS 17 0 rfl rfl (i := x5_13) h_16 dB_36_0_45.2.1.1.1 (fun H locs hP hD hS => ?_)
                obtain ⟨f_61, ef_61⟩ : ∃ g : Nat → Int32, g = upd c_c4_13 x5_13.toNatClampNeg y_59 := ⟨_, rfl⟩
                refine pd_K (D := D) (cl := vwCl) (H := H) (A := A) [ob0_0_ xc xn xk clo cro c4 c5 c6 c7 c8, ob3_0_ xn vp vn n1 n2 n3 n4 n5, ai_ cy n2 40 fs, ai_ cy n3 40 fe, aq_ cy 6 cro 12 (gf_ rr), ai_ cy (rr 0) 12 (M_12 0), ai_ cy (rr 1) 12 (M_12 1), ai_ cy (rr 2) 12 (M_12 2), ai_ cy (rr 3) 12 (M_12 3), ai_ cy (rr 4) 12 (M_12 4), ai_ cy (rr 5) 12 (M_12 5), ai_ cy (rr 6) 12 (M_12 6), ai_ cy (rr 7) 12 (M_12 7), ai_ cy (rr 8) 12 (M_12 8), ai_ cy (rr 9) 12 (M_12 9), ai_ cy (rr 10) 12 (M_12 10), ai_ cy (rr 11) 12 (M_12 11), ai_ cy c4 40 f_61, ai_ cy c5 40 f5, ai_ cy c6 40 f6] (by rw [ef_61]; exact hP) (by rw [ef_61]; exact hD) (fun hP hD => ?_)
                refine lv_iload hx hb dB_36_0_45.2.1.1.2 (lv_at hl 2 rfl) ?_
                refine lv_iload hx hb dB_36_0_45.2.1.2.1 (lv_at hl 0 rfl) ?_
                refine lv_isub hx hb dB_36_0_45.2.1.2.2 ?_
                refine lv_topi (fun y_62 ey_62 => ?_)
                refine lv_istore (lv' := [(4, .int y_62), (6, .int y_56), (5, .int x5_13), (0, .ref xc), (1, .int a1), (2, .int a2), (3, .int a3)]) hx hb dB_36_0_45.2.2.1.1 hl (by decide) rfl (fun ls hl => ?_)
                obtain ⟨y_63, ey_63⟩ : ∃ y : Int32, y = x5_13 + 1 := ⟨_, rfl⟩
                have ty_63 : y_63.toInt = x5_13.toInt + (1 : Int32).toInt := by rw [ey_63]; exact addI (by omega) (by omega)
                refine lv_iinc (v := y_63) (lv' := [(5, .int y_63), (4, .int y_62), (6, .int y_56), (0, .ref xc), (1, .int a1), (2, .int a2), (3, .int a3)]) hx hb dB_36_0_45.2.2.1.2 hl (k := 2) rfl (by rw [ey_63]; rfl) (by decide) rfl (fun ls hl => ?_)
                refine lv_goto (tgt := 30) hx hb dB_36_0_45.2.2.2.1 (by decide) ?_
                exact ih_13 y_63 y_62 f_61 _ _ _ (by omega) (by first | with_reducible assumption | omega | assumption) (by first | with_reducible assumption | omega | assumption) ⟨hP, hD⟩ hS (lv_sub hl [0, 1, 3, 4, 5, 6] rfl)
          · have t_42 : y_41.toInt = a2.toInt := congrArg Int32.toInt c_42
            refine lv_iload hx hb dB_36_0_41.2.2.1.2 (lv_at hl 1 rfl) ?_
            refine lv_aload_n hx hb dB_36_0_41.2.2.2.1 rfl (lv_at hl 2 rfl) ?_
            refine va_get (ci := 0) (v := .ref c5) (C := RX0) (T := TX0) (N := 9) hx hb hts (fun _ h => List.mem_cons_of_mem _ (List.mem_append_left _ (List.mem_append_right _ h))) hown hK.1 hP 0 rfl rfl 5 (by decide) (hts (.fieldLink RX0 23 "CutAtlas$Current" "letsForth" "[I") (List.mem_of_getElem? (i := 6) rfl)) (fun _ h9 => h9) rfl dB_36_0_41.2.2.2.2 ?_
            refine lv_iload hx hb dB_36_0_42.1.1.1.1 (lv_at hl 0 rfl) ?_
            refine va_iald hx hb hK.1 hP 18 0 rfl rfl (i := x5_13) h_16 dB_36_0_42.1.1.1.2 ?_
            refine lv_topi (fun y_65 ey_65 => ?_)
            refine lv_aload_n hx hb dB_36_0_42.1.1.2.1 rfl (lv_at hl 2 rfl) ?_
            refine va_get (ci := 0) (v := .ref c4) (C := RX0) (T := TX0) (N := 9) hx hb hts (fun _ h => List.mem_cons_of_mem _ (List.mem_append_left _ (List.mem_append_right _ h))) hown hK.1 hP 0 rfl rfl 4 (by decide) (hts (.fieldLink RX0 19 "CutAtlas$Current" "flowing" "[I") (List.mem_of_getElem? (i := 7) rfl)) (fun _ h9 => h9) rfl dB_36_0_42.1.1.2.2 ?_
            refine lv_iload hx hb dB_36_0_42.1.2.1.1 (lv_at hl 0 rfl) ?_
            refine va_iald hx hb hK.1 hP 17 0 rfl rfl (i := x5_13) h_16 dB_36_0_42.1.2.1.2 ?_
            refine lv_topi (fun y_67 ey_67 => ?_)
            refine lv_isub hx hb dB_36_0_42.1.2.2.1 ?_
            refine lv_topi (fun y_68 ey_68 => ?_)
            refine va_mmin hx hb (by rw [hml]; exact hl.1.symm) hown (hts (.methodLink RX0 101 Lib.Math.min.name) (List.mem_of_getElem? (i := 8) rfl)) (hts (.static Lib.Math.min.name) (List.mem_of_getElem? (i := 9) rfl)) (hts (.initialized "java/lang/Math") (List.mem_of_getElem? (i := 10) rfl)) (hts (.code Lib.Math.min.name Lib.Math.min.code 2 (some .int)) (List.mem_of_getElem? (i := 11) rfl)) (Nat.le_of_ble_eq_true rfl) (Nat.le_of_ble_eq_true rfl) (Nat.le_of_ble_eq_true rfl) (Nat.le_of_ble_eq_true rfl) dB_36_0_42.1.2.2.2 ?_
            refine lv_topi (fun y_69 ey_69 => ?_)
            have ty_69 : y_69 = x4_13 ∨ y_69 = y_68 := by rw [ey_69]; split <;> simp
            have iy_69 : y_69.toInt = x4_13.toInt ∨ y_69.toInt = y_68.toInt := by rcases ty_69 with h | h <;> rw [h] <;> simp
            refine lv_istore (lv' := [(6, .int y_69), (5, .int x5_13), (4, .int x4_13), (0, .ref xc), (1, .int a1), (2, .int a2), (3, .int a3)]) hx hb dB_36_0_42.2.1.1.1 hl (by decide) rfl (fun ls hl => ?_)
            refine lv_aload_n hx hb dB_36_0_42.2.1.1.2 rfl (lv_at hl 3 rfl) ?_
            refine va_get (ci := 0) (v := .ref c4) (C := RX0) (T := TX0) (N := 9) hx hb hts (fun _ h => List.mem_cons_of_mem _ (List.mem_append_left _ (List.mem_append_right _ h))) hown hK.1 hP 0 rfl rfl 4 (by decide) (hts (.fieldLink RX0 19 "CutAtlas$Current" "flowing" "[I") (List.mem_of_getElem? (i := 7) rfl)) (fun _ h9 => h9) rfl dB_36_0_42.2.1.2.1 ?_
            refine lv_iload hx hb dB_36_0_42.2.1.2.2 (lv_at hl 1 rfl) ?_
            refine lv_dup2_11 hx hb dB_36_0_42.2.2.1.1 rfl rfl ?_
            refine va_iald hx hb hK.1 hP 17 0 rfl rfl (i := x5_13) h_16 dB_36_0_42.2.2.1.2 ?_
            refine lv_topi (fun y_71 ey_71 => ?_)
            have e_ := (ey_71.trans ey_67.symm).symm
            subst e_
            skip
            refine lv_iload hx hb dB_36_0_42.2.2.2.1 (lv_at hl 0 rfl) ?_
            refine lv_iadd hx hb dB_36_0_42.2.2.2.2 ?_
            refine lv_topi (fun y_72 ey_72 => ?_)
            refine va_iast hx hb hK.1 hP hD hS 17 0 rfl rfl (i := x5_13) h_16 dB_36_0_43.1.1.1.1 (fun H locs hP hD hS => ?_)
            obtain ⟨f_74, ef_74⟩ : ∃ g : Nat → Int32, g = upd c_c4_13 x5_13.toNatClampNeg y_72 := ⟨_, rfl⟩
            refine pd_K (D := D) (cl := vwCl) (H := H) (A := A) [ob0_0_ xc xn xk clo cro c4 c5 c6 c7 c8, ob3_0_ xn vp vn n1 n2 n3 n4 n5, ai_ cy n2 40 fs, ai_ cy n3 40 fe, aq_ cy 6 cro 12 (gf_ rr), ai_ cy (rr 0) 12 (M_12 0), ai_ cy (rr 1) 12 (M_12 1), ai_ cy (rr 2) 12 (M_12 2), ai_ cy (rr 3) 12 (M_12 3), ai_ cy (rr 4) 12 (M_12 4), ai_ cy (rr 5) 12 (M_12 5), ai_ cy (rr 6) 12 (M_12 6), ai_ cy (rr 7) 12 (M_12 7), ai_ cy (rr 8) 12 (M_12 8), ai_ cy (rr 9) 12 (M_12 9), ai_ cy (rr 10) 12 (M_12 10), ai_ cy (rr 11) 12 (M_12 11), ai_ cy c4 40 f_74, ai_ cy c5 40 f5, ai_ cy c6 40 f6] (by rw [ef_74]; exact hP) (by rw [ef_74]; exact hD) (fun hP hD => ?_)
            refine lv_iload hx hb dB_36_0_43.1.1.1.2 (lv_at hl 2 rfl) ?_
            refine lv_iload hx hb dB_36_0_43.1.1.2.1 (lv_at hl 0 rfl) ?_
            refine lv_isub hx hb dB_36_0_43.1.1.2.2 ?_
            refine lv_topi (fun y_75 ey_75 => ?_)
            refine lv_istore (lv' := [(4, .int y_75), (6, .int y_69), (5, .int x5_13), (0, .ref xc), (1, .int a1), (2, .int a2), (3, .int a3)]) hx hb dB_36_0_43.1.2.1.1 hl (by decide) rfl (fun ls hl => ?_)
            refine lv_goto (tgt := 188) hx hb dB_36_0_43.1.2.1.2 (by decide) ?_
            obtain ⟨y_76, ey_76⟩ : ∃ y : Int32, y = x5_13 + 1 := ⟨_, rfl⟩
            have ty_76 : y_76.toInt = x5_13.toInt + (1 : Int32).toInt := by rw [ey_76]; exact addI (by omega) (by omega)
            refine lv_iinc (v := y_76) (lv' := [(5, .int y_76), (4, .int y_75), (6, .int y_69), (0, .ref xc), (1, .int a1), (2, .int a2), (3, .int a3)]) hx hb dB_36_0_45.2.2.1.2 hl (k := 2) rfl (by rw [ey_76]; rfl) (by decide) rfl (fun ls hl => ?_)
            refine lv_goto (tgt := 30) hx hb dB_36_0_45.2.2.2.1 (by decide) ?_
            exact ih_13 y_76 y_75 f_74 _ _ _ (by omega) (by first | with_reducible assumption | omega | assumption) (by first | with_reducible assumption | omega | assumption) ⟨hP, hD⟩ hS (lv_sub hl [0, 1, 3, 4, 5, 6] rfl)
end

section
set_option maxHeartbeats 4000000 in
set_option maxRecDepth 100000 in
theorem c_X0_sendAlongWay2 (l : Launch) (D : va_G) (cy : Nat → ClassId) (sz : Nat) (xc : Nat) (xk : Nat) (clo : Nat) (cro : Nat) (c4 : Nat) (c5 : Nat) (c6 : Nat) (c7 : Nat) (c8 : Nat) (xn : Nat) (n1 : Nat) (n2 : Nat) (n3 : Nat) (n4 : Nat) (n5 : Nat) (vp : Int32) (vn : Int32) (fs : Nat → Int32) (fe : Nat → Int32) (rr : Nat → Nat) (Mr : Nat → Nat → Int32) (f4 : Nat → Int32) (f5 : Nat → Int32) (f6 : Nat → Int32) (f8 : Nat → Int32) (a1 : Int32) (a2 : Int32) (hvp : 0 ≤ vp.toInt ∧ vp.toInt ≤ 12) (hvn : 0 ≤ vn.toInt ∧ vn.toInt ≤ 40) (q1 : 0 ≤ a1.toInt ∧ a1.toInt < vp.toInt) (q2 : 0 ≤ a2.toInt ∧ a2.toInt < vp.toInt) (hne : a1.toInt ≠ a2.toInt) (hrm : rmk (zM Mr) vp.toNatClampNeg) (hw : ∃ n : Nat, n ≤ 11 ∧ wayA (zM Mr) (nF f8) vp.toNatClampNeg a1.toNatClampNeg 1 n a2.toNatClampNeg) (r_f8 : rng f8 12 (0) (11)) : Met l yX0_sendAlongWay wsX0_sendAlongWay ({ frames := 2, cells := 0, slots := 0, locals := 39 }) (va_Pc [.ref xc, .int a1, .int a2] (fun U => U.heap.size = sz ∧ va_P D vwCl [ob0_0_ xc xn xk clo cro c4 c5 c6 c7 c8, ob3_0_ xn vp vn n1 n2 n3 n4 n5, ai_ cy n2 40 fs, ai_ cy n3 40 fe, aq_ cy 6 cro 12 (gf_ rr), ai_ cy (rr 0) 12 (Mr 0), ai_ cy (rr 1) 12 (Mr 1), ai_ cy (rr 2) 12 (Mr 2), ai_ cy (rr 3) 12 (Mr 3), ai_ cy (rr 4) 12 (Mr 4), ai_ cy (rr 5) 12 (Mr 5), ai_ cy (rr 6) 12 (Mr 6), ai_ cy (rr 7) 12 (Mr 7), ai_ cy (rr 8) 12 (Mr 8), ai_ cy (rr 9) 12 (Mr 9), ai_ cy (rr 10) 12 (Mr 10), ai_ cy (rr 11) 12 (Mr 11), ai_ cy c4 40 f4, ai_ cy c5 40 f5, ai_ cy c6 40 f6, ai_ cy c8 12 f8] U.heap ∧ kg_ D cy U ∧ va_D (fun _ => True) [ob0_0_ xc xn xk clo cro c4 c5 c6 c7 c8, ob3_0_ xn vp vn n1 n2 n3 n4 n5, ai_ cy n2 40 fs, ai_ cy n3 40 fe, aq_ cy 6 cro 12 (gf_ rr), ai_ cy (rr 0) 12 (Mr 0), ai_ cy (rr 1) 12 (Mr 1), ai_ cy (rr 2) 12 (Mr 2), ai_ cy (rr 3) 12 (Mr 3), ai_ cy (rr 4) 12 (Mr 4), ai_ cy (rr 5) 12 (Mr 5), ai_ cy (rr 6) 12 (Mr 6), ai_ cy (rr 7) 12 (Mr 7), ai_ cy (rr 8) 12 (Mr 8), ai_ cy (rr 9) 12 (Mr 9), ai_ cy (rr 10) 12 (Mr 10), ai_ cy (rr 11) 12 (Mr 11), ai_ cy c4 40 f4, ai_ cy c5 40 f5, ai_ cy c6 40 f6, ai_ cy c8 12 f8])) (va_Qi (fun (r : Int32) (u : Int32) => u = r ∧ ((1 ≤ r.toInt ∧ r.toInt ≤ 160000000))) (fun (u : Int32) (t : State) => ∃ (eMr : Nat → Nat → Int32), ∃ (e4 : Nat → Int32), (rmk (zM eMr) vp.toNatClampNeg) ∧ (∀ S : Nat → Bool, sep a1.toNatClampNeg a2.toNatClampNeg S → outZ (zM eMr) S vp.toNatClampNeg = outZ (zM Mr) S vp.toNatClampNeg - u.toInt) ∧ va_P D vwCl [ob0_0_ xc xn xk clo cro c4 c5 c6 c7 c8, ob3_0_ xn vp vn n1 n2 n3 n4 n5, ai_ cy n2 40 fs, ai_ cy n3 40 fe, aq_ cy 6 cro 12 (gf_ rr), ai_ cy (rr 0) 12 (eMr 0), ai_ cy (rr 1) 12 (eMr 1), ai_ cy (rr 2) 12 (eMr 2), ai_ cy (rr 3) 12 (eMr 3), ai_ cy (rr 4) 12 (eMr 4), ai_ cy (rr 5) 12 (eMr 5), ai_ cy (rr 6) 12 (eMr 6), ai_ cy (rr 7) 12 (eMr 7), ai_ cy (rr 8) 12 (eMr 8), ai_ cy (rr 9) 12 (eMr 9), ai_ cy (rr 10) 12 (eMr 10), ai_ cy (rr 11) 12 (eMr 11), ai_ cy c4 40 e4, ai_ cy c5 40 f5, ai_ cy c6 40 f6, ai_ cy c8 12 f8] t.heap ∧ va_D (va_A [ob0_0_ xc xn xk clo cro c4 c5 c6 c7 c8, ob3_0_ xn vp vn n1 n2 n3 n4 n5, ai_ cy n2 40 fs, ai_ cy n3 40 fe, aq_ cy 6 cro 12 (gf_ rr), ai_ cy (rr 0) 12 (Mr 0), ai_ cy (rr 1) 12 (Mr 1), ai_ cy (rr 2) 12 (Mr 2), ai_ cy (rr 3) 12 (Mr 3), ai_ cy (rr 4) 12 (Mr 4), ai_ cy (rr 5) 12 (Mr 5), ai_ cy (rr 6) 12 (Mr 6), ai_ cy (rr 7) 12 (Mr 7), ai_ cy (rr 8) 12 (Mr 8), ai_ cy (rr 9) 12 (Mr 9), ai_ cy (rr 10) 12 (Mr 10), ai_ cy (rr 11) 12 (Mr 11), ai_ cy c4 40 f4, ai_ cy c5 40 f5, ai_ cy c6 40 f6, ai_ cy c8 12 f8] sz) [ob0_0_ xc xn xk clo cro c4 c5 c6 c7 c8, ob3_0_ xn vp vn n1 n2 n3 n4 n5, ai_ cy n2 40 fs, ai_ cy n3 40 fe, aq_ cy 6 cro 12 (gf_ rr), ai_ cy (rr 0) 12 (eMr 0), ai_ cy (rr 1) 12 (eMr 1), ai_ cy (rr 2) 12 (eMr 2), ai_ cy (rr 3) 12 (eMr 3), ai_ cy (rr 4) 12 (eMr 4), ai_ cy (rr 5) 12 (eMr 5), ai_ cy (rr 6) 12 (eMr 6), ai_ cy (rr 7) 12 (eMr 7), ai_ cy (rr 8) 12 (eMr 8), ai_ cy (rr 9) 12 (eMr 9), ai_ cy (rr 10) 12 (eMr 10), ai_ cy (rr 11) 12 (eMr 11), ai_ cy c4 40 e4, ai_ cy c5 40 f5, ai_ cy c6 40 f6, ai_ cy c8 12 f8]) (va_A [ob0_0_ xc xn xk clo cro c4 c5 c6 c7 c8, ob3_0_ xn vp vn n1 n2 n3 n4 n5, ai_ cy n2 40 fs, ai_ cy n3 40 fe, aq_ cy 6 cro 12 (gf_ rr), ai_ cy (rr 0) 12 (Mr 0), ai_ cy (rr 1) 12 (Mr 1), ai_ cy (rr 2) 12 (Mr 2), ai_ cy (rr 3) 12 (Mr 3), ai_ cy (rr 4) 12 (Mr 4), ai_ cy (rr 5) 12 (Mr 5), ai_ cy (rr 6) 12 (Mr 6), ai_ cy (rr 7) 12 (Mr 7), ai_ cy (rr 8) 12 (Mr 8), ai_ cy (rr 9) 12 (Mr 9), ai_ cy (rr 10) 12 (Mr 10), ai_ cy (rr 11) 12 (Mr 11), ai_ cy c4 40 f4, ai_ cy c5 40 f5, ai_ cy c6 40 f6, ai_ cy c8 12 f8] sz)) 0 0 (va_A [ob0_0_ xc xn xk clo cro c4 c5 c6 c7 c8, ob3_0_ xn vp vn n1 n2 n3 n4 n5, ai_ cy n2 40 fs, ai_ cy n3 40 fe, aq_ cy 6 cro 12 (gf_ rr), ai_ cy (rr 0) 12 (Mr 0), ai_ cy (rr 1) 12 (Mr 1), ai_ cy (rr 2) 12 (Mr 2), ai_ cy (rr 3) 12 (Mr 3), ai_ cy (rr 4) 12 (Mr 4), ai_ cy (rr 5) 12 (Mr 5), ai_ cy (rr 6) 12 (Mr 6), ai_ cy (rr 7) 12 (Mr 7), ai_ cy (rr 8) 12 (Mr 8), ai_ cy (rr 9) 12 (Mr 9), ai_ cy (rr 10) 12 (Mr 10), ai_ cy (rr 11) 12 (Mr 11), ai_ cy c4 40 f4, ai_ cy c5 40 f5, ai_ cy c6 40 f6, ai_ cy c8 12 f8] sz) := by
  refine ofQ (cc := cX0_sendAlongWay) (maxL := 6) (ret := (some .int)) (by decide) rfl ?_
  intro p e s m args below meth c s₁ Q hQ B hml hv
  obtain ⟨rfl, hsz, hP, hK, hD0⟩ := hv
  have hG := hK.2
  have hK := hK.1
  have hx := B.exec
  have hb := B.bytes
  have hr := B.returns
  have hts := atoms_spec (ws := wsX0_sendAlongWay) B.pre
  have hown : s.vm.findClass RX0 = some m.cls := by have h_ := findClass_of_methodNamed B.named; exact h_
  have hlocks := B.notSynchronized
  subst hsz
  have hD := hD0.self (sz := s.heap.size)
  generalize hAe : va_A [ob0_0_ xc xn xk clo cro c4 c5 c6 c7 c8, ob3_0_ xn vp vn n1 n2 n3 n4 n5, ai_ cy n2 40 fs, ai_ cy n3 40 fe, aq_ cy 6 cro 12 (gf_ rr), ai_ cy (rr 0) 12 (Mr 0), ai_ cy (rr 1) 12 (Mr 1), ai_ cy (rr 2) 12 (Mr 2), ai_ cy (rr 3) 12 (Mr 3), ai_ cy (rr 4) 12 (Mr 4), ai_ cy (rr 5) 12 (Mr 5), ai_ cy (rr 6) 12 (Mr 6), ai_ cy (rr 7) 12 (Mr 7), ai_ cy (rr 8) 12 (Mr 8), ai_ cy (rr 9) 12 (Mr 9), ai_ cy (rr 10) 12 (Mr 10), ai_ cy (rr 11) 12 (Mr 11), ai_ cy c4 40 f4, ai_ cy c5 40 f5, ai_ cy c6 40 f6, ai_ cy c8 12 f8] s.heap.size = A at hD hQ
  have hA : ∀ q : Nat, s.heap.size ≤ q → A q := fun q h => by rw [← hAe]; exact Or.inr h
  have hS : va_S A s.heap s.heap [] := va_S.rf
  have hl := lv_entry ([.ref xc, .int a1, .int a2]) (n := 6) (Nat.le_of_ble_eq_true rfl)
  rw [lg_entry_eq]
  generalize (lg_sl ([.ref xc, .int a1, .int a2]) ++ List.replicate (6 - (lg_sl ([.ref xc, .int a1, .int a2])).length) Slot.unset).toArray = ls at hl ⊢
  have hl : lv_has ls 6 [(0, .ref xc), (1, .int a1), (2, .int a2)] := hl
  have z0 : (0 : Int32).toInt = 0 := by decide
  have z1 : (1 : Int32).toInt = 1 := by decide
  have z12 : (12 : Int32).toInt = 12 := by decide
  have z1000000000 : (1000000000 : Int32).toInt = 1000000000 := by decide
  obtain ⟨n_, hn_, hw_⟩ := hw
  refine lv_ldc (v := 1000000000) hx hb hown (hts (.constant RX0 100 (1000000000)) (List.mem_of_getElem? (i := 1) rfl)) dB_36_0_35.1.1.1.1 ?_
  refine lv_istore_n (lv' := [(3, .int 1000000000), (0, .ref xc), (1, .int a1), (2, .int a2)]) hx hb dB_36_0_35.1.1.1.2 rfl hl (by decide) rfl (fun ls hl => ?_)
  refine lv_iload_n hx hb dB_36_0_35.1.1.2.1 rfl (lv_at hl 3 rfl) ?_
  refine lv_istore (lv' := [(4, .int a2), (3, .int 1000000000), (0, .ref xc), (1, .int a1), (2, .int a2)]) hx hb dB_36_0_35.1.1.2.2 hl (by decide) rfl (fun ls hl => ?_)
  refine lv_iconst (v := 0) hx hb dB_36_0_35.1.2.1.1 (by decide) ?_
  refine lv_istore (lv' := [(5, .int 0), (4, .int a2), (3, .int 1000000000), (0, .ref xc), (1, .int a1), (2, .int a2)]) hx hb dB_36_0_35.1.2.1.2 hl (by decide) rfl (fun ls hl => ?_)
  suffices LOOP_1 : ∀ (n_1 : Nat) (x5_1 : Int32) (x4_1 : Int32) (x3_1 : Int32) (H : Heap) (locs : List Loc) (ls : Array Slot), 12 - x5_1.toInt < (n_1 : Int) → (0 ≤ x4_1.toInt ∧ x4_1.toInt < vp.toInt) → (0 ≤ x5_1.toInt) → (x5_1.toInt ≤ 12) → (1 ≤ x3_1.toInt) → (0 < x5_1.toInt → x3_1.toInt ≤ 160000000) → (wlp (zM Mr) f8 vp.toNatClampNeg a1.toNatClampNeg a2.toNatClampNeg n_ x3_1.toInt x5_1.toInt x4_1.toNatClampNeg) → pd_2 D vwCl A [ob0_0_ xc xn xk clo cro c4 c5 c6 c7 c8, ob3_0_ xn vp vn n1 n2 n3 n4 n5, ai_ cy n2 40 fs, ai_ cy n3 40 fe, aq_ cy 6 cro 12 (gf_ rr), ai_ cy (rr 0) 12 (Mr 0), ai_ cy (rr 1) 12 (Mr 1), ai_ cy (rr 2) 12 (Mr 2), ai_ cy (rr 3) 12 (Mr 3), ai_ cy (rr 4) 12 (Mr 4), ai_ cy (rr 5) 12 (Mr 5), ai_ cy (rr 6) 12 (Mr 6), ai_ cy (rr 7) 12 (Mr 7), ai_ cy (rr 8) 12 (Mr 8), ai_ cy (rr 9) 12 (Mr 9), ai_ cy (rr 10) 12 (Mr 10), ai_ cy (rr 11) 12 (Mr 11), ai_ cy c4 40 f4, ai_ cy c5 40 f5, ai_ cy c6 40 f6, ai_ cy c8 12 f8] H → va_S A s.heap H locs → lv_has ls 6 [(5, .int x5_1), (4, .int x4_1), (3, .int x3_1), (0, .ref xc), (1, .int a1), (2, .int a2)] → W p l e ({ frames := 2, cells := 0, slots := 0, locals := 39 } : Room) s m (([.ref xc, .int a1, .int a2] : List Value).toArray) below meth c H locs 0 0 Q (F0 m 9 ls []) from LOOP_1 ((12 - (0 : Int32).toInt).toNat + 1) (0 : Int32) a2 (1000000000 : Int32) _ _ _ (by omega) (by first | with_reducible assumption | omega | assumption) (by first | with_reducible assumption | omega | assumption) (by first | with_reducible assumption | omega | assumption) (by first | with_reducible assumption | omega | assumption) (by first | with_reducible assumption | assumption | omega) (by first | exact wlp_0 hw_ | exact wlp_st v_none (by omega) hy_ S[ex] (by omega) (by omega) (by omega)) ⟨hP, hD⟩ hS (lv_sub hl [0, 1, 2, 3, 4, 5] rfl)
  intro n_1
  induction n_1 with
  | zero =>
    intro x5_1 x4_1 x3_1 H locs ls hm v0_1 v1_1 v2_1 v3_1 v4_1 v5_1 hPD hS hl; obtain ⟨hP, hD⟩ := hPD
    exact absurd hm (by omega)
  | succ n_1 ih_1 =>
    intro x5_1 x4_1 x3_1 H locs ls hm v0_1 v1_1 v2_1 v3_1 v4_1 v5_1 hPD hS hl; obtain ⟨hP, hD⟩ := hPD
    refine lv_iload hx hb dB_36_0_35.1.2.2.1 (lv_at hl 0 rfl) ?_
    refine lv_bipush (v := 12) hx hb dB_36_0_35.1.2.2.2 (by decide) ?_
    refine lv_icmp_ge (tgt := 57) hx hb dB_36_0_35.2.1.1.1 (by decide) (fun c_2 => ?_) (fun c_2 => ?_)
    · have t_2 : (12 : Int32).toInt ≤ x5_1.toInt := Int32.le_iff_toInt_le.mp c_2
      have hys_ : x4_1.toInt = a1.toInt := by have h_ := v5_1.1; omega
      have hwe_ := wlp_end v5_1 (congrArg Int32.toNatClampNeg (Int32.toInt_inj.mp hys_))
      have hL5_ : 0 < x5_1.toInt := by rcases Int.lt_or_le 0 x5_1.toInt with h_ | h_; exact h_; exfalso; have h0_ := hwe_.2; have hz_ : n_ = 0 := (by omega); rw [hz_] at hw_; exact nc_ne (x := a2) (y := a1) (by omega) (by omega) (by omega) hw_
      refine lv_iload_n hx hb dB_36_0_36.2.2.2.2 rfl (lv_at hl 5 rfl) ?_
      refine lv_istore (lv' := [(4, .int a2), (5, .int x5_1), (3, .int x3_1), (0, .ref xc), (1, .int a1), (2, .int a2)]) hx hb dB_36_0_37.1.1.1.1 hl (by decide) rfl (fun ls hl => ?_)
      refine lv_iconst (v := 0) hx hb dB_36_0_37.1.1.1.2 (by decide) ?_
      refine lv_istore (lv' := [(5, .int 0), (4, .int a2), (3, .int x3_1), (0, .ref xc), (1, .int a1), (2, .int a2)]) hx hb dB_36_0_37.1.1.2.1 hl (by decide) rfl (fun ls hl => ?_)
      suffices LOOP_3 : ∀ (n_3 : Nat) (x5_3 : Int32) (x4_3 : Int32) (m_rr_3 : Nat → Nat → Int32) (c_c4_3 : Nat → Int32) (H : Heap) (locs : List Loc) (ls : Array Slot), 12 - x5_3.toInt < (n_3 : Int) → (0 ≤ x4_3.toInt ∧ x4_3.toInt < vp.toInt) → (0 ≤ x5_3.toInt) → (x5_3.toInt ≤ 12) → (wsn (zM Mr) (zM m_rr_3) f8 vp.toNatClampNeg a1.toNatClampNeg a2.toNatClampNeg n_ x3_1.toInt x5_3.toInt x4_3.toNatClampNeg) → pd_2 D vwCl A [ob0_0_ xc xn xk clo cro c4 c5 c6 c7 c8, ob3_0_ xn vp vn n1 n2 n3 n4 n5, ai_ cy n2 40 fs, ai_ cy n3 40 fe, aq_ cy 6 cro 12 (gf_ rr), ai_ cy (rr 0) 12 (m_rr_3 0), ai_ cy (rr 1) 12 (m_rr_3 1), ai_ cy (rr 2) 12 (m_rr_3 2), ai_ cy (rr 3) 12 (m_rr_3 3), ai_ cy (rr 4) 12 (m_rr_3 4), ai_ cy (rr 5) 12 (m_rr_3 5), ai_ cy (rr 6) 12 (m_rr_3 6), ai_ cy (rr 7) 12 (m_rr_3 7), ai_ cy (rr 8) 12 (m_rr_3 8), ai_ cy (rr 9) 12 (m_rr_3 9), ai_ cy (rr 10) 12 (m_rr_3 10), ai_ cy (rr 11) 12 (m_rr_3 11), ai_ cy c4 40 c_c4_3, ai_ cy c5 40 f5, ai_ cy c6 40 f6, ai_ cy c8 12 f8] H → va_S A s.heap H locs → lv_has ls 6 [(5, .int x5_3), (4, .int x4_3), (3, .int x3_1), (0, .ref xc), (1, .int a1), (2, .int a2)] → W p l e ({ frames := 2, cells := 0, slots := 0, locals := 39 } : Room) s m (([.ref xc, .int a1, .int a2] : List Value).toArray) below meth c H locs 0 0 Q (F0 m 63 ls []) from LOOP_3 ((12 - (0 : Int32).toInt).toNat + 1) (0 : Int32) a2 Mr f4 _ _ _ (by omega) (by first | with_reducible assumption | omega | assumption) (by first | with_reducible assumption | omega | assumption) (by first | with_reducible assumption | omega | assumption) (by first | exact wsn_0 hwe_.1 hrm | exact wsn_st v_none (by omega) (by omega) hy_ S[ex] (by omega) S[ed]) ⟨hP, hD⟩ hS (lv_sub hl [0, 1, 2, 3, 4, 5] rfl)
      intro n_3
      induction n_3 with
      | zero =>
        intro x5_3 x4_3 m_rr_3 c_c4_3 H locs ls hm v0_3 v1_3 v2_3 v3_3 hPD hS hl; obtain ⟨hP, hD⟩ := hPD
        exact absurd hm (by omega)
      | succ n_3 ih_3 =>
        intro x5_3 x4_3 m_rr_3 c_c4_3 H locs ls hm v0_3 v1_3 v2_3 v3_3 hPD hS hl; obtain ⟨hP, hD⟩ := hPD
        refine lv_iload hx hb dB_36_0_37.1.1.2.2 (lv_at hl 0 rfl) ?_
        refine lv_bipush (v := 12) hx hb dB_36_0_37.1.2.1.1 (by decide) ?_
        refine lv_icmp_ge (tgt := 105) hx hb dB_36_0_37.1.2.1.2 (by decide) (fun c_4 => ?_) (fun c_4 => ?_)
        · have t_4 : (12 : Int32).toInt ≤ x5_3.toInt := Int32.le_iff_toInt_le.mp c_4
          have hys2_ : x4_3.toInt = a1.toInt := by have h_ := v3_3.1; omega
          have hse_ := wsn_end v3_3 (congrArg Int32.toNatClampNeg (Int32.toInt_inj.mp hys2_))
          refine lv_iload_n hx hb dB_36_0_38.2.2.2.1 rfl (lv_at hl 2 rfl) ?_
          rw [hQ]
          exact W.iret (v := x3_1) hx hb hr (fun t ht hW => ⟨⟨x3_1, x3_1, rfl, ⟨rfl, (by omega)⟩, m_rr_3, c_c4_3, (hse_.1), (hse_.2), by rw [ht]; exact hP, hD⟩, hS.F ht⟩) hS.2.2 dB_36_0_38.2.2.2.2
        · have t_4 : ¬ (12 : Int32).toInt ≤ x5_3.toInt := fun h => c_4 (Int32.le_iff_toInt_le.mpr h)
          refine lv_iload hx hb dB_36_0_37.1.2.2.1 (lv_at hl 1 rfl) ?_
          refine lv_iload_n hx hb dB_36_0_37.1.2.2.2 rfl (lv_at hl 4 rfl) ?_
          refine lv_icmp_eq (tgt := 105) hx hb dB_36_0_37.2.1.1.1 (by decide) (fun c_5 => ?_) (fun c_5 => ?_)
          · have t_5 : x4_3.toInt = a1.toInt := congrArg Int32.toInt c_5
            have hys2_ : x4_3.toInt = a1.toInt := by have h_ := v3_3.1; omega
            have hse_ := wsn_end v3_3 (congrArg Int32.toNatClampNeg (Int32.toInt_inj.mp hys2_))
            refine lv_iload_n hx hb dB_36_0_38.2.2.2.1 rfl (lv_at hl 2 rfl) ?_
            rw [hQ]
            exact W.iret (v := x3_1) hx hb hr (fun t ht hW => ⟨⟨x3_1, x3_1, rfl, ⟨rfl, (by omega)⟩, m_rr_3, c_c4_3, (hse_.1), (hse_.2), by rw [ht]; exact hP, hD⟩, hS.F ht⟩) hS.2.2 dB_36_0_38.2.2.2.2
          · have t_5 : ¬ x4_3.toInt = a1.toInt := fun h => c_5 (Int32.toInt_inj.mp h)
            have hy_ := nc_ne (x := x4_3) (y := a1) (by omega) (by omega) (by omega)
            have hwm_ := wsn_m v3_3 hy_
            have hrk_ := v3_3.2.2.1
            refine lv_aload_n hx hb dB_36_0_37.2.1.1.2 rfl (lv_at hl 3 rfl) ?_
            refine lv_aload_n hx hb dB_36_0_37.2.1.2.1 rfl (lv_at hl 3 rfl) ?_
            refine va_get (ci := 0) (v := .ref c8) (C := RX0) (T := TX0) (N := 9) hx hb hts (fun _ h => List.mem_cons_of_mem _ (List.mem_append_left _ (List.mem_append_right _ h))) hown hK.1 hP 0 rfl rfl 8 (by decide) (hts (.fieldLink RX0 32 "CutAtlas$Current" "cameFrom" "[I") (List.mem_of_getElem? (i := 3) rfl)) (fun _ h9 => h9) rfl dB_36_0_37.2.1.2.2 ?_
            refine lv_iload hx hb dB_36_0_37.2.2.1.1 (lv_at hl 1 rfl) ?_
            have h_6 : vp_in x4_3 12 := in_I (by first | with_reducible assumption | omega) (by omega)
            refine va_iald hx hb hK.1 hP 20 0 rfl rfl (i := x4_3) h_6 dB_36_0_37.2.2.1.2 ?_
            refine lv_topi (fun y_7 ey_7 => ?_)
            have ry_7 : 0 ≤ y_7.toInt ∧ y_7.toInt ≤ 11 := by rw [ey_7]; exact r_f8 _ (in_lt h_6)
            have hxc_ : nF f8 x4_3.toNatClampNeg = y_7.toNatClampNeg := by rw [ey_7]; rfl
            rw [hxc_] at hwm_
            have hcx_ := clI (i := y_7) (by omega)
            have hcv_ := clI (i := vp) (by omega)
            refine lv_iload hx hb dB_36_0_37.2.2.2.1 (lv_at hl 1 rfl) ?_
            refine lv_iload_n hx hb dB_36_0_37.2.2.2.2 rfl (lv_at hl 2 rfl) ?_
            refine ct_S hP hD hS hA [ob0_0_ xc xn xk clo cro c4 c5 c6 c7 c8, ob3_0_ xn vp vn n1 n2 n3 n4 n5, ai_ cy n2 40 fs, ai_ cy n3 40 fe, aq_ cy 6 cro 12 (gf_ rr), ai_ cy (rr 0) 12 (m_rr_3 0), ai_ cy (rr 1) 12 (m_rr_3 1), ai_ cy (rr 2) 12 (m_rr_3 2), ai_ cy (rr 3) 12 (m_rr_3 3), ai_ cy (rr 4) 12 (m_rr_3 4), ai_ cy (rr 5) 12 (m_rr_3 5), ai_ cy (rr 6) 12 (m_rr_3 6), ai_ cy (rr 7) 12 (m_rr_3 7), ai_ cy (rr 8) 12 (m_rr_3 8), ai_ cy (rr 9) 12 (m_rr_3 9), ai_ cy (rr 10) 12 (m_rr_3 10), ai_ cy (rr 11) 12 (m_rr_3 11), ai_ cy c4 40 c_c4_3, ai_ cy c5 40 f5, ai_ cy c6 40 f6] [0, 1, 2, 3, 4, 5, 6, 7, 8, 9, 10, 11, 12, 13, 14, 15, 16, 17, 18, 19] (by decide +kernel) rfl (fun hPc hDw hFc hC_ => ?_)
            refine va_callv (va_runV (As := [.int y_7, .int x4_3, .int x3_1]) (rest := []) ⟨hx, hb, hml, hown, hts⟩ (c_X0_sendOver2 l D cy H.size xc xk clo cro c4 c5 c6 c7 c8 xn n1 n2 n3 n4 n5 vp vn fs fe rr m_rr_3 c_c4_3 f5 f6 y_7 x4_3 x3_1 (by first | with_reducible assumption | omega | assumption) (by first | with_reducible assumption | omega | assumption) (by first | with_reducible assumption | omega | assumption) (by first | with_reducible assumption | omega | assumption) (by first | with_reducible assumption | assumption | omega) (by first | with_reducible assumption | omega | assumption)) (cwV 3 hts gX0_sendAlongWay_X0_sendOver rfl rfl rfl ⟨rfl, hd_X0_sendOver⟩ ⟨Nat.le_of_ble_eq_true rfl, Nat.le_of_ble_eq_true rfl⟩) ⟨bl_g, va_recvX hK.1 hP (ci := 0) (q0 := 0) rfl rfl, fun U hU hW => ⟨rfl, by rw [hU], by rw [hU]; exact hPc, ⟨kk_mv hW hK, arrOfT_moved hW.alike hG⟩, hDw⟩⟩ rfl rfl hl.1 rfl (lv_room (Nat.le_of_ble_eq_true rfl)) dB_36_0_38.1.1.1 ⟨Nat.le_of_ble_eq_true rfl, Nat.le_of_ble_eq_true rfl⟩) hS (fun q _ h => hFc q h) hFc (fun u t H locs ht hvm hw hB hz1 hk1 hS => ?_)
            obtain ⟨eMr_9, e4_10, g_11, hP1, hD1⟩ := hB
            rw [ht] at hP1
            obtain ⟨hP, hD⟩ := va_join (wr := [ai_ cy c8 12 f8]) (w1 := [ob0_0_ xc xn xk clo cro c4 c5 c6 c7 c8, ob3_0_ xn vp vn n1 n2 n3 n4 n5, ai_ cy n2 40 fs, ai_ cy n3 40 fe, aq_ cy 6 cro 12 (gf_ rr), ai_ cy (rr 0) 12 (eMr_9 0), ai_ cy (rr 1) 12 (eMr_9 1), ai_ cy (rr 2) 12 (eMr_9 2), ai_ cy (rr 3) 12 (eMr_9 3), ai_ cy (rr 4) 12 (eMr_9 4), ai_ cy (rr 5) 12 (eMr_9 5), ai_ cy (rr 6) 12 (eMr_9 6), ai_ cy (rr 7) 12 (eMr_9 7), ai_ cy (rr 8) 12 (eMr_9 8), ai_ cy (rr 9) 12 (eMr_9 9), ai_ cy (rr 10) 12 (eMr_9 10), ai_ cy (rr 11) 12 (eMr_9 11), ai_ cy c4 40 e4_10, ai_ cy c5 40 f5, ai_ cy c6 40 f6]) hP hD [0, 1, 2, 3, 4, 5, 6, 7, 8, 9, 10, 11, 12, 13, 14, 15, 16, 17, 18, 19] [20] hC_ rfl (by decide) (by decide) hk1 hFc hP1 hD1
            refine pd_S hP hD [ob0_0_ xc xn xk clo cro c4 c5 c6 c7 c8, ob3_0_ xn vp vn n1 n2 n3 n4 n5, ai_ cy n2 40 fs, ai_ cy n3 40 fe, aq_ cy 6 cro 12 (gf_ rr), ai_ cy (rr 0) 12 (eMr_9 0), ai_ cy (rr 1) 12 (eMr_9 1), ai_ cy (rr 2) 12 (eMr_9 2), ai_ cy (rr 3) 12 (eMr_9 3), ai_ cy (rr 4) 12 (eMr_9 4), ai_ cy (rr 5) 12 (eMr_9 5), ai_ cy (rr 6) 12 (eMr_9 6), ai_ cy (rr 7) 12 (eMr_9 7), ai_ cy (rr 8) 12 (eMr_9 8), ai_ cy (rr 9) 12 (eMr_9 9), ai_ cy (rr 10) 12 (eMr_9 10), ai_ cy (rr 11) 12 (eMr_9 11), ai_ cy c4 40 e4_10, ai_ cy c5 40 f5, ai_ cy c6 40 f6, ai_ cy c8 12 f8] [1, 2, 3, 4, 5, 6, 7, 8, 9, 10, 11, 12, 13, 14, 15, 16, 17, 18, 19, 20, 0] (by decide +kernel) rfl (fun hP hD => ?_)
            refine lv_aload_n hx hb dB_36_0_38.1.1.2 rfl (lv_at hl 3 rfl) ?_
            refine va_get (ci := 0) (v := .ref c8) (C := RX0) (T := TX0) (N := 9) hx hb hts (fun _ h => List.mem_cons_of_mem _ (List.mem_append_left _ (List.mem_append_right _ h))) hown hK.1 hP 0 rfl rfl 8 (by decide) (hts (.fieldLink RX0 32 "CutAtlas$Current" "cameFrom" "[I") (List.mem_of_getElem? (i := 3) rfl)) (fun _ h9 => h9) rfl dB_36_0_38.1.2.1 ?_
            refine lv_iload hx hb dB_36_0_38.1.2.2.1 (lv_at hl 1 rfl) ?_
            refine va_iald hx hb hK.1 hP 20 0 rfl rfl (i := x4_3) h_6 dB_36_0_38.1.2.2.2 ?_
            refine lv_topi (fun y_13 ey_13 => ?_)
            have e_ := (ey_13.trans ey_7.symm).symm
            subst e_
            skip
            refine lv_istore (lv' := [(4, .int y_7), (5, .int x5_3), (3, .int x3_1), (0, .ref xc), (1, .int a1), (2, .int a2)]) hx hb dB_36_0_38.2.1.1 hl (by decide) rfl (fun ls hl => ?_)
            obtain ⟨y_14, ey_14⟩ : ∃ y : Int32, y = x5_3 + 1 := ⟨_, rfl⟩
            have ty_14 : y_14.toInt = x5_3.toInt + (1 : Int32).toInt := by rw [ey_14]; exact addI (by omega) (by omega)
            refine lv_iinc (v := y_14) (lv' := [(5, .int y_14), (4, .int y_7), (3, .int x3_1), (0, .ref xc), (1, .int a1), (2, .int a2)]) hx hb dB_36_0_38.2.1.2 hl (k := 1) rfl (by rw [ey_14]; rfl) (by decide) rfl (fun ls hl => ?_)
            refine lv_goto (tgt := 63) hx hb dB_36_0_38.2.2.1 (by decide) ?_
            exact ih_3 y_14 y_7 eMr_9 e4_10 _ _ _ (by omega) (by first | with_reducible assumption | omega | assumption) (by first | with_reducible assumption | omega | assumption) (by first | with_reducible assumption | omega | assumption) (by first | exact wsn_0 hwe_.1 hrm | exact wsn_st v3_3 (by omega) (by omega) hy_ ey_7 (by omega) g_11) ⟨hP, hD⟩ hS (lv_sub hl [0, 1, 2, 3, 4, 5] rfl)
    · have t_2 : ¬ (12 : Int32).toInt ≤ x5_1.toInt := fun h => c_2 (Int32.le_iff_toInt_le.mpr h)
      refine lv_iload hx hb dB_36_0_35.2.1.1.2 (lv_at hl 1 rfl) ?_
      refine lv_iload_n hx hb dB_36_0_35.2.1.2.1 rfl (lv_at hl 4 rfl) ?_
      refine lv_icmp_eq (tgt := 57) hx hb dB_36_0_35.2.1.2.2 (by decide) (fun c_15 => ?_) (fun c_15 => ?_)
      · have t_15 : x4_1.toInt = a1.toInt := congrArg Int32.toInt c_15
        have hys_ : x4_1.toInt = a1.toInt := by have h_ := v5_1.1; omega
        have hwe_ := wlp_end v5_1 (congrArg Int32.toNatClampNeg (Int32.toInt_inj.mp hys_))
        have hL5_ : 0 < x5_1.toInt := by rcases Int.lt_or_le 0 x5_1.toInt with h_ | h_; exact h_; exfalso; have h0_ := hwe_.2; have hz_ : n_ = 0 := (by omega); rw [hz_] at hw_; exact nc_ne (x := a2) (y := a1) (by omega) (by omega) (by omega) hw_
        refine lv_iload_n hx hb dB_36_0_36.2.2.2.2 rfl (lv_at hl 5 rfl) ?_
        refine lv_istore (lv' := [(4, .int a2), (5, .int x5_1), (3, .int x3_1), (0, .ref xc), (1, .int a1), (2, .int a2)]) hx hb dB_36_0_37.1.1.1.1 hl (by decide) rfl (fun ls hl => ?_)
        refine lv_iconst (v := 0) hx hb dB_36_0_37.1.1.1.2 (by decide) ?_
        refine lv_istore (lv' := [(5, .int 0), (4, .int a2), (3, .int x3_1), (0, .ref xc), (1, .int a1), (2, .int a2)]) hx hb dB_36_0_37.1.1.2.1 hl (by decide) rfl (fun ls hl => ?_)
        suffices LOOP_16 : ∀ (n_16 : Nat) (x5_16 : Int32) (x4_16 : Int32) (m_rr_16 : Nat → Nat → Int32) (c_c4_16 : Nat → Int32) (H : Heap) (locs : List Loc) (ls : Array Slot), 12 - x5_16.toInt < (n_16 : Int) → (0 ≤ x4_16.toInt ∧ x4_16.toInt < vp.toInt) → (0 ≤ x5_16.toInt) → (x5_16.toInt ≤ 12) → (wsn (zM Mr) (zM m_rr_16) f8 vp.toNatClampNeg a1.toNatClampNeg a2.toNatClampNeg n_ x3_1.toInt x5_16.toInt x4_16.toNatClampNeg) → pd_2 D vwCl A [ob0_0_ xc xn xk clo cro c4 c5 c6 c7 c8, ob3_0_ xn vp vn n1 n2 n3 n4 n5, ai_ cy n2 40 fs, ai_ cy n3 40 fe, aq_ cy 6 cro 12 (gf_ rr), ai_ cy (rr 0) 12 (m_rr_16 0), ai_ cy (rr 1) 12 (m_rr_16 1), ai_ cy (rr 2) 12 (m_rr_16 2), ai_ cy (rr 3) 12 (m_rr_16 3), ai_ cy (rr 4) 12 (m_rr_16 4), ai_ cy (rr 5) 12 (m_rr_16 5), ai_ cy (rr 6) 12 (m_rr_16 6), ai_ cy (rr 7) 12 (m_rr_16 7), ai_ cy (rr 8) 12 (m_rr_16 8), ai_ cy (rr 9) 12 (m_rr_16 9), ai_ cy (rr 10) 12 (m_rr_16 10), ai_ cy (rr 11) 12 (m_rr_16 11), ai_ cy c4 40 c_c4_16, ai_ cy c5 40 f5, ai_ cy c6 40 f6, ai_ cy c8 12 f8] H → va_S A s.heap H locs → lv_has ls 6 [(5, .int x5_16), (4, .int x4_16), (3, .int x3_1), (0, .ref xc), (1, .int a1), (2, .int a2)] → W p l e ({ frames := 2, cells := 0, slots := 0, locals := 39 } : Room) s m (([.ref xc, .int a1, .int a2] : List Value).toArray) below meth c H locs 0 0 Q (F0 m 63 ls []) from LOOP_16 ((12 - (0 : Int32).toInt).toNat + 1) (0 : Int32) a2 Mr f4 _ _ _ (by omega) (by first | with_reducible assumption | omega | assumption) (by first | with_reducible assumption | omega | assumption) (by first | with_reducible assumption | omega | assumption) (by first | exact wsn_0 hwe_.1 hrm | exact wsn_st v_none (by omega) (by omega) hy_ S[ex] (by omega) S[ed]) ⟨hP, hD⟩ hS (lv_sub hl [0, 1, 2, 3, 4, 5] rfl)
        intro n_16
        induction n_16 with
        | zero =>
          intro x5_16 x4_16 m_rr_16 c_c4_16 H locs ls hm v0_16 v1_16 v2_16 v3_16 hPD hS hl; obtain ⟨hP, hD⟩ := hPD
          exact absurd hm (by omega)
        | succ n_16 ih_16 =>
          intro x5_16 x4_16 m_rr_16 c_c4_16 H locs ls hm v0_16 v1_16 v2_16 v3_16 hPD hS hl; obtain ⟨hP, hD⟩ := hPD
          refine lv_iload hx hb dB_36_0_37.1.1.2.2 (lv_at hl 0 rfl) ?_
          refine lv_bipush (v := 12) hx hb dB_36_0_37.1.2.1.1 (by decide) ?_
          refine lv_icmp_ge (tgt := 105) hx hb dB_36_0_37.1.2.1.2 (by decide) (fun c_17 => ?_) (fun c_17 => ?_)
          · have t_17 : (12 : Int32).toInt ≤ x5_16.toInt := Int32.le_iff_toInt_le.mp c_17
            have hys2_ : x4_16.toInt = a1.toInt := by have h_ := v3_16.1; omega
            have hse_ := wsn_end v3_16 (congrArg Int32.toNatClampNeg (Int32.toInt_inj.mp hys2_))
            refine lv_iload_n hx hb dB_36_0_38.2.2.2.1 rfl (lv_at hl 2 rfl) ?_
            rw [hQ]
            exact W.iret (v := x3_1) hx hb hr (fun t ht hW => ⟨⟨x3_1, x3_1, rfl, ⟨rfl, (by omega)⟩, m_rr_16, c_c4_16, (hse_.1), (hse_.2), by rw [ht]; exact hP, hD⟩, hS.F ht⟩) hS.2.2 dB_36_0_38.2.2.2.2
          · have t_17 : ¬ (12 : Int32).toInt ≤ x5_16.toInt := fun h => c_17 (Int32.le_iff_toInt_le.mpr h)
            refine lv_iload hx hb dB_36_0_37.1.2.2.1 (lv_at hl 1 rfl) ?_
            refine lv_iload_n hx hb dB_36_0_37.1.2.2.2 rfl (lv_at hl 4 rfl) ?_
            refine lv_icmp_eq (tgt := 105) hx hb dB_36_0_37.2.1.1.1 (by decide) (fun c_18 => ?_) (fun c_18 => ?_)
            · have t_18 : x4_16.toInt = a1.toInt := congrArg Int32.toInt c_18
              have hys2_ : x4_16.toInt = a1.toInt := by have h_ := v3_16.1; omega
              have hse_ := wsn_end v3_16 (congrArg Int32.toNatClampNeg (Int32.toInt_inj.mp hys2_))
              refine lv_iload_n hx hb dB_36_0_38.2.2.2.1 rfl (lv_at hl 2 rfl) ?_
              rw [hQ]
              exact W.iret (v := x3_1) hx hb hr (fun t ht hW => ⟨⟨x3_1, x3_1, rfl, ⟨rfl, (by omega)⟩, m_rr_16, c_c4_16, (hse_.1), (hse_.2), by rw [ht]; exact hP, hD⟩, hS.F ht⟩) hS.2.2 dB_36_0_38.2.2.2.2
            · have t_18 : ¬ x4_16.toInt = a1.toInt := fun h => c_18 (Int32.toInt_inj.mp h)
              have hy_ := nc_ne (x := x4_16) (y := a1) (by omega) (by omega) (by omega)
              have hwm_ := wsn_m v3_16 hy_
              have hrk_ := v3_16.2.2.1
              refine lv_aload_n hx hb dB_36_0_37.2.1.1.2 rfl (lv_at hl 3 rfl) ?_
              refine lv_aload_n hx hb dB_36_0_37.2.1.2.1 rfl (lv_at hl 3 rfl) ?_
              refine va_get (ci := 0) (v := .ref c8) (C := RX0) (T := TX0) (N := 9) hx hb hts (fun _ h => List.mem_cons_of_mem _ (List.mem_append_left _ (List.mem_append_right _ h))) hown hK.1 hP 0 rfl rfl 8 (by decide) (hts (.fieldLink RX0 32 "CutAtlas$Current" "cameFrom" "[I") (List.mem_of_getElem? (i := 3) rfl)) (fun _ h9 => h9) rfl dB_36_0_37.2.1.2.2 ?_
              refine lv_iload hx hb dB_36_0_37.2.2.1.1 (lv_at hl 1 rfl) ?_
              have h_19 : vp_in x4_16 12 := in_I (by first | with_reducible assumption | omega) (by omega)
              refine va_iald hx hb hK.1 hP 20 0 rfl rfl (i := x4_16) h_19 dB_36_0_37.2.2.1.2 ?_
              refine lv_topi (fun y_20 ey_20 => ?_)
              have ry_20 : 0 ≤ y_20.toInt ∧ y_20.toInt ≤ 11 := by rw [ey_20]; exact r_f8 _ (in_lt h_19)
              have hxc_ : nF f8 x4_16.toNatClampNeg = y_20.toNatClampNeg := by rw [ey_20]; rfl
              rw [hxc_] at hwm_
              have hcx_ := clI (i := y_20) (by omega)
              have hcv_ := clI (i := vp) (by omega)
              refine lv_iload hx hb dB_36_0_37.2.2.2.1 (lv_at hl 1 rfl) ?_
              refine lv_iload_n hx hb dB_36_0_37.2.2.2.2 rfl (lv_at hl 2 rfl) ?_
              refine ct_S hP hD hS hA [ob0_0_ xc xn xk clo cro c4 c5 c6 c7 c8, ob3_0_ xn vp vn n1 n2 n3 n4 n5, ai_ cy n2 40 fs, ai_ cy n3 40 fe, aq_ cy 6 cro 12 (gf_ rr), ai_ cy (rr 0) 12 (m_rr_16 0), ai_ cy (rr 1) 12 (m_rr_16 1), ai_ cy (rr 2) 12 (m_rr_16 2), ai_ cy (rr 3) 12 (m_rr_16 3), ai_ cy (rr 4) 12 (m_rr_16 4), ai_ cy (rr 5) 12 (m_rr_16 5), ai_ cy (rr 6) 12 (m_rr_16 6), ai_ cy (rr 7) 12 (m_rr_16 7), ai_ cy (rr 8) 12 (m_rr_16 8), ai_ cy (rr 9) 12 (m_rr_16 9), ai_ cy (rr 10) 12 (m_rr_16 10), ai_ cy (rr 11) 12 (m_rr_16 11), ai_ cy c4 40 c_c4_16, ai_ cy c5 40 f5, ai_ cy c6 40 f6] [0, 1, 2, 3, 4, 5, 6, 7, 8, 9, 10, 11, 12, 13, 14, 15, 16, 17, 18, 19] (by decide +kernel) rfl (fun hPc hDw hFc hC_ => ?_)
              refine va_callv (va_runV (As := [.int y_20, .int x4_16, .int x3_1]) (rest := []) ⟨hx, hb, hml, hown, hts⟩ (c_X0_sendOver2 l D cy H.size xc xk clo cro c4 c5 c6 c7 c8 xn n1 n2 n3 n4 n5 vp vn fs fe rr m_rr_16 c_c4_16 f5 f6 y_20 x4_16 x3_1 (by first | with_reducible assumption | omega | assumption) (by first | with_reducible assumption | omega | assumption) (by first | with_reducible assumption | omega | assumption) (by first | with_reducible assumption | omega | assumption) (by first | with_reducible assumption | assumption | omega) (by first | with_reducible assumption | omega | assumption)) (cwV 3 hts gX0_sendAlongWay_X0_sendOver rfl rfl rfl ⟨rfl, hd_X0_sendOver⟩ ⟨Nat.le_of_ble_eq_true rfl, Nat.le_of_ble_eq_true rfl⟩) ⟨bl_g, va_recvX hK.1 hP (ci := 0) (q0 := 0) rfl rfl, fun U hU hW => ⟨rfl, by rw [hU], by rw [hU]; exact hPc, ⟨kk_mv hW hK, arrOfT_moved hW.alike hG⟩, hDw⟩⟩ rfl rfl hl.1 rfl (lv_room (Nat.le_of_ble_eq_true rfl)) dB_36_0_38.1.1.1 ⟨Nat.le_of_ble_eq_true rfl, Nat.le_of_ble_eq_true rfl⟩) hS (fun q _ h => hFc q h) hFc (fun u t H locs ht hvm hw hB hz1 hk1 hS => ?_)
              obtain ⟨eMr_22, e4_23, g_24, hP1, hD1⟩ := hB
              rw [ht] at hP1
              obtain ⟨hP, hD⟩ := va_join (wr := [ai_ cy c8 12 f8]) (w1 := [ob0_0_ xc xn xk clo cro c4 c5 c6 c7 c8, ob3_0_ xn vp vn n1 n2 n3 n4 n5, ai_ cy n2 40 fs, ai_ cy n3 40 fe, aq_ cy 6 cro 12 (gf_ rr), ai_ cy (rr 0) 12 (eMr_22 0), ai_ cy (rr 1) 12 (eMr_22 1), ai_ cy (rr 2) 12 (eMr_22 2), ai_ cy (rr 3) 12 (eMr_22 3), ai_ cy (rr 4) 12 (eMr_22 4), ai_ cy (rr 5) 12 (eMr_22 5), ai_ cy (rr 6) 12 (eMr_22 6), ai_ cy (rr 7) 12 (eMr_22 7), ai_ cy (rr 8) 12 (eMr_22 8), ai_ cy (rr 9) 12 (eMr_22 9), ai_ cy (rr 10) 12 (eMr_22 10), ai_ cy (rr 11) 12 (eMr_22 11), ai_ cy c4 40 e4_23, ai_ cy c5 40 f5, ai_ cy c6 40 f6]) hP hD [0, 1, 2, 3, 4, 5, 6, 7, 8, 9, 10, 11, 12, 13, 14, 15, 16, 17, 18, 19] [20] hC_ rfl (by decide) (by decide) hk1 hFc hP1 hD1
              refine pd_S hP hD [ob0_0_ xc xn xk clo cro c4 c5 c6 c7 c8, ob3_0_ xn vp vn n1 n2 n3 n4 n5, ai_ cy n2 40 fs, ai_ cy n3 40 fe, aq_ cy 6 cro 12 (gf_ rr), ai_ cy (rr 0) 12 (eMr_22 0), ai_ cy (rr 1) 12 (eMr_22 1), ai_ cy (rr 2) 12 (eMr_22 2), ai_ cy (rr 3) 12 (eMr_22 3), ai_ cy (rr 4) 12 (eMr_22 4), ai_ cy (rr 5) 12 (eMr_22 5), ai_ cy (rr 6) 12 (eMr_22 6), ai_ cy (rr 7) 12 (eMr_22 7), ai_ cy (rr 8) 12 (eMr_22 8), ai_ cy (rr 9) 12 (eMr_22 9), ai_ cy (rr 10) 12 (eMr_22 10), ai_ cy (rr 11) 12 (eMr_22 11), ai_ cy c4 40 e4_23, ai_ cy c5 40 f5, ai_ cy c6 40 f6, ai_ cy c8 12 f8] [1, 2, 3, 4, 5, 6, 7, 8, 9, 10, 11, 12, 13, 14, 15, 16, 17, 18, 19, 20, 0] (by decide +kernel) rfl (fun hP hD => ?_)
              refine lv_aload_n hx hb dB_36_0_38.1.1.2 rfl (lv_at hl 3 rfl) ?_
              refine va_get (ci := 0) (v := .ref c8) (C := RX0) (T := TX0) (N := 9) hx hb hts (fun _ h => List.mem_cons_of_mem _ (List.mem_append_left _ (List.mem_append_right _ h))) hown hK.1 hP 0 rfl rfl 8 (by decide) (hts (.fieldLink RX0 32 "CutAtlas$Current" "cameFrom" "[I") (List.mem_of_getElem? (i := 3) rfl)) (fun _ h9 => h9) rfl dB_36_0_38.1.2.1 ?_
              refine lv_iload hx hb dB_36_0_38.1.2.2.1 (lv_at hl 1 rfl) ?_
              refine va_iald hx hb hK.1 hP 20 0 rfl rfl (i := x4_16) h_19 dB_36_0_38.1.2.2.2 ?_
              refine lv_topi (fun y_26 ey_26 => ?_)
              have e_ := (ey_26.trans ey_20.symm).symm
              subst e_
              skip
              refine lv_istore (lv' := [(4, .int y_20), (5, .int x5_16), (3, .int x3_1), (0, .ref xc), (1, .int a1), (2, .int a2)]) hx hb dB_36_0_38.2.1.1 hl (by decide) rfl (fun ls hl => ?_)
              obtain ⟨y_27, ey_27⟩ : ∃ y : Int32, y = x5_16 + 1 := ⟨_, rfl⟩
              have ty_27 : y_27.toInt = x5_16.toInt + (1 : Int32).toInt := by rw [ey_27]; exact addI (by omega) (by omega)
              refine lv_iinc (v := y_27) (lv' := [(5, .int y_27), (4, .int y_20), (3, .int x3_1), (0, .ref xc), (1, .int a1), (2, .int a2)]) hx hb dB_36_0_38.2.1.2 hl (k := 1) rfl (by rw [ey_27]; rfl) (by decide) rfl (fun ls hl => ?_)
              refine lv_goto (tgt := 63) hx hb dB_36_0_38.2.2.1 (by decide) ?_
              exact ih_16 y_27 y_20 eMr_22 e4_23 _ _ _ (by omega) (by first | with_reducible assumption | omega | assumption) (by first | with_reducible assumption | omega | assumption) (by first | with_reducible assumption | omega | assumption) (by first | exact wsn_0 hwe_.1 hrm | exact wsn_st v3_16 (by omega) (by omega) hy_ ey_20 (by omega) g_24) ⟨hP, hD⟩ hS (lv_sub hl [0, 1, 2, 3, 4, 5] rfl)
      · have t_15 : ¬ x4_1.toInt = a1.toInt := fun h => c_15 (Int32.toInt_inj.mp h)
        have hy_ := nc_ne (x := x4_1) (y := a1) (by omega) (by omega) (by omega)
        have hwm_ := wlp_m v5_1 hy_
        have hrx_ := hrm _ _ hwm_.2.1 hwm_.1
        have hry_ := hrm _ _ hwm_.1 hwm_.2.1
        refine lv_iload_n hx hb dB_36_0_35.2.2.1.1 rfl (lv_at hl 2 rfl) ?_
        refine lv_aload_n hx hb dB_36_0_35.2.2.1.2 rfl (lv_at hl 3 rfl) ?_
        refine va_get (ci := 0) (v := .ref cro) (C := RX0) (T := TX0) (N := 9) hx hb hts (fun _ h => List.mem_cons_of_mem _ (List.mem_append_left _ (List.mem_append_right _ h))) hown hK.1 hP 0 rfl rfl 3 (by decide) (hts (.fieldLink RX0 16 "CutAtlas$Current" "room" "[[I") (List.mem_of_getElem? (i := 2) rfl)) (fun _ h9 => h9) rfl dB_36_0_35.2.2.2.1 ?_
        refine lv_aload_n hx hb dB_36_0_35.2.2.2.2 rfl (lv_at hl 3 rfl) ?_
        refine va_get (ci := 0) (v := .ref c8) (C := RX0) (T := TX0) (N := 9) hx hb hts (fun _ h => List.mem_cons_of_mem _ (List.mem_append_left _ (List.mem_append_right _ h))) hown hK.1 hP 0 rfl rfl 8 (by decide) (hts (.fieldLink RX0 32 "CutAtlas$Current" "cameFrom" "[I") (List.mem_of_getElem? (i := 3) rfl)) (fun _ h9 => h9) rfl dB_36_0_36.1.1.1.1 ?_
        refine lv_iload hx hb dB_36_0_36.1.1.1.2 (lv_at hl 1 rfl) ?_
        have h_28 : vp_in x4_1 12 := in_I (by first | with_reducible assumption | omega) (by omega)
        refine va_iald hx hb hK.1 hP 20 0 rfl rfl (i := x4_1) h_28 dB_36_0_36.1.1.2.1 ?_
        refine lv_topi (fun y_29 ey_29 => ?_)
        have ry_29 : 0 ≤ y_29.toInt ∧ y_29.toInt ≤ 11 := by rw [ey_29]; exact r_f8 _ (in_lt h_28)
        have hxc_ : nF f8 x4_1.toNatClampNeg = y_29.toNatClampNeg := by rw [ey_29]; rfl
        rw [hxc_] at hwm_ hrx_ hry_
        have hcx_ := clI (i := y_29) (by omega)
        have hcv_ := clI (i := vp) (by omega)
        have h_30 : vp_in y_29 12 := in_I (by first | with_reducible assumption | omega) (by omega)
        refine va_alda hx hb hG hP 4 rfl (i := y_29) h_30 dB_36_0_36.1.1.2.2 ?_
        refine lv_topv (v' := .ref (rr y_29.toNatClampNeg)) (gf_at h_30) ?_
        refine lv_iload hx hb dB_36_0_36.1.2.1.1 (lv_at hl 1 rfl) ?_
        have hPg : va_P D vwCl (([ob0_0_ xc xn xk clo cro c4 c5 c6 c7 c8, ob3_0_ xn vp vn n1 n2 n3 n4 n5, ai_ cy n2 40 fs, ai_ cy n3 40 fe, aq_ cy 6 cro 12 (gf_ rr)] : va_W) ++ (gro (cy 0) rr Mr ++ ([ai_ cy c4 40 f4, ai_ cy c5 40 f5, ai_ cy c6 40 f6, ai_ cy c8 12 f8] : va_W))) H := hP
        refine va_gld (X := [ob0_0_ xc xn xk clo cro c4 c5 c6 c7 c8, ob3_0_ xn vp vn n1 n2 n3 n4 n5, ai_ cy n2 40 fs, ai_ cy n3 40 fe, aq_ cy 6 cro 12 (gf_ rr)]) (Y := [ai_ cy c4 40 f4, ai_ cy c5 40 f5, ai_ cy c6 40 f6, ai_ cy c8 12 f8]) (r := rr) (M := Mr) (k := y_29.toNatClampNeg) hx hb hK.1 hPg 0 rfl (in_lt h_30) (i := x4_1) h_28 dB_36_0_36.1.2.1.2 ?_
        refine lv_topi (fun y_32 ey_32 => ?_)
        have hmv_ : y_32.toInt = zM Mr y_29.toNatClampNeg x4_1.toNatClampNeg := by unfold zM; rw [ey_32]
        refine va_mmin hx hb (by rw [hml]; exact hl.1.symm) hown (hts (.methodLink RX0 101 Lib.Math.min.name) (List.mem_of_getElem? (i := 4) rfl)) (hts (.static Lib.Math.min.name) (List.mem_of_getElem? (i := 5) rfl)) (hts (.initialized "java/lang/Math") (List.mem_of_getElem? (i := 6) rfl)) (hts (.code Lib.Math.min.name Lib.Math.min.code 2 (some .int)) (List.mem_of_getElem? (i := 7) rfl)) (Nat.le_of_ble_eq_true rfl) (Nat.le_of_ble_eq_true rfl) (Nat.le_of_ble_eq_true rfl) (Nat.le_of_ble_eq_true rfl) dB_36_0_36.1.2.2.1 ?_
        refine lv_topi (fun y_33 ey_33 => ?_)
        have ty_33 : y_33 = x3_1 ∨ y_33 = y_32 := by rw [ey_33]; split <;> simp
        have iy_33 : y_33.toInt = x3_1.toInt ∨ y_33.toInt = y_32.toInt := by rcases ty_33 with h | h <;> rw [h] <;> simp
        have hmn_ : y_33.toInt ≤ x3_1.toInt ∧ y_33.toInt ≤ zM Mr y_29.toNatClampNeg x4_1.toNatClampNeg ∧ (y_33.toInt = x3_1.toInt ∨ y_33.toInt = zM Mr y_29.toNatClampNeg x4_1.toNatClampNeg) := by have h_ := mnI ey_33; unfold loI at h_; split at h_ <;> omega
        refine lv_istore_n (lv' := [(3, .int y_33), (5, .int x5_1), (4, .int x4_1), (0, .ref xc), (1, .int a1), (2, .int a2)]) hx hb dB_36_0_36.1.2.2.2 rfl hl (by decide) rfl (fun ls hl => ?_)
        refine lv_aload_n hx hb dB_36_0_36.2.1.1.1 rfl (lv_at hl 3 rfl) ?_
        refine va_get (ci := 0) (v := .ref c8) (C := RX0) (T := TX0) (N := 9) hx hb hts (fun _ h => List.mem_cons_of_mem _ (List.mem_append_left _ (List.mem_append_right _ h))) hown hK.1 hP 0 rfl rfl 8 (by decide) (hts (.fieldLink RX0 32 "CutAtlas$Current" "cameFrom" "[I") (List.mem_of_getElem? (i := 3) rfl)) (fun _ h9 => h9) rfl dB_36_0_36.2.1.1.2 ?_
        refine lv_iload hx hb dB_36_0_36.2.1.2.1 (lv_at hl 2 rfl) ?_
        refine va_iald hx hb hK.1 hP 20 0 rfl rfl (i := x4_1) h_28 dB_36_0_36.2.1.2.2 ?_
        refine lv_topi (fun y_35 ey_35 => ?_)
        have e_ := (ey_35.trans ey_29.symm).symm
        subst e_
        skip
        refine lv_istore (lv' := [(4, .int y_29), (3, .int y_33), (5, .int x5_1), (0, .ref xc), (1, .int a1), (2, .int a2)]) hx hb dB_36_0_36.2.2.1.1 hl (by decide) rfl (fun ls hl => ?_)
        obtain ⟨y_36, ey_36⟩ : ∃ y : Int32, y = x5_1 + 1 := ⟨_, rfl⟩
        have ty_36 : y_36.toInt = x5_1.toInt + (1 : Int32).toInt := by rw [ey_36]; exact addI (by omega) (by omega)
        refine lv_iinc (v := y_36) (lv' := [(5, .int y_36), (4, .int y_29), (3, .int y_33), (0, .ref xc), (1, .int a1), (2, .int a2)]) hx hb dB_36_0_36.2.2.1.2 hl (k := 2) rfl (by rw [ey_36]; rfl) (by decide) rfl (fun ls hl => ?_)
        refine lv_goto (tgt := 9) hx hb dB_36_0_36.2.2.2.1 (by decide) ?_
        exact ih_1 y_36 y_29 y_33 _ _ _ (by omega) (by first | with_reducible assumption | omega | assumption) (by first | with_reducible assumption | omega | assumption) (by first | with_reducible assumption | omega | assumption) (by first | with_reducible assumption | omega | assumption) (by first | with_reducible assumption | assumption | omega) (by first | exact wlp_0 hw_ | exact wlp_st v5_1 (by omega) hy_ ey_29 (by omega) (by omega) (by omega)) ⟨hP, hD⟩ hS (lv_sub hl [0, 1, 2, 3, 4, 5] rfl)
end
