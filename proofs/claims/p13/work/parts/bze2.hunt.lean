set_option maxHeartbeats 4000000 in
set_option maxRecDepth 100000 in
theorem c_X7_letIn2 (l : Launch) (D : va_G) (cy : Nat → ClassId) (sz : Nat) (xh : Nat) (u1 : Int32) (u2 : Int32) (u3 : Int32) (u4 : Int32) (u5 : Int32) (u6 : Int32) (u7 : Int32) (u8 : Int32) (xc : Nat) (xk : Nat) (clo : Nat) (cro : Nat) (c4 : Nat) (c5 : Nat) (c6 : Nat) (c7 : Nat) (c8 : Nat) (xn : Nat) (n1 : Nat) (n2 : Nat) (n3 : Nat) (n4 : Nat) (n5 : Nat) (vp : Int32) (vn : Int32) (rl : Nat → Nat) (Ml : Nat → Nat → Int32) (a1 : Int32) (a2 : Int32) (hvp : 0 ≤ vp.toInt ∧ vp.toInt ≤ 12) (q1 : 0 ≤ a1.toInt ∧ a1.toInt < vp.toInt) (hM : ∀ x y : Nat, x < vp.toNatClampNeg → y < vp.toNatClampNeg → 0 ≤ zM Ml x y ∧ zM Ml x y ≤ 80000000) : Met l yX7_letIn wsX7_letIn ({ frames := 0, cells := 0, slots := 0, locals := 0 }) (va_Pc [.ref xh, .int a1, .int a2] (fun U => U.heap.size = sz ∧ va_P D vwCl [ob7_0_ xh xc u1 u2 u3 u4 u5 u6 u7 u8, ob0_0_ xc xn xk clo cro c4 c5 c6 c7 c8, ob3_0_ xn vp vn n1 n2 n3 n4 n5, aq_ cy 6 clo 12 (gf_ rl), ai_ cy (rl 0) 12 (Ml 0), ai_ cy (rl 1) 12 (Ml 1), ai_ cy (rl 2) 12 (Ml 2), ai_ cy (rl 3) 12 (Ml 3), ai_ cy (rl 4) 12 (Ml 4), ai_ cy (rl 5) 12 (Ml 5), ai_ cy (rl 6) 12 (Ml 6), ai_ cy (rl 7) 12 (Ml 7), ai_ cy (rl 8) 12 (Ml 8), ai_ cy (rl 9) 12 (Ml 9), ai_ cy (rl 10) 12 (Ml 10), ai_ cy (rl 11) 12 (Ml 11)] U.heap ∧ kg_ D cy U ∧ va_D (fun _ => True) [ob7_0_ xh xc u1 u2 u3 u4 u5 u6 u7 u8, ob0_0_ xc xn xk clo cro c4 c5 c6 c7 c8, ob3_0_ xn vp vn n1 n2 n3 n4 n5, aq_ cy 6 clo 12 (gf_ rl), ai_ cy (rl 0) 12 (Ml 0), ai_ cy (rl 1) 12 (Ml 1), ai_ cy (rl 2) 12 (Ml 2), ai_ cy (rl 3) 12 (Ml 3), ai_ cy (rl 4) 12 (Ml 4), ai_ cy (rl 5) 12 (Ml 5), ai_ cy (rl 6) 12 (Ml 6), ai_ cy (rl 7) 12 (Ml 7), ai_ cy (rl 8) 12 (Ml 8), ai_ cy (rl 9) 12 (Ml 9), ai_ cy (rl 10) 12 (Ml 10), ai_ cy (rl 11) 12 (Ml 11)])) (va_Qi (fun (r : Int32) (_ : Unit) => (r.toInt = sumI (inS (zM Ml) (bt a2) a1.toNatClampNeg) vp.toNatClampNeg) ∧ (0 ≤ r.toInt ∧ r.toInt ≤ 960000000)) (fun (_ : Unit) (_ : State) => True) (va_A [] sz)) 0 0 (va_A [] sz) := by
  refine ofQ (cc := cX7_letIn) (maxL := 5) (ret := (some .int)) (by decide) rfl ?_
  intro p e s m args below meth c s₁ Q hQ B hml hv
  obtain ⟨rfl, hsz, hP, hK, hD0⟩ := hv
  have hG := hK.2
  have hK := hK.1
  have hx := B.exec
  have hb := B.bytes
  have hr := B.returns
  have hts := atoms_spec (ws := wsX7_letIn) B.pre
  have hown : s.vm.findClass RX7 = some m.cls := by have h_ := findClass_of_methodNamed B.named; exact h_
  have hlocks := B.notSynchronized
  subst hsz
  have hD : va_D (va_A [] s.heap.size) [] := dd_nil
  generalize hAe : va_A [] s.heap.size = A at hD hQ
  have hA : ∀ q : Nat, s.heap.size ≤ q → A q := fun q h => by rw [← hAe]; exact Or.inr h
  have hS : va_S A s.heap s.heap [] := va_S.rf
  have hl := lv_entry ([.ref xh, .int a1, .int a2]) (n := 5) (Nat.le_of_ble_eq_true rfl)
  rw [lg_entry_eq]
  generalize (lg_sl ([.ref xh, .int a1, .int a2]) ++ List.replicate (5 - (lg_sl ([.ref xh, .int a1, .int a2])).length) Slot.unset).toArray = ls at hl ⊢
  have hl : lv_has ls 5 [(0, .ref xh), (1, .int a1), (2, .int a2)] := hl
  have z0 : (0 : Int32).toInt = 0 := by decide
  have z1 : (1 : Int32).toInt = 1 := by decide
  refine lv_iconst (v := 0) hx hb dB_36_1_73.1.1.1.1 (by decide) ?_
  refine lv_istore_n (lv' := [(3, .int 0), (0, .ref xh), (1, .int a1), (2, .int a2)]) hx hb dB_36_1_73.1.1.1.2 rfl hl (by decide) rfl (fun ls hl => ?_)
  refine lv_iload_n hx hb dB_36_1_73.1.1.2.1 rfl (lv_at hl 2 rfl) ?_
  refine lv_iconst (v := 1) hx hb dB_36_1_73.1.1.2.2 (by decide) ?_
  refine lv_iadd hx hb dB_36_1_73.1.2.1.1 ?_
  refine lv_topi (fun y_1 ey_1 => ?_)
  have ty_1 : y_1.toInt = a1.toInt + (1 : Int32).toInt := by rw [ey_1]; exact addI (by omega) (by omega)
  refine lv_istore (lv' := [(4, .int y_1), (3, .int 0), (0, .ref xh), (1, .int a1), (2, .int a2)]) hx hb dB_36_1_73.1.2.1.2 hl (by decide) rfl (fun ls hl => ?_)
  suffices LOOP_2 : ∀ (n_2 : Nat) (x4_2 : Int32) (x3_2 : Int32) (H : Heap) (locs : List Loc) (ls : Array Slot), 12 - x4_2.toInt < (n_2 : Int) → (1 ≤ x4_2.toInt) → (x4_2.toInt ≤ vp.toInt) → (0 ≤ x3_2.toInt ∧ x3_2.toInt ≤ 80000000 * x4_2.toInt) → (x3_2.toInt = sumI (inS (zM Ml) (bt a2) a1.toNatClampNeg) x4_2.toNatClampNeg) → (a1.toInt < x4_2.toInt) → va_P D vwCl [ob7_0_ xh xc u1 u2 u3 u4 u5 u6 u7 u8, ob0_0_ xc xn xk clo cro c4 c5 c6 c7 c8, ob3_0_ xn vp vn n1 n2 n3 n4 n5, aq_ cy 6 clo 12 (gf_ rl), ai_ cy (rl 0) 12 (Ml 0), ai_ cy (rl 1) 12 (Ml 1), ai_ cy (rl 2) 12 (Ml 2), ai_ cy (rl 3) 12 (Ml 3), ai_ cy (rl 4) 12 (Ml 4), ai_ cy (rl 5) 12 (Ml 5), ai_ cy (rl 6) 12 (Ml 6), ai_ cy (rl 7) 12 (Ml 7), ai_ cy (rl 8) 12 (Ml 8), ai_ cy (rl 9) 12 (Ml 9), ai_ cy (rl 10) 12 (Ml 10), ai_ cy (rl 11) 12 (Ml 11)] H → va_S A s.heap H locs → lv_has ls 5 [(4, .int x4_2), (3, .int x3_2), (0, .ref xh), (1, .int a1), (2, .int a2)] → W p l e ({ frames := 0, cells := 0, slots := 0, locals := 0 } : Room) s m (([.ref xh, .int a1, .int a2] : List Value).toArray) below meth c H locs 0 0 Q (F0 m 7 ls []) from LOOP_2 ((12 - y_1.toInt).toNat + 1) y_1 (0 : Int32) _ _ _ (by omega) (by first | with_reducible assumption | omega | assumption) (by first | with_reducible assumption | omega | assumption) (by first | with_reducible assumption | omega | assumption) (by first | exact in_0 (by omega) (by omega) | exact cnt_st v_none (by omega) (by omega) (by omega)) (by first | with_reducible assumption | omega | assumption) hP hS (lv_sub hl [0, 1, 2, 3, 4] rfl)
  intro n_2
  induction n_2 with
  | zero =>
    intro x4_2 x3_2 H locs ls hm v0_2 v1_2 v2_2 v3_2 v4_2 hP hS hl
    exact absurd hm (by omega)
  | succ n_2 ih_2 =>
    intro x4_2 x3_2 H locs ls hm v0_2 v1_2 v2_2 v3_2 v4_2 hP hS hl
    refine lv_iload hx hb dB_36_1_73.1.2.2.1 (lv_at hl 0 rfl) ?_
    refine lv_aload_n hx hb dB_36_1_73.1.2.2.2 rfl (lv_at hl 2 rfl) ?_
    refine va_get (ci := 7) (v := .ref xc) (C := RX7) (T := TX7) (N := 9) hx hb hts (fun _ h => List.mem_cons_of_mem _ (List.mem_append_left _ (List.mem_append_left _ (List.mem_append_right _ h)))) hown hK.1 hP 0 rfl rfl 0 (by decide) (hts (.fieldLink RX7 9 "CutAtlas$SetHunt" "current" "LCutAtlas$Current;") (List.mem_of_getElem? (i := 1) rfl)) (fun _ h9 => h9) rfl dB_36_1_73.2.1.1.1 ?_
    refine va_get (ci := 0) (v := .ref xn) (C := RX0) (T := TX0) (N := 9) hx hb hts (fun _ h => List.mem_cons_of_mem _ (List.mem_append_left _ (List.mem_append_right _ h))) hown hK.1 hP 1 rfl rfl 0 (by decide) (hts (.fieldLink RX7 39 "CutAtlas$Current" "net" "LCutAtlas$Net;") (List.mem_of_getElem? (i := 2) rfl)) (fun _ h9 => h9) rfl dB_36_1_73.2.1.1.2 ?_
    refine va_get (ci := 3) (v := .int vp) (C := RX3) (T := TX3) (N := 7) hx hb hts (fun _ h => List.mem_cons_of_mem _ (List.mem_append_right _ h)) hown hK.1 hP 2 rfl rfl 0 (by decide) (hts (.fieldLink RX7 45 "CutAtlas$Net" "places" "I") (List.mem_of_getElem? (i := 3) rfl)) (fun _ h9 => h9) rfl dB_36_1_73.2.1.2.1 ?_
    refine lv_icmp_ge (tgt := 53) hx hb dB_36_1_73.2.1.2.2 (by decide) (fun c_3 => ?_) (fun c_3 => ?_)
    · have t_3 : vp.toInt ≤ x4_2.toInt := Int32.le_iff_toInt_le.mp c_3
      refine lv_iload_n hx hb dB_36_1_74.2.2.2.2 rfl (lv_at hl 1 rfl) ?_
      rw [hQ]
      exact W.iret (v := x3_2) hx hb hr (fun t ht hW => ⟨⟨x3_2, (), rfl, ⟨sum_end v3_2 (by omega), by omega⟩, trivial⟩, hS.F ht⟩) hS.2.2 dB_36_1_75
    · have t_3 : ¬ vp.toInt ≤ x4_2.toInt := fun h => c_3 (Int32.le_iff_toInt_le.mpr h)
      refine lv_iload_n hx hb dB_36_1_73.2.2.1.1 rfl (lv_at hl 4 rfl) ?_
      refine lv_iload hx hb dB_36_1_73.2.2.1.2 (lv_at hl 0 rfl) ?_
      refine lv_ishr hx hb dB_36_1_73.2.2.2.1 ?_
      refine lv_topi (fun y_4 ey_4 => ?_)
      refine lv_iconst (v := 1) hx hb dB_36_1_73.2.2.2.2 (by decide) ?_
      refine lv_iand hx hb dB_36_1_74.1.1.1.1 ?_
      refine lv_topi (fun y_5 ey_5 => ?_)
      have hbw_ := bI_w (x := a2) (y := x4_2) (by omega) (by omega) ey_4 ey_5
      have hin_ := in_v (M := (zM Ml)) (S := bt a2) (nc_lt (x := a1) (P := x4_2) (by omega) (by omega)) hbw_
      refine lv_iconst (v := 1) hx hb dB_36_1_74.1.1.1.2 (by decide) ?_
      refine lv_icmp_ne (tgt := 47) hx hb dB_36_1_74.1.1.2.1 (by decide) (fun c_6 => ?_) (fun c_6 => ?_)
      · have t_6 : ¬ y_5.toInt = (1 : Int32).toInt := fun h => c_6 (Int32.toInt_inj.mp h)
        obtain ⟨y_7, ey_7⟩ : ∃ y : Int32, y = x4_2 + 1 := ⟨_, rfl⟩
        have ty_7 : y_7.toInt = x4_2.toInt + (1 : Int32).toInt := by rw [ey_7]; exact addI (by omega) (by omega)
        refine lv_iinc (v := y_7) (lv' := [(4, .int y_7), (3, .int x3_2), (0, .ref xh), (1, .int a1), (2, .int a2)]) hx hb dB_36_1_74.2.2.1.2 hl (k := 0) rfl (by rw [ey_7]; rfl) (by decide) rfl (fun ls hl => ?_)
        refine lv_goto (tgt := 7) hx hb dB_36_1_74.2.2.2.1 (by decide) ?_
        exact ih_2 y_7 x3_2 _ _ _ (by omega) (by first | with_reducible assumption | omega | assumption) (by first | with_reducible assumption | omega | assumption) (by first | with_reducible assumption | omega | assumption) (by first | exact in_0 (by omega) (by omega) | exact cnt_st v3_2 (by omega) (by omega) (by omega)) (by first | with_reducible assumption | omega | assumption) hP hS (lv_sub hl [0, 1, 2, 3, 4] rfl)
      · have t_6 : y_5.toInt = (1 : Int32).toInt := congrArg Int32.toInt c_6
        refine lv_iload_n hx hb dB_36_1_74.1.1.2.2 rfl (lv_at hl 1 rfl) ?_
        refine lv_aload_n hx hb dB_36_1_74.1.2.1.1 rfl (lv_at hl 2 rfl) ?_
        refine va_get (ci := 7) (v := .ref xc) (C := RX7) (T := TX7) (N := 9) hx hb hts (fun _ h => List.mem_cons_of_mem _ (List.mem_append_left _ (List.mem_append_left _ (List.mem_append_right _ h)))) hown hK.1 hP 0 rfl rfl 0 (by decide) (hts (.fieldLink RX7 9 "CutAtlas$SetHunt" "current" "LCutAtlas$Current;") (List.mem_of_getElem? (i := 1) rfl)) (fun _ h9 => h9) rfl dB_36_1_74.1.2.1.2 ?_
        refine va_get (ci := 0) (v := .ref clo) (C := RX0) (T := TX0) (N := 9) hx hb hts (fun _ h => List.mem_cons_of_mem _ (List.mem_append_left _ (List.mem_append_right _ h))) hown hK.1 hP 1 rfl rfl 2 (by decide) (hts (.fieldLink RX7 65 "CutAtlas$Current" "lets" "[[I") (List.mem_of_getElem? (i := 4) rfl)) (fun _ h9 => h9) rfl dB_36_1_74.1.2.2.1 ?_
        refine lv_iload hx hb dB_36_1_74.1.2.2.2 (lv_at hl 0 rfl) ?_
        have h_8 : vp_in x4_2 12 := in_I (by first | with_reducible assumption | omega) (by omega)
        refine va_alda hx hb hG hP 3 rfl (i := x4_2) h_8 dB_36_1_74.2.1.1.1 ?_
        refine lv_topv (v' := .ref (rl x4_2.toNatClampNeg)) (gf_at h_8) ?_
        refine lv_iload_n hx hb dB_36_1_74.2.1.1.2 rfl (lv_at hl 3 rfl) ?_
        have h_9 : vp_in a1 12 := in_I (by first | with_reducible assumption | omega) (by omega)
        have hPg : va_P D vwCl (([ob7_0_ xh xc u1 u2 u3 u4 u5 u6 u7 u8, ob0_0_ xc xn xk clo cro c4 c5 c6 c7 c8, ob3_0_ xn vp vn n1 n2 n3 n4 n5, aq_ cy 6 clo 12 (gf_ rl)] : va_W) ++ (gro (cy 0) rl Ml ++ ([] : va_W))) H := hP
        refine va_gld (X := [ob7_0_ xh xc u1 u2 u3 u4 u5 u6 u7 u8, ob0_0_ xc xn xk clo cro c4 c5 c6 c7 c8, ob3_0_ xn vp vn n1 n2 n3 n4 n5, aq_ cy 6 clo 12 (gf_ rl)]) (Y := []) (r := rl) (M := Ml) (k := x4_2.toNatClampNeg) hx hb hK.1 hPg 0 rfl (in_lt h_8) (i := a1) h_9 dB_36_1_74.2.1.2.1 ?_
        refine lv_topi (fun y_10 ey_10 => ?_)
        have km_ : y_10.toInt = zM Ml x4_2.toNatClampNeg a1.toNatClampNeg := by unfold zM; rw [ey_10]
        have hm_ := hM x4_2.toNatClampNeg a1.toNatClampNeg (nc_lt (by omega) (by omega)) (nc_lt (by omega) (by omega))
        refine lv_iadd hx hb dB_36_1_74.2.1.2.2 ?_
        refine lv_topi (fun y_11 ey_11 => ?_)
        have ty_11 : y_11.toInt = x3_2.toInt + y_10.toInt := by rw [ey_11]; exact addI (by omega) (by omega)
        refine lv_istore_n (lv' := [(3, .int y_11), (4, .int x4_2), (0, .ref xh), (1, .int a1), (2, .int a2)]) hx hb dB_36_1_74.2.2.1.1 rfl hl (by decide) rfl (fun ls hl => ?_)
        obtain ⟨y_12, ey_12⟩ : ∃ y : Int32, y = x4_2 + 1 := ⟨_, rfl⟩
        have ty_12 : y_12.toInt = x4_2.toInt + (1 : Int32).toInt := by rw [ey_12]; exact addI (by omega) (by omega)
        refine lv_iinc (v := y_12) (lv' := [(4, .int y_12), (3, .int y_11), (0, .ref xh), (1, .int a1), (2, .int a2)]) hx hb dB_36_1_74.2.2.1.2 hl (k := 1) rfl (by rw [ey_12]; rfl) (by decide) rfl (fun ls hl => ?_)
        refine lv_goto (tgt := 7) hx hb dB_36_1_74.2.2.2.1 (by decide) ?_
        exact ih_2 y_12 y_11 _ _ _ (by omega) (by first | with_reducible assumption | omega | assumption) (by first | with_reducible assumption | omega | assumption) (by first | with_reducible assumption | omega | assumption) (by first | exact in_0 (by omega) (by omega) | exact cnt_st v3_2 (by omega) (by omega) (by omega)) (by first | with_reducible assumption | omega | assumption) hP hS (lv_sub hl [0, 1, 2, 3, 4] rfl)

set_option maxHeartbeats 4000000 in
set_option maxRecDepth 100000 in
theorem c_X7_letOut2 (l : Launch) (D : va_G) (cy : Nat → ClassId) (sz : Nat) (xh : Nat) (u1 : Int32) (u2 : Int32) (u3 : Int32) (u4 : Int32) (u5 : Int32) (u6 : Int32) (u7 : Int32) (u8 : Int32) (xc : Nat) (xk : Nat) (clo : Nat) (cro : Nat) (c4 : Nat) (c5 : Nat) (c6 : Nat) (c7 : Nat) (c8 : Nat) (xn : Nat) (n1 : Nat) (n2 : Nat) (n3 : Nat) (n4 : Nat) (n5 : Nat) (vp : Int32) (vn : Int32) (rl : Nat → Nat) (Ml : Nat → Nat → Int32) (a1 : Int32) (a2 : Int32) (hvp : 0 ≤ vp.toInt ∧ vp.toInt ≤ 12) (q1 : 0 ≤ a1.toInt ∧ a1.toInt < vp.toInt) (hM : ∀ x y : Nat, x < vp.toNatClampNeg → y < vp.toNatClampNeg → 0 ≤ zM Ml x y ∧ zM Ml x y ≤ 80000000) : Met l yX7_letOut wsX7_letOut ({ frames := 0, cells := 0, slots := 0, locals := 0 }) (va_Pc [.ref xh, .int a1, .int a2] (fun U => U.heap.size = sz ∧ va_P D vwCl [ob7_0_ xh xc u1 u2 u3 u4 u5 u6 u7 u8, ob0_0_ xc xn xk clo cro c4 c5 c6 c7 c8, ob3_0_ xn vp vn n1 n2 n3 n4 n5, aq_ cy 6 clo 12 (gf_ rl), ai_ cy (rl 0) 12 (Ml 0), ai_ cy (rl 1) 12 (Ml 1), ai_ cy (rl 2) 12 (Ml 2), ai_ cy (rl 3) 12 (Ml 3), ai_ cy (rl 4) 12 (Ml 4), ai_ cy (rl 5) 12 (Ml 5), ai_ cy (rl 6) 12 (Ml 6), ai_ cy (rl 7) 12 (Ml 7), ai_ cy (rl 8) 12 (Ml 8), ai_ cy (rl 9) 12 (Ml 9), ai_ cy (rl 10) 12 (Ml 10), ai_ cy (rl 11) 12 (Ml 11)] U.heap ∧ kg_ D cy U ∧ va_D (fun _ => True) [ob7_0_ xh xc u1 u2 u3 u4 u5 u6 u7 u8, ob0_0_ xc xn xk clo cro c4 c5 c6 c7 c8, ob3_0_ xn vp vn n1 n2 n3 n4 n5, aq_ cy 6 clo 12 (gf_ rl), ai_ cy (rl 0) 12 (Ml 0), ai_ cy (rl 1) 12 (Ml 1), ai_ cy (rl 2) 12 (Ml 2), ai_ cy (rl 3) 12 (Ml 3), ai_ cy (rl 4) 12 (Ml 4), ai_ cy (rl 5) 12 (Ml 5), ai_ cy (rl 6) 12 (Ml 6), ai_ cy (rl 7) 12 (Ml 7), ai_ cy (rl 8) 12 (Ml 8), ai_ cy (rl 9) 12 (Ml 9), ai_ cy (rl 10) 12 (Ml 10), ai_ cy (rl 11) 12 (Ml 11)])) (va_Qi (fun (r : Int32) (_ : Unit) => (r.toInt = sumI (ouS (zM Ml) (bt a2) a1.toNatClampNeg) vp.toNatClampNeg) ∧ (0 ≤ r.toInt ∧ r.toInt ≤ 960000000)) (fun (_ : Unit) (_ : State) => True) (va_A [] sz)) 0 0 (va_A [] sz) := by
  refine ofQ (cc := cX7_letOut) (maxL := 5) (ret := (some .int)) (by decide) rfl ?_
  intro p e s m args below meth c s₁ Q hQ B hml hv
  obtain ⟨rfl, hsz, hP, hK, hD0⟩ := hv
  have hG := hK.2
  have hK := hK.1
  have hx := B.exec
  have hb := B.bytes
  have hr := B.returns
  have hts := atoms_spec (ws := wsX7_letOut) B.pre
  have hown : s.vm.findClass RX7 = some m.cls := by have h_ := findClass_of_methodNamed B.named; exact h_
  have hlocks := B.notSynchronized
  subst hsz
  have hD : va_D (va_A [] s.heap.size) [] := dd_nil
  generalize hAe : va_A [] s.heap.size = A at hD hQ
  have hA : ∀ q : Nat, s.heap.size ≤ q → A q := fun q h => by rw [← hAe]; exact Or.inr h
  have hS : va_S A s.heap s.heap [] := va_S.rf
  have hl := lv_entry ([.ref xh, .int a1, .int a2]) (n := 5) (Nat.le_of_ble_eq_true rfl)
  rw [lg_entry_eq]
  generalize (lg_sl ([.ref xh, .int a1, .int a2]) ++ List.replicate (5 - (lg_sl ([.ref xh, .int a1, .int a2])).length) Slot.unset).toArray = ls at hl ⊢
  have hl : lv_has ls 5 [(0, .ref xh), (1, .int a1), (2, .int a2)] := hl
  have z0 : (0 : Int32).toInt = 0 := by decide
  have z1 : (1 : Int32).toInt = 1 := by decide
  refine lv_iconst (v := 0) hx hb dB_36_1_76.1.1.1.1 (by decide) ?_
  refine lv_istore_n (lv' := [(3, .int 0), (0, .ref xh), (1, .int a1), (2, .int a2)]) hx hb dB_36_1_76.1.1.1.2 rfl hl (by decide) rfl (fun ls hl => ?_)
  refine lv_iload_n hx hb dB_36_1_76.1.1.2.1 rfl (lv_at hl 2 rfl) ?_
  refine lv_iconst (v := 1) hx hb dB_36_1_76.1.1.2.2 (by decide) ?_
  refine lv_iadd hx hb dB_36_1_76.1.2.1.1 ?_
  refine lv_topi (fun y_1 ey_1 => ?_)
  have ty_1 : y_1.toInt = a1.toInt + (1 : Int32).toInt := by rw [ey_1]; exact addI (by omega) (by omega)
  refine lv_istore (lv' := [(4, .int y_1), (3, .int 0), (0, .ref xh), (1, .int a1), (2, .int a2)]) hx hb dB_36_1_76.1.2.1.2 hl (by decide) rfl (fun ls hl => ?_)
  suffices LOOP_2 : ∀ (n_2 : Nat) (x4_2 : Int32) (x3_2 : Int32) (H : Heap) (locs : List Loc) (ls : Array Slot), 12 - x4_2.toInt < (n_2 : Int) → (1 ≤ x4_2.toInt) → (x4_2.toInt ≤ vp.toInt) → (0 ≤ x3_2.toInt ∧ x3_2.toInt ≤ 80000000 * x4_2.toInt) → (x3_2.toInt = sumI (ouS (zM Ml) (bt a2) a1.toNatClampNeg) x4_2.toNatClampNeg) → (a1.toInt < x4_2.toInt) → va_P D vwCl [ob7_0_ xh xc u1 u2 u3 u4 u5 u6 u7 u8, ob0_0_ xc xn xk clo cro c4 c5 c6 c7 c8, ob3_0_ xn vp vn n1 n2 n3 n4 n5, aq_ cy 6 clo 12 (gf_ rl), ai_ cy (rl 0) 12 (Ml 0), ai_ cy (rl 1) 12 (Ml 1), ai_ cy (rl 2) 12 (Ml 2), ai_ cy (rl 3) 12 (Ml 3), ai_ cy (rl 4) 12 (Ml 4), ai_ cy (rl 5) 12 (Ml 5), ai_ cy (rl 6) 12 (Ml 6), ai_ cy (rl 7) 12 (Ml 7), ai_ cy (rl 8) 12 (Ml 8), ai_ cy (rl 9) 12 (Ml 9), ai_ cy (rl 10) 12 (Ml 10), ai_ cy (rl 11) 12 (Ml 11)] H → va_S A s.heap H locs → lv_has ls 5 [(4, .int x4_2), (3, .int x3_2), (0, .ref xh), (1, .int a1), (2, .int a2)] → W p l e ({ frames := 0, cells := 0, slots := 0, locals := 0 } : Room) s m (([.ref xh, .int a1, .int a2] : List Value).toArray) below meth c H locs 0 0 Q (F0 m 7 ls []) from LOOP_2 ((12 - y_1.toInt).toNat + 1) y_1 (0 : Int32) _ _ _ (by omega) (by first | with_reducible assumption | omega | assumption) (by first | with_reducible assumption | omega | assumption) (by first | with_reducible assumption | omega | assumption) (by first | exact ou_0 (by omega) (by omega) | exact cnt_st v_none (by omega) (by omega) (by omega)) (by first | with_reducible assumption | omega | assumption) hP hS (lv_sub hl [0, 1, 2, 3, 4] rfl)
  intro n_2
  induction n_2 with
  | zero =>
    intro x4_2 x3_2 H locs ls hm v0_2 v1_2 v2_2 v3_2 v4_2 hP hS hl
    exact absurd hm (by omega)
  | succ n_2 ih_2 =>
    intro x4_2 x3_2 H locs ls hm v0_2 v1_2 v2_2 v3_2 v4_2 hP hS hl
    refine lv_iload hx hb dB_36_1_76.1.2.2.1 (lv_at hl 0 rfl) ?_
    refine lv_aload_n hx hb dB_36_1_76.1.2.2.2 rfl (lv_at hl 2 rfl) ?_
    refine va_get (ci := 7) (v := .ref xc) (C := RX7) (T := TX7) (N := 9) hx hb hts (fun _ h => List.mem_cons_of_mem _ (List.mem_append_left _ (List.mem_append_left _ (List.mem_append_right _ h)))) hown hK.1 hP 0 rfl rfl 0 (by decide) (hts (.fieldLink RX7 9 "CutAtlas$SetHunt" "current" "LCutAtlas$Current;") (List.mem_of_getElem? (i := 1) rfl)) (fun _ h9 => h9) rfl dB_36_1_76.2.1.1.1 ?_
    refine va_get (ci := 0) (v := .ref xn) (C := RX0) (T := TX0) (N := 9) hx hb hts (fun _ h => List.mem_cons_of_mem _ (List.mem_append_left _ (List.mem_append_right _ h))) hown hK.1 hP 1 rfl rfl 0 (by decide) (hts (.fieldLink RX7 39 "CutAtlas$Current" "net" "LCutAtlas$Net;") (List.mem_of_getElem? (i := 2) rfl)) (fun _ h9 => h9) rfl dB_36_1_76.2.1.1.2 ?_
    refine va_get (ci := 3) (v := .int vp) (C := RX3) (T := TX3) (N := 7) hx hb hts (fun _ h => List.mem_cons_of_mem _ (List.mem_append_right _ h)) hown hK.1 hP 2 rfl rfl 0 (by decide) (hts (.fieldLink RX7 45 "CutAtlas$Net" "places" "I") (List.mem_of_getElem? (i := 3) rfl)) (fun _ h9 => h9) rfl dB_36_1_76.2.1.2.1 ?_
    refine lv_icmp_ge (tgt := 52) hx hb dB_36_1_76.2.1.2.2 (by decide) (fun c_3 => ?_) (fun c_3 => ?_)
    · have t_3 : vp.toInt ≤ x4_2.toInt := Int32.le_iff_toInt_le.mp c_3
      refine lv_iload_n hx hb dB_36_1_77.2.2.2.1 rfl (lv_at hl 1 rfl) ?_
      rw [hQ]
      exact W.iret (v := x3_2) hx hb hr (fun t ht hW => ⟨⟨x3_2, (), rfl, ⟨sum_end v3_2 (by omega), by omega⟩, trivial⟩, hS.F ht⟩) hS.2.2 dB_36_1_77.2.2.2.2
    · have t_3 : ¬ vp.toInt ≤ x4_2.toInt := fun h => c_3 (Int32.le_iff_toInt_le.mpr h)
      refine lv_iload_n hx hb dB_36_1_76.2.2.1.1 rfl (lv_at hl 4 rfl) ?_
      refine lv_iload hx hb dB_36_1_76.2.2.1.2 (lv_at hl 0 rfl) ?_
      refine lv_ishr hx hb dB_36_1_76.2.2.2.1 ?_
      refine lv_topi (fun y_4 ey_4 => ?_)
      refine lv_iconst (v := 1) hx hb dB_36_1_76.2.2.2.2 (by decide) ?_
      refine lv_iand hx hb dB_36_1_77.1.1.1.1 ?_
      refine lv_topi (fun y_5 ey_5 => ?_)
      have hbw_ := bI_w (x := a2) (y := x4_2) (by omega) (by omega) ey_4 ey_5
      have hin_ := ou_v (M := (zM Ml)) (S := bt a2) (nc_lt (x := a1) (P := x4_2) (by omega) (by omega)) hbw_
      refine lv_if_ne (tgt := 46) hx hb dB_36_1_77.1.1.1.2 (by decide) (fun c_6 => ?_) (fun c_6 => ?_)
      · have t_6 : ¬ y_5.toInt = (0 : Int32).toInt := fun h => c_6 (Int32.toInt_inj.mp h)
        obtain ⟨y_7, ey_7⟩ : ∃ y : Int32, y = x4_2 + 1 := ⟨_, rfl⟩
        have ty_7 : y_7.toInt = x4_2.toInt + (1 : Int32).toInt := by rw [ey_7]; exact addI (by omega) (by omega)
        refine lv_iinc (v := y_7) (lv' := [(4, .int y_7), (3, .int x3_2), (0, .ref xh), (1, .int a1), (2, .int a2)]) hx hb dB_36_1_77.2.2.1.1 hl (k := 0) rfl (by rw [ey_7]; rfl) (by decide) rfl (fun ls hl => ?_)
        refine lv_goto (tgt := 7) hx hb dB_36_1_77.2.2.1.2 (by decide) ?_
        exact ih_2 y_7 x3_2 _ _ _ (by omega) (by first | with_reducible assumption | omega | assumption) (by first | with_reducible assumption | omega | assumption) (by first | with_reducible assumption | omega | assumption) (by first | exact ou_0 (by omega) (by omega) | exact cnt_st v3_2 (by omega) (by omega) (by omega)) (by first | with_reducible assumption | omega | assumption) hP hS (lv_sub hl [0, 1, 2, 3, 4] rfl)
      · have t_6 : y_5.toInt = (0 : Int32).toInt := congrArg Int32.toInt c_6
        refine lv_iload_n hx hb dB_36_1_77.1.1.2.1 rfl (lv_at hl 1 rfl) ?_
        refine lv_aload_n hx hb dB_36_1_77.1.1.2.2 rfl (lv_at hl 2 rfl) ?_
        refine va_get (ci := 7) (v := .ref xc) (C := RX7) (T := TX7) (N := 9) hx hb hts (fun _ h => List.mem_cons_of_mem _ (List.mem_append_left _ (List.mem_append_left _ (List.mem_append_right _ h)))) hown hK.1 hP 0 rfl rfl 0 (by decide) (hts (.fieldLink RX7 9 "CutAtlas$SetHunt" "current" "LCutAtlas$Current;") (List.mem_of_getElem? (i := 1) rfl)) (fun _ h9 => h9) rfl dB_36_1_77.1.2.1.1 ?_
        refine va_get (ci := 0) (v := .ref clo) (C := RX0) (T := TX0) (N := 9) hx hb hts (fun _ h => List.mem_cons_of_mem _ (List.mem_append_left _ (List.mem_append_right _ h))) hown hK.1 hP 1 rfl rfl 2 (by decide) (hts (.fieldLink RX7 65 "CutAtlas$Current" "lets" "[[I") (List.mem_of_getElem? (i := 4) rfl)) (fun _ h9 => h9) rfl dB_36_1_77.1.2.1.2 ?_
        refine lv_iload_n hx hb dB_36_1_77.1.2.2.1 rfl (lv_at hl 3 rfl) ?_
        have h_8 : vp_in a1 12 := in_I (by first | with_reducible assumption | omega) (by omega)
        refine va_alda hx hb hG hP 3 rfl (i := a1) h_8 dB_36_1_77.1.2.2.2 ?_
        refine lv_topv (v' := .ref (rl a1.toNatClampNeg)) (gf_at h_8) ?_
        refine lv_iload hx hb dB_36_1_77.2.1.1.1 (lv_at hl 0 rfl) ?_
        have h_9 : vp_in x4_2 12 := in_I (by first | with_reducible assumption | omega) (by omega)
        have hPg : va_P D vwCl (([ob7_0_ xh xc u1 u2 u3 u4 u5 u6 u7 u8, ob0_0_ xc xn xk clo cro c4 c5 c6 c7 c8, ob3_0_ xn vp vn n1 n2 n3 n4 n5, aq_ cy 6 clo 12 (gf_ rl)] : va_W) ++ (gro (cy 0) rl Ml ++ ([] : va_W))) H := hP
        refine va_gld (X := [ob7_0_ xh xc u1 u2 u3 u4 u5 u6 u7 u8, ob0_0_ xc xn xk clo cro c4 c5 c6 c7 c8, ob3_0_ xn vp vn n1 n2 n3 n4 n5, aq_ cy 6 clo 12 (gf_ rl)]) (Y := []) (r := rl) (M := Ml) (k := a1.toNatClampNeg) hx hb hK.1 hPg 0 rfl (in_lt h_8) (i := x4_2) h_9 dB_36_1_77.2.1.1.2 ?_
        refine lv_topi (fun y_10 ey_10 => ?_)
        have km_ : y_10.toInt = zM Ml a1.toNatClampNeg x4_2.toNatClampNeg := by unfold zM; rw [ey_10]
        have hm_ := hM a1.toNatClampNeg x4_2.toNatClampNeg (nc_lt (by omega) (by omega)) (nc_lt (by omega) (by omega))
        refine lv_iadd hx hb dB_36_1_77.2.1.2.1 ?_
        refine lv_topi (fun y_11 ey_11 => ?_)
        have ty_11 : y_11.toInt = x3_2.toInt + y_10.toInt := by rw [ey_11]; exact addI (by omega) (by omega)
        refine lv_istore_n (lv' := [(3, .int y_11), (4, .int x4_2), (0, .ref xh), (1, .int a1), (2, .int a2)]) hx hb dB_36_1_77.2.1.2.2 rfl hl (by decide) rfl (fun ls hl => ?_)
        obtain ⟨y_12, ey_12⟩ : ∃ y : Int32, y = x4_2 + 1 := ⟨_, rfl⟩
        have ty_12 : y_12.toInt = x4_2.toInt + (1 : Int32).toInt := by rw [ey_12]; exact addI (by omega) (by omega)
        refine lv_iinc (v := y_12) (lv' := [(4, .int y_12), (3, .int y_11), (0, .ref xh), (1, .int a1), (2, .int a2)]) hx hb dB_36_1_77.2.2.1.1 hl (k := 1) rfl (by rw [ey_12]; rfl) (by decide) rfl (fun ls hl => ?_)
        refine lv_goto (tgt := 7) hx hb dB_36_1_77.2.2.1.2 (by decide) ?_
        exact ih_2 y_12 y_11 _ _ _ (by omega) (by first | with_reducible assumption | omega | assumption) (by first | with_reducible assumption | omega | assumption) (by first | with_reducible assumption | omega | assumption) (by first | exact ou_0 (by omega) (by omega) | exact cnt_st v3_2 (by omega) (by omega) (by omega)) (by first | with_reducible assumption | omega | assumption) hP hS (lv_sub hl [0, 1, 2, 3, 4] rfl)

set_option maxHeartbeats 4000000 in
set_option maxRecDepth 100000 in
theorem c_X7_meet2 (l : Launch) (D : va_G) (cy : Nat → ClassId) (sz : Nat) (xh : Nat) (u1 : Int32) (u2 : Int32) (u3 : Int32) (u4 : Int32) (u5 : Int32) (u6 : Int32) (u7 : Int32) (u8 : Int32) (xc : Nat) (a1 : Int32) (a2 : Int32) (hmb : 0 ≤ u5.toInt ∧ u5.toInt ≤ 5000) : Met l yX7_meet wsX7_meet ({ frames := 0, cells := 0, slots := 0, locals := 0 }) (va_Pc [.ref xh, .int a1, .int a2] (fun U => U.heap.size = sz ∧ va_P D vwCl [ob7_0_ xh xc u1 u2 u3 u4 u5 u6 u7 u8] U.heap ∧ kk_ D cy U ∧ va_D (fun _ => True) [ob7_0_ xh xc u1 u2 u3 u4 u5 u6 u7 u8])) (va_Qv (fun (_ : Unit) => True) (fun (_ : Unit) (t : State) => ∃ (v5 : Int32), ∃ (v6 : Int32), ((¬ (a2.toInt = u3.toInt ∧ a1.toInt ≠ 0) → v5 = u5 ∧ v6 = u6) ∧ (a2.toInt = u3.toInt ∧ a1.toInt ≠ 0 → v5.toInt = u5.toInt + 1 ∧ ((u5.toInt = u4.toInt ∧ v6 = a1) ∨ (u5.toInt ≠ u4.toInt ∧ v6 = u6)))) ∧ va_P D vwCl [ob7_0_ xh xc u1 u2 u3 u4 v5 v6 u7 u8] t.heap ∧ va_D (va_A [ob7_0_ xh xc u1 u2 u3 u4 u5 u6 u7 u8] sz) [ob7_0_ xh xc u1 u2 u3 u4 v5 v6 u7 u8]) (va_A [ob7_0_ xh xc u1 u2 u3 u4 u5 u6 u7 u8] sz)) 0 0 (va_A [ob7_0_ xh xc u1 u2 u3 u4 u5 u6 u7 u8] sz) := by
  refine ofQ (cc := cX7_meet) (maxL := 3) (ret := none) (by decide) rfl ?_
  intro p e s m args below meth c s₁ Q hQ B hml hv
  obtain ⟨rfl, hsz, hP, hK, hD0⟩ := hv
  have hx := B.exec
  have hb := B.bytes
  have hr := B.returns
  have hts := atoms_spec (ws := wsX7_meet) B.pre
  have hown : s.vm.findClass RX7 = some m.cls := by have h_ := findClass_of_methodNamed B.named; exact h_
  have hlocks := B.notSynchronized
  subst hsz
  have hD := hD0.self (sz := s.heap.size)
  generalize hAe : va_A [ob7_0_ xh xc u1 u2 u3 u4 u5 u6 u7 u8] s.heap.size = A at hD hQ
  have hA : ∀ q : Nat, s.heap.size ≤ q → A q := fun q h => by rw [← hAe]; exact Or.inr h
  have hS : va_S A s.heap s.heap [] := va_S.rf
  have hl := lv_entry ([.ref xh, .int a1, .int a2]) (n := 3) (Nat.le_of_ble_eq_true rfl)
  rw [lg_entry_eq]
  generalize (lg_sl ([.ref xh, .int a1, .int a2]) ++ List.replicate (3 - (lg_sl ([.ref xh, .int a1, .int a2])).length) Slot.unset).toArray = ls at hl ⊢
  have hl : lv_has ls 3 [(0, .ref xh), (1, .int a1), (2, .int a2)] := hl
  have z0 : (0 : Int32).toInt = 0 := by decide
  have z1 : (1 : Int32).toInt = 1 := by decide
  refine lv_iload_n hx hb dB_36_1_78.1.1.1.1 rfl (lv_at hl 2 rfl) ?_
  refine lv_aload_n hx hb dB_36_1_78.1.1.1.2 rfl (lv_at hl 0 rfl) ?_
  refine va_get (ci := 7) (v := .int u3) (C := RX7) (T := TX7) (N := 9) hx hb hts (fun _ h => List.mem_cons_of_mem _ (List.mem_append_right _ h)) hown hK.1 hP 0 rfl rfl 3 (by decide) (hts (.fieldLink RX7 33 "CutAtlas$SetHunt" "aim" "I") (List.mem_of_getElem? (i := 1) rfl)) (fun _ h9 => h9) rfl dB_36_1_78.1.1.2.1 ?_
  refine lv_icmp_ne (tgt := 12) hx hb dB_36_1_78.1.1.2.2 (by decide) (fun c_1 => ?_) (fun c_1 => ?_)
  · have t_1 : ¬ a2.toInt = u3.toInt := fun h => c_1 (Int32.toInt_inj.mp h)
    rw [hQ]
    exact W.vret hx hb hr (fun t ht hW => ⟨⟨(), rfl, trivial, u5, u6, (⟨fun _ => ⟨rfl, rfl⟩, fun h => absurd h (by omega)⟩), by rw [ht]; exact hP, hD⟩, hS.F ht⟩) hS.2.2 dB_36_1_78.1.2.2.1
  · have t_1 : a2.toInt = u3.toInt := congrArg Int32.toInt c_1
    refine lv_iload_n hx hb dB_36_1_78.1.2.1.1 rfl (lv_at hl 1 rfl) ?_
    refine lv_if_ne (tgt := 13) hx hb dB_36_1_78.1.2.1.2 (by decide) (fun c_2 => ?_) (fun c_2 => ?_)
    · have t_2 : ¬ a1.toInt = (0 : Int32).toInt := fun h => c_2 (Int32.toInt_inj.mp h)
      refine lv_aload_n hx hb dB_36_1_78.1.2.2.2 rfl (lv_at hl 0 rfl) ?_
      refine va_get (ci := 7) (v := .int u5) (C := RX7) (T := TX7) (N := 9) hx hb hts (fun _ h => List.mem_cons_of_mem _ (List.mem_append_right _ h)) hown hK.1 hP 0 rfl rfl 5 (by decide) (hts (.fieldLink RX7 20 "CutAtlas$SetHunt" "met" "I") (List.mem_of_getElem? (i := 2) rfl)) (fun _ h9 => h9) rfl dB_36_1_78.2.1.1.1 ?_
      refine lv_aload_n hx hb dB_36_1_78.2.1.1.2 rfl (lv_at hl 0 rfl) ?_
      refine va_get (ci := 7) (v := .int u4) (C := RX7) (T := TX7) (N := 9) hx hb hts (fun _ h => List.mem_cons_of_mem _ (List.mem_append_right _ h)) hown hK.1 hP 0 rfl rfl 4 (by decide) (hts (.fieldLink RX7 36 "CutAtlas$SetHunt" "wanted" "I") (List.mem_of_getElem? (i := 3) rfl)) (fun _ h9 => h9) rfl dB_36_1_78.2.1.2.1 ?_
      refine lv_icmp_ne (tgt := 29) hx hb dB_36_1_78.2.1.2.2 (by decide) (fun c_3 => ?_) (fun c_3 => ?_)
      · have t_3 : ¬ u5.toInt = u4.toInt := fun h => c_3 (Int32.toInt_inj.mp h)
        refine lv_aload_n hx hb dB_36_1_78.2.2.2.2 rfl (lv_at hl 0 rfl) ?_
        refine lv_dup hx hb dB_36_1_79.1.1 rfl ?_
        refine va_get (ci := 7) (v := .int u5) (C := RX7) (T := TX7) (N := 9) hx hb hts (fun _ h => List.mem_cons_of_mem _ (List.mem_append_right _ h)) hown hK.1 hP 0 rfl rfl 5 (by decide) (hts (.fieldLink RX7 20 "CutAtlas$SetHunt" "met" "I") (List.mem_of_getElem? (i := 2) rfl)) (fun _ h9 => h9) rfl dB_36_1_79.1.2.1 ?_
        refine lv_iconst (v := 1) hx hb dB_36_1_79.1.2.2 (by decide) ?_
        refine lv_iadd hx hb dB_36_1_79.2.1 ?_
        refine lv_topi (fun y_4 ey_4 => ?_)
        have ty_4 : y_4.toInt = u5.toInt + (1 : Int32).toInt := by rw [ey_4]; exact addI (by omega) (by omega)
        refine va_put (ci := 7) (v := .int y_4) (ty := .int) (C := RX7) (T := TX7) (N := 9) hx hb hts (fun _ h => List.mem_cons_of_mem _ (List.mem_append_right _ h)) tyX7 tyX7_ok nmX7 hown hK.1 hP hD hS 0 rfl rfl 5 (by decide) (hts (.fieldLink RX7 20 "CutAtlas$SetHunt" "met" "I") (List.mem_of_getElem? (i := 2) rfl)) (fun _ h9 => h9) rfl (by decide +kernel) rfl rfl (Nat.le_of_ble_eq_true rfl) dB_36_1_79.2.2.1 (fun H locs hP hD hS => ?_)
        refine pd_K [ob7_0_ xh xc u1 u2 u3 u4 y_4 u6 u7 u8] hP hD (fun hP hD => ?_)
        rw [hQ]
        exact W.vret hx hb hr (fun t ht hW => ⟨⟨(), rfl, trivial, y_4, u6, (⟨fun h => absurd (by omega) h, fun _ => ⟨by omega, by first | exact Or.inl ⟨by omega, rfl⟩ | exact Or.inr ⟨by omega, rfl⟩⟩⟩), by rw [ht]; exact hP, hD⟩, hS.F ht⟩) hS.2.2 dB_36_1_79.2.2.2
      · have t_3 : u5.toInt = u4.toInt := congrArg Int32.toInt c_3
        refine lv_aload_n hx hb dB_36_1_78.2.2.1.1 rfl (lv_at hl 0 rfl) ?_
        refine lv_iload_n hx hb dB_36_1_78.2.2.1.2 rfl (lv_at hl 1 rfl) ?_
        refine va_put (ci := 7) (v := .int a1) (ty := .int) (C := RX7) (T := TX7) (N := 9) hx hb hts (fun _ h => List.mem_cons_of_mem _ (List.mem_append_right _ h)) tyX7 tyX7_ok nmX7 hown hK.1 hP hD hS 0 rfl rfl 6 (by decide) (hts (.fieldLink RX7 24 "CutAtlas$SetHunt" "found" "I") (List.mem_of_getElem? (i := 4) rfl)) (fun _ h9 => h9) rfl (by decide +kernel) rfl rfl (Nat.le_of_ble_eq_true rfl) dB_36_1_78.2.2.2.1 (fun H locs hP hD hS => ?_)
        refine pd_K [ob7_0_ xh xc u1 u2 u3 u4 u5 a1 u7 u8] hP hD (fun hP hD => ?_)
        refine lv_aload_n hx hb dB_36_1_78.2.2.2.2 rfl (lv_at hl 0 rfl) ?_
        refine lv_dup hx hb dB_36_1_79.1.1 rfl ?_
        refine va_get (ci := 7) (v := .int u5) (C := RX7) (T := TX7) (N := 9) hx hb hts (fun _ h => List.mem_cons_of_mem _ (List.mem_append_right _ h)) hown hK.1 hP 0 rfl rfl 5 (by decide) (hts (.fieldLink RX7 20 "CutAtlas$SetHunt" "met" "I") (List.mem_of_getElem? (i := 2) rfl)) (fun _ h9 => h9) rfl dB_36_1_79.1.2.1 ?_
        refine lv_iconst (v := 1) hx hb dB_36_1_79.1.2.2 (by decide) ?_
        refine lv_iadd hx hb dB_36_1_79.2.1 ?_
        refine lv_topi (fun y_5 ey_5 => ?_)
        have ty_5 : y_5.toInt = u5.toInt + (1 : Int32).toInt := by rw [ey_5]; exact addI (by omega) (by omega)
        refine va_put (ci := 7) (v := .int y_5) (ty := .int) (C := RX7) (T := TX7) (N := 9) hx hb hts (fun _ h => List.mem_cons_of_mem _ (List.mem_append_right _ h)) tyX7 tyX7_ok nmX7 hown hK.1 hP hD hS 0 rfl rfl 5 (by decide) (hts (.fieldLink RX7 20 "CutAtlas$SetHunt" "met" "I") (List.mem_of_getElem? (i := 2) rfl)) (fun _ h9 => h9) rfl (by decide +kernel) rfl rfl (Nat.le_of_ble_eq_true rfl) dB_36_1_79.2.2.1 (fun H locs hP hD hS => ?_)
        refine pd_K [ob7_0_ xh xc u1 u2 u3 u4 y_5 a1 u7 u8] hP hD (fun hP hD => ?_)
        rw [hQ]
        exact W.vret hx hb hr (fun t ht hW => ⟨⟨(), rfl, trivial, y_5, a1, (⟨fun h => absurd (by omega) h, fun _ => ⟨by omega, by first | exact Or.inl ⟨by omega, rfl⟩ | exact Or.inr ⟨by omega, rfl⟩⟩⟩), by rw [ht]; exact hP, hD⟩, hS.F ht⟩) hS.2.2 dB_36_1_79.2.2.2
    · have t_2 : a1.toInt = (0 : Int32).toInt := congrArg Int32.toInt c_2
      rw [hQ]
      exact W.vret hx hb hr (fun t ht hW => ⟨⟨(), rfl, trivial, u5, u6, (⟨fun _ => ⟨rfl, rfl⟩, fun h => absurd h (by omega)⟩), by rw [ht]; exact hP, hD⟩, hS.F ht⟩) hS.2.2 dB_36_1_78.1.2.2.1
