set_option maxHeartbeats 4000000 in
set_option maxRecDepth 100000 in
theorem c_J6_bitCount_0f7a4 (l : Launch) (D : va_G) (cy : Nat → ClassId) (sz : Nat) (a1 : Int32) : Met l yJ6_bitCount_0f7a4 wsJ6_bitCount_0f7a4 ({ frames := 0, cells := 0, slots := 0, locals := 0 }) (va_Pc [.int a1] (fun U => U.heap.size = sz ∧ va_P D vwCl [] U.heap ∧ kk_ D cy U ∧ va_D (fun _ => True) [])) (va_Qi (fun (r : Int32) (_ : Unit) => True) (fun (_ : Unit) (_ : State) => True) (va_A [] sz)) 0 0 (va_A [] sz) := by
  refine ofQ (cc := cJ6_bitCount_0f7a4) (maxL := 1) (ret := (some .int)) (by decide) rfl ?_
  intro p e s m args below meth c s₁ Q hQ B hml hv
  obtain ⟨rfl, hsz, hP, hK, hD0⟩ := hv
  have hx := B.exec
  have hb := B.bytes
  have hr := B.returns
  have hts := atoms_spec (ws := wsJ6_bitCount_0f7a4) B.pre
  have hown : s.vm.findClass RJ6 = some m.cls := by have h_ := findClass_of_methodNamed B.named; exact h_
  have hlocks := B.notSynchronized
  subst hsz
  have hD : va_D (va_A [] s.heap.size) [] := dd_nil
  generalize hAe : va_A [] s.heap.size = A at hD hQ
  have hA : ∀ q : Nat, s.heap.size ≤ q → A q := fun q h => by rw [← hAe]; exact Or.inr h
  have hS : va_S A s.heap s.heap [] := va_S.rf
  have hl := lv_entry ([.int a1]) (n := 1) (Nat.le_of_ble_eq_true rfl)
  rw [lg_entry_eq]
  generalize (lg_sl ([.int a1]) ++ List.replicate (1 - (lg_sl ([.int a1])).length) Slot.unset).toArray = ls at hl ⊢
  have hl : lv_has ls 1 [(0, .int a1)] := hl
  refine lv_iload_n hx hb dJ6_bitCount_0f7a4_0 rfl (lv_at hl 0 rfl) ?_
  refine lv_iload_n hx hb dJ6_bitCount_0f7a4_1 rfl (lv_at hl 0 rfl) ?_
  refine lv_iconst (v := 1) hx hb dJ6_bitCount_0f7a4_2 (by decide) ?_
  refine lv_iushr hx hb dJ6_bitCount_0f7a4_3 rfl ?_
  refine lv_topi (fun y_1 ey_1 => ?_)
  refine lv_ldcw (v := 1431655765) hx hb hown (hts (.constant RJ6 265 (1431655765)) (by decide +kernel)) dJ6_bitCount_0f7a4_4 ?_
  refine lv_iand hx hb dJ6_bitCount_0f7a4_7 ?_
  refine lv_topi (fun y_2 ey_2 => ?_)
  refine lv_isub hx hb dJ6_bitCount_0f7a4_8 ?_
  refine lv_topi (fun y_3 ey_3 => ?_)
  refine lv_istore_n (lv' := [(0, .int y_3)]) hx hb dJ6_bitCount_0f7a4_9 rfl hl (by decide) rfl (fun ls hl => ?_)
  refine lv_iload_n hx hb dJ6_bitCount_0f7a4_10 rfl (lv_at hl 0 rfl) ?_
  refine lv_ldcw (v := 858993459) hx hb hown (hts (.constant RJ6 266 (858993459)) (by decide +kernel)) dJ6_bitCount_0f7a4_11 ?_
  refine lv_iand hx hb dJ6_bitCount_0f7a4_14 ?_
  refine lv_topi (fun y_4 ey_4 => ?_)
  refine lv_iload_n hx hb dJ6_bitCount_0f7a4_15 rfl (lv_at hl 0 rfl) ?_
  refine lv_iconst (v := 2) hx hb dJ6_bitCount_0f7a4_16 (by decide) ?_
  refine lv_iushr hx hb dJ6_bitCount_0f7a4_17 rfl ?_
  refine lv_topi (fun y_5 ey_5 => ?_)
  refine lv_ldcw (v := 858993459) hx hb hown (hts (.constant RJ6 266 (858993459)) (by decide +kernel)) dJ6_bitCount_0f7a4_18 ?_
  refine lv_iand hx hb dJ6_bitCount_0f7a4_21 ?_
  refine lv_topi (fun y_6 ey_6 => ?_)
  refine lv_iadd hx hb dJ6_bitCount_0f7a4_22 ?_
  refine lv_topi (fun y_7 ey_7 => ?_)
  refine lv_istore_n (lv' := [(0, .int y_7)]) hx hb dJ6_bitCount_0f7a4_23 rfl hl (by decide) rfl (fun ls hl => ?_)
  refine lv_iload_n hx hb dJ6_bitCount_0f7a4_24 rfl (lv_at hl 0 rfl) ?_
  refine lv_iload_n hx hb dJ6_bitCount_0f7a4_25 rfl (lv_at hl 0 rfl) ?_
  refine lv_iconst (v := 4) hx hb dJ6_bitCount_0f7a4_26 (by decide) ?_
  refine lv_iushr hx hb dJ6_bitCount_0f7a4_27 rfl ?_
  refine lv_topi (fun y_8 ey_8 => ?_)
  refine lv_iadd hx hb dJ6_bitCount_0f7a4_28 ?_
  refine lv_topi (fun y_9 ey_9 => ?_)
  refine lv_ldcw (v := 252645135) hx hb hown (hts (.constant RJ6 267 (252645135)) (by decide +kernel)) dJ6_bitCount_0f7a4_29 ?_
  refine lv_iand hx hb dJ6_bitCount_0f7a4_32 ?_
  refine lv_topi (fun y_10 ey_10 => ?_)
  refine lv_istore_n (lv' := [(0, .int y_10)]) hx hb dJ6_bitCount_0f7a4_33 rfl hl (by decide) rfl (fun ls hl => ?_)
  refine lv_iload_n hx hb dJ6_bitCount_0f7a4_34 rfl (lv_at hl 0 rfl) ?_
  refine lv_iload_n hx hb dJ6_bitCount_0f7a4_35 rfl (lv_at hl 0 rfl) ?_
  refine lv_bipush (v := 8) hx hb dJ6_bitCount_0f7a4_36 (by decide) ?_
  refine lv_iushr hx hb dJ6_bitCount_0f7a4_38 rfl ?_
  refine lv_topi (fun y_11 ey_11 => ?_)
  refine lv_iadd hx hb dJ6_bitCount_0f7a4_39 ?_
  refine lv_topi (fun y_12 ey_12 => ?_)
  refine lv_istore_n (lv' := [(0, .int y_12)]) hx hb dJ6_bitCount_0f7a4_40 rfl hl (by decide) rfl (fun ls hl => ?_)
  refine lv_iload_n hx hb dJ6_bitCount_0f7a4_41 rfl (lv_at hl 0 rfl) ?_
  refine lv_iload_n hx hb dJ6_bitCount_0f7a4_42 rfl (lv_at hl 0 rfl) ?_
  refine lv_bipush (v := 16) hx hb dJ6_bitCount_0f7a4_43 (by decide) ?_
  refine lv_iushr hx hb dJ6_bitCount_0f7a4_45 rfl ?_
  refine lv_topi (fun y_13 ey_13 => ?_)
  refine lv_iadd hx hb dJ6_bitCount_0f7a4_46 ?_
  refine lv_topi (fun y_14 ey_14 => ?_)
  refine lv_istore_n (lv' := [(0, .int y_14)]) hx hb dJ6_bitCount_0f7a4_47 rfl hl (by decide) rfl (fun ls hl => ?_)
  refine lv_iload_n hx hb dJ6_bitCount_0f7a4_48 rfl (lv_at hl 0 rfl) ?_
  refine lv_bipush (v := 63) hx hb dJ6_bitCount_0f7a4_49 (by decide) ?_
  refine lv_iand hx hb dJ6_bitCount_0f7a4_51 ?_
  refine lv_topi (fun y_15 ey_15 => ?_)
  rw [hQ]
  exact W.iret (v := y_15) hx hb hr (fun t ht hW => ⟨⟨y_15, (), rfl, trivial, trivial⟩, hS.F ht⟩) hS.2.2 dJ6_bitCount_0f7a4_52

set_option maxHeartbeats 4000000 in
set_option maxRecDepth 100000 in
theorem c_X7_letIn (l : Launch) (D : va_G) (cy : Nat → ClassId) (sz : Nat) (xh : Nat) (u1 : Int32) (u2 : Int32) (u3 : Int32) (u4 : Int32) (u5 : Int32) (u6 : Int32) (u7 : Int32) (u8 : Int32) (xc : Nat) (xk : Nat) (clo : Nat) (cro : Nat) (c4 : Nat) (c5 : Nat) (c6 : Nat) (c7 : Nat) (c8 : Nat) (xn : Nat) (n1 : Nat) (n2 : Nat) (n3 : Nat) (n4 : Nat) (n5 : Nat) (vp : Int32) (vn : Int32) (rl : Nat → Nat) (Ml : Nat → Nat → Int32) (a1 : Int32) (a2 : Int32) (hvp : 0 ≤ vp.toInt ∧ vp.toInt ≤ 12) (q1 : 0 ≤ a1.toInt ∧ a1.toInt ≤ 11) : Met l yX7_letIn wsX7_letIn ({ frames := 0, cells := 0, slots := 0, locals := 0 }) (va_Pc [.ref xh, .int a1, .int a2] (fun U => U.heap.size = sz ∧ va_P D vwCl [(xh, .inr (7, [.ref xc, .int u1, .int u2, .int u3, .int u4, .int u5, .int u6, .int u7, .int u8])), (xc, .inr (0, [.ref xn, .ref xk, .ref clo, .ref cro, .ref c4, .ref c5, .ref c6, .ref c7, .ref c8])), (xn, .inr (3, [.int vp, .int vn, .ref n1, .ref n2, .ref n3, .ref n4, .ref n5])), (clo, .inl (cy 6, 12, .inr (.inr (.inr (.inr (gf_ rl)))))), ((rl 0), .inl (cy 0, 12, .inl (Ml 0))), ((rl 1), .inl (cy 0, 12, .inl (Ml 1))), ((rl 2), .inl (cy 0, 12, .inl (Ml 2))), ((rl 3), .inl (cy 0, 12, .inl (Ml 3))), ((rl 4), .inl (cy 0, 12, .inl (Ml 4))), ((rl 5), .inl (cy 0, 12, .inl (Ml 5))), ((rl 6), .inl (cy 0, 12, .inl (Ml 6))), ((rl 7), .inl (cy 0, 12, .inl (Ml 7))), ((rl 8), .inl (cy 0, 12, .inl (Ml 8))), ((rl 9), .inl (cy 0, 12, .inl (Ml 9))), ((rl 10), .inl (cy 0, 12, .inl (Ml 10))), ((rl 11), .inl (cy 0, 12, .inl (Ml 11)))] U.heap ∧ kg_ D cy U ∧ va_D (fun _ => True) [(xh, .inr (7, [.ref xc, .int u1, .int u2, .int u3, .int u4, .int u5, .int u6, .int u7, .int u8])), (xc, .inr (0, [.ref xn, .ref xk, .ref clo, .ref cro, .ref c4, .ref c5, .ref c6, .ref c7, .ref c8])), (xn, .inr (3, [.int vp, .int vn, .ref n1, .ref n2, .ref n3, .ref n4, .ref n5])), (clo, .inl (cy 6, 12, .inr (.inr (.inr (.inr (gf_ rl)))))), ((rl 0), .inl (cy 0, 12, .inl (Ml 0))), ((rl 1), .inl (cy 0, 12, .inl (Ml 1))), ((rl 2), .inl (cy 0, 12, .inl (Ml 2))), ((rl 3), .inl (cy 0, 12, .inl (Ml 3))), ((rl 4), .inl (cy 0, 12, .inl (Ml 4))), ((rl 5), .inl (cy 0, 12, .inl (Ml 5))), ((rl 6), .inl (cy 0, 12, .inl (Ml 6))), ((rl 7), .inl (cy 0, 12, .inl (Ml 7))), ((rl 8), .inl (cy 0, 12, .inl (Ml 8))), ((rl 9), .inl (cy 0, 12, .inl (Ml 9))), ((rl 10), .inl (cy 0, 12, .inl (Ml 10))), ((rl 11), .inl (cy 0, 12, .inl (Ml 11)))])) (va_Qi (fun (r : Int32) (_ : Unit) => True) (fun (_ : Unit) (_ : State) => True) (va_A [] sz)) 0 0 (va_A [] sz) := by
  refine ofQ (cc := cX7_letIn) (maxL := 5) (ret := (some .int)) (by decide) rfl ?_
  intro p e s m args below meth c s₁ Q hQ B hml hv
  obtain ⟨rfl, hsz, hP, hK, hD0⟩ := hv
  have hG := hK.2
  have hK := hK.1
  have hx := B.exec
  have hb := B.bytes
  have hr := B.returns
  have hts := atoms_spec (ws := wsX7_letIn) B.pre
  have hown : s.vm.findClass RX7 = some m.cls := by have h_ := findClass_of_methodNamed B.named; exact h_
  have hlocks := B.notSynchronized
  subst hsz
  have hD : va_D (va_A [] s.heap.size) [] := dd_nil
  generalize hAe : va_A [] s.heap.size = A at hD hQ
  have hA : ∀ q : Nat, s.heap.size ≤ q → A q := fun q h => by rw [← hAe]; exact Or.inr h
  have hS : va_S A s.heap s.heap [] := va_S.rf
  have hl := lv_entry ([.ref xh, .int a1, .int a2]) (n := 5) (Nat.le_of_ble_eq_true rfl)
  rw [lg_entry_eq]
  generalize (lg_sl ([.ref xh, .int a1, .int a2]) ++ List.replicate (5 - (lg_sl ([.ref xh, .int a1, .int a2])).length) Slot.unset).toArray = ls at hl ⊢
  have hl : lv_has ls 5 [(0, .ref xh), (1, .int a1), (2, .int a2)] := hl
  have z0 : (0 : Int32).toInt = 0 := by decide
  have z1 : (1 : Int32).toInt = 1 := by decide
  refine lv_iconst (v := 0) hx hb dX7_letIn_0 (by decide) ?_
  refine lv_istore_n (lv' := [(3, .int 0), (0, .ref xh), (1, .int a1), (2, .int a2)]) hx hb dX7_letIn_1 rfl hl (by decide) rfl (fun ls hl => ?_)
  refine lv_iload_n hx hb dX7_letIn_2 rfl (lv_at hl 2 rfl) ?_
  refine lv_iconst (v := 1) hx hb dX7_letIn_3 (by decide) ?_
  refine lv_iadd hx hb dX7_letIn_4 ?_
  refine lv_topi (fun y_1 ey_1 => ?_)
  have ty_1 : y_1.toInt = a1.toInt + (1 : Int32).toInt := by rw [ey_1]; exact addI (by omega) (by omega)
  refine lv_istore (lv' := [(4, .int y_1), (3, .int 0), (0, .ref xh), (1, .int a1), (2, .int a2)]) hx hb dX7_letIn_5 hl (by decide) rfl (fun ls hl => ?_)
  suffices LOOP_2 : ∀ (n_2 : Nat) (x4_2 : Int32) (x3_2 : Int32) (H : Heap) (locs : List Loc) (ls : Array Slot), 12 - x4_2.toInt < (n_2 : Int) → (1 ≤ x4_2.toInt) → (x4_2.toInt ≤ 12) → va_P D vwCl [(xh, .inr (7, [.ref xc, .int u1, .int u2, .int u3, .int u4, .int u5, .int u6, .int u7, .int u8])), (xc, .inr (0, [.ref xn, .ref xk, .ref clo, .ref cro, .ref c4, .ref c5, .ref c6, .ref c7, .ref c8])), (xn, .inr (3, [.int vp, .int vn, .ref n1, .ref n2, .ref n3, .ref n4, .ref n5])), (clo, .inl (cy 6, 12, .inr (.inr (.inr (.inr (gf_ rl)))))), ((rl 0), .inl (cy 0, 12, .inl (Ml 0))), ((rl 1), .inl (cy 0, 12, .inl (Ml 1))), ((rl 2), .inl (cy 0, 12, .inl (Ml 2))), ((rl 3), .inl (cy 0, 12, .inl (Ml 3))), ((rl 4), .inl (cy 0, 12, .inl (Ml 4))), ((rl 5), .inl (cy 0, 12, .inl (Ml 5))), ((rl 6), .inl (cy 0, 12, .inl (Ml 6))), ((rl 7), .inl (cy 0, 12, .inl (Ml 7))), ((rl 8), .inl (cy 0, 12, .inl (Ml 8))), ((rl 9), .inl (cy 0, 12, .inl (Ml 9))), ((rl 10), .inl (cy 0, 12, .inl (Ml 10))), ((rl 11), .inl (cy 0, 12, .inl (Ml 11)))] H → va_S A s.heap H locs → lv_has ls 5 [(4, .int x4_2), (3, .int x3_2), (0, .ref xh), (1, .int a1), (2, .int a2)] → W p l e ({ frames := 0, cells := 0, slots := 0, locals := 0 } : Room) s m (([.ref xh, .int a1, .int a2] : List Value).toArray) below meth c H locs 0 0 Q (F0 m 7 ls []) from LOOP_2 ((12 - y_1.toInt).toNat + 1) y_1 (0 : Int32) _ _ _ (by omega) (by first | with_reducible assumption | assumption | omega) (by first | with_reducible assumption | assumption | omega) hP  hS (lv_sub hl [0, 1, 2, 3, 4] rfl)
  intro n_2
  induction n_2 with
  | zero =>
    intro x4_2 x3_2 H locs ls hm v0_2 v1_2 hP hS hl
    exact absurd hm (by omega)
  | succ n_2 ih_2 =>
    intro x4_2 x3_2 H locs ls hm v0_2 v1_2 hP hS hl
    refine lv_iload hx hb dX7_letIn_7 (lv_at hl 0 rfl) ?_
    refine lv_aload_n hx hb dX7_letIn_9 rfl (lv_at hl 2 rfl) ?_
    refine va_get (ci := 7) (v := .ref xc) (C := RX7) (T := TX7) (N := 9) hx hb hts (fun _ h => List.mem_cons_of_mem _ (List.mem_append_left _ (List.mem_append_left _ (List.mem_append_right _ h)))) hown hK.1 hP 0 rfl rfl 0 (by decide) (hts (.fieldLink RX7 9 "CutAtlas$SetHunt" "current" "LCutAtlas$Current;") (by decide +kernel)) (fun _ h9 => h9) rfl dX7_letIn_10 ?_
    refine va_get (ci := 0) (v := .ref xn) (C := RX0) (T := TX0) (N := 9) hx hb hts (fun _ h => List.mem_cons_of_mem _ (List.mem_append_left _ (List.mem_append_right _ h))) hown hK.1 hP 1 rfl rfl 0 (by decide) (hts (.fieldLink RX7 39 "CutAtlas$Current" "net" "LCutAtlas$Net;") (by decide +kernel)) (fun _ h9 => h9) rfl dX7_letIn_13 ?_
    refine va_get (ci := 3) (v := .int vp) (C := RX3) (T := TX3) (N := 7) hx hb hts (fun _ h => List.mem_cons_of_mem _ (List.mem_append_right _ h)) hown hK.1 hP 2 rfl rfl 0 (by decide) (hts (.fieldLink RX7 45 "CutAtlas$Net" "places" "I") (by decide +kernel)) (fun _ h9 => h9) rfl dX7_letIn_16 ?_
    refine lv_icmp_ge (tgt := 53) hx hb dX7_letIn_19 (by decide) (fun c_3 => ?_) (fun c_3 => ?_)
    · have t_3 : vp.toInt ≤ x4_2.toInt := Int32.le_iff_toInt_le.mp c_3
      refine lv_iload_n hx hb dX7_letIn_53 rfl (lv_at hl 1 rfl) ?_
      rw [hQ]
      exact W.iret (v := x3_2) hx hb hr (fun t ht hW => ⟨⟨x3_2, (), rfl, trivial, trivial⟩, hS.F ht⟩) hS.2.2 dX7_letIn_54
    · have t_3 : ¬ vp.toInt ≤ x4_2.toInt := fun h => c_3 (Int32.le_iff_toInt_le.mpr h)
      refine lv_iload_n hx hb dX7_letIn_22 rfl (lv_at hl 4 rfl) ?_
      refine lv_iload hx hb dX7_letIn_23 (lv_at hl 0 rfl) ?_
      refine lv_ishr hx hb dX7_letIn_25 ?_
      refine lv_topi (fun y_4 ey_4 => ?_)
      refine lv_iconst (v := 1) hx hb dX7_letIn_26 (by decide) ?_
      refine lv_iand hx hb dX7_letIn_27 ?_
      refine lv_topi (fun y_5 ey_5 => ?_)
      refine lv_iconst (v := 1) hx hb dX7_letIn_28 (by decide) ?_
      refine lv_icmp_ne (tgt := 47) hx hb dX7_letIn_29 (by decide) (fun c_6 => ?_) (fun c_6 => ?_)
      · have t_6 : ¬ y_5.toInt = (1 : Int32).toInt := fun h => c_6 (Int32.toInt_inj.mp h)
        obtain ⟨y_7, ey_7⟩ : ∃ y : Int32, y = x4_2 + 1 := ⟨_, rfl⟩
        have ty_7 : y_7.toInt = x4_2.toInt + (1 : Int32).toInt := by rw [ey_7]; exact addI (by omega) (by omega)
        refine lv_iinc (v := y_7) (lv' := [(4, .int y_7), (3, .int x3_2), (0, .ref xh), (1, .int a1), (2, .int a2)]) hx hb dX7_letIn_47 hl (k := 0) rfl (by rw [ey_7]; rfl) (by decide) rfl (fun ls hl => ?_)
        refine lv_goto (tgt := 7) hx hb dX7_letIn_50 (by decide) ?_
        exact ih_2 y_7 x3_2 _ _ _ (by omega) (by first | with_reducible assumption | assumption | omega) (by first | with_reducible assumption | assumption | omega) hP  hS (lv_sub hl [0, 1, 2, 3, 4] rfl)
      · have t_6 : y_5.toInt = (1 : Int32).toInt := congrArg Int32.toInt c_6
        refine lv_iload_n hx hb dX7_letIn_32 rfl (lv_at hl 1 rfl) ?_
        refine lv_aload_n hx hb dX7_letIn_33 rfl (lv_at hl 2 rfl) ?_
        refine va_get (ci := 7) (v := .ref xc) (C := RX7) (T := TX7) (N := 9) hx hb hts (fun _ h => List.mem_cons_of_mem _ (List.mem_append_left _ (List.mem_append_left _ (List.mem_append_right _ h)))) hown hK.1 hP 0 rfl rfl 0 (by decide) (hts (.fieldLink RX7 9 "CutAtlas$SetHunt" "current" "LCutAtlas$Current;") (by decide +kernel)) (fun _ h9 => h9) rfl dX7_letIn_34 ?_
        refine va_get (ci := 0) (v := .ref clo) (C := RX0) (T := TX0) (N := 9) hx hb hts (fun _ h => List.mem_cons_of_mem _ (List.mem_append_left _ (List.mem_append_right _ h))) hown hK.1 hP 1 rfl rfl 2 (by decide) (hts (.fieldLink RX7 65 "CutAtlas$Current" "lets" "[[I") (by decide +kernel)) (fun _ h9 => h9) rfl dX7_letIn_37 ?_
        refine lv_iload hx hb dX7_letIn_40 (lv_at hl 0 rfl) ?_
        have h_8 : vp_in x4_2 12 := in_I (by omega) (by omega)
        refine va_alda hx hb hG hP 3 rfl (i := x4_2) h_8 dX7_letIn_42 ?_
        refine lv_topv (v' := .ref (rl x4_2.toNatClampNeg)) (gf_at h_8) ?_
        refine lv_iload_n hx hb dX7_letIn_43 rfl (lv_at hl 3 rfl) ?_
        have h_9 : vp_in a1 12 := in_I (by omega) (by omega)
        have hPg : va_P D vwCl (([(xh, .inr (7, [.ref xc, .int u1, .int u2, .int u3, .int u4, .int u5, .int u6, .int u7, .int u8])), (xc, .inr (0, [.ref xn, .ref xk, .ref clo, .ref cro, .ref c4, .ref c5, .ref c6, .ref c7, .ref c8])), (xn, .inr (3, [.int vp, .int vn, .ref n1, .ref n2, .ref n3, .ref n4, .ref n5])), (clo, .inl (cy 6, 12, .inr (.inr (.inr (.inr (gf_ rl))))))] : va_W) ++ (gro (cy 0) rl Ml ++ ([] : va_W))) H := hP
        refine va_gld (X := [(xh, .inr (7, [.ref xc, .int u1, .int u2, .int u3, .int u4, .int u5, .int u6, .int u7, .int u8])), (xc, .inr (0, [.ref xn, .ref xk, .ref clo, .ref cro, .ref c4, .ref c5, .ref c6, .ref c7, .ref c8])), (xn, .inr (3, [.int vp, .int vn, .ref n1, .ref n2, .ref n3, .ref n4, .ref n5])), (clo, .inl (cy 6, 12, .inr (.inr (.inr (.inr (gf_ rl))))))]) (Y := []) (r := rl) (M := Ml) (k := x4_2.toNatClampNeg) hx hb hK.1 hPg 0 rfl (in_lt h_8) (i := a1) h_9 dX7_letIn_44 ?_
        refine lv_topi (fun y_10 ey_10 => ?_)
        refine lv_iadd hx hb dX7_letIn_45 ?_
        refine lv_topi (fun y_11 ey_11 => ?_)
        refine lv_istore_n (lv' := [(3, .int y_11), (4, .int x4_2), (0, .ref xh), (1, .int a1), (2, .int a2)]) hx hb dX7_letIn_46 rfl hl (by decide) rfl (fun ls hl => ?_)
        obtain ⟨y_12, ey_12⟩ : ∃ y : Int32, y = x4_2 + 1 := ⟨_, rfl⟩
        have ty_12 : y_12.toInt = x4_2.toInt + (1 : Int32).toInt := by rw [ey_12]; exact addI (by omega) (by omega)
        refine lv_iinc (v := y_12) (lv' := [(4, .int y_12), (3, .int y_11), (0, .ref xh), (1, .int a1), (2, .int a2)]) hx hb dX7_letIn_47 hl (k := 1) rfl (by rw [ey_12]; rfl) (by decide) rfl (fun ls hl => ?_)
        refine lv_goto (tgt := 7) hx hb dX7_letIn_50 (by decide) ?_
        exact ih_2 y_12 y_11 _ _ _ (by omega) (by first | with_reducible assumption | assumption | omega) (by first | with_reducible assumption | assumption | omega) hP  hS (lv_sub hl [0, 1, 2, 3, 4] rfl)

set_option maxHeartbeats 4000000 in
set_option maxRecDepth 100000 in
theorem c_X7_letOut (l : Launch) (D : va_G) (cy : Nat → ClassId) (sz : Nat) (xh : Nat) (u1 : Int32) (u2 : Int32) (u3 : Int32) (u4 : Int32) (u5 : Int32) (u6 : Int32) (u7 : Int32) (u8 : Int32) (xc : Nat) (xk : Nat) (clo : Nat) (cro : Nat) (c4 : Nat) (c5 : Nat) (c6 : Nat) (c7 : Nat) (c8 : Nat) (xn : Nat) (n1 : Nat) (n2 : Nat) (n3 : Nat) (n4 : Nat) (n5 : Nat) (vp : Int32) (vn : Int32) (rl : Nat → Nat) (Ml : Nat → Nat → Int32) (a1 : Int32) (a2 : Int32) (hvp : 0 ≤ vp.toInt ∧ vp.toInt ≤ 12) (q1 : 0 ≤ a1.toInt ∧ a1.toInt ≤ 11) : Met l yX7_letOut wsX7_letOut ({ frames := 0, cells := 0, slots := 0, locals := 0 }) (va_Pc [.ref xh, .int a1, .int a2] (fun U => U.heap.size = sz ∧ va_P D vwCl [(xh, .inr (7, [.ref xc, .int u1, .int u2, .int u3, .int u4, .int u5, .int u6, .int u7, .int u8])), (xc, .inr (0, [.ref xn, .ref xk, .ref clo, .ref cro, .ref c4, .ref c5, .ref c6, .ref c7, .ref c8])), (xn, .inr (3, [.int vp, .int vn, .ref n1, .ref n2, .ref n3, .ref n4, .ref n5])), (clo, .inl (cy 6, 12, .inr (.inr (.inr (.inr (gf_ rl)))))), ((rl 0), .inl (cy 0, 12, .inl (Ml 0))), ((rl 1), .inl (cy 0, 12, .inl (Ml 1))), ((rl 2), .inl (cy 0, 12, .inl (Ml 2))), ((rl 3), .inl (cy 0, 12, .inl (Ml 3))), ((rl 4), .inl (cy 0, 12, .inl (Ml 4))), ((rl 5), .inl (cy 0, 12, .inl (Ml 5))), ((rl 6), .inl (cy 0, 12, .inl (Ml 6))), ((rl 7), .inl (cy 0, 12, .inl (Ml 7))), ((rl 8), .inl (cy 0, 12, .inl (Ml 8))), ((rl 9), .inl (cy 0, 12, .inl (Ml 9))), ((rl 10), .inl (cy 0, 12, .inl (Ml 10))), ((rl 11), .inl (cy 0, 12, .inl (Ml 11)))] U.heap ∧ kg_ D cy U ∧ va_D (fun _ => True) [(xh, .inr (7, [.ref xc, .int u1, .int u2, .int u3, .int u4, .int u5, .int u6, .int u7, .int u8])), (xc, .inr (0, [.ref xn, .ref xk, .ref clo, .ref cro, .ref c4, .ref c5, .ref c6, .ref c7, .ref c8])), (xn, .inr (3, [.int vp, .int vn, .ref n1, .ref n2, .ref n3, .ref n4, .ref n5])), (clo, .inl (cy 6, 12, .inr (.inr (.inr (.inr (gf_ rl)))))), ((rl 0), .inl (cy 0, 12, .inl (Ml 0))), ((rl 1), .inl (cy 0, 12, .inl (Ml 1))), ((rl 2), .inl (cy 0, 12, .inl (Ml 2))), ((rl 3), .inl (cy 0, 12, .inl (Ml 3))), ((rl 4), .inl (cy 0, 12, .inl (Ml 4))), ((rl 5), .inl (cy 0, 12, .inl (Ml 5))), ((rl 6), .inl (cy 0, 12, .inl (Ml 6))), ((rl 7), .inl (cy 0, 12, .inl (Ml 7))), ((rl 8), .inl (cy 0, 12, .inl (Ml 8))), ((rl 9), .inl (cy 0, 12, .inl (Ml 9))), ((rl 10), .inl (cy 0, 12, .inl (Ml 10))), ((rl 11), .inl (cy 0, 12, .inl (Ml 11)))])) (va_Qi (fun (r : Int32) (_ : Unit) => True) (fun (_ : Unit) (_ : State) => True) (va_A [] sz)) 0 0 (va_A [] sz) := by
  refine ofQ (cc := cX7_letOut) (maxL := 5) (ret := (some .int)) (by decide) rfl ?_
  intro p e s m args below meth c s₁ Q hQ B hml hv
  obtain ⟨rfl, hsz, hP, hK, hD0⟩ := hv
  have hG := hK.2
  have hK := hK.1
  have hx := B.exec
  have hb := B.bytes
  have hr := B.returns
  have hts := atoms_spec (ws := wsX7_letOut) B.pre
  have hown : s.vm.findClass RX7 = some m.cls := by have h_ := findClass_of_methodNamed B.named; exact h_
  have hlocks := B.notSynchronized
  subst hsz
  have hD : va_D (va_A [] s.heap.size) [] := dd_nil
  generalize hAe : va_A [] s.heap.size = A at hD hQ
  have hA : ∀ q : Nat, s.heap.size ≤ q → A q := fun q h => by rw [← hAe]; exact Or.inr h
  have hS : va_S A s.heap s.heap [] := va_S.rf
  have hl := lv_entry ([.ref xh, .int a1, .int a2]) (n := 5) (Nat.le_of_ble_eq_true rfl)
  rw [lg_entry_eq]
  generalize (lg_sl ([.ref xh, .int a1, .int a2]) ++ List.replicate (5 - (lg_sl ([.ref xh, .int a1, .int a2])).length) Slot.unset).toArray = ls at hl ⊢
  have hl : lv_has ls 5 [(0, .ref xh), (1, .int a1), (2, .int a2)] := hl
  have z0 : (0 : Int32).toInt = 0 := by decide
  have z1 : (1 : Int32).toInt = 1 := by decide
  refine lv_iconst (v := 0) hx hb dX7_letOut_0 (by decide) ?_
  refine lv_istore_n (lv' := [(3, .int 0), (0, .ref xh), (1, .int a1), (2, .int a2)]) hx hb dX7_letOut_1 rfl hl (by decide) rfl (fun ls hl => ?_)
  refine lv_iload_n hx hb dX7_letOut_2 rfl (lv_at hl 2 rfl) ?_
  refine lv_iconst (v := 1) hx hb dX7_letOut_3 (by decide) ?_
  refine lv_iadd hx hb dX7_letOut_4 ?_
  refine lv_topi (fun y_1 ey_1 => ?_)
  have ty_1 : y_1.toInt = a1.toInt + (1 : Int32).toInt := by rw [ey_1]; exact addI (by omega) (by omega)
  refine lv_istore (lv' := [(4, .int y_1), (3, .int 0), (0, .ref xh), (1, .int a1), (2, .int a2)]) hx hb dX7_letOut_5 hl (by decide) rfl (fun ls hl => ?_)
  suffices LOOP_2 : ∀ (n_2 : Nat) (x4_2 : Int32) (x3_2 : Int32) (H : Heap) (locs : List Loc) (ls : Array Slot), 12 - x4_2.toInt < (n_2 : Int) → (1 ≤ x4_2.toInt) → (x4_2.toInt ≤ 12) → va_P D vwCl [(xh, .inr (7, [.ref xc, .int u1, .int u2, .int u3, .int u4, .int u5, .int u6, .int u7, .int u8])), (xc, .inr (0, [.ref xn, .ref xk, .ref clo, .ref cro, .ref c4, .ref c5, .ref c6, .ref c7, .ref c8])), (xn, .inr (3, [.int vp, .int vn, .ref n1, .ref n2, .ref n3, .ref n4, .ref n5])), (clo, .inl (cy 6, 12, .inr (.inr (.inr (.inr (gf_ rl)))))), ((rl 0), .inl (cy 0, 12, .inl (Ml 0))), ((rl 1), .inl (cy 0, 12, .inl (Ml 1))), ((rl 2), .inl (cy 0, 12, .inl (Ml 2))), ((rl 3), .inl (cy 0, 12, .inl (Ml 3))), ((rl 4), .inl (cy 0, 12, .inl (Ml 4))), ((rl 5), .inl (cy 0, 12, .inl (Ml 5))), ((rl 6), .inl (cy 0, 12, .inl (Ml 6))), ((rl 7), .inl (cy 0, 12, .inl (Ml 7))), ((rl 8), .inl (cy 0, 12, .inl (Ml 8))), ((rl 9), .inl (cy 0, 12, .inl (Ml 9))), ((rl 10), .inl (cy 0, 12, .inl (Ml 10))), ((rl 11), .inl (cy 0, 12, .inl (Ml 11)))] H → va_S A s.heap H locs → lv_has ls 5 [(4, .int x4_2), (3, .int x3_2), (0, .ref xh), (1, .int a1), (2, .int a2)] → W p l e ({ frames := 0, cells := 0, slots := 0, locals := 0 } : Room) s m (([.ref xh, .int a1, .int a2] : List Value).toArray) below meth c H locs 0 0 Q (F0 m 7 ls []) from LOOP_2 ((12 - y_1.toInt).toNat + 1) y_1 (0 : Int32) _ _ _ (by omega) (by first | with_reducible assumption | assumption | omega) (by first | with_reducible assumption | assumption | omega) hP  hS (lv_sub hl [0, 1, 2, 3, 4] rfl)
  intro n_2
  induction n_2 with
  | zero =>
    intro x4_2 x3_2 H locs ls hm v0_2 v1_2 hP hS hl
    exact absurd hm (by omega)
  | succ n_2 ih_2 =>
    intro x4_2 x3_2 H locs ls hm v0_2 v1_2 hP hS hl
    refine lv_iload hx hb dX7_letOut_7 (lv_at hl 0 rfl) ?_
    refine lv_aload_n hx hb dX7_letOut_9 rfl (lv_at hl 2 rfl) ?_
    refine va_get (ci := 7) (v := .ref xc) (C := RX7) (T := TX7) (N := 9) hx hb hts (fun _ h => List.mem_cons_of_mem _ (List.mem_append_left _ (List.mem_append_left _ (List.mem_append_right _ h)))) hown hK.1 hP 0 rfl rfl 0 (by decide) (hts (.fieldLink RX7 9 "CutAtlas$SetHunt" "current" "LCutAtlas$Current;") (by decide +kernel)) (fun _ h9 => h9) rfl dX7_letOut_10 ?_
    refine va_get (ci := 0) (v := .ref xn) (C := RX0) (T := TX0) (N := 9) hx hb hts (fun _ h => List.mem_cons_of_mem _ (List.mem_append_left _ (List.mem_append_right _ h))) hown hK.1 hP 1 rfl rfl 0 (by decide) (hts (.fieldLink RX7 39 "CutAtlas$Current" "net" "LCutAtlas$Net;") (by decide +kernel)) (fun _ h9 => h9) rfl dX7_letOut_13 ?_
    refine va_get (ci := 3) (v := .int vp) (C := RX3) (T := TX3) (N := 7) hx hb hts (fun _ h => List.mem_cons_of_mem _ (List.mem_append_right _ h)) hown hK.1 hP 2 rfl rfl 0 (by decide) (hts (.fieldLink RX7 45 "CutAtlas$Net" "places" "I") (by decide +kernel)) (fun _ h9 => h9) rfl dX7_letOut_16 ?_
    refine lv_icmp_ge (tgt := 52) hx hb dX7_letOut_19 (by decide) (fun c_3 => ?_) (fun c_3 => ?_)
    · have t_3 : vp.toInt ≤ x4_2.toInt := Int32.le_iff_toInt_le.mp c_3
      refine lv_iload_n hx hb dX7_letOut_52 rfl (lv_at hl 1 rfl) ?_
      rw [hQ]
      exact W.iret (v := x3_2) hx hb hr (fun t ht hW => ⟨⟨x3_2, (), rfl, trivial, trivial⟩, hS.F ht⟩) hS.2.2 dX7_letOut_53
    · have t_3 : ¬ vp.toInt ≤ x4_2.toInt := fun h => c_3 (Int32.le_iff_toInt_le.mpr h)
      refine lv_iload_n hx hb dX7_letOut_22 rfl (lv_at hl 4 rfl) ?_
      refine lv_iload hx hb dX7_letOut_23 (lv_at hl 0 rfl) ?_
      refine lv_ishr hx hb dX7_letOut_25 ?_
      refine lv_topi (fun y_4 ey_4 => ?_)
      refine lv_iconst (v := 1) hx hb dX7_letOut_26 (by decide) ?_
      refine lv_iand hx hb dX7_letOut_27 ?_
      refine lv_topi (fun y_5 ey_5 => ?_)
      refine lv_if_ne (tgt := 46) hx hb dX7_letOut_28 (by decide) (fun c_6 => ?_) (fun c_6 => ?_)
      · have t_6 : ¬ y_5.toInt = (0 : Int32).toInt := fun h => c_6 (Int32.toInt_inj.mp h)
        obtain ⟨y_7, ey_7⟩ : ∃ y : Int32, y = x4_2 + 1 := ⟨_, rfl⟩
        have ty_7 : y_7.toInt = x4_2.toInt + (1 : Int32).toInt := by rw [ey_7]; exact addI (by omega) (by omega)
        refine lv_iinc (v := y_7) (lv' := [(4, .int y_7), (3, .int x3_2), (0, .ref xh), (1, .int a1), (2, .int a2)]) hx hb dX7_letOut_46 hl (k := 0) rfl (by rw [ey_7]; rfl) (by decide) rfl (fun ls hl => ?_)
        refine lv_goto (tgt := 7) hx hb dX7_letOut_49 (by decide) ?_
        exact ih_2 y_7 x3_2 _ _ _ (by omega) (by first | with_reducible assumption | assumption | omega) (by first | with_reducible assumption | assumption | omega) hP  hS (lv_sub hl [0, 1, 2, 3, 4] rfl)
      · have t_6 : y_5.toInt = (0 : Int32).toInt := congrArg Int32.toInt c_6
        refine lv_iload_n hx hb dX7_letOut_31 rfl (lv_at hl 1 rfl) ?_
        refine lv_aload_n hx hb dX7_letOut_32 rfl (lv_at hl 2 rfl) ?_
        refine va_get (ci := 7) (v := .ref xc) (C := RX7) (T := TX7) (N := 9) hx hb hts (fun _ h => List.mem_cons_of_mem _ (List.mem_append_left _ (List.mem_append_left _ (List.mem_append_right _ h)))) hown hK.1 hP 0 rfl rfl 0 (by decide) (hts (.fieldLink RX7 9 "CutAtlas$SetHunt" "current" "LCutAtlas$Current;") (by decide +kernel)) (fun _ h9 => h9) rfl dX7_letOut_33 ?_
        refine va_get (ci := 0) (v := .ref clo) (C := RX0) (T := TX0) (N := 9) hx hb hts (fun _ h => List.mem_cons_of_mem _ (List.mem_append_left _ (List.mem_append_right _ h))) hown hK.1 hP 1 rfl rfl 2 (by decide) (hts (.fieldLink RX7 65 "CutAtlas$Current" "lets" "[[I") (by decide +kernel)) (fun _ h9 => h9) rfl dX7_letOut_36 ?_
        refine lv_iload_n hx hb dX7_letOut_39 rfl (lv_at hl 3 rfl) ?_
        have h_8 : vp_in a1 12 := in_I (by omega) (by omega)
        refine va_alda hx hb hG hP 3 rfl (i := a1) h_8 dX7_letOut_40 ?_
        refine lv_topv (v' := .ref (rl a1.toNatClampNeg)) (gf_at h_8) ?_
        refine lv_iload hx hb dX7_letOut_41 (lv_at hl 0 rfl) ?_
        have h_9 : vp_in x4_2 12 := in_I (by omega) (by omega)
        have hPg : va_P D vwCl (([(xh, .inr (7, [.ref xc, .int u1, .int u2, .int u3, .int u4, .int u5, .int u6, .int u7, .int u8])), (xc, .inr (0, [.ref xn, .ref xk, .ref clo, .ref cro, .ref c4, .ref c5, .ref c6, .ref c7, .ref c8])), (xn, .inr (3, [.int vp, .int vn, .ref n1, .ref n2, .ref n3, .ref n4, .ref n5])), (clo, .inl (cy 6, 12, .inr (.inr (.inr (.inr (gf_ rl))))))] : va_W) ++ (gro (cy 0) rl Ml ++ ([] : va_W))) H := hP
        refine va_gld (X := [(xh, .inr (7, [.ref xc, .int u1, .int u2, .int u3, .int u4, .int u5, .int u6, .int u7, .int u8])), (xc, .inr (0, [.ref xn, .ref xk, .ref clo, .ref cro, .ref c4, .ref c5, .ref c6, .ref c7, .ref c8])), (xn, .inr (3, [.int vp, .int vn, .ref n1, .ref n2, .ref n3, .ref n4, .ref n5])), (clo, .inl (cy 6, 12, .inr (.inr (.inr (.inr (gf_ rl))))))]) (Y := []) (r := rl) (M := Ml) (k := a1.toNatClampNeg) hx hb hK.1 hPg 0 rfl (in_lt h_8) (i := x4_2) h_9 dX7_letOut_43 ?_
        refine lv_topi (fun y_10 ey_10 => ?_)
        refine lv_iadd hx hb dX7_letOut_44 ?_
        refine lv_topi (fun y_11 ey_11 => ?_)
        refine lv_istore_n (lv' := [(3, .int y_11), (4, .int x4_2), (0, .ref xh), (1, .int a1), (2, .int a2)]) hx hb dX7_letOut_45 rfl hl (by decide) rfl (fun ls hl => ?_)
        obtain ⟨y_12, ey_12⟩ : ∃ y : Int32, y = x4_2 + 1 := ⟨_, rfl⟩
        have ty_12 : y_12.toInt = x4_2.toInt + (1 : Int32).toInt := by rw [ey_12]; exact addI (by omega) (by omega)
        refine lv_iinc (v := y_12) (lv' := [(4, .int y_12), (3, .int y_11), (0, .ref xh), (1, .int a1), (2, .int a2)]) hx hb dX7_letOut_46 hl (k := 1) rfl (by rw [ey_12]; rfl) (by decide) rfl (fun ls hl => ?_)
        refine lv_goto (tgt := 7) hx hb dX7_letOut_49 (by decide) ?_
        exact ih_2 y_12 y_11 _ _ _ (by omega) (by first | with_reducible assumption | assumption | omega) (by first | with_reducible assumption | assumption | omega) hP  hS (lv_sub hl [0, 1, 2, 3, 4] rfl)

set_option maxHeartbeats 4000000 in
set_option maxRecDepth 100000 in
theorem c_X7_meet (l : Launch) (D : va_G) (cy : Nat → ClassId) (sz : Nat) (xh : Nat) (u1 : Int32) (u2 : Int32) (u3 : Int32) (u4 : Int32) (u5 : Int32) (u6 : Int32) (u7 : Int32) (u8 : Int32) (xc : Nat) (a1 : Int32) (a2 : Int32) : Met l yX7_meet wsX7_meet ({ frames := 0, cells := 0, slots := 0, locals := 0 }) (va_Pc [.ref xh, .int a1, .int a2] (fun U => U.heap.size = sz ∧ va_P D vwCl [(xh, .inr (7, [.ref xc, .int u1, .int u2, .int u3, .int u4, .int u5, .int u6, .int u7, .int u8]))] U.heap ∧ kk_ D cy U ∧ va_D (fun _ => True) [(xh, .inr (7, [.ref xc, .int u1, .int u2, .int u3, .int u4, .int u5, .int u6, .int u7, .int u8]))])) (va_Qv (fun (_ : Unit) => True) (fun (_ : Unit) (t : State) => ∃ (v5 : Int32), ∃ (v6 : Int32), va_P D vwCl [(xh, .inr (7, [.ref xc, .int u1, .int u2, .int u3, .int u4, .int v5, .int v6, .int u7, .int u8]))] t.heap ∧ va_D (va_A [(xh, .inr (7, [.ref xc, .int u1, .int u2, .int u3, .int u4, .int u5, .int u6, .int u7, .int u8]))] sz) [(xh, .inr (7, [.ref xc, .int u1, .int u2, .int u3, .int u4, .int v5, .int v6, .int u7, .int u8]))]) (va_A [(xh, .inr (7, [.ref xc, .int u1, .int u2, .int u3, .int u4, .int u5, .int u6, .int u7, .int u8]))] sz)) 0 0 (va_A [(xh, .inr (7, [.ref xc, .int u1, .int u2, .int u3, .int u4, .int u5, .int u6, .int u7, .int u8]))] sz) := by
  refine ofQ (cc := cX7_meet) (maxL := 3) (ret := none) (by decide) rfl ?_
  intro p e s m args below meth c s₁ Q hQ B hml hv
  obtain ⟨rfl, hsz, hP, hK, hD0⟩ := hv
  have hx := B.exec
  have hb := B.bytes
  have hr := B.returns
  have hts := atoms_spec (ws := wsX7_meet) B.pre
  have hown : s.vm.findClass RX7 = some m.cls := by have h_ := findClass_of_methodNamed B.named; exact h_
  have hlocks := B.notSynchronized
  subst hsz
  have hD := hD0.self (sz := s.heap.size)
  generalize hAe : va_A [(xh, .inr (7, [.ref xc, .int u1, .int u2, .int u3, .int u4, .int u5, .int u6, .int u7, .int u8]))] s.heap.size = A at hD hQ
  have hA : ∀ q : Nat, s.heap.size ≤ q → A q := fun q h => by rw [← hAe]; exact Or.inr h
  have hS : va_S A s.heap s.heap [] := va_S.rf
  have hl := lv_entry ([.ref xh, .int a1, .int a2]) (n := 3) (Nat.le_of_ble_eq_true rfl)
  rw [lg_entry_eq]
  generalize (lg_sl ([.ref xh, .int a1, .int a2]) ++ List.replicate (3 - (lg_sl ([.ref xh, .int a1, .int a2])).length) Slot.unset).toArray = ls at hl ⊢
  have hl : lv_has ls 3 [(0, .ref xh), (1, .int a1), (2, .int a2)] := hl
  have z0 : (0 : Int32).toInt = 0 := by decide
  have z1 : (1 : Int32).toInt = 1 := by decide
  refine lv_iload_n hx hb dX7_meet_0 rfl (lv_at hl 2 rfl) ?_
  refine lv_aload_n hx hb dX7_meet_1 rfl (lv_at hl 0 rfl) ?_
  refine va_get (ci := 7) (v := .int u3) (C := RX7) (T := TX7) (N := 9) hx hb hts (fun _ h => List.mem_cons_of_mem _ (List.mem_append_right _ h)) hown hK.1 hP 0 rfl rfl 3 (by decide) (hts (.fieldLink RX7 33 "CutAtlas$SetHunt" "aim" "I") (by decide +kernel)) (fun _ h9 => h9) rfl dX7_meet_2 ?_
  refine lv_icmp_ne (tgt := 12) hx hb dX7_meet_5 (by decide) (fun c_1 => ?_) (fun c_1 => ?_)
  · have t_1 : ¬ a2.toInt = u3.toInt := fun h => c_1 (Int32.toInt_inj.mp h)
    have hP9 := hP.sub (ws' := [(xh, .inr (7, [.ref xc, .int u1, .int u2, .int u3, .int u4, .int u5, .int u6, .int u7, .int u8]))]) [0] rfl
    have hD9 := hD.sub (ws' := [(xh, .inr (7, [.ref xc, .int u1, .int u2, .int u3, .int u4, .int u5, .int u6, .int u7, .int u8]))]) [0] (by decide) rfl
    rw [hQ]
    exact W.vret hx hb hr (fun t ht hW => ⟨⟨(), rfl, trivial, u5, u6, by rw [ht]; exact hP9, hD9⟩, hS.F ht⟩) hS.2.2 dX7_meet_12
  · have t_1 : a2.toInt = u3.toInt := congrArg Int32.toInt c_1
    refine lv_iload_n hx hb dX7_meet_8 rfl (lv_at hl 1 rfl) ?_
    refine lv_if_ne (tgt := 13) hx hb dX7_meet_9 (by decide) (fun c_2 => ?_) (fun c_2 => ?_)
    · have t_2 : ¬ a1.toInt = (0 : Int32).toInt := fun h => c_2 (Int32.toInt_inj.mp h)
      refine lv_aload_n hx hb dX7_meet_13 rfl (lv_at hl 0 rfl) ?_
      refine va_get (ci := 7) (v := .int u5) (C := RX7) (T := TX7) (N := 9) hx hb hts (fun _ h => List.mem_cons_of_mem _ (List.mem_append_right _ h)) hown hK.1 hP 0 rfl rfl 5 (by decide) (hts (.fieldLink RX7 20 "CutAtlas$SetHunt" "met" "I") (by decide +kernel)) (fun _ h9 => h9) rfl dX7_meet_14 ?_
      refine lv_aload_n hx hb dX7_meet_17 rfl (lv_at hl 0 rfl) ?_
      refine va_get (ci := 7) (v := .int u4) (C := RX7) (T := TX7) (N := 9) hx hb hts (fun _ h => List.mem_cons_of_mem _ (List.mem_append_right _ h)) hown hK.1 hP 0 rfl rfl 4 (by decide) (hts (.fieldLink RX7 36 "CutAtlas$SetHunt" "wanted" "I") (by decide +kernel)) (fun _ h9 => h9) rfl dX7_meet_18 ?_
      refine lv_icmp_ne (tgt := 29) hx hb dX7_meet_21 (by decide) (fun c_3 => ?_) (fun c_3 => ?_)
      · have t_3 : ¬ u5.toInt = u4.toInt := fun h => c_3 (Int32.toInt_inj.mp h)
        refine lv_aload_n hx hb dX7_meet_29 rfl (lv_at hl 0 rfl) ?_
        refine lv_dup hx hb dX7_meet_30 rfl ?_
        refine va_get (ci := 7) (v := .int u5) (C := RX7) (T := TX7) (N := 9) hx hb hts (fun _ h => List.mem_cons_of_mem _ (List.mem_append_right _ h)) hown hK.1 hP 0 rfl rfl 5 (by decide) (hts (.fieldLink RX7 20 "CutAtlas$SetHunt" "met" "I") (by decide +kernel)) (fun _ h9 => h9) rfl dX7_meet_31 ?_
        refine lv_iconst (v := 1) hx hb dX7_meet_34 (by decide) ?_
        refine lv_iadd hx hb dX7_meet_35 ?_
        refine lv_topi (fun y_4 ey_4 => ?_)
        refine va_put (ci := 7) (v := .int y_4) (ty := .int) (C := RX7) (T := TX7) (N := 9) hx hb hts (fun _ h => List.mem_cons_of_mem _ (List.mem_append_right _ h)) tyX7 tyX7_ok nmX7 hown hK.1 hP hD hS 0 rfl rfl 5 (by decide) (hts (.fieldLink RX7 20 "CutAtlas$SetHunt" "met" "I") (by decide +kernel)) (fun _ h9 => h9) rfl (by decide +kernel) rfl rfl (Nat.le_of_ble_eq_true rfl) dX7_meet_36 (fun H locs hP hD hS => ?_)
        refine pd_K [(xh, .inr (7, [.ref xc, .int u1, .int u2, .int u3, .int u4, .int y_4, .int u6, .int u7, .int u8]))] hP hD (fun hP hD => ?_)
        have hP9 := hP.sub (ws' := [(xh, .inr (7, [.ref xc, .int u1, .int u2, .int u3, .int u4, .int y_4, .int u6, .int u7, .int u8]))]) [0] rfl
        have hD9 := hD.sub (ws' := [(xh, .inr (7, [.ref xc, .int u1, .int u2, .int u3, .int u4, .int y_4, .int u6, .int u7, .int u8]))]) [0] (by decide) rfl
        rw [hQ]
        exact W.vret hx hb hr (fun t ht hW => ⟨⟨(), rfl, trivial, y_4, u6, by rw [ht]; exact hP9, hD9⟩, hS.F ht⟩) hS.2.2 dX7_meet_39
      · have t_3 : u5.toInt = u4.toInt := congrArg Int32.toInt c_3
        refine lv_aload_n hx hb dX7_meet_24 rfl (lv_at hl 0 rfl) ?_
        refine lv_iload_n hx hb dX7_meet_25 rfl (lv_at hl 1 rfl) ?_
        refine va_put (ci := 7) (v := .int a1) (ty := .int) (C := RX7) (T := TX7) (N := 9) hx hb hts (fun _ h => List.mem_cons_of_mem _ (List.mem_append_right _ h)) tyX7 tyX7_ok nmX7 hown hK.1 hP hD hS 0 rfl rfl 6 (by decide) (hts (.fieldLink RX7 24 "CutAtlas$SetHunt" "found" "I") (by decide +kernel)) (fun _ h9 => h9) rfl (by decide +kernel) rfl rfl (Nat.le_of_ble_eq_true rfl) dX7_meet_26 (fun H locs hP hD hS => ?_)
        refine pd_K [(xh, .inr (7, [.ref xc, .int u1, .int u2, .int u3, .int u4, .int u5, .int a1, .int u7, .int u8]))] hP hD (fun hP hD => ?_)
        refine lv_aload_n hx hb dX7_meet_29 rfl (lv_at hl 0 rfl) ?_
        refine lv_dup hx hb dX7_meet_30 rfl ?_
        refine va_get (ci := 7) (v := .int u5) (C := RX7) (T := TX7) (N := 9) hx hb hts (fun _ h => List.mem_cons_of_mem _ (List.mem_append_right _ h)) hown hK.1 hP 0 rfl rfl 5 (by decide) (hts (.fieldLink RX7 20 "CutAtlas$SetHunt" "met" "I") (by decide +kernel)) (fun _ h9 => h9) rfl dX7_meet_31 ?_
        refine lv_iconst (v := 1) hx hb dX7_meet_34 (by decide) ?_
        refine lv_iadd hx hb dX7_meet_35 ?_
        refine lv_topi (fun y_5 ey_5 => ?_)
        refine va_put (ci := 7) (v := .int y_5) (ty := .int) (C := RX7) (T := TX7) (N := 9) hx hb hts (fun _ h => List.mem_cons_of_mem _ (List.mem_append_right _ h)) tyX7 tyX7_ok nmX7 hown hK.1 hP hD hS 0 rfl rfl 5 (by decide) (hts (.fieldLink RX7 20 "CutAtlas$SetHunt" "met" "I") (by decide +kernel)) (fun _ h9 => h9) rfl (by decide +kernel) rfl rfl (Nat.le_of_ble_eq_true rfl) dX7_meet_36 (fun H locs hP hD hS => ?_)
        refine pd_K [(xh, .inr (7, [.ref xc, .int u1, .int u2, .int u3, .int u4, .int y_5, .int a1, .int u7, .int u8]))] hP hD (fun hP hD => ?_)
        have hP9 := hP.sub (ws' := [(xh, .inr (7, [.ref xc, .int u1, .int u2, .int u3, .int u4, .int y_5, .int a1, .int u7, .int u8]))]) [0] rfl
        have hD9 := hD.sub (ws' := [(xh, .inr (7, [.ref xc, .int u1, .int u2, .int u3, .int u4, .int y_5, .int a1, .int u7, .int u8]))]) [0] (by decide) rfl
        rw [hQ]
        exact W.vret hx hb hr (fun t ht hW => ⟨⟨(), rfl, trivial, y_5, a1, by rw [ht]; exact hP9, hD9⟩, hS.F ht⟩) hS.2.2 dX7_meet_39
    · have t_2 : a1.toInt = (0 : Int32).toInt := congrArg Int32.toInt c_2
      have hP9 := hP.sub (ws' := [(xh, .inr (7, [.ref xc, .int u1, .int u2, .int u3, .int u4, .int u5, .int u6, .int u7, .int u8]))]) [0] rfl
      have hD9 := hD.sub (ws' := [(xh, .inr (7, [.ref xc, .int u1, .int u2, .int u3, .int u4, .int u5, .int u6, .int u7, .int u8]))]) [0] (by decide) rfl
      rw [hQ]
      exact W.vret hx hb hr (fun t ht hW => ⟨⟨(), rfl, trivial, u5, u6, by rw [ht]; exact hP9, hD9⟩, hS.F ht⟩) hS.2.2 dX7_meet_12

set_option maxHeartbeats 4000000 in
set_option maxRecDepth 100000 in
theorem c_X7_compareDense (l : Launch) (D : va_G) (cy : Nat → ClassId) (sz : Nat) (xh : Nat) (u1 : Int32) (u2 : Int32) (u3 : Int32) (u4 : Int32) (u5 : Int32) (u6 : Int32) (u7 : Int32) (u8 : Int32) (xc : Nat) (a1 : Int32) (a2 : Int32) : Met l yX7_compareDense wsX7_compareDense ({ frames := 1, cells := 0, slots := 0, locals := 20 }) (va_Pc [.ref xh, .int a1, .int a2] (fun U => U.heap.size = sz ∧ va_P D vwCl [(xh, .inr (7, [.ref xc, .int u1, .int u2, .int u3, .int u4, .int u5, .int u6, .int u7, .int u8]))] U.heap ∧ kk_ D cy U ∧ va_D (fun _ => True) [(xh, .inr (7, [.ref xc, .int u1, .int u2, .int u3, .int u4, .int u5, .int u6, .int u7, .int u8]))])) (va_Qv (fun (_ : Unit) => True) (fun (_ : Unit) (t : State) => ∃ (v7 : Int32), ∃ (v8 : Int32), va_P D vwCl [(xh, .inr (7, [.ref xc, .int u1, .int u2, .int u3, .int u4, .int u5, .int u6, .int v7, .int v8]))] t.heap ∧ va_D (va_A [(xh, .inr (7, [.ref xc, .int u1, .int u2, .int u3, .int u4, .int u5, .int u6, .int u7, .int u8]))] sz) [(xh, .inr (7, [.ref xc, .int u1, .int u2, .int u3, .int u4, .int u5, .int u6, .int v7, .int v8]))]) (va_A [(xh, .inr (7, [.ref xc, .int u1, .int u2, .int u3, .int u4, .int u5, .int u6, .int u7, .int u8]))] sz)) 0 0 (va_A [(xh, .inr (7, [.ref xc, .int u1, .int u2, .int u3, .int u4, .int u5, .int u6, .int u7, .int u8]))] sz) := by
  refine ofQ (cc := cX7_compareDense) (maxL := 7) (ret := none) (by decide) rfl ?_
  intro p e s m args below meth c s₁ Q hQ B hml hv
  obtain ⟨rfl, hsz, hP, hK, hD0⟩ := hv
  have hx := B.exec
  have hb := B.bytes
  have hr := B.returns
  have hts := atoms_spec (ws := wsX7_compareDense) B.pre
  have hown : s.vm.findClass RX7 = some m.cls := by have h_ := findClass_of_methodNamed B.named; exact h_
  have hlocks := B.notSynchronized
  subst hsz
  have hD := hD0.self (sz := s.heap.size)
  generalize hAe : va_A [(xh, .inr (7, [.ref xc, .int u1, .int u2, .int u3, .int u4, .int u5, .int u6, .int u7, .int u8]))] s.heap.size = A at hD hQ
  have hA : ∀ q : Nat, s.heap.size ≤ q → A q := fun q h => by rw [← hAe]; exact Or.inr h
  have hS : va_S A s.heap s.heap [] := va_S.rf
  have hl := lv_entry ([.ref xh, .int a1, .int a2]) (n := 7) (Nat.le_of_ble_eq_true rfl)
  rw [lg_entry_eq]
  generalize (lg_sl ([.ref xh, .int a1, .int a2]) ++ List.replicate (7 - (lg_sl ([.ref xh, .int a1, .int a2])).length) Slot.unset).toArray = ls at hl ⊢
  have hl : lv_has ls 7 [(0, .ref xh), (1, .int a1), (2, .int a2)] := hl
  refine lv_iload_n hx hb dX7_compareDense_0 rfl (lv_at hl 1 rfl) ?_
  refine ct_R hP hD [] [] (by decide) rfl (fun hPc hDw => ?_)
  have hFc := va_free (wc := []) hD hS hA [] rfl
  refine va_calli (va_runS (As := [.int a1]) (rest := []) ⟨hx, hb, hml, hown, hts⟩ (c_J6_bitCount_0f7a4 l D cy s.heap.size a1) (va_cwS 1 hts gX7_compareDense_J6_bitCount_0f7a4 rfl rfl rfl (by decide +kernel) ⟨Nat.le_of_ble_eq_true rfl, Nat.le_of_ble_eq_true rfl⟩) ⟨bl_, fun U hU hW => ⟨rfl, by rw [hU], by rw [hU]; exact hPc, kk_mv hW hK, hDw⟩⟩ rfl rfl hl.1 rfl (lv_room (Nat.le_of_ble_eq_true rfl)) dX7_compareDense_1 ⟨Nat.le_of_ble_eq_true rfl, Nat.le_of_ble_eq_true rfl⟩) hS (fun q _ h => hFc q h) hFc (fun r_1 u t H locs ht hvm hw hB hz1 hk1 hS => ?_)
  have hP : va_P D vwCl _ H := ro_keep hP hk1
  refine lv_istore_n (lv' := [(3, .int r_1), (0, .ref xh), (1, .int a1), (2, .int a2)]) hx hb dX7_compareDense_4 rfl hl (by decide) rfl (fun ls hl => ?_)
  refine lv_aload_n hx hb dX7_compareDense_5 rfl (lv_at hl 1 rfl) ?_
  refine va_get (ci := 7) (v := .int u7) (C := RX7) (T := TX7) (N := 9) hx hb hts (fun _ h => List.mem_cons_of_mem _ (List.mem_append_right _ h)) hown hK.1 hP 0 rfl rfl 7 (by decide) (hts (.fieldLink RX7 69 "CutAtlas$SetHunt" "denseSet" "I") (by decide +kernel)) (fun _ h9 => h9) rfl dX7_compareDense_6 ?_
  refine ct_R hP hD [] [] (by decide) rfl (fun hPc hDw => ?_)
  have hFc := va_free (wc := []) hD hS hA [] rfl
  refine va_calli (va_runS (As := [.int u7]) (rest := []) ⟨hx, hb, hml, hown, hts⟩ (c_J6_bitCount_0f7a4 l D cy H.size u7) (va_cwS 1 hts gX7_compareDense_J6_bitCount_0f7a4 rfl rfl rfl (by decide +kernel) ⟨Nat.le_of_ble_eq_true rfl, Nat.le_of_ble_eq_true rfl⟩) ⟨bl_, fun U hU hW => ⟨rfl, by rw [hU], by rw [hU]; exact hPc, kk_mv hW hK, hDw⟩⟩ rfl rfl hl.1 rfl (lv_room (Nat.le_of_ble_eq_true rfl)) dX7_compareDense_9 ⟨Nat.le_of_ble_eq_true rfl, Nat.le_of_ble_eq_true rfl⟩) hS (fun q _ h => hFc q h) hFc (fun r_2 u t H locs ht hvm hw hB hz1 hk1 hS => ?_)
  have hP : va_P D vwCl _ H := ro_keep hP hk1
  refine lv_istore (lv' := [(4, .int r_2), (3, .int r_1), (0, .ref xh), (1, .int a1), (2, .int a2)]) hx hb dX7_compareDense_12 hl (by decide) rfl (fun ls hl => ?_)
  refine lv_iload_n hx hb dX7_compareDense_14 rfl (lv_at hl 4 rfl) ?_
  refine lv_iload hx hb dX7_compareDense_15 (lv_at hl 0 rfl) ?_
  refine lv_imul hx hb dX7_compareDense_17 ?_
  refine lv_topi (fun y_3 ey_3 => ?_)
  refine lv_istore (lv' := [(5, .int y_3), (4, .int r_2), (3, .int r_1), (0, .ref xh), (1, .int a1), (2, .int a2)]) hx hb dX7_compareDense_18 hl (by decide) rfl (fun ls hl => ?_)
  refine lv_aload_n hx hb dX7_compareDense_20 rfl (lv_at hl 3 rfl) ?_
  refine va_get (ci := 7) (v := .int u8) (C := RX7) (T := TX7) (N := 9) hx hb hts (fun _ h => List.mem_cons_of_mem _ (List.mem_append_right _ h)) hown hK.1 hP 0 rfl rfl 8 (by decide) (hts (.fieldLink RX7 72 "CutAtlas$SetHunt" "denseSum" "I") (by decide +kernel)) (fun _ h9 => h9) rfl dX7_compareDense_21 ?_
  refine lv_iload_n hx hb dX7_compareDense_24 rfl (lv_at hl 2 rfl) ?_
  refine lv_imul hx hb dX7_compareDense_25 ?_
  refine lv_topi (fun y_4 ey_4 => ?_)
  refine lv_istore (lv' := [(6, .int y_4), (5, .int y_3), (4, .int r_2), (3, .int r_1), (0, .ref xh), (1, .int a1), (2, .int a2)]) hx hb dX7_compareDense_26 hl (by decide) rfl (fun ls hl => ?_)
  refine lv_iload hx hb dX7_compareDense_28 (lv_at hl 1 rfl) ?_
  refine lv_iload hx hb dX7_compareDense_30 (lv_at hl 0 rfl) ?_
  refine lv_icmp_gt (tgt := 48) hx hb dX7_compareDense_32 (by decide) (fun c_5 => ?_) (fun c_5 => ?_)
  · have t_5 : y_4.toInt < y_3.toInt := Int32.lt_iff_toInt_lt.mp c_5
    refine lv_aload_n hx hb dX7_compareDense_48 rfl (lv_at hl 4 rfl) ?_
    refine lv_iload_n hx hb dX7_compareDense_49 rfl (lv_at hl 5 rfl) ?_
    refine va_put (ci := 7) (v := .int a1) (ty := .int) (C := RX7) (T := TX7) (N := 9) hx hb hts (fun _ h => List.mem_cons_of_mem _ (List.mem_append_right _ h)) tyX7 tyX7_ok nmX7 hown hK.1 hP hD hS 0 rfl rfl 7 (by decide) (hts (.fieldLink RX7 69 "CutAtlas$SetHunt" "denseSet" "I") (by decide +kernel)) (fun _ h9 => h9) rfl (by decide +kernel) rfl rfl (Nat.le_of_ble_eq_true rfl) dX7_compareDense_50 (fun H locs hP hD hS => ?_)
    refine pd_K [(xh, .inr (7, [.ref xc, .int u1, .int u2, .int u3, .int u4, .int u5, .int u6, .int a1, .int u8]))] hP hD (fun hP hD => ?_)
    refine lv_aload_n hx hb dX7_compareDense_53 rfl (lv_at hl 4 rfl) ?_
    refine lv_iload_n hx hb dX7_compareDense_54 rfl (lv_at hl 6 rfl) ?_
    refine va_put (ci := 7) (v := .int a2) (ty := .int) (C := RX7) (T := TX7) (N := 9) hx hb hts (fun _ h => List.mem_cons_of_mem _ (List.mem_append_right _ h)) tyX7 tyX7_ok nmX7 hown hK.1 hP hD hS 0 rfl rfl 8 (by decide) (hts (.fieldLink RX7 72 "CutAtlas$SetHunt" "denseSum" "I") (by decide +kernel)) (fun _ h9 => h9) rfl (by decide +kernel) rfl rfl (Nat.le_of_ble_eq_true rfl) dX7_compareDense_55 (fun H locs hP hD hS => ?_)
    refine pd_K [(xh, .inr (7, [.ref xc, .int u1, .int u2, .int u3, .int u4, .int u5, .int u6, .int a1, .int a2]))] hP hD (fun hP hD => ?_)
    have hP9 := hP.sub (ws' := [(xh, .inr (7, [.ref xc, .int u1, .int u2, .int u3, .int u4, .int u5, .int u6, .int a1, .int a2]))]) [0] rfl
    have hD9 := hD.sub (ws' := [(xh, .inr (7, [.ref xc, .int u1, .int u2, .int u3, .int u4, .int u5, .int u6, .int a1, .int a2]))]) [0] (by decide) rfl
    rw [hQ]
    exact W.vret hx hb hr (fun t ht hW => ⟨⟨(), rfl, trivial, a1, a2, by rw [ht]; exact hP9, hD9⟩, hS.F ht⟩) hS.2.2 dX7_compareDense_58
  · have t_5 : ¬ y_4.toInt < y_3.toInt := fun h => c_5 (Int32.lt_iff_toInt_lt.mpr h)
    refine lv_iload hx hb dX7_compareDense_35 (lv_at hl 1 rfl) ?_
    refine lv_iload hx hb dX7_compareDense_37 (lv_at hl 0 rfl) ?_
    refine lv_icmp_ne (tgt := 58) hx hb dX7_compareDense_39 (by decide) (fun c_6 => ?_) (fun c_6 => ?_)
    · have t_6 : ¬ y_3.toInt = y_4.toInt := fun h => c_6 (Int32.toInt_inj.mp h)
      have hP9 := hP.sub (ws' := [(xh, .inr (7, [.ref xc, .int u1, .int u2, .int u3, .int u4, .int u5, .int u6, .int u7, .int u8]))]) [0] rfl
      have hD9 := hD.sub (ws' := [(xh, .inr (7, [.ref xc, .int u1, .int u2, .int u3, .int u4, .int u5, .int u6, .int u7, .int u8]))]) [0] (by decide) rfl
      rw [hQ]
      exact W.vret hx hb hr (fun t ht hW => ⟨⟨(), rfl, trivial, u7, u8, by rw [ht]; exact hP9, hD9⟩, hS.F ht⟩) hS.2.2 dX7_compareDense_58
    · have t_6 : y_3.toInt = y_4.toInt := congrArg Int32.toInt c_6
      refine lv_iload_n hx hb dX7_compareDense_42 rfl (lv_at hl 3 rfl) ?_
      refine lv_iload hx hb dX7_compareDense_43 (lv_at hl 2 rfl) ?_
      refine lv_icmp_le (tgt := 58) hx hb dX7_compareDense_45 (by decide) (fun c_7 => ?_) (fun c_7 => ?_)
      · have t_7 : r_1.toInt ≤ r_2.toInt := Int32.le_iff_toInt_le.mp c_7
        have hP9 := hP.sub (ws' := [(xh, .inr (7, [.ref xc, .int u1, .int u2, .int u3, .int u4, .int u5, .int u6, .int u7, .int u8]))]) [0] rfl
        have hD9 := hD.sub (ws' := [(xh, .inr (7, [.ref xc, .int u1, .int u2, .int u3, .int u4, .int u5, .int u6, .int u7, .int u8]))]) [0] (by decide) rfl
        rw [hQ]
        exact W.vret hx hb hr (fun t ht hW => ⟨⟨(), rfl, trivial, u7, u8, by rw [ht]; exact hP9, hD9⟩, hS.F ht⟩) hS.2.2 dX7_compareDense_58
      · have t_7 : ¬ r_1.toInt ≤ r_2.toInt := fun h => c_7 (Int32.le_iff_toInt_le.mpr h)
        refine lv_aload_n hx hb dX7_compareDense_48 rfl (lv_at hl 4 rfl) ?_
        refine lv_iload_n hx hb dX7_compareDense_49 rfl (lv_at hl 5 rfl) ?_
        refine va_put (ci := 7) (v := .int a1) (ty := .int) (C := RX7) (T := TX7) (N := 9) hx hb hts (fun _ h => List.mem_cons_of_mem _ (List.mem_append_right _ h)) tyX7 tyX7_ok nmX7 hown hK.1 hP hD hS 0 rfl rfl 7 (by decide) (hts (.fieldLink RX7 69 "CutAtlas$SetHunt" "denseSet" "I") (by decide +kernel)) (fun _ h9 => h9) rfl (by decide +kernel) rfl rfl (Nat.le_of_ble_eq_true rfl) dX7_compareDense_50 (fun H locs hP hD hS => ?_)
        refine pd_K [(xh, .inr (7, [.ref xc, .int u1, .int u2, .int u3, .int u4, .int u5, .int u6, .int a1, .int u8]))] hP hD (fun hP hD => ?_)
        refine lv_aload_n hx hb dX7_compareDense_53 rfl (lv_at hl 4 rfl) ?_
        refine lv_iload_n hx hb dX7_compareDense_54 rfl (lv_at hl 6 rfl) ?_
        refine va_put (ci := 7) (v := .int a2) (ty := .int) (C := RX7) (T := TX7) (N := 9) hx hb hts (fun _ h => List.mem_cons_of_mem _ (List.mem_append_right _ h)) tyX7 tyX7_ok nmX7 hown hK.1 hP hD hS 0 rfl rfl 8 (by decide) (hts (.fieldLink RX7 72 "CutAtlas$SetHunt" "denseSum" "I") (by decide +kernel)) (fun _ h9 => h9) rfl (by decide +kernel) rfl rfl (Nat.le_of_ble_eq_true rfl) dX7_compareDense_55 (fun H locs hP hD hS => ?_)
        refine pd_K [(xh, .inr (7, [.ref xc, .int u1, .int u2, .int u3, .int u4, .int u5, .int u6, .int a1, .int a2]))] hP hD (fun hP hD => ?_)
        have hP9 := hP.sub (ws' := [(xh, .inr (7, [.ref xc, .int u1, .int u2, .int u3, .int u4, .int u5, .int u6, .int a1, .int a2]))]) [0] rfl
        have hD9 := hD.sub (ws' := [(xh, .inr (7, [.ref xc, .int u1, .int u2, .int u3, .int u4, .int u5, .int u6, .int a1, .int a2]))]) [0] (by decide) rfl
        rw [hQ]
        exact W.vret hx hb hr (fun t ht hW => ⟨⟨(), rfl, trivial, a1, a2, by rw [ht]; exact hP9, hD9⟩, hS.F ht⟩) hS.2.2 dX7_compareDense_58
