section
set_option maxHeartbeats 4000000 in
set_option maxRecDepth 100000 in
theorem c_J6_bitCount_0f7a4 (l : Launch) (D : va_G) (cy : Nat → ClassId) (sz : Nat) (a1 : Int32) : Met l yJ6_bitCount_0f7a4 wsJ6_bitCount_0f7a4 ({ frames := 0, cells := 0, slots := 0, locals := 0 }) (va_Pc [.int a1] (fun U => U.heap.size = sz ∧ va_P D vwCl [] U.heap ∧ kk_ D cy U ∧ va_D (fun _ => True) [])) (va_Qi (fun (r : Int32) (_ : Unit) => True) (fun (_ : Unit) (_ : State) => True) (va_A [] sz)) 0 0 (va_A [] sz) := by
  refine ofQ (cc := cJ6_bitCount_0f7a4) (maxL := 1) (ret := (some .int)) (by decide) rfl ?_
  intro p e s m args below meth c s₁ Q hQ B hml hv
  obtain ⟨rfl, hsz, hP, hK, hD0⟩ := hv
  have hx := B.exec
  have hb := B.bytes
  have hr := B.returns
  have hts := atoms_spec (ws := wsJ6_bitCount_0f7a4) B.pre
  have hown : s.vm.findClass RJ6 = some m.cls := by have h_ := findClass_of_methodNamed B.named; exact h_
  have hlocks := B.notSynchronized
  subst hsz
  have hD : va_D (va_A [] s.heap.size) [] := dd_nil
  generalize hAe : va_A [] s.heap.size = A at hD hQ
  have hA : ∀ q : Nat, s.heap.size ≤ q → A q := fun q h => by rw [← hAe]; exact Or.inr h
  have hS : va_S A s.heap s.heap [] := va_S.rf
  have hl := lv_entry ([.int a1]) (n := 1) (Nat.le_of_ble_eq_true rfl)
  rw [lg_entry_eq]
  generalize (lg_sl ([.int a1]) ++ List.replicate (1 - (lg_sl ([.int a1])).length) Slot.unset).toArray = ls at hl ⊢
  have hl : lv_has ls 1 [(0, .int a1)] := hl
  refine lv_iload_n hx hb dB_36_4_0.1.1.1.1 rfl (lv_at hl 0 rfl) ?_
  refine lv_iload_n hx hb dB_36_4_0.1.1.1.2 rfl (lv_at hl 0 rfl) ?_
  refine lv_iconst (v := 1) hx hb dB_36_4_0.1.1.2.1 (by decide) ?_
  refine lv_iushr hx hb dB_36_4_0.1.1.2.2 rfl ?_
  refine lv_topi (fun y_1 ey_1 => ?_)
  refine lv_ldcw (v := 1431655765) hx hb hown (hts (.constant RJ6 265 (1431655765)) (List.mem_of_getElem? (i := 1) rfl)) dB_36_4_0.1.2.1.1 ?_
  refine lv_iand hx hb dB_36_4_0.1.2.1.2 ?_
  refine lv_topi (fun y_2 ey_2 => ?_)
  refine lv_isub hx hb dB_36_4_0.1.2.2.1 ?_
  refine lv_topi (fun y_3 ey_3 => ?_)
  refine lv_istore_n (lv' := [(0, .int y_3)]) hx hb dB_36_4_0.1.2.2.2 rfl hl (by decide) rfl (fun ls hl => ?_)
  refine lv_iload_n hx hb dB_36_4_0.2.1.1.1 rfl (lv_at hl 0 rfl) ?_
  refine lv_ldcw (v := 858993459) hx hb hown (hts (.constant RJ6 266 (858993459)) (List.mem_of_getElem? (i := 2) rfl)) dB_36_4_0.2.1.1.2 ?_
  refine lv_iand hx hb dB_36_4_0.2.1.2.1 ?_
  refine lv_topi (fun y_4 ey_4 => ?_)
  refine lv_iload_n hx hb dB_36_4_0.2.1.2.2 rfl (lv_at hl 0 rfl) ?_
  refine lv_iconst (v := 2) hx hb dB_36_4_0.2.2.1.1 (by decide) ?_
  refine lv_iushr hx hb dB_36_4_0.2.2.1.2 rfl ?_
  refine lv_topi (fun y_5 ey_5 => ?_)
  refine lv_ldcw (v := 858993459) hx hb hown (hts (.constant RJ6 266 (858993459)) (List.mem_of_getElem? (i := 2) rfl)) dB_36_4_0.2.2.2.1 ?_
  refine lv_iand hx hb dB_36_4_0.2.2.2.2 ?_
  refine lv_topi (fun y_6 ey_6 => ?_)
  refine lv_iadd hx hb dB_36_4_1.1.1.1.1 ?_
  refine lv_topi (fun y_7 ey_7 => ?_)
  refine lv_istore_n (lv' := [(0, .int y_7)]) hx hb dB_36_4_1.1.1.1.2 rfl hl (by decide) rfl (fun ls hl => ?_)
  refine lv_iload_n hx hb dB_36_4_1.1.1.2.1 rfl (lv_at hl 0 rfl) ?_
  refine lv_iload_n hx hb dB_36_4_1.1.1.2.2 rfl (lv_at hl 0 rfl) ?_
  refine lv_iconst (v := 4) hx hb dB_36_4_1.1.2.1.1 (by decide) ?_
  refine lv_iushr hx hb dB_36_4_1.1.2.1.2 rfl ?_
  refine lv_topi (fun y_8 ey_8 => ?_)
  refine lv_iadd hx hb dB_36_4_1.1.2.2.1 ?_
  refine lv_topi (fun y_9 ey_9 => ?_)
  refine lv_ldcw (v := 252645135) hx hb hown (hts (.constant RJ6 267 (252645135)) (List.mem_of_getElem? (i := 3) rfl)) dB_36_4_1.1.2.2.2 ?_
  refine lv_iand hx hb dB_36_4_1.2.1.1.1 ?_
  refine lv_topi (fun y_10 ey_10 => ?_)
  refine lv_istore_n (lv' := [(0, .int y_10)]) hx hb dB_36_4_1.2.1.1.2 rfl hl (by decide) rfl (fun ls hl => ?_)
  refine lv_iload_n hx hb dB_36_4_1.2.1.2.1 rfl (lv_at hl 0 rfl) ?_
  refine lv_iload_n hx hb dB_36_4_1.2.1.2.2 rfl (lv_at hl 0 rfl) ?_
  refine lv_bipush (v := 8) hx hb dB_36_4_1.2.2.1.1 (by decide) ?_
  refine lv_iushr hx hb dB_36_4_1.2.2.1.2 rfl ?_
  refine lv_topi (fun y_11 ey_11 => ?_)
  refine lv_iadd hx hb dB_36_4_1.2.2.2.1 ?_
  refine lv_topi (fun y_12 ey_12 => ?_)
  refine lv_istore_n (lv' := [(0, .int y_12)]) hx hb dB_36_4_1.2.2.2.2 rfl hl (by decide) rfl (fun ls hl => ?_)
  refine lv_iload_n hx hb dB_36_4_2.1.1.1 rfl (lv_at hl 0 rfl) ?_
  refine lv_iload_n hx hb dB_36_4_2.1.1.2 rfl (lv_at hl 0 rfl) ?_
  refine lv_bipush (v := 16) hx hb dB_36_4_2.1.2.1 (by decide) ?_
  refine lv_iushr hx hb dB_36_4_2.1.2.2.1 rfl ?_
  refine lv_topi (fun y_13 ey_13 => ?_)
  refine lv_iadd hx hb dB_36_4_2.1.2.2.2 ?_
  refine lv_topi (fun y_14 ey_14 => ?_)
  refine lv_istore_n (lv' := [(0, .int y_14)]) hx hb dB_36_4_2.2.1.1 rfl hl (by decide) rfl (fun ls hl => ?_)
  refine lv_iload_n hx hb dB_36_4_2.2.1.2 rfl (lv_at hl 0 rfl) ?_
  refine lv_bipush (v := 63) hx hb dB_36_4_2.2.2.1 (by decide) ?_
  refine lv_iand hx hb dB_36_4_2.2.2.2.1 ?_
  refine lv_topi (fun y_15 ey_15 => ?_)
  rw [hQ]
  exact W.iret (v := y_15) hx hb hr (fun t ht hW => ⟨⟨y_15, (), rfl, trivial, trivial⟩, hS.F ht⟩) hS.2.2 dB_36_4_2.2.2.2.2

set_option maxHeartbeats 4000000 in
set_option maxRecDepth 100000 in
theorem c_X7_letIn (l : Launch) (D : va_G) (cy : Nat → ClassId) (sz : Nat) (xh : Nat) (u1 : Int32) (u2 : Int32) (u3 : Int32) (u4 : Int32) (u5 : Int32) (u6 : Int32) (u7 : Int32) (u8 : Int32) (xc : Nat) (xk : Nat) (clo : Nat) (cro : Nat) (c4 : Nat) (c5 : Nat) (c6 : Nat) (c7 : Nat) (c8 : Nat) (xn : Nat) (n1 : Nat) (n2 : Nat) (n3 : Nat) (n4 : Nat) (n5 : Nat) (vp : Int32) (vn : Int32) (rl : Nat → Nat) (Ml : Nat → Nat → Int32) (a1 : Int32) (a2 : Int32) (hvp : 0 ≤ vp.toInt ∧ vp.toInt ≤ 12) (q1 : 0 ≤ a1.toInt ∧ a1.toInt ≤ 11) : Met l yX7_letIn wsX7_letIn ({ frames := 0, cells := 0, slots := 0, locals := 0 }) (va_Pc [.ref xh, .int a1, .int a2] (fun U => U.heap.size = sz ∧ va_P D vwCl [ob7_0_ xh xc u1 u2 u3 u4 u5 u6 u7 u8, ob0_0_ xc xn xk clo cro c4 c5 c6 c7 c8, ob3_0_ xn vp vn n1 n2 n3 n4 n5, aq_ cy 6 clo 12 (gf_ rl), ai_ cy (rl 0) 12 (Ml 0), ai_ cy (rl 1) 12 (Ml 1), ai_ cy (rl 2) 12 (Ml 2), ai_ cy (rl 3) 12 (Ml 3), ai_ cy (rl 4) 12 (Ml 4), ai_ cy (rl 5) 12 (Ml 5), ai_ cy (rl 6) 12 (Ml 6), ai_ cy (rl 7) 12 (Ml 7), ai_ cy (rl 8) 12 (Ml 8), ai_ cy (rl 9) 12 (Ml 9), ai_ cy (rl 10) 12 (Ml 10), ai_ cy (rl 11) 12 (Ml 11)] U.heap ∧ kg_ D cy U ∧ va_D (fun _ => True) [ob7_0_ xh xc u1 u2 u3 u4 u5 u6 u7 u8, ob0_0_ xc xn xk clo cro c4 c5 c6 c7 c8, ob3_0_ xn vp vn n1 n2 n3 n4 n5, aq_ cy 6 clo 12 (gf_ rl), ai_ cy (rl 0) 12 (Ml 0), ai_ cy (rl 1) 12 (Ml 1), ai_ cy (rl 2) 12 (Ml 2), ai_ cy (rl 3) 12 (Ml 3), ai_ cy (rl 4) 12 (Ml 4), ai_ cy (rl 5) 12 (Ml 5), ai_ cy (rl 6) 12 (Ml 6), ai_ cy (rl 7) 12 (Ml 7), ai_ cy (rl 8) 12 (Ml 8), ai_ cy (rl 9) 12 (Ml 9), ai_ cy (rl 10) 12 (Ml 10), ai_ cy (rl 11) 12 (Ml 11)])) (va_Qi (fun (r : Int32) (_ : Unit) => True) (fun (_ : Unit) (_ : State) => True) (va_A [] sz)) 0 0 (va_A [] sz) := by
  refine ofQ (cc := cX7_letIn) (maxL := 5) (ret := (some .int)) (by decide) rfl ?_
  intro p e s m args below meth c s₁ Q hQ B hml hv
  obtain ⟨rfl, hsz, hP, hK, hD0⟩ := hv
  have hG := hK.2
  have hK := hK.1
  have hx := B.exec
  have hb := B.bytes
  have hr := B.returns
  have hts := atoms_spec (ws := wsX7_letIn) B.pre
  have hown : s.vm.findClass RX7 = some m.cls := by have h_ := findClass_of_methodNamed B.named; exact h_
  have hlocks := B.notSynchronized
  subst hsz
  have hD : va_D (va_A [] s.heap.size) [] := dd_nil
  generalize hAe : va_A [] s.heap.size = A at hD hQ
  have hA : ∀ q : Nat, s.heap.size ≤ q → A q := fun q h => by rw [← hAe]; exact Or.inr h
  have hS : va_S A s.heap s.heap [] := va_S.rf
  have hl := lv_entry ([.ref xh, .int a1, .int a2]) (n := 5) (Nat.le_of_ble_eq_true rfl)
  rw [lg_entry_eq]
  generalize (lg_sl ([.ref xh, .int a1, .int a2]) ++ List.replicate (5 - (lg_sl ([.ref xh, .int a1, .int a2])).length) Slot.unset).toArray = ls at hl ⊢
  have hl : lv_has ls 5 [(0, .ref xh), (1, .int a1), (2, .int a2)] := hl
  have z0 : (0 : Int32).toInt = 0 := by decide
  have z1 : (1 : Int32).toInt = 1 := by decide
  refine lv_iconst (v := 0) hx hb dB_36_1_73.1.1.1.1 (by decide) ?_
  refine lv_istore_n (lv' := [(3, .int 0), (0, .ref xh), (1, .int a1), (2, .int a2)]) hx hb dB_36_1_73.1.1.1.2 rfl hl (by decide) rfl (fun ls hl => ?_)
  refine lv_iload_n hx hb dB_36_1_73.1.1.2.1 rfl (lv_at hl 2 rfl) ?_
  refine lv_iconst (v := 1) hx hb dB_36_1_73.1.1.2.2 (by decide) ?_
  refine lv_iadd hx hb dB_36_1_73.1.2.1.1 ?_
  refine lv_topi (fun y_1 ey_1 => ?_)
  have ty_1 : y_1.toInt = a1.toInt + (1 : Int32).toInt := by rw [ey_1]; exact addI (by omega) (by omega)
  refine lv_istore (lv' := [(4, .int y_1), (3, .int 0), (0, .ref xh), (1, .int a1), (2, .int a2)]) hx hb dB_36_1_73.1.2.1.2 hl (by decide) rfl (fun ls hl => ?_)
  suffices LOOP_2 : ∀ (n_2 : Nat) (x4_2 : Int32) (x3_2 : Int32) (H : Heap) (locs : List Loc) (ls : Array Slot), 12 - x4_2.toInt < (n_2 : Int) → (1 ≤ x4_2.toInt) → (x4_2.toInt ≤ 12) → va_P D vwCl [ob7_0_ xh xc u1 u2 u3 u4 u5 u6 u7 u8, ob0_0_ xc xn xk clo cro c4 c5 c6 c7 c8, ob3_0_ xn vp vn n1 n2 n3 n4 n5, aq_ cy 6 clo 12 (gf_ rl), ai_ cy (rl 0) 12 (Ml 0), ai_ cy (rl 1) 12 (Ml 1), ai_ cy (rl 2) 12 (Ml 2), ai_ cy (rl 3) 12 (Ml 3), ai_ cy (rl 4) 12 (Ml 4), ai_ cy (rl 5) 12 (Ml 5), ai_ cy (rl 6) 12 (Ml 6), ai_ cy (rl 7) 12 (Ml 7), ai_ cy (rl 8) 12 (Ml 8), ai_ cy (rl 9) 12 (Ml 9), ai_ cy (rl 10) 12 (Ml 10), ai_ cy (rl 11) 12 (Ml 11)] H → va_S A s.heap H locs → lv_has ls 5 [(4, .int x4_2), (3, .int x3_2), (0, .ref xh), (1, .int a1), (2, .int a2)] → W p l e ({ frames := 0, cells := 0, slots := 0, locals := 0 } : Room) s m (([.ref xh, .int a1, .int a2] : List Value).toArray) below meth c H locs 0 0 Q (F0 m 7 ls []) from LOOP_2 ((12 - y_1.toInt).toNat + 1) y_1 (0 : Int32) _ _ _ (by omega) (by first | with_reducible assumption | omega | assumption) (by first | with_reducible assumption | omega | assumption) hP hS (lv_sub hl [0, 1, 2, 3, 4] rfl)
  intro n_2
  induction n_2 with
  | zero =>
    intro x4_2 x3_2 H locs ls hm v0_2 v1_2 hP hS hl
    exact absurd hm (by omega)
  | succ n_2 ih_2 =>
    intro x4_2 x3_2 H locs ls hm v0_2 v1_2 hP hS hl
    refine lv_iload hx hb dB_36_1_73.1.2.2.1 (lv_at hl 0 rfl) ?_
    refine lv_aload_n hx hb dB_36_1_73.1.2.2.2 rfl (lv_at hl 2 rfl) ?_
    refine va_get (ci := 7) (v := .ref xc) (C := RX7) (T := TX7) (N := 9) hx hb hts (fun _ h => List.mem_cons_of_mem _ (List.mem_append_left _ (List.mem_append_left _ (List.mem_append_right _ h)))) hown hK.1 hP 0 rfl rfl 0 (by decide) (hts (.fieldLink RX7 9 "CutAtlas$SetHunt" "current" "LCutAtlas$Current;") (List.mem_of_getElem? (i := 1) rfl)) (fun _ h9 => h9) rfl dB_36_1_73.2.1.1.1 ?_
    refine va_get (ci := 0) (v := .ref xn) (C := RX0) (T := TX0) (N := 9) hx hb hts (fun _ h => List.mem_cons_of_mem _ (List.mem_append_left _ (List.mem_append_right _ h))) hown hK.1 hP 1 rfl rfl 0 (by decide) (hts (.fieldLink RX7 39 "CutAtlas$Current" "net" "LCutAtlas$Net;") (List.mem_of_getElem? (i := 2) rfl)) (fun _ h9 => h9) rfl dB_36_1_73.2.1.1.2 ?_
    refine va_get (ci := 3) (v := .int vp) (C := RX3) (T := TX3) (N := 7) hx hb hts (fun _ h => List.mem_cons_of_mem _ (List.mem_append_right _ h)) hown hK.1 hP 2 rfl rfl 0 (by decide) (hts (.fieldLink RX7 45 "CutAtlas$Net" "places" "I") (List.mem_of_getElem? (i := 3) rfl)) (fun _ h9 => h9) rfl dB_36_1_73.2.1.2.1 ?_
    refine lv_icmp_ge (tgt := 53) hx hb dB_36_1_73.2.1.2.2 (by decide) (fun c_3 => ?_) (fun c_3 => ?_)
    · have t_3 : vp.toInt ≤ x4_2.toInt := Int32.le_iff_toInt_le.mp c_3
      refine lv_iload_n hx hb dB_36_1_74.2.2.2.2 rfl (lv_at hl 1 rfl) ?_
      rw [hQ]
      exact W.iret (v := x3_2) hx hb hr (fun t ht hW => ⟨⟨x3_2, (), rfl, trivial, trivial⟩, hS.F ht⟩) hS.2.2 dB_36_1_75
    · have t_3 : ¬ vp.toInt ≤ x4_2.toInt := fun h => c_3 (Int32.le_iff_toInt_le.mpr h)
      refine lv_iload_n hx hb dB_36_1_73.2.2.1.1 rfl (lv_at hl 4 rfl) ?_
      refine lv_iload hx hb dB_36_1_73.2.2.1.2 (lv_at hl 0 rfl) ?_
      refine lv_ishr hx hb dB_36_1_73.2.2.2.1 ?_
      refine lv_topi (fun y_4 ey_4 => ?_)
      refine lv_iconst (v := 1) hx hb dB_36_1_73.2.2.2.2 (by decide) ?_
      refine lv_iand hx hb dB_36_1_74.1.1.1.1 ?_
      refine lv_topi (fun y_5 ey_5 => ?_)
      refine lv_iconst (v := 1) hx hb dB_36_1_74.1.1.1.2 (by decide) ?_
      refine lv_icmp_ne (tgt := 47) hx hb dB_36_1_74.1.1.2.1 (by decide) (fun c_6 => ?_) (fun c_6 => ?_)
      · have t_6 : ¬ y_5.toInt = (1 : Int32).toInt := fun h => c_6 (Int32.toInt_inj.mp h)
        obtain ⟨y_7, ey_7⟩ : ∃ y : Int32, y = x4_2 + 1 := ⟨_, rfl⟩
        have ty_7 : y_7.toInt = x4_2.toInt + (1 : Int32).toInt := by rw [ey_7]; exact addI (by omega) (by omega)
        refine lv_iinc (v := y_7) (lv' := [(4, .int y_7), (3, .int x3_2), (0, .ref xh), (1, .int a1), (2, .int a2)]) hx hb dB_36_1_74.2.2.1.2 hl (k := 0) rfl (by rw [ey_7]; rfl) (by decide) rfl (fun ls hl => ?_)
        refine lv_goto (tgt := 7) hx hb dB_36_1_74.2.2.2.1 (by decide) ?_
        exact ih_2 y_7 x3_2 _ _ _ (by omega) (by first | with_reducible assumption | omega | assumption) (by first | with_reducible assumption | omega | assumption) hP hS (lv_sub hl [0, 1, 2, 3, 4] rfl)
      · have t_6 : y_5.toInt = (1 : Int32).toInt := congrArg Int32.toInt c_6
        refine lv_iload_n hx hb dB_36_1_74.1.1.2.2 rfl (lv_at hl 1 rfl) ?_
        refine lv_aload_n hx hb dB_36_1_74.1.2.1.1 rfl (lv_at hl 2 rfl) ?_
        refine va_get (ci := 7) (v := .ref xc) (C := RX7) (T := TX7) (N := 9) hx hb hts (fun _ h => List.mem_cons_of_mem _ (List.mem_append_left _ (List.mem_append_left _ (List.mem_append_right _ h)))) hown hK.1 hP 0 rfl rfl 0 (by decide) (hts (.fieldLink RX7 9 "CutAtlas$SetHunt" "current" "LCutAtlas$Current;") (List.mem_of_getElem? (i := 1) rfl)) (fun _ h9 => h9) rfl dB_36_1_74.1.2.1.2 ?_
        refine va_get (ci := 0) (v := .ref clo) (C := RX0) (T := TX0) (N := 9) hx hb hts (fun _ h => List.mem_cons_of_mem _ (List.mem_append_left _ (List.mem_append_right _ h))) hown hK.1 hP 1 rfl rfl 2 (by decide) (hts (.fieldLink RX7 65 "CutAtlas$Current" "lets" "[[I") (List.mem_of_getElem? (i := 4) rfl)) (fun _ h9 => h9) rfl dB_36_1_74.1.2.2.1 ?_
        refine lv_iload hx hb dB_36_1_74.1.2.2.2 (lv_at hl 0 rfl) ?_
        have h_8 : vp_in x4_2 12 := in_I (by first | with_reducible assumption | omega) (by omega)
        refine va_alda hx hb hG hP 3 rfl (i := x4_2) h_8 dB_36_1_74.2.1.1.1 ?_
        refine lv_topv (v' := .ref (rl x4_2.toNatClampNeg)) (gf_at h_8) ?_
        refine lv_iload_n hx hb dB_36_1_74.2.1.1.2 rfl (lv_at hl 3 rfl) ?_
        have h_9 : vp_in a1 12 := in_I (by first | with_reducible assumption | omega) (by omega)
        have hPg : va_P D vwCl (([ob7_0_ xh xc u1 u2 u3 u4 u5 u6 u7 u8, ob0_0_ xc xn xk clo cro c4 c5 c6 c7 c8, ob3_0_ xn vp vn n1 n2 n3 n4 n5, aq_ cy 6 clo 12 (gf_ rl)] : va_W) ++ (gro (cy 0) rl Ml ++ ([] : va_W))) H := hP
        refine va_gld (X := [ob7_0_ xh xc u1 u2 u3 u4 u5 u6 u7 u8, ob0_0_ xc xn xk clo cro c4 c5 c6 c7 c8, ob3_0_ xn vp vn n1 n2 n3 n4 n5, aq_ cy 6 clo 12 (gf_ rl)]) (Y := []) (r := rl) (M := Ml) (k := x4_2.toNatClampNeg) hx hb hK.1 hPg 0 rfl (in_lt h_8) (i := a1) h_9 dB_36_1_74.2.1.2.1 ?_
        refine lv_topi (fun y_10 ey_10 => ?_)
        refine lv_iadd hx hb dB_36_1_74.2.1.2.2 ?_
        refine lv_topi (fun y_11 ey_11 => ?_)
        refine lv_istore_n (lv' := [(3, .int y_11), (4, .int x4_2), (0, .ref xh), (1, .int a1), (2, .int a2)]) hx hb dB_36_1_74.2.2.1.1 rfl hl (by decide) rfl (fun ls hl => ?_)
        obtain ⟨y_12, ey_12⟩ : ∃ y : Int32, y = x4_2 + 1 := ⟨_, rfl⟩
        have ty_12 : y_12.toInt = x4_2.toInt + (1 : Int32).toInt := by rw [ey_12]; exact addI (by omega) (by omega)
        refine lv_iinc (v := y_12) (lv' := [(4, .int y_12), (3, .int y_11), (0, .ref xh), (1, .int a1), (2, .int a2)]) hx hb dB_36_1_74.2.2.1.2 hl (k := 1) rfl (by rw [ey_12]; rfl) (by decide) rfl (fun ls hl => ?_)
        refine lv_goto (tgt := 7) hx hb dB_36_1_74.2.2.2.1 (by decide) ?_
        exact ih_2 y_12 y_11 _ _ _ (by omega) (by first | with_reducible assumption | omega | assumption) (by first | with_reducible assumption | omega | assumption) hP hS (lv_sub hl [0, 1, 2, 3, 4] rfl)

set_option maxHeartbeats 4000000 in
set_option maxRecDepth 100000 in
theorem c_X7_letOut (l : Launch) (D : va_G) (cy : Nat → ClassId) (sz : Nat) (xh : Nat) (u1 : Int32) (u2 : Int32) (u3 : Int32) (u4 : Int32) (u5 : Int32) (u6 : Int32) (u7 : Int32) (u8 : Int32) (xc : Nat) (xk : Nat) (clo : Nat) (cro : Nat) (c4 : Nat) (c5 : Nat) (c6 : Nat) (c7 : Nat) (c8 : Nat) (xn : Nat) (n1 : Nat) (n2 : Nat) (n3 : Nat) (n4 : Nat) (n5 : Nat) (vp : Int32) (vn : Int32) (rl : Nat → Nat) (Ml : Nat → Nat → Int32) (a1 : Int32) (a2 : Int32) (hvp : 0 ≤ vp.toInt ∧ vp.toInt ≤ 12) (q1 : 0 ≤ a1.toInt ∧ a1.toInt ≤ 11) : Met l yX7_letOut wsX7_letOut ({ frames := 0, cells := 0, slots := 0, locals := 0 }) (va_Pc [.ref xh, .int a1, .int a2] (fun U => U.heap.size = sz ∧ va_P D vwCl [ob7_0_ xh xc u1 u2 u3 u4 u5 u6 u7 u8, ob0_0_ xc xn xk clo cro c4 c5 c6 c7 c8, ob3_0_ xn vp vn n1 n2 n3 n4 n5, aq_ cy 6 clo 12 (gf_ rl), ai_ cy (rl 0) 12 (Ml 0), ai_ cy (rl 1) 12 (Ml 1), ai_ cy (rl 2) 12 (Ml 2), ai_ cy (rl 3) 12 (Ml 3), ai_ cy (rl 4) 12 (Ml 4), ai_ cy (rl 5) 12 (Ml 5), ai_ cy (rl 6) 12 (Ml 6), ai_ cy (rl 7) 12 (Ml 7), ai_ cy (rl 8) 12 (Ml 8), ai_ cy (rl 9) 12 (Ml 9), ai_ cy (rl 10) 12 (Ml 10), ai_ cy (rl 11) 12 (Ml 11)] U.heap ∧ kg_ D cy U ∧ va_D (fun _ => True) [ob7_0_ xh xc u1 u2 u3 u4 u5 u6 u7 u8, ob0_0_ xc xn xk clo cro c4 c5 c6 c7 c8, ob3_0_ xn vp vn n1 n2 n3 n4 n5, aq_ cy 6 clo 12 (gf_ rl), ai_ cy (rl 0) 12 (Ml 0), ai_ cy (rl 1) 12 (Ml 1), ai_ cy (rl 2) 12 (Ml 2), ai_ cy (rl 3) 12 (Ml 3), ai_ cy (rl 4) 12 (Ml 4), ai_ cy (rl 5) 12 (Ml 5), ai_ cy (rl 6) 12 (Ml 6), ai_ cy (rl 7) 12 (Ml 7), ai_ cy (rl 8) 12 (Ml 8), ai_ cy (rl 9) 12 (Ml 9), ai_ cy (rl 10) 12 (Ml 10), ai_ cy (rl 11) 12 (Ml 11)])) (va_Qi (fun (r : Int32) (_ : Unit) => True) (fun (_ : Unit) (_ : State) => True) (va_A [] sz)) 0 0 (va_A [] sz) := by
  refine ofQ (cc := cX7_letOut) (maxL := 5) (ret := (some .int)) (by decide) rfl ?_
  intro p e s m args below meth c s₁ Q hQ B hml hv
  obtain ⟨rfl, hsz, hP, hK, hD0⟩ := hv
  have hG := hK.2
  have hK := hK.1
  have hx := B.exec
  have hb := B.bytes
  have hr := B.returns
  have hts := atoms_spec (ws := wsX7_letOut) B.pre
  have hown : s.vm.findClass RX7 = some m.cls := by have h_ := findClass_of_methodNamed B.named; exact h_
  have hlocks := B.notSynchronized
  subst hsz
  have hD : va_D (va_A [] s.heap.size) [] := dd_nil
  generalize hAe : va_A [] s.heap.size = A at hD hQ
  have hA : ∀ q : Nat, s.heap.size ≤ q → A q := fun q h => by rw [← hAe]; exact Or.inr h
  have hS : va_S A s.heap s.heap [] := va_S.rf
  have hl := lv_entry ([.ref xh, .int a1, .int a2]) (n := 5) (Nat.le_of_ble_eq_true rfl)
  rw [lg_entry_eq]
  generalize (lg_sl ([.ref xh, .int a1, .int a2]) ++ List.replicate (5 - (lg_sl ([.ref xh, .int a1, .int a2])).length) Slot.unset).toArray = ls at hl ⊢
  have hl : lv_has ls 5 [(0, .ref xh), (1, .int a1), (2, .int a2)] := hl
  have z0 : (0 : Int32).toInt = 0 := by decide
  have z1 : (1 : Int32).toInt = 1 := by decide
  refine lv_iconst (v := 0) hx hb dB_36_1_76.1.1.1.1 (by decide) ?_
  refine lv_istore_n (lv' := [(3, .int 0), (0, .ref xh), (1, .int a1), (2, .int a2)]) hx hb dB_36_1_76.1.1.1.2 rfl hl (by decide) rfl (fun ls hl => ?_)
  refine lv_iload_n hx hb dB_36_1_76.1.1.2.1 rfl (lv_at hl 2 rfl) ?_
  refine lv_iconst (v := 1) hx hb dB_36_1_76.1.1.2.2 (by decide) ?_
  refine lv_iadd hx hb dB_36_1_76.1.2.1.1 ?_
  refine lv_topi (fun y_1 ey_1 => ?_)
  have ty_1 : y_1.toInt = a1.toInt + (1 : Int32).toInt := by rw [ey_1]; exact addI (by omega) (by omega)
  refine lv_istore (lv' := [(4, .int y_1), (3, .int 0), (0, .ref xh), (1, .int a1), (2, .int a2)]) hx hb dB_36_1_76.1.2.1.2 hl (by decide) rfl (fun ls hl => ?_)
  suffices LOOP_2 : ∀ (n_2 : Nat) (x4_2 : Int32) (x3_2 : Int32) (H : Heap) (locs : List Loc) (ls : Array Slot), 12 - x4_2.toInt < (n_2 : Int) → (1 ≤ x4_2.toInt) → (x4_2.toInt ≤ 12) → va_P D vwCl [ob7_0_ xh xc u1 u2 u3 u4 u5 u6 u7 u8, ob0_0_ xc xn xk clo cro c4 c5 c6 c7 c8, ob3_0_ xn vp vn n1 n2 n3 n4 n5, aq_ cy 6 clo 12 (gf_ rl), ai_ cy (rl 0) 12 (Ml 0), ai_ cy (rl 1) 12 (Ml 1), ai_ cy (rl 2) 12 (Ml 2), ai_ cy (rl 3) 12 (Ml 3), ai_ cy (rl 4) 12 (Ml 4), ai_ cy (rl 5) 12 (Ml 5), ai_ cy (rl 6) 12 (Ml 6), ai_ cy (rl 7) 12 (Ml 7), ai_ cy (rl 8) 12 (Ml 8), ai_ cy (rl 9) 12 (Ml 9), ai_ cy (rl 10) 12 (Ml 10), ai_ cy (rl 11) 12 (Ml 11)] H → va_S A s.heap H locs → lv_has ls 5 [(4, .int x4_2), (3, .int x3_2), (0, .ref xh), (1, .int a1), (2, .int a2)] → W p l e ({ frames := 0, cells := 0, slots := 0, locals := 0 } : Room) s m (([.ref xh, .int a1, .int a2] : List Value).toArray) below meth c H locs 0 0 Q (F0 m 7 ls []) from LOOP_2 ((12 - y_1.toInt).toNat + 1) y_1 (0 : Int32) _ _ _ (by omega) (by first | with_reducible assumption | omega | assumption) (by first | with_reducible assumption | omega | assumption) hP hS (lv_sub hl [0, 1, 2, 3, 4] rfl)
  intro n_2
  induction n_2 with
  | zero =>
    intro x4_2 x3_2 H locs ls hm v0_2 v1_2 hP hS hl
    exact absurd hm (by omega)
  | succ n_2 ih_2 =>
    intro x4_2 x3_2 H locs ls hm v0_2 v1_2 hP hS hl
    refine lv_iload hx hb dB_36_1_76.1.2.2.1 (lv_at hl 0 rfl) ?_
    refine lv_aload_n hx hb dB_36_1_76.1.2.2.2 rfl (lv_at hl 2 rfl) ?_
    refine va_get (ci := 7) (v := .ref xc) (C := RX7) (T := TX7) (N := 9) hx hb hts (fun _ h => List.mem_cons_of_mem _ (List.mem_append_left _ (List.mem_append_left _ (List.mem_append_right _ h)))) hown hK.1 hP 0 rfl rfl 0 (by decide) (hts (.fieldLink RX7 9 "CutAtlas$SetHunt" "current" "LCutAtlas$Current;") (List.mem_of_getElem? (i := 1) rfl)) (fun _ h9 => h9) rfl dB_36_1_76.2.1.1.1 ?_
    refine va_get (ci := 0) (v := .ref xn) (C := RX0) (T := TX0) (N := 9) hx hb hts (fun _ h => List.mem_cons_of_mem _ (List.mem_append_left _ (List.mem_append_right _ h))) hown hK.1 hP 1 rfl rfl 0 (by decide) (hts (.fieldLink RX7 39 "CutAtlas$Current" "net" "LCutAtlas$Net;") (List.mem_of_getElem? (i := 2) rfl)) (fun _ h9 => h9) rfl dB_36_1_76.2.1.1.2 ?_
    refine va_get (ci := 3) (v := .int vp) (C := RX3) (T := TX3) (N := 7) hx hb hts (fun _ h => List.mem_cons_of_mem _ (List.mem_append_right _ h)) hown hK.1 hP 2 rfl rfl 0 (by decide) (hts (.fieldLink RX7 45 "CutAtlas$Net" "places" "I") (List.mem_of_getElem? (i := 3) rfl)) (fun _ h9 => h9) rfl dB_36_1_76.2.1.2.1 ?_
    refine lv_icmp_ge (tgt := 52) hx hb dB_36_1_76.2.1.2.2 (by decide) (fun c_3 => ?_) (fun c_3 => ?_)
    · have t_3 : vp.toInt ≤ x4_2.toInt := Int32.le_iff_toInt_le.mp c_3
      refine lv_iload_n hx hb dB_36_1_77.2.2.2.1 rfl (lv_at hl 1 rfl) ?_
      rw [hQ]
      exact W.iret (v := x3_2) hx hb hr (fun t ht hW => ⟨⟨x3_2, (), rfl, trivial, trivial⟩, hS.F ht⟩) hS.2.2 dB_36_1_77.2.2.2.2
    · have t_3 : ¬ vp.toInt ≤ x4_2.toInt := fun h => c_3 (Int32.le_iff_toInt_le.mpr h)
      refine lv_iload_n hx hb dB_36_1_76.2.2.1.1 rfl (lv_at hl 4 rfl) ?_
      refine lv_iload hx hb dB_36_1_76.2.2.1.2 (lv_at hl 0 rfl) ?_
      refine lv_ishr hx hb dB_36_1_76.2.2.2.1 ?_
      refine lv_topi (fun y_4 ey_4 => ?_)
      refine lv_iconst (v := 1) hx hb dB_36_1_76.2.2.2.2 (by decide) ?_
      refine lv_iand hx hb dB_36_1_77.1.1.1.1 ?_
      refine lv_topi (fun y_5 ey_5 => ?_)
      refine lv_if_ne (tgt := 46) hx hb dB_36_1_77.1.1.1.2 (by decide) (fun c_6 => ?_) (fun c_6 => ?_)
      · have t_6 : ¬ y_5.toInt = (0 : Int32).toInt := fun h => c_6 (Int32.toInt_inj.mp h)
        obtain ⟨y_7, ey_7⟩ : ∃ y : Int32, y = x4_2 + 1 := ⟨_, rfl⟩
        have ty_7 : y_7.toInt = x4_2.toInt + (1 : Int32).toInt := by rw [ey_7]; exact addI (by omega) (by omega)
        refine lv_iinc (v := y_7) (lv' := [(4, .int y_7), (3, .int x3_2), (0, .ref xh), (1, .int a1), (2, .int a2)]) hx hb dB_36_1_77.2.2.1.1 hl (k := 0) rfl (by rw [ey_7]; rfl) (by decide) rfl (fun ls hl => ?_)
        refine lv_goto (tgt := 7) hx hb dB_36_1_77.2.2.1.2 (by decide) ?_
        exact ih_2 y_7 x3_2 _ _ _ (by omega) (by first | with_reducible assumption | omega | assumption) (by first | with_reducible assumption | omega | assumption) hP hS (lv_sub hl [0, 1, 2, 3, 4] rfl)
      · have t_6 : y_5.toInt = (0 : Int32).toInt := congrArg Int32.toInt c_6
        refine lv_iload_n hx hb dB_36_1_77.1.1.2.1 rfl (lv_at hl 1 rfl) ?_
        refine lv_aload_n hx hb dB_36_1_77.1.1.2.2 rfl (lv_at hl 2 rfl) ?_
        refine va_get (ci := 7) (v := .ref xc) (C := RX7) (T := TX7) (N := 9) hx hb hts (fun _ h => List.mem_cons_of_mem _ (List.mem_append_left _ (List.mem_append_left _ (List.mem_append_right _ h)))) hown hK.1 hP 0 rfl rfl 0 (by decide) (hts (.fieldLink RX7 9 "CutAtlas$SetHunt" "current" "LCutAtlas$Current;") (List.mem_of_getElem? (i := 1) rfl)) (fun _ h9 => h9) rfl dB_36_1_77.1.2.1.1 ?_
        refine va_get (ci := 0) (v := .ref clo) (C := RX0) (T := TX0) (N := 9) hx hb hts (fun _ h => List.mem_cons_of_mem _ (List.mem_append_left _ (List.mem_append_right _ h))) hown hK.1 hP 1 rfl rfl 2 (by decide) (hts (.fieldLink RX7 65 "CutAtlas$Current" "lets" "[[I") (List.mem_of_getElem? (i := 4) rfl)) (fun _ h9 => h9) rfl dB_36_1_77.1.2.1.2 ?_
        refine lv_iload_n hx hb dB_36_1_77.1.2.2.1 rfl (lv_at hl 3 rfl) ?_
        have h_8 : vp_in a1 12 := in_I (by first | with_reducible assumption | omega) (by omega)
        refine va_alda hx hb hG hP 3 rfl (i := a1) h_8 dB_36_1_77.1.2.2.2 ?_
        refine lv_topv (v' := .ref (rl a1.toNatClampNeg)) (gf_at h_8) ?_
        refine lv_iload hx hb dB_36_1_77.2.1.1.1 (lv_at hl 0 rfl) ?_
        have h_9 : vp_in x4_2 12 := in_I (by first | with_reducible assumption | omega) (by omega)
        have hPg : va_P D vwCl (([ob7_0_ xh xc u1 u2 u3 u4 u5 u6 u7 u8, ob0_0_ xc xn xk clo cro c4 c5 c6 c7 c8, ob3_0_ xn vp vn n1 n2 n3 n4 n5, aq_ cy 6 clo 12 (gf_ rl)] : va_W) ++ (gro (cy 0) rl Ml ++ ([] : va_W))) H := hP
        refine va_gld (X := [ob7_0_ xh xc u1 u2 u3 u4 u5 u6 u7 u8, ob0_0_ xc xn xk clo cro c4 c5 c6 c7 c8, ob3_0_ xn vp vn n1 n2 n3 n4 n5, aq_ cy 6 clo 12 (gf_ rl)]) (Y := []) (r := rl) (M := Ml) (k := a1.toNatClampNeg) hx hb hK.1 hPg 0 rfl (in_lt h_8) (i := x4_2) h_9 dB_36_1_77.2.1.1.2 ?_
        refine lv_topi (fun y_10 ey_10 => ?_)
        refine lv_iadd hx hb dB_36_1_77.2.1.2.1 ?_
        refine lv_topi (fun y_11 ey_11 => ?_)
        refine lv_istore_n (lv' := [(3, .int y_11), (4, .int x4_2), (0, .ref xh), (1, .int a1), (2, .int a2)]) hx hb dB_36_1_77.2.1.2.2 rfl hl (by decide) rfl (fun ls hl => ?_)
        obtain ⟨y_12, ey_12⟩ : ∃ y : Int32, y = x4_2 + 1 := ⟨_, rfl⟩
        have ty_12 : y_12.toInt = x4_2.toInt + (1 : Int32).toInt := by rw [ey_12]; exact addI (by omega) (by omega)
        refine lv_iinc (v := y_12) (lv' := [(4, .int y_12), (3, .int y_11), (0, .ref xh), (1, .int a1), (2, .int a2)]) hx hb dB_36_1_77.2.2.1.1 hl (k := 1) rfl (by rw [ey_12]; rfl) (by decide) rfl (fun ls hl => ?_)
        refine lv_goto (tgt := 7) hx hb dB_36_1_77.2.2.1.2 (by decide) ?_
        exact ih_2 y_12 y_11 _ _ _ (by omega) (by first | with_reducible assumption | omega | assumption) (by first | with_reducible assumption | omega | assumption) hP hS (lv_sub hl [0, 1, 2, 3, 4] rfl)

set_option maxHeartbeats 4000000 in
set_option maxRecDepth 100000 in
theorem c_X7_meet (l : Launch) (D : va_G) (cy : Nat → ClassId) (sz : Nat) (xh : Nat) (u1 : Int32) (u2 : Int32) (u3 : Int32) (u4 : Int32) (u5 : Int32) (u6 : Int32) (u7 : Int32) (u8 : Int32) (xc : Nat) (a1 : Int32) (a2 : Int32) : Met l yX7_meet wsX7_meet ({ frames := 0, cells := 0, slots := 0, locals := 0 }) (va_Pc [.ref xh, .int a1, .int a2] (fun U => U.heap.size = sz ∧ va_P D vwCl [ob7_0_ xh xc u1 u2 u3 u4 u5 u6 u7 u8] U.heap ∧ kk_ D cy U ∧ va_D (fun _ => True) [ob7_0_ xh xc u1 u2 u3 u4 u5 u6 u7 u8])) (va_Qv (fun (_ : Unit) => True) (fun (_ : Unit) (t : State) => ∃ (v5 : Int32), ∃ (v6 : Int32), va_P D vwCl [ob7_0_ xh xc u1 u2 u3 u4 v5 v6 u7 u8] t.heap ∧ va_D (va_A [ob7_0_ xh xc u1 u2 u3 u4 u5 u6 u7 u8] sz) [ob7_0_ xh xc u1 u2 u3 u4 v5 v6 u7 u8]) (va_A [ob7_0_ xh xc u1 u2 u3 u4 u5 u6 u7 u8] sz)) 0 0 (va_A [ob7_0_ xh xc u1 u2 u3 u4 u5 u6 u7 u8] sz) := by
  refine ofQ (cc := cX7_meet) (maxL := 3) (ret := none) (by decide) rfl ?_
  intro p e s m args below meth c s₁ Q hQ B hml hv
  obtain ⟨rfl, hsz, hP, hK, hD0⟩ := hv
  have hx := B.exec
  have hb := B.bytes
  have hr := B.returns
  have hts := atoms_spec (ws := wsX7_meet) B.pre
  have hown : s.vm.findClass RX7 = some m.cls := by have h_ := findClass_of_methodNamed B.named; exact h_
  have hlocks := B.notSynchronized
  subst hsz
  have hD := hD0.self (sz := s.heap.size)
  generalize hAe : va_A [ob7_0_ xh xc u1 u2 u3 u4 u5 u6 u7 u8] s.heap.size = A at hD hQ
  have hA : ∀ q : Nat, s.heap.size ≤ q → A q := fun q h => by rw [← hAe]; exact Or.inr h
  have hS : va_S A s.heap s.heap [] := va_S.rf
  have hl := lv_entry ([.ref xh, .int a1, .int a2]) (n := 3) (Nat.le_of_ble_eq_true rfl)
  rw [lg_entry_eq]
  generalize (lg_sl ([.ref xh, .int a1, .int a2]) ++ List.replicate (3 - (lg_sl ([.ref xh, .int a1, .int a2])).length) Slot.unset).toArray = ls at hl ⊢
  have hl : lv_has ls 3 [(0, .ref xh), (1, .int a1), (2, .int a2)] := hl
  have z0 : (0 : Int32).toInt = 0 := by decide
  have z1 : (1 : Int32).toInt = 1 := by decide
  refine lv_iload_n hx hb dB_36_1_78.1.1.1.1 rfl (lv_at hl 2 rfl) ?_
  refine lv_aload_n hx hb dB_36_1_78.1.1.1.2 rfl (lv_at hl 0 rfl) ?_
  refine va_get (ci := 7) (v := .int u3) (C := RX7) (T := TX7) (N := 9) hx hb hts (fun _ h => List.mem_cons_of_mem _ (List.mem_append_right _ h)) hown hK.1 hP 0 rfl rfl 3 (by decide) (hts (.fieldLink RX7 33 "CutAtlas$SetHunt" "aim" "I") (List.mem_of_getElem? (i := 1) rfl)) (fun _ h9 => h9) rfl dB_36_1_78.1.1.2.1 ?_
  refine lv_icmp_ne (tgt := 12) hx hb dB_36_1_78.1.1.2.2 (by decide) (fun c_1 => ?_) (fun c_1 => ?_)
  · have t_1 : ¬ a2.toInt = u3.toInt := fun h => c_1 (Int32.toInt_inj.mp h)
    rw [hQ]
    exact W.vret hx hb hr (fun t ht hW => ⟨⟨(), rfl, trivial, u5, u6, by rw [ht]; exact hP, hD⟩, hS.F ht⟩) hS.2.2 dB_36_1_78.1.2.2.1
  · have t_1 : a2.toInt = u3.toInt := congrArg Int32.toInt c_1
    refine lv_iload_n hx hb dB_36_1_78.1.2.1.1 rfl (lv_at hl 1 rfl) ?_
    refine lv_if_ne (tgt := 13) hx hb dB_36_1_78.1.2.1.2 (by decide) (fun c_2 => ?_) (fun c_2 => ?_)
    · have t_2 : ¬ a1.toInt = (0 : Int32).toInt := fun h => c_2 (Int32.toInt_inj.mp h)
      refine lv_aload_n hx hb dB_36_1_78.1.2.2.2 rfl (lv_at hl 0 rfl) ?_
      refine va_get (ci := 7) (v := .int u5) (C := RX7) (T := TX7) (N := 9) hx hb hts (fun _ h => List.mem_cons_of_mem _ (List.mem_append_right _ h)) hown hK.1 hP 0 rfl rfl 5 (by decide) (hts (.fieldLink RX7 20 "CutAtlas$SetHunt" "met" "I") (List.mem_of_getElem? (i := 2) rfl)) (fun _ h9 => h9) rfl dB_36_1_78.2.1.1.1 ?_
      refine lv_aload_n hx hb dB_36_1_78.2.1.1.2 rfl (lv_at hl 0 rfl) ?_
      refine va_get (ci := 7) (v := .int u4) (C := RX7) (T := TX7) (N := 9) hx hb hts (fun _ h => List.mem_cons_of_mem _ (List.mem_append_right _ h)) hown hK.1 hP 0 rfl rfl 4 (by decide) (hts (.fieldLink RX7 36 "CutAtlas$SetHunt" "wanted" "I") (List.mem_of_getElem? (i := 3) rfl)) (fun _ h9 => h9) rfl dB_36_1_78.2.1.2.1 ?_
      refine lv_icmp_ne (tgt := 29) hx hb dB_36_1_78.2.1.2.2 (by decide) (fun c_3 => ?_) (fun c_3 => ?_)
      · have t_3 : ¬ u5.toInt = u4.toInt := fun h => c_3 (Int32.toInt_inj.mp h)
        refine lv_aload_n hx hb dB_36_1_78.2.2.2.2 rfl (lv_at hl 0 rfl) ?_
        refine lv_dup hx hb dB_36_1_79.1.1 rfl ?_
        refine va_get (ci := 7) (v := .int u5) (C := RX7) (T := TX7) (N := 9) hx hb hts (fun _ h => List.mem_cons_of_mem _ (List.mem_append_right _ h)) hown hK.1 hP 0 rfl rfl 5 (by decide) (hts (.fieldLink RX7 20 "CutAtlas$SetHunt" "met" "I") (List.mem_of_getElem? (i := 2) rfl)) (fun _ h9 => h9) rfl dB_36_1_79.1.2.1 ?_
        refine lv_iconst (v := 1) hx hb dB_36_1_79.1.2.2 (by decide) ?_
        refine lv_iadd hx hb dB_36_1_79.2.1 ?_
        refine lv_topi (fun y_4 ey_4 => ?_)
        refine va_put (ci := 7) (v := .int y_4) (ty := .int) (C := RX7) (T := TX7) (N := 9) hx hb hts (fun _ h => List.mem_cons_of_mem _ (List.mem_append_right _ h)) tyX7 tyX7_ok nmX7 hown hK.1 hP hD hS 0 rfl rfl 5 (by decide) (hts (.fieldLink RX7 20 "CutAtlas$SetHunt" "met" "I") (List.mem_of_getElem? (i := 2) rfl)) (fun _ h9 => h9) rfl (by decide +kernel) rfl rfl (Nat.le_of_ble_eq_true rfl) dB_36_1_79.2.2.1 (fun H locs hP hD hS => ?_)
        refine pd_K [ob7_0_ xh xc u1 u2 u3 u4 y_4 u6 u7 u8] hP hD (fun hP hD => ?_)
        rw [hQ]
        exact W.vret hx hb hr (fun t ht hW => ⟨⟨(), rfl, trivial, y_4, u6, by rw [ht]; exact hP, hD⟩, hS.F ht⟩) hS.2.2 dB_36_1_79.2.2.2
      · have t_3 : u5.toInt = u4.toInt := congrArg Int32.toInt c_3
        refine lv_aload_n hx hb dB_36_1_78.2.2.1.1 rfl (lv_at hl 0 rfl) ?_
        refine lv_iload_n hx hb dB_36_1_78.2.2.1.2 rfl (lv_at hl 1 rfl) ?_
        refine va_put (ci := 7) (v := .int a1) (ty := .int) (C := RX7) (T := TX7) (N := 9) hx hb hts (fun _ h => List.mem_cons_of_mem _ (List.mem_append_right _ h)) tyX7 tyX7_ok nmX7 hown hK.1 hP hD hS 0 rfl rfl 6 (by decide) (hts (.fieldLink RX7 24 "CutAtlas$SetHunt" "found" "I") (List.mem_of_getElem? (i := 4) rfl)) (fun _ h9 => h9) rfl (by decide +kernel) rfl rfl (Nat.le_of_ble_eq_true rfl) dB_36_1_78.2.2.2.1 (fun H locs hP hD hS => ?_)
        refine pd_K [ob7_0_ xh xc u1 u2 u3 u4 u5 a1 u7 u8] hP hD (fun hP hD => ?_)
        refine lv_aload_n hx hb dB_36_1_78.2.2.2.2 rfl (lv_at hl 0 rfl) ?_
        refine lv_dup hx hb dB_36_1_79.1.1 rfl ?_
        refine va_get (ci := 7) (v := .int u5) (C := RX7) (T := TX7) (N := 9) hx hb hts (fun _ h => List.mem_cons_of_mem _ (List.mem_append_right _ h)) hown hK.1 hP 0 rfl rfl 5 (by decide) (hts (.fieldLink RX7 20 "CutAtlas$SetHunt" "met" "I") (List.mem_of_getElem? (i := 2) rfl)) (fun _ h9 => h9) rfl dB_36_1_79.1.2.1 ?_
        refine lv_iconst (v := 1) hx hb dB_36_1_79.1.2.2 (by decide) ?_
        refine lv_iadd hx hb dB_36_1_79.2.1 ?_
        refine lv_topi (fun y_5 ey_5 => ?_)
        refine va_put (ci := 7) (v := .int y_5) (ty := .int) (C := RX7) (T := TX7) (N := 9) hx hb hts (fun _ h => List.mem_cons_of_mem _ (List.mem_append_right _ h)) tyX7 tyX7_ok nmX7 hown hK.1 hP hD hS 0 rfl rfl 5 (by decide) (hts (.fieldLink RX7 20 "CutAtlas$SetHunt" "met" "I") (List.mem_of_getElem? (i := 2) rfl)) (fun _ h9 => h9) rfl (by decide +kernel) rfl rfl (Nat.le_of_ble_eq_true rfl) dB_36_1_79.2.2.1 (fun H locs hP hD hS => ?_)
        refine pd_K [ob7_0_ xh xc u1 u2 u3 u4 y_5 a1 u7 u8] hP hD (fun hP hD => ?_)
        rw [hQ]
        exact W.vret hx hb hr (fun t ht hW => ⟨⟨(), rfl, trivial, y_5, a1, by rw [ht]; exact hP, hD⟩, hS.F ht⟩) hS.2.2 dB_36_1_79.2.2.2
    · have t_2 : a1.toInt = (0 : Int32).toInt := congrArg Int32.toInt c_2
      rw [hQ]
      exact W.vret hx hb hr (fun t ht hW => ⟨⟨(), rfl, trivial, u5, u6, by rw [ht]; exact hP, hD⟩, hS.F ht⟩) hS.2.2 dB_36_1_78.1.2.2.1

set_option maxHeartbeats 4000000 in
set_option maxRecDepth 100000 in
theorem c_X7_compareDense (l : Launch) (D : va_G) (cy : Nat → ClassId) (sz : Nat) (xh : Nat) (u1 : Int32) (u2 : Int32) (u3 : Int32) (u4 : Int32) (u5 : Int32) (u6 : Int32) (u7 : Int32) (u8 : Int32) (xc : Nat) (a1 : Int32) (a2 : Int32) : Met l yX7_compareDense wsX7_compareDense ({ frames := 1, cells := 0, slots := 0, locals := 20 }) (va_Pc [.ref xh, .int a1, .int a2] (fun U => U.heap.size = sz ∧ va_P D vwCl [ob7_0_ xh xc u1 u2 u3 u4 u5 u6 u7 u8] U.heap ∧ kk_ D cy U ∧ va_D (fun _ => True) [ob7_0_ xh xc u1 u2 u3 u4 u5 u6 u7 u8])) (va_Qv (fun (_ : Unit) => True) (fun (_ : Unit) (t : State) => ∃ (v7 : Int32), ∃ (v8 : Int32), va_P D vwCl [ob7_0_ xh xc u1 u2 u3 u4 u5 u6 v7 v8] t.heap ∧ va_D (va_A [ob7_0_ xh xc u1 u2 u3 u4 u5 u6 u7 u8] sz) [ob7_0_ xh xc u1 u2 u3 u4 u5 u6 v7 v8]) (va_A [ob7_0_ xh xc u1 u2 u3 u4 u5 u6 u7 u8] sz)) 0 0 (va_A [ob7_0_ xh xc u1 u2 u3 u4 u5 u6 u7 u8] sz) := by
  refine ofQ (cc := cX7_compareDense) (maxL := 7) (ret := none) (by decide) rfl ?_
  intro p e s m args below meth c s₁ Q hQ B hml hv
  obtain ⟨rfl, hsz, hP, hK, hD0⟩ := hv
  have hx := B.exec
  have hb := B.bytes
  have hr := B.returns
  have hts := atoms_spec (ws := wsX7_compareDense) B.pre
  have hown : s.vm.findClass RX7 = some m.cls := by have h_ := findClass_of_methodNamed B.named; exact h_
  have hlocks := B.notSynchronized
  subst hsz
  have hD := hD0.self (sz := s.heap.size)
  generalize hAe : va_A [ob7_0_ xh xc u1 u2 u3 u4 u5 u6 u7 u8] s.heap.size = A at hD hQ
  have hA : ∀ q : Nat, s.heap.size ≤ q → A q := fun q h => by rw [← hAe]; exact Or.inr h
  have hS : va_S A s.heap s.heap [] := va_S.rf
  have hl := lv_entry ([.ref xh, .int a1, .int a2]) (n := 7) (Nat.le_of_ble_eq_true rfl)
  rw [lg_entry_eq]
  generalize (lg_sl ([.ref xh, .int a1, .int a2]) ++ List.replicate (7 - (lg_sl ([.ref xh, .int a1, .int a2])).length) Slot.unset).toArray = ls at hl ⊢
  have hl : lv_has ls 7 [(0, .ref xh), (1, .int a1), (2, .int a2)] := hl
  refine lv_iload_n hx hb dB_36_1_64.1.1.1.1 rfl (lv_at hl 1 rfl) ?_
  refine ct_R hP hD [] [] (by decide) rfl (fun hPc hDw => ?_)
  have hFc := va_free (wc := []) hD hS hA [] rfl
  refine va_calli (va_runS (As := [.int a1]) (rest := []) ⟨hx, hb, hml, hown, hts⟩ (c_J6_bitCount_0f7a4 l D cy s.heap.size a1) (va_cwS 1 hts gX7_compareDense_J6_bitCount_0f7a4 rfl rfl rfl hd_J6_bitCount_0f7a4 ⟨Nat.le_of_ble_eq_true rfl, Nat.le_of_ble_eq_true rfl⟩) ⟨bl_, fun U hU hW => ⟨rfl, by rw [hU], by rw [hU]; exact hPc, kk_mv hW hK, hDw⟩⟩ rfl rfl hl.1 rfl (lv_room (Nat.le_of_ble_eq_true rfl)) dB_36_1_64.1.1.1.2 ⟨Nat.le_of_ble_eq_true rfl, Nat.le_of_ble_eq_true rfl⟩) hS (fun q _ h => hFc q h) hFc (fun r_1 u t H locs ht hvm hw hB hz1 hk1 hS => ?_)
  have hP : va_P D vwCl _ H := ro_keep hP hk1
  refine lv_istore_n (lv' := [(3, .int r_1), (0, .ref xh), (1, .int a1), (2, .int a2)]) hx hb dB_36_1_64.1.1.2.1 rfl hl (by decide) rfl (fun ls hl => ?_)
  refine lv_aload_n hx hb dB_36_1_64.1.1.2.2 rfl (lv_at hl 1 rfl) ?_
  refine va_get (ci := 7) (v := .int u7) (C := RX7) (T := TX7) (N := 9) hx hb hts (fun _ h => List.mem_cons_of_mem _ (List.mem_append_right _ h)) hown hK.1 hP 0 rfl rfl 7 (by decide) (hts (.fieldLink RX7 69 "CutAtlas$SetHunt" "denseSet" "I") (List.mem_of_getElem? (i := 1) rfl)) (fun _ h9 => h9) rfl dB_36_1_64.1.2.1.1 ?_
  refine ct_R hP hD [] [] (by decide) rfl (fun hPc hDw => ?_)
  have hFc := va_free (wc := []) hD hS hA [] rfl
  refine va_calli (va_runS (As := [.int u7]) (rest := []) ⟨hx, hb, hml, hown, hts⟩ (c_J6_bitCount_0f7a4 l D cy H.size u7) (va_cwS 1 hts gX7_compareDense_J6_bitCount_0f7a4 rfl rfl rfl hd_J6_bitCount_0f7a4 ⟨Nat.le_of_ble_eq_true rfl, Nat.le_of_ble_eq_true rfl⟩) ⟨bl_, fun U hU hW => ⟨rfl, by rw [hU], by rw [hU]; exact hPc, kk_mv hW hK, hDw⟩⟩ rfl rfl hl.1 rfl (lv_room (Nat.le_of_ble_eq_true rfl)) dB_36_1_64.1.2.1.2 ⟨Nat.le_of_ble_eq_true rfl, Nat.le_of_ble_eq_true rfl⟩) hS (fun q _ h => hFc q h) hFc (fun r_2 u t H locs ht hvm hw hB hz1 hk1 hS => ?_)
  have hP : va_P D vwCl _ H := ro_keep hP hk1
  refine lv_istore (lv' := [(4, .int r_2), (3, .int r_1), (0, .ref xh), (1, .int a1), (2, .int a2)]) hx hb dB_36_1_64.1.2.2.1 hl (by decide) rfl (fun ls hl => ?_)
  refine lv_iload_n hx hb dB_36_1_64.1.2.2.2 rfl (lv_at hl 4 rfl) ?_
  refine lv_iload hx hb dB_36_1_64.2.1.1.1 (lv_at hl 0 rfl) ?_
  refine lv_imul hx hb dB_36_1_64.2.1.1.2 ?_
  refine lv_topi (fun y_3 ey_3 => ?_)
  refine lv_istore (lv' := [(5, .int y_3), (4, .int r_2), (3, .int r_1), (0, .ref xh), (1, .int a1), (2, .int a2)]) hx hb dB_36_1_64.2.1.2.1 hl (by decide) rfl (fun ls hl => ?_)
  refine lv_aload_n hx hb dB_36_1_64.2.1.2.2 rfl (lv_at hl 3 rfl) ?_
  refine va_get (ci := 7) (v := .int u8) (C := RX7) (T := TX7) (N := 9) hx hb hts (fun _ h => List.mem_cons_of_mem _ (List.mem_append_right _ h)) hown hK.1 hP 0 rfl rfl 8 (by decide) (hts (.fieldLink RX7 72 "CutAtlas$SetHunt" "denseSum" "I") (List.mem_of_getElem? (i := 2) rfl)) (fun _ h9 => h9) rfl dB_36_1_64.2.2.1.1 ?_
  refine lv_iload_n hx hb dB_36_1_64.2.2.1.2 rfl (lv_at hl 2 rfl) ?_
  refine lv_imul hx hb dB_36_1_64.2.2.2.1 ?_
  refine lv_topi (fun y_4 ey_4 => ?_)
  refine lv_istore (lv' := [(6, .int y_4), (5, .int y_3), (4, .int r_2), (3, .int r_1), (0, .ref xh), (1, .int a1), (2, .int a2)]) hx hb dB_36_1_64.2.2.2.2 hl (by decide) rfl (fun ls hl => ?_)
  refine lv_iload hx hb dB_36_1_65.1.1.1.1 (lv_at hl 1 rfl) ?_
  refine lv_iload hx hb dB_36_1_65.1.1.1.2 (lv_at hl 0 rfl) ?_
  refine lv_icmp_gt (tgt := 48) hx hb dB_36_1_65.1.1.2.1 (by decide) (fun c_5 => ?_) (fun c_5 => ?_)
  · have t_5 : y_4.toInt < y_3.toInt := Int32.lt_iff_toInt_lt.mp c_5
    refine lv_aload_n hx hb dB_36_1_65.2.1.1.2 rfl (lv_at hl 4 rfl) ?_
    refine lv_iload_n hx hb dB_36_1_65.2.1.2.1 rfl (lv_at hl 5 rfl) ?_
    refine va_put (ci := 7) (v := .int a1) (ty := .int) (C := RX7) (T := TX7) (N := 9) hx hb hts (fun _ h => List.mem_cons_of_mem _ (List.mem_append_right _ h)) tyX7 tyX7_ok nmX7 hown hK.1 hP hD hS 0 rfl rfl 7 (by decide) (hts (.fieldLink RX7 69 "CutAtlas$SetHunt" "denseSet" "I") (List.mem_of_getElem? (i := 1) rfl)) (fun _ h9 => h9) rfl (by decide +kernel) rfl rfl (Nat.le_of_ble_eq_true rfl) dB_36_1_65.2.1.2.2 (fun H locs hP hD hS => ?_)
    refine pd_K [ob7_0_ xh xc u1 u2 u3 u4 u5 u6 a1 u8] hP hD (fun hP hD => ?_)
    refine lv_aload_n hx hb dB_36_1_65.2.2.1.1 rfl (lv_at hl 4 rfl) ?_
    refine lv_iload_n hx hb dB_36_1_65.2.2.1.2 rfl (lv_at hl 6 rfl) ?_
    refine va_put (ci := 7) (v := .int a2) (ty := .int) (C := RX7) (T := TX7) (N := 9) hx hb hts (fun _ h => List.mem_cons_of_mem _ (List.mem_append_right _ h)) tyX7 tyX7_ok nmX7 hown hK.1 hP hD hS 0 rfl rfl 8 (by decide) (hts (.fieldLink RX7 72 "CutAtlas$SetHunt" "denseSum" "I") (List.mem_of_getElem? (i := 2) rfl)) (fun _ h9 => h9) rfl (by decide +kernel) rfl rfl (Nat.le_of_ble_eq_true rfl) dB_36_1_65.2.2.2.1 (fun H locs hP hD hS => ?_)
    refine pd_K [ob7_0_ xh xc u1 u2 u3 u4 u5 u6 a1 a2] hP hD (fun hP hD => ?_)
    rw [hQ]
    exact W.vret hx hb hr (fun t ht hW => ⟨⟨(), rfl, trivial, a1, a2, by rw [ht]; exact hP, hD⟩, hS.F ht⟩) hS.2.2 dB_36_1_65.2.2.2.2
  · have t_5 : ¬ y_4.toInt < y_3.toInt := fun h => c_5 (Int32.lt_iff_toInt_lt.mpr h)
    refine lv_iload hx hb dB_36_1_65.1.1.2.2 (lv_at hl 1 rfl) ?_
    refine lv_iload hx hb dB_36_1_65.1.2.1.1 (lv_at hl 0 rfl) ?_
    refine lv_icmp_ne (tgt := 58) hx hb dB_36_1_65.1.2.1.2 (by decide) (fun c_6 => ?_) (fun c_6 => ?_)
    · have t_6 : ¬ y_3.toInt = y_4.toInt := fun h => c_6 (Int32.toInt_inj.mp h)
      rw [hQ]
      exact W.vret hx hb hr (fun t ht hW => ⟨⟨(), rfl, trivial, u7, u8, by rw [ht]; exact hP, hD⟩, hS.F ht⟩) hS.2.2 dB_36_1_65.2.2.2.2
    · have t_6 : y_3.toInt = y_4.toInt := congrArg Int32.toInt c_6
      refine lv_iload_n hx hb dB_36_1_65.1.2.2.1 rfl (lv_at hl 3 rfl) ?_
      refine lv_iload hx hb dB_36_1_65.1.2.2.2 (lv_at hl 2 rfl) ?_
      refine lv_icmp_le (tgt := 58) hx hb dB_36_1_65.2.1.1.1 (by decide) (fun c_7 => ?_) (fun c_7 => ?_)
      · have t_7 : r_1.toInt ≤ r_2.toInt := Int32.le_iff_toInt_le.mp c_7
        rw [hQ]
        exact W.vret hx hb hr (fun t ht hW => ⟨⟨(), rfl, trivial, u7, u8, by rw [ht]; exact hP, hD⟩, hS.F ht⟩) hS.2.2 dB_36_1_65.2.2.2.2
      · have t_7 : ¬ r_1.toInt ≤ r_2.toInt := fun h => c_7 (Int32.le_iff_toInt_le.mpr h)
        refine lv_aload_n hx hb dB_36_1_65.2.1.1.2 rfl (lv_at hl 4 rfl) ?_
        refine lv_iload_n hx hb dB_36_1_65.2.1.2.1 rfl (lv_at hl 5 rfl) ?_
        refine va_put (ci := 7) (v := .int a1) (ty := .int) (C := RX7) (T := TX7) (N := 9) hx hb hts (fun _ h => List.mem_cons_of_mem _ (List.mem_append_right _ h)) tyX7 tyX7_ok nmX7 hown hK.1 hP hD hS 0 rfl rfl 7 (by decide) (hts (.fieldLink RX7 69 "CutAtlas$SetHunt" "denseSet" "I") (List.mem_of_getElem? (i := 1) rfl)) (fun _ h9 => h9) rfl (by decide +kernel) rfl rfl (Nat.le_of_ble_eq_true rfl) dB_36_1_65.2.1.2.2 (fun H locs hP hD hS => ?_)
        refine pd_K [ob7_0_ xh xc u1 u2 u3 u4 u5 u6 a1 u8] hP hD (fun hP hD => ?_)
        refine lv_aload_n hx hb dB_36_1_65.2.2.1.1 rfl (lv_at hl 4 rfl) ?_
        refine lv_iload_n hx hb dB_36_1_65.2.2.1.2 rfl (lv_at hl 6 rfl) ?_
        refine va_put (ci := 7) (v := .int a2) (ty := .int) (C := RX7) (T := TX7) (N := 9) hx hb hts (fun _ h => List.mem_cons_of_mem _ (List.mem_append_right _ h)) tyX7 tyX7_ok nmX7 hown hK.1 hP hD hS 0 rfl rfl 8 (by decide) (hts (.fieldLink RX7 72 "CutAtlas$SetHunt" "denseSum" "I") (List.mem_of_getElem? (i := 2) rfl)) (fun _ h9 => h9) rfl (by decide +kernel) rfl rfl (Nat.le_of_ble_eq_true rfl) dB_36_1_65.2.2.2.1 (fun H locs hP hD hS => ?_)
        refine pd_K [ob7_0_ xh xc u1 u2 u3 u4 u5 u6 a1 a2] hP hD (fun hP hD => ?_)
        rw [hQ]
        exact W.vret hx hb hr (fun t ht hW => ⟨⟨(), rfl, trivial, a1, a2, by rw [ht]; exact hP, hD⟩, hS.F ht⟩) hS.2.2 dB_36_1_65.2.2.2.2
end

section
set_option maxHeartbeats 4000000 in
set_option maxRecDepth 100000 in
theorem c_X7_chooseForCut_0 (l : Launch) (D : va_G) (cy : Nat → ClassId) (sz : Nat) (xh : Nat) (u1 : Int32) (u2 : Int32) (u3 : Int32) (u4 : Int32) (u5 : Int32) (u6 : Int32) (u7 : Int32) (u8 : Int32) (xc : Nat) (xk : Nat) (clo : Nat) (cro : Nat) (c4 : Nat) (c5 : Nat) (c6 : Nat) (c7 : Nat) (c8 : Nat) (xn : Nat) (n1 : Nat) (n2 : Nat) (n3 : Nat) (n4 : Nat) (n5 : Nat) (vp : Int32) (vn : Int32) (rl : Nat → Nat) (Ml : Nat → Nat → Int32) (a1 : Int32) (a2 : Int32) (a3 : Int32) (hvp : 0 ≤ vp.toInt ∧ vp.toInt ≤ 12) (q1 : -1 ≤ a1.toInt ∧ a1.toInt < 0) : Met l yX7_chooseForCut wsX7_chooseForCut ({ frames := 1, cells := 0, slots := 0, locals := 22 }) (va_Pc [.ref xh, .int a1, .int a2, .int a3] (fun U => U.heap.size = sz ∧ va_P D vwCl [ob7_0_ xh xc u1 u2 u3 u4 u5 u6 u7 u8, ob0_0_ xc xn xk clo cro c4 c5 c6 c7 c8, ob3_0_ xn vp vn n1 n2 n3 n4 n5, aq_ cy 6 clo 12 (gf_ rl), ai_ cy (rl 0) 12 (Ml 0), ai_ cy (rl 1) 12 (Ml 1), ai_ cy (rl 2) 12 (Ml 2), ai_ cy (rl 3) 12 (Ml 3), ai_ cy (rl 4) 12 (Ml 4), ai_ cy (rl 5) 12 (Ml 5), ai_ cy (rl 6) 12 (Ml 6), ai_ cy (rl 7) 12 (Ml 7), ai_ cy (rl 8) 12 (Ml 8), ai_ cy (rl 9) 12 (Ml 9), ai_ cy (rl 10) 12 (Ml 10), ai_ cy (rl 11) 12 (Ml 11)] U.heap ∧ kg_ D cy U ∧ va_D (fun _ => True) [ob7_0_ xh xc u1 u2 u3 u4 u5 u6 u7 u8, ob0_0_ xc xn xk clo cro c4 c5 c6 c7 c8, ob3_0_ xn vp vn n1 n2 n3 n4 n5, aq_ cy 6 clo 12 (gf_ rl), ai_ cy (rl 0) 12 (Ml 0), ai_ cy (rl 1) 12 (Ml 1), ai_ cy (rl 2) 12 (Ml 2), ai_ cy (rl 3) 12 (Ml 3), ai_ cy (rl 4) 12 (Ml 4), ai_ cy (rl 5) 12 (Ml 5), ai_ cy (rl 6) 12 (Ml 6), ai_ cy (rl 7) 12 (Ml 7), ai_ cy (rl 8) 12 (Ml 8), ai_ cy (rl 9) 12 (Ml 9), ai_ cy (rl 10) 12 (Ml 10), ai_ cy (rl 11) 12 (Ml 11)])) (va_Qv (fun (_ : Unit) => True) (fun (_ : Unit) (t : State) => ∃ (v5 : Int32), ∃ (v6 : Int32), va_P D vwCl [ob7_0_ xh xc u1 u2 u3 u4 v5 v6 u7 u8, ob0_0_ xc xn xk clo cro c4 c5 c6 c7 c8, ob3_0_ xn vp vn n1 n2 n3 n4 n5, aq_ cy 6 clo 12 (gf_ rl), ai_ cy (rl 0) 12 (Ml 0), ai_ cy (rl 1) 12 (Ml 1), ai_ cy (rl 2) 12 (Ml 2), ai_ cy (rl 3) 12 (Ml 3), ai_ cy (rl 4) 12 (Ml 4), ai_ cy (rl 5) 12 (Ml 5), ai_ cy (rl 6) 12 (Ml 6), ai_ cy (rl 7) 12 (Ml 7), ai_ cy (rl 8) 12 (Ml 8), ai_ cy (rl 9) 12 (Ml 9), ai_ cy (rl 10) 12 (Ml 10), ai_ cy (rl 11) 12 (Ml 11)] t.heap ∧ va_D (va_A [ob7_0_ xh xc u1 u2 u3 u4 u5 u6 u7 u8, ob0_0_ xc xn xk clo cro c4 c5 c6 c7 c8, ob3_0_ xn vp vn n1 n2 n3 n4 n5, aq_ cy 6 clo 12 (gf_ rl), ai_ cy (rl 0) 12 (Ml 0), ai_ cy (rl 1) 12 (Ml 1), ai_ cy (rl 2) 12 (Ml 2), ai_ cy (rl 3) 12 (Ml 3), ai_ cy (rl 4) 12 (Ml 4), ai_ cy (rl 5) 12 (Ml 5), ai_ cy (rl 6) 12 (Ml 6), ai_ cy (rl 7) 12 (Ml 7), ai_ cy (rl 8) 12 (Ml 8), ai_ cy (rl 9) 12 (Ml 9), ai_ cy (rl 10) 12 (Ml 10), ai_ cy (rl 11) 12 (Ml 11)] sz) [ob7_0_ xh xc u1 u2 u3 u4 v5 v6 u7 u8, ob0_0_ xc xn xk clo cro c4 c5 c6 c7 c8, ob3_0_ xn vp vn n1 n2 n3 n4 n5, aq_ cy 6 clo 12 (gf_ rl), ai_ cy (rl 0) 12 (Ml 0), ai_ cy (rl 1) 12 (Ml 1), ai_ cy (rl 2) 12 (Ml 2), ai_ cy (rl 3) 12 (Ml 3), ai_ cy (rl 4) 12 (Ml 4), ai_ cy (rl 5) 12 (Ml 5), ai_ cy (rl 6) 12 (Ml 6), ai_ cy (rl 7) 12 (Ml 7), ai_ cy (rl 8) 12 (Ml 8), ai_ cy (rl 9) 12 (Ml 9), ai_ cy (rl 10) 12 (Ml 10), ai_ cy (rl 11) 12 (Ml 11)]) (va_A [ob7_0_ xh xc u1 u2 u3 u4 u5 u6 u7 u8, ob0_0_ xc xn xk clo cro c4 c5 c6 c7 c8, ob3_0_ xn vp vn n1 n2 n3 n4 n5, aq_ cy 6 clo 12 (gf_ rl), ai_ cy (rl 0) 12 (Ml 0), ai_ cy (rl 1) 12 (Ml 1), ai_ cy (rl 2) 12 (Ml 2), ai_ cy (rl 3) 12 (Ml 3), ai_ cy (rl 4) 12 (Ml 4), ai_ cy (rl 5) 12 (Ml 5), ai_ cy (rl 6) 12 (Ml 6), ai_ cy (rl 7) 12 (Ml 7), ai_ cy (rl 8) 12 (Ml 8), ai_ cy (rl 9) 12 (Ml 9), ai_ cy (rl 10) 12 (Ml 10), ai_ cy (rl 11) 12 (Ml 11)] sz)) 0 0 (va_A [ob7_0_ xh xc u1 u2 u3 u4 u5 u6 u7 u8, ob0_0_ xc xn xk clo cro c4 c5 c6 c7 c8, ob3_0_ xn vp vn n1 n2 n3 n4 n5, aq_ cy 6 clo 12 (gf_ rl), ai_ cy (rl 0) 12 (Ml 0), ai_ cy (rl 1) 12 (Ml 1), ai_ cy (rl 2) 12 (Ml 2), ai_ cy (rl 3) 12 (Ml 3), ai_ cy (rl 4) 12 (Ml 4), ai_ cy (rl 5) 12 (Ml 5), ai_ cy (rl 6) 12 (Ml 6), ai_ cy (rl 7) 12 (Ml 7), ai_ cy (rl 8) 12 (Ml 8), ai_ cy (rl 9) 12 (Ml 9), ai_ cy (rl 10) 12 (Ml 10), ai_ cy (rl 11) 12 (Ml 11)] sz) := by
  refine ofQ (cc := cX7_chooseForCut) (maxL := 5) (ret := none) (by decide) rfl ?_
  intro p e s m args below meth c s₁ Q hQ B hml hv
  obtain ⟨rfl, hsz, hP, hK, hD0⟩ := hv
  have hG := hK.2
  have hK := hK.1
  have hx := B.exec
  have hb := B.bytes
  have hr := B.returns
  have hts := atoms_spec (ws := wsX7_chooseForCut) B.pre
  have hown : s.vm.findClass RX7 = some m.cls := by have h_ := findClass_of_methodNamed B.named; exact h_
  have hlocks := B.notSynchronized
  subst hsz
  have hD := hD0.self (sz := s.heap.size)
  generalize hAe : va_A [ob7_0_ xh xc u1 u2 u3 u4 u5 u6 u7 u8, ob0_0_ xc xn xk clo cro c4 c5 c6 c7 c8, ob3_0_ xn vp vn n1 n2 n3 n4 n5, aq_ cy 6 clo 12 (gf_ rl), ai_ cy (rl 0) 12 (Ml 0), ai_ cy (rl 1) 12 (Ml 1), ai_ cy (rl 2) 12 (Ml 2), ai_ cy (rl 3) 12 (Ml 3), ai_ cy (rl 4) 12 (Ml 4), ai_ cy (rl 5) 12 (Ml 5), ai_ cy (rl 6) 12 (Ml 6), ai_ cy (rl 7) 12 (Ml 7), ai_ cy (rl 8) 12 (Ml 8), ai_ cy (rl 9) 12 (Ml 9), ai_ cy (rl 10) 12 (Ml 10), ai_ cy (rl 11) 12 (Ml 11)] s.heap.size = A at hD hQ
  have hA : ∀ q : Nat, s.heap.size ≤ q → A q := fun q h => by rw [← hAe]; exact Or.inr h
  have hS : va_S A s.heap s.heap [] := va_S.rf
  have hl := lv_entry ([.ref xh, .int a1, .int a2, .int a3]) (n := 5) (Nat.le_of_ble_eq_true rfl)
  rw [lg_entry_eq]
  generalize (lg_sl ([.ref xh, .int a1, .int a2, .int a3]) ++ List.replicate (5 - (lg_sl ([.ref xh, .int a1, .int a2, .int a3])).length) Slot.unset).toArray = ls at hl ⊢
  have hl : lv_has ls 5 [(0, .ref xh), (1, .int a1), (2, .int a2), (3, .int a3)] := hl
  have zm9 : ((-9) : Int32).toInt = -9 := by decide
  have z0 : (0 : Int32).toInt = 0 := by decide
  refine lv_iload_n hx hb dB_36_1_58.1.1.1.1 rfl (lv_at hl 3 rfl) ?_
  refine lv_aload_n hx hb dB_36_1_58.1.1.1.2 rfl (lv_at hl 0 rfl) ?_
  refine va_get (ci := 7) (v := .int u3) (C := RX7) (T := TX7) (N := 9) hx hb hts (fun _ h => List.mem_cons_of_mem _ (List.mem_append_left _ (List.mem_append_left _ (List.mem_append_right _ h)))) hown hK.1 hP 0 rfl rfl 3 (by decide) (hts (.fieldLink RX7 33 "CutAtlas$SetHunt" "aim" "I") (List.mem_of_getElem? (i := 1) rfl)) (fun _ h9 => h9) rfl dB_36_1_58.1.1.2.1 ?_
  refine lv_icmp_gt (tgt := 17) hx hb dB_36_1_58.1.1.2.2 (by decide) (fun c_1 => ?_) (fun c_1 => ?_)
  · have t_1 : u3.toInt < a3.toInt := Int32.lt_iff_toInt_lt.mp c_1
    rw [hQ]
    exact W.vret hx hb hr (fun t ht hW => ⟨⟨(), rfl, trivial, u5, u6, by rw [ht]; exact hP, hD⟩, hS.F ht⟩) hS.2.2 dB_36_1_58.2.1.1.1
  · have t_1 : ¬ u3.toInt < a3.toInt := fun h => c_1 (Int32.lt_iff_toInt_lt.mpr h)
    refine lv_aload_n hx hb dB_36_1_58.1.2.1.1 rfl (lv_at hl 0 rfl) ?_
    refine va_get (ci := 7) (v := .int u6) (C := RX7) (T := TX7) (N := 9) hx hb hts (fun _ h => List.mem_cons_of_mem _ (List.mem_append_left _ (List.mem_append_left _ (List.mem_append_right _ h)))) hown hK.1 hP 0 rfl rfl 6 (by decide) (hts (.fieldLink RX7 24 "CutAtlas$SetHunt" "found" "I") (List.mem_of_getElem? (i := 2) rfl)) (fun _ h9 => h9) rfl dB_36_1_58.1.2.1.2 ?_
    refine lv_bipush (v := (-9)) hx hb dB_36_1_58.1.2.2.1 (by decide) ?_
    refine lv_icmp_eq (tgt := 18) hx hb dB_36_1_58.1.2.2.2 (by decide) (fun c_2 => ?_) (fun c_2 => ?_)
    · have t_2 : u6.toInt = ((-9) : Int32).toInt := congrArg Int32.toInt c_2
      refine lv_iload_n hx hb dB_36_1_58.2.1.1.2 rfl (lv_at hl 1 rfl) ?_
      refine lv_if_ge (tgt := 29) hx hb dB_36_1_58.2.1.2.1 (by decide) (fun c_3 => ?_) (fun c_3 => ?_)
      · have t_3 : (0 : Int32).toInt ≤ a1.toInt := Int32.le_iff_toInt_le.mp c_3
        exfalso; omega
      · have t_3 : ¬ (0 : Int32).toInt ≤ a1.toInt := fun h => c_3 (Int32.le_iff_toInt_le.mpr h)
        refine lv_aload_n hx hb dB_36_1_58.2.1.2.2 rfl (lv_at hl 0 rfl) ?_
        refine lv_iload_n hx hb dB_36_1_58.2.2.1.1 rfl (lv_at hl 2 rfl) ?_
        refine lv_iload_n hx hb dB_36_1_58.2.2.1.2 rfl (lv_at hl 3 rfl) ?_
        refine ct_S hP hD hS hA [ob7_0_ xh xc u1 u2 u3 u4 u5 u6 u7 u8] [0] (by decide) rfl (fun hPc hDw hFc hC_ => ?_)
        refine va_callv (va_runV (As := [.int a2, .int a3]) (rest := []) ⟨hx, hb, hml, hown, hts⟩ (c_X7_meet l D cy s.heap.size xh u1 u2 u3 u4 u5 u6 u7 u8 xc a2 a3) (cwV 2 hts gX7_chooseForCut_X7_meet rfl rfl rfl ⟨rfl, hd_X7_meet⟩ ⟨Nat.le_of_ble_eq_true rfl, Nat.le_of_ble_eq_true rfl⟩) ⟨bl_, va_recvX hK.1 hP (ci := 7) (q0 := 0) rfl rfl, fun U hU hW => ⟨rfl, by rw [hU], by rw [hU]; exact hPc, kk_mv hW hK, hDw⟩⟩ rfl rfl hl.1 rfl (lv_room (Nat.le_of_ble_eq_true rfl)) dB_36_1_58.2.2.2.1 ⟨Nat.le_of_ble_eq_true rfl, Nat.le_of_ble_eq_true rfl⟩) hS (fun q _ h => hFc q h) hFc (fun u t H locs ht hvm hw hB hz1 hk1 hS => ?_)
        obtain ⟨v5_5, v6_6, hP1, hD1⟩ := hB
        rw [ht] at hP1
        obtain ⟨hP, hD⟩ := va_join (wr := [ob0_0_ xc xn xk clo cro c4 c5 c6 c7 c8, ob3_0_ xn vp vn n1 n2 n3 n4 n5, aq_ cy 6 clo 12 (gf_ rl), ai_ cy (rl 0) 12 (Ml 0), ai_ cy (rl 1) 12 (Ml 1), ai_ cy (rl 2) 12 (Ml 2), ai_ cy (rl 3) 12 (Ml 3), ai_ cy (rl 4) 12 (Ml 4), ai_ cy (rl 5) 12 (Ml 5), ai_ cy (rl 6) 12 (Ml 6), ai_ cy (rl 7) 12 (Ml 7), ai_ cy (rl 8) 12 (Ml 8), ai_ cy (rl 9) 12 (Ml 9), ai_ cy (rl 10) 12 (Ml 10), ai_ cy (rl 11) 12 (Ml 11)]) (w1 := [ob7_0_ xh xc u1 u2 u3 u4 v5_5 v6_6 u7 u8]) hP hD [0] [1, 2, 3, 4, 5, 6, 7, 8, 9, 10, 11, 12, 13, 14, 15] hC_ rfl (by decide +kernel) (by decide +kernel) hk1 hFc hP1 hD1
        refine pd_S hP hD [ob7_0_ xh xc u1 u2 u3 u4 v5_5 v6_6 u7 u8, ob0_0_ xc xn xk clo cro c4 c5 c6 c7 c8, ob3_0_ xn vp vn n1 n2 n3 n4 n5, aq_ cy 6 clo 12 (gf_ rl), ai_ cy (rl 0) 12 (Ml 0), ai_ cy (rl 1) 12 (Ml 1), ai_ cy (rl 2) 12 (Ml 2), ai_ cy (rl 3) 12 (Ml 3), ai_ cy (rl 4) 12 (Ml 4), ai_ cy (rl 5) 12 (Ml 5), ai_ cy (rl 6) 12 (Ml 6), ai_ cy (rl 7) 12 (Ml 7), ai_ cy (rl 8) 12 (Ml 8), ai_ cy (rl 9) 12 (Ml 9), ai_ cy (rl 10) 12 (Ml 10), ai_ cy (rl 11) 12 (Ml 11)] [15, 0, 1, 2, 3, 4, 5, 6, 7, 8, 9, 10, 11, 12, 13, 14] (by decide +kernel) rfl (fun hP hD => ?_)
        rw [hQ]
        exact W.vret hx hb hr (fun t ht hW => ⟨⟨(), rfl, trivial, v5_5, v6_6, by rw [ht]; exact hP, hD⟩, hS.F ht⟩) hS.2.2 dB_36_1_58.2.2.2.2
    · have t_2 : ¬ u6.toInt = ((-9) : Int32).toInt := fun h => c_2 (Int32.toInt_inj.mp h)
      rw [hQ]
      exact W.vret hx hb hr (fun t ht hW => ⟨⟨(), rfl, trivial, u5, u6, by rw [ht]; exact hP, hD⟩, hS.F ht⟩) hS.2.2 dB_36_1_58.2.1.1.1

set_option maxHeartbeats 4000000 in
set_option maxRecDepth 100000 in
theorem c_X7_chooseForCut_1 (l : Launch) (D : va_G) (cy : Nat → ClassId) (sz : Nat) (xh : Nat) (u1 : Int32) (u2 : Int32) (u3 : Int32) (u4 : Int32) (u5 : Int32) (u6 : Int32) (u7 : Int32) (u8 : Int32) (xc : Nat) (xk : Nat) (clo : Nat) (cro : Nat) (c4 : Nat) (c5 : Nat) (c6 : Nat) (c7 : Nat) (c8 : Nat) (xn : Nat) (n1 : Nat) (n2 : Nat) (n3 : Nat) (n4 : Nat) (n5 : Nat) (vp : Int32) (vn : Int32) (rl : Nat → Nat) (Ml : Nat → Nat → Int32) (a1 : Int32) (a2 : Int32) (a3 : Int32) (hvp : 0 ≤ vp.toInt ∧ vp.toInt ≤ 12) (q1 : -1 ≤ a1.toInt ∧ a1.toInt < 1) : Met l yX7_chooseForCut wsX7_chooseForCut ({ frames := 2, cells := 0, slots := 0, locals := 46 }) (va_Pc [.ref xh, .int a1, .int a2, .int a3] (fun U => U.heap.size = sz ∧ va_P D vwCl [ob7_0_ xh xc u1 u2 u3 u4 u5 u6 u7 u8, ob0_0_ xc xn xk clo cro c4 c5 c6 c7 c8, ob3_0_ xn vp vn n1 n2 n3 n4 n5, aq_ cy 6 clo 12 (gf_ rl), ai_ cy (rl 0) 12 (Ml 0), ai_ cy (rl 1) 12 (Ml 1), ai_ cy (rl 2) 12 (Ml 2), ai_ cy (rl 3) 12 (Ml 3), ai_ cy (rl 4) 12 (Ml 4), ai_ cy (rl 5) 12 (Ml 5), ai_ cy (rl 6) 12 (Ml 6), ai_ cy (rl 7) 12 (Ml 7), ai_ cy (rl 8) 12 (Ml 8), ai_ cy (rl 9) 12 (Ml 9), ai_ cy (rl 10) 12 (Ml 10), ai_ cy (rl 11) 12 (Ml 11)] U.heap ∧ kg_ D cy U ∧ va_D (fun _ => True) [ob7_0_ xh xc u1 u2 u3 u4 u5 u6 u7 u8, ob0_0_ xc xn xk clo cro c4 c5 c6 c7 c8, ob3_0_ xn vp vn n1 n2 n3 n4 n5, aq_ cy 6 clo 12 (gf_ rl), ai_ cy (rl 0) 12 (Ml 0), ai_ cy (rl 1) 12 (Ml 1), ai_ cy (rl 2) 12 (Ml 2), ai_ cy (rl 3) 12 (Ml 3), ai_ cy (rl 4) 12 (Ml 4), ai_ cy (rl 5) 12 (Ml 5), ai_ cy (rl 6) 12 (Ml 6), ai_ cy (rl 7) 12 (Ml 7), ai_ cy (rl 8) 12 (Ml 8), ai_ cy (rl 9) 12 (Ml 9), ai_ cy (rl 10) 12 (Ml 10), ai_ cy (rl 11) 12 (Ml 11)])) (va_Qv (fun (_ : Unit) => True) (fun (_ : Unit) (t : State) => ∃ (v5 : Int32), ∃ (v6 : Int32), va_P D vwCl [ob7_0_ xh xc u1 u2 u3 u4 v5 v6 u7 u8, ob0_0_ xc xn xk clo cro c4 c5 c6 c7 c8, ob3_0_ xn vp vn n1 n2 n3 n4 n5, aq_ cy 6 clo 12 (gf_ rl), ai_ cy (rl 0) 12 (Ml 0), ai_ cy (rl 1) 12 (Ml 1), ai_ cy (rl 2) 12 (Ml 2), ai_ cy (rl 3) 12 (Ml 3), ai_ cy (rl 4) 12 (Ml 4), ai_ cy (rl 5) 12 (Ml 5), ai_ cy (rl 6) 12 (Ml 6), ai_ cy (rl 7) 12 (Ml 7), ai_ cy (rl 8) 12 (Ml 8), ai_ cy (rl 9) 12 (Ml 9), ai_ cy (rl 10) 12 (Ml 10), ai_ cy (rl 11) 12 (Ml 11)] t.heap ∧ va_D (va_A [ob7_0_ xh xc u1 u2 u3 u4 u5 u6 u7 u8, ob0_0_ xc xn xk clo cro c4 c5 c6 c7 c8, ob3_0_ xn vp vn n1 n2 n3 n4 n5, aq_ cy 6 clo 12 (gf_ rl), ai_ cy (rl 0) 12 (Ml 0), ai_ cy (rl 1) 12 (Ml 1), ai_ cy (rl 2) 12 (Ml 2), ai_ cy (rl 3) 12 (Ml 3), ai_ cy (rl 4) 12 (Ml 4), ai_ cy (rl 5) 12 (Ml 5), ai_ cy (rl 6) 12 (Ml 6), ai_ cy (rl 7) 12 (Ml 7), ai_ cy (rl 8) 12 (Ml 8), ai_ cy (rl 9) 12 (Ml 9), ai_ cy (rl 10) 12 (Ml 10), ai_ cy (rl 11) 12 (Ml 11)] sz) [ob7_0_ xh xc u1 u2 u3 u4 v5 v6 u7 u8, ob0_0_ xc xn xk clo cro c4 c5 c6 c7 c8, ob3_0_ xn vp vn n1 n2 n3 n4 n5, aq_ cy 6 clo 12 (gf_ rl), ai_ cy (rl 0) 12 (Ml 0), ai_ cy (rl 1) 12 (Ml 1), ai_ cy (rl 2) 12 (Ml 2), ai_ cy (rl 3) 12 (Ml 3), ai_ cy (rl 4) 12 (Ml 4), ai_ cy (rl 5) 12 (Ml 5), ai_ cy (rl 6) 12 (Ml 6), ai_ cy (rl 7) 12 (Ml 7), ai_ cy (rl 8) 12 (Ml 8), ai_ cy (rl 9) 12 (Ml 9), ai_ cy (rl 10) 12 (Ml 10), ai_ cy (rl 11) 12 (Ml 11)]) (va_A [ob7_0_ xh xc u1 u2 u3 u4 u5 u6 u7 u8, ob0_0_ xc xn xk clo cro c4 c5 c6 c7 c8, ob3_0_ xn vp vn n1 n2 n3 n4 n5, aq_ cy 6 clo 12 (gf_ rl), ai_ cy (rl 0) 12 (Ml 0), ai_ cy (rl 1) 12 (Ml 1), ai_ cy (rl 2) 12 (Ml 2), ai_ cy (rl 3) 12 (Ml 3), ai_ cy (rl 4) 12 (Ml 4), ai_ cy (rl 5) 12 (Ml 5), ai_ cy (rl 6) 12 (Ml 6), ai_ cy (rl 7) 12 (Ml 7), ai_ cy (rl 8) 12 (Ml 8), ai_ cy (rl 9) 12 (Ml 9), ai_ cy (rl 10) 12 (Ml 10), ai_ cy (rl 11) 12 (Ml 11)] sz)) 0 0 (va_A [ob7_0_ xh xc u1 u2 u3 u4 u5 u6 u7 u8, ob0_0_ xc xn xk clo cro c4 c5 c6 c7 c8, ob3_0_ xn vp vn n1 n2 n3 n4 n5, aq_ cy 6 clo 12 (gf_ rl), ai_ cy (rl 0) 12 (Ml 0), ai_ cy (rl 1) 12 (Ml 1), ai_ cy (rl 2) 12 (Ml 2), ai_ cy (rl 3) 12 (Ml 3), ai_ cy (rl 4) 12 (Ml 4), ai_ cy (rl 5) 12 (Ml 5), ai_ cy (rl 6) 12 (Ml 6), ai_ cy (rl 7) 12 (Ml 7), ai_ cy (rl 8) 12 (Ml 8), ai_ cy (rl 9) 12 (Ml 9), ai_ cy (rl 10) 12 (Ml 10), ai_ cy (rl 11) 12 (Ml 11)] sz) := by
  refine ofQ (cc := cX7_chooseForCut) (maxL := 5) (ret := none) (by decide) rfl ?_
  intro p e s m args below meth c s₁ Q hQ B hml hv
  obtain ⟨rfl, hsz, hP, hK, hD0⟩ := hv
  have hG := hK.2
  have hK := hK.1
  have hx := B.exec
  have hb := B.bytes
  have hr := B.returns
  have hts := atoms_spec (ws := wsX7_chooseForCut) B.pre
  have hown : s.vm.findClass RX7 = some m.cls := by have h_ := findClass_of_methodNamed B.named; exact h_
  have hlocks := B.notSynchronized
  subst hsz
  have hD := hD0.self (sz := s.heap.size)
  generalize hAe : va_A [ob7_0_ xh xc u1 u2 u3 u4 u5 u6 u7 u8, ob0_0_ xc xn xk clo cro c4 c5 c6 c7 c8, ob3_0_ xn vp vn n1 n2 n3 n4 n5, aq_ cy 6 clo 12 (gf_ rl), ai_ cy (rl 0) 12 (Ml 0), ai_ cy (rl 1) 12 (Ml 1), ai_ cy (rl 2) 12 (Ml 2), ai_ cy (rl 3) 12 (Ml 3), ai_ cy (rl 4) 12 (Ml 4), ai_ cy (rl 5) 12 (Ml 5), ai_ cy (rl 6) 12 (Ml 6), ai_ cy (rl 7) 12 (Ml 7), ai_ cy (rl 8) 12 (Ml 8), ai_ cy (rl 9) 12 (Ml 9), ai_ cy (rl 10) 12 (Ml 10), ai_ cy (rl 11) 12 (Ml 11)] s.heap.size = A at hD hQ
  have hA : ∀ q : Nat, s.heap.size ≤ q → A q := fun q h => by rw [← hAe]; exact Or.inr h
  have hS : va_S A s.heap s.heap [] := va_S.rf
  have hl := lv_entry ([.ref xh, .int a1, .int a2, .int a3]) (n := 5) (Nat.le_of_ble_eq_true rfl)
  rw [lg_entry_eq]
  generalize (lg_sl ([.ref xh, .int a1, .int a2, .int a3]) ++ List.replicate (5 - (lg_sl ([.ref xh, .int a1, .int a2, .int a3])).length) Slot.unset).toArray = ls at hl ⊢
  have hl : lv_has ls 5 [(0, .ref xh), (1, .int a1), (2, .int a2), (3, .int a3)] := hl
  have zm9 : ((-9) : Int32).toInt = -9 := by decide
  have z0 : (0 : Int32).toInt = 0 := by decide
  have z1 : (1 : Int32).toInt = 1 := by decide
  refine lv_iload_n hx hb dB_36_1_58.1.1.1.1 rfl (lv_at hl 3 rfl) ?_
  refine lv_aload_n hx hb dB_36_1_58.1.1.1.2 rfl (lv_at hl 0 rfl) ?_
  refine va_get (ci := 7) (v := .int u3) (C := RX7) (T := TX7) (N := 9) hx hb hts (fun _ h => List.mem_cons_of_mem _ (List.mem_append_left _ (List.mem_append_left _ (List.mem_append_right _ h)))) hown hK.1 hP 0 rfl rfl 3 (by decide) (hts (.fieldLink RX7 33 "CutAtlas$SetHunt" "aim" "I") (List.mem_of_getElem? (i := 1) rfl)) (fun _ h9 => h9) rfl dB_36_1_58.1.1.2.1 ?_
  refine lv_icmp_gt (tgt := 17) hx hb dB_36_1_58.1.1.2.2 (by decide) (fun c_1 => ?_) (fun c_1 => ?_)
  · have t_1 : u3.toInt < a3.toInt := Int32.lt_iff_toInt_lt.mp c_1
    rw [hQ]
    exact W.vret hx hb hr (fun t ht hW => ⟨⟨(), rfl, trivial, u5, u6, by rw [ht]; exact hP, hD⟩, hS.F ht⟩) hS.2.2 dB_36_1_58.2.1.1.1
  · have t_1 : ¬ u3.toInt < a3.toInt := fun h => c_1 (Int32.lt_iff_toInt_lt.mpr h)
    refine lv_aload_n hx hb dB_36_1_58.1.2.1.1 rfl (lv_at hl 0 rfl) ?_
    refine va_get (ci := 7) (v := .int u6) (C := RX7) (T := TX7) (N := 9) hx hb hts (fun _ h => List.mem_cons_of_mem _ (List.mem_append_left _ (List.mem_append_left _ (List.mem_append_right _ h)))) hown hK.1 hP 0 rfl rfl 6 (by decide) (hts (.fieldLink RX7 24 "CutAtlas$SetHunt" "found" "I") (List.mem_of_getElem? (i := 2) rfl)) (fun _ h9 => h9) rfl dB_36_1_58.1.2.1.2 ?_
    refine lv_bipush (v := (-9)) hx hb dB_36_1_58.1.2.2.1 (by decide) ?_
    refine lv_icmp_eq (tgt := 18) hx hb dB_36_1_58.1.2.2.2 (by decide) (fun c_2 => ?_) (fun c_2 => ?_)
    · have t_2 : u6.toInt = ((-9) : Int32).toInt := congrArg Int32.toInt c_2
      refine lv_iload_n hx hb dB_36_1_58.2.1.1.2 rfl (lv_at hl 1 rfl) ?_
      refine lv_if_ge (tgt := 29) hx hb dB_36_1_58.2.1.2.1 (by decide) (fun c_3 => ?_) (fun c_3 => ?_)
      · have t_3 : (0 : Int32).toInt ≤ a1.toInt := Int32.le_iff_toInt_le.mp c_3
        refine lv_iconst (v := 1) hx hb dB_36_1_59.1.1.1.1 (by decide) ?_
        refine lv_iload_n hx hb dB_36_1_59.1.1.1.2 rfl (lv_at hl 1 rfl) ?_
        refine lv_ishl hx hb dB_36_1_59.1.1.2.1 ?_
        refine lv_topi (fun y_4 ey_4 => ?_)
        refine lv_istore (lv' := [(4, .int y_4), (0, .ref xh), (1, .int a1), (2, .int a2), (3, .int a3)]) hx hb dB_36_1_59.1.1.2.2 hl (by decide) rfl (fun ls hl => ?_)
        have JOIN_5 : ∀ (o5_5 : Int32) (o6_5 : Int32) (H : Heap) (locs : List Loc) (ls : Array Slot), pd_2 D vwCl A [ob7_0_ xh xc u1 u2 u3 u4 o5_5 o6_5 u7 u8, ob0_0_ xc xn xk clo cro c4 c5 c6 c7 c8, ob3_0_ xn vp vn n1 n2 n3 n4 n5, aq_ cy 6 clo 12 (gf_ rl), ai_ cy (rl 0) 12 (Ml 0), ai_ cy (rl 1) 12 (Ml 1), ai_ cy (rl 2) 12 (Ml 2), ai_ cy (rl 3) 12 (Ml 3), ai_ cy (rl 4) 12 (Ml 4), ai_ cy (rl 5) 12 (Ml 5), ai_ cy (rl 6) 12 (Ml 6), ai_ cy (rl 7) 12 (Ml 7), ai_ cy (rl 8) 12 (Ml 8), ai_ cy (rl 9) 12 (Ml 9), ai_ cy (rl 10) 12 (Ml 10), ai_ cy (rl 11) 12 (Ml 11)] H → va_S A s.heap H locs → lv_has ls 5 [(4, .int y_4), (0, .ref xh), (1, .int a1), (2, .int a2), (3, .int a3)] → W p l e ({ frames := 2, cells := 0, slots := 0, locals := 46 } : Room) s m (([.ref xh, .int a1, .int a2, .int a3] : List Value).toArray) below meth c H locs 0 0 Q (F0 m 60 ls []) := by
          intro o5_5 o6_5 H locs ls hPD hS hl; obtain ⟨hP, hD⟩ := hPD
          refine lv_aload_n hx hb dB_36_1_60.1.2.1.2 rfl (lv_at hl 1 rfl) ?_
          refine va_get (ci := 7) (v := .int u2) (C := RX7) (T := TX7) (N := 9) hx hb hts (fun _ h => List.mem_cons_of_mem _ (List.mem_append_left _ (List.mem_append_left _ (List.mem_append_right _ h)))) hown hK.1 hP 0 rfl rfl 2 (by decide) (hts (.fieldLink RX7 30 "CutAtlas$SetHunt" "mustNot" "I") (List.mem_of_getElem? (i := 4) rfl)) (fun _ h9 => h9) rfl dB_36_1_60.1.2.2.1 ?_
          refine lv_iload hx hb dB_36_1_60.1.2.2.2 (lv_at hl 0 rfl) ?_
          refine lv_iand hx hb dB_36_1_60.2.1.1.1 ?_
          refine lv_topi (fun y_6 ey_6 => ?_)
          refine lv_if_ne (tgt := 89) hx hb dB_36_1_60.2.1.1.2 (by decide) (fun c_7 => ?_) (fun c_7 => ?_)
          · have t_7 : ¬ y_6.toInt = (0 : Int32).toInt := fun h => c_7 (Int32.toInt_inj.mp h)
            rw [hQ]
            exact W.vret hx hb hr (fun t ht hW => ⟨⟨(), rfl, trivial, o5_5, o6_5, by rw [ht]; exact hP, hD⟩, hS.F ht⟩) hS.2.2 dB_36_1_61.2.2.2.2
          · have t_7 : y_6.toInt = (0 : Int32).toInt := congrArg Int32.toInt c_7
            refine lv_aload_n hx hb dB_36_1_60.2.1.2.1 rfl (lv_at hl 1 rfl) ?_
            refine lv_iload_n hx hb dB_36_1_60.2.1.2.2 rfl (lv_at hl 2 rfl) ?_
            refine lv_iconst (v := 1) hx hb dB_36_1_60.2.2.1.1 (by decide) ?_
            refine lv_isub hx hb dB_36_1_60.2.2.1.2 ?_
            refine lv_topi (fun y_8 ey_8 => ?_)
            have ty_8 : y_8.toInt = a1.toInt - (1 : Int32).toInt := by rw [ey_8]; exact subI (by omega) (by omega)
            refine lv_iload_n hx hb dB_36_1_60.2.2.2.1 rfl (lv_at hl 3 rfl) ?_
            refine lv_iload hx hb dB_36_1_60.2.2.2.2 (lv_at hl 0 rfl) ?_
            refine lv_ior hx hb dB_36_1_61.1.1.1 ?_
            refine lv_topi (fun y_9 ey_9 => ?_)
            refine lv_iload_n hx hb dB_36_1_61.1.1.2 rfl (lv_at hl 4 rfl) ?_
            refine lv_aload_n hx hb dB_36_1_61.1.2.1 rfl (lv_at hl 1 rfl) ?_
            refine lv_iload_n hx hb dB_36_1_61.1.2.2 rfl (lv_at hl 2 rfl) ?_
            refine lv_iload_n hx hb dB_36_1_61.2.1.1 rfl (lv_at hl 3 rfl) ?_
            refine ct_R hP hD [ob7_0_ xh xc u1 u2 u3 u4 o5_5 o6_5 u7 u8, ob0_0_ xc xn xk clo cro c4 c5 c6 c7 c8, ob3_0_ xn vp vn n1 n2 n3 n4 n5, aq_ cy 6 clo 12 (gf_ rl), ai_ cy (rl 0) 12 (Ml 0), ai_ cy (rl 1) 12 (Ml 1), ai_ cy (rl 2) 12 (Ml 2), ai_ cy (rl 3) 12 (Ml 3), ai_ cy (rl 4) 12 (Ml 4), ai_ cy (rl 5) 12 (Ml 5), ai_ cy (rl 6) 12 (Ml 6), ai_ cy (rl 7) 12 (Ml 7), ai_ cy (rl 8) 12 (Ml 8), ai_ cy (rl 9) 12 (Ml 9), ai_ cy (rl 10) 12 (Ml 10), ai_ cy (rl 11) 12 (Ml 11)] [0, 1, 2, 3, 4, 5, 6, 7, 8, 9, 10, 11, 12, 13, 14, 15] (by decide +kernel) rfl (fun hPc hDw => ?_)
            have hFc := va_free (wc := []) hD hS hA [] rfl
            refine va_calli (va_runV (As := [.int a1, .int a2]) (rest := [.int a3, .int y_9, .int y_8, .ref xh]) ⟨hx, hb, hml, hown, hts⟩ (c_X7_letOut l D cy H.size xh u1 u2 u3 u4 o5_5 o6_5 u7 u8 xc xk clo cro c4 c5 c6 c7 c8 xn n1 n2 n3 n4 n5 vp vn rl Ml a1 a2 (by first | with_reducible assumption | omega | assumption) (by first | with_reducible assumption | omega | assumption)) (cwV 2 hts gX7_chooseForCut_X7_letOut rfl rfl rfl ⟨rfl, hd_X7_letOut⟩ ⟨Nat.le_of_ble_eq_true rfl, Nat.le_of_ble_eq_true rfl⟩) ⟨bl_g, va_recvX hK.1 hP (ci := 7) (q0 := 0) rfl rfl, fun U hU hW => ⟨rfl, by rw [hU], by rw [hU]; exact hPc, ⟨kk_mv hW hK, arrOfT_moved hW.alike hG⟩, hDw⟩⟩ rfl rfl hl.1 rfl (lv_room (Nat.le_of_ble_eq_true rfl)) dB_36_1_61.2.1.2 ⟨Nat.le_of_ble_eq_true rfl, Nat.le_of_ble_eq_true rfl⟩) hS (fun q _ h => hFc q h) hFc (fun r_10 u t H locs ht hvm hw hB hz1 hk1 hS => ?_)
            have hP : va_P D vwCl _ H := ro_keep hP hk1
            refine lv_iadd hx hb dB_36_1_61.2.2.1 ?_
            refine lv_topi (fun y_11 ey_11 => ?_)
            refine ct_S hP hD hS hA [ob7_0_ xh xc u1 u2 u3 u4 o5_5 o6_5 u7 u8, ob0_0_ xc xn xk clo cro c4 c5 c6 c7 c8, ob3_0_ xn vp vn n1 n2 n3 n4 n5, aq_ cy 6 clo 12 (gf_ rl), ai_ cy (rl 0) 12 (Ml 0), ai_ cy (rl 1) 12 (Ml 1), ai_ cy (rl 2) 12 (Ml 2), ai_ cy (rl 3) 12 (Ml 3), ai_ cy (rl 4) 12 (Ml 4), ai_ cy (rl 5) 12 (Ml 5), ai_ cy (rl 6) 12 (Ml 6), ai_ cy (rl 7) 12 (Ml 7), ai_ cy (rl 8) 12 (Ml 8), ai_ cy (rl 9) 12 (Ml 9), ai_ cy (rl 10) 12 (Ml 10), ai_ cy (rl 11) 12 (Ml 11)] [0, 1, 2, 3, 4, 5, 6, 7, 8, 9, 10, 11, 12, 13, 14, 15] (by decide +kernel) rfl (fun hPc hDw hFc hC_ => ?_)
            refine va_callv (va_runV (As := [.int y_8, .int y_9, .int y_11]) (rest := []) ⟨hx, hb, hml, hown, hts⟩ (c_X7_chooseForCut_0 l D cy H.size xh u1 u2 u3 u4 o5_5 o6_5 u7 u8 xc xk clo cro c4 c5 c6 c7 c8 xn n1 n2 n3 n4 n5 vp vn rl Ml y_8 y_9 y_11 (by first | with_reducible assumption | omega | assumption) (by first | with_reducible assumption | omega | assumption)) (cwV 3 hts gX7_chooseForCut_X7_chooseForCut rfl rfl rfl ⟨rfl, hd_X7_chooseForCut⟩ ⟨Nat.le_of_ble_eq_true rfl, Nat.le_of_ble_eq_true rfl⟩) ⟨bl_g, va_recvX hK.1 hP (ci := 7) (q0 := 0) rfl rfl, fun U hU hW => ⟨rfl, by rw [hU], by rw [hU]; exact hPc, ⟨kk_mv hW hK, arrOfT_moved hW.alike hG⟩, hDw⟩⟩ rfl rfl hl.1 rfl (lv_room (Nat.le_of_ble_eq_true rfl)) dB_36_1_61.2.2.2.1 ⟨Nat.le_of_ble_eq_true rfl, Nat.le_of_ble_eq_true rfl⟩) hS (fun q _ h => hFc q h) hFc (fun u t H locs ht hvm hw hB hz1 hk1 hS => ?_)
            obtain ⟨v5_13, v6_14, hP1, hD1⟩ := hB
            rw [ht] at hP1
            obtain ⟨hP, hD⟩ := va_join (wr := []) (w1 := [ob7_0_ xh xc u1 u2 u3 u4 v5_13 v6_14 u7 u8, ob0_0_ xc xn xk clo cro c4 c5 c6 c7 c8, ob3_0_ xn vp vn n1 n2 n3 n4 n5, aq_ cy 6 clo 12 (gf_ rl), ai_ cy (rl 0) 12 (Ml 0), ai_ cy (rl 1) 12 (Ml 1), ai_ cy (rl 2) 12 (Ml 2), ai_ cy (rl 3) 12 (Ml 3), ai_ cy (rl 4) 12 (Ml 4), ai_ cy (rl 5) 12 (Ml 5), ai_ cy (rl 6) 12 (Ml 6), ai_ cy (rl 7) 12 (Ml 7), ai_ cy (rl 8) 12 (Ml 8), ai_ cy (rl 9) 12 (Ml 9), ai_ cy (rl 10) 12 (Ml 10), ai_ cy (rl 11) 12 (Ml 11)]) hP hD [0, 1, 2, 3, 4, 5, 6, 7, 8, 9, 10, 11, 12, 13, 14, 15] [] hC_ rfl (by decide) (by decide) hk1 hFc hP1 hD1
            refine pd_K [ob7_0_ xh xc u1 u2 u3 u4 v5_13 v6_14 u7 u8, ob0_0_ xc xn xk clo cro c4 c5 c6 c7 c8, ob3_0_ xn vp vn n1 n2 n3 n4 n5, aq_ cy 6 clo 12 (gf_ rl), ai_ cy (rl 0) 12 (Ml 0), ai_ cy (rl 1) 12 (Ml 1), ai_ cy (rl 2) 12 (Ml 2), ai_ cy (rl 3) 12 (Ml 3), ai_ cy (rl 4) 12 (Ml 4), ai_ cy (rl 5) 12 (Ml 5), ai_ cy (rl 6) 12 (Ml 6), ai_ cy (rl 7) 12 (Ml 7), ai_ cy (rl 8) 12 (Ml 8), ai_ cy (rl 9) 12 (Ml 9), ai_ cy (rl 10) 12 (Ml 10), ai_ cy (rl 11) 12 (Ml 11)] hP hD (fun hP hD => ?_)
            rw [hQ]
            exact W.vret hx hb hr (fun t ht hW => ⟨⟨(), rfl, trivial, v5_13, v6_14, by rw [ht]; exact hP, hD⟩, hS.F ht⟩) hS.2.2 dB_36_1_61.2.2.2.2
        refine lv_aload_n hx hb dB_36_1_59.1.2.1.1 rfl (lv_at hl 1 rfl) ?_
        refine va_get (ci := 7) (v := .int u1) (C := RX7) (T := TX7) (N := 9) hx hb hts (fun _ h => List.mem_cons_of_mem _ (List.mem_append_left _ (List.mem_append_left _ (List.mem_append_right _ h)))) hown hK.1 hP 0 rfl rfl 1 (by decide) (hts (.fieldLink RX7 27 "CutAtlas$SetHunt" "must" "I") (List.mem_of_getElem? (i := 3) rfl)) (fun _ h9 => h9) rfl dB_36_1_59.1.2.1.2 ?_
        refine lv_iload hx hb dB_36_1_59.1.2.2.1 (lv_at hl 0 rfl) ?_
        refine lv_iand hx hb dB_36_1_59.1.2.2.2 ?_
        refine lv_topi (fun y_15 ey_15 => ?_)
        refine lv_if_ne (tgt := 60) hx hb dB_36_1_59.2.1.1.1 (by decide) (fun c_16 => ?_) (fun c_16 => ?_)
        · have t_16 : ¬ y_15.toInt = (0 : Int32).toInt := fun h => c_16 (Int32.toInt_inj.mp h)
          exact JOIN_5 u5 u6 _ _ _ ⟨hP, hD⟩ hS (lv_sub hl [0, 1, 2, 3, 4] rfl)
        · have t_16 : y_15.toInt = (0 : Int32).toInt := congrArg Int32.toInt c_16
          refine lv_aload_n hx hb dB_36_1_59.2.1.1.2 rfl (lv_at hl 1 rfl) ?_
          refine lv_iload_n hx hb dB_36_1_59.2.1.2.1 rfl (lv_at hl 2 rfl) ?_
          refine lv_iconst (v := 1) hx hb dB_36_1_59.2.1.2.2 (by decide) ?_
          refine lv_isub hx hb dB_36_1_59.2.2.1.1 ?_
          refine lv_topi (fun y_17 ey_17 => ?_)
          have ty_17 : y_17.toInt = a1.toInt - (1 : Int32).toInt := by rw [ey_17]; exact subI (by omega) (by omega)
          refine lv_iload_n hx hb dB_36_1_59.2.2.1.2 rfl (lv_at hl 3 rfl) ?_
          refine lv_iload_n hx hb dB_36_1_59.2.2.2.1 rfl (lv_at hl 4 rfl) ?_
          refine lv_aload_n hx hb dB_36_1_59.2.2.2.2 rfl (lv_at hl 1 rfl) ?_
          refine lv_iload_n hx hb dB_36_1_60.1.1.1.1 rfl (lv_at hl 2 rfl) ?_
          refine lv_iload_n hx hb dB_36_1_60.1.1.1.2 rfl (lv_at hl 3 rfl) ?_
          refine ct_R hP hD [ob7_0_ xh xc u1 u2 u3 u4 u5 u6 u7 u8, ob0_0_ xc xn xk clo cro c4 c5 c6 c7 c8, ob3_0_ xn vp vn n1 n2 n3 n4 n5, aq_ cy 6 clo 12 (gf_ rl), ai_ cy (rl 0) 12 (Ml 0), ai_ cy (rl 1) 12 (Ml 1), ai_ cy (rl 2) 12 (Ml 2), ai_ cy (rl 3) 12 (Ml 3), ai_ cy (rl 4) 12 (Ml 4), ai_ cy (rl 5) 12 (Ml 5), ai_ cy (rl 6) 12 (Ml 6), ai_ cy (rl 7) 12 (Ml 7), ai_ cy (rl 8) 12 (Ml 8), ai_ cy (rl 9) 12 (Ml 9), ai_ cy (rl 10) 12 (Ml 10), ai_ cy (rl 11) 12 (Ml 11)] [0, 1, 2, 3, 4, 5, 6, 7, 8, 9, 10, 11, 12, 13, 14, 15] (by decide +kernel) rfl (fun hPc hDw => ?_)
          have hFc := va_free (wc := []) hD hS hA [] rfl
          refine va_calli (va_runV (As := [.int a1, .int a2]) (rest := [.int a3, .int a2, .int y_17, .ref xh]) ⟨hx, hb, hml, hown, hts⟩ (c_X7_letIn l D cy s.heap.size xh u1 u2 u3 u4 u5 u6 u7 u8 xc xk clo cro c4 c5 c6 c7 c8 xn n1 n2 n3 n4 n5 vp vn rl Ml a1 a2 (by first | with_reducible assumption | omega | assumption) (by first | with_reducible assumption | omega | assumption)) (cwV 2 hts gX7_chooseForCut_X7_letIn rfl rfl rfl ⟨rfl, hd_X7_letIn⟩ ⟨Nat.le_of_ble_eq_true rfl, Nat.le_of_ble_eq_true rfl⟩) ⟨bl_g, va_recvX hK.1 hP (ci := 7) (q0 := 0) rfl rfl, fun U hU hW => ⟨rfl, by rw [hU], by rw [hU]; exact hPc, ⟨kk_mv hW hK, arrOfT_moved hW.alike hG⟩, hDw⟩⟩ rfl rfl hl.1 rfl (lv_room (Nat.le_of_ble_eq_true rfl)) dB_36_1_60.1.1.2.1 ⟨Nat.le_of_ble_eq_true rfl, Nat.le_of_ble_eq_true rfl⟩) hS (fun q _ h => hFc q h) hFc (fun r_18 u t H locs ht hvm hw hB hz1 hk1 hS => ?_)
          have hP : va_P D vwCl _ H := ro_keep hP hk1
          refine lv_iadd hx hb dB_36_1_60.1.1.2.2 ?_
          refine lv_topi (fun y_19 ey_19 => ?_)
          refine ct_S hP hD hS hA [ob7_0_ xh xc u1 u2 u3 u4 u5 u6 u7 u8, ob0_0_ xc xn xk clo cro c4 c5 c6 c7 c8, ob3_0_ xn vp vn n1 n2 n3 n4 n5, aq_ cy 6 clo 12 (gf_ rl), ai_ cy (rl 0) 12 (Ml 0), ai_ cy (rl 1) 12 (Ml 1), ai_ cy (rl 2) 12 (Ml 2), ai_ cy (rl 3) 12 (Ml 3), ai_ cy (rl 4) 12 (Ml 4), ai_ cy (rl 5) 12 (Ml 5), ai_ cy (rl 6) 12 (Ml 6), ai_ cy (rl 7) 12 (Ml 7), ai_ cy (rl 8) 12 (Ml 8), ai_ cy (rl 9) 12 (Ml 9), ai_ cy (rl 10) 12 (Ml 10), ai_ cy (rl 11) 12 (Ml 11)] [0, 1, 2, 3, 4, 5, 6, 7, 8, 9, 10, 11, 12, 13, 14, 15] (by decide +kernel) rfl (fun hPc hDw hFc hC_ => ?_)
          refine va_callv (va_runV (As := [.int y_17, .int a2, .int y_19]) (rest := []) ⟨hx, hb, hml, hown, hts⟩ (c_X7_chooseForCut_0 l D cy H.size xh u1 u2 u3 u4 u5 u6 u7 u8 xc xk clo cro c4 c5 c6 c7 c8 xn n1 n2 n3 n4 n5 vp vn rl Ml y_17 a2 y_19 (by first | with_reducible assumption | omega | assumption) (by first | with_reducible assumption | omega | assumption)) (cwV 3 hts gX7_chooseForCut_X7_chooseForCut rfl rfl rfl ⟨rfl, hd_X7_chooseForCut⟩ ⟨Nat.le_of_ble_eq_true rfl, Nat.le_of_ble_eq_true rfl⟩) ⟨bl_g, va_recvX hK.1 hP (ci := 7) (q0 := 0) rfl rfl, fun U hU hW => ⟨rfl, by rw [hU], by rw [hU]; exact hPc, ⟨kk_mv hW hK, arrOfT_moved hW.alike hG⟩, hDw⟩⟩ rfl rfl hl.1 rfl (lv_room (Nat.le_of_ble_eq_true rfl)) dB_36_1_60.1.2.1.1 ⟨Nat.le_of_ble_eq_true rfl, Nat.le_of_ble_eq_true rfl⟩) hS (fun q _ h => hFc q h) hFc (fun u t H locs ht hvm hw hB hz1 hk1 hS => ?_)
          obtain ⟨v5_21, v6_22, hP1, hD1⟩ := hB
          rw [ht] at hP1
          obtain ⟨hP, hD⟩ := va_join (wr := []) (w1 := [ob7_0_ xh xc u1 u2 u3 u4 v5_21 v6_22 u7 u8, ob0_0_ xc xn xk clo cro c4 c5 c6 c7 c8, ob3_0_ xn vp vn n1 n2 n3 n4 n5, aq_ cy 6 clo 12 (gf_ rl), ai_ cy (rl 0) 12 (Ml 0), ai_ cy (rl 1) 12 (Ml 1), ai_ cy (rl 2) 12 (Ml 2), ai_ cy (rl 3) 12 (Ml 3), ai_ cy (rl 4) 12 (Ml 4), ai_ cy (rl 5) 12 (Ml 5), ai_ cy (rl 6) 12 (Ml 6), ai_ cy (rl 7) 12 (Ml 7), ai_ cy (rl 8) 12 (Ml 8), ai_ cy (rl 9) 12 (Ml 9), ai_ cy (rl 10) 12 (Ml 10), ai_ cy (rl 11) 12 (Ml 11)]) hP hD [0, 1, 2, 3, 4, 5, 6, 7, 8, 9, 10, 11, 12, 13, 14, 15] [] hC_ rfl (by decide) (by decide) hk1 hFc hP1 hD1
          refine pd_K [ob7_0_ xh xc u1 u2 u3 u4 v5_21 v6_22 u7 u8, ob0_0_ xc xn xk clo cro c4 c5 c6 c7 c8, ob3_0_ xn vp vn n1 n2 n3 n4 n5, aq_ cy 6 clo 12 (gf_ rl), ai_ cy (rl 0) 12 (Ml 0), ai_ cy (rl 1) 12 (Ml 1), ai_ cy (rl 2) 12 (Ml 2), ai_ cy (rl 3) 12 (Ml 3), ai_ cy (rl 4) 12 (Ml 4), ai_ cy (rl 5) 12 (Ml 5), ai_ cy (rl 6) 12 (Ml 6), ai_ cy (rl 7) 12 (Ml 7), ai_ cy (rl 8) 12 (Ml 8), ai_ cy (rl 9) 12 (Ml 9), ai_ cy (rl 10) 12 (Ml 10), ai_ cy (rl 11) 12 (Ml 11)] hP hD (fun hP hD => ?_)
          exact JOIN_5 v5_21 v6_22 _ _ _ ⟨hP, hD⟩ hS (lv_sub hl [0, 1, 2, 3, 4] rfl)
      · have t_3 : ¬ (0 : Int32).toInt ≤ a1.toInt := fun h => c_3 (Int32.le_iff_toInt_le.mpr h)
        refine lv_aload_n hx hb dB_36_1_58.2.1.2.2 rfl (lv_at hl 0 rfl) ?_
        refine lv_iload_n hx hb dB_36_1_58.2.2.1.1 rfl (lv_at hl 2 rfl) ?_
        refine lv_iload_n hx hb dB_36_1_58.2.2.1.2 rfl (lv_at hl 3 rfl) ?_
        refine ct_S hP hD hS hA [ob7_0_ xh xc u1 u2 u3 u4 u5 u6 u7 u8] [0] (by decide) rfl (fun hPc hDw hFc hC_ => ?_)
        refine va_callv (va_runV (As := [.int a2, .int a3]) (rest := []) ⟨hx, hb, hml, hown, hts⟩ (c_X7_meet l D cy s.heap.size xh u1 u2 u3 u4 u5 u6 u7 u8 xc a2 a3) (cwV 2 hts gX7_chooseForCut_X7_meet rfl rfl rfl ⟨rfl, hd_X7_meet⟩ ⟨Nat.le_of_ble_eq_true rfl, Nat.le_of_ble_eq_true rfl⟩) ⟨bl_, va_recvX hK.1 hP (ci := 7) (q0 := 0) rfl rfl, fun U hU hW => ⟨rfl, by rw [hU], by rw [hU]; exact hPc, kk_mv hW hK, hDw⟩⟩ rfl rfl hl.1 rfl (lv_room (Nat.le_of_ble_eq_true rfl)) dB_36_1_58.2.2.2.1 ⟨Nat.le_of_ble_eq_true rfl, Nat.le_of_ble_eq_true rfl⟩) hS (fun q _ h => hFc q h) hFc (fun u t H locs ht hvm hw hB hz1 hk1 hS => ?_)
        obtain ⟨v5_24, v6_25, hP1, hD1⟩ := hB
        rw [ht] at hP1
        obtain ⟨hP, hD⟩ := va_join (wr := [ob0_0_ xc xn xk clo cro c4 c5 c6 c7 c8, ob3_0_ xn vp vn n1 n2 n3 n4 n5, aq_ cy 6 clo 12 (gf_ rl), ai_ cy (rl 0) 12 (Ml 0), ai_ cy (rl 1) 12 (Ml 1), ai_ cy (rl 2) 12 (Ml 2), ai_ cy (rl 3) 12 (Ml 3), ai_ cy (rl 4) 12 (Ml 4), ai_ cy (rl 5) 12 (Ml 5), ai_ cy (rl 6) 12 (Ml 6), ai_ cy (rl 7) 12 (Ml 7), ai_ cy (rl 8) 12 (Ml 8), ai_ cy (rl 9) 12 (Ml 9), ai_ cy (rl 10) 12 (Ml 10), ai_ cy (rl 11) 12 (Ml 11)]) (w1 := [ob7_0_ xh xc u1 u2 u3 u4 v5_24 v6_25 u7 u8]) hP hD [0] [1, 2, 3, 4, 5, 6, 7, 8, 9, 10, 11, 12, 13, 14, 15] hC_ rfl (by decide +kernel) (by decide +kernel) hk1 hFc hP1 hD1
        refine pd_S hP hD [ob7_0_ xh xc u1 u2 u3 u4 v5_24 v6_25 u7 u8, ob0_0_ xc xn xk clo cro c4 c5 c6 c7 c8, ob3_0_ xn vp vn n1 n2 n3 n4 n5, aq_ cy 6 clo 12 (gf_ rl), ai_ cy (rl 0) 12 (Ml 0), ai_ cy (rl 1) 12 (Ml 1), ai_ cy (rl 2) 12 (Ml 2), ai_ cy (rl 3) 12 (Ml 3), ai_ cy (rl 4) 12 (Ml 4), ai_ cy (rl 5) 12 (Ml 5), ai_ cy (rl 6) 12 (Ml 6), ai_ cy (rl 7) 12 (Ml 7), ai_ cy (rl 8) 12 (Ml 8), ai_ cy (rl 9) 12 (Ml 9), ai_ cy (rl 10) 12 (Ml 10), ai_ cy (rl 11) 12 (Ml 11)] [15, 0, 1, 2, 3, 4, 5, 6, 7, 8, 9, 10, 11, 12, 13, 14] (by decide +kernel) rfl (fun hP hD => ?_)
        rw [hQ]
        exact W.vret hx hb hr (fun t ht hW => ⟨⟨(), rfl, trivial, v5_24, v6_25, by rw [ht]; exact hP, hD⟩, hS.F ht⟩) hS.2.2 dB_36_1_58.2.2.2.2
    · have t_2 : ¬ u6.toInt = ((-9) : Int32).toInt := fun h => c_2 (Int32.toInt_inj.mp h)
      rw [hQ]
      exact W.vret hx hb hr (fun t ht hW => ⟨⟨(), rfl, trivial, u5, u6, by rw [ht]; exact hP, hD⟩, hS.F ht⟩) hS.2.2 dB_36_1_58.2.1.1.1

set_option maxHeartbeats 4000000 in
set_option maxRecDepth 100000 in
theorem c_X7_chooseForCut_2 (l : Launch) (D : va_G) (cy : Nat → ClassId) (sz : Nat) (xh : Nat) (u1 : Int32) (u2 : Int32) (u3 : Int32) (u4 : Int32) (u5 : Int32) (u6 : Int32) (u7 : Int32) (u8 : Int32) (xc : Nat) (xk : Nat) (clo : Nat) (cro : Nat) (c4 : Nat) (c5 : Nat) (c6 : Nat) (c7 : Nat) (c8 : Nat) (xn : Nat) (n1 : Nat) (n2 : Nat) (n3 : Nat) (n4 : Nat) (n5 : Nat) (vp : Int32) (vn : Int32) (rl : Nat → Nat) (Ml : Nat → Nat → Int32) (a1 : Int32) (a2 : Int32) (a3 : Int32) (hvp : 0 ≤ vp.toInt ∧ vp.toInt ≤ 12) (q1 : -1 ≤ a1.toInt ∧ a1.toInt < 2) : Met l yX7_chooseForCut wsX7_chooseForCut ({ frames := 3, cells := 0, slots := 0, locals := 70 }) (va_Pc [.ref xh, .int a1, .int a2, .int a3] (fun U => U.heap.size = sz ∧ va_P D vwCl [ob7_0_ xh xc u1 u2 u3 u4 u5 u6 u7 u8, ob0_0_ xc xn xk clo cro c4 c5 c6 c7 c8, ob3_0_ xn vp vn n1 n2 n3 n4 n5, aq_ cy 6 clo 12 (gf_ rl), ai_ cy (rl 0) 12 (Ml 0), ai_ cy (rl 1) 12 (Ml 1), ai_ cy (rl 2) 12 (Ml 2), ai_ cy (rl 3) 12 (Ml 3), ai_ cy (rl 4) 12 (Ml 4), ai_ cy (rl 5) 12 (Ml 5), ai_ cy (rl 6) 12 (Ml 6), ai_ cy (rl 7) 12 (Ml 7), ai_ cy (rl 8) 12 (Ml 8), ai_ cy (rl 9) 12 (Ml 9), ai_ cy (rl 10) 12 (Ml 10), ai_ cy (rl 11) 12 (Ml 11)] U.heap ∧ kg_ D cy U ∧ va_D (fun _ => True) [ob7_0_ xh xc u1 u2 u3 u4 u5 u6 u7 u8, ob0_0_ xc xn xk clo cro c4 c5 c6 c7 c8, ob3_0_ xn vp vn n1 n2 n3 n4 n5, aq_ cy 6 clo 12 (gf_ rl), ai_ cy (rl 0) 12 (Ml 0), ai_ cy (rl 1) 12 (Ml 1), ai_ cy (rl 2) 12 (Ml 2), ai_ cy (rl 3) 12 (Ml 3), ai_ cy (rl 4) 12 (Ml 4), ai_ cy (rl 5) 12 (Ml 5), ai_ cy (rl 6) 12 (Ml 6), ai_ cy (rl 7) 12 (Ml 7), ai_ cy (rl 8) 12 (Ml 8), ai_ cy (rl 9) 12 (Ml 9), ai_ cy (rl 10) 12 (Ml 10), ai_ cy (rl 11) 12 (Ml 11)])) (va_Qv (fun (_ : Unit) => True) (fun (_ : Unit) (t : State) => ∃ (v5 : Int32), ∃ (v6 : Int32), va_P D vwCl [ob7_0_ xh xc u1 u2 u3 u4 v5 v6 u7 u8, ob0_0_ xc xn xk clo cro c4 c5 c6 c7 c8, ob3_0_ xn vp vn n1 n2 n3 n4 n5, aq_ cy 6 clo 12 (gf_ rl), ai_ cy (rl 0) 12 (Ml 0), ai_ cy (rl 1) 12 (Ml 1), ai_ cy (rl 2) 12 (Ml 2), ai_ cy (rl 3) 12 (Ml 3), ai_ cy (rl 4) 12 (Ml 4), ai_ cy (rl 5) 12 (Ml 5), ai_ cy (rl 6) 12 (Ml 6), ai_ cy (rl 7) 12 (Ml 7), ai_ cy (rl 8) 12 (Ml 8), ai_ cy (rl 9) 12 (Ml 9), ai_ cy (rl 10) 12 (Ml 10), ai_ cy (rl 11) 12 (Ml 11)] t.heap ∧ va_D (va_A [ob7_0_ xh xc u1 u2 u3 u4 u5 u6 u7 u8, ob0_0_ xc xn xk clo cro c4 c5 c6 c7 c8, ob3_0_ xn vp vn n1 n2 n3 n4 n5, aq_ cy 6 clo 12 (gf_ rl), ai_ cy (rl 0) 12 (Ml 0), ai_ cy (rl 1) 12 (Ml 1), ai_ cy (rl 2) 12 (Ml 2), ai_ cy (rl 3) 12 (Ml 3), ai_ cy (rl 4) 12 (Ml 4), ai_ cy (rl 5) 12 (Ml 5), ai_ cy (rl 6) 12 (Ml 6), ai_ cy (rl 7) 12 (Ml 7), ai_ cy (rl 8) 12 (Ml 8), ai_ cy (rl 9) 12 (Ml 9), ai_ cy (rl 10) 12 (Ml 10), ai_ cy (rl 11) 12 (Ml 11)] sz) [ob7_0_ xh xc u1 u2 u3 u4 v5 v6 u7 u8, ob0_0_ xc xn xk clo cro c4 c5 c6 c7 c8, ob3_0_ xn vp vn n1 n2 n3 n4 n5, aq_ cy 6 clo 12 (gf_ rl), ai_ cy (rl 0) 12 (Ml 0), ai_ cy (rl 1) 12 (Ml 1), ai_ cy (rl 2) 12 (Ml 2), ai_ cy (rl 3) 12 (Ml 3), ai_ cy (rl 4) 12 (Ml 4), ai_ cy (rl 5) 12 (Ml 5), ai_ cy (rl 6) 12 (Ml 6), ai_ cy (rl 7) 12 (Ml 7), ai_ cy (rl 8) 12 (Ml 8), ai_ cy (rl 9) 12 (Ml 9), ai_ cy (rl 10) 12 (Ml 10), ai_ cy (rl 11) 12 (Ml 11)]) (va_A [ob7_0_ xh xc u1 u2 u3 u4 u5 u6 u7 u8, ob0_0_ xc xn xk clo cro c4 c5 c6 c7 c8, ob3_0_ xn vp vn n1 n2 n3 n4 n5, aq_ cy 6 clo 12 (gf_ rl), ai_ cy (rl 0) 12 (Ml 0), ai_ cy (rl 1) 12 (Ml 1), ai_ cy (rl 2) 12 (Ml 2), ai_ cy (rl 3) 12 (Ml 3), ai_ cy (rl 4) 12 (Ml 4), ai_ cy (rl 5) 12 (Ml 5), ai_ cy (rl 6) 12 (Ml 6), ai_ cy (rl 7) 12 (Ml 7), ai_ cy (rl 8) 12 (Ml 8), ai_ cy (rl 9) 12 (Ml 9), ai_ cy (rl 10) 12 (Ml 10), ai_ cy (rl 11) 12 (Ml 11)] sz)) 0 0 (va_A [ob7_0_ xh xc u1 u2 u3 u4 u5 u6 u7 u8, ob0_0_ xc xn xk clo cro c4 c5 c6 c7 c8, ob3_0_ xn vp vn n1 n2 n3 n4 n5, aq_ cy 6 clo 12 (gf_ rl), ai_ cy (rl 0) 12 (Ml 0), ai_ cy (rl 1) 12 (Ml 1), ai_ cy (rl 2) 12 (Ml 2), ai_ cy (rl 3) 12 (Ml 3), ai_ cy (rl 4) 12 (Ml 4), ai_ cy (rl 5) 12 (Ml 5), ai_ cy (rl 6) 12 (Ml 6), ai_ cy (rl 7) 12 (Ml 7), ai_ cy (rl 8) 12 (Ml 8), ai_ cy (rl 9) 12 (Ml 9), ai_ cy (rl 10) 12 (Ml 10), ai_ cy (rl 11) 12 (Ml 11)] sz) := by
  refine ofQ (cc := cX7_chooseForCut) (maxL := 5) (ret := none) (by decide) rfl ?_
  intro p e s m args below meth c s₁ Q hQ B hml hv
  obtain ⟨rfl, hsz, hP, hK, hD0⟩ := hv
  have hG := hK.2
  have hK := hK.1
  have hx := B.exec
  have hb := B.bytes
  have hr := B.returns
  have hts := atoms_spec (ws := wsX7_chooseForCut) B.pre
  have hown : s.vm.findClass RX7 = some m.cls := by have h_ := findClass_of_methodNamed B.named; exact h_
  have hlocks := B.notSynchronized
  subst hsz
  have hD := hD0.self (sz := s.heap.size)
  generalize hAe : va_A [ob7_0_ xh xc u1 u2 u3 u4 u5 u6 u7 u8, ob0_0_ xc xn xk clo cro c4 c5 c6 c7 c8, ob3_0_ xn vp vn n1 n2 n3 n4 n5, aq_ cy 6 clo 12 (gf_ rl), ai_ cy (rl 0) 12 (Ml 0), ai_ cy (rl 1) 12 (Ml 1), ai_ cy (rl 2) 12 (Ml 2), ai_ cy (rl 3) 12 (Ml 3), ai_ cy (rl 4) 12 (Ml 4), ai_ cy (rl 5) 12 (Ml 5), ai_ cy (rl 6) 12 (Ml 6), ai_ cy (rl 7) 12 (Ml 7), ai_ cy (rl 8) 12 (Ml 8), ai_ cy (rl 9) 12 (Ml 9), ai_ cy (rl 10) 12 (Ml 10), ai_ cy (rl 11) 12 (Ml 11)] s.heap.size = A at hD hQ
  have hA : ∀ q : Nat, s.heap.size ≤ q → A q := fun q h => by rw [← hAe]; exact Or.inr h
  have hS : va_S A s.heap s.heap [] := va_S.rf
  have hl := lv_entry ([.ref xh, .int a1, .int a2, .int a3]) (n := 5) (Nat.le_of_ble_eq_true rfl)
  rw [lg_entry_eq]
  generalize (lg_sl ([.ref xh, .int a1, .int a2, .int a3]) ++ List.replicate (5 - (lg_sl ([.ref xh, .int a1, .int a2, .int a3])).length) Slot.unset).toArray = ls at hl ⊢
  have hl : lv_has ls 5 [(0, .ref xh), (1, .int a1), (2, .int a2), (3, .int a3)] := hl
  have zm9 : ((-9) : Int32).toInt = -9 := by decide
  have z0 : (0 : Int32).toInt = 0 := by decide
  have z1 : (1 : Int32).toInt = 1 := by decide
  refine lv_iload_n hx hb dB_36_1_58.1.1.1.1 rfl (lv_at hl 3 rfl) ?_
  refine lv_aload_n hx hb dB_36_1_58.1.1.1.2 rfl (lv_at hl 0 rfl) ?_
  refine va_get (ci := 7) (v := .int u3) (C := RX7) (T := TX7) (N := 9) hx hb hts (fun _ h => List.mem_cons_of_mem _ (List.mem_append_left _ (List.mem_append_left _ (List.mem_append_right _ h)))) hown hK.1 hP 0 rfl rfl 3 (by decide) (hts (.fieldLink RX7 33 "CutAtlas$SetHunt" "aim" "I") (List.mem_of_getElem? (i := 1) rfl)) (fun _ h9 => h9) rfl dB_36_1_58.1.1.2.1 ?_
  refine lv_icmp_gt (tgt := 17) hx hb dB_36_1_58.1.1.2.2 (by decide) (fun c_1 => ?_) (fun c_1 => ?_)
  · have t_1 : u3.toInt < a3.toInt := Int32.lt_iff_toInt_lt.mp c_1
    rw [hQ]
    exact W.vret hx hb hr (fun t ht hW => ⟨⟨(), rfl, trivial, u5, u6, by rw [ht]; exact hP, hD⟩, hS.F ht⟩) hS.2.2 dB_36_1_58.2.1.1.1
  · have t_1 : ¬ u3.toInt < a3.toInt := fun h => c_1 (Int32.lt_iff_toInt_lt.mpr h)
    refine lv_aload_n hx hb dB_36_1_58.1.2.1.1 rfl (lv_at hl 0 rfl) ?_
    refine va_get (ci := 7) (v := .int u6) (C := RX7) (T := TX7) (N := 9) hx hb hts (fun _ h => List.mem_cons_of_mem _ (List.mem_append_left _ (List.mem_append_left _ (List.mem_append_right _ h)))) hown hK.1 hP 0 rfl rfl 6 (by decide) (hts (.fieldLink RX7 24 "CutAtlas$SetHunt" "found" "I") (List.mem_of_getElem? (i := 2) rfl)) (fun _ h9 => h9) rfl dB_36_1_58.1.2.1.2 ?_
    refine lv_bipush (v := (-9)) hx hb dB_36_1_58.1.2.2.1 (by decide) ?_
    refine lv_icmp_eq (tgt := 18) hx hb dB_36_1_58.1.2.2.2 (by decide) (fun c_2 => ?_) (fun c_2 => ?_)
    · have t_2 : u6.toInt = ((-9) : Int32).toInt := congrArg Int32.toInt c_2
      refine lv_iload_n hx hb dB_36_1_58.2.1.1.2 rfl (lv_at hl 1 rfl) ?_
      refine lv_if_ge (tgt := 29) hx hb dB_36_1_58.2.1.2.1 (by decide) (fun c_3 => ?_) (fun c_3 => ?_)
      · have t_3 : (0 : Int32).toInt ≤ a1.toInt := Int32.le_iff_toInt_le.mp c_3
        refine lv_iconst (v := 1) hx hb dB_36_1_59.1.1.1.1 (by decide) ?_
        refine lv_iload_n hx hb dB_36_1_59.1.1.1.2 rfl (lv_at hl 1 rfl) ?_
        refine lv_ishl hx hb dB_36_1_59.1.1.2.1 ?_
        refine lv_topi (fun y_4 ey_4 => ?_)
        refine lv_istore (lv' := [(4, .int y_4), (0, .ref xh), (1, .int a1), (2, .int a2), (3, .int a3)]) hx hb dB_36_1_59.1.1.2.2 hl (by decide) rfl (fun ls hl => ?_)
        have JOIN_5 : ∀ (o5_5 : Int32) (o6_5 : Int32) (H : Heap) (locs : List Loc) (ls : Array Slot), pd_2 D vwCl A [ob7_0_ xh xc u1 u2 u3 u4 o5_5 o6_5 u7 u8, ob0_0_ xc xn xk clo cro c4 c5 c6 c7 c8, ob3_0_ xn vp vn n1 n2 n3 n4 n5, aq_ cy 6 clo 12 (gf_ rl), ai_ cy (rl 0) 12 (Ml 0), ai_ cy (rl 1) 12 (Ml 1), ai_ cy (rl 2) 12 (Ml 2), ai_ cy (rl 3) 12 (Ml 3), ai_ cy (rl 4) 12 (Ml 4), ai_ cy (rl 5) 12 (Ml 5), ai_ cy (rl 6) 12 (Ml 6), ai_ cy (rl 7) 12 (Ml 7), ai_ cy (rl 8) 12 (Ml 8), ai_ cy (rl 9) 12 (Ml 9), ai_ cy (rl 10) 12 (Ml 10), ai_ cy (rl 11) 12 (Ml 11)] H → va_S A s.heap H locs → lv_has ls 5 [(4, .int y_4), (0, .ref xh), (1, .int a1), (2, .int a2), (3, .int a3)] → W p l e ({ frames := 3, cells := 0, slots := 0, locals := 70 } : Room) s m (([.ref xh, .int a1, .int a2, .int a3] : List Value).toArray) below meth c H locs 0 0 Q (F0 m 60 ls []) := by
          intro o5_5 o6_5 H locs ls hPD hS hl; obtain ⟨hP, hD⟩ := hPD
          refine lv_aload_n hx hb dB_36_1_60.1.2.1.2 rfl (lv_at hl 1 rfl) ?_
          refine va_get (ci := 7) (v := .int u2) (C := RX7) (T := TX7) (N := 9) hx hb hts (fun _ h => List.mem_cons_of_mem _ (List.mem_append_left _ (List.mem_append_left _ (List.mem_append_right _ h)))) hown hK.1 hP 0 rfl rfl 2 (by decide) (hts (.fieldLink RX7 30 "CutAtlas$SetHunt" "mustNot" "I") (List.mem_of_getElem? (i := 4) rfl)) (fun _ h9 => h9) rfl dB_36_1_60.1.2.2.1 ?_
          refine lv_iload hx hb dB_36_1_60.1.2.2.2 (lv_at hl 0 rfl) ?_
          refine lv_iand hx hb dB_36_1_60.2.1.1.1 ?_
          refine lv_topi (fun y_6 ey_6 => ?_)
          refine lv_if_ne (tgt := 89) hx hb dB_36_1_60.2.1.1.2 (by decide) (fun c_7 => ?_) (fun c_7 => ?_)
          · have t_7 : ¬ y_6.toInt = (0 : Int32).toInt := fun h => c_7 (Int32.toInt_inj.mp h)
            rw [hQ]
            exact W.vret hx hb hr (fun t ht hW => ⟨⟨(), rfl, trivial, o5_5, o6_5, by rw [ht]; exact hP, hD⟩, hS.F ht⟩) hS.2.2 dB_36_1_61.2.2.2.2
          · have t_7 : y_6.toInt = (0 : Int32).toInt := congrArg Int32.toInt c_7
            refine lv_aload_n hx hb dB_36_1_60.2.1.2.1 rfl (lv_at hl 1 rfl) ?_
            refine lv_iload_n hx hb dB_36_1_60.2.1.2.2 rfl (lv_at hl 2 rfl) ?_
            refine lv_iconst (v := 1) hx hb dB_36_1_60.2.2.1.1 (by decide) ?_
            refine lv_isub hx hb dB_36_1_60.2.2.1.2 ?_
            refine lv_topi (fun y_8 ey_8 => ?_)
            have ty_8 : y_8.toInt = a1.toInt - (1 : Int32).toInt := by rw [ey_8]; exact subI (by omega) (by omega)
            refine lv_iload_n hx hb dB_36_1_60.2.2.2.1 rfl (lv_at hl 3 rfl) ?_
            refine lv_iload hx hb dB_36_1_60.2.2.2.2 (lv_at hl 0 rfl) ?_
            refine lv_ior hx hb dB_36_1_61.1.1.1 ?_
            refine lv_topi (fun y_9 ey_9 => ?_)
            refine lv_iload_n hx hb dB_36_1_61.1.1.2 rfl (lv_at hl 4 rfl) ?_
            refine lv_aload_n hx hb dB_36_1_61.1.2.1 rfl (lv_at hl 1 rfl) ?_
            refine lv_iload_n hx hb dB_36_1_61.1.2.2 rfl (lv_at hl 2 rfl) ?_
            refine lv_iload_n hx hb dB_36_1_61.2.1.1 rfl (lv_at hl 3 rfl) ?_
            refine ct_R hP hD [ob7_0_ xh xc u1 u2 u3 u4 o5_5 o6_5 u7 u8, ob0_0_ xc xn xk clo cro c4 c5 c6 c7 c8, ob3_0_ xn vp vn n1 n2 n3 n4 n5, aq_ cy 6 clo 12 (gf_ rl), ai_ cy (rl 0) 12 (Ml 0), ai_ cy (rl 1) 12 (Ml 1), ai_ cy (rl 2) 12 (Ml 2), ai_ cy (rl 3) 12 (Ml 3), ai_ cy (rl 4) 12 (Ml 4), ai_ cy (rl 5) 12 (Ml 5), ai_ cy (rl 6) 12 (Ml 6), ai_ cy (rl 7) 12 (Ml 7), ai_ cy (rl 8) 12 (Ml 8), ai_ cy (rl 9) 12 (Ml 9), ai_ cy (rl 10) 12 (Ml 10), ai_ cy (rl 11) 12 (Ml 11)] [0, 1, 2, 3, 4, 5, 6, 7, 8, 9, 10, 11, 12, 13, 14, 15] (by decide +kernel) rfl (fun hPc hDw => ?_)
            have hFc := va_free (wc := []) hD hS hA [] rfl
            refine va_calli (va_runV (As := [.int a1, .int a2]) (rest := [.int a3, .int y_9, .int y_8, .ref xh]) ⟨hx, hb, hml, hown, hts⟩ (c_X7_letOut l D cy H.size xh u1 u2 u3 u4 o5_5 o6_5 u7 u8 xc xk clo cro c4 c5 c6 c7 c8 xn n1 n2 n3 n4 n5 vp vn rl Ml a1 a2 (by first | with_reducible assumption | omega | assumption) (by first | with_reducible assumption | omega | assumption)) (cwV 2 hts gX7_chooseForCut_X7_letOut rfl rfl rfl ⟨rfl, hd_X7_letOut⟩ ⟨Nat.le_of_ble_eq_true rfl, Nat.le_of_ble_eq_true rfl⟩) ⟨bl_g, va_recvX hK.1 hP (ci := 7) (q0 := 0) rfl rfl, fun U hU hW => ⟨rfl, by rw [hU], by rw [hU]; exact hPc, ⟨kk_mv hW hK, arrOfT_moved hW.alike hG⟩, hDw⟩⟩ rfl rfl hl.1 rfl (lv_room (Nat.le_of_ble_eq_true rfl)) dB_36_1_61.2.1.2 ⟨Nat.le_of_ble_eq_true rfl, Nat.le_of_ble_eq_true rfl⟩) hS (fun q _ h => hFc q h) hFc (fun r_10 u t H locs ht hvm hw hB hz1 hk1 hS => ?_)
            have hP : va_P D vwCl _ H := ro_keep hP hk1
            refine lv_iadd hx hb dB_36_1_61.2.2.1 ?_
            refine lv_topi (fun y_11 ey_11 => ?_)
            refine ct_S hP hD hS hA [ob7_0_ xh xc u1 u2 u3 u4 o5_5 o6_5 u7 u8, ob0_0_ xc xn xk clo cro c4 c5 c6 c7 c8, ob3_0_ xn vp vn n1 n2 n3 n4 n5, aq_ cy 6 clo 12 (gf_ rl), ai_ cy (rl 0) 12 (Ml 0), ai_ cy (rl 1) 12 (Ml 1), ai_ cy (rl 2) 12 (Ml 2), ai_ cy (rl 3) 12 (Ml 3), ai_ cy (rl 4) 12 (Ml 4), ai_ cy (rl 5) 12 (Ml 5), ai_ cy (rl 6) 12 (Ml 6), ai_ cy (rl 7) 12 (Ml 7), ai_ cy (rl 8) 12 (Ml 8), ai_ cy (rl 9) 12 (Ml 9), ai_ cy (rl 10) 12 (Ml 10), ai_ cy (rl 11) 12 (Ml 11)] [0, 1, 2, 3, 4, 5, 6, 7, 8, 9, 10, 11, 12, 13, 14, 15] (by decide +kernel) rfl (fun hPc hDw hFc hC_ => ?_)
            refine va_callv (va_runV (As := [.int y_8, .int y_9, .int y_11]) (rest := []) ⟨hx, hb, hml, hown, hts⟩ (c_X7_chooseForCut_1 l D cy H.size xh u1 u2 u3 u4 o5_5 o6_5 u7 u8 xc xk clo cro c4 c5 c6 c7 c8 xn n1 n2 n3 n4 n5 vp vn rl Ml y_8 y_9 y_11 (by first | with_reducible assumption | omega | assumption) (by first | with_reducible assumption | omega | assumption)) (cwV 3 hts gX7_chooseForCut_X7_chooseForCut rfl rfl rfl ⟨rfl, hd_X7_chooseForCut⟩ ⟨Nat.le_of_ble_eq_true rfl, Nat.le_of_ble_eq_true rfl⟩) ⟨bl_g, va_recvX hK.1 hP (ci := 7) (q0 := 0) rfl rfl, fun U hU hW => ⟨rfl, by rw [hU], by rw [hU]; exact hPc, ⟨kk_mv hW hK, arrOfT_moved hW.alike hG⟩, hDw⟩⟩ rfl rfl hl.1 rfl (lv_room (Nat.le_of_ble_eq_true rfl)) dB_36_1_61.2.2.2.1 ⟨Nat.le_of_ble_eq_true rfl, Nat.le_of_ble_eq_true rfl⟩) hS (fun q _ h => hFc q h) hFc (fun u t H locs ht hvm hw hB hz1 hk1 hS => ?_)
            obtain ⟨v5_13, v6_14, hP1, hD1⟩ := hB
            rw [ht] at hP1
            obtain ⟨hP, hD⟩ := va_join (wr := []) (w1 := [ob7_0_ xh xc u1 u2 u3 u4 v5_13 v6_14 u7 u8, ob0_0_ xc xn xk clo cro c4 c5 c6 c7 c8, ob3_0_ xn vp vn n1 n2 n3 n4 n5, aq_ cy 6 clo 12 (gf_ rl), ai_ cy (rl 0) 12 (Ml 0), ai_ cy (rl 1) 12 (Ml 1), ai_ cy (rl 2) 12 (Ml 2), ai_ cy (rl 3) 12 (Ml 3), ai_ cy (rl 4) 12 (Ml 4), ai_ cy (rl 5) 12 (Ml 5), ai_ cy (rl 6) 12 (Ml 6), ai_ cy (rl 7) 12 (Ml 7), ai_ cy (rl 8) 12 (Ml 8), ai_ cy (rl 9) 12 (Ml 9), ai_ cy (rl 10) 12 (Ml 10), ai_ cy (rl 11) 12 (Ml 11)]) hP hD [0, 1, 2, 3, 4, 5, 6, 7, 8, 9, 10, 11, 12, 13, 14, 15] [] hC_ rfl (by decide) (by decide) hk1 hFc hP1 hD1
            refine pd_K [ob7_0_ xh xc u1 u2 u3 u4 v5_13 v6_14 u7 u8, ob0_0_ xc xn xk clo cro c4 c5 c6 c7 c8, ob3_0_ xn vp vn n1 n2 n3 n4 n5, aq_ cy 6 clo 12 (gf_ rl), ai_ cy (rl 0) 12 (Ml 0), ai_ cy (rl 1) 12 (Ml 1), ai_ cy (rl 2) 12 (Ml 2), ai_ cy (rl 3) 12 (Ml 3), ai_ cy (rl 4) 12 (Ml 4), ai_ cy (rl 5) 12 (Ml 5), ai_ cy (rl 6) 12 (Ml 6), ai_ cy (rl 7) 12 (Ml 7), ai_ cy (rl 8) 12 (Ml 8), ai_ cy (rl 9) 12 (Ml 9), ai_ cy (rl 10) 12 (Ml 10), ai_ cy (rl 11) 12 (Ml 11)] hP hD (fun hP hD => ?_)
            rw [hQ]
            exact W.vret hx hb hr (fun t ht hW => ⟨⟨(), rfl, trivial, v5_13, v6_14, by rw [ht]; exact hP, hD⟩, hS.F ht⟩) hS.2.2 dB_36_1_61.2.2.2.2
        refine lv_aload_n hx hb dB_36_1_59.1.2.1.1 rfl (lv_at hl 1 rfl) ?_
        refine va_get (ci := 7) (v := .int u1) (C := RX7) (T := TX7) (N := 9) hx hb hts (fun _ h => List.mem_cons_of_mem _ (List.mem_append_left _ (List.mem_append_left _ (List.mem_append_right _ h)))) hown hK.1 hP 0 rfl rfl 1 (by decide) (hts (.fieldLink RX7 27 "CutAtlas$SetHunt" "must" "I") (List.mem_of_getElem? (i := 3) rfl)) (fun _ h9 => h9) rfl dB_36_1_59.1.2.1.2 ?_
        refine lv_iload hx hb dB_36_1_59.1.2.2.1 (lv_at hl 0 rfl) ?_
        refine lv_iand hx hb dB_36_1_59.1.2.2.2 ?_
        refine lv_topi (fun y_15 ey_15 => ?_)
        refine lv_if_ne (tgt := 60) hx hb dB_36_1_59.2.1.1.1 (by decide) (fun c_16 => ?_) (fun c_16 => ?_)
        · have t_16 : ¬ y_15.toInt = (0 : Int32).toInt := fun h => c_16 (Int32.toInt_inj.mp h)
          exact JOIN_5 u5 u6 _ _ _ ⟨hP, hD⟩ hS (lv_sub hl [0, 1, 2, 3, 4] rfl)
        · have t_16 : y_15.toInt = (0 : Int32).toInt := congrArg Int32.toInt c_16
          refine lv_aload_n hx hb dB_36_1_59.2.1.1.2 rfl (lv_at hl 1 rfl) ?_
          refine lv_iload_n hx hb dB_36_1_59.2.1.2.1 rfl (lv_at hl 2 rfl) ?_
          refine lv_iconst (v := 1) hx hb dB_36_1_59.2.1.2.2 (by decide) ?_
          refine lv_isub hx hb dB_36_1_59.2.2.1.1 ?_
          refine lv_topi (fun y_17 ey_17 => ?_)
          have ty_17 : y_17.toInt = a1.toInt - (1 : Int32).toInt := by rw [ey_17]; exact subI (by omega) (by omega)
          refine lv_iload_n hx hb dB_36_1_59.2.2.1.2 rfl (lv_at hl 3 rfl) ?_
          refine lv_iload_n hx hb dB_36_1_59.2.2.2.1 rfl (lv_at hl 4 rfl) ?_
          refine lv_aload_n hx hb dB_36_1_59.2.2.2.2 rfl (lv_at hl 1 rfl) ?_
          refine lv_iload_n hx hb dB_36_1_60.1.1.1.1 rfl (lv_at hl 2 rfl) ?_
          refine lv_iload_n hx hb dB_36_1_60.1.1.1.2 rfl (lv_at hl 3 rfl) ?_
          refine ct_R hP hD [ob7_0_ xh xc u1 u2 u3 u4 u5 u6 u7 u8, ob0_0_ xc xn xk clo cro c4 c5 c6 c7 c8, ob3_0_ xn vp vn n1 n2 n3 n4 n5, aq_ cy 6 clo 12 (gf_ rl), ai_ cy (rl 0) 12 (Ml 0), ai_ cy (rl 1) 12 (Ml 1), ai_ cy (rl 2) 12 (Ml 2), ai_ cy (rl 3) 12 (Ml 3), ai_ cy (rl 4) 12 (Ml 4), ai_ cy (rl 5) 12 (Ml 5), ai_ cy (rl 6) 12 (Ml 6), ai_ cy (rl 7) 12 (Ml 7), ai_ cy (rl 8) 12 (Ml 8), ai_ cy (rl 9) 12 (Ml 9), ai_ cy (rl 10) 12 (Ml 10), ai_ cy (rl 11) 12 (Ml 11)] [0, 1, 2, 3, 4, 5, 6, 7, 8, 9, 10, 11, 12, 13, 14, 15] (by decide +kernel) rfl (fun hPc hDw => ?_)
          have hFc := va_free (wc := []) hD hS hA [] rfl
          refine va_calli (va_runV (As := [.int a1, .int a2]) (rest := [.int a3, .int a2, .int y_17, .ref xh]) ⟨hx, hb, hml, hown, hts⟩ (c_X7_letIn l D cy s.heap.size xh u1 u2 u3 u4 u5 u6 u7 u8 xc xk clo cro c4 c5 c6 c7 c8 xn n1 n2 n3 n4 n5 vp vn rl Ml a1 a2 (by first | with_reducible assumption | omega | assumption) (by first | with_reducible assumption | omega | assumption)) (cwV 2 hts gX7_chooseForCut_X7_letIn rfl rfl rfl ⟨rfl, hd_X7_letIn⟩ ⟨Nat.le_of_ble_eq_true rfl, Nat.le_of_ble_eq_true rfl⟩) ⟨bl_g, va_recvX hK.1 hP (ci := 7) (q0 := 0) rfl rfl, fun U hU hW => ⟨rfl, by rw [hU], by rw [hU]; exact hPc, ⟨kk_mv hW hK, arrOfT_moved hW.alike hG⟩, hDw⟩⟩ rfl rfl hl.1 rfl (lv_room (Nat.le_of_ble_eq_true rfl)) dB_36_1_60.1.1.2.1 ⟨Nat.le_of_ble_eq_true rfl, Nat.le_of_ble_eq_true rfl⟩) hS (fun q _ h => hFc q h) hFc (fun r_18 u t H locs ht hvm hw hB hz1 hk1 hS => ?_)
          have hP : va_P D vwCl _ H := ro_keep hP hk1
          refine lv_iadd hx hb dB_36_1_60.1.1.2.2 ?_
          refine lv_topi (fun y_19 ey_19 => ?_)
          refine ct_S hP hD hS hA [ob7_0_ xh xc u1 u2 u3 u4 u5 u6 u7 u8, ob0_0_ xc xn xk clo cro c4 c5 c6 c7 c8, ob3_0_ xn vp vn n1 n2 n3 n4 n5, aq_ cy 6 clo 12 (gf_ rl), ai_ cy (rl 0) 12 (Ml 0), ai_ cy (rl 1) 12 (Ml 1), ai_ cy (rl 2) 12 (Ml 2), ai_ cy (rl 3) 12 (Ml 3), ai_ cy (rl 4) 12 (Ml 4), ai_ cy (rl 5) 12 (Ml 5), ai_ cy (rl 6) 12 (Ml 6), ai_ cy (rl 7) 12 (Ml 7), ai_ cy (rl 8) 12 (Ml 8), ai_ cy (rl 9) 12 (Ml 9), ai_ cy (rl 10) 12 (Ml 10), ai_ cy (rl 11) 12 (Ml 11)] [0, 1, 2, 3, 4, 5, 6, 7, 8, 9, 10, 11, 12, 13, 14, 15] (by decide +kernel) rfl (fun hPc hDw hFc hC_ => ?_)
          refine va_callv (va_runV (As := [.int y_17, .int a2, .int y_19]) (rest := []) ⟨hx, hb, hml, hown, hts⟩ (c_X7_chooseForCut_1 l D cy H.size xh u1 u2 u3 u4 u5 u6 u7 u8 xc xk clo cro c4 c5 c6 c7 c8 xn n1 n2 n3 n4 n5 vp vn rl Ml y_17 a2 y_19 (by first | with_reducible assumption | omega | assumption) (by first | with_reducible assumption | omega | assumption)) (cwV 3 hts gX7_chooseForCut_X7_chooseForCut rfl rfl rfl ⟨rfl, hd_X7_chooseForCut⟩ ⟨Nat.le_of_ble_eq_true rfl, Nat.le_of_ble_eq_true rfl⟩) ⟨bl_g, va_recvX hK.1 hP (ci := 7) (q0 := 0) rfl rfl, fun U hU hW => ⟨rfl, by rw [hU], by rw [hU]; exact hPc, ⟨kk_mv hW hK, arrOfT_moved hW.alike hG⟩, hDw⟩⟩ rfl rfl hl.1 rfl (lv_room (Nat.le_of_ble_eq_true rfl)) dB_36_1_60.1.2.1.1 ⟨Nat.le_of_ble_eq_true rfl, Nat.le_of_ble_eq_true rfl⟩) hS (fun q _ h => hFc q h) hFc (fun u t H locs ht hvm hw hB hz1 hk1 hS => ?_)
          obtain ⟨v5_21, v6_22, hP1, hD1⟩ := hB
          rw [ht] at hP1
          obtain ⟨hP, hD⟩ := va_join (wr := []) (w1 := [ob7_0_ xh xc u1 u2 u3 u4 v5_21 v6_22 u7 u8, ob0_0_ xc xn xk clo cro c4 c5 c6 c7 c8, ob3_0_ xn vp vn n1 n2 n3 n4 n5, aq_ cy 6 clo 12 (gf_ rl), ai_ cy (rl 0) 12 (Ml 0), ai_ cy (rl 1) 12 (Ml 1), ai_ cy (rl 2) 12 (Ml 2), ai_ cy (rl 3) 12 (Ml 3), ai_ cy (rl 4) 12 (Ml 4), ai_ cy (rl 5) 12 (Ml 5), ai_ cy (rl 6) 12 (Ml 6), ai_ cy (rl 7) 12 (Ml 7), ai_ cy (rl 8) 12 (Ml 8), ai_ cy (rl 9) 12 (Ml 9), ai_ cy (rl 10) 12 (Ml 10), ai_ cy (rl 11) 12 (Ml 11)]) hP hD [0, 1, 2, 3, 4, 5, 6, 7, 8, 9, 10, 11, 12, 13, 14, 15] [] hC_ rfl (by decide) (by decide) hk1 hFc hP1 hD1
          refine pd_K [ob7_0_ xh xc u1 u2 u3 u4 v5_21 v6_22 u7 u8, ob0_0_ xc xn xk clo cro c4 c5 c6 c7 c8, ob3_0_ xn vp vn n1 n2 n3 n4 n5, aq_ cy 6 clo 12 (gf_ rl), ai_ cy (rl 0) 12 (Ml 0), ai_ cy (rl 1) 12 (Ml 1), ai_ cy (rl 2) 12 (Ml 2), ai_ cy (rl 3) 12 (Ml 3), ai_ cy (rl 4) 12 (Ml 4), ai_ cy (rl 5) 12 (Ml 5), ai_ cy (rl 6) 12 (Ml 6), ai_ cy (rl 7) 12 (Ml 7), ai_ cy (rl 8) 12 (Ml 8), ai_ cy (rl 9) 12 (Ml 9), ai_ cy (rl 10) 12 (Ml 10), ai_ cy (rl 11) 12 (Ml 11)] hP hD (fun hP hD => ?_)
          exact JOIN_5 v5_21 v6_22 _ _ _ ⟨hP, hD⟩ hS (lv_sub hl [0, 1, 2, 3, 4] rfl)
      · have t_3 : ¬ (0 : Int32).toInt ≤ a1.toInt := fun h => c_3 (Int32.le_iff_toInt_le.mpr h)
        refine lv_aload_n hx hb dB_36_1_58.2.1.2.2 rfl (lv_at hl 0 rfl) ?_
        refine lv_iload_n hx hb dB_36_1_58.2.2.1.1 rfl (lv_at hl 2 rfl) ?_
        refine lv_iload_n hx hb dB_36_1_58.2.2.1.2 rfl (lv_at hl 3 rfl) ?_
        refine ct_S hP hD hS hA [ob7_0_ xh xc u1 u2 u3 u4 u5 u6 u7 u8] [0] (by decide) rfl (fun hPc hDw hFc hC_ => ?_)
        refine va_callv (va_runV (As := [.int a2, .int a3]) (rest := []) ⟨hx, hb, hml, hown, hts⟩ (c_X7_meet l D cy s.heap.size xh u1 u2 u3 u4 u5 u6 u7 u8 xc a2 a3) (cwV 2 hts gX7_chooseForCut_X7_meet rfl rfl rfl ⟨rfl, hd_X7_meet⟩ ⟨Nat.le_of_ble_eq_true rfl, Nat.le_of_ble_eq_true rfl⟩) ⟨bl_, va_recvX hK.1 hP (ci := 7) (q0 := 0) rfl rfl, fun U hU hW => ⟨rfl, by rw [hU], by rw [hU]; exact hPc, kk_mv hW hK, hDw⟩⟩ rfl rfl hl.1 rfl (lv_room (Nat.le_of_ble_eq_true rfl)) dB_36_1_58.2.2.2.1 ⟨Nat.le_of_ble_eq_true rfl, Nat.le_of_ble_eq_true rfl⟩) hS (fun q _ h => hFc q h) hFc (fun u t H locs ht hvm hw hB hz1 hk1 hS => ?_)
        obtain ⟨v5_24, v6_25, hP1, hD1⟩ := hB
        rw [ht] at hP1
        obtain ⟨hP, hD⟩ := va_join (wr := [ob0_0_ xc xn xk clo cro c4 c5 c6 c7 c8, ob3_0_ xn vp vn n1 n2 n3 n4 n5, aq_ cy 6 clo 12 (gf_ rl), ai_ cy (rl 0) 12 (Ml 0), ai_ cy (rl 1) 12 (Ml 1), ai_ cy (rl 2) 12 (Ml 2), ai_ cy (rl 3) 12 (Ml 3), ai_ cy (rl 4) 12 (Ml 4), ai_ cy (rl 5) 12 (Ml 5), ai_ cy (rl 6) 12 (Ml 6), ai_ cy (rl 7) 12 (Ml 7), ai_ cy (rl 8) 12 (Ml 8), ai_ cy (rl 9) 12 (Ml 9), ai_ cy (rl 10) 12 (Ml 10), ai_ cy (rl 11) 12 (Ml 11)]) (w1 := [ob7_0_ xh xc u1 u2 u3 u4 v5_24 v6_25 u7 u8]) hP hD [0] [1, 2, 3, 4, 5, 6, 7, 8, 9, 10, 11, 12, 13, 14, 15] hC_ rfl (by decide +kernel) (by decide +kernel) hk1 hFc hP1 hD1
        refine pd_S hP hD [ob7_0_ xh xc u1 u2 u3 u4 v5_24 v6_25 u7 u8, ob0_0_ xc xn xk clo cro c4 c5 c6 c7 c8, ob3_0_ xn vp vn n1 n2 n3 n4 n5, aq_ cy 6 clo 12 (gf_ rl), ai_ cy (rl 0) 12 (Ml 0), ai_ cy (rl 1) 12 (Ml 1), ai_ cy (rl 2) 12 (Ml 2), ai_ cy (rl 3) 12 (Ml 3), ai_ cy (rl 4) 12 (Ml 4), ai_ cy (rl 5) 12 (Ml 5), ai_ cy (rl 6) 12 (Ml 6), ai_ cy (rl 7) 12 (Ml 7), ai_ cy (rl 8) 12 (Ml 8), ai_ cy (rl 9) 12 (Ml 9), ai_ cy (rl 10) 12 (Ml 10), ai_ cy (rl 11) 12 (Ml 11)] [15, 0, 1, 2, 3, 4, 5, 6, 7, 8, 9, 10, 11, 12, 13, 14] (by decide +kernel) rfl (fun hP hD => ?_)
        rw [hQ]
        exact W.vret hx hb hr (fun t ht hW => ⟨⟨(), rfl, trivial, v5_24, v6_25, by rw [ht]; exact hP, hD⟩, hS.F ht⟩) hS.2.2 dB_36_1_58.2.2.2.2
    · have t_2 : ¬ u6.toInt = ((-9) : Int32).toInt := fun h => c_2 (Int32.toInt_inj.mp h)
      rw [hQ]
      exact W.vret hx hb hr (fun t ht hW => ⟨⟨(), rfl, trivial, u5, u6, by rw [ht]; exact hP, hD⟩, hS.F ht⟩) hS.2.2 dB_36_1_58.2.1.1.1

set_option maxHeartbeats 4000000 in
set_option maxRecDepth 100000 in
theorem c_X7_chooseForCut_3 (l : Launch) (D : va_G) (cy : Nat → ClassId) (sz : Nat) (xh : Nat) (u1 : Int32) (u2 : Int32) (u3 : Int32) (u4 : Int32) (u5 : Int32) (u6 : Int32) (u7 : Int32) (u8 : Int32) (xc : Nat) (xk : Nat) (clo : Nat) (cro : Nat) (c4 : Nat) (c5 : Nat) (c6 : Nat) (c7 : Nat) (c8 : Nat) (xn : Nat) (n1 : Nat) (n2 : Nat) (n3 : Nat) (n4 : Nat) (n5 : Nat) (vp : Int32) (vn : Int32) (rl : Nat → Nat) (Ml : Nat → Nat → Int32) (a1 : Int32) (a2 : Int32) (a3 : Int32) (hvp : 0 ≤ vp.toInt ∧ vp.toInt ≤ 12) (q1 : -1 ≤ a1.toInt ∧ a1.toInt < 3) : Met l yX7_chooseForCut wsX7_chooseForCut ({ frames := 4, cells := 0, slots := 0, locals := 94 }) (va_Pc [.ref xh, .int a1, .int a2, .int a3] (fun U => U.heap.size = sz ∧ va_P D vwCl [ob7_0_ xh xc u1 u2 u3 u4 u5 u6 u7 u8, ob0_0_ xc xn xk clo cro c4 c5 c6 c7 c8, ob3_0_ xn vp vn n1 n2 n3 n4 n5, aq_ cy 6 clo 12 (gf_ rl), ai_ cy (rl 0) 12 (Ml 0), ai_ cy (rl 1) 12 (Ml 1), ai_ cy (rl 2) 12 (Ml 2), ai_ cy (rl 3) 12 (Ml 3), ai_ cy (rl 4) 12 (Ml 4), ai_ cy (rl 5) 12 (Ml 5), ai_ cy (rl 6) 12 (Ml 6), ai_ cy (rl 7) 12 (Ml 7), ai_ cy (rl 8) 12 (Ml 8), ai_ cy (rl 9) 12 (Ml 9), ai_ cy (rl 10) 12 (Ml 10), ai_ cy (rl 11) 12 (Ml 11)] U.heap ∧ kg_ D cy U ∧ va_D (fun _ => True) [ob7_0_ xh xc u1 u2 u3 u4 u5 u6 u7 u8, ob0_0_ xc xn xk clo cro c4 c5 c6 c7 c8, ob3_0_ xn vp vn n1 n2 n3 n4 n5, aq_ cy 6 clo 12 (gf_ rl), ai_ cy (rl 0) 12 (Ml 0), ai_ cy (rl 1) 12 (Ml 1), ai_ cy (rl 2) 12 (Ml 2), ai_ cy (rl 3) 12 (Ml 3), ai_ cy (rl 4) 12 (Ml 4), ai_ cy (rl 5) 12 (Ml 5), ai_ cy (rl 6) 12 (Ml 6), ai_ cy (rl 7) 12 (Ml 7), ai_ cy (rl 8) 12 (Ml 8), ai_ cy (rl 9) 12 (Ml 9), ai_ cy (rl 10) 12 (Ml 10), ai_ cy (rl 11) 12 (Ml 11)])) (va_Qv (fun (_ : Unit) => True) (fun (_ : Unit) (t : State) => ∃ (v5 : Int32), ∃ (v6 : Int32), va_P D vwCl [ob7_0_ xh xc u1 u2 u3 u4 v5 v6 u7 u8, ob0_0_ xc xn xk clo cro c4 c5 c6 c7 c8, ob3_0_ xn vp vn n1 n2 n3 n4 n5, aq_ cy 6 clo 12 (gf_ rl), ai_ cy (rl 0) 12 (Ml 0), ai_ cy (rl 1) 12 (Ml 1), ai_ cy (rl 2) 12 (Ml 2), ai_ cy (rl 3) 12 (Ml 3), ai_ cy (rl 4) 12 (Ml 4), ai_ cy (rl 5) 12 (Ml 5), ai_ cy (rl 6) 12 (Ml 6), ai_ cy (rl 7) 12 (Ml 7), ai_ cy (rl 8) 12 (Ml 8), ai_ cy (rl 9) 12 (Ml 9), ai_ cy (rl 10) 12 (Ml 10), ai_ cy (rl 11) 12 (Ml 11)] t.heap ∧ va_D (va_A [ob7_0_ xh xc u1 u2 u3 u4 u5 u6 u7 u8, ob0_0_ xc xn xk clo cro c4 c5 c6 c7 c8, ob3_0_ xn vp vn n1 n2 n3 n4 n5, aq_ cy 6 clo 12 (gf_ rl), ai_ cy (rl 0) 12 (Ml 0), ai_ cy (rl 1) 12 (Ml 1), ai_ cy (rl 2) 12 (Ml 2), ai_ cy (rl 3) 12 (Ml 3), ai_ cy (rl 4) 12 (Ml 4), ai_ cy (rl 5) 12 (Ml 5), ai_ cy (rl 6) 12 (Ml 6), ai_ cy (rl 7) 12 (Ml 7), ai_ cy (rl 8) 12 (Ml 8), ai_ cy (rl 9) 12 (Ml 9), ai_ cy (rl 10) 12 (Ml 10), ai_ cy (rl 11) 12 (Ml 11)] sz) [ob7_0_ xh xc u1 u2 u3 u4 v5 v6 u7 u8, ob0_0_ xc xn xk clo cro c4 c5 c6 c7 c8, ob3_0_ xn vp vn n1 n2 n3 n4 n5, aq_ cy 6 clo 12 (gf_ rl), ai_ cy (rl 0) 12 (Ml 0), ai_ cy (rl 1) 12 (Ml 1), ai_ cy (rl 2) 12 (Ml 2), ai_ cy (rl 3) 12 (Ml 3), ai_ cy (rl 4) 12 (Ml 4), ai_ cy (rl 5) 12 (Ml 5), ai_ cy (rl 6) 12 (Ml 6), ai_ cy (rl 7) 12 (Ml 7), ai_ cy (rl 8) 12 (Ml 8), ai_ cy (rl 9) 12 (Ml 9), ai_ cy (rl 10) 12 (Ml 10), ai_ cy (rl 11) 12 (Ml 11)]) (va_A [ob7_0_ xh xc u1 u2 u3 u4 u5 u6 u7 u8, ob0_0_ xc xn xk clo cro c4 c5 c6 c7 c8, ob3_0_ xn vp vn n1 n2 n3 n4 n5, aq_ cy 6 clo 12 (gf_ rl), ai_ cy (rl 0) 12 (Ml 0), ai_ cy (rl 1) 12 (Ml 1), ai_ cy (rl 2) 12 (Ml 2), ai_ cy (rl 3) 12 (Ml 3), ai_ cy (rl 4) 12 (Ml 4), ai_ cy (rl 5) 12 (Ml 5), ai_ cy (rl 6) 12 (Ml 6), ai_ cy (rl 7) 12 (Ml 7), ai_ cy (rl 8) 12 (Ml 8), ai_ cy (rl 9) 12 (Ml 9), ai_ cy (rl 10) 12 (Ml 10), ai_ cy (rl 11) 12 (Ml 11)] sz)) 0 0 (va_A [ob7_0_ xh xc u1 u2 u3 u4 u5 u6 u7 u8, ob0_0_ xc xn xk clo cro c4 c5 c6 c7 c8, ob3_0_ xn vp vn n1 n2 n3 n4 n5, aq_ cy 6 clo 12 (gf_ rl), ai_ cy (rl 0) 12 (Ml 0), ai_ cy (rl 1) 12 (Ml 1), ai_ cy (rl 2) 12 (Ml 2), ai_ cy (rl 3) 12 (Ml 3), ai_ cy (rl 4) 12 (Ml 4), ai_ cy (rl 5) 12 (Ml 5), ai_ cy (rl 6) 12 (Ml 6), ai_ cy (rl 7) 12 (Ml 7), ai_ cy (rl 8) 12 (Ml 8), ai_ cy (rl 9) 12 (Ml 9), ai_ cy (rl 10) 12 (Ml 10), ai_ cy (rl 11) 12 (Ml 11)] sz) := by
  refine ofQ (cc := cX7_chooseForCut) (maxL := 5) (ret := none) (by decide) rfl ?_
  intro p e s m args below meth c s₁ Q hQ B hml hv
  obtain ⟨rfl, hsz, hP, hK, hD0⟩ := hv
  have hG := hK.2
  have hK := hK.1
  have hx := B.exec
  have hb := B.bytes
  have hr := B.returns
  have hts := atoms_spec (ws := wsX7_chooseForCut) B.pre
  have hown : s.vm.findClass RX7 = some m.cls := by have h_ := findClass_of_methodNamed B.named; exact h_
  have hlocks := B.notSynchronized
  subst hsz
  have hD := hD0.self (sz := s.heap.size)
  generalize hAe : va_A [ob7_0_ xh xc u1 u2 u3 u4 u5 u6 u7 u8, ob0_0_ xc xn xk clo cro c4 c5 c6 c7 c8, ob3_0_ xn vp vn n1 n2 n3 n4 n5, aq_ cy 6 clo 12 (gf_ rl), ai_ cy (rl 0) 12 (Ml 0), ai_ cy (rl 1) 12 (Ml 1), ai_ cy (rl 2) 12 (Ml 2), ai_ cy (rl 3) 12 (Ml 3), ai_ cy (rl 4) 12 (Ml 4), ai_ cy (rl 5) 12 (Ml 5), ai_ cy (rl 6) 12 (Ml 6), ai_ cy (rl 7) 12 (Ml 7), ai_ cy (rl 8) 12 (Ml 8), ai_ cy (rl 9) 12 (Ml 9), ai_ cy (rl 10) 12 (Ml 10), ai_ cy (rl 11) 12 (Ml 11)] s.heap.size = A at hD hQ
  have hA : ∀ q : Nat, s.heap.size ≤ q → A q := fun q h => by rw [← hAe]; exact Or.inr h
  have hS : va_S A s.heap s.heap [] := va_S.rf
  have hl := lv_entry ([.ref xh, .int a1, .int a2, .int a3]) (n := 5) (Nat.le_of_ble_eq_true rfl)
  rw [lg_entry_eq]
  generalize (lg_sl ([.ref xh, .int a1, .int a2, .int a3]) ++ List.replicate (5 - (lg_sl ([.ref xh, .int a1, .int a2, .int a3])).length) Slot.unset).toArray = ls at hl ⊢
  have hl : lv_has ls 5 [(0, .ref xh), (1, .int a1), (2, .int a2), (3, .int a3)] := hl
  have zm9 : ((-9) : Int32).toInt = -9 := by decide
  have z0 : (0 : Int32).toInt = 0 := by decide
  have z1 : (1 : Int32).toInt = 1 := by decide
  refine lv_iload_n hx hb dB_36_1_58.1.1.1.1 rfl (lv_at hl 3 rfl) ?_
  refine lv_aload_n hx hb dB_36_1_58.1.1.1.2 rfl (lv_at hl 0 rfl) ?_
  refine va_get (ci := 7) (v := .int u3) (C := RX7) (T := TX7) (N := 9) hx hb hts (fun _ h => List.mem_cons_of_mem _ (List.mem_append_left _ (List.mem_append_left _ (List.mem_append_right _ h)))) hown hK.1 hP 0 rfl rfl 3 (by decide) (hts (.fieldLink RX7 33 "CutAtlas$SetHunt" "aim" "I") (List.mem_of_getElem? (i := 1) rfl)) (fun _ h9 => h9) rfl dB_36_1_58.1.1.2.1 ?_
  refine lv_icmp_gt (tgt := 17) hx hb dB_36_1_58.1.1.2.2 (by decide) (fun c_1 => ?_) (fun c_1 => ?_)
  · have t_1 : u3.toInt < a3.toInt := Int32.lt_iff_toInt_lt.mp c_1
    rw [hQ]
    exact W.vret hx hb hr (fun t ht hW => ⟨⟨(), rfl, trivial, u5, u6, by rw [ht]; exact hP, hD⟩, hS.F ht⟩) hS.2.2 dB_36_1_58.2.1.1.1
  · have t_1 : ¬ u3.toInt < a3.toInt := fun h => c_1 (Int32.lt_iff_toInt_lt.mpr h)
    refine lv_aload_n hx hb dB_36_1_58.1.2.1.1 rfl (lv_at hl 0 rfl) ?_
    refine va_get (ci := 7) (v := .int u6) (C := RX7) (T := TX7) (N := 9) hx hb hts (fun _ h => List.mem_cons_of_mem _ (List.mem_append_left _ (List.mem_append_left _ (List.mem_append_right _ h)))) hown hK.1 hP 0 rfl rfl 6 (by decide) (hts (.fieldLink RX7 24 "CutAtlas$SetHunt" "found" "I") (List.mem_of_getElem? (i := 2) rfl)) (fun _ h9 => h9) rfl dB_36_1_58.1.2.1.2 ?_
    refine lv_bipush (v := (-9)) hx hb dB_36_1_58.1.2.2.1 (by decide) ?_
    refine lv_icmp_eq (tgt := 18) hx hb dB_36_1_58.1.2.2.2 (by decide) (fun c_2 => ?_) (fun c_2 => ?_)
    · have t_2 : u6.toInt = ((-9) : Int32).toInt := congrArg Int32.toInt c_2
      refine lv_iload_n hx hb dB_36_1_58.2.1.1.2 rfl (lv_at hl 1 rfl) ?_
      refine lv_if_ge (tgt := 29) hx hb dB_36_1_58.2.1.2.1 (by decide) (fun c_3 => ?_) (fun c_3 => ?_)
      · have t_3 : (0 : Int32).toInt ≤ a1.toInt := Int32.le_iff_toInt_le.mp c_3
        refine lv_iconst (v := 1) hx hb dB_36_1_59.1.1.1.1 (by decide) ?_
        refine lv_iload_n hx hb dB_36_1_59.1.1.1.2 rfl (lv_at hl 1 rfl) ?_
        refine lv_ishl hx hb dB_36_1_59.1.1.2.1 ?_
        refine lv_topi (fun y_4 ey_4 => ?_)
        refine lv_istore (lv' := [(4, .int y_4), (0, .ref xh), (1, .int a1), (2, .int a2), (3, .int a3)]) hx hb dB_36_1_59.1.1.2.2 hl (by decide) rfl (fun ls hl => ?_)
        have JOIN_5 : ∀ (o5_5 : Int32) (o6_5 : Int32) (H : Heap) (locs : List Loc) (ls : Array Slot), pd_2 D vwCl A [ob7_0_ xh xc u1 u2 u3 u4 o5_5 o6_5 u7 u8, ob0_0_ xc xn xk clo cro c4 c5 c6 c7 c8, ob3_0_ xn vp vn n1 n2 n3 n4 n5, aq_ cy 6 clo 12 (gf_ rl), ai_ cy (rl 0) 12 (Ml 0), ai_ cy (rl 1) 12 (Ml 1), ai_ cy (rl 2) 12 (Ml 2), ai_ cy (rl 3) 12 (Ml 3), ai_ cy (rl 4) 12 (Ml 4), ai_ cy (rl 5) 12 (Ml 5), ai_ cy (rl 6) 12 (Ml 6), ai_ cy (rl 7) 12 (Ml 7), ai_ cy (rl 8) 12 (Ml 8), ai_ cy (rl 9) 12 (Ml 9), ai_ cy (rl 10) 12 (Ml 10), ai_ cy (rl 11) 12 (Ml 11)] H → va_S A s.heap H locs → lv_has ls 5 [(4, .int y_4), (0, .ref xh), (1, .int a1), (2, .int a2), (3, .int a3)] → W p l e ({ frames := 4, cells := 0, slots := 0, locals := 94 } : Room) s m (([.ref xh, .int a1, .int a2, .int a3] : List Value).toArray) below meth c H locs 0 0 Q (F0 m 60 ls []) := by
          intro o5_5 o6_5 H locs ls hPD hS hl; obtain ⟨hP, hD⟩ := hPD
          refine lv_aload_n hx hb dB_36_1_60.1.2.1.2 rfl (lv_at hl 1 rfl) ?_
          refine va_get (ci := 7) (v := .int u2) (C := RX7) (T := TX7) (N := 9) hx hb hts (fun _ h => List.mem_cons_of_mem _ (List.mem_append_left _ (List.mem_append_left _ (List.mem_append_right _ h)))) hown hK.1 hP 0 rfl rfl 2 (by decide) (hts (.fieldLink RX7 30 "CutAtlas$SetHunt" "mustNot" "I") (List.mem_of_getElem? (i := 4) rfl)) (fun _ h9 => h9) rfl dB_36_1_60.1.2.2.1 ?_
          refine lv_iload hx hb dB_36_1_60.1.2.2.2 (lv_at hl 0 rfl) ?_
          refine lv_iand hx hb dB_36_1_60.2.1.1.1 ?_
          refine lv_topi (fun y_6 ey_6 => ?_)
          refine lv_if_ne (tgt := 89) hx hb dB_36_1_60.2.1.1.2 (by decide) (fun c_7 => ?_) (fun c_7 => ?_)
          · have t_7 : ¬ y_6.toInt = (0 : Int32).toInt := fun h => c_7 (Int32.toInt_inj.mp h)
            rw [hQ]
            exact W.vret hx hb hr (fun t ht hW => ⟨⟨(), rfl, trivial, o5_5, o6_5, by rw [ht]; exact hP, hD⟩, hS.F ht⟩) hS.2.2 dB_36_1_61.2.2.2.2
          · have t_7 : y_6.toInt = (0 : Int32).toInt := congrArg Int32.toInt c_7
            refine lv_aload_n hx hb dB_36_1_60.2.1.2.1 rfl (lv_at hl 1 rfl) ?_
            refine lv_iload_n hx hb dB_36_1_60.2.1.2.2 rfl (lv_at hl 2 rfl) ?_
            refine lv_iconst (v := 1) hx hb dB_36_1_60.2.2.1.1 (by decide) ?_
            refine lv_isub hx hb dB_36_1_60.2.2.1.2 ?_
            refine lv_topi (fun y_8 ey_8 => ?_)
            have ty_8 : y_8.toInt = a1.toInt - (1 : Int32).toInt := by rw [ey_8]; exact subI (by omega) (by omega)
            refine lv_iload_n hx hb dB_36_1_60.2.2.2.1 rfl (lv_at hl 3 rfl) ?_
            refine lv_iload hx hb dB_36_1_60.2.2.2.2 (lv_at hl 0 rfl) ?_
            refine lv_ior hx hb dB_36_1_61.1.1.1 ?_
            refine lv_topi (fun y_9 ey_9 => ?_)
            refine lv_iload_n hx hb dB_36_1_61.1.1.2 rfl (lv_at hl 4 rfl) ?_
            refine lv_aload_n hx hb dB_36_1_61.1.2.1 rfl (lv_at hl 1 rfl) ?_
            refine lv_iload_n hx hb dB_36_1_61.1.2.2 rfl (lv_at hl 2 rfl) ?_
            refine lv_iload_n hx hb dB_36_1_61.2.1.1 rfl (lv_at hl 3 rfl) ?_
            refine ct_R hP hD [ob7_0_ xh xc u1 u2 u3 u4 o5_5 o6_5 u7 u8, ob0_0_ xc xn xk clo cro c4 c5 c6 c7 c8, ob3_0_ xn vp vn n1 n2 n3 n4 n5, aq_ cy 6 clo 12 (gf_ rl), ai_ cy (rl 0) 12 (Ml 0), ai_ cy (rl 1) 12 (Ml 1), ai_ cy (rl 2) 12 (Ml 2), ai_ cy (rl 3) 12 (Ml 3), ai_ cy (rl 4) 12 (Ml 4), ai_ cy (rl 5) 12 (Ml 5), ai_ cy (rl 6) 12 (Ml 6), ai_ cy (rl 7) 12 (Ml 7), ai_ cy (rl 8) 12 (Ml 8), ai_ cy (rl 9) 12 (Ml 9), ai_ cy (rl 10) 12 (Ml 10), ai_ cy (rl 11) 12 (Ml 11)] [0, 1, 2, 3, 4, 5, 6, 7, 8, 9, 10, 11, 12, 13, 14, 15] (by decide +kernel) rfl (fun hPc hDw => ?_)
            have hFc := va_free (wc := []) hD hS hA [] rfl
            refine va_calli (va_runV (As := [.int a1, .int a2]) (rest := [.int a3, .int y_9, .int y_8, .ref xh]) ⟨hx, hb, hml, hown, hts⟩ (c_X7_letOut l D cy H.size xh u1 u2 u3 u4 o5_5 o6_5 u7 u8 xc xk clo cro c4 c5 c6 c7 c8 xn n1 n2 n3 n4 n5 vp vn rl Ml a1 a2 (by first | with_reducible assumption | omega | assumption) (by first | with_reducible assumption | omega | assumption)) (cwV 2 hts gX7_chooseForCut_X7_letOut rfl rfl rfl ⟨rfl, hd_X7_letOut⟩ ⟨Nat.le_of_ble_eq_true rfl, Nat.le_of_ble_eq_true rfl⟩) ⟨bl_g, va_recvX hK.1 hP (ci := 7) (q0 := 0) rfl rfl, fun U hU hW => ⟨rfl, by rw [hU], by rw [hU]; exact hPc, ⟨kk_mv hW hK, arrOfT_moved hW.alike hG⟩, hDw⟩⟩ rfl rfl hl.1 rfl (lv_room (Nat.le_of_ble_eq_true rfl)) dB_36_1_61.2.1.2 ⟨Nat.le_of_ble_eq_true rfl, Nat.le_of_ble_eq_true rfl⟩) hS (fun q _ h => hFc q h) hFc (fun r_10 u t H locs ht hvm hw hB hz1 hk1 hS => ?_)
            have hP : va_P D vwCl _ H := ro_keep hP hk1
            refine lv_iadd hx hb dB_36_1_61.2.2.1 ?_
            refine lv_topi (fun y_11 ey_11 => ?_)
            refine ct_S hP hD hS hA [ob7_0_ xh xc u1 u2 u3 u4 o5_5 o6_5 u7 u8, ob0_0_ xc xn xk clo cro c4 c5 c6 c7 c8, ob3_0_ xn vp vn n1 n2 n3 n4 n5, aq_ cy 6 clo 12 (gf_ rl), ai_ cy (rl 0) 12 (Ml 0), ai_ cy (rl 1) 12 (Ml 1), ai_ cy (rl 2) 12 (Ml 2), ai_ cy (rl 3) 12 (Ml 3), ai_ cy (rl 4) 12 (Ml 4), ai_ cy (rl 5) 12 (Ml 5), ai_ cy (rl 6) 12 (Ml 6), ai_ cy (rl 7) 12 (Ml 7), ai_ cy (rl 8) 12 (Ml 8), ai_ cy (rl 9) 12 (Ml 9), ai_ cy (rl 10) 12 (Ml 10), ai_ cy (rl 11) 12 (Ml 11)] [0, 1, 2, 3, 4, 5, 6, 7, 8, 9, 10, 11, 12, 13, 14, 15] (by decide +kernel) rfl (fun hPc hDw hFc hC_ => ?_)
            refine va_callv (va_runV (As := [.int y_8, .int y_9, .int y_11]) (rest := []) ⟨hx, hb, hml, hown, hts⟩ (c_X7_chooseForCut_2 l D cy H.size xh u1 u2 u3 u4 o5_5 o6_5 u7 u8 xc xk clo cro c4 c5 c6 c7 c8 xn n1 n2 n3 n4 n5 vp vn rl Ml y_8 y_9 y_11 (by first | with_reducible assumption | omega | assumption) (by first | with_reducible assumption | omega | assumption)) (cwV 3 hts gX7_chooseForCut_X7_chooseForCut rfl rfl rfl ⟨rfl, hd_X7_chooseForCut⟩ ⟨Nat.le_of_ble_eq_true rfl, Nat.le_of_ble_eq_true rfl⟩) ⟨bl_g, va_recvX hK.1 hP (ci := 7) (q0 := 0) rfl rfl, fun U hU hW => ⟨rfl, by rw [hU], by rw [hU]; exact hPc, ⟨kk_mv hW hK, arrOfT_moved hW.alike hG⟩, hDw⟩⟩ rfl rfl hl.1 rfl (lv_room (Nat.le_of_ble_eq_true rfl)) dB_36_1_61.2.2.2.1 ⟨Nat.le_of_ble_eq_true rfl, Nat.le_of_ble_eq_true rfl⟩) hS (fun q _ h => hFc q h) hFc (fun u t H locs ht hvm hw hB hz1 hk1 hS => ?_)
            obtain ⟨v5_13, v6_14, hP1, hD1⟩ := hB
            rw [ht] at hP1
            obtain ⟨hP, hD⟩ := va_join (wr := []) (w1 := [ob7_0_ xh xc u1 u2 u3 u4 v5_13 v6_14 u7 u8, ob0_0_ xc xn xk clo cro c4 c5 c6 c7 c8, ob3_0_ xn vp vn n1 n2 n3 n4 n5, aq_ cy 6 clo 12 (gf_ rl), ai_ cy (rl 0) 12 (Ml 0), ai_ cy (rl 1) 12 (Ml 1), ai_ cy (rl 2) 12 (Ml 2), ai_ cy (rl 3) 12 (Ml 3), ai_ cy (rl 4) 12 (Ml 4), ai_ cy (rl 5) 12 (Ml 5), ai_ cy (rl 6) 12 (Ml 6), ai_ cy (rl 7) 12 (Ml 7), ai_ cy (rl 8) 12 (Ml 8), ai_ cy (rl 9) 12 (Ml 9), ai_ cy (rl 10) 12 (Ml 10), ai_ cy (rl 11) 12 (Ml 11)]) hP hD [0, 1, 2, 3, 4, 5, 6, 7, 8, 9, 10, 11, 12, 13, 14, 15] [] hC_ rfl (by decide) (by decide) hk1 hFc hP1 hD1
            refine pd_K [ob7_0_ xh xc u1 u2 u3 u4 v5_13 v6_14 u7 u8, ob0_0_ xc xn xk clo cro c4 c5 c6 c7 c8, ob3_0_ xn vp vn n1 n2 n3 n4 n5, aq_ cy 6 clo 12 (gf_ rl), ai_ cy (rl 0) 12 (Ml 0), ai_ cy (rl 1) 12 (Ml 1), ai_ cy (rl 2) 12 (Ml 2), ai_ cy (rl 3) 12 (Ml 3), ai_ cy (rl 4) 12 (Ml 4), ai_ cy (rl 5) 12 (Ml 5), ai_ cy (rl 6) 12 (Ml 6), ai_ cy (rl 7) 12 (Ml 7), ai_ cy (rl 8) 12 (Ml 8), ai_ cy (rl 9) 12 (Ml 9), ai_ cy (rl 10) 12 (Ml 10), ai_ cy (rl 11) 12 (Ml 11)] hP hD (fun hP hD => ?_)
            rw [hQ]
            exact W.vret hx hb hr (fun t ht hW => ⟨⟨(), rfl, trivial, v5_13, v6_14, by rw [ht]; exact hP, hD⟩, hS.F ht⟩) hS.2.2 dB_36_1_61.2.2.2.2
        refine lv_aload_n hx hb dB_36_1_59.1.2.1.1 rfl (lv_at hl 1 rfl) ?_
        refine va_get (ci := 7) (v := .int u1) (C := RX7) (T := TX7) (N := 9) hx hb hts (fun _ h => List.mem_cons_of_mem _ (List.mem_append_left _ (List.mem_append_left _ (List.mem_append_right _ h)))) hown hK.1 hP 0 rfl rfl 1 (by decide) (hts (.fieldLink RX7 27 "CutAtlas$SetHunt" "must" "I") (List.mem_of_getElem? (i := 3) rfl)) (fun _ h9 => h9) rfl dB_36_1_59.1.2.1.2 ?_
        refine lv_iload hx hb dB_36_1_59.1.2.2.1 (lv_at hl 0 rfl) ?_
        refine lv_iand hx hb dB_36_1_59.1.2.2.2 ?_
        refine lv_topi (fun y_15 ey_15 => ?_)
        refine lv_if_ne (tgt := 60) hx hb dB_36_1_59.2.1.1.1 (by decide) (fun c_16 => ?_) (fun c_16 => ?_)
        · have t_16 : ¬ y_15.toInt = (0 : Int32).toInt := fun h => c_16 (Int32.toInt_inj.mp h)
          exact JOIN_5 u5 u6 _ _ _ ⟨hP, hD⟩ hS (lv_sub hl [0, 1, 2, 3, 4] rfl)
        · have t_16 : y_15.toInt = (0 : Int32).toInt := congrArg Int32.toInt c_16
          refine lv_aload_n hx hb dB_36_1_59.2.1.1.2 rfl (lv_at hl 1 rfl) ?_
          refine lv_iload_n hx hb dB_36_1_59.2.1.2.1 rfl (lv_at hl 2 rfl) ?_
          refine lv_iconst (v := 1) hx hb dB_36_1_59.2.1.2.2 (by decide) ?_
          refine lv_isub hx hb dB_36_1_59.2.2.1.1 ?_
          refine lv_topi (fun y_17 ey_17 => ?_)
          have ty_17 : y_17.toInt = a1.toInt - (1 : Int32).toInt := by rw [ey_17]; exact subI (by omega) (by omega)
          refine lv_iload_n hx hb dB_36_1_59.2.2.1.2 rfl (lv_at hl 3 rfl) ?_
          refine lv_iload_n hx hb dB_36_1_59.2.2.2.1 rfl (lv_at hl 4 rfl) ?_
          refine lv_aload_n hx hb dB_36_1_59.2.2.2.2 rfl (lv_at hl 1 rfl) ?_
          refine lv_iload_n hx hb dB_36_1_60.1.1.1.1 rfl (lv_at hl 2 rfl) ?_
          refine lv_iload_n hx hb dB_36_1_60.1.1.1.2 rfl (lv_at hl 3 rfl) ?_
          refine ct_R hP hD [ob7_0_ xh xc u1 u2 u3 u4 u5 u6 u7 u8, ob0_0_ xc xn xk clo cro c4 c5 c6 c7 c8, ob3_0_ xn vp vn n1 n2 n3 n4 n5, aq_ cy 6 clo 12 (gf_ rl), ai_ cy (rl 0) 12 (Ml 0), ai_ cy (rl 1) 12 (Ml 1), ai_ cy (rl 2) 12 (Ml 2), ai_ cy (rl 3) 12 (Ml 3), ai_ cy (rl 4) 12 (Ml 4), ai_ cy (rl 5) 12 (Ml 5), ai_ cy (rl 6) 12 (Ml 6), ai_ cy (rl 7) 12 (Ml 7), ai_ cy (rl 8) 12 (Ml 8), ai_ cy (rl 9) 12 (Ml 9), ai_ cy (rl 10) 12 (Ml 10), ai_ cy (rl 11) 12 (Ml 11)] [0, 1, 2, 3, 4, 5, 6, 7, 8, 9, 10, 11, 12, 13, 14, 15] (by decide +kernel) rfl (fun hPc hDw => ?_)
          have hFc := va_free (wc := []) hD hS hA [] rfl
          refine va_calli (va_runV (As := [.int a1, .int a2]) (rest := [.int a3, .int a2, .int y_17, .ref xh]) ⟨hx, hb, hml, hown, hts⟩ (c_X7_letIn l D cy s.heap.size xh u1 u2 u3 u4 u5 u6 u7 u8 xc xk clo cro c4 c5 c6 c7 c8 xn n1 n2 n3 n4 n5 vp vn rl Ml a1 a2 (by first | with_reducible assumption | omega | assumption) (by first | with_reducible assumption | omega | assumption)) (cwV 2 hts gX7_chooseForCut_X7_letIn rfl rfl rfl ⟨rfl, hd_X7_letIn⟩ ⟨Nat.le_of_ble_eq_true rfl, Nat.le_of_ble_eq_true rfl⟩) ⟨bl_g, va_recvX hK.1 hP (ci := 7) (q0 := 0) rfl rfl, fun U hU hW => ⟨rfl, by rw [hU], by rw [hU]; exact hPc, ⟨kk_mv hW hK, arrOfT_moved hW.alike hG⟩, hDw⟩⟩ rfl rfl hl.1 rfl (lv_room (Nat.le_of_ble_eq_true rfl)) dB_36_1_60.1.1.2.1 ⟨Nat.le_of_ble_eq_true rfl, Nat.le_of_ble_eq_true rfl⟩) hS (fun q _ h => hFc q h) hFc (fun r_18 u t H locs ht hvm hw hB hz1 hk1 hS => ?_)
          have hP : va_P D vwCl _ H := ro_keep hP hk1
          refine lv_iadd hx hb dB_36_1_60.1.1.2.2 ?_
          refine lv_topi (fun y_19 ey_19 => ?_)
          refine ct_S hP hD hS hA [ob7_0_ xh xc u1 u2 u3 u4 u5 u6 u7 u8, ob0_0_ xc xn xk clo cro c4 c5 c6 c7 c8, ob3_0_ xn vp vn n1 n2 n3 n4 n5, aq_ cy 6 clo 12 (gf_ rl), ai_ cy (rl 0) 12 (Ml 0), ai_ cy (rl 1) 12 (Ml 1), ai_ cy (rl 2) 12 (Ml 2), ai_ cy (rl 3) 12 (Ml 3), ai_ cy (rl 4) 12 (Ml 4), ai_ cy (rl 5) 12 (Ml 5), ai_ cy (rl 6) 12 (Ml 6), ai_ cy (rl 7) 12 (Ml 7), ai_ cy (rl 8) 12 (Ml 8), ai_ cy (rl 9) 12 (Ml 9), ai_ cy (rl 10) 12 (Ml 10), ai_ cy (rl 11) 12 (Ml 11)] [0, 1, 2, 3, 4, 5, 6, 7, 8, 9, 10, 11, 12, 13, 14, 15] (by decide +kernel) rfl (fun hPc hDw hFc hC_ => ?_)
          refine va_callv (va_runV (As := [.int y_17, .int a2, .int y_19]) (rest := []) ⟨hx, hb, hml, hown, hts⟩ (c_X7_chooseForCut_2 l D cy H.size xh u1 u2 u3 u4 u5 u6 u7 u8 xc xk clo cro c4 c5 c6 c7 c8 xn n1 n2 n3 n4 n5 vp vn rl Ml y_17 a2 y_19 (by first | with_reducible assumption | omega | assumption) (by first | with_reducible assumption | omega | assumption)) (cwV 3 hts gX7_chooseForCut_X7_chooseForCut rfl rfl rfl ⟨rfl, hd_X7_chooseForCut⟩ ⟨Nat.le_of_ble_eq_true rfl, Nat.le_of_ble_eq_true rfl⟩) ⟨bl_g, va_recvX hK.1 hP (ci := 7) (q0 := 0) rfl rfl, fun U hU hW => ⟨rfl, by rw [hU], by rw [hU]; exact hPc, ⟨kk_mv hW hK, arrOfT_moved hW.alike hG⟩, hDw⟩⟩ rfl rfl hl.1 rfl (lv_room (Nat.le_of_ble_eq_true rfl)) dB_36_1_60.1.2.1.1 ⟨Nat.le_of_ble_eq_true rfl, Nat.le_of_ble_eq_true rfl⟩) hS (fun q _ h => hFc q h) hFc (fun u t H locs ht hvm hw hB hz1 hk1 hS => ?_)
          obtain ⟨v5_21, v6_22, hP1, hD1⟩ := hB
          rw [ht] at hP1
          obtain ⟨hP, hD⟩ := va_join (wr := []) (w1 := [ob7_0_ xh xc u1 u2 u3 u4 v5_21 v6_22 u7 u8, ob0_0_ xc xn xk clo cro c4 c5 c6 c7 c8, ob3_0_ xn vp vn n1 n2 n3 n4 n5, aq_ cy 6 clo 12 (gf_ rl), ai_ cy (rl 0) 12 (Ml 0), ai_ cy (rl 1) 12 (Ml 1), ai_ cy (rl 2) 12 (Ml 2), ai_ cy (rl 3) 12 (Ml 3), ai_ cy (rl 4) 12 (Ml 4), ai_ cy (rl 5) 12 (Ml 5), ai_ cy (rl 6) 12 (Ml 6), ai_ cy (rl 7) 12 (Ml 7), ai_ cy (rl 8) 12 (Ml 8), ai_ cy (rl 9) 12 (Ml 9), ai_ cy (rl 10) 12 (Ml 10), ai_ cy (rl 11) 12 (Ml 11)]) hP hD [0, 1, 2, 3, 4, 5, 6, 7, 8, 9, 10, 11, 12, 13, 14, 15] [] hC_ rfl (by decide) (by decide) hk1 hFc hP1 hD1
          refine pd_K [ob7_0_ xh xc u1 u2 u3 u4 v5_21 v6_22 u7 u8, ob0_0_ xc xn xk clo cro c4 c5 c6 c7 c8, ob3_0_ xn vp vn n1 n2 n3 n4 n5, aq_ cy 6 clo 12 (gf_ rl), ai_ cy (rl 0) 12 (Ml 0), ai_ cy (rl 1) 12 (Ml 1), ai_ cy (rl 2) 12 (Ml 2), ai_ cy (rl 3) 12 (Ml 3), ai_ cy (rl 4) 12 (Ml 4), ai_ cy (rl 5) 12 (Ml 5), ai_ cy (rl 6) 12 (Ml 6), ai_ cy (rl 7) 12 (Ml 7), ai_ cy (rl 8) 12 (Ml 8), ai_ cy (rl 9) 12 (Ml 9), ai_ cy (rl 10) 12 (Ml 10), ai_ cy (rl 11) 12 (Ml 11)] hP hD (fun hP hD => ?_)
          exact JOIN_5 v5_21 v6_22 _ _ _ ⟨hP, hD⟩ hS (lv_sub hl [0, 1, 2, 3, 4] rfl)
      · have t_3 : ¬ (0 : Int32).toInt ≤ a1.toInt := fun h => c_3 (Int32.le_iff_toInt_le.mpr h)
        refine lv_aload_n hx hb dB_36_1_58.2.1.2.2 rfl (lv_at hl 0 rfl) ?_
        refine lv_iload_n hx hb dB_36_1_58.2.2.1.1 rfl (lv_at hl 2 rfl) ?_
        refine lv_iload_n hx hb dB_36_1_58.2.2.1.2 rfl (lv_at hl 3 rfl) ?_
        refine ct_S hP hD hS hA [ob7_0_ xh xc u1 u2 u3 u4 u5 u6 u7 u8] [0] (by decide) rfl (fun hPc hDw hFc hC_ => ?_)
        refine va_callv (va_runV (As := [.int a2, .int a3]) (rest := []) ⟨hx, hb, hml, hown, hts⟩ (c_X7_meet l D cy s.heap.size xh u1 u2 u3 u4 u5 u6 u7 u8 xc a2 a3) (cwV 2 hts gX7_chooseForCut_X7_meet rfl rfl rfl ⟨rfl, hd_X7_meet⟩ ⟨Nat.le_of_ble_eq_true rfl, Nat.le_of_ble_eq_true rfl⟩) ⟨bl_, va_recvX hK.1 hP (ci := 7) (q0 := 0) rfl rfl, fun U hU hW => ⟨rfl, by rw [hU], by rw [hU]; exact hPc, kk_mv hW hK, hDw⟩⟩ rfl rfl hl.1 rfl (lv_room (Nat.le_of_ble_eq_true rfl)) dB_36_1_58.2.2.2.1 ⟨Nat.le_of_ble_eq_true rfl, Nat.le_of_ble_eq_true rfl⟩) hS (fun q _ h => hFc q h) hFc (fun u t H locs ht hvm hw hB hz1 hk1 hS => ?_)
        obtain ⟨v5_24, v6_25, hP1, hD1⟩ := hB
        rw [ht] at hP1
        obtain ⟨hP, hD⟩ := va_join (wr := [ob0_0_ xc xn xk clo cro c4 c5 c6 c7 c8, ob3_0_ xn vp vn n1 n2 n3 n4 n5, aq_ cy 6 clo 12 (gf_ rl), ai_ cy (rl 0) 12 (Ml 0), ai_ cy (rl 1) 12 (Ml 1), ai_ cy (rl 2) 12 (Ml 2), ai_ cy (rl 3) 12 (Ml 3), ai_ cy (rl 4) 12 (Ml 4), ai_ cy (rl 5) 12 (Ml 5), ai_ cy (rl 6) 12 (Ml 6), ai_ cy (rl 7) 12 (Ml 7), ai_ cy (rl 8) 12 (Ml 8), ai_ cy (rl 9) 12 (Ml 9), ai_ cy (rl 10) 12 (Ml 10), ai_ cy (rl 11) 12 (Ml 11)]) (w1 := [ob7_0_ xh xc u1 u2 u3 u4 v5_24 v6_25 u7 u8]) hP hD [0] [1, 2, 3, 4, 5, 6, 7, 8, 9, 10, 11, 12, 13, 14, 15] hC_ rfl (by decide +kernel) (by decide +kernel) hk1 hFc hP1 hD1
        refine pd_S hP hD [ob7_0_ xh xc u1 u2 u3 u4 v5_24 v6_25 u7 u8, ob0_0_ xc xn xk clo cro c4 c5 c6 c7 c8, ob3_0_ xn vp vn n1 n2 n3 n4 n5, aq_ cy 6 clo 12 (gf_ rl), ai_ cy (rl 0) 12 (Ml 0), ai_ cy (rl 1) 12 (Ml 1), ai_ cy (rl 2) 12 (Ml 2), ai_ cy (rl 3) 12 (Ml 3), ai_ cy (rl 4) 12 (Ml 4), ai_ cy (rl 5) 12 (Ml 5), ai_ cy (rl 6) 12 (Ml 6), ai_ cy (rl 7) 12 (Ml 7), ai_ cy (rl 8) 12 (Ml 8), ai_ cy (rl 9) 12 (Ml 9), ai_ cy (rl 10) 12 (Ml 10), ai_ cy (rl 11) 12 (Ml 11)] [15, 0, 1, 2, 3, 4, 5, 6, 7, 8, 9, 10, 11, 12, 13, 14] (by decide +kernel) rfl (fun hP hD => ?_)
        rw [hQ]
        exact W.vret hx hb hr (fun t ht hW => ⟨⟨(), rfl, trivial, v5_24, v6_25, by rw [ht]; exact hP, hD⟩, hS.F ht⟩) hS.2.2 dB_36_1_58.2.2.2.2
    · have t_2 : ¬ u6.toInt = ((-9) : Int32).toInt := fun h => c_2 (Int32.toInt_inj.mp h)
      rw [hQ]
      exact W.vret hx hb hr (fun t ht hW => ⟨⟨(), rfl, trivial, u5, u6, by rw [ht]; exact hP, hD⟩, hS.F ht⟩) hS.2.2 dB_36_1_58.2.1.1.1

set_option maxHeartbeats 4000000 in
set_option maxRecDepth 100000 in
theorem c_X7_chooseForCut_4 (l : Launch) (D : va_G) (cy : Nat → ClassId) (sz : Nat) (xh : Nat) (u1 : Int32) (u2 : Int32) (u3 : Int32) (u4 : Int32) (u5 : Int32) (u6 : Int32) (u7 : Int32) (u8 : Int32) (xc : Nat) (xk : Nat) (clo : Nat) (cro : Nat) (c4 : Nat) (c5 : Nat) (c6 : Nat) (c7 : Nat) (c8 : Nat) (xn : Nat) (n1 : Nat) (n2 : Nat) (n3 : Nat) (n4 : Nat) (n5 : Nat) (vp : Int32) (vn : Int32) (rl : Nat → Nat) (Ml : Nat → Nat → Int32) (a1 : Int32) (a2 : Int32) (a3 : Int32) (hvp : 0 ≤ vp.toInt ∧ vp.toInt ≤ 12) (q1 : -1 ≤ a1.toInt ∧ a1.toInt < 4) : Met l yX7_chooseForCut wsX7_chooseForCut ({ frames := 5, cells := 0, slots := 0, locals := 118 }) (va_Pc [.ref xh, .int a1, .int a2, .int a3] (fun U => U.heap.size = sz ∧ va_P D vwCl [ob7_0_ xh xc u1 u2 u3 u4 u5 u6 u7 u8, ob0_0_ xc xn xk clo cro c4 c5 c6 c7 c8, ob3_0_ xn vp vn n1 n2 n3 n4 n5, aq_ cy 6 clo 12 (gf_ rl), ai_ cy (rl 0) 12 (Ml 0), ai_ cy (rl 1) 12 (Ml 1), ai_ cy (rl 2) 12 (Ml 2), ai_ cy (rl 3) 12 (Ml 3), ai_ cy (rl 4) 12 (Ml 4), ai_ cy (rl 5) 12 (Ml 5), ai_ cy (rl 6) 12 (Ml 6), ai_ cy (rl 7) 12 (Ml 7), ai_ cy (rl 8) 12 (Ml 8), ai_ cy (rl 9) 12 (Ml 9), ai_ cy (rl 10) 12 (Ml 10), ai_ cy (rl 11) 12 (Ml 11)] U.heap ∧ kg_ D cy U ∧ va_D (fun _ => True) [ob7_0_ xh xc u1 u2 u3 u4 u5 u6 u7 u8, ob0_0_ xc xn xk clo cro c4 c5 c6 c7 c8, ob3_0_ xn vp vn n1 n2 n3 n4 n5, aq_ cy 6 clo 12 (gf_ rl), ai_ cy (rl 0) 12 (Ml 0), ai_ cy (rl 1) 12 (Ml 1), ai_ cy (rl 2) 12 (Ml 2), ai_ cy (rl 3) 12 (Ml 3), ai_ cy (rl 4) 12 (Ml 4), ai_ cy (rl 5) 12 (Ml 5), ai_ cy (rl 6) 12 (Ml 6), ai_ cy (rl 7) 12 (Ml 7), ai_ cy (rl 8) 12 (Ml 8), ai_ cy (rl 9) 12 (Ml 9), ai_ cy (rl 10) 12 (Ml 10), ai_ cy (rl 11) 12 (Ml 11)])) (va_Qv (fun (_ : Unit) => True) (fun (_ : Unit) (t : State) => ∃ (v5 : Int32), ∃ (v6 : Int32), va_P D vwCl [ob7_0_ xh xc u1 u2 u3 u4 v5 v6 u7 u8, ob0_0_ xc xn xk clo cro c4 c5 c6 c7 c8, ob3_0_ xn vp vn n1 n2 n3 n4 n5, aq_ cy 6 clo 12 (gf_ rl), ai_ cy (rl 0) 12 (Ml 0), ai_ cy (rl 1) 12 (Ml 1), ai_ cy (rl 2) 12 (Ml 2), ai_ cy (rl 3) 12 (Ml 3), ai_ cy (rl 4) 12 (Ml 4), ai_ cy (rl 5) 12 (Ml 5), ai_ cy (rl 6) 12 (Ml 6), ai_ cy (rl 7) 12 (Ml 7), ai_ cy (rl 8) 12 (Ml 8), ai_ cy (rl 9) 12 (Ml 9), ai_ cy (rl 10) 12 (Ml 10), ai_ cy (rl 11) 12 (Ml 11)] t.heap ∧ va_D (va_A [ob7_0_ xh xc u1 u2 u3 u4 u5 u6 u7 u8, ob0_0_ xc xn xk clo cro c4 c5 c6 c7 c8, ob3_0_ xn vp vn n1 n2 n3 n4 n5, aq_ cy 6 clo 12 (gf_ rl), ai_ cy (rl 0) 12 (Ml 0), ai_ cy (rl 1) 12 (Ml 1), ai_ cy (rl 2) 12 (Ml 2), ai_ cy (rl 3) 12 (Ml 3), ai_ cy (rl 4) 12 (Ml 4), ai_ cy (rl 5) 12 (Ml 5), ai_ cy (rl 6) 12 (Ml 6), ai_ cy (rl 7) 12 (Ml 7), ai_ cy (rl 8) 12 (Ml 8), ai_ cy (rl 9) 12 (Ml 9), ai_ cy (rl 10) 12 (Ml 10), ai_ cy (rl 11) 12 (Ml 11)] sz) [ob7_0_ xh xc u1 u2 u3 u4 v5 v6 u7 u8, ob0_0_ xc xn xk clo cro c4 c5 c6 c7 c8, ob3_0_ xn vp vn n1 n2 n3 n4 n5, aq_ cy 6 clo 12 (gf_ rl), ai_ cy (rl 0) 12 (Ml 0), ai_ cy (rl 1) 12 (Ml 1), ai_ cy (rl 2) 12 (Ml 2), ai_ cy (rl 3) 12 (Ml 3), ai_ cy (rl 4) 12 (Ml 4), ai_ cy (rl 5) 12 (Ml 5), ai_ cy (rl 6) 12 (Ml 6), ai_ cy (rl 7) 12 (Ml 7), ai_ cy (rl 8) 12 (Ml 8), ai_ cy (rl 9) 12 (Ml 9), ai_ cy (rl 10) 12 (Ml 10), ai_ cy (rl 11) 12 (Ml 11)]) (va_A [ob7_0_ xh xc u1 u2 u3 u4 u5 u6 u7 u8, ob0_0_ xc xn xk clo cro c4 c5 c6 c7 c8, ob3_0_ xn vp vn n1 n2 n3 n4 n5, aq_ cy 6 clo 12 (gf_ rl), ai_ cy (rl 0) 12 (Ml 0), ai_ cy (rl 1) 12 (Ml 1), ai_ cy (rl 2) 12 (Ml 2), ai_ cy (rl 3) 12 (Ml 3), ai_ cy (rl 4) 12 (Ml 4), ai_ cy (rl 5) 12 (Ml 5), ai_ cy (rl 6) 12 (Ml 6), ai_ cy (rl 7) 12 (Ml 7), ai_ cy (rl 8) 12 (Ml 8), ai_ cy (rl 9) 12 (Ml 9), ai_ cy (rl 10) 12 (Ml 10), ai_ cy (rl 11) 12 (Ml 11)] sz)) 0 0 (va_A [ob7_0_ xh xc u1 u2 u3 u4 u5 u6 u7 u8, ob0_0_ xc xn xk clo cro c4 c5 c6 c7 c8, ob3_0_ xn vp vn n1 n2 n3 n4 n5, aq_ cy 6 clo 12 (gf_ rl), ai_ cy (rl 0) 12 (Ml 0), ai_ cy (rl 1) 12 (Ml 1), ai_ cy (rl 2) 12 (Ml 2), ai_ cy (rl 3) 12 (Ml 3), ai_ cy (rl 4) 12 (Ml 4), ai_ cy (rl 5) 12 (Ml 5), ai_ cy (rl 6) 12 (Ml 6), ai_ cy (rl 7) 12 (Ml 7), ai_ cy (rl 8) 12 (Ml 8), ai_ cy (rl 9) 12 (Ml 9), ai_ cy (rl 10) 12 (Ml 10), ai_ cy (rl 11) 12 (Ml 11)] sz) := by
  refine ofQ (cc := cX7_chooseForCut) (maxL := 5) (ret := none) (by decide) rfl ?_
  intro p e s m args below meth c s₁ Q hQ B hml hv
  obtain ⟨rfl, hsz, hP, hK, hD0⟩ := hv
  have hG := hK.2
  have hK := hK.1
  have hx := B.exec
  have hb := B.bytes
  have hr := B.returns
  have hts := atoms_spec (ws := wsX7_chooseForCut) B.pre
  have hown : s.vm.findClass RX7 = some m.cls := by have h_ := findClass_of_methodNamed B.named; exact h_
  have hlocks := B.notSynchronized
  subst hsz
  have hD := hD0.self (sz := s.heap.size)
  generalize hAe : va_A [ob7_0_ xh xc u1 u2 u3 u4 u5 u6 u7 u8, ob0_0_ xc xn xk clo cro c4 c5 c6 c7 c8, ob3_0_ xn vp vn n1 n2 n3 n4 n5, aq_ cy 6 clo 12 (gf_ rl), ai_ cy (rl 0) 12 (Ml 0), ai_ cy (rl 1) 12 (Ml 1), ai_ cy (rl 2) 12 (Ml 2), ai_ cy (rl 3) 12 (Ml 3), ai_ cy (rl 4) 12 (Ml 4), ai_ cy (rl 5) 12 (Ml 5), ai_ cy (rl 6) 12 (Ml 6), ai_ cy (rl 7) 12 (Ml 7), ai_ cy (rl 8) 12 (Ml 8), ai_ cy (rl 9) 12 (Ml 9), ai_ cy (rl 10) 12 (Ml 10), ai_ cy (rl 11) 12 (Ml 11)] s.heap.size = A at hD hQ
  have hA : ∀ q : Nat, s.heap.size ≤ q → A q := fun q h => by rw [← hAe]; exact Or.inr h
  have hS : va_S A s.heap s.heap [] := va_S.rf
  have hl := lv_entry ([.ref xh, .int a1, .int a2, .int a3]) (n := 5) (Nat.le_of_ble_eq_true rfl)
  rw [lg_entry_eq]
  generalize (lg_sl ([.ref xh, .int a1, .int a2, .int a3]) ++ List.replicate (5 - (lg_sl ([.ref xh, .int a1, .int a2, .int a3])).length) Slot.unset).toArray = ls at hl ⊢
  have hl : lv_has ls 5 [(0, .ref xh), (1, .int a1), (2, .int a2), (3, .int a3)] := hl
  have zm9 : ((-9) : Int32).toInt = -9 := by decide
  have z0 : (0 : Int32).toInt = 0 := by decide
  have z1 : (1 : Int32).toInt = 1 := by decide
  refine lv_iload_n hx hb dB_36_1_58.1.1.1.1 rfl (lv_at hl 3 rfl) ?_
  refine lv_aload_n hx hb dB_36_1_58.1.1.1.2 rfl (lv_at hl 0 rfl) ?_
  refine va_get (ci := 7) (v := .int u3) (C := RX7) (T := TX7) (N := 9) hx hb hts (fun _ h => List.mem_cons_of_mem _ (List.mem_append_left _ (List.mem_append_left _ (List.mem_append_right _ h)))) hown hK.1 hP 0 rfl rfl 3 (by decide) (hts (.fieldLink RX7 33 "CutAtlas$SetHunt" "aim" "I") (List.mem_of_getElem? (i := 1) rfl)) (fun _ h9 => h9) rfl dB_36_1_58.1.1.2.1 ?_
  refine lv_icmp_gt (tgt := 17) hx hb dB_36_1_58.1.1.2.2 (by decide) (fun c_1 => ?_) (fun c_1 => ?_)
  · have t_1 : u3.toInt < a3.toInt := Int32.lt_iff_toInt_lt.mp c_1
    rw [hQ]
    exact W.vret hx hb hr (fun t ht hW => ⟨⟨(), rfl, trivial, u5, u6, by rw [ht]; exact hP, hD⟩, hS.F ht⟩) hS.2.2 dB_36_1_58.2.1.1.1
  · have t_1 : ¬ u3.toInt < a3.toInt := fun h => c_1 (Int32.lt_iff_toInt_lt.mpr h)
    refine lv_aload_n hx hb dB_36_1_58.1.2.1.1 rfl (lv_at hl 0 rfl) ?_
    refine va_get (ci := 7) (v := .int u6) (C := RX7) (T := TX7) (N := 9) hx hb hts (fun _ h => List.mem_cons_of_mem _ (List.mem_append_left _ (List.mem_append_left _ (List.mem_append_right _ h)))) hown hK.1 hP 0 rfl rfl 6 (by decide) (hts (.fieldLink RX7 24 "CutAtlas$SetHunt" "found" "I") (List.mem_of_getElem? (i := 2) rfl)) (fun _ h9 => h9) rfl dB_36_1_58.1.2.1.2 ?_
    refine lv_bipush (v := (-9)) hx hb dB_36_1_58.1.2.2.1 (by decide) ?_
    refine lv_icmp_eq (tgt := 18) hx hb dB_36_1_58.1.2.2.2 (by decide) (fun c_2 => ?_) (fun c_2 => ?_)
    · have t_2 : u6.toInt = ((-9) : Int32).toInt := congrArg Int32.toInt c_2
      refine lv_iload_n hx hb dB_36_1_58.2.1.1.2 rfl (lv_at hl 1 rfl) ?_
      refine lv_if_ge (tgt := 29) hx hb dB_36_1_58.2.1.2.1 (by decide) (fun c_3 => ?_) (fun c_3 => ?_)
      · have t_3 : (0 : Int32).toInt ≤ a1.toInt := Int32.le_iff_toInt_le.mp c_3
        refine lv_iconst (v := 1) hx hb dB_36_1_59.1.1.1.1 (by decide) ?_
        refine lv_iload_n hx hb dB_36_1_59.1.1.1.2 rfl (lv_at hl 1 rfl) ?_
        refine lv_ishl hx hb dB_36_1_59.1.1.2.1 ?_
        refine lv_topi (fun y_4 ey_4 => ?_)
        refine lv_istore (lv' := [(4, .int y_4), (0, .ref xh), (1, .int a1), (2, .int a2), (3, .int a3)]) hx hb dB_36_1_59.1.1.2.2 hl (by decide) rfl (fun ls hl => ?_)
        have JOIN_5 : ∀ (o5_5 : Int32) (o6_5 : Int32) (H : Heap) (locs : List Loc) (ls : Array Slot), pd_2 D vwCl A [ob7_0_ xh xc u1 u2 u3 u4 o5_5 o6_5 u7 u8, ob0_0_ xc xn xk clo cro c4 c5 c6 c7 c8, ob3_0_ xn vp vn n1 n2 n3 n4 n5, aq_ cy 6 clo 12 (gf_ rl), ai_ cy (rl 0) 12 (Ml 0), ai_ cy (rl 1) 12 (Ml 1), ai_ cy (rl 2) 12 (Ml 2), ai_ cy (rl 3) 12 (Ml 3), ai_ cy (rl 4) 12 (Ml 4), ai_ cy (rl 5) 12 (Ml 5), ai_ cy (rl 6) 12 (Ml 6), ai_ cy (rl 7) 12 (Ml 7), ai_ cy (rl 8) 12 (Ml 8), ai_ cy (rl 9) 12 (Ml 9), ai_ cy (rl 10) 12 (Ml 10), ai_ cy (rl 11) 12 (Ml 11)] H → va_S A s.heap H locs → lv_has ls 5 [(4, .int y_4), (0, .ref xh), (1, .int a1), (2, .int a2), (3, .int a3)] → W p l e ({ frames := 5, cells := 0, slots := 0, locals := 118 } : Room) s m (([.ref xh, .int a1, .int a2, .int a3] : List Value).toArray) below meth c H locs 0 0 Q (F0 m 60 ls []) := by
          intro o5_5 o6_5 H locs ls hPD hS hl; obtain ⟨hP, hD⟩ := hPD
          refine lv_aload_n hx hb dB_36_1_60.1.2.1.2 rfl (lv_at hl 1 rfl) ?_
          refine va_get (ci := 7) (v := .int u2) (C := RX7) (T := TX7) (N := 9) hx hb hts (fun _ h => List.mem_cons_of_mem _ (List.mem_append_left _ (List.mem_append_left _ (List.mem_append_right _ h)))) hown hK.1 hP 0 rfl rfl 2 (by decide) (hts (.fieldLink RX7 30 "CutAtlas$SetHunt" "mustNot" "I") (List.mem_of_getElem? (i := 4) rfl)) (fun _ h9 => h9) rfl dB_36_1_60.1.2.2.1 ?_
          refine lv_iload hx hb dB_36_1_60.1.2.2.2 (lv_at hl 0 rfl) ?_
          refine lv_iand hx hb dB_36_1_60.2.1.1.1 ?_
          refine lv_topi (fun y_6 ey_6 => ?_)
          refine lv_if_ne (tgt := 89) hx hb dB_36_1_60.2.1.1.2 (by decide) (fun c_7 => ?_) (fun c_7 => ?_)
          · have t_7 : ¬ y_6.toInt = (0 : Int32).toInt := fun h => c_7 (Int32.toInt_inj.mp h)
            rw [hQ]
            exact W.vret hx hb hr (fun t ht hW => ⟨⟨(), rfl, trivial, o5_5, o6_5, by rw [ht]; exact hP, hD⟩, hS.F ht⟩) hS.2.2 dB_36_1_61.2.2.2.2
          · have t_7 : y_6.toInt = (0 : Int32).toInt := congrArg Int32.toInt c_7
            refine lv_aload_n hx hb dB_36_1_60.2.1.2.1 rfl (lv_at hl 1 rfl) ?_
            refine lv_iload_n hx hb dB_36_1_60.2.1.2.2 rfl (lv_at hl 2 rfl) ?_
            refine lv_iconst (v := 1) hx hb dB_36_1_60.2.2.1.1 (by decide) ?_
            refine lv_isub hx hb dB_36_1_60.2.2.1.2 ?_
            refine lv_topi (fun y_8 ey_8 => ?_)
            have ty_8 : y_8.toInt = a1.toInt - (1 : Int32).toInt := by rw [ey_8]; exact subI (by omega) (by omega)
            refine lv_iload_n hx hb dB_36_1_60.2.2.2.1 rfl (lv_at hl 3 rfl) ?_
            refine lv_iload hx hb dB_36_1_60.2.2.2.2 (lv_at hl 0 rfl) ?_
            refine lv_ior hx hb dB_36_1_61.1.1.1 ?_
            refine lv_topi (fun y_9 ey_9 => ?_)
            refine lv_iload_n hx hb dB_36_1_61.1.1.2 rfl (lv_at hl 4 rfl) ?_
            refine lv_aload_n hx hb dB_36_1_61.1.2.1 rfl (lv_at hl 1 rfl) ?_
            refine lv_iload_n hx hb dB_36_1_61.1.2.2 rfl (lv_at hl 2 rfl) ?_
            refine lv_iload_n hx hb dB_36_1_61.2.1.1 rfl (lv_at hl 3 rfl) ?_
            refine ct_R hP hD [ob7_0_ xh xc u1 u2 u3 u4 o5_5 o6_5 u7 u8, ob0_0_ xc xn xk clo cro c4 c5 c6 c7 c8, ob3_0_ xn vp vn n1 n2 n3 n4 n5, aq_ cy 6 clo 12 (gf_ rl), ai_ cy (rl 0) 12 (Ml 0), ai_ cy (rl 1) 12 (Ml 1), ai_ cy (rl 2) 12 (Ml 2), ai_ cy (rl 3) 12 (Ml 3), ai_ cy (rl 4) 12 (Ml 4), ai_ cy (rl 5) 12 (Ml 5), ai_ cy (rl 6) 12 (Ml 6), ai_ cy (rl 7) 12 (Ml 7), ai_ cy (rl 8) 12 (Ml 8), ai_ cy (rl 9) 12 (Ml 9), ai_ cy (rl 10) 12 (Ml 10), ai_ cy (rl 11) 12 (Ml 11)] [0, 1, 2, 3, 4, 5, 6, 7, 8, 9, 10, 11, 12, 13, 14, 15] (by decide +kernel) rfl (fun hPc hDw => ?_)
            have hFc := va_free (wc := []) hD hS hA [] rfl
            refine va_calli (va_runV (As := [.int a1, .int a2]) (rest := [.int a3, .int y_9, .int y_8, .ref xh]) ⟨hx, hb, hml, hown, hts⟩ (c_X7_letOut l D cy H.size xh u1 u2 u3 u4 o5_5 o6_5 u7 u8 xc xk clo cro c4 c5 c6 c7 c8 xn n1 n2 n3 n4 n5 vp vn rl Ml a1 a2 (by first | with_reducible assumption | omega | assumption) (by first | with_reducible assumption | omega | assumption)) (cwV 2 hts gX7_chooseForCut_X7_letOut rfl rfl rfl ⟨rfl, hd_X7_letOut⟩ ⟨Nat.le_of_ble_eq_true rfl, Nat.le_of_ble_eq_true rfl⟩) ⟨bl_g, va_recvX hK.1 hP (ci := 7) (q0 := 0) rfl rfl, fun U hU hW => ⟨rfl, by rw [hU], by rw [hU]; exact hPc, ⟨kk_mv hW hK, arrOfT_moved hW.alike hG⟩, hDw⟩⟩ rfl rfl hl.1 rfl (lv_room (Nat.le_of_ble_eq_true rfl)) dB_36_1_61.2.1.2 ⟨Nat.le_of_ble_eq_true rfl, Nat.le_of_ble_eq_true rfl⟩) hS (fun q _ h => hFc q h) hFc (fun r_10 u t H locs ht hvm hw hB hz1 hk1 hS => ?_)
            have hP : va_P D vwCl _ H := ro_keep hP hk1
            refine lv_iadd hx hb dB_36_1_61.2.2.1 ?_
            refine lv_topi (fun y_11 ey_11 => ?_)
            refine ct_S hP hD hS hA [ob7_0_ xh xc u1 u2 u3 u4 o5_5 o6_5 u7 u8, ob0_0_ xc xn xk clo cro c4 c5 c6 c7 c8, ob3_0_ xn vp vn n1 n2 n3 n4 n5, aq_ cy 6 clo 12 (gf_ rl), ai_ cy (rl 0) 12 (Ml 0), ai_ cy (rl 1) 12 (Ml 1), ai_ cy (rl 2) 12 (Ml 2), ai_ cy (rl 3) 12 (Ml 3), ai_ cy (rl 4) 12 (Ml 4), ai_ cy (rl 5) 12 (Ml 5), ai_ cy (rl 6) 12 (Ml 6), ai_ cy (rl 7) 12 (Ml 7), ai_ cy (rl 8) 12 (Ml 8), ai_ cy (rl 9) 12 (Ml 9), ai_ cy (rl 10) 12 (Ml 10), ai_ cy (rl 11) 12 (Ml 11)] [0, 1, 2, 3, 4, 5, 6, 7, 8, 9, 10, 11, 12, 13, 14, 15] (by decide +kernel) rfl (fun hPc hDw hFc hC_ => ?_)
            refine va_callv (va_runV (As := [.int y_8, .int y_9, .int y_11]) (rest := []) ⟨hx, hb, hml, hown, hts⟩ (c_X7_chooseForCut_3 l D cy H.size xh u1 u2 u3 u4 o5_5 o6_5 u7 u8 xc xk clo cro c4 c5 c6 c7 c8 xn n1 n2 n3 n4 n5 vp vn rl Ml y_8 y_9 y_11 (by first | with_reducible assumption | omega | assumption) (by first | with_reducible assumption | omega | assumption)) (cwV 3 hts gX7_chooseForCut_X7_chooseForCut rfl rfl rfl ⟨rfl, hd_X7_chooseForCut⟩ ⟨Nat.le_of_ble_eq_true rfl, Nat.le_of_ble_eq_true rfl⟩) ⟨bl_g, va_recvX hK.1 hP (ci := 7) (q0 := 0) rfl rfl, fun U hU hW => ⟨rfl, by rw [hU], by rw [hU]; exact hPc, ⟨kk_mv hW hK, arrOfT_moved hW.alike hG⟩, hDw⟩⟩ rfl rfl hl.1 rfl (lv_room (Nat.le_of_ble_eq_true rfl)) dB_36_1_61.2.2.2.1 ⟨Nat.le_of_ble_eq_true rfl, Nat.le_of_ble_eq_true rfl⟩) hS (fun q _ h => hFc q h) hFc (fun u t H locs ht hvm hw hB hz1 hk1 hS => ?_)
            obtain ⟨v5_13, v6_14, hP1, hD1⟩ := hB
            rw [ht] at hP1
            obtain ⟨hP, hD⟩ := va_join (wr := []) (w1 := [ob7_0_ xh xc u1 u2 u3 u4 v5_13 v6_14 u7 u8, ob0_0_ xc xn xk clo cro c4 c5 c6 c7 c8, ob3_0_ xn vp vn n1 n2 n3 n4 n5, aq_ cy 6 clo 12 (gf_ rl), ai_ cy (rl 0) 12 (Ml 0), ai_ cy (rl 1) 12 (Ml 1), ai_ cy (rl 2) 12 (Ml 2), ai_ cy (rl 3) 12 (Ml 3), ai_ cy (rl 4) 12 (Ml 4), ai_ cy (rl 5) 12 (Ml 5), ai_ cy (rl 6) 12 (Ml 6), ai_ cy (rl 7) 12 (Ml 7), ai_ cy (rl 8) 12 (Ml 8), ai_ cy (rl 9) 12 (Ml 9), ai_ cy (rl 10) 12 (Ml 10), ai_ cy (rl 11) 12 (Ml 11)]) hP hD [0, 1, 2, 3, 4, 5, 6, 7, 8, 9, 10, 11, 12, 13, 14, 15] [] hC_ rfl (by decide) (by decide) hk1 hFc hP1 hD1
            refine pd_K [ob7_0_ xh xc u1 u2 u3 u4 v5_13 v6_14 u7 u8, ob0_0_ xc xn xk clo cro c4 c5 c6 c7 c8, ob3_0_ xn vp vn n1 n2 n3 n4 n5, aq_ cy 6 clo 12 (gf_ rl), ai_ cy (rl 0) 12 (Ml 0), ai_ cy (rl 1) 12 (Ml 1), ai_ cy (rl 2) 12 (Ml 2), ai_ cy (rl 3) 12 (Ml 3), ai_ cy (rl 4) 12 (Ml 4), ai_ cy (rl 5) 12 (Ml 5), ai_ cy (rl 6) 12 (Ml 6), ai_ cy (rl 7) 12 (Ml 7), ai_ cy (rl 8) 12 (Ml 8), ai_ cy (rl 9) 12 (Ml 9), ai_ cy (rl 10) 12 (Ml 10), ai_ cy (rl 11) 12 (Ml 11)] hP hD (fun hP hD => ?_)
            rw [hQ]
            exact W.vret hx hb hr (fun t ht hW => ⟨⟨(), rfl, trivial, v5_13, v6_14, by rw [ht]; exact hP, hD⟩, hS.F ht⟩) hS.2.2 dB_36_1_61.2.2.2.2
        refine lv_aload_n hx hb dB_36_1_59.1.2.1.1 rfl (lv_at hl 1 rfl) ?_
        refine va_get (ci := 7) (v := .int u1) (C := RX7) (T := TX7) (N := 9) hx hb hts (fun _ h => List.mem_cons_of_mem _ (List.mem_append_left _ (List.mem_append_left _ (List.mem_append_right _ h)))) hown hK.1 hP 0 rfl rfl 1 (by decide) (hts (.fieldLink RX7 27 "CutAtlas$SetHunt" "must" "I") (List.mem_of_getElem? (i := 3) rfl)) (fun _ h9 => h9) rfl dB_36_1_59.1.2.1.2 ?_
        refine lv_iload hx hb dB_36_1_59.1.2.2.1 (lv_at hl 0 rfl) ?_
        refine lv_iand hx hb dB_36_1_59.1.2.2.2 ?_
        refine lv_topi (fun y_15 ey_15 => ?_)
        refine lv_if_ne (tgt := 60) hx hb dB_36_1_59.2.1.1.1 (by decide) (fun c_16 => ?_) (fun c_16 => ?_)
        · have t_16 : ¬ y_15.toInt = (0 : Int32).toInt := fun h => c_16 (Int32.toInt_inj.mp h)
          exact JOIN_5 u5 u6 _ _ _ ⟨hP, hD⟩ hS (lv_sub hl [0, 1, 2, 3, 4] rfl)
        · have t_16 : y_15.toInt = (0 : Int32).toInt := congrArg Int32.toInt c_16
          refine lv_aload_n hx hb dB_36_1_59.2.1.1.2 rfl (lv_at hl 1 rfl) ?_
          refine lv_iload_n hx hb dB_36_1_59.2.1.2.1 rfl (lv_at hl 2 rfl) ?_
          refine lv_iconst (v := 1) hx hb dB_36_1_59.2.1.2.2 (by decide) ?_
          refine lv_isub hx hb dB_36_1_59.2.2.1.1 ?_
          refine lv_topi (fun y_17 ey_17 => ?_)
          have ty_17 : y_17.toInt = a1.toInt - (1 : Int32).toInt := by rw [ey_17]; exact subI (by omega) (by omega)
          refine lv_iload_n hx hb dB_36_1_59.2.2.1.2 rfl (lv_at hl 3 rfl) ?_
          refine lv_iload_n hx hb dB_36_1_59.2.2.2.1 rfl (lv_at hl 4 rfl) ?_
          refine lv_aload_n hx hb dB_36_1_59.2.2.2.2 rfl (lv_at hl 1 rfl) ?_
          refine lv_iload_n hx hb dB_36_1_60.1.1.1.1 rfl (lv_at hl 2 rfl) ?_
          refine lv_iload_n hx hb dB_36_1_60.1.1.1.2 rfl (lv_at hl 3 rfl) ?_
          refine ct_R hP hD [ob7_0_ xh xc u1 u2 u3 u4 u5 u6 u7 u8, ob0_0_ xc xn xk clo cro c4 c5 c6 c7 c8, ob3_0_ xn vp vn n1 n2 n3 n4 n5, aq_ cy 6 clo 12 (gf_ rl), ai_ cy (rl 0) 12 (Ml 0), ai_ cy (rl 1) 12 (Ml 1), ai_ cy (rl 2) 12 (Ml 2), ai_ cy (rl 3) 12 (Ml 3), ai_ cy (rl 4) 12 (Ml 4), ai_ cy (rl 5) 12 (Ml 5), ai_ cy (rl 6) 12 (Ml 6), ai_ cy (rl 7) 12 (Ml 7), ai_ cy (rl 8) 12 (Ml 8), ai_ cy (rl 9) 12 (Ml 9), ai_ cy (rl 10) 12 (Ml 10), ai_ cy (rl 11) 12 (Ml 11)] [0, 1, 2, 3, 4, 5, 6, 7, 8, 9, 10, 11, 12, 13, 14, 15] (by decide +kernel) rfl (fun hPc hDw => ?_)
          have hFc := va_free (wc := []) hD hS hA [] rfl
          refine va_calli (va_runV (As := [.int a1, .int a2]) (rest := [.int a3, .int a2, .int y_17, .ref xh]) ⟨hx, hb, hml, hown, hts⟩ (c_X7_letIn l D cy s.heap.size xh u1 u2 u3 u4 u5 u6 u7 u8 xc xk clo cro c4 c5 c6 c7 c8 xn n1 n2 n3 n4 n5 vp vn rl Ml a1 a2 (by first | with_reducible assumption | omega | assumption) (by first | with_reducible assumption | omega | assumption)) (cwV 2 hts gX7_chooseForCut_X7_letIn rfl rfl rfl ⟨rfl, hd_X7_letIn⟩ ⟨Nat.le_of_ble_eq_true rfl, Nat.le_of_ble_eq_true rfl⟩) ⟨bl_g, va_recvX hK.1 hP (ci := 7) (q0 := 0) rfl rfl, fun U hU hW => ⟨rfl, by rw [hU], by rw [hU]; exact hPc, ⟨kk_mv hW hK, arrOfT_moved hW.alike hG⟩, hDw⟩⟩ rfl rfl hl.1 rfl (lv_room (Nat.le_of_ble_eq_true rfl)) dB_36_1_60.1.1.2.1 ⟨Nat.le_of_ble_eq_true rfl, Nat.le_of_ble_eq_true rfl⟩) hS (fun q _ h => hFc q h) hFc (fun r_18 u t H locs ht hvm hw hB hz1 hk1 hS => ?_)
          have hP : va_P D vwCl _ H := ro_keep hP hk1
          refine lv_iadd hx hb dB_36_1_60.1.1.2.2 ?_
          refine lv_topi (fun y_19 ey_19 => ?_)
          refine ct_S hP hD hS hA [ob7_0_ xh xc u1 u2 u3 u4 u5 u6 u7 u8, ob0_0_ xc xn xk clo cro c4 c5 c6 c7 c8, ob3_0_ xn vp vn n1 n2 n3 n4 n5, aq_ cy 6 clo 12 (gf_ rl), ai_ cy (rl 0) 12 (Ml 0), ai_ cy (rl 1) 12 (Ml 1), ai_ cy (rl 2) 12 (Ml 2), ai_ cy (rl 3) 12 (Ml 3), ai_ cy (rl 4) 12 (Ml 4), ai_ cy (rl 5) 12 (Ml 5), ai_ cy (rl 6) 12 (Ml 6), ai_ cy (rl 7) 12 (Ml 7), ai_ cy (rl 8) 12 (Ml 8), ai_ cy (rl 9) 12 (Ml 9), ai_ cy (rl 10) 12 (Ml 10), ai_ cy (rl 11) 12 (Ml 11)] [0, 1, 2, 3, 4, 5, 6, 7, 8, 9, 10, 11, 12, 13, 14, 15] (by decide +kernel) rfl (fun hPc hDw hFc hC_ => ?_)
          refine va_callv (va_runV (As := [.int y_17, .int a2, .int y_19]) (rest := []) ⟨hx, hb, hml, hown, hts⟩ (c_X7_chooseForCut_3 l D cy H.size xh u1 u2 u3 u4 u5 u6 u7 u8 xc xk clo cro c4 c5 c6 c7 c8 xn n1 n2 n3 n4 n5 vp vn rl Ml y_17 a2 y_19 (by first | with_reducible assumption | omega | assumption) (by first | with_reducible assumption | omega | assumption)) (cwV 3 hts gX7_chooseForCut_X7_chooseForCut rfl rfl rfl ⟨rfl, hd_X7_chooseForCut⟩ ⟨Nat.le_of_ble_eq_true rfl, Nat.le_of_ble_eq_true rfl⟩) ⟨bl_g, va_recvX hK.1 hP (ci := 7) (q0 := 0) rfl rfl, fun U hU hW => ⟨rfl, by rw [hU], by rw [hU]; exact hPc, ⟨kk_mv hW hK, arrOfT_moved hW.alike hG⟩, hDw⟩⟩ rfl rfl hl.1 rfl (lv_room (Nat.le_of_ble_eq_true rfl)) dB_36_1_60.1.2.1.1 ⟨Nat.le_of_ble_eq_true rfl, Nat.le_of_ble_eq_true rfl⟩) hS (fun q _ h => hFc q h) hFc (fun u t H locs ht hvm hw hB hz1 hk1 hS => ?_)
          obtain ⟨v5_21, v6_22, hP1, hD1⟩ := hB
          rw [ht] at hP1
          obtain ⟨hP, hD⟩ := va_join (wr := []) (w1 := [ob7_0_ xh xc u1 u2 u3 u4 v5_21 v6_22 u7 u8, ob0_0_ xc xn xk clo cro c4 c5 c6 c7 c8, ob3_0_ xn vp vn n1 n2 n3 n4 n5, aq_ cy 6 clo 12 (gf_ rl), ai_ cy (rl 0) 12 (Ml 0), ai_ cy (rl 1) 12 (Ml 1), ai_ cy (rl 2) 12 (Ml 2), ai_ cy (rl 3) 12 (Ml 3), ai_ cy (rl 4) 12 (Ml 4), ai_ cy (rl 5) 12 (Ml 5), ai_ cy (rl 6) 12 (Ml 6), ai_ cy (rl 7) 12 (Ml 7), ai_ cy (rl 8) 12 (Ml 8), ai_ cy (rl 9) 12 (Ml 9), ai_ cy (rl 10) 12 (Ml 10), ai_ cy (rl 11) 12 (Ml 11)]) hP hD [0, 1, 2, 3, 4, 5, 6, 7, 8, 9, 10, 11, 12, 13, 14, 15] [] hC_ rfl (by decide) (by decide) hk1 hFc hP1 hD1
          refine pd_K [ob7_0_ xh xc u1 u2 u3 u4 v5_21 v6_22 u7 u8, ob0_0_ xc xn xk clo cro c4 c5 c6 c7 c8, ob3_0_ xn vp vn n1 n2 n3 n4 n5, aq_ cy 6 clo 12 (gf_ rl), ai_ cy (rl 0) 12 (Ml 0), ai_ cy (rl 1) 12 (Ml 1), ai_ cy (rl 2) 12 (Ml 2), ai_ cy (rl 3) 12 (Ml 3), ai_ cy (rl 4) 12 (Ml 4), ai_ cy (rl 5) 12 (Ml 5), ai_ cy (rl 6) 12 (Ml 6), ai_ cy (rl 7) 12 (Ml 7), ai_ cy (rl 8) 12 (Ml 8), ai_ cy (rl 9) 12 (Ml 9), ai_ cy (rl 10) 12 (Ml 10), ai_ cy (rl 11) 12 (Ml 11)] hP hD (fun hP hD => ?_)
          exact JOIN_5 v5_21 v6_22 _ _ _ ⟨hP, hD⟩ hS (lv_sub hl [0, 1, 2, 3, 4] rfl)
      · have t_3 : ¬ (0 : Int32).toInt ≤ a1.toInt := fun h => c_3 (Int32.le_iff_toInt_le.mpr h)
        refine lv_aload_n hx hb dB_36_1_58.2.1.2.2 rfl (lv_at hl 0 rfl) ?_
        refine lv_iload_n hx hb dB_36_1_58.2.2.1.1 rfl (lv_at hl 2 rfl) ?_
        refine lv_iload_n hx hb dB_36_1_58.2.2.1.2 rfl (lv_at hl 3 rfl) ?_
        refine ct_S hP hD hS hA [ob7_0_ xh xc u1 u2 u3 u4 u5 u6 u7 u8] [0] (by decide) rfl (fun hPc hDw hFc hC_ => ?_)
        refine va_callv (va_runV (As := [.int a2, .int a3]) (rest := []) ⟨hx, hb, hml, hown, hts⟩ (c_X7_meet l D cy s.heap.size xh u1 u2 u3 u4 u5 u6 u7 u8 xc a2 a3) (cwV 2 hts gX7_chooseForCut_X7_meet rfl rfl rfl ⟨rfl, hd_X7_meet⟩ ⟨Nat.le_of_ble_eq_true rfl, Nat.le_of_ble_eq_true rfl⟩) ⟨bl_, va_recvX hK.1 hP (ci := 7) (q0 := 0) rfl rfl, fun U hU hW => ⟨rfl, by rw [hU], by rw [hU]; exact hPc, kk_mv hW hK, hDw⟩⟩ rfl rfl hl.1 rfl (lv_room (Nat.le_of_ble_eq_true rfl)) dB_36_1_58.2.2.2.1 ⟨Nat.le_of_ble_eq_true rfl, Nat.le_of_ble_eq_true rfl⟩) hS (fun q _ h => hFc q h) hFc (fun u t H locs ht hvm hw hB hz1 hk1 hS => ?_)
        obtain ⟨v5_24, v6_25, hP1, hD1⟩ := hB
        rw [ht] at hP1
        obtain ⟨hP, hD⟩ := va_join (wr := [ob0_0_ xc xn xk clo cro c4 c5 c6 c7 c8, ob3_0_ xn vp vn n1 n2 n3 n4 n5, aq_ cy 6 clo 12 (gf_ rl), ai_ cy (rl 0) 12 (Ml 0), ai_ cy (rl 1) 12 (Ml 1), ai_ cy (rl 2) 12 (Ml 2), ai_ cy (rl 3) 12 (Ml 3), ai_ cy (rl 4) 12 (Ml 4), ai_ cy (rl 5) 12 (Ml 5), ai_ cy (rl 6) 12 (Ml 6), ai_ cy (rl 7) 12 (Ml 7), ai_ cy (rl 8) 12 (Ml 8), ai_ cy (rl 9) 12 (Ml 9), ai_ cy (rl 10) 12 (Ml 10), ai_ cy (rl 11) 12 (Ml 11)]) (w1 := [ob7_0_ xh xc u1 u2 u3 u4 v5_24 v6_25 u7 u8]) hP hD [0] [1, 2, 3, 4, 5, 6, 7, 8, 9, 10, 11, 12, 13, 14, 15] hC_ rfl (by decide +kernel) (by decide +kernel) hk1 hFc hP1 hD1
        refine pd_S hP hD [ob7_0_ xh xc u1 u2 u3 u4 v5_24 v6_25 u7 u8, ob0_0_ xc xn xk clo cro c4 c5 c6 c7 c8, ob3_0_ xn vp vn n1 n2 n3 n4 n5, aq_ cy 6 clo 12 (gf_ rl), ai_ cy (rl 0) 12 (Ml 0), ai_ cy (rl 1) 12 (Ml 1), ai_ cy (rl 2) 12 (Ml 2), ai_ cy (rl 3) 12 (Ml 3), ai_ cy (rl 4) 12 (Ml 4), ai_ cy (rl 5) 12 (Ml 5), ai_ cy (rl 6) 12 (Ml 6), ai_ cy (rl 7) 12 (Ml 7), ai_ cy (rl 8) 12 (Ml 8), ai_ cy (rl 9) 12 (Ml 9), ai_ cy (rl 10) 12 (Ml 10), ai_ cy (rl 11) 12 (Ml 11)] [15, 0, 1, 2, 3, 4, 5, 6, 7, 8, 9, 10, 11, 12, 13, 14] (by decide +kernel) rfl (fun hP hD => ?_)
        rw [hQ]
        exact W.vret hx hb hr (fun t ht hW => ⟨⟨(), rfl, trivial, v5_24, v6_25, by rw [ht]; exact hP, hD⟩, hS.F ht⟩) hS.2.2 dB_36_1_58.2.2.2.2
    · have t_2 : ¬ u6.toInt = ((-9) : Int32).toInt := fun h => c_2 (Int32.toInt_inj.mp h)
      rw [hQ]
      exact W.vret hx hb hr (fun t ht hW => ⟨⟨(), rfl, trivial, u5, u6, by rw [ht]; exact hP, hD⟩, hS.F ht⟩) hS.2.2 dB_36_1_58.2.1.1.1

set_option maxHeartbeats 4000000 in
set_option maxRecDepth 100000 in
theorem c_X7_chooseForCut_5 (l : Launch) (D : va_G) (cy : Nat → ClassId) (sz : Nat) (xh : Nat) (u1 : Int32) (u2 : Int32) (u3 : Int32) (u4 : Int32) (u5 : Int32) (u6 : Int32) (u7 : Int32) (u8 : Int32) (xc : Nat) (xk : Nat) (clo : Nat) (cro : Nat) (c4 : Nat) (c5 : Nat) (c6 : Nat) (c7 : Nat) (c8 : Nat) (xn : Nat) (n1 : Nat) (n2 : Nat) (n3 : Nat) (n4 : Nat) (n5 : Nat) (vp : Int32) (vn : Int32) (rl : Nat → Nat) (Ml : Nat → Nat → Int32) (a1 : Int32) (a2 : Int32) (a3 : Int32) (hvp : 0 ≤ vp.toInt ∧ vp.toInt ≤ 12) (q1 : -1 ≤ a1.toInt ∧ a1.toInt < 5) : Met l yX7_chooseForCut wsX7_chooseForCut ({ frames := 6, cells := 0, slots := 0, locals := 142 }) (va_Pc [.ref xh, .int a1, .int a2, .int a3] (fun U => U.heap.size = sz ∧ va_P D vwCl [ob7_0_ xh xc u1 u2 u3 u4 u5 u6 u7 u8, ob0_0_ xc xn xk clo cro c4 c5 c6 c7 c8, ob3_0_ xn vp vn n1 n2 n3 n4 n5, aq_ cy 6 clo 12 (gf_ rl), ai_ cy (rl 0) 12 (Ml 0), ai_ cy (rl 1) 12 (Ml 1), ai_ cy (rl 2) 12 (Ml 2), ai_ cy (rl 3) 12 (Ml 3), ai_ cy (rl 4) 12 (Ml 4), ai_ cy (rl 5) 12 (Ml 5), ai_ cy (rl 6) 12 (Ml 6), ai_ cy (rl 7) 12 (Ml 7), ai_ cy (rl 8) 12 (Ml 8), ai_ cy (rl 9) 12 (Ml 9), ai_ cy (rl 10) 12 (Ml 10), ai_ cy (rl 11) 12 (Ml 11)] U.heap ∧ kg_ D cy U ∧ va_D (fun _ => True) [ob7_0_ xh xc u1 u2 u3 u4 u5 u6 u7 u8, ob0_0_ xc xn xk clo cro c4 c5 c6 c7 c8, ob3_0_ xn vp vn n1 n2 n3 n4 n5, aq_ cy 6 clo 12 (gf_ rl), ai_ cy (rl 0) 12 (Ml 0), ai_ cy (rl 1) 12 (Ml 1), ai_ cy (rl 2) 12 (Ml 2), ai_ cy (rl 3) 12 (Ml 3), ai_ cy (rl 4) 12 (Ml 4), ai_ cy (rl 5) 12 (Ml 5), ai_ cy (rl 6) 12 (Ml 6), ai_ cy (rl 7) 12 (Ml 7), ai_ cy (rl 8) 12 (Ml 8), ai_ cy (rl 9) 12 (Ml 9), ai_ cy (rl 10) 12 (Ml 10), ai_ cy (rl 11) 12 (Ml 11)])) (va_Qv (fun (_ : Unit) => True) (fun (_ : Unit) (t : State) => ∃ (v5 : Int32), ∃ (v6 : Int32), va_P D vwCl [ob7_0_ xh xc u1 u2 u3 u4 v5 v6 u7 u8, ob0_0_ xc xn xk clo cro c4 c5 c6 c7 c8, ob3_0_ xn vp vn n1 n2 n3 n4 n5, aq_ cy 6 clo 12 (gf_ rl), ai_ cy (rl 0) 12 (Ml 0), ai_ cy (rl 1) 12 (Ml 1), ai_ cy (rl 2) 12 (Ml 2), ai_ cy (rl 3) 12 (Ml 3), ai_ cy (rl 4) 12 (Ml 4), ai_ cy (rl 5) 12 (Ml 5), ai_ cy (rl 6) 12 (Ml 6), ai_ cy (rl 7) 12 (Ml 7), ai_ cy (rl 8) 12 (Ml 8), ai_ cy (rl 9) 12 (Ml 9), ai_ cy (rl 10) 12 (Ml 10), ai_ cy (rl 11) 12 (Ml 11)] t.heap ∧ va_D (va_A [ob7_0_ xh xc u1 u2 u3 u4 u5 u6 u7 u8, ob0_0_ xc xn xk clo cro c4 c5 c6 c7 c8, ob3_0_ xn vp vn n1 n2 n3 n4 n5, aq_ cy 6 clo 12 (gf_ rl), ai_ cy (rl 0) 12 (Ml 0), ai_ cy (rl 1) 12 (Ml 1), ai_ cy (rl 2) 12 (Ml 2), ai_ cy (rl 3) 12 (Ml 3), ai_ cy (rl 4) 12 (Ml 4), ai_ cy (rl 5) 12 (Ml 5), ai_ cy (rl 6) 12 (Ml 6), ai_ cy (rl 7) 12 (Ml 7), ai_ cy (rl 8) 12 (Ml 8), ai_ cy (rl 9) 12 (Ml 9), ai_ cy (rl 10) 12 (Ml 10), ai_ cy (rl 11) 12 (Ml 11)] sz) [ob7_0_ xh xc u1 u2 u3 u4 v5 v6 u7 u8, ob0_0_ xc xn xk clo cro c4 c5 c6 c7 c8, ob3_0_ xn vp vn n1 n2 n3 n4 n5, aq_ cy 6 clo 12 (gf_ rl), ai_ cy (rl 0) 12 (Ml 0), ai_ cy (rl 1) 12 (Ml 1), ai_ cy (rl 2) 12 (Ml 2), ai_ cy (rl 3) 12 (Ml 3), ai_ cy (rl 4) 12 (Ml 4), ai_ cy (rl 5) 12 (Ml 5), ai_ cy (rl 6) 12 (Ml 6), ai_ cy (rl 7) 12 (Ml 7), ai_ cy (rl 8) 12 (Ml 8), ai_ cy (rl 9) 12 (Ml 9), ai_ cy (rl 10) 12 (Ml 10), ai_ cy (rl 11) 12 (Ml 11)]) (va_A [ob7_0_ xh xc u1 u2 u3 u4 u5 u6 u7 u8, ob0_0_ xc xn xk clo cro c4 c5 c6 c7 c8, ob3_0_ xn vp vn n1 n2 n3 n4 n5, aq_ cy 6 clo 12 (gf_ rl), ai_ cy (rl 0) 12 (Ml 0), ai_ cy (rl 1) 12 (Ml 1), ai_ cy (rl 2) 12 (Ml 2), ai_ cy (rl 3) 12 (Ml 3), ai_ cy (rl 4) 12 (Ml 4), ai_ cy (rl 5) 12 (Ml 5), ai_ cy (rl 6) 12 (Ml 6), ai_ cy (rl 7) 12 (Ml 7), ai_ cy (rl 8) 12 (Ml 8), ai_ cy (rl 9) 12 (Ml 9), ai_ cy (rl 10) 12 (Ml 10), ai_ cy (rl 11) 12 (Ml 11)] sz)) 0 0 (va_A [ob7_0_ xh xc u1 u2 u3 u4 u5 u6 u7 u8, ob0_0_ xc xn xk clo cro c4 c5 c6 c7 c8, ob3_0_ xn vp vn n1 n2 n3 n4 n5, aq_ cy 6 clo 12 (gf_ rl), ai_ cy (rl 0) 12 (Ml 0), ai_ cy (rl 1) 12 (Ml 1), ai_ cy (rl 2) 12 (Ml 2), ai_ cy (rl 3) 12 (Ml 3), ai_ cy (rl 4) 12 (Ml 4), ai_ cy (rl 5) 12 (Ml 5), ai_ cy (rl 6) 12 (Ml 6), ai_ cy (rl 7) 12 (Ml 7), ai_ cy (rl 8) 12 (Ml 8), ai_ cy (rl 9) 12 (Ml 9), ai_ cy (rl 10) 12 (Ml 10), ai_ cy (rl 11) 12 (Ml 11)] sz) := by
  refine ofQ (cc := cX7_chooseForCut) (maxL := 5) (ret := none) (by decide) rfl ?_
  intro p e s m args below meth c s₁ Q hQ B hml hv
  obtain ⟨rfl, hsz, hP, hK, hD0⟩ := hv
  have hG := hK.2
  have hK := hK.1
  have hx := B.exec
  have hb := B.bytes
  have hr := B.returns
  have hts := atoms_spec (ws := wsX7_chooseForCut) B.pre
  have hown : s.vm.findClass RX7 = some m.cls := by have h_ := findClass_of_methodNamed B.named; exact h_
  have hlocks := B.notSynchronized
  subst hsz
  have hD := hD0.self (sz := s.heap.size)
  generalize hAe : va_A [ob7_0_ xh xc u1 u2 u3 u4 u5 u6 u7 u8, ob0_0_ xc xn xk clo cro c4 c5 c6 c7 c8, ob3_0_ xn vp vn n1 n2 n3 n4 n5, aq_ cy 6 clo 12 (gf_ rl), ai_ cy (rl 0) 12 (Ml 0), ai_ cy (rl 1) 12 (Ml 1), ai_ cy (rl 2) 12 (Ml 2), ai_ cy (rl 3) 12 (Ml 3), ai_ cy (rl 4) 12 (Ml 4), ai_ cy (rl 5) 12 (Ml 5), ai_ cy (rl 6) 12 (Ml 6), ai_ cy (rl 7) 12 (Ml 7), ai_ cy (rl 8) 12 (Ml 8), ai_ cy (rl 9) 12 (Ml 9), ai_ cy (rl 10) 12 (Ml 10), ai_ cy (rl 11) 12 (Ml 11)] s.heap.size = A at hD hQ
  have hA : ∀ q : Nat, s.heap.size ≤ q → A q := fun q h => by rw [← hAe]; exact Or.inr h
  have hS : va_S A s.heap s.heap [] := va_S.rf
  have hl := lv_entry ([.ref xh, .int a1, .int a2, .int a3]) (n := 5) (Nat.le_of_ble_eq_true rfl)
  rw [lg_entry_eq]
  generalize (lg_sl ([.ref xh, .int a1, .int a2, .int a3]) ++ List.replicate (5 - (lg_sl ([.ref xh, .int a1, .int a2, .int a3])).length) Slot.unset).toArray = ls at hl ⊢
  have hl : lv_has ls 5 [(0, .ref xh), (1, .int a1), (2, .int a2), (3, .int a3)] := hl
  have zm9 : ((-9) : Int32).toInt = -9 := by decide
  have z0 : (0 : Int32).toInt = 0 := by decide
  have z1 : (1 : Int32).toInt = 1 := by decide
  refine lv_iload_n hx hb dB_36_1_58.1.1.1.1 rfl (lv_at hl 3 rfl) ?_
  refine lv_aload_n hx hb dB_36_1_58.1.1.1.2 rfl (lv_at hl 0 rfl) ?_
  refine va_get (ci := 7) (v := .int u3) (C := RX7) (T := TX7) (N := 9) hx hb hts (fun _ h => List.mem_cons_of_mem _ (List.mem_append_left _ (List.mem_append_left _ (List.mem_append_right _ h)))) hown hK.1 hP 0 rfl rfl 3 (by decide) (hts (.fieldLink RX7 33 "CutAtlas$SetHunt" "aim" "I") (List.mem_of_getElem? (i := 1) rfl)) (fun _ h9 => h9) rfl dB_36_1_58.1.1.2.1 ?_
  refine lv_icmp_gt (tgt := 17) hx hb dB_36_1_58.1.1.2.2 (by decide) (fun c_1 => ?_) (fun c_1 => ?_)
  · have t_1 : u3.toInt < a3.toInt := Int32.lt_iff_toInt_lt.mp c_1
    rw [hQ]
    exact W.vret hx hb hr (fun t ht hW => ⟨⟨(), rfl, trivial, u5, u6, by rw [ht]; exact hP, hD⟩, hS.F ht⟩) hS.2.2 dB_36_1_58.2.1.1.1
  · have t_1 : ¬ u3.toInt < a3.toInt := fun h => c_1 (Int32.lt_iff_toInt_lt.mpr h)
    refine lv_aload_n hx hb dB_36_1_58.1.2.1.1 rfl (lv_at hl 0 rfl) ?_
    refine va_get (ci := 7) (v := .int u6) (C := RX7) (T := TX7) (N := 9) hx hb hts (fun _ h => List.mem_cons_of_mem _ (List.mem_append_left _ (List.mem_append_left _ (List.mem_append_right _ h)))) hown hK.1 hP 0 rfl rfl 6 (by decide) (hts (.fieldLink RX7 24 "CutAtlas$SetHunt" "found" "I") (List.mem_of_getElem? (i := 2) rfl)) (fun _ h9 => h9) rfl dB_36_1_58.1.2.1.2 ?_
    refine lv_bipush (v := (-9)) hx hb dB_36_1_58.1.2.2.1 (by decide) ?_
    refine lv_icmp_eq (tgt := 18) hx hb dB_36_1_58.1.2.2.2 (by decide) (fun c_2 => ?_) (fun c_2 => ?_)
    · have t_2 : u6.toInt = ((-9) : Int32).toInt := congrArg Int32.toInt c_2
      refine lv_iload_n hx hb dB_36_1_58.2.1.1.2 rfl (lv_at hl 1 rfl) ?_
      refine lv_if_ge (tgt := 29) hx hb dB_36_1_58.2.1.2.1 (by decide) (fun c_3 => ?_) (fun c_3 => ?_)
      · have t_3 : (0 : Int32).toInt ≤ a1.toInt := Int32.le_iff_toInt_le.mp c_3
        refine lv_iconst (v := 1) hx hb dB_36_1_59.1.1.1.1 (by decide) ?_
        refine lv_iload_n hx hb dB_36_1_59.1.1.1.2 rfl (lv_at hl 1 rfl) ?_
        refine lv_ishl hx hb dB_36_1_59.1.1.2.1 ?_
        refine lv_topi (fun y_4 ey_4 => ?_)
        refine lv_istore (lv' := [(4, .int y_4), (0, .ref xh), (1, .int a1), (2, .int a2), (3, .int a3)]) hx hb dB_36_1_59.1.1.2.2 hl (by decide) rfl (fun ls hl => ?_)
        have JOIN_5 : ∀ (o5_5 : Int32) (o6_5 : Int32) (H : Heap) (locs : List Loc) (ls : Array Slot), pd_2 D vwCl A [ob7_0_ xh xc u1 u2 u3 u4 o5_5 o6_5 u7 u8, ob0_0_ xc xn xk clo cro c4 c5 c6 c7 c8, ob3_0_ xn vp vn n1 n2 n3 n4 n5, aq_ cy 6 clo 12 (gf_ rl), ai_ cy (rl 0) 12 (Ml 0), ai_ cy (rl 1) 12 (Ml 1), ai_ cy (rl 2) 12 (Ml 2), ai_ cy (rl 3) 12 (Ml 3), ai_ cy (rl 4) 12 (Ml 4), ai_ cy (rl 5) 12 (Ml 5), ai_ cy (rl 6) 12 (Ml 6), ai_ cy (rl 7) 12 (Ml 7), ai_ cy (rl 8) 12 (Ml 8), ai_ cy (rl 9) 12 (Ml 9), ai_ cy (rl 10) 12 (Ml 10), ai_ cy (rl 11) 12 (Ml 11)] H → va_S A s.heap H locs → lv_has ls 5 [(4, .int y_4), (0, .ref xh), (1, .int a1), (2, .int a2), (3, .int a3)] → W p l e ({ frames := 6, cells := 0, slots := 0, locals := 142 } : Room) s m (([.ref xh, .int a1, .int a2, .int a3] : List Value).toArray) below meth c H locs 0 0 Q (F0 m 60 ls []) := by
          intro o5_5 o6_5 H locs ls hPD hS hl; obtain ⟨hP, hD⟩ := hPD
          refine lv_aload_n hx hb dB_36_1_60.1.2.1.2 rfl (lv_at hl 1 rfl) ?_
          refine va_get (ci := 7) (v := .int u2) (C := RX7) (T := TX7) (N := 9) hx hb hts (fun _ h => List.mem_cons_of_mem _ (List.mem_append_left _ (List.mem_append_left _ (List.mem_append_right _ h)))) hown hK.1 hP 0 rfl rfl 2 (by decide) (hts (.fieldLink RX7 30 "CutAtlas$SetHunt" "mustNot" "I") (List.mem_of_getElem? (i := 4) rfl)) (fun _ h9 => h9) rfl dB_36_1_60.1.2.2.1 ?_
          refine lv_iload hx hb dB_36_1_60.1.2.2.2 (lv_at hl 0 rfl) ?_
          refine lv_iand hx hb dB_36_1_60.2.1.1.1 ?_
          refine lv_topi (fun y_6 ey_6 => ?_)
          refine lv_if_ne (tgt := 89) hx hb dB_36_1_60.2.1.1.2 (by decide) (fun c_7 => ?_) (fun c_7 => ?_)
          · have t_7 : ¬ y_6.toInt = (0 : Int32).toInt := fun h => c_7 (Int32.toInt_inj.mp h)
            rw [hQ]
            exact W.vret hx hb hr (fun t ht hW => ⟨⟨(), rfl, trivial, o5_5, o6_5, by rw [ht]; exact hP, hD⟩, hS.F ht⟩) hS.2.2 dB_36_1_61.2.2.2.2
          · have t_7 : y_6.toInt = (0 : Int32).toInt := congrArg Int32.toInt c_7
            refine lv_aload_n hx hb dB_36_1_60.2.1.2.1 rfl (lv_at hl 1 rfl) ?_
            refine lv_iload_n hx hb dB_36_1_60.2.1.2.2 rfl (lv_at hl 2 rfl) ?_
            refine lv_iconst (v := 1) hx hb dB_36_1_60.2.2.1.1 (by decide) ?_
            refine lv_isub hx hb dB_36_1_60.2.2.1.2 ?_
            refine lv_topi (fun y_8 ey_8 => ?_)
            have ty_8 : y_8.toInt = a1.toInt - (1 : Int32).toInt := by rw [ey_8]; exact subI (by omega) (by omega)
            refine lv_iload_n hx hb dB_36_1_60.2.2.2.1 rfl (lv_at hl 3 rfl) ?_
            refine lv_iload hx hb dB_36_1_60.2.2.2.2 (lv_at hl 0 rfl) ?_
            refine lv_ior hx hb dB_36_1_61.1.1.1 ?_
            refine lv_topi (fun y_9 ey_9 => ?_)
            refine lv_iload_n hx hb dB_36_1_61.1.1.2 rfl (lv_at hl 4 rfl) ?_
            refine lv_aload_n hx hb dB_36_1_61.1.2.1 rfl (lv_at hl 1 rfl) ?_
            refine lv_iload_n hx hb dB_36_1_61.1.2.2 rfl (lv_at hl 2 rfl) ?_
            refine lv_iload_n hx hb dB_36_1_61.2.1.1 rfl (lv_at hl 3 rfl) ?_
            refine ct_R hP hD [ob7_0_ xh xc u1 u2 u3 u4 o5_5 o6_5 u7 u8, ob0_0_ xc xn xk clo cro c4 c5 c6 c7 c8, ob3_0_ xn vp vn n1 n2 n3 n4 n5, aq_ cy 6 clo 12 (gf_ rl), ai_ cy (rl 0) 12 (Ml 0), ai_ cy (rl 1) 12 (Ml 1), ai_ cy (rl 2) 12 (Ml 2), ai_ cy (rl 3) 12 (Ml 3), ai_ cy (rl 4) 12 (Ml 4), ai_ cy (rl 5) 12 (Ml 5), ai_ cy (rl 6) 12 (Ml 6), ai_ cy (rl 7) 12 (Ml 7), ai_ cy (rl 8) 12 (Ml 8), ai_ cy (rl 9) 12 (Ml 9), ai_ cy (rl 10) 12 (Ml 10), ai_ cy (rl 11) 12 (Ml 11)] [0, 1, 2, 3, 4, 5, 6, 7, 8, 9, 10, 11, 12, 13, 14, 15] (by decide +kernel) rfl (fun hPc hDw => ?_)
            have hFc := va_free (wc := []) hD hS hA [] rfl
            refine va_calli (va_runV (As := [.int a1, .int a2]) (rest := [.int a3, .int y_9, .int y_8, .ref xh]) ⟨hx, hb, hml, hown, hts⟩ (c_X7_letOut l D cy H.size xh u1 u2 u3 u4 o5_5 o6_5 u7 u8 xc xk clo cro c4 c5 c6 c7 c8 xn n1 n2 n3 n4 n5 vp vn rl Ml a1 a2 (by first | with_reducible assumption | omega | assumption) (by first | with_reducible assumption | omega | assumption)) (cwV 2 hts gX7_chooseForCut_X7_letOut rfl rfl rfl ⟨rfl, hd_X7_letOut⟩ ⟨Nat.le_of_ble_eq_true rfl, Nat.le_of_ble_eq_true rfl⟩) ⟨bl_g, va_recvX hK.1 hP (ci := 7) (q0 := 0) rfl rfl, fun U hU hW => ⟨rfl, by rw [hU], by rw [hU]; exact hPc, ⟨kk_mv hW hK, arrOfT_moved hW.alike hG⟩, hDw⟩⟩ rfl rfl hl.1 rfl (lv_room (Nat.le_of_ble_eq_true rfl)) dB_36_1_61.2.1.2 ⟨Nat.le_of_ble_eq_true rfl, Nat.le_of_ble_eq_true rfl⟩) hS (fun q _ h => hFc q h) hFc (fun r_10 u t H locs ht hvm hw hB hz1 hk1 hS => ?_)
            have hP : va_P D vwCl _ H := ro_keep hP hk1
            refine lv_iadd hx hb dB_36_1_61.2.2.1 ?_
            refine lv_topi (fun y_11 ey_11 => ?_)
            refine ct_S hP hD hS hA [ob7_0_ xh xc u1 u2 u3 u4 o5_5 o6_5 u7 u8, ob0_0_ xc xn xk clo cro c4 c5 c6 c7 c8, ob3_0_ xn vp vn n1 n2 n3 n4 n5, aq_ cy 6 clo 12 (gf_ rl), ai_ cy (rl 0) 12 (Ml 0), ai_ cy (rl 1) 12 (Ml 1), ai_ cy (rl 2) 12 (Ml 2), ai_ cy (rl 3) 12 (Ml 3), ai_ cy (rl 4) 12 (Ml 4), ai_ cy (rl 5) 12 (Ml 5), ai_ cy (rl 6) 12 (Ml 6), ai_ cy (rl 7) 12 (Ml 7), ai_ cy (rl 8) 12 (Ml 8), ai_ cy (rl 9) 12 (Ml 9), ai_ cy (rl 10) 12 (Ml 10), ai_ cy (rl 11) 12 (Ml 11)] [0, 1, 2, 3, 4, 5, 6, 7, 8, 9, 10, 11, 12, 13, 14, 15] (by decide +kernel) rfl (fun hPc hDw hFc hC_ => ?_)
            refine va_callv (va_runV (As := [.int y_8, .int y_9, .int y_11]) (rest := []) ⟨hx, hb, hml, hown, hts⟩ (c_X7_chooseForCut_4 l D cy H.size xh u1 u2 u3 u4 o5_5 o6_5 u7 u8 xc xk clo cro c4 c5 c6 c7 c8 xn n1 n2 n3 n4 n5 vp vn rl Ml y_8 y_9 y_11 (by first | with_reducible assumption | omega | assumption) (by first | with_reducible assumption | omega | assumption)) (cwV 3 hts gX7_chooseForCut_X7_chooseForCut rfl rfl rfl ⟨rfl, hd_X7_chooseForCut⟩ ⟨Nat.le_of_ble_eq_true rfl, Nat.le_of_ble_eq_true rfl⟩) ⟨bl_g, va_recvX hK.1 hP (ci := 7) (q0 := 0) rfl rfl, fun U hU hW => ⟨rfl, by rw [hU], by rw [hU]; exact hPc, ⟨kk_mv hW hK, arrOfT_moved hW.alike hG⟩, hDw⟩⟩ rfl rfl hl.1 rfl (lv_room (Nat.le_of_ble_eq_true rfl)) dB_36_1_61.2.2.2.1 ⟨Nat.le_of_ble_eq_true rfl, Nat.le_of_ble_eq_true rfl⟩) hS (fun q _ h => hFc q h) hFc (fun u t H locs ht hvm hw hB hz1 hk1 hS => ?_)
            obtain ⟨v5_13, v6_14, hP1, hD1⟩ := hB
            rw [ht] at hP1
            obtain ⟨hP, hD⟩ := va_join (wr := []) (w1 := [ob7_0_ xh xc u1 u2 u3 u4 v5_13 v6_14 u7 u8, ob0_0_ xc xn xk clo cro c4 c5 c6 c7 c8, ob3_0_ xn vp vn n1 n2 n3 n4 n5, aq_ cy 6 clo 12 (gf_ rl), ai_ cy (rl 0) 12 (Ml 0), ai_ cy (rl 1) 12 (Ml 1), ai_ cy (rl 2) 12 (Ml 2), ai_ cy (rl 3) 12 (Ml 3), ai_ cy (rl 4) 12 (Ml 4), ai_ cy (rl 5) 12 (Ml 5), ai_ cy (rl 6) 12 (Ml 6), ai_ cy (rl 7) 12 (Ml 7), ai_ cy (rl 8) 12 (Ml 8), ai_ cy (rl 9) 12 (Ml 9), ai_ cy (rl 10) 12 (Ml 10), ai_ cy (rl 11) 12 (Ml 11)]) hP hD [0, 1, 2, 3, 4, 5, 6, 7, 8, 9, 10, 11, 12, 13, 14, 15] [] hC_ rfl (by decide) (by decide) hk1 hFc hP1 hD1
            refine pd_K [ob7_0_ xh xc u1 u2 u3 u4 v5_13 v6_14 u7 u8, ob0_0_ xc xn xk clo cro c4 c5 c6 c7 c8, ob3_0_ xn vp vn n1 n2 n3 n4 n5, aq_ cy 6 clo 12 (gf_ rl), ai_ cy (rl 0) 12 (Ml 0), ai_ cy (rl 1) 12 (Ml 1), ai_ cy (rl 2) 12 (Ml 2), ai_ cy (rl 3) 12 (Ml 3), ai_ cy (rl 4) 12 (Ml 4), ai_ cy (rl 5) 12 (Ml 5), ai_ cy (rl 6) 12 (Ml 6), ai_ cy (rl 7) 12 (Ml 7), ai_ cy (rl 8) 12 (Ml 8), ai_ cy (rl 9) 12 (Ml 9), ai_ cy (rl 10) 12 (Ml 10), ai_ cy (rl 11) 12 (Ml 11)] hP hD (fun hP hD => ?_)
            rw [hQ]
            exact W.vret hx hb hr (fun t ht hW => ⟨⟨(), rfl, trivial, v5_13, v6_14, by rw [ht]; exact hP, hD⟩, hS.F ht⟩) hS.2.2 dB_36_1_61.2.2.2.2
        refine lv_aload_n hx hb dB_36_1_59.1.2.1.1 rfl (lv_at hl 1 rfl) ?_
        refine va_get (ci := 7) (v := .int u1) (C := RX7) (T := TX7) (N := 9) hx hb hts (fun _ h => List.mem_cons_of_mem _ (List.mem_append_left _ (List.mem_append_left _ (List.mem_append_right _ h)))) hown hK.1 hP 0 rfl rfl 1 (by decide) (hts (.fieldLink RX7 27 "CutAtlas$SetHunt" "must" "I") (List.mem_of_getElem? (i := 3) rfl)) (fun _ h9 => h9) rfl dB_36_1_59.1.2.1.2 ?_
        refine lv_iload hx hb dB_36_1_59.1.2.2.1 (lv_at hl 0 rfl) ?_
        refine lv_iand hx hb dB_36_1_59.1.2.2.2 ?_
        refine lv_topi (fun y_15 ey_15 => ?_)
        refine lv_if_ne (tgt := 60) hx hb dB_36_1_59.2.1.1.1 (by decide) (fun c_16 => ?_) (fun c_16 => ?_)
        · have t_16 : ¬ y_15.toInt = (0 : Int32).toInt := fun h => c_16 (Int32.toInt_inj.mp h)
          exact JOIN_5 u5 u6 _ _ _ ⟨hP, hD⟩ hS (lv_sub hl [0, 1, 2, 3, 4] rfl)
        · have t_16 : y_15.toInt = (0 : Int32).toInt := congrArg Int32.toInt c_16
          refine lv_aload_n hx hb dB_36_1_59.2.1.1.2 rfl (lv_at hl 1 rfl) ?_
          refine lv_iload_n hx hb dB_36_1_59.2.1.2.1 rfl (lv_at hl 2 rfl) ?_
          refine lv_iconst (v := 1) hx hb dB_36_1_59.2.1.2.2 (by decide) ?_
          refine lv_isub hx hb dB_36_1_59.2.2.1.1 ?_
          refine lv_topi (fun y_17 ey_17 => ?_)
          have ty_17 : y_17.toInt = a1.toInt - (1 : Int32).toInt := by rw [ey_17]; exact subI (by omega) (by omega)
          refine lv_iload_n hx hb dB_36_1_59.2.2.1.2 rfl (lv_at hl 3 rfl) ?_
          refine lv_iload_n hx hb dB_36_1_59.2.2.2.1 rfl (lv_at hl 4 rfl) ?_
          refine lv_aload_n hx hb dB_36_1_59.2.2.2.2 rfl (lv_at hl 1 rfl) ?_
          refine lv_iload_n hx hb dB_36_1_60.1.1.1.1 rfl (lv_at hl 2 rfl) ?_
          refine lv_iload_n hx hb dB_36_1_60.1.1.1.2 rfl (lv_at hl 3 rfl) ?_
          refine ct_R hP hD [ob7_0_ xh xc u1 u2 u3 u4 u5 u6 u7 u8, ob0_0_ xc xn xk clo cro c4 c5 c6 c7 c8, ob3_0_ xn vp vn n1 n2 n3 n4 n5, aq_ cy 6 clo 12 (gf_ rl), ai_ cy (rl 0) 12 (Ml 0), ai_ cy (rl 1) 12 (Ml 1), ai_ cy (rl 2) 12 (Ml 2), ai_ cy (rl 3) 12 (Ml 3), ai_ cy (rl 4) 12 (Ml 4), ai_ cy (rl 5) 12 (Ml 5), ai_ cy (rl 6) 12 (Ml 6), ai_ cy (rl 7) 12 (Ml 7), ai_ cy (rl 8) 12 (Ml 8), ai_ cy (rl 9) 12 (Ml 9), ai_ cy (rl 10) 12 (Ml 10), ai_ cy (rl 11) 12 (Ml 11)] [0, 1, 2, 3, 4, 5, 6, 7, 8, 9, 10, 11, 12, 13, 14, 15] (by decide +kernel) rfl (fun hPc hDw => ?_)
          have hFc := va_free (wc := []) hD hS hA [] rfl
          refine va_calli (va_runV (As := [.int a1, .int a2]) (rest := [.int a3, .int a2, .int y_17, .ref xh]) ⟨hx, hb, hml, hown, hts⟩ (c_X7_letIn l D cy s.heap.size xh u1 u2 u3 u4 u5 u6 u7 u8 xc xk clo cro c4 c5 c6 c7 c8 xn n1 n2 n3 n4 n5 vp vn rl Ml a1 a2 (by first | with_reducible assumption | omega | assumption) (by first | with_reducible assumption | omega | assumption)) (cwV 2 hts gX7_chooseForCut_X7_letIn rfl rfl rfl ⟨rfl, hd_X7_letIn⟩ ⟨Nat.le_of_ble_eq_true rfl, Nat.le_of_ble_eq_true rfl⟩) ⟨bl_g, va_recvX hK.1 hP (ci := 7) (q0 := 0) rfl rfl, fun U hU hW => ⟨rfl, by rw [hU], by rw [hU]; exact hPc, ⟨kk_mv hW hK, arrOfT_moved hW.alike hG⟩, hDw⟩⟩ rfl rfl hl.1 rfl (lv_room (Nat.le_of_ble_eq_true rfl)) dB_36_1_60.1.1.2.1 ⟨Nat.le_of_ble_eq_true rfl, Nat.le_of_ble_eq_true rfl⟩) hS (fun q _ h => hFc q h) hFc (fun r_18 u t H locs ht hvm hw hB hz1 hk1 hS => ?_)
          have hP : va_P D vwCl _ H := ro_keep hP hk1
          refine lv_iadd hx hb dB_36_1_60.1.1.2.2 ?_
          refine lv_topi (fun y_19 ey_19 => ?_)
          refine ct_S hP hD hS hA [ob7_0_ xh xc u1 u2 u3 u4 u5 u6 u7 u8, ob0_0_ xc xn xk clo cro c4 c5 c6 c7 c8, ob3_0_ xn vp vn n1 n2 n3 n4 n5, aq_ cy 6 clo 12 (gf_ rl), ai_ cy (rl 0) 12 (Ml 0), ai_ cy (rl 1) 12 (Ml 1), ai_ cy (rl 2) 12 (Ml 2), ai_ cy (rl 3) 12 (Ml 3), ai_ cy (rl 4) 12 (Ml 4), ai_ cy (rl 5) 12 (Ml 5), ai_ cy (rl 6) 12 (Ml 6), ai_ cy (rl 7) 12 (Ml 7), ai_ cy (rl 8) 12 (Ml 8), ai_ cy (rl 9) 12 (Ml 9), ai_ cy (rl 10) 12 (Ml 10), ai_ cy (rl 11) 12 (Ml 11)] [0, 1, 2, 3, 4, 5, 6, 7, 8, 9, 10, 11, 12, 13, 14, 15] (by decide +kernel) rfl (fun hPc hDw hFc hC_ => ?_)
          refine va_callv (va_runV (As := [.int y_17, .int a2, .int y_19]) (rest := []) ⟨hx, hb, hml, hown, hts⟩ (c_X7_chooseForCut_4 l D cy H.size xh u1 u2 u3 u4 u5 u6 u7 u8 xc xk clo cro c4 c5 c6 c7 c8 xn n1 n2 n3 n4 n5 vp vn rl Ml y_17 a2 y_19 (by first | with_reducible assumption | omega | assumption) (by first | with_reducible assumption | omega | assumption)) (cwV 3 hts gX7_chooseForCut_X7_chooseForCut rfl rfl rfl ⟨rfl, hd_X7_chooseForCut⟩ ⟨Nat.le_of_ble_eq_true rfl, Nat.le_of_ble_eq_true rfl⟩) ⟨bl_g, va_recvX hK.1 hP (ci := 7) (q0 := 0) rfl rfl, fun U hU hW => ⟨rfl, by rw [hU], by rw [hU]; exact hPc, ⟨kk_mv hW hK, arrOfT_moved hW.alike hG⟩, hDw⟩⟩ rfl rfl hl.1 rfl (lv_room (Nat.le_of_ble_eq_true rfl)) dB_36_1_60.1.2.1.1 ⟨Nat.le_of_ble_eq_true rfl, Nat.le_of_ble_eq_true rfl⟩) hS (fun q _ h => hFc q h) hFc (fun u t H locs ht hvm hw hB hz1 hk1 hS => ?_)
          obtain ⟨v5_21, v6_22, hP1, hD1⟩ := hB
          rw [ht] at hP1
          obtain ⟨hP, hD⟩ := va_join (wr := []) (w1 := [ob7_0_ xh xc u1 u2 u3 u4 v5_21 v6_22 u7 u8, ob0_0_ xc xn xk clo cro c4 c5 c6 c7 c8, ob3_0_ xn vp vn n1 n2 n3 n4 n5, aq_ cy 6 clo 12 (gf_ rl), ai_ cy (rl 0) 12 (Ml 0), ai_ cy (rl 1) 12 (Ml 1), ai_ cy (rl 2) 12 (Ml 2), ai_ cy (rl 3) 12 (Ml 3), ai_ cy (rl 4) 12 (Ml 4), ai_ cy (rl 5) 12 (Ml 5), ai_ cy (rl 6) 12 (Ml 6), ai_ cy (rl 7) 12 (Ml 7), ai_ cy (rl 8) 12 (Ml 8), ai_ cy (rl 9) 12 (Ml 9), ai_ cy (rl 10) 12 (Ml 10), ai_ cy (rl 11) 12 (Ml 11)]) hP hD [0, 1, 2, 3, 4, 5, 6, 7, 8, 9, 10, 11, 12, 13, 14, 15] [] hC_ rfl (by decide) (by decide) hk1 hFc hP1 hD1
          refine pd_K [ob7_0_ xh xc u1 u2 u3 u4 v5_21 v6_22 u7 u8, ob0_0_ xc xn xk clo cro c4 c5 c6 c7 c8, ob3_0_ xn vp vn n1 n2 n3 n4 n5, aq_ cy 6 clo 12 (gf_ rl), ai_ cy (rl 0) 12 (Ml 0), ai_ cy (rl 1) 12 (Ml 1), ai_ cy (rl 2) 12 (Ml 2), ai_ cy (rl 3) 12 (Ml 3), ai_ cy (rl 4) 12 (Ml 4), ai_ cy (rl 5) 12 (Ml 5), ai_ cy (rl 6) 12 (Ml 6), ai_ cy (rl 7) 12 (Ml 7), ai_ cy (rl 8) 12 (Ml 8), ai_ cy (rl 9) 12 (Ml 9), ai_ cy (rl 10) 12 (Ml 10), ai_ cy (rl 11) 12 (Ml 11)] hP hD (fun hP hD => ?_)
          exact JOIN_5 v5_21 v6_22 _ _ _ ⟨hP, hD⟩ hS (lv_sub hl [0, 1, 2, 3, 4] rfl)
      · have t_3 : ¬ (0 : Int32).toInt ≤ a1.toInt := fun h => c_3 (Int32.le_iff_toInt_le.mpr h)
        refine lv_aload_n hx hb dB_36_1_58.2.1.2.2 rfl (lv_at hl 0 rfl) ?_
        refine lv_iload_n hx hb dB_36_1_58.2.2.1.1 rfl (lv_at hl 2 rfl) ?_
        refine lv_iload_n hx hb dB_36_1_58.2.2.1.2 rfl (lv_at hl 3 rfl) ?_
        refine ct_S hP hD hS hA [ob7_0_ xh xc u1 u2 u3 u4 u5 u6 u7 u8] [0] (by decide) rfl (fun hPc hDw hFc hC_ => ?_)
        refine va_callv (va_runV (As := [.int a2, .int a3]) (rest := []) ⟨hx, hb, hml, hown, hts⟩ (c_X7_meet l D cy s.heap.size xh u1 u2 u3 u4 u5 u6 u7 u8 xc a2 a3) (cwV 2 hts gX7_chooseForCut_X7_meet rfl rfl rfl ⟨rfl, hd_X7_meet⟩ ⟨Nat.le_of_ble_eq_true rfl, Nat.le_of_ble_eq_true rfl⟩) ⟨bl_, va_recvX hK.1 hP (ci := 7) (q0 := 0) rfl rfl, fun U hU hW => ⟨rfl, by rw [hU], by rw [hU]; exact hPc, kk_mv hW hK, hDw⟩⟩ rfl rfl hl.1 rfl (lv_room (Nat.le_of_ble_eq_true rfl)) dB_36_1_58.2.2.2.1 ⟨Nat.le_of_ble_eq_true rfl, Nat.le_of_ble_eq_true rfl⟩) hS (fun q _ h => hFc q h) hFc (fun u t H locs ht hvm hw hB hz1 hk1 hS => ?_)
        obtain ⟨v5_24, v6_25, hP1, hD1⟩ := hB
        rw [ht] at hP1
        obtain ⟨hP, hD⟩ := va_join (wr := [ob0_0_ xc xn xk clo cro c4 c5 c6 c7 c8, ob3_0_ xn vp vn n1 n2 n3 n4 n5, aq_ cy 6 clo 12 (gf_ rl), ai_ cy (rl 0) 12 (Ml 0), ai_ cy (rl 1) 12 (Ml 1), ai_ cy (rl 2) 12 (Ml 2), ai_ cy (rl 3) 12 (Ml 3), ai_ cy (rl 4) 12 (Ml 4), ai_ cy (rl 5) 12 (Ml 5), ai_ cy (rl 6) 12 (Ml 6), ai_ cy (rl 7) 12 (Ml 7), ai_ cy (rl 8) 12 (Ml 8), ai_ cy (rl 9) 12 (Ml 9), ai_ cy (rl 10) 12 (Ml 10), ai_ cy (rl 11) 12 (Ml 11)]) (w1 := [ob7_0_ xh xc u1 u2 u3 u4 v5_24 v6_25 u7 u8]) hP hD [0] [1, 2, 3, 4, 5, 6, 7, 8, 9, 10, 11, 12, 13, 14, 15] hC_ rfl (by decide +kernel) (by decide +kernel) hk1 hFc hP1 hD1
        refine pd_S hP hD [ob7_0_ xh xc u1 u2 u3 u4 v5_24 v6_25 u7 u8, ob0_0_ xc xn xk clo cro c4 c5 c6 c7 c8, ob3_0_ xn vp vn n1 n2 n3 n4 n5, aq_ cy 6 clo 12 (gf_ rl), ai_ cy (rl 0) 12 (Ml 0), ai_ cy (rl 1) 12 (Ml 1), ai_ cy (rl 2) 12 (Ml 2), ai_ cy (rl 3) 12 (Ml 3), ai_ cy (rl 4) 12 (Ml 4), ai_ cy (rl 5) 12 (Ml 5), ai_ cy (rl 6) 12 (Ml 6), ai_ cy (rl 7) 12 (Ml 7), ai_ cy (rl 8) 12 (Ml 8), ai_ cy (rl 9) 12 (Ml 9), ai_ cy (rl 10) 12 (Ml 10), ai_ cy (rl 11) 12 (Ml 11)] [15, 0, 1, 2, 3, 4, 5, 6, 7, 8, 9, 10, 11, 12, 13, 14] (by decide +kernel) rfl (fun hP hD => ?_)
        rw [hQ]
        exact W.vret hx hb hr (fun t ht hW => ⟨⟨(), rfl, trivial, v5_24, v6_25, by rw [ht]; exact hP, hD⟩, hS.F ht⟩) hS.2.2 dB_36_1_58.2.2.2.2
    · have t_2 : ¬ u6.toInt = ((-9) : Int32).toInt := fun h => c_2 (Int32.toInt_inj.mp h)
      rw [hQ]
      exact W.vret hx hb hr (fun t ht hW => ⟨⟨(), rfl, trivial, u5, u6, by rw [ht]; exact hP, hD⟩, hS.F ht⟩) hS.2.2 dB_36_1_58.2.1.1.1

set_option maxHeartbeats 4000000 in
set_option maxRecDepth 100000 in
theorem c_X7_chooseForCut_6 (l : Launch) (D : va_G) (cy : Nat → ClassId) (sz : Nat) (xh : Nat) (u1 : Int32) (u2 : Int32) (u3 : Int32) (u4 : Int32) (u5 : Int32) (u6 : Int32) (u7 : Int32) (u8 : Int32) (xc : Nat) (xk : Nat) (clo : Nat) (cro : Nat) (c4 : Nat) (c5 : Nat) (c6 : Nat) (c7 : Nat) (c8 : Nat) (xn : Nat) (n1 : Nat) (n2 : Nat) (n3 : Nat) (n4 : Nat) (n5 : Nat) (vp : Int32) (vn : Int32) (rl : Nat → Nat) (Ml : Nat → Nat → Int32) (a1 : Int32) (a2 : Int32) (a3 : Int32) (hvp : 0 ≤ vp.toInt ∧ vp.toInt ≤ 12) (q1 : -1 ≤ a1.toInt ∧ a1.toInt < 6) : Met l yX7_chooseForCut wsX7_chooseForCut ({ frames := 7, cells := 0, slots := 0, locals := 166 }) (va_Pc [.ref xh, .int a1, .int a2, .int a3] (fun U => U.heap.size = sz ∧ va_P D vwCl [ob7_0_ xh xc u1 u2 u3 u4 u5 u6 u7 u8, ob0_0_ xc xn xk clo cro c4 c5 c6 c7 c8, ob3_0_ xn vp vn n1 n2 n3 n4 n5, aq_ cy 6 clo 12 (gf_ rl), ai_ cy (rl 0) 12 (Ml 0), ai_ cy (rl 1) 12 (Ml 1), ai_ cy (rl 2) 12 (Ml 2), ai_ cy (rl 3) 12 (Ml 3), ai_ cy (rl 4) 12 (Ml 4), ai_ cy (rl 5) 12 (Ml 5), ai_ cy (rl 6) 12 (Ml 6), ai_ cy (rl 7) 12 (Ml 7), ai_ cy (rl 8) 12 (Ml 8), ai_ cy (rl 9) 12 (Ml 9), ai_ cy (rl 10) 12 (Ml 10), ai_ cy (rl 11) 12 (Ml 11)] U.heap ∧ kg_ D cy U ∧ va_D (fun _ => True) [ob7_0_ xh xc u1 u2 u3 u4 u5 u6 u7 u8, ob0_0_ xc xn xk clo cro c4 c5 c6 c7 c8, ob3_0_ xn vp vn n1 n2 n3 n4 n5, aq_ cy 6 clo 12 (gf_ rl), ai_ cy (rl 0) 12 (Ml 0), ai_ cy (rl 1) 12 (Ml 1), ai_ cy (rl 2) 12 (Ml 2), ai_ cy (rl 3) 12 (Ml 3), ai_ cy (rl 4) 12 (Ml 4), ai_ cy (rl 5) 12 (Ml 5), ai_ cy (rl 6) 12 (Ml 6), ai_ cy (rl 7) 12 (Ml 7), ai_ cy (rl 8) 12 (Ml 8), ai_ cy (rl 9) 12 (Ml 9), ai_ cy (rl 10) 12 (Ml 10), ai_ cy (rl 11) 12 (Ml 11)])) (va_Qv (fun (_ : Unit) => True) (fun (_ : Unit) (t : State) => ∃ (v5 : Int32), ∃ (v6 : Int32), va_P D vwCl [ob7_0_ xh xc u1 u2 u3 u4 v5 v6 u7 u8, ob0_0_ xc xn xk clo cro c4 c5 c6 c7 c8, ob3_0_ xn vp vn n1 n2 n3 n4 n5, aq_ cy 6 clo 12 (gf_ rl), ai_ cy (rl 0) 12 (Ml 0), ai_ cy (rl 1) 12 (Ml 1), ai_ cy (rl 2) 12 (Ml 2), ai_ cy (rl 3) 12 (Ml 3), ai_ cy (rl 4) 12 (Ml 4), ai_ cy (rl 5) 12 (Ml 5), ai_ cy (rl 6) 12 (Ml 6), ai_ cy (rl 7) 12 (Ml 7), ai_ cy (rl 8) 12 (Ml 8), ai_ cy (rl 9) 12 (Ml 9), ai_ cy (rl 10) 12 (Ml 10), ai_ cy (rl 11) 12 (Ml 11)] t.heap ∧ va_D (va_A [ob7_0_ xh xc u1 u2 u3 u4 u5 u6 u7 u8, ob0_0_ xc xn xk clo cro c4 c5 c6 c7 c8, ob3_0_ xn vp vn n1 n2 n3 n4 n5, aq_ cy 6 clo 12 (gf_ rl), ai_ cy (rl 0) 12 (Ml 0), ai_ cy (rl 1) 12 (Ml 1), ai_ cy (rl 2) 12 (Ml 2), ai_ cy (rl 3) 12 (Ml 3), ai_ cy (rl 4) 12 (Ml 4), ai_ cy (rl 5) 12 (Ml 5), ai_ cy (rl 6) 12 (Ml 6), ai_ cy (rl 7) 12 (Ml 7), ai_ cy (rl 8) 12 (Ml 8), ai_ cy (rl 9) 12 (Ml 9), ai_ cy (rl 10) 12 (Ml 10), ai_ cy (rl 11) 12 (Ml 11)] sz) [ob7_0_ xh xc u1 u2 u3 u4 v5 v6 u7 u8, ob0_0_ xc xn xk clo cro c4 c5 c6 c7 c8, ob3_0_ xn vp vn n1 n2 n3 n4 n5, aq_ cy 6 clo 12 (gf_ rl), ai_ cy (rl 0) 12 (Ml 0), ai_ cy (rl 1) 12 (Ml 1), ai_ cy (rl 2) 12 (Ml 2), ai_ cy (rl 3) 12 (Ml 3), ai_ cy (rl 4) 12 (Ml 4), ai_ cy (rl 5) 12 (Ml 5), ai_ cy (rl 6) 12 (Ml 6), ai_ cy (rl 7) 12 (Ml 7), ai_ cy (rl 8) 12 (Ml 8), ai_ cy (rl 9) 12 (Ml 9), ai_ cy (rl 10) 12 (Ml 10), ai_ cy (rl 11) 12 (Ml 11)]) (va_A [ob7_0_ xh xc u1 u2 u3 u4 u5 u6 u7 u8, ob0_0_ xc xn xk clo cro c4 c5 c6 c7 c8, ob3_0_ xn vp vn n1 n2 n3 n4 n5, aq_ cy 6 clo 12 (gf_ rl), ai_ cy (rl 0) 12 (Ml 0), ai_ cy (rl 1) 12 (Ml 1), ai_ cy (rl 2) 12 (Ml 2), ai_ cy (rl 3) 12 (Ml 3), ai_ cy (rl 4) 12 (Ml 4), ai_ cy (rl 5) 12 (Ml 5), ai_ cy (rl 6) 12 (Ml 6), ai_ cy (rl 7) 12 (Ml 7), ai_ cy (rl 8) 12 (Ml 8), ai_ cy (rl 9) 12 (Ml 9), ai_ cy (rl 10) 12 (Ml 10), ai_ cy (rl 11) 12 (Ml 11)] sz)) 0 0 (va_A [ob7_0_ xh xc u1 u2 u3 u4 u5 u6 u7 u8, ob0_0_ xc xn xk clo cro c4 c5 c6 c7 c8, ob3_0_ xn vp vn n1 n2 n3 n4 n5, aq_ cy 6 clo 12 (gf_ rl), ai_ cy (rl 0) 12 (Ml 0), ai_ cy (rl 1) 12 (Ml 1), ai_ cy (rl 2) 12 (Ml 2), ai_ cy (rl 3) 12 (Ml 3), ai_ cy (rl 4) 12 (Ml 4), ai_ cy (rl 5) 12 (Ml 5), ai_ cy (rl 6) 12 (Ml 6), ai_ cy (rl 7) 12 (Ml 7), ai_ cy (rl 8) 12 (Ml 8), ai_ cy (rl 9) 12 (Ml 9), ai_ cy (rl 10) 12 (Ml 10), ai_ cy (rl 11) 12 (Ml 11)] sz) := by
  refine ofQ (cc := cX7_chooseForCut) (maxL := 5) (ret := none) (by decide) rfl ?_
  intro p e s m args below meth c s₁ Q hQ B hml hv
  obtain ⟨rfl, hsz, hP, hK, hD0⟩ := hv
  have hG := hK.2
  have hK := hK.1
  have hx := B.exec
  have hb := B.bytes
  have hr := B.returns
  have hts := atoms_spec (ws := wsX7_chooseForCut) B.pre
  have hown : s.vm.findClass RX7 = some m.cls := by have h_ := findClass_of_methodNamed B.named; exact h_
  have hlocks := B.notSynchronized
  subst hsz
  have hD := hD0.self (sz := s.heap.size)
  generalize hAe : va_A [ob7_0_ xh xc u1 u2 u3 u4 u5 u6 u7 u8, ob0_0_ xc xn xk clo cro c4 c5 c6 c7 c8, ob3_0_ xn vp vn n1 n2 n3 n4 n5, aq_ cy 6 clo 12 (gf_ rl), ai_ cy (rl 0) 12 (Ml 0), ai_ cy (rl 1) 12 (Ml 1), ai_ cy (rl 2) 12 (Ml 2), ai_ cy (rl 3) 12 (Ml 3), ai_ cy (rl 4) 12 (Ml 4), ai_ cy (rl 5) 12 (Ml 5), ai_ cy (rl 6) 12 (Ml 6), ai_ cy (rl 7) 12 (Ml 7), ai_ cy (rl 8) 12 (Ml 8), ai_ cy (rl 9) 12 (Ml 9), ai_ cy (rl 10) 12 (Ml 10), ai_ cy (rl 11) 12 (Ml 11)] s.heap.size = A at hD hQ
  have hA : ∀ q : Nat, s.heap.size ≤ q → A q := fun q h => by rw [← hAe]; exact Or.inr h
  have hS : va_S A s.heap s.heap [] := va_S.rf
  have hl := lv_entry ([.ref xh, .int a1, .int a2, .int a3]) (n := 5) (Nat.le_of_ble_eq_true rfl)
  rw [lg_entry_eq]
  generalize (lg_sl ([.ref xh, .int a1, .int a2, .int a3]) ++ List.replicate (5 - (lg_sl ([.ref xh, .int a1, .int a2, .int a3])).length) Slot.unset).toArray = ls at hl ⊢
  have hl : lv_has ls 5 [(0, .ref xh), (1, .int a1), (2, .int a2), (3, .int a3)] := hl
  have zm9 : ((-9) : Int32).toInt = -9 := by decide
  have z0 : (0 : Int32).toInt = 0 := by decide
  have z1 : (1 : Int32).toInt = 1 := by decide
  refine lv_iload_n hx hb dB_36_1_58.1.1.1.1 rfl (lv_at hl 3 rfl) ?_
  refine lv_aload_n hx hb dB_36_1_58.1.1.1.2 rfl (lv_at hl 0 rfl) ?_
  refine va_get (ci := 7) (v := .int u3) (C := RX7) (T := TX7) (N := 9) hx hb hts (fun _ h => List.mem_cons_of_mem _ (List.mem_append_left _ (List.mem_append_left _ (List.mem_append_right _ h)))) hown hK.1 hP 0 rfl rfl 3 (by decide) (hts (.fieldLink RX7 33 "CutAtlas$SetHunt" "aim" "I") (List.mem_of_getElem? (i := 1) rfl)) (fun _ h9 => h9) rfl dB_36_1_58.1.1.2.1 ?_
  refine lv_icmp_gt (tgt := 17) hx hb dB_36_1_58.1.1.2.2 (by decide) (fun c_1 => ?_) (fun c_1 => ?_)
  · have t_1 : u3.toInt < a3.toInt := Int32.lt_iff_toInt_lt.mp c_1
    rw [hQ]
    exact W.vret hx hb hr (fun t ht hW => ⟨⟨(), rfl, trivial, u5, u6, by rw [ht]; exact hP, hD⟩, hS.F ht⟩) hS.2.2 dB_36_1_58.2.1.1.1
  · have t_1 : ¬ u3.toInt < a3.toInt := fun h => c_1 (Int32.lt_iff_toInt_lt.mpr h)
    refine lv_aload_n hx hb dB_36_1_58.1.2.1.1 rfl (lv_at hl 0 rfl) ?_
    refine va_get (ci := 7) (v := .int u6) (C := RX7) (T := TX7) (N := 9) hx hb hts (fun _ h => List.mem_cons_of_mem _ (List.mem_append_left _ (List.mem_append_left _ (List.mem_append_right _ h)))) hown hK.1 hP 0 rfl rfl 6 (by decide) (hts (.fieldLink RX7 24 "CutAtlas$SetHunt" "found" "I") (List.mem_of_getElem? (i := 2) rfl)) (fun _ h9 => h9) rfl dB_36_1_58.1.2.1.2 ?_
    refine lv_bipush (v := (-9)) hx hb dB_36_1_58.1.2.2.1 (by decide) ?_
    refine lv_icmp_eq (tgt := 18) hx hb dB_36_1_58.1.2.2.2 (by decide) (fun c_2 => ?_) (fun c_2 => ?_)
    · have t_2 : u6.toInt = ((-9) : Int32).toInt := congrArg Int32.toInt c_2
      refine lv_iload_n hx hb dB_36_1_58.2.1.1.2 rfl (lv_at hl 1 rfl) ?_
      refine lv_if_ge (tgt := 29) hx hb dB_36_1_58.2.1.2.1 (by decide) (fun c_3 => ?_) (fun c_3 => ?_)
      · have t_3 : (0 : Int32).toInt ≤ a1.toInt := Int32.le_iff_toInt_le.mp c_3
        refine lv_iconst (v := 1) hx hb dB_36_1_59.1.1.1.1 (by decide) ?_
        refine lv_iload_n hx hb dB_36_1_59.1.1.1.2 rfl (lv_at hl 1 rfl) ?_
        refine lv_ishl hx hb dB_36_1_59.1.1.2.1 ?_
        refine lv_topi (fun y_4 ey_4 => ?_)
        refine lv_istore (lv' := [(4, .int y_4), (0, .ref xh), (1, .int a1), (2, .int a2), (3, .int a3)]) hx hb dB_36_1_59.1.1.2.2 hl (by decide) rfl (fun ls hl => ?_)
        have JOIN_5 : ∀ (o5_5 : Int32) (o6_5 : Int32) (H : Heap) (locs : List Loc) (ls : Array Slot), pd_2 D vwCl A [ob7_0_ xh xc u1 u2 u3 u4 o5_5 o6_5 u7 u8, ob0_0_ xc xn xk clo cro c4 c5 c6 c7 c8, ob3_0_ xn vp vn n1 n2 n3 n4 n5, aq_ cy 6 clo 12 (gf_ rl), ai_ cy (rl 0) 12 (Ml 0), ai_ cy (rl 1) 12 (Ml 1), ai_ cy (rl 2) 12 (Ml 2), ai_ cy (rl 3) 12 (Ml 3), ai_ cy (rl 4) 12 (Ml 4), ai_ cy (rl 5) 12 (Ml 5), ai_ cy (rl 6) 12 (Ml 6), ai_ cy (rl 7) 12 (Ml 7), ai_ cy (rl 8) 12 (Ml 8), ai_ cy (rl 9) 12 (Ml 9), ai_ cy (rl 10) 12 (Ml 10), ai_ cy (rl 11) 12 (Ml 11)] H → va_S A s.heap H locs → lv_has ls 5 [(4, .int y_4), (0, .ref xh), (1, .int a1), (2, .int a2), (3, .int a3)] → W p l e ({ frames := 7, cells := 0, slots := 0, locals := 166 } : Room) s m (([.ref xh, .int a1, .int a2, .int a3] : List Value).toArray) below meth c H locs 0 0 Q (F0 m 60 ls []) := by
          intro o5_5 o6_5 H locs ls hPD hS hl; obtain ⟨hP, hD⟩ := hPD
          refine lv_aload_n hx hb dB_36_1_60.1.2.1.2 rfl (lv_at hl 1 rfl) ?_
          refine va_get (ci := 7) (v := .int u2) (C := RX7) (T := TX7) (N := 9) hx hb hts (fun _ h => List.mem_cons_of_mem _ (List.mem_append_left _ (List.mem_append_left _ (List.mem_append_right _ h)))) hown hK.1 hP 0 rfl rfl 2 (by decide) (hts (.fieldLink RX7 30 "CutAtlas$SetHunt" "mustNot" "I") (List.mem_of_getElem? (i := 4) rfl)) (fun _ h9 => h9) rfl dB_36_1_60.1.2.2.1 ?_
          refine lv_iload hx hb dB_36_1_60.1.2.2.2 (lv_at hl 0 rfl) ?_
          refine lv_iand hx hb dB_36_1_60.2.1.1.1 ?_
          refine lv_topi (fun y_6 ey_6 => ?_)
          refine lv_if_ne (tgt := 89) hx hb dB_36_1_60.2.1.1.2 (by decide) (fun c_7 => ?_) (fun c_7 => ?_)
          · have t_7 : ¬ y_6.toInt = (0 : Int32).toInt := fun h => c_7 (Int32.toInt_inj.mp h)
            rw [hQ]
            exact W.vret hx hb hr (fun t ht hW => ⟨⟨(), rfl, trivial, o5_5, o6_5, by rw [ht]; exact hP, hD⟩, hS.F ht⟩) hS.2.2 dB_36_1_61.2.2.2.2
          · have t_7 : y_6.toInt = (0 : Int32).toInt := congrArg Int32.toInt c_7
            refine lv_aload_n hx hb dB_36_1_60.2.1.2.1 rfl (lv_at hl 1 rfl) ?_
            refine lv_iload_n hx hb dB_36_1_60.2.1.2.2 rfl (lv_at hl 2 rfl) ?_
            refine lv_iconst (v := 1) hx hb dB_36_1_60.2.2.1.1 (by decide) ?_
            refine lv_isub hx hb dB_36_1_60.2.2.1.2 ?_
            refine lv_topi (fun y_8 ey_8 => ?_)
            have ty_8 : y_8.toInt = a1.toInt - (1 : Int32).toInt := by rw [ey_8]; exact subI (by omega) (by omega)
            refine lv_iload_n hx hb dB_36_1_60.2.2.2.1 rfl (lv_at hl 3 rfl) ?_
            refine lv_iload hx hb dB_36_1_60.2.2.2.2 (lv_at hl 0 rfl) ?_
            refine lv_ior hx hb dB_36_1_61.1.1.1 ?_
            refine lv_topi (fun y_9 ey_9 => ?_)
            refine lv_iload_n hx hb dB_36_1_61.1.1.2 rfl (lv_at hl 4 rfl) ?_
            refine lv_aload_n hx hb dB_36_1_61.1.2.1 rfl (lv_at hl 1 rfl) ?_
            refine lv_iload_n hx hb dB_36_1_61.1.2.2 rfl (lv_at hl 2 rfl) ?_
            refine lv_iload_n hx hb dB_36_1_61.2.1.1 rfl (lv_at hl 3 rfl) ?_
            refine ct_R hP hD [ob7_0_ xh xc u1 u2 u3 u4 o5_5 o6_5 u7 u8, ob0_0_ xc xn xk clo cro c4 c5 c6 c7 c8, ob3_0_ xn vp vn n1 n2 n3 n4 n5, aq_ cy 6 clo 12 (gf_ rl), ai_ cy (rl 0) 12 (Ml 0), ai_ cy (rl 1) 12 (Ml 1), ai_ cy (rl 2) 12 (Ml 2), ai_ cy (rl 3) 12 (Ml 3), ai_ cy (rl 4) 12 (Ml 4), ai_ cy (rl 5) 12 (Ml 5), ai_ cy (rl 6) 12 (Ml 6), ai_ cy (rl 7) 12 (Ml 7), ai_ cy (rl 8) 12 (Ml 8), ai_ cy (rl 9) 12 (Ml 9), ai_ cy (rl 10) 12 (Ml 10), ai_ cy (rl 11) 12 (Ml 11)] [0, 1, 2, 3, 4, 5, 6, 7, 8, 9, 10, 11, 12, 13, 14, 15] (by decide +kernel) rfl (fun hPc hDw => ?_)
            have hFc := va_free (wc := []) hD hS hA [] rfl
            refine va_calli (va_runV (As := [.int a1, .int a2]) (rest := [.int a3, .int y_9, .int y_8, .ref xh]) ⟨hx, hb, hml, hown, hts⟩ (c_X7_letOut l D cy H.size xh u1 u2 u3 u4 o5_5 o6_5 u7 u8 xc xk clo cro c4 c5 c6 c7 c8 xn n1 n2 n3 n4 n5 vp vn rl Ml a1 a2 (by first | with_reducible assumption | omega | assumption) (by first | with_reducible assumption | omega | assumption)) (cwV 2 hts gX7_chooseForCut_X7_letOut rfl rfl rfl ⟨rfl, hd_X7_letOut⟩ ⟨Nat.le_of_ble_eq_true rfl, Nat.le_of_ble_eq_true rfl⟩) ⟨bl_g, va_recvX hK.1 hP (ci := 7) (q0 := 0) rfl rfl, fun U hU hW => ⟨rfl, by rw [hU], by rw [hU]; exact hPc, ⟨kk_mv hW hK, arrOfT_moved hW.alike hG⟩, hDw⟩⟩ rfl rfl hl.1 rfl (lv_room (Nat.le_of_ble_eq_true rfl)) dB_36_1_61.2.1.2 ⟨Nat.le_of_ble_eq_true rfl, Nat.le_of_ble_eq_true rfl⟩) hS (fun q _ h => hFc q h) hFc (fun r_10 u t H locs ht hvm hw hB hz1 hk1 hS => ?_)
            have hP : va_P D vwCl _ H := ro_keep hP hk1
            refine lv_iadd hx hb dB_36_1_61.2.2.1 ?_
            refine lv_topi (fun y_11 ey_11 => ?_)
            refine ct_S hP hD hS hA [ob7_0_ xh xc u1 u2 u3 u4 o5_5 o6_5 u7 u8, ob0_0_ xc xn xk clo cro c4 c5 c6 c7 c8, ob3_0_ xn vp vn n1 n2 n3 n4 n5, aq_ cy 6 clo 12 (gf_ rl), ai_ cy (rl 0) 12 (Ml 0), ai_ cy (rl 1) 12 (Ml 1), ai_ cy (rl 2) 12 (Ml 2), ai_ cy (rl 3) 12 (Ml 3), ai_ cy (rl 4) 12 (Ml 4), ai_ cy (rl 5) 12 (Ml 5), ai_ cy (rl 6) 12 (Ml 6), ai_ cy (rl 7) 12 (Ml 7), ai_ cy (rl 8) 12 (Ml 8), ai_ cy (rl 9) 12 (Ml 9), ai_ cy (rl 10) 12 (Ml 10), ai_ cy (rl 11) 12 (Ml 11)] [0, 1, 2, 3, 4, 5, 6, 7, 8, 9, 10, 11, 12, 13, 14, 15] (by decide +kernel) rfl (fun hPc hDw hFc hC_ => ?_)
            refine va_callv (va_runV (As := [.int y_8, .int y_9, .int y_11]) (rest := []) ⟨hx, hb, hml, hown, hts⟩ (c_X7_chooseForCut_5 l D cy H.size xh u1 u2 u3 u4 o5_5 o6_5 u7 u8 xc xk clo cro c4 c5 c6 c7 c8 xn n1 n2 n3 n4 n5 vp vn rl Ml y_8 y_9 y_11 (by first | with_reducible assumption | omega | assumption) (by first | with_reducible assumption | omega | assumption)) (cwV 3 hts gX7_chooseForCut_X7_chooseForCut rfl rfl rfl ⟨rfl, hd_X7_chooseForCut⟩ ⟨Nat.le_of_ble_eq_true rfl, Nat.le_of_ble_eq_true rfl⟩) ⟨bl_g, va_recvX hK.1 hP (ci := 7) (q0 := 0) rfl rfl, fun U hU hW => ⟨rfl, by rw [hU], by rw [hU]; exact hPc, ⟨kk_mv hW hK, arrOfT_moved hW.alike hG⟩, hDw⟩⟩ rfl rfl hl.1 rfl (lv_room (Nat.le_of_ble_eq_true rfl)) dB_36_1_61.2.2.2.1 ⟨Nat.le_of_ble_eq_true rfl, Nat.le_of_ble_eq_true rfl⟩) hS (fun q _ h => hFc q h) hFc (fun u t H locs ht hvm hw hB hz1 hk1 hS => ?_)
            obtain ⟨v5_13, v6_14, hP1, hD1⟩ := hB
            rw [ht] at hP1
            obtain ⟨hP, hD⟩ := va_join (wr := []) (w1 := [ob7_0_ xh xc u1 u2 u3 u4 v5_13 v6_14 u7 u8, ob0_0_ xc xn xk clo cro c4 c5 c6 c7 c8, ob3_0_ xn vp vn n1 n2 n3 n4 n5, aq_ cy 6 clo 12 (gf_ rl), ai_ cy (rl 0) 12 (Ml 0), ai_ cy (rl 1) 12 (Ml 1), ai_ cy (rl 2) 12 (Ml 2), ai_ cy (rl 3) 12 (Ml 3), ai_ cy (rl 4) 12 (Ml 4), ai_ cy (rl 5) 12 (Ml 5), ai_ cy (rl 6) 12 (Ml 6), ai_ cy (rl 7) 12 (Ml 7), ai_ cy (rl 8) 12 (Ml 8), ai_ cy (rl 9) 12 (Ml 9), ai_ cy (rl 10) 12 (Ml 10), ai_ cy (rl 11) 12 (Ml 11)]) hP hD [0, 1, 2, 3, 4, 5, 6, 7, 8, 9, 10, 11, 12, 13, 14, 15] [] hC_ rfl (by decide) (by decide) hk1 hFc hP1 hD1
            refine pd_K [ob7_0_ xh xc u1 u2 u3 u4 v5_13 v6_14 u7 u8, ob0_0_ xc xn xk clo cro c4 c5 c6 c7 c8, ob3_0_ xn vp vn n1 n2 n3 n4 n5, aq_ cy 6 clo 12 (gf_ rl), ai_ cy (rl 0) 12 (Ml 0), ai_ cy (rl 1) 12 (Ml 1), ai_ cy (rl 2) 12 (Ml 2), ai_ cy (rl 3) 12 (Ml 3), ai_ cy (rl 4) 12 (Ml 4), ai_ cy (rl 5) 12 (Ml 5), ai_ cy (rl 6) 12 (Ml 6), ai_ cy (rl 7) 12 (Ml 7), ai_ cy (rl 8) 12 (Ml 8), ai_ cy (rl 9) 12 (Ml 9), ai_ cy (rl 10) 12 (Ml 10), ai_ cy (rl 11) 12 (Ml 11)] hP hD (fun hP hD => ?_)
            rw [hQ]
            exact W.vret hx hb hr (fun t ht hW => ⟨⟨(), rfl, trivial, v5_13, v6_14, by rw [ht]; exact hP, hD⟩, hS.F ht⟩) hS.2.2 dB_36_1_61.2.2.2.2
        refine lv_aload_n hx hb dB_36_1_59.1.2.1.1 rfl (lv_at hl 1 rfl) ?_
        refine va_get (ci := 7) (v := .int u1) (C := RX7) (T := TX7) (N := 9) hx hb hts (fun _ h => List.mem_cons_of_mem _ (List.mem_append_left _ (List.mem_append_left _ (List.mem_append_right _ h)))) hown hK.1 hP 0 rfl rfl 1 (by decide) (hts (.fieldLink RX7 27 "CutAtlas$SetHunt" "must" "I") (List.mem_of_getElem? (i := 3) rfl)) (fun _ h9 => h9) rfl dB_36_1_59.1.2.1.2 ?_
        refine lv_iload hx hb dB_36_1_59.1.2.2.1 (lv_at hl 0 rfl) ?_
        refine lv_iand hx hb dB_36_1_59.1.2.2.2 ?_
        refine lv_topi (fun y_15 ey_15 => ?_)
        refine lv_if_ne (tgt := 60) hx hb dB_36_1_59.2.1.1.1 (by decide) (fun c_16 => ?_) (fun c_16 => ?_)
        · have t_16 : ¬ y_15.toInt = (0 : Int32).toInt := fun h => c_16 (Int32.toInt_inj.mp h)
          exact JOIN_5 u5 u6 _ _ _ ⟨hP, hD⟩ hS (lv_sub hl [0, 1, 2, 3, 4] rfl)
        · have t_16 : y_15.toInt = (0 : Int32).toInt := congrArg Int32.toInt c_16
          refine lv_aload_n hx hb dB_36_1_59.2.1.1.2 rfl (lv_at hl 1 rfl) ?_
          refine lv_iload_n hx hb dB_36_1_59.2.1.2.1 rfl (lv_at hl 2 rfl) ?_
          refine lv_iconst (v := 1) hx hb dB_36_1_59.2.1.2.2 (by decide) ?_
          refine lv_isub hx hb dB_36_1_59.2.2.1.1 ?_
          refine lv_topi (fun y_17 ey_17 => ?_)
          have ty_17 : y_17.toInt = a1.toInt - (1 : Int32).toInt := by rw [ey_17]; exact subI (by omega) (by omega)
          refine lv_iload_n hx hb dB_36_1_59.2.2.1.2 rfl (lv_at hl 3 rfl) ?_
          refine lv_iload_n hx hb dB_36_1_59.2.2.2.1 rfl (lv_at hl 4 rfl) ?_
          refine lv_aload_n hx hb dB_36_1_59.2.2.2.2 rfl (lv_at hl 1 rfl) ?_
          refine lv_iload_n hx hb dB_36_1_60.1.1.1.1 rfl (lv_at hl 2 rfl) ?_
          refine lv_iload_n hx hb dB_36_1_60.1.1.1.2 rfl (lv_at hl 3 rfl) ?_
          refine ct_R hP hD [ob7_0_ xh xc u1 u2 u3 u4 u5 u6 u7 u8, ob0_0_ xc xn xk clo cro c4 c5 c6 c7 c8, ob3_0_ xn vp vn n1 n2 n3 n4 n5, aq_ cy 6 clo 12 (gf_ rl), ai_ cy (rl 0) 12 (Ml 0), ai_ cy (rl 1) 12 (Ml 1), ai_ cy (rl 2) 12 (Ml 2), ai_ cy (rl 3) 12 (Ml 3), ai_ cy (rl 4) 12 (Ml 4), ai_ cy (rl 5) 12 (Ml 5), ai_ cy (rl 6) 12 (Ml 6), ai_ cy (rl 7) 12 (Ml 7), ai_ cy (rl 8) 12 (Ml 8), ai_ cy (rl 9) 12 (Ml 9), ai_ cy (rl 10) 12 (Ml 10), ai_ cy (rl 11) 12 (Ml 11)] [0, 1, 2, 3, 4, 5, 6, 7, 8, 9, 10, 11, 12, 13, 14, 15] (by decide +kernel) rfl (fun hPc hDw => ?_)
          have hFc := va_free (wc := []) hD hS hA [] rfl
          refine va_calli (va_runV (As := [.int a1, .int a2]) (rest := [.int a3, .int a2, .int y_17, .ref xh]) ⟨hx, hb, hml, hown, hts⟩ (c_X7_letIn l D cy s.heap.size xh u1 u2 u3 u4 u5 u6 u7 u8 xc xk clo cro c4 c5 c6 c7 c8 xn n1 n2 n3 n4 n5 vp vn rl Ml a1 a2 (by first | with_reducible assumption | omega | assumption) (by first | with_reducible assumption | omega | assumption)) (cwV 2 hts gX7_chooseForCut_X7_letIn rfl rfl rfl ⟨rfl, hd_X7_letIn⟩ ⟨Nat.le_of_ble_eq_true rfl, Nat.le_of_ble_eq_true rfl⟩) ⟨bl_g, va_recvX hK.1 hP (ci := 7) (q0 := 0) rfl rfl, fun U hU hW => ⟨rfl, by rw [hU], by rw [hU]; exact hPc, ⟨kk_mv hW hK, arrOfT_moved hW.alike hG⟩, hDw⟩⟩ rfl rfl hl.1 rfl (lv_room (Nat.le_of_ble_eq_true rfl)) dB_36_1_60.1.1.2.1 ⟨Nat.le_of_ble_eq_true rfl, Nat.le_of_ble_eq_true rfl⟩) hS (fun q _ h => hFc q h) hFc (fun r_18 u t H locs ht hvm hw hB hz1 hk1 hS => ?_)
          have hP : va_P D vwCl _ H := ro_keep hP hk1
          refine lv_iadd hx hb dB_36_1_60.1.1.2.2 ?_
          refine lv_topi (fun y_19 ey_19 => ?_)
          refine ct_S hP hD hS hA [ob7_0_ xh xc u1 u2 u3 u4 u5 u6 u7 u8, ob0_0_ xc xn xk clo cro c4 c5 c6 c7 c8, ob3_0_ xn vp vn n1 n2 n3 n4 n5, aq_ cy 6 clo 12 (gf_ rl), ai_ cy (rl 0) 12 (Ml 0), ai_ cy (rl 1) 12 (Ml 1), ai_ cy (rl 2) 12 (Ml 2), ai_ cy (rl 3) 12 (Ml 3), ai_ cy (rl 4) 12 (Ml 4), ai_ cy (rl 5) 12 (Ml 5), ai_ cy (rl 6) 12 (Ml 6), ai_ cy (rl 7) 12 (Ml 7), ai_ cy (rl 8) 12 (Ml 8), ai_ cy (rl 9) 12 (Ml 9), ai_ cy (rl 10) 12 (Ml 10), ai_ cy (rl 11) 12 (Ml 11)] [0, 1, 2, 3, 4, 5, 6, 7, 8, 9, 10, 11, 12, 13, 14, 15] (by decide +kernel) rfl (fun hPc hDw hFc hC_ => ?_)
          refine va_callv (va_runV (As := [.int y_17, .int a2, .int y_19]) (rest := []) ⟨hx, hb, hml, hown, hts⟩ (c_X7_chooseForCut_5 l D cy H.size xh u1 u2 u3 u4 u5 u6 u7 u8 xc xk clo cro c4 c5 c6 c7 c8 xn n1 n2 n3 n4 n5 vp vn rl Ml y_17 a2 y_19 (by first | with_reducible assumption | omega | assumption) (by first | with_reducible assumption | omega | assumption)) (cwV 3 hts gX7_chooseForCut_X7_chooseForCut rfl rfl rfl ⟨rfl, hd_X7_chooseForCut⟩ ⟨Nat.le_of_ble_eq_true rfl, Nat.le_of_ble_eq_true rfl⟩) ⟨bl_g, va_recvX hK.1 hP (ci := 7) (q0 := 0) rfl rfl, fun U hU hW => ⟨rfl, by rw [hU], by rw [hU]; exact hPc, ⟨kk_mv hW hK, arrOfT_moved hW.alike hG⟩, hDw⟩⟩ rfl rfl hl.1 rfl (lv_room (Nat.le_of_ble_eq_true rfl)) dB_36_1_60.1.2.1.1 ⟨Nat.le_of_ble_eq_true rfl, Nat.le_of_ble_eq_true rfl⟩) hS (fun q _ h => hFc q h) hFc (fun u t H locs ht hvm hw hB hz1 hk1 hS => ?_)
          obtain ⟨v5_21, v6_22, hP1, hD1⟩ := hB
          rw [ht] at hP1
          obtain ⟨hP, hD⟩ := va_join (wr := []) (w1 := [ob7_0_ xh xc u1 u2 u3 u4 v5_21 v6_22 u7 u8, ob0_0_ xc xn xk clo cro c4 c5 c6 c7 c8, ob3_0_ xn vp vn n1 n2 n3 n4 n5, aq_ cy 6 clo 12 (gf_ rl), ai_ cy (rl 0) 12 (Ml 0), ai_ cy (rl 1) 12 (Ml 1), ai_ cy (rl 2) 12 (Ml 2), ai_ cy (rl 3) 12 (Ml 3), ai_ cy (rl 4) 12 (Ml 4), ai_ cy (rl 5) 12 (Ml 5), ai_ cy (rl 6) 12 (Ml 6), ai_ cy (rl 7) 12 (Ml 7), ai_ cy (rl 8) 12 (Ml 8), ai_ cy (rl 9) 12 (Ml 9), ai_ cy (rl 10) 12 (Ml 10), ai_ cy (rl 11) 12 (Ml 11)]) hP hD [0, 1, 2, 3, 4, 5, 6, 7, 8, 9, 10, 11, 12, 13, 14, 15] [] hC_ rfl (by decide) (by decide) hk1 hFc hP1 hD1
          refine pd_K [ob7_0_ xh xc u1 u2 u3 u4 v5_21 v6_22 u7 u8, ob0_0_ xc xn xk clo cro c4 c5 c6 c7 c8, ob3_0_ xn vp vn n1 n2 n3 n4 n5, aq_ cy 6 clo 12 (gf_ rl), ai_ cy (rl 0) 12 (Ml 0), ai_ cy (rl 1) 12 (Ml 1), ai_ cy (rl 2) 12 (Ml 2), ai_ cy (rl 3) 12 (Ml 3), ai_ cy (rl 4) 12 (Ml 4), ai_ cy (rl 5) 12 (Ml 5), ai_ cy (rl 6) 12 (Ml 6), ai_ cy (rl 7) 12 (Ml 7), ai_ cy (rl 8) 12 (Ml 8), ai_ cy (rl 9) 12 (Ml 9), ai_ cy (rl 10) 12 (Ml 10), ai_ cy (rl 11) 12 (Ml 11)] hP hD (fun hP hD => ?_)
          exact JOIN_5 v5_21 v6_22 _ _ _ ⟨hP, hD⟩ hS (lv_sub hl [0, 1, 2, 3, 4] rfl)
      · have t_3 : ¬ (0 : Int32).toInt ≤ a1.toInt := fun h => c_3 (Int32.le_iff_toInt_le.mpr h)
        refine lv_aload_n hx hb dB_36_1_58.2.1.2.2 rfl (lv_at hl 0 rfl) ?_
        refine lv_iload_n hx hb dB_36_1_58.2.2.1.1 rfl (lv_at hl 2 rfl) ?_
        refine lv_iload_n hx hb dB_36_1_58.2.2.1.2 rfl (lv_at hl 3 rfl) ?_
        refine ct_S hP hD hS hA [ob7_0_ xh xc u1 u2 u3 u4 u5 u6 u7 u8] [0] (by decide) rfl (fun hPc hDw hFc hC_ => ?_)
        refine va_callv (va_runV (As := [.int a2, .int a3]) (rest := []) ⟨hx, hb, hml, hown, hts⟩ (c_X7_meet l D cy s.heap.size xh u1 u2 u3 u4 u5 u6 u7 u8 xc a2 a3) (cwV 2 hts gX7_chooseForCut_X7_meet rfl rfl rfl ⟨rfl, hd_X7_meet⟩ ⟨Nat.le_of_ble_eq_true rfl, Nat.le_of_ble_eq_true rfl⟩) ⟨bl_, va_recvX hK.1 hP (ci := 7) (q0 := 0) rfl rfl, fun U hU hW => ⟨rfl, by rw [hU], by rw [hU]; exact hPc, kk_mv hW hK, hDw⟩⟩ rfl rfl hl.1 rfl (lv_room (Nat.le_of_ble_eq_true rfl)) dB_36_1_58.2.2.2.1 ⟨Nat.le_of_ble_eq_true rfl, Nat.le_of_ble_eq_true rfl⟩) hS (fun q _ h => hFc q h) hFc (fun u t H locs ht hvm hw hB hz1 hk1 hS => ?_)
        obtain ⟨v5_24, v6_25, hP1, hD1⟩ := hB
        rw [ht] at hP1
        obtain ⟨hP, hD⟩ := va_join (wr := [ob0_0_ xc xn xk clo cro c4 c5 c6 c7 c8, ob3_0_ xn vp vn n1 n2 n3 n4 n5, aq_ cy 6 clo 12 (gf_ rl), ai_ cy (rl 0) 12 (Ml 0), ai_ cy (rl 1) 12 (Ml 1), ai_ cy (rl 2) 12 (Ml 2), ai_ cy (rl 3) 12 (Ml 3), ai_ cy (rl 4) 12 (Ml 4), ai_ cy (rl 5) 12 (Ml 5), ai_ cy (rl 6) 12 (Ml 6), ai_ cy (rl 7) 12 (Ml 7), ai_ cy (rl 8) 12 (Ml 8), ai_ cy (rl 9) 12 (Ml 9), ai_ cy (rl 10) 12 (Ml 10), ai_ cy (rl 11) 12 (Ml 11)]) (w1 := [ob7_0_ xh xc u1 u2 u3 u4 v5_24 v6_25 u7 u8]) hP hD [0] [1, 2, 3, 4, 5, 6, 7, 8, 9, 10, 11, 12, 13, 14, 15] hC_ rfl (by decide +kernel) (by decide +kernel) hk1 hFc hP1 hD1
        refine pd_S hP hD [ob7_0_ xh xc u1 u2 u3 u4 v5_24 v6_25 u7 u8, ob0_0_ xc xn xk clo cro c4 c5 c6 c7 c8, ob3_0_ xn vp vn n1 n2 n3 n4 n5, aq_ cy 6 clo 12 (gf_ rl), ai_ cy (rl 0) 12 (Ml 0), ai_ cy (rl 1) 12 (Ml 1), ai_ cy (rl 2) 12 (Ml 2), ai_ cy (rl 3) 12 (Ml 3), ai_ cy (rl 4) 12 (Ml 4), ai_ cy (rl 5) 12 (Ml 5), ai_ cy (rl 6) 12 (Ml 6), ai_ cy (rl 7) 12 (Ml 7), ai_ cy (rl 8) 12 (Ml 8), ai_ cy (rl 9) 12 (Ml 9), ai_ cy (rl 10) 12 (Ml 10), ai_ cy (rl 11) 12 (Ml 11)] [15, 0, 1, 2, 3, 4, 5, 6, 7, 8, 9, 10, 11, 12, 13, 14] (by decide +kernel) rfl (fun hP hD => ?_)
        rw [hQ]
        exact W.vret hx hb hr (fun t ht hW => ⟨⟨(), rfl, trivial, v5_24, v6_25, by rw [ht]; exact hP, hD⟩, hS.F ht⟩) hS.2.2 dB_36_1_58.2.2.2.2
    · have t_2 : ¬ u6.toInt = ((-9) : Int32).toInt := fun h => c_2 (Int32.toInt_inj.mp h)
      rw [hQ]
      exact W.vret hx hb hr (fun t ht hW => ⟨⟨(), rfl, trivial, u5, u6, by rw [ht]; exact hP, hD⟩, hS.F ht⟩) hS.2.2 dB_36_1_58.2.1.1.1

set_option maxHeartbeats 4000000 in
set_option maxRecDepth 100000 in
theorem c_X7_chooseForCut_7 (l : Launch) (D : va_G) (cy : Nat → ClassId) (sz : Nat) (xh : Nat) (u1 : Int32) (u2 : Int32) (u3 : Int32) (u4 : Int32) (u5 : Int32) (u6 : Int32) (u7 : Int32) (u8 : Int32) (xc : Nat) (xk : Nat) (clo : Nat) (cro : Nat) (c4 : Nat) (c5 : Nat) (c6 : Nat) (c7 : Nat) (c8 : Nat) (xn : Nat) (n1 : Nat) (n2 : Nat) (n3 : Nat) (n4 : Nat) (n5 : Nat) (vp : Int32) (vn : Int32) (rl : Nat → Nat) (Ml : Nat → Nat → Int32) (a1 : Int32) (a2 : Int32) (a3 : Int32) (hvp : 0 ≤ vp.toInt ∧ vp.toInt ≤ 12) (q1 : -1 ≤ a1.toInt ∧ a1.toInt < 7) : Met l yX7_chooseForCut wsX7_chooseForCut ({ frames := 8, cells := 0, slots := 0, locals := 190 }) (va_Pc [.ref xh, .int a1, .int a2, .int a3] (fun U => U.heap.size = sz ∧ va_P D vwCl [ob7_0_ xh xc u1 u2 u3 u4 u5 u6 u7 u8, ob0_0_ xc xn xk clo cro c4 c5 c6 c7 c8, ob3_0_ xn vp vn n1 n2 n3 n4 n5, aq_ cy 6 clo 12 (gf_ rl), ai_ cy (rl 0) 12 (Ml 0), ai_ cy (rl 1) 12 (Ml 1), ai_ cy (rl 2) 12 (Ml 2), ai_ cy (rl 3) 12 (Ml 3), ai_ cy (rl 4) 12 (Ml 4), ai_ cy (rl 5) 12 (Ml 5), ai_ cy (rl 6) 12 (Ml 6), ai_ cy (rl 7) 12 (Ml 7), ai_ cy (rl 8) 12 (Ml 8), ai_ cy (rl 9) 12 (Ml 9), ai_ cy (rl 10) 12 (Ml 10), ai_ cy (rl 11) 12 (Ml 11)] U.heap ∧ kg_ D cy U ∧ va_D (fun _ => True) [ob7_0_ xh xc u1 u2 u3 u4 u5 u6 u7 u8, ob0_0_ xc xn xk clo cro c4 c5 c6 c7 c8, ob3_0_ xn vp vn n1 n2 n3 n4 n5, aq_ cy 6 clo 12 (gf_ rl), ai_ cy (rl 0) 12 (Ml 0), ai_ cy (rl 1) 12 (Ml 1), ai_ cy (rl 2) 12 (Ml 2), ai_ cy (rl 3) 12 (Ml 3), ai_ cy (rl 4) 12 (Ml 4), ai_ cy (rl 5) 12 (Ml 5), ai_ cy (rl 6) 12 (Ml 6), ai_ cy (rl 7) 12 (Ml 7), ai_ cy (rl 8) 12 (Ml 8), ai_ cy (rl 9) 12 (Ml 9), ai_ cy (rl 10) 12 (Ml 10), ai_ cy (rl 11) 12 (Ml 11)])) (va_Qv (fun (_ : Unit) => True) (fun (_ : Unit) (t : State) => ∃ (v5 : Int32), ∃ (v6 : Int32), va_P D vwCl [ob7_0_ xh xc u1 u2 u3 u4 v5 v6 u7 u8, ob0_0_ xc xn xk clo cro c4 c5 c6 c7 c8, ob3_0_ xn vp vn n1 n2 n3 n4 n5, aq_ cy 6 clo 12 (gf_ rl), ai_ cy (rl 0) 12 (Ml 0), ai_ cy (rl 1) 12 (Ml 1), ai_ cy (rl 2) 12 (Ml 2), ai_ cy (rl 3) 12 (Ml 3), ai_ cy (rl 4) 12 (Ml 4), ai_ cy (rl 5) 12 (Ml 5), ai_ cy (rl 6) 12 (Ml 6), ai_ cy (rl 7) 12 (Ml 7), ai_ cy (rl 8) 12 (Ml 8), ai_ cy (rl 9) 12 (Ml 9), ai_ cy (rl 10) 12 (Ml 10), ai_ cy (rl 11) 12 (Ml 11)] t.heap ∧ va_D (va_A [ob7_0_ xh xc u1 u2 u3 u4 u5 u6 u7 u8, ob0_0_ xc xn xk clo cro c4 c5 c6 c7 c8, ob3_0_ xn vp vn n1 n2 n3 n4 n5, aq_ cy 6 clo 12 (gf_ rl), ai_ cy (rl 0) 12 (Ml 0), ai_ cy (rl 1) 12 (Ml 1), ai_ cy (rl 2) 12 (Ml 2), ai_ cy (rl 3) 12 (Ml 3), ai_ cy (rl 4) 12 (Ml 4), ai_ cy (rl 5) 12 (Ml 5), ai_ cy (rl 6) 12 (Ml 6), ai_ cy (rl 7) 12 (Ml 7), ai_ cy (rl 8) 12 (Ml 8), ai_ cy (rl 9) 12 (Ml 9), ai_ cy (rl 10) 12 (Ml 10), ai_ cy (rl 11) 12 (Ml 11)] sz) [ob7_0_ xh xc u1 u2 u3 u4 v5 v6 u7 u8, ob0_0_ xc xn xk clo cro c4 c5 c6 c7 c8, ob3_0_ xn vp vn n1 n2 n3 n4 n5, aq_ cy 6 clo 12 (gf_ rl), ai_ cy (rl 0) 12 (Ml 0), ai_ cy (rl 1) 12 (Ml 1), ai_ cy (rl 2) 12 (Ml 2), ai_ cy (rl 3) 12 (Ml 3), ai_ cy (rl 4) 12 (Ml 4), ai_ cy (rl 5) 12 (Ml 5), ai_ cy (rl 6) 12 (Ml 6), ai_ cy (rl 7) 12 (Ml 7), ai_ cy (rl 8) 12 (Ml 8), ai_ cy (rl 9) 12 (Ml 9), ai_ cy (rl 10) 12 (Ml 10), ai_ cy (rl 11) 12 (Ml 11)]) (va_A [ob7_0_ xh xc u1 u2 u3 u4 u5 u6 u7 u8, ob0_0_ xc xn xk clo cro c4 c5 c6 c7 c8, ob3_0_ xn vp vn n1 n2 n3 n4 n5, aq_ cy 6 clo 12 (gf_ rl), ai_ cy (rl 0) 12 (Ml 0), ai_ cy (rl 1) 12 (Ml 1), ai_ cy (rl 2) 12 (Ml 2), ai_ cy (rl 3) 12 (Ml 3), ai_ cy (rl 4) 12 (Ml 4), ai_ cy (rl 5) 12 (Ml 5), ai_ cy (rl 6) 12 (Ml 6), ai_ cy (rl 7) 12 (Ml 7), ai_ cy (rl 8) 12 (Ml 8), ai_ cy (rl 9) 12 (Ml 9), ai_ cy (rl 10) 12 (Ml 10), ai_ cy (rl 11) 12 (Ml 11)] sz)) 0 0 (va_A [ob7_0_ xh xc u1 u2 u3 u4 u5 u6 u7 u8, ob0_0_ xc xn xk clo cro c4 c5 c6 c7 c8, ob3_0_ xn vp vn n1 n2 n3 n4 n5, aq_ cy 6 clo 12 (gf_ rl), ai_ cy (rl 0) 12 (Ml 0), ai_ cy (rl 1) 12 (Ml 1), ai_ cy (rl 2) 12 (Ml 2), ai_ cy (rl 3) 12 (Ml 3), ai_ cy (rl 4) 12 (Ml 4), ai_ cy (rl 5) 12 (Ml 5), ai_ cy (rl 6) 12 (Ml 6), ai_ cy (rl 7) 12 (Ml 7), ai_ cy (rl 8) 12 (Ml 8), ai_ cy (rl 9) 12 (Ml 9), ai_ cy (rl 10) 12 (Ml 10), ai_ cy (rl 11) 12 (Ml 11)] sz) := by
  refine ofQ (cc := cX7_chooseForCut) (maxL := 5) (ret := none) (by decide) rfl ?_
  intro p e s m args below meth c s₁ Q hQ B hml hv
  obtain ⟨rfl, hsz, hP, hK, hD0⟩ := hv
  have hG := hK.2
  have hK := hK.1
  have hx := B.exec
  have hb := B.bytes
  have hr := B.returns
  have hts := atoms_spec (ws := wsX7_chooseForCut) B.pre
  have hown : s.vm.findClass RX7 = some m.cls := by have h_ := findClass_of_methodNamed B.named; exact h_
  have hlocks := B.notSynchronized
  subst hsz
  have hD := hD0.self (sz := s.heap.size)
  generalize hAe : va_A [ob7_0_ xh xc u1 u2 u3 u4 u5 u6 u7 u8, ob0_0_ xc xn xk clo cro c4 c5 c6 c7 c8, ob3_0_ xn vp vn n1 n2 n3 n4 n5, aq_ cy 6 clo 12 (gf_ rl), ai_ cy (rl 0) 12 (Ml 0), ai_ cy (rl 1) 12 (Ml 1), ai_ cy (rl 2) 12 (Ml 2), ai_ cy (rl 3) 12 (Ml 3), ai_ cy (rl 4) 12 (Ml 4), ai_ cy (rl 5) 12 (Ml 5), ai_ cy (rl 6) 12 (Ml 6), ai_ cy (rl 7) 12 (Ml 7), ai_ cy (rl 8) 12 (Ml 8), ai_ cy (rl 9) 12 (Ml 9), ai_ cy (rl 10) 12 (Ml 10), ai_ cy (rl 11) 12 (Ml 11)] s.heap.size = A at hD hQ
  have hA : ∀ q : Nat, s.heap.size ≤ q → A q := fun q h => by rw [← hAe]; exact Or.inr h
  have hS : va_S A s.heap s.heap [] := va_S.rf
  have hl := lv_entry ([.ref xh, .int a1, .int a2, .int a3]) (n := 5) (Nat.le_of_ble_eq_true rfl)
  rw [lg_entry_eq]
  generalize (lg_sl ([.ref xh, .int a1, .int a2, .int a3]) ++ List.replicate (5 - (lg_sl ([.ref xh, .int a1, .int a2, .int a3])).length) Slot.unset).toArray = ls at hl ⊢
  have hl : lv_has ls 5 [(0, .ref xh), (1, .int a1), (2, .int a2), (3, .int a3)] := hl
  have zm9 : ((-9) : Int32).toInt = -9 := by decide
  have z0 : (0 : Int32).toInt = 0 := by decide
  have z1 : (1 : Int32).toInt = 1 := by decide
  refine lv_iload_n hx hb dB_36_1_58.1.1.1.1 rfl (lv_at hl 3 rfl) ?_
  refine lv_aload_n hx hb dB_36_1_58.1.1.1.2 rfl (lv_at hl 0 rfl) ?_
  refine va_get (ci := 7) (v := .int u3) (C := RX7) (T := TX7) (N := 9) hx hb hts (fun _ h => List.mem_cons_of_mem _ (List.mem_append_left _ (List.mem_append_left _ (List.mem_append_right _ h)))) hown hK.1 hP 0 rfl rfl 3 (by decide) (hts (.fieldLink RX7 33 "CutAtlas$SetHunt" "aim" "I") (List.mem_of_getElem? (i := 1) rfl)) (fun _ h9 => h9) rfl dB_36_1_58.1.1.2.1 ?_
  refine lv_icmp_gt (tgt := 17) hx hb dB_36_1_58.1.1.2.2 (by decide) (fun c_1 => ?_) (fun c_1 => ?_)
  · have t_1 : u3.toInt < a3.toInt := Int32.lt_iff_toInt_lt.mp c_1
    rw [hQ]
    exact W.vret hx hb hr (fun t ht hW => ⟨⟨(), rfl, trivial, u5, u6, by rw [ht]; exact hP, hD⟩, hS.F ht⟩) hS.2.2 dB_36_1_58.2.1.1.1
  · have t_1 : ¬ u3.toInt < a3.toInt := fun h => c_1 (Int32.lt_iff_toInt_lt.mpr h)
    refine lv_aload_n hx hb dB_36_1_58.1.2.1.1 rfl (lv_at hl 0 rfl) ?_
    refine va_get (ci := 7) (v := .int u6) (C := RX7) (T := TX7) (N := 9) hx hb hts (fun _ h => List.mem_cons_of_mem _ (List.mem_append_left _ (List.mem_append_left _ (List.mem_append_right _ h)))) hown hK.1 hP 0 rfl rfl 6 (by decide) (hts (.fieldLink RX7 24 "CutAtlas$SetHunt" "found" "I") (List.mem_of_getElem? (i := 2) rfl)) (fun _ h9 => h9) rfl dB_36_1_58.1.2.1.2 ?_
    refine lv_bipush (v := (-9)) hx hb dB_36_1_58.1.2.2.1 (by decide) ?_
    refine lv_icmp_eq (tgt := 18) hx hb dB_36_1_58.1.2.2.2 (by decide) (fun c_2 => ?_) (fun c_2 => ?_)
    · have t_2 : u6.toInt = ((-9) : Int32).toInt := congrArg Int32.toInt c_2
      refine lv_iload_n hx hb dB_36_1_58.2.1.1.2 rfl (lv_at hl 1 rfl) ?_
      refine lv_if_ge (tgt := 29) hx hb dB_36_1_58.2.1.2.1 (by decide) (fun c_3 => ?_) (fun c_3 => ?_)
      · have t_3 : (0 : Int32).toInt ≤ a1.toInt := Int32.le_iff_toInt_le.mp c_3
        refine lv_iconst (v := 1) hx hb dB_36_1_59.1.1.1.1 (by decide) ?_
        refine lv_iload_n hx hb dB_36_1_59.1.1.1.2 rfl (lv_at hl 1 rfl) ?_
        refine lv_ishl hx hb dB_36_1_59.1.1.2.1 ?_
        refine lv_topi (fun y_4 ey_4 => ?_)
        refine lv_istore (lv' := [(4, .int y_4), (0, .ref xh), (1, .int a1), (2, .int a2), (3, .int a3)]) hx hb dB_36_1_59.1.1.2.2 hl (by decide) rfl (fun ls hl => ?_)
        have JOIN_5 : ∀ (o5_5 : Int32) (o6_5 : Int32) (H : Heap) (locs : List Loc) (ls : Array Slot), pd_2 D vwCl A [ob7_0_ xh xc u1 u2 u3 u4 o5_5 o6_5 u7 u8, ob0_0_ xc xn xk clo cro c4 c5 c6 c7 c8, ob3_0_ xn vp vn n1 n2 n3 n4 n5, aq_ cy 6 clo 12 (gf_ rl), ai_ cy (rl 0) 12 (Ml 0), ai_ cy (rl 1) 12 (Ml 1), ai_ cy (rl 2) 12 (Ml 2), ai_ cy (rl 3) 12 (Ml 3), ai_ cy (rl 4) 12 (Ml 4), ai_ cy (rl 5) 12 (Ml 5), ai_ cy (rl 6) 12 (Ml 6), ai_ cy (rl 7) 12 (Ml 7), ai_ cy (rl 8) 12 (Ml 8), ai_ cy (rl 9) 12 (Ml 9), ai_ cy (rl 10) 12 (Ml 10), ai_ cy (rl 11) 12 (Ml 11)] H → va_S A s.heap H locs → lv_has ls 5 [(4, .int y_4), (0, .ref xh), (1, .int a1), (2, .int a2), (3, .int a3)] → W p l e ({ frames := 8, cells := 0, slots := 0, locals := 190 } : Room) s m (([.ref xh, .int a1, .int a2, .int a3] : List Value).toArray) below meth c H locs 0 0 Q (F0 m 60 ls []) := by
          intro o5_5 o6_5 H locs ls hPD hS hl; obtain ⟨hP, hD⟩ := hPD
          refine lv_aload_n hx hb dB_36_1_60.1.2.1.2 rfl (lv_at hl 1 rfl) ?_
          refine va_get (ci := 7) (v := .int u2) (C := RX7) (T := TX7) (N := 9) hx hb hts (fun _ h => List.mem_cons_of_mem _ (List.mem_append_left _ (List.mem_append_left _ (List.mem_append_right _ h)))) hown hK.1 hP 0 rfl rfl 2 (by decide) (hts (.fieldLink RX7 30 "CutAtlas$SetHunt" "mustNot" "I") (List.mem_of_getElem? (i := 4) rfl)) (fun _ h9 => h9) rfl dB_36_1_60.1.2.2.1 ?_
          refine lv_iload hx hb dB_36_1_60.1.2.2.2 (lv_at hl 0 rfl) ?_
          refine lv_iand hx hb dB_36_1_60.2.1.1.1 ?_
          refine lv_topi (fun y_6 ey_6 => ?_)
          refine lv_if_ne (tgt := 89) hx hb dB_36_1_60.2.1.1.2 (by decide) (fun c_7 => ?_) (fun c_7 => ?_)
          · have t_7 : ¬ y_6.toInt = (0 : Int32).toInt := fun h => c_7 (Int32.toInt_inj.mp h)
            rw [hQ]
            exact W.vret hx hb hr (fun t ht hW => ⟨⟨(), rfl, trivial, o5_5, o6_5, by rw [ht]; exact hP, hD⟩, hS.F ht⟩) hS.2.2 dB_36_1_61.2.2.2.2
          · have t_7 : y_6.toInt = (0 : Int32).toInt := congrArg Int32.toInt c_7
            refine lv_aload_n hx hb dB_36_1_60.2.1.2.1 rfl (lv_at hl 1 rfl) ?_
            refine lv_iload_n hx hb dB_36_1_60.2.1.2.2 rfl (lv_at hl 2 rfl) ?_
            refine lv_iconst (v := 1) hx hb dB_36_1_60.2.2.1.1 (by decide) ?_
            refine lv_isub hx hb dB_36_1_60.2.2.1.2 ?_
            refine lv_topi (fun y_8 ey_8 => ?_)
            have ty_8 : y_8.toInt = a1.toInt - (1 : Int32).toInt := by rw [ey_8]; exact subI (by omega) (by omega)
            refine lv_iload_n hx hb dB_36_1_60.2.2.2.1 rfl (lv_at hl 3 rfl) ?_
            refine lv_iload hx hb dB_36_1_60.2.2.2.2 (lv_at hl 0 rfl) ?_
            refine lv_ior hx hb dB_36_1_61.1.1.1 ?_
            refine lv_topi (fun y_9 ey_9 => ?_)
            refine lv_iload_n hx hb dB_36_1_61.1.1.2 rfl (lv_at hl 4 rfl) ?_
            refine lv_aload_n hx hb dB_36_1_61.1.2.1 rfl (lv_at hl 1 rfl) ?_
            refine lv_iload_n hx hb dB_36_1_61.1.2.2 rfl (lv_at hl 2 rfl) ?_
            refine lv_iload_n hx hb dB_36_1_61.2.1.1 rfl (lv_at hl 3 rfl) ?_
            refine ct_R hP hD [ob7_0_ xh xc u1 u2 u3 u4 o5_5 o6_5 u7 u8, ob0_0_ xc xn xk clo cro c4 c5 c6 c7 c8, ob3_0_ xn vp vn n1 n2 n3 n4 n5, aq_ cy 6 clo 12 (gf_ rl), ai_ cy (rl 0) 12 (Ml 0), ai_ cy (rl 1) 12 (Ml 1), ai_ cy (rl 2) 12 (Ml 2), ai_ cy (rl 3) 12 (Ml 3), ai_ cy (rl 4) 12 (Ml 4), ai_ cy (rl 5) 12 (Ml 5), ai_ cy (rl 6) 12 (Ml 6), ai_ cy (rl 7) 12 (Ml 7), ai_ cy (rl 8) 12 (Ml 8), ai_ cy (rl 9) 12 (Ml 9), ai_ cy (rl 10) 12 (Ml 10), ai_ cy (rl 11) 12 (Ml 11)] [0, 1, 2, 3, 4, 5, 6, 7, 8, 9, 10, 11, 12, 13, 14, 15] (by decide +kernel) rfl (fun hPc hDw => ?_)
            have hFc := va_free (wc := []) hD hS hA [] rfl
            refine va_calli (va_runV (As := [.int a1, .int a2]) (rest := [.int a3, .int y_9, .int y_8, .ref xh]) ⟨hx, hb, hml, hown, hts⟩ (c_X7_letOut l D cy H.size xh u1 u2 u3 u4 o5_5 o6_5 u7 u8 xc xk clo cro c4 c5 c6 c7 c8 xn n1 n2 n3 n4 n5 vp vn rl Ml a1 a2 (by first | with_reducible assumption | omega | assumption) (by first | with_reducible assumption | omega | assumption)) (cwV 2 hts gX7_chooseForCut_X7_letOut rfl rfl rfl ⟨rfl, hd_X7_letOut⟩ ⟨Nat.le_of_ble_eq_true rfl, Nat.le_of_ble_eq_true rfl⟩) ⟨bl_g, va_recvX hK.1 hP (ci := 7) (q0 := 0) rfl rfl, fun U hU hW => ⟨rfl, by rw [hU], by rw [hU]; exact hPc, ⟨kk_mv hW hK, arrOfT_moved hW.alike hG⟩, hDw⟩⟩ rfl rfl hl.1 rfl (lv_room (Nat.le_of_ble_eq_true rfl)) dB_36_1_61.2.1.2 ⟨Nat.le_of_ble_eq_true rfl, Nat.le_of_ble_eq_true rfl⟩) hS (fun q _ h => hFc q h) hFc (fun r_10 u t H locs ht hvm hw hB hz1 hk1 hS => ?_)
            have hP : va_P D vwCl _ H := ro_keep hP hk1
            refine lv_iadd hx hb dB_36_1_61.2.2.1 ?_
            refine lv_topi (fun y_11 ey_11 => ?_)
            refine ct_S hP hD hS hA [ob7_0_ xh xc u1 u2 u3 u4 o5_5 o6_5 u7 u8, ob0_0_ xc xn xk clo cro c4 c5 c6 c7 c8, ob3_0_ xn vp vn n1 n2 n3 n4 n5, aq_ cy 6 clo 12 (gf_ rl), ai_ cy (rl 0) 12 (Ml 0), ai_ cy (rl 1) 12 (Ml 1), ai_ cy (rl 2) 12 (Ml 2), ai_ cy (rl 3) 12 (Ml 3), ai_ cy (rl 4) 12 (Ml 4), ai_ cy (rl 5) 12 (Ml 5), ai_ cy (rl 6) 12 (Ml 6), ai_ cy (rl 7) 12 (Ml 7), ai_ cy (rl 8) 12 (Ml 8), ai_ cy (rl 9) 12 (Ml 9), ai_ cy (rl 10) 12 (Ml 10), ai_ cy (rl 11) 12 (Ml 11)] [0, 1, 2, 3, 4, 5, 6, 7, 8, 9, 10, 11, 12, 13, 14, 15] (by decide +kernel) rfl (fun hPc hDw hFc hC_ => ?_)
            refine va_callv (va_runV (As := [.int y_8, .int y_9, .int y_11]) (rest := []) ⟨hx, hb, hml, hown, hts⟩ (c_X7_chooseForCut_6 l D cy H.size xh u1 u2 u3 u4 o5_5 o6_5 u7 u8 xc xk clo cro c4 c5 c6 c7 c8 xn n1 n2 n3 n4 n5 vp vn rl Ml y_8 y_9 y_11 (by first | with_reducible assumption | omega | assumption) (by first | with_reducible assumption | omega | assumption)) (cwV 3 hts gX7_chooseForCut_X7_chooseForCut rfl rfl rfl ⟨rfl, hd_X7_chooseForCut⟩ ⟨Nat.le_of_ble_eq_true rfl, Nat.le_of_ble_eq_true rfl⟩) ⟨bl_g, va_recvX hK.1 hP (ci := 7) (q0 := 0) rfl rfl, fun U hU hW => ⟨rfl, by rw [hU], by rw [hU]; exact hPc, ⟨kk_mv hW hK, arrOfT_moved hW.alike hG⟩, hDw⟩⟩ rfl rfl hl.1 rfl (lv_room (Nat.le_of_ble_eq_true rfl)) dB_36_1_61.2.2.2.1 ⟨Nat.le_of_ble_eq_true rfl, Nat.le_of_ble_eq_true rfl⟩) hS (fun q _ h => hFc q h) hFc (fun u t H locs ht hvm hw hB hz1 hk1 hS => ?_)
            obtain ⟨v5_13, v6_14, hP1, hD1⟩ := hB
            rw [ht] at hP1
            obtain ⟨hP, hD⟩ := va_join (wr := []) (w1 := [ob7_0_ xh xc u1 u2 u3 u4 v5_13 v6_14 u7 u8, ob0_0_ xc xn xk clo cro c4 c5 c6 c7 c8, ob3_0_ xn vp vn n1 n2 n3 n4 n5, aq_ cy 6 clo 12 (gf_ rl), ai_ cy (rl 0) 12 (Ml 0), ai_ cy (rl 1) 12 (Ml 1), ai_ cy (rl 2) 12 (Ml 2), ai_ cy (rl 3) 12 (Ml 3), ai_ cy (rl 4) 12 (Ml 4), ai_ cy (rl 5) 12 (Ml 5), ai_ cy (rl 6) 12 (Ml 6), ai_ cy (rl 7) 12 (Ml 7), ai_ cy (rl 8) 12 (Ml 8), ai_ cy (rl 9) 12 (Ml 9), ai_ cy (rl 10) 12 (Ml 10), ai_ cy (rl 11) 12 (Ml 11)]) hP hD [0, 1, 2, 3, 4, 5, 6, 7, 8, 9, 10, 11, 12, 13, 14, 15] [] hC_ rfl (by decide) (by decide) hk1 hFc hP1 hD1
            refine pd_K [ob7_0_ xh xc u1 u2 u3 u4 v5_13 v6_14 u7 u8, ob0_0_ xc xn xk clo cro c4 c5 c6 c7 c8, ob3_0_ xn vp vn n1 n2 n3 n4 n5, aq_ cy 6 clo 12 (gf_ rl), ai_ cy (rl 0) 12 (Ml 0), ai_ cy (rl 1) 12 (Ml 1), ai_ cy (rl 2) 12 (Ml 2), ai_ cy (rl 3) 12 (Ml 3), ai_ cy (rl 4) 12 (Ml 4), ai_ cy (rl 5) 12 (Ml 5), ai_ cy (rl 6) 12 (Ml 6), ai_ cy (rl 7) 12 (Ml 7), ai_ cy (rl 8) 12 (Ml 8), ai_ cy (rl 9) 12 (Ml 9), ai_ cy (rl 10) 12 (Ml 10), ai_ cy (rl 11) 12 (Ml 11)] hP hD (fun hP hD => ?_)
            rw [hQ]
            exact W.vret hx hb hr (fun t ht hW => ⟨⟨(), rfl, trivial, v5_13, v6_14, by rw [ht]; exact hP, hD⟩, hS.F ht⟩) hS.2.2 dB_36_1_61.2.2.2.2
        refine lv_aload_n hx hb dB_36_1_59.1.2.1.1 rfl (lv_at hl 1 rfl) ?_
        refine va_get (ci := 7) (v := .int u1) (C := RX7) (T := TX7) (N := 9) hx hb hts (fun _ h => List.mem_cons_of_mem _ (List.mem_append_left _ (List.mem_append_left _ (List.mem_append_right _ h)))) hown hK.1 hP 0 rfl rfl 1 (by decide) (hts (.fieldLink RX7 27 "CutAtlas$SetHunt" "must" "I") (List.mem_of_getElem? (i := 3) rfl)) (fun _ h9 => h9) rfl dB_36_1_59.1.2.1.2 ?_
        refine lv_iload hx hb dB_36_1_59.1.2.2.1 (lv_at hl 0 rfl) ?_
        refine lv_iand hx hb dB_36_1_59.1.2.2.2 ?_
        refine lv_topi (fun y_15 ey_15 => ?_)
        refine lv_if_ne (tgt := 60) hx hb dB_36_1_59.2.1.1.1 (by decide) (fun c_16 => ?_) (fun c_16 => ?_)
        · have t_16 : ¬ y_15.toInt = (0 : Int32).toInt := fun h => c_16 (Int32.toInt_inj.mp h)
          exact JOIN_5 u5 u6 _ _ _ ⟨hP, hD⟩ hS (lv_sub hl [0, 1, 2, 3, 4] rfl)
        · have t_16 : y_15.toInt = (0 : Int32).toInt := congrArg Int32.toInt c_16
          refine lv_aload_n hx hb dB_36_1_59.2.1.1.2 rfl (lv_at hl 1 rfl) ?_
          refine lv_iload_n hx hb dB_36_1_59.2.1.2.1 rfl (lv_at hl 2 rfl) ?_
          refine lv_iconst (v := 1) hx hb dB_36_1_59.2.1.2.2 (by decide) ?_
          refine lv_isub hx hb dB_36_1_59.2.2.1.1 ?_
          refine lv_topi (fun y_17 ey_17 => ?_)
          have ty_17 : y_17.toInt = a1.toInt - (1 : Int32).toInt := by rw [ey_17]; exact subI (by omega) (by omega)
          refine lv_iload_n hx hb dB_36_1_59.2.2.1.2 rfl (lv_at hl 3 rfl) ?_
          refine lv_iload_n hx hb dB_36_1_59.2.2.2.1 rfl (lv_at hl 4 rfl) ?_
          refine lv_aload_n hx hb dB_36_1_59.2.2.2.2 rfl (lv_at hl 1 rfl) ?_
          refine lv_iload_n hx hb dB_36_1_60.1.1.1.1 rfl (lv_at hl 2 rfl) ?_
          refine lv_iload_n hx hb dB_36_1_60.1.1.1.2 rfl (lv_at hl 3 rfl) ?_
          refine ct_R hP hD [ob7_0_ xh xc u1 u2 u3 u4 u5 u6 u7 u8, ob0_0_ xc xn xk clo cro c4 c5 c6 c7 c8, ob3_0_ xn vp vn n1 n2 n3 n4 n5, aq_ cy 6 clo 12 (gf_ rl), ai_ cy (rl 0) 12 (Ml 0), ai_ cy (rl 1) 12 (Ml 1), ai_ cy (rl 2) 12 (Ml 2), ai_ cy (rl 3) 12 (Ml 3), ai_ cy (rl 4) 12 (Ml 4), ai_ cy (rl 5) 12 (Ml 5), ai_ cy (rl 6) 12 (Ml 6), ai_ cy (rl 7) 12 (Ml 7), ai_ cy (rl 8) 12 (Ml 8), ai_ cy (rl 9) 12 (Ml 9), ai_ cy (rl 10) 12 (Ml 10), ai_ cy (rl 11) 12 (Ml 11)] [0, 1, 2, 3, 4, 5, 6, 7, 8, 9, 10, 11, 12, 13, 14, 15] (by decide +kernel) rfl (fun hPc hDw => ?_)
          have hFc := va_free (wc := []) hD hS hA [] rfl
          refine va_calli (va_runV (As := [.int a1, .int a2]) (rest := [.int a3, .int a2, .int y_17, .ref xh]) ⟨hx, hb, hml, hown, hts⟩ (c_X7_letIn l D cy s.heap.size xh u1 u2 u3 u4 u5 u6 u7 u8 xc xk clo cro c4 c5 c6 c7 c8 xn n1 n2 n3 n4 n5 vp vn rl Ml a1 a2 (by first | with_reducible assumption | omega | assumption) (by first | with_reducible assumption | omega | assumption)) (cwV 2 hts gX7_chooseForCut_X7_letIn rfl rfl rfl ⟨rfl, hd_X7_letIn⟩ ⟨Nat.le_of_ble_eq_true rfl, Nat.le_of_ble_eq_true rfl⟩) ⟨bl_g, va_recvX hK.1 hP (ci := 7) (q0 := 0) rfl rfl, fun U hU hW => ⟨rfl, by rw [hU], by rw [hU]; exact hPc, ⟨kk_mv hW hK, arrOfT_moved hW.alike hG⟩, hDw⟩⟩ rfl rfl hl.1 rfl (lv_room (Nat.le_of_ble_eq_true rfl)) dB_36_1_60.1.1.2.1 ⟨Nat.le_of_ble_eq_true rfl, Nat.le_of_ble_eq_true rfl⟩) hS (fun q _ h => hFc q h) hFc (fun r_18 u t H locs ht hvm hw hB hz1 hk1 hS => ?_)
          have hP : va_P D vwCl _ H := ro_keep hP hk1
          refine lv_iadd hx hb dB_36_1_60.1.1.2.2 ?_
          refine lv_topi (fun y_19 ey_19 => ?_)
          refine ct_S hP hD hS hA [ob7_0_ xh xc u1 u2 u3 u4 u5 u6 u7 u8, ob0_0_ xc xn xk clo cro c4 c5 c6 c7 c8, ob3_0_ xn vp vn n1 n2 n3 n4 n5, aq_ cy 6 clo 12 (gf_ rl), ai_ cy (rl 0) 12 (Ml 0), ai_ cy (rl 1) 12 (Ml 1), ai_ cy (rl 2) 12 (Ml 2), ai_ cy (rl 3) 12 (Ml 3), ai_ cy (rl 4) 12 (Ml 4), ai_ cy (rl 5) 12 (Ml 5), ai_ cy (rl 6) 12 (Ml 6), ai_ cy (rl 7) 12 (Ml 7), ai_ cy (rl 8) 12 (Ml 8), ai_ cy (rl 9) 12 (Ml 9), ai_ cy (rl 10) 12 (Ml 10), ai_ cy (rl 11) 12 (Ml 11)] [0, 1, 2, 3, 4, 5, 6, 7, 8, 9, 10, 11, 12, 13, 14, 15] (by decide +kernel) rfl (fun hPc hDw hFc hC_ => ?_)
          refine va_callv (va_runV (As := [.int y_17, .int a2, .int y_19]) (rest := []) ⟨hx, hb, hml, hown, hts⟩ (c_X7_chooseForCut_6 l D cy H.size xh u1 u2 u3 u4 u5 u6 u7 u8 xc xk clo cro c4 c5 c6 c7 c8 xn n1 n2 n3 n4 n5 vp vn rl Ml y_17 a2 y_19 (by first | with_reducible assumption | omega | assumption) (by first | with_reducible assumption | omega | assumption)) (cwV 3 hts gX7_chooseForCut_X7_chooseForCut rfl rfl rfl ⟨rfl, hd_X7_chooseForCut⟩ ⟨Nat.le_of_ble_eq_true rfl, Nat.le_of_ble_eq_true rfl⟩) ⟨bl_g, va_recvX hK.1 hP (ci := 7) (q0 := 0) rfl rfl, fun U hU hW => ⟨rfl, by rw [hU], by rw [hU]; exact hPc, ⟨kk_mv hW hK, arrOfT_moved hW.alike hG⟩, hDw⟩⟩ rfl rfl hl.1 rfl (lv_room (Nat.le_of_ble_eq_true rfl)) dB_36_1_60.1.2.1.1 ⟨Nat.le_of_ble_eq_true rfl, Nat.le_of_ble_eq_true rfl⟩) hS (fun q _ h => hFc q h) hFc (fun u t H locs ht hvm hw hB hz1 hk1 hS => ?_)
          obtain ⟨v5_21, v6_22, hP1, hD1⟩ := hB
          rw [ht] at hP1
          obtain ⟨hP, hD⟩ := va_join (wr := []) (w1 := [ob7_0_ xh xc u1 u2 u3 u4 v5_21 v6_22 u7 u8, ob0_0_ xc xn xk clo cro c4 c5 c6 c7 c8, ob3_0_ xn vp vn n1 n2 n3 n4 n5, aq_ cy 6 clo 12 (gf_ rl), ai_ cy (rl 0) 12 (Ml 0), ai_ cy (rl 1) 12 (Ml 1), ai_ cy (rl 2) 12 (Ml 2), ai_ cy (rl 3) 12 (Ml 3), ai_ cy (rl 4) 12 (Ml 4), ai_ cy (rl 5) 12 (Ml 5), ai_ cy (rl 6) 12 (Ml 6), ai_ cy (rl 7) 12 (Ml 7), ai_ cy (rl 8) 12 (Ml 8), ai_ cy (rl 9) 12 (Ml 9), ai_ cy (rl 10) 12 (Ml 10), ai_ cy (rl 11) 12 (Ml 11)]) hP hD [0, 1, 2, 3, 4, 5, 6, 7, 8, 9, 10, 11, 12, 13, 14, 15] [] hC_ rfl (by decide) (by decide) hk1 hFc hP1 hD1
          refine pd_K [ob7_0_ xh xc u1 u2 u3 u4 v5_21 v6_22 u7 u8, ob0_0_ xc xn xk clo cro c4 c5 c6 c7 c8, ob3_0_ xn vp vn n1 n2 n3 n4 n5, aq_ cy 6 clo 12 (gf_ rl), ai_ cy (rl 0) 12 (Ml 0), ai_ cy (rl 1) 12 (Ml 1), ai_ cy (rl 2) 12 (Ml 2), ai_ cy (rl 3) 12 (Ml 3), ai_ cy (rl 4) 12 (Ml 4), ai_ cy (rl 5) 12 (Ml 5), ai_ cy (rl 6) 12 (Ml 6), ai_ cy (rl 7) 12 (Ml 7), ai_ cy (rl 8) 12 (Ml 8), ai_ cy (rl 9) 12 (Ml 9), ai_ cy (rl 10) 12 (Ml 10), ai_ cy (rl 11) 12 (Ml 11)] hP hD (fun hP hD => ?_)
          exact JOIN_5 v5_21 v6_22 _ _ _ ⟨hP, hD⟩ hS (lv_sub hl [0, 1, 2, 3, 4] rfl)
      · have t_3 : ¬ (0 : Int32).toInt ≤ a1.toInt := fun h => c_3 (Int32.le_iff_toInt_le.mpr h)
        refine lv_aload_n hx hb dB_36_1_58.2.1.2.2 rfl (lv_at hl 0 rfl) ?_
        refine lv_iload_n hx hb dB_36_1_58.2.2.1.1 rfl (lv_at hl 2 rfl) ?_
        refine lv_iload_n hx hb dB_36_1_58.2.2.1.2 rfl (lv_at hl 3 rfl) ?_
        refine ct_S hP hD hS hA [ob7_0_ xh xc u1 u2 u3 u4 u5 u6 u7 u8] [0] (by decide) rfl (fun hPc hDw hFc hC_ => ?_)
        refine va_callv (va_runV (As := [.int a2, .int a3]) (rest := []) ⟨hx, hb, hml, hown, hts⟩ (c_X7_meet l D cy s.heap.size xh u1 u2 u3 u4 u5 u6 u7 u8 xc a2 a3) (cwV 2 hts gX7_chooseForCut_X7_meet rfl rfl rfl ⟨rfl, hd_X7_meet⟩ ⟨Nat.le_of_ble_eq_true rfl, Nat.le_of_ble_eq_true rfl⟩) ⟨bl_, va_recvX hK.1 hP (ci := 7) (q0 := 0) rfl rfl, fun U hU hW => ⟨rfl, by rw [hU], by rw [hU]; exact hPc, kk_mv hW hK, hDw⟩⟩ rfl rfl hl.1 rfl (lv_room (Nat.le_of_ble_eq_true rfl)) dB_36_1_58.2.2.2.1 ⟨Nat.le_of_ble_eq_true rfl, Nat.le_of_ble_eq_true rfl⟩) hS (fun q _ h => hFc q h) hFc (fun u t H locs ht hvm hw hB hz1 hk1 hS => ?_)
        obtain ⟨v5_24, v6_25, hP1, hD1⟩ := hB
        rw [ht] at hP1
        obtain ⟨hP, hD⟩ := va_join (wr := [ob0_0_ xc xn xk clo cro c4 c5 c6 c7 c8, ob3_0_ xn vp vn n1 n2 n3 n4 n5, aq_ cy 6 clo 12 (gf_ rl), ai_ cy (rl 0) 12 (Ml 0), ai_ cy (rl 1) 12 (Ml 1), ai_ cy (rl 2) 12 (Ml 2), ai_ cy (rl 3) 12 (Ml 3), ai_ cy (rl 4) 12 (Ml 4), ai_ cy (rl 5) 12 (Ml 5), ai_ cy (rl 6) 12 (Ml 6), ai_ cy (rl 7) 12 (Ml 7), ai_ cy (rl 8) 12 (Ml 8), ai_ cy (rl 9) 12 (Ml 9), ai_ cy (rl 10) 12 (Ml 10), ai_ cy (rl 11) 12 (Ml 11)]) (w1 := [ob7_0_ xh xc u1 u2 u3 u4 v5_24 v6_25 u7 u8]) hP hD [0] [1, 2, 3, 4, 5, 6, 7, 8, 9, 10, 11, 12, 13, 14, 15] hC_ rfl (by decide +kernel) (by decide +kernel) hk1 hFc hP1 hD1
        refine pd_S hP hD [ob7_0_ xh xc u1 u2 u3 u4 v5_24 v6_25 u7 u8, ob0_0_ xc xn xk clo cro c4 c5 c6 c7 c8, ob3_0_ xn vp vn n1 n2 n3 n4 n5, aq_ cy 6 clo 12 (gf_ rl), ai_ cy (rl 0) 12 (Ml 0), ai_ cy (rl 1) 12 (Ml 1), ai_ cy (rl 2) 12 (Ml 2), ai_ cy (rl 3) 12 (Ml 3), ai_ cy (rl 4) 12 (Ml 4), ai_ cy (rl 5) 12 (Ml 5), ai_ cy (rl 6) 12 (Ml 6), ai_ cy (rl 7) 12 (Ml 7), ai_ cy (rl 8) 12 (Ml 8), ai_ cy (rl 9) 12 (Ml 9), ai_ cy (rl 10) 12 (Ml 10), ai_ cy (rl 11) 12 (Ml 11)] [15, 0, 1, 2, 3, 4, 5, 6, 7, 8, 9, 10, 11, 12, 13, 14] (by decide +kernel) rfl (fun hP hD => ?_)
        rw [hQ]
        exact W.vret hx hb hr (fun t ht hW => ⟨⟨(), rfl, trivial, v5_24, v6_25, by rw [ht]; exact hP, hD⟩, hS.F ht⟩) hS.2.2 dB_36_1_58.2.2.2.2
    · have t_2 : ¬ u6.toInt = ((-9) : Int32).toInt := fun h => c_2 (Int32.toInt_inj.mp h)
      rw [hQ]
      exact W.vret hx hb hr (fun t ht hW => ⟨⟨(), rfl, trivial, u5, u6, by rw [ht]; exact hP, hD⟩, hS.F ht⟩) hS.2.2 dB_36_1_58.2.1.1.1

set_option maxHeartbeats 4000000 in
set_option maxRecDepth 100000 in
theorem c_X7_chooseForCut_8 (l : Launch) (D : va_G) (cy : Nat → ClassId) (sz : Nat) (xh : Nat) (u1 : Int32) (u2 : Int32) (u3 : Int32) (u4 : Int32) (u5 : Int32) (u6 : Int32) (u7 : Int32) (u8 : Int32) (xc : Nat) (xk : Nat) (clo : Nat) (cro : Nat) (c4 : Nat) (c5 : Nat) (c6 : Nat) (c7 : Nat) (c8 : Nat) (xn : Nat) (n1 : Nat) (n2 : Nat) (n3 : Nat) (n4 : Nat) (n5 : Nat) (vp : Int32) (vn : Int32) (rl : Nat → Nat) (Ml : Nat → Nat → Int32) (a1 : Int32) (a2 : Int32) (a3 : Int32) (hvp : 0 ≤ vp.toInt ∧ vp.toInt ≤ 12) (q1 : -1 ≤ a1.toInt ∧ a1.toInt < 8) : Met l yX7_chooseForCut wsX7_chooseForCut ({ frames := 9, cells := 0, slots := 0, locals := 214 }) (va_Pc [.ref xh, .int a1, .int a2, .int a3] (fun U => U.heap.size = sz ∧ va_P D vwCl [ob7_0_ xh xc u1 u2 u3 u4 u5 u6 u7 u8, ob0_0_ xc xn xk clo cro c4 c5 c6 c7 c8, ob3_0_ xn vp vn n1 n2 n3 n4 n5, aq_ cy 6 clo 12 (gf_ rl), ai_ cy (rl 0) 12 (Ml 0), ai_ cy (rl 1) 12 (Ml 1), ai_ cy (rl 2) 12 (Ml 2), ai_ cy (rl 3) 12 (Ml 3), ai_ cy (rl 4) 12 (Ml 4), ai_ cy (rl 5) 12 (Ml 5), ai_ cy (rl 6) 12 (Ml 6), ai_ cy (rl 7) 12 (Ml 7), ai_ cy (rl 8) 12 (Ml 8), ai_ cy (rl 9) 12 (Ml 9), ai_ cy (rl 10) 12 (Ml 10), ai_ cy (rl 11) 12 (Ml 11)] U.heap ∧ kg_ D cy U ∧ va_D (fun _ => True) [ob7_0_ xh xc u1 u2 u3 u4 u5 u6 u7 u8, ob0_0_ xc xn xk clo cro c4 c5 c6 c7 c8, ob3_0_ xn vp vn n1 n2 n3 n4 n5, aq_ cy 6 clo 12 (gf_ rl), ai_ cy (rl 0) 12 (Ml 0), ai_ cy (rl 1) 12 (Ml 1), ai_ cy (rl 2) 12 (Ml 2), ai_ cy (rl 3) 12 (Ml 3), ai_ cy (rl 4) 12 (Ml 4), ai_ cy (rl 5) 12 (Ml 5), ai_ cy (rl 6) 12 (Ml 6), ai_ cy (rl 7) 12 (Ml 7), ai_ cy (rl 8) 12 (Ml 8), ai_ cy (rl 9) 12 (Ml 9), ai_ cy (rl 10) 12 (Ml 10), ai_ cy (rl 11) 12 (Ml 11)])) (va_Qv (fun (_ : Unit) => True) (fun (_ : Unit) (t : State) => ∃ (v5 : Int32), ∃ (v6 : Int32), va_P D vwCl [ob7_0_ xh xc u1 u2 u3 u4 v5 v6 u7 u8, ob0_0_ xc xn xk clo cro c4 c5 c6 c7 c8, ob3_0_ xn vp vn n1 n2 n3 n4 n5, aq_ cy 6 clo 12 (gf_ rl), ai_ cy (rl 0) 12 (Ml 0), ai_ cy (rl 1) 12 (Ml 1), ai_ cy (rl 2) 12 (Ml 2), ai_ cy (rl 3) 12 (Ml 3), ai_ cy (rl 4) 12 (Ml 4), ai_ cy (rl 5) 12 (Ml 5), ai_ cy (rl 6) 12 (Ml 6), ai_ cy (rl 7) 12 (Ml 7), ai_ cy (rl 8) 12 (Ml 8), ai_ cy (rl 9) 12 (Ml 9), ai_ cy (rl 10) 12 (Ml 10), ai_ cy (rl 11) 12 (Ml 11)] t.heap ∧ va_D (va_A [ob7_0_ xh xc u1 u2 u3 u4 u5 u6 u7 u8, ob0_0_ xc xn xk clo cro c4 c5 c6 c7 c8, ob3_0_ xn vp vn n1 n2 n3 n4 n5, aq_ cy 6 clo 12 (gf_ rl), ai_ cy (rl 0) 12 (Ml 0), ai_ cy (rl 1) 12 (Ml 1), ai_ cy (rl 2) 12 (Ml 2), ai_ cy (rl 3) 12 (Ml 3), ai_ cy (rl 4) 12 (Ml 4), ai_ cy (rl 5) 12 (Ml 5), ai_ cy (rl 6) 12 (Ml 6), ai_ cy (rl 7) 12 (Ml 7), ai_ cy (rl 8) 12 (Ml 8), ai_ cy (rl 9) 12 (Ml 9), ai_ cy (rl 10) 12 (Ml 10), ai_ cy (rl 11) 12 (Ml 11)] sz) [ob7_0_ xh xc u1 u2 u3 u4 v5 v6 u7 u8, ob0_0_ xc xn xk clo cro c4 c5 c6 c7 c8, ob3_0_ xn vp vn n1 n2 n3 n4 n5, aq_ cy 6 clo 12 (gf_ rl), ai_ cy (rl 0) 12 (Ml 0), ai_ cy (rl 1) 12 (Ml 1), ai_ cy (rl 2) 12 (Ml 2), ai_ cy (rl 3) 12 (Ml 3), ai_ cy (rl 4) 12 (Ml 4), ai_ cy (rl 5) 12 (Ml 5), ai_ cy (rl 6) 12 (Ml 6), ai_ cy (rl 7) 12 (Ml 7), ai_ cy (rl 8) 12 (Ml 8), ai_ cy (rl 9) 12 (Ml 9), ai_ cy (rl 10) 12 (Ml 10), ai_ cy (rl 11) 12 (Ml 11)]) (va_A [ob7_0_ xh xc u1 u2 u3 u4 u5 u6 u7 u8, ob0_0_ xc xn xk clo cro c4 c5 c6 c7 c8, ob3_0_ xn vp vn n1 n2 n3 n4 n5, aq_ cy 6 clo 12 (gf_ rl), ai_ cy (rl 0) 12 (Ml 0), ai_ cy (rl 1) 12 (Ml 1), ai_ cy (rl 2) 12 (Ml 2), ai_ cy (rl 3) 12 (Ml 3), ai_ cy (rl 4) 12 (Ml 4), ai_ cy (rl 5) 12 (Ml 5), ai_ cy (rl 6) 12 (Ml 6), ai_ cy (rl 7) 12 (Ml 7), ai_ cy (rl 8) 12 (Ml 8), ai_ cy (rl 9) 12 (Ml 9), ai_ cy (rl 10) 12 (Ml 10), ai_ cy (rl 11) 12 (Ml 11)] sz)) 0 0 (va_A [ob7_0_ xh xc u1 u2 u3 u4 u5 u6 u7 u8, ob0_0_ xc xn xk clo cro c4 c5 c6 c7 c8, ob3_0_ xn vp vn n1 n2 n3 n4 n5, aq_ cy 6 clo 12 (gf_ rl), ai_ cy (rl 0) 12 (Ml 0), ai_ cy (rl 1) 12 (Ml 1), ai_ cy (rl 2) 12 (Ml 2), ai_ cy (rl 3) 12 (Ml 3), ai_ cy (rl 4) 12 (Ml 4), ai_ cy (rl 5) 12 (Ml 5), ai_ cy (rl 6) 12 (Ml 6), ai_ cy (rl 7) 12 (Ml 7), ai_ cy (rl 8) 12 (Ml 8), ai_ cy (rl 9) 12 (Ml 9), ai_ cy (rl 10) 12 (Ml 10), ai_ cy (rl 11) 12 (Ml 11)] sz) := by
  refine ofQ (cc := cX7_chooseForCut) (maxL := 5) (ret := none) (by decide) rfl ?_
  intro p e s m args below meth c s₁ Q hQ B hml hv
  obtain ⟨rfl, hsz, hP, hK, hD0⟩ := hv
  have hG := hK.2
  have hK := hK.1
  have hx := B.exec
  have hb := B.bytes
  have hr := B.returns
  have hts := atoms_spec (ws := wsX7_chooseForCut) B.pre
  have hown : s.vm.findClass RX7 = some m.cls := by have h_ := findClass_of_methodNamed B.named; exact h_
  have hlocks := B.notSynchronized
  subst hsz
  have hD := hD0.self (sz := s.heap.size)
  generalize hAe : va_A [ob7_0_ xh xc u1 u2 u3 u4 u5 u6 u7 u8, ob0_0_ xc xn xk clo cro c4 c5 c6 c7 c8, ob3_0_ xn vp vn n1 n2 n3 n4 n5, aq_ cy 6 clo 12 (gf_ rl), ai_ cy (rl 0) 12 (Ml 0), ai_ cy (rl 1) 12 (Ml 1), ai_ cy (rl 2) 12 (Ml 2), ai_ cy (rl 3) 12 (Ml 3), ai_ cy (rl 4) 12 (Ml 4), ai_ cy (rl 5) 12 (Ml 5), ai_ cy (rl 6) 12 (Ml 6), ai_ cy (rl 7) 12 (Ml 7), ai_ cy (rl 8) 12 (Ml 8), ai_ cy (rl 9) 12 (Ml 9), ai_ cy (rl 10) 12 (Ml 10), ai_ cy (rl 11) 12 (Ml 11)] s.heap.size = A at hD hQ
  have hA : ∀ q : Nat, s.heap.size ≤ q → A q := fun q h => by rw [← hAe]; exact Or.inr h
  have hS : va_S A s.heap s.heap [] := va_S.rf
  have hl := lv_entry ([.ref xh, .int a1, .int a2, .int a3]) (n := 5) (Nat.le_of_ble_eq_true rfl)
  rw [lg_entry_eq]
  generalize (lg_sl ([.ref xh, .int a1, .int a2, .int a3]) ++ List.replicate (5 - (lg_sl ([.ref xh, .int a1, .int a2, .int a3])).length) Slot.unset).toArray = ls at hl ⊢
  have hl : lv_has ls 5 [(0, .ref xh), (1, .int a1), (2, .int a2), (3, .int a3)] := hl
  have zm9 : ((-9) : Int32).toInt = -9 := by decide
  have z0 : (0 : Int32).toInt = 0 := by decide
  have z1 : (1 : Int32).toInt = 1 := by decide
  refine lv_iload_n hx hb dB_36_1_58.1.1.1.1 rfl (lv_at hl 3 rfl) ?_
  refine lv_aload_n hx hb dB_36_1_58.1.1.1.2 rfl (lv_at hl 0 rfl) ?_
  refine va_get (ci := 7) (v := .int u3) (C := RX7) (T := TX7) (N := 9) hx hb hts (fun _ h => List.mem_cons_of_mem _ (List.mem_append_left _ (List.mem_append_left _ (List.mem_append_right _ h)))) hown hK.1 hP 0 rfl rfl 3 (by decide) (hts (.fieldLink RX7 33 "CutAtlas$SetHunt" "aim" "I") (List.mem_of_getElem? (i := 1) rfl)) (fun _ h9 => h9) rfl dB_36_1_58.1.1.2.1 ?_
  refine lv_icmp_gt (tgt := 17) hx hb dB_36_1_58.1.1.2.2 (by decide) (fun c_1 => ?_) (fun c_1 => ?_)
  · have t_1 : u3.toInt < a3.toInt := Int32.lt_iff_toInt_lt.mp c_1
    rw [hQ]
    exact W.vret hx hb hr (fun t ht hW => ⟨⟨(), rfl, trivial, u5, u6, by rw [ht]; exact hP, hD⟩, hS.F ht⟩) hS.2.2 dB_36_1_58.2.1.1.1
  · have t_1 : ¬ u3.toInt < a3.toInt := fun h => c_1 (Int32.lt_iff_toInt_lt.mpr h)
    refine lv_aload_n hx hb dB_36_1_58.1.2.1.1 rfl (lv_at hl 0 rfl) ?_
    refine va_get (ci := 7) (v := .int u6) (C := RX7) (T := TX7) (N := 9) hx hb hts (fun _ h => List.mem_cons_of_mem _ (List.mem_append_left _ (List.mem_append_left _ (List.mem_append_right _ h)))) hown hK.1 hP 0 rfl rfl 6 (by decide) (hts (.fieldLink RX7 24 "CutAtlas$SetHunt" "found" "I") (List.mem_of_getElem? (i := 2) rfl)) (fun _ h9 => h9) rfl dB_36_1_58.1.2.1.2 ?_
    refine lv_bipush (v := (-9)) hx hb dB_36_1_58.1.2.2.1 (by decide) ?_
    refine lv_icmp_eq (tgt := 18) hx hb dB_36_1_58.1.2.2.2 (by decide) (fun c_2 => ?_) (fun c_2 => ?_)
    · have t_2 : u6.toInt = ((-9) : Int32).toInt := congrArg Int32.toInt c_2
      refine lv_iload_n hx hb dB_36_1_58.2.1.1.2 rfl (lv_at hl 1 rfl) ?_
      refine lv_if_ge (tgt := 29) hx hb dB_36_1_58.2.1.2.1 (by decide) (fun c_3 => ?_) (fun c_3 => ?_)
      · have t_3 : (0 : Int32).toInt ≤ a1.toInt := Int32.le_iff_toInt_le.mp c_3
        refine lv_iconst (v := 1) hx hb dB_36_1_59.1.1.1.1 (by decide) ?_
        refine lv_iload_n hx hb dB_36_1_59.1.1.1.2 rfl (lv_at hl 1 rfl) ?_
        refine lv_ishl hx hb dB_36_1_59.1.1.2.1 ?_
        refine lv_topi (fun y_4 ey_4 => ?_)
        refine lv_istore (lv' := [(4, .int y_4), (0, .ref xh), (1, .int a1), (2, .int a2), (3, .int a3)]) hx hb dB_36_1_59.1.1.2.2 hl (by decide) rfl (fun ls hl => ?_)
        have JOIN_5 : ∀ (o5_5 : Int32) (o6_5 : Int32) (H : Heap) (locs : List Loc) (ls : Array Slot), pd_2 D vwCl A [ob7_0_ xh xc u1 u2 u3 u4 o5_5 o6_5 u7 u8, ob0_0_ xc xn xk clo cro c4 c5 c6 c7 c8, ob3_0_ xn vp vn n1 n2 n3 n4 n5, aq_ cy 6 clo 12 (gf_ rl), ai_ cy (rl 0) 12 (Ml 0), ai_ cy (rl 1) 12 (Ml 1), ai_ cy (rl 2) 12 (Ml 2), ai_ cy (rl 3) 12 (Ml 3), ai_ cy (rl 4) 12 (Ml 4), ai_ cy (rl 5) 12 (Ml 5), ai_ cy (rl 6) 12 (Ml 6), ai_ cy (rl 7) 12 (Ml 7), ai_ cy (rl 8) 12 (Ml 8), ai_ cy (rl 9) 12 (Ml 9), ai_ cy (rl 10) 12 (Ml 10), ai_ cy (rl 11) 12 (Ml 11)] H → va_S A s.heap H locs → lv_has ls 5 [(4, .int y_4), (0, .ref xh), (1, .int a1), (2, .int a2), (3, .int a3)] → W p l e ({ frames := 9, cells := 0, slots := 0, locals := 214 } : Room) s m (([.ref xh, .int a1, .int a2, .int a3] : List Value).toArray) below meth c H locs 0 0 Q (F0 m 60 ls []) := by
          intro o5_5 o6_5 H locs ls hPD hS hl; obtain ⟨hP, hD⟩ := hPD
          refine lv_aload_n hx hb dB_36_1_60.1.2.1.2 rfl (lv_at hl 1 rfl) ?_
          refine va_get (ci := 7) (v := .int u2) (C := RX7) (T := TX7) (N := 9) hx hb hts (fun _ h => List.mem_cons_of_mem _ (List.mem_append_left _ (List.mem_append_left _ (List.mem_append_right _ h)))) hown hK.1 hP 0 rfl rfl 2 (by decide) (hts (.fieldLink RX7 30 "CutAtlas$SetHunt" "mustNot" "I") (List.mem_of_getElem? (i := 4) rfl)) (fun _ h9 => h9) rfl dB_36_1_60.1.2.2.1 ?_
          refine lv_iload hx hb dB_36_1_60.1.2.2.2 (lv_at hl 0 rfl) ?_
          refine lv_iand hx hb dB_36_1_60.2.1.1.1 ?_
          refine lv_topi (fun y_6 ey_6 => ?_)
          refine lv_if_ne (tgt := 89) hx hb dB_36_1_60.2.1.1.2 (by decide) (fun c_7 => ?_) (fun c_7 => ?_)
          · have t_7 : ¬ y_6.toInt = (0 : Int32).toInt := fun h => c_7 (Int32.toInt_inj.mp h)
            rw [hQ]
            exact W.vret hx hb hr (fun t ht hW => ⟨⟨(), rfl, trivial, o5_5, o6_5, by rw [ht]; exact hP, hD⟩, hS.F ht⟩) hS.2.2 dB_36_1_61.2.2.2.2
          · have t_7 : y_6.toInt = (0 : Int32).toInt := congrArg Int32.toInt c_7
            refine lv_aload_n hx hb dB_36_1_60.2.1.2.1 rfl (lv_at hl 1 rfl) ?_
            refine lv_iload_n hx hb dB_36_1_60.2.1.2.2 rfl (lv_at hl 2 rfl) ?_
            refine lv_iconst (v := 1) hx hb dB_36_1_60.2.2.1.1 (by decide) ?_
            refine lv_isub hx hb dB_36_1_60.2.2.1.2 ?_
            refine lv_topi (fun y_8 ey_8 => ?_)
            have ty_8 : y_8.toInt = a1.toInt - (1 : Int32).toInt := by rw [ey_8]; exact subI (by omega) (by omega)
            refine lv_iload_n hx hb dB_36_1_60.2.2.2.1 rfl (lv_at hl 3 rfl) ?_
            refine lv_iload hx hb dB_36_1_60.2.2.2.2 (lv_at hl 0 rfl) ?_
            refine lv_ior hx hb dB_36_1_61.1.1.1 ?_
            refine lv_topi (fun y_9 ey_9 => ?_)
            refine lv_iload_n hx hb dB_36_1_61.1.1.2 rfl (lv_at hl 4 rfl) ?_
            refine lv_aload_n hx hb dB_36_1_61.1.2.1 rfl (lv_at hl 1 rfl) ?_
            refine lv_iload_n hx hb dB_36_1_61.1.2.2 rfl (lv_at hl 2 rfl) ?_
            refine lv_iload_n hx hb dB_36_1_61.2.1.1 rfl (lv_at hl 3 rfl) ?_
            refine ct_R hP hD [ob7_0_ xh xc u1 u2 u3 u4 o5_5 o6_5 u7 u8, ob0_0_ xc xn xk clo cro c4 c5 c6 c7 c8, ob3_0_ xn vp vn n1 n2 n3 n4 n5, aq_ cy 6 clo 12 (gf_ rl), ai_ cy (rl 0) 12 (Ml 0), ai_ cy (rl 1) 12 (Ml 1), ai_ cy (rl 2) 12 (Ml 2), ai_ cy (rl 3) 12 (Ml 3), ai_ cy (rl 4) 12 (Ml 4), ai_ cy (rl 5) 12 (Ml 5), ai_ cy (rl 6) 12 (Ml 6), ai_ cy (rl 7) 12 (Ml 7), ai_ cy (rl 8) 12 (Ml 8), ai_ cy (rl 9) 12 (Ml 9), ai_ cy (rl 10) 12 (Ml 10), ai_ cy (rl 11) 12 (Ml 11)] [0, 1, 2, 3, 4, 5, 6, 7, 8, 9, 10, 11, 12, 13, 14, 15] (by decide +kernel) rfl (fun hPc hDw => ?_)
            have hFc := va_free (wc := []) hD hS hA [] rfl
            refine va_calli (va_runV (As := [.int a1, .int a2]) (rest := [.int a3, .int y_9, .int y_8, .ref xh]) ⟨hx, hb, hml, hown, hts⟩ (c_X7_letOut l D cy H.size xh u1 u2 u3 u4 o5_5 o6_5 u7 u8 xc xk clo cro c4 c5 c6 c7 c8 xn n1 n2 n3 n4 n5 vp vn rl Ml a1 a2 (by first | with_reducible assumption | omega | assumption) (by first | with_reducible assumption | omega | assumption)) (cwV 2 hts gX7_chooseForCut_X7_letOut rfl rfl rfl ⟨rfl, hd_X7_letOut⟩ ⟨Nat.le_of_ble_eq_true rfl, Nat.le_of_ble_eq_true rfl⟩) ⟨bl_g, va_recvX hK.1 hP (ci := 7) (q0 := 0) rfl rfl, fun U hU hW => ⟨rfl, by rw [hU], by rw [hU]; exact hPc, ⟨kk_mv hW hK, arrOfT_moved hW.alike hG⟩, hDw⟩⟩ rfl rfl hl.1 rfl (lv_room (Nat.le_of_ble_eq_true rfl)) dB_36_1_61.2.1.2 ⟨Nat.le_of_ble_eq_true rfl, Nat.le_of_ble_eq_true rfl⟩) hS (fun q _ h => hFc q h) hFc (fun r_10 u t H locs ht hvm hw hB hz1 hk1 hS => ?_)
            have hP : va_P D vwCl _ H := ro_keep hP hk1
            refine lv_iadd hx hb dB_36_1_61.2.2.1 ?_
            refine lv_topi (fun y_11 ey_11 => ?_)
            refine ct_S hP hD hS hA [ob7_0_ xh xc u1 u2 u3 u4 o5_5 o6_5 u7 u8, ob0_0_ xc xn xk clo cro c4 c5 c6 c7 c8, ob3_0_ xn vp vn n1 n2 n3 n4 n5, aq_ cy 6 clo 12 (gf_ rl), ai_ cy (rl 0) 12 (Ml 0), ai_ cy (rl 1) 12 (Ml 1), ai_ cy (rl 2) 12 (Ml 2), ai_ cy (rl 3) 12 (Ml 3), ai_ cy (rl 4) 12 (Ml 4), ai_ cy (rl 5) 12 (Ml 5), ai_ cy (rl 6) 12 (Ml 6), ai_ cy (rl 7) 12 (Ml 7), ai_ cy (rl 8) 12 (Ml 8), ai_ cy (rl 9) 12 (Ml 9), ai_ cy (rl 10) 12 (Ml 10), ai_ cy (rl 11) 12 (Ml 11)] [0, 1, 2, 3, 4, 5, 6, 7, 8, 9, 10, 11, 12, 13, 14, 15] (by decide +kernel) rfl (fun hPc hDw hFc hC_ => ?_)
            refine va_callv (va_runV (As := [.int y_8, .int y_9, .int y_11]) (rest := []) ⟨hx, hb, hml, hown, hts⟩ (c_X7_chooseForCut_7 l D cy H.size xh u1 u2 u3 u4 o5_5 o6_5 u7 u8 xc xk clo cro c4 c5 c6 c7 c8 xn n1 n2 n3 n4 n5 vp vn rl Ml y_8 y_9 y_11 (by first | with_reducible assumption | omega | assumption) (by first | with_reducible assumption | omega | assumption)) (cwV 3 hts gX7_chooseForCut_X7_chooseForCut rfl rfl rfl ⟨rfl, hd_X7_chooseForCut⟩ ⟨Nat.le_of_ble_eq_true rfl, Nat.le_of_ble_eq_true rfl⟩) ⟨bl_g, va_recvX hK.1 hP (ci := 7) (q0 := 0) rfl rfl, fun U hU hW => ⟨rfl, by rw [hU], by rw [hU]; exact hPc, ⟨kk_mv hW hK, arrOfT_moved hW.alike hG⟩, hDw⟩⟩ rfl rfl hl.1 rfl (lv_room (Nat.le_of_ble_eq_true rfl)) dB_36_1_61.2.2.2.1 ⟨Nat.le_of_ble_eq_true rfl, Nat.le_of_ble_eq_true rfl⟩) hS (fun q _ h => hFc q h) hFc (fun u t H locs ht hvm hw hB hz1 hk1 hS => ?_)
            obtain ⟨v5_13, v6_14, hP1, hD1⟩ := hB
            rw [ht] at hP1
            obtain ⟨hP, hD⟩ := va_join (wr := []) (w1 := [ob7_0_ xh xc u1 u2 u3 u4 v5_13 v6_14 u7 u8, ob0_0_ xc xn xk clo cro c4 c5 c6 c7 c8, ob3_0_ xn vp vn n1 n2 n3 n4 n5, aq_ cy 6 clo 12 (gf_ rl), ai_ cy (rl 0) 12 (Ml 0), ai_ cy (rl 1) 12 (Ml 1), ai_ cy (rl 2) 12 (Ml 2), ai_ cy (rl 3) 12 (Ml 3), ai_ cy (rl 4) 12 (Ml 4), ai_ cy (rl 5) 12 (Ml 5), ai_ cy (rl 6) 12 (Ml 6), ai_ cy (rl 7) 12 (Ml 7), ai_ cy (rl 8) 12 (Ml 8), ai_ cy (rl 9) 12 (Ml 9), ai_ cy (rl 10) 12 (Ml 10), ai_ cy (rl 11) 12 (Ml 11)]) hP hD [0, 1, 2, 3, 4, 5, 6, 7, 8, 9, 10, 11, 12, 13, 14, 15] [] hC_ rfl (by decide) (by decide) hk1 hFc hP1 hD1
            refine pd_K [ob7_0_ xh xc u1 u2 u3 u4 v5_13 v6_14 u7 u8, ob0_0_ xc xn xk clo cro c4 c5 c6 c7 c8, ob3_0_ xn vp vn n1 n2 n3 n4 n5, aq_ cy 6 clo 12 (gf_ rl), ai_ cy (rl 0) 12 (Ml 0), ai_ cy (rl 1) 12 (Ml 1), ai_ cy (rl 2) 12 (Ml 2), ai_ cy (rl 3) 12 (Ml 3), ai_ cy (rl 4) 12 (Ml 4), ai_ cy (rl 5) 12 (Ml 5), ai_ cy (rl 6) 12 (Ml 6), ai_ cy (rl 7) 12 (Ml 7), ai_ cy (rl 8) 12 (Ml 8), ai_ cy (rl 9) 12 (Ml 9), ai_ cy (rl 10) 12 (Ml 10), ai_ cy (rl 11) 12 (Ml 11)] hP hD (fun hP hD => ?_)
            rw [hQ]
            exact W.vret hx hb hr (fun t ht hW => ⟨⟨(), rfl, trivial, v5_13, v6_14, by rw [ht]; exact hP, hD⟩, hS.F ht⟩) hS.2.2 dB_36_1_61.2.2.2.2
        refine lv_aload_n hx hb dB_36_1_59.1.2.1.1 rfl (lv_at hl 1 rfl) ?_
        refine va_get (ci := 7) (v := .int u1) (C := RX7) (T := TX7) (N := 9) hx hb hts (fun _ h => List.mem_cons_of_mem _ (List.mem_append_left _ (List.mem_append_left _ (List.mem_append_right _ h)))) hown hK.1 hP 0 rfl rfl 1 (by decide) (hts (.fieldLink RX7 27 "CutAtlas$SetHunt" "must" "I") (List.mem_of_getElem? (i := 3) rfl)) (fun _ h9 => h9) rfl dB_36_1_59.1.2.1.2 ?_
        refine lv_iload hx hb dB_36_1_59.1.2.2.1 (lv_at hl 0 rfl) ?_
        refine lv_iand hx hb dB_36_1_59.1.2.2.2 ?_
        refine lv_topi (fun y_15 ey_15 => ?_)
        refine lv_if_ne (tgt := 60) hx hb dB_36_1_59.2.1.1.1 (by decide) (fun c_16 => ?_) (fun c_16 => ?_)
        · have t_16 : ¬ y_15.toInt = (0 : Int32).toInt := fun h => c_16 (Int32.toInt_inj.mp h)
          exact JOIN_5 u5 u6 _ _ _ ⟨hP, hD⟩ hS (lv_sub hl [0, 1, 2, 3, 4] rfl)
        · have t_16 : y_15.toInt = (0 : Int32).toInt := congrArg Int32.toInt c_16
          refine lv_aload_n hx hb dB_36_1_59.2.1.1.2 rfl (lv_at hl 1 rfl) ?_
          refine lv_iload_n hx hb dB_36_1_59.2.1.2.1 rfl (lv_at hl 2 rfl) ?_
          refine lv_iconst (v := 1) hx hb dB_36_1_59.2.1.2.2 (by decide) ?_
          refine lv_isub hx hb dB_36_1_59.2.2.1.1 ?_
          refine lv_topi (fun y_17 ey_17 => ?_)
          have ty_17 : y_17.toInt = a1.toInt - (1 : Int32).toInt := by rw [ey_17]; exact subI (by omega) (by omega)
          refine lv_iload_n hx hb dB_36_1_59.2.2.1.2 rfl (lv_at hl 3 rfl) ?_
          refine lv_iload_n hx hb dB_36_1_59.2.2.2.1 rfl (lv_at hl 4 rfl) ?_
          refine lv_aload_n hx hb dB_36_1_59.2.2.2.2 rfl (lv_at hl 1 rfl) ?_
          refine lv_iload_n hx hb dB_36_1_60.1.1.1.1 rfl (lv_at hl 2 rfl) ?_
          refine lv_iload_n hx hb dB_36_1_60.1.1.1.2 rfl (lv_at hl 3 rfl) ?_
          refine ct_R hP hD [ob7_0_ xh xc u1 u2 u3 u4 u5 u6 u7 u8, ob0_0_ xc xn xk clo cro c4 c5 c6 c7 c8, ob3_0_ xn vp vn n1 n2 n3 n4 n5, aq_ cy 6 clo 12 (gf_ rl), ai_ cy (rl 0) 12 (Ml 0), ai_ cy (rl 1) 12 (Ml 1), ai_ cy (rl 2) 12 (Ml 2), ai_ cy (rl 3) 12 (Ml 3), ai_ cy (rl 4) 12 (Ml 4), ai_ cy (rl 5) 12 (Ml 5), ai_ cy (rl 6) 12 (Ml 6), ai_ cy (rl 7) 12 (Ml 7), ai_ cy (rl 8) 12 (Ml 8), ai_ cy (rl 9) 12 (Ml 9), ai_ cy (rl 10) 12 (Ml 10), ai_ cy (rl 11) 12 (Ml 11)] [0, 1, 2, 3, 4, 5, 6, 7, 8, 9, 10, 11, 12, 13, 14, 15] (by decide +kernel) rfl (fun hPc hDw => ?_)
          have hFc := va_free (wc := []) hD hS hA [] rfl
          refine va_calli (va_runV (As := [.int a1, .int a2]) (rest := [.int a3, .int a2, .int y_17, .ref xh]) ⟨hx, hb, hml, hown, hts⟩ (c_X7_letIn l D cy s.heap.size xh u1 u2 u3 u4 u5 u6 u7 u8 xc xk clo cro c4 c5 c6 c7 c8 xn n1 n2 n3 n4 n5 vp vn rl Ml a1 a2 (by first | with_reducible assumption | omega | assumption) (by first | with_reducible assumption | omega | assumption)) (cwV 2 hts gX7_chooseForCut_X7_letIn rfl rfl rfl ⟨rfl, hd_X7_letIn⟩ ⟨Nat.le_of_ble_eq_true rfl, Nat.le_of_ble_eq_true rfl⟩) ⟨bl_g, va_recvX hK.1 hP (ci := 7) (q0 := 0) rfl rfl, fun U hU hW => ⟨rfl, by rw [hU], by rw [hU]; exact hPc, ⟨kk_mv hW hK, arrOfT_moved hW.alike hG⟩, hDw⟩⟩ rfl rfl hl.1 rfl (lv_room (Nat.le_of_ble_eq_true rfl)) dB_36_1_60.1.1.2.1 ⟨Nat.le_of_ble_eq_true rfl, Nat.le_of_ble_eq_true rfl⟩) hS (fun q _ h => hFc q h) hFc (fun r_18 u t H locs ht hvm hw hB hz1 hk1 hS => ?_)
          have hP : va_P D vwCl _ H := ro_keep hP hk1
          refine lv_iadd hx hb dB_36_1_60.1.1.2.2 ?_
          refine lv_topi (fun y_19 ey_19 => ?_)
          refine ct_S hP hD hS hA [ob7_0_ xh xc u1 u2 u3 u4 u5 u6 u7 u8, ob0_0_ xc xn xk clo cro c4 c5 c6 c7 c8, ob3_0_ xn vp vn n1 n2 n3 n4 n5, aq_ cy 6 clo 12 (gf_ rl), ai_ cy (rl 0) 12 (Ml 0), ai_ cy (rl 1) 12 (Ml 1), ai_ cy (rl 2) 12 (Ml 2), ai_ cy (rl 3) 12 (Ml 3), ai_ cy (rl 4) 12 (Ml 4), ai_ cy (rl 5) 12 (Ml 5), ai_ cy (rl 6) 12 (Ml 6), ai_ cy (rl 7) 12 (Ml 7), ai_ cy (rl 8) 12 (Ml 8), ai_ cy (rl 9) 12 (Ml 9), ai_ cy (rl 10) 12 (Ml 10), ai_ cy (rl 11) 12 (Ml 11)] [0, 1, 2, 3, 4, 5, 6, 7, 8, 9, 10, 11, 12, 13, 14, 15] (by decide +kernel) rfl (fun hPc hDw hFc hC_ => ?_)
          refine va_callv (va_runV (As := [.int y_17, .int a2, .int y_19]) (rest := []) ⟨hx, hb, hml, hown, hts⟩ (c_X7_chooseForCut_7 l D cy H.size xh u1 u2 u3 u4 u5 u6 u7 u8 xc xk clo cro c4 c5 c6 c7 c8 xn n1 n2 n3 n4 n5 vp vn rl Ml y_17 a2 y_19 (by first | with_reducible assumption | omega | assumption) (by first | with_reducible assumption | omega | assumption)) (cwV 3 hts gX7_chooseForCut_X7_chooseForCut rfl rfl rfl ⟨rfl, hd_X7_chooseForCut⟩ ⟨Nat.le_of_ble_eq_true rfl, Nat.le_of_ble_eq_true rfl⟩) ⟨bl_g, va_recvX hK.1 hP (ci := 7) (q0 := 0) rfl rfl, fun U hU hW => ⟨rfl, by rw [hU], by rw [hU]; exact hPc, ⟨kk_mv hW hK, arrOfT_moved hW.alike hG⟩, hDw⟩⟩ rfl rfl hl.1 rfl (lv_room (Nat.le_of_ble_eq_true rfl)) dB_36_1_60.1.2.1.1 ⟨Nat.le_of_ble_eq_true rfl, Nat.le_of_ble_eq_true rfl⟩) hS (fun q _ h => hFc q h) hFc (fun u t H locs ht hvm hw hB hz1 hk1 hS => ?_)
          obtain ⟨v5_21, v6_22, hP1, hD1⟩ := hB
          rw [ht] at hP1
          obtain ⟨hP, hD⟩ := va_join (wr := []) (w1 := [ob7_0_ xh xc u1 u2 u3 u4 v5_21 v6_22 u7 u8, ob0_0_ xc xn xk clo cro c4 c5 c6 c7 c8, ob3_0_ xn vp vn n1 n2 n3 n4 n5, aq_ cy 6 clo 12 (gf_ rl), ai_ cy (rl 0) 12 (Ml 0), ai_ cy (rl 1) 12 (Ml 1), ai_ cy (rl 2) 12 (Ml 2), ai_ cy (rl 3) 12 (Ml 3), ai_ cy (rl 4) 12 (Ml 4), ai_ cy (rl 5) 12 (Ml 5), ai_ cy (rl 6) 12 (Ml 6), ai_ cy (rl 7) 12 (Ml 7), ai_ cy (rl 8) 12 (Ml 8), ai_ cy (rl 9) 12 (Ml 9), ai_ cy (rl 10) 12 (Ml 10), ai_ cy (rl 11) 12 (Ml 11)]) hP hD [0, 1, 2, 3, 4, 5, 6, 7, 8, 9, 10, 11, 12, 13, 14, 15] [] hC_ rfl (by decide) (by decide) hk1 hFc hP1 hD1
          refine pd_K [ob7_0_ xh xc u1 u2 u3 u4 v5_21 v6_22 u7 u8, ob0_0_ xc xn xk clo cro c4 c5 c6 c7 c8, ob3_0_ xn vp vn n1 n2 n3 n4 n5, aq_ cy 6 clo 12 (gf_ rl), ai_ cy (rl 0) 12 (Ml 0), ai_ cy (rl 1) 12 (Ml 1), ai_ cy (rl 2) 12 (Ml 2), ai_ cy (rl 3) 12 (Ml 3), ai_ cy (rl 4) 12 (Ml 4), ai_ cy (rl 5) 12 (Ml 5), ai_ cy (rl 6) 12 (Ml 6), ai_ cy (rl 7) 12 (Ml 7), ai_ cy (rl 8) 12 (Ml 8), ai_ cy (rl 9) 12 (Ml 9), ai_ cy (rl 10) 12 (Ml 10), ai_ cy (rl 11) 12 (Ml 11)] hP hD (fun hP hD => ?_)
          exact JOIN_5 v5_21 v6_22 _ _ _ ⟨hP, hD⟩ hS (lv_sub hl [0, 1, 2, 3, 4] rfl)
      · have t_3 : ¬ (0 : Int32).toInt ≤ a1.toInt := fun h => c_3 (Int32.le_iff_toInt_le.mpr h)
        refine lv_aload_n hx hb dB_36_1_58.2.1.2.2 rfl (lv_at hl 0 rfl) ?_
        refine lv_iload_n hx hb dB_36_1_58.2.2.1.1 rfl (lv_at hl 2 rfl) ?_
        refine lv_iload_n hx hb dB_36_1_58.2.2.1.2 rfl (lv_at hl 3 rfl) ?_
        refine ct_S hP hD hS hA [ob7_0_ xh xc u1 u2 u3 u4 u5 u6 u7 u8] [0] (by decide) rfl (fun hPc hDw hFc hC_ => ?_)
        refine va_callv (va_runV (As := [.int a2, .int a3]) (rest := []) ⟨hx, hb, hml, hown, hts⟩ (c_X7_meet l D cy s.heap.size xh u1 u2 u3 u4 u5 u6 u7 u8 xc a2 a3) (cwV 2 hts gX7_chooseForCut_X7_meet rfl rfl rfl ⟨rfl, hd_X7_meet⟩ ⟨Nat.le_of_ble_eq_true rfl, Nat.le_of_ble_eq_true rfl⟩) ⟨bl_, va_recvX hK.1 hP (ci := 7) (q0 := 0) rfl rfl, fun U hU hW => ⟨rfl, by rw [hU], by rw [hU]; exact hPc, kk_mv hW hK, hDw⟩⟩ rfl rfl hl.1 rfl (lv_room (Nat.le_of_ble_eq_true rfl)) dB_36_1_58.2.2.2.1 ⟨Nat.le_of_ble_eq_true rfl, Nat.le_of_ble_eq_true rfl⟩) hS (fun q _ h => hFc q h) hFc (fun u t H locs ht hvm hw hB hz1 hk1 hS => ?_)
        obtain ⟨v5_24, v6_25, hP1, hD1⟩ := hB
        rw [ht] at hP1
        obtain ⟨hP, hD⟩ := va_join (wr := [ob0_0_ xc xn xk clo cro c4 c5 c6 c7 c8, ob3_0_ xn vp vn n1 n2 n3 n4 n5, aq_ cy 6 clo 12 (gf_ rl), ai_ cy (rl 0) 12 (Ml 0), ai_ cy (rl 1) 12 (Ml 1), ai_ cy (rl 2) 12 (Ml 2), ai_ cy (rl 3) 12 (Ml 3), ai_ cy (rl 4) 12 (Ml 4), ai_ cy (rl 5) 12 (Ml 5), ai_ cy (rl 6) 12 (Ml 6), ai_ cy (rl 7) 12 (Ml 7), ai_ cy (rl 8) 12 (Ml 8), ai_ cy (rl 9) 12 (Ml 9), ai_ cy (rl 10) 12 (Ml 10), ai_ cy (rl 11) 12 (Ml 11)]) (w1 := [ob7_0_ xh xc u1 u2 u3 u4 v5_24 v6_25 u7 u8]) hP hD [0] [1, 2, 3, 4, 5, 6, 7, 8, 9, 10, 11, 12, 13, 14, 15] hC_ rfl (by decide +kernel) (by decide +kernel) hk1 hFc hP1 hD1
        refine pd_S hP hD [ob7_0_ xh xc u1 u2 u3 u4 v5_24 v6_25 u7 u8, ob0_0_ xc xn xk clo cro c4 c5 c6 c7 c8, ob3_0_ xn vp vn n1 n2 n3 n4 n5, aq_ cy 6 clo 12 (gf_ rl), ai_ cy (rl 0) 12 (Ml 0), ai_ cy (rl 1) 12 (Ml 1), ai_ cy (rl 2) 12 (Ml 2), ai_ cy (rl 3) 12 (Ml 3), ai_ cy (rl 4) 12 (Ml 4), ai_ cy (rl 5) 12 (Ml 5), ai_ cy (rl 6) 12 (Ml 6), ai_ cy (rl 7) 12 (Ml 7), ai_ cy (rl 8) 12 (Ml 8), ai_ cy (rl 9) 12 (Ml 9), ai_ cy (rl 10) 12 (Ml 10), ai_ cy (rl 11) 12 (Ml 11)] [15, 0, 1, 2, 3, 4, 5, 6, 7, 8, 9, 10, 11, 12, 13, 14] (by decide +kernel) rfl (fun hP hD => ?_)
        rw [hQ]
        exact W.vret hx hb hr (fun t ht hW => ⟨⟨(), rfl, trivial, v5_24, v6_25, by rw [ht]; exact hP, hD⟩, hS.F ht⟩) hS.2.2 dB_36_1_58.2.2.2.2
    · have t_2 : ¬ u6.toInt = ((-9) : Int32).toInt := fun h => c_2 (Int32.toInt_inj.mp h)
      rw [hQ]
      exact W.vret hx hb hr (fun t ht hW => ⟨⟨(), rfl, trivial, u5, u6, by rw [ht]; exact hP, hD⟩, hS.F ht⟩) hS.2.2 dB_36_1_58.2.1.1.1

set_option maxHeartbeats 4000000 in
set_option maxRecDepth 100000 in
theorem c_X7_chooseForCut_9 (l : Launch) (D : va_G) (cy : Nat → ClassId) (sz : Nat) (xh : Nat) (u1 : Int32) (u2 : Int32) (u3 : Int32) (u4 : Int32) (u5 : Int32) (u6 : Int32) (u7 : Int32) (u8 : Int32) (xc : Nat) (xk : Nat) (clo : Nat) (cro : Nat) (c4 : Nat) (c5 : Nat) (c6 : Nat) (c7 : Nat) (c8 : Nat) (xn : Nat) (n1 : Nat) (n2 : Nat) (n3 : Nat) (n4 : Nat) (n5 : Nat) (vp : Int32) (vn : Int32) (rl : Nat → Nat) (Ml : Nat → Nat → Int32) (a1 : Int32) (a2 : Int32) (a3 : Int32) (hvp : 0 ≤ vp.toInt ∧ vp.toInt ≤ 12) (q1 : -1 ≤ a1.toInt ∧ a1.toInt < 9) : Met l yX7_chooseForCut wsX7_chooseForCut ({ frames := 10, cells := 0, slots := 0, locals := 238 }) (va_Pc [.ref xh, .int a1, .int a2, .int a3] (fun U => U.heap.size = sz ∧ va_P D vwCl [ob7_0_ xh xc u1 u2 u3 u4 u5 u6 u7 u8, ob0_0_ xc xn xk clo cro c4 c5 c6 c7 c8, ob3_0_ xn vp vn n1 n2 n3 n4 n5, aq_ cy 6 clo 12 (gf_ rl), ai_ cy (rl 0) 12 (Ml 0), ai_ cy (rl 1) 12 (Ml 1), ai_ cy (rl 2) 12 (Ml 2), ai_ cy (rl 3) 12 (Ml 3), ai_ cy (rl 4) 12 (Ml 4), ai_ cy (rl 5) 12 (Ml 5), ai_ cy (rl 6) 12 (Ml 6), ai_ cy (rl 7) 12 (Ml 7), ai_ cy (rl 8) 12 (Ml 8), ai_ cy (rl 9) 12 (Ml 9), ai_ cy (rl 10) 12 (Ml 10), ai_ cy (rl 11) 12 (Ml 11)] U.heap ∧ kg_ D cy U ∧ va_D (fun _ => True) [ob7_0_ xh xc u1 u2 u3 u4 u5 u6 u7 u8, ob0_0_ xc xn xk clo cro c4 c5 c6 c7 c8, ob3_0_ xn vp vn n1 n2 n3 n4 n5, aq_ cy 6 clo 12 (gf_ rl), ai_ cy (rl 0) 12 (Ml 0), ai_ cy (rl 1) 12 (Ml 1), ai_ cy (rl 2) 12 (Ml 2), ai_ cy (rl 3) 12 (Ml 3), ai_ cy (rl 4) 12 (Ml 4), ai_ cy (rl 5) 12 (Ml 5), ai_ cy (rl 6) 12 (Ml 6), ai_ cy (rl 7) 12 (Ml 7), ai_ cy (rl 8) 12 (Ml 8), ai_ cy (rl 9) 12 (Ml 9), ai_ cy (rl 10) 12 (Ml 10), ai_ cy (rl 11) 12 (Ml 11)])) (va_Qv (fun (_ : Unit) => True) (fun (_ : Unit) (t : State) => ∃ (v5 : Int32), ∃ (v6 : Int32), va_P D vwCl [ob7_0_ xh xc u1 u2 u3 u4 v5 v6 u7 u8, ob0_0_ xc xn xk clo cro c4 c5 c6 c7 c8, ob3_0_ xn vp vn n1 n2 n3 n4 n5, aq_ cy 6 clo 12 (gf_ rl), ai_ cy (rl 0) 12 (Ml 0), ai_ cy (rl 1) 12 (Ml 1), ai_ cy (rl 2) 12 (Ml 2), ai_ cy (rl 3) 12 (Ml 3), ai_ cy (rl 4) 12 (Ml 4), ai_ cy (rl 5) 12 (Ml 5), ai_ cy (rl 6) 12 (Ml 6), ai_ cy (rl 7) 12 (Ml 7), ai_ cy (rl 8) 12 (Ml 8), ai_ cy (rl 9) 12 (Ml 9), ai_ cy (rl 10) 12 (Ml 10), ai_ cy (rl 11) 12 (Ml 11)] t.heap ∧ va_D (va_A [ob7_0_ xh xc u1 u2 u3 u4 u5 u6 u7 u8, ob0_0_ xc xn xk clo cro c4 c5 c6 c7 c8, ob3_0_ xn vp vn n1 n2 n3 n4 n5, aq_ cy 6 clo 12 (gf_ rl), ai_ cy (rl 0) 12 (Ml 0), ai_ cy (rl 1) 12 (Ml 1), ai_ cy (rl 2) 12 (Ml 2), ai_ cy (rl 3) 12 (Ml 3), ai_ cy (rl 4) 12 (Ml 4), ai_ cy (rl 5) 12 (Ml 5), ai_ cy (rl 6) 12 (Ml 6), ai_ cy (rl 7) 12 (Ml 7), ai_ cy (rl 8) 12 (Ml 8), ai_ cy (rl 9) 12 (Ml 9), ai_ cy (rl 10) 12 (Ml 10), ai_ cy (rl 11) 12 (Ml 11)] sz) [ob7_0_ xh xc u1 u2 u3 u4 v5 v6 u7 u8, ob0_0_ xc xn xk clo cro c4 c5 c6 c7 c8, ob3_0_ xn vp vn n1 n2 n3 n4 n5, aq_ cy 6 clo 12 (gf_ rl), ai_ cy (rl 0) 12 (Ml 0), ai_ cy (rl 1) 12 (Ml 1), ai_ cy (rl 2) 12 (Ml 2), ai_ cy (rl 3) 12 (Ml 3), ai_ cy (rl 4) 12 (Ml 4), ai_ cy (rl 5) 12 (Ml 5), ai_ cy (rl 6) 12 (Ml 6), ai_ cy (rl 7) 12 (Ml 7), ai_ cy (rl 8) 12 (Ml 8), ai_ cy (rl 9) 12 (Ml 9), ai_ cy (rl 10) 12 (Ml 10), ai_ cy (rl 11) 12 (Ml 11)]) (va_A [ob7_0_ xh xc u1 u2 u3 u4 u5 u6 u7 u8, ob0_0_ xc xn xk clo cro c4 c5 c6 c7 c8, ob3_0_ xn vp vn n1 n2 n3 n4 n5, aq_ cy 6 clo 12 (gf_ rl), ai_ cy (rl 0) 12 (Ml 0), ai_ cy (rl 1) 12 (Ml 1), ai_ cy (rl 2) 12 (Ml 2), ai_ cy (rl 3) 12 (Ml 3), ai_ cy (rl 4) 12 (Ml 4), ai_ cy (rl 5) 12 (Ml 5), ai_ cy (rl 6) 12 (Ml 6), ai_ cy (rl 7) 12 (Ml 7), ai_ cy (rl 8) 12 (Ml 8), ai_ cy (rl 9) 12 (Ml 9), ai_ cy (rl 10) 12 (Ml 10), ai_ cy (rl 11) 12 (Ml 11)] sz)) 0 0 (va_A [ob7_0_ xh xc u1 u2 u3 u4 u5 u6 u7 u8, ob0_0_ xc xn xk clo cro c4 c5 c6 c7 c8, ob3_0_ xn vp vn n1 n2 n3 n4 n5, aq_ cy 6 clo 12 (gf_ rl), ai_ cy (rl 0) 12 (Ml 0), ai_ cy (rl 1) 12 (Ml 1), ai_ cy (rl 2) 12 (Ml 2), ai_ cy (rl 3) 12 (Ml 3), ai_ cy (rl 4) 12 (Ml 4), ai_ cy (rl 5) 12 (Ml 5), ai_ cy (rl 6) 12 (Ml 6), ai_ cy (rl 7) 12 (Ml 7), ai_ cy (rl 8) 12 (Ml 8), ai_ cy (rl 9) 12 (Ml 9), ai_ cy (rl 10) 12 (Ml 10), ai_ cy (rl 11) 12 (Ml 11)] sz) := by
  refine ofQ (cc := cX7_chooseForCut) (maxL := 5) (ret := none) (by decide) rfl ?_
  intro p e s m args below meth c s₁ Q hQ B hml hv
  obtain ⟨rfl, hsz, hP, hK, hD0⟩ := hv
  have hG := hK.2
  have hK := hK.1
  have hx := B.exec
  have hb := B.bytes
  have hr := B.returns
  have hts := atoms_spec (ws := wsX7_chooseForCut) B.pre
  have hown : s.vm.findClass RX7 = some m.cls := by have h_ := findClass_of_methodNamed B.named; exact h_
  have hlocks := B.notSynchronized
  subst hsz
  have hD := hD0.self (sz := s.heap.size)
  generalize hAe : va_A [ob7_0_ xh xc u1 u2 u3 u4 u5 u6 u7 u8, ob0_0_ xc xn xk clo cro c4 c5 c6 c7 c8, ob3_0_ xn vp vn n1 n2 n3 n4 n5, aq_ cy 6 clo 12 (gf_ rl), ai_ cy (rl 0) 12 (Ml 0), ai_ cy (rl 1) 12 (Ml 1), ai_ cy (rl 2) 12 (Ml 2), ai_ cy (rl 3) 12 (Ml 3), ai_ cy (rl 4) 12 (Ml 4), ai_ cy (rl 5) 12 (Ml 5), ai_ cy (rl 6) 12 (Ml 6), ai_ cy (rl 7) 12 (Ml 7), ai_ cy (rl 8) 12 (Ml 8), ai_ cy (rl 9) 12 (Ml 9), ai_ cy (rl 10) 12 (Ml 10), ai_ cy (rl 11) 12 (Ml 11)] s.heap.size = A at hD hQ
  have hA : ∀ q : Nat, s.heap.size ≤ q → A q := fun q h => by rw [← hAe]; exact Or.inr h
  have hS : va_S A s.heap s.heap [] := va_S.rf
  have hl := lv_entry ([.ref xh, .int a1, .int a2, .int a3]) (n := 5) (Nat.le_of_ble_eq_true rfl)
  rw [lg_entry_eq]
  generalize (lg_sl ([.ref xh, .int a1, .int a2, .int a3]) ++ List.replicate (5 - (lg_sl ([.ref xh, .int a1, .int a2, .int a3])).length) Slot.unset).toArray = ls at hl ⊢
  have hl : lv_has ls 5 [(0, .ref xh), (1, .int a1), (2, .int a2), (3, .int a3)] := hl
  have zm9 : ((-9) : Int32).toInt = -9 := by decide
  have z0 : (0 : Int32).toInt = 0 := by decide
  have z1 : (1 : Int32).toInt = 1 := by decide
  refine lv_iload_n hx hb dB_36_1_58.1.1.1.1 rfl (lv_at hl 3 rfl) ?_
  refine lv_aload_n hx hb dB_36_1_58.1.1.1.2 rfl (lv_at hl 0 rfl) ?_
  refine va_get (ci := 7) (v := .int u3) (C := RX7) (T := TX7) (N := 9) hx hb hts (fun _ h => List.mem_cons_of_mem _ (List.mem_append_left _ (List.mem_append_left _ (List.mem_append_right _ h)))) hown hK.1 hP 0 rfl rfl 3 (by decide) (hts (.fieldLink RX7 33 "CutAtlas$SetHunt" "aim" "I") (List.mem_of_getElem? (i := 1) rfl)) (fun _ h9 => h9) rfl dB_36_1_58.1.1.2.1 ?_
  refine lv_icmp_gt (tgt := 17) hx hb dB_36_1_58.1.1.2.2 (by decide) (fun c_1 => ?_) (fun c_1 => ?_)
  · have t_1 : u3.toInt < a3.toInt := Int32.lt_iff_toInt_lt.mp c_1
    rw [hQ]
    exact W.vret hx hb hr (fun t ht hW => ⟨⟨(), rfl, trivial, u5, u6, by rw [ht]; exact hP, hD⟩, hS.F ht⟩) hS.2.2 dB_36_1_58.2.1.1.1
  · have t_1 : ¬ u3.toInt < a3.toInt := fun h => c_1 (Int32.lt_iff_toInt_lt.mpr h)
    refine lv_aload_n hx hb dB_36_1_58.1.2.1.1 rfl (lv_at hl 0 rfl) ?_
    refine va_get (ci := 7) (v := .int u6) (C := RX7) (T := TX7) (N := 9) hx hb hts (fun _ h => List.mem_cons_of_mem _ (List.mem_append_left _ (List.mem_append_left _ (List.mem_append_right _ h)))) hown hK.1 hP 0 rfl rfl 6 (by decide) (hts (.fieldLink RX7 24 "CutAtlas$SetHunt" "found" "I") (List.mem_of_getElem? (i := 2) rfl)) (fun _ h9 => h9) rfl dB_36_1_58.1.2.1.2 ?_
    refine lv_bipush (v := (-9)) hx hb dB_36_1_58.1.2.2.1 (by decide) ?_
    refine lv_icmp_eq (tgt := 18) hx hb dB_36_1_58.1.2.2.2 (by decide) (fun c_2 => ?_) (fun c_2 => ?_)
    · have t_2 : u6.toInt = ((-9) : Int32).toInt := congrArg Int32.toInt c_2
      refine lv_iload_n hx hb dB_36_1_58.2.1.1.2 rfl (lv_at hl 1 rfl) ?_
      refine lv_if_ge (tgt := 29) hx hb dB_36_1_58.2.1.2.1 (by decide) (fun c_3 => ?_) (fun c_3 => ?_)
      · have t_3 : (0 : Int32).toInt ≤ a1.toInt := Int32.le_iff_toInt_le.mp c_3
        refine lv_iconst (v := 1) hx hb dB_36_1_59.1.1.1.1 (by decide) ?_
        refine lv_iload_n hx hb dB_36_1_59.1.1.1.2 rfl (lv_at hl 1 rfl) ?_
        refine lv_ishl hx hb dB_36_1_59.1.1.2.1 ?_
        refine lv_topi (fun y_4 ey_4 => ?_)
        refine lv_istore (lv' := [(4, .int y_4), (0, .ref xh), (1, .int a1), (2, .int a2), (3, .int a3)]) hx hb dB_36_1_59.1.1.2.2 hl (by decide) rfl (fun ls hl => ?_)
        have JOIN_5 : ∀ (o5_5 : Int32) (o6_5 : Int32) (H : Heap) (locs : List Loc) (ls : Array Slot), pd_2 D vwCl A [ob7_0_ xh xc u1 u2 u3 u4 o5_5 o6_5 u7 u8, ob0_0_ xc xn xk clo cro c4 c5 c6 c7 c8, ob3_0_ xn vp vn n1 n2 n3 n4 n5, aq_ cy 6 clo 12 (gf_ rl), ai_ cy (rl 0) 12 (Ml 0), ai_ cy (rl 1) 12 (Ml 1), ai_ cy (rl 2) 12 (Ml 2), ai_ cy (rl 3) 12 (Ml 3), ai_ cy (rl 4) 12 (Ml 4), ai_ cy (rl 5) 12 (Ml 5), ai_ cy (rl 6) 12 (Ml 6), ai_ cy (rl 7) 12 (Ml 7), ai_ cy (rl 8) 12 (Ml 8), ai_ cy (rl 9) 12 (Ml 9), ai_ cy (rl 10) 12 (Ml 10), ai_ cy (rl 11) 12 (Ml 11)] H → va_S A s.heap H locs → lv_has ls 5 [(4, .int y_4), (0, .ref xh), (1, .int a1), (2, .int a2), (3, .int a3)] → W p l e ({ frames := 10, cells := 0, slots := 0, locals := 238 } : Room) s m (([.ref xh, .int a1, .int a2, .int a3] : List Value).toArray) below meth c H locs 0 0 Q (F0 m 60 ls []) := by
          intro o5_5 o6_5 H locs ls hPD hS hl; obtain ⟨hP, hD⟩ := hPD
          refine lv_aload_n hx hb dB_36_1_60.1.2.1.2 rfl (lv_at hl 1 rfl) ?_
          refine va_get (ci := 7) (v := .int u2) (C := RX7) (T := TX7) (N := 9) hx hb hts (fun _ h => List.mem_cons_of_mem _ (List.mem_append_left _ (List.mem_append_left _ (List.mem_append_right _ h)))) hown hK.1 hP 0 rfl rfl 2 (by decide) (hts (.fieldLink RX7 30 "CutAtlas$SetHunt" "mustNot" "I") (List.mem_of_getElem? (i := 4) rfl)) (fun _ h9 => h9) rfl dB_36_1_60.1.2.2.1 ?_
          refine lv_iload hx hb dB_36_1_60.1.2.2.2 (lv_at hl 0 rfl) ?_
          refine lv_iand hx hb dB_36_1_60.2.1.1.1 ?_
          refine lv_topi (fun y_6 ey_6 => ?_)
          refine lv_if_ne (tgt := 89) hx hb dB_36_1_60.2.1.1.2 (by decide) (fun c_7 => ?_) (fun c_7 => ?_)
          · have t_7 : ¬ y_6.toInt = (0 : Int32).toInt := fun h => c_7 (Int32.toInt_inj.mp h)
            rw [hQ]
            exact W.vret hx hb hr (fun t ht hW => ⟨⟨(), rfl, trivial, o5_5, o6_5, by rw [ht]; exact hP, hD⟩, hS.F ht⟩) hS.2.2 dB_36_1_61.2.2.2.2
          · have t_7 : y_6.toInt = (0 : Int32).toInt := congrArg Int32.toInt c_7
            refine lv_aload_n hx hb dB_36_1_60.2.1.2.1 rfl (lv_at hl 1 rfl) ?_
            refine lv_iload_n hx hb dB_36_1_60.2.1.2.2 rfl (lv_at hl 2 rfl) ?_
            refine lv_iconst (v := 1) hx hb dB_36_1_60.2.2.1.1 (by decide) ?_
            refine lv_isub hx hb dB_36_1_60.2.2.1.2 ?_
            refine lv_topi (fun y_8 ey_8 => ?_)
            have ty_8 : y_8.toInt = a1.toInt - (1 : Int32).toInt := by rw [ey_8]; exact subI (by omega) (by omega)
            refine lv_iload_n hx hb dB_36_1_60.2.2.2.1 rfl (lv_at hl 3 rfl) ?_
            refine lv_iload hx hb dB_36_1_60.2.2.2.2 (lv_at hl 0 rfl) ?_
            refine lv_ior hx hb dB_36_1_61.1.1.1 ?_
            refine lv_topi (fun y_9 ey_9 => ?_)
            refine lv_iload_n hx hb dB_36_1_61.1.1.2 rfl (lv_at hl 4 rfl) ?_
            refine lv_aload_n hx hb dB_36_1_61.1.2.1 rfl (lv_at hl 1 rfl) ?_
            refine lv_iload_n hx hb dB_36_1_61.1.2.2 rfl (lv_at hl 2 rfl) ?_
            refine lv_iload_n hx hb dB_36_1_61.2.1.1 rfl (lv_at hl 3 rfl) ?_
            refine ct_R hP hD [ob7_0_ xh xc u1 u2 u3 u4 o5_5 o6_5 u7 u8, ob0_0_ xc xn xk clo cro c4 c5 c6 c7 c8, ob3_0_ xn vp vn n1 n2 n3 n4 n5, aq_ cy 6 clo 12 (gf_ rl), ai_ cy (rl 0) 12 (Ml 0), ai_ cy (rl 1) 12 (Ml 1), ai_ cy (rl 2) 12 (Ml 2), ai_ cy (rl 3) 12 (Ml 3), ai_ cy (rl 4) 12 (Ml 4), ai_ cy (rl 5) 12 (Ml 5), ai_ cy (rl 6) 12 (Ml 6), ai_ cy (rl 7) 12 (Ml 7), ai_ cy (rl 8) 12 (Ml 8), ai_ cy (rl 9) 12 (Ml 9), ai_ cy (rl 10) 12 (Ml 10), ai_ cy (rl 11) 12 (Ml 11)] [0, 1, 2, 3, 4, 5, 6, 7, 8, 9, 10, 11, 12, 13, 14, 15] (by decide +kernel) rfl (fun hPc hDw => ?_)
            have hFc := va_free (wc := []) hD hS hA [] rfl
            refine va_calli (va_runV (As := [.int a1, .int a2]) (rest := [.int a3, .int y_9, .int y_8, .ref xh]) ⟨hx, hb, hml, hown, hts⟩ (c_X7_letOut l D cy H.size xh u1 u2 u3 u4 o5_5 o6_5 u7 u8 xc xk clo cro c4 c5 c6 c7 c8 xn n1 n2 n3 n4 n5 vp vn rl Ml a1 a2 (by first | with_reducible assumption | omega | assumption) (by first | with_reducible assumption | omega | assumption)) (cwV 2 hts gX7_chooseForCut_X7_letOut rfl rfl rfl ⟨rfl, hd_X7_letOut⟩ ⟨Nat.le_of_ble_eq_true rfl, Nat.le_of_ble_eq_true rfl⟩) ⟨bl_g, va_recvX hK.1 hP (ci := 7) (q0 := 0) rfl rfl, fun U hU hW => ⟨rfl, by rw [hU], by rw [hU]; exact hPc, ⟨kk_mv hW hK, arrOfT_moved hW.alike hG⟩, hDw⟩⟩ rfl rfl hl.1 rfl (lv_room (Nat.le_of_ble_eq_true rfl)) dB_36_1_61.2.1.2 ⟨Nat.le_of_ble_eq_true rfl, Nat.le_of_ble_eq_true rfl⟩) hS (fun q _ h => hFc q h) hFc (fun r_10 u t H locs ht hvm hw hB hz1 hk1 hS => ?_)
            have hP : va_P D vwCl _ H := ro_keep hP hk1
            refine lv_iadd hx hb dB_36_1_61.2.2.1 ?_
            refine lv_topi (fun y_11 ey_11 => ?_)
            refine ct_S hP hD hS hA [ob7_0_ xh xc u1 u2 u3 u4 o5_5 o6_5 u7 u8, ob0_0_ xc xn xk clo cro c4 c5 c6 c7 c8, ob3_0_ xn vp vn n1 n2 n3 n4 n5, aq_ cy 6 clo 12 (gf_ rl), ai_ cy (rl 0) 12 (Ml 0), ai_ cy (rl 1) 12 (Ml 1), ai_ cy (rl 2) 12 (Ml 2), ai_ cy (rl 3) 12 (Ml 3), ai_ cy (rl 4) 12 (Ml 4), ai_ cy (rl 5) 12 (Ml 5), ai_ cy (rl 6) 12 (Ml 6), ai_ cy (rl 7) 12 (Ml 7), ai_ cy (rl 8) 12 (Ml 8), ai_ cy (rl 9) 12 (Ml 9), ai_ cy (rl 10) 12 (Ml 10), ai_ cy (rl 11) 12 (Ml 11)] [0, 1, 2, 3, 4, 5, 6, 7, 8, 9, 10, 11, 12, 13, 14, 15] (by decide +kernel) rfl (fun hPc hDw hFc hC_ => ?_)
            refine va_callv (va_runV (As := [.int y_8, .int y_9, .int y_11]) (rest := []) ⟨hx, hb, hml, hown, hts⟩ (c_X7_chooseForCut_8 l D cy H.size xh u1 u2 u3 u4 o5_5 o6_5 u7 u8 xc xk clo cro c4 c5 c6 c7 c8 xn n1 n2 n3 n4 n5 vp vn rl Ml y_8 y_9 y_11 (by first | with_reducible assumption | omega | assumption) (by first | with_reducible assumption | omega | assumption)) (cwV 3 hts gX7_chooseForCut_X7_chooseForCut rfl rfl rfl ⟨rfl, hd_X7_chooseForCut⟩ ⟨Nat.le_of_ble_eq_true rfl, Nat.le_of_ble_eq_true rfl⟩) ⟨bl_g, va_recvX hK.1 hP (ci := 7) (q0 := 0) rfl rfl, fun U hU hW => ⟨rfl, by rw [hU], by rw [hU]; exact hPc, ⟨kk_mv hW hK, arrOfT_moved hW.alike hG⟩, hDw⟩⟩ rfl rfl hl.1 rfl (lv_room (Nat.le_of_ble_eq_true rfl)) dB_36_1_61.2.2.2.1 ⟨Nat.le_of_ble_eq_true rfl, Nat.le_of_ble_eq_true rfl⟩) hS (fun q _ h => hFc q h) hFc (fun u t H locs ht hvm hw hB hz1 hk1 hS => ?_)
            obtain ⟨v5_13, v6_14, hP1, hD1⟩ := hB
            rw [ht] at hP1
            obtain ⟨hP, hD⟩ := va_join (wr := []) (w1 := [ob7_0_ xh xc u1 u2 u3 u4 v5_13 v6_14 u7 u8, ob0_0_ xc xn xk clo cro c4 c5 c6 c7 c8, ob3_0_ xn vp vn n1 n2 n3 n4 n5, aq_ cy 6 clo 12 (gf_ rl), ai_ cy (rl 0) 12 (Ml 0), ai_ cy (rl 1) 12 (Ml 1), ai_ cy (rl 2) 12 (Ml 2), ai_ cy (rl 3) 12 (Ml 3), ai_ cy (rl 4) 12 (Ml 4), ai_ cy (rl 5) 12 (Ml 5), ai_ cy (rl 6) 12 (Ml 6), ai_ cy (rl 7) 12 (Ml 7), ai_ cy (rl 8) 12 (Ml 8), ai_ cy (rl 9) 12 (Ml 9), ai_ cy (rl 10) 12 (Ml 10), ai_ cy (rl 11) 12 (Ml 11)]) hP hD [0, 1, 2, 3, 4, 5, 6, 7, 8, 9, 10, 11, 12, 13, 14, 15] [] hC_ rfl (by decide) (by decide) hk1 hFc hP1 hD1
            refine pd_K [ob7_0_ xh xc u1 u2 u3 u4 v5_13 v6_14 u7 u8, ob0_0_ xc xn xk clo cro c4 c5 c6 c7 c8, ob3_0_ xn vp vn n1 n2 n3 n4 n5, aq_ cy 6 clo 12 (gf_ rl), ai_ cy (rl 0) 12 (Ml 0), ai_ cy (rl 1) 12 (Ml 1), ai_ cy (rl 2) 12 (Ml 2), ai_ cy (rl 3) 12 (Ml 3), ai_ cy (rl 4) 12 (Ml 4), ai_ cy (rl 5) 12 (Ml 5), ai_ cy (rl 6) 12 (Ml 6), ai_ cy (rl 7) 12 (Ml 7), ai_ cy (rl 8) 12 (Ml 8), ai_ cy (rl 9) 12 (Ml 9), ai_ cy (rl 10) 12 (Ml 10), ai_ cy (rl 11) 12 (Ml 11)] hP hD (fun hP hD => ?_)
            rw [hQ]
            exact W.vret hx hb hr (fun t ht hW => ⟨⟨(), rfl, trivial, v5_13, v6_14, by rw [ht]; exact hP, hD⟩, hS.F ht⟩) hS.2.2 dB_36_1_61.2.2.2.2
        refine lv_aload_n hx hb dB_36_1_59.1.2.1.1 rfl (lv_at hl 1 rfl) ?_
        refine va_get (ci := 7) (v := .int u1) (C := RX7) (T := TX7) (N := 9) hx hb hts (fun _ h => List.mem_cons_of_mem _ (List.mem_append_left _ (List.mem_append_left _ (List.mem_append_right _ h)))) hown hK.1 hP 0 rfl rfl 1 (by decide) (hts (.fieldLink RX7 27 "CutAtlas$SetHunt" "must" "I") (List.mem_of_getElem? (i := 3) rfl)) (fun _ h9 => h9) rfl dB_36_1_59.1.2.1.2 ?_
        refine lv_iload hx hb dB_36_1_59.1.2.2.1 (lv_at hl 0 rfl) ?_
        refine lv_iand hx hb dB_36_1_59.1.2.2.2 ?_
        refine lv_topi (fun y_15 ey_15 => ?_)
        refine lv_if_ne (tgt := 60) hx hb dB_36_1_59.2.1.1.1 (by decide) (fun c_16 => ?_) (fun c_16 => ?_)
        · have t_16 : ¬ y_15.toInt = (0 : Int32).toInt := fun h => c_16 (Int32.toInt_inj.mp h)
          exact JOIN_5 u5 u6 _ _ _ ⟨hP, hD⟩ hS (lv_sub hl [0, 1, 2, 3, 4] rfl)
        · have t_16 : y_15.toInt = (0 : Int32).toInt := congrArg Int32.toInt c_16
          refine lv_aload_n hx hb dB_36_1_59.2.1.1.2 rfl (lv_at hl 1 rfl) ?_
          refine lv_iload_n hx hb dB_36_1_59.2.1.2.1 rfl (lv_at hl 2 rfl) ?_
          refine lv_iconst (v := 1) hx hb dB_36_1_59.2.1.2.2 (by decide) ?_
          refine lv_isub hx hb dB_36_1_59.2.2.1.1 ?_
          refine lv_topi (fun y_17 ey_17 => ?_)
          have ty_17 : y_17.toInt = a1.toInt - (1 : Int32).toInt := by rw [ey_17]; exact subI (by omega) (by omega)
          refine lv_iload_n hx hb dB_36_1_59.2.2.1.2 rfl (lv_at hl 3 rfl) ?_
          refine lv_iload_n hx hb dB_36_1_59.2.2.2.1 rfl (lv_at hl 4 rfl) ?_
          refine lv_aload_n hx hb dB_36_1_59.2.2.2.2 rfl (lv_at hl 1 rfl) ?_
          refine lv_iload_n hx hb dB_36_1_60.1.1.1.1 rfl (lv_at hl 2 rfl) ?_
          refine lv_iload_n hx hb dB_36_1_60.1.1.1.2 rfl (lv_at hl 3 rfl) ?_
          refine ct_R hP hD [ob7_0_ xh xc u1 u2 u3 u4 u5 u6 u7 u8, ob0_0_ xc xn xk clo cro c4 c5 c6 c7 c8, ob3_0_ xn vp vn n1 n2 n3 n4 n5, aq_ cy 6 clo 12 (gf_ rl), ai_ cy (rl 0) 12 (Ml 0), ai_ cy (rl 1) 12 (Ml 1), ai_ cy (rl 2) 12 (Ml 2), ai_ cy (rl 3) 12 (Ml 3), ai_ cy (rl 4) 12 (Ml 4), ai_ cy (rl 5) 12 (Ml 5), ai_ cy (rl 6) 12 (Ml 6), ai_ cy (rl 7) 12 (Ml 7), ai_ cy (rl 8) 12 (Ml 8), ai_ cy (rl 9) 12 (Ml 9), ai_ cy (rl 10) 12 (Ml 10), ai_ cy (rl 11) 12 (Ml 11)] [0, 1, 2, 3, 4, 5, 6, 7, 8, 9, 10, 11, 12, 13, 14, 15] (by decide +kernel) rfl (fun hPc hDw => ?_)
          have hFc := va_free (wc := []) hD hS hA [] rfl
          refine va_calli (va_runV (As := [.int a1, .int a2]) (rest := [.int a3, .int a2, .int y_17, .ref xh]) ⟨hx, hb, hml, hown, hts⟩ (c_X7_letIn l D cy s.heap.size xh u1 u2 u3 u4 u5 u6 u7 u8 xc xk clo cro c4 c5 c6 c7 c8 xn n1 n2 n3 n4 n5 vp vn rl Ml a1 a2 (by first | with_reducible assumption | omega | assumption) (by first | with_reducible assumption | omega | assumption)) (cwV 2 hts gX7_chooseForCut_X7_letIn rfl rfl rfl ⟨rfl, hd_X7_letIn⟩ ⟨Nat.le_of_ble_eq_true rfl, Nat.le_of_ble_eq_true rfl⟩) ⟨bl_g, va_recvX hK.1 hP (ci := 7) (q0 := 0) rfl rfl, fun U hU hW => ⟨rfl, by rw [hU], by rw [hU]; exact hPc, ⟨kk_mv hW hK, arrOfT_moved hW.alike hG⟩, hDw⟩⟩ rfl rfl hl.1 rfl (lv_room (Nat.le_of_ble_eq_true rfl)) dB_36_1_60.1.1.2.1 ⟨Nat.le_of_ble_eq_true rfl, Nat.le_of_ble_eq_true rfl⟩) hS (fun q _ h => hFc q h) hFc (fun r_18 u t H locs ht hvm hw hB hz1 hk1 hS => ?_)
          have hP : va_P D vwCl _ H := ro_keep hP hk1
          refine lv_iadd hx hb dB_36_1_60.1.1.2.2 ?_
          refine lv_topi (fun y_19 ey_19 => ?_)
          refine ct_S hP hD hS hA [ob7_0_ xh xc u1 u2 u3 u4 u5 u6 u7 u8, ob0_0_ xc xn xk clo cro c4 c5 c6 c7 c8, ob3_0_ xn vp vn n1 n2 n3 n4 n5, aq_ cy 6 clo 12 (gf_ rl), ai_ cy (rl 0) 12 (Ml 0), ai_ cy (rl 1) 12 (Ml 1), ai_ cy (rl 2) 12 (Ml 2), ai_ cy (rl 3) 12 (Ml 3), ai_ cy (rl 4) 12 (Ml 4), ai_ cy (rl 5) 12 (Ml 5), ai_ cy (rl 6) 12 (Ml 6), ai_ cy (rl 7) 12 (Ml 7), ai_ cy (rl 8) 12 (Ml 8), ai_ cy (rl 9) 12 (Ml 9), ai_ cy (rl 10) 12 (Ml 10), ai_ cy (rl 11) 12 (Ml 11)] [0, 1, 2, 3, 4, 5, 6, 7, 8, 9, 10, 11, 12, 13, 14, 15] (by decide +kernel) rfl (fun hPc hDw hFc hC_ => ?_)
          refine va_callv (va_runV (As := [.int y_17, .int a2, .int y_19]) (rest := []) ⟨hx, hb, hml, hown, hts⟩ (c_X7_chooseForCut_8 l D cy H.size xh u1 u2 u3 u4 u5 u6 u7 u8 xc xk clo cro c4 c5 c6 c7 c8 xn n1 n2 n3 n4 n5 vp vn rl Ml y_17 a2 y_19 (by first | with_reducible assumption | omega | assumption) (by first | with_reducible assumption | omega | assumption)) (cwV 3 hts gX7_chooseForCut_X7_chooseForCut rfl rfl rfl ⟨rfl, hd_X7_chooseForCut⟩ ⟨Nat.le_of_ble_eq_true rfl, Nat.le_of_ble_eq_true rfl⟩) ⟨bl_g, va_recvX hK.1 hP (ci := 7) (q0 := 0) rfl rfl, fun U hU hW => ⟨rfl, by rw [hU], by rw [hU]; exact hPc, ⟨kk_mv hW hK, arrOfT_moved hW.alike hG⟩, hDw⟩⟩ rfl rfl hl.1 rfl (lv_room (Nat.le_of_ble_eq_true rfl)) dB_36_1_60.1.2.1.1 ⟨Nat.le_of_ble_eq_true rfl, Nat.le_of_ble_eq_true rfl⟩) hS (fun q _ h => hFc q h) hFc (fun u t H locs ht hvm hw hB hz1 hk1 hS => ?_)
          obtain ⟨v5_21, v6_22, hP1, hD1⟩ := hB
          rw [ht] at hP1
          obtain ⟨hP, hD⟩ := va_join (wr := []) (w1 := [ob7_0_ xh xc u1 u2 u3 u4 v5_21 v6_22 u7 u8, ob0_0_ xc xn xk clo cro c4 c5 c6 c7 c8, ob3_0_ xn vp vn n1 n2 n3 n4 n5, aq_ cy 6 clo 12 (gf_ rl), ai_ cy (rl 0) 12 (Ml 0), ai_ cy (rl 1) 12 (Ml 1), ai_ cy (rl 2) 12 (Ml 2), ai_ cy (rl 3) 12 (Ml 3), ai_ cy (rl 4) 12 (Ml 4), ai_ cy (rl 5) 12 (Ml 5), ai_ cy (rl 6) 12 (Ml 6), ai_ cy (rl 7) 12 (Ml 7), ai_ cy (rl 8) 12 (Ml 8), ai_ cy (rl 9) 12 (Ml 9), ai_ cy (rl 10) 12 (Ml 10), ai_ cy (rl 11) 12 (Ml 11)]) hP hD [0, 1, 2, 3, 4, 5, 6, 7, 8, 9, 10, 11, 12, 13, 14, 15] [] hC_ rfl (by decide) (by decide) hk1 hFc hP1 hD1
          refine pd_K [ob7_0_ xh xc u1 u2 u3 u4 v5_21 v6_22 u7 u8, ob0_0_ xc xn xk clo cro c4 c5 c6 c7 c8, ob3_0_ xn vp vn n1 n2 n3 n4 n5, aq_ cy 6 clo 12 (gf_ rl), ai_ cy (rl 0) 12 (Ml 0), ai_ cy (rl 1) 12 (Ml 1), ai_ cy (rl 2) 12 (Ml 2), ai_ cy (rl 3) 12 (Ml 3), ai_ cy (rl 4) 12 (Ml 4), ai_ cy (rl 5) 12 (Ml 5), ai_ cy (rl 6) 12 (Ml 6), ai_ cy (rl 7) 12 (Ml 7), ai_ cy (rl 8) 12 (Ml 8), ai_ cy (rl 9) 12 (Ml 9), ai_ cy (rl 10) 12 (Ml 10), ai_ cy (rl 11) 12 (Ml 11)] hP hD (fun hP hD => ?_)
          exact JOIN_5 v5_21 v6_22 _ _ _ ⟨hP, hD⟩ hS (lv_sub hl [0, 1, 2, 3, 4] rfl)
      · have t_3 : ¬ (0 : Int32).toInt ≤ a1.toInt := fun h => c_3 (Int32.le_iff_toInt_le.mpr h)
        refine lv_aload_n hx hb dB_36_1_58.2.1.2.2 rfl (lv_at hl 0 rfl) ?_
        refine lv_iload_n hx hb dB_36_1_58.2.2.1.1 rfl (lv_at hl 2 rfl) ?_
        refine lv_iload_n hx hb dB_36_1_58.2.2.1.2 rfl (lv_at hl 3 rfl) ?_
        refine ct_S hP hD hS hA [ob7_0_ xh xc u1 u2 u3 u4 u5 u6 u7 u8] [0] (by decide) rfl (fun hPc hDw hFc hC_ => ?_)
        refine va_callv (va_runV (As := [.int a2, .int a3]) (rest := []) ⟨hx, hb, hml, hown, hts⟩ (c_X7_meet l D cy s.heap.size xh u1 u2 u3 u4 u5 u6 u7 u8 xc a2 a3) (cwV 2 hts gX7_chooseForCut_X7_meet rfl rfl rfl ⟨rfl, hd_X7_meet⟩ ⟨Nat.le_of_ble_eq_true rfl, Nat.le_of_ble_eq_true rfl⟩) ⟨bl_, va_recvX hK.1 hP (ci := 7) (q0 := 0) rfl rfl, fun U hU hW => ⟨rfl, by rw [hU], by rw [hU]; exact hPc, kk_mv hW hK, hDw⟩⟩ rfl rfl hl.1 rfl (lv_room (Nat.le_of_ble_eq_true rfl)) dB_36_1_58.2.2.2.1 ⟨Nat.le_of_ble_eq_true rfl, Nat.le_of_ble_eq_true rfl⟩) hS (fun q _ h => hFc q h) hFc (fun u t H locs ht hvm hw hB hz1 hk1 hS => ?_)
        obtain ⟨v5_24, v6_25, hP1, hD1⟩ := hB
        rw [ht] at hP1
        obtain ⟨hP, hD⟩ := va_join (wr := [ob0_0_ xc xn xk clo cro c4 c5 c6 c7 c8, ob3_0_ xn vp vn n1 n2 n3 n4 n5, aq_ cy 6 clo 12 (gf_ rl), ai_ cy (rl 0) 12 (Ml 0), ai_ cy (rl 1) 12 (Ml 1), ai_ cy (rl 2) 12 (Ml 2), ai_ cy (rl 3) 12 (Ml 3), ai_ cy (rl 4) 12 (Ml 4), ai_ cy (rl 5) 12 (Ml 5), ai_ cy (rl 6) 12 (Ml 6), ai_ cy (rl 7) 12 (Ml 7), ai_ cy (rl 8) 12 (Ml 8), ai_ cy (rl 9) 12 (Ml 9), ai_ cy (rl 10) 12 (Ml 10), ai_ cy (rl 11) 12 (Ml 11)]) (w1 := [ob7_0_ xh xc u1 u2 u3 u4 v5_24 v6_25 u7 u8]) hP hD [0] [1, 2, 3, 4, 5, 6, 7, 8, 9, 10, 11, 12, 13, 14, 15] hC_ rfl (by decide +kernel) (by decide +kernel) hk1 hFc hP1 hD1
        refine pd_S hP hD [ob7_0_ xh xc u1 u2 u3 u4 v5_24 v6_25 u7 u8, ob0_0_ xc xn xk clo cro c4 c5 c6 c7 c8, ob3_0_ xn vp vn n1 n2 n3 n4 n5, aq_ cy 6 clo 12 (gf_ rl), ai_ cy (rl 0) 12 (Ml 0), ai_ cy (rl 1) 12 (Ml 1), ai_ cy (rl 2) 12 (Ml 2), ai_ cy (rl 3) 12 (Ml 3), ai_ cy (rl 4) 12 (Ml 4), ai_ cy (rl 5) 12 (Ml 5), ai_ cy (rl 6) 12 (Ml 6), ai_ cy (rl 7) 12 (Ml 7), ai_ cy (rl 8) 12 (Ml 8), ai_ cy (rl 9) 12 (Ml 9), ai_ cy (rl 10) 12 (Ml 10), ai_ cy (rl 11) 12 (Ml 11)] [15, 0, 1, 2, 3, 4, 5, 6, 7, 8, 9, 10, 11, 12, 13, 14] (by decide +kernel) rfl (fun hP hD => ?_)
        rw [hQ]
        exact W.vret hx hb hr (fun t ht hW => ⟨⟨(), rfl, trivial, v5_24, v6_25, by rw [ht]; exact hP, hD⟩, hS.F ht⟩) hS.2.2 dB_36_1_58.2.2.2.2
    · have t_2 : ¬ u6.toInt = ((-9) : Int32).toInt := fun h => c_2 (Int32.toInt_inj.mp h)
      rw [hQ]
      exact W.vret hx hb hr (fun t ht hW => ⟨⟨(), rfl, trivial, u5, u6, by rw [ht]; exact hP, hD⟩, hS.F ht⟩) hS.2.2 dB_36_1_58.2.1.1.1

set_option maxHeartbeats 4000000 in
set_option maxRecDepth 100000 in
theorem c_X7_chooseForCut_10 (l : Launch) (D : va_G) (cy : Nat → ClassId) (sz : Nat) (xh : Nat) (u1 : Int32) (u2 : Int32) (u3 : Int32) (u4 : Int32) (u5 : Int32) (u6 : Int32) (u7 : Int32) (u8 : Int32) (xc : Nat) (xk : Nat) (clo : Nat) (cro : Nat) (c4 : Nat) (c5 : Nat) (c6 : Nat) (c7 : Nat) (c8 : Nat) (xn : Nat) (n1 : Nat) (n2 : Nat) (n3 : Nat) (n4 : Nat) (n5 : Nat) (vp : Int32) (vn : Int32) (rl : Nat → Nat) (Ml : Nat → Nat → Int32) (a1 : Int32) (a2 : Int32) (a3 : Int32) (hvp : 0 ≤ vp.toInt ∧ vp.toInt ≤ 12) (q1 : -1 ≤ a1.toInt ∧ a1.toInt < 10) : Met l yX7_chooseForCut wsX7_chooseForCut ({ frames := 11, cells := 0, slots := 0, locals := 262 }) (va_Pc [.ref xh, .int a1, .int a2, .int a3] (fun U => U.heap.size = sz ∧ va_P D vwCl [ob7_0_ xh xc u1 u2 u3 u4 u5 u6 u7 u8, ob0_0_ xc xn xk clo cro c4 c5 c6 c7 c8, ob3_0_ xn vp vn n1 n2 n3 n4 n5, aq_ cy 6 clo 12 (gf_ rl), ai_ cy (rl 0) 12 (Ml 0), ai_ cy (rl 1) 12 (Ml 1), ai_ cy (rl 2) 12 (Ml 2), ai_ cy (rl 3) 12 (Ml 3), ai_ cy (rl 4) 12 (Ml 4), ai_ cy (rl 5) 12 (Ml 5), ai_ cy (rl 6) 12 (Ml 6), ai_ cy (rl 7) 12 (Ml 7), ai_ cy (rl 8) 12 (Ml 8), ai_ cy (rl 9) 12 (Ml 9), ai_ cy (rl 10) 12 (Ml 10), ai_ cy (rl 11) 12 (Ml 11)] U.heap ∧ kg_ D cy U ∧ va_D (fun _ => True) [ob7_0_ xh xc u1 u2 u3 u4 u5 u6 u7 u8, ob0_0_ xc xn xk clo cro c4 c5 c6 c7 c8, ob3_0_ xn vp vn n1 n2 n3 n4 n5, aq_ cy 6 clo 12 (gf_ rl), ai_ cy (rl 0) 12 (Ml 0), ai_ cy (rl 1) 12 (Ml 1), ai_ cy (rl 2) 12 (Ml 2), ai_ cy (rl 3) 12 (Ml 3), ai_ cy (rl 4) 12 (Ml 4), ai_ cy (rl 5) 12 (Ml 5), ai_ cy (rl 6) 12 (Ml 6), ai_ cy (rl 7) 12 (Ml 7), ai_ cy (rl 8) 12 (Ml 8), ai_ cy (rl 9) 12 (Ml 9), ai_ cy (rl 10) 12 (Ml 10), ai_ cy (rl 11) 12 (Ml 11)])) (va_Qv (fun (_ : Unit) => True) (fun (_ : Unit) (t : State) => ∃ (v5 : Int32), ∃ (v6 : Int32), va_P D vwCl [ob7_0_ xh xc u1 u2 u3 u4 v5 v6 u7 u8, ob0_0_ xc xn xk clo cro c4 c5 c6 c7 c8, ob3_0_ xn vp vn n1 n2 n3 n4 n5, aq_ cy 6 clo 12 (gf_ rl), ai_ cy (rl 0) 12 (Ml 0), ai_ cy (rl 1) 12 (Ml 1), ai_ cy (rl 2) 12 (Ml 2), ai_ cy (rl 3) 12 (Ml 3), ai_ cy (rl 4) 12 (Ml 4), ai_ cy (rl 5) 12 (Ml 5), ai_ cy (rl 6) 12 (Ml 6), ai_ cy (rl 7) 12 (Ml 7), ai_ cy (rl 8) 12 (Ml 8), ai_ cy (rl 9) 12 (Ml 9), ai_ cy (rl 10) 12 (Ml 10), ai_ cy (rl 11) 12 (Ml 11)] t.heap ∧ va_D (va_A [ob7_0_ xh xc u1 u2 u3 u4 u5 u6 u7 u8, ob0_0_ xc xn xk clo cro c4 c5 c6 c7 c8, ob3_0_ xn vp vn n1 n2 n3 n4 n5, aq_ cy 6 clo 12 (gf_ rl), ai_ cy (rl 0) 12 (Ml 0), ai_ cy (rl 1) 12 (Ml 1), ai_ cy (rl 2) 12 (Ml 2), ai_ cy (rl 3) 12 (Ml 3), ai_ cy (rl 4) 12 (Ml 4), ai_ cy (rl 5) 12 (Ml 5), ai_ cy (rl 6) 12 (Ml 6), ai_ cy (rl 7) 12 (Ml 7), ai_ cy (rl 8) 12 (Ml 8), ai_ cy (rl 9) 12 (Ml 9), ai_ cy (rl 10) 12 (Ml 10), ai_ cy (rl 11) 12 (Ml 11)] sz) [ob7_0_ xh xc u1 u2 u3 u4 v5 v6 u7 u8, ob0_0_ xc xn xk clo cro c4 c5 c6 c7 c8, ob3_0_ xn vp vn n1 n2 n3 n4 n5, aq_ cy 6 clo 12 (gf_ rl), ai_ cy (rl 0) 12 (Ml 0), ai_ cy (rl 1) 12 (Ml 1), ai_ cy (rl 2) 12 (Ml 2), ai_ cy (rl 3) 12 (Ml 3), ai_ cy (rl 4) 12 (Ml 4), ai_ cy (rl 5) 12 (Ml 5), ai_ cy (rl 6) 12 (Ml 6), ai_ cy (rl 7) 12 (Ml 7), ai_ cy (rl 8) 12 (Ml 8), ai_ cy (rl 9) 12 (Ml 9), ai_ cy (rl 10) 12 (Ml 10), ai_ cy (rl 11) 12 (Ml 11)]) (va_A [ob7_0_ xh xc u1 u2 u3 u4 u5 u6 u7 u8, ob0_0_ xc xn xk clo cro c4 c5 c6 c7 c8, ob3_0_ xn vp vn n1 n2 n3 n4 n5, aq_ cy 6 clo 12 (gf_ rl), ai_ cy (rl 0) 12 (Ml 0), ai_ cy (rl 1) 12 (Ml 1), ai_ cy (rl 2) 12 (Ml 2), ai_ cy (rl 3) 12 (Ml 3), ai_ cy (rl 4) 12 (Ml 4), ai_ cy (rl 5) 12 (Ml 5), ai_ cy (rl 6) 12 (Ml 6), ai_ cy (rl 7) 12 (Ml 7), ai_ cy (rl 8) 12 (Ml 8), ai_ cy (rl 9) 12 (Ml 9), ai_ cy (rl 10) 12 (Ml 10), ai_ cy (rl 11) 12 (Ml 11)] sz)) 0 0 (va_A [ob7_0_ xh xc u1 u2 u3 u4 u5 u6 u7 u8, ob0_0_ xc xn xk clo cro c4 c5 c6 c7 c8, ob3_0_ xn vp vn n1 n2 n3 n4 n5, aq_ cy 6 clo 12 (gf_ rl), ai_ cy (rl 0) 12 (Ml 0), ai_ cy (rl 1) 12 (Ml 1), ai_ cy (rl 2) 12 (Ml 2), ai_ cy (rl 3) 12 (Ml 3), ai_ cy (rl 4) 12 (Ml 4), ai_ cy (rl 5) 12 (Ml 5), ai_ cy (rl 6) 12 (Ml 6), ai_ cy (rl 7) 12 (Ml 7), ai_ cy (rl 8) 12 (Ml 8), ai_ cy (rl 9) 12 (Ml 9), ai_ cy (rl 10) 12 (Ml 10), ai_ cy (rl 11) 12 (Ml 11)] sz) := by
  refine ofQ (cc := cX7_chooseForCut) (maxL := 5) (ret := none) (by decide) rfl ?_
  intro p e s m args below meth c s₁ Q hQ B hml hv
  obtain ⟨rfl, hsz, hP, hK, hD0⟩ := hv
  have hG := hK.2
  have hK := hK.1
  have hx := B.exec
  have hb := B.bytes
  have hr := B.returns
  have hts := atoms_spec (ws := wsX7_chooseForCut) B.pre
  have hown : s.vm.findClass RX7 = some m.cls := by have h_ := findClass_of_methodNamed B.named; exact h_
  have hlocks := B.notSynchronized
  subst hsz
  have hD := hD0.self (sz := s.heap.size)
  generalize hAe : va_A [ob7_0_ xh xc u1 u2 u3 u4 u5 u6 u7 u8, ob0_0_ xc xn xk clo cro c4 c5 c6 c7 c8, ob3_0_ xn vp vn n1 n2 n3 n4 n5, aq_ cy 6 clo 12 (gf_ rl), ai_ cy (rl 0) 12 (Ml 0), ai_ cy (rl 1) 12 (Ml 1), ai_ cy (rl 2) 12 (Ml 2), ai_ cy (rl 3) 12 (Ml 3), ai_ cy (rl 4) 12 (Ml 4), ai_ cy (rl 5) 12 (Ml 5), ai_ cy (rl 6) 12 (Ml 6), ai_ cy (rl 7) 12 (Ml 7), ai_ cy (rl 8) 12 (Ml 8), ai_ cy (rl 9) 12 (Ml 9), ai_ cy (rl 10) 12 (Ml 10), ai_ cy (rl 11) 12 (Ml 11)] s.heap.size = A at hD hQ
  have hA : ∀ q : Nat, s.heap.size ≤ q → A q := fun q h => by rw [← hAe]; exact Or.inr h
  have hS : va_S A s.heap s.heap [] := va_S.rf
  have hl := lv_entry ([.ref xh, .int a1, .int a2, .int a3]) (n := 5) (Nat.le_of_ble_eq_true rfl)
  rw [lg_entry_eq]
  generalize (lg_sl ([.ref xh, .int a1, .int a2, .int a3]) ++ List.replicate (5 - (lg_sl ([.ref xh, .int a1, .int a2, .int a3])).length) Slot.unset).toArray = ls at hl ⊢
  have hl : lv_has ls 5 [(0, .ref xh), (1, .int a1), (2, .int a2), (3, .int a3)] := hl
  have zm9 : ((-9) : Int32).toInt = -9 := by decide
  have z0 : (0 : Int32).toInt = 0 := by decide
  have z1 : (1 : Int32).toInt = 1 := by decide
  refine lv_iload_n hx hb dB_36_1_58.1.1.1.1 rfl (lv_at hl 3 rfl) ?_
  refine lv_aload_n hx hb dB_36_1_58.1.1.1.2 rfl (lv_at hl 0 rfl) ?_
  refine va_get (ci := 7) (v := .int u3) (C := RX7) (T := TX7) (N := 9) hx hb hts (fun _ h => List.mem_cons_of_mem _ (List.mem_append_left _ (List.mem_append_left _ (List.mem_append_right _ h)))) hown hK.1 hP 0 rfl rfl 3 (by decide) (hts (.fieldLink RX7 33 "CutAtlas$SetHunt" "aim" "I") (List.mem_of_getElem? (i := 1) rfl)) (fun _ h9 => h9) rfl dB_36_1_58.1.1.2.1 ?_
  refine lv_icmp_gt (tgt := 17) hx hb dB_36_1_58.1.1.2.2 (by decide) (fun c_1 => ?_) (fun c_1 => ?_)
  · have t_1 : u3.toInt < a3.toInt := Int32.lt_iff_toInt_lt.mp c_1
    rw [hQ]
    exact W.vret hx hb hr (fun t ht hW => ⟨⟨(), rfl, trivial, u5, u6, by rw [ht]; exact hP, hD⟩, hS.F ht⟩) hS.2.2 dB_36_1_58.2.1.1.1
  · have t_1 : ¬ u3.toInt < a3.toInt := fun h => c_1 (Int32.lt_iff_toInt_lt.mpr h)
    refine lv_aload_n hx hb dB_36_1_58.1.2.1.1 rfl (lv_at hl 0 rfl) ?_
    refine va_get (ci := 7) (v := .int u6) (C := RX7) (T := TX7) (N := 9) hx hb hts (fun _ h => List.mem_cons_of_mem _ (List.mem_append_left _ (List.mem_append_left _ (List.mem_append_right _ h)))) hown hK.1 hP 0 rfl rfl 6 (by decide) (hts (.fieldLink RX7 24 "CutAtlas$SetHunt" "found" "I") (List.mem_of_getElem? (i := 2) rfl)) (fun _ h9 => h9) rfl dB_36_1_58.1.2.1.2 ?_
    refine lv_bipush (v := (-9)) hx hb dB_36_1_58.1.2.2.1 (by decide) ?_
    refine lv_icmp_eq (tgt := 18) hx hb dB_36_1_58.1.2.2.2 (by decide) (fun c_2 => ?_) (fun c_2 => ?_)
    · have t_2 : u6.toInt = ((-9) : Int32).toInt := congrArg Int32.toInt c_2
      refine lv_iload_n hx hb dB_36_1_58.2.1.1.2 rfl (lv_at hl 1 rfl) ?_
      refine lv_if_ge (tgt := 29) hx hb dB_36_1_58.2.1.2.1 (by decide) (fun c_3 => ?_) (fun c_3 => ?_)
      · have t_3 : (0 : Int32).toInt ≤ a1.toInt := Int32.le_iff_toInt_le.mp c_3
        refine lv_iconst (v := 1) hx hb dB_36_1_59.1.1.1.1 (by decide) ?_
        refine lv_iload_n hx hb dB_36_1_59.1.1.1.2 rfl (lv_at hl 1 rfl) ?_
        refine lv_ishl hx hb dB_36_1_59.1.1.2.1 ?_
        refine lv_topi (fun y_4 ey_4 => ?_)
        refine lv_istore (lv' := [(4, .int y_4), (0, .ref xh), (1, .int a1), (2, .int a2), (3, .int a3)]) hx hb dB_36_1_59.1.1.2.2 hl (by decide) rfl (fun ls hl => ?_)
        have JOIN_5 : ∀ (o5_5 : Int32) (o6_5 : Int32) (H : Heap) (locs : List Loc) (ls : Array Slot), pd_2 D vwCl A [ob7_0_ xh xc u1 u2 u3 u4 o5_5 o6_5 u7 u8, ob0_0_ xc xn xk clo cro c4 c5 c6 c7 c8, ob3_0_ xn vp vn n1 n2 n3 n4 n5, aq_ cy 6 clo 12 (gf_ rl), ai_ cy (rl 0) 12 (Ml 0), ai_ cy (rl 1) 12 (Ml 1), ai_ cy (rl 2) 12 (Ml 2), ai_ cy (rl 3) 12 (Ml 3), ai_ cy (rl 4) 12 (Ml 4), ai_ cy (rl 5) 12 (Ml 5), ai_ cy (rl 6) 12 (Ml 6), ai_ cy (rl 7) 12 (Ml 7), ai_ cy (rl 8) 12 (Ml 8), ai_ cy (rl 9) 12 (Ml 9), ai_ cy (rl 10) 12 (Ml 10), ai_ cy (rl 11) 12 (Ml 11)] H → va_S A s.heap H locs → lv_has ls 5 [(4, .int y_4), (0, .ref xh), (1, .int a1), (2, .int a2), (3, .int a3)] → W p l e ({ frames := 11, cells := 0, slots := 0, locals := 262 } : Room) s m (([.ref xh, .int a1, .int a2, .int a3] : List Value).toArray) below meth c H locs 0 0 Q (F0 m 60 ls []) := by
          intro o5_5 o6_5 H locs ls hPD hS hl; obtain ⟨hP, hD⟩ := hPD
          refine lv_aload_n hx hb dB_36_1_60.1.2.1.2 rfl (lv_at hl 1 rfl) ?_
          refine va_get (ci := 7) (v := .int u2) (C := RX7) (T := TX7) (N := 9) hx hb hts (fun _ h => List.mem_cons_of_mem _ (List.mem_append_left _ (List.mem_append_left _ (List.mem_append_right _ h)))) hown hK.1 hP 0 rfl rfl 2 (by decide) (hts (.fieldLink RX7 30 "CutAtlas$SetHunt" "mustNot" "I") (List.mem_of_getElem? (i := 4) rfl)) (fun _ h9 => h9) rfl dB_36_1_60.1.2.2.1 ?_
          refine lv_iload hx hb dB_36_1_60.1.2.2.2 (lv_at hl 0 rfl) ?_
          refine lv_iand hx hb dB_36_1_60.2.1.1.1 ?_
          refine lv_topi (fun y_6 ey_6 => ?_)
          refine lv_if_ne (tgt := 89) hx hb dB_36_1_60.2.1.1.2 (by decide) (fun c_7 => ?_) (fun c_7 => ?_)
          · have t_7 : ¬ y_6.toInt = (0 : Int32).toInt := fun h => c_7 (Int32.toInt_inj.mp h)
            rw [hQ]
            exact W.vret hx hb hr (fun t ht hW => ⟨⟨(), rfl, trivial, o5_5, o6_5, by rw [ht]; exact hP, hD⟩, hS.F ht⟩) hS.2.2 dB_36_1_61.2.2.2.2
          · have t_7 : y_6.toInt = (0 : Int32).toInt := congrArg Int32.toInt c_7
            refine lv_aload_n hx hb dB_36_1_60.2.1.2.1 rfl (lv_at hl 1 rfl) ?_
            refine lv_iload_n hx hb dB_36_1_60.2.1.2.2 rfl (lv_at hl 2 rfl) ?_
            refine lv_iconst (v := 1) hx hb dB_36_1_60.2.2.1.1 (by decide) ?_
            refine lv_isub hx hb dB_36_1_60.2.2.1.2 ?_
            refine lv_topi (fun y_8 ey_8 => ?_)
            have ty_8 : y_8.toInt = a1.toInt - (1 : Int32).toInt := by rw [ey_8]; exact subI (by omega) (by omega)
            refine lv_iload_n hx hb dB_36_1_60.2.2.2.1 rfl (lv_at hl 3 rfl) ?_
            refine lv_iload hx hb dB_36_1_60.2.2.2.2 (lv_at hl 0 rfl) ?_
            refine lv_ior hx hb dB_36_1_61.1.1.1 ?_
            refine lv_topi (fun y_9 ey_9 => ?_)
            refine lv_iload_n hx hb dB_36_1_61.1.1.2 rfl (lv_at hl 4 rfl) ?_
            refine lv_aload_n hx hb dB_36_1_61.1.2.1 rfl (lv_at hl 1 rfl) ?_
            refine lv_iload_n hx hb dB_36_1_61.1.2.2 rfl (lv_at hl 2 rfl) ?_
            refine lv_iload_n hx hb dB_36_1_61.2.1.1 rfl (lv_at hl 3 rfl) ?_
            refine ct_R hP hD [ob7_0_ xh xc u1 u2 u3 u4 o5_5 o6_5 u7 u8, ob0_0_ xc xn xk clo cro c4 c5 c6 c7 c8, ob3_0_ xn vp vn n1 n2 n3 n4 n5, aq_ cy 6 clo 12 (gf_ rl), ai_ cy (rl 0) 12 (Ml 0), ai_ cy (rl 1) 12 (Ml 1), ai_ cy (rl 2) 12 (Ml 2), ai_ cy (rl 3) 12 (Ml 3), ai_ cy (rl 4) 12 (Ml 4), ai_ cy (rl 5) 12 (Ml 5), ai_ cy (rl 6) 12 (Ml 6), ai_ cy (rl 7) 12 (Ml 7), ai_ cy (rl 8) 12 (Ml 8), ai_ cy (rl 9) 12 (Ml 9), ai_ cy (rl 10) 12 (Ml 10), ai_ cy (rl 11) 12 (Ml 11)] [0, 1, 2, 3, 4, 5, 6, 7, 8, 9, 10, 11, 12, 13, 14, 15] (by decide +kernel) rfl (fun hPc hDw => ?_)
            have hFc := va_free (wc := []) hD hS hA [] rfl
            refine va_calli (va_runV (As := [.int a1, .int a2]) (rest := [.int a3, .int y_9, .int y_8, .ref xh]) ⟨hx, hb, hml, hown, hts⟩ (c_X7_letOut l D cy H.size xh u1 u2 u3 u4 o5_5 o6_5 u7 u8 xc xk clo cro c4 c5 c6 c7 c8 xn n1 n2 n3 n4 n5 vp vn rl Ml a1 a2 (by first | with_reducible assumption | omega | assumption) (by first | with_reducible assumption | omega | assumption)) (cwV 2 hts gX7_chooseForCut_X7_letOut rfl rfl rfl ⟨rfl, hd_X7_letOut⟩ ⟨Nat.le_of_ble_eq_true rfl, Nat.le_of_ble_eq_true rfl⟩) ⟨bl_g, va_recvX hK.1 hP (ci := 7) (q0 := 0) rfl rfl, fun U hU hW => ⟨rfl, by rw [hU], by rw [hU]; exact hPc, ⟨kk_mv hW hK, arrOfT_moved hW.alike hG⟩, hDw⟩⟩ rfl rfl hl.1 rfl (lv_room (Nat.le_of_ble_eq_true rfl)) dB_36_1_61.2.1.2 ⟨Nat.le_of_ble_eq_true rfl, Nat.le_of_ble_eq_true rfl⟩) hS (fun q _ h => hFc q h) hFc (fun r_10 u t H locs ht hvm hw hB hz1 hk1 hS => ?_)
            have hP : va_P D vwCl _ H := ro_keep hP hk1
            refine lv_iadd hx hb dB_36_1_61.2.2.1 ?_
            refine lv_topi (fun y_11 ey_11 => ?_)
            refine ct_S hP hD hS hA [ob7_0_ xh xc u1 u2 u3 u4 o5_5 o6_5 u7 u8, ob0_0_ xc xn xk clo cro c4 c5 c6 c7 c8, ob3_0_ xn vp vn n1 n2 n3 n4 n5, aq_ cy 6 clo 12 (gf_ rl), ai_ cy (rl 0) 12 (Ml 0), ai_ cy (rl 1) 12 (Ml 1), ai_ cy (rl 2) 12 (Ml 2), ai_ cy (rl 3) 12 (Ml 3), ai_ cy (rl 4) 12 (Ml 4), ai_ cy (rl 5) 12 (Ml 5), ai_ cy (rl 6) 12 (Ml 6), ai_ cy (rl 7) 12 (Ml 7), ai_ cy (rl 8) 12 (Ml 8), ai_ cy (rl 9) 12 (Ml 9), ai_ cy (rl 10) 12 (Ml 10), ai_ cy (rl 11) 12 (Ml 11)] [0, 1, 2, 3, 4, 5, 6, 7, 8, 9, 10, 11, 12, 13, 14, 15] (by decide +kernel) rfl (fun hPc hDw hFc hC_ => ?_)
            refine va_callv (va_runV (As := [.int y_8, .int y_9, .int y_11]) (rest := []) ⟨hx, hb, hml, hown, hts⟩ (c_X7_chooseForCut_9 l D cy H.size xh u1 u2 u3 u4 o5_5 o6_5 u7 u8 xc xk clo cro c4 c5 c6 c7 c8 xn n1 n2 n3 n4 n5 vp vn rl Ml y_8 y_9 y_11 (by first | with_reducible assumption | omega | assumption) (by first | with_reducible assumption | omega | assumption)) (cwV 3 hts gX7_chooseForCut_X7_chooseForCut rfl rfl rfl ⟨rfl, hd_X7_chooseForCut⟩ ⟨Nat.le_of_ble_eq_true rfl, Nat.le_of_ble_eq_true rfl⟩) ⟨bl_g, va_recvX hK.1 hP (ci := 7) (q0 := 0) rfl rfl, fun U hU hW => ⟨rfl, by rw [hU], by rw [hU]; exact hPc, ⟨kk_mv hW hK, arrOfT_moved hW.alike hG⟩, hDw⟩⟩ rfl rfl hl.1 rfl (lv_room (Nat.le_of_ble_eq_true rfl)) dB_36_1_61.2.2.2.1 ⟨Nat.le_of_ble_eq_true rfl, Nat.le_of_ble_eq_true rfl⟩) hS (fun q _ h => hFc q h) hFc (fun u t H locs ht hvm hw hB hz1 hk1 hS => ?_)
            obtain ⟨v5_13, v6_14, hP1, hD1⟩ := hB
            rw [ht] at hP1
            obtain ⟨hP, hD⟩ := va_join (wr := []) (w1 := [ob7_0_ xh xc u1 u2 u3 u4 v5_13 v6_14 u7 u8, ob0_0_ xc xn xk clo cro c4 c5 c6 c7 c8, ob3_0_ xn vp vn n1 n2 n3 n4 n5, aq_ cy 6 clo 12 (gf_ rl), ai_ cy (rl 0) 12 (Ml 0), ai_ cy (rl 1) 12 (Ml 1), ai_ cy (rl 2) 12 (Ml 2), ai_ cy (rl 3) 12 (Ml 3), ai_ cy (rl 4) 12 (Ml 4), ai_ cy (rl 5) 12 (Ml 5), ai_ cy (rl 6) 12 (Ml 6), ai_ cy (rl 7) 12 (Ml 7), ai_ cy (rl 8) 12 (Ml 8), ai_ cy (rl 9) 12 (Ml 9), ai_ cy (rl 10) 12 (Ml 10), ai_ cy (rl 11) 12 (Ml 11)]) hP hD [0, 1, 2, 3, 4, 5, 6, 7, 8, 9, 10, 11, 12, 13, 14, 15] [] hC_ rfl (by decide) (by decide) hk1 hFc hP1 hD1
            refine pd_K [ob7_0_ xh xc u1 u2 u3 u4 v5_13 v6_14 u7 u8, ob0_0_ xc xn xk clo cro c4 c5 c6 c7 c8, ob3_0_ xn vp vn n1 n2 n3 n4 n5, aq_ cy 6 clo 12 (gf_ rl), ai_ cy (rl 0) 12 (Ml 0), ai_ cy (rl 1) 12 (Ml 1), ai_ cy (rl 2) 12 (Ml 2), ai_ cy (rl 3) 12 (Ml 3), ai_ cy (rl 4) 12 (Ml 4), ai_ cy (rl 5) 12 (Ml 5), ai_ cy (rl 6) 12 (Ml 6), ai_ cy (rl 7) 12 (Ml 7), ai_ cy (rl 8) 12 (Ml 8), ai_ cy (rl 9) 12 (Ml 9), ai_ cy (rl 10) 12 (Ml 10), ai_ cy (rl 11) 12 (Ml 11)] hP hD (fun hP hD => ?_)
            rw [hQ]
            exact W.vret hx hb hr (fun t ht hW => ⟨⟨(), rfl, trivial, v5_13, v6_14, by rw [ht]; exact hP, hD⟩, hS.F ht⟩) hS.2.2 dB_36_1_61.2.2.2.2
        refine lv_aload_n hx hb dB_36_1_59.1.2.1.1 rfl (lv_at hl 1 rfl) ?_
        refine va_get (ci := 7) (v := .int u1) (C := RX7) (T := TX7) (N := 9) hx hb hts (fun _ h => List.mem_cons_of_mem _ (List.mem_append_left _ (List.mem_append_left _ (List.mem_append_right _ h)))) hown hK.1 hP 0 rfl rfl 1 (by decide) (hts (.fieldLink RX7 27 "CutAtlas$SetHunt" "must" "I") (List.mem_of_getElem? (i := 3) rfl)) (fun _ h9 => h9) rfl dB_36_1_59.1.2.1.2 ?_
        refine lv_iload hx hb dB_36_1_59.1.2.2.1 (lv_at hl 0 rfl) ?_
        refine lv_iand hx hb dB_36_1_59.1.2.2.2 ?_
        refine lv_topi (fun y_15 ey_15 => ?_)
        refine lv_if_ne (tgt := 60) hx hb dB_36_1_59.2.1.1.1 (by decide) (fun c_16 => ?_) (fun c_16 => ?_)
        · have t_16 : ¬ y_15.toInt = (0 : Int32).toInt := fun h => c_16 (Int32.toInt_inj.mp h)
          exact JOIN_5 u5 u6 _ _ _ ⟨hP, hD⟩ hS (lv_sub hl [0, 1, 2, 3, 4] rfl)
        · have t_16 : y_15.toInt = (0 : Int32).toInt := congrArg Int32.toInt c_16
          refine lv_aload_n hx hb dB_36_1_59.2.1.1.2 rfl (lv_at hl 1 rfl) ?_
          refine lv_iload_n hx hb dB_36_1_59.2.1.2.1 rfl (lv_at hl 2 rfl) ?_
          refine lv_iconst (v := 1) hx hb dB_36_1_59.2.1.2.2 (by decide) ?_
          refine lv_isub hx hb dB_36_1_59.2.2.1.1 ?_
          refine lv_topi (fun y_17 ey_17 => ?_)
          have ty_17 : y_17.toInt = a1.toInt - (1 : Int32).toInt := by rw [ey_17]; exact subI (by omega) (by omega)
          refine lv_iload_n hx hb dB_36_1_59.2.2.1.2 rfl (lv_at hl 3 rfl) ?_
          refine lv_iload_n hx hb dB_36_1_59.2.2.2.1 rfl (lv_at hl 4 rfl) ?_
          refine lv_aload_n hx hb dB_36_1_59.2.2.2.2 rfl (lv_at hl 1 rfl) ?_
          refine lv_iload_n hx hb dB_36_1_60.1.1.1.1 rfl (lv_at hl 2 rfl) ?_
          refine lv_iload_n hx hb dB_36_1_60.1.1.1.2 rfl (lv_at hl 3 rfl) ?_
          refine ct_R hP hD [ob7_0_ xh xc u1 u2 u3 u4 u5 u6 u7 u8, ob0_0_ xc xn xk clo cro c4 c5 c6 c7 c8, ob3_0_ xn vp vn n1 n2 n3 n4 n5, aq_ cy 6 clo 12 (gf_ rl), ai_ cy (rl 0) 12 (Ml 0), ai_ cy (rl 1) 12 (Ml 1), ai_ cy (rl 2) 12 (Ml 2), ai_ cy (rl 3) 12 (Ml 3), ai_ cy (rl 4) 12 (Ml 4), ai_ cy (rl 5) 12 (Ml 5), ai_ cy (rl 6) 12 (Ml 6), ai_ cy (rl 7) 12 (Ml 7), ai_ cy (rl 8) 12 (Ml 8), ai_ cy (rl 9) 12 (Ml 9), ai_ cy (rl 10) 12 (Ml 10), ai_ cy (rl 11) 12 (Ml 11)] [0, 1, 2, 3, 4, 5, 6, 7, 8, 9, 10, 11, 12, 13, 14, 15] (by decide +kernel) rfl (fun hPc hDw => ?_)
          have hFc := va_free (wc := []) hD hS hA [] rfl
          refine va_calli (va_runV (As := [.int a1, .int a2]) (rest := [.int a3, .int a2, .int y_17, .ref xh]) ⟨hx, hb, hml, hown, hts⟩ (c_X7_letIn l D cy s.heap.size xh u1 u2 u3 u4 u5 u6 u7 u8 xc xk clo cro c4 c5 c6 c7 c8 xn n1 n2 n3 n4 n5 vp vn rl Ml a1 a2 (by first | with_reducible assumption | omega | assumption) (by first | with_reducible assumption | omega | assumption)) (cwV 2 hts gX7_chooseForCut_X7_letIn rfl rfl rfl ⟨rfl, hd_X7_letIn⟩ ⟨Nat.le_of_ble_eq_true rfl, Nat.le_of_ble_eq_true rfl⟩) ⟨bl_g, va_recvX hK.1 hP (ci := 7) (q0 := 0) rfl rfl, fun U hU hW => ⟨rfl, by rw [hU], by rw [hU]; exact hPc, ⟨kk_mv hW hK, arrOfT_moved hW.alike hG⟩, hDw⟩⟩ rfl rfl hl.1 rfl (lv_room (Nat.le_of_ble_eq_true rfl)) dB_36_1_60.1.1.2.1 ⟨Nat.le_of_ble_eq_true rfl, Nat.le_of_ble_eq_true rfl⟩) hS (fun q _ h => hFc q h) hFc (fun r_18 u t H locs ht hvm hw hB hz1 hk1 hS => ?_)
          have hP : va_P D vwCl _ H := ro_keep hP hk1
          refine lv_iadd hx hb dB_36_1_60.1.1.2.2 ?_
          refine lv_topi (fun y_19 ey_19 => ?_)
          refine ct_S hP hD hS hA [ob7_0_ xh xc u1 u2 u3 u4 u5 u6 u7 u8, ob0_0_ xc xn xk clo cro c4 c5 c6 c7 c8, ob3_0_ xn vp vn n1 n2 n3 n4 n5, aq_ cy 6 clo 12 (gf_ rl), ai_ cy (rl 0) 12 (Ml 0), ai_ cy (rl 1) 12 (Ml 1), ai_ cy (rl 2) 12 (Ml 2), ai_ cy (rl 3) 12 (Ml 3), ai_ cy (rl 4) 12 (Ml 4), ai_ cy (rl 5) 12 (Ml 5), ai_ cy (rl 6) 12 (Ml 6), ai_ cy (rl 7) 12 (Ml 7), ai_ cy (rl 8) 12 (Ml 8), ai_ cy (rl 9) 12 (Ml 9), ai_ cy (rl 10) 12 (Ml 10), ai_ cy (rl 11) 12 (Ml 11)] [0, 1, 2, 3, 4, 5, 6, 7, 8, 9, 10, 11, 12, 13, 14, 15] (by decide +kernel) rfl (fun hPc hDw hFc hC_ => ?_)
          refine va_callv (va_runV (As := [.int y_17, .int a2, .int y_19]) (rest := []) ⟨hx, hb, hml, hown, hts⟩ (c_X7_chooseForCut_9 l D cy H.size xh u1 u2 u3 u4 u5 u6 u7 u8 xc xk clo cro c4 c5 c6 c7 c8 xn n1 n2 n3 n4 n5 vp vn rl Ml y_17 a2 y_19 (by first | with_reducible assumption | omega | assumption) (by first | with_reducible assumption | omega | assumption)) (cwV 3 hts gX7_chooseForCut_X7_chooseForCut rfl rfl rfl ⟨rfl, hd_X7_chooseForCut⟩ ⟨Nat.le_of_ble_eq_true rfl, Nat.le_of_ble_eq_true rfl⟩) ⟨bl_g, va_recvX hK.1 hP (ci := 7) (q0 := 0) rfl rfl, fun U hU hW => ⟨rfl, by rw [hU], by rw [hU]; exact hPc, ⟨kk_mv hW hK, arrOfT_moved hW.alike hG⟩, hDw⟩⟩ rfl rfl hl.1 rfl (lv_room (Nat.le_of_ble_eq_true rfl)) dB_36_1_60.1.2.1.1 ⟨Nat.le_of_ble_eq_true rfl, Nat.le_of_ble_eq_true rfl⟩) hS (fun q _ h => hFc q h) hFc (fun u t H locs ht hvm hw hB hz1 hk1 hS => ?_)
          obtain ⟨v5_21, v6_22, hP1, hD1⟩ := hB
          rw [ht] at hP1
          obtain ⟨hP, hD⟩ := va_join (wr := []) (w1 := [ob7_0_ xh xc u1 u2 u3 u4 v5_21 v6_22 u7 u8, ob0_0_ xc xn xk clo cro c4 c5 c6 c7 c8, ob3_0_ xn vp vn n1 n2 n3 n4 n5, aq_ cy 6 clo 12 (gf_ rl), ai_ cy (rl 0) 12 (Ml 0), ai_ cy (rl 1) 12 (Ml 1), ai_ cy (rl 2) 12 (Ml 2), ai_ cy (rl 3) 12 (Ml 3), ai_ cy (rl 4) 12 (Ml 4), ai_ cy (rl 5) 12 (Ml 5), ai_ cy (rl 6) 12 (Ml 6), ai_ cy (rl 7) 12 (Ml 7), ai_ cy (rl 8) 12 (Ml 8), ai_ cy (rl 9) 12 (Ml 9), ai_ cy (rl 10) 12 (Ml 10), ai_ cy (rl 11) 12 (Ml 11)]) hP hD [0, 1, 2, 3, 4, 5, 6, 7, 8, 9, 10, 11, 12, 13, 14, 15] [] hC_ rfl (by decide) (by decide) hk1 hFc hP1 hD1
          refine pd_K [ob7_0_ xh xc u1 u2 u3 u4 v5_21 v6_22 u7 u8, ob0_0_ xc xn xk clo cro c4 c5 c6 c7 c8, ob3_0_ xn vp vn n1 n2 n3 n4 n5, aq_ cy 6 clo 12 (gf_ rl), ai_ cy (rl 0) 12 (Ml 0), ai_ cy (rl 1) 12 (Ml 1), ai_ cy (rl 2) 12 (Ml 2), ai_ cy (rl 3) 12 (Ml 3), ai_ cy (rl 4) 12 (Ml 4), ai_ cy (rl 5) 12 (Ml 5), ai_ cy (rl 6) 12 (Ml 6), ai_ cy (rl 7) 12 (Ml 7), ai_ cy (rl 8) 12 (Ml 8), ai_ cy (rl 9) 12 (Ml 9), ai_ cy (rl 10) 12 (Ml 10), ai_ cy (rl 11) 12 (Ml 11)] hP hD (fun hP hD => ?_)
          exact JOIN_5 v5_21 v6_22 _ _ _ ⟨hP, hD⟩ hS (lv_sub hl [0, 1, 2, 3, 4] rfl)
      · have t_3 : ¬ (0 : Int32).toInt ≤ a1.toInt := fun h => c_3 (Int32.le_iff_toInt_le.mpr h)
        refine lv_aload_n hx hb dB_36_1_58.2.1.2.2 rfl (lv_at hl 0 rfl) ?_
        refine lv_iload_n hx hb dB_36_1_58.2.2.1.1 rfl (lv_at hl 2 rfl) ?_
        refine lv_iload_n hx hb dB_36_1_58.2.2.1.2 rfl (lv_at hl 3 rfl) ?_
        refine ct_S hP hD hS hA [ob7_0_ xh xc u1 u2 u3 u4 u5 u6 u7 u8] [0] (by decide) rfl (fun hPc hDw hFc hC_ => ?_)
        refine va_callv (va_runV (As := [.int a2, .int a3]) (rest := []) ⟨hx, hb, hml, hown, hts⟩ (c_X7_meet l D cy s.heap.size xh u1 u2 u3 u4 u5 u6 u7 u8 xc a2 a3) (cwV 2 hts gX7_chooseForCut_X7_meet rfl rfl rfl ⟨rfl, hd_X7_meet⟩ ⟨Nat.le_of_ble_eq_true rfl, Nat.le_of_ble_eq_true rfl⟩) ⟨bl_, va_recvX hK.1 hP (ci := 7) (q0 := 0) rfl rfl, fun U hU hW => ⟨rfl, by rw [hU], by rw [hU]; exact hPc, kk_mv hW hK, hDw⟩⟩ rfl rfl hl.1 rfl (lv_room (Nat.le_of_ble_eq_true rfl)) dB_36_1_58.2.2.2.1 ⟨Nat.le_of_ble_eq_true rfl, Nat.le_of_ble_eq_true rfl⟩) hS (fun q _ h => hFc q h) hFc (fun u t H locs ht hvm hw hB hz1 hk1 hS => ?_)
        obtain ⟨v5_24, v6_25, hP1, hD1⟩ := hB
        rw [ht] at hP1
        obtain ⟨hP, hD⟩ := va_join (wr := [ob0_0_ xc xn xk clo cro c4 c5 c6 c7 c8, ob3_0_ xn vp vn n1 n2 n3 n4 n5, aq_ cy 6 clo 12 (gf_ rl), ai_ cy (rl 0) 12 (Ml 0), ai_ cy (rl 1) 12 (Ml 1), ai_ cy (rl 2) 12 (Ml 2), ai_ cy (rl 3) 12 (Ml 3), ai_ cy (rl 4) 12 (Ml 4), ai_ cy (rl 5) 12 (Ml 5), ai_ cy (rl 6) 12 (Ml 6), ai_ cy (rl 7) 12 (Ml 7), ai_ cy (rl 8) 12 (Ml 8), ai_ cy (rl 9) 12 (Ml 9), ai_ cy (rl 10) 12 (Ml 10), ai_ cy (rl 11) 12 (Ml 11)]) (w1 := [ob7_0_ xh xc u1 u2 u3 u4 v5_24 v6_25 u7 u8]) hP hD [0] [1, 2, 3, 4, 5, 6, 7, 8, 9, 10, 11, 12, 13, 14, 15] hC_ rfl (by decide +kernel) (by decide +kernel) hk1 hFc hP1 hD1
        refine pd_S hP hD [ob7_0_ xh xc u1 u2 u3 u4 v5_24 v6_25 u7 u8, ob0_0_ xc xn xk clo cro c4 c5 c6 c7 c8, ob3_0_ xn vp vn n1 n2 n3 n4 n5, aq_ cy 6 clo 12 (gf_ rl), ai_ cy (rl 0) 12 (Ml 0), ai_ cy (rl 1) 12 (Ml 1), ai_ cy (rl 2) 12 (Ml 2), ai_ cy (rl 3) 12 (Ml 3), ai_ cy (rl 4) 12 (Ml 4), ai_ cy (rl 5) 12 (Ml 5), ai_ cy (rl 6) 12 (Ml 6), ai_ cy (rl 7) 12 (Ml 7), ai_ cy (rl 8) 12 (Ml 8), ai_ cy (rl 9) 12 (Ml 9), ai_ cy (rl 10) 12 (Ml 10), ai_ cy (rl 11) 12 (Ml 11)] [15, 0, 1, 2, 3, 4, 5, 6, 7, 8, 9, 10, 11, 12, 13, 14] (by decide +kernel) rfl (fun hP hD => ?_)
        rw [hQ]
        exact W.vret hx hb hr (fun t ht hW => ⟨⟨(), rfl, trivial, v5_24, v6_25, by rw [ht]; exact hP, hD⟩, hS.F ht⟩) hS.2.2 dB_36_1_58.2.2.2.2
    · have t_2 : ¬ u6.toInt = ((-9) : Int32).toInt := fun h => c_2 (Int32.toInt_inj.mp h)
      rw [hQ]
      exact W.vret hx hb hr (fun t ht hW => ⟨⟨(), rfl, trivial, u5, u6, by rw [ht]; exact hP, hD⟩, hS.F ht⟩) hS.2.2 dB_36_1_58.2.1.1.1

set_option maxHeartbeats 4000000 in
set_option maxRecDepth 100000 in
theorem c_X7_chooseForCut_11 (l : Launch) (D : va_G) (cy : Nat → ClassId) (sz : Nat) (xh : Nat) (u1 : Int32) (u2 : Int32) (u3 : Int32) (u4 : Int32) (u5 : Int32) (u6 : Int32) (u7 : Int32) (u8 : Int32) (xc : Nat) (xk : Nat) (clo : Nat) (cro : Nat) (c4 : Nat) (c5 : Nat) (c6 : Nat) (c7 : Nat) (c8 : Nat) (xn : Nat) (n1 : Nat) (n2 : Nat) (n3 : Nat) (n4 : Nat) (n5 : Nat) (vp : Int32) (vn : Int32) (rl : Nat → Nat) (Ml : Nat → Nat → Int32) (a1 : Int32) (a2 : Int32) (a3 : Int32) (hvp : 0 ≤ vp.toInt ∧ vp.toInt ≤ 12) (q1 : -1 ≤ a1.toInt ∧ a1.toInt < 11) : Met l yX7_chooseForCut wsX7_chooseForCut ({ frames := 12, cells := 0, slots := 0, locals := 286 }) (va_Pc [.ref xh, .int a1, .int a2, .int a3] (fun U => U.heap.size = sz ∧ va_P D vwCl [ob7_0_ xh xc u1 u2 u3 u4 u5 u6 u7 u8, ob0_0_ xc xn xk clo cro c4 c5 c6 c7 c8, ob3_0_ xn vp vn n1 n2 n3 n4 n5, aq_ cy 6 clo 12 (gf_ rl), ai_ cy (rl 0) 12 (Ml 0), ai_ cy (rl 1) 12 (Ml 1), ai_ cy (rl 2) 12 (Ml 2), ai_ cy (rl 3) 12 (Ml 3), ai_ cy (rl 4) 12 (Ml 4), ai_ cy (rl 5) 12 (Ml 5), ai_ cy (rl 6) 12 (Ml 6), ai_ cy (rl 7) 12 (Ml 7), ai_ cy (rl 8) 12 (Ml 8), ai_ cy (rl 9) 12 (Ml 9), ai_ cy (rl 10) 12 (Ml 10), ai_ cy (rl 11) 12 (Ml 11)] U.heap ∧ kg_ D cy U ∧ va_D (fun _ => True) [ob7_0_ xh xc u1 u2 u3 u4 u5 u6 u7 u8, ob0_0_ xc xn xk clo cro c4 c5 c6 c7 c8, ob3_0_ xn vp vn n1 n2 n3 n4 n5, aq_ cy 6 clo 12 (gf_ rl), ai_ cy (rl 0) 12 (Ml 0), ai_ cy (rl 1) 12 (Ml 1), ai_ cy (rl 2) 12 (Ml 2), ai_ cy (rl 3) 12 (Ml 3), ai_ cy (rl 4) 12 (Ml 4), ai_ cy (rl 5) 12 (Ml 5), ai_ cy (rl 6) 12 (Ml 6), ai_ cy (rl 7) 12 (Ml 7), ai_ cy (rl 8) 12 (Ml 8), ai_ cy (rl 9) 12 (Ml 9), ai_ cy (rl 10) 12 (Ml 10), ai_ cy (rl 11) 12 (Ml 11)])) (va_Qv (fun (_ : Unit) => True) (fun (_ : Unit) (t : State) => ∃ (v5 : Int32), ∃ (v6 : Int32), va_P D vwCl [ob7_0_ xh xc u1 u2 u3 u4 v5 v6 u7 u8, ob0_0_ xc xn xk clo cro c4 c5 c6 c7 c8, ob3_0_ xn vp vn n1 n2 n3 n4 n5, aq_ cy 6 clo 12 (gf_ rl), ai_ cy (rl 0) 12 (Ml 0), ai_ cy (rl 1) 12 (Ml 1), ai_ cy (rl 2) 12 (Ml 2), ai_ cy (rl 3) 12 (Ml 3), ai_ cy (rl 4) 12 (Ml 4), ai_ cy (rl 5) 12 (Ml 5), ai_ cy (rl 6) 12 (Ml 6), ai_ cy (rl 7) 12 (Ml 7), ai_ cy (rl 8) 12 (Ml 8), ai_ cy (rl 9) 12 (Ml 9), ai_ cy (rl 10) 12 (Ml 10), ai_ cy (rl 11) 12 (Ml 11)] t.heap ∧ va_D (va_A [ob7_0_ xh xc u1 u2 u3 u4 u5 u6 u7 u8, ob0_0_ xc xn xk clo cro c4 c5 c6 c7 c8, ob3_0_ xn vp vn n1 n2 n3 n4 n5, aq_ cy 6 clo 12 (gf_ rl), ai_ cy (rl 0) 12 (Ml 0), ai_ cy (rl 1) 12 (Ml 1), ai_ cy (rl 2) 12 (Ml 2), ai_ cy (rl 3) 12 (Ml 3), ai_ cy (rl 4) 12 (Ml 4), ai_ cy (rl 5) 12 (Ml 5), ai_ cy (rl 6) 12 (Ml 6), ai_ cy (rl 7) 12 (Ml 7), ai_ cy (rl 8) 12 (Ml 8), ai_ cy (rl 9) 12 (Ml 9), ai_ cy (rl 10) 12 (Ml 10), ai_ cy (rl 11) 12 (Ml 11)] sz) [ob7_0_ xh xc u1 u2 u3 u4 v5 v6 u7 u8, ob0_0_ xc xn xk clo cro c4 c5 c6 c7 c8, ob3_0_ xn vp vn n1 n2 n3 n4 n5, aq_ cy 6 clo 12 (gf_ rl), ai_ cy (rl 0) 12 (Ml 0), ai_ cy (rl 1) 12 (Ml 1), ai_ cy (rl 2) 12 (Ml 2), ai_ cy (rl 3) 12 (Ml 3), ai_ cy (rl 4) 12 (Ml 4), ai_ cy (rl 5) 12 (Ml 5), ai_ cy (rl 6) 12 (Ml 6), ai_ cy (rl 7) 12 (Ml 7), ai_ cy (rl 8) 12 (Ml 8), ai_ cy (rl 9) 12 (Ml 9), ai_ cy (rl 10) 12 (Ml 10), ai_ cy (rl 11) 12 (Ml 11)]) (va_A [ob7_0_ xh xc u1 u2 u3 u4 u5 u6 u7 u8, ob0_0_ xc xn xk clo cro c4 c5 c6 c7 c8, ob3_0_ xn vp vn n1 n2 n3 n4 n5, aq_ cy 6 clo 12 (gf_ rl), ai_ cy (rl 0) 12 (Ml 0), ai_ cy (rl 1) 12 (Ml 1), ai_ cy (rl 2) 12 (Ml 2), ai_ cy (rl 3) 12 (Ml 3), ai_ cy (rl 4) 12 (Ml 4), ai_ cy (rl 5) 12 (Ml 5), ai_ cy (rl 6) 12 (Ml 6), ai_ cy (rl 7) 12 (Ml 7), ai_ cy (rl 8) 12 (Ml 8), ai_ cy (rl 9) 12 (Ml 9), ai_ cy (rl 10) 12 (Ml 10), ai_ cy (rl 11) 12 (Ml 11)] sz)) 0 0 (va_A [ob7_0_ xh xc u1 u2 u3 u4 u5 u6 u7 u8, ob0_0_ xc xn xk clo cro c4 c5 c6 c7 c8, ob3_0_ xn vp vn n1 n2 n3 n4 n5, aq_ cy 6 clo 12 (gf_ rl), ai_ cy (rl 0) 12 (Ml 0), ai_ cy (rl 1) 12 (Ml 1), ai_ cy (rl 2) 12 (Ml 2), ai_ cy (rl 3) 12 (Ml 3), ai_ cy (rl 4) 12 (Ml 4), ai_ cy (rl 5) 12 (Ml 5), ai_ cy (rl 6) 12 (Ml 6), ai_ cy (rl 7) 12 (Ml 7), ai_ cy (rl 8) 12 (Ml 8), ai_ cy (rl 9) 12 (Ml 9), ai_ cy (rl 10) 12 (Ml 10), ai_ cy (rl 11) 12 (Ml 11)] sz) := by
  refine ofQ (cc := cX7_chooseForCut) (maxL := 5) (ret := none) (by decide) rfl ?_
  intro p e s m args below meth c s₁ Q hQ B hml hv
  obtain ⟨rfl, hsz, hP, hK, hD0⟩ := hv
  have hG := hK.2
  have hK := hK.1
  have hx := B.exec
  have hb := B.bytes
  have hr := B.returns
  have hts := atoms_spec (ws := wsX7_chooseForCut) B.pre
  have hown : s.vm.findClass RX7 = some m.cls := by have h_ := findClass_of_methodNamed B.named; exact h_
  have hlocks := B.notSynchronized
  subst hsz
  have hD := hD0.self (sz := s.heap.size)
  generalize hAe : va_A [ob7_0_ xh xc u1 u2 u3 u4 u5 u6 u7 u8, ob0_0_ xc xn xk clo cro c4 c5 c6 c7 c8, ob3_0_ xn vp vn n1 n2 n3 n4 n5, aq_ cy 6 clo 12 (gf_ rl), ai_ cy (rl 0) 12 (Ml 0), ai_ cy (rl 1) 12 (Ml 1), ai_ cy (rl 2) 12 (Ml 2), ai_ cy (rl 3) 12 (Ml 3), ai_ cy (rl 4) 12 (Ml 4), ai_ cy (rl 5) 12 (Ml 5), ai_ cy (rl 6) 12 (Ml 6), ai_ cy (rl 7) 12 (Ml 7), ai_ cy (rl 8) 12 (Ml 8), ai_ cy (rl 9) 12 (Ml 9), ai_ cy (rl 10) 12 (Ml 10), ai_ cy (rl 11) 12 (Ml 11)] s.heap.size = A at hD hQ
  have hA : ∀ q : Nat, s.heap.size ≤ q → A q := fun q h => by rw [← hAe]; exact Or.inr h
  have hS : va_S A s.heap s.heap [] := va_S.rf
  have hl := lv_entry ([.ref xh, .int a1, .int a2, .int a3]) (n := 5) (Nat.le_of_ble_eq_true rfl)
  rw [lg_entry_eq]
  generalize (lg_sl ([.ref xh, .int a1, .int a2, .int a3]) ++ List.replicate (5 - (lg_sl ([.ref xh, .int a1, .int a2, .int a3])).length) Slot.unset).toArray = ls at hl ⊢
  have hl : lv_has ls 5 [(0, .ref xh), (1, .int a1), (2, .int a2), (3, .int a3)] := hl
  have zm9 : ((-9) : Int32).toInt = -9 := by decide
  have z0 : (0 : Int32).toInt = 0 := by decide
  have z1 : (1 : Int32).toInt = 1 := by decide
  refine lv_iload_n hx hb dB_36_1_58.1.1.1.1 rfl (lv_at hl 3 rfl) ?_
  refine lv_aload_n hx hb dB_36_1_58.1.1.1.2 rfl (lv_at hl 0 rfl) ?_
  refine va_get (ci := 7) (v := .int u3) (C := RX7) (T := TX7) (N := 9) hx hb hts (fun _ h => List.mem_cons_of_mem _ (List.mem_append_left _ (List.mem_append_left _ (List.mem_append_right _ h)))) hown hK.1 hP 0 rfl rfl 3 (by decide) (hts (.fieldLink RX7 33 "CutAtlas$SetHunt" "aim" "I") (List.mem_of_getElem? (i := 1) rfl)) (fun _ h9 => h9) rfl dB_36_1_58.1.1.2.1 ?_
  refine lv_icmp_gt (tgt := 17) hx hb dB_36_1_58.1.1.2.2 (by decide) (fun c_1 => ?_) (fun c_1 => ?_)
  · have t_1 : u3.toInt < a3.toInt := Int32.lt_iff_toInt_lt.mp c_1
    rw [hQ]
    exact W.vret hx hb hr (fun t ht hW => ⟨⟨(), rfl, trivial, u5, u6, by rw [ht]; exact hP, hD⟩, hS.F ht⟩) hS.2.2 dB_36_1_58.2.1.1.1
  · have t_1 : ¬ u3.toInt < a3.toInt := fun h => c_1 (Int32.lt_iff_toInt_lt.mpr h)
    refine lv_aload_n hx hb dB_36_1_58.1.2.1.1 rfl (lv_at hl 0 rfl) ?_
    refine va_get (ci := 7) (v := .int u6) (C := RX7) (T := TX7) (N := 9) hx hb hts (fun _ h => List.mem_cons_of_mem _ (List.mem_append_left _ (List.mem_append_left _ (List.mem_append_right _ h)))) hown hK.1 hP 0 rfl rfl 6 (by decide) (hts (.fieldLink RX7 24 "CutAtlas$SetHunt" "found" "I") (List.mem_of_getElem? (i := 2) rfl)) (fun _ h9 => h9) rfl dB_36_1_58.1.2.1.2 ?_
    refine lv_bipush (v := (-9)) hx hb dB_36_1_58.1.2.2.1 (by decide) ?_
    refine lv_icmp_eq (tgt := 18) hx hb dB_36_1_58.1.2.2.2 (by decide) (fun c_2 => ?_) (fun c_2 => ?_)
    · have t_2 : u6.toInt = ((-9) : Int32).toInt := congrArg Int32.toInt c_2
      refine lv_iload_n hx hb dB_36_1_58.2.1.1.2 rfl (lv_at hl 1 rfl) ?_
      refine lv_if_ge (tgt := 29) hx hb dB_36_1_58.2.1.2.1 (by decide) (fun c_3 => ?_) (fun c_3 => ?_)
      · have t_3 : (0 : Int32).toInt ≤ a1.toInt := Int32.le_iff_toInt_le.mp c_3
        refine lv_iconst (v := 1) hx hb dB_36_1_59.1.1.1.1 (by decide) ?_
        refine lv_iload_n hx hb dB_36_1_59.1.1.1.2 rfl (lv_at hl 1 rfl) ?_
        refine lv_ishl hx hb dB_36_1_59.1.1.2.1 ?_
        refine lv_topi (fun y_4 ey_4 => ?_)
        refine lv_istore (lv' := [(4, .int y_4), (0, .ref xh), (1, .int a1), (2, .int a2), (3, .int a3)]) hx hb dB_36_1_59.1.1.2.2 hl (by decide) rfl (fun ls hl => ?_)
        have JOIN_5 : ∀ (o5_5 : Int32) (o6_5 : Int32) (H : Heap) (locs : List Loc) (ls : Array Slot), pd_2 D vwCl A [ob7_0_ xh xc u1 u2 u3 u4 o5_5 o6_5 u7 u8, ob0_0_ xc xn xk clo cro c4 c5 c6 c7 c8, ob3_0_ xn vp vn n1 n2 n3 n4 n5, aq_ cy 6 clo 12 (gf_ rl), ai_ cy (rl 0) 12 (Ml 0), ai_ cy (rl 1) 12 (Ml 1), ai_ cy (rl 2) 12 (Ml 2), ai_ cy (rl 3) 12 (Ml 3), ai_ cy (rl 4) 12 (Ml 4), ai_ cy (rl 5) 12 (Ml 5), ai_ cy (rl 6) 12 (Ml 6), ai_ cy (rl 7) 12 (Ml 7), ai_ cy (rl 8) 12 (Ml 8), ai_ cy (rl 9) 12 (Ml 9), ai_ cy (rl 10) 12 (Ml 10), ai_ cy (rl 11) 12 (Ml 11)] H → va_S A s.heap H locs → lv_has ls 5 [(4, .int y_4), (0, .ref xh), (1, .int a1), (2, .int a2), (3, .int a3)] → W p l e ({ frames := 12, cells := 0, slots := 0, locals := 286 } : Room) s m (([.ref xh, .int a1, .int a2, .int a3] : List Value).toArray) below meth c H locs 0 0 Q (F0 m 60 ls []) := by
          intro o5_5 o6_5 H locs ls hPD hS hl; obtain ⟨hP, hD⟩ := hPD
          refine lv_aload_n hx hb dB_36_1_60.1.2.1.2 rfl (lv_at hl 1 rfl) ?_
          refine va_get (ci := 7) (v := .int u2) (C := RX7) (T := TX7) (N := 9) hx hb hts (fun _ h => List.mem_cons_of_mem _ (List.mem_append_left _ (List.mem_append_left _ (List.mem_append_right _ h)))) hown hK.1 hP 0 rfl rfl 2 (by decide) (hts (.fieldLink RX7 30 "CutAtlas$SetHunt" "mustNot" "I") (List.mem_of_getElem? (i := 4) rfl)) (fun _ h9 => h9) rfl dB_36_1_60.1.2.2.1 ?_
          refine lv_iload hx hb dB_36_1_60.1.2.2.2 (lv_at hl 0 rfl) ?_
          refine lv_iand hx hb dB_36_1_60.2.1.1.1 ?_
          refine lv_topi (fun y_6 ey_6 => ?_)
          refine lv_if_ne (tgt := 89) hx hb dB_36_1_60.2.1.1.2 (by decide) (fun c_7 => ?_) (fun c_7 => ?_)
          · have t_7 : ¬ y_6.toInt = (0 : Int32).toInt := fun h => c_7 (Int32.toInt_inj.mp h)
            rw [hQ]
            exact W.vret hx hb hr (fun t ht hW => ⟨⟨(), rfl, trivial, o5_5, o6_5, by rw [ht]; exact hP, hD⟩, hS.F ht⟩) hS.2.2 dB_36_1_61.2.2.2.2
          · have t_7 : y_6.toInt = (0 : Int32).toInt := congrArg Int32.toInt c_7
            refine lv_aload_n hx hb dB_36_1_60.2.1.2.1 rfl (lv_at hl 1 rfl) ?_
            refine lv_iload_n hx hb dB_36_1_60.2.1.2.2 rfl (lv_at hl 2 rfl) ?_
            refine lv_iconst (v := 1) hx hb dB_36_1_60.2.2.1.1 (by decide) ?_
            refine lv_isub hx hb dB_36_1_60.2.2.1.2 ?_
            refine lv_topi (fun y_8 ey_8 => ?_)
            have ty_8 : y_8.toInt = a1.toInt - (1 : Int32).toInt := by rw [ey_8]; exact subI (by omega) (by omega)
            refine lv_iload_n hx hb dB_36_1_60.2.2.2.1 rfl (lv_at hl 3 rfl) ?_
            refine lv_iload hx hb dB_36_1_60.2.2.2.2 (lv_at hl 0 rfl) ?_
            refine lv_ior hx hb dB_36_1_61.1.1.1 ?_
            refine lv_topi (fun y_9 ey_9 => ?_)
            refine lv_iload_n hx hb dB_36_1_61.1.1.2 rfl (lv_at hl 4 rfl) ?_
            refine lv_aload_n hx hb dB_36_1_61.1.2.1 rfl (lv_at hl 1 rfl) ?_
            refine lv_iload_n hx hb dB_36_1_61.1.2.2 rfl (lv_at hl 2 rfl) ?_
            refine lv_iload_n hx hb dB_36_1_61.2.1.1 rfl (lv_at hl 3 rfl) ?_
            refine ct_R hP hD [ob7_0_ xh xc u1 u2 u3 u4 o5_5 o6_5 u7 u8, ob0_0_ xc xn xk clo cro c4 c5 c6 c7 c8, ob3_0_ xn vp vn n1 n2 n3 n4 n5, aq_ cy 6 clo 12 (gf_ rl), ai_ cy (rl 0) 12 (Ml 0), ai_ cy (rl 1) 12 (Ml 1), ai_ cy (rl 2) 12 (Ml 2), ai_ cy (rl 3) 12 (Ml 3), ai_ cy (rl 4) 12 (Ml 4), ai_ cy (rl 5) 12 (Ml 5), ai_ cy (rl 6) 12 (Ml 6), ai_ cy (rl 7) 12 (Ml 7), ai_ cy (rl 8) 12 (Ml 8), ai_ cy (rl 9) 12 (Ml 9), ai_ cy (rl 10) 12 (Ml 10), ai_ cy (rl 11) 12 (Ml 11)] [0, 1, 2, 3, 4, 5, 6, 7, 8, 9, 10, 11, 12, 13, 14, 15] (by decide +kernel) rfl (fun hPc hDw => ?_)
            have hFc := va_free (wc := []) hD hS hA [] rfl
            refine va_calli (va_runV (As := [.int a1, .int a2]) (rest := [.int a3, .int y_9, .int y_8, .ref xh]) ⟨hx, hb, hml, hown, hts⟩ (c_X7_letOut l D cy H.size xh u1 u2 u3 u4 o5_5 o6_5 u7 u8 xc xk clo cro c4 c5 c6 c7 c8 xn n1 n2 n3 n4 n5 vp vn rl Ml a1 a2 (by first | with_reducible assumption | omega | assumption) (by first | with_reducible assumption | omega | assumption)) (cwV 2 hts gX7_chooseForCut_X7_letOut rfl rfl rfl ⟨rfl, hd_X7_letOut⟩ ⟨Nat.le_of_ble_eq_true rfl, Nat.le_of_ble_eq_true rfl⟩) ⟨bl_g, va_recvX hK.1 hP (ci := 7) (q0 := 0) rfl rfl, fun U hU hW => ⟨rfl, by rw [hU], by rw [hU]; exact hPc, ⟨kk_mv hW hK, arrOfT_moved hW.alike hG⟩, hDw⟩⟩ rfl rfl hl.1 rfl (lv_room (Nat.le_of_ble_eq_true rfl)) dB_36_1_61.2.1.2 ⟨Nat.le_of_ble_eq_true rfl, Nat.le_of_ble_eq_true rfl⟩) hS (fun q _ h => hFc q h) hFc (fun r_10 u t H locs ht hvm hw hB hz1 hk1 hS => ?_)
            have hP : va_P D vwCl _ H := ro_keep hP hk1
            refine lv_iadd hx hb dB_36_1_61.2.2.1 ?_
            refine lv_topi (fun y_11 ey_11 => ?_)
            refine ct_S hP hD hS hA [ob7_0_ xh xc u1 u2 u3 u4 o5_5 o6_5 u7 u8, ob0_0_ xc xn xk clo cro c4 c5 c6 c7 c8, ob3_0_ xn vp vn n1 n2 n3 n4 n5, aq_ cy 6 clo 12 (gf_ rl), ai_ cy (rl 0) 12 (Ml 0), ai_ cy (rl 1) 12 (Ml 1), ai_ cy (rl 2) 12 (Ml 2), ai_ cy (rl 3) 12 (Ml 3), ai_ cy (rl 4) 12 (Ml 4), ai_ cy (rl 5) 12 (Ml 5), ai_ cy (rl 6) 12 (Ml 6), ai_ cy (rl 7) 12 (Ml 7), ai_ cy (rl 8) 12 (Ml 8), ai_ cy (rl 9) 12 (Ml 9), ai_ cy (rl 10) 12 (Ml 10), ai_ cy (rl 11) 12 (Ml 11)] [0, 1, 2, 3, 4, 5, 6, 7, 8, 9, 10, 11, 12, 13, 14, 15] (by decide +kernel) rfl (fun hPc hDw hFc hC_ => ?_)
            refine va_callv (va_runV (As := [.int y_8, .int y_9, .int y_11]) (rest := []) ⟨hx, hb, hml, hown, hts⟩ (c_X7_chooseForCut_10 l D cy H.size xh u1 u2 u3 u4 o5_5 o6_5 u7 u8 xc xk clo cro c4 c5 c6 c7 c8 xn n1 n2 n3 n4 n5 vp vn rl Ml y_8 y_9 y_11 (by first | with_reducible assumption | omega | assumption) (by first | with_reducible assumption | omega | assumption)) (cwV 3 hts gX7_chooseForCut_X7_chooseForCut rfl rfl rfl ⟨rfl, hd_X7_chooseForCut⟩ ⟨Nat.le_of_ble_eq_true rfl, Nat.le_of_ble_eq_true rfl⟩) ⟨bl_g, va_recvX hK.1 hP (ci := 7) (q0 := 0) rfl rfl, fun U hU hW => ⟨rfl, by rw [hU], by rw [hU]; exact hPc, ⟨kk_mv hW hK, arrOfT_moved hW.alike hG⟩, hDw⟩⟩ rfl rfl hl.1 rfl (lv_room (Nat.le_of_ble_eq_true rfl)) dB_36_1_61.2.2.2.1 ⟨Nat.le_of_ble_eq_true rfl, Nat.le_of_ble_eq_true rfl⟩) hS (fun q _ h => hFc q h) hFc (fun u t H locs ht hvm hw hB hz1 hk1 hS => ?_)
            obtain ⟨v5_13, v6_14, hP1, hD1⟩ := hB
            rw [ht] at hP1
            obtain ⟨hP, hD⟩ := va_join (wr := []) (w1 := [ob7_0_ xh xc u1 u2 u3 u4 v5_13 v6_14 u7 u8, ob0_0_ xc xn xk clo cro c4 c5 c6 c7 c8, ob3_0_ xn vp vn n1 n2 n3 n4 n5, aq_ cy 6 clo 12 (gf_ rl), ai_ cy (rl 0) 12 (Ml 0), ai_ cy (rl 1) 12 (Ml 1), ai_ cy (rl 2) 12 (Ml 2), ai_ cy (rl 3) 12 (Ml 3), ai_ cy (rl 4) 12 (Ml 4), ai_ cy (rl 5) 12 (Ml 5), ai_ cy (rl 6) 12 (Ml 6), ai_ cy (rl 7) 12 (Ml 7), ai_ cy (rl 8) 12 (Ml 8), ai_ cy (rl 9) 12 (Ml 9), ai_ cy (rl 10) 12 (Ml 10), ai_ cy (rl 11) 12 (Ml 11)]) hP hD [0, 1, 2, 3, 4, 5, 6, 7, 8, 9, 10, 11, 12, 13, 14, 15] [] hC_ rfl (by decide) (by decide) hk1 hFc hP1 hD1
            refine pd_K [ob7_0_ xh xc u1 u2 u3 u4 v5_13 v6_14 u7 u8, ob0_0_ xc xn xk clo cro c4 c5 c6 c7 c8, ob3_0_ xn vp vn n1 n2 n3 n4 n5, aq_ cy 6 clo 12 (gf_ rl), ai_ cy (rl 0) 12 (Ml 0), ai_ cy (rl 1) 12 (Ml 1), ai_ cy (rl 2) 12 (Ml 2), ai_ cy (rl 3) 12 (Ml 3), ai_ cy (rl 4) 12 (Ml 4), ai_ cy (rl 5) 12 (Ml 5), ai_ cy (rl 6) 12 (Ml 6), ai_ cy (rl 7) 12 (Ml 7), ai_ cy (rl 8) 12 (Ml 8), ai_ cy (rl 9) 12 (Ml 9), ai_ cy (rl 10) 12 (Ml 10), ai_ cy (rl 11) 12 (Ml 11)] hP hD (fun hP hD => ?_)
            rw [hQ]
            exact W.vret hx hb hr (fun t ht hW => ⟨⟨(), rfl, trivial, v5_13, v6_14, by rw [ht]; exact hP, hD⟩, hS.F ht⟩) hS.2.2 dB_36_1_61.2.2.2.2
        refine lv_aload_n hx hb dB_36_1_59.1.2.1.1 rfl (lv_at hl 1 rfl) ?_
        refine va_get (ci := 7) (v := .int u1) (C := RX7) (T := TX7) (N := 9) hx hb hts (fun _ h => List.mem_cons_of_mem _ (List.mem_append_left _ (List.mem_append_left _ (List.mem_append_right _ h)))) hown hK.1 hP 0 rfl rfl 1 (by decide) (hts (.fieldLink RX7 27 "CutAtlas$SetHunt" "must" "I") (List.mem_of_getElem? (i := 3) rfl)) (fun _ h9 => h9) rfl dB_36_1_59.1.2.1.2 ?_
        refine lv_iload hx hb dB_36_1_59.1.2.2.1 (lv_at hl 0 rfl) ?_
        refine lv_iand hx hb dB_36_1_59.1.2.2.2 ?_
        refine lv_topi (fun y_15 ey_15 => ?_)
        refine lv_if_ne (tgt := 60) hx hb dB_36_1_59.2.1.1.1 (by decide) (fun c_16 => ?_) (fun c_16 => ?_)
        · have t_16 : ¬ y_15.toInt = (0 : Int32).toInt := fun h => c_16 (Int32.toInt_inj.mp h)
          exact JOIN_5 u5 u6 _ _ _ ⟨hP, hD⟩ hS (lv_sub hl [0, 1, 2, 3, 4] rfl)
        · have t_16 : y_15.toInt = (0 : Int32).toInt := congrArg Int32.toInt c_16
          refine lv_aload_n hx hb dB_36_1_59.2.1.1.2 rfl (lv_at hl 1 rfl) ?_
          refine lv_iload_n hx hb dB_36_1_59.2.1.2.1 rfl (lv_at hl 2 rfl) ?_
          refine lv_iconst (v := 1) hx hb dB_36_1_59.2.1.2.2 (by decide) ?_
          refine lv_isub hx hb dB_36_1_59.2.2.1.1 ?_
          refine lv_topi (fun y_17 ey_17 => ?_)
          have ty_17 : y_17.toInt = a1.toInt - (1 : Int32).toInt := by rw [ey_17]; exact subI (by omega) (by omega)
          refine lv_iload_n hx hb dB_36_1_59.2.2.1.2 rfl (lv_at hl 3 rfl) ?_
          refine lv_iload_n hx hb dB_36_1_59.2.2.2.1 rfl (lv_at hl 4 rfl) ?_
          refine lv_aload_n hx hb dB_36_1_59.2.2.2.2 rfl (lv_at hl 1 rfl) ?_
          refine lv_iload_n hx hb dB_36_1_60.1.1.1.1 rfl (lv_at hl 2 rfl) ?_
          refine lv_iload_n hx hb dB_36_1_60.1.1.1.2 rfl (lv_at hl 3 rfl) ?_
          refine ct_R hP hD [ob7_0_ xh xc u1 u2 u3 u4 u5 u6 u7 u8, ob0_0_ xc xn xk clo cro c4 c5 c6 c7 c8, ob3_0_ xn vp vn n1 n2 n3 n4 n5, aq_ cy 6 clo 12 (gf_ rl), ai_ cy (rl 0) 12 (Ml 0), ai_ cy (rl 1) 12 (Ml 1), ai_ cy (rl 2) 12 (Ml 2), ai_ cy (rl 3) 12 (Ml 3), ai_ cy (rl 4) 12 (Ml 4), ai_ cy (rl 5) 12 (Ml 5), ai_ cy (rl 6) 12 (Ml 6), ai_ cy (rl 7) 12 (Ml 7), ai_ cy (rl 8) 12 (Ml 8), ai_ cy (rl 9) 12 (Ml 9), ai_ cy (rl 10) 12 (Ml 10), ai_ cy (rl 11) 12 (Ml 11)] [0, 1, 2, 3, 4, 5, 6, 7, 8, 9, 10, 11, 12, 13, 14, 15] (by decide +kernel) rfl (fun hPc hDw => ?_)
          have hFc := va_free (wc := []) hD hS hA [] rfl
          refine va_calli (va_runV (As := [.int a1, .int a2]) (rest := [.int a3, .int a2, .int y_17, .ref xh]) ⟨hx, hb, hml, hown, hts⟩ (c_X7_letIn l D cy s.heap.size xh u1 u2 u3 u4 u5 u6 u7 u8 xc xk clo cro c4 c5 c6 c7 c8 xn n1 n2 n3 n4 n5 vp vn rl Ml a1 a2 (by first | with_reducible assumption | omega | assumption) (by first | with_reducible assumption | omega | assumption)) (cwV 2 hts gX7_chooseForCut_X7_letIn rfl rfl rfl ⟨rfl, hd_X7_letIn⟩ ⟨Nat.le_of_ble_eq_true rfl, Nat.le_of_ble_eq_true rfl⟩) ⟨bl_g, va_recvX hK.1 hP (ci := 7) (q0 := 0) rfl rfl, fun U hU hW => ⟨rfl, by rw [hU], by rw [hU]; exact hPc, ⟨kk_mv hW hK, arrOfT_moved hW.alike hG⟩, hDw⟩⟩ rfl rfl hl.1 rfl (lv_room (Nat.le_of_ble_eq_true rfl)) dB_36_1_60.1.1.2.1 ⟨Nat.le_of_ble_eq_true rfl, Nat.le_of_ble_eq_true rfl⟩) hS (fun q _ h => hFc q h) hFc (fun r_18 u t H locs ht hvm hw hB hz1 hk1 hS => ?_)
          have hP : va_P D vwCl _ H := ro_keep hP hk1
          refine lv_iadd hx hb dB_36_1_60.1.1.2.2 ?_
          refine lv_topi (fun y_19 ey_19 => ?_)
          refine ct_S hP hD hS hA [ob7_0_ xh xc u1 u2 u3 u4 u5 u6 u7 u8, ob0_0_ xc xn xk clo cro c4 c5 c6 c7 c8, ob3_0_ xn vp vn n1 n2 n3 n4 n5, aq_ cy 6 clo 12 (gf_ rl), ai_ cy (rl 0) 12 (Ml 0), ai_ cy (rl 1) 12 (Ml 1), ai_ cy (rl 2) 12 (Ml 2), ai_ cy (rl 3) 12 (Ml 3), ai_ cy (rl 4) 12 (Ml 4), ai_ cy (rl 5) 12 (Ml 5), ai_ cy (rl 6) 12 (Ml 6), ai_ cy (rl 7) 12 (Ml 7), ai_ cy (rl 8) 12 (Ml 8), ai_ cy (rl 9) 12 (Ml 9), ai_ cy (rl 10) 12 (Ml 10), ai_ cy (rl 11) 12 (Ml 11)] [0, 1, 2, 3, 4, 5, 6, 7, 8, 9, 10, 11, 12, 13, 14, 15] (by decide +kernel) rfl (fun hPc hDw hFc hC_ => ?_)
          refine va_callv (va_runV (As := [.int y_17, .int a2, .int y_19]) (rest := []) ⟨hx, hb, hml, hown, hts⟩ (c_X7_chooseForCut_10 l D cy H.size xh u1 u2 u3 u4 u5 u6 u7 u8 xc xk clo cro c4 c5 c6 c7 c8 xn n1 n2 n3 n4 n5 vp vn rl Ml y_17 a2 y_19 (by first | with_reducible assumption | omega | assumption) (by first | with_reducible assumption | omega | assumption)) (cwV 3 hts gX7_chooseForCut_X7_chooseForCut rfl rfl rfl ⟨rfl, hd_X7_chooseForCut⟩ ⟨Nat.le_of_ble_eq_true rfl, Nat.le_of_ble_eq_true rfl⟩) ⟨bl_g, va_recvX hK.1 hP (ci := 7) (q0 := 0) rfl rfl, fun U hU hW => ⟨rfl, by rw [hU], by rw [hU]; exact hPc, ⟨kk_mv hW hK, arrOfT_moved hW.alike hG⟩, hDw⟩⟩ rfl rfl hl.1 rfl (lv_room (Nat.le_of_ble_eq_true rfl)) dB_36_1_60.1.2.1.1 ⟨Nat.le_of_ble_eq_true rfl, Nat.le_of_ble_eq_true rfl⟩) hS (fun q _ h => hFc q h) hFc (fun u t H locs ht hvm hw hB hz1 hk1 hS => ?_)
          obtain ⟨v5_21, v6_22, hP1, hD1⟩ := hB
          rw [ht] at hP1
          obtain ⟨hP, hD⟩ := va_join (wr := []) (w1 := [ob7_0_ xh xc u1 u2 u3 u4 v5_21 v6_22 u7 u8, ob0_0_ xc xn xk clo cro c4 c5 c6 c7 c8, ob3_0_ xn vp vn n1 n2 n3 n4 n5, aq_ cy 6 clo 12 (gf_ rl), ai_ cy (rl 0) 12 (Ml 0), ai_ cy (rl 1) 12 (Ml 1), ai_ cy (rl 2) 12 (Ml 2), ai_ cy (rl 3) 12 (Ml 3), ai_ cy (rl 4) 12 (Ml 4), ai_ cy (rl 5) 12 (Ml 5), ai_ cy (rl 6) 12 (Ml 6), ai_ cy (rl 7) 12 (Ml 7), ai_ cy (rl 8) 12 (Ml 8), ai_ cy (rl 9) 12 (Ml 9), ai_ cy (rl 10) 12 (Ml 10), ai_ cy (rl 11) 12 (Ml 11)]) hP hD [0, 1, 2, 3, 4, 5, 6, 7, 8, 9, 10, 11, 12, 13, 14, 15] [] hC_ rfl (by decide) (by decide) hk1 hFc hP1 hD1
          refine pd_K [ob7_0_ xh xc u1 u2 u3 u4 v5_21 v6_22 u7 u8, ob0_0_ xc xn xk clo cro c4 c5 c6 c7 c8, ob3_0_ xn vp vn n1 n2 n3 n4 n5, aq_ cy 6 clo 12 (gf_ rl), ai_ cy (rl 0) 12 (Ml 0), ai_ cy (rl 1) 12 (Ml 1), ai_ cy (rl 2) 12 (Ml 2), ai_ cy (rl 3) 12 (Ml 3), ai_ cy (rl 4) 12 (Ml 4), ai_ cy (rl 5) 12 (Ml 5), ai_ cy (rl 6) 12 (Ml 6), ai_ cy (rl 7) 12 (Ml 7), ai_ cy (rl 8) 12 (Ml 8), ai_ cy (rl 9) 12 (Ml 9), ai_ cy (rl 10) 12 (Ml 10), ai_ cy (rl 11) 12 (Ml 11)] hP hD (fun hP hD => ?_)
          exact JOIN_5 v5_21 v6_22 _ _ _ ⟨hP, hD⟩ hS (lv_sub hl [0, 1, 2, 3, 4] rfl)
      · have t_3 : ¬ (0 : Int32).toInt ≤ a1.toInt := fun h => c_3 (Int32.le_iff_toInt_le.mpr h)
        refine lv_aload_n hx hb dB_36_1_58.2.1.2.2 rfl (lv_at hl 0 rfl) ?_
        refine lv_iload_n hx hb dB_36_1_58.2.2.1.1 rfl (lv_at hl 2 rfl) ?_
        refine lv_iload_n hx hb dB_36_1_58.2.2.1.2 rfl (lv_at hl 3 rfl) ?_
        refine ct_S hP hD hS hA [ob7_0_ xh xc u1 u2 u3 u4 u5 u6 u7 u8] [0] (by decide) rfl (fun hPc hDw hFc hC_ => ?_)
        refine va_callv (va_runV (As := [.int a2, .int a3]) (rest := []) ⟨hx, hb, hml, hown, hts⟩ (c_X7_meet l D cy s.heap.size xh u1 u2 u3 u4 u5 u6 u7 u8 xc a2 a3) (cwV 2 hts gX7_chooseForCut_X7_meet rfl rfl rfl ⟨rfl, hd_X7_meet⟩ ⟨Nat.le_of_ble_eq_true rfl, Nat.le_of_ble_eq_true rfl⟩) ⟨bl_, va_recvX hK.1 hP (ci := 7) (q0 := 0) rfl rfl, fun U hU hW => ⟨rfl, by rw [hU], by rw [hU]; exact hPc, kk_mv hW hK, hDw⟩⟩ rfl rfl hl.1 rfl (lv_room (Nat.le_of_ble_eq_true rfl)) dB_36_1_58.2.2.2.1 ⟨Nat.le_of_ble_eq_true rfl, Nat.le_of_ble_eq_true rfl⟩) hS (fun q _ h => hFc q h) hFc (fun u t H locs ht hvm hw hB hz1 hk1 hS => ?_)
        obtain ⟨v5_24, v6_25, hP1, hD1⟩ := hB
        rw [ht] at hP1
        obtain ⟨hP, hD⟩ := va_join (wr := [ob0_0_ xc xn xk clo cro c4 c5 c6 c7 c8, ob3_0_ xn vp vn n1 n2 n3 n4 n5, aq_ cy 6 clo 12 (gf_ rl), ai_ cy (rl 0) 12 (Ml 0), ai_ cy (rl 1) 12 (Ml 1), ai_ cy (rl 2) 12 (Ml 2), ai_ cy (rl 3) 12 (Ml 3), ai_ cy (rl 4) 12 (Ml 4), ai_ cy (rl 5) 12 (Ml 5), ai_ cy (rl 6) 12 (Ml 6), ai_ cy (rl 7) 12 (Ml 7), ai_ cy (rl 8) 12 (Ml 8), ai_ cy (rl 9) 12 (Ml 9), ai_ cy (rl 10) 12 (Ml 10), ai_ cy (rl 11) 12 (Ml 11)]) (w1 := [ob7_0_ xh xc u1 u2 u3 u4 v5_24 v6_25 u7 u8]) hP hD [0] [1, 2, 3, 4, 5, 6, 7, 8, 9, 10, 11, 12, 13, 14, 15] hC_ rfl (by decide +kernel) (by decide +kernel) hk1 hFc hP1 hD1
        refine pd_S hP hD [ob7_0_ xh xc u1 u2 u3 u4 v5_24 v6_25 u7 u8, ob0_0_ xc xn xk clo cro c4 c5 c6 c7 c8, ob3_0_ xn vp vn n1 n2 n3 n4 n5, aq_ cy 6 clo 12 (gf_ rl), ai_ cy (rl 0) 12 (Ml 0), ai_ cy (rl 1) 12 (Ml 1), ai_ cy (rl 2) 12 (Ml 2), ai_ cy (rl 3) 12 (Ml 3), ai_ cy (rl 4) 12 (Ml 4), ai_ cy (rl 5) 12 (Ml 5), ai_ cy (rl 6) 12 (Ml 6), ai_ cy (rl 7) 12 (Ml 7), ai_ cy (rl 8) 12 (Ml 8), ai_ cy (rl 9) 12 (Ml 9), ai_ cy (rl 10) 12 (Ml 10), ai_ cy (rl 11) 12 (Ml 11)] [15, 0, 1, 2, 3, 4, 5, 6, 7, 8, 9, 10, 11, 12, 13, 14] (by decide +kernel) rfl (fun hP hD => ?_)
        rw [hQ]
        exact W.vret hx hb hr (fun t ht hW => ⟨⟨(), rfl, trivial, v5_24, v6_25, by rw [ht]; exact hP, hD⟩, hS.F ht⟩) hS.2.2 dB_36_1_58.2.2.2.2
    · have t_2 : ¬ u6.toInt = ((-9) : Int32).toInt := fun h => c_2 (Int32.toInt_inj.mp h)
      rw [hQ]
      exact W.vret hx hb hr (fun t ht hW => ⟨⟨(), rfl, trivial, u5, u6, by rw [ht]; exact hP, hD⟩, hS.F ht⟩) hS.2.2 dB_36_1_58.2.1.1.1

set_option maxHeartbeats 4000000 in
set_option maxRecDepth 100000 in
theorem c_X7_chooseForCut_12 (l : Launch) (D : va_G) (cy : Nat → ClassId) (sz : Nat) (xh : Nat) (u1 : Int32) (u2 : Int32) (u3 : Int32) (u4 : Int32) (u5 : Int32) (u6 : Int32) (u7 : Int32) (u8 : Int32) (xc : Nat) (xk : Nat) (clo : Nat) (cro : Nat) (c4 : Nat) (c5 : Nat) (c6 : Nat) (c7 : Nat) (c8 : Nat) (xn : Nat) (n1 : Nat) (n2 : Nat) (n3 : Nat) (n4 : Nat) (n5 : Nat) (vp : Int32) (vn : Int32) (rl : Nat → Nat) (Ml : Nat → Nat → Int32) (a1 : Int32) (a2 : Int32) (a3 : Int32) (hvp : 0 ≤ vp.toInt ∧ vp.toInt ≤ 12) (q1 : -1 ≤ a1.toInt ∧ a1.toInt < 12) : Met l yX7_chooseForCut wsX7_chooseForCut ({ frames := 13, cells := 0, slots := 0, locals := 310 }) (va_Pc [.ref xh, .int a1, .int a2, .int a3] (fun U => U.heap.size = sz ∧ va_P D vwCl [ob7_0_ xh xc u1 u2 u3 u4 u5 u6 u7 u8, ob0_0_ xc xn xk clo cro c4 c5 c6 c7 c8, ob3_0_ xn vp vn n1 n2 n3 n4 n5, aq_ cy 6 clo 12 (gf_ rl), ai_ cy (rl 0) 12 (Ml 0), ai_ cy (rl 1) 12 (Ml 1), ai_ cy (rl 2) 12 (Ml 2), ai_ cy (rl 3) 12 (Ml 3), ai_ cy (rl 4) 12 (Ml 4), ai_ cy (rl 5) 12 (Ml 5), ai_ cy (rl 6) 12 (Ml 6), ai_ cy (rl 7) 12 (Ml 7), ai_ cy (rl 8) 12 (Ml 8), ai_ cy (rl 9) 12 (Ml 9), ai_ cy (rl 10) 12 (Ml 10), ai_ cy (rl 11) 12 (Ml 11)] U.heap ∧ kg_ D cy U ∧ va_D (fun _ => True) [ob7_0_ xh xc u1 u2 u3 u4 u5 u6 u7 u8, ob0_0_ xc xn xk clo cro c4 c5 c6 c7 c8, ob3_0_ xn vp vn n1 n2 n3 n4 n5, aq_ cy 6 clo 12 (gf_ rl), ai_ cy (rl 0) 12 (Ml 0), ai_ cy (rl 1) 12 (Ml 1), ai_ cy (rl 2) 12 (Ml 2), ai_ cy (rl 3) 12 (Ml 3), ai_ cy (rl 4) 12 (Ml 4), ai_ cy (rl 5) 12 (Ml 5), ai_ cy (rl 6) 12 (Ml 6), ai_ cy (rl 7) 12 (Ml 7), ai_ cy (rl 8) 12 (Ml 8), ai_ cy (rl 9) 12 (Ml 9), ai_ cy (rl 10) 12 (Ml 10), ai_ cy (rl 11) 12 (Ml 11)])) (va_Qv (fun (_ : Unit) => True) (fun (_ : Unit) (t : State) => ∃ (v5 : Int32), ∃ (v6 : Int32), va_P D vwCl [ob7_0_ xh xc u1 u2 u3 u4 v5 v6 u7 u8, ob0_0_ xc xn xk clo cro c4 c5 c6 c7 c8, ob3_0_ xn vp vn n1 n2 n3 n4 n5, aq_ cy 6 clo 12 (gf_ rl), ai_ cy (rl 0) 12 (Ml 0), ai_ cy (rl 1) 12 (Ml 1), ai_ cy (rl 2) 12 (Ml 2), ai_ cy (rl 3) 12 (Ml 3), ai_ cy (rl 4) 12 (Ml 4), ai_ cy (rl 5) 12 (Ml 5), ai_ cy (rl 6) 12 (Ml 6), ai_ cy (rl 7) 12 (Ml 7), ai_ cy (rl 8) 12 (Ml 8), ai_ cy (rl 9) 12 (Ml 9), ai_ cy (rl 10) 12 (Ml 10), ai_ cy (rl 11) 12 (Ml 11)] t.heap ∧ va_D (va_A [ob7_0_ xh xc u1 u2 u3 u4 u5 u6 u7 u8, ob0_0_ xc xn xk clo cro c4 c5 c6 c7 c8, ob3_0_ xn vp vn n1 n2 n3 n4 n5, aq_ cy 6 clo 12 (gf_ rl), ai_ cy (rl 0) 12 (Ml 0), ai_ cy (rl 1) 12 (Ml 1), ai_ cy (rl 2) 12 (Ml 2), ai_ cy (rl 3) 12 (Ml 3), ai_ cy (rl 4) 12 (Ml 4), ai_ cy (rl 5) 12 (Ml 5), ai_ cy (rl 6) 12 (Ml 6), ai_ cy (rl 7) 12 (Ml 7), ai_ cy (rl 8) 12 (Ml 8), ai_ cy (rl 9) 12 (Ml 9), ai_ cy (rl 10) 12 (Ml 10), ai_ cy (rl 11) 12 (Ml 11)] sz) [ob7_0_ xh xc u1 u2 u3 u4 v5 v6 u7 u8, ob0_0_ xc xn xk clo cro c4 c5 c6 c7 c8, ob3_0_ xn vp vn n1 n2 n3 n4 n5, aq_ cy 6 clo 12 (gf_ rl), ai_ cy (rl 0) 12 (Ml 0), ai_ cy (rl 1) 12 (Ml 1), ai_ cy (rl 2) 12 (Ml 2), ai_ cy (rl 3) 12 (Ml 3), ai_ cy (rl 4) 12 (Ml 4), ai_ cy (rl 5) 12 (Ml 5), ai_ cy (rl 6) 12 (Ml 6), ai_ cy (rl 7) 12 (Ml 7), ai_ cy (rl 8) 12 (Ml 8), ai_ cy (rl 9) 12 (Ml 9), ai_ cy (rl 10) 12 (Ml 10), ai_ cy (rl 11) 12 (Ml 11)]) (va_A [ob7_0_ xh xc u1 u2 u3 u4 u5 u6 u7 u8, ob0_0_ xc xn xk clo cro c4 c5 c6 c7 c8, ob3_0_ xn vp vn n1 n2 n3 n4 n5, aq_ cy 6 clo 12 (gf_ rl), ai_ cy (rl 0) 12 (Ml 0), ai_ cy (rl 1) 12 (Ml 1), ai_ cy (rl 2) 12 (Ml 2), ai_ cy (rl 3) 12 (Ml 3), ai_ cy (rl 4) 12 (Ml 4), ai_ cy (rl 5) 12 (Ml 5), ai_ cy (rl 6) 12 (Ml 6), ai_ cy (rl 7) 12 (Ml 7), ai_ cy (rl 8) 12 (Ml 8), ai_ cy (rl 9) 12 (Ml 9), ai_ cy (rl 10) 12 (Ml 10), ai_ cy (rl 11) 12 (Ml 11)] sz)) 0 0 (va_A [ob7_0_ xh xc u1 u2 u3 u4 u5 u6 u7 u8, ob0_0_ xc xn xk clo cro c4 c5 c6 c7 c8, ob3_0_ xn vp vn n1 n2 n3 n4 n5, aq_ cy 6 clo 12 (gf_ rl), ai_ cy (rl 0) 12 (Ml 0), ai_ cy (rl 1) 12 (Ml 1), ai_ cy (rl 2) 12 (Ml 2), ai_ cy (rl 3) 12 (Ml 3), ai_ cy (rl 4) 12 (Ml 4), ai_ cy (rl 5) 12 (Ml 5), ai_ cy (rl 6) 12 (Ml 6), ai_ cy (rl 7) 12 (Ml 7), ai_ cy (rl 8) 12 (Ml 8), ai_ cy (rl 9) 12 (Ml 9), ai_ cy (rl 10) 12 (Ml 10), ai_ cy (rl 11) 12 (Ml 11)] sz) := by
  refine ofQ (cc := cX7_chooseForCut) (maxL := 5) (ret := none) (by decide) rfl ?_
  intro p e s m args below meth c s₁ Q hQ B hml hv
  obtain ⟨rfl, hsz, hP, hK, hD0⟩ := hv
  have hG := hK.2
  have hK := hK.1
  have hx := B.exec
  have hb := B.bytes
  have hr := B.returns
  have hts := atoms_spec (ws := wsX7_chooseForCut) B.pre
  have hown : s.vm.findClass RX7 = some m.cls := by have h_ := findClass_of_methodNamed B.named; exact h_
  have hlocks := B.notSynchronized
  subst hsz
  have hD := hD0.self (sz := s.heap.size)
  generalize hAe : va_A [ob7_0_ xh xc u1 u2 u3 u4 u5 u6 u7 u8, ob0_0_ xc xn xk clo cro c4 c5 c6 c7 c8, ob3_0_ xn vp vn n1 n2 n3 n4 n5, aq_ cy 6 clo 12 (gf_ rl), ai_ cy (rl 0) 12 (Ml 0), ai_ cy (rl 1) 12 (Ml 1), ai_ cy (rl 2) 12 (Ml 2), ai_ cy (rl 3) 12 (Ml 3), ai_ cy (rl 4) 12 (Ml 4), ai_ cy (rl 5) 12 (Ml 5), ai_ cy (rl 6) 12 (Ml 6), ai_ cy (rl 7) 12 (Ml 7), ai_ cy (rl 8) 12 (Ml 8), ai_ cy (rl 9) 12 (Ml 9), ai_ cy (rl 10) 12 (Ml 10), ai_ cy (rl 11) 12 (Ml 11)] s.heap.size = A at hD hQ
  have hA : ∀ q : Nat, s.heap.size ≤ q → A q := fun q h => by rw [← hAe]; exact Or.inr h
  have hS : va_S A s.heap s.heap [] := va_S.rf
  have hl := lv_entry ([.ref xh, .int a1, .int a2, .int a3]) (n := 5) (Nat.le_of_ble_eq_true rfl)
  rw [lg_entry_eq]
  generalize (lg_sl ([.ref xh, .int a1, .int a2, .int a3]) ++ List.replicate (5 - (lg_sl ([.ref xh, .int a1, .int a2, .int a3])).length) Slot.unset).toArray = ls at hl ⊢
  have hl : lv_has ls 5 [(0, .ref xh), (1, .int a1), (2, .int a2), (3, .int a3)] := hl
  have zm9 : ((-9) : Int32).toInt = -9 := by decide
  have z0 : (0 : Int32).toInt = 0 := by decide
  have z1 : (1 : Int32).toInt = 1 := by decide
  refine lv_iload_n hx hb dB_36_1_58.1.1.1.1 rfl (lv_at hl 3 rfl) ?_
  refine lv_aload_n hx hb dB_36_1_58.1.1.1.2 rfl (lv_at hl 0 rfl) ?_
  refine va_get (ci := 7) (v := .int u3) (C := RX7) (T := TX7) (N := 9) hx hb hts (fun _ h => List.mem_cons_of_mem _ (List.mem_append_left _ (List.mem_append_left _ (List.mem_append_right _ h)))) hown hK.1 hP 0 rfl rfl 3 (by decide) (hts (.fieldLink RX7 33 "CutAtlas$SetHunt" "aim" "I") (List.mem_of_getElem? (i := 1) rfl)) (fun _ h9 => h9) rfl dB_36_1_58.1.1.2.1 ?_
  refine lv_icmp_gt (tgt := 17) hx hb dB_36_1_58.1.1.2.2 (by decide) (fun c_1 => ?_) (fun c_1 => ?_)
  · have t_1 : u3.toInt < a3.toInt := Int32.lt_iff_toInt_lt.mp c_1
    rw [hQ]
    exact W.vret hx hb hr (fun t ht hW => ⟨⟨(), rfl, trivial, u5, u6, by rw [ht]; exact hP, hD⟩, hS.F ht⟩) hS.2.2 dB_36_1_58.2.1.1.1
  · have t_1 : ¬ u3.toInt < a3.toInt := fun h => c_1 (Int32.lt_iff_toInt_lt.mpr h)
    refine lv_aload_n hx hb dB_36_1_58.1.2.1.1 rfl (lv_at hl 0 rfl) ?_
    refine va_get (ci := 7) (v := .int u6) (C := RX7) (T := TX7) (N := 9) hx hb hts (fun _ h => List.mem_cons_of_mem _ (List.mem_append_left _ (List.mem_append_left _ (List.mem_append_right _ h)))) hown hK.1 hP 0 rfl rfl 6 (by decide) (hts (.fieldLink RX7 24 "CutAtlas$SetHunt" "found" "I") (List.mem_of_getElem? (i := 2) rfl)) (fun _ h9 => h9) rfl dB_36_1_58.1.2.1.2 ?_
    refine lv_bipush (v := (-9)) hx hb dB_36_1_58.1.2.2.1 (by decide) ?_
    refine lv_icmp_eq (tgt := 18) hx hb dB_36_1_58.1.2.2.2 (by decide) (fun c_2 => ?_) (fun c_2 => ?_)
    · have t_2 : u6.toInt = ((-9) : Int32).toInt := congrArg Int32.toInt c_2
      refine lv_iload_n hx hb dB_36_1_58.2.1.1.2 rfl (lv_at hl 1 rfl) ?_
      refine lv_if_ge (tgt := 29) hx hb dB_36_1_58.2.1.2.1 (by decide) (fun c_3 => ?_) (fun c_3 => ?_)
      · have t_3 : (0 : Int32).toInt ≤ a1.toInt := Int32.le_iff_toInt_le.mp c_3
        refine lv_iconst (v := 1) hx hb dB_36_1_59.1.1.1.1 (by decide) ?_
        refine lv_iload_n hx hb dB_36_1_59.1.1.1.2 rfl (lv_at hl 1 rfl) ?_
        refine lv_ishl hx hb dB_36_1_59.1.1.2.1 ?_
        refine lv_topi (fun y_4 ey_4 => ?_)
        refine lv_istore (lv' := [(4, .int y_4), (0, .ref xh), (1, .int a1), (2, .int a2), (3, .int a3)]) hx hb dB_36_1_59.1.1.2.2 hl (by decide) rfl (fun ls hl => ?_)
        have JOIN_5 : ∀ (o5_5 : Int32) (o6_5 : Int32) (H : Heap) (locs : List Loc) (ls : Array Slot), pd_2 D vwCl A [ob7_0_ xh xc u1 u2 u3 u4 o5_5 o6_5 u7 u8, ob0_0_ xc xn xk clo cro c4 c5 c6 c7 c8, ob3_0_ xn vp vn n1 n2 n3 n4 n5, aq_ cy 6 clo 12 (gf_ rl), ai_ cy (rl 0) 12 (Ml 0), ai_ cy (rl 1) 12 (Ml 1), ai_ cy (rl 2) 12 (Ml 2), ai_ cy (rl 3) 12 (Ml 3), ai_ cy (rl 4) 12 (Ml 4), ai_ cy (rl 5) 12 (Ml 5), ai_ cy (rl 6) 12 (Ml 6), ai_ cy (rl 7) 12 (Ml 7), ai_ cy (rl 8) 12 (Ml 8), ai_ cy (rl 9) 12 (Ml 9), ai_ cy (rl 10) 12 (Ml 10), ai_ cy (rl 11) 12 (Ml 11)] H → va_S A s.heap H locs → lv_has ls 5 [(4, .int y_4), (0, .ref xh), (1, .int a1), (2, .int a2), (3, .int a3)] → W p l e ({ frames := 13, cells := 0, slots := 0, locals := 310 } : Room) s m (([.ref xh, .int a1, .int a2, .int a3] : List Value).toArray) below meth c H locs 0 0 Q (F0 m 60 ls []) := by
          intro o5_5 o6_5 H locs ls hPD hS hl; obtain ⟨hP, hD⟩ := hPD
          refine lv_aload_n hx hb dB_36_1_60.1.2.1.2 rfl (lv_at hl 1 rfl) ?_
          refine va_get (ci := 7) (v := .int u2) (C := RX7) (T := TX7) (N := 9) hx hb hts (fun _ h => List.mem_cons_of_mem _ (List.mem_append_left _ (List.mem_append_left _ (List.mem_append_right _ h)))) hown hK.1 hP 0 rfl rfl 2 (by decide) (hts (.fieldLink RX7 30 "CutAtlas$SetHunt" "mustNot" "I") (List.mem_of_getElem? (i := 4) rfl)) (fun _ h9 => h9) rfl dB_36_1_60.1.2.2.1 ?_
          refine lv_iload hx hb dB_36_1_60.1.2.2.2 (lv_at hl 0 rfl) ?_
          refine lv_iand hx hb dB_36_1_60.2.1.1.1 ?_
          refine lv_topi (fun y_6 ey_6 => ?_)
          refine lv_if_ne (tgt := 89) hx hb dB_36_1_60.2.1.1.2 (by decide) (fun c_7 => ?_) (fun c_7 => ?_)
          · have t_7 : ¬ y_6.toInt = (0 : Int32).toInt := fun h => c_7 (Int32.toInt_inj.mp h)
            rw [hQ]
            exact W.vret hx hb hr (fun t ht hW => ⟨⟨(), rfl, trivial, o5_5, o6_5, by rw [ht]; exact hP, hD⟩, hS.F ht⟩) hS.2.2 dB_36_1_61.2.2.2.2
          · have t_7 : y_6.toInt = (0 : Int32).toInt := congrArg Int32.toInt c_7
            refine lv_aload_n hx hb dB_36_1_60.2.1.2.1 rfl (lv_at hl 1 rfl) ?_
            refine lv_iload_n hx hb dB_36_1_60.2.1.2.2 rfl (lv_at hl 2 rfl) ?_
            refine lv_iconst (v := 1) hx hb dB_36_1_60.2.2.1.1 (by decide) ?_
            refine lv_isub hx hb dB_36_1_60.2.2.1.2 ?_
            refine lv_topi (fun y_8 ey_8 => ?_)
            have ty_8 : y_8.toInt = a1.toInt - (1 : Int32).toInt := by rw [ey_8]; exact subI (by omega) (by omega)
            refine lv_iload_n hx hb dB_36_1_60.2.2.2.1 rfl (lv_at hl 3 rfl) ?_
            refine lv_iload hx hb dB_36_1_60.2.2.2.2 (lv_at hl 0 rfl) ?_
            refine lv_ior hx hb dB_36_1_61.1.1.1 ?_
            refine lv_topi (fun y_9 ey_9 => ?_)
            refine lv_iload_n hx hb dB_36_1_61.1.1.2 rfl (lv_at hl 4 rfl) ?_
            refine lv_aload_n hx hb dB_36_1_61.1.2.1 rfl (lv_at hl 1 rfl) ?_
            refine lv_iload_n hx hb dB_36_1_61.1.2.2 rfl (lv_at hl 2 rfl) ?_
            refine lv_iload_n hx hb dB_36_1_61.2.1.1 rfl (lv_at hl 3 rfl) ?_
            refine ct_R hP hD [ob7_0_ xh xc u1 u2 u3 u4 o5_5 o6_5 u7 u8, ob0_0_ xc xn xk clo cro c4 c5 c6 c7 c8, ob3_0_ xn vp vn n1 n2 n3 n4 n5, aq_ cy 6 clo 12 (gf_ rl), ai_ cy (rl 0) 12 (Ml 0), ai_ cy (rl 1) 12 (Ml 1), ai_ cy (rl 2) 12 (Ml 2), ai_ cy (rl 3) 12 (Ml 3), ai_ cy (rl 4) 12 (Ml 4), ai_ cy (rl 5) 12 (Ml 5), ai_ cy (rl 6) 12 (Ml 6), ai_ cy (rl 7) 12 (Ml 7), ai_ cy (rl 8) 12 (Ml 8), ai_ cy (rl 9) 12 (Ml 9), ai_ cy (rl 10) 12 (Ml 10), ai_ cy (rl 11) 12 (Ml 11)] [0, 1, 2, 3, 4, 5, 6, 7, 8, 9, 10, 11, 12, 13, 14, 15] (by decide +kernel) rfl (fun hPc hDw => ?_)
            have hFc := va_free (wc := []) hD hS hA [] rfl
            refine va_calli (va_runV (As := [.int a1, .int a2]) (rest := [.int a3, .int y_9, .int y_8, .ref xh]) ⟨hx, hb, hml, hown, hts⟩ (c_X7_letOut l D cy H.size xh u1 u2 u3 u4 o5_5 o6_5 u7 u8 xc xk clo cro c4 c5 c6 c7 c8 xn n1 n2 n3 n4 n5 vp vn rl Ml a1 a2 (by first | with_reducible assumption | omega | assumption) (by first | with_reducible assumption | omega | assumption)) (cwV 2 hts gX7_chooseForCut_X7_letOut rfl rfl rfl ⟨rfl, hd_X7_letOut⟩ ⟨Nat.le_of_ble_eq_true rfl, Nat.le_of_ble_eq_true rfl⟩) ⟨bl_g, va_recvX hK.1 hP (ci := 7) (q0 := 0) rfl rfl, fun U hU hW => ⟨rfl, by rw [hU], by rw [hU]; exact hPc, ⟨kk_mv hW hK, arrOfT_moved hW.alike hG⟩, hDw⟩⟩ rfl rfl hl.1 rfl (lv_room (Nat.le_of_ble_eq_true rfl)) dB_36_1_61.2.1.2 ⟨Nat.le_of_ble_eq_true rfl, Nat.le_of_ble_eq_true rfl⟩) hS (fun q _ h => hFc q h) hFc (fun r_10 u t H locs ht hvm hw hB hz1 hk1 hS => ?_)
            have hP : va_P D vwCl _ H := ro_keep hP hk1
            refine lv_iadd hx hb dB_36_1_61.2.2.1 ?_
            refine lv_topi (fun y_11 ey_11 => ?_)
            refine ct_S hP hD hS hA [ob7_0_ xh xc u1 u2 u3 u4 o5_5 o6_5 u7 u8, ob0_0_ xc xn xk clo cro c4 c5 c6 c7 c8, ob3_0_ xn vp vn n1 n2 n3 n4 n5, aq_ cy 6 clo 12 (gf_ rl), ai_ cy (rl 0) 12 (Ml 0), ai_ cy (rl 1) 12 (Ml 1), ai_ cy (rl 2) 12 (Ml 2), ai_ cy (rl 3) 12 (Ml 3), ai_ cy (rl 4) 12 (Ml 4), ai_ cy (rl 5) 12 (Ml 5), ai_ cy (rl 6) 12 (Ml 6), ai_ cy (rl 7) 12 (Ml 7), ai_ cy (rl 8) 12 (Ml 8), ai_ cy (rl 9) 12 (Ml 9), ai_ cy (rl 10) 12 (Ml 10), ai_ cy (rl 11) 12 (Ml 11)] [0, 1, 2, 3, 4, 5, 6, 7, 8, 9, 10, 11, 12, 13, 14, 15] (by decide +kernel) rfl (fun hPc hDw hFc hC_ => ?_)
            refine va_callv (va_runV (As := [.int y_8, .int y_9, .int y_11]) (rest := []) ⟨hx, hb, hml, hown, hts⟩ (c_X7_chooseForCut_11 l D cy H.size xh u1 u2 u3 u4 o5_5 o6_5 u7 u8 xc xk clo cro c4 c5 c6 c7 c8 xn n1 n2 n3 n4 n5 vp vn rl Ml y_8 y_9 y_11 (by first | with_reducible assumption | omega | assumption) (by first | with_reducible assumption | omega | assumption)) (cwV 3 hts gX7_chooseForCut_X7_chooseForCut rfl rfl rfl ⟨rfl, hd_X7_chooseForCut⟩ ⟨Nat.le_of_ble_eq_true rfl, Nat.le_of_ble_eq_true rfl⟩) ⟨bl_g, va_recvX hK.1 hP (ci := 7) (q0 := 0) rfl rfl, fun U hU hW => ⟨rfl, by rw [hU], by rw [hU]; exact hPc, ⟨kk_mv hW hK, arrOfT_moved hW.alike hG⟩, hDw⟩⟩ rfl rfl hl.1 rfl (lv_room (Nat.le_of_ble_eq_true rfl)) dB_36_1_61.2.2.2.1 ⟨Nat.le_of_ble_eq_true rfl, Nat.le_of_ble_eq_true rfl⟩) hS (fun q _ h => hFc q h) hFc (fun u t H locs ht hvm hw hB hz1 hk1 hS => ?_)
            obtain ⟨v5_13, v6_14, hP1, hD1⟩ := hB
            rw [ht] at hP1
            obtain ⟨hP, hD⟩ := va_join (wr := []) (w1 := [ob7_0_ xh xc u1 u2 u3 u4 v5_13 v6_14 u7 u8, ob0_0_ xc xn xk clo cro c4 c5 c6 c7 c8, ob3_0_ xn vp vn n1 n2 n3 n4 n5, aq_ cy 6 clo 12 (gf_ rl), ai_ cy (rl 0) 12 (Ml 0), ai_ cy (rl 1) 12 (Ml 1), ai_ cy (rl 2) 12 (Ml 2), ai_ cy (rl 3) 12 (Ml 3), ai_ cy (rl 4) 12 (Ml 4), ai_ cy (rl 5) 12 (Ml 5), ai_ cy (rl 6) 12 (Ml 6), ai_ cy (rl 7) 12 (Ml 7), ai_ cy (rl 8) 12 (Ml 8), ai_ cy (rl 9) 12 (Ml 9), ai_ cy (rl 10) 12 (Ml 10), ai_ cy (rl 11) 12 (Ml 11)]) hP hD [0, 1, 2, 3, 4, 5, 6, 7, 8, 9, 10, 11, 12, 13, 14, 15] [] hC_ rfl (by decide) (by decide) hk1 hFc hP1 hD1
            refine pd_K [ob7_0_ xh xc u1 u2 u3 u4 v5_13 v6_14 u7 u8, ob0_0_ xc xn xk clo cro c4 c5 c6 c7 c8, ob3_0_ xn vp vn n1 n2 n3 n4 n5, aq_ cy 6 clo 12 (gf_ rl), ai_ cy (rl 0) 12 (Ml 0), ai_ cy (rl 1) 12 (Ml 1), ai_ cy (rl 2) 12 (Ml 2), ai_ cy (rl 3) 12 (Ml 3), ai_ cy (rl 4) 12 (Ml 4), ai_ cy (rl 5) 12 (Ml 5), ai_ cy (rl 6) 12 (Ml 6), ai_ cy (rl 7) 12 (Ml 7), ai_ cy (rl 8) 12 (Ml 8), ai_ cy (rl 9) 12 (Ml 9), ai_ cy (rl 10) 12 (Ml 10), ai_ cy (rl 11) 12 (Ml 11)] hP hD (fun hP hD => ?_)
            rw [hQ]
            exact W.vret hx hb hr (fun t ht hW => ⟨⟨(), rfl, trivial, v5_13, v6_14, by rw [ht]; exact hP, hD⟩, hS.F ht⟩) hS.2.2 dB_36_1_61.2.2.2.2
        refine lv_aload_n hx hb dB_36_1_59.1.2.1.1 rfl (lv_at hl 1 rfl) ?_
        refine va_get (ci := 7) (v := .int u1) (C := RX7) (T := TX7) (N := 9) hx hb hts (fun _ h => List.mem_cons_of_mem _ (List.mem_append_left _ (List.mem_append_left _ (List.mem_append_right _ h)))) hown hK.1 hP 0 rfl rfl 1 (by decide) (hts (.fieldLink RX7 27 "CutAtlas$SetHunt" "must" "I") (List.mem_of_getElem? (i := 3) rfl)) (fun _ h9 => h9) rfl dB_36_1_59.1.2.1.2 ?_
        refine lv_iload hx hb dB_36_1_59.1.2.2.1 (lv_at hl 0 rfl) ?_
        refine lv_iand hx hb dB_36_1_59.1.2.2.2 ?_
        refine lv_topi (fun y_15 ey_15 => ?_)
        refine lv_if_ne (tgt := 60) hx hb dB_36_1_59.2.1.1.1 (by decide) (fun c_16 => ?_) (fun c_16 => ?_)
        · have t_16 : ¬ y_15.toInt = (0 : Int32).toInt := fun h => c_16 (Int32.toInt_inj.mp h)
          exact JOIN_5 u5 u6 _ _ _ ⟨hP, hD⟩ hS (lv_sub hl [0, 1, 2, 3, 4] rfl)
        · have t_16 : y_15.toInt = (0 : Int32).toInt := congrArg Int32.toInt c_16
          refine lv_aload_n hx hb dB_36_1_59.2.1.1.2 rfl (lv_at hl 1 rfl) ?_
          refine lv_iload_n hx hb dB_36_1_59.2.1.2.1 rfl (lv_at hl 2 rfl) ?_
          refine lv_iconst (v := 1) hx hb dB_36_1_59.2.1.2.2 (by decide) ?_
          refine lv_isub hx hb dB_36_1_59.2.2.1.1 ?_
          refine lv_topi (fun y_17 ey_17 => ?_)
          have ty_17 : y_17.toInt = a1.toInt - (1 : Int32).toInt := by rw [ey_17]; exact subI (by omega) (by omega)
          refine lv_iload_n hx hb dB_36_1_59.2.2.1.2 rfl (lv_at hl 3 rfl) ?_
          refine lv_iload_n hx hb dB_36_1_59.2.2.2.1 rfl (lv_at hl 4 rfl) ?_
          refine lv_aload_n hx hb dB_36_1_59.2.2.2.2 rfl (lv_at hl 1 rfl) ?_
          refine lv_iload_n hx hb dB_36_1_60.1.1.1.1 rfl (lv_at hl 2 rfl) ?_
          refine lv_iload_n hx hb dB_36_1_60.1.1.1.2 rfl (lv_at hl 3 rfl) ?_
          refine ct_R hP hD [ob7_0_ xh xc u1 u2 u3 u4 u5 u6 u7 u8, ob0_0_ xc xn xk clo cro c4 c5 c6 c7 c8, ob3_0_ xn vp vn n1 n2 n3 n4 n5, aq_ cy 6 clo 12 (gf_ rl), ai_ cy (rl 0) 12 (Ml 0), ai_ cy (rl 1) 12 (Ml 1), ai_ cy (rl 2) 12 (Ml 2), ai_ cy (rl 3) 12 (Ml 3), ai_ cy (rl 4) 12 (Ml 4), ai_ cy (rl 5) 12 (Ml 5), ai_ cy (rl 6) 12 (Ml 6), ai_ cy (rl 7) 12 (Ml 7), ai_ cy (rl 8) 12 (Ml 8), ai_ cy (rl 9) 12 (Ml 9), ai_ cy (rl 10) 12 (Ml 10), ai_ cy (rl 11) 12 (Ml 11)] [0, 1, 2, 3, 4, 5, 6, 7, 8, 9, 10, 11, 12, 13, 14, 15] (by decide +kernel) rfl (fun hPc hDw => ?_)
          have hFc := va_free (wc := []) hD hS hA [] rfl
          refine va_calli (va_runV (As := [.int a1, .int a2]) (rest := [.int a3, .int a2, .int y_17, .ref xh]) ⟨hx, hb, hml, hown, hts⟩ (c_X7_letIn l D cy s.heap.size xh u1 u2 u3 u4 u5 u6 u7 u8 xc xk clo cro c4 c5 c6 c7 c8 xn n1 n2 n3 n4 n5 vp vn rl Ml a1 a2 (by first | with_reducible assumption | omega | assumption) (by first | with_reducible assumption | omega | assumption)) (cwV 2 hts gX7_chooseForCut_X7_letIn rfl rfl rfl ⟨rfl, hd_X7_letIn⟩ ⟨Nat.le_of_ble_eq_true rfl, Nat.le_of_ble_eq_true rfl⟩) ⟨bl_g, va_recvX hK.1 hP (ci := 7) (q0 := 0) rfl rfl, fun U hU hW => ⟨rfl, by rw [hU], by rw [hU]; exact hPc, ⟨kk_mv hW hK, arrOfT_moved hW.alike hG⟩, hDw⟩⟩ rfl rfl hl.1 rfl (lv_room (Nat.le_of_ble_eq_true rfl)) dB_36_1_60.1.1.2.1 ⟨Nat.le_of_ble_eq_true rfl, Nat.le_of_ble_eq_true rfl⟩) hS (fun q _ h => hFc q h) hFc (fun r_18 u t H locs ht hvm hw hB hz1 hk1 hS => ?_)
          have hP : va_P D vwCl _ H := ro_keep hP hk1
          refine lv_iadd hx hb dB_36_1_60.1.1.2.2 ?_
          refine lv_topi (fun y_19 ey_19 => ?_)
          refine ct_S hP hD hS hA [ob7_0_ xh xc u1 u2 u3 u4 u5 u6 u7 u8, ob0_0_ xc xn xk clo cro c4 c5 c6 c7 c8, ob3_0_ xn vp vn n1 n2 n3 n4 n5, aq_ cy 6 clo 12 (gf_ rl), ai_ cy (rl 0) 12 (Ml 0), ai_ cy (rl 1) 12 (Ml 1), ai_ cy (rl 2) 12 (Ml 2), ai_ cy (rl 3) 12 (Ml 3), ai_ cy (rl 4) 12 (Ml 4), ai_ cy (rl 5) 12 (Ml 5), ai_ cy (rl 6) 12 (Ml 6), ai_ cy (rl 7) 12 (Ml 7), ai_ cy (rl 8) 12 (Ml 8), ai_ cy (rl 9) 12 (Ml 9), ai_ cy (rl 10) 12 (Ml 10), ai_ cy (rl 11) 12 (Ml 11)] [0, 1, 2, 3, 4, 5, 6, 7, 8, 9, 10, 11, 12, 13, 14, 15] (by decide +kernel) rfl (fun hPc hDw hFc hC_ => ?_)
          refine va_callv (va_runV (As := [.int y_17, .int a2, .int y_19]) (rest := []) ⟨hx, hb, hml, hown, hts⟩ (c_X7_chooseForCut_11 l D cy H.size xh u1 u2 u3 u4 u5 u6 u7 u8 xc xk clo cro c4 c5 c6 c7 c8 xn n1 n2 n3 n4 n5 vp vn rl Ml y_17 a2 y_19 (by first | with_reducible assumption | omega | assumption) (by first | with_reducible assumption | omega | assumption)) (cwV 3 hts gX7_chooseForCut_X7_chooseForCut rfl rfl rfl ⟨rfl, hd_X7_chooseForCut⟩ ⟨Nat.le_of_ble_eq_true rfl, Nat.le_of_ble_eq_true rfl⟩) ⟨bl_g, va_recvX hK.1 hP (ci := 7) (q0 := 0) rfl rfl, fun U hU hW => ⟨rfl, by rw [hU], by rw [hU]; exact hPc, ⟨kk_mv hW hK, arrOfT_moved hW.alike hG⟩, hDw⟩⟩ rfl rfl hl.1 rfl (lv_room (Nat.le_of_ble_eq_true rfl)) dB_36_1_60.1.2.1.1 ⟨Nat.le_of_ble_eq_true rfl, Nat.le_of_ble_eq_true rfl⟩) hS (fun q _ h => hFc q h) hFc (fun u t H locs ht hvm hw hB hz1 hk1 hS => ?_)
          obtain ⟨v5_21, v6_22, hP1, hD1⟩ := hB
          rw [ht] at hP1
          obtain ⟨hP, hD⟩ := va_join (wr := []) (w1 := [ob7_0_ xh xc u1 u2 u3 u4 v5_21 v6_22 u7 u8, ob0_0_ xc xn xk clo cro c4 c5 c6 c7 c8, ob3_0_ xn vp vn n1 n2 n3 n4 n5, aq_ cy 6 clo 12 (gf_ rl), ai_ cy (rl 0) 12 (Ml 0), ai_ cy (rl 1) 12 (Ml 1), ai_ cy (rl 2) 12 (Ml 2), ai_ cy (rl 3) 12 (Ml 3), ai_ cy (rl 4) 12 (Ml 4), ai_ cy (rl 5) 12 (Ml 5), ai_ cy (rl 6) 12 (Ml 6), ai_ cy (rl 7) 12 (Ml 7), ai_ cy (rl 8) 12 (Ml 8), ai_ cy (rl 9) 12 (Ml 9), ai_ cy (rl 10) 12 (Ml 10), ai_ cy (rl 11) 12 (Ml 11)]) hP hD [0, 1, 2, 3, 4, 5, 6, 7, 8, 9, 10, 11, 12, 13, 14, 15] [] hC_ rfl (by decide) (by decide) hk1 hFc hP1 hD1
          refine pd_K [ob7_0_ xh xc u1 u2 u3 u4 v5_21 v6_22 u7 u8, ob0_0_ xc xn xk clo cro c4 c5 c6 c7 c8, ob3_0_ xn vp vn n1 n2 n3 n4 n5, aq_ cy 6 clo 12 (gf_ rl), ai_ cy (rl 0) 12 (Ml 0), ai_ cy (rl 1) 12 (Ml 1), ai_ cy (rl 2) 12 (Ml 2), ai_ cy (rl 3) 12 (Ml 3), ai_ cy (rl 4) 12 (Ml 4), ai_ cy (rl 5) 12 (Ml 5), ai_ cy (rl 6) 12 (Ml 6), ai_ cy (rl 7) 12 (Ml 7), ai_ cy (rl 8) 12 (Ml 8), ai_ cy (rl 9) 12 (Ml 9), ai_ cy (rl 10) 12 (Ml 10), ai_ cy (rl 11) 12 (Ml 11)] hP hD (fun hP hD => ?_)
          exact JOIN_5 v5_21 v6_22 _ _ _ ⟨hP, hD⟩ hS (lv_sub hl [0, 1, 2, 3, 4] rfl)
      · have t_3 : ¬ (0 : Int32).toInt ≤ a1.toInt := fun h => c_3 (Int32.le_iff_toInt_le.mpr h)
        refine lv_aload_n hx hb dB_36_1_58.2.1.2.2 rfl (lv_at hl 0 rfl) ?_
        refine lv_iload_n hx hb dB_36_1_58.2.2.1.1 rfl (lv_at hl 2 rfl) ?_
        refine lv_iload_n hx hb dB_36_1_58.2.2.1.2 rfl (lv_at hl 3 rfl) ?_
        refine ct_S hP hD hS hA [ob7_0_ xh xc u1 u2 u3 u4 u5 u6 u7 u8] [0] (by decide) rfl (fun hPc hDw hFc hC_ => ?_)
        refine va_callv (va_runV (As := [.int a2, .int a3]) (rest := []) ⟨hx, hb, hml, hown, hts⟩ (c_X7_meet l D cy s.heap.size xh u1 u2 u3 u4 u5 u6 u7 u8 xc a2 a3) (cwV 2 hts gX7_chooseForCut_X7_meet rfl rfl rfl ⟨rfl, hd_X7_meet⟩ ⟨Nat.le_of_ble_eq_true rfl, Nat.le_of_ble_eq_true rfl⟩) ⟨bl_, va_recvX hK.1 hP (ci := 7) (q0 := 0) rfl rfl, fun U hU hW => ⟨rfl, by rw [hU], by rw [hU]; exact hPc, kk_mv hW hK, hDw⟩⟩ rfl rfl hl.1 rfl (lv_room (Nat.le_of_ble_eq_true rfl)) dB_36_1_58.2.2.2.1 ⟨Nat.le_of_ble_eq_true rfl, Nat.le_of_ble_eq_true rfl⟩) hS (fun q _ h => hFc q h) hFc (fun u t H locs ht hvm hw hB hz1 hk1 hS => ?_)
        obtain ⟨v5_24, v6_25, hP1, hD1⟩ := hB
        rw [ht] at hP1
        obtain ⟨hP, hD⟩ := va_join (wr := [ob0_0_ xc xn xk clo cro c4 c5 c6 c7 c8, ob3_0_ xn vp vn n1 n2 n3 n4 n5, aq_ cy 6 clo 12 (gf_ rl), ai_ cy (rl 0) 12 (Ml 0), ai_ cy (rl 1) 12 (Ml 1), ai_ cy (rl 2) 12 (Ml 2), ai_ cy (rl 3) 12 (Ml 3), ai_ cy (rl 4) 12 (Ml 4), ai_ cy (rl 5) 12 (Ml 5), ai_ cy (rl 6) 12 (Ml 6), ai_ cy (rl 7) 12 (Ml 7), ai_ cy (rl 8) 12 (Ml 8), ai_ cy (rl 9) 12 (Ml 9), ai_ cy (rl 10) 12 (Ml 10), ai_ cy (rl 11) 12 (Ml 11)]) (w1 := [ob7_0_ xh xc u1 u2 u3 u4 v5_24 v6_25 u7 u8]) hP hD [0] [1, 2, 3, 4, 5, 6, 7, 8, 9, 10, 11, 12, 13, 14, 15] hC_ rfl (by decide +kernel) (by decide +kernel) hk1 hFc hP1 hD1
        refine pd_S hP hD [ob7_0_ xh xc u1 u2 u3 u4 v5_24 v6_25 u7 u8, ob0_0_ xc xn xk clo cro c4 c5 c6 c7 c8, ob3_0_ xn vp vn n1 n2 n3 n4 n5, aq_ cy 6 clo 12 (gf_ rl), ai_ cy (rl 0) 12 (Ml 0), ai_ cy (rl 1) 12 (Ml 1), ai_ cy (rl 2) 12 (Ml 2), ai_ cy (rl 3) 12 (Ml 3), ai_ cy (rl 4) 12 (Ml 4), ai_ cy (rl 5) 12 (Ml 5), ai_ cy (rl 6) 12 (Ml 6), ai_ cy (rl 7) 12 (Ml 7), ai_ cy (rl 8) 12 (Ml 8), ai_ cy (rl 9) 12 (Ml 9), ai_ cy (rl 10) 12 (Ml 10), ai_ cy (rl 11) 12 (Ml 11)] [15, 0, 1, 2, 3, 4, 5, 6, 7, 8, 9, 10, 11, 12, 13, 14] (by decide +kernel) rfl (fun hP hD => ?_)
        rw [hQ]
        exact W.vret hx hb hr (fun t ht hW => ⟨⟨(), rfl, trivial, v5_24, v6_25, by rw [ht]; exact hP, hD⟩, hS.F ht⟩) hS.2.2 dB_36_1_58.2.2.2.2
    · have t_2 : ¬ u6.toInt = ((-9) : Int32).toInt := fun h => c_2 (Int32.toInt_inj.mp h)
      rw [hQ]
      exact W.vret hx hb hr (fun t ht hW => ⟨⟨(), rfl, trivial, u5, u6, by rw [ht]; exact hP, hD⟩, hS.F ht⟩) hS.2.2 dB_36_1_58.2.1.1.1
end
