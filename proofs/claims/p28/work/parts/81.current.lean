noncomputable def kg_ (D : va_G) (cy : Nat → ClassId) (U : State) : Prop := kk_ D cy U ∧ ArrOfT U (cy 6) (.array .int)
theorem bl_g {av : List Value} {sz : Nat} {D : va_G} {cy : Nat → ClassId} {ws : va_W} {A : Nat → Prop} : FrameBlind (va_Pc av (fun U => U.heap.size = sz ∧ va_P D vwCl ws U.heap ∧ kg_ D cy U ∧ va_D A ws)) := fun a U g mk q => by
  obtain ⟨q0, q1, qP, qK, qD⟩ := q
  exact ⟨q0, q1, qP, ⟨kk_cl (s := U) (U := U.calling g mk a) rfl qK.1, arrOfT_moved (u := U) (E := U.calling g mk a) (Vm.Alike.refl U.vm) qK.2⟩, qD⟩

set_option maxHeartbeats 4000000 in
set_option maxRecDepth 100000 in
theorem c_X0_betweenSets (l : Launch) (D : va_G) (cy : Nat → ClassId) (sz : Nat) (xc : Nat) (xk : Nat) (clo : Nat) (cro : Nat) (c4 : Nat) (c5 : Nat) (c6 : Nat) (c7 : Nat) (c8 : Nat) (xn : Nat) (n1 : Nat) (n2 : Nat) (n3 : Nat) (n4 : Nat) (n5 : Nat) (vp : Int32) (vn : Int32) (rl : Nat → Nat) (Ml : Nat → Nat → Int32) (a1 : Int32) (a2 : Int32) (hvp : 0 ≤ vp.toInt ∧ vp.toInt ≤ 12) (q1 : 0 ≤ a1.toInt ∧ a1.toInt ≤ 11) : Met l yX0_betweenSets wsX0_betweenSets ({ frames := 0, cells := 0, slots := 0, locals := 0 }) (va_Pc [.ref xc, .int a1, .int a2] (fun U => U.heap.size = sz ∧ va_P D vwCl [(xc, .inr (0, [.ref xn, .ref xk, .ref clo, .ref cro, .ref c4, .ref c5, .ref c6, .ref c7, .ref c8])), (xn, .inr (3, [.int vp, .int vn, .ref n1, .ref n2, .ref n3, .ref n4, .ref n5])), (clo, .inl (cy 6, 12, .inr (.inr (.inr (.inr (gf_ rl)))))), ((rl 0), .inl (cy 0, 12, .inl (Ml 0))), ((rl 1), .inl (cy 0, 12, .inl (Ml 1))), ((rl 2), .inl (cy 0, 12, .inl (Ml 2))), ((rl 3), .inl (cy 0, 12, .inl (Ml 3))), ((rl 4), .inl (cy 0, 12, .inl (Ml 4))), ((rl 5), .inl (cy 0, 12, .inl (Ml 5))), ((rl 6), .inl (cy 0, 12, .inl (Ml 6))), ((rl 7), .inl (cy 0, 12, .inl (Ml 7))), ((rl 8), .inl (cy 0, 12, .inl (Ml 8))), ((rl 9), .inl (cy 0, 12, .inl (Ml 9))), ((rl 10), .inl (cy 0, 12, .inl (Ml 10))), ((rl 11), .inl (cy 0, 12, .inl (Ml 11)))] U.heap ∧ kg_ D cy U ∧ va_D (fun _ => True) [(xc, .inr (0, [.ref xn, .ref xk, .ref clo, .ref cro, .ref c4, .ref c5, .ref c6, .ref c7, .ref c8])), (xn, .inr (3, [.int vp, .int vn, .ref n1, .ref n2, .ref n3, .ref n4, .ref n5])), (clo, .inl (cy 6, 12, .inr (.inr (.inr (.inr (gf_ rl)))))), ((rl 0), .inl (cy 0, 12, .inl (Ml 0))), ((rl 1), .inl (cy 0, 12, .inl (Ml 1))), ((rl 2), .inl (cy 0, 12, .inl (Ml 2))), ((rl 3), .inl (cy 0, 12, .inl (Ml 3))), ((rl 4), .inl (cy 0, 12, .inl (Ml 4))), ((rl 5), .inl (cy 0, 12, .inl (Ml 5))), ((rl 6), .inl (cy 0, 12, .inl (Ml 6))), ((rl 7), .inl (cy 0, 12, .inl (Ml 7))), ((rl 8), .inl (cy 0, 12, .inl (Ml 8))), ((rl 9), .inl (cy 0, 12, .inl (Ml 9))), ((rl 10), .inl (cy 0, 12, .inl (Ml 10))), ((rl 11), .inl (cy 0, 12, .inl (Ml 11)))])) (va_Qi (fun (r : Int32) (_ : Unit) => True) (fun (_ : Unit) (_ : State) => True) (va_A [] sz)) 0 0 (va_A [] sz) := by
  refine ofQ (cc := cX0_betweenSets) (maxL := 5) (ret := (some .int)) (by decide) rfl ?_
  intro p e s m args below meth c s₁ Q hQ B hml hv
  obtain ⟨rfl, hsz, hP, hK, hD0⟩ := hv
  have hG := hK.2
  have hK := hK.1
  have hx := B.exec
  have hb := B.bytes
  have hr := B.returns
  have hts := atoms_spec (ws := wsX0_betweenSets) B.pre
  have hown : s.vm.findClass RX0 = some m.cls := by have h_ := findClass_of_methodNamed B.named; exact h_
  have hlocks := B.notSynchronized
  subst hsz
  have hD : va_D (va_A [] s.heap.size) [] := dd_nil
  generalize hAe : va_A [] s.heap.size = A at hD hQ
  have hA : ∀ q : Nat, s.heap.size ≤ q → A q := fun q h => by rw [← hAe]; exact Or.inr h
  have hS : va_S A s.heap s.heap [] := va_S.rf
  have hl := lv_entry ([.ref xc, .int a1, .int a2]) (n := 5) (Nat.le_of_ble_eq_true rfl)
  rw [lg_entry_eq]
  generalize (lg_sl ([.ref xc, .int a1, .int a2]) ++ List.replicate (5 - (lg_sl ([.ref xc, .int a1, .int a2])).length) Slot.unset).toArray = ls at hl ⊢
  have hl : lv_has ls 5 [(0, .ref xc), (1, .int a1), (2, .int a2)] := hl
  have z0 : (0 : Int32).toInt = 0 := by decide
  have z1 : (1 : Int32).toInt = 1 := by decide
  refine lv_iconst (v := 0) hx hb dX0_betweenSets_0 (by decide) ?_
  refine lv_istore_n (lv' := [(3, .int 0), (0, .ref xc), (1, .int a1), (2, .int a2)]) hx hb dX0_betweenSets_1 rfl hl (by decide) rfl (fun ls hl => ?_)
  refine lv_iconst (v := 0) hx hb dX0_betweenSets_2 (by decide) ?_
  refine lv_istore (lv' := [(4, .int 0), (3, .int 0), (0, .ref xc), (1, .int a1), (2, .int a2)]) hx hb dX0_betweenSets_3 hl (by decide) rfl (fun ls hl => ?_)
  suffices LOOP_1 : ∀ (n_1 : Nat) (x4_1 : Int32) (x3_1 : Int32) (H : Heap) (locs : List Loc) (ls : Array Slot), vp.toInt - x4_1.toInt < (n_1 : Int) → (0 ≤ x4_1.toInt) → (x4_1.toInt ≤ vp.toInt) → va_P D vwCl [(xc, .inr (0, [.ref xn, .ref xk, .ref clo, .ref cro, .ref c4, .ref c5, .ref c6, .ref c7, .ref c8])), (xn, .inr (3, [.int vp, .int vn, .ref n1, .ref n2, .ref n3, .ref n4, .ref n5])), (clo, .inl (cy 6, 12, .inr (.inr (.inr (.inr (gf_ rl)))))), ((rl 0), .inl (cy 0, 12, .inl (Ml 0))), ((rl 1), .inl (cy 0, 12, .inl (Ml 1))), ((rl 2), .inl (cy 0, 12, .inl (Ml 2))), ((rl 3), .inl (cy 0, 12, .inl (Ml 3))), ((rl 4), .inl (cy 0, 12, .inl (Ml 4))), ((rl 5), .inl (cy 0, 12, .inl (Ml 5))), ((rl 6), .inl (cy 0, 12, .inl (Ml 6))), ((rl 7), .inl (cy 0, 12, .inl (Ml 7))), ((rl 8), .inl (cy 0, 12, .inl (Ml 8))), ((rl 9), .inl (cy 0, 12, .inl (Ml 9))), ((rl 10), .inl (cy 0, 12, .inl (Ml 10))), ((rl 11), .inl (cy 0, 12, .inl (Ml 11)))] H → va_S A s.heap H locs → lv_has ls 5 [(4, .int x4_1), (3, .int x3_1), (0, .ref xc), (1, .int a1), (2, .int a2)] → W p l e ({ frames := 0, cells := 0, slots := 0, locals := 0 } : Room) s m (([.ref xc, .int a1, .int a2] : List Value).toArray) below meth c H locs 0 0 Q (F0 m 5 ls []) from LOOP_1 ((vp.toInt - (0 : Int32).toInt).toNat + 1) (0 : Int32) (0 : Int32) _ _ _ (by omega) (by first | with_reducible assumption | assumption | omega) (by first | with_reducible assumption | assumption | omega) hP  hS (lv_sub hl [0, 1, 2, 3, 4] rfl)
  intro n_1
  induction n_1 with
  | zero =>
    intro x4_1 x3_1 H locs ls hm v0_1 v1_1 hP hS hl
    exact absurd hm (by omega)
  | succ n_1 ih_1 =>
    intro x4_1 x3_1 H locs ls hm v0_1 v1_1 hP hS hl
    refine lv_iload hx hb dX0_betweenSets_5 (lv_at hl 0 rfl) ?_
    refine lv_aload_n hx hb dX0_betweenSets_7 rfl (lv_at hl 2 rfl) ?_
    refine va_get (ci := 0) (v := .ref xn) (C := RX0) (T := TX0) (N := 9) hx hb hts (fun _ h => List.mem_cons_of_mem _ (List.mem_append_left _ (List.mem_append_right _ h))) hown hK.1 hP 0 rfl rfl 0 (by decide) (hts (.fieldLink RX0 35 "CutAtlas$Current" "net" "LCutAtlas$Net;") (by decide +kernel)) (fun _ h9 => h9) rfl dX0_betweenSets_8 ?_
    refine va_get (ci := 3) (v := .int vp) (C := RX3) (T := TX3) (N := 7) hx hb hts (fun _ h => List.mem_cons_of_mem _ (List.mem_append_right _ h)) hown hK.1 hP 1 rfl rfl 0 (by decide) (hts (.fieldLink RX0 43 "CutAtlas$Net" "places" "I") (by decide +kernel)) (fun _ h9 => h9) rfl dX0_betweenSets_11 ?_
    refine lv_icmp_ge (tgt := 45) hx hb dX0_betweenSets_14 (by decide) (fun c_2 => ?_) (fun c_2 => ?_)
    · have t_2 : vp.toInt ≤ x4_1.toInt := Int32.le_iff_toInt_le.mp c_2
      refine lv_iload_n hx hb dX0_betweenSets_45 rfl (lv_at hl 1 rfl) ?_
      rw [hQ]
      exact W.iret (v := x3_1) hx hb hr (fun t ht hW => ⟨⟨x3_1, (), rfl, trivial, trivial⟩, hS.F ht⟩) hS.2.2 dX0_betweenSets_46
    · have t_2 : ¬ vp.toInt ≤ x4_1.toInt := fun h => c_2 (Int32.le_iff_toInt_le.mpr h)
      refine lv_iload_n hx hb dX0_betweenSets_17 rfl (lv_at hl 4 rfl) ?_
      refine lv_iload hx hb dX0_betweenSets_18 (lv_at hl 0 rfl) ?_
      refine lv_ishr hx hb dX0_betweenSets_20 ?_
      refine lv_topi (fun y_3 ey_3 => ?_)
      refine lv_iconst (v := 1) hx hb dX0_betweenSets_21 (by decide) ?_
      refine lv_iand hx hb dX0_betweenSets_22 ?_
      refine lv_topi (fun y_4 ey_4 => ?_)
      refine lv_iconst (v := 1) hx hb dX0_betweenSets_23 (by decide) ?_
      refine lv_icmp_ne (tgt := 39) hx hb dX0_betweenSets_24 (by decide) (fun c_5 => ?_) (fun c_5 => ?_)
      · have t_5 : ¬ y_4.toInt = (1 : Int32).toInt := fun h => c_5 (Int32.toInt_inj.mp h)
        obtain ⟨y_6, ey_6⟩ : ∃ y : Int32, y = x4_1 + 1 := ⟨_, rfl⟩
        have ty_6 : y_6.toInt = x4_1.toInt + (1 : Int32).toInt := by rw [ey_6]; exact addI (by omega) (by omega)
        refine lv_iinc (v := y_6) (lv' := [(4, .int y_6), (3, .int x3_1), (0, .ref xc), (1, .int a1), (2, .int a2)]) hx hb dX0_betweenSets_39 hl (k := 0) rfl (by rw [ey_6]; rfl) (by decide) rfl (fun ls hl => ?_)
        refine lv_goto (tgt := 5) hx hb dX0_betweenSets_42 (by decide) ?_
        exact ih_1 y_6 x3_1 _ _ _ (by omega) (by first | with_reducible assumption | assumption | omega) (by first | with_reducible assumption | assumption | omega) hP  hS (lv_sub hl [0, 1, 2, 3, 4] rfl)
      · have t_5 : y_4.toInt = (1 : Int32).toInt := congrArg Int32.toInt c_5
        refine lv_iload_n hx hb dX0_betweenSets_27 rfl (lv_at hl 1 rfl) ?_
        refine lv_aload_n hx hb dX0_betweenSets_28 rfl (lv_at hl 2 rfl) ?_
        refine va_get (ci := 0) (v := .ref clo) (C := RX0) (T := TX0) (N := 9) hx hb hts (fun _ h => List.mem_cons_of_mem _ (List.mem_append_left _ (List.mem_append_right _ h))) hown hK.1 hP 0 rfl rfl 2 (by decide) (hts (.fieldLink RX0 11 "CutAtlas$Current" "lets" "[[I") (by decide +kernel)) (fun _ h9 => h9) rfl dX0_betweenSets_29 ?_
        refine lv_iload_n hx hb dX0_betweenSets_32 rfl (lv_at hl 3 rfl) ?_
        have h_7 : vp_in a1 12 := in_I (by omega) (by omega)
        refine va_alda hx hb hG hP 2 rfl (i := a1) h_7 dX0_betweenSets_33 ?_
        refine lv_topv (v' := .ref (rl a1.toNatClampNeg)) (gf_at h_7) ?_
        refine lv_iload hx hb dX0_betweenSets_34 (lv_at hl 0 rfl) ?_
        have h_8 : vp_in x4_1 12 := in_I (by omega) (by omega)
        have hPg : va_P D vwCl (([(xc, .inr (0, [.ref xn, .ref xk, .ref clo, .ref cro, .ref c4, .ref c5, .ref c6, .ref c7, .ref c8])), (xn, .inr (3, [.int vp, .int vn, .ref n1, .ref n2, .ref n3, .ref n4, .ref n5])), (clo, .inl (cy 6, 12, .inr (.inr (.inr (.inr (gf_ rl))))))] : va_W) ++ (gro (cy 0) rl Ml ++ ([] : va_W))) H := hP
        refine va_gld (X := [(xc, .inr (0, [.ref xn, .ref xk, .ref clo, .ref cro, .ref c4, .ref c5, .ref c6, .ref c7, .ref c8])), (xn, .inr (3, [.int vp, .int vn, .ref n1, .ref n2, .ref n3, .ref n4, .ref n5])), (clo, .inl (cy 6, 12, .inr (.inr (.inr (.inr (gf_ rl))))))]) (Y := []) (r := rl) (M := Ml) (k := a1.toNatClampNeg) hx hb hK.1 hPg 0 rfl (in_lt h_7) (i := x4_1) h_8 dX0_betweenSets_36 ?_
        refine lv_topi (fun y_9 ey_9 => ?_)
        refine lv_iadd hx hb dX0_betweenSets_37 ?_
        refine lv_topi (fun y_10 ey_10 => ?_)
        refine lv_istore_n (lv' := [(3, .int y_10), (4, .int x4_1), (0, .ref xc), (1, .int a1), (2, .int a2)]) hx hb dX0_betweenSets_38 rfl hl (by decide) rfl (fun ls hl => ?_)
        obtain ⟨y_11, ey_11⟩ : ∃ y : Int32, y = x4_1 + 1 := ⟨_, rfl⟩
        have ty_11 : y_11.toInt = x4_1.toInt + (1 : Int32).toInt := by rw [ey_11]; exact addI (by omega) (by omega)
        refine lv_iinc (v := y_11) (lv' := [(4, .int y_11), (3, .int y_10), (0, .ref xc), (1, .int a1), (2, .int a2)]) hx hb dX0_betweenSets_39 hl (k := 1) rfl (by rw [ey_11]; rfl) (by decide) rfl (fun ls hl => ?_)
        refine lv_goto (tgt := 5) hx hb dX0_betweenSets_42 (by decide) ?_
        exact ih_1 y_11 y_10 _ _ _ (by omega) (by first | with_reducible assumption | assumption | omega) (by first | with_reducible assumption | assumption | omega) hP  hS (lv_sub hl [0, 1, 2, 3, 4] rfl)

set_option maxHeartbeats 4000000 in
set_option maxRecDepth 100000 in
theorem c_X0_leaving (l : Launch) (D : va_G) (cy : Nat → ClassId) (sz : Nat) (xc : Nat) (xk : Nat) (clo : Nat) (cro : Nat) (c4 : Nat) (c5 : Nat) (c6 : Nat) (c7 : Nat) (c8 : Nat) (xn : Nat) (n1 : Nat) (n2 : Nat) (n3 : Nat) (n4 : Nat) (n5 : Nat) (vp : Int32) (vn : Int32) (rl : Nat → Nat) (Ml : Nat → Nat → Int32) (a1 : Int32) (hvp : 0 ≤ vp.toInt ∧ vp.toInt ≤ 12) : Met l yX0_leaving wsX0_leaving ({ frames := 1, cells := 0, slots := 0, locals := 24 }) (va_Pc [.ref xc, .int a1] (fun U => U.heap.size = sz ∧ va_P D vwCl [(xc, .inr (0, [.ref xn, .ref xk, .ref clo, .ref cro, .ref c4, .ref c5, .ref c6, .ref c7, .ref c8])), (xn, .inr (3, [.int vp, .int vn, .ref n1, .ref n2, .ref n3, .ref n4, .ref n5])), (clo, .inl (cy 6, 12, .inr (.inr (.inr (.inr (gf_ rl)))))), ((rl 0), .inl (cy 0, 12, .inl (Ml 0))), ((rl 1), .inl (cy 0, 12, .inl (Ml 1))), ((rl 2), .inl (cy 0, 12, .inl (Ml 2))), ((rl 3), .inl (cy 0, 12, .inl (Ml 3))), ((rl 4), .inl (cy 0, 12, .inl (Ml 4))), ((rl 5), .inl (cy 0, 12, .inl (Ml 5))), ((rl 6), .inl (cy 0, 12, .inl (Ml 6))), ((rl 7), .inl (cy 0, 12, .inl (Ml 7))), ((rl 8), .inl (cy 0, 12, .inl (Ml 8))), ((rl 9), .inl (cy 0, 12, .inl (Ml 9))), ((rl 10), .inl (cy 0, 12, .inl (Ml 10))), ((rl 11), .inl (cy 0, 12, .inl (Ml 11)))] U.heap ∧ kg_ D cy U ∧ va_D (fun _ => True) [(xc, .inr (0, [.ref xn, .ref xk, .ref clo, .ref cro, .ref c4, .ref c5, .ref c6, .ref c7, .ref c8])), (xn, .inr (3, [.int vp, .int vn, .ref n1, .ref n2, .ref n3, .ref n4, .ref n5])), (clo, .inl (cy 6, 12, .inr (.inr (.inr (.inr (gf_ rl)))))), ((rl 0), .inl (cy 0, 12, .inl (Ml 0))), ((rl 1), .inl (cy 0, 12, .inl (Ml 1))), ((rl 2), .inl (cy 0, 12, .inl (Ml 2))), ((rl 3), .inl (cy 0, 12, .inl (Ml 3))), ((rl 4), .inl (cy 0, 12, .inl (Ml 4))), ((rl 5), .inl (cy 0, 12, .inl (Ml 5))), ((rl 6), .inl (cy 0, 12, .inl (Ml 6))), ((rl 7), .inl (cy 0, 12, .inl (Ml 7))), ((rl 8), .inl (cy 0, 12, .inl (Ml 8))), ((rl 9), .inl (cy 0, 12, .inl (Ml 9))), ((rl 10), .inl (cy 0, 12, .inl (Ml 10))), ((rl 11), .inl (cy 0, 12, .inl (Ml 11)))])) (va_Qi (fun (r : Int32) (_ : Unit) => True) (fun (_ : Unit) (_ : State) => True) (va_A [] sz)) 0 0 (va_A [] sz) := by
  refine ofQ (cc := cX0_leaving) (maxL := 4) (ret := (some .int)) (by decide) rfl ?_
  intro p e s m args below meth c s₁ Q hQ B hml hv
  obtain ⟨rfl, hsz, hP, hK, hD0⟩ := hv
  have hG := hK.2
  have hK := hK.1
  have hx := B.exec
  have hb := B.bytes
  have hr := B.returns
  have hts := atoms_spec (ws := wsX0_leaving) B.pre
  have hown : s.vm.findClass RX0 = some m.cls := by have h_ := findClass_of_methodNamed B.named; exact h_
  have hlocks := B.notSynchronized
  subst hsz
  have hD : va_D (va_A [] s.heap.size) [] := dd_nil
  generalize hAe : va_A [] s.heap.size = A at hD hQ
  have hA : ∀ q : Nat, s.heap.size ≤ q → A q := fun q h => by rw [← hAe]; exact Or.inr h
  have hS : va_S A s.heap s.heap [] := va_S.rf
  have hl := lv_entry ([.ref xc, .int a1]) (n := 4) (Nat.le_of_ble_eq_true rfl)
  rw [lg_entry_eq]
  generalize (lg_sl ([.ref xc, .int a1]) ++ List.replicate (4 - (lg_sl ([.ref xc, .int a1])).length) Slot.unset).toArray = ls at hl ⊢
  have hl : lv_has ls 4 [(0, .ref xc), (1, .int a1)] := hl
  have z0 : (0 : Int32).toInt = 0 := by decide
  have z1 : (1 : Int32).toInt = 1 := by decide
  refine lv_iconst (v := 0) hx hb dX0_leaving_0 (by decide) ?_
  refine lv_istore_n (lv' := [(2, .int 0), (0, .ref xc), (1, .int a1)]) hx hb dX0_leaving_1 rfl hl (by decide) rfl (fun ls hl => ?_)
  refine lv_iconst (v := 0) hx hb dX0_leaving_2 (by decide) ?_
  refine lv_istore_n (lv' := [(3, .int 0), (2, .int 0), (0, .ref xc), (1, .int a1)]) hx hb dX0_leaving_3 rfl hl (by decide) rfl (fun ls hl => ?_)
  suffices LOOP_1 : ∀ (n_1 : Nat) (x3_1 : Int32) (x2_1 : Int32) (H : Heap) (locs : List Loc) (ls : Array Slot), vp.toInt - x3_1.toInt < (n_1 : Int) → (0 ≤ x3_1.toInt) → (x3_1.toInt ≤ vp.toInt) → va_P D vwCl [(xc, .inr (0, [.ref xn, .ref xk, .ref clo, .ref cro, .ref c4, .ref c5, .ref c6, .ref c7, .ref c8])), (xn, .inr (3, [.int vp, .int vn, .ref n1, .ref n2, .ref n3, .ref n4, .ref n5])), (clo, .inl (cy 6, 12, .inr (.inr (.inr (.inr (gf_ rl)))))), ((rl 0), .inl (cy 0, 12, .inl (Ml 0))), ((rl 1), .inl (cy 0, 12, .inl (Ml 1))), ((rl 2), .inl (cy 0, 12, .inl (Ml 2))), ((rl 3), .inl (cy 0, 12, .inl (Ml 3))), ((rl 4), .inl (cy 0, 12, .inl (Ml 4))), ((rl 5), .inl (cy 0, 12, .inl (Ml 5))), ((rl 6), .inl (cy 0, 12, .inl (Ml 6))), ((rl 7), .inl (cy 0, 12, .inl (Ml 7))), ((rl 8), .inl (cy 0, 12, .inl (Ml 8))), ((rl 9), .inl (cy 0, 12, .inl (Ml 9))), ((rl 10), .inl (cy 0, 12, .inl (Ml 10))), ((rl 11), .inl (cy 0, 12, .inl (Ml 11)))] H → va_S A s.heap H locs → lv_has ls 4 [(3, .int x3_1), (2, .int x2_1), (0, .ref xc), (1, .int a1)] → W p l e ({ frames := 1, cells := 0, slots := 0, locals := 24 } : Room) s m (([.ref xc, .int a1] : List Value).toArray) below meth c H locs 0 0 Q (F0 m 4 ls []) from LOOP_1 ((vp.toInt - (0 : Int32).toInt).toNat + 1) (0 : Int32) (0 : Int32) _ _ _ (by omega) (by first | with_reducible assumption | assumption | omega) (by first | with_reducible assumption | assumption | omega) hP  hS (lv_sub hl [0, 1, 2, 3] rfl)
  intro n_1
  induction n_1 with
  | zero =>
    intro x3_1 x2_1 H locs ls hm v0_1 v1_1 hP hS hl
    exact absurd hm (by omega)
  | succ n_1 ih_1 =>
    intro x3_1 x2_1 H locs ls hm v0_1 v1_1 hP hS hl
    refine lv_iload_n hx hb dX0_leaving_4 rfl (lv_at hl 0 rfl) ?_
    refine lv_aload_n hx hb dX0_leaving_5 rfl (lv_at hl 2 rfl) ?_
    refine va_get (ci := 0) (v := .ref xn) (C := RX0) (T := TX0) (N := 9) hx hb hts (fun _ h => List.mem_cons_of_mem _ (List.mem_append_left _ (List.mem_append_right _ h))) hown hK.1 hP 0 rfl rfl 0 (by decide) (hts (.fieldLink RX0 35 "CutAtlas$Current" "net" "LCutAtlas$Net;") (by decide +kernel)) (fun _ h9 => h9) rfl dX0_leaving_6 ?_
    refine va_get (ci := 3) (v := .int vp) (C := RX3) (T := TX3) (N := 7) hx hb hts (fun _ h => List.mem_cons_of_mem _ (List.mem_append_right _ h)) hown hK.1 hP 1 rfl rfl 0 (by decide) (hts (.fieldLink RX0 43 "CutAtlas$Net" "places" "I") (by decide +kernel)) (fun _ h9 => h9) rfl dX0_leaving_9 ?_
    refine lv_icmp_ge (tgt := 41) hx hb dX0_leaving_12 (by decide) (fun c_2 => ?_) (fun c_2 => ?_)
    · have t_2 : vp.toInt ≤ x3_1.toInt := Int32.le_iff_toInt_le.mp c_2
      refine lv_iload_n hx hb dX0_leaving_41 rfl (lv_at hl 1 rfl) ?_
      rw [hQ]
      exact W.iret (v := x2_1) hx hb hr (fun t ht hW => ⟨⟨x2_1, (), rfl, trivial, trivial⟩, hS.F ht⟩) hS.2.2 dX0_leaving_42
    · have t_2 : ¬ vp.toInt ≤ x3_1.toInt := fun h => c_2 (Int32.le_iff_toInt_le.mpr h)
      refine lv_iload_n hx hb dX0_leaving_15 rfl (lv_at hl 3 rfl) ?_
      refine lv_iload_n hx hb dX0_leaving_16 rfl (lv_at hl 0 rfl) ?_
      refine lv_ishr hx hb dX0_leaving_17 ?_
      refine lv_topi (fun y_3 ey_3 => ?_)
      refine lv_iconst (v := 1) hx hb dX0_leaving_18 (by decide) ?_
      refine lv_iand hx hb dX0_leaving_19 ?_
      refine lv_topi (fun y_4 ey_4 => ?_)
      refine lv_iconst (v := 1) hx hb dX0_leaving_20 (by decide) ?_
      refine lv_icmp_ne (tgt := 35) hx hb dX0_leaving_21 (by decide) (fun c_5 => ?_) (fun c_5 => ?_)
      · have t_5 : ¬ y_4.toInt = (1 : Int32).toInt := fun h => c_5 (Int32.toInt_inj.mp h)
        obtain ⟨y_6, ey_6⟩ : ∃ y : Int32, y = x3_1 + 1 := ⟨_, rfl⟩
        have ty_6 : y_6.toInt = x3_1.toInt + (1 : Int32).toInt := by rw [ey_6]; exact addI (by omega) (by omega)
        refine lv_iinc (v := y_6) (lv' := [(3, .int y_6), (2, .int x2_1), (0, .ref xc), (1, .int a1)]) hx hb dX0_leaving_35 hl (k := 0) rfl (by rw [ey_6]; rfl) (by decide) rfl (fun ls hl => ?_)
        refine lv_goto (tgt := 4) hx hb dX0_leaving_38 (by decide) ?_
        exact ih_1 y_6 x2_1 _ _ _ (by omega) (by first | with_reducible assumption | assumption | omega) (by first | with_reducible assumption | assumption | omega) hP  hS (lv_sub hl [0, 1, 2, 3] rfl)
      · have t_5 : y_4.toInt = (1 : Int32).toInt := congrArg Int32.toInt c_5
        refine lv_iload_n hx hb dX0_leaving_24 rfl (lv_at hl 1 rfl) ?_
        refine lv_aload_n hx hb dX0_leaving_25 rfl (lv_at hl 2 rfl) ?_
        refine lv_iload_n hx hb dX0_leaving_26 rfl (lv_at hl 0 rfl) ?_
        refine lv_iload_n hx hb dX0_leaving_27 rfl (lv_at hl 3 rfl) ?_
        refine lv_iconst (v := (-1)) hx hb dX0_leaving_28 (by decide) ?_
        refine lv_ixor hx hb dX0_leaving_29 ?_
        refine lv_topi (fun y_7 ey_7 => ?_)
        refine ct_R hP hD0 [(xc, .inr (0, [.ref xn, .ref xk, .ref clo, .ref cro, .ref c4, .ref c5, .ref c6, .ref c7, .ref c8])), (xn, .inr (3, [.int vp, .int vn, .ref n1, .ref n2, .ref n3, .ref n4, .ref n5])), (clo, .inl (cy 6, 12, .inr (.inr (.inr (.inr (gf_ rl)))))), ((rl 0), .inl (cy 0, 12, .inl (Ml 0))), ((rl 1), .inl (cy 0, 12, .inl (Ml 1))), ((rl 2), .inl (cy 0, 12, .inl (Ml 2))), ((rl 3), .inl (cy 0, 12, .inl (Ml 3))), ((rl 4), .inl (cy 0, 12, .inl (Ml 4))), ((rl 5), .inl (cy 0, 12, .inl (Ml 5))), ((rl 6), .inl (cy 0, 12, .inl (Ml 6))), ((rl 7), .inl (cy 0, 12, .inl (Ml 7))), ((rl 8), .inl (cy 0, 12, .inl (Ml 8))), ((rl 9), .inl (cy 0, 12, .inl (Ml 9))), ((rl 10), .inl (cy 0, 12, .inl (Ml 10))), ((rl 11), .inl (cy 0, 12, .inl (Ml 11)))] [0, 1, 2, 3, 4, 5, 6, 7, 8, 9, 10, 11, 12, 13, 14] (by decide +kernel) rfl (fun hPc hDw => ?_)
        have hFc := va_free (wc := []) hD hS hA [] rfl
        refine va_calli (va_runV (As := [.int x3_1, .int y_7]) (rest := [.int x2_1]) ⟨hx, hb, hml, hown, hts⟩ (c_X0_betweenSets l D cy H.size xc xk clo cro c4 c5 c6 c7 c8 xn n1 n2 n3 n4 n5 vp vn rl Ml x3_1 y_7 (by first | with_reducible assumption | assumption | omega) (by first | with_reducible assumption | assumption | omega)) (cwV 2 hts gX0_leaving_X0_betweenSets rfl rfl rfl (by decide +kernel) ⟨Nat.le_of_ble_eq_true rfl, Nat.le_of_ble_eq_true rfl⟩) ⟨bl_g, va_recvX hK.1 hP (ci := 0) (q0 := 0) rfl rfl, fun U hU hW => ⟨rfl, by rw [hU], by rw [hU]; exact hPc, ⟨kk_mv hW hK, arrOfT_moved hW.alike hG⟩, hDw⟩⟩ rfl rfl hl.1 rfl (lv_room (Nat.le_of_ble_eq_true rfl)) dX0_leaving_30 ⟨Nat.le_of_ble_eq_true rfl, Nat.le_of_ble_eq_true rfl⟩) hS (fun q _ h => hFc q h) hFc (fun r_8 u t H locs ht hvm hw hB hz1 hk1 hS => ?_)
        have hP : va_P D vwCl _ H := ro_keep hP hk1
        refine lv_iadd hx hb dX0_leaving_33 ?_
        refine lv_topi (fun y_9 ey_9 => ?_)
        refine lv_istore_n (lv' := [(2, .int y_9), (3, .int x3_1), (0, .ref xc), (1, .int a1)]) hx hb dX0_leaving_34 rfl hl (by decide) rfl (fun ls hl => ?_)
        obtain ⟨y_10, ey_10⟩ : ∃ y : Int32, y = x3_1 + 1 := ⟨_, rfl⟩
        have ty_10 : y_10.toInt = x3_1.toInt + (1 : Int32).toInt := by rw [ey_10]; exact addI (by omega) (by omega)
        refine lv_iinc (v := y_10) (lv' := [(3, .int y_10), (2, .int y_9), (0, .ref xc), (1, .int a1)]) hx hb dX0_leaving_35 hl (k := 1) rfl (by rw [ey_10]; rfl) (by decide) rfl (fun ls hl => ?_)
        refine lv_goto (tgt := 4) hx hb dX0_leaving_38 (by decide) ?_
        exact ih_1 y_10 y_9 _ _ _ (by omega) (by first | with_reducible assumption | assumption | omega) (by first | with_reducible assumption | assumption | omega) hP  hS (lv_sub hl [0, 1, 2, 3] rfl)

set_option maxHeartbeats 4000000 in
set_option maxRecDepth 100000 in
theorem c_X0_asRoom (l : Launch) (D : va_G) (cy : Nat → ClassId) (sz : Nat) (a1 : Int32) : Met l yX0_asRoom wsX0_asRoom ({ frames := 0, cells := 0, slots := 0, locals := 0 }) (va_Pc [.int a1] (fun U => U.heap.size = sz ∧ va_P D vwCl [] U.heap ∧ kk_ D cy U ∧ va_D (fun _ => True) [])) (va_Qi (fun (r : Int32) (_ : Unit) => True) (fun (_ : Unit) (_ : State) => True) (va_A [] sz)) 0 0 (va_A [] sz) := by
  refine ofQ (cc := cX0_asRoom) (maxL := 1) (ret := (some .int)) (by decide) rfl ?_
  intro p e s m args below meth c s₁ Q hQ B hml hv
  obtain ⟨rfl, hsz, hP, hK, hD0⟩ := hv
  have hx := B.exec
  have hb := B.bytes
  have hr := B.returns
  have hts := atoms_spec (ws := wsX0_asRoom) B.pre
  have hown : s.vm.findClass RX0 = some m.cls := by have h_ := findClass_of_methodNamed B.named; exact h_
  have hlocks := B.notSynchronized
  subst hsz
  have hD : va_D (va_A [] s.heap.size) [] := dd_nil
  generalize hAe : va_A [] s.heap.size = A at hD hQ
  have hA : ∀ q : Nat, s.heap.size ≤ q → A q := fun q h => by rw [← hAe]; exact Or.inr h
  have hS : va_S A s.heap s.heap [] := va_S.rf
  have hl := lv_entry ([.int a1]) (n := 1) (Nat.le_of_ble_eq_true rfl)
  rw [lg_entry_eq]
  generalize (lg_sl ([.int a1]) ++ List.replicate (1 - (lg_sl ([.int a1])).length) Slot.unset).toArray = ls at hl ⊢
  have hl : lv_has ls 1 [(0, .int a1)] := hl
  have zm5 : ((-5) : Int32).toInt = -5 := by decide
  have z1000000 : (1000000 : Int32).toInt = 1000000 := by decide
  refine lv_iload_n hx hb dX0_asRoom_0 rfl (lv_at hl 0 rfl) ?_
  refine lv_bipush (v := (-5)) hx hb dX0_asRoom_1 (by decide) ?_
  refine lv_icmp_ne (tgt := 11) hx hb dX0_asRoom_3 (by decide) (fun c_1 => ?_) (fun c_1 => ?_)
  · have t_1 : ¬ a1.toInt = ((-5) : Int32).toInt := fun h => c_1 (Int32.toInt_inj.mp h)
    refine lv_iload_n hx hb dX0_asRoom_11 rfl (lv_at hl 0 rfl) ?_
    rw [hQ]
    exact W.iret (v := a1) hx hb hr (fun t ht hW => ⟨⟨a1, (), rfl, trivial, trivial⟩, hS.F ht⟩) hS.2.2 dX0_asRoom_12
  · have t_1 : a1.toInt = ((-5) : Int32).toInt := congrArg Int32.toInt c_1
    refine lv_ldc (v := 1000000) hx hb hown (hts (.constant RX0 82 (1000000)) (by decide +kernel)) dX0_asRoom_6 ?_
    refine lv_goto (tgt := 12) hx hb dX0_asRoom_8 (by decide) ?_
    rw [hQ]
    exact W.iret (v := 1000000) hx hb hr (fun t ht hW => ⟨⟨1000000, (), rfl, trivial, trivial⟩, hS.F ht⟩) hS.2.2 dX0_asRoom_12
