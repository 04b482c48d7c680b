section
set_option maxHeartbeats 4000000 in
set_option maxRecDepth 100000 in
theorem c_X12_bitsOf2 (l : Launch) (D : va_G) (cy : Nat → ClassId) (sz : Nat) (a1 : Int32) : Met l yX12_bitsOf wsX12_bitsOf ({ frames := 0, cells := 0, slots := 0, locals := 0 }) (va_Pc [.int a1] (fun U => U.heap.size = sz ∧ va_P D vwCl [] U.heap ∧ kk_ D cy U ∧ va_D (fun _ => True) [])) (va_Qi (fun (r : Int32) (_ : Unit) => (r.toInt = bitI a1) ∧ (0 ≤ r.toInt ∧ r.toInt ≤ 12)) (fun (_ : Unit) (_ : State) => True) (va_A [] sz)) 0 0 (va_A [] sz) := by
  refine ofQ (cc := cX12_bitsOf) (maxL := 3) (ret := (some .int)) (by decide) rfl ?_
  intro p e s m args below meth c s₁ Q hQ B hml hv
  obtain ⟨rfl, hsz, hP, hK, hD0⟩ := hv
  have hx := B.exec
  have hb := B.bytes
  have hr := B.returns
  have hts := atoms_spec (ws := wsX12_bitsOf) B.pre
  have hown : s.vm.findClass RX12 = some m.cls := by have h_ := findClass_of_methodNamed B.named; exact h_
  have hlocks := B.notSynchronized
  subst hsz
  have hD : va_D (va_A [] s.heap.size) [] := dd_nil
  generalize hAe : va_A [] s.heap.size = A at hD hQ
  have hA : ∀ q : Nat, s.heap.size ≤ q → A q := fun q h => by rw [← hAe]; exact Or.inr h
  have hS : va_S A s.heap s.heap [] := va_S.rf
  have hl := lv_entry ([.int a1]) (n := 3) (Nat.le_of_ble_eq_true rfl)
  rw [lg_entry_eq]
  generalize (lg_sl ([.int a1]) ++ List.replicate (3 - (lg_sl ([.int a1])).length) Slot.unset).toArray = ls at hl ⊢
  have hl : lv_has ls 3 [(0, .int a1)] := hl
  have z0 : (0 : Int32).toInt = 0 := by decide
  have z1 : (1 : Int32).toInt = 1 := by decide
  have z12 : (12 : Int32).toInt = 12 := by decide
  refine lv_iconst (v := 0) hx hb dB_3_1_6.1.1.1.1 (by decide) ?_
  refine lv_istore_n (lv' := [(1, .int 0), (0, .int a1)]) hx hb dB_3_1_6.1.1.1.2 rfl hl (by decide) rfl (fun ls hl => ?_)
  refine lv_iconst (v := 0) hx hb dB_3_1_6.1.1.2.1 (by decide) ?_
  refine lv_istore_n (lv' := [(2, .int 0), (1, .int 0), (0, .int a1)]) hx hb dB_3_1_6.1.1.2.2 rfl hl (by decide) rfl (fun ls hl => ?_)
  suffices LOOP_1 : ∀ (n_1 : Nat) (x2_1 : Int32) (x1_1 : Int32) (H : Heap) (locs : List Loc) (ls : Array Slot), 12 - x2_1.toInt < (n_1 : Int) → (0 ≤ x2_1.toInt) → (x2_1.toInt ≤ 12) → (0 ≤ x1_1.toInt ∧ x1_1.toInt ≤ x2_1.toInt) → (x1_1.toInt = sumI (fun i => if bt a1 i = true then 1 else 0) x2_1.toNatClampNeg) → va_P D vwCl [] H → va_S A s.heap H locs → lv_has ls 3 [(2, .int x2_1), (1, .int x1_1), (0, .int a1)] → W p l e ({ frames := 0, cells := 0, slots := 0, locals := 0 } : Room) s m (([.int a1] : List Value).toArray) below meth c H locs 0 0 Q (F0 m 4 ls []) from LOOP_1 ((12 - (0 : Int32).toInt).toNat + 1) (0 : Int32) (0 : Int32) _ _ _ (by omega) (by first | with_reducible assumption | omega | assumption) (by first | with_reducible assumption | omega | assumption) (by first | with_reducible assumption | omega | assumption) (by first | exact sum_0 | exact cnt_b v_none hbw_ (by omega) (by omega) (by omega)) hP hS (lv_sub hl [0, 1, 2] rfl)
  intro n_1
  induction n_1 with
  | zero =>
    intro x2_1 x1_1 H locs ls hm v0_1 v1_1 v2_1 v3_1 hP hS hl
    exact absurd hm (by omega)
  | succ n_1 ih_1 =>
    intro x2_1 x1_1 H locs ls hm v0_1 v1_1 v2_1 v3_1 hP hS hl
    refine lv_iload_n hx hb dB_3_1_6.1.2.1.1 rfl (lv_at hl 0 rfl) ?_
    refine lv_bipush (v := 12) hx hb dB_3_1_6.1.2.1.2 (by decide) ?_
    refine lv_icmp_ge (tgt := 24) hx hb dB_3_1_6.1.2.2.1 (by decide) (fun c_2 => ?_) (fun c_2 => ?_)
    · have t_2 : (12 : Int32).toInt ≤ x2_1.toInt := Int32.le_iff_toInt_le.mp c_2
      refine lv_iload_n hx hb dB_3_1_7.2.1 rfl (lv_at hl 1 rfl) ?_
      rw [hQ]
      exact W.iret (v := x1_1) hx hb hr (fun t ht hW => ⟨⟨x1_1, (), rfl, ⟨(sum_end (n := 12) v3_1 (by omega)).trans rfl, by omega⟩, trivial⟩, hS.F ht⟩) hS.2.2 dB_3_1_7.2.2
    · have t_2 : ¬ (12 : Int32).toInt ≤ x2_1.toInt := fun h => c_2 (Int32.le_iff_toInt_le.mpr h)
      refine lv_iload_n hx hb dB_3_1_6.1.2.2.2 rfl (lv_at hl 1 rfl) ?_
      refine lv_iload_n hx hb dB_3_1_6.2.1.1.1 rfl (lv_at hl 2 rfl) ?_
      refine lv_iload_n hx hb dB_3_1_6.2.1.1.2 rfl (lv_at hl 0 rfl) ?_
      refine lv_ishr hx hb dB_3_1_6.2.1.2.1 ?_
      refine lv_topi (fun y_3 ey_3 => ?_)
      refine lv_iconst (v := 1) hx hb dB_3_1_6.2.1.2.2 (by decide) ?_
      refine lv_iand hx hb dB_3_1_6.2.2.1.1 ?_
      refine lv_topi (fun y_4 ey_4 => ?_)
      have hbw_ := bI_w (x := a1) (y := x2_1) (by omega) (by omega) ey_3 ey_4
      have h01_ : y_4.toInt = 0 ∨ y_4.toInt = 1 := by rw [hbw_]; split <;> omega
      refine lv_iadd hx hb dB_3_1_6.2.2.1.2 ?_
      refine lv_topi (fun y_5 ey_5 => ?_)
      have ty_5 : y_5.toInt = x1_1.toInt + y_4.toInt := by rw [ey_5]; exact addI (by omega) (by omega)
      refine lv_istore_n (lv' := [(1, .int y_5), (2, .int x2_1), (0, .int a1)]) hx hb dB_3_1_6.2.2.2.1 rfl hl (by decide) rfl (fun ls hl => ?_)
      obtain ⟨y_6, ey_6⟩ : ∃ y : Int32, y = x2_1 + 1 := ⟨_, rfl⟩
      have ty_6 : y_6.toInt = x2_1.toInt + (1 : Int32).toInt := by rw [ey_6]; exact addI (by omega) (by omega)
      refine lv_iinc (v := y_6) (lv' := [(2, .int y_6), (1, .int y_5), (0, .int a1)]) hx hb dB_3_1_6.2.2.2.2 hl (k := 1) rfl (by rw [ey_6]; rfl) (by decide) rfl (fun ls hl => ?_)
      refine lv_goto (tgt := 4) hx hb dB_3_1_7.1 (by decide) ?_
      exact ih_1 y_6 y_5 _ _ _ (by omega) (by first | with_reducible assumption | omega | assumption) (by first | with_reducible assumption | omega | assumption) (by first | with_reducible assumption | omega | assumption) (by first | exact sum_0 | exact cnt_b v3_1 hbw_ (by omega) (by omega) (by omega)) hP hS (lv_sub hl [0, 1, 2] rfl)

set_option maxHeartbeats 4000000 in
set_option maxRecDepth 100000 in
theorem c_X12_cutsOf2 (l : Launch) (D : va_G) (cy : Nat → ClassId) (sz : Nat) (mo : Nat) (g5 : Nat) (g6 : Nat) (g7 : Nat) (g8 : Nat) (g9 : Nat) (g10 : Nat) (g12 : Nat) (g13 : Nat) (g14 : Nat) (g15 : Nat) (g16 : Nat) (g17 : Nat) (g18 : Nat) (g19 : Nat) (g20 : Nat) (g22 : Nat) (g23 : Nat) (g24 : Nat) (g29 : Nat) (g30 : Nat) (g31 : Nat) (g32 : Nat) (g33 : Nat) (s0 : Int32) (s1 : Int32) (s3 : Int32) (s4 : Int32) (s11 : Int32) (s21 : Int32) (s25 : Int32) (s26 : Int32) (s27 : Int32) (s28 : Int32) (t2 : Int64) (f5 : Nat → Int32) (f6 : Nat → Int32) (f7 : Nat → Int32) (f8 : Nat → Int32) (f10 : Nat → Int32) (a1 : Int32) (a2 : Int32) (a3 : Int32) (a4 : Int32) (hN : 0 ≤ s4.toInt ∧ s4.toInt ≤ 40) (hPl : 0 ≤ s3.toInt ∧ s3.toInt ≤ 12) (q1 : 0 ≤ a1.toInt ∧ a1.toInt < s3.toInt) (q2 : 0 ≤ a2.toInt ∧ a2.toInt < s3.toInt) (q4 : 0 ≤ a4.toInt) (r_f6 : rng f6 40 (0) (11)) (r_f7 : rng f7 40 (0) (11)) (r_f8 : rng f8 40 (0) (2000)) : Met l yX12_cutsOf wsX12_cutsOf ({ frames := 3, cells := 0, slots := 0, locals := 71 }) (va_Pc [.ref mo, .int a1, .int a2, .int a3, .int a4] (fun U => U.heap.size = sz ∧ va_P D vwCl [ob12_0_ mo s0 s1 t2 s3 s4 g5 g6 g7 g8 g9 g10 s11 g12 g13 g14 g15 g16 g17 g18 g19 g20 s21 g22 g23 g24 s25 s26 s27 s28 g29 g30 g31 g32 g33, ai_ cy g5 40 f5, ai_ cy g6 40 f6, ai_ cy g7 40 f7, ai_ cy g8 40 f8, az_ cy g10 40 f10] U.heap ∧ kk_ D cy U ∧ va_D (fun _ => True) [ob12_0_ mo s0 s1 t2 s3 s4 g5 g6 g7 g8 g9 g10 s11 g12 g13 g14 g15 g16 g17 g18 g19 g20 s21 g22 g23 g24 s25 s26 s27 s28 g29 g30 g31 g32 g33, ai_ cy g5 40 f5, ai_ cy g6 40 f6, ai_ cy g7 40 f7, ai_ cy g8 40 f8, az_ cy g10 40 f10])) (va_Qv (fun (_ : Unit) => True) (fun (_ : Unit) (t : State) => ∃ (n25 : Int32), ∃ (n26 : Int32), ∃ (n27 : Int32), ∃ (n28 : Int32), (ctsW (refP (cutR f5 f6 f7 f8 f10 s21.toInt s4.toNatClampNeg) a1.toNatClampNeg a2.toNatClampNeg a3.toInt) a4.toInt (2 ^ s3.toNatClampNeg) n25 n26 n27 n28) ∧ va_P D vwCl [ob12_0_ mo s0 s1 t2 s3 s4 g5 g6 g7 g8 g9 g10 s11 g12 g13 g14 g15 g16 g17 g18 g19 g20 s21 g22 g23 g24 n25 n26 n27 n28 g29 g30 g31 g32 g33, ai_ cy g5 40 f5, ai_ cy g6 40 f6, ai_ cy g7 40 f7, ai_ cy g8 40 f8, az_ cy g10 40 f10] t.heap ∧ va_D (va_A [ob12_0_ mo s0 s1 t2 s3 s4 g5 g6 g7 g8 g9 g10 s11 g12 g13 g14 g15 g16 g17 g18 g19 g20 s21 g22 g23 g24 s25 s26 s27 s28 g29 g30 g31 g32 g33, ai_ cy g5 40 f5, ai_ cy g6 40 f6, ai_ cy g7 40 f7, ai_ cy g8 40 f8, az_ cy g10 40 f10] sz) [ob12_0_ mo s0 s1 t2 s3 s4 g5 g6 g7 g8 g9 g10 s11 g12 g13 g14 g15 g16 g17 g18 g19 g20 s21 g22 g23 g24 n25 n26 n27 n28 g29 g30 g31 g32 g33, ai_ cy g5 40 f5, ai_ cy g6 40 f6, ai_ cy g7 40 f7, ai_ cy g8 40 f8, az_ cy g10 40 f10]) (va_A [ob12_0_ mo s0 s1 t2 s3 s4 g5 g6 g7 g8 g9 g10 s11 g12 g13 g14 g15 g16 g17 g18 g19 g20 s21 g22 g23 g24 s25 s26 s27 s28 g29 g30 g31 g32 g33, ai_ cy g5 40 f5, ai_ cy g6 40 f6, ai_ cy g7 40 f7, ai_ cy g8 40 f8, az_ cy g10 40 f10] sz)) 0 0 (va_A [ob12_0_ mo s0 s1 t2 s3 s4 g5 g6 g7 g8 g9 g10 s11 g12 g13 g14 g15 g16 g17 g18 g19 g20 s21 g22 g23 g24 s25 s26 s27 s28 g29 g30 g31 g32 g33, ai_ cy g5 40 f5, ai_ cy g6 40 f6, ai_ cy g7 40 f7, ai_ cy g8 40 f8, az_ cy g10 40 f10] sz) := by
  refine ofQ (cc := cX12_cutsOf) (maxL := 6) (ret := none) (by decide) rfl ?_
  intro p e s m args below meth c s₁ Q hQ B hml hv
  obtain ⟨rfl, hsz, hP, hK, hD0⟩ := hv
  have hx := B.exec
  have hb := B.bytes
  have hr := B.returns
  have hts := atoms_spec (ws := wsX12_cutsOf) B.pre
  have hown : s.vm.findClass RX12 = some m.cls := by have h_ := findClass_of_methodNamed B.named; exact h_
  have hlocks := B.notSynchronized
  subst hsz
  have hD := hD0.self (sz := s.heap.size)
  generalize hAe : va_A [ob12_0_ mo s0 s1 t2 s3 s4 g5 g6 g7 g8 g9 g10 s11 g12 g13 g14 g15 g16 g17 g18 g19 g20 s21 g22 g23 g24 s25 s26 s27 s28 g29 g30 g31 g32 g33, ai_ cy g5 40 f5, ai_ cy g6 40 f6, ai_ cy g7 40 f7, ai_ cy g8 40 f8, az_ cy g10 40 f10] s.heap.size = A at hD hQ
  have hA : ∀ q : Nat, s.heap.size ≤ q → A q := fun q h => by rw [← hAe]; exact Or.inr h
  have hS : va_S A s.heap s.heap [] := va_S.rf
  have hl := lv_entry ([.ref mo, .int a1, .int a2, .int a3, .int a4]) (n := 6) (Nat.le_of_ble_eq_true rfl)
  rw [lg_entry_eq]
  generalize (lg_sl ([.ref mo, .int a1, .int a2, .int a3, .int a4]) ++ List.replicate (6 - (lg_sl ([.ref mo, .int a1, .int a2, .int a3, .int a4])).length) Slot.unset).toArray = ls at hl ⊢
  have hl : lv_has ls 6 [(0, .ref mo), (1, .int a1), (2, .int a2), (3, .int a3), (4, .int a4)] := hl
  have zm9 : ((-9) : Int32).toInt = -9 := by decide
  have z0 : (0 : Int32).toInt = 0 := by decide
  have z1 : (1 : Int32).toInt = 1 := by decide
  refine lv_aload_n hx hb dB_3_1_13.1.1.1.1 rfl (lv_at hl 0 rfl) ?_
  refine lv_iconst (v := 0) hx hb dB_3_1_13.1.1.1.2 (by decide) ?_
  refine va_put (ci := 12) (v := .int 0) (ty := .int) (C := RX12) (T := TX12) (N := 34) hx hb hts (fun _ h => List.mem_cons_of_mem _ (List.mem_append_right _ h)) tyX12 tyX12_ok nmX12 hown hK.1 hP hD hS 0 rfl rfl 25 (by decide) (hts (.fieldLink RX12 192 "CutAtlasModel" "cuts" "I") (List.mem_of_getElem? (i := 1) rfl)) (fun _ h9 => h9) rfl (by decide +kernel) rfl rfl (Nat.le_of_ble_eq_true rfl) dB_3_1_13.1.1.2.1 (fun H locs hP hD hS => ?_)
  refine pd_K [ob12_0_ mo s0 s1 t2 s3 s4 g5 g6 g7 g8 g9 g10 s11 g12 g13 g14 g15 g16 g17 g18 g19 g20 s21 g22 g23 g24 0 s26 s27 s28 g29 g30 g31 g32 g33, ai_ cy g5 40 f5, ai_ cy g6 40 f6, ai_ cy g7 40 f7, ai_ cy g8 40 f8, az_ cy g10 40 f10] hP hD (fun hP hD => ?_)
  refine lv_aload_n hx hb dB_3_1_13.1.1.2.2 rfl (lv_at hl 0 rfl) ?_
  refine lv_bipush (v := (-9)) hx hb dB_3_1_13.1.2.1.1 (by decide) ?_
  refine va_put (ci := 12) (v := .int (-9)) (ty := .int) (C := RX12) (T := TX12) (N := 34) hx hb hts (fun _ h => List.mem_cons_of_mem _ (List.mem_append_right _ h)) tyX12 tyX12_ok nmX12 hown hK.1 hP hD hS 0 rfl rfl 26 (by decide) (hts (.fieldLink RX12 195 "CutAtlasModel" "near" "I") (List.mem_of_getElem? (i := 2) rfl)) (fun _ h9 => h9) rfl (by decide +kernel) rfl rfl (Nat.le_of_ble_eq_true rfl) dB_3_1_13.1.2.1.2 (fun H locs hP hD hS => ?_)
  refine pd_K [ob12_0_ mo s0 s1 t2 s3 s4 g5 g6 g7 g8 g9 g10 s11 g12 g13 g14 g15 g16 g17 g18 g19 g20 s21 g22 g23 g24 0 (-9) s27 s28 g29 g30 g31 g32 g33, ai_ cy g5 40 f5, ai_ cy g6 40 f6, ai_ cy g7 40 f7, ai_ cy g8 40 f8, az_ cy g10 40 f10] hP hD (fun hP hD => ?_)
  refine lv_aload_n hx hb dB_3_1_13.1.2.2.1 rfl (lv_at hl 0 rfl) ?_
  refine lv_bipush (v := (-9)) hx hb dB_3_1_13.1.2.2.2 (by decide) ?_
  refine va_put (ci := 12) (v := .int (-9)) (ty := .int) (C := RX12) (T := TX12) (N := 34) hx hb hts (fun _ h => List.mem_cons_of_mem _ (List.mem_append_right _ h)) tyX12 tyX12_ok nmX12 hown hK.1 hP hD hS 0 rfl rfl 27 (by decide) (hts (.fieldLink RX12 198 "CutAtlasModel" "far" "I") (List.mem_of_getElem? (i := 3) rfl)) (fun _ h9 => h9) rfl (by decide +kernel) rfl rfl (Nat.le_of_ble_eq_true rfl) dB_3_1_13.2.1.1.1 (fun H locs hP hD hS => ?_)
  refine pd_K [ob12_0_ mo s0 s1 t2 s3 s4 g5 g6 g7 g8 g9 g10 s11 g12 g13 g14 g15 g16 g17 g18 g19 g20 s21 g22 g23 g24 0 (-9) (-9) s28 g29 g30 g31 g32 g33, ai_ cy g5 40 f5, ai_ cy g6 40 f6, ai_ cy g7 40 f7, ai_ cy g8 40 f8, az_ cy g10 40 f10] hP hD (fun hP hD => ?_)
  refine lv_aload_n hx hb dB_3_1_13.2.1.1.2 rfl (lv_at hl 0 rfl) ?_
  refine lv_bipush (v := (-9)) hx hb dB_3_1_13.2.1.2.1 (by decide) ?_
  refine va_put (ci := 12) (v := .int (-9)) (ty := .int) (C := RX12) (T := TX12) (N := 34) hx hb hts (fun _ h => List.mem_cons_of_mem _ (List.mem_append_right _ h)) tyX12 tyX12_ok nmX12 hown hK.1 hP hD hS 0 rfl rfl 28 (by decide) (hts (.fieldLink RX12 201 "CutAtlasModel" "chosen" "I") (List.mem_of_getElem? (i := 4) rfl)) (fun _ h9 => h9) rfl (by decide +kernel) rfl rfl (Nat.le_of_ble_eq_true rfl) dB_3_1_13.2.1.2.2 (fun H locs hP hD hS => ?_)
  refine pd_K [ob12_0_ mo s0 s1 t2 s3 s4 g5 g6 g7 g8 g9 g10 s11 g12 g13 g14 g15 g16 g17 g18 g19 g20 s21 g22 g23 g24 0 (-9) (-9) (-9) g29 g30 g31 g32 g33, ai_ cy g5 40 f5, ai_ cy g6 40 f6, ai_ cy g7 40 f7, ai_ cy g8 40 f8, az_ cy g10 40 f10] hP hD (fun hP hD => ?_)
  refine lv_iconst (v := 0) hx hb dB_3_1_13.2.2.1.1 (by decide) ?_
  refine lv_istore (lv' := [(5, .int 0), (0, .ref mo), (1, .int a1), (2, .int a2), (3, .int a3), (4, .int a4)]) hx hb dB_3_1_13.2.2.1.2 hl (by decide) rfl (fun ls hl => ?_)
  suffices LOOP_1 : ∀ (n_1 : Nat) (x5_1 : Int32) (o25_1 : Int32) (o26_1 : Int32) (o27_1 : Int32) (o28_1 : Int32) (H : Heap) (locs : List Loc) (ls : Array Slot), 4096 - x5_1.toInt < (n_1 : Int) → (0 ≤ x5_1.toInt) → (x5_1.toInt ≤ 4096) → (ctsW (refP (cutR f5 f6 f7 f8 f10 s21.toInt s4.toNatClampNeg) a1.toNatClampNeg a2.toNatClampNeg a3.toInt) a4.toInt x5_1.toNatClampNeg o25_1 o26_1 o27_1 o28_1) → (x5_1.toInt ≤ ((2 ^ s3.toNatClampNeg : Nat) : Int)) → (0 ≤ o25_1.toInt ∧ o25_1.toInt ≤ x5_1.toInt) → pd_2 D vwCl A [ob12_0_ mo s0 s1 t2 s3 s4 g5 g6 g7 g8 g9 g10 s11 g12 g13 g14 g15 g16 g17 g18 g19 g20 s21 g22 g23 g24 o25_1 o26_1 o27_1 o28_1 g29 g30 g31 g32 g33, ai_ cy g5 40 f5, ai_ cy g6 40 f6, ai_ cy g7 40 f7, ai_ cy g8 40 f8, az_ cy g10 40 f10] H → va_S A s.heap H locs → lv_has ls 6 [(5, .int x5_1), (0, .ref mo), (1, .int a1), (2, .int a2), (3, .int a3), (4, .int a4)] → W p l e ({ frames := 3, cells := 0, slots := 0, locals := 71 } : Room) s m (([.ref mo, .int a1, .int a2, .int a3, .int a4] : List Value).toArray) below meth c H locs 0 0 Q (F0 m 26 ls []) from LOOP_1 ((4096 - (0 : Int32).toInt).toNat + 1) (0 : Int32) (0 : Int32) ((-9) : Int32) ((-9) : Int32) ((-9) : Int32) _ _ _ (by omega) (by first | with_reducible assumption | omega | assumption) (by first | with_reducible assumption | omega | assumption) (by first | exact ctsW_0 (by omega) | exact ctsW_no v_none (by omega) (by omega) (refP_f (Or.inl (bt_fl hbs_ (by omega))) (by omega)) | exact ctsW_no v_none (by omega) (by omega) (refP_f (Or.inr (Or.inl (bt_nz hbt_ (by omega)))) (by omega)) | exact ctsW_no v_none (by omega) (by omega) (refP_f (Or.inr (Or.inr (fun h => absurd (hsz_.trans h) (by omega)))) (by omega)) | exact ctsW_st v_none (by omega) (by omega) (refP_t (b_tr hbs_ (by omega)) (bt_fl hbt_ (by omega)) (hsz_.symm.trans (by omega)) (by omega)) (by omega) (by first | exact Or.inl ⟨rfl, by omega⟩ | exact Or.inr ⟨rfl, by omega, by omega⟩) (by first | exact Or.inl ⟨rfl, by omega⟩ | exact Or.inr ⟨rfl, by omega, by omega⟩) (by first | exact Or.inl ⟨rfl, by omega⟩ | exact Or.inr ⟨rfl, by omega⟩) (by omega)) (by first | omega | exact Int.natCast_nonneg _) (by first | with_reducible assumption | omega | assumption) ⟨hP, hD⟩ hS (lv_sub hl [0, 1, 2, 3, 4, 5] rfl)
  intro n_1
  induction n_1 with
  | zero =>
    intro x5_1 o25_1 o26_1 o27_1 o28_1 H locs ls hm v0_1 v1_1 v2_1 v3_1 v4_1 hPD hS hl; obtain ⟨hP, hD⟩ := hPD
    exact absurd hm (by omega)
  | succ n_1 ih_1 =>
    intro x5_1 o25_1 o26_1 o27_1 o28_1 H locs ls hm v0_1 v1_1 v2_1 v3_1 v4_1 hPD hS hl; obtain ⟨hP, hD⟩ := hPD
    refine lv_iload hx hb dB_3_1_13.2.2.2.1 (lv_at hl 0 rfl) ?_
    refine lv_iconst (v := 1) hx hb dB_3_1_13.2.2.2.2 (by decide) ?_
    refine lv_aload_n hx hb dB_3_1_14.1.1.1.1 rfl (lv_at hl 1 rfl) ?_
    refine va_get (ci := 12) (v := .int s3) (C := RX12) (T := TX12) (N := 34) hx hb hts (fun _ h => List.mem_cons_of_mem _ (List.mem_append_right _ h)) hown hK.1 hP 0 rfl rfl 3 (by decide) (hts (.fieldLink RX12 88 "CutAtlasModel" "places" "I") (List.mem_of_getElem? (i := 5) rfl)) (fun _ h9 => h9) rfl dB_3_1_14.1.1.1.2 ?_
    refine lv_ishl hx hb dB_3_1_14.1.1.2.1 ?_
    refine lv_topi (fun y_2 ey_2 => ?_)
    have ty_2 : (1 ≤ y_2.toInt ∧ y_2.toInt ≤ 4096) ∧ y_2.toInt = ((2 ^ s3.toNatClampNeg : Nat) : Int) := ⟨by rw [ey_2]; exact shl1 (by omega) (by omega), shl_E (by omega) ey_2⟩
    refine lv_icmp_ge (tgt := 178) hx hb dB_3_1_14.1.1.2.2 (by decide) (fun c_3 => ?_) (fun c_3 => ?_)
    · have t_3 : y_2.toInt ≤ x5_1.toInt := Int32.le_iff_toInt_le.mp c_3
      rw [hQ]
      exact W.vret hx hb hr (fun t ht hW => ⟨⟨(), rfl, trivial, o25_1, o26_1, o27_1, o28_1, (by rw [show 2 ^ s3.toNatClampNeg = x5_1.toNatClampNeg by have c_ := clI (i := x5_1) (by omega); omega]; exact v2_1), by rw [ht]; exact hP, hD⟩, hS.F ht⟩) hS.2.2 dB_3_1_18.2.2.2.2
    · have t_3 : ¬ y_2.toInt ≤ x5_1.toInt := fun h => c_3 (Int32.le_iff_toInt_le.mpr h)
      refine lv_iload hx hb dB_3_1_14.1.2.1.1 (lv_at hl 0 rfl) ?_
      refine lv_iload_n hx hb dB_3_1_14.1.2.1.2 rfl (lv_at hl 2 rfl) ?_
      refine lv_ishr hx hb dB_3_1_14.1.2.2.1 ?_
      refine lv_topi (fun y_4 ey_4 => ?_)
      refine lv_iconst (v := 1) hx hb dB_3_1_14.1.2.2.2 (by decide) ?_
      refine lv_iand hx hb dB_3_1_14.2.1.1.1 ?_
      refine lv_topi (fun y_5 ey_5 => ?_)
      have hbs_ := bI_w (x := x5_1) (y := a1) (by omega) (by omega) ey_4 ey_5
      refine lv_iconst (v := 1) hx hb dB_3_1_14.2.1.1.2 (by decide) ?_
      refine lv_icmp_ne (tgt := 172) hx hb dB_3_1_14.2.1.2.1 (by decide) (fun c_6 => ?_) (fun c_6 => ?_)
      · have t_6 : ¬ y_5.toInt = (1 : Int32).toInt := fun h => c_6 (Int32.toInt_inj.mp h)
        obtain ⟨y_7, ey_7⟩ : ∃ y : Int32, y = x5_1 + 1 := ⟨_, rfl⟩
        have ty_7 : y_7.toInt = x5_1.toInt + (1 : Int32).toInt := by rw [ey_7]; exact addI (by omega) (by omega)
        refine lv_iinc (v := y_7) (lv' := [(5, .int y_7), (0, .ref mo), (1, .int a1), (2, .int a2), (3, .int a3), (4, .int a4)]) hx hb dB_3_1_18.2.2.1 hl (k := 0) rfl (by rw [ey_7]; rfl) (by decide) rfl (fun ls hl => ?_)
        refine lv_goto (tgt := 26) hx hb dB_3_1_18.2.2.2.1 (by decide) ?_
        exact ih_1 y_7 o25_1 o26_1 o27_1 o28_1 _ _ _ (by omega) (by first | with_reducible assumption | omega | assumption) (by first | with_reducible assumption | omega | assumption) (by first | exact ctsW_0 (by omega) | exact ctsW_no v2_1 (by omega) (by omega) (refP_f (Or.inl (bt_fl hbs_ (by omega))) (by omega)) | exact ctsW_no v2_1 (by omega) (by omega) (refP_f (Or.inr (Or.inl (bt_nz hbt_ (by omega)))) (by omega)) | exact ctsW_no v2_1 (by omega) (by omega) (refP_f (Or.inr (Or.inr (fun h => absurd (hsz_.trans h) (by omega)))) (by omega)) | exact ctsW_st v2_1 (by omega) (by omega) (refP_t (b_tr hbs_ (by omega)) (bt_fl hbt_ (by omega)) (hsz_.symm.trans (by omega)) (by omega)) (by omega) (by first | exact Or.inl ⟨rfl, by omega⟩ | exact Or.inr ⟨rfl, by omega, by omega⟩) (by first | exact Or.inl ⟨rfl, by omega⟩ | exact Or.inr ⟨rfl, by omega, by omega⟩) (by first | exact Or.inl ⟨rfl, by omega⟩ | exact Or.inr ⟨rfl, by omega⟩) (by omega)) (by first | omega | exact Int.natCast_nonneg _) (by first | with_reducible assumption | omega | assumption) ⟨hP, hD⟩ hS (lv_sub hl [0, 1, 2, 3, 4, 5] rfl)
      · have t_6 : y_5.toInt = (1 : Int32).toInt := congrArg Int32.toInt c_6
        refine lv_iload hx hb dB_3_1_14.2.1.2.2 (lv_at hl 0 rfl) ?_
        refine lv_iload_n hx hb dB_3_1_14.2.2.1.1 rfl (lv_at hl 3 rfl) ?_
        refine lv_ishr hx hb dB_3_1_14.2.2.1.2 ?_
        refine lv_topi (fun y_8 ey_8 => ?_)
        refine lv_iconst (v := 1) hx hb dB_3_1_14.2.2.2.1 (by decide) ?_
        refine lv_iand hx hb dB_3_1_14.2.2.2.2 ?_
        refine lv_topi (fun y_9 ey_9 => ?_)
        have hbt_ := bI_w (x := x5_1) (y := a2) (by omega) (by omega) ey_8 ey_9
        refine lv_if_ne (tgt := 172) hx hb dB_3_1_15.1.1.1.1 (by decide) (fun c_10 => ?_) (fun c_10 => ?_)
        · have t_10 : ¬ y_9.toInt = (0 : Int32).toInt := fun h => c_10 (Int32.toInt_inj.mp h)
          obtain ⟨y_11, ey_11⟩ : ∃ y : Int32, y = x5_1 + 1 := ⟨_, rfl⟩
          have ty_11 : y_11.toInt = x5_1.toInt + (1 : Int32).toInt := by rw [ey_11]; exact addI (by omega) (by omega)
          refine lv_iinc (v := y_11) (lv' := [(5, .int y_11), (0, .ref mo), (1, .int a1), (2, .int a2), (3, .int a3), (4, .int a4)]) hx hb dB_3_1_18.2.2.1 hl (k := 0) rfl (by rw [ey_11]; rfl) (by decide) rfl (fun ls hl => ?_)
          refine lv_goto (tgt := 26) hx hb dB_3_1_18.2.2.2.1 (by decide) ?_
          exact ih_1 y_11 o25_1 o26_1 o27_1 o28_1 _ _ _ (by omega) (by first | with_reducible assumption | omega | assumption) (by first | with_reducible assumption | omega | assumption) (by first | exact ctsW_0 (by omega) | exact ctsW_no v2_1 (by omega) (by omega) (refP_f (Or.inl (bt_fl hbs_ (by omega))) (by omega)) | exact ctsW_no v2_1 (by omega) (by omega) (refP_f (Or.inr (Or.inl (bt_nz hbt_ (by omega)))) (by omega)) | exact ctsW_no v2_1 (by omega) (by omega) (refP_f (Or.inr (Or.inr (fun h => absurd (hsz_.trans h) (by omega)))) (by omega)) | exact ctsW_st v2_1 (by omega) (by omega) (refP_t (b_tr hbs_ (by omega)) (bt_fl hbt_ (by omega)) (hsz_.symm.trans (by omega)) (by omega)) (by omega) (by first | exact Or.inl ⟨rfl, by omega⟩ | exact Or.inr ⟨rfl, by omega, by omega⟩) (by first | exact Or.inl ⟨rfl, by omega⟩ | exact Or.inr ⟨rfl, by omega, by omega⟩) (by first | exact Or.inl ⟨rfl, by omega⟩ | exact Or.inr ⟨rfl, by omega⟩) (by omega)) (by first | omega | exact Int.natCast_nonneg _) (by first | with_reducible assumption | omega | assumption) ⟨hP, hD⟩ hS (lv_sub hl [0, 1, 2, 3, 4, 5] rfl)
        · have t_10 : y_9.toInt = (0 : Int32).toInt := congrArg Int32.toInt c_10
          refine lv_aload_n hx hb dB_3_1_15.1.1.1.2 rfl (lv_at hl 1 rfl) ?_
          refine lv_iload hx hb dB_3_1_15.1.1.2.1 (lv_at hl 0 rfl) ?_
          refine ct_R hP hD [ob12_0_ mo s0 s1 t2 s3 s4 g5 g6 g7 g8 g9 g10 s11 g12 g13 g14 g15 g16 g17 g18 g19 g20 s21 g22 g23 g24 o25_1 o26_1 o27_1 o28_1 g29 g30 g31 g32 g33, ai_ cy g5 40 f5, ai_ cy g6 40 f6, ai_ cy g7 40 f7, ai_ cy g8 40 f8, az_ cy g10 40 f10] [0, 1, 2, 3, 4, 5] (by decide) rfl (fun hPc hDw => ?_)
          have hFc := va_free (wc := []) hD hS hA [] rfl
          refine va_calli (va_runV (As := [.int x5_1]) (rest := []) ⟨hx, hb, hml, hown, hts⟩ (c_X12_sizeOf2 l D cy H.size mo g5 g6 g7 g8 g9 g10 g12 g13 g14 g15 g16 g17 g18 g19 g20 g22 g23 g24 g29 g30 g31 g32 g33 s0 s1 s3 s4 s11 s21 o25_1 o26_1 o27_1 o28_1 t2 f5 f6 f7 f8 f10 x5_1 (by first | with_reducible assumption | omega | assumption) (by first | with_reducible assumption | assumption | omega) (by first | with_reducible assumption | assumption | omega) (by first | with_reducible assumption | assumption | omega)) (cwV 1 hts gX12_cutsOf_X12_sizeOf rfl rfl rfl ⟨rfl, hd_X12_sizeOf⟩ ⟨Nat.le_of_ble_eq_true rfl, Nat.le_of_ble_eq_true rfl⟩) ⟨bl_, va_recvX hK.1 hP (ci := 12) (q0 := 0) rfl rfl, fun U hU hW => ⟨rfl, by rw [hU], by rw [hU]; exact hPc, kk_mv hW hK, hDw⟩⟩ rfl rfl hl.1 rfl (lv_room (Nat.le_of_ble_eq_true rfl)) dB_3_1_15.1.1.2.2 ⟨Nat.le_of_ble_eq_true rfl, Nat.le_of_ble_eq_true rfl⟩) hS (fun q _ h => hFc q h) hFc (fun r_12 u t H locs ht hvm hw hB hz1 hk1 hS => ?_)
          have hP : va_P D vwCl _ H := ro_keep hP hk1
          have f0_r_12 := hw
          have hsz_ := f0_r_12
          refine lv_iload_n hx hb dB_3_1_15.1.2.1.1 rfl (lv_at hl 4 rfl) ?_
          refine lv_icmp_ne (tgt := 172) hx hb dB_3_1_15.1.2.1.2 (by decide) (fun c_13 => ?_) (fun c_13 => ?_)
          · have t_13 : ¬ r_12.toInt = a3.toInt := fun h => c_13 (Int32.toInt_inj.mp h)
            obtain ⟨y_14, ey_14⟩ : ∃ y : Int32, y = x5_1 + 1 := ⟨_, rfl⟩
            have ty_14 : y_14.toInt = x5_1.toInt + (1 : Int32).toInt := by rw [ey_14]; exact addI (by omega) (by omega)
            refine lv_iinc (v := y_14) (lv' := [(5, .int y_14), (0, .ref mo), (1, .int a1), (2, .int a2), (3, .int a3), (4, .int a4)]) hx hb dB_3_1_18.2.2.1 hl (k := 0) rfl (by rw [ey_14]; rfl) (by decide) rfl (fun ls hl => ?_)
            refine lv_goto (tgt := 26) hx hb dB_3_1_18.2.2.2.1 (by decide) ?_
            exact ih_1 y_14 o25_1 o26_1 o27_1 o28_1 _ _ _ (by omega) (by first | with_reducible assumption | omega | assumption) (by first | with_reducible assumption | omega | assumption) (by first | exact ctsW_0 (by omega) | exact ctsW_no v2_1 (by omega) (by omega) (refP_f (Or.inl (bt_fl hbs_ (by omega))) (by omega)) | exact ctsW_no v2_1 (by omega) (by omega) (refP_f (Or.inr (Or.inl (bt_nz hbt_ (by omega)))) (by omega)) | exact ctsW_no v2_1 (by omega) (by omega) (refP_f (Or.inr (Or.inr (fun h => absurd (hsz_.trans h) (by omega)))) (by omega)) | exact ctsW_st v2_1 (by omega) (by omega) (refP_t (b_tr hbs_ (by omega)) (bt_fl hbt_ (by omega)) (hsz_.symm.trans (by omega)) (by omega)) (by omega) (by first | exact Or.inl ⟨rfl, by omega⟩ | exact Or.inr ⟨rfl, by omega, by omega⟩) (by first | exact Or.inl ⟨rfl, by omega⟩ | exact Or.inr ⟨rfl, by omega, by omega⟩) (by first | exact Or.inl ⟨rfl, by omega⟩ | exact Or.inr ⟨rfl, by omega⟩) (by omega)) (by first | omega | exact Int.natCast_nonneg _) (by first | with_reducible assumption | omega | assumption) ⟨hP, hD⟩ hS (lv_sub hl [0, 1, 2, 3, 4, 5] rfl)
          · have t_13 : r_12.toInt = a3.toInt := congrArg Int32.toInt c_13
            refine lv_aload_n hx hb dB_3_1_15.1.2.2.1 rfl (lv_at hl 1 rfl) ?_
            refine lv_aload_n hx hb dB_3_1_15.1.2.2.2 rfl (lv_at hl 1 rfl) ?_
            refine va_get (ci := 12) (v := .int o26_1) (C := RX12) (T := TX12) (N := 34) hx hb hts (fun _ h => List.mem_cons_of_mem _ (List.mem_append_right _ h)) hown hK.1 hP 0 rfl rfl 26 (by decide) (hts (.fieldLink RX12 195 "CutAtlasModel" "near" "I") (List.mem_of_getElem? (i := 2) rfl)) (fun _ h9 => h9) rfl dB_3_1_15.2.1.1.1 ?_
            refine lv_bipush (v := (-9)) hx hb dB_3_1_15.2.1.1.2 (by decide) ?_
            refine lv_icmp_eq (tgt := 91) hx hb dB_3_1_15.2.1.2.1 (by decide) (fun c_15 => ?_) (fun c_15 => ?_)
            · have t_15 : o26_1.toInt = ((-9) : Int32).toInt := congrArg Int32.toInt c_15
              refine lv_iload hx hb dB_3_1_16.1.1.1.2 (lv_at hl 0 rfl) ?_
              refine lv_goto (tgt := 100) hx hb dB_3_1_16.1.1.2.1 (by decide) ?_
              refine va_put (ci := 12) (v := .int x5_1) (ty := .int) (C := RX12) (T := TX12) (N := 34) hx hb hts (fun _ h => List.mem_cons_of_mem _ (List.mem_append_right _ h)) tyX12 tyX12_ok nmX12 hown hK.1 hP hD hS 0 rfl rfl 26 (by decide) (hts (.fieldLink RX12 195 "CutAtlasModel" "near" "I") (List.mem_of_getElem? (i := 2) rfl)) (fun _ h9 => h9) rfl (by decide +kernel) rfl rfl (Nat.le_of_ble_eq_true rfl) dB_3_1_16.1.2.1.2 (fun H locs hP hD hS => ?_)
              refine pd_K [ob12_0_ mo s0 s1 t2 s3 s4 g5 g6 g7 g8 g9 g10 s11 g12 g13 g14 g15 g16 g17 g18 g19 g20 s21 g22 g23 g24 o25_1 x5_1 o27_1 o28_1 g29 g30 g31 g32 g33, ai_ cy g5 40 f5, ai_ cy g6 40 f6, ai_ cy g7 40 f7, ai_ cy g8 40 f8, az_ cy g10 40 f10] hP hD (fun hP hD => ?_)
              refine lv_aload_n hx hb dB_3_1_16.1.2.2.1 rfl (lv_at hl 1 rfl) ?_
              refine lv_aload_n hx hb dB_3_1_16.1.2.2.2 rfl (lv_at hl 1 rfl) ?_
              refine va_get (ci := 12) (v := .int o27_1) (C := RX12) (T := TX12) (N := 34) hx hb hts (fun _ h => List.mem_cons_of_mem _ (List.mem_append_right _ h)) hown hK.1 hP 0 rfl rfl 27 (by decide) (hts (.fieldLink RX12 198 "CutAtlasModel" "far" "I") (List.mem_of_getElem? (i := 3) rfl)) (fun _ h9 => h9) rfl dB_3_1_16.2.1.1.1 ?_
              refine lv_bipush (v := (-9)) hx hb dB_3_1_16.2.1.1.2 (by decide) ?_
              refine lv_icmp_eq (tgt := 128) hx hb dB_3_1_16.2.1.2.1 (by decide) (fun c_16 => ?_) (fun c_16 => ?_)
              · have t_16 : o27_1.toInt = ((-9) : Int32).toInt := congrArg Int32.toInt c_16
                refine lv_iload hx hb dB_3_1_17.1.1.1.2 (lv_at hl 0 rfl) ?_
                refine lv_goto (tgt := 137) hx hb dB_3_1_17.1.1.2.1 (by decide) ?_
                refine va_put (ci := 12) (v := .int x5_1) (ty := .int) (C := RX12) (T := TX12) (N := 34) hx hb hts (fun _ h => List.mem_cons_of_mem _ (List.mem_append_right _ h)) tyX12 tyX12_ok nmX12 hown hK.1 hP hD hS 0 rfl rfl 27 (by decide) (hts (.fieldLink RX12 198 "CutAtlasModel" "far" "I") (List.mem_of_getElem? (i := 3) rfl)) (fun _ h9 => h9) rfl (by decide +kernel) rfl rfl (Nat.le_of_ble_eq_true rfl) dB_3_1_17.1.2.1.2 (fun H locs hP hD hS => ?_)
                refine pd_K [ob12_0_ mo s0 s1 t2 s3 s4 g5 g6 g7 g8 g9 g10 s11 g12 g13 g14 g15 g16 g17 g18 g19 g20 s21 g22 g23 g24 o25_1 x5_1 x5_1 o28_1 g29 g30 g31 g32 g33, ai_ cy g5 40 f5, ai_ cy g6 40 f6, ai_ cy g7 40 f7, ai_ cy g8 40 f8, az_ cy g10 40 f10] hP hD (fun hP hD => ?_)
                refine lv_aload_n hx hb dB_3_1_17.1.2.2.1 rfl (lv_at hl 1 rfl) ?_
                refine lv_aload_n hx hb dB_3_1_17.1.2.2.2 rfl (lv_at hl 1 rfl) ?_
                refine va_get (ci := 12) (v := .int o25_1) (C := RX12) (T := TX12) (N := 34) hx hb hts (fun _ h => List.mem_cons_of_mem _ (List.mem_append_right _ h)) hown hK.1 hP 0 rfl rfl 25 (by decide) (hts (.fieldLink RX12 192 "CutAtlasModel" "cuts" "I") (List.mem_of_getElem? (i := 1) rfl)) (fun _ h9 => h9) rfl dB_3_1_17.2.1.1.1 ?_
                refine lv_iload hx hb dB_3_1_17.2.1.1.2 (lv_at hl 5 rfl) ?_
                refine lv_icmp_ne (tgt := 155) hx hb dB_3_1_17.2.1.2.1 (by decide) (fun c_17 => ?_) (fun c_17 => ?_)
                · have t_17 : ¬ o25_1.toInt = a4.toInt := fun h => c_17 (Int32.toInt_inj.mp h)
                  refine lv_aload_n hx hb dB_3_1_17.2.2.1.2 rfl (lv_at hl 1 rfl) ?_
                  refine va_get (ci := 12) (v := .int o28_1) (C := RX12) (T := TX12) (N := 34) hx hb hts (fun _ h => List.mem_cons_of_mem _ (List.mem_append_right _ h)) hown hK.1 hP 0 rfl rfl 28 (by decide) (hts (.fieldLink RX12 201 "CutAtlasModel" "chosen" "I") (List.mem_of_getElem? (i := 4) rfl)) (fun _ h9 => h9) rfl dB_3_1_17.2.2.2.1 ?_
                  refine va_put (ci := 12) (v := .int o28_1) (ty := .int) (C := RX12) (T := TX12) (N := 34) hx hb hts (fun _ h => List.mem_cons_of_mem _ (List.mem_append_right _ h)) tyX12 tyX12_ok nmX12 hown hK.1 hP hD hS 0 rfl rfl 28 (by decide) (hts (.fieldLink RX12 201 "CutAtlasModel" "chosen" "I") (List.mem_of_getElem? (i := 4) rfl)) (fun _ h9 => h9) rfl (by decide +kernel) rfl rfl (Nat.le_of_ble_eq_true rfl) dB_3_1_17.2.2.2.2 (fun H locs hP hD hS => ?_)
                  refine pd_K [ob12_0_ mo s0 s1 t2 s3 s4 g5 g6 g7 g8 g9 g10 s11 g12 g13 g14 g15 g16 g17 g18 g19 g20 s21 g22 g23 g24 o25_1 x5_1 x5_1 o28_1 g29 g30 g31 g32 g33, ai_ cy g5 40 f5, ai_ cy g6 40 f6, ai_ cy g7 40 f7, ai_ cy g8 40 f8, az_ cy g10 40 f10] hP hD (fun hP hD => ?_)
                  refine lv_aload_n hx hb dB_3_1_18.1.1.1 rfl (lv_at hl 1 rfl) ?_
                  refine lv_dup hx hb dB_3_1_18.1.1.2 rfl ?_
                  refine va_get (ci := 12) (v := .int o25_1) (C := RX12) (T := TX12) (N := 34) hx hb hts (fun _ h => List.mem_cons_of_mem _ (List.mem_append_right _ h)) hown hK.1 hP 0 rfl rfl 25 (by decide) (hts (.fieldLink RX12 192 "CutAtlasModel" "cuts" "I") (List.mem_of_getElem? (i := 1) rfl)) (fun _ h9 => h9) rfl dB_3_1_18.1.2.1 ?_
                  refine lv_iconst (v := 1) hx hb dB_3_1_18.1.2.2 (by decide) ?_
                  refine lv_iadd hx hb dB_3_1_18.2.1.1 ?_
                  refine lv_topi (fun y_18 ey_18 => ?_)
                  have ty_18 : y_18.toInt = o25_1.toInt + (1 : Int32).toInt := by rw [ey_18]; exact addI (by omega) (by omega)
                  refine va_put (ci := 12) (v := .int y_18) (ty := .int) (C := RX12) (T := TX12) (N := 34) hx hb hts (fun _ h => List.mem_cons_of_mem _ (List.mem_append_right _ h)) tyX12 tyX12_ok nmX12 hown hK.1 hP hD hS 0 rfl rfl 25 (by decide) (hts (.fieldLink RX12 192 "CutAtlasModel" "cuts" "I") (List.mem_of_getElem? (i := 1) rfl)) (fun _ h9 => h9) rfl (by decide +kernel) rfl rfl (Nat.le_of_ble_eq_true rfl) dB_3_1_18.2.1.2 (fun H locs hP hD hS => ?_)
                  refine pd_K [ob12_0_ mo s0 s1 t2 s3 s4 g5 g6 g7 g8 g9 g10 s11 g12 g13 g14 g15 g16 g17 g18 g19 g20 s21 g22 g23 g24 y_18 x5_1 x5_1 o28_1 g29 g30 g31 g32 g33, ai_ cy g5 40 f5, ai_ cy g6 40 f6, ai_ cy g7 40 f7, ai_ cy g8 40 f8, az_ cy g10 40 f10] hP hD (fun hP hD => ?_)
                  obtain ⟨y_19, ey_19⟩ : ∃ y : Int32, y = x5_1 + 1 := ⟨_, rfl⟩
                  have ty_19 : y_19.toInt = x5_1.toInt + (1 : Int32).toInt := by rw [ey_19]; exact addI (by omega) (by omega)
                  refine lv_iinc (v := y_19) (lv' := [(5, .int y_19), (0, .ref mo), (1, .int a1), (2, .int a2), (3, .int a3), (4, .int a4)]) hx hb dB_3_1_18.2.2.1 hl (k := 0) rfl (by rw [ey_19]; rfl) (by decide) rfl (fun ls hl => ?_)
                  refine lv_goto (tgt := 26) hx hb dB_3_1_18.2.2.2.1 (by decide) ?_
                  exact ih_1 y_19 y_18 x5_1 x5_1 o28_1 _ _ _ (by omega) (by first | with_reducible assumption | omega | assumption) (by first | with_reducible assumption | omega | assumption) (by first | exact ctsW_0 (by omega) | exact ctsW_no v2_1 (by omega) (by omega) (refP_f (Or.inl (bt_fl hbs_ (by omega))) (by omega)) | exact ctsW_no v2_1 (by omega) (by omega) (refP_f (Or.inr (Or.inl (bt_nz hbt_ (by omega)))) (by omega)) | exact ctsW_no v2_1 (by omega) (by omega) (refP_f (Or.inr (Or.inr (fun h => absurd (hsz_.trans h) (by omega)))) (by omega)) | exact ctsW_st v2_1 (by omega) (by omega) (refP_t (b_tr hbs_ (by omega)) (bt_fl hbt_ (by omega)) (hsz_.symm.trans (by omega)) (by omega)) (by omega) (by first | exact Or.inl ⟨rfl, by omega⟩ | exact Or.inr ⟨rfl, by omega, by omega⟩) (by first | exact Or.inl ⟨rfl, by omega⟩ | exact Or.inr ⟨rfl, by omega, by omega⟩) (by first | exact Or.inl ⟨rfl, by omega⟩ | exact Or.inr ⟨rfl, by omega⟩) (by omega)) (by first | omega | exact Int.natCast_nonneg _) (by first | with_reducible assumption | omega | assumption) ⟨hP, hD⟩ hS (lv_sub hl [0, 1, 2, 3, 4, 5] rfl)
                · have t_17 : o25_1.toInt = a4.toInt := congrArg Int32.toInt c_17
                  refine lv_iload hx hb dB_3_1_17.2.1.2.2 (lv_at hl 0 rfl) ?_
                  refine lv_goto (tgt := 159) hx hb dB_3_1_17.2.2.1.1 (by decide) ?_
                  refine va_put (ci := 12) (v := .int x5_1) (ty := .int) (C := RX12) (T := TX12) (N := 34) hx hb hts (fun _ h => List.mem_cons_of_mem _ (List.mem_append_right _ h)) tyX12 tyX12_ok nmX12 hown hK.1 hP hD hS 0 rfl rfl 28 (by decide) (hts (.fieldLink RX12 201 "CutAtlasModel" "chosen" "I") (List.mem_of_getElem? (i := 4) rfl)) (fun _ h9 => h9) rfl (by decide +kernel) rfl rfl (Nat.le_of_ble_eq_true rfl) dB_3_1_17.2.2.2.2 (fun H locs hP hD hS => ?_)
                  refine pd_K [ob12_0_ mo s0 s1 t2 s3 s4 g5 g6 g7 g8 g9 g10 s11 g12 g13 g14 g15 g16 g17 g18 g19 g20 s21 g22 g23 g24 o25_1 x5_1 x5_1 x5_1 g29 g30 g31 g32 g33, ai_ cy g5 40 f5, ai_ cy g6 40 f6, ai_ cy g7 40 f7, ai_ cy g8 40 f8, az_ cy g10 40 f10] hP hD (fun hP hD => ?_)
                  refine lv_aload_n hx hb dB_3_1_18.1.1.1 rfl (lv_at hl 1 rfl) ?_
                  refine lv_dup hx hb dB_3_1_18.1.1.2 rfl ?_
                  refine va_get (ci := 12) (v := .int o25_1) (C := RX12) (T := TX12) (N := 34) hx hb hts (fun _ h => List.mem_cons_of_mem _ (List.mem_append_right _ h)) hown hK.1 hP 0 rfl rfl 25 (by decide) (hts (.fieldLink RX12 192 "CutAtlasModel" "cuts" "I") (List.mem_of_getElem? (i := 1) rfl)) (fun _ h9 => h9) rfl dB_3_1_18.1.2.1 ?_
                  refine lv_iconst (v := 1) hx hb dB_3_1_18.1.2.2 (by decide) ?_
                  refine lv_iadd hx hb dB_3_1_18.2.1.1 ?_
                  refine lv_topi (fun y_20 ey_20 => ?_)
                  have ty_20 : y_20.toInt = o25_1.toInt + (1 : Int32).toInt := by rw [ey_20]; exact addI (by omega) (by omega)
                  refine va_put (ci := 12) (v := .int y_20) (ty := .int) (C := RX12) (T := TX12) (N := 34) hx hb hts (fun _ h => List.mem_cons_of_mem _ (List.mem_append_right _ h)) tyX12 tyX12_ok nmX12 hown hK.1 hP hD hS 0 rfl rfl 25 (by decide) (hts (.fieldLink RX12 192 "CutAtlasModel" "cuts" "I") (List.mem_of_getElem? (i := 1) rfl)) (fun _ h9 => h9) rfl (by decide +kernel) rfl rfl (Nat.le_of_ble_eq_true rfl) dB_3_1_18.2.1.2 (fun H locs hP hD hS => ?_)
                  refine pd_K [ob12_0_ mo s0 s1 t2 s3 s4 g5 g6 g7 g8 g9 g10 s11 g12 g13 g14 g15 g16 g17 g18 g19 g20 s21 g22 g23 g24 y_20 x5_1 x5_1 x5_1 g29 g30 g31 g32 g33, ai_ cy g5 40 f5, ai_ cy g6 40 f6, ai_ cy g7 40 f7, ai_ cy g8 40 f8, az_ cy g10 40 f10] hP hD (fun hP hD => ?_)
                  obtain ⟨y_21, ey_21⟩ : ∃ y : Int32, y = x5_1 + 1 := ⟨_, rfl⟩
                  have ty_21 : y_21.toInt = x5_1.toInt + (1 : Int32).toInt := by rw [ey_21]; exact addI (by omega) (by omega)
                  refine lv_iinc (v := y_21) (lv' := [(5, .int y_21), (0, .ref mo), (1, .int a1), (2, .int a2), (3, .int a3), (4, .int a4)]) hx hb dB_3_1_18.2.2.1 hl (k := 0) rfl (by rw [ey_21]; rfl) (by decide) rfl (fun ls hl => ?_)
                  refine lv_goto (tgt := 26) hx hb dB_3_1_18.2.2.2.1 (by decide) ?_
                  exact ih_1 y_21 y_20 x5_1 x5_1 x5_1 _ _ _ (by omega) (by first | with_reducible assumption | omega | assumption) (by first | with_reducible assumption | omega | assumption) (by first | exact ctsW_0 (by omega) | exact ctsW_no v2_1 (by omega) (by omega) (refP_f (Or.inl (bt_fl hbs_ (by omega))) (by omega)) | exact ctsW_no v2_1 (by omega) (by omega) (refP_f (Or.inr (Or.inl (bt_nz hbt_ (by omega)))) (by omega)) | exact ctsW_no v2_1 (by omega) (by omega) (refP_f (Or.inr (Or.inr (fun h => absurd (hsz_.trans h) (by omega)))) (by omega)) | exact ctsW_st v2_1 (by omega) (by omega) (refP_t (b_tr hbs_ (by omega)) (bt_fl hbt_ (by omega)) (hsz_.symm.trans (by omega)) (by omega)) (by omega) (by first | exact Or.inl ⟨rfl, by omega⟩ | exact Or.inr ⟨rfl, by omega, by omega⟩) (by first | exact Or.inl ⟨rfl, by omega⟩ | exact Or.inr ⟨rfl, by omega, by omega⟩) (by first | exact Or.inl ⟨rfl, by omega⟩ | exact Or.inr ⟨rfl, by omega⟩) (by omega)) (by first | omega | exact Int.natCast_nonneg _) (by first | with_reducible assumption | omega | assumption) ⟨hP, hD⟩ hS (lv_sub hl [0, 1, 2, 3, 4, 5] rfl)
              · have t_16 : ¬ o27_1.toInt = ((-9) : Int32).toInt := fun h => c_16 (Int32.toInt_inj.mp h)
                refine lv_iload hx hb dB_3_1_16.2.1.2.2 (lv_at hl 0 rfl) ?_
                refine ct_R hP hD [] [] (by decide) rfl (fun hPc hDw => ?_)
                have hFc := va_free (wc := []) hD hS hA [] rfl
                refine va_calli (va_runS (As := [.int x5_1]) (rest := [.ref mo]) ⟨hx, hb, hml, hown, hts⟩ (c_X12_bitsOf2 l D cy H.size x5_1) (va_cwS 1 hts gX12_cutsOf_X12_bitsOf rfl rfl rfl hd_X12_bitsOf ⟨Nat.le_of_ble_eq_true rfl, Nat.le_of_ble_eq_true rfl⟩) ⟨bl_, fun U hU hW => ⟨rfl, by rw [hU], by rw [hU]; exact hPc, kk_mv hW hK, hDw⟩⟩ rfl rfl hl.1 rfl (lv_room (Nat.le_of_ble_eq_true rfl)) dB_3_1_16.2.2.1.1 ⟨Nat.le_of_ble_eq_true rfl, Nat.le_of_ble_eq_true rfl⟩) hS (fun q _ h => hFc q h) hFc (fun r_22 u t H locs ht hvm hw hB hz1 hk1 hS => ?_)
                have hP : va_P D vwCl _ H := ro_keep hP hk1
                obtain ⟨f0_r_22, f1_r_22⟩ := hw
                refine lv_aload_n hx hb dB_3_1_16.2.2.1.2 rfl (lv_at hl 1 rfl) ?_
                refine va_get (ci := 12) (v := .int o27_1) (C := RX12) (T := TX12) (N := 34) hx hb hts (fun _ h => List.mem_cons_of_mem _ (List.mem_append_right _ h)) hown hK.1 hP 0 rfl rfl 27 (by decide) (hts (.fieldLink RX12 198 "CutAtlasModel" "far" "I") (List.mem_of_getElem? (i := 3) rfl)) (fun _ h9 => h9) rfl dB_3_1_16.2.2.2.1 ?_
                refine ct_R hP hD [] [] (by decide) rfl (fun hPc hDw => ?_)
                have hFc := va_free (wc := []) hD hS hA [] rfl
                refine va_calli (va_runS (As := [.int o27_1]) (rest := [.int r_22, .ref mo]) ⟨hx, hb, hml, hown, hts⟩ (c_X12_bitsOf2 l D cy H.size o27_1) (va_cwS 1 hts gX12_cutsOf_X12_bitsOf rfl rfl rfl hd_X12_bitsOf ⟨Nat.le_of_ble_eq_true rfl, Nat.le_of_ble_eq_true rfl⟩) ⟨bl_, fun U hU hW => ⟨rfl, by rw [hU], by rw [hU]; exact hPc, kk_mv hW hK, hDw⟩⟩ rfl rfl hl.1 rfl (lv_room (Nat.le_of_ble_eq_true rfl)) dB_3_1_16.2.2.2.2 ⟨Nat.le_of_ble_eq_true rfl, Nat.le_of_ble_eq_true rfl⟩) hS (fun q _ h => hFc q h) hFc (fun r_23 u t H locs ht hvm hw hB hz1 hk1 hS => ?_)
                have hP : va_P D vwCl _ H := ro_keep hP hk1
                obtain ⟨f0_r_23, f1_r_23⟩ := hw
                refine lv_icmp_le (tgt := 133) hx hb dB_3_1_17.1.1.1.1 (by decide) (fun c_24 => ?_) (fun c_24 => ?_)
                · have t_24 : r_22.toInt ≤ r_23.toInt := Int32.le_iff_toInt_le.mp c_24
                  refine lv_aload_n hx hb dB_3_1_17.1.1.2.2 rfl (lv_at hl 1 rfl) ?_
                  refine va_get (ci := 12) (v := .int o27_1) (C := RX12) (T := TX12) (N := 34) hx hb hts (fun _ h => List.mem_cons_of_mem _ (List.mem_append_right _ h)) hown hK.1 hP 0 rfl rfl 27 (by decide) (hts (.fieldLink RX12 198 "CutAtlasModel" "far" "I") (List.mem_of_getElem? (i := 3) rfl)) (fun _ h9 => h9) rfl dB_3_1_17.1.2.1.1 ?_
                  refine va_put (ci := 12) (v := .int o27_1) (ty := .int) (C := RX12) (T := TX12) (N := 34) hx hb hts (fun _ h => List.mem_cons_of_mem _ (List.mem_append_right _ h)) tyX12 tyX12_ok nmX12 hown hK.1 hP hD hS 0 rfl rfl 27 (by decide) (hts (.fieldLink RX12 198 "CutAtlasModel" "far" "I") (List.mem_of_getElem? (i := 3) rfl)) (fun _ h9 => h9) rfl (by decide +kernel) rfl rfl (Nat.le_of_ble_eq_true rfl) dB_3_1_17.1.2.1.2 (fun H locs hP hD hS => ?_)
                  refine pd_K [ob12_0_ mo s0 s1 t2 s3 s4 g5 g6 g7 g8 g9 g10 s11 g12 g13 g14 g15 g16 g17 g18 g19 g20 s21 g22 g23 g24 o25_1 x5_1 o27_1 o28_1 g29 g30 g31 g32 g33, ai_ cy g5 40 f5, ai_ cy g6 40 f6, ai_ cy g7 40 f7, ai_ cy g8 40 f8, az_ cy g10 40 f10] hP hD (fun hP hD => ?_)
                  refine lv_aload_n hx hb dB_3_1_17.1.2.2.1 rfl (lv_at hl 1 rfl) ?_
                  refine lv_aload_n hx hb dB_3_1_17.1.2.2.2 rfl (lv_at hl 1 rfl) ?_
                  refine va_get (ci := 12) (v := .int o25_1) (C := RX12) (T := TX12) (N := 34) hx hb hts (fun _ h => List.mem_cons_of_mem _ (List.mem_append_right _ h)) hown hK.1 hP 0 rfl rfl 25 (by decide) (hts (.fieldLink RX12 192 "CutAtlasModel" "cuts" "I") (List.mem_of_getElem? (i := 1) rfl)) (fun _ h9 => h9) rfl dB_3_1_17.2.1.1.1 ?_
                  refine lv_iload hx hb dB_3_1_17.2.1.1.2 (lv_at hl 5 rfl) ?_
                  refine lv_icmp_ne (tgt := 155) hx hb dB_3_1_17.2.1.2.1 (by decide) (fun c_25 => ?_) (fun c_25 => ?_)
                  · have t_25 : ¬ o25_1.toInt = a4.toInt := fun h => c_25 (Int32.toInt_inj.mp h)
                    refine lv_aload_n hx hb dB_3_1_17.2.2.1.2 rfl (lv_at hl 1 rfl) ?_
                    refine va_get (ci := 12) (v := .int o28_1) (C := RX12) (T := TX12) (N := 34) hx hb hts (fun _ h => List.mem_cons_of_mem _ (List.mem_append_right _ h)) hown hK.1 hP 0 rfl rfl 28 (by decide) (hts (.fieldLink RX12 201 "CutAtlasModel" "chosen" "I") (List.mem_of_getElem? (i := 4) rfl)) (fun _ h9 => h9) rfl dB_3_1_17.2.2.2.1 ?_
                    refine va_put (ci := 12) (v := .int o28_1) (ty := .int) (C := RX12) (T := TX12) (N := 34) hx hb hts (fun _ h => List.mem_cons_of_mem _ (List.mem_append_right _ h)) tyX12 tyX12_ok nmX12 hown hK.1 hP hD hS 0 rfl rfl 28 (by decide) (hts (.fieldLink RX12 201 "CutAtlasModel" "chosen" "I") (List.mem_of_getElem? (i := 4) rfl)) (fun _ h9 => h9) rfl (by decide +kernel) rfl rfl (Nat.le_of_ble_eq_true rfl) dB_3_1_17.2.2.2.2 (fun H locs hP hD hS => ?_)
                    refine pd_K [ob12_0_ mo s0 s1 t2 s3 s4 g5 g6 g7 g8 g9 g10 s11 g12 g13 g14 g15 g16 g17 g18 g19 g20 s21 g22 g23 g24 o25_1 x5_1 o27_1 o28_1 g29 g30 g31 g32 g33, ai_ cy g5 40 f5, ai_ cy g6 40 f6, ai_ cy g7 40 f7, ai_ cy g8 40 f8, az_ cy g10 40 f10] hP hD (fun hP hD => ?_)
                    refine lv_aload_n hx hb dB_3_1_18.1.1.1 rfl (lv_at hl 1 rfl) ?_
                    refine lv_dup hx hb dB_3_1_18.1.1.2 rfl ?_
                    refine va_get (ci := 12) (v := .int o25_1) (C := RX12) (T := TX12) (N := 34) hx hb hts (fun _ h => List.mem_cons_of_mem _ (List.mem_append_right _ h)) hown hK.1 hP 0 rfl rfl 25 (by decide) (hts (.fieldLink RX12 192 "CutAtlasModel" "cuts" "I") (List.mem_of_getElem? (i := 1) rfl)) (fun _ h9 => h9) rfl dB_3_1_18.1.2.1 ?_
                    refine lv_iconst (v := 1) hx hb dB_3_1_18.1.2.2 (by decide) ?_
                    refine lv_iadd hx hb dB_3_1_18.2.1.1 ?_
                    refine lv_topi (fun y_26 ey_26 => ?_)
                    have ty_26 : y_26.toInt = o25_1.toInt + (1 : Int32).toInt := by rw [ey_26]; exact addI (by omega) (by omega)
                    refine va_put (ci := 12) (v := .int y_26) (ty := .int) (C := RX12) (T := TX12) (N := 34) hx hb hts (fun _ h => List.mem_cons_of_mem _ (List.mem_append_right _ h)) tyX12 tyX12_ok nmX12 hown hK.1 hP hD hS 0 rfl rfl 25 (by decide) (hts (.fieldLink RX12 192 "CutAtlasModel" "cuts" "I") (List.mem_of_getElem? (i := 1) rfl)) (fun _ h9 => h9) rfl (by decide +kernel) rfl rfl (Nat.le_of_ble_eq_true rfl) dB_3_1_18.2.1.2 (fun H locs hP hD hS => ?_)
                    refine pd_K [ob12_0_ mo s0 s1 t2 s3 s4 g5 g6 g7 g8 g9 g10 s11 g12 g13 g14 g15 g16 g17 g18 g19 g20 s21 g22 g23 g24 y_26 x5_1 o27_1 o28_1 g29 g30 g31 g32 g33, ai_ cy g5 40 f5, ai_ cy g6 40 f6, ai_ cy g7 40 f7, ai_ cy g8 40 f8, az_ cy g10 40 f10] hP hD (fun hP hD => ?_)
                    obtain ⟨y_27, ey_27⟩ : ∃ y : Int32, y = x5_1 + 1 := ⟨_, rfl⟩
                    have ty_27 : y_27.toInt = x5_1.toInt + (1 : Int32).toInt := by rw [ey_27]; exact addI (by omega) (by omega)
                    refine lv_iinc (v := y_27) (lv' := [(5, .int y_27), (0, .ref mo), (1, .int a1), (2, .int a2), (3, .int a3), (4, .int a4)]) hx hb dB_3_1_18.2.2.1 hl (k := 0) rfl (by rw [ey_27]; rfl) (by decide) rfl (fun ls hl => ?_)
                    refine lv_goto (tgt := 26) hx hb dB_3_1_18.2.2.2.1 (by decide) ?_
                    exact ih_1 y_27 y_26 x5_1 o27_1 o28_1 _ _ _ (by omega) (by first | with_reducible assumption | omega | assumption) (by first | with_reducible assumption | omega | assumption) (by first | exact ctsW_0 (by omega) | exact ctsW_no v2_1 (by omega) (by omega) (refP_f (Or.inl (bt_fl hbs_ (by omega))) (by omega)) | exact ctsW_no v2_1 (by omega) (by omega) (refP_f (Or.inr (Or.inl (bt_nz hbt_ (by omega)))) (by omega)) | exact ctsW_no v2_1 (by omega) (by omega) (refP_f (Or.inr (Or.inr (fun h => absurd (hsz_.trans h) (by omega)))) (by omega)) | exact ctsW_st v2_1 (by omega) (by omega) (refP_t (b_tr hbs_ (by omega)) (bt_fl hbt_ (by omega)) (hsz_.symm.trans (by omega)) (by omega)) (by omega) (by first | exact Or.inl ⟨rfl, by omega⟩ | exact Or.inr ⟨rfl, by omega, by omega⟩) (by first | exact Or.inl ⟨rfl, by omega⟩ | exact Or.inr ⟨rfl, by omega, by omega⟩) (by first | exact Or.inl ⟨rfl, by omega⟩ | exact Or.inr ⟨rfl, by omega⟩) (by omega)) (by first | omega | exact Int.natCast_nonneg _) (by first | with_reducible assumption | omega | assumption) ⟨hP, hD⟩ hS (lv_sub hl [0, 1, 2, 3, 4, 5] rfl)
                  · have t_25 : o25_1.toInt = a4.toInt := congrArg Int32.toInt c_25
                    refine lv_iload hx hb dB_3_1_17.2.1.2.2 (lv_at hl 0 rfl) ?_
                    refine lv_goto (tgt := 159) hx hb dB_3_1_17.2.2.1.1 (by decide) ?_
                    refine va_put (ci := 12) (v := .int x5_1) (ty := .int) (C := RX12) (T := TX12) (N := 34) hx hb hts (fun _ h => List.mem_cons_of_mem _ (List.mem_append_right _ h)) tyX12 tyX12_ok nmX12 hown hK.1 hP hD hS 0 rfl rfl 28 (by decide) (hts (.fieldLink RX12 201 "CutAtlasModel" "chosen" "I") (List.mem_of_getElem? (i := 4) rfl)) (fun _ h9 => h9) rfl (by decide +kernel) rfl rfl (Nat.le_of_ble_eq_true rfl) dB_3_1_17.2.2.2.2 (fun H locs hP hD hS => ?_)
                    refine pd_K [ob12_0_ mo s0 s1 t2 s3 s4 g5 g6 g7 g8 g9 g10 s11 g12 g13 g14 g15 g16 g17 g18 g19 g20 s21 g22 g23 g24 o25_1 x5_1 o27_1 x5_1 g29 g30 g31 g32 g33, ai_ cy g5 40 f5, ai_ cy g6 40 f6, ai_ cy g7 40 f7, ai_ cy g8 40 f8, az_ cy g10 40 f10] hP hD (fun hP hD => ?_)
                    refine lv_aload_n hx hb dB_3_1_18.1.1.1 rfl (lv_at hl 1 rfl) ?_
                    refine lv_dup hx hb dB_3_1_18.1.1.2 rfl ?_
                    refine va_get (ci := 12) (v := .int o25_1) (C := RX12) (T := TX12) (N := 34) hx hb hts (fun _ h => List.mem_cons_of_mem _ (List.mem_append_right _ h)) hown hK.1 hP 0 rfl rfl 25 (by decide) (hts (.fieldLink RX12 192 "CutAtlasModel" "cuts" "I") (List.mem_of_getElem? (i := 1) rfl)) (fun _ h9 => h9) rfl dB_3_1_18.1.2.1 ?_
                    refine lv_iconst (v := 1) hx hb dB_3_1_18.1.2.2 (by decide) ?_
                    refine lv_iadd hx hb dB_3_1_18.2.1.1 ?_
                    refine lv_topi (fun y_28 ey_28 => ?_)
                    have ty_28 : y_28.toInt = o25_1.toInt + (1 : Int32).toInt := by rw [ey_28]; exact addI (by omega) (by omega)
                    refine va_put (ci := 12) (v := .int y_28) (ty := .int) (C := RX12) (T := TX12) (N := 34) hx hb hts (fun _ h => List.mem_cons_of_mem _ (List.mem_append_right _ h)) tyX12 tyX12_ok nmX12 hown hK.1 hP hD hS 0 rfl rfl 25 (by decide) (hts (.fieldLink RX12 192 "CutAtlasModel" "cuts" "I") (List.mem_of_getElem? (i := 1) rfl)) (fun _ h9 => h9) rfl (by decide +kernel) rfl rfl (Nat.le_of_ble_eq_true rfl) dB_3_1_18.2.1.2 (fun H locs hP hD hS => ?_)
                    refine pd_K [ob12_0_ mo s0 s1 t2 s3 s4 g5 g6 g7 g8 g9 g10 s11 g12 g13 g14 g15 g16 g17 g18 g19 g20 s21 g22 g23 g24 y_28 x5_1 o27_1 x5_1 g29 g30 g31 g32 g33, ai_ cy g5 40 f5, ai_ cy g6 40 f6, ai_ cy g7 40 f7, ai_ cy g8 40 f8, az_ cy g10 40 f10] hP hD (fun hP hD => ?_)
                    obtain ⟨y_29, ey_29⟩ : ∃ y : Int32, y = x5_1 + 1 := ⟨_, rfl⟩
                    have ty_29 : y_29.toInt = x5_1.toInt + (1 : Int32).toInt := by rw [ey_29]; exact addI (by omega) (by omega)
                    refine lv_iinc (v := y_29) (lv' := [(5, .int y_29), (0, .ref mo), (1, .int a1), (2, .int a2), (3, .int a3), (4, .int a4)]) hx hb dB_3_1_18.2.2.1 hl (k := 0) rfl (by rw [ey_29]; rfl) (by decide) rfl (fun ls hl => ?_)
                    refine lv_goto (tgt := 26) hx hb dB_3_1_18.2.2.2.1 (by decide) ?_
                    exact ih_1 y_29 y_28 x5_1 o27_1 x5_1 _ _ _ (by omega) (by first | with_reducible assumption | omega | assumption) (by first | with_reducible assumption | omega | assumption) (by first | exact ctsW_0 (by omega) | exact ctsW_no v2_1 (by omega) (by omega) (refP_f (Or.inl (bt_fl hbs_ (by omega))) (by omega)) | exact ctsW_no v2_1 (by omega) (by omega) (refP_f (Or.inr (Or.inl (bt_nz hbt_ (by omega)))) (by omega)) | exact ctsW_no v2_1 (by omega) (by omega) (refP_f (Or.inr (Or.inr (fun h => absurd (hsz_.trans h) (by omega)))) (by omega)) | exact ctsW_st v2_1 (by omega) (by omega) (refP_t (b_tr hbs_ (by omega)) (bt_fl hbt_ (by omega)) (hsz_.symm.trans (by omega)) (by omega)) (by omega) (by first | exact Or.inl ⟨rfl, by omega⟩ | exact Or.inr ⟨rfl, by omega, by omega⟩) (by first | exact Or.inl ⟨rfl, by omega⟩ | exact Or.inr ⟨rfl, by omega, by omega⟩) (by first | exact Or.inl ⟨rfl, by omega⟩ | exact Or.inr ⟨rfl, by omega⟩) (by omega)) (by first | omega | exact Int.natCast_nonneg _) (by first | with_reducible assumption | omega | assumption) ⟨hP, hD⟩ hS (lv_sub hl [0, 1, 2, 3, 4, 5] rfl)
                · have t_24 : ¬ r_22.toInt ≤ r_23.toInt := fun h => c_24 (Int32.le_iff_toInt_le.mpr h)
                  refine lv_iload hx hb dB_3_1_17.1.1.1.2 (lv_at hl 0 rfl) ?_
                  refine lv_goto (tgt := 137) hx hb dB_3_1_17.1.1.2.1 (by decide) ?_
                  refine va_put (ci := 12) (v := .int x5_1) (ty := .int) (C := RX12) (T := TX12) (N := 34) hx hb hts (fun _ h => List.mem_cons_of_mem _ (List.mem_append_right _ h)) tyX12 tyX12_ok nmX12 hown hK.1 hP hD hS 0 rfl rfl 27 (by decide) (hts (.fieldLink RX12 198 "CutAtlasModel" "far" "I") (List.mem_of_getElem? (i := 3) rfl)) (fun _ h9 => h9) rfl (by decide +kernel) rfl rfl (Nat.le_of_ble_eq_true rfl) dB_3_1_17.1.2.1.2 (fun H locs hP hD hS => ?_)
                  refine pd_K [ob12_0_ mo s0 s1 t2 s3 s4 g5 g6 g7 g8 g9 g10 s11 g12 g13 g14 g15 g16 g17 g18 g19 g20 s21 g22 g23 g24 o25_1 x5_1 x5_1 o28_1 g29 g30 g31 g32 g33, ai_ cy g5 40 f5, ai_ cy g6 40 f6, ai_ cy g7 40 f7, ai_ cy g8 40 f8, az_ cy g10 40 f10] hP hD (fun hP hD => ?_)
                  refine lv_aload_n hx hb dB_3_1_17.1.2.2.1 rfl (lv_at hl 1 rfl) ?_
                  refine lv_aload_n hx hb dB_3_1_17.1.2.2.2 rfl (lv_at hl 1 rfl) ?_
                  refine va_get (ci := 12) (v := .int o25_1) (C := RX12) (T := TX12) (N := 34) hx hb hts (fun _ h => List.mem_cons_of_mem _ (List.mem_append_right _ h)) hown hK.1 hP 0 rfl rfl 25 (by decide) (hts (.fieldLink RX12 192 "CutAtlasModel" "cuts" "I") (List.mem_of_getElem? (i := 1) rfl)) (fun _ h9 => h9) rfl dB_3_1_17.2.1.1.1 ?_
                  refine lv_iload hx hb dB_3_1_17.2.1.1.2 (lv_at hl 5 rfl) ?_
                  refine lv_icmp_ne (tgt := 155) hx hb dB_3_1_17.2.1.2.1 (by decide) (fun c_30 => ?_) (fun c_30 => ?_)
                  · have t_30 : ¬ o25_1.toInt = a4.toInt := fun h => c_30 (Int32.toInt_inj.mp h)
                    refine lv_aload_n hx hb dB_3_1_17.2.2.1.2 rfl (lv_at hl 1 rfl) ?_
                    refine va_get (ci := 12) (v := .int o28_1) (C := RX12) (T := TX12) (N := 34) hx hb hts (fun _ h => List.mem_cons_of_mem _ (List.mem_append_right _ h)) hown hK.1 hP 0 rfl rfl 28 (by decide) (hts (.fieldLink RX12 201 "CutAtlasModel" "chosen" "I") (List.mem_of_getElem? (i := 4) rfl)) (fun _ h9 => h9) rfl dB_3_1_17.2.2.2.1 ?_
                    refine va_put (ci := 12) (v := .int o28_1) (ty := .int) (C := RX12) (T := TX12) (N := 34) hx hb hts (fun _ h => List.mem_cons_of_mem _ (List.mem_append_right _ h)) tyX12 tyX12_ok nmX12 hown hK.1 hP hD hS 0 rfl rfl 28 (by decide) (hts (.fieldLink RX12 201 "CutAtlasModel" "chosen" "I") (List.mem_of_getElem? (i := 4) rfl)) (fun _ h9 => h9) rfl (by decide +kernel) rfl rfl (Nat.le_of_ble_eq_true rfl) dB_3_1_17.2.2.2.2 (fun H locs hP hD hS => ?_)
                    refine pd_K [ob12_0_ mo s0 s1 t2 s3 s4 g5 g6 g7 g8 g9 g10 s11 g12 g13 g14 g15 g16 g17 g18 g19 g20 s21 g22 g23 g24 o25_1 x5_1 x5_1 o28_1 g29 g30 g31 g32 g33, ai_ cy g5 40 f5, ai_ cy g6 40 f6, ai_ cy g7 40 f7, ai_ cy g8 40 f8, az_ cy g10 40 f10] hP hD (fun hP hD => ?_)
                    refine lv_aload_n hx hb dB_3_1_18.1.1.1 rfl (lv_at hl 1 rfl) ?_
                    refine lv_dup hx hb dB_3_1_18.1.1.2 rfl ?_
                    refine va_get (ci := 12) (v := .int o25_1) (C := RX12) (T := TX12) (N := 34) hx hb hts (fun _ h => List.mem_cons_of_mem _ (List.mem_append_right _ h)) hown hK.1 hP 0 rfl rfl 25 (by decide) (hts (.fieldLink RX12 192 "CutAtlasModel" "cuts" "I") (List.mem_of_getElem? (i := 1) rfl)) (fun _ h9 => h9) rfl dB_3_1_18.1.2.1 ?_
                    refine lv_iconst (v := 1) hx hb dB_3_1_18.1.2.2 (by decide) ?_
                    refine lv_iadd hx hb dB_3_1_18.2.1.1 ?_
                    refine lv_topi (fun y_31 ey_31 => ?_)
                    have ty_31 : y_31.toInt = o25_1.toInt + (1 : Int32).toInt := by rw [ey_31]; exact addI (by omega) (by omega)
                    refine va_put (ci := 12) (v := .int y_31) (ty := .int) (C := RX12) (T := TX12) (N := 34) hx hb hts (fun _ h => List.mem_cons_of_mem _ (List.mem_append_right _ h)) tyX12 tyX12_ok nmX12 hown hK.1 hP hD hS 0 rfl rfl 25 (by decide) (hts (.fieldLink RX12 192 "CutAtlasModel" "cuts" "I") (List.mem_of_getElem? (i := 1) rfl)) (fun _ h9 => h9) rfl (by decide +kernel) rfl rfl (Nat.le_of_ble_eq_true rfl) dB_3_1_18.2.1.2 (fun H locs hP hD hS => ?_)
                    refine pd_K [ob12_0_ mo s0 s1 t2 s3 s4 g5 g6 g7 g8 g9 g10 s11 g12 g13 g14 g15 g16 g17 g18 g19 g20 s21 g22 g23 g24 y_31 x5_1 x5_1 o28_1 g29 g30 g31 g32 g33, ai_ cy g5 40 f5, ai_ cy g6 40 f6, ai_ cy g7 40 f7, ai_ cy g8 40 f8, az_ cy g10 40 f10] hP hD (fun hP hD => ?_)
                    obtain ⟨y_32, ey_32⟩ : ∃ y : Int32, y = x5_1 + 1 := ⟨_, rfl⟩
                    have ty_32 : y_32.toInt = x5_1.toInt + (1 : Int32).toInt := by rw [ey_32]; exact addI (by omega) (by omega)
                    refine lv_iinc (v := y_32) (lv' := [(5, .int y_32), (0, .ref mo), (1, .int a1), (2, .int a2), (3, .int a3), (4, .int a4)]) hx hb dB_3_1_18.2.2.1 hl (k := 0) rfl (by rw [ey_32]; rfl) (by decide) rfl (fun ls hl => ?_)
                    refine lv_goto (tgt := 26) hx hb dB_3_1_18.2.2.2.1 (by decide) ?_
                    exact ih_1 y_32 y_31 x5_1 x5_1 o28_1 _ _ _ (by omega) (by first | with_reducible assumption | omega | assumption) (by first | with_reducible assumption | omega | assumption) (by first | exact ctsW_0 (by omega) | exact ctsW_no v2_1 (by omega) (by omega) (refP_f (Or.inl (bt_fl hbs_ (by omega))) (by omega)) | exact ctsW_no v2_1 (by omega) (by omega) (refP_f (Or.inr (Or.inl (bt_nz hbt_ (by omega)))) (by omega)) | exact ctsW_no v2_1 (by omega) (by omega) (refP_f (Or.inr (Or.inr (fun h => absurd (hsz_.trans h) (by omega)))) (by omega)) | exact ctsW_st v2_1 (by omega) (by omega) (refP_t (b_tr hbs_ (by omega)) (bt_fl hbt_ (by omega)) (hsz_.symm.trans (by omega)) (by omega)) (by omega) (by first | exact Or.inl ⟨rfl, by omega⟩ | exact Or.inr ⟨rfl, by omega, by omega⟩) (by first | exact Or.inl ⟨rfl, by omega⟩ | exact Or.inr ⟨rfl, by omega, by omega⟩) (by first | exact Or.inl ⟨rfl, by omega⟩ | exact Or.inr ⟨rfl, by omega⟩) (by omega)) (by first | omega | exact Int.natCast_nonneg _) (by first | with_reducible assumption | omega | assumption) ⟨hP, hD⟩ hS (lv_sub hl [0, 1, 2, 3, 4, 5] rfl)
                  · have t_30 : o25_1.toInt = a4.toInt := congrArg Int32.toInt c_30
                    refine lv_iload hx hb dB_3_1_17.2.1.2.2 (lv_at hl 0 rfl) ?_
                    refine lv_goto (tgt := 159) hx hb dB_3_1_17.2.2.1.1 (by decide) ?_
                    refine va_put (ci := 12) (v := .int x5_1) (ty := .int) (C := RX12) (T := TX12) (N := 34) hx hb hts (fun _ h => List.mem_cons_of_mem _ (List.mem_append_right _ h)) tyX12 tyX12_ok nmX12 hown hK.1 hP hD hS 0 rfl rfl 28 (by decide) (hts (.fieldLink RX12 201 "CutAtlasModel" "chosen" "I") (List.mem_of_getElem? (i := 4) rfl)) (fun _ h9 => h9) rfl (by decide +kernel) rfl rfl (Nat.le_of_ble_eq_true rfl) dB_3_1_17.2.2.2.2 (fun H locs hP hD hS => ?_)
                    refine pd_K [ob12_0_ mo s0 s1 t2 s3 s4 g5 g6 g7 g8 g9 g10 s11 g12 g13 g14 g15 g16 g17 g18 g19 g20 s21 g22 g23 g24 o25_1 x5_1 x5_1 x5_1 g29 g30 g31 g32 g33, ai_ cy g5 40 f5, ai_ cy g6 40 f6, ai_ cy g7 40 f7, ai_ cy g8 40 f8, az_ cy g10 40 f10] hP hD (fun hP hD => ?_)
                    refine lv_aload_n hx hb dB_3_1_18.1.1.1 rfl (lv_at hl 1 rfl) ?_
                    refine lv_dup hx hb dB_3_1_18.1.1.2 rfl ?_
                    refine va_get (ci := 12) (v := .int o25_1) (C := RX12) (T := TX12) (N := 34) hx hb hts (fun _ h => List.mem_cons_of_mem _ (List.mem_append_right _ h)) hown hK.1 hP 0 rfl rfl 25 (by decide) (hts (.fieldLink RX12 192 "CutAtlasModel" "cuts" "I") (List.mem_of_getElem? (i := 1) rfl)) (fun _ h9 => h9) rfl dB_3_1_18.1.2.1 ?_
                    refine lv_iconst (v := 1) hx hb dB_3_1_18.1.2.2 (by decide) ?_
                    refine lv_iadd hx hb dB_3_1_18.2.1.1 ?_
                    refine lv_topi (fun y_33 ey_33 => ?_)
                    have ty_33 : y_33.toInt = o25_1.toInt + (1 : Int32).toInt := by rw [ey_33]; exact addI (by omega) (by omega)
                    refine va_put (ci := 12) (v := .int y_33) (ty := .int) (C := RX12) (T := TX12) (N := 34) hx hb hts (fun _ h => List.mem_cons_of_mem _ (List.mem_append_right _ h)) tyX12 tyX12_ok nmX12 hown hK.1 hP hD hS 0 rfl rfl 25 (by decide) (hts (.fieldLink RX12 192 "CutAtlasModel" "cuts" "I") (List.mem_of_getElem? (i := 1) rfl)) (fun _ h9 => h9) rfl (by decide +kernel) rfl rfl (Nat.le_of_ble_eq_true rfl) dB_3_1_18.2.1.2 (fun H locs hP hD hS => ?_)
                    refine pd_K [ob12_0_ mo s0 s1 t2 s3 s4 g5 g6 g7 g8 g9 g10 s11 g12 g13 g14 g15 g16 g17 g18 g19 g20 s21 g22 g23 g24 y_33 x5_1 x5_1 x5_1 g29 g30 g31 g32 g33, ai_ cy g5 40 f5, ai_ cy g6 40 f6, ai_ cy g7 40 f7, ai_ cy g8 40 f8, az_ cy g10 40 f10] hP hD (fun hP hD => ?_)
                    obtain ⟨y_34, ey_34⟩ : ∃ y : Int32, y = x5_1 + 1 := ⟨_, rfl⟩
                    have ty_34 : y_34.toInt = x5_1.toInt + (1 : Int32).toInt := by rw [ey_34]; exact addI (by omega) (by omega)
                    refine lv_iinc (v := y_34) (lv' := [(5, .int y_34), (0, .ref mo), (1, .int a1), (2, .int a2), (3, .int a3), (4, .int a4)]) hx hb dB_3_1_18.2.2.1 hl (k := 0) rfl (by rw [ey_34]; rfl) (by decide) rfl (fun ls hl => ?_)
                    refine lv_goto (tgt := 26) hx hb dB_3_1_18.2.2.2.1 (by decide) ?_
                    exact ih_1 y_34 y_33 x5_1 x5_1 x5_1 _ _ _ (by omega) (by first | with_reducible assumption | omega | assumption) (by first | with_reducible assumption | omega | assumption) (by first | exact ctsW_0 (by omega) | exact ctsW_no v2_1 (by omega) (by omega) (refP_f (Or.inl (bt_fl hbs_ (by omega))) (by omega)) | exact ctsW_no v2_1 (by omega) (by omega) (refP_f (Or.inr (Or.inl (bt_nz hbt_ (by omega)))) (by omega)) | exact ctsW_no v2_1 (by omega) (by omega) (refP_f (Or.inr (Or.inr (fun h => absurd (hsz_.trans h) (by omega)))) (by omega)) | exact ctsW_st v2_1 (by omega) (by omega) (refP_t (b_tr hbs_ (by omega)) (bt_fl hbt_ (by omega)) (hsz_.symm.trans (by omega)) (by omega)) (by omega) (by first | exact Or.inl ⟨rfl, by omega⟩ | exact Or.inr ⟨rfl, by omega, by omega⟩) (by first | exact Or.inl ⟨rfl, by omega⟩ | exact Or.inr ⟨rfl, by omega, by omega⟩) (by first | exact Or.inl ⟨rfl, by omega⟩ | exact Or.inr ⟨rfl, by omega⟩) (by omega)) (by first | omega | exact Int.natCast_nonneg _) (by first | with_reducible assumption | omega | assumption) ⟨hP, hD⟩ hS (lv_sub hl [0, 1, 2, 3, 4, 5] rfl)
            · have t_15 : ¬ o26_1.toInt = ((-9) : Int32).toInt := fun h => c_15 (Int32.toInt_inj.mp h)
              refine lv_iload hx hb dB_3_1_15.2.1.2.2 (lv_at hl 0 rfl) ?_
              refine ct_R hP hD [] [] (by decide) rfl (fun hPc hDw => ?_)
              have hFc := va_free (wc := []) hD hS hA [] rfl
              refine va_calli (va_runS (As := [.int x5_1]) (rest := [.ref mo]) ⟨hx, hb, hml, hown, hts⟩ (c_X12_bitsOf2 l D cy H.size x5_1) (va_cwS 1 hts gX12_cutsOf_X12_bitsOf rfl rfl rfl hd_X12_bitsOf ⟨Nat.le_of_ble_eq_true rfl, Nat.le_of_ble_eq_true rfl⟩) ⟨bl_, fun U hU hW => ⟨rfl, by rw [hU], by rw [hU]; exact hPc, kk_mv hW hK, hDw⟩⟩ rfl rfl hl.1 rfl (lv_room (Nat.le_of_ble_eq_true rfl)) dB_3_1_15.2.2.1.1 ⟨Nat.le_of_ble_eq_true rfl, Nat.le_of_ble_eq_true rfl⟩) hS (fun q _ h => hFc q h) hFc (fun r_35 u t H locs ht hvm hw hB hz1 hk1 hS => ?_)
              have hP : va_P D vwCl _ H := ro_keep hP hk1
              obtain ⟨f0_r_35, f1_r_35⟩ := hw
              refine lv_aload_n hx hb dB_3_1_15.2.2.1.2 rfl (lv_at hl 1 rfl) ?_
              refine va_get (ci := 12) (v := .int o26_1) (C := RX12) (T := TX12) (N := 34) hx hb hts (fun _ h => List.mem_cons_of_mem _ (List.mem_append_right _ h)) hown hK.1 hP 0 rfl rfl 26 (by decide) (hts (.fieldLink RX12 195 "CutAtlasModel" "near" "I") (List.mem_of_getElem? (i := 2) rfl)) (fun _ h9 => h9) rfl dB_3_1_15.2.2.2.1 ?_
              refine ct_R hP hD [] [] (by decide) rfl (fun hPc hDw => ?_)
              have hFc := va_free (wc := []) hD hS hA [] rfl
              refine va_calli (va_runS (As := [.int o26_1]) (rest := [.int r_35, .ref mo]) ⟨hx, hb, hml, hown, hts⟩ (c_X12_bitsOf2 l D cy H.size o26_1) (va_cwS 1 hts gX12_cutsOf_X12_bitsOf rfl rfl rfl hd_X12_bitsOf ⟨Nat.le_of_ble_eq_true rfl, Nat.le_of_ble_eq_true rfl⟩) ⟨bl_, fun U hU hW => ⟨rfl, by rw [hU], by rw [hU]; exact hPc, kk_mv hW hK, hDw⟩⟩ rfl rfl hl.1 rfl (lv_room (Nat.le_of_ble_eq_true rfl)) dB_3_1_15.2.2.2.2 ⟨Nat.le_of_ble_eq_true rfl, Nat.le_of_ble_eq_true rfl⟩) hS (fun q _ h => hFc q h) hFc (fun r_36 u t H locs ht hvm hw hB hz1 hk1 hS => ?_)
              have hP : va_P D vwCl _ H := ro_keep hP hk1
              obtain ⟨f0_r_36, f1_r_36⟩ := hw
              refine lv_icmp_ge (tgt := 96) hx hb dB_3_1_16.1.1.1.1 (by decide) (fun c_37 => ?_) (fun c_37 => ?_)
              · have t_37 : r_36.toInt ≤ r_35.toInt := Int32.le_iff_toInt_le.mp c_37
                refine lv_aload_n hx hb dB_3_1_16.1.1.2.2 rfl (lv_at hl 1 rfl) ?_
                refine va_get (ci := 12) (v := .int o26_1) (C := RX12) (T := TX12) (N := 34) hx hb hts (fun _ h => List.mem_cons_of_mem _ (List.mem_append_right _ h)) hown hK.1 hP 0 rfl rfl 26 (by decide) (hts (.fieldLink RX12 195 "CutAtlasModel" "near" "I") (List.mem_of_getElem? (i := 2) rfl)) (fun _ h9 => h9) rfl dB_3_1_16.1.2.1.1 ?_
                refine va_put (ci := 12) (v := .int o26_1) (ty := .int) (C := RX12) (T := TX12) (N := 34) hx hb hts (fun _ h => List.mem_cons_of_mem _ (List.mem_append_right _ h)) tyX12 tyX12_ok nmX12 hown hK.1 hP hD hS 0 rfl rfl 26 (by decide) (hts (.fieldLink RX12 195 "CutAtlasModel" "near" "I") (List.mem_of_getElem? (i := 2) rfl)) (fun _ h9 => h9) rfl (by decide +kernel) rfl rfl (Nat.le_of_ble_eq_true rfl) dB_3_1_16.1.2.1.2 (fun H locs hP hD hS => ?_)
                refine pd_K [ob12_0_ mo s0 s1 t2 s3 s4 g5 g6 g7 g8 g9 g10 s11 g12 g13 g14 g15 g16 g17 g18 g19 g20 s21 g22 g23 g24 o25_1 o26_1 o27_1 o28_1 g29 g30 g31 g32 g33, ai_ cy g5 40 f5, ai_ cy g6 40 f6, ai_ cy g7 40 f7, ai_ cy g8 40 f8, az_ cy g10 40 f10] hP hD (fun hP hD => ?_)
                refine lv_aload_n hx hb dB_3_1_16.1.2.2.1 rfl (lv_at hl 1 rfl) ?_
                refine lv_aload_n hx hb dB_3_1_16.1.2.2.2 rfl (lv_at hl 1 rfl) ?_
                refine va_get (ci := 12) (v := .int o27_1) (C := RX12) (T := TX12) (N := 34) hx hb hts (fun _ h => List.mem_cons_of_mem _ (List.mem_append_right _ h)) hown hK.1 hP 0 rfl rfl 27 (by decide) (hts (.fieldLink RX12 198 "CutAtlasModel" "far" "I") (List.mem_of_getElem? (i := 3) rfl)) (fun _ h9 => h9) rfl dB_3_1_16.2.1.1.1 ?_
                refine lv_bipush (v := (-9)) hx hb dB_3_1_16.2.1.1.2 (by decide) ?_
                refine lv_icmp_eq (tgt := 128) hx hb dB_3_1_16.2.1.2.1 (by decide) (fun c_38 => ?_) (fun c_38 => ?_)
                · have t_38 : o27_1.toInt = ((-9) : Int32).toInt := congrArg Int32.toInt c_38
                  refine lv_iload hx hb dB_3_1_17.1.1.1.2 (lv_at hl 0 rfl) ?_
                  refine lv_goto (tgt := 137) hx hb dB_3_1_17.1.1.2.1 (by decide) ?_
                  refine va_put (ci := 12) (v := .int x5_1) (ty := .int) (C := RX12) (T := TX12) (N := 34) hx hb hts (fun _ h => List.mem_cons_of_mem _ (List.mem_append_right _ h)) tyX12 tyX12_ok nmX12 hown hK.1 hP hD hS 0 rfl rfl 27 (by decide) (hts (.fieldLink RX12 198 "CutAtlasModel" "far" "I") (List.mem_of_getElem? (i := 3) rfl)) (fun _ h9 => h9) rfl (by decide +kernel) rfl rfl (Nat.le_of_ble_eq_true rfl) dB_3_1_17.1.2.1.2 (fun H locs hP hD hS => ?_)
                  refine pd_K [ob12_0_ mo s0 s1 t2 s3 s4 g5 g6 g7 g8 g9 g10 s11 g12 g13 g14 g15 g16 g17 g18 g19 g20 s21 g22 g23 g24 o25_1 o26_1 x5_1 o28_1 g29 g30 g31 g32 g33, ai_ cy g5 40 f5, ai_ cy g6 40 f6, ai_ cy g7 40 f7, ai_ cy g8 40 f8, az_ cy g10 40 f10] hP hD (fun hP hD => ?_)
                  refine lv_aload_n hx hb dB_3_1_17.1.2.2.1 rfl (lv_at hl 1 rfl) ?_
                  refine lv_aload_n hx hb dB_3_1_17.1.2.2.2 rfl (lv_at hl 1 rfl) ?_
                  refine va_get (ci := 12) (v := .int o25_1) (C := RX12) (T := TX12) (N := 34) hx hb hts (fun _ h => List.mem_cons_of_mem _ (List.mem_append_right _ h)) hown hK.1 hP 0 rfl rfl 25 (by decide) (hts (.fieldLink RX12 192 "CutAtlasModel" "cuts" "I") (List.mem_of_getElem? (i := 1) rfl)) (fun _ h9 => h9) rfl dB_3_1_17.2.1.1.1 ?_
                  refine lv_iload hx hb dB_3_1_17.2.1.1.2 (lv_at hl 5 rfl) ?_
                  refine lv_icmp_ne (tgt := 155) hx hb dB_3_1_17.2.1.2.1 (by decide) (fun c_39 => ?_) (fun c_39 => ?_)
                  · have t_39 : ¬ o25_1.toInt = a4.toInt := fun h => c_39 (Int32.toInt_inj.mp h)
                    refine lv_aload_n hx hb dB_3_1_17.2.2.1.2 rfl (lv_at hl 1 rfl) ?_
                    refine va_get (ci := 12) (v := .int o28_1) (C := RX12) (T := TX12) (N := 34) hx hb hts (fun _ h => List.mem_cons_of_mem _ (List.mem_append_right _ h)) hown hK.1 hP 0 rfl rfl 28 (by decide) (hts (.fieldLink RX12 201 "CutAtlasModel" "chosen" "I") (List.mem_of_getElem? (i := 4) rfl)) (fun _ h9 => h9) rfl dB_3_1_17.2.2.2.1 ?_
                    refine va_put (ci := 12) (v := .int o28_1) (ty := .int) (C := RX12) (T := TX12) (N := 34) hx hb hts (fun _ h => List.mem_cons_of_mem _ (List.mem_append_right _ h)) tyX12 tyX12_ok nmX12 hown hK.1 hP hD hS 0 rfl rfl 28 (by decide) (hts (.fieldLink RX12 201 "CutAtlasModel" "chosen" "I") (List.mem_of_getElem? (i := 4) rfl)) (fun _ h9 => h9) rfl (by decide +kernel) rfl rfl (Nat.le_of_ble_eq_true rfl) dB_3_1_17.2.2.2.2 (fun H locs hP hD hS => ?_)
                    refine pd_K [ob12_0_ mo s0 s1 t2 s3 s4 g5 g6 g7 g8 g9 g10 s11 g12 g13 g14 g15 g16 g17 g18 g19 g20 s21 g22 g23 g24 o25_1 o26_1 x5_1 o28_1 g29 g30 g31 g32 g33, ai_ cy g5 40 f5, ai_ cy g6 40 f6, ai_ cy g7 40 f7, ai_ cy g8 40 f8, az_ cy g10 40 f10] hP hD (fun hP hD => ?_)
                    refine lv_aload_n hx hb dB_3_1_18.1.1.1 rfl (lv_at hl 1 rfl) ?_
                    refine lv_dup hx hb dB_3_1_18.1.1.2 rfl ?_
                    refine va_get (ci := 12) (v := .int o25_1) (C := RX12) (T := TX12) (N := 34) hx hb hts (fun _ h => List.mem_cons_of_mem _ (List.mem_append_right _ h)) hown hK.1 hP 0 rfl rfl 25 (by decide) (hts (.fieldLink RX12 192 "CutAtlasModel" "cuts" "I") (List.mem_of_getElem? (i := 1) rfl)) (fun _ h9 => h9) rfl dB_3_1_18.1.2.1 ?_
                    refine lv_iconst (v := 1) hx hb dB_3_1_18.1.2.2 (by decide) ?_
                    refine lv_iadd hx hb dB_3_1_18.2.1.1 ?_
                    refine lv_topi (fun y_40 ey_40 => ?_)
                    have ty_40 : y_40.toInt = o25_1.toInt + (1 : Int32).toInt := by rw [ey_40]; exact addI (by omega) (by omega)
                    refine va_put (ci := 12) (v := .int y_40) (ty := .int) (C := RX12) (T := TX12) (N := 34) hx hb hts (fun _ h => List.mem_cons_of_mem _ (List.mem_append_right _ h)) tyX12 tyX12_ok nmX12 hown hK.1 hP hD hS 0 rfl rfl 25 (by decide) (hts (.fieldLink RX12 192 "CutAtlasModel" "cuts" "I") (List.mem_of_getElem? (i := 1) rfl)) (fun _ h9 => h9) rfl (by decide +kernel) rfl rfl (Nat.le_of_ble_eq_true rfl) dB_3_1_18.2.1.2 (fun H locs hP hD hS => ?_)
                    refine pd_K [ob12_0_ mo s0 s1 t2 s3 s4 g5 g6 g7 g8 g9 g10 s11 g12 g13 g14 g15 g16 g17 g18 g19 g20 s21 g22 g23 g24 y_40 o26_1 x5_1 o28_1 g29 g30 g31 g32 g33, ai_ cy g5 40 f5, ai_ cy g6 40 f6, ai_ cy g7 40 f7, ai_ cy g8 40 f8, az_ cy g10 40 f10] hP hD (fun hP hD => ?_)
                    obtain ⟨y_41, ey_41⟩ : ∃ y : Int32, y = x5_1 + 1 := ⟨_, rfl⟩
                    have ty_41 : y_41.toInt = x5_1.toInt + (1 : Int32).toInt := by rw [ey_41]; exact addI (by omega) (by omega)
                    refine lv_iinc (v := y_41) (lv' := [(5, .int y_41), (0, .ref mo), (1, .int a1), (2, .int a2), (3, .int a3), (4, .int a4)]) hx hb dB_3_1_18.2.2.1 hl (k := 0) rfl (by rw [ey_41]; rfl) (by decide) rfl (fun ls hl => ?_)
                    refine lv_goto (tgt := 26) hx hb dB_3_1_18.2.2.2.1 (by decide) ?_
                    exact ih_1 y_41 y_40 o26_1 x5_1 o28_1 _ _ _ (by omega) (by first | with_reducible assumption | omega | assumption) (by first | with_reducible assumption | omega | assumption) (by first | exact ctsW_0 (by omega) | exact ctsW_no v2_1 (by omega) (by omega) (refP_f (Or.inl (bt_fl hbs_ (by omega))) (by omega)) | exact ctsW_no v2_1 (by omega) (by omega) (refP_f (Or.inr (Or.inl (bt_nz hbt_ (by omega)))) (by omega)) | exact ctsW_no v2_1 (by omega) (by omega) (refP_f (Or.inr (Or.inr (fun h => absurd (hsz_.trans h) (by omega)))) (by omega)) | exact ctsW_st v2_1 (by omega) (by omega) (refP_t (b_tr hbs_ (by omega)) (bt_fl hbt_ (by omega)) (hsz_.symm.trans (by omega)) (by omega)) (by omega) (by first | exact Or.inl ⟨rfl, by omega⟩ | exact Or.inr ⟨rfl, by omega, by omega⟩) (by first | exact Or.inl ⟨rfl, by omega⟩ | exact Or.inr ⟨rfl, by omega, by omega⟩) (by first | exact Or.inl ⟨rfl, by omega⟩ | exact Or.inr ⟨rfl, by omega⟩) (by omega)) (by first | omega | exact Int.natCast_nonneg _) (by first | with_reducible assumption | omega | assumption) ⟨hP, hD⟩ hS (lv_sub hl [0, 1, 2, 3, 4, 5] rfl)
                  · have t_39 : o25_1.toInt = a4.toInt := congrArg Int32.toInt c_39
                    refine lv_iload hx hb dB_3_1_17.2.1.2.2 (lv_at hl 0 rfl) ?_
                    refine lv_goto (tgt := 159) hx hb dB_3_1_17.2.2.1.1 (by decide) ?_
                    refine va_put (ci := 12) (v := .int x5_1) (ty := .int) (C := RX12) (T := TX12) (N := 34) hx hb hts (fun _ h => List.mem_cons_of_mem _ (List.mem_append_right _ h)) tyX12 tyX12_ok nmX12 hown hK.1 hP hD hS 0 rfl rfl 28 (by decide) (hts (.fieldLink RX12 201 "CutAtlasModel" "chosen" "I") (List.mem_of_getElem? (i := 4) rfl)) (fun _ h9 => h9) rfl (by decide +kernel) rfl rfl (Nat.le_of_ble_eq_true rfl) dB_3_1_17.2.2.2.2 (fun H locs hP hD hS => ?_)
                    refine pd_K [ob12_0_ mo s0 s1 t2 s3 s4 g5 g6 g7 g8 g9 g10 s11 g12 g13 g14 g15 g16 g17 g18 g19 g20 s21 g22 g23 g24 o25_1 o26_1 x5_1 x5_1 g29 g30 g31 g32 g33, ai_ cy g5 40 f5, ai_ cy g6 40 f6, ai_ cy g7 40 f7, ai_ cy g8 40 f8, az_ cy g10 40 f10] hP hD (fun hP hD => ?_)
                    refine lv_aload_n hx hb dB_3_1_18.1.1.1 rfl (lv_at hl 1 rfl) ?_
                    refine lv_dup hx hb dB_3_1_18.1.1.2 rfl ?_
                    refine va_get (ci := 12) (v := .int o25_1) (C := RX12) (T := TX12) (N := 34) hx hb hts (fun _ h => List.mem_cons_of_mem _ (List.mem_append_right _ h)) hown hK.1 hP 0 rfl rfl 25 (by decide) (hts (.fieldLink RX12 192 "CutAtlasModel" "cuts" "I") (List.mem_of_getElem? (i := 1) rfl)) (fun _ h9 => h9) rfl dB_3_1_18.1.2.1 ?_
                    refine lv_iconst (v := 1) hx hb dB_3_1_18.1.2.2 (by decide) ?_
                    refine lv_iadd hx hb dB_3_1_18.2.1.1 ?_
                    refine lv_topi (fun y_42 ey_42 => ?_)
                    have ty_42 : y_42.toInt = o25_1.toInt + (1 : Int32).toInt := by rw [ey_42]; exact addI (by omega) (by omega)
                    refine va_put (ci := 12) (v := .int y_42) (ty := .int) (C := RX12) (T := TX12) (N := 34) hx hb hts (fun _ h => List.mem_cons_of_mem _ (List.mem_append_right _ h)) tyX12 tyX12_ok nmX12 hown hK.1 hP hD hS 0 rfl rfl 25 (by decide) (hts (.fieldLink RX12 192 "CutAtlasModel" "cuts" "I") (List.mem_of_getElem? (i := 1) rfl)) (fun _ h9 => h9) rfl (by decide +kernel) rfl rfl (Nat.le_of_ble_eq_true rfl) dB_3_1_18.2.1.2 (fun H locs hP hD hS => ?_)
                    refine pd_K [ob12_0_ mo s0 s1 t2 s3 s4 g5 g6 g7 g8 g9 g10 s11 g12 g13 g14 g15 g16 g17 g18 g19 g20 s21 g22 g23 g24 y_42 o26_1 x5_1 x5_1 g29 g30 g31 g32 g33, ai_ cy g5 40 f5, ai_ cy g6 40 f6, ai_ cy g7 40 f7, ai_ cy g8 40 f8, az_ cy g10 40 f10] hP hD (fun hP hD => ?_)
                    obtain ⟨y_43, ey_43⟩ : ∃ y : Int32, y = x5_1 + 1 := ⟨_, rfl⟩
                    have ty_43 : y_43.toInt = x5_1.toInt + (1 : Int32).toInt := by rw [ey_43]; exact addI (by omega) (by omega)
                    refine lv_iinc (v := y_43) (lv' := [(5, .int y_43), (0, .ref mo), (1, .int a1), (2, .int a2), (3, .int a3), (4, .int a4)]) hx hb dB_3_1_18.2.2.1 hl (k := 0) rfl (by rw [ey_43]; rfl) (by decide) rfl (fun ls hl => ?_)
                    refine lv_goto (tgt := 26) hx hb dB_3_1_18.2.2.2.1 (by decide) ?_
                    exact ih_1 y_43 y_42 o26_1 x5_1 x5_1 _ _ _ (by omega) (by first | with_reducible assumption | omega | assumption) (by first | with_reducible assumption | omega | assumption) (by first | exact ctsW_0 (by omega) | exact ctsW_no v2_1 (by omega) (by omega) (refP_f (Or.inl (bt_fl hbs_ (by omega))) (by omega)) | exact ctsW_no v2_1 (by omega) (by omega) (refP_f (Or.inr (Or.inl (bt_nz hbt_ (by omega)))) (by omega)) | exact ctsW_no v2_1 (by omega) (by omega) (refP_f (Or.inr (Or.inr (fun h => absurd (hsz_.trans h) (by omega)))) (by omega)) | exact ctsW_st v2_1 (by omega) (by omega) (refP_t (b_tr hbs_ (by omega)) (bt_fl hbt_ (by omega)) (hsz_.symm.trans (by omega)) (by omega)) (by omega) (by first | exact Or.inl ⟨rfl, by omega⟩ | exact Or.inr ⟨rfl, by omega, by omega⟩) (by first | exact Or.inl ⟨rfl, by omega⟩ | exact Or.inr ⟨rfl, by omega, by omega⟩) (by first | exact Or.inl ⟨rfl, by omega⟩ | exact Or.inr ⟨rfl, by omega⟩) (by omega)) (by first | omega | exact Int.natCast_nonneg _) (by first | with_reducible assumption | omega | assumption) ⟨hP, hD⟩ hS (lv_sub hl [0, 1, 2, 3, 4, 5] rfl)
                · have t_38 : ¬ o27_1.toInt = ((-9) : Int32).toInt := fun h => c_38 (Int32.toInt_inj.mp h)
                  refine lv_iload hx hb dB_3_1_16.2.1.2.2 (lv_at hl 0 rfl) ?_
                  refine ct_R hP hD [] [] (by decide) rfl (fun hPc hDw => ?_)
                  have hFc := va_free (wc := []) hD hS hA [] rfl
                  refine va_calli (va_runS (As := [.int x5_1]) (rest := [.ref mo]) ⟨hx, hb, hml, hown, hts⟩ (c_X12_bitsOf2 l D cy H.size x5_1) (va_cwS 1 hts gX12_cutsOf_X12_bitsOf rfl rfl rfl hd_X12_bitsOf ⟨Nat.le_of_ble_eq_true rfl, Nat.le_of_ble_eq_true rfl⟩) ⟨bl_, fun U hU hW => ⟨rfl, by rw [hU], by rw [hU]; exact hPc, kk_mv hW hK, hDw⟩⟩ rfl rfl hl.1 rfl (lv_room (Nat.le_of_ble_eq_true rfl)) dB_3_1_16.2.2.1.1 ⟨Nat.le_of_ble_eq_true rfl, Nat.le_of_ble_eq_true rfl⟩) hS (fun q _ h => hFc q h) hFc (fun r_44 u t H locs ht hvm hw hB hz1 hk1 hS => ?_)
                  have hP : va_P D vwCl _ H := ro_keep hP hk1
                  obtain ⟨f0_r_44, f1_r_44⟩ := hw
                  refine lv_aload_n hx hb dB_3_1_16.2.2.1.2 rfl (lv_at hl 1 rfl) ?_
                  refine va_get (ci := 12) (v := .int o27_1) (C := RX12) (T := TX12) (N := 34) hx hb hts (fun _ h => List.mem_cons_of_mem _ (List.mem_append_right _ h)) hown hK.1 hP 0 rfl rfl 27 (by decide) (hts (.fieldLink RX12 198 "CutAtlasModel" "far" "I") (List.mem_of_getElem? (i := 3) rfl)) (fun _ h9 => h9) rfl dB_3_1_16.2.2.2.1 ?_
                  refine ct_R hP hD [] [] (by decide) rfl (fun hPc hDw => ?_)
                  have hFc := va_free (wc := []) hD hS hA [] rfl
                  refine va_calli (va_runS (As := [.int o27_1]) (rest := [.int r_44, .ref mo]) ⟨hx, hb, hml, hown, hts⟩ (c_X12_bitsOf2 l D cy H.size o27_1) (va_cwS 1 hts gX12_cutsOf_X12_bitsOf rfl rfl rfl hd_X12_bitsOf ⟨Nat.le_of_ble_eq_true rfl, Nat.le_of_ble_eq_true rfl⟩) ⟨bl_, fun U hU hW => ⟨rfl, by rw [hU], by rw [hU]; exact hPc, kk_mv hW hK, hDw⟩⟩ rfl rfl hl.1 rfl (lv_room (Nat.le_of_ble_eq_true rfl)) dB_3_1_16.2.2.2.2 ⟨Nat.le_of_ble_eq_true rfl, Nat.le_of_ble_eq_true rfl⟩) hS (fun q _ h => hFc q h) hFc (fun r_45 u t H locs ht hvm hw hB hz1 hk1 hS => ?_)
                  have hP : va_P D vwCl _ H := ro_keep hP hk1
                  obtain ⟨f0_r_45, f1_r_45⟩ := hw
                  refine lv_icmp_le (tgt := 133) hx hb dB_3_1_17.1.1.1.1 (by decide) (fun c_46 => ?_) (fun c_46 => ?_)
                  · have t_46 : r_44.toInt ≤ r_45.toInt := Int32.le_iff_toInt_le.mp c_46
                    refine lv_aload_n hx hb dB_3_1_17.1.1.2.2 rfl (lv_at hl 1 rfl) ?_
                    refine va_get (ci := 12) (v := .int o27_1) (C := RX12) (T := TX12) (N := 34) hx hb hts (fun _ h => List.mem_cons_of_mem _ (List.mem_append_right _ h)) hown hK.1 hP 0 rfl rfl 27 (by decide) (hts (.fieldLink RX12 198 "CutAtlasModel" "far" "I") (List.mem_of_getElem? (i := 3) rfl)) (fun _ h9 => h9) rfl dB_3_1_17.1.2.1.1 ?_
                    refine va_put (ci := 12) (v := .int o27_1) (ty := .int) (C := RX12) (T := TX12) (N := 34) hx hb hts (fun _ h => List.mem_cons_of_mem _ (List.mem_append_right _ h)) tyX12 tyX12_ok nmX12 hown hK.1 hP hD hS 0 rfl rfl 27 (by decide) (hts (.fieldLink RX12 198 "CutAtlasModel" "far" "I") (List.mem_of_getElem? (i := 3) rfl)) (fun _ h9 => h9) rfl (by decide +kernel) rfl rfl (Nat.le_of_ble_eq_true rfl) dB_3_1_17.1.2.1.2 (fun H locs hP hD hS => ?_)
                    refine pd_K [ob12_0_ mo s0 s1 t2 s3 s4 g5 g6 g7 g8 g9 g10 s11 g12 g13 g14 g15 g16 g17 g18 g19 g20 s21 g22 g23 g24 o25_1 o26_1 o27_1 o28_1 g29 g30 g31 g32 g33, ai_ cy g5 40 f5, ai_ cy g6 40 f6, ai_ cy g7 40 f7, ai_ cy g8 40 f8, az_ cy g10 40 f10] hP hD (fun hP hD => ?_)
                    refine lv_aload_n hx hb dB_3_1_17.1.2.2.1 rfl (lv_at hl 1 rfl) ?_
                    refine lv_aload_n hx hb dB_3_1_17.1.2.2.2 rfl (lv_at hl 1 rfl) ?_
                    refine va_get (ci := 12) (v := .int o25_1) (C := RX12) (T := TX12) (N := 34) hx hb hts (fun _ h => List.mem_cons_of_mem _ (List.mem_append_right _ h)) hown hK.1 hP 0 rfl rfl 25 (by decide) (hts (.fieldLink RX12 192 "CutAtlasModel" "cuts" "I") (List.mem_of_getElem? (i := 1) rfl)) (fun _ h9 => h9) rfl dB_3_1_17.2.1.1.1 ?_
                    refine lv_iload hx hb dB_3_1_17.2.1.1.2 (lv_at hl 5 rfl) ?_
                    refine lv_icmp_ne (tgt := 155) hx hb dB_3_1_17.2.1.2.1 (by decide) (fun c_47 => ?_) (fun c_47 => ?_)
                    · have t_47 : ¬ o25_1.toInt = a4.toInt := fun h => c_47 (Int32.toInt_inj.mp h)
                      refine lv_aload_n hx hb dB_3_1_17.2.2.1.2 rfl (lv_at hl 1 rfl) ?_
                      refine va_get (ci := 12) (v := .int o28_1) (C := RX12) (T := TX12) (N := 34) hx hb hts (fun _ h => List.mem_cons_of_mem _ (List.mem_append_right _ h)) hown hK.1 hP 0 rfl rfl 28 (by decide) (hts (.fieldLink RX12 201 "CutAtlasModel" "chosen" "I") (List.mem_of_getElem? (i := 4) rfl)) (fun _ h9 => h9) rfl dB_3_1_17.2.2.2.1 ?_
                      refine va_put (ci := 12) (v := .int o28_1) (ty := .int) (C := RX12) (T := TX12) (N := 34) hx hb hts (fun _ h => List.mem_cons_of_mem _ (List.mem_append_right _ h)) tyX12 tyX12_ok nmX12 hown hK.1 hP hD hS 0 rfl rfl 28 (by decide) (hts (.fieldLink RX12 201 "CutAtlasModel" "chosen" "I") (List.mem_of_getElem? (i := 4) rfl)) (fun _ h9 => h9) rfl (by decide +kernel) rfl rfl (Nat.le_of_ble_eq_true rfl) dB_3_1_17.2.2.2.2 (fun H locs hP hD hS => ?_)
                      refine pd_K [ob12_0_ mo s0 s1 t2 s3 s4 g5 g6 g7 g8 g9 g10 s11 g12 g13 g14 g15 g16 g17 g18 g19 g20 s21 g22 g23 g24 o25_1 o26_1 o27_1 o28_1 g29 g30 g31 g32 g33, ai_ cy g5 40 f5, ai_ cy g6 40 f6, ai_ cy g7 40 f7, ai_ cy g8 40 f8, az_ cy g10 40 f10] hP hD (fun hP hD => ?_)
                      refine lv_aload_n hx hb dB_3_1_18.1.1.1 rfl (lv_at hl 1 rfl) ?_
                      refine lv_dup hx hb dB_3_1_18.1.1.2 rfl ?_
                      refine va_get (ci := 12) (v := .int o25_1) (C := RX12) (T := TX12) (N := 34) hx hb hts (fun _ h => List.mem_cons_of_mem _ (List.mem_append_right _ h)) hown hK.1 hP 0 rfl rfl 25 (by decide) (hts (.fieldLink RX12 192 "CutAtlasModel" "cuts" "I") (List.mem_of_getElem? (i := 1) rfl)) (fun _ h9 => h9) rfl dB_3_1_18.1.2.1 ?_
                      refine lv_iconst (v := 1) hx hb dB_3_1_18.1.2.2 (by decide) ?_
                      refine lv_iadd hx hb dB_3_1_18.2.1.1 ?_
                      refine lv_topi (fun y_48 ey_48 => ?_)
                      have ty_48 : y_48.toInt = o25_1.toInt + (1 : Int32).toInt := by rw [ey_48]; exact addI (by omega) (by omega)
                      refine va_put (ci := 12) (v := .int y_48) (ty := .int) (C := RX12) (T := TX12) (N := 34) hx hb hts (fun _ h => List.mem_cons_of_mem _ (List.mem_append_right _ h)) tyX12 tyX12_ok nmX12 hown hK.1 hP hD hS 0 rfl rfl 25 (by decide) (hts (.fieldLink RX12 192 "CutAtlasModel" "cuts" "I") (List.mem_of_getElem? (i := 1) rfl)) (fun _ h9 => h9) rfl (by decide +kernel) rfl rfl (Nat.le_of_ble_eq_true rfl) dB_3_1_18.2.1.2 (fun H locs hP hD hS => ?_)
                      refine pd_K [ob12_0_ mo s0 s1 t2 s3 s4 g5 g6 g7 g8 g9 g10 s11 g12 g13 g14 g15 g16 g17 g18 g19 g20 s21 g22 g23 g24 y_48 o26_1 o27_1 o28_1 g29 g30 g31 g32 g33, ai_ cy g5 40 f5, ai_ cy g6 40 f6, ai_ cy g7 40 f7, ai_ cy g8 40 f8, az_ cy g10 40 f10] hP hD (fun hP hD => ?_)
                      obtain ⟨y_49, ey_49⟩ : ∃ y : Int32, y = x5_1 + 1 := ⟨_, rfl⟩
                      have ty_49 : y_49.toInt = x5_1.toInt + (1 : Int32).toInt := by rw [ey_49]; exact addI (by omega) (by omega)
                      refine lv_iinc (v := y_49) (lv' := [(5, .int y_49), (0, .ref mo), (1, .int a1), (2, .int a2), (3, .int a3), (4, .int a4)]) hx hb dB_3_1_18.2.2.1 hl (k := 0) rfl (by rw [ey_49]; rfl) (by decide) rfl (fun ls hl => ?_)
                      refine lv_goto (tgt := 26) hx hb dB_3_1_18.2.2.2.1 (by decide) ?_
                      exact ih_1 y_49 y_48 o26_1 o27_1 o28_1 _ _ _ (by omega) (by first | with_reducible assumption | omega | assumption) (by first | with_reducible assumption | omega | assumption) (by first | exact ctsW_0 (by omega) | exact ctsW_no v2_1 (by omega) (by omega) (refP_f (Or.inl (bt_fl hbs_ (by omega))) (by omega)) | exact ctsW_no v2_1 (by omega) (by omega) (refP_f (Or.inr (Or.inl (bt_nz hbt_ (by omega)))) (by omega)) | exact ctsW_no v2_1 (by omega) (by omega) (refP_f (Or.inr (Or.inr (fun h => absurd (hsz_.trans h) (by omega)))) (by omega)) | exact ctsW_st v2_1 (by omega) (by omega) (refP_t (b_tr hbs_ (by omega)) (bt_fl hbt_ (by omega)) (hsz_.symm.trans (by omega)) (by omega)) (by omega) (by first | exact Or.inl ⟨rfl, by omega⟩ | exact Or.inr ⟨rfl, by omega, by omega⟩) (by first | exact Or.inl ⟨rfl, by omega⟩ | exact Or.inr ⟨rfl, by omega, by omega⟩) (by first | exact Or.inl ⟨rfl, by omega⟩ | exact Or.inr ⟨rfl, by omega⟩) (by omega)) (by first | omega | exact Int.natCast_nonneg _) (by first | with_reducible assumption | omega | assumption) ⟨hP, hD⟩ hS (lv_sub hl [0, 1, 2, 3, 4, 5] rfl)
                    · have t_47 : o25_1.toInt = a4.toInt := congrArg Int32.toInt c_47
                      refine lv_iload hx hb dB_3_1_17.2.1.2.2 (lv_at hl 0 rfl) ?_
                      refine lv_goto (tgt := 159) hx hb dB_3_1_17.2.2.1.1 (by decide) ?_
                      refine va_put (ci := 12) (v := .int x5_1) (ty := .int) (C := RX12) (T := TX12) (N := 34) hx hb hts (fun _ h => List.mem_cons_of_mem _ (List.mem_append_right _ h)) tyX12 tyX12_ok nmX12 hown hK.1 hP hD hS 0 rfl rfl 28 (by decide) (hts (.fieldLink RX12 201 "CutAtlasModel" "chosen" "I") (List.mem_of_getElem? (i := 4) rfl)) (fun _ h9 => h9) rfl (by decide +kernel) rfl rfl (Nat.le_of_ble_eq_true rfl) dB_3_1_17.2.2.2.2 (fun H locs hP hD hS => ?_)
                      refine pd_K [ob12_0_ mo s0 s1 t2 s3 s4 g5 g6 g7 g8 g9 g10 s11 g12 g13 g14 g15 g16 g17 g18 g19 g20 s21 g22 g23 g24 o25_1 o26_1 o27_1 x5_1 g29 g30 g31 g32 g33, ai_ cy g5 40 f5, ai_ cy g6 40 f6, ai_ cy g7 40 f7, ai_ cy g8 40 f8, az_ cy g10 40 f10] hP hD (fun hP hD => ?_)
                      refine lv_aload_n hx hb dB_3_1_18.1.1.1 rfl (lv_at hl 1 rfl) ?_
                      refine lv_dup hx hb dB_3_1_18.1.1.2 rfl ?_
                      refine va_get (ci := 12) (v := .int o25_1) (C := RX12) (T := TX12) (N := 34) hx hb hts (fun _ h => List.mem_cons_of_mem _ (List.mem_append_right _ h)) hown hK.1 hP 0 rfl rfl 25 (by decide) (hts (.fieldLink RX12 192 "CutAtlasModel" "cuts" "I") (List.mem_of_getElem? (i := 1) rfl)) (fun _ h9 => h9) rfl dB_3_1_18.1.2.1 ?_
                      refine lv_iconst (v := 1) hx hb dB_3_1_18.1.2.2 (by decide) ?_
                      refine lv_iadd hx hb dB_3_1_18.2.1.1 ?_
                      refine lv_topi (fun y_50 ey_50 => ?_)
                      have ty_50 : y_50.toInt = o25_1.toInt + (1 : Int32).toInt := by rw [ey_50]; exact addI (by omega) (by omega)
                      refine va_put (ci := 12) (v := .int y_50) (ty := .int) (C := RX12) (T := TX12) (N := 34) hx hb hts (fun _ h => List.mem_cons_of_mem _ (List.mem_append_right _ h)) tyX12 tyX12_ok nmX12 hown hK.1 hP hD hS 0 rfl rfl 25 (by decide) (hts (.fieldLink RX12 192 "CutAtlasModel" "cuts" "I") (List.mem_of_getElem? (i := 1) rfl)) (fun _ h9 => h9) rfl (by decide +kernel) rfl rfl (Nat.le_of_ble_eq_true rfl) dB_3_1_18.2.1.2 (fun H locs hP hD hS => ?_)
                      refine pd_K [ob12_0_ mo s0 s1 t2 s3 s4 g5 g6 g7 g8 g9 g10 s11 g12 g13 g14 g15 g16 g17 g18 g19 g20 s21 g22 g23 g24 y_50 o26_1 o27_1 x5_1 g29 g30 g31 g32 g33, ai_ cy g5 40 f5, ai_ cy g6 40 f6, ai_ cy g7 40 f7, ai_ cy g8 40 f8, az_ cy g10 40 f10] hP hD (fun hP hD => ?_)
                      obtain ⟨y_51, ey_51⟩ : ∃ y : Int32, y = x5_1 + 1 := ⟨_, rfl⟩
                      have ty_51 : y_51.toInt = x5_1.toInt + (1 : Int32).toInt := by rw [ey_51]; exact addI (by omega) (by omega)
                      refine lv_iinc (v := y_51) (lv' := [(5, .int y_51), (0, .ref mo), (1, .int a1), (2, .int a2), (3, .int a3), (4, .int a4)]) hx hb dB_3_1_18.2.2.1 hl (k := 0) rfl (by rw [ey_51]; rfl) (by decide) rfl (fun ls hl => ?_)
                      refine lv_goto (tgt := 26) hx hb dB_3_1_18.2.2.2.1 (by decide) ?_
                      exact ih_1 y_51 y_50 o26_1 o27_1 x5_1 _ _ _ (by omega) (by first | with_reducible assumption | omega | assumption) (by first | with_reducible assumption | omega | assumption) (by first | exact ctsW_0 (by omega) | exact ctsW_no v2_1 (by omega) (by omega) (refP_f (Or.inl (bt_fl hbs_ (by omega))) (by omega)) | exact ctsW_no v2_1 (by omega) (by omega) (refP_f (Or.inr (Or.inl (bt_nz hbt_ (by omega)))) (by omega)) | exact ctsW_no v2_1 (by omega) (by omega) (refP_f (Or.inr (Or.inr (fun h => absurd (hsz_.trans h) (by omega)))) (by omega)) | exact ctsW_st v2_1 (by omega) (by omega) (refP_t (b_tr hbs_ (by omega)) (bt_fl hbt_ (by omega)) (hsz_.symm.trans (by omega)) (by omega)) (by omega) (by first | exact Or.inl ⟨rfl, by omega⟩ | exact Or.inr ⟨rfl, by omega, by omega⟩) (by first | exact Or.inl ⟨rfl, by omega⟩ | exact Or.inr ⟨rfl, by omega, by omega⟩) (by first | exact Or.inl ⟨rfl, by omega⟩ | exact Or.inr ⟨rfl, by omega⟩) (by omega)) (by first | omega | exact Int.natCast_nonneg _) (by first | with_reducible assumption | omega | assumption) ⟨hP, hD⟩ hS (lv_sub hl [0, 1, 2, 3, 4, 5] rfl)
                  · have t_46 : ¬ r_44.toInt ≤ r_45.toInt := fun h => c_46 (Int32.le_iff_toInt_le.mpr h)
                    refine lv_iload hx hb dB_3_1_17.1.1.1.2 (lv_at hl 0 rfl) ?_
                    refine lv_goto (tgt := 137) hx hb dB_3_1_17.1.1.2.1 (by decide) ?_
                    refine va_put (ci := 12) (v := .int x5_1) (ty := .int) (C := RX12) (T := TX12) (N := 34) hx hb hts (fun _ h => List.mem_cons_of_mem _ (List.mem_append_right _ h)) tyX12 tyX12_ok nmX12 hown hK.1 hP hD hS 0 rfl rfl 27 (by decide) (hts (.fieldLink RX12 198 "CutAtlasModel" "far" "I") (List.mem_of_getElem? (i := 3) rfl)) (fun _ h9 => h9) rfl (by decide +kernel) rfl rfl (Nat.le_of_ble_eq_true rfl) dB_3_1_17.1.2.1.2 (fun H locs hP hD hS => ?_)
                    refine pd_K [ob12_0_ mo s0 s1 t2 s3 s4 g5 g6 g7 g8 g9 g10 s11 g12 g13 g14 g15 g16 g17 g18 g19 g20 s21 g22 g23 g24 o25_1 o26_1 x5_1 o28_1 g29 g30 g31 g32 g33, ai_ cy g5 40 f5, ai_ cy g6 40 f6, ai_ cy g7 40 f7, ai_ cy g8 40 f8, az_ cy g10 40 f10] hP hD (fun hP hD => ?_)
                    refine lv_aload_n hx hb dB_3_1_17.1.2.2.1 rfl (lv_at hl 1 rfl) ?_
                    refine lv_aload_n hx hb dB_3_1_17.1.2.2.2 rfl (lv_at hl 1 rfl) ?_
                    refine va_get (ci := 12) (v := .int o25_1) (C := RX12) (T := TX12) (N := 34) hx hb hts (fun _ h => List.mem_cons_of_mem _ (List.mem_append_right _ h)) hown hK.1 hP 0 rfl rfl 25 (by decide) (hts (.fieldLink RX12 192 "CutAtlasModel" "cuts" "I") (List.mem_of_getElem? (i := 1) rfl)) (fun _ h9 => h9) rfl dB_3_1_17.2.1.1.1 ?_
                    refine lv_iload hx hb dB_3_1_17.2.1.1.2 (lv_at hl 5 rfl) ?_
                    refine lv_icmp_ne (tgt := 155) hx hb dB_3_1_17.2.1.2.1 (by decide) (fun c_52 => ?_) (fun c_52 => ?_)
                    · have t_52 : ¬ o25_1.toInt = a4.toInt := fun h => c_52 (Int32.toInt_inj.mp h)
                      refine lv_aload_n hx hb dB_3_1_17.2.2.1.2 rfl (lv_at hl 1 rfl) ?_
                      refine va_get (ci := 12) (v := .int o28_1) (C := RX12) (T := TX12) (N := 34) hx hb hts (fun _ h => List.mem_cons_of_mem _ (List.mem_append_right _ h)) hown hK.1 hP 0 rfl rfl 28 (by decide) (hts (.fieldLink RX12 201 "CutAtlasModel" "chosen" "I") (List.mem_of_getElem? (i := 4) rfl)) (fun _ h9 => h9) rfl dB_3_1_17.2.2.2.1 ?_
                      refine va_put (ci := 12) (v := .int o28_1) (ty := .int) (C := RX12) (T := TX12) (N := 34) hx hb hts (fun _ h => List.mem_cons_of_mem _ (List.mem_append_right _ h)) tyX12 tyX12_ok nmX12 hown hK.1 hP hD hS 0 rfl rfl 28 (by decide) (hts (.fieldLink RX12 201 "CutAtlasModel" "chosen" "I") (List.mem_of_getElem? (i := 4) rfl)) (fun _ h9 => h9) rfl (by decide +kernel) rfl rfl (Nat.le_of_ble_eq_true rfl) dB_3_1_17.2.2.2.2 (fun H locs hP hD hS => ?_)
                      refine pd_K [ob12_0_ mo s0 s1 t2 s3 s4 g5 g6 g7 g8 g9 g10 s11 g12 g13 g14 g15 g16 g17 g18 g19 g20 s21 g22 g23 g24 o25_1 o26_1 x5_1 o28_1 g29 g30 g31 g32 g33, ai_ cy g5 40 f5, ai_ cy g6 40 f6, ai_ cy g7 40 f7, ai_ cy g8 40 f8, az_ cy g10 40 f10] hP hD (fun hP hD => ?_)
                      refine lv_aload_n hx hb dB_3_1_18.1.1.1 rfl (lv_at hl 1 rfl) ?_
                      refine lv_dup hx hb dB_3_1_18.1.1.2 rfl ?_
                      refine va_get (ci := 12) (v := .int o25_1) (C := RX12) (T := TX12) (N := 34) hx hb hts (fun _ h => List.mem_cons_of_mem _ (List.mem_append_right _ h)) hown hK.1 hP 0 rfl rfl 25 (by decide) (hts (.fieldLink RX12 192 "CutAtlasModel" "cuts" "I") (List.mem_of_getElem? (i := 1) rfl)) (fun _ h9 => h9) rfl dB_3_1_18.1.2.1 ?_
                      refine lv_iconst (v := 1) hx hb dB_3_1_18.1.2.2 (by decide) ?_
                      refine lv_iadd hx hb dB_3_1_18.2.1.1 ?_
                      refine lv_topi (fun y_53 ey_53 => ?_)
                      have ty_53 : y_53.toInt = o25_1.toInt + (1 : Int32).toInt := by rw [ey_53]; exact addI (by omega) (by omega)
                      refine va_put (ci := 12) (v := .int y_53) (ty := .int) (C := RX12) (T := TX12) (N := 34) hx hb hts (fun _ h => List.mem_cons_of_mem _ (List.mem_append_right _ h)) tyX12 tyX12_ok nmX12 hown hK.1 hP hD hS 0 rfl rfl 25 (by decide) (hts (.fieldLink RX12 192 "CutAtlasModel" "cuts" "I") (List.mem_of_getElem? (i := 1) rfl)) (fun _ h9 => h9) rfl (by decide +kernel) rfl rfl (Nat.le_of_ble_eq_true rfl) dB_3_1_18.2.1.2 (fun H locs hP hD hS => ?_)
                      refine pd_K [ob12_0_ mo s0 s1 t2 s3 s4 g5 g6 g7 g8 g9 g10 s11 g12 g13 g14 g15 g16 g17 g18 g19 g20 s21 g22 g23 g24 y_53 o26_1 x5_1 o28_1 g29 g30 g31 g32 g33, ai_ cy g5 40 f5, ai_ cy g6 40 f6, ai_ cy g7 40 f7, ai_ cy g8 40 f8, az_ cy g10 40 f10] hP hD (fun hP hD => ?_)
                      obtain ⟨y_54, ey_54⟩ : ∃ y : Int32, y = x5_1 + 1 := ⟨_, rfl⟩
                      have ty_54 : y_54.toInt = x5_1.toInt + (1 : Int32).toInt := by rw [ey_54]; exact addI (by omega) (by omega)
                      refine lv_iinc (v := y_54) (lv' := [(5, .int y_54), (0, .ref mo), (1, .int a1), (2, .int a2), (3, .int a3), (4, .int a4)]) hx hb dB_3_1_18.2.2.1 hl (k := 0) rfl (by rw [ey_54]; rfl) (by decide) rfl (fun ls hl => ?_)
                      refine lv_goto (tgt := 26) hx hb dB_3_1_18.2.2.2.1 (by decide) ?_
                      exact ih_1 y_54 y_53 o26_1 x5_1 o28_1 _ _ _ (by omega) (by first | with_reducible assumption | omega | assumption) (by first | with_reducible assumption | omega | assumption) (by first | exact ctsW_0 (by omega) | exact ctsW_no v2_1 (by omega) (by omega) (refP_f (Or.inl (bt_fl hbs_ (by omega))) (by omega)) | exact ctsW_no v2_1 (by omega) (by omega) (refP_f (Or.inr (Or.inl (bt_nz hbt_ (by omega)))) (by omega)) | exact ctsW_no v2_1 (by omega) (by omega) (refP_f (Or.inr (Or.inr (fun h => absurd (hsz_.trans h) (by omega)))) (by omega)) | exact ctsW_st v2_1 (by omega) (by omega) (refP_t (b_tr hbs_ (by omega)) (bt_fl hbt_ (by omega)) (hsz_.symm.trans (by omega)) (by omega)) (by omega) (by first | exact Or.inl ⟨rfl, by omega⟩ | exact Or.inr ⟨rfl, by omega, by omega⟩) (by first | exact Or.inl ⟨rfl, by omega⟩ | exact Or.inr ⟨rfl, by omega, by omega⟩) (by first | exact Or.inl ⟨rfl, by omega⟩ | exact Or.inr ⟨rfl, by omega⟩) (by omega)) (by first | omega | exact Int.natCast_nonneg _) (by first | with_reducible assumption | omega | assumption) ⟨hP, hD⟩ hS (lv_sub hl [0, 1, 2, 3, 4, 5] rfl)
                    · have t_52 : o25_1.toInt = a4.toInt := congrArg Int32.toInt c_52
                      refine lv_iload hx hb dB_3_1_17.2.1.2.2 (lv_at hl 0 rfl) ?_
                      refine lv_goto (tgt := 159) hx hb dB_3_1_17.2.2.1.1 (by decide) ?_
                      refine va_put (ci := 12) (v := .int x5_1) (ty := .int) (C := RX12) (T := TX12) (N := 34) hx hb hts (fun _ h => List.mem_cons_of_mem _ (List.mem_append_right _ h)) tyX12 tyX12_ok nmX12 hown hK.1 hP hD hS 0 rfl rfl 28 (by decide) (hts (.fieldLink RX12 201 "CutAtlasModel" "chosen" "I") (List.mem_of_getElem? (i := 4) rfl)) (fun _ h9 => h9) rfl (by decide +kernel) rfl rfl (Nat.le_of_ble_eq_true rfl) dB_3_1_17.2.2.2.2 (fun H locs hP hD hS => ?_)
                      refine pd_K [ob12_0_ mo s0 s1 t2 s3 s4 g5 g6 g7 g8 g9 g10 s11 g12 g13 g14 g15 g16 g17 g18 g19 g20 s21 g22 g23 g24 o25_1 o26_1 x5_1 x5_1 g29 g30 g31 g32 g33, ai_ cy g5 40 f5, ai_ cy g6 40 f6, ai_ cy g7 40 f7, ai_ cy g8 40 f8, az_ cy g10 40 f10] hP hD (fun hP hD => ?_)
                      refine lv_aload_n hx hb dB_3_1_18.1.1.1 rfl (lv_at hl 1 rfl) ?_
                      refine lv_dup hx hb dB_3_1_18.1.1.2 rfl ?_
                      refine va_get (ci := 12) (v := .int o25_1) (C := RX12) (T := TX12) (N := 34) hx hb hts (fun _ h => List.mem_cons_of_mem _ (List.mem_append_right _ h)) hown hK.1 hP 0 rfl rfl 25 (by decide) (hts (.fieldLink RX12 192 "CutAtlasModel" "cuts" "I") (List.mem_of_getElem? (i := 1) rfl)) (fun _ h9 => h9) rfl dB_3_1_18.1.2.1 ?_
                      refine lv_iconst (v := 1) hx hb dB_3_1_18.1.2.2 (by decide) ?_
                      refine lv_iadd hx hb dB_3_1_18.2.1.1 ?_
                      refine lv_topi (fun y_55 ey_55 => ?_)
                      have ty_55 : y_55.toInt = o25_1.toInt + (1 : Int32).toInt := by rw [ey_55]; exact addI (by omega) (by omega)
                      refine va_put (ci := 12) (v := .int y_55) (ty := .int) (C := RX12) (T := TX12) (N := 34) hx hb hts (fun _ h => List.mem_cons_of_mem _ (List.mem_append_right _ h)) tyX12 tyX12_ok nmX12 hown hK.1 hP hD hS 0 rfl rfl 25 (by decide) (hts (.fieldLink RX12 192 "CutAtlasModel" "cuts" "I") (List.mem_of_getElem? (i := 1) rfl)) (fun _ h9 => h9) rfl (by decide +kernel) rfl rfl (Nat.le_of_ble_eq_true rfl) dB_3_1_18.2.1.2 (fun H locs hP hD hS => ?_)
                      refine pd_K [ob12_0_ mo s0 s1 t2 s3 s4 g5 g6 g7 g8 g9 g10 s11 g12 g13 g14 g15 g16 g17 g18 g19 g20 s21 g22 g23 g24 y_55 o26_1 x5_1 x5_1 g29 g30 g31 g32 g33, ai_ cy g5 40 f5, ai_ cy g6 40 f6, ai_ cy g7 40 f7, ai_ cy g8 40 f8, az_ cy g10 40 f10] hP hD (fun hP hD => ?_)
                      obtain ⟨y_56, ey_56⟩ : ∃ y : Int32, y = x5_1 + 1 := ⟨_, rfl⟩
                      have ty_56 : y_56.toInt = x5_1.toInt + (1 : Int32).toInt := by rw [ey_56]; exact addI (by omega) (by omega)
                      refine lv_iinc (v := y_56) (lv' := [(5, .int y_56), (0, .ref mo), (1, .int a1), (2, .int a2), (3, .int a3), (4, .int a4)]) hx hb dB_3_1_18.2.2.1 hl (k := 0) rfl (by rw [ey_56]; rfl) (by decide) rfl (fun ls hl => ?_)
                      refine lv_goto (tgt := 26) hx hb dB_3_1_18.2.2.2.1 (by decide) ?_
                      exact ih_1 y_56 y_55 o26_1 x5_1 x5_1 _ _ _ (by omega) (by first | with_reducible assumption | omega | assumption) (by first | with_reducible assumption | omega | assumption) (by first | exact ctsW_0 (by omega) | exact ctsW_no v2_1 (by omega) (by omega) (refP_f (Or.inl (bt_fl hbs_ (by omega))) (by omega)) | exact ctsW_no v2_1 (by omega) (by omega) (refP_f (Or.inr (Or.inl (bt_nz hbt_ (by omega)))) (by omega)) | exact ctsW_no v2_1 (by omega) (by omega) (refP_f (Or.inr (Or.inr (fun h => absurd (hsz_.trans h) (by omega)))) (by omega)) | exact ctsW_st v2_1 (by omega) (by omega) (refP_t (b_tr hbs_ (by omega)) (bt_fl hbt_ (by omega)) (hsz_.symm.trans (by omega)) (by omega)) (by omega) (by first | exact Or.inl ⟨rfl, by omega⟩ | exact Or.inr ⟨rfl, by omega, by omega⟩) (by first | exact Or.inl ⟨rfl, by omega⟩ | exact Or.inr ⟨rfl, by omega, by omega⟩) (by first | exact Or.inl ⟨rfl, by omega⟩ | exact Or.inr ⟨rfl, by omega⟩) (by omega)) (by first | omega | exact Int.natCast_nonneg _) (by first | with_reducible assumption | omega | assumption) ⟨hP, hD⟩ hS (lv_sub hl [0, 1, 2, 3, 4, 5] rfl)
              · have t_37 : ¬ r_36.toInt ≤ r_35.toInt := fun h => c_37 (Int32.le_iff_toInt_le.mpr h)
                refine lv_iload hx hb dB_3_1_16.1.1.1.2 (lv_at hl 0 rfl) ?_
                refine lv_goto (tgt := 100) hx hb dB_3_1_16.1.1.2.1 (by decide) ?_
                refine va_put (ci := 12) (v := .int x5_1) (ty := .int) (C := RX12) (T := TX12) (N := 34) hx hb hts (fun _ h => List.mem_cons_of_mem _ (List.mem_append_right _ h)) tyX12 tyX12_ok nmX12 hown hK.1 hP hD hS 0 rfl rfl 26 (by decide) (hts (.fieldLink RX12 195 "CutAtlasModel" "near" "I") (List.mem_of_getElem? (i := 2) rfl)) (fun _ h9 => h9) rfl (by decide +kernel) rfl rfl (Nat.le_of_ble_eq_true rfl) dB_3_1_16.1.2.1.2 (fun H locs hP hD hS => ?_)
                refine pd_K [ob12_0_ mo s0 s1 t2 s3 s4 g5 g6 g7 g8 g9 g10 s11 g12 g13 g14 g15 g16 g17 g18 g19 g20 s21 g22 g23 g24 o25_1 x5_1 o27_1 o28_1 g29 g30 g31 g32 g33, ai_ cy g5 40 f5, ai_ cy g6 40 f6, ai_ cy g7 40 f7, ai_ cy g8 40 f8, az_ cy g10 40 f10] hP hD (fun hP hD => ?_)
                refine lv_aload_n hx hb dB_3_1_16.1.2.2.1 rfl (lv_at hl 1 rfl) ?_
                refine lv_aload_n hx hb dB_3_1_16.1.2.2.2 rfl (lv_at hl 1 rfl) ?_
                refine va_get (ci := 12) (v := .int o27_1) (C := RX12) (T := TX12) (N := 34) hx hb hts (fun _ h => List.mem_cons_of_mem _ (List.mem_append_right _ h)) hown hK.1 hP 0 rfl rfl 27 (by decide) (hts (.fieldLink RX12 198 "CutAtlasModel" "far" "I") (List.mem_of_getElem? (i := 3) rfl)) (fun _ h9 => h9) rfl dB_3_1_16.2.1.1.1 ?_
                refine lv_bipush (v := (-9)) hx hb dB_3_1_16.2.1.1.2 (by decide) ?_
                refine lv_icmp_eq (tgt := 128) hx hb dB_3_1_16.2.1.2.1 (by decide) (fun c_57 => ?_) (fun c_57 => ?_)
                · have t_57 : o27_1.toInt = ((-9) : Int32).toInt := congrArg Int32.toInt c_57
                  refine lv_iload hx hb dB_3_1_17.1.1.1.2 (lv_at hl 0 rfl) ?_
                  refine lv_goto (tgt := 137) hx hb dB_3_1_17.1.1.2.1 (by decide) ?_
                  refine va_put (ci := 12) (v := .int x5_1) (ty := .int) (C := RX12) (T := TX12) (N := 34) hx hb hts (fun _ h => List.mem_cons_of_mem _ (List.mem_append_right _ h)) tyX12 tyX12_ok nmX12 hown hK.1 hP hD hS 0 rfl rfl 27 (by decide) (hts (.fieldLink RX12 198 "CutAtlasModel" "far" "I") (List.mem_of_getElem? (i := 3) rfl)) (fun _ h9 => h9) rfl (by decide +kernel) rfl rfl (Nat.le_of_ble_eq_true rfl) dB_3_1_17.1.2.1.2 (fun H locs hP hD hS => ?_)
                  refine pd_K [ob12_0_ mo s0 s1 t2 s3 s4 g5 g6 g7 g8 g9 g10 s11 g12 g13 g14 g15 g16 g17 g18 g19 g20 s21 g22 g23 g24 o25_1 x5_1 x5_1 o28_1 g29 g30 g31 g32 g33, ai_ cy g5 40 f5, ai_ cy g6 40 f6, ai_ cy g7 40 f7, ai_ cy g8 40 f8, az_ cy g10 40 f10] hP hD (fun hP hD => ?_)
                  refine lv_aload_n hx hb dB_3_1_17.1.2.2.1 rfl (lv_at hl 1 rfl) ?_
                  refine lv_aload_n hx hb dB_3_1_17.1.2.2.2 rfl (lv_at hl 1 rfl) ?_
                  refine va_get (ci := 12) (v := .int o25_1) (C := RX12) (T := TX12) (N := 34) hx hb hts (fun _ h => List.mem_cons_of_mem _ (List.mem_append_right _ h)) hown hK.1 hP 0 rfl rfl 25 (by decide) (hts (.fieldLink RX12 192 "CutAtlasModel" "cuts" "I") (List.mem_of_getElem? (i := 1) rfl)) (fun _ h9 => h9) rfl dB_3_1_17.2.1.1.1 ?_
                  refine lv_iload hx hb dB_3_1_17.2.1.1.2 (lv_at hl 5 rfl) ?_
                  refine lv_icmp_ne (tgt := 155) hx hb dB_3_1_17.2.1.2.1 (by decide) (fun c_58 => ?_) (fun c_58 => ?_)
                  · have t_58 : ¬ o25_1.toInt = a4.toInt := fun h => c_58 (Int32.toInt_inj.mp h)
                    refine lv_aload_n hx hb dB_3_1_17.2.2.1.2 rfl (lv_at hl 1 rfl) ?_
                    refine va_get (ci := 12) (v := .int o28_1) (C := RX12) (T := TX12) (N := 34) hx hb hts (fun _ h => List.mem_cons_of_mem _ (List.mem_append_right _ h)) hown hK.1 hP 0 rfl rfl 28 (by decide) (hts (.fieldLink RX12 201 "CutAtlasModel" "chosen" "I") (List.mem_of_getElem? (i := 4) rfl)) (fun _ h9 => h9) rfl dB_3_1_17.2.2.2.1 ?_
                    refine va_put (ci := 12) (v := .int o28_1) (ty := .int) (C := RX12) (T := TX12) (N := 34) hx hb hts (fun _ h => List.mem_cons_of_mem _ (List.mem_append_right _ h)) tyX12 tyX12_ok nmX12 hown hK.1 hP hD hS 0 rfl rfl 28 (by decide) (hts (.fieldLink RX12 201 "CutAtlasModel" "chosen" "I") (List.mem_of_getElem? (i := 4) rfl)) (fun _ h9 => h9) rfl (by decide +kernel) rfl rfl (Nat.le_of_ble_eq_true rfl) dB_3_1_17.2.2.2.2 (fun H locs hP hD hS => ?_)
                    refine pd_K [ob12_0_ mo s0 s1 t2 s3 s4 g5 g6 g7 g8 g9 g10 s11 g12 g13 g14 g15 g16 g17 g18 g19 g20 s21 g22 g23 g24 o25_1 x5_1 x5_1 o28_1 g29 g30 g31 g32 g33, ai_ cy g5 40 f5, ai_ cy g6 40 f6, ai_ cy g7 40 f7, ai_ cy g8 40 f8, az_ cy g10 40 f10] hP hD (fun hP hD => ?_)
                    refine lv_aload_n hx hb dB_3_1_18.1.1.1 rfl (lv_at hl 1 rfl) ?_
                    refine lv_dup hx hb dB_3_1_18.1.1.2 rfl ?_
                    refine va_get (ci := 12) (v := .int o25_1) (C := RX12) (T := TX12) (N := 34) hx hb hts (fun _ h => List.mem_cons_of_mem _ (List.mem_append_right _ h)) hown hK.1 hP 0 rfl rfl 25 (by decide) (hts (.fieldLink RX12 192 "CutAtlasModel" "cuts" "I") (List.mem_of_getElem? (i := 1) rfl)) (fun _ h9 => h9) rfl dB_3_1_18.1.2.1 ?_
                    refine lv_iconst (v := 1) hx hb dB_3_1_18.1.2.2 (by decide) ?_
                    refine lv_iadd hx hb dB_3_1_18.2.1.1 ?_
                    refine lv_topi (fun y_59 ey_59 => ?_)
                    have ty_59 : y_59.toInt = o25_1.toInt + (1 : Int32).toInt := by rw [ey_59]; exact addI (by omega) (by omega)
                    refine va_put (ci := 12) (v := .int y_59) (ty := .int) (C := RX12) (T := TX12) (N := 34) hx hb hts (fun _ h => List.mem_cons_of_mem _ (List.mem_append_right _ h)) tyX12 tyX12_ok nmX12 hown hK.1 hP hD hS 0 rfl rfl 25 (by decide) (hts (.fieldLink RX12 192 "CutAtlasModel" "cuts" "I") (List.mem_of_getElem? (i := 1) rfl)) (fun _ h9 => h9) rfl (by decide +kernel) rfl rfl (Nat.le_of_ble_eq_true rfl) dB_3_1_18.2.1.2 (fun H locs hP hD hS => ?_)
                    refine pd_K [ob12_0_ mo s0 s1 t2 s3 s4 g5 g6 g7 g8 g9 g10 s11 g12 g13 g14 g15 g16 g17 g18 g19 g20 s21 g22 g23 g24 y_59 x5_1 x5_1 o28_1 g29 g30 g31 g32 g33, ai_ cy g5 40 f5, ai_ cy g6 40 f6, ai_ cy g7 40 f7, ai_ cy g8 40 f8, az_ cy g10 40 f10] hP hD (fun hP hD => ?_)
                    obtain ⟨y_60, ey_60⟩ : ∃ y : Int32, y = x5_1 + 1 := ⟨_, rfl⟩
                    have ty_60 : y_60.toInt = x5_1.toInt + (1 : Int32).toInt := by rw [ey_60]; exact addI (by omega) (by omega)
                    refine lv_iinc (v := y_60) (lv' := [(5, .int y_60), (0, .ref mo), (1, .int a1), (2, .int a2), (3, .int a3), (4, .int a4)]) hx hb dB_3_1_18.2.2.1 hl (k := 0) rfl (by rw [ey_60]; rfl) (by decide) rfl (fun ls hl => ?_)
                    refine lv_goto (tgt := 26) hx hb dB_3_1_18.2.2.2.1 (by decide) ?_
                    exact ih_1 y_60 y_59 x5_1 x5_1 o28_1 _ _ _ (by omega) (by first | with_reducible assumption | omega | assumption) (by first | with_reducible assumption | omega | assumption) (by first | exact ctsW_0 (by omega) | exact ctsW_no v2_1 (by omega) (by omega) (refP_f (Or.inl (bt_fl hbs_ (by omega))) (by omega)) | exact ctsW_no v2_1 (by omega) (by omega) (refP_f (Or.inr (Or.inl (bt_nz hbt_ (by omega)))) (by omega)) | exact ctsW_no v2_1 (by omega) (by omega) (refP_f (Or.inr (Or.inr (fun h => absurd (hsz_.trans h) (by omega)))) (by omega)) | exact ctsW_st v2_1 (by omega) (by omega) (refP_t (b_tr hbs_ (by omega)) (bt_fl hbt_ (by omega)) (hsz_.symm.trans (by omega)) (by omega)) (by omega) (by first | exact Or.inl ⟨rfl, by omega⟩ | exact Or.inr ⟨rfl, by omega, by omega⟩) (by first | exact Or.inl ⟨rfl, by omega⟩ | exact Or.inr ⟨rfl, by omega, by omega⟩) (by first | exact Or.inl ⟨rfl, by omega⟩ | exact Or.inr ⟨rfl, by omega⟩) (by omega)) (by first | omega | exact Int.natCast_nonneg _) (by first | with_reducible assumption | omega | assumption) ⟨hP, hD⟩ hS (lv_sub hl [0, 1, 2, 3, 4, 5] rfl)
                  · have t_58 : o25_1.toInt = a4.toInt := congrArg Int32.toInt c_58
                    refine lv_iload hx hb dB_3_1_17.2.1.2.2 (lv_at hl 0 rfl) ?_
                    refine lv_goto (tgt := 159) hx hb dB_3_1_17.2.2.1.1 (by decide) ?_
                    refine va_put (ci := 12) (v := .int x5_1) (ty := .int) (C := RX12) (T := TX12) (N := 34) hx hb hts (fun _ h => List.mem_cons_of_mem _ (List.mem_append_right _ h)) tyX12 tyX12_ok nmX12 hown hK.1 hP hD hS 0 rfl rfl 28 (by decide) (hts (.fieldLink RX12 201 "CutAtlasModel" "chosen" "I") (List.mem_of_getElem? (i := 4) rfl)) (fun _ h9 => h9) rfl (by decide +kernel) rfl rfl (Nat.le_of_ble_eq_true rfl) dB_3_1_17.2.2.2.2 (fun H locs hP hD hS => ?_)
                    refine pd_K [ob12_0_ mo s0 s1 t2 s3 s4 g5 g6 g7 g8 g9 g10 s11 g12 g13 g14 g15 g16 g17 g18 g19 g20 s21 g22 g23 g24 o25_1 x5_1 x5_1 x5_1 g29 g30 g31 g32 g33, ai_ cy g5 40 f5, ai_ cy g6 40 f6, ai_ cy g7 40 f7, ai_ cy g8 40 f8, az_ cy g10 40 f10] hP hD (fun hP hD => ?_)
                    refine lv_aload_n hx hb dB_3_1_18.1.1.1 rfl (lv_at hl 1 rfl) ?_
                    refine lv_dup hx hb dB_3_1_18.1.1.2 rfl ?_
                    refine va_get (ci := 12) (v := .int o25_1) (C := RX12) (T := TX12) (N := 34) hx hb hts (fun _ h => List.mem_cons_of_mem _ (List.mem_append_right _ h)) hown hK.1 hP 0 rfl rfl 25 (by decide) (hts (.fieldLink RX12 192 "CutAtlasModel" "cuts" "I") (List.mem_of_getElem? (i := 1) rfl)) (fun _ h9 => h9) rfl dB_3_1_18.1.2.1 ?_
                    refine lv_iconst (v := 1) hx hb dB_3_1_18.1.2.2 (by decide) ?_
                    refine lv_iadd hx hb dB_3_1_18.2.1.1 ?_
                    refine lv_topi (fun y_61 ey_61 => ?_)
                    have ty_61 : y_61.toInt = o25_1.toInt + (1 : Int32).toInt := by rw [ey_61]; exact addI (by omega) (by omega)
                    refine va_put (ci := 12) (v := .int y_61) (ty := .int) (C := RX12) (T := TX12) (N := 34) hx hb hts (fun _ h => List.mem_cons_of_mem _ (List.mem_append_right _ h)) tyX12 tyX12_ok nmX12 hown hK.1 hP hD hS 0 rfl rfl 25 (by decide) (hts (.fieldLink RX12 192 "CutAtlasModel" "cuts" "I") (List.mem_of_getElem? (i := 1) rfl)) (fun _ h9 => h9) rfl (by decide +kernel) rfl rfl (Nat.le_of_ble_eq_true rfl) dB_3_1_18.2.1.2 (fun H locs hP hD hS => ?_)
                    refine pd_K [ob12_0_ mo s0 s1 t2 s3 s4 g5 g6 g7 g8 g9 g10 s11 g12 g13 g14 g15 g16 g17 g18 g19 g20 s21 g22 g23 g24 y_61 x5_1 x5_1 x5_1 g29 g30 g31 g32 g33, ai_ cy g5 40 f5, ai_ cy g6 40 f6, ai_ cy g7 40 f7, ai_ cy g8 40 f8, az_ cy g10 40 f10] hP hD (fun hP hD => ?_)
                    obtain ⟨y_62, ey_62⟩ : ∃ y : Int32, y = x5_1 + 1 := ⟨_, rfl⟩
                    have ty_62 : y_62.toInt = x5_1.toInt + (1 : Int32).toInt := by rw [ey_62]; exact addI (by omega) (by omega)
                    refine lv_iinc (v := y_62) (lv' := [(5, .int y_62), (0, .ref mo), (1, .int a1), (2, .int a2), (3, .int a3), (4, .int a4)]) hx hb dB_3_1_18.2.2.1 hl (k := 0) rfl (by rw [ey_62]; rfl) (by decide) rfl (fun ls hl => ?_)
                    refine lv_goto (tgt := 26) hx hb dB_3_1_18.2.2.2.1 (by decide) ?_
                    exact ih_1 y_62 y_61 x5_1 x5_1 x5_1 _ _ _ (by omega) (by first | with_reducible assumption | omega | assumption) (by first | with_reducible assumption | omega | assumption) (by first | exact ctsW_0 (by omega) | exact ctsW_no v2_1 (by omega) (by omega) (refP_f (Or.inl (bt_fl hbs_ (by omega))) (by omega)) | exact ctsW_no v2_1 (by omega) (by omega) (refP_f (Or.inr (Or.inl (bt_nz hbt_ (by omega)))) (by omega)) | exact ctsW_no v2_1 (by omega) (by omega) (refP_f (Or.inr (Or.inr (fun h => absurd (hsz_.trans h) (by omega)))) (by omega)) | exact ctsW_st v2_1 (by omega) (by omega) (refP_t (b_tr hbs_ (by omega)) (bt_fl hbt_ (by omega)) (hsz_.symm.trans (by omega)) (by omega)) (by omega) (by first | exact Or.inl ⟨rfl, by omega⟩ | exact Or.inr ⟨rfl, by omega, by omega⟩) (by first | exact Or.inl ⟨rfl, by omega⟩ | exact Or.inr ⟨rfl, by omega, by omega⟩) (by first | exact Or.inl ⟨rfl, by omega⟩ | exact Or.inr ⟨rfl, by omega⟩) (by omega)) (by first | omega | exact Int.natCast_nonneg _) (by first | with_reducible assumption | omega | assumption) ⟨hP, hD⟩ hS (lv_sub hl [0, 1, 2, 3, 4, 5] rfl)
                · have t_57 : ¬ o27_1.toInt = ((-9) : Int32).toInt := fun h => c_57 (Int32.toInt_inj.mp h)
                  refine lv_iload hx hb dB_3_1_16.2.1.2.2 (lv_at hl 0 rfl) ?_
                  refine ct_R hP hD [] [] (by decide) rfl (fun hPc hDw => ?_)
                  have hFc := va_free (wc := []) hD hS hA [] rfl
                  refine va_calli (va_runS (As := [.int x5_1]) (rest := [.ref mo]) ⟨hx, hb, hml, hown, hts⟩ (c_X12_bitsOf2 l D cy H.size x5_1) (va_cwS 1 hts gX12_cutsOf_X12_bitsOf rfl rfl rfl hd_X12_bitsOf ⟨Nat.le_of_ble_eq_true rfl, Nat.le_of_ble_eq_true rfl⟩) ⟨bl_, fun U hU hW => ⟨rfl, by rw [hU], by rw [hU]; exact hPc, kk_mv hW hK, hDw⟩⟩ rfl rfl hl.1 rfl (lv_room (Nat.le_of_ble_eq_true rfl)) dB_3_1_16.2.2.1.1 ⟨Nat.le_of_ble_eq_true rfl, Nat.le_of_ble_eq_true rfl⟩) hS (fun q _ h => hFc q h) hFc (fun r_63 u t H locs ht hvm hw hB hz1 hk1 hS => ?_)
                  have hP : va_P D vwCl _ H := ro_keep hP hk1
                  obtain ⟨f0_r_63, f1_r_63⟩ := hw
                  refine lv_aload_n hx hb dB_3_1_16.2.2.1.2 rfl (lv_at hl 1 rfl) ?_
                  refine va_get (ci := 12) (v := .int o27_1) (C := RX12) (T := TX12) (N := 34) hx hb hts (fun _ h => List.mem_cons_of_mem _ (List.mem_append_right _ h)) hown hK.1 hP 0 rfl rfl 27 (by decide) (hts (.fieldLink RX12 198 "CutAtlasModel" "far" "I") (List.mem_of_getElem? (i := 3) rfl)) (fun _ h9 => h9) rfl dB_3_1_16.2.2.2.1 ?_
                  refine ct_R hP hD [] [] (by decide) rfl (fun hPc hDw => ?_)
                  have hFc := va_free (wc := []) hD hS hA [] rfl
                  refine va_calli (va_runS (As := [.int o27_1]) (rest := [.int r_63, .ref mo]) ⟨hx, hb, hml, hown, hts⟩ (c_X12_bitsOf2 l D cy H.size o27_1) (va_cwS 1 hts gX12_cutsOf_X12_bitsOf rfl rfl rfl hd_X12_bitsOf ⟨Nat.le_of_ble_eq_true rfl, Nat.le_of_ble_eq_true rfl⟩) ⟨bl_, fun U hU hW => ⟨rfl, by rw [hU], by rw [hU]; exact hPc, kk_mv hW hK, hDw⟩⟩ rfl rfl hl.1 rfl (lv_room (Nat.le_of_ble_eq_true rfl)) dB_3_1_16.2.2.2.2 ⟨Nat.le_of_ble_eq_true rfl, Nat.le_of_ble_eq_true rfl⟩) hS (fun q _ h => hFc q h) hFc (fun r_64 u t H locs ht hvm hw hB hz1 hk1 hS => ?_)
                  have hP : va_P D vwCl _ H := ro_keep hP hk1
                  obtain ⟨f0_r_64, f1_r_64⟩ := hw
                  refine lv_icmp_le (tgt := 133) hx hb dB_3_1_17.1.1.1.1 (by decide) (fun c_65 => ?_) (fun c_65 => ?_)
                  · have t_65 : r_63.toInt ≤ r_64.toInt := Int32.le_iff_toInt_le.mp c_65
                    refine lv_aload_n hx hb dB_3_1_17.1.1.2.2 rfl (lv_at hl 1 rfl) ?_
                    refine va_get (ci := 12) (v := .int o27_1) (C := RX12) (T := TX12) (N := 34) hx hb hts (fun _ h => List.mem_cons_of_mem _ (List.mem_append_right _ h)) hown hK.1 hP 0 rfl rfl 27 (by decide) (hts (.fieldLink RX12 198 "CutAtlasModel" "far" "I") (List.mem_of_getElem? (i := 3) rfl)) (fun _ h9 => h9) rfl dB_3_1_17.1.2.1.1 ?_
                    refine va_put (ci := 12) (v := .int o27_1) (ty := .int) (C := RX12) (T := TX12) (N := 34) hx hb hts (fun _ h => List.mem_cons_of_mem _ (List.mem_append_right _ h)) tyX12 tyX12_ok nmX12 hown hK.1 hP hD hS 0 rfl rfl 27 (by decide) (hts (.fieldLink RX12 198 "CutAtlasModel" "far" "I") (List.mem_of_getElem? (i := 3) rfl)) (fun _ h9 => h9) rfl (by decide +kernel) rfl rfl (Nat.le_of_ble_eq_true rfl) dB_3_1_17.1.2.1.2 (fun H locs hP hD hS => ?_)
                    refine pd_K [ob12_0_ mo s0 s1 t2 s3 s4 g5 g6 g7 g8 g9 g10 s11 g12 g13 g14 g15 g16 g17 g18 g19 g20 s21 g22 g23 g24 o25_1 x5_1 o27_1 o28_1 g29 g30 g31 g32 g33, ai_ cy g5 40 f5, ai_ cy g6 40 f6, ai_ cy g7 40 f7, ai_ cy g8 40 f8, az_ cy g10 40 f10] hP hD (fun hP hD => ?_)
                    refine lv_aload_n hx hb dB_3_1_17.1.2.2.1 rfl (lv_at hl 1 rfl) ?_
                    refine lv_aload_n hx hb dB_3_1_17.1.2.2.2 rfl (lv_at hl 1 rfl) ?_
                    refine va_get (ci := 12) (v := .int o25_1) (C := RX12) (T := TX12) (N := 34) hx hb hts (fun _ h => List.mem_cons_of_mem _ (List.mem_append_right _ h)) hown hK.1 hP 0 rfl rfl 25 (by decide) (hts (.fieldLink RX12 192 "CutAtlasModel" "cuts" "I") (List.mem_of_getElem? (i := 1) rfl)) (fun _ h9 => h9) rfl dB_3_1_17.2.1.1.1 ?_
                    refine lv_iload hx hb dB_3_1_17.2.1.1.2 (lv_at hl 5 rfl) ?_
                    refine lv_icmp_ne (tgt := 155) hx hb dB_3_1_17.2.1.2.1 (by decide) (fun c_66 => ?_) (fun c_66 => ?_)
                    · have t_66 : ¬ o25_1.toInt = a4.toInt := fun h => c_66 (Int32.toInt_inj.mp h)
                      refine lv_aload_n hx hb dB_3_1_17.2.2.1.2 rfl (lv_at hl 1 rfl) ?_
                      refine va_get (ci := 12) (v := .int o28_1) (C := RX12) (T := TX12) (N := 34) hx hb hts (fun _ h => List.mem_cons_of_mem _ (List.mem_append_right _ h)) hown hK.1 hP 0 rfl rfl 28 (by decide) (hts (.fieldLink RX12 201 "CutAtlasModel" "chosen" "I") (List.mem_of_getElem? (i := 4) rfl)) (fun _ h9 => h9) rfl dB_3_1_17.2.2.2.1 ?_
                      refine va_put (ci := 12) (v := .int o28_1) (ty := .int) (C := RX12) (T := TX12) (N := 34) hx hb hts (fun _ h => List.mem_cons_of_mem _ (List.mem_append_right _ h)) tyX12 tyX12_ok nmX12 hown hK.1 hP hD hS 0 rfl rfl 28 (by decide) (hts (.fieldLink RX12 201 "CutAtlasModel" "chosen" "I") (List.mem_of_getElem? (i := 4) rfl)) (fun _ h9 => h9) rfl (by decide +kernel) rfl rfl (Nat.le_of_ble_eq_true rfl) dB_3_1_17.2.2.2.2 (fun H locs hP hD hS => ?_)
                      refine pd_K [ob12_0_ mo s0 s1 t2 s3 s4 g5 g6 g7 g8 g9 g10 s11 g12 g13 g14 g15 g16 g17 g18 g19 g20 s21 g22 g23 g24 o25_1 x5_1 o27_1 o28_1 g29 g30 g31 g32 g33, ai_ cy g5 40 f5, ai_ cy g6 40 f6, ai_ cy g7 40 f7, ai_ cy g8 40 f8, az_ cy g10 40 f10] hP hD (fun hP hD => ?_)
                      refine lv_aload_n hx hb dB_3_1_18.1.1.1 rfl (lv_at hl 1 rfl) ?_
                      refine lv_dup hx hb dB_3_1_18.1.1.2 rfl ?_
                      refine va_get (ci := 12) (v := .int o25_1) (C := RX12) (T := TX12) (N := 34) hx hb hts (fun _ h => List.mem_cons_of_mem _ (List.mem_append_right _ h)) hown hK.1 hP 0 rfl rfl 25 (by decide) (hts (.fieldLink RX12 192 "CutAtlasModel" "cuts" "I") (List.mem_of_getElem? (i := 1) rfl)) (fun _ h9 => h9) rfl dB_3_1_18.1.2.1 ?_
                      refine lv_iconst (v := 1) hx hb dB_3_1_18.1.2.2 (by decide) ?_
                      refine lv_iadd hx hb dB_3_1_18.2.1.1 ?_
                      refine lv_topi (fun y_67 ey_67 => ?_)
                      have ty_67 : y_67.toInt = o25_1.toInt + (1 : Int32).toInt := by rw [ey_67]; exact addI (by omega) (by omega)
                      refine va_put (ci := 12) (v := .int y_67) (ty := .int) (C := RX12) (T := TX12) (N := 34) hx hb hts (fun _ h => List.mem_cons_of_mem _ (List.mem_append_right _ h)) tyX12 tyX12_ok nmX12 hown hK.1 hP hD hS 0 rfl rfl 25 (by decide) (hts (.fieldLink RX12 192 "CutAtlasModel" "cuts" "I") (List.mem_of_getElem? (i := 1) rfl)) (fun _ h9 => h9) rfl (by decide +kernel) rfl rfl (Nat.le_of_ble_eq_true rfl) dB_3_1_18.2.1.2 (fun H locs hP hD hS => ?_)
                      refine pd_K [ob12_0_ mo s0 s1 t2 s3 s4 g5 g6 g7 g8 g9 g10 s11 g12 g13 g14 g15 g16 g17 g18 g19 g20 s21 g22 g23 g24 y_67 x5_1 o27_1 o28_1 g29 g30 g31 g32 g33, ai_ cy g5 40 f5, ai_ cy g6 40 f6, ai_ cy g7 40 f7, ai_ cy g8 40 f8, az_ cy g10 40 f10] hP hD (fun hP hD => ?_)
                      obtain ⟨y_68, ey_68⟩ : ∃ y : Int32, y = x5_1 + 1 := ⟨_, rfl⟩
                      have ty_68 : y_68.toInt = x5_1.toInt + (1 : Int32).toInt := by rw [ey_68]; exact addI (by omega) (by omega)
                      refine lv_iinc (v := y_68) (lv' := [(5, .int y_68), (0, .ref mo), (1, .int a1), (2, .int a2), (3, .int a3), (4, .int a4)]) hx hb dB_3_1_18.2.2.1 hl (k := 0) rfl (by rw [ey_68]; rfl) (by decide) rfl (fun ls hl => ?_)
                      refine lv_goto (tgt := 26) hx hb dB_3_1_18.2.2.2.1 (by decide) ?_
                      exact ih_1 y_68 y_67 x5_1 o27_1 o28_1 _ _ _ (by omega) (by first | with_reducible assumption | omega | assumption) (by first | with_reducible assumption | omega | assumption) (by first | exact ctsW_0 (by omega) | exact ctsW_no v2_1 (by omega) (by omega) (refP_f (Or.inl (bt_fl hbs_ (by omega))) (by omega)) | exact ctsW_no v2_1 (by omega) (by omega) (refP_f (Or.inr (Or.inl (bt_nz hbt_ (by omega)))) (by omega)) | exact ctsW_no v2_1 (by omega) (by omega) (refP_f (Or.inr (Or.inr (fun h => absurd (hsz_.trans h) (by omega)))) (by omega)) | exact ctsW_st v2_1 (by omega) (by omega) (refP_t (b_tr hbs_ (by omega)) (bt_fl hbt_ (by omega)) (hsz_.symm.trans (by omega)) (by omega)) (by omega) (by first | exact Or.inl ⟨rfl, by omega⟩ | exact Or.inr ⟨rfl, by omega, by omega⟩) (by first | exact Or.inl ⟨rfl, by omega⟩ | exact Or.inr ⟨rfl, by omega, by omega⟩) (by first | exact Or.inl ⟨rfl, by omega⟩ | exact Or.inr ⟨rfl, by omega⟩) (by omega)) (by first | omega | exact Int.natCast_nonneg _) (by first | with_reducible assumption | omega | assumption) ⟨hP, hD⟩ hS (lv_sub hl [0, 1, 2, 3, 4, 5] rfl)
                    · have t_66 : o25_1.toInt = a4.toInt := congrArg Int32.toInt c_66
                      refine lv_iload hx hb dB_3_1_17.2.1.2.2 (lv_at hl 0 rfl) ?_
                      refine lv_goto (tgt := 159) hx hb dB_3_1_17.2.2.1.1 (by decide) ?_
                      refine va_put (ci := 12) (v := .int x5_1) (ty := .int) (C := RX12) (T := TX12) (N := 34) hx hb hts (fun _ h => List.mem_cons_of_mem _ (List.mem_append_right _ h)) tyX12 tyX12_ok nmX12 hown hK.1 hP hD hS 0 rfl rfl 28 (by decide) (hts (.fieldLink RX12 201 "CutAtlasModel" "chosen" "I") (List.mem_of_getElem? (i := 4) rfl)) (fun _ h9 => h9) rfl (by decide +kernel) rfl rfl (Nat.le_of_ble_eq_true rfl) dB_3_1_17.2.2.2.2 (fun H locs hP hD hS => ?_)
                      refine pd_K [ob12_0_ mo s0 s1 t2 s3 s4 g5 g6 g7 g8 g9 g10 s11 g12 g13 g14 g15 g16 g17 g18 g19 g20 s21 g22 g23 g24 o25_1 x5_1 o27_1 x5_1 g29 g30 g31 g32 g33, ai_ cy g5 40 f5, ai_ cy g6 40 f6, ai_ cy g7 40 f7, ai_ cy g8 40 f8, az_ cy g10 40 f10] hP hD (fun hP hD => ?_)
                      refine lv_aload_n hx hb dB_3_1_18.1.1.1 rfl (lv_at hl 1 rfl) ?_
                      refine lv_dup hx hb dB_3_1_18.1.1.2 rfl ?_
                      refine va_get (ci := 12) (v := .int o25_1) (C := RX12) (T := TX12) (N := 34) hx hb hts (fun _ h => List.mem_cons_of_mem _ (List.mem_append_right _ h)) hown hK.1 hP 0 rfl rfl 25 (by decide) (hts (.fieldLink RX12 192 "CutAtlasModel" "cuts" "I") (List.mem_of_getElem? (i := 1) rfl)) (fun _ h9 => h9) rfl dB_3_1_18.1.2.1 ?_
                      refine lv_iconst (v := 1) hx hb dB_3_1_18.1.2.2 (by decide) ?_
                      refine lv_iadd hx hb dB_3_1_18.2.1.1 ?_
                      refine lv_topi (fun y_69 ey_69 => ?_)
                      have ty_69 : y_69.toInt = o25_1.toInt + (1 : Int32).toInt := by rw [ey_69]; exact addI (by omega) (by omega)
                      refine va_put (ci := 12) (v := .int y_69) (ty := .int) (C := RX12) (T := TX12) (N := 34) hx hb hts (fun _ h => List.mem_cons_of_mem _ (List.mem_append_right _ h)) tyX12 tyX12_ok nmX12 hown hK.1 hP hD hS 0 rfl rfl 25 (by decide) (hts (.fieldLink RX12 192 "CutAtlasModel" "cuts" "I") (List.mem_of_getElem? (i := 1) rfl)) (fun _ h9 => h9) rfl (by decide +kernel) rfl rfl (Nat.le_of_ble_eq_true rfl) dB_3_1_18.2.1.2 (fun H locs hP hD hS => ?_)
                      refine pd_K [ob12_0_ mo s0 s1 t2 s3 s4 g5 g6 g7 g8 g9 g10 s11 g12 g13 g14 g15 g16 g17 g18 g19 g20 s21 g22 g23 g24 y_69 x5_1 o27_1 x5_1 g29 g30 g31 g32 g33, ai_ cy g5 40 f5, ai_ cy g6 40 f6, ai_ cy g7 40 f7, ai_ cy g8 40 f8, az_ cy g10 40 f10] hP hD (fun hP hD => ?_)
                      obtain ⟨y_70, ey_70⟩ : ∃ y : Int32, y = x5_1 + 1 := ⟨_, rfl⟩
                      have ty_70 : y_70.toInt = x5_1.toInt + (1 : Int32).toInt := by rw [ey_70]; exact addI (by omega) (by omega)
                      refine lv_iinc (v := y_70) (lv' := [(5, .int y_70), (0, .ref mo), (1, .int a1), (2, .int a2), (3, .int a3), (4, .int a4)]) hx hb dB_3_1_18.2.2.1 hl (k := 0) rfl (by rw [ey_70]; rfl) (by decide) rfl (fun ls hl => ?_)
                      refine lv_goto (tgt := 26) hx hb dB_3_1_18.2.2.2.1 (by decide) ?_
                      exact ih_1 y_70 y_69 x5_1 o27_1 x5_1 _ _ _ (by omega) (by first | with_reducible assumption | omega | assumption) (by first | with_reducible assumption | omega | assumption) (by first | exact ctsW_0 (by omega) | exact ctsW_no v2_1 (by omega) (by omega) (refP_f (Or.inl (bt_fl hbs_ (by omega))) (by omega)) | exact ctsW_no v2_1 (by omega) (by omega) (refP_f (Or.inr (Or.inl (bt_nz hbt_ (by omega)))) (by omega)) | exact ctsW_no v2_1 (by omega) (by omega) (refP_f (Or.inr (Or.inr (fun h => absurd (hsz_.trans h) (by omega)))) (by omega)) | exact ctsW_st v2_1 (by omega) (by omega) (refP_t (b_tr hbs_ (by omega)) (bt_fl hbt_ (by omega)) (hsz_.symm.trans (by omega)) (by omega)) (by omega) (by first | exact Or.inl ⟨rfl, by omega⟩ | exact Or.inr ⟨rfl, by omega, by omega⟩) (by first | exact Or.inl ⟨rfl, by omega⟩ | exact Or.inr ⟨rfl, by omega, by omega⟩) (by first | exact Or.inl ⟨rfl, by omega⟩ | exact Or.inr ⟨rfl, by omega⟩) (by omega)) (by first | omega | exact Int.natCast_nonneg _) (by first | with_reducible assumption | omega | assumption) ⟨hP, hD⟩ hS (lv_sub hl [0, 1, 2, 3, 4, 5] rfl)
                  · have t_65 : ¬ r_63.toInt ≤ r_64.toInt := fun h => c_65 (Int32.le_iff_toInt_le.mpr h)
                    refine lv_iload hx hb dB_3_1_17.1.1.1.2 (lv_at hl 0 rfl) ?_
                    refine lv_goto (tgt := 137) hx hb dB_3_1_17.1.1.2.1 (by decide) ?_
                    refine va_put (ci := 12) (v := .int x5_1) (ty := .int) (C := RX12) (T := TX12) (N := 34) hx hb hts (fun _ h => List.mem_cons_of_mem _ (List.mem_append_right _ h)) tyX12 tyX12_ok nmX12 hown hK.1 hP hD hS 0 rfl rfl 27 (by decide) (hts (.fieldLink RX12 198 "CutAtlasModel" "far" "I") (List.mem_of_getElem? (i := 3) rfl)) (fun _ h9 => h9) rfl (by decide +kernel) rfl rfl (Nat.le_of_ble_eq_true rfl) dB_3_1_17.1.2.1.2 (fun H locs hP hD hS => ?_)
                    refine pd_K [ob12_0_ mo s0 s1 t2 s3 s4 g5 g6 g7 g8 g9 g10 s11 g12 g13 g14 g15 g16 g17 g18 g19 g20 s21 g22 g23 g24 o25_1 x5_1 x5_1 o28_1 g29 g30 g31 g32 g33, ai_ cy g5 40 f5, ai_ cy g6 40 f6, ai_ cy g7 40 f7, ai_ cy g8 40 f8, az_ cy g10 40 f10] hP hD (fun hP hD => ?_)
                    refine lv_aload_n hx hb dB_3_1_17.1.2.2.1 rfl (lv_at hl 1 rfl) ?_
                    refine lv_aload_n hx hb dB_3_1_17.1.2.2.2 rfl (lv_at hl 1 rfl) ?_
                    refine va_get (ci := 12) (v := .int o25_1) (C := RX12) (T := TX12) (N := 34) hx hb hts (fun _ h => List.mem_cons_of_mem _ (List.mem_append_right _ h)) hown hK.1 hP 0 rfl rfl 25 (by decide) (hts (.fieldLink RX12 192 "CutAtlasModel" "cuts" "I") (List.mem_of_getElem? (i := 1) rfl)) (fun _ h9 => h9) rfl dB_3_1_17.2.1.1.1 ?_
                    refine lv_iload hx hb dB_3_1_17.2.1.1.2 (lv_at hl 5 rfl) ?_
                    refine lv_icmp_ne (tgt := 155) hx hb dB_3_1_17.2.1.2.1 (by decide) (fun c_71 => ?_) (fun c_71 => ?_)
                    · have t_71 : ¬ o25_1.toInt = a4.toInt := fun h => c_71 (Int32.toInt_inj.mp h)
                      refine lv_aload_n hx hb dB_3_1_17.2.2.1.2 rfl (lv_at hl 1 rfl) ?_
                      refine va_get (ci := 12) (v := .int o28_1) (C := RX12) (T := TX12) (N := 34) hx hb hts (fun _ h => List.mem_cons_of_mem _ (List.mem_append_right _ h)) hown hK.1 hP 0 rfl rfl 28 (by decide) (hts (.fieldLink RX12 201 "CutAtlasModel" "chosen" "I") (List.mem_of_getElem? (i := 4) rfl)) (fun _ h9 => h9) rfl dB_3_1_17.2.2.2.1 ?_
                      refine va_put (ci := 12) (v := .int o28_1) (ty := .int) (C := RX12) (T := TX12) (N := 34) hx hb hts (fun _ h => List.mem_cons_of_mem _ (List.mem_append_right _ h)) tyX12 tyX12_ok nmX12 hown hK.1 hP hD hS 0 rfl rfl 28 (by decide) (hts (.fieldLink RX12 201 "CutAtlasModel" "chosen" "I") (List.mem_of_getElem? (i := 4) rfl)) (fun _ h9 => h9) rfl (by decide +kernel) rfl rfl (Nat.le_of_ble_eq_true rfl) dB_3_1_17.2.2.2.2 (fun H locs hP hD hS => ?_)
                      refine pd_K [ob12_0_ mo s0 s1 t2 s3 s4 g5 g6 g7 g8 g9 g10 s11 g12 g13 g14 g15 g16 g17 g18 g19 g20 s21 g22 g23 g24 o25_1 x5_1 x5_1 o28_1 g29 g30 g31 g32 g33, ai_ cy g5 40 f5, ai_ cy g6 40 f6, ai_ cy g7 40 f7, ai_ cy g8 40 f8, az_ cy g10 40 f10] hP hD (fun hP hD => ?_)
                      refine lv_aload_n hx hb dB_3_1_18.1.1.1 rfl (lv_at hl 1 rfl) ?_
                      refine lv_dup hx hb dB_3_1_18.1.1.2 rfl ?_
                      refine va_get (ci := 12) (v := .int o25_1) (C := RX12) (T := TX12) (N := 34) hx hb hts (fun _ h => List.mem_cons_of_mem _ (List.mem_append_right _ h)) hown hK.1 hP 0 rfl rfl 25 (by decide) (hts (.fieldLink RX12 192 "CutAtlasModel" "cuts" "I") (List.mem_of_getElem? (i := 1) rfl)) (fun _ h9 => h9) rfl dB_3_1_18.1.2.1 ?_
                      refine lv_iconst (v := 1) hx hb dB_3_1_18.1.2.2 (by decide) ?_
                      refine lv_iadd hx hb dB_3_1_18.2.1.1 ?_
                      refine lv_topi (fun y_72 ey_72 => ?_)
                      have ty_72 : y_72.toInt = o25_1.toInt + (1 : Int32).toInt := by rw [ey_72]; exact addI (by omega) (by omega)
                      refine va_put (ci := 12) (v := .int y_72) (ty := .int) (C := RX12) (T := TX12) (N := 34) hx hb hts (fun _ h => List.mem_cons_of_mem _ (List.mem_append_right _ h)) tyX12 tyX12_ok nmX12 hown hK.1 hP hD hS 0 rfl rfl 25 (by decide) (hts (.fieldLink RX12 192 "CutAtlasModel" "cuts" "I") (List.mem_of_getElem? (i := 1) rfl)) (fun _ h9 => h9) rfl (by decide +kernel) rfl rfl (Nat.le_of_ble_eq_true rfl) dB_3_1_18.2.1.2 (fun H locs hP hD hS => ?_)
                      refine pd_K [ob12_0_ mo s0 s1 t2 s3 s4 g5 g6 g7 g8 g9 g10 s11 g12 g13 g14 g15 g16 g17 g18 g19 g20 s21 g22 g23 g24 y_72 x5_1 x5_1 o28_1 g29 g30 g31 g32 g33, ai_ cy g5 40 f5, ai_ cy g6 40 f6, ai_ cy g7 40 f7, ai_ cy g8 40 f8, az_ cy g10 40 f10] hP hD (fun hP hD => ?_)
                      obtain ⟨y_73, ey_73⟩ : ∃ y : Int32, y = x5_1 + 1 := ⟨_, rfl⟩
                      have ty_73 : y_73.toInt = x5_1.toInt + (1 : Int32).toInt := by rw [ey_73]; exact addI (by omega) (by omega)
                      refine lv_iinc (v := y_73) (lv' := [(5, .int y_73), (0, .ref mo), (1, .int a1), (2, .int a2), (3, .int a3), (4, .int a4)]) hx hb dB_3_1_18.2.2.1 hl (k := 0) rfl (by rw [ey_73]; rfl) (by decide) rfl (fun ls hl => ?_)
                      refine lv_goto (tgt := 26) hx hb dB_3_1_18.2.2.2.1 (by decide) ?_
                      exact ih_1 y_73 y_72 x5_1 x5_1 o28_1 _ _ _ (by omega) (by first | with_reducible assumption | omega | assumption) (by first | with_reducible assumption | omega | assumption) (by first | exact ctsW_0 (by omega) | exact ctsW_no v2_1 (by omega) (by omega) (refP_f (Or.inl (bt_fl hbs_ (by omega))) (by omega)) | exact ctsW_no v2_1 (by omega) (by omega) (refP_f (Or.inr (Or.inl (bt_nz hbt_ (by omega)))) (by omega)) | exact ctsW_no v2_1 (by omega) (by omega) (refP_f (Or.inr (Or.inr (fun h => absurd (hsz_.trans h) (by omega)))) (by omega)) | exact ctsW_st v2_1 (by omega) (by omega) (refP_t (b_tr hbs_ (by omega)) (bt_fl hbt_ (by omega)) (hsz_.symm.trans (by omega)) (by omega)) (by omega) (by first | exact Or.inl ⟨rfl, by omega⟩ | exact Or.inr ⟨rfl, by omega, by omega⟩) (by first | exact Or.inl ⟨rfl, by omega⟩ | exact Or.inr ⟨rfl, by omega, by omega⟩) (by first | exact Or.inl ⟨rfl, by omega⟩ | exact Or.inr ⟨rfl, by omega⟩) (by omega)) (by first | omega | exact Int.natCast_nonneg _) (by first | with_reducible assumption | omega | assumption) ⟨hP, hD⟩ hS (lv_sub hl [0, 1, 2, 3, 4, 5] rfl)
                    · have t_71 : o25_1.toInt = a4.toInt := congrArg Int32.toInt c_71
                      refine lv_iload hx hb dB_3_1_17.2.1.2.2 (lv_at hl 0 rfl) ?_
                      refine lv_goto (tgt := 159) hx hb dB_3_1_17.2.2.1.1 (by decide) ?_
                      refine va_put (ci := 12) (v := .int x5_1) (ty := .int) (C := RX12) (T := TX12) (N := 34) hx hb hts (fun _ h => List.mem_cons_of_mem _ (List.mem_append_right _ h)) tyX12 tyX12_ok nmX12 hown hK.1 hP hD hS 0 rfl rfl 28 (by decide) (hts (.fieldLink RX12 201 "CutAtlasModel" "chosen" "I") (List.mem_of_getElem? (i := 4) rfl)) (fun _ h9 => h9) rfl (by decide +kernel) rfl rfl (Nat.le_of_ble_eq_true rfl) dB_3_1_17.2.2.2.2 (fun H locs hP hD hS => ?_)
                      refine pd_K [ob12_0_ mo s0 s1 t2 s3 s4 g5 g6 g7 g8 g9 g10 s11 g12 g13 g14 g15 g16 g17 g18 g19 g20 s21 g22 g23 g24 o25_1 x5_1 x5_1 x5_1 g29 g30 g31 g32 g33, ai_ cy g5 40 f5, ai_ cy g6 40 f6, ai_ cy g7 40 f7, ai_ cy g8 40 f8, az_ cy g10 40 f10] hP hD (fun hP hD => ?_)
                      refine lv_aload_n hx hb dB_3_1_18.1.1.1 rfl (lv_at hl 1 rfl) ?_
                      refine lv_dup hx hb dB_3_1_18.1.1.2 rfl ?_
                      refine va_get (ci := 12) (v := .int o25_1) (C := RX12) (T := TX12) (N := 34) hx hb hts (fun _ h => List.mem_cons_of_mem _ (List.mem_append_right _ h)) hown hK.1 hP 0 rfl rfl 25 (by decide) (hts (.fieldLink RX12 192 "CutAtlasModel" "cuts" "I") (List.mem_of_getElem? (i := 1) rfl)) (fun _ h9 => h9) rfl dB_3_1_18.1.2.1 ?_
                      refine lv_iconst (v := 1) hx hb dB_3_1_18.1.2.2 (by decide) ?_
                      refine lv_iadd hx hb dB_3_1_18.2.1.1 ?_
                      refine lv_topi (fun y_74 ey_74 => ?_)
                      have ty_74 : y_74.toInt = o25_1.toInt + (1 : Int32).toInt := by rw [ey_74]; exact addI (by omega) (by omega)
                      refine va_put (ci := 12) (v := .int y_74) (ty := .int) (C := RX12) (T := TX12) (N := 34) hx hb hts (fun _ h => List.mem_cons_of_mem _ (List.mem_append_right _ h)) tyX12 tyX12_ok nmX12 hown hK.1 hP hD hS 0 rfl rfl 25 (by decide) (hts (.fieldLink RX12 192 "CutAtlasModel" "cuts" "I") (List.mem_of_getElem? (i := 1) rfl)) (fun _ h9 => h9) rfl (by decide +kernel) rfl rfl (Nat.le_of_ble_eq_true rfl) dB_3_1_18.2.1.2 (fun H locs hP hD hS => ?_)
                      refine pd_K [ob12_0_ mo s0 s1 t2 s3 s4 g5 g6 g7 g8 g9 g10 s11 g12 g13 g14 g15 g16 g17 g18 g19 g20 s21 g22 g23 g24 y_74 x5_1 x5_1 x5_1 g29 g30 g31 g32 g33, ai_ cy g5 40 f5, ai_ cy g6 40 f6, ai_ cy g7 40 f7, ai_ cy g8 40 f8, az_ cy g10 40 f10] hP hD (fun hP hD => ?_)
                      obtain ⟨y_75, ey_75⟩ : ∃ y : Int32, y = x5_1 + 1 := ⟨_, rfl⟩
                      have ty_75 : y_75.toInt = x5_1.toInt + (1 : Int32).toInt := by rw [ey_75]; exact addI (by omega) (by omega)
                      refine lv_iinc (v := y_75) (lv' := [(5, .int y_75), (0, .ref mo), (1, .int a1), (2, .int a2), (3, .int a3), (4, .int a4)]) hx hb dB_3_1_18.2.2.1 hl (k := 0) rfl (by rw [ey_75]; rfl) (by decide) rfl (fun ls hl => ?_)
                      refine lv_goto (tgt := 26) hx hb dB_3_1_18.2.2.2.1 (by decide) ?_
                      exact ih_1 y_75 y_74 x5_1 x5_1 x5_1 _ _ _ (by omega) (by first | with_reducible assumption | omega | assumption) (by first | with_reducible assumption | omega | assumption) (by first | exact ctsW_0 (by omega) | exact ctsW_no v2_1 (by omega) (by omega) (refP_f (Or.inl (bt_fl hbs_ (by omega))) (by omega)) | exact ctsW_no v2_1 (by omega) (by omega) (refP_f (Or.inr (Or.inl (bt_nz hbt_ (by omega)))) (by omega)) | exact ctsW_no v2_1 (by omega) (by omega) (refP_f (Or.inr (Or.inr (fun h => absurd (hsz_.trans h) (by omega)))) (by omega)) | exact ctsW_st v2_1 (by omega) (by omega) (refP_t (b_tr hbs_ (by omega)) (bt_fl hbt_ (by omega)) (hsz_.symm.trans (by omega)) (by omega)) (by omega) (by first | exact Or.inl ⟨rfl, by omega⟩ | exact Or.inr ⟨rfl, by omega, by omega⟩) (by first | exact Or.inl ⟨rfl, by omega⟩ | exact Or.inr ⟨rfl, by omega, by omega⟩) (by first | exact Or.inl ⟨rfl, by omega⟩ | exact Or.inr ⟨rfl, by omega⟩) (by omega)) (by first | omega | exact Int.natCast_nonneg _) (by first | with_reducible assumption | omega | assumption) ⟨hP, hD⟩ hS (lv_sub hl [0, 1, 2, 3, 4, 5] rfl)

set_option maxHeartbeats 4000000 in
set_option maxRecDepth 100000 in
theorem c_X12_cut2 (l : Launch) (D : va_G) (cy : Nat → ClassId) (sz : Nat) (mo : Nat) (g5 : Nat) (g6 : Nat) (g7 : Nat) (g8 : Nat) (g9 : Nat) (g10 : Nat) (g12 : Nat) (g13 : Nat) (g14 : Nat) (g15 : Nat) (g16 : Nat) (g17 : Nat) (g18 : Nat) (g19 : Nat) (g20 : Nat) (g22 : Nat) (g23 : Nat) (g24 : Nat) (g29 : Nat) (g30 : Nat) (g31 : Nat) (g32 : Nat) (g33 : Nat) (s0 : Int32) (s1 : Int32) (s3 : Int32) (s4 : Int32) (s11 : Int32) (s21 : Int32) (s25 : Int32) (s26 : Int32) (s27 : Int32) (s28 : Int32) (t2 : Int64) (f5 : Nat → Int32) (f6 : Nat → Int32) (f7 : Nat → Int32) (f8 : Nat → Int32) (f10 : Nat → Int32) (a1 : Int32) (a2 : Int32) (a3 : Int32) (hN : 0 ≤ s4.toInt ∧ s4.toInt ≤ 40) (hPl : 0 ≤ s3.toInt ∧ s3.toInt ≤ 12) (h21 : s21 = (-9)) (hnet : netE s3.toInt s4.toInt f6 f7 f10) (r_f6 : rng f6 40 (0) (11)) (r_f7 : rng f7 40 (0) (11)) (r_f8 : rng f8 40 (0) (2000)) : Met l yX12_cut wsX12_cut ({ frames := 4, cells := 0, slots := 0, locals := 96 }) (va_Pc [.ref mo, .int a1, .int a2, .int a3] (fun U => U.heap.size = sz ∧ va_P D vwCl [ob12_0_ mo s0 s1 t2 s3 s4 g5 g6 g7 g8 g9 g10 s11 g12 g13 g14 g15 g16 g17 g18 g19 g20 s21 g22 g23 g24 s25 s26 s27 s28 g29 g30 g31 g32 g33, ai_ cy g5 40 f5, ai_ cy g6 40 f6, ai_ cy g7 40 f7, ai_ cy g8 40 f8, az_ cy g10 40 f10] U.heap ∧ kk_ D cy U ∧ va_D (fun _ => True) [ob12_0_ mo s0 s1 t2 s3 s4 g5 g6 g7 g8 g9 g10 s11 g12 g13 g14 g15 g16 g17 g18 g19 g20 s21 g22 g23 g24 s25 s26 s27 s28 g29 g30 g31 g32 g33, ai_ cy g5 40 f5, ai_ cy g6 40 f6, ai_ cy g7 40 f7, ai_ cy g8 40 f8, az_ cy g10 40 f10])) (va_Qi (fun (r : Int32) (_ : Unit) => ((ctI a1.toInt a2.toInt a3.toInt s3.toInt = 0 → ctB (cutR f5 f6 f7 f8 f10 (-9) s4.toNatClampNeg) a1.toNatClampNeg a2.toNatClampNeg s3.toNatClampNeg a3.toInt r) ∧ (ctI a1.toInt a2.toInt a3.toInt s3.toInt ≠ 0 → r.toInt = -1))) (fun (_ : Unit) (t : State) => ∃ (n25 : Int32), ∃ (n26 : Int32), ∃ (n27 : Int32), ∃ (n28 : Int32), va_P D vwCl [ob12_0_ mo 0 s1 t2 s3 s4 g5 g6 g7 g8 g9 g10 s11 g12 g13 g14 g15 g16 g17 g18 g19 g20 s21 g22 g23 g24 n25 n26 n27 n28 g29 g30 g31 g32 g33, ai_ cy g5 40 f5, ai_ cy g6 40 f6, ai_ cy g7 40 f7, ai_ cy g8 40 f8, az_ cy g10 40 f10] t.heap ∧ va_D (va_A [ob12_0_ mo s0 s1 t2 s3 s4 g5 g6 g7 g8 g9 g10 s11 g12 g13 g14 g15 g16 g17 g18 g19 g20 s21 g22 g23 g24 s25 s26 s27 s28 g29 g30 g31 g32 g33, ai_ cy g5 40 f5, ai_ cy g6 40 f6, ai_ cy g7 40 f7, ai_ cy g8 40 f8, az_ cy g10 40 f10] sz) [ob12_0_ mo 0 s1 t2 s3 s4 g5 g6 g7 g8 g9 g10 s11 g12 g13 g14 g15 g16 g17 g18 g19 g20 s21 g22 g23 g24 n25 n26 n27 n28 g29 g30 g31 g32 g33, ai_ cy g5 40 f5, ai_ cy g6 40 f6, ai_ cy g7 40 f7, ai_ cy g8 40 f8, az_ cy g10 40 f10]) (va_A [ob12_0_ mo s0 s1 t2 s3 s4 g5 g6 g7 g8 g9 g10 s11 g12 g13 g14 g15 g16 g17 g18 g19 g20 s21 g22 g23 g24 s25 s26 s27 s28 g29 g30 g31 g32 g33, ai_ cy g5 40 f5, ai_ cy g6 40 f6, ai_ cy g7 40 f7, ai_ cy g8 40 f8, az_ cy g10 40 f10] sz)) 0 0 (va_A [ob12_0_ mo s0 s1 t2 s3 s4 g5 g6 g7 g8 g9 g10 s11 g12 g13 g14 g15 g16 g17 g18 g19 g20 s21 g22 g23 g24 s25 s26 s27 s28 g29 g30 g31 g32 g33, ai_ cy g5 40 f5, ai_ cy g6 40 f6, ai_ cy g7 40 f7, ai_ cy g8 40 f8, az_ cy g10 40 f10] sz) := by
  refine ofQ (cc := cX12_cut) (maxL := 5) (ret := (some .int)) (by decide) rfl ?_
  intro p e s m args below meth c s₁ Q hQ B hml hv
  obtain ⟨rfl, hsz, hP, hK, hD0⟩ := hv
  have hx := B.exec
  have hb := B.bytes
  have hr := B.returns
  have hts := atoms_spec (ws := wsX12_cut) B.pre
  have hown : s.vm.findClass RX12 = some m.cls := by have h_ := findClass_of_methodNamed B.named; exact h_
  have hlocks := B.notSynchronized
  subst hsz
  have hD := hD0.self (sz := s.heap.size)
  generalize hAe : va_A [ob12_0_ mo s0 s1 t2 s3 s4 g5 g6 g7 g8 g9 g10 s11 g12 g13 g14 g15 g16 g17 g18 g19 g20 s21 g22 g23 g24 s25 s26 s27 s28 g29 g30 g31 g32 g33, ai_ cy g5 40 f5, ai_ cy g6 40 f6, ai_ cy g7 40 f7, ai_ cy g8 40 f8, az_ cy g10 40 f10] s.heap.size = A at hD hQ
  have hA : ∀ q : Nat, s.heap.size ≤ q → A q := fun q h => by rw [← hAe]; exact Or.inr h
  have hS : va_S A s.heap s.heap [] := va_S.rf
  have hl := lv_entry ([.ref mo, .int a1, .int a2, .int a3]) (n := 5) (Nat.le_of_ble_eq_true rfl)
  rw [lg_entry_eq]
  generalize (lg_sl ([.ref mo, .int a1, .int a2, .int a3]) ++ List.replicate (5 - (lg_sl ([.ref mo, .int a1, .int a2, .int a3])).length) Slot.unset).toArray = ls at hl ⊢
  have hl : lv_has ls 5 [(0, .ref mo), (1, .int a1), (2, .int a2), (3, .int a3)] := hl
  have zm5 : ((-5) : Int32).toInt = -5 := by decide
  have zm1 : ((-1) : Int32).toInt = -1 := by decide
  have z0 : (0 : Int32).toInt = 0 := by decide
  have zl0 : (0 : Int64).toInt = 0 := by decide
  have zl1 : (1 : Int64).toInt = 1 := by decide
  have z1000000 : (1000000 : Int32).toInt = 1000000 := by decide
  have h21i_ : s21.toInt = -9 := by rw [h21]; decide
  refine lv_aload_n hx hb dB_3_1_10.1.1.1.1 rfl (lv_at hl 0 rfl) ?_
  refine lv_iconst (v := 0) hx hb dB_3_1_10.1.1.1.2 (by decide) ?_
  refine va_put (ci := 12) (v := .int 0) (ty := .int) (C := RX12) (T := TX12) (N := 34) hx hb hts (fun _ h => List.mem_cons_of_mem _ (List.mem_append_right _ h)) tyX12 tyX12_ok nmX12 hown hK.1 hP hD hS 0 rfl rfl 0 (by decide) (hts (.fieldLink RX12 85 "CutAtlasModel" "thrown" "I") (List.mem_of_getElem? (i := 1) rfl)) (fun _ h9 => h9) rfl (by decide +kernel) rfl rfl (Nat.le_of_ble_eq_true rfl) dB_3_1_10.1.1.2.1 (fun H locs hP hD hS => ?_)
  refine pd_K [ob12_0_ mo 0 s1 t2 s3 s4 g5 g6 g7 g8 g9 g10 s11 g12 g13 g14 g15 g16 g17 g18 g19 g20 s21 g22 g23 g24 s25 s26 s27 s28 g29 g30 g31 g32 g33, ai_ cy g5 40 f5, ai_ cy g6 40 f6, ai_ cy g7 40 f7, ai_ cy g8 40 f8, az_ cy g10 40 f10] hP hD (fun hP hD => ?_)
  refine lv_aload_n hx hb dB_3_1_10.1.1.2.2 rfl (lv_at hl 0 rfl) ?_
  refine lv_iload_n hx hb dB_3_1_10.1.2.1.1 rfl (lv_at hl 1 rfl) ?_
  refine lv_iload_n hx hb dB_3_1_10.1.2.1.2 rfl (lv_at hl 2 rfl) ?_
  refine ct_R hP hD [ob12_0_ mo 0 s1 t2 s3 s4 g5 g6 g7 g8 g9 g10 s11 g12 g13 g14 g15 g16 g17 g18 g19 g20 s21 g22 g23 g24 s25 s26 s27 s28 g29 g30 g31 g32 g33] [0] (by decide) rfl (fun hPc hDw => ?_)
  have hFc := va_free (wc := []) hD hS hA [] rfl
  refine va_calli (va_runV (As := [.int a1, .int a2]) (rest := []) ⟨hx, hb, hml, hown, hts⟩ (c_X12_arePlaces l D cy H.size mo g5 g6 g7 g8 g9 g10 g12 g13 g14 g15 g16 g17 g18 g19 g20 g22 g23 g24 g29 g30 g31 g32 g33 (0 : Int32) s1 s3 s4 s11 s21 s25 s26 s27 s28 t2 a1 a2 (by first | with_reducible assumption | omega | assumption)) (cwV 2 hts gX12_cut_X12_arePlaces rfl rfl rfl ⟨rfl, hd_X12_arePlaces⟩ ⟨Nat.le_of_ble_eq_true rfl, Nat.le_of_ble_eq_true rfl⟩) ⟨bl_, va_recvX hK.1 hP (ci := 12) (q0 := 0) rfl rfl, fun U hU hW => ⟨rfl, by rw [hU], by rw [hU]; exact hPc, kk_mv hW hK, hDw⟩⟩ rfl rfl hl.1 rfl (lv_room (Nat.le_of_ble_eq_true rfl)) dB_3_1_10.1.2.2.1 ⟨Nat.le_of_ble_eq_true rfl, Nat.le_of_ble_eq_true rfl⟩) hS (fun q _ h => hFc q h) hFc (fun r_1 u t H locs ht hvm hw hB hz1 hk1 hS => ?_)
  have hP : va_P D vwCl _ H := ro_keep hP hk1
  rcases hw with ⟨w_2, e_⟩ | ⟨w_2, e_⟩
  · have e_ := e_.symm
    subst e_
    refine lv_if_eq (tgt := 24) hx hb dB_3_1_10.1.2.2.2 (by decide) (fun c_3 => ?_) (fun c_3 => ?_)
    · exact absurd c_3 (by decide)
    · have _ := c_3
      refine lv_iload_n hx hb dB_3_1_10.2.1.1.1 rfl (lv_at hl 3 rfl) ?_
      refine lv_i2l (v := a3.toInt64) hx hb dB_3_1_10.2.1.1.2 rfl ?_
      have q_15 : (a3.toInt64).toInt = a3.toInt := Int32.toInt_toInt64 a3
      refine lv_lconst (v := 0) hx hb dB_3_1_10.2.1.2.1 (by decide) ?_
      refine lv_lconst (v := 1) hx hb dB_3_1_10.2.1.2.2 (by decide) ?_
      refine ct_R hP hD [] [] (by decide) rfl (fun hPc hDw => ?_)
      have hFc := va_free (wc := []) hD hS hA [] rfl
      refine va_calli (va_runS (As := [.long a3.toInt64, .long 0, .long 1]) (rest := []) ⟨hx, hb, hml, hown, hts⟩ (c_X12_in l D cy H.size a3.toInt64 (0 : Int64) (1 : Int64)) (va_cwS 3 hts gX12_cut_X12_in rfl rfl rfl hd_X12_in ⟨Nat.le_of_ble_eq_true rfl, Nat.le_of_ble_eq_true rfl⟩) ⟨bl_, fun U hU hW => ⟨rfl, by rw [hU], by rw [hU]; exact hPc, kk_mv hW hK, hDw⟩⟩ rfl rfl hl.1 rfl (lv_room (Nat.le_of_ble_eq_true rfl)) dB_3_1_10.2.2.1.1 ⟨Nat.le_of_ble_eq_true rfl, Nat.le_of_ble_eq_true rfl⟩) hS (fun q _ h => hFc q h) hFc (fun r_4 u t H locs ht hvm hw hB hz1 hk1 hS => ?_)
      have hP : va_P D vwCl _ H := ro_keep hP hk1
      rcases hw with ⟨w_5, e_⟩ | ⟨w_5, e_⟩
      · have e_ := e_.symm
        subst e_
        refine lv_if_ne (tgt := 26) hx hb dB_3_1_10.2.2.1.2 (by decide) (fun c_6 => ?_) (fun c_6 => ?_)
        · have _ := c_6
          refine lv_aload_n hx hb dB_3_1_11.1.1.1.1 rfl (lv_at hl 0 rfl) ?_
          refine lv_iload_n hx hb dB_3_1_11.1.1.1.2 rfl (lv_at hl 1 rfl) ?_
          refine lv_iload_n hx hb dB_3_1_11.1.1.2.1 rfl (lv_at hl 2 rfl) ?_
          refine ct_R hP hD [ob12_0_ mo 0 s1 t2 s3 s4 g5 g6 g7 g8 g9 g10 s11 g12 g13 g14 g15 g16 g17 g18 g19 g20 s21 g22 g23 g24 s25 s26 s27 s28 g29 g30 g31 g32 g33, ai_ cy g5 40 f5, ai_ cy g6 40 f6, ai_ cy g7 40 f7, ai_ cy g8 40 f8, az_ cy g10 40 f10] [0, 1, 2, 3, 4, 5] (by decide) rfl (fun hPc hDw => ?_)
          have hFc := va_free (wc := []) hD hS hA [] rfl
          refine va_calli (va_runV (As := [.int a1, .int a2]) (rest := []) ⟨hx, hb, hml, hown, hts⟩ (c_X12_mostOf2 l D cy H.size mo g5 g6 g7 g8 g9 g10 g12 g13 g14 g15 g16 g17 g18 g19 g20 g22 g23 g24 g29 g30 g31 g32 g33 (0 : Int32) s1 s3 s4 s11 s21 s25 s26 s27 s28 t2 f5 f6 f7 f8 f10 a1 a2 (by first | with_reducible assumption | omega | assumption) (by first | with_reducible assumption | omega | assumption) (by first | with_reducible assumption | assumption | omega) (by first | with_reducible assumption | omega | assumption) (by first | with_reducible assumption | omega | assumption) (by first | with_reducible assumption | assumption | omega) (by first | with_reducible assumption | assumption | omega) (by first | with_reducible assumption | assumption | omega)) (cwV 2 hts gX12_cut_X12_mostOf rfl rfl rfl ⟨rfl, hd_X12_mostOf⟩ ⟨Nat.le_of_ble_eq_true rfl, Nat.le_of_ble_eq_true rfl⟩) ⟨bl_, va_recvX hK.1 hP (ci := 12) (q0 := 0) rfl rfl, fun U hU hW => ⟨rfl, by rw [hU], by rw [hU]; exact hPc, kk_mv hW hK, hDw⟩⟩ rfl rfl hl.1 rfl (lv_room (Nat.le_of_ble_eq_true rfl)) dB_3_1_11.1.1.2.2 ⟨Nat.le_of_ble_eq_true rfl, Nat.le_of_ble_eq_true rfl⟩) hS (fun q _ h => hFc q h) hFc (fun r_7 u t H locs ht hvm hw hB hz1 hk1 hS => ?_)
          have hP : va_P D vwCl _ H := ro_keep hP hk1
          have f0_r_7 := hw
          have hmo_ : mstM (cutR f5 f6 f7 f8 f10 (-9) s4.toNatClampNeg) a1.toNatClampNeg a2.toNatClampNeg r_7.toInt := by have h_ := f0_r_7; rw [h21i_] at h_; exact h_
          refine lv_istore (lv' := [(4, .int r_7), (0, .ref mo), (1, .int a1), (2, .int a2), (3, .int a3)]) hx hb dB_3_1_11.1.2.1.1 hl (by decide) rfl (fun ls hl => ?_)
          refine lv_iload hx hb dB_3_1_11.1.2.1.2 (lv_at hl 0 rfl) ?_
          refine lv_ldc (v := 1000000) hx hb hown (hts (.constant RX12 159 (1000000)) (List.mem_of_getElem? (i := 2) rfl)) dB_3_1_11.1.2.2.1 ?_
          refine lv_icmp_ne (tgt := 44) hx hb dB_3_1_11.1.2.2.2 (by decide) (fun c_8 => ?_) (fun c_8 => ?_)
          · have t_8 : ¬ r_7.toInt = (1000000 : Int32).toInt := fun h => c_8 (Int32.toInt_inj.mp h)
            refine lv_aload_n hx hb dB_3_1_11.2.1.2.1 rfl (lv_at hl 1 rfl) ?_
            refine lv_iload_n hx hb dB_3_1_11.2.1.2.2 rfl (lv_at hl 2 rfl) ?_
            refine lv_iload_n hx hb dB_3_1_11.2.2.1.1 rfl (lv_at hl 3 rfl) ?_
            refine lv_iload hx hb dB_3_1_11.2.2.1.2 (lv_at hl 0 rfl) ?_
            refine lv_iconst (v := 0) hx hb dB_3_1_11.2.2.2.1 (by decide) ?_
            refine ct_S hP hD hS hA [ob12_0_ mo 0 s1 t2 s3 s4 g5 g6 g7 g8 g9 g10 s11 g12 g13 g14 g15 g16 g17 g18 g19 g20 s21 g22 g23 g24 s25 s26 s27 s28 g29 g30 g31 g32 g33, ai_ cy g5 40 f5, ai_ cy g6 40 f6, ai_ cy g7 40 f7, ai_ cy g8 40 f8, az_ cy g10 40 f10] [0, 1, 2, 3, 4, 5] (by decide) rfl (fun hPc hDw hFc hC_ => ?_)
            refine va_callv (va_runV (As := [.int a1, .int a2, .int r_7, .int 0]) (rest := []) ⟨hx, hb, hml, hown, hts⟩ (c_X12_cutsOf2 l D cy H.size mo g5 g6 g7 g8 g9 g10 g12 g13 g14 g15 g16 g17 g18 g19 g20 g22 g23 g24 g29 g30 g31 g32 g33 (0 : Int32) s1 s3 s4 s11 s21 s25 s26 s27 s28 t2 f5 f6 f7 f8 f10 a1 a2 r_7 (0 : Int32) (by first | with_reducible assumption | omega | assumption) (by first | with_reducible assumption | omega | assumption) (by first | with_reducible assumption | omega | assumption) (by first | with_reducible assumption | omega | assumption) (by first | with_reducible assumption | omega | assumption) (by first | with_reducible assumption | assumption | omega) (by first | with_reducible assumption | assumption | omega) (by first | with_reducible assumption | assumption | omega)) (cwV 4 hts gX12_cut_X12_cutsOf rfl rfl rfl ⟨rfl, hd_X12_cutsOf⟩ ⟨Nat.le_of_ble_eq_true rfl, Nat.le_of_ble_eq_true rfl⟩) ⟨bl_, va_recvX hK.1 hP (ci := 12) (q0 := 0) rfl rfl, fun U hU hW => ⟨rfl, by rw [hU], by rw [hU]; exact hPc, kk_mv hW hK, hDw⟩⟩ rfl rfl hl.1 rfl (lv_room (Nat.le_of_ble_eq_true rfl)) dB_3_1_11.2.2.2.2 ⟨Nat.le_of_ble_eq_true rfl, Nat.le_of_ble_eq_true rfl⟩) hS (fun q _ h => hFc q h) hFc (fun u t H locs ht hvm hw hB hz1 hk1 hS => ?_)
            obtain ⟨n25_10, n26_11, n27_12, n28_13, g_14, hP1, hD1⟩ := hB
            rw [ht] at hP1
            obtain ⟨hP, hD⟩ := va_join (wr := []) (w1 := [ob12_0_ mo 0 s1 t2 s3 s4 g5 g6 g7 g8 g9 g10 s11 g12 g13 g14 g15 g16 g17 g18 g19 g20 s21 g22 g23 g24 n25_10 n26_11 n27_12 n28_13 g29 g30 g31 g32 g33, ai_ cy g5 40 f5, ai_ cy g6 40 f6, ai_ cy g7 40 f7, ai_ cy g8 40 f8, az_ cy g10 40 f10]) hP hD [0, 1, 2, 3, 4, 5] [] hC_ rfl (by decide) (by decide) hk1 hFc hP1 hD1
            refine pd_K [ob12_0_ mo 0 s1 t2 s3 s4 g5 g6 g7 g8 g9 g10 s11 g12 g13 g14 g15 g16 g17 g18 g19 g20 s21 g22 g23 g24 n25_10 n26_11 n27_12 n28_13 g29 g30 g31 g32 g33, ai_ cy g5 40 f5, ai_ cy g6 40 f6, ai_ cy g7 40 f7, ai_ cy g8 40 f8, az_ cy g10 40 f10] hP hD (fun hP hD => ?_)
            have hcw_ := g_14
            rw [h21i_] at hcw_
            refine lv_iload_n hx hb dB_3_1_12.1.1.1 rfl (lv_at hl 4 rfl) ?_
            refine lv_if_ne (tgt := 64) hx hb dB_3_1_12.1.1.2 (by decide) (fun c_15 => ?_) (fun c_15 => ?_)
            · have t_15 : ¬ a3.toInt = (0 : Int32).toInt := fun h => c_15 (Int32.toInt_inj.mp h)
              refine lv_aload_n hx hb dB_3_1_12.2.1.2 rfl (lv_at hl 1 rfl) ?_
              refine va_get (ci := 12) (v := .int n27_12) (C := RX12) (T := TX12) (N := 34) hx hb hts (fun _ h => List.mem_cons_of_mem _ (List.mem_append_right _ h)) hown hK.1 hP 0 rfl rfl 27 (by decide) (hts (.fieldLink RX12 198 "CutAtlasModel" "far" "I") (List.mem_of_getElem? (i := 4) rfl)) (fun _ h9 => h9) rfl dB_3_1_12.2.2.1 ?_
              rw [hQ]
              exact W.iret (v := n27_12) hx hb hr (fun t ht hW => ⟨⟨n27_12, (), rfl, (by first | exact ⟨fun _ => ⟨_, hmo_, fun h => absurd h (by omega), fun _ => ⟨_, _, _, _, _, hcw_, fun _ => rfl, fun h => absurd (by omega) h⟩⟩, fun h => absurd (by unfold ctI; (repeat' (first | with_reducible refine if_n (by omega) ?_ | with_reducible refine if_ns (by omega) ?_ | with_reducible refine if_nz (by omega) ?_ | with_reducible exact if_p (by omega) (by omega) | with_reducible exact if_ps (by omega) (by omega) | with_reducible exact if_pz (by omega) (by omega))) <;> omega) h⟩ | exact ⟨fun _ => ⟨_, hmo_, fun h => absurd h (by omega), fun _ => ⟨_, _, _, _, _, hcw_, fun h => absurd h (by omega), fun _ => rfl⟩⟩, fun h => absurd (by unfold ctI; (repeat' (first | with_reducible refine if_n (by omega) ?_ | with_reducible refine if_ns (by omega) ?_ | with_reducible refine if_nz (by omega) ?_ | with_reducible exact if_p (by omega) (by omega) | with_reducible exact if_ps (by omega) (by omega) | with_reducible exact if_pz (by omega) (by omega))) <;> omega) h⟩), n25_10, n26_11, n27_12, n28_13, by rw [ht]; exact hP, hD⟩, hS.F ht⟩) hS.2.2 dB_3_1_12.2.2.2
            · have t_15 : a3.toInt = (0 : Int32).toInt := congrArg Int32.toInt c_15
              refine lv_aload_n hx hb dB_3_1_12.1.2.1 rfl (lv_at hl 1 rfl) ?_
              refine va_get (ci := 12) (v := .int n26_11) (C := RX12) (T := TX12) (N := 34) hx hb hts (fun _ h => List.mem_cons_of_mem _ (List.mem_append_right _ h)) hown hK.1 hP 0 rfl rfl 26 (by decide) (hts (.fieldLink RX12 195 "CutAtlasModel" "near" "I") (List.mem_of_getElem? (i := 3) rfl)) (fun _ h9 => h9) rfl dB_3_1_12.1.2.2 ?_
              refine lv_goto (tgt := 68) hx hb dB_3_1_12.2.1.1 (by decide) ?_
              rw [hQ]
              exact W.iret (v := n26_11) hx hb hr (fun t ht hW => ⟨⟨n26_11, (), rfl, (by first | exact ⟨fun _ => ⟨_, hmo_, fun h => absurd h (by omega), fun _ => ⟨_, _, _, _, _, hcw_, fun _ => rfl, fun h => absurd (by omega) h⟩⟩, fun h => absurd (by unfold ctI; (repeat' (first | with_reducible refine if_n (by omega) ?_ | with_reducible refine if_ns (by omega) ?_ | with_reducible refine if_nz (by omega) ?_ | with_reducible exact if_p (by omega) (by omega) | with_reducible exact if_ps (by omega) (by omega) | with_reducible exact if_pz (by omega) (by omega))) <;> omega) h⟩ | exact ⟨fun _ => ⟨_, hmo_, fun h => absurd h (by omega), fun _ => ⟨_, _, _, _, _, hcw_, fun h => absurd h (by omega), fun _ => rfl⟩⟩, fun h => absurd (by unfold ctI; (repeat' (first | with_reducible refine if_n (by omega) ?_ | with_reducible refine if_ns (by omega) ?_ | with_reducible refine if_nz (by omega) ?_ | with_reducible exact if_p (by omega) (by omega) | with_reducible exact if_ps (by omega) (by omega) | with_reducible exact if_pz (by omega) (by omega))) <;> omega) h⟩), n25_10, n26_11, n27_12, n28_13, by rw [ht]; exact hP, hD⟩, hS.F ht⟩) hS.2.2 dB_3_1_12.2.2.2
          · have t_8 : r_7.toInt = (1000000 : Int32).toInt := congrArg Int32.toInt c_8
            refine lv_bipush (v := (-5)) hx hb dB_3_1_11.2.1.1.1 (by decide) ?_
            rw [hQ]
            exact W.iret (v := (-5)) hx hb hr (fun t ht hW => ⟨⟨(-5), (), rfl, (⟨fun _ => ⟨_, hmo_, fun _ => by decide, fun h => absurd (by omega) h⟩, fun h => absurd (by unfold ctI; (repeat' (first | with_reducible refine if_n (by omega) ?_ | with_reducible refine if_ns (by omega) ?_ | with_reducible refine if_nz (by omega) ?_ | with_reducible exact if_p (by omega) (by omega) | with_reducible exact if_ps (by omega) (by omega) | with_reducible exact if_pz (by omega) (by omega))) <;> omega) h⟩), s25, s26, s27, s28, by rw [ht]; exact hP, hD⟩, hS.F ht⟩) hS.2.2 dB_3_1_11.2.1.1.2
        · exact absurd c_6 (by decide)
      · have e_ := e_.symm
        subst e_
        refine lv_if_ne (tgt := 26) hx hb dB_3_1_10.2.2.1.2 (by decide) (fun c_16 => ?_) (fun c_16 => ?_)
        · exact absurd c_16 (by decide)
        · have _ := c_16
          refine lv_iconst (v := (-1)) hx hb dB_3_1_10.2.2.2.1 (by decide) ?_
          rw [hQ]
          exact W.iret (v := (-1)) hx hb hr (fun t ht hW => ⟨⟨(-1), (), rfl, (⟨fun h => absurd h (by unfold ctI; (repeat' (first | with_reducible refine if_n (by omega) ?_ | with_reducible refine if_ns (by omega) ?_ | with_reducible refine if_nz (by omega) ?_ | with_reducible exact if_p (by omega) (by omega) | with_reducible exact if_ps (by omega) (by omega) | with_reducible exact if_pz (by omega) (by omega))) <;> omega), fun _ => by decide⟩), s25, s26, s27, s28, by rw [ht]; exact hP, hD⟩, hS.F ht⟩) hS.2.2 dB_3_1_10.2.2.2.2
  · have e_ := e_.symm
    subst e_
    refine lv_if_eq (tgt := 24) hx hb dB_3_1_10.1.2.2.2 (by decide) (fun c_17 => ?_) (fun c_17 => ?_)
    · have _ := c_17
      refine lv_iconst (v := (-1)) hx hb dB_3_1_10.2.2.2.1 (by decide) ?_
      rw [hQ]
      exact W.iret (v := (-1)) hx hb hr (fun t ht hW => ⟨⟨(-1), (), rfl, (⟨fun h => absurd h (by unfold ctI; (repeat' (first | with_reducible refine if_n (by omega) ?_ | with_reducible refine if_ns (by omega) ?_ | with_reducible refine if_nz (by omega) ?_ | with_reducible exact if_p (by omega) (by omega) | with_reducible exact if_ps (by omega) (by omega) | with_reducible exact if_pz (by omega) (by omega))) <;> omega), fun _ => by decide⟩), s25, s26, s27, s28, by rw [ht]; exact hP, hD⟩, hS.F ht⟩) hS.2.2 dB_3_1_10.2.2.2.2
    · exact absurd c_17 (by decide)
end

section
/-! ===== all sets in their order, place by place ===== -/
noncomputable def mH (M : Nat → Nat → Int) (k x y : Nat) : Int := if k ≤ x ∧ k ≤ y then M x y else 0
theorem sumI_mono2 {f g : Nat → Int} {n : Nat} (h : ∀ j : Nat, j < n → f j ≤ g j) : sumI f n ≤ sumI g n := (sumI_sub n h).1
theorem outZ_mono {M N : Nat → Nat → Int} {S : Nat → Bool} {P : Nat} (h : ∀ x y : Nat, x < P → y < P → M x y ≤ N x y) : outZ M S P ≤ outZ N S P := by
  unfold outZ
  refine sumI_mono2 (fun x hx => ?_)
  try dsimp only
  split
  · unfold rowZ
    refine sumI_mono2 (fun y hy => ?_)
    try dsimp only
    split
    · omega
    · exact h x y hx hy
  · omega
theorem outZ_SH {M : Nat → Nat → Int} {S T : Nat → Bool} {P k : Nat} (h : ∀ x : Nat, k ≤ x → x < P → S x = T x) : outZ (mH M k) S P = outZ (mH M k) T P := by
  have row : ∀ x : Nat, x < P → k ≤ x → rowZ (mH M k) S P x = rowZ (mH M k) T P x := fun x hx hk => by
    unfold rowZ
    refine sumI_congr P (fun y hy => ?_)
    try dsimp only
    by_cases w : k ≤ y
    · rw [h y w hy]
    · have z : mH M k x y = 0 := if_neg (fun q => w q.2)
      rw [z]
      split <;> split <;> rfl
  have zero : ∀ (U : Nat → Bool) (x : Nat), ¬ k ≤ x → rowZ (mH M k) U P x = 0 := fun U x hk => by
    unfold rowZ
    refine (sumI_congr P (fun y _ => ?_)).trans (sumI_zero P)
    have z : mH M k x y = 0 := if_neg (fun q => hk q.1)
    try dsimp only
    rw [z]
    split <;> rfl
  unfold outZ
  refine sumI_congr P (fun x hx => ?_)
  by_cases w : k ≤ x
  · rw [h x w hx, row x hx w]
  · rw [zero S x w, zero T x w]
    split <;> split <;> rfl
theorem outZ_row {r : Nat → Int} {S : Nat → Bool} {P p : Nat} (hp : p < P) : outZ (fun x y => if x = p then r y else 0) S P = if S p = true then sumI (fun y => if S y = true then 0 else r y) P else 0 := by
  unfold outZ
  refine Eq.trans (sumI_congr P (fun x _ => ?_)) ((sumI_delta (f := fun x => if S x = true then sumI (fun y => if S y = true then 0 else r y) P else 0) (a := p) P).trans (if_pos hp))
  by_cases e : x = p
  · rw [if_pos e]
    have q : rowZ (fun x y => if x = p then r y else 0) S P x = sumI (fun y => if S y = true then 0 else r y) P := by
      unfold rowZ
      refine sumI_congr P (fun y _ => ?_)
      try dsimp only
      rw [if_pos e]
    rw [q]
  · rw [if_neg e]
    have q : rowZ (fun x y => if x = p then r y else 0) S P x = 0 := by
      unfold rowZ
      refine (sumI_congr P (fun y _ => ?_)).trans (sumI_zero P)
      try dsimp only
      rw [if_neg e]
      split <;> rfl
    rw [q]
    split <;> rfl
theorem outZ_col {c : Nat → Int} {S : Nat → Bool} {P p : Nat} (hp : p < P) : outZ (fun x y => if y = p then c x else 0) S P = if S p = true then 0 else sumI (fun x => if S x = true then c x else 0) P := by
  have row : ∀ x : Nat, rowZ (fun x y => if y = p then c x else 0) S P x = if S p = true then 0 else c x := fun x => by
    unfold rowZ
    refine Eq.trans (sumI_congr P (fun y _ => ?_)) ((sumI_delta (f := fun y => if S y = true then 0 else c x) (a := p) P).trans (if_pos hp))
    try dsimp only
    by_cases e : y = p
    · rw [if_pos e, if_pos e]
    · rw [if_neg e, if_neg e]
      split <;> rfl
  unfold outZ
  by_cases q : S p = true
  · rw [if_pos q]
    refine (sumI_congr P (fun x _ => ?_)).trans (sumI_zero P)
    rw [row x, if_pos q]
    split <;> rfl
  · rw [if_neg q]
    refine sumI_congr P (fun x _ => ?_)
    rw [row x, if_neg q]
theorem mH_st {M : Nat → Nat → Int} {S : Nat → Bool} {P p : Nat} (hp : p < P) : outZ (mH M p) S P = outZ (mH M (p + 1)) S P + (if S p = true then sumI (fun y => if S y = true then 0 else (if p < y then M p y else 0)) P else 0) + (if S p = true then 0 else sumI (fun x => if S x = true then (if p < x then M x p else 0) else 0) P) := by
  rw [← outZ_row (r := fun y => if p < y then M p y else 0) hp, ← outZ_col (c := fun x => if p < x then M x p else 0) hp]
  have z : outZ (fun x y => if p = x ∧ p = y then M p p else 0) S P = 0 := by
    rw [outZ_one hp hp, if_neg (fun w => by rw [w.1] at w; exact absurd w.2 (by decide))]
  have e : outZ (mH M p) S P = outZ (fun x y => mH M (p + 1) x y + (if x = p then (if p < y then M p y else 0) else 0) + (if y = p then (if p < x then M x p else 0) else 0) + (if p = x ∧ p = y then M p p else 0)) S P := by
    refine outZ_cg (fun x y _ _ => ?_)
    unfold mH
    by_cases a : x = p <;> by_cases b : y = p
    · subst a
      subst b
      (repeat' split) <;> omega
    · subst a
      (repeat' split) <;> omega
    · subst b
      (repeat' split) <;> omega
    · (repeat' split) <;> omega
  rw [e, outZ_add, outZ_add, outZ_add, z]
  omega
noncomputable def inS (M : Nat → Nat → Int) (S : Nat → Bool) (p x : Nat) : Int := if (decide (p < x) && S x) = true then M x p else 0
noncomputable def ouS (M : Nat → Nat → Int) (S : Nat → Bool) (p y : Nat) : Int := if (decide (p < y) && !S y) = true then M p y else 0
theorem step_in {M : Nat → Nat → Int} {S : Nat → Bool} {P p : Nat} (hp : p < P) (hS : S p = false) : outZ (mH M p) S P = outZ (mH M (p + 1)) S P + sumI (inS M S p) P := by
  have e : sumI (fun x => if S x = true then (if p < x then M x p else 0) else 0) P = sumI (inS M S p) P := sumI_congr P (fun x _ => by
    unfold inS
    cases S x <;> by_cases c : p < x <;> simp [c])
  rw [mH_st hp, if_neg (by rw [hS]; decide), if_neg (by rw [hS]; decide), e]
  omega
theorem step_out {M : Nat → Nat → Int} {S : Nat → Bool} {P p : Nat} (hp : p < P) (hS : S p = true) : outZ (mH M p) S P = outZ (mH M (p + 1)) S P + sumI (ouS M S p) P := by
  have e : sumI (fun y => if S y = true then 0 else (if p < y then M p y else 0)) P = sumI (ouS M S p) P := sumI_congr P (fun y _ => by
    unfold ouS
    cases S y <;> by_cases c : p < y <;> simp [c])
  rw [mH_st hp, if_pos hS, if_pos hS, e]
  omega
theorem mH_0 {M : Nat → Nat → Int} {S : Nat → Bool} {P : Nat} : outZ (mH M 0) S P = outZ M S P := outZ_cg (fun x y _ _ => if_pos ⟨Nat.zero_le _, Nat.zero_le _⟩)
theorem mH_P {M : Nat → Nat → Int} {S : Nat → Bool} {P : Nat} : outZ (mH M P) S P = 0 := (outZ_cg (M2 := fun _ _ => 0) (fun x y hx _ => if_neg (fun q => by omega))).trans outZ_0
theorem mH_le {M : Nat → Nat → Int} {S : Nat → Bool} {P k : Nat} (h : ∀ x y : Nat, x < P → y < P → 0 ≤ M x y) : outZ (mH M k) S P ≤ outZ M S P := outZ_mono (fun x y hx hy => by
  have := h x y hx hy
  unfold mH
  split <;> omega)
/-- the sets that are sought -/
noncomputable def qF (M : Nat → Nat → Int) (P : Nat) (mu nu : Int32) (aim : Int) (n : Nat) : Bool := decide (∀ i : Nat, i < 12 → (bt mu i = true → bt (nI n) i = true) ∧ (bt nu i = true → bt (nI n) i = false)) && decide (outZ M (bt (nI n)) P = aim) && decide (n ≠ 0)
/-- met and found, after the sets below n -/
noncomputable def scn (q : Nat → Bool) (w : Int) (n : Nat) (met found : Int32) : Prop := (found.toInt = -9 ∧ met.toInt = cnQ q n ∧ ∀ j : Nat, j < n → q j = true → cnQ q j ≠ w) ∨ ∃ j : Nat, j < n ∧ q j = true ∧ cnQ q j = w ∧ found = nI j
theorem cnQ_skip {q : Nat → Bool} {n : Nat} : ∀ d : Nat, (∀ j : Nat, n ≤ j → j < n + d → q j = false) → cnQ q (n + d) = cnQ q n
  | 0, _ => rfl
  | d + 1, h => by
    show cnQ q (n + d) + (if q (n + d) = true then 1 else 0) = _
    rw [cnQ_skip d (fun j h1 h2 => h j h1 (by omega)), h (n + d) (by omega) (by omega), if_neg (by decide)]
    omega
theorem scn_skip {q : Nat → Bool} {w : Int} {n d : Nat} {met found : Int32} (h : scn q w n met found) (hq : ∀ j : Nat, n ≤ j → j < n + d → q j = false) : scn q w (n + d) met found := by
  rcases h with ⟨a, b, c⟩ | ⟨j, hj, b⟩
  · refine Or.inl ⟨a, by rw [cnQ_skip d hq]; exact b, fun j hj g => ?_⟩
    rcases Nat.lt_or_ge j n with z | z
    · exact c j z g
    · rw [hq j z hj] at g
      cases g
  · exact Or.inr ⟨j, by omega, b⟩
theorem scn_found {q : Nat → Bool} {w : Int} {n d : Nat} {met found : Int32} (h : scn q w n met found) (hf : found.toInt ≠ -9) : scn q w (n + d) met found := by
  rcases h with a | ⟨j, hj, b⟩
  · exact absurd a.1 hf
  · exact Or.inr ⟨j, by omega, b⟩
theorem scn_not {q : Nat → Bool} {w : Int} {n : Nat} {met found : Int32} (h : scn q w n met found) (hf : found.toInt = -9) (hn : n ≤ 5000) : met.toInt = cnQ q n ∧ ∀ j : Nat, j < n → q j = true → cnQ q j ≠ w := by
  rcases h with a | ⟨j, hj, b, c, d⟩
  · exact a.2
  · rw [d, nI_toInt (by omega)] at hf
    omega
theorem scn_one {q : Nat → Bool} {w : Int} {n : Nat} {met found met2 found2 : Int32} (h : scn q w n met found) (hf : found.toInt = -9) (hn : n ≤ 5000) (hq : q n = true) (hm : met2.toInt = met.toInt + 1) (hd : (met.toInt = w ∧ found2 = nI n) ∨ (met.toInt ≠ w ∧ found2 = found)) : scn q w (n + 1) met2 found2 := by
  have a := scn_not h hf hn
  rcases hd with ⟨b, c⟩ | ⟨b, c⟩
  · exact Or.inr ⟨n, by omega, hq, by omega, c⟩
  · refine Or.inl ⟨by rw [c]; exact hf, ?_, fun j hj g => ?_⟩
    · show _ = cnQ q n + (if q n = true then 1 else 0)
      rw [if_pos hq]
      omega
    · by_cases z : j = n
      · rw [z]
        omega
      · exact a.2 j (by omega) g
/-! numbers and bits -/
theorem low_dvd {b k : Nat} (h : ∀ i : Nat, i < k → b.testBit i = false) : ∃ a : Nat, b = 2 ^ k * a := by
  refine ⟨b / 2 ^ k, ?_⟩
  have z : b % 2 ^ k = 0 := Nat.eq_of_testBit_eq (fun i => by
    rw [Nat.testBit_mod_two_pow, Nat.zero_testBit]
    by_cases w : i < k
    · rw [h i w]
      simp
    · simp [w])
  have := Nat.div_add_mod b (2 ^ k)
  omega
theorem blk {b k j i : Nat} (h : ∀ i : Nat, i < k → b.testBit i = false) (h1 : b ≤ j) (h2 : j < b + 2 ^ k) (hi : k ≤ i) : j.testBit i = b.testBit i := by
  obtain ⟨a, e⟩ := low_dvd h
  obtain ⟨d, hd⟩ : ∃ d : Nat, j = b + d := ⟨j - b, by omega⟩
  have e0 : b = 2 ^ k * a + 0 := by omega
  rw [hd, e, Nat.testBit_two_pow_mul_add _ (by omega), if_neg (by omega)]
  rw [show 2 ^ k * a = 2 ^ k * a + 0 from rfl, Nat.testBit_two_pow_mul_add _ (Nat.two_pow_pos k), if_neg (by omega)]
/-- what stands before chooseForCut -/
noncomputable def hnt (M : Nat → Nat → Int) (P K : Nat) (mu nu set : Int32) (size : Int) : Prop := K ≤ P ∧ (∀ i : Nat, i < 12 → K ≤ i → (bt mu i = true → bt set i = true) ∧ (bt nu i = true → bt set i = false)) ∧ (∀ i : Nat, i < K → bt set i = false) ∧ (∀ i : Nat, bt set i = true → i < P) ∧ size = outZ (mH M K) (bt set) P
section HNT
variable {M : Nat → Nat → Int} {P K : Nat} {mu nu set : Int32} {size aim w : Int} {met found : Int32}
theorem hnt_num (h : hnt M P K mu nu set size) (hP : P ≤ 12) : set = nI set.toNatClampNeg ∧ set.toNatClampNeg + 2 ^ K ≤ 2 ^ P ∧ (∀ i : Nat, i < K → set.toNatClampNeg.testBit i = false) ∧ (∀ i : Nat, i < 32 → bt set i = set.toNatClampNeg.testBit i) := by
  obtain ⟨k, hk, e⟩ := num_of hP h.2.2.2.1
  have hk2 : k < 4096 := Nat.lt_of_lt_of_le hk (Nat.pow_le_pow_right (by decide) hP)
  have c : set.toNatClampNeg = k := by
    have a : (nI k).toInt = k := nI_toInt (by omega)
    have b := clI (i := nI k) (by omega)
    rw [e]
    omega
  have tb : ∀ i : Nat, i < 32 → bt set i = k.testBit i := fun i hi => by rw [e, bt_nI hi]
  have lo : ∀ i : Nat, i < K → k.testBit i = false := fun i hi => by
    rw [← tb i (by have := h.1; omega)]
    exact h.2.2.1 i hi
  refine ⟨by rw [c]; exact e, ?_, by rw [c]; exact lo, by rw [c]; exact tb⟩
  rw [c]
  obtain ⟨a, ea⟩ := low_dvd lo
  obtain ⟨d, hd⟩ : ∃ d : Nat, P = K + d := ⟨P - K, by have := h.1; omega⟩
  have pw : 2 ^ P = 2 ^ K * 2 ^ d := by rw [hd, Nat.pow_add]
  have la : a < 2 ^ d := by
    rcases Nat.lt_or_ge a (2 ^ d) with z | z
    · exact z
    · have := Nat.mul_le_mul_left (2 ^ K) z
      omega
  have m1 := Nat.mul_le_mul_left (2 ^ K) (show a + 1 ≤ 2 ^ d from la)
  rw [Nat.mul_add, Nat.mul_one] at m1
  omega
/-- all sets of the block have set's upper places -/
theorem hnt_up (h : hnt M P K mu nu set size) (hP : P ≤ 12) {j : Nat} (h1 : set.toNatClampNeg ≤ j) (h2 : j < set.toNatClampNeg + 2 ^ K) {i : Nat} (hi : K ≤ i) (h32 : i < 32) : bt (nI j) i = bt set i := by
  obtain ⟨_, _, lo, tb⟩ := hnt_num h hP
  rw [bt_nI h32, blk lo h1 h2 hi, tb i h32]
theorem hnt_big (h : hnt M P K mu nu set size) (hP : P ≤ 12) (h0 : ∀ x y : Nat, x < P → y < P → 0 ≤ M x y) (hs : aim < size) {j : Nat} (h1 : set.toNatClampNeg ≤ j) (h2 : j < set.toNatClampNeg + 2 ^ K) : qF M P mu nu aim j = false := by
  have e : outZ (mH M K) (bt (nI j)) P = size := by
    rw [h.2.2.2.2]
    exact outZ_SH (fun x hk hx => hnt_up h hP h1 h2 hk (by omega))
  have g := mH_le (S := bt (nI j)) (k := K) h0
  unfold qF
  rw [decide_eq_false (show ¬ outZ M (bt (nI j)) P = aim by omega)]
  simp
theorem hnt_leaf (h : hnt M P 0 mu nu set size) (hP : P ≤ 12) : qF M P mu nu aim set.toNatClampNeg = (decide (size = aim) && decide (set.toNatClampNeg ≠ 0)) := by
  obtain ⟨e, _, _, _⟩ := hnt_num h hP
  unfold qF
  rw [← e, decide_eq_true (fun i hi => h.2.1 i hi (Nat.zero_le _))]
  have z : outZ M (bt set) P = size := by
    rw [h.2.2.2.2]
    exact mH_0.symm
  rw [z]
  simp
theorem hnt_P (hm : ∀ i : Nat, i < 12 → P ≤ i → bt mu i = false ∧ bt nu i = false) : hnt M P P mu nu 0 0 := by
  have z : ∀ i : Nat, bt 0 i = false := fun i => by
    cases w : bt 0 i
    · rfl
    · have h := bt_hi w
      have q : ∀ i : Nat, i < 32 → bt 0 i = false := by decide +kernel
      rw [q i h] at w
      cases w
  refine ⟨Nat.le_refl _, fun i hi hk => ?_, fun i _ => z i, fun i hi => ?_, mH_P.symm⟩
  · have a := hm i hi hk
    rw [a.1, a.2]
    exact ⟨fun q => (by cases q), fun q => (by cases q)⟩
  · rw [z i] at hi
    cases hi
/-- without the place -/
theorem hnt_in {a b : Int} (h : hnt M P (K + 1) mu nu set size) (hm : bt mu K = false) (hb : b = size + a) (ha : a = sumI (inS M (bt set) K) P) : hnt M P K mu nu set b := by
  obtain ⟨h1, h2, h3, h4, h5⟩ := h
  refine ⟨by omega, fun i hi hk => ?_, fun i hi => h3 i (by omega), h4, ?_⟩
  · by_cases z : i = K
    · rw [z, hm, h3 K (by omega)]
      exact ⟨fun q => (by cases q), fun _ => rfl⟩
    · exact h2 i hi (by omega)
  · rw [step_in (by omega) (h3 K (by omega)), hb, h5, ha]
theorem hnt_nin (h : hnt M P (K + 1) mu nu set size) (hP : P ≤ 12) (hm : bt mu K = true) {j : Nat} (h1 : set.toNatClampNeg ≤ j) (h2 : j < set.toNatClampNeg + 2 ^ K) : qF M P mu nu aim j = false := by
  obtain ⟨_, _, lo, tb⟩ := hnt_num h hP
  have hK : K < 12 := by have := h.1; omega
  have bk : bt (nI j) K = false := by
    rw [bt_nI (by omega), blk (fun i hi => lo i (by omega)) h1 h2 (Nat.le_refl _)]
    exact lo K (by omega)
  unfold qF
  rw [decide_eq_false (fun q => by
    have := (q K hK).1 hm
    rw [bk] at this
    cases this)]
  rfl
/-- with the place -/
theorem hnt_set {set2 bit p : Int32} (h : hnt M P (K + 1) mu nu set size) (hP : P ≤ 12) (hp : p.toInt = K) (eb : bit = (1 : Int32) <<< (p &&& 31)) (es : set2 = set ||| bit) : set2.toNatClampNeg = set.toNatClampNeg + 2 ^ K ∧ (∀ i : Nat, bt set2 i = (bt set i || decide (i = K))) := by
  have hK : K < 12 := by have := h.1; omega
  have cp := clI (i := p) (by omega)
  have bs : ∀ i : Nat, i < 32 → bt set2 i = (bt set i || decide (i = K)) := fun i hi => by
    rw [es, b_or, eb, bt_sh (by omega) (by omega) hi, show p.toNatClampNeg = K by omega]
  have bs2 : ∀ i : Nat, bt set2 i = (bt set i || decide (i = K)) := fun i => by
    by_cases w : i < 32
    · exact bs i w
    · have a : ∀ x : Int32, bt x i = false := fun x => by
        cases z : bt x i
        · rfl
        · exact absurd (bt_hi z) w
      rw [a, a, decide_eq_false (by omega)]
      rfl
  refine ⟨?_, bs2⟩
  obtain ⟨e, le, lo, tb⟩ := hnt_num h hP
  have pw : 2 ^ (K + 1) = 2 ^ K + 2 ^ K := by rw [Nat.pow_succ]; omega
  have pos := Nat.two_pow_pos K
  have p12 : 2 ^ P ≤ 4096 := Nat.pow_le_pow_right (n := 2) (by decide) hP
  have q : set2 = nI (set.toNatClampNeg + 2 ^ K) := bt_ext (fun i => by
    by_cases w : i < 32
    · rw [bs2 i, bt_nI w, tb i w]
      obtain ⟨a, ea⟩ := low_dvd lo
      by_cases z : i = K
      · rw [z, decide_eq_true rfl, Nat.add_comm, Nat.testBit_two_pow_add_eq, lo K (by omega)]
        rfl
      · rw [decide_eq_false z, Bool.or_false]
        rcases Nat.lt_or_ge i K with g | g
        · rw [lo i (by omega), Nat.add_comm, Nat.testBit_two_pow_add_gt g]
          exact (lo i (by omega)).symm
        · exact (blk lo (show set.toNatClampNeg ≤ set.toNatClampNeg + 2 ^ K by omega) (by have := Nat.two_pow_pos K; omega) (by omega)).symm
    · have a : ∀ x : Int32, bt x i = false := fun x => by
        cases z : bt x i
        · rfl
        · exact absurd (bt_hi z) w
      rw [a, a])
  have c := nI_toInt (n := set.toNatClampNeg + 2 ^ K) (by omega)
  have c2 := clI (i := nI (set.toNatClampNeg + 2 ^ K)) (by omega)
  rw [q]
  omega
theorem hnt_out {set2 bit p : Int32} {a b : Int} (h : hnt M P (K + 1) mu nu set size) (hP : P ≤ 12) (hp : p.toInt = K) (eb : bit = (1 : Int32) <<< (p &&& 31)) (es : set2 = set ||| bit) (hm : bt nu K = false) (hb : b = size + a) (ha : a = sumI (ouS M (bt set) K) P) : hnt M P K mu nu set2 b := by
  obtain ⟨_, bs⟩ := hnt_set h hP hp eb es
  obtain ⟨h1, h2, h3, h4, h5⟩ := h
  have hi_ : ∀ i : Nat, i ≠ K → bt set2 i = bt set i := fun i hi => by
    rw [bs i, decide_eq_false hi, Bool.or_false]
  have hk_ : bt set2 K = true := by
    rw [bs K, decide_eq_true rfl, Bool.or_true]
  refine ⟨by omega, fun i hi hk => ?_, fun i hi => ?_, fun i hi => ?_, ?_⟩
  · by_cases z : i = K
    · rw [z, hk_, hm]
      exact ⟨fun _ => rfl, fun q => (by cases q)⟩
    · rw [hi_ i z]
      exact h2 i hi (by omega)
  · rw [hi_ i (by omega)]
    exact h3 i (by omega)
  · by_cases z : i = K
    · omega
    · rw [hi_ i z] at hi
      exact h4 i hi
  · rw [step_out (by omega) hk_, hb, h5, ha]
    have e1 : outZ (mH M (K + 1)) (bt set2) P = outZ (mH M (K + 1)) (bt set) P := outZ_SH (fun x hk _ => hi_ x (by omega))
    have e2 : sumI (ouS M (bt set2) K) P = sumI (ouS M (bt set) K) P := sumI_congr P (fun y _ => by
      unfold ouS
      by_cases z : y = K
      · rw [z]
        simp
      · rw [hi_ y z])
    rw [e1, e2]
theorem hnt_nout (h : hnt M P (K + 1) mu nu set size) (hP : P ≤ 12) (hm : bt nu K = true) {j : Nat} (h1 : set.toNatClampNeg + 2 ^ K ≤ j) (h2 : j < set.toNatClampNeg + 2 ^ K + 2 ^ K) : qF M P mu nu aim j = false := by
  obtain ⟨_, le, lo, tb⟩ := hnt_num h hP
  have hK : K < 12 := by have := h.1; omega
  have lo2 : ∀ i : Nat, i < K → (set.toNatClampNeg + 2 ^ K).testBit i = false := fun i hi => by
    rw [Nat.add_comm, Nat.testBit_two_pow_add_gt hi]
    exact lo i (by omega)
  have bk : bt (nI j) K = true := by
    rw [bt_nI (by omega), blk lo2 h1 h2 (Nat.le_refl _), Nat.add_comm, Nat.testBit_two_pow_add_eq, lo K (by omega)]
    rfl
  unfold qF
  rw [decide_eq_false (fun q => by
    have := (q K hK).2 hm
    rw [bk] at this
    cases this)]
  rfl
end HNT
/-! ===== SetHunt, step by step ===== -/
theorem in_0 {M : Nat → Nat → Int} {S : Nat → Bool} {i p : Int32} (h0 : 0 ≤ p.toInt) (e : i.toInt = p.toInt + 1) : (0 : Int32).toInt = sumI (inS M S p.toNatClampNeg) i.toNatClampNeg := by
  have c := clI (i := p) h0
  have c2 := clI (i := i) (by omega)
  refine (Eq.trans (sumI_congr _ (fun x hx => ?_)) (sumI_zero i.toNatClampNeg)).symm
  unfold inS
  rw [decide_eq_false (by omega)]
  rfl
theorem ou_0 {M : Nat → Nat → Int} {S : Nat → Bool} {i p : Int32} (h0 : 0 ≤ p.toInt) (e : i.toInt = p.toInt + 1) : (0 : Int32).toInt = sumI (ouS M S p.toNatClampNeg) i.toNatClampNeg := by
  have c := clI (i := p) h0
  have c2 := clI (i := i) (by omega)
  refine (Eq.trans (sumI_congr _ (fun x hx => ?_)) (sumI_zero i.toNatClampNeg)).symm
  unfold ouS
  rw [decide_eq_false (by omega)]
  rfl
theorem in_v {M : Nat → Nat → Int} {S : Nat → Bool} {p i : Nat} {w : Int32} (hp : p < i) (hw : w.toInt = if S i = true then 1 else 0) : (w.toInt = 1 ∧ inS M S p i = M i p) ∨ (w.toInt = 0 ∧ inS M S p i = 0) := by
  unfold inS
  rw [decide_eq_true hp]
  cases z : S i
  · rw [z, if_neg (by decide)] at hw
    exact Or.inr ⟨hw, rfl⟩
  · rw [z, if_pos rfl] at hw
    exact Or.inl ⟨hw, rfl⟩
theorem ou_v {M : Nat → Nat → Int} {S : Nat → Bool} {p i : Nat} {w : Int32} (hp : p < i) (hw : w.toInt = if S i = true then 1 else 0) : (w.toInt = 1 ∧ ouS M S p i = 0) ∨ (w.toInt = 0 ∧ ouS M S p i = M p i) := by
  unfold ouS
  rw [decide_eq_true hp]
  cases z : S i
  · rw [z, if_neg (by decide)] at hw
    exact Or.inr ⟨hw, rfl⟩
  · rw [z, if_pos rfl] at hw
    exact Or.inl ⟨hw, rfl⟩
theorem and_bit {mu p bit z : Int32} (h0 : 0 ≤ p.toInt) (h1 : p.toInt ≤ 11) (eb : bit = (1 : Int32) <<< (p &&& 31)) (ez : z = mu &&& bit) : (z.toInt = 0 → bt mu p.toNatClampNeg = false) ∧ (z.toInt ≠ 0 → bt mu p.toNatClampNeg = true) := by
  have c := clI (i := p) h0
  have b : ∀ i : Nat, i < 32 → bt z i = (bt mu i && decide (i = p.toNatClampNeg)) := fun i hi => by rw [ez, b_and, eb, bt_sh h0 (by omega) hi]
  constructor
  · intro h
    have z0 : z = 0 := Int32.toInt_inj.mp (by rw [h]; decide)
    have a := b p.toNatClampNeg (by omega)
    rw [z0, decide_eq_true rfl, Bool.and_true] at a
    rw [← a]
    have q : ∀ i : Nat, i < 32 → bt 0 i = false := by decide +kernel
    exact q _ (by omega)
  · intro h
    cases w : bt mu p.toNatClampNeg
    · refine absurd (congrArg Int32.toInt (show z = 0 from bt_ext (fun i => ?_))) h
      have q : ∀ i : Nat, i < 32 → bt 0 i = false := by decide +kernel
      by_cases g : i < 32
      · rw [b i g, q i g]
        by_cases e : i = p.toNatClampNeg
        · rw [e, w]
          rfl
        · rw [decide_eq_false e, Bool.and_false]
      · have a : ∀ x : Int32, bt x i = false := fun x => by
          cases r : bt x i
          · rfl
          · exact absurd (bt_hi r) g
        rw [a, a]
    · rfl
theorem hnt_nn {M : Nat → Nat → Int} {P K : Nat} {mu nu set : Int32} {size : Int} (h : hnt M P K mu nu set size) (h0 : ∀ x y : Nat, x < P → y < P → 0 ≤ M x y) : 0 ≤ size := by
  rw [h.2.2.2.2]
  refine outZ_nn (fun x y hx hy => ?_)
  have := h0 x y hx hy
  unfold mH
  split <;> omega
theorem hnt_lt {M : Nat → Nat → Int} {P K : Nat} {mu nu set : Int32} {size : Int} (h : hnt M P K mu nu set size) (hP : P ≤ 12) : set.toNatClampNeg ≤ 4096 ∧ 0 ≤ set.toInt ∧ set = nI set.toNatClampNeg := by
  obtain ⟨a, b, _, _⟩ := hnt_num h hP
  have pos := Nat.two_pow_pos K
  have p12 : 2 ^ P ≤ 4096 := Nat.pow_le_pow_right (n := 2) (by decide) hP
  refine ⟨by omega, ?_, a⟩
  have q := nI_toInt (n := set.toNatClampNeg) (by omega)
  rw [← a] at q
  omega
theorem leaf_end {q : Nat → Bool} {w size aim : Int} {set met found met2 found2 : Int32} (hs : scn q w set.toNatClampNeg met found) (hf : found.toInt = -9) (hn : set.toNatClampNeg ≤ 4096 ∧ 0 ≤ set.toInt ∧ set = nI set.toNatClampNeg) (hq : q set.toNatClampNeg = (decide (size = aim) && decide (set.toNatClampNeg ≠ 0))) (ho : (¬ (size = aim ∧ set.toInt ≠ 0) → met2 = met ∧ found2 = found) ∧ (size = aim ∧ set.toInt ≠ 0 → met2.toInt = met.toInt + 1 ∧ ((met.toInt = w ∧ found2 = set) ∨ (met.toInt ≠ w ∧ found2 = found)))) : scn q w (set.toNatClampNeg + 1) met2 found2 := by
  have c := clI (i := set) hn.2.1
  by_cases z : size = aim ∧ set.toInt ≠ 0
  · rw [decide_eq_true z.1, decide_eq_true (show set.toNatClampNeg ≠ 0 by omega)] at hq
    obtain ⟨a, b⟩ := ho.2 z
    refine scn_one hs hf (by omega) hq a ?_
    rcases b with b | b
    · exact Or.inl ⟨b.1, b.2.trans hn.2.2⟩
    · exact Or.inr b
  · obtain ⟨a, b⟩ := ho.1 z
    rw [a, b]
    refine scn_skip hs (fun j h1 h2 => ?_)
    rw [show j = set.toNatClampNeg by omega, hq]
    by_cases y : size = aim
    · rw [decide_eq_false (show ¬ set.toNatClampNeg ≠ 0 by omega), Bool.and_false]
    · rw [decide_eq_false y]
      rfl
theorem scn_to {q : Nat → Bool} {w : Int} {n m : Nat} {met found : Int32} (h : scn q w n met found) (e : n = m) : scn q w m met found := e ▸ h
theorem scn_0 {q : Nat → Bool} {w : Int} : scn q w (0 : Int32).toNatClampNeg 0 (-9) := by
  rw [cl_0]
  exact Or.inl ⟨by decide, rfl, fun j hj => by omega⟩
theorem pw_K {K p : Nat} (h : K = p + 1) : 2 ^ K = 2 ^ p + 2 ^ p := by
  rw [h, Nat.pow_succ]
  omega
/-- findCut's answer -/
noncomputable def scf (q : Nat → Bool) (w : Int) (n : Nat) (r : Int32) : Prop := (r.toInt = -9 ∧ ∀ j : Nat, j < n → q j = true → cnQ q j ≠ w) ∨ ∃ j : Nat, j < n ∧ q j = true ∧ cnQ q j = w ∧ r = nI j
theorem scn_scf {q : Nat → Bool} {w : Int} {n : Nat} {met found : Int32} (h : scn q w n met found) : scf q w n found := by
  rcases h with a | a
  · exact Or.inl ⟨a.1, a.2.2⟩
  · exact Or.inr a
theorem scn_cnt {q : Nat → Bool} {w : Int} {n : Nat} {met found : Int32} (h : scn q w n met found) (hn : n ≤ 5000) (hw : 5000 < w) : met.toInt = cnQ q n := by
  rcases h with a | ⟨j, hj, b, c, d⟩
  · exact a.2.1
  · have := (cnQ_nn (p := q) (k := j)).2
    omega
theorem cnQ_cg {p q : Nat → Bool} {n : Nat} (h : ∀ j : Nat, j < n → p j = q j) : cnQ p n = cnQ q n := by
  unfold cnQ
  refine sumI_congr n (fun j hj => ?_)
  rw [h j hj]
theorem scf_cg {p q : Nat → Bool} {w : Int} {n : Nat} {r : Int32} (h : ∀ j : Nat, j < n → p j = q j) (hp : scf p w n r) : scf q w n r := by
  rcases hp with ⟨a, b⟩ | ⟨j, hj, b, c, d⟩
  · refine Or.inl ⟨a, fun j hj g => ?_⟩
    rw [← cnQ_cg (fun i hi => h i (by omega))]
    exact b j hj (by rw [h j hj]; exact g)
  · exact Or.inr ⟨j, hj, by rw [← h j hj]; exact b, by rw [← cnQ_cg (fun i hi => h i (by omega))]; exact c, d⟩
/-- with s, without t -/
theorem qF_ref {C : (Nat → Bool) → Int} {M : Nat → Nat → Int} {P : Nat} {s t mu nu : Int32} {m : Int} (hO : ∀ S : Nat → Bool, outZ M S P = C S) (hm : 0 ≤ m ∧ m < 1000000) (hs : 0 ≤ s.toInt ∧ s.toInt ≤ 11) (ht : 0 ≤ t.toInt ∧ t.toInt ≤ 11) (es : mu = (1 : Int32) <<< (s &&& 31)) (et : nu = (1 : Int32) <<< (t &&& 31)) {n : Nat} (hn : n < 5000) : qF M P mu nu m n = refP C s.toNatClampNeg t.toNatClampNeg m n := by
  have cs := clI (i := s) hs.1
  have ct := clI (i := t) ht.1
  have bs : ∀ i : Nat, i < 32 → bt mu i = decide (i = s.toNatClampNeg) := fun i hi => by rw [es, bt_sh hs.1 (by omega) hi]
  have bn : ∀ i : Nat, i < 32 → bt nu i = decide (i = t.toNatClampNeg) := fun i hi => by rw [et, bt_sh ht.1 (by omega) hi]
  have e1 : (∀ i : Nat, i < 12 → (bt mu i = true → bt (nI n) i = true) ∧ (bt nu i = true → bt (nI n) i = false)) ↔ (bt (nI n) s.toNatClampNeg = true ∧ bt (nI n) t.toNatClampNeg = false) := by
    constructor
    · intro h
      exact ⟨(h s.toNatClampNeg (by omega)).1 (by rw [bs _ (by omega)]; exact decide_eq_true rfl), (h t.toNatClampNeg (by omega)).2 (by rw [bn _ (by omega)]; exact decide_eq_true rfl)⟩
    · intro h i hi
      rw [bs i (by omega), bn i (by omega)]
      exact ⟨fun q => by rw [of_decide_eq_true q]; exact h.1, fun q => by rw [of_decide_eq_true q]; exact h.2⟩
  have e2 : outZ M (bt (nI n)) P = m ↔ mn6 (C (bt (nI n))) = m := by
    rw [hO]
    unfold mn6
    split <;> omega
  unfold qF refP cutQ
  by_cases a : bt (nI n) s.toNatClampNeg = true
  · have n0 : n ≠ 0 := fun z => by
      rw [z] at a
      have q : ∀ i : Nat, i < 12 → bt (nI 0) i = false := by decide +kernel
      rw [q _ (by omega)] at a
      cases a
    rw [decide_eq_true n0, Bool.and_true]
    by_cases b : bt (nI n) t.toNatClampNeg = true
    · rw [decide_eq_false (fun w => by have := (e1.mp w).2; rw [b] at this; cases this), a, b]
      rfl
    · have b2 : bt (nI n) t.toNatClampNeg = false := by cases z : bt (nI n) t.toNatClampNeg <;> simp_all
      rw [decide_eq_true (e1.mpr ⟨a, b2⟩), a, b2, Bool.true_and]
      by_cases g : outZ M (bt (nI n)) P = m
      · rw [decide_eq_true g, decide_eq_true (e2.mp g)]
        rfl
      · rw [decide_eq_false g, decide_eq_false (fun w => g (e2.mpr w))]
        rfl
  · have a2 : bt (nI n) s.toNatClampNeg = false := by cases z : bt (nI n) s.toNatClampNeg <;> simp_all
    rw [decide_eq_false (fun w => by have := (e1.mp w).1; rw [a2] at this; cases this), a2]
    rfl
/-! count() and next() -/
noncomputable def cnA (C : (Nat → Bool) → Int) (s t P : Nat) (r : Int32) : Prop := ∃ m : Int, mostR C s t m ∧ (m = -5 → r.toInt = -5) ∧ (m ≠ -5 → r.toInt = cnQ (refP C s t m) (2 ^ P))
noncomputable def cnB (C : (Nat → Bool) → Int) (s t P : Nat) (r : Int32) : Prop := ∃ m : Int, mstM C s t m ∧ (m = 1000000 → r.toInt = -5) ∧ (m ≠ 1000000 → r.toInt = cnQ (refP C s t m) (2 ^ P))
noncomputable def nxA (C : (Nat → Bool) → Int) (s t P : Nat) (i : Int) (r : Int32) : Prop := ∃ m : Int, mostR C s t m ∧ (m = -5 → r.toInt = -5) ∧ (m ≠ -5 → scf (refP C s t m) i (2 ^ P) r)
noncomputable def nxB (C : (Nat → Bool) → Int) (s t P : Nat) (i : Int) (r : Int32) : Prop := ∃ m : Int, mstM C s t m ∧ (m = 1000000 → r.toInt = -5) ∧ (m ≠ 1000000 → (cnQ (refP C s t m) (2 ^ P) ≤ i ∧ r.toInt = -9) ∨ ∃ j : Nat, j < 2 ^ P ∧ refP C s t m j = true ∧ cnQ (refP C s t m) j = i ∧ r = nI j)
noncomputable def nxI (a b i P : Int) : Int := if ¬ ((0 ≤ a ∧ a < P) ∧ (0 ≤ b ∧ b < P) ∧ a ≠ b) ∨ i < 0 then -1 else 0
theorem p2_le {P : Int32} (h : 0 ≤ P.toInt ∧ P.toInt ≤ 12) : 2 ^ P.toNatClampNeg ≤ 4096 := by
  have c := clI (i := P) h.1
  exact Nat.le_trans (Nat.pow_le_pow_right (n := 2) (by decide) (show P.toNatClampNeg ≤ 12 by omega)) (by decide)
end

section
set_option maxHeartbeats 4000000 in
set_option maxRecDepth 100000 in
theorem c_X7_letIn2 (l : Launch) (D : va_G) (cy : Nat → ClassId) (sz : Nat) (xh : Nat) (u1 : Int32) (u2 : Int32) (u3 : Int32) (u4 : Int32) (u5 : Int32) (u6 : Int32) (u7 : Int32) (u8 : Int32) (xc : Nat) (xk : Nat) (clo : Nat) (cro : Nat) (c4 : Nat) (c5 : Nat) (c6 : Nat) (c7 : Nat) (c8 : Nat) (xn : Nat) (n1 : Nat) (n2 : Nat) (n3 : Nat) (n4 : Nat) (n5 : Nat) (vp : Int32) (vn : Int32) (rl : Nat → Nat) (Ml : Nat → Nat → Int32) (a1 : Int32) (a2 : Int32) (hvp : 0 ≤ vp.toInt ∧ vp.toInt ≤ 12) (q1 : 0 ≤ a1.toInt ∧ a1.toInt < vp.toInt) (hM : ∀ x y : Nat, x < vp.toNatClampNeg → y < vp.toNatClampNeg → 0 ≤ zM Ml x y ∧ zM Ml x y ≤ 80000000) : Met l yX7_letIn wsX7_letIn ({ frames := 0, cells := 0, slots := 0, locals := 0 }) (va_Pc [.ref xh, .int a1, .int a2] (fun U => U.heap.size = sz ∧ va_P D vwCl [ob7_0_ xh xc u1 u2 u3 u4 u5 u6 u7 u8, ob0_0_ xc xn xk clo cro c4 c5 c6 c7 c8, ob3_0_ xn vp vn n1 n2 n3 n4 n5, aq_ cy 6 clo 12 (gf_ rl), ai_ cy (rl 0) 12 (Ml 0), ai_ cy (rl 1) 12 (Ml 1), ai_ cy (rl 2) 12 (Ml 2), ai_ cy (rl 3) 12 (Ml 3), ai_ cy (rl 4) 12 (Ml 4), ai_ cy (rl 5) 12 (Ml 5), ai_ cy (rl 6) 12 (Ml 6), ai_ cy (rl 7) 12 (Ml 7), ai_ cy (rl 8) 12 (Ml 8), ai_ cy (rl 9) 12 (Ml 9), ai_ cy (rl 10) 12 (Ml 10), ai_ cy (rl 11) 12 (Ml 11)] U.heap ∧ kg_ D cy U ∧ va_D (fun _ => True) [ob7_0_ xh xc u1 u2 u3 u4 u5 u6 u7 u8, ob0_0_ xc xn xk clo cro c4 c5 c6 c7 c8, ob3_0_ xn vp vn n1 n2 n3 n4 n5, aq_ cy 6 clo 12 (gf_ rl), ai_ cy (rl 0) 12 (Ml 0), ai_ cy (rl 1) 12 (Ml 1), ai_ cy (rl 2) 12 (Ml 2), ai_ cy (rl 3) 12 (Ml 3), ai_ cy (rl 4) 12 (Ml 4), ai_ cy (rl 5) 12 (Ml 5), ai_ cy (rl 6) 12 (Ml 6), ai_ cy (rl 7) 12 (Ml 7), ai_ cy (rl 8) 12 (Ml 8), ai_ cy (rl 9) 12 (Ml 9), ai_ cy (rl 10) 12 (Ml 10), ai_ cy (rl 11) 12 (Ml 11)])) (va_Qi (fun (r : Int32) (_ : Unit) => (r.toInt = sumI (inS (zM Ml) (bt a2) a1.toNatClampNeg) vp.toNatClampNeg) ∧ (0 ≤ r.toInt ∧ r.toInt ≤ 960000000)) (fun (_ : Unit) (_ : State) => True) (va_A [] sz)) 0 0 (va_A [] sz) := by
  refine ofQ (cc := cX7_letIn) (maxL := 5) (ret := (some .int)) (by decide) rfl ?_
  intro p e s m args below meth c s₁ Q hQ B hml hv
  obtain ⟨rfl, hsz, hP, hK, hD0⟩ := hv
  have hG := hK.2
  have hK := hK.1
  have hx := B.exec
  have hb := B.bytes
  have hr := B.returns
  have hts := atoms_spec (ws := wsX7_letIn) B.pre
  have hown : s.vm.findClass RX7 = some m.cls := by have h_ := findClass_of_methodNamed B.named; exact h_
  have hlocks := B.notSynchronized
  subst hsz
  have hD : va_D (va_A [] s.heap.size) [] := dd_nil
  generalize hAe : va_A [] s.heap.size = A at hD hQ
  have hA : ∀ q : Nat, s.heap.size ≤ q → A q := fun q h => by rw [← hAe]; exact Or.inr h
  have hS : va_S A s.heap s.heap [] := va_S.rf
  have hl := lv_entry ([.ref xh, .int a1, .int a2]) (n := 5) (Nat.le_of_ble_eq_true rfl)
  rw [lg_entry_eq]
  generalize (lg_sl ([.ref xh, .int a1, .int a2]) ++ List.replicate (5 - (lg_sl ([.ref xh, .int a1, .int a2])).length) Slot.unset).toArray = ls at hl ⊢
  have hl : lv_has ls 5 [(0, .ref xh), (1, .int a1), (2, .int a2)] := hl
  have z0 : (0 : Int32).toInt = 0 := by decide
  have z1 : (1 : Int32).toInt = 1 := by decide
  refine lv_iconst (v := 0) hx hb dB_36_1_73.1.1.1.1 (by decide) ?_
  refine lv_istore_n (lv' := [(3, .int 0), (0, .ref xh), (1, .int a1), (2, .int a2)]) hx hb dB_36_1_73.1.1.1.2 rfl hl (by decide) rfl (fun ls hl => ?_)
  refine lv_iload_n hx hb dB_36_1_73.1.1.2.1 rfl (lv_at hl 2 rfl) ?_
  refine lv_iconst (v := 1) hx hb dB_36_1_73.1.1.2.2 (by decide) ?_
  refine lv_iadd hx hb dB_36_1_73.1.2.1.1 ?_
  refine lv_topi (fun y_1 ey_1 => ?_)
  have ty_1 : y_1.toInt = a1.toInt + (1 : Int32).toInt := by rw [ey_1]; exact addI (by omega) (by omega)
  refine lv_istore (lv' := [(4, .int y_1), (3, .int 0), (0, .ref xh), (1, .int a1), (2, .int a2)]) hx hb dB_36_1_73.1.2.1.2 hl (by decide) rfl (fun ls hl => ?_)
  suffices LOOP_2 : ∀ (n_2 : Nat) (x4_2 : Int32) (x3_2 : Int32) (H : Heap) (locs : List Loc) (ls : Array Slot), 12 - x4_2.toInt < (n_2 : Int) → (1 ≤ x4_2.toInt) → (x4_2.toInt ≤ vp.toInt) → (0 ≤ x3_2.toInt ∧ x3_2.toInt ≤ 80000000 * x4_2.toInt) → (x3_2.toInt = sumI (inS (zM Ml) (bt a2) a1.toNatClampNeg) x4_2.toNatClampNeg) → (a1.toInt < x4_2.toInt) → va_P D vwCl [ob7_0_ xh xc u1 u2 u3 u4 u5 u6 u7 u8, ob0_0_ xc xn xk clo cro c4 c5 c6 c7 c8, ob3_0_ xn vp vn n1 n2 n3 n4 n5, aq_ cy 6 clo 12 (gf_ rl), ai_ cy (rl 0) 12 (Ml 0), ai_ cy (rl 1) 12 (Ml 1), ai_ cy (rl 2) 12 (Ml 2), ai_ cy (rl 3) 12 (Ml 3), ai_ cy (rl 4) 12 (Ml 4), ai_ cy (rl 5) 12 (Ml 5), ai_ cy (rl 6) 12 (Ml 6), ai_ cy (rl 7) 12 (Ml 7), ai_ cy (rl 8) 12 (Ml 8), ai_ cy (rl 9) 12 (Ml 9), ai_ cy (rl 10) 12 (Ml 10), ai_ cy (rl 11) 12 (Ml 11)] H → va_S A s.heap H locs → lv_has ls 5 [(4, .int x4_2), (3, .int x3_2), (0, .ref xh), (1, .int a1), (2, .int a2)] → W p l e ({ frames := 0, cells := 0, slots := 0, locals := 0 } : Room) s m (([.ref xh, .int a1, .int a2] : List Value).toArray) below meth c H locs 0 0 Q (F0 m 7 ls []) from LOOP_2 ((12 - y_1.toInt).toNat + 1) y_1 (0 : Int32) _ _ _ (by omega) (by first | with_reducible assumption | omega | assumption) (by first | with_reducible assumption | omega | assumption) (by first | with_reducible assumption | omega | assumption) (by first | exact in_0 (by omega) (by omega) | exact cnt_st v_none (by omega) (by omega) (by omega)) (by first | with_reducible assumption | omega | assumption) hP hS (lv_sub hl [0, 1, 2, 3, 4] rfl)
  intro n_2
  induction n_2 with
  | zero =>
    intro x4_2 x3_2 H locs ls hm v0_2 v1_2 v2_2 v3_2 v4_2 hP hS hl
    exact absurd hm (by omega)
  | succ n_2 ih_2 =>
    intro x4_2 x3_2 H locs ls hm v0_2 v1_2 v2_2 v3_2 v4_2 hP hS hl
    refine lv_iload hx hb dB_36_1_73.1.2.2.1 (lv_at hl 0 rfl) ?_
    refine lv_aload_n hx hb dB_36_1_73.1.2.2.2 rfl (lv_at hl 2 rfl) ?_
    refine va_get (ci := 7) (v := .ref xc) (C := RX7) (T := TX7) (N := 9) hx hb hts (fun _ h => List.mem_cons_of_mem _ (List.mem_append_left _ (List.mem_append_left _ (List.mem_append_right _ h)))) hown hK.1 hP 0 rfl rfl 0 (by decide) (hts (.fieldLink RX7 9 "CutAtlas$SetHunt" "current" "LCutAtlas$Current;") (List.mem_of_getElem? (i := 1) rfl)) (fun _ h9 => h9) rfl dB_36_1_73.2.1.1.1 ?_
    refine va_get (ci := 0) (v := .ref xn) (C := RX0) (T := TX0) (N := 9) hx hb hts (fun _ h => List.mem_cons_of_mem _ (List.mem_append_left _ (List.mem_append_right _ h))) hown hK.1 hP 1 rfl rfl 0 (by decide) (hts (.fieldLink RX7 39 "CutAtlas$Current" "net" "LCutAtlas$Net;") (List.mem_of_getElem? (i := 2) rfl)) (fun _ h9 => h9) rfl dB_36_1_73.2.1.1.2 ?_
    refine va_get (ci := 3) (v := .int vp) (C := RX3) (T := TX3) (N := 7) hx hb hts (fun _ h => List.mem_cons_of_mem _ (List.mem_append_right _ h)) hown hK.1 hP 2 rfl rfl 0 (by decide) (hts (.fieldLink RX7 45 "CutAtlas$Net" "places" "I") (List.mem_of_getElem? (i := 3) rfl)) (fun _ h9 => h9) rfl dB_36_1_73.2.1.2.1 ?_
    refine lv_icmp_ge (tgt := 53) hx hb dB_36_1_73.2.1.2.2 (by decide) (fun c_3 => ?_) (fun c_3 => ?_)
    · have t_3 : vp.toInt ≤ x4_2.toInt := Int32.le_iff_toInt_le.mp c_3
      refine lv_iload_n hx hb dB_36_1_74.2.2.2.2 rfl (lv_at hl 1 rfl) ?_
      rw [hQ]
      exact W.iret (v := x3_2) hx hb hr (fun t ht hW => ⟨⟨x3_2, (), rfl, ⟨sum_end v3_2 (by omega), by omega⟩, trivial⟩, hS.F ht⟩) hS.2.2 dB_36_1_75
    · have t_3 : ¬ vp.toInt ≤ x4_2.toInt := fun h => c_3 (Int32.le_iff_toInt_le.mpr h)
      refine lv_iload_n hx hb dB_36_1_73.2.2.1.1 rfl (lv_at hl 4 rfl) ?_
      refine lv_iload hx hb dB_36_1_73.2.2.1.2 (lv_at hl 0 rfl) ?_
      refine lv_ishr hx hb dB_36_1_73.2.2.2.1 ?_
      refine lv_topi (fun y_4 ey_4 => ?_)
      refine lv_iconst (v := 1) hx hb dB_36_1_73.2.2.2.2 (by decide) ?_
      refine lv_iand hx hb dB_36_1_74.1.1.1.1 ?_
      refine lv_topi (fun y_5 ey_5 => ?_)
      have hbw_ := bI_w (x := a2) (y := x4_2) (by omega) (by omega) ey_4 ey_5
      have hin_ := in_v (M := (zM Ml)) (S := bt a2) (nc_lt (x := a1) (P := x4_2) (by omega) (by omega)) hbw_
      refine lv_iconst (v := 1) hx hb dB_36_1_74.1.1.1.2 (by decide) ?_
      refine lv_icmp_ne (tgt := 47) hx hb dB_36_1_74.1.1.2.1 (by decide) (fun c_6 => ?_) (fun c_6 => ?_)
      · have t_6 : ¬ y_5.toInt = (1 : Int32).toInt := fun h => c_6 (Int32.toInt_inj.mp h)
        obtain ⟨y_7, ey_7⟩ : ∃ y : Int32, y = x4_2 + 1 := ⟨_, rfl⟩
        have ty_7 : y_7.toInt = x4_2.toInt + (1 : Int32).toInt := by rw [ey_7]; exact addI (by omega) (by omega)
        refine lv_iinc (v := y_7) (lv' := [(4, .int y_7), (3, .int x3_2), (0, .ref xh), (1, .int a1), (2, .int a2)]) hx hb dB_36_1_74.2.2.1.2 hl (k := 0) rfl (by rw [ey_7]; rfl) (by decide) rfl (fun ls hl => ?_)
        refine lv_goto (tgt := 7) hx hb dB_36_1_74.2.2.2.1 (by decide) ?_
        exact ih_2 y_7 x3_2 _ _ _ (by omega) (by first | with_reducible assumption | omega | assumption) (by first | with_reducible assumption | omega | assumption) (by first | with_reducible assumption | omega | assumption) (by first | exact in_0 (by omega) (by omega) | exact cnt_st v3_2 (by omega) (by omega) (by omega)) (by first | with_reducible assumption | omega | assumption) hP hS (lv_sub hl [0, 1, 2, 3, 4] rfl)
      · have t_6 : y_5.toInt = (1 : Int32).toInt := congrArg Int32.toInt c_6
        refine lv_iload_n hx hb dB_36_1_74.1.1.2.2 rfl (lv_at hl 1 rfl) ?_
        refine lv_aload_n hx hb dB_36_1_74.1.2.1.1 rfl (lv_at hl 2 rfl) ?_
        refine va_get (ci := 7) (v := .ref xc) (C := RX7) (T := TX7) (N := 9) hx hb hts (fun _ h => List.mem_cons_of_mem _ (List.mem_append_left _ (List.mem_append_left _ (List.mem_append_right _ h)))) hown hK.1 hP 0 rfl rfl 0 (by decide) (hts (.fieldLink RX7 9 "CutAtlas$SetHunt" "current" "LCutAtlas$Current;") (List.mem_of_getElem? (i := 1) rfl)) (fun _ h9 => h9) rfl dB_36_1_74.1.2.1.2 ?_
        refine va_get (ci := 0) (v := .ref clo) (C := RX0) (T := TX0) (N := 9) hx hb hts (fun _ h => List.mem_cons_of_mem _ (List.mem_append_left _ (List.mem_append_right _ h))) hown hK.1 hP 1 rfl rfl 2 (by decide) (hts (.fieldLink RX7 65 "CutAtlas$Current" "lets" "[[I") (List.mem_of_getElem? (i := 4) rfl)) (fun _ h9 => h9) rfl dB_36_1_74.1.2.2.1 ?_
        refine lv_iload hx hb dB_36_1_74.1.2.2.2 (lv_at hl 0 rfl) ?_
        have h_8 : vp_in x4_2 12 := in_I (by first | with_reducible assumption | omega) (by omega)
        refine va_alda hx hb hG hP 3 rfl (i := x4_2) h_8 dB_36_1_74.2.1.1.1 ?_
        refine lv_topv (v' := .ref (rl x4_2.toNatClampNeg)) (gf_at h_8) ?_
        refine lv_iload_n hx hb dB_36_1_74.2.1.1.2 rfl (lv_at hl 3 rfl) ?_
        have h_9 : vp_in a1 12 := in_I (by first | with_reducible assumption | omega) (by omega)
        have hPg : va_P D vwCl (([ob7_0_ xh xc u1 u2 u3 u4 u5 u6 u7 u8, ob0_0_ xc xn xk clo cro c4 c5 c6 c7 c8, ob3_0_ xn vp vn n1 n2 n3 n4 n5, aq_ cy 6 clo 12 (gf_ rl)] : va_W) ++ (gro (cy 0) rl Ml ++ ([] : va_W))) H := hP
        refine va_gld (X := [ob7_0_ xh xc u1 u2 u3 u4 u5 u6 u7 u8, ob0_0_ xc xn xk clo cro c4 c5 c6 c7 c8, ob3_0_ xn vp vn n1 n2 n3 n4 n5, aq_ cy 6 clo 12 (gf_ rl)]) (Y := []) (r := rl) (M := Ml) (k := x4_2.toNatClampNeg) hx hb hK.1 hPg 0 rfl (in_lt h_8) (i := a1) h_9 dB_36_1_74.2.1.2.1 ?_
        refine lv_topi (fun y_10 ey_10 => ?_)
        have km_ : y_10.toInt = zM Ml x4_2.toNatClampNeg a1.toNatClampNeg := by unfold zM; rw [ey_10]
        have hm_ := hM x4_2.toNatClampNeg a1.toNatClampNeg (nc_lt (by omega) (by omega)) (nc_lt (by omega) (by omega))
        refine lv_iadd hx hb dB_36_1_74.2.1.2.2 ?_
        refine lv_topi (fun y_11 ey_11 => ?_)
        have ty_11 : y_11.toInt = x3_2.toInt + y_10.toInt := by rw [ey_11]; exact addI (by omega) (by omega)
        refine lv_istore_n (lv' := [(3, .int y_11), (4, .int x4_2), (0, .ref xh), (1, .int a1), (2, .int a2)]) hx hb dB_36_1_74.2.2.1.1 rfl hl (by decide) rfl (fun ls hl => ?_)
        obtain ⟨y_12, ey_12⟩ : ∃ y : Int32, y = x4_2 + 1 := ⟨_, rfl⟩
        have ty_12 : y_12.toInt = x4_2.toInt + (1 : Int32).toInt := by rw [ey_12]; exact addI (by omega) (by omega)
        refine lv_iinc (v := y_12) (lv' := [(4, .int y_12), (3, .int y_11), (0, .ref xh), (1, .int a1), (2, .int a2)]) hx hb dB_36_1_74.2.2.1.2 hl (k := 1) rfl (by rw [ey_12]; rfl) (by decide) rfl (fun ls hl => ?_)
        refine lv_goto (tgt := 7) hx hb dB_36_1_74.2.2.2.1 (by decide) ?_
        exact ih_2 y_12 y_11 _ _ _ (by omega) (by first | with_reducible assumption | omega | assumption) (by first | with_reducible assumption | omega | assumption) (by first | with_reducible assumption | omega | assumption) (by first | exact in_0 (by omega) (by omega) | exact cnt_st v3_2 (by omega) (by omega) (by omega)) (by first | with_reducible assumption | omega | assumption) hP hS (lv_sub hl [0, 1, 2, 3, 4] rfl)

set_option maxHeartbeats 4000000 in
set_option maxRecDepth 100000 in
theorem c_X7_letOut2 (l : Launch) (D : va_G) (cy : Nat → ClassId) (sz : Nat) (xh : Nat) (u1 : Int32) (u2 : Int32) (u3 : Int32) (u4 : Int32) (u5 : Int32) (u6 : Int32) (u7 : Int32) (u8 : Int32) (xc : Nat) (xk : Nat) (clo : Nat) (cro : Nat) (c4 : Nat) (c5 : Nat) (c6 : Nat) (c7 : Nat) (c8 : Nat) (xn : Nat) (n1 : Nat) (n2 : Nat) (n3 : Nat) (n4 : Nat) (n5 : Nat) (vp : Int32) (vn : Int32) (rl : Nat → Nat) (Ml : Nat → Nat → Int32) (a1 : Int32) (a2 : Int32) (hvp : 0 ≤ vp.toInt ∧ vp.toInt ≤ 12) (q1 : 0 ≤ a1.toInt ∧ a1.toInt < vp.toInt) (hM : ∀ x y : Nat, x < vp.toNatClampNeg → y < vp.toNatClampNeg → 0 ≤ zM Ml x y ∧ zM Ml x y ≤ 80000000) : Met l yX7_letOut wsX7_letOut ({ frames := 0, cells := 0, slots := 0, locals := 0 }) (va_Pc [.ref xh, .int a1, .int a2] (fun U => U.heap.size = sz ∧ va_P D vwCl [ob7_0_ xh xc u1 u2 u3 u4 u5 u6 u7 u8, ob0_0_ xc xn xk clo cro c4 c5 c6 c7 c8, ob3_0_ xn vp vn n1 n2 n3 n4 n5, aq_ cy 6 clo 12 (gf_ rl), ai_ cy (rl 0) 12 (Ml 0), ai_ cy (rl 1) 12 (Ml 1), ai_ cy (rl 2) 12 (Ml 2), ai_ cy (rl 3) 12 (Ml 3), ai_ cy (rl 4) 12 (Ml 4), ai_ cy (rl 5) 12 (Ml 5), ai_ cy (rl 6) 12 (Ml 6), ai_ cy (rl 7) 12 (Ml 7), ai_ cy (rl 8) 12 (Ml 8), ai_ cy (rl 9) 12 (Ml 9), ai_ cy (rl 10) 12 (Ml 10), ai_ cy (rl 11) 12 (Ml 11)] U.heap ∧ kg_ D cy U ∧ va_D (fun _ => True) [ob7_0_ xh xc u1 u2 u3 u4 u5 u6 u7 u8, ob0_0_ xc xn xk clo cro c4 c5 c6 c7 c8, ob3_0_ xn vp vn n1 n2 n3 n4 n5, aq_ cy 6 clo 12 (gf_ rl), ai_ cy (rl 0) 12 (Ml 0), ai_ cy (rl 1) 12 (Ml 1), ai_ cy (rl 2) 12 (Ml 2), ai_ cy (rl 3) 12 (Ml 3), ai_ cy (rl 4) 12 (Ml 4), ai_ cy (rl 5) 12 (Ml 5), ai_ cy (rl 6) 12 (Ml 6), ai_ cy (rl 7) 12 (Ml 7), ai_ cy (rl 8) 12 (Ml 8), ai_ cy (rl 9) 12 (Ml 9), ai_ cy (rl 10) 12 (Ml 10), ai_ cy (rl 11) 12 (Ml 11)])) (va_Qi (fun (r : Int32) (_ : Unit) => (r.toInt = sumI (ouS (zM Ml) (bt a2) a1.toNatClampNeg) vp.toNatClampNeg) ∧ (0 ≤ r.toInt ∧ r.toInt ≤ 960000000)) (fun (_ : Unit) (_ : State) => True) (va_A [] sz)) 0 0 (va_A [] sz) := by
  refine ofQ (cc := cX7_letOut) (maxL := 5) (ret := (some .int)) (by decide) rfl ?_
  intro p e s m args below meth c s₁ Q hQ B hml hv
  obtain ⟨rfl, hsz, hP, hK, hD0⟩ := hv
  have hG := hK.2
  have hK := hK.1
  have hx := B.exec
  have hb := B.bytes
  have hr := B.returns
  have hts := atoms_spec (ws := wsX7_letOut) B.pre
  have hown : s.vm.findClass RX7 = some m.cls := by have h_ := findClass_of_methodNamed B.named; exact h_
  have hlocks := B.notSynchronized
  subst hsz
  have hD : va_D (va_A [] s.heap.size) [] := dd_nil
  generalize hAe : va_A [] s.heap.size = A at hD hQ
  have hA : ∀ q : Nat, s.heap.size ≤ q → A q := fun q h => by rw [← hAe]; exact Or.inr h
  have hS : va_S A s.heap s.heap [] := va_S.rf
  have hl := lv_entry ([.ref xh, .int a1, .int a2]) (n := 5) (Nat.le_of_ble_eq_true rfl)
  rw [lg_entry_eq]
  generalize (lg_sl ([.ref xh, .int a1, .int a2]) ++ List.replicate (5 - (lg_sl ([.ref xh, .int a1, .int a2])).length) Slot.unset).toArray = ls at hl ⊢
  have hl : lv_has ls 5 [(0, .ref xh), (1, .int a1), (2, .int a2)] := hl
  have z0 : (0 : Int32).toInt = 0 := by decide
  have z1 : (1 : Int32).toInt = 1 := by decide
  refine lv_iconst (v := 0) hx hb dB_36_1_76.1.1.1.1 (by decide) ?_
  refine lv_istore_n (lv' := [(3, .int 0), (0, .ref xh), (1, .int a1), (2, .int a2)]) hx hb dB_36_1_76.1.1.1.2 rfl hl (by decide) rfl (fun ls hl => ?_)
  refine lv_iload_n hx hb dB_36_1_76.1.1.2.1 rfl (lv_at hl 2 rfl) ?_
  refine lv_iconst (v := 1) hx hb dB_36_1_76.1.1.2.2 (by decide) ?_
  refine lv_iadd hx hb dB_36_1_76.1.2.1.1 ?_
  refine lv_topi (fun y_1 ey_1 => ?_)
  have ty_1 : y_1.toInt = a1.toInt + (1 : Int32).toInt := by rw [ey_1]; exact addI (by omega) (by omega)
  refine lv_istore (lv' := [(4, .int y_1), (3, .int 0), (0, .ref xh), (1, .int a1), (2, .int a2)]) hx hb dB_36_1_76.1.2.1.2 hl (by decide) rfl (fun ls hl => ?_)
  suffices LOOP_2 : ∀ (n_2 : Nat) (x4_2 : Int32) (x3_2 : Int32) (H : Heap) (locs : List Loc) (ls : Array Slot), 12 - x4_2.toInt < (n_2 : Int) → (1 ≤ x4_2.toInt) → (x4_2.toInt ≤ vp.toInt) → (0 ≤ x3_2.toInt ∧ x3_2.toInt ≤ 80000000 * x4_2.toInt) → (x3_2.toInt = sumI (ouS (zM Ml) (bt a2) a1.toNatClampNeg) x4_2.toNatClampNeg) → (a1.toInt < x4_2.toInt) → va_P D vwCl [ob7_0_ xh xc u1 u2 u3 u4 u5 u6 u7 u8, ob0_0_ xc xn xk clo cro c4 c5 c6 c7 c8, ob3_0_ xn vp vn n1 n2 n3 n4 n5, aq_ cy 6 clo 12 (gf_ rl), ai_ cy (rl 0) 12 (Ml 0), ai_ cy (rl 1) 12 (Ml 1), ai_ cy (rl 2) 12 (Ml 2), ai_ cy (rl 3) 12 (Ml 3), ai_ cy (rl 4) 12 (Ml 4), ai_ cy (rl 5) 12 (Ml 5), ai_ cy (rl 6) 12 (Ml 6), ai_ cy (rl 7) 12 (Ml 7), ai_ cy (rl 8) 12 (Ml 8), ai_ cy (rl 9) 12 (Ml 9), ai_ cy (rl 10) 12 (Ml 10), ai_ cy (rl 11) 12 (Ml 11)] H → va_S A s.heap H locs → lv_has ls 5 [(4, .int x4_2), (3, .int x3_2), (0, .ref xh), (1, .int a1), (2, .int a2)] → W p l e ({ frames := 0, cells := 0, slots := 0, locals := 0 } : Room) s m (([.ref xh, .int a1, .int a2] : List Value).toArray) below meth c H locs 0 0 Q (F0 m 7 ls []) from LOOP_2 ((12 - y_1.toInt).toNat + 1) y_1 (0 : Int32) _ _ _ (by omega) (by first | with_reducible assumption | omega | assumption) (by first | with_reducible assumption | omega | assumption) (by first | with_reducible assumption | omega | assumption) (by first | exact ou_0 (by omega) (by omega) | exact cnt_st v_none (by omega) (by omega) (by omega)) (by first | with_reducible assumption | omega | assumption) hP hS (lv_sub hl [0, 1, 2, 3, 4] rfl)
  intro n_2
  induction n_2 with
  | zero =>
    intro x4_2 x3_2 H locs ls hm v0_2 v1_2 v2_2 v3_2 v4_2 hP hS hl
    exact absurd hm (by omega)
  | succ n_2 ih_2 =>
    intro x4_2 x3_2 H locs ls hm v0_2 v1_2 v2_2 v3_2 v4_2 hP hS hl
    refine lv_iload hx hb dB_36_1_76.1.2.2.1 (lv_at hl 0 rfl) ?_
    refine lv_aload_n hx hb dB_36_1_76.1.2.2.2 rfl (lv_at hl 2 rfl) ?_
    refine va_get (ci := 7) (v := .ref xc) (C := RX7) (T := TX7) (N := 9) hx hb hts (fun _ h => List.mem_cons_of_mem _ (List.mem_append_left _ (List.mem_append_left _ (List.mem_append_right _ h)))) hown hK.1 hP 0 rfl rfl 0 (by decide) (hts (.fieldLink RX7 9 "CutAtlas$SetHunt" "current" "LCutAtlas$Current;") (List.mem_of_getElem? (i := 1) rfl)) (fun _ h9 => h9) rfl dB_36_1_76.2.1.1.1 ?_
    refine va_get (ci := 0) (v := .ref xn) (C := RX0) (T := TX0) (N := 9) hx hb hts (fun _ h => List.mem_cons_of_mem _ (List.mem_append_left _ (List.mem_append_right _ h))) hown hK.1 hP 1 rfl rfl 0 (by decide) (hts (.fieldLink RX7 39 "CutAtlas$Current" "net" "LCutAtlas$Net;") (List.mem_of_getElem? (i := 2) rfl)) (fun _ h9 => h9) rfl dB_36_1_76.2.1.1.2 ?_
    refine va_get (ci := 3) (v := .int vp) (C := RX3) (T := TX3) (N := 7) hx hb hts (fun _ h => List.mem_cons_of_mem _ (List.mem_append_right _ h)) hown hK.1 hP 2 rfl rfl 0 (by decide) (hts (.fieldLink RX7 45 "CutAtlas$Net" "places" "I") (List.mem_of_getElem? (i := 3) rfl)) (fun _ h9 => h9) rfl dB_36_1_76.2.1.2.1 ?_
    refine lv_icmp_ge (tgt := 52) hx hb dB_36_1_76.2.1.2.2 (by decide) (fun c_3 => ?_) (fun c_3 => ?_)
    · have t_3 : vp.toInt ≤ x4_2.toInt := Int32.le_iff_toInt_le.mp c_3
      refine lv_iload_n hx hb dB_36_1_77.2.2.2.1 rfl (lv_at hl 1 rfl) ?_
      rw [hQ]
      exact W.iret (v := x3_2) hx hb hr (fun t ht hW => ⟨⟨x3_2, (), rfl, ⟨sum_end v3_2 (by omega), by omega⟩, trivial⟩, hS.F ht⟩) hS.2.2 dB_36_1_77.2.2.2.2
    · have t_3 : ¬ vp.toInt ≤ x4_2.toInt := fun h => c_3 (Int32.le_iff_toInt_le.mpr h)
      refine lv_iload_n hx hb dB_36_1_76.2.2.1.1 rfl (lv_at hl 4 rfl) ?_
      refine lv_iload hx hb dB_36_1_76.2.2.1.2 (lv_at hl 0 rfl) ?_
      refine lv_ishr hx hb dB_36_1_76.2.2.2.1 ?_
      refine lv_topi (fun y_4 ey_4 => ?_)
      refine lv_iconst (v := 1) hx hb dB_36_1_76.2.2.2.2 (by decide) ?_
      refine lv_iand hx hb dB_36_1_77.1.1.1.1 ?_
      refine lv_topi (fun y_5 ey_5 => ?_)
      have hbw_ := bI_w (x := a2) (y := x4_2) (by omega) (by omega) ey_4 ey_5
      have hin_ := ou_v (M := (zM Ml)) (S := bt a2) (nc_lt (x := a1) (P := x4_2) (by omega) (by omega)) hbw_
      refine lv_if_ne (tgt := 46) hx hb dB_36_1_77.1.1.1.2 (by decide) (fun c_6 => ?_) (fun c_6 => ?_)
      · have t_6 : ¬ y_5.toInt = (0 : Int32).toInt := fun h => c_6 (Int32.toInt_inj.mp h)
        obtain ⟨y_7, ey_7⟩ : ∃ y : Int32, y = x4_2 + 1 := ⟨_, rfl⟩
        have ty_7 : y_7.toInt = x4_2.toInt + (1 : Int32).toInt := by rw [ey_7]; exact addI (by omega) (by omega)
        refine lv_iinc (v := y_7) (lv' := [(4, .int y_7), (3, .int x3_2), (0, .ref xh), (1, .int a1), (2, .int a2)]) hx hb dB_36_1_77.2.2.1.1 hl (k := 0) rfl (by rw [ey_7]; rfl) (by decide) rfl (fun ls hl => ?_)
        refine lv_goto (tgt := 7) hx hb dB_36_1_77.2.2.1.2 (by decide) ?_
        exact ih_2 y_7 x3_2 _ _ _ (by omega) (by first | with_reducible assumption | omega | assumption) (by first | with_reducible assumption | omega | assumption) (by first | with_reducible assumption | omega | assumption) (by first | exact ou_0 (by omega) (by omega) | exact cnt_st v3_2 (by omega) (by omega) (by omega)) (by first | with_reducible assumption | omega | assumption) hP hS (lv_sub hl [0, 1, 2, 3, 4] rfl)
      · have t_6 : y_5.toInt = (0 : Int32).toInt := congrArg Int32.toInt c_6
        refine lv_iload_n hx hb dB_36_1_77.1.1.2.1 rfl (lv_at hl 1 rfl) ?_
        refine lv_aload_n hx hb dB_36_1_77.1.1.2.2 rfl (lv_at hl 2 rfl) ?_
        refine va_get (ci := 7) (v := .ref xc) (C := RX7) (T := TX7) (N := 9) hx hb hts (fun _ h => List.mem_cons_of_mem _ (List.mem_append_left _ (List.mem_append_left _ (List.mem_append_right _ h)))) hown hK.1 hP 0 rfl rfl 0 (by decide) (hts (.fieldLink RX7 9 "CutAtlas$SetHunt" "current" "LCutAtlas$Current;") (List.mem_of_getElem? (i := 1) rfl)) (fun _ h9 => h9) rfl dB_36_1_77.1.2.1.1 ?_
        refine va_get (ci := 0) (v := .ref clo) (C := RX0) (T := TX0) (N := 9) hx hb hts (fun _ h => List.mem_cons_of_mem _ (List.mem_append_left _ (List.mem_append_right _ h))) hown hK.1 hP 1 rfl rfl 2 (by decide) (hts (.fieldLink RX7 65 "CutAtlas$Current" "lets" "[[I") (List.mem_of_getElem? (i := 4) rfl)) (fun _ h9 => h9) rfl dB_36_1_77.1.2.1.2 ?_
        refine lv_iload_n hx hb dB_36_1_77.1.2.2.1 rfl (lv_at hl 3 rfl) ?_
        have h_8 : vp_in a1 12 := in_I (by first | with_reducible assumption | omega) (by omega)
        refine va_alda hx hb hG hP 3 rfl (i := a1) h_8 dB_36_1_77.1.2.2.2 ?_
        refine lv_topv (v' := .ref (rl a1.toNatClampNeg)) (gf_at h_8) ?_
        refine lv_iload hx hb dB_36_1_77.2.1.1.1 (lv_at hl 0 rfl) ?_
        have h_9 : vp_in x4_2 12 := in_I (by first | with_reducible assumption | omega) (by omega)
        have hPg : va_P D vwCl (([ob7_0_ xh xc u1 u2 u3 u4 u5 u6 u7 u8, ob0_0_ xc xn xk clo cro c4 c5 c6 c7 c8, ob3_0_ xn vp vn n1 n2 n3 n4 n5, aq_ cy 6 clo 12 (gf_ rl)] : va_W) ++ (gro (cy 0) rl Ml ++ ([] : va_W))) H := hP
        refine va_gld (X := [ob7_0_ xh xc u1 u2 u3 u4 u5 u6 u7 u8, ob0_0_ xc xn xk clo cro c4 c5 c6 c7 c8, ob3_0_ xn vp vn n1 n2 n3 n4 n5, aq_ cy 6 clo 12 (gf_ rl)]) (Y := []) (r := rl) (M := Ml) (k := a1.toNatClampNeg) hx hb hK.1 hPg 0 rfl (in_lt h_8) (i := x4_2) h_9 dB_36_1_77.2.1.1.2 ?_
        refine lv_topi (fun y_10 ey_10 => ?_)
        have km_ : y_10.toInt = zM Ml a1.toNatClampNeg x4_2.toNatClampNeg := by unfold zM; rw [ey_10]
        have hm_ := hM a1.toNatClampNeg x4_2.toNatClampNeg (nc_lt (by omega) (by omega)) (nc_lt (by omega) (by omega))
        refine lv_iadd hx hb dB_36_1_77.2.1.2.1 ?_
        refine lv_topi (fun y_11 ey_11 => ?_)
        have ty_11 : y_11.toInt = x3_2.toInt + y_10.toInt := by rw [ey_11]; exact addI (by omega) (by omega)
        refine lv_istore_n (lv' := [(3, .int y_11), (4, .int x4_2), (0, .ref xh), (1, .int a1), (2, .int a2)]) hx hb dB_36_1_77.2.1.2.2 rfl hl (by decide) rfl (fun ls hl => ?_)
        obtain ⟨y_12, ey_12⟩ : ∃ y : Int32, y = x4_2 + 1 := ⟨_, rfl⟩
        have ty_12 : y_12.toInt = x4_2.toInt + (1 : Int32).toInt := by rw [ey_12]; exact addI (by omega) (by omega)
        refine lv_iinc (v := y_12) (lv' := [(4, .int y_12), (3, .int y_11), (0, .ref xh), (1, .int a1), (2, .int a2)]) hx hb dB_36_1_77.2.2.1.1 hl (k := 1) rfl (by rw [ey_12]; rfl) (by decide) rfl (fun ls hl => ?_)
        refine lv_goto (tgt := 7) hx hb dB_36_1_77.2.2.1.2 (by decide) ?_
        exact ih_2 y_12 y_11 _ _ _ (by omega) (by first | with_reducible assumption | omega | assumption) (by first | with_reducible assumption | omega | assumption) (by first | with_reducible assumption | omega | assumption) (by first | exact ou_0 (by omega) (by omega) | exact cnt_st v3_2 (by omega) (by omega) (by omega)) (by first | with_reducible assumption | omega | assumption) hP hS (lv_sub hl [0, 1, 2, 3, 4] rfl)

set_option maxHeartbeats 4000000 in
set_option maxRecDepth 100000 in
theorem c_X7_meet2 (l : Launch) (D : va_G) (cy : Nat → ClassId) (sz : Nat) (xh : Nat) (u1 : Int32) (u2 : Int32) (u3 : Int32) (u4 : Int32) (u5 : Int32) (u6 : Int32) (u7 : Int32) (u8 : Int32) (xc : Nat) (a1 : Int32) (a2 : Int32) (hmb : 0 ≤ u5.toInt ∧ u5.toInt ≤ 5000) : Met l yX7_meet wsX7_meet ({ frames := 0, cells := 0, slots := 0, locals := 0 }) (va_Pc [.ref xh, .int a1, .int a2] (fun U => U.heap.size = sz ∧ va_P D vwCl [ob7_0_ xh xc u1 u2 u3 u4 u5 u6 u7 u8] U.heap ∧ kk_ D cy U ∧ va_D (fun _ => True) [ob7_0_ xh xc u1 u2 u3 u4 u5 u6 u7 u8])) (va_Qv (fun (_ : Unit) => True) (fun (_ : Unit) (t : State) => ∃ (v5 : Int32), ∃ (v6 : Int32), ((¬ (a2.toInt = u3.toInt ∧ a1.toInt ≠ 0) → v5 = u5 ∧ v6 = u6) ∧ (a2.toInt = u3.toInt ∧ a1.toInt ≠ 0 → v5.toInt = u5.toInt + 1 ∧ ((u5.toInt = u4.toInt ∧ v6 = a1) ∨ (u5.toInt ≠ u4.toInt ∧ v6 = u6)))) ∧ va_P D vwCl [ob7_0_ xh xc u1 u2 u3 u4 v5 v6 u7 u8] t.heap ∧ va_D (va_A [ob7_0_ xh xc u1 u2 u3 u4 u5 u6 u7 u8] sz) [ob7_0_ xh xc u1 u2 u3 u4 v5 v6 u7 u8]) (va_A [ob7_0_ xh xc u1 u2 u3 u4 u5 u6 u7 u8] sz)) 0 0 (va_A [ob7_0_ xh xc u1 u2 u3 u4 u5 u6 u7 u8] sz) := by
  refine ofQ (cc := cX7_meet) (maxL := 3) (ret := none) (by decide) rfl ?_
  intro p e s m args below meth c s₁ Q hQ B hml hv
  obtain ⟨rfl, hsz, hP, hK, hD0⟩ := hv
  have hx := B.exec
  have hb := B.bytes
  have hr := B.returns
  have hts := atoms_spec (ws := wsX7_meet) B.pre
  have hown : s.vm.findClass RX7 = some m.cls := by have h_ := findClass_of_methodNamed B.named; exact h_
  have hlocks := B.notSynchronized
  subst hsz
  have hD := hD0.self (sz := s.heap.size)
  generalize hAe : va_A [ob7_0_ xh xc u1 u2 u3 u4 u5 u6 u7 u8] s.heap.size = A at hD hQ
  have hA : ∀ q : Nat, s.heap.size ≤ q → A q := fun q h => by rw [← hAe]; exact Or.inr h
  have hS : va_S A s.heap s.heap [] := va_S.rf
  have hl := lv_entry ([.ref xh, .int a1, .int a2]) (n := 3) (Nat.le_of_ble_eq_true rfl)
  rw [lg_entry_eq]
  generalize (lg_sl ([.ref xh, .int a1, .int a2]) ++ List.replicate (3 - (lg_sl ([.ref xh, .int a1, .int a2])).length) Slot.unset).toArray = ls at hl ⊢
  have hl : lv_has ls 3 [(0, .ref xh), (1, .int a1), (2, .int a2)] := hl
  have z0 : (0 : Int32).toInt = 0 := by decide
  have z1 : (1 : Int32).toInt = 1 := by decide
  refine lv_iload_n hx hb dB_36_1_78.1.1.1.1 rfl (lv_at hl 2 rfl) ?_
  refine lv_aload_n hx hb dB_36_1_78.1.1.1.2 rfl (lv_at hl 0 rfl) ?_
  refine va_get (ci := 7) (v := .int u3) (C := RX7) (T := TX7) (N := 9) hx hb hts (fun _ h => List.mem_cons_of_mem _ (List.mem_append_right _ h)) hown hK.1 hP 0 rfl rfl 3 (by decide) (hts (.fieldLink RX7 33 "CutAtlas$SetHunt" "aim" "I") (List.mem_of_getElem? (i := 1) rfl)) (fun _ h9 => h9) rfl dB_36_1_78.1.1.2.1 ?_
  refine lv_icmp_ne (tgt := 12) hx hb dB_36_1_78.1.1.2.2 (by decide) (fun c_1 => ?_) (fun c_1 => ?_)
  · have t_1 : ¬ a2.toInt = u3.toInt := fun h => c_1 (Int32.toInt_inj.mp h)
    rw [hQ]
    exact W.vret hx hb hr (fun t ht hW => ⟨⟨(), rfl, trivial, u5, u6, (⟨fun _ => ⟨rfl, rfl⟩, fun h => absurd h (by omega)⟩), by rw [ht]; exact hP, hD⟩, hS.F ht⟩) hS.2.2 dB_36_1_78.1.2.2.1
  · have t_1 : a2.toInt = u3.toInt := congrArg Int32.toInt c_1
    refine lv_iload_n hx hb dB_36_1_78.1.2.1.1 rfl (lv_at hl 1 rfl) ?_
    refine lv_if_ne (tgt := 13) hx hb dB_36_1_78.1.2.1.2 (by decide) (fun c_2 => ?_) (fun c_2 => ?_)
    · have t_2 : ¬ a1.toInt = (0 : Int32).toInt := fun h => c_2 (Int32.toInt_inj.mp h)
      refine lv_aload_n hx hb dB_36_1_78.1.2.2.2 rfl (lv_at hl 0 rfl) ?_
      refine va_get (ci := 7) (v := .int u5) (C := RX7) (T := TX7) (N := 9) hx hb hts (fun _ h => List.mem_cons_of_mem _ (List.mem_append_right _ h)) hown hK.1 hP 0 rfl rfl 5 (by decide) (hts (.fieldLink RX7 20 "CutAtlas$SetHunt" "met" "I") (List.mem_of_getElem? (i := 2) rfl)) (fun _ h9 => h9) rfl dB_36_1_78.2.1.1.1 ?_
      refine lv_aload_n hx hb dB_36_1_78.2.1.1.2 rfl (lv_at hl 0 rfl) ?_
      refine va_get (ci := 7) (v := .int u4) (C := RX7) (T := TX7) (N := 9) hx hb hts (fun _ h => List.mem_cons_of_mem _ (List.mem_append_right _ h)) hown hK.1 hP 0 rfl rfl 4 (by decide) (hts (.fieldLink RX7 36 "CutAtlas$SetHunt" "wanted" "I") (List.mem_of_getElem? (i := 3) rfl)) (fun _ h9 => h9) rfl dB_36_1_78.2.1.2.1 ?_
      refine lv_icmp_ne (tgt := 29) hx hb dB_36_1_78.2.1.2.2 (by decide) (fun c_3 => ?_) (fun c_3 => ?_)
      · have t_3 : ¬ u5.toInt = u4.toInt := fun h => c_3 (Int32.toInt_inj.mp h)
        refine lv_aload_n hx hb dB_36_1_78.2.2.2.2 rfl (lv_at hl 0 rfl) ?_
        refine lv_dup hx hb dB_36_1_79.1.1 rfl ?_
        refine va_get (ci := 7) (v := .int u5) (C := RX7) (T := TX7) (N := 9) hx hb hts (fun _ h => List.mem_cons_of_mem _ (List.mem_append_right _ h)) hown hK.1 hP 0 rfl rfl 5 (by decide) (hts (.fieldLink RX7 20 "CutAtlas$SetHunt" "met" "I") (List.mem_of_getElem? (i := 2) rfl)) (fun _ h9 => h9) rfl dB_36_1_79.1.2.1 ?_
        refine lv_iconst (v := 1) hx hb dB_36_1_79.1.2.2 (by decide) ?_
        refine lv_iadd hx hb dB_36_1_79.2.1 ?_
        refine lv_topi (fun y_4 ey_4 => ?_)
        have ty_4 : y_4.toInt = u5.toInt + (1 : Int32).toInt := by rw [ey_4]; exact addI (by omega) (by omega)
        refine va_put (ci := 7) (v := .int y_4) (ty := .int) (C := RX7) (T := TX7) (N := 9) hx hb hts (fun _ h => List.mem_cons_of_mem _ (List.mem_append_right _ h)) tyX7 tyX7_ok nmX7 hown hK.1 hP hD hS 0 rfl rfl 5 (by decide) (hts (.fieldLink RX7 20 "CutAtlas$SetHunt" "met" "I") (List.mem_of_getElem? (i := 2) rfl)) (fun _ h9 => h9) rfl (by decide +kernel) rfl rfl (Nat.le_of_ble_eq_true rfl) dB_36_1_79.2.2.1 (fun H locs hP hD hS => ?_)
        refine pd_K [ob7_0_ xh xc u1 u2 u3 u4 y_4 u6 u7 u8] hP hD (fun hP hD => ?_)
        rw [hQ]
        exact W.vret hx hb hr (fun t ht hW => ⟨⟨(), rfl, trivial, y_4, u6, (⟨fun h => absurd (by omega) h, fun _ => ⟨by omega, by first | exact Or.inl ⟨by omega, rfl⟩ | exact Or.inr ⟨by omega, rfl⟩⟩⟩), by rw [ht]; exact hP, hD⟩, hS.F ht⟩) hS.2.2 dB_36_1_79.2.2.2
      · have t_3 : u5.toInt = u4.toInt := congrArg Int32.toInt c_3
        refine lv_aload_n hx hb dB_36_1_78.2.2.1.1 rfl (lv_at hl 0 rfl) ?_
        refine lv_iload_n hx hb dB_36_1_78.2.2.1.2 rfl (lv_at hl 1 rfl) ?_
        refine va_put (ci := 7) (v := .int a1) (ty := .int) (C := RX7) (T := TX7) (N := 9) hx hb hts (fun _ h => List.mem_cons_of_mem _ (List.mem_append_right _ h)) tyX7 tyX7_ok nmX7 hown hK.1 hP hD hS 0 rfl rfl 6 (by decide) (hts (.fieldLink RX7 24 "CutAtlas$SetHunt" "found" "I") (List.mem_of_getElem? (i := 4) rfl)) (fun _ h9 => h9) rfl (by decide +kernel) rfl rfl (Nat.le_of_ble_eq_true rfl) dB_36_1_78.2.2.2.1 (fun H locs hP hD hS => ?_)
        refine pd_K [ob7_0_ xh xc u1 u2 u3 u4 u5 a1 u7 u8] hP hD (fun hP hD => ?_)
        refine lv_aload_n hx hb dB_36_1_78.2.2.2.2 rfl (lv_at hl 0 rfl) ?_
        refine lv_dup hx hb dB_36_1_79.1.1 rfl ?_
        refine va_get (ci := 7) (v := .int u5) (C := RX7) (T := TX7) (N := 9) hx hb hts (fun _ h => List.mem_cons_of_mem _ (List.mem_append_right _ h)) hown hK.1 hP 0 rfl rfl 5 (by decide) (hts (.fieldLink RX7 20 "CutAtlas$SetHunt" "met" "I") (List.mem_of_getElem? (i := 2) rfl)) (fun _ h9 => h9) rfl dB_36_1_79.1.2.1 ?_
        refine lv_iconst (v := 1) hx hb dB_36_1_79.1.2.2 (by decide) ?_
        refine lv_iadd hx hb dB_36_1_79.2.1 ?_
        refine lv_topi (fun y_5 ey_5 => ?_)
        have ty_5 : y_5.toInt = u5.toInt + (1 : Int32).toInt := by rw [ey_5]; exact addI (by omega) (by omega)
        refine va_put (ci := 7) (v := .int y_5) (ty := .int) (C := RX7) (T := TX7) (N := 9) hx hb hts (fun _ h => List.mem_cons_of_mem _ (List.mem_append_right _ h)) tyX7 tyX7_ok nmX7 hown hK.1 hP hD hS 0 rfl rfl 5 (by decide) (hts (.fieldLink RX7 20 "CutAtlas$SetHunt" "met" "I") (List.mem_of_getElem? (i := 2) rfl)) (fun _ h9 => h9) rfl (by decide +kernel) rfl rfl (Nat.le_of_ble_eq_true rfl) dB_36_1_79.2.2.1 (fun H locs hP hD hS => ?_)
        refine pd_K [ob7_0_ xh xc u1 u2 u3 u4 y_5 a1 u7 u8] hP hD (fun hP hD => ?_)
        rw [hQ]
        exact W.vret hx hb hr (fun t ht hW => ⟨⟨(), rfl, trivial, y_5, a1, (⟨fun h => absurd (by omega) h, fun _ => ⟨by omega, by first | exact Or.inl ⟨by omega, rfl⟩ | exact Or.inr ⟨by omega, rfl⟩⟩⟩), by rw [ht]; exact hP, hD⟩, hS.F ht⟩) hS.2.2 dB_36_1_79.2.2.2
    · have t_2 : a1.toInt = (0 : Int32).toInt := congrArg Int32.toInt c_2
      rw [hQ]
      exact W.vret hx hb hr (fun t ht hW => ⟨⟨(), rfl, trivial, u5, u6, (⟨fun _ => ⟨rfl, rfl⟩, fun h => absurd h (by omega)⟩), by rw [ht]; exact hP, hD⟩, hS.F ht⟩) hS.2.2 dB_36_1_78.1.2.2.1
end
