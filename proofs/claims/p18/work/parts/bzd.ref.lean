section
set_option maxHeartbeats 4000000 in
set_option maxRecDepth 100000 in
theorem c_X12_bitsOf2 (l : Launch) (D : va_G) (cy : Nat → ClassId) (sz : Nat) (a1 : Int32) : Met l yX12_bitsOf wsX12_bitsOf ({ frames := 0, cells := 0, slots := 0, locals := 0 }) (va_Pc [.int a1] (fun U => U.heap.size = sz ∧ va_P D vwCl [] U.heap ∧ kk_ D cy U ∧ va_D (fun _ => True) [])) (va_Qi (fun (r : Int32) (_ : Unit) => (r.toInt = bitI a1) ∧ (0 ≤ r.toInt ∧ r.toInt ≤ 12)) (fun (_ : Unit) (_ : State) => True) (va_A [] sz)) 0 0 (va_A [] sz) := by
  refine ofQ (cc := cX12_bitsOf) (maxL := 3) (ret := (some .int)) (by decide) rfl ?_
  intro p e s m args below meth c s₁ Q hQ B hml hv
  obtain ⟨rfl, hsz, hP, hK, hD0⟩ := hv
  have hx := B.exec
  have hb := B.bytes
  have hr := B.returns
  have hts := atoms_spec (ws := wsX12_bitsOf) B.pre
  have hown : s.vm.findClass RX12 = some m.cls := by have h_ := findClass_of_methodNamed B.named; exact h_
  have hlocks := B.notSynchronized
  subst hsz
  have hD : va_D (va_A [] s.heap.size) [] := dd_nil
  generalize hAe : va_A [] s.heap.size = A at hD hQ
  have hA : ∀ q : Nat, s.heap.size ≤ q → A q := fun q h => by rw [← hAe]; exact Or.inr h
  have hS : va_S A s.heap s.heap [] := va_S.rf
  have hl := lv_entry ([.int a1]) (n := 3) (Nat.le_of_ble_eq_true rfl)
  rw [lg_entry_eq]
  generalize (lg_sl ([.int a1]) ++ List.replicate (3 - (lg_sl ([.int a1])).length) Slot.unset).toArray = ls at hl ⊢
  have hl : lv_has ls 3 [(0, .int a1)] := hl
  have z0 : (0 : Int32).toInt = 0 := by decide
  have z1 : (1 : Int32).toInt = 1 := by decide
  have z12 : (12 : Int32).toInt = 12 := by decide
  refine lv_iconst (v := 0) hx hb dB_3_1_6.1.1.1.1 (by decide) ?_
  refine lv_istore_n (lv' := [(1, .int 0), (0, .int a1)]) hx hb dB_3_1_6.1.1.1.2 rfl hl (by decide) rfl (fun ls hl => ?_)
  refine lv_iconst (v := 0) hx hb dB_3_1_6.1.1.2.1 (by decide) ?_
  refine lv_istore_n (lv' := [(2, .int 0), (1, .int 0), (0, .int a1)]) hx hb dB_3_1_6.1.1.2.2 rfl hl (by decide) rfl (fun ls hl => ?_)
  suffices LOOP_1 : ∀ (n_1 : Nat) (x2_1 : Int32) (x1_1 : Int32) (H : Heap) (locs : List Loc) (ls : Array Slot), 12 - x2_1.toInt < (n_1 : Int) → (0 ≤ x2_1.toInt) → (x2_1.toInt ≤ 12) → (0 ≤ x1_1.toInt ∧ x1_1.toInt ≤ x2_1.toInt) → (x1_1.toInt = sumI (fun i => if bt a1 i = true then 1 else 0) x2_1.toNatClampNeg) → va_P D vwCl [] H → va_S A s.heap H locs → lv_has ls 3 [(2, .int x2_1), (1, .int x1_1), (0, .int a1)] → W p l e ({ frames := 0, cells := 0, slots := 0, locals := 0 } : Room) s m (([.int a1] : List Value).toArray) below meth c H locs 0 0 Q (F0 m 4 ls []) from LOOP_1 ((12 - (0 : Int32).toInt).toNat + 1) (0 : Int32) (0 : Int32) _ _ _ (by omega) (by first | with_reducible assumption | omega | assumption) (by first | with_reducible assumption | omega | assumption) (by first | with_reducible assumption | omega | assumption) (by first | exact sum_0 | exact cnt_b v_none hbw_ (by omega) (by omega) (by omega)) hP hS (lv_sub hl [0, 1, 2] rfl)
  intro n_1
  induction n_1 with
  | zero =>
    intro x2_1 x1_1 H locs ls hm v0_1 v1_1 v2_1 v3_1 hP hS hl
    exact absurd hm (by omega)
  | succ n_1 ih_1 =>
    intro x2_1 x1_1 H locs ls hm v0_1 v1_1 v2_1 v3_1 hP hS hl
    refine lv_iload_n hx hb dB_3_1_6.1.2.1.1 rfl (lv_at hl 0 rfl) ?_
    refine lv_bipush (v := 12) hx hb dB_3_1_6.1.2.1.2 (by decide) ?_
    refine lv_icmp_ge (tgt := 24) hx hb dB_3_1_6.1.2.2.1 (by decide) (fun c_2 => ?_) (fun c_2 => ?_)
    · have t_2 : (12 : Int32).toInt ≤ x2_1.toInt := Int32.le_iff_toInt_le.mp c_2
      refine lv_iload_n hx hb dB_3_1_7.2.1 rfl (lv_at hl 1 rfl) ?_
      rw [hQ]
      exact W.iret (v := x1_1) hx hb hr (fun t ht hW => ⟨⟨x1_1, (), rfl, ⟨(sum_end (n := 12) v3_1 (by omega)).trans rfl, by omega⟩, trivial⟩, hS.F ht⟩) hS.2.2 dB_3_1_7.2.2
    · have t_2 : ¬ (12 : Int32).toInt ≤ x2_1.toInt := fun h => c_2 (Int32.le_iff_toInt_le.mpr h)
      refine lv_iload_n hx hb dB_3_1_6.1.2.2.2 rfl (lv_at hl 1 rfl) ?_
      refine lv_iload_n hx hb dB_3_1_6.2.1.1.1 rfl (lv_at hl 2 rfl) ?_
      refine lv_iload_n hx hb dB_3_1_6.2.1.1.2 rfl (lv_at hl 0 rfl) ?_
      refine lv_ishr hx hb dB_3_1_6.2.1.2.1 ?_
      refine lv_topi (fun y_3 ey_3 => ?_)
      refine lv_iconst (v := 1) hx hb dB_3_1_6.2.1.2.2 (by decide) ?_
      refine lv_iand hx hb dB_3_1_6.2.2.1.1 ?_
      refine lv_topi (fun y_4 ey_4 => ?_)
      have hbw_ := bI_w (x := a1) (y := x2_1) (by omega) (by omega) ey_3 ey_4
      have h01_ : y_4.toInt = 0 ∨ y_4.toInt = 1 := by rw [hbw_]; split <;> omega
      refine lv_iadd hx hb dB_3_1_6.2.2.1.2 ?_
      refine lv_topi (fun y_5 ey_5 => ?_)
      have ty_5 : y_5.toInt = x1_1.toInt + y_4.toInt := by rw [ey_5]; exact addI (by omega) (by omega)
      refine lv_istore_n (lv' := [(1, .int y_5), (2, .int x2_1), (0, .int a1)]) hx hb dB_3_1_6.2.2.2.1 rfl hl (by decide) rfl (fun ls hl => ?_)
      obtain ⟨y_6, ey_6⟩ : ∃ y : Int32, y = x2_1 + 1 := ⟨_, rfl⟩
      have ty_6 : y_6.toInt = x2_1.toInt + (1 : Int32).toInt := by rw [ey_6]; exact addI (by omega) (by omega)
      refine lv_iinc (v := y_6) (lv' := [(2, .int y_6), (1, .int y_5), (0, .int a1)]) hx hb dB_3_1_6.2.2.2.2 hl (k := 1) rfl (by rw [ey_6]; rfl) (by decide) rfl (fun ls hl => ?_)
      refine lv_goto (tgt := 4) hx hb dB_3_1_7.1 (by decide) ?_
      exact ih_1 y_6 y_5 _ _ _ (by omega) (by first | with_reducible assumption | omega | assumption) (by first | with_reducible assumption | omega | assumption) (by first | with_reducible assumption | omega | assumption) (by first | exact sum_0 | exact cnt_b v3_1 hbw_ (by omega) (by omega) (by omega)) hP hS (lv_sub hl [0, 1, 2] rfl)

set_option maxHeartbeats 4000000 in
set_option maxRecDepth 100000 in
theorem c_X12_cutsOf2 (l : Launch) (D : va_G) (cy : Nat → ClassId) (sz : Nat) (mo : Nat) (g5 : Nat) (g6 : Nat) (g7 : Nat) (g8 : Nat) (g9 : Nat) (g10 : Nat) (g12 : Nat) (g13 : Nat) (g14 : Nat) (g15 : Nat) (g16 : Nat) (g17 : Nat) (g18 : Nat) (g19 : Nat) (g20 : Nat) (g22 : Nat) (g23 : Nat) (g24 : Nat) (g29 : Nat) (g30 : Nat) (g31 : Nat) (g32 : Nat) (g33 : Nat) (s0 : Int32) (s1 : Int32) (s3 : Int32) (s4 : Int32) (s11 : Int32) (s21 : Int32) (s25 : Int32) (s26 : Int32) (s27 : Int32) (s28 : Int32) (t2 : Int64) (f5 : Nat → Int32) (f6 : Nat → Int32) (f7 : Nat → Int32) (f8 : Nat → Int32) (f10 : Nat → Int32) (a1 : Int32) (a2 : Int32) (a3 : Int32) (a4 : Int32) (hN : 0 ≤ s4.toInt ∧ s4.toInt ≤ 40) (hPl : 0 ≤ s3.toInt ∧ s3.toInt ≤ 12) (q1 : 0 ≤ a1.toInt ∧ a1.toInt < s3.toInt) (q2 : 0 ≤ a2.toInt ∧ a2.toInt < s3.toInt) (q4 : 0 ≤ a4.toInt) (r_f6 : rng f6 40 (0) (11)) (r_f7 : rng f7 40 (0) (11)) (r_f8 : rng f8 40 (0) (2000)) : Met l yX12_cutsOf wsX12_cutsOf ({ frames := 3, cells := 0, slots := 0, locals := 71 }) (va_Pc [.ref mo, .int a1, .int a2, .int a3, .int a4] (fun U => U.heap.size = sz ∧ va_P D vwCl [ob12_0_ mo s0 s1 t2 s3 s4 g5 g6 g7 g8 g9 g10 s11 g12 g13 g14 g15 g16 g17 g18 g19 g20 s21 g22 g23 g24 s25 s26 s27 s28 g29 g30 g31 g32 g33, ai_ cy g5 40 f5, ai_ cy g6 40 f6, ai_ cy g7 40 f7, ai_ cy g8 40 f8, az_ cy g10 40 f10] U.heap ∧ kk_ D cy U ∧ va_D (fun _ => True) [ob12_0_ mo s0 s1 t2 s3 s4 g5 g6 g7 g8 g9 g10 s11 g12 g13 g14 g15 g16 g17 g18 g19 g20 s21 g22 g23 g24 s25 s26 s27 s28 g29 g30 g31 g32 g33, ai_ cy g5 40 f5, ai_ cy g6 40 f6, ai_ cy g7 40 f7, ai_ cy g8 40 f8, az_ cy g10 40 f10])) (va_Qv (fun (_ : Unit) => True) (fun (_ : Unit) (t : State) => ∃ (n25 : Int32), ∃ (n26 : Int32), ∃ (n27 : Int32), ∃ (n28 : Int32), (ctsW (refP (cutR f5 f6 f7 f8 f10 s21.toInt s4.toNatClampNeg) a1.toNatClampNeg a2.toNatClampNeg a3.toInt) a4.toInt (2 ^ s3.toNatClampNeg) n25 n26 n27 n28) ∧ va_P D vwCl [ob12_0_ mo s0 s1 t2 s3 s4 g5 g6 g7 g8 g9 g10 s11 g12 g13 g14 g15 g16 g17 g18 g19 g20 s21 g22 g23 g24 n25 n26 n27 n28 g29 g30 g31 g32 g33, ai_ cy g5 40 f5, ai_ cy g6 40 f6, ai_ cy g7 40 f7, ai_ cy g8 40 f8, az_ cy g10 40 f10] t.heap ∧ va_D (va_A [ob12_0_ mo s0 s1 t2 s3 s4 g5 g6 g7 g8 g9 g10 s11 g12 g13 g14 g15 g16 g17 g18 g19 g20 s21 g22 g23 g24 s25 s26 s27 s28 g29 g30 g31 g32 g33, ai_ cy g5 40 f5, ai_ cy g6 40 f6, ai_ cy g7 40 f7, ai_ cy g8 40 f8, az_ cy g10 40 f10] sz) [ob12_0_ mo s0 s1 t2 s3 s4 g5 g6 g7 g8 g9 g10 s11 g12 g13 g14 g15 g16 g17 g18 g19 g20 s21 g22 g23 g24 n25 n26 n27 n28 g29 g30 g31 g32 g33, ai_ cy g5 40 f5, ai_ cy g6 40 f6, ai_ cy g7 40 f7, ai_ cy g8 40 f8, az_ cy g10 40 f10]) (va_A [ob12_0_ mo s0 s1 t2 s3 s4 g5 g6 g7 g8 g9 g10 s11 g12 g13 g14 g15 g16 g17 g18 g19 g20 s21 g22 g23 g24 s25 s26 s27 s28 g29 g30 g31 g32 g33, ai_ cy g5 40 f5, ai_ cy g6 40 f6, ai_ cy g7 40 f7, ai_ cy g8 40 f8, az_ cy g10 40 f10] sz)) 0 0 (va_A [ob12_0_ mo s0 s1 t2 s3 s4 g5 g6 g7 g8 g9 g10 s11 g12 g13 g14 g15 g16 g17 g18 g19 g20 s21 g22 g23 g24 s25 s26 s27 s28 g29 g30 g31 g32 g33, ai_ cy g5 40 f5, ai_ cy g6 40 f6, ai_ cy g7 40 f7, ai_ cy g8 40 f8, az_ cy g10 40 f10] sz) := by
  refine ofQ (cc := cX12_cutsOf) (maxL := 6) (ret := none) (by decide) rfl ?_
  intro p e s m args below meth c s₁ Q hQ B hml hv
  obtain ⟨rfl, hsz, hP, hK, hD0⟩ := hv
  have hx := B.exec
  have hb := B.bytes
  have hr := B.returns
  have hts := atoms_spec (ws := wsX12_cutsOf) B.pre
  have hown : s.vm.findClass RX12 = some m.cls := by have h_ := findClass_of_methodNamed B.named; exact h_
  have hlocks := B.notSynchronized
  subst hsz
  have hD := hD0.self (sz := s.heap.size)
  generalize hAe : va_A [ob12_0_ mo s0 s1 t2 s3 s4 g5 g6 g7 g8 g9 g10 s11 g12 g13 g14 g15 g16 g17 g18 g19 g20 s21 g22 g23 g24 s25 s26 s27 s28 g29 g30 g31 g32 g33, ai_ cy g5 40 f5, ai_ cy g6 40 f6, ai_ cy g7 40 f7, ai_ cy g8 40 f8, az_ cy g10 40 f10] s.heap.size = A at hD hQ
  have hA : ∀ q : Nat, s.heap.size ≤ q → A q := fun q h => by rw [← hAe]; exact Or.inr h
  have hS : va_S A s.heap s.heap [] := va_S.rf
  have hl := lv_entry ([.ref mo, .int a1, .int a2, .int a3, .int a4]) (n := 6) (Nat.le_of_ble_eq_true rfl)
  rw [lg_entry_eq]
  generalize (lg_sl ([.ref mo, .int a1, .int a2, .int a3, .int a4]) ++ List.replicate (6 - (lg_sl ([.ref mo, .int a1, .int a2, .int a3, .int a4])).length) Slot.unset).toArray = ls at hl ⊢
  have hl : lv_has ls 6 [(0, .ref mo), (1, .int a1), (2, .int a2), (3, .int a3), (4, .int a4)] := hl
  have zm9 : ((-9) : Int32).toInt = -9 := by decide
  have z0 : (0 : Int32).toInt = 0 := by decide
  have z1 : (1 : Int32).toInt = 1 := by decide
  refine lv_aload_n hx hb dB_3_1_13.1.1.1.1 rfl (lv_at hl 0 rfl) ?_
  refine lv_iconst (v := 0) hx hb dB_3_1_13.1.1.1.2 (by decide) ?_
  refine va_put (ci := 12) (v := .int 0) (ty := .int) (C := RX12) (T := TX12) (N := 34) hx hb hts (fun _ h => List.mem_cons_of_mem _ (List.mem_append_right _ h)) tyX12 tyX12_ok nmX12 hown hK.1 hP hD hS 0 rfl rfl 25 (by decide) (hts (.fieldLink RX12 192 "CutAtlasModel" "cuts" "I") (List.mem_of_getElem? (i := 1) rfl)) (fun _ h9 => h9) rfl (by decide +kernel) rfl rfl (Nat.le_of_ble_eq_true rfl) dB_3_1_13.1.1.2.1 (fun H locs hP hD hS => ?_)
  refine pd_K [ob12_0_ mo s0 s1 t2 s3 s4 g5 g6 g7 g8 g9 g10 s11 g12 g13 g14 g15 g16 g17 g18 g19 g20 s21 g22 g23 g24 0 s26 s27 s28 g29 g30 g31 g32 g33, ai_ cy g5 40 f5, ai_ cy g6 40 f6, ai_ cy g7 40 f7, ai_ cy g8 40 f8, az_ cy g10 40 f10] hP hD (fun hP hD => ?_)
  refine lv_aload_n hx hb dB_3_1_13.1.1.2.2 rfl (lv_at hl 0 rfl) ?_
  refine lv_bipush (v := (-9)) hx hb dB_3_1_13.1.2.1.1 (by decide) ?_
  refine va_put (ci := 12) (v := .int (-9)) (ty := .int) (C := RX12) (T := TX12) (N := 34) hx hb hts (fun _ h => List.mem_cons_of_mem _ (List.mem_append_right _ h)) tyX12 tyX12_ok nmX12 hown hK.1 hP hD hS 0 rfl rfl 26 (by decide) (hts (.fieldLink RX12 195 "CutAtlasModel" "near" "I") (List.mem_of_getElem? (i := 2) rfl)) (fun _ h9 => h9) rfl (by decide +kernel) rfl rfl (Nat.le_of_ble_eq_true rfl) dB_3_1_13.1.2.1.2 (fun H locs hP hD hS => ?_)
  refine pd_K [ob12_0_ mo s0 s1 t2 s3 s4 g5 g6 g7 g8 g9 g10 s11 g12 g13 g14 g15 g16 g17 g18 g19 g20 s21 g22 g23 g24 0 (-9) s27 s28 g29 g30 g31 g32 g33, ai_ cy g5 40 f5, ai_ cy g6 40 f6, ai_ cy g7 40 f7, ai_ cy g8 40 f8, az_ cy g10 40 f10] hP hD (fun hP hD => ?_)
  refine lv_aload_n hx hb dB_3_1_13.1.2.2.1 rfl (lv_at hl 0 rfl) ?_
  refine lv_bipush (v := (-9)) hx hb dB_3_1_13.1.2.2.2 (by decide) ?_
  refine va_put (ci := 12) (v := .int (-9)) (ty := .int) (C := RX12) (T := TX12) (N := 34) hx hb hts (fun _ h => List.mem_cons_of_mem _ (List.mem_append_right _ h)) tyX12 tyX12_ok nmX12 hown hK.1 hP hD hS 0 rfl rfl 27 (by decide) (hts (.fieldLink RX12 198 "CutAtlasModel" "far" "I") (List.mem_of_getElem? (i := 3) rfl)) (fun _ h9 => h9) rfl (by decide +kernel) rfl rfl (Nat.le_of_ble_eq_true rfl) dB_3_1_13.2.1.1.1 (fun H locs hP hD hS => ?_)
  refine pd_K [ob12_0_ mo s0 s1 t2 s3 s4 g5 g6 g7 g8 g9 g10 s11 g12 g13 g14 g15 g16 g17 g18 g19 g20 s21 g22 g23 g24 0 (-9) (-9) s28 g29 g30 g31 g32 g33, ai_ cy g5 40 f5, ai_ cy g6 40 f6, ai_ cy g7 40 f7, ai_ cy g8 40 f8, az_ cy g10 40 f10] hP hD (fun hP hD => ?_)
  refine lv_aload_n hx hb dB_3_1_13.2.1.1.2 rfl (lv_at hl 0 rfl) ?_
  refine lv_bipush (v := (-9)) hx hb dB_3_1_13.2.1.2.1 (by decide) ?_
  refine va_put (ci := 12) (v := .int (-9)) (ty := .int) (C := RX12) (T := TX12) (N := 34) hx hb hts (fun _ h => List.mem_cons_of_mem _ (List.mem_append_right _ h)) tyX12 tyX12_ok nmX12 hown hK.1 hP hD hS 0 rfl rfl 28 (by decide) (hts (.fieldLink RX12 201 "CutAtlasModel" "chosen" "I") (List.mem_of_getElem? (i := 4) rfl)) (fun _ h9 => h9) rfl (by decide +kernel) rfl rfl (Nat.le_of_ble_eq_true rfl) dB_3_1_13.2.1.2.2 (fun H locs hP hD hS => ?_)
  refine pd_K [ob12_0_ mo s0 s1 t2 s3 s4 g5 g6 g7 g8 g9 g10 s11 g12 g13 g14 g15 g16 g17 g18 g19 g20 s21 g22 g23 g24 0 (-9) (-9) (-9) g29 g30 g31 g32 g33, ai_ cy g5 40 f5, ai_ cy g6 40 f6, ai_ cy g7 40 f7, ai_ cy g8 40 f8, az_ cy g10 40 f10] hP hD (fun hP hD => ?_)
  refine lv_iconst (v := 0) hx hb dB_3_1_13.2.2.1.1 (by decide) ?_
  refine lv_istore (lv' := [(5, .int 0), (0, .ref mo), (1, .int a1), (2, .int a2), (3, .int a3), (4, .int a4)]) hx hb dB_3_1_13.2.2.1.2 hl (by decide) rfl (fun ls hl => ?_)
  suffices LOOP_1 : ∀ (n_1 : Nat) (x5_1 : Int32) (o25_1 : Int32) (o26_1 : Int32) (o27_1 : Int32) (o28_1 : Int32) (H : Heap) (locs : List Loc) (ls : Array Slot), 4096 - x5_1.toInt < (n_1 : Int) → (0 ≤ x5_1.toInt) → (x5_1.toInt ≤ 4096) → (ctsW (refP (cutR f5 f6 f7 f8 f10 s21.toInt s4.toNatClampNeg) a1.toNatClampNeg a2.toNatClampNeg a3.toInt) a4.toInt x5_1.toNatClampNeg o25_1 o26_1 o27_1 o28_1) → (x5_1.toInt ≤ ((2 ^ s3.toNatClampNeg : Nat) : Int)) → (0 ≤ o25_1.toInt ∧ o25_1.toInt ≤ x5_1.toInt) → pd_2 D vwCl A [ob12_0_ mo s0 s1 t2 s3 s4 g5 g6 g7 g8 g9 g10 s11 g12 g13 g14 g15 g16 g17 g18 g19 g20 s21 g22 g23 g24 o25_1 o26_1 o27_1 o28_1 g29 g30 g31 g32 g33, ai_ cy g5 40 f5, ai_ cy g6 40 f6, ai_ cy g7 40 f7, ai_ cy g8 40 f8, az_ cy g10 40 f10] H → va_S A s.heap H locs → lv_has ls 6 [(5, .int x5_1), (0, .ref mo), (1, .int a1), (2, .int a2), (3, .int a3), (4, .int a4)] → W p l e ({ frames := 3, cells := 0, slots := 0, locals := 71 } : Room) s m (([.ref mo, .int a1, .int a2, .int a3, .int a4] : List Value).toArray) below meth c H locs 0 0 Q (F0 m 26 ls []) from LOOP_1 ((4096 - (0 : Int32).toInt).toNat + 1) (0 : Int32) (0 : Int32) ((-9) : Int32) ((-9) : Int32) ((-9) : Int32) _ _ _ (by omega) (by first | with_reducible assumption | omega | assumption) (by first | with_reducible assumption | omega | assumption) (by first | exact ctsW_0 (by omega) | exact ctsW_no v_none (by omega) (by omega) (refP_f (Or.inl (bt_fl hbs_ (by omega))) (by omega)) | exact ctsW_no v_none (by omega) (by omega) (refP_f (Or.inr (Or.inl (bt_nz hbt_ (by omega)))) (by omega)) | exact ctsW_no v_none (by omega) (by omega) (refP_f (Or.inr (Or.inr (fun h => absurd (hsz_.trans h) (by omega)))) (by omega)) | exact ctsW_st v_none (by omega) (by omega) (refP_t (b_tr hbs_ (by omega)) (bt_fl hbt_ (by omega)) (hsz_.symm.trans (by omega)) (by omega)) (by omega) (by first | exact Or.inl ⟨rfl, by omega⟩ | exact Or.inr ⟨rfl, by omega, by omega⟩) (by first | exact Or.inl ⟨rfl, by omega⟩ | exact Or.inr ⟨rfl, by omega, by omega⟩) (by first | exact Or.inl ⟨rfl, by omega⟩ | exact Or.inr ⟨rfl, by omega⟩) (by omega)) (by first | omega | exact Int.natCast_nonneg _) (by first | with_reducible assumption | omega | assumption) ⟨hP, hD⟩ hS (lv_sub hl [0, 1, 2, 3, 4, 5] rfl)
  intro n_1
  induction n_1 with
  | zero =>
    intro x5_1 o25_1 o26_1 o27_1 o28_1 H locs ls hm v0_1 v1_1 v2_1 v3_1 v4_1 hPD hS hl; obtain ⟨hP, hD⟩ := hPD
    exact absurd hm (by omega)
  | succ n_1 ih_1 =>
    intro x5_1 o25_1 o26_1 o27_1 o28_1 H locs ls hm v0_1 v1_1 v2_1 v3_1 v4_1 hPD hS hl; obtain ⟨hP, hD⟩ := hPD
    refine lv_iload hx hb dB_3_1_13.2.2.2.1 (lv_at hl 0 rfl) ?_
    refine lv_iconst (v := 1) hx hb dB_3_1_13.2.2.2.2 (by decide) ?_
    refine lv_aload_n hx hb dB_3_1_14.1.1.1.1 rfl (lv_at hl 1 rfl) ?_
    refine va_get (ci := 12) (v := .int s3) (C := RX12) (T := TX12) (N := 34) hx hb hts (fun _ h => List.mem_cons_of_mem _ (List.mem_append_right _ h)) hown hK.1 hP 0 rfl rfl 3 (by decide) (hts (.fieldLink RX12 88 "CutAtlasModel" "places" "I") (List.mem_of_getElem? (i := 5) rfl)) (fun _ h9 => h9) rfl dB_3_1_14.1.1.1.2 ?_
    refine lv_ishl hx hb dB_3_1_14.1.1.2.1 ?_
    refine lv_topi (fun y_2 ey_2 => ?_)
    have ty_2 : (1 ≤ y_2.toInt ∧ y_2.toInt ≤ 4096) ∧ y_2.toInt = ((2 ^ s3.toNatClampNeg : Nat) : Int) := ⟨by rw [ey_2]; exact shl1 (by omega) (by omega), shl_E (by omega) ey_2⟩
    refine lv_icmp_ge (tgt := 178) hx hb dB_3_1_14.1.1.2.2 (by decide) (fun c_3 => ?_) (fun c_3 => ?_)
    · have t_3 : y_2.toInt ≤ x5_1.toInt := Int32.le_iff_toInt_le.mp c_3
      rw [hQ]
      exact W.vret hx hb hr (fun t ht hW => ⟨⟨(), rfl, trivial, o25_1, o26_1, o27_1, o28_1, (by rw [show 2 ^ s3.toNatClampNeg = x5_1.toNatClampNeg by have c_ := clI (i := x5_1) (by omega); omega]; exact v2_1), by rw [ht]; exact hP, hD⟩, hS.F ht⟩) hS.2.2 dB_3_1_18.2.2.2.2
    · have t_3 : ¬ y_2.toInt ≤ x5_1.toInt := fun h => c_3 (Int32.le_iff_toInt_le.mpr h)
      refine lv_iload hx hb dB_3_1_14.1.2.1.1 (lv_at hl 0 rfl) ?_
      refine lv_iload_n hx hb dB_3_1_14.1.2.1.2 rfl (lv_at hl 2 rfl) ?_
      refine lv_ishr hx hb dB_3_1_14.1.2.2.1 ?_
      refine lv_topi (fun y_4 ey_4 => ?_)
      refine lv_iconst (v := 1) hx hb dB_3_1_14.1.2.2.2 (by decide) ?_
      refine lv_iand hx hb dB_3_1_14.2.1.1.1 ?_
      refine lv_topi (fun y_5 ey_5 => ?_)
      have hbs_ := bI_w (x := x5_1) (y := a1) (by omega) (by omega) ey_4 ey_5
      refine lv_iconst (v := 1) hx hb dB_3_1_14.2.1.1.2 (by decide) ?_
      refine lv_icmp_ne (tgt := 172) hx hb dB_3_1_14.2.1.2.1 (by decide) (fun c_6 => ?_) (fun c_6 => ?_)
      · have t_6 : ¬ y_5.toInt = (1 : Int32).toInt := fun h => c_6 (Int32.toInt_inj.mp h)
        obtain ⟨y_7, ey_7⟩ : ∃ y : Int32, y = x5_1 + 1 := ⟨_, rfl⟩
        have ty_7 : y_7.toInt = x5_1.toInt + (1 : Int32).toInt := by rw [ey_7]; exact addI (by omega) (by omega)
        refine lv_iinc (v := y_7) (lv' := [(5, .int y_7), (0, .ref mo), (1, .int a1), (2, .int a2), (3, .int a3), (4, .int a4)]) hx hb dB_3_1_18.2.2.1 hl (k := 0) rfl (by rw [ey_7]; rfl) (by decide) rfl (fun ls hl => ?_)
        refine lv_goto (tgt := 26) hx hb dB_3_1_18.2.2.2.1 (by decide) ?_
        exact ih_1 y_7 o25_1 o26_1 o27_1 o28_1 _ _ _ (by omega) (by first | with_reducible assumption | omega | assumption) (by first | with_reducible assumption | omega | assumption) (by first | exact ctsW_0 (by omega) | exact ctsW_no v2_1 (by omega) (by omega) (refP_f (Or.inl (bt_fl hbs_ (by omega))) (by omega)) | exact ctsW_no v2_1 (by omega) (by omega) (refP_f (Or.inr (Or.inl (bt_nz hbt_ (by omega)))) (by omega)) | exact ctsW_no v2_1 (by omega) (by omega) (refP_f (Or.inr (Or.inr (fun h => absurd (hsz_.trans h) (by omega)))) (by omega)) | exact ctsW_st v2_1 (by omega) (by omega) (refP_t (b_tr hbs_ (by omega)) (bt_fl hbt_ (by omega)) (hsz_.symm.trans (by omega)) (by omega)) (by omega) (by first | exact Or.inl ⟨rfl, by omega⟩ | exact Or.inr ⟨rfl, by omega, by omega⟩) (by first | exact Or.inl ⟨rfl, by omega⟩ | exact Or.inr ⟨rfl, by omega, by omega⟩) (by first | exact Or.inl ⟨rfl, by omega⟩ | exact Or.inr ⟨rfl, by omega⟩) (by omega)) (by first | omega | exact Int.natCast_nonneg _) (by first | with_reducible assumption | omega | assumption) ⟨hP, hD⟩ hS (lv_sub hl [0, 1, 2, 3, 4, 5] rfl)
      · have t_6 : y_5.toInt = (1 : Int32).toInt := congrArg Int32.toInt c_6
        refine lv_iload hx hb dB_3_1_14.2.1.2.2 (lv_at hl 0 rfl) ?_
        refine lv_iload_n hx hb dB_3_1_14.2.2.1.1 rfl (lv_at hl 3 rfl) ?_
        refine lv_ishr hx hb dB_3_1_14.2.2.1.2 ?_
        refine lv_topi (fun y_8 ey_8 => ?_)
        refine lv_iconst (v := 1) hx hb dB_3_1_14.2.2.2.1 (by decide) ?_
        refine lv_iand hx hb dB_3_1_14.2.2.2.2 ?_
        refine lv_topi (fun y_9 ey_9 => ?_)
        have hbt_ := bI_w (x := x5_1) (y := a2) (by omega) (by omega) ey_8 ey_9
        refine lv_if_ne (tgt := 172) hx hb dB_3_1_15.1.1.1.1 (by decide) (fun c_10 => ?_) (fun c_10 => ?_)
        · have t_10 : ¬ y_9.toInt = (0 : Int32).toInt := fun h => c_10 (Int32.toInt_inj.mp h)
          obtain ⟨y_11, ey_11⟩ : ∃ y : Int32, y = x5_1 + 1 := ⟨_, rfl⟩
          have ty_11 : y_11.toInt = x5_1.toInt + (1 : Int32).toInt := by rw [ey_11]; exact addI (by omega) (by omega)
          refine lv_iinc (v := y_11) (lv' := [(5, .int y_11), (0, .ref mo), (1, .int a1), (2, .int a2), (3, .int a3), (4, .int a4)]) hx hb dB_3_1_18.2.2.1 hl (k := 0) rfl (by rw [ey_11]; rfl) (by decide) rfl (fun ls hl => ?_)
          refine lv_goto (tgt := 26) hx hb dB_3_1_18.2.2.2.1 (by decide) ?_
          exact ih_1 y_11 o25_1 o26_1 o27_1 o28_1 _ _ _ (by omega) (by first | with_reducible assumption | omega | assumption) (by first | with_reducible assumption | omega | assumption) (by first | exact ctsW_0 (by omega) | exact ctsW_no v2_1 (by omega) (by omega) (refP_f (Or.inl (bt_fl hbs_ (by omega))) (by omega)) | exact ctsW_no v2_1 (by omega) (by omega) (refP_f (Or.inr (Or.inl (bt_nz hbt_ (by omega)))) (by omega)) | exact ctsW_no v2_1 (by omega) (by omega) (refP_f (Or.inr (Or.inr (fun h => absurd (hsz_.trans h) (by omega)))) (by omega)) | exact ctsW_st v2_1 (by omega) (by omega) (refP_t (b_tr hbs_ (by omega)) (bt_fl hbt_ (by omega)) (hsz_.symm.trans (by omega)) (by omega)) (by omega) (by first | exact Or.inl ⟨rfl, by omega⟩ | exact Or.inr ⟨rfl, by omega, by omega⟩) (by first | exact Or.inl ⟨rfl, by omega⟩ | exact Or.inr ⟨rfl, by omega, by omega⟩) (by first | exact Or.inl ⟨rfl, by omega⟩ | exact Or.inr ⟨rfl, by omega⟩) (by omega)) (by first | omega | exact Int.natCast_nonneg _) (by first | with_reducible assumption | omega | assumption) ⟨hP, hD⟩ hS (lv_sub hl [0, 1, 2, 3, 4, 5] rfl)
        · have t_10 : y_9.toInt = (0 : Int32).toInt := congrArg Int32.toInt c_10
          refine lv_aload_n hx hb dB_3_1_15.1.1.1.2 rfl (lv_at hl 1 rfl) ?_
          refine lv_iload hx hb dB_3_1_15.1.1.2.1 (lv_at hl 0 rfl) ?_
          refine ct_R hP hD [ob12_0_ mo s0 s1 t2 s3 s4 g5 g6 g7 g8 g9 g10 s11 g12 g13 g14 g15 g16 g17 g18 g19 g20 s21 g22 g23 g24 o25_1 o26_1 o27_1 o28_1 g29 g30 g31 g32 g33, ai_ cy g5 40 f5, ai_ cy g6 40 f6, ai_ cy g7 40 f7, ai_ cy g8 40 f8, az_ cy g10 40 f10] [0, 1, 2, 3, 4, 5] (by decide) rfl (fun hPc hDw => ?_)
          have hFc := va_free (wc := []) hD hS hA [] rfl
          refine va_calli (va_runV (As := [.int x5_1]) (rest := []) ⟨hx, hb, hml, hown, hts⟩ (c_X12_sizeOf2 l D cy H.size mo g5 g6 g7 g8 g9 g10 g12 g13 g14 g15 g16 g17 g18 g19 g20 g22 g23 g24 g29 g30 g31 g32 g33 s0 s1 s3 s4 s11 s21 o25_1 o26_1 o27_1 o28_1 t2 f5 f6 f7 f8 f10 x5_1 (by first | with_reducible assumption | omega | assumption) (by first | with_reducible assumption | assumption | omega) (by first | with_reducible assumption | assumption | omega) (by first | with_reducible assumption | assumption | omega)) (cwV 1 hts gX12_cutsOf_X12_sizeOf rfl rfl rfl ⟨rfl, hd_X12_sizeOf⟩ ⟨Nat.le_of_ble_eq_true rfl, Nat.le_of_ble_eq_true rfl⟩) ⟨bl_, va_recvX hK.1 hP (ci := 12) (q0 := 0) rfl rfl, fun U hU hW => ⟨rfl, by rw [hU], by rw [hU]; exact hPc, kk_mv hW hK, hDw⟩⟩ rfl rfl hl.1 rfl (lv_room (Nat.le_of_ble_eq_true rfl)) dB_3_1_15.1.1.2.2 ⟨Nat.le_of_ble_eq_true rfl, Nat.le_of_ble_eq_true rfl⟩) hS (fun q _ h => hFc q h) hFc (fun r_12 u t H locs ht hvm hw hB hz1 hk1 hS => ?_)
          have hP : va_P D vwCl _ H := ro_keep hP hk1
          have f0_r_12 := hw
          have hsz_ := f0_r_12
          refine lv_iload_n hx hb dB_3_1_15.1.2.1.1 rfl (lv_at hl 4 rfl) ?_
          refine lv_icmp_ne (tgt := 172) hx hb dB_3_1_15.1.2.1.2 (by decide) (fun c_13 => ?_) (fun c_13 => ?_)
          · have t_13 : ¬ r_12.toInt = a3.toInt := fun h => c_13 (Int32.toInt_inj.mp h)
            obtain ⟨y_14, ey_14⟩ : ∃ y : Int32, y = x5_1 + 1 := ⟨_, rfl⟩
            have ty_14 : y_14.toInt = x5_1.toInt + (1 : Int32).toInt := by rw [ey_14]; exact addI (by omega) (by omega)
            refine lv_iinc (v := y_14) (lv' := [(5, .int y_14), (0, .ref mo), (1, .int a1), (2, .int a2), (3, .int a3), (4, .int a4)]) hx hb dB_3_1_18.2.2.1 hl (k := 0) rfl (by rw [ey_14]; rfl) (by decide) rfl (fun ls hl => ?_)
            refine lv_goto (tgt := 26) hx hb dB_3_1_18.2.2.2.1 (by decide) ?_
            exact ih_1 y_14 o25_1 o26_1 o27_1 o28_1 _ _ _ (by omega) (by first | with_reducible assumption | omega | assumption) (by first | with_reducible assumption | omega | assumption) (by first | exact ctsW_0 (by omega) | exact ctsW_no v2_1 (by omega) (by omega) (refP_f (Or.inl (bt_fl hbs_ (by omega))) (by omega)) | exact ctsW_no v2_1 (by omega) (by omega) (refP_f (Or.inr (Or.inl (bt_nz hbt_ (by omega)))) (by omega)) | exact ctsW_no v2_1 (by omega) (by omega) (refP_f (Or.inr (Or.inr (fun h => absurd (hsz_.trans h) (by omega)))) (by omega)) | exact ctsW_st v2_1 (by omega) (by omega) (refP_t (b_tr hbs_ (by omega)) (bt_fl hbt_ (by omega)) (hsz_.symm.trans (by omega)) (by omega)) (by omega) (by first | exact Or.inl ⟨rfl, by omega⟩ | exact Or.inr ⟨rfl, by omega, by omega⟩) (by first | exact Or.inl ⟨rfl, by omega⟩ | exact Or.inr ⟨rfl, by omega, by omega⟩) (by first | exact Or.inl ⟨rfl, by omega⟩ | exact Or.inr ⟨rfl, by omega⟩) (by omega)) (by first | omega | exact Int.natCast_nonneg _) (by first | with_reducible assumption | omega | assumption) ⟨hP, hD⟩ hS (lv_sub hl [0, 1, 2, 3, 4, 5] rfl)
          · have t_13 : r_12.toInt = a3.toInt := congrArg Int32.toInt c_13
            refine lv_aload_n hx hb dB_3_1_15.1.2.2.1 rfl (lv_at hl 1 rfl) ?_
            refine lv_aload_n hx hb dB_3_1_15.1.2.2.2 rfl (lv_at hl 1 rfl) ?_
            refine va_get (ci := 12) (v := .int o26_1) (C := RX12) (T := TX12) (N := 34) hx hb hts (fun _ h => List.mem_cons_of_mem _ (List.mem_append_right _ h)) hown hK.1 hP 0 rfl rfl 26 (by decide) (hts (.fieldLink RX12 195 "CutAtlasModel" "near" "I") (List.mem_of_getElem? (i := 2) rfl)) (fun _ h9 => h9) rfl dB_3_1_15.2.1.1.1 ?_
            refine lv_bipush (v := (-9)) hx hb dB_3_1_15.2.1.1.2 (by decide) ?_
            refine lv_icmp_eq (tgt := 91) hx hb dB_3_1_15.2.1.2.1 (by decide) (fun c_15 => ?_) (fun c_15 => ?_)
            · have t_15 : o26_1.toInt = ((-9) : Int32).toInt := congrArg Int32.toInt c_15
              refine lv_iload hx hb dB_3_1_16.1.1.1.2 (lv_at hl 0 rfl) ?_
              refine lv_goto (tgt := 100) hx hb dB_3_1_16.1.1.2.1 (by decide) ?_
              refine va_put (ci := 12) (v := .int x5_1) (ty := .int) (C := RX12) (T := TX12) (N := 34) hx hb hts (fun _ h => List.mem_cons_of_mem _ (List.mem_append_right _ h)) tyX12 tyX12_ok nmX12 hown hK.1 hP hD hS 0 rfl rfl 26 (by decide) (hts (.fieldLink RX12 195 "CutAtlasModel" "near" "I") (List.mem_of_getElem? (i := 2) rfl)) (fun _ h9 => h9) rfl (by decide +kernel) rfl rfl (Nat.le_of_ble_eq_true rfl) dB_3_1_16.1.2.1.2 (fun H locs hP hD hS => ?_)
              refine pd_K [ob12_0_ mo s0 s1 t2 s3 s4 g5 g6 g7 g8 g9 g10 s11 g12 g13 g14 g15 g16 g17 g18 g19 g20 s21 g22 g23 g24 o25_1 x5_1 o27_1 o28_1 g29 g30 g31 g32 g33, ai_ cy g5 40 f5, ai_ cy g6 40 f6, ai_ cy g7 40 f7, ai_ cy g8 40 f8, az_ cy g10 40 f10] hP hD (fun hP hD => ?_)
              refine lv_aload_n hx hb dB_3_1_16.1.2.2.1 rfl (lv_at hl 1 rfl) ?_
              refine lv_aload_n hx hb dB_3_1_16.1.2.2.2 rfl (lv_at hl 1 rfl) ?_
              refine va_get (ci := 12) (v := .int o27_1) (C := RX12) (T := TX12) (N := 34) hx hb hts (fun _ h => List.mem_cons_of_mem _ (List.mem_append_right _ h)) hown hK.1 hP 0 rfl rfl 27 (by decide) (hts (.fieldLink RX12 198 "CutAtlasModel" "far" "I") (List.mem_of_getElem? (i := 3) rfl)) (fun _ h9 => h9) rfl dB_3_1_16.2.1.1.1 ?_
              refine lv_bipush (v := (-9)) hx hb dB_3_1_16.2.1.1.2 (by decide) ?_
              refine lv_icmp_eq (tgt := 128) hx hb dB_3_1_16.2.1.2.1 (by decide) (fun c_16 => ?_) (fun c_16 => ?_)
              · have t_16 : o27_1.toInt = ((-9) : Int32).toInt := congrArg Int32.toInt c_16
                refine lv_iload hx hb dB_3_1_17.1.1.1.2 (lv_at hl 0 rfl) ?_
                refine lv_goto (tgt := 137) hx hb dB_3_1_17.1.1.2.1 (by decide) ?_
                refine va_put (ci := 12) (v := .int x5_1) (ty := .int) (C := RX12) (T := TX12) (N := 34) hx hb hts (fun _ h => List.mem_cons_of_mem _ (List.mem_append_right _ h)) tyX12 tyX12_ok nmX12 hown hK.1 hP hD hS 0 rfl rfl 27 (by decide) (hts (.fieldLink RX12 198 "CutAtlasModel" "far" "I") (List.mem_of_getElem? (i := 3) rfl)) (fun _ h9 => h9) rfl (by decide +kernel) rfl rfl (Nat.le_of_ble_eq_true rfl) dB_3_1_17.1.2.1.2 (fun H locs hP hD hS => ?_)
                refine pd_K [ob12_0_ mo s0 s1 t2 s3 s4 g5 g6 g7 g8 g9 g10 s11 g12 g13 g14 g15 g16 g17 g18 g19 g20 s21 g22 g23 g24 o25_1 x5_1 x5_1 o28_1 g29 g30 g31 g32 g33, ai_ cy g5 40 f5, ai_ cy g6 40 f6, ai_ cy g7 40 f7, ai_ cy g8 40 f8, az_ cy g10 40 f10] hP hD (fun hP hD => ?_)
                refine lv_aload_n hx hb dB_3_1_17.1.2.2.1 rfl (lv_at hl 1 rfl) ?_
                refine lv_aload_n hx hb dB_3_1_17.1.2.2.2 rfl (lv_at hl 1 rfl) ?_
                refine va_get (ci := 12) (v := .int o25_1) (C := RX12) (T := TX12) (N := 34) hx hb hts (fun _ h => List.mem_cons_of_mem _ (List.mem_append_right _ h)) hown hK.1 hP 0 rfl rfl 25 (by decide) (hts (.fieldLink RX12 192 "CutAtlasModel" "cuts" "I") (List.mem_of_getElem? (i := 1) rfl)) (fun _ h9 => h9) rfl dB_3_1_17.2.1.1.1 ?_
                refine lv_iload hx hb dB_3_1_17.2.1.1.2 (lv_at hl 5 rfl) ?_
                refine lv_icmp_ne (tgt := 155) hx hb dB_3_1_17.2.1.2.1 (by decide) (fun c_17 => ?_) (fun c_17 => ?_)
                · have t_17 : ¬ o25_1.toInt = a4.toInt := fun h => c_17 (Int32.toInt_inj.mp h)
                  refine lv_aload_n hx hb dB_3_1_17.2.2.1.2 rfl (lv_at hl 1 rfl) ?_
                  refine va_get (ci := 12) (v := .int o28_1) (C := RX12) (T := TX12) (N := 34) hx hb hts (fun _ h => List.mem_cons_of_mem _ (List.mem_append_right _ h)) hown hK.1 hP 0 rfl rfl 28 (by decide) (hts (.fieldLink RX12 201 "CutAtlasModel" "chosen" "I") (List.mem_of_getElem? (i := 4) rfl)) (fun _ h9 => h9) rfl dB_3_1_17.2.2.2.1 ?_
                  refine va_put (ci := 12) (v := .int o28_1) (ty := .int) (C := RX12) (T := TX12) (N := 34) hx hb hts (fun _ h => List.mem_cons_of_mem _ (List.mem_append_right _ h)) tyX12 tyX12_ok nmX12 hown hK.1 hP hD hS 0 rfl rfl 28 (by decide) (hts (.fieldLink RX12 201 "CutAtlasModel" "chosen" "I") (List.mem_of_getElem? (i := 4) rfl)) (fun _ h9 => h9) rfl (by decide +kernel) rfl rfl (Nat.le_of_ble_eq_true rfl) dB_3_1_17.2.2.2.2 (fun H locs hP hD hS => ?_)
                  refine pd_K [ob12_0_ mo s0 s1 t2 s3 s4 g5 g6 g7 g8 g9 g10 s11 g12 g13 g14 g15 g16 g17 g18 g19 g20 s21 g22 g23 g24 o25_1 x5_1 x5_1 o28_1 g29 g30 g31 g32 g33, ai_ cy g5 40 f5, ai_ cy g6 40 f6, ai_ cy g7 40 f7, ai_ cy g8 40 f8, az_ cy g10 40 f10] hP hD (fun hP hD => ?_)
                  refine lv_aload_n hx hb dB_3_1_18.1.1.1 rfl (lv_at hl 1 rfl) ?_
                  refine lv_dup hx hb dB_3_1_18.1.1.2 rfl ?_
                  refine va_get (ci := 12) (v := .int o25_1) (C := RX12) (T := TX12) (N := 34) hx hb hts (fun _ h => List.mem_cons_of_mem _ (List.mem_append_right _ h)) hown hK.1 hP 0 rfl rfl 25 (by decide) (hts (.fieldLink RX12 192 "CutAtlasModel" "cuts" "I") (List.mem_of_getElem? (i := 1) rfl)) (fun _ h9 => h9) rfl dB_3_1_18.1.2.1 ?_
                  refine lv_iconst (v := 1) hx hb dB_3_1_18.1.2.2 (by decide) ?_
                  refine lv_iadd hx hb dB_3_1_18.2.1.1 ?_
                  refine lv_topi (fun y_18 ey_18 => ?_)
                  have ty_18 : y_18.toInt = o25_1.toInt + (1 : Int32).toInt := by rw [ey_18]; exact addI (by omega) (by omega)
                  refine va_put (ci := 12) (v := .int y_18) (ty := .int) (C := RX12) (T := TX12) (N := 34) hx hb hts (fun _ h => List.mem_cons_of_mem _ (List.mem_append_right _ h)) tyX12 tyX12_ok nmX12 hown hK.1 hP hD hS 0 rfl rfl 25 (by decide) (hts (.fieldLink RX12 192 "CutAtlasModel" "cuts" "I") (List.mem_of_getElem? (i := 1) rfl)) (fun _ h9 => h9) rfl (by decide +kernel) rfl rfl (Nat.le_of_ble_eq_true rfl) dB_3_1_18.2.1.2 (fun H locs hP hD hS => ?_)
                  refine pd_K [ob12_0_ mo s0 s1 t2 s3 s4 g5 g6 g7 g8 g9 g10 s11 g12 g13 g14 g15 g16 g17 g18 g19 g20 s21 g22 g23 g24 y_18 x5_1 x5_1 o28_1 g29 g30 g31 g32 g33, ai_ cy g5 40 f5, ai_ cy g6 40 f6, ai_ cy g7 40 f7, ai_ cy g8 40 f8, az_ cy g10 40 f10] hP hD (fun hP hD => ?_)
                  obtain ⟨y_19, ey_19⟩ : ∃ y : Int32, y = x5_1 + 1 := ⟨_, rfl⟩
                  have ty_19 : y_19.toInt = x5_1.toInt + (1 : Int32).toInt := by rw [ey_19]; exact addI (by omega) (by omega)
                  refine lv_iinc (v := y_19) (lv' := [(5, .int y_19), (0, .ref mo), (1, .int a1), (2, .int a2), (3, .int a3), (4, .int a4)]) hx hb dB_3_1_18.2.2.1 hl (k := 0) rfl (by rw [ey_19]; rfl) (by decide) rfl (fun ls hl => ?_)
                  refine lv_goto (tgt := 26) hx hb dB_3_1_18.2.2.2.1 (by decide) ?_
                  exact ih_1 y_19 y_18 x5_1 x5_1 o28_1 _ _ _ (by omega) (by first | with_reducible assumption | omega | assumption) (by first | with_reducible assumption | omega | assumption) (by first | exact ctsW_0 (by omega) | exact ctsW_no v2_1 (by omega) (by omega) (refP_f (Or.inl (bt_fl hbs_ (by omega))) (by omega)) | exact ctsW_no v2_1 (by omega) (by omega) (refP_f (Or.inr (Or.inl (bt_nz hbt_ (by omega)))) (by omega)) | exact ctsW_no v2_1 (by omega) (by omega) (refP_f (Or.inr (Or.inr (fun h => absurd (hsz_.trans h) (by omega)))) (by omega)) | exact ctsW_st v2_1 (by omega) (by omega) (refP_t (b_tr hbs_ (by omega)) (bt_fl hbt_ (by omega)) (hsz_.symm.trans (by omega)) (by omega)) (by omega) (by first | exact Or.inl ⟨rfl, by omega⟩ | exact Or.inr ⟨rfl, by omega, by omega⟩) (by first | exact Or.inl ⟨rfl, by omega⟩ | exact Or.inr ⟨rfl, by omega, by omega⟩) (by first | exact Or.inl ⟨rfl, by omega⟩ | exact Or.inr ⟨rfl, by omega⟩) (by omega)) (by first | omega | exact Int.natCast_nonneg _) (by first | with_reducible assumption | omega | assumption) ⟨hP, hD⟩ hS (lv_sub hl [0, 1, 2, 3, 4, 5] rfl)
                · have t_17 : o25_1.toInt = a4.toInt := congrArg Int32.toInt c_17
                  refine lv_iload hx hb dB_3_1_17.2.1.2.2 (lv_at hl 0 rfl) ?_
                  refine lv_goto (tgt := 159) hx hb dB_3_1_17.2.2.1.1 (by decide) ?_
                  refine va_put (ci := 12) (v := .int x5_1) (ty := .int) (C := RX12) (T := TX12) (N := 34) hx hb hts (fun _ h => List.mem_cons_of_mem _ (List.mem_append_right _ h)) tyX12 tyX12_ok nmX12 hown hK.1 hP hD hS 0 rfl rfl 28 (by decide) (hts (.fieldLink RX12 201 "CutAtlasModel" "chosen" "I") (List.mem_of_getElem? (i := 4) rfl)) (fun _ h9 => h9) rfl (by decide +kernel) rfl rfl (Nat.le_of_ble_eq_true rfl) dB_3_1_17.2.2.2.2 (fun H locs hP hD hS => ?_)
                  refine pd_K [ob12_0_ mo s0 s1 t2 s3 s4 g5 g6 g7 g8 g9 g10 s11 g12 g13 g14 g15 g16 g17 g18 g19 g20 s21 g22 g23 g24 o25_1 x5_1 x5_1 x5_1 g29 g30 g31 g32 g33, ai_ cy g5 40 f5, ai_ cy g6 40 f6, ai_ cy g7 40 f7, ai_ cy g8 40 f8, az_ cy g10 40 f10] hP hD (fun hP hD => ?_)
                  refine lv_aload_n hx hb dB_3_1_18.1.1.1 rfl (lv_at hl 1 rfl) ?_
                  refine lv_dup hx hb dB_3_1_18.1.1.2 rfl ?_
                  refine va_get (ci := 12) (v := .int o25_1) (C := RX12) (T := TX12) (N := 34) hx hb hts (fun _ h => List.mem_cons_of_mem _ (List.mem_append_right _ h)) hown hK.1 hP 0 rfl rfl 25 (by decide) (hts (.fieldLink RX12 192 "CutAtlasModel" "cuts" "I") (List.mem_of_getElem? (i := 1) rfl)) (fun _ h9 => h9) rfl dB_3_1_18.1.2.1 ?_
                  refine lv_iconst (v := 1) hx hb dB_3_1_18.1.2.2 (by decide) ?_
                  refine lv_iadd hx hb dB_3_1_18.2.1.1 ?_
                  refine lv_topi (fun y_20 ey_20 => ?_)
                  have ty_20 : y_20.toInt = o25_1.toInt + (1 : Int32).toInt := by rw [ey_20]; exact addI (by omega) (by omega)
                  refine va_put (ci := 12) (v := .int y_20) (ty := .int) (C := RX12) (T := TX12) (N := 34) hx hb hts (fun _ h => List.mem_cons_of_mem _ (List.mem_append_right _ h)) tyX12 tyX12_ok nmX12 hown hK.1 hP hD hS 0 rfl rfl 25 (by decide) (hts (.fieldLink RX12 192 "CutAtlasModel" "cuts" "I") (List.mem_of_getElem? (i := 1) rfl)) (fun _ h9 => h9) rfl (by decide +kernel) rfl rfl (Nat.le_of_ble_eq_true rfl) dB_3_1_18.2.1.2 (fun H locs hP hD hS => ?_)
                  refine pd_K [ob12_0_ mo s0 s1 t2 s3 s4 g5 g6 g7 g8 g9 g10 s11 g12 g13 g14 g15 g16 g17 g18 g19 g20 s21 g22 g23 g24 y_20 x5_1 x5_1 x5_1 g29 g30 g31 g32 g33, ai_ cy g5 40 f5, ai_ cy g6 40 f6, ai_ cy g7 40 f7, ai_ cy g8 40 f8, az_ cy g10 40 f10] hP hD (fun hP hD => ?_)
                  obtain ⟨y_21, ey_21⟩ : ∃ y : Int32, y = x5_1 + 1 := ⟨_, rfl⟩
                  have ty_21 : y_21.toInt = x5_1.toInt + (1 : Int32).toInt := by rw [ey_21]; exact addI (by omega) (by omega)
                  refine lv_iinc (v := y_21) (lv' := [(5, .int y_21), (0, .ref mo), (1, .int a1), (2, .int a2), (3, .int a3), (4, .int a4)]) hx hb dB_3_1_18.2.2.1 hl (k := 0) rfl (by rw [ey_21]; rfl) (by decide) rfl (fun ls hl => ?_)
                  refine lv_goto (tgt := 26) hx hb dB_3_1_18.2.2.2.1 (by decide) ?_
                  exact ih_1 y_21 y_20 x5_1 x5_1 x5_1 _ _ _ (by omega) (by first | with_reducible assumption | omega | assumption) (by first | with_reducible assumption | omega | assumption) (by first | exact ctsW_0 (by omega) | exact ctsW_no v2_1 (by omega) (by omega) (refP_f (Or.inl (bt_fl hbs_ (by omega))) (by omega)) | exact ctsW_no v2_1 (by omega) (by omega) (refP_f (Or.inr (Or.inl (bt_nz hbt_ (by omega)))) (by omega)) | exact ctsW_no v2_1 (by omega) (by omega) (refP_f (Or.inr (Or.inr (fun h => absurd (hsz_.trans h) (by omega)))) (by omega)) | exact ctsW_st v2_1 (by omega) (by omega) (refP_t (b_tr hbs_ (by omega)) (bt_fl hbt_ (by omega)) (hsz_.symm.trans (by omega)) (by omega)) (by omega) (by first | exact Or.inl ⟨rfl, by omega⟩ | exact Or.inr ⟨rfl, by omega, by omega⟩) (by first | exact Or.inl ⟨rfl, by omega⟩ | exact Or.inr ⟨rfl, by omega, by omega⟩) (by first | exact Or.inl ⟨rfl, by omega⟩ | exact Or.inr ⟨rfl, by omega⟩) (by omega)) (by first | omega | exact Int.natCast_nonneg _) (by first | with_reducible assumption | omega | assumption) ⟨hP, hD⟩ hS (lv_sub hl [0, 1, 2, 3, 4, 5] rfl)
              · have t_16 : ¬ o27_1.toInt = ((-9) : Int32).toInt := fun h => c_16 (Int32.toInt_inj.mp h)
                refine lv_iload hx hb dB_3_1_16.2.1.2.2 (lv_at hl 0 rfl) ?_
                refine ct_R hP hD [] [] (by decide) rfl (fun hPc hDw => ?_)
                have hFc := va_free (wc := []) hD hS hA [] rfl
                refine va_calli (va_runS (As := [.int x5_1]) (rest := [.ref mo]) ⟨hx, hb, hml, hown, hts⟩ (c_X12_bitsOf2 l D cy H.size x5_1) (va_cwS 1 hts gX12_cutsOf_X12_bitsOf rfl rfl rfl hd_X12_bitsOf ⟨Nat.le_of_ble_eq_true rfl, Nat.le_of_ble_eq_true rfl⟩) ⟨bl_, fun U hU hW => ⟨rfl, by rw [hU], by rw [hU]; exact hPc, kk_mv hW hK, hDw⟩⟩ rfl rfl hl.1 rfl (lv_room (Nat.le_of_ble_eq_true rfl)) dB_3_1_16.2.2.1.1 ⟨Nat.le_of_ble_eq_true rfl, Nat.le_of_ble_eq_true rfl⟩) hS (fun q _ h => hFc q h) hFc (fun r_22 u t H locs ht hvm hw hB hz1 hk1 hS => ?_)
                have hP : va_P D vwCl _ H := ro_keep hP hk1
                obtain ⟨f0_r_22, f1_r_22⟩ := hw
                refine lv_aload_n hx hb dB_3_1_16.2.2.1.2 rfl (lv_at hl 1 rfl) ?_
                refine va_get (ci := 12) (v := .int o27_1) (C := RX12) (T := TX12) (N := 34) hx hb hts (fun _ h => List.mem_cons_of_mem _ (List.mem_append_right _ h)) hown hK.1 hP 0 rfl rfl 27 (by decide) (hts (.fieldLink RX12 198 "CutAtlasModel" "far" "I") (List.mem_of_getElem? (i := 3) rfl)) (fun _ h9 => h9) rfl dB_3_1_16.2.2.2.1 ?_
                refine ct_R hP hD [] [] (by decide) rfl (fun hPc hDw => ?_)
                have hFc := va_free (wc := []) hD hS hA [] rfl
                refine va_calli (va_runS (As := [.int o27_1]) (rest := [.int r_22, .ref mo]) ⟨hx, hb, hml, hown, hts⟩ (c_X12_bitsOf2 l D cy H.size o27_1) (va_cwS 1 hts gX12_cutsOf_X12_bitsOf rfl rfl rfl hd_X12_bitsOf ⟨Nat.le_of_ble_eq_true rfl, Nat.le_of_ble_eq_true rfl⟩) ⟨bl_, fun U hU hW => ⟨rfl, by rw [hU], by rw [hU]; exact hPc, kk_mv hW hK, hDw⟩⟩ rfl rfl hl.1 rfl (lv_room (Nat.le_of_ble_eq_true rfl)) dB_3_1_16.2.2.2.2 ⟨Nat.le_of_ble_eq_true rfl, Nat.le_of_ble_eq_true rfl⟩) hS (fun q _ h => hFc q h) hFc (fun r_23 u t H locs ht hvm hw hB hz1 hk1 hS => ?_)
                have hP : va_P D vwCl _ H := ro_keep hP hk1
                obtain ⟨f0_r_23, f1_r_23⟩ := hw
                refine lv_icmp_le (tgt := 133) hx hb dB_3_1_17.1.1.1.1 (by decide) (fun c_24 => ?_) (fun c_24 => ?_)
                · have t_24 : r_22.toInt ≤ r_23.toInt := Int32.le_iff_toInt_le.mp c_24
                  refine lv_aload_n hx hb dB_3_1_17.1.1.2.2 rfl (lv_at hl 1 rfl) ?_
                  refine va_get (ci := 12) (v := .int o27_1) (C := RX12) (T := TX12) (N := 34) hx hb hts (fun _ h => List.mem_cons_of_mem _ (List.mem_append_right _ h)) hown hK.1 hP 0 rfl rfl 27 (by decide) (hts (.fieldLink RX12 198 "CutAtlasModel" "far" "I") (List.mem_of_getElem? (i := 3) rfl)) (fun _ h9 => h9) rfl dB_3_1_17.1.2.1.1 ?_
                  refine va_put (ci := 12) (v := .int o27_1) (ty := .int) (C := RX12) (T := TX12) (N := 34) hx hb hts (fun _ h => List.mem_cons_of_mem _ (List.mem_append_right _ h)) tyX12 tyX12_ok nmX12 hown hK.1 hP hD hS 0 rfl rfl 27 (by decide) (hts (.fieldLink RX12 198 "CutAtlasModel" "far" "I") (List.mem_of_getElem? (i := 3) rfl)) (fun _ h9 => h9) rfl (by decide +kernel) rfl rfl (Nat.le_of_ble_eq_true rfl) dB_3_1_17.1.2.1.2 (fun H locs hP hD hS => ?_)
                  refine pd_K [ob12_0_ mo s0 s1 t2 s3 s4 g5 g6 g7 g8 g9 g10 s11 g12 g13 g14 g15 g16 g17 g18 g19 g20 s21 g22 g23 g24 o25_1 x5_1 o27_1 o28_1 g29 g30 g31 g32 g33, ai_ cy g5 40 f5, ai_ cy g6 40 f6, ai_ cy g7 40 f7, ai_ cy g8 40 f8, az_ cy g10 40 f10] hP hD (fun hP hD => ?_)
                  refine lv_aload_n hx hb dB_3_1_17.1.2.2.1 rfl (lv_at hl 1 rfl) ?_
                  refine lv_aload_n hx hb dB_3_1_17.1.2.2.2 rfl (lv_at hl 1 rfl) ?_
                  refine va_get (ci := 12) (v := .int o25_1) (C := RX12) (T := TX12) (N := 34) hx hb hts (fun _ h => List.mem_cons_of_mem _ (List.mem_append_right _ h)) hown hK.1 hP 0 rfl rfl 25 (by decide) (hts (.fieldLink RX12 192 "CutAtlasModel" "cuts" "I") (List.mem_of_getElem? (i := 1) rfl)) (fun _ h9 => h9) rfl dB_3_1_17.2.1.1.1 ?_
                  refine lv_iload hx hb dB_3_1_17.2.1.1.2 (lv_at hl 5 rfl) ?_
                  refine lv_icmp_ne (tgt := 155) hx hb dB_3_1_17.2.1.2.1 (by decide) (fun c_25 => ?_) (fun c_25 => ?_)
                  · have t_25 : ¬ o25_1.toInt = a4.toInt := fun h => c_25 (Int32.toInt_inj.mp h)
                    refine lv_aload_n hx hb dB_3_1_17.2.2.1.2 rfl (lv_at hl 1 rfl) ?_
                    refine va_get (ci := 12) (v := .int o28_1) (C := RX12) (T := TX12) (N := 34) hx hb hts (fun _ h => List.mem_cons_of_mem _ (List.mem_append_right _ h)) hown hK.1 hP 0 rfl rfl 28 (by decide) (hts (.fieldLink RX12 201 "CutAtlasModel" "chosen" "I") (List.mem_of_getElem? (i := 4) rfl)) (fun _ h9 => h9) rfl dB_3_1_17.2.2.2.1 ?_
                    refine va_put (ci := 12) (v := .int o28_1) (ty := .int) (C := RX12) (T := TX12) (N := 34) hx hb hts (fun _ h => List.mem_cons_of_mem _ (List.mem_append_right _ h)) tyX12 tyX12_ok nmX12 hown hK.1 hP hD hS 0 rfl rfl 28 (by decide) (hts (.fieldLink RX12 201 "CutAtlasModel" "chosen" "I") (List.mem_of_getElem? (i := 4) rfl)) (fun _ h9 => h9) rfl (by decide +kernel) rfl rfl (Nat.le_of_ble_eq_true rfl) dB_3_1_17.2.2.2.2 (fun H locs hP hD hS => ?_)
                    refine pd_K [ob12_0_ mo s0 s1 t2 s3 s4 g5 g6 g7 g8 g9 g10 s11 g12 g13 g14 g15 g16 g17 g18 g19 g20 s21 g22 g23 g24 o25_1 x5_1 o27_1 o28_1 g29 g30 g31 g32 g33, ai_ cy g5 40 f5, ai_ cy g6 40 f6, ai_ cy g7 40 f7, ai_ cy g8 40 f8, az_ cy g10 40 f10] hP hD (fun hP hD => ?_)
                    refine lv_aload_n hx hb dB_3_1_18.1.1.1 rfl (lv_at hl 1 rfl) ?_
                    refine lv_dup hx hb dB_3_1_18.1.1.2 rfl ?_
                    refine va_get (ci := 12) (v := .int o25_1) (C := RX12) (T := TX12) (N := 34) hx hb hts (fun _ h => List.mem_cons_of_mem _ (List.mem_append_right _ h)) hown hK.1 hP 0 rfl rfl 25 (by decide) (hts (.fieldLink RX12 192 "CutAtlasModel" "cuts" "I") (List.mem_of_getElem? (i := 1) rfl)) (fun _ h9 => h9) rfl dB_3_1_18.1.2.1 ?_
                    refine lv_iconst (v := 1) hx hb dB_3_1_18.1.2.2 (by decide) ?_
                    refine lv_iadd hx hb dB_3_1_18.2.1.1 ?_
                    refine lv_topi (fun y_26 ey_26 => ?_)
                    have ty_26 : y_26.toInt = o25_1.toInt + (1 : Int32).toInt := by rw [ey_26]; exact addI (by omega) (by omega)
                    refine va_put (ci := 12) (v := .int y_26) (ty := .int) (C := RX12) (T := TX12) (N := 34) hx hb hts (fun _ h => List.mem_cons_of_mem _ (List.mem_append_right _ h)) tyX12 tyX12_ok nmX12 hown hK.1 hP hD hS 0 rfl rfl 25 (by decide) (hts (.fieldLink RX12 192 "CutAtlasModel" "cuts" "I") (List.mem_of_getElem? (i := 1) rfl)) (fun _ h9 => h9) rfl (by decide +kernel) rfl rfl (Nat.le_of_ble_eq_true rfl) dB_3_1_18.2.1.2 (fun H locs hP hD hS => ?_)
                    refine pd_K [ob12_0_ mo s0 s1 t2 s3 s4 g5 g6 g7 g8 g9 g10 s11 g12 g13 g14 g15 g16 g17 g18 g19 g20 s21 g22 g23 g24 y_26 x5_1 o27_1 o28_1 g29 g30 g31 g32 g33, ai_ cy g5 40 f5, ai_ cy g6 40 f6, ai_ cy g7 40 f7, ai_ cy g8 40 f8, az_ cy g10 40 f10] hP hD (fun hP hD => ?_)
                    obtain ⟨y_27, ey_27⟩ : ∃ y : Int32, y = x5_1 + 1 := ⟨_, rfl⟩
                    have ty_27 : y_27.toInt = x5_1.toInt + (1 : Int32).toInt := by rw [ey_27]; exact addI (by omega) (by omega)
                    refine lv_iinc (v := y_27) (lv' := [(5, .int y_27), (0, .ref mo), (1, .int a1), (2, .int a2), (3, .int a3), (4, .int a4)]) hx hb dB_3_1_18.2.2.1 hl (k := 0) rfl (by rw [ey_27]; rfl) (by decide) rfl (fun ls hl => ?_)
                    refine lv_goto (tgt := 26) hx hb dB_3_1_18.2.2.2.1 (by decide) ?_
                    exact ih_1 y_27 y_26 x5_1 o27_1 o28_1 _ _ _ (by omega) (by first | with_reducible assumption | omega | assumption) (by first | with_reducible assumption | omega | assumption) (by first | exact ctsW_0 (by omega) | exact ctsW_no v2_1 (by omega) (by omega) (refP_f (Or.inl (bt_fl hbs_ (by omega))) (by omega)) | exact ctsW_no v2_1 (by omega) (by omega) (refP_f (Or.inr (Or.inl (bt_nz hbt_ (by omega)))) (by omega)) | exact ctsW_no v2_1 (by omega) (by omega) (refP_f (Or.inr (Or.inr (fun h => absurd (hsz_.trans h) (by omega)))) (by omega)) | exact ctsW_st v2_1 (by omega) (by omega) (refP_t (b_tr hbs_ (by omega)) (bt_fl hbt_ (by omega)) (hsz_.symm.trans (by omega)) (by omega)) (by omega) (by first | exact Or.inl ⟨rfl, by omega⟩ | exact Or.inr ⟨rfl, by omega, by omega⟩) (by first | exact Or.inl ⟨rfl, by omega⟩ | exact Or.inr ⟨rfl, by omega, by omega⟩) (by first | exact Or.inl ⟨rfl, by omega⟩ | exact Or.inr ⟨rfl, by omega⟩) (by omega)) (by first | omega | exact Int.natCast_nonneg _) (by first | with_reducible assumption | omega | assumption) ⟨hP, hD⟩ hS (lv_sub hl [0, 1, 2, 3, 4, 5] rfl)
                  · have t_25 : o25_1.toInt = a4.toInt := congrArg Int32.toInt c_25
                    refine lv_iload hx hb dB_3_1_17.2.1.2.2 (lv_at hl 0 rfl) ?_
                    refine lv_goto (tgt := 159) hx hb dB_3_1_17.2.2.1.1 (by decide) ?_
                    refine va_put (ci := 12) (v := .int x5_1) (ty := .int) (C := RX12) (T := TX12) (N := 34) hx hb hts (fun _ h => List.mem_cons_of_mem _ (List.mem_append_right _ h)) tyX12 tyX12_ok nmX12 hown hK.1 hP hD hS 0 rfl rfl 28 (by decide) (hts (.fieldLink RX12 201 "CutAtlasModel" "chosen" "I") (List.mem_of_getElem? (i := 4) rfl)) (fun _ h9 => h9) rfl (by decide +kernel) rfl rfl (Nat.le_of_ble_eq_true rfl) dB_3_1_17.2.2.2.2 (fun H locs hP hD hS => ?_)
                    refine pd_K [ob12_0_ mo s0 s1 t2 s3 s4 g5 g6 g7 g8 g9 g10 s11 g12 g13 g14 g15 g16 g17 g18 g19 g20 s21 g22 g23 g24 o25_1 x5_1 o27_1 x5_1 g29 g30 g31 g32 g33, ai_ cy g5 40 f5, ai_ cy g6 40 f6, ai_ cy g7 40 f7, ai_ cy g8 40 f8, az_ cy g10 40 f10] hP hD (fun hP hD => ?_)
                    refine lv_aload_n hx hb dB_3_1_18.1.1.1 rfl (lv_at hl 1 rfl) ?_
                    refine lv_dup hx hb dB_3_1_18.1.1.2 rfl ?_
                    refine va_get (ci := 12) (v := .int o25_1) (C := RX12) (T := TX12) (N := 34) hx hb hts (fun _ h => List.mem_cons_of_mem _ (List.mem_append_right _ h)) hown hK.1 hP 0 rfl rfl 25 (by decide) (hts (.fieldLink RX12 192 "CutAtlasModel" "cuts" "I") (List.mem_of_getElem? (i := 1) rfl)) (fun _ h9 => h9) rfl dB_3_1_18.1.2.1 ?_
                    refine lv_iconst (v := 1) hx hb dB_3_1_18.1.2.2 (by decide) ?_
                    refine lv_iadd hx hb dB_3_1_18.2.1.1 ?_
                    refine lv_topi (fun y_28 ey_28 => ?_)
                    have ty_28 : y_28.toInt = o25_1.toInt + (1 : Int32).toInt := by rw [ey_28]; exact addI (by omega) (by omega)
                    refine va_put (ci := 12) (v := .int y_28) (ty := .int) (C := RX12) (T := TX12) (N := 34) hx hb hts (fun _ h => List.mem_cons_of_mem _ (List.mem_append_right _ h)) tyX12 tyX12_ok nmX12 hown hK.1 hP hD hS 0 rfl rfl 25 (by decide) (hts (.fieldLink RX12 192 "CutAtlasModel" "cuts" "I") (List.mem_of_getElem? (i := 1) rfl)) (fun _ h9 => h9) rfl (by decide +kernel) rfl rfl (Nat.le_of_ble_eq_true rfl) dB_3_1_18.2.1.2 (fun H locs hP hD hS => ?_)
                    refine pd_K [ob12_0_ mo s0 s1 t2 s3 s4 g5 g6 g7 g8 g9 g10 s11 g12 g13 g14 g15 g16 g17 g18 g19 g20 s21 g22 g23 g24 y_28 x5_1 o27_1 x5_1 g29 g30 g31 g32 g33, ai_ cy g5 40 f5, ai_ cy g6 40 f6, ai_ cy g7 40 f7, ai_ cy g8 40 f8, az_ cy g10 40 f10] hP hD (fun hP hD => ?_)
                    obtain ⟨y_29, ey_29⟩ : ∃ y : Int32, y = x5_1 + 1 := ⟨_, rfl⟩
                    have ty_29 : y_29.toInt = x5_1.toInt + (1 : Int32).toInt := by rw [ey_29]; exact addI (by omega) (by omega)
                    refine lv_iinc (v := y_29) (lv' := [(5, .int y_29), (0, .ref mo), (1, .int a1), (2, .int a2), (3, .int a3), (4, .int a4)]) hx hb dB_3_1_18.2.2.1 hl (k := 0) rfl (by rw [ey_29]; rfl) (by decide) rfl (fun ls hl => ?_)
                    refine lv_goto (tgt := 26) hx hb dB_3_1_18.2.2.2.1 (by decide) ?_
                    exact ih_1 y_29 y_28 x5_1 o27_1 x5_1 _ _ _ (by omega) (by first | with_reducible assumption | omega | assumption) (by first | with_reducible assumption | omega | assumption) (by first | exact ctsW_0 (by omega) | exact ctsW_no v2_1 (by omega) (by omega) (refP_f (Or.inl (bt_fl hbs_ (by omega))) (by omega)) | exact ctsW_no v2_1 (by omega) (by omega) (refP_f (Or.inr (Or.inl (bt_nz hbt_ (by omega)))) (by omega)) | exact ctsW_no v2_1 (by omega) (by omega) (refP_f (Or.inr (Or.inr (fun h => absurd (hsz_.trans h) (by omega)))) (by omega)) | exact ctsW_st v2_1 (by omega) (by omega) (refP_t (b_tr hbs_ (by omega)) (bt_fl hbt_ (by omega)) (hsz_.symm.trans (by omega)) (by omega)) (by omega) (by first | exact Or.inl ⟨rfl, by omega⟩ | exact Or.inr ⟨rfl, by omega, by omega⟩) (by first | exact Or.inl ⟨rfl, by omega⟩ | exact Or.inr ⟨rfl, by omega, by omega⟩) (by first | exact Or.inl ⟨rfl, by omega⟩ | exact Or.inr ⟨rfl, by omega⟩) (by omega)) (by first | omega | exact Int.natCast_nonneg _) (by first | with_reducible assumption | omega | assumption) ⟨hP, hD⟩ hS (lv_sub hl [0, 1, 2, 3, 4, 5] rfl)
                · have t_24 : ¬ r_22.toInt ≤ r_23.toInt := fun h => c_24 (Int32.le_iff_toInt_le.mpr h)
                  refine lv_iload hx hb dB_3_1_17.1.1.1.2 (lv_at hl 0 rfl) ?_
                  refine lv_goto (tgt := 137) hx hb dB_3_1_17.1.1.2.1 (by decide) ?_
                  refine va_put (ci := 12) (v := .int x5_1) (ty := .int) (C := RX12) (T := TX12) (N := 34) hx hb hts (fun _ h => List.mem_cons_of_mem _ (List.mem_append_right _ h)) tyX12 tyX12_ok nmX12 hown hK.1 hP hD hS 0 rfl rfl 27 (by decide) (hts (.fieldLink RX12 198 "CutAtlasModel" "far" "I") (List.mem_of_getElem? (i := 3) rfl)) (fun _ h9 => h9) rfl (by decide +kernel) rfl rfl (Nat.le_of_ble_eq_true rfl) dB_3_1_17.1.2.1.2 (fun H locs hP hD hS => ?_)
                  refine pd_K [ob12_0_ mo s0 s1 t2 s3 s4 g5 g6 g7 g8 g9 g10 s11 g12 g13 g14 g15 g16 g17 g18 g19 g20 s21 g22 g23 g24 o25_1 x5_1 x5_1 o28_1 g29 g30 g31 g32 g33, ai_ cy g5 40 f5, ai_ cy g6 40 f6, ai_ cy g7 40 f7, ai_ cy g8 40 f8, az_ cy g10 40 f10] hP hD (fun hP hD => ?_)
                  refine lv_aload_n hx hb dB_3_1_17.1.2.2.1 rfl (lv_at hl 1 rfl) ?_
                  refine lv_aload_n hx hb dB_3_1_17.1.2.2.2 rfl (lv_at hl 1 rfl) ?_
                  refine va_get (ci := 12) (v := .int o25_1) (C := RX12) (T := TX12) (N := 34) hx hb hts (fun _ h => List.mem_cons_of_mem _ (List.mem_append_right _ h)) hown hK.1 hP 0 rfl rfl 25 (by decide) (hts (.fieldLink RX12 192 "CutAtlasModel" "cuts" "I") (List.mem_of_getElem? (i := 1) rfl)) (fun _ h9 => h9) rfl dB_3_1_17.2.1.1.1 ?_
                  refine lv_iload hx hb dB_3_1_17.2.1.1.2 (lv_at hl 5 rfl) ?_
                  refine lv_icmp_ne (tgt := 155) hx hb dB_3_1_17.2.1.2.1 (by decide) (fun c_30 => ?_) (fun c_30 => ?_)
                  · have t_30 : ¬ o25_1.toInt = a4.toInt := fun h => c_30 (Int32.toInt_inj.mp h)
                    refine lv_aload_n hx hb dB_3_1_17.2.2.1.2 rfl (lv_at hl 1 rfl) ?_
                    refine va_get (ci := 12) (v := .int o28_1) (C := RX12) (T := TX12) (N := 34) hx hb hts (fun _ h => List.mem_cons_of_mem _ (List.mem_append_right _ h)) hown hK.1 hP 0 rfl rfl 28 (by decide) (hts (.fieldLink RX12 201 "CutAtlasModel" "chosen" "I") (List.mem_of_getElem? (i := 4) rfl)) (fun _ h9 => h9) rfl dB_3_1_17.2.2.2.1 ?_
                    refine va_put (ci := 12) (v := .int o28_1) (ty := .int) (C := RX12) (T := TX12) (N := 34) hx hb hts (fun _ h => List.mem_cons_of_mem _ (List.mem_append_right _ h)) tyX12 tyX12_ok nmX12 hown hK.1 hP hD hS 0 rfl rfl 28 (by decide) (hts (.fieldLink RX12 201 "CutAtlasModel" "chosen" "I") (List.mem_of_getElem? (i := 4) rfl)) (fun _ h9 => h9) rfl (by decide +kernel) rfl rfl (Nat.le_of_ble_eq_true rfl) dB_3_1_17.2.2.2.2 (fun H locs hP hD hS => ?_)
                    refine pd_K [ob12_0_ mo s0 s1 t2 s3 s4 g5 g6 g7 g8 g9 g10 s11 g12 g13 g14 g15 g16 g17 g18 g19 g20 s21 g22 g23 g24 o25_1 x5_1 x5_1 o28_1 g29 g30 g31 g32 g33, ai_ cy g5 40 f5, ai_ cy g6 40 f6, ai_ cy g7 40 f7, ai_ cy g8 40 f8, az_ cy g10 40 f10] hP hD (fun hP hD => ?_)
                    refine lv_aload_n hx hb dB_3_1_18.1.1.1 rfl (lv_at hl 1 rfl) ?_
                    refine lv_dup hx hb dB_3_1_18.1.1.2 rfl ?_
                    refine va_get (ci := 12) (v := .int o25_1) (C := RX12) (T := TX12) (N := 34) hx hb hts (fun _ h => List.mem_cons_of_mem _ (List.mem_append_right _ h)) hown hK.1 hP 0 rfl rfl 25 (by decide) (hts (.fieldLink RX12 192 "CutAtlasModel" "cuts" "I") (List.mem_of_getElem? (i := 1) rfl)) (fun _ h9 => h9) rfl dB_3_1_18.1.2.1 ?_
                    refine lv_iconst (v := 1) hx hb dB_3_1_18.1.2.2 (by decide) ?_
                    refine lv_iadd hx hb dB_3_1_18.2.1.1 ?_
                    refine lv_topi (fun y_31 ey_31 => ?_)
                    have ty_31 : y_31.toInt = o25_1.toInt + (1 : Int32).toInt := by rw [ey_31]; exact addI (by omega) (by omega)
                    refine va_put (ci := 12) (v := .int y_31) (ty := .int) (C := RX12) (T := TX12) (N := 34) hx hb hts (fun _ h => List.mem_cons_of_mem _ (List.mem_append_right _ h)) tyX12 tyX12_ok nmX12 hown hK.1 hP hD hS 0 rfl rfl 25 (by decide) (hts (.fieldLink RX12 192 "CutAtlasModel" "cuts" "I") (List.mem_of_getElem? (i := 1) rfl)) (fun _ h9 => h9) rfl (by decide +kernel) rfl rfl (Nat.le_of_ble_eq_true rfl) dB_3_1_18.2.1.2 (fun H locs hP hD hS => ?_)
                    refine pd_K [ob12_0_ mo s0 s1 t2 s3 s4 g5 g6 g7 g8 g9 g10 s11 g12 g13 g14 g15 g16 g17 g18 g19 g20 s21 g22 g23 g24 y_31 x5_1 x5_1 o28_1 g29 g30 g31 g32 g33, ai_ cy g5 40 f5, ai_ cy g6 40 f6, ai_ cy g7 40 f7, ai_ cy g8 40 f8, az_ cy g10 40 f10] hP hD (fun hP hD => ?_)
                    obtain ⟨y_32, ey_32⟩ : ∃ y : Int32, y = x5_1 + 1 := ⟨_, rfl⟩
                    have ty_32 : y_32.toInt = x5_1.toInt + (1 : Int32).toInt := by rw [ey_32]; exact addI (by omega) (by omega)
                    refine lv_iinc (v := y_32) (lv' := [(5, .int y_32), (0, .ref mo), (1, .int a1), (2, .int a2), (3, .int a3), (4, .int a4)]) hx hb dB_3_1_18.2.2.1 hl (k := 0) rfl (by rw [ey_32]; rfl) (by decide) rfl (fun ls hl => ?_)
                    refine lv_goto (tgt := 26) hx hb dB_3_1_18.2.2.2.1 (by decide) ?_
                    exact ih_1 y_32 y_31 x5_1 x5_1 o28_1 _ _ _ (by omega) (by first | with_reducible assumption | omega | assumption) (by first | with_reducible assumption | omega | assumption) (by first | exact ctsW_0 (by omega) | exact ctsW_no v2_1 (by omega) (by omega) (refP_f (Or.inl (bt_fl hbs_ (by omega))) (by omega)) | exact ctsW_no v2_1 (by omega) (by omega) (refP_f (Or.inr (Or.inl (bt_nz hbt_ (by omega)))) (by omega)) | exact ctsW_no v2_1 (by omega) (by omega) (refP_f (Or.inr (Or.inr (fun h => absurd (hsz_.trans h) (by omega)))) (by omega)) | exact ctsW_st v2_1 (by omega) (by omega) (refP_t (b_tr hbs_ (by omega)) (bt_fl hbt_ (by omega)) (hsz_.symm.trans (by omega)) (by omega)) (by omega) (by first | exact Or.inl ⟨rfl, by omega⟩ | exact Or.inr ⟨rfl, by omega, by omega⟩) (by first | exact Or.inl ⟨rfl, by omega⟩ | exact Or.inr ⟨rfl, by omega, by omega⟩) (by first | exact Or.inl ⟨rfl, by omega⟩ | exact Or.inr ⟨rfl, by omega⟩) (by omega)) (by first | omega | exact Int.natCast_nonneg _) (by first | with_reducible assumption | omega | assumption) ⟨hP, hD⟩ hS (lv_sub hl [0, 1, 2, 3, 4, 5] rfl)
                  · have t_30 : o25_1.toInt = a4.toInt := congrArg Int32.toInt c_30
                    refine lv_iload hx hb dB_3_1_17.2.1.2.2 (lv_at hl 0 rfl) ?_
                    refine lv_goto (tgt := 159) hx hb dB_3_1_17.2.2.1.1 (by decide) ?_
                    refine va_put (ci := 12) (v := .int x5_1) (ty := .int) (C := RX12) (T := TX12) (N := 34) hx hb hts (fun _ h => List.mem_cons_of_mem _ (List.mem_append_right _ h)) tyX12 tyX12_ok nmX12 hown hK.1 hP hD hS 0 rfl rfl 28 (by decide) (hts (.fieldLink RX12 201 "CutAtlasModel" "chosen" "I") (List.mem_of_getElem? (i := 4) rfl)) (fun _ h9 => h9) rfl (by decide +kernel) rfl rfl (Nat.le_of_ble_eq_true rfl) dB_3_1_17.2.2.2.2 (fun H locs hP hD hS => ?_)
                    refine pd_K [ob12_0_ mo s0 s1 t2 s3 s4 g5 g6 g7 g8 g9 g10 s11 g12 g13 g14 g15 g16 g17 g18 g19 g20 s21 g22 g23 g24 o25_1 x5_1 x5_1 x5_1 g29 g30 g31 g32 g33, ai_ cy g5 40 f5, ai_ cy g6 40 f6, ai_ cy g7 40 f7, ai_ cy g8 40 f8, az_ cy g10 40 f10] hP hD (fun hP hD => ?_)
                    refine lv_aload_n hx hb dB_3_1_18.1.1.1 rfl (lv_at hl 1 rfl) ?_
                    refine lv_dup hx hb dB_3_1_18.1.1.2 rfl ?_
                    refine va_get (ci := 12) (v := .int o25_1) (C := RX12) (T := TX12) (N := 34) hx hb hts (fun _ h => List.mem_cons_of_mem _ (List.mem_append_right _ h)) hown hK.1 hP 0 rfl rfl 25 (by decide) (hts (.fieldLink RX12 192 "CutAtlasModel" "cuts" "I") (List.mem_of_getElem? (i := 1) rfl)) (fun _ h9 => h9) rfl dB_3_1_18.1.2.1 ?_
                    refine lv_iconst (v := 1) hx hb dB_3_1_18.1.2.2 (by decide) ?_
                    refine lv_iadd hx hb dB_3_1_18.2.1.1 ?_
                    refine lv_topi (fun y_33 ey_33 => ?_)
                    have ty_33 : y_33.toInt = o25_1.toInt + (1 : Int32).toInt := by rw [ey_33]; exact addI (by omega) (by omega)
                    refine va_put (ci := 12) (v := .int y_33) (ty := .int) (C := RX12) (T := TX12) (N := 34) hx hb hts (fun _ h => List.mem_cons_of_mem _ (List.mem_append_right _ h)) tyX12 tyX12_ok nmX12 hown hK.1 hP hD hS 0 rfl rfl 25 (by decide) (hts (.fieldLink RX12 192 "CutAtlasModel" "cuts" "I") (List.mem_of_getElem? (i := 1) rfl)) (fun _ h9 => h9) rfl (by decide +kernel) rfl rfl (Nat.le_of_ble_eq_true rfl) dB_3_1_18.2.1.2 (fun H locs hP hD hS => ?_)
                    refine pd_K [ob12_0_ mo s0 s1 t2 s3 s4 g5 g6 g7 g8 g9 g10 s11 g12 g13 g14 g15 g16 g17 g18 g19 g20 s21 g22 g23 g24 y_33 x5_1 x5_1 x5_1 g29 g30 g31 g32 g33, ai_ cy g5 40 f5, ai_ cy g6 40 f6, ai_ cy g7 40 f7, ai_ cy g8 40 f8, az_ cy g10 40 f10] hP hD (fun hP hD => ?_)
                    obtain ⟨y_34, ey_34⟩ : ∃ y : Int32, y = x5_1 + 1 := ⟨_, rfl⟩
                    have ty_34 : y_34.toInt = x5_1.toInt + (1 : Int32).toInt := by rw [ey_34]; exact addI (by omega) (by omega)
                    refine lv_iinc (v := y_34) (lv' := [(5, .int y_34), (0, .ref mo), (1, .int a1), (2, .int a2), (3, .int a3), (4, .int a4)]) hx hb dB_3_1_18.2.2.1 hl (k := 0) rfl (by rw [ey_34]; rfl) (by decide) rfl (fun ls hl => ?_)
                    refine lv_goto (tgt := 26) hx hb dB_3_1_18.2.2.2.1 (by decide) ?_
                    exact ih_1 y_34 y_33 x5_1 x5_1 x5_1 _ _ _ (by omega) (by first | with_reducible assumption | omega | assumption) (by first | with_reducible assumption | omega | assumption) (by first | exact ctsW_0 (by omega) | exact ctsW_no v2_1 (by omega) (by omega) (refP_f (Or.inl (bt_fl hbs_ (by omega))) (by omega)) | exact ctsW_no v2_1 (by omega) (by omega) (refP_f (Or.inr (Or.inl (bt_nz hbt_ (by omega)))) (by omega)) | exact ctsW_no v2_1 (by omega) (by omega) (refP_f (Or.inr (Or.inr (fun h => absurd (hsz_.trans h) (by omega)))) (by omega)) | exact ctsW_st v2_1 (by omega) (by omega) (refP_t (b_tr hbs_ (by omega)) (bt_fl hbt_ (by omega)) (hsz_.symm.trans (by omega)) (by omega)) (by omega) (by first | exact Or.inl ⟨rfl, by omega⟩ | exact Or.inr ⟨rfl, by omega, by omega⟩) (by first | exact Or.inl ⟨rfl, by omega⟩ | exact Or.inr ⟨rfl, by omega, by omega⟩) (by first | exact Or.inl ⟨rfl, by omega⟩ | exact Or.inr ⟨rfl, by omega⟩) (by omega)) (by first | omega | exact Int.natCast_nonneg _) (by first | with_reducible assumption | omega | assumption) ⟨hP, hD⟩ hS (lv_sub hl [0, 1, 2, 3, 4, 5] rfl)
            · have t_15 : ¬ o26_1.toInt = ((-9) : Int32).toInt := fun h => c_15 (Int32.toInt_inj.mp h)
              refine lv_iload hx hb dB_3_1_15.2.1.2.2 (lv_at hl 0 rfl) ?_
              refine ct_R hP hD [] [] (by decide) rfl (fun hPc hDw => ?_)
              have hFc := va_free (wc := []) hD hS hA [] rfl
              refine va_calli (va_runS (As := [.int x5_1]) (rest := [.ref mo]) ⟨hx, hb, hml, hown, hts⟩ (c_X12_bitsOf2 l D cy H.size x5_1) (va_cwS 1 hts gX12_cutsOf_X12_bitsOf rfl rfl rfl hd_X12_bitsOf ⟨Nat.le_of_ble_eq_true rfl, Nat.le_of_ble_eq_true rfl⟩) ⟨bl_, fun U hU hW => ⟨rfl, by rw [hU], by rw [hU]; exact hPc, kk_mv hW hK, hDw⟩⟩ rfl rfl hl.1 rfl (lv_room (Nat.le_of_ble_eq_true rfl)) dB_3_1_15.2.2.1.1 ⟨Nat.le_of_ble_eq_true rfl, Nat.le_of_ble_eq_true rfl⟩) hS (fun q _ h => hFc q h) hFc (fun r_35 u t H locs ht hvm hw hB hz1 hk1 hS => ?_)
              have hP : va_P D vwCl _ H := ro_keep hP hk1
              obtain ⟨f0_r_35, f1_r_35⟩ := hw
              refine lv_aload_n hx hb dB_3_1_15.2.2.1.2 rfl (lv_at hl 1 rfl) ?_
              refine va_get (ci := 12) (v := .int o26_1) (C := RX12) (T := TX12) (N := 34) hx hb hts (fun _ h => List.mem_cons_of_mem _ (List.mem_append_right _ h)) hown hK.1 hP 0 rfl rfl 26 (by decide) (hts (.fieldLink RX12 195 "CutAtlasModel" "near" "I") (List.mem_of_getElem? (i := 2) rfl)) (fun _ h9 => h9) rfl dB_3_1_15.2.2.2.1 ?_
              refine ct_R hP hD [] [] (by decide) rfl (fun hPc hDw => ?_)
              have hFc := va_free (wc := []) hD hS hA [] rfl
              refine va_calli (va_runS (As := [.int o26_1]) (rest := [.int r_35, .ref mo]) ⟨hx, hb, hml, hown, hts⟩ (c_X12_bitsOf2 l D cy H.size o26_1) (va_cwS 1 hts gX12_cutsOf_X12_bitsOf rfl rfl rfl hd_X12_bitsOf ⟨Nat.le_of_ble_eq_true rfl, Nat.le_of_ble_eq_true rfl⟩) ⟨bl_, fun U hU hW => ⟨rfl, by rw [hU], by rw [hU]; exact hPc, kk_mv hW hK, hDw⟩⟩ rfl rfl hl.1 rfl (lv_room (Nat.le_of_ble_eq_true rfl)) dB_3_1_15.2.2.2.2 ⟨Nat.le_of_ble_eq_true rfl, Nat.le_of_ble_eq_true rfl⟩) hS (fun q _ h => hFc q h) hFc (fun r_36 u t H locs ht hvm hw hB hz1 hk1 hS => ?_)
              have hP : va_P D vwCl _ H := ro_keep hP hk1
              obtain ⟨f0_r_36, f1_r_36⟩ := hw
              refine lv_icmp_ge (tgt := 96) hx hb dB_3_1_16.1.1.1.1 (by decide) (fun c_37 => ?_) (fun c_37 => ?_)
              · have t_37 : r_36.toInt ≤ r_35.toInt := Int32.le_iff_toInt_le.mp c_37
                refine lv_aload_n hx hb dB_3_1_16.1.1.2.2 rfl (lv_at hl 1 rfl) ?_
                refine va_get (ci := 12) (v := .int o26_1) (C := RX12) (T := TX12) (N := 34) hx hb hts (fun _ h => List.mem_cons_of_mem _ (List.mem_append_right _ h)) hown hK.1 hP 0 rfl rfl 26 (by decide) (hts (.fieldLink RX12 195 "CutAtlasModel" "near" "I") (List.mem_of_getElem? (i := 2) rfl)) (fun _ h9 => h9) rfl dB_3_1_16.1.2.1.1 ?_
                refine va_put (ci := 12) (v := .int o26_1) (ty := .int) (C := RX12) (T := TX12) (N := 34) hx hb hts (fun _ h => List.mem_cons_of_mem _ (List.mem_append_right _ h)) tyX12 tyX12_ok nmX12 hown hK.1 hP hD hS 0 rfl rfl 26 (by decide) (hts (.fieldLink RX12 195 "CutAtlasModel" "near" "I") (List.mem_of_getElem? (i := 2) rfl)) (fun _ h9 => h9) rfl (by decide +kernel) rfl rfl (Nat.le_of_ble_eq_true rfl) dB_3_1_16.1.2.1.2 (fun H locs hP hD hS => ?_)
                refine pd_K [ob12_0_ mo s0 s1 t2 s3 s4 g5 g6 g7 g8 g9 g10 s11 g12 g13 g14 g15 g16 g17 g18 g19 g20 s21 g22 g23 g24 o25_1 o26_1 o27_1 o28_1 g29 g30 g31 g32 g33, ai_ cy g5 40 f5, ai_ cy g6 40 f6, ai_ cy g7 40 f7, ai_ cy g8 40 f8, az_ cy g10 40 f10] hP hD (fun hP hD => ?_)
                refine lv_aload_n hx hb dB_3_1_16.1.2.2.1 rfl (lv_at hl 1 rfl) ?_
                refine lv_aload_n hx hb dB_3_1_16.1.2.2.2 rfl (lv_at hl 1 rfl) ?_
                refine va_get (ci := 12) (v := .int o27_1) (C := RX12) (T := TX12) (N := 34) hx hb hts (fun _ h => List.mem_cons_of_mem _ (List.mem_append_right _ h)) hown hK.1 hP 0 rfl rfl 27 (by decide) (hts (.fieldLink RX12 198 "CutAtlasModel" "far" "I") (List.mem_of_getElem? (i := 3) rfl)) (fun _ h9 => h9) rfl dB_3_1_16.2.1.1.1 ?_
                refine lv_bipush (v := (-9)) hx hb dB_3_1_16.2.1.1.2 (by decide) ?_
                refine lv_icmp_eq (tgt := 128) hx hb dB_3_1_16.2.1.2.1 (by decide) (fun c_38 => ?_) (fun c_38 => ?_)
                · have t_38 : o27_1.toInt = ((-9) : Int32).toInt := congrArg Int32.toInt c_38
                  refine lv_iload hx hb dB_3_1_17.1.1.1.2 (lv_at hl 0 rfl) ?_
                  refine lv_goto (tgt := 137) hx hb dB_3_1_17.1.1.2.1 (by decide) ?_
                  refine va_put (ci := 12) (v := .int x5_1) (ty := .int) (C := RX12) (T := TX12) (N := 34) hx hb hts (fun _ h => List.mem_cons_of_mem _ (List.mem_append_right _ h)) tyX12 tyX12_ok nmX12 hown hK.1 hP hD hS 0 rfl rfl 27 (by decide) (hts (.fieldLink RX12 198 "CutAtlasModel" "far" "I") (List.mem_of_getElem? (i := 3) rfl)) (fun _ h9 => h9) rfl (by decide +kernel) rfl rfl (Nat.le_of_ble_eq_true rfl) dB_3_1_17.1.2.1.2 (fun H locs hP hD hS => ?_)
                  refine pd_K [ob12_0_ mo s0 s1 t2 s3 s4 g5 g6 g7 g8 g9 g10 s11 g12 g13 g14 g15 g16 g17 g18 g19 g20 s21 g22 g23 g24 o25_1 o26_1 x5_1 o28_1 g29 g30 g31 g32 g33, ai_ cy g5 40 f5, ai_ cy g6 40 f6, ai_ cy g7 40 f7, ai_ cy g8 40 f8, az_ cy g10 40 f10] hP hD (fun hP hD => ?_)
                  refine lv_aload_n hx hb dB_3_1_17.1.2.2.1 rfl (lv_at hl 1 rfl) ?_
                  refine lv_aload_n hx hb dB_3_1_17.1.2.2.2 rfl (lv_at hl 1 rfl) ?_
                  refine va_get (ci := 12) (v := .int o25_1) (C := RX12) (T := TX12) (N := 34) hx hb hts (fun _ h => List.mem_cons_of_mem _ (List.mem_append_right _ h)) hown hK.1 hP 0 rfl rfl 25 (by decide) (hts (.fieldLink RX12 192 "CutAtlasModel" "cuts" "I") (List.mem_of_getElem? (i := 1) rfl)) (fun _ h9 => h9) rfl dB_3_1_17.2.1.1.1 ?_
                  refine lv_iload hx hb dB_3_1_17.2.1.1.2 (lv_at hl 5 rfl) ?_
                  refine lv_icmp_ne (tgt := 155) hx hb dB_3_1_17.2.1.2.1 (by decide) (fun c_39 => ?_) (fun c_39 => ?_)
                  · have t_39 : ¬ o25_1.toInt = a4.toInt := fun h => c_39 (Int32.toInt_inj.mp h)
                    refine lv_aload_n hx hb dB_3_1_17.2.2.1.2 rfl (lv_at hl 1 rfl) ?_
                    refine va_get (ci := 12) (v := .int o28_1) (C := RX12) (T := TX12) (N := 34) hx hb hts (fun _ h => List.mem_cons_of_mem _ (List.mem_append_right _ h)) hown hK.1 hP 0 rfl rfl 28 (by decide) (hts (.fieldLink RX12 201 "CutAtlasModel" "chosen" "I") (List.mem_of_getElem? (i := 4) rfl)) (fun _ h9 => h9) rfl dB_3_1_17.2.2.2.1 ?_
                    refine va_put (ci := 12) (v := .int o28_1) (ty := .int) (C := RX12) (T := TX12) (N := 34) hx hb hts (fun _ h => List.mem_cons_of_mem _ (List.mem_append_right _ h)) tyX12 tyX12_ok nmX12 hown hK.1 hP hD hS 0 rfl rfl 28 (by decide) (hts (.fieldLink RX12 201 "CutAtlasModel" "chosen" "I") (List.mem_of_getElem? (i := 4) rfl)) (fun _ h9 => h9) rfl (by decide +kernel) rfl rfl (Nat.le_of_ble_eq_true rfl) dB_3_1_17.2.2.2.2 (fun H locs hP hD hS => ?_)
                    refine pd_K [ob12_0_ mo s0 s1 t2 s3 s4 g5 g6 g7 g8 g9 g10 s11 g12 g13 g14 g15 g16 g17 g18 g19 g20 s21 g22 g23 g24 o25_1 o26_1 x5_1 o28_1 g29 g30 g31 g32 g33, ai_ cy g5 40 f5, ai_ cy g6 40 f6, ai_ cy g7 40 f7, ai_ cy g8 40 f8, az_ cy g10 40 f10] hP hD (fun hP hD => ?_)
                    refine lv_aload_n hx hb dB_3_1_18.1.1.1 rfl (lv_at hl 1 rfl) ?_
                    refine lv_dup hx hb dB_3_1_18.1.1.2 rfl ?_
                    refine va_get (ci := 12) (v := .int o25_1) (C := RX12) (T := TX12) (N := 34) hx hb hts (fun _ h => List.mem_cons_of_mem _ (List.mem_append_right _ h)) hown hK.1 hP 0 rfl rfl 25 (by decide) (hts (.fieldLink RX12 192 "CutAtlasModel" "cuts" "I") (List.mem_of_getElem? (i := 1) rfl)) (fun _ h9 => h9) rfl dB_3_1_18.1.2.1 ?_
                    refine lv_iconst (v := 1) hx hb dB_3_1_18.1.2.2 (by decide) ?_
                    refine lv_iadd hx hb dB_3_1_18.2.1.1 ?_
                    refine lv_topi (fun y_40 ey_40 => ?_)
                    have ty_40 : y_40.toInt = o25_1.toInt + (1 : Int32).toInt := by rw [ey_40]; exact addI (by omega) (by omega)
                    refine va_put (ci := 12) (v := .int y_40) (ty := .int) (C := RX12) (T := TX12) (N := 34) hx hb hts (fun _ h => List.mem_cons_of_mem _ (List.mem_append_right _ h)) tyX12 tyX12_ok nmX12 hown hK.1 hP hD hS 0 rfl rfl 25 (by decide) (hts (.fieldLink RX12 192 "CutAtlasModel" "cuts" "I") (List.mem_of_getElem? (i := 1) rfl)) (fun _ h9 => h9) rfl (by decide +kernel) rfl rfl (Nat.le_of_ble_eq_true rfl) dB_3_1_18.2.1.2 (fun H locs hP hD hS => ?_)
                    refine pd_K [ob12_0_ mo s0 s1 t2 s3 s4 g5 g6 g7 g8 g9 g10 s11 g12 g13 g14 g15 g16 g17 g18 g19 g20 s21 g22 g23 g24 y_40 o26_1 x5_1 o28_1 g29 g30 g31 g32 g33, ai_ cy g5 40 f5, ai_ cy g6 40 f6, ai_ cy g7 40 f7, ai_ cy g8 40 f8, az_ cy g10 40 f10] hP hD (fun hP hD => ?_)
                    obtain ⟨y_41, ey_41⟩ : ∃ y : Int32, y = x5_1 + 1 := ⟨_, rfl⟩
                    have ty_41 : y_41.toInt = x5_1.toInt + (1 : Int32).toInt := by rw [ey_41]; exact addI (by omega) (by omega)
                    refine lv_iinc (v := y_41) (lv' := [(5, .int y_41), (0, .ref mo), (1, .int a1), (2, .int a2), (3, .int a3), (4, .int a4)]) hx hb dB_3_1_18.2.2.1 hl (k := 0) rfl (by rw [ey_41]; rfl) (by decide) rfl (fun ls hl => ?_)
                    refine lv_goto (tgt := 26) hx hb dB_3_1_18.2.2.2.1 (by decide) ?_
                    exact ih_1 y_41 y_40 o26_1 x5_1 o28_1 _ _ _ (by omega) (by first | with_reducible assumption | omega | assumption) (by first | with_reducible assumption | omega | assumption) (by first | exact ctsW_0 (by omega) | exact ctsW_no v2_1 (by omega) (by omega) (refP_f (Or.inl (bt_fl hbs_ (by omega))) (by omega)) | exact ctsW_no v2_1 (by omega) (by omega) (refP_f (Or.inr (Or.inl (bt_nz hbt_ (by omega)))) (by omega)) | exact ctsW_no v2_1 (by omega) (by omega) (refP_f (Or.inr (Or.inr (fun h => absurd (hsz_.trans h) (by omega)))) (by omega)) | exact ctsW_st v2_1 (by omega) (by omega) (refP_t (b_tr hbs_ (by omega)) (bt_fl hbt_ (by omega)) (hsz_.symm.trans (by omega)) (by omega)) (by omega) (by first | exact Or.inl ⟨rfl, by omega⟩ | exact Or.inr ⟨rfl, by omega, by omega⟩) (by first | exact Or.inl ⟨rfl, by omega⟩ | exact Or.inr ⟨rfl, by omega, by omega⟩) (by first | exact Or.inl ⟨rfl, by omega⟩ | exact Or.inr ⟨rfl, by omega⟩) (by omega)) (by first | omega | exact Int.natCast_nonneg _) (by first | with_reducible assumption | omega | assumption) ⟨hP, hD⟩ hS (lv_sub hl [0, 1, 2, 3, 4, 5] rfl)
                  · have t_39 : o25_1.toInt = a4.toInt := congrArg Int32.toInt c_39
                    refine lv_iload hx hb dB_3_1_17.2.1.2.2 (lv_at hl 0 rfl) ?_
                    refine lv_goto (tgt := 159) hx hb dB_3_1_17.2.2.1.1 (by decide) ?_
                    refine va_put (ci := 12) (v := .int x5_1) (ty := .int) (C := RX12) (T := TX12) (N := 34) hx hb hts (fun _ h => List.mem_cons_of_mem _ (List.mem_append_right _ h)) tyX12 tyX12_ok nmX12 hown hK.1 hP hD hS 0 rfl rfl 28 (by decide) (hts (.fieldLink RX12 201 "CutAtlasModel" "chosen" "I") (List.mem_of_getElem? (i := 4) rfl)) (fun _ h9 => h9) rfl (by decide +kernel) rfl rfl (Nat.le_of_ble_eq_true rfl) dB_3_1_17.2.2.2.2 (fun H locs hP hD hS => ?_)
                    refine pd_K [ob12_0_ mo s0 s1 t2 s3 s4 g5 g6 g7 g8 g9 g10 s11 g12 g13 g14 g15 g16 g17 g18 g19 g20 s21 g22 g23 g24 o25_1 o26_1 x5_1 x5_1 g29 g30 g31 g32 g33, ai_ cy g5 40 f5, ai_ cy g6 40 f6, ai_ cy g7 40 f7, ai_ cy g8 40 f8, az_ cy g10 40 f10] hP hD (fun hP hD => ?_)
                    refine lv_aload_n hx hb dB_3_1_18.1.1.1 rfl (lv_at hl 1 rfl) ?_
                    refine lv_dup hx hb dB_3_1_18.1.1.2 rfl ?_
                    refine va_get (ci := 12) (v := .int o25_1) (C := RX12) (T := TX12) (N := 34) hx hb hts (fun _ h => List.mem_cons_of_mem _ (List.mem_append_right _ h)) hown hK.1 hP 0 rfl rfl 25 (by decide) (hts (.fieldLink RX12 192 "CutAtlasModel" "cuts" "I") (List.mem_of_getElem? (i := 1) rfl)) (fun _ h9 => h9) rfl dB_3_1_18.1.2.1 ?_
                    refine lv_iconst (v := 1) hx hb dB_3_1_18.1.2.2 (by decide) ?_
                    refine lv_iadd hx hb dB_3_1_18.2.1.1 ?_
                    refine lv_topi (fun y_42 ey_42 => ?_)
                    have ty_42 : y_42.toInt = o25_1.toInt + (1 : Int32).toInt := by rw [ey_42]; exact addI (by omega) (by omega)
                    refine va_put (ci := 12) (v := .int y_42) (ty := .int) (C := RX12) (T := TX12) (N := 34) hx hb hts (fun _ h => List.mem_cons_of_mem _ (List.mem_append_right _ h)) tyX12 tyX12_ok nmX12 hown hK.1 hP hD hS 0 rfl rfl 25 (by decide) (hts (.fieldLink RX12 192 "CutAtlasModel" "cuts" "I") (List.mem_of_getElem? (i := 1) rfl)) (fun _ h9 => h9) rfl (by decide +kernel) rfl rfl (Nat.le_of_ble_eq_true rfl) dB_3_1_18.2.1.2 (fun H locs hP hD hS => ?_)
                    refine pd_K [ob12_0_ mo s0 s1 t2 s3 s4 g5 g6 g7 g8 g9 g10 s11 g12 g13 g14 g15 g16 g17 g18 g19 g20 s21 g22 g23 g24 y_42 o26_1 x5_1 x5_1 g29 g30 g31 g32 g33, ai_ cy g5 40 f5, ai_ cy g6 40 f6, ai_ cy g7 40 f7, ai_ cy g8 40 f8, az_ cy g10 40 f10] hP hD (fun hP hD => ?_)
                    obtain ⟨y_43, ey_43⟩ : ∃ y : Int32, y = x5_1 + 1 := ⟨_, rfl⟩
                    have ty_43 : y_43.toInt = x5_1.toInt + (1 : Int32).toInt := by rw [ey_43]; exact addI (by omega) (by omega)
                    refine lv_iinc (v := y_43) (lv' := [(5, .int y_43), (0, .ref mo), (1, .int a1), (2, .int a2), (3, .int a3), (4, .int a4)]) hx hb dB_3_1_18.2.2.1 hl (k := 0) rfl (by rw [ey_43]; rfl) (by decide) rfl (fun ls hl => ?_)
                    refine lv_goto (tgt := 26) hx hb dB_3_1_18.2.2.2.1 (by decide) ?_
                    exact ih_1 y_43 y_42 o26_1 x5_1 x5_1 _ _ _ (by omega) (by first | with_reducible assumption | omega | assumption) (by first | with_reducible assumption | omega | assumption) (by first | exact ctsW_0 (by omega) | exact ctsW_no v2_1 (by omega) (by omega) (refP_f (Or.inl (bt_fl hbs_ (by omega))) (by omega)) | exact ctsW_no v2_1 (by omega) (by omega) (refP_f (Or.inr (Or.inl (bt_nz hbt_ (by omega)))) (by omega)) | exact ctsW_no v2_1 (by omega) (by omega) (refP_f (Or.inr (Or.inr (fun h => absurd (hsz_.trans h) (by omega)))) (by omega)) | exact ctsW_st v2_1 (by omega) (by omega) (refP_t (b_tr hbs_ (by omega)) (bt_fl hbt_ (by omega)) (hsz_.symm.trans (by omega)) (by omega)) (by omega) (by first | exact Or.inl ⟨rfl, by omega⟩ | exact Or.inr ⟨rfl, by omega, by omega⟩) (by first | exact Or.inl ⟨rfl, by omega⟩ | exact Or.inr ⟨rfl, by omega, by omega⟩) (by first | exact Or.inl ⟨rfl, by omega⟩ | exact Or.inr ⟨rfl, by omega⟩) (by omega)) (by first | omega | exact Int.natCast_nonneg _) (by first | with_reducible assumption | omega | assumption) ⟨hP, hD⟩ hS (lv_sub hl [0, 1, 2, 3, 4, 5] rfl)
                · have t_38 : ¬ o27_1.toInt = ((-9) : Int32).toInt := fun h => c_38 (Int32.toInt_inj.mp h)
                  refine lv_iload hx hb dB_3_1_16.2.1.2.2 (lv_at hl 0 rfl) ?_
                  refine ct_R hP hD [] [] (by decide) rfl (fun hPc hDw => ?_)
                  have hFc := va_free (wc := []) hD hS hA [] rfl
                  refine va_calli (va_runS (As := [.int x5_1]) (rest := [.ref mo]) ⟨hx, hb, hml, hown, hts⟩ (c_X12_bitsOf2 l D cy H.size x5_1) (va_cwS 1 hts gX12_cutsOf_X12_bitsOf rfl rfl rfl hd_X12_bitsOf ⟨Nat.le_of_ble_eq_true rfl, Nat.le_of_ble_eq_true rfl⟩) ⟨bl_, fun U hU hW => ⟨rfl, by rw [hU], by rw [hU]; exact hPc, kk_mv hW hK, hDw⟩⟩ rfl rfl hl.1 rfl (lv_room (Nat.le_of_ble_eq_true rfl)) dB_3_1_16.2.2.1.1 ⟨Nat.le_of_ble_eq_true rfl, Nat.le_of_ble_eq_true rfl⟩) hS (fun q _ h => hFc q h) hFc (fun r_44 u t H locs ht hvm hw hB hz1 hk1 hS => ?_)
                  have hP : va_P D vwCl _ H := ro_keep hP hk1
                  obtain ⟨f0_r_44, f1_r_44⟩ := hw
                  refine lv_aload_n hx hb dB_3_1_16.2.2.1.2 rfl (lv_at hl 1 rfl) ?_
                  refine va_get (ci := 12) (v := .int o27_1) (C := RX12) (T := TX12) (N := 34) hx hb hts (fun _ h => List.mem_cons_of_mem _ (List.mem_append_right _ h)) hown hK.1 hP 0 rfl rfl 27 (by decide) (hts (.fieldLink RX12 198 "CutAtlasModel" "far" "I") (List.mem_of_getElem? (i := 3) rfl)) (fun _ h9 => h9) rfl dB_3_1_16.2.2.2.1 ?_
                  refine ct_R hP hD [] [] (by decide) rfl (fun hPc hDw => ?_)
                  have hFc := va_free (wc := []) hD hS hA [] rfl
                  refine va_calli (va_runS (As := [.int o27_1]) (rest := [.int r_44, .ref mo]) ⟨hx, hb, hml, hown, hts⟩ (c_X12_bitsOf2 l D cy H.size o27_1) (va_cwS 1 hts gX12_cutsOf_X12_bitsOf rfl rfl rfl hd_X12_bitsOf ⟨Nat.le_of_ble_eq_true rfl, Nat.le_of_ble_eq_true rfl⟩) ⟨bl_, fun U hU hW => ⟨rfl, by rw [hU], by rw [hU]; exact hPc, kk_mv hW hK, hDw⟩⟩ rfl rfl hl.1 rfl (lv_room (Nat.le_of_ble_eq_true rfl)) dB_3_1_16.2.2.2.2 ⟨Nat.le_of_ble_eq_true rfl, Nat.le_of_ble_eq_true rfl⟩) hS (fun q _ h => hFc q h) hFc (fun r_45 u t H locs ht hvm hw hB hz1 hk1 hS => ?_)
                  have hP : va_P D vwCl _ H := ro_keep hP hk1
                  obtain ⟨f0_r_45, f1_r_45⟩ := hw
                  refine lv_icmp_le (tgt := 133) hx hb dB_3_1_17.1.1.1.1 (by decide) (fun c_46 => ?_) (fun c_46 => ?_)
                  · have t_46 : r_44.toInt ≤ r_45.toInt := Int32.le_iff_toInt_le.mp c_46
                    refine lv_aload_n hx hb dB_3_1_17.1.1.2.2 rfl (lv_at hl 1 rfl) ?_
                    refine va_get (ci := 12) (v := .int o27_1) (C := RX12) (T := TX12) (N := 34) hx hb hts (fun _ h => List.mem_cons_of_mem _ (List.mem_append_right _ h)) hown hK.1 hP 0 rfl rfl 27 (by decide) (hts (.fieldLink RX12 198 "CutAtlasModel" "far" "I") (List.mem_of_getElem? (i := 3) rfl)) (fun _ h9 => h9) rfl dB_3_1_17.1.2.1.1 ?_
                    refine va_put (ci := 12) (v := .int o27_1) (ty := .int) (C := RX12) (T := TX12) (N := 34) hx hb hts (fun _ h => List.mem_cons_of_mem _ (List.mem_append_right _ h)) tyX12 tyX12_ok nmX12 hown hK.1 hP hD hS 0 rfl rfl 27 (by decide) (hts (.fieldLink RX12 198 "CutAtlasModel" "far" "I") (List.mem_of_getElem? (i := 3) rfl)) (fun _ h9 => h9) rfl (by decide +kernel) rfl rfl (Nat.le_of_ble_eq_true rfl) dB_3_1_17.1.2.1.2 (fun H locs hP hD hS => ?_)
                    refine pd_K [ob12_0_ mo s0 s1 t2 s3 s4 g5 g6 g7 g8 g9 g10 s11 g12 g13 g14 g15 g16 g17 g18 g19 g20 s21 g22 g23 g24 o25_1 o26_1 o27_1 o28_1 g29 g30 g31 g32 g33, ai_ cy g5 40 f5, ai_ cy g6 40 f6, ai_ cy g7 40 f7, ai_ cy g8 40 f8, az_ cy g10 40 f10] hP hD (fun hP hD => ?_)
                    refine lv_aload_n hx hb dB_3_1_17.1.2.2.1 rfl (lv_at hl 1 rfl) ?_
                    refine lv_aload_n hx hb dB_3_1_17.1.2.2.2 rfl (lv_at hl 1 rfl) ?_
                    refine va_get (ci := 12) (v := .int o25_1) (C := RX12) (T := TX12) (N := 34) hx hb hts (fun _ h => List.mem_cons_of_mem _ (List.mem_append_right _ h)) hown hK.1 hP 0 rfl rfl 25 (by decide) (hts (.fieldLink RX12 192 "CutAtlasModel" "cuts" "I") (List.mem_of_getElem? (i := 1) rfl)) (fun _ h9 => h9) rfl dB_3_1_17.2.1.1.1 ?_
                    refine lv_iload hx hb dB_3_1_17.2.1.1.2 (lv_at hl 5 rfl) ?_
                    refine lv_icmp_ne (tgt := 155) hx hb dB_3_1_17.2.1.2.1 (by decide) (fun c_47 => ?_) (fun c_47 => ?_)
                    · have t_47 : ¬ o25_1.toInt = a4.toInt := fun h => c_47 (Int32.toInt_inj.mp h)
                      refine lv_aload_n hx hb dB_3_1_17.2.2.1.2 rfl (lv_at hl 1 rfl) ?_
                      refine va_get (ci := 12) (v := .int o28_1) (C := RX12) (T := TX12) (N := 34) hx hb hts (fun _ h => List.mem_cons_of_mem _ (List.mem_append_right _ h)) hown hK.1 hP 0 rfl rfl 28 (by decide) (hts (.fieldLink RX12 201 "CutAtlasModel" "chosen" "I") (List.mem_of_getElem? (i := 4) rfl)) (fun _ h9 => h9) rfl dB_3_1_17.2.2.2.1 ?_
                      refine va_put (ci := 12) (v := .int o28_1) (ty := .int) (C := RX12) (T := TX12) (N := 34) hx hb hts (fun _ h => List.mem_cons_of_mem _ (List.mem_append_right _ h)) tyX12 tyX12_ok nmX12 hown hK.1 hP hD hS 0 rfl rfl 28 (by decide) (hts (.fieldLink RX12 201 "CutAtlasModel" "chosen" "I") (List.mem_of_getElem? (i := 4) rfl)) (fun _ h9 => h9) rfl (by decide +kernel) rfl rfl (Nat.le_of_ble_eq_true rfl) dB_3_1_17.2.2.2.2 (fun H locs hP hD hS => ?_)
                      refine pd_K [ob12_0_ mo s0 s1 t2 s3 s4 g5 g6 g7 g8 g9 g10 s11 g12 g13 g14 g15 g16 g17 g18 g19 g20 s21 g22 g23 g24 o25_1 o26_1 o27_1 o28_1 g29 g30 g31 g32 g33, ai_ cy g5 40 f5, ai_ cy g6 40 f6, ai_ cy g7 40 f7, ai_ cy g8 40 f8, az_ cy g10 40 f10] hP hD (fun hP hD => ?_)
                      refine lv_aload_n hx hb dB_3_1_18.1.1.1 rfl (lv_at hl 1 rfl) ?_
                      refine lv_dup hx hb dB_3_1_18.1.1.2 rfl ?_
                      refine va_get (ci := 12) (v := .int o25_1) (C := RX12) (T := TX12) (N := 34) hx hb hts (fun _ h => List.mem_cons_of_mem _ (List.mem_append_right _ h)) hown hK.1 hP 0 rfl rfl 25 (by decide) (hts (.fieldLink RX12 192 "CutAtlasModel" "cuts" "I") (List.mem_of_getElem? (i := 1) rfl)) (fun _ h9 => h9) rfl dB_3_1_18.1.2.1 ?_
                      refine lv_iconst (v := 1) hx hb dB_3_1_18.1.2.2 (by decide) ?_
                      refine lv_iadd hx hb dB_3_1_18.2.1.1 ?_
                      refine lv_topi (fun y_48 ey_48 => ?_)
                      have ty_48 : y_48.toInt = o25_1.toInt + (1 : Int32).toInt := by rw [ey_48]; exact addI (by omega) (by omega)
                      refine va_put (ci := 12) (v := .int y_48) (ty := .int) (C := RX12) (T := TX12) (N := 34) hx hb hts (fun _ h => List.mem_cons_of_mem _ (List.mem_append_right _ h)) tyX12 tyX12_ok nmX12 hown hK.1 hP hD hS 0 rfl rfl 25 (by decide) (hts (.fieldLink RX12 192 "CutAtlasModel" "cuts" "I") (List.mem_of_getElem? (i := 1) rfl)) (fun _ h9 => h9) rfl (by decide +kernel) rfl rfl (Nat.le_of_ble_eq_true rfl) dB_3_1_18.2.1.2 (fun H locs hP hD hS => ?_)
                      refine pd_K [ob12_0_ mo s0 s1 t2 s3 s4 g5 g6 g7 g8 g9 g10 s11 g12 g13 g14 g15 g16 g17 g18 g19 g20 s21 g22 g23 g24 y_48 o26_1 o27_1 o28_1 g29 g30 g31 g32 g33, ai_ cy g5 40 f5, ai_ cy g6 40 f6, ai_ cy g7 40 f7, ai_ cy g8 40 f8, az_ cy g10 40 f10] hP hD (fun hP hD => ?_)
                      obtain ⟨y_49, ey_49⟩ : ∃ y : Int32, y = x5_1 + 1 := ⟨_, rfl⟩
                      have ty_49 : y_49.toInt = x5_1.toInt + (1 : Int32).toInt := by rw [ey_49]; exact addI (by omega) (by omega)
                      refine lv_iinc (v := y_49) (lv' := [(5, .int y_49), (0, .ref mo), (1, .int a1), (2, .int a2), (3, .int a3), (4, .int a4)]) hx hb dB_3_1_18.2.2.1 hl (k := 0) rfl (by rw [ey_49]; rfl) (by decide) rfl (fun ls hl => ?_)
                      refine lv_goto (tgt := 26) hx hb dB_3_1_18.2.2.2.1 (by decide) ?_
                      exact ih_1 y_49 y_48 o26_1 o27_1 o28_1 _ _ _ (by omega) (by first | with_reducible assumption | omega | assumption) (by first | with_reducible assumption | omega | assumption) (by first | exact ctsW_0 (by omega) | exact ctsW_no v2_1 (by omega) (by omega) (refP_f (Or.inl (bt_fl hbs_ (by omega))) (by omega)) | exact ctsW_no v2_1 (by omega) (by omega) (refP_f (Or.inr (Or.inl (bt_nz hbt_ (by omega)))) (by omega)) | exact ctsW_no v2_1 (by omega) (by omega) (refP_f (Or.inr (Or.inr (fun h => absurd (hsz_.trans h) (by omega)))) (by omega)) | exact ctsW_st v2_1 (by omega) (by omega) (refP_t (b_tr hbs_ (by omega)) (bt_fl hbt_ (by omega)) (hsz_.symm.trans (by omega)) (by omega)) (by omega) (by first | exact Or.inl ⟨rfl, by omega⟩ | exact Or.inr ⟨rfl, by omega, by omega⟩) (by first | exact Or.inl ⟨rfl, by omega⟩ | exact Or.inr ⟨rfl, by omega, by omega⟩) (by first | exact Or.inl ⟨rfl, by omega⟩ | exact Or.inr ⟨rfl, by omega⟩) (by omega)) (by first | omega | exact Int.natCast_nonneg _) (by first | with_reducible assumption | omega | assumption) ⟨hP, hD⟩ hS (lv_sub hl [0, 1, 2, 3, 4, 5] rfl)
                    · have t_47 : o25_1.toInt = a4.toInt := congrArg Int32.toInt c_47
                      refine lv_iload hx hb dB_3_1_17.2.1.2.2 (lv_at hl 0 rfl) ?_
                      refine lv_goto (tgt := 159) hx hb dB_3_1_17.2.2.1.1 (by decide) ?_
                      refine va_put (ci := 12) (v := .int x5_1) (ty := .int) (C := RX12) (T := TX12) (N := 34) hx hb hts (fun _ h => List.mem_cons_of_mem _ (List.mem_append_right _ h)) tyX12 tyX12_ok nmX12 hown hK.1 hP hD hS 0 rfl rfl 28 (by decide) (hts (.fieldLink RX12 201 "CutAtlasModel" "chosen" "I") (List.mem_of_getElem? (i := 4) rfl)) (fun _ h9 => h9) rfl (by decide +kernel) rfl rfl (Nat.le_of_ble_eq_true rfl) dB_3_1_17.2.2.2.2 (fun H locs hP hD hS => ?_)
                      refine pd_K [ob12_0_ mo s0 s1 t2 s3 s4 g5 g6 g7 g8 g9 g10 s11 g12 g13 g14 g15 g16 g17 g18 g19 g20 s21 g22 g23 g24 o25_1 o26_1 o27_1 x5_1 g29 g30 g31 g32 g33, ai_ cy g5 40 f5, ai_ cy g6 40 f6, ai_ cy g7 40 f7, ai_ cy g8 40 f8, az_ cy g10 40 f10] hP hD (fun hP hD => ?_)
                      refine lv_aload_n hx hb dB_3_1_18.1.1.1 rfl (lv_at hl 1 rfl) ?_
                      refine lv_dup hx hb dB_3_1_18.1.1.2 rfl ?_
                      refine va_get (ci := 12) (v := .int o25_1) (C := RX12) (T := TX12) (N := 34) hx hb hts (fun _ h => List.mem_cons_of_mem _ (List.mem_append_right _ h)) hown hK.1 hP 0 rfl rfl 25 (by decide) (hts (.fieldLink RX12 192 "CutAtlasModel" "cuts" "I") (List.mem_of_getElem? (i := 1) rfl)) (fun _ h9 => h9) rfl dB_3_1_18.1.2.1 ?_
                      refine lv_iconst (v := 1) hx hb dB_3_1_18.1.2.2 (by decide) ?_
                      refine lv_iadd hx hb dB_3_1_18.2.1.1 ?_
                      refine lv_topi (fun y_50 ey_50 => ?_)
                      have ty_50 : y_50.toInt = o25_1.toInt + (1 : Int32).toInt := by rw [ey_50]; exact addI (by omega) (by omega)
                      refine va_put (ci := 12) (v := .int y_50) (ty := .int) (C := RX12) (T := TX12) (N := 34) hx hb hts (fun _ h => List.mem_cons_of_mem _ (List.mem_append_right _ h)) tyX12 tyX12_ok nmX12 hown hK.1 hP hD hS 0 rfl rfl 25 (by decide) (hts (.fieldLink RX12 192 "CutAtlasModel" "cuts" "I") (List.mem_of_getElem? (i := 1) rfl)) (fun _ h9 => h9) rfl (by decide +kernel) rfl rfl (Nat.le_of_ble_eq_true rfl) dB_3_1_18.2.1.2 (fun H locs hP hD hS => ?_)
                      refine pd_K [ob12_0_ mo s0 s1 t2 s3 s4 g5 g6 g7 g8 g9 g10 s11 g12 g13 g14 g15 g16 g17 g18 g19 g20 s21 g22 g23 g24 y_50 o26_1 o27_1 x5_1 g29 g30 g31 g32 g33, ai_ cy g5 40 f5, ai_ cy g6 40 f6, ai_ cy g7 40 f7, ai_ cy g8 40 f8, az_ cy g10 40 f10] hP hD (fun hP hD => ?_)
                      obtain ⟨y_51, ey_51⟩ : ∃ y : Int32, y = x5_1 + 1 := ⟨_, rfl⟩
                      have ty_51 : y_51.toInt = x5_1.toInt + (1 : Int32).toInt := by rw [ey_51]; exact addI (by omega) (by omega)
                      refine lv_iinc (v := y_51) (lv' := [(5, .int y_51), (0, .ref mo), (1, .int a1), (2, .int a2), (3, .int a3), (4, .int a4)]) hx hb dB_3_1_18.2.2.1 hl (k := 0) rfl (by rw [ey_51]; rfl) (by decide) rfl (fun ls hl => ?_)
                      refine lv_goto (tgt := 26) hx hb dB_3_1_18.2.2.2.1 (by decide) ?_
                      exact ih_1 y_51 y_50 o26_1 o27_1 x5_1 _ _ _ (by omega) (by first | with_reducible assumption | omega | assumption) (by first | with_reducible assumption | omega | assumption) (by first | exact ctsW_0 (by omega) | exact ctsW_no v2_1 (by omega) (by omega) (refP_f (Or.inl (bt_fl hbs_ (by omega))) (by omega)) | exact ctsW_no v2_1 (by omega) (by omega) (refP_f (Or.inr (Or.inl (bt_nz hbt_ (by omega)))) (by omega)) | exact ctsW_no v2_1 (by omega) (by omega) (refP_f (Or.inr (Or.inr (fun h => absurd (hsz_.trans h) (by omega)))) (by omega)) | exact ctsW_st v2_1 (by omega) (by omega) (refP_t (b_tr hbs_ (by omega)) (bt_fl hbt_ (by omega)) (hsz_.symm.trans (by omega)) (by omega)) (by omega) (by first | exact Or.inl ⟨rfl, by omega⟩ | exact Or.inr ⟨rfl, by omega, by omega⟩) (by first | exact Or.inl ⟨rfl, by omega⟩ | exact Or.inr ⟨rfl, by omega, by omega⟩) (by first | exact Or.inl ⟨rfl, by omega⟩ | exact Or.inr ⟨rfl, by omega⟩) (by omega)) (by first | omega | exact Int.natCast_nonneg _) (by first | with_reducible assumption | omega | assumption) ⟨hP, hD⟩ hS (lv_sub hl [0, 1, 2, 3, 4, 5] rfl)
                  · have t_46 : ¬ r_44.toInt ≤ r_45.toInt := fun h => c_46 (Int32.le_iff_toInt_le.mpr h)
                    refine lv_iload hx hb dB_3_1_17.1.1.1.2 (lv_at hl 0 rfl) ?_
                    refine lv_goto (tgt := 137) hx hb dB_3_1_17.1.1.2.1 (by decide) ?_
                    refine va_put (ci := 12) (v := .int x5_1) (ty := .int) (C := RX12) (T := TX12) (N := 34) hx hb hts (fun _ h => List.mem_cons_of_mem _ (List.mem_append_right _ h)) tyX12 tyX12_ok nmX12 hown hK.1 hP hD hS 0 rfl rfl 27 (by decide) (hts (.fieldLink RX12 198 "CutAtlasModel" "far" "I") (List.mem_of_getElem? (i := 3) rfl)) (fun _ h9 => h9) rfl (by decide +kernel) rfl rfl (Nat.le_of_ble_eq_true rfl) dB_3_1_17.1.2.1.2 (fun H locs hP hD hS => ?_)
                    refine pd_K [ob12_0_ mo s0 s1 t2 s3 s4 g5 g6 g7 g8 g9 g10 s11 g12 g13 g14 g15 g16 g17 g18 g19 g20 s21 g22 g23 g24 o25_1 o26_1 x5_1 o28_1 g29 g30 g31 g32 g33, ai_ cy g5 40 f5, ai_ cy g6 40 f6, ai_ cy g7 40 f7, ai_ cy g8 40 f8, az_ cy g10 40 f10] hP hD (fun hP hD => ?_)
                    refine lv_aload_n hx hb dB_3_1_17.1.2.2.1 rfl (lv_at hl 1 rfl) ?_
                    refine lv_aload_n hx hb dB_3_1_17.1.2.2.2 rfl (lv_at hl 1 rfl) ?_
                    refine va_get (ci := 12) (v := .int o25_1) (C := RX12) (T := TX12) (N := 34) hx hb hts (fun _ h => List.mem_cons_of_mem _ (List.mem_append_right _ h)) hown hK.1 hP 0 rfl rfl 25 (by decide) (hts (.fieldLink RX12 192 "CutAtlasModel" "cuts" "I") (List.mem_of_getElem? (i := 1) rfl)) (fun _ h9 => h9) rfl dB_3_1_17.2.1.1.1 ?_
                    refine lv_iload hx hb dB_3_1_17.2.1.1.2 (lv_at hl 5 rfl) ?_
                    refine lv_icmp_ne (tgt := 155) hx hb dB_3_1_17.2.1.2.1 (by decide) (fun c_52 => ?_) (fun c_52 => ?_)
                    · have t_52 : ¬ o25_1.toInt = a4.toInt := fun h => c_52 (Int32.toInt_inj.mp h)
                      refine lv_aload_n hx hb dB_3_1_17.2.2.1.2 rfl (lv_at hl 1 rfl) ?_
                      refine va_get (ci := 12) (v := .int o28_1) (C := RX12) (T := TX12) (N := 34) hx hb hts (fun _ h => List.mem_cons_of_mem _ (List.mem_append_right _ h)) hown hK.1 hP 0 rfl rfl 28 (by decide) (hts (.fieldLink RX12 201 "CutAtlasModel" "chosen" "I") (List.mem_of_getElem? (i := 4) rfl)) (fun _ h9 => h9) rfl dB_3_1_17.2.2.2.1 ?_
                      refine va_put (ci := 12) (v := .int o28_1) (ty := .int) (C := RX12) (T := TX12) (N := 34) hx hb hts (fun _ h => List.mem_cons_of_mem _ (List.mem_append_right _ h)) tyX12 tyX12_ok nmX12 hown hK.1 hP hD hS 0 rfl rfl 28 (by decide) (hts (.fieldLink RX12 201 "CutAtlasModel" "chosen" "I") (List.mem_of_getElem? (i := 4) rfl)) (fun _ h9 => h9) rfl (by decide +kernel) rfl rfl (Nat.le_of_ble_eq_true rfl) dB_3_1_17.2.2.2.2 (fun H locs hP hD hS => ?_)
                      refine pd_K [ob12_0_ mo s0 s1 t2 s3 s4 g5 g6 g7 g8 g9 g10 s11 g12 g13 g14 g15 g16 g17 g18 g19 g20 s21 g22 g23 g24 o25_1 o26_1 x5_1 o28_1 g29 g30 g31 g32 g33, ai_ cy g5 40 f5, ai_ cy g6 40 f6, ai_ cy g7 40 f7, ai_ cy g8 40 f8, az_ cy g10 40 f10] hP hD (fun hP hD => ?_)
                      refine lv_aload_n hx hb dB_3_1_18.1.1.1 rfl (lv_at hl 1 rfl) ?_
                      refine lv_dup hx hb dB_3_1_18.1.1.2 rfl ?_
                      refine va_get (ci := 12) (v := .int o25_1) (C := RX12) (T := TX12) (N := 34) hx hb hts (fun _ h => List.mem_cons_of_mem _ (List.mem_append_right _ h)) hown hK.1 hP 0 rfl rfl 25 (by decide) (hts (.fieldLink RX12 192 "CutAtlasModel" "cuts" "I") (List.mem_of_getElem? (i := 1) rfl)) (fun _ h9 => h9) rfl dB_3_1_18.1.2.1 ?_
                      refine lv_iconst (v := 1) hx hb dB_3_1_18.1.2.2 (by decide) ?_
                      refine lv_iadd hx hb dB_3_1_18.2.1.1 ?_
                      refine lv_topi (fun y_53 ey_53 => ?_)
                      have ty_53 : y_53.toInt = o25_1.toInt + (1 : Int32).toInt := by rw [ey_53]; exact addI (by omega) (by omega)
                      refine va_put (ci := 12) (v := .int y_53) (ty := .int) (C := RX12) (T := TX12) (N := 34) hx hb hts (fun _ h => List.mem_cons_of_mem _ (List.mem_append_right _ h)) tyX12 tyX12_ok nmX12 hown hK.1 hP hD hS 0 rfl rfl 25 (by decide) (hts (.fieldLink RX12 192 "CutAtlasModel" "cuts" "I") (List.mem_of_getElem? (i := 1) rfl)) (fun _ h9 => h9) rfl (by decide +kernel) rfl rfl (Nat.le_of_ble_eq_true rfl) dB_3_1_18.2.1.2 (fun H locs hP hD hS => ?_)
                      refine pd_K [ob12_0_ mo s0 s1 t2 s3 s4 g5 g6 g7 g8 g9 g10 s11 g12 g13 g14 g15 g16 g17 g18 g19 g20 s21 g22 g23 g24 y_53 o26_1 x5_1 o28_1 g29 g30 g31 g32 g33, ai_ cy g5 40 f5, ai_ cy g6 40 f6, ai_ cy g7 40 f7, ai_ cy g8 40 f8, az_ cy g10 40 f10] hP hD (fun hP hD => ?_)
                      obtain ⟨y_54, ey_54⟩ : ∃ y : Int32, y = x5_1 + 1 := ⟨_, rfl⟩
                      have ty_54 : y_54.toInt = x5_1.toInt + (1 : Int32).toInt := by rw [ey_54]; exact addI (by omega) (by omega)
                      refine lv_iinc (v := y_54) (lv' := [(5, .int y_54), (0, .ref mo), (1, .int a1), (2, .int a2), (3, .int a3), (4, .int a4)]) hx hb dB_3_1_18.2.2.1 hl (k := 0) rfl (by rw [ey_54]; rfl) (by decide) rfl (fun ls hl => ?_)
                      refine lv_goto (tgt := 26) hx hb dB_3_1_18.2.2.2.1 (by decide) ?_
                      exact ih_1 y_54 y_53 o26_1 x5_1 o28_1 _ _ _ (by omega) (by first | with_reducible assumption | omega | assumption) (by first | with_reducible assumption | omega | assumption) (by first | exact ctsW_0 (by omega) | exact ctsW_no v2_1 (by omega) (by omega) (refP_f (Or.inl (bt_fl hbs_ (by omega))) (by omega)) | exact ctsW_no v2_1 (by omega) (by omega) (refP_f (Or.inr (Or.inl (bt_nz hbt_ (by omega)))) (by omega)) | exact ctsW_no v2_1 (by omega) (by omega) (refP_f (Or.inr (Or.inr (fun h => absurd (hsz_.trans h) (by omega)))) (by omega)) | exact ctsW_st v2_1 (by omega) (by omega) (refP_t (b_tr hbs_ (by omega)) (bt_fl hbt_ (by omega)) (hsz_.symm.trans (by omega)) (by omega)) (by omega) (by first | exact Or.inl ⟨rfl, by omega⟩ | exact Or.inr ⟨rfl, by omega, by omega⟩) (by first | exact Or.inl ⟨rfl, by omega⟩ | exact Or.inr ⟨rfl, by omega, by omega⟩) (by first | exact Or.inl ⟨rfl, by omega⟩ | exact Or.inr ⟨rfl, by omega⟩) (by omega)) (by first | omega | exact Int.natCast_nonneg _) (by first | with_reducible assumption | omega | assumption) ⟨hP, hD⟩ hS (lv_sub hl [0, 1, 2, 3, 4, 5] rfl)
                    · have t_52 : o25_1.toInt = a4.toInt := congrArg Int32.toInt c_52
                      refine lv_iload hx hb dB_3_1_17.2.1.2.2 (lv_at hl 0 rfl) ?_
                      refine lv_goto (tgt := 159) hx hb dB_3_1_17.2.2.1.1 (by decide) ?_
                      refine va_put (ci := 12) (v := .int x5_1) (ty := .int) (C := RX12) (T := TX12) (N := 34) hx hb hts (fun _ h => List.mem_cons_of_mem _ (List.mem_append_right _ h)) tyX12 tyX12_ok nmX12 hown hK.1 hP hD hS 0 rfl rfl 28 (by decide) (hts (.fieldLink RX12 201 "CutAtlasModel" "chosen" "I") (List.mem_of_getElem? (i := 4) rfl)) (fun _ h9 => h9) rfl (by decide +kernel) rfl rfl (Nat.le_of_ble_eq_true rfl) dB_3_1_17.2.2.2.2 (fun H locs hP hD hS => ?_)
                      refine pd_K [ob12_0_ mo s0 s1 t2 s3 s4 g5 g6 g7 g8 g9 g10 s11 g12 g13 g14 g15 g16 g17 g18 g19 g20 s21 g22 g23 g24 o25_1 o26_1 x5_1 x5_1 g29 g30 g31 g32 g33, ai_ cy g5 40 f5, ai_ cy g6 40 f6, ai_ cy g7 40 f7, ai_ cy g8 40 f8, az_ cy g10 40 f10] hP hD (fun hP hD => ?_)
                      refine lv_aload_n hx hb dB_3_1_18.1.1.1 rfl (lv_at hl 1 rfl) ?_
                      refine lv_dup hx hb dB_3_1_18.1.1.2 rfl ?_
                      refine va_get (ci := 12) (v := .int o25_1) (C := RX12) (T := TX12) (N := 34) hx hb hts (fun _ h => List.mem_cons_of_mem _ (List.mem_append_right _ h)) hown hK.1 hP 0 rfl rfl 25 (by decide) (hts (.fieldLink RX12 192 "CutAtlasModel" "cuts" "I") (List.mem_of_getElem? (i := 1) rfl)) (fun _ h9 => h9) rfl dB_3_1_18.1.2.1 ?_
                      refine lv_iconst (v := 1) hx hb dB_3_1_18.1.2.2 (by decide) ?_
                      refine lv_iadd hx hb dB_3_1_18.2.1.1 ?_
                      refine lv_topi (fun y_55 ey_55 => ?_)
                      have ty_55 : y_55.toInt = o25_1.toInt + (1 : Int32).toInt := by rw [ey_55]; exact addI (by omega) (by omega)
                      refine va_put (ci := 12) (v := .int y_55) (ty := .int) (C := RX12) (T := TX12) (N := 34) hx hb hts (fun _ h => List.mem_cons_of_mem _ (List.mem_append_right _ h)) tyX12 tyX12_ok nmX12 hown hK.1 hP hD hS 0 rfl rfl 25 (by decide) (hts (.fieldLink RX12 192 "CutAtlasModel" "cuts" "I") (List.mem_of_getElem? (i := 1) rfl)) (fun _ h9 => h9) rfl (by decide +kernel) rfl rfl (Nat.le_of_ble_eq_true rfl) dB_3_1_18.2.1.2 (fun H locs hP hD hS => ?_)
                      refine pd_K [ob12_0_ mo s0 s1 t2 s3 s4 g5 g6 g7 g8 g9 g10 s11 g12 g13 g14 g15 g16 g17 g18 g19 g20 s21 g22 g23 g24 y_55 o26_1 x5_1 x5_1 g29 g30 g31 g32 g33, ai_ cy g5 40 f5, ai_ cy g6 40 f6, ai_ cy g7 40 f7, ai_ cy g8 40 f8, az_ cy g10 40 f10] hP hD (fun hP hD => ?_)
                      obtain ⟨y_56, ey_56⟩ : ∃ y : Int32, y = x5_1 + 1 := ⟨_, rfl⟩
                      have ty_56 : y_56.toInt = x5_1.toInt + (1 : Int32).toInt := by rw [ey_56]; exact addI (by omega) (by omega)
                      refine lv_iinc (v := y_56) (lv' := [(5, .int y_56), (0, .ref mo), (1, .int a1), (2, .int a2), (3, .int a3), (4, .int a4)]) hx hb dB_3_1_18.2.2.1 hl (k := 0) rfl (by rw [ey_56]; rfl) (by decide) rfl (fun ls hl => ?_)
                      refine lv_goto (tgt := 26) hx hb dB_3_1_18.2.2.2.1 (by decide) ?_
                      exact ih_1 y_56 y_55 o26_1 x5_1 x5_1 _ _ _ (by omega) (by first | with_reducible assumption | omega | assumption) (by first | with_reducible assumption | omega | assumption) (by first | exact ctsW_0 (by omega) | exact ctsW_no v2_1 (by omega) (by omega) (refP_f (Or.inl (bt_fl hbs_ (by omega))) (by omega)) | exact ctsW_no v2_1 (by omega) (by omega) (refP_f (Or.inr (Or.inl (bt_nz hbt_ (by omega)))) (by omega)) | exact ctsW_no v2_1 (by omega) (by omega) (refP_f (Or.inr (Or.inr (fun h => absurd (hsz_.trans h) (by omega)))) (by omega)) | exact ctsW_st v2_1 (by omega) (by omega) (refP_t (b_tr hbs_ (by omega)) (bt_fl hbt_ (by omega)) (hsz_.symm.trans (by omega)) (by omega)) (by omega) (by first | exact Or.inl ⟨rfl, by omega⟩ | exact Or.inr ⟨rfl, by omega, by omega⟩) (by first | exact Or.inl ⟨rfl, by omega⟩ | exact Or.inr ⟨rfl, by omega, by omega⟩) (by first | exact Or.inl ⟨rfl, by omega⟩ | exact Or.inr ⟨rfl, by omega⟩) (by omega)) (by first | omega | exact Int.natCast_nonneg _) (by first | with_reducible assumption | omega | assumption) ⟨hP, hD⟩ hS (lv_sub hl [0, 1, 2, 3, 4, 5] rfl)
              · have t_37 : ¬ r_36.toInt ≤ r_35.toInt := fun h => c_37 (Int32.le_iff_toInt_le.mpr h)
                refine lv_iload hx hb dB_3_1_16.1.1.1.2 (lv_at hl 0 rfl) ?_
                refine lv_goto (tgt := 100) hx hb dB_3_1_16.1.1.2.1 (by decide) ?_
                refine va_put (ci := 12) (v := .int x5_1) (ty := .int) (C := RX12) (T := TX12) (N := 34) hx hb hts (fun _ h => List.mem_cons_of_mem _ (List.mem_append_right _ h)) tyX12 tyX12_ok nmX12 hown hK.1 hP hD hS 0 rfl rfl 26 (by decide) (hts (.fieldLink RX12 195 "CutAtlasModel" "near" "I") (List.mem_of_getElem? (i := 2) rfl)) (fun _ h9 => h9) rfl (by decide +kernel) rfl rfl (Nat.le_of_ble_eq_true rfl) dB_3_1_16.1.2.1.2 (fun H locs hP hD hS => ?_)
                refine pd_K [ob12_0_ mo s0 s1 t2 s3 s4 g5 g6 g7 g8 g9 g10 s11 g12 g13 g14 g15 g16 g17 g18 g19 g20 s21 g22 g23 g24 o25_1 x5_1 o27_1 o28_1 g29 g30 g31 g32 g33, ai_ cy g5 40 f5, ai_ cy g6 40 f6, ai_ cy g7 40 f7, ai_ cy g8 40 f8, az_ cy g10 40 f10] hP hD (fun hP hD => ?_)
                refine lv_aload_n hx hb dB_3_1_16.1.2.2.1 rfl (lv_at hl 1 rfl) ?_
                refine lv_aload_n hx hb dB_3_1_16.1.2.2.2 rfl (lv_at hl 1 rfl) ?_
                refine va_get (ci := 12) (v := .int o27_1) (C := RX12) (T := TX12) (N := 34) hx hb hts (fun _ h => List.mem_cons_of_mem _ (List.mem_append_right _ h)) hown hK.1 hP 0 rfl rfl 27 (by decide) (hts (.fieldLink RX12 198 "CutAtlasModel" "far" "I") (List.mem_of_getElem? (i := 3) rfl)) (fun _ h9 => h9) rfl dB_3_1_16.2.1.1.1 ?_
                refine lv_bipush (v := (-9)) hx hb dB_3_1_16.2.1.1.2 (by decide) ?_
                refine lv_icmp_eq (tgt := 128) hx hb dB_3_1_16.2.1.2.1 (by decide) (fun c_57 => ?_) (fun c_57 => ?_)
                · have t_57 : o27_1.toInt = ((-9) : Int32).toInt := congrArg Int32.toInt c_57
                  refine lv_iload hx hb dB_3_1_17.1.1.1.2 (lv_at hl 0 rfl) ?_
                  refine lv_goto (tgt := 137) hx hb dB_3_1_17.1.1.2.1 (by decide) ?_
                  refine va_put (ci := 12) (v := .int x5_1) (ty := .int) (C := RX12) (T := TX12) (N := 34) hx hb hts (fun _ h => List.mem_cons_of_mem _ (List.mem_append_right _ h)) tyX12 tyX12_ok nmX12 hown hK.1 hP hD hS 0 rfl rfl 27 (by decide) (hts (.fieldLink RX12 198 "CutAtlasModel" "far" "I") (List.mem_of_getElem? (i := 3) rfl)) (fun _ h9 => h9) rfl (by decide +kernel) rfl rfl (Nat.le_of_ble_eq_true rfl) dB_3_1_17.1.2.1.2 (fun H locs hP hD hS => ?_)
                  refine pd_K [ob12_0_ mo s0 s1 t2 s3 s4 g5 g6 g7 g8 g9 g10 s11 g12 g13 g14 g15 g16 g17 g18 g19 g20 s21 g22 g23 g24 o25_1 x5_1 x5_1 o28_1 g29 g30 g31 g32 g33, ai_ cy g5 40 f5, ai_ cy g6 40 f6, ai_ cy g7 40 f7, ai_ cy g8 40 f8, az_ cy g10 40 f10] hP hD (fun hP hD => ?_)
                  refine lv_aload_n hx hb dB_3_1_17.1.2.2.1 rfl (lv_at hl 1 rfl) ?_
                  refine lv_aload_n hx hb dB_3_1_17.1.2.2.2 rfl (lv_at hl 1 rfl) ?_
                  refine va_get (ci := 12) (v := .int o25_1) (C := RX12) (T := TX12) (N := 34) hx hb hts (fun _ h => List.mem_cons_of_mem _ (List.mem_append_right _ h)) hown hK.1 hP 0 rfl rfl 25 (by decide) (hts (.fieldLink RX12 192 "CutAtlasModel" "cuts" "I") (List.mem_of_getElem? (i := 1) rfl)) (fun _ h9 => h9) rfl dB_3_1_17.2.1.1.1 ?_
                  refine lv_iload hx hb dB_3_1_17.2.1.1.2 (lv_at hl 5 rfl) ?_
                  refine lv_icmp_ne (tgt := 155) hx hb dB_3_1_17.2.1.2.1 (by decide) (fun c_58 => ?_) (fun c_58 => ?_)
                  · have t_58 : ¬ o25_1.toInt = a4.toInt := fun h => c_58 (Int32.toInt_inj.mp h)
                    refine lv_aload_n hx hb dB_3_1_17.2.2.1.2 rfl (lv_at hl 1 rfl) ?_
                    refine va_get (ci := 12) (v := .int o28_1) (C := RX12) (T := TX12) (N := 34) hx hb hts (fun _ h => List.mem_cons_of_mem _ (List.mem_append_right _ h)) hown hK.1 hP 0 rfl rfl 28 (by decide) (hts (.fieldLink RX12 201 "CutAtlasModel" "chosen" "I") (List.mem_of_getElem? (i := 4) rfl)) (fun _ h9 => h9) rfl dB_3_1_17.2.2.2.1 ?_
                    refine va_put (ci := 12) (v := .int o28_1) (ty := .int) (C := RX12) (T := TX12) (N := 34) hx hb hts (fun _ h => List.mem_cons_of_mem _ (List.mem_append_right _ h)) tyX12 tyX12_ok nmX12 hown hK.1 hP hD hS 0 rfl rfl 28 (by decide) (hts (.fieldLink RX12 201 "CutAtlasModel" "chosen" "I") (List.mem_of_getElem? (i := 4) rfl)) (fun _ h9 => h9) rfl (by decide +kernel) rfl rfl (Nat.le_of_ble_eq_true rfl) dB_3_1_17.2.2.2.2 (fun H locs hP hD hS => ?_)
                    refine pd_K [ob12_0_ mo s0 s1 t2 s3 s4 g5 g6 g7 g8 g9 g10 s11 g12 g13 g14 g15 g16 g17 g18 g19 g20 s21 g22 g23 g24 o25_1 x5_1 x5_1 o28_1 g29 g30 g31 g32 g33, ai_ cy g5 40 f5, ai_ cy g6 40 f6, ai_ cy g7 40 f7, ai_ cy g8 40 f8, az_ cy g10 40 f10] hP hD (fun hP hD => ?_)
                    refine lv_aload_n hx hb dB_3_1_18.1.1.1 rfl (lv_at hl 1 rfl) ?_
                    refine lv_dup hx hb dB_3_1_18.1.1.2 rfl ?_
                    refine va_get (ci := 12) (v := .int o25_1) (C := RX12) (T := TX12) (N := 34) hx hb hts (fun _ h => List.mem_cons_of_mem _ (List.mem_append_right _ h)) hown hK.1 hP 0 rfl rfl 25 (by decide) (hts (.fieldLink RX12 192 "CutAtlasModel" "cuts" "I") (List.mem_of_getElem? (i := 1) rfl)) (fun _ h9 => h9) rfl dB_3_1_18.1.2.1 ?_
                    refine lv_iconst (v := 1) hx hb dB_3_1_18.1.2.2 (by decide) ?_
                    refine lv_iadd hx hb dB_3_1_18.2.1.1 ?_
                    refine lv_topi (fun y_59 ey_59 => ?_)
                    have ty_59 : y_59.toInt = o25_1.toInt + (1 : Int32).toInt := by rw [ey_59]; exact addI (by omega) (by omega)
                    refine va_put (ci := 12) (v := .int y_59) (ty := .int) (C := RX12) (T := TX12) (N := 34) hx hb hts (fun _ h => List.mem_cons_of_mem _ (List.mem_append_right _ h)) tyX12 tyX12_ok nmX12 hown hK.1 hP hD hS 0 rfl rfl 25 (by decide) (hts (.fieldLink RX12 192 "CutAtlasModel" "cuts" "I") (List.mem_of_getElem? (i := 1) rfl)) (fun _ h9 => h9) rfl (by decide +kernel) rfl rfl (Nat.le_of_ble_eq_true rfl) dB_3_1_18.2.1.2 (fun H locs hP hD hS => ?_)
                    refine pd_K [ob12_0_ mo s0 s1 t2 s3 s4 g5 g6 g7 g8 g9 g10 s11 g12 g13 g14 g15 g16 g17 g18 g19 g20 s21 g22 g23 g24 y_59 x5_1 x5_1 o28_1 g29 g30 g31 g32 g33, ai_ cy g5 40 f5, ai_ cy g6 40 f6, ai_ cy g7 40 f7, ai_ cy g8 40 f8, az_ cy g10 40 f10] hP hD (fun hP hD => ?_)
                    obtain ⟨y_60, ey_60⟩ : ∃ y : Int32, y = x5_1 + 1 := ⟨_, rfl⟩
                    have ty_60 : y_60.toInt = x5_1.toInt + (1 : Int32).toInt := by rw [ey_60]; exact addI (by omega) (by omega)
                    refine lv_iinc (v := y_60) (lv' := [(5, .int y_60), (0, .ref mo), (1, .int a1), (2, .int a2), (3, .int a3), (4, .int a4)]) hx hb dB_3_1_18.2.2.1 hl (k := 0) rfl (by rw [ey_60]; rfl) (by decide) rfl (fun ls hl => ?_)
                    refine lv_goto (tgt := 26) hx hb dB_3_1_18.2.2.2.1 (by decide) ?_
                    exact ih_1 y_60 y_59 x5_1 x5_1 o28_1 _ _ _ (by omega) (by first | with_reducible assumption | omega | assumption) (by first | with_reducible assumption | omega | assumption) (by first | exact ctsW_0 (by omega) | exact ctsW_no v2_1 (by omega) (by omega) (refP_f (Or.inl (bt_fl hbs_ (by omega))) (by omega)) | exact ctsW_no v2_1 (by omega) (by omega) (refP_f (Or.inr (Or.inl (bt_nz hbt_ (by omega)))) (by omega)) | exact ctsW_no v2_1 (by omega) (by omega) (refP_f (Or.inr (Or.inr (fun h => absurd (hsz_.trans h) (by omega)))) (by omega)) | exact ctsW_st v2_1 (by omega) (by omega) (refP_t (b_tr hbs_ (by omega)) (bt_fl hbt_ (by omega)) (hsz_.symm.trans (by omega)) (by omega)) (by omega) (by first | exact Or.inl ⟨rfl, by omega⟩ | exact Or.inr ⟨rfl, by omega, by omega⟩) (by first | exact Or.inl ⟨rfl, by omega⟩ | exact Or.inr ⟨rfl, by omega, by omega⟩) (by first | exact Or.inl ⟨rfl, by omega⟩ | exact Or.inr ⟨rfl, by omega⟩) (by omega)) (by first | omega | exact Int.natCast_nonneg _) (by first | with_reducible assumption | omega | assumption) ⟨hP, hD⟩ hS (lv_sub hl [0, 1, 2, 3, 4, 5] rfl)
                  · have t_58 : o25_1.toInt = a4.toInt := congrArg Int32.toInt c_58
                    refine lv_iload hx hb dB_3_1_17.2.1.2.2 (lv_at hl 0 rfl) ?_
                    refine lv_goto (tgt := 159) hx hb dB_3_1_17.2.2.1.1 (by decide) ?_
                    refine va_put (ci := 12) (v := .int x5_1) (ty := .int) (C := RX12) (T := TX12) (N := 34) hx hb hts (fun _ h => List.mem_cons_of_mem _ (List.mem_append_right _ h)) tyX12 tyX12_ok nmX12 hown hK.1 hP hD hS 0 rfl rfl 28 (by decide) (hts (.fieldLink RX12 201 "CutAtlasModel" "chosen" "I") (List.mem_of_getElem? (i := 4) rfl)) (fun _ h9 => h9) rfl (by decide +kernel) rfl rfl (Nat.le_of_ble_eq_true rfl) dB_3_1_17.2.2.2.2 (fun H locs hP hD hS => ?_)
                    refine pd_K [ob12_0_ mo s0 s1 t2 s3 s4 g5 g6 g7 g8 g9 g10 s11 g12 g13 g14 g15 g16 g17 g18 g19 g20 s21 g22 g23 g24 o25_1 x5_1 x5_1 x5_1 g29 g30 g31 g32 g33, ai_ cy g5 40 f5, ai_ cy g6 40 f6, ai_ cy g7 40 f7, ai_ cy g8 40 f8, az_ cy g10 40 f10] hP hD (fun hP hD => ?_)
                    refine lv_aload_n hx hb dB_3_1_18.1.1.1 rfl (lv_at hl 1 rfl) ?_
                    refine lv_dup hx hb dB_3_1_18.1.1.2 rfl ?_
                    refine va_get (ci := 12) (v := .int o25_1) (C := RX12) (T := TX12) (N := 34) hx hb hts (fun _ h => List.mem_cons_of_mem _ (List.mem_append_right _ h)) hown hK.1 hP 0 rfl rfl 25 (by decide) (hts (.fieldLink RX12 192 "CutAtlasModel" "cuts" "I") (List.mem_of_getElem? (i := 1) rfl)) (fun _ h9 => h9) rfl dB_3_1_18.1.2.1 ?_
                    refine lv_iconst (v := 1) hx hb dB_3_1_18.1.2.2 (by decide) ?_
                    refine lv_iadd hx hb dB_3_1_18.2.1.1 ?_
                    refine lv_topi (fun y_61 ey_61 => ?_)
                    have ty_61 : y_61.toInt = o25_1.toInt + (1 : Int32).toInt := by rw [ey_61]; exact addI (by omega) (by omega)
                    refine va_put (ci := 12) (v := .int y_61) (ty := .int) (C := RX12) (T := TX12) (N := 34) hx hb hts (fun _ h => List.mem_cons_of_mem _ (List.mem_append_right _ h)) tyX12 tyX12_ok nmX12 hown hK.1 hP hD hS 0 rfl rfl 25 (by decide) (hts (.fieldLink RX12 192 "CutAtlasModel" "cuts" "I") (List.mem_of_getElem? (i := 1) rfl)) (fun _ h9 => h9) rfl (by decide +kernel) rfl rfl (Nat.le_of_ble_eq_true rfl) dB_3_1_18.2.1.2 (fun H locs hP hD hS => ?_)
                    refine pd_K [ob12_0_ mo s0 s1 t2 s3 s4 g5 g6 g7 g8 g9 g10 s11 g12 g13 g14 g15 g16 g17 g18 g19 g20 s21 g22 g23 g24 y_61 x5_1 x5_1 x5_1 g29 g30 g31 g32 g33, ai_ cy g5 40 f5, ai_ cy g6 40 f6, ai_ cy g7 40 f7, ai_ cy g8 40 f8, az_ cy g10 40 f10] hP hD (fun hP hD => ?_)
                    obtain ⟨y_62, ey_62⟩ : ∃ y : Int32, y = x5_1 + 1 := ⟨_, rfl⟩
                    have ty_62 : y_62.toInt = x5_1.toInt + (1 : Int32).toInt := by rw [ey_62]; exact addI (by omega) (by omega)
                    refine lv_iinc (v := y_62) (lv' := [(5, .int y_62), (0, .ref mo), (1, .int a1), (2, .int a2), (3, .int a3), (4, .int a4)]) hx hb dB_3_1_18.2.2.1 hl (k := 0) rfl (by rw [ey_62]; rfl) (by decide) rfl (fun ls hl => ?_)
                    refine lv_goto (tgt := 26) hx hb dB_3_1_18.2.2.2.1 (by decide) ?_
                    exact ih_1 y_62 y_61 x5_1 x5_1 x5_1 _ _ _ (by omega) (by first | with_reducible assumption | omega | assumption) (by first | with_reducible assumption | omega | assumption) (by first | exact ctsW_0 (by omega) | exact ctsW_no v2_1 (by omega) (by omega) (refP_f (Or.inl (bt_fl hbs_ (by omega))) (by omega)) | exact ctsW_no v2_1 (by omega) (by omega) (refP_f (Or.inr (Or.inl (bt_nz hbt_ (by omega)))) (by omega)) | exact ctsW_no v2_1 (by omega) (by omega) (refP_f (Or.inr (Or.inr (fun h => absurd (hsz_.trans h) (by omega)))) (by omega)) | exact ctsW_st v2_1 (by omega) (by omega) (refP_t (b_tr hbs_ (by omega)) (bt_fl hbt_ (by omega)) (hsz_.symm.trans (by omega)) (by omega)) (by omega) (by first | exact Or.inl ⟨rfl, by omega⟩ | exact Or.inr ⟨rfl, by omega, by omega⟩) (by first | exact Or.inl ⟨rfl, by omega⟩ | exact Or.inr ⟨rfl, by omega, by omega⟩) (by first | exact Or.inl ⟨rfl, by omega⟩ | exact Or.inr ⟨rfl, by omega⟩) (by omega)) (by first | omega | exact Int.natCast_nonneg _) (by first | with_reducible assumption | omega | assumption) ⟨hP, hD⟩ hS (lv_sub hl [0, 1, 2, 3, 4, 5] rfl)
                · have t_57 : ¬ o27_1.toInt = ((-9) : Int32).toInt := fun h => c_57 (Int32.toInt_inj.mp h)
                  refine lv_iload hx hb dB_3_1_16.2.1.2.2 (lv_at hl 0 rfl) ?_
                  refine ct_R hP hD [] [] (by decide) rfl (fun hPc hDw => ?_)
                  have hFc := va_free (wc := []) hD hS hA [] rfl
                  refine va_calli (va_runS (As := [.int x5_1]) (rest := [.ref mo]) ⟨hx, hb, hml, hown, hts⟩ (c_X12_bitsOf2 l D cy H.size x5_1) (va_cwS 1 hts gX12_cutsOf_X12_bitsOf rfl rfl rfl hd_X12_bitsOf ⟨Nat.le_of_ble_eq_true rfl, Nat.le_of_ble_eq_true rfl⟩) ⟨bl_, fun U hU hW => ⟨rfl, by rw [hU], by rw [hU]; exact hPc, kk_mv hW hK, hDw⟩⟩ rfl rfl hl.1 rfl (lv_room (Nat.le_of_ble_eq_true rfl)) dB_3_1_16.2.2.1.1 ⟨Nat.le_of_ble_eq_true rfl, Nat.le_of_ble_eq_true rfl⟩) hS (fun q _ h => hFc q h) hFc (fun r_63 u t H locs ht hvm hw hB hz1 hk1 hS => ?_)
                  have hP : va_P D vwCl _ H := ro_keep hP hk1
                  obtain ⟨f0_r_63, f1_r_63⟩ := hw
                  refine lv_aload_n hx hb dB_3_1_16.2.2.1.2 rfl (lv_at hl 1 rfl) ?_
                  refine va_get (ci := 12) (v := .int o27_1) (C := RX12) (T := TX12) (N := 34) hx hb hts (fun _ h => List.mem_cons_of_mem _ (List.mem_append_right _ h)) hown hK.1 hP 0 rfl rfl 27 (by decide) (hts (.fieldLink RX12 198 "CutAtlasModel" "far" "I") (List.mem_of_getElem? (i := 3) rfl)) (fun _ h9 => h9) rfl dB_3_1_16.2.2.2.1 ?_
                  refine ct_R hP hD [] [] (by decide) rfl (fun hPc hDw => ?_)
                  have hFc := va_free (wc := []) hD hS hA [] rfl
                  refine va_calli (va_runS (As := [.int o27_1]) (rest := [.int r_63, .ref mo]) ⟨hx, hb, hml, hown, hts⟩ (c_X12_bitsOf2 l D cy H.size o27_1) (va_cwS 1 hts gX12_cutsOf_X12_bitsOf rfl rfl rfl hd_X12_bitsOf ⟨Nat.le_of_ble_eq_true rfl, Nat.le_of_ble_eq_true rfl⟩) ⟨bl_, fun U hU hW => ⟨rfl, by rw [hU], by rw [hU]; exact hPc, kk_mv hW hK, hDw⟩⟩ rfl rfl hl.1 rfl (lv_room (Nat.le_of_ble_eq_true rfl)) dB_3_1_16.2.2.2.2 ⟨Nat.le_of_ble_eq_true rfl, Nat.le_of_ble_eq_true rfl⟩) hS (fun q _ h => hFc q h) hFc (fun r_64 u t H locs ht hvm hw hB hz1 hk1 hS => ?_)
                  have hP : va_P D vwCl _ H := ro_keep hP hk1
                  obtain ⟨f0_r_64, f1_r_64⟩ := hw
                  refine lv_icmp_le (tgt := 133) hx hb dB_3_1_17.1.1.1.1 (by decide) (fun c_65 => ?_) (fun c_65 => ?_)
                  · have t_65 : r_63.toInt ≤ r_64.toInt := Int32.le_iff_toInt_le.mp c_65
                    refine lv_aload_n hx hb dB_3_1_17.1.1.2.2 rfl (lv_at hl 1 rfl) ?_
                    refine va_get (ci := 12) (v := .int o27_1) (C := RX12) (T := TX12) (N := 34) hx hb hts (fun _ h => List.mem_cons_of_mem _ (List.mem_append_right _ h)) hown hK.1 hP 0 rfl rfl 27 (by decide) (hts (.fieldLink RX12 198 "CutAtlasModel" "far" "I") (List.mem_of_getElem? (i := 3) rfl)) (fun _ h9 => h9) rfl dB_3_1_17.1.2.1.1 ?_
                    refine va_put (ci := 12) (v := .int o27_1) (ty := .int) (C := RX12) (T := TX12) (N := 34) hx hb hts (fun _ h => List.mem_cons_of_mem _ (List.mem_append_right _ h)) tyX12 tyX12_ok nmX12 hown hK.1 hP hD hS 0 rfl rfl 27 (by decide) (hts (.fieldLink RX12 198 "CutAtlasModel" "far" "I") (List.mem_of_getElem? (i := 3) rfl)) (fun _ h9 => h9) rfl (by decide +kernel) rfl rfl (Nat.le_of_ble_eq_true rfl) dB_3_1_17.1.2.1.2 (fun H locs hP hD hS => ?_)
                    refine pd_K [ob12_0_ mo s0 s1 t2 s3 s4 g5 g6 g7 g8 g9 g10 s11 g12 g13 g14 g15 g16 g17 g18 g19 g20 s21 g22 g23 g24 o25_1 x5_1 o27_1 o28_1 g29 g30 g31 g32 g33, ai_ cy g5 40 f5, ai_ cy g6 40 f6, ai_ cy g7 40 f7, ai_ cy g8 40 f8, az_ cy g10 40 f10] hP hD (fun hP hD => ?_)
                    refine lv_aload_n hx hb dB_3_1_17.1.2.2.1 rfl (lv_at hl 1 rfl) ?_
                    refine lv_aload_n hx hb dB_3_1_17.1.2.2.2 rfl (lv_at hl 1 rfl) ?_
                    refine va_get (ci := 12) (v := .int o25_1) (C := RX12) (T := TX12) (N := 34) hx hb hts (fun _ h => List.mem_cons_of_mem _ (List.mem_append_right _ h)) hown hK.1 hP 0 rfl rfl 25 (by decide) (hts (.fieldLink RX12 192 "CutAtlasModel" "cuts" "I") (List.mem_of_getElem? (i := 1) rfl)) (fun _ h9 => h9) rfl dB_3_1_17.2.1.1.1 ?_
                    refine lv_iload hx hb dB_3_1_17.2.1.1.2 (lv_at hl 5 rfl) ?_
                    refine lv_icmp_ne (tgt := 155) hx hb dB_3_1_17.2.1.2.1 (by decide) (fun c_66 => ?_) (fun c_66 => ?_)
                    · have t_66 : ¬ o25_1.toInt = a4.toInt := fun h => c_66 (Int32.toInt_inj.mp h)
                      refine lv_aload_n hx hb dB_3_1_17.2.2.1.2 rfl (lv_at hl 1 rfl) ?_
                      refine va_get (ci := 12) (v := .int o28_1) (C := RX12) (T := TX12) (N := 34) hx hb hts (fun _ h => List.mem_cons_of_mem _ (List.mem_append_right _ h)) hown hK.1 hP 0 rfl rfl 28 (by decide) (hts (.fieldLink RX12 201 "CutAtlasModel" "chosen" "I") (List.mem_of_getElem? (i := 4) rfl)) (fun _ h9 => h9) rfl dB_3_1_17.2.2.2.1 ?_
                      refine va_put (ci := 12) (v := .int o28_1) (ty := .int) (C := RX12) (T := TX12) (N := 34) hx hb hts (fun _ h => List.mem_cons_of_mem _ (List.mem_append_right _ h)) tyX12 tyX12_ok nmX12 hown hK.1 hP hD hS 0 rfl rfl 28 (by decide) (hts (.fieldLink RX12 201 "CutAtlasModel" "chosen" "I") (List.mem_of_getElem? (i := 4) rfl)) (fun _ h9 => h9) rfl (by decide +kernel) rfl rfl (Nat.le_of_ble_eq_true rfl) dB_3_1_17.2.2.2.2 (fun H locs hP hD hS => ?_)
                      refine pd_K [ob12_0_ mo s0 s1 t2 s3 s4 g5 g6 g7 g8 g9 g10 s11 g12 g13 g14 g15 g16 g17 g18 g19 g20 s21 g22 g23 g24 o25_1 x5_1 o27_1 o28_1 g29 g30 g31 g32 g33, ai_ cy g5 40 f5, ai_ cy g6 40 f6, ai_ cy g7 40 f7, ai_ cy g8 40 f8, az_ cy g10 40 f10] hP hD (fun hP hD => ?_)
                      refine lv_aload_n hx hb dB_3_1_18.1.1.1 rfl (lv_at hl 1 rfl) ?_
                      refine lv_dup hx hb dB_3_1_18.1.1.2 rfl ?_
                      refine va_get (ci := 12) (v := .int o25_1) (C := RX12) (T := TX12) (N := 34) hx hb hts (fun _ h => List.mem_cons_of_mem _ (List.mem_append_right _ h)) hown hK.1 hP 0 rfl rfl 25 (by decide) (hts (.fieldLink RX12 192 "CutAtlasModel" "cuts" "I") (List.mem_of_getElem? (i := 1) rfl)) (fun _ h9 => h9) rfl dB_3_1_18.1.2.1 ?_
                      refine lv_iconst (v := 1) hx hb dB_3_1_18.1.2.2 (by decide) ?_
                      refine lv_iadd hx hb dB_3_1_18.2.1.1 ?_
                      refine lv_topi (fun y_67 ey_67 => ?_)
                      have ty_67 : y_67.toInt = o25_1.toInt + (1 : Int32).toInt := by rw [ey_67]; exact addI (by omega) (by omega)
                      refine va_put (ci := 12) (v := .int y_67) (ty := .int) (C := RX12) (T := TX12) (N := 34) hx hb hts (fun _ h => List.mem_cons_of_mem _ (List.mem_append_right _ h)) tyX12 tyX12_ok nmX12 hown hK.1 hP hD hS 0 rfl rfl 25 (by decide) (hts (.fieldLink RX12 192 "CutAtlasModel" "cuts" "I") (List.mem_of_getElem? (i := 1) rfl)) (fun _ h9 => h9) rfl (by decide +kernel) rfl rfl (Nat.le_of_ble_eq_true rfl) dB_3_1_18.2.1.2 (fun H locs hP hD hS => ?_)
                      refine pd_K [ob12_0_ mo s0 s1 t2 s3 s4 g5 g6 g7 g8 g9 g10 s11 g12 g13 g14 g15 g16 g17 g18 g19 g20 s21 g22 g23 g24 y_67 x5_1 o27_1 o28_1 g29 g30 g31 g32 g33, ai_ cy g5 40 f5, ai_ cy g6 40 f6, ai_ cy g7 40 f7, ai_ cy g8 40 f8, az_ cy g10 40 f10] hP hD (fun hP hD => ?_)
                      obtain ⟨y_68, ey_68⟩ : ∃ y : Int32, y = x5_1 + 1 := ⟨_, rfl⟩
                      have ty_68 : y_68.toInt = x5_1.toInt + (1 : Int32).toInt := by rw [ey_68]; exact addI (by omega) (by omega)
                      refine lv_iinc (v := y_68) (lv' := [(5, .int y_68), (0, .ref mo), (1, .int a1), (2, .int a2), (3, .int a3), (4, .int a4)]) hx hb dB_3_1_18.2.2.1 hl (k := 0) rfl (by rw [ey_68]; rfl) (by decide) rfl (fun ls hl => ?_)
                      refine lv_goto (tgt := 26) hx hb dB_3_1_18.2.2.2.1 (by decide) ?_
                      exact ih_1 y_68 y_67 x5_1 o27_1 o28_1 _ _ _ (by omega) (by first | with_reducible assumption | omega | assumption) (by first | with_reducible assumption | omega | assumption) (by first | exact ctsW_0 (by omega) | exact ctsW_no v2_1 (by omega) (by omega) (refP_f (Or.inl (bt_fl hbs_ (by omega))) (by omega)) | exact ctsW_no v2_1 (by omega) (by omega) (refP_f (Or.inr (Or.inl (bt_nz hbt_ (by omega)))) (by omega)) | exact ctsW_no v2_1 (by omega) (by omega) (refP_f (Or.inr (Or.inr (fun h => absurd (hsz_.trans h) (by omega)))) (by omega)) | exact ctsW_st v2_1 (by omega) (by omega) (refP_t (b_tr hbs_ (by omega)) (bt_fl hbt_ (by omega)) (hsz_.symm.trans (by omega)) (by omega)) (by omega) (by first | exact Or.inl ⟨rfl, by omega⟩ | exact Or.inr ⟨rfl, by omega, by omega⟩) (by first | exact Or.inl ⟨rfl, by omega⟩ | exact Or.inr ⟨rfl, by omega, by omega⟩) (by first | exact Or.inl ⟨rfl, by omega⟩ | exact Or.inr ⟨rfl, by omega⟩) (by omega)) (by first | omega | exact Int.natCast_nonneg _) (by first | with_reducible assumption | omega | assumption) ⟨hP, hD⟩ hS (lv_sub hl [0, 1, 2, 3, 4, 5] rfl)
                    · have t_66 : o25_1.toInt = a4.toInt := congrArg Int32.toInt c_66
                      refine lv_iload hx hb dB_3_1_17.2.1.2.2 (lv_at hl 0 rfl) ?_
                      refine lv_goto (tgt := 159) hx hb dB_3_1_17.2.2.1.1 (by decide) ?_
                      refine va_put (ci := 12) (v := .int x5_1) (ty := .int) (C := RX12) (T := TX12) (N := 34) hx hb hts (fun _ h => List.mem_cons_of_mem _ (List.mem_append_right _ h)) tyX12 tyX12_ok nmX12 hown hK.1 hP hD hS 0 rfl rfl 28 (by decide) (hts (.fieldLink RX12 201 "CutAtlasModel" "chosen" "I") (List.mem_of_getElem? (i := 4) rfl)) (fun _ h9 => h9) rfl (by decide +kernel) rfl rfl (Nat.le_of_ble_eq_true rfl) dB_3_1_17.2.2.2.2 (fun H locs hP hD hS => ?_)
                      refine pd_K [ob12_0_ mo s0 s1 t2 s3 s4 g5 g6 g7 g8 g9 g10 s11 g12 g13 g14 g15 g16 g17 g18 g19 g20 s21 g22 g23 g24 o25_1 x5_1 o27_1 x5_1 g29 g30 g31 g32 g33, ai_ cy g5 40 f5, ai_ cy g6 40 f6, ai_ cy g7 40 f7, ai_ cy g8 40 f8, az_ cy g10 40 f10] hP hD (fun hP hD => ?_)
                      refine lv_aload_n hx hb dB_3_1_18.1.1.1 rfl (lv_at hl 1 rfl) ?_
                      refine lv_dup hx hb dB_3_1_18.1.1.2 rfl ?_
                      refine va_get (ci := 12) (v := .int o25_1) (C := RX12) (T := TX12) (N := 34) hx hb hts (fun _ h => List.mem_cons_of_mem _ (List.mem_append_right _ h)) hown hK.1 hP 0 rfl rfl 25 (by decide) (hts (.fieldLink RX12 192 "CutAtlasModel" "cuts" "I") (List.mem_of_getElem? (i := 1) rfl)) (fun _ h9 => h9) rfl dB_3_1_18.1.2.1 ?_
                      refine lv_iconst (v := 1) hx hb dB_3_1_18.1.2.2 (by decide) ?_
                      refine lv_iadd hx hb dB_3_1_18.2.1.1 ?_
                      refine lv_topi (fun y_69 ey_69 => ?_)
                      have ty_69 : y_69.toInt = o25_1.toInt + (1 : Int32).toInt := by rw [ey_69]; exact addI (by omega) (by omega)
                      refine va_put (ci := 12) (v := .int y_69) (ty := .int) (C := RX12) (T := TX12) (N := 34) hx hb hts (fun _ h => List.mem_cons_of_mem _ (List.mem_append_right _ h)) tyX12 tyX12_ok nmX12 hown hK.1 hP hD hS 0 rfl rfl 25 (by decide) (hts (.fieldLink RX12 192 "CutAtlasModel" "cuts" "I") (List.mem_of_getElem? (i := 1) rfl)) (fun _ h9 => h9) rfl (by decide +kernel) rfl rfl (Nat.le_of_ble_eq_true rfl) dB_3_1_18.2.1.2 (fun H locs hP hD hS => ?_)
                      refine pd_K [ob12_0_ mo s0 s1 t2 s3 s4 g5 g6 g7 g8 g9 g10 s11 g12 g13 g14 g15 g16 g17 g18 g19 g20 s21 g22 g23 g24 y_69 x5_1 o27_1 x5_1 g29 g30 g31 g32 g33, ai_ cy g5 40 f5, ai_ cy g6 40 f6, ai_ cy g7 40 f7, ai_ cy g8 40 f8, az_ cy g10 40 f10] hP hD (fun hP hD => ?_)
                      obtain ⟨y_70, ey_70⟩ : ∃ y : Int32, y = x5_1 + 1 := ⟨_, rfl⟩
                      have ty_70 : y_70.toInt = x5_1.toInt + (1 : Int32).toInt := by rw [ey_70]; exact addI (by omega) (by omega)
                      refine lv_iinc (v := y_70) (lv' := [(5, .int y_70), (0, .ref mo), (1, .int a1), (2, .int a2), (3, .int a3), (4, .int a4)]) hx hb dB_3_1_18.2.2.1 hl (k := 0) rfl (by rw [ey_70]; rfl) (by decide) rfl (fun ls hl => ?_)
                      refine lv_goto (tgt := 26) hx hb dB_3_1_18.2.2.2.1 (by decide) ?_
                      exact ih_1 y_70 y_69 x5_1 o27_1 x5_1 _ _ _ (by omega) (by first | with_reducible assumption | omega | assumption) (by first | with_reducible assumption | omega | assumption) (by first | exact ctsW_0 (by omega) | exact ctsW_no v2_1 (by omega) (by omega) (refP_f (Or.inl (bt_fl hbs_ (by omega))) (by omega)) | exact ctsW_no v2_1 (by omega) (by omega) (refP_f (Or.inr (Or.inl (bt_nz hbt_ (by omega)))) (by omega)) | exact ctsW_no v2_1 (by omega) (by omega) (refP_f (Or.inr (Or.inr (fun h => absurd (hsz_.trans h) (by omega)))) (by omega)) | exact ctsW_st v2_1 (by omega) (by omega) (refP_t (b_tr hbs_ (by omega)) (bt_fl hbt_ (by omega)) (hsz_.symm.trans (by omega)) (by omega)) (by omega) (by first | exact Or.inl ⟨rfl, by omega⟩ | exact Or.inr ⟨rfl, by omega, by omega⟩) (by first | exact Or.inl ⟨rfl, by omega⟩ | exact Or.inr ⟨rfl, by omega, by omega⟩) (by first | exact Or.inl ⟨rfl, by omega⟩ | exact Or.inr ⟨rfl, by omega⟩) (by omega)) (by first | omega | exact Int.natCast_nonneg _) (by first | with_reducible assumption | omega | assumption) ⟨hP, hD⟩ hS (lv_sub hl [0, 1, 2, 3, 4, 5] rfl)
                  · have t_65 : ¬ r_63.toInt ≤ r_64.toInt := fun h => c_65 (Int32.le_iff_toInt_le.mpr h)
                    refine lv_iload hx hb dB_3_1_17.1.1.1.2 (lv_at hl 0 rfl) ?_
                    refine lv_goto (tgt := 137) hx hb dB_3_1_17.1.1.2.1 (by decide) ?_
                    refine va_put (ci := 12) (v := .int x5_1) (ty := .int) (C := RX12) (T := TX12) (N := 34) hx hb hts (fun _ h => List.mem_cons_of_mem _ (List.mem_append_right _ h)) tyX12 tyX12_ok nmX12 hown hK.1 hP hD hS 0 rfl rfl 27 (by decide) (hts (.fieldLink RX12 198 "CutAtlasModel" "far" "I") (List.mem_of_getElem? (i := 3) rfl)) (fun _ h9 => h9) rfl (by decide +kernel) rfl rfl (Nat.le_of_ble_eq_true rfl) dB_3_1_17.1.2.1.2 (fun H locs hP hD hS => ?_)
                    refine pd_K [ob12_0_ mo s0 s1 t2 s3 s4 g5 g6 g7 g8 g9 g10 s11 g12 g13 g14 g15 g16 g17 g18 g19 g20 s21 g22 g23 g24 o25_1 x5_1 x5_1 o28_1 g29 g30 g31 g32 g33, ai_ cy g5 40 f5, ai_ cy g6 40 f6, ai_ cy g7 40 f7, ai_ cy g8 40 f8, az_ cy g10 40 f10] hP hD (fun hP hD => ?_)
                    refine lv_aload_n hx hb dB_3_1_17.1.2.2.1 rfl (lv_at hl 1 rfl) ?_
                    refine lv_aload_n hx hb dB_3_1_17.1.2.2.2 rfl (lv_at hl 1 rfl) ?_
                    refine va_get (ci := 12) (v := .int o25_1) (C := RX12) (T := TX12) (N := 34) hx hb hts (fun _ h => List.mem_cons_of_mem _ (List.mem_append_right _ h)) hown hK.1 hP 0 rfl rfl 25 (by decide) (hts (.fieldLink RX12 192 "CutAtlasModel" "cuts" "I") (List.mem_of_getElem? (i := 1) rfl)) (fun _ h9 => h9) rfl dB_3_1_17.2.1.1.1 ?_
                    refine lv_iload hx hb dB_3_1_17.2.1.1.2 (lv_at hl 5 rfl) ?_
                    refine lv_icmp_ne (tgt := 155) hx hb dB_3_1_17.2.1.2.1 (by decide) (fun c_71 => ?_) (fun c_71 => ?_)
                    · have t_71 : ¬ o25_1.toInt = a4.toInt := fun h => c_71 (Int32.toInt_inj.mp h)
                      refine lv_aload_n hx hb dB_3_1_17.2.2.1.2 rfl (lv_at hl 1 rfl) ?_
                      refine va_get (ci := 12) (v := .int o28_1) (C := RX12) (T := TX12) (N := 34) hx hb hts (fun _ h => List.mem_cons_of_mem _ (List.mem_append_right _ h)) hown hK.1 hP 0 rfl rfl 28 (by decide) (hts (.fieldLink RX12 201 "CutAtlasModel" "chosen" "I") (List.mem_of_getElem? (i := 4) rfl)) (fun _ h9 => h9) rfl dB_3_1_17.2.2.2.1 ?_
                      refine va_put (ci := 12) (v := .int o28_1) (ty := .int) (C := RX12) (T := TX12) (N := 34) hx hb hts (fun _ h => List.mem_cons_of_mem _ (List.mem_append_right _ h)) tyX12 tyX12_ok nmX12 hown hK.1 hP hD hS 0 rfl rfl 28 (by decide) (hts (.fieldLink RX12 201 "CutAtlasModel" "chosen" "I") (List.mem_of_getElem? (i := 4) rfl)) (fun _ h9 => h9) rfl (by decide +kernel) rfl rfl (Nat.le_of_ble_eq_true rfl) dB_3_1_17.2.2.2.2 (fun H locs hP hD hS => ?_)
                      refine pd_K [ob12_0_ mo s0 s1 t2 s3 s4 g5 g6 g7 g8 g9 g10 s11 g12 g13 g14 g15 g16 g17 g18 g19 g20 s21 g22 g23 g24 o25_1 x5_1 x5_1 o28_1 g29 g30 g31 g32 g33, ai_ cy g5 40 f5, ai_ cy g6 40 f6, ai_ cy g7 40 f7, ai_ cy g8 40 f8, az_ cy g10 40 f10] hP hD (fun hP hD => ?_)
                      refine lv_aload_n hx hb dB_3_1_18.1.1.1 rfl (lv_at hl 1 rfl) ?_
                      refine lv_dup hx hb dB_3_1_18.1.1.2 rfl ?_
                      refine va_get (ci := 12) (v := .int o25_1) (C := RX12) (T := TX12) (N := 34) hx hb hts (fun _ h => List.mem_cons_of_mem _ (List.mem_append_right _ h)) hown hK.1 hP 0 rfl rfl 25 (by decide) (hts (.fieldLink RX12 192 "CutAtlasModel" "cuts" "I") (List.mem_of_getElem? (i := 1) rfl)) (fun _ h9 => h9) rfl dB_3_1_18.1.2.1 ?_
                      refine lv_iconst (v := 1) hx hb dB_3_1_18.1.2.2 (by decide) ?_
                      refine lv_iadd hx hb dB_3_1_18.2.1.1 ?_
                      refine lv_topi (fun y_72 ey_72 => ?_)
                      have ty_72 : y_72.toInt = o25_1.toInt + (1 : Int32).toInt := by rw [ey_72]; exact addI (by omega) (by omega)
                      refine va_put (ci := 12) (v := .int y_72) (ty := .int) (C := RX12) (T := TX12) (N := 34) hx hb hts (fun _ h => List.mem_cons_of_mem _ (List.mem_append_right _ h)) tyX12 tyX12_ok nmX12 hown hK.1 hP hD hS 0 rfl rfl 25 (by decide) (hts (.fieldLink RX12 192 "CutAtlasModel" "cuts" "I") (List.mem_of_getElem? (i := 1) rfl)) (fun _ h9 => h9) rfl (by decide +kernel) rfl rfl (Nat.le_of_ble_eq_true rfl) dB_3_1_18.2.1.2 (fun H locs hP hD hS => ?_)
                      refine pd_K [ob12_0_ mo s0 s1 t2 s3 s4 g5 g6 g7 g8 g9 g10 s11 g12 g13 g14 g15 g16 g17 g18 g19 g20 s21 g22 g23 g24 y_72 x5_1 x5_1 o28_1 g29 g30 g31 g32 g33, ai_ cy g5 40 f5, ai_ cy g6 40 f6, ai_ cy g7 40 f7, ai_ cy g8 40 f8, az_ cy g10 40 f10] hP hD (fun hP hD => ?_)
                      obtain ⟨y_73, ey_73⟩ : ∃ y : Int32, y = x5_1 + 1 := ⟨_, rfl⟩
                      have ty_73 : y_73.toInt = x5_1.toInt + (1 : Int32).toInt := by rw [ey_73]; exact addI (by omega) (by omega)
                      refine lv_iinc (v := y_73) (lv' := [(5, .int y_73), (0, .ref mo), (1, .int a1), (2, .int a2), (3, .int a3), (4, .int a4)]) hx hb dB_3_1_18.2.2.1 hl (k := 0) rfl (by rw [ey_73]; rfl) (by decide) rfl (fun ls hl => ?_)
                      refine lv_goto (tgt := 26) hx hb dB_3_1_18.2.2.2.1 (by decide) ?_
                      exact ih_1 y_73 y_72 x5_1 x5_1 o28_1 _ _ _ (by omega) (by first | with_reducible assumption | omega | assumption) (by first | with_reducible assumption | omega | assumption) (by first | exact ctsW_0 (by omega) | exact ctsW_no v2_1 (by omega) (by omega) (refP_f (Or.inl (bt_fl hbs_ (by omega))) (by omega)) | exact ctsW_no v2_1 (by omega) (by omega) (refP_f (Or.inr (Or.inl (bt_nz hbt_ (by omega)))) (by omega)) | exact ctsW_no v2_1 (by omega) (by omega) (refP_f (Or.inr (Or.inr (fun h => absurd (hsz_.trans h) (by omega)))) (by omega)) | exact ctsW_st v2_1 (by omega) (by omega) (refP_t (b_tr hbs_ (by omega)) (bt_fl hbt_ (by omega)) (hsz_.symm.trans (by omega)) (by omega)) (by omega) (by first | exact Or.inl ⟨rfl, by omega⟩ | exact Or.inr ⟨rfl, by omega, by omega⟩) (by first | exact Or.inl ⟨rfl, by omega⟩ | exact Or.inr ⟨rfl, by omega, by omega⟩) (by first | exact Or.inl ⟨rfl, by omega⟩ | exact Or.inr ⟨rfl, by omega⟩) (by omega)) (by first | omega | exact Int.natCast_nonneg _) (by first | with_reducible assumption | omega | assumption) ⟨hP, hD⟩ hS (lv_sub hl [0, 1, 2, 3, 4, 5] rfl)
                    · have t_71 : o25_1.toInt = a4.toInt := congrArg Int32.toInt c_71
                      refine lv_iload hx hb dB_3_1_17.2.1.2.2 (lv_at hl 0 rfl) ?_
                      refine lv_goto (tgt := 159) hx hb dB_3_1_17.2.2.1.1 (by decide) ?_
                      refine va_put (ci := 12) (v := .int x5_1) (ty := .int) (C := RX12) (T := TX12) (N := 34) hx hb hts (fun _ h => List.mem_cons_of_mem _ (List.mem_append_right _ h)) tyX12 tyX12_ok nmX12 hown hK.1 hP hD hS 0 rfl rfl 28 (by decide) (hts (.fieldLink RX12 201 "CutAtlasModel" "chosen" "I") (List.mem_of_getElem? (i := 4) rfl)) (fun _ h9 => h9) rfl (by decide +kernel) rfl rfl (Nat.le_of_ble_eq_true rfl) dB_3_1_17.2.2.2.2 (fun H locs hP hD hS => ?_)
                      refine pd_K [ob12_0_ mo s0 s1 t2 s3 s4 g5 g6 g7 g8 g9 g10 s11 g12 g13 g14 g15 g16 g17 g18 g19 g20 s21 g22 g23 g24 o25_1 x5_1 x5_1 x5_1 g29 g30 g31 g32 g33, ai_ cy g5 40 f5, ai_ cy g6 40 f6, ai_ cy g7 40 f7, ai_ cy g8 40 f8, az_ cy g10 40 f10] hP hD (fun hP hD => ?_)
                      refine lv_aload_n hx hb dB_3_1_18.1.1.1 rfl (lv_at hl 1 rfl) ?_
                      refine lv_dup hx hb dB_3_1_18.1.1.2 rfl ?_
                      refine va_get (ci := 12) (v := .int o25_1) (C := RX12) (T := TX12) (N := 34) hx hb hts (fun _ h => List.mem_cons_of_mem _ (List.mem_append_right _ h)) hown hK.1 hP 0 rfl rfl 25 (by decide) (hts (.fieldLink RX12 192 "CutAtlasModel" "cuts" "I") (List.mem_of_getElem? (i := 1) rfl)) (fun _ h9 => h9) rfl dB_3_1_18.1.2.1 ?_
                      refine lv_iconst (v := 1) hx hb dB_3_1_18.1.2.2 (by decide) ?_
                      refine lv_iadd hx hb dB_3_1_18.2.1.1 ?_
                      refine lv_topi (fun y_74 ey_74 => ?_)
                      have ty_74 : y_74.toInt = o25_1.toInt + (1 : Int32).toInt := by rw [ey_74]; exact addI (by omega) (by omega)
                      refine va_put (ci := 12) (v := .int y_74) (ty := .int) (C := RX12) (T := TX12) (N := 34) hx hb hts (fun _ h => List.mem_cons_of_mem _ (List.mem_append_right _ h)) tyX12 tyX12_ok nmX12 hown hK.1 hP hD hS 0 rfl rfl 25 (by decide) (hts (.fieldLink RX12 192 "CutAtlasModel" "cuts" "I") (List.mem_of_getElem? (i := 1) rfl)) (fun _ h9 => h9) rfl (by decide +kernel) rfl rfl (Nat.le_of_ble_eq_true rfl) dB_3_1_18.2.1.2 (fun H locs hP hD hS => ?_)
                      refine pd_K [ob12_0_ mo s0 s1 t2 s3 s4 g5 g6 g7 g8 g9 g10 s11 g12 g13 g14 g15 g16 g17 g18 g19 g20 s21 g22 g23 g24 y_74 x5_1 x5_1 x5_1 g29 g30 g31 g32 g33, ai_ cy g5 40 f5, ai_ cy g6 40 f6, ai_ cy g7 40 f7, ai_ cy g8 40 f8, az_ cy g10 40 f10] hP hD (fun hP hD => ?_)
                      obtain ⟨y_75, ey_75⟩ : ∃ y : Int32, y = x5_1 + 1 := ⟨_, rfl⟩
                      have ty_75 : y_75.toInt = x5_1.toInt + (1 : Int32).toInt := by rw [ey_75]; exact addI (by omega) (by omega)
                      refine lv_iinc (v := y_75) (lv' := [(5, .int y_75), (0, .ref mo), (1, .int a1), (2, .int a2), (3, .int a3), (4, .int a4)]) hx hb dB_3_1_18.2.2.1 hl (k := 0) rfl (by rw [ey_75]; rfl) (by decide) rfl (fun ls hl => ?_)
                      refine lv_goto (tgt := 26) hx hb dB_3_1_18.2.2.2.1 (by decide) ?_
                      exact ih_1 y_75 y_74 x5_1 x5_1 x5_1 _ _ _ (by omega) (by first | with_reducible assumption | omega | assumption) (by first | with_reducible assumption | omega | assumption) (by first | exact ctsW_0 (by omega) | exact ctsW_no v2_1 (by omega) (by omega) (refP_f (Or.inl (bt_fl hbs_ (by omega))) (by omega)) | exact ctsW_no v2_1 (by omega) (by omega) (refP_f (Or.inr (Or.inl (bt_nz hbt_ (by omega)))) (by omega)) | exact ctsW_no v2_1 (by omega) (by omega) (refP_f (Or.inr (Or.inr (fun h => absurd (hsz_.trans h) (by omega)))) (by omega)) | exact ctsW_st v2_1 (by omega) (by omega) (refP_t (b_tr hbs_ (by omega)) (bt_fl hbt_ (by omega)) (hsz_.symm.trans (by omega)) (by omega)) (by omega) (by first | exact Or.inl ⟨rfl, by omega⟩ | exact Or.inr ⟨rfl, by omega, by omega⟩) (by first | exact Or.inl ⟨rfl, by omega⟩ | exact Or.inr ⟨rfl, by omega, by omega⟩) (by first | exact Or.inl ⟨rfl, by omega⟩ | exact Or.inr ⟨rfl, by omega⟩) (by omega)) (by first | omega | exact Int.natCast_nonneg _) (by first | with_reducible assumption | omega | assumption) ⟨hP, hD⟩ hS (lv_sub hl [0, 1, 2, 3, 4, 5] rfl)
end

section
theorem sumI_mono2 {f g : Nat → Int} {n : Nat} (h : ∀ j : Nat, j < n → f j ≤ g j) : sumI f n ≤ sumI g n := (sumI_sub n h).1
section HNT
variable {M : Nat → Nat → Int} {P K : Nat} {mu nu set : Int32} {size aim w : Int} {met found : Int32}
end HNT
end

section
/-! ===== cuts of a whole net ===== -/
noncomputable def whC (C : (Nat → Bool) → Int) (P : Nat) : Prop := (∀ S : Nat → Bool, 0 ≤ C S ∧ C S ≤ 100000) ∧ (∀ S T : Nat → Bool, (∀ x : Nat, x < P → S x = T x) → C S = C T) ∧ (∀ S : Nat → Bool, C (fun x => !S x) = C S) ∧ ∀ S T : Nat → Bool, C (fun x => S x || T x) + C (fun x => S x && T x) ≤ C S + C T
section LAM
variable {C : (Nat → Bool) → Int} {P : Nat}
theorem min_ex (h : whC C P) {s t : Nat} (hst : s ≠ t) : ∃ r : Int, mostR C s t r ∧ r ≠ -5 := by
  have go : ∀ n : Nat, (∃ S : Nat → Bool, sep s t S ∧ (C S).toNat ≤ n) → ∃ S : Nat → Bool, sep s t S ∧ ∀ T : Nat → Bool, sep s t T → C S ≤ C T := fun n => by
    induction n with
    | zero =>
      rintro ⟨S, hS, h0⟩
      refine ⟨S, hS, fun T _ => ?_⟩
      have a := (h.1 S).1
      have b := (h.1 T).1
      omega
    | succ n ih =>
      rintro ⟨S, hS, h0⟩
      rcases Classical.em (∃ T : Nat → Bool, sep s t T ∧ (C T).toNat ≤ n) with w | w
      · exact ih w
      · refine ⟨S, hS, fun T hT => ?_⟩
        have a := (h.1 S).1
        have b := (h.1 T).1
        rcases Nat.lt_or_ge n (C T).toNat with g | g
        · omega
        · exact absurd ⟨T, hT, g⟩ w
  obtain ⟨S0, h0⟩ := sep_ex hst
  obtain ⟨S, hS, m⟩ := go (C S0).toNat ⟨S0, h0, Nat.le_refl _⟩
  have b := h.1 S
  exact ⟨C S, Or.inr ⟨b.1, by omega, ⟨S, hS, rfl⟩, m⟩, by omega⟩
/-- MOST between two places of a whole net -/
noncomputable def lam (C : (Nat → Bool) → Int) (s t : Nat) : Int := @dite _ (∃ r : Int, mostR C s t r ∧ r ≠ -5) (Classical.propDecidable _) (fun h => Classical.choose h) (fun _ => 0)
theorem lam_sp (h : whC C P) {s t : Nat} (hst : s ≠ t) : (∃ S : Nat → Bool, sep s t S ∧ C S = lam C s t) ∧ ∀ S : Nat → Bool, sep s t S → lam C s t ≤ C S := by
  have e := min_ex h hst
  have q : mostR C s t (lam C s t) ∧ lam C s t ≠ -5 := by
    unfold lam
    rw [dif_pos e]
    exact Classical.choose_spec e
  rcases q.1 with w | w
  · exact absurd w.1 q.2
  · exact ⟨w.2.2.1, w.2.2.2⟩
theorem lam_most (h : whC C P) {s t : Nat} (hst : s ≠ t) {m : Int} (hm : mostR C s t m) : m = lam C s t ∧ 0 ≤ m ∧ m ≤ 100000 := by
  obtain ⟨⟨S, hS, e⟩, mn⟩ := lam_sp h hst
  have bS := h.1 S
  rcases hm with ⟨a, b⟩ | ⟨a, b, ⟨T, hT, g⟩, d⟩
  · have := b S hS
    omega
  · have x := mn T hT
    have y := d S hS
    have bT := h.1 T
    omega
/-- of the least cuts one lies in all others -/
theorem near_sub (h : whC C P) {s t : Nat} (hst : s ≠ t) {m : Int} {N S : Nat → Bool} (hm : m = lam C s t) (hN : cutS C s t m N) (hS : cutS C s t m S) : cutS C s t m (fun x => N x && S x) := by
  have sp1 : sep s t (fun x => N x && S x) := ⟨by show (N s && S s) = true; rw [hN.1.1, hS.1.1]; rfl, by show (N t && S t) = false; rw [hN.1.2]; rfl⟩
  have sp2 : sep s t (fun x => N x || S x) := ⟨by show (N s || S s) = true; rw [hN.1.1]; rfl, by show (N t || S t) = false; rw [hN.1.2, hS.1.2]; rfl⟩
  have a := (lam_sp h hst).2 _ sp1
  have b := (lam_sp h hst).2 _ sp2
  have c := h.2.2.2 N S
  have d1 := hN.2
  have d2 := hS.2
  exact ⟨sp1, by omega⟩
theorem near_ref (h : whC C P) {s t : Nat} (hst : s ≠ t) (hs : s < P) (ht : t < P) (hP : P ≤ 12) {m i : Int} {cu ne fa ch : Int32} (hm : m = lam C s t) (h6 : m < 1000000) (hw : ctsW (refP C s t m) i (2 ^ P) cu ne fa ch) : nearP C s t P m ne := by
  rcases hw.2.1 with w | ⟨j, hj, b1, b2, b3⟩
  · obtain ⟨⟨S, hS, e⟩, _⟩ := lam_sp h hst
    obtain ⟨k, hk, g⟩ := mask_ex S P hP
    have pk : refP C s t m k = true := (cutQ_iff h6).mpr ⟨⟨(g s hs).trans hS.1, (g t ht).trans hS.2⟩, by rw [h.2.1 _ S g, e, hm]⟩
    rw [cnQ_0 w.1 hk] at pk
    cases pk
  · have cj := (cutQ_iff h6).mp b1
    rw [b2]
    refine ⟨cj, fun S hS x hx => ?_, fun x hx => bt_num hj hP hx⟩
    have c2 := near_sub h hst hm cj hS
    obtain ⟨k, hk, g⟩ := mask_ex (fun x => bt (nI j) x && S x) P hP
    have pk : refP C s t m k = true := (cutQ_iff h6).mpr ⟨⟨(g s hs).trans c2.1.1, (g t ht).trans c2.1.2⟩, by rw [h.2.1 _ _ g]; exact c2.2⟩
    have le := b3 k hk pk
    have sub : ∀ i : Nat, bt (nI k) i = true → bt (nI j) i = true := fun i hi => by
      have gi := g i (bt_num hk hP hi)
      rw [hi] at gi
      have := gi.symm
      rw [Bool.and_eq_true] at this
      exact this.1
    have eq := (bit_sub sub).2 le x (by have := bt_num hj hP hx; omega)
    have gx := g x (bt_num hj hP hx)
    rw [eq, hx] at gx
    have := gx.symm
    rw [Bool.true_and] at this
    exact this
theorem nearP_un {s t : Nat} {m : Int} {a b : Int32} (h1 : nearP C s t P m a) (h2 : nearP C s t P m b) : a = b := bt_ext (fun i => by
  cases x : bt a i <;> cases y : bt b i
  · rfl
  · have := h2.2.1 _ h1.1 i y
    rw [x] at this
    cases this
  · have := h1.2.1 _ h2.1 i x
    rw [y] at this
    cases this
  · rfl)
end LAM
/-! the tree, place by place -/
noncomputable def gsw (N : Int32) (t : Nat) (nx : Nat → Int32) : Bool := decide (t ≠ 0) && bt N (nx t).toNatClampNeg
noncomputable def gsN (i t : Nat) (N : Int32) (sw : Bool) (nx : Nat → Int32) (j : Nat) : Int := if sw = true ∧ j = i then (nx t).toInt else if sw = true ∧ j = t then i else if i < j ∧ bt N j = true ∧ (nx j).toInt = t then i else (nx j).toInt
noncomputable def gsU (i t : Nat) (m : Int) (sw : Bool) (nu : Nat → Int32) (j : Nat) : Int := if sw = true ∧ j = i then (nu t).toInt else if (sw = true ∧ j = t) ∨ (sw = false ∧ j = i) then m else (nu j).toInt
noncomputable def gst (C : (Nat → Bool) → Int) (P i : Nat) (nx nu nx2 nu2 : Nat → Int32) : Prop := ∃ (t : Nat) (m : Int) (N : Int32), (nx i).toInt = t ∧ t < i ∧ mostR C i t m ∧ nearP C i t P m N ∧ (∀ j : Nat, 1 ≤ j → j < P → (nx2 j).toInt = gsN i t N (gsw N t nx) nx j) ∧ ∀ j : Nat, 1 ≤ j → j ≤ i → (nu2 j).toInt = gsU i t m (gsw N t nx) nu j
noncomputable def gtr (C : (Nat → Bool) → Int) (P : Nat) : Nat → (Nat → Int32) → (Nat → Int32) → Prop
  | 0, nx, _ => ∀ j : Nat, 1 ≤ j → j < P → (nx j).toInt = 0
  | k + 1, nx, nu => ∃ mx mu : Nat → Int32, gtr C P k mx mu ∧ gst C P (k + 1) mx mu nx nu
theorem gsN_cg {i t j : Nat} {N : Int32} {sw : Bool} {nx ny : Nat → Int32} (h1 : sw = true → (nx t).toInt = (ny t).toInt) (h2 : (nx j).toInt = (ny j).toInt) : gsN i t N sw nx j = gsN i t N sw ny j := by
  unfold gsN
  rw [h2]
  by_cases z : sw = true ∧ j = i
  · rw [if_pos z, if_pos z, h1 z.1]
  · rw [if_neg z, if_neg z]
theorem gsU_cg {i t j : Nat} {m : Int} {sw : Bool} {nu nv : Nat → Int32} (h1 : sw = true → (nu t).toInt = (nv t).toInt) (h2 : j ≠ i → (nu j).toInt = (nv j).toInt) : gsU i t m sw nu j = gsU i t m sw nv j := by
  unfold gsU
  by_cases z : sw = true ∧ j = i
  · rw [if_pos z, if_pos z, h1 z.1]
  · rw [if_neg z, if_neg z]
    by_cases y : (sw = true ∧ j = t) ∨ (sw = false ∧ j = i)
    · rw [if_pos y, if_pos y]
    · rw [if_neg y, if_neg y]
      refine h2 (fun e => ?_)
      cases w : sw
      · exact y (Or.inr ⟨w, e⟩)
      · exact z ⟨w, e⟩
theorem gsw_cg {N : Int32} {t : Nat} {nx ny : Nat → Int32} (h : t ≠ 0 → nx t = ny t) : gsw N t nx = gsw N t ny := by
  unfold gsw
  by_cases z : t = 0
  · rw [decide_eq_false (fun w => w z), Bool.false_and, Bool.false_and]
  · rw [h z]
theorem gsw_t {N : Int32} {t : Nat} {nx : Nat → Int32} (h : gsw N t nx = true) : t ≠ 0 ∧ bt N (nx t).toNatClampNeg = true := by
  unfold gsw at h
  rw [Bool.and_eq_true, decide_eq_true_iff] at h
  exact h
theorem gst_un {C : (Nat → Bool) → Int} {P i : Nat} {mx mu my mv nx nu nx2 nu2 : Nat → Int32} (hi : 1 ≤ i) (hP : i < P) (e1 : ∀ j : Nat, 1 ≤ j → j < P → (mx j).toInt = (my j).toInt) (e2 : ∀ j : Nat, 1 ≤ j → j < i → (mu j).toInt = (mv j).toInt) (h1 : gst C P i mx mu nx nu) (h2 : gst C P i my mv nx2 nu2) : (∀ j : Nat, 1 ≤ j → j < P → (nx j).toInt = (nx2 j).toInt) ∧ ∀ j : Nat, 1 ≤ j → j ≤ i → (nu j).toInt = (nu2 j).toInt := by
  obtain ⟨t, m, N, a1, a2, a3, a4, a5, a6⟩ := h1
  obtain ⟨t2, m2, N2, b1, b2, b3, b4, b5, b6⟩ := h2
  have et : t2 = t := by
    have := e1 i hi hP
    omega
  rw [et] at b3 b4 b5 b6
  rw [mostR_un b3 a3] at b4 b6
  rw [nearP_un b4 a4] at b5 b6
  have et0 : t ≠ 0 → mx t = my t := fun z => Int32.toInt_inj.mp (e1 t (by omega) (by omega))
  have sw : gsw N t mx = gsw N t my := gsw_cg et0
  rw [← sw] at b5 b6
  refine ⟨fun j g1 g2 => ?_, fun j g1 g2 => ?_⟩
  · rw [a5 j g1 g2, b5 j g1 g2]
    exact gsN_cg (fun w => by rw [et0 (gsw_t w).1]) (e1 j g1 g2)
  · rw [a6 j g1 g2, b6 j g1 g2]
    exact gsU_cg (fun w => e2 t (by have := (gsw_t w).1; omega) a2) (fun w => e2 j g1 (by omega))
theorem gtr_un {C : (Nat → Bool) → Int} {P : Nat} : ∀ (k : Nat) (nx nu nx2 nu2 : Nat → Int32), k < P → gtr C P k nx nu → gtr C P k nx2 nu2 → (∀ j : Nat, 1 ≤ j → j < P → (nx j).toInt = (nx2 j).toInt) ∧ ∀ j : Nat, 1 ≤ j → j ≤ k → (nu j).toInt = (nu2 j).toInt := by
  intro k
  induction k with
  | zero =>
    intro nx nu nx2 nu2 _ h1 h2
    exact ⟨fun j a b => (h1 j a b).trans (h2 j a b).symm, fun j a b => by omega⟩
  | succ k ih =>
    intro nx nu nx2 nu2 hk h1 h2
    obtain ⟨mx, mu, g1, s1⟩ := h1
    obtain ⟨my, mv, g2, s2⟩ := h2
    obtain ⟨e1, e2⟩ := ih _ _ _ _ (by omega) g1 g2
    exact gst_un (by omega) hk e1 (fun j a b => e2 j a (by omega)) s1 s2
/-! ===== a whole net's cuts ===== -/
theorem cutC_wh {k w g : Nat → Int} {s e : Nat → Nat} {n P : Nat} (hn : n ≤ 40) (h : ∀ l : Nat, l < n → g l = 0 → (k l ≠ 1 ∧ k l ≠ 2) ∧ s l < P ∧ e l < P ∧ 0 ≤ w l ∧ w l ≤ 2001) : whC (cutC k w g s e n) P := by
  have ln : ∀ l : Nat, l < n → ∀ S : Nat → Bool, clI_ k w g s e S l = if g l = 0 ∧ S (s l) ≠ S (e l) then w l else 0 := fun l hl S => by
    unfold clI_
    by_cases z : g l = 0
    · obtain ⟨⟨k1, k2⟩, _⟩ := h l hl z
      have r : ∀ b : Int, rmW (k l) (w l) b = w l := fun b => by
        unfold rmW
        rw [if_neg k2, if_neg (fun q => k1 q.1)]
      rw [if_neg (fun q => q z), r, r]
      cases S (s l) <;> cases S (e l) <;> simp [z]
    · rw [if_pos z, if_neg (fun q => z q.1)]
  have rg : ∀ l : Nat, l < n → ∀ S : Nat → Bool, 0 ≤ clI_ k w g s e S l ∧ clI_ k w g s e S l ≤ 2001 := fun l hl S => by
    rw [ln l hl S]
    by_cases z : g l = 0 ∧ S (s l) ≠ S (e l)
    · rw [if_pos z]
      exact (h l hl z.1).2.2.2
    · rw [if_neg z]
      omega
  refine ⟨fun S => ?_, fun S T hST => ?_, fun S => ?_, fun S T => ?_⟩
  · have a := sumI_rng (g := clI_ k w g s e S) (B := 2001) n (fun j hj => rg j hj S)
    unfold cutC
    omega
  · unfold cutC
    refine sumI_congr n (fun l hl => ?_)
    rw [ln l hl S, ln l hl T]
    by_cases z : g l = 0
    · obtain ⟨_, h1, h2, _⟩ := h l hl z
      rw [hST _ h1, hST _ h2]
    · rw [if_neg (fun q => z q.1), if_neg (fun q => z q.1)]
  · unfold cutC
    refine sumI_congr n (fun l hl => ?_)
    rw [ln l hl S, ln l hl _]
    cases S (s l) <;> cases S (e l) <;> simp
  · unfold cutC
    rw [← sumI_add, ← sumI_add]
    refine sumI_mono2 (fun l hl => ?_)
    try dsimp only
    rw [ln l hl S, ln l hl T, ln l hl _, ln l hl _]
    by_cases z : g l = 0
    · have b := (h l hl z).2.2.2
      cases S (s l) <;> cases S (e l) <;> cases T (s l) <;> cases T (e l) <;> simp [z] <;> omega
    · simp [z]
theorem bkF_0 {fk fs : Nat → Int32} {n l : Nat} (h : sumI (bkF fk fs) n = 0) (hl : l < n) (hm : (fs l).toInt ≠ -9) : (fk l).toInt ≠ 1 ∧ (fk l).toInt ≠ 2 := by
  have a := sumI_le1 (f := bkF fk fs) (n := n) (k := l) (fun j _ => bkF_01.1) hl
  unfold bkF at a
  by_cases z : ((fk l).toInt = 1 ∨ (fk l).toInt = 2) ∧ (fs l).toInt ≠ -9
  · rw [if_pos z] at a
    have e : sumI (fun j => if ((fk j).toInt = 1 ∨ (fk j).toInt = 2) ∧ (fs j).toInt ≠ -9 then 1 else 0) n = 0 := h
    omega
  · omega
theorem bkR_0 {f5 f10 : Nat → Int32} {n l : Nat} (h : sumI (bkR f5 f10) n = 0) (hl : l < n) (hm : (f10 l).toInt = 0) : (f5 l).toInt ≠ 1 ∧ (f5 l).toInt ≠ 2 := by
  have a := sumI_le1 (f := bkR f5 f10) (n := n) (k := l) (fun j _ => bkR_01.1) hl
  unfold bkR at a
  by_cases z : ((f5 l).toInt = 1 ∨ (f5 l).toInt = 2) ∧ (f10 l).toInt = 0
  · rw [if_pos z] at a
    have e : sumI (fun j => if ((f5 j).toInt = 1 ∨ (f5 j).toInt = 2) ∧ (f10 j).toInt = 0 then 1 else 0) n = 0 := h
    omega
  · omega
theorem whI_1 {P c : Int} (h : whI P c ≠ 0) : 2 ≤ P ∧ c = 0 := by
  unfold whI at h
  by_cases z : 2 ≤ P ∧ c = 0
  · exact z
  · rw [if_neg z] at h
    exact absurd rfl h
theorem whF {fk fs fe fw : Nat → Int32} {P N : Int32} {r : Int} (hc : netC P.toInt N.toInt fs fe) (hp : prng fs fe 40) (hw : rng fw 40 0 2000) (hN : N.toInt ≤ 40) (hb : sumI (bkF fk fs) N.toNatClampNeg = 0) : whC (cutF fk fs fe fw r N.toNatClampNeg) P.toNatClampNeg := by
  have c : ((N.toNatClampNeg : Nat) : Int) = ((N.toInt.toNat : Nat) : Int) := rfl
  refine cutC_wh (by omega) (fun l hl hg => ?_)
  have hm : (fs l).toInt ≠ -9 := fun e => by
    have g1 : gF fs l = 1 := gI_1 e
    omega
  have a := netC_at hc hp hN hl hg
  exact ⟨bkF_0 hb hl hm, a.1, a.2, wF_rng hw (by omega)⟩
theorem whR {f5 f6 f7 f8 f10 : Nat → Int32} {P N : Int32} {r : Int} (hc : netE P.toInt N.toInt f6 f7 f10) (h6 : rng f6 40 0 11) (h7 : rng f7 40 0 11) (h8 : rng f8 40 0 2000) (hN : N.toInt ≤ 40) (hb : sumI (bkR f5 f10) N.toNatClampNeg = 0) : whC (cutR f5 f6 f7 f8 f10 r N.toNatClampNeg) P.toNatClampNeg := by
  have c : ((N.toNatClampNeg : Nat) : Int) = ((N.toInt.toNat : Nat) : Int) := rfl
  refine cutC_wh (by omega) (fun l hl hg => ?_)
  have a := hc l (by omega) hg
  have b6 := h6 l (by omega)
  have b7 := h7 l (by omega)
  exact ⟨bkR_0 hb hl hg, nF_lt b6.1 a.1, nF_lt b7.1 a.2, wF_rng h8 (by omega)⟩
theorem mostR_fin {C : (Nat → Bool) → Int} {s t : Nat} {m : Int} (h : mostR C s t m) (hst : s ≠ t) (hF : ∀ S : Nat → Bool, C S ≤ 100000) : m ≠ -5 ∧ 0 ≤ m ∧ m ≤ 100000 := by
  obtain ⟨S, hS⟩ := sep_ex hst
  have := hF S
  rcases h with ⟨_, b⟩ | ⟨a, b, ⟨T, hT, e⟩, _⟩
  · have := b S hS
    omega
  · have := hF T
    omega
/-! one place hangs -/
noncomputable def hgE (f0 g : Nat → Int32) (N : Int32) (t i k : Int) : Prop := ∀ j : Nat, j < 12 → (g j).toInt = if i < (j : Int) ∧ (j : Int) < k ∧ bt N j = true ∧ (f0 j).toInt = t then i else (f0 j).toInt
theorem hgE_0 {f : Nat → Int32} {N : Int32} {t i k : Int} (h : k = i + 1) : hgE f f N t i k := fun j _ => by rw [if_neg (fun w => by omega)]
theorem hgE_cur {f0 g : Nat → Int32} {N k : Int32} {t i : Int} (h : hgE f0 g N t i k.toInt) (h0 : 0 ≤ k.toInt) (h1 : k.toInt < 12) : (g k.toNatClampNeg).toInt = (f0 k.toNatClampNeg).toInt := by
  have c := clI (i := k) h0
  rw [h k.toNatClampNeg (by omega), if_neg (fun w => by omega)]
theorem hgE_no {f0 g : Nat → Int32} {N k k2 : Int32} {t i : Int} (h : hgE f0 g N t i k.toInt) (h0 : 0 ≤ k.toInt) (h1 : k.toInt < 12) (e : k2.toInt = k.toInt + 1) (hn : bt N k.toNatClampNeg = false ∨ (g k.toNatClampNeg).toInt ≠ t) : hgE f0 g N t i k2.toInt := fun j hj => by
  have c := clI (i := k) h0
  have cur := hgE_cur h h0 h1
  rw [h j hj]
  by_cases z : j = k.toNatClampNeg
  · have no : ¬ (bt N j = true ∧ (f0 j).toInt = t) := fun w => by
      rw [z] at w
      rcases hn with q | q
      · rw [q] at w
        cases w.1
      · omega
    rw [if_neg (fun w => no w.2.2), if_neg (fun w => no w.2.2)]
  · by_cases w : i < (j : Int) ∧ (j : Int) < k.toInt ∧ bt N j = true ∧ (f0 j).toInt = t
    · rw [if_pos w, if_pos ⟨w.1, by omega, w.2.2⟩]
    · rw [if_neg w, if_neg (fun q => w ⟨q.1, by omega, q.2.2⟩)]
theorem hgE_yes {f0 g g2 : Nat → Int32} {N k k2 i : Int32} {t : Int} (h : hgE f0 g N t i.toInt k.toInt) (h0 : 0 ≤ k.toInt) (h1 : k.toInt < 12) (hi : i.toInt < k.toInt) (e : k2.toInt = k.toInt + 1) (eg : g2 = upd g k.toNatClampNeg i) (hb : bt N k.toNatClampNeg = true) (ht : (g k.toNatClampNeg).toInt = t) : hgE f0 g2 N t i.toInt k2.toInt := fun j hj => by
  have c := clI (i := k) h0
  have cur := hgE_cur h h0 h1
  rw [eg]
  by_cases z : j = k.toNatClampNeg
  · rw [z, pk_us, if_pos ⟨by omega, by omega, hb, by omega⟩]
  · rw [pk_un z, h j hj]
    by_cases w : i.toInt < (j : Int) ∧ (j : Int) < k.toInt ∧ bt N j = true ∧ (f0 j).toInt = t
    · rw [if_pos w, if_pos ⟨w.1, by omega, w.2.2⟩]
    · rw [if_neg w, if_neg (fun q => w ⟨q.1, by omega, q.2.2⟩)]
/-- the same written with two arms -/
theorem hgE_eq {f0 g g2 : Nat → Int32} {N k k2 i v : Int32} {t : Int} (h : hgE f0 g N t i.toInt k.toInt) (h0 : 0 ≤ k.toInt) (h1 : k.toInt < 12) (hi : i.toInt < k.toInt) (e : k2.toInt = k.toInt + 1) (eg : g2 = upd g k.toNatClampNeg v) (hv : (bt N k.toNatClampNeg = true ∧ (g k.toNatClampNeg).toInt = t ∧ v = i) ∨ ((bt N k.toNatClampNeg = false ∨ (g k.toNatClampNeg).toInt ≠ t) ∧ v = g k.toNatClampNeg)) : hgE f0 g2 N t i.toInt k2.toInt := by
  rcases hv with ⟨a, b, d⟩ | ⟨a, d⟩
  · subst d
    exact hgE_yes h h0 h1 hi e eg a b
  · have q : g2 = g := by
      rw [eg, d]
      funext j
      by_cases z : j = k.toNatClampNeg
      · rw [z, pk_us]
      · rw [pk_un z]
    rw [q]
    exact hgE_no h h0 h1 e a
section GST
variable {C : (Nat → Bool) → Int} {P i t m N k : Int32} {f0 g u0 u1 : Nat → Int32}
theorem gst_no (hi : 1 ≤ i.toInt ∧ i.toInt < P.toInt) (hP : P.toInt ≤ 12) (et : t = f0 i.toNatClampNeg) (ht : 0 ≤ t.toInt ∧ t.toInt < i.toInt) (hm : mostR C i.toNatClampNeg t.toNatClampNeg m.toInt) (hN : nearP C i.toNatClampNeg t.toNatClampNeg P.toNatClampNeg m.toInt N) (hg : hgE f0 g N t.toInt i.toInt k.toInt) (hk : P.toInt ≤ k.toInt) (eu : u1 = upd u0 i.toNatClampNeg m) (hs : t.toInt = 0 ∨ bt N (g t.toNatClampNeg).toNatClampNeg = false) : gst C P.toNatClampNeg i.toNatClampNeg f0 u0 g u1 := by
  have ci := clI (i := i) (by omega)
  have ct := clI (i := t) ht.1
  have cP := clI (i := P) (by omega)
  have gt : t.toInt ≠ 0 → g t.toNatClampNeg = f0 t.toNatClampNeg := fun _ => Int32.toInt_inj.mp (by rw [hg _ (by omega), if_neg (fun w => by omega)])
  have sw : gsw N t.toNatClampNeg f0 = false := by
    unfold gsw
    by_cases z : t.toInt = 0
    · rw [decide_eq_false (by omega), Bool.false_and]
    · rcases hs with h | h
      · exact absurd h z
      · rw [← gt z, h, Bool.and_false]
  refine ⟨t.toNatClampNeg, m.toInt, N, by rw [← et]; exact ct.symm, by omega, hm, hN, fun j h1 h2 => ?_, fun j h1 h2 => ?_⟩
  · rw [hg j (by omega), sw]
    unfold gsN
    rw [if_neg (show ¬ (false = true ∧ j = i.toNatClampNeg) from fun w => by cases w.1), if_neg (show ¬ (false = true ∧ j = t.toNatClampNeg) from fun w => by cases w.1)]
    by_cases w : i.toInt < (j : Int) ∧ (j : Int) < k.toInt ∧ bt N j = true ∧ (f0 j).toInt = t.toInt
    · rw [if_pos w, if_pos ⟨by omega, w.2.2.1, by omega⟩, ci]
    · rw [if_neg w, if_neg (fun q => w ⟨by omega, by omega, q.2.1, by omega⟩)]
  · rw [eu, sw]
    unfold gsU
    rw [if_neg (show ¬ (false = true ∧ j = i.toNatClampNeg) from fun w => by cases w.1)]
    by_cases z : j = i.toNatClampNeg
    · rw [z, pk_us, if_pos (Or.inr ⟨rfl, rfl⟩)]
    · rw [pk_un z, if_neg (fun w => by
        rcases w with w | w
        · cases w.1
        · exact z w.2)]
theorem gst_sw {g1 g2 u2 u3 : Nat → Int32} {v w : Int32} (hi : 1 ≤ i.toInt ∧ i.toInt < P.toInt) (hP : P.toInt ≤ 12) (et : t = f0 i.toNatClampNeg) (ht : 0 ≤ t.toInt ∧ t.toInt < i.toInt) (hm : mostR C i.toNatClampNeg t.toNatClampNeg m.toInt) (hN : nearP C i.toNatClampNeg t.toNatClampNeg P.toNatClampNeg m.toInt N) (hg : hgE f0 g N t.toInt i.toInt k.toInt) (hk : P.toInt ≤ k.toInt) (eu : u1 = upd u0 i.toNatClampNeg m) (ht0 : t.toInt ≠ 0) (hb : bt N (g t.toNatClampNeg).toNatClampNeg = true) (ev : v = g t.toNatClampNeg) (e1 : g1 = upd g i.toNatClampNeg v) (ew : w = u1 t.toNatClampNeg) (e2 : u2 = upd u1 i.toNatClampNeg w) (e3 : g2 = upd g1 t.toNatClampNeg i) (e4 : u3 = upd u2 t.toNatClampNeg m) : gst C P.toNatClampNeg i.toNatClampNeg f0 u0 g2 u3 := by
  have ci := clI (i := i) (by omega)
  have ct := clI (i := t) ht.1
  have cP := clI (i := P) (by omega)
  have gt : g t.toNatClampNeg = f0 t.toNatClampNeg := Int32.toInt_inj.mp (by rw [hg _ (by omega), if_neg (fun w => by omega)])
  have tz : decide (t.toNatClampNeg ≠ 0) = true := decide_eq_true (by omega)
  have sw : gsw N t.toNatClampNeg f0 = true := by
    unfold gsw
    rw [tz, ← gt, hb, Bool.and_self]
  have ne : t.toNatClampNeg ≠ i.toNatClampNeg := by omega
  refine ⟨t.toNatClampNeg, m.toInt, N, by rw [← et]; exact ct.symm, by omega, hm, hN, fun j h1 h2 => ?_, fun j h1 h2 => ?_⟩
  · rw [e3, sw]
    unfold gsN
    by_cases z : j = i.toNatClampNeg
    · rw [pk_un (by omega), e1, z, pk_us, if_pos ⟨rfl, rfl⟩, ev, gt]
    · rw [if_neg (fun w => z w.2)]
      by_cases y : j = t.toNatClampNeg
      · rw [y, pk_us, if_pos ⟨rfl, rfl⟩, ci]
      · rw [pk_un y, if_neg (fun w => y w.2), e1, pk_un z, hg j (by omega)]
        by_cases w : i.toInt < (j : Int) ∧ (j : Int) < k.toInt ∧ bt N j = true ∧ (f0 j).toInt = t.toInt
        · rw [if_pos w, if_pos ⟨by omega, w.2.2.1, by omega⟩, ci]
        · rw [if_neg w, if_neg (fun q => w ⟨by omega, by omega, q.2.1, by omega⟩)]
  · rw [e4, sw]
    unfold gsU
    by_cases z : j = i.toNatClampNeg
    · rw [pk_un (by omega), e2, z, pk_us, if_pos ⟨rfl, rfl⟩, ew, eu, pk_un ne]
    · rw [if_neg (fun w => z w.2)]
      by_cases y : j = t.toNatClampNeg
      · rw [y, pk_us, if_pos (Or.inl ⟨rfl, rfl⟩)]
      · rw [pk_un y, if_neg (fun w => by
          rcases w with w | w
          · exact y w.2
          · cases w.1), e2, pk_un z, eu, pk_un z]
end GST
theorem gtr_nx {C : (Nat → Bool) → Int} {P : Nat} {i : Int32} {nx nu nx2 nu2 : Nat → Int32} {i2 : Int32} (h : gtr C P (i.toNatClampNeg - 1) nx nu) (h1 : 1 ≤ i.toInt) (hs : gst C P i.toNatClampNeg nx nu nx2 nu2) (e : i2.toInt = i.toInt + 1) : gtr C P (i2.toNatClampNeg - 1) nx2 nu2 := by
  have c := clI (i := i) (by omega)
  have c2 := clI (i := i2) (by omega)
  obtain ⟨k, hk⟩ : ∃ k : Nat, i.toNatClampNeg = k + 1 := ⟨i.toNatClampNeg - 1, by omega⟩
  rw [show i2.toNatClampNeg - 1 = k + 1 by omega]
  rw [hk, Nat.add_sub_cancel] at h
  rw [hk] at hs
  exact ⟨nx, nu, h, hs⟩
theorem gtr_1 {C : (Nat → Bool) → Int} {P : Nat} {nx nu : Nat → Int32} (h : ∀ j : Nat, 1 ≤ j → j < P → (nx j).toInt = 0) : gtr C P ((1 : Int32).toNatClampNeg - 1) nx nu := by
  rw [cl_1]
  exact h
theorem gtr_to {C : (Nat → Bool) → Int} {P k k2 : Nat} {nx nu : Nat → Int32} (h : gtr C P k nx nu) (e : k = k2) : gtr C P k2 nx nu := e ▸ h
theorem gtr_C {C D : (Nat → Bool) → Int} {P k : Nat} {nx nu : Nat → Int32} (h : gtr C P k nx nu) (e : ∀ S : Nat → Bool, C S = D S) : gtr D P k nx nu := by
  have : C = D := funext e
  rw [← this]
  exact h
/-! tree() -/
noncomputable def trI (p w P c : Int) : Int := if ¬ (0 ≤ w ∧ w ≤ 1) then -1 else if whI P c = 0 then -2 else if ¬ (0 ≤ p ∧ p < P) then -1 else 0
noncomputable def trA (C : (Nat → Bool) → Int) (P p : Nat) (w : Int) (r : Int32) : Prop := ∃ nx nu : Nat → Int32, gtr C P (P - 1) nx nu ∧ (p = 0 → r.toInt = -9) ∧ (p ≠ 0 → (w = 0 → r.toInt = (nx p).toInt) ∧ (w ≠ 0 → r.toInt = (nu p).toInt))
theorem tr_same {C : (Nat → Bool) → Int} {P p : Nat} {w : Int} {r1 r2 : Int32} (hp : p < P) (h1 : trA C P p w r1) (h2 : trA C P p w r2) : r1 = r2 := by
  obtain ⟨nx, nu, a1, a2, a3⟩ := h1
  obtain ⟨my, mv, b1, b2, b3⟩ := h2
  obtain ⟨e1, e2⟩ := gtr_un _ _ _ _ _ (by omega) a1 b1
  refine Int32.toInt_inj.mp ?_
  by_cases z : p = 0
  · rw [a2 z, b2 z]
  · by_cases y : w = 0
    · rw [(a3 z).1 y, (b3 z).1 y]
      exact e1 p (by omega) hp
    · rw [(a3 z).2 y, (b3 z).2 y]
      exact e2 p (by omega) (by omega)
theorem ans_tree {vp vn P N r1 r2 a1 a2 : Int32} {fk fs fe fw fp f5 f6 f7 f8 f9 f10 : Nat → Int32} (h : nrel vp vn fk fs fe fw fp P N f5 f6 f7 f8 f9 f10) (r6 : rng f6 40 0 11) (hN : 0 ≤ N.toInt ∧ N.toInt ≤ 40) (w1 : (trI a1.toInt a2.toInt vp.toInt (sumI (bkF fk fs) vn.toNatClampNeg) = 0 → trA (cutF fk fs fe fw (-9) vn.toNatClampNeg) vp.toNatClampNeg a1.toNatClampNeg a2.toInt r1) ∧ (trI a1.toInt a2.toInt vp.toInt (sumI (bkF fk fs) vn.toNatClampNeg) ≠ 0 → r1.toInt = trI a1.toInt a2.toInt vp.toInt (sumI (bkF fk fs) vn.toNatClampNeg))) (w2 : (trI a1.toInt a2.toInt P.toInt (sumI (bkR f5 f10) N.toNatClampNeg) = 0 → trA (cutR f5 f6 f7 f8 f10 (-9) N.toNatClampNeg) P.toNatClampNeg a1.toNatClampNeg a2.toInt r2) ∧ (trI a1.toInt a2.toInt P.toInt (sumI (bkR f5 f10) N.toNatClampNeg) ≠ 0 → r2.toInt = trI a1.toInt a2.toInt P.toInt (sumI (bkR f5 f10) N.toNatClampNeg))) : r1 = r2 := by
  rw [cutF_fun h r6 hN, bk_same h r6 hN, h.1] at w1
  by_cases z : trI a1.toInt a2.toInt P.toInt (sumI (bkR f5 f10) N.toNatClampNeg) = 0
  · have q : 0 ≤ a1.toInt ∧ a1.toInt < P.toInt := by
      unfold trI at z
      split at z
      · omega
      · split at z
        · omega
        · split at z <;> omega
    exact tr_same (nc_lt q.1 q.2) (w1.1 z) (w2.1 z)
  · exact Int32.toInt_inj.mp (by rw [w1.2 z, w2.2 z])
theorem mst_wh {C : (Nat → Bool) → Int} {P s t : Nat} {a : Int} (h : whC C P) (hst : s ≠ t) (ha : mstM C s t a) : mostR C s t a ∧ a = lam C s t ∧ a < 1000000 := by
  obtain ⟨r, hr, h5⟩ := min_ex h hst
  rcases mst_most hr (fun S => (h.1 S).1) (sep_ex hst) ha with w | w
  · exact absurd w.1 h5
  · rw [w.2.1]
    exact ⟨hr, (lam_most h hst hr).1, w.2.2⟩
theorem rg_sw {g g1 g2 : Nat → Int32} {i t v : Int32} (h : ∀ j : Nat, 1 ≤ j → j < 12 → 0 ≤ (g j).toInt ∧ (g j).toInt < i.toInt + 1) (ev : v = g t.toNatClampNeg) (e1 : g1 = upd g i.toNatClampNeg v) (e3 : g2 = upd g1 t.toNatClampNeg i) (ht : 1 ≤ t.toInt ∧ t.toInt < 12) (hi : 0 ≤ i.toInt) : ∀ j : Nat, 1 ≤ j → j < 12 → 0 ≤ (g2 j).toInt ∧ (g2 j).toInt < i.toInt + 1 := fun j h1 h2 => by
  have ct := clI (i := t) (by omega)
  rw [e3]
  by_cases z : j = t.toNatClampNeg
  · rw [z, pk_us]
    omega
  · rw [pk_un z, e1]
    by_cases y : j = i.toNatClampNeg
    · rw [y, pk_us, ev]
      exact h _ (by omega) (by omega)
    · rw [pk_un y]
      exact h j h1 h2
end

section
set_option maxHeartbeats 4000000 in
set_option maxRecDepth 100000 in
theorem c_X1_hang2 (l : Launch) (D : va_G) (cy : Nat → ClassId) (sz : Nat) (xt : Nat) (ta : Nat) (tb : Nat) (xc : Nat) (xk : Nat) (clo : Nat) (cro : Nat) (c4 : Nat) (c5 : Nat) (c6 : Nat) (c7 : Nat) (c8 : Nat) (xn : Nat) (n1 : Nat) (n2 : Nat) (n3 : Nat) (n4 : Nat) (n5 : Nat) (vp : Int32) (vn : Int32) (fx : Nat → Int32) (fu : Nat → Int32) (fs : Nat → Int32) (fe : Nat → Int32) (rl : Nat → Nat) (Ml : Nat → Nat → Int32) (rr : Nat → Nat) (Mr : Nat → Nat → Int32) (f4 : Nat → Int32) (f5 : Nat → Int32) (f6 : Nat → Int32) (f7 : Nat → Int32) (f8 : Nat → Int32) (a1 : Int32) (hvp : 0 ≤ vp.toInt ∧ vp.toInt ≤ 12) (hvn : 0 ≤ vn.toInt ∧ vn.toInt ≤ 40) (q1 : 1 ≤ a1.toInt ∧ a1.toInt < vp.toInt) (htr : trs fx a1.toNatClampNeg) (hM : ∀ x y : Nat, x < vp.toNatClampNeg → y < vp.toNatClampNeg → 0 ≤ zM Ml x y ∧ zM Ml x y ≤ 80000000) (hF : ∀ S : Nat → Bool, outZ (zM Ml) S vp.toNatClampNeg ≤ 100000) (r_f7 : rng f7 12 (0) (11)) (r_f8 : rng f8 12 (0) (11)) : Met l yX1_hang wsX1_hang ({ frames := 4, cells := 0, slots := 0, locals := 88 }) (va_Pc [.ref xt, .int a1] (fun U => U.heap.size = sz ∧ va_P D vwCl [ob1_0_ xt xc ta tb, ob0_0_ xc xn xk clo cro c4 c5 c6 c7 c8, ob3_0_ xn vp vn n1 n2 n3 n4 n5, ai_ cy ta 12 fx, ai_ cy tb 12 fu, ai_ cy n2 40 fs, ai_ cy n3 40 fe, aq_ cy 6 clo 12 (gf_ rl), ai_ cy (rl 0) 12 (Ml 0), ai_ cy (rl 1) 12 (Ml 1), ai_ cy (rl 2) 12 (Ml 2), ai_ cy (rl 3) 12 (Ml 3), ai_ cy (rl 4) 12 (Ml 4), ai_ cy (rl 5) 12 (Ml 5), ai_ cy (rl 6) 12 (Ml 6), ai_ cy (rl 7) 12 (Ml 7), ai_ cy (rl 8) 12 (Ml 8), ai_ cy (rl 9) 12 (Ml 9), ai_ cy (rl 10) 12 (Ml 10), ai_ cy (rl 11) 12 (Ml 11), aq_ cy 6 cro 12 (gf_ rr), ai_ cy (rr 0) 12 (Mr 0), ai_ cy (rr 1) 12 (Mr 1), ai_ cy (rr 2) 12 (Mr 2), ai_ cy (rr 3) 12 (Mr 3), ai_ cy (rr 4) 12 (Mr 4), ai_ cy (rr 5) 12 (Mr 5), ai_ cy (rr 6) 12 (Mr 6), ai_ cy (rr 7) 12 (Mr 7), ai_ cy (rr 8) 12 (Mr 8), ai_ cy (rr 9) 12 (Mr 9), ai_ cy (rr 10) 12 (Mr 10), ai_ cy (rr 11) 12 (Mr 11), ai_ cy c4 40 f4, ai_ cy c5 40 f5, ai_ cy c6 40 f6, ai_ cy c7 12 f7, ai_ cy c8 12 f8] U.heap ∧ kg_ D cy U ∧ va_D (fun _ => True) [ob1_0_ xt xc ta tb, ob0_0_ xc xn xk clo cro c4 c5 c6 c7 c8, ob3_0_ xn vp vn n1 n2 n3 n4 n5, ai_ cy ta 12 fx, ai_ cy tb 12 fu, ai_ cy n2 40 fs, ai_ cy n3 40 fe, aq_ cy 6 clo 12 (gf_ rl), ai_ cy (rl 0) 12 (Ml 0), ai_ cy (rl 1) 12 (Ml 1), ai_ cy (rl 2) 12 (Ml 2), ai_ cy (rl 3) 12 (Ml 3), ai_ cy (rl 4) 12 (Ml 4), ai_ cy (rl 5) 12 (Ml 5), ai_ cy (rl 6) 12 (Ml 6), ai_ cy (rl 7) 12 (Ml 7), ai_ cy (rl 8) 12 (Ml 8), ai_ cy (rl 9) 12 (Ml 9), ai_ cy (rl 10) 12 (Ml 10), ai_ cy (rl 11) 12 (Ml 11), aq_ cy 6 cro 12 (gf_ rr), ai_ cy (rr 0) 12 (Mr 0), ai_ cy (rr 1) 12 (Mr 1), ai_ cy (rr 2) 12 (Mr 2), ai_ cy (rr 3) 12 (Mr 3), ai_ cy (rr 4) 12 (Mr 4), ai_ cy (rr 5) 12 (Mr 5), ai_ cy (rr 6) 12 (Mr 6), ai_ cy (rr 7) 12 (Mr 7), ai_ cy (rr 8) 12 (Mr 8), ai_ cy (rr 9) 12 (Mr 9), ai_ cy (rr 10) 12 (Mr 10), ai_ cy (rr 11) 12 (Mr 11), ai_ cy c4 40 f4, ai_ cy c5 40 f5, ai_ cy c6 40 f6, ai_ cy c7 12 f7, ai_ cy c8 12 f8])) (va_Qv (fun (_ : Unit) => True) (fun (_ : Unit) (t : State) => ∃ (eMr : Nat → Nat → Int32), ∃ (efx : Nat → Int32), ∃ (efu : Nat → Int32), ∃ (e4 : Nat → Int32), ∃ (e7 : Nat → Int32), ∃ (e8 : Nat → Int32), (trs efx (a1.toNatClampNeg + 1)) ∧ (gst (fun S => outZ (zM Ml) S vp.toNatClampNeg) vp.toNatClampNeg a1.toNatClampNeg fx fu efx efu) ∧ (efx 0 = fx 0 ∧ efu 0 = fu 0) ∧ (rng e7 12 (0) (11)) ∧ (rng e8 12 (0) (11)) ∧ va_P D vwCl [ob1_0_ xt xc ta tb, ob0_0_ xc xn xk clo cro c4 c5 c6 c7 c8, ob3_0_ xn vp vn n1 n2 n3 n4 n5, ai_ cy ta 12 efx, ai_ cy tb 12 efu, ai_ cy n2 40 fs, ai_ cy n3 40 fe, aq_ cy 6 clo 12 (gf_ rl), ai_ cy (rl 0) 12 (Ml 0), ai_ cy (rl 1) 12 (Ml 1), ai_ cy (rl 2) 12 (Ml 2), ai_ cy (rl 3) 12 (Ml 3), ai_ cy (rl 4) 12 (Ml 4), ai_ cy (rl 5) 12 (Ml 5), ai_ cy (rl 6) 12 (Ml 6), ai_ cy (rl 7) 12 (Ml 7), ai_ cy (rl 8) 12 (Ml 8), ai_ cy (rl 9) 12 (Ml 9), ai_ cy (rl 10) 12 (Ml 10), ai_ cy (rl 11) 12 (Ml 11), aq_ cy 6 cro 12 (gf_ rr), ai_ cy (rr 0) 12 (eMr 0), ai_ cy (rr 1) 12 (eMr 1), ai_ cy (rr 2) 12 (eMr 2), ai_ cy (rr 3) 12 (eMr 3), ai_ cy (rr 4) 12 (eMr 4), ai_ cy (rr 5) 12 (eMr 5), ai_ cy (rr 6) 12 (eMr 6), ai_ cy (rr 7) 12 (eMr 7), ai_ cy (rr 8) 12 (eMr 8), ai_ cy (rr 9) 12 (eMr 9), ai_ cy (rr 10) 12 (eMr 10), ai_ cy (rr 11) 12 (eMr 11), ai_ cy c4 40 e4, ai_ cy c5 40 f5, ai_ cy c6 40 f6, ai_ cy c7 12 e7, ai_ cy c8 12 e8] t.heap ∧ va_D (va_A [ob1_0_ xt xc ta tb, ob0_0_ xc xn xk clo cro c4 c5 c6 c7 c8, ob3_0_ xn vp vn n1 n2 n3 n4 n5, ai_ cy ta 12 fx, ai_ cy tb 12 fu, ai_ cy n2 40 fs, ai_ cy n3 40 fe, aq_ cy 6 clo 12 (gf_ rl), ai_ cy (rl 0) 12 (Ml 0), ai_ cy (rl 1) 12 (Ml 1), ai_ cy (rl 2) 12 (Ml 2), ai_ cy (rl 3) 12 (Ml 3), ai_ cy (rl 4) 12 (Ml 4), ai_ cy (rl 5) 12 (Ml 5), ai_ cy (rl 6) 12 (Ml 6), ai_ cy (rl 7) 12 (Ml 7), ai_ cy (rl 8) 12 (Ml 8), ai_ cy (rl 9) 12 (Ml 9), ai_ cy (rl 10) 12 (Ml 10), ai_ cy (rl 11) 12 (Ml 11), aq_ cy 6 cro 12 (gf_ rr), ai_ cy (rr 0) 12 (Mr 0), ai_ cy (rr 1) 12 (Mr 1), ai_ cy (rr 2) 12 (Mr 2), ai_ cy (rr 3) 12 (Mr 3), ai_ cy (rr 4) 12 (Mr 4), ai_ cy (rr 5) 12 (Mr 5), ai_ cy (rr 6) 12 (Mr 6), ai_ cy (rr 7) 12 (Mr 7), ai_ cy (rr 8) 12 (Mr 8), ai_ cy (rr 9) 12 (Mr 9), ai_ cy (rr 10) 12 (Mr 10), ai_ cy (rr 11) 12 (Mr 11), ai_ cy c4 40 f4, ai_ cy c5 40 f5, ai_ cy c6 40 f6, ai_ cy c7 12 f7, ai_ cy c8 12 f8] sz) [ob1_0_ xt xc ta tb, ob0_0_ xc xn xk clo cro c4 c5 c6 c7 c8, ob3_0_ xn vp vn n1 n2 n3 n4 n5, ai_ cy ta 12 efx, ai_ cy tb 12 efu, ai_ cy n2 40 fs, ai_ cy n3 40 fe, aq_ cy 6 clo 12 (gf_ rl), ai_ cy (rl 0) 12 (Ml 0), ai_ cy (rl 1) 12 (Ml 1), ai_ cy (rl 2) 12 (Ml 2), ai_ cy (rl 3) 12 (Ml 3), ai_ cy (rl 4) 12 (Ml 4), ai_ cy (rl 5) 12 (Ml 5), ai_ cy (rl 6) 12 (Ml 6), ai_ cy (rl 7) 12 (Ml 7), ai_ cy (rl 8) 12 (Ml 8), ai_ cy (rl 9) 12 (Ml 9), ai_ cy (rl 10) 12 (Ml 10), ai_ cy (rl 11) 12 (Ml 11), aq_ cy 6 cro 12 (gf_ rr), ai_ cy (rr 0) 12 (eMr 0), ai_ cy (rr 1) 12 (eMr 1), ai_ cy (rr 2) 12 (eMr 2), ai_ cy (rr 3) 12 (eMr 3), ai_ cy (rr 4) 12 (eMr 4), ai_ cy (rr 5) 12 (eMr 5), ai_ cy (rr 6) 12 (eMr 6), ai_ cy (rr 7) 12 (eMr 7), ai_ cy (rr 8) 12 (eMr 8), ai_ cy (rr 9) 12 (eMr 9), ai_ cy (rr 10) 12 (eMr 10), ai_ cy (rr 11) 12 (eMr 11), ai_ cy c4 40 e4, ai_ cy c5 40 f5, ai_ cy c6 40 f6, ai_ cy c7 12 e7, ai_ cy c8 12 e8]) (va_A [ob1_0_ xt xc ta tb, ob0_0_ xc xn xk clo cro c4 c5 c6 c7 c8, ob3_0_ xn vp vn n1 n2 n3 n4 n5, ai_ cy ta 12 fx, ai_ cy tb 12 fu, ai_ cy n2 40 fs, ai_ cy n3 40 fe, aq_ cy 6 clo 12 (gf_ rl), ai_ cy (rl 0) 12 (Ml 0), ai_ cy (rl 1) 12 (Ml 1), ai_ cy (rl 2) 12 (Ml 2), ai_ cy (rl 3) 12 (Ml 3), ai_ cy (rl 4) 12 (Ml 4), ai_ cy (rl 5) 12 (Ml 5), ai_ cy (rl 6) 12 (Ml 6), ai_ cy (rl 7) 12 (Ml 7), ai_ cy (rl 8) 12 (Ml 8), ai_ cy (rl 9) 12 (Ml 9), ai_ cy (rl 10) 12 (Ml 10), ai_ cy (rl 11) 12 (Ml 11), aq_ cy 6 cro 12 (gf_ rr), ai_ cy (rr 0) 12 (Mr 0), ai_ cy (rr 1) 12 (Mr 1), ai_ cy (rr 2) 12 (Mr 2), ai_ cy (rr 3) 12 (Mr 3), ai_ cy (rr 4) 12 (Mr 4), ai_ cy (rr 5) 12 (Mr 5), ai_ cy (rr 6) 12 (Mr 6), ai_ cy (rr 7) 12 (Mr 7), ai_ cy (rr 8) 12 (Mr 8), ai_ cy (rr 9) 12 (Mr 9), ai_ cy (rr 10) 12 (Mr 10), ai_ cy (rr 11) 12 (Mr 11), ai_ cy c4 40 f4, ai_ cy c5 40 f5, ai_ cy c6 40 f6, ai_ cy c7 12 f7, ai_ cy c8 12 f8] sz)) 0 0 (va_A [ob1_0_ xt xc ta tb, ob0_0_ xc xn xk clo cro c4 c5 c6 c7 c8, ob3_0_ xn vp vn n1 n2 n3 n4 n5, ai_ cy ta 12 fx, ai_ cy tb 12 fu, ai_ cy n2 40 fs, ai_ cy n3 40 fe, aq_ cy 6 clo 12 (gf_ rl), ai_ cy (rl 0) 12 (Ml 0), ai_ cy (rl 1) 12 (Ml 1), ai_ cy (rl 2) 12 (Ml 2), ai_ cy (rl 3) 12 (Ml 3), ai_ cy (rl 4) 12 (Ml 4), ai_ cy (rl 5) 12 (Ml 5), ai_ cy (rl 6) 12 (Ml 6), ai_ cy (rl 7) 12 (Ml 7), ai_ cy (rl 8) 12 (Ml 8), ai_ cy (rl 9) 12 (Ml 9), ai_ cy (rl 10) 12 (Ml 10), ai_ cy (rl 11) 12 (Ml 11), aq_ cy 6 cro 12 (gf_ rr), ai_ cy (rr 0) 12 (Mr 0), ai_ cy (rr 1) 12 (Mr 1), ai_ cy (rr 2) 12 (Mr 2), ai_ cy (rr 3) 12 (Mr 3), ai_ cy (rr 4) 12 (Mr 4), ai_ cy (rr 5) 12 (Mr 5), ai_ cy (rr 6) 12 (Mr 6), ai_ cy (rr 7) 12 (Mr 7), ai_ cy (rr 8) 12 (Mr 8), ai_ cy (rr 9) 12 (Mr 9), ai_ cy (rr 10) 12 (Mr 10), ai_ cy (rr 11) 12 (Mr 11), ai_ cy c4 40 f4, ai_ cy c5 40 f5, ai_ cy c6 40 f6, ai_ cy c7 12 f7, ai_ cy c8 12 f8] sz) := by
  refine ofQ (cc := cX1_hang) (maxL := 6) (ret := none) (by decide) rfl ?_
  intro p e s m args below meth c s₁ Q hQ B hml hv
  obtain ⟨rfl, hsz, hP, hK, hD0⟩ := hv
  have hG := hK.2
  have hK := hK.1
  have hx := B.exec
  have hb := B.bytes
  have hr := B.returns
  have hts := atoms_spec (ws := wsX1_hang) B.pre
  have hown : s.vm.findClass RX1 = some m.cls := by have h_ := findClass_of_methodNamed B.named; exact h_
  have hlocks := B.notSynchronized
  subst hsz
  have hD := hD0.self (sz := s.heap.size)
  generalize hAe : va_A [ob1_0_ xt xc ta tb, ob0_0_ xc xn xk clo cro c4 c5 c6 c7 c8, ob3_0_ xn vp vn n1 n2 n3 n4 n5, ai_ cy ta 12 fx, ai_ cy tb 12 fu, ai_ cy n2 40 fs, ai_ cy n3 40 fe, aq_ cy 6 clo 12 (gf_ rl), ai_ cy (rl 0) 12 (Ml 0), ai_ cy (rl 1) 12 (Ml 1), ai_ cy (rl 2) 12 (Ml 2), ai_ cy (rl 3) 12 (Ml 3), ai_ cy (rl 4) 12 (Ml 4), ai_ cy (rl 5) 12 (Ml 5), ai_ cy (rl 6) 12 (Ml 6), ai_ cy (rl 7) 12 (Ml 7), ai_ cy (rl 8) 12 (Ml 8), ai_ cy (rl 9) 12 (Ml 9), ai_ cy (rl 10) 12 (Ml 10), ai_ cy (rl 11) 12 (Ml 11), aq_ cy 6 cro 12 (gf_ rr), ai_ cy (rr 0) 12 (Mr 0), ai_ cy (rr 1) 12 (Mr 1), ai_ cy (rr 2) 12 (Mr 2), ai_ cy (rr 3) 12 (Mr 3), ai_ cy (rr 4) 12 (Mr 4), ai_ cy (rr 5) 12 (Mr 5), ai_ cy (rr 6) 12 (Mr 6), ai_ cy (rr 7) 12 (Mr 7), ai_ cy (rr 8) 12 (Mr 8), ai_ cy (rr 9) 12 (Mr 9), ai_ cy (rr 10) 12 (Mr 10), ai_ cy (rr 11) 12 (Mr 11), ai_ cy c4 40 f4, ai_ cy c5 40 f5, ai_ cy c6 40 f6, ai_ cy c7 12 f7, ai_ cy c8 12 f8] s.heap.size = A at hD hQ
  have hA : ∀ q : Nat, s.heap.size ≤ q → A q := fun q h => by rw [← hAe]; exact Or.inr h
  have hS : va_S A s.heap s.heap [] := va_S.rf
  have hl := lv_entry ([.ref xt, .int a1]) (n := 6) (Nat.le_of_ble_eq_true rfl)
  rw [lg_entry_eq]
  generalize (lg_sl ([.ref xt, .int a1]) ++ List.replicate (6 - (lg_sl ([.ref xt, .int a1])).length) Slot.unset).toArray = ls at hl ⊢
  have hl : lv_has ls 6 [(0, .ref xt), (1, .int a1)] := hl
  have z0 : (0 : Int32).toInt = 0 := by decide
  have z1 : (1 : Int32).toInt = 1 := by decide
  have ca := clI (i := a1) (by omega)
  have ht_ := htr.1 a1.toNatClampNeg (by omega) (by omega)
  have hC_ : ∀ S : Nat → Bool, clsd (zM Ml) vp.toNatClampNeg 1000000 S → outZ (zM Ml) S vp.toNatClampNeg ≤ 100000 := fun S _ => hF S
  refine lv_aload_n hx hb dB_36_0_48.1.1.1.1 rfl (lv_at hl 0 rfl) ?_
  refine va_get (ci := 1) (v := .ref ta) (C := RX1) (T := TX1) (N := 3) hx hb hts (fun _ h => List.mem_cons_of_mem _ (List.mem_append_left _ (List.mem_append_left _ (List.mem_append_right _ h)))) hown hK.1 hP 0 rfl rfl 1 (by decide) (hts (.fieldLink RX1 9 "CutAtlas$CutTree" "nexts" "[I") (List.mem_of_getElem? (i := 1) rfl)) (fun _ h9 => h9) rfl dB_36_0_48.1.1.1.2 ?_
  refine lv_iload_n hx hb dB_36_0_48.1.1.2.1 rfl (lv_at hl 1 rfl) ?_
  have h_1 : vp_in a1 12 := in_I (by first | with_reducible assumption | omega) (by omega)
  refine va_iald hx hb hK.1 hP 3 0 rfl rfl (i := a1) h_1 dB_36_0_48.1.1.2.2 ?_
  refine lv_topi (fun y_2 ey_2 => ?_)
  have ky_2 : y_2.toInt = (fx a1.toNatClampNeg).toInt := by rw [ey_2]
  have ct_ := clI (i := y_2) (by omega)
  refine lv_istore_n (lv' := [(2, .int y_2), (0, .ref xt), (1, .int a1)]) hx hb dB_36_0_48.1.2.1.1 rfl hl (by decide) rfl (fun ls hl => ?_)
  refine lv_aload_n hx hb dB_36_0_48.1.2.1.2 rfl (lv_at hl 1 rfl) ?_
  refine va_get (ci := 1) (v := .ref xc) (C := RX1) (T := TX1) (N := 3) hx hb hts (fun _ h => List.mem_cons_of_mem _ (List.mem_append_left _ (List.mem_append_left _ (List.mem_append_right _ h)))) hown hK.1 hP 0 rfl rfl 0 (by decide) (hts (.fieldLink RX1 18 "CutAtlas$CutTree" "current" "LCutAtlas$Current;") (List.mem_of_getElem? (i := 2) rfl)) (fun _ h9 => h9) rfl dB_36_0_48.1.2.2.1 ?_
  refine lv_iload_n hx hb dB_36_0_48.1.2.2.2 rfl (lv_at hl 2 rfl) ?_
  refine lv_iload_n hx hb dB_36_0_48.2.1.1.1 rfl (lv_at hl 0 rfl) ?_
  refine ct_S hP hD hS hA [ob0_0_ xc xn xk clo cro c4 c5 c6 c7 c8, ob3_0_ xn vp vn n1 n2 n3 n4 n5, ai_ cy n2 40 fs, ai_ cy n3 40 fe, aq_ cy 6 clo 12 (gf_ rl), ai_ cy (rl 0) 12 (Ml 0), ai_ cy (rl 1) 12 (Ml 1), ai_ cy (rl 2) 12 (Ml 2), ai_ cy (rl 3) 12 (Ml 3), ai_ cy (rl 4) 12 (Ml 4), ai_ cy (rl 5) 12 (Ml 5), ai_ cy (rl 6) 12 (Ml 6), ai_ cy (rl 7) 12 (Ml 7), ai_ cy (rl 8) 12 (Ml 8), ai_ cy (rl 9) 12 (Ml 9), ai_ cy (rl 10) 12 (Ml 10), ai_ cy (rl 11) 12 (Ml 11), aq_ cy 6 cro 12 (gf_ rr), ai_ cy (rr 0) 12 (Mr 0), ai_ cy (rr 1) 12 (Mr 1), ai_ cy (rr 2) 12 (Mr 2), ai_ cy (rr 3) 12 (Mr 3), ai_ cy (rr 4) 12 (Mr 4), ai_ cy (rr 5) 12 (Mr 5), ai_ cy (rr 6) 12 (Mr 6), ai_ cy (rr 7) 12 (Mr 7), ai_ cy (rr 8) 12 (Mr 8), ai_ cy (rr 9) 12 (Mr 9), ai_ cy (rr 10) 12 (Mr 10), ai_ cy (rr 11) 12 (Mr 11), ai_ cy c4 40 f4, ai_ cy c5 40 f5, ai_ cy c6 40 f6, ai_ cy c7 12 f7, ai_ cy c8 12 f8] [1, 2, 5, 6, 7, 8, 9, 10, 11, 12, 13, 14, 15, 16, 17, 18, 19, 20, 21, 22, 23, 24, 25, 26, 27, 28, 29, 30, 31, 32, 33, 34, 35, 36, 37] (by decide +kernel) rfl (fun hPc hDw hFc hC_ => ?_)
  refine va_calli (va_runV (As := [.int a1, .int y_2]) (rest := []) ⟨hx, hb, hml, hown, hts⟩ (c_X0_fill2 l D cy s.heap.size xc xk clo cro c4 c5 c6 c7 c8 xn n1 n2 n3 n4 n5 vp vn fs fe rl Ml rr Mr f4 f5 f6 f7 f8 a1 y_2 (by first | with_reducible assumption | omega | assumption) (by first | with_reducible assumption | omega | assumption) (by first | with_reducible assumption | omega | assumption) (by first | with_reducible assumption | omega | assumption) (by first | with_reducible assumption | assumption | omega) (by first | with_reducible assumption | assumption | omega) (by first | with_reducible assumption | assumption | omega) (by first | with_reducible assumption | assumption | omega) (by first | with_reducible assumption | assumption | omega)) (cwV 2 hts gX1_hang_X0_fill rfl rfl rfl ⟨rfl, hd_X0_fill⟩ ⟨Nat.le_of_ble_eq_true rfl, Nat.le_of_ble_eq_true rfl⟩) ⟨bl_g, va_recvX hK.1 hP (ci := 0) (q0 := 1) rfl rfl, fun U hU hW => ⟨rfl, by rw [hU], by rw [hU]; exact hPc, ⟨kk_mv hW hK, arrOfT_moved hW.alike hG⟩, hDw⟩⟩ rfl rfl hl.1 rfl (lv_room (Nat.le_of_ble_eq_true rfl)) dB_36_0_48.2.1.1.2 ⟨Nat.le_of_ble_eq_true rfl, Nat.le_of_ble_eq_true rfl⟩) hS (fun q _ h => hFc q h) hFc (fun r_3 u t H locs ht hvm hw hB hz1 hk1 hS => ?_)
  obtain ⟨eu_, hw⟩ := hw
  have eu_ := eu_.symm
  subst eu_
  obtain ⟨eMr_4, e4_5, e7_6, e8_7, g_8, g_9, g_10, hP1, hD1⟩ := hB
  rw [ht] at hP1
  obtain ⟨hP, hD⟩ := va_join (wr := [ob1_0_ xt xc ta tb, ai_ cy ta 12 fx, ai_ cy tb 12 fu]) (w1 := [ob0_0_ xc xn xk clo cro c4 c5 c6 c7 c8, ob3_0_ xn vp vn n1 n2 n3 n4 n5, ai_ cy n2 40 fs, ai_ cy n3 40 fe, aq_ cy 6 clo 12 (gf_ rl), ai_ cy (rl 0) 12 (Ml 0), ai_ cy (rl 1) 12 (Ml 1), ai_ cy (rl 2) 12 (Ml 2), ai_ cy (rl 3) 12 (Ml 3), ai_ cy (rl 4) 12 (Ml 4), ai_ cy (rl 5) 12 (Ml 5), ai_ cy (rl 6) 12 (Ml 6), ai_ cy (rl 7) 12 (Ml 7), ai_ cy (rl 8) 12 (Ml 8), ai_ cy (rl 9) 12 (Ml 9), ai_ cy (rl 10) 12 (Ml 10), ai_ cy (rl 11) 12 (Ml 11), aq_ cy 6 cro 12 (gf_ rr), ai_ cy (rr 0) 12 (eMr_4 0), ai_ cy (rr 1) 12 (eMr_4 1), ai_ cy (rr 2) 12 (eMr_4 2), ai_ cy (rr 3) 12 (eMr_4 3), ai_ cy (rr 4) 12 (eMr_4 4), ai_ cy (rr 5) 12 (eMr_4 5), ai_ cy (rr 6) 12 (eMr_4 6), ai_ cy (rr 7) 12 (eMr_4 7), ai_ cy (rr 8) 12 (eMr_4 8), ai_ cy (rr 9) 12 (eMr_4 9), ai_ cy (rr 10) 12 (eMr_4 10), ai_ cy (rr 11) 12 (eMr_4 11), ai_ cy c4 40 e4_5, ai_ cy c5 40 f5, ai_ cy c6 40 f6, ai_ cy c7 12 e7_6, ai_ cy c8 12 e8_7]) hP hD [1, 2, 5, 6, 7, 8, 9, 10, 11, 12, 13, 14, 15, 16, 17, 18, 19, 20, 21, 22, 23, 24, 25, 26, 27, 28, 29, 30, 31, 32, 33, 34, 35, 36, 37] [0, 3, 4] hC_ rfl (by decide) (by decide) hk1 hFc hP1 hD1
  refine pd_S hP hD [ob1_0_ xt xc ta tb, ob0_0_ xc xn xk clo cro c4 c5 c6 c7 c8, ob3_0_ xn vp vn n1 n2 n3 n4 n5, ai_ cy ta 12 fx, ai_ cy tb 12 fu, ai_ cy n2 40 fs, ai_ cy n3 40 fe, aq_ cy 6 clo 12 (gf_ rl), ai_ cy (rl 0) 12 (Ml 0), ai_ cy (rl 1) 12 (Ml 1), ai_ cy (rl 2) 12 (Ml 2), ai_ cy (rl 3) 12 (Ml 3), ai_ cy (rl 4) 12 (Ml 4), ai_ cy (rl 5) 12 (Ml 5), ai_ cy (rl 6) 12 (Ml 6), ai_ cy (rl 7) 12 (Ml 7), ai_ cy (rl 8) 12 (Ml 8), ai_ cy (rl 9) 12 (Ml 9), ai_ cy (rl 10) 12 (Ml 10), ai_ cy (rl 11) 12 (Ml 11), aq_ cy 6 cro 12 (gf_ rr), ai_ cy (rr 0) 12 (eMr_4 0), ai_ cy (rr 1) 12 (eMr_4 1), ai_ cy (rr 2) 12 (eMr_4 2), ai_ cy (rr 3) 12 (eMr_4 3), ai_ cy (rr 4) 12 (eMr_4 4), ai_ cy (rr 5) 12 (eMr_4 5), ai_ cy (rr 6) 12 (eMr_4 6), ai_ cy (rr 7) 12 (eMr_4 7), ai_ cy (rr 8) 12 (eMr_4 8), ai_ cy (rr 9) 12 (eMr_4 9), ai_ cy (rr 10) 12 (eMr_4 10), ai_ cy (rr 11) 12 (eMr_4 11), ai_ cy c4 40 e4_5, ai_ cy c5 40 f5, ai_ cy c6 40 f6, ai_ cy c7 12 e7_6, ai_ cy c8 12 e8_7] [0, 3, 4, 1, 2, 5, 6, 7, 8, 9, 10, 11, 12, 13, 14, 15, 16, 17, 18, 19, 20, 21, 22, 23, 24, 25, 26, 27, 28, 29, 30, 31, 32, 33, 34, 35, 36, 37] (by decide +kernel) rfl (fun hP hD => ?_)
  have f0_r_3 := hw
  have hmo_ := f0_r_3
  have hfl_ := g_8
  have hfin_ := mostR_fin hmo_ (nc_ne (x := a1) (y := y_2) (by omega) (by omega) (by omega)) hF
  refine lv_istore_n (lv' := [(3, .int r_3), (2, .int y_2), (0, .ref xt), (1, .int a1)]) hx hb dB_36_0_48.2.1.2.1 rfl hl (by decide) rfl (fun ls hl => ?_)
  refine lv_aload_n hx hb dB_36_0_48.2.1.2.2 rfl (lv_at hl 2 rfl) ?_
  refine va_get (ci := 1) (v := .ref xc) (C := RX1) (T := TX1) (N := 3) hx hb hts (fun _ h => List.mem_cons_of_mem _ (List.mem_append_left _ (List.mem_append_left _ (List.mem_append_right _ h)))) hown hK.1 hP 0 rfl rfl 0 (by decide) (hts (.fieldLink RX1 18 "CutAtlas$CutTree" "current" "LCutAtlas$Current;") (List.mem_of_getElem? (i := 2) rfl)) (fun _ h9 => h9) rfl dB_36_0_48.2.2.1.1 ?_
  refine lv_iload_n hx hb dB_36_0_48.2.2.1.2 rfl (lv_at hl 3 rfl) ?_
  refine ct_S hP hD hS hA [ob0_0_ xc xn xk clo cro c4 c5 c6 c7 c8, ob3_0_ xn vp vn n1 n2 n3 n4 n5, aq_ cy 6 cro 12 (gf_ rr), ai_ cy (rr 0) 12 (eMr_4 0), ai_ cy (rr 1) 12 (eMr_4 1), ai_ cy (rr 2) 12 (eMr_4 2), ai_ cy (rr 3) 12 (eMr_4 3), ai_ cy (rr 4) 12 (eMr_4 4), ai_ cy (rr 5) 12 (eMr_4 5), ai_ cy (rr 6) 12 (eMr_4 6), ai_ cy (rr 7) 12 (eMr_4 7), ai_ cy (rr 8) 12 (eMr_4 8), ai_ cy (rr 9) 12 (eMr_4 9), ai_ cy (rr 10) 12 (eMr_4 10), ai_ cy (rr 11) 12 (eMr_4 11), ai_ cy c7 12 e7_6] [1, 2, 20, 21, 22, 23, 24, 25, 26, 27, 28, 29, 30, 31, 32, 36] (by decide +kernel) rfl (fun hPc hDw hFc hC_ => ?_)
  refine va_calli (va_runV (As := [.int a1]) (rest := []) ⟨hx, hb, hml, hown, hts⟩ (c_X0_nearCut2 l D cy H.size xc xk clo cro c4 c5 c6 c7 c8 xn n1 n2 n3 n4 n5 vp vn rr eMr_4 e7_6 a1 (by first | with_reducible assumption | omega | assumption) (by first | with_reducible assumption | omega | assumption) (by first | with_reducible assumption | assumption | omega)) (cwV 1 hts gX1_hang_X0_nearCut rfl rfl rfl ⟨rfl, hd_X0_nearCut⟩ ⟨Nat.le_of_ble_eq_true rfl, Nat.le_of_ble_eq_true rfl⟩) ⟨bl_g, va_recvX hK.1 hP (ci := 0) (q0 := 1) rfl rfl, fun U hU hW => ⟨rfl, by rw [hU], by rw [hU]; exact hPc, ⟨kk_mv hW hK, arrOfT_moved hW.alike hG⟩, hDw⟩⟩ rfl rfl hl.1 rfl (lv_room (Nat.le_of_ble_eq_true rfl)) dB_36_0_48.2.2.2.1 ⟨Nat.le_of_ble_eq_true rfl, Nat.le_of_ble_eq_true rfl⟩) hS (fun q _ h => hFc q h) hFc (fun r_11 u t H locs ht hvm hw hB hz1 hk1 hS => ?_)
  obtain ⟨e7_12, g_13, hP1, hD1⟩ := hB
  rw [ht] at hP1
  obtain ⟨hP, hD⟩ := va_join (wr := [ob1_0_ xt xc ta tb, ai_ cy ta 12 fx, ai_ cy tb 12 fu, ai_ cy n2 40 fs, ai_ cy n3 40 fe, aq_ cy 6 clo 12 (gf_ rl), ai_ cy (rl 0) 12 (Ml 0), ai_ cy (rl 1) 12 (Ml 1), ai_ cy (rl 2) 12 (Ml 2), ai_ cy (rl 3) 12 (Ml 3), ai_ cy (rl 4) 12 (Ml 4), ai_ cy (rl 5) 12 (Ml 5), ai_ cy (rl 6) 12 (Ml 6), ai_ cy (rl 7) 12 (Ml 7), ai_ cy (rl 8) 12 (Ml 8), ai_ cy (rl 9) 12 (Ml 9), ai_ cy (rl 10) 12 (Ml 10), ai_ cy (rl 11) 12 (Ml 11), ai_ cy c4 40 e4_5, ai_ cy c5 40 f5, ai_ cy c6 40 f6, ai_ cy c8 12 e8_7]) (w1 := [ob0_0_ xc xn xk clo cro c4 c5 c6 c7 c8, ob3_0_ xn vp vn n1 n2 n3 n4 n5, aq_ cy 6 cro 12 (gf_ rr), ai_ cy (rr 0) 12 (eMr_4 0), ai_ cy (rr 1) 12 (eMr_4 1), ai_ cy (rr 2) 12 (eMr_4 2), ai_ cy (rr 3) 12 (eMr_4 3), ai_ cy (rr 4) 12 (eMr_4 4), ai_ cy (rr 5) 12 (eMr_4 5), ai_ cy (rr 6) 12 (eMr_4 6), ai_ cy (rr 7) 12 (eMr_4 7), ai_ cy (rr 8) 12 (eMr_4 8), ai_ cy (rr 9) 12 (eMr_4 9), ai_ cy (rr 10) 12 (eMr_4 10), ai_ cy (rr 11) 12 (eMr_4 11), ai_ cy c7 12 e7_12]) hP hD [1, 2, 20, 21, 22, 23, 24, 25, 26, 27, 28, 29, 30, 31, 32, 36] [0, 3, 4, 5, 6, 7, 8, 9, 10, 11, 12, 13, 14, 15, 16, 17, 18, 19, 33, 34, 35, 37] hC_ rfl (by decide +kernel) (by decide +kernel) hk1 hFc hP1 hD1
  refine pd_S hP hD [ob1_0_ xt xc ta tb, ob0_0_ xc xn xk clo cro c4 c5 c6 c7 c8, ob3_0_ xn vp vn n1 n2 n3 n4 n5, ai_ cy ta 12 fx, ai_ cy tb 12 fu, ai_ cy n2 40 fs, ai_ cy n3 40 fe, aq_ cy 6 clo 12 (gf_ rl), ai_ cy (rl 0) 12 (Ml 0), ai_ cy (rl 1) 12 (Ml 1), ai_ cy (rl 2) 12 (Ml 2), ai_ cy (rl 3) 12 (Ml 3), ai_ cy (rl 4) 12 (Ml 4), ai_ cy (rl 5) 12 (Ml 5), ai_ cy (rl 6) 12 (Ml 6), ai_ cy (rl 7) 12 (Ml 7), ai_ cy (rl 8) 12 (Ml 8), ai_ cy (rl 9) 12 (Ml 9), ai_ cy (rl 10) 12 (Ml 10), ai_ cy (rl 11) 12 (Ml 11), aq_ cy 6 cro 12 (gf_ rr), ai_ cy (rr 0) 12 (eMr_4 0), ai_ cy (rr 1) 12 (eMr_4 1), ai_ cy (rr 2) 12 (eMr_4 2), ai_ cy (rr 3) 12 (eMr_4 3), ai_ cy (rr 4) 12 (eMr_4 4), ai_ cy (rr 5) 12 (eMr_4 5), ai_ cy (rr 6) 12 (eMr_4 6), ai_ cy (rr 7) 12 (eMr_4 7), ai_ cy (rr 8) 12 (eMr_4 8), ai_ cy (rr 9) 12 (eMr_4 9), ai_ cy (rr 10) 12 (eMr_4 10), ai_ cy (rr 11) 12 (eMr_4 11), ai_ cy c4 40 e4_5, ai_ cy c5 40 f5, ai_ cy c6 40 f6, ai_ cy c7 12 e7_12, ai_ cy c8 12 e8_7] [0, 22, 23, 1, 2, 3, 4, 5, 6, 7, 8, 9, 10, 11, 12, 13, 14, 15, 16, 17, 24, 25, 26, 27, 28, 29, 30, 31, 32, 33, 34, 35, 36, 18, 19, 20, 37, 21] (by decide +kernel) rfl (fun hP hD => ?_)
  have f0_r_11 := hw
  have hnp_ := near_ok (hfl_ hfin_.1) (fun S => rfl) hmo_ hfin_.1 f0_r_11
  refine lv_istore (lv' := [(4, .int r_11), (3, .int r_3), (2, .int y_2), (0, .ref xt), (1, .int a1)]) hx hb dB_36_0_48.2.2.2.2 hl (by decide) rfl (fun ls hl => ?_)
  refine lv_aload_n hx hb dB_36_0_49.1.1.1.1 rfl (lv_at hl 3 rfl) ?_
  refine va_get (ci := 1) (v := .ref tb) (C := RX1) (T := TX1) (N := 3) hx hb hts (fun _ h => List.mem_cons_of_mem _ (List.mem_append_left _ (List.mem_append_left _ (List.mem_append_right _ h)))) hown hK.1 hP 0 rfl rfl 2 (by decide) (hts (.fieldLink RX1 15 "CutAtlas$CutTree" "numbers" "[I") (List.mem_of_getElem? (i := 3) rfl)) (fun _ h9 => h9) rfl dB_36_0_49.1.1.1.2 ?_
  refine lv_iload_n hx hb dB_36_0_49.1.1.2.1 rfl (lv_at hl 4 rfl) ?_
  refine lv_iload_n hx hb dB_36_0_49.1.1.2.2 rfl (lv_at hl 1 rfl) ?_
  refine va_iast hx hb hK.1 hP hD hS 4 0 rfl rfl (i := a1) h_1 dB_36_0_49.1.2.1.1 (fun H locs hP hD hS => ?_)
  obtain ⟨f_15, ef_15⟩ : ∃ g : Nat → Int32, g = upd fu a1.toNatClampNeg r_3 := ⟨_, rfl⟩
  refine pd_K (D := D) (cl := vwCl) (H := H) (A := A) [ob1_0_ xt xc ta tb, ob0_0_ xc xn xk clo cro c4 c5 c6 c7 c8, ob3_0_ xn vp vn n1 n2 n3 n4 n5, ai_ cy ta 12 fx, ai_ cy tb 12 f_15, ai_ cy n2 40 fs, ai_ cy n3 40 fe, aq_ cy 6 clo 12 (gf_ rl), ai_ cy (rl 0) 12 (Ml 0), ai_ cy (rl 1) 12 (Ml 1), ai_ cy (rl 2) 12 (Ml 2), ai_ cy (rl 3) 12 (Ml 3), ai_ cy (rl 4) 12 (Ml 4), ai_ cy (rl 5) 12 (Ml 5), ai_ cy (rl 6) 12 (Ml 6), ai_ cy (rl 7) 12 (Ml 7), ai_ cy (rl 8) 12 (Ml 8), ai_ cy (rl 9) 12 (Ml 9), ai_ cy (rl 10) 12 (Ml 10), ai_ cy (rl 11) 12 (Ml 11), aq_ cy 6 cro 12 (gf_ rr), ai_ cy (rr 0) 12 (eMr_4 0), ai_ cy (rr 1) 12 (eMr_4 1), ai_ cy (rr 2) 12 (eMr_4 2), ai_ cy (rr 3) 12 (eMr_4 3), ai_ cy (rr 4) 12 (eMr_4 4), ai_ cy (rr 5) 12 (eMr_4 5), ai_ cy (rr 6) 12 (eMr_4 6), ai_ cy (rr 7) 12 (eMr_4 7), ai_ cy (rr 8) 12 (eMr_4 8), ai_ cy (rr 9) 12 (eMr_4 9), ai_ cy (rr 10) 12 (eMr_4 10), ai_ cy (rr 11) 12 (eMr_4 11), ai_ cy c4 40 e4_5, ai_ cy c5 40 f5, ai_ cy c6 40 f6, ai_ cy c7 12 e7_12, ai_ cy c8 12 e8_7] (by rw [ef_15]; exact hP) (by rw [ef_15]; exact hD) (fun hP hD => ?_)
  refine lv_iload_n hx hb dB_36_0_49.1.2.1.2 rfl (lv_at hl 4 rfl) ?_
  refine lv_iconst (v := 1) hx hb dB_36_0_49.1.2.2.1 (by decide) ?_
  refine lv_iadd hx hb dB_36_0_49.1.2.2.2 ?_
  refine lv_topi (fun y_16 ey_16 => ?_)
  have ty_16 : y_16.toInt = a1.toInt + (1 : Int32).toInt := by rw [ey_16]; exact addI (by omega) (by omega)
  refine lv_istore (lv' := [(5, .int y_16), (4, .int r_11), (3, .int r_3), (2, .int y_2), (0, .ref xt), (1, .int a1)]) hx hb dB_36_0_49.2.1.1.1 hl (by decide) rfl (fun ls hl => ?_)
  suffices LOOP_17 : ∀ (n_17 : Nat) (x5_17 : Int32) (c_ta_17 : Nat → Int32) (H : Heap) (locs : List Loc) (ls : Array Slot), 12 - x5_17.toInt < (n_17 : Int) → (a1.toInt < x5_17.toInt) → (x5_17.toInt ≤ 12) → (hng fx c_ta_17 a1) → (hgE fx c_ta_17 r_11 y_2.toInt a1.toInt x5_17.toInt) → pd_2 D vwCl A [ob1_0_ xt xc ta tb, ob0_0_ xc xn xk clo cro c4 c5 c6 c7 c8, ob3_0_ xn vp vn n1 n2 n3 n4 n5, ai_ cy ta 12 c_ta_17, ai_ cy tb 12 f_15, ai_ cy n2 40 fs, ai_ cy n3 40 fe, aq_ cy 6 clo 12 (gf_ rl), ai_ cy (rl 0) 12 (Ml 0), ai_ cy (rl 1) 12 (Ml 1), ai_ cy (rl 2) 12 (Ml 2), ai_ cy (rl 3) 12 (Ml 3), ai_ cy (rl 4) 12 (Ml 4), ai_ cy (rl 5) 12 (Ml 5), ai_ cy (rl 6) 12 (Ml 6), ai_ cy (rl 7) 12 (Ml 7), ai_ cy (rl 8) 12 (Ml 8), ai_ cy (rl 9) 12 (Ml 9), ai_ cy (rl 10) 12 (Ml 10), ai_ cy (rl 11) 12 (Ml 11), aq_ cy 6 cro 12 (gf_ rr), ai_ cy (rr 0) 12 (eMr_4 0), ai_ cy (rr 1) 12 (eMr_4 1), ai_ cy (rr 2) 12 (eMr_4 2), ai_ cy (rr 3) 12 (eMr_4 3), ai_ cy (rr 4) 12 (eMr_4 4), ai_ cy (rr 5) 12 (eMr_4 5), ai_ cy (rr 6) 12 (eMr_4 6), ai_ cy (rr 7) 12 (eMr_4 7), ai_ cy (rr 8) 12 (eMr_4 8), ai_ cy (rr 9) 12 (eMr_4 9), ai_ cy (rr 10) 12 (eMr_4 10), ai_ cy (rr 11) 12 (eMr_4 11), ai_ cy c4 40 e4_5, ai_ cy c5 40 f5, ai_ cy c6 40 f6, ai_ cy c7 12 e7_12, ai_ cy c8 12 e8_7] H → va_S A s.heap H locs → lv_has ls 6 [(5, .int x5_17), (4, .int r_11), (3, .int r_3), (2, .int y_2), (0, .ref xt), (1, .int a1)] → W p l e ({ frames := 4, cells := 0, slots := 0, locals := 88 } : Room) s m (([.ref xt, .int a1] : List Value).toArray) below meth c H locs 0 0 Q (F0 m 39 ls []) from LOOP_17 ((12 - y_16.toInt).toNat + 1) y_16 fx _ _ _ (by omega) (by first | with_reducible assumption | omega | assumption) (by first | with_reducible assumption | omega | assumption) (by first | with_reducible assumption | assumption | exact hng_st (by assumption) (by assumption) (by omega) (by omega) | exact hng_rf) (by first | exact hgE_0 (by omega) | exact hgE_yes v_none (by omega) (by omega) (by omega) (by omega) efx (b_tr hbw_ (by omega)) (by omega) | exact hgE_no v_none (by omega) (by omega) (by omega) (Or.inl (bt_fl hbw_ (by omega))) | exact hgE_no v_none (by omega) (by omega) (by omega) (Or.inr (by omega))) ⟨hP, hD⟩ hS (lv_sub hl [0, 1, 2, 3, 4, 5] rfl)
  intro n_17
  induction n_17 with
  | zero =>
    intro x5_17 c_ta_17 H locs ls hm v0_17 v1_17 v2_17 v3_17 hPD hS hl; obtain ⟨hP, hD⟩ := hPD
    exact absurd hm (by omega)
  | succ n_17 ih_17 =>
    intro x5_17 c_ta_17 H locs ls hm v0_17 v1_17 v2_17 v3_17 hPD hS hl; obtain ⟨hP, hD⟩ := hPD
    refine lv_iload hx hb dB_36_0_49.2.1.1.2 (lv_at hl 0 rfl) ?_
    refine lv_aload_n hx hb dB_36_0_49.2.1.2.1 rfl (lv_at hl 4 rfl) ?_
    refine va_get (ci := 1) (v := .ref xc) (C := RX1) (T := TX1) (N := 3) hx hb hts (fun _ h => List.mem_cons_of_mem _ (List.mem_append_left _ (List.mem_append_left _ (List.mem_append_right _ h)))) hown hK.1 hP 0 rfl rfl 0 (by decide) (hts (.fieldLink RX1 18 "CutAtlas$CutTree" "current" "LCutAtlas$Current;") (List.mem_of_getElem? (i := 2) rfl)) (fun _ h9 => h9) rfl dB_36_0_49.2.1.2.2 ?_
    refine va_get (ci := 0) (v := .ref xn) (C := RX0) (T := TX0) (N := 9) hx hb hts (fun _ h => List.mem_cons_of_mem _ (List.mem_append_left _ (List.mem_append_right _ h))) hown hK.1 hP 1 rfl rfl 0 (by decide) (hts (.fieldLink RX1 34 "CutAtlas$Current" "net" "LCutAtlas$Net;") (List.mem_of_getElem? (i := 4) rfl)) (fun _ h9 => h9) rfl dB_36_0_49.2.2.1.1 ?_
    refine va_get (ci := 3) (v := .int vp) (C := RX3) (T := TX3) (N := 7) hx hb hts (fun _ h => List.mem_cons_of_mem _ (List.mem_append_right _ h)) hown hK.1 hP 2 rfl rfl 0 (by decide) (hts (.fieldLink RX1 38 "CutAtlas$Net" "places" "I") (List.mem_of_getElem? (i := 5) rfl)) (fun _ h9 => h9) rfl dB_36_0_49.2.2.1.2 ?_
    refine lv_icmp_ge (tgt := 90) hx hb dB_36_0_49.2.2.2.1 (by decide) (fun c_18 => ?_) (fun c_18 => ?_)
    · have t_18 : vp.toInt ≤ x5_17.toInt := Int32.le_iff_toInt_le.mp c_18
      refine lv_iload_n hx hb dB_36_0_51.1.1.2.2 rfl (lv_at hl 3 rfl) ?_
      refine lv_if_eq (tgt := 147) hx hb dB_36_0_51.1.2.1.1 (by decide) (fun c_19 => ?_) (fun c_19 => ?_)
      · have t_19 : y_2.toInt = (0 : Int32).toInt := congrArg Int32.toInt c_19
        rw [hQ]
        exact W.vret hx hb hr (fun t ht hW => ⟨⟨(), rfl, trivial, eMr_4, c_ta_17, f_15, e4_5, e7_12, e8_7, (by first | exact hsw_ | exact trs_no htr v2_17 (by omega) (by omega)), (by first | exact gst_sw (k := x5_17) (by omega) (by omega) ey_2 (by omega) hmo_ hnp_ v3_17 (by omega) ef_15 (by omega) (by have h_ := b_tr hb2_ (by omega); rw [S[ex]] at h_; exact h_) S[v] S[e1] S[w] S[e2] S[e3] ef_15 | exact gst_no (k := x5_17) (by omega) (by omega) ey_2 (by omega) hmo_ hnp_ v3_17 (by omega) ef_15 (Or.inl (by omega)) | exact gst_no (k := x5_17) (by omega) (by omega) ey_2 (by omega) hmo_ hnp_ v3_17 (by omega) ef_15 (Or.inr (by have h_ := bt_fl hb2_ (by omega); rw [S[ex]] at h_; exact h_))), (by first | exact ⟨by rw [S[e3], pk_un (by omega), S[e1], pk_un (by omega)]; exact hng_lo v2_17 (by omega) (Nat.zero_le _), by rw [ef_15, pk_un (by omega), S[e2], pk_un (by omega), ef_15, pk_un (by omega)]⟩ | exact ⟨hng_lo v2_17 (by omega) (Nat.zero_le _), by rw [ef_15, pk_un (by omega)]⟩), (by first | with_reducible assumption | assumption | exact rng_zero (by omega) (by omega) | omega), (by first | with_reducible assumption | assumption | exact rng_zero (by omega) (by omega) | omega), by rw [ht]; exact hP, hD⟩, hS.F ht⟩) hS.2.2 dB_36_0_53.2.2.2.2
      · have t_19 : ¬ y_2.toInt = (0 : Int32).toInt := fun h => c_19 (Int32.toInt_inj.mp h)
        refine lv_iload hx hb dB_36_0_51.1.2.1.2 (lv_at hl 1 rfl) ?_
        refine lv_aload_n hx hb dB_36_0_51.1.2.2.1 rfl (lv_at hl 4 rfl) ?_
        refine va_get (ci := 1) (v := .ref ta) (C := RX1) (T := TX1) (N := 3) hx hb hts (fun _ h => List.mem_cons_of_mem _ (List.mem_append_left _ (List.mem_append_left _ (List.mem_append_right _ h)))) hown hK.1 hP 0 rfl rfl 1 (by decide) (hts (.fieldLink RX1 9 "CutAtlas$CutTree" "nexts" "[I") (List.mem_of_getElem? (i := 1) rfl)) (fun _ h9 => h9) rfl dB_36_0_51.1.2.2.2 ?_
        refine lv_iload_n hx hb dB_36_0_51.2.1.1.1 rfl (lv_at hl 3 rfl) ?_
        have h_20 : vp_in y_2 12 := in_I (by first | with_reducible assumption | omega) (by omega)
        refine va_iald hx hb hK.1 hP 3 0 rfl rfl (i := y_2) h_20 dB_36_0_51.2.1.1.2 ?_
        refine lv_topi (fun y_21 ey_21 => ?_)
        have ky_21 : y_21.toInt = (c_ta_17 y_2.toNatClampNeg).toInt := by rw [ey_21]
        have hxe_ : y_21 = fx y_2.toNatClampNeg := ey_21.trans (hng_lo v2_17 (by omega) (nc_le (by omega) (by omega)))
        have hxr_ := htr.1 y_2.toNatClampNeg (by omega) (by omega)
        rw [← hxe_] at hxr_
        refine lv_ishr hx hb dB_36_0_51.2.1.2.1 ?_
        refine lv_topi (fun y_22 ey_22 => ?_)
        refine lv_iconst (v := 1) hx hb dB_36_0_51.2.1.2.2 (by decide) ?_
        refine lv_iand hx hb dB_36_0_51.2.2.1.1 ?_
        refine lv_topi (fun y_23 ey_23 => ?_)
        have hb2_ := bI_w (x := r_11) (y := y_21) (by omega) (by omega) ey_22 ey_23
        refine lv_iconst (v := 1) hx hb dB_36_0_51.2.2.1.2 (by decide) ?_
        refine lv_icmp_ne (tgt := 147) hx hb dB_36_0_51.2.2.2.1 (by decide) (fun c_24 => ?_) (fun c_24 => ?_)
        · have t_24 : ¬ y_23.toInt = (1 : Int32).toInt := fun h => c_24 (Int32.toInt_inj.mp h)
          rw [hQ]
          exact W.vret hx hb hr (fun t ht hW => ⟨⟨(), rfl, trivial, eMr_4, c_ta_17, f_15, e4_5, e7_12, e8_7, (by first | exact hsw_ | exact trs_no htr v2_17 (by omega) (by omega)), (by first | exact gst_sw (k := x5_17) (by omega) (by omega) ey_2 (by omega) hmo_ hnp_ v3_17 (by omega) ef_15 (by omega) (by have h_ := b_tr hb2_ (by omega); rw [ey_21] at h_; exact h_) S[v] S[e1] S[w] S[e2] S[e3] ef_15 | exact gst_no (k := x5_17) (by omega) (by omega) ey_2 (by omega) hmo_ hnp_ v3_17 (by omega) ef_15 (Or.inl (by omega)) | exact gst_no (k := x5_17) (by omega) (by omega) ey_2 (by omega) hmo_ hnp_ v3_17 (by omega) ef_15 (Or.inr (by have h_ := bt_fl hb2_ (by omega); rw [ey_21] at h_; exact h_))), (by first | exact ⟨by rw [S[e3], pk_un (by omega), S[e1], pk_un (by omega)]; exact hng_lo v2_17 (by omega) (Nat.zero_le _), by rw [ef_15, pk_un (by omega), S[e2], pk_un (by omega), ef_15, pk_un (by omega)]⟩ | exact ⟨hng_lo v2_17 (by omega) (Nat.zero_le _), by rw [ef_15, pk_un (by omega)]⟩), (by first | with_reducible assumption | assumption | exact rng_zero (by omega) (by omega) | omega), (by first | with_reducible assumption | assumption | exact rng_zero (by omega) (by omega) | omega), by rw [ht]; exact hP, hD⟩, hS.F ht⟩) hS.2.2 dB_36_0_53.2.2.2.2
        · have t_24 : y_23.toInt = (1 : Int32).toInt := congrArg Int32.toInt c_24
          refine lv_aload_n hx hb dB_36_0_51.2.2.2.2 rfl (lv_at hl 4 rfl) ?_
          refine va_get (ci := 1) (v := .ref ta) (C := RX1) (T := TX1) (N := 3) hx hb hts (fun _ h => List.mem_cons_of_mem _ (List.mem_append_left _ (List.mem_append_left _ (List.mem_append_right _ h)))) hown hK.1 hP 0 rfl rfl 1 (by decide) (hts (.fieldLink RX1 9 "CutAtlas$CutTree" "nexts" "[I") (List.mem_of_getElem? (i := 1) rfl)) (fun _ h9 => h9) rfl dB_36_0_52.1.1.1.1 ?_
          refine lv_iload_n hx hb dB_36_0_52.1.1.1.2 rfl (lv_at hl 5 rfl) ?_
          refine lv_aload_n hx hb dB_36_0_52.1.1.2.1 rfl (lv_at hl 4 rfl) ?_
          refine va_get (ci := 1) (v := .ref ta) (C := RX1) (T := TX1) (N := 3) hx hb hts (fun _ h => List.mem_cons_of_mem _ (List.mem_append_left _ (List.mem_append_left _ (List.mem_append_right _ h)))) hown hK.1 hP 0 rfl rfl 1 (by decide) (hts (.fieldLink RX1 9 "CutAtlas$CutTree" "nexts" "[I") (List.mem_of_getElem? (i := 1) rfl)) (fun _ h9 => h9) rfl dB_36_0_52.1.1.2.2 ?_
          refine lv_iload_n hx hb dB_36_0_52.1.2.1.1 rfl (lv_at hl 3 rfl) ?_
          refine va_iald hx hb hK.1 hP 3 0 rfl rfl (i := y_2) h_20 dB_36_0_52.1.2.1.2 ?_
          refine lv_topi (fun y_26 ey_26 => ?_)
          have e_ := (ey_26.trans ey_21.symm).symm
          subst e_
          skip
          refine va_iast hx hb hK.1 hP hD hS 3 0 rfl rfl (i := a1) h_1 dB_36_0_52.1.2.2.1 (fun H locs hP hD hS => ?_)
          obtain ⟨f_28, ef_28⟩ : ∃ g : Nat → Int32, g = upd c_ta_17 a1.toNatClampNeg y_21 := ⟨_, rfl⟩
          refine pd_K (D := D) (cl := vwCl) (H := H) (A := A) [ob1_0_ xt xc ta tb, ob0_0_ xc xn xk clo cro c4 c5 c6 c7 c8, ob3_0_ xn vp vn n1 n2 n3 n4 n5, ai_ cy ta 12 f_28, ai_ cy tb 12 f_15, ai_ cy n2 40 fs, ai_ cy n3 40 fe, aq_ cy 6 clo 12 (gf_ rl), ai_ cy (rl 0) 12 (Ml 0), ai_ cy (rl 1) 12 (Ml 1), ai_ cy (rl 2) 12 (Ml 2), ai_ cy (rl 3) 12 (Ml 3), ai_ cy (rl 4) 12 (Ml 4), ai_ cy (rl 5) 12 (Ml 5), ai_ cy (rl 6) 12 (Ml 6), ai_ cy (rl 7) 12 (Ml 7), ai_ cy (rl 8) 12 (Ml 8), ai_ cy (rl 9) 12 (Ml 9), ai_ cy (rl 10) 12 (Ml 10), ai_ cy (rl 11) 12 (Ml 11), aq_ cy 6 cro 12 (gf_ rr), ai_ cy (rr 0) 12 (eMr_4 0), ai_ cy (rr 1) 12 (eMr_4 1), ai_ cy (rr 2) 12 (eMr_4 2), ai_ cy (rr 3) 12 (eMr_4 3), ai_ cy (rr 4) 12 (eMr_4 4), ai_ cy (rr 5) 12 (eMr_4 5), ai_ cy (rr 6) 12 (eMr_4 6), ai_ cy (rr 7) 12 (eMr_4 7), ai_ cy (rr 8) 12 (eMr_4 8), ai_ cy (rr 9) 12 (eMr_4 9), ai_ cy (rr 10) 12 (eMr_4 10), ai_ cy (rr 11) 12 (eMr_4 11), ai_ cy c4 40 e4_5, ai_ cy c5 40 f5, ai_ cy c6 40 f6, ai_ cy c7 12 e7_12, ai_ cy c8 12 e8_7] (by rw [ef_28]; exact hP) (by rw [ef_28]; exact hD) (fun hP hD => ?_)
          refine lv_aload_n hx hb dB_36_0_52.1.2.2.2 rfl (lv_at hl 4 rfl) ?_
          refine va_get (ci := 1) (v := .ref tb) (C := RX1) (T := TX1) (N := 3) hx hb hts (fun _ h => List.mem_cons_of_mem _ (List.mem_append_left _ (List.mem_append_left _ (List.mem_append_right _ h)))) hown hK.1 hP 0 rfl rfl 2 (by decide) (hts (.fieldLink RX1 15 "CutAtlas$CutTree" "numbers" "[I") (List.mem_of_getElem? (i := 3) rfl)) (fun _ h9 => h9) rfl dB_36_0_52.2.1.1.1 ?_
          refine lv_iload_n hx hb dB_36_0_52.2.1.1.2 rfl (lv_at hl 5 rfl) ?_
          refine lv_aload_n hx hb dB_36_0_52.2.1.2.1 rfl (lv_at hl 4 rfl) ?_
          refine va_get (ci := 1) (v := .ref tb) (C := RX1) (T := TX1) (N := 3) hx hb hts (fun _ h => List.mem_cons_of_mem _ (List.mem_append_left _ (List.mem_append_left _ (List.mem_append_right _ h)))) hown hK.1 hP 0 rfl rfl 2 (by decide) (hts (.fieldLink RX1 15 "CutAtlas$CutTree" "numbers" "[I") (List.mem_of_getElem? (i := 3) rfl)) (fun _ h9 => h9) rfl dB_36_0_52.2.1.2.2 ?_
          refine lv_iload_n hx hb dB_36_0_52.2.2.1.1 rfl (lv_at hl 3 rfl) ?_
          refine va_iald hx hb hK.1 hP 4 0 rfl rfl (i := y_2) h_20 dB_36_0_52.2.2.1.2 ?_
          refine lv_topi (fun y_30 ey_30 => ?_)
          have ky_30 : y_30.toInt = (f_15 y_2.toNatClampNeg).toInt := by rw [ey_30]
          refine va_iast hx hb hK.1 hP hD hS 4 0 rfl rfl (i := a1) h_1 dB_36_0_52.2.2.2.1 (fun H locs hP hD hS => ?_)
          obtain ⟨f_32, ef_32⟩ : ∃ g : Nat → Int32, g = upd f_15 a1.toNatClampNeg y_30 := ⟨_, rfl⟩
          refine pd_K (D := D) (cl := vwCl) (H := H) (A := A) [ob1_0_ xt xc ta tb, ob0_0_ xc xn xk clo cro c4 c5 c6 c7 c8, ob3_0_ xn vp vn n1 n2 n3 n4 n5, ai_ cy ta 12 f_28, ai_ cy tb 12 f_32, ai_ cy n2 40 fs, ai_ cy n3 40 fe, aq_ cy 6 clo 12 (gf_ rl), ai_ cy (rl 0) 12 (Ml 0), ai_ cy (rl 1) 12 (Ml 1), ai_ cy (rl 2) 12 (Ml 2), ai_ cy (rl 3) 12 (Ml 3), ai_ cy (rl 4) 12 (Ml 4), ai_ cy (rl 5) 12 (Ml 5), ai_ cy (rl 6) 12 (Ml 6), ai_ cy (rl 7) 12 (Ml 7), ai_ cy (rl 8) 12 (Ml 8), ai_ cy (rl 9) 12 (Ml 9), ai_ cy (rl 10) 12 (Ml 10), ai_ cy (rl 11) 12 (Ml 11), aq_ cy 6 cro 12 (gf_ rr), ai_ cy (rr 0) 12 (eMr_4 0), ai_ cy (rr 1) 12 (eMr_4 1), ai_ cy (rr 2) 12 (eMr_4 2), ai_ cy (rr 3) 12 (eMr_4 3), ai_ cy (rr 4) 12 (eMr_4 4), ai_ cy (rr 5) 12 (eMr_4 5), ai_ cy (rr 6) 12 (eMr_4 6), ai_ cy (rr 7) 12 (eMr_4 7), ai_ cy (rr 8) 12 (eMr_4 8), ai_ cy (rr 9) 12 (eMr_4 9), ai_ cy (rr 10) 12 (eMr_4 10), ai_ cy (rr 11) 12 (eMr_4 11), ai_ cy c4 40 e4_5, ai_ cy c5 40 f5, ai_ cy c6 40 f6, ai_ cy c7 12 e7_12, ai_ cy c8 12 e8_7] (by rw [ef_32]; exact hP) (by rw [ef_32]; exact hD) (fun hP hD => ?_)
          refine lv_aload_n hx hb dB_36_0_52.2.2.2.2 rfl (lv_at hl 4 rfl) ?_
          refine va_get (ci := 1) (v := .ref ta) (C := RX1) (T := TX1) (N := 3) hx hb hts (fun _ h => List.mem_cons_of_mem _ (List.mem_append_left _ (List.mem_append_left _ (List.mem_append_right _ h)))) hown hK.1 hP 0 rfl rfl 1 (by decide) (hts (.fieldLink RX1 9 "CutAtlas$CutTree" "nexts" "[I") (List.mem_of_getElem? (i := 1) rfl)) (fun _ h9 => h9) rfl dB_36_0_53.1.1.1 ?_
          refine lv_iload_n hx hb dB_36_0_53.1.1.2 rfl (lv_at hl 3 rfl) ?_
          refine lv_iload_n hx hb dB_36_0_53.1.2.1 rfl (lv_at hl 5 rfl) ?_
          refine va_iast hx hb hK.1 hP hD hS 3 0 rfl rfl (i := y_2) h_20 dB_36_0_53.1.2.2.1 (fun H locs hP hD hS => ?_)
          obtain ⟨f_34, ef_34⟩ : ∃ g : Nat → Int32, g = upd f_28 y_2.toNatClampNeg a1 := ⟨_, rfl⟩
          refine pd_K (D := D) (cl := vwCl) (H := H) (A := A) [ob1_0_ xt xc ta tb, ob0_0_ xc xn xk clo cro c4 c5 c6 c7 c8, ob3_0_ xn vp vn n1 n2 n3 n4 n5, ai_ cy ta 12 f_34, ai_ cy tb 12 f_32, ai_ cy n2 40 fs, ai_ cy n3 40 fe, aq_ cy 6 clo 12 (gf_ rl), ai_ cy (rl 0) 12 (Ml 0), ai_ cy (rl 1) 12 (Ml 1), ai_ cy (rl 2) 12 (Ml 2), ai_ cy (rl 3) 12 (Ml 3), ai_ cy (rl 4) 12 (Ml 4), ai_ cy (rl 5) 12 (Ml 5), ai_ cy (rl 6) 12 (Ml 6), ai_ cy (rl 7) 12 (Ml 7), ai_ cy (rl 8) 12 (Ml 8), ai_ cy (rl 9) 12 (Ml 9), ai_ cy (rl 10) 12 (Ml 10), ai_ cy (rl 11) 12 (Ml 11), aq_ cy 6 cro 12 (gf_ rr), ai_ cy (rr 0) 12 (eMr_4 0), ai_ cy (rr 1) 12 (eMr_4 1), ai_ cy (rr 2) 12 (eMr_4 2), ai_ cy (rr 3) 12 (eMr_4 3), ai_ cy (rr 4) 12 (eMr_4 4), ai_ cy (rr 5) 12 (eMr_4 5), ai_ cy (rr 6) 12 (eMr_4 6), ai_ cy (rr 7) 12 (eMr_4 7), ai_ cy (rr 8) 12 (eMr_4 8), ai_ cy (rr 9) 12 (eMr_4 9), ai_ cy (rr 10) 12 (eMr_4 10), ai_ cy (rr 11) 12 (eMr_4 11), ai_ cy c4 40 e4_5, ai_ cy c5 40 f5, ai_ cy c6 40 f6, ai_ cy c7 12 e7_12, ai_ cy c8 12 e8_7] (by rw [ef_34]; exact hP) (by rw [ef_34]; exact hD) (fun hP hD => ?_)
          have hsw_ : trs f_34 (a1.toNatClampNeg + 1) := trs_swap htr v2_17 (by omega) (by omega) (by omega) (by omega) ey_21 ef_28 ef_34
          refine lv_aload_n hx hb dB_36_0_53.1.2.2.2 rfl (lv_at hl 4 rfl) ?_
          refine va_get (ci := 1) (v := .ref tb) (C := RX1) (T := TX1) (N := 3) hx hb hts (fun _ h => List.mem_cons_of_mem _ (List.mem_append_left _ (List.mem_append_left _ (List.mem_append_right _ h)))) hown hK.1 hP 0 rfl rfl 2 (by decide) (hts (.fieldLink RX1 15 "CutAtlas$CutTree" "numbers" "[I") (List.mem_of_getElem? (i := 3) rfl)) (fun _ h9 => h9) rfl dB_36_0_53.2.1.1 ?_
          refine lv_iload_n hx hb dB_36_0_53.2.1.2 rfl (lv_at hl 3 rfl) ?_
          refine lv_iload_n hx hb dB_36_0_53.2.2.1 rfl (lv_at hl 2 rfl) ?_
          refine va_iast hx hb hK.1 hP hD hS 4 0 rfl rfl (i := y_2) h_20 dB_36_0_53.2.2.2.1 (fun H locs hP hD hS => ?_)
          obtain ⟨f_36, ef_36⟩ : ∃ g : Nat → Int32, g = upd f_32 y_2.toNatClampNeg r_3 := ⟨_, rfl⟩
          refine pd_K (D := D) (cl := vwCl) (H := H) (A := A) [ob1_0_ xt xc ta tb, ob0_0_ xc xn xk clo cro c4 c5 c6 c7 c8, ob3_0_ xn vp vn n1 n2 n3 n4 n5, ai_ cy ta 12 f_34, ai_ cy tb 12 f_36, ai_ cy n2 40 fs, ai_ cy n3 40 fe, aq_ cy 6 clo 12 (gf_ rl), ai_ cy (rl 0) 12 (Ml 0), ai_ cy (rl 1) 12 (Ml 1), ai_ cy (rl 2) 12 (Ml 2), ai_ cy (rl 3) 12 (Ml 3), ai_ cy (rl 4) 12 (Ml 4), ai_ cy (rl 5) 12 (Ml 5), ai_ cy (rl 6) 12 (Ml 6), ai_ cy (rl 7) 12 (Ml 7), ai_ cy (rl 8) 12 (Ml 8), ai_ cy (rl 9) 12 (Ml 9), ai_ cy (rl 10) 12 (Ml 10), ai_ cy (rl 11) 12 (Ml 11), aq_ cy 6 cro 12 (gf_ rr), ai_ cy (rr 0) 12 (eMr_4 0), ai_ cy (rr 1) 12 (eMr_4 1), ai_ cy (rr 2) 12 (eMr_4 2), ai_ cy (rr 3) 12 (eMr_4 3), ai_ cy (rr 4) 12 (eMr_4 4), ai_ cy (rr 5) 12 (eMr_4 5), ai_ cy (rr 6) 12 (eMr_4 6), ai_ cy (rr 7) 12 (eMr_4 7), ai_ cy (rr 8) 12 (eMr_4 8), ai_ cy (rr 9) 12 (eMr_4 9), ai_ cy (rr 10) 12 (eMr_4 10), ai_ cy (rr 11) 12 (eMr_4 11), ai_ cy c4 40 e4_5, ai_ cy c5 40 f5, ai_ cy c6 40 f6, ai_ cy c7 12 e7_12, ai_ cy c8 12 e8_7] (by rw [ef_36]; exact hP) (by rw [ef_36]; exact hD) (fun hP hD => ?_)
          rw [hQ]
          exact W.vret hx hb hr (fun t ht hW => ⟨⟨(), rfl, trivial, eMr_4, f_34, f_36, e4_5, e7_12, e8_7, (by first | exact hsw_ | exact trs_no htr v2_17 (by omega) (by omega)), (by first | exact gst_sw (k := x5_17) (by omega) (by omega) ey_2 (by omega) hmo_ hnp_ v3_17 (by omega) ef_15 (by omega) (by have h_ := b_tr hb2_ (by omega); rw [ey_21] at h_; exact h_) ey_21 ef_28 ey_30 ef_32 ef_34 ef_36 | exact gst_no (k := x5_17) (by omega) (by omega) ey_2 (by omega) hmo_ hnp_ v3_17 (by omega) ef_15 (Or.inl (by omega)) | exact gst_no (k := x5_17) (by omega) (by omega) ey_2 (by omega) hmo_ hnp_ v3_17 (by omega) ef_15 (Or.inr (by have h_ := bt_fl hb2_ (by omega); rw [ey_21] at h_; exact h_))), (by first | exact ⟨by rw [ef_34, pk_un (by omega), ef_28, pk_un (by omega)]; exact hng_lo v2_17 (by omega) (Nat.zero_le _), by rw [ef_36, pk_un (by omega), ef_32, pk_un (by omega), ef_15, pk_un (by omega)]⟩ | exact ⟨hng_lo v2_17 (by omega) (Nat.zero_le _), by rw [ef_15, pk_un (by omega)]⟩), (by first | with_reducible assumption | assumption | exact rng_zero (by omega) (by omega) | omega), (by first | with_reducible assumption | assumption | exact rng_zero (by omega) (by omega) | omega), by rw [ht]; exact hP, hD⟩, hS.F ht⟩) hS.2.2 dB_36_0_53.2.2.2.2
    · have t_18 : ¬ vp.toInt ≤ x5_17.toInt := fun h => c_18 (Int32.le_iff_toInt_le.mpr h)
      refine lv_iload hx hb dB_36_0_49.2.2.2.2 (lv_at hl 1 rfl) ?_
      refine lv_iload hx hb dB_36_0_50.1.1.1.1 (lv_at hl 0 rfl) ?_
      refine lv_ishr hx hb dB_36_0_50.1.1.1.2 ?_
      refine lv_topi (fun y_37 ey_37 => ?_)
      refine lv_iconst (v := 1) hx hb dB_36_0_50.1.1.2.1 (by decide) ?_
      refine lv_iand hx hb dB_36_0_50.1.1.2.2 ?_
      refine lv_topi (fun y_38 ey_38 => ?_)
      have hbw_ := bI_w (x := r_11) (y := x5_17) (by omega) (by omega) ey_37 ey_38
      refine lv_iconst (v := 1) hx hb dB_36_0_50.1.2.1.1 (by decide) ?_
      refine lv_icmp_ne (tgt := 84) hx hb dB_36_0_50.1.2.1.2 (by decide) (fun c_39 => ?_) (fun c_39 => ?_)
      · have t_39 : ¬ y_38.toInt = (1 : Int32).toInt := fun h => c_39 (Int32.toInt_inj.mp h)
        obtain ⟨y_40, ey_40⟩ : ∃ y : Int32, y = x5_17 + 1 := ⟨_, rfl⟩
        have ty_40 : y_40.toInt = x5_17.toInt + (1 : Int32).toInt := by rw [ey_40]; exact addI (by omega) (by omega)
        refine lv_iinc (v := y_40) (lv' := [(5, .int y_40), (4, .int r_11), (3, .int r_3), (2, .int y_2), (0, .ref xt), (1, .int a1)]) hx hb dB_36_0_51.1.1.1.2 hl (k := 0) rfl (by rw [ey_40]; rfl) (by decide) rfl (fun ls hl => ?_)
        refine lv_goto (tgt := 39) hx hb dB_36_0_51.1.1.2.1 (by decide) ?_
        exact ih_17 y_40 c_ta_17 _ _ _ (by omega) (by first | with_reducible assumption | omega | assumption) (by first | with_reducible assumption | omega | assumption) (by first | with_reducible assumption | assumption | exact hng_st (by assumption) (by assumption) (by omega) (by omega) | exact hng_rf) (by first | exact hgE_0 (by omega) | exact hgE_yes v3_17 (by omega) (by omega) (by omega) (by omega) ec_ta_17 (b_tr hbw_ (by omega)) (by omega) | exact hgE_no v3_17 (by omega) (by omega) (by omega) (Or.inl (bt_fl hbw_ (by omega))) | exact hgE_no v3_17 (by omega) (by omega) (by omega) (Or.inr (by omega))) ⟨hP, hD⟩ hS (lv_sub hl [0, 1, 2, 3, 4, 5] rfl)
      · have t_39 : y_38.toInt = (1 : Int32).toInt := congrArg Int32.toInt c_39
        refine lv_aload_n hx hb dB_36_0_50.1.2.2.1 rfl (lv_at hl 4 rfl) ?_
        refine va_get (ci := 1) (v := .ref ta) (C := RX1) (T := TX1) (N := 3) hx hb hts (fun _ h => List.mem_cons_of_mem _ (List.mem_append_left _ (List.mem_append_left _ (List.mem_append_right _ h)))) hown hK.1 hP 0 rfl rfl 1 (by decide) (hts (.fieldLink RX1 9 "CutAtlas$CutTree" "nexts" "[I") (List.mem_of_getElem? (i := 1) rfl)) (fun _ h9 => h9) rfl dB_36_0_50.1.2.2.2 ?_
        refine lv_iload hx hb dB_36_0_50.2.1.1.1 (lv_at hl 0 rfl) ?_
        have h_41 : vp_in x5_17 12 := in_I (by first | with_reducible assumption | omega) (by omega)
        refine va_iald hx hb hK.1 hP 3 0 rfl rfl (i := x5_17) h_41 dB_36_0_50.2.1.1.2 ?_
        refine lv_topi (fun y_42 ey_42 => ?_)
        have ky_42 : y_42.toInt = (c_ta_17 x5_17.toNatClampNeg).toInt := by rw [ey_42]
        refine lv_iload_n hx hb dB_36_0_50.2.1.2.1 rfl (lv_at hl 3 rfl) ?_
        refine lv_icmp_ne (tgt := 84) hx hb dB_36_0_50.2.1.2.2 (by decide) (fun c_43 => ?_) (fun c_43 => ?_)
        · have t_43 : ¬ y_42.toInt = y_2.toInt := fun h => c_43 (Int32.toInt_inj.mp h)
          obtain ⟨y_44, ey_44⟩ : ∃ y : Int32, y = x5_17 + 1 := ⟨_, rfl⟩
          have ty_44 : y_44.toInt = x5_17.toInt + (1 : Int32).toInt := by rw [ey_44]; exact addI (by omega) (by omega)
          refine lv_iinc (v := y_44) (lv' := [(5, .int y_44), (4, .int r_11), (3, .int r_3), (2, .int y_2), (0, .ref xt), (1, .int a1)]) hx hb dB_36_0_51.1.1.1.2 hl (k := 0) rfl (by rw [ey_44]; rfl) (by decide) rfl (fun ls hl => ?_)
          refine lv_goto (tgt := 39) hx hb dB_36_0_51.1.1.2.1 (by decide) ?_
          exact ih_17 y_44 c_ta_17 _ _ _ (by omega) (by first | with_reducible assumption | omega | assumption) (by first | with_reducible assumption | omega | assumption) (by first | with_reducible assumption | assumption | exact hng_st (by assumption) (by assumption) (by omega) (by omega) | exact hng_rf) (by first | exact hgE_0 (by omega) | exact hgE_yes v3_17 (by omega) (by omega) (by omega) (by omega) ec_ta_17 (b_tr hbw_ (by omega)) (by omega) | exact hgE_no v3_17 (by omega) (by omega) (by omega) (Or.inl (bt_fl hbw_ (by omega))) | exact hgE_no v3_17 (by omega) (by omega) (by omega) (Or.inr (by omega))) ⟨hP, hD⟩ hS (lv_sub hl [0, 1, 2, 3, 4, 5] rfl)
        · have t_43 : y_42.toInt = y_2.toInt := congrArg Int32.toInt c_43
          refine lv_aload_n hx hb dB_36_0_50.2.2.1.1 rfl (lv_at hl 4 rfl) ?_
          refine va_get (ci := 1) (v := .ref ta) (C := RX1) (T := TX1) (N := 3) hx hb hts (fun _ h => List.mem_cons_of_mem _ (List.mem_append_left _ (List.mem_append_left _ (List.mem_append_right _ h)))) hown hK.1 hP 0 rfl rfl 1 (by decide) (hts (.fieldLink RX1 9 "CutAtlas$CutTree" "nexts" "[I") (List.mem_of_getElem? (i := 1) rfl)) (fun _ h9 => h9) rfl dB_36_0_50.2.2.1.2 ?_
          refine lv_iload hx hb dB_36_0_50.2.2.2.1 (lv_at hl 0 rfl) ?_
          refine lv_iload_n hx hb dB_36_0_50.2.2.2.2 rfl (lv_at hl 5 rfl) ?_
          refine va_iast hx hb hK.1 hP hD hS 3 0 rfl rfl (i := x5_17) h_41 dB_36_0_51.1.1.1.1 (fun H locs hP hD hS => ?_)
          obtain ⟨f_46, ef_46⟩ : ∃ g : Nat → Int32, g = upd c_ta_17 x5_17.toNatClampNeg a1 := ⟨_, rfl⟩
          refine pd_K (D := D) (cl := vwCl) (H := H) (A := A) [ob1_0_ xt xc ta tb, ob0_0_ xc xn xk clo cro c4 c5 c6 c7 c8, ob3_0_ xn vp vn n1 n2 n3 n4 n5, ai_ cy ta 12 f_46, ai_ cy tb 12 f_15, ai_ cy n2 40 fs, ai_ cy n3 40 fe, aq_ cy 6 clo 12 (gf_ rl), ai_ cy (rl 0) 12 (Ml 0), ai_ cy (rl 1) 12 (Ml 1), ai_ cy (rl 2) 12 (Ml 2), ai_ cy (rl 3) 12 (Ml 3), ai_ cy (rl 4) 12 (Ml 4), ai_ cy (rl 5) 12 (Ml 5), ai_ cy (rl 6) 12 (Ml 6), ai_ cy (rl 7) 12 (Ml 7), ai_ cy (rl 8) 12 (Ml 8), ai_ cy (rl 9) 12 (Ml 9), ai_ cy (rl 10) 12 (Ml 10), ai_ cy (rl 11) 12 (Ml 11), aq_ cy 6 cro 12 (gf_ rr), ai_ cy (rr 0) 12 (eMr_4 0), ai_ cy (rr 1) 12 (eMr_4 1), ai_ cy (rr 2) 12 (eMr_4 2), ai_ cy (rr 3) 12 (eMr_4 3), ai_ cy (rr 4) 12 (eMr_4 4), ai_ cy (rr 5) 12 (eMr_4 5), ai_ cy (rr 6) 12 (eMr_4 6), ai_ cy (rr 7) 12 (eMr_4 7), ai_ cy (rr 8) 12 (eMr_4 8), ai_ cy (rr 9) 12 (eMr_4 9), ai_ cy (rr 10) 12 (eMr_4 10), ai_ cy (rr 11) 12 (eMr_4 11), ai_ cy c4 40 e4_5, ai_ cy c5 40 f5, ai_ cy c6 40 f6, ai_ cy c7 12 e7_12, ai_ cy c8 12 e8_7] (by rw [ef_46]; exact hP) (by rw [ef_46]; exact hD) (fun hP hD => ?_)
          obtain ⟨y_47, ey_47⟩ : ∃ y : Int32, y = x5_17 + 1 := ⟨_, rfl⟩
          have ty_47 : y_47.toInt = x5_17.toInt + (1 : Int32).toInt := by rw [ey_47]; exact addI (by omega) (by omega)
          refine lv_iinc (v := y_47) (lv' := [(5, .int y_47), (4, .int r_11), (3, .int r_3), (2, .int y_2), (0, .ref xt), (1, .int a1)]) hx hb dB_36_0_51.1.1.1.2 hl (k := 0) rfl (by rw [ey_47]; rfl) (by decide) rfl (fun ls hl => ?_)
          refine lv_goto (tgt := 39) hx hb dB_36_0_51.1.1.2.1 (by decide) ?_
          exact ih_17 y_47 f_46 _ _ _ (by omega) (by first | with_reducible assumption | omega | assumption) (by first | with_reducible assumption | omega | assumption) (by first | with_reducible assumption | assumption | exact hng_st (by assumption) (by assumption) (by omega) (by omega) | exact hng_rf) (by first | exact hgE_0 (by omega) | exact hgE_yes v3_17 (by omega) (by omega) (by omega) (by omega) ef_46 (b_tr hbw_ (by omega)) (by omega) | exact hgE_no v3_17 (by omega) (by omega) (by omega) (Or.inl (bt_fl hbw_ (by omega))) | exact hgE_no v3_17 (by omega) (by omega) (by omega) (Or.inr (by omega))) ⟨hP, hD⟩ hS (lv_sub hl [0, 1, 2, 3, 4, 5] rfl)

set_option maxHeartbeats 4000000 in
set_option maxRecDepth 100000 in
theorem c_X1_grow2 (l : Launch) (D : va_G) (cy : Nat → ClassId) (sz : Nat) (xt : Nat) (ta : Nat) (tb : Nat) (xc : Nat) (xk : Nat) (clo : Nat) (cro : Nat) (c4 : Nat) (c5 : Nat) (c6 : Nat) (c7 : Nat) (c8 : Nat) (xn : Nat) (n1 : Nat) (n2 : Nat) (n3 : Nat) (n4 : Nat) (n5 : Nat) (vp : Int32) (vn : Int32) (fx : Nat → Int32) (fu : Nat → Int32) (fk : Nat → Int32) (fs : Nat → Int32) (fe : Nat → Int32) (fw : Nat → Int32) (rl : Nat → Nat) (Ml : Nat → Nat → Int32) (rr : Nat → Nat) (Mr : Nat → Nat → Int32) (f4 : Nat → Int32) (f5 : Nat → Int32) (f6 : Nat → Int32) (f7 : Nat → Int32) (f8 : Nat → Int32) (k0 : Nat) (k1 : Nat) (k2 : Nat) (k3 : Nat) (k4 : Nat) (hvp : 0 ≤ vp.toInt ∧ vp.toInt ≤ 12) (hvn : 0 ≤ vn.toInt ∧ vn.toInt ≤ 40) (hnc : netC vp.toInt vn.toInt fs fe) (hwh : sumI (bkF fk fs) vn.toNatClampNeg = 0) (hpr : prng fs fe 40) (r_f7 : rng f7 12 (0) (11)) (r_f8 : rng f8 12 (0) (11)) (r_fk : rng fk 40 (0) (4)) (r_fw : rng fw 40 (0) (2000)) : Met l yX1_grow wsX1_grow ({ frames := 5, cells := 0, slots := 0, locals := 113 }) (va_Pc [.ref xt] (fun U => U.heap.size = sz ∧ va_P D vwCl [ob1_0_ xt xc ta tb, ob0_0_ xc xn xk clo cro c4 c5 c6 c7 c8, ob3_0_ xn vp vn n1 n2 n3 n4 n5, ai_ cy ta 12 fx, ai_ cy tb 12 fu, ai_ cy n1 40 fk, ai_ cy n2 40 fs, ai_ cy n3 40 fe, ai_ cy n4 40 fw, aq_ cy 6 clo 12 (gf_ rl), ai_ cy (rl 0) 12 (Ml 0), ai_ cy (rl 1) 12 (Ml 1), ai_ cy (rl 2) 12 (Ml 2), ai_ cy (rl 3) 12 (Ml 3), ai_ cy (rl 4) 12 (Ml 4), ai_ cy (rl 5) 12 (Ml 5), ai_ cy (rl 6) 12 (Ml 6), ai_ cy (rl 7) 12 (Ml 7), ai_ cy (rl 8) 12 (Ml 8), ai_ cy (rl 9) 12 (Ml 9), ai_ cy (rl 10) 12 (Ml 10), ai_ cy (rl 11) 12 (Ml 11), aq_ cy 6 cro 12 (gf_ rr), ai_ cy (rr 0) 12 (Mr 0), ai_ cy (rr 1) 12 (Mr 1), ai_ cy (rr 2) 12 (Mr 2), ai_ cy (rr 3) 12 (Mr 3), ai_ cy (rr 4) 12 (Mr 4), ai_ cy (rr 5) 12 (Mr 5), ai_ cy (rr 6) 12 (Mr 6), ai_ cy (rr 7) 12 (Mr 7), ai_ cy (rr 8) 12 (Mr 8), ai_ cy (rr 9) 12 (Mr 9), ai_ cy (rr 10) 12 (Mr 10), ai_ cy (rr 11) 12 (Mr 11), ai_ cy c4 40 f4, ai_ cy c5 40 f5, ai_ cy c6 40 f6, ai_ cy c7 12 f7, ai_ cy c8 12 f8, aq_ cy 3 xk 5 (kf_ k0 k1 k2 k3 k4), ob6_0_ k0, ob5_0_ k1, ob9_0_ k2, ob2_0_ k3, ob8_0_ k4] U.heap ∧ kg_ D cy U ∧ va_D (fun _ => True) [ob1_0_ xt xc ta tb, ob0_0_ xc xn xk clo cro c4 c5 c6 c7 c8, ob3_0_ xn vp vn n1 n2 n3 n4 n5, ai_ cy ta 12 fx, ai_ cy tb 12 fu, ai_ cy n1 40 fk, ai_ cy n2 40 fs, ai_ cy n3 40 fe, ai_ cy n4 40 fw, aq_ cy 6 clo 12 (gf_ rl), ai_ cy (rl 0) 12 (Ml 0), ai_ cy (rl 1) 12 (Ml 1), ai_ cy (rl 2) 12 (Ml 2), ai_ cy (rl 3) 12 (Ml 3), ai_ cy (rl 4) 12 (Ml 4), ai_ cy (rl 5) 12 (Ml 5), ai_ cy (rl 6) 12 (Ml 6), ai_ cy (rl 7) 12 (Ml 7), ai_ cy (rl 8) 12 (Ml 8), ai_ cy (rl 9) 12 (Ml 9), ai_ cy (rl 10) 12 (Ml 10), ai_ cy (rl 11) 12 (Ml 11), aq_ cy 6 cro 12 (gf_ rr), ai_ cy (rr 0) 12 (Mr 0), ai_ cy (rr 1) 12 (Mr 1), ai_ cy (rr 2) 12 (Mr 2), ai_ cy (rr 3) 12 (Mr 3), ai_ cy (rr 4) 12 (Mr 4), ai_ cy (rr 5) 12 (Mr 5), ai_ cy (rr 6) 12 (Mr 6), ai_ cy (rr 7) 12 (Mr 7), ai_ cy (rr 8) 12 (Mr 8), ai_ cy (rr 9) 12 (Mr 9), ai_ cy (rr 10) 12 (Mr 10), ai_ cy (rr 11) 12 (Mr 11), ai_ cy c4 40 f4, ai_ cy c5 40 f5, ai_ cy c6 40 f6, ai_ cy c7 12 f7, ai_ cy c8 12 f8, aq_ cy 3 xk 5 (kf_ k0 k1 k2 k3 k4), ob6_0_ k0, ob5_0_ k1, ob9_0_ k2, ob2_0_ k3, ob8_0_ k4])) (va_Qv (fun (_ : Unit) => True) (fun (_ : Unit) (t : State) => ∃ (eMr : Nat → Nat → Int32), ∃ (efx : Nat → Int32), ∃ (efu : Nat → Int32), ∃ (e4 : Nat → Int32), ∃ (e7 : Nat → Int32), ∃ (e8 : Nat → Int32), ∃ (eMl : Nat → Nat → Int32), ∃ (e5 : Nat → Int32), ∃ (e6 : Nat → Int32), (∃ d : Nat → Nat, trd efx d) ∧ (gtr (cutF fk fs fe fw (-9) vn.toNatClampNeg) vp.toNatClampNeg (vp.toNatClampNeg - 1) efx efu) ∧ ((efx 0).toInt = -9 ∧ (efu 0).toInt = -9) ∧ (∀ x y : Nat, x < vp.toNatClampNeg → y < vp.toNatClampNeg → 0 ≤ zM eMl x y ∧ zM eMl x y ≤ 80000000) ∧ (∀ S : Nat → Bool, outZ (zM eMl) S vp.toNatClampNeg = cutF fk fs fe fw (-9) vn.toNatClampNeg S) ∧ (rng e7 12 (0) (11)) ∧ (rng e8 12 (0) (11)) ∧ va_P D vwCl [ob1_0_ xt xc ta tb, ob0_0_ xc xn xk clo cro c4 c5 c6 c7 c8, ob3_0_ xn vp vn n1 n2 n3 n4 n5, ai_ cy ta 12 efx, ai_ cy tb 12 efu, ai_ cy n1 40 fk, ai_ cy n2 40 fs, ai_ cy n3 40 fe, ai_ cy n4 40 fw, aq_ cy 6 clo 12 (gf_ rl), ai_ cy (rl 0) 12 (eMl 0), ai_ cy (rl 1) 12 (eMl 1), ai_ cy (rl 2) 12 (eMl 2), ai_ cy (rl 3) 12 (eMl 3), ai_ cy (rl 4) 12 (eMl 4), ai_ cy (rl 5) 12 (eMl 5), ai_ cy (rl 6) 12 (eMl 6), ai_ cy (rl 7) 12 (eMl 7), ai_ cy (rl 8) 12 (eMl 8), ai_ cy (rl 9) 12 (eMl 9), ai_ cy (rl 10) 12 (eMl 10), ai_ cy (rl 11) 12 (eMl 11), aq_ cy 6 cro 12 (gf_ rr), ai_ cy (rr 0) 12 (eMr 0), ai_ cy (rr 1) 12 (eMr 1), ai_ cy (rr 2) 12 (eMr 2), ai_ cy (rr 3) 12 (eMr 3), ai_ cy (rr 4) 12 (eMr 4), ai_ cy (rr 5) 12 (eMr 5), ai_ cy (rr 6) 12 (eMr 6), ai_ cy (rr 7) 12 (eMr 7), ai_ cy (rr 8) 12 (eMr 8), ai_ cy (rr 9) 12 (eMr 9), ai_ cy (rr 10) 12 (eMr 10), ai_ cy (rr 11) 12 (eMr 11), ai_ cy c4 40 e4, ai_ cy c5 40 e5, ai_ cy c6 40 e6, ai_ cy c7 12 e7, ai_ cy c8 12 e8, aq_ cy 3 xk 5 (kf_ k0 k1 k2 k3 k4), ob6_0_ k0, ob5_0_ k1, ob9_0_ k2, ob2_0_ k3, ob8_0_ k4] t.heap ∧ va_D (va_A [ob1_0_ xt xc ta tb, ob0_0_ xc xn xk clo cro c4 c5 c6 c7 c8, ob3_0_ xn vp vn n1 n2 n3 n4 n5, ai_ cy ta 12 fx, ai_ cy tb 12 fu, ai_ cy n1 40 fk, ai_ cy n2 40 fs, ai_ cy n3 40 fe, ai_ cy n4 40 fw, aq_ cy 6 clo 12 (gf_ rl), ai_ cy (rl 0) 12 (Ml 0), ai_ cy (rl 1) 12 (Ml 1), ai_ cy (rl 2) 12 (Ml 2), ai_ cy (rl 3) 12 (Ml 3), ai_ cy (rl 4) 12 (Ml 4), ai_ cy (rl 5) 12 (Ml 5), ai_ cy (rl 6) 12 (Ml 6), ai_ cy (rl 7) 12 (Ml 7), ai_ cy (rl 8) 12 (Ml 8), ai_ cy (rl 9) 12 (Ml 9), ai_ cy (rl 10) 12 (Ml 10), ai_ cy (rl 11) 12 (Ml 11), aq_ cy 6 cro 12 (gf_ rr), ai_ cy (rr 0) 12 (Mr 0), ai_ cy (rr 1) 12 (Mr 1), ai_ cy (rr 2) 12 (Mr 2), ai_ cy (rr 3) 12 (Mr 3), ai_ cy (rr 4) 12 (Mr 4), ai_ cy (rr 5) 12 (Mr 5), ai_ cy (rr 6) 12 (Mr 6), ai_ cy (rr 7) 12 (Mr 7), ai_ cy (rr 8) 12 (Mr 8), ai_ cy (rr 9) 12 (Mr 9), ai_ cy (rr 10) 12 (Mr 10), ai_ cy (rr 11) 12 (Mr 11), ai_ cy c4 40 f4, ai_ cy c5 40 f5, ai_ cy c6 40 f6, ai_ cy c7 12 f7, ai_ cy c8 12 f8, aq_ cy 3 xk 5 (kf_ k0 k1 k2 k3 k4), ob6_0_ k0, ob5_0_ k1, ob9_0_ k2, ob2_0_ k3, ob8_0_ k4] sz) [ob1_0_ xt xc ta tb, ob0_0_ xc xn xk clo cro c4 c5 c6 c7 c8, ob3_0_ xn vp vn n1 n2 n3 n4 n5, ai_ cy ta 12 efx, ai_ cy tb 12 efu, ai_ cy n1 40 fk, ai_ cy n2 40 fs, ai_ cy n3 40 fe, ai_ cy n4 40 fw, aq_ cy 6 clo 12 (gf_ rl), ai_ cy (rl 0) 12 (eMl 0), ai_ cy (rl 1) 12 (eMl 1), ai_ cy (rl 2) 12 (eMl 2), ai_ cy (rl 3) 12 (eMl 3), ai_ cy (rl 4) 12 (eMl 4), ai_ cy (rl 5) 12 (eMl 5), ai_ cy (rl 6) 12 (eMl 6), ai_ cy (rl 7) 12 (eMl 7), ai_ cy (rl 8) 12 (eMl 8), ai_ cy (rl 9) 12 (eMl 9), ai_ cy (rl 10) 12 (eMl 10), ai_ cy (rl 11) 12 (eMl 11), aq_ cy 6 cro 12 (gf_ rr), ai_ cy (rr 0) 12 (eMr 0), ai_ cy (rr 1) 12 (eMr 1), ai_ cy (rr 2) 12 (eMr 2), ai_ cy (rr 3) 12 (eMr 3), ai_ cy (rr 4) 12 (eMr 4), ai_ cy (rr 5) 12 (eMr 5), ai_ cy (rr 6) 12 (eMr 6), ai_ cy (rr 7) 12 (eMr 7), ai_ cy (rr 8) 12 (eMr 8), ai_ cy (rr 9) 12 (eMr 9), ai_ cy (rr 10) 12 (eMr 10), ai_ cy (rr 11) 12 (eMr 11), ai_ cy c4 40 e4, ai_ cy c5 40 e5, ai_ cy c6 40 e6, ai_ cy c7 12 e7, ai_ cy c8 12 e8, aq_ cy 3 xk 5 (kf_ k0 k1 k2 k3 k4), ob6_0_ k0, ob5_0_ k1, ob9_0_ k2, ob2_0_ k3, ob8_0_ k4]) (va_A [ob1_0_ xt xc ta tb, ob0_0_ xc xn xk clo cro c4 c5 c6 c7 c8, ob3_0_ xn vp vn n1 n2 n3 n4 n5, ai_ cy ta 12 fx, ai_ cy tb 12 fu, ai_ cy n1 40 fk, ai_ cy n2 40 fs, ai_ cy n3 40 fe, ai_ cy n4 40 fw, aq_ cy 6 clo 12 (gf_ rl), ai_ cy (rl 0) 12 (Ml 0), ai_ cy (rl 1) 12 (Ml 1), ai_ cy (rl 2) 12 (Ml 2), ai_ cy (rl 3) 12 (Ml 3), ai_ cy (rl 4) 12 (Ml 4), ai_ cy (rl 5) 12 (Ml 5), ai_ cy (rl 6) 12 (Ml 6), ai_ cy (rl 7) 12 (Ml 7), ai_ cy (rl 8) 12 (Ml 8), ai_ cy (rl 9) 12 (Ml 9), ai_ cy (rl 10) 12 (Ml 10), ai_ cy (rl 11) 12 (Ml 11), aq_ cy 6 cro 12 (gf_ rr), ai_ cy (rr 0) 12 (Mr 0), ai_ cy (rr 1) 12 (Mr 1), ai_ cy (rr 2) 12 (Mr 2), ai_ cy (rr 3) 12 (Mr 3), ai_ cy (rr 4) 12 (Mr 4), ai_ cy (rr 5) 12 (Mr 5), ai_ cy (rr 6) 12 (Mr 6), ai_ cy (rr 7) 12 (Mr 7), ai_ cy (rr 8) 12 (Mr 8), ai_ cy (rr 9) 12 (Mr 9), ai_ cy (rr 10) 12 (Mr 10), ai_ cy (rr 11) 12 (Mr 11), ai_ cy c4 40 f4, ai_ cy c5 40 f5, ai_ cy c6 40 f6, ai_ cy c7 12 f7, ai_ cy c8 12 f8, aq_ cy 3 xk 5 (kf_ k0 k1 k2 k3 k4), ob6_0_ k0, ob5_0_ k1, ob9_0_ k2, ob2_0_ k3, ob8_0_ k4] sz)) 0 0 (va_A [ob1_0_ xt xc ta tb, ob0_0_ xc xn xk clo cro c4 c5 c6 c7 c8, ob3_0_ xn vp vn n1 n2 n3 n4 n5, ai_ cy ta 12 fx, ai_ cy tb 12 fu, ai_ cy n1 40 fk, ai_ cy n2 40 fs, ai_ cy n3 40 fe, ai_ cy n4 40 fw, aq_ cy 6 clo 12 (gf_ rl), ai_ cy (rl 0) 12 (Ml 0), ai_ cy (rl 1) 12 (Ml 1), ai_ cy (rl 2) 12 (Ml 2), ai_ cy (rl 3) 12 (Ml 3), ai_ cy (rl 4) 12 (Ml 4), ai_ cy (rl 5) 12 (Ml 5), ai_ cy (rl 6) 12 (Ml 6), ai_ cy (rl 7) 12 (Ml 7), ai_ cy (rl 8) 12 (Ml 8), ai_ cy (rl 9) 12 (Ml 9), ai_ cy (rl 10) 12 (Ml 10), ai_ cy (rl 11) 12 (Ml 11), aq_ cy 6 cro 12 (gf_ rr), ai_ cy (rr 0) 12 (Mr 0), ai_ cy (rr 1) 12 (Mr 1), ai_ cy (rr 2) 12 (Mr 2), ai_ cy (rr 3) 12 (Mr 3), ai_ cy (rr 4) 12 (Mr 4), ai_ cy (rr 5) 12 (Mr 5), ai_ cy (rr 6) 12 (Mr 6), ai_ cy (rr 7) 12 (Mr 7), ai_ cy (rr 8) 12 (Mr 8), ai_ cy (rr 9) 12 (Mr 9), ai_ cy (rr 10) 12 (Mr 10), ai_ cy (rr 11) 12 (Mr 11), ai_ cy c4 40 f4, ai_ cy c5 40 f5, ai_ cy c6 40 f6, ai_ cy c7 12 f7, ai_ cy c8 12 f8, aq_ cy 3 xk 5 (kf_ k0 k1 k2 k3 k4), ob6_0_ k0, ob5_0_ k1, ob9_0_ k2, ob2_0_ k3, ob8_0_ k4] sz) := by
  refine ofQ (cc := cX1_grow) (maxL := 2) (ret := none) (by decide) rfl ?_
  intro p e s m args below meth c s₁ Q hQ B hml hv
  obtain ⟨rfl, hsz, hP, hK, hD0⟩ := hv
  have hG := hK.2
  have hK := hK.1
  have hx := B.exec
  have hb := B.bytes
  have hr := B.returns
  have hts := atoms_spec (ws := wsX1_grow) B.pre
  have hown : s.vm.findClass RX1 = some m.cls := by have h_ := findClass_of_methodNamed B.named; exact h_
  have hlocks := B.notSynchronized
  subst hsz
  have hD := hD0.self (sz := s.heap.size)
  generalize hAe : va_A [ob1_0_ xt xc ta tb, ob0_0_ xc xn xk clo cro c4 c5 c6 c7 c8, ob3_0_ xn vp vn n1 n2 n3 n4 n5, ai_ cy ta 12 fx, ai_ cy tb 12 fu, ai_ cy n1 40 fk, ai_ cy n2 40 fs, ai_ cy n3 40 fe, ai_ cy n4 40 fw, aq_ cy 6 clo 12 (gf_ rl), ai_ cy (rl 0) 12 (Ml 0), ai_ cy (rl 1) 12 (Ml 1), ai_ cy (rl 2) 12 (Ml 2), ai_ cy (rl 3) 12 (Ml 3), ai_ cy (rl 4) 12 (Ml 4), ai_ cy (rl 5) 12 (Ml 5), ai_ cy (rl 6) 12 (Ml 6), ai_ cy (rl 7) 12 (Ml 7), ai_ cy (rl 8) 12 (Ml 8), ai_ cy (rl 9) 12 (Ml 9), ai_ cy (rl 10) 12 (Ml 10), ai_ cy (rl 11) 12 (Ml 11), aq_ cy 6 cro 12 (gf_ rr), ai_ cy (rr 0) 12 (Mr 0), ai_ cy (rr 1) 12 (Mr 1), ai_ cy (rr 2) 12 (Mr 2), ai_ cy (rr 3) 12 (Mr 3), ai_ cy (rr 4) 12 (Mr 4), ai_ cy (rr 5) 12 (Mr 5), ai_ cy (rr 6) 12 (Mr 6), ai_ cy (rr 7) 12 (Mr 7), ai_ cy (rr 8) 12 (Mr 8), ai_ cy (rr 9) 12 (Mr 9), ai_ cy (rr 10) 12 (Mr 10), ai_ cy (rr 11) 12 (Mr 11), ai_ cy c4 40 f4, ai_ cy c5 40 f5, ai_ cy c6 40 f6, ai_ cy c7 12 f7, ai_ cy c8 12 f8, aq_ cy 3 xk 5 (kf_ k0 k1 k2 k3 k4), ob6_0_ k0, ob5_0_ k1, ob9_0_ k2, ob2_0_ k3, ob8_0_ k4] s.heap.size = A at hD hQ
  have hA : ∀ q : Nat, s.heap.size ≤ q → A q := fun q h => by rw [← hAe]; exact Or.inr h
  have hS : va_S A s.heap s.heap [] := va_S.rf
  have hl := lv_entry ([.ref xt]) (n := 2) (Nat.le_of_ble_eq_true rfl)
  rw [lg_entry_eq]
  generalize (lg_sl ([.ref xt]) ++ List.replicate (2 - (lg_sl ([.ref xt])).length) Slot.unset).toArray = ls at hl ⊢
  have hl : lv_has ls 2 [(0, .ref xt)] := hl
  have zm9 : ((-9) : Int32).toInt = -9 := by decide
  have z0 : (0 : Int32).toInt = 0 := by decide
  have z1 : (1 : Int32).toInt = 1 := by decide
  have zm9_ : ((-9) : Int32).toInt = -9 := by decide
  have cv_ := clI (i := vp) (by omega)
  refine lv_aload_n hx hb dB_36_0_46.1.1.1.1 rfl (lv_at hl 0 rfl) ?_
  refine va_get (ci := 1) (v := .ref xc) (C := RX1) (T := TX1) (N := 3) hx hb hts (fun _ h => List.mem_cons_of_mem _ (List.mem_append_left _ (List.mem_append_left _ (List.mem_append_right _ h)))) hown hK.1 hP 0 rfl rfl 0 (by decide) (hts (.fieldLink RX1 18 "CutAtlas$CutTree" "current" "LCutAtlas$Current;") (List.mem_of_getElem? (i := 1) rfl)) (fun _ h9 => h9) rfl dB_36_0_46.1.1.1.2 ?_
  refine lv_bipush (v := (-9)) hx hb dB_36_0_46.1.1.2.1 (by decide) ?_
  refine ct_S hP hD hS hA [ob0_0_ xc xn xk clo cro c4 c5 c6 c7 c8, ob3_0_ xn vp vn n1 n2 n3 n4 n5, ai_ cy n1 40 fk, ai_ cy n2 40 fs, ai_ cy n3 40 fe, ai_ cy n4 40 fw, aq_ cy 6 clo 12 (gf_ rl), ai_ cy (rl 0) 12 (Ml 0), ai_ cy (rl 1) 12 (Ml 1), ai_ cy (rl 2) 12 (Ml 2), ai_ cy (rl 3) 12 (Ml 3), ai_ cy (rl 4) 12 (Ml 4), ai_ cy (rl 5) 12 (Ml 5), ai_ cy (rl 6) 12 (Ml 6), ai_ cy (rl 7) 12 (Ml 7), ai_ cy (rl 8) 12 (Ml 8), ai_ cy (rl 9) 12 (Ml 9), ai_ cy (rl 10) 12 (Ml 10), ai_ cy (rl 11) 12 (Ml 11), ai_ cy c5 40 f5, ai_ cy c6 40 f6, aq_ cy 3 xk 5 (kf_ k0 k1 k2 k3 k4), ob6_0_ k0, ob5_0_ k1, ob9_0_ k2, ob2_0_ k3, ob8_0_ k4] [1, 2, 5, 6, 7, 8, 9, 10, 11, 12, 13, 14, 15, 16, 17, 18, 19, 20, 21, 36, 37, 40, 41, 42, 43, 44, 45] (by decide +kernel) rfl (fun hPc hDw hFc hC_ => ?_)
  refine va_callv (va_runV (As := [.int (-9)]) (rest := []) ⟨hx, hb, hml, hown, hts⟩ (c_X0_load2 l D cy s.heap.size xc xk clo cro c4 c5 c6 c7 c8 xn n1 n2 n3 n4 n5 vp vn fk fs fe fw rl Ml f5 f6 k0 k1 k2 k3 k4 ((-9) : Int32) (by first | with_reducible assumption | omega | assumption) (by first | with_reducible assumption | omega | assumption) (by first | with_reducible assumption | assumption | omega) (by first | with_reducible assumption | assumption | omega) (by first | with_reducible assumption | assumption | omega) (by first | with_reducible assumption | assumption | omega)) (cwV 1 hts gX1_grow_X0_load rfl rfl rfl ⟨rfl, hd_X0_load⟩ ⟨Nat.le_of_ble_eq_true rfl, Nat.le_of_ble_eq_true rfl⟩) ⟨bl_g, va_recvX hK.1 hP (ci := 0) (q0 := 1) rfl rfl, fun U hU hW => ⟨rfl, by rw [hU], by rw [hU]; exact hPc, ⟨kk_mv hW hK, arrOfT_moved hW.alike hG⟩, hDw⟩⟩ rfl rfl hl.1 rfl (lv_room (Nat.le_of_ble_eq_true rfl)) dB_36_0_46.1.1.2.2 ⟨Nat.le_of_ble_eq_true rfl, Nat.le_of_ble_eq_true rfl⟩) hS (fun q _ h => hFc q h) hFc (fun u t H locs ht hvm hw hB hz1 hk1 hS => ?_)
  obtain ⟨eMl_2, e5_3, e6_4, g_5, g_6, hP1, hD1⟩ := hB
  rw [ht] at hP1
  obtain ⟨hP, hD⟩ := va_join (wr := [ob1_0_ xt xc ta tb, ai_ cy ta 12 fx, ai_ cy tb 12 fu, aq_ cy 6 cro 12 (gf_ rr), ai_ cy (rr 0) 12 (Mr 0), ai_ cy (rr 1) 12 (Mr 1), ai_ cy (rr 2) 12 (Mr 2), ai_ cy (rr 3) 12 (Mr 3), ai_ cy (rr 4) 12 (Mr 4), ai_ cy (rr 5) 12 (Mr 5), ai_ cy (rr 6) 12 (Mr 6), ai_ cy (rr 7) 12 (Mr 7), ai_ cy (rr 8) 12 (Mr 8), ai_ cy (rr 9) 12 (Mr 9), ai_ cy (rr 10) 12 (Mr 10), ai_ cy (rr 11) 12 (Mr 11), ai_ cy c4 40 f4, ai_ cy c7 12 f7, ai_ cy c8 12 f8]) (w1 := [ob0_0_ xc xn xk clo cro c4 c5 c6 c7 c8, ob3_0_ xn vp vn n1 n2 n3 n4 n5, ai_ cy n1 40 fk, ai_ cy n2 40 fs, ai_ cy n3 40 fe, ai_ cy n4 40 fw, aq_ cy 6 clo 12 (gf_ rl), ai_ cy (rl 0) 12 (eMl_2 0), ai_ cy (rl 1) 12 (eMl_2 1), ai_ cy (rl 2) 12 (eMl_2 2), ai_ cy (rl 3) 12 (eMl_2 3), ai_ cy (rl 4) 12 (eMl_2 4), ai_ cy (rl 5) 12 (eMl_2 5), ai_ cy (rl 6) 12 (eMl_2 6), ai_ cy (rl 7) 12 (eMl_2 7), ai_ cy (rl 8) 12 (eMl_2 8), ai_ cy (rl 9) 12 (eMl_2 9), ai_ cy (rl 10) 12 (eMl_2 10), ai_ cy (rl 11) 12 (eMl_2 11), ai_ cy c5 40 e5_3, ai_ cy c6 40 e6_4, aq_ cy 3 xk 5 (kf_ k0 k1 k2 k3 k4), ob6_0_ k0, ob5_0_ k1, ob9_0_ k2, ob2_0_ k3, ob8_0_ k4]) hP hD [1, 2, 5, 6, 7, 8, 9, 10, 11, 12, 13, 14, 15, 16, 17, 18, 19, 20, 21, 36, 37, 40, 41, 42, 43, 44, 45] [0, 3, 4, 22, 23, 24, 25, 26, 27, 28, 29, 30, 31, 32, 33, 34, 35, 38, 39] hC_ rfl (by decide +kernel) (by decide +kernel) hk1 hFc hP1 hD1
  refine pd_S hP hD [ob1_0_ xt xc ta tb, ob0_0_ xc xn xk clo cro c4 c5 c6 c7 c8, ob3_0_ xn vp vn n1 n2 n3 n4 n5, ai_ cy ta 12 fx, ai_ cy tb 12 fu, ai_ cy n1 40 fk, ai_ cy n2 40 fs, ai_ cy n3 40 fe, ai_ cy n4 40 fw, aq_ cy 6 clo 12 (gf_ rl), ai_ cy (rl 0) 12 (eMl_2 0), ai_ cy (rl 1) 12 (eMl_2 1), ai_ cy (rl 2) 12 (eMl_2 2), ai_ cy (rl 3) 12 (eMl_2 3), ai_ cy (rl 4) 12 (eMl_2 4), ai_ cy (rl 5) 12 (eMl_2 5), ai_ cy (rl 6) 12 (eMl_2 6), ai_ cy (rl 7) 12 (eMl_2 7), ai_ cy (rl 8) 12 (eMl_2 8), ai_ cy (rl 9) 12 (eMl_2 9), ai_ cy (rl 10) 12 (eMl_2 10), ai_ cy (rl 11) 12 (eMl_2 11), aq_ cy 6 cro 12 (gf_ rr), ai_ cy (rr 0) 12 (Mr 0), ai_ cy (rr 1) 12 (Mr 1), ai_ cy (rr 2) 12 (Mr 2), ai_ cy (rr 3) 12 (Mr 3), ai_ cy (rr 4) 12 (Mr 4), ai_ cy (rr 5) 12 (Mr 5), ai_ cy (rr 6) 12 (Mr 6), ai_ cy (rr 7) 12 (Mr 7), ai_ cy (rr 8) 12 (Mr 8), ai_ cy (rr 9) 12 (Mr 9), ai_ cy (rr 10) 12 (Mr 10), ai_ cy (rr 11) 12 (Mr 11), ai_ cy c4 40 f4, ai_ cy c5 40 e5_3, ai_ cy c6 40 e6_4, ai_ cy c7 12 f7, ai_ cy c8 12 f8, aq_ cy 3 xk 5 (kf_ k0 k1 k2 k3 k4), ob6_0_ k0, ob5_0_ k1, ob9_0_ k2, ob2_0_ k3, ob8_0_ k4] [0, 19, 20, 1, 2, 21, 22, 23, 24, 25, 26, 27, 28, 29, 30, 31, 32, 33, 34, 35, 36, 37, 3, 4, 5, 6, 7, 8, 9, 10, 11, 12, 13, 14, 15, 16, 38, 39, 17, 18, 40, 41, 42, 43, 44, 45] (by decide +kernel) rfl (fun hP hD => ?_)
  have hmx_ := g_5
  have hM_ : ∀ x y : Nat, x < vp.toNatClampNeg → y < vp.toNatClampNeg → 0 ≤ zM eMl_2 x y ∧ zM eMl_2 x y ≤ 80000000 := fun x y hx hy => mtx_bd hmx_ r_fw (by have c_ := clI (i := vn) (by omega); omega) (by have c_ := clI (i := vp) (by omega); omega) (by have c_ := clI (i := vp) (by omega); omega)
  have hC_ : ∀ S : Nat → Bool, clsd (zM eMl_2) vp.toNatClampNeg 1000000 S → outZ (zM eMl_2) S vp.toNatClampNeg ≤ 100000 := fun S hS => small_cut hmx_ hnc hpr r_fw hvp hvn.2 hS
  have hO_ : ∀ S : Nat → Bool, outZ (zM eMl_2) S vp.toNatClampNeg = cutF fk fs fe fw (-9) vn.toNatClampNeg S := fun S => out_mtx hmx_ hnc hpr hvp hvn.2
  have hF_ : ∀ S : Nat → Bool, outZ (zM eMl_2) S vp.toNatClampNeg ≤ 100000 := fun S => by rw [hO_ S]; exact ((whF hnc hpr r_fw hvn.2 hwh).1 S).2
  refine lv_aload_n hx hb dB_36_0_46.1.2.1.1 rfl (lv_at hl 0 rfl) ?_
  refine va_get (ci := 1) (v := .ref ta) (C := RX1) (T := TX1) (N := 3) hx hb hts (fun _ h => List.mem_cons_of_mem _ (List.mem_append_left _ (List.mem_append_left _ (List.mem_append_right _ h)))) hown hK.1 hP 0 rfl rfl 1 (by decide) (hts (.fieldLink RX1 9 "CutAtlas$CutTree" "nexts" "[I") (List.mem_of_getElem? (i := 2) rfl)) (fun _ h9 => h9) rfl dB_36_0_46.1.2.1.2 ?_
  refine lv_iconst (v := 0) hx hb dB_36_0_46.1.2.2.1 (by decide) ?_
  refine ct_S hP hD hS hA [ai_ cy ta 12 fx] [3] (by decide) rfl (fun hPc hDw hFc hC_ => ?_)
  refine va_callv (va_runS (As := [.ref ta, .int 0]) (rest := []) ⟨hx, hb, hml, hown, hts⟩ (c_J7_fill_53178 l D cy H.size ta 12 (0 : Int32) fx (by first | with_reducible assumption | assumption | omega)) (va_cwS 2 hts gX1_grow_J7_fill_53178 rfl rfl rfl hd_J7_fill_53178 ⟨Nat.le_of_ble_eq_true rfl, Nat.le_of_ble_eq_true rfl⟩) ⟨bl_, fun U hU hW => ⟨rfl, by rw [hU], by rw [hU]; exact hPc, kk_mv hW hK, hDw⟩⟩ rfl rfl hl.1 rfl (lv_room (Nat.le_of_ble_eq_true rfl)) dB_36_0_46.1.2.2.2 ⟨Nat.le_of_ble_eq_true rfl, Nat.le_of_ble_eq_true rfl⟩) hS (fun q _ h => hFc q h) hFc (fun u t H locs ht hvm hw hB hz1 hk1 hS => ?_)
  obtain ⟨e1_8, g_9, hP1, hD1⟩ := hB
  rw [ht] at hP1
  obtain ⟨hP, hD⟩ := va_join (wr := [ob1_0_ xt xc ta tb, ob0_0_ xc xn xk clo cro c4 c5 c6 c7 c8, ob3_0_ xn vp vn n1 n2 n3 n4 n5, ai_ cy tb 12 fu, ai_ cy n1 40 fk, ai_ cy n2 40 fs, ai_ cy n3 40 fe, ai_ cy n4 40 fw, aq_ cy 6 clo 12 (gf_ rl), ai_ cy (rl 0) 12 (eMl_2 0), ai_ cy (rl 1) 12 (eMl_2 1), ai_ cy (rl 2) 12 (eMl_2 2), ai_ cy (rl 3) 12 (eMl_2 3), ai_ cy (rl 4) 12 (eMl_2 4), ai_ cy (rl 5) 12 (eMl_2 5), ai_ cy (rl 6) 12 (eMl_2 6), ai_ cy (rl 7) 12 (eMl_2 7), ai_ cy (rl 8) 12 (eMl_2 8), ai_ cy (rl 9) 12 (eMl_2 9), ai_ cy (rl 10) 12 (eMl_2 10), ai_ cy (rl 11) 12 (eMl_2 11), aq_ cy 6 cro 12 (gf_ rr), ai_ cy (rr 0) 12 (Mr 0), ai_ cy (rr 1) 12 (Mr 1), ai_ cy (rr 2) 12 (Mr 2), ai_ cy (rr 3) 12 (Mr 3), ai_ cy (rr 4) 12 (Mr 4), ai_ cy (rr 5) 12 (Mr 5), ai_ cy (rr 6) 12 (Mr 6), ai_ cy (rr 7) 12 (Mr 7), ai_ cy (rr 8) 12 (Mr 8), ai_ cy (rr 9) 12 (Mr 9), ai_ cy (rr 10) 12 (Mr 10), ai_ cy (rr 11) 12 (Mr 11), ai_ cy c4 40 f4, ai_ cy c5 40 e5_3, ai_ cy c6 40 e6_4, ai_ cy c7 12 f7, ai_ cy c8 12 f8, aq_ cy 3 xk 5 (kf_ k0 k1 k2 k3 k4), ob6_0_ k0, ob5_0_ k1, ob9_0_ k2, ob2_0_ k3, ob8_0_ k4]) (w1 := [ai_ cy ta 12 e1_8]) hP hD [3] [0, 1, 2, 4, 5, 6, 7, 8, 9, 10, 11, 12, 13, 14, 15, 16, 17, 18, 19, 20, 21, 22, 23, 24, 25, 26, 27, 28, 29, 30, 31, 32, 33, 34, 35, 36, 37, 38, 39, 40, 41, 42, 43, 44, 45] hC_ rfl (by decide +kernel) (by decide +kernel) hk1 hFc hP1 hD1
  refine pd_S hP hD [ob1_0_ xt xc ta tb, ob0_0_ xc xn xk clo cro c4 c5 c6 c7 c8, ob3_0_ xn vp vn n1 n2 n3 n4 n5, ai_ cy ta 12 e1_8, ai_ cy tb 12 fu, ai_ cy n1 40 fk, ai_ cy n2 40 fs, ai_ cy n3 40 fe, ai_ cy n4 40 fw, aq_ cy 6 clo 12 (gf_ rl), ai_ cy (rl 0) 12 (eMl_2 0), ai_ cy (rl 1) 12 (eMl_2 1), ai_ cy (rl 2) 12 (eMl_2 2), ai_ cy (rl 3) 12 (eMl_2 3), ai_ cy (rl 4) 12 (eMl_2 4), ai_ cy (rl 5) 12 (eMl_2 5), ai_ cy (rl 6) 12 (eMl_2 6), ai_ cy (rl 7) 12 (eMl_2 7), ai_ cy (rl 8) 12 (eMl_2 8), ai_ cy (rl 9) 12 (eMl_2 9), ai_ cy (rl 10) 12 (eMl_2 10), ai_ cy (rl 11) 12 (eMl_2 11), aq_ cy 6 cro 12 (gf_ rr), ai_ cy (rr 0) 12 (Mr 0), ai_ cy (rr 1) 12 (Mr 1), ai_ cy (rr 2) 12 (Mr 2), ai_ cy (rr 3) 12 (Mr 3), ai_ cy (rr 4) 12 (Mr 4), ai_ cy (rr 5) 12 (Mr 5), ai_ cy (rr 6) 12 (Mr 6), ai_ cy (rr 7) 12 (Mr 7), ai_ cy (rr 8) 12 (Mr 8), ai_ cy (rr 9) 12 (Mr 9), ai_ cy (rr 10) 12 (Mr 10), ai_ cy (rr 11) 12 (Mr 11), ai_ cy c4 40 f4, ai_ cy c5 40 e5_3, ai_ cy c6 40 e6_4, ai_ cy c7 12 f7, ai_ cy c8 12 f8, aq_ cy 3 xk 5 (kf_ k0 k1 k2 k3 k4), ob6_0_ k0, ob5_0_ k1, ob9_0_ k2, ob2_0_ k3, ob8_0_ k4] [0, 1, 2, 45, 3, 4, 5, 6, 7, 8, 9, 10, 11, 12, 13, 14, 15, 16, 17, 18, 19, 20, 21, 22, 23, 24, 25, 26, 27, 28, 29, 30, 31, 32, 33, 34, 35, 36, 37, 38, 39, 40, 41, 42, 43, 44] (by decide +kernel) rfl (fun hP hD => ?_)
  refine lv_aload_n hx hb dB_36_0_46.2.1.1.1 rfl (lv_at hl 0 rfl) ?_
  refine va_get (ci := 1) (v := .ref ta) (C := RX1) (T := TX1) (N := 3) hx hb hts (fun _ h => List.mem_cons_of_mem _ (List.mem_append_left _ (List.mem_append_left _ (List.mem_append_right _ h)))) hown hK.1 hP 0 rfl rfl 1 (by decide) (hts (.fieldLink RX1 9 "CutAtlas$CutTree" "nexts" "[I") (List.mem_of_getElem? (i := 2) rfl)) (fun _ h9 => h9) rfl dB_36_0_46.2.1.1.2 ?_
  refine lv_iconst (v := 0) hx hb dB_36_0_46.2.1.2.1 (by decide) ?_
  refine lv_bipush (v := (-9)) hx hb dB_36_0_46.2.1.2.2 (by decide) ?_
  have h_10 : vp_in (0 : Int32) 12 := by unfold vp_in; decide
  refine va_iast hx hb hK.1 hP hD hS 3 0 rfl rfl (i := 0) h_10 dB_36_0_46.2.2.1.1 (fun H locs hP hD hS => ?_)
  obtain ⟨f_11, ef_11⟩ : ∃ g : Nat → Int32, g = upd e1_8 (0 : Int32).toNatClampNeg ((-9) : Int32) := ⟨_, rfl⟩
  refine pd_K (D := D) (cl := vwCl) (H := H) (A := A) [ob1_0_ xt xc ta tb, ob0_0_ xc xn xk clo cro c4 c5 c6 c7 c8, ob3_0_ xn vp vn n1 n2 n3 n4 n5, ai_ cy ta 12 f_11, ai_ cy tb 12 fu, ai_ cy n1 40 fk, ai_ cy n2 40 fs, ai_ cy n3 40 fe, ai_ cy n4 40 fw, aq_ cy 6 clo 12 (gf_ rl), ai_ cy (rl 0) 12 (eMl_2 0), ai_ cy (rl 1) 12 (eMl_2 1), ai_ cy (rl 2) 12 (eMl_2 2), ai_ cy (rl 3) 12 (eMl_2 3), ai_ cy (rl 4) 12 (eMl_2 4), ai_ cy (rl 5) 12 (eMl_2 5), ai_ cy (rl 6) 12 (eMl_2 6), ai_ cy (rl 7) 12 (eMl_2 7), ai_ cy (rl 8) 12 (eMl_2 8), ai_ cy (rl 9) 12 (eMl_2 9), ai_ cy (rl 10) 12 (eMl_2 10), ai_ cy (rl 11) 12 (eMl_2 11), aq_ cy 6 cro 12 (gf_ rr), ai_ cy (rr 0) 12 (Mr 0), ai_ cy (rr 1) 12 (Mr 1), ai_ cy (rr 2) 12 (Mr 2), ai_ cy (rr 3) 12 (Mr 3), ai_ cy (rr 4) 12 (Mr 4), ai_ cy (rr 5) 12 (Mr 5), ai_ cy (rr 6) 12 (Mr 6), ai_ cy (rr 7) 12 (Mr 7), ai_ cy (rr 8) 12 (Mr 8), ai_ cy (rr 9) 12 (Mr 9), ai_ cy (rr 10) 12 (Mr 10), ai_ cy (rr 11) 12 (Mr 11), ai_ cy c4 40 f4, ai_ cy c5 40 e5_3, ai_ cy c6 40 e6_4, ai_ cy c7 12 f7, ai_ cy c8 12 f8, aq_ cy 3 xk 5 (kf_ k0 k1 k2 k3 k4), ob6_0_ k0, ob5_0_ k1, ob9_0_ k2, ob2_0_ k3, ob8_0_ k4] (by rw [ef_11]; exact hP) (by rw [ef_11]; exact hD) (fun hP hD => ?_)
  have h1_ : trs f_11 (1 : Int32).toNatClampNeg := trs_one g_9 ef_11
  refine lv_aload_n hx hb dB_36_0_46.2.2.1.2 rfl (lv_at hl 0 rfl) ?_
  refine va_get (ci := 1) (v := .ref tb) (C := RX1) (T := TX1) (N := 3) hx hb hts (fun _ h => List.mem_cons_of_mem _ (List.mem_append_left _ (List.mem_append_left _ (List.mem_append_right _ h)))) hown hK.1 hP 0 rfl rfl 2 (by decide) (hts (.fieldLink RX1 15 "CutAtlas$CutTree" "numbers" "[I") (List.mem_of_getElem? (i := 3) rfl)) (fun _ h9 => h9) rfl dB_36_0_46.2.2.2.1 ?_
  refine lv_iconst (v := 0) hx hb dB_36_0_46.2.2.2.2 (by decide) ?_
  refine lv_bipush (v := (-9)) hx hb dB_36_0_47.1.1.1.1 (by decide) ?_
  refine va_iast hx hb hK.1 hP hD hS 4 0 rfl rfl (i := 0) h_10 dB_36_0_47.1.1.1.2 (fun H locs hP hD hS => ?_)
  obtain ⟨f_13, ef_13⟩ : ∃ g : Nat → Int32, g = upd fu (0 : Int32).toNatClampNeg ((-9) : Int32) := ⟨_, rfl⟩
  refine pd_K (D := D) (cl := vwCl) (H := H) (A := A) [ob1_0_ xt xc ta tb, ob0_0_ xc xn xk clo cro c4 c5 c6 c7 c8, ob3_0_ xn vp vn n1 n2 n3 n4 n5, ai_ cy ta 12 f_11, ai_ cy tb 12 f_13, ai_ cy n1 40 fk, ai_ cy n2 40 fs, ai_ cy n3 40 fe, ai_ cy n4 40 fw, aq_ cy 6 clo 12 (gf_ rl), ai_ cy (rl 0) 12 (eMl_2 0), ai_ cy (rl 1) 12 (eMl_2 1), ai_ cy (rl 2) 12 (eMl_2 2), ai_ cy (rl 3) 12 (eMl_2 3), ai_ cy (rl 4) 12 (eMl_2 4), ai_ cy (rl 5) 12 (eMl_2 5), ai_ cy (rl 6) 12 (eMl_2 6), ai_ cy (rl 7) 12 (eMl_2 7), ai_ cy (rl 8) 12 (eMl_2 8), ai_ cy (rl 9) 12 (eMl_2 9), ai_ cy (rl 10) 12 (eMl_2 10), ai_ cy (rl 11) 12 (eMl_2 11), aq_ cy 6 cro 12 (gf_ rr), ai_ cy (rr 0) 12 (Mr 0), ai_ cy (rr 1) 12 (Mr 1), ai_ cy (rr 2) 12 (Mr 2), ai_ cy (rr 3) 12 (Mr 3), ai_ cy (rr 4) 12 (Mr 4), ai_ cy (rr 5) 12 (Mr 5), ai_ cy (rr 6) 12 (Mr 6), ai_ cy (rr 7) 12 (Mr 7), ai_ cy (rr 8) 12 (Mr 8), ai_ cy (rr 9) 12 (Mr 9), ai_ cy (rr 10) 12 (Mr 10), ai_ cy (rr 11) 12 (Mr 11), ai_ cy c4 40 f4, ai_ cy c5 40 e5_3, ai_ cy c6 40 e6_4, ai_ cy c7 12 f7, ai_ cy c8 12 f8, aq_ cy 3 xk 5 (kf_ k0 k1 k2 k3 k4), ob6_0_ k0, ob5_0_ k1, ob9_0_ k2, ob2_0_ k3, ob8_0_ k4] (by rw [ef_13]; exact hP) (by rw [ef_13]; exact hD) (fun hP hD => ?_)
  have h0_ : gtr (fun S => outZ (zM eMl_2) S vp.toNatClampNeg) vp.toNatClampNeg ((1 : Int32).toNatClampNeg - 1) f_11 f_13 := gtr_1 (fun j h1 h2 => by rw [ef_11, pk_un (by rw [cl_0]; omega), g_9 j (by omega)]; decide)
  have hz0_ : (f_11 0).toInt = -9 ∧ (f_13 0).toInt = -9 := ⟨by rw [ef_11, ← cl_0, pk_us]; decide, by rw [ef_13, ← cl_0, pk_us]; decide⟩
  refine lv_iconst (v := 1) hx hb dB_36_0_47.1.1.2.1 (by decide) ?_
  refine lv_istore_n (lv' := [(1, .int 1), (0, .ref xt)]) hx hb dB_36_0_47.1.1.2.2 rfl hl (by decide) rfl (fun ls hl => ?_)
  suffices LOOP_14 : ∀ (n_14 : Nat) (x1_14 : Int32) (c_ta_14 : Nat → Int32) (c_tb_14 : Nat → Int32) (m_rr_14 : Nat → Nat → Int32) (c_c4_14 : Nat → Int32) (c_c7_14 : Nat → Int32) (c_c8_14 : Nat → Int32) (H : Heap) (locs : List Loc) (ls : Array Slot), 12 - x1_14.toInt < (n_14 : Int) → (1 ≤ x1_14.toInt) → (x1_14.toInt ≤ 12) → (trs c_ta_14 x1_14.toNatClampNeg) → (gtr (fun S => outZ (zM eMl_2) S vp.toNatClampNeg) vp.toNatClampNeg (x1_14.toNatClampNeg - 1) c_ta_14 c_tb_14) → ((c_ta_14 0).toInt = -9 ∧ (c_tb_14 0).toInt = -9) → (x1_14.toInt ≤ vp.toInt ∨ x1_14.toInt = 1) → (rng c_c7_14 12 (0) (11)) → (rng c_c8_14 12 (0) (11)) → pd_2 D vwCl A [ob1_0_ xt xc ta tb, ob0_0_ xc xn xk clo cro c4 c5 c6 c7 c8, ob3_0_ xn vp vn n1 n2 n3 n4 n5, ai_ cy ta 12 c_ta_14, ai_ cy tb 12 c_tb_14, ai_ cy n1 40 fk, ai_ cy n2 40 fs, ai_ cy n3 40 fe, ai_ cy n4 40 fw, aq_ cy 6 clo 12 (gf_ rl), ai_ cy (rl 0) 12 (eMl_2 0), ai_ cy (rl 1) 12 (eMl_2 1), ai_ cy (rl 2) 12 (eMl_2 2), ai_ cy (rl 3) 12 (eMl_2 3), ai_ cy (rl 4) 12 (eMl_2 4), ai_ cy (rl 5) 12 (eMl_2 5), ai_ cy (rl 6) 12 (eMl_2 6), ai_ cy (rl 7) 12 (eMl_2 7), ai_ cy (rl 8) 12 (eMl_2 8), ai_ cy (rl 9) 12 (eMl_2 9), ai_ cy (rl 10) 12 (eMl_2 10), ai_ cy (rl 11) 12 (eMl_2 11), aq_ cy 6 cro 12 (gf_ rr), ai_ cy (rr 0) 12 (m_rr_14 0), ai_ cy (rr 1) 12 (m_rr_14 1), ai_ cy (rr 2) 12 (m_rr_14 2), ai_ cy (rr 3) 12 (m_rr_14 3), ai_ cy (rr 4) 12 (m_rr_14 4), ai_ cy (rr 5) 12 (m_rr_14 5), ai_ cy (rr 6) 12 (m_rr_14 6), ai_ cy (rr 7) 12 (m_rr_14 7), ai_ cy (rr 8) 12 (m_rr_14 8), ai_ cy (rr 9) 12 (m_rr_14 9), ai_ cy (rr 10) 12 (m_rr_14 10), ai_ cy (rr 11) 12 (m_rr_14 11), ai_ cy c4 40 c_c4_14, ai_ cy c5 40 e5_3, ai_ cy c6 40 e6_4, ai_ cy c7 12 c_c7_14, ai_ cy c8 12 c_c8_14, aq_ cy 3 xk 5 (kf_ k0 k1 k2 k3 k4), ob6_0_ k0, ob5_0_ k1, ob9_0_ k2, ob2_0_ k3, ob8_0_ k4] H → va_S A s.heap H locs → lv_has ls 2 [(1, .int x1_14), (0, .ref xt)] → W p l e ({ frames := 5, cells := 0, slots := 0, locals := 113 } : Room) s m (([.ref xt] : List Value).toArray) below meth c H locs 0 0 Q (F0 m 35 ls []) from LOOP_14 ((12 - (1 : Int32).toInt).toNat + 1) (1 : Int32) f_11 f_13 Mr f4 f7 f8 _ _ _ (by omega) (by first | with_reducible assumption | omega | assumption) (by first | with_reducible assumption | omega | assumption) (by first | with_reducible assumption | assumption | exact h1_ | exact trs_nx g_9 (by omega) (by omega)) (by first | exact h0_ | exact gtr_nx v_none (by omega) of_none (by omega)) (by first | exact hz0_ | exact ⟨by rw [of_none.1]; exact v_none.1, by rw [of_none.2]; exact v_none.2⟩) (by first | with_reducible assumption | omega | assumption) (by first | with_reducible assumption | assumption | exact rng_zero (by omega) (by omega) | exact orng_zero) (by first | with_reducible assumption | assumption | exact rng_zero (by omega) (by omega) | exact orng_zero) ⟨hP, hD⟩ hS (lv_sub hl [0, 1] rfl)
  intro n_14
  induction n_14 with
  | zero =>
    intro x1_14 c_ta_14 c_tb_14 m_rr_14 c_c4_14 c_c7_14 c_c8_14 H locs ls hm v0_14 v1_14 v2_14 v3_14 v4_14 v5_14 rc_c7_14 rc_c8_14 hPD hS hl; obtain ⟨hP, hD⟩ := hPD
    exact absurd hm (by omega)
  | succ n_14 ih_14 =>
    intro x1_14 c_ta_14 c_tb_14 m_rr_14 c_c4_14 c_c7_14 c_c8_14 H locs ls hm v0_14 v1_14 v2_14 v3_14 v4_14 v5_14 rc_c7_14 rc_c8_14 hPD hS hl; obtain ⟨hP, hD⟩ := hPD
    refine lv_iload_n hx hb dB_36_0_47.1.2.1.1 rfl (lv_at hl 0 rfl) ?_
    refine lv_aload_n hx hb dB_36_0_47.1.2.1.2 rfl (lv_at hl 1 rfl) ?_
    refine va_get (ci := 1) (v := .ref xc) (C := RX1) (T := TX1) (N := 3) hx hb hts (fun _ h => List.mem_cons_of_mem _ (List.mem_append_left _ (List.mem_append_left _ (List.mem_append_right _ h)))) hown hK.1 hP 0 rfl rfl 0 (by decide) (hts (.fieldLink RX1 18 "CutAtlas$CutTree" "current" "LCutAtlas$Current;") (List.mem_of_getElem? (i := 1) rfl)) (fun _ h9 => h9) rfl dB_36_0_47.1.2.2.1 ?_
    refine va_get (ci := 0) (v := .ref xn) (C := RX0) (T := TX0) (N := 9) hx hb hts (fun _ h => List.mem_cons_of_mem _ (List.mem_append_left _ (List.mem_append_right _ h))) hown hK.1 hP 1 rfl rfl 0 (by decide) (hts (.fieldLink RX1 34 "CutAtlas$Current" "net" "LCutAtlas$Net;") (List.mem_of_getElem? (i := 4) rfl)) (fun _ h9 => h9) rfl dB_36_0_47.1.2.2.2 ?_
    refine va_get (ci := 3) (v := .int vp) (C := RX3) (T := TX3) (N := 7) hx hb hts (fun _ h => List.mem_cons_of_mem _ (List.mem_append_right _ h)) hown hK.1 hP 2 rfl rfl 0 (by decide) (hts (.fieldLink RX1 38 "CutAtlas$Net" "places" "I") (List.mem_of_getElem? (i := 5) rfl)) (fun _ h9 => h9) rfl dB_36_0_47.2.1.1.1 ?_
    refine lv_icmp_ge (tgt := 60) hx hb dB_36_0_47.2.1.1.2 (by decide) (fun c_15 => ?_) (fun c_15 => ?_)
    · have t_15 : vp.toInt ≤ x1_14.toInt := Int32.le_iff_toInt_le.mp c_15
      rw [hQ]
      exact W.vret hx hb hr (fun t ht hW => ⟨⟨(), rfl, trivial, m_rr_14, c_ta_14, c_tb_14, c_c4_14, c_c7_14, c_c8_14, eMl_2, e5_3, e6_4, (trs_trd v2_14 (by have c_ := clI (i := x1_14) (by omega); omega)), (gtr_C (gtr_to v3_14 (by have c_ := clI (i := x1_14) (by omega); omega)) hO_), (v4_14), (hM_), (hO_), (by first | with_reducible assumption | assumption | exact rng_zero (by omega) (by omega) | omega), (by first | with_reducible assumption | assumption | exact rng_zero (by omega) (by omega) | omega), by rw [ht]; exact hP, hD⟩, hS.F ht⟩) hS.2.2 dB_36_0_47.2.2.2.2
    · have t_15 : ¬ vp.toInt ≤ x1_14.toInt := fun h => c_15 (Int32.le_iff_toInt_le.mpr h)
      refine lv_aload_n hx hb dB_36_0_47.2.1.2.1 rfl (lv_at hl 1 rfl) ?_
      refine lv_iload_n hx hb dB_36_0_47.2.1.2.2 rfl (lv_at hl 0 rfl) ?_
      refine ct_S hP hD hS hA [ob1_0_ xt xc ta tb, ob0_0_ xc xn xk clo cro c4 c5 c6 c7 c8, ob3_0_ xn vp vn n1 n2 n3 n4 n5, ai_ cy ta 12 c_ta_14, ai_ cy tb 12 c_tb_14, ai_ cy n2 40 fs, ai_ cy n3 40 fe, aq_ cy 6 clo 12 (gf_ rl), ai_ cy (rl 0) 12 (eMl_2 0), ai_ cy (rl 1) 12 (eMl_2 1), ai_ cy (rl 2) 12 (eMl_2 2), ai_ cy (rl 3) 12 (eMl_2 3), ai_ cy (rl 4) 12 (eMl_2 4), ai_ cy (rl 5) 12 (eMl_2 5), ai_ cy (rl 6) 12 (eMl_2 6), ai_ cy (rl 7) 12 (eMl_2 7), ai_ cy (rl 8) 12 (eMl_2 8), ai_ cy (rl 9) 12 (eMl_2 9), ai_ cy (rl 10) 12 (eMl_2 10), ai_ cy (rl 11) 12 (eMl_2 11), aq_ cy 6 cro 12 (gf_ rr), ai_ cy (rr 0) 12 (m_rr_14 0), ai_ cy (rr 1) 12 (m_rr_14 1), ai_ cy (rr 2) 12 (m_rr_14 2), ai_ cy (rr 3) 12 (m_rr_14 3), ai_ cy (rr 4) 12 (m_rr_14 4), ai_ cy (rr 5) 12 (m_rr_14 5), ai_ cy (rr 6) 12 (m_rr_14 6), ai_ cy (rr 7) 12 (m_rr_14 7), ai_ cy (rr 8) 12 (m_rr_14 8), ai_ cy (rr 9) 12 (m_rr_14 9), ai_ cy (rr 10) 12 (m_rr_14 10), ai_ cy (rr 11) 12 (m_rr_14 11), ai_ cy c4 40 c_c4_14, ai_ cy c5 40 e5_3, ai_ cy c6 40 e6_4, ai_ cy c7 12 c_c7_14, ai_ cy c8 12 c_c8_14] [0, 1, 2, 3, 4, 6, 7, 9, 10, 11, 12, 13, 14, 15, 16, 17, 18, 19, 20, 21, 22, 23, 24, 25, 26, 27, 28, 29, 30, 31, 32, 33, 34, 35, 36, 37, 38, 39] (by decide +kernel) rfl (fun hPc hDw hFc hC_ => ?_)
      refine va_callv (va_runV (As := [.int x1_14]) (rest := []) ⟨hx, hb, hml, hown, hts⟩ (c_X1_hang2 l D cy H.size xt ta tb xc xk clo cro c4 c5 c6 c7 c8 xn n1 n2 n3 n4 n5 vp vn c_ta_14 c_tb_14 fs fe rl eMl_2 rr m_rr_14 c_c4_14 e5_3 e6_4 c_c7_14 c_c8_14 x1_14 (by first | with_reducible assumption | omega | assumption) (by first | with_reducible assumption | omega | assumption) (by first | with_reducible assumption | omega | assumption) (by first | with_reducible assumption | assumption | omega) (by first | with_reducible assumption | assumption | omega) (by first | with_reducible assumption | assumption | omega) (by first | with_reducible assumption | assumption | omega) (by first | with_reducible assumption | assumption | omega)) (cwV 1 hts gX1_grow_X1_hang rfl rfl rfl ⟨rfl, hd_X1_hang⟩ ⟨Nat.le_of_ble_eq_true rfl, Nat.le_of_ble_eq_true rfl⟩) ⟨bl_g, va_recvX hK.1 hP (ci := 1) (q0 := 0) rfl rfl, fun U hU hW => ⟨rfl, by rw [hU], by rw [hU]; exact hPc, ⟨kk_mv hW hK, arrOfT_moved hW.alike hG⟩, hDw⟩⟩ rfl rfl hl.1 rfl (lv_room (Nat.le_of_ble_eq_true rfl)) dB_36_0_47.2.2.1.1 ⟨Nat.le_of_ble_eq_true rfl, Nat.le_of_ble_eq_true rfl⟩) hS (fun q _ h => hFc q h) hFc (fun u t H locs ht hvm hw hB hz1 hk1 hS => ?_)
      obtain ⟨eMr_17, efx_18, efu_19, e4_20, e7_21, e8_22, g_23, g_24, g_25, g_26, g_27, hP1, hD1⟩ := hB
      rw [ht] at hP1
      obtain ⟨hP, hD⟩ := va_join (wr := [ai_ cy n1 40 fk, ai_ cy n4 40 fw, aq_ cy 3 xk 5 (kf_ k0 k1 k2 k3 k4), ob6_0_ k0, ob5_0_ k1, ob9_0_ k2, ob2_0_ k3, ob8_0_ k4]) (w1 := [ob1_0_ xt xc ta tb, ob0_0_ xc xn xk clo cro c4 c5 c6 c7 c8, ob3_0_ xn vp vn n1 n2 n3 n4 n5, ai_ cy ta 12 efx_18, ai_ cy tb 12 efu_19, ai_ cy n2 40 fs, ai_ cy n3 40 fe, aq_ cy 6 clo 12 (gf_ rl), ai_ cy (rl 0) 12 (eMl_2 0), ai_ cy (rl 1) 12 (eMl_2 1), ai_ cy (rl 2) 12 (eMl_2 2), ai_ cy (rl 3) 12 (eMl_2 3), ai_ cy (rl 4) 12 (eMl_2 4), ai_ cy (rl 5) 12 (eMl_2 5), ai_ cy (rl 6) 12 (eMl_2 6), ai_ cy (rl 7) 12 (eMl_2 7), ai_ cy (rl 8) 12 (eMl_2 8), ai_ cy (rl 9) 12 (eMl_2 9), ai_ cy (rl 10) 12 (eMl_2 10), ai_ cy (rl 11) 12 (eMl_2 11), aq_ cy 6 cro 12 (gf_ rr), ai_ cy (rr 0) 12 (eMr_17 0), ai_ cy (rr 1) 12 (eMr_17 1), ai_ cy (rr 2) 12 (eMr_17 2), ai_ cy (rr 3) 12 (eMr_17 3), ai_ cy (rr 4) 12 (eMr_17 4), ai_ cy (rr 5) 12 (eMr_17 5), ai_ cy (rr 6) 12 (eMr_17 6), ai_ cy (rr 7) 12 (eMr_17 7), ai_ cy (rr 8) 12 (eMr_17 8), ai_ cy (rr 9) 12 (eMr_17 9), ai_ cy (rr 10) 12 (eMr_17 10), ai_ cy (rr 11) 12 (eMr_17 11), ai_ cy c4 40 e4_20, ai_ cy c5 40 e5_3, ai_ cy c6 40 e6_4, ai_ cy c7 12 e7_21, ai_ cy c8 12 e8_22]) hP hD [0, 1, 2, 3, 4, 6, 7, 9, 10, 11, 12, 13, 14, 15, 16, 17, 18, 19, 20, 21, 22, 23, 24, 25, 26, 27, 28, 29, 30, 31, 32, 33, 34, 35, 36, 37, 38, 39] [5, 8, 40, 41, 42, 43, 44, 45] hC_ rfl (by decide) (by decide) hk1 hFc hP1 hD1
      refine pd_S hP hD [ob1_0_ xt xc ta tb, ob0_0_ xc xn xk clo cro c4 c5 c6 c7 c8, ob3_0_ xn vp vn n1 n2 n3 n4 n5, ai_ cy ta 12 efx_18, ai_ cy tb 12 efu_19, ai_ cy n1 40 fk, ai_ cy n2 40 fs, ai_ cy n3 40 fe, ai_ cy n4 40 fw, aq_ cy 6 clo 12 (gf_ rl), ai_ cy (rl 0) 12 (eMl_2 0), ai_ cy (rl 1) 12 (eMl_2 1), ai_ cy (rl 2) 12 (eMl_2 2), ai_ cy (rl 3) 12 (eMl_2 3), ai_ cy (rl 4) 12 (eMl_2 4), ai_ cy (rl 5) 12 (eMl_2 5), ai_ cy (rl 6) 12 (eMl_2 6), ai_ cy (rl 7) 12 (eMl_2 7), ai_ cy (rl 8) 12 (eMl_2 8), ai_ cy (rl 9) 12 (eMl_2 9), ai_ cy (rl 10) 12 (eMl_2 10), ai_ cy (rl 11) 12 (eMl_2 11), aq_ cy 6 cro 12 (gf_ rr), ai_ cy (rr 0) 12 (eMr_17 0), ai_ cy (rr 1) 12 (eMr_17 1), ai_ cy (rr 2) 12 (eMr_17 2), ai_ cy (rr 3) 12 (eMr_17 3), ai_ cy (rr 4) 12 (eMr_17 4), ai_ cy (rr 5) 12 (eMr_17 5), ai_ cy (rr 6) 12 (eMr_17 6), ai_ cy (rr 7) 12 (eMr_17 7), ai_ cy (rr 8) 12 (eMr_17 8), ai_ cy (rr 9) 12 (eMr_17 9), ai_ cy (rr 10) 12 (eMr_17 10), ai_ cy (rr 11) 12 (eMr_17 11), ai_ cy c4 40 e4_20, ai_ cy c5 40 e5_3, ai_ cy c6 40 e6_4, ai_ cy c7 12 e7_21, ai_ cy c8 12 e8_22, aq_ cy 3 xk 5 (kf_ k0 k1 k2 k3 k4), ob6_0_ k0, ob5_0_ k1, ob9_0_ k2, ob2_0_ k3, ob8_0_ k4] [8, 9, 10, 11, 12, 0, 13, 14, 1, 15, 16, 17, 18, 19, 20, 21, 22, 23, 24, 25, 26, 27, 28, 29, 30, 31, 32, 33, 34, 35, 36, 37, 38, 39, 40, 41, 42, 43, 44, 45, 2, 3, 4, 5, 6, 7] (by decide +kernel) rfl (fun hP hD => ?_)
      obtain ⟨y_28, ey_28⟩ : ∃ y : Int32, y = x1_14 + 1 := ⟨_, rfl⟩
      have ty_28 : y_28.toInt = x1_14.toInt + (1 : Int32).toInt := by rw [ey_28]; exact addI (by omega) (by omega)
      refine lv_iinc (v := y_28) (lv' := [(1, .int y_28), (0, .ref xt)]) hx hb dB_36_0_47.2.2.1.2 hl (k := 0) rfl (by rw [ey_28]; rfl) (by decide) rfl (fun ls hl => ?_)
      refine lv_goto (tgt := 35) hx hb dB_36_0_47.2.2.2.1 (by decide) ?_
      exact ih_14 y_28 efx_18 efu_19 eMr_17 e4_20 e7_21 e8_22 _ _ _ (by omega) (by first | with_reducible assumption | omega | assumption) (by first | with_reducible assumption | omega | assumption) (by first | with_reducible assumption | assumption | exact h1_ | exact trs_nx g_23 (by omega) (by omega)) (by first | exact h0_ | exact gtr_nx v3_14 (by omega) g_24 (by omega)) (by first | exact hz0_ | exact ⟨by rw [g_25.1]; exact v4_14.1, by rw [g_25.2]; exact v4_14.2⟩) (by first | with_reducible assumption | omega | assumption) (by first | with_reducible assumption | assumption | exact rng_zero (by omega) (by omega) | exact orng_zero) (by first | with_reducible assumption | assumption | exact rng_zero (by omega) (by omega) | exact orng_zero) ⟨hP, hD⟩ hS (lv_sub hl [0, 1] rfl)
end

section
set_option maxHeartbeats 4000000 in
set_option maxRecDepth 100000 in
theorem c_X11_tree2 (l : Launch) (D : va_G) (cy : Nat → ClassId) (sz : Nat) (xo : Nat) (xk : Nat) (xn : Nat) (xc : Nat) (xh : Nat) (xt : Nat) (xw : Nat) (xm : Nat) (xp : Nat) (pf : Int32) (ph : Int32) (tr : Int64) (fi : Int32) (n1 : Nat) (n2 : Nat) (n3 : Nat) (n4 : Nat) (n5 : Nat) (vp : Int32) (vn : Int32) (clo : Nat) (cro : Nat) (c4 : Nat) (c5 : Nat) (c6 : Nat) (c7 : Nat) (c8 : Nat) (fk : Nat → Int32) (fs : Nat → Int32) (fe : Nat → Int32) (fw : Nat → Int32) (fp : Nat → Int32) (rl : Nat → Nat) (Ml : Nat → Nat → Int32) (rr : Nat → Nat) (Mr : Nat → Nat → Int32) (f4 : Nat → Int32) (f5 : Nat → Int32) (f6 : Nat → Int32) (f7 : Nat → Int32) (f8 : Nat → Int32) (k0 : Nat) (k1 : Nat) (k2 : Nat) (k3 : Nat) (k4 : Nat) (ta : Nat) (tb : Nat) (fx : Nat → Int32) (fu : Nat → Int32) (a1 : Int32) (a2 : Int32) (hvp : 0 ≤ vp.toInt ∧ vp.toInt ≤ 12) (hvn : 0 ≤ vn.toInt ∧ vn.toInt ≤ 40) (hnc : netC vp.toInt vn.toInt fs fe) (hpr : prng fs fe 40) (r_f7 : rng f7 12 (0) (11)) (r_f8 : rng f8 12 (0) (11)) (r_fk : rng fk 40 (0) (4)) (r_fw : rng fw 40 (0) (2000)) : Met l yX11_tree wsX11_tree ({ frames := 6, cells := 0, slots := 0, locals := 134 }) (va_Pc [.ref xo, .int a1, .int a2] (fun U => U.heap.size = sz ∧ va_P D vwCl [ob11_0_ xo xk xn xc xh xt xw xm xp pf ph tr fi, ob3_0_ xn vp vn n1 n2 n3 n4 n5, ai_ cy n1 40 fk, ai_ cy n2 40 fs, ai_ cy n3 40 fe, ai_ cy n4 40 fw, ai_ cy n5 40 fp, ob0_0_ xc xn xk clo cro c4 c5 c6 c7 c8, aq_ cy 6 clo 12 (gf_ rl), ai_ cy (rl 0) 12 (Ml 0), ai_ cy (rl 1) 12 (Ml 1), ai_ cy (rl 2) 12 (Ml 2), ai_ cy (rl 3) 12 (Ml 3), ai_ cy (rl 4) 12 (Ml 4), ai_ cy (rl 5) 12 (Ml 5), ai_ cy (rl 6) 12 (Ml 6), ai_ cy (rl 7) 12 (Ml 7), ai_ cy (rl 8) 12 (Ml 8), ai_ cy (rl 9) 12 (Ml 9), ai_ cy (rl 10) 12 (Ml 10), ai_ cy (rl 11) 12 (Ml 11), aq_ cy 6 cro 12 (gf_ rr), ai_ cy (rr 0) 12 (Mr 0), ai_ cy (rr 1) 12 (Mr 1), ai_ cy (rr 2) 12 (Mr 2), ai_ cy (rr 3) 12 (Mr 3), ai_ cy (rr 4) 12 (Mr 4), ai_ cy (rr 5) 12 (Mr 5), ai_ cy (rr 6) 12 (Mr 6), ai_ cy (rr 7) 12 (Mr 7), ai_ cy (rr 8) 12 (Mr 8), ai_ cy (rr 9) 12 (Mr 9), ai_ cy (rr 10) 12 (Mr 10), ai_ cy (rr 11) 12 (Mr 11), ai_ cy c4 40 f4, ai_ cy c5 40 f5, ai_ cy c6 40 f6, ai_ cy c7 12 f7, ai_ cy c8 12 f8, aq_ cy 3 xk 5 (kf_ k0 k1 k2 k3 k4), ob6_0_ k0, ob5_0_ k1, ob9_0_ k2, ob2_0_ k3, ob8_0_ k4, ob1_0_ xt xc ta tb, ai_ cy ta 12 fx, ai_ cy tb 12 fu] U.heap ∧ kg_ D cy U ∧ va_D (fun _ => True) [ob11_0_ xo xk xn xc xh xt xw xm xp pf ph tr fi, ob3_0_ xn vp vn n1 n2 n3 n4 n5, ai_ cy n1 40 fk, ai_ cy n2 40 fs, ai_ cy n3 40 fe, ai_ cy n4 40 fw, ai_ cy n5 40 fp, ob0_0_ xc xn xk clo cro c4 c5 c6 c7 c8, aq_ cy 6 clo 12 (gf_ rl), ai_ cy (rl 0) 12 (Ml 0), ai_ cy (rl 1) 12 (Ml 1), ai_ cy (rl 2) 12 (Ml 2), ai_ cy (rl 3) 12 (Ml 3), ai_ cy (rl 4) 12 (Ml 4), ai_ cy (rl 5) 12 (Ml 5), ai_ cy (rl 6) 12 (Ml 6), ai_ cy (rl 7) 12 (Ml 7), ai_ cy (rl 8) 12 (Ml 8), ai_ cy (rl 9) 12 (Ml 9), ai_ cy (rl 10) 12 (Ml 10), ai_ cy (rl 11) 12 (Ml 11), aq_ cy 6 cro 12 (gf_ rr), ai_ cy (rr 0) 12 (Mr 0), ai_ cy (rr 1) 12 (Mr 1), ai_ cy (rr 2) 12 (Mr 2), ai_ cy (rr 3) 12 (Mr 3), ai_ cy (rr 4) 12 (Mr 4), ai_ cy (rr 5) 12 (Mr 5), ai_ cy (rr 6) 12 (Mr 6), ai_ cy (rr 7) 12 (Mr 7), ai_ cy (rr 8) 12 (Mr 8), ai_ cy (rr 9) 12 (Mr 9), ai_ cy (rr 10) 12 (Mr 10), ai_ cy (rr 11) 12 (Mr 11), ai_ cy c4 40 f4, ai_ cy c5 40 f5, ai_ cy c6 40 f6, ai_ cy c7 12 f7, ai_ cy c8 12 f8, aq_ cy 3 xk 5 (kf_ k0 k1 k2 k3 k4), ob6_0_ k0, ob5_0_ k1, ob9_0_ k2, ob2_0_ k3, ob8_0_ k4, ob1_0_ xt xc ta tb, ai_ cy ta 12 fx, ai_ cy tb 12 fu])) (va_Qi (fun (r : Int32) (_ : Unit) => ((trI a1.toInt a2.toInt vp.toInt (sumI (bkF fk fs) vn.toNatClampNeg) = 0 → trA (cutF fk fs fe fw (-9) vn.toNatClampNeg) vp.toNatClampNeg a1.toNatClampNeg a2.toInt r) ∧ (trI a1.toInt a2.toInt vp.toInt (sumI (bkF fk fs) vn.toNatClampNeg) ≠ 0 → r.toInt = trI a1.toInt a2.toInt vp.toInt (sumI (bkF fk fs) vn.toNatClampNeg)))) (fun (_ : Unit) (t : State) => ∃ (eMl : Nat → Nat → Int32), ∃ (eMr : Nat → Nat → Int32), ∃ (e4 : Nat → Int32), ∃ (e5 : Nat → Int32), ∃ (e6 : Nat → Int32), ∃ (e7 : Nat → Int32), ∃ (e8 : Nat → Int32), ∃ (efx : Nat → Int32), ∃ (efu : Nat → Int32), (rng e7 12 (0) (11)) ∧ (rng e8 12 (0) (11)) ∧ va_P D vwCl [ob11_0_ xo xk xn xc xh xt xw xm xp pf ph tr fi, ob3_0_ xn vp vn n1 n2 n3 n4 n5, ai_ cy n1 40 fk, ai_ cy n2 40 fs, ai_ cy n3 40 fe, ai_ cy n4 40 fw, ai_ cy n5 40 fp, ob0_0_ xc xn xk clo cro c4 c5 c6 c7 c8, aq_ cy 6 clo 12 (gf_ rl), ai_ cy (rl 0) 12 (eMl 0), ai_ cy (rl 1) 12 (eMl 1), ai_ cy (rl 2) 12 (eMl 2), ai_ cy (rl 3) 12 (eMl 3), ai_ cy (rl 4) 12 (eMl 4), ai_ cy (rl 5) 12 (eMl 5), ai_ cy (rl 6) 12 (eMl 6), ai_ cy (rl 7) 12 (eMl 7), ai_ cy (rl 8) 12 (eMl 8), ai_ cy (rl 9) 12 (eMl 9), ai_ cy (rl 10) 12 (eMl 10), ai_ cy (rl 11) 12 (eMl 11), aq_ cy 6 cro 12 (gf_ rr), ai_ cy (rr 0) 12 (eMr 0), ai_ cy (rr 1) 12 (eMr 1), ai_ cy (rr 2) 12 (eMr 2), ai_ cy (rr 3) 12 (eMr 3), ai_ cy (rr 4) 12 (eMr 4), ai_ cy (rr 5) 12 (eMr 5), ai_ cy (rr 6) 12 (eMr 6), ai_ cy (rr 7) 12 (eMr 7), ai_ cy (rr 8) 12 (eMr 8), ai_ cy (rr 9) 12 (eMr 9), ai_ cy (rr 10) 12 (eMr 10), ai_ cy (rr 11) 12 (eMr 11), ai_ cy c4 40 e4, ai_ cy c5 40 e5, ai_ cy c6 40 e6, ai_ cy c7 12 e7, ai_ cy c8 12 e8, aq_ cy 3 xk 5 (kf_ k0 k1 k2 k3 k4), ob6_0_ k0, ob5_0_ k1, ob9_0_ k2, ob2_0_ k3, ob8_0_ k4, ob1_0_ xt xc ta tb, ai_ cy ta 12 efx, ai_ cy tb 12 efu] t.heap ∧ va_D (va_A [ob11_0_ xo xk xn xc xh xt xw xm xp pf ph tr fi, ob3_0_ xn vp vn n1 n2 n3 n4 n5, ai_ cy n1 40 fk, ai_ cy n2 40 fs, ai_ cy n3 40 fe, ai_ cy n4 40 fw, ai_ cy n5 40 fp, ob0_0_ xc xn xk clo cro c4 c5 c6 c7 c8, aq_ cy 6 clo 12 (gf_ rl), ai_ cy (rl 0) 12 (Ml 0), ai_ cy (rl 1) 12 (Ml 1), ai_ cy (rl 2) 12 (Ml 2), ai_ cy (rl 3) 12 (Ml 3), ai_ cy (rl 4) 12 (Ml 4), ai_ cy (rl 5) 12 (Ml 5), ai_ cy (rl 6) 12 (Ml 6), ai_ cy (rl 7) 12 (Ml 7), ai_ cy (rl 8) 12 (Ml 8), ai_ cy (rl 9) 12 (Ml 9), ai_ cy (rl 10) 12 (Ml 10), ai_ cy (rl 11) 12 (Ml 11), aq_ cy 6 cro 12 (gf_ rr), ai_ cy (rr 0) 12 (Mr 0), ai_ cy (rr 1) 12 (Mr 1), ai_ cy (rr 2) 12 (Mr 2), ai_ cy (rr 3) 12 (Mr 3), ai_ cy (rr 4) 12 (Mr 4), ai_ cy (rr 5) 12 (Mr 5), ai_ cy (rr 6) 12 (Mr 6), ai_ cy (rr 7) 12 (Mr 7), ai_ cy (rr 8) 12 (Mr 8), ai_ cy (rr 9) 12 (Mr 9), ai_ cy (rr 10) 12 (Mr 10), ai_ cy (rr 11) 12 (Mr 11), ai_ cy c4 40 f4, ai_ cy c5 40 f5, ai_ cy c6 40 f6, ai_ cy c7 12 f7, ai_ cy c8 12 f8, aq_ cy 3 xk 5 (kf_ k0 k1 k2 k3 k4), ob6_0_ k0, ob5_0_ k1, ob9_0_ k2, ob2_0_ k3, ob8_0_ k4, ob1_0_ xt xc ta tb, ai_ cy ta 12 fx, ai_ cy tb 12 fu] sz) [ob11_0_ xo xk xn xc xh xt xw xm xp pf ph tr fi, ob3_0_ xn vp vn n1 n2 n3 n4 n5, ai_ cy n1 40 fk, ai_ cy n2 40 fs, ai_ cy n3 40 fe, ai_ cy n4 40 fw, ai_ cy n5 40 fp, ob0_0_ xc xn xk clo cro c4 c5 c6 c7 c8, aq_ cy 6 clo 12 (gf_ rl), ai_ cy (rl 0) 12 (eMl 0), ai_ cy (rl 1) 12 (eMl 1), ai_ cy (rl 2) 12 (eMl 2), ai_ cy (rl 3) 12 (eMl 3), ai_ cy (rl 4) 12 (eMl 4), ai_ cy (rl 5) 12 (eMl 5), ai_ cy (rl 6) 12 (eMl 6), ai_ cy (rl 7) 12 (eMl 7), ai_ cy (rl 8) 12 (eMl 8), ai_ cy (rl 9) 12 (eMl 9), ai_ cy (rl 10) 12 (eMl 10), ai_ cy (rl 11) 12 (eMl 11), aq_ cy 6 cro 12 (gf_ rr), ai_ cy (rr 0) 12 (eMr 0), ai_ cy (rr 1) 12 (eMr 1), ai_ cy (rr 2) 12 (eMr 2), ai_ cy (rr 3) 12 (eMr 3), ai_ cy (rr 4) 12 (eMr 4), ai_ cy (rr 5) 12 (eMr 5), ai_ cy (rr 6) 12 (eMr 6), ai_ cy (rr 7) 12 (eMr 7), ai_ cy (rr 8) 12 (eMr 8), ai_ cy (rr 9) 12 (eMr 9), ai_ cy (rr 10) 12 (eMr 10), ai_ cy (rr 11) 12 (eMr 11), ai_ cy c4 40 e4, ai_ cy c5 40 e5, ai_ cy c6 40 e6, ai_ cy c7 12 e7, ai_ cy c8 12 e8, aq_ cy 3 xk 5 (kf_ k0 k1 k2 k3 k4), ob6_0_ k0, ob5_0_ k1, ob9_0_ k2, ob2_0_ k3, ob8_0_ k4, ob1_0_ xt xc ta tb, ai_ cy ta 12 efx, ai_ cy tb 12 efu]) (va_A [ob11_0_ xo xk xn xc xh xt xw xm xp pf ph tr fi, ob3_0_ xn vp vn n1 n2 n3 n4 n5, ai_ cy n1 40 fk, ai_ cy n2 40 fs, ai_ cy n3 40 fe, ai_ cy n4 40 fw, ai_ cy n5 40 fp, ob0_0_ xc xn xk clo cro c4 c5 c6 c7 c8, aq_ cy 6 clo 12 (gf_ rl), ai_ cy (rl 0) 12 (Ml 0), ai_ cy (rl 1) 12 (Ml 1), ai_ cy (rl 2) 12 (Ml 2), ai_ cy (rl 3) 12 (Ml 3), ai_ cy (rl 4) 12 (Ml 4), ai_ cy (rl 5) 12 (Ml 5), ai_ cy (rl 6) 12 (Ml 6), ai_ cy (rl 7) 12 (Ml 7), ai_ cy (rl 8) 12 (Ml 8), ai_ cy (rl 9) 12 (Ml 9), ai_ cy (rl 10) 12 (Ml 10), ai_ cy (rl 11) 12 (Ml 11), aq_ cy 6 cro 12 (gf_ rr), ai_ cy (rr 0) 12 (Mr 0), ai_ cy (rr 1) 12 (Mr 1), ai_ cy (rr 2) 12 (Mr 2), ai_ cy (rr 3) 12 (Mr 3), ai_ cy (rr 4) 12 (Mr 4), ai_ cy (rr 5) 12 (Mr 5), ai_ cy (rr 6) 12 (Mr 6), ai_ cy (rr 7) 12 (Mr 7), ai_ cy (rr 8) 12 (Mr 8), ai_ cy (rr 9) 12 (Mr 9), ai_ cy (rr 10) 12 (Mr 10), ai_ cy (rr 11) 12 (Mr 11), ai_ cy c4 40 f4, ai_ cy c5 40 f5, ai_ cy c6 40 f6, ai_ cy c7 12 f7, ai_ cy c8 12 f8, aq_ cy 3 xk 5 (kf_ k0 k1 k2 k3 k4), ob6_0_ k0, ob5_0_ k1, ob9_0_ k2, ob2_0_ k3, ob8_0_ k4, ob1_0_ xt xc ta tb, ai_ cy ta 12 fx, ai_ cy tb 12 fu] sz)) 0 0 (va_A [ob11_0_ xo xk xn xc xh xt xw xm xp pf ph tr fi, ob3_0_ xn vp vn n1 n2 n3 n4 n5, ai_ cy n1 40 fk, ai_ cy n2 40 fs, ai_ cy n3 40 fe, ai_ cy n4 40 fw, ai_ cy n5 40 fp, ob0_0_ xc xn xk clo cro c4 c5 c6 c7 c8, aq_ cy 6 clo 12 (gf_ rl), ai_ cy (rl 0) 12 (Ml 0), ai_ cy (rl 1) 12 (Ml 1), ai_ cy (rl 2) 12 (Ml 2), ai_ cy (rl 3) 12 (Ml 3), ai_ cy (rl 4) 12 (Ml 4), ai_ cy (rl 5) 12 (Ml 5), ai_ cy (rl 6) 12 (Ml 6), ai_ cy (rl 7) 12 (Ml 7), ai_ cy (rl 8) 12 (Ml 8), ai_ cy (rl 9) 12 (Ml 9), ai_ cy (rl 10) 12 (Ml 10), ai_ cy (rl 11) 12 (Ml 11), aq_ cy 6 cro 12 (gf_ rr), ai_ cy (rr 0) 12 (Mr 0), ai_ cy (rr 1) 12 (Mr 1), ai_ cy (rr 2) 12 (Mr 2), ai_ cy (rr 3) 12 (Mr 3), ai_ cy (rr 4) 12 (Mr 4), ai_ cy (rr 5) 12 (Mr 5), ai_ cy (rr 6) 12 (Mr 6), ai_ cy (rr 7) 12 (Mr 7), ai_ cy (rr 8) 12 (Mr 8), ai_ cy (rr 9) 12 (Mr 9), ai_ cy (rr 10) 12 (Mr 10), ai_ cy (rr 11) 12 (Mr 11), ai_ cy c4 40 f4, ai_ cy c5 40 f5, ai_ cy c6 40 f6, ai_ cy c7 12 f7, ai_ cy c8 12 f8, aq_ cy 3 xk 5 (kf_ k0 k1 k2 k3 k4), ob6_0_ k0, ob5_0_ k1, ob9_0_ k2, ob2_0_ k3, ob8_0_ k4, ob1_0_ xt xc ta tb, ai_ cy ta 12 fx, ai_ cy tb 12 fu] sz) := by
  refine ofQ (cc := cX11_tree) (maxL := 3) (ret := (some .int)) (by decide) rfl ?_
  intro p e s m args below meth c s₁ Q hQ B hml hv
  obtain ⟨rfl, hsz, hP, hK, hD0⟩ := hv
  have hG := hK.2
  have hK := hK.1
  have hx := B.exec
  have hb := B.bytes
  have hr := B.returns
  have hts := atoms_spec (ws := wsX11_tree) B.pre
  have hown : s.vm.findClass RX11 = some m.cls := by have h_ := findClass_of_methodNamed B.named; exact h_
  have hlocks := B.notSynchronized
  subst hsz
  have hD := hD0.self (sz := s.heap.size)
  generalize hAe : va_A [ob11_0_ xo xk xn xc xh xt xw xm xp pf ph tr fi, ob3_0_ xn vp vn n1 n2 n3 n4 n5, ai_ cy n1 40 fk, ai_ cy n2 40 fs, ai_ cy n3 40 fe, ai_ cy n4 40 fw, ai_ cy n5 40 fp, ob0_0_ xc xn xk clo cro c4 c5 c6 c7 c8, aq_ cy 6 clo 12 (gf_ rl), ai_ cy (rl 0) 12 (Ml 0), ai_ cy (rl 1) 12 (Ml 1), ai_ cy (rl 2) 12 (Ml 2), ai_ cy (rl 3) 12 (Ml 3), ai_ cy (rl 4) 12 (Ml 4), ai_ cy (rl 5) 12 (Ml 5), ai_ cy (rl 6) 12 (Ml 6), ai_ cy (rl 7) 12 (Ml 7), ai_ cy (rl 8) 12 (Ml 8), ai_ cy (rl 9) 12 (Ml 9), ai_ cy (rl 10) 12 (Ml 10), ai_ cy (rl 11) 12 (Ml 11), aq_ cy 6 cro 12 (gf_ rr), ai_ cy (rr 0) 12 (Mr 0), ai_ cy (rr 1) 12 (Mr 1), ai_ cy (rr 2) 12 (Mr 2), ai_ cy (rr 3) 12 (Mr 3), ai_ cy (rr 4) 12 (Mr 4), ai_ cy (rr 5) 12 (Mr 5), ai_ cy (rr 6) 12 (Mr 6), ai_ cy (rr 7) 12 (Mr 7), ai_ cy (rr 8) 12 (Mr 8), ai_ cy (rr 9) 12 (Mr 9), ai_ cy (rr 10) 12 (Mr 10), ai_ cy (rr 11) 12 (Mr 11), ai_ cy c4 40 f4, ai_ cy c5 40 f5, ai_ cy c6 40 f6, ai_ cy c7 12 f7, ai_ cy c8 12 f8, aq_ cy 3 xk 5 (kf_ k0 k1 k2 k3 k4), ob6_0_ k0, ob5_0_ k1, ob9_0_ k2, ob2_0_ k3, ob8_0_ k4, ob1_0_ xt xc ta tb, ai_ cy ta 12 fx, ai_ cy tb 12 fu] s.heap.size = A at hD hQ
  have hA : ∀ q : Nat, s.heap.size ≤ q → A q := fun q h => by rw [← hAe]; exact Or.inr h
  have hS : va_S A s.heap s.heap [] := va_S.rf
  have hl := lv_entry ([.ref xo, .int a1, .int a2]) (n := 3) (Nat.le_of_ble_eq_true rfl)
  rw [lg_entry_eq]
  generalize (lg_sl ([.ref xo, .int a1, .int a2]) ++ List.replicate (3 - (lg_sl ([.ref xo, .int a1, .int a2])).length) Slot.unset).toArray = ls at hl ⊢
  have hl : lv_has ls 3 [(0, .ref xo), (1, .int a1), (2, .int a2)] := hl
  have zm2 : ((-2) : Int32).toInt = -2 := by decide
  have zm1 : ((-1) : Int32).toInt = -1 := by decide
  have z0 : (0 : Int32).toInt = 0 := by decide
  have z1 : (1 : Int32).toInt = 1 := by decide
  have zq0 : (0 : Int32).toInt = 0 := by decide
  have zq1 : (1 : Int32).toInt = 1 := by decide
  have zq2 : (2 : Int32).toInt = 2 := by decide
  have zq3 : (3 : Int32).toInt = 3 := by decide
  have zq4 : (4 : Int32).toInt = 4 := by decide
  have zq5 : (5 : Int32).toInt = 5 := by decide
  have zqm9 : ((-9) : Int32).toInt = -9 := by decide
  have zqm1 : ((-1) : Int32).toInt = -1 := by decide
  have zqm2 : ((-2) : Int32).toInt = -2 := by decide
  refine lv_iload_n hx hb dB_36_3_66.1.1.1.1 rfl (lv_at hl 2 rfl) ?_
  refine lv_if_lt (tgt := 9) hx hb dB_36_3_66.1.1.1.2 (by decide) (fun c_1 => ?_) (fun c_1 => ?_)
  · have t_1 : a2.toInt < (0 : Int32).toInt := Int32.lt_iff_toInt_lt.mp c_1
    refine lv_iconst (v := (-1)) hx hb dB_36_3_66.1.2.1.2 (by decide) ?_
    rw [hQ]
    exact W.iret (v := (-1)) hx hb hr (fun t ht hW => ⟨⟨(-1), (), rfl, (⟨fun h => absurd h (by unfold trI; (repeat' (first | with_reducible refine if_n (by omega) ?_ | with_reducible refine if_ns (by omega) ?_ | with_reducible refine if_nz (by omega) ?_ | with_reducible exact if_p (by omega) (by omega) | with_reducible exact if_ps (by omega) (by omega) | with_reducible exact if_pz (by omega) (by omega))) <;> omega), fun _ => (by unfold trI; (repeat' (first | with_reducible refine if_n (by omega) ?_ | with_reducible refine if_ns (by omega) ?_ | with_reducible refine if_nz (by omega) ?_ | with_reducible exact if_p (by omega) (by omega) | with_reducible exact if_ps (by omega) (by omega) | with_reducible exact if_pz (by omega) (by omega))) <;> omega)⟩), Ml, Mr, f4, f5, f6, f7, f8, fx, fu, (by first | with_reducible assumption | assumption | exact rng_zero (by omega) (by omega) | omega), (by first | with_reducible assumption | assumption | exact rng_zero (by omega) (by omega) | omega), by rw [ht]; exact hP, hD⟩, hS.F ht⟩) hS.2.2 dB_36_3_66.1.2.2.1
  · have t_1 : ¬ a2.toInt < (0 : Int32).toInt := fun h => c_1 (Int32.lt_iff_toInt_lt.mpr h)
    refine lv_iload_n hx hb dB_36_3_66.1.1.2.1 rfl (lv_at hl 2 rfl) ?_
    refine lv_iconst (v := 1) hx hb dB_36_3_66.1.1.2.2 (by decide) ?_
    refine lv_icmp_le (tgt := 11) hx hb dB_36_3_66.1.2.1.1 (by decide) (fun c_2 => ?_) (fun c_2 => ?_)
    · have t_2 : a2.toInt ≤ (1 : Int32).toInt := Int32.le_iff_toInt_le.mp c_2
      refine lv_aload_n hx hb dB_36_3_66.1.2.2.2 rfl (lv_at hl 0 rfl) ?_
      refine va_get (ci := 11) (v := .ref xn) (C := RX11) (T := TX11) (N := 12) hx hb hts (fun _ h => List.mem_cons_of_mem _ (List.mem_append_left _ (List.mem_append_left _ (List.mem_append_left _ (List.mem_append_right _ h))))) hown hK.1 hP 0 rfl rfl 1 (by decide) (hts (.fieldLink RX11 31 "CutAtlas" "net" "LCutAtlas$Net;") (List.mem_of_getElem? (i := 1) rfl)) (fun _ h9 => h9) rfl dB_36_3_66.2.1.1.1 ?_
      refine ct_R hP hD [ob3_0_ xn vp vn n1 n2 n3 n4 n5, ai_ cy n1 40 fk, ai_ cy n2 40 fs] [1, 2, 3] (by decide) rfl (fun hPc hDw => ?_)
      have hFc := va_free (wc := []) hD hS hA [] rfl
      refine va_calli (va_runV (As := []) (rest := []) ⟨hx, hb, hml, hown, hts⟩ (c_X3_isWhole2 l D cy s.heap.size xn n1 n2 n3 n4 n5 vp vn fk fs (by first | with_reducible assumption | omega | assumption)) (cwV 0 hts gX11_tree_X3_isWhole rfl rfl rfl ⟨rfl, hd_X3_isWhole⟩ ⟨Nat.le_of_ble_eq_true rfl, Nat.le_of_ble_eq_true rfl⟩) ⟨bl_, va_recvX hK.1 hP (ci := 3) (q0 := 1) rfl rfl, fun U hU hW => ⟨rfl, by rw [hU], by rw [hU]; exact hPc, kk_mv hW hK, hDw⟩⟩ rfl rfl hl.1 rfl (lv_room (Nat.le_of_ble_eq_true rfl)) dB_36_3_66.2.1.1.2 ⟨Nat.le_of_ble_eq_true rfl, Nat.le_of_ble_eq_true rfl⟩) hS (fun q _ h => hFc q h) hFc (fun r_3 u t H locs ht hvm hw hB hz1 hk1 hS => ?_)
      have hP : va_P D vwCl _ H := ro_keep hP hk1
      obtain ⟨f0_r_3, f1_r_3⟩ := hw
      have hw1_ := f1_r_3
      refine lv_if_ne (tgt := 24) hx hb dB_36_3_66.2.1.2.1 (by decide) (fun c_4 => ?_) (fun c_4 => ?_)
      · have t_4 : ¬ r_3.toInt = (0 : Int32).toInt := fun h => c_4 (Int32.toInt_inj.mp h)
        have hwi_ : sumI (bkF fk fs) vn.toNatClampNeg = 0 := (whI_1 (P := vp.toInt) (by omega)).2
        refine lv_aload_n hx hb dB_36_3_66.2.2.1.2 rfl (lv_at hl 0 rfl) ?_
        refine va_get (ci := 11) (v := .ref xn) (C := RX11) (T := TX11) (N := 12) hx hb hts (fun _ h => List.mem_cons_of_mem _ (List.mem_append_left _ (List.mem_append_left _ (List.mem_append_left _ (List.mem_append_right _ h))))) hown hK.1 hP 0 rfl rfl 1 (by decide) (hts (.fieldLink RX11 31 "CutAtlas" "net" "LCutAtlas$Net;") (List.mem_of_getElem? (i := 1) rfl)) (fun _ h9 => h9) rfl dB_36_3_66.2.2.2.1 ?_
        refine lv_iload_n hx hb dB_36_3_66.2.2.2.2 rfl (lv_at hl 1 rfl) ?_
        refine lv_i2l (v := a1.toInt64) hx hb dB_36_3_67.1.1.1.1 rfl ?_
        have q_29 : (a1.toInt64).toInt = a1.toInt := Int32.toInt_toInt64 a1
        refine ct_R hP hD [ob3_0_ xn vp vn n1 n2 n3 n4 n5] [1] (by decide) rfl (fun hPc hDw => ?_)
        have hFc := va_free (wc := []) hD hS hA [] rfl
        refine va_calli (va_runV (As := [.long a1.toInt64]) (rest := []) ⟨hx, hb, hml, hown, hts⟩ (c_X3_hasPlace l D cy H.size xn n1 n2 n3 n4 n5 vp vn a1.toInt64) (cwV 1 hts gX11_tree_X3_hasPlace rfl rfl rfl ⟨rfl, hd_X3_hasPlace⟩ ⟨Nat.le_of_ble_eq_true rfl, Nat.le_of_ble_eq_true rfl⟩) ⟨bl_, va_recvX hK.1 hP (ci := 3) (q0 := 1) rfl rfl, fun U hU hW => ⟨rfl, by rw [hU], by rw [hU]; exact hPc, kk_mv hW hK, hDw⟩⟩ rfl rfl hl.1 rfl (lv_room (Nat.le_of_ble_eq_true rfl)) dB_36_3_67.1.1.1.2 ⟨Nat.le_of_ble_eq_true rfl, Nat.le_of_ble_eq_true rfl⟩) hS (fun q _ h => hFc q h) hFc (fun r_5 u t H locs ht hvm hw hB hz1 hk1 hS => ?_)
        have hP : va_P D vwCl _ H := ro_keep hP hk1
        rcases hw with ⟨w_6, e_⟩ | ⟨w_6, e_⟩
        · have e_ := e_.symm
          subst e_
          refine lv_if_ne (tgt := 38) hx hb dB_36_3_67.1.1.2.1 (by decide) (fun c_7 => ?_) (fun c_7 => ?_)
          · have _ := c_7
            refine lv_aload_n hx hb dB_36_3_67.1.2.1.2 rfl (lv_at hl 0 rfl) ?_
            refine va_get (ci := 11) (v := .ref xt) (C := RX11) (T := TX11) (N := 12) hx hb hts (fun _ h => List.mem_cons_of_mem _ (List.mem_append_left _ (List.mem_append_left _ (List.mem_append_left _ (List.mem_append_right _ h))))) hown hK.1 hP 0 rfl rfl 4 (by decide) (hts (.fieldLink RX11 56 "CutAtlas" "cutTree" "LCutAtlas$CutTree;") (List.mem_of_getElem? (i := 2) rfl)) (fun _ h9 => h9) rfl dB_36_3_67.1.2.2.1 ?_
            refine ct_S hP hD hS hA [ob1_0_ xt xc ta tb, ob0_0_ xc xn xk clo cro c4 c5 c6 c7 c8, ob3_0_ xn vp vn n1 n2 n3 n4 n5, ai_ cy ta 12 fx, ai_ cy tb 12 fu, ai_ cy n1 40 fk, ai_ cy n2 40 fs, ai_ cy n3 40 fe, ai_ cy n4 40 fw, aq_ cy 6 clo 12 (gf_ rl), ai_ cy (rl 0) 12 (Ml 0), ai_ cy (rl 1) 12 (Ml 1), ai_ cy (rl 2) 12 (Ml 2), ai_ cy (rl 3) 12 (Ml 3), ai_ cy (rl 4) 12 (Ml 4), ai_ cy (rl 5) 12 (Ml 5), ai_ cy (rl 6) 12 (Ml 6), ai_ cy (rl 7) 12 (Ml 7), ai_ cy (rl 8) 12 (Ml 8), ai_ cy (rl 9) 12 (Ml 9), ai_ cy (rl 10) 12 (Ml 10), ai_ cy (rl 11) 12 (Ml 11), aq_ cy 6 cro 12 (gf_ rr), ai_ cy (rr 0) 12 (Mr 0), ai_ cy (rr 1) 12 (Mr 1), ai_ cy (rr 2) 12 (Mr 2), ai_ cy (rr 3) 12 (Mr 3), ai_ cy (rr 4) 12 (Mr 4), ai_ cy (rr 5) 12 (Mr 5), ai_ cy (rr 6) 12 (Mr 6), ai_ cy (rr 7) 12 (Mr 7), ai_ cy (rr 8) 12 (Mr 8), ai_ cy (rr 9) 12 (Mr 9), ai_ cy (rr 10) 12 (Mr 10), ai_ cy (rr 11) 12 (Mr 11), ai_ cy c4 40 f4, ai_ cy c5 40 f5, ai_ cy c6 40 f6, ai_ cy c7 12 f7, ai_ cy c8 12 f8, aq_ cy 3 xk 5 (kf_ k0 k1 k2 k3 k4), ob6_0_ k0, ob5_0_ k1, ob9_0_ k2, ob2_0_ k3, ob8_0_ k4] [45, 7, 1, 46, 47, 2, 3, 4, 5, 8, 9, 10, 11, 12, 13, 14, 15, 16, 17, 18, 19, 20, 21, 22, 23, 24, 25, 26, 27, 28, 29, 30, 31, 32, 33, 34, 35, 36, 37, 38, 39, 40, 41, 42, 43, 44] (by decide +kernel) rfl (fun hPc hDw hFc hC_ => ?_)
            refine va_callv (va_runV (As := []) (rest := []) ⟨hx, hb, hml, hown, hts⟩ (c_X1_grow2 l D cy H.size xt ta tb xc xk clo cro c4 c5 c6 c7 c8 xn n1 n2 n3 n4 n5 vp vn fx fu fk fs fe fw rl Ml rr Mr f4 f5 f6 f7 f8 k0 k1 k2 k3 k4 (by first | with_reducible assumption | omega | assumption) (by first | with_reducible assumption | omega | assumption) (by first | with_reducible assumption | assumption | omega) (by first | with_reducible assumption | omega | assumption) (by first | with_reducible assumption | assumption | omega) (by first | with_reducible assumption | assumption | omega) (by first | with_reducible assumption | assumption | omega) (by first | with_reducible assumption | assumption | omega) (by first | with_reducible assumption | assumption | omega)) (cwV 0 hts gX11_tree_X1_grow rfl rfl rfl ⟨rfl, hd_X1_grow⟩ ⟨Nat.le_of_ble_eq_true rfl, Nat.le_of_ble_eq_true rfl⟩) ⟨bl_g, va_recvX hK.1 hP (ci := 1) (q0 := 45) rfl rfl, fun U hU hW => ⟨rfl, by rw [hU], by rw [hU]; exact hPc, ⟨kk_mv hW hK, arrOfT_moved hW.alike hG⟩, hDw⟩⟩ rfl rfl hl.1 rfl (lv_room (Nat.le_of_ble_eq_true rfl)) dB_36_3_67.1.2.2.2 ⟨Nat.le_of_ble_eq_true rfl, Nat.le_of_ble_eq_true rfl⟩) hS (fun q _ h => hFc q h) hFc (fun u t H locs ht hvm hw hB hz1 hk1 hS => ?_)
            obtain ⟨eMr_9, efx_10, efu_11, e4_12, e7_13, e8_14, eMl_15, e5_16, e6_17, g_18, g_19, g_20, g_21, g_22, g_23, g_24, hP1, hD1⟩ := hB
            rw [ht] at hP1
            obtain ⟨hP, hD⟩ := va_join (wr := [ob11_0_ xo xk xn xc xh xt xw xm xp pf ph tr fi, ai_ cy n5 40 fp]) (w1 := [ob1_0_ xt xc ta tb, ob0_0_ xc xn xk clo cro c4 c5 c6 c7 c8, ob3_0_ xn vp vn n1 n2 n3 n4 n5, ai_ cy ta 12 efx_10, ai_ cy tb 12 efu_11, ai_ cy n1 40 fk, ai_ cy n2 40 fs, ai_ cy n3 40 fe, ai_ cy n4 40 fw, aq_ cy 6 clo 12 (gf_ rl), ai_ cy (rl 0) 12 (eMl_15 0), ai_ cy (rl 1) 12 (eMl_15 1), ai_ cy (rl 2) 12 (eMl_15 2), ai_ cy (rl 3) 12 (eMl_15 3), ai_ cy (rl 4) 12 (eMl_15 4), ai_ cy (rl 5) 12 (eMl_15 5), ai_ cy (rl 6) 12 (eMl_15 6), ai_ cy (rl 7) 12 (eMl_15 7), ai_ cy (rl 8) 12 (eMl_15 8), ai_ cy (rl 9) 12 (eMl_15 9), ai_ cy (rl 10) 12 (eMl_15 10), ai_ cy (rl 11) 12 (eMl_15 11), aq_ cy 6 cro 12 (gf_ rr), ai_ cy (rr 0) 12 (eMr_9 0), ai_ cy (rr 1) 12 (eMr_9 1), ai_ cy (rr 2) 12 (eMr_9 2), ai_ cy (rr 3) 12 (eMr_9 3), ai_ cy (rr 4) 12 (eMr_9 4), ai_ cy (rr 5) 12 (eMr_9 5), ai_ cy (rr 6) 12 (eMr_9 6), ai_ cy (rr 7) 12 (eMr_9 7), ai_ cy (rr 8) 12 (eMr_9 8), ai_ cy (rr 9) 12 (eMr_9 9), ai_ cy (rr 10) 12 (eMr_9 10), ai_ cy (rr 11) 12 (eMr_9 11), ai_ cy c4 40 e4_12, ai_ cy c5 40 e5_16, ai_ cy c6 40 e6_17, ai_ cy c7 12 e7_13, ai_ cy c8 12 e8_14, aq_ cy 3 xk 5 (kf_ k0 k1 k2 k3 k4), ob6_0_ k0, ob5_0_ k1, ob9_0_ k2, ob2_0_ k3, ob8_0_ k4]) hP hD [45, 7, 1, 46, 47, 2, 3, 4, 5, 8, 9, 10, 11, 12, 13, 14, 15, 16, 17, 18, 19, 20, 21, 22, 23, 24, 25, 26, 27, 28, 29, 30, 31, 32, 33, 34, 35, 36, 37, 38, 39, 40, 41, 42, 43, 44] [0, 6] hC_ rfl (by decide) (by decide) hk1 hFc hP1 hD1
            refine pd_S hP hD [ob11_0_ xo xk xn xc xh xt xw xm xp pf ph tr fi, ob3_0_ xn vp vn n1 n2 n3 n4 n5, ai_ cy n1 40 fk, ai_ cy n2 40 fs, ai_ cy n3 40 fe, ai_ cy n4 40 fw, ai_ cy n5 40 fp, ob0_0_ xc xn xk clo cro c4 c5 c6 c7 c8, aq_ cy 6 clo 12 (gf_ rl), ai_ cy (rl 0) 12 (eMl_15 0), ai_ cy (rl 1) 12 (eMl_15 1), ai_ cy (rl 2) 12 (eMl_15 2), ai_ cy (rl 3) 12 (eMl_15 3), ai_ cy (rl 4) 12 (eMl_15 4), ai_ cy (rl 5) 12 (eMl_15 5), ai_ cy (rl 6) 12 (eMl_15 6), ai_ cy (rl 7) 12 (eMl_15 7), ai_ cy (rl 8) 12 (eMl_15 8), ai_ cy (rl 9) 12 (eMl_15 9), ai_ cy (rl 10) 12 (eMl_15 10), ai_ cy (rl 11) 12 (eMl_15 11), aq_ cy 6 cro 12 (gf_ rr), ai_ cy (rr 0) 12 (eMr_9 0), ai_ cy (rr 1) 12 (eMr_9 1), ai_ cy (rr 2) 12 (eMr_9 2), ai_ cy (rr 3) 12 (eMr_9 3), ai_ cy (rr 4) 12 (eMr_9 4), ai_ cy (rr 5) 12 (eMr_9 5), ai_ cy (rr 6) 12 (eMr_9 6), ai_ cy (rr 7) 12 (eMr_9 7), ai_ cy (rr 8) 12 (eMr_9 8), ai_ cy (rr 9) 12 (eMr_9 9), ai_ cy (rr 10) 12 (eMr_9 10), ai_ cy (rr 11) 12 (eMr_9 11), ai_ cy c4 40 e4_12, ai_ cy c5 40 e5_16, ai_ cy c6 40 e6_17, ai_ cy c7 12 e7_13, ai_ cy c8 12 e8_14, aq_ cy 3 xk 5 (kf_ k0 k1 k2 k3 k4), ob6_0_ k0, ob5_0_ k1, ob9_0_ k2, ob2_0_ k3, ob8_0_ k4, ob1_0_ xt xc ta tb, ai_ cy ta 12 efx_10, ai_ cy tb 12 efu_11] [0, 4, 7, 8, 9, 10, 1, 3, 11, 12, 13, 14, 15, 16, 17, 18, 19, 20, 21, 22, 23, 24, 25, 26, 27, 28, 29, 30, 31, 32, 33, 34, 35, 36, 37, 38, 39, 40, 41, 42, 43, 44, 45, 46, 47, 2, 5, 6] (by decide +kernel) rfl (fun hP hD => ?_)
            have hgt_ := g_19
            have hz_ := g_20
            refine lv_iload_n hx hb dB_36_3_67.2.1.1.1 rfl (lv_at hl 2 rfl) ?_
            refine lv_if_ne (tgt := 61) hx hb dB_36_3_67.2.1.1.2 (by decide) (fun c_25 => ?_) (fun c_25 => ?_)
            · have t_25 : ¬ a2.toInt = (0 : Int32).toInt := fun h => c_25 (Int32.toInt_inj.mp h)
              refine lv_aload_n hx hb dB_36_3_68.1.1 rfl (lv_at hl 0 rfl) ?_
              refine va_get (ci := 11) (v := .ref xt) (C := RX11) (T := TX11) (N := 12) hx hb hts (fun _ h => List.mem_cons_of_mem _ (List.mem_append_left _ (List.mem_append_left _ (List.mem_append_left _ (List.mem_append_right _ h))))) hown hK.1 hP 0 rfl rfl 4 (by decide) (hts (.fieldLink RX11 56 "CutAtlas" "cutTree" "LCutAtlas$CutTree;") (List.mem_of_getElem? (i := 2) rfl)) (fun _ h9 => h9) rfl dB_36_3_68.1.2.1 ?_
              refine va_get (ci := 1) (v := .ref tb) (C := RX1) (T := TX1) (N := 3) hx hb hts (fun _ h => List.mem_cons_of_mem _ (List.mem_append_left _ (List.mem_append_left _ (List.mem_append_right _ h)))) hown hK.1 hP 45 rfl rfl 2 (by decide) (hts (.fieldLink RX11 218 "CutAtlas$CutTree" "numbers" "[I") (List.mem_of_getElem? (i := 4) rfl)) (fun _ h9 => h9) rfl dB_36_3_68.1.2.2 ?_
              refine lv_iload_n hx hb dB_36_3_68.2.1 rfl (lv_at hl 1 rfl) ?_
              have h_26 : vp_in a1 12 := in_I (by first | with_reducible assumption | omega) (by omega)
              refine va_iald hx hb hK.1 hP 47 0 rfl rfl (i := a1) h_26 dB_36_3_68.2.2.1 ?_
              refine lv_topi (fun y_27 ey_27 => ?_)
              rw [hQ]
              exact W.iret (v := y_27) hx hb hr (fun t ht hW => ⟨⟨y_27, (), rfl, (by first | exact ⟨fun _ => ⟨efx_10, efu_11, hgt_, fun h => by rw [ey_27, h]; exact hz_.1, fun _ => ⟨fun _ => by rw [ey_27], fun h => absurd (by omega) h⟩⟩, fun h => absurd (by unfold trI; (repeat' (first | with_reducible refine if_n (by omega) ?_ | with_reducible refine if_ns (by omega) ?_ | with_reducible refine if_nz (by omega) ?_ | with_reducible exact if_p (by omega) (by omega) | with_reducible exact if_ps (by omega) (by omega) | with_reducible exact if_pz (by omega) (by omega))) <;> omega) h⟩ | exact ⟨fun _ => ⟨efx_10, efu_11, hgt_, fun h => by rw [ey_27, h]; exact hz_.2, fun _ => ⟨fun h => absurd h (by omega), fun _ => by rw [ey_27]⟩⟩, fun h => absurd (by unfold trI; (repeat' (first | with_reducible refine if_n (by omega) ?_ | with_reducible refine if_ns (by omega) ?_ | with_reducible refine if_nz (by omega) ?_ | with_reducible exact if_p (by omega) (by omega) | with_reducible exact if_ps (by omega) (by omega) | with_reducible exact if_pz (by omega) (by omega))) <;> omega) h⟩), eMl_15, eMr_9, e4_12, e5_16, e6_17, e7_13, e8_14, efx_10, efu_11, (by first | with_reducible assumption | assumption | exact rng_zero (by omega) (by omega) | omega), (by first | with_reducible assumption | assumption | exact rng_zero (by omega) (by omega) | omega), by rw [ht]; exact hP, hD⟩, hS.F ht⟩) hS.2.2 dB_36_3_68.2.2.2
            · have t_25 : a2.toInt = (0 : Int32).toInt := congrArg Int32.toInt c_25
              refine lv_aload_n hx hb dB_36_3_67.2.1.2.1 rfl (lv_at hl 0 rfl) ?_
              refine va_get (ci := 11) (v := .ref xt) (C := RX11) (T := TX11) (N := 12) hx hb hts (fun _ h => List.mem_cons_of_mem _ (List.mem_append_left _ (List.mem_append_left _ (List.mem_append_left _ (List.mem_append_right _ h))))) hown hK.1 hP 0 rfl rfl 4 (by decide) (hts (.fieldLink RX11 56 "CutAtlas" "cutTree" "LCutAtlas$CutTree;") (List.mem_of_getElem? (i := 2) rfl)) (fun _ h9 => h9) rfl dB_36_3_67.2.1.2.2 ?_
              refine va_get (ci := 1) (v := .ref ta) (C := RX1) (T := TX1) (N := 3) hx hb hts (fun _ h => List.mem_cons_of_mem _ (List.mem_append_left _ (List.mem_append_left _ (List.mem_append_right _ h)))) hown hK.1 hP 45 rfl rfl 1 (by decide) (hts (.fieldLink RX11 215 "CutAtlas$CutTree" "nexts" "[I") (List.mem_of_getElem? (i := 3) rfl)) (fun _ h9 => h9) rfl dB_36_3_67.2.2.1.1 ?_
              refine lv_iload_n hx hb dB_36_3_67.2.2.1.2 rfl (lv_at hl 1 rfl) ?_
              have h_28 : vp_in a1 12 := in_I (by first | with_reducible assumption | omega) (by omega)
              refine va_iald hx hb hK.1 hP 46 0 rfl rfl (i := a1) h_28 dB_36_3_67.2.2.2.1 ?_
              refine lv_topi (fun y_29 ey_29 => ?_)
              refine lv_goto (tgt := 70) hx hb dB_36_3_67.2.2.2.2 (by decide) ?_
              rw [hQ]
              exact W.iret (v := y_29) hx hb hr (fun t ht hW => ⟨⟨y_29, (), rfl, (by first | exact ⟨fun _ => ⟨efx_10, efu_11, hgt_, fun h => by rw [ey_29, h]; exact hz_.1, fun _ => ⟨fun _ => by rw [ey_29], fun h => absurd (by omega) h⟩⟩, fun h => absurd (by unfold trI; (repeat' (first | with_reducible refine if_n (by omega) ?_ | with_reducible refine if_ns (by omega) ?_ | with_reducible refine if_nz (by omega) ?_ | with_reducible exact if_p (by omega) (by omega) | with_reducible exact if_ps (by omega) (by omega) | with_reducible exact if_pz (by omega) (by omega))) <;> omega) h⟩ | exact ⟨fun _ => ⟨efx_10, efu_11, hgt_, fun h => by rw [ey_29, h]; exact hz_.2, fun _ => ⟨fun h => absurd h (by omega), fun _ => by rw [ey_29]⟩⟩, fun h => absurd (by unfold trI; (repeat' (first | with_reducible refine if_n (by omega) ?_ | with_reducible refine if_ns (by omega) ?_ | with_reducible refine if_nz (by omega) ?_ | with_reducible exact if_p (by omega) (by omega) | with_reducible exact if_ps (by omega) (by omega) | with_reducible exact if_pz (by omega) (by omega))) <;> omega) h⟩), eMl_15, eMr_9, e4_12, e5_16, e6_17, e7_13, e8_14, efx_10, efu_11, (by first | with_reducible assumption | assumption | exact rng_zero (by omega) (by omega) | omega), (by first | with_reducible assumption | assumption | exact rng_zero (by omega) (by omega) | omega), by rw [ht]; exact hP, hD⟩, hS.F ht⟩) hS.2.2 dB_36_3_68.2.2.2
          · exact absurd c_7 (by decide)
        · have e_ := e_.symm
          subst e_
          refine lv_if_ne (tgt := 38) hx hb dB_36_3_67.1.1.2.1 (by decide) (fun c_30 => ?_) (fun c_30 => ?_)
          · exact absurd c_30 (by decide)
          · have _ := c_30
            refine lv_iconst (v := (-1)) hx hb dB_36_3_67.1.1.2.2 (by decide) ?_
            rw [hQ]
            exact W.iret (v := (-1)) hx hb hr (fun t ht hW => ⟨⟨(-1), (), rfl, (⟨fun h => absurd h (by unfold trI; (repeat' (first | with_reducible refine if_n (by omega) ?_ | with_reducible refine if_ns (by omega) ?_ | with_reducible refine if_nz (by omega) ?_ | with_reducible exact if_p (by omega) (by omega) | with_reducible exact if_ps (by omega) (by omega) | with_reducible exact if_pz (by omega) (by omega))) <;> omega), fun _ => (by unfold trI; (repeat' (first | with_reducible refine if_n (by omega) ?_ | with_reducible refine if_ns (by omega) ?_ | with_reducible refine if_nz (by omega) ?_ | with_reducible exact if_p (by omega) (by omega) | with_reducible exact if_ps (by omega) (by omega) | with_reducible exact if_pz (by omega) (by omega))) <;> omega)⟩), Ml, Mr, f4, f5, f6, f7, f8, fx, fu, (by first | with_reducible assumption | assumption | exact rng_zero (by omega) (by omega) | omega), (by first | with_reducible assumption | assumption | exact rng_zero (by omega) (by omega) | omega), by rw [ht]; exact hP, hD⟩, hS.F ht⟩) hS.2.2 dB_36_3_67.1.2.1.1
      · have t_4 : r_3.toInt = (0 : Int32).toInt := congrArg Int32.toInt c_4
        refine lv_bipush (v := (-2)) hx hb dB_36_3_66.2.1.2.2 (by decide) ?_
        rw [hQ]
        exact W.iret (v := (-2)) hx hb hr (fun t ht hW => ⟨⟨(-2), (), rfl, (⟨fun h => absurd h (by unfold trI; (repeat' (first | with_reducible refine if_n (by omega) ?_ | with_reducible refine if_ns (by omega) ?_ | with_reducible refine if_nz (by omega) ?_ | with_reducible exact if_p (by omega) (by omega) | with_reducible exact if_ps (by omega) (by omega) | with_reducible exact if_pz (by omega) (by omega))) <;> omega), fun _ => (by unfold trI; (repeat' (first | with_reducible refine if_n (by omega) ?_ | with_reducible refine if_ns (by omega) ?_ | with_reducible refine if_nz (by omega) ?_ | with_reducible exact if_p (by omega) (by omega) | with_reducible exact if_ps (by omega) (by omega) | with_reducible exact if_pz (by omega) (by omega))) <;> omega)⟩), Ml, Mr, f4, f5, f6, f7, f8, fx, fu, (by first | with_reducible assumption | assumption | exact rng_zero (by omega) (by omega) | omega), (by first | with_reducible assumption | assumption | exact rng_zero (by omega) (by omega) | omega), by rw [ht]; exact hP, hD⟩, hS.F ht⟩) hS.2.2 dB_36_3_66.2.2.1.1
    · have t_2 : ¬ a2.toInt ≤ (1 : Int32).toInt := fun h => c_2 (Int32.le_iff_toInt_le.mpr h)
      refine lv_iconst (v := (-1)) hx hb dB_36_3_66.1.2.1.2 (by decide) ?_
      rw [hQ]
      exact W.iret (v := (-1)) hx hb hr (fun t ht hW => ⟨⟨(-1), (), rfl, (⟨fun h => absurd h (by unfold trI; (repeat' (first | with_reducible refine if_n (by omega) ?_ | with_reducible refine if_ns (by omega) ?_ | with_reducible refine if_nz (by omega) ?_ | with_reducible exact if_p (by omega) (by omega) | with_reducible exact if_ps (by omega) (by omega) | with_reducible exact if_pz (by omega) (by omega))) <;> omega), fun _ => (by unfold trI; (repeat' (first | with_reducible refine if_n (by omega) ?_ | with_reducible refine if_ns (by omega) ?_ | with_reducible refine if_nz (by omega) ?_ | with_reducible exact if_p (by omega) (by omega) | with_reducible exact if_ps (by omega) (by omega) | with_reducible exact if_pz (by omega) (by omega))) <;> omega)⟩), Ml, Mr, f4, f5, f6, f7, f8, fx, fu, (by first | with_reducible assumption | assumption | exact rng_zero (by omega) (by omega) | omega), (by first | with_reducible assumption | assumption | exact rng_zero (by omega) (by omega) | omega), by rw [ht]; exact hP, hD⟩, hS.F ht⟩) hS.2.2 dB_36_3_66.1.2.2.1
end

section
set_option maxHeartbeats 4000000 in
set_option maxRecDepth 100000 in
theorem c_X12_plants2 (l : Launch) (D : va_G) (cy : Nat → ClassId) (sz : Nat) (mo : Nat) (g5 : Nat) (g6 : Nat) (g7 : Nat) (g8 : Nat) (g9 : Nat) (g10 : Nat) (g12 : Nat) (g13 : Nat) (g14 : Nat) (g15 : Nat) (g16 : Nat) (g17 : Nat) (g18 : Nat) (g19 : Nat) (g20 : Nat) (g22 : Nat) (g23 : Nat) (g24 : Nat) (g29 : Nat) (g30 : Nat) (g31 : Nat) (g32 : Nat) (g33 : Nat) (s0 : Int32) (s1 : Int32) (s3 : Int32) (s4 : Int32) (s11 : Int32) (s21 : Int32) (s25 : Int32) (s26 : Int32) (s27 : Int32) (s28 : Int32) (t2 : Int64) (f5 : Nat → Int32) (f6 : Nat → Int32) (f7 : Nat → Int32) (f8 : Nat → Int32) (f10 : Nat → Int32) (f32 : Nat → Int32) (f33 : Nat → Int32) (hN : 0 ≤ s4.toInt ∧ s4.toInt ≤ 40) (hPl : 0 ≤ s3.toInt ∧ s3.toInt ≤ 12) (hnet : netE s3.toInt s4.toInt f6 f7 f10) (hwc : whC (cutR f5 f6 f7 f8 f10 s21.toInt s4.toNatClampNeg) s3.toNatClampNeg) (r_f6 : rng f6 40 (0) (11)) (r_f7 : rng f7 40 (0) (11)) (r_f8 : rng f8 40 (0) (2000)) (r_f32 : rng f32 12 (0) (11)) : Met l yX12_plants wsX12_plants ({ frames := 4, cells := 0, slots := 0, locals := 96 }) (va_Pc [.ref mo] (fun U => U.heap.size = sz ∧ va_P D vwCl [ob12_0_ mo s0 s1 t2 s3 s4 g5 g6 g7 g8 g9 g10 s11 g12 g13 g14 g15 g16 g17 g18 g19 g20 s21 g22 g23 g24 s25 s26 s27 s28 g29 g30 g31 g32 g33, ai_ cy g5 40 f5, ai_ cy g6 40 f6, ai_ cy g7 40 f7, ai_ cy g8 40 f8, az_ cy g10 40 f10, ai_ cy g32 12 f32, ai_ cy g33 12 f33] U.heap ∧ kk_ D cy U ∧ va_D (fun _ => True) [ob12_0_ mo s0 s1 t2 s3 s4 g5 g6 g7 g8 g9 g10 s11 g12 g13 g14 g15 g16 g17 g18 g19 g20 s21 g22 g23 g24 s25 s26 s27 s28 g29 g30 g31 g32 g33, ai_ cy g5 40 f5, ai_ cy g6 40 f6, ai_ cy g7 40 f7, ai_ cy g8 40 f8, az_ cy g10 40 f10, ai_ cy g32 12 f32, ai_ cy g33 12 f33])) (va_Qv (fun (_ : Unit) => True) (fun (_ : Unit) (t : State) => ∃ (n25 : Int32), ∃ (n26 : Int32), ∃ (n27 : Int32), ∃ (n28 : Int32), ∃ (e32 : Nat → Int32), ∃ (e33 : Nat → Int32), (gtr (cutR f5 f6 f7 f8 f10 s21.toInt s4.toNatClampNeg) s3.toNatClampNeg (s3.toNatClampNeg - 1) e32 e33) ∧ (rng e32 12 (0) (11)) ∧ va_P D vwCl [ob12_0_ mo s0 s1 t2 s3 s4 g5 g6 g7 g8 g9 g10 s11 g12 g13 g14 g15 g16 g17 g18 g19 g20 s21 g22 g23 g24 n25 n26 n27 n28 g29 g30 g31 g32 g33, ai_ cy g5 40 f5, ai_ cy g6 40 f6, ai_ cy g7 40 f7, ai_ cy g8 40 f8, az_ cy g10 40 f10, ai_ cy g32 12 e32, ai_ cy g33 12 e33] t.heap ∧ va_D (va_A [ob12_0_ mo s0 s1 t2 s3 s4 g5 g6 g7 g8 g9 g10 s11 g12 g13 g14 g15 g16 g17 g18 g19 g20 s21 g22 g23 g24 s25 s26 s27 s28 g29 g30 g31 g32 g33, ai_ cy g5 40 f5, ai_ cy g6 40 f6, ai_ cy g7 40 f7, ai_ cy g8 40 f8, az_ cy g10 40 f10, ai_ cy g32 12 f32, ai_ cy g33 12 f33] sz) [ob12_0_ mo s0 s1 t2 s3 s4 g5 g6 g7 g8 g9 g10 s11 g12 g13 g14 g15 g16 g17 g18 g19 g20 s21 g22 g23 g24 n25 n26 n27 n28 g29 g30 g31 g32 g33, ai_ cy g5 40 f5, ai_ cy g6 40 f6, ai_ cy g7 40 f7, ai_ cy g8 40 f8, az_ cy g10 40 f10, ai_ cy g32 12 e32, ai_ cy g33 12 e33]) (va_A [ob12_0_ mo s0 s1 t2 s3 s4 g5 g6 g7 g8 g9 g10 s11 g12 g13 g14 g15 g16 g17 g18 g19 g20 s21 g22 g23 g24 s25 s26 s27 s28 g29 g30 g31 g32 g33, ai_ cy g5 40 f5, ai_ cy g6 40 f6, ai_ cy g7 40 f7, ai_ cy g8 40 f8, az_ cy g10 40 f10, ai_ cy g32 12 f32, ai_ cy g33 12 f33] sz)) 0 0 (va_A [ob12_0_ mo s0 s1 t2 s3 s4 g5 g6 g7 g8 g9 g10 s11 g12 g13 g14 g15 g16 g17 g18 g19 g20 s21 g22 g23 g24 s25 s26 s27 s28 g29 g30 g31 g32 g33, ai_ cy g5 40 f5, ai_ cy g6 40 f6, ai_ cy g7 40 f7, ai_ cy g8 40 f8, az_ cy g10 40 f10, ai_ cy g32 12 f32, ai_ cy g33 12 f33] sz) := by
  refine ofQ (cc := cX12_plants) (maxL := 6) (ret := none) (by decide) rfl ?_
  intro p e s m args below meth c s₁ Q hQ B hml hv
  obtain ⟨rfl, hsz, hP, hK, hD0⟩ := hv
  have hx := B.exec
  have hb := B.bytes
  have hr := B.returns
  have hts := atoms_spec (ws := wsX12_plants) B.pre
  have hown : s.vm.findClass RX12 = some m.cls := by have h_ := findClass_of_methodNamed B.named; exact h_
  have hlocks := B.notSynchronized
  subst hsz
  have hD := hD0.self (sz := s.heap.size)
  generalize hAe : va_A [ob12_0_ mo s0 s1 t2 s3 s4 g5 g6 g7 g8 g9 g10 s11 g12 g13 g14 g15 g16 g17 g18 g19 g20 s21 g22 g23 g24 s25 s26 s27 s28 g29 g30 g31 g32 g33, ai_ cy g5 40 f5, ai_ cy g6 40 f6, ai_ cy g7 40 f7, ai_ cy g8 40 f8, az_ cy g10 40 f10, ai_ cy g32 12 f32, ai_ cy g33 12 f33] s.heap.size = A at hD hQ
  have hA : ∀ q : Nat, s.heap.size ≤ q → A q := fun q h => by rw [← hAe]; exact Or.inr h
  have hS : va_S A s.heap s.heap [] := va_S.rf
  have hl := lv_entry ([.ref mo]) (n := 6) (Nat.le_of_ble_eq_true rfl)
  rw [lg_entry_eq]
  generalize (lg_sl ([.ref mo]) ++ List.replicate (6 - (lg_sl ([.ref mo])).length) Slot.unset).toArray = ls at hl ⊢
  have hl : lv_has ls 6 [(0, .ref mo)] := hl
  have zm9 : ((-9) : Int32).toInt = -9 := by decide
  have z0 : (0 : Int32).toInt = 0 := by decide
  have z1 : (1 : Int32).toInt = 1 := by decide
  have z12 : (12 : Int32).toInt = 12 := by decide
  have cs_ := clI (i := s3) (by omega)
  refine lv_iconst (v := 0) hx hb dB_3_2_43.1.1.1.1 (by decide) ?_
  refine lv_istore_n (lv' := [(1, .int 0), (0, .ref mo)]) hx hb dB_3_2_43.1.1.1.2 rfl hl (by decide) rfl (fun ls hl => ?_)
  suffices LOOP_1 : ∀ (n_1 : Nat) (x1_1 : Int32) (c_g32_1 : Nat → Int32) (c_g33_1 : Nat → Int32) (H : Heap) (locs : List Loc) (ls : Array Slot), 12 - x1_1.toInt < (n_1 : Int) → (0 ≤ x1_1.toInt) → (x1_1.toInt ≤ 12) → (∀ j : Nat, (j : Int) < x1_1.toInt → c_g32_1 j = 0) → (rng c_g32_1 12 (0) (11)) → pd_2 D vwCl A [ob12_0_ mo s0 s1 t2 s3 s4 g5 g6 g7 g8 g9 g10 s11 g12 g13 g14 g15 g16 g17 g18 g19 g20 s21 g22 g23 g24 s25 s26 s27 s28 g29 g30 g31 g32 g33, ai_ cy g5 40 f5, ai_ cy g6 40 f6, ai_ cy g7 40 f7, ai_ cy g8 40 f8, az_ cy g10 40 f10, ai_ cy g32 12 c_g32_1, ai_ cy g33 12 c_g33_1] H → va_S A s.heap H locs → lv_has ls 6 [(1, .int x1_1), (0, .ref mo)] → W p l e ({ frames := 4, cells := 0, slots := 0, locals := 96 } : Room) s m (([.ref mo] : List Value).toArray) below meth c H locs 0 0 Q (F0 m 2 ls []) from LOOP_1 ((12 - (0 : Int32).toInt).toNat + 1) (0 : Int32) f32 f33 _ _ _ (by omega) (by first | with_reducible assumption | omega | assumption) (by first | with_reducible assumption | omega | assumption) (by first | exact fill_st S[qf] v_none (by omega) (by omega) | (intro j hj; omega)) (by first | with_reducible assumption | assumption | exact rng_zero (by omega) (by omega) | exact orng_zero) ⟨hP, hD⟩ hS (lv_sub hl [0, 1] rfl)
  intro n_1
  induction n_1 with
  | zero =>
    intro x1_1 c_g32_1 c_g33_1 H locs ls hm v0_1 v1_1 v2_1 rc_g32_1 hPD hS hl; obtain ⟨hP, hD⟩ := hPD
    exact absurd hm (by omega)
  | succ n_1 ih_1 =>
    intro x1_1 c_g32_1 c_g33_1 H locs ls hm v0_1 v1_1 v2_1 rc_g32_1 hPD hS hl; obtain ⟨hP, hD⟩ := hPD
    refine lv_iload_n hx hb dB_3_2_43.1.1.2.1 rfl (lv_at hl 0 rfl) ?_
    refine lv_bipush (v := 12) hx hb dB_3_2_43.1.1.2.2 (by decide) ?_
    refine lv_icmp_ge (tgt := 29) hx hb dB_3_2_43.1.2.1.1 (by decide) (fun c_2 => ?_) (fun c_2 => ?_)
    · have t_2 : (12 : Int32).toInt ≤ x1_1.toInt := Int32.le_iff_toInt_le.mp c_2
      have hz_ : ∀ j : Nat, j < 12 → (c_g32_1 j).toInt = 0 := fun j hj => by rw [v2_1 j (by omega)]; decide
      refine lv_iconst (v := 1) hx hb dB_3_2_44.1.1.1.2 (by decide) ?_
      refine lv_istore_n (lv' := [(1, .int 1), (0, .ref mo)]) hx hb dB_3_2_44.1.1.2.1 rfl hl (by decide) rfl (fun ls hl => ?_)
      suffices LOOP_3 : ∀ (n_3 : Nat) (x1_3 : Int32) (o25_3 : Int32) (o26_3 : Int32) (o27_3 : Int32) (o28_3 : Int32) (c_g32_3 : Nat → Int32) (c_g33_3 : Nat → Int32) (H : Heap) (locs : List Loc) (ls : Array Slot), 13 - x1_3.toInt < (n_3 : Int) → (1 ≤ x1_3.toInt) → (x1_3.toInt ≤ 13) → (∀ j : Nat, 1 ≤ j → j < 12 → 0 ≤ (c_g32_3 j).toInt ∧ (c_g32_3 j).toInt < x1_3.toInt) → (gtr (cutR f5 f6 f7 f8 f10 s21.toInt s4.toNatClampNeg) s3.toNatClampNeg (x1_3.toNatClampNeg - 1) c_g32_3 c_g33_3) → (x1_3.toInt ≤ s3.toInt ∨ x1_3.toInt = 1) → (rng c_g32_3 12 (0) (11)) → pd_2 D vwCl A [ob12_0_ mo s0 s1 t2 s3 s4 g5 g6 g7 g8 g9 g10 s11 g12 g13 g14 g15 g16 g17 g18 g19 g20 s21 g22 g23 g24 o25_3 o26_3 o27_3 o28_3 g29 g30 g31 g32 g33, ai_ cy g5 40 f5, ai_ cy g6 40 f6, ai_ cy g7 40 f7, ai_ cy g8 40 f8, az_ cy g10 40 f10, ai_ cy g32 12 c_g32_3, ai_ cy g33 12 c_g33_3] H → va_S A s.heap H locs → lv_has ls 6 [(1, .int x1_3), (0, .ref mo)] → W p l e ({ frames := 4, cells := 0, slots := 0, locals := 96 } : Room) s m (([.ref mo] : List Value).toArray) below meth c H locs 0 0 Q (F0 m 31 ls []) from LOOP_3 ((13 - (1 : Int32).toInt).toNat + 1) (1 : Int32) s25 s26 s27 s28 c_g32_1 c_g33_1 _ _ _ (by omega) (by first | with_reducible assumption | omega | assumption) (by first | with_reducible assumption | omega | assumption) (by first | exact fun j h1 h2 => by have h_ := hz_ j h2; omega | exact fun j h1 h2 => by have h_ := hrg2_ j h1 h2; omega) (by first | exact gtr_1 (fun j h1 h2 => hz_ j (by omega)) | exact gtr_nx v_none (by omega) hgs_ (by omega)) (by first | with_reducible assumption | omega | assumption) (by first | with_reducible assumption | assumption | exact rng_zero (by omega) (by omega) | exact orng_zero) ⟨hP, hD⟩ hS (lv_sub hl [0, 1] rfl)
      intro n_3
      induction n_3 with
      | zero =>
        intro x1_3 o25_3 o26_3 o27_3 o28_3 c_g32_3 c_g33_3 H locs ls hm v0_3 v1_3 v2_3 v3_3 v4_3 rc_g32_3 hPD hS hl; obtain ⟨hP, hD⟩ := hPD
        exact absurd hm (by omega)
      | succ n_3 ih_3 =>
        intro x1_3 o25_3 o26_3 o27_3 o28_3 c_g32_3 c_g33_3 H locs ls hm v0_3 v1_3 v2_3 v3_3 v4_3 rc_g32_3 hPD hS hl; obtain ⟨hP, hD⟩ := hPD
        refine lv_iload_n hx hb dB_3_2_44.1.1.2.2 rfl (lv_at hl 0 rfl) ?_
        refine lv_aload_n hx hb dB_3_2_44.1.2.1.1 rfl (lv_at hl 1 rfl) ?_
        refine va_get (ci := 12) (v := .int s3) (C := RX12) (T := TX12) (N := 34) hx hb hts (fun _ h => List.mem_cons_of_mem _ (List.mem_append_right _ h)) hown hK.1 hP 0 rfl rfl 3 (by decide) (hts (.fieldLink RX12 88 "CutAtlasModel" "places" "I") (List.mem_of_getElem? (i := 3) rfl)) (fun _ h9 => h9) rfl dB_3_2_44.1.2.1.2 ?_
        refine lv_icmp_ge (tgt := 197) hx hb dB_3_2_44.1.2.2.1 (by decide) (fun c_4 => ?_) (fun c_4 => ?_)
        · have t_4 : s3.toInt ≤ x1_3.toInt := Int32.le_iff_toInt_le.mp c_4
          rw [hQ]
          exact W.vret hx hb hr (fun t ht hW => ⟨⟨(), rfl, trivial, o25_3, o26_3, o27_3, o28_3, c_g32_3, c_g33_3, (gtr_to v3_3 (by have c_ := clI (i := x1_3) (by omega); omega)), (by first | with_reducible assumption | assumption | exact rng_zero (by omega) (by omega) | omega), by rw [ht]; exact hP, hD⟩, hS.F ht⟩) hS.2.2 dB_3_2_50.2.2.2.2
        · have t_4 : ¬ s3.toInt ≤ x1_3.toInt := fun h => c_4 (Int32.le_iff_toInt_le.mpr h)
          refine lv_aload_n hx hb dB_3_2_44.1.2.2.2 rfl (lv_at hl 1 rfl) ?_
          refine va_get (ci := 12) (v := .ref g32) (C := RX12) (T := TX12) (N := 34) hx hb hts (fun _ h => List.mem_cons_of_mem _ (List.mem_append_right _ h)) hown hK.1 hP 0 rfl rfl 32 (by decide) (hts (.fieldLink RX12 79 "CutAtlasModel" "treeNext" "[I") (List.mem_of_getElem? (i := 1) rfl)) (fun _ h9 => h9) rfl dB_3_2_44.2.1.1.1 ?_
          refine lv_iload_n hx hb dB_3_2_44.2.1.1.2 rfl (lv_at hl 0 rfl) ?_
          have h_5 : vp_in x1_3 12 := in_I (by first | with_reducible assumption | omega) (by omega)
          refine va_iald hx hb hK.1 hP 6 0 rfl rfl (i := x1_3) h_5 dB_3_2_44.2.1.2.1 ?_
          refine lv_topi (fun y_6 ey_6 => ?_)
          have ky_6 : y_6.toInt = (c_g32_3 x1_3.toNatClampNeg).toInt := by rw [ey_6]
          have ry_6 : 0 ≤ y_6.toInt ∧ y_6.toInt ≤ 11 := by rw [ey_6]; exact rc_g32_3 _ (in_lt h_5)
          have ht_ := v2_3 x1_3.toNatClampNeg (by have c_ := clI (i := x1_3) (by omega); omega) (by have c_ := clI (i := x1_3) (by omega); omega)
          refine lv_istore_n (lv' := [(2, .int y_6), (1, .int x1_3), (0, .ref mo)]) hx hb dB_3_2_44.2.1.2.2 rfl hl (by decide) rfl (fun ls hl => ?_)
          refine lv_aload_n hx hb dB_3_2_44.2.2.1.1 rfl (lv_at hl 2 rfl) ?_
          refine lv_iload_n hx hb dB_3_2_44.2.2.1.2 rfl (lv_at hl 1 rfl) ?_
          refine lv_iload_n hx hb dB_3_2_44.2.2.2.1 rfl (lv_at hl 0 rfl) ?_
          refine ct_R hP hD [ob12_0_ mo s0 s1 t2 s3 s4 g5 g6 g7 g8 g9 g10 s11 g12 g13 g14 g15 g16 g17 g18 g19 g20 s21 g22 g23 g24 o25_3 o26_3 o27_3 o28_3 g29 g30 g31 g32 g33, ai_ cy g5 40 f5, ai_ cy g6 40 f6, ai_ cy g7 40 f7, ai_ cy g8 40 f8, az_ cy g10 40 f10] [0, 1, 2, 3, 4, 5] (by decide) rfl (fun hPc hDw => ?_)
          have hFc := va_free (wc := []) hD hS hA [] rfl
          refine va_calli (va_runV (As := [.int x1_3, .int y_6]) (rest := []) ⟨hx, hb, hml, hown, hts⟩ (c_X12_mostOf2 l D cy H.size mo g5 g6 g7 g8 g9 g10 g12 g13 g14 g15 g16 g17 g18 g19 g20 g22 g23 g24 g29 g30 g31 g32 g33 s0 s1 s3 s4 s11 s21 o25_3 o26_3 o27_3 o28_3 t2 f5 f6 f7 f8 f10 x1_3 y_6 (by first | with_reducible assumption | omega | assumption) (by first | with_reducible assumption | omega | assumption) (by first | with_reducible assumption | assumption | omega) (by first | with_reducible assumption | omega | assumption) (by first | with_reducible assumption | omega | assumption) (by first | with_reducible assumption | assumption | omega) (by first | with_reducible assumption | assumption | omega) (by first | with_reducible assumption | assumption | omega)) (cwV 2 hts gX12_plants_X12_mostOf rfl rfl rfl ⟨rfl, hd_X12_mostOf⟩ ⟨Nat.le_of_ble_eq_true rfl, Nat.le_of_ble_eq_true rfl⟩) ⟨bl_, va_recvX hK.1 hP (ci := 12) (q0 := 0) rfl rfl, fun U hU hW => ⟨rfl, by rw [hU], by rw [hU]; exact hPc, kk_mv hW hK, hDw⟩⟩ rfl rfl hl.1 rfl (lv_room (Nat.le_of_ble_eq_true rfl)) dB_3_2_44.2.2.2.2 ⟨Nat.le_of_ble_eq_true rfl, Nat.le_of_ble_eq_true rfl⟩) hS (fun q _ h => hFc q h) hFc (fun r_7 u t H locs ht hvm hw hB hz1 hk1 hS => ?_)
          have hP : va_P D vwCl _ H := ro_keep hP hk1
          have f0_r_7 := hw
          have hmw_ := mst_wh hwc (nc_ne (x := x1_3) (y := y_6) (by omega) (by omega) (by omega)) f0_r_7
          have hmo_ := hmw_.1
          refine lv_istore_n (lv' := [(3, .int r_7), (2, .int y_6), (1, .int x1_3), (0, .ref mo)]) hx hb dB_3_2_45.1.1.1.1 rfl hl (by decide) rfl (fun ls hl => ?_)
          refine lv_aload_n hx hb dB_3_2_45.1.1.1.2 rfl (lv_at hl 3 rfl) ?_
          refine lv_iload_n hx hb dB_3_2_45.1.1.2.1 rfl (lv_at hl 2 rfl) ?_
          refine lv_iload_n hx hb dB_3_2_45.1.1.2.2 rfl (lv_at hl 1 rfl) ?_
          refine lv_iload_n hx hb dB_3_2_45.1.2.1.1 rfl (lv_at hl 0 rfl) ?_
          refine lv_iconst (v := 0) hx hb dB_3_2_45.1.2.1.2 (by decide) ?_
          refine ct_S hP hD hS hA [ob12_0_ mo s0 s1 t2 s3 s4 g5 g6 g7 g8 g9 g10 s11 g12 g13 g14 g15 g16 g17 g18 g19 g20 s21 g22 g23 g24 o25_3 o26_3 o27_3 o28_3 g29 g30 g31 g32 g33, ai_ cy g5 40 f5, ai_ cy g6 40 f6, ai_ cy g7 40 f7, ai_ cy g8 40 f8, az_ cy g10 40 f10] [0, 1, 2, 3, 4, 5] (by decide) rfl (fun hPc hDw hFc hC_ => ?_)
          refine va_callv (va_runV (As := [.int x1_3, .int y_6, .int r_7, .int 0]) (rest := []) ⟨hx, hb, hml, hown, hts⟩ (c_X12_cutsOf2 l D cy H.size mo g5 g6 g7 g8 g9 g10 g12 g13 g14 g15 g16 g17 g18 g19 g20 g22 g23 g24 g29 g30 g31 g32 g33 s0 s1 s3 s4 s11 s21 o25_3 o26_3 o27_3 o28_3 t2 f5 f6 f7 f8 f10 x1_3 y_6 r_7 (0 : Int32) (by first | with_reducible assumption | omega | assumption) (by first | with_reducible assumption | omega | assumption) (by first | with_reducible assumption | omega | assumption) (by first | with_reducible assumption | omega | assumption) (by first | with_reducible assumption | omega | assumption) (by first | with_reducible assumption | assumption | omega) (by first | with_reducible assumption | assumption | omega) (by first | with_reducible assumption | assumption | omega)) (cwV 4 hts gX12_plants_X12_cutsOf rfl rfl rfl ⟨rfl, hd_X12_cutsOf⟩ ⟨Nat.le_of_ble_eq_true rfl, Nat.le_of_ble_eq_true rfl⟩) ⟨bl_, va_recvX hK.1 hP (ci := 12) (q0 := 0) rfl rfl, fun U hU hW => ⟨rfl, by rw [hU], by rw [hU]; exact hPc, kk_mv hW hK, hDw⟩⟩ rfl rfl hl.1 rfl (lv_room (Nat.le_of_ble_eq_true rfl)) dB_3_2_45.1.2.2.1 ⟨Nat.le_of_ble_eq_true rfl, Nat.le_of_ble_eq_true rfl⟩) hS (fun q _ h => hFc q h) hFc (fun u t H locs ht hvm hw hB hz1 hk1 hS => ?_)
          obtain ⟨n25_9, n26_10, n27_11, n28_12, g_13, hP1, hD1⟩ := hB
          rw [ht] at hP1
          obtain ⟨hP, hD⟩ := va_join (wr := [ai_ cy g32 12 c_g32_3, ai_ cy g33 12 c_g33_3]) (w1 := [ob12_0_ mo s0 s1 t2 s3 s4 g5 g6 g7 g8 g9 g10 s11 g12 g13 g14 g15 g16 g17 g18 g19 g20 s21 g22 g23 g24 n25_9 n26_10 n27_11 n28_12 g29 g30 g31 g32 g33, ai_ cy g5 40 f5, ai_ cy g6 40 f6, ai_ cy g7 40 f7, ai_ cy g8 40 f8, az_ cy g10 40 f10]) hP hD [0, 1, 2, 3, 4, 5] [6, 7] hC_ rfl (by decide) (by decide) hk1 hFc hP1 hD1
          refine pd_S hP hD [ob12_0_ mo s0 s1 t2 s3 s4 g5 g6 g7 g8 g9 g10 s11 g12 g13 g14 g15 g16 g17 g18 g19 g20 s21 g22 g23 g24 n25_9 n26_10 n27_11 n28_12 g29 g30 g31 g32 g33, ai_ cy g5 40 f5, ai_ cy g6 40 f6, ai_ cy g7 40 f7, ai_ cy g8 40 f8, az_ cy g10 40 f10, ai_ cy g32 12 c_g32_3, ai_ cy g33 12 c_g33_3] [2, 3, 4, 5, 6, 7, 0, 1] (by decide) rfl (fun hP hD => ?_)
          have hcw_ := g_13
          refine lv_aload_n hx hb dB_3_2_45.1.2.2.2 rfl (lv_at hl 3 rfl) ?_
          refine va_get (ci := 12) (v := .int n26_10) (C := RX12) (T := TX12) (N := 34) hx hb hts (fun _ h => List.mem_cons_of_mem _ (List.mem_append_right _ h)) hown hK.1 hP 0 rfl rfl 26 (by decide) (hts (.fieldLink RX12 195 "CutAtlasModel" "near" "I") (List.mem_of_getElem? (i := 4) rfl)) (fun _ h9 => h9) rfl dB_3_2_45.2.1.1.1 ?_
          have hnp_ := near_ref hwc (nc_ne (x := x1_3) (y := y_6) (by omega) (by omega) (by omega)) (nc_lt (by omega) (by omega)) (nc_lt (by omega) (by omega)) (by omega) hmw_.2.1 hmw_.2.2 hcw_
          refine lv_istore (lv' := [(4, .int n26_10), (3, .int r_7), (2, .int y_6), (1, .int x1_3), (0, .ref mo)]) hx hb dB_3_2_45.2.1.1.2 hl (by decide) rfl (fun ls hl => ?_)
          refine lv_aload_n hx hb dB_3_2_45.2.1.2.1 rfl (lv_at hl 4 rfl) ?_
          refine va_get (ci := 12) (v := .ref g33) (C := RX12) (T := TX12) (N := 34) hx hb hts (fun _ h => List.mem_cons_of_mem _ (List.mem_append_right _ h)) hown hK.1 hP 0 rfl rfl 33 (by decide) (hts (.fieldLink RX12 82 "CutAtlasModel" "treeNumber" "[I") (List.mem_of_getElem? (i := 2) rfl)) (fun _ h9 => h9) rfl dB_3_2_45.2.1.2.2 ?_
          refine lv_iload_n hx hb dB_3_2_45.2.2.1.1 rfl (lv_at hl 3 rfl) ?_
          refine lv_iload_n hx hb dB_3_2_45.2.2.1.2 rfl (lv_at hl 1 rfl) ?_
          refine va_iast hx hb hK.1 hP hD hS 7 0 rfl rfl (i := x1_3) h_5 dB_3_2_45.2.2.2.1 (fun H locs hP hD hS => ?_)
          obtain ⟨f_15, ef_15⟩ : ∃ g : Nat → Int32, g = upd c_g33_3 x1_3.toNatClampNeg r_7 := ⟨_, rfl⟩
          refine pd_K (D := D) (cl := vwCl) (H := H) (A := A) [ob12_0_ mo s0 s1 t2 s3 s4 g5 g6 g7 g8 g9 g10 s11 g12 g13 g14 g15 g16 g17 g18 g19 g20 s21 g22 g23 g24 n25_9 n26_10 n27_11 n28_12 g29 g30 g31 g32 g33, ai_ cy g5 40 f5, ai_ cy g6 40 f6, ai_ cy g7 40 f7, ai_ cy g8 40 f8, az_ cy g10 40 f10, ai_ cy g32 12 c_g32_3, ai_ cy g33 12 f_15] (by rw [ef_15]; exact hP) (by rw [ef_15]; exact hD) (fun hP hD => ?_)
          refine lv_iload_n hx hb dB_3_2_45.2.2.2.2 rfl (lv_at hl 3 rfl) ?_
          refine lv_iconst (v := 1) hx hb dB_3_2_46.1.1.1.1 (by decide) ?_
          refine lv_iadd hx hb dB_3_2_46.1.1.1.2 ?_
          refine lv_topi (fun y_16 ey_16 => ?_)
          have ty_16 : y_16.toInt = x1_3.toInt + (1 : Int32).toInt := by rw [ey_16]; exact addI (by omega) (by omega)
          refine lv_istore (lv' := [(5, .int y_16), (4, .int n26_10), (3, .int r_7), (2, .int y_6), (1, .int x1_3), (0, .ref mo)]) hx hb dB_3_2_46.1.1.2.1 hl (by decide) rfl (fun ls hl => ?_)
          suffices LOOP_17 : ∀ (n_17 : Nat) (x5_17 : Int32) (c_g32_17 : Nat → Int32) (H : Heap) (locs : List Loc) (ls : Array Slot), 13 - x5_17.toInt < (n_17 : Int) → (1 ≤ x5_17.toInt) → (x5_17.toInt ≤ 13) → (x1_3.toInt < x5_17.toInt) → (hgE c_g32_3 c_g32_17 n26_10 y_6.toInt x1_3.toInt x5_17.toInt) → (rng c_g32_17 12 (0) (11)) → pd_2 D vwCl A [ob12_0_ mo s0 s1 t2 s3 s4 g5 g6 g7 g8 g9 g10 s11 g12 g13 g14 g15 g16 g17 g18 g19 g20 s21 g22 g23 g24 n25_9 n26_10 n27_11 n28_12 g29 g30 g31 g32 g33, ai_ cy g5 40 f5, ai_ cy g6 40 f6, ai_ cy g7 40 f7, ai_ cy g8 40 f8, az_ cy g10 40 f10, ai_ cy g32 12 c_g32_17, ai_ cy g33 12 f_15] H → va_S A s.heap H locs → lv_has ls 6 [(5, .int x5_17), (4, .int n26_10), (3, .int r_7), (2, .int y_6), (1, .int x1_3), (0, .ref mo)] → W p l e ({ frames := 4, cells := 0, slots := 0, locals := 96 } : Room) s m (([.ref mo] : List Value).toArray) below meth c H locs 0 0 Q (F0 m 79 ls []) from LOOP_17 ((13 - y_16.toInt).toNat + 1) y_16 c_g32_3 _ _ _ (by omega) (by first | with_reducible assumption | omega | assumption) (by first | with_reducible assumption | omega | assumption) (by first | with_reducible assumption | omega | assumption) (by first | exact hgE_0 (by omega) | exact hgE_eq v_none (by omega) (by omega) (by omega) (by omega) ec_g32_3 (Or.inl ⟨b_tr hbw_ (by omega), by omega, rfl⟩) | exact hgE_eq v_none (by omega) (by omega) (by omega) (by omega) ec_g32_3 (Or.inr ⟨Or.inl (bt_fl hbw_ (by omega)), S[v]⟩) | exact hgE_eq v_none (by omega) (by omega) (by omega) (by omega) ec_g32_3 (Or.inr ⟨Or.inr (by omega), S[v]⟩)) (by first | with_reducible assumption | assumption | exact rng_zero (by omega) (by omega) | exact orng_zero) ⟨hP, hD⟩ hS (lv_sub hl [0, 1, 2, 3, 4, 5] rfl)
          intro n_17
          induction n_17 with
          | zero =>
            intro x5_17 c_g32_17 H locs ls hm v0_17 v1_17 v2_17 v3_17 rc_g32_17 hPD hS hl; obtain ⟨hP, hD⟩ := hPD
            exact absurd hm (by omega)
          | succ n_17 ih_17 =>
            intro x5_17 c_g32_17 H locs ls hm v0_17 v1_17 v2_17 v3_17 rc_g32_17 hPD hS hl; obtain ⟨hP, hD⟩ := hPD
            refine lv_iload hx hb dB_3_2_46.1.1.2.2 (lv_at hl 0 rfl) ?_
            refine lv_aload_n hx hb dB_3_2_46.1.2.1.1 rfl (lv_at hl 5 rfl) ?_
            refine va_get (ci := 12) (v := .int s3) (C := RX12) (T := TX12) (N := 34) hx hb hts (fun _ h => List.mem_cons_of_mem _ (List.mem_append_right _ h)) hown hK.1 hP 0 rfl rfl 3 (by decide) (hts (.fieldLink RX12 88 "CutAtlasModel" "places" "I") (List.mem_of_getElem? (i := 3) rfl)) (fun _ h9 => h9) rfl dB_3_2_46.1.2.1.2 ?_
            refine lv_icmp_ge (tgt := 134) hx hb dB_3_2_46.1.2.2.1 (by decide) (fun c_18 => ?_) (fun c_18 => ?_)
            · have t_18 : s3.toInt ≤ x5_17.toInt := Int32.le_iff_toInt_le.mp c_18
              have hge_ := v3_17
              have hrg_ : ∀ j : Nat, 1 ≤ j → j < 12 → 0 ≤ (c_g32_17 j).toInt ∧ (c_g32_17 j).toInt < x1_3.toInt + 1 := fun j h1 h2 => by have a_ := v2_3 j h1 h2; rw [v3_17 j h2]; split <;> omega
              refine lv_iload_n hx hb dB_3_2_48.1.1.1.1 rfl (lv_at hl 3 rfl) ?_
              refine lv_if_eq (tgt := 191) hx hb dB_3_2_48.1.1.1.2 (by decide) (fun c_19 => ?_) (fun c_19 => ?_)
              · have t_19 : y_6.toInt = (0 : Int32).toInt := congrArg Int32.toInt c_19
                first | (have hgs_ : gst (cutR f5 f6 f7 f8 f10 s21.toInt s4.toNatClampNeg) s3.toNatClampNeg x1_3.toNatClampNeg c_g32_3 c_g33_3 c_g32_17 f_15 := gst_sw (P := s3) (i := x1_3) (t := y_6) (m := r_7) (N := n26_10) (k := x5_17) (by omega) (by omega) ey_6 (by omega) hmo_ hnp_ v3_17 (by omega) ef_15 (by omega) (by have h_ := b_tr hb2_ (by omega); rw [S[ex]] at h_; exact h_) S[v2] S[e1] S[w] S[e2] S[e3] ef_15; have hrg2_ : ∀ j : Nat, 1 ≤ j → j < 12 → 0 ≤ (c_g32_17 j).toInt ∧ (c_g32_17 j).toInt < x1_3.toInt + 1 := rg_sw hrg_ S[v2] S[e1] S[e3] (by omega) (by omega)) | (have hgs_ : gst (cutR f5 f6 f7 f8 f10 s21.toInt s4.toNatClampNeg) s3.toNatClampNeg x1_3.toNatClampNeg c_g32_3 c_g33_3 c_g32_17 f_15 := gst_no (P := s3) (i := x1_3) (t := y_6) (m := r_7) (N := n26_10) (k := x5_17) (by omega) (by omega) ey_6 (by omega) hmo_ hnp_ v3_17 (by omega) ef_15 (Or.inl (by omega)); have hrg2_ := hrg_) | (have hgs_ : gst (cutR f5 f6 f7 f8 f10 s21.toInt s4.toNatClampNeg) s3.toNatClampNeg x1_3.toNatClampNeg c_g32_3 c_g33_3 c_g32_17 f_15 := gst_no (P := s3) (i := x1_3) (t := y_6) (m := r_7) (N := n26_10) (k := x5_17) (by omega) (by omega) ey_6 (by omega) hmo_ hnp_ v3_17 (by omega) ef_15 (Or.inr (by have h_ := bt_fl hb2_ (by omega); rw [S[ex]] at h_; exact h_)); have hrg2_ := hrg_)
                obtain ⟨y_20, ey_20⟩ : ∃ y : Int32, y = x1_3 + 1 := ⟨_, rfl⟩
                have ty_20 : y_20.toInt = x1_3.toInt + (1 : Int32).toInt := by rw [ey_20]; exact addI (by omega) (by omega)
                refine lv_iinc (v := y_20) (lv' := [(1, .int y_20), (5, .int x5_17), (4, .int n26_10), (3, .int r_7), (2, .int y_6), (0, .ref mo)]) hx hb dB_3_2_50.2.2.1 hl (k := 4) rfl (by rw [ey_20]; rfl) (by decide) rfl (fun ls hl => ?_)
                refine lv_goto (tgt := 31) hx hb dB_3_2_50.2.2.2.1 (by decide) ?_
                exact ih_3 y_20 n25_9 n26_10 n27_11 n28_12 c_g32_17 f_15 _ _ _ (by omega) (by first | with_reducible assumption | omega | assumption) (by first | with_reducible assumption | omega | assumption) (by first | exact fun j h1 h2 => by have h_ := hz_ j h2; omega | exact fun j h1 h2 => by have h_ := hrg2_ j h1 h2; omega) (by first | exact gtr_1 (fun j h1 h2 => hz_ j (by omega)) | exact gtr_nx v3_3 (by omega) hgs_ (by omega)) (by first | with_reducible assumption | omega | assumption) (by first | with_reducible assumption | assumption | exact rng_zero (by omega) (by omega) | exact orng_zero) ⟨hP, hD⟩ hS (lv_sub hl [0, 5] rfl)
              · have t_19 : ¬ y_6.toInt = (0 : Int32).toInt := fun h => c_19 (Int32.toInt_inj.mp h)
                refine lv_iload hx hb dB_3_2_48.1.1.2.1 (lv_at hl 1 rfl) ?_
                refine lv_aload_n hx hb dB_3_2_48.1.1.2.2 rfl (lv_at hl 5 rfl) ?_
                refine va_get (ci := 12) (v := .ref g32) (C := RX12) (T := TX12) (N := 34) hx hb hts (fun _ h => List.mem_cons_of_mem _ (List.mem_append_right _ h)) hown hK.1 hP 0 rfl rfl 32 (by decide) (hts (.fieldLink RX12 79 "CutAtlasModel" "treeNext" "[I") (List.mem_of_getElem? (i := 1) rfl)) (fun _ h9 => h9) rfl dB_3_2_48.1.2.1.1 ?_
                refine lv_iload_n hx hb dB_3_2_48.1.2.1.2 rfl (lv_at hl 3 rfl) ?_
                have h_21 : vp_in y_6 12 := in_I (by first | with_reducible assumption | omega) (by omega)
                refine va_iald hx hb hK.1 hP 6 0 rfl rfl (i := y_6) h_21 dB_3_2_48.1.2.2.1 ?_
                refine lv_topi (fun y_22 ey_22 => ?_)
                have ky_22 : y_22.toInt = (c_g32_17 y_6.toNatClampNeg).toInt := by rw [ey_22]
                have ry_22 : 0 ≤ y_22.toInt ∧ y_22.toInt ≤ 11 := by rw [ey_22]; exact rc_g32_17 _ (in_lt h_21)
                refine lv_ishr hx hb dB_3_2_48.1.2.2.2 ?_
                refine lv_topi (fun y_23 ey_23 => ?_)
                refine lv_iconst (v := 1) hx hb dB_3_2_48.2.1.1.1 (by decide) ?_
                refine lv_iand hx hb dB_3_2_48.2.1.1.2 ?_
                refine lv_topi (fun y_24 ey_24 => ?_)
                have hb2_ := bI_w (x := n26_10) (y := y_22) (by omega) (by omega) ey_23 ey_24
                refine lv_iconst (v := 1) hx hb dB_3_2_48.2.1.2.1 (by decide) ?_
                refine lv_icmp_ne (tgt := 191) hx hb dB_3_2_48.2.1.2.2 (by decide) (fun c_25 => ?_) (fun c_25 => ?_)
                · have t_25 : ¬ y_24.toInt = (1 : Int32).toInt := fun h => c_25 (Int32.toInt_inj.mp h)
                  first | (have hgs_ : gst (cutR f5 f6 f7 f8 f10 s21.toInt s4.toNatClampNeg) s3.toNatClampNeg x1_3.toNatClampNeg c_g32_3 c_g33_3 c_g32_17 f_15 := gst_sw (P := s3) (i := x1_3) (t := y_6) (m := r_7) (N := n26_10) (k := x5_17) (by omega) (by omega) ey_6 (by omega) hmo_ hnp_ v3_17 (by omega) ef_15 (by omega) (by have h_ := b_tr hb2_ (by omega); rw [ey_22] at h_; exact h_) S[v2] S[e1] S[w] S[e2] S[e3] ef_15; have hrg2_ : ∀ j : Nat, 1 ≤ j → j < 12 → 0 ≤ (c_g32_17 j).toInt ∧ (c_g32_17 j).toInt < x1_3.toInt + 1 := rg_sw hrg_ S[v2] S[e1] S[e3] (by omega) (by omega)) | (have hgs_ : gst (cutR f5 f6 f7 f8 f10 s21.toInt s4.toNatClampNeg) s3.toNatClampNeg x1_3.toNatClampNeg c_g32_3 c_g33_3 c_g32_17 f_15 := gst_no (P := s3) (i := x1_3) (t := y_6) (m := r_7) (N := n26_10) (k := x5_17) (by omega) (by omega) ey_6 (by omega) hmo_ hnp_ v3_17 (by omega) ef_15 (Or.inl (by omega)); have hrg2_ := hrg_) | (have hgs_ : gst (cutR f5 f6 f7 f8 f10 s21.toInt s4.toNatClampNeg) s3.toNatClampNeg x1_3.toNatClampNeg c_g32_3 c_g33_3 c_g32_17 f_15 := gst_no (P := s3) (i := x1_3) (t := y_6) (m := r_7) (N := n26_10) (k := x5_17) (by omega) (by omega) ey_6 (by omega) hmo_ hnp_ v3_17 (by omega) ef_15 (Or.inr (by have h_ := bt_fl hb2_ (by omega); rw [ey_22] at h_; exact h_)); have hrg2_ := hrg_)
                  obtain ⟨y_26, ey_26⟩ : ∃ y : Int32, y = x1_3 + 1 := ⟨_, rfl⟩
                  have ty_26 : y_26.toInt = x1_3.toInt + (1 : Int32).toInt := by rw [ey_26]; exact addI (by omega) (by omega)
                  refine lv_iinc (v := y_26) (lv' := [(1, .int y_26), (5, .int x5_17), (4, .int n26_10), (3, .int r_7), (2, .int y_6), (0, .ref mo)]) hx hb dB_3_2_50.2.2.1 hl (k := 4) rfl (by rw [ey_26]; rfl) (by decide) rfl (fun ls hl => ?_)
                  refine lv_goto (tgt := 31) hx hb dB_3_2_50.2.2.2.1 (by decide) ?_
                  exact ih_3 y_26 n25_9 n26_10 n27_11 n28_12 c_g32_17 f_15 _ _ _ (by omega) (by first | with_reducible assumption | omega | assumption) (by first | with_reducible assumption | omega | assumption) (by first | exact fun j h1 h2 => by have h_ := hz_ j h2; omega | exact fun j h1 h2 => by have h_ := hrg2_ j h1 h2; omega) (by first | exact gtr_1 (fun j h1 h2 => hz_ j (by omega)) | exact gtr_nx v3_3 (by omega) hgs_ (by omega)) (by first | with_reducible assumption | omega | assumption) (by first | with_reducible assumption | assumption | exact rng_zero (by omega) (by omega) | exact orng_zero) ⟨hP, hD⟩ hS (lv_sub hl [0, 5] rfl)
                · have t_25 : y_24.toInt = (1 : Int32).toInt := congrArg Int32.toInt c_25
                  refine lv_aload_n hx hb dB_3_2_48.2.2.1.1 rfl (lv_at hl 5 rfl) ?_
                  refine va_get (ci := 12) (v := .ref g32) (C := RX12) (T := TX12) (N := 34) hx hb hts (fun _ h => List.mem_cons_of_mem _ (List.mem_append_right _ h)) hown hK.1 hP 0 rfl rfl 32 (by decide) (hts (.fieldLink RX12 79 "CutAtlasModel" "treeNext" "[I") (List.mem_of_getElem? (i := 1) rfl)) (fun _ h9 => h9) rfl dB_3_2_48.2.2.1.2 ?_
                  refine lv_iload_n hx hb dB_3_2_48.2.2.2.1 rfl (lv_at hl 4 rfl) ?_
                  refine lv_aload_n hx hb dB_3_2_48.2.2.2.2 rfl (lv_at hl 5 rfl) ?_
                  refine va_get (ci := 12) (v := .ref g32) (C := RX12) (T := TX12) (N := 34) hx hb hts (fun _ h => List.mem_cons_of_mem _ (List.mem_append_right _ h)) hown hK.1 hP 0 rfl rfl 32 (by decide) (hts (.fieldLink RX12 79 "CutAtlasModel" "treeNext" "[I") (List.mem_of_getElem? (i := 1) rfl)) (fun _ h9 => h9) rfl dB_3_2_49.1.1.1.1 ?_
                  refine lv_iload_n hx hb dB_3_2_49.1.1.1.2 rfl (lv_at hl 3 rfl) ?_
                  refine va_iald hx hb hK.1 hP 6 0 rfl rfl (i := y_6) h_21 dB_3_2_49.1.1.2.1 ?_
                  refine lv_topi (fun y_28 ey_28 => ?_)
                  have e_ := (ey_28.trans ey_22.symm).symm
                  subst e_
                  skip
                  refine va_iast hx hb hK.1 hP hD hS 6 0 rfl rfl (i := x1_3) h_5 dB_3_2_49.1.1.2.2 (fun H locs hP hD hS => ?_)
                  obtain ⟨f_30, ef_30⟩ : ∃ g : Nat → Int32, g = upd c_g32_17 x1_3.toNatClampNeg y_22 := ⟨_, rfl⟩
                  refine pd_K (D := D) (cl := vwCl) (H := H) (A := A) [ob12_0_ mo s0 s1 t2 s3 s4 g5 g6 g7 g8 g9 g10 s11 g12 g13 g14 g15 g16 g17 g18 g19 g20 s21 g22 g23 g24 n25_9 n26_10 n27_11 n28_12 g29 g30 g31 g32 g33, ai_ cy g5 40 f5, ai_ cy g6 40 f6, ai_ cy g7 40 f7, ai_ cy g8 40 f8, az_ cy g10 40 f10, ai_ cy g32 12 f_30, ai_ cy g33 12 f_15] (by rw [ef_30]; exact hP) (by rw [ef_30]; exact hD) (fun hP hD => ?_)
                  have rf_30 : rng f_30 12 (0) (11) := by rw [ef_30]; exact rng_upd rc_g32_17 (by omega) (by omega)
                  refine lv_aload_n hx hb dB_3_2_49.1.2.1.1 rfl (lv_at hl 5 rfl) ?_
                  refine va_get (ci := 12) (v := .ref g33) (C := RX12) (T := TX12) (N := 34) hx hb hts (fun _ h => List.mem_cons_of_mem _ (List.mem_append_right _ h)) hown hK.1 hP 0 rfl rfl 33 (by decide) (hts (.fieldLink RX12 82 "CutAtlasModel" "treeNumber" "[I") (List.mem_of_getElem? (i := 2) rfl)) (fun _ h9 => h9) rfl dB_3_2_49.1.2.1.2 ?_
                  refine lv_iload_n hx hb dB_3_2_49.1.2.2.1 rfl (lv_at hl 4 rfl) ?_
                  refine lv_aload_n hx hb dB_3_2_49.1.2.2.2 rfl (lv_at hl 5 rfl) ?_
                  refine va_get (ci := 12) (v := .ref g33) (C := RX12) (T := TX12) (N := 34) hx hb hts (fun _ h => List.mem_cons_of_mem _ (List.mem_append_right _ h)) hown hK.1 hP 0 rfl rfl 33 (by decide) (hts (.fieldLink RX12 82 "CutAtlasModel" "treeNumber" "[I") (List.mem_of_getElem? (i := 2) rfl)) (fun _ h9 => h9) rfl dB_3_2_49.2.1.1.1 ?_
                  refine lv_iload_n hx hb dB_3_2_49.2.1.1.2 rfl (lv_at hl 3 rfl) ?_
                  refine va_iald hx hb hK.1 hP 7 0 rfl rfl (i := y_6) h_21 dB_3_2_49.2.1.2.1 ?_
                  refine lv_topi (fun y_32 ey_32 => ?_)
                  have ky_32 : y_32.toInt = (f_15 y_6.toNatClampNeg).toInt := by rw [ey_32]
                  refine va_iast hx hb hK.1 hP hD hS 7 0 rfl rfl (i := x1_3) h_5 dB_3_2_49.2.1.2.2 (fun H locs hP hD hS => ?_)
                  obtain ⟨f_34, ef_34⟩ : ∃ g : Nat → Int32, g = upd f_15 x1_3.toNatClampNeg y_32 := ⟨_, rfl⟩
                  refine pd_K (D := D) (cl := vwCl) (H := H) (A := A) [ob12_0_ mo s0 s1 t2 s3 s4 g5 g6 g7 g8 g9 g10 s11 g12 g13 g14 g15 g16 g17 g18 g19 g20 s21 g22 g23 g24 n25_9 n26_10 n27_11 n28_12 g29 g30 g31 g32 g33, ai_ cy g5 40 f5, ai_ cy g6 40 f6, ai_ cy g7 40 f7, ai_ cy g8 40 f8, az_ cy g10 40 f10, ai_ cy g32 12 f_30, ai_ cy g33 12 f_34] (by rw [ef_34]; exact hP) (by rw [ef_34]; exact hD) (fun hP hD => ?_)
                  refine lv_aload_n hx hb dB_3_2_49.2.2.1.1 rfl (lv_at hl 5 rfl) ?_
                  refine va_get (ci := 12) (v := .ref g32) (C := RX12) (T := TX12) (N := 34) hx hb hts (fun _ h => List.mem_cons_of_mem _ (List.mem_append_right _ h)) hown hK.1 hP 0 rfl rfl 32 (by decide) (hts (.fieldLink RX12 79 "CutAtlasModel" "treeNext" "[I") (List.mem_of_getElem? (i := 1) rfl)) (fun _ h9 => h9) rfl dB_3_2_49.2.2.1.2 ?_
                  refine lv_iload_n hx hb dB_3_2_49.2.2.2.1 rfl (lv_at hl 3 rfl) ?_
                  refine lv_iload_n hx hb dB_3_2_49.2.2.2.2 rfl (lv_at hl 4 rfl) ?_
                  refine va_iast hx hb hK.1 hP hD hS 6 0 rfl rfl (i := y_6) h_21 dB_3_2_50.1.1.1 (fun H locs hP hD hS => ?_)
                  obtain ⟨f_36, ef_36⟩ : ∃ g : Nat → Int32, g = upd f_30 y_6.toNatClampNeg x1_3 := ⟨_, rfl⟩
                  refine pd_K (D := D) (cl := vwCl) (H := H) (A := A) [ob12_0_ mo s0 s1 t2 s3 s4 g5 g6 g7 g8 g9 g10 s11 g12 g13 g14 g15 g16 g17 g18 g19 g20 s21 g22 g23 g24 n25_9 n26_10 n27_11 n28_12 g29 g30 g31 g32 g33, ai_ cy g5 40 f5, ai_ cy g6 40 f6, ai_ cy g7 40 f7, ai_ cy g8 40 f8, az_ cy g10 40 f10, ai_ cy g32 12 f_36, ai_ cy g33 12 f_34] (by rw [ef_36]; exact hP) (by rw [ef_36]; exact hD) (fun hP hD => ?_)
                  have rf_36 : rng f_36 12 (0) (11) := by rw [ef_36]; exact rng_upd rf_30 (by omega) (by omega)
                  refine lv_aload_n hx hb dB_3_2_50.1.1.2 rfl (lv_at hl 5 rfl) ?_
                  refine va_get (ci := 12) (v := .ref g33) (C := RX12) (T := TX12) (N := 34) hx hb hts (fun _ h => List.mem_cons_of_mem _ (List.mem_append_right _ h)) hown hK.1 hP 0 rfl rfl 33 (by decide) (hts (.fieldLink RX12 82 "CutAtlasModel" "treeNumber" "[I") (List.mem_of_getElem? (i := 2) rfl)) (fun _ h9 => h9) rfl dB_3_2_50.1.2.1 ?_
                  refine lv_iload_n hx hb dB_3_2_50.1.2.2 rfl (lv_at hl 3 rfl) ?_
                  refine lv_iload_n hx hb dB_3_2_50.2.1.1 rfl (lv_at hl 2 rfl) ?_
                  refine va_iast hx hb hK.1 hP hD hS 7 0 rfl rfl (i := y_6) h_21 dB_3_2_50.2.1.2 (fun H locs hP hD hS => ?_)
                  obtain ⟨f_38, ef_38⟩ : ∃ g : Nat → Int32, g = upd f_34 y_6.toNatClampNeg r_7 := ⟨_, rfl⟩
                  refine pd_K (D := D) (cl := vwCl) (H := H) (A := A) [ob12_0_ mo s0 s1 t2 s3 s4 g5 g6 g7 g8 g9 g10 s11 g12 g13 g14 g15 g16 g17 g18 g19 g20 s21 g22 g23 g24 n25_9 n26_10 n27_11 n28_12 g29 g30 g31 g32 g33, ai_ cy g5 40 f5, ai_ cy g6 40 f6, ai_ cy g7 40 f7, ai_ cy g8 40 f8, az_ cy g10 40 f10, ai_ cy g32 12 f_36, ai_ cy g33 12 f_38] (by rw [ef_38]; exact hP) (by rw [ef_38]; exact hD) (fun hP hD => ?_)
                  first | (have hgs_ : gst (cutR f5 f6 f7 f8 f10 s21.toInt s4.toNatClampNeg) s3.toNatClampNeg x1_3.toNatClampNeg c_g32_3 c_g33_3 f_36 f_38 := gst_sw (P := s3) (i := x1_3) (t := y_6) (m := r_7) (N := n26_10) (k := x5_17) (by omega) (by omega) ey_6 (by omega) hmo_ hnp_ v3_17 (by omega) ef_15 (by omega) (by have h_ := b_tr hb2_ (by omega); rw [ey_22] at h_; exact h_) ey_22 ef_30 ey_32 ef_34 ef_36 ef_38; have hrg2_ : ∀ j : Nat, 1 ≤ j → j < 12 → 0 ≤ (f_36 j).toInt ∧ (f_36 j).toInt < x1_3.toInt + 1 := rg_sw hrg_ ey_22 ef_30 ef_36 (by omega) (by omega)) | (have hgs_ : gst (cutR f5 f6 f7 f8 f10 s21.toInt s4.toNatClampNeg) s3.toNatClampNeg x1_3.toNatClampNeg c_g32_3 c_g33_3 f_36 f_38 := gst_no (P := s3) (i := x1_3) (t := y_6) (m := r_7) (N := n26_10) (k := x5_17) (by omega) (by omega) ey_6 (by omega) hmo_ hnp_ v3_17 (by omega) ef_15 (Or.inl (by omega)); have hrg2_ := hrg_) | (have hgs_ : gst (cutR f5 f6 f7 f8 f10 s21.toInt s4.toNatClampNeg) s3.toNatClampNeg x1_3.toNatClampNeg c_g32_3 c_g33_3 f_36 f_38 := gst_no (P := s3) (i := x1_3) (t := y_6) (m := r_7) (N := n26_10) (k := x5_17) (by omega) (by omega) ey_6 (by omega) hmo_ hnp_ v3_17 (by omega) ef_15 (Or.inr (by have h_ := bt_fl hb2_ (by omega); rw [ey_22] at h_; exact h_)); have hrg2_ := hrg_)
                  obtain ⟨y_39, ey_39⟩ : ∃ y : Int32, y = x1_3 + 1 := ⟨_, rfl⟩
                  have ty_39 : y_39.toInt = x1_3.toInt + (1 : Int32).toInt := by rw [ey_39]; exact addI (by omega) (by omega)
                  refine lv_iinc (v := y_39) (lv' := [(1, .int y_39), (5, .int x5_17), (4, .int n26_10), (3, .int r_7), (2, .int y_6), (0, .ref mo)]) hx hb dB_3_2_50.2.2.1 hl (k := 4) rfl (by rw [ey_39]; rfl) (by decide) rfl (fun ls hl => ?_)
                  refine lv_goto (tgt := 31) hx hb dB_3_2_50.2.2.2.1 (by decide) ?_
                  exact ih_3 y_39 n25_9 n26_10 n27_11 n28_12 f_36 f_38 _ _ _ (by omega) (by first | with_reducible assumption | omega | assumption) (by first | with_reducible assumption | omega | assumption) (by first | exact fun j h1 h2 => by have h_ := hz_ j h2; omega | exact fun j h1 h2 => by have h_ := hrg2_ j h1 h2; omega) (by first | exact gtr_1 (fun j h1 h2 => hz_ j (by omega)) | exact gtr_nx v3_3 (by omega) hgs_ (by omega)) (by first | with_reducible assumption | omega | assumption) (by first | with_reducible assumption | assumption | exact rng_zero (by omega) (by omega) | exact orng_zero) ⟨hP, hD⟩ hS (lv_sub hl [0, 5] rfl)
            · have t_18 : ¬ s3.toInt ≤ x5_17.toInt := fun h => c_18 (Int32.le_iff_toInt_le.mpr h)
              refine lv_aload_n hx hb dB_3_2_46.1.2.2.2 rfl (lv_at hl 5 rfl) ?_
              refine va_get (ci := 12) (v := .ref g32) (C := RX12) (T := TX12) (N := 34) hx hb hts (fun _ h => List.mem_cons_of_mem _ (List.mem_append_right _ h)) hown hK.1 hP 0 rfl rfl 32 (by decide) (hts (.fieldLink RX12 79 "CutAtlasModel" "treeNext" "[I") (List.mem_of_getElem? (i := 1) rfl)) (fun _ h9 => h9) rfl dB_3_2_46.2.1.1.1 ?_
              refine lv_iload hx hb dB_3_2_46.2.1.1.2 (lv_at hl 0 rfl) ?_
              refine lv_iload hx hb dB_3_2_46.2.1.2.1 (lv_at hl 1 rfl) ?_
              refine lv_iload hx hb dB_3_2_46.2.1.2.2 (lv_at hl 0 rfl) ?_
              refine lv_ishr hx hb dB_3_2_46.2.2.1.1 ?_
              refine lv_topi (fun y_40 ey_40 => ?_)
              refine lv_iconst (v := 1) hx hb dB_3_2_46.2.2.1.2 (by decide) ?_
              refine lv_iand hx hb dB_3_2_46.2.2.2.1 ?_
              refine lv_topi (fun y_41 ey_41 => ?_)
              have hbw_ := bI_w (x := n26_10) (y := x5_17) (by omega) (by omega) ey_40 ey_41
              refine lv_iconst (v := 1) hx hb dB_3_2_46.2.2.2.2 (by decide) ?_
              refine lv_icmp_ne (tgt := 120) hx hb dB_3_2_47.1.1.1.1 (by decide) (fun c_42 => ?_) (fun c_42 => ?_)
              · have t_42 : ¬ y_41.toInt = (1 : Int32).toInt := fun h => c_42 (Int32.toInt_inj.mp h)
                refine lv_aload_n hx hb dB_3_2_47.2.1.1.2 rfl (lv_at hl 5 rfl) ?_
                refine va_get (ci := 12) (v := .ref g32) (C := RX12) (T := TX12) (N := 34) hx hb hts (fun _ h => List.mem_cons_of_mem _ (List.mem_append_right _ h)) hown hK.1 hP 0 rfl rfl 32 (by decide) (hts (.fieldLink RX12 79 "CutAtlasModel" "treeNext" "[I") (List.mem_of_getElem? (i := 1) rfl)) (fun _ h9 => h9) rfl dB_3_2_47.2.1.2.1 ?_
                refine lv_iload hx hb dB_3_2_47.2.1.2.2 (lv_at hl 0 rfl) ?_
                have h_43 : vp_in x5_17 12 := in_I (by first | with_reducible assumption | omega) (by omega)
                refine va_iald hx hb hK.1 hP 6 0 rfl rfl (i := x5_17) h_43 dB_3_2_47.2.2.1.1 ?_
                refine lv_topi (fun y_44 ey_44 => ?_)
                have ky_44 : y_44.toInt = (c_g32_17 x5_17.toNatClampNeg).toInt := by rw [ey_44]
                have ry_44 : 0 ≤ y_44.toInt ∧ y_44.toInt ≤ 11 := by rw [ey_44]; exact rc_g32_17 _ (in_lt h_43)
                refine va_iast hx hb hK.1 hP hD hS 6 0 rfl rfl (i := x5_17) h_43 dB_3_2_47.2.2.1.2 (fun H locs hP hD hS => ?_)
                obtain ⟨f_46, ef_46⟩ : ∃ g : Nat → Int32, g = upd c_g32_17 x5_17.toNatClampNeg y_44 := ⟨_, rfl⟩
                refine pd_K (D := D) (cl := vwCl) (H := H) (A := A) [ob12_0_ mo s0 s1 t2 s3 s4 g5 g6 g7 g8 g9 g10 s11 g12 g13 g14 g15 g16 g17 g18 g19 g20 s21 g22 g23 g24 n25_9 n26_10 n27_11 n28_12 g29 g30 g31 g32 g33, ai_ cy g5 40 f5, ai_ cy g6 40 f6, ai_ cy g7 40 f7, ai_ cy g8 40 f8, az_ cy g10 40 f10, ai_ cy g32 12 f_46, ai_ cy g33 12 f_15] (by rw [ef_46]; exact hP) (by rw [ef_46]; exact hD) (fun hP hD => ?_)
                have rf_46 : rng f_46 12 (0) (11) := by rw [ef_46]; exact rng_upd rc_g32_17 (by omega) (by omega)
                obtain ⟨y_47, ey_47⟩ : ∃ y : Int32, y = x5_17 + 1 := ⟨_, rfl⟩
                have ty_47 : y_47.toInt = x5_17.toInt + (1 : Int32).toInt := by rw [ey_47]; exact addI (by omega) (by omega)
                refine lv_iinc (v := y_47) (lv' := [(5, .int y_47), (4, .int n26_10), (3, .int r_7), (2, .int y_6), (1, .int x1_3), (0, .ref mo)]) hx hb dB_3_2_47.2.2.2.1 hl (k := 0) rfl (by rw [ey_47]; rfl) (by decide) rfl (fun ls hl => ?_)
                refine lv_goto (tgt := 79) hx hb dB_3_2_47.2.2.2.2 (by decide) ?_
                exact ih_17 y_47 f_46 _ _ _ (by omega) (by first | with_reducible assumption | omega | assumption) (by first | with_reducible assumption | omega | assumption) (by first | with_reducible assumption | omega | assumption) (by first | exact hgE_0 (by omega) | exact hgE_eq v3_17 (by omega) (by omega) (by omega) (by omega) ef_46 (Or.inl ⟨b_tr hbw_ (by omega), by omega, rfl⟩) | exact hgE_eq v3_17 (by omega) (by omega) (by omega) (by omega) ef_46 (Or.inr ⟨Or.inl (bt_fl hbw_ (by omega)), ey_44⟩) | exact hgE_eq v3_17 (by omega) (by omega) (by omega) (by omega) ef_46 (Or.inr ⟨Or.inr (by omega), ey_44⟩)) (by first | with_reducible assumption | assumption | exact rng_zero (by omega) (by omega) | exact orng_zero) ⟨hP, hD⟩ hS (lv_sub hl [0, 1, 2, 3, 4, 5] rfl)
              · have t_42 : y_41.toInt = (1 : Int32).toInt := congrArg Int32.toInt c_42
                refine lv_aload_n hx hb dB_3_2_47.1.1.1.2 rfl (lv_at hl 5 rfl) ?_
                refine va_get (ci := 12) (v := .ref g32) (C := RX12) (T := TX12) (N := 34) hx hb hts (fun _ h => List.mem_cons_of_mem _ (List.mem_append_right _ h)) hown hK.1 hP 0 rfl rfl 32 (by decide) (hts (.fieldLink RX12 79 "CutAtlasModel" "treeNext" "[I") (List.mem_of_getElem? (i := 1) rfl)) (fun _ h9 => h9) rfl dB_3_2_47.1.1.2.1 ?_
                refine lv_iload hx hb dB_3_2_47.1.1.2.2 (lv_at hl 0 rfl) ?_
                have h_48 : vp_in x5_17 12 := in_I (by first | with_reducible assumption | omega) (by omega)
                refine va_iald hx hb hK.1 hP 6 0 rfl rfl (i := x5_17) h_48 dB_3_2_47.1.2.1.1 ?_
                refine lv_topi (fun y_49 ey_49 => ?_)
                have ky_49 : y_49.toInt = (c_g32_17 x5_17.toNatClampNeg).toInt := by rw [ey_49]
                have ry_49 : 0 ≤ y_49.toInt ∧ y_49.toInt ≤ 11 := by rw [ey_49]; exact rc_g32_17 _ (in_lt h_48)
                refine lv_iload_n hx hb dB_3_2_47.1.2.1.2 rfl (lv_at hl 3 rfl) ?_
                refine lv_icmp_ne (tgt := 120) hx hb dB_3_2_47.1.2.2.1 (by decide) (fun c_50 => ?_) (fun c_50 => ?_)
                · have t_50 : ¬ y_49.toInt = y_6.toInt := fun h => c_50 (Int32.toInt_inj.mp h)
                  refine lv_aload_n hx hb dB_3_2_47.2.1.1.2 rfl (lv_at hl 5 rfl) ?_
                  refine va_get (ci := 12) (v := .ref g32) (C := RX12) (T := TX12) (N := 34) hx hb hts (fun _ h => List.mem_cons_of_mem _ (List.mem_append_right _ h)) hown hK.1 hP 0 rfl rfl 32 (by decide) (hts (.fieldLink RX12 79 "CutAtlasModel" "treeNext" "[I") (List.mem_of_getElem? (i := 1) rfl)) (fun _ h9 => h9) rfl dB_3_2_47.2.1.2.1 ?_
                  refine lv_iload hx hb dB_3_2_47.2.1.2.2 (lv_at hl 0 rfl) ?_
                  refine va_iald hx hb hK.1 hP 6 0 rfl rfl (i := x5_17) h_48 dB_3_2_47.2.2.1.1 ?_
                  refine lv_topi (fun y_52 ey_52 => ?_)
                  have e_ := (ey_52.trans ey_49.symm).symm
                  subst e_
                  skip
                  refine va_iast hx hb hK.1 hP hD hS 6 0 rfl rfl (i := x5_17) h_48 dB_3_2_47.2.2.1.2 (fun H locs hP hD hS => ?_)
                  obtain ⟨f_54, ef_54⟩ : ∃ g : Nat → Int32, g = upd c_g32_17 x5_17.toNatClampNeg y_49 := ⟨_, rfl⟩
                  refine pd_K (D := D) (cl := vwCl) (H := H) (A := A) [ob12_0_ mo s0 s1 t2 s3 s4 g5 g6 g7 g8 g9 g10 s11 g12 g13 g14 g15 g16 g17 g18 g19 g20 s21 g22 g23 g24 n25_9 n26_10 n27_11 n28_12 g29 g30 g31 g32 g33, ai_ cy g5 40 f5, ai_ cy g6 40 f6, ai_ cy g7 40 f7, ai_ cy g8 40 f8, az_ cy g10 40 f10, ai_ cy g32 12 f_54, ai_ cy g33 12 f_15] (by rw [ef_54]; exact hP) (by rw [ef_54]; exact hD) (fun hP hD => ?_)
                  have rf_54 : rng f_54 12 (0) (11) := by rw [ef_54]; exact rng_upd rc_g32_17 (by omega) (by omega)
                  obtain ⟨y_55, ey_55⟩ : ∃ y : Int32, y = x5_17 + 1 := ⟨_, rfl⟩
                  have ty_55 : y_55.toInt = x5_17.toInt + (1 : Int32).toInt := by rw [ey_55]; exact addI (by omega) (by omega)
                  refine lv_iinc (v := y_55) (lv' := [(5, .int y_55), (4, .int n26_10), (3, .int r_7), (2, .int y_6), (1, .int x1_3), (0, .ref mo)]) hx hb dB_3_2_47.2.2.2.1 hl (k := 0) rfl (by rw [ey_55]; rfl) (by decide) rfl (fun ls hl => ?_)
                  refine lv_goto (tgt := 79) hx hb dB_3_2_47.2.2.2.2 (by decide) ?_
                  exact ih_17 y_55 f_54 _ _ _ (by omega) (by first | with_reducible assumption | omega | assumption) (by first | with_reducible assumption | omega | assumption) (by first | with_reducible assumption | omega | assumption) (by first | exact hgE_0 (by omega) | exact hgE_eq v3_17 (by omega) (by omega) (by omega) (by omega) ef_54 (Or.inl ⟨b_tr hbw_ (by omega), by omega, rfl⟩) | exact hgE_eq v3_17 (by omega) (by omega) (by omega) (by omega) ef_54 (Or.inr ⟨Or.inl (bt_fl hbw_ (by omega)), ey_49⟩) | exact hgE_eq v3_17 (by omega) (by omega) (by omega) (by omega) ef_54 (Or.inr ⟨Or.inr (by omega), ey_49⟩)) (by first | with_reducible assumption | assumption | exact rng_zero (by omega) (by omega) | exact orng_zero) ⟨hP, hD⟩ hS (lv_sub hl [0, 1, 2, 3, 4, 5] rfl)
                · have t_50 : y_49.toInt = y_6.toInt := congrArg Int32.toInt c_50
                  refine lv_iload_n hx hb dB_3_2_47.1.2.2.2 rfl (lv_at hl 4 rfl) ?_
                  refine lv_goto (tgt := 127) hx hb dB_3_2_47.2.1.1.1 (by decide) ?_
                  refine va_iast hx hb hK.1 hP hD hS 6 0 rfl rfl (i := x5_17) h_48 dB_3_2_47.2.2.1.2 (fun H locs hP hD hS => ?_)
                  obtain ⟨f_57, ef_57⟩ : ∃ g : Nat → Int32, g = upd c_g32_17 x5_17.toNatClampNeg x1_3 := ⟨_, rfl⟩
                  refine pd_K (D := D) (cl := vwCl) (H := H) (A := A) [ob12_0_ mo s0 s1 t2 s3 s4 g5 g6 g7 g8 g9 g10 s11 g12 g13 g14 g15 g16 g17 g18 g19 g20 s21 g22 g23 g24 n25_9 n26_10 n27_11 n28_12 g29 g30 g31 g32 g33, ai_ cy g5 40 f5, ai_ cy g6 40 f6, ai_ cy g7 40 f7, ai_ cy g8 40 f8, az_ cy g10 40 f10, ai_ cy g32 12 f_57, ai_ cy g33 12 f_15] (by rw [ef_57]; exact hP) (by rw [ef_57]; exact hD) (fun hP hD => ?_)
                  have rf_57 : rng f_57 12 (0) (11) := by rw [ef_57]; exact rng_upd rc_g32_17 (by omega) (by omega)
                  obtain ⟨y_58, ey_58⟩ : ∃ y : Int32, y = x5_17 + 1 := ⟨_, rfl⟩
                  have ty_58 : y_58.toInt = x5_17.toInt + (1 : Int32).toInt := by rw [ey_58]; exact addI (by omega) (by omega)
                  refine lv_iinc (v := y_58) (lv' := [(5, .int y_58), (4, .int n26_10), (3, .int r_7), (2, .int y_6), (1, .int x1_3), (0, .ref mo)]) hx hb dB_3_2_47.2.2.2.1 hl (k := 0) rfl (by rw [ey_58]; rfl) (by decide) rfl (fun ls hl => ?_)
                  refine lv_goto (tgt := 79) hx hb dB_3_2_47.2.2.2.2 (by decide) ?_
                  exact ih_17 y_58 f_57 _ _ _ (by omega) (by first | with_reducible assumption | omega | assumption) (by first | with_reducible assumption | omega | assumption) (by first | with_reducible assumption | omega | assumption) (by first | exact hgE_0 (by omega) | exact hgE_eq v3_17 (by omega) (by omega) (by omega) (by omega) ef_57 (Or.inl ⟨b_tr hbw_ (by omega), by omega, rfl⟩) | exact hgE_eq v3_17 (by omega) (by omega) (by omega) (by omega) ef_57 (Or.inr ⟨Or.inl (bt_fl hbw_ (by omega)), ex1_3⟩) | exact hgE_eq v3_17 (by omega) (by omega) (by omega) (by omega) ef_57 (Or.inr ⟨Or.inr (by omega), ex1_3⟩)) (by first | with_reducible assumption | assumption | exact rng_zero (by omega) (by omega) | exact orng_zero) ⟨hP, hD⟩ hS (lv_sub hl [0, 1, 2, 3, 4, 5] rfl)
    · have t_2 : ¬ (12 : Int32).toInt ≤ x1_1.toInt := fun h => c_2 (Int32.le_iff_toInt_le.mpr h)
      refine lv_aload_n hx hb dB_3_2_43.1.2.1.2 rfl (lv_at hl 1 rfl) ?_
      refine va_get (ci := 12) (v := .ref g32) (C := RX12) (T := TX12) (N := 34) hx hb hts (fun _ h => List.mem_cons_of_mem _ (List.mem_append_right _ h)) hown hK.1 hP 0 rfl rfl 32 (by decide) (hts (.fieldLink RX12 79 "CutAtlasModel" "treeNext" "[I") (List.mem_of_getElem? (i := 1) rfl)) (fun _ h9 => h9) rfl dB_3_2_43.1.2.2.1 ?_
      refine lv_iload_n hx hb dB_3_2_43.1.2.2.2 rfl (lv_at hl 0 rfl) ?_
      refine lv_iconst (v := 0) hx hb dB_3_2_43.2.1.1.1 (by decide) ?_
      have h_59 : vp_in x1_1 12 := in_I (by first | with_reducible assumption | omega) (by omega)
      refine va_iast hx hb hK.1 hP hD hS 6 0 rfl rfl (i := x1_1) h_59 dB_3_2_43.2.1.1.2 (fun H locs hP hD hS => ?_)
      obtain ⟨f_60, ef_60⟩ : ∃ g : Nat → Int32, g = upd c_g32_1 x1_1.toNatClampNeg (0 : Int32) := ⟨_, rfl⟩
      refine pd_K (D := D) (cl := vwCl) (H := H) (A := A) [ob12_0_ mo s0 s1 t2 s3 s4 g5 g6 g7 g8 g9 g10 s11 g12 g13 g14 g15 g16 g17 g18 g19 g20 s21 g22 g23 g24 s25 s26 s27 s28 g29 g30 g31 g32 g33, ai_ cy g5 40 f5, ai_ cy g6 40 f6, ai_ cy g7 40 f7, ai_ cy g8 40 f8, az_ cy g10 40 f10, ai_ cy g32 12 f_60, ai_ cy g33 12 c_g33_1] (by rw [ef_60]; exact hP) (by rw [ef_60]; exact hD) (fun hP hD => ?_)
      have rf_60 : rng f_60 12 (0) (11) := by rw [ef_60]; exact rng_upd rc_g32_1 (by omega) (by omega)
      refine lv_aload_n hx hb dB_3_2_43.2.1.2.1 rfl (lv_at hl 1 rfl) ?_
      refine va_get (ci := 12) (v := .ref g33) (C := RX12) (T := TX12) (N := 34) hx hb hts (fun _ h => List.mem_cons_of_mem _ (List.mem_append_right _ h)) hown hK.1 hP 0 rfl rfl 33 (by decide) (hts (.fieldLink RX12 82 "CutAtlasModel" "treeNumber" "[I") (List.mem_of_getElem? (i := 2) rfl)) (fun _ h9 => h9) rfl dB_3_2_43.2.1.2.2 ?_
      refine lv_iload_n hx hb dB_3_2_43.2.2.1.1 rfl (lv_at hl 0 rfl) ?_
      refine lv_bipush (v := (-9)) hx hb dB_3_2_43.2.2.1.2 (by decide) ?_
      refine va_iast hx hb hK.1 hP hD hS 7 0 rfl rfl (i := x1_1) h_59 dB_3_2_43.2.2.2.1 (fun H locs hP hD hS => ?_)
      obtain ⟨f_62, ef_62⟩ : ∃ g : Nat → Int32, g = upd c_g33_1 x1_1.toNatClampNeg ((-9) : Int32) := ⟨_, rfl⟩
      refine pd_K (D := D) (cl := vwCl) (H := H) (A := A) [ob12_0_ mo s0 s1 t2 s3 s4 g5 g6 g7 g8 g9 g10 s11 g12 g13 g14 g15 g16 g17 g18 g19 g20 s21 g22 g23 g24 s25 s26 s27 s28 g29 g30 g31 g32 g33, ai_ cy g5 40 f5, ai_ cy g6 40 f6, ai_ cy g7 40 f7, ai_ cy g8 40 f8, az_ cy g10 40 f10, ai_ cy g32 12 f_60, ai_ cy g33 12 f_62] (by rw [ef_62]; exact hP) (by rw [ef_62]; exact hD) (fun hP hD => ?_)
      obtain ⟨y_63, ey_63⟩ : ∃ y : Int32, y = x1_1 + 1 := ⟨_, rfl⟩
      have ty_63 : y_63.toInt = x1_1.toInt + (1 : Int32).toInt := by rw [ey_63]; exact addI (by omega) (by omega)
      refine lv_iinc (v := y_63) (lv' := [(1, .int y_63), (0, .ref mo)]) hx hb dB_3_2_43.2.2.2.2 hl (k := 0) rfl (by rw [ey_63]; rfl) (by decide) rfl (fun ls hl => ?_)
      refine lv_goto (tgt := 2) hx hb dB_3_2_44.1.1.1.1 (by decide) ?_
      exact ih_1 y_63 f_60 f_62 _ _ _ (by omega) (by first | with_reducible assumption | omega | assumption) (by first | with_reducible assumption | omega | assumption) (by first | exact fill_st ef_60 v2_1 (by omega) (by omega) | (intro j hj; omega)) (by first | with_reducible assumption | assumption | exact rng_zero (by omega) (by omega) | exact orng_zero) ⟨hP, hD⟩ hS (lv_sub hl [0, 1] rfl)

set_option maxHeartbeats 4000000 in
set_option maxRecDepth 100000 in
theorem c_X12_tree2 (l : Launch) (D : va_G) (cy : Nat → ClassId) (sz : Nat) (mo : Nat) (g5 : Nat) (g6 : Nat) (g7 : Nat) (g8 : Nat) (g9 : Nat) (g10 : Nat) (g12 : Nat) (g13 : Nat) (g14 : Nat) (g15 : Nat) (g16 : Nat) (g17 : Nat) (g18 : Nat) (g19 : Nat) (g20 : Nat) (g22 : Nat) (g23 : Nat) (g24 : Nat) (g29 : Nat) (g30 : Nat) (g31 : Nat) (g32 : Nat) (g33 : Nat) (s0 : Int32) (s1 : Int32) (s3 : Int32) (s4 : Int32) (s11 : Int32) (s21 : Int32) (s25 : Int32) (s26 : Int32) (s27 : Int32) (s28 : Int32) (t2 : Int64) (f5 : Nat → Int32) (f6 : Nat → Int32) (f7 : Nat → Int32) (f8 : Nat → Int32) (f10 : Nat → Int32) (f32 : Nat → Int32) (f33 : Nat → Int32) (a1 : Int32) (a2 : Int32) (hN : 0 ≤ s4.toInt ∧ s4.toInt ≤ 40) (hPl : 0 ≤ s3.toInt ∧ s3.toInt ≤ 12) (h21 : s21 = (-9)) (hnet : netE s3.toInt s4.toInt f6 f7 f10) (r_f6 : rng f6 40 (0) (11)) (r_f7 : rng f7 40 (0) (11)) (r_f8 : rng f8 40 (0) (2000)) (r_f32 : rng f32 12 (0) (11)) : Met l yX12_tree wsX12_tree ({ frames := 5, cells := 0, slots := 0, locals := 121 }) (va_Pc [.ref mo, .int a1, .int a2] (fun U => U.heap.size = sz ∧ va_P D vwCl [ob12_0_ mo s0 s1 t2 s3 s4 g5 g6 g7 g8 g9 g10 s11 g12 g13 g14 g15 g16 g17 g18 g19 g20 s21 g22 g23 g24 s25 s26 s27 s28 g29 g30 g31 g32 g33, ai_ cy g5 40 f5, ai_ cy g6 40 f6, ai_ cy g7 40 f7, ai_ cy g8 40 f8, az_ cy g10 40 f10, ai_ cy g32 12 f32, ai_ cy g33 12 f33] U.heap ∧ kk_ D cy U ∧ va_D (fun _ => True) [ob12_0_ mo s0 s1 t2 s3 s4 g5 g6 g7 g8 g9 g10 s11 g12 g13 g14 g15 g16 g17 g18 g19 g20 s21 g22 g23 g24 s25 s26 s27 s28 g29 g30 g31 g32 g33, ai_ cy g5 40 f5, ai_ cy g6 40 f6, ai_ cy g7 40 f7, ai_ cy g8 40 f8, az_ cy g10 40 f10, ai_ cy g32 12 f32, ai_ cy g33 12 f33])) (va_Qi (fun (r : Int32) (_ : Unit) => ((trI a1.toInt a2.toInt s3.toInt (sumI (bkR f5 f10) s4.toNatClampNeg) = 0 → trA (cutR f5 f6 f7 f8 f10 (-9) s4.toNatClampNeg) s3.toNatClampNeg a1.toNatClampNeg a2.toInt r) ∧ (trI a1.toInt a2.toInt s3.toInt (sumI (bkR f5 f10) s4.toNatClampNeg) ≠ 0 → r.toInt = trI a1.toInt a2.toInt s3.toInt (sumI (bkR f5 f10) s4.toNatClampNeg)))) (fun (_ : Unit) (t : State) => ∃ (n25 : Int32), ∃ (n26 : Int32), ∃ (n27 : Int32), ∃ (n28 : Int32), ∃ (e32 : Nat → Int32), ∃ (e33 : Nat → Int32), (rng e32 12 (0) (11)) ∧ va_P D vwCl [ob12_0_ mo 0 s1 t2 s3 s4 g5 g6 g7 g8 g9 g10 s11 g12 g13 g14 g15 g16 g17 g18 g19 g20 s21 g22 g23 g24 n25 n26 n27 n28 g29 g30 g31 g32 g33, ai_ cy g5 40 f5, ai_ cy g6 40 f6, ai_ cy g7 40 f7, ai_ cy g8 40 f8, az_ cy g10 40 f10, ai_ cy g32 12 e32, ai_ cy g33 12 e33] t.heap ∧ va_D (va_A [ob12_0_ mo s0 s1 t2 s3 s4 g5 g6 g7 g8 g9 g10 s11 g12 g13 g14 g15 g16 g17 g18 g19 g20 s21 g22 g23 g24 s25 s26 s27 s28 g29 g30 g31 g32 g33, ai_ cy g5 40 f5, ai_ cy g6 40 f6, ai_ cy g7 40 f7, ai_ cy g8 40 f8, az_ cy g10 40 f10, ai_ cy g32 12 f32, ai_ cy g33 12 f33] sz) [ob12_0_ mo 0 s1 t2 s3 s4 g5 g6 g7 g8 g9 g10 s11 g12 g13 g14 g15 g16 g17 g18 g19 g20 s21 g22 g23 g24 n25 n26 n27 n28 g29 g30 g31 g32 g33, ai_ cy g5 40 f5, ai_ cy g6 40 f6, ai_ cy g7 40 f7, ai_ cy g8 40 f8, az_ cy g10 40 f10, ai_ cy g32 12 e32, ai_ cy g33 12 e33]) (va_A [ob12_0_ mo s0 s1 t2 s3 s4 g5 g6 g7 g8 g9 g10 s11 g12 g13 g14 g15 g16 g17 g18 g19 g20 s21 g22 g23 g24 s25 s26 s27 s28 g29 g30 g31 g32 g33, ai_ cy g5 40 f5, ai_ cy g6 40 f6, ai_ cy g7 40 f7, ai_ cy g8 40 f8, az_ cy g10 40 f10, ai_ cy g32 12 f32, ai_ cy g33 12 f33] sz)) 0 0 (va_A [ob12_0_ mo s0 s1 t2 s3 s4 g5 g6 g7 g8 g9 g10 s11 g12 g13 g14 g15 g16 g17 g18 g19 g20 s21 g22 g23 g24 s25 s26 s27 s28 g29 g30 g31 g32 g33, ai_ cy g5 40 f5, ai_ cy g6 40 f6, ai_ cy g7 40 f7, ai_ cy g8 40 f8, az_ cy g10 40 f10, ai_ cy g32 12 f32, ai_ cy g33 12 f33] sz) := by
  refine ofQ (cc := cX12_tree) (maxL := 3) (ret := (some .int)) (by decide) rfl ?_
  intro p e s m args below meth c s₁ Q hQ B hml hv
  obtain ⟨rfl, hsz, hP, hK, hD0⟩ := hv
  have hx := B.exec
  have hb := B.bytes
  have hr := B.returns
  have hts := atoms_spec (ws := wsX12_tree) B.pre
  have hown : s.vm.findClass RX12 = some m.cls := by have h_ := findClass_of_methodNamed B.named; exact h_
  have hlocks := B.notSynchronized
  subst hsz
  have hD := hD0.self (sz := s.heap.size)
  generalize hAe : va_A [ob12_0_ mo s0 s1 t2 s3 s4 g5 g6 g7 g8 g9 g10 s11 g12 g13 g14 g15 g16 g17 g18 g19 g20 s21 g22 g23 g24 s25 s26 s27 s28 g29 g30 g31 g32 g33, ai_ cy g5 40 f5, ai_ cy g6 40 f6, ai_ cy g7 40 f7, ai_ cy g8 40 f8, az_ cy g10 40 f10, ai_ cy g32 12 f32, ai_ cy g33 12 f33] s.heap.size = A at hD hQ
  have hA : ∀ q : Nat, s.heap.size ≤ q → A q := fun q h => by rw [← hAe]; exact Or.inr h
  have hS : va_S A s.heap s.heap [] := va_S.rf
  have hl := lv_entry ([.ref mo, .int a1, .int a2]) (n := 3) (Nat.le_of_ble_eq_true rfl)
  rw [lg_entry_eq]
  generalize (lg_sl ([.ref mo, .int a1, .int a2]) ++ List.replicate (3 - (lg_sl ([.ref mo, .int a1, .int a2])).length) Slot.unset).toArray = ls at hl ⊢
  have hl : lv_has ls 3 [(0, .ref mo), (1, .int a1), (2, .int a2)] := hl
  have zm9 : ((-9) : Int32).toInt = -9 := by decide
  have zm2 : ((-2) : Int32).toInt = -2 := by decide
  have zm1 : ((-1) : Int32).toInt = -1 := by decide
  have z0 : (0 : Int32).toInt = 0 := by decide
  have zl0 : (0 : Int64).toInt = 0 := by decide
  have zl1 : (1 : Int64).toInt = 1 := by decide
  have h21i_ : s21.toInt = -9 := by rw [h21]; decide
  have zq0 : (0 : Int32).toInt = 0 := by decide
  have zq1 : (1 : Int32).toInt = 1 := by decide
  have zq2 : (2 : Int32).toInt = 2 := by decide
  have zq3 : (3 : Int32).toInt = 3 := by decide
  have zq4 : (4 : Int32).toInt = 4 := by decide
  have zq5 : (5 : Int32).toInt = 5 := by decide
  have zqm9 : ((-9) : Int32).toInt = -9 := by decide
  have zqm1 : ((-1) : Int32).toInt = -1 := by decide
  have zqm2 : ((-2) : Int32).toInt = -2 := by decide
  refine lv_aload_n hx hb dB_3_2_53.1.1.1.1 rfl (lv_at hl 0 rfl) ?_
  refine lv_iconst (v := 0) hx hb dB_3_2_53.1.1.1.2 (by decide) ?_
  refine va_put (ci := 12) (v := .int 0) (ty := .int) (C := RX12) (T := TX12) (N := 34) hx hb hts (fun _ h => List.mem_cons_of_mem _ (List.mem_append_right _ h)) tyX12 tyX12_ok nmX12 hown hK.1 hP hD hS 0 rfl rfl 0 (by decide) (hts (.fieldLink RX12 85 "CutAtlasModel" "thrown" "I") (List.mem_of_getElem? (i := 1) rfl)) (fun _ h9 => h9) rfl (by decide +kernel) rfl rfl (Nat.le_of_ble_eq_true rfl) dB_3_2_53.1.1.2.1 (fun H locs hP hD hS => ?_)
  refine pd_K [ob12_0_ mo 0 s1 t2 s3 s4 g5 g6 g7 g8 g9 g10 s11 g12 g13 g14 g15 g16 g17 g18 g19 g20 s21 g22 g23 g24 s25 s26 s27 s28 g29 g30 g31 g32 g33, ai_ cy g5 40 f5, ai_ cy g6 40 f6, ai_ cy g7 40 f7, ai_ cy g8 40 f8, az_ cy g10 40 f10, ai_ cy g32 12 f32, ai_ cy g33 12 f33] hP hD (fun hP hD => ?_)
  refine lv_iload_n hx hb dB_3_2_53.1.1.2.2 rfl (lv_at hl 2 rfl) ?_
  refine lv_i2l (v := a2.toInt64) hx hb dB_3_2_53.1.2.1.1 rfl ?_
  have q_6 : (a2.toInt64).toInt = a2.toInt := Int32.toInt_toInt64 a2
  refine lv_lconst (v := 0) hx hb dB_3_2_53.1.2.1.2 (by decide) ?_
  refine lv_lconst (v := 1) hx hb dB_3_2_53.1.2.2.1 (by decide) ?_
  refine ct_R hP hD [] [] (by decide) rfl (fun hPc hDw => ?_)
  have hFc := va_free (wc := []) hD hS hA [] rfl
  refine va_calli (va_runS (As := [.long a2.toInt64, .long 0, .long 1]) (rest := []) ⟨hx, hb, hml, hown, hts⟩ (c_X12_in l D cy H.size a2.toInt64 (0 : Int64) (1 : Int64)) (va_cwS 3 hts gX12_tree_X12_in rfl rfl rfl hd_X12_in ⟨Nat.le_of_ble_eq_true rfl, Nat.le_of_ble_eq_true rfl⟩) ⟨bl_, fun U hU hW => ⟨rfl, by rw [hU], by rw [hU]; exact hPc, kk_mv hW hK, hDw⟩⟩ rfl rfl hl.1 rfl (lv_room (Nat.le_of_ble_eq_true rfl)) dB_3_2_53.1.2.2.2 ⟨Nat.le_of_ble_eq_true rfl, Nat.le_of_ble_eq_true rfl⟩) hS (fun q _ h => hFc q h) hFc (fun r_1 u t H locs ht hvm hw hB hz1 hk1 hS => ?_)
  have hP : va_P D vwCl _ H := ro_keep hP hk1
  rcases hw with ⟨w_2, e_⟩ | ⟨w_2, e_⟩
  · have e_ := e_.symm
    subst e_
    refine lv_if_ne (tgt := 17) hx hb dB_3_2_53.2.1.1.1 (by decide) (fun c_3 => ?_) (fun c_3 => ?_)
    · have _ := c_3
      refine lv_aload_n hx hb dB_3_2_53.2.1.2.2 rfl (lv_at hl 0 rfl) ?_
      refine ct_R hP hD [ob12_0_ mo 0 s1 t2 s3 s4 g5 g6 g7 g8 g9 g10 s11 g12 g13 g14 g15 g16 g17 g18 g19 g20 s21 g22 g23 g24 s25 s26 s27 s28 g29 g30 g31 g32 g33, ai_ cy g5 40 f5, az_ cy g10 40 f10] [0, 1, 5] (by decide) rfl (fun hPc hDw => ?_)
      have hFc := va_free (wc := []) hD hS hA [] rfl
      refine va_calli (va_runV (As := []) (rest := []) ⟨hx, hb, hml, hown, hts⟩ (c_X12_isWhole2 l D cy H.size mo g5 g6 g7 g8 g9 g10 g12 g13 g14 g15 g16 g17 g18 g19 g20 g22 g23 g24 g29 g30 g31 g32 g33 (0 : Int32) s1 s3 s4 s11 s21 s25 s26 s27 s28 t2 f5 f10 (by first | with_reducible assumption | omega | assumption)) (cwV 0 hts gX12_tree_X12_isWhole rfl rfl rfl ⟨rfl, hd_X12_isWhole⟩ ⟨Nat.le_of_ble_eq_true rfl, Nat.le_of_ble_eq_true rfl⟩) ⟨bl_, va_recvX hK.1 hP (ci := 12) (q0 := 0) rfl rfl, fun U hU hW => ⟨rfl, by rw [hU], by rw [hU]; exact hPc, kk_mv hW hK, hDw⟩⟩ rfl rfl hl.1 rfl (lv_room (Nat.le_of_ble_eq_true rfl)) dB_3_2_53.2.2.1.1 ⟨Nat.le_of_ble_eq_true rfl, Nat.le_of_ble_eq_true rfl⟩) hS (fun q _ h => hFc q h) hFc (fun r_4 u t H locs ht hvm hw hB hz1 hk1 hS => ?_)
      have hP : va_P D vwCl _ H := ro_keep hP hk1
      obtain ⟨f0_r_4, f1_r_4⟩ := hw
      have hw1_ := f1_r_4
      refine lv_if_ne (tgt := 27) hx hb dB_3_2_53.2.2.1.2 (by decide) (fun c_5 => ?_) (fun c_5 => ?_)
      · have t_5 : ¬ r_4.toInt = (0 : Int32).toInt := fun h => c_5 (Int32.toInt_inj.mp h)
        have hwi_ : sumI (bkR f5 f10) s4.toNatClampNeg = 0 := (whI_1 (P := s3.toInt) (by omega)).2
        have hwr_ : whC (cutR f5 f6 f7 f8 f10 s21.toInt s4.toNatClampNeg) s3.toNatClampNeg := whR hnet r_f6 r_f7 r_f8 hN.2 hwi_
        refine lv_aload_n hx hb dB_3_2_54.1.1.1.1 rfl (lv_at hl 0 rfl) ?_
        refine lv_iload_n hx hb dB_3_2_54.1.1.1.2 rfl (lv_at hl 1 rfl) ?_
        refine ct_R hP hD [ob12_0_ mo 0 s1 t2 s3 s4 g5 g6 g7 g8 g9 g10 s11 g12 g13 g14 g15 g16 g17 g18 g19 g20 s21 g22 g23 g24 s25 s26 s27 s28 g29 g30 g31 g32 g33] [0] (by decide) rfl (fun hPc hDw => ?_)
        have hFc := va_free (wc := []) hD hS hA [] rfl
        refine va_calli (va_runV (As := [.int a1]) (rest := []) ⟨hx, hb, hml, hown, hts⟩ (c_X12_isPlace l D cy H.size mo g5 g6 g7 g8 g9 g10 g12 g13 g14 g15 g16 g17 g18 g19 g20 g22 g23 g24 g29 g30 g31 g32 g33 (0 : Int32) s1 s3 s4 s11 s21 s25 s26 s27 s28 t2 a1 (by first | with_reducible assumption | omega | assumption)) (cwV 1 hts gX12_tree_X12_isPlace rfl rfl rfl ⟨rfl, hd_X12_isPlace⟩ ⟨Nat.le_of_ble_eq_true rfl, Nat.le_of_ble_eq_true rfl⟩) ⟨bl_, va_recvX hK.1 hP (ci := 12) (q0 := 0) rfl rfl, fun U hU hW => ⟨rfl, by rw [hU], by rw [hU]; exact hPc, kk_mv hW hK, hDw⟩⟩ rfl rfl hl.1 rfl (lv_room (Nat.le_of_ble_eq_true rfl)) dB_3_2_54.1.1.2.1 ⟨Nat.le_of_ble_eq_true rfl, Nat.le_of_ble_eq_true rfl⟩) hS (fun q _ h => hFc q h) hFc (fun r_6 u t H locs ht hvm hw hB hz1 hk1 hS => ?_)
        have hP : va_P D vwCl _ H := ro_keep hP hk1
        rcases hw with ⟨w_7, e_⟩ | ⟨w_7, e_⟩
        · have e_ := e_.symm
          subst e_
          refine lv_if_ne (tgt := 37) hx hb dB_3_2_54.1.1.2.2 (by decide) (fun c_8 => ?_) (fun c_8 => ?_)
          · have _ := c_8
            refine lv_aload_n hx hb dB_3_2_54.1.2.2.1 rfl (lv_at hl 0 rfl) ?_
            refine ct_S hP hD hS hA [ob12_0_ mo 0 s1 t2 s3 s4 g5 g6 g7 g8 g9 g10 s11 g12 g13 g14 g15 g16 g17 g18 g19 g20 s21 g22 g23 g24 s25 s26 s27 s28 g29 g30 g31 g32 g33, ai_ cy g5 40 f5, ai_ cy g6 40 f6, ai_ cy g7 40 f7, ai_ cy g8 40 f8, az_ cy g10 40 f10, ai_ cy g32 12 f32, ai_ cy g33 12 f33] [0, 1, 2, 3, 4, 5, 6, 7] (by decide) rfl (fun hPc hDw hFc hC_ => ?_)
            refine va_callv (va_runV (As := []) (rest := []) ⟨hx, hb, hml, hown, hts⟩ (c_X12_plants2 l D cy H.size mo g5 g6 g7 g8 g9 g10 g12 g13 g14 g15 g16 g17 g18 g19 g20 g22 g23 g24 g29 g30 g31 g32 g33 (0 : Int32) s1 s3 s4 s11 s21 s25 s26 s27 s28 t2 f5 f6 f7 f8 f10 f32 f33 (by first | with_reducible assumption | omega | assumption) (by first | with_reducible assumption | omega | assumption) (by first | with_reducible assumption | assumption | omega) (by first | with_reducible assumption | assumption | omega) (by first | with_reducible assumption | assumption | omega) (by first | with_reducible assumption | assumption | omega) (by first | with_reducible assumption | assumption | omega) (by first | with_reducible assumption | assumption | omega)) (cwV 0 hts gX12_tree_X12_plants rfl rfl rfl ⟨rfl, hd_X12_plants⟩ ⟨Nat.le_of_ble_eq_true rfl, Nat.le_of_ble_eq_true rfl⟩) ⟨bl_, va_recvX hK.1 hP (ci := 12) (q0 := 0) rfl rfl, fun U hU hW => ⟨rfl, by rw [hU], by rw [hU]; exact hPc, kk_mv hW hK, hDw⟩⟩ rfl rfl hl.1 rfl (lv_room (Nat.le_of_ble_eq_true rfl)) dB_3_2_54.1.2.2.2 ⟨Nat.le_of_ble_eq_true rfl, Nat.le_of_ble_eq_true rfl⟩) hS (fun q _ h => hFc q h) hFc (fun u t H locs ht hvm hw hB hz1 hk1 hS => ?_)
            obtain ⟨n25_10, n26_11, n27_12, n28_13, e32_14, e33_15, g_16, g_17, hP1, hD1⟩ := hB
            rw [ht] at hP1
            obtain ⟨hP, hD⟩ := va_join (wr := []) (w1 := [ob12_0_ mo 0 s1 t2 s3 s4 g5 g6 g7 g8 g9 g10 s11 g12 g13 g14 g15 g16 g17 g18 g19 g20 s21 g22 g23 g24 n25_10 n26_11 n27_12 n28_13 g29 g30 g31 g32 g33, ai_ cy g5 40 f5, ai_ cy g6 40 f6, ai_ cy g7 40 f7, ai_ cy g8 40 f8, az_ cy g10 40 f10, ai_ cy g32 12 e32_14, ai_ cy g33 12 e33_15]) hP hD [0, 1, 2, 3, 4, 5, 6, 7] [] hC_ rfl (by decide) (by decide) hk1 hFc hP1 hD1
            refine pd_K [ob12_0_ mo 0 s1 t2 s3 s4 g5 g6 g7 g8 g9 g10 s11 g12 g13 g14 g15 g16 g17 g18 g19 g20 s21 g22 g23 g24 n25_10 n26_11 n27_12 n28_13 g29 g30 g31 g32 g33, ai_ cy g5 40 f5, ai_ cy g6 40 f6, ai_ cy g7 40 f7, ai_ cy g8 40 f8, az_ cy g10 40 f10, ai_ cy g32 12 e32_14, ai_ cy g33 12 e33_15] hP hD (fun hP hD => ?_)
            have hgt_ := g_16
            rw [h21i_] at hgt_
            refine lv_iload_n hx hb dB_3_2_54.2.1.1.1 rfl (lv_at hl 1 rfl) ?_
            refine lv_if_ne (tgt := 50) hx hb dB_3_2_54.2.1.1.2 (by decide) (fun c_18 => ?_) (fun c_18 => ?_)
            · have t_18 : ¬ a1.toInt = (0 : Int32).toInt := fun h => c_18 (Int32.toInt_inj.mp h)
              refine lv_iload_n hx hb dB_3_2_54.2.2.1.1 rfl (lv_at hl 2 rfl) ?_
              refine lv_if_ne (tgt := 63) hx hb dB_3_2_54.2.2.1.2 (by decide) (fun c_19 => ?_) (fun c_19 => ?_)
              · have t_19 : ¬ a2.toInt = (0 : Int32).toInt := fun h => c_19 (Int32.toInt_inj.mp h)
                refine lv_aload_n hx hb dB_3_2_55.1.2.2 rfl (lv_at hl 0 rfl) ?_
                refine va_get (ci := 12) (v := .ref g33) (C := RX12) (T := TX12) (N := 34) hx hb hts (fun _ h => List.mem_cons_of_mem _ (List.mem_append_right _ h)) hown hK.1 hP 0 rfl rfl 33 (by decide) (hts (.fieldLink RX12 82 "CutAtlasModel" "treeNumber" "[I") (List.mem_of_getElem? (i := 3) rfl)) (fun _ h9 => h9) rfl dB_3_2_55.2.1.1 ?_
                refine lv_iload_n hx hb dB_3_2_55.2.1.2 rfl (lv_at hl 1 rfl) ?_
                have h_20 : vp_in a1 12 := in_I (by first | with_reducible assumption | omega) (by omega)
                refine va_iald hx hb hK.1 hP 7 0 rfl rfl (i := a1) h_20 dB_3_2_55.2.2.1 ?_
                refine lv_topi (fun y_21 ey_21 => ?_)
                rw [hQ]
                exact W.iret (v := y_21) hx hb hr (fun t ht hW => ⟨⟨y_21, (), rfl, (by first | exact ⟨fun _ => ⟨e32_14, e33_15, hgt_, fun _ => by decide, fun h => absurd (by rw [show a1 = 0 from Int32.toInt_inj.mp (by omega)]; exact cl_0) h⟩, fun h => absurd (by unfold trI; (repeat' (first | with_reducible refine if_n (by omega) ?_ | with_reducible refine if_ns (by omega) ?_ | with_reducible refine if_nz (by omega) ?_ | with_reducible exact if_p (by omega) (by omega) | with_reducible exact if_ps (by omega) (by omega) | with_reducible exact if_pz (by omega) (by omega))) <;> omega) h⟩ | exact ⟨fun _ => ⟨e32_14, e33_15, hgt_, fun h => absurd h (nc_ne (y := 0) (by omega) (by decide) (by omega)), fun _ => ⟨fun _ => by rw [ey_21], fun h => absurd (by omega) h⟩⟩, fun h => absurd (by unfold trI; (repeat' (first | with_reducible refine if_n (by omega) ?_ | with_reducible refine if_ns (by omega) ?_ | with_reducible refine if_nz (by omega) ?_ | with_reducible exact if_p (by omega) (by omega) | with_reducible exact if_ps (by omega) (by omega) | with_reducible exact if_pz (by omega) (by omega))) <;> omega) h⟩ | exact ⟨fun _ => ⟨e32_14, e33_15, hgt_, fun h => absurd h (nc_ne (y := 0) (by omega) (by decide) (by omega)), fun _ => ⟨fun h => absurd h (by omega), fun _ => by rw [ey_21]⟩⟩, fun h => absurd (by unfold trI; (repeat' (first | with_reducible refine if_n (by omega) ?_ | with_reducible refine if_ns (by omega) ?_ | with_reducible refine if_nz (by omega) ?_ | with_reducible exact if_p (by omega) (by omega) | with_reducible exact if_ps (by omega) (by omega) | with_reducible exact if_pz (by omega) (by omega))) <;> omega) h⟩), n25_10, n26_11, n27_12, n28_13, e32_14, e33_15, (by first | with_reducible assumption | assumption | exact rng_zero (by omega) (by omega) | omega), by rw [ht]; exact hP, hD⟩, hS.F ht⟩) hS.2.2 dB_3_2_55.2.2.2
              · have t_19 : a2.toInt = (0 : Int32).toInt := congrArg Int32.toInt c_19
                refine lv_aload_n hx hb dB_3_2_54.2.2.2.1 rfl (lv_at hl 0 rfl) ?_
                refine va_get (ci := 12) (v := .ref g32) (C := RX12) (T := TX12) (N := 34) hx hb hts (fun _ h => List.mem_cons_of_mem _ (List.mem_append_right _ h)) hown hK.1 hP 0 rfl rfl 32 (by decide) (hts (.fieldLink RX12 79 "CutAtlasModel" "treeNext" "[I") (List.mem_of_getElem? (i := 2) rfl)) (fun _ h9 => h9) rfl dB_3_2_54.2.2.2.2 ?_
                refine lv_iload_n hx hb dB_3_2_55.1.1.1 rfl (lv_at hl 1 rfl) ?_
                have h_22 : vp_in a1 12 := in_I (by first | with_reducible assumption | omega) (by omega)
                refine va_iald hx hb hK.1 hP 6 0 rfl rfl (i := a1) h_22 dB_3_2_55.1.1.2 ?_
                refine lv_topi (fun y_23 ey_23 => ?_)
                have ry_23 : 0 ≤ y_23.toInt ∧ y_23.toInt ≤ 11 := by rw [ey_23]; exact g_17 _ (in_lt h_22)
                refine lv_goto (tgt := 69) hx hb dB_3_2_55.1.2.1 (by decide) ?_
                rw [hQ]
                exact W.iret (v := y_23) hx hb hr (fun t ht hW => ⟨⟨y_23, (), rfl, (by first | exact ⟨fun _ => ⟨e32_14, e33_15, hgt_, fun _ => by decide, fun h => absurd (by rw [show a1 = 0 from Int32.toInt_inj.mp (by omega)]; exact cl_0) h⟩, fun h => absurd (by unfold trI; (repeat' (first | with_reducible refine if_n (by omega) ?_ | with_reducible refine if_ns (by omega) ?_ | with_reducible refine if_nz (by omega) ?_ | with_reducible exact if_p (by omega) (by omega) | with_reducible exact if_ps (by omega) (by omega) | with_reducible exact if_pz (by omega) (by omega))) <;> omega) h⟩ | exact ⟨fun _ => ⟨e32_14, e33_15, hgt_, fun h => absurd h (nc_ne (y := 0) (by omega) (by decide) (by omega)), fun _ => ⟨fun _ => by rw [ey_23], fun h => absurd (by omega) h⟩⟩, fun h => absurd (by unfold trI; (repeat' (first | with_reducible refine if_n (by omega) ?_ | with_reducible refine if_ns (by omega) ?_ | with_reducible refine if_nz (by omega) ?_ | with_reducible exact if_p (by omega) (by omega) | with_reducible exact if_ps (by omega) (by omega) | with_reducible exact if_pz (by omega) (by omega))) <;> omega) h⟩ | exact ⟨fun _ => ⟨e32_14, e33_15, hgt_, fun h => absurd h (nc_ne (y := 0) (by omega) (by decide) (by omega)), fun _ => ⟨fun h => absurd h (by omega), fun _ => by rw [ey_23]⟩⟩, fun h => absurd (by unfold trI; (repeat' (first | with_reducible refine if_n (by omega) ?_ | with_reducible refine if_ns (by omega) ?_ | with_reducible refine if_nz (by omega) ?_ | with_reducible exact if_p (by omega) (by omega) | with_reducible exact if_ps (by omega) (by omega) | with_reducible exact if_pz (by omega) (by omega))) <;> omega) h⟩), n25_10, n26_11, n27_12, n28_13, e32_14, e33_15, (by first | with_reducible assumption | assumption | exact rng_zero (by omega) (by omega) | omega), by rw [ht]; exact hP, hD⟩, hS.F ht⟩) hS.2.2 dB_3_2_55.2.2.2
            · have t_18 : a1.toInt = (0 : Int32).toInt := congrArg Int32.toInt c_18
              refine lv_bipush (v := (-9)) hx hb dB_3_2_54.2.1.2.1 (by decide) ?_
              refine lv_goto (tgt := 69) hx hb dB_3_2_54.2.1.2.2 (by decide) ?_
              rw [hQ]
              exact W.iret (v := (-9)) hx hb hr (fun t ht hW => ⟨⟨(-9), (), rfl, (by first | exact ⟨fun _ => ⟨e32_14, e33_15, hgt_, fun _ => by decide, fun h => absurd (by rw [show a1 = 0 from Int32.toInt_inj.mp (by omega)]; exact cl_0) h⟩, fun h => absurd (by unfold trI; (repeat' (first | with_reducible refine if_n (by omega) ?_ | with_reducible refine if_ns (by omega) ?_ | with_reducible refine if_nz (by omega) ?_ | with_reducible exact if_p (by omega) (by omega) | with_reducible exact if_ps (by omega) (by omega) | with_reducible exact if_pz (by omega) (by omega))) <;> omega) h⟩ | exact ⟨fun _ => ⟨e32_14, e33_15, hgt_, fun h => absurd h (nc_ne (y := 0) (by omega) (by decide) (by omega)), fun _ => ⟨fun _ => by rw [e_lit], fun h => absurd (by omega) h⟩⟩, fun h => absurd (by unfold trI; (repeat' (first | with_reducible refine if_n (by omega) ?_ | with_reducible refine if_ns (by omega) ?_ | with_reducible refine if_nz (by omega) ?_ | with_reducible exact if_p (by omega) (by omega) | with_reducible exact if_ps (by omega) (by omega) | with_reducible exact if_pz (by omega) (by omega))) <;> omega) h⟩ | exact ⟨fun _ => ⟨e32_14, e33_15, hgt_, fun h => absurd h (nc_ne (y := 0) (by omega) (by decide) (by omega)), fun _ => ⟨fun h => absurd h (by omega), fun _ => by rw [e_lit]⟩⟩, fun h => absurd (by unfold trI; (repeat' (first | with_reducible refine if_n (by omega) ?_ | with_reducible refine if_ns (by omega) ?_ | with_reducible refine if_nz (by omega) ?_ | with_reducible exact if_p (by omega) (by omega) | with_reducible exact if_ps (by omega) (by omega) | with_reducible exact if_pz (by omega) (by omega))) <;> omega) h⟩), n25_10, n26_11, n27_12, n28_13, e32_14, e33_15, (by first | with_reducible assumption | assumption | exact rng_zero (by omega) (by omega) | omega), by rw [ht]; exact hP, hD⟩, hS.F ht⟩) hS.2.2 dB_3_2_55.2.2.2
          · exact absurd c_8 (by decide)
        · have e_ := e_.symm
          subst e_
          refine lv_if_ne (tgt := 37) hx hb dB_3_2_54.1.1.2.2 (by decide) (fun c_24 => ?_) (fun c_24 => ?_)
          · exact absurd c_24 (by decide)
          · have _ := c_24
            refine lv_iconst (v := (-1)) hx hb dB_3_2_54.1.2.1.1 (by decide) ?_
            rw [hQ]
            exact W.iret (v := (-1)) hx hb hr (fun t ht hW => ⟨⟨(-1), (), rfl, (⟨fun h => absurd h (by unfold trI; (repeat' (first | with_reducible refine if_n (by omega) ?_ | with_reducible refine if_ns (by omega) ?_ | with_reducible refine if_nz (by omega) ?_ | with_reducible exact if_p (by omega) (by omega) | with_reducible exact if_ps (by omega) (by omega) | with_reducible exact if_pz (by omega) (by omega))) <;> omega), fun _ => (by unfold trI; (repeat' (first | with_reducible refine if_n (by omega) ?_ | with_reducible refine if_ns (by omega) ?_ | with_reducible refine if_nz (by omega) ?_ | with_reducible exact if_p (by omega) (by omega) | with_reducible exact if_ps (by omega) (by omega) | with_reducible exact if_pz (by omega) (by omega))) <;> omega)⟩), s25, s26, s27, s28, f32, f33, (by first | with_reducible assumption | assumption | exact rng_zero (by omega) (by omega) | omega), by rw [ht]; exact hP, hD⟩, hS.F ht⟩) hS.2.2 dB_3_2_54.1.2.1.2
      · have t_5 : r_4.toInt = (0 : Int32).toInt := congrArg Int32.toInt c_5
        refine lv_bipush (v := (-2)) hx hb dB_3_2_53.2.2.2.1 (by decide) ?_
        rw [hQ]
        exact W.iret (v := (-2)) hx hb hr (fun t ht hW => ⟨⟨(-2), (), rfl, (⟨fun h => absurd h (by unfold trI; (repeat' (first | with_reducible refine if_n (by omega) ?_ | with_reducible refine if_ns (by omega) ?_ | with_reducible refine if_nz (by omega) ?_ | with_reducible exact if_p (by omega) (by omega) | with_reducible exact if_ps (by omega) (by omega) | with_reducible exact if_pz (by omega) (by omega))) <;> omega), fun _ => (by unfold trI; (repeat' (first | with_reducible refine if_n (by omega) ?_ | with_reducible refine if_ns (by omega) ?_ | with_reducible refine if_nz (by omega) ?_ | with_reducible exact if_p (by omega) (by omega) | with_reducible exact if_ps (by omega) (by omega) | with_reducible exact if_pz (by omega) (by omega))) <;> omega)⟩), s25, s26, s27, s28, f32, f33, (by first | with_reducible assumption | assumption | exact rng_zero (by omega) (by omega) | omega), by rw [ht]; exact hP, hD⟩, hS.F ht⟩) hS.2.2 dB_3_2_53.2.2.2.2
    · exact absurd c_3 (by decide)
  · have e_ := e_.symm
    subst e_
    refine lv_if_ne (tgt := 17) hx hb dB_3_2_53.2.1.1.1 (by decide) (fun c_25 => ?_) (fun c_25 => ?_)
    · exact absurd c_25 (by decide)
    · have _ := c_25
      refine lv_iconst (v := (-1)) hx hb dB_3_2_53.2.1.1.2 (by decide) ?_
      rw [hQ]
      exact W.iret (v := (-1)) hx hb hr (fun t ht hW => ⟨⟨(-1), (), rfl, (⟨fun h => absurd h (by unfold trI; (repeat' (first | with_reducible refine if_n (by omega) ?_ | with_reducible refine if_ns (by omega) ?_ | with_reducible refine if_nz (by omega) ?_ | with_reducible exact if_p (by omega) (by omega) | with_reducible exact if_ps (by omega) (by omega) | with_reducible exact if_pz (by omega) (by omega))) <;> omega), fun _ => (by unfold trI; (repeat' (first | with_reducible refine if_n (by omega) ?_ | with_reducible refine if_ns (by omega) ?_ | with_reducible refine if_nz (by omega) ?_ | with_reducible exact if_p (by omega) (by omega) | with_reducible exact if_ps (by omega) (by omega) | with_reducible exact if_pz (by omega) (by omega))) <;> omega)⟩), s25, s26, s27, s28, f32, f33, (by first | with_reducible assumption | assumption | exact rng_zero (by omega) (by omega) | omega), by rw [ht]; exact hP, hD⟩, hS.F ht⟩) hS.2.2 dB_3_2_53.2.1.2.1
end

section
theorem wdB_law_0 : dk_bw (cL_law.data.toList.drop 0) [187, 0, 7, 89, 183, 0, 9, 76, 187, 0, 10, 89, 183, 0, 12, 77, 3, 62, 29, 42, 190, 16, 7, 100, 163, 5, 35] = true := by decide +kernel
theorem dB_law_0 : ((((decode cL_law 0 = .ok (.new 7, 3)) ∧ (decode cL_law 3 = .ok (.dup, 1))) ∧ ((decode cL_law 4 = .ok (.invokespecial 9, 3)) ∧ (decode cL_law 7 = .ok (.astore_n 1, 1)))) ∧ (((decode cL_law 8 = .ok (.new 10, 3)) ∧ (decode cL_law 11 = .ok (.dup, 1))) ∧ ((decode cL_law 12 = .ok (.invokespecial 12, 3)) ∧ (decode cL_law 15 = .ok (.astore_n 2, 1))))) ∧ ((((decode cL_law 16 = .ok (.iconst 0, 1)) ∧ (decode cL_law 17 = .ok (.istore_n 3, 1))) ∧ ((decode cL_law 18 = .ok (.iload_n 3, 1)) ∧ (decode cL_law 19 = .ok (.aload_n 0, 1)))) ∧ (((decode cL_law 20 = .ok (.arraylength, 1)) ∧ (decode cL_law 21 = .ok (.bipush 7, 2))) ∧ ((decode cL_law 23 = .ok (.isub, 1)) ∧ (decode cL_law 24 = .ok (.if_icmp .gt 1315, 3))))) := ⟨⟨⟨⟨dk_187 (dk_at wdB_law_0 0 _ rfl) (dk_at wdB_law_0 1 _ rfl) (dk_at wdB_law_0 2 _ rfl) rfl, dk_89 (dk_at wdB_law_0 3 _ rfl)⟩, ⟨dk_183 (dk_at wdB_law_0 4 _ rfl) (dk_at wdB_law_0 5 _ rfl) (dk_at wdB_law_0 6 _ rfl) rfl, dk_76 (dk_at wdB_law_0 7 _ rfl)⟩⟩, ⟨⟨dk_187 (dk_at wdB_law_0 8 _ rfl) (dk_at wdB_law_0 9 _ rfl) (dk_at wdB_law_0 10 _ rfl) rfl, dk_89 (dk_at wdB_law_0 11 _ rfl)⟩, ⟨dk_183 (dk_at wdB_law_0 12 _ rfl) (dk_at wdB_law_0 13 _ rfl) (dk_at wdB_law_0 14 _ rfl) rfl, dk_77 (dk_at wdB_law_0 15 _ rfl)⟩⟩⟩, ⟨⟨⟨dk_3 (dk_at wdB_law_0 16 _ rfl), dk_62 (dk_at wdB_law_0 17 _ rfl)⟩, ⟨dk_29 (dk_at wdB_law_0 18 _ rfl), dk_42 (dk_at wdB_law_0 19 _ rfl)⟩⟩, ⟨⟨dk_190 (dk_at wdB_law_0 20 _ rfl), dk_16 (dk_at wdB_law_0 21 _ rfl) (dk_at wdB_law_0 22 _ rfl) (by decide)⟩, ⟨dk_100 (dk_at wdB_law_0 23 _ rfl), dk_163 (dk_at wdB_law_0 24 _ rfl) (dk_at wdB_law_0 25 _ rfl) (dk_at wdB_law_0 26 _ rfl) (by decide)⟩⟩⟩⟩
theorem wdB_law_1 : dk_bw (cL_law.data.toList.drop 27) [42, 29, 46, 16, 63, 126] = true := by decide +kernel
theorem dB_law_1 : ((decode cL_law 27 = .ok (.aload_n 0, 1)) ∧ (decode cL_law 28 = .ok (.iload_n 3, 1))) ∧ ((decode cL_law 29 = .ok (.iaload, 1)) ∧ ((decode cL_law 30 = .ok (.bipush 63, 2)) ∧ (decode cL_law 32 = .ok (.iand, 1)))) := ⟨⟨dk_42 (dk_at wdB_law_1 0 _ rfl), dk_29 (dk_at wdB_law_1 1 _ rfl)⟩, ⟨dk_46 (dk_at wdB_law_1 2 _ rfl), ⟨dk_16 (dk_at wdB_law_1 3 _ rfl) (dk_at wdB_law_1 4 _ rfl) (by decide), dk_126 (dk_at wdB_law_1 5 _ rfl)⟩⟩⟩
theorem dB_law_2 : decode cL_law 33 = .ok (.tableswitch 1300 0 32 #[147, 160, 223, 256, 289, 322, 335, 368, 401, 434, 477, 520, 553, 596, 639, 682, 725, 758, 791, 804, 817, 840, 863, 896, 919, 962, 1005, 1100, 1175, 1228, 1251, 1274, 1287], 147) := (by decide +kernel)
theorem wdB_law_3 : dk_bw (cL_law.data.toList.drop 180) [43, 182, 0, 13, 87, 44, 182, 0, 17, 87, 167, 4, 119, 43, 42, 29, 4, 96, 46, 42, 29, 5] = true := by decide +kernel
theorem dB_law_3 : ((((decode cL_law 180 = .ok (.aload_n 1, 1)) ∧ (decode cL_law 181 = .ok (.invokevirtual 13, 3))) ∧ ((decode cL_law 184 = .ok (.pop, 1)) ∧ (decode cL_law 185 = .ok (.aload_n 2, 1)))) ∧ (((decode cL_law 186 = .ok (.invokevirtual 17, 3)) ∧ (decode cL_law 189 = .ok (.pop, 1))) ∧ ((decode cL_law 190 = .ok (.goto 1143, 3)) ∧ (decode cL_law 193 = .ok (.aload_n 1, 1))))) ∧ ((((decode cL_law 194 = .ok (.aload_n 0, 1)) ∧ (decode cL_law 195 = .ok (.iload_n 3, 1))) ∧ ((decode cL_law 196 = .ok (.iconst 1, 1)) ∧ (decode cL_law 197 = .ok (.iadd, 1)))) ∧ (((decode cL_law 198 = .ok (.iaload, 1)) ∧ (decode cL_law 199 = .ok (.aload_n 0, 1))) ∧ ((decode cL_law 200 = .ok (.iload_n 3, 1)) ∧ (decode cL_law 201 = .ok (.iconst 2, 1))))) := ⟨⟨⟨⟨dk_43 (dk_at wdB_law_3 0 _ rfl), dk_182 (dk_at wdB_law_3 1 _ rfl) (dk_at wdB_law_3 2 _ rfl) (dk_at wdB_law_3 3 _ rfl) rfl⟩, ⟨dk_87 (dk_at wdB_law_3 4 _ rfl), dk_44 (dk_at wdB_law_3 5 _ rfl)⟩⟩, ⟨⟨dk_182 (dk_at wdB_law_3 6 _ rfl) (dk_at wdB_law_3 7 _ rfl) (dk_at wdB_law_3 8 _ rfl) rfl, dk_87 (dk_at wdB_law_3 9 _ rfl)⟩, ⟨dk_167 (dk_at wdB_law_3 10 _ rfl) (dk_at wdB_law_3 11 _ rfl) (dk_at wdB_law_3 12 _ rfl) (by decide), dk_43 (dk_at wdB_law_3 13 _ rfl)⟩⟩⟩, ⟨⟨⟨dk_42 (dk_at wdB_law_3 14 _ rfl), dk_29 (dk_at wdB_law_3 15 _ rfl)⟩, ⟨dk_4 (dk_at wdB_law_3 16 _ rfl), dk_96 (dk_at wdB_law_3 17 _ rfl)⟩⟩, ⟨⟨dk_46 (dk_at wdB_law_3 18 _ rfl), dk_42 (dk_at wdB_law_3 19 _ rfl)⟩, ⟨dk_29 (dk_at wdB_law_3 20 _ rfl), dk_5 (dk_at wdB_law_3 21 _ rfl)⟩⟩⟩⟩
theorem wdB_law_4 : dk_bw (cL_law.data.toList.drop 202) [96, 46, 42, 29, 6, 96, 46, 42, 29, 7, 96, 46, 42, 29, 8, 96] = true := by decide +kernel
theorem dB_law_4 : ((((decode cL_law 202 = .ok (.iadd, 1)) ∧ (decode cL_law 203 = .ok (.iaload, 1))) ∧ ((decode cL_law 204 = .ok (.aload_n 0, 1)) ∧ (decode cL_law 205 = .ok (.iload_n 3, 1)))) ∧ (((decode cL_law 206 = .ok (.iconst 3, 1)) ∧ (decode cL_law 207 = .ok (.iadd, 1))) ∧ ((decode cL_law 208 = .ok (.iaload, 1)) ∧ (decode cL_law 209 = .ok (.aload_n 0, 1))))) ∧ ((((decode cL_law 210 = .ok (.iload_n 3, 1)) ∧ (decode cL_law 211 = .ok (.iconst 4, 1))) ∧ ((decode cL_law 212 = .ok (.iadd, 1)) ∧ (decode cL_law 213 = .ok (.iaload, 1)))) ∧ (((decode cL_law 214 = .ok (.aload_n 0, 1)) ∧ (decode cL_law 215 = .ok (.iload_n 3, 1))) ∧ ((decode cL_law 216 = .ok (.iconst 5, 1)) ∧ (decode cL_law 217 = .ok (.iadd, 1))))) := ⟨⟨⟨⟨dk_96 (dk_at wdB_law_4 0 _ rfl), dk_46 (dk_at wdB_law_4 1 _ rfl)⟩, ⟨dk_42 (dk_at wdB_law_4 2 _ rfl), dk_29 (dk_at wdB_law_4 3 _ rfl)⟩⟩, ⟨⟨dk_6 (dk_at wdB_law_4 4 _ rfl), dk_96 (dk_at wdB_law_4 5 _ rfl)⟩, ⟨dk_46 (dk_at wdB_law_4 6 _ rfl), dk_42 (dk_at wdB_law_4 7 _ rfl)⟩⟩⟩, ⟨⟨⟨dk_29 (dk_at wdB_law_4 8 _ rfl), dk_7 (dk_at wdB_law_4 9 _ rfl)⟩, ⟨dk_96 (dk_at wdB_law_4 10 _ rfl), dk_46 (dk_at wdB_law_4 11 _ rfl)⟩⟩, ⟨⟨dk_42 (dk_at wdB_law_4 12 _ rfl), dk_29 (dk_at wdB_law_4 13 _ rfl)⟩, ⟨dk_8 (dk_at wdB_law_4 14 _ rfl), dk_96 (dk_at wdB_law_4 15 _ rfl)⟩⟩⟩⟩
theorem wdB_law_5 : dk_bw (cL_law.data.toList.drop 218) [46, 182, 0, 18, 87, 44, 42, 29, 4, 96, 46, 42, 29, 5, 96, 46, 42, 29] = true := by decide +kernel
theorem dB_law_5 : ((((decode cL_law 218 = .ok (.iaload, 1)) ∧ (decode cL_law 219 = .ok (.invokevirtual 18, 3))) ∧ ((decode cL_law 222 = .ok (.pop, 1)) ∧ (decode cL_law 223 = .ok (.aload_n 2, 1)))) ∧ (((decode cL_law 224 = .ok (.aload_n 0, 1)) ∧ (decode cL_law 225 = .ok (.iload_n 3, 1))) ∧ ((decode cL_law 226 = .ok (.iconst 1, 1)) ∧ (decode cL_law 227 = .ok (.iadd, 1))))) ∧ ((((decode cL_law 228 = .ok (.iaload, 1)) ∧ (decode cL_law 229 = .ok (.aload_n 0, 1))) ∧ ((decode cL_law 230 = .ok (.iload_n 3, 1)) ∧ (decode cL_law 231 = .ok (.iconst 2, 1)))) ∧ (((decode cL_law 232 = .ok (.iadd, 1)) ∧ (decode cL_law 233 = .ok (.iaload, 1))) ∧ ((decode cL_law 234 = .ok (.aload_n 0, 1)) ∧ (decode cL_law 235 = .ok (.iload_n 3, 1))))) := ⟨⟨⟨⟨dk_46 (dk_at wdB_law_5 0 _ rfl), dk_182 (dk_at wdB_law_5 1 _ rfl) (dk_at wdB_law_5 2 _ rfl) (dk_at wdB_law_5 3 _ rfl) rfl⟩, ⟨dk_87 (dk_at wdB_law_5 4 _ rfl), dk_44 (dk_at wdB_law_5 5 _ rfl)⟩⟩, ⟨⟨dk_42 (dk_at wdB_law_5 6 _ rfl), dk_29 (dk_at wdB_law_5 7 _ rfl)⟩, ⟨dk_4 (dk_at wdB_law_5 8 _ rfl), dk_96 (dk_at wdB_law_5 9 _ rfl)⟩⟩⟩, ⟨⟨⟨dk_46 (dk_at wdB_law_5 10 _ rfl), dk_42 (dk_at wdB_law_5 11 _ rfl)⟩, ⟨dk_29 (dk_at wdB_law_5 12 _ rfl), dk_5 (dk_at wdB_law_5 13 _ rfl)⟩⟩, ⟨⟨dk_96 (dk_at wdB_law_5 14 _ rfl), dk_46 (dk_at wdB_law_5 15 _ rfl)⟩, ⟨dk_42 (dk_at wdB_law_5 16 _ rfl), dk_29 (dk_at wdB_law_5 17 _ rfl)⟩⟩⟩⟩
theorem wdB_law_6 : dk_bw (cL_law.data.toList.drop 236) [6, 96, 46, 42, 29, 7, 96, 46, 42, 29, 8, 96, 46, 182, 0, 22, 87, 167, 4, 56] = true := by decide +kernel
theorem dB_law_6 : ((((decode cL_law 236 = .ok (.iconst 3, 1)) ∧ (decode cL_law 237 = .ok (.iadd, 1))) ∧ ((decode cL_law 238 = .ok (.iaload, 1)) ∧ (decode cL_law 239 = .ok (.aload_n 0, 1)))) ∧ (((decode cL_law 240 = .ok (.iload_n 3, 1)) ∧ (decode cL_law 241 = .ok (.iconst 4, 1))) ∧ ((decode cL_law 242 = .ok (.iadd, 1)) ∧ (decode cL_law 243 = .ok (.iaload, 1))))) ∧ ((((decode cL_law 244 = .ok (.aload_n 0, 1)) ∧ (decode cL_law 245 = .ok (.iload_n 3, 1))) ∧ ((decode cL_law 246 = .ok (.iconst 5, 1)) ∧ (decode cL_law 247 = .ok (.iadd, 1)))) ∧ (((decode cL_law 248 = .ok (.iaload, 1)) ∧ (decode cL_law 249 = .ok (.invokevirtual 22, 3))) ∧ ((decode cL_law 252 = .ok (.pop, 1)) ∧ (decode cL_law 253 = .ok (.goto 1080, 3))))) := ⟨⟨⟨⟨dk_6 (dk_at wdB_law_6 0 _ rfl), dk_96 (dk_at wdB_law_6 1 _ rfl)⟩, ⟨dk_46 (dk_at wdB_law_6 2 _ rfl), dk_42 (dk_at wdB_law_6 3 _ rfl)⟩⟩, ⟨⟨dk_29 (dk_at wdB_law_6 4 _ rfl), dk_7 (dk_at wdB_law_6 5 _ rfl)⟩, ⟨dk_96 (dk_at wdB_law_6 6 _ rfl), dk_46 (dk_at wdB_law_6 7 _ rfl)⟩⟩⟩, ⟨⟨⟨dk_42 (dk_at wdB_law_6 8 _ rfl), dk_29 (dk_at wdB_law_6 9 _ rfl)⟩, ⟨dk_8 (dk_at wdB_law_6 10 _ rfl), dk_96 (dk_at wdB_law_6 11 _ rfl)⟩⟩, ⟨⟨dk_46 (dk_at wdB_law_6 12 _ rfl), dk_182 (dk_at wdB_law_6 13 _ rfl) (dk_at wdB_law_6 14 _ rfl) (dk_at wdB_law_6 15 _ rfl) rfl⟩, ⟨dk_87 (dk_at wdB_law_6 16 _ rfl), dk_167 (dk_at wdB_law_6 17 _ rfl) (dk_at wdB_law_6 18 _ rfl) (dk_at wdB_law_6 19 _ rfl) (by decide)⟩⟩⟩⟩
theorem wdB_law_7 : dk_bw (cL_law.data.toList.drop 256) [43, 42, 29, 4, 96, 46, 42, 29, 5, 96, 46, 182, 0, 23, 87, 44, 42, 29] = true := by decide +kernel
theorem dB_law_7 : ((((decode cL_law 256 = .ok (.aload_n 1, 1)) ∧ (decode cL_law 257 = .ok (.aload_n 0, 1))) ∧ ((decode cL_law 258 = .ok (.iload_n 3, 1)) ∧ (decode cL_law 259 = .ok (.iconst 1, 1)))) ∧ (((decode cL_law 260 = .ok (.iadd, 1)) ∧ (decode cL_law 261 = .ok (.iaload, 1))) ∧ ((decode cL_law 262 = .ok (.aload_n 0, 1)) ∧ (decode cL_law 263 = .ok (.iload_n 3, 1))))) ∧ ((((decode cL_law 264 = .ok (.iconst 2, 1)) ∧ (decode cL_law 265 = .ok (.iadd, 1))) ∧ ((decode cL_law 266 = .ok (.iaload, 1)) ∧ (decode cL_law 267 = .ok (.invokevirtual 23, 3)))) ∧ (((decode cL_law 270 = .ok (.pop, 1)) ∧ (decode cL_law 271 = .ok (.aload_n 2, 1))) ∧ ((decode cL_law 272 = .ok (.aload_n 0, 1)) ∧ (decode cL_law 273 = .ok (.iload_n 3, 1))))) := ⟨⟨⟨⟨dk_43 (dk_at wdB_law_7 0 _ rfl), dk_42 (dk_at wdB_law_7 1 _ rfl)⟩, ⟨dk_29 (dk_at wdB_law_7 2 _ rfl), dk_4 (dk_at wdB_law_7 3 _ rfl)⟩⟩, ⟨⟨dk_96 (dk_at wdB_law_7 4 _ rfl), dk_46 (dk_at wdB_law_7 5 _ rfl)⟩, ⟨dk_42 (dk_at wdB_law_7 6 _ rfl), dk_29 (dk_at wdB_law_7 7 _ rfl)⟩⟩⟩, ⟨⟨⟨dk_5 (dk_at wdB_law_7 8 _ rfl), dk_96 (dk_at wdB_law_7 9 _ rfl)⟩, ⟨dk_46 (dk_at wdB_law_7 10 _ rfl), dk_182 (dk_at wdB_law_7 11 _ rfl) (dk_at wdB_law_7 12 _ rfl) (dk_at wdB_law_7 13 _ rfl) rfl⟩⟩, ⟨⟨dk_87 (dk_at wdB_law_7 14 _ rfl), dk_44 (dk_at wdB_law_7 15 _ rfl)⟩, ⟨dk_42 (dk_at wdB_law_7 16 _ rfl), dk_29 (dk_at wdB_law_7 17 _ rfl)⟩⟩⟩⟩
theorem wdB_law_8 : dk_bw (cL_law.data.toList.drop 274) [4, 96, 46, 42, 29, 5, 96, 46, 182, 0, 27, 87, 167, 4, 23, 43, 42, 29, 4, 96] = true := by decide +kernel
end
