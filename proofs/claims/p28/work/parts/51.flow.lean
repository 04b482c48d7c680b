theorem sixL {g : Nat → Int} {l l2 : Int32} (h : ∀ j : Nat, (j : Int) < l.toInt → g j ≤ 0) (h0 : 0 ≤ l.toInt) (e : l2.toInt = l.toInt + 1) (hg : g l.toNatClampNeg ≤ 0) : ∀ j : Nat, (j : Int) < l2.toInt → g j ≤ 0 := fun j hj => by
  have c := clI (i := l) h0
  by_cases q : (j : Int) < l.toInt
  · exact h j q
  · obtain rfl : j = l.toNatClampNeg := by omega
    exact hg
theorem endL {f5 f6 f7 f8 f10 F c0 c : Nat → Int32} {l n : Int32} {x y s r m : Int} (h6 : r = m → (∀ j : Nat, (j : Int) < l.toInt → lfI f5 f6 f7 f8 f10 c0 x y j ≤ 0) ∧ ∀ j : Nat, F j = c0 j) (hl : n.toInt ≤ l.toInt) (hn : 0 ≤ n.toInt) (hs : 0 < sumI (lfI f5 f6 f7 f8 f10 c x y) n.toNatClampNeg) (hc : ∀ j : Nat, ((f6 j).toInt = s ∨ (f7 j).toInt = s) → c0 j = c j) (hx : x = s) (hle : r ≤ m) : r < m := by
  rcases Int.lt_or_le r m with q | q
  · exact q
  · have a := h6 (by omega)
    have e := clI (i := n) hn
    have b := sumI_le0 (g := lfI f5 f6 f7 f8 f10 c x y) n.toNatClampNeg (fun j hj => by
      have d := a.1 j (by omega)
      rw [lfI_same (a := c0) (b := c) (fun h => hc j (by rw [← hx]; exact h))] at d
      exact d)
    omega

set_option maxHeartbeats 4000000 in
set_option maxRecDepth 100000 in
theorem c_X12_flowOf (l : Launch) (D : va_G) (cy : Nat → ClassId) (sz : Nat) (mo : Nat) (g5 : Nat) (g6 : Nat) (g7 : Nat) (g8 : Nat) (g9 : Nat) (g10 : Nat) (g12 : Nat) (g13 : Nat) (g14 : Nat) (g15 : Nat) (g16 : Nat) (g17 : Nat) (g18 : Nat) (g19 : Nat) (g20 : Nat) (g22 : Nat) (g23 : Nat) (g24 : Nat) (g29 : Nat) (g30 : Nat) (g31 : Nat) (g32 : Nat) (g33 : Nat) (s0 : Int32) (s1 : Int32) (s3 : Int32) (s4 : Int32) (s11 : Int32) (s21 : Int32) (s25 : Int32) (s26 : Int32) (s27 : Int32) (s28 : Int32) (t2 : Int64) (f5 : Nat → Int32) (f6 : Nat → Int32) (f7 : Nat → Int32) (f8 : Nat → Int32) (f10 : Nat → Int32) (f22 : Nat → Int32) (f23 : Nat → Int32) (f24 : Nat → Int32) (a1 : Int32) (a2 : Int32) (hN : 0 ≤ s4.toInt ∧ s4.toInt ≤ 40) (hPl : 0 ≤ s3.toInt ∧ s3.toInt ≤ 12) (h21 : s21.toInt = -9) (q1 : 0 ≤ a1.toInt ∧ a1.toInt < s3.toInt) (q2 : 0 ≤ a2.toInt ∧ a2.toInt < s3.toInt) (qd : a1.toInt ≠ a2.toInt) (r_f8 : rng f8 40 (0) (2000)) (r_f23 : rng f23 12 (0) (11)) (r_f24 : rng f24 12 (0) (11)) : Met l yX12_flowOf wsX12_flowOf ({ frames := 5, cells := 0, slots := 0, locals := 118 }) (va_Pc [.ref mo, .int a1, .int a2] (fun U => U.heap.size = sz ∧ va_P D vwCl [(mo, .inr (12, [.int s0, .int s1, .long t2, .int s3, .int s4, .ref g5, .ref g6, .ref g7, .ref g8, .ref g9, .ref g10, .int s11, .ref g12, .ref g13, .ref g14, .ref g15, .ref g16, .ref g17, .ref g18, .ref g19, .ref g20, .int s21, .ref g22, .ref g23, .ref g24, .int s25, .int s26, .int s27, .int s28, .ref g29, .ref g30, .ref g31, .ref g32, .ref g33])), (g5, .inl (cy 0, 40, .inl f5)), (g6, .inl (cy 0, 40, .inl f6)), (g7, .inl (cy 0, 40, .inl f7)), (g8, .inl (cy 0, 40, .inl f8)), (g10, .inl (cy 2, 40, .inl f10)), (g22, .inl (cy 0, 40, .inl f22)), (g23, .inl (cy 0, 12, .inl f23)), (g24, .inl (cy 0, 12, .inl f24))] U.heap ∧ kk_ D cy U ∧ va_D (fun _ => True) [(mo, .inr (12, [.int s0, .int s1, .long t2, .int s3, .int s4, .ref g5, .ref g6, .ref g7, .ref g8, .ref g9, .ref g10, .int s11, .ref g12, .ref g13, .ref g14, .ref g15, .ref g16, .ref g17, .ref g18, .ref g19, .ref g20, .int s21, .ref g22, .ref g23, .ref g24, .int s25, .int s26, .int s27, .int s28, .ref g29, .ref g30, .ref g31, .ref g32, .ref g33])), (g5, .inl (cy 0, 40, .inl f5)), (g6, .inl (cy 0, 40, .inl f6)), (g7, .inl (cy 0, 40, .inl f7)), (g8, .inl (cy 0, 40, .inl f8)), (g10, .inl (cy 2, 40, .inl f10)), (g22, .inl (cy 0, 40, .inl f22)), (g23, .inl (cy 0, 12, .inl f23)), (g24, .inl (cy 0, 12, .inl f24))])) (va_Qv (fun (_ : Unit) => True) (fun (_ : Unit) (t : State) => ∃ (e22 : Nat → Int32), ∃ (e23 : Nat → Int32), ∃ (e24 : Nat → Int32), (rng e23 12 (0) (11)) ∧ (rng e24 12 (0) (11)) ∧ va_P D vwCl [(mo, .inr (12, [.int s0, .int s1, .long t2, .int s3, .int s4, .ref g5, .ref g6, .ref g7, .ref g8, .ref g9, .ref g10, .int s11, .ref g12, .ref g13, .ref g14, .ref g15, .ref g16, .ref g17, .ref g18, .ref g19, .ref g20, .int s21, .ref g22, .ref g23, .ref g24, .int s25, .int s26, .int s27, .int s28, .ref g29, .ref g30, .ref g31, .ref g32, .ref g33])), (g5, .inl (cy 0, 40, .inl f5)), (g6, .inl (cy 0, 40, .inl f6)), (g7, .inl (cy 0, 40, .inl f7)), (g8, .inl (cy 0, 40, .inl f8)), (g10, .inl (cy 2, 40, .inl f10)), (g22, .inl (cy 0, 40, .inl e22)), (g23, .inl (cy 0, 12, .inl e23)), (g24, .inl (cy 0, 12, .inl e24))] t.heap ∧ va_D (va_A [(mo, .inr (12, [.int s0, .int s1, .long t2, .int s3, .int s4, .ref g5, .ref g6, .ref g7, .ref g8, .ref g9, .ref g10, .int s11, .ref g12, .ref g13, .ref g14, .ref g15, .ref g16, .ref g17, .ref g18, .ref g19, .ref g20, .int s21, .ref g22, .ref g23, .ref g24, .int s25, .int s26, .int s27, .int s28, .ref g29, .ref g30, .ref g31, .ref g32, .ref g33])), (g5, .inl (cy 0, 40, .inl f5)), (g6, .inl (cy 0, 40, .inl f6)), (g7, .inl (cy 0, 40, .inl f7)), (g8, .inl (cy 0, 40, .inl f8)), (g10, .inl (cy 2, 40, .inl f10)), (g22, .inl (cy 0, 40, .inl f22)), (g23, .inl (cy 0, 12, .inl f23)), (g24, .inl (cy 0, 12, .inl f24))] sz) [(mo, .inr (12, [.int s0, .int s1, .long t2, .int s3, .int s4, .ref g5, .ref g6, .ref g7, .ref g8, .ref g9, .ref g10, .int s11, .ref g12, .ref g13, .ref g14, .ref g15, .ref g16, .ref g17, .ref g18, .ref g19, .ref g20, .int s21, .ref g22, .ref g23, .ref g24, .int s25, .int s26, .int s27, .int s28, .ref g29, .ref g30, .ref g31, .ref g32, .ref g33])), (g5, .inl (cy 0, 40, .inl f5)), (g6, .inl (cy 0, 40, .inl f6)), (g7, .inl (cy 0, 40, .inl f7)), (g8, .inl (cy 0, 40, .inl f8)), (g10, .inl (cy 2, 40, .inl f10)), (g22, .inl (cy 0, 40, .inl e22)), (g23, .inl (cy 0, 12, .inl e23)), (g24, .inl (cy 0, 12, .inl e24))]) (va_A [(mo, .inr (12, [.int s0, .int s1, .long t2, .int s3, .int s4, .ref g5, .ref g6, .ref g7, .ref g8, .ref g9, .ref g10, .int s11, .ref g12, .ref g13, .ref g14, .ref g15, .ref g16, .ref g17, .ref g18, .ref g19, .ref g20, .int s21, .ref g22, .ref g23, .ref g24, .int s25, .int s26, .int s27, .int s28, .ref g29, .ref g30, .ref g31, .ref g32, .ref g33])), (g5, .inl (cy 0, 40, .inl f5)), (g6, .inl (cy 0, 40, .inl f6)), (g7, .inl (cy 0, 40, .inl f7)), (g8, .inl (cy 0, 40, .inl f8)), (g10, .inl (cy 2, 40, .inl f10)), (g22, .inl (cy 0, 40, .inl f22)), (g23, .inl (cy 0, 12, .inl f23)), (g24, .inl (cy 0, 12, .inl f24))] sz)) 0 0 (va_A [(mo, .inr (12, [.int s0, .int s1, .long t2, .int s3, .int s4, .ref g5, .ref g6, .ref g7, .ref g8, .ref g9, .ref g10, .int s11, .ref g12, .ref g13, .ref g14, .ref g15, .ref g16, .ref g17, .ref g18, .ref g19, .ref g20, .int s21, .ref g22, .ref g23, .ref g24, .int s25, .int s26, .int s27, .int s28, .ref g29, .ref g30, .ref g31, .ref g32, .ref g33])), (g5, .inl (cy 0, 40, .inl f5)), (g6, .inl (cy 0, 40, .inl f6)), (g7, .inl (cy 0, 40, .inl f7)), (g8, .inl (cy 0, 40, .inl f8)), (g10, .inl (cy 2, 40, .inl f10)), (g22, .inl (cy 0, 40, .inl f22)), (g23, .inl (cy 0, 12, .inl f23)), (g24, .inl (cy 0, 12, .inl f24))] sz) := by
  refine ofQ (cc := cX12_flowOf) (maxL := 9) (ret := none) (by decide) rfl ?_
  intro p e s m args below meth c s₁ Q hQ B hml hv
  obtain ⟨rfl, hsz, hP, hK, hD0⟩ := hv
  have hx := B.exec
  have hb := B.bytes
  have hr := B.returns
  have hts := atoms_spec (ws := wsX12_flowOf) B.pre
  have hown : s.vm.findClass RX12 = some m.cls := by have h_ := findClass_of_methodNamed B.named; exact h_
  have hlocks := B.notSynchronized
  subst hsz
  have hD := hD0.self (sz := s.heap.size)
  generalize hAe : va_A [(mo, .inr (12, [.int s0, .int s1, .long t2, .int s3, .int s4, .ref g5, .ref g6, .ref g7, .ref g8, .ref g9, .ref g10, .int s11, .ref g12, .ref g13, .ref g14, .ref g15, .ref g16, .ref g17, .ref g18, .ref g19, .ref g20, .int s21, .ref g22, .ref g23, .ref g24, .int s25, .int s26, .int s27, .int s28, .ref g29, .ref g30, .ref g31, .ref g32, .ref g33])), (g5, .inl (cy 0, 40, .inl f5)), (g6, .inl (cy 0, 40, .inl f6)), (g7, .inl (cy 0, 40, .inl f7)), (g8, .inl (cy 0, 40, .inl f8)), (g10, .inl (cy 2, 40, .inl f10)), (g22, .inl (cy 0, 40, .inl f22)), (g23, .inl (cy 0, 12, .inl f23)), (g24, .inl (cy 0, 12, .inl f24))] s.heap.size = A at hD hQ
  have hA : ∀ q : Nat, s.heap.size ≤ q → A q := fun q h => by rw [← hAe]; exact Or.inr h
  have hS : va_S A s.heap s.heap [] := va_S.rf
  have hl := lv_entry ([.ref mo, .int a1, .int a2]) (n := 9) (Nat.le_of_ble_eq_true rfl)
  rw [lg_entry_eq]
  generalize (lg_sl ([.ref mo, .int a1, .int a2]) ++ List.replicate (9 - (lg_sl ([.ref mo, .int a1, .int a2])).length) Slot.unset).toArray = ls at hl ⊢
  have hl : lv_has ls 9 [(0, .ref mo), (1, .int a1), (2, .int a2)] := hl
  have z0 : (0 : Int32).toInt = 0 := by decide
  have z1 : (1 : Int32).toInt = 1 := by decide
  have z40 : (40 : Int32).toInt = 40 := by decide
  have z2147483647 : (2147483647 : Int32).toInt = 2147483647 := by decide
  have cN := clI (i := s4) (by omega)
  refine lv_iconst (v := 0) hx hb dX12_flowOf_0 (by decide) ?_
  refine lv_istore_n (lv' := [(3, .int 0), (0, .ref mo), (1, .int a1), (2, .int a2)]) hx hb dX12_flowOf_1 rfl hl (by decide) rfl (fun ls hl => ?_)
  suffices LOOP_1 : ∀ (n_1 : Nat) (x3_1 : Int32) (c_g22_1 : Nat → Int32) (H : Heap) (locs : List Loc) (ls : Array Slot), 40 - x3_1.toInt < (n_1 : Int) → (0 ≤ x3_1.toInt) → (x3_1.toInt ≤ 40) → (∀ j : Nat, (j : Int) < x3_1.toInt → (c_g22_1 j).toInt = 0) → va_P D vwCl [(mo, .inr (12, [.int s0, .int s1, .long t2, .int s3, .int s4, .ref g5, .ref g6, .ref g7, .ref g8, .ref g9, .ref g10, .int s11, .ref g12, .ref g13, .ref g14, .ref g15, .ref g16, .ref g17, .ref g18, .ref g19, .ref g20, .int s21, .ref g22, .ref g23, .ref g24, .int s25, .int s26, .int s27, .int s28, .ref g29, .ref g30, .ref g31, .ref g32, .ref g33])), (g5, .inl (cy 0, 40, .inl f5)), (g6, .inl (cy 0, 40, .inl f6)), (g7, .inl (cy 0, 40, .inl f7)), (g8, .inl (cy 0, 40, .inl f8)), (g10, .inl (cy 2, 40, .inl f10)), (g22, .inl (cy 0, 40, .inl c_g22_1)), (g23, .inl (cy 0, 12, .inl f23)), (g24, .inl (cy 0, 12, .inl f24))] H → va_D A [(mo, .inr (12, [.int s0, .int s1, .long t2, .int s3, .int s4, .ref g5, .ref g6, .ref g7, .ref g8, .ref g9, .ref g10, .int s11, .ref g12, .ref g13, .ref g14, .ref g15, .ref g16, .ref g17, .ref g18, .ref g19, .ref g20, .int s21, .ref g22, .ref g23, .ref g24, .int s25, .int s26, .int s27, .int s28, .ref g29, .ref g30, .ref g31, .ref g32, .ref g33])), (g5, .inl (cy 0, 40, .inl f5)), (g6, .inl (cy 0, 40, .inl f6)), (g7, .inl (cy 0, 40, .inl f7)), (g8, .inl (cy 0, 40, .inl f8)), (g10, .inl (cy 2, 40, .inl f10)), (g22, .inl (cy 0, 40, .inl c_g22_1)), (g23, .inl (cy 0, 12, .inl f23)), (g24, .inl (cy 0, 12, .inl f24))] → va_S A s.heap H locs → lv_has ls 9 [(3, .int x3_1), (0, .ref mo), (1, .int a1), (2, .int a2)] → W p l e ({ frames := 5, cells := 0, slots := 0, locals := 118 } : Room) s m (([.ref mo, .int a1, .int a2] : List Value).toArray) below meth c H locs 0 0 Q (F0 m 2 ls []) from LOOP_1 ((40 - (0 : Int32).toInt).toNat + 1) (0 : Int32) f22 _ _ _ (by omega) (by first | with_reducible assumption | assumption | omega) (by first | with_reducible assumption | assumption | omega) (by first | exact zero_st (by assumption) (by assumption) (by omega) (by omega) | (intro j hj; omega)) hP hD hS (lv_sub hl [0, 1, 2, 3] rfl)
  intro n_1
  induction n_1 with
  | zero =>
    intro x3_1 c_g22_1 H locs ls hm v0_1 v1_1 v2_1 hP hD hS hl
    exact absurd hm (by omega)
  | succ n_1 ih_1 =>
    intro x3_1 c_g22_1 H locs ls hm v0_1 v1_1 v2_1 hP hD hS hl
    refine lv_iload_n hx hb dX12_flowOf_2 rfl (lv_at hl 0 rfl) ?_
    refine lv_bipush (v := 40) hx hb dX12_flowOf_3 (by decide) ?_
    refine lv_icmp_ge (tgt := 21) hx hb dX12_flowOf_5 (by decide) (fun c_2 => ?_) (fun c_2 => ?_)
    · have t_2 : (40 : Int32).toInt ≤ x3_1.toInt := Int32.le_iff_toInt_le.mp c_2
      have hz_ : flOK f5 f8 c_g22_1 := flOK_zero r_f8 (fun j hj => v2_1 j (by omega))
      suffices LOOP_3 : ∀ (n_3 : Nat) (c_g22_3 : Nat → Int32) (c_g23_3 : Nat → Int32) (c_g24_3 : Nat → Int32) (H : Heap) (locs : List Loc) (ls : Array Slot), phi f5 f6 f7 f8 f10 c_g22_3 a1.toInt s4.toNatClampNeg < (n_3 : Int) → (flOK f5 f8 c_g22_3) → (0 ≤ phi f5 f6 f7 f8 f10 c_g22_3 a1.toInt s4.toNatClampNeg) → (rng c_g23_3 12 (0) (11)) → (rng c_g24_3 12 (0) (11)) → va_P D vwCl [(mo, .inr (12, [.int s0, .int s1, .long t2, .int s3, .int s4, .ref g5, .ref g6, .ref g7, .ref g8, .ref g9, .ref g10, .int s11, .ref g12, .ref g13, .ref g14, .ref g15, .ref g16, .ref g17, .ref g18, .ref g19, .ref g20, .int s21, .ref g22, .ref g23, .ref g24, .int s25, .int s26, .int s27, .int s28, .ref g29, .ref g30, .ref g31, .ref g32, .ref g33])), (g5, .inl (cy 0, 40, .inl f5)), (g6, .inl (cy 0, 40, .inl f6)), (g7, .inl (cy 0, 40, .inl f7)), (g8, .inl (cy 0, 40, .inl f8)), (g10, .inl (cy 2, 40, .inl f10)), (g22, .inl (cy 0, 40, .inl c_g22_3)), (g23, .inl (cy 0, 12, .inl c_g23_3)), (g24, .inl (cy 0, 12, .inl c_g24_3))] H → va_D A [(mo, .inr (12, [.int s0, .int s1, .long t2, .int s3, .int s4, .ref g5, .ref g6, .ref g7, .ref g8, .ref g9, .ref g10, .int s11, .ref g12, .ref g13, .ref g14, .ref g15, .ref g16, .ref g17, .ref g18, .ref g19, .ref g20, .int s21, .ref g22, .ref g23, .ref g24, .int s25, .int s26, .int s27, .int s28, .ref g29, .ref g30, .ref g31, .ref g32, .ref g33])), (g5, .inl (cy 0, 40, .inl f5)), (g6, .inl (cy 0, 40, .inl f6)), (g7, .inl (cy 0, 40, .inl f7)), (g8, .inl (cy 0, 40, .inl f8)), (g10, .inl (cy 2, 40, .inl f10)), (g22, .inl (cy 0, 40, .inl c_g22_3)), (g23, .inl (cy 0, 12, .inl c_g23_3)), (g24, .inl (cy 0, 12, .inl c_g24_3))] → va_S A s.heap H locs → lv_has ls 9 [(0, .ref mo), (1, .int a1), (2, .int a2)] → W p l e ({ frames := 5, cells := 0, slots := 0, locals := 118 } : Room) s m (([.ref mo, .int a1, .int a2] : List Value).toArray) below meth c H locs 0 0 Q (F0 m 21 ls []) from LOOP_3 ((phi f5 f6 f7 f8 f10 c_g22_1 a1.toInt s4.toNatClampNeg).toNat + 1) c_g22_1 f23 f24 _ _ _ (by omega) (by first | with_reducible assumption | assumption | omega) (phi_nonneg (by assumption) r_f8 (by omega)) (by first | with_reducible assumption | assumption | exact rng_zero (by omega) (by omega) | exact orng_zero) (by first | with_reducible assumption | assumption | exact rng_zero (by omega) (by omega) | exact orng_zero) hP hD hS (lv_sub hl [1, 2, 3] rfl)
      intro n_3
      induction n_3 with
      | zero =>
        intro c_g22_3 c_g23_3 c_g24_3 H locs ls hm v0_3 v1_3 rc_g23_3 rc_g24_3 hP hD hS hl
        exact absurd hm (by omega)
      | succ n_3 ih_3 =>
        intro c_g22_3 c_g23_3 c_g24_3 H locs ls hm v0_3 v1_3 rc_g23_3 rc_g24_3 hP hD hS hl
        refine lv_aload_n hx hb dX12_flowOf_21 rfl (lv_at hl 0 rfl) ?_
        refine lv_iload_n hx hb dX12_flowOf_22 rfl (lv_at hl 1 rfl) ?_
        refine lv_iload_n hx hb dX12_flowOf_23 rfl (lv_at hl 2 rfl) ?_
        refine ct_S hP hD hS hA [(mo, .inr (12, [.int s0, .int s1, .long t2, .int s3, .int s4, .ref g5, .ref g6, .ref g7, .ref g8, .ref g9, .ref g10, .int s11, .ref g12, .ref g13, .ref g14, .ref g15, .ref g16, .ref g17, .ref g18, .ref g19, .ref g20, .int s21, .ref g22, .ref g23, .ref g24, .int s25, .int s26, .int s27, .int s28, .ref g29, .ref g30, .ref g31, .ref g32, .ref g33])), (g5, .inl (cy 0, 40, .inl f5)), (g6, .inl (cy 0, 40, .inl f6)), (g7, .inl (cy 0, 40, .inl f7)), (g8, .inl (cy 0, 40, .inl f8)), (g10, .inl (cy 2, 40, .inl f10)), (g22, .inl (cy 0, 40, .inl c_g22_3)), (g23, .inl (cy 0, 12, .inl c_g23_3)), (g24, .inl (cy 0, 12, .inl c_g24_3))] [0, 1, 2, 3, 4, 5, 6, 7, 8] (by decide) rfl (fun hPc hDw hFc hC_ => ?_)
        refine va_calli (va_runV (As := [.int a1, .int a2]) (rest := []) ⟨hx, hb, hml, hown, hts⟩ (c_X12_hasWay l D cy H.size mo g5 g6 g7 g8 g9 g10 g12 g13 g14 g15 g16 g17 g18 g19 g20 g22 g23 g24 g29 g30 g31 g32 g33 s0 s1 s3 s4 s11 s21 s25 s26 s27 s28 t2 f5 f6 f7 f8 f10 c_g22_3 c_g23_3 c_g24_3 a1 a2 (by first | with_reducible assumption | assumption | omega) (by first | with_reducible assumption | assumption | omega) (by first | with_reducible assumption | assumption | omega) (by first | with_reducible assumption | assumption | omega) (by first | with_reducible assumption | assumption | omega) (by first | with_reducible assumption | assumption | omega) (by first | with_reducible assumption | assumption | omega) (by first | with_reducible assumption | assumption | omega) (by first | with_reducible assumption | assumption | omega)) (cwV 2 hts gX12_flowOf_X12_hasWay rfl rfl rfl (by decide +kernel) ⟨Nat.le_of_ble_eq_true rfl, Nat.le_of_ble_eq_true rfl⟩) ⟨bl_, va_recvX hK.1 hP (ci := 12) (q0 := 0) rfl rfl, fun U hU hW => ⟨rfl, by rw [hU], by rw [hU]; exact hPc, kk_mv hW hK, hDw⟩⟩ rfl rfl hl.1 rfl (lv_room (Nat.le_of_ble_eq_true rfl)) dX12_flowOf_24 ⟨Nat.le_of_ble_eq_true rfl, Nat.le_of_ble_eq_true rfl⟩) hS (fun q _ h => hFc q h) hFc (fun r_4 u t H locs ht hvm hw hB hz1 hk1 hS => ?_)
        obtain ⟨eu_, hw⟩ := hw
        subst eu_
        obtain ⟨e23_5, e24_6, g_7, g_8, g_9, hP1, hD1⟩ := hB
        rw [ht] at hP1
        obtain ⟨hP, hD⟩ := va_join (wr := []) (w1 := [(mo, .inr (12, [.int s0, .int s1, .long t2, .int s3, .int s4, .ref g5, .ref g6, .ref g7, .ref g8, .ref g9, .ref g10, .int s11, .ref g12, .ref g13, .ref g14, .ref g15, .ref g16, .ref g17, .ref g18, .ref g19, .ref g20, .int s21, .ref g22, .ref g23, .ref g24, .int s25, .int s26, .int s27, .int s28, .ref g29, .ref g30, .ref g31, .ref g32, .ref g33])), (g5, .inl (cy 0, 40, .inl f5)), (g6, .inl (cy 0, 40, .inl f6)), (g7, .inl (cy 0, 40, .inl f7)), (g8, .inl (cy 0, 40, .inl f8)), (g10, .inl (cy 2, 40, .inl f10)), (g22, .inl (cy 0, 40, .inl c_g22_3)), (g23, .inl (cy 0, 12, .inl e23_5)), (g24, .inl (cy 0, 12, .inl e24_6))]) hP hD [0, 1, 2, 3, 4, 5, 6, 7, 8] [] hC_ rfl (by decide) (by decide) hk1 hFc hP1 hD1
        refine pd_K [(mo, .inr (12, [.int s0, .int s1, .long t2, .int s3, .int s4, .ref g5, .ref g6, .ref g7, .ref g8, .ref g9, .ref g10, .int s11, .ref g12, .ref g13, .ref g14, .ref g15, .ref g16, .ref g17, .ref g18, .ref g19, .ref g20, .int s21, .ref g22, .ref g23, .ref g24, .int s25, .int s26, .int s27, .int s28, .ref g29, .ref g30, .ref g31, .ref g32, .ref g33])), (g5, .inl (cy 0, 40, .inl f5)), (g6, .inl (cy 0, 40, .inl f6)), (g7, .inl (cy 0, 40, .inl f7)), (g8, .inl (cy 0, 40, .inl f8)), (g10, .inl (cy 2, 40, .inl f10)), (g22, .inl (cy 0, 40, .inl c_g22_3)), (g23, .inl (cy 0, 12, .inl e23_5)), (g24, .inl (cy 0, 12, .inl e24_6))] hP hD (fun hP hD => ?_)
        rcases hw with ⟨w_10, e_⟩ | ⟨w_10, e_⟩
        · have e_ := e_.symm
          subst e_
          refine lv_if_eq (tgt := 260) hx hb dX12_flowOf_27 (by decide) (fun c_11 => ?_) (fun c_11 => ?_)
          · have _ := c_11
            have hP9 := hP.sub (ws' := [(mo, .inr (12, [.int s0, .int s1, .long t2, .int s3, .int s4, .ref g5, .ref g6, .ref g7, .ref g8, .ref g9, .ref g10, .int s11, .ref g12, .ref g13, .ref g14, .ref g15, .ref g16, .ref g17, .ref g18, .ref g19, .ref g20, .int s21, .ref g22, .ref g23, .ref g24, .int s25, .int s26, .int s27, .int s28, .ref g29, .ref g30, .ref g31, .ref g32, .ref g33])), (g5, .inl (cy 0, 40, .inl f5)), (g6, .inl (cy 0, 40, .inl f6)), (g7, .inl (cy 0, 40, .inl f7)), (g8, .inl (cy 0, 40, .inl f8)), (g10, .inl (cy 2, 40, .inl f10)), (g22, .inl (cy 0, 40, .inl c_g22_3)), (g23, .inl (cy 0, 12, .inl e23_5)), (g24, .inl (cy 0, 12, .inl e24_6))]) [0, 1, 2, 3, 4, 5, 6, 7, 8] rfl
            have hD9 := hD.sub (ws' := [(mo, .inr (12, [.int s0, .int s1, .long t2, .int s3, .int s4, .ref g5, .ref g6, .ref g7, .ref g8, .ref g9, .ref g10, .int s11, .ref g12, .ref g13, .ref g14, .ref g15, .ref g16, .ref g17, .ref g18, .ref g19, .ref g20, .int s21, .ref g22, .ref g23, .ref g24, .int s25, .int s26, .int s27, .int s28, .ref g29, .ref g30, .ref g31, .ref g32, .ref g33])), (g5, .inl (cy 0, 40, .inl f5)), (g6, .inl (cy 0, 40, .inl f6)), (g7, .inl (cy 0, 40, .inl f7)), (g8, .inl (cy 0, 40, .inl f8)), (g10, .inl (cy 2, 40, .inl f10)), (g22, .inl (cy 0, 40, .inl c_g22_3)), (g23, .inl (cy 0, 12, .inl e23_5)), (g24, .inl (cy 0, 12, .inl e24_6))]) [0, 1, 2, 3, 4, 5, 6, 7, 8] (by decide) rfl
            rw [hQ]
            exact W.vret hx hb hr (fun t ht hW => ⟨⟨(), rfl, trivial, c_g22_3, e23_5, e24_6, (by first | with_reducible assumption | assumption | exact rng_zero (by omega) (by omega) | omega), (by first | with_reducible assumption | assumption | exact rng_zero (by omega) (by omega) | omega), by rw [ht]; exact hP9, hD9⟩, hS.F ht⟩) hS.2.2 dX12_flowOf_260
          · exact absurd c_11 (by decide)
        · have e_ := e_.symm
          subst e_
          refine lv_if_eq (tgt := 260) hx hb dX12_flowOf_27 (by decide) (fun c_12 => ?_) (fun c_12 => ?_)
          · exact absurd c_12 (by decide)
          · have _ := c_12
            obtain ⟨n_, hb_, ht_⟩ := g_7 rfl
            refine lv_ldc (v := 2147483647) hx hb hown (hts (.constant RX12 186 (2147483647)) (by decide +kernel)) dX12_flowOf_30 ?_
            refine lv_istore_n (lv' := [(3, .int 2147483647), (0, .ref mo), (1, .int a1), (2, .int a2)]) hx hb dX12_flowOf_32 rfl hl (by decide) rfl (fun ls hl => ?_)
            refine lv_iload_n hx hb dX12_flowOf_33 rfl (lv_at hl 3 rfl) ?_
            refine lv_istore (lv' := [(4, .int a2), (3, .int 2147483647), (0, .ref mo), (1, .int a1), (2, .int a2)]) hx hb dX12_flowOf_34 hl (by decide) rfl (fun ls hl => ?_)
            suffices LOOP_13 : ∀ (n_13 : Nat) (x4_13 : Int32) (x3_13 : Int32) (j_13 : Nat) (H : Heap) (locs : List Loc) (ls : Array Slot), (j_13 : Int) < (n_13 : Int) → (j_13 < n_ + 1) → (x4_13 = e23_5 j_13) → (0 < x3_13.toInt) → va_P D vwCl [(mo, .inr (12, [.int s0, .int s1, .long t2, .int s3, .int s4, .ref g5, .ref g6, .ref g7, .ref g8, .ref g9, .ref g10, .int s11, .ref g12, .ref g13, .ref g14, .ref g15, .ref g16, .ref g17, .ref g18, .ref g19, .ref g20, .int s21, .ref g22, .ref g23, .ref g24, .int s25, .int s26, .int s27, .int s28, .ref g29, .ref g30, .ref g31, .ref g32, .ref g33])), (g5, .inl (cy 0, 40, .inl f5)), (g6, .inl (cy 0, 40, .inl f6)), (g7, .inl (cy 0, 40, .inl f7)), (g8, .inl (cy 0, 40, .inl f8)), (g10, .inl (cy 2, 40, .inl f10)), (g22, .inl (cy 0, 40, .inl c_g22_3)), (g23, .inl (cy 0, 12, .inl e23_5)), (g24, .inl (cy 0, 12, .inl e24_6))] H → va_D A [(mo, .inr (12, [.int s0, .int s1, .long t2, .int s3, .int s4, .ref g5, .ref g6, .ref g7, .ref g8, .ref g9, .ref g10, .int s11, .ref g12, .ref g13, .ref g14, .ref g15, .ref g16, .ref g17, .ref g18, .ref g19, .ref g20, .int s21, .ref g22, .ref g23, .ref g24, .int s25, .int s26, .int s27, .int s28, .ref g29, .ref g30, .ref g31, .ref g32, .ref g33])), (g5, .inl (cy 0, 40, .inl f5)), (g6, .inl (cy 0, 40, .inl f6)), (g7, .inl (cy 0, 40, .inl f7)), (g8, .inl (cy 0, 40, .inl f8)), (g10, .inl (cy 2, 40, .inl f10)), (g22, .inl (cy 0, 40, .inl c_g22_3)), (g23, .inl (cy 0, 12, .inl e23_5)), (g24, .inl (cy 0, 12, .inl e24_6))] → va_S A s.heap H locs → lv_has ls 9 [(4, .int x4_13), (3, .int x3_13), (0, .ref mo), (1, .int a1), (2, .int a2)] → W p l e ({ frames := 5, cells := 0, slots := 0, locals := 118 } : Room) s m (([.ref mo, .int a1, .int a2] : List Value).toArray) below meth c H locs 0 0 Q (F0 m 36 ls []) from LOOP_13 ((((n_) : Int)).toNat + 1) a2 (2147483647 : Int32) n_ _ _ _ (by omega) (by first | with_reducible assumption | assumption | omega) (by first | with_reducible assumption | assumption | exact ht_.symm) (by first | with_reducible assumption | assumption | omega) hP hD hS (lv_sub hl [0, 1, 2, 3, 4] rfl)
            intro n_13
            induction n_13 with
            | zero =>
              intro x4_13 x3_13 j_13 H locs ls hm v0_13 v1_13 v2_13 hP hD hS hl
              exact absurd hm (by omega)
            | succ n_13 ih_13 =>
              intro x4_13 x3_13 j_13 H locs ls hm v0_13 v1_13 v2_13 hP hD hS hl
              refine lv_iload hx hb dX12_flowOf_36 (lv_at hl 0 rfl) ?_
              refine lv_iload_n hx hb dX12_flowOf_38 rfl (lv_at hl 3 rfl) ?_
              refine lv_icmp_eq (tgt := 82) hx hb dX12_flowOf_39 (by decide) (fun c_14 => ?_) (fun c_14 => ?_)
              · have t_14 : x4_13.toInt = a1.toInt := congrArg Int32.toInt c_14
                refine lv_iload_n hx hb dX12_flowOf_82 rfl (lv_at hl 4 rfl) ?_
                refine lv_istore (lv' := [(4, .int a2), (3, .int x3_13), (0, .ref mo), (1, .int a1), (2, .int a2)]) hx hb dX12_flowOf_83 hl (by decide) rfl (fun ls hl => ?_)
                suffices LOOP_15 : ∀ (n_15 : Nat) (x4_15 : Int32) (j2_15 : Nat) (c_g22_15 : Nat → Int32) (H : Heap) (locs : List Loc) (ls : Array Slot), (j2_15 : Int) < (n_15 : Int) → (j2_15 < n_ + 1) → (x4_15 = e23_5 j2_15) → (flOK f5 f8 c_g22_15) → (phi f5 f6 f7 f8 f10 c_g22_15 a1.toInt s4.toNatClampNeg ≤ phi f5 f6 f7 f8 f10 c_g22_3 a1.toInt s4.toNatClampNeg) → (x4_15.toInt = a1.toInt → phi f5 f6 f7 f8 f10 c_g22_15 a1.toInt s4.toNatClampNeg < phi f5 f6 f7 f8 f10 c_g22_3 a1.toInt s4.toNatClampNeg) → (x4_15.toInt ≠ a1.toInt → ∀ j : Nat, ((f6 j).toInt = a1.toInt ∨ (f7 j).toInt = a1.toInt) → c_g22_15 j = c_g22_3 j) → va_P D vwCl [(mo, .inr (12, [.int s0, .int s1, .long t2, .int s3, .int s4, .ref g5, .ref g6, .ref g7, .ref g8, .ref g9, .ref g10, .int s11, .ref g12, .ref g13, .ref g14, .ref g15, .ref g16, .ref g17, .ref g18, .ref g19, .ref g20, .int s21, .ref g22, .ref g23, .ref g24, .int s25, .int s26, .int s27, .int s28, .ref g29, .ref g30, .ref g31, .ref g32, .ref g33])), (g5, .inl (cy 0, 40, .inl f5)), (g6, .inl (cy 0, 40, .inl f6)), (g7, .inl (cy 0, 40, .inl f7)), (g8, .inl (cy 0, 40, .inl f8)), (g10, .inl (cy 2, 40, .inl f10)), (g22, .inl (cy 0, 40, .inl c_g22_15)), (g23, .inl (cy 0, 12, .inl e23_5)), (g24, .inl (cy 0, 12, .inl e24_6))] H → va_D A [(mo, .inr (12, [.int s0, .int s1, .long t2, .int s3, .int s4, .ref g5, .ref g6, .ref g7, .ref g8, .ref g9, .ref g10, .int s11, .ref g12, .ref g13, .ref g14, .ref g15, .ref g16, .ref g17, .ref g18, .ref g19, .ref g20, .int s21, .ref g22, .ref g23, .ref g24, .int s25, .int s26, .int s27, .int s28, .ref g29, .ref g30, .ref g31, .ref g32, .ref g33])), (g5, .inl (cy 0, 40, .inl f5)), (g6, .inl (cy 0, 40, .inl f6)), (g7, .inl (cy 0, 40, .inl f7)), (g8, .inl (cy 0, 40, .inl f8)), (g10, .inl (cy 2, 40, .inl f10)), (g22, .inl (cy 0, 40, .inl c_g22_15)), (g23, .inl (cy 0, 12, .inl e23_5)), (g24, .inl (cy 0, 12, .inl e24_6))] → va_S A s.heap H locs → lv_has ls 9 [(4, .int x4_15), (3, .int x3_13), (0, .ref mo), (1, .int a1), (2, .int a2)] → W p l e ({ frames := 5, cells := 0, slots := 0, locals := 118 } : Room) s m (([.ref mo, .int a1, .int a2] : List Value).toArray) below meth c H locs 0 0 Q (F0 m 85 ls []) from LOOP_15 ((((n_) : Int)).toNat + 1) a2 n_ c_g22_3 _ _ _ (by omega) (by first | with_reducible assumption | assumption | omega) (by first | with_reducible assumption | assumption | exact ht_.symm) (by first | with_reducible assumption | assumption | omega) (by first | with_reducible assumption | assumption | exact Int.le_refl _) (by first | with_reducible assumption | assumption | (intro h; omega)) (by first | with_reducible assumption | assumption | exact fun _ _ _ => rfl) hP hD hS (lv_sub hl [0, 1, 2, 3, 4] rfl)
                intro n_15
                induction n_15 with
                | zero =>
                  intro x4_15 j2_15 c_g22_15 H locs ls hm v0_15 v1_15 v2_15 v3_15 v4_15 v5_15 hP hD hS hl
                  exact absurd hm (by omega)
                | succ n_15 ih_15 =>
                  intro x4_15 j2_15 c_g22_15 H locs ls hm v0_15 v1_15 v2_15 v3_15 v4_15 v5_15 hP hD hS hl
                  refine lv_iload hx hb dX12_flowOf_85 (lv_at hl 0 rfl) ?_
                  refine lv_iload_n hx hb dX12_flowOf_87 rfl (lv_at hl 3 rfl) ?_
                  refine lv_icmp_eq (tgt := 257) hx hb dX12_flowOf_88 (by decide) (fun c_16 => ?_) (fun c_16 => ?_)
                  · have t_16 : x4_15.toInt = a1.toInt := congrArg Int32.toInt c_16
                    have hdec_ : phi f5 f6 f7 f8 f10 c_g22_15 a1.toInt s4.toNatClampNeg < phi f5 f6 f7 f8 f10 c_g22_3 a1.toInt s4.toNatClampNeg := v4_15 (by omega)
                    refine lv_goto (tgt := 21) hx hb dX12_flowOf_257 (by decide) ?_
                    exact ih_3 c_g22_15 e23_5 e24_6 _ _ _ (by omega) (by first | with_reducible assumption | assumption | omega) (phi_nonneg (by assumption) r_f8 (by omega)) (by first | with_reducible assumption | assumption | exact rng_zero (by omega) (by omega) | exact orng_zero) (by first | with_reducible assumption | assumption | exact rng_zero (by omega) (by omega) | exact orng_zero) hP hD hS (lv_sub hl [2, 3, 4] rfl)
                  · have t_16 : ¬ x4_15.toInt = a1.toInt := fun h => c_16 (Int32.toInt_inj.mp h)
                    have hj2_ : 1 ≤ j2_15 := Nat.pos_of_ne_zero (fun e0 => c_16 (by rw [v1_15, e0]; exact hb_.2.2.1))
                    obtain ⟨i2_, hi2_, hc2_, hl2_⟩ := hb_.2.2.2 j2_15 hj2_ v0_15
                    have hy2_ := hb_.1 j2_15 v0_15
                    have ey5_ : x4_15.toInt = (e23_5 j2_15).toInt := by rw [v1_15]
                    refine lv_aload_n hx hb dX12_flowOf_91 rfl (lv_at hl 2 rfl) ?_
                    refine va_get (ci := 12) (v := .ref g24) (C := RX12) (T := TX12) (N := 34) hx hb hts (fun _ h => List.mem_cons_of_mem _ (List.mem_append_right _ h)) hown hK.1 hP 0 rfl rfl 24 (by decide) (hts (.fieldLink RX12 67 "CutAtlasModel" "cameFrom" "[I") (by decide +kernel)) (fun _ h9 => h9) rfl dX12_flowOf_92 ?_
                    refine lv_iload hx hb dX12_flowOf_95 (lv_at hl 0 rfl) ?_
                    have h_17 : vp_in x4_15 12 := in_I (by omega) (by omega)
                    refine va_iald hx hb hK.1 hP 8 0 rfl rfl (i := x4_15) h_17 dX12_flowOf_97 ?_
                    refine lv_topi (fun y_18 ey_18 => ?_)
                    have ky_18 : y_18.toInt = (e24_6 x4_15.toNatClampNeg).toInt := by rw [ey_18]
                    have ry_18 : 0 ≤ y_18.toInt ∧ y_18.toInt ≤ 11 := by rw [ey_18]; exact g_9 _ (in_lt h_17)
                    have hv2_ : y_18 = e23_5 i2_ := by rw [ey_18, v1_15]; exact hc2_
                    refine lv_istore (lv' := [(5, .int y_18), (4, .int x4_15), (3, .int x3_13), (0, .ref mo), (1, .int a1), (2, .int a2)]) hx hb dX12_flowOf_98 hl (by decide) rfl (fun ls hl => ?_)
                    refine lv_iload_n hx hb dX12_flowOf_100 rfl (lv_at hl 2 rfl) ?_
                    refine lv_istore (lv' := [(6, .int x3_13), (5, .int y_18), (4, .int x4_15), (3, .int x3_13), (0, .ref mo), (1, .int a1), (2, .int a2)]) hx hb dX12_flowOf_101 hl (by decide) rfl (fun ls hl => ?_)
                    have hs_ : 0 < sumI (lfI f5 f6 f7 f8 f10 c_g22_3 y_18.toInt x4_15.toInt) s4.toNatClampNeg := by rw [hv2_, v1_15]; exact hl2_
                    refine lv_iconst (v := 0) hx hb dX12_flowOf_103 (by decide) ?_
                    refine lv_istore (lv' := [(7, .int 0), (6, .int x3_13), (5, .int y_18), (4, .int x4_15), (3, .int x3_13), (0, .ref mo), (1, .int a1), (2, .int a2)]) hx hb dX12_flowOf_104 hl (by decide) rfl (fun ls hl => ?_)
                    suffices LOOP_19 : ∀ (n_19 : Nat) (x7_19 : Int32) (x6_19 : Int32) (c_g22_19 : Nat → Int32) (H : Heap) (locs : List Loc) (ls : Array Slot), s4.toInt - x7_19.toInt < (n_19 : Int) → (0 ≤ x7_19.toInt) → (x7_19.toInt ≤ s4.toInt) → (flOK f5 f8 c_g22_19) → (0 ≤ x6_19.toInt ∧ x6_19.toInt ≤ x3_13.toInt) → (y_18.toInt = a1.toInt → phi f5 f6 f7 f8 f10 c_g22_19 a1.toInt s4.toNatClampNeg = phi f5 f6 f7 f8 f10 c_g22_15 a1.toInt s4.toNatClampNeg - (x3_13.toInt - x6_19.toInt)) → (y_18.toInt ≠ a1.toInt → ∀ j : Nat, ((f6 j).toInt = a1.toInt ∨ (f7 j).toInt = a1.toInt) → c_g22_19 j = c_g22_15 j) → (x6_19.toInt = x3_13.toInt → (∀ j : Nat, (j : Int) < x7_19.toInt → lfI f5 f6 f7 f8 f10 c_g22_15 y_18.toInt x4_15.toInt j ≤ 0) ∧ ∀ j : Nat, c_g22_19 j = c_g22_15 j) → va_P D vwCl [(mo, .inr (12, [.int s0, .int s1, .long t2, .int s3, .int s4, .ref g5, .ref g6, .ref g7, .ref g8, .ref g9, .ref g10, .int s11, .ref g12, .ref g13, .ref g14, .ref g15, .ref g16, .ref g17, .ref g18, .ref g19, .ref g20, .int s21, .ref g22, .ref g23, .ref g24, .int s25, .int s26, .int s27, .int s28, .ref g29, .ref g30, .ref g31, .ref g32, .ref g33])), (g5, .inl (cy 0, 40, .inl f5)), (g6, .inl (cy 0, 40, .inl f6)), (g7, .inl (cy 0, 40, .inl f7)), (g8, .inl (cy 0, 40, .inl f8)), (g10, .inl (cy 2, 40, .inl f10)), (g22, .inl (cy 0, 40, .inl c_g22_19)), (g23, .inl (cy 0, 12, .inl e23_5)), (g24, .inl (cy 0, 12, .inl e24_6))] H → va_D A [(mo, .inr (12, [.int s0, .int s1, .long t2, .int s3, .int s4, .ref g5, .ref g6, .ref g7, .ref g8, .ref g9, .ref g10, .int s11, .ref g12, .ref g13, .ref g14, .ref g15, .ref g16, .ref g17, .ref g18, .ref g19, .ref g20, .int s21, .ref g22, .ref g23, .ref g24, .int s25, .int s26, .int s27, .int s28, .ref g29, .ref g30, .ref g31, .ref g32, .ref g33])), (g5, .inl (cy 0, 40, .inl f5)), (g6, .inl (cy 0, 40, .inl f6)), (g7, .inl (cy 0, 40, .inl f7)), (g8, .inl (cy 0, 40, .inl f8)), (g10, .inl (cy 2, 40, .inl f10)), (g22, .inl (cy 0, 40, .inl c_g22_19)), (g23, .inl (cy 0, 12, .inl e23_5)), (g24, .inl (cy 0, 12, .inl e24_6))] → va_S A s.heap H locs → lv_has ls 9 [(7, .int x7_19), (6, .int x6_19), (5, .int y_18), (4, .int x4_15), (3, .int x3_13), (0, .ref mo), (1, .int a1), (2, .int a2)] → W p l e ({ frames := 5, cells := 0, slots := 0, locals := 118 } : Room) s m (([.ref mo, .int a1, .int a2] : List Value).toArray) below meth c H locs 0 0 Q (F0 m 106 ls []) from LOOP_19 ((s4.toInt - (0 : Int32).toInt).toNat + 1) (0 : Int32) x3_13 c_g22_15 _ _ _ (by omega) (by first | with_reducible assumption | assumption | omega) (by first | with_reducible assumption | assumption | omega) (by first | with_reducible assumption | assumption | omega) (by first | with_reducible assumption | assumption | omega) (by first | with_reducible assumption | assumption | (intro h; omega)) (by first | with_reducible assumption | assumption | exact fun _ _ _ => rfl) (by first | with_reducible assumption | assumption | exact fun _ => ⟨fun j hj => by omega, fun _ => rfl⟩) hP hD hS (lv_sub hl [0, 1, 2, 3, 4, 5, 6, 7] rfl)
                    intro n_19
                    induction n_19 with
                    | zero =>
                      intro x7_19 x6_19 c_g22_19 H locs ls hm v0_19 v1_19 v2_19 v3_19 v4_19 v5_19 v6_19 hP hD hS hl
                      exact absurd hm (by omega)
                    | succ n_19 ih_19 =>
                      intro x7_19 x6_19 c_g22_19 H locs ls hm v0_19 v1_19 v2_19 v3_19 v4_19 v5_19 v6_19 hP hD hS hl
                      refine lv_iload hx hb dX12_flowOf_106 (lv_at hl 0 rfl) ?_
                      refine lv_aload_n hx hb dX12_flowOf_108 rfl (lv_at hl 5 rfl) ?_
                      refine va_get (ci := 12) (v := .int s4) (C := RX12) (T := TX12) (N := 34) hx hb hts (fun _ h => List.mem_cons_of_mem _ (List.mem_append_right _ h)) hown hK.1 hP 0 rfl rfl 4 (by decide) (hts (.fieldLink RX12 95 "CutAtlasModel" "lines" "I") (by decide +kernel)) (fun _ h9 => h9) rfl dX12_flowOf_109 ?_
                      refine lv_icmp_ge (tgt := 245) hx hb dX12_flowOf_112 (by decide) (fun c_20 => ?_) (fun c_20 => ?_)
                      · have t_20 : s4.toInt ≤ x7_19.toInt := Int32.le_iff_toInt_le.mp c_20
                        have hlt_ : y_18.toInt = a1.toInt → x6_19.toInt < x3_13.toInt := fun h => by first | omega | exact endL v6_19 (by omega) (by omega) hs_ (v5_15 (by omega)) h (by omega)
                        have o3_ : phi f5 f6 f7 f8 f10 c_g22_19 a1.toInt s4.toNatClampNeg ≤ phi f5 f6 f7 f8 f10 c_g22_3 a1.toInt s4.toNatClampNeg := (Classical.em (y_18.toInt = a1.toInt)).elim (fun h => by have a := v4_19 h; omega) (fun h => by have a := phi_same (f5 := f5) (f8 := f8) (f10 := f10) (n := s4.toNatClampNeg) (v5_19 h); omega)
                        have o4_ : y_18.toInt = a1.toInt → phi f5 f6 f7 f8 f10 c_g22_19 a1.toInt s4.toNatClampNeg < phi f5 f6 f7 f8 f10 c_g22_3 a1.toInt s4.toNatClampNeg := fun h => by have a := v4_19 h; have b := hlt_ h; omega
                        have o5_ : y_18.toInt ≠ a1.toInt → ∀ j : Nat, ((f6 j).toInt = a1.toInt ∨ (f7 j).toInt = a1.toInt) → c_g22_19 j = c_g22_3 j := fun h j hj => (v5_19 h j hj).trans (v5_15 (by omega) j hj)
                        refine lv_aload_n hx hb dX12_flowOf_245 rfl (lv_at hl 5 rfl) ?_
                        refine va_get (ci := 12) (v := .ref g24) (C := RX12) (T := TX12) (N := 34) hx hb hts (fun _ h => List.mem_cons_of_mem _ (List.mem_append_right _ h)) hown hK.1 hP 0 rfl rfl 24 (by decide) (hts (.fieldLink RX12 67 "CutAtlasModel" "cameFrom" "[I") (by decide +kernel)) (fun _ h9 => h9) rfl dX12_flowOf_246 ?_
                        refine lv_iload hx hb dX12_flowOf_249 (lv_at hl 3 rfl) ?_
                        have h_21 : vp_in x4_15 12 := in_I (by omega) (by omega)
                        refine va_iald hx hb hK.1 hP 8 0 rfl rfl (i := x4_15) h_21 dX12_flowOf_251 ?_
                        refine lv_topi (fun y_22 ey_22 => ?_)
                        have ky_22 : y_22.toInt = (e24_6 x4_15.toNatClampNeg).toInt := by rw [ey_22]
                        have ry_22 : 0 ≤ y_22.toInt ∧ y_22.toInt ≤ 11 := by rw [ey_22]; exact g_9 _ (in_lt h_21)
                        have ex_ : y_18 = y_22 := by rw [ey_22, ey_18]
                        subst ex_
                        refine lv_istore (lv' := [(4, .int y_18), (7, .int x7_19), (6, .int x6_19), (5, .int y_18), (3, .int x3_13), (0, .ref mo), (1, .int a1), (2, .int a2)]) hx hb dX12_flowOf_252 hl (by decide) rfl (fun ls hl => ?_)
                        refine lv_goto (tgt := 85) hx hb dX12_flowOf_254 (by decide) ?_
                        exact ih_15 y_18 i2_ c_g22_19 _ _ _ (by omega) (by first | with_reducible assumption | assumption | omega) (by first | with_reducible assumption | assumption | exact ht_.symm) (by first | with_reducible assumption | assumption | omega) (by first | with_reducible assumption | assumption | exact Int.le_refl _) (by first | with_reducible assumption | assumption | (intro h; omega)) (by first | with_reducible assumption | assumption | exact fun _ _ _ => rfl) hP hD hS (lv_sub hl [0, 4, 5, 6, 7] rfl)
                      · have t_20 : ¬ s4.toInt ≤ x7_19.toInt := fun h => c_20 (Int32.le_iff_toInt_le.mpr h)
                        refine lv_iload hx hb dX12_flowOf_115 (lv_at hl 1 rfl) ?_
                        refine lv_if_le (tgt := 245) hx hb dX12_flowOf_117 (by decide) (fun c_23 => ?_) (fun c_23 => ?_)
                        · have t_23 : x6_19.toInt ≤ (0 : Int32).toInt := Int32.le_iff_toInt_le.mp c_23
                          have hlt_ : y_18.toInt = a1.toInt → x6_19.toInt < x3_13.toInt := fun h => by first | omega | exact endL v6_19 (by omega) (by omega) hs_ (v5_15 (by omega)) h (by omega)
                          have o3_ : phi f5 f6 f7 f8 f10 c_g22_19 a1.toInt s4.toNatClampNeg ≤ phi f5 f6 f7 f8 f10 c_g22_3 a1.toInt s4.toNatClampNeg := (Classical.em (y_18.toInt = a1.toInt)).elim (fun h => by have a := v4_19 h; omega) (fun h => by have a := phi_same (f5 := f5) (f8 := f8) (f10 := f10) (n := s4.toNatClampNeg) (v5_19 h); omega)
                          have o4_ : y_18.toInt = a1.toInt → phi f5 f6 f7 f8 f10 c_g22_19 a1.toInt s4.toNatClampNeg < phi f5 f6 f7 f8 f10 c_g22_3 a1.toInt s4.toNatClampNeg := fun h => by have a := v4_19 h; have b := hlt_ h; omega
                          have o5_ : y_18.toInt ≠ a1.toInt → ∀ j : Nat, ((f6 j).toInt = a1.toInt ∨ (f7 j).toInt = a1.toInt) → c_g22_19 j = c_g22_3 j := fun h j hj => (v5_19 h j hj).trans (v5_15 (by omega) j hj)
                          refine lv_aload_n hx hb dX12_flowOf_245 rfl (lv_at hl 5 rfl) ?_
                          refine va_get (ci := 12) (v := .ref g24) (C := RX12) (T := TX12) (N := 34) hx hb hts (fun _ h => List.mem_cons_of_mem _ (List.mem_append_right _ h)) hown hK.1 hP 0 rfl rfl 24 (by decide) (hts (.fieldLink RX12 67 "CutAtlasModel" "cameFrom" "[I") (by decide +kernel)) (fun _ h9 => h9) rfl dX12_flowOf_246 ?_
                          refine lv_iload hx hb dX12_flowOf_249 (lv_at hl 3 rfl) ?_
                          have h_24 : vp_in x4_15 12 := in_I (by omega) (by omega)
                          refine va_iald hx hb hK.1 hP 8 0 rfl rfl (i := x4_15) h_24 dX12_flowOf_251 ?_
                          refine lv_topi (fun y_25 ey_25 => ?_)
                          have ky_25 : y_25.toInt = (e24_6 x4_15.toNatClampNeg).toInt := by rw [ey_25]
                          have ry_25 : 0 ≤ y_25.toInt ∧ y_25.toInt ≤ 11 := by rw [ey_25]; exact g_9 _ (in_lt h_24)
                          have ex_ : y_18 = y_25 := by rw [ey_25, ey_18]
                          subst ex_
                          refine lv_istore (lv' := [(4, .int y_18), (7, .int x7_19), (6, .int x6_19), (5, .int y_18), (3, .int x3_13), (0, .ref mo), (1, .int a1), (2, .int a2)]) hx hb dX12_flowOf_252 hl (by decide) rfl (fun ls hl => ?_)
                          refine lv_goto (tgt := 85) hx hb dX12_flowOf_254 (by decide) ?_
                          exact ih_15 y_18 i2_ c_g22_19 _ _ _ (by omega) (by first | with_reducible assumption | assumption | omega) (by first | with_reducible assumption | assumption | exact ht_.symm) (by first | with_reducible assumption | assumption | omega) (by first | with_reducible assumption | assumption | exact Int.le_refl _) (by first | with_reducible assumption | assumption | (intro h; omega)) (by first | with_reducible assumption | assumption | exact fun _ _ _ => rfl) hP hD hS (lv_sub hl [0, 4, 5, 6, 7] rfl)
                        · have t_23 : ¬ x6_19.toInt ≤ (0 : Int32).toInt := fun h => c_23 (Int32.le_iff_toInt_le.mpr h)
                          refine lv_aload_n hx hb dX12_flowOf_120 rfl (lv_at hl 5 rfl) ?_
                          refine lv_iload hx hb dX12_flowOf_121 (lv_at hl 0 rfl) ?_
                          refine lv_iload hx hb dX12_flowOf_123 (lv_at hl 2 rfl) ?_
                          refine lv_iload hx hb dX12_flowOf_125 (lv_at hl 3 rfl) ?_
                          refine ct_R hP hD [(mo, .inr (12, [.int s0, .int s1, .long t2, .int s3, .int s4, .ref g5, .ref g6, .ref g7, .ref g8, .ref g9, .ref g10, .int s11, .ref g12, .ref g13, .ref g14, .ref g15, .ref g16, .ref g17, .ref g18, .ref g19, .ref g20, .int s21, .ref g22, .ref g23, .ref g24, .int s25, .int s26, .int s27, .int s28, .ref g29, .ref g30, .ref g31, .ref g32, .ref g33])), (g5, .inl (cy 0, 40, .inl f5)), (g6, .inl (cy 0, 40, .inl f6)), (g7, .inl (cy 0, 40, .inl f7)), (g8, .inl (cy 0, 40, .inl f8)), (g10, .inl (cy 2, 40, .inl f10)), (g22, .inl (cy 0, 40, .inl c_g22_19))] [0, 1, 2, 3, 4, 5, 6] (by decide) rfl (fun hPc hDw => ?_)
                          have hFc := va_free (wc := []) hD hS hA [] rfl
                          refine va_calli (va_runV (As := [.int x7_19, .int y_18, .int x4_15]) (rest := []) ⟨hx, hb, hml, hown, hts⟩ (c_X12_left l D cy H.size mo g5 g6 g7 g8 g9 g10 g12 g13 g14 g15 g16 g17 g18 g19 g20 g22 g23 g24 g29 g30 g31 g32 g33 s0 s1 s3 s4 s11 s21 s25 s26 s27 s28 t2 f5 f6 f7 f8 f10 c_g22_19 x7_19 y_18 x4_15 (by first | with_reducible assumption | assumption | omega) (by first | with_reducible assumption | assumption | omega) (by first | with_reducible assumption | assumption | omega) (by first | with_reducible assumption | assumption | omega)) (cwV 3 hts gX12_flowOf_X12_left rfl rfl rfl (by decide +kernel) ⟨Nat.le_of_ble_eq_true rfl, Nat.le_of_ble_eq_true rfl⟩) ⟨bl_, va_recvX hK.1 hP (ci := 12) (q0 := 0) rfl rfl, fun U hU hW => ⟨rfl, by rw [hU], by rw [hU]; exact hPc, kk_mv hW hK, hDw⟩⟩ rfl rfl hl.1 rfl (lv_room (Nat.le_of_ble_eq_true rfl)) dX12_flowOf_127 ⟨Nat.le_of_ble_eq_true rfl, Nat.le_of_ble_eq_true rfl⟩) hS (fun q _ h => hFc q h) hFc (fun r_26 u t H locs ht hvm hw hB hz1 hk1 hS => ?_)
                          have hP : va_P D vwCl _ H := ro_keep hP hk1
                          have f0_r_26 := hw
                          have hlf_ := f0_r_26
                          have hlr_ := lfI_rng (f6 := f6) (f7 := f7) (f10 := f10) v2_19 r_f8 (j := x7_19.toNatClampNeg) (in_lt (in_I (i := x7_19) (n := 40) (by omega) (by omega))) y_18.toInt x4_15.toInt
                          refine lv_istore (lv' := [(8, .int r_26), (7, .int x7_19), (6, .int x6_19), (5, .int y_18), (4, .int x4_15), (3, .int x3_13), (0, .ref mo), (1, .int a1), (2, .int a2)]) hx hb dX12_flowOf_130 hl (by decide) rfl (fun ls hl => ?_)
                          have JOIN_27 : ∀ (u0_27 : Int32) (H : Heap) (locs : List Loc) (ls : Array Slot), (0 ≤ u0_27.toInt ∧ u0_27.toInt ≤ lfI f5 f6 f7 f8 f10 c_g22_19 y_18.toInt x4_15.toInt x7_19.toNatClampNeg ∧ u0_27.toInt ≤ x6_19.toInt ∧ (u0_27.toInt = lfI f5 f6 f7 f8 f10 c_g22_19 y_18.toInt x4_15.toInt x7_19.toNatClampNeg ∨ u0_27.toInt = x6_19.toInt)) → va_P D vwCl [(mo, .inr (12, [.int s0, .int s1, .long t2, .int s3, .int s4, .ref g5, .ref g6, .ref g7, .ref g8, .ref g9, .ref g10, .int s11, .ref g12, .ref g13, .ref g14, .ref g15, .ref g16, .ref g17, .ref g18, .ref g19, .ref g20, .int s21, .ref g22, .ref g23, .ref g24, .int s25, .int s26, .int s27, .int s28, .ref g29, .ref g30, .ref g31, .ref g32, .ref g33])), (g5, .inl (cy 0, 40, .inl f5)), (g6, .inl (cy 0, 40, .inl f6)), (g7, .inl (cy 0, 40, .inl f7)), (g8, .inl (cy 0, 40, .inl f8)), (g10, .inl (cy 2, 40, .inl f10)), (g22, .inl (cy 0, 40, .inl c_g22_19)), (g23, .inl (cy 0, 12, .inl e23_5)), (g24, .inl (cy 0, 12, .inl e24_6))] H → va_D A [(mo, .inr (12, [.int s0, .int s1, .long t2, .int s3, .int s4, .ref g5, .ref g6, .ref g7, .ref g8, .ref g9, .ref g10, .int s11, .ref g12, .ref g13, .ref g14, .ref g15, .ref g16, .ref g17, .ref g18, .ref g19, .ref g20, .int s21, .ref g22, .ref g23, .ref g24, .int s25, .int s26, .int s27, .int s28, .ref g29, .ref g30, .ref g31, .ref g32, .ref g33])), (g5, .inl (cy 0, 40, .inl f5)), (g6, .inl (cy 0, 40, .inl f6)), (g7, .inl (cy 0, 40, .inl f7)), (g8, .inl (cy 0, 40, .inl f8)), (g10, .inl (cy 2, 40, .inl f10)), (g22, .inl (cy 0, 40, .inl c_g22_19)), (g23, .inl (cy 0, 12, .inl e23_5)), (g24, .inl (cy 0, 12, .inl e24_6))] → va_S A s.heap H locs → lv_has ls 9 [(8, .int r_26), (7, .int x7_19), (6, .int x6_19), (5, .int y_18), (4, .int x4_15), (3, .int x3_13), (0, .ref mo), (1, .int a1), (2, .int a2)] → W p l e ({ frames := 5, cells := 0, slots := 0, locals := 118 } : Room) s m (([.ref mo, .int a1, .int a2] : List Value).toArray) below meth c H locs 0 0 Q (F0 m 146 ls [.int u0_27]) := by
                            intro u0_27 H locs ls v0_27 hP hD hS hl
                            refine lv_istore (lv' := [(8, .int u0_27), (7, .int x7_19), (6, .int x6_19), (5, .int y_18), (4, .int x4_15), (3, .int x3_13), (0, .ref mo), (1, .int a1), (2, .int a2)]) hx hb dX12_flowOf_146 hl (by decide) rfl (fun ls hl => ?_)
                            have hb6_ := Int32.toInt_lt x6_19
                            have hfb_ := v2_19 _ (in_lt (in_I (i := x7_19) (n := 40) (by omega) (by omega)))
                            have hw8_ := r_f8 _ (in_lt (in_I (i := x7_19) (n := 40) (by omega) (by omega)))
                            have w1_ := rmI_rng (k := f5 x7_19.toNatClampNeg) (b := 1) hw8_.1 hw8_.2
                            have w0_ := rmI_rng (k := f5 x7_19.toNatClampNeg) (b := 0) hw8_.1 hw8_.2
                            refine lv_aload_n hx hb dX12_flowOf_148 rfl (lv_at hl 6 rfl) ?_
                            refine va_get (ci := 12) (v := .ref g22) (C := RX12) (T := TX12) (N := 34) hx hb hts (fun _ h => List.mem_cons_of_mem _ (List.mem_append_right _ h)) hown hK.1 hP 0 rfl rfl 22 (by decide) (hts (.fieldLink RX12 61 "CutAtlasModel" "flows" "[I") (by decide +kernel)) (fun _ h9 => h9) rfl dX12_flowOf_149 ?_
                            refine lv_iload hx hb dX12_flowOf_152 (lv_at hl 1 rfl) ?_
                            refine lv_dup2_11 hx hb dX12_flowOf_154 rfl rfl ?_
                            have h_28 : vp_in x7_19 40 := in_I (by omega) (by omega)
                            refine va_iald hx hb hK.1 hP 6 0 rfl rfl (i := x7_19) h_28 dX12_flowOf_155 ?_
                            refine lv_topi (fun y_29 ey_29 => ?_)
                            have ky_29 : y_29.toInt = (c_g22_19 x7_19.toNatClampNeg).toInt := by rw [ey_29]
                            have JOIN_30 : ∀ (u0_30 : Int32) (H : Heap) (locs : List Loc) (ls : Array Slot), (u0_30.toInt = (if (f10 x7_19.toNatClampNeg).toInt ≠ 0 then 0 else if (f6 x7_19.toNatClampNeg).toInt = y_18.toInt ∧ (f7 x7_19.toNatClampNeg).toInt = x4_15.toInt then u0_27.toInt else if (f6 x7_19.toNatClampNeg).toInt = x4_15.toInt ∧ (f7 x7_19.toNatClampNeg).toInt = y_18.toInt then -u0_27.toInt else 0)) → va_P D vwCl [(mo, .inr (12, [.int s0, .int s1, .long t2, .int s3, .int s4, .ref g5, .ref g6, .ref g7, .ref g8, .ref g9, .ref g10, .int s11, .ref g12, .ref g13, .ref g14, .ref g15, .ref g16, .ref g17, .ref g18, .ref g19, .ref g20, .int s21, .ref g22, .ref g23, .ref g24, .int s25, .int s26, .int s27, .int s28, .ref g29, .ref g30, .ref g31, .ref g32, .ref g33])), (g5, .inl (cy 0, 40, .inl f5)), (g6, .inl (cy 0, 40, .inl f6)), (g7, .inl (cy 0, 40, .inl f7)), (g8, .inl (cy 0, 40, .inl f8)), (g10, .inl (cy 2, 40, .inl f10)), (g22, .inl (cy 0, 40, .inl c_g22_19)), (g23, .inl (cy 0, 12, .inl e23_5)), (g24, .inl (cy 0, 12, .inl e24_6))] H → va_D A [(mo, .inr (12, [.int s0, .int s1, .long t2, .int s3, .int s4, .ref g5, .ref g6, .ref g7, .ref g8, .ref g9, .ref g10, .int s11, .ref g12, .ref g13, .ref g14, .ref g15, .ref g16, .ref g17, .ref g18, .ref g19, .ref g20, .int s21, .ref g22, .ref g23, .ref g24, .int s25, .int s26, .int s27, .int s28, .ref g29, .ref g30, .ref g31, .ref g32, .ref g33])), (g5, .inl (cy 0, 40, .inl f5)), (g6, .inl (cy 0, 40, .inl f6)), (g7, .inl (cy 0, 40, .inl f7)), (g8, .inl (cy 0, 40, .inl f8)), (g10, .inl (cy 2, 40, .inl f10)), (g22, .inl (cy 0, 40, .inl c_g22_19)), (g23, .inl (cy 0, 12, .inl e23_5)), (g24, .inl (cy 0, 12, .inl e24_6))] → va_S A s.heap H locs → lv_has ls 9 [(8, .int u0_27), (7, .int x7_19), (6, .int x6_19), (5, .int y_18), (4, .int x4_15), (3, .int x3_13), (0, .ref mo), (1, .int a1), (2, .int a2)] → W p l e ({ frames := 5, cells := 0, slots := 0, locals := 118 } : Room) s m (([.ref mo, .int a1, .int a2] : List Value).toArray) below meth c H locs 0 0 Q (F0 m 230 ls [.int u0_30, .int y_29, .int x7_19, .ref g22]) := by
                              intro u0_30 H locs ls v0_30 hP hD hS hl
                              have hu_ : -2000000 ≤ u0_30.toInt ∧ u0_30.toInt ≤ 2000000 := by rw [v0_30]; (repeat' split) <;> omega
                              refine lv_iadd hx hb dX12_flowOf_230 ?_
                              refine lv_topi (fun y_31 ey_31 => ?_)
                              have ty_31 : y_31.toInt = y_29.toInt + u0_30.toInt := by rw [ey_31]; exact addI (by omega) (by omega)
                              have h_32 : vp_in x7_19 40 := in_I (by omega) (by omega)
                              refine va_iast hx hb hK.1 hP hD hS 6 0 rfl rfl (i := x7_19) h_32 dX12_flowOf_231 (fun H locs hP hD hS => ?_)
                              obtain ⟨f_33, ef_33⟩ : ∃ g : Nat → Int32, g = upd c_g22_19 x7_19.toNatClampNeg y_31 := ⟨_, rfl⟩
                              have hP : va_P D vwCl [(mo, .inr (12, [.int s0, .int s1, .long t2, .int s3, .int s4, .ref g5, .ref g6, .ref g7, .ref g8, .ref g9, .ref g10, .int s11, .ref g12, .ref g13, .ref g14, .ref g15, .ref g16, .ref g17, .ref g18, .ref g19, .ref g20, .int s21, .ref g22, .ref g23, .ref g24, .int s25, .int s26, .int s27, .int s28, .ref g29, .ref g30, .ref g31, .ref g32, .ref g33])), (g5, .inl (cy 0, 40, .inl f5)), (g6, .inl (cy 0, 40, .inl f6)), (g7, .inl (cy 0, 40, .inl f7)), (g8, .inl (cy 0, 40, .inl f8)), (g10, .inl (cy 2, 40, .inl f10)), (g22, .inl (cy 0, 40, .inl f_33)), (g23, .inl (cy 0, 12, .inl e23_5)), (g24, .inl (cy 0, 12, .inl e24_6))] H := by rw [ef_33]; exact hP
                              have hD : va_D A [(mo, .inr (12, [.int s0, .int s1, .long t2, .int s3, .int s4, .ref g5, .ref g6, .ref g7, .ref g8, .ref g9, .ref g10, .int s11, .ref g12, .ref g13, .ref g14, .ref g15, .ref g16, .ref g17, .ref g18, .ref g19, .ref g20, .int s21, .ref g22, .ref g23, .ref g24, .int s25, .int s26, .int s27, .int s28, .ref g29, .ref g30, .ref g31, .ref g32, .ref g33])), (g5, .inl (cy 0, 40, .inl f5)), (g6, .inl (cy 0, 40, .inl f6)), (g7, .inl (cy 0, 40, .inl f7)), (g8, .inl (cy 0, 40, .inl f8)), (g10, .inl (cy 2, 40, .inl f10)), (g22, .inl (cy 0, 40, .inl f_33)), (g23, .inl (cy 0, 12, .inl e23_5)), (g24, .inl (cy 0, 12, .inl e24_6))] := by rw [ef_33]; exact hD
                              have st_ := stepL (f6 := f6) (f7 := f7) (f10 := f10) (F := c_g22_19) (F2 := f_33) (l := x7_19) (x := y_18.toInt) (y := x4_15.toInt) (s := a1.toInt) (N := s4.toNatClampNeg) (n := u0_27.toInt) (by assumption) (by omega) (by omega) (by omega) v2_19 r_f8 (by omega) (by omega) (by rw [← v0_30]; omega) (by omega)
                              refine lv_iload hx hb dX12_flowOf_232 (lv_at hl 2 rfl) ?_
                              refine lv_iload hx hb dX12_flowOf_234 (lv_at hl 0 rfl) ?_
                              refine lv_isub hx hb dX12_flowOf_236 ?_
                              refine lv_topi (fun y_34 ey_34 => ?_)
                              have ty_34 : y_34.toInt = x6_19.toInt - u0_27.toInt := by rw [ey_34]; exact subI (by omega) (by omega)
                              refine lv_istore (lv' := [(6, .int y_34), (8, .int u0_27), (7, .int x7_19), (5, .int y_18), (4, .int x4_15), (3, .int x3_13), (0, .ref mo), (1, .int a1), (2, .int a2)]) hx hb dX12_flowOf_237 hl (by decide) rfl (fun ls hl => ?_)
                              obtain ⟨y_35, ey_35⟩ : ∃ y : Int32, y = x7_19 + 1 := ⟨_, rfl⟩
                              have ty_35 : y_35.toInt = x7_19.toInt + (1 : Int32).toInt := by rw [ey_35]; exact addI (by omega) (by omega)
                              refine lv_iinc (v := y_35) (lv' := [(7, .int y_35), (6, .int y_34), (8, .int u0_27), (5, .int y_18), (4, .int x4_15), (3, .int x3_13), (0, .ref mo), (1, .int a1), (2, .int a2)]) hx hb dX12_flowOf_239 hl (k := 2) rfl (by rw [ey_35]; rfl) (by decide) rfl (fun ls hl => ?_)
                              have w2_ : flOK f5 f8 f_33 := st_.1
                              have w4_ : y_18.toInt = a1.toInt → phi f5 f6 f7 f8 f10 f_33 a1.toInt s4.toNatClampNeg = phi f5 f6 f7 f8 f10 c_g22_15 a1.toInt s4.toNatClampNeg - (x3_13.toInt - y_34.toInt) := fun h => by have a := v4_19 h; have b := st_.2.1 h; omega
                              have w5_ : y_18.toInt ≠ a1.toInt → ∀ j : Nat, ((f6 j).toInt = a1.toInt ∨ (f7 j).toInt = a1.toInt) → f_33 j = c_g22_15 j := fun h j hj => (st_.2.2.1 h j hj).trans (v5_19 h j hj)
                              have w6_ : y_34.toInt = x3_13.toInt → (∀ j : Nat, (j : Int) < y_35.toInt → lfI f5 f6 f7 f8 f10 c_g22_15 y_18.toInt x4_15.toInt j ≤ 0) ∧ ∀ j : Nat, f_33 j = c_g22_15 j := fun h => by have q := v6_19 (by omega); have z : u0_27.toInt = 0 := (by omega); exact ⟨sixL q.1 (by omega) (by omega) (by rw [lfI_same (a := c_g22_15) (b := c_g22_19) (fun _ => (q.2 _).symm)]; omega), fun j => (st_.2.2.2 z j).trans (q.2 j)⟩
                              refine lv_goto (tgt := 106) hx hb dX12_flowOf_242 (by decide) ?_
                              exact ih_19 y_35 y_34 f_33 _ _ _ (by omega) (by first | with_reducible assumption | assumption | omega) (by first | with_reducible assumption | assumption | omega) (by first | with_reducible assumption | assumption | omega) (by first | with_reducible assumption | assumption | omega) (by first | with_reducible assumption | assumption | (intro h; omega)) (by first | with_reducible assumption | assumption | exact fun _ _ _ => rfl) (by first | with_reducible assumption | assumption | exact fun _ => ⟨fun j hj => by omega, fun _ => rfl⟩) hP hD hS (lv_sub hl [0, 1, 3, 4, 5, 6, 7, 8] rfl)
                            refine lv_aload_n hx hb dX12_flowOf_156 rfl (lv_at hl 6 rfl) ?_
                            refine va_get (ci := 12) (v := .ref g10) (C := RX12) (T := TX12) (N := 34) hx hb hts (fun _ h => List.mem_cons_of_mem _ (List.mem_append_right _ h)) hown hK.1 hP 0 rfl rfl 10 (by decide) (hts (.fieldLink RX12 25 "CutAtlasModel" "isMissing" "[Z") (by decide +kernel)) (fun _ h9 => h9) rfl dX12_flowOf_157 ?_
                            refine lv_iload hx hb dX12_flowOf_160 (lv_at hl 1 rfl) ?_
                            have h_36 : vp_in x7_19 40 := in_I (by omega) (by omega)
                            refine va_zald hx hb hK.1 hP 5 2 rfl rfl (i := x7_19) h_36 dX12_flowOf_162 ?_
                            refine lv_topi (fun y_37 ey_37 => ?_)
                            have ky_37 : y_37.toInt = (f10 x7_19.toNatClampNeg).toInt := by rw [ey_37]
                            refine lv_if_eq (tgt := 170) hx hb dX12_flowOf_163 (by decide) (fun c_38 => ?_) (fun c_38 => ?_)
                            · have t_38 : y_37.toInt = (0 : Int32).toInt := congrArg Int32.toInt c_38
                              refine lv_aload_n hx hb dX12_flowOf_170 rfl (lv_at hl 6 rfl) ?_
                              refine va_get (ci := 12) (v := .ref g6) (C := RX12) (T := TX12) (N := 34) hx hb hts (fun _ h => List.mem_cons_of_mem _ (List.mem_append_right _ h)) hown hK.1 hP 0 rfl rfl 6 (by decide) (hts (.fieldLink RX12 13 "CutAtlasModel" "from" "[I") (by decide +kernel)) (fun _ h9 => h9) rfl dX12_flowOf_171 ?_
                              refine lv_iload hx hb dX12_flowOf_174 (lv_at hl 1 rfl) ?_
                              have h_39 : vp_in x7_19 40 := in_I (by omega) (by omega)
                              refine va_iald hx hb hK.1 hP 2 0 rfl rfl (i := x7_19) h_39 dX12_flowOf_176 ?_
                              refine lv_topi (fun y_40 ey_40 => ?_)
                              have ky_40 : y_40.toInt = (f6 x7_19.toNatClampNeg).toInt := by rw [ey_40]
                              refine lv_iload hx hb dX12_flowOf_177 (lv_at hl 3 rfl) ?_
                              refine lv_icmp_ne (tgt := 199) hx hb dX12_flowOf_179 (by decide) (fun c_41 => ?_) (fun c_41 => ?_)
                              · have t_41 : ¬ y_40.toInt = y_18.toInt := fun h => c_41 (Int32.toInt_inj.mp h)
                                refine lv_aload_n hx hb dX12_flowOf_199 rfl (lv_at hl 6 rfl) ?_
                                refine va_get (ci := 12) (v := .ref g6) (C := RX12) (T := TX12) (N := 34) hx hb hts (fun _ h => List.mem_cons_of_mem _ (List.mem_append_right _ h)) hown hK.1 hP 0 rfl rfl 6 (by decide) (hts (.fieldLink RX12 13 "CutAtlasModel" "from" "[I") (by decide +kernel)) (fun _ h9 => h9) rfl dX12_flowOf_200 ?_
                                refine lv_iload hx hb dX12_flowOf_203 (lv_at hl 1 rfl) ?_
                                have h_42 : vp_in x7_19 40 := in_I (by omega) (by omega)
                                refine va_iald hx hb hK.1 hP 2 0 rfl rfl (i := x7_19) h_42 dX12_flowOf_205 ?_
                                refine lv_topi (fun y_43 ey_43 => ?_)
                                have e_ := (ey_43.trans ey_40.symm).symm
                                subst e_
                                skip
                                refine lv_iload hx hb dX12_flowOf_206 (lv_at hl 4 rfl) ?_
                                refine lv_icmp_ne (tgt := 229) hx hb dX12_flowOf_208 (by decide) (fun c_44 => ?_) (fun c_44 => ?_)
                                · have t_44 : ¬ y_40.toInt = x4_15.toInt := fun h => c_44 (Int32.toInt_inj.mp h)
                                  refine lv_iconst (v := 0) hx hb dX12_flowOf_229 (by decide) ?_
                                  exact JOIN_30 (0 : Int32) _ _ _ (by (repeat' split) <;> omega) hP hD hS (lv_sub hl [0, 1, 2, 3, 4, 5, 6, 7, 8] rfl)
                                · have t_44 : y_40.toInt = x4_15.toInt := congrArg Int32.toInt c_44
                                  refine lv_aload_n hx hb dX12_flowOf_211 rfl (lv_at hl 6 rfl) ?_
                                  refine va_get (ci := 12) (v := .ref g7) (C := RX12) (T := TX12) (N := 34) hx hb hts (fun _ h => List.mem_cons_of_mem _ (List.mem_append_right _ h)) hown hK.1 hP 0 rfl rfl 7 (by decide) (hts (.fieldLink RX12 16 "CutAtlasModel" "to" "[I") (by decide +kernel)) (fun _ h9 => h9) rfl dX12_flowOf_212 ?_
                                  refine lv_iload hx hb dX12_flowOf_215 (lv_at hl 1 rfl) ?_
                                  have h_45 : vp_in x7_19 40 := in_I (by omega) (by omega)
                                  refine va_iald hx hb hK.1 hP 3 0 rfl rfl (i := x7_19) h_45 dX12_flowOf_217 ?_
                                  refine lv_topi (fun y_46 ey_46 => ?_)
                                  have ky_46 : y_46.toInt = (f7 x7_19.toNatClampNeg).toInt := by rw [ey_46]
                                  refine lv_iload hx hb dX12_flowOf_218 (lv_at hl 3 rfl) ?_
                                  refine lv_icmp_ne (tgt := 229) hx hb dX12_flowOf_220 (by decide) (fun c_47 => ?_) (fun c_47 => ?_)
                                  · have t_47 : ¬ y_46.toInt = y_18.toInt := fun h => c_47 (Int32.toInt_inj.mp h)
                                    refine lv_iconst (v := 0) hx hb dX12_flowOf_229 (by decide) ?_
                                    exact JOIN_30 (0 : Int32) _ _ _ (by (repeat' split) <;> omega) hP hD hS (lv_sub hl [0, 1, 2, 3, 4, 5, 6, 7, 8] rfl)
                                  · have t_47 : y_46.toInt = y_18.toInt := congrArg Int32.toInt c_47
                                    refine lv_iload hx hb dX12_flowOf_223 (lv_at hl 0 rfl) ?_
                                    refine lv_ineg hx hb dX12_flowOf_225 ?_
                                    refine lv_topi (fun y_48 ey_48 => ?_)
                                    have ty_48 : y_48.toInt = - u0_27.toInt := by rw [ey_48]; exact negI (by omega)
                                    refine lv_goto (tgt := 230) hx hb dX12_flowOf_226 (by decide) ?_
                                    exact JOIN_30 y_48 _ _ _ (by (repeat' split) <;> omega) hP hD hS (lv_sub hl [0, 1, 2, 3, 4, 5, 6, 7, 8] rfl)
                              · have t_41 : y_40.toInt = y_18.toInt := congrArg Int32.toInt c_41
                                refine lv_aload_n hx hb dX12_flowOf_182 rfl (lv_at hl 6 rfl) ?_
                                refine va_get (ci := 12) (v := .ref g7) (C := RX12) (T := TX12) (N := 34) hx hb hts (fun _ h => List.mem_cons_of_mem _ (List.mem_append_right _ h)) hown hK.1 hP 0 rfl rfl 7 (by decide) (hts (.fieldLink RX12 16 "CutAtlasModel" "to" "[I") (by decide +kernel)) (fun _ h9 => h9) rfl dX12_flowOf_183 ?_
                                refine lv_iload hx hb dX12_flowOf_186 (lv_at hl 1 rfl) ?_
                                have h_49 : vp_in x7_19 40 := in_I (by omega) (by omega)
                                refine va_iald hx hb hK.1 hP 3 0 rfl rfl (i := x7_19) h_49 dX12_flowOf_188 ?_
                                refine lv_topi (fun y_50 ey_50 => ?_)
                                have ky_50 : y_50.toInt = (f7 x7_19.toNatClampNeg).toInt := by rw [ey_50]
                                refine lv_iload hx hb dX12_flowOf_189 (lv_at hl 4 rfl) ?_
                                refine lv_icmp_ne (tgt := 199) hx hb dX12_flowOf_191 (by decide) (fun c_51 => ?_) (fun c_51 => ?_)
                                · have t_51 : ¬ y_50.toInt = x4_15.toInt := fun h => c_51 (Int32.toInt_inj.mp h)
                                  refine lv_aload_n hx hb dX12_flowOf_199 rfl (lv_at hl 6 rfl) ?_
                                  refine va_get (ci := 12) (v := .ref g6) (C := RX12) (T := TX12) (N := 34) hx hb hts (fun _ h => List.mem_cons_of_mem _ (List.mem_append_right _ h)) hown hK.1 hP 0 rfl rfl 6 (by decide) (hts (.fieldLink RX12 13 "CutAtlasModel" "from" "[I") (by decide +kernel)) (fun _ h9 => h9) rfl dX12_flowOf_200 ?_
                                  refine lv_iload hx hb dX12_flowOf_203 (lv_at hl 1 rfl) ?_
                                  have h_52 : vp_in x7_19 40 := in_I (by omega) (by omega)
                                  refine va_iald hx hb hK.1 hP 2 0 rfl rfl (i := x7_19) h_52 dX12_flowOf_205 ?_
                                  refine lv_topi (fun y_53 ey_53 => ?_)
                                  have e_ := (ey_53.trans ey_40.symm).symm
                                  subst e_
                                  skip
                                  refine lv_iload hx hb dX12_flowOf_206 (lv_at hl 4 rfl) ?_
                                  refine lv_icmp_ne (tgt := 229) hx hb dX12_flowOf_208 (by decide) (fun c_54 => ?_) (fun c_54 => ?_)
                                  · have t_54 : ¬ y_40.toInt = x4_15.toInt := fun h => c_54 (Int32.toInt_inj.mp h)
                                    refine lv_iconst (v := 0) hx hb dX12_flowOf_229 (by decide) ?_
                                    exact JOIN_30 (0 : Int32) _ _ _ (by (repeat' split) <;> omega) hP hD hS (lv_sub hl [0, 1, 2, 3, 4, 5, 6, 7, 8] rfl)
                                  · have t_54 : y_40.toInt = x4_15.toInt := congrArg Int32.toInt c_54
                                    refine lv_aload_n hx hb dX12_flowOf_211 rfl (lv_at hl 6 rfl) ?_
                                    refine va_get (ci := 12) (v := .ref g7) (C := RX12) (T := TX12) (N := 34) hx hb hts (fun _ h => List.mem_cons_of_mem _ (List.mem_append_right _ h)) hown hK.1 hP 0 rfl rfl 7 (by decide) (hts (.fieldLink RX12 16 "CutAtlasModel" "to" "[I") (by decide +kernel)) (fun _ h9 => h9) rfl dX12_flowOf_212 ?_
                                    refine lv_iload hx hb dX12_flowOf_215 (lv_at hl 1 rfl) ?_
                                    have h_55 : vp_in x7_19 40 := in_I (by omega) (by omega)
                                    refine va_iald hx hb hK.1 hP 3 0 rfl rfl (i := x7_19) h_55 dX12_flowOf_217 ?_
                                    refine lv_topi (fun y_56 ey_56 => ?_)
                                    have e_ := (ey_56.trans ey_50.symm).symm
                                    subst e_
                                    skip
                                    refine lv_iload hx hb dX12_flowOf_218 (lv_at hl 3 rfl) ?_
                                    refine lv_icmp_ne (tgt := 229) hx hb dX12_flowOf_220 (by decide) (fun c_57 => ?_) (fun c_57 => ?_)
                                    · have t_57 : ¬ y_50.toInt = y_18.toInt := fun h => c_57 (Int32.toInt_inj.mp h)
                                      refine lv_iconst (v := 0) hx hb dX12_flowOf_229 (by decide) ?_
                                      exact JOIN_30 (0 : Int32) _ _ _ (by (repeat' split) <;> omega) hP hD hS (lv_sub hl [0, 1, 2, 3, 4, 5, 6, 7, 8] rfl)
                                    · have t_57 : y_50.toInt = y_18.toInt := congrArg Int32.toInt c_57
                                      refine lv_iload hx hb dX12_flowOf_223 (lv_at hl 0 rfl) ?_
                                      refine lv_ineg hx hb dX12_flowOf_225 ?_
                                      refine lv_topi (fun y_58 ey_58 => ?_)
                                      have ty_58 : y_58.toInt = - u0_27.toInt := by rw [ey_58]; exact negI (by omega)
                                      refine lv_goto (tgt := 230) hx hb dX12_flowOf_226 (by decide) ?_
                                      exact JOIN_30 y_58 _ _ _ (by (repeat' split) <;> omega) hP hD hS (lv_sub hl [0, 1, 2, 3, 4, 5, 6, 7, 8] rfl)
                                · have t_51 : y_50.toInt = x4_15.toInt := congrArg Int32.toInt c_51
                                  refine lv_iload hx hb dX12_flowOf_194 (lv_at hl 0 rfl) ?_
                                  refine lv_goto (tgt := 230) hx hb dX12_flowOf_196 (by decide) ?_
                                  exact JOIN_30 u0_27 _ _ _ (by (repeat' split) <;> omega) hP hD hS (lv_sub hl [0, 1, 2, 3, 4, 5, 6, 7, 8] rfl)
                            · have t_38 : ¬ y_37.toInt = (0 : Int32).toInt := fun h => c_38 (Int32.toInt_inj.mp h)
                              refine lv_iconst (v := 0) hx hb dX12_flowOf_166 (by decide) ?_
                              refine lv_goto (tgt := 230) hx hb dX12_flowOf_167 (by decide) ?_
                              exact JOIN_30 (0 : Int32) _ _ _ (by (repeat' split) <;> omega) hP hD hS (lv_sub hl [0, 1, 2, 3, 4, 5, 6, 7, 8] rfl)
                          refine lv_iload hx hb dX12_flowOf_132 (lv_at hl 0 rfl) ?_
                          refine lv_iload hx hb dX12_flowOf_134 (lv_at hl 2 rfl) ?_
                          refine lv_icmp_ge (tgt := 144) hx hb dX12_flowOf_136 (by decide) (fun c_59 => ?_) (fun c_59 => ?_)
                          · have t_59 : x6_19.toInt ≤ r_26.toInt := Int32.le_iff_toInt_le.mp c_59
                            refine lv_iload hx hb dX12_flowOf_144 (lv_at hl 2 rfl) ?_
                            exact JOIN_27 x6_19 _ _ _ (by first | with_reducible assumption | assumption | omega) hP hD hS (lv_sub hl [0, 1, 2, 3, 4, 5, 6, 7, 8] rfl)
                          · have t_59 : ¬ x6_19.toInt ≤ r_26.toInt := fun h => c_59 (Int32.le_iff_toInt_le.mpr h)
                            refine lv_iload hx hb dX12_flowOf_139 (lv_at hl 0 rfl) ?_
                            refine lv_goto (tgt := 146) hx hb dX12_flowOf_141 (by decide) ?_
                            exact JOIN_27 r_26 _ _ _ (by first | with_reducible assumption | assumption | omega) hP hD hS (lv_sub hl [0, 1, 2, 3, 4, 5, 6, 7, 8] rfl)
              · have t_14 : ¬ x4_13.toInt = a1.toInt := fun h => c_14 (Int32.toInt_inj.mp h)
                have hj1_ : 1 ≤ j_13 := Nat.pos_of_ne_zero (fun e0 => c_14 (by rw [v1_13, e0]; exact hb_.2.2.1))
                obtain ⟨i_, hi_, hc_, hl_⟩ := hb_.2.2.2 j_13 hj1_ v0_13
                have hy_ := hb_.1 j_13 v0_13
                have ey4_ : x4_13.toInt = (e23_5 j_13).toInt := by rw [v1_13]
                refine lv_aload_n hx hb dX12_flowOf_42 rfl (lv_at hl 2 rfl) ?_
                refine lv_aload_n hx hb dX12_flowOf_43 rfl (lv_at hl 2 rfl) ?_
                refine va_get (ci := 12) (v := .ref g24) (C := RX12) (T := TX12) (N := 34) hx hb hts (fun _ h => List.mem_cons_of_mem _ (List.mem_append_right _ h)) hown hK.1 hP 0 rfl rfl 24 (by decide) (hts (.fieldLink RX12 67 "CutAtlasModel" "cameFrom" "[I") (by decide +kernel)) (fun _ h9 => h9) rfl dX12_flowOf_44 ?_
                refine lv_iload hx hb dX12_flowOf_47 (lv_at hl 0 rfl) ?_
                have h_60 : vp_in x4_13 12 := in_I (by omega) (by omega)
                refine va_iald hx hb hK.1 hP 8 0 rfl rfl (i := x4_13) h_60 dX12_flowOf_49 ?_
                refine lv_topi (fun y_61 ey_61 => ?_)
                have ky_61 : y_61.toInt = (e24_6 x4_13.toNatClampNeg).toInt := by rw [ey_61]
                have ry_61 : 0 ≤ y_61.toInt ∧ y_61.toInt ≤ 11 := by rw [ey_61]; exact g_9 _ (in_lt h_60)
                have hv_ : y_61 = e23_5 i_ := by rw [ey_61, v1_13]; exact hc_
                refine lv_iload hx hb dX12_flowOf_50 (lv_at hl 0 rfl) ?_
                refine ct_R hP hD [(mo, .inr (12, [.int s0, .int s1, .long t2, .int s3, .int s4, .ref g5, .ref g6, .ref g7, .ref g8, .ref g9, .ref g10, .int s11, .ref g12, .ref g13, .ref g14, .ref g15, .ref g16, .ref g17, .ref g18, .ref g19, .ref g20, .int s21, .ref g22, .ref g23, .ref g24, .int s25, .int s26, .int s27, .int s28, .ref g29, .ref g30, .ref g31, .ref g32, .ref g33])), (g5, .inl (cy 0, 40, .inl f5)), (g6, .inl (cy 0, 40, .inl f6)), (g7, .inl (cy 0, 40, .inl f7)), (g8, .inl (cy 0, 40, .inl f8)), (g10, .inl (cy 2, 40, .inl f10)), (g22, .inl (cy 0, 40, .inl c_g22_3))] [0, 1, 2, 3, 4, 5, 6] (by decide) rfl (fun hPc hDw => ?_)
                have hFc := va_free (wc := []) hD hS hA [] rfl
                refine va_calli (va_runV (As := [.int y_61, .int x4_13]) (rest := []) ⟨hx, hb, hml, hown, hts⟩ (c_X12_leftOf l D cy H.size mo g5 g6 g7 g8 g9 g10 g12 g13 g14 g15 g16 g17 g18 g19 g20 g22 g23 g24 g29 g30 g31 g32 g33 s0 s1 s3 s4 s11 s21 s25 s26 s27 s28 t2 f5 f6 f7 f8 f10 c_g22_3 y_61 x4_13 (by first | with_reducible assumption | assumption | omega) (by first | with_reducible assumption | assumption | omega) (by first | with_reducible assumption | assumption | omega) (by first | with_reducible assumption | assumption | omega)) (cwV 2 hts gX12_flowOf_X12_leftOf rfl rfl rfl (by decide +kernel) ⟨Nat.le_of_ble_eq_true rfl, Nat.le_of_ble_eq_true rfl⟩) ⟨bl_, va_recvX hK.1 hP (ci := 12) (q0 := 0) rfl rfl, fun U hU hW => ⟨rfl, by rw [hU], by rw [hU]; exact hPc, kk_mv hW hK, hDw⟩⟩ rfl rfl hl.1 rfl (lv_room (Nat.le_of_ble_eq_true rfl)) dX12_flowOf_52 ⟨Nat.le_of_ble_eq_true rfl, Nat.le_of_ble_eq_true rfl⟩) hS (fun q _ h => hFc q h) hFc (fun r_62 u t H locs ht hvm hw hB hz1 hk1 hS => ?_)
                have hP : va_P D vwCl _ H := ro_keep hP hk1
                obtain ⟨f0_r_62, f1_r_62⟩ := hw
                have hp_ : 0 < r_62.toInt := by rw [f0_r_62, hv_, v1_13]; exact hl_
                refine lv_istore (lv' := [(5, .int r_62), (4, .int x4_13), (3, .int x3_13), (0, .ref mo), (1, .int a1), (2, .int a2)]) hx hb dX12_flowOf_55 hl (by decide) rfl (fun ls hl => ?_)
                refine lv_iload hx hb dX12_flowOf_57 (lv_at hl 0 rfl) ?_
                refine lv_iload_n hx hb dX12_flowOf_59 rfl (lv_at hl 2 rfl) ?_
                refine lv_icmp_ge (tgt := 68) hx hb dX12_flowOf_60 (by decide) (fun c_63 => ?_) (fun c_63 => ?_)
                · have t_63 : x3_13.toInt ≤ r_62.toInt := Int32.le_iff_toInt_le.mp c_63
                  refine lv_iload_n hx hb dX12_flowOf_68 rfl (lv_at hl 2 rfl) ?_
                  refine lv_istore_n (lv' := [(3, .int x3_13), (5, .int r_62), (4, .int x4_13), (0, .ref mo), (1, .int a1), (2, .int a2)]) hx hb dX12_flowOf_69 rfl hl (by decide) rfl (fun ls hl => ?_)
                  refine lv_aload_n hx hb dX12_flowOf_70 rfl (lv_at hl 3 rfl) ?_
                  refine va_get (ci := 12) (v := .ref g24) (C := RX12) (T := TX12) (N := 34) hx hb hts (fun _ h => List.mem_cons_of_mem _ (List.mem_append_right _ h)) hown hK.1 hP 0 rfl rfl 24 (by decide) (hts (.fieldLink RX12 67 "CutAtlasModel" "cameFrom" "[I") (by decide +kernel)) (fun _ h9 => h9) rfl dX12_flowOf_71 ?_
                  refine lv_iload hx hb dX12_flowOf_74 (lv_at hl 2 rfl) ?_
                  have h_64 : vp_in x4_13 12 := in_I (by omega) (by omega)
                  refine va_iald hx hb hK.1 hP 8 0 rfl rfl (i := x4_13) h_64 dX12_flowOf_76 ?_
                  refine lv_topi (fun y_65 ey_65 => ?_)
                  have e_ := (ey_65.trans ey_61.symm).symm
                  subst e_
                  skip
                  refine lv_istore (lv' := [(4, .int y_61), (3, .int x3_13), (5, .int r_62), (0, .ref mo), (1, .int a1), (2, .int a2)]) hx hb dX12_flowOf_77 hl (by decide) rfl (fun ls hl => ?_)
                  refine lv_goto (tgt := 36) hx hb dX12_flowOf_79 (by decide) ?_
                  exact ih_13 y_61 x3_13 i_ _ _ _ (by omega) (by first | with_reducible assumption | assumption | omega) (by first | with_reducible assumption | assumption | exact ht_.symm) (by first | with_reducible assumption | assumption | omega) hP hD hS (lv_sub hl [0, 1, 3, 4, 5] rfl)
                · have t_63 : ¬ x3_13.toInt ≤ r_62.toInt := fun h => c_63 (Int32.le_iff_toInt_le.mpr h)
                  refine lv_iload hx hb dX12_flowOf_63 (lv_at hl 0 rfl) ?_
                  refine lv_goto (tgt := 69) hx hb dX12_flowOf_65 (by decide) ?_
                  refine lv_istore_n (lv' := [(3, .int r_62), (5, .int r_62), (4, .int x4_13), (0, .ref mo), (1, .int a1), (2, .int a2)]) hx hb dX12_flowOf_69 rfl hl (by decide) rfl (fun ls hl => ?_)
                  refine lv_aload_n hx hb dX12_flowOf_70 rfl (lv_at hl 3 rfl) ?_
                  refine va_get (ci := 12) (v := .ref g24) (C := RX12) (T := TX12) (N := 34) hx hb hts (fun _ h => List.mem_cons_of_mem _ (List.mem_append_right _ h)) hown hK.1 hP 0 rfl rfl 24 (by decide) (hts (.fieldLink RX12 67 "CutAtlasModel" "cameFrom" "[I") (by decide +kernel)) (fun _ h9 => h9) rfl dX12_flowOf_71 ?_
                  refine lv_iload hx hb dX12_flowOf_74 (lv_at hl 2 rfl) ?_
                  have h_66 : vp_in x4_13 12 := in_I (by omega) (by omega)
                  refine va_iald hx hb hK.1 hP 8 0 rfl rfl (i := x4_13) h_66 dX12_flowOf_76 ?_
                  refine lv_topi (fun y_67 ey_67 => ?_)
                  have e_ := (ey_67.trans ey_61.symm).symm
                  subst e_
                  skip
                  refine lv_istore (lv' := [(4, .int y_61), (3, .int r_62), (5, .int r_62), (0, .ref mo), (1, .int a1), (2, .int a2)]) hx hb dX12_flowOf_77 hl (by decide) rfl (fun ls hl => ?_)
                  refine lv_goto (tgt := 36) hx hb dX12_flowOf_79 (by decide) ?_
                  exact ih_13 y_61 r_62 i_ _ _ _ (by omega) (by first | with_reducible assumption | assumption | omega) (by first | with_reducible assumption | assumption | exact ht_.symm) (by first | with_reducible assumption | assumption | omega) hP hD hS (lv_sub hl [0, 1, 3, 4, 5] rfl)
    · have t_2 : ¬ (40 : Int32).toInt ≤ x3_1.toInt := fun h => c_2 (Int32.le_iff_toInt_le.mpr h)
      refine lv_aload_n hx hb dX12_flowOf_8 rfl (lv_at hl 1 rfl) ?_
      refine va_get (ci := 12) (v := .ref g22) (C := RX12) (T := TX12) (N := 34) hx hb hts (fun _ h => List.mem_cons_of_mem _ (List.mem_append_right _ h)) hown hK.1 hP 0 rfl rfl 22 (by decide) (hts (.fieldLink RX12 61 "CutAtlasModel" "flows" "[I") (by decide +kernel)) (fun _ h9 => h9) rfl dX12_flowOf_9 ?_
      refine lv_iload_n hx hb dX12_flowOf_12 rfl (lv_at hl 0 rfl) ?_
      refine lv_iconst (v := 0) hx hb dX12_flowOf_13 (by decide) ?_
      have h_68 : vp_in x3_1 40 := in_I (by omega) (by omega)
      refine va_iast hx hb hK.1 hP hD hS 6 0 rfl rfl (i := x3_1) h_68 dX12_flowOf_14 (fun H locs hP hD hS => ?_)
      obtain ⟨f_69, ef_69⟩ : ∃ g : Nat → Int32, g = upd c_g22_1 x3_1.toNatClampNeg (0 : Int32) := ⟨_, rfl⟩
      have hP : va_P D vwCl [(mo, .inr (12, [.int s0, .int s1, .long t2, .int s3, .int s4, .ref g5, .ref g6, .ref g7, .ref g8, .ref g9, .ref g10, .int s11, .ref g12, .ref g13, .ref g14, .ref g15, .ref g16, .ref g17, .ref g18, .ref g19, .ref g20, .int s21, .ref g22, .ref g23, .ref g24, .int s25, .int s26, .int s27, .int s28, .ref g29, .ref g30, .ref g31, .ref g32, .ref g33])), (g5, .inl (cy 0, 40, .inl f5)), (g6, .inl (cy 0, 40, .inl f6)), (g7, .inl (cy 0, 40, .inl f7)), (g8, .inl (cy 0, 40, .inl f8)), (g10, .inl (cy 2, 40, .inl f10)), (g22, .inl (cy 0, 40, .inl f_69)), (g23, .inl (cy 0, 12, .inl f23)), (g24, .inl (cy 0, 12, .inl f24))] H := by rw [ef_69]; exact hP
      have hD : va_D A [(mo, .inr (12, [.int s0, .int s1, .long t2, .int s3, .int s4, .ref g5, .ref g6, .ref g7, .ref g8, .ref g9, .ref g10, .int s11, .ref g12, .ref g13, .ref g14, .ref g15, .ref g16, .ref g17, .ref g18, .ref g19, .ref g20, .int s21, .ref g22, .ref g23, .ref g24, .int s25, .int s26, .int s27, .int s28, .ref g29, .ref g30, .ref g31, .ref g32, .ref g33])), (g5, .inl (cy 0, 40, .inl f5)), (g6, .inl (cy 0, 40, .inl f6)), (g7, .inl (cy 0, 40, .inl f7)), (g8, .inl (cy 0, 40, .inl f8)), (g10, .inl (cy 2, 40, .inl f10)), (g22, .inl (cy 0, 40, .inl f_69)), (g23, .inl (cy 0, 12, .inl f23)), (g24, .inl (cy 0, 12, .inl f24))] := by rw [ef_69]; exact hD
      obtain ⟨y_70, ey_70⟩ : ∃ y : Int32, y = x3_1 + 1 := ⟨_, rfl⟩
      have ty_70 : y_70.toInt = x3_1.toInt + (1 : Int32).toInt := by rw [ey_70]; exact addI (by omega) (by omega)
      refine lv_iinc (v := y_70) (lv' := [(3, .int y_70), (0, .ref mo), (1, .int a1), (2, .int a2)]) hx hb dX12_flowOf_15 hl (k := 0) rfl (by rw [ey_70]; rfl) (by decide) rfl (fun ls hl => ?_)
      refine lv_goto (tgt := 2) hx hb dX12_flowOf_18 (by decide) ?_
      exact ih_1 y_70 f_69 _ _ _ (by omega) (by first | with_reducible assumption | assumption | omega) (by first | with_reducible assumption | assumption | omega) (by first | exact zero_st (by assumption) (by assumption) (by omega) (by omega) | (intro j hj; omega)) hP hD hS (lv_sub hl [0, 1, 2, 3] rfl)
