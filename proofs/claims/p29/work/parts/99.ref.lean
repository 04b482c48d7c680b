section
set_option maxHeartbeats 4000000 in
set_option maxRecDepth 100000 in
theorem c_X12_merge2 (l : Launch) (D : va_G) (cy : Nat → ClassId) (sz : Nat) (mo : Nat) (g5 : Nat) (g6 : Nat) (g7 : Nat) (g8 : Nat) (g9 : Nat) (g10 : Nat) (g12 : Nat) (g13 : Nat) (g14 : Nat) (g15 : Nat) (g16 : Nat) (g17 : Nat) (g18 : Nat) (g19 : Nat) (g20 : Nat) (g22 : Nat) (g23 : Nat) (g24 : Nat) (g29 : Nat) (g30 : Nat) (g31 : Nat) (g32 : Nat) (g33 : Nat) (s0 : Int32) (s1 : Int32) (s3 : Int32) (s4 : Int32) (s11 : Int32) (s21 : Int32) (s25 : Int32) (s26 : Int32) (s27 : Int32) (s28 : Int32) (t2 : Int64) (f5 : Nat → Int32) (f6 : Nat → Int32) (f7 : Nat → Int32) (f8 : Nat → Int32) (f9 : Nat → Int32) (f10 : Nat → Int32) (f12 : Nat → Int32) (f13 : Nat → Int32) (f14 : Nat → Int32) (a1 : Int32) (a2 : Int32) (hN : 0 ≤ s4.toInt ∧ s4.toInt ≤ 40) (hPl : 0 ≤ s3.toInt ∧ s3.toInt ≤ 12) (hU : 0 ≤ s11.toInt ∧ s11.toInt ≤ 30) (hnet : netE s3.toInt s4.toInt f6 f7 f10) (hpast : pastE s11.toInt f12 f13 f14) (r_f6 : rng f6 40 (0) (11)) (r_f7 : rng f7 40 (0) (11)) (r_f8 : rng f8 40 (0) (2000)) (r_f9 : rng f9 40 (0) (100)) (r_f12 : rng f12 30 (0) (12)) (r_f13 : rng f13 30 (0) (40)) (r_f14 : orng f14 6000) : Met l yX12_merge wsX12_merge ({ frames := 3, cells := 0, slots := 0, locals := 68 }) (va_Pc [.ref mo, .int a1, .int a2] (fun U => U.heap.size = sz ∧ va_P D vwCl [(mo, .inr (12, [.int s0, .int s1, .long t2, .int s3, .int s4, .ref g5, .ref g6, .ref g7, .ref g8, .ref g9, .ref g10, .int s11, .ref g12, .ref g13, .ref g14, .ref g15, .ref g16, .ref g17, .ref g18, .ref g19, .ref g20, .int s21, .ref g22, .ref g23, .ref g24, .int s25, .int s26, .int s27, .int s28, .ref g29, .ref g30, .ref g31, .ref g32, .ref g33])), (g5, .inl (cy 0, 40, .inl f5)), (g6, .inl (cy 0, 40, .inl f6)), (g7, .inl (cy 0, 40, .inl f7)), (g8, .inl (cy 0, 40, .inl f8)), (g9, .inl (cy 0, 40, .inl f9)), (g10, .inl (cy 2, 40, .inl f10)), (g12, .inl (cy 0, 30, .inl f12)), (g13, .inl (cy 0, 30, .inl f13)), (g14, .inl (cy 0, 6000, .inl f14))] U.heap ∧ kk_ D cy U ∧ va_D (fun _ => True) [(mo, .inr (12, [.int s0, .int s1, .long t2, .int s3, .int s4, .ref g5, .ref g6, .ref g7, .ref g8, .ref g9, .ref g10, .int s11, .ref g12, .ref g13, .ref g14, .ref g15, .ref g16, .ref g17, .ref g18, .ref g19, .ref g20, .int s21, .ref g22, .ref g23, .ref g24, .int s25, .int s26, .int s27, .int s28, .ref g29, .ref g30, .ref g31, .ref g32, .ref g33])), (g5, .inl (cy 0, 40, .inl f5)), (g6, .inl (cy 0, 40, .inl f6)), (g7, .inl (cy 0, 40, .inl f7)), (g8, .inl (cy 0, 40, .inl f8)), (g9, .inl (cy 0, 40, .inl f9)), (g10, .inl (cy 2, 40, .inl f10)), (g12, .inl (cy 0, 30, .inl f12)), (g13, .inl (cy 0, 30, .inl f13)), (g14, .inl (cy 0, 6000, .inl f14))])) (va_Qi (fun (r : Int32) (_ : Unit) => True) (fun (_ : Unit) (t : State) => ∃ (n3 : Int32), ∃ (n11 : Int32), ∃ (e6 : Nat → Int32), ∃ (e7 : Nat → Int32), ∃ (e10 : Nat → Int32), ∃ (e12 : Nat → Int32), ∃ (e13 : Nat → Int32), ∃ (e14 : Nat → Int32), (0 ≤ n3.toInt ∧ n3.toInt ≤ 12) ∧ (0 ≤ n11.toInt ∧ n11.toInt ≤ 30) ∧ (netE n3.toInt s4.toInt e6 e7 e10) ∧ (pastE n11.toInt e12 e13 e14) ∧ (rng e6 40 (0) (11)) ∧ (rng e7 40 (0) (11)) ∧ (rng e12 30 (0) (12)) ∧ (rng e13 30 (0) (40)) ∧ (orng e14 6000) ∧ va_P D vwCl [(mo, .inr (12, [.int 0, .int s1, .long t2, .int n3, .int s4, .ref g5, .ref g6, .ref g7, .ref g8, .ref g9, .ref g10, .int n11, .ref g12, .ref g13, .ref g14, .ref g15, .ref g16, .ref g17, .ref g18, .ref g19, .ref g20, .int s21, .ref g22, .ref g23, .ref g24, .int s25, .int s26, .int s27, .int s28, .ref g29, .ref g30, .ref g31, .ref g32, .ref g33])), (g5, .inl (cy 0, 40, .inl f5)), (g6, .inl (cy 0, 40, .inl e6)), (g7, .inl (cy 0, 40, .inl e7)), (g8, .inl (cy 0, 40, .inl f8)), (g9, .inl (cy 0, 40, .inl f9)), (g10, .inl (cy 2, 40, .inl e10)), (g12, .inl (cy 0, 30, .inl e12)), (g13, .inl (cy 0, 30, .inl e13)), (g14, .inl (cy 0, 6000, .inl e14))] t.heap ∧ va_D (va_A [(mo, .inr (12, [.int s0, .int s1, .long t2, .int s3, .int s4, .ref g5, .ref g6, .ref g7, .ref g8, .ref g9, .ref g10, .int s11, .ref g12, .ref g13, .ref g14, .ref g15, .ref g16, .ref g17, .ref g18, .ref g19, .ref g20, .int s21, .ref g22, .ref g23, .ref g24, .int s25, .int s26, .int s27, .int s28, .ref g29, .ref g30, .ref g31, .ref g32, .ref g33])), (g5, .inl (cy 0, 40, .inl f5)), (g6, .inl (cy 0, 40, .inl f6)), (g7, .inl (cy 0, 40, .inl f7)), (g8, .inl (cy 0, 40, .inl f8)), (g9, .inl (cy 0, 40, .inl f9)), (g10, .inl (cy 2, 40, .inl f10)), (g12, .inl (cy 0, 30, .inl f12)), (g13, .inl (cy 0, 30, .inl f13)), (g14, .inl (cy 0, 6000, .inl f14))] sz) [(mo, .inr (12, [.int 0, .int s1, .long t2, .int n3, .int s4, .ref g5, .ref g6, .ref g7, .ref g8, .ref g9, .ref g10, .int n11, .ref g12, .ref g13, .ref g14, .ref g15, .ref g16, .ref g17, .ref g18, .ref g19, .ref g20, .int s21, .ref g22, .ref g23, .ref g24, .int s25, .int s26, .int s27, .int s28, .ref g29, .ref g30, .ref g31, .ref g32, .ref g33])), (g5, .inl (cy 0, 40, .inl f5)), (g6, .inl (cy 0, 40, .inl e6)), (g7, .inl (cy 0, 40, .inl e7)), (g8, .inl (cy 0, 40, .inl f8)), (g9, .inl (cy 0, 40, .inl f9)), (g10, .inl (cy 2, 40, .inl e10)), (g12, .inl (cy 0, 30, .inl e12)), (g13, .inl (cy 0, 30, .inl e13)), (g14, .inl (cy 0, 6000, .inl e14))]) (va_A [(mo, .inr (12, [.int s0, .int s1, .long t2, .int s3, .int s4, .ref g5, .ref g6, .ref g7, .ref g8, .ref g9, .ref g10, .int s11, .ref g12, .ref g13, .ref g14, .ref g15, .ref g16, .ref g17, .ref g18, .ref g19, .ref g20, .int s21, .ref g22, .ref g23, .ref g24, .int s25, .int s26, .int s27, .int s28, .ref g29, .ref g30, .ref g31, .ref g32, .ref g33])), (g5, .inl (cy 0, 40, .inl f5)), (g6, .inl (cy 0, 40, .inl f6)), (g7, .inl (cy 0, 40, .inl f7)), (g8, .inl (cy 0, 40, .inl f8)), (g9, .inl (cy 0, 40, .inl f9)), (g10, .inl (cy 2, 40, .inl f10)), (g12, .inl (cy 0, 30, .inl f12)), (g13, .inl (cy 0, 30, .inl f13)), (g14, .inl (cy 0, 6000, .inl f14))] sz)) 0 0 (va_A [(mo, .inr (12, [.int s0, .int s1, .long t2, .int s3, .int s4, .ref g5, .ref g6, .ref g7, .ref g8, .ref g9, .ref g10, .int s11, .ref g12, .ref g13, .ref g14, .ref g15, .ref g16, .ref g17, .ref g18, .ref g19, .ref g20, .int s21, .ref g22, .ref g23, .ref g24, .int s25, .int s26, .int s27, .int s28, .ref g29, .ref g30, .ref g31, .ref g32, .ref g33])), (g5, .inl (cy 0, 40, .inl f5)), (g6, .inl (cy 0, 40, .inl f6)), (g7, .inl (cy 0, 40, .inl f7)), (g8, .inl (cy 0, 40, .inl f8)), (g9, .inl (cy 0, 40, .inl f9)), (g10, .inl (cy 2, 40, .inl f10)), (g12, .inl (cy 0, 30, .inl f12)), (g13, .inl (cy 0, 30, .inl f13)), (g14, .inl (cy 0, 6000, .inl f14))] sz) := by
  refine ofQ (cc := cX12_merge) (maxL := 7) (ret := (some .int)) (by decide) rfl ?_
  intro p e s m args below meth c s₁ Q hQ B hml hv
  obtain ⟨rfl, hsz, hP, hK, hD0⟩ := hv
  have hx := B.exec
  have hb := B.bytes
  have hr := B.returns
  have hts := atoms_spec (ws := wsX12_merge) B.pre
  have hown : s.vm.findClass RX12 = some m.cls := by have h_ := findClass_of_methodNamed B.named; exact h_
  have hlocks := B.notSynchronized
  subst hsz
  have hD := hD0.self (sz := s.heap.size)
  generalize hAe : va_A [(mo, .inr (12, [.int s0, .int s1, .long t2, .int s3, .int s4, .ref g5, .ref g6, .ref g7, .ref g8, .ref g9, .ref g10, .int s11, .ref g12, .ref g13, .ref g14, .ref g15, .ref g16, .ref g17, .ref g18, .ref g19, .ref g20, .int s21, .ref g22, .ref g23, .ref g24, .int s25, .int s26, .int s27, .int s28, .ref g29, .ref g30, .ref g31, .ref g32, .ref g33])), (g5, .inl (cy 0, 40, .inl f5)), (g6, .inl (cy 0, 40, .inl f6)), (g7, .inl (cy 0, 40, .inl f7)), (g8, .inl (cy 0, 40, .inl f8)), (g9, .inl (cy 0, 40, .inl f9)), (g10, .inl (cy 2, 40, .inl f10)), (g12, .inl (cy 0, 30, .inl f12)), (g13, .inl (cy 0, 30, .inl f13)), (g14, .inl (cy 0, 6000, .inl f14))] s.heap.size = A at hD hQ
  have hA : ∀ q : Nat, s.heap.size ≤ q → A q := fun q h => by rw [← hAe]; exact Or.inr h
  have hS : va_S A s.heap s.heap [] := va_S.rf
  have hl := lv_entry ([.ref mo, .int a1, .int a2]) (n := 7) (Nat.le_of_ble_eq_true rfl)
  rw [lg_entry_eq]
  generalize (lg_sl ([.ref mo, .int a1, .int a2]) ++ List.replicate (7 - (lg_sl ([.ref mo, .int a1, .int a2])).length) Slot.unset).toArray = ls at hl ⊢
  have hl : lv_has ls 7 [(0, .ref mo), (1, .int a1), (2, .int a2)] := hl
  have zm1 : ((-1) : Int32).toInt = -1 := by decide
  have z0 : (0 : Int32).toInt = 0 := by decide
  have z1 : (1 : Int32).toInt = 1 := by decide
  refine lv_aload_n hx hb dX12_merge_0 rfl (lv_at hl 0 rfl) ?_
  refine lv_iconst (v := 0) hx hb dX12_merge_1 (by decide) ?_
  refine va_put (ci := 12) (v := .int 0) (ty := .int) (C := RX12) (T := TX12) (N := 34) hx hb hts (fun _ h => List.mem_cons_of_mem _ (List.mem_append_right _ h)) tyX12 tyX12_ok nmX12 hown hK.1 hP hD hS 0 rfl rfl 0 (by decide) (hts (.fieldLink RX12 85 "CutAtlasModel" "thrown" "I") (by decide +kernel)) (fun _ h9 => h9) rfl (by decide +kernel) rfl rfl (Nat.le_of_ble_eq_true rfl) dX12_merge_2 (fun H locs hP hD hS => ?_)
  refine pd_K [(mo, .inr (12, [.int 0, .int s1, .long t2, .int s3, .int s4, .ref g5, .ref g6, .ref g7, .ref g8, .ref g9, .ref g10, .int s11, .ref g12, .ref g13, .ref g14, .ref g15, .ref g16, .ref g17, .ref g18, .ref g19, .ref g20, .int s21, .ref g22, .ref g23, .ref g24, .int s25, .int s26, .int s27, .int s28, .ref g29, .ref g30, .ref g31, .ref g32, .ref g33])), (g5, .inl (cy 0, 40, .inl f5)), (g6, .inl (cy 0, 40, .inl f6)), (g7, .inl (cy 0, 40, .inl f7)), (g8, .inl (cy 0, 40, .inl f8)), (g9, .inl (cy 0, 40, .inl f9)), (g10, .inl (cy 2, 40, .inl f10)), (g12, .inl (cy 0, 30, .inl f12)), (g13, .inl (cy 0, 30, .inl f13)), (g14, .inl (cy 0, 6000, .inl f14))] hP hD (fun hP hD => ?_)
  refine lv_aload_n hx hb dX12_merge_5 rfl (lv_at hl 0 rfl) ?_
  refine lv_iload_n hx hb dX12_merge_6 rfl (lv_at hl 1 rfl) ?_
  refine lv_iload_n hx hb dX12_merge_7 rfl (lv_at hl 2 rfl) ?_
  refine ct_R hP hD [(mo, .inr (12, [.int 0, .int s1, .long t2, .int s3, .int s4, .ref g5, .ref g6, .ref g7, .ref g8, .ref g9, .ref g10, .int s11, .ref g12, .ref g13, .ref g14, .ref g15, .ref g16, .ref g17, .ref g18, .ref g19, .ref g20, .int s21, .ref g22, .ref g23, .ref g24, .int s25, .int s26, .int s27, .int s28, .ref g29, .ref g30, .ref g31, .ref g32, .ref g33]))] [0] (by decide) rfl (fun hPc hDw => ?_)
  have hFc := va_free (wc := []) hD hS hA [] rfl
  refine va_calli (va_runV (As := [.int a1, .int a2]) (rest := []) ⟨hx, hb, hml, hown, hts⟩ (c_X12_arePlaces l D cy H.size mo g5 g6 g7 g8 g9 g10 g12 g13 g14 g15 g16 g17 g18 g19 g20 g22 g23 g24 g29 g30 g31 g32 g33 (0 : Int32) s1 s3 s4 s11 s21 s25 s26 s27 s28 t2 a1 a2 (by first | with_reducible assumption | omega | assumption)) (cwV 2 hts gX12_merge_X12_arePlaces rfl rfl rfl (by decide +kernel) ⟨Nat.le_of_ble_eq_true rfl, Nat.le_of_ble_eq_true rfl⟩) ⟨bl_, va_recvX hK.1 hP (ci := 12) (q0 := 0) rfl rfl, fun U hU hW => ⟨rfl, by rw [hU], by rw [hU]; exact hPc, kk_mv hW hK, hDw⟩⟩ rfl rfl hl.1 rfl (lv_room (Nat.le_of_ble_eq_true rfl)) dX12_merge_8 ⟨Nat.le_of_ble_eq_true rfl, Nat.le_of_ble_eq_true rfl⟩) hS (fun q _ h => hFc q h) hFc (fun r_1 u t H locs ht hvm hw hB hz1 hk1 hS => ?_)
  have hP : va_P D vwCl _ H := ro_keep hP hk1
  rcases hw with ⟨w_2, e_⟩ | ⟨w_2, e_⟩
  · have e_ := e_.symm
    subst e_
    refine lv_if_ne (tgt := 16) hx hb dX12_merge_11 (by decide) (fun c_3 => ?_) (fun c_3 => ?_)
    · have _ := c_3
      refine lv_aload_n hx hb dX12_merge_16 rfl (lv_at hl 0 rfl) ?_
      refine ct_S hP hD hS hA [(mo, .inr (12, [.int 0, .int s1, .long t2, .int s3, .int s4, .ref g5, .ref g6, .ref g7, .ref g8, .ref g9, .ref g10, .int s11, .ref g12, .ref g13, .ref g14, .ref g15, .ref g16, .ref g17, .ref g18, .ref g19, .ref g20, .int s21, .ref g22, .ref g23, .ref g24, .int s25, .int s26, .int s27, .int s28, .ref g29, .ref g30, .ref g31, .ref g32, .ref g33])), (g5, .inl (cy 0, 40, .inl f5)), (g6, .inl (cy 0, 40, .inl f6)), (g7, .inl (cy 0, 40, .inl f7)), (g8, .inl (cy 0, 40, .inl f8)), (g9, .inl (cy 0, 40, .inl f9)), (g10, .inl (cy 2, 40, .inl f10)), (g12, .inl (cy 0, 30, .inl f12)), (g13, .inl (cy 0, 30, .inl f13)), (g14, .inl (cy 0, 6000, .inl f14))] [0, 1, 2, 3, 4, 5, 6, 7, 8, 9] (by decide) rfl (fun hPc hDw hFc hC_ => ?_)
      refine va_callv (va_runV (As := []) (rest := []) ⟨hx, hb, hml, hown, hts⟩ (c_X12_keeps2 l D cy H.size mo g5 g6 g7 g8 g9 g10 g12 g13 g14 g15 g16 g17 g18 g19 g20 g22 g23 g24 g29 g30 g31 g32 g33 (0 : Int32) s1 s3 s4 s11 s21 s25 s26 s27 s28 t2 f5 f6 f7 f8 f9 f10 f12 f13 f14 (by first | with_reducible assumption | omega | assumption) (by first | with_reducible assumption | omega | assumption) (by first | with_reducible assumption | omega | assumption) (by first | with_reducible assumption | assumption | omega) (by first | with_reducible assumption | assumption | omega) (by first | with_reducible assumption | assumption | omega) (by first | with_reducible assumption | assumption | omega) (by first | with_reducible assumption | assumption | omega) (by first | with_reducible assumption | assumption | omega) (by first | with_reducible assumption | assumption | omega)) (cwV 0 hts gX12_merge_X12_keeps rfl rfl rfl (by decide +kernel) ⟨Nat.le_of_ble_eq_true rfl, Nat.le_of_ble_eq_true rfl⟩) ⟨bl_, va_recvX hK.1 hP (ci := 12) (q0 := 0) rfl rfl, fun U hU hW => ⟨rfl, by rw [hU], by rw [hU]; exact hPc, kk_mv hW hK, hDw⟩⟩ rfl rfl hl.1 rfl (lv_room (Nat.le_of_ble_eq_true rfl)) dX12_merge_17 ⟨Nat.le_of_ble_eq_true rfl, Nat.le_of_ble_eq_true rfl⟩) hS (fun q _ h => hFc q h) hFc (fun u t H locs ht hvm hw hB hz1 hk1 hS => ?_)
      obtain ⟨n11_5, e12_6, e13_7, e14_8, g_9, g_10, g_11, g_12, g_13, hP1, hD1⟩ := hB
      rw [ht] at hP1
      obtain ⟨hP, hD⟩ := va_join (wr := []) (w1 := [(mo, .inr (12, [.int 0, .int s1, .long t2, .int s3, .int s4, .ref g5, .ref g6, .ref g7, .ref g8, .ref g9, .ref g10, .int n11_5, .ref g12, .ref g13, .ref g14, .ref g15, .ref g16, .ref g17, .ref g18, .ref g19, .ref g20, .int s21, .ref g22, .ref g23, .ref g24, .int s25, .int s26, .int s27, .int s28, .ref g29, .ref g30, .ref g31, .ref g32, .ref g33])), (g5, .inl (cy 0, 40, .inl f5)), (g6, .inl (cy 0, 40, .inl f6)), (g7, .inl (cy 0, 40, .inl f7)), (g8, .inl (cy 0, 40, .inl f8)), (g9, .inl (cy 0, 40, .inl f9)), (g10, .inl (cy 2, 40, .inl f10)), (g12, .inl (cy 0, 30, .inl e12_6)), (g13, .inl (cy 0, 30, .inl e13_7)), (g14, .inl (cy 0, 6000, .inl e14_8))]) hP hD [0, 1, 2, 3, 4, 5, 6, 7, 8, 9] [] hC_ rfl (by decide) (by decide) hk1 hFc hP1 hD1
      refine pd_K [(mo, .inr (12, [.int 0, .int s1, .long t2, .int s3, .int s4, .ref g5, .ref g6, .ref g7, .ref g8, .ref g9, .ref g10, .int n11_5, .ref g12, .ref g13, .ref g14, .ref g15, .ref g16, .ref g17, .ref g18, .ref g19, .ref g20, .int s21, .ref g22, .ref g23, .ref g24, .int s25, .int s26, .int s27, .int s28, .ref g29, .ref g30, .ref g31, .ref g32, .ref g33])), (g5, .inl (cy 0, 40, .inl f5)), (g6, .inl (cy 0, 40, .inl f6)), (g7, .inl (cy 0, 40, .inl f7)), (g8, .inl (cy 0, 40, .inl f8)), (g9, .inl (cy 0, 40, .inl f9)), (g10, .inl (cy 2, 40, .inl f10)), (g12, .inl (cy 0, 30, .inl e12_6)), (g13, .inl (cy 0, 30, .inl e13_7)), (g14, .inl (cy 0, 6000, .inl e14_8))] hP hD (fun hP hD => ?_)
      have hpa_ : pastE n11_5.toInt e12_6 e13_7 e14_8 := kept_past g_10 hnet hpast (by omega) (by assumption) (by assumption) (by omega)
      have JOIN_14 : ∀ (u0_14 : Int32) (H : Heap) (locs : List Loc) (ls : Array Slot), ((u0_14.toInt = a1.toInt ∧ a1.toInt < a2.toInt) ∨ (u0_14.toInt = a2.toInt ∧ a2.toInt < a1.toInt)) → va_P D vwCl [(mo, .inr (12, [.int 0, .int s1, .long t2, .int s3, .int s4, .ref g5, .ref g6, .ref g7, .ref g8, .ref g9, .ref g10, .int n11_5, .ref g12, .ref g13, .ref g14, .ref g15, .ref g16, .ref g17, .ref g18, .ref g19, .ref g20, .int s21, .ref g22, .ref g23, .ref g24, .int s25, .int s26, .int s27, .int s28, .ref g29, .ref g30, .ref g31, .ref g32, .ref g33])), (g5, .inl (cy 0, 40, .inl f5)), (g6, .inl (cy 0, 40, .inl f6)), (g7, .inl (cy 0, 40, .inl f7)), (g8, .inl (cy 0, 40, .inl f8)), (g9, .inl (cy 0, 40, .inl f9)), (g10, .inl (cy 2, 40, .inl f10)), (g12, .inl (cy 0, 30, .inl e12_6)), (g13, .inl (cy 0, 30, .inl e13_7)), (g14, .inl (cy 0, 6000, .inl e14_8))] H → va_D A [(mo, .inr (12, [.int 0, .int s1, .long t2, .int s3, .int s4, .ref g5, .ref g6, .ref g7, .ref g8, .ref g9, .ref g10, .int n11_5, .ref g12, .ref g13, .ref g14, .ref g15, .ref g16, .ref g17, .ref g18, .ref g19, .ref g20, .int s21, .ref g22, .ref g23, .ref g24, .int s25, .int s26, .int s27, .int s28, .ref g29, .ref g30, .ref g31, .ref g32, .ref g33])), (g5, .inl (cy 0, 40, .inl f5)), (g6, .inl (cy 0, 40, .inl f6)), (g7, .inl (cy 0, 40, .inl f7)), (g8, .inl (cy 0, 40, .inl f8)), (g9, .inl (cy 0, 40, .inl f9)), (g10, .inl (cy 2, 40, .inl f10)), (g12, .inl (cy 0, 30, .inl e12_6)), (g13, .inl (cy 0, 30, .inl e13_7)), (g14, .inl (cy 0, 6000, .inl e14_8))] → va_S A s.heap H locs → lv_has ls 7 [(0, .ref mo), (1, .int a1), (2, .int a2)] → W p l e ({ frames := 3, cells := 0, slots := 0, locals := 68 } : Room) s m (([.ref mo, .int a1, .int a2] : List Value).toArray) below meth c H locs 0 0 Q (F0 m 30 ls [.int u0_14]) := by
        intro u0_14 H locs ls v0_14 hP hD hS hl
        refine lv_istore_n (lv' := [(3, .int u0_14), (0, .ref mo), (1, .int a1), (2, .int a2)]) hx hb dX12_merge_30 rfl hl (by decide) rfl (fun ls hl => ?_)
        have JOIN_15 : ∀ (u0_15 : Int32) (H : Heap) (locs : List Loc) (ls : Array Slot), ((u0_15.toInt = a2.toInt ∧ u0_14.toInt = a1.toInt) ∨ (u0_15.toInt = a1.toInt ∧ u0_14.toInt = a2.toInt)) → (u0_14.toInt < u0_15.toInt ∧ 0 ≤ u0_14.toInt ∧ u0_15.toInt < s3.toInt) → va_P D vwCl [(mo, .inr (12, [.int 0, .int s1, .long t2, .int s3, .int s4, .ref g5, .ref g6, .ref g7, .ref g8, .ref g9, .ref g10, .int n11_5, .ref g12, .ref g13, .ref g14, .ref g15, .ref g16, .ref g17, .ref g18, .ref g19, .ref g20, .int s21, .ref g22, .ref g23, .ref g24, .int s25, .int s26, .int s27, .int s28, .ref g29, .ref g30, .ref g31, .ref g32, .ref g33])), (g5, .inl (cy 0, 40, .inl f5)), (g6, .inl (cy 0, 40, .inl f6)), (g7, .inl (cy 0, 40, .inl f7)), (g8, .inl (cy 0, 40, .inl f8)), (g9, .inl (cy 0, 40, .inl f9)), (g10, .inl (cy 2, 40, .inl f10)), (g12, .inl (cy 0, 30, .inl e12_6)), (g13, .inl (cy 0, 30, .inl e13_7)), (g14, .inl (cy 0, 6000, .inl e14_8))] H → va_D A [(mo, .inr (12, [.int 0, .int s1, .long t2, .int s3, .int s4, .ref g5, .ref g6, .ref g7, .ref g8, .ref g9, .ref g10, .int n11_5, .ref g12, .ref g13, .ref g14, .ref g15, .ref g16, .ref g17, .ref g18, .ref g19, .ref g20, .int s21, .ref g22, .ref g23, .ref g24, .int s25, .int s26, .int s27, .int s28, .ref g29, .ref g30, .ref g31, .ref g32, .ref g33])), (g5, .inl (cy 0, 40, .inl f5)), (g6, .inl (cy 0, 40, .inl f6)), (g7, .inl (cy 0, 40, .inl f7)), (g8, .inl (cy 0, 40, .inl f8)), (g9, .inl (cy 0, 40, .inl f9)), (g10, .inl (cy 2, 40, .inl f10)), (g12, .inl (cy 0, 30, .inl e12_6)), (g13, .inl (cy 0, 30, .inl e13_7)), (g14, .inl (cy 0, 6000, .inl e14_8))] → va_S A s.heap H locs → lv_has ls 7 [(3, .int u0_14), (0, .ref mo), (1, .int a1), (2, .int a2)] → W p l e ({ frames := 3, cells := 0, slots := 0, locals := 68 } : Room) s m (([.ref mo, .int a1, .int a2] : List Value).toArray) below meth c H locs 0 0 Q (F0 m 41 ls [.int u0_15]) := by
          intro u0_15 H locs ls v0_15 v1_15 hP hD hS hl
          refine lv_istore (lv' := [(4, .int u0_15), (3, .int u0_14), (0, .ref mo), (1, .int a1), (2, .int a2)]) hx hb dX12_merge_41 hl (by decide) rfl (fun ls hl => ?_)
          refine lv_iconst (v := 0) hx hb dX12_merge_43 (by decide) ?_
          refine lv_istore (lv' := [(5, .int 0), (4, .int u0_15), (3, .int u0_14), (0, .ref mo), (1, .int a1), (2, .int a2)]) hx hb dX12_merge_44 hl (by decide) rfl (fun ls hl => ?_)
          refine lv_iconst (v := 0) hx hb dX12_merge_46 (by decide) ?_
          refine lv_istore (lv' := [(6, .int 0), (5, .int 0), (4, .int u0_15), (3, .int u0_14), (0, .ref mo), (1, .int a1), (2, .int a2)]) hx hb dX12_merge_47 hl (by decide) rfl (fun ls hl => ?_)
          suffices LOOP_16 : ∀ (n_16 : Nat) (x6_16 : Int32) (x5_16 : Int32) (c_g6_16 : Nat → Int32) (c_g7_16 : Nat → Int32) (c_g10_16 : Nat → Int32) (H : Heap) (locs : List Loc) (ls : Array Slot), s4.toInt - x6_16.toInt < (n_16 : Int) → (0 ≤ x6_16.toInt) → (x6_16.toInt ≤ s4.toInt) → (mrgd u0_14.toInt u0_15.toInt f6 f7 f10 c_g6_16 c_g7_16 c_g10_16 x6_16.toInt) → (rng c_g6_16 40 (0) (11)) → (rng c_g7_16 40 (0) (11)) → va_P D vwCl [(mo, .inr (12, [.int 0, .int s1, .long t2, .int s3, .int s4, .ref g5, .ref g6, .ref g7, .ref g8, .ref g9, .ref g10, .int n11_5, .ref g12, .ref g13, .ref g14, .ref g15, .ref g16, .ref g17, .ref g18, .ref g19, .ref g20, .int s21, .ref g22, .ref g23, .ref g24, .int s25, .int s26, .int s27, .int s28, .ref g29, .ref g30, .ref g31, .ref g32, .ref g33])), (g5, .inl (cy 0, 40, .inl f5)), (g6, .inl (cy 0, 40, .inl c_g6_16)), (g7, .inl (cy 0, 40, .inl c_g7_16)), (g8, .inl (cy 0, 40, .inl f8)), (g9, .inl (cy 0, 40, .inl f9)), (g10, .inl (cy 2, 40, .inl c_g10_16)), (g12, .inl (cy 0, 30, .inl e12_6)), (g13, .inl (cy 0, 30, .inl e13_7)), (g14, .inl (cy 0, 6000, .inl e14_8))] H → va_D A [(mo, .inr (12, [.int 0, .int s1, .long t2, .int s3, .int s4, .ref g5, .ref g6, .ref g7, .ref g8, .ref g9, .ref g10, .int n11_5, .ref g12, .ref g13, .ref g14, .ref g15, .ref g16, .ref g17, .ref g18, .ref g19, .ref g20, .int s21, .ref g22, .ref g23, .ref g24, .int s25, .int s26, .int s27, .int s28, .ref g29, .ref g30, .ref g31, .ref g32, .ref g33])), (g5, .inl (cy 0, 40, .inl f5)), (g6, .inl (cy 0, 40, .inl c_g6_16)), (g7, .inl (cy 0, 40, .inl c_g7_16)), (g8, .inl (cy 0, 40, .inl f8)), (g9, .inl (cy 0, 40, .inl f9)), (g10, .inl (cy 2, 40, .inl c_g10_16)), (g12, .inl (cy 0, 30, .inl e12_6)), (g13, .inl (cy 0, 30, .inl e13_7)), (g14, .inl (cy 0, 6000, .inl e14_8))] → va_S A s.heap H locs → lv_has ls 7 [(6, .int x6_16), (5, .int x5_16), (4, .int u0_15), (3, .int u0_14), (0, .ref mo), (1, .int a1), (2, .int a2)] → W p l e ({ frames := 3, cells := 0, slots := 0, locals := 68 } : Room) s m (([.ref mo, .int a1, .int a2] : List Value).toArray) below meth c H locs 0 0 Q (F0 m 49 ls []) from LOOP_16 ((s4.toInt - (0 : Int32).toInt).toNat + 1) (0 : Int32) (0 : Int32) f6 f7 f10 _ _ _ (by omega) (by first | with_reducible assumption | omega | assumption) (by first | with_reducible assumption | omega | assumption) (by first | exact mrgd_0 | exact hms_ (0 : Int32) (by omega) | exact mrgd_skip v_none (by omega) (by omega) (by omega)) (by first | with_reducible assumption | assumption | exact rng_zero (by omega) (by omega) | exact orng_zero) (by first | with_reducible assumption | assumption | exact rng_zero (by omega) (by omega) | exact orng_zero) hP hD hS (lv_sub hl [0, 1, 2, 3, 4, 5, 6] rfl)
          intro n_16
          induction n_16 with
          | zero =>
            intro x6_16 x5_16 c_g6_16 c_g7_16 c_g10_16 H locs ls hm v0_16 v1_16 v2_16 rc_g6_16 rc_g7_16 hP hD hS hl
            exact absurd hm (by omega)
          | succ n_16 ih_16 =>
            intro x6_16 x5_16 c_g6_16 c_g7_16 c_g10_16 H locs ls hm v0_16 v1_16 v2_16 rc_g6_16 rc_g7_16 hP hD hS hl
            refine lv_iload hx hb dX12_merge_49 (lv_at hl 0 rfl) ?_
            refine lv_aload_n hx hb dX12_merge_51 rfl (lv_at hl 4 rfl) ?_
            refine va_get (ci := 12) (v := .int s4) (C := RX12) (T := TX12) (N := 34) hx hb hts (fun _ h => List.mem_cons_of_mem _ (List.mem_append_right _ h)) hown hK.1 hP 0 rfl rfl 4 (by decide) (hts (.fieldLink RX12 95 "CutAtlasModel" "lines" "I") (by decide +kernel)) (fun _ h9 => h9) rfl dX12_merge_52 ?_
            refine lv_icmp_ge (tgt := 231) hx hb dX12_merge_55 (by decide) (fun c_17 => ?_) (fun c_17 => ?_)
            · have t_17 : s4.toInt ≤ x6_16.toInt := Int32.le_iff_toInt_le.mp c_17
              have hne_ : ∀ q : Int, q = s3.toInt - 1 → netE q s4.toInt c_g6_16 c_g7_16 c_g10_16 := fun q eq => mrgd_net v2_16 (by omega) hnet (by omega) (by omega) eq
              refine lv_aload_n hx hb dX12_merge_231 rfl (lv_at hl 4 rfl) ?_
              refine lv_dup hx hb dX12_merge_232 rfl ?_
              refine va_get (ci := 12) (v := .int s3) (C := RX12) (T := TX12) (N := 34) hx hb hts (fun _ h => List.mem_cons_of_mem _ (List.mem_append_right _ h)) hown hK.1 hP 0 rfl rfl 3 (by decide) (hts (.fieldLink RX12 88 "CutAtlasModel" "places" "I") (by decide +kernel)) (fun _ h9 => h9) rfl dX12_merge_233 ?_
              refine lv_iconst (v := 1) hx hb dX12_merge_236 (by decide) ?_
              refine lv_isub hx hb dX12_merge_237 ?_
              refine lv_topi (fun y_18 ey_18 => ?_)
              have ty_18 : y_18.toInt = s3.toInt - (1 : Int32).toInt := by rw [ey_18]; exact subI (by omega) (by omega)
              refine va_put (ci := 12) (v := .int y_18) (ty := .int) (C := RX12) (T := TX12) (N := 34) hx hb hts (fun _ h => List.mem_cons_of_mem _ (List.mem_append_right _ h)) tyX12 tyX12_ok nmX12 hown hK.1 hP hD hS 0 rfl rfl 3 (by decide) (hts (.fieldLink RX12 88 "CutAtlasModel" "places" "I") (by decide +kernel)) (fun _ h9 => h9) rfl (by decide +kernel) rfl rfl (Nat.le_of_ble_eq_true rfl) dX12_merge_238 (fun H locs hP hD hS => ?_)
              refine pd_K [(mo, .inr (12, [.int 0, .int s1, .long t2, .int y_18, .int s4, .ref g5, .ref g6, .ref g7, .ref g8, .ref g9, .ref g10, .int n11_5, .ref g12, .ref g13, .ref g14, .ref g15, .ref g16, .ref g17, .ref g18, .ref g19, .ref g20, .int s21, .ref g22, .ref g23, .ref g24, .int s25, .int s26, .int s27, .int s28, .ref g29, .ref g30, .ref g31, .ref g32, .ref g33])), (g5, .inl (cy 0, 40, .inl f5)), (g6, .inl (cy 0, 40, .inl c_g6_16)), (g7, .inl (cy 0, 40, .inl c_g7_16)), (g8, .inl (cy 0, 40, .inl f8)), (g9, .inl (cy 0, 40, .inl f9)), (g10, .inl (cy 2, 40, .inl c_g10_16)), (g12, .inl (cy 0, 30, .inl e12_6)), (g13, .inl (cy 0, 30, .inl e13_7)), (g14, .inl (cy 0, 6000, .inl e14_8))] hP hD (fun hP hD => ?_)
              refine lv_iload hx hb dX12_merge_241 (lv_at hl 1 rfl) ?_
              rw [hQ]
              exact W.iret (v := x5_16) hx hb hr (fun t ht hW => ⟨⟨x5_16, (), rfl, trivial, y_18, n11_5, c_g6_16, c_g7_16, c_g10_16, e12_6, e13_7, e14_8, (by first | with_reducible assumption | omega | assumption), (by first | with_reducible assumption | omega | assumption), (by first | exact hne_ _ (by omega) | assumption), (by first | exact hpa_ | assumption), (by first | with_reducible assumption | assumption | exact rng_zero (by omega) (by omega) | omega), (by first | with_reducible assumption | assumption | exact rng_zero (by omega) (by omega) | omega), (by first | with_reducible assumption | assumption | exact rng_zero (by omega) (by omega) | omega), (by first | with_reducible assumption | assumption | exact rng_zero (by omega) (by omega) | omega), (by first | with_reducible assumption | assumption | exact rng_zero (by omega) (by omega) | omega), by rw [ht]; exact hP, hD⟩, hS.F ht⟩) hS.2.2 dX12_merge_243
            · have t_17 : ¬ s4.toInt ≤ x6_16.toInt := fun h => c_17 (Int32.le_iff_toInt_le.mpr h)
              refine lv_aload_n hx hb dX12_merge_58 rfl (lv_at hl 4 rfl) ?_
              refine va_get (ci := 12) (v := .ref g10) (C := RX12) (T := TX12) (N := 34) hx hb hts (fun _ h => List.mem_cons_of_mem _ (List.mem_append_right _ h)) hown hK.1 hP 0 rfl rfl 10 (by decide) (hts (.fieldLink RX12 25 "CutAtlasModel" "isMissing" "[Z") (by decide +kernel)) (fun _ h9 => h9) rfl dX12_merge_59 ?_
              refine lv_iload hx hb dX12_merge_62 (lv_at hl 0 rfl) ?_
              have h_19 : vp_in x6_16 40 := in_I (by omega) (by omega)
              refine va_zald hx hb hK.1 hP 6 2 rfl rfl (i := x6_16) h_19 dX12_merge_64 ?_
              refine lv_topi (fun y_20 ey_20 => ?_)
              have ky_20 : y_20.toInt = (c_g10_16 x6_16.toNatClampNeg).toInt := by rw [ey_20]
              refine lv_if_ne (tgt := 225) hx hb dX12_merge_65 (by decide) (fun c_21 => ?_) (fun c_21 => ?_)
              · have t_21 : ¬ y_20.toInt = (0 : Int32).toInt := fun h => c_21 (Int32.toInt_inj.mp h)
                obtain ⟨y_22, ey_22⟩ : ∃ y : Int32, y = x6_16 + 1 := ⟨_, rfl⟩
                have ty_22 : y_22.toInt = x6_16.toInt + (1 : Int32).toInt := by rw [ey_22]; exact addI (by omega) (by omega)
                refine lv_iinc (v := y_22) (lv' := [(6, .int y_22), (5, .int x5_16), (4, .int u0_15), (3, .int u0_14), (0, .ref mo), (1, .int a1), (2, .int a2)]) hx hb dX12_merge_225 hl (k := 0) rfl (by rw [ey_22]; rfl) (by decide) rfl (fun ls hl => ?_)
                refine lv_goto (tgt := 49) hx hb dX12_merge_228 (by decide) ?_
                exact ih_16 y_22 x5_16 c_g6_16 c_g7_16 c_g10_16 _ _ _ (by omega) (by first | with_reducible assumption | omega | assumption) (by first | with_reducible assumption | omega | assumption) (by first | exact mrgd_0 | exact hms_ y_22 (by omega) | exact mrgd_skip v2_16 (by omega) (by omega) (by omega)) (by first | with_reducible assumption | assumption | exact rng_zero (by omega) (by omega) | exact orng_zero) (by first | with_reducible assumption | assumption | exact rng_zero (by omega) (by omega) | exact orng_zero) hP hD hS (lv_sub hl [0, 1, 2, 3, 4, 5, 6] rfl)
              · have t_21 : y_20.toInt = (0 : Int32).toInt := congrArg Int32.toInt c_21
                have hnl_ := v2_16.2 x6_16.toNatClampNeg (by have c_ := clI (i := x6_16) (by omega); omega)
                have hms0_ : (c_g10_16 x6_16.toNatClampNeg).toInt = 0 := by omega
                refine lv_aload_n hx hb dX12_merge_68 rfl (lv_at hl 4 rfl) ?_
                refine va_get (ci := 12) (v := .ref g6) (C := RX12) (T := TX12) (N := 34) hx hb hts (fun _ h => List.mem_cons_of_mem _ (List.mem_append_right _ h)) hown hK.1 hP 0 rfl rfl 6 (by decide) (hts (.fieldLink RX12 13 "CutAtlasModel" "from" "[I") (by decide +kernel)) (fun _ h9 => h9) rfl dX12_merge_69 ?_
                refine lv_iload hx hb dX12_merge_72 (lv_at hl 0 rfl) ?_
                have JOIN_23 : ∀ (u0_23 : Int32) (H : Heap) (locs : List Loc) (ls : Array Slot), (u0_23.toInt = renI (c_g6_16 x6_16.toNatClampNeg).toInt u0_14.toInt u0_15.toInt ∧ 0 ≤ u0_23.toInt ∧ u0_23.toInt ≤ 11) → va_P D vwCl [(mo, .inr (12, [.int 0, .int s1, .long t2, .int s3, .int s4, .ref g5, .ref g6, .ref g7, .ref g8, .ref g9, .ref g10, .int n11_5, .ref g12, .ref g13, .ref g14, .ref g15, .ref g16, .ref g17, .ref g18, .ref g19, .ref g20, .int s21, .ref g22, .ref g23, .ref g24, .int s25, .int s26, .int s27, .int s28, .ref g29, .ref g30, .ref g31, .ref g32, .ref g33])), (g5, .inl (cy 0, 40, .inl f5)), (g6, .inl (cy 0, 40, .inl c_g6_16)), (g7, .inl (cy 0, 40, .inl c_g7_16)), (g8, .inl (cy 0, 40, .inl f8)), (g9, .inl (cy 0, 40, .inl f9)), (g10, .inl (cy 2, 40, .inl c_g10_16)), (g12, .inl (cy 0, 30, .inl e12_6)), (g13, .inl (cy 0, 30, .inl e13_7)), (g14, .inl (cy 0, 6000, .inl e14_8))] H → va_D A [(mo, .inr (12, [.int 0, .int s1, .long t2, .int s3, .int s4, .ref g5, .ref g6, .ref g7, .ref g8, .ref g9, .ref g10, .int n11_5, .ref g12, .ref g13, .ref g14, .ref g15, .ref g16, .ref g17, .ref g18, .ref g19, .ref g20, .int s21, .ref g22, .ref g23, .ref g24, .int s25, .int s26, .int s27, .int s28, .ref g29, .ref g30, .ref g31, .ref g32, .ref g33])), (g5, .inl (cy 0, 40, .inl f5)), (g6, .inl (cy 0, 40, .inl c_g6_16)), (g7, .inl (cy 0, 40, .inl c_g7_16)), (g8, .inl (cy 0, 40, .inl f8)), (g9, .inl (cy 0, 40, .inl f9)), (g10, .inl (cy 2, 40, .inl c_g10_16)), (g12, .inl (cy 0, 30, .inl e12_6)), (g13, .inl (cy 0, 30, .inl e13_7)), (g14, .inl (cy 0, 6000, .inl e14_8))] → va_S A s.heap H locs → lv_has ls 7 [(6, .int x6_16), (5, .int x5_16), (4, .int u0_15), (3, .int u0_14), (0, .ref mo), (1, .int a1), (2, .int a2)] → W p l e ({ frames := 3, cells := 0, slots := 0, locals := 68 } : Room) s m (([.ref mo, .int a1, .int a2] : List Value).toArray) below meth c H locs 0 0 Q (F0 m 121 ls [.int u0_23, .int x6_16, .ref g6]) := by
                  intro u0_23 H locs ls v0_23 hP hD hS hl
                  have h_24 : vp_in x6_16 40 := in_I (by omega) (by omega)
                  refine va_iast hx hb hK.1 hP hD hS 2 0 rfl rfl (i := x6_16) h_24 dX12_merge_121 (fun H locs hP hD hS => ?_)
                  obtain ⟨f_25, ef_25⟩ : ∃ g : Nat → Int32, g = upd c_g6_16 x6_16.toNatClampNeg u0_23 := ⟨_, rfl⟩
                  refine pd_K (D := D) (cl := vwCl) (H := H) (A := A) [(mo, .inr (12, [.int 0, .int s1, .long t2, .int s3, .int s4, .ref g5, .ref g6, .ref g7, .ref g8, .ref g9, .ref g10, .int n11_5, .ref g12, .ref g13, .ref g14, .ref g15, .ref g16, .ref g17, .ref g18, .ref g19, .ref g20, .int s21, .ref g22, .ref g23, .ref g24, .int s25, .int s26, .int s27, .int s28, .ref g29, .ref g30, .ref g31, .ref g32, .ref g33])), (g5, .inl (cy 0, 40, .inl f5)), (g6, .inl (cy 0, 40, .inl f_25)), (g7, .inl (cy 0, 40, .inl c_g7_16)), (g8, .inl (cy 0, 40, .inl f8)), (g9, .inl (cy 0, 40, .inl f9)), (g10, .inl (cy 2, 40, .inl c_g10_16)), (g12, .inl (cy 0, 30, .inl e12_6)), (g13, .inl (cy 0, 30, .inl e13_7)), (g14, .inl (cy 0, 6000, .inl e14_8))] (by rw [ef_25]; exact hP) (by rw [ef_25]; exact hD) (fun hP hD => ?_)
                  have rf_25 : rng f_25 40 (0) (11) := by rw [ef_25]; exact rng_upd rc_g6_16 (by omega) (by omega)
                  refine lv_aload_n hx hb dX12_merge_122 rfl (lv_at hl 4 rfl) ?_
                  refine va_get (ci := 12) (v := .ref g7) (C := RX12) (T := TX12) (N := 34) hx hb hts (fun _ h => List.mem_cons_of_mem _ (List.mem_append_right _ h)) hown hK.1 hP 0 rfl rfl 7 (by decide) (hts (.fieldLink RX12 16 "CutAtlasModel" "to" "[I") (by decide +kernel)) (fun _ h9 => h9) rfl dX12_merge_123 ?_
                  refine lv_iload hx hb dX12_merge_126 (lv_at hl 0 rfl) ?_
                  have JOIN_26 : ∀ (u0_26 : Int32) (H : Heap) (locs : List Loc) (ls : Array Slot), (u0_26.toInt = renI (c_g7_16 x6_16.toNatClampNeg).toInt u0_14.toInt u0_15.toInt ∧ 0 ≤ u0_26.toInt ∧ u0_26.toInt ≤ 11) → va_P D vwCl [(mo, .inr (12, [.int 0, .int s1, .long t2, .int s3, .int s4, .ref g5, .ref g6, .ref g7, .ref g8, .ref g9, .ref g10, .int n11_5, .ref g12, .ref g13, .ref g14, .ref g15, .ref g16, .ref g17, .ref g18, .ref g19, .ref g20, .int s21, .ref g22, .ref g23, .ref g24, .int s25, .int s26, .int s27, .int s28, .ref g29, .ref g30, .ref g31, .ref g32, .ref g33])), (g5, .inl (cy 0, 40, .inl f5)), (g6, .inl (cy 0, 40, .inl f_25)), (g7, .inl (cy 0, 40, .inl c_g7_16)), (g8, .inl (cy 0, 40, .inl f8)), (g9, .inl (cy 0, 40, .inl f9)), (g10, .inl (cy 2, 40, .inl c_g10_16)), (g12, .inl (cy 0, 30, .inl e12_6)), (g13, .inl (cy 0, 30, .inl e13_7)), (g14, .inl (cy 0, 6000, .inl e14_8))] H → va_D A [(mo, .inr (12, [.int 0, .int s1, .long t2, .int s3, .int s4, .ref g5, .ref g6, .ref g7, .ref g8, .ref g9, .ref g10, .int n11_5, .ref g12, .ref g13, .ref g14, .ref g15, .ref g16, .ref g17, .ref g18, .ref g19, .ref g20, .int s21, .ref g22, .ref g23, .ref g24, .int s25, .int s26, .int s27, .int s28, .ref g29, .ref g30, .ref g31, .ref g32, .ref g33])), (g5, .inl (cy 0, 40, .inl f5)), (g6, .inl (cy 0, 40, .inl f_25)), (g7, .inl (cy 0, 40, .inl c_g7_16)), (g8, .inl (cy 0, 40, .inl f8)), (g9, .inl (cy 0, 40, .inl f9)), (g10, .inl (cy 2, 40, .inl c_g10_16)), (g12, .inl (cy 0, 30, .inl e12_6)), (g13, .inl (cy 0, 30, .inl e13_7)), (g14, .inl (cy 0, 6000, .inl e14_8))] → va_S A s.heap H locs → lv_has ls 7 [(6, .int x6_16), (5, .int x5_16), (4, .int u0_15), (3, .int u0_14), (0, .ref mo), (1, .int a1), (2, .int a2)] → W p l e ({ frames := 3, cells := 0, slots := 0, locals := 68 } : Room) s m (([.ref mo, .int a1, .int a2] : List Value).toArray) below meth c H locs 0 0 Q (F0 m 175 ls [.int u0_26, .int x6_16, .ref g7]) := by
                    intro u0_26 H locs ls v0_26 hP hD hS hl
                    have h_27 : vp_in x6_16 40 := in_I (by omega) (by omega)
                    refine va_iast hx hb hK.1 hP hD hS 3 0 rfl rfl (i := x6_16) h_27 dX12_merge_175 (fun H locs hP hD hS => ?_)
                    obtain ⟨f_28, ef_28⟩ : ∃ g : Nat → Int32, g = upd c_g7_16 x6_16.toNatClampNeg u0_26 := ⟨_, rfl⟩
                    refine pd_K (D := D) (cl := vwCl) (H := H) (A := A) [(mo, .inr (12, [.int 0, .int s1, .long t2, .int s3, .int s4, .ref g5, .ref g6, .ref g7, .ref g8, .ref g9, .ref g10, .int n11_5, .ref g12, .ref g13, .ref g14, .ref g15, .ref g16, .ref g17, .ref g18, .ref g19, .ref g20, .int s21, .ref g22, .ref g23, .ref g24, .int s25, .int s26, .int s27, .int s28, .ref g29, .ref g30, .ref g31, .ref g32, .ref g33])), (g5, .inl (cy 0, 40, .inl f5)), (g6, .inl (cy 0, 40, .inl f_25)), (g7, .inl (cy 0, 40, .inl f_28)), (g8, .inl (cy 0, 40, .inl f8)), (g9, .inl (cy 0, 40, .inl f9)), (g10, .inl (cy 2, 40, .inl c_g10_16)), (g12, .inl (cy 0, 30, .inl e12_6)), (g13, .inl (cy 0, 30, .inl e13_7)), (g14, .inl (cy 0, 6000, .inl e14_8))] (by rw [ef_28]; exact hP) (by rw [ef_28]; exact hD) (fun hP hD => ?_)
                    have rf_28 : rng f_28 40 (0) (11) := by rw [ef_28]; exact rng_upd rc_g7_16 (by omega) (by omega)
                    refine lv_aload_n hx hb dX12_merge_176 rfl (lv_at hl 4 rfl) ?_
                    refine va_get (ci := 12) (v := .ref g10) (C := RX12) (T := TX12) (N := 34) hx hb hts (fun _ h => List.mem_cons_of_mem _ (List.mem_append_right _ h)) hown hK.1 hP 0 rfl rfl 10 (by decide) (hts (.fieldLink RX12 25 "CutAtlasModel" "isMissing" "[Z") (by decide +kernel)) (fun _ h9 => h9) rfl dX12_merge_177 ?_
                    refine lv_iload hx hb dX12_merge_180 (lv_at hl 0 rfl) ?_
                    have k6_ : (f_25 x6_16.toNatClampNeg).toInt = u0_23.toInt := by rw [ef_25, pk_us]
                    have k7_ : (f_28 x6_16.toNatClampNeg).toInt = u0_26.toInt := by rw [ef_28, pk_us]
                    have JOIN_29 : ∀ (u0_29 : Int32) (H : Heap) (locs : List Loc) (ls : Array Slot), (u0_29.toInt = if u0_23.toInt = u0_26.toInt then 1 else 0) → va_P D vwCl [(mo, .inr (12, [.int 0, .int s1, .long t2, .int s3, .int s4, .ref g5, .ref g6, .ref g7, .ref g8, .ref g9, .ref g10, .int n11_5, .ref g12, .ref g13, .ref g14, .ref g15, .ref g16, .ref g17, .ref g18, .ref g19, .ref g20, .int s21, .ref g22, .ref g23, .ref g24, .int s25, .int s26, .int s27, .int s28, .ref g29, .ref g30, .ref g31, .ref g32, .ref g33])), (g5, .inl (cy 0, 40, .inl f5)), (g6, .inl (cy 0, 40, .inl f_25)), (g7, .inl (cy 0, 40, .inl f_28)), (g8, .inl (cy 0, 40, .inl f8)), (g9, .inl (cy 0, 40, .inl f9)), (g10, .inl (cy 2, 40, .inl c_g10_16)), (g12, .inl (cy 0, 30, .inl e12_6)), (g13, .inl (cy 0, 30, .inl e13_7)), (g14, .inl (cy 0, 6000, .inl e14_8))] H → va_D A [(mo, .inr (12, [.int 0, .int s1, .long t2, .int s3, .int s4, .ref g5, .ref g6, .ref g7, .ref g8, .ref g9, .ref g10, .int n11_5, .ref g12, .ref g13, .ref g14, .ref g15, .ref g16, .ref g17, .ref g18, .ref g19, .ref g20, .int s21, .ref g22, .ref g23, .ref g24, .int s25, .int s26, .int s27, .int s28, .ref g29, .ref g30, .ref g31, .ref g32, .ref g33])), (g5, .inl (cy 0, 40, .inl f5)), (g6, .inl (cy 0, 40, .inl f_25)), (g7, .inl (cy 0, 40, .inl f_28)), (g8, .inl (cy 0, 40, .inl f8)), (g9, .inl (cy 0, 40, .inl f9)), (g10, .inl (cy 2, 40, .inl c_g10_16)), (g12, .inl (cy 0, 30, .inl e12_6)), (g13, .inl (cy 0, 30, .inl e13_7)), (g14, .inl (cy 0, 6000, .inl e14_8))] → va_S A s.heap H locs → lv_has ls 7 [(6, .int x6_16), (5, .int x5_16), (4, .int u0_15), (3, .int u0_14), (0, .ref mo), (1, .int a1), (2, .int a2)] → W p l e ({ frames := 3, cells := 0, slots := 0, locals := 68 } : Room) s m (([.ref mo, .int a1, .int a2] : List Value).toArray) below meth c H locs 0 0 Q (F0 m 204 ls [.int u0_29, .int x6_16, .ref g10]) := by
                      intro u0_29 H locs ls v0_29 hP hD hS hl
                      have h_30 : vp_in x6_16 40 := in_I (by omega) (by omega)
                      refine va_zast hx hb hK.1 hP hD hS 6 2 rfl rfl (i := x6_16) h_30 dX12_merge_204 (fun H locs hP hD hS => ?_)
                      obtain ⟨f_31, ef_31⟩ : ∃ g : Nat → Int32, g = upd c_g10_16 x6_16.toNatClampNeg (vp_nar .boolean u0_29) := ⟨_, rfl⟩
                      refine pd_K (D := D) (cl := vwCl) (H := H) (A := A) [(mo, .inr (12, [.int 0, .int s1, .long t2, .int s3, .int s4, .ref g5, .ref g6, .ref g7, .ref g8, .ref g9, .ref g10, .int n11_5, .ref g12, .ref g13, .ref g14, .ref g15, .ref g16, .ref g17, .ref g18, .ref g19, .ref g20, .int s21, .ref g22, .ref g23, .ref g24, .int s25, .int s26, .int s27, .int s28, .ref g29, .ref g30, .ref g31, .ref g32, .ref g33])), (g5, .inl (cy 0, 40, .inl f5)), (g6, .inl (cy 0, 40, .inl f_25)), (g7, .inl (cy 0, 40, .inl f_28)), (g8, .inl (cy 0, 40, .inl f8)), (g9, .inl (cy 0, 40, .inl f9)), (g10, .inl (cy 2, 40, .inl f_31)), (g12, .inl (cy 0, 30, .inl e12_6)), (g13, .inl (cy 0, 30, .inl e13_7)), (g14, .inl (cy 0, 6000, .inl e14_8))] (by rw [ef_31]; exact hP) (by rw [ef_31]; exact hD) (fun hP hD => ?_)
                      have hms_ : ∀ n2 : Int32, n2.toInt = x6_16.toInt + 1 → mrgd u0_14.toInt u0_15.toInt f6 f7 f10 f_25 f_28 f_31 n2.toInt := fun n2 e2 => mrgd_st v2_16 (by omega) e2 hms0_ ef_25 ef_28 ef_31 v0_23.1 v0_26.1 (nar_if v0_29)
                      refine lv_iload hx hb dX12_merge_205 (lv_at hl 1 rfl) ?_
                      have JOIN_32 : ∀ (u0_32 : Int32) (H : Heap) (locs : List Loc) (ls : Array Slot), va_P D vwCl [(mo, .inr (12, [.int 0, .int s1, .long t2, .int s3, .int s4, .ref g5, .ref g6, .ref g7, .ref g8, .ref g9, .ref g10, .int n11_5, .ref g12, .ref g13, .ref g14, .ref g15, .ref g16, .ref g17, .ref g18, .ref g19, .ref g20, .int s21, .ref g22, .ref g23, .ref g24, .int s25, .int s26, .int s27, .int s28, .ref g29, .ref g30, .ref g31, .ref g32, .ref g33])), (g5, .inl (cy 0, 40, .inl f5)), (g6, .inl (cy 0, 40, .inl f_25)), (g7, .inl (cy 0, 40, .inl f_28)), (g8, .inl (cy 0, 40, .inl f8)), (g9, .inl (cy 0, 40, .inl f9)), (g10, .inl (cy 2, 40, .inl f_31)), (g12, .inl (cy 0, 30, .inl e12_6)), (g13, .inl (cy 0, 30, .inl e13_7)), (g14, .inl (cy 0, 6000, .inl e14_8))] H → va_D A [(mo, .inr (12, [.int 0, .int s1, .long t2, .int s3, .int s4, .ref g5, .ref g6, .ref g7, .ref g8, .ref g9, .ref g10, .int n11_5, .ref g12, .ref g13, .ref g14, .ref g15, .ref g16, .ref g17, .ref g18, .ref g19, .ref g20, .int s21, .ref g22, .ref g23, .ref g24, .int s25, .int s26, .int s27, .int s28, .ref g29, .ref g30, .ref g31, .ref g32, .ref g33])), (g5, .inl (cy 0, 40, .inl f5)), (g6, .inl (cy 0, 40, .inl f_25)), (g7, .inl (cy 0, 40, .inl f_28)), (g8, .inl (cy 0, 40, .inl f8)), (g9, .inl (cy 0, 40, .inl f9)), (g10, .inl (cy 2, 40, .inl f_31)), (g12, .inl (cy 0, 30, .inl e12_6)), (g13, .inl (cy 0, 30, .inl e13_7)), (g14, .inl (cy 0, 6000, .inl e14_8))] → va_S A s.heap H locs → lv_has ls 7 [(6, .int x6_16), (5, .int x5_16), (4, .int u0_15), (3, .int u0_14), (0, .ref mo), (1, .int a1), (2, .int a2)] → W p l e ({ frames := 3, cells := 0, slots := 0, locals := 68 } : Room) s m (([.ref mo, .int a1, .int a2] : List Value).toArray) below meth c H locs 0 0 Q (F0 m 222 ls [.int u0_32, .int x5_16]) := by
                        intro u0_32 H locs ls hP hD hS hl
                        refine lv_iadd hx hb dX12_merge_222 ?_
                        refine lv_topi (fun y_33 ey_33 => ?_)
                        refine lv_istore (lv' := [(5, .int y_33), (6, .int x6_16), (4, .int u0_15), (3, .int u0_14), (0, .ref mo), (1, .int a1), (2, .int a2)]) hx hb dX12_merge_223 hl (by decide) rfl (fun ls hl => ?_)
                        obtain ⟨y_34, ey_34⟩ : ∃ y : Int32, y = x6_16 + 1 := ⟨_, rfl⟩
                        have ty_34 : y_34.toInt = x6_16.toInt + (1 : Int32).toInt := by rw [ey_34]; exact addI (by omega) (by omega)
                        refine lv_iinc (v := y_34) (lv' := [(6, .int y_34), (5, .int y_33), (4, .int u0_15), (3, .int u0_14), (0, .ref mo), (1, .int a1), (2, .int a2)]) hx hb dX12_merge_225 hl (k := 1) rfl (by rw [ey_34]; rfl) (by decide) rfl (fun ls hl => ?_)
                        refine lv_goto (tgt := 49) hx hb dX12_merge_228 (by decide) ?_
                        exact ih_16 y_34 y_33 f_25 f_28 f_31 _ _ _ (by omega) (by first | with_reducible assumption | omega | assumption) (by first | with_reducible assumption | omega | assumption) (by first | exact mrgd_0 | exact hms_ y_34 (by omega) | exact mrgd_skip v2_16 (by omega) (by omega) (by omega)) (by first | with_reducible assumption | assumption | exact rng_zero (by omega) (by omega) | exact orng_zero) (by first | with_reducible assumption | assumption | exact rng_zero (by omega) (by omega) | exact orng_zero) hP hD hS (lv_sub hl [0, 1, 2, 3, 4, 5, 6] rfl)
                      refine lv_aload_n hx hb dX12_merge_207 rfl (lv_at hl 4 rfl) ?_
                      refine va_get (ci := 12) (v := .ref g10) (C := RX12) (T := TX12) (N := 34) hx hb hts (fun _ h => List.mem_cons_of_mem _ (List.mem_append_right _ h)) hown hK.1 hP 0 rfl rfl 10 (by decide) (hts (.fieldLink RX12 25 "CutAtlasModel" "isMissing" "[Z") (by decide +kernel)) (fun _ h9 => h9) rfl dX12_merge_208 ?_
                      refine lv_iload hx hb dX12_merge_211 (lv_at hl 0 rfl) ?_
                      have h_35 : vp_in x6_16 40 := in_I (by omega) (by omega)
                      refine va_zald hx hb hK.1 hP 6 2 rfl rfl (i := x6_16) h_35 dX12_merge_213 ?_
                      refine lv_topi (fun y_36 ey_36 => ?_)
                      have ky_36 : y_36.toInt = (f_31 x6_16.toNatClampNeg).toInt := by rw [ey_36]
                      refine lv_if_eq (tgt := 221) hx hb dX12_merge_214 (by decide) (fun c_37 => ?_) (fun c_37 => ?_)
                      · have t_37 : y_36.toInt = (0 : Int32).toInt := congrArg Int32.toInt c_37
                        refine lv_iconst (v := 0) hx hb dX12_merge_221 (by decide) ?_
                        exact JOIN_32 (0 : Int32) _ _ _ hP hD hS (lv_sub hl [0, 1, 2, 3, 4, 5, 6] rfl)
                      · have t_37 : ¬ y_36.toInt = (0 : Int32).toInt := fun h => c_37 (Int32.toInt_inj.mp h)
                        refine lv_iconst (v := 1) hx hb dX12_merge_217 (by decide) ?_
                        refine lv_goto (tgt := 222) hx hb dX12_merge_218 (by decide) ?_
                        exact JOIN_32 (1 : Int32) _ _ _ hP hD hS (lv_sub hl [0, 1, 2, 3, 4, 5, 6] rfl)
                    refine lv_aload_n hx hb dX12_merge_182 rfl (lv_at hl 4 rfl) ?_
                    refine va_get (ci := 12) (v := .ref g6) (C := RX12) (T := TX12) (N := 34) hx hb hts (fun _ h => List.mem_cons_of_mem _ (List.mem_append_right _ h)) hown hK.1 hP 0 rfl rfl 6 (by decide) (hts (.fieldLink RX12 13 "CutAtlasModel" "from" "[I") (by decide +kernel)) (fun _ h9 => h9) rfl dX12_merge_183 ?_
                    refine lv_iload hx hb dX12_merge_186 (lv_at hl 0 rfl) ?_
                    have h_38 : vp_in x6_16 40 := in_I (by omega) (by omega)
                    refine va_iald hx hb hK.1 hP 2 0 rfl rfl (i := x6_16) h_38 dX12_merge_188 ?_
                    refine lv_topi (fun y_39 ey_39 => ?_)
                    have ky_39 : y_39.toInt = (f_25 x6_16.toNatClampNeg).toInt := by rw [ey_39]
                    have ry_39 : 0 ≤ y_39.toInt ∧ y_39.toInt ≤ 11 := by rw [ey_39]; exact rf_25 _ (in_lt h_38)
                    refine lv_aload_n hx hb dX12_merge_189 rfl (lv_at hl 4 rfl) ?_
                    refine va_get (ci := 12) (v := .ref g7) (C := RX12) (T := TX12) (N := 34) hx hb hts (fun _ h => List.mem_cons_of_mem _ (List.mem_append_right _ h)) hown hK.1 hP 0 rfl rfl 7 (by decide) (hts (.fieldLink RX12 16 "CutAtlasModel" "to" "[I") (by decide +kernel)) (fun _ h9 => h9) rfl dX12_merge_190 ?_
                    refine lv_iload hx hb dX12_merge_193 (lv_at hl 0 rfl) ?_
                    have h_40 : vp_in x6_16 40 := in_I (by omega) (by omega)
                    refine va_iald hx hb hK.1 hP 3 0 rfl rfl (i := x6_16) h_40 dX12_merge_195 ?_
                    refine lv_topi (fun y_41 ey_41 => ?_)
                    have ky_41 : y_41.toInt = (f_28 x6_16.toNatClampNeg).toInt := by rw [ey_41]
                    have ry_41 : 0 ≤ y_41.toInt ∧ y_41.toInt ≤ 11 := by rw [ey_41]; exact rf_28 _ (in_lt h_40)
                    refine lv_icmp_ne (tgt := 203) hx hb dX12_merge_196 (by decide) (fun c_42 => ?_) (fun c_42 => ?_)
                    · have t_42 : ¬ y_39.toInt = y_41.toInt := fun h => c_42 (Int32.toInt_inj.mp h)
                      refine lv_iconst (v := 0) hx hb dX12_merge_203 (by decide) ?_
                      exact JOIN_29 (0 : Int32) _ _ _ (by first | (rw [if_pos (by omega)]; decide) | (rw [if_neg (by omega)]; decide)) hP hD hS (lv_sub hl [0, 1, 2, 3, 4, 5, 6] rfl)
                    · have t_42 : y_39.toInt = y_41.toInt := congrArg Int32.toInt c_42
                      refine lv_iconst (v := 1) hx hb dX12_merge_199 (by decide) ?_
                      refine lv_goto (tgt := 204) hx hb dX12_merge_200 (by decide) ?_
                      exact JOIN_29 (1 : Int32) _ _ _ (by first | (rw [if_pos (by omega)]; decide) | (rw [if_neg (by omega)]; decide)) hP hD hS (lv_sub hl [0, 1, 2, 3, 4, 5, 6] rfl)
                  refine lv_aload_n hx hb dX12_merge_128 rfl (lv_at hl 4 rfl) ?_
                  refine va_get (ci := 12) (v := .ref g7) (C := RX12) (T := TX12) (N := 34) hx hb hts (fun _ h => List.mem_cons_of_mem _ (List.mem_append_right _ h)) hown hK.1 hP 0 rfl rfl 7 (by decide) (hts (.fieldLink RX12 16 "CutAtlasModel" "to" "[I") (by decide +kernel)) (fun _ h9 => h9) rfl dX12_merge_129 ?_
                  refine lv_iload hx hb dX12_merge_132 (lv_at hl 0 rfl) ?_
                  have h_43 : vp_in x6_16 40 := in_I (by omega) (by omega)
                  refine va_iald hx hb hK.1 hP 3 0 rfl rfl (i := x6_16) h_43 dX12_merge_134 ?_
                  refine lv_topi (fun y_44 ey_44 => ?_)
                  have ky_44 : y_44.toInt = (c_g7_16 x6_16.toNatClampNeg).toInt := by rw [ey_44]
                  have ry_44 : 0 ≤ y_44.toInt ∧ y_44.toInt ≤ 11 := by rw [ey_44]; exact rc_g7_16 _ (in_lt h_43)
                  refine lv_iload hx hb dX12_merge_135 (lv_at hl 2 rfl) ?_
                  refine lv_icmp_ne (tgt := 144) hx hb dX12_merge_137 (by decide) (fun c_45 => ?_) (fun c_45 => ?_)
                  · have t_45 : ¬ y_44.toInt = u0_15.toInt := fun h => c_45 (Int32.toInt_inj.mp h)
                    refine lv_aload_n hx hb dX12_merge_144 rfl (lv_at hl 4 rfl) ?_
                    refine va_get (ci := 12) (v := .ref g7) (C := RX12) (T := TX12) (N := 34) hx hb hts (fun _ h => List.mem_cons_of_mem _ (List.mem_append_right _ h)) hown hK.1 hP 0 rfl rfl 7 (by decide) (hts (.fieldLink RX12 16 "CutAtlasModel" "to" "[I") (by decide +kernel)) (fun _ h9 => h9) rfl dX12_merge_145 ?_
                    refine lv_iload hx hb dX12_merge_148 (lv_at hl 0 rfl) ?_
                    have h_46 : vp_in x6_16 40 := in_I (by omega) (by omega)
                    refine va_iald hx hb hK.1 hP 3 0 rfl rfl (i := x6_16) h_46 dX12_merge_150 ?_
                    refine lv_topi (fun y_47 ey_47 => ?_)
                    have e_ := (ey_47.trans ey_44.symm).symm
                    subst e_
                    skip
                    refine lv_iload hx hb dX12_merge_151 (lv_at hl 2 rfl) ?_
                    refine lv_icmp_le (tgt := 168) hx hb dX12_merge_153 (by decide) (fun c_48 => ?_) (fun c_48 => ?_)
                    · have t_48 : y_44.toInt ≤ u0_15.toInt := Int32.le_iff_toInt_le.mp c_48
                      refine lv_aload_n hx hb dX12_merge_168 rfl (lv_at hl 4 rfl) ?_
                      refine va_get (ci := 12) (v := .ref g7) (C := RX12) (T := TX12) (N := 34) hx hb hts (fun _ h => List.mem_cons_of_mem _ (List.mem_append_right _ h)) hown hK.1 hP 0 rfl rfl 7 (by decide) (hts (.fieldLink RX12 16 "CutAtlasModel" "to" "[I") (by decide +kernel)) (fun _ h9 => h9) rfl dX12_merge_169 ?_
                      refine lv_iload hx hb dX12_merge_172 (lv_at hl 0 rfl) ?_
                      have h_49 : vp_in x6_16 40 := in_I (by omega) (by omega)
                      refine va_iald hx hb hK.1 hP 3 0 rfl rfl (i := x6_16) h_49 dX12_merge_174 ?_
                      refine lv_topi (fun y_50 ey_50 => ?_)
                      have e_ := (ey_50.trans ey_44.symm).symm
                      subst e_
                      skip
                      exact JOIN_26 y_44 _ _ _ (by unfold renI; (repeat' split) <;> omega) hP hD hS (lv_sub hl [0, 1, 2, 3, 4, 5, 6] rfl)
                    · have t_48 : ¬ y_44.toInt ≤ u0_15.toInt := fun h => c_48 (Int32.le_iff_toInt_le.mpr h)
                      refine lv_aload_n hx hb dX12_merge_156 rfl (lv_at hl 4 rfl) ?_
                      refine va_get (ci := 12) (v := .ref g7) (C := RX12) (T := TX12) (N := 34) hx hb hts (fun _ h => List.mem_cons_of_mem _ (List.mem_append_right _ h)) hown hK.1 hP 0 rfl rfl 7 (by decide) (hts (.fieldLink RX12 16 "CutAtlasModel" "to" "[I") (by decide +kernel)) (fun _ h9 => h9) rfl dX12_merge_157 ?_
                      refine lv_iload hx hb dX12_merge_160 (lv_at hl 0 rfl) ?_
                      have h_51 : vp_in x6_16 40 := in_I (by omega) (by omega)
                      refine va_iald hx hb hK.1 hP 3 0 rfl rfl (i := x6_16) h_51 dX12_merge_162 ?_
                      refine lv_topi (fun y_52 ey_52 => ?_)
                      have e_ := (ey_52.trans ey_44.symm).symm
                      subst e_
                      skip
                      refine lv_iconst (v := 1) hx hb dX12_merge_163 (by decide) ?_
                      refine lv_isub hx hb dX12_merge_164 ?_
                      refine lv_topi (fun y_53 ey_53 => ?_)
                      have ty_53 : y_53.toInt = y_44.toInt - (1 : Int32).toInt := by rw [ey_53]; exact subI (by omega) (by omega)
                      refine lv_goto (tgt := 175) hx hb dX12_merge_165 (by decide) ?_
                      exact JOIN_26 y_53 _ _ _ (by unfold renI; (repeat' split) <;> omega) hP hD hS (lv_sub hl [0, 1, 2, 3, 4, 5, 6] rfl)
                  · have t_45 : y_44.toInt = u0_15.toInt := congrArg Int32.toInt c_45
                    refine lv_iload_n hx hb dX12_merge_140 rfl (lv_at hl 3 rfl) ?_
                    refine lv_goto (tgt := 175) hx hb dX12_merge_141 (by decide) ?_
                    exact JOIN_26 u0_14 _ _ _ (by unfold renI; (repeat' split) <;> omega) hP hD hS (lv_sub hl [0, 1, 2, 3, 4, 5, 6] rfl)
                refine lv_aload_n hx hb dX12_merge_74 rfl (lv_at hl 4 rfl) ?_
                refine va_get (ci := 12) (v := .ref g6) (C := RX12) (T := TX12) (N := 34) hx hb hts (fun _ h => List.mem_cons_of_mem _ (List.mem_append_right _ h)) hown hK.1 hP 0 rfl rfl 6 (by decide) (hts (.fieldLink RX12 13 "CutAtlasModel" "from" "[I") (by decide +kernel)) (fun _ h9 => h9) rfl dX12_merge_75 ?_
                refine lv_iload hx hb dX12_merge_78 (lv_at hl 0 rfl) ?_
                have h_54 : vp_in x6_16 40 := in_I (by omega) (by omega)
                refine va_iald hx hb hK.1 hP 2 0 rfl rfl (i := x6_16) h_54 dX12_merge_80 ?_
                refine lv_topi (fun y_55 ey_55 => ?_)
                have ky_55 : y_55.toInt = (c_g6_16 x6_16.toNatClampNeg).toInt := by rw [ey_55]
                have ry_55 : 0 ≤ y_55.toInt ∧ y_55.toInt ≤ 11 := by rw [ey_55]; exact rc_g6_16 _ (in_lt h_54)
                refine lv_iload hx hb dX12_merge_81 (lv_at hl 2 rfl) ?_
                refine lv_icmp_ne (tgt := 90) hx hb dX12_merge_83 (by decide) (fun c_56 => ?_) (fun c_56 => ?_)
                · have t_56 : ¬ y_55.toInt = u0_15.toInt := fun h => c_56 (Int32.toInt_inj.mp h)
                  refine lv_aload_n hx hb dX12_merge_90 rfl (lv_at hl 4 rfl) ?_
                  refine va_get (ci := 12) (v := .ref g6) (C := RX12) (T := TX12) (N := 34) hx hb hts (fun _ h => List.mem_cons_of_mem _ (List.mem_append_right _ h)) hown hK.1 hP 0 rfl rfl 6 (by decide) (hts (.fieldLink RX12 13 "CutAtlasModel" "from" "[I") (by decide +kernel)) (fun _ h9 => h9) rfl dX12_merge_91 ?_
                  refine lv_iload hx hb dX12_merge_94 (lv_at hl 0 rfl) ?_
                  have h_57 : vp_in x6_16 40 := in_I (by omega) (by omega)
                  refine va_iald hx hb hK.1 hP 2 0 rfl rfl (i := x6_16) h_57 dX12_merge_96 ?_
                  refine lv_topi (fun y_58 ey_58 => ?_)
                  have e_ := (ey_58.trans ey_55.symm).symm
                  subst e_
                  skip
                  refine lv_iload hx hb dX12_merge_97 (lv_at hl 2 rfl) ?_
                  refine lv_icmp_le (tgt := 114) hx hb dX12_merge_99 (by decide) (fun c_59 => ?_) (fun c_59 => ?_)
                  · have t_59 : y_55.toInt ≤ u0_15.toInt := Int32.le_iff_toInt_le.mp c_59
                    refine lv_aload_n hx hb dX12_merge_114 rfl (lv_at hl 4 rfl) ?_
                    refine va_get (ci := 12) (v := .ref g6) (C := RX12) (T := TX12) (N := 34) hx hb hts (fun _ h => List.mem_cons_of_mem _ (List.mem_append_right _ h)) hown hK.1 hP 0 rfl rfl 6 (by decide) (hts (.fieldLink RX12 13 "CutAtlasModel" "from" "[I") (by decide +kernel)) (fun _ h9 => h9) rfl dX12_merge_115 ?_
                    refine lv_iload hx hb dX12_merge_118 (lv_at hl 0 rfl) ?_
                    have h_60 : vp_in x6_16 40 := in_I (by omega) (by omega)
                    refine va_iald hx hb hK.1 hP 2 0 rfl rfl (i := x6_16) h_60 dX12_merge_120 ?_
                    refine lv_topi (fun y_61 ey_61 => ?_)
                    have e_ := (ey_61.trans ey_55.symm).symm
                    subst e_
                    skip
                    exact JOIN_23 y_55 _ _ _ (by unfold renI; (repeat' split) <;> omega) hP hD hS (lv_sub hl [0, 1, 2, 3, 4, 5, 6] rfl)
                  · have t_59 : ¬ y_55.toInt ≤ u0_15.toInt := fun h => c_59 (Int32.le_iff_toInt_le.mpr h)
                    refine lv_aload_n hx hb dX12_merge_102 rfl (lv_at hl 4 rfl) ?_
                    refine va_get (ci := 12) (v := .ref g6) (C := RX12) (T := TX12) (N := 34) hx hb hts (fun _ h => List.mem_cons_of_mem _ (List.mem_append_right _ h)) hown hK.1 hP 0 rfl rfl 6 (by decide) (hts (.fieldLink RX12 13 "CutAtlasModel" "from" "[I") (by decide +kernel)) (fun _ h9 => h9) rfl dX12_merge_103 ?_
                    refine lv_iload hx hb dX12_merge_106 (lv_at hl 0 rfl) ?_
                    have h_62 : vp_in x6_16 40 := in_I (by omega) (by omega)
                    refine va_iald hx hb hK.1 hP 2 0 rfl rfl (i := x6_16) h_62 dX12_merge_108 ?_
                    refine lv_topi (fun y_63 ey_63 => ?_)
                    have e_ := (ey_63.trans ey_55.symm).symm
                    subst e_
                    skip
                    refine lv_iconst (v := 1) hx hb dX12_merge_109 (by decide) ?_
                    refine lv_isub hx hb dX12_merge_110 ?_
                    refine lv_topi (fun y_64 ey_64 => ?_)
                    have ty_64 : y_64.toInt = y_55.toInt - (1 : Int32).toInt := by rw [ey_64]; exact subI (by omega) (by omega)
                    refine lv_goto (tgt := 121) hx hb dX12_merge_111 (by decide) ?_
                    exact JOIN_23 y_64 _ _ _ (by unfold renI; (repeat' split) <;> omega) hP hD hS (lv_sub hl [0, 1, 2, 3, 4, 5, 6] rfl)
                · have t_56 : y_55.toInt = u0_15.toInt := congrArg Int32.toInt c_56
                  refine lv_iload_n hx hb dX12_merge_86 rfl (lv_at hl 3 rfl) ?_
                  refine lv_goto (tgt := 121) hx hb dX12_merge_87 (by decide) ?_
                  exact JOIN_23 u0_14 _ _ _ (by unfold renI; (repeat' split) <;> omega) hP hD hS (lv_sub hl [0, 1, 2, 3, 4, 5, 6] rfl)
        refine lv_iload_n hx hb dX12_merge_31 rfl (lv_at hl 2 rfl) ?_
        refine lv_iload_n hx hb dX12_merge_32 rfl (lv_at hl 3 rfl) ?_
        refine lv_icmp_ge (tgt := 40) hx hb dX12_merge_33 (by decide) (fun c_65 => ?_) (fun c_65 => ?_)
        · have t_65 : a2.toInt ≤ a1.toInt := Int32.le_iff_toInt_le.mp c_65
          refine lv_iload_n hx hb dX12_merge_40 rfl (lv_at hl 2 rfl) ?_
          exact JOIN_15 a1 _ _ _ (by first | with_reducible assumption | assumption | omega) (by first | with_reducible assumption | omega | assumption) hP hD hS (lv_sub hl [0, 1, 2, 3] rfl)
        · have t_65 : ¬ a2.toInt ≤ a1.toInt := fun h => c_65 (Int32.le_iff_toInt_le.mpr h)
          refine lv_iload_n hx hb dX12_merge_36 rfl (lv_at hl 3 rfl) ?_
          refine lv_goto (tgt := 41) hx hb dX12_merge_37 (by decide) ?_
          exact JOIN_15 a2 _ _ _ (by first | with_reducible assumption | assumption | omega) (by first | with_reducible assumption | omega | assumption) hP hD hS (lv_sub hl [0, 1, 2, 3] rfl)
      refine lv_iload_n hx hb dX12_merge_20 rfl (lv_at hl 1 rfl) ?_
      refine lv_iload_n hx hb dX12_merge_21 rfl (lv_at hl 2 rfl) ?_
      refine lv_icmp_ge (tgt := 29) hx hb dX12_merge_22 (by decide) (fun c_66 => ?_) (fun c_66 => ?_)
      · have t_66 : a2.toInt ≤ a1.toInt := Int32.le_iff_toInt_le.mp c_66
        refine lv_iload_n hx hb dX12_merge_29 rfl (lv_at hl 2 rfl) ?_
        exact JOIN_14 a2 _ _ _ (by first | with_reducible assumption | assumption | omega) hP hD hS (lv_sub hl [0, 1, 2] rfl)
      · have t_66 : ¬ a2.toInt ≤ a1.toInt := fun h => c_66 (Int32.le_iff_toInt_le.mpr h)
        refine lv_iload_n hx hb dX12_merge_25 rfl (lv_at hl 1 rfl) ?_
        refine lv_goto (tgt := 30) hx hb dX12_merge_26 (by decide) ?_
        exact JOIN_14 a1 _ _ _ (by first | with_reducible assumption | assumption | omega) hP hD hS (lv_sub hl [0, 1, 2] rfl)
    · exact absurd c_3 (by decide)
  · have e_ := e_.symm
    subst e_
    refine lv_if_ne (tgt := 16) hx hb dX12_merge_11 (by decide) (fun c_67 => ?_) (fun c_67 => ?_)
    · exact absurd c_67 (by decide)
    · have _ := c_67
      refine lv_iconst (v := (-1)) hx hb dX12_merge_14 (by decide) ?_
      rw [hQ]
      exact W.iret (v := (-1)) hx hb hr (fun t ht hW => ⟨⟨(-1), (), rfl, trivial, s3, s11, f6, f7, f10, f12, f13, f14, (by first | with_reducible assumption | omega | assumption), (by first | with_reducible assumption | omega | assumption), (by first | exact hne_ _ (by omega) | assumption), (by first | exact hpa_ | assumption), (by first | with_reducible assumption | assumption | exact rng_zero (by omega) (by omega) | omega), (by first | with_reducible assumption | assumption | exact rng_zero (by omega) (by omega) | omega), (by first | with_reducible assumption | assumption | exact rng_zero (by omega) (by omega) | omega), (by first | with_reducible assumption | assumption | exact rng_zero (by omega) (by omega) | omega), (by first | with_reducible assumption | assumption | exact rng_zero (by omega) (by omega) | omega), by rw [ht]; exact hP, hD⟩, hS.F ht⟩) hS.2.2 dX12_merge_15
end

section
set_option maxHeartbeats 4000000 in
set_option maxRecDepth 100000 in
theorem c_X12_undo2 (l : Launch) (D : va_G) (cy : Nat → ClassId) (sz : Nat) (mo : Nat) (g5 : Nat) (g6 : Nat) (g7 : Nat) (g8 : Nat) (g9 : Nat) (g10 : Nat) (g12 : Nat) (g13 : Nat) (g14 : Nat) (g15 : Nat) (g16 : Nat) (g17 : Nat) (g18 : Nat) (g19 : Nat) (g20 : Nat) (g22 : Nat) (g23 : Nat) (g24 : Nat) (g29 : Nat) (g30 : Nat) (g31 : Nat) (g32 : Nat) (g33 : Nat) (s0 : Int32) (s1 : Int32) (s3 : Int32) (s4 : Int32) (s11 : Int32) (s21 : Int32) (s25 : Int32) (s26 : Int32) (s27 : Int32) (s28 : Int32) (t2 : Int64) (f5 : Nat → Int32) (f6 : Nat → Int32) (f7 : Nat → Int32) (f8 : Nat → Int32) (f9 : Nat → Int32) (f10 : Nat → Int32) (f12 : Nat → Int32) (f13 : Nat → Int32) (f14 : Nat → Int32) (hN : 0 ≤ s4.toInt ∧ s4.toInt ≤ 40) (hPl : 0 ≤ s3.toInt ∧ s3.toInt ≤ 12) (hU : 0 ≤ s11.toInt ∧ s11.toInt ≤ 30) (hnet : netE s3.toInt s4.toInt f6 f7 f10) (hpast : pastE s11.toInt f12 f13 f14) (r_f6 : rng f6 40 (0) (11)) (r_f7 : rng f7 40 (0) (11)) (r_f8 : rng f8 40 (0) (2000)) (r_f9 : rng f9 40 (0) (100)) (r_f12 : rng f12 30 (0) (12)) (r_f13 : rng f13 30 (0) (40)) (r_f14 : orng f14 6000) : Met l yX12_undo wsX12_undo ({ frames := 0, cells := 0, slots := 0, locals := 0 }) (va_Pc [.ref mo] (fun U => U.heap.size = sz ∧ va_P D vwCl [(mo, .inr (12, [.int s0, .int s1, .long t2, .int s3, .int s4, .ref g5, .ref g6, .ref g7, .ref g8, .ref g9, .ref g10, .int s11, .ref g12, .ref g13, .ref g14, .ref g15, .ref g16, .ref g17, .ref g18, .ref g19, .ref g20, .int s21, .ref g22, .ref g23, .ref g24, .int s25, .int s26, .int s27, .int s28, .ref g29, .ref g30, .ref g31, .ref g32, .ref g33])), (g5, .inl (cy 0, 40, .inl f5)), (g6, .inl (cy 0, 40, .inl f6)), (g7, .inl (cy 0, 40, .inl f7)), (g8, .inl (cy 0, 40, .inl f8)), (g9, .inl (cy 0, 40, .inl f9)), (g10, .inl (cy 2, 40, .inl f10)), (g12, .inl (cy 0, 30, .inl f12)), (g13, .inl (cy 0, 30, .inl f13)), (g14, .inl (cy 0, 6000, .inl f14))] U.heap ∧ kk_ D cy U ∧ va_D (fun _ => True) [(mo, .inr (12, [.int s0, .int s1, .long t2, .int s3, .int s4, .ref g5, .ref g6, .ref g7, .ref g8, .ref g9, .ref g10, .int s11, .ref g12, .ref g13, .ref g14, .ref g15, .ref g16, .ref g17, .ref g18, .ref g19, .ref g20, .int s21, .ref g22, .ref g23, .ref g24, .int s25, .int s26, .int s27, .int s28, .ref g29, .ref g30, .ref g31, .ref g32, .ref g33])), (g5, .inl (cy 0, 40, .inl f5)), (g6, .inl (cy 0, 40, .inl f6)), (g7, .inl (cy 0, 40, .inl f7)), (g8, .inl (cy 0, 40, .inl f8)), (g9, .inl (cy 0, 40, .inl f9)), (g10, .inl (cy 2, 40, .inl f10)), (g12, .inl (cy 0, 30, .inl f12)), (g13, .inl (cy 0, 30, .inl f13)), (g14, .inl (cy 0, 6000, .inl f14))])) (va_Qi (fun (r : Int32) (_ : Unit) => True) (fun (_ : Unit) (t : State) => ∃ (n3 : Int32), ∃ (n4 : Int32), ∃ (n11 : Int32), ∃ (e5 : Nat → Int32), ∃ (e6 : Nat → Int32), ∃ (e7 : Nat → Int32), ∃ (e8 : Nat → Int32), ∃ (e9 : Nat → Int32), ∃ (e10 : Nat → Int32), (0 ≤ n3.toInt ∧ n3.toInt ≤ 12) ∧ (0 ≤ n4.toInt ∧ n4.toInt ≤ 40) ∧ (0 ≤ n11.toInt ∧ n11.toInt ≤ 30) ∧ (netE n3.toInt n4.toInt e6 e7 e10) ∧ (pastE n11.toInt f12 f13 f14) ∧ (rng e6 40 (0) (11)) ∧ (rng e7 40 (0) (11)) ∧ (rng e8 40 (0) (2000)) ∧ (rng e9 40 (0) (100)) ∧ va_P D vwCl [(mo, .inr (12, [.int 0, .int s1, .long t2, .int n3, .int n4, .ref g5, .ref g6, .ref g7, .ref g8, .ref g9, .ref g10, .int n11, .ref g12, .ref g13, .ref g14, .ref g15, .ref g16, .ref g17, .ref g18, .ref g19, .ref g20, .int s21, .ref g22, .ref g23, .ref g24, .int s25, .int s26, .int s27, .int s28, .ref g29, .ref g30, .ref g31, .ref g32, .ref g33])), (g5, .inl (cy 0, 40, .inl e5)), (g6, .inl (cy 0, 40, .inl e6)), (g7, .inl (cy 0, 40, .inl e7)), (g8, .inl (cy 0, 40, .inl e8)), (g9, .inl (cy 0, 40, .inl e9)), (g10, .inl (cy 2, 40, .inl e10)), (g12, .inl (cy 0, 30, .inl f12)), (g13, .inl (cy 0, 30, .inl f13)), (g14, .inl (cy 0, 6000, .inl f14))] t.heap ∧ va_D (va_A [(mo, .inr (12, [.int s0, .int s1, .long t2, .int s3, .int s4, .ref g5, .ref g6, .ref g7, .ref g8, .ref g9, .ref g10, .int s11, .ref g12, .ref g13, .ref g14, .ref g15, .ref g16, .ref g17, .ref g18, .ref g19, .ref g20, .int s21, .ref g22, .ref g23, .ref g24, .int s25, .int s26, .int s27, .int s28, .ref g29, .ref g30, .ref g31, .ref g32, .ref g33])), (g5, .inl (cy 0, 40, .inl f5)), (g6, .inl (cy 0, 40, .inl f6)), (g7, .inl (cy 0, 40, .inl f7)), (g8, .inl (cy 0, 40, .inl f8)), (g9, .inl (cy 0, 40, .inl f9)), (g10, .inl (cy 2, 40, .inl f10)), (g12, .inl (cy 0, 30, .inl f12)), (g13, .inl (cy 0, 30, .inl f13)), (g14, .inl (cy 0, 6000, .inl f14))] sz) [(mo, .inr (12, [.int 0, .int s1, .long t2, .int n3, .int n4, .ref g5, .ref g6, .ref g7, .ref g8, .ref g9, .ref g10, .int n11, .ref g12, .ref g13, .ref g14, .ref g15, .ref g16, .ref g17, .ref g18, .ref g19, .ref g20, .int s21, .ref g22, .ref g23, .ref g24, .int s25, .int s26, .int s27, .int s28, .ref g29, .ref g30, .ref g31, .ref g32, .ref g33])), (g5, .inl (cy 0, 40, .inl e5)), (g6, .inl (cy 0, 40, .inl e6)), (g7, .inl (cy 0, 40, .inl e7)), (g8, .inl (cy 0, 40, .inl e8)), (g9, .inl (cy 0, 40, .inl e9)), (g10, .inl (cy 2, 40, .inl e10)), (g12, .inl (cy 0, 30, .inl f12)), (g13, .inl (cy 0, 30, .inl f13)), (g14, .inl (cy 0, 6000, .inl f14))]) (va_A [(mo, .inr (12, [.int s0, .int s1, .long t2, .int s3, .int s4, .ref g5, .ref g6, .ref g7, .ref g8, .ref g9, .ref g10, .int s11, .ref g12, .ref g13, .ref g14, .ref g15, .ref g16, .ref g17, .ref g18, .ref g19, .ref g20, .int s21, .ref g22, .ref g23, .ref g24, .int s25, .int s26, .int s27, .int s28, .ref g29, .ref g30, .ref g31, .ref g32, .ref g33])), (g5, .inl (cy 0, 40, .inl f5)), (g6, .inl (cy 0, 40, .inl f6)), (g7, .inl (cy 0, 40, .inl f7)), (g8, .inl (cy 0, 40, .inl f8)), (g9, .inl (cy 0, 40, .inl f9)), (g10, .inl (cy 2, 40, .inl f10)), (g12, .inl (cy 0, 30, .inl f12)), (g13, .inl (cy 0, 30, .inl f13)), (g14, .inl (cy 0, 6000, .inl f14))] sz)) 0 0 (va_A [(mo, .inr (12, [.int s0, .int s1, .long t2, .int s3, .int s4, .ref g5, .ref g6, .ref g7, .ref g8, .ref g9, .ref g10, .int s11, .ref g12, .ref g13, .ref g14, .ref g15, .ref g16, .ref g17, .ref g18, .ref g19, .ref g20, .int s21, .ref g22, .ref g23, .ref g24, .int s25, .int s26, .int s27, .int s28, .ref g29, .ref g30, .ref g31, .ref g32, .ref g33])), (g5, .inl (cy 0, 40, .inl f5)), (g6, .inl (cy 0, 40, .inl f6)), (g7, .inl (cy 0, 40, .inl f7)), (g8, .inl (cy 0, 40, .inl f8)), (g9, .inl (cy 0, 40, .inl f9)), (g10, .inl (cy 2, 40, .inl f10)), (g12, .inl (cy 0, 30, .inl f12)), (g13, .inl (cy 0, 30, .inl f13)), (g14, .inl (cy 0, 6000, .inl f14))] sz) := by
  refine ofQ (cc := cX12_undo) (maxL := 3) (ret := (some .int)) (by decide) rfl ?_
  intro p e s m args below meth c s₁ Q hQ B hml hv
  obtain ⟨rfl, hsz, hP, hK, hD0⟩ := hv
  have hx := B.exec
  have hb := B.bytes
  have hr := B.returns
  have hts := atoms_spec (ws := wsX12_undo) B.pre
  have hown : s.vm.findClass RX12 = some m.cls := by have h_ := findClass_of_methodNamed B.named; exact h_
  have hlocks := B.notSynchronized
  subst hsz
  have hD := hD0.self (sz := s.heap.size)
  generalize hAe : va_A [(mo, .inr (12, [.int s0, .int s1, .long t2, .int s3, .int s4, .ref g5, .ref g6, .ref g7, .ref g8, .ref g9, .ref g10, .int s11, .ref g12, .ref g13, .ref g14, .ref g15, .ref g16, .ref g17, .ref g18, .ref g19, .ref g20, .int s21, .ref g22, .ref g23, .ref g24, .int s25, .int s26, .int s27, .int s28, .ref g29, .ref g30, .ref g31, .ref g32, .ref g33])), (g5, .inl (cy 0, 40, .inl f5)), (g6, .inl (cy 0, 40, .inl f6)), (g7, .inl (cy 0, 40, .inl f7)), (g8, .inl (cy 0, 40, .inl f8)), (g9, .inl (cy 0, 40, .inl f9)), (g10, .inl (cy 2, 40, .inl f10)), (g12, .inl (cy 0, 30, .inl f12)), (g13, .inl (cy 0, 30, .inl f13)), (g14, .inl (cy 0, 6000, .inl f14))] s.heap.size = A at hD hQ
  have hA : ∀ q : Nat, s.heap.size ≤ q → A q := fun q h => by rw [← hAe]; exact Or.inr h
  have hS : va_S A s.heap s.heap [] := va_S.rf
  have hl := lv_entry ([.ref mo]) (n := 3) (Nat.le_of_ble_eq_true rfl)
  rw [lg_entry_eq]
  generalize (lg_sl ([.ref mo]) ++ List.replicate (3 - (lg_sl ([.ref mo])).length) Slot.unset).toArray = ls at hl ⊢
  have hl : lv_has ls 3 [(0, .ref mo)] := hl
  have zm2 : ((-2) : Int32).toInt = -2 := by decide
  have z0 : (0 : Int32).toInt = 0 := by decide
  have z1 : (1 : Int32).toInt = 1 := by decide
  have z2 : (2 : Int32).toInt = 2 := by decide
  have z3 : (3 : Int32).toInt = 3 := by decide
  have z4 : (4 : Int32).toInt = 4 := by decide
  have z5 : (5 : Int32).toInt = 5 := by decide
  have z40 : (40 : Int32).toInt = 40 := by decide
  have z200 : (200 : Int32).toInt = 200 := by decide
  have z999 : (999 : Int32).toInt = 999 := by decide
  have z1000 : (1000 : Int32).toInt = 1000 := by decide
  refine lv_aload_n hx hb dX12_undo_0 rfl (lv_at hl 0 rfl) ?_
  refine lv_iconst (v := 0) hx hb dX12_undo_1 (by decide) ?_
  refine va_put (ci := 12) (v := .int 0) (ty := .int) (C := RX12) (T := TX12) (N := 34) hx hb hts (fun _ h => List.mem_cons_of_mem _ (List.mem_append_right _ h)) tyX12 tyX12_ok nmX12 hown hK.1 hP hD hS 0 rfl rfl 0 (by decide) (hts (.fieldLink RX12 85 "CutAtlasModel" "thrown" "I") (by decide +kernel)) (fun _ h9 => h9) rfl (by decide +kernel) rfl rfl (Nat.le_of_ble_eq_true rfl) dX12_undo_2 (fun H locs hP hD hS => ?_)
  refine pd_K [(mo, .inr (12, [.int 0, .int s1, .long t2, .int s3, .int s4, .ref g5, .ref g6, .ref g7, .ref g8, .ref g9, .ref g10, .int s11, .ref g12, .ref g13, .ref g14, .ref g15, .ref g16, .ref g17, .ref g18, .ref g19, .ref g20, .int s21, .ref g22, .ref g23, .ref g24, .int s25, .int s26, .int s27, .int s28, .ref g29, .ref g30, .ref g31, .ref g32, .ref g33])), (g5, .inl (cy 0, 40, .inl f5)), (g6, .inl (cy 0, 40, .inl f6)), (g7, .inl (cy 0, 40, .inl f7)), (g8, .inl (cy 0, 40, .inl f8)), (g9, .inl (cy 0, 40, .inl f9)), (g10, .inl (cy 2, 40, .inl f10)), (g12, .inl (cy 0, 30, .inl f12)), (g13, .inl (cy 0, 30, .inl f13)), (g14, .inl (cy 0, 6000, .inl f14))] hP hD (fun hP hD => ?_)
  refine lv_aload_n hx hb dX12_undo_5 rfl (lv_at hl 0 rfl) ?_
  refine va_get (ci := 12) (v := .int s11) (C := RX12) (T := TX12) (N := 34) hx hb hts (fun _ h => List.mem_cons_of_mem _ (List.mem_append_right _ h)) hown hK.1 hP 0 rfl rfl 11 (by decide) (hts (.fieldLink RX12 102 "CutAtlasModel" "undone" "I") (by decide +kernel)) (fun _ h9 => h9) rfl dX12_undo_6 ?_
  refine lv_if_ne (tgt := 15) hx hb dX12_undo_9 (by decide) (fun c_1 => ?_) (fun c_1 => ?_)
  · have t_1 : ¬ s11.toInt = (0 : Int32).toInt := fun h => c_1 (Int32.toInt_inj.mp h)
    refine lv_aload_n hx hb dX12_undo_15 rfl (lv_at hl 0 rfl) ?_
    refine lv_dup hx hb dX12_undo_16 rfl ?_
    refine va_get (ci := 12) (v := .int s11) (C := RX12) (T := TX12) (N := 34) hx hb hts (fun _ h => List.mem_cons_of_mem _ (List.mem_append_right _ h)) hown hK.1 hP 0 rfl rfl 11 (by decide) (hts (.fieldLink RX12 102 "CutAtlasModel" "undone" "I") (by decide +kernel)) (fun _ h9 => h9) rfl dX12_undo_17 ?_
    refine lv_iconst (v := 1) hx hb dX12_undo_20 (by decide) ?_
    refine lv_isub hx hb dX12_undo_21 ?_
    refine lv_topi (fun y_2 ey_2 => ?_)
    have ty_2 : y_2.toInt = s11.toInt - (1 : Int32).toInt := by rw [ey_2]; exact subI (by omega) (by omega)
    refine va_put (ci := 12) (v := .int y_2) (ty := .int) (C := RX12) (T := TX12) (N := 34) hx hb hts (fun _ h => List.mem_cons_of_mem _ (List.mem_append_right _ h)) tyX12 tyX12_ok nmX12 hown hK.1 hP hD hS 0 rfl rfl 11 (by decide) (hts (.fieldLink RX12 102 "CutAtlasModel" "undone" "I") (by decide +kernel)) (fun _ h9 => h9) rfl (by decide +kernel) rfl rfl (Nat.le_of_ble_eq_true rfl) dX12_undo_22 (fun H locs hP hD hS => ?_)
    refine pd_K [(mo, .inr (12, [.int 0, .int s1, .long t2, .int s3, .int s4, .ref g5, .ref g6, .ref g7, .ref g8, .ref g9, .ref g10, .int y_2, .ref g12, .ref g13, .ref g14, .ref g15, .ref g16, .ref g17, .ref g18, .ref g19, .ref g20, .int s21, .ref g22, .ref g23, .ref g24, .int s25, .int s26, .int s27, .int s28, .ref g29, .ref g30, .ref g31, .ref g32, .ref g33])), (g5, .inl (cy 0, 40, .inl f5)), (g6, .inl (cy 0, 40, .inl f6)), (g7, .inl (cy 0, 40, .inl f7)), (g8, .inl (cy 0, 40, .inl f8)), (g9, .inl (cy 0, 40, .inl f9)), (g10, .inl (cy 2, 40, .inl f10)), (g12, .inl (cy 0, 30, .inl f12)), (g13, .inl (cy 0, 30, .inl f13)), (g14, .inl (cy 0, 6000, .inl f14))] hP hD (fun hP hD => ?_)
    refine lv_aload_n hx hb dX12_undo_25 rfl (lv_at hl 0 rfl) ?_
    refine lv_aload_n hx hb dX12_undo_26 rfl (lv_at hl 0 rfl) ?_
    refine va_get (ci := 12) (v := .ref g12) (C := RX12) (T := TX12) (N := 34) hx hb hts (fun _ h => List.mem_cons_of_mem _ (List.mem_append_right _ h)) hown hK.1 hP 0 rfl rfl 12 (by decide) (hts (.fieldLink RX12 29 "CutAtlasModel" "oldPlaces" "[I") (by decide +kernel)) (fun _ h9 => h9) rfl dX12_undo_27 ?_
    refine lv_aload_n hx hb dX12_undo_30 rfl (lv_at hl 0 rfl) ?_
    refine va_get (ci := 12) (v := .int y_2) (C := RX12) (T := TX12) (N := 34) hx hb hts (fun _ h => List.mem_cons_of_mem _ (List.mem_append_right _ h)) hown hK.1 hP 0 rfl rfl 11 (by decide) (hts (.fieldLink RX12 102 "CutAtlasModel" "undone" "I") (by decide +kernel)) (fun _ h9 => h9) rfl dX12_undo_31 ?_
    have h_3 : vp_in y_2 30 := in_I (by omega) (by omega)
    refine va_iald hx hb hK.1 hP 7 0 rfl rfl (i := y_2) h_3 dX12_undo_34 ?_
    refine lv_topi (fun y_4 ey_4 => ?_)
    have ky_4 : y_4.toInt = (f12 y_2.toNatClampNeg).toInt := by rw [ey_4]
    have ry_4 : 0 ≤ y_4.toInt ∧ y_4.toInt ≤ 12 := by rw [ey_4]; exact r_f12 _ (in_lt h_3)
    refine va_put (ci := 12) (v := .int y_4) (ty := .int) (C := RX12) (T := TX12) (N := 34) hx hb hts (fun _ h => List.mem_cons_of_mem _ (List.mem_append_right _ h)) tyX12 tyX12_ok nmX12 hown hK.1 hP hD hS 0 rfl rfl 3 (by decide) (hts (.fieldLink RX12 88 "CutAtlasModel" "places" "I") (by decide +kernel)) (fun _ h9 => h9) rfl (by decide +kernel) rfl rfl (Nat.le_of_ble_eq_true rfl) dX12_undo_35 (fun H locs hP hD hS => ?_)
    refine pd_K [(mo, .inr (12, [.int 0, .int s1, .long t2, .int y_4, .int s4, .ref g5, .ref g6, .ref g7, .ref g8, .ref g9, .ref g10, .int y_2, .ref g12, .ref g13, .ref g14, .ref g15, .ref g16, .ref g17, .ref g18, .ref g19, .ref g20, .int s21, .ref g22, .ref g23, .ref g24, .int s25, .int s26, .int s27, .int s28, .ref g29, .ref g30, .ref g31, .ref g32, .ref g33])), (g5, .inl (cy 0, 40, .inl f5)), (g6, .inl (cy 0, 40, .inl f6)), (g7, .inl (cy 0, 40, .inl f7)), (g8, .inl (cy 0, 40, .inl f8)), (g9, .inl (cy 0, 40, .inl f9)), (g10, .inl (cy 2, 40, .inl f10)), (g12, .inl (cy 0, 30, .inl f12)), (g13, .inl (cy 0, 30, .inl f13)), (g14, .inl (cy 0, 6000, .inl f14))] hP hD (fun hP hD => ?_)
    refine lv_aload_n hx hb dX12_undo_38 rfl (lv_at hl 0 rfl) ?_
    refine lv_aload_n hx hb dX12_undo_39 rfl (lv_at hl 0 rfl) ?_
    refine va_get (ci := 12) (v := .ref g13) (C := RX12) (T := TX12) (N := 34) hx hb hts (fun _ h => List.mem_cons_of_mem _ (List.mem_append_right _ h)) hown hK.1 hP 0 rfl rfl 13 (by decide) (hts (.fieldLink RX12 32 "CutAtlasModel" "oldLines" "[I") (by decide +kernel)) (fun _ h9 => h9) rfl dX12_undo_40 ?_
    refine lv_aload_n hx hb dX12_undo_43 rfl (lv_at hl 0 rfl) ?_
    refine va_get (ci := 12) (v := .int y_2) (C := RX12) (T := TX12) (N := 34) hx hb hts (fun _ h => List.mem_cons_of_mem _ (List.mem_append_right _ h)) hown hK.1 hP 0 rfl rfl 11 (by decide) (hts (.fieldLink RX12 102 "CutAtlasModel" "undone" "I") (by decide +kernel)) (fun _ h9 => h9) rfl dX12_undo_44 ?_
    have h_5 : vp_in y_2 30 := in_I (by omega) (by omega)
    refine va_iald hx hb hK.1 hP 8 0 rfl rfl (i := y_2) h_5 dX12_undo_47 ?_
    refine lv_topi (fun y_6 ey_6 => ?_)
    have ky_6 : y_6.toInt = (f13 y_2.toNatClampNeg).toInt := by rw [ey_6]
    have ry_6 : 0 ≤ y_6.toInt ∧ y_6.toInt ≤ 40 := by rw [ey_6]; exact r_f13 _ (in_lt h_5)
    refine va_put (ci := 12) (v := .int y_6) (ty := .int) (C := RX12) (T := TX12) (N := 34) hx hb hts (fun _ h => List.mem_cons_of_mem _ (List.mem_append_right _ h)) tyX12 tyX12_ok nmX12 hown hK.1 hP hD hS 0 rfl rfl 4 (by decide) (hts (.fieldLink RX12 95 "CutAtlasModel" "lines" "I") (by decide +kernel)) (fun _ h9 => h9) rfl (by decide +kernel) rfl rfl (Nat.le_of_ble_eq_true rfl) dX12_undo_48 (fun H locs hP hD hS => ?_)
    refine pd_K [(mo, .inr (12, [.int 0, .int s1, .long t2, .int y_4, .int y_6, .ref g5, .ref g6, .ref g7, .ref g8, .ref g9, .ref g10, .int y_2, .ref g12, .ref g13, .ref g14, .ref g15, .ref g16, .ref g17, .ref g18, .ref g19, .ref g20, .int s21, .ref g22, .ref g23, .ref g24, .int s25, .int s26, .int s27, .int s28, .ref g29, .ref g30, .ref g31, .ref g32, .ref g33])), (g5, .inl (cy 0, 40, .inl f5)), (g6, .inl (cy 0, 40, .inl f6)), (g7, .inl (cy 0, 40, .inl f7)), (g8, .inl (cy 0, 40, .inl f8)), (g9, .inl (cy 0, 40, .inl f9)), (g10, .inl (cy 2, 40, .inl f10)), (g12, .inl (cy 0, 30, .inl f12)), (g13, .inl (cy 0, 30, .inl f13)), (g14, .inl (cy 0, 6000, .inl f14))] hP hD (fun hP hD => ?_)
    refine lv_iconst (v := 0) hx hb dX12_undo_51 (by decide) ?_
    refine lv_istore_n (lv' := [(1, .int 0), (0, .ref mo)]) hx hb dX12_undo_52 rfl hl (by decide) rfl (fun ls hl => ?_)
    suffices LOOP_7 : ∀ (n_7 : Nat) (x1_7 : Int32) (c_g5_7 : Nat → Int32) (c_g6_7 : Nat → Int32) (c_g7_7 : Nat → Int32) (c_g8_7 : Nat → Int32) (c_g9_7 : Nat → Int32) (c_g10_7 : Nat → Int32) (H : Heap) (locs : List Loc) (ls : Array Slot), 40 - x1_7.toInt < (n_7 : Int) → (0 ≤ x1_7.toInt) → (x1_7.toInt ≤ 40) → (∀ j : Nat, (j : Int) < x1_7.toInt → back f14 (200 * y_2.toNatClampNeg) c_g5_7 c_g6_7 c_g7_7 c_g8_7 c_g9_7 c_g10_7 j) → (rng c_g6_7 40 (0) (11)) → (rng c_g7_7 40 (0) (11)) → (rng c_g8_7 40 (0) (2000)) → (rng c_g9_7 40 (0) (100)) → va_P D vwCl [(mo, .inr (12, [.int 0, .int s1, .long t2, .int y_4, .int y_6, .ref g5, .ref g6, .ref g7, .ref g8, .ref g9, .ref g10, .int y_2, .ref g12, .ref g13, .ref g14, .ref g15, .ref g16, .ref g17, .ref g18, .ref g19, .ref g20, .int s21, .ref g22, .ref g23, .ref g24, .int s25, .int s26, .int s27, .int s28, .ref g29, .ref g30, .ref g31, .ref g32, .ref g33])), (g5, .inl (cy 0, 40, .inl c_g5_7)), (g6, .inl (cy 0, 40, .inl c_g6_7)), (g7, .inl (cy 0, 40, .inl c_g7_7)), (g8, .inl (cy 0, 40, .inl c_g8_7)), (g9, .inl (cy 0, 40, .inl c_g9_7)), (g10, .inl (cy 2, 40, .inl c_g10_7)), (g12, .inl (cy 0, 30, .inl f12)), (g13, .inl (cy 0, 30, .inl f13)), (g14, .inl (cy 0, 6000, .inl f14))] H → va_D A [(mo, .inr (12, [.int 0, .int s1, .long t2, .int y_4, .int y_6, .ref g5, .ref g6, .ref g7, .ref g8, .ref g9, .ref g10, .int y_2, .ref g12, .ref g13, .ref g14, .ref g15, .ref g16, .ref g17, .ref g18, .ref g19, .ref g20, .int s21, .ref g22, .ref g23, .ref g24, .int s25, .int s26, .int s27, .int s28, .ref g29, .ref g30, .ref g31, .ref g32, .ref g33])), (g5, .inl (cy 0, 40, .inl c_g5_7)), (g6, .inl (cy 0, 40, .inl c_g6_7)), (g7, .inl (cy 0, 40, .inl c_g7_7)), (g8, .inl (cy 0, 40, .inl c_g8_7)), (g9, .inl (cy 0, 40, .inl c_g9_7)), (g10, .inl (cy 2, 40, .inl c_g10_7)), (g12, .inl (cy 0, 30, .inl f12)), (g13, .inl (cy 0, 30, .inl f13)), (g14, .inl (cy 0, 6000, .inl f14))] → va_S A s.heap H locs → lv_has ls 3 [(1, .int x1_7), (0, .ref mo)] → W p l e ({ frames := 0, cells := 0, slots := 0, locals := 0 } : Room) s m (([.ref mo] : List Value).toArray) below meth c H locs 0 0 Q (F0 m 53 ls []) from LOOP_7 ((40 - (0 : Int32).toInt).toNat + 1) (0 : Int32) f5 f6 f7 f8 f9 f10 _ _ _ (by omega) (by first | with_reducible assumption | omega | assumption) (by first | with_reducible assumption | omega | assumption) (by first | exact hE_ (0 : Int32) (by omega) | (intro j hj; omega)) (by first | with_reducible assumption | assumption | exact rng_zero (by omega) (by omega) | exact orng_zero) (by first | with_reducible assumption | assumption | exact rng_zero (by omega) (by omega) | exact orng_zero) (by first | with_reducible assumption | assumption | exact rng_zero (by omega) (by omega) | exact orng_zero) (by first | with_reducible assumption | assumption | exact rng_zero (by omega) (by omega) | exact orng_zero) hP hD hS (lv_sub hl [0, 1] rfl)
    intro n_7
    induction n_7 with
    | zero =>
      intro x1_7 c_g5_7 c_g6_7 c_g7_7 c_g8_7 c_g9_7 c_g10_7 H locs ls hm v0_7 v1_7 v2_7 rc_g6_7 rc_g7_7 rc_g8_7 rc_g9_7 hP hD hS hl
      exact absurd hm (by omega)
    | succ n_7 ih_7 =>
      intro x1_7 c_g5_7 c_g6_7 c_g7_7 c_g8_7 c_g9_7 c_g10_7 H locs ls hm v0_7 v1_7 v2_7 rc_g6_7 rc_g7_7 rc_g8_7 rc_g9_7 hP hD hS hl
      refine lv_iload_n hx hb dX12_undo_53 rfl (lv_at hl 0 rfl) ?_
      refine lv_bipush (v := 40) hx hb dX12_undo_54 (by decide) ?_
      refine lv_icmp_ge (tgt := 175) hx hb dX12_undo_56 (by decide) (fun c_8 => ?_) (fun c_8 => ?_)
      · have t_8 : (40 : Int32).toInt ≤ x1_7.toInt := Int32.le_iff_toInt_le.mp c_8
        have hne_ : netE y_4.toInt y_6.toInt c_g6_7 c_g7_7 c_g10_7 := back_net (u := y_2) (L := x1_7) hpast (by omega) (by omega) ey_4 ey_6 (by omega) v2_7 (by omega)
        refine lv_aload_n hx hb dX12_undo_175 rfl (lv_at hl 1 rfl) ?_
        refine va_get (ci := 12) (v := .int y_2) (C := RX12) (T := TX12) (N := 34) hx hb hts (fun _ h => List.mem_cons_of_mem _ (List.mem_append_right _ h)) hown hK.1 hP 0 rfl rfl 11 (by decide) (hts (.fieldLink RX12 102 "CutAtlasModel" "undone" "I") (by decide +kernel)) (fun _ h9 => h9) rfl dX12_undo_176 ?_
        rw [hQ]
        exact W.iret (v := y_2) hx hb hr (fun t ht hW => ⟨⟨y_2, (), rfl, trivial, y_4, y_6, y_2, c_g5_7, c_g6_7, c_g7_7, c_g8_7, c_g9_7, c_g10_7, (by first | with_reducible assumption | omega | assumption), (by first | with_reducible assumption | omega | assumption), (by first | with_reducible assumption | omega | assumption), (by first | exact hne_ | assumption), (by first | with_reducible assumption | assumption | exact past_dn hpast (by omega)), (by first | with_reducible assumption | assumption | exact rng_zero (by omega) (by omega) | omega), (by first | with_reducible assumption | assumption | exact rng_zero (by omega) (by omega) | omega), (by first | with_reducible assumption | assumption | exact rng_zero (by omega) (by omega) | omega), (by first | with_reducible assumption | assumption | exact rng_zero (by omega) (by omega) | omega), by rw [ht]; exact hP, hD⟩, hS.F ht⟩) hS.2.2 dX12_undo_179
      · have t_8 : ¬ (40 : Int32).toInt ≤ x1_7.toInt := fun h => c_8 (Int32.le_iff_toInt_le.mpr h)
        refine lv_sipush (v := 200) hx hb dX12_undo_59 (by decide) ?_
        refine lv_aload_n hx hb dX12_undo_62 rfl (lv_at hl 1 rfl) ?_
        refine va_get (ci := 12) (v := .int y_2) (C := RX12) (T := TX12) (N := 34) hx hb hts (fun _ h => List.mem_cons_of_mem _ (List.mem_append_right _ h)) hown hK.1 hP 0 rfl rfl 11 (by decide) (hts (.fieldLink RX12 102 "CutAtlasModel" "undone" "I") (by decide +kernel)) (fun _ h9 => h9) rfl dX12_undo_63 ?_
        refine lv_imul hx hb dX12_undo_66 ?_
        refine lv_topi (fun y_9 ey_9 => ?_)
        have ty_9 : y_9.toInt = 200 * y_2.toInt := by rw [ey_9]; exact mulC (by decide) (by omega) (by omega)
        refine lv_iconst (v := 5) hx hb dX12_undo_67 (by decide) ?_
        refine lv_iload_n hx hb dX12_undo_68 rfl (lv_at hl 0 rfl) ?_
        refine lv_imul hx hb dX12_undo_69 ?_
        refine lv_topi (fun y_10 ey_10 => ?_)
        have ty_10 : y_10.toInt = 5 * x1_7.toInt := by rw [ey_10]; exact mulC (by decide) (by omega) (by omega)
        refine lv_iadd hx hb dX12_undo_70 ?_
        refine lv_topi (fun y_11 ey_11 => ?_)
        have ty_11 : y_11.toInt = y_9.toInt + y_10.toInt := by rw [ey_11]; exact addI (by omega) (by omega)
        refine lv_istore_n (lv' := [(2, .int y_11), (1, .int x1_7), (0, .ref mo)]) hx hb dX12_undo_71 rfl hl (by decide) rfl (fun ls hl => ?_)
        refine lv_aload_n hx hb dX12_undo_72 rfl (lv_at hl 2 rfl) ?_
        refine va_get (ci := 12) (v := .ref g5) (C := RX12) (T := TX12) (N := 34) hx hb hts (fun _ h => List.mem_cons_of_mem _ (List.mem_append_right _ h)) hown hK.1 hP 0 rfl rfl 5 (by decide) (hts (.fieldLink RX12 7 "CutAtlasModel" "kind" "[I") (by decide +kernel)) (fun _ h9 => h9) rfl dX12_undo_73 ?_
        refine lv_iload_n hx hb dX12_undo_76 rfl (lv_at hl 1 rfl) ?_
        refine lv_aload_n hx hb dX12_undo_77 rfl (lv_at hl 2 rfl) ?_
        refine va_get (ci := 12) (v := .ref g14) (C := RX12) (T := TX12) (N := 34) hx hb hts (fun _ h => List.mem_cons_of_mem _ (List.mem_append_right _ h)) hown hK.1 hP 0 rfl rfl 14 (by decide) (hts (.fieldLink RX12 35 "CutAtlasModel" "old" "[I") (by decide +kernel)) (fun _ h9 => h9) rfl dX12_undo_78 ?_
        refine lv_iload_n hx hb dX12_undo_81 rfl (lv_at hl 0 rfl) ?_
        have h_12 : vp_in y_11 6000 := in_I (by omega) (by omega)
        refine va_iald hx hb hK.1 hP 9 0 rfl rfl (i := y_11) h_12 dX12_undo_82 ?_
        refine lv_topi (fun y_13 ey_13 => ?_)
        have ky_13 : y_13.toInt = (f14 y_11.toNatClampNeg).toInt := by rw [ey_13]
        have ry_13 : oc y_11.toNatClampNeg y_13.toInt := by rw [ey_13]; exact r_f14 _ (in_lt h_12)
        unfold oc at ry_13
        have ky_13 := clI (i := y_11) (by omega)
        have h_14 : vp_in x1_7 40 := in_I (by omega) (by omega)
        refine va_iast hx hb hK.1 hP hD hS 1 0 rfl rfl (i := x1_7) h_14 dX12_undo_83 (fun H locs hP hD hS => ?_)
        obtain ⟨f_15, ef_15⟩ : ∃ g : Nat → Int32, g = upd c_g5_7 x1_7.toNatClampNeg y_13 := ⟨_, rfl⟩
        refine pd_K (D := D) (cl := vwCl) (H := H) (A := A) [(mo, .inr (12, [.int 0, .int s1, .long t2, .int y_4, .int y_6, .ref g5, .ref g6, .ref g7, .ref g8, .ref g9, .ref g10, .int y_2, .ref g12, .ref g13, .ref g14, .ref g15, .ref g16, .ref g17, .ref g18, .ref g19, .ref g20, .int s21, .ref g22, .ref g23, .ref g24, .int s25, .int s26, .int s27, .int s28, .ref g29, .ref g30, .ref g31, .ref g32, .ref g33])), (g5, .inl (cy 0, 40, .inl f_15)), (g6, .inl (cy 0, 40, .inl c_g6_7)), (g7, .inl (cy 0, 40, .inl c_g7_7)), (g8, .inl (cy 0, 40, .inl c_g8_7)), (g9, .inl (cy 0, 40, .inl c_g9_7)), (g10, .inl (cy 2, 40, .inl c_g10_7)), (g12, .inl (cy 0, 30, .inl f12)), (g13, .inl (cy 0, 30, .inl f13)), (g14, .inl (cy 0, 6000, .inl f14))] (by rw [ef_15]; exact hP) (by rw [ef_15]; exact hD) (fun hP hD => ?_)
        refine lv_aload_n hx hb dX12_undo_84 rfl (lv_at hl 2 rfl) ?_
        refine va_get (ci := 12) (v := .ref g6) (C := RX12) (T := TX12) (N := 34) hx hb hts (fun _ h => List.mem_cons_of_mem _ (List.mem_append_right _ h)) hown hK.1 hP 0 rfl rfl 6 (by decide) (hts (.fieldLink RX12 13 "CutAtlasModel" "from" "[I") (by decide +kernel)) (fun _ h9 => h9) rfl dX12_undo_85 ?_
        refine lv_iload_n hx hb dX12_undo_88 rfl (lv_at hl 1 rfl) ?_
        refine lv_aload_n hx hb dX12_undo_89 rfl (lv_at hl 2 rfl) ?_
        refine va_get (ci := 12) (v := .ref g14) (C := RX12) (T := TX12) (N := 34) hx hb hts (fun _ h => List.mem_cons_of_mem _ (List.mem_append_right _ h)) hown hK.1 hP 0 rfl rfl 14 (by decide) (hts (.fieldLink RX12 35 "CutAtlasModel" "old" "[I") (by decide +kernel)) (fun _ h9 => h9) rfl dX12_undo_90 ?_
        refine lv_iload_n hx hb dX12_undo_93 rfl (lv_at hl 0 rfl) ?_
        refine lv_iconst (v := 1) hx hb dX12_undo_94 (by decide) ?_
        refine lv_iadd hx hb dX12_undo_95 ?_
        refine lv_topi (fun y_16 ey_16 => ?_)
        have ty_16 : y_16.toInt = y_11.toInt + (1 : Int32).toInt := by rw [ey_16]; exact addI (by omega) (by omega)
        have h_17 : vp_in y_16 6000 := in_I (by omega) (by omega)
        refine va_iald hx hb hK.1 hP 9 0 rfl rfl (i := y_16) h_17 dX12_undo_96 ?_
        refine lv_topi (fun y_18 ey_18 => ?_)
        have ky_18 : y_18.toInt = (f14 y_16.toNatClampNeg).toInt := by rw [ey_18]
        have ry_18 : oc y_16.toNatClampNeg y_18.toInt := by rw [ey_18]; exact r_f14 _ (in_lt h_17)
        unfold oc at ry_18
        have ky_18 := clI (i := y_16) (by omega)
        have h_19 : vp_in x1_7 40 := in_I (by omega) (by omega)
        refine va_iast hx hb hK.1 hP hD hS 2 0 rfl rfl (i := x1_7) h_19 dX12_undo_97 (fun H locs hP hD hS => ?_)
        obtain ⟨f_20, ef_20⟩ : ∃ g : Nat → Int32, g = upd c_g6_7 x1_7.toNatClampNeg y_18 := ⟨_, rfl⟩
        refine pd_K (D := D) (cl := vwCl) (H := H) (A := A) [(mo, .inr (12, [.int 0, .int s1, .long t2, .int y_4, .int y_6, .ref g5, .ref g6, .ref g7, .ref g8, .ref g9, .ref g10, .int y_2, .ref g12, .ref g13, .ref g14, .ref g15, .ref g16, .ref g17, .ref g18, .ref g19, .ref g20, .int s21, .ref g22, .ref g23, .ref g24, .int s25, .int s26, .int s27, .int s28, .ref g29, .ref g30, .ref g31, .ref g32, .ref g33])), (g5, .inl (cy 0, 40, .inl f_15)), (g6, .inl (cy 0, 40, .inl f_20)), (g7, .inl (cy 0, 40, .inl c_g7_7)), (g8, .inl (cy 0, 40, .inl c_g8_7)), (g9, .inl (cy 0, 40, .inl c_g9_7)), (g10, .inl (cy 2, 40, .inl c_g10_7)), (g12, .inl (cy 0, 30, .inl f12)), (g13, .inl (cy 0, 30, .inl f13)), (g14, .inl (cy 0, 6000, .inl f14))] (by rw [ef_20]; exact hP) (by rw [ef_20]; exact hD) (fun hP hD => ?_)
        have rf_20 : rng f_20 40 (0) (11) := by rw [ef_20]; exact rng_upd rc_g6_7 (by omega) (by omega)
        refine lv_aload_n hx hb dX12_undo_98 rfl (lv_at hl 2 rfl) ?_
        refine va_get (ci := 12) (v := .ref g7) (C := RX12) (T := TX12) (N := 34) hx hb hts (fun _ h => List.mem_cons_of_mem _ (List.mem_append_right _ h)) hown hK.1 hP 0 rfl rfl 7 (by decide) (hts (.fieldLink RX12 16 "CutAtlasModel" "to" "[I") (by decide +kernel)) (fun _ h9 => h9) rfl dX12_undo_99 ?_
        refine lv_iload_n hx hb dX12_undo_102 rfl (lv_at hl 1 rfl) ?_
        refine lv_aload_n hx hb dX12_undo_103 rfl (lv_at hl 2 rfl) ?_
        refine va_get (ci := 12) (v := .ref g14) (C := RX12) (T := TX12) (N := 34) hx hb hts (fun _ h => List.mem_cons_of_mem _ (List.mem_append_right _ h)) hown hK.1 hP 0 rfl rfl 14 (by decide) (hts (.fieldLink RX12 35 "CutAtlasModel" "old" "[I") (by decide +kernel)) (fun _ h9 => h9) rfl dX12_undo_104 ?_
        refine lv_iload_n hx hb dX12_undo_107 rfl (lv_at hl 0 rfl) ?_
        refine lv_iconst (v := 2) hx hb dX12_undo_108 (by decide) ?_
        refine lv_iadd hx hb dX12_undo_109 ?_
        refine lv_topi (fun y_21 ey_21 => ?_)
        have ty_21 : y_21.toInt = y_11.toInt + (2 : Int32).toInt := by rw [ey_21]; exact addI (by omega) (by omega)
        have h_22 : vp_in y_21 6000 := in_I (by omega) (by omega)
        refine va_iald hx hb hK.1 hP 9 0 rfl rfl (i := y_21) h_22 dX12_undo_110 ?_
        refine lv_topi (fun y_23 ey_23 => ?_)
        have ky_23 : y_23.toInt = (f14 y_21.toNatClampNeg).toInt := by rw [ey_23]
        have ry_23 : oc y_21.toNatClampNeg y_23.toInt := by rw [ey_23]; exact r_f14 _ (in_lt h_22)
        unfold oc at ry_23
        have ky_23 := clI (i := y_21) (by omega)
        have h_24 : vp_in x1_7 40 := in_I (by omega) (by omega)
        refine va_iast hx hb hK.1 hP hD hS 3 0 rfl rfl (i := x1_7) h_24 dX12_undo_111 (fun H locs hP hD hS => ?_)
        obtain ⟨f_25, ef_25⟩ : ∃ g : Nat → Int32, g = upd c_g7_7 x1_7.toNatClampNeg y_23 := ⟨_, rfl⟩
        refine pd_K (D := D) (cl := vwCl) (H := H) (A := A) [(mo, .inr (12, [.int 0, .int s1, .long t2, .int y_4, .int y_6, .ref g5, .ref g6, .ref g7, .ref g8, .ref g9, .ref g10, .int y_2, .ref g12, .ref g13, .ref g14, .ref g15, .ref g16, .ref g17, .ref g18, .ref g19, .ref g20, .int s21, .ref g22, .ref g23, .ref g24, .int s25, .int s26, .int s27, .int s28, .ref g29, .ref g30, .ref g31, .ref g32, .ref g33])), (g5, .inl (cy 0, 40, .inl f_15)), (g6, .inl (cy 0, 40, .inl f_20)), (g7, .inl (cy 0, 40, .inl f_25)), (g8, .inl (cy 0, 40, .inl c_g8_7)), (g9, .inl (cy 0, 40, .inl c_g9_7)), (g10, .inl (cy 2, 40, .inl c_g10_7)), (g12, .inl (cy 0, 30, .inl f12)), (g13, .inl (cy 0, 30, .inl f13)), (g14, .inl (cy 0, 6000, .inl f14))] (by rw [ef_25]; exact hP) (by rw [ef_25]; exact hD) (fun hP hD => ?_)
        have rf_25 : rng f_25 40 (0) (11) := by rw [ef_25]; exact rng_upd rc_g7_7 (by omega) (by omega)
        refine lv_aload_n hx hb dX12_undo_112 rfl (lv_at hl 2 rfl) ?_
        refine va_get (ci := 12) (v := .ref g8) (C := RX12) (T := TX12) (N := 34) hx hb hts (fun _ h => List.mem_cons_of_mem _ (List.mem_append_right _ h)) hown hK.1 hP 0 rfl rfl 8 (by decide) (hts (.fieldLink RX12 19 "CutAtlasModel" "width" "[I") (by decide +kernel)) (fun _ h9 => h9) rfl dX12_undo_113 ?_
        refine lv_iload_n hx hb dX12_undo_116 rfl (lv_at hl 1 rfl) ?_
        refine lv_aload_n hx hb dX12_undo_117 rfl (lv_at hl 2 rfl) ?_
        refine va_get (ci := 12) (v := .ref g14) (C := RX12) (T := TX12) (N := 34) hx hb hts (fun _ h => List.mem_cons_of_mem _ (List.mem_append_right _ h)) hown hK.1 hP 0 rfl rfl 14 (by decide) (hts (.fieldLink RX12 35 "CutAtlasModel" "old" "[I") (by decide +kernel)) (fun _ h9 => h9) rfl dX12_undo_118 ?_
        refine lv_iload_n hx hb dX12_undo_121 rfl (lv_at hl 0 rfl) ?_
        refine lv_iconst (v := 3) hx hb dX12_undo_122 (by decide) ?_
        refine lv_iadd hx hb dX12_undo_123 ?_
        refine lv_topi (fun y_26 ey_26 => ?_)
        have ty_26 : y_26.toInt = y_11.toInt + (3 : Int32).toInt := by rw [ey_26]; exact addI (by omega) (by omega)
        have h_27 : vp_in y_26 6000 := in_I (by omega) (by omega)
        refine va_iald hx hb hK.1 hP 9 0 rfl rfl (i := y_26) h_27 dX12_undo_124 ?_
        refine lv_topi (fun y_28 ey_28 => ?_)
        have ky_28 : y_28.toInt = (f14 y_26.toNatClampNeg).toInt := by rw [ey_28]
        have ry_28 : oc y_26.toNatClampNeg y_28.toInt := by rw [ey_28]; exact r_f14 _ (in_lt h_27)
        unfold oc at ry_28
        have ky_28 := clI (i := y_26) (by omega)
        have h_29 : vp_in x1_7 40 := in_I (by omega) (by omega)
        refine va_iast hx hb hK.1 hP hD hS 4 0 rfl rfl (i := x1_7) h_29 dX12_undo_125 (fun H locs hP hD hS => ?_)
        obtain ⟨f_30, ef_30⟩ : ∃ g : Nat → Int32, g = upd c_g8_7 x1_7.toNatClampNeg y_28 := ⟨_, rfl⟩
        refine pd_K (D := D) (cl := vwCl) (H := H) (A := A) [(mo, .inr (12, [.int 0, .int s1, .long t2, .int y_4, .int y_6, .ref g5, .ref g6, .ref g7, .ref g8, .ref g9, .ref g10, .int y_2, .ref g12, .ref g13, .ref g14, .ref g15, .ref g16, .ref g17, .ref g18, .ref g19, .ref g20, .int s21, .ref g22, .ref g23, .ref g24, .int s25, .int s26, .int s27, .int s28, .ref g29, .ref g30, .ref g31, .ref g32, .ref g33])), (g5, .inl (cy 0, 40, .inl f_15)), (g6, .inl (cy 0, 40, .inl f_20)), (g7, .inl (cy 0, 40, .inl f_25)), (g8, .inl (cy 0, 40, .inl f_30)), (g9, .inl (cy 0, 40, .inl c_g9_7)), (g10, .inl (cy 2, 40, .inl c_g10_7)), (g12, .inl (cy 0, 30, .inl f12)), (g13, .inl (cy 0, 30, .inl f13)), (g14, .inl (cy 0, 6000, .inl f14))] (by rw [ef_30]; exact hP) (by rw [ef_30]; exact hD) (fun hP hD => ?_)
        have rf_30 : rng f_30 40 (0) (2000) := by rw [ef_30]; exact rng_upd rc_g8_7 (by omega) (by omega)
        refine lv_aload_n hx hb dX12_undo_126 rfl (lv_at hl 2 rfl) ?_
        refine va_get (ci := 12) (v := .ref g9) (C := RX12) (T := TX12) (N := 34) hx hb hts (fun _ h => List.mem_cons_of_mem _ (List.mem_append_right _ h)) hown hK.1 hP 0 rfl rfl 9 (by decide) (hts (.fieldLink RX12 22 "CutAtlasModel" "price" "[I") (by decide +kernel)) (fun _ h9 => h9) rfl dX12_undo_127 ?_
        refine lv_iload_n hx hb dX12_undo_130 rfl (lv_at hl 1 rfl) ?_
        refine lv_aload_n hx hb dX12_undo_131 rfl (lv_at hl 2 rfl) ?_
        refine va_get (ci := 12) (v := .ref g14) (C := RX12) (T := TX12) (N := 34) hx hb hts (fun _ h => List.mem_cons_of_mem _ (List.mem_append_right _ h)) hown hK.1 hP 0 rfl rfl 14 (by decide) (hts (.fieldLink RX12 35 "CutAtlasModel" "old" "[I") (by decide +kernel)) (fun _ h9 => h9) rfl dX12_undo_132 ?_
        refine lv_iload_n hx hb dX12_undo_135 rfl (lv_at hl 0 rfl) ?_
        refine lv_iconst (v := 4) hx hb dX12_undo_136 (by decide) ?_
        refine lv_iadd hx hb dX12_undo_137 ?_
        refine lv_topi (fun y_31 ey_31 => ?_)
        have ty_31 : y_31.toInt = y_11.toInt + (4 : Int32).toInt := by rw [ey_31]; exact addI (by omega) (by omega)
        have h_32 : vp_in y_31 6000 := in_I (by omega) (by omega)
        refine va_iald hx hb hK.1 hP 9 0 rfl rfl (i := y_31) h_32 dX12_undo_138 ?_
        refine lv_topi (fun y_33 ey_33 => ?_)
        have ky_33 : y_33.toInt = (f14 y_31.toNatClampNeg).toInt := by rw [ey_33]
        have ry_33 : oc y_31.toNatClampNeg y_33.toInt := by rw [ey_33]; exact r_f14 _ (in_lt h_32)
        unfold oc at ry_33
        have ky_33 := clI (i := y_31) (by omega)
        refine lv_sipush (v := 1000) hx hb dX12_undo_139 (by decide) ?_
        refine lv_irem hx hb dX12_undo_142 (by decide) ?_
        refine lv_topi (fun y_34 ey_34 => ?_)
        have ty_34 : (0 ≤ y_34.toInt ∧ y_34.toInt ≤ 100) ∧ y_34.toInt = y_33.toInt % 1000 := by rw [ey_34]; exact ⟨rem1000 (by omega), rem1000e (by omega)⟩
        have h_35 : vp_in x1_7 40 := in_I (by omega) (by omega)
        refine va_iast hx hb hK.1 hP hD hS 5 0 rfl rfl (i := x1_7) h_35 dX12_undo_143 (fun H locs hP hD hS => ?_)
        obtain ⟨f_36, ef_36⟩ : ∃ g : Nat → Int32, g = upd c_g9_7 x1_7.toNatClampNeg y_34 := ⟨_, rfl⟩
        refine pd_K (D := D) (cl := vwCl) (H := H) (A := A) [(mo, .inr (12, [.int 0, .int s1, .long t2, .int y_4, .int y_6, .ref g5, .ref g6, .ref g7, .ref g8, .ref g9, .ref g10, .int y_2, .ref g12, .ref g13, .ref g14, .ref g15, .ref g16, .ref g17, .ref g18, .ref g19, .ref g20, .int s21, .ref g22, .ref g23, .ref g24, .int s25, .int s26, .int s27, .int s28, .ref g29, .ref g30, .ref g31, .ref g32, .ref g33])), (g5, .inl (cy 0, 40, .inl f_15)), (g6, .inl (cy 0, 40, .inl f_20)), (g7, .inl (cy 0, 40, .inl f_25)), (g8, .inl (cy 0, 40, .inl f_30)), (g9, .inl (cy 0, 40, .inl f_36)), (g10, .inl (cy 2, 40, .inl c_g10_7)), (g12, .inl (cy 0, 30, .inl f12)), (g13, .inl (cy 0, 30, .inl f13)), (g14, .inl (cy 0, 6000, .inl f14))] (by rw [ef_36]; exact hP) (by rw [ef_36]; exact hD) (fun hP hD => ?_)
        have rf_36 : rng f_36 40 (0) (100) := by rw [ef_36]; exact rng_upd rc_g9_7 (by omega) (by omega)
        refine lv_aload_n hx hb dX12_undo_144 rfl (lv_at hl 2 rfl) ?_
        refine va_get (ci := 12) (v := .ref g10) (C := RX12) (T := TX12) (N := 34) hx hb hts (fun _ h => List.mem_cons_of_mem _ (List.mem_append_right _ h)) hown hK.1 hP 0 rfl rfl 10 (by decide) (hts (.fieldLink RX12 25 "CutAtlasModel" "isMissing" "[Z") (by decide +kernel)) (fun _ h9 => h9) rfl dX12_undo_145 ?_
        refine lv_iload_n hx hb dX12_undo_148 rfl (lv_at hl 1 rfl) ?_
        have JOIN_37 : ∀ (u0_37 : Int32) (H : Heap) (locs : List Loc) (ls : Array Slot), (u0_37.toInt = if (999 : Int) < y_33.toInt then 1 else 0) → va_P D vwCl [(mo, .inr (12, [.int 0, .int s1, .long t2, .int y_4, .int y_6, .ref g5, .ref g6, .ref g7, .ref g8, .ref g9, .ref g10, .int y_2, .ref g12, .ref g13, .ref g14, .ref g15, .ref g16, .ref g17, .ref g18, .ref g19, .ref g20, .int s21, .ref g22, .ref g23, .ref g24, .int s25, .int s26, .int s27, .int s28, .ref g29, .ref g30, .ref g31, .ref g32, .ref g33])), (g5, .inl (cy 0, 40, .inl f_15)), (g6, .inl (cy 0, 40, .inl f_20)), (g7, .inl (cy 0, 40, .inl f_25)), (g8, .inl (cy 0, 40, .inl f_30)), (g9, .inl (cy 0, 40, .inl f_36)), (g10, .inl (cy 2, 40, .inl c_g10_7)), (g12, .inl (cy 0, 30, .inl f12)), (g13, .inl (cy 0, 30, .inl f13)), (g14, .inl (cy 0, 6000, .inl f14))] H → va_D A [(mo, .inr (12, [.int 0, .int s1, .long t2, .int y_4, .int y_6, .ref g5, .ref g6, .ref g7, .ref g8, .ref g9, .ref g10, .int y_2, .ref g12, .ref g13, .ref g14, .ref g15, .ref g16, .ref g17, .ref g18, .ref g19, .ref g20, .int s21, .ref g22, .ref g23, .ref g24, .int s25, .int s26, .int s27, .int s28, .ref g29, .ref g30, .ref g31, .ref g32, .ref g33])), (g5, .inl (cy 0, 40, .inl f_15)), (g6, .inl (cy 0, 40, .inl f_20)), (g7, .inl (cy 0, 40, .inl f_25)), (g8, .inl (cy 0, 40, .inl f_30)), (g9, .inl (cy 0, 40, .inl f_36)), (g10, .inl (cy 2, 40, .inl c_g10_7)), (g12, .inl (cy 0, 30, .inl f12)), (g13, .inl (cy 0, 30, .inl f13)), (g14, .inl (cy 0, 6000, .inl f14))] → va_S A s.heap H locs → lv_has ls 3 [(2, .int y_11), (1, .int x1_7), (0, .ref mo)] → W p l e ({ frames := 0, cells := 0, slots := 0, locals := 0 } : Room) s m (([.ref mo] : List Value).toArray) below meth c H locs 0 0 Q (F0 m 168 ls [.int u0_37, .int x1_7, .ref g10]) := by
          intro u0_37 H locs ls v0_37 hP hD hS hl
          have h_38 : vp_in x1_7 40 := in_I (by omega) (by omega)
          refine va_zast hx hb hK.1 hP hD hS 6 2 rfl rfl (i := x1_7) h_38 dX12_undo_168 (fun H locs hP hD hS => ?_)
          obtain ⟨f_39, ef_39⟩ : ∃ g : Nat → Int32, g = upd c_g10_7 x1_7.toNatClampNeg (vp_nar .boolean u0_37) := ⟨_, rfl⟩
          refine pd_K (D := D) (cl := vwCl) (H := H) (A := A) [(mo, .inr (12, [.int 0, .int s1, .long t2, .int y_4, .int y_6, .ref g5, .ref g6, .ref g7, .ref g8, .ref g9, .ref g10, .int y_2, .ref g12, .ref g13, .ref g14, .ref g15, .ref g16, .ref g17, .ref g18, .ref g19, .ref g20, .int s21, .ref g22, .ref g23, .ref g24, .int s25, .int s26, .int s27, .int s28, .ref g29, .ref g30, .ref g31, .ref g32, .ref g33])), (g5, .inl (cy 0, 40, .inl f_15)), (g6, .inl (cy 0, 40, .inl f_20)), (g7, .inl (cy 0, 40, .inl f_25)), (g8, .inl (cy 0, 40, .inl f_30)), (g9, .inl (cy 0, 40, .inl f_36)), (g10, .inl (cy 2, 40, .inl f_39)), (g12, .inl (cy 0, 30, .inl f12)), (g13, .inl (cy 0, 30, .inl f13)), (g14, .inl (cy 0, 6000, .inl f14))] (by rw [ef_39]; exact hP) (by rw [ef_39]; exact hD) (fun hP hD => ?_)
          have hE_ : ∀ l2 : Int32, l2.toInt = x1_7.toInt + 1 → ∀ j : Nat, (j : Int) < l2.toInt → back f14 (200 * y_2.toNatClampNeg) f_15 f_20 f_25 f_30 f_36 f_39 j := fun l2 e2 => back_st (p := y_11) (x4 := y_33) (by omega) (by omega) (by omega) ef_15 ef_20 ef_25 ef_30 ef_36 ef_39 ey_13 ey_18 (by omega) ey_23 (by omega) ey_28 (by omega) ey_33 (by omega) (by omega) (nar_gt v0_37) v2_7 e2
          obtain ⟨y_40, ey_40⟩ : ∃ y : Int32, y = x1_7 + 1 := ⟨_, rfl⟩
          have ty_40 : y_40.toInt = x1_7.toInt + (1 : Int32).toInt := by rw [ey_40]; exact addI (by omega) (by omega)
          refine lv_iinc (v := y_40) (lv' := [(1, .int y_40), (2, .int y_11), (0, .ref mo)]) hx hb dX12_undo_169 hl (k := 1) rfl (by rw [ey_40]; rfl) (by decide) rfl (fun ls hl => ?_)
          refine lv_goto (tgt := 53) hx hb dX12_undo_172 (by decide) ?_
          exact ih_7 y_40 f_15 f_20 f_25 f_30 f_36 f_39 _ _ _ (by omega) (by first | with_reducible assumption | omega | assumption) (by first | with_reducible assumption | omega | assumption) (by first | exact hE_ y_40 (by omega) | (intro j hj; omega)) (by first | with_reducible assumption | assumption | exact rng_zero (by omega) (by omega) | exact orng_zero) (by first | with_reducible assumption | assumption | exact rng_zero (by omega) (by omega) | exact orng_zero) (by first | with_reducible assumption | assumption | exact rng_zero (by omega) (by omega) | exact orng_zero) (by first | with_reducible assumption | assumption | exact rng_zero (by omega) (by omega) | exact orng_zero) hP hD hS (lv_sub hl [0, 2] rfl)
        refine lv_aload_n hx hb dX12_undo_149 rfl (lv_at hl 2 rfl) ?_
        refine va_get (ci := 12) (v := .ref g14) (C := RX12) (T := TX12) (N := 34) hx hb hts (fun _ h => List.mem_cons_of_mem _ (List.mem_append_right _ h)) hown hK.1 hP 0 rfl rfl 14 (by decide) (hts (.fieldLink RX12 35 "CutAtlasModel" "old" "[I") (by decide +kernel)) (fun _ h9 => h9) rfl dX12_undo_150 ?_
        refine lv_iload_n hx hb dX12_undo_153 rfl (lv_at hl 0 rfl) ?_
        refine lv_iconst (v := 4) hx hb dX12_undo_154 (by decide) ?_
        refine lv_iadd hx hb dX12_undo_155 ?_
        refine lv_topi (fun y_41 ey_41 => ?_)
        have e_ := (ey_41.trans ey_31.symm).symm
        subst e_
        have h_42 : vp_in y_31 6000 := in_I (by omega) (by omega)
        refine va_iald hx hb hK.1 hP 9 0 rfl rfl (i := y_31) h_42 dX12_undo_156 ?_
        refine lv_topi (fun y_43 ey_43 => ?_)
        have e_ := (ey_43.trans ey_33.symm).symm
        subst e_
        skip
        refine lv_sipush (v := 999) hx hb dX12_undo_157 (by decide) ?_
        refine lv_icmp_le (tgt := 167) hx hb dX12_undo_160 (by decide) (fun c_44 => ?_) (fun c_44 => ?_)
        · have t_44 : y_33.toInt ≤ (999 : Int32).toInt := Int32.le_iff_toInt_le.mp c_44
          refine lv_iconst (v := 0) hx hb dX12_undo_167 (by decide) ?_
          exact JOIN_37 (0 : Int32) _ _ _ (by first | (rw [if_pos (by omega)]; decide) | (rw [if_neg (by omega)]; decide)) hP hD hS (lv_sub hl [0, 1, 2] rfl)
        · have t_44 : ¬ y_33.toInt ≤ (999 : Int32).toInt := fun h => c_44 (Int32.le_iff_toInt_le.mpr h)
          refine lv_iconst (v := 1) hx hb dX12_undo_163 (by decide) ?_
          refine lv_goto (tgt := 168) hx hb dX12_undo_164 (by decide) ?_
          exact JOIN_37 (1 : Int32) _ _ _ (by first | (rw [if_pos (by omega)]; decide) | (rw [if_neg (by omega)]; decide)) hP hD hS (lv_sub hl [0, 1, 2] rfl)
  · have t_1 : s11.toInt = (0 : Int32).toInt := congrArg Int32.toInt c_1
    refine lv_bipush (v := (-2)) hx hb dX12_undo_12 (by decide) ?_
    rw [hQ]
    exact W.iret (v := (-2)) hx hb hr (fun t ht hW => ⟨⟨(-2), (), rfl, trivial, s3, s4, s11, f5, f6, f7, f8, f9, f10, (by first | with_reducible assumption | omega | assumption), (by first | with_reducible assumption | omega | assumption), (by first | with_reducible assumption | omega | assumption), (by first | exact hne_ | assumption), (by first | with_reducible assumption | assumption | exact past_dn hpast (by omega)), (by first | with_reducible assumption | assumption | exact rng_zero (by omega) (by omega) | omega), (by first | with_reducible assumption | assumption | exact rng_zero (by omega) (by omega) | omega), (by first | with_reducible assumption | assumption | exact rng_zero (by omega) (by omega) | omega), (by first | with_reducible assumption | assumption | exact rng_zero (by omega) (by omega) | omega), by rw [ht]; exact hP, hD⟩, hS.F ht⟩) hS.2.2 dX12_undo_14
end
