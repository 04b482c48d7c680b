/-- the reference's search: the places that it has met, each from an earlier one -/
noncomputable def bfs (LO : Int → Int → Int) (q cf : Nat → Int32) (s : Int32) (P : Int) (n : Nat) : Prop :=
  (∀ i : Nat, i < n → 0 ≤ (q i).toInt ∧ (q i).toInt < P) ∧ (∀ i j : Nat, i < j → j < n → (q i).toInt ≠ (q j).toInt) ∧ q 0 = s ∧ (∀ j : Nat, 1 ≤ j → j < n → ∃ i : Nat, i < j ∧ cf (q j).toNatClampNeg = q i ∧ 0 < LO (q i).toInt (q j).toInt)
theorem pigeon : ∀ (P n : Nat) (q : Nat → Int), (∀ i : Nat, i < n → 0 ≤ q i ∧ q i < P) → (∀ i j : Nat, i < j → j < n → q i ≠ q j) → n ≤ P := by
  intro P
  induction P with
  | zero =>
    intro n q h _
    rcases Nat.eq_zero_or_pos n with e | e
    · omega
    · have := h 0 e
      omega
  | succ P ih =>
    intro n q h hd
    by_cases hx : ∃ a : Nat, a < n ∧ q a = P
    · obtain ⟨a, ha, ea⟩ := hx
      have h3 := ih (n - 1) (fun i => if i < a then q i else q (i + 1)) (fun i hi => by
        by_cases hia : i < a
        · rw [if_pos hia]
          have b := h i (by omega)
          have c := hd i a hia ha
          omega
        · rw [if_neg hia]
          have b := h (i + 1) (by omega)
          have c := hd a (i + 1) (by omega) (by omega)
          omega) (fun i j hij hj => by
        by_cases hia : i < a <;> by_cases hja : j < a
        · rw [if_pos hia, if_pos hja]
          exact hd i j hij (by omega)
        · rw [if_pos hia, if_neg hja]
          exact hd i (j + 1) (by omega) (by omega)
        · omega
        · rw [if_neg hia, if_neg hja]
          exact hd (i + 1) (j + 1) (by omega) (by omega))
      omega
    · have h3 := ih n q (fun i hi => by
        have b := h i hi
        have c : q i ≠ P := fun e => hx ⟨i, hi, e⟩
        omega) hd
      omega
theorem bfs_len {LO : Int → Int → Int} {q cf : Nat → Int32} {s : Int32} {P : Int} {n : Nat} (h : bfs LO q cf s P n) (h0 : 0 ≤ P) : (n : Int) ≤ P := by
  have := pigeon P.toNat n (fun i => (q i).toInt) (fun i hi => by
    have b := h.1 i hi
    exact ⟨b.1, by omega⟩) h.2.1
  omega
theorem bfs_one {LO : Int → Int → Int} {q cf f : Nat → Int32} {s : Int32} {P : Int} (e : f = upd q (0 : Int32).toNatClampNeg s) (h0 : 0 ≤ s.toInt) (h1 : s.toInt < P) : bfs LO f cf s P 1 := by
  have e0 : f 0 = s := by
    rw [e]
    exact pk_us
  refine ⟨fun i hi => ?_, fun i j hij hj => by omega, e0, fun j h1 h2 => by omega⟩
  obtain rfl : i = 0 := by omega
  rw [e0]
  exact ⟨h0, h1⟩
theorem cl_inj {a b : Int32} (ha : 0 ≤ a.toInt) (hb : 0 ≤ b.toInt) (h : a.toNatClampNeg = b.toNatClampNeg) : a.toInt = b.toInt := by
  have x1 := clI (i := a) ha
  have x2 := clI (i := b) hb
  omega
theorem bfs_push {LO : Int → Int → Int} {q cf q2 cf2 : Nat → Int32} {s y v m k : Int32} {P : Int} (eq : q2 = upd q m.toNatClampNeg y) (ec : cf2 = upd cf y.toNatClampNeg v) (ev : v = q2 k.toNatClampNeg) (h : bfs LO q cf s P m.toNatClampNeg) (hm : 0 < m.toInt) (hk0 : 0 ≤ k.toInt) (hk : k.toInt < m.toInt) (hy0 : 0 ≤ y.toInt) (hy1 : y.toInt < P) (hf : ∀ i : Nat, (i : Int) < m.toInt → (q i).toInt ≠ y.toInt) (hl : 0 < LO (q k.toNatClampNeg).toInt y.toInt) : bfs LO q2 cf2 s P (m.toNatClampNeg + 1) := by
  have cm := clI (i := m) (by omega)
  have ck := clI (i := k) hk0
  have hq : ∀ i : Nat, i < m.toNatClampNeg → q2 i = q i := fun i hi => by rw [eq]; exact pk_un (by omega)
  have hqm : q2 m.toNatClampNeg = y := by rw [eq]; exact pk_us
  have evq : v = q k.toNatClampNeg := by rw [ev]; exact hq _ (by omega)
  refine ⟨fun i hi => ?_, fun i j hij hj => ?_, ?_, fun j h1 h2 => ?_⟩
  · by_cases e : i < m.toNatClampNeg
    · rw [hq i e]
      exact h.1 i e
    · obtain rfl : i = m.toNatClampNeg := by omega
      rw [hqm]
      exact ⟨hy0, hy1⟩
  · by_cases e : j < m.toNatClampNeg
    · rw [hq i (by omega), hq j e]
      exact h.2.1 i j hij e
    · obtain rfl : j = m.toNatClampNeg := by omega
      rw [hqm, hq i hij]
      exact hf i (by omega)
  · rw [hq 0 (by omega)]
    exact h.2.2.1
  · by_cases e : j < m.toNatClampNeg
    · obtain ⟨i, g1, g2, g3⟩ := h.2.2.2 j h1 e
      refine ⟨i, g1, ?_, ?_⟩
      · rw [hq j e, hq i (by omega), ec, pk_un (fun e9 => ?_)]
        · exact g2
        · exact hf j (by omega) (cl_inj (h.1 j e).1 hy0 e9)
      · rw [hq j e, hq i (by omega)]
        exact g3
    · obtain rfl : j = m.toNatClampNeg := by omega
      refine ⟨k.toNatClampNeg, by omega, ?_, ?_⟩
      · rw [hqm, hq _ (by omega), ec, pk_us, evq]
      · rw [hqm, hq _ (by omega)]
        exact hl
theorem met_st {q : Nat → Int32} {p v i i2 a a2 : Int32} (h : a.toInt = 0 → ∀ j : Nat, (j : Int) < i.toInt → (q j).toInt ≠ p.toInt) (hi : 0 ≤ i.toInt) (ei : i2.toInt = i.toInt + 1) (ev : v = q i.toNatClampNeg) (hv : a2.toInt = 0 → a.toInt = 0 ∧ v.toInt ≠ p.toInt) : a2.toInt = 0 → ∀ j : Nat, (j : Int) < i2.toInt → (q j).toInt ≠ p.toInt := fun h0 j hj => by
  obtain ⟨b1, b2⟩ := hv h0
  by_cases e : (j : Int) < i.toInt
  · exact h b1 j e
  · have c := clI (i := i) hi
    obtain rfl : j = i.toNatClampNeg := by omega
    rw [← ev]
    exact b2
theorem or_z {a b : Int32} (ha : a.toInt = 0 ∨ a.toInt = 1) (hb : b.toInt = 0 ∨ b.toInt = 1) : (a ||| b).toInt = 0 → a.toInt = 0 ∧ b.toInt = 0 := by
  rcases b01 ha with rfl | rfl <;> rcases b01 hb with rfl | rfl <;> decide

set_option maxHeartbeats 4000000 in
set_option maxRecDepth 100000 in
theorem c_X12_isMet2 (l : Launch) (D : va_G) (cy : Nat → ClassId) (sz : Nat) (mo : Nat) (g5 : Nat) (g6 : Nat) (g7 : Nat) (g8 : Nat) (g9 : Nat) (g10 : Nat) (g12 : Nat) (g13 : Nat) (g14 : Nat) (g15 : Nat) (g16 : Nat) (g17 : Nat) (g18 : Nat) (g19 : Nat) (g20 : Nat) (g22 : Nat) (g23 : Nat) (g24 : Nat) (g29 : Nat) (g30 : Nat) (g31 : Nat) (g32 : Nat) (g33 : Nat) (s0 : Int32) (s1 : Int32) (s3 : Int32) (s4 : Int32) (s11 : Int32) (s21 : Int32) (s25 : Int32) (s26 : Int32) (s27 : Int32) (s28 : Int32) (t2 : Int64) (f23 : Nat → Int32) (a1 : Int32) (a2 : Int32) (q2 : 0 ≤ a2.toInt ∧ a2.toInt ≤ 12) : Met l yX12_isMet wsX12_isMet ({ frames := 0, cells := 0, slots := 0, locals := 0 }) (va_Pc [.ref mo, .int a1, .int a2] (fun U => U.heap.size = sz ∧ va_P D vwCl [(mo, .inr (12, [.int s0, .int s1, .long t2, .int s3, .int s4, .ref g5, .ref g6, .ref g7, .ref g8, .ref g9, .ref g10, .int s11, .ref g12, .ref g13, .ref g14, .ref g15, .ref g16, .ref g17, .ref g18, .ref g19, .ref g20, .int s21, .ref g22, .ref g23, .ref g24, .int s25, .int s26, .int s27, .int s28, .ref g29, .ref g30, .ref g31, .ref g32, .ref g33])), (g23, .inl (cy 0, 12, .inl f23))] U.heap ∧ kk_ D cy U ∧ va_D (fun _ => True) [(mo, .inr (12, [.int s0, .int s1, .long t2, .int s3, .int s4, .ref g5, .ref g6, .ref g7, .ref g8, .ref g9, .ref g10, .int s11, .ref g12, .ref g13, .ref g14, .ref g15, .ref g16, .ref g17, .ref g18, .ref g19, .ref g20, .int s21, .ref g22, .ref g23, .ref g24, .int s25, .int s26, .int s27, .int s28, .ref g29, .ref g30, .ref g31, .ref g32, .ref g33])), (g23, .inl (cy 0, 12, .inl f23))])) (va_Qi (fun (r : Int32) (_ : Unit) => (r.toInt = 0 ∨ r.toInt = 1) ∧ (r.toInt = 0 → ∀ j : Nat, (j : Int) < a2.toInt → (f23 j).toInt ≠ a1.toInt)) (fun (_ : Unit) (_ : State) => True) (va_A [] sz)) 0 0 (va_A [] sz) := by
  refine ofQ (cc := cX12_isMet) (maxL := 5) (ret := (some .boolean)) (by decide) rfl ?_
  intro p e s m args below meth c s₁ Q hQ B hml hv
  obtain ⟨rfl, hsz, hP, hK, hD0⟩ := hv
  have hx := B.exec
  have hb := B.bytes
  have hr := B.returns
  have hts := atoms_spec (ws := wsX12_isMet) B.pre
  have hown : s.vm.findClass RX12 = some m.cls := by have h_ := findClass_of_methodNamed B.named; exact h_
  have hlocks := B.notSynchronized
  subst hsz
  have hD : va_D (va_A [] s.heap.size) [] := dd_nil
  generalize hAe : va_A [] s.heap.size = A at hD hQ
  have hA : ∀ q : Nat, s.heap.size ≤ q → A q := fun q h => by rw [← hAe]; exact Or.inr h
  have hS : va_S A s.heap s.heap [] := va_S.rf
  have hl := lv_entry ([.ref mo, .int a1, .int a2]) (n := 5) (Nat.le_of_ble_eq_true rfl)
  rw [lg_entry_eq]
  generalize (lg_sl ([.ref mo, .int a1, .int a2]) ++ List.replicate (5 - (lg_sl ([.ref mo, .int a1, .int a2])).length) Slot.unset).toArray = ls at hl ⊢
  have hl : lv_has ls 5 [(0, .ref mo), (1, .int a1), (2, .int a2)] := hl
  have z0 : (0 : Int32).toInt = 0 := by decide
  have z1 : (1 : Int32).toInt = 1 := by decide
  refine lv_iconst (v := 0) hx hb dX12_isMet_0 (by decide) ?_
  refine lv_istore_n (lv' := [(3, .int 0), (0, .ref mo), (1, .int a1), (2, .int a2)]) hx hb dX12_isMet_1 rfl hl (by decide) rfl (fun ls hl => ?_)
  refine lv_iconst (v := 0) hx hb dX12_isMet_2 (by decide) ?_
  refine lv_istore (lv' := [(4, .int 0), (3, .int 0), (0, .ref mo), (1, .int a1), (2, .int a2)]) hx hb dX12_isMet_3 hl (by decide) rfl (fun ls hl => ?_)
  suffices LOOP_1 : ∀ (n_1 : Nat) (x4_1 : Int32) (x3_1 : Int32) (H : Heap) (locs : List Loc) (ls : Array Slot), a2.toInt - x4_1.toInt < (n_1 : Int) → (0 ≤ x4_1.toInt) → (x4_1.toInt ≤ a2.toInt) → (x3_1.toInt = 0 ∨ x3_1.toInt = 1) → (x3_1.toInt = 0 → ∀ j : Nat, (j : Int) < x4_1.toInt → (f23 j).toInt ≠ a1.toInt) → va_P D vwCl [(mo, .inr (12, [.int s0, .int s1, .long t2, .int s3, .int s4, .ref g5, .ref g6, .ref g7, .ref g8, .ref g9, .ref g10, .int s11, .ref g12, .ref g13, .ref g14, .ref g15, .ref g16, .ref g17, .ref g18, .ref g19, .ref g20, .int s21, .ref g22, .ref g23, .ref g24, .int s25, .int s26, .int s27, .int s28, .ref g29, .ref g30, .ref g31, .ref g32, .ref g33])), (g23, .inl (cy 0, 12, .inl f23))] H → va_S A s.heap H locs → lv_has ls 5 [(4, .int x4_1), (3, .int x3_1), (0, .ref mo), (1, .int a1), (2, .int a2)] → W p l e ({ frames := 0, cells := 0, slots := 0, locals := 0 } : Room) s m (([.ref mo, .int a1, .int a2] : List Value).toArray) below meth c H locs 0 0 Q (F0 m 5 ls []) from LOOP_1 ((a2.toInt - (0 : Int32).toInt).toNat + 1) (0 : Int32) (0 : Int32) _ _ _ (by omega) (by first | with_reducible assumption | assumption | omega) (by first | with_reducible assumption | assumption | omega) (by first | with_reducible assumption | assumption | omega) (by first | exact met_st (by assumption) (by omega) (by omega) (by assumption) (by omega) | (intro _ j hj; omega)) hP  hS (lv_sub hl [0, 1, 2, 3, 4] rfl)
  intro n_1
  induction n_1 with
  | zero =>
    intro x4_1 x3_1 H locs ls hm v0_1 v1_1 v2_1 v3_1 hP hS hl
    exact absurd hm (by omega)
  | succ n_1 ih_1 =>
    intro x4_1 x3_1 H locs ls hm v0_1 v1_1 v2_1 v3_1 hP hS hl
    refine lv_iload hx hb dX12_isMet_5 (lv_at hl 0 rfl) ?_
    refine lv_iload_n hx hb dX12_isMet_7 rfl (lv_at hl 4 rfl) ?_
    refine lv_icmp_ge (tgt := 36) hx hb dX12_isMet_8 (by decide) (fun c_2 => ?_) (fun c_2 => ?_)
    · have t_2 : a2.toInt ≤ x4_1.toInt := Int32.le_iff_toInt_le.mp c_2
      refine lv_iload_n hx hb dX12_isMet_36 rfl (lv_at hl 1 rfl) ?_
      rw [hQ]
      exact W.zret (ty := .boolean) (v := x3_1) hx hb hr (nar_b (by omega)) (fun t ht hW => ⟨⟨x3_1, (), rfl, ⟨by omega, fun h0 j hj => by first | exact v3_1 h0 j (by omega)⟩, trivial⟩, hS.F ht⟩) hS.2.2 dX12_isMet_37
    · have t_2 : ¬ a2.toInt ≤ x4_1.toInt := fun h => c_2 (Int32.le_iff_toInt_le.mpr h)
      refine lv_iload_n hx hb dX12_isMet_11 rfl (lv_at hl 1 rfl) ?_
      refine lv_aload_n hx hb dX12_isMet_12 rfl (lv_at hl 2 rfl) ?_
      refine va_get (ci := 12) (v := .ref g23) (C := RX12) (T := TX12) (N := 34) hx hb hts (fun _ h => List.mem_cons_of_mem _ (List.mem_append_right _ h)) hown hK.1 hP 0 rfl rfl 23 (by decide) (hts (.fieldLink RX12 64 "CutAtlasModel" "queue" "[I") (by decide +kernel)) (fun _ h9 => h9) rfl dX12_isMet_13 ?_
      refine lv_iload hx hb dX12_isMet_16 (lv_at hl 0 rfl) ?_
      have h_3 : vp_in x4_1 12 := in_I (by omega) (by omega)
      refine va_iald hx hb hK.1 hP 1 0 rfl rfl (i := x4_1) h_3 dX12_isMet_18 ?_
      refine lv_topi (fun y_4 ey_4 => ?_)
      refine lv_iload_n hx hb dX12_isMet_19 rfl (lv_at hl 3 rfl) ?_
      refine lv_icmp_ne (tgt := 27) hx hb dX12_isMet_20 (by decide) (fun c_5 => ?_) (fun c_5 => ?_)
      · have t_5 : ¬ y_4.toInt = a1.toInt := fun h => c_5 (Int32.toInt_inj.mp h)
        refine lv_iconst (v := 0) hx hb dX12_isMet_27 (by decide) ?_
        refine lv_ior hx hb dX12_isMet_28 ?_
        refine lv_topi (fun y_6 ey_6 => ?_)
        have ty_6 : (y_6.toInt = 0 ∨ y_6.toInt = 1) ∧ (y_6.toInt = 0 → x3_1.toInt = 0 ∧ (0 : Int32).toInt = 0) := by rw [ey_6]; exact ⟨or01 (by omega) (by omega), or_z (by omega) (by omega)⟩
        refine lv_istore_n (lv' := [(3, .int y_6), (4, .int x4_1), (0, .ref mo), (1, .int a1), (2, .int a2)]) hx hb dX12_isMet_29 rfl hl (by decide) rfl (fun ls hl => ?_)
        obtain ⟨y_7, ey_7⟩ : ∃ y : Int32, y = x4_1 + 1 := ⟨_, rfl⟩
        have ty_7 : y_7.toInt = x4_1.toInt + (1 : Int32).toInt := by rw [ey_7]; exact addI (by omega) (by omega)
        refine lv_iinc (v := y_7) (lv' := [(4, .int y_7), (3, .int y_6), (0, .ref mo), (1, .int a1), (2, .int a2)]) hx hb dX12_isMet_30 hl (k := 1) rfl (by rw [ey_7]; rfl) (by decide) rfl (fun ls hl => ?_)
        refine lv_goto (tgt := 5) hx hb dX12_isMet_33 (by decide) ?_
        exact ih_1 y_7 y_6 _ _ _ (by omega) (by first | with_reducible assumption | assumption | omega) (by first | with_reducible assumption | assumption | omega) (by first | with_reducible assumption | assumption | omega) (by first | exact met_st (by assumption) (by omega) (by omega) (by assumption) (by omega) | (intro _ j hj; omega)) hP  hS (lv_sub hl [0, 1, 2, 3, 4] rfl)
      · have t_5 : y_4.toInt = a1.toInt := congrArg Int32.toInt c_5
        refine lv_iconst (v := 1) hx hb dX12_isMet_23 (by decide) ?_
        refine lv_goto (tgt := 28) hx hb dX12_isMet_24 (by decide) ?_
        refine lv_ior hx hb dX12_isMet_28 ?_
        refine lv_topi (fun y_8 ey_8 => ?_)
        have ty_8 : (y_8.toInt = 0 ∨ y_8.toInt = 1) ∧ (y_8.toInt = 0 → x3_1.toInt = 0 ∧ (1 : Int32).toInt = 0) := by rw [ey_8]; exact ⟨or01 (by omega) (by omega), or_z (by omega) (by omega)⟩
        refine lv_istore_n (lv' := [(3, .int y_8), (4, .int x4_1), (0, .ref mo), (1, .int a1), (2, .int a2)]) hx hb dX12_isMet_29 rfl hl (by decide) rfl (fun ls hl => ?_)
        obtain ⟨y_9, ey_9⟩ : ∃ y : Int32, y = x4_1 + 1 := ⟨_, rfl⟩
        have ty_9 : y_9.toInt = x4_1.toInt + (1 : Int32).toInt := by rw [ey_9]; exact addI (by omega) (by omega)
        refine lv_iinc (v := y_9) (lv' := [(4, .int y_9), (3, .int y_8), (0, .ref mo), (1, .int a1), (2, .int a2)]) hx hb dX12_isMet_30 hl (k := 1) rfl (by rw [ey_9]; rfl) (by decide) rfl (fun ls hl => ?_)
        refine lv_goto (tgt := 5) hx hb dX12_isMet_33 (by decide) ?_
        exact ih_1 y_9 y_8 _ _ _ (by omega) (by first | with_reducible assumption | assumption | omega) (by first | with_reducible assumption | assumption | omega) (by first | with_reducible assumption | assumption | omega) (by first | exact met_st (by assumption) (by omega) (by omega) (by assumption) (by omega) | (intro _ j hj; omega)) hP  hS (lv_sub hl [0, 1, 2, 3, 4] rfl)
