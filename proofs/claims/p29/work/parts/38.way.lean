section
/-- the reference's search: the places that it has met, each from an earlier one -/
noncomputable def bfs (LO : Int → Int → Int) (q cf : Nat → Int32) (s : Int32) (P : Int) (n : Nat) : Prop :=
  (∀ i : Nat, i < n → 0 ≤ (q i).toInt ∧ (q i).toInt < P) ∧ (∀ i j : Nat, i < j → j < n → (q i).toInt ≠ (q j).toInt) ∧ q 0 = s ∧ (∀ j : Nat, 1 ≤ j → j < n → ∃ i : Nat, i < j ∧ cf (q j).toNatClampNeg = q i ∧ 0 < LO (q i).toInt (q j).toInt)
theorem pigeon : ∀ (P n : Nat) (q : Nat → Int), (∀ i : Nat, i < n → 0 ≤ q i ∧ q i < P) → (∀ i j : Nat, i < j → j < n → q i ≠ q j) → n ≤ P := by
  intro P
  induction P with
  | zero =>
    intro n q h _
    rcases Nat.eq_zero_or_pos n with e | e
    · omega
    · have := h 0 e
      omega
  | succ P ih =>
    intro n q h hd
    by_cases hx : ∃ a : Nat, a < n ∧ q a = P
    · obtain ⟨a, ha, ea⟩ := hx
      have h3 := ih (n - 1) (fun i => if i < a then q i else q (i + 1)) (fun i hi => by
        by_cases hia : i < a
        · rw [if_pos hia]
          have b := h i (by omega)
          have c := hd i a hia ha
          omega
        · rw [if_neg hia]
          have b := h (i + 1) (by omega)
          have c := hd a (i + 1) (by omega) (by omega)
          omega) (fun i j hij hj => by
        by_cases hia : i < a <;> by_cases hja : j < a
        · rw [if_pos hia, if_pos hja]
          exact hd i j hij (by omega)
        · rw [if_pos hia, if_neg hja]
          exact hd i (j + 1) (by omega) (by omega)
        · omega
        · rw [if_neg hia, if_neg hja]
          exact hd (i + 1) (j + 1) (by omega) (by omega))
      omega
    · have h3 := ih n q (fun i hi => by
        have b := h i hi
        have c : q i ≠ P := fun e => hx ⟨i, hi, e⟩
        omega) hd
      omega
theorem bfs_len {LO : Int → Int → Int} {q cf : Nat → Int32} {s : Int32} {P : Int} {n : Nat} (h : bfs LO q cf s P n) (h0 : 0 ≤ P) : (n : Int) ≤ P := by
  have := pigeon P.toNat n (fun i => (q i).toInt) (fun i hi => by
    have b := h.1 i hi
    exact ⟨b.1, by omega⟩) h.2.1
  omega
theorem bfs_one {LO : Int → Int → Int} {q cf f : Nat → Int32} {s : Int32} {P : Int} (e : f = upd q (0 : Int32).toNatClampNeg s) (h0 : 0 ≤ s.toInt) (h1 : s.toInt < P) : bfs LO f cf s P 1 := by
  have e0 : f 0 = s := by
    rw [e]
    exact pk_us
  refine ⟨fun i hi => ?_, fun i j hij hj => by omega, e0, fun j h1 h2 => by omega⟩
  obtain rfl : i = 0 := by omega
  rw [e0]
  exact ⟨h0, h1⟩
theorem cl_inj {a b : Int32} (ha : 0 ≤ a.toInt) (hb : 0 ≤ b.toInt) (h : a.toNatClampNeg = b.toNatClampNeg) : a.toInt = b.toInt := by
  have x1 := clI (i := a) ha
  have x2 := clI (i := b) hb
  omega
theorem bfs_push {LO : Int → Int → Int} {q cf q2 cf2 : Nat → Int32} {s y v m k : Int32} {P : Int} (eq : q2 = upd q m.toNatClampNeg y) (ec : cf2 = upd cf y.toNatClampNeg v) (ev : v = q2 k.toNatClampNeg) (h : bfs LO q cf s P m.toNatClampNeg) (hm : 0 < m.toInt) (hk0 : 0 ≤ k.toInt) (hk : k.toInt < m.toInt) (hy0 : 0 ≤ y.toInt) (hy1 : y.toInt < P) (hf : ∀ i : Nat, (i : Int) < m.toInt → (q i).toInt ≠ y.toInt) (hl : 0 < LO (q k.toNatClampNeg).toInt y.toInt) : bfs LO q2 cf2 s P (m.toNatClampNeg + 1) := by
  have cm := clI (i := m) (by omega)
  have ck := clI (i := k) hk0
  have hq : ∀ i : Nat, i < m.toNatClampNeg → q2 i = q i := fun i hi => by rw [eq]; exact pk_un (by omega)
  have hqm : q2 m.toNatClampNeg = y := by rw [eq]; exact pk_us
  have evq : v = q k.toNatClampNeg := by rw [ev]; exact hq _ (by omega)
  refine ⟨fun i hi => ?_, fun i j hij hj => ?_, ?_, fun j h1 h2 => ?_⟩
  · by_cases e : i < m.toNatClampNeg
    · rw [hq i e]
      exact h.1 i e
    · obtain rfl : i = m.toNatClampNeg := by omega
      rw [hqm]
      exact ⟨hy0, hy1⟩
  · by_cases e : j < m.toNatClampNeg
    · rw [hq i (by omega), hq j e]
      exact h.2.1 i j hij e
    · obtain rfl : j = m.toNatClampNeg := by omega
      rw [hqm, hq i hij]
      exact hf i (by omega)
  · rw [hq 0 (by omega)]
    exact h.2.2.1
  · by_cases e : j < m.toNatClampNeg
    · obtain ⟨i, g1, g2, g3⟩ := h.2.2.2 j h1 e
      refine ⟨i, g1, ?_, ?_⟩
      · rw [hq j e, hq i (by omega), ec, pk_un (fun e9 => ?_)]
        · exact g2
        · exact hf j (by omega) (cl_inj (h.1 j e).1 hy0 e9)
      · rw [hq j e, hq i (by omega)]
        exact g3
    · obtain rfl : j = m.toNatClampNeg := by omega
      refine ⟨k.toNatClampNeg, by omega, ?_, ?_⟩
      · rw [hqm, hq _ (by omega), ec, pk_us, evq]
      · rw [hqm, hq _ (by omega)]
        exact hl
theorem met_st {q : Nat → Int32} {p v i i2 a a2 : Int32} (h : a.toInt = 0 → ∀ j : Nat, (j : Int) < i.toInt → (q j).toInt ≠ p.toInt) (hi : 0 ≤ i.toInt) (ei : i2.toInt = i.toInt + 1) (ev : v = q i.toNatClampNeg) (hv : a2.toInt = 0 → a.toInt = 0 ∧ v.toInt ≠ p.toInt) : a2.toInt = 0 → ∀ j : Nat, (j : Int) < i2.toInt → (q j).toInt ≠ p.toInt := fun h0 j hj => by
  obtain ⟨b1, b2⟩ := hv h0
  by_cases e : (j : Int) < i.toInt
  · exact h b1 j e
  · have c := clI (i := i) hi
    obtain rfl : j = i.toNatClampNeg := by omega
    rw [← ev]
    exact b2
theorem or_z {a b : Int32} (ha : a.toInt = 0 ∨ a.toInt = 1) (hb : b.toInt = 0 ∨ b.toInt = 1) : (a ||| b).toInt = 0 → a.toInt = 0 ∧ b.toInt = 0 := by
  rcases b01 ha with rfl | rfl <;> rcases b01 hb with rfl | rfl <;> decide

set_option maxHeartbeats 4000000 in
set_option maxRecDepth 100000 in
theorem c_X12_isMet2 (l : Launch) (D : va_G) (cy : Nat → ClassId) (sz : Nat) (mo : Nat) (g5 : Nat) (g6 : Nat) (g7 : Nat) (g8 : Nat) (g9 : Nat) (g10 : Nat) (g12 : Nat) (g13 : Nat) (g14 : Nat) (g15 : Nat) (g16 : Nat) (g17 : Nat) (g18 : Nat) (g19 : Nat) (g20 : Nat) (g22 : Nat) (g23 : Nat) (g24 : Nat) (g29 : Nat) (g30 : Nat) (g31 : Nat) (g32 : Nat) (g33 : Nat) (s0 : Int32) (s1 : Int32) (s3 : Int32) (s4 : Int32) (s11 : Int32) (s21 : Int32) (s25 : Int32) (s26 : Int32) (s27 : Int32) (s28 : Int32) (t2 : Int64) (f23 : Nat → Int32) (a1 : Int32) (a2 : Int32) (q2 : 0 ≤ a2.toInt ∧ a2.toInt ≤ 12) : Met l yX12_isMet wsX12_isMet ({ frames := 0, cells := 0, slots := 0, locals := 0 }) (va_Pc [.ref mo, .int a1, .int a2] (fun U => U.heap.size = sz ∧ va_P D vwCl [(mo, .inr (12, [.int s0, .int s1, .long t2, .int s3, .int s4, .ref g5, .ref g6, .ref g7, .ref g8, .ref g9, .ref g10, .int s11, .ref g12, .ref g13, .ref g14, .ref g15, .ref g16, .ref g17, .ref g18, .ref g19, .ref g20, .int s21, .ref g22, .ref g23, .ref g24, .int s25, .int s26, .int s27, .int s28, .ref g29, .ref g30, .ref g31, .ref g32, .ref g33])), (g23, .inl (cy 0, 12, .inl f23))] U.heap ∧ kk_ D cy U ∧ va_D (fun _ => True) [(mo, .inr (12, [.int s0, .int s1, .long t2, .int s3, .int s4, .ref g5, .ref g6, .ref g7, .ref g8, .ref g9, .ref g10, .int s11, .ref g12, .ref g13, .ref g14, .ref g15, .ref g16, .ref g17, .ref g18, .ref g19, .ref g20, .int s21, .ref g22, .ref g23, .ref g24, .int s25, .int s26, .int s27, .int s28, .ref g29, .ref g30, .ref g31, .ref g32, .ref g33])), (g23, .inl (cy 0, 12, .inl f23))])) (va_Qi (fun (r : Int32) (_ : Unit) => (r.toInt = 0 ∨ r.toInt = 1) ∧ (r.toInt = 0 → ∀ j : Nat, (j : Int) < a2.toInt → (f23 j).toInt ≠ a1.toInt)) (fun (_ : Unit) (_ : State) => True) (va_A [] sz)) 0 0 (va_A [] sz) := by
  refine ofQ (cc := cX12_isMet) (maxL := 5) (ret := (some .boolean)) (by decide) rfl ?_
  intro p e s m args below meth c s₁ Q hQ B hml hv
  obtain ⟨rfl, hsz, hP, hK, hD0⟩ := hv
  have hx := B.exec
  have hb := B.bytes
  have hr := B.returns
  have hts := atoms_spec (ws := wsX12_isMet) B.pre
  have hown : s.vm.findClass RX12 = some m.cls := by have h_ := findClass_of_methodNamed B.named; exact h_
  have hlocks := B.notSynchronized
  subst hsz
  have hD : va_D (va_A [] s.heap.size) [] := dd_nil
  generalize hAe : va_A [] s.heap.size = A at hD hQ
  have hA : ∀ q : Nat, s.heap.size ≤ q → A q := fun q h => by rw [← hAe]; exact Or.inr h
  have hS : va_S A s.heap s.heap [] := va_S.rf
  have hl := lv_entry ([.ref mo, .int a1, .int a2]) (n := 5) (Nat.le_of_ble_eq_true rfl)
  rw [lg_entry_eq]
  generalize (lg_sl ([.ref mo, .int a1, .int a2]) ++ List.replicate (5 - (lg_sl ([.ref mo, .int a1, .int a2])).length) Slot.unset).toArray = ls at hl ⊢
  have hl : lv_has ls 5 [(0, .ref mo), (1, .int a1), (2, .int a2)] := hl
  have z0 : (0 : Int32).toInt = 0 := by decide
  have z1 : (1 : Int32).toInt = 1 := by decide
  refine lv_iconst (v := 0) hx hb dX12_isMet_0 (by decide) ?_
  refine lv_istore_n (lv' := [(3, .int 0), (0, .ref mo), (1, .int a1), (2, .int a2)]) hx hb dX12_isMet_1 rfl hl (by decide) rfl (fun ls hl => ?_)
  refine lv_iconst (v := 0) hx hb dX12_isMet_2 (by decide) ?_
  refine lv_istore (lv' := [(4, .int 0), (3, .int 0), (0, .ref mo), (1, .int a1), (2, .int a2)]) hx hb dX12_isMet_3 hl (by decide) rfl (fun ls hl => ?_)
  suffices LOOP_1 : ∀ (n_1 : Nat) (x4_1 : Int32) (x3_1 : Int32) (H : Heap) (locs : List Loc) (ls : Array Slot), a2.toInt - x4_1.toInt < (n_1 : Int) → (0 ≤ x4_1.toInt) → (x4_1.toInt ≤ a2.toInt) → (x3_1.toInt = 0 ∨ x3_1.toInt = 1) → (x3_1.toInt = 0 → ∀ j : Nat, (j : Int) < x4_1.toInt → (f23 j).toInt ≠ a1.toInt) → va_P D vwCl [(mo, .inr (12, [.int s0, .int s1, .long t2, .int s3, .int s4, .ref g5, .ref g6, .ref g7, .ref g8, .ref g9, .ref g10, .int s11, .ref g12, .ref g13, .ref g14, .ref g15, .ref g16, .ref g17, .ref g18, .ref g19, .ref g20, .int s21, .ref g22, .ref g23, .ref g24, .int s25, .int s26, .int s27, .int s28, .ref g29, .ref g30, .ref g31, .ref g32, .ref g33])), (g23, .inl (cy 0, 12, .inl f23))] H → va_S A s.heap H locs → lv_has ls 5 [(4, .int x4_1), (3, .int x3_1), (0, .ref mo), (1, .int a1), (2, .int a2)] → W p l e ({ frames := 0, cells := 0, slots := 0, locals := 0 } : Room) s m (([.ref mo, .int a1, .int a2] : List Value).toArray) below meth c H locs 0 0 Q (F0 m 5 ls []) from LOOP_1 ((a2.toInt - (0 : Int32).toInt).toNat + 1) (0 : Int32) (0 : Int32) _ _ _ (by omega) (by first | with_reducible assumption | omega | assumption) (by first | with_reducible assumption | omega | assumption) (by first | with_reducible assumption | omega | assumption) (by first | exact met_st (by assumption) (by omega) (by omega) (by assumption) (by omega) | (intro _ j hj; omega)) hP  hS (lv_sub hl [0, 1, 2, 3, 4] rfl)
  intro n_1
  induction n_1 with
  | zero =>
    intro x4_1 x3_1 H locs ls hm v0_1 v1_1 v2_1 v3_1 hP hS hl
    exact absurd hm (by omega)
  | succ n_1 ih_1 =>
    intro x4_1 x3_1 H locs ls hm v0_1 v1_1 v2_1 v3_1 hP hS hl
    refine lv_iload hx hb dX12_isMet_5 (lv_at hl 0 rfl) ?_
    refine lv_iload_n hx hb dX12_isMet_7 rfl (lv_at hl 4 rfl) ?_
    refine lv_icmp_ge (tgt := 36) hx hb dX12_isMet_8 (by decide) (fun c_2 => ?_) (fun c_2 => ?_)
    · have t_2 : a2.toInt ≤ x4_1.toInt := Int32.le_iff_toInt_le.mp c_2
      refine lv_iload_n hx hb dX12_isMet_36 rfl (lv_at hl 1 rfl) ?_
      rw [hQ]
      exact W.zret (ty := .boolean) (v := x3_1) hx hb hr (nar_b (by omega)) (fun t ht hW => ⟨⟨x3_1, (), rfl, ⟨by omega, fun h0 j hj => by first | exact v3_1 h0 j (by omega)⟩, trivial⟩, hS.F ht⟩) hS.2.2 dX12_isMet_37
    · have t_2 : ¬ a2.toInt ≤ x4_1.toInt := fun h => c_2 (Int32.le_iff_toInt_le.mpr h)
      refine lv_iload_n hx hb dX12_isMet_11 rfl (lv_at hl 1 rfl) ?_
      refine lv_aload_n hx hb dX12_isMet_12 rfl (lv_at hl 2 rfl) ?_
      refine va_get (ci := 12) (v := .ref g23) (C := RX12) (T := TX12) (N := 34) hx hb hts (fun _ h => List.mem_cons_of_mem _ (List.mem_append_right _ h)) hown hK.1 hP 0 rfl rfl 23 (by decide) (hts (.fieldLink RX12 64 "CutAtlasModel" "queue" "[I") (by decide +kernel)) (fun _ h9 => h9) rfl dX12_isMet_13 ?_
      refine lv_iload hx hb dX12_isMet_16 (lv_at hl 0 rfl) ?_
      have h_3 : vp_in x4_1 12 := in_I (by omega) (by omega)
      refine va_iald hx hb hK.1 hP 1 0 rfl rfl (i := x4_1) h_3 dX12_isMet_18 ?_
      refine lv_topi (fun y_4 ey_4 => ?_)
      refine lv_iload_n hx hb dX12_isMet_19 rfl (lv_at hl 3 rfl) ?_
      refine lv_icmp_ne (tgt := 27) hx hb dX12_isMet_20 (by decide) (fun c_5 => ?_) (fun c_5 => ?_)
      · have t_5 : ¬ y_4.toInt = a1.toInt := fun h => c_5 (Int32.toInt_inj.mp h)
        refine lv_iconst (v := 0) hx hb dX12_isMet_27 (by decide) ?_
        refine lv_ior hx hb dX12_isMet_28 ?_
        refine lv_topi (fun y_6 ey_6 => ?_)
        have ty_6 : (y_6.toInt = 0 ∨ y_6.toInt = 1) ∧ (y_6.toInt = 0 → x3_1.toInt = 0 ∧ (0 : Int32).toInt = 0) := by rw [ey_6]; exact ⟨or01 (by omega) (by omega), or_z (by omega) (by omega)⟩
        refine lv_istore_n (lv' := [(3, .int y_6), (4, .int x4_1), (0, .ref mo), (1, .int a1), (2, .int a2)]) hx hb dX12_isMet_29 rfl hl (by decide) rfl (fun ls hl => ?_)
        obtain ⟨y_7, ey_7⟩ : ∃ y : Int32, y = x4_1 + 1 := ⟨_, rfl⟩
        have ty_7 : y_7.toInt = x4_1.toInt + (1 : Int32).toInt := by rw [ey_7]; exact addI (by omega) (by omega)
        refine lv_iinc (v := y_7) (lv' := [(4, .int y_7), (3, .int y_6), (0, .ref mo), (1, .int a1), (2, .int a2)]) hx hb dX12_isMet_30 hl (k := 1) rfl (by rw [ey_7]; rfl) (by decide) rfl (fun ls hl => ?_)
        refine lv_goto (tgt := 5) hx hb dX12_isMet_33 (by decide) ?_
        exact ih_1 y_7 y_6 _ _ _ (by omega) (by first | with_reducible assumption | omega | assumption) (by first | with_reducible assumption | omega | assumption) (by first | with_reducible assumption | omega | assumption) (by first | exact met_st (by assumption) (by omega) (by omega) (by assumption) (by omega) | (intro _ j hj; omega)) hP  hS (lv_sub hl [0, 1, 2, 3, 4] rfl)
      · have t_5 : y_4.toInt = a1.toInt := congrArg Int32.toInt c_5
        refine lv_iconst (v := 1) hx hb dX12_isMet_23 (by decide) ?_
        refine lv_goto (tgt := 28) hx hb dX12_isMet_24 (by decide) ?_
        refine lv_ior hx hb dX12_isMet_28 ?_
        refine lv_topi (fun y_8 ey_8 => ?_)
        have ty_8 : (y_8.toInt = 0 ∨ y_8.toInt = 1) ∧ (y_8.toInt = 0 → x3_1.toInt = 0 ∧ (1 : Int32).toInt = 0) := by rw [ey_8]; exact ⟨or01 (by omega) (by omega), or_z (by omega) (by omega)⟩
        refine lv_istore_n (lv' := [(3, .int y_8), (4, .int x4_1), (0, .ref mo), (1, .int a1), (2, .int a2)]) hx hb dX12_isMet_29 rfl hl (by decide) rfl (fun ls hl => ?_)
        obtain ⟨y_9, ey_9⟩ : ∃ y : Int32, y = x4_1 + 1 := ⟨_, rfl⟩
        have ty_9 : y_9.toInt = x4_1.toInt + (1 : Int32).toInt := by rw [ey_9]; exact addI (by omega) (by omega)
        refine lv_iinc (v := y_9) (lv' := [(4, .int y_9), (3, .int y_8), (0, .ref mo), (1, .int a1), (2, .int a2)]) hx hb dX12_isMet_30 hl (k := 1) rfl (by rw [ey_9]; rfl) (by decide) rfl (fun ls hl => ?_)
        refine lv_goto (tgt := 5) hx hb dX12_isMet_33 (by decide) ?_
        exact ih_1 y_9 y_8 _ _ _ (by omega) (by first | with_reducible assumption | omega | assumption) (by first | with_reducible assumption | omega | assumption) (by first | with_reducible assumption | omega | assumption) (by first | exact met_st (by assumption) (by omega) (by omega) (by assumption) (by omega) | (intro _ j hj; omega)) hP  hS (lv_sub hl [0, 1, 2, 3, 4] rfl)
end

section
theorem bfs_room {LO : Int → Int → Int} {q cf : Nat → Int32} {s m y : Int32} {P : Int} (h : bfs LO q cf s P m.toNatClampNeg) (hm : 0 < m.toInt) (hy0 : 0 ≤ y.toInt) (hy1 : y.toInt < P) (hf : ∀ i : Nat, (i : Int) < m.toInt → (q i).toInt ≠ y.toInt) : m.toInt < P := by
  have cm := clI (i := m) (by omega)
  have h2 := pigeon P.toNat (m.toNatClampNeg + 1) (fun i => if i < m.toNatClampNeg then (q i).toInt else y.toInt) (fun i hi => by
    by_cases e : i < m.toNatClampNeg
    · rw [if_pos e]
      have b := h.1 i e
      exact ⟨b.1, by omega⟩
    · rw [if_neg e]
      exact ⟨hy0, by omega⟩) (fun i j hij hj => by
    rw [if_pos (show i < m.toNatClampNeg by omega)]
    by_cases e : j < m.toNatClampNeg
    · rw [if_pos e]
      exact h.2.1 i j hij e
    · rw [if_neg e]
      exact hf i (by omega))
  omega
theorem bfs_eq {LO : Int → Int → Int} {q cf : Nat → Int32} {s m m2 : Int32} {P : Int} (h : bfs LO q cf s P (m.toNatClampNeg + 1)) (e : m2.toInt = m.toInt + 1) (h0 : 0 ≤ m.toInt) : bfs LO q cf s P m2.toNatClampNeg := by
  have x1 := clI (i := m) h0
  have x2 := clI (i := m2) (by omega)
  rw [show m2.toNatClampNeg = m.toNatClampNeg + 1 by omega]
  exact h
theorem pos_of {a b : Int} (e : a = b) (h : 0 < a) : 0 < b := e ▸ h
theorem bfs_push2 {LO : Int → Int → Int} {q cf q2 cf2 : Nat → Int32} {s y v w m k : Int32} {P : Int} (eq : q2 = upd q m.toNatClampNeg y) (ec : cf2 = upd cf y.toNatClampNeg v) (ev : v = q2 k.toNatClampNeg) (ew : w = q k.toNatClampNeg) (h : bfs LO q cf s P m.toNatClampNeg) (hm : 0 < m.toInt) (hk0 : 0 ≤ k.toInt) (hk : k.toInt < m.toInt) (hy0 : 0 ≤ y.toInt) (hy1 : y.toInt < P) (hf : ∀ i : Nat, (i : Int) < m.toInt → (q i).toInt ≠ y.toInt) (hl : 0 < LO w.toInt y.toInt) : bfs LO q2 cf2 s P (m.toNatClampNeg + 1) := bfs_push eq ec ev h hm hk0 hk hy0 hy1 hf (by rw [← ew]; exact hl)
theorem at_last {q q2 : Nat → Int32} {m y t : Int32} (eq : q2 = upd q m.toNatClampNeg y) (e : y = t) : q2 m.toNatClampNeg = t := by
  rw [eq, ← e]
  exact pk_us

set_option maxHeartbeats 4000000 in
set_option maxRecDepth 100000 in
theorem c_X12_hasWay (l : Launch) (D : va_G) (cy : Nat → ClassId) (sz : Nat) (mo : Nat) (g5 : Nat) (g6 : Nat) (g7 : Nat) (g8 : Nat) (g9 : Nat) (g10 : Nat) (g12 : Nat) (g13 : Nat) (g14 : Nat) (g15 : Nat) (g16 : Nat) (g17 : Nat) (g18 : Nat) (g19 : Nat) (g20 : Nat) (g22 : Nat) (g23 : Nat) (g24 : Nat) (g29 : Nat) (g30 : Nat) (g31 : Nat) (g32 : Nat) (g33 : Nat) (s0 : Int32) (s1 : Int32) (s3 : Int32) (s4 : Int32) (s11 : Int32) (s21 : Int32) (s25 : Int32) (s26 : Int32) (s27 : Int32) (s28 : Int32) (t2 : Int64) (f5 : Nat → Int32) (f6 : Nat → Int32) (f7 : Nat → Int32) (f8 : Nat → Int32) (f10 : Nat → Int32) (f22 : Nat → Int32) (f23 : Nat → Int32) (f24 : Nat → Int32) (a1 : Int32) (a2 : Int32) (hN : 0 ≤ s4.toInt ∧ s4.toInt ≤ 40) (hPl : 0 ≤ s3.toInt ∧ s3.toInt ≤ 12) (h21 : s21.toInt = -9) (hfl : flOK f5 f8 f22) (q1 : 0 ≤ a1.toInt ∧ a1.toInt < s3.toInt) (q2 : 0 ≤ a2.toInt ∧ a2.toInt < s3.toInt) (r_f8 : rng f8 40 (0) (2000)) (r_f23 : rng f23 12 (0) (11)) (r_f24 : rng f24 12 (0) (11)) : Met l yX12_hasWay wsX12_hasWay ({ frames := 4, cells := 0, slots := 0, locals := 93 }) (va_Pc [.ref mo, .int a1, .int a2] (fun U => U.heap.size = sz ∧ va_P D vwCl [(mo, .inr (12, [.int s0, .int s1, .long t2, .int s3, .int s4, .ref g5, .ref g6, .ref g7, .ref g8, .ref g9, .ref g10, .int s11, .ref g12, .ref g13, .ref g14, .ref g15, .ref g16, .ref g17, .ref g18, .ref g19, .ref g20, .int s21, .ref g22, .ref g23, .ref g24, .int s25, .int s26, .int s27, .int s28, .ref g29, .ref g30, .ref g31, .ref g32, .ref g33])), (g5, .inl (cy 0, 40, .inl f5)), (g6, .inl (cy 0, 40, .inl f6)), (g7, .inl (cy 0, 40, .inl f7)), (g8, .inl (cy 0, 40, .inl f8)), (g10, .inl (cy 2, 40, .inl f10)), (g22, .inl (cy 0, 40, .inl f22)), (g23, .inl (cy 0, 12, .inl f23)), (g24, .inl (cy 0, 12, .inl f24))] U.heap ∧ kk_ D cy U ∧ va_D (fun _ => True) [(mo, .inr (12, [.int s0, .int s1, .long t2, .int s3, .int s4, .ref g5, .ref g6, .ref g7, .ref g8, .ref g9, .ref g10, .int s11, .ref g12, .ref g13, .ref g14, .ref g15, .ref g16, .ref g17, .ref g18, .ref g19, .ref g20, .int s21, .ref g22, .ref g23, .ref g24, .int s25, .int s26, .int s27, .int s28, .ref g29, .ref g30, .ref g31, .ref g32, .ref g33])), (g5, .inl (cy 0, 40, .inl f5)), (g6, .inl (cy 0, 40, .inl f6)), (g7, .inl (cy 0, 40, .inl f7)), (g8, .inl (cy 0, 40, .inl f8)), (g10, .inl (cy 2, 40, .inl f10)), (g22, .inl (cy 0, 40, .inl f22)), (g23, .inl (cy 0, 12, .inl f23)), (g24, .inl (cy 0, 12, .inl f24))])) (va_Qi (fun (r : Int32) (u : Int32) => u = r ∧ ((((0 : Int) ≤ 0) ∧ r = 0) ∨ (((0 : Int) ≤ 0) ∧ r = 1))) (fun (u : Int32) (t : State) => ∃ (e23 : Nat → Int32), ∃ (e24 : Nat → Int32), (u = 1 → ∃ n : Nat, bfs (fun x y => sumI (lfI f5 f6 f7 f8 f10 f22 x y) s4.toNatClampNeg) e23 e24 a1 s3.toInt (n + 1) ∧ e23 n = a2) ∧ (rng e23 12 (0) (11)) ∧ (rng e24 12 (0) (11)) ∧ va_P D vwCl [(mo, .inr (12, [.int s0, .int s1, .long t2, .int s3, .int s4, .ref g5, .ref g6, .ref g7, .ref g8, .ref g9, .ref g10, .int s11, .ref g12, .ref g13, .ref g14, .ref g15, .ref g16, .ref g17, .ref g18, .ref g19, .ref g20, .int s21, .ref g22, .ref g23, .ref g24, .int s25, .int s26, .int s27, .int s28, .ref g29, .ref g30, .ref g31, .ref g32, .ref g33])), (g5, .inl (cy 0, 40, .inl f5)), (g6, .inl (cy 0, 40, .inl f6)), (g7, .inl (cy 0, 40, .inl f7)), (g8, .inl (cy 0, 40, .inl f8)), (g10, .inl (cy 2, 40, .inl f10)), (g22, .inl (cy 0, 40, .inl f22)), (g23, .inl (cy 0, 12, .inl e23)), (g24, .inl (cy 0, 12, .inl e24))] t.heap ∧ va_D (va_A [(mo, .inr (12, [.int s0, .int s1, .long t2, .int s3, .int s4, .ref g5, .ref g6, .ref g7, .ref g8, .ref g9, .ref g10, .int s11, .ref g12, .ref g13, .ref g14, .ref g15, .ref g16, .ref g17, .ref g18, .ref g19, .ref g20, .int s21, .ref g22, .ref g23, .ref g24, .int s25, .int s26, .int s27, .int s28, .ref g29, .ref g30, .ref g31, .ref g32, .ref g33])), (g5, .inl (cy 0, 40, .inl f5)), (g6, .inl (cy 0, 40, .inl f6)), (g7, .inl (cy 0, 40, .inl f7)), (g8, .inl (cy 0, 40, .inl f8)), (g10, .inl (cy 2, 40, .inl f10)), (g22, .inl (cy 0, 40, .inl f22)), (g23, .inl (cy 0, 12, .inl f23)), (g24, .inl (cy 0, 12, .inl f24))] sz) [(mo, .inr (12, [.int s0, .int s1, .long t2, .int s3, .int s4, .ref g5, .ref g6, .ref g7, .ref g8, .ref g9, .ref g10, .int s11, .ref g12, .ref g13, .ref g14, .ref g15, .ref g16, .ref g17, .ref g18, .ref g19, .ref g20, .int s21, .ref g22, .ref g23, .ref g24, .int s25, .int s26, .int s27, .int s28, .ref g29, .ref g30, .ref g31, .ref g32, .ref g33])), (g5, .inl (cy 0, 40, .inl f5)), (g6, .inl (cy 0, 40, .inl f6)), (g7, .inl (cy 0, 40, .inl f7)), (g8, .inl (cy 0, 40, .inl f8)), (g10, .inl (cy 2, 40, .inl f10)), (g22, .inl (cy 0, 40, .inl f22)), (g23, .inl (cy 0, 12, .inl e23)), (g24, .inl (cy 0, 12, .inl e24))]) (va_A [(mo, .inr (12, [.int s0, .int s1, .long t2, .int s3, .int s4, .ref g5, .ref g6, .ref g7, .ref g8, .ref g9, .ref g10, .int s11, .ref g12, .ref g13, .ref g14, .ref g15, .ref g16, .ref g17, .ref g18, .ref g19, .ref g20, .int s21, .ref g22, .ref g23, .ref g24, .int s25, .int s26, .int s27, .int s28, .ref g29, .ref g30, .ref g31, .ref g32, .ref g33])), (g5, .inl (cy 0, 40, .inl f5)), (g6, .inl (cy 0, 40, .inl f6)), (g7, .inl (cy 0, 40, .inl f7)), (g8, .inl (cy 0, 40, .inl f8)), (g10, .inl (cy 2, 40, .inl f10)), (g22, .inl (cy 0, 40, .inl f22)), (g23, .inl (cy 0, 12, .inl f23)), (g24, .inl (cy 0, 12, .inl f24))] sz)) 0 0 (va_A [(mo, .inr (12, [.int s0, .int s1, .long t2, .int s3, .int s4, .ref g5, .ref g6, .ref g7, .ref g8, .ref g9, .ref g10, .int s11, .ref g12, .ref g13, .ref g14, .ref g15, .ref g16, .ref g17, .ref g18, .ref g19, .ref g20, .int s21, .ref g22, .ref g23, .ref g24, .int s25, .int s26, .int s27, .int s28, .ref g29, .ref g30, .ref g31, .ref g32, .ref g33])), (g5, .inl (cy 0, 40, .inl f5)), (g6, .inl (cy 0, 40, .inl f6)), (g7, .inl (cy 0, 40, .inl f7)), (g8, .inl (cy 0, 40, .inl f8)), (g10, .inl (cy 2, 40, .inl f10)), (g22, .inl (cy 0, 40, .inl f22)), (g23, .inl (cy 0, 12, .inl f23)), (g24, .inl (cy 0, 12, .inl f24))] sz) := by
  refine ofQ (cc := cX12_hasWay) (maxL := 6) (ret := (some .boolean)) (by decide) rfl ?_
  intro p e s m args below meth c s₁ Q hQ B hml hv
  obtain ⟨rfl, hsz, hP, hK, hD0⟩ := hv
  have hx := B.exec
  have hb := B.bytes
  have hr := B.returns
  have hts := atoms_spec (ws := wsX12_hasWay) B.pre
  have hown : s.vm.findClass RX12 = some m.cls := by have h_ := findClass_of_methodNamed B.named; exact h_
  have hlocks := B.notSynchronized
  subst hsz
  have hD := hD0.self (sz := s.heap.size)
  generalize hAe : va_A [(mo, .inr (12, [.int s0, .int s1, .long t2, .int s3, .int s4, .ref g5, .ref g6, .ref g7, .ref g8, .ref g9, .ref g10, .int s11, .ref g12, .ref g13, .ref g14, .ref g15, .ref g16, .ref g17, .ref g18, .ref g19, .ref g20, .int s21, .ref g22, .ref g23, .ref g24, .int s25, .int s26, .int s27, .int s28, .ref g29, .ref g30, .ref g31, .ref g32, .ref g33])), (g5, .inl (cy 0, 40, .inl f5)), (g6, .inl (cy 0, 40, .inl f6)), (g7, .inl (cy 0, 40, .inl f7)), (g8, .inl (cy 0, 40, .inl f8)), (g10, .inl (cy 2, 40, .inl f10)), (g22, .inl (cy 0, 40, .inl f22)), (g23, .inl (cy 0, 12, .inl f23)), (g24, .inl (cy 0, 12, .inl f24))] s.heap.size = A at hD hQ
  have hA : ∀ q : Nat, s.heap.size ≤ q → A q := fun q h => by rw [← hAe]; exact Or.inr h
  have hS : va_S A s.heap s.heap [] := va_S.rf
  have hl := lv_entry ([.ref mo, .int a1, .int a2]) (n := 6) (Nat.le_of_ble_eq_true rfl)
  rw [lg_entry_eq]
  generalize (lg_sl ([.ref mo, .int a1, .int a2]) ++ List.replicate (6 - (lg_sl ([.ref mo, .int a1, .int a2])).length) Slot.unset).toArray = ls at hl ⊢
  have hl : lv_has ls 6 [(0, .ref mo), (1, .int a1), (2, .int a2)] := hl
  have z0 : (0 : Int32).toInt = 0 := by decide
  have z1 : (1 : Int32).toInt = 1 := by decide
  refine lv_aload_n hx hb dX12_hasWay_0 rfl (lv_at hl 0 rfl) ?_
  refine va_get (ci := 12) (v := .ref g23) (C := RX12) (T := TX12) (N := 34) hx hb hts (fun _ h => List.mem_cons_of_mem _ (List.mem_append_right _ h)) hown hK.1 hP 0 rfl rfl 23 (by decide) (hts (.fieldLink RX12 64 "CutAtlasModel" "queue" "[I") (by decide +kernel)) (fun _ h9 => h9) rfl dX12_hasWay_1 ?_
  refine lv_iconst (v := 0) hx hb dX12_hasWay_4 (by decide) ?_
  refine lv_iload_n hx hb dX12_hasWay_5 rfl (lv_at hl 1 rfl) ?_
  have h_1 : vp_in (0 : Int32) 12 := by unfold vp_in; decide
  refine va_iast hx hb hK.1 hP hD hS 7 0 rfl rfl (i := 0) h_1 dX12_hasWay_6 (fun H locs hP hD hS => ?_)
  obtain ⟨f_2, ef_2⟩ : ∃ g : Nat → Int32, g = upd f23 (0 : Int32).toNatClampNeg a1 := ⟨_, rfl⟩
  refine pd_K (D := D) (cl := vwCl) (H := H) (A := A) [(mo, .inr (12, [.int s0, .int s1, .long t2, .int s3, .int s4, .ref g5, .ref g6, .ref g7, .ref g8, .ref g9, .ref g10, .int s11, .ref g12, .ref g13, .ref g14, .ref g15, .ref g16, .ref g17, .ref g18, .ref g19, .ref g20, .int s21, .ref g22, .ref g23, .ref g24, .int s25, .int s26, .int s27, .int s28, .ref g29, .ref g30, .ref g31, .ref g32, .ref g33])), (g5, .inl (cy 0, 40, .inl f5)), (g6, .inl (cy 0, 40, .inl f6)), (g7, .inl (cy 0, 40, .inl f7)), (g8, .inl (cy 0, 40, .inl f8)), (g10, .inl (cy 2, 40, .inl f10)), (g22, .inl (cy 0, 40, .inl f22)), (g23, .inl (cy 0, 12, .inl f_2)), (g24, .inl (cy 0, 12, .inl f24))] (by rw [ef_2]; exact hP) (by rw [ef_2]; exact hD) (fun hP hD => ?_)
  have rf_2 : rng f_2 12 (0) (11) := by rw [ef_2]; exact rng_upd r_f23 (by omega) (by omega)
  refine lv_iconst (v := 1) hx hb dX12_hasWay_7 (by decide) ?_
  refine lv_istore_n (lv' := [(3, .int 1), (0, .ref mo), (1, .int a1), (2, .int a2)]) hx hb dX12_hasWay_8 rfl hl (by decide) rfl (fun ls hl => ?_)
  have hb1 : bfs (fun x y => sumI (lfI f5 f6 f7 f8 f10 f22 x y) s4.toNatClampNeg) f_2 f24 a1 s3.toInt 1 := bfs_one (by assumption) (by omega) (by omega)
  refine lv_iconst (v := 0) hx hb dX12_hasWay_9 (by decide) ?_
  refine lv_istore (lv' := [(4, .int 0), (3, .int 1), (0, .ref mo), (1, .int a1), (2, .int a2)]) hx hb dX12_hasWay_10 hl (by decide) rfl (fun ls hl => ?_)
  suffices LOOP_3 : ∀ (n_3 : Nat) (x4_3 : Int32) (x3_3 : Int32) (c_g23_3 : Nat → Int32) (c_g24_3 : Nat → Int32) (H : Heap) (locs : List Loc) (ls : Array Slot), 12 - x4_3.toInt < (n_3 : Int) → (1 ≤ x3_3.toInt) → (x3_3.toInt ≤ s3.toInt) → (0 ≤ x4_3.toInt) → (x4_3.toInt ≤ x3_3.toInt) → (bfs (fun x y => sumI (lfI f5 f6 f7 f8 f10 f22 x y) s4.toNatClampNeg) c_g23_3 c_g24_3 a1 s3.toInt x3_3.toNatClampNeg) → (rng c_g23_3 12 (0) (11)) → (rng c_g24_3 12 (0) (11)) → va_P D vwCl [(mo, .inr (12, [.int s0, .int s1, .long t2, .int s3, .int s4, .ref g5, .ref g6, .ref g7, .ref g8, .ref g9, .ref g10, .int s11, .ref g12, .ref g13, .ref g14, .ref g15, .ref g16, .ref g17, .ref g18, .ref g19, .ref g20, .int s21, .ref g22, .ref g23, .ref g24, .int s25, .int s26, .int s27, .int s28, .ref g29, .ref g30, .ref g31, .ref g32, .ref g33])), (g5, .inl (cy 0, 40, .inl f5)), (g6, .inl (cy 0, 40, .inl f6)), (g7, .inl (cy 0, 40, .inl f7)), (g8, .inl (cy 0, 40, .inl f8)), (g10, .inl (cy 2, 40, .inl f10)), (g22, .inl (cy 0, 40, .inl f22)), (g23, .inl (cy 0, 12, .inl c_g23_3)), (g24, .inl (cy 0, 12, .inl c_g24_3))] H → va_D A [(mo, .inr (12, [.int s0, .int s1, .long t2, .int s3, .int s4, .ref g5, .ref g6, .ref g7, .ref g8, .ref g9, .ref g10, .int s11, .ref g12, .ref g13, .ref g14, .ref g15, .ref g16, .ref g17, .ref g18, .ref g19, .ref g20, .int s21, .ref g22, .ref g23, .ref g24, .int s25, .int s26, .int s27, .int s28, .ref g29, .ref g30, .ref g31, .ref g32, .ref g33])), (g5, .inl (cy 0, 40, .inl f5)), (g6, .inl (cy 0, 40, .inl f6)), (g7, .inl (cy 0, 40, .inl f7)), (g8, .inl (cy 0, 40, .inl f8)), (g10, .inl (cy 2, 40, .inl f10)), (g22, .inl (cy 0, 40, .inl f22)), (g23, .inl (cy 0, 12, .inl c_g23_3)), (g24, .inl (cy 0, 12, .inl c_g24_3))] → va_S A s.heap H locs → lv_has ls 6 [(4, .int x4_3), (3, .int x3_3), (0, .ref mo), (1, .int a1), (2, .int a2)] → W p l e ({ frames := 4, cells := 0, slots := 0, locals := 93 } : Room) s m (([.ref mo, .int a1, .int a2] : List Value).toArray) below meth c H locs 0 0 Q (F0 m 12 ls []) from LOOP_3 ((12 - (0 : Int32).toInt).toNat + 1) (0 : Int32) (1 : Int32) f_2 f24 _ _ _ (by omega) (by first | with_reducible assumption | omega | assumption) (by first | with_reducible assumption | omega | assumption) (by first | with_reducible assumption | omega | assumption) (by first | with_reducible assumption | omega | assumption) (by first | with_reducible assumption | assumption | exact hb1) (by first | with_reducible assumption | assumption | exact rng_zero (by omega) (by omega) | exact orng_zero) (by first | with_reducible assumption | assumption | exact rng_zero (by omega) (by omega) | exact orng_zero) hP hD hS (lv_sub hl [0, 1, 2, 3, 4] rfl)
  intro n_3
  induction n_3 with
  | zero =>
    intro x4_3 x3_3 c_g23_3 c_g24_3 H locs ls hm v0_3 v1_3 v2_3 v3_3 v4_3 rc_g23_3 rc_g24_3 hP hD hS hl
    exact absurd hm (by omega)
  | succ n_3 ih_3 =>
    intro x4_3 x3_3 c_g23_3 c_g24_3 H locs ls hm v0_3 v1_3 v2_3 v3_3 v4_3 rc_g23_3 rc_g24_3 hP hD hS hl
    refine lv_iload hx hb dX12_hasWay_12 (lv_at hl 0 rfl) ?_
    refine lv_iload_n hx hb dX12_hasWay_14 rfl (lv_at hl 1 rfl) ?_
    refine lv_icmp_ge (tgt := 101) hx hb dX12_hasWay_15 (by decide) (fun c_4 => ?_) (fun c_4 => ?_)
    · have t_4 : x3_3.toInt ≤ x4_3.toInt := Int32.le_iff_toInt_le.mp c_4
      refine lv_iconst (v := 0) hx hb dX12_hasWay_101 (by decide) ?_
      rw [hQ]
      exact W.zret (ty := .boolean) (v := 0) hx hb hr (by decide) (fun t ht hW => ⟨⟨0, 0, rfl, ⟨rfl, Or.inl (⟨by omega, rfl⟩)⟩, c_g23_3, c_g24_3, (fun h => absurd h (by decide)), (by assumption), (by assumption), by rw [ht]; exact hP, hD⟩, hS.F ht⟩) hS.2.2 dX12_hasWay_102
    · have t_4 : ¬ x3_3.toInt ≤ x4_3.toInt := fun h => c_4 (Int32.le_iff_toInt_le.mpr h)
      refine lv_iconst (v := 0) hx hb dX12_hasWay_18 (by decide) ?_
      refine lv_istore (lv' := [(5, .int 0), (4, .int x4_3), (3, .int x3_3), (0, .ref mo), (1, .int a1), (2, .int a2)]) hx hb dX12_hasWay_19 hl (by decide) rfl (fun ls hl => ?_)
      suffices LOOP_5 : ∀ (n_5 : Nat) (x5_5 : Int32) (x3_5 : Int32) (c_g23_5 : Nat → Int32) (c_g24_5 : Nat → Int32) (H : Heap) (locs : List Loc) (ls : Array Slot), s3.toInt - x5_5.toInt < (n_5 : Int) → (1 ≤ x3_5.toInt) → (x3_5.toInt ≤ s3.toInt) → (x4_3.toInt < x3_5.toInt) → (0 ≤ x5_5.toInt) → (x5_5.toInt ≤ s3.toInt) → (bfs (fun x y => sumI (lfI f5 f6 f7 f8 f10 f22 x y) s4.toNatClampNeg) c_g23_5 c_g24_5 a1 s3.toInt x3_5.toNatClampNeg) → (rng c_g23_5 12 (0) (11)) → (rng c_g24_5 12 (0) (11)) → va_P D vwCl [(mo, .inr (12, [.int s0, .int s1, .long t2, .int s3, .int s4, .ref g5, .ref g6, .ref g7, .ref g8, .ref g9, .ref g10, .int s11, .ref g12, .ref g13, .ref g14, .ref g15, .ref g16, .ref g17, .ref g18, .ref g19, .ref g20, .int s21, .ref g22, .ref g23, .ref g24, .int s25, .int s26, .int s27, .int s28, .ref g29, .ref g30, .ref g31, .ref g32, .ref g33])), (g5, .inl (cy 0, 40, .inl f5)), (g6, .inl (cy 0, 40, .inl f6)), (g7, .inl (cy 0, 40, .inl f7)), (g8, .inl (cy 0, 40, .inl f8)), (g10, .inl (cy 2, 40, .inl f10)), (g22, .inl (cy 0, 40, .inl f22)), (g23, .inl (cy 0, 12, .inl c_g23_5)), (g24, .inl (cy 0, 12, .inl c_g24_5))] H → va_D A [(mo, .inr (12, [.int s0, .int s1, .long t2, .int s3, .int s4, .ref g5, .ref g6, .ref g7, .ref g8, .ref g9, .ref g10, .int s11, .ref g12, .ref g13, .ref g14, .ref g15, .ref g16, .ref g17, .ref g18, .ref g19, .ref g20, .int s21, .ref g22, .ref g23, .ref g24, .int s25, .int s26, .int s27, .int s28, .ref g29, .ref g30, .ref g31, .ref g32, .ref g33])), (g5, .inl (cy 0, 40, .inl f5)), (g6, .inl (cy 0, 40, .inl f6)), (g7, .inl (cy 0, 40, .inl f7)), (g8, .inl (cy 0, 40, .inl f8)), (g10, .inl (cy 2, 40, .inl f10)), (g22, .inl (cy 0, 40, .inl f22)), (g23, .inl (cy 0, 12, .inl c_g23_5)), (g24, .inl (cy 0, 12, .inl c_g24_5))] → va_S A s.heap H locs → lv_has ls 6 [(5, .int x5_5), (4, .int x4_3), (3, .int x3_5), (0, .ref mo), (1, .int a1), (2, .int a2)] → W p l e ({ frames := 4, cells := 0, slots := 0, locals := 93 } : Room) s m (([.ref mo, .int a1, .int a2] : List Value).toArray) below meth c H locs 0 0 Q (F0 m 21 ls []) from LOOP_5 ((s3.toInt - (0 : Int32).toInt).toNat + 1) (0 : Int32) x3_3 c_g23_3 c_g24_3 _ _ _ (by omega) (by first | with_reducible assumption | omega | assumption) (by first | with_reducible assumption | omega | assumption) (by first | with_reducible assumption | omega | assumption) (by first | with_reducible assumption | omega | assumption) (by first | with_reducible assumption | omega | assumption) (by first | with_reducible assumption | assumption | exact bfs_eq hb2 (by omega) (by omega)) (by first | with_reducible assumption | assumption | exact rng_zero (by omega) (by omega) | exact orng_zero) (by first | with_reducible assumption | assumption | exact rng_zero (by omega) (by omega) | exact orng_zero) hP hD hS (lv_sub hl [0, 1, 2, 3, 4, 5] rfl)
      intro n_5
      induction n_5 with
      | zero =>
        intro x5_5 x3_5 c_g23_5 c_g24_5 H locs ls hm v0_5 v1_5 v2_5 v3_5 v4_5 v5_5 rc_g23_5 rc_g24_5 hP hD hS hl
        exact absurd hm (by omega)
      | succ n_5 ih_5 =>
        intro x5_5 x3_5 c_g23_5 c_g24_5 H locs ls hm v0_5 v1_5 v2_5 v3_5 v4_5 v5_5 rc_g23_5 rc_g24_5 hP hD hS hl
        refine lv_iload hx hb dX12_hasWay_21 (lv_at hl 0 rfl) ?_
        refine lv_aload_n hx hb dX12_hasWay_23 rfl (lv_at hl 3 rfl) ?_
        refine va_get (ci := 12) (v := .int s3) (C := RX12) (T := TX12) (N := 34) hx hb hts (fun _ h => List.mem_cons_of_mem _ (List.mem_append_right _ h)) hown hK.1 hP 0 rfl rfl 3 (by decide) (hts (.fieldLink RX12 88 "CutAtlasModel" "places" "I") (by decide +kernel)) (fun _ h9 => h9) rfl dX12_hasWay_24 ?_
        refine lv_icmp_ge (tgt := 95) hx hb dX12_hasWay_27 (by decide) (fun c_6 => ?_) (fun c_6 => ?_)
        · have t_6 : s3.toInt ≤ x5_5.toInt := Int32.le_iff_toInt_le.mp c_6
          obtain ⟨y_7, ey_7⟩ : ∃ y : Int32, y = x4_3 + 1 := ⟨_, rfl⟩
          have ty_7 : y_7.toInt = x4_3.toInt + (1 : Int32).toInt := by rw [ey_7]; exact addI (by omega) (by omega)
          refine lv_iinc (v := y_7) (lv' := [(4, .int y_7), (5, .int x5_5), (3, .int x3_5), (0, .ref mo), (1, .int a1), (2, .int a2)]) hx hb dX12_hasWay_95 hl (k := 1) rfl (by rw [ey_7]; rfl) (by decide) rfl (fun ls hl => ?_)
          refine lv_goto (tgt := 12) hx hb dX12_hasWay_98 (by decide) ?_
          exact ih_3 y_7 x3_5 c_g23_5 c_g24_5 _ _ _ (by omega) (by first | with_reducible assumption | omega | assumption) (by first | with_reducible assumption | omega | assumption) (by first | with_reducible assumption | omega | assumption) (by first | with_reducible assumption | omega | assumption) (by first | with_reducible assumption | assumption | exact hb1) (by first | with_reducible assumption | assumption | exact rng_zero (by omega) (by omega) | exact orng_zero) (by first | with_reducible assumption | assumption | exact rng_zero (by omega) (by omega) | exact orng_zero) hP hD hS (lv_sub hl [0, 2, 3, 4, 5] rfl)
        · have t_6 : ¬ s3.toInt ≤ x5_5.toInt := fun h => c_6 (Int32.le_iff_toInt_le.mpr h)
          refine lv_aload_n hx hb dX12_hasWay_30 rfl (lv_at hl 3 rfl) ?_
          refine lv_iload hx hb dX12_hasWay_31 (lv_at hl 0 rfl) ?_
          refine lv_iload_n hx hb dX12_hasWay_33 rfl (lv_at hl 2 rfl) ?_
          refine ct_R hP hD [(mo, .inr (12, [.int s0, .int s1, .long t2, .int s3, .int s4, .ref g5, .ref g6, .ref g7, .ref g8, .ref g9, .ref g10, .int s11, .ref g12, .ref g13, .ref g14, .ref g15, .ref g16, .ref g17, .ref g18, .ref g19, .ref g20, .int s21, .ref g22, .ref g23, .ref g24, .int s25, .int s26, .int s27, .int s28, .ref g29, .ref g30, .ref g31, .ref g32, .ref g33])), (g23, .inl (cy 0, 12, .inl c_g23_5))] [0, 7] (by decide) rfl (fun hPc hDw => ?_)
          have hFc := va_free (wc := []) hD hS hA [] rfl
          refine va_calli (va_runV (As := [.int x5_5, .int x3_5]) (rest := []) ⟨hx, hb, hml, hown, hts⟩ (c_X12_isMet2 l D cy H.size mo g5 g6 g7 g8 g9 g10 g12 g13 g14 g15 g16 g17 g18 g19 g20 g22 g23 g24 g29 g30 g31 g32 g33 s0 s1 s3 s4 s11 s21 s25 s26 s27 s28 t2 c_g23_5 x5_5 x3_5 (by first | with_reducible assumption | omega | assumption)) (cwV 2 hts gX12_hasWay_X12_isMet rfl rfl rfl (by decide +kernel) ⟨Nat.le_of_ble_eq_true rfl, Nat.le_of_ble_eq_true rfl⟩) ⟨bl_, va_recvX hK.1 hP (ci := 12) (q0 := 0) rfl rfl, fun U hU hW => ⟨rfl, by rw [hU], by rw [hU]; exact hPc, kk_mv hW hK, hDw⟩⟩ rfl rfl hl.1 rfl (lv_room (Nat.le_of_ble_eq_true rfl)) dX12_hasWay_34 ⟨Nat.le_of_ble_eq_true rfl, Nat.le_of_ble_eq_true rfl⟩) hS (fun q _ h => hFc q h) hFc (fun r_8 u t H locs ht hvm hw hB hz1 hk1 hS => ?_)
          have hP : va_P D vwCl _ H := ro_keep hP hk1
          obtain ⟨f0_r_8, f1_r_8⟩ := hw
          have hm_ := f1_r_8
          refine lv_if_ne (tgt := 89) hx hb dX12_hasWay_37 (by decide) (fun c_9 => ?_) (fun c_9 => ?_)
          · have t_9 : ¬ r_8.toInt = (0 : Int32).toInt := fun h => c_9 (Int32.toInt_inj.mp h)
            obtain ⟨y_10, ey_10⟩ : ∃ y : Int32, y = x5_5 + 1 := ⟨_, rfl⟩
            have ty_10 : y_10.toInt = x5_5.toInt + (1 : Int32).toInt := by rw [ey_10]; exact addI (by omega) (by omega)
            refine lv_iinc (v := y_10) (lv' := [(5, .int y_10), (4, .int x4_3), (3, .int x3_5), (0, .ref mo), (1, .int a1), (2, .int a2)]) hx hb dX12_hasWay_89 hl (k := 0) rfl (by rw [ey_10]; rfl) (by decide) rfl (fun ls hl => ?_)
            refine lv_goto (tgt := 21) hx hb dX12_hasWay_92 (by decide) ?_
            exact ih_5 y_10 x3_5 c_g23_5 c_g24_5 _ _ _ (by omega) (by first | with_reducible assumption | omega | assumption) (by first | with_reducible assumption | omega | assumption) (by first | with_reducible assumption | omega | assumption) (by first | with_reducible assumption | omega | assumption) (by first | with_reducible assumption | omega | assumption) (by first | with_reducible assumption | assumption | exact bfs_eq hb2 (by omega) (by omega)) (by first | with_reducible assumption | assumption | exact rng_zero (by omega) (by omega) | exact orng_zero) (by first | with_reducible assumption | assumption | exact rng_zero (by omega) (by omega) | exact orng_zero) hP hD hS (lv_sub hl [0, 1, 2, 3, 4, 5] rfl)
          · have t_9 : r_8.toInt = (0 : Int32).toInt := congrArg Int32.toInt c_9
            have hf_ := hm_ (by omega)
            refine lv_aload_n hx hb dX12_hasWay_40 rfl (lv_at hl 3 rfl) ?_
            refine lv_aload_n hx hb dX12_hasWay_41 rfl (lv_at hl 3 rfl) ?_
            refine va_get (ci := 12) (v := .ref g23) (C := RX12) (T := TX12) (N := 34) hx hb hts (fun _ h => List.mem_cons_of_mem _ (List.mem_append_right _ h)) hown hK.1 hP 0 rfl rfl 23 (by decide) (hts (.fieldLink RX12 64 "CutAtlasModel" "queue" "[I") (by decide +kernel)) (fun _ h9 => h9) rfl dX12_hasWay_42 ?_
            refine lv_iload hx hb dX12_hasWay_45 (lv_at hl 1 rfl) ?_
            have h_11 : vp_in x4_3 12 := in_I (by omega) (by omega)
            refine va_iald hx hb hK.1 hP 7 0 rfl rfl (i := x4_3) h_11 dX12_hasWay_47 ?_
            refine lv_topi (fun y_12 ey_12 => ?_)
            have ry_12 : 0 ≤ y_12.toInt ∧ y_12.toInt ≤ 11 := by rw [ey_12]; exact rc_g23_5 _ (in_lt h_11)
            refine lv_iload hx hb dX12_hasWay_48 (lv_at hl 0 rfl) ?_
            refine ct_R hP hD [(mo, .inr (12, [.int s0, .int s1, .long t2, .int s3, .int s4, .ref g5, .ref g6, .ref g7, .ref g8, .ref g9, .ref g10, .int s11, .ref g12, .ref g13, .ref g14, .ref g15, .ref g16, .ref g17, .ref g18, .ref g19, .ref g20, .int s21, .ref g22, .ref g23, .ref g24, .int s25, .int s26, .int s27, .int s28, .ref g29, .ref g30, .ref g31, .ref g32, .ref g33])), (g5, .inl (cy 0, 40, .inl f5)), (g6, .inl (cy 0, 40, .inl f6)), (g7, .inl (cy 0, 40, .inl f7)), (g8, .inl (cy 0, 40, .inl f8)), (g10, .inl (cy 2, 40, .inl f10)), (g22, .inl (cy 0, 40, .inl f22))] [0, 1, 2, 3, 4, 5, 6] (by decide) rfl (fun hPc hDw => ?_)
            have hFc := va_free (wc := []) hD hS hA [] rfl
            refine va_calli (va_runV (As := [.int y_12, .int x5_5]) (rest := []) ⟨hx, hb, hml, hown, hts⟩ (c_X12_leftOf l D cy H.size mo g5 g6 g7 g8 g9 g10 g12 g13 g14 g15 g16 g17 g18 g19 g20 g22 g23 g24 g29 g30 g31 g32 g33 s0 s1 s3 s4 s11 s21 s25 s26 s27 s28 t2 f5 f6 f7 f8 f10 f22 y_12 x5_5 (by first | with_reducible assumption | omega | assumption) (by first | with_reducible assumption | omega | assumption) (by first | with_reducible assumption | assumption | omega) (by first | with_reducible assumption | assumption | omega)) (cwV 2 hts gX12_hasWay_X12_leftOf rfl rfl rfl (by decide +kernel) ⟨Nat.le_of_ble_eq_true rfl, Nat.le_of_ble_eq_true rfl⟩) ⟨bl_, va_recvX hK.1 hP (ci := 12) (q0 := 0) rfl rfl, fun U hU hW => ⟨rfl, by rw [hU], by rw [hU]; exact hPc, kk_mv hW hK, hDw⟩⟩ rfl rfl hl.1 rfl (lv_room (Nat.le_of_ble_eq_true rfl)) dX12_hasWay_50 ⟨Nat.le_of_ble_eq_true rfl, Nat.le_of_ble_eq_true rfl⟩) hS (fun q _ h => hFc q h) hFc (fun r_13 u t H locs ht hvm hw hB hz1 hk1 hS => ?_)
            have hP : va_P D vwCl _ H := ro_keep hP hk1
            obtain ⟨f0_r_13, f1_r_13⟩ := hw
            have hlo_ := f0_r_13
            refine lv_if_le (tgt := 89) hx hb dX12_hasWay_53 (by decide) (fun c_14 => ?_) (fun c_14 => ?_)
            · have t_14 : r_13.toInt ≤ (0 : Int32).toInt := Int32.le_iff_toInt_le.mp c_14
              obtain ⟨y_15, ey_15⟩ : ∃ y : Int32, y = x5_5 + 1 := ⟨_, rfl⟩
              have ty_15 : y_15.toInt = x5_5.toInt + (1 : Int32).toInt := by rw [ey_15]; exact addI (by omega) (by omega)
              refine lv_iinc (v := y_15) (lv' := [(5, .int y_15), (4, .int x4_3), (3, .int x3_5), (0, .ref mo), (1, .int a1), (2, .int a2)]) hx hb dX12_hasWay_89 hl (k := 0) rfl (by rw [ey_15]; rfl) (by decide) rfl (fun ls hl => ?_)
              refine lv_goto (tgt := 21) hx hb dX12_hasWay_92 (by decide) ?_
              exact ih_5 y_15 x3_5 c_g23_5 c_g24_5 _ _ _ (by omega) (by first | with_reducible assumption | omega | assumption) (by first | with_reducible assumption | omega | assumption) (by first | with_reducible assumption | omega | assumption) (by first | with_reducible assumption | omega | assumption) (by first | with_reducible assumption | omega | assumption) (by first | with_reducible assumption | assumption | exact bfs_eq hb2 (by omega) (by omega)) (by first | with_reducible assumption | assumption | exact rng_zero (by omega) (by omega) | exact orng_zero) (by first | with_reducible assumption | assumption | exact rng_zero (by omega) (by omega) | exact orng_zero) hP hD hS (lv_sub hl [0, 1, 2, 3, 4, 5] rfl)
            · have t_14 : ¬ r_13.toInt ≤ (0 : Int32).toInt := fun h => c_14 (Int32.le_iff_toInt_le.mpr h)
              have hroom : x3_5.toInt < s3.toInt := bfs_room (q := c_g23_5) (cf := c_g24_5) (by assumption) (by omega) (by omega) (by omega) hf_
              refine lv_aload_n hx hb dX12_hasWay_56 rfl (lv_at hl 3 rfl) ?_
              refine va_get (ci := 12) (v := .ref g23) (C := RX12) (T := TX12) (N := 34) hx hb hts (fun _ h => List.mem_cons_of_mem _ (List.mem_append_right _ h)) hown hK.1 hP 0 rfl rfl 23 (by decide) (hts (.fieldLink RX12 64 "CutAtlasModel" "queue" "[I") (by decide +kernel)) (fun _ h9 => h9) rfl dX12_hasWay_57 ?_
              refine lv_iload_n hx hb dX12_hasWay_60 rfl (lv_at hl 2 rfl) ?_
              refine lv_iload hx hb dX12_hasWay_61 (lv_at hl 0 rfl) ?_
              have h_16 : vp_in x3_5 12 := in_I (by omega) (by omega)
              refine va_iast hx hb hK.1 hP hD hS 7 0 rfl rfl (i := x3_5) h_16 dX12_hasWay_63 (fun H locs hP hD hS => ?_)
              obtain ⟨f_17, ef_17⟩ : ∃ g : Nat → Int32, g = upd c_g23_5 x3_5.toNatClampNeg x5_5 := ⟨_, rfl⟩
              refine pd_K (D := D) (cl := vwCl) (H := H) (A := A) [(mo, .inr (12, [.int s0, .int s1, .long t2, .int s3, .int s4, .ref g5, .ref g6, .ref g7, .ref g8, .ref g9, .ref g10, .int s11, .ref g12, .ref g13, .ref g14, .ref g15, .ref g16, .ref g17, .ref g18, .ref g19, .ref g20, .int s21, .ref g22, .ref g23, .ref g24, .int s25, .int s26, .int s27, .int s28, .ref g29, .ref g30, .ref g31, .ref g32, .ref g33])), (g5, .inl (cy 0, 40, .inl f5)), (g6, .inl (cy 0, 40, .inl f6)), (g7, .inl (cy 0, 40, .inl f7)), (g8, .inl (cy 0, 40, .inl f8)), (g10, .inl (cy 2, 40, .inl f10)), (g22, .inl (cy 0, 40, .inl f22)), (g23, .inl (cy 0, 12, .inl f_17)), (g24, .inl (cy 0, 12, .inl c_g24_5))] (by rw [ef_17]; exact hP) (by rw [ef_17]; exact hD) (fun hP hD => ?_)
              have rf_17 : rng f_17 12 (0) (11) := by rw [ef_17]; exact rng_upd rc_g23_5 (by omega) (by omega)
              obtain ⟨y_18, ey_18⟩ : ∃ y : Int32, y = x3_5 + 1 := ⟨_, rfl⟩
              have ty_18 : y_18.toInt = x3_5.toInt + (1 : Int32).toInt := by rw [ey_18]; exact addI (by omega) (by omega)
              refine lv_iinc (v := y_18) (lv' := [(3, .int y_18), (5, .int x5_5), (4, .int x4_3), (0, .ref mo), (1, .int a1), (2, .int a2)]) hx hb dX12_hasWay_64 hl (k := 2) rfl (by rw [ey_18]; rfl) (by decide) rfl (fun ls hl => ?_)
              refine lv_aload_n hx hb dX12_hasWay_67 rfl (lv_at hl 3 rfl) ?_
              refine va_get (ci := 12) (v := .ref g24) (C := RX12) (T := TX12) (N := 34) hx hb hts (fun _ h => List.mem_cons_of_mem _ (List.mem_append_right _ h)) hown hK.1 hP 0 rfl rfl 24 (by decide) (hts (.fieldLink RX12 67 "CutAtlasModel" "cameFrom" "[I") (by decide +kernel)) (fun _ h9 => h9) rfl dX12_hasWay_68 ?_
              refine lv_iload hx hb dX12_hasWay_71 (lv_at hl 1 rfl) ?_
              refine lv_aload_n hx hb dX12_hasWay_73 rfl (lv_at hl 3 rfl) ?_
              refine va_get (ci := 12) (v := .ref g23) (C := RX12) (T := TX12) (N := 34) hx hb hts (fun _ h => List.mem_cons_of_mem _ (List.mem_append_right _ h)) hown hK.1 hP 0 rfl rfl 23 (by decide) (hts (.fieldLink RX12 64 "CutAtlasModel" "queue" "[I") (by decide +kernel)) (fun _ h9 => h9) rfl dX12_hasWay_74 ?_
              refine lv_iload hx hb dX12_hasWay_77 (lv_at hl 2 rfl) ?_
              have h_19 : vp_in x4_3 12 := in_I (by omega) (by omega)
              refine va_iald hx hb hK.1 hP 7 0 rfl rfl (i := x4_3) h_19 dX12_hasWay_79 ?_
              refine lv_topi (fun y_20 ey_20 => ?_)
              have ry_20 : 0 ≤ y_20.toInt ∧ y_20.toInt ≤ 11 := by rw [ey_20]; exact rf_17 _ (in_lt h_19)
              have h_21 : vp_in x5_5 12 := in_I (by omega) (by omega)
              refine va_iast hx hb hK.1 hP hD hS 8 0 rfl rfl (i := x5_5) h_21 dX12_hasWay_80 (fun H locs hP hD hS => ?_)
              obtain ⟨f_22, ef_22⟩ : ∃ g : Nat → Int32, g = upd c_g24_5 x5_5.toNatClampNeg y_20 := ⟨_, rfl⟩
              refine pd_K (D := D) (cl := vwCl) (H := H) (A := A) [(mo, .inr (12, [.int s0, .int s1, .long t2, .int s3, .int s4, .ref g5, .ref g6, .ref g7, .ref g8, .ref g9, .ref g10, .int s11, .ref g12, .ref g13, .ref g14, .ref g15, .ref g16, .ref g17, .ref g18, .ref g19, .ref g20, .int s21, .ref g22, .ref g23, .ref g24, .int s25, .int s26, .int s27, .int s28, .ref g29, .ref g30, .ref g31, .ref g32, .ref g33])), (g5, .inl (cy 0, 40, .inl f5)), (g6, .inl (cy 0, 40, .inl f6)), (g7, .inl (cy 0, 40, .inl f7)), (g8, .inl (cy 0, 40, .inl f8)), (g10, .inl (cy 2, 40, .inl f10)), (g22, .inl (cy 0, 40, .inl f22)), (g23, .inl (cy 0, 12, .inl f_17)), (g24, .inl (cy 0, 12, .inl f_22))] (by rw [ef_22]; exact hP) (by rw [ef_22]; exact hD) (fun hP hD => ?_)
              have rf_22 : rng f_22 12 (0) (11) := by rw [ef_22]; exact rng_upd rc_g24_5 (by omega) (by omega)
              have hb2 : bfs (fun x y => sumI (lfI f5 f6 f7 f8 f10 f22 x y) s4.toNatClampNeg) f_17 f_22 a1 s3.toInt (x3_5.toNatClampNeg + 1) := bfs_push2 (m := x3_5) (k := x4_3) (y := x5_5) (by assumption) (by assumption) (by assumption) (by assumption) (by assumption) (by omega) (by omega) (by omega) (by omega) (by omega) hf_ (pos_of hlo_ (by omega))
              refine lv_iload hx hb dX12_hasWay_81 (lv_at hl 1 rfl) ?_
              refine lv_iload_n hx hb dX12_hasWay_83 rfl (lv_at hl 5 rfl) ?_
              refine lv_icmp_ne (tgt := 89) hx hb dX12_hasWay_84 (by decide) (fun c_23 => ?_) (fun c_23 => ?_)
              · have t_23 : ¬ x5_5.toInt = a2.toInt := fun h => c_23 (Int32.toInt_inj.mp h)
                obtain ⟨y_24, ey_24⟩ : ∃ y : Int32, y = x5_5 + 1 := ⟨_, rfl⟩
                have ty_24 : y_24.toInt = x5_5.toInt + (1 : Int32).toInt := by rw [ey_24]; exact addI (by omega) (by omega)
                refine lv_iinc (v := y_24) (lv' := [(5, .int y_24), (3, .int y_18), (4, .int x4_3), (0, .ref mo), (1, .int a1), (2, .int a2)]) hx hb dX12_hasWay_89 hl (k := 1) rfl (by rw [ey_24]; rfl) (by decide) rfl (fun ls hl => ?_)
                refine lv_goto (tgt := 21) hx hb dX12_hasWay_92 (by decide) ?_
                exact ih_5 y_24 y_18 f_17 f_22 _ _ _ (by omega) (by first | with_reducible assumption | omega | assumption) (by first | with_reducible assumption | omega | assumption) (by first | with_reducible assumption | omega | assumption) (by first | with_reducible assumption | omega | assumption) (by first | with_reducible assumption | omega | assumption) (by first | with_reducible assumption | assumption | exact bfs_eq hb2 (by omega) (by omega)) (by first | with_reducible assumption | assumption | exact rng_zero (by omega) (by omega) | exact orng_zero) (by first | with_reducible assumption | assumption | exact rng_zero (by omega) (by omega) | exact orng_zero) hP hD hS (lv_sub hl [0, 2, 1, 3, 4, 5] rfl)
              · have t_23 : x5_5.toInt = a2.toInt := congrArg Int32.toInt c_23
                refine lv_iconst (v := 1) hx hb dX12_hasWay_87 (by decide) ?_
                rw [hQ]
                exact W.zret (ty := .boolean) (v := 1) hx hb hr (by decide) (fun t ht hW => ⟨⟨1, 1, rfl, ⟨rfl, Or.inr (⟨by omega, rfl⟩)⟩, f_17, f_22, (fun _ => ⟨x3_5.toNatClampNeg, hb2, at_last (by assumption) (by assumption)⟩), (by assumption), (by assumption), by rw [ht]; exact hP, hD⟩, hS.F ht⟩) hS.2.2 dX12_hasWay_88
end

section
set_option maxHeartbeats 4000000 in
set_option maxRecDepth 100000 in
theorem c_X6_lets (l : Launch) (D : va_G) (cy : Nat → ClassId) (sz : Nat) (h0 : Nat) (a1 : Int32) (a2 : Int32) : Met l yX6_lets wsX6_lets ({ frames := 0, cells := 0, slots := 0, locals := 0 }) (va_Pc [.ref h0, .int a1, .int a2] (fun U => U.heap.size = sz ∧ va_P D vwCl [] U.heap ∧ kk_ D cy U ∧ va_D (fun _ => True) [])) (va_Qi (fun (r : Int32) (_ : Unit) => (r = a1)) (fun (_ : Unit) (_ : State) => True) (va_A [] sz)) 0 0 (va_A [] sz) := by
  refine ofQ (cc := cX6_lets) (maxL := 3) (ret := (some .int)) (by decide) rfl ?_
  intro p e s m args below meth c s₁ Q hQ B hml hv
  obtain ⟨rfl, hsz, hP, hK, hD0⟩ := hv
  have hx := B.exec
  have hb := B.bytes
  have hr := B.returns
  have hts := atoms_spec (ws := wsX6_lets) B.pre
  have hown : s.vm.findClass RX6 = some m.cls := by have h_ := findClass_of_methodNamed B.named; exact h_
  have hlocks := B.notSynchronized
  subst hsz
  have hD : va_D (va_A [] s.heap.size) [] := dd_nil
  generalize hAe : va_A [] s.heap.size = A at hD hQ
  have hA : ∀ q : Nat, s.heap.size ≤ q → A q := fun q h => by rw [← hAe]; exact Or.inr h
  have hS : va_S A s.heap s.heap [] := va_S.rf
  have hl := lv_entry ([.ref h0, .int a1, .int a2]) (n := 3) (Nat.le_of_ble_eq_true rfl)
  rw [lg_entry_eq]
  generalize (lg_sl ([.ref h0, .int a1, .int a2]) ++ List.replicate (3 - (lg_sl ([.ref h0, .int a1, .int a2])).length) Slot.unset).toArray = ls at hl ⊢
  have hl : lv_has ls 3 [(0, .ref h0), (1, .int a1), (2, .int a2)] := hl
  refine lv_iload_n hx hb dX6_lets_0 rfl (lv_at hl 1 rfl) ?_
  rw [hQ]
  exact W.iret (v := a1) hx hb hr (fun t ht hW => ⟨⟨a1, (), rfl, (rfl), trivial⟩, hS.F ht⟩) hS.2.2 dX6_lets_1

set_option maxHeartbeats 4000000 in
set_option maxRecDepth 100000 in
theorem c_X6_letsMark (l : Launch) (D : va_G) (cy : Nat → ClassId) (sz : Nat) (h0 : Nat) (a1 : Int32) : Met l yX6_letsMark wsX6_letsMark ({ frames := 0, cells := 0, slots := 0, locals := 0 }) (va_Pc [.ref h0, .int a1] (fun U => U.heap.size = sz ∧ va_P D vwCl [] U.heap ∧ kk_ D cy U ∧ va_D (fun _ => True) [])) (va_Qi (fun (r : Int32) (_ : Unit) => True) (fun (_ : Unit) (_ : State) => True) (va_A [] sz)) 0 0 (va_A [] sz) := by
  refine ofQ (cc := cX6_letsMark) (maxL := 2) (ret := (some .int)) (by decide) rfl ?_
  intro p e s m args below meth c s₁ Q hQ B hml hv
  obtain ⟨rfl, hsz, hP, hK, hD0⟩ := hv
  have hx := B.exec
  have hb := B.bytes
  have hr := B.returns
  have hts := atoms_spec (ws := wsX6_letsMark) B.pre
  have hown : s.vm.findClass RX6 = some m.cls := by have h_ := findClass_of_methodNamed B.named; exact h_
  have hlocks := B.notSynchronized
  subst hsz
  have hD : va_D (va_A [] s.heap.size) [] := dd_nil
  generalize hAe : va_A [] s.heap.size = A at hD hQ
  have hA : ∀ q : Nat, s.heap.size ≤ q → A q := fun q h => by rw [← hAe]; exact Or.inr h
  have hS : va_S A s.heap s.heap [] := va_S.rf
  have hl := lv_entry ([.ref h0, .int a1]) (n := 2) (Nat.le_of_ble_eq_true rfl)
  rw [lg_entry_eq]
  generalize (lg_sl ([.ref h0, .int a1]) ++ List.replicate (2 - (lg_sl ([.ref h0, .int a1])).length) Slot.unset).toArray = ls at hl ⊢
  have hl : lv_has ls 2 [(0, .ref h0), (1, .int a1)] := hl
  have z1 : (1 : Int32).toInt = 1 := by decide
  refine lv_iconst (v := 1) hx hb dX6_letsMark_0 (by decide) ?_
  rw [hQ]
  exact W.iret (v := 1) hx hb hr (fun t ht hW => ⟨⟨1, (), rfl, trivial, trivial⟩, hS.F ht⟩) hS.2.2 dX6_letsMark_1

set_option maxHeartbeats 4000000 in
set_option maxRecDepth 100000 in
theorem c_X6_costs (l : Launch) (D : va_G) (cy : Nat → ClassId) (sz : Nat) (h0 : Nat) (a1 : Int32) : Met l yX6_costs wsX6_costs ({ frames := 0, cells := 0, slots := 0, locals := 0 }) (va_Pc [.ref h0, .int a1] (fun U => U.heap.size = sz ∧ va_P D vwCl [] U.heap ∧ kk_ D cy U ∧ va_D (fun _ => True) [])) (va_Qi (fun (r : Int32) (_ : Unit) => (r = (-9))) (fun (_ : Unit) (_ : State) => True) (va_A [] sz)) 0 0 (va_A [] sz) := by
  refine ofQ (cc := cX6_costs) (maxL := 2) (ret := (some .int)) (by decide) rfl ?_
  intro p e s m args below meth c s₁ Q hQ B hml hv
  obtain ⟨rfl, hsz, hP, hK, hD0⟩ := hv
  have hx := B.exec
  have hb := B.bytes
  have hr := B.returns
  have hts := atoms_spec (ws := wsX6_costs) B.pre
  have hown : s.vm.findClass RX6 = some m.cls := by have h_ := findClass_of_methodNamed B.named; exact h_
  have hlocks := B.notSynchronized
  subst hsz
  have hD : va_D (va_A [] s.heap.size) [] := dd_nil
  generalize hAe : va_A [] s.heap.size = A at hD hQ
  have hA : ∀ q : Nat, s.heap.size ≤ q → A q := fun q h => by rw [← hAe]; exact Or.inr h
  have hS : va_S A s.heap s.heap [] := va_S.rf
  have hl := lv_entry ([.ref h0, .int a1]) (n := 2) (Nat.le_of_ble_eq_true rfl)
  rw [lg_entry_eq]
  generalize (lg_sl ([.ref h0, .int a1]) ++ List.replicate (2 - (lg_sl ([.ref h0, .int a1])).length) Slot.unset).toArray = ls at hl ⊢
  have hl : lv_has ls 2 [(0, .ref h0), (1, .int a1)] := hl
  have zm9 : ((-9) : Int32).toInt = -9 := by decide
  refine lv_bipush (v := (-9)) hx hb dX6_costs_0 (by decide) ?_
  rw [hQ]
  exact W.iret (v := (-9)) hx hb hr (fun t ht hW => ⟨⟨(-9), (), rfl, (rfl), trivial⟩, hS.F ht⟩) hS.2.2 dX6_costs_2

set_option maxHeartbeats 4000000 in
set_option maxRecDepth 100000 in
theorem c_X6_costsMark (l : Launch) (D : va_G) (cy : Nat → ClassId) (sz : Nat) (h0 : Nat) : Met l yX6_costsMark wsX6_costsMark ({ frames := 0, cells := 0, slots := 0, locals := 0 }) (va_Pc [.ref h0] (fun U => U.heap.size = sz ∧ va_P D vwCl [] U.heap ∧ kk_ D cy U ∧ va_D (fun _ => True) [])) (va_Qi (fun (r : Int32) (_ : Unit) => True) (fun (_ : Unit) (_ : State) => True) (va_A [] sz)) 0 0 (va_A [] sz) := by
  refine ofQ (cc := cX6_costsMark) (maxL := 1) (ret := (some .int)) (by decide) rfl ?_
  intro p e s m args below meth c s₁ Q hQ B hml hv
  obtain ⟨rfl, hsz, hP, hK, hD0⟩ := hv
  have hx := B.exec
  have hb := B.bytes
  have hr := B.returns
  have hts := atoms_spec (ws := wsX6_costsMark) B.pre
  have hown : s.vm.findClass RX6 = some m.cls := by have h_ := findClass_of_methodNamed B.named; exact h_
  have hlocks := B.notSynchronized
  subst hsz
  have hD : va_D (va_A [] s.heap.size) [] := dd_nil
  generalize hAe : va_A [] s.heap.size = A at hD hQ
  have hA : ∀ q : Nat, s.heap.size ≤ q → A q := fun q h => by rw [← hAe]; exact Or.inr h
  have hS : va_S A s.heap s.heap [] := va_S.rf
  have hl := lv_entry ([.ref h0]) (n := 1) (Nat.le_of_ble_eq_true rfl)
  rw [lg_entry_eq]
  generalize (lg_sl ([.ref h0]) ++ List.replicate (1 - (lg_sl ([.ref h0])).length) Slot.unset).toArray = ls at hl ⊢
  have hl : lv_has ls 1 [(0, .ref h0)] := hl
  have z1000 : (1000 : Int32).toInt = 1000 := by decide
  refine lv_sipush (v := 1000) hx hb dX6_costsMark_0 (by decide) ?_
  rw [hQ]
  exact W.iret (v := 1000) hx hb hr (fun t ht hW => ⟨⟨1000, (), rfl, trivial, trivial⟩, hS.F ht⟩) hS.2.2 dX6_costsMark_3

set_option maxHeartbeats 4000000 in
set_option maxRecDepth 100000 in
theorem c_X6_begins (l : Launch) (D : va_G) (cy : Nat → ClassId) (sz : Nat) (h0 : Nat) (a1 : Int32) : Met l yX6_begins wsX6_begins ({ frames := 0, cells := 0, slots := 0, locals := 0 }) (va_Pc [.ref h0, .int a1] (fun U => U.heap.size = sz ∧ va_P D vwCl [] U.heap ∧ kk_ D cy U ∧ va_D (fun _ => True) [])) (va_Qi (fun (r : Int32) (_ : Unit) => (r = a1)) (fun (_ : Unit) (_ : State) => True) (va_A [] sz)) 0 0 (va_A [] sz) := by
  refine ofQ (cc := cX6_begins) (maxL := 2) (ret := (some .int)) (by decide) rfl ?_
  intro p e s m args below meth c s₁ Q hQ B hml hv
  obtain ⟨rfl, hsz, hP, hK, hD0⟩ := hv
  have hx := B.exec
  have hb := B.bytes
  have hr := B.returns
  have hts := atoms_spec (ws := wsX6_begins) B.pre
  have hown : s.vm.findClass RX6 = some m.cls := by have h_ := findClass_of_methodNamed B.named; exact h_
  have hlocks := B.notSynchronized
  subst hsz
  have hD : va_D (va_A [] s.heap.size) [] := dd_nil
  generalize hAe : va_A [] s.heap.size = A at hD hQ
  have hA : ∀ q : Nat, s.heap.size ≤ q → A q := fun q h => by rw [← hAe]; exact Or.inr h
  have hS : va_S A s.heap s.heap [] := va_S.rf
  have hl := lv_entry ([.ref h0, .int a1]) (n := 2) (Nat.le_of_ble_eq_true rfl)
  rw [lg_entry_eq]
  generalize (lg_sl ([.ref h0, .int a1]) ++ List.replicate (2 - (lg_sl ([.ref h0, .int a1])).length) Slot.unset).toArray = ls at hl ⊢
  have hl : lv_has ls 2 [(0, .ref h0), (1, .int a1)] := hl
  refine lv_iload_n hx hb dX6_begins_0 rfl (lv_at hl 1 rfl) ?_
  rw [hQ]
  exact W.iret (v := a1) hx hb hr (fun t ht hW => ⟨⟨a1, (), rfl, (rfl), trivial⟩, hS.F ht⟩) hS.2.2 dX6_begins_1

set_option maxHeartbeats 4000000 in
set_option maxRecDepth 100000 in
theorem c_X6_beginsMark (l : Launch) (D : va_G) (cy : Nat → ClassId) (sz : Nat) (h0 : Nat) : Met l yX6_beginsMark wsX6_beginsMark ({ frames := 0, cells := 0, slots := 0, locals := 0 }) (va_Pc [.ref h0] (fun U => U.heap.size = sz ∧ va_P D vwCl [] U.heap ∧ kk_ D cy U ∧ va_D (fun _ => True) [])) (va_Qi (fun (r : Int32) (_ : Unit) => True) (fun (_ : Unit) (_ : State) => True) (va_A [] sz)) 0 0 (va_A [] sz) := by
  refine ofQ (cc := cX6_beginsMark) (maxL := 1) (ret := (some .int)) (by decide) rfl ?_
  intro p e s m args below meth c s₁ Q hQ B hml hv
  obtain ⟨rfl, hsz, hP, hK, hD0⟩ := hv
  have hx := B.exec
  have hb := B.bytes
  have hr := B.returns
  have hts := atoms_spec (ws := wsX6_beginsMark) B.pre
  have hown : s.vm.findClass RX6 = some m.cls := by have h_ := findClass_of_methodNamed B.named; exact h_
  have hlocks := B.notSynchronized
  subst hsz
  have hD : va_D (va_A [] s.heap.size) [] := dd_nil
  generalize hAe : va_A [] s.heap.size = A at hD hQ
  have hA : ∀ q : Nat, s.heap.size ≤ q → A q := fun q h => by rw [← hAe]; exact Or.inr h
  have hS : va_S A s.heap s.heap [] := va_S.rf
  have hl := lv_entry ([.ref h0]) (n := 1) (Nat.le_of_ble_eq_true rfl)
  rw [lg_entry_eq]
  generalize (lg_sl ([.ref h0]) ++ List.replicate (1 - (lg_sl ([.ref h0])).length) Slot.unset).toArray = ls at hl ⊢
  have hl : lv_has ls 1 [(0, .ref h0)] := hl
  have z0 : (0 : Int32).toInt = 0 := by decide
  refine lv_iconst (v := 0) hx hb dX6_beginsMark_0 (by decide) ?_
  rw [hQ]
  exact W.iret (v := 0) hx hb hr (fun t ht hW => ⟨⟨0, (), rfl, trivial, trivial⟩, hS.F ht⟩) hS.2.2 dX6_beginsMark_1

set_option maxHeartbeats 4000000 in
set_option maxRecDepth 100000 in
theorem c_X5_lets (l : Launch) (D : va_G) (cy : Nat → ClassId) (sz : Nat) (h0 : Nat) (a1 : Int32) (a2 : Int32) : Met l yX5_lets wsX5_lets ({ frames := 1, cells := 0, slots := 0, locals := 22 }) (va_Pc [.ref h0, .int a1, .int a2] (fun U => U.heap.size = sz ∧ va_P D vwCl [(h0, .inr (5, []))] U.heap ∧ kk_ D cy U ∧ va_D (fun _ => True) [(h0, .inr (5, []))])) (va_Qi (fun (r : Int32) (_ : Unit) => True) (fun (_ : Unit) (_ : State) => True) (va_A [] sz)) 0 0 (va_A [] sz) := by
  refine ofQ (cc := cX5_lets) (maxL := 3) (ret := (some .int)) (by decide) rfl ?_
  intro p e s m args below meth c s₁ Q hQ B hml hv
  obtain ⟨rfl, hsz, hP, hK, hD0⟩ := hv
  have hx := B.exec
  have hb := B.bytes
  have hr := B.returns
  have hts := atoms_spec (ws := wsX5_lets) B.pre
  have hown : s.vm.findClass RX5 = some m.cls := by have h_ := findClass_of_methodNamed B.named; exact h_
  have hlocks := B.notSynchronized
  subst hsz
  have hD : va_D (va_A [] s.heap.size) [] := dd_nil
  generalize hAe : va_A [] s.heap.size = A at hD hQ
  have hA : ∀ q : Nat, s.heap.size ≤ q → A q := fun q h => by rw [← hAe]; exact Or.inr h
  have hS : va_S A s.heap s.heap [] := va_S.rf
  have hl := lv_entry ([.ref h0, .int a1, .int a2]) (n := 3) (Nat.le_of_ble_eq_true rfl)
  rw [lg_entry_eq]
  generalize (lg_sl ([.ref h0, .int a1, .int a2]) ++ List.replicate (3 - (lg_sl ([.ref h0, .int a1, .int a2])).length) Slot.unset).toArray = ls at hl ⊢
  have hl : lv_has ls 3 [(0, .ref h0), (1, .int a1), (2, .int a2)] := hl
  have z0 : (0 : Int32).toInt = 0 := by decide
  refine lv_iload_n hx hb dX5_lets_0 rfl (lv_at hl 2 rfl) ?_
  refine lv_if_eq (tgt := 13) hx hb dX5_lets_1 (by decide) (fun c_1 => ?_) (fun c_1 => ?_)
  · have t_1 : a2.toInt = (0 : Int32).toInt := congrArg Int32.toInt c_1
    refine lv_iconst (v := 0) hx hb dX5_lets_13 (by decide) ?_
    rw [hQ]
    exact W.iret (v := 0) hx hb hr (fun t ht hW => ⟨⟨0, (), rfl, trivial, trivial⟩, hS.F ht⟩) hS.2.2 dX5_lets_14
  · have t_1 : ¬ a2.toInt = (0 : Int32).toInt := fun h => c_1 (Int32.toInt_inj.mp h)
    refine lv_aload_n hx hb dX5_lets_4 rfl (lv_at hl 0 rfl) ?_
    refine lv_iload_n hx hb dX5_lets_5 rfl (lv_at hl 1 rfl) ?_
    refine lv_iload_n hx hb dX5_lets_6 rfl (lv_at hl 2 rfl) ?_
    refine ct_R hP hD0 [] [] (by decide) rfl (fun hPc hDw => ?_)
    have hFc := va_free (wc := []) hD hS hA [] rfl
    refine va_calli (va_runSU (As := [.int a1, .int a2]) (rest := []) (hK.1.1 5 _ rfl).2 ⟨hx, hb, hml, hown, hts⟩ (c_X6_lets l D cy s.heap.size h0 a1 a2) (va_cwSU 2 hts gX5_lets_X6_lets_s7 rfl rfl rfl (by decide +kernel) ⟨Nat.le_of_ble_eq_true rfl, Nat.le_of_ble_eq_true rfl⟩) ⟨bl_, va_recvX hK.1 hP (ci := 5) (q0 := 0) rfl rfl, fun U hU hW => ⟨rfl, by rw [hU], by rw [hU]; exact hPc, kk_mv hW hK, hDw⟩⟩ rfl rfl hl.1 rfl (lv_room (Nat.le_of_ble_eq_true rfl)) dX5_lets_7 ⟨Nat.le_of_ble_eq_true rfl, Nat.le_of_ble_eq_true rfl⟩) hS (fun q _ h => hFc q h) hFc (fun r_2 u t H locs ht hvm hw hB hz1 hk1 hS => ?_)
    have hP : va_P D vwCl _ H := ro_keep hP hk1
    have f0_r_2 := hw
    refine lv_goto (tgt := 14) hx hb dX5_lets_10 (by decide) ?_
    rw [hQ]
    exact W.iret (v := r_2) hx hb hr (fun t ht hW => ⟨⟨r_2, (), rfl, trivial, trivial⟩, hS.F ht⟩) hS.2.2 dX5_lets_14

set_option maxHeartbeats 4000000 in
set_option maxRecDepth 100000 in
theorem c_X5_letsMark (l : Launch) (D : va_G) (cy : Nat → ClassId) (sz : Nat) (h0 : Nat) (a1 : Int32) : Met l yX5_letsMark wsX5_letsMark ({ frames := 1, cells := 0, slots := 0, locals := 21 }) (va_Pc [.ref h0, .int a1] (fun U => U.heap.size = sz ∧ va_P D vwCl [(h0, .inr (5, []))] U.heap ∧ kk_ D cy U ∧ va_D (fun _ => True) [(h0, .inr (5, []))])) (va_Qi (fun (r : Int32) (_ : Unit) => True) (fun (_ : Unit) (_ : State) => True) (va_A [] sz)) 0 0 (va_A [] sz) := by
  refine ofQ (cc := cX5_letsMark) (maxL := 2) (ret := (some .int)) (by decide) rfl ?_
  intro p e s m args below meth c s₁ Q hQ B hml hv
  obtain ⟨rfl, hsz, hP, hK, hD0⟩ := hv
  have hx := B.exec
  have hb := B.bytes
  have hr := B.returns
  have hts := atoms_spec (ws := wsX5_letsMark) B.pre
  have hown : s.vm.findClass RX5 = some m.cls := by have h_ := findClass_of_methodNamed B.named; exact h_
  have hlocks := B.notSynchronized
  subst hsz
  have hD : va_D (va_A [] s.heap.size) [] := dd_nil
  generalize hAe : va_A [] s.heap.size = A at hD hQ
  have hA : ∀ q : Nat, s.heap.size ≤ q → A q := fun q h => by rw [← hAe]; exact Or.inr h
  have hS : va_S A s.heap s.heap [] := va_S.rf
  have hl := lv_entry ([.ref h0, .int a1]) (n := 2) (Nat.le_of_ble_eq_true rfl)
  rw [lg_entry_eq]
  generalize (lg_sl ([.ref h0, .int a1]) ++ List.replicate (2 - (lg_sl ([.ref h0, .int a1])).length) Slot.unset).toArray = ls at hl ⊢
  have hl : lv_has ls 2 [(0, .ref h0), (1, .int a1)] := hl
  have z0 : (0 : Int32).toInt = 0 := by decide
  have z10 : (10 : Int32).toInt = 10 := by decide
  refine lv_iload_n hx hb dX5_letsMark_0 rfl (lv_at hl 1 rfl) ?_
  refine lv_if_eq (tgt := 15) hx hb dX5_letsMark_1 (by decide) (fun c_1 => ?_) (fun c_1 => ?_)
  · have t_1 : a1.toInt = (0 : Int32).toInt := congrArg Int32.toInt c_1
    refine lv_bipush (v := 10) hx hb dX5_letsMark_15 (by decide) ?_
    rw [hQ]
    exact W.iret (v := 10) hx hb hr (fun t ht hW => ⟨⟨10, (), rfl, trivial, trivial⟩, hS.F ht⟩) hS.2.2 dX5_letsMark_17
  · have t_1 : ¬ a1.toInt = (0 : Int32).toInt := fun h => c_1 (Int32.toInt_inj.mp h)
    refine lv_bipush (v := 10) hx hb dX5_letsMark_4 (by decide) ?_
    refine lv_aload_n hx hb dX5_letsMark_6 rfl (lv_at hl 0 rfl) ?_
    refine lv_iload_n hx hb dX5_letsMark_7 rfl (lv_at hl 1 rfl) ?_
    refine ct_R hP hD0 [] [] (by decide) rfl (fun hPc hDw => ?_)
    have hFc := va_free (wc := []) hD hS hA [] rfl
    refine va_calli (va_runSU (As := [.int a1]) (rest := [.int 10]) (hK.1.1 5 _ rfl).2 ⟨hx, hb, hml, hown, hts⟩ (c_X6_letsMark l D cy s.heap.size h0 a1) (va_cwSU 1 hts gX5_letsMark_X6_letsMark_s11 rfl rfl rfl (by decide +kernel) ⟨Nat.le_of_ble_eq_true rfl, Nat.le_of_ble_eq_true rfl⟩) ⟨bl_, va_recvX hK.1 hP (ci := 5) (q0 := 0) rfl rfl, fun U hU hW => ⟨rfl, by rw [hU], by rw [hU]; exact hPc, kk_mv hW hK, hDw⟩⟩ rfl rfl hl.1 rfl (lv_room (Nat.le_of_ble_eq_true rfl)) dX5_letsMark_8 ⟨Nat.le_of_ble_eq_true rfl, Nat.le_of_ble_eq_true rfl⟩) hS (fun q _ h => hFc q h) hFc (fun r_2 u t H locs ht hvm hw hB hz1 hk1 hS => ?_)
    have hP : va_P D vwCl _ H := ro_keep hP hk1
    refine lv_iadd hx hb dX5_letsMark_11 ?_
    refine lv_topi (fun y_3 ey_3 => ?_)
    refine lv_goto (tgt := 17) hx hb dX5_letsMark_12 (by decide) ?_
    rw [hQ]
    exact W.iret (v := y_3) hx hb hr (fun t ht hW => ⟨⟨y_3, (), rfl, trivial, trivial⟩, hS.F ht⟩) hS.2.2 dX5_letsMark_17

set_option maxHeartbeats 4000000 in
set_option maxRecDepth 100000 in
theorem c_X9_lets (l : Launch) (D : va_G) (cy : Nat → ClassId) (sz : Nat) (h0 : Nat) (a1 : Int32) (a2 : Int32) : Met l yX9_lets wsX9_lets ({ frames := 0, cells := 0, slots := 0, locals := 0 }) (va_Pc [.ref h0, .int a1, .int a2] (fun U => U.heap.size = sz ∧ va_P D vwCl [] U.heap ∧ kk_ D cy U ∧ va_D (fun _ => True) [])) (va_Qi (fun (r : Int32) (_ : Unit) => True) (fun (_ : Unit) (_ : State) => True) (va_A [] sz)) 0 0 (va_A [] sz) := by
  refine ofQ (cc := cX9_lets) (maxL := 3) (ret := (some .int)) (by decide) rfl ?_
  intro p e s m args below meth c s₁ Q hQ B hml hv
  obtain ⟨rfl, hsz, hP, hK, hD0⟩ := hv
  have hx := B.exec
  have hb := B.bytes
  have hr := B.returns
  have hts := atoms_spec (ws := wsX9_lets) B.pre
  have hown : s.vm.findClass RX9 = some m.cls := by have h_ := findClass_of_methodNamed B.named; exact h_
  have hlocks := B.notSynchronized
  subst hsz
  have hD : va_D (va_A [] s.heap.size) [] := dd_nil
  generalize hAe : va_A [] s.heap.size = A at hD hQ
  have hA : ∀ q : Nat, s.heap.size ≤ q → A q := fun q h => by rw [← hAe]; exact Or.inr h
  have hS : va_S A s.heap s.heap [] := va_S.rf
  have hl := lv_entry ([.ref h0, .int a1, .int a2]) (n := 3) (Nat.le_of_ble_eq_true rfl)
  rw [lg_entry_eq]
  generalize (lg_sl ([.ref h0, .int a1, .int a2]) ++ List.replicate (3 - (lg_sl ([.ref h0, .int a1, .int a2])).length) Slot.unset).toArray = ls at hl ⊢
  have hl : lv_has ls 3 [(0, .ref h0), (1, .int a1), (2, .int a2)] := hl
  have zm5 : ((-5) : Int32).toInt = -5 := by decide
  refine lv_bipush (v := (-5)) hx hb dX9_lets_0 (by decide) ?_
  rw [hQ]
  exact W.iret (v := (-5)) hx hb hr (fun t ht hW => ⟨⟨(-5), (), rfl, trivial, trivial⟩, hS.F ht⟩) hS.2.2 dX9_lets_2

set_option maxHeartbeats 4000000 in
set_option maxRecDepth 100000 in
theorem c_X9_letsMark (l : Launch) (D : va_G) (cy : Nat → ClassId) (sz : Nat) (h0 : Nat) (a1 : Int32) : Met l yX9_letsMark wsX9_letsMark ({ frames := 0, cells := 0, slots := 0, locals := 0 }) (va_Pc [.ref h0, .int a1] (fun U => U.heap.size = sz ∧ va_P D vwCl [] U.heap ∧ kk_ D cy U ∧ va_D (fun _ => True) [])) (va_Qi (fun (r : Int32) (_ : Unit) => True) (fun (_ : Unit) (_ : State) => True) (va_A [] sz)) 0 0 (va_A [] sz) := by
  refine ofQ (cc := cX9_letsMark) (maxL := 2) (ret := (some .int)) (by decide) rfl ?_
  intro p e s m args below meth c s₁ Q hQ B hml hv
  obtain ⟨rfl, hsz, hP, hK, hD0⟩ := hv
  have hx := B.exec
  have hb := B.bytes
  have hr := B.returns
  have hts := atoms_spec (ws := wsX9_letsMark) B.pre
  have hown : s.vm.findClass RX9 = some m.cls := by have h_ := findClass_of_methodNamed B.named; exact h_
  have hlocks := B.notSynchronized
  subst hsz
  have hD : va_D (va_A [] s.heap.size) [] := dd_nil
  generalize hAe : va_A [] s.heap.size = A at hD hQ
  have hA : ∀ q : Nat, s.heap.size ≤ q → A q := fun q h => by rw [← hAe]; exact Or.inr h
  have hS : va_S A s.heap s.heap [] := va_S.rf
  have hl := lv_entry ([.ref h0, .int a1]) (n := 2) (Nat.le_of_ble_eq_true rfl)
  rw [lg_entry_eq]
  generalize (lg_sl ([.ref h0, .int a1]) ++ List.replicate (2 - (lg_sl ([.ref h0, .int a1])).length) Slot.unset).toArray = ls at hl ⊢
  have hl : lv_has ls 2 [(0, .ref h0), (1, .int a1)] := hl
  have z100 : (100 : Int32).toInt = 100 := by decide
  refine lv_bipush (v := 100) hx hb dX9_letsMark_0 (by decide) ?_
  rw [hQ]
  exact W.iret (v := 100) hx hb hr (fun t ht hW => ⟨⟨100, (), rfl, trivial, trivial⟩, hS.F ht⟩) hS.2.2 dX9_letsMark_2

set_option maxHeartbeats 4000000 in
set_option maxRecDepth 100000 in
theorem c_X2_costs (l : Launch) (D : va_G) (cy : Nat → ClassId) (sz : Nat) (h0 : Nat) (a1 : Int32) : Met l yX2_costs wsX2_costs ({ frames := 0, cells := 0, slots := 0, locals := 0 }) (va_Pc [.ref h0, .int a1] (fun U => U.heap.size = sz ∧ va_P D vwCl [] U.heap ∧ kk_ D cy U ∧ va_D (fun _ => True) [])) (va_Qi (fun (r : Int32) (_ : Unit) => (r = a1)) (fun (_ : Unit) (_ : State) => True) (va_A [] sz)) 0 0 (va_A [] sz) := by
  refine ofQ (cc := cX2_costs) (maxL := 2) (ret := (some .int)) (by decide) rfl ?_
  intro p e s m args below meth c s₁ Q hQ B hml hv
  obtain ⟨rfl, hsz, hP, hK, hD0⟩ := hv
  have hx := B.exec
  have hb := B.bytes
  have hr := B.returns
  have hts := atoms_spec (ws := wsX2_costs) B.pre
  have hown : s.vm.findClass RX2 = some m.cls := by have h_ := findClass_of_methodNamed B.named; exact h_
  have hlocks := B.notSynchronized
  subst hsz
  have hD : va_D (va_A [] s.heap.size) [] := dd_nil
  generalize hAe : va_A [] s.heap.size = A at hD hQ
  have hA : ∀ q : Nat, s.heap.size ≤ q → A q := fun q h => by rw [← hAe]; exact Or.inr h
  have hS : va_S A s.heap s.heap [] := va_S.rf
  have hl := lv_entry ([.ref h0, .int a1]) (n := 2) (Nat.le_of_ble_eq_true rfl)
  rw [lg_entry_eq]
  generalize (lg_sl ([.ref h0, .int a1]) ++ List.replicate (2 - (lg_sl ([.ref h0, .int a1])).length) Slot.unset).toArray = ls at hl ⊢
  have hl : lv_has ls 2 [(0, .ref h0), (1, .int a1)] := hl
  refine lv_iload_n hx hb dX2_costs_0 rfl (lv_at hl 1 rfl) ?_
  rw [hQ]
  exact W.iret (v := a1) hx hb hr (fun t ht hW => ⟨⟨a1, (), rfl, (rfl), trivial⟩, hS.F ht⟩) hS.2.2 dX2_costs_1

set_option maxHeartbeats 4000000 in
set_option maxRecDepth 100000 in
theorem c_X2_costsMark (l : Launch) (D : va_G) (cy : Nat → ClassId) (sz : Nat) (h0 : Nat) : Met l yX2_costsMark wsX2_costsMark ({ frames := 0, cells := 0, slots := 0, locals := 0 }) (va_Pc [.ref h0] (fun U => U.heap.size = sz ∧ va_P D vwCl [] U.heap ∧ kk_ D cy U ∧ va_D (fun _ => True) [])) (va_Qi (fun (r : Int32) (_ : Unit) => True) (fun (_ : Unit) (_ : State) => True) (va_A [] sz)) 0 0 (va_A [] sz) := by
  refine ofQ (cc := cX2_costsMark) (maxL := 1) (ret := (some .int)) (by decide) rfl ?_
  intro p e s m args below meth c s₁ Q hQ B hml hv
  obtain ⟨rfl, hsz, hP, hK, hD0⟩ := hv
  have hx := B.exec
  have hb := B.bytes
  have hr := B.returns
  have hts := atoms_spec (ws := wsX2_costsMark) B.pre
  have hown : s.vm.findClass RX2 = some m.cls := by have h_ := findClass_of_methodNamed B.named; exact h_
  have hlocks := B.notSynchronized
  subst hsz
  have hD : va_D (va_A [] s.heap.size) [] := dd_nil
  generalize hAe : va_A [] s.heap.size = A at hD hQ
  have hA : ∀ q : Nat, s.heap.size ≤ q → A q := fun q h => by rw [← hAe]; exact Or.inr h
  have hS : va_S A s.heap s.heap [] := va_S.rf
  have hl := lv_entry ([.ref h0]) (n := 1) (Nat.le_of_ble_eq_true rfl)
  rw [lg_entry_eq]
  generalize (lg_sl ([.ref h0]) ++ List.replicate (1 - (lg_sl ([.ref h0])).length) Slot.unset).toArray = ls at hl ⊢
  have hl : lv_has ls 1 [(0, .ref h0)] := hl
  have z10000 : (10000 : Int32).toInt = 10000 := by decide
  refine lv_sipush (v := 10000) hx hb dX2_costsMark_0 (by decide) ?_
  rw [hQ]
  exact W.iret (v := 10000) hx hb hr (fun t ht hW => ⟨⟨10000, (), rfl, trivial, trivial⟩, hS.F ht⟩) hS.2.2 dX2_costsMark_3

set_option maxHeartbeats 4000000 in
set_option maxRecDepth 100000 in
theorem c_X8_costs (l : Launch) (D : va_G) (cy : Nat → ClassId) (sz : Nat) (h0 : Nat) (a1 : Int32) : Met l yX8_costs wsX8_costs ({ frames := 1, cells := 0, slots := 0, locals := 21 }) (va_Pc [.ref h0, .int a1] (fun U => U.heap.size = sz ∧ va_P D vwCl [(h0, .inr (8, []))] U.heap ∧ kk_ D cy U ∧ va_D (fun _ => True) [(h0, .inr (8, []))])) (va_Qi (fun (r : Int32) (_ : Unit) => True) (fun (_ : Unit) (_ : State) => True) (va_A [] sz)) 0 0 (va_A [] sz) := by
  refine ofQ (cc := cX8_costs) (maxL := 2) (ret := (some .int)) (by decide) rfl ?_
  intro p e s m args below meth c s₁ Q hQ B hml hv
  obtain ⟨rfl, hsz, hP, hK, hD0⟩ := hv
  have hx := B.exec
  have hb := B.bytes
  have hr := B.returns
  have hts := atoms_spec (ws := wsX8_costs) B.pre
  have hown : s.vm.findClass RX8 = some m.cls := by have h_ := findClass_of_methodNamed B.named; exact h_
  have hlocks := B.notSynchronized
  subst hsz
  have hD : va_D (va_A [] s.heap.size) [] := dd_nil
  generalize hAe : va_A [] s.heap.size = A at hD hQ
  have hA : ∀ q : Nat, s.heap.size ≤ q → A q := fun q h => by rw [← hAe]; exact Or.inr h
  have hS : va_S A s.heap s.heap [] := va_S.rf
  have hl := lv_entry ([.ref h0, .int a1]) (n := 2) (Nat.le_of_ble_eq_true rfl)
  rw [lg_entry_eq]
  generalize (lg_sl ([.ref h0, .int a1]) ++ List.replicate (2 - (lg_sl ([.ref h0, .int a1])).length) Slot.unset).toArray = ls at hl ⊢
  have hl : lv_has ls 2 [(0, .ref h0), (1, .int a1)] := hl
  have z1 : (1 : Int32).toInt = 1 := by decide
  refine lv_aload_n hx hb dX8_costs_0 rfl (lv_at hl 0 rfl) ?_
  refine lv_iload_n hx hb dX8_costs_1 rfl (lv_at hl 1 rfl) ?_
  refine ct_R hP hD0 [] [] (by decide) rfl (fun hPc hDw => ?_)
  have hFc := va_free (wc := []) hD hS hA [] rfl
  refine va_calli (va_runSU (As := [.int a1]) (rest := []) (hK.1.1 8 _ rfl).2 ⟨hx, hb, hml, hown, hts⟩ (c_X2_costs l D cy s.heap.size h0 a1) (va_cwSU 1 hts gX8_costs_X2_costs_s7 rfl rfl rfl (by decide +kernel) ⟨Nat.le_of_ble_eq_true rfl, Nat.le_of_ble_eq_true rfl⟩) ⟨bl_, va_recvX hK.1 hP (ci := 8) (q0 := 0) rfl rfl, fun U hU hW => ⟨rfl, by rw [hU], by rw [hU]; exact hPc, kk_mv hW hK, hDw⟩⟩ rfl rfl hl.1 rfl (lv_room (Nat.le_of_ble_eq_true rfl)) dX8_costs_2 ⟨Nat.le_of_ble_eq_true rfl, Nat.le_of_ble_eq_true rfl⟩) hS (fun q _ h => hFc q h) hFc (fun r_1 u t H locs ht hvm hw hB hz1 hk1 hS => ?_)
  have hP : va_P D vwCl _ H := ro_keep hP hk1
  have f0_r_1 := hw
  refine lv_iconst (v := 1) hx hb dX8_costs_5 (by decide) ?_
  refine lv_iadd hx hb dX8_costs_6 ?_
  refine lv_topi (fun y_2 ey_2 => ?_)
  rw [hQ]
  exact W.iret (v := y_2) hx hb hr (fun t ht hW => ⟨⟨y_2, (), rfl, trivial, trivial⟩, hS.F ht⟩) hS.2.2 dX8_costs_7

set_option maxHeartbeats 4000000 in
set_option maxRecDepth 100000 in
theorem c_X8_costsMark (l : Launch) (D : va_G) (cy : Nat → ClassId) (sz : Nat) (h0 : Nat) : Met l yX8_costsMark wsX8_costsMark ({ frames := 1, cells := 0, slots := 0, locals := 20 }) (va_Pc [.ref h0] (fun U => U.heap.size = sz ∧ va_P D vwCl [(h0, .inr (8, []))] U.heap ∧ kk_ D cy U ∧ va_D (fun _ => True) [(h0, .inr (8, []))])) (va_Qi (fun (r : Int32) (_ : Unit) => True) (fun (_ : Unit) (_ : State) => True) (va_A [] sz)) 0 0 (va_A [] sz) := by
  refine ofQ (cc := cX8_costsMark) (maxL := 1) (ret := (some .int)) (by decide) rfl ?_
  intro p e s m args below meth c s₁ Q hQ B hml hv
  obtain ⟨rfl, hsz, hP, hK, hD0⟩ := hv
  have hx := B.exec
  have hb := B.bytes
  have hr := B.returns
  have hts := atoms_spec (ws := wsX8_costsMark) B.pre
  have hown : s.vm.findClass RX8 = some m.cls := by have h_ := findClass_of_methodNamed B.named; exact h_
  have hlocks := B.notSynchronized
  subst hsz
  have hD : va_D (va_A [] s.heap.size) [] := dd_nil
  generalize hAe : va_A [] s.heap.size = A at hD hQ
  have hA : ∀ q : Nat, s.heap.size ≤ q → A q := fun q h => by rw [← hAe]; exact Or.inr h
  have hS : va_S A s.heap s.heap [] := va_S.rf
  have hl := lv_entry ([.ref h0]) (n := 1) (Nat.le_of_ble_eq_true rfl)
  rw [lg_entry_eq]
  generalize (lg_sl ([.ref h0]) ++ List.replicate (1 - (lg_sl ([.ref h0])).length) Slot.unset).toArray = ls at hl ⊢
  have hl : lv_has ls 1 [(0, .ref h0)] := hl
  have z100000 : (100000 : Int32).toInt = 100000 := by decide
  refine lv_ldc (v := 100000) hx hb hown (hts (.constant RX8 11 (100000)) (by decide +kernel)) dX8_costsMark_0 ?_
  refine lv_aload_n hx hb dX8_costsMark_2 rfl (lv_at hl 0 rfl) ?_
  refine ct_R hP hD0 [] [] (by decide) rfl (fun hPc hDw => ?_)
  have hFc := va_free (wc := []) hD hS hA [] rfl
  refine va_calli (va_runSU (As := []) (rest := [.int 100000]) (hK.1.1 8 _ rfl).2 ⟨hx, hb, hml, hown, hts⟩ (c_X2_costsMark l D cy s.heap.size h0) (va_cwSU 0 hts gX8_costsMark_X2_costsMark_s12 rfl rfl rfl (by decide +kernel) ⟨Nat.le_of_ble_eq_true rfl, Nat.le_of_ble_eq_true rfl⟩) ⟨bl_, va_recvX hK.1 hP (ci := 8) (q0 := 0) rfl rfl, fun U hU hW => ⟨rfl, by rw [hU], by rw [hU]; exact hPc, kk_mv hW hK, hDw⟩⟩ rfl rfl hl.1 rfl (lv_room (Nat.le_of_ble_eq_true rfl)) dX8_costsMark_3 ⟨Nat.le_of_ble_eq_true rfl, Nat.le_of_ble_eq_true rfl⟩) hS (fun q _ h => hFc q h) hFc (fun r_1 u t H locs ht hvm hw hB hz1 hk1 hS => ?_)
  have hP : va_P D vwCl _ H := ro_keep hP hk1
  refine lv_iadd hx hb dX8_costsMark_6 ?_
  refine lv_topi (fun y_2 ey_2 => ?_)
  rw [hQ]
  exact W.iret (v := y_2) hx hb hr (fun t ht hW => ⟨⟨y_2, (), rfl, trivial, trivial⟩, hS.F ht⟩) hS.2.2 dX8_costsMark_7

set_option maxHeartbeats 4000000 in
set_option maxRecDepth 100000 in
theorem c_X8_begins (l : Launch) (D : va_G) (cy : Nat → ClassId) (sz : Nat) (h0 : Nat) (a1 : Int32) : Met l yX8_begins wsX8_begins ({ frames := 0, cells := 0, slots := 0, locals := 0 }) (va_Pc [.ref h0, .int a1] (fun U => U.heap.size = sz ∧ va_P D vwCl [] U.heap ∧ kk_ D cy U ∧ va_D (fun _ => True) [])) (va_Qi (fun (r : Int32) (_ : Unit) => (r.toInt = 0)) (fun (_ : Unit) (_ : State) => True) (va_A [] sz)) 0 0 (va_A [] sz) := by
  refine ofQ (cc := cX8_begins) (maxL := 2) (ret := (some .int)) (by decide) rfl ?_
  intro p e s m args below meth c s₁ Q hQ B hml hv
  obtain ⟨rfl, hsz, hP, hK, hD0⟩ := hv
  have hx := B.exec
  have hb := B.bytes
  have hr := B.returns
  have hts := atoms_spec (ws := wsX8_begins) B.pre
  have hown : s.vm.findClass RX8 = some m.cls := by have h_ := findClass_of_methodNamed B.named; exact h_
  have hlocks := B.notSynchronized
  subst hsz
  have hD : va_D (va_A [] s.heap.size) [] := dd_nil
  generalize hAe : va_A [] s.heap.size = A at hD hQ
  have hA : ∀ q : Nat, s.heap.size ≤ q → A q := fun q h => by rw [← hAe]; exact Or.inr h
  have hS : va_S A s.heap s.heap [] := va_S.rf
  have hl := lv_entry ([.ref h0, .int a1]) (n := 2) (Nat.le_of_ble_eq_true rfl)
  rw [lg_entry_eq]
  generalize (lg_sl ([.ref h0, .int a1]) ++ List.replicate (2 - (lg_sl ([.ref h0, .int a1])).length) Slot.unset).toArray = ls at hl ⊢
  have hl : lv_has ls 2 [(0, .ref h0), (1, .int a1)] := hl
  have z0 : (0 : Int32).toInt = 0 := by decide
  refine lv_iconst (v := 0) hx hb dX8_begins_0 (by decide) ?_
  rw [hQ]
  exact W.iret (v := 0) hx hb hr (fun t ht hW => ⟨⟨0, (), rfl, (by omega), trivial⟩, hS.F ht⟩) hS.2.2 dX8_begins_1

set_option maxHeartbeats 4000000 in
set_option maxRecDepth 100000 in
theorem c_X8_beginsMark (l : Launch) (D : va_G) (cy : Nat → ClassId) (sz : Nat) (h0 : Nat) : Met l yX8_beginsMark wsX8_beginsMark ({ frames := 0, cells := 0, slots := 0, locals := 0 }) (va_Pc [.ref h0] (fun U => U.heap.size = sz ∧ va_P D vwCl [] U.heap ∧ kk_ D cy U ∧ va_D (fun _ => True) [])) (va_Qi (fun (r : Int32) (_ : Unit) => True) (fun (_ : Unit) (_ : State) => True) (va_A [] sz)) 0 0 (va_A [] sz) := by
  refine ofQ (cc := cX8_beginsMark) (maxL := 1) (ret := (some .int)) (by decide) rfl ?_
  intro p e s m args below meth c s₁ Q hQ B hml hv
  obtain ⟨rfl, hsz, hP, hK, hD0⟩ := hv
  have hx := B.exec
  have hb := B.bytes
  have hr := B.returns
  have hts := atoms_spec (ws := wsX8_beginsMark) B.pre
  have hown : s.vm.findClass RX8 = some m.cls := by have h_ := findClass_of_methodNamed B.named; exact h_
  have hlocks := B.notSynchronized
  subst hsz
  have hD : va_D (va_A [] s.heap.size) [] := dd_nil
  generalize hAe : va_A [] s.heap.size = A at hD hQ
  have hA : ∀ q : Nat, s.heap.size ≤ q → A q := fun q h => by rw [← hAe]; exact Or.inr h
  have hS : va_S A s.heap s.heap [] := va_S.rf
  have hl := lv_entry ([.ref h0]) (n := 1) (Nat.le_of_ble_eq_true rfl)
  rw [lg_entry_eq]
  generalize (lg_sl ([.ref h0]) ++ List.replicate (1 - (lg_sl ([.ref h0])).length) Slot.unset).toArray = ls at hl ⊢
  have hl : lv_has ls 1 [(0, .ref h0)] := hl
  have z1000000 : (1000000 : Int32).toInt = 1000000 := by decide
  refine lv_ldc (v := 1000000) hx hb hown (hts (.constant RX8 16 (1000000)) (by decide +kernel)) dX8_beginsMark_0 ?_
  rw [hQ]
  exact W.iret (v := 1000000) hx hb hr (fun t ht hW => ⟨⟨1000000, (), rfl, trivial, trivial⟩, hS.F ht⟩) hS.2.2 dX8_beginsMark_2
end

section
/-- the ends of the lines: a line that is missing, or two places -/
noncomputable def prng (f g : Nat → Int32) (n : Nat) : Prop := ∀ j : Nat, j < n → (f j).toInt = -9 ∨ (0 ≤ (f j).toInt ∧ (f j).toInt ≤ 11 ∧ 0 ≤ (g j).toInt ∧ (g j).toInt ≤ 11)
theorem prng_st {f g f' g' : Nat → Int32} {n k : Nat} {x y : Int32} (e1 : f' = upd f k x) (e2 : g' = upd g k y) (h : prng f g n) (hx : x.toInt = -9 ∨ (0 ≤ x.toInt ∧ x.toInt ≤ 11 ∧ 0 ≤ y.toInt ∧ y.toInt ≤ 11)) : prng f' g' n := fun j hj => by
  rw [e1, e2]
  by_cases e : j = k
  · subst e
    rw [pk_us, pk_us]
    exact hx
  · rw [pk_un e, pk_un e]
    exact h j hj

set_option maxHeartbeats 4000000 in
set_option maxRecDepth 100000 in
theorem c_X3_hasPlace (l : Launch) (D : va_G) (cy : Nat → ClassId) (sz : Nat) (xn : Nat) (n1 : Nat) (n2 : Nat) (n3 : Nat) (n4 : Nat) (n5 : Nat) (vp : Int32) (vn : Int32) (a1 : Int64) : Met l yX3_hasPlace wsX3_hasPlace ({ frames := 0, cells := 0, slots := 0, locals := 0 }) (va_Pc [.ref xn, .long a1] (fun U => U.heap.size = sz ∧ va_P D vwCl [(xn, .inr (3, [.int vp, .int vn, .ref n1, .ref n2, .ref n3, .ref n4, .ref n5]))] U.heap ∧ kk_ D cy U ∧ va_D (fun _ => True) [(xn, .inr (3, [.int vp, .int vn, .ref n1, .ref n2, .ref n3, .ref n4, .ref n5]))])) (va_Qi (fun (r : Int32) (_ : Unit) => ((0 ≤ a1.toInt ∧ a1.toInt < vp.toInt) ∧ r = 1) ∨ ((¬ (0 ≤ a1.toInt ∧ a1.toInt < vp.toInt)) ∧ r = 0)) (fun (_ : Unit) (_ : State) => True) (va_A [] sz)) 0 0 (va_A [] sz) := by
  refine ofQ (cc := cX3_hasPlace) (maxL := 3) (ret := (some .boolean)) (by decide) rfl ?_
  intro p e s m args below meth c s₁ Q hQ B hml hv
  obtain ⟨rfl, hsz, hP, hK, hD0⟩ := hv
  have hx := B.exec
  have hb := B.bytes
  have hr := B.returns
  have hts := atoms_spec (ws := wsX3_hasPlace) B.pre
  have hown : s.vm.findClass RX3 = some m.cls := by have h_ := findClass_of_methodNamed B.named; exact h_
  have hlocks := B.notSynchronized
  subst hsz
  have hD : va_D (va_A [] s.heap.size) [] := dd_nil
  generalize hAe : va_A [] s.heap.size = A at hD hQ
  have hA : ∀ q : Nat, s.heap.size ≤ q → A q := fun q h => by rw [← hAe]; exact Or.inr h
  have hS : va_S A s.heap s.heap [] := va_S.rf
  have hl := lv_entry ([.ref xn, .long a1]) (n := 3) (Nat.le_of_ble_eq_true rfl)
  rw [lg_entry_eq]
  generalize (lg_sl ([.ref xn, .long a1]) ++ List.replicate (3 - (lg_sl ([.ref xn, .long a1])).length) Slot.unset).toArray = ls at hl ⊢
  have hl : lv_has ls 3 [(0, .ref xn), (1, .long a1)] := hl
  have z0 : (0 : Int32).toInt = 0 := by decide
  have zl0 : (0 : Int64).toInt = 0 := by decide
  have z1 : (1 : Int32).toInt = 1 := by decide
  refine lv_lload_n hx hb dX3_hasPlace_0 rfl (lv_at hl 1 rfl) ?_
  refine lv_lconst (v := 0) hx hb dX3_hasPlace_1 (by decide) ?_
  refine W.lcmp hx hb dX3_hasPlace_2 ?_
  refine lv_if_lt (tgt := 20) hx hb dX3_hasPlace_3 (by decide) (fun c_1 => ?_) (fun c_1 => ?_)
  · have t_1 : a1.toInt < (0 : Int64).toInt := Int64.lt_iff_toInt_lt.mp ((lg_cmp_lt a1 0).mp c_1)
    refine lv_iconst (v := 0) hx hb dX3_hasPlace_20 (by decide) ?_
    rw [hQ]
    exact W.zret (ty := .boolean) (v := 0) hx hb hr (by decide) (fun t ht hW => ⟨⟨0, (), rfl, Or.inr (⟨by omega, rfl⟩), trivial⟩, hS.F ht⟩) hS.2.2 dX3_hasPlace_21
  · have t_1 : ¬ a1.toInt < (0 : Int64).toInt := fun h => c_1 ((lg_cmp_lt a1 0).mpr (Int64.lt_iff_toInt_lt.mpr h))
    refine lv_lload_n hx hb dX3_hasPlace_6 rfl (lv_at hl 1 rfl) ?_
    refine lv_aload_n hx hb dX3_hasPlace_7 rfl (lv_at hl 0 rfl) ?_
    refine va_get (ci := 3) (v := .int vp) (C := RX3) (T := TX3) (N := 7) hx hb hts (fun _ h => List.mem_cons_of_mem _ (List.mem_append_right _ h)) hown hK.1 hP 0 rfl rfl 0 (by decide) (hts (.fieldLink RX3 9 "CutAtlas$Net" "places" "I") (by decide +kernel)) (fun _ h9 => h9) rfl dX3_hasPlace_8 ?_
    refine lv_i2l (v := vp.toInt64) hx hb dX3_hasPlace_11 rfl ?_
    have q_11 : (vp.toInt64).toInt = vp.toInt := Int32.toInt_toInt64 vp
    refine W.lcmp hx hb dX3_hasPlace_12 ?_
    refine lv_if_ge (tgt := 20) hx hb dX3_hasPlace_13 (by decide) (fun c_2 => ?_) (fun c_2 => ?_)
    · have t_2 : vp.toInt64.toInt ≤ a1.toInt := Int64.le_iff_toInt_le.mp ((lg_cmp_ge a1 vp.toInt64).mp c_2)
      refine lv_iconst (v := 0) hx hb dX3_hasPlace_20 (by decide) ?_
      rw [hQ]
      exact W.zret (ty := .boolean) (v := 0) hx hb hr (by decide) (fun t ht hW => ⟨⟨0, (), rfl, Or.inr (⟨by omega, rfl⟩), trivial⟩, hS.F ht⟩) hS.2.2 dX3_hasPlace_21
    · have t_2 : ¬ vp.toInt64.toInt ≤ a1.toInt := fun h => c_2 ((lg_cmp_ge a1 vp.toInt64).mpr (Int64.le_iff_toInt_le.mpr h))
      refine lv_iconst (v := 1) hx hb dX3_hasPlace_16 (by decide) ?_
      refine lv_goto (tgt := 21) hx hb dX3_hasPlace_17 (by decide) ?_
      rw [hQ]
      exact W.zret (ty := .boolean) (v := 1) hx hb hr (by decide) (fun t ht hW => ⟨⟨1, (), rfl, Or.inl (⟨by omega, rfl⟩), trivial⟩, hS.F ht⟩) hS.2.2 dX3_hasPlace_21

set_option maxHeartbeats 4000000 in
set_option maxRecDepth 100000 in
theorem c_X3_hasPair (l : Launch) (D : va_G) (cy : Nat → ClassId) (sz : Nat) (xn : Nat) (n1 : Nat) (n2 : Nat) (n3 : Nat) (n4 : Nat) (n5 : Nat) (vp : Int32) (vn : Int32) (a1 : Int64) (a2 : Int64) : Met l yX3_hasPair wsX3_hasPair ({ frames := 1, cells := 0, slots := 0, locals := 22 }) (va_Pc [.ref xn, .long a1, .long a2] (fun U => U.heap.size = sz ∧ va_P D vwCl [(xn, .inr (3, [.int vp, .int vn, .ref n1, .ref n2, .ref n3, .ref n4, .ref n5]))] U.heap ∧ kk_ D cy U ∧ va_D (fun _ => True) [(xn, .inr (3, [.int vp, .int vn, .ref n1, .ref n2, .ref n3, .ref n4, .ref n5]))])) (va_Qi (fun (r : Int32) (_ : Unit) => (((0 ≤ a1.toInt ∧ a1.toInt < vp.toInt) ∧ (0 ≤ a2.toInt ∧ a2.toInt < vp.toInt) ∧ a1.toInt ≠ a2.toInt) ∧ r = 1) ∨ ((¬ ((0 ≤ a1.toInt ∧ a1.toInt < vp.toInt) ∧ (0 ≤ a2.toInt ∧ a2.toInt < vp.toInt) ∧ a1.toInt ≠ a2.toInt)) ∧ r = 0)) (fun (_ : Unit) (_ : State) => True) (va_A [] sz)) 0 0 (va_A [] sz) := by
  refine ofQ (cc := cX3_hasPair) (maxL := 5) (ret := (some .boolean)) (by decide) rfl ?_
  intro p e s m args below meth c s₁ Q hQ B hml hv
  obtain ⟨rfl, hsz, hP, hK, hD0⟩ := hv
  have hx := B.exec
  have hb := B.bytes
  have hr := B.returns
  have hts := atoms_spec (ws := wsX3_hasPair) B.pre
  have hown : s.vm.findClass RX3 = some m.cls := by have h_ := findClass_of_methodNamed B.named; exact h_
  have hlocks := B.notSynchronized
  subst hsz
  have hD : va_D (va_A [] s.heap.size) [] := dd_nil
  generalize hAe : va_A [] s.heap.size = A at hD hQ
  have hA : ∀ q : Nat, s.heap.size ≤ q → A q := fun q h => by rw [← hAe]; exact Or.inr h
  have hS : va_S A s.heap s.heap [] := va_S.rf
  have hl := lv_entry ([.ref xn, .long a1, .long a2]) (n := 5) (Nat.le_of_ble_eq_true rfl)
  rw [lg_entry_eq]
  generalize (lg_sl ([.ref xn, .long a1, .long a2]) ++ List.replicate (5 - (lg_sl ([.ref xn, .long a1, .long a2])).length) Slot.unset).toArray = ls at hl ⊢
  have hl : lv_has ls 5 [(0, .ref xn), (1, .long a1), (3, .long a2)] := hl
  have z0 : (0 : Int32).toInt = 0 := by decide
  have z1 : (1 : Int32).toInt = 1 := by decide
  refine lv_aload_n hx hb dX3_hasPair_0 rfl (lv_at hl 0 rfl) ?_
  refine lv_lload_n hx hb dX3_hasPair_1 rfl (lv_at hl 1 rfl) ?_
  refine ct_R hP hD0 [(xn, .inr (3, [.int vp, .int vn, .ref n1, .ref n2, .ref n3, .ref n4, .ref n5]))] [0] (by decide) rfl (fun hPc hDw => ?_)
  have hFc := va_free (wc := []) hD hS hA [] rfl
  refine va_calli (va_runV (As := [.long a1]) (rest := []) ⟨hx, hb, hml, hown, hts⟩ (c_X3_hasPlace l D cy s.heap.size xn n1 n2 n3 n4 n5 vp vn a1) (cwV 1 hts gX3_hasPair_X3_hasPlace rfl rfl rfl (by decide +kernel) ⟨Nat.le_of_ble_eq_true rfl, Nat.le_of_ble_eq_true rfl⟩) ⟨bl_, va_recvX hK.1 hP (ci := 3) (q0 := 0) rfl rfl, fun U hU hW => ⟨rfl, by rw [hU], by rw [hU]; exact hPc, kk_mv hW hK, hDw⟩⟩ rfl rfl hl.1 rfl (lv_room (Nat.le_of_ble_eq_true rfl)) dX3_hasPair_2 ⟨Nat.le_of_ble_eq_true rfl, Nat.le_of_ble_eq_true rfl⟩) hS (fun q _ h => hFc q h) hFc (fun r_1 u t H locs ht hvm hw hB hz1 hk1 hS => ?_)
  have hP : va_P D vwCl _ H := ro_keep hP hk1
  rcases hw with ⟨w_2, e_⟩ | ⟨w_2, e_⟩
  · have e_ := e_.symm
    subst e_
    refine lv_if_eq (tgt := 26) hx hb dX3_hasPair_5 (by decide) (fun c_3 => ?_) (fun c_3 => ?_)
    · exact absurd c_3 (by decide)
    · have _ := c_3
      refine lv_aload_n hx hb dX3_hasPair_8 rfl (lv_at hl 0 rfl) ?_
      refine lv_lload_n hx hb dX3_hasPair_9 rfl (lv_at hl 2 rfl) ?_
      refine ct_R hP hD0 [(xn, .inr (3, [.int vp, .int vn, .ref n1, .ref n2, .ref n3, .ref n4, .ref n5]))] [0] (by decide) rfl (fun hPc hDw => ?_)
      have hFc := va_free (wc := []) hD hS hA [] rfl
      refine va_calli (va_runV (As := [.long a2]) (rest := []) ⟨hx, hb, hml, hown, hts⟩ (c_X3_hasPlace l D cy H.size xn n1 n2 n3 n4 n5 vp vn a2) (cwV 1 hts gX3_hasPair_X3_hasPlace rfl rfl rfl (by decide +kernel) ⟨Nat.le_of_ble_eq_true rfl, Nat.le_of_ble_eq_true rfl⟩) ⟨bl_, va_recvX hK.1 hP (ci := 3) (q0 := 0) rfl rfl, fun U hU hW => ⟨rfl, by rw [hU], by rw [hU]; exact hPc, kk_mv hW hK, hDw⟩⟩ rfl rfl hl.1 rfl (lv_room (Nat.le_of_ble_eq_true rfl)) dX3_hasPair_10 ⟨Nat.le_of_ble_eq_true rfl, Nat.le_of_ble_eq_true rfl⟩) hS (fun q _ h => hFc q h) hFc (fun r_4 u t H locs ht hvm hw hB hz1 hk1 hS => ?_)
      have hP : va_P D vwCl _ H := ro_keep hP hk1
      rcases hw with ⟨w_5, e_⟩ | ⟨w_5, e_⟩
      · have e_ := e_.symm
        subst e_
        refine lv_if_eq (tgt := 26) hx hb dX3_hasPair_13 (by decide) (fun c_6 => ?_) (fun c_6 => ?_)
        · exact absurd c_6 (by decide)
        · have _ := c_6
          refine lv_lload_n hx hb dX3_hasPair_16 rfl (lv_at hl 1 rfl) ?_
          refine lv_lload_n hx hb dX3_hasPair_17 rfl (lv_at hl 2 rfl) ?_
          refine W.lcmp hx hb dX3_hasPair_18 ?_
          refine lv_if_eq (tgt := 26) hx hb dX3_hasPair_19 (by decide) (fun c_7 => ?_) (fun c_7 => ?_)
          · have t_7 : a1.toInt = a2.toInt := congrArg Int64.toInt ((lg_cmp_eq a1 a2).mp c_7)
            refine lv_iconst (v := 0) hx hb dX3_hasPair_26 (by decide) ?_
            rw [hQ]
            exact W.zret (ty := .boolean) (v := 0) hx hb hr (by decide) (fun t ht hW => ⟨⟨0, (), rfl, Or.inr (⟨by omega, rfl⟩), trivial⟩, hS.F ht⟩) hS.2.2 dX3_hasPair_27
          · have t_7 : ¬ a1.toInt = a2.toInt := fun h => c_7 ((lg_cmp_eq a1 a2).mpr (Int64.toInt_inj.mp h))
            refine lv_iconst (v := 1) hx hb dX3_hasPair_22 (by decide) ?_
            refine lv_goto (tgt := 27) hx hb dX3_hasPair_23 (by decide) ?_
            rw [hQ]
            exact W.zret (ty := .boolean) (v := 1) hx hb hr (by decide) (fun t ht hW => ⟨⟨1, (), rfl, Or.inl (⟨by omega, rfl⟩), trivial⟩, hS.F ht⟩) hS.2.2 dX3_hasPair_27
      · have e_ := e_.symm
        subst e_
        refine lv_if_eq (tgt := 26) hx hb dX3_hasPair_13 (by decide) (fun c_8 => ?_) (fun c_8 => ?_)
        · have _ := c_8
          refine lv_iconst (v := 0) hx hb dX3_hasPair_26 (by decide) ?_
          rw [hQ]
          exact W.zret (ty := .boolean) (v := 0) hx hb hr (by decide) (fun t ht hW => ⟨⟨0, (), rfl, Or.inr (⟨by omega, rfl⟩), trivial⟩, hS.F ht⟩) hS.2.2 dX3_hasPair_27
        · exact absurd c_8 (by decide)
  · have e_ := e_.symm
    subst e_
    refine lv_if_eq (tgt := 26) hx hb dX3_hasPair_5 (by decide) (fun c_9 => ?_) (fun c_9 => ?_)
    · have _ := c_9
      refine lv_iconst (v := 0) hx hb dX3_hasPair_26 (by decide) ?_
      rw [hQ]
      exact W.zret (ty := .boolean) (v := 0) hx hb hr (by decide) (fun t ht hW => ⟨⟨0, (), rfl, Or.inr (⟨by omega, rfl⟩), trivial⟩, hS.F ht⟩) hS.2.2 dX3_hasPair_27
    · exact absurd c_9 (by decide)

set_option maxHeartbeats 4000000 in
set_option maxRecDepth 100000 in
theorem c_X3_hasLine (l : Launch) (D : va_G) (cy : Nat → ClassId) (sz : Nat) (xn : Nat) (n1 : Nat) (n2 : Nat) (n3 : Nat) (n4 : Nat) (n5 : Nat) (vp : Int32) (vn : Int32) (a1 : Int32) : Met l yX3_hasLine wsX3_hasLine ({ frames := 0, cells := 0, slots := 0, locals := 0 }) (va_Pc [.ref xn, .int a1] (fun U => U.heap.size = sz ∧ va_P D vwCl [(xn, .inr (3, [.int vp, .int vn, .ref n1, .ref n2, .ref n3, .ref n4, .ref n5]))] U.heap ∧ kk_ D cy U ∧ va_D (fun _ => True) [(xn, .inr (3, [.int vp, .int vn, .ref n1, .ref n2, .ref n3, .ref n4, .ref n5]))])) (va_Qi (fun (r : Int32) (_ : Unit) => ((0 ≤ a1.toInt ∧ a1.toInt < vn.toInt) ∧ r = 1) ∨ ((¬ (0 ≤ a1.toInt ∧ a1.toInt < vn.toInt)) ∧ r = 0)) (fun (_ : Unit) (_ : State) => True) (va_A [] sz)) 0 0 (va_A [] sz) := by
  refine ofQ (cc := cX3_hasLine) (maxL := 2) (ret := (some .boolean)) (by decide) rfl ?_
  intro p e s m args below meth c s₁ Q hQ B hml hv
  obtain ⟨rfl, hsz, hP, hK, hD0⟩ := hv
  have hx := B.exec
  have hb := B.bytes
  have hr := B.returns
  have hts := atoms_spec (ws := wsX3_hasLine) B.pre
  have hown : s.vm.findClass RX3 = some m.cls := by have h_ := findClass_of_methodNamed B.named; exact h_
  have hlocks := B.notSynchronized
  subst hsz
  have hD : va_D (va_A [] s.heap.size) [] := dd_nil
  generalize hAe : va_A [] s.heap.size = A at hD hQ
  have hA : ∀ q : Nat, s.heap.size ≤ q → A q := fun q h => by rw [← hAe]; exact Or.inr h
  have hS : va_S A s.heap s.heap [] := va_S.rf
  have hl := lv_entry ([.ref xn, .int a1]) (n := 2) (Nat.le_of_ble_eq_true rfl)
  rw [lg_entry_eq]
  generalize (lg_sl ([.ref xn, .int a1]) ++ List.replicate (2 - (lg_sl ([.ref xn, .int a1])).length) Slot.unset).toArray = ls at hl ⊢
  have hl : lv_has ls 2 [(0, .ref xn), (1, .int a1)] := hl
  have z0 : (0 : Int32).toInt = 0 := by decide
  have z1 : (1 : Int32).toInt = 1 := by decide
  refine lv_iload_n hx hb dX3_hasLine_0 rfl (lv_at hl 1 rfl) ?_
  refine lv_if_lt (tgt := 16) hx hb dX3_hasLine_1 (by decide) (fun c_1 => ?_) (fun c_1 => ?_)
  · have t_1 : a1.toInt < (0 : Int32).toInt := Int32.lt_iff_toInt_lt.mp c_1
    refine lv_iconst (v := 0) hx hb dX3_hasLine_16 (by decide) ?_
    rw [hQ]
    exact W.zret (ty := .boolean) (v := 0) hx hb hr (by decide) (fun t ht hW => ⟨⟨0, (), rfl, Or.inr (⟨by omega, rfl⟩), trivial⟩, hS.F ht⟩) hS.2.2 dX3_hasLine_17
  · have t_1 : ¬ a1.toInt < (0 : Int32).toInt := fun h => c_1 (Int32.lt_iff_toInt_lt.mpr h)
    refine lv_iload_n hx hb dX3_hasLine_4 rfl (lv_at hl 1 rfl) ?_
    refine lv_aload_n hx hb dX3_hasLine_5 rfl (lv_at hl 0 rfl) ?_
    refine va_get (ci := 3) (v := .int vn) (C := RX3) (T := TX3) (N := 7) hx hb hts (fun _ h => List.mem_cons_of_mem _ (List.mem_append_right _ h)) hown hK.1 hP 0 rfl rfl 1 (by decide) (hts (.fieldLink RX3 15 "CutAtlas$Net" "lines" "I") (by decide +kernel)) (fun _ h9 => h9) rfl dX3_hasLine_6 ?_
    refine lv_icmp_ge (tgt := 16) hx hb dX3_hasLine_9 (by decide) (fun c_2 => ?_) (fun c_2 => ?_)
    · have t_2 : vn.toInt ≤ a1.toInt := Int32.le_iff_toInt_le.mp c_2
      refine lv_iconst (v := 0) hx hb dX3_hasLine_16 (by decide) ?_
      rw [hQ]
      exact W.zret (ty := .boolean) (v := 0) hx hb hr (by decide) (fun t ht hW => ⟨⟨0, (), rfl, Or.inr (⟨by omega, rfl⟩), trivial⟩, hS.F ht⟩) hS.2.2 dX3_hasLine_17
    · have t_2 : ¬ vn.toInt ≤ a1.toInt := fun h => c_2 (Int32.le_iff_toInt_le.mpr h)
      refine lv_iconst (v := 1) hx hb dX3_hasLine_12 (by decide) ?_
      refine lv_goto (tgt := 17) hx hb dX3_hasLine_13 (by decide) ?_
      rw [hQ]
      exact W.zret (ty := .boolean) (v := 1) hx hb hr (by decide) (fun t ht hW => ⟨⟨1, (), rfl, Or.inl (⟨by omega, rfl⟩), trivial⟩, hS.F ht⟩) hS.2.2 dX3_hasLine_17

set_option maxHeartbeats 4000000 in
set_option maxRecDepth 100000 in
theorem c_X3_isMissing (l : Launch) (D : va_G) (cy : Nat → ClassId) (sz : Nat) (xn : Nat) (n1 : Nat) (n2 : Nat) (n3 : Nat) (n4 : Nat) (n5 : Nat) (vp : Int32) (vn : Int32) (fs : Nat → Int32) (a1 : Int32) (q1 : 0 ≤ a1.toInt ∧ a1.toInt < 40) : Met l yX3_isMissing wsX3_isMissing ({ frames := 0, cells := 0, slots := 0, locals := 0 }) (va_Pc [.ref xn, .int a1] (fun U => U.heap.size = sz ∧ va_P D vwCl [(xn, .inr (3, [.int vp, .int vn, .ref n1, .ref n2, .ref n3, .ref n4, .ref n5])), (n2, .inl (cy 0, 40, .inl fs))] U.heap ∧ kk_ D cy U ∧ va_D (fun _ => True) [(xn, .inr (3, [.int vp, .int vn, .ref n1, .ref n2, .ref n3, .ref n4, .ref n5])), (n2, .inl (cy 0, 40, .inl fs))])) (va_Qi (fun (r : Int32) (_ : Unit) => (((fs a1.toNatClampNeg).toInt = -9) ∧ r = 1) ∨ ((¬ ((fs a1.toNatClampNeg).toInt = -9)) ∧ r = 0)) (fun (_ : Unit) (_ : State) => True) (va_A [] sz)) 0 0 (va_A [] sz) := by
  refine ofQ (cc := cX3_isMissing) (maxL := 2) (ret := (some .boolean)) (by decide) rfl ?_
  intro p e s m args below meth c s₁ Q hQ B hml hv
  obtain ⟨rfl, hsz, hP, hK, hD0⟩ := hv
  have hx := B.exec
  have hb := B.bytes
  have hr := B.returns
  have hts := atoms_spec (ws := wsX3_isMissing) B.pre
  have hown : s.vm.findClass RX3 = some m.cls := by have h_ := findClass_of_methodNamed B.named; exact h_
  have hlocks := B.notSynchronized
  subst hsz
  have hD : va_D (va_A [] s.heap.size) [] := dd_nil
  generalize hAe : va_A [] s.heap.size = A at hD hQ
  have hA : ∀ q : Nat, s.heap.size ≤ q → A q := fun q h => by rw [← hAe]; exact Or.inr h
  have hS : va_S A s.heap s.heap [] := va_S.rf
  have hl := lv_entry ([.ref xn, .int a1]) (n := 2) (Nat.le_of_ble_eq_true rfl)
  rw [lg_entry_eq]
  generalize (lg_sl ([.ref xn, .int a1]) ++ List.replicate (2 - (lg_sl ([.ref xn, .int a1])).length) Slot.unset).toArray = ls at hl ⊢
  have hl : lv_has ls 2 [(0, .ref xn), (1, .int a1)] := hl
  have zm9 : ((-9) : Int32).toInt = -9 := by decide
  have z0 : (0 : Int32).toInt = 0 := by decide
  have z1 : (1 : Int32).toInt = 1 := by decide
  refine lv_aload_n hx hb dX3_isMissing_0 rfl (lv_at hl 0 rfl) ?_
  refine va_get (ci := 3) (v := .ref n2) (C := RX3) (T := TX3) (N := 7) hx hb hts (fun _ h => List.mem_cons_of_mem _ (List.mem_append_right _ h)) hown hK.1 hP 0 rfl rfl 3 (by decide) (hts (.fieldLink RX3 22 "CutAtlas$Net" "starts" "[I") (by decide +kernel)) (fun _ h9 => h9) rfl dX3_isMissing_1 ?_
  refine lv_iload_n hx hb dX3_isMissing_4 rfl (lv_at hl 1 rfl) ?_
  have h_1 : vp_in a1 40 := in_I (by omega) (by omega)
  refine va_iald hx hb hK.1 hP 1 0 rfl rfl (i := a1) h_1 dX3_isMissing_5 ?_
  refine lv_topi (fun y_2 ey_2 => ?_)
  refine lv_bipush (v := (-9)) hx hb dX3_isMissing_6 (by decide) ?_
  refine lv_icmp_ne (tgt := 15) hx hb dX3_isMissing_8 (by decide) (fun c_3 => ?_) (fun c_3 => ?_)
  · have t_3 : ¬ y_2.toInt = ((-9) : Int32).toInt := fun h => c_3 (Int32.toInt_inj.mp h)
    refine lv_iconst (v := 0) hx hb dX3_isMissing_15 (by decide) ?_
    rw [hQ]
    exact W.zret (ty := .boolean) (v := 0) hx hb hr (by decide) (fun t ht hW => ⟨⟨0, (), rfl, Or.inr (⟨by rw [← ey_2]; omega, rfl⟩), trivial⟩, hS.F ht⟩) hS.2.2 dX3_isMissing_16
  · have t_3 : y_2.toInt = ((-9) : Int32).toInt := congrArg Int32.toInt c_3
    refine lv_iconst (v := 1) hx hb dX3_isMissing_11 (by decide) ?_
    refine lv_goto (tgt := 16) hx hb dX3_isMissing_12 (by decide) ?_
    rw [hQ]
    exact W.zret (ty := .boolean) (v := 1) hx hb hr (by decide) (fun t ht hW => ⟨⟨1, (), rfl, Or.inl (⟨by rw [← ey_2]; omega, rfl⟩), trivial⟩, hS.F ht⟩) hS.2.2 dX3_isMissing_16

set_option maxHeartbeats 4000000 in
set_option maxRecDepth 100000 in
theorem c_X3_missingLines (l : Launch) (D : va_G) (cy : Nat → ClassId) (sz : Nat) (xn : Nat) (n1 : Nat) (n2 : Nat) (n3 : Nat) (n4 : Nat) (n5 : Nat) (vp : Int32) (vn : Int32) (fs : Nat → Int32) (hvn : 0 ≤ vn.toInt ∧ vn.toInt ≤ 40) : Met l yX3_missingLines wsX3_missingLines ({ frames := 1, cells := 0, slots := 0, locals := 21 }) (va_Pc [.ref xn] (fun U => U.heap.size = sz ∧ va_P D vwCl [(xn, .inr (3, [.int vp, .int vn, .ref n1, .ref n2, .ref n3, .ref n4, .ref n5])), (n2, .inl (cy 0, 40, .inl fs))] U.heap ∧ kk_ D cy U ∧ va_D (fun _ => True) [(xn, .inr (3, [.int vp, .int vn, .ref n1, .ref n2, .ref n3, .ref n4, .ref n5])), (n2, .inl (cy 0, 40, .inl fs))])) (va_Qi (fun (r : Int32) (_ : Unit) => True) (fun (_ : Unit) (_ : State) => True) (va_A [] sz)) 0 0 (va_A [] sz) := by
  refine ofQ (cc := cX3_missingLines) (maxL := 3) (ret := (some .int)) (by decide) rfl ?_
  intro p e s m args below meth c s₁ Q hQ B hml hv
  obtain ⟨rfl, hsz, hP, hK, hD0⟩ := hv
  have hx := B.exec
  have hb := B.bytes
  have hr := B.returns
  have hts := atoms_spec (ws := wsX3_missingLines) B.pre
  have hown : s.vm.findClass RX3 = some m.cls := by have h_ := findClass_of_methodNamed B.named; exact h_
  have hlocks := B.notSynchronized
  subst hsz
  have hD : va_D (va_A [] s.heap.size) [] := dd_nil
  generalize hAe : va_A [] s.heap.size = A at hD hQ
  have hA : ∀ q : Nat, s.heap.size ≤ q → A q := fun q h => by rw [← hAe]; exact Or.inr h
  have hS : va_S A s.heap s.heap [] := va_S.rf
  have hl := lv_entry ([.ref xn]) (n := 3) (Nat.le_of_ble_eq_true rfl)
  rw [lg_entry_eq]
  generalize (lg_sl ([.ref xn]) ++ List.replicate (3 - (lg_sl ([.ref xn])).length) Slot.unset).toArray = ls at hl ⊢
  have hl : lv_has ls 3 [(0, .ref xn)] := hl
  have z0 : (0 : Int32).toInt = 0 := by decide
  have z1 : (1 : Int32).toInt = 1 := by decide
  refine lv_iconst (v := 0) hx hb dX3_missingLines_0 (by decide) ?_
  refine lv_istore_n (lv' := [(1, .int 0), (0, .ref xn)]) hx hb dX3_missingLines_1 rfl hl (by decide) rfl (fun ls hl => ?_)
  refine lv_iconst (v := 0) hx hb dX3_missingLines_2 (by decide) ?_
  refine lv_istore_n (lv' := [(2, .int 0), (1, .int 0), (0, .ref xn)]) hx hb dX3_missingLines_3 rfl hl (by decide) rfl (fun ls hl => ?_)
  suffices LOOP_1 : ∀ (n_1 : Nat) (x2_1 : Int32) (x1_1 : Int32) (H : Heap) (locs : List Loc) (ls : Array Slot), vn.toInt - x2_1.toInt < (n_1 : Int) → (0 ≤ x2_1.toInt) → (x2_1.toInt ≤ vn.toInt) → va_P D vwCl [(xn, .inr (3, [.int vp, .int vn, .ref n1, .ref n2, .ref n3, .ref n4, .ref n5])), (n2, .inl (cy 0, 40, .inl fs))] H → va_S A s.heap H locs → lv_has ls 3 [(2, .int x2_1), (1, .int x1_1), (0, .ref xn)] → W p l e ({ frames := 1, cells := 0, slots := 0, locals := 21 } : Room) s m (([.ref xn] : List Value).toArray) below meth c H locs 0 0 Q (F0 m 4 ls []) from LOOP_1 ((vn.toInt - (0 : Int32).toInt).toNat + 1) (0 : Int32) (0 : Int32) _ _ _ (by omega) (by first | with_reducible assumption | omega | assumption) (by first | with_reducible assumption | omega | assumption) hP  hS (lv_sub hl [0, 1, 2] rfl)
  intro n_1
  induction n_1 with
  | zero =>
    intro x2_1 x1_1 H locs ls hm v0_1 v1_1 hP hS hl
    exact absurd hm (by omega)
  | succ n_1 ih_1 =>
    intro x2_1 x1_1 H locs ls hm v0_1 v1_1 hP hS hl
    refine lv_iload_n hx hb dX3_missingLines_4 rfl (lv_at hl 0 rfl) ?_
    refine lv_aload_n hx hb dX3_missingLines_5 rfl (lv_at hl 2 rfl) ?_
    refine va_get (ci := 3) (v := .int vn) (C := RX3) (T := TX3) (N := 7) hx hb hts (fun _ h => List.mem_cons_of_mem _ (List.mem_append_right _ h)) hown hK.1 hP 0 rfl rfl 1 (by decide) (hts (.fieldLink RX3 15 "CutAtlas$Net" "lines" "I") (by decide +kernel)) (fun _ h9 => h9) rfl dX3_missingLines_6 ?_
    refine lv_icmp_ge (tgt := 34) hx hb dX3_missingLines_9 (by decide) (fun c_2 => ?_) (fun c_2 => ?_)
    · have t_2 : vn.toInt ≤ x2_1.toInt := Int32.le_iff_toInt_le.mp c_2
      refine lv_iload_n hx hb dX3_missingLines_34 rfl (lv_at hl 1 rfl) ?_
      rw [hQ]
      exact W.iret (v := x1_1) hx hb hr (fun t ht hW => ⟨⟨x1_1, (), rfl, trivial, trivial⟩, hS.F ht⟩) hS.2.2 dX3_missingLines_35
    · have t_2 : ¬ vn.toInt ≤ x2_1.toInt := fun h => c_2 (Int32.le_iff_toInt_le.mpr h)
      refine lv_iload_n hx hb dX3_missingLines_12 rfl (lv_at hl 1 rfl) ?_
      refine lv_aload_n hx hb dX3_missingLines_13 rfl (lv_at hl 2 rfl) ?_
      refine lv_iload_n hx hb dX3_missingLines_14 rfl (lv_at hl 0 rfl) ?_
      refine ct_R hP hD0 [(xn, .inr (3, [.int vp, .int vn, .ref n1, .ref n2, .ref n3, .ref n4, .ref n5])), (n2, .inl (cy 0, 40, .inl fs))] [0, 1] (by decide) rfl (fun hPc hDw => ?_)
      have hFc := va_free (wc := []) hD hS hA [] rfl
      refine va_calli (va_runV (As := [.int x2_1]) (rest := [.int x1_1]) ⟨hx, hb, hml, hown, hts⟩ (c_X3_isMissing l D cy H.size xn n1 n2 n3 n4 n5 vp vn fs x2_1 (by first | with_reducible assumption | omega | assumption)) (cwV 1 hts gX3_missingLines_X3_isMissing rfl rfl rfl (by decide +kernel) ⟨Nat.le_of_ble_eq_true rfl, Nat.le_of_ble_eq_true rfl⟩) ⟨bl_, va_recvX hK.1 hP (ci := 3) (q0 := 0) rfl rfl, fun U hU hW => ⟨rfl, by rw [hU], by rw [hU]; exact hPc, kk_mv hW hK, hDw⟩⟩ rfl rfl hl.1 rfl (lv_room (Nat.le_of_ble_eq_true rfl)) dX3_missingLines_15 ⟨Nat.le_of_ble_eq_true rfl, Nat.le_of_ble_eq_true rfl⟩) hS (fun q _ h => hFc q h) hFc (fun r_3 u t H locs ht hvm hw hB hz1 hk1 hS => ?_)
      have hP : va_P D vwCl _ H := ro_keep hP hk1
      rcases hw with ⟨w_4, e_⟩ | ⟨w_4, e_⟩
      · have e_ := e_.symm
        subst e_
        refine lv_if_eq (tgt := 25) hx hb dX3_missingLines_18 (by decide) (fun c_5 => ?_) (fun c_5 => ?_)
        · exact absurd c_5 (by decide)
        · have _ := c_5
          refine lv_iconst (v := 1) hx hb dX3_missingLines_21 (by decide) ?_
          refine lv_goto (tgt := 26) hx hb dX3_missingLines_22 (by decide) ?_
          refine lv_iadd hx hb dX3_missingLines_26 ?_
          refine lv_topi (fun y_6 ey_6 => ?_)
          refine lv_istore_n (lv' := [(1, .int y_6), (2, .int x2_1), (0, .ref xn)]) hx hb dX3_missingLines_27 rfl hl (by decide) rfl (fun ls hl => ?_)
          obtain ⟨y_7, ey_7⟩ : ∃ y : Int32, y = x2_1 + 1 := ⟨_, rfl⟩
          have ty_7 : y_7.toInt = x2_1.toInt + (1 : Int32).toInt := by rw [ey_7]; exact addI (by omega) (by omega)
          refine lv_iinc (v := y_7) (lv' := [(2, .int y_7), (1, .int y_6), (0, .ref xn)]) hx hb dX3_missingLines_28 hl (k := 1) rfl (by rw [ey_7]; rfl) (by decide) rfl (fun ls hl => ?_)
          refine lv_goto (tgt := 4) hx hb dX3_missingLines_31 (by decide) ?_
          exact ih_1 y_7 y_6 _ _ _ (by omega) (by first | with_reducible assumption | omega | assumption) (by first | with_reducible assumption | omega | assumption) hP  hS (lv_sub hl [0, 1, 2] rfl)
      · have e_ := e_.symm
        subst e_
        refine lv_if_eq (tgt := 25) hx hb dX3_missingLines_18 (by decide) (fun c_8 => ?_) (fun c_8 => ?_)
        · have _ := c_8
          refine lv_iconst (v := 0) hx hb dX3_missingLines_25 (by decide) ?_
          refine lv_iadd hx hb dX3_missingLines_26 ?_
          refine lv_topi (fun y_9 ey_9 => ?_)
          refine lv_istore_n (lv' := [(1, .int y_9), (2, .int x2_1), (0, .ref xn)]) hx hb dX3_missingLines_27 rfl hl (by decide) rfl (fun ls hl => ?_)
          obtain ⟨y_10, ey_10⟩ : ∃ y : Int32, y = x2_1 + 1 := ⟨_, rfl⟩
          have ty_10 : y_10.toInt = x2_1.toInt + (1 : Int32).toInt := by rw [ey_10]; exact addI (by omega) (by omega)
          refine lv_iinc (v := y_10) (lv' := [(2, .int y_10), (1, .int y_9), (0, .ref xn)]) hx hb dX3_missingLines_28 hl (k := 1) rfl (by rw [ey_10]; rfl) (by decide) rfl (fun ls hl => ?_)
          refine lv_goto (tgt := 4) hx hb dX3_missingLines_31 (by decide) ?_
          exact ih_1 y_10 y_9 _ _ _ (by omega) (by first | with_reducible assumption | omega | assumption) (by first | with_reducible assumption | omega | assumption) hP  hS (lv_sub hl [0, 1, 2] rfl)
        · exact absurd c_8 (by decide)

set_option maxHeartbeats 4000000 in
set_option maxRecDepth 100000 in
theorem c_X3_isWhole (l : Launch) (D : va_G) (cy : Nat → ClassId) (sz : Nat) (xn : Nat) (n1 : Nat) (n2 : Nat) (n3 : Nat) (n4 : Nat) (n5 : Nat) (vp : Int32) (vn : Int32) (fk : Nat → Int32) (fs : Nat → Int32) (hvn : 0 ≤ vn.toInt ∧ vn.toInt ≤ 40) : Met l yX3_isWhole wsX3_isWhole ({ frames := 1, cells := 0, slots := 0, locals := 21 }) (va_Pc [.ref xn] (fun U => U.heap.size = sz ∧ va_P D vwCl [(xn, .inr (3, [.int vp, .int vn, .ref n1, .ref n2, .ref n3, .ref n4, .ref n5])), (n1, .inl (cy 0, 40, .inl fk)), (n2, .inl (cy 0, 40, .inl fs))] U.heap ∧ kk_ D cy U ∧ va_D (fun _ => True) [(xn, .inr (3, [.int vp, .int vn, .ref n1, .ref n2, .ref n3, .ref n4, .ref n5])), (n1, .inl (cy 0, 40, .inl fk)), (n2, .inl (cy 0, 40, .inl fs))])) (va_Qi (fun (r : Int32) (_ : Unit) => (r.toInt = 0 ∨ r.toInt = 1)) (fun (_ : Unit) (_ : State) => True) (va_A [] sz)) 0 0 (va_A [] sz) := by
  refine ofQ (cc := cX3_isWhole) (maxL := 3) (ret := (some .boolean)) (by decide) rfl ?_
  intro p e s m args below meth c s₁ Q hQ B hml hv
  obtain ⟨rfl, hsz, hP, hK, hD0⟩ := hv
  have hx := B.exec
  have hb := B.bytes
  have hr := B.returns
  have hts := atoms_spec (ws := wsX3_isWhole) B.pre
  have hown : s.vm.findClass RX3 = some m.cls := by have h_ := findClass_of_methodNamed B.named; exact h_
  have hlocks := B.notSynchronized
  subst hsz
  have hD : va_D (va_A [] s.heap.size) [] := dd_nil
  generalize hAe : va_A [] s.heap.size = A at hD hQ
  have hA : ∀ q : Nat, s.heap.size ≤ q → A q := fun q h => by rw [← hAe]; exact Or.inr h
  have hS : va_S A s.heap s.heap [] := va_S.rf
  have hl := lv_entry ([.ref xn]) (n := 3) (Nat.le_of_ble_eq_true rfl)
  rw [lg_entry_eq]
  generalize (lg_sl ([.ref xn]) ++ List.replicate (3 - (lg_sl ([.ref xn])).length) Slot.unset).toArray = ls at hl ⊢
  have hl : lv_has ls 3 [(0, .ref xn)] := hl
  have z0 : (0 : Int32).toInt = 0 := by decide
  have z1 : (1 : Int32).toInt = 1 := by decide
  have z2 : (2 : Int32).toInt = 2 := by decide
  refine lv_iconst (v := 0) hx hb dX3_isWhole_0 (by decide) ?_
  refine lv_istore_n (lv' := [(1, .int 0), (0, .ref xn)]) hx hb dX3_isWhole_1 rfl hl (by decide) rfl (fun ls hl => ?_)
  suffices LOOP_1 : ∀ (n_1 : Nat) (x1_1 : Int32) (H : Heap) (locs : List Loc) (ls : Array Slot), vn.toInt - x1_1.toInt < (n_1 : Int) → (0 ≤ x1_1.toInt) → (x1_1.toInt ≤ vn.toInt) → va_P D vwCl [(xn, .inr (3, [.int vp, .int vn, .ref n1, .ref n2, .ref n3, .ref n4, .ref n5])), (n1, .inl (cy 0, 40, .inl fk)), (n2, .inl (cy 0, 40, .inl fs))] H → va_S A s.heap H locs → lv_has ls 3 [(1, .int x1_1), (0, .ref xn)] → W p l e ({ frames := 1, cells := 0, slots := 0, locals := 21 } : Room) s m (([.ref xn] : List Value).toArray) below meth c H locs 0 0 Q (F0 m 2 ls []) from LOOP_1 ((vn.toInt - (0 : Int32).toInt).toNat + 1) (0 : Int32) _ _ _ (by omega) (by first | with_reducible assumption | omega | assumption) (by first | with_reducible assumption | omega | assumption) hP  hS (lv_sub hl [0, 1] rfl)
  intro n_1
  induction n_1 with
  | zero =>
    intro x1_1 H locs ls hm v0_1 v1_1 hP hS hl
    exact absurd hm (by omega)
  | succ n_1 ih_1 =>
    intro x1_1 H locs ls hm v0_1 v1_1 hP hS hl
    refine lv_iload_n hx hb dX3_isWhole_2 rfl (lv_at hl 0 rfl) ?_
    refine lv_aload_n hx hb dX3_isWhole_3 rfl (lv_at hl 1 rfl) ?_
    refine va_get (ci := 3) (v := .int vn) (C := RX3) (T := TX3) (N := 7) hx hb hts (fun _ h => List.mem_cons_of_mem _ (List.mem_append_right _ h)) hown hK.1 hP 0 rfl rfl 1 (by decide) (hts (.fieldLink RX3 15 "CutAtlas$Net" "lines" "I") (by decide +kernel)) (fun _ h9 => h9) rfl dX3_isWhole_4 ?_
    refine lv_icmp_ge (tgt := 56) hx hb dX3_isWhole_7 (by decide) (fun c_2 => ?_) (fun c_2 => ?_)
    · have t_2 : vn.toInt ≤ x1_1.toInt := Int32.le_iff_toInt_le.mp c_2
      refine lv_aload_n hx hb dX3_isWhole_56 rfl (lv_at hl 1 rfl) ?_
      refine va_get (ci := 3) (v := .int vp) (C := RX3) (T := TX3) (N := 7) hx hb hts (fun _ h => List.mem_cons_of_mem _ (List.mem_append_right _ h)) hown hK.1 hP 0 rfl rfl 0 (by decide) (hts (.fieldLink RX3 9 "CutAtlas$Net" "places" "I") (by decide +kernel)) (fun _ h9 => h9) rfl dX3_isWhole_57 ?_
      refine lv_iconst (v := 2) hx hb dX3_isWhole_60 (by decide) ?_
      refine lv_icmp_lt (tgt := 68) hx hb dX3_isWhole_61 (by decide) (fun c_3 => ?_) (fun c_3 => ?_)
      · have t_3 : vp.toInt < (2 : Int32).toInt := Int32.lt_iff_toInt_lt.mp c_3
        refine lv_iconst (v := 0) hx hb dX3_isWhole_68 (by decide) ?_
        rw [hQ]
        exact W.zret (ty := .boolean) (v := 0) hx hb hr (by decide) (fun t ht hW => ⟨⟨0, (), rfl, (by omega), trivial⟩, hS.F ht⟩) hS.2.2 dX3_isWhole_69
      · have t_3 : ¬ vp.toInt < (2 : Int32).toInt := fun h => c_3 (Int32.lt_iff_toInt_lt.mpr h)
        refine lv_iconst (v := 1) hx hb dX3_isWhole_64 (by decide) ?_
        refine lv_goto (tgt := 69) hx hb dX3_isWhole_65 (by decide) ?_
        rw [hQ]
        exact W.zret (ty := .boolean) (v := 1) hx hb hr (by decide) (fun t ht hW => ⟨⟨1, (), rfl, (by omega), trivial⟩, hS.F ht⟩) hS.2.2 dX3_isWhole_69
    · have t_2 : ¬ vn.toInt ≤ x1_1.toInt := fun h => c_2 (Int32.le_iff_toInt_le.mpr h)
      refine lv_aload_n hx hb dX3_isWhole_10 rfl (lv_at hl 1 rfl) ?_
      refine va_get (ci := 3) (v := .ref n1) (C := RX3) (T := TX3) (N := 7) hx hb hts (fun _ h => List.mem_cons_of_mem _ (List.mem_append_right _ h)) hown hK.1 hP 0 rfl rfl 2 (by decide) (hts (.fieldLink RX3 18 "CutAtlas$Net" "kinds" "[I") (by decide +kernel)) (fun _ h9 => h9) rfl dX3_isWhole_11 ?_
      refine lv_iload_n hx hb dX3_isWhole_14 rfl (lv_at hl 0 rfl) ?_
      have h_4 : vp_in x1_1 40 := in_I (by omega) (by omega)
      refine va_iald hx hb hK.1 hP 1 0 rfl rfl (i := x1_1) h_4 dX3_isWhole_15 ?_
      refine lv_topi (fun y_5 ey_5 => ?_)
      refine lv_iconst (v := 1) hx hb dX3_isWhole_16 (by decide) ?_
      refine lv_icmp_eq (tgt := 30) hx hb dX3_isWhole_17 (by decide) (fun c_6 => ?_) (fun c_6 => ?_)
      · have t_6 : y_5.toInt = (1 : Int32).toInt := congrArg Int32.toInt c_6
        refine lv_iconst (v := 1) hx hb dX3_isWhole_30 (by decide) ?_
        refine lv_goto (tgt := 35) hx hb dX3_isWhole_31 (by decide) ?_
        refine lv_istore_n (lv' := [(2, .int 1), (1, .int x1_1), (0, .ref xn)]) hx hb dX3_isWhole_35 rfl hl (by decide) rfl (fun ls hl => ?_)
        refine lv_iload_n hx hb dX3_isWhole_36 rfl (lv_at hl 0 rfl) ?_
        refine lv_if_eq (tgt := 50) hx hb dX3_isWhole_37 (by decide) (fun c_7 => ?_) (fun c_7 => ?_)
        · exact absurd c_7 (by decide)
        · have _ := c_7
          refine lv_aload_n hx hb dX3_isWhole_40 rfl (lv_at hl 2 rfl) ?_
          refine lv_iload_n hx hb dX3_isWhole_41 rfl (lv_at hl 1 rfl) ?_
          refine ct_R hP hD0 [(xn, .inr (3, [.int vp, .int vn, .ref n1, .ref n2, .ref n3, .ref n4, .ref n5])), (n2, .inl (cy 0, 40, .inl fs))] [0, 2] (by decide) rfl (fun hPc hDw => ?_)
          have hFc := va_free (wc := []) hD hS hA [] rfl
          refine va_calli (va_runV (As := [.int x1_1]) (rest := []) ⟨hx, hb, hml, hown, hts⟩ (c_X3_isMissing l D cy H.size xn n1 n2 n3 n4 n5 vp vn fs x1_1 (by first | with_reducible assumption | omega | assumption)) (cwV 1 hts gX3_isWhole_X3_isMissing rfl rfl rfl (by decide +kernel) ⟨Nat.le_of_ble_eq_true rfl, Nat.le_of_ble_eq_true rfl⟩) ⟨bl_, va_recvX hK.1 hP (ci := 3) (q0 := 0) rfl rfl, fun U hU hW => ⟨rfl, by rw [hU], by rw [hU]; exact hPc, kk_mv hW hK, hDw⟩⟩ rfl rfl hl.1 rfl (lv_room (Nat.le_of_ble_eq_true rfl)) dX3_isWhole_42 ⟨Nat.le_of_ble_eq_true rfl, Nat.le_of_ble_eq_true rfl⟩) hS (fun q _ h => hFc q h) hFc (fun r_8 u t H locs ht hvm hw hB hz1 hk1 hS => ?_)
          have hP : va_P D vwCl _ H := ro_keep hP hk1
          rcases hw with ⟨w_9, e_⟩ | ⟨w_9, e_⟩
          · have e_ := e_.symm
            subst e_
            refine lv_if_ne (tgt := 50) hx hb dX3_isWhole_45 (by decide) (fun c_10 => ?_) (fun c_10 => ?_)
            · have _ := c_10
              obtain ⟨y_11, ey_11⟩ : ∃ y : Int32, y = x1_1 + 1 := ⟨_, rfl⟩
              have ty_11 : y_11.toInt = x1_1.toInt + (1 : Int32).toInt := by rw [ey_11]; exact addI (by omega) (by omega)
              refine lv_iinc (v := y_11) (lv' := [(1, .int y_11), (2, .int 1), (0, .ref xn)]) hx hb dX3_isWhole_50 hl (k := 1) rfl (by rw [ey_11]; rfl) (by decide) rfl (fun ls hl => ?_)
              refine lv_goto (tgt := 2) hx hb dX3_isWhole_53 (by decide) ?_
              exact ih_1 y_11 _ _ _ (by omega) (by first | with_reducible assumption | omega | assumption) (by first | with_reducible assumption | omega | assumption) hP  hS (lv_sub hl [0, 2] rfl)
            · exact absurd c_10 (by decide)
          · have e_ := e_.symm
            subst e_
            refine lv_if_ne (tgt := 50) hx hb dX3_isWhole_45 (by decide) (fun c_12 => ?_) (fun c_12 => ?_)
            · exact absurd c_12 (by decide)
            · have _ := c_12
              refine lv_iconst (v := 0) hx hb dX3_isWhole_48 (by decide) ?_
              rw [hQ]
              exact W.zret (ty := .boolean) (v := 0) hx hb hr (by decide) (fun t ht hW => ⟨⟨0, (), rfl, (by omega), trivial⟩, hS.F ht⟩) hS.2.2 dX3_isWhole_49
      · have t_6 : ¬ y_5.toInt = (1 : Int32).toInt := fun h => c_6 (Int32.toInt_inj.mp h)
        refine lv_aload_n hx hb dX3_isWhole_20 rfl (lv_at hl 1 rfl) ?_
        refine va_get (ci := 3) (v := .ref n1) (C := RX3) (T := TX3) (N := 7) hx hb hts (fun _ h => List.mem_cons_of_mem _ (List.mem_append_right _ h)) hown hK.1 hP 0 rfl rfl 2 (by decide) (hts (.fieldLink RX3 18 "CutAtlas$Net" "kinds" "[I") (by decide +kernel)) (fun _ h9 => h9) rfl dX3_isWhole_21 ?_
        refine lv_iload_n hx hb dX3_isWhole_24 rfl (lv_at hl 0 rfl) ?_
        have h_13 : vp_in x1_1 40 := in_I (by omega) (by omega)
        refine va_iald hx hb hK.1 hP 1 0 rfl rfl (i := x1_1) h_13 dX3_isWhole_25 ?_
        refine lv_topi (fun y_14 ey_14 => ?_)
        have e_ := (ey_14.trans ey_5.symm).symm
        subst e_
        skip
        refine lv_iconst (v := 2) hx hb dX3_isWhole_26 (by decide) ?_
        refine lv_icmp_ne (tgt := 34) hx hb dX3_isWhole_27 (by decide) (fun c_15 => ?_) (fun c_15 => ?_)
        · have t_15 : ¬ y_5.toInt = (2 : Int32).toInt := fun h => c_15 (Int32.toInt_inj.mp h)
          refine lv_iconst (v := 0) hx hb dX3_isWhole_34 (by decide) ?_
          refine lv_istore_n (lv' := [(2, .int 0), (1, .int x1_1), (0, .ref xn)]) hx hb dX3_isWhole_35 rfl hl (by decide) rfl (fun ls hl => ?_)
          refine lv_iload_n hx hb dX3_isWhole_36 rfl (lv_at hl 0 rfl) ?_
          refine lv_if_eq (tgt := 50) hx hb dX3_isWhole_37 (by decide) (fun c_16 => ?_) (fun c_16 => ?_)
          · have _ := c_16
            obtain ⟨y_17, ey_17⟩ : ∃ y : Int32, y = x1_1 + 1 := ⟨_, rfl⟩
            have ty_17 : y_17.toInt = x1_1.toInt + (1 : Int32).toInt := by rw [ey_17]; exact addI (by omega) (by omega)
            refine lv_iinc (v := y_17) (lv' := [(1, .int y_17), (2, .int 0), (0, .ref xn)]) hx hb dX3_isWhole_50 hl (k := 1) rfl (by rw [ey_17]; rfl) (by decide) rfl (fun ls hl => ?_)
            refine lv_goto (tgt := 2) hx hb dX3_isWhole_53 (by decide) ?_
            exact ih_1 y_17 _ _ _ (by omega) (by first | with_reducible assumption | omega | assumption) (by first | with_reducible assumption | omega | assumption) hP  hS (lv_sub hl [0, 2] rfl)
          · exact absurd c_16 (by decide)
        · have t_15 : y_5.toInt = (2 : Int32).toInt := congrArg Int32.toInt c_15
          refine lv_iconst (v := 1) hx hb dX3_isWhole_30 (by decide) ?_
          refine lv_goto (tgt := 35) hx hb dX3_isWhole_31 (by decide) ?_
          refine lv_istore_n (lv' := [(2, .int 1), (1, .int x1_1), (0, .ref xn)]) hx hb dX3_isWhole_35 rfl hl (by decide) rfl (fun ls hl => ?_)
          refine lv_iload_n hx hb dX3_isWhole_36 rfl (lv_at hl 0 rfl) ?_
          refine lv_if_eq (tgt := 50) hx hb dX3_isWhole_37 (by decide) (fun c_18 => ?_) (fun c_18 => ?_)
          · exact absurd c_18 (by decide)
          · have _ := c_18
            refine lv_aload_n hx hb dX3_isWhole_40 rfl (lv_at hl 2 rfl) ?_
            refine lv_iload_n hx hb dX3_isWhole_41 rfl (lv_at hl 1 rfl) ?_
            refine ct_R hP hD0 [(xn, .inr (3, [.int vp, .int vn, .ref n1, .ref n2, .ref n3, .ref n4, .ref n5])), (n2, .inl (cy 0, 40, .inl fs))] [0, 2] (by decide) rfl (fun hPc hDw => ?_)
            have hFc := va_free (wc := []) hD hS hA [] rfl
            refine va_calli (va_runV (As := [.int x1_1]) (rest := []) ⟨hx, hb, hml, hown, hts⟩ (c_X3_isMissing l D cy H.size xn n1 n2 n3 n4 n5 vp vn fs x1_1 (by first | with_reducible assumption | omega | assumption)) (cwV 1 hts gX3_isWhole_X3_isMissing rfl rfl rfl (by decide +kernel) ⟨Nat.le_of_ble_eq_true rfl, Nat.le_of_ble_eq_true rfl⟩) ⟨bl_, va_recvX hK.1 hP (ci := 3) (q0 := 0) rfl rfl, fun U hU hW => ⟨rfl, by rw [hU], by rw [hU]; exact hPc, kk_mv hW hK, hDw⟩⟩ rfl rfl hl.1 rfl (lv_room (Nat.le_of_ble_eq_true rfl)) dX3_isWhole_42 ⟨Nat.le_of_ble_eq_true rfl, Nat.le_of_ble_eq_true rfl⟩) hS (fun q _ h => hFc q h) hFc (fun r_19 u t H locs ht hvm hw hB hz1 hk1 hS => ?_)
            have hP : va_P D vwCl _ H := ro_keep hP hk1
            rcases hw with ⟨w_20, e_⟩ | ⟨w_20, e_⟩
            · have e_ := e_.symm
              subst e_
              refine lv_if_ne (tgt := 50) hx hb dX3_isWhole_45 (by decide) (fun c_21 => ?_) (fun c_21 => ?_)
              · have _ := c_21
                obtain ⟨y_22, ey_22⟩ : ∃ y : Int32, y = x1_1 + 1 := ⟨_, rfl⟩
                have ty_22 : y_22.toInt = x1_1.toInt + (1 : Int32).toInt := by rw [ey_22]; exact addI (by omega) (by omega)
                refine lv_iinc (v := y_22) (lv' := [(1, .int y_22), (2, .int 1), (0, .ref xn)]) hx hb dX3_isWhole_50 hl (k := 1) rfl (by rw [ey_22]; rfl) (by decide) rfl (fun ls hl => ?_)
                refine lv_goto (tgt := 2) hx hb dX3_isWhole_53 (by decide) ?_
                exact ih_1 y_22 _ _ _ (by omega) (by first | with_reducible assumption | omega | assumption) (by first | with_reducible assumption | omega | assumption) hP  hS (lv_sub hl [0, 2] rfl)
              · exact absurd c_21 (by decide)
            · have e_ := e_.symm
              subst e_
              refine lv_if_ne (tgt := 50) hx hb dX3_isWhole_45 (by decide) (fun c_23 => ?_) (fun c_23 => ?_)
              · exact absurd c_23 (by decide)
              · have _ := c_23
                refine lv_iconst (v := 0) hx hb dX3_isWhole_48 (by decide) ?_
                rw [hQ]
                exact W.zret (ty := .boolean) (v := 0) hx hb hr (by decide) (fun t ht hW => ⟨⟨0, (), rfl, (by omega), trivial⟩, hS.F ht⟩) hS.2.2 dX3_isWhole_49

set_option maxHeartbeats 4000000 in
set_option maxRecDepth 100000 in
theorem c_X3_append (l : Launch) (D : va_G) (cy : Nat → ClassId) (sz : Nat) (xn : Nat) (n1 : Nat) (n2 : Nat) (n3 : Nat) (n4 : Nat) (n5 : Nat) (vp : Int32) (vn : Int32) (fk : Nat → Int32) (fs : Nat → Int32) (fe : Nat → Int32) (fw : Nat → Int32) (fp : Nat → Int32) (a1 : Int32) (a2 : Int32) (a3 : Int32) (a4 : Int32) (a5 : Int32) (hvn : 0 ≤ vn.toInt ∧ vn.toInt < 40) (q1 : 0 ≤ a1.toInt ∧ a1.toInt ≤ 4) (q2 : 0 ≤ a2.toInt ∧ a2.toInt ≤ 11) (q3 : 0 ≤ a3.toInt ∧ a3.toInt ≤ 11) (q4 : 0 ≤ a4.toInt ∧ a4.toInt ≤ 2000) (q5 : 0 ≤ a5.toInt ∧ a5.toInt ≤ 100) (hpr : prng fs fe 40) (r_fk : rng fk 40 (0) (4)) (r_fw : rng fw 40 (0) (2000)) (r_fp : rng fp 40 (0) (100)) : Met l yX3_append wsX3_append ({ frames := 0, cells := 0, slots := 0, locals := 0 }) (va_Pc [.ref xn, .int a1, .int a2, .int a3, .int a4, .int a5] (fun U => U.heap.size = sz ∧ va_P D vwCl [(xn, .inr (3, [.int vp, .int vn, .ref n1, .ref n2, .ref n3, .ref n4, .ref n5])), (n1, .inl (cy 0, 40, .inl fk)), (n2, .inl (cy 0, 40, .inl fs)), (n3, .inl (cy 0, 40, .inl fe)), (n4, .inl (cy 0, 40, .inl fw)), (n5, .inl (cy 0, 40, .inl fp))] U.heap ∧ kk_ D cy U ∧ va_D (fun _ => True) [(xn, .inr (3, [.int vp, .int vn, .ref n1, .ref n2, .ref n3, .ref n4, .ref n5])), (n1, .inl (cy 0, 40, .inl fk)), (n2, .inl (cy 0, 40, .inl fs)), (n3, .inl (cy 0, 40, .inl fe)), (n4, .inl (cy 0, 40, .inl fw)), (n5, .inl (cy 0, 40, .inl fp))])) (va_Qi (fun (r : Int32) (_ : Unit) => True) (fun (_ : Unit) (t : State) => ∃ (evn : Int32), ∃ (efk : Nat → Int32), ∃ (efs : Nat → Int32), ∃ (efe : Nat → Int32), ∃ (efw : Nat → Int32), ∃ (efp : Nat → Int32), (evn.toInt = vn.toInt + 1) ∧ (prng efs efe 40) ∧ (rng efk 40 (0) (4)) ∧ (rng efw 40 (0) (2000)) ∧ (rng efp 40 (0) (100)) ∧ va_P D vwCl [(xn, .inr (3, [.int vp, .int evn, .ref n1, .ref n2, .ref n3, .ref n4, .ref n5])), (n1, .inl (cy 0, 40, .inl efk)), (n2, .inl (cy 0, 40, .inl efs)), (n3, .inl (cy 0, 40, .inl efe)), (n4, .inl (cy 0, 40, .inl efw)), (n5, .inl (cy 0, 40, .inl efp))] t.heap ∧ va_D (va_A [(xn, .inr (3, [.int vp, .int vn, .ref n1, .ref n2, .ref n3, .ref n4, .ref n5])), (n1, .inl (cy 0, 40, .inl fk)), (n2, .inl (cy 0, 40, .inl fs)), (n3, .inl (cy 0, 40, .inl fe)), (n4, .inl (cy 0, 40, .inl fw)), (n5, .inl (cy 0, 40, .inl fp))] sz) [(xn, .inr (3, [.int vp, .int evn, .ref n1, .ref n2, .ref n3, .ref n4, .ref n5])), (n1, .inl (cy 0, 40, .inl efk)), (n2, .inl (cy 0, 40, .inl efs)), (n3, .inl (cy 0, 40, .inl efe)), (n4, .inl (cy 0, 40, .inl efw)), (n5, .inl (cy 0, 40, .inl efp))]) (va_A [(xn, .inr (3, [.int vp, .int vn, .ref n1, .ref n2, .ref n3, .ref n4, .ref n5])), (n1, .inl (cy 0, 40, .inl fk)), (n2, .inl (cy 0, 40, .inl fs)), (n3, .inl (cy 0, 40, .inl fe)), (n4, .inl (cy 0, 40, .inl fw)), (n5, .inl (cy 0, 40, .inl fp))] sz)) 0 0 (va_A [(xn, .inr (3, [.int vp, .int vn, .ref n1, .ref n2, .ref n3, .ref n4, .ref n5])), (n1, .inl (cy 0, 40, .inl fk)), (n2, .inl (cy 0, 40, .inl fs)), (n3, .inl (cy 0, 40, .inl fe)), (n4, .inl (cy 0, 40, .inl fw)), (n5, .inl (cy 0, 40, .inl fp))] sz) := by
  refine ofQ (cc := cX3_append) (maxL := 6) (ret := (some .int)) (by decide) rfl ?_
  intro p e s m args below meth c s₁ Q hQ B hml hv
  obtain ⟨rfl, hsz, hP, hK, hD0⟩ := hv
  have hx := B.exec
  have hb := B.bytes
  have hr := B.returns
  have hts := atoms_spec (ws := wsX3_append) B.pre
  have hown : s.vm.findClass RX3 = some m.cls := by have h_ := findClass_of_methodNamed B.named; exact h_
  have hlocks := B.notSynchronized
  subst hsz
  have hD := hD0.self (sz := s.heap.size)
  generalize hAe : va_A [(xn, .inr (3, [.int vp, .int vn, .ref n1, .ref n2, .ref n3, .ref n4, .ref n5])), (n1, .inl (cy 0, 40, .inl fk)), (n2, .inl (cy 0, 40, .inl fs)), (n3, .inl (cy 0, 40, .inl fe)), (n4, .inl (cy 0, 40, .inl fw)), (n5, .inl (cy 0, 40, .inl fp))] s.heap.size = A at hD hQ
  have hA : ∀ q : Nat, s.heap.size ≤ q → A q := fun q h => by rw [← hAe]; exact Or.inr h
  have hS : va_S A s.heap s.heap [] := va_S.rf
  have hl := lv_entry ([.ref xn, .int a1, .int a2, .int a3, .int a4, .int a5]) (n := 6) (Nat.le_of_ble_eq_true rfl)
  rw [lg_entry_eq]
  generalize (lg_sl ([.ref xn, .int a1, .int a2, .int a3, .int a4, .int a5]) ++ List.replicate (6 - (lg_sl ([.ref xn, .int a1, .int a2, .int a3, .int a4, .int a5])).length) Slot.unset).toArray = ls at hl ⊢
  have hl : lv_has ls 6 [(0, .ref xn), (1, .int a1), (2, .int a2), (3, .int a3), (4, .int a4), (5, .int a5)] := hl
  have z1 : (1 : Int32).toInt = 1 := by decide
  refine lv_aload_n hx hb dX3_append_0 rfl (lv_at hl 0 rfl) ?_
  refine va_get (ci := 3) (v := .ref n1) (C := RX3) (T := TX3) (N := 7) hx hb hts (fun _ h => List.mem_cons_of_mem _ (List.mem_append_right _ h)) hown hK.1 hP 0 rfl rfl 2 (by decide) (hts (.fieldLink RX3 18 "CutAtlas$Net" "kinds" "[I") (by decide +kernel)) (fun _ h9 => h9) rfl dX3_append_1 ?_
  refine lv_aload_n hx hb dX3_append_4 rfl (lv_at hl 0 rfl) ?_
  refine va_get (ci := 3) (v := .int vn) (C := RX3) (T := TX3) (N := 7) hx hb hts (fun _ h => List.mem_cons_of_mem _ (List.mem_append_right _ h)) hown hK.1 hP 0 rfl rfl 1 (by decide) (hts (.fieldLink RX3 15 "CutAtlas$Net" "lines" "I") (by decide +kernel)) (fun _ h9 => h9) rfl dX3_append_5 ?_
  refine lv_iload_n hx hb dX3_append_8 rfl (lv_at hl 1 rfl) ?_
  have h_1 : vp_in vn 40 := in_I (by omega) (by omega)
  refine va_iast hx hb hK.1 hP hD hS 1 0 rfl rfl (i := vn) h_1 dX3_append_9 (fun H locs hP hD hS => ?_)
  obtain ⟨f_2, ef_2⟩ : ∃ g : Nat → Int32, g = upd fk vn.toNatClampNeg a1 := ⟨_, rfl⟩
  refine pd_K (D := D) (cl := vwCl) (H := H) (A := A) [(xn, .inr (3, [.int vp, .int vn, .ref n1, .ref n2, .ref n3, .ref n4, .ref n5])), (n1, .inl (cy 0, 40, .inl f_2)), (n2, .inl (cy 0, 40, .inl fs)), (n3, .inl (cy 0, 40, .inl fe)), (n4, .inl (cy 0, 40, .inl fw)), (n5, .inl (cy 0, 40, .inl fp))] (by rw [ef_2]; exact hP) (by rw [ef_2]; exact hD) (fun hP hD => ?_)
  have rf_2 : rng f_2 40 (0) (4) := by rw [ef_2]; exact rng_upd r_fk (by omega) (by omega)
  refine lv_aload_n hx hb dX3_append_10 rfl (lv_at hl 0 rfl) ?_
  refine va_get (ci := 3) (v := .ref n2) (C := RX3) (T := TX3) (N := 7) hx hb hts (fun _ h => List.mem_cons_of_mem _ (List.mem_append_right _ h)) hown hK.1 hP 0 rfl rfl 3 (by decide) (hts (.fieldLink RX3 22 "CutAtlas$Net" "starts" "[I") (by decide +kernel)) (fun _ h9 => h9) rfl dX3_append_11 ?_
  refine lv_aload_n hx hb dX3_append_14 rfl (lv_at hl 0 rfl) ?_
  refine va_get (ci := 3) (v := .int vn) (C := RX3) (T := TX3) (N := 7) hx hb hts (fun _ h => List.mem_cons_of_mem _ (List.mem_append_right _ h)) hown hK.1 hP 0 rfl rfl 1 (by decide) (hts (.fieldLink RX3 15 "CutAtlas$Net" "lines" "I") (by decide +kernel)) (fun _ h9 => h9) rfl dX3_append_15 ?_
  refine lv_iload_n hx hb dX3_append_18 rfl (lv_at hl 2 rfl) ?_
  have h_3 : vp_in vn 40 := in_I (by omega) (by omega)
  refine va_iast hx hb hK.1 hP hD hS 2 0 rfl rfl (i := vn) h_3 dX3_append_19 (fun H locs hP hD hS => ?_)
  obtain ⟨f_4, ef_4⟩ : ∃ g : Nat → Int32, g = upd fs vn.toNatClampNeg a2 := ⟨_, rfl⟩
  refine pd_K (D := D) (cl := vwCl) (H := H) (A := A) [(xn, .inr (3, [.int vp, .int vn, .ref n1, .ref n2, .ref n3, .ref n4, .ref n5])), (n1, .inl (cy 0, 40, .inl f_2)), (n2, .inl (cy 0, 40, .inl f_4)), (n3, .inl (cy 0, 40, .inl fe)), (n4, .inl (cy 0, 40, .inl fw)), (n5, .inl (cy 0, 40, .inl fp))] (by rw [ef_4]; exact hP) (by rw [ef_4]; exact hD) (fun hP hD => ?_)
  refine lv_aload_n hx hb dX3_append_20 rfl (lv_at hl 0 rfl) ?_
  refine va_get (ci := 3) (v := .ref n3) (C := RX3) (T := TX3) (N := 7) hx hb hts (fun _ h => List.mem_cons_of_mem _ (List.mem_append_right _ h)) hown hK.1 hP 0 rfl rfl 4 (by decide) (hts (.fieldLink RX3 25 "CutAtlas$Net" "ends" "[I") (by decide +kernel)) (fun _ h9 => h9) rfl dX3_append_21 ?_
  refine lv_aload_n hx hb dX3_append_24 rfl (lv_at hl 0 rfl) ?_
  refine va_get (ci := 3) (v := .int vn) (C := RX3) (T := TX3) (N := 7) hx hb hts (fun _ h => List.mem_cons_of_mem _ (List.mem_append_right _ h)) hown hK.1 hP 0 rfl rfl 1 (by decide) (hts (.fieldLink RX3 15 "CutAtlas$Net" "lines" "I") (by decide +kernel)) (fun _ h9 => h9) rfl dX3_append_25 ?_
  refine lv_iload_n hx hb dX3_append_28 rfl (lv_at hl 3 rfl) ?_
  have h_5 : vp_in vn 40 := in_I (by omega) (by omega)
  refine va_iast hx hb hK.1 hP hD hS 3 0 rfl rfl (i := vn) h_5 dX3_append_29 (fun H locs hP hD hS => ?_)
  obtain ⟨f_6, ef_6⟩ : ∃ g : Nat → Int32, g = upd fe vn.toNatClampNeg a3 := ⟨_, rfl⟩
  refine pd_K (D := D) (cl := vwCl) (H := H) (A := A) [(xn, .inr (3, [.int vp, .int vn, .ref n1, .ref n2, .ref n3, .ref n4, .ref n5])), (n1, .inl (cy 0, 40, .inl f_2)), (n2, .inl (cy 0, 40, .inl f_4)), (n3, .inl (cy 0, 40, .inl f_6)), (n4, .inl (cy 0, 40, .inl fw)), (n5, .inl (cy 0, 40, .inl fp))] (by rw [ef_6]; exact hP) (by rw [ef_6]; exact hD) (fun hP hD => ?_)
  have pr_7 : prng f_4 f_6 40 := prng_st (by assumption) (by assumption) (by assumption) (by omega)
  refine lv_aload_n hx hb dX3_append_30 rfl (lv_at hl 0 rfl) ?_
  refine va_get (ci := 3) (v := .ref n4) (C := RX3) (T := TX3) (N := 7) hx hb hts (fun _ h => List.mem_cons_of_mem _ (List.mem_append_right _ h)) hown hK.1 hP 0 rfl rfl 5 (by decide) (hts (.fieldLink RX3 28 "CutAtlas$Net" "widths" "[I") (by decide +kernel)) (fun _ h9 => h9) rfl dX3_append_31 ?_
  refine lv_aload_n hx hb dX3_append_34 rfl (lv_at hl 0 rfl) ?_
  refine va_get (ci := 3) (v := .int vn) (C := RX3) (T := TX3) (N := 7) hx hb hts (fun _ h => List.mem_cons_of_mem _ (List.mem_append_right _ h)) hown hK.1 hP 0 rfl rfl 1 (by decide) (hts (.fieldLink RX3 15 "CutAtlas$Net" "lines" "I") (by decide +kernel)) (fun _ h9 => h9) rfl dX3_append_35 ?_
  refine lv_iload hx hb dX3_append_38 (lv_at hl 4 rfl) ?_
  have h_8 : vp_in vn 40 := in_I (by omega) (by omega)
  refine va_iast hx hb hK.1 hP hD hS 4 0 rfl rfl (i := vn) h_8 dX3_append_40 (fun H locs hP hD hS => ?_)
  obtain ⟨f_9, ef_9⟩ : ∃ g : Nat → Int32, g = upd fw vn.toNatClampNeg a4 := ⟨_, rfl⟩
  refine pd_K (D := D) (cl := vwCl) (H := H) (A := A) [(xn, .inr (3, [.int vp, .int vn, .ref n1, .ref n2, .ref n3, .ref n4, .ref n5])), (n1, .inl (cy 0, 40, .inl f_2)), (n2, .inl (cy 0, 40, .inl f_4)), (n3, .inl (cy 0, 40, .inl f_6)), (n4, .inl (cy 0, 40, .inl f_9)), (n5, .inl (cy 0, 40, .inl fp))] (by rw [ef_9]; exact hP) (by rw [ef_9]; exact hD) (fun hP hD => ?_)
  have rf_9 : rng f_9 40 (0) (2000) := by rw [ef_9]; exact rng_upd r_fw (by omega) (by omega)
  refine lv_aload_n hx hb dX3_append_41 rfl (lv_at hl 0 rfl) ?_
  refine va_get (ci := 3) (v := .ref n5) (C := RX3) (T := TX3) (N := 7) hx hb hts (fun _ h => List.mem_cons_of_mem _ (List.mem_append_right _ h)) hown hK.1 hP 0 rfl rfl 6 (by decide) (hts (.fieldLink RX3 31 "CutAtlas$Net" "prices" "[I") (by decide +kernel)) (fun _ h9 => h9) rfl dX3_append_42 ?_
  refine lv_aload_n hx hb dX3_append_45 rfl (lv_at hl 0 rfl) ?_
  refine va_get (ci := 3) (v := .int vn) (C := RX3) (T := TX3) (N := 7) hx hb hts (fun _ h => List.mem_cons_of_mem _ (List.mem_append_right _ h)) hown hK.1 hP 0 rfl rfl 1 (by decide) (hts (.fieldLink RX3 15 "CutAtlas$Net" "lines" "I") (by decide +kernel)) (fun _ h9 => h9) rfl dX3_append_46 ?_
  refine lv_iload hx hb dX3_append_49 (lv_at hl 5 rfl) ?_
  have h_10 : vp_in vn 40 := in_I (by omega) (by omega)
  refine va_iast hx hb hK.1 hP hD hS 5 0 rfl rfl (i := vn) h_10 dX3_append_51 (fun H locs hP hD hS => ?_)
  obtain ⟨f_11, ef_11⟩ : ∃ g : Nat → Int32, g = upd fp vn.toNatClampNeg a5 := ⟨_, rfl⟩
  refine pd_K (D := D) (cl := vwCl) (H := H) (A := A) [(xn, .inr (3, [.int vp, .int vn, .ref n1, .ref n2, .ref n3, .ref n4, .ref n5])), (n1, .inl (cy 0, 40, .inl f_2)), (n2, .inl (cy 0, 40, .inl f_4)), (n3, .inl (cy 0, 40, .inl f_6)), (n4, .inl (cy 0, 40, .inl f_9)), (n5, .inl (cy 0, 40, .inl f_11))] (by rw [ef_11]; exact hP) (by rw [ef_11]; exact hD) (fun hP hD => ?_)
  have rf_11 : rng f_11 40 (0) (100) := by rw [ef_11]; exact rng_upd r_fp (by omega) (by omega)
  refine lv_aload_n hx hb dX3_append_52 rfl (lv_at hl 0 rfl) ?_
  refine lv_dup hx hb dX3_append_53 rfl ?_
  refine va_get (ci := 3) (v := .int vn) (C := RX3) (T := TX3) (N := 7) hx hb hts (fun _ h => List.mem_cons_of_mem _ (List.mem_append_right _ h)) hown hK.1 hP 0 rfl rfl 1 (by decide) (hts (.fieldLink RX3 15 "CutAtlas$Net" "lines" "I") (by decide +kernel)) (fun _ h9 => h9) rfl dX3_append_54 ?_
  refine lv_iconst (v := 1) hx hb dX3_append_57 (by decide) ?_
  refine lv_iadd hx hb dX3_append_58 ?_
  refine lv_topi (fun y_12 ey_12 => ?_)
  have ty_12 : y_12.toInt = vn.toInt + (1 : Int32).toInt := by rw [ey_12]; exact addI (by omega) (by omega)
  refine va_put (ci := 3) (v := .int y_12) (ty := .int) (C := RX3) (T := TX3) (N := 7) hx hb hts (fun _ h => List.mem_cons_of_mem _ (List.mem_append_right _ h)) tyX3 tyX3_ok nmX3 hown hK.1 hP hD hS 0 rfl rfl 1 (by decide) (hts (.fieldLink RX3 15 "CutAtlas$Net" "lines" "I") (by decide +kernel)) (fun _ h9 => h9) rfl (by decide +kernel) rfl rfl (Nat.le_of_ble_eq_true rfl) dX3_append_59 (fun H locs hP hD hS => ?_)
  refine pd_K [(xn, .inr (3, [.int vp, .int y_12, .ref n1, .ref n2, .ref n3, .ref n4, .ref n5])), (n1, .inl (cy 0, 40, .inl f_2)), (n2, .inl (cy 0, 40, .inl f_4)), (n3, .inl (cy 0, 40, .inl f_6)), (n4, .inl (cy 0, 40, .inl f_9)), (n5, .inl (cy 0, 40, .inl f_11))] hP hD (fun hP hD => ?_)
  refine lv_aload_n hx hb dX3_append_62 rfl (lv_at hl 0 rfl) ?_
  refine va_get (ci := 3) (v := .int y_12) (C := RX3) (T := TX3) (N := 7) hx hb hts (fun _ h => List.mem_cons_of_mem _ (List.mem_append_right _ h)) hown hK.1 hP 0 rfl rfl 1 (by decide) (hts (.fieldLink RX3 15 "CutAtlas$Net" "lines" "I") (by decide +kernel)) (fun _ h9 => h9) rfl dX3_append_63 ?_
  refine lv_iconst (v := 1) hx hb dX3_append_66 (by decide) ?_
  refine lv_isub hx hb dX3_append_67 ?_
  refine lv_topi (fun y_13 ey_13 => ?_)
  have ty_13 : y_13.toInt = y_12.toInt - (1 : Int32).toInt := by rw [ey_13]; exact subI (by omega) (by omega)
  rw [hQ]
  exact W.iret (v := y_13) hx hb hr (fun t ht hW => ⟨⟨y_13, (), rfl, trivial, y_12, f_2, f_4, f_6, f_9, f_11, (by first | with_reducible assumption | omega | assumption), (by first | with_reducible assumption | assumption | exact rng_zero (by omega) (by omega) | omega), (by first | with_reducible assumption | assumption | exact rng_zero (by omega) (by omega) | omega), (by first | with_reducible assumption | assumption | exact rng_zero (by omega) (by omega) | omega), (by first | with_reducible assumption | assumption | exact rng_zero (by omega) (by omega) | omega), by rw [ht]; exact hP, hD⟩, hS.F ht⟩) hS.2.2 dX3_append_68

set_option maxHeartbeats 4000000 in
set_option maxRecDepth 100000 in
theorem c_X3_renumbered (l : Launch) (D : va_G) (cy : Nat → ClassId) (sz : Nat) (a1 : Int32) (a2 : Int32) (a3 : Int32) (q1 : 0 ≤ a1.toInt ∧ a1.toInt ≤ 11) (q2 : 0 ≤ a2.toInt ∧ a2.toInt ≤ 11) (q3 : 0 ≤ a3.toInt) : Met l yX3_renumbered wsX3_renumbered ({ frames := 0, cells := 0, slots := 0, locals := 0 }) (va_Pc [.int a1, .int a2, .int a3] (fun U => U.heap.size = sz ∧ va_P D vwCl [] U.heap ∧ kk_ D cy U ∧ va_D (fun _ => True) [])) (va_Qi (fun (r : Int32) (_ : Unit) => (0 ≤ r.toInt ∧ r.toInt ≤ 11)) (fun (_ : Unit) (_ : State) => True) (va_A [] sz)) 0 0 (va_A [] sz) := by
  refine ofQ (cc := cX3_renumbered) (maxL := 3) (ret := (some .int)) (by decide) rfl ?_
  intro p e s m args below meth c s₁ Q hQ B hml hv
  obtain ⟨rfl, hsz, hP, hK, hD0⟩ := hv
  have hx := B.exec
  have hb := B.bytes
  have hr := B.returns
  have hts := atoms_spec (ws := wsX3_renumbered) B.pre
  have hown : s.vm.findClass RX3 = some m.cls := by have h_ := findClass_of_methodNamed B.named; exact h_
  have hlocks := B.notSynchronized
  subst hsz
  have hD : va_D (va_A [] s.heap.size) [] := dd_nil
  generalize hAe : va_A [] s.heap.size = A at hD hQ
  have hA : ∀ q : Nat, s.heap.size ≤ q → A q := fun q h => by rw [← hAe]; exact Or.inr h
  have hS : va_S A s.heap s.heap [] := va_S.rf
  have hl := lv_entry ([.int a1, .int a2, .int a3]) (n := 3) (Nat.le_of_ble_eq_true rfl)
  rw [lg_entry_eq]
  generalize (lg_sl ([.int a1, .int a2, .int a3]) ++ List.replicate (3 - (lg_sl ([.int a1, .int a2, .int a3])).length) Slot.unset).toArray = ls at hl ⊢
  have hl : lv_has ls 3 [(0, .int a1), (1, .int a2), (2, .int a3)] := hl
  have z1 : (1 : Int32).toInt = 1 := by decide
  refine lv_iload_n hx hb dX3_renumbered_0 rfl (lv_at hl 0 rfl) ?_
  refine lv_iload_n hx hb dX3_renumbered_1 rfl (lv_at hl 2 rfl) ?_
  refine lv_icmp_ne (tgt := 7) hx hb dX3_renumbered_2 (by decide) (fun c_1 => ?_) (fun c_1 => ?_)
  · have t_1 : ¬ a1.toInt = a3.toInt := fun h => c_1 (Int32.toInt_inj.mp h)
    refine lv_iload_n hx hb dX3_renumbered_7 rfl (lv_at hl 0 rfl) ?_
    refine lv_iload_n hx hb dX3_renumbered_8 rfl (lv_at hl 2 rfl) ?_
    refine lv_icmp_le (tgt := 18) hx hb dX3_renumbered_9 (by decide) (fun c_2 => ?_) (fun c_2 => ?_)
    · have t_2 : a1.toInt ≤ a3.toInt := Int32.le_iff_toInt_le.mp c_2
      refine lv_iload_n hx hb dX3_renumbered_18 rfl (lv_at hl 0 rfl) ?_
      rw [hQ]
      exact W.iret (v := a1) hx hb hr (fun t ht hW => ⟨⟨a1, (), rfl, (by omega), trivial⟩, hS.F ht⟩) hS.2.2 dX3_renumbered_19
    · have t_2 : ¬ a1.toInt ≤ a3.toInt := fun h => c_2 (Int32.le_iff_toInt_le.mpr h)
      refine lv_iload_n hx hb dX3_renumbered_12 rfl (lv_at hl 0 rfl) ?_
      refine lv_iconst (v := 1) hx hb dX3_renumbered_13 (by decide) ?_
      refine lv_isub hx hb dX3_renumbered_14 ?_
      refine lv_topi (fun y_3 ey_3 => ?_)
      have ty_3 : y_3.toInt = a1.toInt - (1 : Int32).toInt := by rw [ey_3]; exact subI (by omega) (by omega)
      refine lv_goto (tgt := 19) hx hb dX3_renumbered_15 (by decide) ?_
      rw [hQ]
      exact W.iret (v := y_3) hx hb hr (fun t ht hW => ⟨⟨y_3, (), rfl, (by omega), trivial⟩, hS.F ht⟩) hS.2.2 dX3_renumbered_19
  · have t_1 : a1.toInt = a3.toInt := congrArg Int32.toInt c_1
    refine lv_iload_n hx hb dX3_renumbered_5 rfl (lv_at hl 1 rfl) ?_
    rw [hQ]
    exact W.iret (v := a2) hx hb hr (fun t ht hW => ⟨⟨a2, (), rfl, (by omega), trivial⟩, hS.F ht⟩) hS.2.2 dX3_renumbered_6

set_option maxHeartbeats 4000000 in
set_option maxRecDepth 100000 in
theorem c_X3_join (l : Launch) (D : va_G) (cy : Nat → ClassId) (sz : Nat) (xn : Nat) (n1 : Nat) (n2 : Nat) (n3 : Nat) (n4 : Nat) (n5 : Nat) (vp : Int32) (vn : Int32) (fs : Nat → Int32) (fe : Nat → Int32) (a1 : Int32) (a2 : Int32) (hvn : 0 ≤ vn.toInt ∧ vn.toInt ≤ 40) (hvp : 0 ≤ vp.toInt ∧ vp.toInt ≤ 12) (q1 : 0 ≤ a1.toInt ∧ a1.toInt ≤ 11) (q2 : 0 ≤ a2.toInt ∧ a2.toInt < vp.toInt) (hpr : prng fs fe 40) : Met l yX3_join wsX3_join ({ frames := 1, cells := 0, slots := 0, locals := 22 }) (va_Pc [.ref xn, .int a1, .int a2] (fun U => U.heap.size = sz ∧ va_P D vwCl [(xn, .inr (3, [.int vp, .int vn, .ref n1, .ref n2, .ref n3, .ref n4, .ref n5])), (n2, .inl (cy 0, 40, .inl fs)), (n3, .inl (cy 0, 40, .inl fe))] U.heap ∧ kk_ D cy U ∧ va_D (fun _ => True) [(xn, .inr (3, [.int vp, .int vn, .ref n1, .ref n2, .ref n3, .ref n4, .ref n5])), (n2, .inl (cy 0, 40, .inl fs)), (n3, .inl (cy 0, 40, .inl fe))])) (va_Qi (fun (r : Int32) (_ : Unit) => True) (fun (_ : Unit) (t : State) => ∃ (evp : Int32), ∃ (efs : Nat → Int32), ∃ (efe : Nat → Int32), (evp.toInt = vp.toInt - 1) ∧ (prng efs efe 40) ∧ va_P D vwCl [(xn, .inr (3, [.int evp, .int vn, .ref n1, .ref n2, .ref n3, .ref n4, .ref n5])), (n2, .inl (cy 0, 40, .inl efs)), (n3, .inl (cy 0, 40, .inl efe))] t.heap ∧ va_D (va_A [(xn, .inr (3, [.int vp, .int vn, .ref n1, .ref n2, .ref n3, .ref n4, .ref n5])), (n2, .inl (cy 0, 40, .inl fs)), (n3, .inl (cy 0, 40, .inl fe))] sz) [(xn, .inr (3, [.int evp, .int vn, .ref n1, .ref n2, .ref n3, .ref n4, .ref n5])), (n2, .inl (cy 0, 40, .inl efs)), (n3, .inl (cy 0, 40, .inl efe))]) (va_A [(xn, .inr (3, [.int vp, .int vn, .ref n1, .ref n2, .ref n3, .ref n4, .ref n5])), (n2, .inl (cy 0, 40, .inl fs)), (n3, .inl (cy 0, 40, .inl fe))] sz)) 0 0 (va_A [(xn, .inr (3, [.int vp, .int vn, .ref n1, .ref n2, .ref n3, .ref n4, .ref n5])), (n2, .inl (cy 0, 40, .inl fs)), (n3, .inl (cy 0, 40, .inl fe))] sz) := by
  refine ofQ (cc := cX3_join) (maxL := 5) (ret := (some .int)) (by decide) rfl ?_
  intro p e s m args below meth c s₁ Q hQ B hml hv
  obtain ⟨rfl, hsz, hP, hK, hD0⟩ := hv
  have hx := B.exec
  have hb := B.bytes
  have hr := B.returns
  have hts := atoms_spec (ws := wsX3_join) B.pre
  have hown : s.vm.findClass RX3 = some m.cls := by have h_ := findClass_of_methodNamed B.named; exact h_
  have hlocks := B.notSynchronized
  subst hsz
  have hD := hD0.self (sz := s.heap.size)
  generalize hAe : va_A [(xn, .inr (3, [.int vp, .int vn, .ref n1, .ref n2, .ref n3, .ref n4, .ref n5])), (n2, .inl (cy 0, 40, .inl fs)), (n3, .inl (cy 0, 40, .inl fe))] s.heap.size = A at hD hQ
  have hA : ∀ q : Nat, s.heap.size ≤ q → A q := fun q h => by rw [← hAe]; exact Or.inr h
  have hS : va_S A s.heap s.heap [] := va_S.rf
  have hl := lv_entry ([.ref xn, .int a1, .int a2]) (n := 5) (Nat.le_of_ble_eq_true rfl)
  rw [lg_entry_eq]
  generalize (lg_sl ([.ref xn, .int a1, .int a2]) ++ List.replicate (5 - (lg_sl ([.ref xn, .int a1, .int a2])).length) Slot.unset).toArray = ls at hl ⊢
  have hl : lv_has ls 5 [(0, .ref xn), (1, .int a1), (2, .int a2)] := hl
  have zm9 : ((-9) : Int32).toInt = -9 := by decide
  have z0 : (0 : Int32).toInt = 0 := by decide
  have z1 : (1 : Int32).toInt = 1 := by decide
  refine lv_iconst (v := 0) hx hb dX3_join_0 (by decide) ?_
  refine lv_istore_n (lv' := [(3, .int 0), (0, .ref xn), (1, .int a1), (2, .int a2)]) hx hb dX3_join_1 rfl hl (by decide) rfl (fun ls hl => ?_)
  refine lv_iconst (v := 0) hx hb dX3_join_2 (by decide) ?_
  refine lv_istore (lv' := [(4, .int 0), (3, .int 0), (0, .ref xn), (1, .int a1), (2, .int a2)]) hx hb dX3_join_3 hl (by decide) rfl (fun ls hl => ?_)
  suffices LOOP_1 : ∀ (n_1 : Nat) (x4_1 : Int32) (x3_1 : Int32) (c_n2_1 : Nat → Int32) (c_n3_1 : Nat → Int32) (H : Heap) (locs : List Loc) (ls : Array Slot), vn.toInt - x4_1.toInt < (n_1 : Int) → (0 ≤ x4_1.toInt) → (x4_1.toInt ≤ vn.toInt) → (prng c_n2_1 c_n3_1 40) → (0 ≤ x3_1.toInt) → (x3_1.toInt ≤ x4_1.toInt) → va_P D vwCl [(xn, .inr (3, [.int vp, .int vn, .ref n1, .ref n2, .ref n3, .ref n4, .ref n5])), (n2, .inl (cy 0, 40, .inl c_n2_1)), (n3, .inl (cy 0, 40, .inl c_n3_1))] H → va_D A [(xn, .inr (3, [.int vp, .int vn, .ref n1, .ref n2, .ref n3, .ref n4, .ref n5])), (n2, .inl (cy 0, 40, .inl c_n2_1)), (n3, .inl (cy 0, 40, .inl c_n3_1))] → va_S A s.heap H locs → lv_has ls 5 [(4, .int x4_1), (3, .int x3_1), (0, .ref xn), (1, .int a1), (2, .int a2)] → W p l e ({ frames := 1, cells := 0, slots := 0, locals := 22 } : Room) s m (([.ref xn, .int a1, .int a2] : List Value).toArray) below meth c H locs 0 0 Q (F0 m 5 ls []) from LOOP_1 ((vn.toInt - (0 : Int32).toInt).toNat + 1) (0 : Int32) (0 : Int32) fs fe _ _ _ (by omega) (by first | with_reducible assumption | omega | assumption) (by first | with_reducible assumption | omega | assumption) (by first | with_reducible assumption | assumption | omega) (by first | with_reducible assumption | omega | assumption) (by first | with_reducible assumption | omega | assumption) hP hD hS (lv_sub hl [0, 1, 2, 3, 4] rfl)
  intro n_1
  induction n_1 with
  | zero =>
    intro x4_1 x3_1 c_n2_1 c_n3_1 H locs ls hm v0_1 v1_1 v2_1 v3_1 v4_1 hP hD hS hl
    exact absurd hm (by omega)
  | succ n_1 ih_1 =>
    intro x4_1 x3_1 c_n2_1 c_n3_1 H locs ls hm v0_1 v1_1 v2_1 v3_1 v4_1 hP hD hS hl
    refine lv_iload hx hb dX3_join_5 (lv_at hl 0 rfl) ?_
    refine lv_aload_n hx hb dX3_join_7 rfl (lv_at hl 2 rfl) ?_
    refine va_get (ci := 3) (v := .int vn) (C := RX3) (T := TX3) (N := 7) hx hb hts (fun _ h => List.mem_cons_of_mem _ (List.mem_append_right _ h)) hown hK.1 hP 0 rfl rfl 1 (by decide) (hts (.fieldLink RX3 15 "CutAtlas$Net" "lines" "I") (by decide +kernel)) (fun _ h9 => h9) rfl dX3_join_8 ?_
    refine lv_icmp_ge (tgt := 105) hx hb dX3_join_11 (by decide) (fun c_2 => ?_) (fun c_2 => ?_)
    · have t_2 : vn.toInt ≤ x4_1.toInt := Int32.le_iff_toInt_le.mp c_2
      refine lv_aload_n hx hb dX3_join_105 rfl (lv_at hl 2 rfl) ?_
      refine lv_dup hx hb dX3_join_106 rfl ?_
      refine va_get (ci := 3) (v := .int vp) (C := RX3) (T := TX3) (N := 7) hx hb hts (fun _ h => List.mem_cons_of_mem _ (List.mem_append_right _ h)) hown hK.1 hP 0 rfl rfl 0 (by decide) (hts (.fieldLink RX3 9 "CutAtlas$Net" "places" "I") (by decide +kernel)) (fun _ h9 => h9) rfl dX3_join_107 ?_
      refine lv_iconst (v := 1) hx hb dX3_join_110 (by decide) ?_
      refine lv_isub hx hb dX3_join_111 ?_
      refine lv_topi (fun y_3 ey_3 => ?_)
      have ty_3 : y_3.toInt = vp.toInt - (1 : Int32).toInt := by rw [ey_3]; exact subI (by omega) (by omega)
      refine va_put (ci := 3) (v := .int y_3) (ty := .int) (C := RX3) (T := TX3) (N := 7) hx hb hts (fun _ h => List.mem_cons_of_mem _ (List.mem_append_right _ h)) tyX3 tyX3_ok nmX3 hown hK.1 hP hD hS 0 rfl rfl 0 (by decide) (hts (.fieldLink RX3 9 "CutAtlas$Net" "places" "I") (by decide +kernel)) (fun _ h9 => h9) rfl (by decide +kernel) rfl rfl (Nat.le_of_ble_eq_true rfl) dX3_join_112 (fun H locs hP hD hS => ?_)
      refine pd_K [(xn, .inr (3, [.int y_3, .int vn, .ref n1, .ref n2, .ref n3, .ref n4, .ref n5])), (n2, .inl (cy 0, 40, .inl c_n2_1)), (n3, .inl (cy 0, 40, .inl c_n3_1))] hP hD (fun hP hD => ?_)
      refine lv_iload_n hx hb dX3_join_115 rfl (lv_at hl 1 rfl) ?_
      rw [hQ]
      exact W.iret (v := x3_1) hx hb hr (fun t ht hW => ⟨⟨x3_1, (), rfl, trivial, y_3, c_n2_1, c_n3_1, (by first | with_reducible assumption | omega | assumption), (by first | with_reducible assumption | assumption | exact rng_zero (by omega) (by omega) | omega), by rw [ht]; exact hP, hD⟩, hS.F ht⟩) hS.2.2 dX3_join_116
    · have t_2 : ¬ vn.toInt ≤ x4_1.toInt := fun h => c_2 (Int32.le_iff_toInt_le.mpr h)
      refine lv_aload_n hx hb dX3_join_14 rfl (lv_at hl 2 rfl) ?_
      refine lv_iload hx hb dX3_join_15 (lv_at hl 0 rfl) ?_
      refine ct_R hP hD [(xn, .inr (3, [.int vp, .int vn, .ref n1, .ref n2, .ref n3, .ref n4, .ref n5])), (n2, .inl (cy 0, 40, .inl c_n2_1))] [0, 1] (by decide) rfl (fun hPc hDw => ?_)
      have hFc := va_free (wc := []) hD hS hA [] rfl
      refine va_calli (va_runV (As := [.int x4_1]) (rest := []) ⟨hx, hb, hml, hown, hts⟩ (c_X3_isMissing l D cy H.size xn n1 n2 n3 n4 n5 vp vn c_n2_1 x4_1 (by first | with_reducible assumption | omega | assumption)) (cwV 1 hts gX3_join_X3_isMissing rfl rfl rfl (by decide +kernel) ⟨Nat.le_of_ble_eq_true rfl, Nat.le_of_ble_eq_true rfl⟩) ⟨bl_, va_recvX hK.1 hP (ci := 3) (q0 := 0) rfl rfl, fun U hU hW => ⟨rfl, by rw [hU], by rw [hU]; exact hPc, kk_mv hW hK, hDw⟩⟩ rfl rfl hl.1 rfl (lv_room (Nat.le_of_ble_eq_true rfl)) dX3_join_17 ⟨Nat.le_of_ble_eq_true rfl, Nat.le_of_ble_eq_true rfl⟩) hS (fun q _ h => hFc q h) hFc (fun r_4 u t H locs ht hvm hw hB hz1 hk1 hS => ?_)
      have hP : va_P D vwCl _ H := ro_keep hP hk1
      rcases hw with ⟨w_5, e_⟩ | ⟨w_5, e_⟩
      · have e_ := e_.symm
        subst e_
        refine lv_if_ne (tgt := 99) hx hb dX3_join_20 (by decide) (fun c_6 => ?_) (fun c_6 => ?_)
        · have _ := c_6
          obtain ⟨y_7, ey_7⟩ : ∃ y : Int32, y = x4_1 + 1 := ⟨_, rfl⟩
          have ty_7 : y_7.toInt = x4_1.toInt + (1 : Int32).toInt := by rw [ey_7]; exact addI (by omega) (by omega)
          refine lv_iinc (v := y_7) (lv' := [(4, .int y_7), (3, .int x3_1), (0, .ref xn), (1, .int a1), (2, .int a2)]) hx hb dX3_join_99 hl (k := 0) rfl (by rw [ey_7]; rfl) (by decide) rfl (fun ls hl => ?_)
          refine lv_goto (tgt := 5) hx hb dX3_join_102 (by decide) ?_
          exact ih_1 y_7 x3_1 c_n2_1 c_n3_1 _ _ _ (by omega) (by first | with_reducible assumption | omega | assumption) (by first | with_reducible assumption | omega | assumption) (by first | with_reducible assumption | assumption | omega) (by first | with_reducible assumption | omega | assumption) (by first | with_reducible assumption | omega | assumption) hP hD hS (lv_sub hl [0, 1, 2, 3, 4] rfl)
        · exact absurd c_6 (by decide)
      · have e_ := e_.symm
        subst e_
        refine lv_if_ne (tgt := 99) hx hb dX3_join_20 (by decide) (fun c_8 => ?_) (fun c_8 => ?_)
        · exact absurd c_8 (by decide)
        · have _ := c_8
          refine lv_aload_n hx hb dX3_join_23 rfl (lv_at hl 2 rfl) ?_
          refine va_get (ci := 3) (v := .ref n2) (C := RX3) (T := TX3) (N := 7) hx hb hts (fun _ h => List.mem_cons_of_mem _ (List.mem_append_right _ h)) hown hK.1 hP 0 rfl rfl 3 (by decide) (hts (.fieldLink RX3 22 "CutAtlas$Net" "starts" "[I") (by decide +kernel)) (fun _ h9 => h9) rfl dX3_join_24 ?_
          refine lv_iload hx hb dX3_join_27 (lv_at hl 0 rfl) ?_
          refine lv_aload_n hx hb dX3_join_29 rfl (lv_at hl 2 rfl) ?_
          refine va_get (ci := 3) (v := .ref n2) (C := RX3) (T := TX3) (N := 7) hx hb hts (fun _ h => List.mem_cons_of_mem _ (List.mem_append_right _ h)) hown hK.1 hP 0 rfl rfl 3 (by decide) (hts (.fieldLink RX3 22 "CutAtlas$Net" "starts" "[I") (by decide +kernel)) (fun _ h9 => h9) rfl dX3_join_30 ?_
          refine lv_iload hx hb dX3_join_33 (lv_at hl 0 rfl) ?_
          have h_9 : vp_in x4_1 40 := in_I (by omega) (by omega)
          refine va_iald hx hb hK.1 hP 1 0 rfl rfl (i := x4_1) h_9 dX3_join_35 ?_
          refine lv_topi (fun y_10 ey_10 => ?_)
          have ry_10 := v2_1 _ (in_lt h_9)
          have jy_10 : y_10.toInt = (c_n2_1 x4_1.toNatClampNeg).toInt := by rw [ey_10]
          refine lv_iload_n hx hb dX3_join_36 rfl (lv_at hl 3 rfl) ?_
          refine lv_iload_n hx hb dX3_join_37 rfl (lv_at hl 4 rfl) ?_
          refine ct_R hP hD [] [] (by decide) rfl (fun hPc hDw => ?_)
          have hFc := va_free (wc := []) hD hS hA [] rfl
          refine va_calli (va_runS (As := [.int y_10, .int a1, .int a2]) (rest := [.int x4_1, .ref n2]) ⟨hx, hb, hml, hown, hts⟩ (c_X3_renumbered l D cy H.size y_10 a1 a2 (by first | with_reducible assumption | omega | assumption) (by first | with_reducible assumption | omega | assumption) (by first | with_reducible assumption | omega | assumption)) (va_cwS 3 hts gX3_join_X3_renumbered rfl rfl rfl (by decide +kernel) ⟨Nat.le_of_ble_eq_true rfl, Nat.le_of_ble_eq_true rfl⟩) ⟨bl_, fun U hU hW => ⟨rfl, by rw [hU], by rw [hU]; exact hPc, kk_mv hW hK, hDw⟩⟩ rfl rfl hl.1 rfl (lv_room (Nat.le_of_ble_eq_true rfl)) dX3_join_38 ⟨Nat.le_of_ble_eq_true rfl, Nat.le_of_ble_eq_true rfl⟩) hS (fun q _ h => hFc q h) hFc (fun r_11 u t H locs ht hvm hw hB hz1 hk1 hS => ?_)
          have hP : va_P D vwCl _ H := ro_keep hP hk1
          have f0_r_11 := hw
          have h_12 : vp_in x4_1 40 := in_I (by omega) (by omega)
          refine va_iast hx hb hK.1 hP hD hS 1 0 rfl rfl (i := x4_1) h_12 dX3_join_41 (fun H locs hP hD hS => ?_)
          obtain ⟨f_13, ef_13⟩ : ∃ g : Nat → Int32, g = upd c_n2_1 x4_1.toNatClampNeg r_11 := ⟨_, rfl⟩
          refine pd_K (D := D) (cl := vwCl) (H := H) (A := A) [(xn, .inr (3, [.int vp, .int vn, .ref n1, .ref n2, .ref n3, .ref n4, .ref n5])), (n2, .inl (cy 0, 40, .inl f_13)), (n3, .inl (cy 0, 40, .inl c_n3_1))] (by rw [ef_13]; exact hP) (by rw [ef_13]; exact hD) (fun hP hD => ?_)
          refine lv_aload_n hx hb dX3_join_42 rfl (lv_at hl 2 rfl) ?_
          refine va_get (ci := 3) (v := .ref n3) (C := RX3) (T := TX3) (N := 7) hx hb hts (fun _ h => List.mem_cons_of_mem _ (List.mem_append_right _ h)) hown hK.1 hP 0 rfl rfl 4 (by decide) (hts (.fieldLink RX3 25 "CutAtlas$Net" "ends" "[I") (by decide +kernel)) (fun _ h9 => h9) rfl dX3_join_43 ?_
          refine lv_iload hx hb dX3_join_46 (lv_at hl 0 rfl) ?_
          refine lv_aload_n hx hb dX3_join_48 rfl (lv_at hl 2 rfl) ?_
          refine va_get (ci := 3) (v := .ref n3) (C := RX3) (T := TX3) (N := 7) hx hb hts (fun _ h => List.mem_cons_of_mem _ (List.mem_append_right _ h)) hown hK.1 hP 0 rfl rfl 4 (by decide) (hts (.fieldLink RX3 25 "CutAtlas$Net" "ends" "[I") (by decide +kernel)) (fun _ h9 => h9) rfl dX3_join_49 ?_
          refine lv_iload hx hb dX3_join_52 (lv_at hl 0 rfl) ?_
          have h_14 : vp_in x4_1 40 := in_I (by omega) (by omega)
          refine va_iald hx hb hK.1 hP 2 0 rfl rfl (i := x4_1) h_14 dX3_join_54 ?_
          refine lv_topi (fun y_15 ey_15 => ?_)
          have ry_15 := v2_1 _ (in_lt h_14)
          have jy_15 : y_15.toInt = (c_n3_1 x4_1.toNatClampNeg).toInt := by rw [ey_15]
          refine lv_iload_n hx hb dX3_join_55 rfl (lv_at hl 3 rfl) ?_
          refine lv_iload_n hx hb dX3_join_56 rfl (lv_at hl 4 rfl) ?_
          refine ct_R hP hD [] [] (by decide) rfl (fun hPc hDw => ?_)
          have hFc := va_free (wc := []) hD hS hA [] rfl
          refine va_calli (va_runS (As := [.int y_15, .int a1, .int a2]) (rest := [.int x4_1, .ref n3]) ⟨hx, hb, hml, hown, hts⟩ (c_X3_renumbered l D cy H.size y_15 a1 a2 (by first | with_reducible assumption | omega | assumption) (by first | with_reducible assumption | omega | assumption) (by first | with_reducible assumption | omega | assumption)) (va_cwS 3 hts gX3_join_X3_renumbered rfl rfl rfl (by decide +kernel) ⟨Nat.le_of_ble_eq_true rfl, Nat.le_of_ble_eq_true rfl⟩) ⟨bl_, fun U hU hW => ⟨rfl, by rw [hU], by rw [hU]; exact hPc, kk_mv hW hK, hDw⟩⟩ rfl rfl hl.1 rfl (lv_room (Nat.le_of_ble_eq_true rfl)) dX3_join_57 ⟨Nat.le_of_ble_eq_true rfl, Nat.le_of_ble_eq_true rfl⟩) hS (fun q _ h => hFc q h) hFc (fun r_16 u t H locs ht hvm hw hB hz1 hk1 hS => ?_)
          have hP : va_P D vwCl _ H := ro_keep hP hk1
          have f0_r_16 := hw
          have h_17 : vp_in x4_1 40 := in_I (by omega) (by omega)
          refine va_iast hx hb hK.1 hP hD hS 2 0 rfl rfl (i := x4_1) h_17 dX3_join_60 (fun H locs hP hD hS => ?_)
          obtain ⟨f_18, ef_18⟩ : ∃ g : Nat → Int32, g = upd c_n3_1 x4_1.toNatClampNeg r_16 := ⟨_, rfl⟩
          refine pd_K (D := D) (cl := vwCl) (H := H) (A := A) [(xn, .inr (3, [.int vp, .int vn, .ref n1, .ref n2, .ref n3, .ref n4, .ref n5])), (n2, .inl (cy 0, 40, .inl f_13)), (n3, .inl (cy 0, 40, .inl f_18))] (by rw [ef_18]; exact hP) (by rw [ef_18]; exact hD) (fun hP hD => ?_)
          have pr_19 : prng f_13 f_18 40 := prng_st (by assumption) (by assumption) (by assumption) (by omega)
          refine lv_aload_n hx hb dX3_join_61 rfl (lv_at hl 2 rfl) ?_
          refine va_get (ci := 3) (v := .ref n2) (C := RX3) (T := TX3) (N := 7) hx hb hts (fun _ h => List.mem_cons_of_mem _ (List.mem_append_right _ h)) hown hK.1 hP 0 rfl rfl 3 (by decide) (hts (.fieldLink RX3 22 "CutAtlas$Net" "starts" "[I") (by decide +kernel)) (fun _ h9 => h9) rfl dX3_join_62 ?_
          refine lv_iload hx hb dX3_join_65 (lv_at hl 0 rfl) ?_
          have h_20 : vp_in x4_1 40 := in_I (by omega) (by omega)
          refine va_iald hx hb hK.1 hP 1 0 rfl rfl (i := x4_1) h_20 dX3_join_67 ?_
          refine lv_topi (fun y_21 ey_21 => ?_)
          have ry_21 := pr_19 _ (in_lt h_20)
          have jy_21 : y_21.toInt = (f_13 x4_1.toNatClampNeg).toInt := by rw [ey_21]
          refine lv_aload_n hx hb dX3_join_68 rfl (lv_at hl 2 rfl) ?_
          refine va_get (ci := 3) (v := .ref n3) (C := RX3) (T := TX3) (N := 7) hx hb hts (fun _ h => List.mem_cons_of_mem _ (List.mem_append_right _ h)) hown hK.1 hP 0 rfl rfl 4 (by decide) (hts (.fieldLink RX3 25 "CutAtlas$Net" "ends" "[I") (by decide +kernel)) (fun _ h9 => h9) rfl dX3_join_69 ?_
          refine lv_iload hx hb dX3_join_72 (lv_at hl 0 rfl) ?_
          have h_22 : vp_in x4_1 40 := in_I (by omega) (by omega)
          refine va_iald hx hb hK.1 hP 2 0 rfl rfl (i := x4_1) h_22 dX3_join_74 ?_
          refine lv_topi (fun y_23 ey_23 => ?_)
          have ry_23 := pr_19 _ (in_lt h_22)
          have jy_23 : y_23.toInt = (f_18 x4_1.toNatClampNeg).toInt := by rw [ey_23]
          refine lv_icmp_ne (tgt := 99) hx hb dX3_join_75 (by decide) (fun c_24 => ?_) (fun c_24 => ?_)
          · have t_24 : ¬ y_21.toInt = y_23.toInt := fun h => c_24 (Int32.toInt_inj.mp h)
            obtain ⟨y_25, ey_25⟩ : ∃ y : Int32, y = x4_1 + 1 := ⟨_, rfl⟩
            have ty_25 : y_25.toInt = x4_1.toInt + (1 : Int32).toInt := by rw [ey_25]; exact addI (by omega) (by omega)
            refine lv_iinc (v := y_25) (lv' := [(4, .int y_25), (3, .int x3_1), (0, .ref xn), (1, .int a1), (2, .int a2)]) hx hb dX3_join_99 hl (k := 0) rfl (by rw [ey_25]; rfl) (by decide) rfl (fun ls hl => ?_)
            refine lv_goto (tgt := 5) hx hb dX3_join_102 (by decide) ?_
            exact ih_1 y_25 x3_1 f_13 f_18 _ _ _ (by omega) (by first | with_reducible assumption | omega | assumption) (by first | with_reducible assumption | omega | assumption) (by first | with_reducible assumption | assumption | omega) (by first | with_reducible assumption | omega | assumption) (by first | with_reducible assumption | omega | assumption) hP hD hS (lv_sub hl [0, 1, 2, 3, 4] rfl)
          · have t_24 : y_21.toInt = y_23.toInt := congrArg Int32.toInt c_24
            refine lv_aload_n hx hb dX3_join_78 rfl (lv_at hl 2 rfl) ?_
            refine va_get (ci := 3) (v := .ref n2) (C := RX3) (T := TX3) (N := 7) hx hb hts (fun _ h => List.mem_cons_of_mem _ (List.mem_append_right _ h)) hown hK.1 hP 0 rfl rfl 3 (by decide) (hts (.fieldLink RX3 22 "CutAtlas$Net" "starts" "[I") (by decide +kernel)) (fun _ h9 => h9) rfl dX3_join_79 ?_
            refine lv_iload hx hb dX3_join_82 (lv_at hl 0 rfl) ?_
            refine lv_bipush (v := (-9)) hx hb dX3_join_84 (by decide) ?_
            have h_26 : vp_in x4_1 40 := in_I (by omega) (by omega)
            refine va_iast hx hb hK.1 hP hD hS 1 0 rfl rfl (i := x4_1) h_26 dX3_join_86 (fun H locs hP hD hS => ?_)
            obtain ⟨f_27, ef_27⟩ : ∃ g : Nat → Int32, g = upd f_13 x4_1.toNatClampNeg ((-9) : Int32) := ⟨_, rfl⟩
            refine pd_K (D := D) (cl := vwCl) (H := H) (A := A) [(xn, .inr (3, [.int vp, .int vn, .ref n1, .ref n2, .ref n3, .ref n4, .ref n5])), (n2, .inl (cy 0, 40, .inl f_27)), (n3, .inl (cy 0, 40, .inl f_18))] (by rw [ef_27]; exact hP) (by rw [ef_27]; exact hD) (fun hP hD => ?_)
            refine lv_aload_n hx hb dX3_join_87 rfl (lv_at hl 2 rfl) ?_
            refine va_get (ci := 3) (v := .ref n3) (C := RX3) (T := TX3) (N := 7) hx hb hts (fun _ h => List.mem_cons_of_mem _ (List.mem_append_right _ h)) hown hK.1 hP 0 rfl rfl 4 (by decide) (hts (.fieldLink RX3 25 "CutAtlas$Net" "ends" "[I") (by decide +kernel)) (fun _ h9 => h9) rfl dX3_join_88 ?_
            refine lv_iload hx hb dX3_join_91 (lv_at hl 0 rfl) ?_
            refine lv_bipush (v := (-9)) hx hb dX3_join_93 (by decide) ?_
            have h_28 : vp_in x4_1 40 := in_I (by omega) (by omega)
            refine va_iast hx hb hK.1 hP hD hS 2 0 rfl rfl (i := x4_1) h_28 dX3_join_95 (fun H locs hP hD hS => ?_)
            obtain ⟨f_29, ef_29⟩ : ∃ g : Nat → Int32, g = upd f_18 x4_1.toNatClampNeg ((-9) : Int32) := ⟨_, rfl⟩
            refine pd_K (D := D) (cl := vwCl) (H := H) (A := A) [(xn, .inr (3, [.int vp, .int vn, .ref n1, .ref n2, .ref n3, .ref n4, .ref n5])), (n2, .inl (cy 0, 40, .inl f_27)), (n3, .inl (cy 0, 40, .inl f_29))] (by rw [ef_29]; exact hP) (by rw [ef_29]; exact hD) (fun hP hD => ?_)
            have pr_30 : prng f_27 f_29 40 := prng_st (by assumption) (by assumption) (by assumption) (by omega)
            obtain ⟨y_31, ey_31⟩ : ∃ y : Int32, y = x3_1 + 1 := ⟨_, rfl⟩
            have ty_31 : y_31.toInt = x3_1.toInt + (1 : Int32).toInt := by rw [ey_31]; exact addI (by omega) (by omega)
            refine lv_iinc (v := y_31) (lv' := [(3, .int y_31), (4, .int x4_1), (0, .ref xn), (1, .int a1), (2, .int a2)]) hx hb dX3_join_96 hl (k := 1) rfl (by rw [ey_31]; rfl) (by decide) rfl (fun ls hl => ?_)
            obtain ⟨y_32, ey_32⟩ : ∃ y : Int32, y = x4_1 + 1 := ⟨_, rfl⟩
            have ty_32 : y_32.toInt = x4_1.toInt + (1 : Int32).toInt := by rw [ey_32]; exact addI (by omega) (by omega)
            refine lv_iinc (v := y_32) (lv' := [(4, .int y_32), (3, .int y_31), (0, .ref xn), (1, .int a1), (2, .int a2)]) hx hb dX3_join_99 hl (k := 1) rfl (by rw [ey_32]; rfl) (by decide) rfl (fun ls hl => ?_)
            refine lv_goto (tgt := 5) hx hb dX3_join_102 (by decide) ?_
            exact ih_1 y_32 y_31 f_27 f_29 _ _ _ (by omega) (by first | with_reducible assumption | omega | assumption) (by first | with_reducible assumption | omega | assumption) (by first | with_reducible assumption | assumption | omega) (by first | with_reducible assumption | omega | assumption) (by first | with_reducible assumption | omega | assumption) hP hD hS (lv_sub hl [0, 1, 2, 3, 4] rfl)
end

section
theorem num_eq {f : Nat → Int64} {i : Int32} {n : Int} {y : Int64} (e : y = f i.toNatClampNeg) (h : i.toInt = n) : y = f n.toNat := by
  rw [e, ← h]
  rfl

set_option maxHeartbeats 4000000 in
set_option maxRecDepth 100000 in
theorem c_X4_isThere (l : Launch) (D : va_G) (cy : Nat → ClassId) (sz : Nat) (mm : Nat) (ml : Nat) (mu : Nat) (mk : Int32) (mr : Int32) : Met l yX4_isThere wsX4_isThere ({ frames := 0, cells := 0, slots := 0, locals := 0 }) (va_Pc [.ref mm] (fun U => U.heap.size = sz ∧ va_P D vwCl [(mm, .inr (4, [.int mk, .int mr, .ref ml, .ref mu]))] U.heap ∧ kk_ D cy U ∧ va_D (fun _ => True) [(mm, .inr (4, [.int mk, .int mr, .ref ml, .ref mu]))])) (va_Qi (fun (r : Int32) (_ : Unit) => ((mr.toInt ≠ -9) ∧ r = 1) ∨ ((mr.toInt = -9) ∧ r = 0)) (fun (_ : Unit) (_ : State) => True) (va_A [] sz)) 0 0 (va_A [] sz) := by
  refine ofQ (cc := cX4_isThere) (maxL := 1) (ret := (some .boolean)) (by decide) rfl ?_
  intro p e s m args below meth c s₁ Q hQ B hml hv
  obtain ⟨rfl, hsz, hP, hK, hD0⟩ := hv
  have hx := B.exec
  have hb := B.bytes
  have hr := B.returns
  have hts := atoms_spec (ws := wsX4_isThere) B.pre
  have hown : s.vm.findClass RX4 = some m.cls := by have h_ := findClass_of_methodNamed B.named; exact h_
  have hlocks := B.notSynchronized
  subst hsz
  have hD : va_D (va_A [] s.heap.size) [] := dd_nil
  generalize hAe : va_A [] s.heap.size = A at hD hQ
  have hA : ∀ q : Nat, s.heap.size ≤ q → A q := fun q h => by rw [← hAe]; exact Or.inr h
  have hS : va_S A s.heap s.heap [] := va_S.rf
  have hl := lv_entry ([.ref mm]) (n := 1) (Nat.le_of_ble_eq_true rfl)
  rw [lg_entry_eq]
  generalize (lg_sl ([.ref mm]) ++ List.replicate (1 - (lg_sl ([.ref mm])).length) Slot.unset).toArray = ls at hl ⊢
  have hl : lv_has ls 1 [(0, .ref mm)] := hl
  have zm9 : ((-9) : Int32).toInt = -9 := by decide
  have z0 : (0 : Int32).toInt = 0 := by decide
  have z1 : (1 : Int32).toInt = 1 := by decide
  refine lv_aload_n hx hb dX4_isThere_0 rfl (lv_at hl 0 rfl) ?_
  refine va_get (ci := 4) (v := .int mr) (C := RX4) (T := TX4) (N := 4) hx hb hts (fun _ h => List.mem_cons_of_mem _ (List.mem_append_right _ h)) hown hK.1 hP 0 rfl rfl 1 (by decide) (hts (.fieldLink RX4 15 "CutAtlas$NumberMap" "rows" "I") (by decide +kernel)) (fun _ h9 => h9) rfl dX4_isThere_1 ?_
  refine lv_bipush (v := (-9)) hx hb dX4_isThere_4 (by decide) ?_
  refine lv_icmp_eq (tgt := 13) hx hb dX4_isThere_6 (by decide) (fun c_1 => ?_) (fun c_1 => ?_)
  · have t_1 : mr.toInt = ((-9) : Int32).toInt := congrArg Int32.toInt c_1
    refine lv_iconst (v := 0) hx hb dX4_isThere_13 (by decide) ?_
    rw [hQ]
    exact W.zret (ty := .boolean) (v := 0) hx hb hr (by decide) (fun t ht hW => ⟨⟨0, (), rfl, Or.inr (⟨by omega, rfl⟩), trivial⟩, hS.F ht⟩) hS.2.2 dX4_isThere_14
  · have t_1 : ¬ mr.toInt = ((-9) : Int32).toInt := fun h => c_1 (Int32.toInt_inj.mp h)
    refine lv_iconst (v := 1) hx hb dX4_isThere_9 (by decide) ?_
    refine lv_goto (tgt := 14) hx hb dX4_isThere_10 (by decide) ?_
    rw [hQ]
    exact W.zret (ty := .boolean) (v := 1) hx hb hr (by decide) (fun t ht hW => ⟨⟨1, (), rfl, Or.inl (⟨by omega, rfl⟩), trivial⟩, hS.F ht⟩) hS.2.2 dX4_isThere_14

set_option maxHeartbeats 4000000 in
set_option maxRecDepth 100000 in
theorem c_X4_hasRow (l : Launch) (D : va_G) (cy : Nat → ClassId) (sz : Nat) (mm : Nat) (ml : Nat) (mu : Nat) (mk : Int32) (mr : Int32) (a1 : Int32) : Met l yX4_hasRow wsX4_hasRow ({ frames := 0, cells := 0, slots := 0, locals := 0 }) (va_Pc [.ref mm, .int a1] (fun U => U.heap.size = sz ∧ va_P D vwCl [(mm, .inr (4, [.int mk, .int mr, .ref ml, .ref mu]))] U.heap ∧ kk_ D cy U ∧ va_D (fun _ => True) [(mm, .inr (4, [.int mk, .int mr, .ref ml, .ref mu]))])) (va_Qi (fun (r : Int32) (_ : Unit) => ((0 ≤ a1.toInt ∧ a1.toInt < mr.toInt) ∧ r = 1) ∨ ((¬ (0 ≤ a1.toInt ∧ a1.toInt < mr.toInt)) ∧ r = 0)) (fun (_ : Unit) (_ : State) => True) (va_A [] sz)) 0 0 (va_A [] sz) := by
  refine ofQ (cc := cX4_hasRow) (maxL := 2) (ret := (some .boolean)) (by decide) rfl ?_
  intro p e s m args below meth c s₁ Q hQ B hml hv
  obtain ⟨rfl, hsz, hP, hK, hD0⟩ := hv
  have hx := B.exec
  have hb := B.bytes
  have hr := B.returns
  have hts := atoms_spec (ws := wsX4_hasRow) B.pre
  have hown : s.vm.findClass RX4 = some m.cls := by have h_ := findClass_of_methodNamed B.named; exact h_
  have hlocks := B.notSynchronized
  subst hsz
  have hD : va_D (va_A [] s.heap.size) [] := dd_nil
  generalize hAe : va_A [] s.heap.size = A at hD hQ
  have hA : ∀ q : Nat, s.heap.size ≤ q → A q := fun q h => by rw [← hAe]; exact Or.inr h
  have hS : va_S A s.heap s.heap [] := va_S.rf
  have hl := lv_entry ([.ref mm, .int a1]) (n := 2) (Nat.le_of_ble_eq_true rfl)
  rw [lg_entry_eq]
  generalize (lg_sl ([.ref mm, .int a1]) ++ List.replicate (2 - (lg_sl ([.ref mm, .int a1])).length) Slot.unset).toArray = ls at hl ⊢
  have hl : lv_has ls 2 [(0, .ref mm), (1, .int a1)] := hl
  have z0 : (0 : Int32).toInt = 0 := by decide
  have z1 : (1 : Int32).toInt = 1 := by decide
  refine lv_iload_n hx hb dX4_hasRow_0 rfl (lv_at hl 1 rfl) ?_
  refine lv_if_lt (tgt := 16) hx hb dX4_hasRow_1 (by decide) (fun c_1 => ?_) (fun c_1 => ?_)
  · have t_1 : a1.toInt < (0 : Int32).toInt := Int32.lt_iff_toInt_lt.mp c_1
    refine lv_iconst (v := 0) hx hb dX4_hasRow_16 (by decide) ?_
    rw [hQ]
    exact W.zret (ty := .boolean) (v := 0) hx hb hr (by decide) (fun t ht hW => ⟨⟨0, (), rfl, Or.inr (⟨by omega, rfl⟩), trivial⟩, hS.F ht⟩) hS.2.2 dX4_hasRow_17
  · have t_1 : ¬ a1.toInt < (0 : Int32).toInt := fun h => c_1 (Int32.lt_iff_toInt_lt.mpr h)
    refine lv_iload_n hx hb dX4_hasRow_4 rfl (lv_at hl 1 rfl) ?_
    refine lv_aload_n hx hb dX4_hasRow_5 rfl (lv_at hl 0 rfl) ?_
    refine va_get (ci := 4) (v := .int mr) (C := RX4) (T := TX4) (N := 4) hx hb hts (fun _ h => List.mem_cons_of_mem _ (List.mem_append_right _ h)) hown hK.1 hP 0 rfl rfl 1 (by decide) (hts (.fieldLink RX4 15 "CutAtlas$NumberMap" "rows" "I") (by decide +kernel)) (fun _ h9 => h9) rfl dX4_hasRow_6 ?_
    refine lv_icmp_ge (tgt := 16) hx hb dX4_hasRow_9 (by decide) (fun c_2 => ?_) (fun c_2 => ?_)
    · have t_2 : mr.toInt ≤ a1.toInt := Int32.le_iff_toInt_le.mp c_2
      refine lv_iconst (v := 0) hx hb dX4_hasRow_16 (by decide) ?_
      rw [hQ]
      exact W.zret (ty := .boolean) (v := 0) hx hb hr (by decide) (fun t ht hW => ⟨⟨0, (), rfl, Or.inr (⟨by omega, rfl⟩), trivial⟩, hS.F ht⟩) hS.2.2 dX4_hasRow_17
    · have t_2 : ¬ mr.toInt ≤ a1.toInt := fun h => c_2 (Int32.le_iff_toInt_le.mpr h)
      refine lv_iconst (v := 1) hx hb dX4_hasRow_12 (by decide) ?_
      refine lv_goto (tgt := 17) hx hb dX4_hasRow_13 (by decide) ?_
      rw [hQ]
      exact W.zret (ty := .boolean) (v := 1) hx hb hr (by decide) (fun t ht hW => ⟨⟨1, (), rfl, Or.inl (⟨by omega, rfl⟩), trivial⟩, hS.F ht⟩) hS.2.2 dX4_hasRow_17

set_option maxHeartbeats 4000000 in
set_option maxRecDepth 100000 in
theorem c_X4_number (l : Launch) (D : va_G) (cy : Nat → ClassId) (sz : Nat) (mm : Nat) (ml : Nat) (mu : Nat) (mk : Int32) (mr : Int32) (fn : Nat → Int64) (a1 : Int32) (a2 : Int32) (q1 : 0 ≤ a1.toInt ∧ a1.toInt ≤ 5) (q2 : 0 ≤ a2.toInt ∧ a2.toInt ≤ 4) : Met l yX4_number wsX4_number ({ frames := 0, cells := 0, slots := 0, locals := 0 }) (va_Pc [.ref mm, .int a1, .int a2] (fun U => U.heap.size = sz ∧ va_P D vwCl [(mm, .inr (4, [.int mk, .int mr, .ref ml, .ref mu])), (mu, .inl (cy 1, 30, .inr (.inl fn)))] U.heap ∧ kk_ D cy U ∧ va_D (fun _ => True) [(mm, .inr (4, [.int mk, .int mr, .ref ml, .ref mu])), (mu, .inl (cy 1, 30, .inr (.inl fn)))])) (va_Ql (fun (r : Int64) (_ : Unit) => (r = fn (5 * a1.toInt + a2.toInt).toNat)) (fun (_ : Unit) (_ : State) => True) (va_A [] sz)) 0 0 (va_A [] sz) := by
  refine ofQ (cc := cX4_number) (maxL := 3) (ret := (some .long)) (by decide) rfl ?_
  intro p e s m args below meth c s₁ Q hQ B hml hv
  obtain ⟨rfl, hsz, hP, hK, hD0⟩ := hv
  have hx := B.exec
  have hb := B.bytes
  have hr := B.returns
  have hts := atoms_spec (ws := wsX4_number) B.pre
  have hown : s.vm.findClass RX4 = some m.cls := by have h_ := findClass_of_methodNamed B.named; exact h_
  have hlocks := B.notSynchronized
  subst hsz
  have hD : va_D (va_A [] s.heap.size) [] := dd_nil
  generalize hAe : va_A [] s.heap.size = A at hD hQ
  have hA : ∀ q : Nat, s.heap.size ≤ q → A q := fun q h => by rw [← hAe]; exact Or.inr h
  have hS : va_S A s.heap s.heap [] := va_S.rf
  have hl := lv_entry ([.ref mm, .int a1, .int a2]) (n := 3) (Nat.le_of_ble_eq_true rfl)
  rw [lg_entry_eq]
  generalize (lg_sl ([.ref mm, .int a1, .int a2]) ++ List.replicate (3 - (lg_sl ([.ref mm, .int a1, .int a2])).length) Slot.unset).toArray = ls at hl ⊢
  have hl : lv_has ls 3 [(0, .ref mm), (1, .int a1), (2, .int a2)] := hl
  have z5 : (5 : Int32).toInt = 5 := by decide
  refine lv_aload_n hx hb dX4_number_0 rfl (lv_at hl 0 rfl) ?_
  refine va_get (ci := 4) (v := .ref mu) (C := RX4) (T := TX4) (N := 4) hx hb hts (fun _ h => List.mem_cons_of_mem _ (List.mem_append_right _ h)) hown hK.1 hP 0 rfl rfl 3 (by decide) (hts (.fieldLink RX4 22 "CutAtlas$NumberMap" "numbers" "[J") (by decide +kernel)) (fun _ h9 => h9) rfl dX4_number_1 ?_
  refine lv_iload_n hx hb dX4_number_4 rfl (lv_at hl 1 rfl) ?_
  refine lv_iconst (v := 5) hx hb dX4_number_5 (by decide) ?_
  refine lv_imul hx hb dX4_number_6 ?_
  refine lv_topi (fun y_1 ey_1 => ?_)
  have ty_1 : y_1.toInt = 5 * a1.toInt := by rw [ey_1]; exact mulD (by decide) (by omega) (by omega)
  refine lv_iload_n hx hb dX4_number_7 rfl (lv_at hl 2 rfl) ?_
  refine lv_iadd hx hb dX4_number_8 ?_
  refine lv_topi (fun y_2 ey_2 => ?_)
  have ty_2 : y_2.toInt = y_1.toInt + a2.toInt := by rw [ey_2]; exact addI (by omega) (by omega)
  have h_3 : vp_in y_2 30 := in_I (by omega) (by omega)
  refine va_lald hx hb hK.1 hP 1 1 rfl rfl (i := y_2) h_3 dX4_number_9 ?_
  refine lv_topl (fun y_4 ey_4 => ?_)
  rw [hQ]
  exact W.lret (v := y_4) hx hb hr (fun t ht hW => ⟨⟨y_4, (), rfl, (num_eq (by assumption) (by omega)), trivial⟩, hS.F ht⟩) hS.2.2 dX4_number_10
end
