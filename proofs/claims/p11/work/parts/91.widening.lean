section
set_option maxHeartbeats 4000000 in
set_option maxRecDepth 100000 in
theorem c_X10_findPrices (l : Launch) (D : va_G) (cy : Nat → ClassId) (sz : Nat) (xw : Nat) (wpo : Nat) (wc : Nat) (wf : Nat) (xc : Nat) (xk : Nat) (clo : Nat) (cro : Nat) (c4 : Nat) (c5 : Nat) (c6 : Nat) (c7 : Nat) (c8 : Nat) (xn : Nat) (n1 : Nat) (n2 : Nat) (n3 : Nat) (n4 : Nat) (n5 : Nat) (vp : Int32) (vn : Int32) (fk : Nat → Int32) (fs : Nat → Int32) (fe : Nat → Int32) (fp : Nat → Int32) (rp : Nat → Nat) (Mp : Nat → Nat → Int32) (k0 : Nat) (k1 : Nat) (k2 : Nat) (k3 : Nat) (k4 : Nat) (hvp : 0 ≤ vp.toInt ∧ vp.toInt ≤ 12) (hvn : 0 ≤ vn.toInt ∧ vn.toInt ≤ 40) (hpr : prng fs fe 40) (r_fk : rng fk 40 (0) (4)) : Met l yX10_findPrices wsX10_findPrices ({ frames := 2, cells := 0, slots := 0, locals := 42 }) (va_Pc [.ref xw] (fun U => U.heap.size = sz ∧ va_P D vwCl [ob10_0_ xw xc xk wpo wc wf, ob0_0_ xc xn xk clo cro c4 c5 c6 c7 c8, ob3_0_ xn vp vn n1 n2 n3 n4 n5, ai_ cy n1 40 fk, ai_ cy n2 40 fs, ai_ cy n3 40 fe, ai_ cy n5 40 fp, aq_ cy 6 wpo 12 (gf_ rp), ai_ cy (rp 0) 12 (Mp 0), ai_ cy (rp 1) 12 (Mp 1), ai_ cy (rp 2) 12 (Mp 2), ai_ cy (rp 3) 12 (Mp 3), ai_ cy (rp 4) 12 (Mp 4), ai_ cy (rp 5) 12 (Mp 5), ai_ cy (rp 6) 12 (Mp 6), ai_ cy (rp 7) 12 (Mp 7), ai_ cy (rp 8) 12 (Mp 8), ai_ cy (rp 9) 12 (Mp 9), ai_ cy (rp 10) 12 (Mp 10), ai_ cy (rp 11) 12 (Mp 11), aq_ cy 3 xk 5 (kf_ k0 k1 k2 k3 k4), ob6_0_ k0, ob5_0_ k1, ob9_0_ k2, ob2_0_ k3, ob8_0_ k4] U.heap ∧ kg_ D cy U ∧ va_D (fun _ => True) [ob10_0_ xw xc xk wpo wc wf, ob0_0_ xc xn xk clo cro c4 c5 c6 c7 c8, ob3_0_ xn vp vn n1 n2 n3 n4 n5, ai_ cy n1 40 fk, ai_ cy n2 40 fs, ai_ cy n3 40 fe, ai_ cy n5 40 fp, aq_ cy 6 wpo 12 (gf_ rp), ai_ cy (rp 0) 12 (Mp 0), ai_ cy (rp 1) 12 (Mp 1), ai_ cy (rp 2) 12 (Mp 2), ai_ cy (rp 3) 12 (Mp 3), ai_ cy (rp 4) 12 (Mp 4), ai_ cy (rp 5) 12 (Mp 5), ai_ cy (rp 6) 12 (Mp 6), ai_ cy (rp 7) 12 (Mp 7), ai_ cy (rp 8) 12 (Mp 8), ai_ cy (rp 9) 12 (Mp 9), ai_ cy (rp 10) 12 (Mp 10), ai_ cy (rp 11) 12 (Mp 11), aq_ cy 3 xk 5 (kf_ k0 k1 k2 k3 k4), ob6_0_ k0, ob5_0_ k1, ob9_0_ k2, ob2_0_ k3, ob8_0_ k4])) (va_Qv (fun (_ : Unit) => True) (fun (_ : Unit) (t : State) => ∃ (eMp : Nat → Nat → Int32), va_P D vwCl [ob10_0_ xw xc xk wpo wc wf, ob0_0_ xc xn xk clo cro c4 c5 c6 c7 c8, ob3_0_ xn vp vn n1 n2 n3 n4 n5, ai_ cy n1 40 fk, ai_ cy n2 40 fs, ai_ cy n3 40 fe, ai_ cy n5 40 fp, aq_ cy 6 wpo 12 (gf_ rp), ai_ cy (rp 0) 12 (eMp 0), ai_ cy (rp 1) 12 (eMp 1), ai_ cy (rp 2) 12 (eMp 2), ai_ cy (rp 3) 12 (eMp 3), ai_ cy (rp 4) 12 (eMp 4), ai_ cy (rp 5) 12 (eMp 5), ai_ cy (rp 6) 12 (eMp 6), ai_ cy (rp 7) 12 (eMp 7), ai_ cy (rp 8) 12 (eMp 8), ai_ cy (rp 9) 12 (eMp 9), ai_ cy (rp 10) 12 (eMp 10), ai_ cy (rp 11) 12 (eMp 11), aq_ cy 3 xk 5 (kf_ k0 k1 k2 k3 k4), ob6_0_ k0, ob5_0_ k1, ob9_0_ k2, ob2_0_ k3, ob8_0_ k4] t.heap ∧ va_D (va_A [ob10_0_ xw xc xk wpo wc wf, ob0_0_ xc xn xk clo cro c4 c5 c6 c7 c8, ob3_0_ xn vp vn n1 n2 n3 n4 n5, ai_ cy n1 40 fk, ai_ cy n2 40 fs, ai_ cy n3 40 fe, ai_ cy n5 40 fp, aq_ cy 6 wpo 12 (gf_ rp), ai_ cy (rp 0) 12 (Mp 0), ai_ cy (rp 1) 12 (Mp 1), ai_ cy (rp 2) 12 (Mp 2), ai_ cy (rp 3) 12 (Mp 3), ai_ cy (rp 4) 12 (Mp 4), ai_ cy (rp 5) 12 (Mp 5), ai_ cy (rp 6) 12 (Mp 6), ai_ cy (rp 7) 12 (Mp 7), ai_ cy (rp 8) 12 (Mp 8), ai_ cy (rp 9) 12 (Mp 9), ai_ cy (rp 10) 12 (Mp 10), ai_ cy (rp 11) 12 (Mp 11), aq_ cy 3 xk 5 (kf_ k0 k1 k2 k3 k4), ob6_0_ k0, ob5_0_ k1, ob9_0_ k2, ob2_0_ k3, ob8_0_ k4] sz) [ob10_0_ xw xc xk wpo wc wf, ob0_0_ xc xn xk clo cro c4 c5 c6 c7 c8, ob3_0_ xn vp vn n1 n2 n3 n4 n5, ai_ cy n1 40 fk, ai_ cy n2 40 fs, ai_ cy n3 40 fe, ai_ cy n5 40 fp, aq_ cy 6 wpo 12 (gf_ rp), ai_ cy (rp 0) 12 (eMp 0), ai_ cy (rp 1) 12 (eMp 1), ai_ cy (rp 2) 12 (eMp 2), ai_ cy (rp 3) 12 (eMp 3), ai_ cy (rp 4) 12 (eMp 4), ai_ cy (rp 5) 12 (eMp 5), ai_ cy (rp 6) 12 (eMp 6), ai_ cy (rp 7) 12 (eMp 7), ai_ cy (rp 8) 12 (eMp 8), ai_ cy (rp 9) 12 (eMp 9), ai_ cy (rp 10) 12 (eMp 10), ai_ cy (rp 11) 12 (eMp 11), aq_ cy 3 xk 5 (kf_ k0 k1 k2 k3 k4), ob6_0_ k0, ob5_0_ k1, ob9_0_ k2, ob2_0_ k3, ob8_0_ k4]) (va_A [ob10_0_ xw xc xk wpo wc wf, ob0_0_ xc xn xk clo cro c4 c5 c6 c7 c8, ob3_0_ xn vp vn n1 n2 n3 n4 n5, ai_ cy n1 40 fk, ai_ cy n2 40 fs, ai_ cy n3 40 fe, ai_ cy n5 40 fp, aq_ cy 6 wpo 12 (gf_ rp), ai_ cy (rp 0) 12 (Mp 0), ai_ cy (rp 1) 12 (Mp 1), ai_ cy (rp 2) 12 (Mp 2), ai_ cy (rp 3) 12 (Mp 3), ai_ cy (rp 4) 12 (Mp 4), ai_ cy (rp 5) 12 (Mp 5), ai_ cy (rp 6) 12 (Mp 6), ai_ cy (rp 7) 12 (Mp 7), ai_ cy (rp 8) 12 (Mp 8), ai_ cy (rp 9) 12 (Mp 9), ai_ cy (rp 10) 12 (Mp 10), ai_ cy (rp 11) 12 (Mp 11), aq_ cy 3 xk 5 (kf_ k0 k1 k2 k3 k4), ob6_0_ k0, ob5_0_ k1, ob9_0_ k2, ob2_0_ k3, ob8_0_ k4] sz)) 0 0 (va_A [ob10_0_ xw xc xk wpo wc wf, ob0_0_ xc xn xk clo cro c4 c5 c6 c7 c8, ob3_0_ xn vp vn n1 n2 n3 n4 n5, ai_ cy n1 40 fk, ai_ cy n2 40 fs, ai_ cy n3 40 fe, ai_ cy n5 40 fp, aq_ cy 6 wpo 12 (gf_ rp), ai_ cy (rp 0) 12 (Mp 0), ai_ cy (rp 1) 12 (Mp 1), ai_ cy (rp 2) 12 (Mp 2), ai_ cy (rp 3) 12 (Mp 3), ai_ cy (rp 4) 12 (Mp 4), ai_ cy (rp 5) 12 (Mp 5), ai_ cy (rp 6) 12 (Mp 6), ai_ cy (rp 7) 12 (Mp 7), ai_ cy (rp 8) 12 (Mp 8), ai_ cy (rp 9) 12 (Mp 9), ai_ cy (rp 10) 12 (Mp 10), ai_ cy (rp 11) 12 (Mp 11), aq_ cy 3 xk 5 (kf_ k0 k1 k2 k3 k4), ob6_0_ k0, ob5_0_ k1, ob9_0_ k2, ob2_0_ k3, ob8_0_ k4] sz) := by
  refine ofQ (cc := cX10_findPrices) (maxL := 6) (ret := none) (by decide) rfl ?_
  intro p e s m args below meth c s₁ Q hQ B hml hv
  obtain ⟨rfl, hsz, hP, hK, hD0⟩ := hv
  have hG := hK.2
  have hK := hK.1
  have hx := B.exec
  have hb := B.bytes
  have hr := B.returns
  have hts := atoms_spec (ws := wsX10_findPrices) B.pre
  have hown : s.vm.findClass RX10 = some m.cls := by have h_ := findClass_of_methodNamed B.named; exact h_
  have hlocks := B.notSynchronized
  subst hsz
  have hD := hD0.self (sz := s.heap.size)
  generalize hAe : va_A [ob10_0_ xw xc xk wpo wc wf, ob0_0_ xc xn xk clo cro c4 c5 c6 c7 c8, ob3_0_ xn vp vn n1 n2 n3 n4 n5, ai_ cy n1 40 fk, ai_ cy n2 40 fs, ai_ cy n3 40 fe, ai_ cy n5 40 fp, aq_ cy 6 wpo 12 (gf_ rp), ai_ cy (rp 0) 12 (Mp 0), ai_ cy (rp 1) 12 (Mp 1), ai_ cy (rp 2) 12 (Mp 2), ai_ cy (rp 3) 12 (Mp 3), ai_ cy (rp 4) 12 (Mp 4), ai_ cy (rp 5) 12 (Mp 5), ai_ cy (rp 6) 12 (Mp 6), ai_ cy (rp 7) 12 (Mp 7), ai_ cy (rp 8) 12 (Mp 8), ai_ cy (rp 9) 12 (Mp 9), ai_ cy (rp 10) 12 (Mp 10), ai_ cy (rp 11) 12 (Mp 11), aq_ cy 3 xk 5 (kf_ k0 k1 k2 k3 k4), ob6_0_ k0, ob5_0_ k1, ob9_0_ k2, ob2_0_ k3, ob8_0_ k4] s.heap.size = A at hD hQ
  have hA : ∀ q : Nat, s.heap.size ≤ q → A q := fun q h => by rw [← hAe]; exact Or.inr h
  have hS : va_S A s.heap s.heap [] := va_S.rf
  have hl := lv_entry ([.ref xw]) (n := 6) (Nat.le_of_ble_eq_true rfl)
  rw [lg_entry_eq]
  generalize (lg_sl ([.ref xw]) ++ List.replicate (6 - (lg_sl ([.ref xw])).length) Slot.unset).toArray = ls at hl ⊢
  have hl : lv_has ls 6 [(0, .ref xw)] := hl
  have zm9 : ((-9) : Int32).toInt = -9 := by decide
  have z0 : (0 : Int32).toInt = 0 := by decide
  have z1 : (1 : Int32).toInt = 1 := by decide
  have z2 : (2 : Int32).toInt = 2 := by decide
  have z3 : (3 : Int32).toInt = 3 := by decide
  have z4 : (4 : Int32).toInt = 4 := by decide
  have z5 : (5 : Int32).toInt = 5 := by decide
  have z6 : (6 : Int32).toInt = 6 := by decide
  have z7 : (7 : Int32).toInt = 7 := by decide
  have z8 : (8 : Int32).toInt = 8 := by decide
  have z9 : (9 : Int32).toInt = 9 := by decide
  have z10 : (10 : Int32).toInt = 10 := by decide
  have z11 : (11 : Int32).toInt = 11 := by decide
  have z1000000000 : (1000000000 : Int32).toInt = 1000000000 := by decide
  refine lv_aload_n hx hb dB_36_2_3.1.1.1.1 rfl (lv_at hl 0 rfl) ?_
  refine va_get (ci := 10) (v := .ref xc) (C := RX10) (T := TX10) (N := 5) hx hb hts (fun _ h => List.mem_cons_of_mem _ (List.mem_append_left _ (List.mem_append_left _ (List.mem_append_right _ h)))) hown hK.1 hP 0 rfl rfl 0 (by decide) (hts (.fieldLink RX10 23 "CutAtlas$Widening" "current" "LCutAtlas$Current;") (List.mem_of_getElem? (i := 1) rfl)) (fun _ h9 => h9) rfl dB_36_2_3.1.1.1.2 ?_
  refine va_get (ci := 0) (v := .ref xn) (C := RX0) (T := TX0) (N := 9) hx hb hts (fun _ h => List.mem_cons_of_mem _ (List.mem_append_left _ (List.mem_append_right _ h))) hown hK.1 hP 1 rfl rfl 0 (by decide) (hts (.fieldLink RX10 47 "CutAtlas$Current" "net" "LCutAtlas$Net;") (List.mem_of_getElem? (i := 2) rfl)) (fun _ h9 => h9) rfl dB_36_2_3.1.1.2.1 ?_
  refine lv_astore_n (lv' := [(1, .ref xn), (0, .ref xw)]) hx hb dB_36_2_3.1.1.2.2 rfl hl (by decide) rfl (fun ls hl => ?_)
  refine lv_iconst (v := 0) hx hb dB_36_2_3.1.2.1.1 (by decide) ?_
  refine lv_istore_n (lv' := [(2, .int 0), (1, .ref xn), (0, .ref xw)]) hx hb dB_36_2_3.1.2.1.2 rfl hl (by decide) rfl (fun ls hl => ?_)
  suffices LOOP_1 : ∀ (n_1 : Nat) (x2_1 : Int32) (m_rp_1 : Nat → Nat → Int32) (H : Heap) (locs : List Loc) (ls : Array Slot), vp.toInt - x2_1.toInt < (n_1 : Int) → (0 ≤ x2_1.toInt) → (x2_1.toInt ≤ vp.toInt) → pd_2 D vwCl A [ob10_0_ xw xc xk wpo wc wf, ob0_0_ xc xn xk clo cro c4 c5 c6 c7 c8, ob3_0_ xn vp vn n1 n2 n3 n4 n5, ai_ cy n1 40 fk, ai_ cy n2 40 fs, ai_ cy n3 40 fe, ai_ cy n5 40 fp, aq_ cy 6 wpo 12 (gf_ rp), ai_ cy (rp 0) 12 (m_rp_1 0), ai_ cy (rp 1) 12 (m_rp_1 1), ai_ cy (rp 2) 12 (m_rp_1 2), ai_ cy (rp 3) 12 (m_rp_1 3), ai_ cy (rp 4) 12 (m_rp_1 4), ai_ cy (rp 5) 12 (m_rp_1 5), ai_ cy (rp 6) 12 (m_rp_1 6), ai_ cy (rp 7) 12 (m_rp_1 7), ai_ cy (rp 8) 12 (m_rp_1 8), ai_ cy (rp 9) 12 (m_rp_1 9), ai_ cy (rp 10) 12 (m_rp_1 10), ai_ cy (rp 11) 12 (m_rp_1 11), aq_ cy 3 xk 5 (kf_ k0 k1 k2 k3 k4), ob6_0_ k0, ob5_0_ k1, ob9_0_ k2, ob2_0_ k3, ob8_0_ k4] H → va_S A s.heap H locs → lv_has ls 6 [(2, .int x2_1), (1, .ref xn), (0, .ref xw)] → W p l e ({ frames := 2, cells := 0, slots := 0, locals := 42 } : Room) s m (([.ref xw] : List Value).toArray) below meth c H locs 0 0 Q (F0 m 10 ls []) from LOOP_1 ((vp.toInt - (0 : Int32).toInt).toNat + 1) (0 : Int32) Mp _ _ _ (by omega) (by first | with_reducible assumption | omega | assumption) (by first | with_reducible assumption | omega | assumption) ⟨hP, hD⟩ hS (lv_sub hl [0, 1, 2] rfl)
  intro n_1
  induction n_1 with
  | zero =>
    intro x2_1 m_rp_1 H locs ls hm v0_1 v1_1 hPD hS hl; obtain ⟨hP, hD⟩ := hPD
    exact absurd hm (by omega)
  | succ n_1 ih_1 =>
    intro x2_1 m_rp_1 H locs ls hm v0_1 v1_1 hPD hS hl; obtain ⟨hP, hD⟩ := hPD
    refine lv_iload_n hx hb dB_36_2_3.1.2.2.1 rfl (lv_at hl 0 rfl) ?_
    refine lv_aload_n hx hb dB_36_2_3.1.2.2.2 rfl (lv_at hl 1 rfl) ?_
    refine va_get (ci := 3) (v := .int vp) (C := RX3) (T := TX3) (N := 7) hx hb hts (fun _ h => List.mem_cons_of_mem _ (List.mem_append_right _ h)) hown hK.1 hP 2 rfl rfl 0 (by decide) (hts (.fieldLink RX10 53 "CutAtlas$Net" "places" "I") (List.mem_of_getElem? (i := 3) rfl)) (fun _ h9 => h9) rfl dB_36_2_3.2.1.1.1 ?_
    refine lv_icmp_ge (tgt := 35) hx hb dB_36_2_3.2.1.1.2 (by decide) (fun c_2 => ?_) (fun c_2 => ?_)
    · have t_2 : vp.toInt ≤ x2_1.toInt := Int32.le_iff_toInt_le.mp c_2
      refine lv_iconst (v := 0) hx hb dB_36_2_4.1.1.2.1 (by decide) ?_
      refine lv_istore_n (lv' := [(2, .int 0), (1, .ref xn), (0, .ref xw)]) hx hb dB_36_2_4.1.1.2.2 rfl hl (by decide) rfl (fun ls hl => ?_)
      suffices LOOP_3 : ∀ (n_3 : Nat) (x2_3 : Int32) (m_rp_3 : Nat → Nat → Int32) (H : Heap) (locs : List Loc) (ls : Array Slot), vn.toInt - x2_3.toInt < (n_3 : Int) → (0 ≤ x2_3.toInt) → (x2_3.toInt ≤ vn.toInt) → pd_2 D vwCl A [ob10_0_ xw xc xk wpo wc wf, ob0_0_ xc xn xk clo cro c4 c5 c6 c7 c8, ob3_0_ xn vp vn n1 n2 n3 n4 n5, ai_ cy n1 40 fk, ai_ cy n2 40 fs, ai_ cy n3 40 fe, ai_ cy n5 40 fp, aq_ cy 6 wpo 12 (gf_ rp), ai_ cy (rp 0) 12 (m_rp_3 0), ai_ cy (rp 1) 12 (m_rp_3 1), ai_ cy (rp 2) 12 (m_rp_3 2), ai_ cy (rp 3) 12 (m_rp_3 3), ai_ cy (rp 4) 12 (m_rp_3 4), ai_ cy (rp 5) 12 (m_rp_3 5), ai_ cy (rp 6) 12 (m_rp_3 6), ai_ cy (rp 7) 12 (m_rp_3 7), ai_ cy (rp 8) 12 (m_rp_3 8), ai_ cy (rp 9) 12 (m_rp_3 9), ai_ cy (rp 10) 12 (m_rp_3 10), ai_ cy (rp 11) 12 (m_rp_3 11), aq_ cy 3 xk 5 (kf_ k0 k1 k2 k3 k4), ob6_0_ k0, ob5_0_ k1, ob9_0_ k2, ob2_0_ k3, ob8_0_ k4] H → va_S A s.heap H locs → lv_has ls 6 [(2, .int x2_3), (1, .ref xn), (0, .ref xw)] → W p l e ({ frames := 2, cells := 0, slots := 0, locals := 42 } : Room) s m (([.ref xw] : List Value).toArray) below meth c H locs 0 0 Q (F0 m 37 ls []) from LOOP_3 ((vn.toInt - (0 : Int32).toInt).toNat + 1) (0 : Int32) m_rp_1 _ _ _ (by omega) (by first | with_reducible assumption | omega | assumption) (by first | with_reducible assumption | omega | assumption) ⟨hP, hD⟩ hS (lv_sub hl [0, 1, 2] rfl)
      intro n_3
      induction n_3 with
      | zero =>
        intro x2_3 m_rp_3 H locs ls hm v0_3 v1_3 hPD hS hl; obtain ⟨hP, hD⟩ := hPD
        exact absurd hm (by omega)
      | succ n_3 ih_3 =>
        intro x2_3 m_rp_3 H locs ls hm v0_3 v1_3 hPD hS hl; obtain ⟨hP, hD⟩ := hPD
        refine lv_iload_n hx hb dB_36_2_4.1.2.1.1 rfl (lv_at hl 0 rfl) ?_
        refine lv_aload_n hx hb dB_36_2_4.1.2.1.2 rfl (lv_at hl 1 rfl) ?_
        refine va_get (ci := 3) (v := .int vn) (C := RX3) (T := TX3) (N := 7) hx hb hts (fun _ h => List.mem_cons_of_mem _ (List.mem_append_right _ h)) hown hK.1 hP 2 rfl rfl 1 (by decide) (hts (.fieldLink RX10 65 "CutAtlas$Net" "lines" "I") (List.mem_of_getElem? (i := 6) rfl)) (fun _ h9 => h9) rfl dB_36_2_4.1.2.2.1 ?_
        refine lv_icmp_ge (tgt := 146) hx hb dB_36_2_4.1.2.2.2 (by decide) (fun c_4 => ?_) (fun c_4 => ?_)
        · have t_4 : vn.toInt ≤ x2_3.toInt := Int32.le_iff_toInt_le.mp c_4
          rw [hQ]
          exact W.vret hx hb hr (fun t ht hW => ⟨⟨(), rfl, trivial, m_rp_3, by rw [ht]; exact hP, hD⟩, hS.F ht⟩) hS.2.2 dB_36_2_8.2.2
        · have t_4 : ¬ vn.toInt ≤ x2_3.toInt := fun h => c_4 (Int32.le_iff_toInt_le.mpr h)
          refine lv_aload_n hx hb dB_36_2_4.2.1.1.1 rfl (lv_at hl 2 rfl) ?_
          refine va_get (ci := 10) (v := .ref xk) (C := RX10) (T := TX10) (N := 5) hx hb hts (fun _ h => List.mem_cons_of_mem _ (List.mem_append_left _ (List.mem_append_left _ (List.mem_append_right _ h)))) hown hK.1 hP 0 rfl rfl 1 (by decide) (hts (.fieldLink RX10 27 "CutAtlas$Widening" "kinds" "[LCutAtlas$PlainKind;") (List.mem_of_getElem? (i := 7) rfl)) (fun _ h9 => h9) rfl dB_36_2_4.2.1.1.2 ?_
          refine lv_aload_n hx hb dB_36_2_4.2.1.2.1 rfl (lv_at hl 1 rfl) ?_
          refine va_get (ci := 3) (v := .ref n1) (C := RX3) (T := TX3) (N := 7) hx hb hts (fun _ h => List.mem_cons_of_mem _ (List.mem_append_right _ h)) hown hK.1 hP 2 rfl rfl 2 (by decide) (hts (.fieldLink RX10 68 "CutAtlas$Net" "kinds" "[I") (List.mem_of_getElem? (i := 8) rfl)) (fun _ h9 => h9) rfl dB_36_2_4.2.1.2.2 ?_
          refine lv_iload_n hx hb dB_36_2_4.2.2.1.1 rfl (lv_at hl 0 rfl) ?_
          have h_5 : vp_in x2_3 40 := in_I (by first | with_reducible assumption | omega) (by omega)
          refine va_iald hx hb hK.1 hP 3 0 rfl rfl (i := x2_3) h_5 dB_36_2_4.2.2.1.2 ?_
          refine lv_topi (fun y_6 ey_6 => ?_)
          have ry_6 : 0 ≤ y_6.toInt ∧ y_6.toInt ≤ 4 := by rw [ey_6]; exact r_fk _ (in_lt h_5)
          rcases sp_5 (x := y_6) (by omega) with rfl | rfl | rfl | rfl | rfl
          · refine va_aldq hx hb hK.1 hP 20 3 rfl rfl (i := 0) (by unfold vp_in; decide) dB_36_2_4.2.2.2.1 ?_
            refine lv_topv (v' := .ref k0) (by simp [va_up, va_rf, mf_, cl_0, cl_1, cl_2, cl_3, cl_4, kf_]) ?_
            refine lv_aload_n hx hb dB_36_2_4.2.2.2.2 rfl (lv_at hl 1 rfl) ?_
            refine va_get (ci := 3) (v := .ref n5) (C := RX3) (T := TX3) (N := 7) hx hb hts (fun _ h => List.mem_cons_of_mem _ (List.mem_append_right _ h)) hown hK.1 hP 2 rfl rfl 6 (by decide) (hts (.fieldLink RX10 70 "CutAtlas$Net" "prices" "[I") (List.mem_of_getElem? (i := 9) rfl)) (fun _ h9 => h9) rfl dB_36_2_5.1.1.1.1 ?_
            refine lv_iload_n hx hb dB_36_2_5.1.1.1.2 rfl (lv_at hl 0 rfl) ?_
            refine va_iald hx hb hK.1 hP 6 0 rfl rfl (i := x2_3) h_5 dB_36_2_5.1.1.2.1 ?_
            refine lv_topi (fun y_8 ey_8 => ?_)
            refine ct_R hP hD [] [] (by decide) rfl (fun hPc hDw => ?_)
            have hFc := va_free (wc := []) hD hS hA [] rfl
            refine va_calli (va_runV (As := [.int y_8]) (rest := []) ⟨hx, hb, hml, hown, hts⟩ (c_X6_costs l D cy H.size k0 y_8) (cwV 1 hts gX10_findPrices_X6_costs rfl rfl rfl ⟨rfl, hd_X6_costs⟩ ⟨Nat.le_of_ble_eq_true rfl, Nat.le_of_ble_eq_true rfl⟩) ⟨bl_, va_recvX hK.1 hP (ci := 6) (q0 := 21) rfl rfl, fun U hU hW => ⟨rfl, by rw [hU], by rw [hU]; exact hPc, kk_mv hW hK, hDw⟩⟩ rfl rfl hl.1 rfl (lv_room (Nat.le_of_ble_eq_true rfl)) dB_36_2_5.1.1.2.2 ⟨Nat.le_of_ble_eq_true rfl, Nat.le_of_ble_eq_true rfl⟩) hS (fun q _ h => hFc q h) hFc (fun r_9 u t H locs ht hvm hw hB hz1 hk1 hS => ?_)
            have hP : va_P D vwCl _ H := ro_keep hP hk1
            have f0_r_9 := hw
            refine lv_istore_n (lv' := [(3, .int r_9), (2, .int x2_3), (1, .ref xn), (0, .ref xw)]) hx hb dB_36_2_5.1.2.1.1 rfl hl (by decide) rfl (fun ls hl => ?_)
            refine lv_iload_n hx hb dB_36_2_5.1.2.1.2 rfl (lv_at hl 0 rfl) ?_
            refine lv_bipush (v := (-9)) hx hb dB_36_2_5.1.2.2.1 (by decide) ?_
            refine lv_icmp_eq (tgt := 140) hx hb dB_36_2_5.1.2.2.2 (by decide) (fun c_10 => ?_) (fun c_10 => ?_)
            · have t_10 : r_9.toInt = ((-9) : Int32).toInt := congrArg Int32.toInt c_10
              obtain ⟨y_11, ey_11⟩ : ∃ y : Int32, y = x2_3 + 1 := ⟨_, rfl⟩
              have ty_11 : y_11.toInt = x2_3.toInt + (1 : Int32).toInt := by rw [ey_11]; exact addI (by omega) (by omega)
              refine lv_iinc (v := y_11) (lv' := [(2, .int y_11), (3, .int r_9), (1, .ref xn), (0, .ref xw)]) hx hb dB_36_2_8.1 hl (k := 1) rfl (by rw [ey_11]; rfl) (by decide) rfl (fun ls hl => ?_)
              refine lv_goto (tgt := 37) hx hb dB_36_2_8.2.1 (by decide) ?_
              exact ih_3 y_11 m_rp_3 _ _ _ (by omega) (by first | with_reducible assumption | omega | assumption) (by first | with_reducible assumption | omega | assumption) ⟨hP, hD⟩ hS (lv_sub hl [0, 2, 3] rfl)
            · have t_10 : ¬ r_9.toInt = ((-9) : Int32).toInt := fun h => c_10 (Int32.toInt_inj.mp h)
              refine lv_aload_n hx hb dB_36_2_5.2.1.1.1 rfl (lv_at hl 2 rfl) ?_
              refine lv_iload_n hx hb dB_36_2_5.2.1.1.2 rfl (lv_at hl 1 rfl) ?_
              refine ct_R hP hD [ob3_0_ xn vp vn n1 n2 n3 n4 n5, ai_ cy n2 40 fs] [2, 4] (by decide) rfl (fun hPc hDw => ?_)
              have hFc := va_free (wc := []) hD hS hA [] rfl
              refine va_calli (va_runV (As := [.int x2_3]) (rest := []) ⟨hx, hb, hml, hown, hts⟩ (c_X3_isMissing l D cy H.size xn n1 n2 n3 n4 n5 vp vn fs x2_3 (by first | with_reducible assumption | omega | assumption)) (cwV 1 hts gX10_findPrices_X3_isMissing rfl rfl rfl ⟨rfl, hd_X3_isMissing⟩ ⟨Nat.le_of_ble_eq_true rfl, Nat.le_of_ble_eq_true rfl⟩) ⟨bl_, va_recvX hK.1 hP (ci := 3) (q0 := 2) rfl rfl, fun U hU hW => ⟨rfl, by rw [hU], by rw [hU]; exact hPc, kk_mv hW hK, hDw⟩⟩ rfl rfl hl.1 rfl (lv_room (Nat.le_of_ble_eq_true rfl)) dB_36_2_5.2.1.2.1 ⟨Nat.le_of_ble_eq_true rfl, Nat.le_of_ble_eq_true rfl⟩) hS (fun q _ h => hFc q h) hFc (fun r_12 u t H locs ht hvm hw hB hz1 hk1 hS => ?_)
              have hP : va_P D vwCl _ H := ro_keep hP hk1
              rcases hw with ⟨w_13, e_⟩ | ⟨w_13, e_⟩
              · have e_ := e_.symm
                subst e_
                refine lv_if_ne (tgt := 140) hx hb dB_36_2_5.2.1.2.2 (by decide) (fun c_14 => ?_) (fun c_14 => ?_)
                · have _ := c_14
                  obtain ⟨y_15, ey_15⟩ : ∃ y : Int32, y = x2_3 + 1 := ⟨_, rfl⟩
                  have ty_15 : y_15.toInt = x2_3.toInt + (1 : Int32).toInt := by rw [ey_15]; exact addI (by omega) (by omega)
                  refine lv_iinc (v := y_15) (lv' := [(2, .int y_15), (3, .int r_9), (1, .ref xn), (0, .ref xw)]) hx hb dB_36_2_8.1 hl (k := 1) rfl (by rw [ey_15]; rfl) (by decide) rfl (fun ls hl => ?_)
                  refine lv_goto (tgt := 37) hx hb dB_36_2_8.2.1 (by decide) ?_
                  exact ih_3 y_15 m_rp_3 _ _ _ (by omega) (by first | with_reducible assumption | omega | assumption) (by first | with_reducible assumption | omega | assumption) ⟨hP, hD⟩ hS (lv_sub hl [0, 2, 3] rfl)
                · exact absurd c_14 (by decide)
              · have e_ := e_.symm
                subst e_
                refine lv_if_ne (tgt := 140) hx hb dB_36_2_5.2.1.2.2 (by decide) (fun c_16 => ?_) (fun c_16 => ?_)
                · exact absurd c_16 (by decide)
                · have _ := c_16
                  refine lv_aload_n hx hb dB_36_2_5.2.2.1.1 rfl (lv_at hl 2 rfl) ?_
                  refine va_get (ci := 3) (v := .ref n2) (C := RX3) (T := TX3) (N := 7) hx hb hts (fun _ h => List.mem_cons_of_mem _ (List.mem_append_right _ h)) hown hK.1 hP 2 rfl rfl 3 (by decide) (hts (.fieldLink RX10 81 "CutAtlas$Net" "starts" "[I") (List.mem_of_getElem? (i := 10) rfl)) (fun _ h9 => h9) rfl dB_36_2_5.2.2.1.2 ?_
                  refine lv_iload_n hx hb dB_36_2_5.2.2.2.1 rfl (lv_at hl 1 rfl) ?_
                  refine va_iald hx hb hK.1 hP 4 0 rfl rfl (i := x2_3) h_5 dB_36_2_5.2.2.2.2 ?_
                  refine lv_topi (fun y_18 ey_18 => ?_)
                  have ry_18 := hpr _ (in_lt h_5)
                  have jy_18 : y_18.toInt = (fs x2_3.toNatClampNeg).toInt := by rw [ey_18]
                  refine lv_istore (lv' := [(4, .int y_18), (3, .int r_9), (2, .int x2_3), (1, .ref xn), (0, .ref xw)]) hx hb dB_36_2_6.1.1.1.1 hl (by decide) rfl (fun ls hl => ?_)
                  refine lv_aload_n hx hb dB_36_2_6.1.1.1.2 rfl (lv_at hl 3 rfl) ?_
                  refine va_get (ci := 3) (v := .ref n3) (C := RX3) (T := TX3) (N := 7) hx hb hts (fun _ h => List.mem_cons_of_mem _ (List.mem_append_right _ h)) hown hK.1 hP 2 rfl rfl 4 (by decide) (hts (.fieldLink RX10 84 "CutAtlas$Net" "ends" "[I") (List.mem_of_getElem? (i := 11) rfl)) (fun _ h9 => h9) rfl dB_36_2_6.1.1.2.1 ?_
                  refine lv_iload_n hx hb dB_36_2_6.1.1.2.2 rfl (lv_at hl 2 rfl) ?_
                  refine va_iald hx hb hK.1 hP 5 0 rfl rfl (i := x2_3) h_5 dB_36_2_6.1.2.1.1 ?_
                  refine lv_topi (fun y_20 ey_20 => ?_)
                  have ry_20 := hpr _ (in_lt h_5)
                  have jy_20 : y_20.toInt = (fe x2_3.toNatClampNeg).toInt := by rw [ey_20]
                  refine lv_istore (lv' := [(5, .int y_20), (4, .int y_18), (3, .int r_9), (2, .int x2_3), (1, .ref xn), (0, .ref xw)]) hx hb dB_36_2_6.1.2.1.2 hl (by decide) rfl (fun ls hl => ?_)
                  refine lv_aload_n hx hb dB_36_2_6.1.2.2.1 rfl (lv_at hl 5 rfl) ?_
                  refine va_get (ci := 10) (v := .ref wpo) (C := RX10) (T := TX10) (N := 5) hx hb hts (fun _ h => List.mem_cons_of_mem _ (List.mem_append_left _ (List.mem_append_left _ (List.mem_append_right _ h)))) hown hK.1 hP 0 rfl rfl 2 (by decide) (hts (.fieldLink RX10 11 "CutAtlas$Widening" "prices" "[[I") (List.mem_of_getElem? (i := 4) rfl)) (fun _ h9 => h9) rfl dB_36_2_6.1.2.2.2 ?_
                  refine lv_iload hx hb dB_36_2_6.2.1.1.1 (lv_at hl 1 rfl) ?_
                  have h_21 : vp_in y_18 12 := in_I (by first | with_reducible assumption | omega) (by omega)
                  refine va_alda hx hb hG hP 7 rfl (i := y_18) h_21 dB_36_2_6.2.1.1.2 ?_
                  refine lv_topv (v' := .ref (rp y_18.toNatClampNeg)) (gf_at h_21) ?_
                  refine lv_iload hx hb dB_36_2_6.2.1.2.1 (lv_at hl 0 rfl) ?_
                  refine lv_aload_n hx hb dB_36_2_6.2.1.2.2 rfl (lv_at hl 5 rfl) ?_
                  refine va_get (ci := 10) (v := .ref wpo) (C := RX10) (T := TX10) (N := 5) hx hb hts (fun _ h => List.mem_cons_of_mem _ (List.mem_append_left _ (List.mem_append_left _ (List.mem_append_right _ h)))) hown hK.1 hP 0 rfl rfl 2 (by decide) (hts (.fieldLink RX10 11 "CutAtlas$Widening" "prices" "[[I") (List.mem_of_getElem? (i := 4) rfl)) (fun _ h9 => h9) rfl dB_36_2_6.2.2.1.1 ?_
                  refine lv_iload hx hb dB_36_2_6.2.2.1.2 (lv_at hl 1 rfl) ?_
                  refine va_alda hx hb hG hP 7 rfl (i := y_18) h_21 dB_36_2_6.2.2.2.1 ?_
                  refine lv_topv (v' := .ref (rp y_18.toNatClampNeg)) (gf_at h_21) ?_
                  refine lv_iload hx hb dB_36_2_6.2.2.2.2 (lv_at hl 0 rfl) ?_
                  have h_23 : vp_in y_20 12 := in_I (by first | with_reducible assumption | omega) (by omega)
                  have hPg : va_P D vwCl (([ob10_0_ xw xc xk wpo wc wf, ob0_0_ xc xn xk clo cro c4 c5 c6 c7 c8, ob3_0_ xn vp vn n1 n2 n3 n4 n5, ai_ cy n1 40 fk, ai_ cy n2 40 fs, ai_ cy n3 40 fe, ai_ cy n5 40 fp, aq_ cy 6 wpo 12 (gf_ rp)] : va_W) ++ (gro (cy 0) rp m_rp_3 ++ ([aq_ cy 3 xk 5 (kf_ k0 k1 k2 k3 k4), ob6_0_ k0, ob5_0_ k1, ob9_0_ k2, ob2_0_ k3, ob8_0_ k4] : va_W))) H := hP
                  refine va_gld (X := [ob10_0_ xw xc xk wpo wc wf, ob0_0_ xc xn xk clo cro c4 c5 c6 c7 c8, ob3_0_ xn vp vn n1 n2 n3 n4 n5, ai_ cy n1 40 fk, ai_ cy n2 40 fs, ai_ cy n3 40 fe, ai_ cy n5 40 fp, aq_ cy 6 wpo 12 (gf_ rp)]) (Y := [aq_ cy 3 xk 5 (kf_ k0 k1 k2 k3 k4), ob6_0_ k0, ob5_0_ k1, ob9_0_ k2, ob2_0_ k3, ob8_0_ k4]) (r := rp) (M := m_rp_3) (k := y_18.toNatClampNeg) hx hb hK.1 hPg 0 rfl (in_lt h_21) (i := y_20) h_23 dB_36_2_7.1.1.1.1 ?_
                  refine lv_topi (fun y_24 ey_24 => ?_)
                  refine lv_iload_n hx hb dB_36_2_7.1.1.1.2 rfl (lv_at hl 2 rfl) ?_
                  refine va_mmin hx hb (by rw [hml]; exact hl.1.symm) hown (hts (.methodLink RX10 87 Lib.Math.min.name) (pc_X10_findPrices wsX10_findPrices_r1 (List.mem_of_getElem? (i := 1) rfl) _ (List.mem_of_getElem? (i := 11) rfl))) (hts (.static Lib.Math.min.name) (pc_X10_findPrices wsX10_findPrices_r1 (List.mem_of_getElem? (i := 1) rfl) _ (List.mem_of_getElem? (i := 12) rfl))) (hts (.initialized "java/lang/Math") (pc_X10_findPrices wsX10_findPrices_r1 (List.mem_of_getElem? (i := 1) rfl) _ (List.mem_of_getElem? (i := 13) rfl))) (hts (.code Lib.Math.min.name Lib.Math.min.code 2 (some .int)) (pc_X10_findPrices wsX10_findPrices_r1 (List.mem_of_getElem? (i := 1) rfl) _ (List.mem_of_getElem? (i := 14) rfl))) (Nat.le_of_ble_eq_true rfl) (Nat.le_of_ble_eq_true rfl) (Nat.le_of_ble_eq_true rfl) (Nat.le_of_ble_eq_true rfl) dB_36_2_7.1.1.2.1 ?_
                  refine lv_topi (fun y_25 ey_25 => ?_)
                  have ty_25 : y_25 = y_24 ∨ y_25 = r_9 := by rw [ey_25]; split <;> simp
                  have iy_25 : y_25.toInt = y_24.toInt ∨ y_25.toInt = r_9.toInt := by rcases ty_25 with h | h <;> rw [h] <;> simp
                  have hPg : va_P D vwCl (([ob10_0_ xw xc xk wpo wc wf, ob0_0_ xc xn xk clo cro c4 c5 c6 c7 c8, ob3_0_ xn vp vn n1 n2 n3 n4 n5, ai_ cy n1 40 fk, ai_ cy n2 40 fs, ai_ cy n3 40 fe, ai_ cy n5 40 fp, aq_ cy 6 wpo 12 (gf_ rp)] : va_W) ++ (gro (cy 0) rp m_rp_3 ++ ([aq_ cy 3 xk 5 (kf_ k0 k1 k2 k3 k4), ob6_0_ k0, ob5_0_ k1, ob9_0_ k2, ob2_0_ k3, ob8_0_ k4] : va_W))) H := hP
                  have hDg : va_D A (([ob10_0_ xw xc xk wpo wc wf, ob0_0_ xc xn xk clo cro c4 c5 c6 c7 c8, ob3_0_ xn vp vn n1 n2 n3 n4 n5, ai_ cy n1 40 fk, ai_ cy n2 40 fs, ai_ cy n3 40 fe, ai_ cy n5 40 fp, aq_ cy 6 wpo 12 (gf_ rp)] : va_W) ++ (gro (cy 0) rp m_rp_3 ++ ([aq_ cy 3 xk 5 (kf_ k0 k1 k2 k3 k4), ob6_0_ k0, ob5_0_ k1, ob9_0_ k2, ob2_0_ k3, ob8_0_ k4] : va_W))) := hD
                  refine va_gst (X := [ob10_0_ xw xc xk wpo wc wf, ob0_0_ xc xn xk clo cro c4 c5 c6 c7 c8, ob3_0_ xn vp vn n1 n2 n3 n4 n5, ai_ cy n1 40 fk, ai_ cy n2 40 fs, ai_ cy n3 40 fe, ai_ cy n5 40 fp, aq_ cy 6 wpo 12 (gf_ rp)]) (Y := [aq_ cy 3 xk 5 (kf_ k0 k1 k2 k3 k4), ob6_0_ k0, ob5_0_ k1, ob9_0_ k2, ob2_0_ k3, ob8_0_ k4]) (r := rp) (M := m_rp_3) (k := y_18.toNatClampNeg) hx hb hK.1 hPg hDg hS 0 rfl (in_lt h_21) (i := y_20) h_23 dB_36_2_7.1.1.2.2 (fun H locs hP hD hS => ?_)
                  obtain ⟨M_27, eM_27⟩ : ∃ g : Nat → Nat → Int32, g = va_up m_rp_3 y_18.toNatClampNeg (upd (m_rp_3 y_18.toNatClampNeg) y_20.toNatClampNeg y_25) := ⟨_, rfl⟩
                  refine pd_K (D := D) (cl := vwCl) (H := H) (A := A) [ob10_0_ xw xc xk wpo wc wf, ob0_0_ xc xn xk clo cro c4 c5 c6 c7 c8, ob3_0_ xn vp vn n1 n2 n3 n4 n5, ai_ cy n1 40 fk, ai_ cy n2 40 fs, ai_ cy n3 40 fe, ai_ cy n5 40 fp, aq_ cy 6 wpo 12 (gf_ rp), ai_ cy (rp 0) 12 (M_27 0), ai_ cy (rp 1) 12 (M_27 1), ai_ cy (rp 2) 12 (M_27 2), ai_ cy (rp 3) 12 (M_27 3), ai_ cy (rp 4) 12 (M_27 4), ai_ cy (rp 5) 12 (M_27 5), ai_ cy (rp 6) 12 (M_27 6), ai_ cy (rp 7) 12 (M_27 7), ai_ cy (rp 8) 12 (M_27 8), ai_ cy (rp 9) 12 (M_27 9), ai_ cy (rp 10) 12 (M_27 10), ai_ cy (rp 11) 12 (M_27 11), aq_ cy 3 xk 5 (kf_ k0 k1 k2 k3 k4), ob6_0_ k0, ob5_0_ k1, ob9_0_ k2, ob2_0_ k3, ob8_0_ k4] (by rw [eM_27]; exact hP) (by rw [eM_27]; exact hD) (fun hP hD => ?_)
                  refine lv_aload_n hx hb dB_36_2_7.1.2.1.1 rfl (lv_at hl 5 rfl) ?_
                  refine va_get (ci := 10) (v := .ref wpo) (C := RX10) (T := TX10) (N := 5) hx hb hts (fun _ h => List.mem_cons_of_mem _ (List.mem_append_left _ (List.mem_append_left _ (List.mem_append_right _ h)))) hown hK.1 hP 0 rfl rfl 2 (by decide) (hts (.fieldLink RX10 11 "CutAtlas$Widening" "prices" "[[I") (List.mem_of_getElem? (i := 4) rfl)) (fun _ h9 => h9) rfl dB_36_2_7.1.2.1.2 ?_
                  refine lv_iload hx hb dB_36_2_7.1.2.2.1 (lv_at hl 0 rfl) ?_
                  refine va_alda hx hb hG hP 7 rfl (i := y_20) h_23 dB_36_2_7.1.2.2.2 ?_
                  refine lv_topv (v' := .ref (rp y_20.toNatClampNeg)) (gf_at h_23) ?_
                  refine lv_iload hx hb dB_36_2_7.2.1.1.1 (lv_at hl 1 rfl) ?_
                  refine lv_aload_n hx hb dB_36_2_7.2.1.1.2 rfl (lv_at hl 5 rfl) ?_
                  refine va_get (ci := 10) (v := .ref wpo) (C := RX10) (T := TX10) (N := 5) hx hb hts (fun _ h => List.mem_cons_of_mem _ (List.mem_append_left _ (List.mem_append_left _ (List.mem_append_right _ h)))) hown hK.1 hP 0 rfl rfl 2 (by decide) (hts (.fieldLink RX10 11 "CutAtlas$Widening" "prices" "[[I") (List.mem_of_getElem? (i := 4) rfl)) (fun _ h9 => h9) rfl dB_36_2_7.2.1.2.1 ?_
                  refine lv_iload hx hb dB_36_2_7.2.1.2.2 (lv_at hl 1 rfl) ?_
                  refine va_alda hx hb hG hP 7 rfl (i := y_18) h_21 dB_36_2_7.2.2.1.1 ?_
                  refine lv_topv (v' := .ref (rp y_18.toNatClampNeg)) (gf_at h_21) ?_
                  refine lv_iload hx hb dB_36_2_7.2.2.1.2 (lv_at hl 0 rfl) ?_
                  have hPg : va_P D vwCl (([ob10_0_ xw xc xk wpo wc wf, ob0_0_ xc xn xk clo cro c4 c5 c6 c7 c8, ob3_0_ xn vp vn n1 n2 n3 n4 n5, ai_ cy n1 40 fk, ai_ cy n2 40 fs, ai_ cy n3 40 fe, ai_ cy n5 40 fp, aq_ cy 6 wpo 12 (gf_ rp)] : va_W) ++ (gro (cy 0) rp M_27 ++ ([aq_ cy 3 xk 5 (kf_ k0 k1 k2 k3 k4), ob6_0_ k0, ob5_0_ k1, ob9_0_ k2, ob2_0_ k3, ob8_0_ k4] : va_W))) H := hP
                  refine va_gld (X := [ob10_0_ xw xc xk wpo wc wf, ob0_0_ xc xn xk clo cro c4 c5 c6 c7 c8, ob3_0_ xn vp vn n1 n2 n3 n4 n5, ai_ cy n1 40 fk, ai_ cy n2 40 fs, ai_ cy n3 40 fe, ai_ cy n5 40 fp, aq_ cy 6 wpo 12 (gf_ rp)]) (Y := [aq_ cy 3 xk 5 (kf_ k0 k1 k2 k3 k4), ob6_0_ k0, ob5_0_ k1, ob9_0_ k2, ob2_0_ k3, ob8_0_ k4]) (r := rp) (M := M_27) (k := y_18.toNatClampNeg) hx hb hK.1 hPg 0 rfl (in_lt h_21) (i := y_20) h_23 dB_36_2_7.2.2.2.1 ?_
                  refine lv_topi (fun y_31 ey_31 => ?_)
                  have hPg : va_P D vwCl (([ob10_0_ xw xc xk wpo wc wf, ob0_0_ xc xn xk clo cro c4 c5 c6 c7 c8, ob3_0_ xn vp vn n1 n2 n3 n4 n5, ai_ cy n1 40 fk, ai_ cy n2 40 fs, ai_ cy n3 40 fe, ai_ cy n5 40 fp, aq_ cy 6 wpo 12 (gf_ rp)] : va_W) ++ (gro (cy 0) rp M_27 ++ ([aq_ cy 3 xk 5 (kf_ k0 k1 k2 k3 k4), ob6_0_ k0, ob5_0_ k1, ob9_0_ k2, ob2_0_ k3, ob8_0_ k4] : va_W))) H := hP
                  have hDg : va_D A (([ob10_0_ xw xc xk wpo wc wf, ob0_0_ xc xn xk clo cro c4 c5 c6 c7 c8, ob3_0_ xn vp vn n1 n2 n3 n4 n5, ai_ cy n1 40 fk, ai_ cy n2 40 fs, ai_ cy n3 40 fe, ai_ cy n5 40 fp, aq_ cy 6 wpo 12 (gf_ rp)] : va_W) ++ (gro (cy 0) rp M_27 ++ ([aq_ cy 3 xk 5 (kf_ k0 k1 k2 k3 k4), ob6_0_ k0, ob5_0_ k1, ob9_0_ k2, ob2_0_ k3, ob8_0_ k4] : va_W))) := hD
                  refine va_gst (X := [ob10_0_ xw xc xk wpo wc wf, ob0_0_ xc xn xk clo cro c4 c5 c6 c7 c8, ob3_0_ xn vp vn n1 n2 n3 n4 n5, ai_ cy n1 40 fk, ai_ cy n2 40 fs, ai_ cy n3 40 fe, ai_ cy n5 40 fp, aq_ cy 6 wpo 12 (gf_ rp)]) (Y := [aq_ cy 3 xk 5 (kf_ k0 k1 k2 k3 k4), ob6_0_ k0, ob5_0_ k1, ob9_0_ k2, ob2_0_ k3, ob8_0_ k4]) (r := rp) (M := M_27) (k := y_20.toNatClampNeg) hx hb hK.1 hPg hDg hS 0 rfl (in_lt h_23) (i := y_18) h_21 dB_36_2_7.2.2.2.2 (fun H locs hP hD hS => ?_)
                  obtain ⟨M_33, eM_33⟩ : ∃ g : Nat → Nat → Int32, g = va_up M_27 y_20.toNatClampNeg (upd (M_27 y_20.toNatClampNeg) y_18.toNatClampNeg y_31) := ⟨_, rfl⟩
                  refine pd_K (D := D) (cl := vwCl) (H := H) (A := A) [ob10_0_ xw xc xk wpo wc wf, ob0_0_ xc xn xk clo cro c4 c5 c6 c7 c8, ob3_0_ xn vp vn n1 n2 n3 n4 n5, ai_ cy n1 40 fk, ai_ cy n2 40 fs, ai_ cy n3 40 fe, ai_ cy n5 40 fp, aq_ cy 6 wpo 12 (gf_ rp), ai_ cy (rp 0) 12 (M_33 0), ai_ cy (rp 1) 12 (M_33 1), ai_ cy (rp 2) 12 (M_33 2), ai_ cy (rp 3) 12 (M_33 3), ai_ cy (rp 4) 12 (M_33 4), ai_ cy (rp 5) 12 (M_33 5), ai_ cy (rp 6) 12 (M_33 6), ai_ cy (rp 7) 12 (M_33 7), ai_ cy (rp 8) 12 (M_33 8), ai_ cy (rp 9) 12 (M_33 9), ai_ cy (rp 10) 12 (M_33 10), ai_ cy (rp 11) 12 (M_33 11), aq_ cy 3 xk 5 (kf_ k0 k1 k2 k3 k4), ob6_0_ k0, ob5_0_ k1, ob9_0_ k2, ob2_0_ k3, ob8_0_ k4] (by rw [eM_33]; exact hP) (by rw [eM_33]; exact hD) (fun hP hD => ?_)
                  obtain ⟨y_34, ey_34⟩ : ∃ y : Int32, y = x2_3 + 1 := ⟨_, rfl⟩
                  have ty_34 : y_34.toInt = x2_3.toInt + (1 : Int32).toInt := by rw [ey_34]; exact addI (by omega) (by omega)
                  refine lv_iinc (v := y_34) (lv' := [(2, .int y_34), (5, .int y_20), (4, .int y_18), (3, .int r_9), (1, .ref xn), (0, .ref xw)]) hx hb dB_36_2_8.1 hl (k := 3) rfl (by rw [ey_34]; rfl) (by decide) rfl (fun ls hl => ?_)
                  refine lv_goto (tgt := 37) hx hb dB_36_2_8.2.1 (by decide) ?_
                  exact ih_3 y_34 M_33 _ _ _ (by omega) (by first | with_reducible assumption | omega | assumption) (by first | with_reducible assumption | omega | assumption) ⟨hP, hD⟩ hS (lv_sub hl [0, 4, 5] rfl)
          · refine va_aldq hx hb hK.1 hP 20 3 rfl rfl (i := 1) (by unfold vp_in; decide) dB_36_2_4.2.2.2.1 ?_
            refine lv_topv (v' := .ref k1) (by simp [va_up, va_rf, mf_, cl_0, cl_1, cl_2, cl_3, cl_4, kf_]) ?_
            refine lv_aload_n hx hb dB_36_2_4.2.2.2.2 rfl (lv_at hl 1 rfl) ?_
            refine va_get (ci := 3) (v := .ref n5) (C := RX3) (T := TX3) (N := 7) hx hb hts (fun _ h => List.mem_cons_of_mem _ (List.mem_append_right _ h)) hown hK.1 hP 2 rfl rfl 6 (by decide) (hts (.fieldLink RX10 70 "CutAtlas$Net" "prices" "[I") (List.mem_of_getElem? (i := 9) rfl)) (fun _ h9 => h9) rfl dB_36_2_5.1.1.1.1 ?_
            refine lv_iload_n hx hb dB_36_2_5.1.1.1.2 rfl (lv_at hl 0 rfl) ?_
            refine va_iald hx hb hK.1 hP 6 0 rfl rfl (i := x2_3) h_5 dB_36_2_5.1.1.2.1 ?_
            refine lv_topi (fun y_36 ey_36 => ?_)
            refine ct_R hP hD [] [] (by decide) rfl (fun hPc hDw => ?_)
            have hFc := va_free (wc := []) hD hS hA [] rfl
            refine va_calli (va_runU (As := [.int y_36]) (rest := []) ⟨hx, hb, hml, hown, hts⟩ (c_X6_costs l D cy H.size k1 y_36) (va_cwU 1 hts gX10_findPrices_X6_costs_u72X5 rfl rfl rfl rfl (by decide +kernel) ⟨Nat.le_of_ble_eq_true rfl, Nat.le_of_ble_eq_true rfl⟩) ⟨bl_, va_recvX hK.1 hP (ci := 5) (q0 := 22) rfl rfl, fun U hU hW => ⟨rfl, by rw [hU], by rw [hU]; exact hPc, kk_mv hW hK, hDw⟩⟩ rfl rfl hl.1 rfl (lv_room (Nat.le_of_ble_eq_true rfl)) dB_36_2_5.1.1.2.2 ⟨Nat.le_of_ble_eq_true rfl, Nat.le_of_ble_eq_true rfl⟩) hS (fun q _ h => hFc q h) hFc (fun r_37 u t H locs ht hvm hw hB hz1 hk1 hS => ?_)
            have hP : va_P D vwCl _ H := ro_keep hP hk1
            have f0_r_37 := hw
            refine lv_istore_n (lv' := [(3, .int r_37), (2, .int x2_3), (1, .ref xn), (0, .ref xw)]) hx hb dB_36_2_5.1.2.1.1 rfl hl (by decide) rfl (fun ls hl => ?_)
            refine lv_iload_n hx hb dB_36_2_5.1.2.1.2 rfl (lv_at hl 0 rfl) ?_
            refine lv_bipush (v := (-9)) hx hb dB_36_2_5.1.2.2.1 (by decide) ?_
            refine lv_icmp_eq (tgt := 140) hx hb dB_36_2_5.1.2.2.2 (by decide) (fun c_38 => ?_) (fun c_38 => ?_)
            · have t_38 : r_37.toInt = ((-9) : Int32).toInt := congrArg Int32.toInt c_38
              obtain ⟨y_39, ey_39⟩ : ∃ y : Int32, y = x2_3 + 1 := ⟨_, rfl⟩
              have ty_39 : y_39.toInt = x2_3.toInt + (1 : Int32).toInt := by rw [ey_39]; exact addI (by omega) (by omega)
              refine lv_iinc (v := y_39) (lv' := [(2, .int y_39), (3, .int r_37), (1, .ref xn), (0, .ref xw)]) hx hb dB_36_2_8.1 hl (k := 1) rfl (by rw [ey_39]; rfl) (by decide) rfl (fun ls hl => ?_)
              refine lv_goto (tgt := 37) hx hb dB_36_2_8.2.1 (by decide) ?_
              exact ih_3 y_39 m_rp_3 _ _ _ (by omega) (by first | with_reducible assumption | omega | assumption) (by first | with_reducible assumption | omega | assumption) ⟨hP, hD⟩ hS (lv_sub hl [0, 2, 3] rfl)
            · have t_38 : ¬ r_37.toInt = ((-9) : Int32).toInt := fun h => c_38 (Int32.toInt_inj.mp h)
              refine lv_aload_n hx hb dB_36_2_5.2.1.1.1 rfl (lv_at hl 2 rfl) ?_
              refine lv_iload_n hx hb dB_36_2_5.2.1.1.2 rfl (lv_at hl 1 rfl) ?_
              refine ct_R hP hD [ob3_0_ xn vp vn n1 n2 n3 n4 n5, ai_ cy n2 40 fs] [2, 4] (by decide) rfl (fun hPc hDw => ?_)
              have hFc := va_free (wc := []) hD hS hA [] rfl
              refine va_calli (va_runV (As := [.int x2_3]) (rest := []) ⟨hx, hb, hml, hown, hts⟩ (c_X3_isMissing l D cy H.size xn n1 n2 n3 n4 n5 vp vn fs x2_3 (by first | with_reducible assumption | omega | assumption)) (cwV 1 hts gX10_findPrices_X3_isMissing rfl rfl rfl ⟨rfl, hd_X3_isMissing⟩ ⟨Nat.le_of_ble_eq_true rfl, Nat.le_of_ble_eq_true rfl⟩) ⟨bl_, va_recvX hK.1 hP (ci := 3) (q0 := 2) rfl rfl, fun U hU hW => ⟨rfl, by rw [hU], by rw [hU]; exact hPc, kk_mv hW hK, hDw⟩⟩ rfl rfl hl.1 rfl (lv_room (Nat.le_of_ble_eq_true rfl)) dB_36_2_5.2.1.2.1 ⟨Nat.le_of_ble_eq_true rfl, Nat.le_of_ble_eq_true rfl⟩) hS (fun q _ h => hFc q h) hFc (fun r_40 u t H locs ht hvm hw hB hz1 hk1 hS => ?_)
              have hP : va_P D vwCl _ H := ro_keep hP hk1
              rcases hw with ⟨w_41, e_⟩ | ⟨w_41, e_⟩
              · have e_ := e_.symm
                subst e_
                refine lv_if_ne (tgt := 140) hx hb dB_36_2_5.2.1.2.2 (by decide) (fun c_42 => ?_) (fun c_42 => ?_)
                · have _ := c_42
                  obtain ⟨y_43, ey_43⟩ : ∃ y : Int32, y = x2_3 + 1 := ⟨_, rfl⟩
                  have ty_43 : y_43.toInt = x2_3.toInt + (1 : Int32).toInt := by rw [ey_43]; exact addI (by omega) (by omega)
                  refine lv_iinc (v := y_43) (lv' := [(2, .int y_43), (3, .int r_37), (1, .ref xn), (0, .ref xw)]) hx hb dB_36_2_8.1 hl (k := 1) rfl (by rw [ey_43]; rfl) (by decide) rfl (fun ls hl => ?_)
                  refine lv_goto (tgt := 37) hx hb dB_36_2_8.2.1 (by decide) ?_
                  exact ih_3 y_43 m_rp_3 _ _ _ (by omega) (by first | with_reducible assumption | omega | assumption) (by first | with_reducible assumption | omega | assumption) ⟨hP, hD⟩ hS (lv_sub hl [0, 2, 3] rfl)
                · exact absurd c_42 (by decide)
              · have e_ := e_.symm
                subst e_
                refine lv_if_ne (tgt := 140) hx hb dB_36_2_5.2.1.2.2 (by decide) (fun c_44 => ?_) (fun c_44 => ?_)
                · exact absurd c_44 (by decide)
                · have _ := c_44
                  refine lv_aload_n hx hb dB_36_2_5.2.2.1.1 rfl (lv_at hl 2 rfl) ?_
                  refine va_get (ci := 3) (v := .ref n2) (C := RX3) (T := TX3) (N := 7) hx hb hts (fun _ h => List.mem_cons_of_mem _ (List.mem_append_right _ h)) hown hK.1 hP 2 rfl rfl 3 (by decide) (hts (.fieldLink RX10 81 "CutAtlas$Net" "starts" "[I") (List.mem_of_getElem? (i := 10) rfl)) (fun _ h9 => h9) rfl dB_36_2_5.2.2.1.2 ?_
                  refine lv_iload_n hx hb dB_36_2_5.2.2.2.1 rfl (lv_at hl 1 rfl) ?_
                  refine va_iald hx hb hK.1 hP 4 0 rfl rfl (i := x2_3) h_5 dB_36_2_5.2.2.2.2 ?_
                  refine lv_topi (fun y_46 ey_46 => ?_)
                  have ry_46 := hpr _ (in_lt h_5)
                  have jy_46 : y_46.toInt = (fs x2_3.toNatClampNeg).toInt := by rw [ey_46]
                  refine lv_istore (lv' := [(4, .int y_46), (3, .int r_37), (2, .int x2_3), (1, .ref xn), (0, .ref xw)]) hx hb dB_36_2_6.1.1.1.1 hl (by decide) rfl (fun ls hl => ?_)
                  refine lv_aload_n hx hb dB_36_2_6.1.1.1.2 rfl (lv_at hl 3 rfl) ?_
                  refine va_get (ci := 3) (v := .ref n3) (C := RX3) (T := TX3) (N := 7) hx hb hts (fun _ h => List.mem_cons_of_mem _ (List.mem_append_right _ h)) hown hK.1 hP 2 rfl rfl 4 (by decide) (hts (.fieldLink RX10 84 "CutAtlas$Net" "ends" "[I") (List.mem_of_getElem? (i := 11) rfl)) (fun _ h9 => h9) rfl dB_36_2_6.1.1.2.1 ?_
                  refine lv_iload_n hx hb dB_36_2_6.1.1.2.2 rfl (lv_at hl 2 rfl) ?_
                  refine va_iald hx hb hK.1 hP 5 0 rfl rfl (i := x2_3) h_5 dB_36_2_6.1.2.1.1 ?_
                  refine lv_topi (fun y_48 ey_48 => ?_)
                  have ry_48 := hpr _ (in_lt h_5)
                  have jy_48 : y_48.toInt = (fe x2_3.toNatClampNeg).toInt := by rw [ey_48]
                  refine lv_istore (lv' := [(5, .int y_48), (4, .int y_46), (3, .int r_37), (2, .int x2_3), (1, .ref xn), (0, .ref xw)]) hx hb dB_36_2_6.1.2.1.2 hl (by decide) rfl (fun ls hl => ?_)
                  refine lv_aload_n hx hb dB_36_2_6.1.2.2.1 rfl (lv_at hl 5 rfl) ?_
                  refine va_get (ci := 10) (v := .ref wpo) (C := RX10) (T := TX10) (N := 5) hx hb hts (fun _ h => List.mem_cons_of_mem _ (List.mem_append_left _ (List.mem_append_left _ (List.mem_append_right _ h)))) hown hK.1 hP 0 rfl rfl 2 (by decide) (hts (.fieldLink RX10 11 "CutAtlas$Widening" "prices" "[[I") (List.mem_of_getElem? (i := 4) rfl)) (fun _ h9 => h9) rfl dB_36_2_6.1.2.2.2 ?_
                  refine lv_iload hx hb dB_36_2_6.2.1.1.1 (lv_at hl 1 rfl) ?_
                  have h_49 : vp_in y_46 12 := in_I (by first | with_reducible assumption | omega) (by omega)
                  refine va_alda hx hb hG hP 7 rfl (i := y_46) h_49 dB_36_2_6.2.1.1.2 ?_
                  refine lv_topv (v' := .ref (rp y_46.toNatClampNeg)) (gf_at h_49) ?_
                  refine lv_iload hx hb dB_36_2_6.2.1.2.1 (lv_at hl 0 rfl) ?_
                  refine lv_aload_n hx hb dB_36_2_6.2.1.2.2 rfl (lv_at hl 5 rfl) ?_
                  refine va_get (ci := 10) (v := .ref wpo) (C := RX10) (T := TX10) (N := 5) hx hb hts (fun _ h => List.mem_cons_of_mem _ (List.mem_append_left _ (List.mem_append_left _ (List.mem_append_right _ h)))) hown hK.1 hP 0 rfl rfl 2 (by decide) (hts (.fieldLink RX10 11 "CutAtlas$Widening" "prices" "[[I") (List.mem_of_getElem? (i := 4) rfl)) (fun _ h9 => h9) rfl dB_36_2_6.2.2.1.1 ?_
                  refine lv_iload hx hb dB_36_2_6.2.2.1.2 (lv_at hl 1 rfl) ?_
                  refine va_alda hx hb hG hP 7 rfl (i := y_46) h_49 dB_36_2_6.2.2.2.1 ?_
                  refine lv_topv (v' := .ref (rp y_46.toNatClampNeg)) (gf_at h_49) ?_
                  refine lv_iload hx hb dB_36_2_6.2.2.2.2 (lv_at hl 0 rfl) ?_
                  have h_51 : vp_in y_48 12 := in_I (by first | with_reducible assumption | omega) (by omega)
                  have hPg : va_P D vwCl (([ob10_0_ xw xc xk wpo wc wf, ob0_0_ xc xn xk clo cro c4 c5 c6 c7 c8, ob3_0_ xn vp vn n1 n2 n3 n4 n5, ai_ cy n1 40 fk, ai_ cy n2 40 fs, ai_ cy n3 40 fe, ai_ cy n5 40 fp, aq_ cy 6 wpo 12 (gf_ rp)] : va_W) ++ (gro (cy 0) rp m_rp_3 ++ ([aq_ cy 3 xk 5 (kf_ k0 k1 k2 k3 k4), ob6_0_ k0, ob5_0_ k1, ob9_0_ k2, ob2_0_ k3, ob8_0_ k4] : va_W))) H := hP
                  refine va_gld (X := [ob10_0_ xw xc xk wpo wc wf, ob0_0_ xc xn xk clo cro c4 c5 c6 c7 c8, ob3_0_ xn vp vn n1 n2 n3 n4 n5, ai_ cy n1 40 fk, ai_ cy n2 40 fs, ai_ cy n3 40 fe, ai_ cy n5 40 fp, aq_ cy 6 wpo 12 (gf_ rp)]) (Y := [aq_ cy 3 xk 5 (kf_ k0 k1 k2 k3 k4), ob6_0_ k0, ob5_0_ k1, ob9_0_ k2, ob2_0_ k3, ob8_0_ k4]) (r := rp) (M := m_rp_3) (k := y_46.toNatClampNeg) hx hb hK.1 hPg 0 rfl (in_lt h_49) (i := y_48) h_51 dB_36_2_7.1.1.1.1 ?_
                  refine lv_topi (fun y_52 ey_52 => ?_)
                  refine lv_iload_n hx hb dB_36_2_7.1.1.1.2 rfl (lv_at hl 2 rfl) ?_
                  refine va_mmin hx hb (by rw [hml]; exact hl.1.symm) hown (hts (.methodLink RX10 87 Lib.Math.min.name) (pc_X10_findPrices wsX10_findPrices_r1 (List.mem_of_getElem? (i := 1) rfl) _ (List.mem_of_getElem? (i := 11) rfl))) (hts (.static Lib.Math.min.name) (pc_X10_findPrices wsX10_findPrices_r1 (List.mem_of_getElem? (i := 1) rfl) _ (List.mem_of_getElem? (i := 12) rfl))) (hts (.initialized "java/lang/Math") (pc_X10_findPrices wsX10_findPrices_r1 (List.mem_of_getElem? (i := 1) rfl) _ (List.mem_of_getElem? (i := 13) rfl))) (hts (.code Lib.Math.min.name Lib.Math.min.code 2 (some .int)) (pc_X10_findPrices wsX10_findPrices_r1 (List.mem_of_getElem? (i := 1) rfl) _ (List.mem_of_getElem? (i := 14) rfl))) (Nat.le_of_ble_eq_true rfl) (Nat.le_of_ble_eq_true rfl) (Nat.le_of_ble_eq_true rfl) (Nat.le_of_ble_eq_true rfl) dB_36_2_7.1.1.2.1 ?_
                  refine lv_topi (fun y_53 ey_53 => ?_)
                  have ty_53 : y_53 = y_52 ∨ y_53 = r_37 := by rw [ey_53]; split <;> simp
                  have iy_53 : y_53.toInt = y_52.toInt ∨ y_53.toInt = r_37.toInt := by rcases ty_53 with h | h <;> rw [h] <;> simp
                  have hPg : va_P D vwCl (([ob10_0_ xw xc xk wpo wc wf, ob0_0_ xc xn xk clo cro c4 c5 c6 c7 c8, ob3_0_ xn vp vn n1 n2 n3 n4 n5, ai_ cy n1 40 fk, ai_ cy n2 40 fs, ai_ cy n3 40 fe, ai_ cy n5 40 fp, aq_ cy 6 wpo 12 (gf_ rp)] : va_W) ++ (gro (cy 0) rp m_rp_3 ++ ([aq_ cy 3 xk 5 (kf_ k0 k1 k2 k3 k4), ob6_0_ k0, ob5_0_ k1, ob9_0_ k2, ob2_0_ k3, ob8_0_ k4] : va_W))) H := hP
                  have hDg : va_D A (([ob10_0_ xw xc xk wpo wc wf, ob0_0_ xc xn xk clo cro c4 c5 c6 c7 c8, ob3_0_ xn vp vn n1 n2 n3 n4 n5, ai_ cy n1 40 fk, ai_ cy n2 40 fs, ai_ cy n3 40 fe, ai_ cy n5 40 fp, aq_ cy 6 wpo 12 (gf_ rp)] : va_W) ++ (gro (cy 0) rp m_rp_3 ++ ([aq_ cy 3 xk 5 (kf_ k0 k1 k2 k3 k4), ob6_0_ k0, ob5_0_ k1, ob9_0_ k2, ob2_0_ k3, ob8_0_ k4] : va_W))) := hD
                  refine va_gst (X := [ob10_0_ xw xc xk wpo wc wf, ob0_0_ xc xn xk clo cro c4 c5 c6 c7 c8, ob3_0_ xn vp vn n1 n2 n3 n4 n5, ai_ cy n1 40 fk, ai_ cy n2 40 fs, ai_ cy n3 40 fe, ai_ cy n5 40 fp, aq_ cy 6 wpo 12 (gf_ rp)]) (Y := [aq_ cy 3 xk 5 (kf_ k0 k1 k2 k3 k4), ob6_0_ k0, ob5_0_ k1, ob9_0_ k2, ob2_0_ k3, ob8_0_ k4]) (r := rp) (M := m_rp_3) (k := y_46.toNatClampNeg) hx hb hK.1 hPg hDg hS 0 rfl (in_lt h_49) (i := y_48) h_51 dB_36_2_7.1.1.2.2 (fun H locs hP hD hS => ?_)
                  obtain ⟨M_55, eM_55⟩ : ∃ g : Nat → Nat → Int32, g = va_up m_rp_3 y_46.toNatClampNeg (upd (m_rp_3 y_46.toNatClampNeg) y_48.toNatClampNeg y_53) := ⟨_, rfl⟩
                  refine pd_K (D := D) (cl := vwCl) (H := H) (A := A) [ob10_0_ xw xc xk wpo wc wf, ob0_0_ xc xn xk clo cro c4 c5 c6 c7 c8, ob3_0_ xn vp vn n1 n2 n3 n4 n5, ai_ cy n1 40 fk, ai_ cy n2 40 fs, ai_ cy n3 40 fe, ai_ cy n5 40 fp, aq_ cy 6 wpo 12 (gf_ rp), ai_ cy (rp 0) 12 (M_55 0), ai_ cy (rp 1) 12 (M_55 1), ai_ cy (rp 2) 12 (M_55 2), ai_ cy (rp 3) 12 (M_55 3), ai_ cy (rp 4) 12 (M_55 4), ai_ cy (rp 5) 12 (M_55 5), ai_ cy (rp 6) 12 (M_55 6), ai_ cy (rp 7) 12 (M_55 7), ai_ cy (rp 8) 12 (M_55 8), ai_ cy (rp 9) 12 (M_55 9), ai_ cy (rp 10) 12 (M_55 10), ai_ cy (rp 11) 12 (M_55 11), aq_ cy 3 xk 5 (kf_ k0 k1 k2 k3 k4), ob6_0_ k0, ob5_0_ k1, ob9_0_ k2, ob2_0_ k3, ob8_0_ k4] (by rw [eM_55]; exact hP) (by rw [eM_55]; exact hD) (fun hP hD => ?_)
                  refine lv_aload_n hx hb dB_36_2_7.1.2.1.1 rfl (lv_at hl 5 rfl) ?_
                  refine va_get (ci := 10) (v := .ref wpo) (C := RX10) (T := TX10) (N := 5) hx hb hts (fun _ h => List.mem_cons_of_mem _ (List.mem_append_left _ (List.mem_append_left _ (List.mem_append_right _ h)))) hown hK.1 hP 0 rfl rfl 2 (by decide) (hts (.fieldLink RX10 11 "CutAtlas$Widening" "prices" "[[I") (List.mem_of_getElem? (i := 4) rfl)) (fun _ h9 => h9) rfl dB_36_2_7.1.2.1.2 ?_
                  refine lv_iload hx hb dB_36_2_7.1.2.2.1 (lv_at hl 0 rfl) ?_
                  refine va_alda hx hb hG hP 7 rfl (i := y_48) h_51 dB_36_2_7.1.2.2.2 ?_
                  refine lv_topv (v' := .ref (rp y_48.toNatClampNeg)) (gf_at h_51) ?_
                  refine lv_iload hx hb dB_36_2_7.2.1.1.1 (lv_at hl 1 rfl) ?_
                  refine lv_aload_n hx hb dB_36_2_7.2.1.1.2 rfl (lv_at hl 5 rfl) ?_
                  refine va_get (ci := 10) (v := .ref wpo) (C := RX10) (T := TX10) (N := 5) hx hb hts (fun _ h => List.mem_cons_of_mem _ (List.mem_append_left _ (List.mem_append_left _ (List.mem_append_right _ h)))) hown hK.1 hP 0 rfl rfl 2 (by decide) (hts (.fieldLink RX10 11 "CutAtlas$Widening" "prices" "[[I") (List.mem_of_getElem? (i := 4) rfl)) (fun _ h9 => h9) rfl dB_36_2_7.2.1.2.1 ?_
                  refine lv_iload hx hb dB_36_2_7.2.1.2.2 (lv_at hl 1 rfl) ?_
                  refine va_alda hx hb hG hP 7 rfl (i := y_46) h_49 dB_36_2_7.2.2.1.1 ?_
                  refine lv_topv (v' := .ref (rp y_46.toNatClampNeg)) (gf_at h_49) ?_
                  refine lv_iload hx hb dB_36_2_7.2.2.1.2 (lv_at hl 0 rfl) ?_
                  have hPg : va_P D vwCl (([ob10_0_ xw xc xk wpo wc wf, ob0_0_ xc xn xk clo cro c4 c5 c6 c7 c8, ob3_0_ xn vp vn n1 n2 n3 n4 n5, ai_ cy n1 40 fk, ai_ cy n2 40 fs, ai_ cy n3 40 fe, ai_ cy n5 40 fp, aq_ cy 6 wpo 12 (gf_ rp)] : va_W) ++ (gro (cy 0) rp M_55 ++ ([aq_ cy 3 xk 5 (kf_ k0 k1 k2 k3 k4), ob6_0_ k0, ob5_0_ k1, ob9_0_ k2, ob2_0_ k3, ob8_0_ k4] : va_W))) H := hP
                  refine va_gld (X := [ob10_0_ xw xc xk wpo wc wf, ob0_0_ xc xn xk clo cro c4 c5 c6 c7 c8, ob3_0_ xn vp vn n1 n2 n3 n4 n5, ai_ cy n1 40 fk, ai_ cy n2 40 fs, ai_ cy n3 40 fe, ai_ cy n5 40 fp, aq_ cy 6 wpo 12 (gf_ rp)]) (Y := [aq_ cy 3 xk 5 (kf_ k0 k1 k2 k3 k4), ob6_0_ k0, ob5_0_ k1, ob9_0_ k2, ob2_0_ k3, ob8_0_ k4]) (r := rp) (M := M_55) (k := y_46.toNatClampNeg) hx hb hK.1 hPg 0 rfl (in_lt h_49) (i := y_48) h_51 dB_36_2_7.2.2.2.1 ?_
                  refine lv_topi (fun y_59 ey_59 => ?_)
                  have hPg : va_P D vwCl (([ob10_0_ xw xc xk wpo wc wf, ob0_0_ xc xn xk clo cro c4 c5 c6 c7 c8, ob3_0_ xn vp vn n1 n2 n3 n4 n5, ai_ cy n1 40 fk, ai_ cy n2 40 fs, ai_ cy n3 40 fe, ai_ cy n5 40 fp, aq_ cy 6 wpo 12 (gf_ rp)] : va_W) ++ (gro (cy 0) rp M_55 ++ ([aq_ cy 3 xk 5 (kf_ k0 k1 k2 k3 k4), ob6_0_ k0, ob5_0_ k1, ob9_0_ k2, ob2_0_ k3, ob8_0_ k4] : va_W))) H := hP
                  have hDg : va_D A (([ob10_0_ xw xc xk wpo wc wf, ob0_0_ xc xn xk clo cro c4 c5 c6 c7 c8, ob3_0_ xn vp vn n1 n2 n3 n4 n5, ai_ cy n1 40 fk, ai_ cy n2 40 fs, ai_ cy n3 40 fe, ai_ cy n5 40 fp, aq_ cy 6 wpo 12 (gf_ rp)] : va_W) ++ (gro (cy 0) rp M_55 ++ ([aq_ cy 3 xk 5 (kf_ k0 k1 k2 k3 k4), ob6_0_ k0, ob5_0_ k1, ob9_0_ k2, ob2_0_ k3, ob8_0_ k4] : va_W))) := hD
                  refine va_gst (X := [ob10_0_ xw xc xk wpo wc wf, ob0_0_ xc xn xk clo cro c4 c5 c6 c7 c8, ob3_0_ xn vp vn n1 n2 n3 n4 n5, ai_ cy n1 40 fk, ai_ cy n2 40 fs, ai_ cy n3 40 fe, ai_ cy n5 40 fp, aq_ cy 6 wpo 12 (gf_ rp)]) (Y := [aq_ cy 3 xk 5 (kf_ k0 k1 k2 k3 k4), ob6_0_ k0, ob5_0_ k1, ob9_0_ k2, ob2_0_ k3, ob8_0_ k4]) (r := rp) (M := M_55) (k := y_48.toNatClampNeg) hx hb hK.1 hPg hDg hS 0 rfl (in_lt h_51) (i := y_46) h_49 dB_36_2_7.2.2.2.2 (fun H locs hP hD hS => ?_)
                  obtain ⟨M_61, eM_61⟩ : ∃ g : Nat → Nat → Int32, g = va_up M_55 y_48.toNatClampNeg (upd (M_55 y_48.toNatClampNeg) y_46.toNatClampNeg y_59) := ⟨_, rfl⟩
                  refine pd_K (D := D) (cl := vwCl) (H := H) (A := A) [ob10_0_ xw xc xk wpo wc wf, ob0_0_ xc xn xk clo cro c4 c5 c6 c7 c8, ob3_0_ xn vp vn n1 n2 n3 n4 n5, ai_ cy n1 40 fk, ai_ cy n2 40 fs, ai_ cy n3 40 fe, ai_ cy n5 40 fp, aq_ cy 6 wpo 12 (gf_ rp), ai_ cy (rp 0) 12 (M_61 0), ai_ cy (rp 1) 12 (M_61 1), ai_ cy (rp 2) 12 (M_61 2), ai_ cy (rp 3) 12 (M_61 3), ai_ cy (rp 4) 12 (M_61 4), ai_ cy (rp 5) 12 (M_61 5), ai_ cy (rp 6) 12 (M_61 6), ai_ cy (rp 7) 12 (M_61 7), ai_ cy (rp 8) 12 (M_61 8), ai_ cy (rp 9) 12 (M_61 9), ai_ cy (rp 10) 12 (M_61 10), ai_ cy (rp 11) 12 (M_61 11), aq_ cy 3 xk 5 (kf_ k0 k1 k2 k3 k4), ob6_0_ k0, ob5_0_ k1, ob9_0_ k2, ob2_0_ k3, ob8_0_ k4] (by rw [eM_61]; exact hP) (by rw [eM_61]; exact hD) (fun hP hD => ?_)
                  obtain ⟨y_62, ey_62⟩ : ∃ y : Int32, y = x2_3 + 1 := ⟨_, rfl⟩
                  have ty_62 : y_62.toInt = x2_3.toInt + (1 : Int32).toInt := by rw [ey_62]; exact addI (by omega) (by omega)
                  refine lv_iinc (v := y_62) (lv' := [(2, .int y_62), (5, .int y_48), (4, .int y_46), (3, .int r_37), (1, .ref xn), (0, .ref xw)]) hx hb dB_36_2_8.1 hl (k := 3) rfl (by rw [ey_62]; rfl) (by decide) rfl (fun ls hl => ?_)
                  refine lv_goto (tgt := 37) hx hb dB_36_2_8.2.1 (by decide) ?_
                  exact ih_3 y_62 M_61 _ _ _ (by omega) (by first | with_reducible assumption | omega | assumption) (by first | with_reducible assumption | omega | assumption) ⟨hP, hD⟩ hS (lv_sub hl [0, 4, 5] rfl)
          · refine va_aldq hx hb hK.1 hP 20 3 rfl rfl (i := 2) (by unfold vp_in; decide) dB_36_2_4.2.2.2.1 ?_
            refine lv_topv (v' := .ref k2) (by simp [va_up, va_rf, mf_, cl_0, cl_1, cl_2, cl_3, cl_4, kf_]) ?_
            refine lv_aload_n hx hb dB_36_2_4.2.2.2.2 rfl (lv_at hl 1 rfl) ?_
            refine va_get (ci := 3) (v := .ref n5) (C := RX3) (T := TX3) (N := 7) hx hb hts (fun _ h => List.mem_cons_of_mem _ (List.mem_append_right _ h)) hown hK.1 hP 2 rfl rfl 6 (by decide) (hts (.fieldLink RX10 70 "CutAtlas$Net" "prices" "[I") (List.mem_of_getElem? (i := 9) rfl)) (fun _ h9 => h9) rfl dB_36_2_5.1.1.1.1 ?_
            refine lv_iload_n hx hb dB_36_2_5.1.1.1.2 rfl (lv_at hl 0 rfl) ?_
            refine va_iald hx hb hK.1 hP 6 0 rfl rfl (i := x2_3) h_5 dB_36_2_5.1.1.2.1 ?_
            refine lv_topi (fun y_64 ey_64 => ?_)
            refine ct_R hP hD [] [] (by decide) rfl (fun hPc hDw => ?_)
            have hFc := va_free (wc := []) hD hS hA [] rfl
            refine va_calli (va_runU (As := [.int y_64]) (rest := []) ⟨hx, hb, hml, hown, hts⟩ (c_X6_costs l D cy H.size k2 y_64) (va_cwU 1 hts gX10_findPrices_X6_costs_u72X9 rfl rfl rfl rfl (by decide +kernel) ⟨Nat.le_of_ble_eq_true rfl, Nat.le_of_ble_eq_true rfl⟩) ⟨bl_, va_recvX hK.1 hP (ci := 9) (q0 := 23) rfl rfl, fun U hU hW => ⟨rfl, by rw [hU], by rw [hU]; exact hPc, kk_mv hW hK, hDw⟩⟩ rfl rfl hl.1 rfl (lv_room (Nat.le_of_ble_eq_true rfl)) dB_36_2_5.1.1.2.2 ⟨Nat.le_of_ble_eq_true rfl, Nat.le_of_ble_eq_true rfl⟩) hS (fun q _ h => hFc q h) hFc (fun r_65 u t H locs ht hvm hw hB hz1 hk1 hS => ?_)
            have hP : va_P D vwCl _ H := ro_keep hP hk1
            have f0_r_65 := hw
            refine lv_istore_n (lv' := [(3, .int r_65), (2, .int x2_3), (1, .ref xn), (0, .ref xw)]) hx hb dB_36_2_5.1.2.1.1 rfl hl (by decide) rfl (fun ls hl => ?_)
            refine lv_iload_n hx hb dB_36_2_5.1.2.1.2 rfl (lv_at hl 0 rfl) ?_
            refine lv_bipush (v := (-9)) hx hb dB_36_2_5.1.2.2.1 (by decide) ?_
            refine lv_icmp_eq (tgt := 140) hx hb dB_36_2_5.1.2.2.2 (by decide) (fun c_66 => ?_) (fun c_66 => ?_)
            · have t_66 : r_65.toInt = ((-9) : Int32).toInt := congrArg Int32.toInt c_66
              obtain ⟨y_67, ey_67⟩ : ∃ y : Int32, y = x2_3 + 1 := ⟨_, rfl⟩
              have ty_67 : y_67.toInt = x2_3.toInt + (1 : Int32).toInt := by rw [ey_67]; exact addI (by omega) (by omega)
              refine lv_iinc (v := y_67) (lv' := [(2, .int y_67), (3, .int r_65), (1, .ref xn), (0, .ref xw)]) hx hb dB_36_2_8.1 hl (k := 1) rfl (by rw [ey_67]; rfl) (by decide) rfl (fun ls hl => ?_)
              refine lv_goto (tgt := 37) hx hb dB_36_2_8.2.1 (by decide) ?_
              exact ih_3 y_67 m_rp_3 _ _ _ (by omega) (by first | with_reducible assumption | omega | assumption) (by first | with_reducible assumption | omega | assumption) ⟨hP, hD⟩ hS (lv_sub hl [0, 2, 3] rfl)
            · have t_66 : ¬ r_65.toInt = ((-9) : Int32).toInt := fun h => c_66 (Int32.toInt_inj.mp h)
              refine lv_aload_n hx hb dB_36_2_5.2.1.1.1 rfl (lv_at hl 2 rfl) ?_
              refine lv_iload_n hx hb dB_36_2_5.2.1.1.2 rfl (lv_at hl 1 rfl) ?_
              refine ct_R hP hD [ob3_0_ xn vp vn n1 n2 n3 n4 n5, ai_ cy n2 40 fs] [2, 4] (by decide) rfl (fun hPc hDw => ?_)
              have hFc := va_free (wc := []) hD hS hA [] rfl
              refine va_calli (va_runV (As := [.int x2_3]) (rest := []) ⟨hx, hb, hml, hown, hts⟩ (c_X3_isMissing l D cy H.size xn n1 n2 n3 n4 n5 vp vn fs x2_3 (by first | with_reducible assumption | omega | assumption)) (cwV 1 hts gX10_findPrices_X3_isMissing rfl rfl rfl ⟨rfl, hd_X3_isMissing⟩ ⟨Nat.le_of_ble_eq_true rfl, Nat.le_of_ble_eq_true rfl⟩) ⟨bl_, va_recvX hK.1 hP (ci := 3) (q0 := 2) rfl rfl, fun U hU hW => ⟨rfl, by rw [hU], by rw [hU]; exact hPc, kk_mv hW hK, hDw⟩⟩ rfl rfl hl.1 rfl (lv_room (Nat.le_of_ble_eq_true rfl)) dB_36_2_5.2.1.2.1 ⟨Nat.le_of_ble_eq_true rfl, Nat.le_of_ble_eq_true rfl⟩) hS (fun q _ h => hFc q h) hFc (fun r_68 u t H locs ht hvm hw hB hz1 hk1 hS => ?_)
              have hP : va_P D vwCl _ H := ro_keep hP hk1
              rcases hw with ⟨w_69, e_⟩ | ⟨w_69, e_⟩
              · have e_ := e_.symm
                subst e_
                refine lv_if_ne (tgt := 140) hx hb dB_36_2_5.2.1.2.2 (by decide) (fun c_70 => ?_) (fun c_70 => ?_)
                · have _ := c_70
                  obtain ⟨y_71, ey_71⟩ : ∃ y : Int32, y = x2_3 + 1 := ⟨_, rfl⟩
                  have ty_71 : y_71.toInt = x2_3.toInt + (1 : Int32).toInt := by rw [ey_71]; exact addI (by omega) (by omega)
                  refine lv_iinc (v := y_71) (lv' := [(2, .int y_71), (3, .int r_65), (1, .ref xn), (0, .ref xw)]) hx hb dB_36_2_8.1 hl (k := 1) rfl (by rw [ey_71]; rfl) (by decide) rfl (fun ls hl => ?_)
                  refine lv_goto (tgt := 37) hx hb dB_36_2_8.2.1 (by decide) ?_
                  exact ih_3 y_71 m_rp_3 _ _ _ (by omega) (by first | with_reducible assumption | omega | assumption) (by first | with_reducible assumption | omega | assumption) ⟨hP, hD⟩ hS (lv_sub hl [0, 2, 3] rfl)
                · exact absurd c_70 (by decide)
              · have e_ := e_.symm
                subst e_
                refine lv_if_ne (tgt := 140) hx hb dB_36_2_5.2.1.2.2 (by decide) (fun c_72 => ?_) (fun c_72 => ?_)
                · exact absurd c_72 (by decide)
                · have _ := c_72
                  refine lv_aload_n hx hb dB_36_2_5.2.2.1.1 rfl (lv_at hl 2 rfl) ?_
                  refine va_get (ci := 3) (v := .ref n2) (C := RX3) (T := TX3) (N := 7) hx hb hts (fun _ h => List.mem_cons_of_mem _ (List.mem_append_right _ h)) hown hK.1 hP 2 rfl rfl 3 (by decide) (hts (.fieldLink RX10 81 "CutAtlas$Net" "starts" "[I") (List.mem_of_getElem? (i := 10) rfl)) (fun _ h9 => h9) rfl dB_36_2_5.2.2.1.2 ?_
                  refine lv_iload_n hx hb dB_36_2_5.2.2.2.1 rfl (lv_at hl 1 rfl) ?_
                  refine va_iald hx hb hK.1 hP 4 0 rfl rfl (i := x2_3) h_5 dB_36_2_5.2.2.2.2 ?_
                  refine lv_topi (fun y_74 ey_74 => ?_)
                  have ry_74 := hpr _ (in_lt h_5)
                  have jy_74 : y_74.toInt = (fs x2_3.toNatClampNeg).toInt := by rw [ey_74]
                  refine lv_istore (lv' := [(4, .int y_74), (3, .int r_65), (2, .int x2_3), (1, .ref xn), (0, .ref xw)]) hx hb dB_36_2_6.1.1.1.1 hl (by decide) rfl (fun ls hl => ?_)
                  refine lv_aload_n hx hb dB_36_2_6.1.1.1.2 rfl (lv_at hl 3 rfl) ?_
                  refine va_get (ci := 3) (v := .ref n3) (C := RX3) (T := TX3) (N := 7) hx hb hts (fun _ h => List.mem_cons_of_mem _ (List.mem_append_right _ h)) hown hK.1 hP 2 rfl rfl 4 (by decide) (hts (.fieldLink RX10 84 "CutAtlas$Net" "ends" "[I") (List.mem_of_getElem? (i := 11) rfl)) (fun _ h9 => h9) rfl dB_36_2_6.1.1.2.1 ?_
                  refine lv_iload_n hx hb dB_36_2_6.1.1.2.2 rfl (lv_at hl 2 rfl) ?_
                  refine va_iald hx hb hK.1 hP 5 0 rfl rfl (i := x2_3) h_5 dB_36_2_6.1.2.1.1 ?_
                  refine lv_topi (fun y_76 ey_76 => ?_)
                  have ry_76 := hpr _ (in_lt h_5)
                  have jy_76 : y_76.toInt = (fe x2_3.toNatClampNeg).toInt := by rw [ey_76]
                  refine lv_istore (lv' := [(5, .int y_76), (4, .int y_74), (3, .int r_65), (2, .int x2_3), (1, .ref xn), (0, .ref xw)]) hx hb dB_36_2_6.1.2.1.2 hl (by decide) rfl (fun ls hl => ?_)
                  refine lv_aload_n hx hb dB_36_2_6.1.2.2.1 rfl (lv_at hl 5 rfl) ?_
                  refine va_get (ci := 10) (v := .ref wpo) (C := RX10) (T := TX10) (N := 5) hx hb hts (fun _ h => List.mem_cons_of_mem _ (List.mem_append_left _ (List.mem_append_left _ (List.mem_append_right _ h)))) hown hK.1 hP 0 rfl rfl 2 (by decide) (hts (.fieldLink RX10 11 "CutAtlas$Widening" "prices" "[[I") (List.mem_of_getElem? (i := 4) rfl)) (fun _ h9 => h9) rfl dB_36_2_6.1.2.2.2 ?_
                  refine lv_iload hx hb dB_36_2_6.2.1.1.1 (lv_at hl 1 rfl) ?_
                  have h_77 : vp_in y_74 12 := in_I (by first | with_reducible assumption | omega) (by omega)
                  refine va_alda hx hb hG hP 7 rfl (i := y_74) h_77 dB_36_2_6.2.1.1.2 ?_
                  refine lv_topv (v' := .ref (rp y_74.toNatClampNeg)) (gf_at h_77) ?_
                  refine lv_iload hx hb dB_36_2_6.2.1.2.1 (lv_at hl 0 rfl) ?_
                  refine lv_aload_n hx hb dB_36_2_6.2.1.2.2 rfl (lv_at hl 5 rfl) ?_
                  refine va_get (ci := 10) (v := .ref wpo) (C := RX10) (T := TX10) (N := 5) hx hb hts (fun _ h => List.mem_cons_of_mem _ (List.mem_append_left _ (List.mem_append_left _ (List.mem_append_right _ h)))) hown hK.1 hP 0 rfl rfl 2 (by decide) (hts (.fieldLink RX10 11 "CutAtlas$Widening" "prices" "[[I") (List.mem_of_getElem? (i := 4) rfl)) (fun _ h9 => h9) rfl dB_36_2_6.2.2.1.1 ?_
                  refine lv_iload hx hb dB_36_2_6.2.2.1.2 (lv_at hl 1 rfl) ?_
                  refine va_alda hx hb hG hP 7 rfl (i := y_74) h_77 dB_36_2_6.2.2.2.1 ?_
                  refine lv_topv (v' := .ref (rp y_74.toNatClampNeg)) (gf_at h_77) ?_
                  refine lv_iload hx hb dB_36_2_6.2.2.2.2 (lv_at hl 0 rfl) ?_
                  have h_79 : vp_in y_76 12 := in_I (by first | with_reducible assumption | omega) (by omega)
                  have hPg : va_P D vwCl (([ob10_0_ xw xc xk wpo wc wf, ob0_0_ xc xn xk clo cro c4 c5 c6 c7 c8, ob3_0_ xn vp vn n1 n2 n3 n4 n5, ai_ cy n1 40 fk, ai_ cy n2 40 fs, ai_ cy n3 40 fe, ai_ cy n5 40 fp, aq_ cy 6 wpo 12 (gf_ rp)] : va_W) ++ (gro (cy 0) rp m_rp_3 ++ ([aq_ cy 3 xk 5 (kf_ k0 k1 k2 k3 k4), ob6_0_ k0, ob5_0_ k1, ob9_0_ k2, ob2_0_ k3, ob8_0_ k4] : va_W))) H := hP
                  refine va_gld (X := [ob10_0_ xw xc xk wpo wc wf, ob0_0_ xc xn xk clo cro c4 c5 c6 c7 c8, ob3_0_ xn vp vn n1 n2 n3 n4 n5, ai_ cy n1 40 fk, ai_ cy n2 40 fs, ai_ cy n3 40 fe, ai_ cy n5 40 fp, aq_ cy 6 wpo 12 (gf_ rp)]) (Y := [aq_ cy 3 xk 5 (kf_ k0 k1 k2 k3 k4), ob6_0_ k0, ob5_0_ k1, ob9_0_ k2, ob2_0_ k3, ob8_0_ k4]) (r := rp) (M := m_rp_3) (k := y_74.toNatClampNeg) hx hb hK.1 hPg 0 rfl (in_lt h_77) (i := y_76) h_79 dB_36_2_7.1.1.1.1 ?_
                  refine lv_topi (fun y_80 ey_80 => ?_)
                  refine lv_iload_n hx hb dB_36_2_7.1.1.1.2 rfl (lv_at hl 2 rfl) ?_
                  refine va_mmin hx hb (by rw [hml]; exact hl.1.symm) hown (hts (.methodLink RX10 87 Lib.Math.min.name) (pc_X10_findPrices wsX10_findPrices_r1 (List.mem_of_getElem? (i := 1) rfl) _ (List.mem_of_getElem? (i := 11) rfl))) (hts (.static Lib.Math.min.name) (pc_X10_findPrices wsX10_findPrices_r1 (List.mem_of_getElem? (i := 1) rfl) _ (List.mem_of_getElem? (i := 12) rfl))) (hts (.initialized "java/lang/Math") (pc_X10_findPrices wsX10_findPrices_r1 (List.mem_of_getElem? (i := 1) rfl) _ (List.mem_of_getElem? (i := 13) rfl))) (hts (.code Lib.Math.min.name Lib.Math.min.code 2 (some .int)) (pc_X10_findPrices wsX10_findPrices_r1 (List.mem_of_getElem? (i := 1) rfl) _ (List.mem_of_getElem? (i := 14) rfl))) (Nat.le_of_ble_eq_true rfl) (Nat.le_of_ble_eq_true rfl) (Nat.le_of_ble_eq_true rfl) (Nat.le_of_ble_eq_true rfl) dB_36_2_7.1.1.2.1 ?_
                  refine lv_topi (fun y_81 ey_81 => ?_)
                  have ty_81 : y_81 = y_80 ∨ y_81 = r_65 := by rw [ey_81]; split <;> simp
                  have iy_81 : y_81.toInt = y_80.toInt ∨ y_81.toInt = r_65.toInt := by rcases ty_81 with h | h <;> rw [h] <;> simp
                  have hPg : va_P D vwCl (([ob10_0_ xw xc xk wpo wc wf, ob0_0_ xc xn xk clo cro c4 c5 c6 c7 c8, ob3_0_ xn vp vn n1 n2 n3 n4 n5, ai_ cy n1 40 fk, ai_ cy n2 40 fs, ai_ cy n3 40 fe, ai_ cy n5 40 fp, aq_ cy 6 wpo 12 (gf_ rp)] : va_W) ++ (gro (cy 0) rp m_rp_3 ++ ([aq_ cy 3 xk 5 (kf_ k0 k1 k2 k3 k4), ob6_0_ k0, ob5_0_ k1, ob9_0_ k2, ob2_0_ k3, ob8_0_ k4] : va_W))) H := hP
                  have hDg : va_D A (([ob10_0_ xw xc xk wpo wc wf, ob0_0_ xc xn xk clo cro c4 c5 c6 c7 c8, ob3_0_ xn vp vn n1 n2 n3 n4 n5, ai_ cy n1 40 fk, ai_ cy n2 40 fs, ai_ cy n3 40 fe, ai_ cy n5 40 fp, aq_ cy 6 wpo 12 (gf_ rp)] : va_W) ++ (gro (cy 0) rp m_rp_3 ++ ([aq_ cy 3 xk 5 (kf_ k0 k1 k2 k3 k4), ob6_0_ k0, ob5_0_ k1, ob9_0_ k2, ob2_0_ k3, ob8_0_ k4] : va_W))) := hD
                  refine va_gst (X := [ob10_0_ xw xc xk wpo wc wf, ob0_0_ xc xn xk clo cro c4 c5 c6 c7 c8, ob3_0_ xn vp vn n1 n2 n3 n4 n5, ai_ cy n1 40 fk, ai_ cy n2 40 fs, ai_ cy n3 40 fe, ai_ cy n5 40 fp, aq_ cy 6 wpo 12 (gf_ rp)]) (Y := [aq_ cy 3 xk 5 (kf_ k0 k1 k2 k3 k4), ob6_0_ k0, ob5_0_ k1, ob9_0_ k2, ob2_0_ k3, ob8_0_ k4]) (r := rp) (M := m_rp_3) (k := y_74.toNatClampNeg) hx hb hK.1 hPg hDg hS 0 rfl (in_lt h_77) (i := y_76) h_79 dB_36_2_7.1.1.2.2 (fun H locs hP hD hS => ?_)
                  obtain ⟨M_83, eM_83⟩ : ∃ g : Nat → Nat → Int32, g = va_up m_rp_3 y_74.toNatClampNeg (upd (m_rp_3 y_74.toNatClampNeg) y_76.toNatClampNeg y_81) := ⟨_, rfl⟩
                  refine pd_K (D := D) (cl := vwCl) (H := H) (A := A) [ob10_0_ xw xc xk wpo wc wf, ob0_0_ xc xn xk clo cro c4 c5 c6 c7 c8, ob3_0_ xn vp vn n1 n2 n3 n4 n5, ai_ cy n1 40 fk, ai_ cy n2 40 fs, ai_ cy n3 40 fe, ai_ cy n5 40 fp, aq_ cy 6 wpo 12 (gf_ rp), ai_ cy (rp 0) 12 (M_83 0), ai_ cy (rp 1) 12 (M_83 1), ai_ cy (rp 2) 12 (M_83 2), ai_ cy (rp 3) 12 (M_83 3), ai_ cy (rp 4) 12 (M_83 4), ai_ cy (rp 5) 12 (M_83 5), ai_ cy (rp 6) 12 (M_83 6), ai_ cy (rp 7) 12 (M_83 7), ai_ cy (rp 8) 12 (M_83 8), ai_ cy (rp 9) 12 (M_83 9), ai_ cy (rp 10) 12 (M_83 10), ai_ cy (rp 11) 12 (M_83 11), aq_ cy 3 xk 5 (kf_ k0 k1 k2 k3 k4), ob6_0_ k0, ob5_0_ k1, ob9_0_ k2, ob2_0_ k3, ob8_0_ k4] (by rw [eM_83]; exact hP) (by rw [eM_83]; exact hD) (fun hP hD => ?_)
                  refine lv_aload_n hx hb dB_36_2_7.1.2.1.1 rfl (lv_at hl 5 rfl) ?_
                  refine va_get (ci := 10) (v := .ref wpo) (C := RX10) (T := TX10) (N := 5) hx hb hts (fun _ h => List.mem_cons_of_mem _ (List.mem_append_left _ (List.mem_append_left _ (List.mem_append_right _ h)))) hown hK.1 hP 0 rfl rfl 2 (by decide) (hts (.fieldLink RX10 11 "CutAtlas$Widening" "prices" "[[I") (List.mem_of_getElem? (i := 4) rfl)) (fun _ h9 => h9) rfl dB_36_2_7.1.2.1.2 ?_
                  refine lv_iload hx hb dB_36_2_7.1.2.2.1 (lv_at hl 0 rfl) ?_
                  refine va_alda hx hb hG hP 7 rfl (i := y_76) h_79 dB_36_2_7.1.2.2.2 ?_
                  refine lv_topv (v' := .ref (rp y_76.toNatClampNeg)) (gf_at h_79) ?_
                  refine lv_iload hx hb dB_36_2_7.2.1.1.1 (lv_at hl 1 rfl) ?_
                  refine lv_aload_n hx hb dB_36_2_7.2.1.1.2 rfl (lv_at hl 5 rfl) ?_
                  refine va_get (ci := 10) (v := .ref wpo) (C := RX10) (T := TX10) (N := 5) hx hb hts (fun _ h => List.mem_cons_of_mem _ (List.mem_append_left _ (List.mem_append_left _ (List.mem_append_right _ h)))) hown hK.1 hP 0 rfl rfl 2 (by decide) (hts (.fieldLink RX10 11 "CutAtlas$Widening" "prices" "[[I") (List.mem_of_getElem? (i := 4) rfl)) (fun _ h9 => h9) rfl dB_36_2_7.2.1.2.1 ?_
                  refine lv_iload hx hb dB_36_2_7.2.1.2.2 (lv_at hl 1 rfl) ?_
                  refine va_alda hx hb hG hP 7 rfl (i := y_74) h_77 dB_36_2_7.2.2.1.1 ?_
                  refine lv_topv (v' := .ref (rp y_74.toNatClampNeg)) (gf_at h_77) ?_
                  refine lv_iload hx hb dB_36_2_7.2.2.1.2 (lv_at hl 0 rfl) ?_
                  have hPg : va_P D vwCl (([ob10_0_ xw xc xk wpo wc wf, ob0_0_ xc xn xk clo cro c4 c5 c6 c7 c8, ob3_0_ xn vp vn n1 n2 n3 n4 n5, ai_ cy n1 40 fk, ai_ cy n2 40 fs, ai_ cy n3 40 fe, ai_ cy n5 40 fp, aq_ cy 6 wpo 12 (gf_ rp)] : va_W) ++ (gro (cy 0) rp M_83 ++ ([aq_ cy 3 xk 5 (kf_ k0 k1 k2 k3 k4), ob6_0_ k0, ob5_0_ k1, ob9_0_ k2, ob2_0_ k3, ob8_0_ k4] : va_W))) H := hP
                  refine va_gld (X := [ob10_0_ xw xc xk wpo wc wf, ob0_0_ xc xn xk clo cro c4 c5 c6 c7 c8, ob3_0_ xn vp vn n1 n2 n3 n4 n5, ai_ cy n1 40 fk, ai_ cy n2 40 fs, ai_ cy n3 40 fe, ai_ cy n5 40 fp, aq_ cy 6 wpo 12 (gf_ rp)]) (Y := [aq_ cy 3 xk 5 (kf_ k0 k1 k2 k3 k4), ob6_0_ k0, ob5_0_ k1, ob9_0_ k2, ob2_0_ k3, ob8_0_ k4]) (r := rp) (M := M_83) (k := y_74.toNatClampNeg) hx hb hK.1 hPg 0 rfl (in_lt h_77) (i := y_76) h_79 dB_36_2_7.2.2.2.1 ?_
                  refine lv_topi (fun y_87 ey_87 => ?_)
                  have hPg : va_P D vwCl (([ob10_0_ xw xc xk wpo wc wf, ob0_0_ xc xn xk clo cro c4 c5 c6 c7 c8, ob3_0_ xn vp vn n1 n2 n3 n4 n5, ai_ cy n1 40 fk, ai_ cy n2 40 fs, ai_ cy n3 40 fe, ai_ cy n5 40 fp, aq_ cy 6 wpo 12 (gf_ rp)] : va_W) ++ (gro (cy 0) rp M_83 ++ ([aq_ cy 3 xk 5 (kf_ k0 k1 k2 k3 k4), ob6_0_ k0, ob5_0_ k1, ob9_0_ k2, ob2_0_ k3, ob8_0_ k4] : va_W))) H := hP
                  have hDg : va_D A (([ob10_0_ xw xc xk wpo wc wf, ob0_0_ xc xn xk clo cro c4 c5 c6 c7 c8, ob3_0_ xn vp vn n1 n2 n3 n4 n5, ai_ cy n1 40 fk, ai_ cy n2 40 fs, ai_ cy n3 40 fe, ai_ cy n5 40 fp, aq_ cy 6 wpo 12 (gf_ rp)] : va_W) ++ (gro (cy 0) rp M_83 ++ ([aq_ cy 3 xk 5 (kf_ k0 k1 k2 k3 k4), ob6_0_ k0, ob5_0_ k1, ob9_0_ k2, ob2_0_ k3, ob8_0_ k4] : va_W))) := hD
                  refine va_gst (X := [ob10_0_ xw xc xk wpo wc wf, ob0_0_ xc xn xk clo cro c4 c5 c6 c7 c8, ob3_0_ xn vp vn n1 n2 n3 n4 n5, ai_ cy n1 40 fk, ai_ cy n2 40 fs, ai_ cy n3 40 fe, ai_ cy n5 40 fp, aq_ cy 6 wpo 12 (gf_ rp)]) (Y := [aq_ cy 3 xk 5 (kf_ k0 k1 k2 k3 k4), ob6_0_ k0, ob5_0_ k1, ob9_0_ k2, ob2_0_ k3, ob8_0_ k4]) (r := rp) (M := M_83) (k := y_76.toNatClampNeg) hx hb hK.1 hPg hDg hS 0 rfl (in_lt h_79) (i := y_74) h_77 dB_36_2_7.2.2.2.2 (fun H locs hP hD hS => ?_)
                  obtain ⟨M_89, eM_89⟩ : ∃ g : Nat → Nat → Int32, g = va_up M_83 y_76.toNatClampNeg (upd (M_83 y_76.toNatClampNeg) y_74.toNatClampNeg y_87) := ⟨_, rfl⟩
                  refine pd_K (D := D) (cl := vwCl) (H := H) (A := A) [ob10_0_ xw xc xk wpo wc wf, ob0_0_ xc xn xk clo cro c4 c5 c6 c7 c8, ob3_0_ xn vp vn n1 n2 n3 n4 n5, ai_ cy n1 40 fk, ai_ cy n2 40 fs, ai_ cy n3 40 fe, ai_ cy n5 40 fp, aq_ cy 6 wpo 12 (gf_ rp), ai_ cy (rp 0) 12 (M_89 0), ai_ cy (rp 1) 12 (M_89 1), ai_ cy (rp 2) 12 (M_89 2), ai_ cy (rp 3) 12 (M_89 3), ai_ cy (rp 4) 12 (M_89 4), ai_ cy (rp 5) 12 (M_89 5), ai_ cy (rp 6) 12 (M_89 6), ai_ cy (rp 7) 12 (M_89 7), ai_ cy (rp 8) 12 (M_89 8), ai_ cy (rp 9) 12 (M_89 9), ai_ cy (rp 10) 12 (M_89 10), ai_ cy (rp 11) 12 (M_89 11), aq_ cy 3 xk 5 (kf_ k0 k1 k2 k3 k4), ob6_0_ k0, ob5_0_ k1, ob9_0_ k2, ob2_0_ k3, ob8_0_ k4] (by rw [eM_89]; exact hP) (by rw [eM_89]; exact hD) (fun hP hD => ?_)
                  obtain ⟨y_90, ey_90⟩ : ∃ y : Int32, y = x2_3 + 1 := ⟨_, rfl⟩
                  have ty_90 : y_90.toInt = x2_3.toInt + (1 : Int32).toInt := by rw [ey_90]; exact addI (by omega) (by omega)
                  refine lv_iinc (v := y_90) (lv' := [(2, .int y_90), (5, .int y_76), (4, .int y_74), (3, .int r_65), (1, .ref xn), (0, .ref xw)]) hx hb dB_36_2_8.1 hl (k := 3) rfl (by rw [ey_90]; rfl) (by decide) rfl (fun ls hl => ?_)
                  refine lv_goto (tgt := 37) hx hb dB_36_2_8.2.1 (by decide) ?_
                  exact ih_3 y_90 M_89 _ _ _ (by omega) (by first | with_reducible assumption | omega | assumption) (by first | with_reducible assumption | omega | assumption) ⟨hP, hD⟩ hS (lv_sub hl [0, 4, 5] rfl)
          · refine va_aldq hx hb hK.1 hP 20 3 rfl rfl (i := 3) (by unfold vp_in; decide) dB_36_2_4.2.2.2.1 ?_
            refine lv_topv (v' := .ref k3) (by simp [va_up, va_rf, mf_, cl_0, cl_1, cl_2, cl_3, cl_4, kf_]) ?_
            refine lv_aload_n hx hb dB_36_2_4.2.2.2.2 rfl (lv_at hl 1 rfl) ?_
            refine va_get (ci := 3) (v := .ref n5) (C := RX3) (T := TX3) (N := 7) hx hb hts (fun _ h => List.mem_cons_of_mem _ (List.mem_append_right _ h)) hown hK.1 hP 2 rfl rfl 6 (by decide) (hts (.fieldLink RX10 70 "CutAtlas$Net" "prices" "[I") (List.mem_of_getElem? (i := 9) rfl)) (fun _ h9 => h9) rfl dB_36_2_5.1.1.1.1 ?_
            refine lv_iload_n hx hb dB_36_2_5.1.1.1.2 rfl (lv_at hl 0 rfl) ?_
            refine va_iald hx hb hK.1 hP 6 0 rfl rfl (i := x2_3) h_5 dB_36_2_5.1.1.2.1 ?_
            refine lv_topi (fun y_92 ey_92 => ?_)
            refine ct_R hP hD [] [] (by decide) rfl (fun hPc hDw => ?_)
            have hFc := va_free (wc := []) hD hS hA [] rfl
            refine va_calli (va_runU (As := [.int y_92]) (rest := []) ⟨hx, hb, hml, hown, hts⟩ (c_X2_costs l D cy H.size k3 y_92) (va_cwO 1 hts gX10_findPrices_X2_costs_u72X2 rfl rfl rfl (b0 := cX6_costs) (m0 := 2) (r0 := (some .int)) (by decide +kernel) (by decide +kernel) ⟨Nat.le_of_ble_eq_true rfl, Nat.le_of_ble_eq_true rfl⟩) ⟨bl_, va_recvX hK.1 hP (ci := 2) (q0 := 24) rfl rfl, fun U hU hW => ⟨rfl, by rw [hU], by rw [hU]; exact hPc, kk_mv hW hK, hDw⟩⟩ rfl rfl hl.1 rfl (lv_room (Nat.le_of_ble_eq_true rfl)) dB_36_2_5.1.1.2.2 ⟨Nat.le_of_ble_eq_true rfl, Nat.le_of_ble_eq_true rfl⟩) hS (fun q _ h => hFc q h) hFc (fun r_93 u t H locs ht hvm hw hB hz1 hk1 hS => ?_)
            have hP : va_P D vwCl _ H := ro_keep hP hk1
            have f0_r_93 := hw
            refine lv_istore_n (lv' := [(3, .int r_93), (2, .int x2_3), (1, .ref xn), (0, .ref xw)]) hx hb dB_36_2_5.1.2.1.1 rfl hl (by decide) rfl (fun ls hl => ?_)
            refine lv_iload_n hx hb dB_36_2_5.1.2.1.2 rfl (lv_at hl 0 rfl) ?_
            refine lv_bipush (v := (-9)) hx hb dB_36_2_5.1.2.2.1 (by decide) ?_
            refine lv_icmp_eq (tgt := 140) hx hb dB_36_2_5.1.2.2.2 (by decide) (fun c_94 => ?_) (fun c_94 => ?_)
            · have t_94 : r_93.toInt = ((-9) : Int32).toInt := congrArg Int32.toInt c_94
              obtain ⟨y_95, ey_95⟩ : ∃ y : Int32, y = x2_3 + 1 := ⟨_, rfl⟩
              have ty_95 : y_95.toInt = x2_3.toInt + (1 : Int32).toInt := by rw [ey_95]; exact addI (by omega) (by omega)
              refine lv_iinc (v := y_95) (lv' := [(2, .int y_95), (3, .int r_93), (1, .ref xn), (0, .ref xw)]) hx hb dB_36_2_8.1 hl (k := 1) rfl (by rw [ey_95]; rfl) (by decide) rfl (fun ls hl => ?_)
              refine lv_goto (tgt := 37) hx hb dB_36_2_8.2.1 (by decide) ?_
              exact ih_3 y_95 m_rp_3 _ _ _ (by omega) (by first | with_reducible assumption | omega | assumption) (by first | with_reducible assumption | omega | assumption) ⟨hP, hD⟩ hS (lv_sub hl [0, 2, 3] rfl)
            · have t_94 : ¬ r_93.toInt = ((-9) : Int32).toInt := fun h => c_94 (Int32.toInt_inj.mp h)
              refine lv_aload_n hx hb dB_36_2_5.2.1.1.1 rfl (lv_at hl 2 rfl) ?_
              refine lv_iload_n hx hb dB_36_2_5.2.1.1.2 rfl (lv_at hl 1 rfl) ?_
              refine ct_R hP hD [ob3_0_ xn vp vn n1 n2 n3 n4 n5, ai_ cy n2 40 fs] [2, 4] (by decide) rfl (fun hPc hDw => ?_)
              have hFc := va_free (wc := []) hD hS hA [] rfl
              refine va_calli (va_runV (As := [.int x2_3]) (rest := []) ⟨hx, hb, hml, hown, hts⟩ (c_X3_isMissing l D cy H.size xn n1 n2 n3 n4 n5 vp vn fs x2_3 (by first | with_reducible assumption | omega | assumption)) (cwV 1 hts gX10_findPrices_X3_isMissing rfl rfl rfl ⟨rfl, hd_X3_isMissing⟩ ⟨Nat.le_of_ble_eq_true rfl, Nat.le_of_ble_eq_true rfl⟩) ⟨bl_, va_recvX hK.1 hP (ci := 3) (q0 := 2) rfl rfl, fun U hU hW => ⟨rfl, by rw [hU], by rw [hU]; exact hPc, kk_mv hW hK, hDw⟩⟩ rfl rfl hl.1 rfl (lv_room (Nat.le_of_ble_eq_true rfl)) dB_36_2_5.2.1.2.1 ⟨Nat.le_of_ble_eq_true rfl, Nat.le_of_ble_eq_true rfl⟩) hS (fun q _ h => hFc q h) hFc (fun r_96 u t H locs ht hvm hw hB hz1 hk1 hS => ?_)
              have hP : va_P D vwCl _ H := ro_keep hP hk1
              rcases hw with ⟨w_97, e_⟩ | ⟨w_97, e_⟩
              · have e_ := e_.symm
                subst e_
                refine lv_if_ne (tgt := 140) hx hb dB_36_2_5.2.1.2.2 (by decide) (fun c_98 => ?_) (fun c_98 => ?_)
                · have _ := c_98
                  obtain ⟨y_99, ey_99⟩ : ∃ y : Int32, y = x2_3 + 1 := ⟨_, rfl⟩
                  have ty_99 : y_99.toInt = x2_3.toInt + (1 : Int32).toInt := by rw [ey_99]; exact addI (by omega) (by omega)
                  refine lv_iinc (v := y_99) (lv' := [(2, .int y_99), (3, .int r_93), (1, .ref xn), (0, .ref xw)]) hx hb dB_36_2_8.1 hl (k := 1) rfl (by rw [ey_99]; rfl) (by decide) rfl (fun ls hl => ?_)
                  refine lv_goto (tgt := 37) hx hb dB_36_2_8.2.1 (by decide) ?_
                  exact ih_3 y_99 m_rp_3 _ _ _ (by omega) (by first | with_reducible assumption | omega | assumption) (by first | with_reducible assumption | omega | assumption) ⟨hP, hD⟩ hS (lv_sub hl [0, 2, 3] rfl)
                · exact absurd c_98 (by decide)
              · have e_ := e_.symm
                subst e_
                refine lv_if_ne (tgt := 140) hx hb dB_36_2_5.2.1.2.2 (by decide) (fun c_100 => ?_) (fun c_100 => ?_)
                · exact absurd c_100 (by decide)
                · have _ := c_100
                  refine lv_aload_n hx hb dB_36_2_5.2.2.1.1 rfl (lv_at hl 2 rfl) ?_
                  refine va_get (ci := 3) (v := .ref n2) (C := RX3) (T := TX3) (N := 7) hx hb hts (fun _ h => List.mem_cons_of_mem _ (List.mem_append_right _ h)) hown hK.1 hP 2 rfl rfl 3 (by decide) (hts (.fieldLink RX10 81 "CutAtlas$Net" "starts" "[I") (List.mem_of_getElem? (i := 10) rfl)) (fun _ h9 => h9) rfl dB_36_2_5.2.2.1.2 ?_
                  refine lv_iload_n hx hb dB_36_2_5.2.2.2.1 rfl (lv_at hl 1 rfl) ?_
                  refine va_iald hx hb hK.1 hP 4 0 rfl rfl (i := x2_3) h_5 dB_36_2_5.2.2.2.2 ?_
                  refine lv_topi (fun y_102 ey_102 => ?_)
                  have ry_102 := hpr _ (in_lt h_5)
                  have jy_102 : y_102.toInt = (fs x2_3.toNatClampNeg).toInt := by rw [ey_102]
                  refine lv_istore (lv' := [(4, .int y_102), (3, .int r_93), (2, .int x2_3), (1, .ref xn), (0, .ref xw)]) hx hb dB_36_2_6.1.1.1.1 hl (by decide) rfl (fun ls hl => ?_)
                  refine lv_aload_n hx hb dB_36_2_6.1.1.1.2 rfl (lv_at hl 3 rfl) ?_
                  refine va_get (ci := 3) (v := .ref n3) (C := RX3) (T := TX3) (N := 7) hx hb hts (fun _ h => List.mem_cons_of_mem _ (List.mem_append_right _ h)) hown hK.1 hP 2 rfl rfl 4 (by decide) (hts (.fieldLink RX10 84 "CutAtlas$Net" "ends" "[I") (List.mem_of_getElem? (i := 11) rfl)) (fun _ h9 => h9) rfl dB_36_2_6.1.1.2.1 ?_
                  refine lv_iload_n hx hb dB_36_2_6.1.1.2.2 rfl (lv_at hl 2 rfl) ?_
                  refine va_iald hx hb hK.1 hP 5 0 rfl rfl (i := x2_3) h_5 dB_36_2_6.1.2.1.1 ?_
                  refine lv_topi (fun y_104 ey_104 => ?_)
                  have ry_104 := hpr _ (in_lt h_5)
                  have jy_104 : y_104.toInt = (fe x2_3.toNatClampNeg).toInt := by rw [ey_104]
                  refine lv_istore (lv' := [(5, .int y_104), (4, .int y_102), (3, .int r_93), (2, .int x2_3), (1, .ref xn), (0, .ref xw)]) hx hb dB_36_2_6.1.2.1.2 hl (by decide) rfl (fun ls hl => ?_)
                  refine lv_aload_n hx hb dB_36_2_6.1.2.2.1 rfl (lv_at hl 5 rfl) ?_
                  refine va_get (ci := 10) (v := .ref wpo) (C := RX10) (T := TX10) (N := 5) hx hb hts (fun _ h => List.mem_cons_of_mem _ (List.mem_append_left _ (List.mem_append_left _ (List.mem_append_right _ h)))) hown hK.1 hP 0 rfl rfl 2 (by decide) (hts (.fieldLink RX10 11 "CutAtlas$Widening" "prices" "[[I") (List.mem_of_getElem? (i := 4) rfl)) (fun _ h9 => h9) rfl dB_36_2_6.1.2.2.2 ?_
                  refine lv_iload hx hb dB_36_2_6.2.1.1.1 (lv_at hl 1 rfl) ?_
                  have h_105 : vp_in y_102 12 := in_I (by first | with_reducible assumption | omega) (by omega)
                  refine va_alda hx hb hG hP 7 rfl (i := y_102) h_105 dB_36_2_6.2.1.1.2 ?_
                  refine lv_topv (v' := .ref (rp y_102.toNatClampNeg)) (gf_at h_105) ?_
                  refine lv_iload hx hb dB_36_2_6.2.1.2.1 (lv_at hl 0 rfl) ?_
                  refine lv_aload_n hx hb dB_36_2_6.2.1.2.2 rfl (lv_at hl 5 rfl) ?_
                  refine va_get (ci := 10) (v := .ref wpo) (C := RX10) (T := TX10) (N := 5) hx hb hts (fun _ h => List.mem_cons_of_mem _ (List.mem_append_left _ (List.mem_append_left _ (List.mem_append_right _ h)))) hown hK.1 hP 0 rfl rfl 2 (by decide) (hts (.fieldLink RX10 11 "CutAtlas$Widening" "prices" "[[I") (List.mem_of_getElem? (i := 4) rfl)) (fun _ h9 => h9) rfl dB_36_2_6.2.2.1.1 ?_
                  refine lv_iload hx hb dB_36_2_6.2.2.1.2 (lv_at hl 1 rfl) ?_
                  refine va_alda hx hb hG hP 7 rfl (i := y_102) h_105 dB_36_2_6.2.2.2.1 ?_
                  refine lv_topv (v' := .ref (rp y_102.toNatClampNeg)) (gf_at h_105) ?_
                  refine lv_iload hx hb dB_36_2_6.2.2.2.2 (lv_at hl 0 rfl) ?_
                  have h_107 : vp_in y_104 12 := in_I (by first | with_reducible assumption | omega) (by omega)
                  have hPg : va_P D vwCl (([ob10_0_ xw xc xk wpo wc wf, ob0_0_ xc xn xk clo cro c4 c5 c6 c7 c8, ob3_0_ xn vp vn n1 n2 n3 n4 n5, ai_ cy n1 40 fk, ai_ cy n2 40 fs, ai_ cy n3 40 fe, ai_ cy n5 40 fp, aq_ cy 6 wpo 12 (gf_ rp)] : va_W) ++ (gro (cy 0) rp m_rp_3 ++ ([aq_ cy 3 xk 5 (kf_ k0 k1 k2 k3 k4), ob6_0_ k0, ob5_0_ k1, ob9_0_ k2, ob2_0_ k3, ob8_0_ k4] : va_W))) H := hP
                  refine va_gld (X := [ob10_0_ xw xc xk wpo wc wf, ob0_0_ xc xn xk clo cro c4 c5 c6 c7 c8, ob3_0_ xn vp vn n1 n2 n3 n4 n5, ai_ cy n1 40 fk, ai_ cy n2 40 fs, ai_ cy n3 40 fe, ai_ cy n5 40 fp, aq_ cy 6 wpo 12 (gf_ rp)]) (Y := [aq_ cy 3 xk 5 (kf_ k0 k1 k2 k3 k4), ob6_0_ k0, ob5_0_ k1, ob9_0_ k2, ob2_0_ k3, ob8_0_ k4]) (r := rp) (M := m_rp_3) (k := y_102.toNatClampNeg) hx hb hK.1 hPg 0 rfl (in_lt h_105) (i := y_104) h_107 dB_36_2_7.1.1.1.1 ?_
                  refine lv_topi (fun y_108 ey_108 => ?_)
                  refine lv_iload_n hx hb dB_36_2_7.1.1.1.2 rfl (lv_at hl 2 rfl) ?_
                  refine va_mmin hx hb (by rw [hml]; exact hl.1.symm) hown (hts (.methodLink RX10 87 Lib.Math.min.name) (pc_X10_findPrices wsX10_findPrices_r1 (List.mem_of_getElem? (i := 1) rfl) _ (List.mem_of_getElem? (i := 11) rfl))) (hts (.static Lib.Math.min.name) (pc_X10_findPrices wsX10_findPrices_r1 (List.mem_of_getElem? (i := 1) rfl) _ (List.mem_of_getElem? (i := 12) rfl))) (hts (.initialized "java/lang/Math") (pc_X10_findPrices wsX10_findPrices_r1 (List.mem_of_getElem? (i := 1) rfl) _ (List.mem_of_getElem? (i := 13) rfl))) (hts (.code Lib.Math.min.name Lib.Math.min.code 2 (some .int)) (pc_X10_findPrices wsX10_findPrices_r1 (List.mem_of_getElem? (i := 1) rfl) _ (List.mem_of_getElem? (i := 14) rfl))) (Nat.le_of_ble_eq_true rfl) (Nat.le_of_ble_eq_true rfl) (Nat.le_of_ble_eq_true rfl) (Nat.le_of_ble_eq_true rfl) dB_36_2_7.1.1.2.1 ?_
                  refine lv_topi (fun y_109 ey_109 => ?_)
                  have ty_109 : y_109 = y_108 ∨ y_109 = r_93 := by rw [ey_109]; split <;> simp
                  have iy_109 : y_109.toInt = y_108.toInt ∨ y_109.toInt = r_93.toInt := by rcases ty_109 with h | h <;> rw [h] <;> simp
                  have hPg : va_P D vwCl (([ob10_0_ xw xc xk wpo wc wf, ob0_0_ xc xn xk clo cro c4 c5 c6 c7 c8, ob3_0_ xn vp vn n1 n2 n3 n4 n5, ai_ cy n1 40 fk, ai_ cy n2 40 fs, ai_ cy n3 40 fe, ai_ cy n5 40 fp, aq_ cy 6 wpo 12 (gf_ rp)] : va_W) ++ (gro (cy 0) rp m_rp_3 ++ ([aq_ cy 3 xk 5 (kf_ k0 k1 k2 k3 k4), ob6_0_ k0, ob5_0_ k1, ob9_0_ k2, ob2_0_ k3, ob8_0_ k4] : va_W))) H := hP
                  have hDg : va_D A (([ob10_0_ xw xc xk wpo wc wf, ob0_0_ xc xn xk clo cro c4 c5 c6 c7 c8, ob3_0_ xn vp vn n1 n2 n3 n4 n5, ai_ cy n1 40 fk, ai_ cy n2 40 fs, ai_ cy n3 40 fe, ai_ cy n5 40 fp, aq_ cy 6 wpo 12 (gf_ rp)] : va_W) ++ (gro (cy 0) rp m_rp_3 ++ ([aq_ cy 3 xk 5 (kf_ k0 k1 k2 k3 k4), ob6_0_ k0, ob5_0_ k1, ob9_0_ k2, ob2_0_ k3, ob8_0_ k4] : va_W))) := hD
                  refine va_gst (X := [ob10_0_ xw xc xk wpo wc wf, ob0_0_ xc xn xk clo cro c4 c5 c6 c7 c8, ob3_0_ xn vp vn n1 n2 n3 n4 n5, ai_ cy n1 40 fk, ai_ cy n2 40 fs, ai_ cy n3 40 fe, ai_ cy n5 40 fp, aq_ cy 6 wpo 12 (gf_ rp)]) (Y := [aq_ cy 3 xk 5 (kf_ k0 k1 k2 k3 k4), ob6_0_ k0, ob5_0_ k1, ob9_0_ k2, ob2_0_ k3, ob8_0_ k4]) (r := rp) (M := m_rp_3) (k := y_102.toNatClampNeg) hx hb hK.1 hPg hDg hS 0 rfl (in_lt h_105) (i := y_104) h_107 dB_36_2_7.1.1.2.2 (fun H locs hP hD hS => ?_)
                  obtain ⟨M_111, eM_111⟩ : ∃ g : Nat → Nat → Int32, g = va_up m_rp_3 y_102.toNatClampNeg (upd (m_rp_3 y_102.toNatClampNeg) y_104.toNatClampNeg y_109) := ⟨_, rfl⟩
                  refine pd_K (D := D) (cl := vwCl) (H := H) (A := A) [ob10_0_ xw xc xk wpo wc wf, ob0_0_ xc xn xk clo cro c4 c5 c6 c7 c8, ob3_0_ xn vp vn n1 n2 n3 n4 n5, ai_ cy n1 40 fk, ai_ cy n2 40 fs, ai_ cy n3 40 fe, ai_ cy n5 40 fp, aq_ cy 6 wpo 12 (gf_ rp), ai_ cy (rp 0) 12 (M_111 0), ai_ cy (rp 1) 12 (M_111 1), ai_ cy (rp 2) 12 (M_111 2), ai_ cy (rp 3) 12 (M_111 3), ai_ cy (rp 4) 12 (M_111 4), ai_ cy (rp 5) 12 (M_111 5), ai_ cy (rp 6) 12 (M_111 6), ai_ cy (rp 7) 12 (M_111 7), ai_ cy (rp 8) 12 (M_111 8), ai_ cy (rp 9) 12 (M_111 9), ai_ cy (rp 10) 12 (M_111 10), ai_ cy (rp 11) 12 (M_111 11), aq_ cy 3 xk 5 (kf_ k0 k1 k2 k3 k4), ob6_0_ k0, ob5_0_ k1, ob9_0_ k2, ob2_0_ k3, ob8_0_ k4] (by rw [eM_111]; exact hP) (by rw [eM_111]; exact hD) (fun hP hD => ?_)
                  refine lv_aload_n hx hb dB_36_2_7.1.2.1.1 rfl (lv_at hl 5 rfl) ?_
                  refine va_get (ci := 10) (v := .ref wpo) (C := RX10) (T := TX10) (N := 5) hx hb hts (fun _ h => List.mem_cons_of_mem _ (List.mem_append_left _ (List.mem_append_left _ (List.mem_append_right _ h)))) hown hK.1 hP 0 rfl rfl 2 (by decide) (hts (.fieldLink RX10 11 "CutAtlas$Widening" "prices" "[[I") (List.mem_of_getElem? (i := 4) rfl)) (fun _ h9 => h9) rfl dB_36_2_7.1.2.1.2 ?_
                  refine lv_iload hx hb dB_36_2_7.1.2.2.1 (lv_at hl 0 rfl) ?_
                  refine va_alda hx hb hG hP 7 rfl (i := y_104) h_107 dB_36_2_7.1.2.2.2 ?_
                  refine lv_topv (v' := .ref (rp y_104.toNatClampNeg)) (gf_at h_107) ?_
                  refine lv_iload hx hb dB_36_2_7.2.1.1.1 (lv_at hl 1 rfl) ?_
                  refine lv_aload_n hx hb dB_36_2_7.2.1.1.2 rfl (lv_at hl 5 rfl) ?_
                  refine va_get (ci := 10) (v := .ref wpo) (C := RX10) (T := TX10) (N := 5) hx hb hts (fun _ h => List.mem_cons_of_mem _ (List.mem_append_left _ (List.mem_append_left _ (List.mem_append_right _ h)))) hown hK.1 hP 0 rfl rfl 2 (by decide) (hts (.fieldLink RX10 11 "CutAtlas$Widening" "prices" "[[I") (List.mem_of_getElem? (i := 4) rfl)) (fun _ h9 => h9) rfl dB_36_2_7.2.1.2.1 ?_
                  refine lv_iload hx hb dB_36_2_7.2.1.2.2 (lv_at hl 1 rfl) ?_
                  refine va_alda hx hb hG hP 7 rfl (i := y_102) h_105 dB_36_2_7.2.2.1.1 ?_
                  refine lv_topv (v' := .ref (rp y_102.toNatClampNeg)) (gf_at h_105) ?_
                  refine lv_iload hx hb dB_36_2_7.2.2.1.2 (lv_at hl 0 rfl) ?_
                  have hPg : va_P D vwCl (([ob10_0_ xw xc xk wpo wc wf, ob0_0_ xc xn xk clo cro c4 c5 c6 c7 c8, ob3_0_ xn vp vn n1 n2 n3 n4 n5, ai_ cy n1 40 fk, ai_ cy n2 40 fs, ai_ cy n3 40 fe, ai_ cy n5 40 fp, aq_ cy 6 wpo 12 (gf_ rp)] : va_W) ++ (gro (cy 0) rp M_111 ++ ([aq_ cy 3 xk 5 (kf_ k0 k1 k2 k3 k4), ob6_0_ k0, ob5_0_ k1, ob9_0_ k2, ob2_0_ k3, ob8_0_ k4] : va_W))) H := hP
                  refine va_gld (X := [ob10_0_ xw xc xk wpo wc wf, ob0_0_ xc xn xk clo cro c4 c5 c6 c7 c8, ob3_0_ xn vp vn n1 n2 n3 n4 n5, ai_ cy n1 40 fk, ai_ cy n2 40 fs, ai_ cy n3 40 fe, ai_ cy n5 40 fp, aq_ cy 6 wpo 12 (gf_ rp)]) (Y := [aq_ cy 3 xk 5 (kf_ k0 k1 k2 k3 k4), ob6_0_ k0, ob5_0_ k1, ob9_0_ k2, ob2_0_ k3, ob8_0_ k4]) (r := rp) (M := M_111) (k := y_102.toNatClampNeg) hx hb hK.1 hPg 0 rfl (in_lt h_105) (i := y_104) h_107 dB_36_2_7.2.2.2.1 ?_
                  refine lv_topi (fun y_115 ey_115 => ?_)
                  have hPg : va_P D vwCl (([ob10_0_ xw xc xk wpo wc wf, ob0_0_ xc xn xk clo cro c4 c5 c6 c7 c8, ob3_0_ xn vp vn n1 n2 n3 n4 n5, ai_ cy n1 40 fk, ai_ cy n2 40 fs, ai_ cy n3 40 fe, ai_ cy n5 40 fp, aq_ cy 6 wpo 12 (gf_ rp)] : va_W) ++ (gro (cy 0) rp M_111 ++ ([aq_ cy 3 xk 5 (kf_ k0 k1 k2 k3 k4), ob6_0_ k0, ob5_0_ k1, ob9_0_ k2, ob2_0_ k3, ob8_0_ k4] : va_W))) H := hP
                  have hDg : va_D A (([ob10_0_ xw xc xk wpo wc wf, ob0_0_ xc xn xk clo cro c4 c5 c6 c7 c8, ob3_0_ xn vp vn n1 n2 n3 n4 n5, ai_ cy n1 40 fk, ai_ cy n2 40 fs, ai_ cy n3 40 fe, ai_ cy n5 40 fp, aq_ cy 6 wpo 12 (gf_ rp)] : va_W) ++ (gro (cy 0) rp M_111 ++ ([aq_ cy 3 xk 5 (kf_ k0 k1 k2 k3 k4), ob6_0_ k0, ob5_0_ k1, ob9_0_ k2, ob2_0_ k3, ob8_0_ k4] : va_W))) := hD
                  refine va_gst (X := [ob10_0_ xw xc xk wpo wc wf, ob0_0_ xc xn xk clo cro c4 c5 c6 c7 c8, ob3_0_ xn vp vn n1 n2 n3 n4 n5, ai_ cy n1 40 fk, ai_ cy n2 40 fs, ai_ cy n3 40 fe, ai_ cy n5 40 fp, aq_ cy 6 wpo 12 (gf_ rp)]) (Y := [aq_ cy 3 xk 5 (kf_ k0 k1 k2 k3 k4), ob6_0_ k0, ob5_0_ k1, ob9_0_ k2, ob2_0_ k3, ob8_0_ k4]) (r := rp) (M := M_111) (k := y_104.toNatClampNeg) hx hb hK.1 hPg hDg hS 0 rfl (in_lt h_107) (i := y_102) h_105 dB_36_2_7.2.2.2.2 (fun H locs hP hD hS => ?_)
                  obtain ⟨M_117, eM_117⟩ : ∃ g : Nat → Nat → Int32, g = va_up M_111 y_104.toNatClampNeg (upd (M_111 y_104.toNatClampNeg) y_102.toNatClampNeg y_115) := ⟨_, rfl⟩
                  refine pd_K (D := D) (cl := vwCl) (H := H) (A := A) [ob10_0_ xw xc xk wpo wc wf, ob0_0_ xc xn xk clo cro c4 c5 c6 c7 c8, ob3_0_ xn vp vn n1 n2 n3 n4 n5, ai_ cy n1 40 fk, ai_ cy n2 40 fs, ai_ cy n3 40 fe, ai_ cy n5 40 fp, aq_ cy 6 wpo 12 (gf_ rp), ai_ cy (rp 0) 12 (M_117 0), ai_ cy (rp 1) 12 (M_117 1), ai_ cy (rp 2) 12 (M_117 2), ai_ cy (rp 3) 12 (M_117 3), ai_ cy (rp 4) 12 (M_117 4), ai_ cy (rp 5) 12 (M_117 5), ai_ cy (rp 6) 12 (M_117 6), ai_ cy (rp 7) 12 (M_117 7), ai_ cy (rp 8) 12 (M_117 8), ai_ cy (rp 9) 12 (M_117 9), ai_ cy (rp 10) 12 (M_117 10), ai_ cy (rp 11) 12 (M_117 11), aq_ cy 3 xk 5 (kf_ k0 k1 k2 k3 k4), ob6_0_ k0, ob5_0_ k1, ob9_0_ k2, ob2_0_ k3, ob8_0_ k4] (by rw [eM_117]; exact hP) (by rw [eM_117]; exact hD) (fun hP hD => ?_)
                  obtain ⟨y_118, ey_118⟩ : ∃ y : Int32, y = x2_3 + 1 := ⟨_, rfl⟩
                  have ty_118 : y_118.toInt = x2_3.toInt + (1 : Int32).toInt := by rw [ey_118]; exact addI (by omega) (by omega)
                  refine lv_iinc (v := y_118) (lv' := [(2, .int y_118), (5, .int y_104), (4, .int y_102), (3, .int r_93), (1, .ref xn), (0, .ref xw)]) hx hb dB_36_2_8.1 hl (k := 3) rfl (by rw [ey_118]; rfl) (by decide) rfl (fun ls hl => ?_)
                  refine lv_goto (tgt := 37) hx hb dB_36_2_8.2.1 (by decide) ?_
                  exact ih_3 y_118 M_117 _ _ _ (by omega) (by first | with_reducible assumption | omega | assumption) (by first | with_reducible assumption | omega | assumption) ⟨hP, hD⟩ hS (lv_sub hl [0, 4, 5] rfl)
          · refine va_aldq hx hb hK.1 hP 20 3 rfl rfl (i := 4) (by unfold vp_in; decide) dB_36_2_4.2.2.2.1 ?_
            refine lv_topv (v' := .ref k4) (by simp [va_up, va_rf, mf_, cl_0, cl_1, cl_2, cl_3, cl_4, kf_]) ?_
            refine lv_aload_n hx hb dB_36_2_4.2.2.2.2 rfl (lv_at hl 1 rfl) ?_
            refine va_get (ci := 3) (v := .ref n5) (C := RX3) (T := TX3) (N := 7) hx hb hts (fun _ h => List.mem_cons_of_mem _ (List.mem_append_right _ h)) hown hK.1 hP 2 rfl rfl 6 (by decide) (hts (.fieldLink RX10 70 "CutAtlas$Net" "prices" "[I") (List.mem_of_getElem? (i := 9) rfl)) (fun _ h9 => h9) rfl dB_36_2_5.1.1.1.1 ?_
            refine lv_iload_n hx hb dB_36_2_5.1.1.1.2 rfl (lv_at hl 0 rfl) ?_
            refine va_iald hx hb hK.1 hP 6 0 rfl rfl (i := x2_3) h_5 dB_36_2_5.1.1.2.1 ?_
            refine lv_topi (fun y_120 ey_120 => ?_)
            refine ct_R hP hD [ob8_0_ k4] [25] (by decide) rfl (fun hPc hDw => ?_)
            have hFc := va_free (wc := []) hD hS hA [] rfl
            refine va_calli (va_runU (As := [.int y_120]) (rest := []) ⟨hx, hb, hml, hown, hts⟩ (c_X8_costs l D cy H.size k4 y_120) (va_cwO 1 hts gX10_findPrices_X8_costs_u72X8 rfl rfl rfl (b0 := cX6_costs) (m0 := 2) (r0 := (some .int)) (by decide +kernel) (by decide +kernel) ⟨Nat.le_of_ble_eq_true rfl, Nat.le_of_ble_eq_true rfl⟩) ⟨bl_, va_recvX hK.1 hP (ci := 8) (q0 := 25) rfl rfl, fun U hU hW => ⟨rfl, by rw [hU], by rw [hU]; exact hPc, kk_mv hW hK, hDw⟩⟩ rfl rfl hl.1 rfl (lv_room (Nat.le_of_ble_eq_true rfl)) dB_36_2_5.1.1.2.2 ⟨Nat.le_of_ble_eq_true rfl, Nat.le_of_ble_eq_true rfl⟩) hS (fun q _ h => hFc q h) hFc (fun r_121 u t H locs ht hvm hw hB hz1 hk1 hS => ?_)
            have hP : va_P D vwCl _ H := ro_keep hP hk1
            refine lv_istore_n (lv' := [(3, .int r_121), (2, .int x2_3), (1, .ref xn), (0, .ref xw)]) hx hb dB_36_2_5.1.2.1.1 rfl hl (by decide) rfl (fun ls hl => ?_)
            refine lv_iload_n hx hb dB_36_2_5.1.2.1.2 rfl (lv_at hl 0 rfl) ?_
            refine lv_bipush (v := (-9)) hx hb dB_36_2_5.1.2.2.1 (by decide) ?_
            refine lv_icmp_eq (tgt := 140) hx hb dB_36_2_5.1.2.2.2 (by decide) (fun c_122 => ?_) (fun c_122 => ?_)
            · have t_122 : r_121.toInt = ((-9) : Int32).toInt := congrArg Int32.toInt c_122
              obtain ⟨y_123, ey_123⟩ : ∃ y : Int32, y = x2_3 + 1 := ⟨_, rfl⟩
              have ty_123 : y_123.toInt = x2_3.toInt + (1 : Int32).toInt := by rw [ey_123]; exact addI (by omega) (by omega)
              refine lv_iinc (v := y_123) (lv' := [(2, .int y_123), (3, .int r_121), (1, .ref xn), (0, .ref xw)]) hx hb dB_36_2_8.1 hl (k := 1) rfl (by rw [ey_123]; rfl) (by decide) rfl (fun ls hl => ?_)
              refine lv_goto (tgt := 37) hx hb dB_36_2_8.2.1 (by decide) ?_
              exact ih_3 y_123 m_rp_3 _ _ _ (by omega) (by first | with_reducible assumption | omega | assumption) (by first | with_reducible assumption | omega | assumption) ⟨hP, hD⟩ hS (lv_sub hl [0, 2, 3] rfl)
            · have t_122 : ¬ r_121.toInt = ((-9) : Int32).toInt := fun h => c_122 (Int32.toInt_inj.mp h)
              refine lv_aload_n hx hb dB_36_2_5.2.1.1.1 rfl (lv_at hl 2 rfl) ?_
              refine lv_iload_n hx hb dB_36_2_5.2.1.1.2 rfl (lv_at hl 1 rfl) ?_
              refine ct_R hP hD [ob3_0_ xn vp vn n1 n2 n3 n4 n5, ai_ cy n2 40 fs] [2, 4] (by decide) rfl (fun hPc hDw => ?_)
              have hFc := va_free (wc := []) hD hS hA [] rfl
              refine va_calli (va_runV (As := [.int x2_3]) (rest := []) ⟨hx, hb, hml, hown, hts⟩ (c_X3_isMissing l D cy H.size xn n1 n2 n3 n4 n5 vp vn fs x2_3 (by first | with_reducible assumption | omega | assumption)) (cwV 1 hts gX10_findPrices_X3_isMissing rfl rfl rfl ⟨rfl, hd_X3_isMissing⟩ ⟨Nat.le_of_ble_eq_true rfl, Nat.le_of_ble_eq_true rfl⟩) ⟨bl_, va_recvX hK.1 hP (ci := 3) (q0 := 2) rfl rfl, fun U hU hW => ⟨rfl, by rw [hU], by rw [hU]; exact hPc, kk_mv hW hK, hDw⟩⟩ rfl rfl hl.1 rfl (lv_room (Nat.le_of_ble_eq_true rfl)) dB_36_2_5.2.1.2.1 ⟨Nat.le_of_ble_eq_true rfl, Nat.le_of_ble_eq_true rfl⟩) hS (fun q _ h => hFc q h) hFc (fun r_124 u t H locs ht hvm hw hB hz1 hk1 hS => ?_)
              have hP : va_P D vwCl _ H := ro_keep hP hk1
              rcases hw with ⟨w_125, e_⟩ | ⟨w_125, e_⟩
              · have e_ := e_.symm
                subst e_
                refine lv_if_ne (tgt := 140) hx hb dB_36_2_5.2.1.2.2 (by decide) (fun c_126 => ?_) (fun c_126 => ?_)
                · have _ := c_126
                  obtain ⟨y_127, ey_127⟩ : ∃ y : Int32, y = x2_3 + 1 := ⟨_, rfl⟩
                  have ty_127 : y_127.toInt = x2_3.toInt + (1 : Int32).toInt := by rw [ey_127]; exact addI (by omega) (by omega)
                  refine lv_iinc (v := y_127) (lv' := [(2, .int y_127), (3, .int r_121), (1, .ref xn), (0, .ref xw)]) hx hb dB_36_2_8.1 hl (k := 1) rfl (by rw [ey_127]; rfl) (by decide) rfl (fun ls hl => ?_)
                  refine lv_goto (tgt := 37) hx hb dB_36_2_8.2.1 (by decide) ?_
                  exact ih_3 y_127 m_rp_3 _ _ _ (by omega) (by first | with_reducible assumption | omega | assumption) (by first | with_reducible assumption | omega | assumption) ⟨hP, hD⟩ hS (lv_sub hl [0, 2, 3] rfl)
                · exact absurd c_126 (by decide)
              · have e_ := e_.symm
                subst e_
                refine lv_if_ne (tgt := 140) hx hb dB_36_2_5.2.1.2.2 (by decide) (fun c_128 => ?_) (fun c_128 => ?_)
                · exact absurd c_128 (by decide)
                · have _ := c_128
                  refine lv_aload_n hx hb dB_36_2_5.2.2.1.1 rfl (lv_at hl 2 rfl) ?_
                  refine va_get (ci := 3) (v := .ref n2) (C := RX3) (T := TX3) (N := 7) hx hb hts (fun _ h => List.mem_cons_of_mem _ (List.mem_append_right _ h)) hown hK.1 hP 2 rfl rfl 3 (by decide) (hts (.fieldLink RX10 81 "CutAtlas$Net" "starts" "[I") (List.mem_of_getElem? (i := 10) rfl)) (fun _ h9 => h9) rfl dB_36_2_5.2.2.1.2 ?_
                  refine lv_iload_n hx hb dB_36_2_5.2.2.2.1 rfl (lv_at hl 1 rfl) ?_
                  refine va_iald hx hb hK.1 hP 4 0 rfl rfl (i := x2_3) h_5 dB_36_2_5.2.2.2.2 ?_
                  refine lv_topi (fun y_130 ey_130 => ?_)
                  have ry_130 := hpr _ (in_lt h_5)
                  have jy_130 : y_130.toInt = (fs x2_3.toNatClampNeg).toInt := by rw [ey_130]
                  refine lv_istore (lv' := [(4, .int y_130), (3, .int r_121), (2, .int x2_3), (1, .ref xn), (0, .ref xw)]) hx hb dB_36_2_6.1.1.1.1 hl (by decide) rfl (fun ls hl => ?_)
                  refine lv_aload_n hx hb dB_36_2_6.1.1.1.2 rfl (lv_at hl 3 rfl) ?_
                  refine va_get (ci := 3) (v := .ref n3) (C := RX3) (T := TX3) (N := 7) hx hb hts (fun _ h => List.mem_cons_of_mem _ (List.mem_append_right _ h)) hown hK.1 hP 2 rfl rfl 4 (by decide) (hts (.fieldLink RX10 84 "CutAtlas$Net" "ends" "[I") (List.mem_of_getElem? (i := 11) rfl)) (fun _ h9 => h9) rfl dB_36_2_6.1.1.2.1 ?_
                  refine lv_iload_n hx hb dB_36_2_6.1.1.2.2 rfl (lv_at hl 2 rfl) ?_
                  refine va_iald hx hb hK.1 hP 5 0 rfl rfl (i := x2_3) h_5 dB_36_2_6.1.2.1.1 ?_
                  refine lv_topi (fun y_132 ey_132 => ?_)
                  have ry_132 := hpr _ (in_lt h_5)
                  have jy_132 : y_132.toInt = (fe x2_3.toNatClampNeg).toInt := by rw [ey_132]
                  refine lv_istore (lv' := [(5, .int y_132), (4, .int y_130), (3, .int r_121), (2, .int x2_3), (1, .ref xn), (0, .ref xw)]) hx hb dB_36_2_6.1.2.1.2 hl (by decide) rfl (fun ls hl => ?_)
                  refine lv_aload_n hx hb dB_36_2_6.1.2.2.1 rfl (lv_at hl 5 rfl) ?_
                  refine va_get (ci := 10) (v := .ref wpo) (C := RX10) (T := TX10) (N := 5) hx hb hts (fun _ h => List.mem_cons_of_mem _ (List.mem_append_left _ (List.mem_append_left _ (List.mem_append_right _ h)))) hown hK.1 hP 0 rfl rfl 2 (by decide) (hts (.fieldLink RX10 11 "CutAtlas$Widening" "prices" "[[I") (List.mem_of_getElem? (i := 4) rfl)) (fun _ h9 => h9) rfl dB_36_2_6.1.2.2.2 ?_
                  refine lv_iload hx hb dB_36_2_6.2.1.1.1 (lv_at hl 1 rfl) ?_
                  have h_133 : vp_in y_130 12 := in_I (by first | with_reducible assumption | omega) (by omega)
                  refine va_alda hx hb hG hP 7 rfl (i := y_130) h_133 dB_36_2_6.2.1.1.2 ?_
                  refine lv_topv (v' := .ref (rp y_130.toNatClampNeg)) (gf_at h_133) ?_
                  refine lv_iload hx hb dB_36_2_6.2.1.2.1 (lv_at hl 0 rfl) ?_
                  refine lv_aload_n hx hb dB_36_2_6.2.1.2.2 rfl (lv_at hl 5 rfl) ?_
                  refine va_get (ci := 10) (v := .ref wpo) (C := RX10) (T := TX10) (N := 5) hx hb hts (fun _ h => List.mem_cons_of_mem _ (List.mem_append_left _ (List.mem_append_left _ (List.mem_append_right _ h)))) hown hK.1 hP 0 rfl rfl 2 (by decide) (hts (.fieldLink RX10 11 "CutAtlas$Widening" "prices" "[[I") (List.mem_of_getElem? (i := 4) rfl)) (fun _ h9 => h9) rfl dB_36_2_6.2.2.1.1 ?_
                  refine lv_iload hx hb dB_36_2_6.2.2.1.2 (lv_at hl 1 rfl) ?_
                  refine va_alda hx hb hG hP 7 rfl (i := y_130) h_133 dB_36_2_6.2.2.2.1 ?_
                  refine lv_topv (v' := .ref (rp y_130.toNatClampNeg)) (gf_at h_133) ?_
                  refine lv_iload hx hb dB_36_2_6.2.2.2.2 (lv_at hl 0 rfl) ?_
                  have h_135 : vp_in y_132 12 := in_I (by first | with_reducible assumption | omega) (by omega)
                  have hPg : va_P D vwCl (([ob10_0_ xw xc xk wpo wc wf, ob0_0_ xc xn xk clo cro c4 c5 c6 c7 c8, ob3_0_ xn vp vn n1 n2 n3 n4 n5, ai_ cy n1 40 fk, ai_ cy n2 40 fs, ai_ cy n3 40 fe, ai_ cy n5 40 fp, aq_ cy 6 wpo 12 (gf_ rp)] : va_W) ++ (gro (cy 0) rp m_rp_3 ++ ([aq_ cy 3 xk 5 (kf_ k0 k1 k2 k3 k4), ob6_0_ k0, ob5_0_ k1, ob9_0_ k2, ob2_0_ k3, ob8_0_ k4] : va_W))) H := hP
                  refine va_gld (X := [ob10_0_ xw xc xk wpo wc wf, ob0_0_ xc xn xk clo cro c4 c5 c6 c7 c8, ob3_0_ xn vp vn n1 n2 n3 n4 n5, ai_ cy n1 40 fk, ai_ cy n2 40 fs, ai_ cy n3 40 fe, ai_ cy n5 40 fp, aq_ cy 6 wpo 12 (gf_ rp)]) (Y := [aq_ cy 3 xk 5 (kf_ k0 k1 k2 k3 k4), ob6_0_ k0, ob5_0_ k1, ob9_0_ k2, ob2_0_ k3, ob8_0_ k4]) (r := rp) (M := m_rp_3) (k := y_130.toNatClampNeg) hx hb hK.1 hPg 0 rfl (in_lt h_133) (i := y_132) h_135 dB_36_2_7.1.1.1.1 ?_
                  refine lv_topi (fun y_136 ey_136 => ?_)
                  refine lv_iload_n hx hb dB_36_2_7.1.1.1.2 rfl (lv_at hl 2 rfl) ?_
                  refine va_mmin hx hb (by rw [hml]; exact hl.1.symm) hown (hts (.methodLink RX10 87 Lib.Math.min.name) (pc_X10_findPrices wsX10_findPrices_r1 (List.mem_of_getElem? (i := 1) rfl) _ (List.mem_of_getElem? (i := 11) rfl))) (hts (.static Lib.Math.min.name) (pc_X10_findPrices wsX10_findPrices_r1 (List.mem_of_getElem? (i := 1) rfl) _ (List.mem_of_getElem? (i := 12) rfl))) (hts (.initialized "java/lang/Math") (pc_X10_findPrices wsX10_findPrices_r1 (List.mem_of_getElem? (i := 1) rfl) _ (List.mem_of_getElem? (i := 13) rfl))) (hts (.code Lib.Math.min.name Lib.Math.min.code 2 (some .int)) (pc_X10_findPrices wsX10_findPrices_r1 (List.mem_of_getElem? (i := 1) rfl) _ (List.mem_of_getElem? (i := 14) rfl))) (Nat.le_of_ble_eq_true rfl) (Nat.le_of_ble_eq_true rfl) (Nat.le_of_ble_eq_true rfl) (Nat.le_of_ble_eq_true rfl) dB_36_2_7.1.1.2.1 ?_
                  refine lv_topi (fun y_137 ey_137 => ?_)
                  have ty_137 : y_137 = y_136 ∨ y_137 = r_121 := by rw [ey_137]; split <;> simp
                  have iy_137 : y_137.toInt = y_136.toInt ∨ y_137.toInt = r_121.toInt := by rcases ty_137 with h | h <;> rw [h] <;> simp
                  have hPg : va_P D vwCl (([ob10_0_ xw xc xk wpo wc wf, ob0_0_ xc xn xk clo cro c4 c5 c6 c7 c8, ob3_0_ xn vp vn n1 n2 n3 n4 n5, ai_ cy n1 40 fk, ai_ cy n2 40 fs, ai_ cy n3 40 fe, ai_ cy n5 40 fp, aq_ cy 6 wpo 12 (gf_ rp)] : va_W) ++ (gro (cy 0) rp m_rp_3 ++ ([aq_ cy 3 xk 5 (kf_ k0 k1 k2 k3 k4), ob6_0_ k0, ob5_0_ k1, ob9_0_ k2, ob2_0_ k3, ob8_0_ k4] : va_W))) H := hP
                  have hDg : va_D A (([ob10_0_ xw xc xk wpo wc wf, ob0_0_ xc xn xk clo cro c4 c5 c6 c7 c8, ob3_0_ xn vp vn n1 n2 n3 n4 n5, ai_ cy n1 40 fk, ai_ cy n2 40 fs, ai_ cy n3 40 fe, ai_ cy n5 40 fp, aq_ cy 6 wpo 12 (gf_ rp)] : va_W) ++ (gro (cy 0) rp m_rp_3 ++ ([aq_ cy 3 xk 5 (kf_ k0 k1 k2 k3 k4), ob6_0_ k0, ob5_0_ k1, ob9_0_ k2, ob2_0_ k3, ob8_0_ k4] : va_W))) := hD
                  refine va_gst (X := [ob10_0_ xw xc xk wpo wc wf, ob0_0_ xc xn xk clo cro c4 c5 c6 c7 c8, ob3_0_ xn vp vn n1 n2 n3 n4 n5, ai_ cy n1 40 fk, ai_ cy n2 40 fs, ai_ cy n3 40 fe, ai_ cy n5 40 fp, aq_ cy 6 wpo 12 (gf_ rp)]) (Y := [aq_ cy 3 xk 5 (kf_ k0 k1 k2 k3 k4), ob6_0_ k0, ob5_0_ k1, ob9_0_ k2, ob2_0_ k3, ob8_0_ k4]) (r := rp) (M := m_rp_3) (k := y_130.toNatClampNeg) hx hb hK.1 hPg hDg hS 0 rfl (in_lt h_133) (i := y_132) h_135 dB_36_2_7.1.1.2.2 (fun H locs hP hD hS => ?_)
                  obtain ⟨M_139, eM_139⟩ : ∃ g : Nat → Nat → Int32, g = va_up m_rp_3 y_130.toNatClampNeg (upd (m_rp_3 y_130.toNatClampNeg) y_132.toNatClampNeg y_137) := ⟨_, rfl⟩
                  refine pd_K (D := D) (cl := vwCl) (H := H) (A := A) [ob10_0_ xw xc xk wpo wc wf, ob0_0_ xc xn xk clo cro c4 c5 c6 c7 c8, ob3_0_ xn vp vn n1 n2 n3 n4 n5, ai_ cy n1 40 fk, ai_ cy n2 40 fs, ai_ cy n3 40 fe, ai_ cy n5 40 fp, aq_ cy 6 wpo 12 (gf_ rp), ai_ cy (rp 0) 12 (M_139 0), ai_ cy (rp 1) 12 (M_139 1), ai_ cy (rp 2) 12 (M_139 2), ai_ cy (rp 3) 12 (M_139 3), ai_ cy (rp 4) 12 (M_139 4), ai_ cy (rp 5) 12 (M_139 5), ai_ cy (rp 6) 12 (M_139 6), ai_ cy (rp 7) 12 (M_139 7), ai_ cy (rp 8) 12 (M_139 8), ai_ cy (rp 9) 12 (M_139 9), ai_ cy (rp 10) 12 (M_139 10), ai_ cy (rp 11) 12 (M_139 11), aq_ cy 3 xk 5 (kf_ k0 k1 k2 k3 k4), ob6_0_ k0, ob5_0_ k1, ob9_0_ k2, ob2_0_ k3, ob8_0_ k4] (by rw [eM_139]; exact hP) (by rw [eM_139]; exact hD) (fun hP hD => ?_)
                  refine lv_aload_n hx hb dB_36_2_7.1.2.1.1 rfl (lv_at hl 5 rfl) ?_
                  refine va_get (ci := 10) (v := .ref wpo) (C := RX10) (T := TX10) (N := 5) hx hb hts (fun _ h => List.mem_cons_of_mem _ (List.mem_append_left _ (List.mem_append_left _ (List.mem_append_right _ h)))) hown hK.1 hP 0 rfl rfl 2 (by decide) (hts (.fieldLink RX10 11 "CutAtlas$Widening" "prices" "[[I") (List.mem_of_getElem? (i := 4) rfl)) (fun _ h9 => h9) rfl dB_36_2_7.1.2.1.2 ?_
                  refine lv_iload hx hb dB_36_2_7.1.2.2.1 (lv_at hl 0 rfl) ?_
                  refine va_alda hx hb hG hP 7 rfl (i := y_132) h_135 dB_36_2_7.1.2.2.2 ?_
                  refine lv_topv (v' := .ref (rp y_132.toNatClampNeg)) (gf_at h_135) ?_
                  refine lv_iload hx hb dB_36_2_7.2.1.1.1 (lv_at hl 1 rfl) ?_
                  refine lv_aload_n hx hb dB_36_2_7.2.1.1.2 rfl (lv_at hl 5 rfl) ?_
                  refine va_get (ci := 10) (v := .ref wpo) (C := RX10) (T := TX10) (N := 5) hx hb hts (fun _ h => List.mem_cons_of_mem _ (List.mem_append_left _ (List.mem_append_left _ (List.mem_append_right _ h)))) hown hK.1 hP 0 rfl rfl 2 (by decide) (hts (.fieldLink RX10 11 "CutAtlas$Widening" "prices" "[[I") (List.mem_of_getElem? (i := 4) rfl)) (fun _ h9 => h9) rfl dB_36_2_7.2.1.2.1 ?_
                  refine lv_iload hx hb dB_36_2_7.2.1.2.2 (lv_at hl 1 rfl) ?_
                  refine va_alda hx hb hG hP 7 rfl (i := y_130) h_133 dB_36_2_7.2.2.1.1 ?_
                  refine lv_topv (v' := .ref (rp y_130.toNatClampNeg)) (gf_at h_133) ?_
                  refine lv_iload hx hb dB_36_2_7.2.2.1.2 (lv_at hl 0 rfl) ?_
                  have hPg : va_P D vwCl (([ob10_0_ xw xc xk wpo wc wf, ob0_0_ xc xn xk clo cro c4 c5 c6 c7 c8, ob3_0_ xn vp vn n1 n2 n3 n4 n5, ai_ cy n1 40 fk, ai_ cy n2 40 fs, ai_ cy n3 40 fe, ai_ cy n5 40 fp, aq_ cy 6 wpo 12 (gf_ rp)] : va_W) ++ (gro (cy 0) rp M_139 ++ ([aq_ cy 3 xk 5 (kf_ k0 k1 k2 k3 k4), ob6_0_ k0, ob5_0_ k1, ob9_0_ k2, ob2_0_ k3, ob8_0_ k4] : va_W))) H := hP
                  refine va_gld (X := [ob10_0_ xw xc xk wpo wc wf, ob0_0_ xc xn xk clo cro c4 c5 c6 c7 c8, ob3_0_ xn vp vn n1 n2 n3 n4 n5, ai_ cy n1 40 fk, ai_ cy n2 40 fs, ai_ cy n3 40 fe, ai_ cy n5 40 fp, aq_ cy 6 wpo 12 (gf_ rp)]) (Y := [aq_ cy 3 xk 5 (kf_ k0 k1 k2 k3 k4), ob6_0_ k0, ob5_0_ k1, ob9_0_ k2, ob2_0_ k3, ob8_0_ k4]) (r := rp) (M := M_139) (k := y_130.toNatClampNeg) hx hb hK.1 hPg 0 rfl (in_lt h_133) (i := y_132) h_135 dB_36_2_7.2.2.2.1 ?_
                  refine lv_topi (fun y_143 ey_143 => ?_)
                  have hPg : va_P D vwCl (([ob10_0_ xw xc xk wpo wc wf, ob0_0_ xc xn xk clo cro c4 c5 c6 c7 c8, ob3_0_ xn vp vn n1 n2 n3 n4 n5, ai_ cy n1 40 fk, ai_ cy n2 40 fs, ai_ cy n3 40 fe, ai_ cy n5 40 fp, aq_ cy 6 wpo 12 (gf_ rp)] : va_W) ++ (gro (cy 0) rp M_139 ++ ([aq_ cy 3 xk 5 (kf_ k0 k1 k2 k3 k4), ob6_0_ k0, ob5_0_ k1, ob9_0_ k2, ob2_0_ k3, ob8_0_ k4] : va_W))) H := hP
                  have hDg : va_D A (([ob10_0_ xw xc xk wpo wc wf, ob0_0_ xc xn xk clo cro c4 c5 c6 c7 c8, ob3_0_ xn vp vn n1 n2 n3 n4 n5, ai_ cy n1 40 fk, ai_ cy n2 40 fs, ai_ cy n3 40 fe, ai_ cy n5 40 fp, aq_ cy 6 wpo 12 (gf_ rp)] : va_W) ++ (gro (cy 0) rp M_139 ++ ([aq_ cy 3 xk 5 (kf_ k0 k1 k2 k3 k4), ob6_0_ k0, ob5_0_ k1, ob9_0_ k2, ob2_0_ k3, ob8_0_ k4] : va_W))) := hD
                  refine va_gst (X := [ob10_0_ xw xc xk wpo wc wf, ob0_0_ xc xn xk clo cro c4 c5 c6 c7 c8, ob3_0_ xn vp vn n1 n2 n3 n4 n5, ai_ cy n1 40 fk, ai_ cy n2 40 fs, ai_ cy n3 40 fe, ai_ cy n5 40 fp, aq_ cy 6 wpo 12 (gf_ rp)]) (Y := [aq_ cy 3 xk 5 (kf_ k0 k1 k2 k3 k4), ob6_0_ k0, ob5_0_ k1, ob9_0_ k2, ob2_0_ k3, ob8_0_ k4]) (r := rp) (M := M_139) (k := y_132.toNatClampNeg) hx hb hK.1 hPg hDg hS 0 rfl (in_lt h_135) (i := y_130) h_133 dB_36_2_7.2.2.2.2 (fun H locs hP hD hS => ?_)
                  obtain ⟨M_145, eM_145⟩ : ∃ g : Nat → Nat → Int32, g = va_up M_139 y_132.toNatClampNeg (upd (M_139 y_132.toNatClampNeg) y_130.toNatClampNeg y_143) := ⟨_, rfl⟩
                  refine pd_K (D := D) (cl := vwCl) (H := H) (A := A) [ob10_0_ xw xc xk wpo wc wf, ob0_0_ xc xn xk clo cro c4 c5 c6 c7 c8, ob3_0_ xn vp vn n1 n2 n3 n4 n5, ai_ cy n1 40 fk, ai_ cy n2 40 fs, ai_ cy n3 40 fe, ai_ cy n5 40 fp, aq_ cy 6 wpo 12 (gf_ rp), ai_ cy (rp 0) 12 (M_145 0), ai_ cy (rp 1) 12 (M_145 1), ai_ cy (rp 2) 12 (M_145 2), ai_ cy (rp 3) 12 (M_145 3), ai_ cy (rp 4) 12 (M_145 4), ai_ cy (rp 5) 12 (M_145 5), ai_ cy (rp 6) 12 (M_145 6), ai_ cy (rp 7) 12 (M_145 7), ai_ cy (rp 8) 12 (M_145 8), ai_ cy (rp 9) 12 (M_145 9), ai_ cy (rp 10) 12 (M_145 10), ai_ cy (rp 11) 12 (M_145 11), aq_ cy 3 xk 5 (kf_ k0 k1 k2 k3 k4), ob6_0_ k0, ob5_0_ k1, ob9_0_ k2, ob2_0_ k3, ob8_0_ k4] (by rw [eM_145]; exact hP) (by rw [eM_145]; exact hD) (fun hP hD => ?_)
                  obtain ⟨y_146, ey_146⟩ : ∃ y : Int32, y = x2_3 + 1 := ⟨_, rfl⟩
                  have ty_146 : y_146.toInt = x2_3.toInt + (1 : Int32).toInt := by rw [ey_146]; exact addI (by omega) (by omega)
                  refine lv_iinc (v := y_146) (lv' := [(2, .int y_146), (5, .int y_132), (4, .int y_130), (3, .int r_121), (1, .ref xn), (0, .ref xw)]) hx hb dB_36_2_8.1 hl (k := 3) rfl (by rw [ey_146]; rfl) (by decide) rfl (fun ls hl => ?_)
                  refine lv_goto (tgt := 37) hx hb dB_36_2_8.2.1 (by decide) ?_
                  exact ih_3 y_146 M_145 _ _ _ (by omega) (by first | with_reducible assumption | omega | assumption) (by first | with_reducible assumption | omega | assumption) ⟨hP, hD⟩ hS (lv_sub hl [0, 4, 5] rfl)
    · have t_2 : ¬ vp.toInt ≤ x2_1.toInt := fun h => c_2 (Int32.le_iff_toInt_le.mpr h)
      rcases sp_12 (x := x2_1) (by omega) with rfl | rfl | rfl | rfl | rfl | rfl | rfl | rfl | rfl | rfl | rfl | rfl
      · refine lv_aload_n hx hb dB_36_2_3.2.1.2.1 rfl (lv_at hl 2 rfl) ?_
        refine va_get (ci := 10) (v := .ref wpo) (C := RX10) (T := TX10) (N := 5) hx hb hts (fun _ h => List.mem_cons_of_mem _ (List.mem_append_left _ (List.mem_append_left _ (List.mem_append_right _ h)))) hown hK.1 hP 0 rfl rfl 2 (by decide) (hts (.fieldLink RX10 11 "CutAtlas$Widening" "prices" "[[I") (List.mem_of_getElem? (i := 4) rfl)) (fun _ h9 => h9) rfl dB_36_2_3.2.1.2.2 ?_
        refine lv_iload_n hx hb dB_36_2_3.2.2.1.1 rfl (lv_at hl 0 rfl) ?_
        have h_147 : vp_in (0 : Int32) 12 := by unfold vp_in; decide
        refine va_alda hx hb hG hP 7 rfl (i := 0) h_147 dB_36_2_3.2.2.1.2 ?_
        refine lv_topv (v' := .ref (rp 0)) (gf_at h_147) ?_
        refine lv_ldc (v := 1000000000) hx hb hown (hts (.constant RX10 38 (1000000000)) (List.mem_of_getElem? (i := 5) rfl)) dB_36_2_3.2.2.2.1 ?_
        refine ct_S hP hD hS hA [ai_ cy (rp 0) 12 (m_rp_1 0)] [8] (by decide) rfl (fun hPc hDw hFc hC_ => ?_)
        refine va_callv (va_runS (As := [.ref (rp 0), .int 1000000000]) (rest := []) ⟨hx, hb, hml, hown, hts⟩ (c_J7_fill_53178 l D cy H.size (rp 0) 12 (1000000000 : Int32) (m_rp_1 0) (by first | with_reducible assumption | assumption | omega)) (va_cwS 2 hts gX10_findPrices_J7_fill_53178 rfl rfl rfl hd_J7_fill_53178 ⟨Nat.le_of_ble_eq_true rfl, Nat.le_of_ble_eq_true rfl⟩) ⟨bl_, fun U hU hW => ⟨rfl, by rw [hU], by rw [hU]; exact hPc, kk_mv hW hK, hDw⟩⟩ rfl rfl hl.1 rfl (lv_room (Nat.le_of_ble_eq_true rfl)) dB_36_2_3.2.2.2.2 ⟨Nat.le_of_ble_eq_true rfl, Nat.le_of_ble_eq_true rfl⟩) hS (fun q _ h => hFc q h) hFc (fun u t H locs ht hvm hw hB hz1 hk1 hS => ?_)
        obtain ⟨e1_149, g_150, hP1, hD1⟩ := hB
        rw [ht] at hP1
        obtain ⟨hP, hD⟩ := va_join (wr := [ob10_0_ xw xc xk wpo wc wf, ob0_0_ xc xn xk clo cro c4 c5 c6 c7 c8, ob3_0_ xn vp vn n1 n2 n3 n4 n5, ai_ cy n1 40 fk, ai_ cy n2 40 fs, ai_ cy n3 40 fe, ai_ cy n5 40 fp, aq_ cy 6 wpo 12 (gf_ rp), ai_ cy (rp 1) 12 (m_rp_1 1), ai_ cy (rp 2) 12 (m_rp_1 2), ai_ cy (rp 3) 12 (m_rp_1 3), ai_ cy (rp 4) 12 (m_rp_1 4), ai_ cy (rp 5) 12 (m_rp_1 5), ai_ cy (rp 6) 12 (m_rp_1 6), ai_ cy (rp 7) 12 (m_rp_1 7), ai_ cy (rp 8) 12 (m_rp_1 8), ai_ cy (rp 9) 12 (m_rp_1 9), ai_ cy (rp 10) 12 (m_rp_1 10), ai_ cy (rp 11) 12 (m_rp_1 11), aq_ cy 3 xk 5 (kf_ k0 k1 k2 k3 k4), ob6_0_ k0, ob5_0_ k1, ob9_0_ k2, ob2_0_ k3, ob8_0_ k4]) (w1 := [ai_ cy (rp 0) 12 e1_149]) hP hD [8] [0, 1, 2, 3, 4, 5, 6, 7, 9, 10, 11, 12, 13, 14, 15, 16, 17, 18, 19, 20, 21, 22, 23, 24, 25] hC_ rfl (by decide +kernel) (by decide +kernel) hk1 hFc hP1 hD1
        refine pd_S hP hD [ob10_0_ xw xc xk wpo wc wf, ob0_0_ xc xn xk clo cro c4 c5 c6 c7 c8, ob3_0_ xn vp vn n1 n2 n3 n4 n5, ai_ cy n1 40 fk, ai_ cy n2 40 fs, ai_ cy n3 40 fe, ai_ cy n5 40 fp, aq_ cy 6 wpo 12 (gf_ rp), ai_ cy (rp 0) 12 e1_149, ai_ cy (rp 1) 12 (m_rp_1 1), ai_ cy (rp 2) 12 (m_rp_1 2), ai_ cy (rp 3) 12 (m_rp_1 3), ai_ cy (rp 4) 12 (m_rp_1 4), ai_ cy (rp 5) 12 (m_rp_1 5), ai_ cy (rp 6) 12 (m_rp_1 6), ai_ cy (rp 7) 12 (m_rp_1 7), ai_ cy (rp 8) 12 (m_rp_1 8), ai_ cy (rp 9) 12 (m_rp_1 9), ai_ cy (rp 10) 12 (m_rp_1 10), ai_ cy (rp 11) 12 (m_rp_1 11), aq_ cy 3 xk 5 (kf_ k0 k1 k2 k3 k4), ob6_0_ k0, ob5_0_ k1, ob9_0_ k2, ob2_0_ k3, ob8_0_ k4] [0, 1, 2, 3, 4, 5, 6, 7, 25, 8, 9, 10, 11, 12, 13, 14, 15, 16, 17, 18, 19, 20, 21, 22, 23, 24] (by decide +kernel) rfl (fun hP hD => ?_)
        obtain ⟨M_151, eM_151⟩ : ∃ g : Nat → Nat → Int32, g = va_up m_rp_1 0 e1_149 := ⟨_, rfl⟩
        refine pd_K (D := D) (cl := vwCl) (H := H) (A := A) [ob10_0_ xw xc xk wpo wc wf, ob0_0_ xc xn xk clo cro c4 c5 c6 c7 c8, ob3_0_ xn vp vn n1 n2 n3 n4 n5, ai_ cy n1 40 fk, ai_ cy n2 40 fs, ai_ cy n3 40 fe, ai_ cy n5 40 fp, aq_ cy 6 wpo 12 (gf_ rp), ai_ cy (rp 0) 12 (M_151 0), ai_ cy (rp 1) 12 (M_151 1), ai_ cy (rp 2) 12 (M_151 2), ai_ cy (rp 3) 12 (M_151 3), ai_ cy (rp 4) 12 (M_151 4), ai_ cy (rp 5) 12 (M_151 5), ai_ cy (rp 6) 12 (M_151 6), ai_ cy (rp 7) 12 (M_151 7), ai_ cy (rp 8) 12 (M_151 8), ai_ cy (rp 9) 12 (M_151 9), ai_ cy (rp 10) 12 (M_151 10), ai_ cy (rp 11) 12 (M_151 11), aq_ cy 3 xk 5 (kf_ k0 k1 k2 k3 k4), ob6_0_ k0, ob5_0_ k1, ob9_0_ k2, ob2_0_ k3, ob8_0_ k4] (by rw [eM_151]; exact hP) (by rw [eM_151]; exact hD) (fun hP hD => ?_)
        obtain ⟨y_152, ey_152⟩ : ∃ y : Int32, y = (0 : Int32) + 1 := ⟨_, rfl⟩
        have ty_152 : y_152.toInt = (0 : Int32).toInt + (1 : Int32).toInt := by rw [ey_152]; exact addI (by omega) (by omega)
        refine lv_iinc (v := y_152) (lv' := [(2, .int y_152), (1, .ref xn), (0, .ref xw)]) hx hb dB_36_2_4.1.1.1.1 hl (k := 0) rfl (by rw [ey_152]; rfl) (by decide) rfl (fun ls hl => ?_)
        refine lv_goto (tgt := 10) hx hb dB_36_2_4.1.1.1.2 (by decide) ?_
        exact ih_1 y_152 M_151 _ _ _ (by omega) (by first | with_reducible assumption | omega | assumption) (by first | with_reducible assumption | omega | assumption) ⟨hP, hD⟩ hS (lv_sub hl [0, 1, 2] rfl)
      · refine lv_aload_n hx hb dB_36_2_3.2.1.2.1 rfl (lv_at hl 2 rfl) ?_
        refine va_get (ci := 10) (v := .ref wpo) (C := RX10) (T := TX10) (N := 5) hx hb hts (fun _ h => List.mem_cons_of_mem _ (List.mem_append_left _ (List.mem_append_left _ (List.mem_append_right _ h)))) hown hK.1 hP 0 rfl rfl 2 (by decide) (hts (.fieldLink RX10 11 "CutAtlas$Widening" "prices" "[[I") (List.mem_of_getElem? (i := 4) rfl)) (fun _ h9 => h9) rfl dB_36_2_3.2.1.2.2 ?_
        refine lv_iload_n hx hb dB_36_2_3.2.2.1.1 rfl (lv_at hl 0 rfl) ?_
        have h_153 : vp_in (1 : Int32) 12 := by unfold vp_in; decide
        refine va_alda hx hb hG hP 7 rfl (i := 1) h_153 dB_36_2_3.2.2.1.2 ?_
        refine lv_topv (v' := .ref (rp 1)) (gf_at h_153) ?_
        refine lv_ldc (v := 1000000000) hx hb hown (hts (.constant RX10 38 (1000000000)) (List.mem_of_getElem? (i := 5) rfl)) dB_36_2_3.2.2.2.1 ?_
        refine ct_S hP hD hS hA [ai_ cy (rp 1) 12 (m_rp_1 1)] [9] (by decide) rfl (fun hPc hDw hFc hC_ => ?_)
        refine va_callv (va_runS (As := [.ref (rp 1), .int 1000000000]) (rest := []) ⟨hx, hb, hml, hown, hts⟩ (c_J7_fill_53178 l D cy H.size (rp 1) 12 (1000000000 : Int32) (m_rp_1 1) (by first | with_reducible assumption | assumption | omega)) (va_cwS 2 hts gX10_findPrices_J7_fill_53178 rfl rfl rfl hd_J7_fill_53178 ⟨Nat.le_of_ble_eq_true rfl, Nat.le_of_ble_eq_true rfl⟩) ⟨bl_, fun U hU hW => ⟨rfl, by rw [hU], by rw [hU]; exact hPc, kk_mv hW hK, hDw⟩⟩ rfl rfl hl.1 rfl (lv_room (Nat.le_of_ble_eq_true rfl)) dB_36_2_3.2.2.2.2 ⟨Nat.le_of_ble_eq_true rfl, Nat.le_of_ble_eq_true rfl⟩) hS (fun q _ h => hFc q h) hFc (fun u t H locs ht hvm hw hB hz1 hk1 hS => ?_)
        obtain ⟨e1_155, g_156, hP1, hD1⟩ := hB
        rw [ht] at hP1
        obtain ⟨hP, hD⟩ := va_join (wr := [ob10_0_ xw xc xk wpo wc wf, ob0_0_ xc xn xk clo cro c4 c5 c6 c7 c8, ob3_0_ xn vp vn n1 n2 n3 n4 n5, ai_ cy n1 40 fk, ai_ cy n2 40 fs, ai_ cy n3 40 fe, ai_ cy n5 40 fp, aq_ cy 6 wpo 12 (gf_ rp), ai_ cy (rp 0) 12 (m_rp_1 0), ai_ cy (rp 2) 12 (m_rp_1 2), ai_ cy (rp 3) 12 (m_rp_1 3), ai_ cy (rp 4) 12 (m_rp_1 4), ai_ cy (rp 5) 12 (m_rp_1 5), ai_ cy (rp 6) 12 (m_rp_1 6), ai_ cy (rp 7) 12 (m_rp_1 7), ai_ cy (rp 8) 12 (m_rp_1 8), ai_ cy (rp 9) 12 (m_rp_1 9), ai_ cy (rp 10) 12 (m_rp_1 10), ai_ cy (rp 11) 12 (m_rp_1 11), aq_ cy 3 xk 5 (kf_ k0 k1 k2 k3 k4), ob6_0_ k0, ob5_0_ k1, ob9_0_ k2, ob2_0_ k3, ob8_0_ k4]) (w1 := [ai_ cy (rp 1) 12 e1_155]) hP hD [9] [0, 1, 2, 3, 4, 5, 6, 7, 8, 10, 11, 12, 13, 14, 15, 16, 17, 18, 19, 20, 21, 22, 23, 24, 25] hC_ rfl (by decide +kernel) (by decide +kernel) hk1 hFc hP1 hD1
        refine pd_S hP hD [ob10_0_ xw xc xk wpo wc wf, ob0_0_ xc xn xk clo cro c4 c5 c6 c7 c8, ob3_0_ xn vp vn n1 n2 n3 n4 n5, ai_ cy n1 40 fk, ai_ cy n2 40 fs, ai_ cy n3 40 fe, ai_ cy n5 40 fp, aq_ cy 6 wpo 12 (gf_ rp), ai_ cy (rp 0) 12 (m_rp_1 0), ai_ cy (rp 1) 12 e1_155, ai_ cy (rp 2) 12 (m_rp_1 2), ai_ cy (rp 3) 12 (m_rp_1 3), ai_ cy (rp 4) 12 (m_rp_1 4), ai_ cy (rp 5) 12 (m_rp_1 5), ai_ cy (rp 6) 12 (m_rp_1 6), ai_ cy (rp 7) 12 (m_rp_1 7), ai_ cy (rp 8) 12 (m_rp_1 8), ai_ cy (rp 9) 12 (m_rp_1 9), ai_ cy (rp 10) 12 (m_rp_1 10), ai_ cy (rp 11) 12 (m_rp_1 11), aq_ cy 3 xk 5 (kf_ k0 k1 k2 k3 k4), ob6_0_ k0, ob5_0_ k1, ob9_0_ k2, ob2_0_ k3, ob8_0_ k4] [0, 1, 2, 3, 4, 5, 6, 7, 8, 25, 9, 10, 11, 12, 13, 14, 15, 16, 17, 18, 19, 20, 21, 22, 23, 24] (by decide +kernel) rfl (fun hP hD => ?_)
        obtain ⟨M_157, eM_157⟩ : ∃ g : Nat → Nat → Int32, g = va_up m_rp_1 1 e1_155 := ⟨_, rfl⟩
        refine pd_K (D := D) (cl := vwCl) (H := H) (A := A) [ob10_0_ xw xc xk wpo wc wf, ob0_0_ xc xn xk clo cro c4 c5 c6 c7 c8, ob3_0_ xn vp vn n1 n2 n3 n4 n5, ai_ cy n1 40 fk, ai_ cy n2 40 fs, ai_ cy n3 40 fe, ai_ cy n5 40 fp, aq_ cy 6 wpo 12 (gf_ rp), ai_ cy (rp 0) 12 (M_157 0), ai_ cy (rp 1) 12 (M_157 1), ai_ cy (rp 2) 12 (M_157 2), ai_ cy (rp 3) 12 (M_157 3), ai_ cy (rp 4) 12 (M_157 4), ai_ cy (rp 5) 12 (M_157 5), ai_ cy (rp 6) 12 (M_157 6), ai_ cy (rp 7) 12 (M_157 7), ai_ cy (rp 8) 12 (M_157 8), ai_ cy (rp 9) 12 (M_157 9), ai_ cy (rp 10) 12 (M_157 10), ai_ cy (rp 11) 12 (M_157 11), aq_ cy 3 xk 5 (kf_ k0 k1 k2 k3 k4), ob6_0_ k0, ob5_0_ k1, ob9_0_ k2, ob2_0_ k3, ob8_0_ k4] (by rw [eM_157]; exact hP) (by rw [eM_157]; exact hD) (fun hP hD => ?_)
        obtain ⟨y_158, ey_158⟩ : ∃ y : Int32, y = (1 : Int32) + 1 := ⟨_, rfl⟩
        have ty_158 : y_158.toInt = (1 : Int32).toInt + (1 : Int32).toInt := by rw [ey_158]; exact addI (by omega) (by omega)
        refine lv_iinc (v := y_158) (lv' := [(2, .int y_158), (1, .ref xn), (0, .ref xw)]) hx hb dB_36_2_4.1.1.1.1 hl (k := 0) rfl (by rw [ey_158]; rfl) (by decide) rfl (fun ls hl => ?_)
        refine lv_goto (tgt := 10) hx hb dB_36_2_4.1.1.1.2 (by decide) ?_
        exact ih_1 y_158 M_157 _ _ _ (by omega) (by first | with_reducible assumption | omega | assumption) (by first | with_reducible assumption | omega | assumption) ⟨hP, hD⟩ hS (lv_sub hl [0, 1, 2] rfl)
      · refine lv_aload_n hx hb dB_36_2_3.2.1.2.1 rfl (lv_at hl 2 rfl) ?_
        refine va_get (ci := 10) (v := .ref wpo) (C := RX10) (T := TX10) (N := 5) hx hb hts (fun _ h => List.mem_cons_of_mem _ (List.mem_append_left _ (List.mem_append_left _ (List.mem_append_right _ h)))) hown hK.1 hP 0 rfl rfl 2 (by decide) (hts (.fieldLink RX10 11 "CutAtlas$Widening" "prices" "[[I") (List.mem_of_getElem? (i := 4) rfl)) (fun _ h9 => h9) rfl dB_36_2_3.2.1.2.2 ?_
        refine lv_iload_n hx hb dB_36_2_3.2.2.1.1 rfl (lv_at hl 0 rfl) ?_
        have h_159 : vp_in (2 : Int32) 12 := by unfold vp_in; decide
        refine va_alda hx hb hG hP 7 rfl (i := 2) h_159 dB_36_2_3.2.2.1.2 ?_
        refine lv_topv (v' := .ref (rp 2)) (gf_at h_159) ?_
        refine lv_ldc (v := 1000000000) hx hb hown (hts (.constant RX10 38 (1000000000)) (List.mem_of_getElem? (i := 5) rfl)) dB_36_2_3.2.2.2.1 ?_
        refine ct_S hP hD hS hA [ai_ cy (rp 2) 12 (m_rp_1 2)] [10] (by decide) rfl (fun hPc hDw hFc hC_ => ?_)
        refine va_callv (va_runS (As := [.ref (rp 2), .int 1000000000]) (rest := []) ⟨hx, hb, hml, hown, hts⟩ (c_J7_fill_53178 l D cy H.size (rp 2) 12 (1000000000 : Int32) (m_rp_1 2) (by first | with_reducible assumption | assumption | omega)) (va_cwS 2 hts gX10_findPrices_J7_fill_53178 rfl rfl rfl hd_J7_fill_53178 ⟨Nat.le_of_ble_eq_true rfl, Nat.le_of_ble_eq_true rfl⟩) ⟨bl_, fun U hU hW => ⟨rfl, by rw [hU], by rw [hU]; exact hPc, kk_mv hW hK, hDw⟩⟩ rfl rfl hl.1 rfl (lv_room (Nat.le_of_ble_eq_true rfl)) dB_36_2_3.2.2.2.2 ⟨Nat.le_of_ble_eq_true rfl, Nat.le_of_ble_eq_true rfl⟩) hS (fun q _ h => hFc q h) hFc (fun u t H locs ht hvm hw hB hz1 hk1 hS => ?_)
        obtain ⟨e1_161, g_162, hP1, hD1⟩ := hB
        rw [ht] at hP1
        obtain ⟨hP, hD⟩ := va_join (wr := [ob10_0_ xw xc xk wpo wc wf, ob0_0_ xc xn xk clo cro c4 c5 c6 c7 c8, ob3_0_ xn vp vn n1 n2 n3 n4 n5, ai_ cy n1 40 fk, ai_ cy n2 40 fs, ai_ cy n3 40 fe, ai_ cy n5 40 fp, aq_ cy 6 wpo 12 (gf_ rp), ai_ cy (rp 0) 12 (m_rp_1 0), ai_ cy (rp 1) 12 (m_rp_1 1), ai_ cy (rp 3) 12 (m_rp_1 3), ai_ cy (rp 4) 12 (m_rp_1 4), ai_ cy (rp 5) 12 (m_rp_1 5), ai_ cy (rp 6) 12 (m_rp_1 6), ai_ cy (rp 7) 12 (m_rp_1 7), ai_ cy (rp 8) 12 (m_rp_1 8), ai_ cy (rp 9) 12 (m_rp_1 9), ai_ cy (rp 10) 12 (m_rp_1 10), ai_ cy (rp 11) 12 (m_rp_1 11), aq_ cy 3 xk 5 (kf_ k0 k1 k2 k3 k4), ob6_0_ k0, ob5_0_ k1, ob9_0_ k2, ob2_0_ k3, ob8_0_ k4]) (w1 := [ai_ cy (rp 2) 12 e1_161]) hP hD [10] [0, 1, 2, 3, 4, 5, 6, 7, 8, 9, 11, 12, 13, 14, 15, 16, 17, 18, 19, 20, 21, 22, 23, 24, 25] hC_ rfl (by decide +kernel) (by decide +kernel) hk1 hFc hP1 hD1
        refine pd_S hP hD [ob10_0_ xw xc xk wpo wc wf, ob0_0_ xc xn xk clo cro c4 c5 c6 c7 c8, ob3_0_ xn vp vn n1 n2 n3 n4 n5, ai_ cy n1 40 fk, ai_ cy n2 40 fs, ai_ cy n3 40 fe, ai_ cy n5 40 fp, aq_ cy 6 wpo 12 (gf_ rp), ai_ cy (rp 0) 12 (m_rp_1 0), ai_ cy (rp 1) 12 (m_rp_1 1), ai_ cy (rp 2) 12 e1_161, ai_ cy (rp 3) 12 (m_rp_1 3), ai_ cy (rp 4) 12 (m_rp_1 4), ai_ cy (rp 5) 12 (m_rp_1 5), ai_ cy (rp 6) 12 (m_rp_1 6), ai_ cy (rp 7) 12 (m_rp_1 7), ai_ cy (rp 8) 12 (m_rp_1 8), ai_ cy (rp 9) 12 (m_rp_1 9), ai_ cy (rp 10) 12 (m_rp_1 10), ai_ cy (rp 11) 12 (m_rp_1 11), aq_ cy 3 xk 5 (kf_ k0 k1 k2 k3 k4), ob6_0_ k0, ob5_0_ k1, ob9_0_ k2, ob2_0_ k3, ob8_0_ k4] [0, 1, 2, 3, 4, 5, 6, 7, 8, 9, 25, 10, 11, 12, 13, 14, 15, 16, 17, 18, 19, 20, 21, 22, 23, 24] (by decide +kernel) rfl (fun hP hD => ?_)
        obtain ⟨M_163, eM_163⟩ : ∃ g : Nat → Nat → Int32, g = va_up m_rp_1 2 e1_161 := ⟨_, rfl⟩
        refine pd_K (D := D) (cl := vwCl) (H := H) (A := A) [ob10_0_ xw xc xk wpo wc wf, ob0_0_ xc xn xk clo cro c4 c5 c6 c7 c8, ob3_0_ xn vp vn n1 n2 n3 n4 n5, ai_ cy n1 40 fk, ai_ cy n2 40 fs, ai_ cy n3 40 fe, ai_ cy n5 40 fp, aq_ cy 6 wpo 12 (gf_ rp), ai_ cy (rp 0) 12 (M_163 0), ai_ cy (rp 1) 12 (M_163 1), ai_ cy (rp 2) 12 (M_163 2), ai_ cy (rp 3) 12 (M_163 3), ai_ cy (rp 4) 12 (M_163 4), ai_ cy (rp 5) 12 (M_163 5), ai_ cy (rp 6) 12 (M_163 6), ai_ cy (rp 7) 12 (M_163 7), ai_ cy (rp 8) 12 (M_163 8), ai_ cy (rp 9) 12 (M_163 9), ai_ cy (rp 10) 12 (M_163 10), ai_ cy (rp 11) 12 (M_163 11), aq_ cy 3 xk 5 (kf_ k0 k1 k2 k3 k4), ob6_0_ k0, ob5_0_ k1, ob9_0_ k2, ob2_0_ k3, ob8_0_ k4] (by rw [eM_163]; exact hP) (by rw [eM_163]; exact hD) (fun hP hD => ?_)
        obtain ⟨y_164, ey_164⟩ : ∃ y : Int32, y = (2 : Int32) + 1 := ⟨_, rfl⟩
        have ty_164 : y_164.toInt = (2 : Int32).toInt + (1 : Int32).toInt := by rw [ey_164]; exact addI (by omega) (by omega)
        refine lv_iinc (v := y_164) (lv' := [(2, .int y_164), (1, .ref xn), (0, .ref xw)]) hx hb dB_36_2_4.1.1.1.1 hl (k := 0) rfl (by rw [ey_164]; rfl) (by decide) rfl (fun ls hl => ?_)
        refine lv_goto (tgt := 10) hx hb dB_36_2_4.1.1.1.2 (by decide) ?_
        exact ih_1 y_164 M_163 _ _ _ (by omega) (by first | with_reducible assumption | omega | assumption) (by first | with_reducible assumption | omega | assumption) ⟨hP, hD⟩ hS (lv_sub hl [0, 1, 2] rfl)
      · refine lv_aload_n hx hb dB_36_2_3.2.1.2.1 rfl (lv_at hl 2 rfl) ?_
        refine va_get (ci := 10) (v := .ref wpo) (C := RX10) (T := TX10) (N := 5) hx hb hts (fun _ h => List.mem_cons_of_mem _ (List.mem_append_left _ (List.mem_append_left _ (List.mem_append_right _ h)))) hown hK.1 hP 0 rfl rfl 2 (by decide) (hts (.fieldLink RX10 11 "CutAtlas$Widening" "prices" "[[I") (List.mem_of_getElem? (i := 4) rfl)) (fun _ h9 => h9) rfl dB_36_2_3.2.1.2.2 ?_
        refine lv_iload_n hx hb dB_36_2_3.2.2.1.1 rfl (lv_at hl 0 rfl) ?_
        have h_165 : vp_in (3 : Int32) 12 := by unfold vp_in; decide
        refine va_alda hx hb hG hP 7 rfl (i := 3) h_165 dB_36_2_3.2.2.1.2 ?_
        refine lv_topv (v' := .ref (rp 3)) (gf_at h_165) ?_
        refine lv_ldc (v := 1000000000) hx hb hown (hts (.constant RX10 38 (1000000000)) (List.mem_of_getElem? (i := 5) rfl)) dB_36_2_3.2.2.2.1 ?_
        refine ct_S hP hD hS hA [ai_ cy (rp 3) 12 (m_rp_1 3)] [11] (by decide) rfl (fun hPc hDw hFc hC_ => ?_)
        refine va_callv (va_runS (As := [.ref (rp 3), .int 1000000000]) (rest := []) ⟨hx, hb, hml, hown, hts⟩ (c_J7_fill_53178 l D cy H.size (rp 3) 12 (1000000000 : Int32) (m_rp_1 3) (by first | with_reducible assumption | assumption | omega)) (va_cwS 2 hts gX10_findPrices_J7_fill_53178 rfl rfl rfl hd_J7_fill_53178 ⟨Nat.le_of_ble_eq_true rfl, Nat.le_of_ble_eq_true rfl⟩) ⟨bl_, fun U hU hW => ⟨rfl, by rw [hU], by rw [hU]; exact hPc, kk_mv hW hK, hDw⟩⟩ rfl rfl hl.1 rfl (lv_room (Nat.le_of_ble_eq_true rfl)) dB_36_2_3.2.2.2.2 ⟨Nat.le_of_ble_eq_true rfl, Nat.le_of_ble_eq_true rfl⟩) hS (fun q _ h => hFc q h) hFc (fun u t H locs ht hvm hw hB hz1 hk1 hS => ?_)
        obtain ⟨e1_167, g_168, hP1, hD1⟩ := hB
        rw [ht] at hP1
        obtain ⟨hP, hD⟩ := va_join (wr := [ob10_0_ xw xc xk wpo wc wf, ob0_0_ xc xn xk clo cro c4 c5 c6 c7 c8, ob3_0_ xn vp vn n1 n2 n3 n4 n5, ai_ cy n1 40 fk, ai_ cy n2 40 fs, ai_ cy n3 40 fe, ai_ cy n5 40 fp, aq_ cy 6 wpo 12 (gf_ rp), ai_ cy (rp 0) 12 (m_rp_1 0), ai_ cy (rp 1) 12 (m_rp_1 1), ai_ cy (rp 2) 12 (m_rp_1 2), ai_ cy (rp 4) 12 (m_rp_1 4), ai_ cy (rp 5) 12 (m_rp_1 5), ai_ cy (rp 6) 12 (m_rp_1 6), ai_ cy (rp 7) 12 (m_rp_1 7), ai_ cy (rp 8) 12 (m_rp_1 8), ai_ cy (rp 9) 12 (m_rp_1 9), ai_ cy (rp 10) 12 (m_rp_1 10), ai_ cy (rp 11) 12 (m_rp_1 11), aq_ cy 3 xk 5 (kf_ k0 k1 k2 k3 k4), ob6_0_ k0, ob5_0_ k1, ob9_0_ k2, ob2_0_ k3, ob8_0_ k4]) (w1 := [ai_ cy (rp 3) 12 e1_167]) hP hD [11] [0, 1, 2, 3, 4, 5, 6, 7, 8, 9, 10, 12, 13, 14, 15, 16, 17, 18, 19, 20, 21, 22, 23, 24, 25] hC_ rfl (by decide +kernel) (by decide +kernel) hk1 hFc hP1 hD1
        refine pd_S hP hD [ob10_0_ xw xc xk wpo wc wf, ob0_0_ xc xn xk clo cro c4 c5 c6 c7 c8, ob3_0_ xn vp vn n1 n2 n3 n4 n5, ai_ cy n1 40 fk, ai_ cy n2 40 fs, ai_ cy n3 40 fe, ai_ cy n5 40 fp, aq_ cy 6 wpo 12 (gf_ rp), ai_ cy (rp 0) 12 (m_rp_1 0), ai_ cy (rp 1) 12 (m_rp_1 1), ai_ cy (rp 2) 12 (m_rp_1 2), ai_ cy (rp 3) 12 e1_167, ai_ cy (rp 4) 12 (m_rp_1 4), ai_ cy (rp 5) 12 (m_rp_1 5), ai_ cy (rp 6) 12 (m_rp_1 6), ai_ cy (rp 7) 12 (m_rp_1 7), ai_ cy (rp 8) 12 (m_rp_1 8), ai_ cy (rp 9) 12 (m_rp_1 9), ai_ cy (rp 10) 12 (m_rp_1 10), ai_ cy (rp 11) 12 (m_rp_1 11), aq_ cy 3 xk 5 (kf_ k0 k1 k2 k3 k4), ob6_0_ k0, ob5_0_ k1, ob9_0_ k2, ob2_0_ k3, ob8_0_ k4] [0, 1, 2, 3, 4, 5, 6, 7, 8, 9, 10, 25, 11, 12, 13, 14, 15, 16, 17, 18, 19, 20, 21, 22, 23, 24] (by decide +kernel) rfl (fun hP hD => ?_)
        obtain ⟨M_169, eM_169⟩ : ∃ g : Nat → Nat → Int32, g = va_up m_rp_1 3 e1_167 := ⟨_, rfl⟩
        refine pd_K (D := D) (cl := vwCl) (H := H) (A := A) [ob10_0_ xw xc xk wpo wc wf, ob0_0_ xc xn xk clo cro c4 c5 c6 c7 c8, ob3_0_ xn vp vn n1 n2 n3 n4 n5, ai_ cy n1 40 fk, ai_ cy n2 40 fs, ai_ cy n3 40 fe, ai_ cy n5 40 fp, aq_ cy 6 wpo 12 (gf_ rp), ai_ cy (rp 0) 12 (M_169 0), ai_ cy (rp 1) 12 (M_169 1), ai_ cy (rp 2) 12 (M_169 2), ai_ cy (rp 3) 12 (M_169 3), ai_ cy (rp 4) 12 (M_169 4), ai_ cy (rp 5) 12 (M_169 5), ai_ cy (rp 6) 12 (M_169 6), ai_ cy (rp 7) 12 (M_169 7), ai_ cy (rp 8) 12 (M_169 8), ai_ cy (rp 9) 12 (M_169 9), ai_ cy (rp 10) 12 (M_169 10), ai_ cy (rp 11) 12 (M_169 11), aq_ cy 3 xk 5 (kf_ k0 k1 k2 k3 k4), ob6_0_ k0, ob5_0_ k1, ob9_0_ k2, ob2_0_ k3, ob8_0_ k4] (by rw [eM_169]; exact hP) (by rw [eM_169]; exact hD) (fun hP hD => ?_)
        obtain ⟨y_170, ey_170⟩ : ∃ y : Int32, y = (3 : Int32) + 1 := ⟨_, rfl⟩
        have ty_170 : y_170.toInt = (3 : Int32).toInt + (1 : Int32).toInt := by rw [ey_170]; exact addI (by omega) (by omega)
        refine lv_iinc (v := y_170) (lv' := [(2, .int y_170), (1, .ref xn), (0, .ref xw)]) hx hb dB_36_2_4.1.1.1.1 hl (k := 0) rfl (by rw [ey_170]; rfl) (by decide) rfl (fun ls hl => ?_)
        refine lv_goto (tgt := 10) hx hb dB_36_2_4.1.1.1.2 (by decide) ?_
        exact ih_1 y_170 M_169 _ _ _ (by omega) (by first | with_reducible assumption | omega | assumption) (by first | with_reducible assumption | omega | assumption) ⟨hP, hD⟩ hS (lv_sub hl [0, 1, 2] rfl)
      · refine lv_aload_n hx hb dB_36_2_3.2.1.2.1 rfl (lv_at hl 2 rfl) ?_
        refine va_get (ci := 10) (v := .ref wpo) (C := RX10) (T := TX10) (N := 5) hx hb hts (fun _ h => List.mem_cons_of_mem _ (List.mem_append_left _ (List.mem_append_left _ (List.mem_append_right _ h)))) hown hK.1 hP 0 rfl rfl 2 (by decide) (hts (.fieldLink RX10 11 "CutAtlas$Widening" "prices" "[[I") (List.mem_of_getElem? (i := 4) rfl)) (fun _ h9 => h9) rfl dB_36_2_3.2.1.2.2 ?_
        refine lv_iload_n hx hb dB_36_2_3.2.2.1.1 rfl (lv_at hl 0 rfl) ?_
        have h_171 : vp_in (4 : Int32) 12 := by unfold vp_in; decide
        refine va_alda hx hb hG hP 7 rfl (i := 4) h_171 dB_36_2_3.2.2.1.2 ?_
        refine lv_topv (v' := .ref (rp 4)) (gf_at h_171) ?_
        refine lv_ldc (v := 1000000000) hx hb hown (hts (.constant RX10 38 (1000000000)) (List.mem_of_getElem? (i := 5) rfl)) dB_36_2_3.2.2.2.1 ?_
        refine ct_S hP hD hS hA [ai_ cy (rp 4) 12 (m_rp_1 4)] [12] (by decide) rfl (fun hPc hDw hFc hC_ => ?_)
        refine va_callv (va_runS (As := [.ref (rp 4), .int 1000000000]) (rest := []) ⟨hx, hb, hml, hown, hts⟩ (c_J7_fill_53178 l D cy H.size (rp 4) 12 (1000000000 : Int32) (m_rp_1 4) (by first | with_reducible assumption | assumption | omega)) (va_cwS 2 hts gX10_findPrices_J7_fill_53178 rfl rfl rfl hd_J7_fill_53178 ⟨Nat.le_of_ble_eq_true rfl, Nat.le_of_ble_eq_true rfl⟩) ⟨bl_, fun U hU hW => ⟨rfl, by rw [hU], by rw [hU]; exact hPc, kk_mv hW hK, hDw⟩⟩ rfl rfl hl.1 rfl (lv_room (Nat.le_of_ble_eq_true rfl)) dB_36_2_3.2.2.2.2 ⟨Nat.le_of_ble_eq_true rfl, Nat.le_of_ble_eq_true rfl⟩) hS (fun q _ h => hFc q h) hFc (fun u t H locs ht hvm hw hB hz1 hk1 hS => ?_)
        obtain ⟨e1_173, g_174, hP1, hD1⟩ := hB
        rw [ht] at hP1
        obtain ⟨hP, hD⟩ := va_join (wr := [ob10_0_ xw xc xk wpo wc wf, ob0_0_ xc xn xk clo cro c4 c5 c6 c7 c8, ob3_0_ xn vp vn n1 n2 n3 n4 n5, ai_ cy n1 40 fk, ai_ cy n2 40 fs, ai_ cy n3 40 fe, ai_ cy n5 40 fp, aq_ cy 6 wpo 12 (gf_ rp), ai_ cy (rp 0) 12 (m_rp_1 0), ai_ cy (rp 1) 12 (m_rp_1 1), ai_ cy (rp 2) 12 (m_rp_1 2), ai_ cy (rp 3) 12 (m_rp_1 3), ai_ cy (rp 5) 12 (m_rp_1 5), ai_ cy (rp 6) 12 (m_rp_1 6), ai_ cy (rp 7) 12 (m_rp_1 7), ai_ cy (rp 8) 12 (m_rp_1 8), ai_ cy (rp 9) 12 (m_rp_1 9), ai_ cy (rp 10) 12 (m_rp_1 10), ai_ cy (rp 11) 12 (m_rp_1 11), aq_ cy 3 xk 5 (kf_ k0 k1 k2 k3 k4), ob6_0_ k0, ob5_0_ k1, ob9_0_ k2, ob2_0_ k3, ob8_0_ k4]) (w1 := [ai_ cy (rp 4) 12 e1_173]) hP hD [12] [0, 1, 2, 3, 4, 5, 6, 7, 8, 9, 10, 11, 13, 14, 15, 16, 17, 18, 19, 20, 21, 22, 23, 24, 25] hC_ rfl (by decide +kernel) (by decide +kernel) hk1 hFc hP1 hD1
        refine pd_S hP hD [ob10_0_ xw xc xk wpo wc wf, ob0_0_ xc xn xk clo cro c4 c5 c6 c7 c8, ob3_0_ xn vp vn n1 n2 n3 n4 n5, ai_ cy n1 40 fk, ai_ cy n2 40 fs, ai_ cy n3 40 fe, ai_ cy n5 40 fp, aq_ cy 6 wpo 12 (gf_ rp), ai_ cy (rp 0) 12 (m_rp_1 0), ai_ cy (rp 1) 12 (m_rp_1 1), ai_ cy (rp 2) 12 (m_rp_1 2), ai_ cy (rp 3) 12 (m_rp_1 3), ai_ cy (rp 4) 12 e1_173, ai_ cy (rp 5) 12 (m_rp_1 5), ai_ cy (rp 6) 12 (m_rp_1 6), ai_ cy (rp 7) 12 (m_rp_1 7), ai_ cy (rp 8) 12 (m_rp_1 8), ai_ cy (rp 9) 12 (m_rp_1 9), ai_ cy (rp 10) 12 (m_rp_1 10), ai_ cy (rp 11) 12 (m_rp_1 11), aq_ cy 3 xk 5 (kf_ k0 k1 k2 k3 k4), ob6_0_ k0, ob5_0_ k1, ob9_0_ k2, ob2_0_ k3, ob8_0_ k4] [0, 1, 2, 3, 4, 5, 6, 7, 8, 9, 10, 11, 25, 12, 13, 14, 15, 16, 17, 18, 19, 20, 21, 22, 23, 24] (by decide +kernel) rfl (fun hP hD => ?_)
        obtain ⟨M_175, eM_175⟩ : ∃ g : Nat → Nat → Int32, g = va_up m_rp_1 4 e1_173 := ⟨_, rfl⟩
        refine pd_K (D := D) (cl := vwCl) (H := H) (A := A) [ob10_0_ xw xc xk wpo wc wf, ob0_0_ xc xn xk clo cro c4 c5 c6 c7 c8, ob3_0_ xn vp vn n1 n2 n3 n4 n5, ai_ cy n1 40 fk, ai_ cy n2 40 fs, ai_ cy n3 40 fe, ai_ cy n5 40 fp, aq_ cy 6 wpo 12 (gf_ rp), ai_ cy (rp 0) 12 (M_175 0), ai_ cy (rp 1) 12 (M_175 1), ai_ cy (rp 2) 12 (M_175 2), ai_ cy (rp 3) 12 (M_175 3), ai_ cy (rp 4) 12 (M_175 4), ai_ cy (rp 5) 12 (M_175 5), ai_ cy (rp 6) 12 (M_175 6), ai_ cy (rp 7) 12 (M_175 7), ai_ cy (rp 8) 12 (M_175 8), ai_ cy (rp 9) 12 (M_175 9), ai_ cy (rp 10) 12 (M_175 10), ai_ cy (rp 11) 12 (M_175 11), aq_ cy 3 xk 5 (kf_ k0 k1 k2 k3 k4), ob6_0_ k0, ob5_0_ k1, ob9_0_ k2, ob2_0_ k3, ob8_0_ k4] (by rw [eM_175]; exact hP) (by rw [eM_175]; exact hD) (fun hP hD => ?_)
        obtain ⟨y_176, ey_176⟩ : ∃ y : Int32, y = (4 : Int32) + 1 := ⟨_, rfl⟩
        have ty_176 : y_176.toInt = (4 : Int32).toInt + (1 : Int32).toInt := by rw [ey_176]; exact addI (by omega) (by omega)
        refine lv_iinc (v := y_176) (lv' := [(2, .int y_176), (1, .ref xn), (0, .ref xw)]) hx hb dB_36_2_4.1.1.1.1 hl (k := 0) rfl (by rw [ey_176]; rfl) (by decide) rfl (fun ls hl => ?_)
        refine lv_goto (tgt := 10) hx hb dB_36_2_4.1.1.1.2 (by decide) ?_
        exact ih_1 y_176 M_175 _ _ _ (by omega) (by first | with_reducible assumption | omega | assumption) (by first | with_reducible assumption | omega | assumption) ⟨hP, hD⟩ hS (lv_sub hl [0, 1, 2] rfl)
      · refine lv_aload_n hx hb dB_36_2_3.2.1.2.1 rfl (lv_at hl 2 rfl) ?_
        refine va_get (ci := 10) (v := .ref wpo) (C := RX10) (T := TX10) (N := 5) hx hb hts (fun _ h => List.mem_cons_of_mem _ (List.mem_append_left _ (List.mem_append_left _ (List.mem_append_right _ h)))) hown hK.1 hP 0 rfl rfl 2 (by decide) (hts (.fieldLink RX10 11 "CutAtlas$Widening" "prices" "[[I") (List.mem_of_getElem? (i := 4) rfl)) (fun _ h9 => h9) rfl dB_36_2_3.2.1.2.2 ?_
        refine lv_iload_n hx hb dB_36_2_3.2.2.1.1 rfl (lv_at hl 0 rfl) ?_
        have h_177 : vp_in (5 : Int32) 12 := by unfold vp_in; decide
        refine va_alda hx hb hG hP 7 rfl (i := 5) h_177 dB_36_2_3.2.2.1.2 ?_
        refine lv_topv (v' := .ref (rp 5)) (gf_at h_177) ?_
        refine lv_ldc (v := 1000000000) hx hb hown (hts (.constant RX10 38 (1000000000)) (List.mem_of_getElem? (i := 5) rfl)) dB_36_2_3.2.2.2.1 ?_
        refine ct_S hP hD hS hA [ai_ cy (rp 5) 12 (m_rp_1 5)] [13] (by decide) rfl (fun hPc hDw hFc hC_ => ?_)
        refine va_callv (va_runS (As := [.ref (rp 5), .int 1000000000]) (rest := []) ⟨hx, hb, hml, hown, hts⟩ (c_J7_fill_53178 l D cy H.size (rp 5) 12 (1000000000 : Int32) (m_rp_1 5) (by first | with_reducible assumption | assumption | omega)) (va_cwS 2 hts gX10_findPrices_J7_fill_53178 rfl rfl rfl hd_J7_fill_53178 ⟨Nat.le_of_ble_eq_true rfl, Nat.le_of_ble_eq_true rfl⟩) ⟨bl_, fun U hU hW => ⟨rfl, by rw [hU], by rw [hU]; exact hPc, kk_mv hW hK, hDw⟩⟩ rfl rfl hl.1 rfl (lv_room (Nat.le_of_ble_eq_true rfl)) dB_36_2_3.2.2.2.2 ⟨Nat.le_of_ble_eq_true rfl, Nat.le_of_ble_eq_true rfl⟩) hS (fun q _ h => hFc q h) hFc (fun u t H locs ht hvm hw hB hz1 hk1 hS => ?_)
        obtain ⟨e1_179, g_180, hP1, hD1⟩ := hB
        rw [ht] at hP1
        obtain ⟨hP, hD⟩ := va_join (wr := [ob10_0_ xw xc xk wpo wc wf, ob0_0_ xc xn xk clo cro c4 c5 c6 c7 c8, ob3_0_ xn vp vn n1 n2 n3 n4 n5, ai_ cy n1 40 fk, ai_ cy n2 40 fs, ai_ cy n3 40 fe, ai_ cy n5 40 fp, aq_ cy 6 wpo 12 (gf_ rp), ai_ cy (rp 0) 12 (m_rp_1 0), ai_ cy (rp 1) 12 (m_rp_1 1), ai_ cy (rp 2) 12 (m_rp_1 2), ai_ cy (rp 3) 12 (m_rp_1 3), ai_ cy (rp 4) 12 (m_rp_1 4), ai_ cy (rp 6) 12 (m_rp_1 6), ai_ cy (rp 7) 12 (m_rp_1 7), ai_ cy (rp 8) 12 (m_rp_1 8), ai_ cy (rp 9) 12 (m_rp_1 9), ai_ cy (rp 10) 12 (m_rp_1 10), ai_ cy (rp 11) 12 (m_rp_1 11), aq_ cy 3 xk 5 (kf_ k0 k1 k2 k3 k4), ob6_0_ k0, ob5_0_ k1, ob9_0_ k2, ob2_0_ k3, ob8_0_ k4]) (w1 := [ai_ cy (rp 5) 12 e1_179]) hP hD [13] [0, 1, 2, 3, 4, 5, 6, 7, 8, 9, 10, 11, 12, 14, 15, 16, 17, 18, 19, 20, 21, 22, 23, 24, 25] hC_ rfl (by decide +kernel) (by decide +kernel) hk1 hFc hP1 hD1
        refine pd_S hP hD [ob10_0_ xw xc xk wpo wc wf, ob0_0_ xc xn xk clo cro c4 c5 c6 c7 c8, ob3_0_ xn vp vn n1 n2 n3 n4 n5, ai_ cy n1 40 fk, ai_ cy n2 40 fs, ai_ cy n3 40 fe, ai_ cy n5 40 fp, aq_ cy 6 wpo 12 (gf_ rp), ai_ cy (rp 0) 12 (m_rp_1 0), ai_ cy (rp 1) 12 (m_rp_1 1), ai_ cy (rp 2) 12 (m_rp_1 2), ai_ cy (rp 3) 12 (m_rp_1 3), ai_ cy (rp 4) 12 (m_rp_1 4), ai_ cy (rp 5) 12 e1_179, ai_ cy (rp 6) 12 (m_rp_1 6), ai_ cy (rp 7) 12 (m_rp_1 7), ai_ cy (rp 8) 12 (m_rp_1 8), ai_ cy (rp 9) 12 (m_rp_1 9), ai_ cy (rp 10) 12 (m_rp_1 10), ai_ cy (rp 11) 12 (m_rp_1 11), aq_ cy 3 xk 5 (kf_ k0 k1 k2 k3 k4), ob6_0_ k0, ob5_0_ k1, ob9_0_ k2, ob2_0_ k3, ob8_0_ k4] [0, 1, 2, 3, 4, 5, 6, 7, 8, 9, 10, 11, 12, 25, 13, 14, 15, 16, 17, 18, 19, 20, 21, 22, 23, 24] (by decide +kernel) rfl (fun hP hD => ?_)
        obtain ⟨M_181, eM_181⟩ : ∃ g : Nat → Nat → Int32, g = va_up m_rp_1 5 e1_179 := ⟨_, rfl⟩
        refine pd_K (D := D) (cl := vwCl) (H := H) (A := A) [ob10_0_ xw xc xk wpo wc wf, ob0_0_ xc xn xk clo cro c4 c5 c6 c7 c8, ob3_0_ xn vp vn n1 n2 n3 n4 n5, ai_ cy n1 40 fk, ai_ cy n2 40 fs, ai_ cy n3 40 fe, ai_ cy n5 40 fp, aq_ cy 6 wpo 12 (gf_ rp), ai_ cy (rp 0) 12 (M_181 0), ai_ cy (rp 1) 12 (M_181 1), ai_ cy (rp 2) 12 (M_181 2), ai_ cy (rp 3) 12 (M_181 3), ai_ cy (rp 4) 12 (M_181 4), ai_ cy (rp 5) 12 (M_181 5), ai_ cy (rp 6) 12 (M_181 6), ai_ cy (rp 7) 12 (M_181 7), ai_ cy (rp 8) 12 (M_181 8), ai_ cy (rp 9) 12 (M_181 9), ai_ cy (rp 10) 12 (M_181 10), ai_ cy (rp 11) 12 (M_181 11), aq_ cy 3 xk 5 (kf_ k0 k1 k2 k3 k4), ob6_0_ k0, ob5_0_ k1, ob9_0_ k2, ob2_0_ k3, ob8_0_ k4] (by rw [eM_181]; exact hP) (by rw [eM_181]; exact hD) (fun hP hD => ?_)
        obtain ⟨y_182, ey_182⟩ : ∃ y : Int32, y = (5 : Int32) + 1 := ⟨_, rfl⟩
        have ty_182 : y_182.toInt = (5 : Int32).toInt + (1 : Int32).toInt := by rw [ey_182]; exact addI (by omega) (by omega)
        refine lv_iinc (v := y_182) (lv' := [(2, .int y_182), (1, .ref xn), (0, .ref xw)]) hx hb dB_36_2_4.1.1.1.1 hl (k := 0) rfl (by rw [ey_182]; rfl) (by decide) rfl (fun ls hl => ?_)
        refine lv_goto (tgt := 10) hx hb dB_36_2_4.1.1.1.2 (by decide) ?_
        exact ih_1 y_182 M_181 _ _ _ (by omega) (by first | with_reducible assumption | omega | assumption) (by first | with_reducible assumption | omega | assumption) ⟨hP, hD⟩ hS (lv_sub hl [0, 1, 2] rfl)
      · refine lv_aload_n hx hb dB_36_2_3.2.1.2.1 rfl (lv_at hl 2 rfl) ?_
        refine va_get (ci := 10) (v := .ref wpo) (C := RX10) (T := TX10) (N := 5) hx hb hts (fun _ h => List.mem_cons_of_mem _ (List.mem_append_left _ (List.mem_append_left _ (List.mem_append_right _ h)))) hown hK.1 hP 0 rfl rfl 2 (by decide) (hts (.fieldLink RX10 11 "CutAtlas$Widening" "prices" "[[I") (List.mem_of_getElem? (i := 4) rfl)) (fun _ h9 => h9) rfl dB_36_2_3.2.1.2.2 ?_
        refine lv_iload_n hx hb dB_36_2_3.2.2.1.1 rfl (lv_at hl 0 rfl) ?_
        have h_183 : vp_in (6 : Int32) 12 := by unfold vp_in; decide
        refine va_alda hx hb hG hP 7 rfl (i := 6) h_183 dB_36_2_3.2.2.1.2 ?_
        refine lv_topv (v' := .ref (rp 6)) (gf_at h_183) ?_
        refine lv_ldc (v := 1000000000) hx hb hown (hts (.constant RX10 38 (1000000000)) (List.mem_of_getElem? (i := 5) rfl)) dB_36_2_3.2.2.2.1 ?_
        refine ct_S hP hD hS hA [ai_ cy (rp 6) 12 (m_rp_1 6)] [14] (by decide) rfl (fun hPc hDw hFc hC_ => ?_)
        refine va_callv (va_runS (As := [.ref (rp 6), .int 1000000000]) (rest := []) ⟨hx, hb, hml, hown, hts⟩ (c_J7_fill_53178 l D cy H.size (rp 6) 12 (1000000000 : Int32) (m_rp_1 6) (by first | with_reducible assumption | assumption | omega)) (va_cwS 2 hts gX10_findPrices_J7_fill_53178 rfl rfl rfl hd_J7_fill_53178 ⟨Nat.le_of_ble_eq_true rfl, Nat.le_of_ble_eq_true rfl⟩) ⟨bl_, fun U hU hW => ⟨rfl, by rw [hU], by rw [hU]; exact hPc, kk_mv hW hK, hDw⟩⟩ rfl rfl hl.1 rfl (lv_room (Nat.le_of_ble_eq_true rfl)) dB_36_2_3.2.2.2.2 ⟨Nat.le_of_ble_eq_true rfl, Nat.le_of_ble_eq_true rfl⟩) hS (fun q _ h => hFc q h) hFc (fun u t H locs ht hvm hw hB hz1 hk1 hS => ?_)
        obtain ⟨e1_185, g_186, hP1, hD1⟩ := hB
        rw [ht] at hP1
        obtain ⟨hP, hD⟩ := va_join (wr := [ob10_0_ xw xc xk wpo wc wf, ob0_0_ xc xn xk clo cro c4 c5 c6 c7 c8, ob3_0_ xn vp vn n1 n2 n3 n4 n5, ai_ cy n1 40 fk, ai_ cy n2 40 fs, ai_ cy n3 40 fe, ai_ cy n5 40 fp, aq_ cy 6 wpo 12 (gf_ rp), ai_ cy (rp 0) 12 (m_rp_1 0), ai_ cy (rp 1) 12 (m_rp_1 1), ai_ cy (rp 2) 12 (m_rp_1 2), ai_ cy (rp 3) 12 (m_rp_1 3), ai_ cy (rp 4) 12 (m_rp_1 4), ai_ cy (rp 5) 12 (m_rp_1 5), ai_ cy (rp 7) 12 (m_rp_1 7), ai_ cy (rp 8) 12 (m_rp_1 8), ai_ cy (rp 9) 12 (m_rp_1 9), ai_ cy (rp 10) 12 (m_rp_1 10), ai_ cy (rp 11) 12 (m_rp_1 11), aq_ cy 3 xk 5 (kf_ k0 k1 k2 k3 k4), ob6_0_ k0, ob5_0_ k1, ob9_0_ k2, ob2_0_ k3, ob8_0_ k4]) (w1 := [ai_ cy (rp 6) 12 e1_185]) hP hD [14] [0, 1, 2, 3, 4, 5, 6, 7, 8, 9, 10, 11, 12, 13, 15, 16, 17, 18, 19, 20, 21, 22, 23, 24, 25] hC_ rfl (by decide +kernel) (by decide +kernel) hk1 hFc hP1 hD1
        refine pd_S hP hD [ob10_0_ xw xc xk wpo wc wf, ob0_0_ xc xn xk clo cro c4 c5 c6 c7 c8, ob3_0_ xn vp vn n1 n2 n3 n4 n5, ai_ cy n1 40 fk, ai_ cy n2 40 fs, ai_ cy n3 40 fe, ai_ cy n5 40 fp, aq_ cy 6 wpo 12 (gf_ rp), ai_ cy (rp 0) 12 (m_rp_1 0), ai_ cy (rp 1) 12 (m_rp_1 1), ai_ cy (rp 2) 12 (m_rp_1 2), ai_ cy (rp 3) 12 (m_rp_1 3), ai_ cy (rp 4) 12 (m_rp_1 4), ai_ cy (rp 5) 12 (m_rp_1 5), ai_ cy (rp 6) 12 e1_185, ai_ cy (rp 7) 12 (m_rp_1 7), ai_ cy (rp 8) 12 (m_rp_1 8), ai_ cy (rp 9) 12 (m_rp_1 9), ai_ cy (rp 10) 12 (m_rp_1 10), ai_ cy (rp 11) 12 (m_rp_1 11), aq_ cy 3 xk 5 (kf_ k0 k1 k2 k3 k4), ob6_0_ k0, ob5_0_ k1, ob9_0_ k2, ob2_0_ k3, ob8_0_ k4] [0, 1, 2, 3, 4, 5, 6, 7, 8, 9, 10, 11, 12, 13, 25, 14, 15, 16, 17, 18, 19, 20, 21, 22, 23, 24] (by decide +kernel) rfl (fun hP hD => ?_)
        obtain ⟨M_187, eM_187⟩ : ∃ g : Nat → Nat → Int32, g = va_up m_rp_1 6 e1_185 := ⟨_, rfl⟩
        refine pd_K (D := D) (cl := vwCl) (H := H) (A := A) [ob10_0_ xw xc xk wpo wc wf, ob0_0_ xc xn xk clo cro c4 c5 c6 c7 c8, ob3_0_ xn vp vn n1 n2 n3 n4 n5, ai_ cy n1 40 fk, ai_ cy n2 40 fs, ai_ cy n3 40 fe, ai_ cy n5 40 fp, aq_ cy 6 wpo 12 (gf_ rp), ai_ cy (rp 0) 12 (M_187 0), ai_ cy (rp 1) 12 (M_187 1), ai_ cy (rp 2) 12 (M_187 2), ai_ cy (rp 3) 12 (M_187 3), ai_ cy (rp 4) 12 (M_187 4), ai_ cy (rp 5) 12 (M_187 5), ai_ cy (rp 6) 12 (M_187 6), ai_ cy (rp 7) 12 (M_187 7), ai_ cy (rp 8) 12 (M_187 8), ai_ cy (rp 9) 12 (M_187 9), ai_ cy (rp 10) 12 (M_187 10), ai_ cy (rp 11) 12 (M_187 11), aq_ cy 3 xk 5 (kf_ k0 k1 k2 k3 k4), ob6_0_ k0, ob5_0_ k1, ob9_0_ k2, ob2_0_ k3, ob8_0_ k4] (by rw [eM_187]; exact hP) (by rw [eM_187]; exact hD) (fun hP hD => ?_)
        obtain ⟨y_188, ey_188⟩ : ∃ y : Int32, y = (6 : Int32) + 1 := ⟨_, rfl⟩
        have ty_188 : y_188.toInt = (6 : Int32).toInt + (1 : Int32).toInt := by rw [ey_188]; exact addI (by omega) (by omega)
        refine lv_iinc (v := y_188) (lv' := [(2, .int y_188), (1, .ref xn), (0, .ref xw)]) hx hb dB_36_2_4.1.1.1.1 hl (k := 0) rfl (by rw [ey_188]; rfl) (by decide) rfl (fun ls hl => ?_)
        refine lv_goto (tgt := 10) hx hb dB_36_2_4.1.1.1.2 (by decide) ?_
        exact ih_1 y_188 M_187 _ _ _ (by omega) (by first | with_reducible assumption | omega | assumption) (by first | with_reducible assumption | omega | assumption) ⟨hP, hD⟩ hS (lv_sub hl [0, 1, 2] rfl)
      · refine lv_aload_n hx hb dB_36_2_3.2.1.2.1 rfl (lv_at hl 2 rfl) ?_
        refine va_get (ci := 10) (v := .ref wpo) (C := RX10) (T := TX10) (N := 5) hx hb hts (fun _ h => List.mem_cons_of_mem _ (List.mem_append_left _ (List.mem_append_left _ (List.mem_append_right _ h)))) hown hK.1 hP 0 rfl rfl 2 (by decide) (hts (.fieldLink RX10 11 "CutAtlas$Widening" "prices" "[[I") (List.mem_of_getElem? (i := 4) rfl)) (fun _ h9 => h9) rfl dB_36_2_3.2.1.2.2 ?_
        refine lv_iload_n hx hb dB_36_2_3.2.2.1.1 rfl (lv_at hl 0 rfl) ?_
        have h_189 : vp_in (7 : Int32) 12 := by unfold vp_in; decide
        refine va_alda hx hb hG hP 7 rfl (i := 7) h_189 dB_36_2_3.2.2.1.2 ?_
        refine lv_topv (v' := .ref (rp 7)) (gf_at h_189) ?_
        refine lv_ldc (v := 1000000000) hx hb hown (hts (.constant RX10 38 (1000000000)) (List.mem_of_getElem? (i := 5) rfl)) dB_36_2_3.2.2.2.1 ?_
        refine ct_S hP hD hS hA [ai_ cy (rp 7) 12 (m_rp_1 7)] [15] (by decide) rfl (fun hPc hDw hFc hC_ => ?_)
        refine va_callv (va_runS (As := [.ref (rp 7), .int 1000000000]) (rest := []) ⟨hx, hb, hml, hown, hts⟩ (c_J7_fill_53178 l D cy H.size (rp 7) 12 (1000000000 : Int32) (m_rp_1 7) (by first | with_reducible assumption | assumption | omega)) (va_cwS 2 hts gX10_findPrices_J7_fill_53178 rfl rfl rfl hd_J7_fill_53178 ⟨Nat.le_of_ble_eq_true rfl, Nat.le_of_ble_eq_true rfl⟩) ⟨bl_, fun U hU hW => ⟨rfl, by rw [hU], by rw [hU]; exact hPc, kk_mv hW hK, hDw⟩⟩ rfl rfl hl.1 rfl (lv_room (Nat.le_of_ble_eq_true rfl)) dB_36_2_3.2.2.2.2 ⟨Nat.le_of_ble_eq_true rfl, Nat.le_of_ble_eq_true rfl⟩) hS (fun q _ h => hFc q h) hFc (fun u t H locs ht hvm hw hB hz1 hk1 hS => ?_)
        obtain ⟨e1_191, g_192, hP1, hD1⟩ := hB
        rw [ht] at hP1
        obtain ⟨hP, hD⟩ := va_join (wr := [ob10_0_ xw xc xk wpo wc wf, ob0_0_ xc xn xk clo cro c4 c5 c6 c7 c8, ob3_0_ xn vp vn n1 n2 n3 n4 n5, ai_ cy n1 40 fk, ai_ cy n2 40 fs, ai_ cy n3 40 fe, ai_ cy n5 40 fp, aq_ cy 6 wpo 12 (gf_ rp), ai_ cy (rp 0) 12 (m_rp_1 0), ai_ cy (rp 1) 12 (m_rp_1 1), ai_ cy (rp 2) 12 (m_rp_1 2), ai_ cy (rp 3) 12 (m_rp_1 3), ai_ cy (rp 4) 12 (m_rp_1 4), ai_ cy (rp 5) 12 (m_rp_1 5), ai_ cy (rp 6) 12 (m_rp_1 6), ai_ cy (rp 8) 12 (m_rp_1 8), ai_ cy (rp 9) 12 (m_rp_1 9), ai_ cy (rp 10) 12 (m_rp_1 10), ai_ cy (rp 11) 12 (m_rp_1 11), aq_ cy 3 xk 5 (kf_ k0 k1 k2 k3 k4), ob6_0_ k0, ob5_0_ k1, ob9_0_ k2, ob2_0_ k3, ob8_0_ k4]) (w1 := [ai_ cy (rp 7) 12 e1_191]) hP hD [15] [0, 1, 2, 3, 4, 5, 6, 7, 8, 9, 10, 11, 12, 13, 14, 16, 17, 18, 19, 20, 21, 22, 23, 24, 25] hC_ rfl (by decide +kernel) (by decide +kernel) hk1 hFc hP1 hD1
        refine pd_S hP hD [ob10_0_ xw xc xk wpo wc wf, ob0_0_ xc xn xk clo cro c4 c5 c6 c7 c8, ob3_0_ xn vp vn n1 n2 n3 n4 n5, ai_ cy n1 40 fk, ai_ cy n2 40 fs, ai_ cy n3 40 fe, ai_ cy n5 40 fp, aq_ cy 6 wpo 12 (gf_ rp), ai_ cy (rp 0) 12 (m_rp_1 0), ai_ cy (rp 1) 12 (m_rp_1 1), ai_ cy (rp 2) 12 (m_rp_1 2), ai_ cy (rp 3) 12 (m_rp_1 3), ai_ cy (rp 4) 12 (m_rp_1 4), ai_ cy (rp 5) 12 (m_rp_1 5), ai_ cy (rp 6) 12 (m_rp_1 6), ai_ cy (rp 7) 12 e1_191, ai_ cy (rp 8) 12 (m_rp_1 8), ai_ cy (rp 9) 12 (m_rp_1 9), ai_ cy (rp 10) 12 (m_rp_1 10), ai_ cy (rp 11) 12 (m_rp_1 11), aq_ cy 3 xk 5 (kf_ k0 k1 k2 k3 k4), ob6_0_ k0, ob5_0_ k1, ob9_0_ k2, ob2_0_ k3, ob8_0_ k4] [0, 1, 2, 3, 4, 5, 6, 7, 8, 9, 10, 11, 12, 13, 14, 25, 15, 16, 17, 18, 19, 20, 21, 22, 23, 24] (by decide +kernel) rfl (fun hP hD => ?_)
        obtain ⟨M_193, eM_193⟩ : ∃ g : Nat → Nat → Int32, g = va_up m_rp_1 7 e1_191 := ⟨_, rfl⟩
        refine pd_K (D := D) (cl := vwCl) (H := H) (A := A) [ob10_0_ xw xc xk wpo wc wf, ob0_0_ xc xn xk clo cro c4 c5 c6 c7 c8, ob3_0_ xn vp vn n1 n2 n3 n4 n5, ai_ cy n1 40 fk, ai_ cy n2 40 fs, ai_ cy n3 40 fe, ai_ cy n5 40 fp, aq_ cy 6 wpo 12 (gf_ rp), ai_ cy (rp 0) 12 (M_193 0), ai_ cy (rp 1) 12 (M_193 1), ai_ cy (rp 2) 12 (M_193 2), ai_ cy (rp 3) 12 (M_193 3), ai_ cy (rp 4) 12 (M_193 4), ai_ cy (rp 5) 12 (M_193 5), ai_ cy (rp 6) 12 (M_193 6), ai_ cy (rp 7) 12 (M_193 7), ai_ cy (rp 8) 12 (M_193 8), ai_ cy (rp 9) 12 (M_193 9), ai_ cy (rp 10) 12 (M_193 10), ai_ cy (rp 11) 12 (M_193 11), aq_ cy 3 xk 5 (kf_ k0 k1 k2 k3 k4), ob6_0_ k0, ob5_0_ k1, ob9_0_ k2, ob2_0_ k3, ob8_0_ k4] (by rw [eM_193]; exact hP) (by rw [eM_193]; exact hD) (fun hP hD => ?_)
        obtain ⟨y_194, ey_194⟩ : ∃ y : Int32, y = (7 : Int32) + 1 := ⟨_, rfl⟩
        have ty_194 : y_194.toInt = (7 : Int32).toInt + (1 : Int32).toInt := by rw [ey_194]; exact addI (by omega) (by omega)
        refine lv_iinc (v := y_194) (lv' := [(2, .int y_194), (1, .ref xn), (0, .ref xw)]) hx hb dB_36_2_4.1.1.1.1 hl (k := 0) rfl (by rw [ey_194]; rfl) (by decide) rfl (fun ls hl => ?_)
        refine lv_goto (tgt := 10) hx hb dB_36_2_4.1.1.1.2 (by decide) ?_
        exact ih_1 y_194 M_193 _ _ _ (by omega) (by first | with_reducible assumption | omega | assumption) (by first | with_reducible assumption | omega | assumption) ⟨hP, hD⟩ hS (lv_sub hl [0, 1, 2] rfl)
      · refine lv_aload_n hx hb dB_36_2_3.2.1.2.1 rfl (lv_at hl 2 rfl) ?_
        refine va_get (ci := 10) (v := .ref wpo) (C := RX10) (T := TX10) (N := 5) hx hb hts (fun _ h => List.mem_cons_of_mem _ (List.mem_append_left _ (List.mem_append_left _ (List.mem_append_right _ h)))) hown hK.1 hP 0 rfl rfl 2 (by decide) (hts (.fieldLink RX10 11 "CutAtlas$Widening" "prices" "[[I") (List.mem_of_getElem? (i := 4) rfl)) (fun _ h9 => h9) rfl dB_36_2_3.2.1.2.2 ?_
        refine lv_iload_n hx hb dB_36_2_3.2.2.1.1 rfl (lv_at hl 0 rfl) ?_
        have h_195 : vp_in (8 : Int32) 12 := by unfold vp_in; decide
        refine va_alda hx hb hG hP 7 rfl (i := 8) h_195 dB_36_2_3.2.2.1.2 ?_
        refine lv_topv (v' := .ref (rp 8)) (gf_at h_195) ?_
        refine lv_ldc (v := 1000000000) hx hb hown (hts (.constant RX10 38 (1000000000)) (List.mem_of_getElem? (i := 5) rfl)) dB_36_2_3.2.2.2.1 ?_
        refine ct_S hP hD hS hA [ai_ cy (rp 8) 12 (m_rp_1 8)] [16] (by decide) rfl (fun hPc hDw hFc hC_ => ?_)
        refine va_callv (va_runS (As := [.ref (rp 8), .int 1000000000]) (rest := []) ⟨hx, hb, hml, hown, hts⟩ (c_J7_fill_53178 l D cy H.size (rp 8) 12 (1000000000 : Int32) (m_rp_1 8) (by first | with_reducible assumption | assumption | omega)) (va_cwS 2 hts gX10_findPrices_J7_fill_53178 rfl rfl rfl hd_J7_fill_53178 ⟨Nat.le_of_ble_eq_true rfl, Nat.le_of_ble_eq_true rfl⟩) ⟨bl_, fun U hU hW => ⟨rfl, by rw [hU], by rw [hU]; exact hPc, kk_mv hW hK, hDw⟩⟩ rfl rfl hl.1 rfl (lv_room (Nat.le_of_ble_eq_true rfl)) dB_36_2_3.2.2.2.2 ⟨Nat.le_of_ble_eq_true rfl, Nat.le_of_ble_eq_true rfl⟩) hS (fun q _ h => hFc q h) hFc (fun u t H locs ht hvm hw hB hz1 hk1 hS => ?_)
        obtain ⟨e1_197, g_198, hP1, hD1⟩ := hB
        rw [ht] at hP1
        obtain ⟨hP, hD⟩ := va_join (wr := [ob10_0_ xw xc xk wpo wc wf, ob0_0_ xc xn xk clo cro c4 c5 c6 c7 c8, ob3_0_ xn vp vn n1 n2 n3 n4 n5, ai_ cy n1 40 fk, ai_ cy n2 40 fs, ai_ cy n3 40 fe, ai_ cy n5 40 fp, aq_ cy 6 wpo 12 (gf_ rp), ai_ cy (rp 0) 12 (m_rp_1 0), ai_ cy (rp 1) 12 (m_rp_1 1), ai_ cy (rp 2) 12 (m_rp_1 2), ai_ cy (rp 3) 12 (m_rp_1 3), ai_ cy (rp 4) 12 (m_rp_1 4), ai_ cy (rp 5) 12 (m_rp_1 5), ai_ cy (rp 6) 12 (m_rp_1 6), ai_ cy (rp 7) 12 (m_rp_1 7), ai_ cy (rp 9) 12 (m_rp_1 9), ai_ cy (rp 10) 12 (m_rp_1 10), ai_ cy (rp 11) 12 (m_rp_1 11), aq_ cy 3 xk 5 (kf_ k0 k1 k2 k3 k4), ob6_0_ k0, ob5_0_ k1, ob9_0_ k2, ob2_0_ k3, ob8_0_ k4]) (w1 := [ai_ cy (rp 8) 12 e1_197]) hP hD [16] [0, 1, 2, 3, 4, 5, 6, 7, 8, 9, 10, 11, 12, 13, 14, 15, 17, 18, 19, 20, 21, 22, 23, 24, 25] hC_ rfl (by decide +kernel) (by decide +kernel) hk1 hFc hP1 hD1
        refine pd_S hP hD [ob10_0_ xw xc xk wpo wc wf, ob0_0_ xc xn xk clo cro c4 c5 c6 c7 c8, ob3_0_ xn vp vn n1 n2 n3 n4 n5, ai_ cy n1 40 fk, ai_ cy n2 40 fs, ai_ cy n3 40 fe, ai_ cy n5 40 fp, aq_ cy 6 wpo 12 (gf_ rp), ai_ cy (rp 0) 12 (m_rp_1 0), ai_ cy (rp 1) 12 (m_rp_1 1), ai_ cy (rp 2) 12 (m_rp_1 2), ai_ cy (rp 3) 12 (m_rp_1 3), ai_ cy (rp 4) 12 (m_rp_1 4), ai_ cy (rp 5) 12 (m_rp_1 5), ai_ cy (rp 6) 12 (m_rp_1 6), ai_ cy (rp 7) 12 (m_rp_1 7), ai_ cy (rp 8) 12 e1_197, ai_ cy (rp 9) 12 (m_rp_1 9), ai_ cy (rp 10) 12 (m_rp_1 10), ai_ cy (rp 11) 12 (m_rp_1 11), aq_ cy 3 xk 5 (kf_ k0 k1 k2 k3 k4), ob6_0_ k0, ob5_0_ k1, ob9_0_ k2, ob2_0_ k3, ob8_0_ k4] [0, 1, 2, 3, 4, 5, 6, 7, 8, 9, 10, 11, 12, 13, 14, 15, 25, 16, 17, 18, 19, 20, 21, 22, 23, 24] (by decide +kernel) rfl (fun hP hD => ?_)
        obtain ⟨M_199, eM_199⟩ : ∃ g : Nat → Nat → Int32, g = va_up m_rp_1 8 e1_197 := ⟨_, rfl⟩
        refine pd_K (D := D) (cl := vwCl) (H := H) (A := A) [ob10_0_ xw xc xk wpo wc wf, ob0_0_ xc xn xk clo cro c4 c5 c6 c7 c8, ob3_0_ xn vp vn n1 n2 n3 n4 n5, ai_ cy n1 40 fk, ai_ cy n2 40 fs, ai_ cy n3 40 fe, ai_ cy n5 40 fp, aq_ cy 6 wpo 12 (gf_ rp), ai_ cy (rp 0) 12 (M_199 0), ai_ cy (rp 1) 12 (M_199 1), ai_ cy (rp 2) 12 (M_199 2), ai_ cy (rp 3) 12 (M_199 3), ai_ cy (rp 4) 12 (M_199 4), ai_ cy (rp 5) 12 (M_199 5), ai_ cy (rp 6) 12 (M_199 6), ai_ cy (rp 7) 12 (M_199 7), ai_ cy (rp 8) 12 (M_199 8), ai_ cy (rp 9) 12 (M_199 9), ai_ cy (rp 10) 12 (M_199 10), ai_ cy (rp 11) 12 (M_199 11), aq_ cy 3 xk 5 (kf_ k0 k1 k2 k3 k4), ob6_0_ k0, ob5_0_ k1, ob9_0_ k2, ob2_0_ k3, ob8_0_ k4] (by rw [eM_199]; exact hP) (by rw [eM_199]; exact hD) (fun hP hD => ?_)
        obtain ⟨y_200, ey_200⟩ : ∃ y : Int32, y = (8 : Int32) + 1 := ⟨_, rfl⟩
        have ty_200 : y_200.toInt = (8 : Int32).toInt + (1 : Int32).toInt := by rw [ey_200]; exact addI (by omega) (by omega)
        refine lv_iinc (v := y_200) (lv' := [(2, .int y_200), (1, .ref xn), (0, .ref xw)]) hx hb dB_36_2_4.1.1.1.1 hl (k := 0) rfl (by rw [ey_200]; rfl) (by decide) rfl (fun ls hl => ?_)
        refine lv_goto (tgt := 10) hx hb dB_36_2_4.1.1.1.2 (by decide) ?_
        exact ih_1 y_200 M_199 _ _ _ (by omega) (by first | with_reducible assumption | omega | assumption) (by first | with_reducible assumption | omega | assumption) ⟨hP, hD⟩ hS (lv_sub hl [0, 1, 2] rfl)
      · refine lv_aload_n hx hb dB_36_2_3.2.1.2.1 rfl (lv_at hl 2 rfl) ?_
        refine va_get (ci := 10) (v := .ref wpo) (C := RX10) (T := TX10) (N := 5) hx hb hts (fun _ h => List.mem_cons_of_mem _ (List.mem_append_left _ (List.mem_append_left _ (List.mem_append_right _ h)))) hown hK.1 hP 0 rfl rfl 2 (by decide) (hts (.fieldLink RX10 11 "CutAtlas$Widening" "prices" "[[I") (List.mem_of_getElem? (i := 4) rfl)) (fun _ h9 => h9) rfl dB_36_2_3.2.1.2.2 ?_
        refine lv_iload_n hx hb dB_36_2_3.2.2.1.1 rfl (lv_at hl 0 rfl) ?_
        have h_201 : vp_in (9 : Int32) 12 := by unfold vp_in; decide
        refine va_alda hx hb hG hP 7 rfl (i := 9) h_201 dB_36_2_3.2.2.1.2 ?_
        refine lv_topv (v' := .ref (rp 9)) (gf_at h_201) ?_
        refine lv_ldc (v := 1000000000) hx hb hown (hts (.constant RX10 38 (1000000000)) (List.mem_of_getElem? (i := 5) rfl)) dB_36_2_3.2.2.2.1 ?_
        refine ct_S hP hD hS hA [ai_ cy (rp 9) 12 (m_rp_1 9)] [17] (by decide) rfl (fun hPc hDw hFc hC_ => ?_)
        refine va_callv (va_runS (As := [.ref (rp 9), .int 1000000000]) (rest := []) ⟨hx, hb, hml, hown, hts⟩ (c_J7_fill_53178 l D cy H.size (rp 9) 12 (1000000000 : Int32) (m_rp_1 9) (by first | with_reducible assumption | assumption | omega)) (va_cwS 2 hts gX10_findPrices_J7_fill_53178 rfl rfl rfl hd_J7_fill_53178 ⟨Nat.le_of_ble_eq_true rfl, Nat.le_of_ble_eq_true rfl⟩) ⟨bl_, fun U hU hW => ⟨rfl, by rw [hU], by rw [hU]; exact hPc, kk_mv hW hK, hDw⟩⟩ rfl rfl hl.1 rfl (lv_room (Nat.le_of_ble_eq_true rfl)) dB_36_2_3.2.2.2.2 ⟨Nat.le_of_ble_eq_true rfl, Nat.le_of_ble_eq_true rfl⟩) hS (fun q _ h => hFc q h) hFc (fun u t H locs ht hvm hw hB hz1 hk1 hS => ?_)
        obtain ⟨e1_203, g_204, hP1, hD1⟩ := hB
        rw [ht] at hP1
        obtain ⟨hP, hD⟩ := va_join (wr := [ob10_0_ xw xc xk wpo wc wf, ob0_0_ xc xn xk clo cro c4 c5 c6 c7 c8, ob3_0_ xn vp vn n1 n2 n3 n4 n5, ai_ cy n1 40 fk, ai_ cy n2 40 fs, ai_ cy n3 40 fe, ai_ cy n5 40 fp, aq_ cy 6 wpo 12 (gf_ rp), ai_ cy (rp 0) 12 (m_rp_1 0), ai_ cy (rp 1) 12 (m_rp_1 1), ai_ cy (rp 2) 12 (m_rp_1 2), ai_ cy (rp 3) 12 (m_rp_1 3), ai_ cy (rp 4) 12 (m_rp_1 4), ai_ cy (rp 5) 12 (m_rp_1 5), ai_ cy (rp 6) 12 (m_rp_1 6), ai_ cy (rp 7) 12 (m_rp_1 7), ai_ cy (rp 8) 12 (m_rp_1 8), ai_ cy (rp 10) 12 (m_rp_1 10), ai_ cy (rp 11) 12 (m_rp_1 11), aq_ cy 3 xk 5 (kf_ k0 k1 k2 k3 k4), ob6_0_ k0, ob5_0_ k1, ob9_0_ k2, ob2_0_ k3, ob8_0_ k4]) (w1 := [ai_ cy (rp 9) 12 e1_203]) hP hD [17] [0, 1, 2, 3, 4, 5, 6, 7, 8, 9, 10, 11, 12, 13, 14, 15, 16, 18, 19, 20, 21, 22, 23, 24, 25] hC_ rfl (by decide +kernel) (by decide +kernel) hk1 hFc hP1 hD1
        refine pd_S hP hD [ob10_0_ xw xc xk wpo wc wf, ob0_0_ xc xn xk clo cro c4 c5 c6 c7 c8, ob3_0_ xn vp vn n1 n2 n3 n4 n5, ai_ cy n1 40 fk, ai_ cy n2 40 fs, ai_ cy n3 40 fe, ai_ cy n5 40 fp, aq_ cy 6 wpo 12 (gf_ rp), ai_ cy (rp 0) 12 (m_rp_1 0), ai_ cy (rp 1) 12 (m_rp_1 1), ai_ cy (rp 2) 12 (m_rp_1 2), ai_ cy (rp 3) 12 (m_rp_1 3), ai_ cy (rp 4) 12 (m_rp_1 4), ai_ cy (rp 5) 12 (m_rp_1 5), ai_ cy (rp 6) 12 (m_rp_1 6), ai_ cy (rp 7) 12 (m_rp_1 7), ai_ cy (rp 8) 12 (m_rp_1 8), ai_ cy (rp 9) 12 e1_203, ai_ cy (rp 10) 12 (m_rp_1 10), ai_ cy (rp 11) 12 (m_rp_1 11), aq_ cy 3 xk 5 (kf_ k0 k1 k2 k3 k4), ob6_0_ k0, ob5_0_ k1, ob9_0_ k2, ob2_0_ k3, ob8_0_ k4] [0, 1, 2, 3, 4, 5, 6, 7, 8, 9, 10, 11, 12, 13, 14, 15, 16, 25, 17, 18, 19, 20, 21, 22, 23, 24] (by decide +kernel) rfl (fun hP hD => ?_)
        obtain ⟨M_205, eM_205⟩ : ∃ g : Nat → Nat → Int32, g = va_up m_rp_1 9 e1_203 := ⟨_, rfl⟩
        refine pd_K (D := D) (cl := vwCl) (H := H) (A := A) [ob10_0_ xw xc xk wpo wc wf, ob0_0_ xc xn xk clo cro c4 c5 c6 c7 c8, ob3_0_ xn vp vn n1 n2 n3 n4 n5, ai_ cy n1 40 fk, ai_ cy n2 40 fs, ai_ cy n3 40 fe, ai_ cy n5 40 fp, aq_ cy 6 wpo 12 (gf_ rp), ai_ cy (rp 0) 12 (M_205 0), ai_ cy (rp 1) 12 (M_205 1), ai_ cy (rp 2) 12 (M_205 2), ai_ cy (rp 3) 12 (M_205 3), ai_ cy (rp 4) 12 (M_205 4), ai_ cy (rp 5) 12 (M_205 5), ai_ cy (rp 6) 12 (M_205 6), ai_ cy (rp 7) 12 (M_205 7), ai_ cy (rp 8) 12 (M_205 8), ai_ cy (rp 9) 12 (M_205 9), ai_ cy (rp 10) 12 (M_205 10), ai_ cy (rp 11) 12 (M_205 11), aq_ cy 3 xk 5 (kf_ k0 k1 k2 k3 k4), ob6_0_ k0, ob5_0_ k1, ob9_0_ k2, ob2_0_ k3, ob8_0_ k4] (by rw [eM_205]; exact hP) (by rw [eM_205]; exact hD) (fun hP hD => ?_)
        obtain ⟨y_206, ey_206⟩ : ∃ y : Int32, y = (9 : Int32) + 1 := ⟨_, rfl⟩
        have ty_206 : y_206.toInt = (9 : Int32).toInt + (1 : Int32).toInt := by rw [ey_206]; exact addI (by omega) (by omega)
        refine lv_iinc (v := y_206) (lv' := [(2, .int y_206), (1, .ref xn), (0, .ref xw)]) hx hb dB_36_2_4.1.1.1.1 hl (k := 0) rfl (by rw [ey_206]; rfl) (by decide) rfl (fun ls hl => ?_)
        refine lv_goto (tgt := 10) hx hb dB_36_2_4.1.1.1.2 (by decide) ?_
        exact ih_1 y_206 M_205 _ _ _ (by omega) (by first | with_reducible assumption | omega | assumption) (by first | with_reducible assumption | omega | assumption) ⟨hP, hD⟩ hS (lv_sub hl [0, 1, 2] rfl)
      · refine lv_aload_n hx hb dB_36_2_3.2.1.2.1 rfl (lv_at hl 2 rfl) ?_
        refine va_get (ci := 10) (v := .ref wpo) (C := RX10) (T := TX10) (N := 5) hx hb hts (fun _ h => List.mem_cons_of_mem _ (List.mem_append_left _ (List.mem_append_left _ (List.mem_append_right _ h)))) hown hK.1 hP 0 rfl rfl 2 (by decide) (hts (.fieldLink RX10 11 "CutAtlas$Widening" "prices" "[[I") (List.mem_of_getElem? (i := 4) rfl)) (fun _ h9 => h9) rfl dB_36_2_3.2.1.2.2 ?_
        refine lv_iload_n hx hb dB_36_2_3.2.2.1.1 rfl (lv_at hl 0 rfl) ?_
        have h_207 : vp_in (10 : Int32) 12 := by unfold vp_in; decide
        refine va_alda hx hb hG hP 7 rfl (i := 10) h_207 dB_36_2_3.2.2.1.2 ?_
        refine lv_topv (v' := .ref (rp 10)) (gf_at h_207) ?_
        refine lv_ldc (v := 1000000000) hx hb hown (hts (.constant RX10 38 (1000000000)) (List.mem_of_getElem? (i := 5) rfl)) dB_36_2_3.2.2.2.1 ?_
        refine ct_S hP hD hS hA [ai_ cy (rp 10) 12 (m_rp_1 10)] [18] (by decide) rfl (fun hPc hDw hFc hC_ => ?_)
        refine va_callv (va_runS (As := [.ref (rp 10), .int 1000000000]) (rest := []) ⟨hx, hb, hml, hown, hts⟩ (c_J7_fill_53178 l D cy H.size (rp 10) 12 (1000000000 : Int32) (m_rp_1 10) (by first | with_reducible assumption | assumption | omega)) (va_cwS 2 hts gX10_findPrices_J7_fill_53178 rfl rfl rfl hd_J7_fill_53178 ⟨Nat.le_of_ble_eq_true rfl, Nat.le_of_ble_eq_true rfl⟩) ⟨bl_, fun U hU hW => ⟨rfl, by rw [hU], by rw [hU]; exact hPc, kk_mv hW hK, hDw⟩⟩ rfl rfl hl.1 rfl (lv_room (Nat.le_of_ble_eq_true rfl)) dB_36_2_3.2.2.2.2 ⟨Nat.le_of_ble_eq_true rfl, Nat.le_of_ble_eq_true rfl⟩) hS (fun q _ h => hFc q h) hFc (fun u t H locs ht hvm hw hB hz1 hk1 hS => ?_)
        obtain ⟨e1_209, g_210, hP1, hD1⟩ := hB
        rw [ht] at hP1
        obtain ⟨hP, hD⟩ := va_join (wr := [ob10_0_ xw xc xk wpo wc wf, ob0_0_ xc xn xk clo cro c4 c5 c6 c7 c8, ob3_0_ xn vp vn n1 n2 n3 n4 n5, ai_ cy n1 40 fk, ai_ cy n2 40 fs, ai_ cy n3 40 fe, ai_ cy n5 40 fp, aq_ cy 6 wpo 12 (gf_ rp), ai_ cy (rp 0) 12 (m_rp_1 0), ai_ cy (rp 1) 12 (m_rp_1 1), ai_ cy (rp 2) 12 (m_rp_1 2), ai_ cy (rp 3) 12 (m_rp_1 3), ai_ cy (rp 4) 12 (m_rp_1 4), ai_ cy (rp 5) 12 (m_rp_1 5), ai_ cy (rp 6) 12 (m_rp_1 6), ai_ cy (rp 7) 12 (m_rp_1 7), ai_ cy (rp 8) 12 (m_rp_1 8), ai_ cy (rp 9) 12 (m_rp_1 9), ai_ cy (rp 11) 12 (m_rp_1 11), aq_ cy 3 xk 5 (kf_ k0 k1 k2 k3 k4), ob6_0_ k0, ob5_0_ k1, ob9_0_ k2, ob2_0_ k3, ob8_0_ k4]) (w1 := [ai_ cy (rp 10) 12 e1_209]) hP hD [18] [0, 1, 2, 3, 4, 5, 6, 7, 8, 9, 10, 11, 12, 13, 14, 15, 16, 17, 19, 20, 21, 22, 23, 24, 25] hC_ rfl (by decide +kernel) (by decide +kernel) hk1 hFc hP1 hD1
        refine pd_S hP hD [ob10_0_ xw xc xk wpo wc wf, ob0_0_ xc xn xk clo cro c4 c5 c6 c7 c8, ob3_0_ xn vp vn n1 n2 n3 n4 n5, ai_ cy n1 40 fk, ai_ cy n2 40 fs, ai_ cy n3 40 fe, ai_ cy n5 40 fp, aq_ cy 6 wpo 12 (gf_ rp), ai_ cy (rp 0) 12 (m_rp_1 0), ai_ cy (rp 1) 12 (m_rp_1 1), ai_ cy (rp 2) 12 (m_rp_1 2), ai_ cy (rp 3) 12 (m_rp_1 3), ai_ cy (rp 4) 12 (m_rp_1 4), ai_ cy (rp 5) 12 (m_rp_1 5), ai_ cy (rp 6) 12 (m_rp_1 6), ai_ cy (rp 7) 12 (m_rp_1 7), ai_ cy (rp 8) 12 (m_rp_1 8), ai_ cy (rp 9) 12 (m_rp_1 9), ai_ cy (rp 10) 12 e1_209, ai_ cy (rp 11) 12 (m_rp_1 11), aq_ cy 3 xk 5 (kf_ k0 k1 k2 k3 k4), ob6_0_ k0, ob5_0_ k1, ob9_0_ k2, ob2_0_ k3, ob8_0_ k4] [0, 1, 2, 3, 4, 5, 6, 7, 8, 9, 10, 11, 12, 13, 14, 15, 16, 17, 25, 18, 19, 20, 21, 22, 23, 24] (by decide +kernel) rfl (fun hP hD => ?_)
        obtain ⟨M_211, eM_211⟩ : ∃ g : Nat → Nat → Int32, g = va_up m_rp_1 10 e1_209 := ⟨_, rfl⟩
        refine pd_K (D := D) (cl := vwCl) (H := H) (A := A) [ob10_0_ xw xc xk wpo wc wf, ob0_0_ xc xn xk clo cro c4 c5 c6 c7 c8, ob3_0_ xn vp vn n1 n2 n3 n4 n5, ai_ cy n1 40 fk, ai_ cy n2 40 fs, ai_ cy n3 40 fe, ai_ cy n5 40 fp, aq_ cy 6 wpo 12 (gf_ rp), ai_ cy (rp 0) 12 (M_211 0), ai_ cy (rp 1) 12 (M_211 1), ai_ cy (rp 2) 12 (M_211 2), ai_ cy (rp 3) 12 (M_211 3), ai_ cy (rp 4) 12 (M_211 4), ai_ cy (rp 5) 12 (M_211 5), ai_ cy (rp 6) 12 (M_211 6), ai_ cy (rp 7) 12 (M_211 7), ai_ cy (rp 8) 12 (M_211 8), ai_ cy (rp 9) 12 (M_211 9), ai_ cy (rp 10) 12 (M_211 10), ai_ cy (rp 11) 12 (M_211 11), aq_ cy 3 xk 5 (kf_ k0 k1 k2 k3 k4), ob6_0_ k0, ob5_0_ k1, ob9_0_ k2, ob2_0_ k3, ob8_0_ k4] (by rw [eM_211]; exact hP) (by rw [eM_211]; exact hD) (fun hP hD => ?_)
        obtain ⟨y_212, ey_212⟩ : ∃ y : Int32, y = (10 : Int32) + 1 := ⟨_, rfl⟩
        have ty_212 : y_212.toInt = (10 : Int32).toInt + (1 : Int32).toInt := by rw [ey_212]; exact addI (by omega) (by omega)
        refine lv_iinc (v := y_212) (lv' := [(2, .int y_212), (1, .ref xn), (0, .ref xw)]) hx hb dB_36_2_4.1.1.1.1 hl (k := 0) rfl (by rw [ey_212]; rfl) (by decide) rfl (fun ls hl => ?_)
        refine lv_goto (tgt := 10) hx hb dB_36_2_4.1.1.1.2 (by decide) ?_
        exact ih_1 y_212 M_211 _ _ _ (by omega) (by first | with_reducible assumption | omega | assumption) (by first | with_reducible assumption | omega | assumption) ⟨hP, hD⟩ hS (lv_sub hl [0, 1, 2] rfl)
      · refine lv_aload_n hx hb dB_36_2_3.2.1.2.1 rfl (lv_at hl 2 rfl) ?_
        refine va_get (ci := 10) (v := .ref wpo) (C := RX10) (T := TX10) (N := 5) hx hb hts (fun _ h => List.mem_cons_of_mem _ (List.mem_append_left _ (List.mem_append_left _ (List.mem_append_right _ h)))) hown hK.1 hP 0 rfl rfl 2 (by decide) (hts (.fieldLink RX10 11 "CutAtlas$Widening" "prices" "[[I") (List.mem_of_getElem? (i := 4) rfl)) (fun _ h9 => h9) rfl dB_36_2_3.2.1.2.2 ?_
        refine lv_iload_n hx hb dB_36_2_3.2.2.1.1 rfl (lv_at hl 0 rfl) ?_
        have h_213 : vp_in (11 : Int32) 12 := by unfold vp_in; decide
        refine va_alda hx hb hG hP 7 rfl (i := 11) h_213 dB_36_2_3.2.2.1.2 ?_
        refine lv_topv (v' := .ref (rp 11)) (gf_at h_213) ?_
        refine lv_ldc (v := 1000000000) hx hb hown (hts (.constant RX10 38 (1000000000)) (List.mem_of_getElem? (i := 5) rfl)) dB_36_2_3.2.2.2.1 ?_
        refine ct_S hP hD hS hA [ai_ cy (rp 11) 12 (m_rp_1 11)] [19] (by decide) rfl (fun hPc hDw hFc hC_ => ?_)
        refine va_callv (va_runS (As := [.ref (rp 11), .int 1000000000]) (rest := []) ⟨hx, hb, hml, hown, hts⟩ (c_J7_fill_53178 l D cy H.size (rp 11) 12 (1000000000 : Int32) (m_rp_1 11) (by first | with_reducible assumption | assumption | omega)) (va_cwS 2 hts gX10_findPrices_J7_fill_53178 rfl rfl rfl hd_J7_fill_53178 ⟨Nat.le_of_ble_eq_true rfl, Nat.le_of_ble_eq_true rfl⟩) ⟨bl_, fun U hU hW => ⟨rfl, by rw [hU], by rw [hU]; exact hPc, kk_mv hW hK, hDw⟩⟩ rfl rfl hl.1 rfl (lv_room (Nat.le_of_ble_eq_true rfl)) dB_36_2_3.2.2.2.2 ⟨Nat.le_of_ble_eq_true rfl, Nat.le_of_ble_eq_true rfl⟩) hS (fun q _ h => hFc q h) hFc (fun u t H locs ht hvm hw hB hz1 hk1 hS => ?_)
        obtain ⟨e1_215, g_216, hP1, hD1⟩ := hB
        rw [ht] at hP1
        obtain ⟨hP, hD⟩ := va_join (wr := [ob10_0_ xw xc xk wpo wc wf, ob0_0_ xc xn xk clo cro c4 c5 c6 c7 c8, ob3_0_ xn vp vn n1 n2 n3 n4 n5, ai_ cy n1 40 fk, ai_ cy n2 40 fs, ai_ cy n3 40 fe, ai_ cy n5 40 fp, aq_ cy 6 wpo 12 (gf_ rp), ai_ cy (rp 0) 12 (m_rp_1 0), ai_ cy (rp 1) 12 (m_rp_1 1), ai_ cy (rp 2) 12 (m_rp_1 2), ai_ cy (rp 3) 12 (m_rp_1 3), ai_ cy (rp 4) 12 (m_rp_1 4), ai_ cy (rp 5) 12 (m_rp_1 5), ai_ cy (rp 6) 12 (m_rp_1 6), ai_ cy (rp 7) 12 (m_rp_1 7), ai_ cy (rp 8) 12 (m_rp_1 8), ai_ cy (rp 9) 12 (m_rp_1 9), ai_ cy (rp 10) 12 (m_rp_1 10), aq_ cy 3 xk 5 (kf_ k0 k1 k2 k3 k4), ob6_0_ k0, ob5_0_ k1, ob9_0_ k2, ob2_0_ k3, ob8_0_ k4]) (w1 := [ai_ cy (rp 11) 12 e1_215]) hP hD [19] [0, 1, 2, 3, 4, 5, 6, 7, 8, 9, 10, 11, 12, 13, 14, 15, 16, 17, 18, 20, 21, 22, 23, 24, 25] hC_ rfl (by decide +kernel) (by decide +kernel) hk1 hFc hP1 hD1
        refine pd_S hP hD [ob10_0_ xw xc xk wpo wc wf, ob0_0_ xc xn xk clo cro c4 c5 c6 c7 c8, ob3_0_ xn vp vn n1 n2 n3 n4 n5, ai_ cy n1 40 fk, ai_ cy n2 40 fs, ai_ cy n3 40 fe, ai_ cy n5 40 fp, aq_ cy 6 wpo 12 (gf_ rp), ai_ cy (rp 0) 12 (m_rp_1 0), ai_ cy (rp 1) 12 (m_rp_1 1), ai_ cy (rp 2) 12 (m_rp_1 2), ai_ cy (rp 3) 12 (m_rp_1 3), ai_ cy (rp 4) 12 (m_rp_1 4), ai_ cy (rp 5) 12 (m_rp_1 5), ai_ cy (rp 6) 12 (m_rp_1 6), ai_ cy (rp 7) 12 (m_rp_1 7), ai_ cy (rp 8) 12 (m_rp_1 8), ai_ cy (rp 9) 12 (m_rp_1 9), ai_ cy (rp 10) 12 (m_rp_1 10), ai_ cy (rp 11) 12 e1_215, aq_ cy 3 xk 5 (kf_ k0 k1 k2 k3 k4), ob6_0_ k0, ob5_0_ k1, ob9_0_ k2, ob2_0_ k3, ob8_0_ k4] [0, 1, 2, 3, 4, 5, 6, 7, 8, 9, 10, 11, 12, 13, 14, 15, 16, 17, 18, 25, 19, 20, 21, 22, 23, 24] (by decide +kernel) rfl (fun hP hD => ?_)
        obtain ⟨M_217, eM_217⟩ : ∃ g : Nat → Nat → Int32, g = va_up m_rp_1 11 e1_215 := ⟨_, rfl⟩
        refine pd_K (D := D) (cl := vwCl) (H := H) (A := A) [ob10_0_ xw xc xk wpo wc wf, ob0_0_ xc xn xk clo cro c4 c5 c6 c7 c8, ob3_0_ xn vp vn n1 n2 n3 n4 n5, ai_ cy n1 40 fk, ai_ cy n2 40 fs, ai_ cy n3 40 fe, ai_ cy n5 40 fp, aq_ cy 6 wpo 12 (gf_ rp), ai_ cy (rp 0) 12 (M_217 0), ai_ cy (rp 1) 12 (M_217 1), ai_ cy (rp 2) 12 (M_217 2), ai_ cy (rp 3) 12 (M_217 3), ai_ cy (rp 4) 12 (M_217 4), ai_ cy (rp 5) 12 (M_217 5), ai_ cy (rp 6) 12 (M_217 6), ai_ cy (rp 7) 12 (M_217 7), ai_ cy (rp 8) 12 (M_217 8), ai_ cy (rp 9) 12 (M_217 9), ai_ cy (rp 10) 12 (M_217 10), ai_ cy (rp 11) 12 (M_217 11), aq_ cy 3 xk 5 (kf_ k0 k1 k2 k3 k4), ob6_0_ k0, ob5_0_ k1, ob9_0_ k2, ob2_0_ k3, ob8_0_ k4] (by rw [eM_217]; exact hP) (by rw [eM_217]; exact hD) (fun hP hD => ?_)
        obtain ⟨y_218, ey_218⟩ : ∃ y : Int32, y = (11 : Int32) + 1 := ⟨_, rfl⟩
        have ty_218 : y_218.toInt = (11 : Int32).toInt + (1 : Int32).toInt := by rw [ey_218]; exact addI (by omega) (by omega)
        refine lv_iinc (v := y_218) (lv' := [(2, .int y_218), (1, .ref xn), (0, .ref xw)]) hx hb dB_36_2_4.1.1.1.1 hl (k := 0) rfl (by rw [ey_218]; rfl) (by decide) rfl (fun ls hl => ?_)
        refine lv_goto (tgt := 10) hx hb dB_36_2_4.1.1.1.2 (by decide) ?_
        exact ih_1 y_218 M_217 _ _ _ (by omega) (by first | with_reducible assumption | omega | assumption) (by first | with_reducible assumption | omega | assumption) ⟨hP, hD⟩ hS (lv_sub hl [0, 1, 2] rfl)

set_option maxHeartbeats 4000000 in
set_option maxRecDepth 100000 in
theorem c_X10_pay (l : Launch) (D : va_G) (cy : Nat → ClassId) (sz : Nat) (xw : Nat) (wpo : Nat) (wc : Nat) (wf : Nat) (xc : Nat) (xk : Nat) (clo : Nat) (cro : Nat) (c4 : Nat) (c5 : Nat) (c6 : Nat) (c7 : Nat) (c8 : Nat) (xn : Nat) (n1 : Nat) (n2 : Nat) (n3 : Nat) (n4 : Nat) (n5 : Nat) (vp : Int32) (vn : Int32) (fk : Nat → Int32) (fs : Nat → Int32) (fe : Nat → Int32) (fp : Nat → Int32) (rr : Nat → Nat) (Mr : Nat → Nat → Int32) (rp : Nat → Nat) (Mp : Nat → Nat → Int32) (fc : Nat → Int32) (ff : Nat → Int32) (k0 : Nat) (k1 : Nat) (k2 : Nat) (k3 : Nat) (k4 : Nat) (a1 : Int32) (a2 : Int32) (a3 : Int32) (hvp : 0 ≤ vp.toInt ∧ vp.toInt ≤ 12) (hvn : 0 ≤ vn.toInt ∧ vn.toInt ≤ 40) (q1 : 0 ≤ a1.toInt ∧ a1.toInt ≤ 11) (q2 : 0 ≤ a2.toInt ∧ a2.toInt ≤ 11) (hpr : prng fs fe 40) (r_ff : rng ff 12 (0) (11)) (r_fk : rng fk 40 (0) (4)) : Met l yX10_pay wsX10_pay ({ frames := 3, cells := 0, slots := 0, locals := 71 }) (va_Pc [.ref xw, .int a1, .int a2, .int a3] (fun U => U.heap.size = sz ∧ va_P D vwCl [ob10_0_ xw xc xk wpo wc wf, ob0_0_ xc xn xk clo cro c4 c5 c6 c7 c8, ob3_0_ xn vp vn n1 n2 n3 n4 n5, ai_ cy n1 40 fk, ai_ cy n2 40 fs, ai_ cy n3 40 fe, ai_ cy n5 40 fp, aq_ cy 6 cro 12 (gf_ rr), ai_ cy (rr 0) 12 (Mr 0), ai_ cy (rr 1) 12 (Mr 1), ai_ cy (rr 2) 12 (Mr 2), ai_ cy (rr 3) 12 (Mr 3), ai_ cy (rr 4) 12 (Mr 4), ai_ cy (rr 5) 12 (Mr 5), ai_ cy (rr 6) 12 (Mr 6), ai_ cy (rr 7) 12 (Mr 7), ai_ cy (rr 8) 12 (Mr 8), ai_ cy (rr 9) 12 (Mr 9), ai_ cy (rr 10) 12 (Mr 10), ai_ cy (rr 11) 12 (Mr 11), aq_ cy 6 wpo 12 (gf_ rp), ai_ cy (rp 0) 12 (Mp 0), ai_ cy (rp 1) 12 (Mp 1), ai_ cy (rp 2) 12 (Mp 2), ai_ cy (rp 3) 12 (Mp 3), ai_ cy (rp 4) 12 (Mp 4), ai_ cy (rp 5) 12 (Mp 5), ai_ cy (rp 6) 12 (Mp 6), ai_ cy (rp 7) 12 (Mp 7), ai_ cy (rp 8) 12 (Mp 8), ai_ cy (rp 9) 12 (Mp 9), ai_ cy (rp 10) 12 (Mp 10), ai_ cy (rp 11) 12 (Mp 11), ai_ cy wc 12 fc, ai_ cy wf 12 ff, aq_ cy 3 xk 5 (kf_ k0 k1 k2 k3 k4), ob6_0_ k0, ob5_0_ k1, ob9_0_ k2, ob2_0_ k3, ob8_0_ k4] U.heap ∧ kg_ D cy U ∧ va_D (fun _ => True) [ob10_0_ xw xc xk wpo wc wf, ob0_0_ xc xn xk clo cro c4 c5 c6 c7 c8, ob3_0_ xn vp vn n1 n2 n3 n4 n5, ai_ cy n1 40 fk, ai_ cy n2 40 fs, ai_ cy n3 40 fe, ai_ cy n5 40 fp, aq_ cy 6 cro 12 (gf_ rr), ai_ cy (rr 0) 12 (Mr 0), ai_ cy (rr 1) 12 (Mr 1), ai_ cy (rr 2) 12 (Mr 2), ai_ cy (rr 3) 12 (Mr 3), ai_ cy (rr 4) 12 (Mr 4), ai_ cy (rr 5) 12 (Mr 5), ai_ cy (rr 6) 12 (Mr 6), ai_ cy (rr 7) 12 (Mr 7), ai_ cy (rr 8) 12 (Mr 8), ai_ cy (rr 9) 12 (Mr 9), ai_ cy (rr 10) 12 (Mr 10), ai_ cy (rr 11) 12 (Mr 11), aq_ cy 6 wpo 12 (gf_ rp), ai_ cy (rp 0) 12 (Mp 0), ai_ cy (rp 1) 12 (Mp 1), ai_ cy (rp 2) 12 (Mp 2), ai_ cy (rp 3) 12 (Mp 3), ai_ cy (rp 4) 12 (Mp 4), ai_ cy (rp 5) 12 (Mp 5), ai_ cy (rp 6) 12 (Mp 6), ai_ cy (rp 7) 12 (Mp 7), ai_ cy (rp 8) 12 (Mp 8), ai_ cy (rp 9) 12 (Mp 9), ai_ cy (rp 10) 12 (Mp 10), ai_ cy (rp 11) 12 (Mp 11), ai_ cy wc 12 fc, ai_ cy wf 12 ff, aq_ cy 3 xk 5 (kf_ k0 k1 k2 k3 k4), ob6_0_ k0, ob5_0_ k1, ob9_0_ k2, ob2_0_ k3, ob8_0_ k4])) (va_Qi (fun (r : Int32) (_ : Unit) => True) (fun (_ : Unit) (t : State) => ∃ (eMr : Nat → Nat → Int32), ∃ (eMp : Nat → Nat → Int32), ∃ (ec : Nat → Int32), ∃ (ef : Nat → Int32), (rng ef 12 (0) (11)) ∧ va_P D vwCl [ob10_0_ xw xc xk wpo wc wf, ob0_0_ xc xn xk clo cro c4 c5 c6 c7 c8, ob3_0_ xn vp vn n1 n2 n3 n4 n5, ai_ cy n1 40 fk, ai_ cy n2 40 fs, ai_ cy n3 40 fe, ai_ cy n5 40 fp, aq_ cy 6 cro 12 (gf_ rr), ai_ cy (rr 0) 12 (eMr 0), ai_ cy (rr 1) 12 (eMr 1), ai_ cy (rr 2) 12 (eMr 2), ai_ cy (rr 3) 12 (eMr 3), ai_ cy (rr 4) 12 (eMr 4), ai_ cy (rr 5) 12 (eMr 5), ai_ cy (rr 6) 12 (eMr 6), ai_ cy (rr 7) 12 (eMr 7), ai_ cy (rr 8) 12 (eMr 8), ai_ cy (rr 9) 12 (eMr 9), ai_ cy (rr 10) 12 (eMr 10), ai_ cy (rr 11) 12 (eMr 11), aq_ cy 6 wpo 12 (gf_ rp), ai_ cy (rp 0) 12 (eMp 0), ai_ cy (rp 1) 12 (eMp 1), ai_ cy (rp 2) 12 (eMp 2), ai_ cy (rp 3) 12 (eMp 3), ai_ cy (rp 4) 12 (eMp 4), ai_ cy (rp 5) 12 (eMp 5), ai_ cy (rp 6) 12 (eMp 6), ai_ cy (rp 7) 12 (eMp 7), ai_ cy (rp 8) 12 (eMp 8), ai_ cy (rp 9) 12 (eMp 9), ai_ cy (rp 10) 12 (eMp 10), ai_ cy (rp 11) 12 (eMp 11), ai_ cy wc 12 ec, ai_ cy wf 12 ef, aq_ cy 3 xk 5 (kf_ k0 k1 k2 k3 k4), ob6_0_ k0, ob5_0_ k1, ob9_0_ k2, ob2_0_ k3, ob8_0_ k4] t.heap ∧ va_D (va_A [ob10_0_ xw xc xk wpo wc wf, ob0_0_ xc xn xk clo cro c4 c5 c6 c7 c8, ob3_0_ xn vp vn n1 n2 n3 n4 n5, ai_ cy n1 40 fk, ai_ cy n2 40 fs, ai_ cy n3 40 fe, ai_ cy n5 40 fp, aq_ cy 6 cro 12 (gf_ rr), ai_ cy (rr 0) 12 (Mr 0), ai_ cy (rr 1) 12 (Mr 1), ai_ cy (rr 2) 12 (Mr 2), ai_ cy (rr 3) 12 (Mr 3), ai_ cy (rr 4) 12 (Mr 4), ai_ cy (rr 5) 12 (Mr 5), ai_ cy (rr 6) 12 (Mr 6), ai_ cy (rr 7) 12 (Mr 7), ai_ cy (rr 8) 12 (Mr 8), ai_ cy (rr 9) 12 (Mr 9), ai_ cy (rr 10) 12 (Mr 10), ai_ cy (rr 11) 12 (Mr 11), aq_ cy 6 wpo 12 (gf_ rp), ai_ cy (rp 0) 12 (Mp 0), ai_ cy (rp 1) 12 (Mp 1), ai_ cy (rp 2) 12 (Mp 2), ai_ cy (rp 3) 12 (Mp 3), ai_ cy (rp 4) 12 (Mp 4), ai_ cy (rp 5) 12 (Mp 5), ai_ cy (rp 6) 12 (Mp 6), ai_ cy (rp 7) 12 (Mp 7), ai_ cy (rp 8) 12 (Mp 8), ai_ cy (rp 9) 12 (Mp 9), ai_ cy (rp 10) 12 (Mp 10), ai_ cy (rp 11) 12 (Mp 11), ai_ cy wc 12 fc, ai_ cy wf 12 ff, aq_ cy 3 xk 5 (kf_ k0 k1 k2 k3 k4), ob6_0_ k0, ob5_0_ k1, ob9_0_ k2, ob2_0_ k3, ob8_0_ k4] sz) [ob10_0_ xw xc xk wpo wc wf, ob0_0_ xc xn xk clo cro c4 c5 c6 c7 c8, ob3_0_ xn vp vn n1 n2 n3 n4 n5, ai_ cy n1 40 fk, ai_ cy n2 40 fs, ai_ cy n3 40 fe, ai_ cy n5 40 fp, aq_ cy 6 cro 12 (gf_ rr), ai_ cy (rr 0) 12 (eMr 0), ai_ cy (rr 1) 12 (eMr 1), ai_ cy (rr 2) 12 (eMr 2), ai_ cy (rr 3) 12 (eMr 3), ai_ cy (rr 4) 12 (eMr 4), ai_ cy (rr 5) 12 (eMr 5), ai_ cy (rr 6) 12 (eMr 6), ai_ cy (rr 7) 12 (eMr 7), ai_ cy (rr 8) 12 (eMr 8), ai_ cy (rr 9) 12 (eMr 9), ai_ cy (rr 10) 12 (eMr 10), ai_ cy (rr 11) 12 (eMr 11), aq_ cy 6 wpo 12 (gf_ rp), ai_ cy (rp 0) 12 (eMp 0), ai_ cy (rp 1) 12 (eMp 1), ai_ cy (rp 2) 12 (eMp 2), ai_ cy (rp 3) 12 (eMp 3), ai_ cy (rp 4) 12 (eMp 4), ai_ cy (rp 5) 12 (eMp 5), ai_ cy (rp 6) 12 (eMp 6), ai_ cy (rp 7) 12 (eMp 7), ai_ cy (rp 8) 12 (eMp 8), ai_ cy (rp 9) 12 (eMp 9), ai_ cy (rp 10) 12 (eMp 10), ai_ cy (rp 11) 12 (eMp 11), ai_ cy wc 12 ec, ai_ cy wf 12 ef, aq_ cy 3 xk 5 (kf_ k0 k1 k2 k3 k4), ob6_0_ k0, ob5_0_ k1, ob9_0_ k2, ob2_0_ k3, ob8_0_ k4]) (va_A [ob10_0_ xw xc xk wpo wc wf, ob0_0_ xc xn xk clo cro c4 c5 c6 c7 c8, ob3_0_ xn vp vn n1 n2 n3 n4 n5, ai_ cy n1 40 fk, ai_ cy n2 40 fs, ai_ cy n3 40 fe, ai_ cy n5 40 fp, aq_ cy 6 cro 12 (gf_ rr), ai_ cy (rr 0) 12 (Mr 0), ai_ cy (rr 1) 12 (Mr 1), ai_ cy (rr 2) 12 (Mr 2), ai_ cy (rr 3) 12 (Mr 3), ai_ cy (rr 4) 12 (Mr 4), ai_ cy (rr 5) 12 (Mr 5), ai_ cy (rr 6) 12 (Mr 6), ai_ cy (rr 7) 12 (Mr 7), ai_ cy (rr 8) 12 (Mr 8), ai_ cy (rr 9) 12 (Mr 9), ai_ cy (rr 10) 12 (Mr 10), ai_ cy (rr 11) 12 (Mr 11), aq_ cy 6 wpo 12 (gf_ rp), ai_ cy (rp 0) 12 (Mp 0), ai_ cy (rp 1) 12 (Mp 1), ai_ cy (rp 2) 12 (Mp 2), ai_ cy (rp 3) 12 (Mp 3), ai_ cy (rp 4) 12 (Mp 4), ai_ cy (rp 5) 12 (Mp 5), ai_ cy (rp 6) 12 (Mp 6), ai_ cy (rp 7) 12 (Mp 7), ai_ cy (rp 8) 12 (Mp 8), ai_ cy (rp 9) 12 (Mp 9), ai_ cy (rp 10) 12 (Mp 10), ai_ cy (rp 11) 12 (Mp 11), ai_ cy wc 12 fc, ai_ cy wf 12 ff, aq_ cy 3 xk 5 (kf_ k0 k1 k2 k3 k4), ob6_0_ k0, ob5_0_ k1, ob9_0_ k2, ob2_0_ k3, ob8_0_ k4] sz)) 0 0 (va_A [ob10_0_ xw xc xk wpo wc wf, ob0_0_ xc xn xk clo cro c4 c5 c6 c7 c8, ob3_0_ xn vp vn n1 n2 n3 n4 n5, ai_ cy n1 40 fk, ai_ cy n2 40 fs, ai_ cy n3 40 fe, ai_ cy n5 40 fp, aq_ cy 6 cro 12 (gf_ rr), ai_ cy (rr 0) 12 (Mr 0), ai_ cy (rr 1) 12 (Mr 1), ai_ cy (rr 2) 12 (Mr 2), ai_ cy (rr 3) 12 (Mr 3), ai_ cy (rr 4) 12 (Mr 4), ai_ cy (rr 5) 12 (Mr 5), ai_ cy (rr 6) 12 (Mr 6), ai_ cy (rr 7) 12 (Mr 7), ai_ cy (rr 8) 12 (Mr 8), ai_ cy (rr 9) 12 (Mr 9), ai_ cy (rr 10) 12 (Mr 10), ai_ cy (rr 11) 12 (Mr 11), aq_ cy 6 wpo 12 (gf_ rp), ai_ cy (rp 0) 12 (Mp 0), ai_ cy (rp 1) 12 (Mp 1), ai_ cy (rp 2) 12 (Mp 2), ai_ cy (rp 3) 12 (Mp 3), ai_ cy (rp 4) 12 (Mp 4), ai_ cy (rp 5) 12 (Mp 5), ai_ cy (rp 6) 12 (Mp 6), ai_ cy (rp 7) 12 (Mp 7), ai_ cy (rp 8) 12 (Mp 8), ai_ cy (rp 9) 12 (Mp 9), ai_ cy (rp 10) 12 (Mp 10), ai_ cy (rp 11) 12 (Mp 11), ai_ cy wc 12 fc, ai_ cy wf 12 ff, aq_ cy 3 xk 5 (kf_ k0 k1 k2 k3 k4), ob6_0_ k0, ob5_0_ k1, ob9_0_ k2, ob2_0_ k3, ob8_0_ k4] sz) := by
  refine ofQ (cc := cX10_pay) (maxL := 8) (ret := (some .int)) (by decide) rfl ?_
  intro p e s m args below meth c s₁ Q hQ B hml hv
  obtain ⟨rfl, hsz, hP, hK, hD0⟩ := hv
  have hG := hK.2
  have hK := hK.1
  have hx := B.exec
  have hb := B.bytes
  have hr := B.returns
  have hts := atoms_spec (ws := wsX10_pay) B.pre
  have hown : s.vm.findClass RX10 = some m.cls := by have h_ := findClass_of_methodNamed B.named; exact h_
  have hlocks := B.notSynchronized
  subst hsz
  have hD := hD0.self (sz := s.heap.size)
  generalize hAe : va_A [ob10_0_ xw xc xk wpo wc wf, ob0_0_ xc xn xk clo cro c4 c5 c6 c7 c8, ob3_0_ xn vp vn n1 n2 n3 n4 n5, ai_ cy n1 40 fk, ai_ cy n2 40 fs, ai_ cy n3 40 fe, ai_ cy n5 40 fp, aq_ cy 6 cro 12 (gf_ rr), ai_ cy (rr 0) 12 (Mr 0), ai_ cy (rr 1) 12 (Mr 1), ai_ cy (rr 2) 12 (Mr 2), ai_ cy (rr 3) 12 (Mr 3), ai_ cy (rr 4) 12 (Mr 4), ai_ cy (rr 5) 12 (Mr 5), ai_ cy (rr 6) 12 (Mr 6), ai_ cy (rr 7) 12 (Mr 7), ai_ cy (rr 8) 12 (Mr 8), ai_ cy (rr 9) 12 (Mr 9), ai_ cy (rr 10) 12 (Mr 10), ai_ cy (rr 11) 12 (Mr 11), aq_ cy 6 wpo 12 (gf_ rp), ai_ cy (rp 0) 12 (Mp 0), ai_ cy (rp 1) 12 (Mp 1), ai_ cy (rp 2) 12 (Mp 2), ai_ cy (rp 3) 12 (Mp 3), ai_ cy (rp 4) 12 (Mp 4), ai_ cy (rp 5) 12 (Mp 5), ai_ cy (rp 6) 12 (Mp 6), ai_ cy (rp 7) 12 (Mp 7), ai_ cy (rp 8) 12 (Mp 8), ai_ cy (rp 9) 12 (Mp 9), ai_ cy (rp 10) 12 (Mp 10), ai_ cy (rp 11) 12 (Mp 11), ai_ cy wc 12 fc, ai_ cy wf 12 ff, aq_ cy 3 xk 5 (kf_ k0 k1 k2 k3 k4), ob6_0_ k0, ob5_0_ k1, ob9_0_ k2, ob2_0_ k3, ob8_0_ k4] s.heap.size = A at hD hQ
  have hA : ∀ q : Nat, s.heap.size ≤ q → A q := fun q h => by rw [← hAe]; exact Or.inr h
  have hS : va_S A s.heap s.heap [] := va_S.rf
  have hl := lv_entry ([.ref xw, .int a1, .int a2, .int a3]) (n := 8) (Nat.le_of_ble_eq_true rfl)
  rw [lg_entry_eq]
  generalize (lg_sl ([.ref xw, .int a1, .int a2, .int a3]) ++ List.replicate (8 - (lg_sl ([.ref xw, .int a1, .int a2, .int a3])).length) Slot.unset).toArray = ls at hl ⊢
  have hl : lv_has ls 8 [(0, .ref xw), (1, .int a1), (2, .int a2), (3, .int a3)] := hl
  have zm9 : ((-9) : Int32).toInt = -9 := by decide
  have z0 : (0 : Int32).toInt = 0 := by decide
  have z1 : (1 : Int32).toInt = 1 := by decide
  have z500 : (500 : Int32).toInt = 500 := by decide
  have z1000000000 : (1000000000 : Int32).toInt = 1000000000 := by decide
  refine lv_aload_n hx hb dB_36_2_14.1.1.1.1 rfl (lv_at hl 0 rfl) ?_
  refine ct_S hP hD hS hA [ob10_0_ xw xc xk wpo wc wf, ob0_0_ xc xn xk clo cro c4 c5 c6 c7 c8, ob3_0_ xn vp vn n1 n2 n3 n4 n5, ai_ cy n1 40 fk, ai_ cy n2 40 fs, ai_ cy n3 40 fe, ai_ cy n5 40 fp, aq_ cy 6 wpo 12 (gf_ rp), ai_ cy (rp 0) 12 (Mp 0), ai_ cy (rp 1) 12 (Mp 1), ai_ cy (rp 2) 12 (Mp 2), ai_ cy (rp 3) 12 (Mp 3), ai_ cy (rp 4) 12 (Mp 4), ai_ cy (rp 5) 12 (Mp 5), ai_ cy (rp 6) 12 (Mp 6), ai_ cy (rp 7) 12 (Mp 7), ai_ cy (rp 8) 12 (Mp 8), ai_ cy (rp 9) 12 (Mp 9), ai_ cy (rp 10) 12 (Mp 10), ai_ cy (rp 11) 12 (Mp 11), aq_ cy 3 xk 5 (kf_ k0 k1 k2 k3 k4), ob6_0_ k0, ob5_0_ k1, ob9_0_ k2, ob2_0_ k3, ob8_0_ k4] [0, 1, 2, 3, 4, 5, 6, 20, 21, 22, 23, 24, 25, 26, 27, 28, 29, 30, 31, 32, 35, 36, 37, 38, 39, 40] (by decide +kernel) rfl (fun hPc hDw hFc hC_ => ?_)
  refine va_callv (va_runV (As := []) (rest := []) ⟨hx, hb, hml, hown, hts⟩ (c_X10_findPrices l D cy s.heap.size xw wpo wc wf xc xk clo cro c4 c5 c6 c7 c8 xn n1 n2 n3 n4 n5 vp vn fk fs fe fp rp Mp k0 k1 k2 k3 k4 (by first | with_reducible assumption | omega | assumption) (by first | with_reducible assumption | omega | assumption) (by first | with_reducible assumption | assumption | omega) (by first | with_reducible assumption | assumption | omega)) (cwV 0 hts gX10_pay_X10_findPrices rfl rfl rfl ⟨rfl, hd_X10_findPrices⟩ ⟨Nat.le_of_ble_eq_true rfl, Nat.le_of_ble_eq_true rfl⟩) ⟨bl_g, va_recvX hK.1 hP (ci := 10) (q0 := 0) rfl rfl, fun U hU hW => ⟨rfl, by rw [hU], by rw [hU]; exact hPc, ⟨kk_mv hW hK, arrOfT_moved hW.alike hG⟩, hDw⟩⟩ rfl rfl hl.1 rfl (lv_room (Nat.le_of_ble_eq_true rfl)) dB_36_2_14.1.1.1.2 ⟨Nat.le_of_ble_eq_true rfl, Nat.le_of_ble_eq_true rfl⟩) hS (fun q _ h => hFc q h) hFc (fun u t H locs ht hvm hw hB hz1 hk1 hS => ?_)
  obtain ⟨eMp_2, hP1, hD1⟩ := hB
  rw [ht] at hP1
  obtain ⟨hP, hD⟩ := va_join (wr := [aq_ cy 6 cro 12 (gf_ rr), ai_ cy (rr 0) 12 (Mr 0), ai_ cy (rr 1) 12 (Mr 1), ai_ cy (rr 2) 12 (Mr 2), ai_ cy (rr 3) 12 (Mr 3), ai_ cy (rr 4) 12 (Mr 4), ai_ cy (rr 5) 12 (Mr 5), ai_ cy (rr 6) 12 (Mr 6), ai_ cy (rr 7) 12 (Mr 7), ai_ cy (rr 8) 12 (Mr 8), ai_ cy (rr 9) 12 (Mr 9), ai_ cy (rr 10) 12 (Mr 10), ai_ cy (rr 11) 12 (Mr 11), ai_ cy wc 12 fc, ai_ cy wf 12 ff]) (w1 := [ob10_0_ xw xc xk wpo wc wf, ob0_0_ xc xn xk clo cro c4 c5 c6 c7 c8, ob3_0_ xn vp vn n1 n2 n3 n4 n5, ai_ cy n1 40 fk, ai_ cy n2 40 fs, ai_ cy n3 40 fe, ai_ cy n5 40 fp, aq_ cy 6 wpo 12 (gf_ rp), ai_ cy (rp 0) 12 (eMp_2 0), ai_ cy (rp 1) 12 (eMp_2 1), ai_ cy (rp 2) 12 (eMp_2 2), ai_ cy (rp 3) 12 (eMp_2 3), ai_ cy (rp 4) 12 (eMp_2 4), ai_ cy (rp 5) 12 (eMp_2 5), ai_ cy (rp 6) 12 (eMp_2 6), ai_ cy (rp 7) 12 (eMp_2 7), ai_ cy (rp 8) 12 (eMp_2 8), ai_ cy (rp 9) 12 (eMp_2 9), ai_ cy (rp 10) 12 (eMp_2 10), ai_ cy (rp 11) 12 (eMp_2 11), aq_ cy 3 xk 5 (kf_ k0 k1 k2 k3 k4), ob6_0_ k0, ob5_0_ k1, ob9_0_ k2, ob2_0_ k3, ob8_0_ k4]) hP hD [0, 1, 2, 3, 4, 5, 6, 20, 21, 22, 23, 24, 25, 26, 27, 28, 29, 30, 31, 32, 35, 36, 37, 38, 39, 40] [7, 8, 9, 10, 11, 12, 13, 14, 15, 16, 17, 18, 19, 33, 34] hC_ rfl (by decide +kernel) (by decide +kernel) hk1 hFc hP1 hD1
  refine pd_S hP hD [ob10_0_ xw xc xk wpo wc wf, ob0_0_ xc xn xk clo cro c4 c5 c6 c7 c8, ob3_0_ xn vp vn n1 n2 n3 n4 n5, ai_ cy n1 40 fk, ai_ cy n2 40 fs, ai_ cy n3 40 fe, ai_ cy n5 40 fp, aq_ cy 6 cro 12 (gf_ rr), ai_ cy (rr 0) 12 (Mr 0), ai_ cy (rr 1) 12 (Mr 1), ai_ cy (rr 2) 12 (Mr 2), ai_ cy (rr 3) 12 (Mr 3), ai_ cy (rr 4) 12 (Mr 4), ai_ cy (rr 5) 12 (Mr 5), ai_ cy (rr 6) 12 (Mr 6), ai_ cy (rr 7) 12 (Mr 7), ai_ cy (rr 8) 12 (Mr 8), ai_ cy (rr 9) 12 (Mr 9), ai_ cy (rr 10) 12 (Mr 10), ai_ cy (rr 11) 12 (Mr 11), aq_ cy 6 wpo 12 (gf_ rp), ai_ cy (rp 0) 12 (eMp_2 0), ai_ cy (rp 1) 12 (eMp_2 1), ai_ cy (rp 2) 12 (eMp_2 2), ai_ cy (rp 3) 12 (eMp_2 3), ai_ cy (rp 4) 12 (eMp_2 4), ai_ cy (rp 5) 12 (eMp_2 5), ai_ cy (rp 6) 12 (eMp_2 6), ai_ cy (rp 7) 12 (eMp_2 7), ai_ cy (rp 8) 12 (eMp_2 8), ai_ cy (rp 9) 12 (eMp_2 9), ai_ cy (rp 10) 12 (eMp_2 10), ai_ cy (rp 11) 12 (eMp_2 11), ai_ cy wc 12 fc, ai_ cy wf 12 ff, aq_ cy 3 xk 5 (kf_ k0 k1 k2 k3 k4), ob6_0_ k0, ob5_0_ k1, ob9_0_ k2, ob2_0_ k3, ob8_0_ k4] [15, 16, 17, 18, 19, 20, 21, 0, 1, 2, 3, 4, 5, 6, 7, 8, 9, 10, 11, 12, 22, 23, 24, 25, 26, 27, 28, 29, 30, 31, 32, 33, 34, 13, 14, 35, 36, 37, 38, 39, 40] (by decide +kernel) rfl (fun hP hD => ?_)
  refine lv_iload_n hx hb dB_36_2_14.1.1.2.1 rfl (lv_at hl 3 rfl) ?_
  refine lv_istore (lv' := [(4, .int a3), (0, .ref xw), (1, .int a1), (2, .int a2), (3, .int a3)]) hx hb dB_36_2_14.1.1.2.2 hl (by decide) rfl (fun ls hl => ?_)
  refine lv_iconst (v := 0) hx hb dB_36_2_14.1.2.1.1 (by decide) ?_
  refine lv_istore (lv' := [(5, .int 0), (4, .int a3), (0, .ref xw), (1, .int a1), (2, .int a2), (3, .int a3)]) hx hb dB_36_2_14.1.2.1.2 hl (by decide) rfl (fun ls hl => ?_)
  refine lv_iconst (v := 0) hx hb dB_36_2_14.1.2.2.1 (by decide) ?_
  refine lv_istore (lv' := [(6, .int 0), (5, .int 0), (4, .int a3), (0, .ref xw), (1, .int a1), (2, .int a2), (3, .int a3)]) hx hb dB_36_2_14.1.2.2.2 hl (by decide) rfl (fun ls hl => ?_)
  suffices LOOP_3 : ∀ (n_3 : Nat) (x6_3 : Int32) (x5_3 : Int32) (x4_3 : Int32) (m_rr_3 : Nat → Nat → Int32) (c_wc_3 : Nat → Int32) (c_wf_3 : Nat → Int32) (H : Heap) (locs : List Loc) (ls : Array Slot), 500 - x6_3.toInt < (n_3 : Int) → (0 ≤ x6_3.toInt) → (x6_3.toInt ≤ 500) → (rng c_wf_3 12 (0) (11)) → pd_2 D vwCl A [ob10_0_ xw xc xk wpo wc wf, ob0_0_ xc xn xk clo cro c4 c5 c6 c7 c8, ob3_0_ xn vp vn n1 n2 n3 n4 n5, ai_ cy n1 40 fk, ai_ cy n2 40 fs, ai_ cy n3 40 fe, ai_ cy n5 40 fp, aq_ cy 6 cro 12 (gf_ rr), ai_ cy (rr 0) 12 (m_rr_3 0), ai_ cy (rr 1) 12 (m_rr_3 1), ai_ cy (rr 2) 12 (m_rr_3 2), ai_ cy (rr 3) 12 (m_rr_3 3), ai_ cy (rr 4) 12 (m_rr_3 4), ai_ cy (rr 5) 12 (m_rr_3 5), ai_ cy (rr 6) 12 (m_rr_3 6), ai_ cy (rr 7) 12 (m_rr_3 7), ai_ cy (rr 8) 12 (m_rr_3 8), ai_ cy (rr 9) 12 (m_rr_3 9), ai_ cy (rr 10) 12 (m_rr_3 10), ai_ cy (rr 11) 12 (m_rr_3 11), aq_ cy 6 wpo 12 (gf_ rp), ai_ cy (rp 0) 12 (eMp_2 0), ai_ cy (rp 1) 12 (eMp_2 1), ai_ cy (rp 2) 12 (eMp_2 2), ai_ cy (rp 3) 12 (eMp_2 3), ai_ cy (rp 4) 12 (eMp_2 4), ai_ cy (rp 5) 12 (eMp_2 5), ai_ cy (rp 6) 12 (eMp_2 6), ai_ cy (rp 7) 12 (eMp_2 7), ai_ cy (rp 8) 12 (eMp_2 8), ai_ cy (rp 9) 12 (eMp_2 9), ai_ cy (rp 10) 12 (eMp_2 10), ai_ cy (rp 11) 12 (eMp_2 11), ai_ cy wc 12 c_wc_3, ai_ cy wf 12 c_wf_3, aq_ cy 3 xk 5 (kf_ k0 k1 k2 k3 k4), ob6_0_ k0, ob5_0_ k1, ob9_0_ k2, ob2_0_ k3, ob8_0_ k4] H → va_S A s.heap H locs → lv_has ls 8 [(6, .int x6_3), (5, .int x5_3), (4, .int x4_3), (0, .ref xw), (1, .int a1), (2, .int a2), (3, .int a3)] → W p l e ({ frames := 3, cells := 0, slots := 0, locals := 71 } : Room) s m (([.ref xw, .int a1, .int a2, .int a3] : List Value).toArray) below meth c H locs 0 0 Q (F0 m 13 ls []) from LOOP_3 ((500 - (0 : Int32).toInt).toNat + 1) (0 : Int32) (0 : Int32) a3 Mr fc ff _ _ _ (by omega) (by first | with_reducible assumption | omega | assumption) (by first | with_reducible assumption | omega | assumption) (by first | with_reducible assumption | assumption | exact rng_zero (by omega) (by omega) | exact orng_zero) ⟨hP, hD⟩ hS (lv_sub hl [0, 1, 2, 3, 4, 5, 6] rfl)
  intro n_3
  induction n_3 with
  | zero =>
    intro x6_3 x5_3 x4_3 m_rr_3 c_wc_3 c_wf_3 H locs ls hm v0_3 v1_3 rc_wf_3 hPD hS hl; obtain ⟨hP, hD⟩ := hPD
    exact absurd hm (by omega)
  | succ n_3 ih_3 =>
    intro x6_3 x5_3 x4_3 m_rr_3 c_wc_3 c_wf_3 H locs ls hm v0_3 v1_3 rc_wf_3 hPD hS hl; obtain ⟨hP, hD⟩ := hPD
    refine lv_iload hx hb dB_36_2_14.2.1.1.1 (lv_at hl 0 rfl) ?_
    refine lv_sipush (v := 500) hx hb dB_36_2_14.2.1.1.2 (by decide) ?_
    refine lv_icmp_ge (tgt := 90) hx hb dB_36_2_14.2.1.2.1 (by decide) (fun c_4 => ?_) (fun c_4 => ?_)
    · have t_4 : (500 : Int32).toInt ≤ x6_3.toInt := Int32.le_iff_toInt_le.mp c_4
      refine lv_iload hx hb dB_36_2_17.2.1 (lv_at hl 1 rfl) ?_
      rw [hQ]
      exact W.iret (v := x5_3) hx hb hr (fun t ht hW => ⟨⟨x5_3, (), rfl, trivial, m_rr_3, eMp_2, c_wc_3, c_wf_3, (by first | with_reducible assumption | assumption | exact rng_zero (by omega) (by omega) | omega), by rw [ht]; exact hP, hD⟩, hS.F ht⟩) hS.2.2 dB_36_2_17.2.2
    · have t_4 : ¬ (500 : Int32).toInt ≤ x6_3.toInt := fun h => c_4 (Int32.le_iff_toInt_le.mpr h)
      refine lv_iload hx hb dB_36_2_14.2.1.2.2 (lv_at hl 2 rfl) ?_
      refine lv_if_le (tgt := 90) hx hb dB_36_2_14.2.2.1.1 (by decide) (fun c_5 => ?_) (fun c_5 => ?_)
      · have t_5 : x4_3.toInt ≤ (0 : Int32).toInt := Int32.le_iff_toInt_le.mp c_5
        refine lv_iload hx hb dB_36_2_17.2.1 (lv_at hl 1 rfl) ?_
        rw [hQ]
        exact W.iret (v := x5_3) hx hb hr (fun t ht hW => ⟨⟨x5_3, (), rfl, trivial, m_rr_3, eMp_2, c_wc_3, c_wf_3, (by first | with_reducible assumption | assumption | exact rng_zero (by omega) (by omega) | omega), by rw [ht]; exact hP, hD⟩, hS.F ht⟩) hS.2.2 dB_36_2_17.2.2
      · have t_5 : ¬ x4_3.toInt ≤ (0 : Int32).toInt := fun h => c_5 (Int32.le_iff_toInt_le.mpr h)
        refine lv_aload_n hx hb dB_36_2_14.2.2.1.2 rfl (lv_at hl 3 rfl) ?_
        refine lv_iload_n hx hb dB_36_2_14.2.2.2.1 rfl (lv_at hl 4 rfl) ?_
        refine ct_S hP hD hS hA [ob10_0_ xw xc xk wpo wc wf, ob0_0_ xc xn xk clo cro c4 c5 c6 c7 c8, ob3_0_ xn vp vn n1 n2 n3 n4 n5, aq_ cy 6 cro 12 (gf_ rr), ai_ cy (rr 0) 12 (m_rr_3 0), ai_ cy (rr 1) 12 (m_rr_3 1), ai_ cy (rr 2) 12 (m_rr_3 2), ai_ cy (rr 3) 12 (m_rr_3 3), ai_ cy (rr 4) 12 (m_rr_3 4), ai_ cy (rr 5) 12 (m_rr_3 5), ai_ cy (rr 6) 12 (m_rr_3 6), ai_ cy (rr 7) 12 (m_rr_3 7), ai_ cy (rr 8) 12 (m_rr_3 8), ai_ cy (rr 9) 12 (m_rr_3 9), ai_ cy (rr 10) 12 (m_rr_3 10), ai_ cy (rr 11) 12 (m_rr_3 11), aq_ cy 6 wpo 12 (gf_ rp), ai_ cy (rp 0) 12 (eMp_2 0), ai_ cy (rp 1) 12 (eMp_2 1), ai_ cy (rp 2) 12 (eMp_2 2), ai_ cy (rp 3) 12 (eMp_2 3), ai_ cy (rp 4) 12 (eMp_2 4), ai_ cy (rp 5) 12 (eMp_2 5), ai_ cy (rp 6) 12 (eMp_2 6), ai_ cy (rp 7) 12 (eMp_2 7), ai_ cy (rp 8) 12 (eMp_2 8), ai_ cy (rp 9) 12 (eMp_2 9), ai_ cy (rp 10) 12 (eMp_2 10), ai_ cy (rp 11) 12 (eMp_2 11), ai_ cy wc 12 c_wc_3, ai_ cy wf 12 c_wf_3] [0, 1, 2, 7, 8, 9, 10, 11, 12, 13, 14, 15, 16, 17, 18, 19, 20, 21, 22, 23, 24, 25, 26, 27, 28, 29, 30, 31, 32, 33, 34] (by decide +kernel) rfl (fun hPc hDw hFc hC_ => ?_)
        refine va_callv (va_runV (As := [.int a1]) (rest := []) ⟨hx, hb, hml, hown, hts⟩ (c_X10_findCosts l D cy H.size xw wpo wc wf xc xk clo cro c4 c5 c6 c7 c8 xn n1 n2 n3 n4 n5 vp vn rr m_rr_3 rp eMp_2 c_wc_3 c_wf_3 a1 (by first | with_reducible assumption | omega | assumption) (by first | with_reducible assumption | omega | assumption) (by first | with_reducible assumption | assumption | omega)) (cwV 1 hts gX10_pay_X10_findCosts rfl rfl rfl ⟨rfl, hd_X10_findCosts⟩ ⟨Nat.le_of_ble_eq_true rfl, Nat.le_of_ble_eq_true rfl⟩) ⟨bl_g, va_recvX hK.1 hP (ci := 10) (q0 := 0) rfl rfl, fun U hU hW => ⟨rfl, by rw [hU], by rw [hU]; exact hPc, ⟨kk_mv hW hK, arrOfT_moved hW.alike hG⟩, hDw⟩⟩ rfl rfl hl.1 rfl (lv_room (Nat.le_of_ble_eq_true rfl)) dB_36_2_14.2.2.2.2 ⟨Nat.le_of_ble_eq_true rfl, Nat.le_of_ble_eq_true rfl⟩) hS (fun q _ h => hFc q h) hFc (fun u t H locs ht hvm hw hB hz1 hk1 hS => ?_)
        obtain ⟨ec_7, ef_8, g_9, hP1, hD1⟩ := hB
        rw [ht] at hP1
        obtain ⟨hP, hD⟩ := va_join (wr := [ai_ cy n1 40 fk, ai_ cy n2 40 fs, ai_ cy n3 40 fe, ai_ cy n5 40 fp, aq_ cy 3 xk 5 (kf_ k0 k1 k2 k3 k4), ob6_0_ k0, ob5_0_ k1, ob9_0_ k2, ob2_0_ k3, ob8_0_ k4]) (w1 := [ob10_0_ xw xc xk wpo wc wf, ob0_0_ xc xn xk clo cro c4 c5 c6 c7 c8, ob3_0_ xn vp vn n1 n2 n3 n4 n5, aq_ cy 6 cro 12 (gf_ rr), ai_ cy (rr 0) 12 (m_rr_3 0), ai_ cy (rr 1) 12 (m_rr_3 1), ai_ cy (rr 2) 12 (m_rr_3 2), ai_ cy (rr 3) 12 (m_rr_3 3), ai_ cy (rr 4) 12 (m_rr_3 4), ai_ cy (rr 5) 12 (m_rr_3 5), ai_ cy (rr 6) 12 (m_rr_3 6), ai_ cy (rr 7) 12 (m_rr_3 7), ai_ cy (rr 8) 12 (m_rr_3 8), ai_ cy (rr 9) 12 (m_rr_3 9), ai_ cy (rr 10) 12 (m_rr_3 10), ai_ cy (rr 11) 12 (m_rr_3 11), aq_ cy 6 wpo 12 (gf_ rp), ai_ cy (rp 0) 12 (eMp_2 0), ai_ cy (rp 1) 12 (eMp_2 1), ai_ cy (rp 2) 12 (eMp_2 2), ai_ cy (rp 3) 12 (eMp_2 3), ai_ cy (rp 4) 12 (eMp_2 4), ai_ cy (rp 5) 12 (eMp_2 5), ai_ cy (rp 6) 12 (eMp_2 6), ai_ cy (rp 7) 12 (eMp_2 7), ai_ cy (rp 8) 12 (eMp_2 8), ai_ cy (rp 9) 12 (eMp_2 9), ai_ cy (rp 10) 12 (eMp_2 10), ai_ cy (rp 11) 12 (eMp_2 11), ai_ cy wc 12 ec_7, ai_ cy wf 12 ef_8]) hP hD [0, 1, 2, 7, 8, 9, 10, 11, 12, 13, 14, 15, 16, 17, 18, 19, 20, 21, 22, 23, 24, 25, 26, 27, 28, 29, 30, 31, 32, 33, 34] [3, 4, 5, 6, 35, 36, 37, 38, 39, 40] hC_ rfl (by decide) (by decide) hk1 hFc hP1 hD1
        refine pd_S hP hD [ob10_0_ xw xc xk wpo wc wf, ob0_0_ xc xn xk clo cro c4 c5 c6 c7 c8, ob3_0_ xn vp vn n1 n2 n3 n4 n5, ai_ cy n1 40 fk, ai_ cy n2 40 fs, ai_ cy n3 40 fe, ai_ cy n5 40 fp, aq_ cy 6 cro 12 (gf_ rr), ai_ cy (rr 0) 12 (m_rr_3 0), ai_ cy (rr 1) 12 (m_rr_3 1), ai_ cy (rr 2) 12 (m_rr_3 2), ai_ cy (rr 3) 12 (m_rr_3 3), ai_ cy (rr 4) 12 (m_rr_3 4), ai_ cy (rr 5) 12 (m_rr_3 5), ai_ cy (rr 6) 12 (m_rr_3 6), ai_ cy (rr 7) 12 (m_rr_3 7), ai_ cy (rr 8) 12 (m_rr_3 8), ai_ cy (rr 9) 12 (m_rr_3 9), ai_ cy (rr 10) 12 (m_rr_3 10), ai_ cy (rr 11) 12 (m_rr_3 11), aq_ cy 6 wpo 12 (gf_ rp), ai_ cy (rp 0) 12 (eMp_2 0), ai_ cy (rp 1) 12 (eMp_2 1), ai_ cy (rp 2) 12 (eMp_2 2), ai_ cy (rp 3) 12 (eMp_2 3), ai_ cy (rp 4) 12 (eMp_2 4), ai_ cy (rp 5) 12 (eMp_2 5), ai_ cy (rp 6) 12 (eMp_2 6), ai_ cy (rp 7) 12 (eMp_2 7), ai_ cy (rp 8) 12 (eMp_2 8), ai_ cy (rp 9) 12 (eMp_2 9), ai_ cy (rp 10) 12 (eMp_2 10), ai_ cy (rp 11) 12 (eMp_2 11), ai_ cy wc 12 ec_7, ai_ cy wf 12 ef_8, aq_ cy 3 xk 5 (kf_ k0 k1 k2 k3 k4), ob6_0_ k0, ob5_0_ k1, ob9_0_ k2, ob2_0_ k3, ob8_0_ k4] [10, 11, 12, 0, 1, 2, 3, 13, 14, 15, 16, 17, 18, 19, 20, 21, 22, 23, 24, 25, 26, 27, 28, 29, 30, 31, 32, 33, 34, 35, 36, 37, 38, 39, 40, 4, 5, 6, 7, 8, 9] (by decide +kernel) rfl (fun hP hD => ?_)
        refine lv_aload_n hx hb dB_36_2_15.1.1.1.1 rfl (lv_at hl 3 rfl) ?_
        refine va_get (ci := 10) (v := .ref wc) (C := RX10) (T := TX10) (N := 5) hx hb hts (fun _ h => List.mem_cons_of_mem _ (List.mem_append_left _ (List.mem_append_left _ (List.mem_append_right _ h)))) hown hK.1 hP 0 rfl rfl 3 (by decide) (hts (.fieldLink RX10 16 "CutAtlas$Widening" "costs" "[I") (List.mem_of_getElem? (i := 1) rfl)) (fun _ h9 => h9) rfl dB_36_2_15.1.1.1.2 ?_
        refine lv_iload_n hx hb dB_36_2_15.1.1.2.1 rfl (lv_at hl 5 rfl) ?_
        have h_10 : vp_in a2 12 := in_I (by first | with_reducible assumption | omega) (by omega)
        refine va_iald hx hb hK.1 hP 33 0 rfl rfl (i := a2) h_10 dB_36_2_15.1.1.2.2 ?_
        refine lv_topi (fun y_11 ey_11 => ?_)
        refine lv_ldc (v := 1000000000) hx hb hown (hts (.constant RX10 38 (1000000000)) (List.mem_of_getElem? (i := 2) rfl)) dB_36_2_15.1.2.1.1 ?_
        refine lv_icmp_ne (tgt := 45) hx hb dB_36_2_15.1.2.1.2 (by decide) (fun c_12 => ?_) (fun c_12 => ?_)
        · have t_12 : ¬ y_11.toInt = (1000000000 : Int32).toInt := fun h => c_12 (Int32.toInt_inj.mp h)
          refine lv_aload_n hx hb dB_36_2_15.2.1.1.1 rfl (lv_at hl 3 rfl) ?_
          refine lv_iload_n hx hb dB_36_2_15.2.1.1.2 rfl (lv_at hl 4 rfl) ?_
          refine lv_iload_n hx hb dB_36_2_15.2.1.2.1 rfl (lv_at hl 5 rfl) ?_
          refine lv_iload hx hb dB_36_2_15.2.1.2.2 (lv_at hl 2 rfl) ?_
          refine ct_R hP hD [ob10_0_ xw xc xk wpo wc wf, ob0_0_ xc xn xk clo cro c4 c5 c6 c7 c8, ob3_0_ xn vp vn n1 n2 n3 n4 n5, aq_ cy 6 cro 12 (gf_ rr), ai_ cy (rr 0) 12 (m_rr_3 0), ai_ cy (rr 1) 12 (m_rr_3 1), ai_ cy (rr 2) 12 (m_rr_3 2), ai_ cy (rr 3) 12 (m_rr_3 3), ai_ cy (rr 4) 12 (m_rr_3 4), ai_ cy (rr 5) 12 (m_rr_3 5), ai_ cy (rr 6) 12 (m_rr_3 6), ai_ cy (rr 7) 12 (m_rr_3 7), ai_ cy (rr 8) 12 (m_rr_3 8), ai_ cy (rr 9) 12 (m_rr_3 9), ai_ cy (rr 10) 12 (m_rr_3 10), ai_ cy (rr 11) 12 (m_rr_3 11), ai_ cy wf 12 ef_8] [0, 1, 2, 7, 8, 9, 10, 11, 12, 13, 14, 15, 16, 17, 18, 19, 34] (by decide +kernel) rfl (fun hPc hDw => ?_)
          have hFc := va_free (wc := []) hD hS hA [] rfl
          refine va_calli (va_runV (As := [.int a1, .int a2, .int x4_3]) (rest := []) ⟨hx, hb, hml, hown, hts⟩ (c_X10_roomOfWay l D cy H.size xw wpo wc wf xc xk clo cro c4 c5 c6 c7 c8 xn n1 n2 n3 n4 n5 vp vn rr m_rr_3 ef_8 a1 a2 x4_3 (by first | with_reducible assumption | omega | assumption) (by first | with_reducible assumption | assumption | omega)) (cwV 3 hts gX10_pay_X10_roomOfWay rfl rfl rfl ⟨rfl, hd_X10_roomOfWay⟩ ⟨Nat.le_of_ble_eq_true rfl, Nat.le_of_ble_eq_true rfl⟩) ⟨bl_g, va_recvX hK.1 hP (ci := 10) (q0 := 0) rfl rfl, fun U hU hW => ⟨rfl, by rw [hU], by rw [hU]; exact hPc, ⟨kk_mv hW hK, arrOfT_moved hW.alike hG⟩, hDw⟩⟩ rfl rfl hl.1 rfl (lv_room (Nat.le_of_ble_eq_true rfl)) dB_36_2_15.2.2.1.1 ⟨Nat.le_of_ble_eq_true rfl, Nat.le_of_ble_eq_true rfl⟩) hS (fun q _ h => hFc q h) hFc (fun r_13 u t H locs ht hvm hw hB hz1 hk1 hS => ?_)
          have hP : va_P D vwCl _ H := ro_keep hP hk1
          refine lv_istore (lv' := [(7, .int r_13), (6, .int x6_3), (5, .int x5_3), (4, .int x4_3), (0, .ref xw), (1, .int a1), (2, .int a2), (3, .int a3)]) hx hb dB_36_2_15.2.2.1.2 hl (by decide) rfl (fun ls hl => ?_)
          refine lv_aload_n hx hb dB_36_2_15.2.2.2.1 rfl (lv_at hl 4 rfl) ?_
          refine lv_iload_n hx hb dB_36_2_15.2.2.2.2 rfl (lv_at hl 5 rfl) ?_
          refine lv_iload_n hx hb dB_36_2_16.1.1.1.1 rfl (lv_at hl 6 rfl) ?_
          refine lv_iload hx hb dB_36_2_16.1.1.1.2 (lv_at hl 0 rfl) ?_
          refine ct_S hP hD hS hA [ob10_0_ xw xc xk wpo wc wf, ob0_0_ xc xn xk clo cro c4 c5 c6 c7 c8, ob3_0_ xn vp vn n1 n2 n3 n4 n5, aq_ cy 6 cro 12 (gf_ rr), ai_ cy (rr 0) 12 (m_rr_3 0), ai_ cy (rr 1) 12 (m_rr_3 1), ai_ cy (rr 2) 12 (m_rr_3 2), ai_ cy (rr 3) 12 (m_rr_3 3), ai_ cy (rr 4) 12 (m_rr_3 4), ai_ cy (rr 5) 12 (m_rr_3 5), ai_ cy (rr 6) 12 (m_rr_3 6), ai_ cy (rr 7) 12 (m_rr_3 7), ai_ cy (rr 8) 12 (m_rr_3 8), ai_ cy (rr 9) 12 (m_rr_3 9), ai_ cy (rr 10) 12 (m_rr_3 10), ai_ cy (rr 11) 12 (m_rr_3 11), ai_ cy wf 12 ef_8] [0, 1, 2, 7, 8, 9, 10, 11, 12, 13, 14, 15, 16, 17, 18, 19, 34] (by decide +kernel) rfl (fun hPc hDw hFc hC_ => ?_)
          refine va_callv (va_runV (As := [.int a1, .int a2, .int r_13]) (rest := []) ⟨hx, hb, hml, hown, hts⟩ (c_X10_sendAlongWay l D cy H.size xw wpo wc wf xc xk clo cro c4 c5 c6 c7 c8 xn n1 n2 n3 n4 n5 vp vn rr m_rr_3 ef_8 a1 a2 r_13 (by first | with_reducible assumption | omega | assumption) (by first | with_reducible assumption | assumption | omega)) (cwV 3 hts gX10_pay_X10_sendAlongWay rfl rfl rfl ⟨rfl, hd_X10_sendAlongWay⟩ ⟨Nat.le_of_ble_eq_true rfl, Nat.le_of_ble_eq_true rfl⟩) ⟨bl_g, va_recvX hK.1 hP (ci := 10) (q0 := 0) rfl rfl, fun U hU hW => ⟨rfl, by rw [hU], by rw [hU]; exact hPc, ⟨kk_mv hW hK, arrOfT_moved hW.alike hG⟩, hDw⟩⟩ rfl rfl hl.1 rfl (lv_room (Nat.le_of_ble_eq_true rfl)) dB_36_2_16.1.1.2.1 ⟨Nat.le_of_ble_eq_true rfl, Nat.le_of_ble_eq_true rfl⟩) hS (fun q _ h => hFc q h) hFc (fun u t H locs ht hvm hw hB hz1 hk1 hS => ?_)
          obtain ⟨eMr_15, hP1, hD1⟩ := hB
          rw [ht] at hP1
          obtain ⟨hP, hD⟩ := va_join (wr := [ai_ cy n1 40 fk, ai_ cy n2 40 fs, ai_ cy n3 40 fe, ai_ cy n5 40 fp, aq_ cy 6 wpo 12 (gf_ rp), ai_ cy (rp 0) 12 (eMp_2 0), ai_ cy (rp 1) 12 (eMp_2 1), ai_ cy (rp 2) 12 (eMp_2 2), ai_ cy (rp 3) 12 (eMp_2 3), ai_ cy (rp 4) 12 (eMp_2 4), ai_ cy (rp 5) 12 (eMp_2 5), ai_ cy (rp 6) 12 (eMp_2 6), ai_ cy (rp 7) 12 (eMp_2 7), ai_ cy (rp 8) 12 (eMp_2 8), ai_ cy (rp 9) 12 (eMp_2 9), ai_ cy (rp 10) 12 (eMp_2 10), ai_ cy (rp 11) 12 (eMp_2 11), ai_ cy wc 12 ec_7, aq_ cy 3 xk 5 (kf_ k0 k1 k2 k3 k4), ob6_0_ k0, ob5_0_ k1, ob9_0_ k2, ob2_0_ k3, ob8_0_ k4]) (w1 := [ob10_0_ xw xc xk wpo wc wf, ob0_0_ xc xn xk clo cro c4 c5 c6 c7 c8, ob3_0_ xn vp vn n1 n2 n3 n4 n5, aq_ cy 6 cro 12 (gf_ rr), ai_ cy (rr 0) 12 (eMr_15 0), ai_ cy (rr 1) 12 (eMr_15 1), ai_ cy (rr 2) 12 (eMr_15 2), ai_ cy (rr 3) 12 (eMr_15 3), ai_ cy (rr 4) 12 (eMr_15 4), ai_ cy (rr 5) 12 (eMr_15 5), ai_ cy (rr 6) 12 (eMr_15 6), ai_ cy (rr 7) 12 (eMr_15 7), ai_ cy (rr 8) 12 (eMr_15 8), ai_ cy (rr 9) 12 (eMr_15 9), ai_ cy (rr 10) 12 (eMr_15 10), ai_ cy (rr 11) 12 (eMr_15 11), ai_ cy wf 12 ef_8]) hP hD [0, 1, 2, 7, 8, 9, 10, 11, 12, 13, 14, 15, 16, 17, 18, 19, 34] [3, 4, 5, 6, 20, 21, 22, 23, 24, 25, 26, 27, 28, 29, 30, 31, 32, 33, 35, 36, 37, 38, 39, 40] hC_ rfl (by decide +kernel) (by decide +kernel) hk1 hFc hP1 hD1
          refine pd_S hP hD [ob10_0_ xw xc xk wpo wc wf, ob0_0_ xc xn xk clo cro c4 c5 c6 c7 c8, ob3_0_ xn vp vn n1 n2 n3 n4 n5, ai_ cy n1 40 fk, ai_ cy n2 40 fs, ai_ cy n3 40 fe, ai_ cy n5 40 fp, aq_ cy 6 cro 12 (gf_ rr), ai_ cy (rr 0) 12 (eMr_15 0), ai_ cy (rr 1) 12 (eMr_15 1), ai_ cy (rr 2) 12 (eMr_15 2), ai_ cy (rr 3) 12 (eMr_15 3), ai_ cy (rr 4) 12 (eMr_15 4), ai_ cy (rr 5) 12 (eMr_15 5), ai_ cy (rr 6) 12 (eMr_15 6), ai_ cy (rr 7) 12 (eMr_15 7), ai_ cy (rr 8) 12 (eMr_15 8), ai_ cy (rr 9) 12 (eMr_15 9), ai_ cy (rr 10) 12 (eMr_15 10), ai_ cy (rr 11) 12 (eMr_15 11), aq_ cy 6 wpo 12 (gf_ rp), ai_ cy (rp 0) 12 (eMp_2 0), ai_ cy (rp 1) 12 (eMp_2 1), ai_ cy (rp 2) 12 (eMp_2 2), ai_ cy (rp 3) 12 (eMp_2 3), ai_ cy (rp 4) 12 (eMp_2 4), ai_ cy (rp 5) 12 (eMp_2 5), ai_ cy (rp 6) 12 (eMp_2 6), ai_ cy (rp 7) 12 (eMp_2 7), ai_ cy (rp 8) 12 (eMp_2 8), ai_ cy (rp 9) 12 (eMp_2 9), ai_ cy (rp 10) 12 (eMp_2 10), ai_ cy (rp 11) 12 (eMp_2 11), ai_ cy wc 12 ec_7, ai_ cy wf 12 ef_8, aq_ cy 3 xk 5 (kf_ k0 k1 k2 k3 k4), ob6_0_ k0, ob5_0_ k1, ob9_0_ k2, ob2_0_ k3, ob8_0_ k4] [24, 25, 26, 0, 1, 2, 3, 27, 28, 29, 30, 31, 32, 33, 34, 35, 36, 37, 38, 39, 4, 5, 6, 7, 8, 9, 10, 11, 12, 13, 14, 15, 16, 17, 40, 18, 19, 20, 21, 22, 23] (by decide +kernel) rfl (fun hP hD => ?_)
          refine lv_iload hx hb dB_36_2_16.1.1.2.2 (lv_at hl 2 rfl) ?_
          refine lv_iload hx hb dB_36_2_16.1.2.1.1 (lv_at hl 0 rfl) ?_
          refine lv_aload_n hx hb dB_36_2_16.1.2.1.2 rfl (lv_at hl 4 rfl) ?_
          refine va_get (ci := 10) (v := .ref wc) (C := RX10) (T := TX10) (N := 5) hx hb hts (fun _ h => List.mem_cons_of_mem _ (List.mem_append_left _ (List.mem_append_left _ (List.mem_append_right _ h)))) hown hK.1 hP 0 rfl rfl 3 (by decide) (hts (.fieldLink RX10 16 "CutAtlas$Widening" "costs" "[I") (List.mem_of_getElem? (i := 1) rfl)) (fun _ h9 => h9) rfl dB_36_2_16.1.2.2.1 ?_
          refine lv_iload_n hx hb dB_36_2_16.1.2.2.2 rfl (lv_at hl 6 rfl) ?_
          refine va_iald hx hb hK.1 hP 33 0 rfl rfl (i := a2) h_10 dB_36_2_16.2.1.1.1 ?_
          refine lv_topi (fun y_17 ey_17 => ?_)
          have e_ := (ey_17.trans ey_11.symm).symm
          subst e_
          skip
          refine lv_imul hx hb dB_36_2_16.2.1.1.2 ?_
          refine lv_topi (fun y_18 ey_18 => ?_)
          refine lv_iadd hx hb dB_36_2_16.2.1.2.1 ?_
          refine lv_topi (fun y_19 ey_19 => ?_)
          refine lv_istore (lv' := [(5, .int y_19), (7, .int r_13), (6, .int x6_3), (4, .int x4_3), (0, .ref xw), (1, .int a1), (2, .int a2), (3, .int a3)]) hx hb dB_36_2_16.2.1.2.2 hl (by decide) rfl (fun ls hl => ?_)
          refine lv_iload hx hb dB_36_2_16.2.2.1.1 (lv_at hl 3 rfl) ?_
          refine lv_iload hx hb dB_36_2_16.2.2.1.2 (lv_at hl 1 rfl) ?_
          refine lv_isub hx hb dB_36_2_16.2.2.2.1 ?_
          refine lv_topi (fun y_20 ey_20 => ?_)
          refine lv_istore (lv' := [(4, .int y_20), (5, .int y_19), (7, .int r_13), (6, .int x6_3), (0, .ref xw), (1, .int a1), (2, .int a2), (3, .int a3)]) hx hb dB_36_2_16.2.2.2.2 hl (by decide) rfl (fun ls hl => ?_)
          obtain ⟨y_21, ey_21⟩ : ∃ y : Int32, y = x6_3 + 1 := ⟨_, rfl⟩
          have ty_21 : y_21.toInt = x6_3.toInt + (1 : Int32).toInt := by rw [ey_21]; exact addI (by omega) (by omega)
          refine lv_iinc (v := y_21) (lv' := [(6, .int y_21), (4, .int y_20), (5, .int y_19), (7, .int r_13), (0, .ref xw), (1, .int a1), (2, .int a2), (3, .int a3)]) hx hb dB_36_2_17.1.1 hl (k := 3) rfl (by rw [ey_21]; rfl) (by decide) rfl (fun ls hl => ?_)
          refine lv_goto (tgt := 13) hx hb dB_36_2_17.1.2 (by decide) ?_
          exact ih_3 y_21 y_19 y_20 eMr_15 ec_7 ef_8 _ _ _ (by omega) (by first | with_reducible assumption | omega | assumption) (by first | with_reducible assumption | omega | assumption) (by first | with_reducible assumption | assumption | exact rng_zero (by omega) (by omega) | exact orng_zero) ⟨hP, hD⟩ hS (lv_sub hl [0, 2, 1, 4, 5, 6, 7] rfl)
        · have t_12 : y_11.toInt = (1000000000 : Int32).toInt := congrArg Int32.toInt c_12
          refine lv_bipush (v := (-9)) hx hb dB_36_2_15.1.2.2.1 (by decide) ?_
          rw [hQ]
          exact W.iret (v := (-9)) hx hb hr (fun t ht hW => ⟨⟨(-9), (), rfl, trivial, m_rr_3, eMp_2, ec_7, ef_8, (by first | with_reducible assumption | assumption | exact rng_zero (by omega) (by omega) | omega), by rw [ht]; exact hP, hD⟩, hS.F ht⟩) hS.2.2 dB_36_2_15.1.2.2.2
end

section
/-- n steps of p from v to 0 -/
noncomputable def rch (p : Nat → Nat) : Nat → Nat → Prop
  | 0, v => v = 0
  | n + 1, v => v ≠ 0 ∧ rch p n (p v)
noncomputable def pf_ (f : Nat → Int32) (v : Nat) : Nat := (f v).toNatClampNeg
theorem rch_un {p : Nat → Nat} : ∀ (n m v : Nat), rch p n v → rch p m v → n = m
  | 0, 0, _, _, _ => rfl
  | 0, _ + 1, _, h, h2 => absurd h h2.1
  | _ + 1, 0, _, h, h2 => absurd h2 h.1
  | n + 1, m + 1, v, h, h2 => by rw [rch_un n m (p v) h.2 h2.2]
theorem rch_cg {p q : Nat → Nat} {i : Nat} (he : ∀ v : Nat, v < i → v ≠ 0 → q v = p v) (hc : ∀ v : Nat, v < i → v ≠ 0 → p v < i) : ∀ (n v : Nat), v < i → rch p n v → rch q n v
  | 0, _, _, h => h
  | n + 1, v, hv, h => ⟨h.1, by rw [he v hv h.1]; exact rch_cg he hc n _ (hc v hv h.1) h.2⟩
theorem rch_lo {p q : Nat → Nat} {i t M : Nat} (he : ∀ v : Nat, v < i → v ≠ 0 → v ≠ t → q v = p v) (hc : ∀ v : Nat, v < i → v ≠ 0 → p v < i) (ht : rch p M t) : ∀ (n v : Nat), v < i → n < M → rch p n v → rch q n v
  | 0, _, _, _, h => h
  | n + 1, v, hv, hn, h => by
    have hne : v ≠ t := fun e => by
      subst e
      have := rch_un _ _ _ h ht
      omega
    exact ⟨h.1, by rw [he v hv h.1 hne]; exact rch_lo he hc ht n _ (hc v hv h.1) (by omega) h.2⟩
theorem rch_sw {p q : Nat → Nat} {i t M : Nat} (he : ∀ v : Nat, v < i → v ≠ 0 → v ≠ t → q v = p v) (hc : ∀ v : Nat, v < i → v ≠ 0 → p v < i) (ht : rch p M t) (hti : t < i) (h0 : t ≠ 0) (et : q t = i) (ei : q i = p t) : ∀ (n v : Nat), v < i → rch p n v → rch q n v ∨ rch q (n + 1) v
  | 0, _, _, h => Or.inl h
  | n + 1, v, hv, h => by
    by_cases hne : v = t
    · subst hne
      have e := rch_un _ _ _ h ht
      subst e
      refine Or.inr ⟨h0, ?_⟩
      rw [et]
      refine ⟨by omega, ?_⟩
      rw [ei]
      exact rch_lo he hc ht n _ (hc _ hv h0) (by omega) h.2
    · have a := rch_sw he hc ht hti h0 et ei n _ (hc v hv h.1) h.2
      rcases a with a | a
      · exact Or.inl ⟨h.1, by rw [he v hv h.1 hne]; exact a⟩
      · exact Or.inr ⟨h.1, by rw [he v hv h.1 hne]; exact a⟩
/-- the tree of the places below i; the others hang at these -/
noncomputable def trs (f : Nat → Int32) (i : Nat) : Prop := (∀ j : Nat, 1 ≤ j → j < 12 → 0 ≤ (f j).toInt ∧ (f j).toInt < i) ∧ (∀ j : Nat, j < i → ∃ n : Nat, n + 1 ≤ i ∧ rch (pf_ f) n j)
theorem trs_one {e f : Nat → Int32} {x : Int32} (h : ∀ j : Nat, j < 12 → e j = 0) (ef : f = upd e (0 : Int32).toNatClampNeg x) : trs f 1 := by
  refine ⟨fun j h1 h2 => ?_, fun j hj => ⟨0, by omega, ?_⟩⟩
  · rw [ef, pk_un (by rw [cl_0]; omega), h j h2]
    decide
  · show j = 0
    omega
noncomputable def hng (f0 f : Nat → Int32) (i : Int32) : Prop := ∀ j : Nat, f j = f0 j ∨ (i.toInt < (j : Int) ∧ f j = i)
theorem hng_rf {f : Nat → Int32} {i : Int32} : hng f f i := fun _ => Or.inl rfl
theorem hng_st {f0 f g : Nat → Int32} {i k : Int32} (h : hng f0 f i) (e : g = upd f k.toNatClampNeg i) (h0 : 0 ≤ k.toInt) (hk : i.toInt < k.toInt) : hng f0 g i := fun j => by
  have c := clI (i := k) h0
  rw [e]
  by_cases ej : j = k.toNatClampNeg
  · rw [ej, pk_us]
    exact Or.inr ⟨by omega, rfl⟩
  · rw [pk_un ej]
    exact h j
theorem pf_lt {f : Nat → Int32} {v i : Nat} (h : 0 ≤ (f v).toInt ∧ (f v).toInt < i) : pf_ f v < i := by
  have c := clI (i := f v) h.1
  show (f v).toNatClampNeg < i
  omega
theorem hng_lo {f0 f : Nat → Int32} {i : Int32} (h : hng f0 f i) (hi : 0 ≤ i.toInt) {v : Nat} (hv : v ≤ i.toNatClampNeg) : f v = f0 v := by
  have c := clI (i := i) hi
  rcases h v with a | a
  · exact a
  · omega
theorem hng_rg {f0 f : Nat → Int32} {i : Int32} (h : hng f0 f i) (hi : 0 ≤ i.toInt) (hs : trs f0 i.toNatClampNeg) : ∀ j : Nat, 1 ≤ j → j < 12 → 0 ≤ (f j).toInt ∧ (f j).toInt < ((i.toNatClampNeg + 1 : Nat) : Int) := fun j h1 h2 => by
  have c := clI (i := i) hi
  have a := hs.1 j h1 h2
  rcases h j with e | e
  · rw [e]
    omega
  · rw [e.2]
    omega
theorem trs_no {f0 f : Nat → Int32} {i : Int32} (hs : trs f0 i.toNatClampNeg) (h : hng f0 f i) (h1 : 1 ≤ i.toInt) (h2 : i.toInt ≤ 11) : trs f (i.toNatClampNeg + 1) := by
  have c := clI (i := i) (by omega)
  refine ⟨hng_rg h (by omega) hs, fun j hj => ?_⟩
  have he : ∀ v : Nat, v < i.toNatClampNeg → v ≠ 0 → pf_ f v = pf_ f0 v := fun v hv _ => by
    unfold pf_
    rw [hng_lo h (by omega) (by omega)]
  have hc : ∀ v : Nat, v < i.toNatClampNeg → v ≠ 0 → pf_ f0 v < i.toNatClampNeg := fun v hv h0 => pf_lt (hs.1 v (by omega) (by omega))
  by_cases ej : j = i.toNatClampNeg
  · subst ej
    have a := hs.1 i.toNatClampNeg (by omega) (by omega)
    have b := pf_lt a
    obtain ⟨n, hn, hr⟩ := hs.2 _ b
    refine ⟨n + 1, by omega, by omega, ?_⟩
    have e : pf_ f i.toNatClampNeg = pf_ f0 i.toNatClampNeg := by
      unfold pf_
      rw [hng_lo h (by omega) (Nat.le_refl _)]
    rw [e]
    exact rch_cg he hc n _ b hr
  · obtain ⟨n, hn, hr⟩ := hs.2 j (by omega)
    exact ⟨n, by omega, rch_cg he hc n _ (by omega) hr⟩
theorem trs_swap {f0 f g1 g : Nat → Int32} {i t v : Int32} (hs : trs f0 i.toNatClampNeg) (h : hng f0 f i) (h1 : 1 ≤ i.toInt) (h2 : i.toInt ≤ 11) (et : t.toInt = (f0 i.toNatClampNeg).toInt) (ht : t.toInt ≠ 0) (ev : v = f t.toNatClampNeg) (e1 : g1 = upd f i.toNatClampNeg v) (e2 : g = upd g1 t.toNatClampNeg i) : trs g (i.toNatClampNeg + 1) := by
  have c := clI (i := i) (by omega)
  have a := hs.1 i.toNatClampNeg (by omega) (by omega)
  have ct := clI (i := t) (by omega)
  have hti : t.toNatClampNeg < i.toNatClampNeg := by omega
  have gt_ : g t.toNatClampNeg = i := by rw [e2]; exact pk_us
  have gi_ : g i.toNatClampNeg = f0 t.toNatClampNeg := by
    rw [e2, pk_un (by omega), e1, pk_us, ev]
    exact hng_lo h (by omega) (by omega)
  have go_ : ∀ w : Nat, w ≠ t.toNatClampNeg → w ≠ i.toNatClampNeg → g w = f w := fun w q1 q2 => by
    rw [e2, pk_un q1, e1, pk_un q2]
  have he : ∀ w : Nat, w < i.toNatClampNeg → w ≠ 0 → w ≠ t.toNatClampNeg → pf_ g w = pf_ f0 w := fun w hw _ hwt => by
    unfold pf_
    rw [go_ w hwt (by omega), hng_lo h (by omega) (by omega)]
  have hc : ∀ w : Nat, w < i.toNatClampNeg → w ≠ 0 → pf_ f0 w < i.toNatClampNeg := fun w hw h0 => pf_lt (hs.1 w (by omega) (by omega))
  obtain ⟨M, hM, hr⟩ := hs.2 t.toNatClampNeg hti
  have et2 : pf_ g t.toNatClampNeg = i.toNatClampNeg := by unfold pf_; rw [gt_]
  have ei2 : pf_ g i.toNatClampNeg = pf_ f0 t.toNatClampNeg := by unfold pf_; rw [gi_]
  have ht0 : t.toNatClampNeg ≠ 0 := by omega
  refine ⟨fun j q1 q2 => ?_, fun j hj => ?_⟩
  · by_cases j1 : j = t.toNatClampNeg
    · rw [j1, gt_]
      omega
    · by_cases j2 : j = i.toNatClampNeg
      · rw [j2, gi_]
        have := hs.1 t.toNatClampNeg (by omega) (by omega)
        omega
      · rw [go_ j j1 j2]
        exact hng_rg h (by omega) hs j q1 q2
  · by_cases j2 : j = i.toNatClampNeg
    · cases M with
      | zero => exact absurd hr ht0
      | succ M =>
        refine ⟨M + 1, by omega, by omega, ?_⟩
        rw [j2, ei2]
        exact rch_lo (t := t.toNatClampNeg) he hc hr M _ (hc _ hti ht0) (by omega) hr.2
    · obtain ⟨n, hn, hq⟩ := hs.2 j (by omega)
      rcases rch_sw he hc hr hti ht0 et2 ei2 n j (by omega) hq with z | z
      · exact ⟨n, by omega, z⟩
      · exact ⟨n + 1, by omega, z⟩
theorem trs_nx {f : Nat → Int32} {i i2 : Int32} (h : trs f (i.toNatClampNeg + 1)) (h0 : 0 ≤ i.toInt) (e : i2.toInt = i.toInt + 1) : trs f i2.toNatClampNeg := by
  have c := clI (i := i) h0
  have c2 := clI (i := i2) (by omega)
  rw [show i2.toNatClampNeg = i.toNatClampNeg + 1 by omega]
  exact h
noncomputable def dpt (p : Nat → Nat) : Nat → Nat → Nat
  | 0, _ => 0
  | k + 1, v => if v = 0 then 0 else dpt p k (p v) + 1
theorem dpt_eq {p : Nat → Nat} : ∀ (k n v : Nat), n ≤ k → rch p n v → dpt p k v = n
  | 0, n, v, hn, _ => by
    obtain rfl : n = 0 := by omega
    rfl
  | k + 1, 0, v, _, h => by
    show (if v = 0 then 0 else dpt p k (p v) + 1) = 0
    rw [if_pos (show v = 0 from h)]
  | k + 1, n + 1, v, hn, h => by
    show (if v = 0 then 0 else dpt p k (p v) + 1) = n + 1
    rw [if_neg h.1, dpt_eq k n (p v) (by omega) h.2]
theorem trs_trd {f : Nat → Int32} {i : Nat} (h : trs f i) (hi : i ≤ 12) : ∃ d : Nat → Nat, trd f d := by
  refine ⟨dpt (pf_ f) 13, rfl, fun j h1 h2 => ?_⟩
  have a := h.1 j h1 h2
  have b := pf_lt a
  obtain ⟨n, hn, hr⟩ := h.2 _ b
  have hj : ∃ m : Nat, m ≤ 11 ∧ rch (pf_ f) m j := by
    by_cases q : j < i
    · obtain ⟨m, hm, hq⟩ := h.2 j q
      exact ⟨m, by omega, hq⟩
    · exact ⟨n + 1, by omega, by omega, hr⟩
  obtain ⟨m, hm, hq⟩ := hj
  have e1 := dpt_eq 13 m j (by omega) hq
  have e2 : dpt (pf_ f) 13 (f j).toNatClampNeg = n := dpt_eq 13 n _ (by omega) hr
  have e3 : m = n + 1 := rch_un _ _ _ hq (show rch (pf_ f) (n + 1) j from ⟨by omega, hr⟩)
  refine ⟨a.1, by omega, ?_, ?_⟩
  · rw [e1, e2, e3]
  · rw [e1]
    exact hm

set_option maxHeartbeats 4000000 in
set_option maxRecDepth 100000 in
theorem c_X1_hang (l : Launch) (D : va_G) (cy : Nat → ClassId) (sz : Nat) (xt : Nat) (ta : Nat) (tb : Nat) (xc : Nat) (xk : Nat) (clo : Nat) (cro : Nat) (c4 : Nat) (c5 : Nat) (c6 : Nat) (c7 : Nat) (c8 : Nat) (xn : Nat) (n1 : Nat) (n2 : Nat) (n3 : Nat) (n4 : Nat) (n5 : Nat) (vp : Int32) (vn : Int32) (fx : Nat → Int32) (fu : Nat → Int32) (fs : Nat → Int32) (fe : Nat → Int32) (rl : Nat → Nat) (Ml : Nat → Nat → Int32) (rr : Nat → Nat) (Mr : Nat → Nat → Int32) (f4 : Nat → Int32) (f5 : Nat → Int32) (f6 : Nat → Int32) (f7 : Nat → Int32) (f8 : Nat → Int32) (a1 : Int32) (hvp : 0 ≤ vp.toInt ∧ vp.toInt ≤ 12) (hvn : 0 ≤ vn.toInt ∧ vn.toInt ≤ 40) (q1 : 1 ≤ a1.toInt ∧ a1.toInt < vp.toInt) (htr : trs fx a1.toNatClampNeg) (r_f7 : rng f7 12 (0) (11)) (r_f8 : rng f8 12 (0) (11)) : Met l yX1_hang wsX1_hang ({ frames := 4, cells := 0, slots := 0, locals := 88 }) (va_Pc [.ref xt, .int a1] (fun U => U.heap.size = sz ∧ va_P D vwCl [ob1_0_ xt xc ta tb, ob0_0_ xc xn xk clo cro c4 c5 c6 c7 c8, ob3_0_ xn vp vn n1 n2 n3 n4 n5, ai_ cy ta 12 fx, ai_ cy tb 12 fu, ai_ cy n2 40 fs, ai_ cy n3 40 fe, aq_ cy 6 clo 12 (gf_ rl), ai_ cy (rl 0) 12 (Ml 0), ai_ cy (rl 1) 12 (Ml 1), ai_ cy (rl 2) 12 (Ml 2), ai_ cy (rl 3) 12 (Ml 3), ai_ cy (rl 4) 12 (Ml 4), ai_ cy (rl 5) 12 (Ml 5), ai_ cy (rl 6) 12 (Ml 6), ai_ cy (rl 7) 12 (Ml 7), ai_ cy (rl 8) 12 (Ml 8), ai_ cy (rl 9) 12 (Ml 9), ai_ cy (rl 10) 12 (Ml 10), ai_ cy (rl 11) 12 (Ml 11), aq_ cy 6 cro 12 (gf_ rr), ai_ cy (rr 0) 12 (Mr 0), ai_ cy (rr 1) 12 (Mr 1), ai_ cy (rr 2) 12 (Mr 2), ai_ cy (rr 3) 12 (Mr 3), ai_ cy (rr 4) 12 (Mr 4), ai_ cy (rr 5) 12 (Mr 5), ai_ cy (rr 6) 12 (Mr 6), ai_ cy (rr 7) 12 (Mr 7), ai_ cy (rr 8) 12 (Mr 8), ai_ cy (rr 9) 12 (Mr 9), ai_ cy (rr 10) 12 (Mr 10), ai_ cy (rr 11) 12 (Mr 11), ai_ cy c4 40 f4, ai_ cy c5 40 f5, ai_ cy c6 40 f6, ai_ cy c7 12 f7, ai_ cy c8 12 f8] U.heap ∧ kg_ D cy U ∧ va_D (fun _ => True) [ob1_0_ xt xc ta tb, ob0_0_ xc xn xk clo cro c4 c5 c6 c7 c8, ob3_0_ xn vp vn n1 n2 n3 n4 n5, ai_ cy ta 12 fx, ai_ cy tb 12 fu, ai_ cy n2 40 fs, ai_ cy n3 40 fe, aq_ cy 6 clo 12 (gf_ rl), ai_ cy (rl 0) 12 (Ml 0), ai_ cy (rl 1) 12 (Ml 1), ai_ cy (rl 2) 12 (Ml 2), ai_ cy (rl 3) 12 (Ml 3), ai_ cy (rl 4) 12 (Ml 4), ai_ cy (rl 5) 12 (Ml 5), ai_ cy (rl 6) 12 (Ml 6), ai_ cy (rl 7) 12 (Ml 7), ai_ cy (rl 8) 12 (Ml 8), ai_ cy (rl 9) 12 (Ml 9), ai_ cy (rl 10) 12 (Ml 10), ai_ cy (rl 11) 12 (Ml 11), aq_ cy 6 cro 12 (gf_ rr), ai_ cy (rr 0) 12 (Mr 0), ai_ cy (rr 1) 12 (Mr 1), ai_ cy (rr 2) 12 (Mr 2), ai_ cy (rr 3) 12 (Mr 3), ai_ cy (rr 4) 12 (Mr 4), ai_ cy (rr 5) 12 (Mr 5), ai_ cy (rr 6) 12 (Mr 6), ai_ cy (rr 7) 12 (Mr 7), ai_ cy (rr 8) 12 (Mr 8), ai_ cy (rr 9) 12 (Mr 9), ai_ cy (rr 10) 12 (Mr 10), ai_ cy (rr 11) 12 (Mr 11), ai_ cy c4 40 f4, ai_ cy c5 40 f5, ai_ cy c6 40 f6, ai_ cy c7 12 f7, ai_ cy c8 12 f8])) (va_Qv (fun (_ : Unit) => True) (fun (_ : Unit) (t : State) => ∃ (eMr : Nat → Nat → Int32), ∃ (efx : Nat → Int32), ∃ (efu : Nat → Int32), ∃ (e4 : Nat → Int32), ∃ (e7 : Nat → Int32), ∃ (e8 : Nat → Int32), (trs efx (a1.toNatClampNeg + 1)) ∧ (rng e7 12 (0) (11)) ∧ (rng e8 12 (0) (11)) ∧ va_P D vwCl [ob1_0_ xt xc ta tb, ob0_0_ xc xn xk clo cro c4 c5 c6 c7 c8, ob3_0_ xn vp vn n1 n2 n3 n4 n5, ai_ cy ta 12 efx, ai_ cy tb 12 efu, ai_ cy n2 40 fs, ai_ cy n3 40 fe, aq_ cy 6 clo 12 (gf_ rl), ai_ cy (rl 0) 12 (Ml 0), ai_ cy (rl 1) 12 (Ml 1), ai_ cy (rl 2) 12 (Ml 2), ai_ cy (rl 3) 12 (Ml 3), ai_ cy (rl 4) 12 (Ml 4), ai_ cy (rl 5) 12 (Ml 5), ai_ cy (rl 6) 12 (Ml 6), ai_ cy (rl 7) 12 (Ml 7), ai_ cy (rl 8) 12 (Ml 8), ai_ cy (rl 9) 12 (Ml 9), ai_ cy (rl 10) 12 (Ml 10), ai_ cy (rl 11) 12 (Ml 11), aq_ cy 6 cro 12 (gf_ rr), ai_ cy (rr 0) 12 (eMr 0), ai_ cy (rr 1) 12 (eMr 1), ai_ cy (rr 2) 12 (eMr 2), ai_ cy (rr 3) 12 (eMr 3), ai_ cy (rr 4) 12 (eMr 4), ai_ cy (rr 5) 12 (eMr 5), ai_ cy (rr 6) 12 (eMr 6), ai_ cy (rr 7) 12 (eMr 7), ai_ cy (rr 8) 12 (eMr 8), ai_ cy (rr 9) 12 (eMr 9), ai_ cy (rr 10) 12 (eMr 10), ai_ cy (rr 11) 12 (eMr 11), ai_ cy c4 40 e4, ai_ cy c5 40 f5, ai_ cy c6 40 f6, ai_ cy c7 12 e7, ai_ cy c8 12 e8] t.heap ∧ va_D (va_A [ob1_0_ xt xc ta tb, ob0_0_ xc xn xk clo cro c4 c5 c6 c7 c8, ob3_0_ xn vp vn n1 n2 n3 n4 n5, ai_ cy ta 12 fx, ai_ cy tb 12 fu, ai_ cy n2 40 fs, ai_ cy n3 40 fe, aq_ cy 6 clo 12 (gf_ rl), ai_ cy (rl 0) 12 (Ml 0), ai_ cy (rl 1) 12 (Ml 1), ai_ cy (rl 2) 12 (Ml 2), ai_ cy (rl 3) 12 (Ml 3), ai_ cy (rl 4) 12 (Ml 4), ai_ cy (rl 5) 12 (Ml 5), ai_ cy (rl 6) 12 (Ml 6), ai_ cy (rl 7) 12 (Ml 7), ai_ cy (rl 8) 12 (Ml 8), ai_ cy (rl 9) 12 (Ml 9), ai_ cy (rl 10) 12 (Ml 10), ai_ cy (rl 11) 12 (Ml 11), aq_ cy 6 cro 12 (gf_ rr), ai_ cy (rr 0) 12 (Mr 0), ai_ cy (rr 1) 12 (Mr 1), ai_ cy (rr 2) 12 (Mr 2), ai_ cy (rr 3) 12 (Mr 3), ai_ cy (rr 4) 12 (Mr 4), ai_ cy (rr 5) 12 (Mr 5), ai_ cy (rr 6) 12 (Mr 6), ai_ cy (rr 7) 12 (Mr 7), ai_ cy (rr 8) 12 (Mr 8), ai_ cy (rr 9) 12 (Mr 9), ai_ cy (rr 10) 12 (Mr 10), ai_ cy (rr 11) 12 (Mr 11), ai_ cy c4 40 f4, ai_ cy c5 40 f5, ai_ cy c6 40 f6, ai_ cy c7 12 f7, ai_ cy c8 12 f8] sz) [ob1_0_ xt xc ta tb, ob0_0_ xc xn xk clo cro c4 c5 c6 c7 c8, ob3_0_ xn vp vn n1 n2 n3 n4 n5, ai_ cy ta 12 efx, ai_ cy tb 12 efu, ai_ cy n2 40 fs, ai_ cy n3 40 fe, aq_ cy 6 clo 12 (gf_ rl), ai_ cy (rl 0) 12 (Ml 0), ai_ cy (rl 1) 12 (Ml 1), ai_ cy (rl 2) 12 (Ml 2), ai_ cy (rl 3) 12 (Ml 3), ai_ cy (rl 4) 12 (Ml 4), ai_ cy (rl 5) 12 (Ml 5), ai_ cy (rl 6) 12 (Ml 6), ai_ cy (rl 7) 12 (Ml 7), ai_ cy (rl 8) 12 (Ml 8), ai_ cy (rl 9) 12 (Ml 9), ai_ cy (rl 10) 12 (Ml 10), ai_ cy (rl 11) 12 (Ml 11), aq_ cy 6 cro 12 (gf_ rr), ai_ cy (rr 0) 12 (eMr 0), ai_ cy (rr 1) 12 (eMr 1), ai_ cy (rr 2) 12 (eMr 2), ai_ cy (rr 3) 12 (eMr 3), ai_ cy (rr 4) 12 (eMr 4), ai_ cy (rr 5) 12 (eMr 5), ai_ cy (rr 6) 12 (eMr 6), ai_ cy (rr 7) 12 (eMr 7), ai_ cy (rr 8) 12 (eMr 8), ai_ cy (rr 9) 12 (eMr 9), ai_ cy (rr 10) 12 (eMr 10), ai_ cy (rr 11) 12 (eMr 11), ai_ cy c4 40 e4, ai_ cy c5 40 f5, ai_ cy c6 40 f6, ai_ cy c7 12 e7, ai_ cy c8 12 e8]) (va_A [ob1_0_ xt xc ta tb, ob0_0_ xc xn xk clo cro c4 c5 c6 c7 c8, ob3_0_ xn vp vn n1 n2 n3 n4 n5, ai_ cy ta 12 fx, ai_ cy tb 12 fu, ai_ cy n2 40 fs, ai_ cy n3 40 fe, aq_ cy 6 clo 12 (gf_ rl), ai_ cy (rl 0) 12 (Ml 0), ai_ cy (rl 1) 12 (Ml 1), ai_ cy (rl 2) 12 (Ml 2), ai_ cy (rl 3) 12 (Ml 3), ai_ cy (rl 4) 12 (Ml 4), ai_ cy (rl 5) 12 (Ml 5), ai_ cy (rl 6) 12 (Ml 6), ai_ cy (rl 7) 12 (Ml 7), ai_ cy (rl 8) 12 (Ml 8), ai_ cy (rl 9) 12 (Ml 9), ai_ cy (rl 10) 12 (Ml 10), ai_ cy (rl 11) 12 (Ml 11), aq_ cy 6 cro 12 (gf_ rr), ai_ cy (rr 0) 12 (Mr 0), ai_ cy (rr 1) 12 (Mr 1), ai_ cy (rr 2) 12 (Mr 2), ai_ cy (rr 3) 12 (Mr 3), ai_ cy (rr 4) 12 (Mr 4), ai_ cy (rr 5) 12 (Mr 5), ai_ cy (rr 6) 12 (Mr 6), ai_ cy (rr 7) 12 (Mr 7), ai_ cy (rr 8) 12 (Mr 8), ai_ cy (rr 9) 12 (Mr 9), ai_ cy (rr 10) 12 (Mr 10), ai_ cy (rr 11) 12 (Mr 11), ai_ cy c4 40 f4, ai_ cy c5 40 f5, ai_ cy c6 40 f6, ai_ cy c7 12 f7, ai_ cy c8 12 f8] sz)) 0 0 (va_A [ob1_0_ xt xc ta tb, ob0_0_ xc xn xk clo cro c4 c5 c6 c7 c8, ob3_0_ xn vp vn n1 n2 n3 n4 n5, ai_ cy ta 12 fx, ai_ cy tb 12 fu, ai_ cy n2 40 fs, ai_ cy n3 40 fe, aq_ cy 6 clo 12 (gf_ rl), ai_ cy (rl 0) 12 (Ml 0), ai_ cy (rl 1) 12 (Ml 1), ai_ cy (rl 2) 12 (Ml 2), ai_ cy (rl 3) 12 (Ml 3), ai_ cy (rl 4) 12 (Ml 4), ai_ cy (rl 5) 12 (Ml 5), ai_ cy (rl 6) 12 (Ml 6), ai_ cy (rl 7) 12 (Ml 7), ai_ cy (rl 8) 12 (Ml 8), ai_ cy (rl 9) 12 (Ml 9), ai_ cy (rl 10) 12 (Ml 10), ai_ cy (rl 11) 12 (Ml 11), aq_ cy 6 cro 12 (gf_ rr), ai_ cy (rr 0) 12 (Mr 0), ai_ cy (rr 1) 12 (Mr 1), ai_ cy (rr 2) 12 (Mr 2), ai_ cy (rr 3) 12 (Mr 3), ai_ cy (rr 4) 12 (Mr 4), ai_ cy (rr 5) 12 (Mr 5), ai_ cy (rr 6) 12 (Mr 6), ai_ cy (rr 7) 12 (Mr 7), ai_ cy (rr 8) 12 (Mr 8), ai_ cy (rr 9) 12 (Mr 9), ai_ cy (rr 10) 12 (Mr 10), ai_ cy (rr 11) 12 (Mr 11), ai_ cy c4 40 f4, ai_ cy c5 40 f5, ai_ cy c6 40 f6, ai_ cy c7 12 f7, ai_ cy c8 12 f8] sz) := by
  refine ofQ (cc := cX1_hang) (maxL := 6) (ret := none) (by decide) rfl ?_
  intro p e s m args below meth c s₁ Q hQ B hml hv
  obtain ⟨rfl, hsz, hP, hK, hD0⟩ := hv
  have hG := hK.2
  have hK := hK.1
  have hx := B.exec
  have hb := B.bytes
  have hr := B.returns
  have hts := atoms_spec (ws := wsX1_hang) B.pre
  have hown : s.vm.findClass RX1 = some m.cls := by have h_ := findClass_of_methodNamed B.named; exact h_
  have hlocks := B.notSynchronized
  subst hsz
  have hD := hD0.self (sz := s.heap.size)
  generalize hAe : va_A [ob1_0_ xt xc ta tb, ob0_0_ xc xn xk clo cro c4 c5 c6 c7 c8, ob3_0_ xn vp vn n1 n2 n3 n4 n5, ai_ cy ta 12 fx, ai_ cy tb 12 fu, ai_ cy n2 40 fs, ai_ cy n3 40 fe, aq_ cy 6 clo 12 (gf_ rl), ai_ cy (rl 0) 12 (Ml 0), ai_ cy (rl 1) 12 (Ml 1), ai_ cy (rl 2) 12 (Ml 2), ai_ cy (rl 3) 12 (Ml 3), ai_ cy (rl 4) 12 (Ml 4), ai_ cy (rl 5) 12 (Ml 5), ai_ cy (rl 6) 12 (Ml 6), ai_ cy (rl 7) 12 (Ml 7), ai_ cy (rl 8) 12 (Ml 8), ai_ cy (rl 9) 12 (Ml 9), ai_ cy (rl 10) 12 (Ml 10), ai_ cy (rl 11) 12 (Ml 11), aq_ cy 6 cro 12 (gf_ rr), ai_ cy (rr 0) 12 (Mr 0), ai_ cy (rr 1) 12 (Mr 1), ai_ cy (rr 2) 12 (Mr 2), ai_ cy (rr 3) 12 (Mr 3), ai_ cy (rr 4) 12 (Mr 4), ai_ cy (rr 5) 12 (Mr 5), ai_ cy (rr 6) 12 (Mr 6), ai_ cy (rr 7) 12 (Mr 7), ai_ cy (rr 8) 12 (Mr 8), ai_ cy (rr 9) 12 (Mr 9), ai_ cy (rr 10) 12 (Mr 10), ai_ cy (rr 11) 12 (Mr 11), ai_ cy c4 40 f4, ai_ cy c5 40 f5, ai_ cy c6 40 f6, ai_ cy c7 12 f7, ai_ cy c8 12 f8] s.heap.size = A at hD hQ
  have hA : ∀ q : Nat, s.heap.size ≤ q → A q := fun q h => by rw [← hAe]; exact Or.inr h
  have hS : va_S A s.heap s.heap [] := va_S.rf
  have hl := lv_entry ([.ref xt, .int a1]) (n := 6) (Nat.le_of_ble_eq_true rfl)
  rw [lg_entry_eq]
  generalize (lg_sl ([.ref xt, .int a1]) ++ List.replicate (6 - (lg_sl ([.ref xt, .int a1])).length) Slot.unset).toArray = ls at hl ⊢
  have hl : lv_has ls 6 [(0, .ref xt), (1, .int a1)] := hl
  have z0 : (0 : Int32).toInt = 0 := by decide
  have z1 : (1 : Int32).toInt = 1 := by decide
  have ca := clI (i := a1) (by omega)
  have ht_ := htr.1 a1.toNatClampNeg (by omega) (by omega)
  refine lv_aload_n hx hb dB_36_0_48.1.1.1.1 rfl (lv_at hl 0 rfl) ?_
  refine va_get (ci := 1) (v := .ref ta) (C := RX1) (T := TX1) (N := 3) hx hb hts (fun _ h => List.mem_cons_of_mem _ (List.mem_append_left _ (List.mem_append_left _ (List.mem_append_right _ h)))) hown hK.1 hP 0 rfl rfl 1 (by decide) (hts (.fieldLink RX1 9 "CutAtlas$CutTree" "nexts" "[I") (List.mem_of_getElem? (i := 1) rfl)) (fun _ h9 => h9) rfl dB_36_0_48.1.1.1.2 ?_
  refine lv_iload_n hx hb dB_36_0_48.1.1.2.1 rfl (lv_at hl 1 rfl) ?_
  have h_1 : vp_in a1 12 := in_I (by first | with_reducible assumption | omega) (by omega)
  refine va_iald hx hb hK.1 hP 3 0 rfl rfl (i := a1) h_1 dB_36_0_48.1.1.2.2 ?_
  refine lv_topi (fun y_2 ey_2 => ?_)
  have ky_2 : y_2.toInt = (fx a1.toNatClampNeg).toInt := by rw [ey_2]
  refine lv_istore_n (lv' := [(2, .int y_2), (0, .ref xt), (1, .int a1)]) hx hb dB_36_0_48.1.2.1.1 rfl hl (by decide) rfl (fun ls hl => ?_)
  refine lv_aload_n hx hb dB_36_0_48.1.2.1.2 rfl (lv_at hl 1 rfl) ?_
  refine va_get (ci := 1) (v := .ref xc) (C := RX1) (T := TX1) (N := 3) hx hb hts (fun _ h => List.mem_cons_of_mem _ (List.mem_append_left _ (List.mem_append_left _ (List.mem_append_right _ h)))) hown hK.1 hP 0 rfl rfl 0 (by decide) (hts (.fieldLink RX1 18 "CutAtlas$CutTree" "current" "LCutAtlas$Current;") (List.mem_of_getElem? (i := 2) rfl)) (fun _ h9 => h9) rfl dB_36_0_48.1.2.2.1 ?_
  refine lv_iload_n hx hb dB_36_0_48.1.2.2.2 rfl (lv_at hl 2 rfl) ?_
  refine lv_iload_n hx hb dB_36_0_48.2.1.1.1 rfl (lv_at hl 0 rfl) ?_
  refine ct_S hP hD hS hA [ob0_0_ xc xn xk clo cro c4 c5 c6 c7 c8, ob3_0_ xn vp vn n1 n2 n3 n4 n5, ai_ cy n2 40 fs, ai_ cy n3 40 fe, aq_ cy 6 clo 12 (gf_ rl), ai_ cy (rl 0) 12 (Ml 0), ai_ cy (rl 1) 12 (Ml 1), ai_ cy (rl 2) 12 (Ml 2), ai_ cy (rl 3) 12 (Ml 3), ai_ cy (rl 4) 12 (Ml 4), ai_ cy (rl 5) 12 (Ml 5), ai_ cy (rl 6) 12 (Ml 6), ai_ cy (rl 7) 12 (Ml 7), ai_ cy (rl 8) 12 (Ml 8), ai_ cy (rl 9) 12 (Ml 9), ai_ cy (rl 10) 12 (Ml 10), ai_ cy (rl 11) 12 (Ml 11), aq_ cy 6 cro 12 (gf_ rr), ai_ cy (rr 0) 12 (Mr 0), ai_ cy (rr 1) 12 (Mr 1), ai_ cy (rr 2) 12 (Mr 2), ai_ cy (rr 3) 12 (Mr 3), ai_ cy (rr 4) 12 (Mr 4), ai_ cy (rr 5) 12 (Mr 5), ai_ cy (rr 6) 12 (Mr 6), ai_ cy (rr 7) 12 (Mr 7), ai_ cy (rr 8) 12 (Mr 8), ai_ cy (rr 9) 12 (Mr 9), ai_ cy (rr 10) 12 (Mr 10), ai_ cy (rr 11) 12 (Mr 11), ai_ cy c4 40 f4, ai_ cy c5 40 f5, ai_ cy c6 40 f6, ai_ cy c7 12 f7, ai_ cy c8 12 f8] [1, 2, 5, 6, 7, 8, 9, 10, 11, 12, 13, 14, 15, 16, 17, 18, 19, 20, 21, 22, 23, 24, 25, 26, 27, 28, 29, 30, 31, 32, 33, 34, 35, 36, 37] (by decide +kernel) rfl (fun hPc hDw hFc hC_ => ?_)
  refine va_calli (va_runV (As := [.int a1, .int y_2]) (rest := []) ⟨hx, hb, hml, hown, hts⟩ (c_X0_fill l D cy s.heap.size xc xk clo cro c4 c5 c6 c7 c8 xn n1 n2 n3 n4 n5 vp vn fs fe rl Ml rr Mr f4 f5 f6 f7 f8 a1 y_2 (by first | with_reducible assumption | omega | assumption) (by first | with_reducible assumption | omega | assumption) (by first | with_reducible assumption | omega | assumption) (by first | with_reducible assumption | omega | assumption) (by first | with_reducible assumption | assumption | omega) (by first | with_reducible assumption | assumption | omega)) (cwV 2 hts gX1_hang_X0_fill rfl rfl rfl ⟨rfl, hd_X0_fill⟩ ⟨Nat.le_of_ble_eq_true rfl, Nat.le_of_ble_eq_true rfl⟩) ⟨bl_g, va_recvX hK.1 hP (ci := 0) (q0 := 1) rfl rfl, fun U hU hW => ⟨rfl, by rw [hU], by rw [hU]; exact hPc, ⟨kk_mv hW hK, arrOfT_moved hW.alike hG⟩, hDw⟩⟩ rfl rfl hl.1 rfl (lv_room (Nat.le_of_ble_eq_true rfl)) dB_36_0_48.2.1.1.2 ⟨Nat.le_of_ble_eq_true rfl, Nat.le_of_ble_eq_true rfl⟩) hS (fun q _ h => hFc q h) hFc (fun r_3 u t H locs ht hvm hw hB hz1 hk1 hS => ?_)
  obtain ⟨eMr_4, e4_5, e7_6, e8_7, g_8, g_9, hP1, hD1⟩ := hB
  rw [ht] at hP1
  obtain ⟨hP, hD⟩ := va_join (wr := [ob1_0_ xt xc ta tb, ai_ cy ta 12 fx, ai_ cy tb 12 fu]) (w1 := [ob0_0_ xc xn xk clo cro c4 c5 c6 c7 c8, ob3_0_ xn vp vn n1 n2 n3 n4 n5, ai_ cy n2 40 fs, ai_ cy n3 40 fe, aq_ cy 6 clo 12 (gf_ rl), ai_ cy (rl 0) 12 (Ml 0), ai_ cy (rl 1) 12 (Ml 1), ai_ cy (rl 2) 12 (Ml 2), ai_ cy (rl 3) 12 (Ml 3), ai_ cy (rl 4) 12 (Ml 4), ai_ cy (rl 5) 12 (Ml 5), ai_ cy (rl 6) 12 (Ml 6), ai_ cy (rl 7) 12 (Ml 7), ai_ cy (rl 8) 12 (Ml 8), ai_ cy (rl 9) 12 (Ml 9), ai_ cy (rl 10) 12 (Ml 10), ai_ cy (rl 11) 12 (Ml 11), aq_ cy 6 cro 12 (gf_ rr), ai_ cy (rr 0) 12 (eMr_4 0), ai_ cy (rr 1) 12 (eMr_4 1), ai_ cy (rr 2) 12 (eMr_4 2), ai_ cy (rr 3) 12 (eMr_4 3), ai_ cy (rr 4) 12 (eMr_4 4), ai_ cy (rr 5) 12 (eMr_4 5), ai_ cy (rr 6) 12 (eMr_4 6), ai_ cy (rr 7) 12 (eMr_4 7), ai_ cy (rr 8) 12 (eMr_4 8), ai_ cy (rr 9) 12 (eMr_4 9), ai_ cy (rr 10) 12 (eMr_4 10), ai_ cy (rr 11) 12 (eMr_4 11), ai_ cy c4 40 e4_5, ai_ cy c5 40 f5, ai_ cy c6 40 f6, ai_ cy c7 12 e7_6, ai_ cy c8 12 e8_7]) hP hD [1, 2, 5, 6, 7, 8, 9, 10, 11, 12, 13, 14, 15, 16, 17, 18, 19, 20, 21, 22, 23, 24, 25, 26, 27, 28, 29, 30, 31, 32, 33, 34, 35, 36, 37] [0, 3, 4] hC_ rfl (by decide) (by decide) hk1 hFc hP1 hD1
  refine pd_S hP hD [ob1_0_ xt xc ta tb, ob0_0_ xc xn xk clo cro c4 c5 c6 c7 c8, ob3_0_ xn vp vn n1 n2 n3 n4 n5, ai_ cy ta 12 fx, ai_ cy tb 12 fu, ai_ cy n2 40 fs, ai_ cy n3 40 fe, aq_ cy 6 clo 12 (gf_ rl), ai_ cy (rl 0) 12 (Ml 0), ai_ cy (rl 1) 12 (Ml 1), ai_ cy (rl 2) 12 (Ml 2), ai_ cy (rl 3) 12 (Ml 3), ai_ cy (rl 4) 12 (Ml 4), ai_ cy (rl 5) 12 (Ml 5), ai_ cy (rl 6) 12 (Ml 6), ai_ cy (rl 7) 12 (Ml 7), ai_ cy (rl 8) 12 (Ml 8), ai_ cy (rl 9) 12 (Ml 9), ai_ cy (rl 10) 12 (Ml 10), ai_ cy (rl 11) 12 (Ml 11), aq_ cy 6 cro 12 (gf_ rr), ai_ cy (rr 0) 12 (eMr_4 0), ai_ cy (rr 1) 12 (eMr_4 1), ai_ cy (rr 2) 12 (eMr_4 2), ai_ cy (rr 3) 12 (eMr_4 3), ai_ cy (rr 4) 12 (eMr_4 4), ai_ cy (rr 5) 12 (eMr_4 5), ai_ cy (rr 6) 12 (eMr_4 6), ai_ cy (rr 7) 12 (eMr_4 7), ai_ cy (rr 8) 12 (eMr_4 8), ai_ cy (rr 9) 12 (eMr_4 9), ai_ cy (rr 10) 12 (eMr_4 10), ai_ cy (rr 11) 12 (eMr_4 11), ai_ cy c4 40 e4_5, ai_ cy c5 40 f5, ai_ cy c6 40 f6, ai_ cy c7 12 e7_6, ai_ cy c8 12 e8_7] [0, 3, 4, 1, 2, 5, 6, 7, 8, 9, 10, 11, 12, 13, 14, 15, 16, 17, 18, 19, 20, 21, 22, 23, 24, 25, 26, 27, 28, 29, 30, 31, 32, 33, 34, 35, 36, 37] (by decide +kernel) rfl (fun hP hD => ?_)
  refine lv_istore_n (lv' := [(3, .int r_3), (2, .int y_2), (0, .ref xt), (1, .int a1)]) hx hb dB_36_0_48.2.1.2.1 rfl hl (by decide) rfl (fun ls hl => ?_)
  refine lv_aload_n hx hb dB_36_0_48.2.1.2.2 rfl (lv_at hl 2 rfl) ?_
  refine va_get (ci := 1) (v := .ref xc) (C := RX1) (T := TX1) (N := 3) hx hb hts (fun _ h => List.mem_cons_of_mem _ (List.mem_append_left _ (List.mem_append_left _ (List.mem_append_right _ h)))) hown hK.1 hP 0 rfl rfl 0 (by decide) (hts (.fieldLink RX1 18 "CutAtlas$CutTree" "current" "LCutAtlas$Current;") (List.mem_of_getElem? (i := 2) rfl)) (fun _ h9 => h9) rfl dB_36_0_48.2.2.1.1 ?_
  refine lv_iload_n hx hb dB_36_0_48.2.2.1.2 rfl (lv_at hl 3 rfl) ?_
  refine ct_S hP hD hS hA [ob0_0_ xc xn xk clo cro c4 c5 c6 c7 c8, ob3_0_ xn vp vn n1 n2 n3 n4 n5, aq_ cy 6 cro 12 (gf_ rr), ai_ cy (rr 0) 12 (eMr_4 0), ai_ cy (rr 1) 12 (eMr_4 1), ai_ cy (rr 2) 12 (eMr_4 2), ai_ cy (rr 3) 12 (eMr_4 3), ai_ cy (rr 4) 12 (eMr_4 4), ai_ cy (rr 5) 12 (eMr_4 5), ai_ cy (rr 6) 12 (eMr_4 6), ai_ cy (rr 7) 12 (eMr_4 7), ai_ cy (rr 8) 12 (eMr_4 8), ai_ cy (rr 9) 12 (eMr_4 9), ai_ cy (rr 10) 12 (eMr_4 10), ai_ cy (rr 11) 12 (eMr_4 11), ai_ cy c7 12 e7_6] [1, 2, 20, 21, 22, 23, 24, 25, 26, 27, 28, 29, 30, 31, 32, 36] (by decide +kernel) rfl (fun hPc hDw hFc hC_ => ?_)
  refine va_calli (va_runV (As := [.int a1]) (rest := []) ⟨hx, hb, hml, hown, hts⟩ (c_X0_nearCut l D cy H.size xc xk clo cro c4 c5 c6 c7 c8 xn n1 n2 n3 n4 n5 vp vn rr eMr_4 e7_6 a1 (by first | with_reducible assumption | omega | assumption) (by first | with_reducible assumption | omega | assumption) (by first | with_reducible assumption | assumption | omega)) (cwV 1 hts gX1_hang_X0_nearCut rfl rfl rfl ⟨rfl, hd_X0_nearCut⟩ ⟨Nat.le_of_ble_eq_true rfl, Nat.le_of_ble_eq_true rfl⟩) ⟨bl_g, va_recvX hK.1 hP (ci := 0) (q0 := 1) rfl rfl, fun U hU hW => ⟨rfl, by rw [hU], by rw [hU]; exact hPc, ⟨kk_mv hW hK, arrOfT_moved hW.alike hG⟩, hDw⟩⟩ rfl rfl hl.1 rfl (lv_room (Nat.le_of_ble_eq_true rfl)) dB_36_0_48.2.2.2.1 ⟨Nat.le_of_ble_eq_true rfl, Nat.le_of_ble_eq_true rfl⟩) hS (fun q _ h => hFc q h) hFc (fun r_10 u t H locs ht hvm hw hB hz1 hk1 hS => ?_)
  obtain ⟨e7_11, g_12, hP1, hD1⟩ := hB
  rw [ht] at hP1
  obtain ⟨hP, hD⟩ := va_join (wr := [ob1_0_ xt xc ta tb, ai_ cy ta 12 fx, ai_ cy tb 12 fu, ai_ cy n2 40 fs, ai_ cy n3 40 fe, aq_ cy 6 clo 12 (gf_ rl), ai_ cy (rl 0) 12 (Ml 0), ai_ cy (rl 1) 12 (Ml 1), ai_ cy (rl 2) 12 (Ml 2), ai_ cy (rl 3) 12 (Ml 3), ai_ cy (rl 4) 12 (Ml 4), ai_ cy (rl 5) 12 (Ml 5), ai_ cy (rl 6) 12 (Ml 6), ai_ cy (rl 7) 12 (Ml 7), ai_ cy (rl 8) 12 (Ml 8), ai_ cy (rl 9) 12 (Ml 9), ai_ cy (rl 10) 12 (Ml 10), ai_ cy (rl 11) 12 (Ml 11), ai_ cy c4 40 e4_5, ai_ cy c5 40 f5, ai_ cy c6 40 f6, ai_ cy c8 12 e8_7]) (w1 := [ob0_0_ xc xn xk clo cro c4 c5 c6 c7 c8, ob3_0_ xn vp vn n1 n2 n3 n4 n5, aq_ cy 6 cro 12 (gf_ rr), ai_ cy (rr 0) 12 (eMr_4 0), ai_ cy (rr 1) 12 (eMr_4 1), ai_ cy (rr 2) 12 (eMr_4 2), ai_ cy (rr 3) 12 (eMr_4 3), ai_ cy (rr 4) 12 (eMr_4 4), ai_ cy (rr 5) 12 (eMr_4 5), ai_ cy (rr 6) 12 (eMr_4 6), ai_ cy (rr 7) 12 (eMr_4 7), ai_ cy (rr 8) 12 (eMr_4 8), ai_ cy (rr 9) 12 (eMr_4 9), ai_ cy (rr 10) 12 (eMr_4 10), ai_ cy (rr 11) 12 (eMr_4 11), ai_ cy c7 12 e7_11]) hP hD [1, 2, 20, 21, 22, 23, 24, 25, 26, 27, 28, 29, 30, 31, 32, 36] [0, 3, 4, 5, 6, 7, 8, 9, 10, 11, 12, 13, 14, 15, 16, 17, 18, 19, 33, 34, 35, 37] hC_ rfl (by decide +kernel) (by decide +kernel) hk1 hFc hP1 hD1
  refine pd_S hP hD [ob1_0_ xt xc ta tb, ob0_0_ xc xn xk clo cro c4 c5 c6 c7 c8, ob3_0_ xn vp vn n1 n2 n3 n4 n5, ai_ cy ta 12 fx, ai_ cy tb 12 fu, ai_ cy n2 40 fs, ai_ cy n3 40 fe, aq_ cy 6 clo 12 (gf_ rl), ai_ cy (rl 0) 12 (Ml 0), ai_ cy (rl 1) 12 (Ml 1), ai_ cy (rl 2) 12 (Ml 2), ai_ cy (rl 3) 12 (Ml 3), ai_ cy (rl 4) 12 (Ml 4), ai_ cy (rl 5) 12 (Ml 5), ai_ cy (rl 6) 12 (Ml 6), ai_ cy (rl 7) 12 (Ml 7), ai_ cy (rl 8) 12 (Ml 8), ai_ cy (rl 9) 12 (Ml 9), ai_ cy (rl 10) 12 (Ml 10), ai_ cy (rl 11) 12 (Ml 11), aq_ cy 6 cro 12 (gf_ rr), ai_ cy (rr 0) 12 (eMr_4 0), ai_ cy (rr 1) 12 (eMr_4 1), ai_ cy (rr 2) 12 (eMr_4 2), ai_ cy (rr 3) 12 (eMr_4 3), ai_ cy (rr 4) 12 (eMr_4 4), ai_ cy (rr 5) 12 (eMr_4 5), ai_ cy (rr 6) 12 (eMr_4 6), ai_ cy (rr 7) 12 (eMr_4 7), ai_ cy (rr 8) 12 (eMr_4 8), ai_ cy (rr 9) 12 (eMr_4 9), ai_ cy (rr 10) 12 (eMr_4 10), ai_ cy (rr 11) 12 (eMr_4 11), ai_ cy c4 40 e4_5, ai_ cy c5 40 f5, ai_ cy c6 40 f6, ai_ cy c7 12 e7_11, ai_ cy c8 12 e8_7] [0, 22, 23, 1, 2, 3, 4, 5, 6, 7, 8, 9, 10, 11, 12, 13, 14, 15, 16, 17, 24, 25, 26, 27, 28, 29, 30, 31, 32, 33, 34, 35, 36, 18, 19, 20, 37, 21] (by decide +kernel) rfl (fun hP hD => ?_)
  refine lv_istore (lv' := [(4, .int r_10), (3, .int r_3), (2, .int y_2), (0, .ref xt), (1, .int a1)]) hx hb dB_36_0_48.2.2.2.2 hl (by decide) rfl (fun ls hl => ?_)
  refine lv_aload_n hx hb dB_36_0_49.1.1.1.1 rfl (lv_at hl 3 rfl) ?_
  refine va_get (ci := 1) (v := .ref tb) (C := RX1) (T := TX1) (N := 3) hx hb hts (fun _ h => List.mem_cons_of_mem _ (List.mem_append_left _ (List.mem_append_left _ (List.mem_append_right _ h)))) hown hK.1 hP 0 rfl rfl 2 (by decide) (hts (.fieldLink RX1 15 "CutAtlas$CutTree" "numbers" "[I") (List.mem_of_getElem? (i := 3) rfl)) (fun _ h9 => h9) rfl dB_36_0_49.1.1.1.2 ?_
  refine lv_iload_n hx hb dB_36_0_49.1.1.2.1 rfl (lv_at hl 4 rfl) ?_
  refine lv_iload_n hx hb dB_36_0_49.1.1.2.2 rfl (lv_at hl 1 rfl) ?_
  refine va_iast hx hb hK.1 hP hD hS 4 0 rfl rfl (i := a1) h_1 dB_36_0_49.1.2.1.1 (fun H locs hP hD hS => ?_)
  obtain ⟨f_14, ef_14⟩ : ∃ g : Nat → Int32, g = upd fu a1.toNatClampNeg r_3 := ⟨_, rfl⟩
  refine pd_K (D := D) (cl := vwCl) (H := H) (A := A) [ob1_0_ xt xc ta tb, ob0_0_ xc xn xk clo cro c4 c5 c6 c7 c8, ob3_0_ xn vp vn n1 n2 n3 n4 n5, ai_ cy ta 12 fx, ai_ cy tb 12 f_14, ai_ cy n2 40 fs, ai_ cy n3 40 fe, aq_ cy 6 clo 12 (gf_ rl), ai_ cy (rl 0) 12 (Ml 0), ai_ cy (rl 1) 12 (Ml 1), ai_ cy (rl 2) 12 (Ml 2), ai_ cy (rl 3) 12 (Ml 3), ai_ cy (rl 4) 12 (Ml 4), ai_ cy (rl 5) 12 (Ml 5), ai_ cy (rl 6) 12 (Ml 6), ai_ cy (rl 7) 12 (Ml 7), ai_ cy (rl 8) 12 (Ml 8), ai_ cy (rl 9) 12 (Ml 9), ai_ cy (rl 10) 12 (Ml 10), ai_ cy (rl 11) 12 (Ml 11), aq_ cy 6 cro 12 (gf_ rr), ai_ cy (rr 0) 12 (eMr_4 0), ai_ cy (rr 1) 12 (eMr_4 1), ai_ cy (rr 2) 12 (eMr_4 2), ai_ cy (rr 3) 12 (eMr_4 3), ai_ cy (rr 4) 12 (eMr_4 4), ai_ cy (rr 5) 12 (eMr_4 5), ai_ cy (rr 6) 12 (eMr_4 6), ai_ cy (rr 7) 12 (eMr_4 7), ai_ cy (rr 8) 12 (eMr_4 8), ai_ cy (rr 9) 12 (eMr_4 9), ai_ cy (rr 10) 12 (eMr_4 10), ai_ cy (rr 11) 12 (eMr_4 11), ai_ cy c4 40 e4_5, ai_ cy c5 40 f5, ai_ cy c6 40 f6, ai_ cy c7 12 e7_11, ai_ cy c8 12 e8_7] (by rw [ef_14]; exact hP) (by rw [ef_14]; exact hD) (fun hP hD => ?_)
  refine lv_iload_n hx hb dB_36_0_49.1.2.1.2 rfl (lv_at hl 4 rfl) ?_
  refine lv_iconst (v := 1) hx hb dB_36_0_49.1.2.2.1 (by decide) ?_
  refine lv_iadd hx hb dB_36_0_49.1.2.2.2 ?_
  refine lv_topi (fun y_15 ey_15 => ?_)
  have ty_15 : y_15.toInt = a1.toInt + (1 : Int32).toInt := by rw [ey_15]; exact addI (by omega) (by omega)
  refine lv_istore (lv' := [(5, .int y_15), (4, .int r_10), (3, .int r_3), (2, .int y_2), (0, .ref xt), (1, .int a1)]) hx hb dB_36_0_49.2.1.1.1 hl (by decide) rfl (fun ls hl => ?_)
  suffices LOOP_16 : ∀ (n_16 : Nat) (x5_16 : Int32) (c_ta_16 : Nat → Int32) (H : Heap) (locs : List Loc) (ls : Array Slot), 12 - x5_16.toInt < (n_16 : Int) → (a1.toInt < x5_16.toInt) → (x5_16.toInt ≤ 12) → (hng fx c_ta_16 a1) → pd_2 D vwCl A [ob1_0_ xt xc ta tb, ob0_0_ xc xn xk clo cro c4 c5 c6 c7 c8, ob3_0_ xn vp vn n1 n2 n3 n4 n5, ai_ cy ta 12 c_ta_16, ai_ cy tb 12 f_14, ai_ cy n2 40 fs, ai_ cy n3 40 fe, aq_ cy 6 clo 12 (gf_ rl), ai_ cy (rl 0) 12 (Ml 0), ai_ cy (rl 1) 12 (Ml 1), ai_ cy (rl 2) 12 (Ml 2), ai_ cy (rl 3) 12 (Ml 3), ai_ cy (rl 4) 12 (Ml 4), ai_ cy (rl 5) 12 (Ml 5), ai_ cy (rl 6) 12 (Ml 6), ai_ cy (rl 7) 12 (Ml 7), ai_ cy (rl 8) 12 (Ml 8), ai_ cy (rl 9) 12 (Ml 9), ai_ cy (rl 10) 12 (Ml 10), ai_ cy (rl 11) 12 (Ml 11), aq_ cy 6 cro 12 (gf_ rr), ai_ cy (rr 0) 12 (eMr_4 0), ai_ cy (rr 1) 12 (eMr_4 1), ai_ cy (rr 2) 12 (eMr_4 2), ai_ cy (rr 3) 12 (eMr_4 3), ai_ cy (rr 4) 12 (eMr_4 4), ai_ cy (rr 5) 12 (eMr_4 5), ai_ cy (rr 6) 12 (eMr_4 6), ai_ cy (rr 7) 12 (eMr_4 7), ai_ cy (rr 8) 12 (eMr_4 8), ai_ cy (rr 9) 12 (eMr_4 9), ai_ cy (rr 10) 12 (eMr_4 10), ai_ cy (rr 11) 12 (eMr_4 11), ai_ cy c4 40 e4_5, ai_ cy c5 40 f5, ai_ cy c6 40 f6, ai_ cy c7 12 e7_11, ai_ cy c8 12 e8_7] H → va_S A s.heap H locs → lv_has ls 6 [(5, .int x5_16), (4, .int r_10), (3, .int r_3), (2, .int y_2), (0, .ref xt), (1, .int a1)] → W p l e ({ frames := 4, cells := 0, slots := 0, locals := 88 } : Room) s m (([.ref xt, .int a1] : List Value).toArray) below meth c H locs 0 0 Q (F0 m 39 ls []) from LOOP_16 ((12 - y_15.toInt).toNat + 1) y_15 fx _ _ _ (by omega) (by first | with_reducible assumption | omega | assumption) (by first | with_reducible assumption | omega | assumption) (by first | with_reducible assumption | assumption | exact hng_st (by assumption) (by assumption) (by omega) (by omega) | exact hng_rf) ⟨hP, hD⟩ hS (lv_sub hl [0, 1, 2, 3, 4, 5] rfl)
  intro n_16
  induction n_16 with
  | zero =>
    intro x5_16 c_ta_16 H locs ls hm v0_16 v1_16 v2_16 hPD hS hl; obtain ⟨hP, hD⟩ := hPD
    exact absurd hm (by omega)
  | succ n_16 ih_16 =>
    intro x5_16 c_ta_16 H locs ls hm v0_16 v1_16 v2_16 hPD hS hl; obtain ⟨hP, hD⟩ := hPD
    refine lv_iload hx hb dB_36_0_49.2.1.1.2 (lv_at hl 0 rfl) ?_
    refine lv_aload_n hx hb dB_36_0_49.2.1.2.1 rfl (lv_at hl 4 rfl) ?_
    refine va_get (ci := 1) (v := .ref xc) (C := RX1) (T := TX1) (N := 3) hx hb hts (fun _ h => List.mem_cons_of_mem _ (List.mem_append_left _ (List.mem_append_left _ (List.mem_append_right _ h)))) hown hK.1 hP 0 rfl rfl 0 (by decide) (hts (.fieldLink RX1 18 "CutAtlas$CutTree" "current" "LCutAtlas$Current;") (List.mem_of_getElem? (i := 2) rfl)) (fun _ h9 => h9) rfl dB_36_0_49.2.1.2.2 ?_
    refine va_get (ci := 0) (v := .ref xn) (C := RX0) (T := TX0) (N := 9) hx hb hts (fun _ h => List.mem_cons_of_mem _ (List.mem_append_left _ (List.mem_append_right _ h))) hown hK.1 hP 1 rfl rfl 0 (by decide) (hts (.fieldLink RX1 34 "CutAtlas$Current" "net" "LCutAtlas$Net;") (List.mem_of_getElem? (i := 4) rfl)) (fun _ h9 => h9) rfl dB_36_0_49.2.2.1.1 ?_
    refine va_get (ci := 3) (v := .int vp) (C := RX3) (T := TX3) (N := 7) hx hb hts (fun _ h => List.mem_cons_of_mem _ (List.mem_append_right _ h)) hown hK.1 hP 2 rfl rfl 0 (by decide) (hts (.fieldLink RX1 38 "CutAtlas$Net" "places" "I") (List.mem_of_getElem? (i := 5) rfl)) (fun _ h9 => h9) rfl dB_36_0_49.2.2.1.2 ?_
    refine lv_icmp_ge (tgt := 90) hx hb dB_36_0_49.2.2.2.1 (by decide) (fun c_17 => ?_) (fun c_17 => ?_)
    · have t_17 : vp.toInt ≤ x5_16.toInt := Int32.le_iff_toInt_le.mp c_17
      refine lv_iload_n hx hb dB_36_0_51.1.1.2.2 rfl (lv_at hl 3 rfl) ?_
      refine lv_if_eq (tgt := 147) hx hb dB_36_0_51.1.2.1.1 (by decide) (fun c_18 => ?_) (fun c_18 => ?_)
      · have t_18 : y_2.toInt = (0 : Int32).toInt := congrArg Int32.toInt c_18
        rw [hQ]
        exact W.vret hx hb hr (fun t ht hW => ⟨⟨(), rfl, trivial, eMr_4, c_ta_16, f_14, e4_5, e7_11, e8_7, (by first | exact hsw_ | exact trs_no htr v2_16 (by omega) (by omega)), (by first | with_reducible assumption | assumption | exact rng_zero (by omega) (by omega) | omega), (by first | with_reducible assumption | assumption | exact rng_zero (by omega) (by omega) | omega), by rw [ht]; exact hP, hD⟩, hS.F ht⟩) hS.2.2 dB_36_0_53.2.2.2.2
      · have t_18 : ¬ y_2.toInt = (0 : Int32).toInt := fun h => c_18 (Int32.toInt_inj.mp h)
        refine lv_iload hx hb dB_36_0_51.1.2.1.2 (lv_at hl 1 rfl) ?_
        refine lv_aload_n hx hb dB_36_0_51.1.2.2.1 rfl (lv_at hl 4 rfl) ?_
        refine va_get (ci := 1) (v := .ref ta) (C := RX1) (T := TX1) (N := 3) hx hb hts (fun _ h => List.mem_cons_of_mem _ (List.mem_append_left _ (List.mem_append_left _ (List.mem_append_right _ h)))) hown hK.1 hP 0 rfl rfl 1 (by decide) (hts (.fieldLink RX1 9 "CutAtlas$CutTree" "nexts" "[I") (List.mem_of_getElem? (i := 1) rfl)) (fun _ h9 => h9) rfl dB_36_0_51.1.2.2.2 ?_
        refine lv_iload_n hx hb dB_36_0_51.2.1.1.1 rfl (lv_at hl 3 rfl) ?_
        have h_19 : vp_in y_2 12 := in_I (by first | with_reducible assumption | omega) (by omega)
        refine va_iald hx hb hK.1 hP 3 0 rfl rfl (i := y_2) h_19 dB_36_0_51.2.1.1.2 ?_
        refine lv_topi (fun y_20 ey_20 => ?_)
        have ky_20 : y_20.toInt = (c_ta_16 y_2.toNatClampNeg).toInt := by rw [ey_20]
        refine lv_ishr hx hb dB_36_0_51.2.1.2.1 ?_
        refine lv_topi (fun y_21 ey_21 => ?_)
        refine lv_iconst (v := 1) hx hb dB_36_0_51.2.1.2.2 (by decide) ?_
        refine lv_iand hx hb dB_36_0_51.2.2.1.1 ?_
        refine lv_topi (fun y_22 ey_22 => ?_)
        refine lv_iconst (v := 1) hx hb dB_36_0_51.2.2.1.2 (by decide) ?_
        refine lv_icmp_ne (tgt := 147) hx hb dB_36_0_51.2.2.2.1 (by decide) (fun c_23 => ?_) (fun c_23 => ?_)
        · have t_23 : ¬ y_22.toInt = (1 : Int32).toInt := fun h => c_23 (Int32.toInt_inj.mp h)
          rw [hQ]
          exact W.vret hx hb hr (fun t ht hW => ⟨⟨(), rfl, trivial, eMr_4, c_ta_16, f_14, e4_5, e7_11, e8_7, (by first | exact hsw_ | exact trs_no htr v2_16 (by omega) (by omega)), (by first | with_reducible assumption | assumption | exact rng_zero (by omega) (by omega) | omega), (by first | with_reducible assumption | assumption | exact rng_zero (by omega) (by omega) | omega), by rw [ht]; exact hP, hD⟩, hS.F ht⟩) hS.2.2 dB_36_0_53.2.2.2.2
        · have t_23 : y_22.toInt = (1 : Int32).toInt := congrArg Int32.toInt c_23
          refine lv_aload_n hx hb dB_36_0_51.2.2.2.2 rfl (lv_at hl 4 rfl) ?_
          refine va_get (ci := 1) (v := .ref ta) (C := RX1) (T := TX1) (N := 3) hx hb hts (fun _ h => List.mem_cons_of_mem _ (List.mem_append_left _ (List.mem_append_left _ (List.mem_append_right _ h)))) hown hK.1 hP 0 rfl rfl 1 (by decide) (hts (.fieldLink RX1 9 "CutAtlas$CutTree" "nexts" "[I") (List.mem_of_getElem? (i := 1) rfl)) (fun _ h9 => h9) rfl dB_36_0_52.1.1.1.1 ?_
          refine lv_iload_n hx hb dB_36_0_52.1.1.1.2 rfl (lv_at hl 5 rfl) ?_
          refine lv_aload_n hx hb dB_36_0_52.1.1.2.1 rfl (lv_at hl 4 rfl) ?_
          refine va_get (ci := 1) (v := .ref ta) (C := RX1) (T := TX1) (N := 3) hx hb hts (fun _ h => List.mem_cons_of_mem _ (List.mem_append_left _ (List.mem_append_left _ (List.mem_append_right _ h)))) hown hK.1 hP 0 rfl rfl 1 (by decide) (hts (.fieldLink RX1 9 "CutAtlas$CutTree" "nexts" "[I") (List.mem_of_getElem? (i := 1) rfl)) (fun _ h9 => h9) rfl dB_36_0_52.1.1.2.2 ?_
          refine lv_iload_n hx hb dB_36_0_52.1.2.1.1 rfl (lv_at hl 3 rfl) ?_
          refine va_iald hx hb hK.1 hP 3 0 rfl rfl (i := y_2) h_19 dB_36_0_52.1.2.1.2 ?_
          refine lv_topi (fun y_25 ey_25 => ?_)
          have e_ := (ey_25.trans ey_20.symm).symm
          subst e_
          skip
          refine va_iast hx hb hK.1 hP hD hS 3 0 rfl rfl (i := a1) h_1 dB_36_0_52.1.2.2.1 (fun H locs hP hD hS => ?_)
          obtain ⟨f_27, ef_27⟩ : ∃ g : Nat → Int32, g = upd c_ta_16 a1.toNatClampNeg y_20 := ⟨_, rfl⟩
          refine pd_K (D := D) (cl := vwCl) (H := H) (A := A) [ob1_0_ xt xc ta tb, ob0_0_ xc xn xk clo cro c4 c5 c6 c7 c8, ob3_0_ xn vp vn n1 n2 n3 n4 n5, ai_ cy ta 12 f_27, ai_ cy tb 12 f_14, ai_ cy n2 40 fs, ai_ cy n3 40 fe, aq_ cy 6 clo 12 (gf_ rl), ai_ cy (rl 0) 12 (Ml 0), ai_ cy (rl 1) 12 (Ml 1), ai_ cy (rl 2) 12 (Ml 2), ai_ cy (rl 3) 12 (Ml 3), ai_ cy (rl 4) 12 (Ml 4), ai_ cy (rl 5) 12 (Ml 5), ai_ cy (rl 6) 12 (Ml 6), ai_ cy (rl 7) 12 (Ml 7), ai_ cy (rl 8) 12 (Ml 8), ai_ cy (rl 9) 12 (Ml 9), ai_ cy (rl 10) 12 (Ml 10), ai_ cy (rl 11) 12 (Ml 11), aq_ cy 6 cro 12 (gf_ rr), ai_ cy (rr 0) 12 (eMr_4 0), ai_ cy (rr 1) 12 (eMr_4 1), ai_ cy (rr 2) 12 (eMr_4 2), ai_ cy (rr 3) 12 (eMr_4 3), ai_ cy (rr 4) 12 (eMr_4 4), ai_ cy (rr 5) 12 (eMr_4 5), ai_ cy (rr 6) 12 (eMr_4 6), ai_ cy (rr 7) 12 (eMr_4 7), ai_ cy (rr 8) 12 (eMr_4 8), ai_ cy (rr 9) 12 (eMr_4 9), ai_ cy (rr 10) 12 (eMr_4 10), ai_ cy (rr 11) 12 (eMr_4 11), ai_ cy c4 40 e4_5, ai_ cy c5 40 f5, ai_ cy c6 40 f6, ai_ cy c7 12 e7_11, ai_ cy c8 12 e8_7] (by rw [ef_27]; exact hP) (by rw [ef_27]; exact hD) (fun hP hD => ?_)
          refine lv_aload_n hx hb dB_36_0_52.1.2.2.2 rfl (lv_at hl 4 rfl) ?_
          refine va_get (ci := 1) (v := .ref tb) (C := RX1) (T := TX1) (N := 3) hx hb hts (fun _ h => List.mem_cons_of_mem _ (List.mem_append_left _ (List.mem_append_left _ (List.mem_append_right _ h)))) hown hK.1 hP 0 rfl rfl 2 (by decide) (hts (.fieldLink RX1 15 "CutAtlas$CutTree" "numbers" "[I") (List.mem_of_getElem? (i := 3) rfl)) (fun _ h9 => h9) rfl dB_36_0_52.2.1.1.1 ?_
          refine lv_iload_n hx hb dB_36_0_52.2.1.1.2 rfl (lv_at hl 5 rfl) ?_
          refine lv_aload_n hx hb dB_36_0_52.2.1.2.1 rfl (lv_at hl 4 rfl) ?_
          refine va_get (ci := 1) (v := .ref tb) (C := RX1) (T := TX1) (N := 3) hx hb hts (fun _ h => List.mem_cons_of_mem _ (List.mem_append_left _ (List.mem_append_left _ (List.mem_append_right _ h)))) hown hK.1 hP 0 rfl rfl 2 (by decide) (hts (.fieldLink RX1 15 "CutAtlas$CutTree" "numbers" "[I") (List.mem_of_getElem? (i := 3) rfl)) (fun _ h9 => h9) rfl dB_36_0_52.2.1.2.2 ?_
          refine lv_iload_n hx hb dB_36_0_52.2.2.1.1 rfl (lv_at hl 3 rfl) ?_
          refine va_iald hx hb hK.1 hP 4 0 rfl rfl (i := y_2) h_19 dB_36_0_52.2.2.1.2 ?_
          refine lv_topi (fun y_29 ey_29 => ?_)
          have ky_29 : y_29.toInt = (f_14 y_2.toNatClampNeg).toInt := by rw [ey_29]
          refine va_iast hx hb hK.1 hP hD hS 4 0 rfl rfl (i := a1) h_1 dB_36_0_52.2.2.2.1 (fun H locs hP hD hS => ?_)
          obtain ⟨f_31, ef_31⟩ : ∃ g : Nat → Int32, g = upd f_14 a1.toNatClampNeg y_29 := ⟨_, rfl⟩
          refine pd_K (D := D) (cl := vwCl) (H := H) (A := A) [ob1_0_ xt xc ta tb, ob0_0_ xc xn xk clo cro c4 c5 c6 c7 c8, ob3_0_ xn vp vn n1 n2 n3 n4 n5, ai_ cy ta 12 f_27, ai_ cy tb 12 f_31, ai_ cy n2 40 fs, ai_ cy n3 40 fe, aq_ cy 6 clo 12 (gf_ rl), ai_ cy (rl 0) 12 (Ml 0), ai_ cy (rl 1) 12 (Ml 1), ai_ cy (rl 2) 12 (Ml 2), ai_ cy (rl 3) 12 (Ml 3), ai_ cy (rl 4) 12 (Ml 4), ai_ cy (rl 5) 12 (Ml 5), ai_ cy (rl 6) 12 (Ml 6), ai_ cy (rl 7) 12 (Ml 7), ai_ cy (rl 8) 12 (Ml 8), ai_ cy (rl 9) 12 (Ml 9), ai_ cy (rl 10) 12 (Ml 10), ai_ cy (rl 11) 12 (Ml 11), aq_ cy 6 cro 12 (gf_ rr), ai_ cy (rr 0) 12 (eMr_4 0), ai_ cy (rr 1) 12 (eMr_4 1), ai_ cy (rr 2) 12 (eMr_4 2), ai_ cy (rr 3) 12 (eMr_4 3), ai_ cy (rr 4) 12 (eMr_4 4), ai_ cy (rr 5) 12 (eMr_4 5), ai_ cy (rr 6) 12 (eMr_4 6), ai_ cy (rr 7) 12 (eMr_4 7), ai_ cy (rr 8) 12 (eMr_4 8), ai_ cy (rr 9) 12 (eMr_4 9), ai_ cy (rr 10) 12 (eMr_4 10), ai_ cy (rr 11) 12 (eMr_4 11), ai_ cy c4 40 e4_5, ai_ cy c5 40 f5, ai_ cy c6 40 f6, ai_ cy c7 12 e7_11, ai_ cy c8 12 e8_7] (by rw [ef_31]; exact hP) (by rw [ef_31]; exact hD) (fun hP hD => ?_)
          refine lv_aload_n hx hb dB_36_0_52.2.2.2.2 rfl (lv_at hl 4 rfl) ?_
          refine va_get (ci := 1) (v := .ref ta) (C := RX1) (T := TX1) (N := 3) hx hb hts (fun _ h => List.mem_cons_of_mem _ (List.mem_append_left _ (List.mem_append_left _ (List.mem_append_right _ h)))) hown hK.1 hP 0 rfl rfl 1 (by decide) (hts (.fieldLink RX1 9 "CutAtlas$CutTree" "nexts" "[I") (List.mem_of_getElem? (i := 1) rfl)) (fun _ h9 => h9) rfl dB_36_0_53.1.1.1 ?_
          refine lv_iload_n hx hb dB_36_0_53.1.1.2 rfl (lv_at hl 3 rfl) ?_
          refine lv_iload_n hx hb dB_36_0_53.1.2.1 rfl (lv_at hl 5 rfl) ?_
          refine va_iast hx hb hK.1 hP hD hS 3 0 rfl rfl (i := y_2) h_19 dB_36_0_53.1.2.2.1 (fun H locs hP hD hS => ?_)
          obtain ⟨f_33, ef_33⟩ : ∃ g : Nat → Int32, g = upd f_27 y_2.toNatClampNeg a1 := ⟨_, rfl⟩
          refine pd_K (D := D) (cl := vwCl) (H := H) (A := A) [ob1_0_ xt xc ta tb, ob0_0_ xc xn xk clo cro c4 c5 c6 c7 c8, ob3_0_ xn vp vn n1 n2 n3 n4 n5, ai_ cy ta 12 f_33, ai_ cy tb 12 f_31, ai_ cy n2 40 fs, ai_ cy n3 40 fe, aq_ cy 6 clo 12 (gf_ rl), ai_ cy (rl 0) 12 (Ml 0), ai_ cy (rl 1) 12 (Ml 1), ai_ cy (rl 2) 12 (Ml 2), ai_ cy (rl 3) 12 (Ml 3), ai_ cy (rl 4) 12 (Ml 4), ai_ cy (rl 5) 12 (Ml 5), ai_ cy (rl 6) 12 (Ml 6), ai_ cy (rl 7) 12 (Ml 7), ai_ cy (rl 8) 12 (Ml 8), ai_ cy (rl 9) 12 (Ml 9), ai_ cy (rl 10) 12 (Ml 10), ai_ cy (rl 11) 12 (Ml 11), aq_ cy 6 cro 12 (gf_ rr), ai_ cy (rr 0) 12 (eMr_4 0), ai_ cy (rr 1) 12 (eMr_4 1), ai_ cy (rr 2) 12 (eMr_4 2), ai_ cy (rr 3) 12 (eMr_4 3), ai_ cy (rr 4) 12 (eMr_4 4), ai_ cy (rr 5) 12 (eMr_4 5), ai_ cy (rr 6) 12 (eMr_4 6), ai_ cy (rr 7) 12 (eMr_4 7), ai_ cy (rr 8) 12 (eMr_4 8), ai_ cy (rr 9) 12 (eMr_4 9), ai_ cy (rr 10) 12 (eMr_4 10), ai_ cy (rr 11) 12 (eMr_4 11), ai_ cy c4 40 e4_5, ai_ cy c5 40 f5, ai_ cy c6 40 f6, ai_ cy c7 12 e7_11, ai_ cy c8 12 e8_7] (by rw [ef_33]; exact hP) (by rw [ef_33]; exact hD) (fun hP hD => ?_)
          have hsw_ : trs f_33 (a1.toNatClampNeg + 1) := trs_swap htr v2_16 (by omega) (by omega) (by omega) (by omega) ey_20 ef_27 ef_33
          refine lv_aload_n hx hb dB_36_0_53.1.2.2.2 rfl (lv_at hl 4 rfl) ?_
          refine va_get (ci := 1) (v := .ref tb) (C := RX1) (T := TX1) (N := 3) hx hb hts (fun _ h => List.mem_cons_of_mem _ (List.mem_append_left _ (List.mem_append_left _ (List.mem_append_right _ h)))) hown hK.1 hP 0 rfl rfl 2 (by decide) (hts (.fieldLink RX1 15 "CutAtlas$CutTree" "numbers" "[I") (List.mem_of_getElem? (i := 3) rfl)) (fun _ h9 => h9) rfl dB_36_0_53.2.1.1 ?_
          refine lv_iload_n hx hb dB_36_0_53.2.1.2 rfl (lv_at hl 3 rfl) ?_
          refine lv_iload_n hx hb dB_36_0_53.2.2.1 rfl (lv_at hl 2 rfl) ?_
          refine va_iast hx hb hK.1 hP hD hS 4 0 rfl rfl (i := y_2) h_19 dB_36_0_53.2.2.2.1 (fun H locs hP hD hS => ?_)
          obtain ⟨f_35, ef_35⟩ : ∃ g : Nat → Int32, g = upd f_31 y_2.toNatClampNeg r_3 := ⟨_, rfl⟩
          refine pd_K (D := D) (cl := vwCl) (H := H) (A := A) [ob1_0_ xt xc ta tb, ob0_0_ xc xn xk clo cro c4 c5 c6 c7 c8, ob3_0_ xn vp vn n1 n2 n3 n4 n5, ai_ cy ta 12 f_33, ai_ cy tb 12 f_35, ai_ cy n2 40 fs, ai_ cy n3 40 fe, aq_ cy 6 clo 12 (gf_ rl), ai_ cy (rl 0) 12 (Ml 0), ai_ cy (rl 1) 12 (Ml 1), ai_ cy (rl 2) 12 (Ml 2), ai_ cy (rl 3) 12 (Ml 3), ai_ cy (rl 4) 12 (Ml 4), ai_ cy (rl 5) 12 (Ml 5), ai_ cy (rl 6) 12 (Ml 6), ai_ cy (rl 7) 12 (Ml 7), ai_ cy (rl 8) 12 (Ml 8), ai_ cy (rl 9) 12 (Ml 9), ai_ cy (rl 10) 12 (Ml 10), ai_ cy (rl 11) 12 (Ml 11), aq_ cy 6 cro 12 (gf_ rr), ai_ cy (rr 0) 12 (eMr_4 0), ai_ cy (rr 1) 12 (eMr_4 1), ai_ cy (rr 2) 12 (eMr_4 2), ai_ cy (rr 3) 12 (eMr_4 3), ai_ cy (rr 4) 12 (eMr_4 4), ai_ cy (rr 5) 12 (eMr_4 5), ai_ cy (rr 6) 12 (eMr_4 6), ai_ cy (rr 7) 12 (eMr_4 7), ai_ cy (rr 8) 12 (eMr_4 8), ai_ cy (rr 9) 12 (eMr_4 9), ai_ cy (rr 10) 12 (eMr_4 10), ai_ cy (rr 11) 12 (eMr_4 11), ai_ cy c4 40 e4_5, ai_ cy c5 40 f5, ai_ cy c6 40 f6, ai_ cy c7 12 e7_11, ai_ cy c8 12 e8_7] (by rw [ef_35]; exact hP) (by rw [ef_35]; exact hD) (fun hP hD => ?_)
          rw [hQ]
          exact W.vret hx hb hr (fun t ht hW => ⟨⟨(), rfl, trivial, eMr_4, f_33, f_35, e4_5, e7_11, e8_7, (by first | exact hsw_ | exact trs_no htr v2_16 (by omega) (by omega)), (by first | with_reducible assumption | assumption | exact rng_zero (by omega) (by omega) | omega), (by first | with_reducible assumption | assumption | exact rng_zero (by omega) (by omega) | omega), by rw [ht]; exact hP, hD⟩, hS.F ht⟩) hS.2.2 dB_36_0_53.2.2.2.2
    · have t_17 : ¬ vp.toInt ≤ x5_16.toInt := fun h => c_17 (Int32.le_iff_toInt_le.mpr h)
      refine lv_iload hx hb dB_36_0_49.2.2.2.2 (lv_at hl 1 rfl) ?_
      refine lv_iload hx hb dB_36_0_50.1.1.1.1 (lv_at hl 0 rfl) ?_
      refine lv_ishr hx hb dB_36_0_50.1.1.1.2 ?_
      refine lv_topi (fun y_36 ey_36 => ?_)
      refine lv_iconst (v := 1) hx hb dB_36_0_50.1.1.2.1 (by decide) ?_
      refine lv_iand hx hb dB_36_0_50.1.1.2.2 ?_
      refine lv_topi (fun y_37 ey_37 => ?_)
      refine lv_iconst (v := 1) hx hb dB_36_0_50.1.2.1.1 (by decide) ?_
      refine lv_icmp_ne (tgt := 84) hx hb dB_36_0_50.1.2.1.2 (by decide) (fun c_38 => ?_) (fun c_38 => ?_)
      · have t_38 : ¬ y_37.toInt = (1 : Int32).toInt := fun h => c_38 (Int32.toInt_inj.mp h)
        obtain ⟨y_39, ey_39⟩ : ∃ y : Int32, y = x5_16 + 1 := ⟨_, rfl⟩
        have ty_39 : y_39.toInt = x5_16.toInt + (1 : Int32).toInt := by rw [ey_39]; exact addI (by omega) (by omega)
        refine lv_iinc (v := y_39) (lv' := [(5, .int y_39), (4, .int r_10), (3, .int r_3), (2, .int y_2), (0, .ref xt), (1, .int a1)]) hx hb dB_36_0_51.1.1.1.2 hl (k := 0) rfl (by rw [ey_39]; rfl) (by decide) rfl (fun ls hl => ?_)
        refine lv_goto (tgt := 39) hx hb dB_36_0_51.1.1.2.1 (by decide) ?_
        exact ih_16 y_39 c_ta_16 _ _ _ (by omega) (by first | with_reducible assumption | omega | assumption) (by first | with_reducible assumption | omega | assumption) (by first | with_reducible assumption | assumption | exact hng_st (by assumption) (by assumption) (by omega) (by omega) | exact hng_rf) ⟨hP, hD⟩ hS (lv_sub hl [0, 1, 2, 3, 4, 5] rfl)
      · have t_38 : y_37.toInt = (1 : Int32).toInt := congrArg Int32.toInt c_38
        refine lv_aload_n hx hb dB_36_0_50.1.2.2.1 rfl (lv_at hl 4 rfl) ?_
        refine va_get (ci := 1) (v := .ref ta) (C := RX1) (T := TX1) (N := 3) hx hb hts (fun _ h => List.mem_cons_of_mem _ (List.mem_append_left _ (List.mem_append_left _ (List.mem_append_right _ h)))) hown hK.1 hP 0 rfl rfl 1 (by decide) (hts (.fieldLink RX1 9 "CutAtlas$CutTree" "nexts" "[I") (List.mem_of_getElem? (i := 1) rfl)) (fun _ h9 => h9) rfl dB_36_0_50.1.2.2.2 ?_
        refine lv_iload hx hb dB_36_0_50.2.1.1.1 (lv_at hl 0 rfl) ?_
        have h_40 : vp_in x5_16 12 := in_I (by first | with_reducible assumption | omega) (by omega)
        refine va_iald hx hb hK.1 hP 3 0 rfl rfl (i := x5_16) h_40 dB_36_0_50.2.1.1.2 ?_
        refine lv_topi (fun y_41 ey_41 => ?_)
        have ky_41 : y_41.toInt = (c_ta_16 x5_16.toNatClampNeg).toInt := by rw [ey_41]
        refine lv_iload_n hx hb dB_36_0_50.2.1.2.1 rfl (lv_at hl 3 rfl) ?_
        refine lv_icmp_ne (tgt := 84) hx hb dB_36_0_50.2.1.2.2 (by decide) (fun c_42 => ?_) (fun c_42 => ?_)
        · have t_42 : ¬ y_41.toInt = y_2.toInt := fun h => c_42 (Int32.toInt_inj.mp h)
          obtain ⟨y_43, ey_43⟩ : ∃ y : Int32, y = x5_16 + 1 := ⟨_, rfl⟩
          have ty_43 : y_43.toInt = x5_16.toInt + (1 : Int32).toInt := by rw [ey_43]; exact addI (by omega) (by omega)
          refine lv_iinc (v := y_43) (lv' := [(5, .int y_43), (4, .int r_10), (3, .int r_3), (2, .int y_2), (0, .ref xt), (1, .int a1)]) hx hb dB_36_0_51.1.1.1.2 hl (k := 0) rfl (by rw [ey_43]; rfl) (by decide) rfl (fun ls hl => ?_)
          refine lv_goto (tgt := 39) hx hb dB_36_0_51.1.1.2.1 (by decide) ?_
          exact ih_16 y_43 c_ta_16 _ _ _ (by omega) (by first | with_reducible assumption | omega | assumption) (by first | with_reducible assumption | omega | assumption) (by first | with_reducible assumption | assumption | exact hng_st (by assumption) (by assumption) (by omega) (by omega) | exact hng_rf) ⟨hP, hD⟩ hS (lv_sub hl [0, 1, 2, 3, 4, 5] rfl)
        · have t_42 : y_41.toInt = y_2.toInt := congrArg Int32.toInt c_42
          refine lv_aload_n hx hb dB_36_0_50.2.2.1.1 rfl (lv_at hl 4 rfl) ?_
          refine va_get (ci := 1) (v := .ref ta) (C := RX1) (T := TX1) (N := 3) hx hb hts (fun _ h => List.mem_cons_of_mem _ (List.mem_append_left _ (List.mem_append_left _ (List.mem_append_right _ h)))) hown hK.1 hP 0 rfl rfl 1 (by decide) (hts (.fieldLink RX1 9 "CutAtlas$CutTree" "nexts" "[I") (List.mem_of_getElem? (i := 1) rfl)) (fun _ h9 => h9) rfl dB_36_0_50.2.2.1.2 ?_
          refine lv_iload hx hb dB_36_0_50.2.2.2.1 (lv_at hl 0 rfl) ?_
          refine lv_iload_n hx hb dB_36_0_50.2.2.2.2 rfl (lv_at hl 5 rfl) ?_
          refine va_iast hx hb hK.1 hP hD hS 3 0 rfl rfl (i := x5_16) h_40 dB_36_0_51.1.1.1.1 (fun H locs hP hD hS => ?_)
          obtain ⟨f_45, ef_45⟩ : ∃ g : Nat → Int32, g = upd c_ta_16 x5_16.toNatClampNeg a1 := ⟨_, rfl⟩
          refine pd_K (D := D) (cl := vwCl) (H := H) (A := A) [ob1_0_ xt xc ta tb, ob0_0_ xc xn xk clo cro c4 c5 c6 c7 c8, ob3_0_ xn vp vn n1 n2 n3 n4 n5, ai_ cy ta 12 f_45, ai_ cy tb 12 f_14, ai_ cy n2 40 fs, ai_ cy n3 40 fe, aq_ cy 6 clo 12 (gf_ rl), ai_ cy (rl 0) 12 (Ml 0), ai_ cy (rl 1) 12 (Ml 1), ai_ cy (rl 2) 12 (Ml 2), ai_ cy (rl 3) 12 (Ml 3), ai_ cy (rl 4) 12 (Ml 4), ai_ cy (rl 5) 12 (Ml 5), ai_ cy (rl 6) 12 (Ml 6), ai_ cy (rl 7) 12 (Ml 7), ai_ cy (rl 8) 12 (Ml 8), ai_ cy (rl 9) 12 (Ml 9), ai_ cy (rl 10) 12 (Ml 10), ai_ cy (rl 11) 12 (Ml 11), aq_ cy 6 cro 12 (gf_ rr), ai_ cy (rr 0) 12 (eMr_4 0), ai_ cy (rr 1) 12 (eMr_4 1), ai_ cy (rr 2) 12 (eMr_4 2), ai_ cy (rr 3) 12 (eMr_4 3), ai_ cy (rr 4) 12 (eMr_4 4), ai_ cy (rr 5) 12 (eMr_4 5), ai_ cy (rr 6) 12 (eMr_4 6), ai_ cy (rr 7) 12 (eMr_4 7), ai_ cy (rr 8) 12 (eMr_4 8), ai_ cy (rr 9) 12 (eMr_4 9), ai_ cy (rr 10) 12 (eMr_4 10), ai_ cy (rr 11) 12 (eMr_4 11), ai_ cy c4 40 e4_5, ai_ cy c5 40 f5, ai_ cy c6 40 f6, ai_ cy c7 12 e7_11, ai_ cy c8 12 e8_7] (by rw [ef_45]; exact hP) (by rw [ef_45]; exact hD) (fun hP hD => ?_)
          obtain ⟨y_46, ey_46⟩ : ∃ y : Int32, y = x5_16 + 1 := ⟨_, rfl⟩
          have ty_46 : y_46.toInt = x5_16.toInt + (1 : Int32).toInt := by rw [ey_46]; exact addI (by omega) (by omega)
          refine lv_iinc (v := y_46) (lv' := [(5, .int y_46), (4, .int r_10), (3, .int r_3), (2, .int y_2), (0, .ref xt), (1, .int a1)]) hx hb dB_36_0_51.1.1.1.2 hl (k := 0) rfl (by rw [ey_46]; rfl) (by decide) rfl (fun ls hl => ?_)
          refine lv_goto (tgt := 39) hx hb dB_36_0_51.1.1.2.1 (by decide) ?_
          exact ih_16 y_46 f_45 _ _ _ (by omega) (by first | with_reducible assumption | omega | assumption) (by first | with_reducible assumption | omega | assumption) (by first | with_reducible assumption | assumption | exact hng_st (by assumption) (by assumption) (by omega) (by omega) | exact hng_rf) ⟨hP, hD⟩ hS (lv_sub hl [0, 1, 2, 3, 4, 5] rfl)

set_option maxHeartbeats 4000000 in
set_option maxRecDepth 100000 in
theorem c_X1_grow (l : Launch) (D : va_G) (cy : Nat → ClassId) (sz : Nat) (xt : Nat) (ta : Nat) (tb : Nat) (xc : Nat) (xk : Nat) (clo : Nat) (cro : Nat) (c4 : Nat) (c5 : Nat) (c6 : Nat) (c7 : Nat) (c8 : Nat) (xn : Nat) (n1 : Nat) (n2 : Nat) (n3 : Nat) (n4 : Nat) (n5 : Nat) (vp : Int32) (vn : Int32) (fx : Nat → Int32) (fu : Nat → Int32) (fk : Nat → Int32) (fs : Nat → Int32) (fe : Nat → Int32) (fw : Nat → Int32) (rl : Nat → Nat) (Ml : Nat → Nat → Int32) (rr : Nat → Nat) (Mr : Nat → Nat → Int32) (f4 : Nat → Int32) (f5 : Nat → Int32) (f6 : Nat → Int32) (f7 : Nat → Int32) (f8 : Nat → Int32) (k0 : Nat) (k1 : Nat) (k2 : Nat) (k3 : Nat) (k4 : Nat) (hvp : 0 ≤ vp.toInt ∧ vp.toInt ≤ 12) (hvn : 0 ≤ vn.toInt ∧ vn.toInt ≤ 40) (hpr : prng fs fe 40) (r_f7 : rng f7 12 (0) (11)) (r_f8 : rng f8 12 (0) (11)) (r_fk : rng fk 40 (0) (4)) : Met l yX1_grow wsX1_grow ({ frames := 5, cells := 0, slots := 0, locals := 113 }) (va_Pc [.ref xt] (fun U => U.heap.size = sz ∧ va_P D vwCl [ob1_0_ xt xc ta tb, ob0_0_ xc xn xk clo cro c4 c5 c6 c7 c8, ob3_0_ xn vp vn n1 n2 n3 n4 n5, ai_ cy ta 12 fx, ai_ cy tb 12 fu, ai_ cy n1 40 fk, ai_ cy n2 40 fs, ai_ cy n3 40 fe, ai_ cy n4 40 fw, aq_ cy 6 clo 12 (gf_ rl), ai_ cy (rl 0) 12 (Ml 0), ai_ cy (rl 1) 12 (Ml 1), ai_ cy (rl 2) 12 (Ml 2), ai_ cy (rl 3) 12 (Ml 3), ai_ cy (rl 4) 12 (Ml 4), ai_ cy (rl 5) 12 (Ml 5), ai_ cy (rl 6) 12 (Ml 6), ai_ cy (rl 7) 12 (Ml 7), ai_ cy (rl 8) 12 (Ml 8), ai_ cy (rl 9) 12 (Ml 9), ai_ cy (rl 10) 12 (Ml 10), ai_ cy (rl 11) 12 (Ml 11), aq_ cy 6 cro 12 (gf_ rr), ai_ cy (rr 0) 12 (Mr 0), ai_ cy (rr 1) 12 (Mr 1), ai_ cy (rr 2) 12 (Mr 2), ai_ cy (rr 3) 12 (Mr 3), ai_ cy (rr 4) 12 (Mr 4), ai_ cy (rr 5) 12 (Mr 5), ai_ cy (rr 6) 12 (Mr 6), ai_ cy (rr 7) 12 (Mr 7), ai_ cy (rr 8) 12 (Mr 8), ai_ cy (rr 9) 12 (Mr 9), ai_ cy (rr 10) 12 (Mr 10), ai_ cy (rr 11) 12 (Mr 11), ai_ cy c4 40 f4, ai_ cy c5 40 f5, ai_ cy c6 40 f6, ai_ cy c7 12 f7, ai_ cy c8 12 f8, aq_ cy 3 xk 5 (kf_ k0 k1 k2 k3 k4), ob6_0_ k0, ob5_0_ k1, ob9_0_ k2, ob2_0_ k3, ob8_0_ k4] U.heap ∧ kg_ D cy U ∧ va_D (fun _ => True) [ob1_0_ xt xc ta tb, ob0_0_ xc xn xk clo cro c4 c5 c6 c7 c8, ob3_0_ xn vp vn n1 n2 n3 n4 n5, ai_ cy ta 12 fx, ai_ cy tb 12 fu, ai_ cy n1 40 fk, ai_ cy n2 40 fs, ai_ cy n3 40 fe, ai_ cy n4 40 fw, aq_ cy 6 clo 12 (gf_ rl), ai_ cy (rl 0) 12 (Ml 0), ai_ cy (rl 1) 12 (Ml 1), ai_ cy (rl 2) 12 (Ml 2), ai_ cy (rl 3) 12 (Ml 3), ai_ cy (rl 4) 12 (Ml 4), ai_ cy (rl 5) 12 (Ml 5), ai_ cy (rl 6) 12 (Ml 6), ai_ cy (rl 7) 12 (Ml 7), ai_ cy (rl 8) 12 (Ml 8), ai_ cy (rl 9) 12 (Ml 9), ai_ cy (rl 10) 12 (Ml 10), ai_ cy (rl 11) 12 (Ml 11), aq_ cy 6 cro 12 (gf_ rr), ai_ cy (rr 0) 12 (Mr 0), ai_ cy (rr 1) 12 (Mr 1), ai_ cy (rr 2) 12 (Mr 2), ai_ cy (rr 3) 12 (Mr 3), ai_ cy (rr 4) 12 (Mr 4), ai_ cy (rr 5) 12 (Mr 5), ai_ cy (rr 6) 12 (Mr 6), ai_ cy (rr 7) 12 (Mr 7), ai_ cy (rr 8) 12 (Mr 8), ai_ cy (rr 9) 12 (Mr 9), ai_ cy (rr 10) 12 (Mr 10), ai_ cy (rr 11) 12 (Mr 11), ai_ cy c4 40 f4, ai_ cy c5 40 f5, ai_ cy c6 40 f6, ai_ cy c7 12 f7, ai_ cy c8 12 f8, aq_ cy 3 xk 5 (kf_ k0 k1 k2 k3 k4), ob6_0_ k0, ob5_0_ k1, ob9_0_ k2, ob2_0_ k3, ob8_0_ k4])) (va_Qv (fun (_ : Unit) => True) (fun (_ : Unit) (t : State) => ∃ (eMr : Nat → Nat → Int32), ∃ (efx : Nat → Int32), ∃ (efu : Nat → Int32), ∃ (e4 : Nat → Int32), ∃ (e7 : Nat → Int32), ∃ (e8 : Nat → Int32), ∃ (eMl : Nat → Nat → Int32), ∃ (e5 : Nat → Int32), ∃ (e6 : Nat → Int32), (∃ d : Nat → Nat, trd efx d) ∧ (rng e7 12 (0) (11)) ∧ (rng e8 12 (0) (11)) ∧ va_P D vwCl [ob1_0_ xt xc ta tb, ob0_0_ xc xn xk clo cro c4 c5 c6 c7 c8, ob3_0_ xn vp vn n1 n2 n3 n4 n5, ai_ cy ta 12 efx, ai_ cy tb 12 efu, ai_ cy n1 40 fk, ai_ cy n2 40 fs, ai_ cy n3 40 fe, ai_ cy n4 40 fw, aq_ cy 6 clo 12 (gf_ rl), ai_ cy (rl 0) 12 (eMl 0), ai_ cy (rl 1) 12 (eMl 1), ai_ cy (rl 2) 12 (eMl 2), ai_ cy (rl 3) 12 (eMl 3), ai_ cy (rl 4) 12 (eMl 4), ai_ cy (rl 5) 12 (eMl 5), ai_ cy (rl 6) 12 (eMl 6), ai_ cy (rl 7) 12 (eMl 7), ai_ cy (rl 8) 12 (eMl 8), ai_ cy (rl 9) 12 (eMl 9), ai_ cy (rl 10) 12 (eMl 10), ai_ cy (rl 11) 12 (eMl 11), aq_ cy 6 cro 12 (gf_ rr), ai_ cy (rr 0) 12 (eMr 0), ai_ cy (rr 1) 12 (eMr 1), ai_ cy (rr 2) 12 (eMr 2), ai_ cy (rr 3) 12 (eMr 3), ai_ cy (rr 4) 12 (eMr 4), ai_ cy (rr 5) 12 (eMr 5), ai_ cy (rr 6) 12 (eMr 6), ai_ cy (rr 7) 12 (eMr 7), ai_ cy (rr 8) 12 (eMr 8), ai_ cy (rr 9) 12 (eMr 9), ai_ cy (rr 10) 12 (eMr 10), ai_ cy (rr 11) 12 (eMr 11), ai_ cy c4 40 e4, ai_ cy c5 40 e5, ai_ cy c6 40 e6, ai_ cy c7 12 e7, ai_ cy c8 12 e8, aq_ cy 3 xk 5 (kf_ k0 k1 k2 k3 k4), ob6_0_ k0, ob5_0_ k1, ob9_0_ k2, ob2_0_ k3, ob8_0_ k4] t.heap ∧ va_D (va_A [ob1_0_ xt xc ta tb, ob0_0_ xc xn xk clo cro c4 c5 c6 c7 c8, ob3_0_ xn vp vn n1 n2 n3 n4 n5, ai_ cy ta 12 fx, ai_ cy tb 12 fu, ai_ cy n1 40 fk, ai_ cy n2 40 fs, ai_ cy n3 40 fe, ai_ cy n4 40 fw, aq_ cy 6 clo 12 (gf_ rl), ai_ cy (rl 0) 12 (Ml 0), ai_ cy (rl 1) 12 (Ml 1), ai_ cy (rl 2) 12 (Ml 2), ai_ cy (rl 3) 12 (Ml 3), ai_ cy (rl 4) 12 (Ml 4), ai_ cy (rl 5) 12 (Ml 5), ai_ cy (rl 6) 12 (Ml 6), ai_ cy (rl 7) 12 (Ml 7), ai_ cy (rl 8) 12 (Ml 8), ai_ cy (rl 9) 12 (Ml 9), ai_ cy (rl 10) 12 (Ml 10), ai_ cy (rl 11) 12 (Ml 11), aq_ cy 6 cro 12 (gf_ rr), ai_ cy (rr 0) 12 (Mr 0), ai_ cy (rr 1) 12 (Mr 1), ai_ cy (rr 2) 12 (Mr 2), ai_ cy (rr 3) 12 (Mr 3), ai_ cy (rr 4) 12 (Mr 4), ai_ cy (rr 5) 12 (Mr 5), ai_ cy (rr 6) 12 (Mr 6), ai_ cy (rr 7) 12 (Mr 7), ai_ cy (rr 8) 12 (Mr 8), ai_ cy (rr 9) 12 (Mr 9), ai_ cy (rr 10) 12 (Mr 10), ai_ cy (rr 11) 12 (Mr 11), ai_ cy c4 40 f4, ai_ cy c5 40 f5, ai_ cy c6 40 f6, ai_ cy c7 12 f7, ai_ cy c8 12 f8, aq_ cy 3 xk 5 (kf_ k0 k1 k2 k3 k4), ob6_0_ k0, ob5_0_ k1, ob9_0_ k2, ob2_0_ k3, ob8_0_ k4] sz) [ob1_0_ xt xc ta tb, ob0_0_ xc xn xk clo cro c4 c5 c6 c7 c8, ob3_0_ xn vp vn n1 n2 n3 n4 n5, ai_ cy ta 12 efx, ai_ cy tb 12 efu, ai_ cy n1 40 fk, ai_ cy n2 40 fs, ai_ cy n3 40 fe, ai_ cy n4 40 fw, aq_ cy 6 clo 12 (gf_ rl), ai_ cy (rl 0) 12 (eMl 0), ai_ cy (rl 1) 12 (eMl 1), ai_ cy (rl 2) 12 (eMl 2), ai_ cy (rl 3) 12 (eMl 3), ai_ cy (rl 4) 12 (eMl 4), ai_ cy (rl 5) 12 (eMl 5), ai_ cy (rl 6) 12 (eMl 6), ai_ cy (rl 7) 12 (eMl 7), ai_ cy (rl 8) 12 (eMl 8), ai_ cy (rl 9) 12 (eMl 9), ai_ cy (rl 10) 12 (eMl 10), ai_ cy (rl 11) 12 (eMl 11), aq_ cy 6 cro 12 (gf_ rr), ai_ cy (rr 0) 12 (eMr 0), ai_ cy (rr 1) 12 (eMr 1), ai_ cy (rr 2) 12 (eMr 2), ai_ cy (rr 3) 12 (eMr 3), ai_ cy (rr 4) 12 (eMr 4), ai_ cy (rr 5) 12 (eMr 5), ai_ cy (rr 6) 12 (eMr 6), ai_ cy (rr 7) 12 (eMr 7), ai_ cy (rr 8) 12 (eMr 8), ai_ cy (rr 9) 12 (eMr 9), ai_ cy (rr 10) 12 (eMr 10), ai_ cy (rr 11) 12 (eMr 11), ai_ cy c4 40 e4, ai_ cy c5 40 e5, ai_ cy c6 40 e6, ai_ cy c7 12 e7, ai_ cy c8 12 e8, aq_ cy 3 xk 5 (kf_ k0 k1 k2 k3 k4), ob6_0_ k0, ob5_0_ k1, ob9_0_ k2, ob2_0_ k3, ob8_0_ k4]) (va_A [ob1_0_ xt xc ta tb, ob0_0_ xc xn xk clo cro c4 c5 c6 c7 c8, ob3_0_ xn vp vn n1 n2 n3 n4 n5, ai_ cy ta 12 fx, ai_ cy tb 12 fu, ai_ cy n1 40 fk, ai_ cy n2 40 fs, ai_ cy n3 40 fe, ai_ cy n4 40 fw, aq_ cy 6 clo 12 (gf_ rl), ai_ cy (rl 0) 12 (Ml 0), ai_ cy (rl 1) 12 (Ml 1), ai_ cy (rl 2) 12 (Ml 2), ai_ cy (rl 3) 12 (Ml 3), ai_ cy (rl 4) 12 (Ml 4), ai_ cy (rl 5) 12 (Ml 5), ai_ cy (rl 6) 12 (Ml 6), ai_ cy (rl 7) 12 (Ml 7), ai_ cy (rl 8) 12 (Ml 8), ai_ cy (rl 9) 12 (Ml 9), ai_ cy (rl 10) 12 (Ml 10), ai_ cy (rl 11) 12 (Ml 11), aq_ cy 6 cro 12 (gf_ rr), ai_ cy (rr 0) 12 (Mr 0), ai_ cy (rr 1) 12 (Mr 1), ai_ cy (rr 2) 12 (Mr 2), ai_ cy (rr 3) 12 (Mr 3), ai_ cy (rr 4) 12 (Mr 4), ai_ cy (rr 5) 12 (Mr 5), ai_ cy (rr 6) 12 (Mr 6), ai_ cy (rr 7) 12 (Mr 7), ai_ cy (rr 8) 12 (Mr 8), ai_ cy (rr 9) 12 (Mr 9), ai_ cy (rr 10) 12 (Mr 10), ai_ cy (rr 11) 12 (Mr 11), ai_ cy c4 40 f4, ai_ cy c5 40 f5, ai_ cy c6 40 f6, ai_ cy c7 12 f7, ai_ cy c8 12 f8, aq_ cy 3 xk 5 (kf_ k0 k1 k2 k3 k4), ob6_0_ k0, ob5_0_ k1, ob9_0_ k2, ob2_0_ k3, ob8_0_ k4] sz)) 0 0 (va_A [ob1_0_ xt xc ta tb, ob0_0_ xc xn xk clo cro c4 c5 c6 c7 c8, ob3_0_ xn vp vn n1 n2 n3 n4 n5, ai_ cy ta 12 fx, ai_ cy tb 12 fu, ai_ cy n1 40 fk, ai_ cy n2 40 fs, ai_ cy n3 40 fe, ai_ cy n4 40 fw, aq_ cy 6 clo 12 (gf_ rl), ai_ cy (rl 0) 12 (Ml 0), ai_ cy (rl 1) 12 (Ml 1), ai_ cy (rl 2) 12 (Ml 2), ai_ cy (rl 3) 12 (Ml 3), ai_ cy (rl 4) 12 (Ml 4), ai_ cy (rl 5) 12 (Ml 5), ai_ cy (rl 6) 12 (Ml 6), ai_ cy (rl 7) 12 (Ml 7), ai_ cy (rl 8) 12 (Ml 8), ai_ cy (rl 9) 12 (Ml 9), ai_ cy (rl 10) 12 (Ml 10), ai_ cy (rl 11) 12 (Ml 11), aq_ cy 6 cro 12 (gf_ rr), ai_ cy (rr 0) 12 (Mr 0), ai_ cy (rr 1) 12 (Mr 1), ai_ cy (rr 2) 12 (Mr 2), ai_ cy (rr 3) 12 (Mr 3), ai_ cy (rr 4) 12 (Mr 4), ai_ cy (rr 5) 12 (Mr 5), ai_ cy (rr 6) 12 (Mr 6), ai_ cy (rr 7) 12 (Mr 7), ai_ cy (rr 8) 12 (Mr 8), ai_ cy (rr 9) 12 (Mr 9), ai_ cy (rr 10) 12 (Mr 10), ai_ cy (rr 11) 12 (Mr 11), ai_ cy c4 40 f4, ai_ cy c5 40 f5, ai_ cy c6 40 f6, ai_ cy c7 12 f7, ai_ cy c8 12 f8, aq_ cy 3 xk 5 (kf_ k0 k1 k2 k3 k4), ob6_0_ k0, ob5_0_ k1, ob9_0_ k2, ob2_0_ k3, ob8_0_ k4] sz) := by
  refine ofQ (cc := cX1_grow) (maxL := 2) (ret := none) (by decide) rfl ?_
  intro p e s m args below meth c s₁ Q hQ B hml hv
  obtain ⟨rfl, hsz, hP, hK, hD0⟩ := hv
  have hG := hK.2
  have hK := hK.1
  have hx := B.exec
  have hb := B.bytes
  have hr := B.returns
  have hts := atoms_spec (ws := wsX1_grow) B.pre
  have hown : s.vm.findClass RX1 = some m.cls := by have h_ := findClass_of_methodNamed B.named; exact h_
  have hlocks := B.notSynchronized
  subst hsz
  have hD := hD0.self (sz := s.heap.size)
  generalize hAe : va_A [ob1_0_ xt xc ta tb, ob0_0_ xc xn xk clo cro c4 c5 c6 c7 c8, ob3_0_ xn vp vn n1 n2 n3 n4 n5, ai_ cy ta 12 fx, ai_ cy tb 12 fu, ai_ cy n1 40 fk, ai_ cy n2 40 fs, ai_ cy n3 40 fe, ai_ cy n4 40 fw, aq_ cy 6 clo 12 (gf_ rl), ai_ cy (rl 0) 12 (Ml 0), ai_ cy (rl 1) 12 (Ml 1), ai_ cy (rl 2) 12 (Ml 2), ai_ cy (rl 3) 12 (Ml 3), ai_ cy (rl 4) 12 (Ml 4), ai_ cy (rl 5) 12 (Ml 5), ai_ cy (rl 6) 12 (Ml 6), ai_ cy (rl 7) 12 (Ml 7), ai_ cy (rl 8) 12 (Ml 8), ai_ cy (rl 9) 12 (Ml 9), ai_ cy (rl 10) 12 (Ml 10), ai_ cy (rl 11) 12 (Ml 11), aq_ cy 6 cro 12 (gf_ rr), ai_ cy (rr 0) 12 (Mr 0), ai_ cy (rr 1) 12 (Mr 1), ai_ cy (rr 2) 12 (Mr 2), ai_ cy (rr 3) 12 (Mr 3), ai_ cy (rr 4) 12 (Mr 4), ai_ cy (rr 5) 12 (Mr 5), ai_ cy (rr 6) 12 (Mr 6), ai_ cy (rr 7) 12 (Mr 7), ai_ cy (rr 8) 12 (Mr 8), ai_ cy (rr 9) 12 (Mr 9), ai_ cy (rr 10) 12 (Mr 10), ai_ cy (rr 11) 12 (Mr 11), ai_ cy c4 40 f4, ai_ cy c5 40 f5, ai_ cy c6 40 f6, ai_ cy c7 12 f7, ai_ cy c8 12 f8, aq_ cy 3 xk 5 (kf_ k0 k1 k2 k3 k4), ob6_0_ k0, ob5_0_ k1, ob9_0_ k2, ob2_0_ k3, ob8_0_ k4] s.heap.size = A at hD hQ
  have hA : ∀ q : Nat, s.heap.size ≤ q → A q := fun q h => by rw [← hAe]; exact Or.inr h
  have hS : va_S A s.heap s.heap [] := va_S.rf
  have hl := lv_entry ([.ref xt]) (n := 2) (Nat.le_of_ble_eq_true rfl)
  rw [lg_entry_eq]
  generalize (lg_sl ([.ref xt]) ++ List.replicate (2 - (lg_sl ([.ref xt])).length) Slot.unset).toArray = ls at hl ⊢
  have hl : lv_has ls 2 [(0, .ref xt)] := hl
  have zm9 : ((-9) : Int32).toInt = -9 := by decide
  have z0 : (0 : Int32).toInt = 0 := by decide
  have z1 : (1 : Int32).toInt = 1 := by decide
  refine lv_aload_n hx hb dB_36_0_46.1.1.1.1 rfl (lv_at hl 0 rfl) ?_
  refine va_get (ci := 1) (v := .ref xc) (C := RX1) (T := TX1) (N := 3) hx hb hts (fun _ h => List.mem_cons_of_mem _ (List.mem_append_left _ (List.mem_append_left _ (List.mem_append_right _ h)))) hown hK.1 hP 0 rfl rfl 0 (by decide) (hts (.fieldLink RX1 18 "CutAtlas$CutTree" "current" "LCutAtlas$Current;") (List.mem_of_getElem? (i := 1) rfl)) (fun _ h9 => h9) rfl dB_36_0_46.1.1.1.2 ?_
  refine lv_bipush (v := (-9)) hx hb dB_36_0_46.1.1.2.1 (by decide) ?_
  refine ct_S hP hD hS hA [ob0_0_ xc xn xk clo cro c4 c5 c6 c7 c8, ob3_0_ xn vp vn n1 n2 n3 n4 n5, ai_ cy n1 40 fk, ai_ cy n2 40 fs, ai_ cy n3 40 fe, ai_ cy n4 40 fw, aq_ cy 6 clo 12 (gf_ rl), ai_ cy (rl 0) 12 (Ml 0), ai_ cy (rl 1) 12 (Ml 1), ai_ cy (rl 2) 12 (Ml 2), ai_ cy (rl 3) 12 (Ml 3), ai_ cy (rl 4) 12 (Ml 4), ai_ cy (rl 5) 12 (Ml 5), ai_ cy (rl 6) 12 (Ml 6), ai_ cy (rl 7) 12 (Ml 7), ai_ cy (rl 8) 12 (Ml 8), ai_ cy (rl 9) 12 (Ml 9), ai_ cy (rl 10) 12 (Ml 10), ai_ cy (rl 11) 12 (Ml 11), ai_ cy c5 40 f5, ai_ cy c6 40 f6, aq_ cy 3 xk 5 (kf_ k0 k1 k2 k3 k4), ob6_0_ k0, ob5_0_ k1, ob9_0_ k2, ob2_0_ k3, ob8_0_ k4] [1, 2, 5, 6, 7, 8, 9, 10, 11, 12, 13, 14, 15, 16, 17, 18, 19, 20, 21, 36, 37, 40, 41, 42, 43, 44, 45] (by decide +kernel) rfl (fun hPc hDw hFc hC_ => ?_)
  refine va_callv (va_runV (As := [.int (-9)]) (rest := []) ⟨hx, hb, hml, hown, hts⟩ (c_X0_load l D cy s.heap.size xc xk clo cro c4 c5 c6 c7 c8 xn n1 n2 n3 n4 n5 vp vn fk fs fe fw rl Ml f5 f6 k0 k1 k2 k3 k4 ((-9) : Int32) (by first | with_reducible assumption | omega | assumption) (by first | with_reducible assumption | omega | assumption) (by first | with_reducible assumption | assumption | omega) (by first | with_reducible assumption | assumption | omega)) (cwV 1 hts gX1_grow_X0_load rfl rfl rfl ⟨rfl, hd_X0_load⟩ ⟨Nat.le_of_ble_eq_true rfl, Nat.le_of_ble_eq_true rfl⟩) ⟨bl_g, va_recvX hK.1 hP (ci := 0) (q0 := 1) rfl rfl, fun U hU hW => ⟨rfl, by rw [hU], by rw [hU]; exact hPc, ⟨kk_mv hW hK, arrOfT_moved hW.alike hG⟩, hDw⟩⟩ rfl rfl hl.1 rfl (lv_room (Nat.le_of_ble_eq_true rfl)) dB_36_0_46.1.1.2.2 ⟨Nat.le_of_ble_eq_true rfl, Nat.le_of_ble_eq_true rfl⟩) hS (fun q _ h => hFc q h) hFc (fun u t H locs ht hvm hw hB hz1 hk1 hS => ?_)
  obtain ⟨eMl_2, e5_3, e6_4, hP1, hD1⟩ := hB
  rw [ht] at hP1
  obtain ⟨hP, hD⟩ := va_join (wr := [ob1_0_ xt xc ta tb, ai_ cy ta 12 fx, ai_ cy tb 12 fu, aq_ cy 6 cro 12 (gf_ rr), ai_ cy (rr 0) 12 (Mr 0), ai_ cy (rr 1) 12 (Mr 1), ai_ cy (rr 2) 12 (Mr 2), ai_ cy (rr 3) 12 (Mr 3), ai_ cy (rr 4) 12 (Mr 4), ai_ cy (rr 5) 12 (Mr 5), ai_ cy (rr 6) 12 (Mr 6), ai_ cy (rr 7) 12 (Mr 7), ai_ cy (rr 8) 12 (Mr 8), ai_ cy (rr 9) 12 (Mr 9), ai_ cy (rr 10) 12 (Mr 10), ai_ cy (rr 11) 12 (Mr 11), ai_ cy c4 40 f4, ai_ cy c7 12 f7, ai_ cy c8 12 f8]) (w1 := [ob0_0_ xc xn xk clo cro c4 c5 c6 c7 c8, ob3_0_ xn vp vn n1 n2 n3 n4 n5, ai_ cy n1 40 fk, ai_ cy n2 40 fs, ai_ cy n3 40 fe, ai_ cy n4 40 fw, aq_ cy 6 clo 12 (gf_ rl), ai_ cy (rl 0) 12 (eMl_2 0), ai_ cy (rl 1) 12 (eMl_2 1), ai_ cy (rl 2) 12 (eMl_2 2), ai_ cy (rl 3) 12 (eMl_2 3), ai_ cy (rl 4) 12 (eMl_2 4), ai_ cy (rl 5) 12 (eMl_2 5), ai_ cy (rl 6) 12 (eMl_2 6), ai_ cy (rl 7) 12 (eMl_2 7), ai_ cy (rl 8) 12 (eMl_2 8), ai_ cy (rl 9) 12 (eMl_2 9), ai_ cy (rl 10) 12 (eMl_2 10), ai_ cy (rl 11) 12 (eMl_2 11), ai_ cy c5 40 e5_3, ai_ cy c6 40 e6_4, aq_ cy 3 xk 5 (kf_ k0 k1 k2 k3 k4), ob6_0_ k0, ob5_0_ k1, ob9_0_ k2, ob2_0_ k3, ob8_0_ k4]) hP hD [1, 2, 5, 6, 7, 8, 9, 10, 11, 12, 13, 14, 15, 16, 17, 18, 19, 20, 21, 36, 37, 40, 41, 42, 43, 44, 45] [0, 3, 4, 22, 23, 24, 25, 26, 27, 28, 29, 30, 31, 32, 33, 34, 35, 38, 39] hC_ rfl (by decide +kernel) (by decide +kernel) hk1 hFc hP1 hD1
  refine pd_S hP hD [ob1_0_ xt xc ta tb, ob0_0_ xc xn xk clo cro c4 c5 c6 c7 c8, ob3_0_ xn vp vn n1 n2 n3 n4 n5, ai_ cy ta 12 fx, ai_ cy tb 12 fu, ai_ cy n1 40 fk, ai_ cy n2 40 fs, ai_ cy n3 40 fe, ai_ cy n4 40 fw, aq_ cy 6 clo 12 (gf_ rl), ai_ cy (rl 0) 12 (eMl_2 0), ai_ cy (rl 1) 12 (eMl_2 1), ai_ cy (rl 2) 12 (eMl_2 2), ai_ cy (rl 3) 12 (eMl_2 3), ai_ cy (rl 4) 12 (eMl_2 4), ai_ cy (rl 5) 12 (eMl_2 5), ai_ cy (rl 6) 12 (eMl_2 6), ai_ cy (rl 7) 12 (eMl_2 7), ai_ cy (rl 8) 12 (eMl_2 8), ai_ cy (rl 9) 12 (eMl_2 9), ai_ cy (rl 10) 12 (eMl_2 10), ai_ cy (rl 11) 12 (eMl_2 11), aq_ cy 6 cro 12 (gf_ rr), ai_ cy (rr 0) 12 (Mr 0), ai_ cy (rr 1) 12 (Mr 1), ai_ cy (rr 2) 12 (Mr 2), ai_ cy (rr 3) 12 (Mr 3), ai_ cy (rr 4) 12 (Mr 4), ai_ cy (rr 5) 12 (Mr 5), ai_ cy (rr 6) 12 (Mr 6), ai_ cy (rr 7) 12 (Mr 7), ai_ cy (rr 8) 12 (Mr 8), ai_ cy (rr 9) 12 (Mr 9), ai_ cy (rr 10) 12 (Mr 10), ai_ cy (rr 11) 12 (Mr 11), ai_ cy c4 40 f4, ai_ cy c5 40 e5_3, ai_ cy c6 40 e6_4, ai_ cy c7 12 f7, ai_ cy c8 12 f8, aq_ cy 3 xk 5 (kf_ k0 k1 k2 k3 k4), ob6_0_ k0, ob5_0_ k1, ob9_0_ k2, ob2_0_ k3, ob8_0_ k4] [0, 19, 20, 1, 2, 21, 22, 23, 24, 25, 26, 27, 28, 29, 30, 31, 32, 33, 34, 35, 36, 37, 3, 4, 5, 6, 7, 8, 9, 10, 11, 12, 13, 14, 15, 16, 38, 39, 17, 18, 40, 41, 42, 43, 44, 45] (by decide +kernel) rfl (fun hP hD => ?_)
  refine lv_aload_n hx hb dB_36_0_46.1.2.1.1 rfl (lv_at hl 0 rfl) ?_
  refine va_get (ci := 1) (v := .ref ta) (C := RX1) (T := TX1) (N := 3) hx hb hts (fun _ h => List.mem_cons_of_mem _ (List.mem_append_left _ (List.mem_append_left _ (List.mem_append_right _ h)))) hown hK.1 hP 0 rfl rfl 1 (by decide) (hts (.fieldLink RX1 9 "CutAtlas$CutTree" "nexts" "[I") (List.mem_of_getElem? (i := 2) rfl)) (fun _ h9 => h9) rfl dB_36_0_46.1.2.1.2 ?_
  refine lv_iconst (v := 0) hx hb dB_36_0_46.1.2.2.1 (by decide) ?_
  refine ct_S hP hD hS hA [ai_ cy ta 12 fx] [3] (by decide) rfl (fun hPc hDw hFc hC_ => ?_)
  refine va_callv (va_runS (As := [.ref ta, .int 0]) (rest := []) ⟨hx, hb, hml, hown, hts⟩ (c_J7_fill_53178 l D cy H.size ta 12 (0 : Int32) fx (by first | with_reducible assumption | assumption | omega)) (va_cwS 2 hts gX1_grow_J7_fill_53178 rfl rfl rfl hd_J7_fill_53178 ⟨Nat.le_of_ble_eq_true rfl, Nat.le_of_ble_eq_true rfl⟩) ⟨bl_, fun U hU hW => ⟨rfl, by rw [hU], by rw [hU]; exact hPc, kk_mv hW hK, hDw⟩⟩ rfl rfl hl.1 rfl (lv_room (Nat.le_of_ble_eq_true rfl)) dB_36_0_46.1.2.2.2 ⟨Nat.le_of_ble_eq_true rfl, Nat.le_of_ble_eq_true rfl⟩) hS (fun q _ h => hFc q h) hFc (fun u t H locs ht hvm hw hB hz1 hk1 hS => ?_)
  obtain ⟨e1_6, g_7, hP1, hD1⟩ := hB
  rw [ht] at hP1
  obtain ⟨hP, hD⟩ := va_join (wr := [ob1_0_ xt xc ta tb, ob0_0_ xc xn xk clo cro c4 c5 c6 c7 c8, ob3_0_ xn vp vn n1 n2 n3 n4 n5, ai_ cy tb 12 fu, ai_ cy n1 40 fk, ai_ cy n2 40 fs, ai_ cy n3 40 fe, ai_ cy n4 40 fw, aq_ cy 6 clo 12 (gf_ rl), ai_ cy (rl 0) 12 (eMl_2 0), ai_ cy (rl 1) 12 (eMl_2 1), ai_ cy (rl 2) 12 (eMl_2 2), ai_ cy (rl 3) 12 (eMl_2 3), ai_ cy (rl 4) 12 (eMl_2 4), ai_ cy (rl 5) 12 (eMl_2 5), ai_ cy (rl 6) 12 (eMl_2 6), ai_ cy (rl 7) 12 (eMl_2 7), ai_ cy (rl 8) 12 (eMl_2 8), ai_ cy (rl 9) 12 (eMl_2 9), ai_ cy (rl 10) 12 (eMl_2 10), ai_ cy (rl 11) 12 (eMl_2 11), aq_ cy 6 cro 12 (gf_ rr), ai_ cy (rr 0) 12 (Mr 0), ai_ cy (rr 1) 12 (Mr 1), ai_ cy (rr 2) 12 (Mr 2), ai_ cy (rr 3) 12 (Mr 3), ai_ cy (rr 4) 12 (Mr 4), ai_ cy (rr 5) 12 (Mr 5), ai_ cy (rr 6) 12 (Mr 6), ai_ cy (rr 7) 12 (Mr 7), ai_ cy (rr 8) 12 (Mr 8), ai_ cy (rr 9) 12 (Mr 9), ai_ cy (rr 10) 12 (Mr 10), ai_ cy (rr 11) 12 (Mr 11), ai_ cy c4 40 f4, ai_ cy c5 40 e5_3, ai_ cy c6 40 e6_4, ai_ cy c7 12 f7, ai_ cy c8 12 f8, aq_ cy 3 xk 5 (kf_ k0 k1 k2 k3 k4), ob6_0_ k0, ob5_0_ k1, ob9_0_ k2, ob2_0_ k3, ob8_0_ k4]) (w1 := [ai_ cy ta 12 e1_6]) hP hD [3] [0, 1, 2, 4, 5, 6, 7, 8, 9, 10, 11, 12, 13, 14, 15, 16, 17, 18, 19, 20, 21, 22, 23, 24, 25, 26, 27, 28, 29, 30, 31, 32, 33, 34, 35, 36, 37, 38, 39, 40, 41, 42, 43, 44, 45] hC_ rfl (by decide +kernel) (by decide +kernel) hk1 hFc hP1 hD1
  refine pd_S hP hD [ob1_0_ xt xc ta tb, ob0_0_ xc xn xk clo cro c4 c5 c6 c7 c8, ob3_0_ xn vp vn n1 n2 n3 n4 n5, ai_ cy ta 12 e1_6, ai_ cy tb 12 fu, ai_ cy n1 40 fk, ai_ cy n2 40 fs, ai_ cy n3 40 fe, ai_ cy n4 40 fw, aq_ cy 6 clo 12 (gf_ rl), ai_ cy (rl 0) 12 (eMl_2 0), ai_ cy (rl 1) 12 (eMl_2 1), ai_ cy (rl 2) 12 (eMl_2 2), ai_ cy (rl 3) 12 (eMl_2 3), ai_ cy (rl 4) 12 (eMl_2 4), ai_ cy (rl 5) 12 (eMl_2 5), ai_ cy (rl 6) 12 (eMl_2 6), ai_ cy (rl 7) 12 (eMl_2 7), ai_ cy (rl 8) 12 (eMl_2 8), ai_ cy (rl 9) 12 (eMl_2 9), ai_ cy (rl 10) 12 (eMl_2 10), ai_ cy (rl 11) 12 (eMl_2 11), aq_ cy 6 cro 12 (gf_ rr), ai_ cy (rr 0) 12 (Mr 0), ai_ cy (rr 1) 12 (Mr 1), ai_ cy (rr 2) 12 (Mr 2), ai_ cy (rr 3) 12 (Mr 3), ai_ cy (rr 4) 12 (Mr 4), ai_ cy (rr 5) 12 (Mr 5), ai_ cy (rr 6) 12 (Mr 6), ai_ cy (rr 7) 12 (Mr 7), ai_ cy (rr 8) 12 (Mr 8), ai_ cy (rr 9) 12 (Mr 9), ai_ cy (rr 10) 12 (Mr 10), ai_ cy (rr 11) 12 (Mr 11), ai_ cy c4 40 f4, ai_ cy c5 40 e5_3, ai_ cy c6 40 e6_4, ai_ cy c7 12 f7, ai_ cy c8 12 f8, aq_ cy 3 xk 5 (kf_ k0 k1 k2 k3 k4), ob6_0_ k0, ob5_0_ k1, ob9_0_ k2, ob2_0_ k3, ob8_0_ k4] [0, 1, 2, 45, 3, 4, 5, 6, 7, 8, 9, 10, 11, 12, 13, 14, 15, 16, 17, 18, 19, 20, 21, 22, 23, 24, 25, 26, 27, 28, 29, 30, 31, 32, 33, 34, 35, 36, 37, 38, 39, 40, 41, 42, 43, 44] (by decide +kernel) rfl (fun hP hD => ?_)
  refine lv_aload_n hx hb dB_36_0_46.2.1.1.1 rfl (lv_at hl 0 rfl) ?_
  refine va_get (ci := 1) (v := .ref ta) (C := RX1) (T := TX1) (N := 3) hx hb hts (fun _ h => List.mem_cons_of_mem _ (List.mem_append_left _ (List.mem_append_left _ (List.mem_append_right _ h)))) hown hK.1 hP 0 rfl rfl 1 (by decide) (hts (.fieldLink RX1 9 "CutAtlas$CutTree" "nexts" "[I") (List.mem_of_getElem? (i := 2) rfl)) (fun _ h9 => h9) rfl dB_36_0_46.2.1.1.2 ?_
  refine lv_iconst (v := 0) hx hb dB_36_0_46.2.1.2.1 (by decide) ?_
  refine lv_bipush (v := (-9)) hx hb dB_36_0_46.2.1.2.2 (by decide) ?_
  have h_8 : vp_in (0 : Int32) 12 := by unfold vp_in; decide
  refine va_iast hx hb hK.1 hP hD hS 3 0 rfl rfl (i := 0) h_8 dB_36_0_46.2.2.1.1 (fun H locs hP hD hS => ?_)
  obtain ⟨f_9, ef_9⟩ : ∃ g : Nat → Int32, g = upd e1_6 (0 : Int32).toNatClampNeg ((-9) : Int32) := ⟨_, rfl⟩
  refine pd_K (D := D) (cl := vwCl) (H := H) (A := A) [ob1_0_ xt xc ta tb, ob0_0_ xc xn xk clo cro c4 c5 c6 c7 c8, ob3_0_ xn vp vn n1 n2 n3 n4 n5, ai_ cy ta 12 f_9, ai_ cy tb 12 fu, ai_ cy n1 40 fk, ai_ cy n2 40 fs, ai_ cy n3 40 fe, ai_ cy n4 40 fw, aq_ cy 6 clo 12 (gf_ rl), ai_ cy (rl 0) 12 (eMl_2 0), ai_ cy (rl 1) 12 (eMl_2 1), ai_ cy (rl 2) 12 (eMl_2 2), ai_ cy (rl 3) 12 (eMl_2 3), ai_ cy (rl 4) 12 (eMl_2 4), ai_ cy (rl 5) 12 (eMl_2 5), ai_ cy (rl 6) 12 (eMl_2 6), ai_ cy (rl 7) 12 (eMl_2 7), ai_ cy (rl 8) 12 (eMl_2 8), ai_ cy (rl 9) 12 (eMl_2 9), ai_ cy (rl 10) 12 (eMl_2 10), ai_ cy (rl 11) 12 (eMl_2 11), aq_ cy 6 cro 12 (gf_ rr), ai_ cy (rr 0) 12 (Mr 0), ai_ cy (rr 1) 12 (Mr 1), ai_ cy (rr 2) 12 (Mr 2), ai_ cy (rr 3) 12 (Mr 3), ai_ cy (rr 4) 12 (Mr 4), ai_ cy (rr 5) 12 (Mr 5), ai_ cy (rr 6) 12 (Mr 6), ai_ cy (rr 7) 12 (Mr 7), ai_ cy (rr 8) 12 (Mr 8), ai_ cy (rr 9) 12 (Mr 9), ai_ cy (rr 10) 12 (Mr 10), ai_ cy (rr 11) 12 (Mr 11), ai_ cy c4 40 f4, ai_ cy c5 40 e5_3, ai_ cy c6 40 e6_4, ai_ cy c7 12 f7, ai_ cy c8 12 f8, aq_ cy 3 xk 5 (kf_ k0 k1 k2 k3 k4), ob6_0_ k0, ob5_0_ k1, ob9_0_ k2, ob2_0_ k3, ob8_0_ k4] (by rw [ef_9]; exact hP) (by rw [ef_9]; exact hD) (fun hP hD => ?_)
  have h1_ : trs f_9 (1 : Int32).toNatClampNeg := trs_one g_7 ef_9
  refine lv_aload_n hx hb dB_36_0_46.2.2.1.2 rfl (lv_at hl 0 rfl) ?_
  refine va_get (ci := 1) (v := .ref tb) (C := RX1) (T := TX1) (N := 3) hx hb hts (fun _ h => List.mem_cons_of_mem _ (List.mem_append_left _ (List.mem_append_left _ (List.mem_append_right _ h)))) hown hK.1 hP 0 rfl rfl 2 (by decide) (hts (.fieldLink RX1 15 "CutAtlas$CutTree" "numbers" "[I") (List.mem_of_getElem? (i := 3) rfl)) (fun _ h9 => h9) rfl dB_36_0_46.2.2.2.1 ?_
  refine lv_iconst (v := 0) hx hb dB_36_0_46.2.2.2.2 (by decide) ?_
  refine lv_bipush (v := (-9)) hx hb dB_36_0_47.1.1.1.1 (by decide) ?_
  refine va_iast hx hb hK.1 hP hD hS 4 0 rfl rfl (i := 0) h_8 dB_36_0_47.1.1.1.2 (fun H locs hP hD hS => ?_)
  obtain ⟨f_11, ef_11⟩ : ∃ g : Nat → Int32, g = upd fu (0 : Int32).toNatClampNeg ((-9) : Int32) := ⟨_, rfl⟩
  refine pd_K (D := D) (cl := vwCl) (H := H) (A := A) [ob1_0_ xt xc ta tb, ob0_0_ xc xn xk clo cro c4 c5 c6 c7 c8, ob3_0_ xn vp vn n1 n2 n3 n4 n5, ai_ cy ta 12 f_9, ai_ cy tb 12 f_11, ai_ cy n1 40 fk, ai_ cy n2 40 fs, ai_ cy n3 40 fe, ai_ cy n4 40 fw, aq_ cy 6 clo 12 (gf_ rl), ai_ cy (rl 0) 12 (eMl_2 0), ai_ cy (rl 1) 12 (eMl_2 1), ai_ cy (rl 2) 12 (eMl_2 2), ai_ cy (rl 3) 12 (eMl_2 3), ai_ cy (rl 4) 12 (eMl_2 4), ai_ cy (rl 5) 12 (eMl_2 5), ai_ cy (rl 6) 12 (eMl_2 6), ai_ cy (rl 7) 12 (eMl_2 7), ai_ cy (rl 8) 12 (eMl_2 8), ai_ cy (rl 9) 12 (eMl_2 9), ai_ cy (rl 10) 12 (eMl_2 10), ai_ cy (rl 11) 12 (eMl_2 11), aq_ cy 6 cro 12 (gf_ rr), ai_ cy (rr 0) 12 (Mr 0), ai_ cy (rr 1) 12 (Mr 1), ai_ cy (rr 2) 12 (Mr 2), ai_ cy (rr 3) 12 (Mr 3), ai_ cy (rr 4) 12 (Mr 4), ai_ cy (rr 5) 12 (Mr 5), ai_ cy (rr 6) 12 (Mr 6), ai_ cy (rr 7) 12 (Mr 7), ai_ cy (rr 8) 12 (Mr 8), ai_ cy (rr 9) 12 (Mr 9), ai_ cy (rr 10) 12 (Mr 10), ai_ cy (rr 11) 12 (Mr 11), ai_ cy c4 40 f4, ai_ cy c5 40 e5_3, ai_ cy c6 40 e6_4, ai_ cy c7 12 f7, ai_ cy c8 12 f8, aq_ cy 3 xk 5 (kf_ k0 k1 k2 k3 k4), ob6_0_ k0, ob5_0_ k1, ob9_0_ k2, ob2_0_ k3, ob8_0_ k4] (by rw [ef_11]; exact hP) (by rw [ef_11]; exact hD) (fun hP hD => ?_)
  refine lv_iconst (v := 1) hx hb dB_36_0_47.1.1.2.1 (by decide) ?_
  refine lv_istore_n (lv' := [(1, .int 1), (0, .ref xt)]) hx hb dB_36_0_47.1.1.2.2 rfl hl (by decide) rfl (fun ls hl => ?_)
  suffices LOOP_12 : ∀ (n_12 : Nat) (x1_12 : Int32) (c_ta_12 : Nat → Int32) (c_tb_12 : Nat → Int32) (m_rr_12 : Nat → Nat → Int32) (c_c4_12 : Nat → Int32) (c_c7_12 : Nat → Int32) (c_c8_12 : Nat → Int32) (H : Heap) (locs : List Loc) (ls : Array Slot), 12 - x1_12.toInt < (n_12 : Int) → (1 ≤ x1_12.toInt) → (x1_12.toInt ≤ 12) → (trs c_ta_12 x1_12.toNatClampNeg) → (rng c_c7_12 12 (0) (11)) → (rng c_c8_12 12 (0) (11)) → pd_2 D vwCl A [ob1_0_ xt xc ta tb, ob0_0_ xc xn xk clo cro c4 c5 c6 c7 c8, ob3_0_ xn vp vn n1 n2 n3 n4 n5, ai_ cy ta 12 c_ta_12, ai_ cy tb 12 c_tb_12, ai_ cy n1 40 fk, ai_ cy n2 40 fs, ai_ cy n3 40 fe, ai_ cy n4 40 fw, aq_ cy 6 clo 12 (gf_ rl), ai_ cy (rl 0) 12 (eMl_2 0), ai_ cy (rl 1) 12 (eMl_2 1), ai_ cy (rl 2) 12 (eMl_2 2), ai_ cy (rl 3) 12 (eMl_2 3), ai_ cy (rl 4) 12 (eMl_2 4), ai_ cy (rl 5) 12 (eMl_2 5), ai_ cy (rl 6) 12 (eMl_2 6), ai_ cy (rl 7) 12 (eMl_2 7), ai_ cy (rl 8) 12 (eMl_2 8), ai_ cy (rl 9) 12 (eMl_2 9), ai_ cy (rl 10) 12 (eMl_2 10), ai_ cy (rl 11) 12 (eMl_2 11), aq_ cy 6 cro 12 (gf_ rr), ai_ cy (rr 0) 12 (m_rr_12 0), ai_ cy (rr 1) 12 (m_rr_12 1), ai_ cy (rr 2) 12 (m_rr_12 2), ai_ cy (rr 3) 12 (m_rr_12 3), ai_ cy (rr 4) 12 (m_rr_12 4), ai_ cy (rr 5) 12 (m_rr_12 5), ai_ cy (rr 6) 12 (m_rr_12 6), ai_ cy (rr 7) 12 (m_rr_12 7), ai_ cy (rr 8) 12 (m_rr_12 8), ai_ cy (rr 9) 12 (m_rr_12 9), ai_ cy (rr 10) 12 (m_rr_12 10), ai_ cy (rr 11) 12 (m_rr_12 11), ai_ cy c4 40 c_c4_12, ai_ cy c5 40 e5_3, ai_ cy c6 40 e6_4, ai_ cy c7 12 c_c7_12, ai_ cy c8 12 c_c8_12, aq_ cy 3 xk 5 (kf_ k0 k1 k2 k3 k4), ob6_0_ k0, ob5_0_ k1, ob9_0_ k2, ob2_0_ k3, ob8_0_ k4] H → va_S A s.heap H locs → lv_has ls 2 [(1, .int x1_12), (0, .ref xt)] → W p l e ({ frames := 5, cells := 0, slots := 0, locals := 113 } : Room) s m (([.ref xt] : List Value).toArray) below meth c H locs 0 0 Q (F0 m 35 ls []) from LOOP_12 ((12 - (1 : Int32).toInt).toNat + 1) (1 : Int32) f_9 f_11 Mr f4 f7 f8 _ _ _ (by omega) (by first | with_reducible assumption | omega | assumption) (by first | with_reducible assumption | omega | assumption) (by first | with_reducible assumption | assumption | exact h1_ | exact trs_nx g_7 (by omega) (by omega)) (by first | with_reducible assumption | assumption | exact rng_zero (by omega) (by omega) | exact orng_zero) (by first | with_reducible assumption | assumption | exact rng_zero (by omega) (by omega) | exact orng_zero) ⟨hP, hD⟩ hS (lv_sub hl [0, 1] rfl)
  intro n_12
  induction n_12 with
  | zero =>
    intro x1_12 c_ta_12 c_tb_12 m_rr_12 c_c4_12 c_c7_12 c_c8_12 H locs ls hm v0_12 v1_12 v2_12 rc_c7_12 rc_c8_12 hPD hS hl; obtain ⟨hP, hD⟩ := hPD
    exact absurd hm (by omega)
  | succ n_12 ih_12 =>
    intro x1_12 c_ta_12 c_tb_12 m_rr_12 c_c4_12 c_c7_12 c_c8_12 H locs ls hm v0_12 v1_12 v2_12 rc_c7_12 rc_c8_12 hPD hS hl; obtain ⟨hP, hD⟩ := hPD
    refine lv_iload_n hx hb dB_36_0_47.1.2.1.1 rfl (lv_at hl 0 rfl) ?_
    refine lv_aload_n hx hb dB_36_0_47.1.2.1.2 rfl (lv_at hl 1 rfl) ?_
    refine va_get (ci := 1) (v := .ref xc) (C := RX1) (T := TX1) (N := 3) hx hb hts (fun _ h => List.mem_cons_of_mem _ (List.mem_append_left _ (List.mem_append_left _ (List.mem_append_right _ h)))) hown hK.1 hP 0 rfl rfl 0 (by decide) (hts (.fieldLink RX1 18 "CutAtlas$CutTree" "current" "LCutAtlas$Current;") (List.mem_of_getElem? (i := 1) rfl)) (fun _ h9 => h9) rfl dB_36_0_47.1.2.2.1 ?_
    refine va_get (ci := 0) (v := .ref xn) (C := RX0) (T := TX0) (N := 9) hx hb hts (fun _ h => List.mem_cons_of_mem _ (List.mem_append_left _ (List.mem_append_right _ h))) hown hK.1 hP 1 rfl rfl 0 (by decide) (hts (.fieldLink RX1 34 "CutAtlas$Current" "net" "LCutAtlas$Net;") (List.mem_of_getElem? (i := 4) rfl)) (fun _ h9 => h9) rfl dB_36_0_47.1.2.2.2 ?_
    refine va_get (ci := 3) (v := .int vp) (C := RX3) (T := TX3) (N := 7) hx hb hts (fun _ h => List.mem_cons_of_mem _ (List.mem_append_right _ h)) hown hK.1 hP 2 rfl rfl 0 (by decide) (hts (.fieldLink RX1 38 "CutAtlas$Net" "places" "I") (List.mem_of_getElem? (i := 5) rfl)) (fun _ h9 => h9) rfl dB_36_0_47.2.1.1.1 ?_
    refine lv_icmp_ge (tgt := 60) hx hb dB_36_0_47.2.1.1.2 (by decide) (fun c_13 => ?_) (fun c_13 => ?_)
    · have t_13 : vp.toInt ≤ x1_12.toInt := Int32.le_iff_toInt_le.mp c_13
      rw [hQ]
      exact W.vret hx hb hr (fun t ht hW => ⟨⟨(), rfl, trivial, m_rr_12, c_ta_12, c_tb_12, c_c4_12, c_c7_12, c_c8_12, eMl_2, e5_3, e6_4, (trs_trd v2_12 (by have c_ := clI (i := x1_12) (by omega); omega)), (by first | with_reducible assumption | assumption | exact rng_zero (by omega) (by omega) | omega), (by first | with_reducible assumption | assumption | exact rng_zero (by omega) (by omega) | omega), by rw [ht]; exact hP, hD⟩, hS.F ht⟩) hS.2.2 dB_36_0_47.2.2.2.2
    · have t_13 : ¬ vp.toInt ≤ x1_12.toInt := fun h => c_13 (Int32.le_iff_toInt_le.mpr h)
      refine lv_aload_n hx hb dB_36_0_47.2.1.2.1 rfl (lv_at hl 1 rfl) ?_
      refine lv_iload_n hx hb dB_36_0_47.2.1.2.2 rfl (lv_at hl 0 rfl) ?_
      refine ct_S hP hD hS hA [ob1_0_ xt xc ta tb, ob0_0_ xc xn xk clo cro c4 c5 c6 c7 c8, ob3_0_ xn vp vn n1 n2 n3 n4 n5, ai_ cy ta 12 c_ta_12, ai_ cy tb 12 c_tb_12, ai_ cy n2 40 fs, ai_ cy n3 40 fe, aq_ cy 6 clo 12 (gf_ rl), ai_ cy (rl 0) 12 (eMl_2 0), ai_ cy (rl 1) 12 (eMl_2 1), ai_ cy (rl 2) 12 (eMl_2 2), ai_ cy (rl 3) 12 (eMl_2 3), ai_ cy (rl 4) 12 (eMl_2 4), ai_ cy (rl 5) 12 (eMl_2 5), ai_ cy (rl 6) 12 (eMl_2 6), ai_ cy (rl 7) 12 (eMl_2 7), ai_ cy (rl 8) 12 (eMl_2 8), ai_ cy (rl 9) 12 (eMl_2 9), ai_ cy (rl 10) 12 (eMl_2 10), ai_ cy (rl 11) 12 (eMl_2 11), aq_ cy 6 cro 12 (gf_ rr), ai_ cy (rr 0) 12 (m_rr_12 0), ai_ cy (rr 1) 12 (m_rr_12 1), ai_ cy (rr 2) 12 (m_rr_12 2), ai_ cy (rr 3) 12 (m_rr_12 3), ai_ cy (rr 4) 12 (m_rr_12 4), ai_ cy (rr 5) 12 (m_rr_12 5), ai_ cy (rr 6) 12 (m_rr_12 6), ai_ cy (rr 7) 12 (m_rr_12 7), ai_ cy (rr 8) 12 (m_rr_12 8), ai_ cy (rr 9) 12 (m_rr_12 9), ai_ cy (rr 10) 12 (m_rr_12 10), ai_ cy (rr 11) 12 (m_rr_12 11), ai_ cy c4 40 c_c4_12, ai_ cy c5 40 e5_3, ai_ cy c6 40 e6_4, ai_ cy c7 12 c_c7_12, ai_ cy c8 12 c_c8_12] [0, 1, 2, 3, 4, 6, 7, 9, 10, 11, 12, 13, 14, 15, 16, 17, 18, 19, 20, 21, 22, 23, 24, 25, 26, 27, 28, 29, 30, 31, 32, 33, 34, 35, 36, 37, 38, 39] (by decide +kernel) rfl (fun hPc hDw hFc hC_ => ?_)
      refine va_callv (va_runV (As := [.int x1_12]) (rest := []) ⟨hx, hb, hml, hown, hts⟩ (c_X1_hang l D cy H.size xt ta tb xc xk clo cro c4 c5 c6 c7 c8 xn n1 n2 n3 n4 n5 vp vn c_ta_12 c_tb_12 fs fe rl eMl_2 rr m_rr_12 c_c4_12 e5_3 e6_4 c_c7_12 c_c8_12 x1_12 (by first | with_reducible assumption | omega | assumption) (by first | with_reducible assumption | omega | assumption) (by first | with_reducible assumption | omega | assumption) (by first | with_reducible assumption | assumption | omega) (by first | with_reducible assumption | assumption | omega) (by first | with_reducible assumption | assumption | omega)) (cwV 1 hts gX1_grow_X1_hang rfl rfl rfl ⟨rfl, hd_X1_hang⟩ ⟨Nat.le_of_ble_eq_true rfl, Nat.le_of_ble_eq_true rfl⟩) ⟨bl_g, va_recvX hK.1 hP (ci := 1) (q0 := 0) rfl rfl, fun U hU hW => ⟨rfl, by rw [hU], by rw [hU]; exact hPc, ⟨kk_mv hW hK, arrOfT_moved hW.alike hG⟩, hDw⟩⟩ rfl rfl hl.1 rfl (lv_room (Nat.le_of_ble_eq_true rfl)) dB_36_0_47.2.2.1.1 ⟨Nat.le_of_ble_eq_true rfl, Nat.le_of_ble_eq_true rfl⟩) hS (fun q _ h => hFc q h) hFc (fun u t H locs ht hvm hw hB hz1 hk1 hS => ?_)
      obtain ⟨eMr_15, efx_16, efu_17, e4_18, e7_19, e8_20, g_21, g_22, g_23, hP1, hD1⟩ := hB
      rw [ht] at hP1
      obtain ⟨hP, hD⟩ := va_join (wr := [ai_ cy n1 40 fk, ai_ cy n4 40 fw, aq_ cy 3 xk 5 (kf_ k0 k1 k2 k3 k4), ob6_0_ k0, ob5_0_ k1, ob9_0_ k2, ob2_0_ k3, ob8_0_ k4]) (w1 := [ob1_0_ xt xc ta tb, ob0_0_ xc xn xk clo cro c4 c5 c6 c7 c8, ob3_0_ xn vp vn n1 n2 n3 n4 n5, ai_ cy ta 12 efx_16, ai_ cy tb 12 efu_17, ai_ cy n2 40 fs, ai_ cy n3 40 fe, aq_ cy 6 clo 12 (gf_ rl), ai_ cy (rl 0) 12 (eMl_2 0), ai_ cy (rl 1) 12 (eMl_2 1), ai_ cy (rl 2) 12 (eMl_2 2), ai_ cy (rl 3) 12 (eMl_2 3), ai_ cy (rl 4) 12 (eMl_2 4), ai_ cy (rl 5) 12 (eMl_2 5), ai_ cy (rl 6) 12 (eMl_2 6), ai_ cy (rl 7) 12 (eMl_2 7), ai_ cy (rl 8) 12 (eMl_2 8), ai_ cy (rl 9) 12 (eMl_2 9), ai_ cy (rl 10) 12 (eMl_2 10), ai_ cy (rl 11) 12 (eMl_2 11), aq_ cy 6 cro 12 (gf_ rr), ai_ cy (rr 0) 12 (eMr_15 0), ai_ cy (rr 1) 12 (eMr_15 1), ai_ cy (rr 2) 12 (eMr_15 2), ai_ cy (rr 3) 12 (eMr_15 3), ai_ cy (rr 4) 12 (eMr_15 4), ai_ cy (rr 5) 12 (eMr_15 5), ai_ cy (rr 6) 12 (eMr_15 6), ai_ cy (rr 7) 12 (eMr_15 7), ai_ cy (rr 8) 12 (eMr_15 8), ai_ cy (rr 9) 12 (eMr_15 9), ai_ cy (rr 10) 12 (eMr_15 10), ai_ cy (rr 11) 12 (eMr_15 11), ai_ cy c4 40 e4_18, ai_ cy c5 40 e5_3, ai_ cy c6 40 e6_4, ai_ cy c7 12 e7_19, ai_ cy c8 12 e8_20]) hP hD [0, 1, 2, 3, 4, 6, 7, 9, 10, 11, 12, 13, 14, 15, 16, 17, 18, 19, 20, 21, 22, 23, 24, 25, 26, 27, 28, 29, 30, 31, 32, 33, 34, 35, 36, 37, 38, 39] [5, 8, 40, 41, 42, 43, 44, 45] hC_ rfl (by decide) (by decide) hk1 hFc hP1 hD1
      refine pd_S hP hD [ob1_0_ xt xc ta tb, ob0_0_ xc xn xk clo cro c4 c5 c6 c7 c8, ob3_0_ xn vp vn n1 n2 n3 n4 n5, ai_ cy ta 12 efx_16, ai_ cy tb 12 efu_17, ai_ cy n1 40 fk, ai_ cy n2 40 fs, ai_ cy n3 40 fe, ai_ cy n4 40 fw, aq_ cy 6 clo 12 (gf_ rl), ai_ cy (rl 0) 12 (eMl_2 0), ai_ cy (rl 1) 12 (eMl_2 1), ai_ cy (rl 2) 12 (eMl_2 2), ai_ cy (rl 3) 12 (eMl_2 3), ai_ cy (rl 4) 12 (eMl_2 4), ai_ cy (rl 5) 12 (eMl_2 5), ai_ cy (rl 6) 12 (eMl_2 6), ai_ cy (rl 7) 12 (eMl_2 7), ai_ cy (rl 8) 12 (eMl_2 8), ai_ cy (rl 9) 12 (eMl_2 9), ai_ cy (rl 10) 12 (eMl_2 10), ai_ cy (rl 11) 12 (eMl_2 11), aq_ cy 6 cro 12 (gf_ rr), ai_ cy (rr 0) 12 (eMr_15 0), ai_ cy (rr 1) 12 (eMr_15 1), ai_ cy (rr 2) 12 (eMr_15 2), ai_ cy (rr 3) 12 (eMr_15 3), ai_ cy (rr 4) 12 (eMr_15 4), ai_ cy (rr 5) 12 (eMr_15 5), ai_ cy (rr 6) 12 (eMr_15 6), ai_ cy (rr 7) 12 (eMr_15 7), ai_ cy (rr 8) 12 (eMr_15 8), ai_ cy (rr 9) 12 (eMr_15 9), ai_ cy (rr 10) 12 (eMr_15 10), ai_ cy (rr 11) 12 (eMr_15 11), ai_ cy c4 40 e4_18, ai_ cy c5 40 e5_3, ai_ cy c6 40 e6_4, ai_ cy c7 12 e7_19, ai_ cy c8 12 e8_20, aq_ cy 3 xk 5 (kf_ k0 k1 k2 k3 k4), ob6_0_ k0, ob5_0_ k1, ob9_0_ k2, ob2_0_ k3, ob8_0_ k4] [8, 9, 10, 11, 12, 0, 13, 14, 1, 15, 16, 17, 18, 19, 20, 21, 22, 23, 24, 25, 26, 27, 28, 29, 30, 31, 32, 33, 34, 35, 36, 37, 38, 39, 40, 41, 42, 43, 44, 45, 2, 3, 4, 5, 6, 7] (by decide +kernel) rfl (fun hP hD => ?_)
      obtain ⟨y_24, ey_24⟩ : ∃ y : Int32, y = x1_12 + 1 := ⟨_, rfl⟩
      have ty_24 : y_24.toInt = x1_12.toInt + (1 : Int32).toInt := by rw [ey_24]; exact addI (by omega) (by omega)
      refine lv_iinc (v := y_24) (lv' := [(1, .int y_24), (0, .ref xt)]) hx hb dB_36_0_47.2.2.1.2 hl (k := 0) rfl (by rw [ey_24]; rfl) (by decide) rfl (fun ls hl => ?_)
      refine lv_goto (tgt := 35) hx hb dB_36_0_47.2.2.2.1 (by decide) ?_
      exact ih_12 y_24 efx_16 efu_17 eMr_15 e4_18 e7_19 e8_20 _ _ _ (by omega) (by first | with_reducible assumption | omega | assumption) (by first | with_reducible assumption | omega | assumption) (by first | with_reducible assumption | assumption | exact h1_ | exact trs_nx g_21 (by omega) (by omega)) (by first | with_reducible assumption | assumption | exact rng_zero (by omega) (by omega) | exact orng_zero) (by first | with_reducible assumption | assumption | exact rng_zero (by omega) (by omega) | exact orng_zero) ⟨hP, hD⟩ hS (lv_sub hl [0, 1] rfl)
end

section
/-! ===== the reference's cheapest: costs of a step, and that its search ends ===== -/
/-- what a line costs to be wider by one; -9: it can't be -/
noncomputable def cst (k p : Int) : Int := if k = 3 then p else if k = 4 then p + 1 else -9
theorem cst_rng {k p : Int} (h0 : 0 ≤ p) (h1 : p ≤ 100) : cst k p = -9 ∨ (0 ≤ cst k p ∧ cst k p ≤ 101) := by
  unfold cst
  (repeat' split) <;> omega
noncomputable def stI (c w0 w1 f : Int) : Int := if f < 0 ∧ w0 < -f then -c else if f < w1 then 0 else if c = -9 then 1000000 else c
noncomputable def amI (w0 w1 f : Int) : Int := if f < 0 ∧ w0 < -f then -f - w0 else if f < w1 then w1 - f else 1000000
theorem stI_cs (c w0 w1 f : Int) : ((f < 0 ∧ w0 < -f) ∧ stI c w0 w1 f = -c) ∨ (¬ (f < 0 ∧ w0 < -f) ∧ f < w1 ∧ stI c w0 w1 f = 0) ∨ (¬ (f < 0 ∧ w0 < -f) ∧ w1 ≤ f ∧ c = -9 ∧ stI c w0 w1 f = 1000000) ∨ (¬ (f < 0 ∧ w0 < -f) ∧ w1 ≤ f ∧ c ≠ -9 ∧ stI c w0 w1 f = c) := by
  unfold stI
  (repeat' split) <;> omega
theorem amI_cs (w0 w1 f : Int) : ((f < 0 ∧ w0 < -f) ∧ amI w0 w1 f = -f - w0) ∨ (¬ (f < 0 ∧ w0 < -f) ∧ f < w1 ∧ amI w0 w1 f = w1 - f) ∨ (¬ (f < 0 ∧ w0 < -f) ∧ w1 ≤ f ∧ amI w0 w1 f = 1000000) := by
  unfold amI
  (repeat' split) <;> omega
/-- n more over a line, whose step is just what the places differ by -/
theorem st_push {c w0 w1 f n d : Int} (hc : c = -9 ∨ (0 ≤ c ∧ c ≤ 101)) (h0 : 0 ≤ w0) (h1 : 0 ≤ w1) (hd : d = stI c w0 w1 f) (hlt : stI c w0 w1 f < 1000000) (hn : 1 ≤ n) (hna : n ≤ amI w0 w1 f) (hr : c = -9 → -w0 ≤ f ∧ f ≤ w1) :
    (stI c w0 w1 (f + n) < 1000000 → d ≤ stI c w0 w1 (f + n)) ∧ (stI c w1 w0 (-(f + n)) < 1000000 → -d ≤ stI c w1 w0 (-(f + n))) ∧ (c = -9 → -w0 ≤ f + n ∧ f + n ≤ w1) := by
  have a1 := stI_cs c w0 w1 f
  have a2 := stI_cs c w0 w1 (f + n)
  have a3 := stI_cs c w1 w0 (-(f + n))
  have a4 := amI_cs w0 w1 f
  refine ⟨fun h => ?_, fun h => ?_, fun h => ?_⟩
  · rcases a1 with a1 | a1 | a1 | a1 <;> rcases a4 with a4 | a4 | a4 <;> first | (exfalso; omega) | (rcases a2 with a2 | a2 | a2 | a2 <;> omega)
  · rcases a1 with a1 | a1 | a1 | a1 <;> rcases a4 with a4 | a4 | a4 <;> first | (exfalso; omega) | (rcases a3 with a3 | a3 | a3 | a3 <;> omega)
  · rcases a1 with a1 | a1 | a1 | a1 <;> rcases a4 with a4 | a4 | a4 <;> omega
noncomputable def eS (f5 f8 f9 F : Nat → Int32) (j : Nat) (b : Int) : Int := if b ≠ 0 then stI (cst (f5 j).toInt (f9 j).toInt) (rmI (f5 j) (f8 j) 0) (rmI (f5 j) (f8 j) 1) (F j).toInt else stI (cst (f5 j).toInt (f9 j).toInt) (rmI (f5 j) (f8 j) 1) (rmI (f5 j) (f8 j) 0) (-(F j).toInt)
noncomputable def eA (f5 f8 F : Nat → Int32) (j : Nat) (b : Int) : Int := if b ≠ 0 then amI (rmI (f5 j) (f8 j) 0) (rmI (f5 j) (f8 j) 1) (F j).toInt else amI (rmI (f5 j) (f8 j) 1) (rmI (f5 j) (f8 j) 0) (-(F j).toInt)
/-! ===== ways by their costs, in general: edges e < E from x e to y e for c e, those that are ok ===== -/
noncomputable def mnE (g : Nat → Int) : Nat → Int → Int
  | 0, a => a
  | n + 1, a => if g n < mnE g n a then g n else mnE g n a
theorem mnE_le {g : Nat → Int} {a : Int} : ∀ n : Nat, mnE g n a ≤ a
  | 0 => Int.le_refl _
  | n + 1 => by
    have h := mnE_le (g := g) (a := a) n
    show (if g n < mnE g n a then g n else mnE g n a) ≤ a
    split <;> omega
theorem mnE_leg {g : Nat → Int} {a : Int} : ∀ (n i : Nat), i < n → mnE g n a ≤ g i
  | 0, i, h => absurd h (Nat.not_lt_zero _)
  | n + 1, i, h => by
    show (if g n < mnE g n a then g n else mnE g n a) ≤ g i
    by_cases e : i = n
    · subst e
      split <;> omega
    · have q := mnE_leg (g := g) (a := a) n i (by omega)
      split <;> omega
theorem mnE_at {g : Nat → Int} {a : Int} : ∀ n : Nat, mnE g n a = a ∨ ∃ i : Nat, i < n ∧ mnE g n a = g i
  | 0 => Or.inl rfl
  | n + 1 => by
    have h := mnE_at (g := g) (a := a) n
    show (if g n < mnE g n a then g n else mnE g n a) = a ∨ ∃ i : Nat, i < n + 1 ∧ (if g n < mnE g n a then g n else mnE g n a) = g i
    by_cases q : g n < mnE g n a
    · rw [if_pos q]
      exact Or.inr ⟨n, by omega, rfl⟩
    · rw [if_neg q]
      rcases h with h | ⟨i, hi, h⟩
      · exact Or.inl h
      · exact Or.inr ⟨i, by omega, h⟩
section WAYS
variable {x y : Nat → Nat} {c : Nat → Int} {ok : Nat → Bool} {E s P : Nat} {pi : Nat → Int}
noncomputable def dst (x y : Nat → Nat) (c : Nat → Int) (ok : Nat → Bool) (E s : Nat) : Nat → Nat → Int
  | 0, v => if v = s then 0 else 1099511627776
  | k + 1, v => mnE (fun e => if ok e = true ∧ y e = v ∧ dst x y c ok E s k (x e) < 1099511627776 then dst x y c ok E s k (x e) + c e else 1099511627776) E (dst x y c ok E s k v)
theorem dst_s (k v : Nat) : dst x y c ok E s (k + 1) v ≤ dst x y c ok E s k v := mnE_le E
theorem dst_mono : ∀ (k j v : Nat), j ≤ k → dst x y c ok E s k v ≤ dst x y c ok E s j v
  | 0, j, v, h => by
    obtain rfl : j = 0 := by omega
    exact Int.le_refl _
  | k + 1, j, v, h => by
    by_cases e : j = k + 1
    · subst e
      exact Int.le_refl _
    · exact Int.le_trans (dst_s k v) (dst_mono k j v (by omega))
theorem dst_inf (k v : Nat) : dst x y c ok E s k v ≤ 1099511627776 := by
  refine Int.le_trans (dst_mono k 0 v (Nat.zero_le _)) ?_
  show (if v = s then 0 else 1099511627776) ≤ 1099511627776
  split <;> decide
theorem dst_e {k e : Nat} (he : e < E) (ho : ok e = true) (hx : dst x y c ok E s k (x e) < 1099511627776) : dst x y c ok E s (k + 1) (y e) ≤ dst x y c ok E s k (x e) + c e := by
  have h := mnE_leg (g := fun e9 => if ok e9 = true ∧ y e9 = y e ∧ dst x y c ok E s k (x e9) < 1099511627776 then dst x y c ok E s k (x e9) + c e9 else 1099511627776) (a := dst x y c ok E s k (y e)) E e he
  have h2 : dst x y c ok E s (k + 1) (y e) ≤ (if ok e = true ∧ y e = y e ∧ dst x y c ok E s k (x e) < 1099511627776 then dst x y c ok E s k (x e) + c e else 1099511627776) := h
  rw [if_pos ⟨ho, rfl, hx⟩] at h2
  exact h2
theorem dst_at {k v : Nat} (h : dst x y c ok E s (k + 1) v < dst x y c ok E s k v) : ∃ e : Nat, e < E ∧ ok e = true ∧ y e = v ∧ dst x y c ok E s k (x e) < 1099511627776 ∧ dst x y c ok E s (k + 1) v = dst x y c ok E s k (x e) + c e := by
  have a := mnE_at (g := fun e => if ok e = true ∧ y e = v ∧ dst x y c ok E s k (x e) < 1099511627776 then dst x y c ok E s k (x e) + c e else 1099511627776) (a := dst x y c ok E s k v) E
  have i := dst_inf (x := x) (y := y) (c := c) (ok := ok) (E := E) (s := s) k v
  rcases a with a | ⟨e, he, a⟩
  · have a2 : dst x y c ok E s (k + 1) v = dst x y c ok E s k v := a
    omega
  · have a2 : dst x y c ok E s (k + 1) v = (if ok e = true ∧ y e = v ∧ dst x y c ok E s k (x e) < 1099511627776 then dst x y c ok E s k (x e) + c e else 1099511627776) := a
    by_cases q : ok e = true ∧ y e = v ∧ dst x y c ok E s k (x e) < 1099511627776
    · rw [if_pos q] at a2
      exact ⟨e, he, q.1, q.2.1, q.2.2, a2⟩
    · rw [if_neg q] at a2
      omega
theorem dst_lo (hc : ∀ e : Nat, e < E → ok e = true → -101 ≤ c e) : ∀ k v : Nat, -(101 * (k : Int)) ≤ dst x y c ok E s k v
  | 0, v => by
    show -(101 * ((0 : Nat) : Int)) ≤ (if v = s then 0 else 1099511627776)
    split <;> decide
  | k + 1, v => by
    have i := dst_lo hc k
    rcases Int.lt_or_le (dst x y c ok E s (k + 1) v) (dst x y c ok E s k v) with h | h
    · obtain ⟨e, he, ho, _, _, h2⟩ := dst_at h
      have a := i (x e)
      have b := hc e he ho
      omega
    · have a := i v
      omega
theorem dst_hi (hc : ∀ e : Nat, e < E → ok e = true → c e < 1000000) : ∀ k v : Nat, dst x y c ok E s k v < 1099511627776 → dst x y c ok E s k v ≤ 1000000 * (k : Int)
  | 0, v, h => by
    have e0 : dst x y c ok E s 0 v = if v = s then 0 else 1099511627776 := rfl
    rw [e0] at h ⊢
    by_cases e : v = s
    · rw [if_pos e]
      decide
    · rw [if_neg e] at h
      omega
  | k + 1, v, h => by
    rcases Int.lt_or_le (dst x y c ok E s (k + 1) v) (dst x y c ok E s k v) with q | q
    · obtain ⟨e, he, ho, _, hx, h2⟩ := dst_at q
      have a := dst_hi hc k (x e) hx
      have b := hc e he ho
      omega
    · have m := dst_s (x := x) (y := y) (c := c) (ok := ok) (E := E) (s := s) k v
      have a := dst_hi hc k v (by omega)
      omega
theorem dst_pi (hp : ∀ e : Nat, e < E → ok e = true → pi (y e) ≤ pi (x e) + c e) : ∀ k v : Nat, dst x y c ok E s k v < 1099511627776 → pi v - pi s ≤ dst x y c ok E s k v
  | 0, v, h => by
    have e0 : dst x y c ok E s 0 v = if v = s then 0 else 1099511627776 := rfl
    rw [e0] at h ⊢
    by_cases e : v = s
    · rw [if_pos e, e]
      omega
    · rw [if_neg e] at h
      omega
  | k + 1, v, h => by
    rcases Int.lt_or_le (dst x y c ok E s (k + 1) v) (dst x y c ok E s k v) with q | q
    · obtain ⟨e, he, ho, ey, hx, h2⟩ := dst_at q
      have a := dst_pi hp k (x e) hx
      have b := hp e he ho
      rw [ey] at b
      omega
    · have m := dst_s (x := x) (y := y) (c := c) (ok := ok) (E := E) (s := s) k v
      have a := dst_pi hp k v (by omega)
      omega
/-- a way that is better still at the k-th time has k + 1 steps -/
theorem dst_ch (hp : ∀ e : Nat, e < E → ok e = true → pi (y e) ≤ pi (x e) + c e) (hv : ∀ e : Nat, e < E → ok e = true → x e < P ∧ y e < P) : ∀ k v : Nat, dst x y c ok E s (k + 1) v < dst x y c ok E s k v →
    ∃ u : Nat → Nat, u (k + 1) = v ∧ (∀ i : Nat, i ≤ k + 1 → u i < P) ∧ (∀ i : Nat, i ≤ k → dst x y c ok E s (i + 1) (u (i + 1)) < dst x y c ok E s i (u (i + 1))) ∧ (∀ i : Nat, i ≤ k → dst x y c ok E s i (u i) - pi (u i) ≤ dst x y c ok E s (i + 1) (u (i + 1)) - pi (u (i + 1)))
  | 0, v, h => by
    obtain ⟨e, he, ho, ey, hx, h2⟩ := dst_at h
    have b := hp e he ho
    have w := hv e he ho
    refine ⟨fun i => if i = 0 then x e else v, rfl, fun i hi => ?_, fun i hi => ?_, fun i hi => ?_⟩
    · show (if i = 0 then x e else v) < P
      split
      · exact w.1
      · rw [← ey]; exact w.2
    · obtain rfl : i = 0 := by omega
      exact h
    · obtain rfl : i = 0 := by omega
      show dst x y c ok E s 0 (x e) - pi (x e) ≤ dst x y c ok E s (0 + 1) v - pi v
      rw [ey] at b
      omega
  | k + 1, v, h => by
    obtain ⟨e, he, ho, ey, hx, h2⟩ := dst_at h
    have b := hp e he ho
    have w := hv e he ho
    have hlt : dst x y c ok E s (k + 1) (x e) < dst x y c ok E s k (x e) := by
      rcases Int.lt_or_le (dst x y c ok E s (k + 1) (x e)) (dst x y c ok E s k (x e)) with q | q
      · exact q
      · have m := dst_s (x := x) (y := y) (c := c) (ok := ok) (E := E) (s := s) k (x e)
        have d := dst_e (x := x) (y := y) (c := c) (s := s) (k := k) he ho (by omega)
        rw [ey] at d
        omega
    obtain ⟨u, u1, u2, u3, u4⟩ := dst_ch hp hv k (x e) hlt
    have n1 : ∀ i : Nat, i ≤ k + 1 → (fun i => if i ≤ k + 1 then u i else v) i = u i := fun i hi => if_pos hi
    have n2 : (fun i => if i ≤ k + 1 then u i else v) (k + 1 + 1) = v := if_neg (by omega)
    refine ⟨fun i => if i ≤ k + 1 then u i else v, n2, fun i hi => ?_, fun i hi => ?_, fun i hi => ?_⟩
    · by_cases q : i ≤ k + 1
      · rw [n1 i q]
        exact u2 i q
      · rw [show i = k + 1 + 1 by omega, n2, ← ey]
        exact w.2
    · by_cases q : i ≤ k
      · rw [n1 (i + 1) (by omega)]
        exact u3 i q
      · rw [show i = k + 1 by omega, n2]
        exact h
    · by_cases q : i ≤ k
      · rw [n1 (i + 1) (by omega), n1 i (by omega)]
        exact u4 i q
      · rw [show i = k + 1 by omega, n2, n1 (k + 1) (Nat.le_refl _), u1]
        rw [ey] at b
        omega
theorem dst_end (hp : ∀ e : Nat, e < E → ok e = true → pi (y e) ≤ pi (x e) + c e) (hv : ∀ e : Nat, e < E → ok e = true → x e < P ∧ y e < P) {k : Nat} (hk : P ≤ k + 1) (v : Nat) : dst x y c ok E s (k + 1) v = dst x y c ok E s k v := by
  have m := dst_s (x := x) (y := y) (c := c) (ok := ok) (E := E) (s := s) k v
  rcases Int.lt_or_le (dst x y c ok E s (k + 1) v) (dst x y c ok E s k v) with q | q
  · exfalso
    obtain ⟨u, u1, u2, u3, u4⟩ := dst_ch hp hv k v q
    have tel : ∀ d i : Nat, i + d ≤ k + 1 → dst x y c ok E s i (u i) - pi (u i) ≤ dst x y c ok E s (i + d) (u (i + d)) - pi (u (i + d)) := fun d => by
      induction d with
      | zero => exact fun i _ => Int.le_refl _
      | succ d ih =>
        intro i hi
        have a := ih i (by omega)
        have b := u4 (i + d) (by omega)
        exact Int.le_trans a b
    have := pigeon P (k + 2) (fun i => (u i : Int)) (fun i hi => by
      have a := u2 i (by omega)
      exact ⟨by omega, by omega⟩) (fun i j hij hj e => by
      have e2 : u i = u j := by
        have e9 : (u i : Int) = (u j : Int) := e
        omega
      have t := tel (j - i) i (by omega)
      rw [show i + (j - i) = j by omega, e2] at t
      have l := u3 (j - 1) (by omega)
      rw [show j - 1 + 1 = j by omega] at l
      have mo := dst_mono (x := x) (y := y) (c := c) (ok := ok) (E := E) (s := s) (j - 1) i (u j) (by omega)
      omega)
    omega
  · omega
/-! the chain of a search: n steps of p from v to s -/
noncomputable def rcs (p : Nat → Nat) (s : Nat) : Nat → Nat → Prop
  | 0, v => v = s
  | n + 1, v => v ≠ s ∧ rcs p s n (p v)
theorem rcs_un {p : Nat → Nat} {s : Nat} : ∀ (n m v : Nat), rcs p s n v → rcs p s m v → n = m
  | 0, 0, _, _, _ => rfl
  | 0, _ + 1, _, h, h2 => absurd h h2.1
  | _ + 1, 0, _, h, h2 => absurd h2 h.1
  | n + 1, m + 1, v, h, h2 => by rw [rcs_un n m (p v) h.2 h2.2]
noncomputable def itr (p : Nat → Nat) : Nat → Nat → Nat
  | 0, v => v
  | i + 1, v => p (itr p i v)
theorem rcs_itr {p : Nat → Nat} {s n v : Nat} (h : rcs p s n v) : ∀ i : Nat, i ≤ n → rcs p s (n - i) (itr p i v)
  | 0, _ => h
  | i + 1, hi => by
    have a := rcs_itr h i (by omega)
    rw [show n - i = (n - (i + 1)) + 1 by omega] at a
    exact a.2
/-- y hangs at x anew: chains still end at s -/
theorem rcs_up {p q : Nat → Nat} {s P : Nat} {d pi : Nat → Int} {x1 y1 : Nat} {c1 : Int} (hq : ∀ v : Nat, v ≠ y1 → q v = p v) (hqy : q y1 = x1) (hys : y1 ≠ s) (hx1 : x1 < P) (hfx : d x1 < 1099511627776)
    (hc : d x1 + c1 < d y1) (hpi : pi y1 ≤ pi x1 + c1) (ht : ∀ v : Nat, v < P → v ≠ s → d v < 1099511627776 → p v < P ∧ d (p v) < 1099511627776 ∧ d (p v) - pi (p v) ≤ d v - pi v) (hr : ∀ v : Nat, v < P → d v < 1099511627776 → ∃ n : Nat, rcs p s n v) :
    ∀ v : Nat, v < P → (d v < 1099511627776 ∨ v = y1) → ∃ n : Nat, rcs q s n v := by
  have A : ∀ (n v : Nat), v < P → d v < 1099511627776 → rcs p s n v → rcs q s n v ∨ d y1 - pi y1 ≤ d v - pi v := fun n => by
    induction n with
    | zero => exact fun v _ _ h => Or.inl h
    | succ n ih =>
      intro v hv hf h
      by_cases e : v = y1
      · rw [e]
        exact Or.inr (Int.le_refl _)
      · have t := ht v hv h.1 hf
        rcases ih (p v) t.1 t.2.1 h.2 with a | a
        · exact Or.inl ⟨h.1, by rw [hq v e]; exact a⟩
        · exact Or.inr (by omega)
  obtain ⟨m, hm⟩ := hr x1 hx1 hfx
  have hx : rcs q s m x1 := by
    rcases A m x1 hx1 hfx hm with a | a
    · exact a
    · omega
  have B : ∀ (n v : Nat), v < P → d v < 1099511627776 → rcs p s n v → ∃ n2 : Nat, rcs q s n2 v := fun n => by
    induction n with
    | zero => exact fun v _ _ h => ⟨0, h⟩
    | succ n ih =>
      intro v hv hf h
      by_cases e : v = y1
      · exact ⟨m + 1, h.1, by rw [e, hqy]; exact hx⟩
      · have t := ht v hv h.1 hf
        obtain ⟨n2, h2⟩ := ih (p v) t.1 t.2.1 h.2
        exact ⟨n2 + 1, h.1, by rw [hq v e]; exact h2⟩
  intro v hv hf
  by_cases e : v = y1
  · exact ⟨m + 1, by rw [e]; exact hys, by rw [e, hqy]; exact hx⟩
  · rcases hf with hf | hf
    · obtain ⟨n, hn⟩ := hr v hv hf
      exact B n v hv hf hn
    · exact absurd hf e
end WAYS
set_option maxHeartbeats 4000000 in
set_option maxRecDepth 100000 in
theorem c_X12_costs2 (l : Launch) (D : va_G) (cy : Nat → ClassId) (sz : Nat) (mo : Nat) (g5 : Nat) (g6 : Nat) (g7 : Nat) (g8 : Nat) (g9 : Nat) (g10 : Nat) (g12 : Nat) (g13 : Nat) (g14 : Nat) (g15 : Nat) (g16 : Nat) (g17 : Nat) (g18 : Nat) (g19 : Nat) (g20 : Nat) (g22 : Nat) (g23 : Nat) (g24 : Nat) (g29 : Nat) (g30 : Nat) (g31 : Nat) (g32 : Nat) (g33 : Nat) (s0 : Int32) (s1 : Int32) (s3 : Int32) (s4 : Int32) (s11 : Int32) (s21 : Int32) (s25 : Int32) (s26 : Int32) (s27 : Int32) (s28 : Int32) (t2 : Int64) (f5 : Nat → Int32) (f9 : Nat → Int32) (a1 : Int32) (q1 : 0 ≤ a1.toInt ∧ a1.toInt < 40) (r_f9 : rng f9 40 (0) (100)) : Met l yX12_costs wsX12_costs ({ frames := 0, cells := 0, slots := 0, locals := 0 }) (va_Pc [.ref mo, .int a1] (fun U => U.heap.size = sz ∧ va_P D vwCl [ob12_0_ mo s0 s1 t2 s3 s4 g5 g6 g7 g8 g9 g10 s11 g12 g13 g14 g15 g16 g17 g18 g19 g20 s21 g22 g23 g24 s25 s26 s27 s28 g29 g30 g31 g32 g33, ai_ cy g5 40 f5, ai_ cy g9 40 f9] U.heap ∧ kk_ D cy U ∧ va_D (fun _ => True) [ob12_0_ mo s0 s1 t2 s3 s4 g5 g6 g7 g8 g9 g10 s11 g12 g13 g14 g15 g16 g17 g18 g19 g20 s21 g22 g23 g24 s25 s26 s27 s28 g29 g30 g31 g32 g33, ai_ cy g5 40 f5, ai_ cy g9 40 f9])) (va_Qi (fun (r : Int32) (_ : Unit) => (r.toInt = cst (f5 a1.toNatClampNeg).toInt (f9 a1.toNatClampNeg).toInt)) (fun (_ : Unit) (_ : State) => True) (va_A [] sz)) 0 0 (va_A [] sz) := by
  refine ofQ (cc := cX12_costs) (maxL := 2) (ret := (some .int)) (by decide) rfl ?_
  intro p e s m args below meth c s₁ Q hQ B hml hv
  obtain ⟨rfl, hsz, hP, hK, hD0⟩ := hv
  have hx := B.exec
  have hb := B.bytes
  have hr := B.returns
  have hts := atoms_spec (ws := wsX12_costs) B.pre
  have hown : s.vm.findClass RX12 = some m.cls := by have h_ := findClass_of_methodNamed B.named; exact h_
  have hlocks := B.notSynchronized
  subst hsz
  have hD : va_D (va_A [] s.heap.size) [] := dd_nil
  generalize hAe : va_A [] s.heap.size = A at hD hQ
  have hA : ∀ q : Nat, s.heap.size ≤ q → A q := fun q h => by rw [← hAe]; exact Or.inr h
  have hS : va_S A s.heap s.heap [] := va_S.rf
  have hl := lv_entry ([.ref mo, .int a1]) (n := 2) (Nat.le_of_ble_eq_true rfl)
  rw [lg_entry_eq]
  generalize (lg_sl ([.ref mo, .int a1]) ++ List.replicate (2 - (lg_sl ([.ref mo, .int a1])).length) Slot.unset).toArray = ls at hl ⊢
  have hl : lv_has ls 2 [(0, .ref mo), (1, .int a1)] := hl
  have zm9 : ((-9) : Int32).toInt = -9 := by decide
  have z1 : (1 : Int32).toInt = 1 := by decide
  have z3 : (3 : Int32).toInt = 3 := by decide
  have z4 : (4 : Int32).toInt = 4 := by decide
  refine lv_aload_n hx hb dB_3_0_5.1.1.1.1 rfl (lv_at hl 0 rfl) ?_
  refine va_get (ci := 12) (v := .ref g5) (C := RX12) (T := TX12) (N := 34) hx hb hts (fun _ h => List.mem_cons_of_mem _ (List.mem_append_right _ h)) hown hK.1 hP 0 rfl rfl 5 (by decide) (hts (.fieldLink RX12 7 "CutAtlasModel" "kind" "[I") (List.mem_of_getElem? (i := 1) rfl)) (fun _ h9 => h9) rfl dB_3_0_5.1.1.1.2 ?_
  refine lv_iload_n hx hb dB_3_0_5.1.1.2.1 rfl (lv_at hl 1 rfl) ?_
  have h_1 : vp_in a1 40 := in_I (by first | with_reducible assumption | omega) (by omega)
  refine va_iald hx hb hK.1 hP 1 0 rfl rfl (i := a1) h_1 dB_3_0_5.1.1.2.2 ?_
  refine lv_topi (fun y_2 ey_2 => ?_)
  have ky_2 : y_2.toInt = (f5 a1.toNatClampNeg).toInt := by rw [ey_2]
  refine lv_iconst (v := 3) hx hb dB_3_0_5.1.2.1.1 (by decide) ?_
  refine lv_icmp_ne (tgt := 19) hx hb dB_3_0_5.1.2.1.2 (by decide) (fun c_3 => ?_) (fun c_3 => ?_)
  · have t_3 : ¬ y_2.toInt = (3 : Int32).toInt := fun h => c_3 (Int32.toInt_inj.mp h)
    refine lv_aload_n hx hb dB_3_0_5.2.1.2.2 rfl (lv_at hl 0 rfl) ?_
    refine va_get (ci := 12) (v := .ref g5) (C := RX12) (T := TX12) (N := 34) hx hb hts (fun _ h => List.mem_cons_of_mem _ (List.mem_append_right _ h)) hown hK.1 hP 0 rfl rfl 5 (by decide) (hts (.fieldLink RX12 7 "CutAtlasModel" "kind" "[I") (List.mem_of_getElem? (i := 1) rfl)) (fun _ h9 => h9) rfl dB_3_0_5.2.2.1.1 ?_
    refine lv_iload_n hx hb dB_3_0_5.2.2.1.2 rfl (lv_at hl 1 rfl) ?_
    refine va_iald hx hb hK.1 hP 1 0 rfl rfl (i := a1) h_1 dB_3_0_5.2.2.2.1 ?_
    refine lv_topi (fun y_5 ey_5 => ?_)
    have e_ := (ey_5.trans ey_2.symm).symm
    subst e_
    skip
    refine lv_iconst (v := 4) hx hb dB_3_0_5.2.2.2.2 (by decide) ?_
    refine lv_icmp_ne (tgt := 40) hx hb dB_3_0_6.1.1.1 (by decide) (fun c_6 => ?_) (fun c_6 => ?_)
    · have t_6 : ¬ y_2.toInt = (4 : Int32).toInt := fun h => c_6 (Int32.toInt_inj.mp h)
      refine lv_bipush (v := (-9)) hx hb dB_3_0_6.2.2.2.1 (by decide) ?_
      rw [hQ]
      exact W.iret (v := (-9)) hx hb hr (fun t ht hW => ⟨⟨(-9), (), rfl, (by unfold cst; (repeat' split) <;> omega), trivial⟩, hS.F ht⟩) hS.2.2 dB_3_0_6.2.2.2.2
    · have t_6 : y_2.toInt = (4 : Int32).toInt := congrArg Int32.toInt c_6
      refine lv_aload_n hx hb dB_3_0_6.1.1.2 rfl (lv_at hl 0 rfl) ?_
      refine va_get (ci := 12) (v := .ref g9) (C := RX12) (T := TX12) (N := 34) hx hb hts (fun _ h => List.mem_cons_of_mem _ (List.mem_append_right _ h)) hown hK.1 hP 0 rfl rfl 9 (by decide) (hts (.fieldLink RX12 22 "CutAtlasModel" "price" "[I") (List.mem_of_getElem? (i := 2) rfl)) (fun _ h9 => h9) rfl dB_3_0_6.1.2.1 ?_
      refine lv_iload_n hx hb dB_3_0_6.1.2.2.1 rfl (lv_at hl 1 rfl) ?_
      refine va_iald hx hb hK.1 hP 2 0 rfl rfl (i := a1) h_1 dB_3_0_6.1.2.2.2 ?_
      refine lv_topi (fun y_8 ey_8 => ?_)
      have ky_8 : y_8.toInt = (f9 a1.toNatClampNeg).toInt := by rw [ey_8]
      have ry_8 : 0 ≤ y_8.toInt ∧ y_8.toInt ≤ 100 := by rw [ey_8]; exact r_f9 _ (in_lt h_1)
      refine lv_iconst (v := 1) hx hb dB_3_0_6.2.1.1 (by decide) ?_
      refine lv_iadd hx hb dB_3_0_6.2.1.2 ?_
      refine lv_topi (fun y_9 ey_9 => ?_)
      have ty_9 : y_9.toInt = y_8.toInt + (1 : Int32).toInt := by rw [ey_9]; exact addI (by omega) (by omega)
      refine lv_goto (tgt := 42) hx hb dB_3_0_6.2.2.1 (by decide) ?_
      rw [hQ]
      exact W.iret (v := y_9) hx hb hr (fun t ht hW => ⟨⟨y_9, (), rfl, (by unfold cst; (repeat' split) <;> omega), trivial⟩, hS.F ht⟩) hS.2.2 dB_3_0_6.2.2.2.2
  · have t_3 : y_2.toInt = (3 : Int32).toInt := congrArg Int32.toInt c_3
    refine lv_aload_n hx hb dB_3_0_5.1.2.2.1 rfl (lv_at hl 0 rfl) ?_
    refine va_get (ci := 12) (v := .ref g9) (C := RX12) (T := TX12) (N := 34) hx hb hts (fun _ h => List.mem_cons_of_mem _ (List.mem_append_right _ h)) hown hK.1 hP 0 rfl rfl 9 (by decide) (hts (.fieldLink RX12 22 "CutAtlasModel" "price" "[I") (List.mem_of_getElem? (i := 2) rfl)) (fun _ h9 => h9) rfl dB_3_0_5.1.2.2.2 ?_
    refine lv_iload_n hx hb dB_3_0_5.2.1.1.1 rfl (lv_at hl 1 rfl) ?_
    refine va_iald hx hb hK.1 hP 2 0 rfl rfl (i := a1) h_1 dB_3_0_5.2.1.1.2 ?_
    refine lv_topi (fun y_11 ey_11 => ?_)
    have ky_11 : y_11.toInt = (f9 a1.toNatClampNeg).toInt := by rw [ey_11]
    have ry_11 : 0 ≤ y_11.toInt ∧ y_11.toInt ≤ 100 := by rw [ey_11]; exact r_f9 _ (in_lt h_1)
    refine lv_goto (tgt := 42) hx hb dB_3_0_5.2.1.2.1 (by decide) ?_
    rw [hQ]
    exact W.iret (v := y_11) hx hb hr (fun t ht hW => ⟨⟨y_11, (), rfl, (by unfold cst; (repeat' split) <;> omega), trivial⟩, hS.F ht⟩) hS.2.2 dB_3_0_6.2.2.2.2

set_option maxHeartbeats 4000000 in
set_option maxRecDepth 100000 in
theorem c_X12_step2 (l : Launch) (D : va_G) (cy : Nat → ClassId) (sz : Nat) (mo : Nat) (g5 : Nat) (g6 : Nat) (g7 : Nat) (g8 : Nat) (g9 : Nat) (g10 : Nat) (g12 : Nat) (g13 : Nat) (g14 : Nat) (g15 : Nat) (g16 : Nat) (g17 : Nat) (g18 : Nat) (g19 : Nat) (g20 : Nat) (g22 : Nat) (g23 : Nat) (g24 : Nat) (g29 : Nat) (g30 : Nat) (g31 : Nat) (g32 : Nat) (g33 : Nat) (s0 : Int32) (s1 : Int32) (s3 : Int32) (s4 : Int32) (s11 : Int32) (s21 : Int32) (s25 : Int32) (s26 : Int32) (s27 : Int32) (s28 : Int32) (t2 : Int64) (f5 : Nat → Int32) (f8 : Nat → Int32) (f9 : Nat → Int32) (f22 : Nat → Int32) (a1 : Int32) (a2 : Int32) (q1 : 0 ≤ a1.toInt ∧ a1.toInt < 40) (h21 : s21.toInt = -9) (q2 : a2.toInt = 0 ∨ a2.toInt = 1) (hf : -1000 ≤ (f22 a1.toNatClampNeg).toInt ∧ (f22 a1.toNatClampNeg).toInt ≤ 1000) (r_f8 : rng f8 40 (0) (2000)) (r_f9 : rng f9 40 (0) (100)) : Met l yX12_step wsX12_step ({ frames := 2, cells := 0, slots := 0, locals := 46 }) (va_Pc [.ref mo, .int a1, .int a2] (fun U => U.heap.size = sz ∧ va_P D vwCl [ob12_0_ mo s0 s1 t2 s3 s4 g5 g6 g7 g8 g9 g10 s11 g12 g13 g14 g15 g16 g17 g18 g19 g20 s21 g22 g23 g24 s25 s26 s27 s28 g29 g30 g31 g32 g33, ai_ cy g5 40 f5, ai_ cy g8 40 f8, ai_ cy g9 40 f9, ai_ cy g22 40 f22] U.heap ∧ kk_ D cy U ∧ va_D (fun _ => True) [ob12_0_ mo s0 s1 t2 s3 s4 g5 g6 g7 g8 g9 g10 s11 g12 g13 g14 g15 g16 g17 g18 g19 g20 s21 g22 g23 g24 s25 s26 s27 s28 g29 g30 g31 g32 g33, ai_ cy g5 40 f5, ai_ cy g8 40 f8, ai_ cy g9 40 f9, ai_ cy g22 40 f22])) (va_Ql (fun (r : Int64) (_ : Unit) => (r.toInt = eS f5 f8 f9 f22 a1.toNatClampNeg a2.toInt)) (fun (_ : Unit) (_ : State) => True) (va_A [] sz)) 0 0 (va_A [] sz) := by
  refine ofQ (cc := cX12_step) (maxL := 7) (ret := (some .long)) (by decide) rfl ?_
  intro p e s m args below meth c s₁ Q hQ B hml hv
  obtain ⟨rfl, hsz, hP, hK, hD0⟩ := hv
  have hx := B.exec
  have hb := B.bytes
  have hr := B.returns
  have hts := atoms_spec (ws := wsX12_step) B.pre
  have hown : s.vm.findClass RX12 = some m.cls := by have h_ := findClass_of_methodNamed B.named; exact h_
  have hlocks := B.notSynchronized
  subst hsz
  have hD : va_D (va_A [] s.heap.size) [] := dd_nil
  generalize hAe : va_A [] s.heap.size = A at hD hQ
  have hA : ∀ q : Nat, s.heap.size ≤ q → A q := fun q h => by rw [← hAe]; exact Or.inr h
  have hS : va_S A s.heap s.heap [] := va_S.rf
  have hl := lv_entry ([.ref mo, .int a1, .int a2]) (n := 7) (Nat.le_of_ble_eq_true rfl)
  rw [lg_entry_eq]
  generalize (lg_sl ([.ref mo, .int a1, .int a2]) ++ List.replicate (7 - (lg_sl ([.ref mo, .int a1, .int a2])).length) Slot.unset).toArray = ls at hl ⊢
  have hl : lv_has ls 7 [(0, .ref mo), (1, .int a1), (2, .int a2)] := hl
  have zm9 : ((-9) : Int32).toInt = -9 := by decide
  have z0 : (0 : Int32).toInt = 0 := by decide
  have zl0 : (0 : Int64).toInt = 0 := by decide
  have z1 : (1 : Int32).toInt = 1 := by decide
  have zl1000000 : (1000000 : Int64).toInt = 1000000 := by decide
  have hv : vp_in a1 40 := in_I (by omega) (by omega)
  have fw := r_f8 _ (in_lt hv)
  have w1 := rmI_rng (k := f5 a1.toNatClampNeg) (b := 1) fw.1 fw.2
  have w0 := rmI_rng (k := f5 a1.toNatClampNeg) (b := 0) fw.1 fw.2
  have f9_ := r_f9 _ (in_lt hv)
  have cr_ := cst_rng (k := (f5 a1.toNatClampNeg).toInt) f9_.1 f9_.2
  rcases b01 q2 with rfl | rfl
  · refine lv_iload_n hx hb dB_3_1_65.1.1.1.1 rfl (lv_at hl 2 rfl) ?_
    refine lv_if_eq (tgt := 13) hx hb dB_3_1_65.1.1.1.2 (by decide) (fun c_1 => ?_) (fun c_1 => ?_)
    · have _ := c_1
      refine lv_aload_n hx hb dB_3_1_65.1.2.2.2 rfl (lv_at hl 0 rfl) ?_
      refine va_get (ci := 12) (v := .ref g22) (C := RX12) (T := TX12) (N := 34) hx hb hts (fun _ h => List.mem_cons_of_mem _ (List.mem_append_right _ h)) hown hK.1 hP 0 rfl rfl 22 (by decide) (hts (.fieldLink RX12 61 "CutAtlasModel" "flows" "[I") (List.mem_of_getElem? (i := 1) rfl)) (fun _ h9 => h9) rfl dB_3_1_65.2.1.1.1 ?_
      refine lv_iload_n hx hb dB_3_1_65.2.1.1.2 rfl (lv_at hl 1 rfl) ?_
      have h_2 : vp_in a1 40 := in_I (by first | with_reducible assumption | omega) (by omega)
      refine va_iald hx hb hK.1 hP 4 0 rfl rfl (i := a1) h_2 dB_3_1_65.2.1.2.1 ?_
      refine lv_topi (fun y_3 ey_3 => ?_)
      have ky_3 : y_3.toInt = (f22 a1.toNatClampNeg).toInt := by rw [ey_3]
      refine lv_ineg hx hb dB_3_1_65.2.1.2.2 ?_
      refine lv_topi (fun y_4 ey_4 => ?_)
      have ty_4 : y_4.toInt = - y_3.toInt := by rw [ey_4]; exact negI (by omega)
      refine lv_istore_n (lv' := [(3, .int y_4), (0, .ref mo), (1, .int a1), (2, .int 0)]) hx hb dB_3_1_65.2.2.1.1 rfl hl (by decide) rfl (fun ls hl => ?_)
      refine lv_aload_n hx hb dB_3_1_65.2.2.1.2 rfl (lv_at hl 1 rfl) ?_
      refine lv_iload_n hx hb dB_3_1_65.2.2.2.1 rfl (lv_at hl 2 rfl) ?_
      refine lv_iload_n hx hb dB_3_1_65.2.2.2.2 rfl (lv_at hl 3 rfl) ?_
      refine ct_R hP hD0 [ob12_0_ mo s0 s1 t2 s3 s4 g5 g6 g7 g8 g9 g10 s11 g12 g13 g14 g15 g16 g17 g18 g19 g20 s21 g22 g23 g24 s25 s26 s27 s28 g29 g30 g31 g32 g33, ai_ cy g5 40 f5, ai_ cy g8 40 f8] [0, 1, 2] (by decide) rfl (fun hPc hDw => ?_)
      have hFc := va_free (wc := []) hD hS hA [] rfl
      refine va_calli (va_runV (As := [.int a1, .int 0]) (rest := []) ⟨hx, hb, hml, hown, hts⟩ (c_X12_room l D cy s.heap.size mo g5 g6 g7 g8 g9 g10 g12 g13 g14 g15 g16 g17 g18 g19 g20 g22 g23 g24 g29 g30 g31 g32 g33 s0 s1 s3 s4 s11 s21 s25 s26 s27 s28 t2 f5 f8 a1 (0 : Int32) (by first | with_reducible assumption | omega | assumption)) (cwV 2 hts gX12_step_X12_room rfl rfl rfl ⟨rfl, hd_X12_room⟩ ⟨Nat.le_of_ble_eq_true rfl, Nat.le_of_ble_eq_true rfl⟩) ⟨bl_, va_recvX hK.1 hP (ci := 12) (q0 := 0) rfl rfl, fun U hU hW => ⟨rfl, by rw [hU], by rw [hU]; exact hPc, kk_mv hW hK, hDw⟩⟩ rfl rfl hl.1 rfl (lv_room (Nat.le_of_ble_eq_true rfl)) dB_3_1_66.1.1 ⟨Nat.le_of_ble_eq_true rfl, Nat.le_of_ble_eq_true rfl⟩) hS (fun q _ h => hFc q h) hFc (fun r_5 u t H locs ht hvm hw hB hz1 hk1 hS => ?_)
      have hP : va_P D vwCl _ H := ro_keep hP hk1
      have f0_r_5 := hw
      have rI_1 := room_I (r := r_5) (by assumption) (by omega) (by omega) (r_f8 _ (in_lt (in_I (by omega) (by omega))))
      refine lv_istore (lv' := [(4, .int r_5), (3, .int y_4), (0, .ref mo), (1, .int a1), (2, .int 0)]) hx hb dB_3_1_66.1.2.1 hl (by decide) rfl (fun ls hl => ?_)
      refine lv_aload_n hx hb dB_3_1_66.1.2.2 rfl (lv_at hl 2 rfl) ?_
      refine lv_iload_n hx hb dB_3_1_66.2.1 rfl (lv_at hl 3 rfl) ?_
      refine lv_iload_n hx hb dB_3_1_66.2.2.1 rfl (lv_at hl 4 rfl) ?_
      refine lv_if_ne (tgt := 39) hx hb dB_3_1_66.2.2.2 (by decide) (fun c_6 => ?_) (fun c_6 => ?_)
      · exact absurd c_6 (by decide)
      · have _ := c_6
        refine lv_iconst (v := 1) hx hb dB_3_2_51.1.1.1.1 (by decide) ?_
        refine lv_goto (tgt := 40) hx hb dB_3_2_51.1.1.1.2 (by decide) ?_
        refine ct_R hP hD0 [ob12_0_ mo s0 s1 t2 s3 s4 g5 g6 g7 g8 g9 g10 s11 g12 g13 g14 g15 g16 g17 g18 g19 g20 s21 g22 g23 g24 s25 s26 s27 s28 g29 g30 g31 g32 g33, ai_ cy g5 40 f5, ai_ cy g8 40 f8] [0, 1, 2] (by decide) rfl (fun hPc hDw => ?_)
        have hFc := va_free (wc := []) hD hS hA [] rfl
        refine va_calli (va_runV (As := [.int a1, .int 1]) (rest := []) ⟨hx, hb, hml, hown, hts⟩ (c_X12_room l D cy H.size mo g5 g6 g7 g8 g9 g10 g12 g13 g14 g15 g16 g17 g18 g19 g20 g22 g23 g24 g29 g30 g31 g32 g33 s0 s1 s3 s4 s11 s21 s25 s26 s27 s28 t2 f5 f8 a1 (1 : Int32) (by first | with_reducible assumption | omega | assumption)) (cwV 2 hts gX12_step_X12_room rfl rfl rfl ⟨rfl, hd_X12_room⟩ ⟨Nat.le_of_ble_eq_true rfl, Nat.le_of_ble_eq_true rfl⟩) ⟨bl_, va_recvX hK.1 hP (ci := 12) (q0 := 0) rfl rfl, fun U hU hW => ⟨rfl, by rw [hU], by rw [hU]; exact hPc, kk_mv hW hK, hDw⟩⟩ rfl rfl hl.1 rfl (lv_room (Nat.le_of_ble_eq_true rfl)) dB_3_2_51.1.1.2.2 ⟨Nat.le_of_ble_eq_true rfl, Nat.le_of_ble_eq_true rfl⟩) hS (fun q _ h => hFc q h) hFc (fun r_7 u t H locs ht hvm hw hB hz1 hk1 hS => ?_)
        have hP : va_P D vwCl _ H := ro_keep hP hk1
        have f0_r_7 := hw
        have rI_2 := room_I (r := r_7) (by assumption) (by omega) (by omega) (r_f8 _ (in_lt (in_I (by omega) (by omega))))
        refine lv_istore (lv' := [(5, .int r_7), (4, .int r_5), (3, .int y_4), (0, .ref mo), (1, .int a1), (2, .int 0)]) hx hb dB_3_2_51.1.2.1.1 hl (by decide) rfl (fun ls hl => ?_)
        refine lv_aload_n hx hb dB_3_2_51.1.2.1.2 rfl (lv_at hl 3 rfl) ?_
        refine lv_iload_n hx hb dB_3_2_51.1.2.2.1 rfl (lv_at hl 4 rfl) ?_
        refine ct_R hP hD0 [ob12_0_ mo s0 s1 t2 s3 s4 g5 g6 g7 g8 g9 g10 s11 g12 g13 g14 g15 g16 g17 g18 g19 g20 s21 g22 g23 g24 s25 s26 s27 s28 g29 g30 g31 g32 g33, ai_ cy g5 40 f5, ai_ cy g9 40 f9] [0, 1, 3] (by decide) rfl (fun hPc hDw => ?_)
        have hFc := va_free (wc := []) hD hS hA [] rfl
        refine va_calli (va_runV (As := [.int a1]) (rest := []) ⟨hx, hb, hml, hown, hts⟩ (c_X12_costs2 l D cy H.size mo g5 g6 g7 g8 g9 g10 g12 g13 g14 g15 g16 g17 g18 g19 g20 g22 g23 g24 g29 g30 g31 g32 g33 s0 s1 s3 s4 s11 s21 s25 s26 s27 s28 t2 f5 f9 a1 (by first | with_reducible assumption | omega | assumption) (by first | with_reducible assumption | assumption | omega)) (cwV 1 hts gX12_step_X12_costs rfl rfl rfl ⟨rfl, hd_X12_costs⟩ ⟨Nat.le_of_ble_eq_true rfl, Nat.le_of_ble_eq_true rfl⟩) ⟨bl_, va_recvX hK.1 hP (ci := 12) (q0 := 0) rfl rfl, fun U hU hW => ⟨rfl, by rw [hU], by rw [hU]; exact hPc, kk_mv hW hK, hDw⟩⟩ rfl rfl hl.1 rfl (lv_room (Nat.le_of_ble_eq_true rfl)) dB_3_2_51.1.2.2.2 ⟨Nat.le_of_ble_eq_true rfl, Nat.le_of_ble_eq_true rfl⟩) hS (fun q _ h => hFc q h) hFc (fun r_8 u t H locs ht hvm hw hB hz1 hk1 hS => ?_)
        have hP : va_P D vwCl _ H := ro_keep hP hk1
        have f0_r_8 := hw
        refine lv_istore (lv' := [(6, .int r_8), (5, .int r_7), (4, .int r_5), (3, .int y_4), (0, .ref mo), (1, .int a1), (2, .int 0)]) hx hb dB_3_2_51.2.1.1.1 hl (by decide) rfl (fun ls hl => ?_)
        refine lv_iload_n hx hb dB_3_2_51.2.1.1.2 rfl (lv_at hl 3 rfl) ?_
        refine lv_if_ge (tgt := 68) hx hb dB_3_2_51.2.1.2.1 (by decide) (fun c_9 => ?_) (fun c_9 => ?_)
        · have t_9 : (0 : Int32).toInt ≤ y_4.toInt := Int32.le_iff_toInt_le.mp c_9
          refine lv_iload_n hx hb dB_3_2_52.1.1.2.2 rfl (lv_at hl 3 rfl) ?_
          refine lv_iload hx hb dB_3_2_52.1.2.1.1 (lv_at hl 2 rfl) ?_
          refine lv_icmp_ge (tgt := 78) hx hb dB_3_2_52.1.2.1.2 (by decide) (fun c_10 => ?_) (fun c_10 => ?_)
          · have t_10 : r_5.toInt ≤ y_4.toInt := Int32.le_iff_toInt_le.mp c_10
            refine lv_iload hx hb dB_3_2_52.2.1.1.1 (lv_at hl 0 rfl) ?_
            refine lv_bipush (v := (-9)) hx hb dB_3_2_52.2.1.1.2 (by decide) ?_
            refine lv_icmp_ne (tgt := 91) hx hb dB_3_2_52.2.1.2.1 (by decide) (fun c_11 => ?_) (fun c_11 => ?_)
            · have t_11 : ¬ r_8.toInt = ((-9) : Int32).toInt := fun h => c_11 (Int32.toInt_inj.mp h)
              refine lv_iload hx hb dB_3_2_52.2.2.1.2 (lv_at hl 0 rfl) ?_
              refine lv_i2l (v := r_8.toInt64) hx hb dB_3_2_52.2.2.2.1 rfl ?_
              have q_93 : (r_8.toInt64).toInt = r_8.toInt := Int32.toInt_toInt64 r_8
              rw [hQ]
              exact W.lret (v := r_8.toInt64) hx hb hr (fun t ht hW => ⟨⟨r_8.toInt64, (), rfl, (by unfold eS stI; (repeat' split) <;> omega), trivial⟩, hS.F ht⟩) hS.2.2 dB_3_2_52.2.2.2.2
            · have t_11 : r_8.toInt = ((-9) : Int32).toInt := congrArg Int32.toInt c_11
              refine lv_ldc2 (v := 1000000) hx hb hown (hts (.constantLong RX12 118 (1000000)) (List.mem_of_getElem? (i := 2) rfl)) dB_3_2_52.2.1.2.2 ?_
              refine lv_goto (tgt := 94) hx hb dB_3_2_52.2.2.1.1 (by decide) ?_
              rw [hQ]
              exact W.lret (v := 1000000) hx hb hr (fun t ht hW => ⟨⟨1000000, (), rfl, (by unfold eS stI; (repeat' split) <;> omega), trivial⟩, hS.F ht⟩) hS.2.2 dB_3_2_52.2.2.2.2
          · have t_10 : ¬ r_5.toInt ≤ y_4.toInt := fun h => c_10 (Int32.le_iff_toInt_le.mpr h)
            refine lv_lconst (v := 0) hx hb dB_3_2_52.1.2.2.1 (by decide) ?_
            refine lv_goto (tgt := 94) hx hb dB_3_2_52.1.2.2.2 (by decide) ?_
            rw [hQ]
            exact W.lret (v := 0) hx hb hr (fun t ht hW => ⟨⟨0, (), rfl, (by unfold eS stI; (repeat' split) <;> omega), trivial⟩, hS.F ht⟩) hS.2.2 dB_3_2_52.2.2.2.2
        · have t_9 : ¬ (0 : Int32).toInt ≤ y_4.toInt := fun h => c_9 (Int32.le_iff_toInt_le.mpr h)
          refine lv_iload_n hx hb dB_3_2_51.2.1.2.2 rfl (lv_at hl 3 rfl) ?_
          refine lv_ineg hx hb dB_3_2_51.2.2.1.1 ?_
          refine lv_topi (fun y_12 ey_12 => ?_)
          have ty_12 : y_12.toInt = - y_4.toInt := by rw [ey_12]; exact negI (by omega)
          refine lv_iload hx hb dB_3_2_51.2.2.1.2 (lv_at hl 1 rfl) ?_
          refine lv_icmp_le (tgt := 68) hx hb dB_3_2_51.2.2.2.1 (by decide) (fun c_13 => ?_) (fun c_13 => ?_)
          · have t_13 : y_12.toInt ≤ r_7.toInt := Int32.le_iff_toInt_le.mp c_13
            refine lv_iload_n hx hb dB_3_2_52.1.1.2.2 rfl (lv_at hl 3 rfl) ?_
            refine lv_iload hx hb dB_3_2_52.1.2.1.1 (lv_at hl 2 rfl) ?_
            refine lv_icmp_ge (tgt := 78) hx hb dB_3_2_52.1.2.1.2 (by decide) (fun c_14 => ?_) (fun c_14 => ?_)
            · have t_14 : r_5.toInt ≤ y_4.toInt := Int32.le_iff_toInt_le.mp c_14
              refine lv_iload hx hb dB_3_2_52.2.1.1.1 (lv_at hl 0 rfl) ?_
              refine lv_bipush (v := (-9)) hx hb dB_3_2_52.2.1.1.2 (by decide) ?_
              refine lv_icmp_ne (tgt := 91) hx hb dB_3_2_52.2.1.2.1 (by decide) (fun c_15 => ?_) (fun c_15 => ?_)
              · have t_15 : ¬ r_8.toInt = ((-9) : Int32).toInt := fun h => c_15 (Int32.toInt_inj.mp h)
                refine lv_iload hx hb dB_3_2_52.2.2.1.2 (lv_at hl 0 rfl) ?_
                refine lv_i2l (v := r_8.toInt64) hx hb dB_3_2_52.2.2.2.1 rfl ?_
                have q_93 : (r_8.toInt64).toInt = r_8.toInt := Int32.toInt_toInt64 r_8
                rw [hQ]
                exact W.lret (v := r_8.toInt64) hx hb hr (fun t ht hW => ⟨⟨r_8.toInt64, (), rfl, (by unfold eS stI; (repeat' split) <;> omega), trivial⟩, hS.F ht⟩) hS.2.2 dB_3_2_52.2.2.2.2
              · have t_15 : r_8.toInt = ((-9) : Int32).toInt := congrArg Int32.toInt c_15
                refine lv_ldc2 (v := 1000000) hx hb hown (hts (.constantLong RX12 118 (1000000)) (List.mem_of_getElem? (i := 2) rfl)) dB_3_2_52.2.1.2.2 ?_
                refine lv_goto (tgt := 94) hx hb dB_3_2_52.2.2.1.1 (by decide) ?_
                rw [hQ]
                exact W.lret (v := 1000000) hx hb hr (fun t ht hW => ⟨⟨1000000, (), rfl, (by unfold eS stI; (repeat' split) <;> omega), trivial⟩, hS.F ht⟩) hS.2.2 dB_3_2_52.2.2.2.2
            · have t_14 : ¬ r_5.toInt ≤ y_4.toInt := fun h => c_14 (Int32.le_iff_toInt_le.mpr h)
              refine lv_lconst (v := 0) hx hb dB_3_2_52.1.2.2.1 (by decide) ?_
              refine lv_goto (tgt := 94) hx hb dB_3_2_52.1.2.2.2 (by decide) ?_
              rw [hQ]
              exact W.lret (v := 0) hx hb hr (fun t ht hW => ⟨⟨0, (), rfl, (by unfold eS stI; (repeat' split) <;> omega), trivial⟩, hS.F ht⟩) hS.2.2 dB_3_2_52.2.2.2.2
          · have t_13 : ¬ y_12.toInt ≤ r_7.toInt := fun h => c_13 (Int32.le_iff_toInt_le.mpr h)
            refine lv_iload hx hb dB_3_2_51.2.2.2.2 (lv_at hl 0 rfl) ?_
            refine lv_ineg hx hb dB_3_2_52.1.1.1.1 ?_
            refine lv_topi (fun y_16 ey_16 => ?_)
            have ty_16 : y_16.toInt = - r_8.toInt := by rw [ey_16]; exact negI (by omega)
            refine lv_i2l (v := y_16.toInt64) hx hb dB_3_2_52.1.1.1.2 rfl ?_
            have q_66 : (y_16.toInt64).toInt = y_16.toInt := Int32.toInt_toInt64 y_16
            rw [hQ]
            exact W.lret (v := y_16.toInt64) hx hb hr (fun t ht hW => ⟨⟨y_16.toInt64, (), rfl, (by unfold eS stI; (repeat' split) <;> omega), trivial⟩, hS.F ht⟩) hS.2.2 dB_3_2_52.1.1.2.1
    · exact absurd c_1 (by decide)
  · refine lv_iload_n hx hb dB_3_1_65.1.1.1.1 rfl (lv_at hl 2 rfl) ?_
    refine lv_if_eq (tgt := 13) hx hb dB_3_1_65.1.1.1.2 (by decide) (fun c_17 => ?_) (fun c_17 => ?_)
    · exact absurd c_17 (by decide)
    · have _ := c_17
      refine lv_aload_n hx hb dB_3_1_65.1.1.2.1 rfl (lv_at hl 0 rfl) ?_
      refine va_get (ci := 12) (v := .ref g22) (C := RX12) (T := TX12) (N := 34) hx hb hts (fun _ h => List.mem_cons_of_mem _ (List.mem_append_right _ h)) hown hK.1 hP 0 rfl rfl 22 (by decide) (hts (.fieldLink RX12 61 "CutAtlasModel" "flows" "[I") (List.mem_of_getElem? (i := 1) rfl)) (fun _ h9 => h9) rfl dB_3_1_65.1.1.2.2 ?_
      refine lv_iload_n hx hb dB_3_1_65.1.2.1.1 rfl (lv_at hl 1 rfl) ?_
      have h_18 : vp_in a1 40 := in_I (by first | with_reducible assumption | omega) (by omega)
      refine va_iald hx hb hK.1 hP 4 0 rfl rfl (i := a1) h_18 dB_3_1_65.1.2.1.2 ?_
      refine lv_topi (fun y_19 ey_19 => ?_)
      have ky_19 : y_19.toInt = (f22 a1.toNatClampNeg).toInt := by rw [ey_19]
      refine lv_goto (tgt := 20) hx hb dB_3_1_65.1.2.2.1 (by decide) ?_
      refine lv_istore_n (lv' := [(3, .int y_19), (0, .ref mo), (1, .int a1), (2, .int 1)]) hx hb dB_3_1_65.2.2.1.1 rfl hl (by decide) rfl (fun ls hl => ?_)
      refine lv_aload_n hx hb dB_3_1_65.2.2.1.2 rfl (lv_at hl 1 rfl) ?_
      refine lv_iload_n hx hb dB_3_1_65.2.2.2.1 rfl (lv_at hl 2 rfl) ?_
      refine lv_iload_n hx hb dB_3_1_65.2.2.2.2 rfl (lv_at hl 3 rfl) ?_
      refine ct_R hP hD0 [ob12_0_ mo s0 s1 t2 s3 s4 g5 g6 g7 g8 g9 g10 s11 g12 g13 g14 g15 g16 g17 g18 g19 g20 s21 g22 g23 g24 s25 s26 s27 s28 g29 g30 g31 g32 g33, ai_ cy g5 40 f5, ai_ cy g8 40 f8] [0, 1, 2] (by decide) rfl (fun hPc hDw => ?_)
      have hFc := va_free (wc := []) hD hS hA [] rfl
      refine va_calli (va_runV (As := [.int a1, .int 1]) (rest := []) ⟨hx, hb, hml, hown, hts⟩ (c_X12_room l D cy s.heap.size mo g5 g6 g7 g8 g9 g10 g12 g13 g14 g15 g16 g17 g18 g19 g20 g22 g23 g24 g29 g30 g31 g32 g33 s0 s1 s3 s4 s11 s21 s25 s26 s27 s28 t2 f5 f8 a1 (1 : Int32) (by first | with_reducible assumption | omega | assumption)) (cwV 2 hts gX12_step_X12_room rfl rfl rfl ⟨rfl, hd_X12_room⟩ ⟨Nat.le_of_ble_eq_true rfl, Nat.le_of_ble_eq_true rfl⟩) ⟨bl_, va_recvX hK.1 hP (ci := 12) (q0 := 0) rfl rfl, fun U hU hW => ⟨rfl, by rw [hU], by rw [hU]; exact hPc, kk_mv hW hK, hDw⟩⟩ rfl rfl hl.1 rfl (lv_room (Nat.le_of_ble_eq_true rfl)) dB_3_1_66.1.1 ⟨Nat.le_of_ble_eq_true rfl, Nat.le_of_ble_eq_true rfl⟩) hS (fun q _ h => hFc q h) hFc (fun r_20 u t H locs ht hvm hw hB hz1 hk1 hS => ?_)
      have hP : va_P D vwCl _ H := ro_keep hP hk1
      have f0_r_20 := hw
      have rI_1 := room_I (r := r_20) (by assumption) (by omega) (by omega) (r_f8 _ (in_lt (in_I (by omega) (by omega))))
      refine lv_istore (lv' := [(4, .int r_20), (3, .int y_19), (0, .ref mo), (1, .int a1), (2, .int 1)]) hx hb dB_3_1_66.1.2.1 hl (by decide) rfl (fun ls hl => ?_)
      refine lv_aload_n hx hb dB_3_1_66.1.2.2 rfl (lv_at hl 2 rfl) ?_
      refine lv_iload_n hx hb dB_3_1_66.2.1 rfl (lv_at hl 3 rfl) ?_
      refine lv_iload_n hx hb dB_3_1_66.2.2.1 rfl (lv_at hl 4 rfl) ?_
      refine lv_if_ne (tgt := 39) hx hb dB_3_1_66.2.2.2 (by decide) (fun c_21 => ?_) (fun c_21 => ?_)
      · have _ := c_21
        refine lv_iconst (v := 0) hx hb dB_3_2_51.1.1.2.1 (by decide) ?_
        refine ct_R hP hD0 [ob12_0_ mo s0 s1 t2 s3 s4 g5 g6 g7 g8 g9 g10 s11 g12 g13 g14 g15 g16 g17 g18 g19 g20 s21 g22 g23 g24 s25 s26 s27 s28 g29 g30 g31 g32 g33, ai_ cy g5 40 f5, ai_ cy g8 40 f8] [0, 1, 2] (by decide) rfl (fun hPc hDw => ?_)
        have hFc := va_free (wc := []) hD hS hA [] rfl
        refine va_calli (va_runV (As := [.int a1, .int 0]) (rest := []) ⟨hx, hb, hml, hown, hts⟩ (c_X12_room l D cy H.size mo g5 g6 g7 g8 g9 g10 g12 g13 g14 g15 g16 g17 g18 g19 g20 g22 g23 g24 g29 g30 g31 g32 g33 s0 s1 s3 s4 s11 s21 s25 s26 s27 s28 t2 f5 f8 a1 (0 : Int32) (by first | with_reducible assumption | omega | assumption)) (cwV 2 hts gX12_step_X12_room rfl rfl rfl ⟨rfl, hd_X12_room⟩ ⟨Nat.le_of_ble_eq_true rfl, Nat.le_of_ble_eq_true rfl⟩) ⟨bl_, va_recvX hK.1 hP (ci := 12) (q0 := 0) rfl rfl, fun U hU hW => ⟨rfl, by rw [hU], by rw [hU]; exact hPc, kk_mv hW hK, hDw⟩⟩ rfl rfl hl.1 rfl (lv_room (Nat.le_of_ble_eq_true rfl)) dB_3_2_51.1.1.2.2 ⟨Nat.le_of_ble_eq_true rfl, Nat.le_of_ble_eq_true rfl⟩) hS (fun q _ h => hFc q h) hFc (fun r_22 u t H locs ht hvm hw hB hz1 hk1 hS => ?_)
        have hP : va_P D vwCl _ H := ro_keep hP hk1
        have f0_r_22 := hw
        have rI_2 := room_I (r := r_22) (by assumption) (by omega) (by omega) (r_f8 _ (in_lt (in_I (by omega) (by omega))))
        refine lv_istore (lv' := [(5, .int r_22), (4, .int r_20), (3, .int y_19), (0, .ref mo), (1, .int a1), (2, .int 1)]) hx hb dB_3_2_51.1.2.1.1 hl (by decide) rfl (fun ls hl => ?_)
        refine lv_aload_n hx hb dB_3_2_51.1.2.1.2 rfl (lv_at hl 3 rfl) ?_
        refine lv_iload_n hx hb dB_3_2_51.1.2.2.1 rfl (lv_at hl 4 rfl) ?_
        refine ct_R hP hD0 [ob12_0_ mo s0 s1 t2 s3 s4 g5 g6 g7 g8 g9 g10 s11 g12 g13 g14 g15 g16 g17 g18 g19 g20 s21 g22 g23 g24 s25 s26 s27 s28 g29 g30 g31 g32 g33, ai_ cy g5 40 f5, ai_ cy g9 40 f9] [0, 1, 3] (by decide) rfl (fun hPc hDw => ?_)
        have hFc := va_free (wc := []) hD hS hA [] rfl
        refine va_calli (va_runV (As := [.int a1]) (rest := []) ⟨hx, hb, hml, hown, hts⟩ (c_X12_costs2 l D cy H.size mo g5 g6 g7 g8 g9 g10 g12 g13 g14 g15 g16 g17 g18 g19 g20 g22 g23 g24 g29 g30 g31 g32 g33 s0 s1 s3 s4 s11 s21 s25 s26 s27 s28 t2 f5 f9 a1 (by first | with_reducible assumption | omega | assumption) (by first | with_reducible assumption | assumption | omega)) (cwV 1 hts gX12_step_X12_costs rfl rfl rfl ⟨rfl, hd_X12_costs⟩ ⟨Nat.le_of_ble_eq_true rfl, Nat.le_of_ble_eq_true rfl⟩) ⟨bl_, va_recvX hK.1 hP (ci := 12) (q0 := 0) rfl rfl, fun U hU hW => ⟨rfl, by rw [hU], by rw [hU]; exact hPc, kk_mv hW hK, hDw⟩⟩ rfl rfl hl.1 rfl (lv_room (Nat.le_of_ble_eq_true rfl)) dB_3_2_51.1.2.2.2 ⟨Nat.le_of_ble_eq_true rfl, Nat.le_of_ble_eq_true rfl⟩) hS (fun q _ h => hFc q h) hFc (fun r_23 u t H locs ht hvm hw hB hz1 hk1 hS => ?_)
        have hP : va_P D vwCl _ H := ro_keep hP hk1
        have f0_r_23 := hw
        refine lv_istore (lv' := [(6, .int r_23), (5, .int r_22), (4, .int r_20), (3, .int y_19), (0, .ref mo), (1, .int a1), (2, .int 1)]) hx hb dB_3_2_51.2.1.1.1 hl (by decide) rfl (fun ls hl => ?_)
        refine lv_iload_n hx hb dB_3_2_51.2.1.1.2 rfl (lv_at hl 3 rfl) ?_
        refine lv_if_ge (tgt := 68) hx hb dB_3_2_51.2.1.2.1 (by decide) (fun c_24 => ?_) (fun c_24 => ?_)
        · have t_24 : (0 : Int32).toInt ≤ y_19.toInt := Int32.le_iff_toInt_le.mp c_24
          refine lv_iload_n hx hb dB_3_2_52.1.1.2.2 rfl (lv_at hl 3 rfl) ?_
          refine lv_iload hx hb dB_3_2_52.1.2.1.1 (lv_at hl 2 rfl) ?_
          refine lv_icmp_ge (tgt := 78) hx hb dB_3_2_52.1.2.1.2 (by decide) (fun c_25 => ?_) (fun c_25 => ?_)
          · have t_25 : r_20.toInt ≤ y_19.toInt := Int32.le_iff_toInt_le.mp c_25
            refine lv_iload hx hb dB_3_2_52.2.1.1.1 (lv_at hl 0 rfl) ?_
            refine lv_bipush (v := (-9)) hx hb dB_3_2_52.2.1.1.2 (by decide) ?_
            refine lv_icmp_ne (tgt := 91) hx hb dB_3_2_52.2.1.2.1 (by decide) (fun c_26 => ?_) (fun c_26 => ?_)
            · have t_26 : ¬ r_23.toInt = ((-9) : Int32).toInt := fun h => c_26 (Int32.toInt_inj.mp h)
              refine lv_iload hx hb dB_3_2_52.2.2.1.2 (lv_at hl 0 rfl) ?_
              refine lv_i2l (v := r_23.toInt64) hx hb dB_3_2_52.2.2.2.1 rfl ?_
              have q_93 : (r_23.toInt64).toInt = r_23.toInt := Int32.toInt_toInt64 r_23
              rw [hQ]
              exact W.lret (v := r_23.toInt64) hx hb hr (fun t ht hW => ⟨⟨r_23.toInt64, (), rfl, (by unfold eS stI; (repeat' split) <;> omega), trivial⟩, hS.F ht⟩) hS.2.2 dB_3_2_52.2.2.2.2
            · have t_26 : r_23.toInt = ((-9) : Int32).toInt := congrArg Int32.toInt c_26
              refine lv_ldc2 (v := 1000000) hx hb hown (hts (.constantLong RX12 118 (1000000)) (List.mem_of_getElem? (i := 2) rfl)) dB_3_2_52.2.1.2.2 ?_
              refine lv_goto (tgt := 94) hx hb dB_3_2_52.2.2.1.1 (by decide) ?_
              rw [hQ]
              exact W.lret (v := 1000000) hx hb hr (fun t ht hW => ⟨⟨1000000, (), rfl, (by unfold eS stI; (repeat' split) <;> omega), trivial⟩, hS.F ht⟩) hS.2.2 dB_3_2_52.2.2.2.2
          · have t_25 : ¬ r_20.toInt ≤ y_19.toInt := fun h => c_25 (Int32.le_iff_toInt_le.mpr h)
            refine lv_lconst (v := 0) hx hb dB_3_2_52.1.2.2.1 (by decide) ?_
            refine lv_goto (tgt := 94) hx hb dB_3_2_52.1.2.2.2 (by decide) ?_
            rw [hQ]
            exact W.lret (v := 0) hx hb hr (fun t ht hW => ⟨⟨0, (), rfl, (by unfold eS stI; (repeat' split) <;> omega), trivial⟩, hS.F ht⟩) hS.2.2 dB_3_2_52.2.2.2.2
        · have t_24 : ¬ (0 : Int32).toInt ≤ y_19.toInt := fun h => c_24 (Int32.le_iff_toInt_le.mpr h)
          refine lv_iload_n hx hb dB_3_2_51.2.1.2.2 rfl (lv_at hl 3 rfl) ?_
          refine lv_ineg hx hb dB_3_2_51.2.2.1.1 ?_
          refine lv_topi (fun y_27 ey_27 => ?_)
          have ty_27 : y_27.toInt = - y_19.toInt := by rw [ey_27]; exact negI (by omega)
          refine lv_iload hx hb dB_3_2_51.2.2.1.2 (lv_at hl 1 rfl) ?_
          refine lv_icmp_le (tgt := 68) hx hb dB_3_2_51.2.2.2.1 (by decide) (fun c_28 => ?_) (fun c_28 => ?_)
          · have t_28 : y_27.toInt ≤ r_22.toInt := Int32.le_iff_toInt_le.mp c_28
            refine lv_iload_n hx hb dB_3_2_52.1.1.2.2 rfl (lv_at hl 3 rfl) ?_
            refine lv_iload hx hb dB_3_2_52.1.2.1.1 (lv_at hl 2 rfl) ?_
            refine lv_icmp_ge (tgt := 78) hx hb dB_3_2_52.1.2.1.2 (by decide) (fun c_29 => ?_) (fun c_29 => ?_)
            · have t_29 : r_20.toInt ≤ y_19.toInt := Int32.le_iff_toInt_le.mp c_29
              refine lv_iload hx hb dB_3_2_52.2.1.1.1 (lv_at hl 0 rfl) ?_
              refine lv_bipush (v := (-9)) hx hb dB_3_2_52.2.1.1.2 (by decide) ?_
              refine lv_icmp_ne (tgt := 91) hx hb dB_3_2_52.2.1.2.1 (by decide) (fun c_30 => ?_) (fun c_30 => ?_)
              · have t_30 : ¬ r_23.toInt = ((-9) : Int32).toInt := fun h => c_30 (Int32.toInt_inj.mp h)
                refine lv_iload hx hb dB_3_2_52.2.2.1.2 (lv_at hl 0 rfl) ?_
                refine lv_i2l (v := r_23.toInt64) hx hb dB_3_2_52.2.2.2.1 rfl ?_
                have q_93 : (r_23.toInt64).toInt = r_23.toInt := Int32.toInt_toInt64 r_23
                rw [hQ]
                exact W.lret (v := r_23.toInt64) hx hb hr (fun t ht hW => ⟨⟨r_23.toInt64, (), rfl, (by unfold eS stI; (repeat' split) <;> omega), trivial⟩, hS.F ht⟩) hS.2.2 dB_3_2_52.2.2.2.2
              · have t_30 : r_23.toInt = ((-9) : Int32).toInt := congrArg Int32.toInt c_30
                refine lv_ldc2 (v := 1000000) hx hb hown (hts (.constantLong RX12 118 (1000000)) (List.mem_of_getElem? (i := 2) rfl)) dB_3_2_52.2.1.2.2 ?_
                refine lv_goto (tgt := 94) hx hb dB_3_2_52.2.2.1.1 (by decide) ?_
                rw [hQ]
                exact W.lret (v := 1000000) hx hb hr (fun t ht hW => ⟨⟨1000000, (), rfl, (by unfold eS stI; (repeat' split) <;> omega), trivial⟩, hS.F ht⟩) hS.2.2 dB_3_2_52.2.2.2.2
            · have t_29 : ¬ r_20.toInt ≤ y_19.toInt := fun h => c_29 (Int32.le_iff_toInt_le.mpr h)
              refine lv_lconst (v := 0) hx hb dB_3_2_52.1.2.2.1 (by decide) ?_
              refine lv_goto (tgt := 94) hx hb dB_3_2_52.1.2.2.2 (by decide) ?_
              rw [hQ]
              exact W.lret (v := 0) hx hb hr (fun t ht hW => ⟨⟨0, (), rfl, (by unfold eS stI; (repeat' split) <;> omega), trivial⟩, hS.F ht⟩) hS.2.2 dB_3_2_52.2.2.2.2
          · have t_28 : ¬ y_27.toInt ≤ r_22.toInt := fun h => c_28 (Int32.le_iff_toInt_le.mpr h)
            refine lv_iload hx hb dB_3_2_51.2.2.2.2 (lv_at hl 0 rfl) ?_
            refine lv_ineg hx hb dB_3_2_52.1.1.1.1 ?_
            refine lv_topi (fun y_31 ey_31 => ?_)
            have ty_31 : y_31.toInt = - r_23.toInt := by rw [ey_31]; exact negI (by omega)
            refine lv_i2l (v := y_31.toInt64) hx hb dB_3_2_52.1.1.1.2 rfl ?_
            have q_66 : (y_31.toInt64).toInt = y_31.toInt := Int32.toInt_toInt64 y_31
            rw [hQ]
            exact W.lret (v := y_31.toInt64) hx hb hr (fun t ht hW => ⟨⟨y_31.toInt64, (), rfl, (by unfold eS stI; (repeat' split) <;> omega), trivial⟩, hS.F ht⟩) hS.2.2 dB_3_2_52.1.1.2.1
      · exact absurd c_21 (by decide)

set_option maxHeartbeats 4000000 in
set_option maxRecDepth 100000 in
theorem c_X12_amount2 (l : Launch) (D : va_G) (cy : Nat → ClassId) (sz : Nat) (mo : Nat) (g5 : Nat) (g6 : Nat) (g7 : Nat) (g8 : Nat) (g9 : Nat) (g10 : Nat) (g12 : Nat) (g13 : Nat) (g14 : Nat) (g15 : Nat) (g16 : Nat) (g17 : Nat) (g18 : Nat) (g19 : Nat) (g20 : Nat) (g22 : Nat) (g23 : Nat) (g24 : Nat) (g29 : Nat) (g30 : Nat) (g31 : Nat) (g32 : Nat) (g33 : Nat) (s0 : Int32) (s1 : Int32) (s3 : Int32) (s4 : Int32) (s11 : Int32) (s21 : Int32) (s25 : Int32) (s26 : Int32) (s27 : Int32) (s28 : Int32) (t2 : Int64) (f5 : Nat → Int32) (f8 : Nat → Int32) (f22 : Nat → Int32) (a1 : Int32) (a2 : Int32) (q1 : 0 ≤ a1.toInt ∧ a1.toInt < 40) (h21 : s21.toInt = -9) (q2 : a2.toInt = 0 ∨ a2.toInt = 1) (hf : -1000 ≤ (f22 a1.toNatClampNeg).toInt ∧ (f22 a1.toNatClampNeg).toInt ≤ 1000) (r_f8 : rng f8 40 (0) (2000)) : Met l yX12_amount wsX12_amount ({ frames := 2, cells := 0, slots := 0, locals := 46 }) (va_Pc [.ref mo, .int a1, .int a2] (fun U => U.heap.size = sz ∧ va_P D vwCl [ob12_0_ mo s0 s1 t2 s3 s4 g5 g6 g7 g8 g9 g10 s11 g12 g13 g14 g15 g16 g17 g18 g19 g20 s21 g22 g23 g24 s25 s26 s27 s28 g29 g30 g31 g32 g33, ai_ cy g5 40 f5, ai_ cy g8 40 f8, ai_ cy g22 40 f22] U.heap ∧ kk_ D cy U ∧ va_D (fun _ => True) [ob12_0_ mo s0 s1 t2 s3 s4 g5 g6 g7 g8 g9 g10 s11 g12 g13 g14 g15 g16 g17 g18 g19 g20 s21 g22 g23 g24 s25 s26 s27 s28 g29 g30 g31 g32 g33, ai_ cy g5 40 f5, ai_ cy g8 40 f8, ai_ cy g22 40 f22])) (va_Qi (fun (r : Int32) (_ : Unit) => (r.toInt = eA f5 f8 f22 a1.toNatClampNeg a2.toInt) ∧ (1 ≤ r.toInt)) (fun (_ : Unit) (_ : State) => True) (va_A [] sz)) 0 0 (va_A [] sz) := by
  refine ofQ (cc := cX12_amount) (maxL := 6) (ret := (some .int)) (by decide) rfl ?_
  intro p e s m args below meth c s₁ Q hQ B hml hv
  obtain ⟨rfl, hsz, hP, hK, hD0⟩ := hv
  have hx := B.exec
  have hb := B.bytes
  have hr := B.returns
  have hts := atoms_spec (ws := wsX12_amount) B.pre
  have hown : s.vm.findClass RX12 = some m.cls := by have h_ := findClass_of_methodNamed B.named; exact h_
  have hlocks := B.notSynchronized
  subst hsz
  have hD : va_D (va_A [] s.heap.size) [] := dd_nil
  generalize hAe : va_A [] s.heap.size = A at hD hQ
  have hA : ∀ q : Nat, s.heap.size ≤ q → A q := fun q h => by rw [← hAe]; exact Or.inr h
  have hS : va_S A s.heap s.heap [] := va_S.rf
  have hl := lv_entry ([.ref mo, .int a1, .int a2]) (n := 6) (Nat.le_of_ble_eq_true rfl)
  rw [lg_entry_eq]
  generalize (lg_sl ([.ref mo, .int a1, .int a2]) ++ List.replicate (6 - (lg_sl ([.ref mo, .int a1, .int a2])).length) Slot.unset).toArray = ls at hl ⊢
  have hl : lv_has ls 6 [(0, .ref mo), (1, .int a1), (2, .int a2)] := hl
  have z0 : (0 : Int32).toInt = 0 := by decide
  have z1 : (1 : Int32).toInt = 1 := by decide
  have z1000000 : (1000000 : Int32).toInt = 1000000 := by decide
  have hv : vp_in a1 40 := in_I (by omega) (by omega)
  have fw := r_f8 _ (in_lt hv)
  have w1 := rmI_rng (k := f5 a1.toNatClampNeg) (b := 1) fw.1 fw.2
  have w0 := rmI_rng (k := f5 a1.toNatClampNeg) (b := 0) fw.1 fw.2
  rcases b01 q2 with rfl | rfl
  · refine lv_iload_n hx hb dB_3_2_0.1.1.1.1 rfl (lv_at hl 2 rfl) ?_
    refine lv_if_eq (tgt := 13) hx hb dB_3_2_0.1.1.1.2 (by decide) (fun c_1 => ?_) (fun c_1 => ?_)
    · have _ := c_1
      refine lv_aload_n hx hb dB_3_2_0.1.2.2.2 rfl (lv_at hl 0 rfl) ?_
      refine va_get (ci := 12) (v := .ref g22) (C := RX12) (T := TX12) (N := 34) hx hb hts (fun _ h => List.mem_cons_of_mem _ (List.mem_append_right _ h)) hown hK.1 hP 0 rfl rfl 22 (by decide) (hts (.fieldLink RX12 61 "CutAtlasModel" "flows" "[I") (List.mem_of_getElem? (i := 1) rfl)) (fun _ h9 => h9) rfl dB_3_2_0.2.1.1.1 ?_
      refine lv_iload_n hx hb dB_3_2_0.2.1.1.2 rfl (lv_at hl 1 rfl) ?_
      have h_2 : vp_in a1 40 := in_I (by first | with_reducible assumption | omega) (by omega)
      refine va_iald hx hb hK.1 hP 3 0 rfl rfl (i := a1) h_2 dB_3_2_0.2.1.2.1 ?_
      refine lv_topi (fun y_3 ey_3 => ?_)
      have ky_3 : y_3.toInt = (f22 a1.toNatClampNeg).toInt := by rw [ey_3]
      refine lv_ineg hx hb dB_3_2_0.2.1.2.2 ?_
      refine lv_topi (fun y_4 ey_4 => ?_)
      have ty_4 : y_4.toInt = - y_3.toInt := by rw [ey_4]; exact negI (by omega)
      refine lv_istore_n (lv' := [(3, .int y_4), (0, .ref mo), (1, .int a1), (2, .int 0)]) hx hb dB_3_2_0.2.2.1.1 rfl hl (by decide) rfl (fun ls hl => ?_)
      refine lv_aload_n hx hb dB_3_2_0.2.2.1.2 rfl (lv_at hl 1 rfl) ?_
      refine lv_iload_n hx hb dB_3_2_0.2.2.2.1 rfl (lv_at hl 2 rfl) ?_
      refine lv_iload_n hx hb dB_3_2_0.2.2.2.2 rfl (lv_at hl 3 rfl) ?_
      refine ct_R hP hD0 [ob12_0_ mo s0 s1 t2 s3 s4 g5 g6 g7 g8 g9 g10 s11 g12 g13 g14 g15 g16 g17 g18 g19 g20 s21 g22 g23 g24 s25 s26 s27 s28 g29 g30 g31 g32 g33, ai_ cy g5 40 f5, ai_ cy g8 40 f8] [0, 1, 2] (by decide) rfl (fun hPc hDw => ?_)
      have hFc := va_free (wc := []) hD hS hA [] rfl
      refine va_calli (va_runV (As := [.int a1, .int 0]) (rest := []) ⟨hx, hb, hml, hown, hts⟩ (c_X12_room l D cy s.heap.size mo g5 g6 g7 g8 g9 g10 g12 g13 g14 g15 g16 g17 g18 g19 g20 g22 g23 g24 g29 g30 g31 g32 g33 s0 s1 s3 s4 s11 s21 s25 s26 s27 s28 t2 f5 f8 a1 (0 : Int32) (by first | with_reducible assumption | omega | assumption)) (cwV 2 hts gX12_amount_X12_room rfl rfl rfl ⟨rfl, hd_X12_room⟩ ⟨Nat.le_of_ble_eq_true rfl, Nat.le_of_ble_eq_true rfl⟩) ⟨bl_, va_recvX hK.1 hP (ci := 12) (q0 := 0) rfl rfl, fun U hU hW => ⟨rfl, by rw [hU], by rw [hU]; exact hPc, kk_mv hW hK, hDw⟩⟩ rfl rfl hl.1 rfl (lv_room (Nat.le_of_ble_eq_true rfl)) dB_3_2_1.1.1.1.1 ⟨Nat.le_of_ble_eq_true rfl, Nat.le_of_ble_eq_true rfl⟩) hS (fun q _ h => hFc q h) hFc (fun r_5 u t H locs ht hvm hw hB hz1 hk1 hS => ?_)
      have hP : va_P D vwCl _ H := ro_keep hP hk1
      have f0_r_5 := hw
      have rI_1 := room_I (r := r_5) (by assumption) (by omega) (by omega) (r_f8 _ (in_lt (in_I (by omega) (by omega))))
      refine lv_istore (lv' := [(4, .int r_5), (3, .int y_4), (0, .ref mo), (1, .int a1), (2, .int 0)]) hx hb dB_3_2_1.1.1.1.2 hl (by decide) rfl (fun ls hl => ?_)
      refine lv_aload_n hx hb dB_3_2_1.1.1.2.1 rfl (lv_at hl 2 rfl) ?_
      refine lv_iload_n hx hb dB_3_2_1.1.1.2.2 rfl (lv_at hl 3 rfl) ?_
      refine lv_iload_n hx hb dB_3_2_1.1.2.1.1 rfl (lv_at hl 4 rfl) ?_
      refine lv_if_ne (tgt := 39) hx hb dB_3_2_1.1.2.1.2 (by decide) (fun c_6 => ?_) (fun c_6 => ?_)
      · exact absurd c_6 (by decide)
      · have _ := c_6
        refine lv_iconst (v := 1) hx hb dB_3_2_1.1.2.2.1 (by decide) ?_
        refine lv_goto (tgt := 40) hx hb dB_3_2_1.1.2.2.2 (by decide) ?_
        refine ct_R hP hD0 [ob12_0_ mo s0 s1 t2 s3 s4 g5 g6 g7 g8 g9 g10 s11 g12 g13 g14 g15 g16 g17 g18 g19 g20 s21 g22 g23 g24 s25 s26 s27 s28 g29 g30 g31 g32 g33, ai_ cy g5 40 f5, ai_ cy g8 40 f8] [0, 1, 2] (by decide) rfl (fun hPc hDw => ?_)
        have hFc := va_free (wc := []) hD hS hA [] rfl
        refine va_calli (va_runV (As := [.int a1, .int 1]) (rest := []) ⟨hx, hb, hml, hown, hts⟩ (c_X12_room l D cy H.size mo g5 g6 g7 g8 g9 g10 g12 g13 g14 g15 g16 g17 g18 g19 g20 g22 g23 g24 g29 g30 g31 g32 g33 s0 s1 s3 s4 s11 s21 s25 s26 s27 s28 t2 f5 f8 a1 (1 : Int32) (by first | with_reducible assumption | omega | assumption)) (cwV 2 hts gX12_amount_X12_room rfl rfl rfl ⟨rfl, hd_X12_room⟩ ⟨Nat.le_of_ble_eq_true rfl, Nat.le_of_ble_eq_true rfl⟩) ⟨bl_, va_recvX hK.1 hP (ci := 12) (q0 := 0) rfl rfl, fun U hU hW => ⟨rfl, by rw [hU], by rw [hU]; exact hPc, kk_mv hW hK, hDw⟩⟩ rfl rfl hl.1 rfl (lv_room (Nat.le_of_ble_eq_true rfl)) dB_3_2_1.2.1.1.2 ⟨Nat.le_of_ble_eq_true rfl, Nat.le_of_ble_eq_true rfl⟩) hS (fun q _ h => hFc q h) hFc (fun r_7 u t H locs ht hvm hw hB hz1 hk1 hS => ?_)
        have hP : va_P D vwCl _ H := ro_keep hP hk1
        have f0_r_7 := hw
        have rI_2 := room_I (r := r_7) (by assumption) (by omega) (by omega) (r_f8 _ (in_lt (in_I (by omega) (by omega))))
        refine lv_istore (lv' := [(5, .int r_7), (4, .int r_5), (3, .int y_4), (0, .ref mo), (1, .int a1), (2, .int 0)]) hx hb dB_3_2_1.2.1.2.1 hl (by decide) rfl (fun ls hl => ?_)
        refine lv_iload_n hx hb dB_3_2_1.2.1.2.2 rfl (lv_at hl 2 rfl) ?_
        refine lv_if_ge (tgt := 64) hx hb dB_3_2_1.2.2.1.1 (by decide) (fun c_8 => ?_) (fun c_8 => ?_)
        · have t_8 : (0 : Int32).toInt ≤ y_4.toInt := Int32.le_iff_toInt_le.mp c_8
          refine lv_iload_n hx hb dB_3_2_2.1.2.2.2 rfl (lv_at hl 2 rfl) ?_
          refine lv_iload hx hb dB_3_2_2.2.1.1.1 (lv_at hl 1 rfl) ?_
          refine lv_icmp_ge (tgt := 77) hx hb dB_3_2_2.2.1.1.2 (by decide) (fun c_9 => ?_) (fun c_9 => ?_)
          · have t_9 : r_5.toInt ≤ y_4.toInt := Int32.le_iff_toInt_le.mp c_9
            refine lv_ldc (v := 1000000) hx hb hown (hts (.constant RX12 159 (1000000)) (List.mem_of_getElem? (i := 2) rfl)) dB_3_2_2.2.2.2.1 ?_
            rw [hQ]
            exact W.iret (v := 1000000) hx hb hr (fun t ht hW => ⟨⟨1000000, (), rfl, ⟨by unfold eA amI; (repeat' split) <;> omega, by omega⟩, trivial⟩, hS.F ht⟩) hS.2.2 dB_3_2_2.2.2.2.2
          · have t_9 : ¬ r_5.toInt ≤ y_4.toInt := fun h => c_9 (Int32.le_iff_toInt_le.mpr h)
            refine lv_iload hx hb dB_3_2_2.2.1.2.1 (lv_at hl 1 rfl) ?_
            refine lv_iload_n hx hb dB_3_2_2.2.1.2.2 rfl (lv_at hl 2 rfl) ?_
            refine lv_isub hx hb dB_3_2_2.2.2.1.1 ?_
            refine lv_topi (fun y_10 ey_10 => ?_)
            have ty_10 : y_10.toInt = r_5.toInt - y_4.toInt := by rw [ey_10]; exact subI (by omega) (by omega)
            refine lv_goto (tgt := 79) hx hb dB_3_2_2.2.2.1.2 (by decide) ?_
            rw [hQ]
            exact W.iret (v := y_10) hx hb hr (fun t ht hW => ⟨⟨y_10, (), rfl, ⟨by unfold eA amI; (repeat' split) <;> omega, by omega⟩, trivial⟩, hS.F ht⟩) hS.2.2 dB_3_2_2.2.2.2.2
        · have t_8 : ¬ (0 : Int32).toInt ≤ y_4.toInt := fun h => c_8 (Int32.le_iff_toInt_le.mpr h)
          refine lv_iload_n hx hb dB_3_2_1.2.2.1.2 rfl (lv_at hl 2 rfl) ?_
          refine lv_ineg hx hb dB_3_2_1.2.2.2.1 ?_
          refine lv_topi (fun y_11 ey_11 => ?_)
          have ty_11 : y_11.toInt = - y_4.toInt := by rw [ey_11]; exact negI (by omega)
          refine lv_iload hx hb dB_3_2_1.2.2.2.2 (lv_at hl 0 rfl) ?_
          refine lv_icmp_le (tgt := 64) hx hb dB_3_2_2.1.1.1 (by decide) (fun c_12 => ?_) (fun c_12 => ?_)
          · have t_12 : y_11.toInt ≤ r_7.toInt := Int32.le_iff_toInt_le.mp c_12
            refine lv_iload_n hx hb dB_3_2_2.1.2.2.2 rfl (lv_at hl 2 rfl) ?_
            refine lv_iload hx hb dB_3_2_2.2.1.1.1 (lv_at hl 1 rfl) ?_
            refine lv_icmp_ge (tgt := 77) hx hb dB_3_2_2.2.1.1.2 (by decide) (fun c_13 => ?_) (fun c_13 => ?_)
            · have t_13 : r_5.toInt ≤ y_4.toInt := Int32.le_iff_toInt_le.mp c_13
              refine lv_ldc (v := 1000000) hx hb hown (hts (.constant RX12 159 (1000000)) (List.mem_of_getElem? (i := 2) rfl)) dB_3_2_2.2.2.2.1 ?_
              rw [hQ]
              exact W.iret (v := 1000000) hx hb hr (fun t ht hW => ⟨⟨1000000, (), rfl, ⟨by unfold eA amI; (repeat' split) <;> omega, by omega⟩, trivial⟩, hS.F ht⟩) hS.2.2 dB_3_2_2.2.2.2.2
            · have t_13 : ¬ r_5.toInt ≤ y_4.toInt := fun h => c_13 (Int32.le_iff_toInt_le.mpr h)
              refine lv_iload hx hb dB_3_2_2.2.1.2.1 (lv_at hl 1 rfl) ?_
              refine lv_iload_n hx hb dB_3_2_2.2.1.2.2 rfl (lv_at hl 2 rfl) ?_
              refine lv_isub hx hb dB_3_2_2.2.2.1.1 ?_
              refine lv_topi (fun y_14 ey_14 => ?_)
              have ty_14 : y_14.toInt = r_5.toInt - y_4.toInt := by rw [ey_14]; exact subI (by omega) (by omega)
              refine lv_goto (tgt := 79) hx hb dB_3_2_2.2.2.1.2 (by decide) ?_
              rw [hQ]
              exact W.iret (v := y_14) hx hb hr (fun t ht hW => ⟨⟨y_14, (), rfl, ⟨by unfold eA amI; (repeat' split) <;> omega, by omega⟩, trivial⟩, hS.F ht⟩) hS.2.2 dB_3_2_2.2.2.2.2
          · have t_12 : ¬ y_11.toInt ≤ r_7.toInt := fun h => c_12 (Int32.le_iff_toInt_le.mpr h)
            refine lv_iload_n hx hb dB_3_2_2.1.1.2.1 rfl (lv_at hl 2 rfl) ?_
            refine lv_ineg hx hb dB_3_2_2.1.1.2.2 ?_
            refine lv_topi (fun y_15 ey_15 => ?_)
            have ty_15 : y_15.toInt = - y_4.toInt := by rw [ey_15]; exact negI (by omega)
            refine lv_iload hx hb dB_3_2_2.1.2.1.1 (lv_at hl 0 rfl) ?_
            refine lv_isub hx hb dB_3_2_2.1.2.1.2 ?_
            refine lv_topi (fun y_16 ey_16 => ?_)
            have ty_16 : y_16.toInt = y_15.toInt - r_7.toInt := by rw [ey_16]; exact subI (by omega) (by omega)
            refine lv_goto (tgt := 79) hx hb dB_3_2_2.1.2.2.1 (by decide) ?_
            rw [hQ]
            exact W.iret (v := y_16) hx hb hr (fun t ht hW => ⟨⟨y_16, (), rfl, ⟨by unfold eA amI; (repeat' split) <;> omega, by omega⟩, trivial⟩, hS.F ht⟩) hS.2.2 dB_3_2_2.2.2.2.2
    · exact absurd c_1 (by decide)
  · refine lv_iload_n hx hb dB_3_2_0.1.1.1.1 rfl (lv_at hl 2 rfl) ?_
    refine lv_if_eq (tgt := 13) hx hb dB_3_2_0.1.1.1.2 (by decide) (fun c_17 => ?_) (fun c_17 => ?_)
    · exact absurd c_17 (by decide)
    · have _ := c_17
      refine lv_aload_n hx hb dB_3_2_0.1.1.2.1 rfl (lv_at hl 0 rfl) ?_
      refine va_get (ci := 12) (v := .ref g22) (C := RX12) (T := TX12) (N := 34) hx hb hts (fun _ h => List.mem_cons_of_mem _ (List.mem_append_right _ h)) hown hK.1 hP 0 rfl rfl 22 (by decide) (hts (.fieldLink RX12 61 "CutAtlasModel" "flows" "[I") (List.mem_of_getElem? (i := 1) rfl)) (fun _ h9 => h9) rfl dB_3_2_0.1.1.2.2 ?_
      refine lv_iload_n hx hb dB_3_2_0.1.2.1.1 rfl (lv_at hl 1 rfl) ?_
      have h_18 : vp_in a1 40 := in_I (by first | with_reducible assumption | omega) (by omega)
      refine va_iald hx hb hK.1 hP 3 0 rfl rfl (i := a1) h_18 dB_3_2_0.1.2.1.2 ?_
      refine lv_topi (fun y_19 ey_19 => ?_)
      have ky_19 : y_19.toInt = (f22 a1.toNatClampNeg).toInt := by rw [ey_19]
      refine lv_goto (tgt := 20) hx hb dB_3_2_0.1.2.2.1 (by decide) ?_
      refine lv_istore_n (lv' := [(3, .int y_19), (0, .ref mo), (1, .int a1), (2, .int 1)]) hx hb dB_3_2_0.2.2.1.1 rfl hl (by decide) rfl (fun ls hl => ?_)
      refine lv_aload_n hx hb dB_3_2_0.2.2.1.2 rfl (lv_at hl 1 rfl) ?_
      refine lv_iload_n hx hb dB_3_2_0.2.2.2.1 rfl (lv_at hl 2 rfl) ?_
      refine lv_iload_n hx hb dB_3_2_0.2.2.2.2 rfl (lv_at hl 3 rfl) ?_
      refine ct_R hP hD0 [ob12_0_ mo s0 s1 t2 s3 s4 g5 g6 g7 g8 g9 g10 s11 g12 g13 g14 g15 g16 g17 g18 g19 g20 s21 g22 g23 g24 s25 s26 s27 s28 g29 g30 g31 g32 g33, ai_ cy g5 40 f5, ai_ cy g8 40 f8] [0, 1, 2] (by decide) rfl (fun hPc hDw => ?_)
      have hFc := va_free (wc := []) hD hS hA [] rfl
      refine va_calli (va_runV (As := [.int a1, .int 1]) (rest := []) ⟨hx, hb, hml, hown, hts⟩ (c_X12_room l D cy s.heap.size mo g5 g6 g7 g8 g9 g10 g12 g13 g14 g15 g16 g17 g18 g19 g20 g22 g23 g24 g29 g30 g31 g32 g33 s0 s1 s3 s4 s11 s21 s25 s26 s27 s28 t2 f5 f8 a1 (1 : Int32) (by first | with_reducible assumption | omega | assumption)) (cwV 2 hts gX12_amount_X12_room rfl rfl rfl ⟨rfl, hd_X12_room⟩ ⟨Nat.le_of_ble_eq_true rfl, Nat.le_of_ble_eq_true rfl⟩) ⟨bl_, va_recvX hK.1 hP (ci := 12) (q0 := 0) rfl rfl, fun U hU hW => ⟨rfl, by rw [hU], by rw [hU]; exact hPc, kk_mv hW hK, hDw⟩⟩ rfl rfl hl.1 rfl (lv_room (Nat.le_of_ble_eq_true rfl)) dB_3_2_1.1.1.1.1 ⟨Nat.le_of_ble_eq_true rfl, Nat.le_of_ble_eq_true rfl⟩) hS (fun q _ h => hFc q h) hFc (fun r_20 u t H locs ht hvm hw hB hz1 hk1 hS => ?_)
      have hP : va_P D vwCl _ H := ro_keep hP hk1
      have f0_r_20 := hw
      have rI_1 := room_I (r := r_20) (by assumption) (by omega) (by omega) (r_f8 _ (in_lt (in_I (by omega) (by omega))))
      refine lv_istore (lv' := [(4, .int r_20), (3, .int y_19), (0, .ref mo), (1, .int a1), (2, .int 1)]) hx hb dB_3_2_1.1.1.1.2 hl (by decide) rfl (fun ls hl => ?_)
      refine lv_aload_n hx hb dB_3_2_1.1.1.2.1 rfl (lv_at hl 2 rfl) ?_
      refine lv_iload_n hx hb dB_3_2_1.1.1.2.2 rfl (lv_at hl 3 rfl) ?_
      refine lv_iload_n hx hb dB_3_2_1.1.2.1.1 rfl (lv_at hl 4 rfl) ?_
      refine lv_if_ne (tgt := 39) hx hb dB_3_2_1.1.2.1.2 (by decide) (fun c_21 => ?_) (fun c_21 => ?_)
      · have _ := c_21
        refine lv_iconst (v := 0) hx hb dB_3_2_1.2.1.1.1 (by decide) ?_
        refine ct_R hP hD0 [ob12_0_ mo s0 s1 t2 s3 s4 g5 g6 g7 g8 g9 g10 s11 g12 g13 g14 g15 g16 g17 g18 g19 g20 s21 g22 g23 g24 s25 s26 s27 s28 g29 g30 g31 g32 g33, ai_ cy g5 40 f5, ai_ cy g8 40 f8] [0, 1, 2] (by decide) rfl (fun hPc hDw => ?_)
        have hFc := va_free (wc := []) hD hS hA [] rfl
        refine va_calli (va_runV (As := [.int a1, .int 0]) (rest := []) ⟨hx, hb, hml, hown, hts⟩ (c_X12_room l D cy H.size mo g5 g6 g7 g8 g9 g10 g12 g13 g14 g15 g16 g17 g18 g19 g20 g22 g23 g24 g29 g30 g31 g32 g33 s0 s1 s3 s4 s11 s21 s25 s26 s27 s28 t2 f5 f8 a1 (0 : Int32) (by first | with_reducible assumption | omega | assumption)) (cwV 2 hts gX12_amount_X12_room rfl rfl rfl ⟨rfl, hd_X12_room⟩ ⟨Nat.le_of_ble_eq_true rfl, Nat.le_of_ble_eq_true rfl⟩) ⟨bl_, va_recvX hK.1 hP (ci := 12) (q0 := 0) rfl rfl, fun U hU hW => ⟨rfl, by rw [hU], by rw [hU]; exact hPc, kk_mv hW hK, hDw⟩⟩ rfl rfl hl.1 rfl (lv_room (Nat.le_of_ble_eq_true rfl)) dB_3_2_1.2.1.1.2 ⟨Nat.le_of_ble_eq_true rfl, Nat.le_of_ble_eq_true rfl⟩) hS (fun q _ h => hFc q h) hFc (fun r_22 u t H locs ht hvm hw hB hz1 hk1 hS => ?_)
        have hP : va_P D vwCl _ H := ro_keep hP hk1
        have f0_r_22 := hw
        have rI_2 := room_I (r := r_22) (by assumption) (by omega) (by omega) (r_f8 _ (in_lt (in_I (by omega) (by omega))))
        refine lv_istore (lv' := [(5, .int r_22), (4, .int r_20), (3, .int y_19), (0, .ref mo), (1, .int a1), (2, .int 1)]) hx hb dB_3_2_1.2.1.2.1 hl (by decide) rfl (fun ls hl => ?_)
        refine lv_iload_n hx hb dB_3_2_1.2.1.2.2 rfl (lv_at hl 2 rfl) ?_
        refine lv_if_ge (tgt := 64) hx hb dB_3_2_1.2.2.1.1 (by decide) (fun c_23 => ?_) (fun c_23 => ?_)
        · have t_23 : (0 : Int32).toInt ≤ y_19.toInt := Int32.le_iff_toInt_le.mp c_23
          refine lv_iload_n hx hb dB_3_2_2.1.2.2.2 rfl (lv_at hl 2 rfl) ?_
          refine lv_iload hx hb dB_3_2_2.2.1.1.1 (lv_at hl 1 rfl) ?_
          refine lv_icmp_ge (tgt := 77) hx hb dB_3_2_2.2.1.1.2 (by decide) (fun c_24 => ?_) (fun c_24 => ?_)
          · have t_24 : r_20.toInt ≤ y_19.toInt := Int32.le_iff_toInt_le.mp c_24
            refine lv_ldc (v := 1000000) hx hb hown (hts (.constant RX12 159 (1000000)) (List.mem_of_getElem? (i := 2) rfl)) dB_3_2_2.2.2.2.1 ?_
            rw [hQ]
            exact W.iret (v := 1000000) hx hb hr (fun t ht hW => ⟨⟨1000000, (), rfl, ⟨by unfold eA amI; (repeat' split) <;> omega, by omega⟩, trivial⟩, hS.F ht⟩) hS.2.2 dB_3_2_2.2.2.2.2
          · have t_24 : ¬ r_20.toInt ≤ y_19.toInt := fun h => c_24 (Int32.le_iff_toInt_le.mpr h)
            refine lv_iload hx hb dB_3_2_2.2.1.2.1 (lv_at hl 1 rfl) ?_
            refine lv_iload_n hx hb dB_3_2_2.2.1.2.2 rfl (lv_at hl 2 rfl) ?_
            refine lv_isub hx hb dB_3_2_2.2.2.1.1 ?_
            refine lv_topi (fun y_25 ey_25 => ?_)
            have ty_25 : y_25.toInt = r_20.toInt - y_19.toInt := by rw [ey_25]; exact subI (by omega) (by omega)
            refine lv_goto (tgt := 79) hx hb dB_3_2_2.2.2.1.2 (by decide) ?_
            rw [hQ]
            exact W.iret (v := y_25) hx hb hr (fun t ht hW => ⟨⟨y_25, (), rfl, ⟨by unfold eA amI; (repeat' split) <;> omega, by omega⟩, trivial⟩, hS.F ht⟩) hS.2.2 dB_3_2_2.2.2.2.2
        · have t_23 : ¬ (0 : Int32).toInt ≤ y_19.toInt := fun h => c_23 (Int32.le_iff_toInt_le.mpr h)
          refine lv_iload_n hx hb dB_3_2_1.2.2.1.2 rfl (lv_at hl 2 rfl) ?_
          refine lv_ineg hx hb dB_3_2_1.2.2.2.1 ?_
          refine lv_topi (fun y_26 ey_26 => ?_)
          have ty_26 : y_26.toInt = - y_19.toInt := by rw [ey_26]; exact negI (by omega)
          refine lv_iload hx hb dB_3_2_1.2.2.2.2 (lv_at hl 0 rfl) ?_
          refine lv_icmp_le (tgt := 64) hx hb dB_3_2_2.1.1.1 (by decide) (fun c_27 => ?_) (fun c_27 => ?_)
          · have t_27 : y_26.toInt ≤ r_22.toInt := Int32.le_iff_toInt_le.mp c_27
            refine lv_iload_n hx hb dB_3_2_2.1.2.2.2 rfl (lv_at hl 2 rfl) ?_
            refine lv_iload hx hb dB_3_2_2.2.1.1.1 (lv_at hl 1 rfl) ?_
            refine lv_icmp_ge (tgt := 77) hx hb dB_3_2_2.2.1.1.2 (by decide) (fun c_28 => ?_) (fun c_28 => ?_)
            · have t_28 : r_20.toInt ≤ y_19.toInt := Int32.le_iff_toInt_le.mp c_28
              refine lv_ldc (v := 1000000) hx hb hown (hts (.constant RX12 159 (1000000)) (List.mem_of_getElem? (i := 2) rfl)) dB_3_2_2.2.2.2.1 ?_
              rw [hQ]
              exact W.iret (v := 1000000) hx hb hr (fun t ht hW => ⟨⟨1000000, (), rfl, ⟨by unfold eA amI; (repeat' split) <;> omega, by omega⟩, trivial⟩, hS.F ht⟩) hS.2.2 dB_3_2_2.2.2.2.2
            · have t_28 : ¬ r_20.toInt ≤ y_19.toInt := fun h => c_28 (Int32.le_iff_toInt_le.mpr h)
              refine lv_iload hx hb dB_3_2_2.2.1.2.1 (lv_at hl 1 rfl) ?_
              refine lv_iload_n hx hb dB_3_2_2.2.1.2.2 rfl (lv_at hl 2 rfl) ?_
              refine lv_isub hx hb dB_3_2_2.2.2.1.1 ?_
              refine lv_topi (fun y_29 ey_29 => ?_)
              have ty_29 : y_29.toInt = r_20.toInt - y_19.toInt := by rw [ey_29]; exact subI (by omega) (by omega)
              refine lv_goto (tgt := 79) hx hb dB_3_2_2.2.2.1.2 (by decide) ?_
              rw [hQ]
              exact W.iret (v := y_29) hx hb hr (fun t ht hW => ⟨⟨y_29, (), rfl, ⟨by unfold eA amI; (repeat' split) <;> omega, by omega⟩, trivial⟩, hS.F ht⟩) hS.2.2 dB_3_2_2.2.2.2.2
          · have t_27 : ¬ y_26.toInt ≤ r_22.toInt := fun h => c_27 (Int32.le_iff_toInt_le.mpr h)
            refine lv_iload_n hx hb dB_3_2_2.1.1.2.1 rfl (lv_at hl 2 rfl) ?_
            refine lv_ineg hx hb dB_3_2_2.1.1.2.2 ?_
            refine lv_topi (fun y_30 ey_30 => ?_)
            have ty_30 : y_30.toInt = - y_19.toInt := by rw [ey_30]; exact negI (by omega)
            refine lv_iload hx hb dB_3_2_2.1.2.1.1 (lv_at hl 0 rfl) ?_
            refine lv_isub hx hb dB_3_2_2.1.2.1.2 ?_
            refine lv_topi (fun y_31 ey_31 => ?_)
            have ty_31 : y_31.toInt = y_30.toInt - r_22.toInt := by rw [ey_31]; exact subI (by omega) (by omega)
            refine lv_goto (tgt := 79) hx hb dB_3_2_2.1.2.2.1 (by decide) ?_
            rw [hQ]
            exact W.iret (v := y_31) hx hb hr (fun t ht hW => ⟨⟨y_31, (), rfl, ⟨by unfold eA amI; (repeat' split) <;> omega, by omega⟩, trivial⟩, hS.F ht⟩) hS.2.2 dB_3_2_2.2.2.2.2
      · exact absurd c_21 (by decide)
end
