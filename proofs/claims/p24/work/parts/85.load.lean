section
set_option maxHeartbeats 4000000 in
set_option maxRecDepth 100000 in
theorem c_X0_load (l : Launch) (D : va_G) (cy : Nat → ClassId) (sz : Nat) (xc : Nat) (xk : Nat) (clo : Nat) (cro : Nat) (c4 : Nat) (c5 : Nat) (c6 : Nat) (c7 : Nat) (c8 : Nat) (xn : Nat) (n1 : Nat) (n2 : Nat) (n3 : Nat) (n4 : Nat) (n5 : Nat) (vp : Int32) (vn : Int32) (fk : Nat → Int32) (fs : Nat → Int32) (fe : Nat → Int32) (fw : Nat → Int32) (rl : Nat → Nat) (Ml : Nat → Nat → Int32) (f5 : Nat → Int32) (f6 : Nat → Int32) (k0 : Nat) (k1 : Nat) (k2 : Nat) (k3 : Nat) (k4 : Nat) (a1 : Int32) (hvp : 0 ≤ vp.toInt ∧ vp.toInt ≤ 12) (hvn : 0 ≤ vn.toInt ∧ vn.toInt ≤ 40) (hpr : prng fs fe 40) (r_fk : rng fk 40 (0) (4)) : Met l yX0_load wsX0_load ({ frames := 2, cells := 0, slots := 0, locals := 44 }) (va_Pc [.ref xc, .int a1] (fun U => U.heap.size = sz ∧ va_P D vwCl [ob0_0_ xc xn xk clo cro c4 c5 c6 c7 c8, ob3_0_ xn vp vn n1 n2 n3 n4 n5, ai_ cy n1 40 fk, ai_ cy n2 40 fs, ai_ cy n3 40 fe, ai_ cy n4 40 fw, aq_ cy 6 clo 12 (gf_ rl), ai_ cy (rl 0) 12 (Ml 0), ai_ cy (rl 1) 12 (Ml 1), ai_ cy (rl 2) 12 (Ml 2), ai_ cy (rl 3) 12 (Ml 3), ai_ cy (rl 4) 12 (Ml 4), ai_ cy (rl 5) 12 (Ml 5), ai_ cy (rl 6) 12 (Ml 6), ai_ cy (rl 7) 12 (Ml 7), ai_ cy (rl 8) 12 (Ml 8), ai_ cy (rl 9) 12 (Ml 9), ai_ cy (rl 10) 12 (Ml 10), ai_ cy (rl 11) 12 (Ml 11), ai_ cy c5 40 f5, ai_ cy c6 40 f6, aq_ cy 3 xk 5 (kf_ k0 k1 k2 k3 k4), ob6_0_ k0, ob5_0_ k1, ob9_0_ k2, ob2_0_ k3, ob8_0_ k4] U.heap ∧ kg_ D cy U ∧ va_D (fun _ => True) [ob0_0_ xc xn xk clo cro c4 c5 c6 c7 c8, ob3_0_ xn vp vn n1 n2 n3 n4 n5, ai_ cy n1 40 fk, ai_ cy n2 40 fs, ai_ cy n3 40 fe, ai_ cy n4 40 fw, aq_ cy 6 clo 12 (gf_ rl), ai_ cy (rl 0) 12 (Ml 0), ai_ cy (rl 1) 12 (Ml 1), ai_ cy (rl 2) 12 (Ml 2), ai_ cy (rl 3) 12 (Ml 3), ai_ cy (rl 4) 12 (Ml 4), ai_ cy (rl 5) 12 (Ml 5), ai_ cy (rl 6) 12 (Ml 6), ai_ cy (rl 7) 12 (Ml 7), ai_ cy (rl 8) 12 (Ml 8), ai_ cy (rl 9) 12 (Ml 9), ai_ cy (rl 10) 12 (Ml 10), ai_ cy (rl 11) 12 (Ml 11), ai_ cy c5 40 f5, ai_ cy c6 40 f6, aq_ cy 3 xk 5 (kf_ k0 k1 k2 k3 k4), ob6_0_ k0, ob5_0_ k1, ob9_0_ k2, ob2_0_ k3, ob8_0_ k4])) (va_Qv (fun (_ : Unit) => True) (fun (_ : Unit) (t : State) => ∃ (eMl : Nat → Nat → Int32), ∃ (e5 : Nat → Int32), ∃ (e6 : Nat → Int32), va_P D vwCl [ob0_0_ xc xn xk clo cro c4 c5 c6 c7 c8, ob3_0_ xn vp vn n1 n2 n3 n4 n5, ai_ cy n1 40 fk, ai_ cy n2 40 fs, ai_ cy n3 40 fe, ai_ cy n4 40 fw, aq_ cy 6 clo 12 (gf_ rl), ai_ cy (rl 0) 12 (eMl 0), ai_ cy (rl 1) 12 (eMl 1), ai_ cy (rl 2) 12 (eMl 2), ai_ cy (rl 3) 12 (eMl 3), ai_ cy (rl 4) 12 (eMl 4), ai_ cy (rl 5) 12 (eMl 5), ai_ cy (rl 6) 12 (eMl 6), ai_ cy (rl 7) 12 (eMl 7), ai_ cy (rl 8) 12 (eMl 8), ai_ cy (rl 9) 12 (eMl 9), ai_ cy (rl 10) 12 (eMl 10), ai_ cy (rl 11) 12 (eMl 11), ai_ cy c5 40 e5, ai_ cy c6 40 e6, aq_ cy 3 xk 5 (kf_ k0 k1 k2 k3 k4), ob6_0_ k0, ob5_0_ k1, ob9_0_ k2, ob2_0_ k3, ob8_0_ k4] t.heap ∧ va_D (va_A [ob0_0_ xc xn xk clo cro c4 c5 c6 c7 c8, ob3_0_ xn vp vn n1 n2 n3 n4 n5, ai_ cy n1 40 fk, ai_ cy n2 40 fs, ai_ cy n3 40 fe, ai_ cy n4 40 fw, aq_ cy 6 clo 12 (gf_ rl), ai_ cy (rl 0) 12 (Ml 0), ai_ cy (rl 1) 12 (Ml 1), ai_ cy (rl 2) 12 (Ml 2), ai_ cy (rl 3) 12 (Ml 3), ai_ cy (rl 4) 12 (Ml 4), ai_ cy (rl 5) 12 (Ml 5), ai_ cy (rl 6) 12 (Ml 6), ai_ cy (rl 7) 12 (Ml 7), ai_ cy (rl 8) 12 (Ml 8), ai_ cy (rl 9) 12 (Ml 9), ai_ cy (rl 10) 12 (Ml 10), ai_ cy (rl 11) 12 (Ml 11), ai_ cy c5 40 f5, ai_ cy c6 40 f6, aq_ cy 3 xk 5 (kf_ k0 k1 k2 k3 k4), ob6_0_ k0, ob5_0_ k1, ob9_0_ k2, ob2_0_ k3, ob8_0_ k4] sz) [ob0_0_ xc xn xk clo cro c4 c5 c6 c7 c8, ob3_0_ xn vp vn n1 n2 n3 n4 n5, ai_ cy n1 40 fk, ai_ cy n2 40 fs, ai_ cy n3 40 fe, ai_ cy n4 40 fw, aq_ cy 6 clo 12 (gf_ rl), ai_ cy (rl 0) 12 (eMl 0), ai_ cy (rl 1) 12 (eMl 1), ai_ cy (rl 2) 12 (eMl 2), ai_ cy (rl 3) 12 (eMl 3), ai_ cy (rl 4) 12 (eMl 4), ai_ cy (rl 5) 12 (eMl 5), ai_ cy (rl 6) 12 (eMl 6), ai_ cy (rl 7) 12 (eMl 7), ai_ cy (rl 8) 12 (eMl 8), ai_ cy (rl 9) 12 (eMl 9), ai_ cy (rl 10) 12 (eMl 10), ai_ cy (rl 11) 12 (eMl 11), ai_ cy c5 40 e5, ai_ cy c6 40 e6, aq_ cy 3 xk 5 (kf_ k0 k1 k2 k3 k4), ob6_0_ k0, ob5_0_ k1, ob9_0_ k2, ob2_0_ k3, ob8_0_ k4]) (va_A [ob0_0_ xc xn xk clo cro c4 c5 c6 c7 c8, ob3_0_ xn vp vn n1 n2 n3 n4 n5, ai_ cy n1 40 fk, ai_ cy n2 40 fs, ai_ cy n3 40 fe, ai_ cy n4 40 fw, aq_ cy 6 clo 12 (gf_ rl), ai_ cy (rl 0) 12 (Ml 0), ai_ cy (rl 1) 12 (Ml 1), ai_ cy (rl 2) 12 (Ml 2), ai_ cy (rl 3) 12 (Ml 3), ai_ cy (rl 4) 12 (Ml 4), ai_ cy (rl 5) 12 (Ml 5), ai_ cy (rl 6) 12 (Ml 6), ai_ cy (rl 7) 12 (Ml 7), ai_ cy (rl 8) 12 (Ml 8), ai_ cy (rl 9) 12 (Ml 9), ai_ cy (rl 10) 12 (Ml 10), ai_ cy (rl 11) 12 (Ml 11), ai_ cy c5 40 f5, ai_ cy c6 40 f6, aq_ cy 3 xk 5 (kf_ k0 k1 k2 k3 k4), ob6_0_ k0, ob5_0_ k1, ob9_0_ k2, ob2_0_ k3, ob8_0_ k4] sz)) 0 0 (va_A [ob0_0_ xc xn xk clo cro c4 c5 c6 c7 c8, ob3_0_ xn vp vn n1 n2 n3 n4 n5, ai_ cy n1 40 fk, ai_ cy n2 40 fs, ai_ cy n3 40 fe, ai_ cy n4 40 fw, aq_ cy 6 clo 12 (gf_ rl), ai_ cy (rl 0) 12 (Ml 0), ai_ cy (rl 1) 12 (Ml 1), ai_ cy (rl 2) 12 (Ml 2), ai_ cy (rl 3) 12 (Ml 3), ai_ cy (rl 4) 12 (Ml 4), ai_ cy (rl 5) 12 (Ml 5), ai_ cy (rl 6) 12 (Ml 6), ai_ cy (rl 7) 12 (Ml 7), ai_ cy (rl 8) 12 (Ml 8), ai_ cy (rl 9) 12 (Ml 9), ai_ cy (rl 10) 12 (Ml 10), ai_ cy (rl 11) 12 (Ml 11), ai_ cy c5 40 f5, ai_ cy c6 40 f6, aq_ cy 3 xk 5 (kf_ k0 k1 k2 k3 k4), ob6_0_ k0, ob5_0_ k1, ob9_0_ k2, ob2_0_ k3, ob8_0_ k4] sz) := by
  refine ofQ (cc := cX0_load) (maxL := 5) (ret := none) (by decide) rfl ?_
  intro p e s m args below meth c s₁ Q hQ B hml hv
  obtain ⟨rfl, hsz, hP, hK, hD0⟩ := hv
  have hG := hK.2
  have hK := hK.1
  have hx := B.exec
  have hb := B.bytes
  have hr := B.returns
  have hts := atoms_spec (ws := wsX0_load) B.pre
  have hown : s.vm.findClass RX0 = some m.cls := by have h_ := findClass_of_methodNamed B.named; exact h_
  have hlocks := B.notSynchronized
  subst hsz
  have hD := hD0.self (sz := s.heap.size)
  generalize hAe : va_A [ob0_0_ xc xn xk clo cro c4 c5 c6 c7 c8, ob3_0_ xn vp vn n1 n2 n3 n4 n5, ai_ cy n1 40 fk, ai_ cy n2 40 fs, ai_ cy n3 40 fe, ai_ cy n4 40 fw, aq_ cy 6 clo 12 (gf_ rl), ai_ cy (rl 0) 12 (Ml 0), ai_ cy (rl 1) 12 (Ml 1), ai_ cy (rl 2) 12 (Ml 2), ai_ cy (rl 3) 12 (Ml 3), ai_ cy (rl 4) 12 (Ml 4), ai_ cy (rl 5) 12 (Ml 5), ai_ cy (rl 6) 12 (Ml 6), ai_ cy (rl 7) 12 (Ml 7), ai_ cy (rl 8) 12 (Ml 8), ai_ cy (rl 9) 12 (Ml 9), ai_ cy (rl 10) 12 (Ml 10), ai_ cy (rl 11) 12 (Ml 11), ai_ cy c5 40 f5, ai_ cy c6 40 f6, aq_ cy 3 xk 5 (kf_ k0 k1 k2 k3 k4), ob6_0_ k0, ob5_0_ k1, ob9_0_ k2, ob2_0_ k3, ob8_0_ k4] s.heap.size = A at hD hQ
  have hA : ∀ q : Nat, s.heap.size ≤ q → A q := fun q h => by rw [← hAe]; exact Or.inr h
  have hS : va_S A s.heap s.heap [] := va_S.rf
  have hl := lv_entry ([.ref xc, .int a1]) (n := 5) (Nat.le_of_ble_eq_true rfl)
  rw [lg_entry_eq]
  generalize (lg_sl ([.ref xc, .int a1]) ++ List.replicate (5 - (lg_sl ([.ref xc, .int a1])).length) Slot.unset).toArray = ls at hl ⊢
  have hl : lv_has ls 5 [(0, .ref xc), (1, .int a1)] := hl
  have z0 : (0 : Int32).toInt = 0 := by decide
  have z1 : (1 : Int32).toInt = 1 := by decide
  have z2 : (2 : Int32).toInt = 2 := by decide
  have z3 : (3 : Int32).toInt = 3 := by decide
  have z4 : (4 : Int32).toInt = 4 := by decide
  have z5 : (5 : Int32).toInt = 5 := by decide
  have z6 : (6 : Int32).toInt = 6 := by decide
  have z7 : (7 : Int32).toInt = 7 := by decide
  have z8 : (8 : Int32).toInt = 8 := by decide
  have z9 : (9 : Int32).toInt = 9 := by decide
  have z10 : (10 : Int32).toInt = 10 := by decide
  have z11 : (11 : Int32).toInt = 11 := by decide
  refine lv_iconst (v := 0) hx hb dB_36_0_18.1.1.1.1 (by decide) ?_
  refine lv_istore_n (lv' := [(2, .int 0), (0, .ref xc), (1, .int a1)]) hx hb dB_36_0_18.1.1.1.2 rfl hl (by decide) rfl (fun ls hl => ?_)
  suffices LOOP_1 : ∀ (n_1 : Nat) (x2_1 : Int32) (m_rl_1 : Nat → Nat → Int32) (H : Heap) (locs : List Loc) (ls : Array Slot), vp.toInt - x2_1.toInt < (n_1 : Int) → (0 ≤ x2_1.toInt) → (x2_1.toInt ≤ vp.toInt) → pd_2 D vwCl A [ob0_0_ xc xn xk clo cro c4 c5 c6 c7 c8, ob3_0_ xn vp vn n1 n2 n3 n4 n5, ai_ cy n1 40 fk, ai_ cy n2 40 fs, ai_ cy n3 40 fe, ai_ cy n4 40 fw, aq_ cy 6 clo 12 (gf_ rl), ai_ cy (rl 0) 12 (m_rl_1 0), ai_ cy (rl 1) 12 (m_rl_1 1), ai_ cy (rl 2) 12 (m_rl_1 2), ai_ cy (rl 3) 12 (m_rl_1 3), ai_ cy (rl 4) 12 (m_rl_1 4), ai_ cy (rl 5) 12 (m_rl_1 5), ai_ cy (rl 6) 12 (m_rl_1 6), ai_ cy (rl 7) 12 (m_rl_1 7), ai_ cy (rl 8) 12 (m_rl_1 8), ai_ cy (rl 9) 12 (m_rl_1 9), ai_ cy (rl 10) 12 (m_rl_1 10), ai_ cy (rl 11) 12 (m_rl_1 11), ai_ cy c5 40 f5, ai_ cy c6 40 f6, aq_ cy 3 xk 5 (kf_ k0 k1 k2 k3 k4), ob6_0_ k0, ob5_0_ k1, ob9_0_ k2, ob2_0_ k3, ob8_0_ k4] H → va_S A s.heap H locs → lv_has ls 5 [(2, .int x2_1), (0, .ref xc), (1, .int a1)] → W p l e ({ frames := 2, cells := 0, slots := 0, locals := 44 } : Room) s m (([.ref xc, .int a1] : List Value).toArray) below meth c H locs 0 0 Q (F0 m 2 ls []) from LOOP_1 ((vp.toInt - (0 : Int32).toInt).toNat + 1) (0 : Int32) Ml _ _ _ (by omega) (by first | with_reducible assumption | omega | assumption) (by first | with_reducible assumption | omega | assumption) ⟨hP, hD⟩ hS (lv_sub hl [0, 1, 2] rfl)
  intro n_1
  induction n_1 with
  | zero =>
    intro x2_1 m_rl_1 H locs ls hm v0_1 v1_1 hPD hS hl; obtain ⟨hP, hD⟩ := hPD
    exact absurd hm (by omega)
  | succ n_1 ih_1 =>
    intro x2_1 m_rl_1 H locs ls hm v0_1 v1_1 hPD hS hl; obtain ⟨hP, hD⟩ := hPD
    refine lv_iload_n hx hb dB_36_0_18.1.1.2.1 rfl (lv_at hl 0 rfl) ?_
    refine lv_aload_n hx hb dB_36_0_18.1.1.2.2 rfl (lv_at hl 1 rfl) ?_
    refine va_get (ci := 0) (v := .ref xn) (C := RX0) (T := TX0) (N := 9) hx hb hts (fun _ h => List.mem_cons_of_mem _ (List.mem_append_left _ (List.mem_append_right _ h))) hown hK.1 hP 0 rfl rfl 0 (by decide) (hts (.fieldLink RX0 35 "CutAtlas$Current" "net" "LCutAtlas$Net;") (List.mem_of_getElem? (i := 1) rfl)) (fun _ h9 => h9) rfl dB_36_0_18.1.2.1.1 ?_
    refine va_get (ci := 3) (v := .int vp) (C := RX3) (T := TX3) (N := 7) hx hb hts (fun _ h => List.mem_cons_of_mem _ (List.mem_append_right _ h)) hown hK.1 hP 1 rfl rfl 0 (by decide) (hts (.fieldLink RX0 43 "CutAtlas$Net" "places" "I") (List.mem_of_getElem? (i := 2) rfl)) (fun _ h9 => h9) rfl dB_36_0_18.1.2.1.2 ?_
    refine lv_icmp_ge (tgt := 29) hx hb dB_36_0_18.1.2.2.1 (by decide) (fun c_2 => ?_) (fun c_2 => ?_)
    · have t_2 : vp.toInt ≤ x2_1.toInt := Int32.le_iff_toInt_le.mp c_2
      refine lv_iconst (v := 0) hx hb dB_36_0_18.2.2.2.2 (by decide) ?_
      refine lv_istore_n (lv' := [(2, .int 0), (0, .ref xc), (1, .int a1)]) hx hb dB_36_0_19.1.1.1.1 rfl hl (by decide) rfl (fun ls hl => ?_)
      suffices LOOP_3 : ∀ (n_3 : Nat) (x2_3 : Int32) (m_rl_3 : Nat → Nat → Int32) (c_c5_3 : Nat → Int32) (c_c6_3 : Nat → Int32) (H : Heap) (locs : List Loc) (ls : Array Slot), vn.toInt - x2_3.toInt < (n_3 : Int) → (0 ≤ x2_3.toInt) → (x2_3.toInt ≤ vn.toInt) → pd_2 D vwCl A [ob0_0_ xc xn xk clo cro c4 c5 c6 c7 c8, ob3_0_ xn vp vn n1 n2 n3 n4 n5, ai_ cy n1 40 fk, ai_ cy n2 40 fs, ai_ cy n3 40 fe, ai_ cy n4 40 fw, aq_ cy 6 clo 12 (gf_ rl), ai_ cy (rl 0) 12 (m_rl_3 0), ai_ cy (rl 1) 12 (m_rl_3 1), ai_ cy (rl 2) 12 (m_rl_3 2), ai_ cy (rl 3) 12 (m_rl_3 3), ai_ cy (rl 4) 12 (m_rl_3 4), ai_ cy (rl 5) 12 (m_rl_3 5), ai_ cy (rl 6) 12 (m_rl_3 6), ai_ cy (rl 7) 12 (m_rl_3 7), ai_ cy (rl 8) 12 (m_rl_3 8), ai_ cy (rl 9) 12 (m_rl_3 9), ai_ cy (rl 10) 12 (m_rl_3 10), ai_ cy (rl 11) 12 (m_rl_3 11), ai_ cy c5 40 c_c5_3, ai_ cy c6 40 c_c6_3, aq_ cy 3 xk 5 (kf_ k0 k1 k2 k3 k4), ob6_0_ k0, ob5_0_ k1, ob9_0_ k2, ob2_0_ k3, ob8_0_ k4] H → va_S A s.heap H locs → lv_has ls 5 [(2, .int x2_3), (0, .ref xc), (1, .int a1)] → W p l e ({ frames := 2, cells := 0, slots := 0, locals := 44 } : Room) s m (([.ref xc, .int a1] : List Value).toArray) below meth c H locs 0 0 Q (F0 m 31 ls []) from LOOP_3 ((vn.toInt - (0 : Int32).toInt).toNat + 1) (0 : Int32) m_rl_1 f5 f6 _ _ _ (by omega) (by first | with_reducible assumption | omega | assumption) (by first | with_reducible assumption | omega | assumption) ⟨hP, hD⟩ hS (lv_sub hl [0, 1, 2] rfl)
      intro n_3
      induction n_3 with
      | zero =>
        intro x2_3 m_rl_3 c_c5_3 c_c6_3 H locs ls hm v0_3 v1_3 hPD hS hl; obtain ⟨hP, hD⟩ := hPD
        exact absurd hm (by omega)
      | succ n_3 ih_3 =>
        intro x2_3 m_rl_3 c_c5_3 c_c6_3 H locs ls hm v0_3 v1_3 hPD hS hl; obtain ⟨hP, hD⟩ := hPD
        refine lv_iload_n hx hb dB_36_0_19.1.1.1.2 rfl (lv_at hl 0 rfl) ?_
        refine lv_aload_n hx hb dB_36_0_19.1.1.2.1 rfl (lv_at hl 1 rfl) ?_
        refine va_get (ci := 0) (v := .ref xn) (C := RX0) (T := TX0) (N := 9) hx hb hts (fun _ h => List.mem_cons_of_mem _ (List.mem_append_left _ (List.mem_append_right _ h))) hown hK.1 hP 0 rfl rfl 0 (by decide) (hts (.fieldLink RX0 35 "CutAtlas$Current" "net" "LCutAtlas$Net;") (List.mem_of_getElem? (i := 1) rfl)) (fun _ h9 => h9) rfl dB_36_0_19.1.1.2.2 ?_
        refine va_get (ci := 3) (v := .int vn) (C := RX3) (T := TX3) (N := 7) hx hb hts (fun _ h => List.mem_cons_of_mem _ (List.mem_append_right _ h)) hown hK.1 hP 1 rfl rfl 1 (by decide) (hts (.fieldLink RX0 55 "CutAtlas$Net" "lines" "I") (List.mem_of_getElem? (i := 4) rfl)) (fun _ h9 => h9) rfl dB_36_0_19.1.2.1.1 ?_
        refine lv_icmp_ge (tgt := 202) hx hb dB_36_0_19.1.2.1.2 (by decide) (fun c_4 => ?_) (fun c_4 => ?_)
        · have t_4 : vn.toInt ≤ x2_3.toInt := Int32.le_iff_toInt_le.mp c_4
          rw [hQ]
          exact W.vret hx hb hr (fun t ht hW => ⟨⟨(), rfl, trivial, m_rl_3, c_c5_3, c_c6_3, by rw [ht]; exact hP, hD⟩, hS.F ht⟩) hS.2.2 dB_36_0_25.2.2
        · have t_4 : ¬ vn.toInt ≤ x2_3.toInt := fun h => c_4 (Int32.le_iff_toInt_le.mpr h)
          refine lv_aload_n hx hb dB_36_0_19.1.2.2.1 rfl (lv_at hl 1 rfl) ?_
          refine va_get (ci := 0) (v := .ref xn) (C := RX0) (T := TX0) (N := 9) hx hb hts (fun _ h => List.mem_cons_of_mem _ (List.mem_append_left _ (List.mem_append_right _ h))) hown hK.1 hP 0 rfl rfl 0 (by decide) (hts (.fieldLink RX0 35 "CutAtlas$Current" "net" "LCutAtlas$Net;") (List.mem_of_getElem? (i := 1) rfl)) (fun _ h9 => h9) rfl dB_36_0_19.1.2.2.2 ?_
          refine lv_iload_n hx hb dB_36_0_19.2.1.1.1 rfl (lv_at hl 0 rfl) ?_
          refine ct_R hP hD [ob3_0_ xn vp vn n1 n2 n3 n4 n5, ai_ cy n2 40 fs] [1, 3] (by decide) rfl (fun hPc hDw => ?_)
          have hFc := va_free (wc := []) hD hS hA [] rfl
          refine va_calli (va_runV (As := [.int x2_3]) (rest := []) ⟨hx, hb, hml, hown, hts⟩ (c_X3_isMissing l D cy H.size xn n1 n2 n3 n4 n5 vp vn fs x2_3 (by first | with_reducible assumption | omega | assumption)) (cwV 1 hts gX0_load_X3_isMissing rfl rfl rfl ⟨rfl, hd_X3_isMissing⟩ ⟨Nat.le_of_ble_eq_true rfl, Nat.le_of_ble_eq_true rfl⟩) ⟨bl_, va_recvX hK.1 hP (ci := 3) (q0 := 1) rfl rfl, fun U hU hW => ⟨rfl, by rw [hU], by rw [hU]; exact hPc, kk_mv hW hK, hDw⟩⟩ rfl rfl hl.1 rfl (lv_room (Nat.le_of_ble_eq_true rfl)) dB_36_0_19.2.1.1.2 ⟨Nat.le_of_ble_eq_true rfl, Nat.le_of_ble_eq_true rfl⟩) hS (fun q _ h => hFc q h) hFc (fun r_5 u t H locs ht hvm hw hB hz1 hk1 hS => ?_)
          have hP : va_P D vwCl _ H := ro_keep hP hk1
          rcases hw with ⟨w_6, e_⟩ | ⟨w_6, e_⟩
          · have e_ := e_.symm
            subst e_
            refine lv_if_ne (tgt := 196) hx hb dB_36_0_19.2.1.2.1 (by decide) (fun c_7 => ?_) (fun c_7 => ?_)
            · have _ := c_7
              obtain ⟨y_8, ey_8⟩ : ∃ y : Int32, y = x2_3 + 1 := ⟨_, rfl⟩
              have ty_8 : y_8.toInt = x2_3.toInt + (1 : Int32).toInt := by rw [ey_8]; exact addI (by omega) (by omega)
              refine lv_iinc (v := y_8) (lv' := [(2, .int y_8), (0, .ref xc), (1, .int a1)]) hx hb dB_36_0_25.1.2 hl (k := 0) rfl (by rw [ey_8]; rfl) (by decide) rfl (fun ls hl => ?_)
              refine lv_goto (tgt := 31) hx hb dB_36_0_25.2.1 (by decide) ?_
              exact ih_3 y_8 m_rl_3 c_c5_3 c_c6_3 _ _ _ (by omega) (by first | with_reducible assumption | omega | assumption) (by first | with_reducible assumption | omega | assumption) ⟨hP, hD⟩ hS (lv_sub hl [0, 1, 2] rfl)
            · exact absurd c_7 (by decide)
          · have e_ := e_.symm
            subst e_
            refine lv_if_ne (tgt := 196) hx hb dB_36_0_19.2.1.2.1 (by decide) (fun c_9 => ?_) (fun c_9 => ?_)
            · exact absurd c_9 (by decide)
            · have _ := c_9
              have JOIN_10 : ∀ (u0_10 : Int32) (H : Heap) (locs : List Loc) (ls : Array Slot), pd_2 D vwCl A [ob0_0_ xc xn xk clo cro c4 c5 c6 c7 c8, ob3_0_ xn vp vn n1 n2 n3 n4 n5, ai_ cy n1 40 fk, ai_ cy n2 40 fs, ai_ cy n3 40 fe, ai_ cy n4 40 fw, aq_ cy 6 clo 12 (gf_ rl), ai_ cy (rl 0) 12 (m_rl_3 0), ai_ cy (rl 1) 12 (m_rl_3 1), ai_ cy (rl 2) 12 (m_rl_3 2), ai_ cy (rl 3) 12 (m_rl_3 3), ai_ cy (rl 4) 12 (m_rl_3 4), ai_ cy (rl 5) 12 (m_rl_3 5), ai_ cy (rl 6) 12 (m_rl_3 6), ai_ cy (rl 7) 12 (m_rl_3 7), ai_ cy (rl 8) 12 (m_rl_3 8), ai_ cy (rl 9) 12 (m_rl_3 9), ai_ cy (rl 10) 12 (m_rl_3 10), ai_ cy (rl 11) 12 (m_rl_3 11), ai_ cy c5 40 c_c5_3, ai_ cy c6 40 c_c6_3, aq_ cy 3 xk 5 (kf_ k0 k1 k2 k3 k4), ob6_0_ k0, ob5_0_ k1, ob9_0_ k2, ob2_0_ k3, ob8_0_ k4] H → va_S A s.heap H locs → lv_has ls 5 [(2, .int x2_3), (0, .ref xc), (1, .int a1)] → W p l e ({ frames := 2, cells := 0, slots := 0, locals := 44 } : Room) s m (([.ref xc, .int a1] : List Value).toArray) below meth c H locs 0 0 Q (F0 m 81 ls [.int u0_10]) := by
                intro u0_10 H locs ls hPD hS hl; obtain ⟨hP, hD⟩ := hPD
                refine lv_istore_n (lv' := [(3, .int u0_10), (2, .int x2_3), (0, .ref xc), (1, .int a1)]) hx hb dB_36_0_20.2.1.2.2 rfl hl (by decide) rfl (fun ls hl => ?_)
                have JOIN_11 : ∀ (c_c5_11 : Nat → Int32) (c_c6_11 : Nat → Int32) (H : Heap) (locs : List Loc) (ls : Array Slot), pd_2 D vwCl A [ob0_0_ xc xn xk clo cro c4 c5 c6 c7 c8, ob3_0_ xn vp vn n1 n2 n3 n4 n5, ai_ cy n1 40 fk, ai_ cy n2 40 fs, ai_ cy n3 40 fe, ai_ cy n4 40 fw, aq_ cy 6 clo 12 (gf_ rl), ai_ cy (rl 0) 12 (m_rl_3 0), ai_ cy (rl 1) 12 (m_rl_3 1), ai_ cy (rl 2) 12 (m_rl_3 2), ai_ cy (rl 3) 12 (m_rl_3 3), ai_ cy (rl 4) 12 (m_rl_3 4), ai_ cy (rl 5) 12 (m_rl_3 5), ai_ cy (rl 6) 12 (m_rl_3 6), ai_ cy (rl 7) 12 (m_rl_3 7), ai_ cy (rl 8) 12 (m_rl_3 8), ai_ cy (rl 9) 12 (m_rl_3 9), ai_ cy (rl 10) 12 (m_rl_3 10), ai_ cy (rl 11) 12 (m_rl_3 11), ai_ cy c5 40 c_c5_11, ai_ cy c6 40 c_c6_11, aq_ cy 3 xk 5 (kf_ k0 k1 k2 k3 k4), ob6_0_ k0, ob5_0_ k1, ob9_0_ k2, ob2_0_ k3, ob8_0_ k4] H → va_S A s.heap H locs → lv_has ls 5 [(2, .int x2_3), (0, .ref xc), (1, .int a1)] → W p l e ({ frames := 2, cells := 0, slots := 0, locals := 44 } : Room) s m (([.ref xc, .int a1] : List Value).toArray) below meth c H locs 0 0 Q (F0 m 130 ls []) := by
                  intro c_c5_11 c_c6_11 H locs ls hPD hS hl; obtain ⟨hP, hD⟩ := hPD
                  refine lv_aload_n hx hb dB_36_0_22.1.2.2.2 rfl (lv_at hl 1 rfl) ?_
                  refine va_get (ci := 0) (v := .ref clo) (C := RX0) (T := TX0) (N := 9) hx hb hts (fun _ h => List.mem_cons_of_mem _ (List.mem_append_left _ (List.mem_append_right _ h))) hown hK.1 hP 0 rfl rfl 2 (by decide) (hts (.fieldLink RX0 11 "CutAtlas$Current" "lets" "[[I") (List.mem_of_getElem? (i := 3) rfl)) (fun _ h9 => h9) rfl dB_36_0_22.2.1.1.1 ?_
                  refine lv_aload_n hx hb dB_36_0_22.2.1.1.2 rfl (lv_at hl 1 rfl) ?_
                  refine va_get (ci := 0) (v := .ref xn) (C := RX0) (T := TX0) (N := 9) hx hb hts (fun _ h => List.mem_cons_of_mem _ (List.mem_append_left _ (List.mem_append_right _ h))) hown hK.1 hP 0 rfl rfl 0 (by decide) (hts (.fieldLink RX0 35 "CutAtlas$Current" "net" "LCutAtlas$Net;") (List.mem_of_getElem? (i := 1) rfl)) (fun _ h9 => h9) rfl dB_36_0_22.2.1.2.1 ?_
                  refine va_get (ci := 3) (v := .ref n2) (C := RX3) (T := TX3) (N := 7) hx hb hts (fun _ h => List.mem_cons_of_mem _ (List.mem_append_right _ h)) hown hK.1 hP 1 rfl rfl 3 (by decide) (hts (.fieldLink RX0 76 "CutAtlas$Net" "starts" "[I") (List.mem_of_getElem? (i := 10) rfl)) (fun _ h9 => h9) rfl dB_36_0_22.2.1.2.2 ?_
                  refine lv_iload_n hx hb dB_36_0_22.2.2.1.1 rfl (lv_at hl 0 rfl) ?_
                  have h_12 : vp_in x2_3 40 := in_I (by first | with_reducible assumption | omega) (by omega)
                  refine va_iald hx hb hK.1 hP 3 0 rfl rfl (i := x2_3) h_12 dB_36_0_22.2.2.1.2 ?_
                  refine lv_topi (fun y_13 ey_13 => ?_)
                  have ry_13 := hpr _ (in_lt h_12)
                  have jy_13 : y_13.toInt = (fs x2_3.toNatClampNeg).toInt := by rw [ey_13]
                  have h_14 : vp_in y_13 12 := in_I (by first | with_reducible assumption | omega) (by omega)
                  refine va_alda hx hb hG hP 6 rfl (i := y_13) h_14 dB_36_0_22.2.2.2.1 ?_
                  refine lv_topv (v' := .ref (rl y_13.toNatClampNeg)) (gf_at h_14) ?_
                  refine lv_aload_n hx hb dB_36_0_22.2.2.2.2 rfl (lv_at hl 1 rfl) ?_
                  refine va_get (ci := 0) (v := .ref xn) (C := RX0) (T := TX0) (N := 9) hx hb hts (fun _ h => List.mem_cons_of_mem _ (List.mem_append_left _ (List.mem_append_right _ h))) hown hK.1 hP 0 rfl rfl 0 (by decide) (hts (.fieldLink RX0 35 "CutAtlas$Current" "net" "LCutAtlas$Net;") (List.mem_of_getElem? (i := 1) rfl)) (fun _ h9 => h9) rfl dB_36_0_23.1.1.1.1 ?_
                  refine va_get (ci := 3) (v := .ref n3) (C := RX3) (T := TX3) (N := 7) hx hb hts (fun _ h => List.mem_cons_of_mem _ (List.mem_append_right _ h)) hown hK.1 hP 1 rfl rfl 4 (by decide) (hts (.fieldLink RX0 79 "CutAtlas$Net" "ends" "[I") (List.mem_of_getElem? (i := 11) rfl)) (fun _ h9 => h9) rfl dB_36_0_23.1.1.1.2 ?_
                  refine lv_iload_n hx hb dB_36_0_23.1.1.2.1 rfl (lv_at hl 0 rfl) ?_
                  refine va_iald hx hb hK.1 hP 4 0 rfl rfl (i := x2_3) h_12 dB_36_0_23.1.1.2.2 ?_
                  refine lv_topi (fun y_16 ey_16 => ?_)
                  have ry_16 := hpr _ (in_lt h_12)
                  have jy_16 : y_16.toInt = (fe x2_3.toNatClampNeg).toInt := by rw [ey_16]
                  refine lv_dup2_11 hx hb dB_36_0_23.1.2.1.1 rfl rfl ?_
                  have h_17 : vp_in y_16 12 := in_I (by first | with_reducible assumption | omega) (by omega)
                  have hPg : va_P D vwCl (([ob0_0_ xc xn xk clo cro c4 c5 c6 c7 c8, ob3_0_ xn vp vn n1 n2 n3 n4 n5, ai_ cy n1 40 fk, ai_ cy n2 40 fs, ai_ cy n3 40 fe, ai_ cy n4 40 fw, aq_ cy 6 clo 12 (gf_ rl)] : va_W) ++ (gro (cy 0) rl m_rl_3 ++ ([ai_ cy c5 40 c_c5_11, ai_ cy c6 40 c_c6_11, aq_ cy 3 xk 5 (kf_ k0 k1 k2 k3 k4), ob6_0_ k0, ob5_0_ k1, ob9_0_ k2, ob2_0_ k3, ob8_0_ k4] : va_W))) H := hP
                  refine va_gld (X := [ob0_0_ xc xn xk clo cro c4 c5 c6 c7 c8, ob3_0_ xn vp vn n1 n2 n3 n4 n5, ai_ cy n1 40 fk, ai_ cy n2 40 fs, ai_ cy n3 40 fe, ai_ cy n4 40 fw, aq_ cy 6 clo 12 (gf_ rl)]) (Y := [ai_ cy c5 40 c_c5_11, ai_ cy c6 40 c_c6_11, aq_ cy 3 xk 5 (kf_ k0 k1 k2 k3 k4), ob6_0_ k0, ob5_0_ k1, ob9_0_ k2, ob2_0_ k3, ob8_0_ k4]) (r := rl) (M := m_rl_3) (k := y_13.toNatClampNeg) hx hb hK.1 hPg 0 rfl (in_lt h_14) (i := y_16) h_17 dB_36_0_23.1.2.1.2 ?_
                  refine lv_topi (fun y_18 ey_18 => ?_)
                  refine lv_aload_n hx hb dB_36_0_23.1.2.2.1 rfl (lv_at hl 1 rfl) ?_
                  refine va_get (ci := 0) (v := .ref c5) (C := RX0) (T := TX0) (N := 9) hx hb hts (fun _ h => List.mem_cons_of_mem _ (List.mem_append_left _ (List.mem_append_right _ h))) hown hK.1 hP 0 rfl rfl 5 (by decide) (hts (.fieldLink RX0 23 "CutAtlas$Current" "letsForth" "[I") (List.mem_of_getElem? (i := 8) rfl)) (fun _ h9 => h9) rfl dB_36_0_23.1.2.2.2 ?_
                  refine lv_iload_n hx hb dB_36_0_23.2.1.1.1 rfl (lv_at hl 0 rfl) ?_
                  refine va_iald hx hb hK.1 hP 19 0 rfl rfl (i := x2_3) h_12 dB_36_0_23.2.1.1.2 ?_
                  refine lv_topi (fun y_20 ey_20 => ?_)
                  refine lv_iadd hx hb dB_36_0_23.2.1.2.1 ?_
                  refine lv_topi (fun y_21 ey_21 => ?_)
                  have hPg : va_P D vwCl (([ob0_0_ xc xn xk clo cro c4 c5 c6 c7 c8, ob3_0_ xn vp vn n1 n2 n3 n4 n5, ai_ cy n1 40 fk, ai_ cy n2 40 fs, ai_ cy n3 40 fe, ai_ cy n4 40 fw, aq_ cy 6 clo 12 (gf_ rl)] : va_W) ++ (gro (cy 0) rl m_rl_3 ++ ([ai_ cy c5 40 c_c5_11, ai_ cy c6 40 c_c6_11, aq_ cy 3 xk 5 (kf_ k0 k1 k2 k3 k4), ob6_0_ k0, ob5_0_ k1, ob9_0_ k2, ob2_0_ k3, ob8_0_ k4] : va_W))) H := hP
                  have hDg : va_D A (([ob0_0_ xc xn xk clo cro c4 c5 c6 c7 c8, ob3_0_ xn vp vn n1 n2 n3 n4 n5, ai_ cy n1 40 fk, ai_ cy n2 40 fs, ai_ cy n3 40 fe, ai_ cy n4 40 fw, aq_ cy 6 clo 12 (gf_ rl)] : va_W) ++ (gro (cy 0) rl m_rl_3 ++ ([ai_ cy c5 40 c_c5_11, ai_ cy c6 40 c_c6_11, aq_ cy 3 xk 5 (kf_ k0 k1 k2 k3 k4), ob6_0_ k0, ob5_0_ k1, ob9_0_ k2, ob2_0_ k3, ob8_0_ k4] : va_W))) := hD
                  refine va_gst (X := [ob0_0_ xc xn xk clo cro c4 c5 c6 c7 c8, ob3_0_ xn vp vn n1 n2 n3 n4 n5, ai_ cy n1 40 fk, ai_ cy n2 40 fs, ai_ cy n3 40 fe, ai_ cy n4 40 fw, aq_ cy 6 clo 12 (gf_ rl)]) (Y := [ai_ cy c5 40 c_c5_11, ai_ cy c6 40 c_c6_11, aq_ cy 3 xk 5 (kf_ k0 k1 k2 k3 k4), ob6_0_ k0, ob5_0_ k1, ob9_0_ k2, ob2_0_ k3, ob8_0_ k4]) (r := rl) (M := m_rl_3) (k := y_13.toNatClampNeg) hx hb hK.1 hPg hDg hS 0 rfl (in_lt h_14) (i := y_16) h_17 dB_36_0_23.2.1.2.2 (fun H locs hP hD hS => ?_)
                  obtain ⟨M_23, eM_23⟩ : ∃ g : Nat → Nat → Int32, g = va_up m_rl_3 y_13.toNatClampNeg (upd (m_rl_3 y_13.toNatClampNeg) y_16.toNatClampNeg y_21) := ⟨_, rfl⟩
                  refine pd_K (D := D) (cl := vwCl) (H := H) (A := A) [ob0_0_ xc xn xk clo cro c4 c5 c6 c7 c8, ob3_0_ xn vp vn n1 n2 n3 n4 n5, ai_ cy n1 40 fk, ai_ cy n2 40 fs, ai_ cy n3 40 fe, ai_ cy n4 40 fw, aq_ cy 6 clo 12 (gf_ rl), ai_ cy (rl 0) 12 (M_23 0), ai_ cy (rl 1) 12 (M_23 1), ai_ cy (rl 2) 12 (M_23 2), ai_ cy (rl 3) 12 (M_23 3), ai_ cy (rl 4) 12 (M_23 4), ai_ cy (rl 5) 12 (M_23 5), ai_ cy (rl 6) 12 (M_23 6), ai_ cy (rl 7) 12 (M_23 7), ai_ cy (rl 8) 12 (M_23 8), ai_ cy (rl 9) 12 (M_23 9), ai_ cy (rl 10) 12 (M_23 10), ai_ cy (rl 11) 12 (M_23 11), ai_ cy c5 40 c_c5_11, ai_ cy c6 40 c_c6_11, aq_ cy 3 xk 5 (kf_ k0 k1 k2 k3 k4), ob6_0_ k0, ob5_0_ k1, ob9_0_ k2, ob2_0_ k3, ob8_0_ k4] (by rw [eM_23]; exact hP) (by rw [eM_23]; exact hD) (fun hP hD => ?_)
                  refine lv_aload_n hx hb dB_36_0_23.2.2.1.1 rfl (lv_at hl 1 rfl) ?_
                  refine va_get (ci := 0) (v := .ref clo) (C := RX0) (T := TX0) (N := 9) hx hb hts (fun _ h => List.mem_cons_of_mem _ (List.mem_append_left _ (List.mem_append_right _ h))) hown hK.1 hP 0 rfl rfl 2 (by decide) (hts (.fieldLink RX0 11 "CutAtlas$Current" "lets" "[[I") (List.mem_of_getElem? (i := 3) rfl)) (fun _ h9 => h9) rfl dB_36_0_23.2.2.1.2 ?_
                  refine lv_aload_n hx hb dB_36_0_23.2.2.2.1 rfl (lv_at hl 1 rfl) ?_
                  refine va_get (ci := 0) (v := .ref xn) (C := RX0) (T := TX0) (N := 9) hx hb hts (fun _ h => List.mem_cons_of_mem _ (List.mem_append_left _ (List.mem_append_right _ h))) hown hK.1 hP 0 rfl rfl 0 (by decide) (hts (.fieldLink RX0 35 "CutAtlas$Current" "net" "LCutAtlas$Net;") (List.mem_of_getElem? (i := 1) rfl)) (fun _ h9 => h9) rfl dB_36_0_23.2.2.2.2 ?_
                  refine va_get (ci := 3) (v := .ref n3) (C := RX3) (T := TX3) (N := 7) hx hb hts (fun _ h => List.mem_cons_of_mem _ (List.mem_append_right _ h)) hown hK.1 hP 1 rfl rfl 4 (by decide) (hts (.fieldLink RX0 79 "CutAtlas$Net" "ends" "[I") (List.mem_of_getElem? (i := 11) rfl)) (fun _ h9 => h9) rfl dB_36_0_24.1.1.1.1 ?_
                  refine lv_iload_n hx hb dB_36_0_24.1.1.1.2 rfl (lv_at hl 0 rfl) ?_
                  refine va_iald hx hb hK.1 hP 4 0 rfl rfl (i := x2_3) h_12 dB_36_0_24.1.1.2.1 ?_
                  refine lv_topi (fun y_25 ey_25 => ?_)
                  have e_ := (ey_25.trans ey_16.symm).symm
                  subst e_
                  skip
                  refine va_alda hx hb hG hP 6 rfl (i := y_16) h_17 dB_36_0_24.1.1.2.2 ?_
                  refine lv_topv (v' := .ref (rl y_16.toNatClampNeg)) (gf_at h_17) ?_
                  refine lv_aload_n hx hb dB_36_0_24.1.2.1.1 rfl (lv_at hl 1 rfl) ?_
                  refine va_get (ci := 0) (v := .ref xn) (C := RX0) (T := TX0) (N := 9) hx hb hts (fun _ h => List.mem_cons_of_mem _ (List.mem_append_left _ (List.mem_append_right _ h))) hown hK.1 hP 0 rfl rfl 0 (by decide) (hts (.fieldLink RX0 35 "CutAtlas$Current" "net" "LCutAtlas$Net;") (List.mem_of_getElem? (i := 1) rfl)) (fun _ h9 => h9) rfl dB_36_0_24.1.2.1.2 ?_
                  refine va_get (ci := 3) (v := .ref n2) (C := RX3) (T := TX3) (N := 7) hx hb hts (fun _ h => List.mem_cons_of_mem _ (List.mem_append_right _ h)) hown hK.1 hP 1 rfl rfl 3 (by decide) (hts (.fieldLink RX0 76 "CutAtlas$Net" "starts" "[I") (List.mem_of_getElem? (i := 10) rfl)) (fun _ h9 => h9) rfl dB_36_0_24.1.2.2.1 ?_
                  refine lv_iload_n hx hb dB_36_0_24.1.2.2.2 rfl (lv_at hl 0 rfl) ?_
                  refine va_iald hx hb hK.1 hP 3 0 rfl rfl (i := x2_3) h_12 dB_36_0_24.2.1.1.1 ?_
                  refine lv_topi (fun y_28 ey_28 => ?_)
                  have e_ := (ey_28.trans ey_13.symm).symm
                  subst e_
                  skip
                  refine lv_dup2_11 hx hb dB_36_0_24.2.1.1.2 rfl rfl ?_
                  have hPg : va_P D vwCl (([ob0_0_ xc xn xk clo cro c4 c5 c6 c7 c8, ob3_0_ xn vp vn n1 n2 n3 n4 n5, ai_ cy n1 40 fk, ai_ cy n2 40 fs, ai_ cy n3 40 fe, ai_ cy n4 40 fw, aq_ cy 6 clo 12 (gf_ rl)] : va_W) ++ (gro (cy 0) rl M_23 ++ ([ai_ cy c5 40 c_c5_11, ai_ cy c6 40 c_c6_11, aq_ cy 3 xk 5 (kf_ k0 k1 k2 k3 k4), ob6_0_ k0, ob5_0_ k1, ob9_0_ k2, ob2_0_ k3, ob8_0_ k4] : va_W))) H := hP
                  refine va_gld (X := [ob0_0_ xc xn xk clo cro c4 c5 c6 c7 c8, ob3_0_ xn vp vn n1 n2 n3 n4 n5, ai_ cy n1 40 fk, ai_ cy n2 40 fs, ai_ cy n3 40 fe, ai_ cy n4 40 fw, aq_ cy 6 clo 12 (gf_ rl)]) (Y := [ai_ cy c5 40 c_c5_11, ai_ cy c6 40 c_c6_11, aq_ cy 3 xk 5 (kf_ k0 k1 k2 k3 k4), ob6_0_ k0, ob5_0_ k1, ob9_0_ k2, ob2_0_ k3, ob8_0_ k4]) (r := rl) (M := M_23) (k := y_16.toNatClampNeg) hx hb hK.1 hPg 0 rfl (in_lt h_17) (i := y_13) h_14 dB_36_0_24.2.1.2.1 ?_
                  refine lv_topi (fun y_30 ey_30 => ?_)
                  refine lv_aload_n hx hb dB_36_0_24.2.1.2.2 rfl (lv_at hl 1 rfl) ?_
                  refine va_get (ci := 0) (v := .ref c6) (C := RX0) (T := TX0) (N := 9) hx hb hts (fun _ h => List.mem_cons_of_mem _ (List.mem_append_left _ (List.mem_append_right _ h))) hown hK.1 hP 0 rfl rfl 6 (by decide) (hts (.fieldLink RX0 26 "CutAtlas$Current" "letsBack" "[I") (List.mem_of_getElem? (i := 9) rfl)) (fun _ h9 => h9) rfl dB_36_0_24.2.2.1.1 ?_
                  refine lv_iload_n hx hb dB_36_0_24.2.2.1.2 rfl (lv_at hl 0 rfl) ?_
                  refine va_iald hx hb hK.1 hP 20 0 rfl rfl (i := x2_3) h_12 dB_36_0_24.2.2.2.1 ?_
                  refine lv_topi (fun y_32 ey_32 => ?_)
                  refine lv_iadd hx hb dB_36_0_24.2.2.2.2 ?_
                  refine lv_topi (fun y_33 ey_33 => ?_)
                  have hPg : va_P D vwCl (([ob0_0_ xc xn xk clo cro c4 c5 c6 c7 c8, ob3_0_ xn vp vn n1 n2 n3 n4 n5, ai_ cy n1 40 fk, ai_ cy n2 40 fs, ai_ cy n3 40 fe, ai_ cy n4 40 fw, aq_ cy 6 clo 12 (gf_ rl)] : va_W) ++ (gro (cy 0) rl M_23 ++ ([ai_ cy c5 40 c_c5_11, ai_ cy c6 40 c_c6_11, aq_ cy 3 xk 5 (kf_ k0 k1 k2 k3 k4), ob6_0_ k0, ob5_0_ k1, ob9_0_ k2, ob2_0_ k3, ob8_0_ k4] : va_W))) H := hP
                  have hDg : va_D A (([ob0_0_ xc xn xk clo cro c4 c5 c6 c7 c8, ob3_0_ xn vp vn n1 n2 n3 n4 n5, ai_ cy n1 40 fk, ai_ cy n2 40 fs, ai_ cy n3 40 fe, ai_ cy n4 40 fw, aq_ cy 6 clo 12 (gf_ rl)] : va_W) ++ (gro (cy 0) rl M_23 ++ ([ai_ cy c5 40 c_c5_11, ai_ cy c6 40 c_c6_11, aq_ cy 3 xk 5 (kf_ k0 k1 k2 k3 k4), ob6_0_ k0, ob5_0_ k1, ob9_0_ k2, ob2_0_ k3, ob8_0_ k4] : va_W))) := hD
                  refine va_gst (X := [ob0_0_ xc xn xk clo cro c4 c5 c6 c7 c8, ob3_0_ xn vp vn n1 n2 n3 n4 n5, ai_ cy n1 40 fk, ai_ cy n2 40 fs, ai_ cy n3 40 fe, ai_ cy n4 40 fw, aq_ cy 6 clo 12 (gf_ rl)]) (Y := [ai_ cy c5 40 c_c5_11, ai_ cy c6 40 c_c6_11, aq_ cy 3 xk 5 (kf_ k0 k1 k2 k3 k4), ob6_0_ k0, ob5_0_ k1, ob9_0_ k2, ob2_0_ k3, ob8_0_ k4]) (r := rl) (M := M_23) (k := y_16.toNatClampNeg) hx hb hK.1 hPg hDg hS 0 rfl (in_lt h_17) (i := y_13) h_14 dB_36_0_25.1.1 (fun H locs hP hD hS => ?_)
                  obtain ⟨M_35, eM_35⟩ : ∃ g : Nat → Nat → Int32, g = va_up M_23 y_16.toNatClampNeg (upd (M_23 y_16.toNatClampNeg) y_13.toNatClampNeg y_33) := ⟨_, rfl⟩
                  refine pd_K (D := D) (cl := vwCl) (H := H) (A := A) [ob0_0_ xc xn xk clo cro c4 c5 c6 c7 c8, ob3_0_ xn vp vn n1 n2 n3 n4 n5, ai_ cy n1 40 fk, ai_ cy n2 40 fs, ai_ cy n3 40 fe, ai_ cy n4 40 fw, aq_ cy 6 clo 12 (gf_ rl), ai_ cy (rl 0) 12 (M_35 0), ai_ cy (rl 1) 12 (M_35 1), ai_ cy (rl 2) 12 (M_35 2), ai_ cy (rl 3) 12 (M_35 3), ai_ cy (rl 4) 12 (M_35 4), ai_ cy (rl 5) 12 (M_35 5), ai_ cy (rl 6) 12 (M_35 6), ai_ cy (rl 7) 12 (M_35 7), ai_ cy (rl 8) 12 (M_35 8), ai_ cy (rl 9) 12 (M_35 9), ai_ cy (rl 10) 12 (M_35 10), ai_ cy (rl 11) 12 (M_35 11), ai_ cy c5 40 c_c5_11, ai_ cy c6 40 c_c6_11, aq_ cy 3 xk 5 (kf_ k0 k1 k2 k3 k4), ob6_0_ k0, ob5_0_ k1, ob9_0_ k2, ob2_0_ k3, ob8_0_ k4] (by rw [eM_35]; exact hP) (by rw [eM_35]; exact hD) (fun hP hD => ?_)
                  obtain ⟨y_36, ey_36⟩ : ∃ y : Int32, y = x2_3 + 1 := ⟨_, rfl⟩
                  have ty_36 : y_36.toInt = x2_3.toInt + (1 : Int32).toInt := by rw [ey_36]; exact addI (by omega) (by omega)
                  refine lv_iinc (v := y_36) (lv' := [(2, .int y_36), (0, .ref xc), (1, .int a1)]) hx hb dB_36_0_25.1.2 hl (k := 0) rfl (by rw [ey_36]; rfl) (by decide) rfl (fun ls hl => ?_)
                  refine lv_goto (tgt := 31) hx hb dB_36_0_25.2.1 (by decide) ?_
                  exact ih_3 y_36 M_35 c_c5_11 c_c6_11 _ _ _ (by omega) (by first | with_reducible assumption | omega | assumption) (by first | with_reducible assumption | omega | assumption) ⟨hP, hD⟩ hS (lv_sub hl [0, 1, 2] rfl)
                refine lv_aload_n hx hb dB_36_0_20.2.2.1.1 rfl (lv_at hl 2 rfl) ?_
                refine va_get (ci := 0) (v := .ref xk) (C := RX0) (T := TX0) (N := 9) hx hb hts (fun _ h => List.mem_cons_of_mem _ (List.mem_append_left _ (List.mem_append_right _ h))) hown hK.1 hP 0 rfl rfl 1 (by decide) (hts (.fieldLink RX0 39 "CutAtlas$Current" "kinds" "[LCutAtlas$PlainKind;") (List.mem_of_getElem? (i := 6) rfl)) (fun _ h9 => h9) rfl dB_36_0_20.2.2.1.2 ?_
                refine lv_aload_n hx hb dB_36_0_20.2.2.2.1 rfl (lv_at hl 2 rfl) ?_
                refine va_get (ci := 0) (v := .ref xn) (C := RX0) (T := TX0) (N := 9) hx hb hts (fun _ h => List.mem_cons_of_mem _ (List.mem_append_left _ (List.mem_append_right _ h))) hown hK.1 hP 0 rfl rfl 0 (by decide) (hts (.fieldLink RX0 35 "CutAtlas$Current" "net" "LCutAtlas$Net;") (List.mem_of_getElem? (i := 1) rfl)) (fun _ h9 => h9) rfl dB_36_0_20.2.2.2.2 ?_
                refine va_get (ci := 3) (v := .ref n1) (C := RX3) (T := TX3) (N := 7) hx hb hts (fun _ h => List.mem_cons_of_mem _ (List.mem_append_right _ h)) hown hK.1 hP 1 rfl rfl 2 (by decide) (hts (.fieldLink RX0 65 "CutAtlas$Net" "kinds" "[I") (List.mem_of_getElem? (i := 7) rfl)) (fun _ h9 => h9) rfl dB_36_0_21.1.1.1.1 ?_
                refine lv_iload_n hx hb dB_36_0_21.1.1.1.2 rfl (lv_at hl 1 rfl) ?_
                have h_37 : vp_in x2_3 40 := in_I (by first | with_reducible assumption | omega) (by omega)
                refine va_iald hx hb hK.1 hP 2 0 rfl rfl (i := x2_3) h_37 dB_36_0_21.1.1.2.1 ?_
                refine lv_topi (fun y_38 ey_38 => ?_)
                have ry_38 : 0 ≤ y_38.toInt ∧ y_38.toInt ≤ 4 := by rw [ey_38]; exact r_fk _ (in_lt h_37)
                rcases sp_5 (x := y_38) (by omega) with rfl | rfl | rfl | rfl | rfl
                · refine va_aldq hx hb hK.1 hP 21 3 rfl rfl (i := 0) (by unfold vp_in; decide) dB_36_0_21.1.1.2.2 ?_
                  refine lv_topv (v' := .ref k0) (by simp [va_up, va_rf, mf_, cl_0, cl_1, cl_2, cl_3, cl_4, kf_]) ?_
                  refine lv_astore (lv' := [(4, .ref k0), (3, .int u0_10), (2, .int x2_3), (0, .ref xc), (1, .int a1)]) hx hb dB_36_0_21.1.2.1.1 hl (by decide) rfl (fun ls hl => ?_)
                  refine lv_aload_n hx hb dB_36_0_21.1.2.1.2 rfl (lv_at hl 3 rfl) ?_
                  refine va_get (ci := 0) (v := .ref c5) (C := RX0) (T := TX0) (N := 9) hx hb hts (fun _ h => List.mem_cons_of_mem _ (List.mem_append_left _ (List.mem_append_right _ h))) hown hK.1 hP 0 rfl rfl 5 (by decide) (hts (.fieldLink RX0 23 "CutAtlas$Current" "letsForth" "[I") (List.mem_of_getElem? (i := 8) rfl)) (fun _ h9 => h9) rfl dB_36_0_21.1.2.2.1 ?_
                  refine lv_iload_n hx hb dB_36_0_21.1.2.2.2 rfl (lv_at hl 2 rfl) ?_
                  refine lv_aload hx hb dB_36_0_21.2.1.1.1 (lv_at hl 0 rfl) ?_
                  refine lv_iload_n hx hb dB_36_0_21.2.1.1.2 rfl (lv_at hl 1 rfl) ?_
                  refine lv_iconst (v := 1) hx hb dB_36_0_21.2.1.2.1 (by decide) ?_
                  refine ct_R hP hD [] [] (by decide) rfl (fun hPc hDw => ?_)
                  have hFc := va_free (wc := []) hD hS hA [] rfl
                  refine va_calli (va_runV (As := [.int u0_10, .int 1]) (rest := [.int x2_3, .ref c5]) ⟨hx, hb, hml, hown, hts⟩ (c_X6_lets l D cy H.size k0 u0_10 (1 : Int32)) (cwV 2 hts gX0_load_X6_lets rfl rfl rfl ⟨rfl, hd_X6_lets⟩ ⟨Nat.le_of_ble_eq_true rfl, Nat.le_of_ble_eq_true rfl⟩) ⟨bl_, va_recvX hK.1 hP (ci := 6) (q0 := 22) rfl rfl, fun U hU hW => ⟨rfl, by rw [hU], by rw [hU]; exact hPc, kk_mv hW hK, hDw⟩⟩ rfl rfl hl.1 rfl (lv_room (Nat.le_of_ble_eq_true rfl)) dB_36_0_21.2.1.2.2 ⟨Nat.le_of_ble_eq_true rfl, Nat.le_of_ble_eq_true rfl⟩) hS (fun q _ h => hFc q h) hFc (fun r_39 u t H locs ht hvm hw hB hz1 hk1 hS => ?_)
                  have hP : va_P D vwCl _ H := ro_keep hP hk1
                  have f0_r_39 := hw
                  refine ct_R hP hD [] [] (by decide) rfl (fun hPc hDw => ?_)
                  have hFc := va_free (wc := []) hD hS hA [] rfl
                  refine va_calli (va_runS (As := [.int r_39]) (rest := [.int x2_3, .ref c5]) ⟨hx, hb, hml, hown, hts⟩ (c_X0_asRoom l D cy H.size r_39) (va_cwS 1 hts gX0_load_X0_asRoom rfl rfl rfl hd_X0_asRoom ⟨Nat.le_of_ble_eq_true rfl, Nat.le_of_ble_eq_true rfl⟩) ⟨bl_, fun U hU hW => ⟨rfl, by rw [hU], by rw [hU]; exact hPc, kk_mv hW hK, hDw⟩⟩ rfl rfl hl.1 rfl (lv_room (Nat.le_of_ble_eq_true rfl)) dB_36_0_21.2.2.1.1 ⟨Nat.le_of_ble_eq_true rfl, Nat.le_of_ble_eq_true rfl⟩) hS (fun q _ h => hFc q h) hFc (fun r_40 u t H locs ht hvm hw hB hz1 hk1 hS => ?_)
                  have hP : va_P D vwCl _ H := ro_keep hP hk1
                  refine va_iast hx hb hK.1 hP hD hS 19 0 rfl rfl (i := x2_3) h_37 dB_36_0_21.2.2.1.2 (fun H locs hP hD hS => ?_)
                  obtain ⟨f_42, ef_42⟩ : ∃ g : Nat → Int32, g = upd c_c5_3 x2_3.toNatClampNeg r_40 := ⟨_, rfl⟩
                  refine pd_K (D := D) (cl := vwCl) (H := H) (A := A) [ob0_0_ xc xn xk clo cro c4 c5 c6 c7 c8, ob3_0_ xn vp vn n1 n2 n3 n4 n5, ai_ cy n1 40 fk, ai_ cy n2 40 fs, ai_ cy n3 40 fe, ai_ cy n4 40 fw, aq_ cy 6 clo 12 (gf_ rl), ai_ cy (rl 0) 12 (m_rl_3 0), ai_ cy (rl 1) 12 (m_rl_3 1), ai_ cy (rl 2) 12 (m_rl_3 2), ai_ cy (rl 3) 12 (m_rl_3 3), ai_ cy (rl 4) 12 (m_rl_3 4), ai_ cy (rl 5) 12 (m_rl_3 5), ai_ cy (rl 6) 12 (m_rl_3 6), ai_ cy (rl 7) 12 (m_rl_3 7), ai_ cy (rl 8) 12 (m_rl_3 8), ai_ cy (rl 9) 12 (m_rl_3 9), ai_ cy (rl 10) 12 (m_rl_3 10), ai_ cy (rl 11) 12 (m_rl_3 11), ai_ cy c5 40 f_42, ai_ cy c6 40 c_c6_3, aq_ cy 3 xk 5 (kf_ k0 k1 k2 k3 k4), ob6_0_ k0, ob5_0_ k1, ob9_0_ k2, ob2_0_ k3, ob8_0_ k4] (by rw [ef_42]; exact hP) (by rw [ef_42]; exact hD) (fun hP hD => ?_)
                  refine lv_aload_n hx hb dB_36_0_21.2.2.2.1 rfl (lv_at hl 3 rfl) ?_
                  refine va_get (ci := 0) (v := .ref c6) (C := RX0) (T := TX0) (N := 9) hx hb hts (fun _ h => List.mem_cons_of_mem _ (List.mem_append_left _ (List.mem_append_right _ h))) hown hK.1 hP 0 rfl rfl 6 (by decide) (hts (.fieldLink RX0 26 "CutAtlas$Current" "letsBack" "[I") (List.mem_of_getElem? (i := 9) rfl)) (fun _ h9 => h9) rfl dB_36_0_21.2.2.2.2 ?_
                  refine lv_iload_n hx hb dB_36_0_22.1.1.1.1 rfl (lv_at hl 2 rfl) ?_
                  refine lv_aload hx hb dB_36_0_22.1.1.1.2 (lv_at hl 0 rfl) ?_
                  refine lv_iload_n hx hb dB_36_0_22.1.1.2.1 rfl (lv_at hl 1 rfl) ?_
                  refine lv_iconst (v := 0) hx hb dB_36_0_22.1.1.2.2 (by decide) ?_
                  refine ct_R hP hD [] [] (by decide) rfl (fun hPc hDw => ?_)
                  have hFc := va_free (wc := []) hD hS hA [] rfl
                  refine va_calli (va_runV (As := [.int u0_10, .int 0]) (rest := [.int x2_3, .ref c6]) ⟨hx, hb, hml, hown, hts⟩ (c_X6_lets l D cy H.size k0 u0_10 (0 : Int32)) (cwV 2 hts gX0_load_X6_lets rfl rfl rfl ⟨rfl, hd_X6_lets⟩ ⟨Nat.le_of_ble_eq_true rfl, Nat.le_of_ble_eq_true rfl⟩) ⟨bl_, va_recvX hK.1 hP (ci := 6) (q0 := 22) rfl rfl, fun U hU hW => ⟨rfl, by rw [hU], by rw [hU]; exact hPc, kk_mv hW hK, hDw⟩⟩ rfl rfl hl.1 rfl (lv_room (Nat.le_of_ble_eq_true rfl)) dB_36_0_22.1.2.1.1 ⟨Nat.le_of_ble_eq_true rfl, Nat.le_of_ble_eq_true rfl⟩) hS (fun q _ h => hFc q h) hFc (fun r_43 u t H locs ht hvm hw hB hz1 hk1 hS => ?_)
                  have hP : va_P D vwCl _ H := ro_keep hP hk1
                  have f0_r_43 := hw
                  refine ct_R hP hD [] [] (by decide) rfl (fun hPc hDw => ?_)
                  have hFc := va_free (wc := []) hD hS hA [] rfl
                  refine va_calli (va_runS (As := [.int r_43]) (rest := [.int x2_3, .ref c6]) ⟨hx, hb, hml, hown, hts⟩ (c_X0_asRoom l D cy H.size r_43) (va_cwS 1 hts gX0_load_X0_asRoom rfl rfl rfl hd_X0_asRoom ⟨Nat.le_of_ble_eq_true rfl, Nat.le_of_ble_eq_true rfl⟩) ⟨bl_, fun U hU hW => ⟨rfl, by rw [hU], by rw [hU]; exact hPc, kk_mv hW hK, hDw⟩⟩ rfl rfl hl.1 rfl (lv_room (Nat.le_of_ble_eq_true rfl)) dB_36_0_22.1.2.1.2 ⟨Nat.le_of_ble_eq_true rfl, Nat.le_of_ble_eq_true rfl⟩) hS (fun q _ h => hFc q h) hFc (fun r_44 u t H locs ht hvm hw hB hz1 hk1 hS => ?_)
                  have hP : va_P D vwCl _ H := ro_keep hP hk1
                  refine va_iast hx hb hK.1 hP hD hS 20 0 rfl rfl (i := x2_3) h_37 dB_36_0_22.1.2.2.1 (fun H locs hP hD hS => ?_)
                  obtain ⟨f_46, ef_46⟩ : ∃ g : Nat → Int32, g = upd c_c6_3 x2_3.toNatClampNeg r_44 := ⟨_, rfl⟩
                  refine pd_K (D := D) (cl := vwCl) (H := H) (A := A) [ob0_0_ xc xn xk clo cro c4 c5 c6 c7 c8, ob3_0_ xn vp vn n1 n2 n3 n4 n5, ai_ cy n1 40 fk, ai_ cy n2 40 fs, ai_ cy n3 40 fe, ai_ cy n4 40 fw, aq_ cy 6 clo 12 (gf_ rl), ai_ cy (rl 0) 12 (m_rl_3 0), ai_ cy (rl 1) 12 (m_rl_3 1), ai_ cy (rl 2) 12 (m_rl_3 2), ai_ cy (rl 3) 12 (m_rl_3 3), ai_ cy (rl 4) 12 (m_rl_3 4), ai_ cy (rl 5) 12 (m_rl_3 5), ai_ cy (rl 6) 12 (m_rl_3 6), ai_ cy (rl 7) 12 (m_rl_3 7), ai_ cy (rl 8) 12 (m_rl_3 8), ai_ cy (rl 9) 12 (m_rl_3 9), ai_ cy (rl 10) 12 (m_rl_3 10), ai_ cy (rl 11) 12 (m_rl_3 11), ai_ cy c5 40 f_42, ai_ cy c6 40 f_46, aq_ cy 3 xk 5 (kf_ k0 k1 k2 k3 k4), ob6_0_ k0, ob5_0_ k1, ob9_0_ k2, ob2_0_ k3, ob8_0_ k4] (by rw [ef_46]; exact hP) (by rw [ef_46]; exact hD) (fun hP hD => ?_)
                  exact JOIN_11 f_42 f_46 _ _ _ ⟨hP, hD⟩ hS (lv_sub hl [2, 3, 4] rfl)
                · refine va_aldq hx hb hK.1 hP 21 3 rfl rfl (i := 1) (by unfold vp_in; decide) dB_36_0_21.1.1.2.2 ?_
                  refine lv_topv (v' := .ref k1) (by simp [va_up, va_rf, mf_, cl_0, cl_1, cl_2, cl_3, cl_4, kf_]) ?_
                  refine lv_astore (lv' := [(4, .ref k1), (3, .int u0_10), (2, .int x2_3), (0, .ref xc), (1, .int a1)]) hx hb dB_36_0_21.1.2.1.1 hl (by decide) rfl (fun ls hl => ?_)
                  refine lv_aload_n hx hb dB_36_0_21.1.2.1.2 rfl (lv_at hl 3 rfl) ?_
                  refine va_get (ci := 0) (v := .ref c5) (C := RX0) (T := TX0) (N := 9) hx hb hts (fun _ h => List.mem_cons_of_mem _ (List.mem_append_left _ (List.mem_append_right _ h))) hown hK.1 hP 0 rfl rfl 5 (by decide) (hts (.fieldLink RX0 23 "CutAtlas$Current" "letsForth" "[I") (List.mem_of_getElem? (i := 8) rfl)) (fun _ h9 => h9) rfl dB_36_0_21.1.2.2.1 ?_
                  refine lv_iload_n hx hb dB_36_0_21.1.2.2.2 rfl (lv_at hl 2 rfl) ?_
                  refine lv_aload hx hb dB_36_0_21.2.1.1.1 (lv_at hl 0 rfl) ?_
                  refine lv_iload_n hx hb dB_36_0_21.2.1.1.2 rfl (lv_at hl 1 rfl) ?_
                  refine lv_iconst (v := 1) hx hb dB_36_0_21.2.1.2.1 (by decide) ?_
                  refine ct_R hP hD [ob5_0_ k1] [23] (by decide) rfl (fun hPc hDw => ?_)
                  have hFc := va_free (wc := []) hD hS hA [] rfl
                  refine va_calli (va_runU (As := [.int u0_10, .int 1]) (rest := [.int x2_3, .ref c5]) ⟨hx, hb, hml, hown, hts⟩ (c_X5_lets l D cy H.size k1 u0_10 (1 : Int32)) (va_cwO 2 hts gX0_load_X5_lets_u67X5 rfl rfl rfl (b0 := cX6_lets) (m0 := 3) (r0 := (some .int)) (by decide +kernel) (by decide +kernel) ⟨Nat.le_of_ble_eq_true rfl, Nat.le_of_ble_eq_true rfl⟩) ⟨bl_, va_recvX hK.1 hP (ci := 5) (q0 := 23) rfl rfl, fun U hU hW => ⟨rfl, by rw [hU], by rw [hU]; exact hPc, kk_mv hW hK, hDw⟩⟩ rfl rfl hl.1 rfl (lv_room (Nat.le_of_ble_eq_true rfl)) dB_36_0_21.2.1.2.2 ⟨Nat.le_of_ble_eq_true rfl, Nat.le_of_ble_eq_true rfl⟩) hS (fun q _ h => hFc q h) hFc (fun r_47 u t H locs ht hvm hw hB hz1 hk1 hS => ?_)
                  have hP : va_P D vwCl _ H := ro_keep hP hk1
                  refine ct_R hP hD [] [] (by decide) rfl (fun hPc hDw => ?_)
                  have hFc := va_free (wc := []) hD hS hA [] rfl
                  refine va_calli (va_runS (As := [.int r_47]) (rest := [.int x2_3, .ref c5]) ⟨hx, hb, hml, hown, hts⟩ (c_X0_asRoom l D cy H.size r_47) (va_cwS 1 hts gX0_load_X0_asRoom rfl rfl rfl hd_X0_asRoom ⟨Nat.le_of_ble_eq_true rfl, Nat.le_of_ble_eq_true rfl⟩) ⟨bl_, fun U hU hW => ⟨rfl, by rw [hU], by rw [hU]; exact hPc, kk_mv hW hK, hDw⟩⟩ rfl rfl hl.1 rfl (lv_room (Nat.le_of_ble_eq_true rfl)) dB_36_0_21.2.2.1.1 ⟨Nat.le_of_ble_eq_true rfl, Nat.le_of_ble_eq_true rfl⟩) hS (fun q _ h => hFc q h) hFc (fun r_48 u t H locs ht hvm hw hB hz1 hk1 hS => ?_)
                  have hP : va_P D vwCl _ H := ro_keep hP hk1
                  refine va_iast hx hb hK.1 hP hD hS 19 0 rfl rfl (i := x2_3) h_37 dB_36_0_21.2.2.1.2 (fun H locs hP hD hS => ?_)
                  obtain ⟨f_50, ef_50⟩ : ∃ g : Nat → Int32, g = upd c_c5_3 x2_3.toNatClampNeg r_48 := ⟨_, rfl⟩
                  refine pd_K (D := D) (cl := vwCl) (H := H) (A := A) [ob0_0_ xc xn xk clo cro c4 c5 c6 c7 c8, ob3_0_ xn vp vn n1 n2 n3 n4 n5, ai_ cy n1 40 fk, ai_ cy n2 40 fs, ai_ cy n3 40 fe, ai_ cy n4 40 fw, aq_ cy 6 clo 12 (gf_ rl), ai_ cy (rl 0) 12 (m_rl_3 0), ai_ cy (rl 1) 12 (m_rl_3 1), ai_ cy (rl 2) 12 (m_rl_3 2), ai_ cy (rl 3) 12 (m_rl_3 3), ai_ cy (rl 4) 12 (m_rl_3 4), ai_ cy (rl 5) 12 (m_rl_3 5), ai_ cy (rl 6) 12 (m_rl_3 6), ai_ cy (rl 7) 12 (m_rl_3 7), ai_ cy (rl 8) 12 (m_rl_3 8), ai_ cy (rl 9) 12 (m_rl_3 9), ai_ cy (rl 10) 12 (m_rl_3 10), ai_ cy (rl 11) 12 (m_rl_3 11), ai_ cy c5 40 f_50, ai_ cy c6 40 c_c6_3, aq_ cy 3 xk 5 (kf_ k0 k1 k2 k3 k4), ob6_0_ k0, ob5_0_ k1, ob9_0_ k2, ob2_0_ k3, ob8_0_ k4] (by rw [ef_50]; exact hP) (by rw [ef_50]; exact hD) (fun hP hD => ?_)
                  refine lv_aload_n hx hb dB_36_0_21.2.2.2.1 rfl (lv_at hl 3 rfl) ?_
                  refine va_get (ci := 0) (v := .ref c6) (C := RX0) (T := TX0) (N := 9) hx hb hts (fun _ h => List.mem_cons_of_mem _ (List.mem_append_left _ (List.mem_append_right _ h))) hown hK.1 hP 0 rfl rfl 6 (by decide) (hts (.fieldLink RX0 26 "CutAtlas$Current" "letsBack" "[I") (List.mem_of_getElem? (i := 9) rfl)) (fun _ h9 => h9) rfl dB_36_0_21.2.2.2.2 ?_
                  refine lv_iload_n hx hb dB_36_0_22.1.1.1.1 rfl (lv_at hl 2 rfl) ?_
                  refine lv_aload hx hb dB_36_0_22.1.1.1.2 (lv_at hl 0 rfl) ?_
                  refine lv_iload_n hx hb dB_36_0_22.1.1.2.1 rfl (lv_at hl 1 rfl) ?_
                  refine lv_iconst (v := 0) hx hb dB_36_0_22.1.1.2.2 (by decide) ?_
                  refine ct_R hP hD [ob5_0_ k1] [23] (by decide) rfl (fun hPc hDw => ?_)
                  have hFc := va_free (wc := []) hD hS hA [] rfl
                  refine va_calli (va_runU (As := [.int u0_10, .int 0]) (rest := [.int x2_3, .ref c6]) ⟨hx, hb, hml, hown, hts⟩ (c_X5_lets l D cy H.size k1 u0_10 (0 : Int32)) (va_cwO 2 hts gX0_load_X5_lets_u67X5 rfl rfl rfl (b0 := cX6_lets) (m0 := 3) (r0 := (some .int)) (by decide +kernel) (by decide +kernel) ⟨Nat.le_of_ble_eq_true rfl, Nat.le_of_ble_eq_true rfl⟩) ⟨bl_, va_recvX hK.1 hP (ci := 5) (q0 := 23) rfl rfl, fun U hU hW => ⟨rfl, by rw [hU], by rw [hU]; exact hPc, kk_mv hW hK, hDw⟩⟩ rfl rfl hl.1 rfl (lv_room (Nat.le_of_ble_eq_true rfl)) dB_36_0_22.1.2.1.1 ⟨Nat.le_of_ble_eq_true rfl, Nat.le_of_ble_eq_true rfl⟩) hS (fun q _ h => hFc q h) hFc (fun r_51 u t H locs ht hvm hw hB hz1 hk1 hS => ?_)
                  have hP : va_P D vwCl _ H := ro_keep hP hk1
                  refine ct_R hP hD [] [] (by decide) rfl (fun hPc hDw => ?_)
                  have hFc := va_free (wc := []) hD hS hA [] rfl
                  refine va_calli (va_runS (As := [.int r_51]) (rest := [.int x2_3, .ref c6]) ⟨hx, hb, hml, hown, hts⟩ (c_X0_asRoom l D cy H.size r_51) (va_cwS 1 hts gX0_load_X0_asRoom rfl rfl rfl hd_X0_asRoom ⟨Nat.le_of_ble_eq_true rfl, Nat.le_of_ble_eq_true rfl⟩) ⟨bl_, fun U hU hW => ⟨rfl, by rw [hU], by rw [hU]; exact hPc, kk_mv hW hK, hDw⟩⟩ rfl rfl hl.1 rfl (lv_room (Nat.le_of_ble_eq_true rfl)) dB_36_0_22.1.2.1.2 ⟨Nat.le_of_ble_eq_true rfl, Nat.le_of_ble_eq_true rfl⟩) hS (fun q _ h => hFc q h) hFc (fun r_52 u t H locs ht hvm hw hB hz1 hk1 hS => ?_)
                  have hP : va_P D vwCl _ H := ro_keep hP hk1
                  refine va_iast hx hb hK.1 hP hD hS 20 0 rfl rfl (i := x2_3) h_37 dB_36_0_22.1.2.2.1 (fun H locs hP hD hS => ?_)
                  obtain ⟨f_54, ef_54⟩ : ∃ g : Nat → Int32, g = upd c_c6_3 x2_3.toNatClampNeg r_52 := ⟨_, rfl⟩
                  refine pd_K (D := D) (cl := vwCl) (H := H) (A := A) [ob0_0_ xc xn xk clo cro c4 c5 c6 c7 c8, ob3_0_ xn vp vn n1 n2 n3 n4 n5, ai_ cy n1 40 fk, ai_ cy n2 40 fs, ai_ cy n3 40 fe, ai_ cy n4 40 fw, aq_ cy 6 clo 12 (gf_ rl), ai_ cy (rl 0) 12 (m_rl_3 0), ai_ cy (rl 1) 12 (m_rl_3 1), ai_ cy (rl 2) 12 (m_rl_3 2), ai_ cy (rl 3) 12 (m_rl_3 3), ai_ cy (rl 4) 12 (m_rl_3 4), ai_ cy (rl 5) 12 (m_rl_3 5), ai_ cy (rl 6) 12 (m_rl_3 6), ai_ cy (rl 7) 12 (m_rl_3 7), ai_ cy (rl 8) 12 (m_rl_3 8), ai_ cy (rl 9) 12 (m_rl_3 9), ai_ cy (rl 10) 12 (m_rl_3 10), ai_ cy (rl 11) 12 (m_rl_3 11), ai_ cy c5 40 f_50, ai_ cy c6 40 f_54, aq_ cy 3 xk 5 (kf_ k0 k1 k2 k3 k4), ob6_0_ k0, ob5_0_ k1, ob9_0_ k2, ob2_0_ k3, ob8_0_ k4] (by rw [ef_54]; exact hP) (by rw [ef_54]; exact hD) (fun hP hD => ?_)
                  exact JOIN_11 f_50 f_54 _ _ _ ⟨hP, hD⟩ hS (lv_sub hl [2, 3, 4] rfl)
                · refine va_aldq hx hb hK.1 hP 21 3 rfl rfl (i := 2) (by unfold vp_in; decide) dB_36_0_21.1.1.2.2 ?_
                  refine lv_topv (v' := .ref k2) (by simp [va_up, va_rf, mf_, cl_0, cl_1, cl_2, cl_3, cl_4, kf_]) ?_
                  refine lv_astore (lv' := [(4, .ref k2), (3, .int u0_10), (2, .int x2_3), (0, .ref xc), (1, .int a1)]) hx hb dB_36_0_21.1.2.1.1 hl (by decide) rfl (fun ls hl => ?_)
                  refine lv_aload_n hx hb dB_36_0_21.1.2.1.2 rfl (lv_at hl 3 rfl) ?_
                  refine va_get (ci := 0) (v := .ref c5) (C := RX0) (T := TX0) (N := 9) hx hb hts (fun _ h => List.mem_cons_of_mem _ (List.mem_append_left _ (List.mem_append_right _ h))) hown hK.1 hP 0 rfl rfl 5 (by decide) (hts (.fieldLink RX0 23 "CutAtlas$Current" "letsForth" "[I") (List.mem_of_getElem? (i := 8) rfl)) (fun _ h9 => h9) rfl dB_36_0_21.1.2.2.1 ?_
                  refine lv_iload_n hx hb dB_36_0_21.1.2.2.2 rfl (lv_at hl 2 rfl) ?_
                  refine lv_aload hx hb dB_36_0_21.2.1.1.1 (lv_at hl 0 rfl) ?_
                  refine lv_iload_n hx hb dB_36_0_21.2.1.1.2 rfl (lv_at hl 1 rfl) ?_
                  refine lv_iconst (v := 1) hx hb dB_36_0_21.2.1.2.1 (by decide) ?_
                  refine ct_R hP hD [] [] (by decide) rfl (fun hPc hDw => ?_)
                  have hFc := va_free (wc := []) hD hS hA [] rfl
                  refine va_calli (va_runU (As := [.int u0_10, .int 1]) (rest := [.int x2_3, .ref c5]) ⟨hx, hb, hml, hown, hts⟩ (c_X9_lets l D cy H.size k2 u0_10 (1 : Int32)) (va_cwO 2 hts gX0_load_X9_lets_u67X9 rfl rfl rfl (b0 := cX6_lets) (m0 := 3) (r0 := (some .int)) (by decide +kernel) (by decide +kernel) ⟨Nat.le_of_ble_eq_true rfl, Nat.le_of_ble_eq_true rfl⟩) ⟨bl_, va_recvX hK.1 hP (ci := 9) (q0 := 24) rfl rfl, fun U hU hW => ⟨rfl, by rw [hU], by rw [hU]; exact hPc, kk_mv hW hK, hDw⟩⟩ rfl rfl hl.1 rfl (lv_room (Nat.le_of_ble_eq_true rfl)) dB_36_0_21.2.1.2.2 ⟨Nat.le_of_ble_eq_true rfl, Nat.le_of_ble_eq_true rfl⟩) hS (fun q _ h => hFc q h) hFc (fun r_55 u t H locs ht hvm hw hB hz1 hk1 hS => ?_)
                  have hP : va_P D vwCl _ H := ro_keep hP hk1
                  refine ct_R hP hD [] [] (by decide) rfl (fun hPc hDw => ?_)
                  have hFc := va_free (wc := []) hD hS hA [] rfl
                  refine va_calli (va_runS (As := [.int r_55]) (rest := [.int x2_3, .ref c5]) ⟨hx, hb, hml, hown, hts⟩ (c_X0_asRoom l D cy H.size r_55) (va_cwS 1 hts gX0_load_X0_asRoom rfl rfl rfl hd_X0_asRoom ⟨Nat.le_of_ble_eq_true rfl, Nat.le_of_ble_eq_true rfl⟩) ⟨bl_, fun U hU hW => ⟨rfl, by rw [hU], by rw [hU]; exact hPc, kk_mv hW hK, hDw⟩⟩ rfl rfl hl.1 rfl (lv_room (Nat.le_of_ble_eq_true rfl)) dB_36_0_21.2.2.1.1 ⟨Nat.le_of_ble_eq_true rfl, Nat.le_of_ble_eq_true rfl⟩) hS (fun q _ h => hFc q h) hFc (fun r_56 u t H locs ht hvm hw hB hz1 hk1 hS => ?_)
                  have hP : va_P D vwCl _ H := ro_keep hP hk1
                  refine va_iast hx hb hK.1 hP hD hS 19 0 rfl rfl (i := x2_3) h_37 dB_36_0_21.2.2.1.2 (fun H locs hP hD hS => ?_)
                  obtain ⟨f_58, ef_58⟩ : ∃ g : Nat → Int32, g = upd c_c5_3 x2_3.toNatClampNeg r_56 := ⟨_, rfl⟩
                  refine pd_K (D := D) (cl := vwCl) (H := H) (A := A) [ob0_0_ xc xn xk clo cro c4 c5 c6 c7 c8, ob3_0_ xn vp vn n1 n2 n3 n4 n5, ai_ cy n1 40 fk, ai_ cy n2 40 fs, ai_ cy n3 40 fe, ai_ cy n4 40 fw, aq_ cy 6 clo 12 (gf_ rl), ai_ cy (rl 0) 12 (m_rl_3 0), ai_ cy (rl 1) 12 (m_rl_3 1), ai_ cy (rl 2) 12 (m_rl_3 2), ai_ cy (rl 3) 12 (m_rl_3 3), ai_ cy (rl 4) 12 (m_rl_3 4), ai_ cy (rl 5) 12 (m_rl_3 5), ai_ cy (rl 6) 12 (m_rl_3 6), ai_ cy (rl 7) 12 (m_rl_3 7), ai_ cy (rl 8) 12 (m_rl_3 8), ai_ cy (rl 9) 12 (m_rl_3 9), ai_ cy (rl 10) 12 (m_rl_3 10), ai_ cy (rl 11) 12 (m_rl_3 11), ai_ cy c5 40 f_58, ai_ cy c6 40 c_c6_3, aq_ cy 3 xk 5 (kf_ k0 k1 k2 k3 k4), ob6_0_ k0, ob5_0_ k1, ob9_0_ k2, ob2_0_ k3, ob8_0_ k4] (by rw [ef_58]; exact hP) (by rw [ef_58]; exact hD) (fun hP hD => ?_)
                  refine lv_aload_n hx hb dB_36_0_21.2.2.2.1 rfl (lv_at hl 3 rfl) ?_
                  refine va_get (ci := 0) (v := .ref c6) (C := RX0) (T := TX0) (N := 9) hx hb hts (fun _ h => List.mem_cons_of_mem _ (List.mem_append_left _ (List.mem_append_right _ h))) hown hK.1 hP 0 rfl rfl 6 (by decide) (hts (.fieldLink RX0 26 "CutAtlas$Current" "letsBack" "[I") (List.mem_of_getElem? (i := 9) rfl)) (fun _ h9 => h9) rfl dB_36_0_21.2.2.2.2 ?_
                  refine lv_iload_n hx hb dB_36_0_22.1.1.1.1 rfl (lv_at hl 2 rfl) ?_
                  refine lv_aload hx hb dB_36_0_22.1.1.1.2 (lv_at hl 0 rfl) ?_
                  refine lv_iload_n hx hb dB_36_0_22.1.1.2.1 rfl (lv_at hl 1 rfl) ?_
                  refine lv_iconst (v := 0) hx hb dB_36_0_22.1.1.2.2 (by decide) ?_
                  refine ct_R hP hD [] [] (by decide) rfl (fun hPc hDw => ?_)
                  have hFc := va_free (wc := []) hD hS hA [] rfl
                  refine va_calli (va_runU (As := [.int u0_10, .int 0]) (rest := [.int x2_3, .ref c6]) ⟨hx, hb, hml, hown, hts⟩ (c_X9_lets l D cy H.size k2 u0_10 (0 : Int32)) (va_cwO 2 hts gX0_load_X9_lets_u67X9 rfl rfl rfl (b0 := cX6_lets) (m0 := 3) (r0 := (some .int)) (by decide +kernel) (by decide +kernel) ⟨Nat.le_of_ble_eq_true rfl, Nat.le_of_ble_eq_true rfl⟩) ⟨bl_, va_recvX hK.1 hP (ci := 9) (q0 := 24) rfl rfl, fun U hU hW => ⟨rfl, by rw [hU], by rw [hU]; exact hPc, kk_mv hW hK, hDw⟩⟩ rfl rfl hl.1 rfl (lv_room (Nat.le_of_ble_eq_true rfl)) dB_36_0_22.1.2.1.1 ⟨Nat.le_of_ble_eq_true rfl, Nat.le_of_ble_eq_true rfl⟩) hS (fun q _ h => hFc q h) hFc (fun r_59 u t H locs ht hvm hw hB hz1 hk1 hS => ?_)
                  have hP : va_P D vwCl _ H := ro_keep hP hk1
                  refine ct_R hP hD [] [] (by decide) rfl (fun hPc hDw => ?_)
                  have hFc := va_free (wc := []) hD hS hA [] rfl
                  refine va_calli (va_runS (As := [.int r_59]) (rest := [.int x2_3, .ref c6]) ⟨hx, hb, hml, hown, hts⟩ (c_X0_asRoom l D cy H.size r_59) (va_cwS 1 hts gX0_load_X0_asRoom rfl rfl rfl hd_X0_asRoom ⟨Nat.le_of_ble_eq_true rfl, Nat.le_of_ble_eq_true rfl⟩) ⟨bl_, fun U hU hW => ⟨rfl, by rw [hU], by rw [hU]; exact hPc, kk_mv hW hK, hDw⟩⟩ rfl rfl hl.1 rfl (lv_room (Nat.le_of_ble_eq_true rfl)) dB_36_0_22.1.2.1.2 ⟨Nat.le_of_ble_eq_true rfl, Nat.le_of_ble_eq_true rfl⟩) hS (fun q _ h => hFc q h) hFc (fun r_60 u t H locs ht hvm hw hB hz1 hk1 hS => ?_)
                  have hP : va_P D vwCl _ H := ro_keep hP hk1
                  refine va_iast hx hb hK.1 hP hD hS 20 0 rfl rfl (i := x2_3) h_37 dB_36_0_22.1.2.2.1 (fun H locs hP hD hS => ?_)
                  obtain ⟨f_62, ef_62⟩ : ∃ g : Nat → Int32, g = upd c_c6_3 x2_3.toNatClampNeg r_60 := ⟨_, rfl⟩
                  refine pd_K (D := D) (cl := vwCl) (H := H) (A := A) [ob0_0_ xc xn xk clo cro c4 c5 c6 c7 c8, ob3_0_ xn vp vn n1 n2 n3 n4 n5, ai_ cy n1 40 fk, ai_ cy n2 40 fs, ai_ cy n3 40 fe, ai_ cy n4 40 fw, aq_ cy 6 clo 12 (gf_ rl), ai_ cy (rl 0) 12 (m_rl_3 0), ai_ cy (rl 1) 12 (m_rl_3 1), ai_ cy (rl 2) 12 (m_rl_3 2), ai_ cy (rl 3) 12 (m_rl_3 3), ai_ cy (rl 4) 12 (m_rl_3 4), ai_ cy (rl 5) 12 (m_rl_3 5), ai_ cy (rl 6) 12 (m_rl_3 6), ai_ cy (rl 7) 12 (m_rl_3 7), ai_ cy (rl 8) 12 (m_rl_3 8), ai_ cy (rl 9) 12 (m_rl_3 9), ai_ cy (rl 10) 12 (m_rl_3 10), ai_ cy (rl 11) 12 (m_rl_3 11), ai_ cy c5 40 f_58, ai_ cy c6 40 f_62, aq_ cy 3 xk 5 (kf_ k0 k1 k2 k3 k4), ob6_0_ k0, ob5_0_ k1, ob9_0_ k2, ob2_0_ k3, ob8_0_ k4] (by rw [ef_62]; exact hP) (by rw [ef_62]; exact hD) (fun hP hD => ?_)
                  exact JOIN_11 f_58 f_62 _ _ _ ⟨hP, hD⟩ hS (lv_sub hl [2, 3, 4] rfl)
                · refine va_aldq hx hb hK.1 hP 21 3 rfl rfl (i := 3) (by unfold vp_in; decide) dB_36_0_21.1.1.2.2 ?_
                  refine lv_topv (v' := .ref k3) (by simp [va_up, va_rf, mf_, cl_0, cl_1, cl_2, cl_3, cl_4, kf_]) ?_
                  refine lv_astore (lv' := [(4, .ref k3), (3, .int u0_10), (2, .int x2_3), (0, .ref xc), (1, .int a1)]) hx hb dB_36_0_21.1.2.1.1 hl (by decide) rfl (fun ls hl => ?_)
                  refine lv_aload_n hx hb dB_36_0_21.1.2.1.2 rfl (lv_at hl 3 rfl) ?_
                  refine va_get (ci := 0) (v := .ref c5) (C := RX0) (T := TX0) (N := 9) hx hb hts (fun _ h => List.mem_cons_of_mem _ (List.mem_append_left _ (List.mem_append_right _ h))) hown hK.1 hP 0 rfl rfl 5 (by decide) (hts (.fieldLink RX0 23 "CutAtlas$Current" "letsForth" "[I") (List.mem_of_getElem? (i := 8) rfl)) (fun _ h9 => h9) rfl dB_36_0_21.1.2.2.1 ?_
                  refine lv_iload_n hx hb dB_36_0_21.1.2.2.2 rfl (lv_at hl 2 rfl) ?_
                  refine lv_aload hx hb dB_36_0_21.2.1.1.1 (lv_at hl 0 rfl) ?_
                  refine lv_iload_n hx hb dB_36_0_21.2.1.1.2 rfl (lv_at hl 1 rfl) ?_
                  refine lv_iconst (v := 1) hx hb dB_36_0_21.2.1.2.1 (by decide) ?_
                  refine ct_R hP hD [] [] (by decide) rfl (fun hPc hDw => ?_)
                  have hFc := va_free (wc := []) hD hS hA [] rfl
                  refine va_calli (va_runU (As := [.int u0_10, .int 1]) (rest := [.int x2_3, .ref c5]) ⟨hx, hb, hml, hown, hts⟩ (c_X6_lets l D cy H.size k3 u0_10 (1 : Int32)) (va_cwU 2 hts gX0_load_X6_lets_u67X2 rfl rfl rfl rfl (by decide +kernel) ⟨Nat.le_of_ble_eq_true rfl, Nat.le_of_ble_eq_true rfl⟩) ⟨bl_, va_recvX hK.1 hP (ci := 2) (q0 := 25) rfl rfl, fun U hU hW => ⟨rfl, by rw [hU], by rw [hU]; exact hPc, kk_mv hW hK, hDw⟩⟩ rfl rfl hl.1 rfl (lv_room (Nat.le_of_ble_eq_true rfl)) dB_36_0_21.2.1.2.2 ⟨Nat.le_of_ble_eq_true rfl, Nat.le_of_ble_eq_true rfl⟩) hS (fun q _ h => hFc q h) hFc (fun r_63 u t H locs ht hvm hw hB hz1 hk1 hS => ?_)
                  have hP : va_P D vwCl _ H := ro_keep hP hk1
                  have f0_r_63 := hw
                  refine ct_R hP hD [] [] (by decide) rfl (fun hPc hDw => ?_)
                  have hFc := va_free (wc := []) hD hS hA [] rfl
                  refine va_calli (va_runS (As := [.int r_63]) (rest := [.int x2_3, .ref c5]) ⟨hx, hb, hml, hown, hts⟩ (c_X0_asRoom l D cy H.size r_63) (va_cwS 1 hts gX0_load_X0_asRoom rfl rfl rfl hd_X0_asRoom ⟨Nat.le_of_ble_eq_true rfl, Nat.le_of_ble_eq_true rfl⟩) ⟨bl_, fun U hU hW => ⟨rfl, by rw [hU], by rw [hU]; exact hPc, kk_mv hW hK, hDw⟩⟩ rfl rfl hl.1 rfl (lv_room (Nat.le_of_ble_eq_true rfl)) dB_36_0_21.2.2.1.1 ⟨Nat.le_of_ble_eq_true rfl, Nat.le_of_ble_eq_true rfl⟩) hS (fun q _ h => hFc q h) hFc (fun r_64 u t H locs ht hvm hw hB hz1 hk1 hS => ?_)
                  have hP : va_P D vwCl _ H := ro_keep hP hk1
                  refine va_iast hx hb hK.1 hP hD hS 19 0 rfl rfl (i := x2_3) h_37 dB_36_0_21.2.2.1.2 (fun H locs hP hD hS => ?_)
                  obtain ⟨f_66, ef_66⟩ : ∃ g : Nat → Int32, g = upd c_c5_3 x2_3.toNatClampNeg r_64 := ⟨_, rfl⟩
                  refine pd_K (D := D) (cl := vwCl) (H := H) (A := A) [ob0_0_ xc xn xk clo cro c4 c5 c6 c7 c8, ob3_0_ xn vp vn n1 n2 n3 n4 n5, ai_ cy n1 40 fk, ai_ cy n2 40 fs, ai_ cy n3 40 fe, ai_ cy n4 40 fw, aq_ cy 6 clo 12 (gf_ rl), ai_ cy (rl 0) 12 (m_rl_3 0), ai_ cy (rl 1) 12 (m_rl_3 1), ai_ cy (rl 2) 12 (m_rl_3 2), ai_ cy (rl 3) 12 (m_rl_3 3), ai_ cy (rl 4) 12 (m_rl_3 4), ai_ cy (rl 5) 12 (m_rl_3 5), ai_ cy (rl 6) 12 (m_rl_3 6), ai_ cy (rl 7) 12 (m_rl_3 7), ai_ cy (rl 8) 12 (m_rl_3 8), ai_ cy (rl 9) 12 (m_rl_3 9), ai_ cy (rl 10) 12 (m_rl_3 10), ai_ cy (rl 11) 12 (m_rl_3 11), ai_ cy c5 40 f_66, ai_ cy c6 40 c_c6_3, aq_ cy 3 xk 5 (kf_ k0 k1 k2 k3 k4), ob6_0_ k0, ob5_0_ k1, ob9_0_ k2, ob2_0_ k3, ob8_0_ k4] (by rw [ef_66]; exact hP) (by rw [ef_66]; exact hD) (fun hP hD => ?_)
                  refine lv_aload_n hx hb dB_36_0_21.2.2.2.1 rfl (lv_at hl 3 rfl) ?_
                  refine va_get (ci := 0) (v := .ref c6) (C := RX0) (T := TX0) (N := 9) hx hb hts (fun _ h => List.mem_cons_of_mem _ (List.mem_append_left _ (List.mem_append_right _ h))) hown hK.1 hP 0 rfl rfl 6 (by decide) (hts (.fieldLink RX0 26 "CutAtlas$Current" "letsBack" "[I") (List.mem_of_getElem? (i := 9) rfl)) (fun _ h9 => h9) rfl dB_36_0_21.2.2.2.2 ?_
                  refine lv_iload_n hx hb dB_36_0_22.1.1.1.1 rfl (lv_at hl 2 rfl) ?_
                  refine lv_aload hx hb dB_36_0_22.1.1.1.2 (lv_at hl 0 rfl) ?_
                  refine lv_iload_n hx hb dB_36_0_22.1.1.2.1 rfl (lv_at hl 1 rfl) ?_
                  refine lv_iconst (v := 0) hx hb dB_36_0_22.1.1.2.2 (by decide) ?_
                  refine ct_R hP hD [] [] (by decide) rfl (fun hPc hDw => ?_)
                  have hFc := va_free (wc := []) hD hS hA [] rfl
                  refine va_calli (va_runU (As := [.int u0_10, .int 0]) (rest := [.int x2_3, .ref c6]) ⟨hx, hb, hml, hown, hts⟩ (c_X6_lets l D cy H.size k3 u0_10 (0 : Int32)) (va_cwU 2 hts gX0_load_X6_lets_u67X2 rfl rfl rfl rfl (by decide +kernel) ⟨Nat.le_of_ble_eq_true rfl, Nat.le_of_ble_eq_true rfl⟩) ⟨bl_, va_recvX hK.1 hP (ci := 2) (q0 := 25) rfl rfl, fun U hU hW => ⟨rfl, by rw [hU], by rw [hU]; exact hPc, kk_mv hW hK, hDw⟩⟩ rfl rfl hl.1 rfl (lv_room (Nat.le_of_ble_eq_true rfl)) dB_36_0_22.1.2.1.1 ⟨Nat.le_of_ble_eq_true rfl, Nat.le_of_ble_eq_true rfl⟩) hS (fun q _ h => hFc q h) hFc (fun r_67 u t H locs ht hvm hw hB hz1 hk1 hS => ?_)
                  have hP : va_P D vwCl _ H := ro_keep hP hk1
                  have f0_r_67 := hw
                  refine ct_R hP hD [] [] (by decide) rfl (fun hPc hDw => ?_)
                  have hFc := va_free (wc := []) hD hS hA [] rfl
                  refine va_calli (va_runS (As := [.int r_67]) (rest := [.int x2_3, .ref c6]) ⟨hx, hb, hml, hown, hts⟩ (c_X0_asRoom l D cy H.size r_67) (va_cwS 1 hts gX0_load_X0_asRoom rfl rfl rfl hd_X0_asRoom ⟨Nat.le_of_ble_eq_true rfl, Nat.le_of_ble_eq_true rfl⟩) ⟨bl_, fun U hU hW => ⟨rfl, by rw [hU], by rw [hU]; exact hPc, kk_mv hW hK, hDw⟩⟩ rfl rfl hl.1 rfl (lv_room (Nat.le_of_ble_eq_true rfl)) dB_36_0_22.1.2.1.2 ⟨Nat.le_of_ble_eq_true rfl, Nat.le_of_ble_eq_true rfl⟩) hS (fun q _ h => hFc q h) hFc (fun r_68 u t H locs ht hvm hw hB hz1 hk1 hS => ?_)
                  have hP : va_P D vwCl _ H := ro_keep hP hk1
                  refine va_iast hx hb hK.1 hP hD hS 20 0 rfl rfl (i := x2_3) h_37 dB_36_0_22.1.2.2.1 (fun H locs hP hD hS => ?_)
                  obtain ⟨f_70, ef_70⟩ : ∃ g : Nat → Int32, g = upd c_c6_3 x2_3.toNatClampNeg r_68 := ⟨_, rfl⟩
                  refine pd_K (D := D) (cl := vwCl) (H := H) (A := A) [ob0_0_ xc xn xk clo cro c4 c5 c6 c7 c8, ob3_0_ xn vp vn n1 n2 n3 n4 n5, ai_ cy n1 40 fk, ai_ cy n2 40 fs, ai_ cy n3 40 fe, ai_ cy n4 40 fw, aq_ cy 6 clo 12 (gf_ rl), ai_ cy (rl 0) 12 (m_rl_3 0), ai_ cy (rl 1) 12 (m_rl_3 1), ai_ cy (rl 2) 12 (m_rl_3 2), ai_ cy (rl 3) 12 (m_rl_3 3), ai_ cy (rl 4) 12 (m_rl_3 4), ai_ cy (rl 5) 12 (m_rl_3 5), ai_ cy (rl 6) 12 (m_rl_3 6), ai_ cy (rl 7) 12 (m_rl_3 7), ai_ cy (rl 8) 12 (m_rl_3 8), ai_ cy (rl 9) 12 (m_rl_3 9), ai_ cy (rl 10) 12 (m_rl_3 10), ai_ cy (rl 11) 12 (m_rl_3 11), ai_ cy c5 40 f_66, ai_ cy c6 40 f_70, aq_ cy 3 xk 5 (kf_ k0 k1 k2 k3 k4), ob6_0_ k0, ob5_0_ k1, ob9_0_ k2, ob2_0_ k3, ob8_0_ k4] (by rw [ef_70]; exact hP) (by rw [ef_70]; exact hD) (fun hP hD => ?_)
                  exact JOIN_11 f_66 f_70 _ _ _ ⟨hP, hD⟩ hS (lv_sub hl [2, 3, 4] rfl)
                · refine va_aldq hx hb hK.1 hP 21 3 rfl rfl (i := 4) (by unfold vp_in; decide) dB_36_0_21.1.1.2.2 ?_
                  refine lv_topv (v' := .ref k4) (by simp [va_up, va_rf, mf_, cl_0, cl_1, cl_2, cl_3, cl_4, kf_]) ?_
                  refine lv_astore (lv' := [(4, .ref k4), (3, .int u0_10), (2, .int x2_3), (0, .ref xc), (1, .int a1)]) hx hb dB_36_0_21.1.2.1.1 hl (by decide) rfl (fun ls hl => ?_)
                  refine lv_aload_n hx hb dB_36_0_21.1.2.1.2 rfl (lv_at hl 3 rfl) ?_
                  refine va_get (ci := 0) (v := .ref c5) (C := RX0) (T := TX0) (N := 9) hx hb hts (fun _ h => List.mem_cons_of_mem _ (List.mem_append_left _ (List.mem_append_right _ h))) hown hK.1 hP 0 rfl rfl 5 (by decide) (hts (.fieldLink RX0 23 "CutAtlas$Current" "letsForth" "[I") (List.mem_of_getElem? (i := 8) rfl)) (fun _ h9 => h9) rfl dB_36_0_21.1.2.2.1 ?_
                  refine lv_iload_n hx hb dB_36_0_21.1.2.2.2 rfl (lv_at hl 2 rfl) ?_
                  refine lv_aload hx hb dB_36_0_21.2.1.1.1 (lv_at hl 0 rfl) ?_
                  refine lv_iload_n hx hb dB_36_0_21.2.1.1.2 rfl (lv_at hl 1 rfl) ?_
                  refine lv_iconst (v := 1) hx hb dB_36_0_21.2.1.2.1 (by decide) ?_
                  refine ct_R hP hD [] [] (by decide) rfl (fun hPc hDw => ?_)
                  have hFc := va_free (wc := []) hD hS hA [] rfl
                  refine va_calli (va_runU (As := [.int u0_10, .int 1]) (rest := [.int x2_3, .ref c5]) ⟨hx, hb, hml, hown, hts⟩ (c_X6_lets l D cy H.size k4 u0_10 (1 : Int32)) (va_cwU 2 hts gX0_load_X6_lets_u67X8 rfl rfl rfl rfl (by decide +kernel) ⟨Nat.le_of_ble_eq_true rfl, Nat.le_of_ble_eq_true rfl⟩) ⟨bl_, va_recvX hK.1 hP (ci := 8) (q0 := 26) rfl rfl, fun U hU hW => ⟨rfl, by rw [hU], by rw [hU]; exact hPc, kk_mv hW hK, hDw⟩⟩ rfl rfl hl.1 rfl (lv_room (Nat.le_of_ble_eq_true rfl)) dB_36_0_21.2.1.2.2 ⟨Nat.le_of_ble_eq_true rfl, Nat.le_of_ble_eq_true rfl⟩) hS (fun q _ h => hFc q h) hFc (fun r_71 u t H locs ht hvm hw hB hz1 hk1 hS => ?_)
                  have hP : va_P D vwCl _ H := ro_keep hP hk1
                  have f0_r_71 := hw
                  refine ct_R hP hD [] [] (by decide) rfl (fun hPc hDw => ?_)
                  have hFc := va_free (wc := []) hD hS hA [] rfl
                  refine va_calli (va_runS (As := [.int r_71]) (rest := [.int x2_3, .ref c5]) ⟨hx, hb, hml, hown, hts⟩ (c_X0_asRoom l D cy H.size r_71) (va_cwS 1 hts gX0_load_X0_asRoom rfl rfl rfl hd_X0_asRoom ⟨Nat.le_of_ble_eq_true rfl, Nat.le_of_ble_eq_true rfl⟩) ⟨bl_, fun U hU hW => ⟨rfl, by rw [hU], by rw [hU]; exact hPc, kk_mv hW hK, hDw⟩⟩ rfl rfl hl.1 rfl (lv_room (Nat.le_of_ble_eq_true rfl)) dB_36_0_21.2.2.1.1 ⟨Nat.le_of_ble_eq_true rfl, Nat.le_of_ble_eq_true rfl⟩) hS (fun q _ h => hFc q h) hFc (fun r_72 u t H locs ht hvm hw hB hz1 hk1 hS => ?_)
                  have hP : va_P D vwCl _ H := ro_keep hP hk1
                  refine va_iast hx hb hK.1 hP hD hS 19 0 rfl rfl (i := x2_3) h_37 dB_36_0_21.2.2.1.2 (fun H locs hP hD hS => ?_)
                  obtain ⟨f_74, ef_74⟩ : ∃ g : Nat → Int32, g = upd c_c5_3 x2_3.toNatClampNeg r_72 := ⟨_, rfl⟩
                  refine pd_K (D := D) (cl := vwCl) (H := H) (A := A) [ob0_0_ xc xn xk clo cro c4 c5 c6 c7 c8, ob3_0_ xn vp vn n1 n2 n3 n4 n5, ai_ cy n1 40 fk, ai_ cy n2 40 fs, ai_ cy n3 40 fe, ai_ cy n4 40 fw, aq_ cy 6 clo 12 (gf_ rl), ai_ cy (rl 0) 12 (m_rl_3 0), ai_ cy (rl 1) 12 (m_rl_3 1), ai_ cy (rl 2) 12 (m_rl_3 2), ai_ cy (rl 3) 12 (m_rl_3 3), ai_ cy (rl 4) 12 (m_rl_3 4), ai_ cy (rl 5) 12 (m_rl_3 5), ai_ cy (rl 6) 12 (m_rl_3 6), ai_ cy (rl 7) 12 (m_rl_3 7), ai_ cy (rl 8) 12 (m_rl_3 8), ai_ cy (rl 9) 12 (m_rl_3 9), ai_ cy (rl 10) 12 (m_rl_3 10), ai_ cy (rl 11) 12 (m_rl_3 11), ai_ cy c5 40 f_74, ai_ cy c6 40 c_c6_3, aq_ cy 3 xk 5 (kf_ k0 k1 k2 k3 k4), ob6_0_ k0, ob5_0_ k1, ob9_0_ k2, ob2_0_ k3, ob8_0_ k4] (by rw [ef_74]; exact hP) (by rw [ef_74]; exact hD) (fun hP hD => ?_)
                  refine lv_aload_n hx hb dB_36_0_21.2.2.2.1 rfl (lv_at hl 3 rfl) ?_
                  refine va_get (ci := 0) (v := .ref c6) (C := RX0) (T := TX0) (N := 9) hx hb hts (fun _ h => List.mem_cons_of_mem _ (List.mem_append_left _ (List.mem_append_right _ h))) hown hK.1 hP 0 rfl rfl 6 (by decide) (hts (.fieldLink RX0 26 "CutAtlas$Current" "letsBack" "[I") (List.mem_of_getElem? (i := 9) rfl)) (fun _ h9 => h9) rfl dB_36_0_21.2.2.2.2 ?_
                  refine lv_iload_n hx hb dB_36_0_22.1.1.1.1 rfl (lv_at hl 2 rfl) ?_
                  refine lv_aload hx hb dB_36_0_22.1.1.1.2 (lv_at hl 0 rfl) ?_
                  refine lv_iload_n hx hb dB_36_0_22.1.1.2.1 rfl (lv_at hl 1 rfl) ?_
                  refine lv_iconst (v := 0) hx hb dB_36_0_22.1.1.2.2 (by decide) ?_
                  refine ct_R hP hD [] [] (by decide) rfl (fun hPc hDw => ?_)
                  have hFc := va_free (wc := []) hD hS hA [] rfl
                  refine va_calli (va_runU (As := [.int u0_10, .int 0]) (rest := [.int x2_3, .ref c6]) ⟨hx, hb, hml, hown, hts⟩ (c_X6_lets l D cy H.size k4 u0_10 (0 : Int32)) (va_cwU 2 hts gX0_load_X6_lets_u67X8 rfl rfl rfl rfl (by decide +kernel) ⟨Nat.le_of_ble_eq_true rfl, Nat.le_of_ble_eq_true rfl⟩) ⟨bl_, va_recvX hK.1 hP (ci := 8) (q0 := 26) rfl rfl, fun U hU hW => ⟨rfl, by rw [hU], by rw [hU]; exact hPc, kk_mv hW hK, hDw⟩⟩ rfl rfl hl.1 rfl (lv_room (Nat.le_of_ble_eq_true rfl)) dB_36_0_22.1.2.1.1 ⟨Nat.le_of_ble_eq_true rfl, Nat.le_of_ble_eq_true rfl⟩) hS (fun q _ h => hFc q h) hFc (fun r_75 u t H locs ht hvm hw hB hz1 hk1 hS => ?_)
                  have hP : va_P D vwCl _ H := ro_keep hP hk1
                  have f0_r_75 := hw
                  refine ct_R hP hD [] [] (by decide) rfl (fun hPc hDw => ?_)
                  have hFc := va_free (wc := []) hD hS hA [] rfl
                  refine va_calli (va_runS (As := [.int r_75]) (rest := [.int x2_3, .ref c6]) ⟨hx, hb, hml, hown, hts⟩ (c_X0_asRoom l D cy H.size r_75) (va_cwS 1 hts gX0_load_X0_asRoom rfl rfl rfl hd_X0_asRoom ⟨Nat.le_of_ble_eq_true rfl, Nat.le_of_ble_eq_true rfl⟩) ⟨bl_, fun U hU hW => ⟨rfl, by rw [hU], by rw [hU]; exact hPc, kk_mv hW hK, hDw⟩⟩ rfl rfl hl.1 rfl (lv_room (Nat.le_of_ble_eq_true rfl)) dB_36_0_22.1.2.1.2 ⟨Nat.le_of_ble_eq_true rfl, Nat.le_of_ble_eq_true rfl⟩) hS (fun q _ h => hFc q h) hFc (fun r_76 u t H locs ht hvm hw hB hz1 hk1 hS => ?_)
                  have hP : va_P D vwCl _ H := ro_keep hP hk1
                  refine va_iast hx hb hK.1 hP hD hS 20 0 rfl rfl (i := x2_3) h_37 dB_36_0_22.1.2.2.1 (fun H locs hP hD hS => ?_)
                  obtain ⟨f_78, ef_78⟩ : ∃ g : Nat → Int32, g = upd c_c6_3 x2_3.toNatClampNeg r_76 := ⟨_, rfl⟩
                  refine pd_K (D := D) (cl := vwCl) (H := H) (A := A) [ob0_0_ xc xn xk clo cro c4 c5 c6 c7 c8, ob3_0_ xn vp vn n1 n2 n3 n4 n5, ai_ cy n1 40 fk, ai_ cy n2 40 fs, ai_ cy n3 40 fe, ai_ cy n4 40 fw, aq_ cy 6 clo 12 (gf_ rl), ai_ cy (rl 0) 12 (m_rl_3 0), ai_ cy (rl 1) 12 (m_rl_3 1), ai_ cy (rl 2) 12 (m_rl_3 2), ai_ cy (rl 3) 12 (m_rl_3 3), ai_ cy (rl 4) 12 (m_rl_3 4), ai_ cy (rl 5) 12 (m_rl_3 5), ai_ cy (rl 6) 12 (m_rl_3 6), ai_ cy (rl 7) 12 (m_rl_3 7), ai_ cy (rl 8) 12 (m_rl_3 8), ai_ cy (rl 9) 12 (m_rl_3 9), ai_ cy (rl 10) 12 (m_rl_3 10), ai_ cy (rl 11) 12 (m_rl_3 11), ai_ cy c5 40 f_74, ai_ cy c6 40 f_78, aq_ cy 3 xk 5 (kf_ k0 k1 k2 k3 k4), ob6_0_ k0, ob5_0_ k1, ob9_0_ k2, ob2_0_ k3, ob8_0_ k4] (by rw [ef_78]; exact hP) (by rw [ef_78]; exact hD) (fun hP hD => ?_)
                  exact JOIN_11 f_74 f_78 _ _ _ ⟨hP, hD⟩ hS (lv_sub hl [2, 3, 4] rfl)
              refine lv_iload_n hx hb dB_36_0_19.2.1.2.2 rfl (lv_at hl 0 rfl) ?_
              refine lv_iload_n hx hb dB_36_0_19.2.2.1.1 rfl (lv_at hl 2 rfl) ?_
              refine lv_icmp_ne (tgt := 72) hx hb dB_36_0_19.2.2.1.2 (by decide) (fun c_79 => ?_) (fun c_79 => ?_)
              · have t_79 : ¬ x2_3.toInt = a1.toInt := fun h => c_79 (Int32.toInt_inj.mp h)
                refine lv_aload_n hx hb dB_36_0_20.1.2.2.1 rfl (lv_at hl 1 rfl) ?_
                refine va_get (ci := 0) (v := .ref xn) (C := RX0) (T := TX0) (N := 9) hx hb hts (fun _ h => List.mem_cons_of_mem _ (List.mem_append_left _ (List.mem_append_right _ h))) hown hK.1 hP 0 rfl rfl 0 (by decide) (hts (.fieldLink RX0 35 "CutAtlas$Current" "net" "LCutAtlas$Net;") (List.mem_of_getElem? (i := 1) rfl)) (fun _ h9 => h9) rfl dB_36_0_20.1.2.2.2 ?_
                refine va_get (ci := 3) (v := .ref n4) (C := RX3) (T := TX3) (N := 7) hx hb hts (fun _ h => List.mem_cons_of_mem _ (List.mem_append_right _ h)) hown hK.1 hP 1 rfl rfl 5 (by decide) (hts (.fieldLink RX0 62 "CutAtlas$Net" "widths" "[I") (List.mem_of_getElem? (i := 5) rfl)) (fun _ h9 => h9) rfl dB_36_0_20.2.1.1.1 ?_
                refine lv_iload_n hx hb dB_36_0_20.2.1.1.2 rfl (lv_at hl 0 rfl) ?_
                have h_80 : vp_in x2_3 40 := in_I (by first | with_reducible assumption | omega) (by omega)
                refine va_iald hx hb hK.1 hP 5 0 rfl rfl (i := x2_3) h_80 dB_36_0_20.2.1.2.1 ?_
                refine lv_topi (fun y_81 ey_81 => ?_)
                exact JOIN_10 y_81 _ _ _ ⟨hP, hD⟩ hS (lv_sub hl [0, 1, 2] rfl)
              · have t_79 : x2_3.toInt = a1.toInt := congrArg Int32.toInt c_79
                refine lv_aload_n hx hb dB_36_0_19.2.2.2.1 rfl (lv_at hl 1 rfl) ?_
                refine va_get (ci := 0) (v := .ref xn) (C := RX0) (T := TX0) (N := 9) hx hb hts (fun _ h => List.mem_cons_of_mem _ (List.mem_append_left _ (List.mem_append_right _ h))) hown hK.1 hP 0 rfl rfl 0 (by decide) (hts (.fieldLink RX0 35 "CutAtlas$Current" "net" "LCutAtlas$Net;") (List.mem_of_getElem? (i := 1) rfl)) (fun _ h9 => h9) rfl dB_36_0_19.2.2.2.2 ?_
                refine va_get (ci := 3) (v := .ref n4) (C := RX3) (T := TX3) (N := 7) hx hb hts (fun _ h => List.mem_cons_of_mem _ (List.mem_append_right _ h)) hown hK.1 hP 1 rfl rfl 5 (by decide) (hts (.fieldLink RX0 62 "CutAtlas$Net" "widths" "[I") (List.mem_of_getElem? (i := 5) rfl)) (fun _ h9 => h9) rfl dB_36_0_20.1.1.1.1 ?_
                refine lv_iload_n hx hb dB_36_0_20.1.1.1.2 rfl (lv_at hl 0 rfl) ?_
                have h_82 : vp_in x2_3 40 := in_I (by first | with_reducible assumption | omega) (by omega)
                refine va_iald hx hb hK.1 hP 5 0 rfl rfl (i := x2_3) h_82 dB_36_0_20.1.1.2.1 ?_
                refine lv_topi (fun y_83 ey_83 => ?_)
                refine lv_iconst (v := 1) hx hb dB_36_0_20.1.1.2.2 (by decide) ?_
                refine lv_iadd hx hb dB_36_0_20.1.2.1.1 ?_
                refine lv_topi (fun y_84 ey_84 => ?_)
                refine lv_goto (tgt := 81) hx hb dB_36_0_20.1.2.1.2 (by decide) ?_
                exact JOIN_10 y_84 _ _ _ ⟨hP, hD⟩ hS (lv_sub hl [0, 1, 2] rfl)
    · have t_2 : ¬ vp.toInt ≤ x2_1.toInt := fun h => c_2 (Int32.le_iff_toInt_le.mpr h)
      rcases sp_12 (x := x2_1) (by omega) with rfl | rfl | rfl | rfl | rfl | rfl | rfl | rfl | rfl | rfl | rfl | rfl
      · refine lv_aload_n hx hb dB_36_0_18.1.2.2.2 rfl (lv_at hl 1 rfl) ?_
        refine va_get (ci := 0) (v := .ref clo) (C := RX0) (T := TX0) (N := 9) hx hb hts (fun _ h => List.mem_cons_of_mem _ (List.mem_append_left _ (List.mem_append_right _ h))) hown hK.1 hP 0 rfl rfl 2 (by decide) (hts (.fieldLink RX0 11 "CutAtlas$Current" "lets" "[[I") (List.mem_of_getElem? (i := 3) rfl)) (fun _ h9 => h9) rfl dB_36_0_18.2.1.1.1 ?_
        refine lv_iload_n hx hb dB_36_0_18.2.1.1.2 rfl (lv_at hl 0 rfl) ?_
        have h_85 : vp_in (0 : Int32) 12 := by unfold vp_in; decide
        refine va_alda hx hb hG hP 6 rfl (i := 0) h_85 dB_36_0_18.2.1.2.1 ?_
        refine lv_topv (v' := .ref (rl 0)) (gf_at h_85) ?_
        refine lv_iconst (v := 0) hx hb dB_36_0_18.2.1.2.2 (by decide) ?_
        refine ct_S hP hD hS hA [ai_ cy (rl 0) 12 (m_rl_1 0)] [7] (by decide) rfl (fun hPc hDw hFc hC_ => ?_)
        refine va_callv (va_runS (As := [.ref (rl 0), .int 0]) (rest := []) ⟨hx, hb, hml, hown, hts⟩ (c_J7_fill_53178 l D cy H.size (rl 0) 12 (0 : Int32) (m_rl_1 0) (by first | with_reducible assumption | assumption | omega)) (va_cwS 2 hts gX0_load_J7_fill_53178 rfl rfl rfl hd_J7_fill_53178 ⟨Nat.le_of_ble_eq_true rfl, Nat.le_of_ble_eq_true rfl⟩) ⟨bl_, fun U hU hW => ⟨rfl, by rw [hU], by rw [hU]; exact hPc, kk_mv hW hK, hDw⟩⟩ rfl rfl hl.1 rfl (lv_room (Nat.le_of_ble_eq_true rfl)) dB_36_0_18.2.2.1.1 ⟨Nat.le_of_ble_eq_true rfl, Nat.le_of_ble_eq_true rfl⟩) hS (fun q _ h => hFc q h) hFc (fun u t H locs ht hvm hw hB hz1 hk1 hS => ?_)
        obtain ⟨e1_87, g_88, hP1, hD1⟩ := hB
        rw [ht] at hP1
        obtain ⟨hP, hD⟩ := va_join (wr := [ob0_0_ xc xn xk clo cro c4 c5 c6 c7 c8, ob3_0_ xn vp vn n1 n2 n3 n4 n5, ai_ cy n1 40 fk, ai_ cy n2 40 fs, ai_ cy n3 40 fe, ai_ cy n4 40 fw, aq_ cy 6 clo 12 (gf_ rl), ai_ cy (rl 1) 12 (m_rl_1 1), ai_ cy (rl 2) 12 (m_rl_1 2), ai_ cy (rl 3) 12 (m_rl_1 3), ai_ cy (rl 4) 12 (m_rl_1 4), ai_ cy (rl 5) 12 (m_rl_1 5), ai_ cy (rl 6) 12 (m_rl_1 6), ai_ cy (rl 7) 12 (m_rl_1 7), ai_ cy (rl 8) 12 (m_rl_1 8), ai_ cy (rl 9) 12 (m_rl_1 9), ai_ cy (rl 10) 12 (m_rl_1 10), ai_ cy (rl 11) 12 (m_rl_1 11), ai_ cy c5 40 f5, ai_ cy c6 40 f6, aq_ cy 3 xk 5 (kf_ k0 k1 k2 k3 k4), ob6_0_ k0, ob5_0_ k1, ob9_0_ k2, ob2_0_ k3, ob8_0_ k4]) (w1 := [ai_ cy (rl 0) 12 e1_87]) hP hD [7] [0, 1, 2, 3, 4, 5, 6, 8, 9, 10, 11, 12, 13, 14, 15, 16, 17, 18, 19, 20, 21, 22, 23, 24, 25, 26] hC_ rfl (by decide +kernel) (by decide +kernel) hk1 hFc hP1 hD1
        refine pd_S hP hD [ob0_0_ xc xn xk clo cro c4 c5 c6 c7 c8, ob3_0_ xn vp vn n1 n2 n3 n4 n5, ai_ cy n1 40 fk, ai_ cy n2 40 fs, ai_ cy n3 40 fe, ai_ cy n4 40 fw, aq_ cy 6 clo 12 (gf_ rl), ai_ cy (rl 0) 12 e1_87, ai_ cy (rl 1) 12 (m_rl_1 1), ai_ cy (rl 2) 12 (m_rl_1 2), ai_ cy (rl 3) 12 (m_rl_1 3), ai_ cy (rl 4) 12 (m_rl_1 4), ai_ cy (rl 5) 12 (m_rl_1 5), ai_ cy (rl 6) 12 (m_rl_1 6), ai_ cy (rl 7) 12 (m_rl_1 7), ai_ cy (rl 8) 12 (m_rl_1 8), ai_ cy (rl 9) 12 (m_rl_1 9), ai_ cy (rl 10) 12 (m_rl_1 10), ai_ cy (rl 11) 12 (m_rl_1 11), ai_ cy c5 40 f5, ai_ cy c6 40 f6, aq_ cy 3 xk 5 (kf_ k0 k1 k2 k3 k4), ob6_0_ k0, ob5_0_ k1, ob9_0_ k2, ob2_0_ k3, ob8_0_ k4] [0, 1, 2, 3, 4, 5, 6, 26, 7, 8, 9, 10, 11, 12, 13, 14, 15, 16, 17, 18, 19, 20, 21, 22, 23, 24, 25] (by decide +kernel) rfl (fun hP hD => ?_)
        obtain ⟨M_89, eM_89⟩ : ∃ g : Nat → Nat → Int32, g = va_up m_rl_1 0 e1_87 := ⟨_, rfl⟩
        refine pd_K (D := D) (cl := vwCl) (H := H) (A := A) [ob0_0_ xc xn xk clo cro c4 c5 c6 c7 c8, ob3_0_ xn vp vn n1 n2 n3 n4 n5, ai_ cy n1 40 fk, ai_ cy n2 40 fs, ai_ cy n3 40 fe, ai_ cy n4 40 fw, aq_ cy 6 clo 12 (gf_ rl), ai_ cy (rl 0) 12 (M_89 0), ai_ cy (rl 1) 12 (M_89 1), ai_ cy (rl 2) 12 (M_89 2), ai_ cy (rl 3) 12 (M_89 3), ai_ cy (rl 4) 12 (M_89 4), ai_ cy (rl 5) 12 (M_89 5), ai_ cy (rl 6) 12 (M_89 6), ai_ cy (rl 7) 12 (M_89 7), ai_ cy (rl 8) 12 (M_89 8), ai_ cy (rl 9) 12 (M_89 9), ai_ cy (rl 10) 12 (M_89 10), ai_ cy (rl 11) 12 (M_89 11), ai_ cy c5 40 f5, ai_ cy c6 40 f6, aq_ cy 3 xk 5 (kf_ k0 k1 k2 k3 k4), ob6_0_ k0, ob5_0_ k1, ob9_0_ k2, ob2_0_ k3, ob8_0_ k4] (by rw [eM_89]; exact hP) (by rw [eM_89]; exact hD) (fun hP hD => ?_)
        obtain ⟨y_90, ey_90⟩ : ∃ y : Int32, y = (0 : Int32) + 1 := ⟨_, rfl⟩
        have ty_90 : y_90.toInt = (0 : Int32).toInt + (1 : Int32).toInt := by rw [ey_90]; exact addI (by omega) (by omega)
        refine lv_iinc (v := y_90) (lv' := [(2, .int y_90), (0, .ref xc), (1, .int a1)]) hx hb dB_36_0_18.2.2.1.2 hl (k := 0) rfl (by rw [ey_90]; rfl) (by decide) rfl (fun ls hl => ?_)
        refine lv_goto (tgt := 2) hx hb dB_36_0_18.2.2.2.1 (by decide) ?_
        exact ih_1 y_90 M_89 _ _ _ (by omega) (by first | with_reducible assumption | omega | assumption) (by first | with_reducible assumption | omega | assumption) ⟨hP, hD⟩ hS (lv_sub hl [0, 1, 2] rfl)
      · refine lv_aload_n hx hb dB_36_0_18.1.2.2.2 rfl (lv_at hl 1 rfl) ?_
        refine va_get (ci := 0) (v := .ref clo) (C := RX0) (T := TX0) (N := 9) hx hb hts (fun _ h => List.mem_cons_of_mem _ (List.mem_append_left _ (List.mem_append_right _ h))) hown hK.1 hP 0 rfl rfl 2 (by decide) (hts (.fieldLink RX0 11 "CutAtlas$Current" "lets" "[[I") (List.mem_of_getElem? (i := 3) rfl)) (fun _ h9 => h9) rfl dB_36_0_18.2.1.1.1 ?_
        refine lv_iload_n hx hb dB_36_0_18.2.1.1.2 rfl (lv_at hl 0 rfl) ?_
        have h_91 : vp_in (1 : Int32) 12 := by unfold vp_in; decide
        refine va_alda hx hb hG hP 6 rfl (i := 1) h_91 dB_36_0_18.2.1.2.1 ?_
        refine lv_topv (v' := .ref (rl 1)) (gf_at h_91) ?_
        refine lv_iconst (v := 0) hx hb dB_36_0_18.2.1.2.2 (by decide) ?_
        refine ct_S hP hD hS hA [ai_ cy (rl 1) 12 (m_rl_1 1)] [8] (by decide) rfl (fun hPc hDw hFc hC_ => ?_)
        refine va_callv (va_runS (As := [.ref (rl 1), .int 0]) (rest := []) ⟨hx, hb, hml, hown, hts⟩ (c_J7_fill_53178 l D cy H.size (rl 1) 12 (0 : Int32) (m_rl_1 1) (by first | with_reducible assumption | assumption | omega)) (va_cwS 2 hts gX0_load_J7_fill_53178 rfl rfl rfl hd_J7_fill_53178 ⟨Nat.le_of_ble_eq_true rfl, Nat.le_of_ble_eq_true rfl⟩) ⟨bl_, fun U hU hW => ⟨rfl, by rw [hU], by rw [hU]; exact hPc, kk_mv hW hK, hDw⟩⟩ rfl rfl hl.1 rfl (lv_room (Nat.le_of_ble_eq_true rfl)) dB_36_0_18.2.2.1.1 ⟨Nat.le_of_ble_eq_true rfl, Nat.le_of_ble_eq_true rfl⟩) hS (fun q _ h => hFc q h) hFc (fun u t H locs ht hvm hw hB hz1 hk1 hS => ?_)
        obtain ⟨e1_93, g_94, hP1, hD1⟩ := hB
        rw [ht] at hP1
        obtain ⟨hP, hD⟩ := va_join (wr := [ob0_0_ xc xn xk clo cro c4 c5 c6 c7 c8, ob3_0_ xn vp vn n1 n2 n3 n4 n5, ai_ cy n1 40 fk, ai_ cy n2 40 fs, ai_ cy n3 40 fe, ai_ cy n4 40 fw, aq_ cy 6 clo 12 (gf_ rl), ai_ cy (rl 0) 12 (m_rl_1 0), ai_ cy (rl 2) 12 (m_rl_1 2), ai_ cy (rl 3) 12 (m_rl_1 3), ai_ cy (rl 4) 12 (m_rl_1 4), ai_ cy (rl 5) 12 (m_rl_1 5), ai_ cy (rl 6) 12 (m_rl_1 6), ai_ cy (rl 7) 12 (m_rl_1 7), ai_ cy (rl 8) 12 (m_rl_1 8), ai_ cy (rl 9) 12 (m_rl_1 9), ai_ cy (rl 10) 12 (m_rl_1 10), ai_ cy (rl 11) 12 (m_rl_1 11), ai_ cy c5 40 f5, ai_ cy c6 40 f6, aq_ cy 3 xk 5 (kf_ k0 k1 k2 k3 k4), ob6_0_ k0, ob5_0_ k1, ob9_0_ k2, ob2_0_ k3, ob8_0_ k4]) (w1 := [ai_ cy (rl 1) 12 e1_93]) hP hD [8] [0, 1, 2, 3, 4, 5, 6, 7, 9, 10, 11, 12, 13, 14, 15, 16, 17, 18, 19, 20, 21, 22, 23, 24, 25, 26] hC_ rfl (by decide +kernel) (by decide +kernel) hk1 hFc hP1 hD1
        refine pd_S hP hD [ob0_0_ xc xn xk clo cro c4 c5 c6 c7 c8, ob3_0_ xn vp vn n1 n2 n3 n4 n5, ai_ cy n1 40 fk, ai_ cy n2 40 fs, ai_ cy n3 40 fe, ai_ cy n4 40 fw, aq_ cy 6 clo 12 (gf_ rl), ai_ cy (rl 0) 12 (m_rl_1 0), ai_ cy (rl 1) 12 e1_93, ai_ cy (rl 2) 12 (m_rl_1 2), ai_ cy (rl 3) 12 (m_rl_1 3), ai_ cy (rl 4) 12 (m_rl_1 4), ai_ cy (rl 5) 12 (m_rl_1 5), ai_ cy (rl 6) 12 (m_rl_1 6), ai_ cy (rl 7) 12 (m_rl_1 7), ai_ cy (rl 8) 12 (m_rl_1 8), ai_ cy (rl 9) 12 (m_rl_1 9), ai_ cy (rl 10) 12 (m_rl_1 10), ai_ cy (rl 11) 12 (m_rl_1 11), ai_ cy c5 40 f5, ai_ cy c6 40 f6, aq_ cy 3 xk 5 (kf_ k0 k1 k2 k3 k4), ob6_0_ k0, ob5_0_ k1, ob9_0_ k2, ob2_0_ k3, ob8_0_ k4] [0, 1, 2, 3, 4, 5, 6, 7, 26, 8, 9, 10, 11, 12, 13, 14, 15, 16, 17, 18, 19, 20, 21, 22, 23, 24, 25] (by decide +kernel) rfl (fun hP hD => ?_)
        obtain ⟨M_95, eM_95⟩ : ∃ g : Nat → Nat → Int32, g = va_up m_rl_1 1 e1_93 := ⟨_, rfl⟩
        refine pd_K (D := D) (cl := vwCl) (H := H) (A := A) [ob0_0_ xc xn xk clo cro c4 c5 c6 c7 c8, ob3_0_ xn vp vn n1 n2 n3 n4 n5, ai_ cy n1 40 fk, ai_ cy n2 40 fs, ai_ cy n3 40 fe, ai_ cy n4 40 fw, aq_ cy 6 clo 12 (gf_ rl), ai_ cy (rl 0) 12 (M_95 0), ai_ cy (rl 1) 12 (M_95 1), ai_ cy (rl 2) 12 (M_95 2), ai_ cy (rl 3) 12 (M_95 3), ai_ cy (rl 4) 12 (M_95 4), ai_ cy (rl 5) 12 (M_95 5), ai_ cy (rl 6) 12 (M_95 6), ai_ cy (rl 7) 12 (M_95 7), ai_ cy (rl 8) 12 (M_95 8), ai_ cy (rl 9) 12 (M_95 9), ai_ cy (rl 10) 12 (M_95 10), ai_ cy (rl 11) 12 (M_95 11), ai_ cy c5 40 f5, ai_ cy c6 40 f6, aq_ cy 3 xk 5 (kf_ k0 k1 k2 k3 k4), ob6_0_ k0, ob5_0_ k1, ob9_0_ k2, ob2_0_ k3, ob8_0_ k4] (by rw [eM_95]; exact hP) (by rw [eM_95]; exact hD) (fun hP hD => ?_)
        obtain ⟨y_96, ey_96⟩ : ∃ y : Int32, y = (1 : Int32) + 1 := ⟨_, rfl⟩
        have ty_96 : y_96.toInt = (1 : Int32).toInt + (1 : Int32).toInt := by rw [ey_96]; exact addI (by omega) (by omega)
        refine lv_iinc (v := y_96) (lv' := [(2, .int y_96), (0, .ref xc), (1, .int a1)]) hx hb dB_36_0_18.2.2.1.2 hl (k := 0) rfl (by rw [ey_96]; rfl) (by decide) rfl (fun ls hl => ?_)
        refine lv_goto (tgt := 2) hx hb dB_36_0_18.2.2.2.1 (by decide) ?_
        exact ih_1 y_96 M_95 _ _ _ (by omega) (by first | with_reducible assumption | omega | assumption) (by first | with_reducible assumption | omega | assumption) ⟨hP, hD⟩ hS (lv_sub hl [0, 1, 2] rfl)
      · refine lv_aload_n hx hb dB_36_0_18.1.2.2.2 rfl (lv_at hl 1 rfl) ?_
        refine va_get (ci := 0) (v := .ref clo) (C := RX0) (T := TX0) (N := 9) hx hb hts (fun _ h => List.mem_cons_of_mem _ (List.mem_append_left _ (List.mem_append_right _ h))) hown hK.1 hP 0 rfl rfl 2 (by decide) (hts (.fieldLink RX0 11 "CutAtlas$Current" "lets" "[[I") (List.mem_of_getElem? (i := 3) rfl)) (fun _ h9 => h9) rfl dB_36_0_18.2.1.1.1 ?_
        refine lv_iload_n hx hb dB_36_0_18.2.1.1.2 rfl (lv_at hl 0 rfl) ?_
        have h_97 : vp_in (2 : Int32) 12 := by unfold vp_in; decide
        refine va_alda hx hb hG hP 6 rfl (i := 2) h_97 dB_36_0_18.2.1.2.1 ?_
        refine lv_topv (v' := .ref (rl 2)) (gf_at h_97) ?_
        refine lv_iconst (v := 0) hx hb dB_36_0_18.2.1.2.2 (by decide) ?_
        refine ct_S hP hD hS hA [ai_ cy (rl 2) 12 (m_rl_1 2)] [9] (by decide) rfl (fun hPc hDw hFc hC_ => ?_)
        refine va_callv (va_runS (As := [.ref (rl 2), .int 0]) (rest := []) ⟨hx, hb, hml, hown, hts⟩ (c_J7_fill_53178 l D cy H.size (rl 2) 12 (0 : Int32) (m_rl_1 2) (by first | with_reducible assumption | assumption | omega)) (va_cwS 2 hts gX0_load_J7_fill_53178 rfl rfl rfl hd_J7_fill_53178 ⟨Nat.le_of_ble_eq_true rfl, Nat.le_of_ble_eq_true rfl⟩) ⟨bl_, fun U hU hW => ⟨rfl, by rw [hU], by rw [hU]; exact hPc, kk_mv hW hK, hDw⟩⟩ rfl rfl hl.1 rfl (lv_room (Nat.le_of_ble_eq_true rfl)) dB_36_0_18.2.2.1.1 ⟨Nat.le_of_ble_eq_true rfl, Nat.le_of_ble_eq_true rfl⟩) hS (fun q _ h => hFc q h) hFc (fun u t H locs ht hvm hw hB hz1 hk1 hS => ?_)
        obtain ⟨e1_99, g_100, hP1, hD1⟩ := hB
        rw [ht] at hP1
        obtain ⟨hP, hD⟩ := va_join (wr := [ob0_0_ xc xn xk clo cro c4 c5 c6 c7 c8, ob3_0_ xn vp vn n1 n2 n3 n4 n5, ai_ cy n1 40 fk, ai_ cy n2 40 fs, ai_ cy n3 40 fe, ai_ cy n4 40 fw, aq_ cy 6 clo 12 (gf_ rl), ai_ cy (rl 0) 12 (m_rl_1 0), ai_ cy (rl 1) 12 (m_rl_1 1), ai_ cy (rl 3) 12 (m_rl_1 3), ai_ cy (rl 4) 12 (m_rl_1 4), ai_ cy (rl 5) 12 (m_rl_1 5), ai_ cy (rl 6) 12 (m_rl_1 6), ai_ cy (rl 7) 12 (m_rl_1 7), ai_ cy (rl 8) 12 (m_rl_1 8), ai_ cy (rl 9) 12 (m_rl_1 9), ai_ cy (rl 10) 12 (m_rl_1 10), ai_ cy (rl 11) 12 (m_rl_1 11), ai_ cy c5 40 f5, ai_ cy c6 40 f6, aq_ cy 3 xk 5 (kf_ k0 k1 k2 k3 k4), ob6_0_ k0, ob5_0_ k1, ob9_0_ k2, ob2_0_ k3, ob8_0_ k4]) (w1 := [ai_ cy (rl 2) 12 e1_99]) hP hD [9] [0, 1, 2, 3, 4, 5, 6, 7, 8, 10, 11, 12, 13, 14, 15, 16, 17, 18, 19, 20, 21, 22, 23, 24, 25, 26] hC_ rfl (by decide +kernel) (by decide +kernel) hk1 hFc hP1 hD1
        refine pd_S hP hD [ob0_0_ xc xn xk clo cro c4 c5 c6 c7 c8, ob3_0_ xn vp vn n1 n2 n3 n4 n5, ai_ cy n1 40 fk, ai_ cy n2 40 fs, ai_ cy n3 40 fe, ai_ cy n4 40 fw, aq_ cy 6 clo 12 (gf_ rl), ai_ cy (rl 0) 12 (m_rl_1 0), ai_ cy (rl 1) 12 (m_rl_1 1), ai_ cy (rl 2) 12 e1_99, ai_ cy (rl 3) 12 (m_rl_1 3), ai_ cy (rl 4) 12 (m_rl_1 4), ai_ cy (rl 5) 12 (m_rl_1 5), ai_ cy (rl 6) 12 (m_rl_1 6), ai_ cy (rl 7) 12 (m_rl_1 7), ai_ cy (rl 8) 12 (m_rl_1 8), ai_ cy (rl 9) 12 (m_rl_1 9), ai_ cy (rl 10) 12 (m_rl_1 10), ai_ cy (rl 11) 12 (m_rl_1 11), ai_ cy c5 40 f5, ai_ cy c6 40 f6, aq_ cy 3 xk 5 (kf_ k0 k1 k2 k3 k4), ob6_0_ k0, ob5_0_ k1, ob9_0_ k2, ob2_0_ k3, ob8_0_ k4] [0, 1, 2, 3, 4, 5, 6, 7, 8, 26, 9, 10, 11, 12, 13, 14, 15, 16, 17, 18, 19, 20, 21, 22, 23, 24, 25] (by decide +kernel) rfl (fun hP hD => ?_)
        obtain ⟨M_101, eM_101⟩ : ∃ g : Nat → Nat → Int32, g = va_up m_rl_1 2 e1_99 := ⟨_, rfl⟩
        refine pd_K (D := D) (cl := vwCl) (H := H) (A := A) [ob0_0_ xc xn xk clo cro c4 c5 c6 c7 c8, ob3_0_ xn vp vn n1 n2 n3 n4 n5, ai_ cy n1 40 fk, ai_ cy n2 40 fs, ai_ cy n3 40 fe, ai_ cy n4 40 fw, aq_ cy 6 clo 12 (gf_ rl), ai_ cy (rl 0) 12 (M_101 0), ai_ cy (rl 1) 12 (M_101 1), ai_ cy (rl 2) 12 (M_101 2), ai_ cy (rl 3) 12 (M_101 3), ai_ cy (rl 4) 12 (M_101 4), ai_ cy (rl 5) 12 (M_101 5), ai_ cy (rl 6) 12 (M_101 6), ai_ cy (rl 7) 12 (M_101 7), ai_ cy (rl 8) 12 (M_101 8), ai_ cy (rl 9) 12 (M_101 9), ai_ cy (rl 10) 12 (M_101 10), ai_ cy (rl 11) 12 (M_101 11), ai_ cy c5 40 f5, ai_ cy c6 40 f6, aq_ cy 3 xk 5 (kf_ k0 k1 k2 k3 k4), ob6_0_ k0, ob5_0_ k1, ob9_0_ k2, ob2_0_ k3, ob8_0_ k4] (by rw [eM_101]; exact hP) (by rw [eM_101]; exact hD) (fun hP hD => ?_)
        obtain ⟨y_102, ey_102⟩ : ∃ y : Int32, y = (2 : Int32) + 1 := ⟨_, rfl⟩
        have ty_102 : y_102.toInt = (2 : Int32).toInt + (1 : Int32).toInt := by rw [ey_102]; exact addI (by omega) (by omega)
        refine lv_iinc (v := y_102) (lv' := [(2, .int y_102), (0, .ref xc), (1, .int a1)]) hx hb dB_36_0_18.2.2.1.2 hl (k := 0) rfl (by rw [ey_102]; rfl) (by decide) rfl (fun ls hl => ?_)
        refine lv_goto (tgt := 2) hx hb dB_36_0_18.2.2.2.1 (by decide) ?_
        exact ih_1 y_102 M_101 _ _ _ (by omega) (by first | with_reducible assumption | omega | assumption) (by first | with_reducible assumption | omega | assumption) ⟨hP, hD⟩ hS (lv_sub hl [0, 1, 2] rfl)
      · refine lv_aload_n hx hb dB_36_0_18.1.2.2.2 rfl (lv_at hl 1 rfl) ?_
        refine va_get (ci := 0) (v := .ref clo) (C := RX0) (T := TX0) (N := 9) hx hb hts (fun _ h => List.mem_cons_of_mem _ (List.mem_append_left _ (List.mem_append_right _ h))) hown hK.1 hP 0 rfl rfl 2 (by decide) (hts (.fieldLink RX0 11 "CutAtlas$Current" "lets" "[[I") (List.mem_of_getElem? (i := 3) rfl)) (fun _ h9 => h9) rfl dB_36_0_18.2.1.1.1 ?_
        refine lv_iload_n hx hb dB_36_0_18.2.1.1.2 rfl (lv_at hl 0 rfl) ?_
        have h_103 : vp_in (3 : Int32) 12 := by unfold vp_in; decide
        refine va_alda hx hb hG hP 6 rfl (i := 3) h_103 dB_36_0_18.2.1.2.1 ?_
        refine lv_topv (v' := .ref (rl 3)) (gf_at h_103) ?_
        refine lv_iconst (v := 0) hx hb dB_36_0_18.2.1.2.2 (by decide) ?_
        refine ct_S hP hD hS hA [ai_ cy (rl 3) 12 (m_rl_1 3)] [10] (by decide) rfl (fun hPc hDw hFc hC_ => ?_)
        refine va_callv (va_runS (As := [.ref (rl 3), .int 0]) (rest := []) ⟨hx, hb, hml, hown, hts⟩ (c_J7_fill_53178 l D cy H.size (rl 3) 12 (0 : Int32) (m_rl_1 3) (by first | with_reducible assumption | assumption | omega)) (va_cwS 2 hts gX0_load_J7_fill_53178 rfl rfl rfl hd_J7_fill_53178 ⟨Nat.le_of_ble_eq_true rfl, Nat.le_of_ble_eq_true rfl⟩) ⟨bl_, fun U hU hW => ⟨rfl, by rw [hU], by rw [hU]; exact hPc, kk_mv hW hK, hDw⟩⟩ rfl rfl hl.1 rfl (lv_room (Nat.le_of_ble_eq_true rfl)) dB_36_0_18.2.2.1.1 ⟨Nat.le_of_ble_eq_true rfl, Nat.le_of_ble_eq_true rfl⟩) hS (fun q _ h => hFc q h) hFc (fun u t H locs ht hvm hw hB hz1 hk1 hS => ?_)
        obtain ⟨e1_105, g_106, hP1, hD1⟩ := hB
        rw [ht] at hP1
        obtain ⟨hP, hD⟩ := va_join (wr := [ob0_0_ xc xn xk clo cro c4 c5 c6 c7 c8, ob3_0_ xn vp vn n1 n2 n3 n4 n5, ai_ cy n1 40 fk, ai_ cy n2 40 fs, ai_ cy n3 40 fe, ai_ cy n4 40 fw, aq_ cy 6 clo 12 (gf_ rl), ai_ cy (rl 0) 12 (m_rl_1 0), ai_ cy (rl 1) 12 (m_rl_1 1), ai_ cy (rl 2) 12 (m_rl_1 2), ai_ cy (rl 4) 12 (m_rl_1 4), ai_ cy (rl 5) 12 (m_rl_1 5), ai_ cy (rl 6) 12 (m_rl_1 6), ai_ cy (rl 7) 12 (m_rl_1 7), ai_ cy (rl 8) 12 (m_rl_1 8), ai_ cy (rl 9) 12 (m_rl_1 9), ai_ cy (rl 10) 12 (m_rl_1 10), ai_ cy (rl 11) 12 (m_rl_1 11), ai_ cy c5 40 f5, ai_ cy c6 40 f6, aq_ cy 3 xk 5 (kf_ k0 k1 k2 k3 k4), ob6_0_ k0, ob5_0_ k1, ob9_0_ k2, ob2_0_ k3, ob8_0_ k4]) (w1 := [ai_ cy (rl 3) 12 e1_105]) hP hD [10] [0, 1, 2, 3, 4, 5, 6, 7, 8, 9, 11, 12, 13, 14, 15, 16, 17, 18, 19, 20, 21, 22, 23, 24, 25, 26] hC_ rfl (by decide +kernel) (by decide +kernel) hk1 hFc hP1 hD1
        refine pd_S hP hD [ob0_0_ xc xn xk clo cro c4 c5 c6 c7 c8, ob3_0_ xn vp vn n1 n2 n3 n4 n5, ai_ cy n1 40 fk, ai_ cy n2 40 fs, ai_ cy n3 40 fe, ai_ cy n4 40 fw, aq_ cy 6 clo 12 (gf_ rl), ai_ cy (rl 0) 12 (m_rl_1 0), ai_ cy (rl 1) 12 (m_rl_1 1), ai_ cy (rl 2) 12 (m_rl_1 2), ai_ cy (rl 3) 12 e1_105, ai_ cy (rl 4) 12 (m_rl_1 4), ai_ cy (rl 5) 12 (m_rl_1 5), ai_ cy (rl 6) 12 (m_rl_1 6), ai_ cy (rl 7) 12 (m_rl_1 7), ai_ cy (rl 8) 12 (m_rl_1 8), ai_ cy (rl 9) 12 (m_rl_1 9), ai_ cy (rl 10) 12 (m_rl_1 10), ai_ cy (rl 11) 12 (m_rl_1 11), ai_ cy c5 40 f5, ai_ cy c6 40 f6, aq_ cy 3 xk 5 (kf_ k0 k1 k2 k3 k4), ob6_0_ k0, ob5_0_ k1, ob9_0_ k2, ob2_0_ k3, ob8_0_ k4] [0, 1, 2, 3, 4, 5, 6, 7, 8, 9, 26, 10, 11, 12, 13, 14, 15, 16, 17, 18, 19, 20, 21, 22, 23, 24, 25] (by decide +kernel) rfl (fun hP hD => ?_)
        obtain ⟨M_107, eM_107⟩ : ∃ g : Nat → Nat → Int32, g = va_up m_rl_1 3 e1_105 := ⟨_, rfl⟩
        refine pd_K (D := D) (cl := vwCl) (H := H) (A := A) [ob0_0_ xc xn xk clo cro c4 c5 c6 c7 c8, ob3_0_ xn vp vn n1 n2 n3 n4 n5, ai_ cy n1 40 fk, ai_ cy n2 40 fs, ai_ cy n3 40 fe, ai_ cy n4 40 fw, aq_ cy 6 clo 12 (gf_ rl), ai_ cy (rl 0) 12 (M_107 0), ai_ cy (rl 1) 12 (M_107 1), ai_ cy (rl 2) 12 (M_107 2), ai_ cy (rl 3) 12 (M_107 3), ai_ cy (rl 4) 12 (M_107 4), ai_ cy (rl 5) 12 (M_107 5), ai_ cy (rl 6) 12 (M_107 6), ai_ cy (rl 7) 12 (M_107 7), ai_ cy (rl 8) 12 (M_107 8), ai_ cy (rl 9) 12 (M_107 9), ai_ cy (rl 10) 12 (M_107 10), ai_ cy (rl 11) 12 (M_107 11), ai_ cy c5 40 f5, ai_ cy c6 40 f6, aq_ cy 3 xk 5 (kf_ k0 k1 k2 k3 k4), ob6_0_ k0, ob5_0_ k1, ob9_0_ k2, ob2_0_ k3, ob8_0_ k4] (by rw [eM_107]; exact hP) (by rw [eM_107]; exact hD) (fun hP hD => ?_)
        obtain ⟨y_108, ey_108⟩ : ∃ y : Int32, y = (3 : Int32) + 1 := ⟨_, rfl⟩
        have ty_108 : y_108.toInt = (3 : Int32).toInt + (1 : Int32).toInt := by rw [ey_108]; exact addI (by omega) (by omega)
        refine lv_iinc (v := y_108) (lv' := [(2, .int y_108), (0, .ref xc), (1, .int a1)]) hx hb dB_36_0_18.2.2.1.2 hl (k := 0) rfl (by rw [ey_108]; rfl) (by decide) rfl (fun ls hl => ?_)
        refine lv_goto (tgt := 2) hx hb dB_36_0_18.2.2.2.1 (by decide) ?_
        exact ih_1 y_108 M_107 _ _ _ (by omega) (by first | with_reducible assumption | omega | assumption) (by first | with_reducible assumption | omega | assumption) ⟨hP, hD⟩ hS (lv_sub hl [0, 1, 2] rfl)
      · refine lv_aload_n hx hb dB_36_0_18.1.2.2.2 rfl (lv_at hl 1 rfl) ?_
        refine va_get (ci := 0) (v := .ref clo) (C := RX0) (T := TX0) (N := 9) hx hb hts (fun _ h => List.mem_cons_of_mem _ (List.mem_append_left _ (List.mem_append_right _ h))) hown hK.1 hP 0 rfl rfl 2 (by decide) (hts (.fieldLink RX0 11 "CutAtlas$Current" "lets" "[[I") (List.mem_of_getElem? (i := 3) rfl)) (fun _ h9 => h9) rfl dB_36_0_18.2.1.1.1 ?_
        refine lv_iload_n hx hb dB_36_0_18.2.1.1.2 rfl (lv_at hl 0 rfl) ?_
        have h_109 : vp_in (4 : Int32) 12 := by unfold vp_in; decide
        refine va_alda hx hb hG hP 6 rfl (i := 4) h_109 dB_36_0_18.2.1.2.1 ?_
        refine lv_topv (v' := .ref (rl 4)) (gf_at h_109) ?_
        refine lv_iconst (v := 0) hx hb dB_36_0_18.2.1.2.2 (by decide) ?_
        refine ct_S hP hD hS hA [ai_ cy (rl 4) 12 (m_rl_1 4)] [11] (by decide) rfl (fun hPc hDw hFc hC_ => ?_)
        refine va_callv (va_runS (As := [.ref (rl 4), .int 0]) (rest := []) ⟨hx, hb, hml, hown, hts⟩ (c_J7_fill_53178 l D cy H.size (rl 4) 12 (0 : Int32) (m_rl_1 4) (by first | with_reducible assumption | assumption | omega)) (va_cwS 2 hts gX0_load_J7_fill_53178 rfl rfl rfl hd_J7_fill_53178 ⟨Nat.le_of_ble_eq_true rfl, Nat.le_of_ble_eq_true rfl⟩) ⟨bl_, fun U hU hW => ⟨rfl, by rw [hU], by rw [hU]; exact hPc, kk_mv hW hK, hDw⟩⟩ rfl rfl hl.1 rfl (lv_room (Nat.le_of_ble_eq_true rfl)) dB_36_0_18.2.2.1.1 ⟨Nat.le_of_ble_eq_true rfl, Nat.le_of_ble_eq_true rfl⟩) hS (fun q _ h => hFc q h) hFc (fun u t H locs ht hvm hw hB hz1 hk1 hS => ?_)
        obtain ⟨e1_111, g_112, hP1, hD1⟩ := hB
        rw [ht] at hP1
        obtain ⟨hP, hD⟩ := va_join (wr := [ob0_0_ xc xn xk clo cro c4 c5 c6 c7 c8, ob3_0_ xn vp vn n1 n2 n3 n4 n5, ai_ cy n1 40 fk, ai_ cy n2 40 fs, ai_ cy n3 40 fe, ai_ cy n4 40 fw, aq_ cy 6 clo 12 (gf_ rl), ai_ cy (rl 0) 12 (m_rl_1 0), ai_ cy (rl 1) 12 (m_rl_1 1), ai_ cy (rl 2) 12 (m_rl_1 2), ai_ cy (rl 3) 12 (m_rl_1 3), ai_ cy (rl 5) 12 (m_rl_1 5), ai_ cy (rl 6) 12 (m_rl_1 6), ai_ cy (rl 7) 12 (m_rl_1 7), ai_ cy (rl 8) 12 (m_rl_1 8), ai_ cy (rl 9) 12 (m_rl_1 9), ai_ cy (rl 10) 12 (m_rl_1 10), ai_ cy (rl 11) 12 (m_rl_1 11), ai_ cy c5 40 f5, ai_ cy c6 40 f6, aq_ cy 3 xk 5 (kf_ k0 k1 k2 k3 k4), ob6_0_ k0, ob5_0_ k1, ob9_0_ k2, ob2_0_ k3, ob8_0_ k4]) (w1 := [ai_ cy (rl 4) 12 e1_111]) hP hD [11] [0, 1, 2, 3, 4, 5, 6, 7, 8, 9, 10, 12, 13, 14, 15, 16, 17, 18, 19, 20, 21, 22, 23, 24, 25, 26] hC_ rfl (by decide +kernel) (by decide +kernel) hk1 hFc hP1 hD1
        refine pd_S hP hD [ob0_0_ xc xn xk clo cro c4 c5 c6 c7 c8, ob3_0_ xn vp vn n1 n2 n3 n4 n5, ai_ cy n1 40 fk, ai_ cy n2 40 fs, ai_ cy n3 40 fe, ai_ cy n4 40 fw, aq_ cy 6 clo 12 (gf_ rl), ai_ cy (rl 0) 12 (m_rl_1 0), ai_ cy (rl 1) 12 (m_rl_1 1), ai_ cy (rl 2) 12 (m_rl_1 2), ai_ cy (rl 3) 12 (m_rl_1 3), ai_ cy (rl 4) 12 e1_111, ai_ cy (rl 5) 12 (m_rl_1 5), ai_ cy (rl 6) 12 (m_rl_1 6), ai_ cy (rl 7) 12 (m_rl_1 7), ai_ cy (rl 8) 12 (m_rl_1 8), ai_ cy (rl 9) 12 (m_rl_1 9), ai_ cy (rl 10) 12 (m_rl_1 10), ai_ cy (rl 11) 12 (m_rl_1 11), ai_ cy c5 40 f5, ai_ cy c6 40 f6, aq_ cy 3 xk 5 (kf_ k0 k1 k2 k3 k4), ob6_0_ k0, ob5_0_ k1, ob9_0_ k2, ob2_0_ k3, ob8_0_ k4] [0, 1, 2, 3, 4, 5, 6, 7, 8, 9, 10, 26, 11, 12, 13, 14, 15, 16, 17, 18, 19, 20, 21, 22, 23, 24, 25] (by decide +kernel) rfl (fun hP hD => ?_)
        obtain ⟨M_113, eM_113⟩ : ∃ g : Nat → Nat → Int32, g = va_up m_rl_1 4 e1_111 := ⟨_, rfl⟩
        refine pd_K (D := D) (cl := vwCl) (H := H) (A := A) [ob0_0_ xc xn xk clo cro c4 c5 c6 c7 c8, ob3_0_ xn vp vn n1 n2 n3 n4 n5, ai_ cy n1 40 fk, ai_ cy n2 40 fs, ai_ cy n3 40 fe, ai_ cy n4 40 fw, aq_ cy 6 clo 12 (gf_ rl), ai_ cy (rl 0) 12 (M_113 0), ai_ cy (rl 1) 12 (M_113 1), ai_ cy (rl 2) 12 (M_113 2), ai_ cy (rl 3) 12 (M_113 3), ai_ cy (rl 4) 12 (M_113 4), ai_ cy (rl 5) 12 (M_113 5), ai_ cy (rl 6) 12 (M_113 6), ai_ cy (rl 7) 12 (M_113 7), ai_ cy (rl 8) 12 (M_113 8), ai_ cy (rl 9) 12 (M_113 9), ai_ cy (rl 10) 12 (M_113 10), ai_ cy (rl 11) 12 (M_113 11), ai_ cy c5 40 f5, ai_ cy c6 40 f6, aq_ cy 3 xk 5 (kf_ k0 k1 k2 k3 k4), ob6_0_ k0, ob5_0_ k1, ob9_0_ k2, ob2_0_ k3, ob8_0_ k4] (by rw [eM_113]; exact hP) (by rw [eM_113]; exact hD) (fun hP hD => ?_)
        obtain ⟨y_114, ey_114⟩ : ∃ y : Int32, y = (4 : Int32) + 1 := ⟨_, rfl⟩
        have ty_114 : y_114.toInt = (4 : Int32).toInt + (1 : Int32).toInt := by rw [ey_114]; exact addI (by omega) (by omega)
        refine lv_iinc (v := y_114) (lv' := [(2, .int y_114), (0, .ref xc), (1, .int a1)]) hx hb dB_36_0_18.2.2.1.2 hl (k := 0) rfl (by rw [ey_114]; rfl) (by decide) rfl (fun ls hl => ?_)
        refine lv_goto (tgt := 2) hx hb dB_36_0_18.2.2.2.1 (by decide) ?_
        exact ih_1 y_114 M_113 _ _ _ (by omega) (by first | with_reducible assumption | omega | assumption) (by first | with_reducible assumption | omega | assumption) ⟨hP, hD⟩ hS (lv_sub hl [0, 1, 2] rfl)
      · refine lv_aload_n hx hb dB_36_0_18.1.2.2.2 rfl (lv_at hl 1 rfl) ?_
        refine va_get (ci := 0) (v := .ref clo) (C := RX0) (T := TX0) (N := 9) hx hb hts (fun _ h => List.mem_cons_of_mem _ (List.mem_append_left _ (List.mem_append_right _ h))) hown hK.1 hP 0 rfl rfl 2 (by decide) (hts (.fieldLink RX0 11 "CutAtlas$Current" "lets" "[[I") (List.mem_of_getElem? (i := 3) rfl)) (fun _ h9 => h9) rfl dB_36_0_18.2.1.1.1 ?_
        refine lv_iload_n hx hb dB_36_0_18.2.1.1.2 rfl (lv_at hl 0 rfl) ?_
        have h_115 : vp_in (5 : Int32) 12 := by unfold vp_in; decide
        refine va_alda hx hb hG hP 6 rfl (i := 5) h_115 dB_36_0_18.2.1.2.1 ?_
        refine lv_topv (v' := .ref (rl 5)) (gf_at h_115) ?_
        refine lv_iconst (v := 0) hx hb dB_36_0_18.2.1.2.2 (by decide) ?_
        refine ct_S hP hD hS hA [ai_ cy (rl 5) 12 (m_rl_1 5)] [12] (by decide) rfl (fun hPc hDw hFc hC_ => ?_)
        refine va_callv (va_runS (As := [.ref (rl 5), .int 0]) (rest := []) ⟨hx, hb, hml, hown, hts⟩ (c_J7_fill_53178 l D cy H.size (rl 5) 12 (0 : Int32) (m_rl_1 5) (by first | with_reducible assumption | assumption | omega)) (va_cwS 2 hts gX0_load_J7_fill_53178 rfl rfl rfl hd_J7_fill_53178 ⟨Nat.le_of_ble_eq_true rfl, Nat.le_of_ble_eq_true rfl⟩) ⟨bl_, fun U hU hW => ⟨rfl, by rw [hU], by rw [hU]; exact hPc, kk_mv hW hK, hDw⟩⟩ rfl rfl hl.1 rfl (lv_room (Nat.le_of_ble_eq_true rfl)) dB_36_0_18.2.2.1.1 ⟨Nat.le_of_ble_eq_true rfl, Nat.le_of_ble_eq_true rfl⟩) hS (fun q _ h => hFc q h) hFc (fun u t H locs ht hvm hw hB hz1 hk1 hS => ?_)
        obtain ⟨e1_117, g_118, hP1, hD1⟩ := hB
        rw [ht] at hP1
        obtain ⟨hP, hD⟩ := va_join (wr := [ob0_0_ xc xn xk clo cro c4 c5 c6 c7 c8, ob3_0_ xn vp vn n1 n2 n3 n4 n5, ai_ cy n1 40 fk, ai_ cy n2 40 fs, ai_ cy n3 40 fe, ai_ cy n4 40 fw, aq_ cy 6 clo 12 (gf_ rl), ai_ cy (rl 0) 12 (m_rl_1 0), ai_ cy (rl 1) 12 (m_rl_1 1), ai_ cy (rl 2) 12 (m_rl_1 2), ai_ cy (rl 3) 12 (m_rl_1 3), ai_ cy (rl 4) 12 (m_rl_1 4), ai_ cy (rl 6) 12 (m_rl_1 6), ai_ cy (rl 7) 12 (m_rl_1 7), ai_ cy (rl 8) 12 (m_rl_1 8), ai_ cy (rl 9) 12 (m_rl_1 9), ai_ cy (rl 10) 12 (m_rl_1 10), ai_ cy (rl 11) 12 (m_rl_1 11), ai_ cy c5 40 f5, ai_ cy c6 40 f6, aq_ cy 3 xk 5 (kf_ k0 k1 k2 k3 k4), ob6_0_ k0, ob5_0_ k1, ob9_0_ k2, ob2_0_ k3, ob8_0_ k4]) (w1 := [ai_ cy (rl 5) 12 e1_117]) hP hD [12] [0, 1, 2, 3, 4, 5, 6, 7, 8, 9, 10, 11, 13, 14, 15, 16, 17, 18, 19, 20, 21, 22, 23, 24, 25, 26] hC_ rfl (by decide +kernel) (by decide +kernel) hk1 hFc hP1 hD1
        refine pd_S hP hD [ob0_0_ xc xn xk clo cro c4 c5 c6 c7 c8, ob3_0_ xn vp vn n1 n2 n3 n4 n5, ai_ cy n1 40 fk, ai_ cy n2 40 fs, ai_ cy n3 40 fe, ai_ cy n4 40 fw, aq_ cy 6 clo 12 (gf_ rl), ai_ cy (rl 0) 12 (m_rl_1 0), ai_ cy (rl 1) 12 (m_rl_1 1), ai_ cy (rl 2) 12 (m_rl_1 2), ai_ cy (rl 3) 12 (m_rl_1 3), ai_ cy (rl 4) 12 (m_rl_1 4), ai_ cy (rl 5) 12 e1_117, ai_ cy (rl 6) 12 (m_rl_1 6), ai_ cy (rl 7) 12 (m_rl_1 7), ai_ cy (rl 8) 12 (m_rl_1 8), ai_ cy (rl 9) 12 (m_rl_1 9), ai_ cy (rl 10) 12 (m_rl_1 10), ai_ cy (rl 11) 12 (m_rl_1 11), ai_ cy c5 40 f5, ai_ cy c6 40 f6, aq_ cy 3 xk 5 (kf_ k0 k1 k2 k3 k4), ob6_0_ k0, ob5_0_ k1, ob9_0_ k2, ob2_0_ k3, ob8_0_ k4] [0, 1, 2, 3, 4, 5, 6, 7, 8, 9, 10, 11, 26, 12, 13, 14, 15, 16, 17, 18, 19, 20, 21, 22, 23, 24, 25] (by decide +kernel) rfl (fun hP hD => ?_)
        obtain ⟨M_119, eM_119⟩ : ∃ g : Nat → Nat → Int32, g = va_up m_rl_1 5 e1_117 := ⟨_, rfl⟩
        refine pd_K (D := D) (cl := vwCl) (H := H) (A := A) [ob0_0_ xc xn xk clo cro c4 c5 c6 c7 c8, ob3_0_ xn vp vn n1 n2 n3 n4 n5, ai_ cy n1 40 fk, ai_ cy n2 40 fs, ai_ cy n3 40 fe, ai_ cy n4 40 fw, aq_ cy 6 clo 12 (gf_ rl), ai_ cy (rl 0) 12 (M_119 0), ai_ cy (rl 1) 12 (M_119 1), ai_ cy (rl 2) 12 (M_119 2), ai_ cy (rl 3) 12 (M_119 3), ai_ cy (rl 4) 12 (M_119 4), ai_ cy (rl 5) 12 (M_119 5), ai_ cy (rl 6) 12 (M_119 6), ai_ cy (rl 7) 12 (M_119 7), ai_ cy (rl 8) 12 (M_119 8), ai_ cy (rl 9) 12 (M_119 9), ai_ cy (rl 10) 12 (M_119 10), ai_ cy (rl 11) 12 (M_119 11), ai_ cy c5 40 f5, ai_ cy c6 40 f6, aq_ cy 3 xk 5 (kf_ k0 k1 k2 k3 k4), ob6_0_ k0, ob5_0_ k1, ob9_0_ k2, ob2_0_ k3, ob8_0_ k4] (by rw [eM_119]; exact hP) (by rw [eM_119]; exact hD) (fun hP hD => ?_)
        obtain ⟨y_120, ey_120⟩ : ∃ y : Int32, y = (5 : Int32) + 1 := ⟨_, rfl⟩
        have ty_120 : y_120.toInt = (5 : Int32).toInt + (1 : Int32).toInt := by rw [ey_120]; exact addI (by omega) (by omega)
        refine lv_iinc (v := y_120) (lv' := [(2, .int y_120), (0, .ref xc), (1, .int a1)]) hx hb dB_36_0_18.2.2.1.2 hl (k := 0) rfl (by rw [ey_120]; rfl) (by decide) rfl (fun ls hl => ?_)
        refine lv_goto (tgt := 2) hx hb dB_36_0_18.2.2.2.1 (by decide) ?_
        exact ih_1 y_120 M_119 _ _ _ (by omega) (by first | with_reducible assumption | omega | assumption) (by first | with_reducible assumption | omega | assumption) ⟨hP, hD⟩ hS (lv_sub hl [0, 1, 2] rfl)
      · refine lv_aload_n hx hb dB_36_0_18.1.2.2.2 rfl (lv_at hl 1 rfl) ?_
        refine va_get (ci := 0) (v := .ref clo) (C := RX0) (T := TX0) (N := 9) hx hb hts (fun _ h => List.mem_cons_of_mem _ (List.mem_append_left _ (List.mem_append_right _ h))) hown hK.1 hP 0 rfl rfl 2 (by decide) (hts (.fieldLink RX0 11 "CutAtlas$Current" "lets" "[[I") (List.mem_of_getElem? (i := 3) rfl)) (fun _ h9 => h9) rfl dB_36_0_18.2.1.1.1 ?_
        refine lv_iload_n hx hb dB_36_0_18.2.1.1.2 rfl (lv_at hl 0 rfl) ?_
        have h_121 : vp_in (6 : Int32) 12 := by unfold vp_in; decide
        refine va_alda hx hb hG hP 6 rfl (i := 6) h_121 dB_36_0_18.2.1.2.1 ?_
        refine lv_topv (v' := .ref (rl 6)) (gf_at h_121) ?_
        refine lv_iconst (v := 0) hx hb dB_36_0_18.2.1.2.2 (by decide) ?_
        refine ct_S hP hD hS hA [ai_ cy (rl 6) 12 (m_rl_1 6)] [13] (by decide) rfl (fun hPc hDw hFc hC_ => ?_)
        refine va_callv (va_runS (As := [.ref (rl 6), .int 0]) (rest := []) ⟨hx, hb, hml, hown, hts⟩ (c_J7_fill_53178 l D cy H.size (rl 6) 12 (0 : Int32) (m_rl_1 6) (by first | with_reducible assumption | assumption | omega)) (va_cwS 2 hts gX0_load_J7_fill_53178 rfl rfl rfl hd_J7_fill_53178 ⟨Nat.le_of_ble_eq_true rfl, Nat.le_of_ble_eq_true rfl⟩) ⟨bl_, fun U hU hW => ⟨rfl, by rw [hU], by rw [hU]; exact hPc, kk_mv hW hK, hDw⟩⟩ rfl rfl hl.1 rfl (lv_room (Nat.le_of_ble_eq_true rfl)) dB_36_0_18.2.2.1.1 ⟨Nat.le_of_ble_eq_true rfl, Nat.le_of_ble_eq_true rfl⟩) hS (fun q _ h => hFc q h) hFc (fun u t H locs ht hvm hw hB hz1 hk1 hS => ?_)
        obtain ⟨e1_123, g_124, hP1, hD1⟩ := hB
        rw [ht] at hP1
        obtain ⟨hP, hD⟩ := va_join (wr := [ob0_0_ xc xn xk clo cro c4 c5 c6 c7 c8, ob3_0_ xn vp vn n1 n2 n3 n4 n5, ai_ cy n1 40 fk, ai_ cy n2 40 fs, ai_ cy n3 40 fe, ai_ cy n4 40 fw, aq_ cy 6 clo 12 (gf_ rl), ai_ cy (rl 0) 12 (m_rl_1 0), ai_ cy (rl 1) 12 (m_rl_1 1), ai_ cy (rl 2) 12 (m_rl_1 2), ai_ cy (rl 3) 12 (m_rl_1 3), ai_ cy (rl 4) 12 (m_rl_1 4), ai_ cy (rl 5) 12 (m_rl_1 5), ai_ cy (rl 7) 12 (m_rl_1 7), ai_ cy (rl 8) 12 (m_rl_1 8), ai_ cy (rl 9) 12 (m_rl_1 9), ai_ cy (rl 10) 12 (m_rl_1 10), ai_ cy (rl 11) 12 (m_rl_1 11), ai_ cy c5 40 f5, ai_ cy c6 40 f6, aq_ cy 3 xk 5 (kf_ k0 k1 k2 k3 k4), ob6_0_ k0, ob5_0_ k1, ob9_0_ k2, ob2_0_ k3, ob8_0_ k4]) (w1 := [ai_ cy (rl 6) 12 e1_123]) hP hD [13] [0, 1, 2, 3, 4, 5, 6, 7, 8, 9, 10, 11, 12, 14, 15, 16, 17, 18, 19, 20, 21, 22, 23, 24, 25, 26] hC_ rfl (by decide +kernel) (by decide +kernel) hk1 hFc hP1 hD1
        refine pd_S hP hD [ob0_0_ xc xn xk clo cro c4 c5 c6 c7 c8, ob3_0_ xn vp vn n1 n2 n3 n4 n5, ai_ cy n1 40 fk, ai_ cy n2 40 fs, ai_ cy n3 40 fe, ai_ cy n4 40 fw, aq_ cy 6 clo 12 (gf_ rl), ai_ cy (rl 0) 12 (m_rl_1 0), ai_ cy (rl 1) 12 (m_rl_1 1), ai_ cy (rl 2) 12 (m_rl_1 2), ai_ cy (rl 3) 12 (m_rl_1 3), ai_ cy (rl 4) 12 (m_rl_1 4), ai_ cy (rl 5) 12 (m_rl_1 5), ai_ cy (rl 6) 12 e1_123, ai_ cy (rl 7) 12 (m_rl_1 7), ai_ cy (rl 8) 12 (m_rl_1 8), ai_ cy (rl 9) 12 (m_rl_1 9), ai_ cy (rl 10) 12 (m_rl_1 10), ai_ cy (rl 11) 12 (m_rl_1 11), ai_ cy c5 40 f5, ai_ cy c6 40 f6, aq_ cy 3 xk 5 (kf_ k0 k1 k2 k3 k4), ob6_0_ k0, ob5_0_ k1, ob9_0_ k2, ob2_0_ k3, ob8_0_ k4] [0, 1, 2, 3, 4, 5, 6, 7, 8, 9, 10, 11, 12, 26, 13, 14, 15, 16, 17, 18, 19, 20, 21, 22, 23, 24, 25] (by decide +kernel) rfl (fun hP hD => ?_)
        obtain ⟨M_125, eM_125⟩ : ∃ g : Nat → Nat → Int32, g = va_up m_rl_1 6 e1_123 := ⟨_, rfl⟩
        refine pd_K (D := D) (cl := vwCl) (H := H) (A := A) [ob0_0_ xc xn xk clo cro c4 c5 c6 c7 c8, ob3_0_ xn vp vn n1 n2 n3 n4 n5, ai_ cy n1 40 fk, ai_ cy n2 40 fs, ai_ cy n3 40 fe, ai_ cy n4 40 fw, aq_ cy 6 clo 12 (gf_ rl), ai_ cy (rl 0) 12 (M_125 0), ai_ cy (rl 1) 12 (M_125 1), ai_ cy (rl 2) 12 (M_125 2), ai_ cy (rl 3) 12 (M_125 3), ai_ cy (rl 4) 12 (M_125 4), ai_ cy (rl 5) 12 (M_125 5), ai_ cy (rl 6) 12 (M_125 6), ai_ cy (rl 7) 12 (M_125 7), ai_ cy (rl 8) 12 (M_125 8), ai_ cy (rl 9) 12 (M_125 9), ai_ cy (rl 10) 12 (M_125 10), ai_ cy (rl 11) 12 (M_125 11), ai_ cy c5 40 f5, ai_ cy c6 40 f6, aq_ cy 3 xk 5 (kf_ k0 k1 k2 k3 k4), ob6_0_ k0, ob5_0_ k1, ob9_0_ k2, ob2_0_ k3, ob8_0_ k4] (by rw [eM_125]; exact hP) (by rw [eM_125]; exact hD) (fun hP hD => ?_)
        obtain ⟨y_126, ey_126⟩ : ∃ y : Int32, y = (6 : Int32) + 1 := ⟨_, rfl⟩
        have ty_126 : y_126.toInt = (6 : Int32).toInt + (1 : Int32).toInt := by rw [ey_126]; exact addI (by omega) (by omega)
        refine lv_iinc (v := y_126) (lv' := [(2, .int y_126), (0, .ref xc), (1, .int a1)]) hx hb dB_36_0_18.2.2.1.2 hl (k := 0) rfl (by rw [ey_126]; rfl) (by decide) rfl (fun ls hl => ?_)
        refine lv_goto (tgt := 2) hx hb dB_36_0_18.2.2.2.1 (by decide) ?_
        exact ih_1 y_126 M_125 _ _ _ (by omega) (by first | with_reducible assumption | omega | assumption) (by first | with_reducible assumption | omega | assumption) ⟨hP, hD⟩ hS (lv_sub hl [0, 1, 2] rfl)
      · refine lv_aload_n hx hb dB_36_0_18.1.2.2.2 rfl (lv_at hl 1 rfl) ?_
        refine va_get (ci := 0) (v := .ref clo) (C := RX0) (T := TX0) (N := 9) hx hb hts (fun _ h => List.mem_cons_of_mem _ (List.mem_append_left _ (List.mem_append_right _ h))) hown hK.1 hP 0 rfl rfl 2 (by decide) (hts (.fieldLink RX0 11 "CutAtlas$Current" "lets" "[[I") (List.mem_of_getElem? (i := 3) rfl)) (fun _ h9 => h9) rfl dB_36_0_18.2.1.1.1 ?_
        refine lv_iload_n hx hb dB_36_0_18.2.1.1.2 rfl (lv_at hl 0 rfl) ?_
        have h_127 : vp_in (7 : Int32) 12 := by unfold vp_in; decide
        refine va_alda hx hb hG hP 6 rfl (i := 7) h_127 dB_36_0_18.2.1.2.1 ?_
        refine lv_topv (v' := .ref (rl 7)) (gf_at h_127) ?_
        refine lv_iconst (v := 0) hx hb dB_36_0_18.2.1.2.2 (by decide) ?_
        refine ct_S hP hD hS hA [ai_ cy (rl 7) 12 (m_rl_1 7)] [14] (by decide) rfl (fun hPc hDw hFc hC_ => ?_)
        refine va_callv (va_runS (As := [.ref (rl 7), .int 0]) (rest := []) ⟨hx, hb, hml, hown, hts⟩ (c_J7_fill_53178 l D cy H.size (rl 7) 12 (0 : Int32) (m_rl_1 7) (by first | with_reducible assumption | assumption | omega)) (va_cwS 2 hts gX0_load_J7_fill_53178 rfl rfl rfl hd_J7_fill_53178 ⟨Nat.le_of_ble_eq_true rfl, Nat.le_of_ble_eq_true rfl⟩) ⟨bl_, fun U hU hW => ⟨rfl, by rw [hU], by rw [hU]; exact hPc, kk_mv hW hK, hDw⟩⟩ rfl rfl hl.1 rfl (lv_room (Nat.le_of_ble_eq_true rfl)) dB_36_0_18.2.2.1.1 ⟨Nat.le_of_ble_eq_true rfl, Nat.le_of_ble_eq_true rfl⟩) hS (fun q _ h => hFc q h) hFc (fun u t H locs ht hvm hw hB hz1 hk1 hS => ?_)
        obtain ⟨e1_129, g_130, hP1, hD1⟩ := hB
        rw [ht] at hP1
        obtain ⟨hP, hD⟩ := va_join (wr := [ob0_0_ xc xn xk clo cro c4 c5 c6 c7 c8, ob3_0_ xn vp vn n1 n2 n3 n4 n5, ai_ cy n1 40 fk, ai_ cy n2 40 fs, ai_ cy n3 40 fe, ai_ cy n4 40 fw, aq_ cy 6 clo 12 (gf_ rl), ai_ cy (rl 0) 12 (m_rl_1 0), ai_ cy (rl 1) 12 (m_rl_1 1), ai_ cy (rl 2) 12 (m_rl_1 2), ai_ cy (rl 3) 12 (m_rl_1 3), ai_ cy (rl 4) 12 (m_rl_1 4), ai_ cy (rl 5) 12 (m_rl_1 5), ai_ cy (rl 6) 12 (m_rl_1 6), ai_ cy (rl 8) 12 (m_rl_1 8), ai_ cy (rl 9) 12 (m_rl_1 9), ai_ cy (rl 10) 12 (m_rl_1 10), ai_ cy (rl 11) 12 (m_rl_1 11), ai_ cy c5 40 f5, ai_ cy c6 40 f6, aq_ cy 3 xk 5 (kf_ k0 k1 k2 k3 k4), ob6_0_ k0, ob5_0_ k1, ob9_0_ k2, ob2_0_ k3, ob8_0_ k4]) (w1 := [ai_ cy (rl 7) 12 e1_129]) hP hD [14] [0, 1, 2, 3, 4, 5, 6, 7, 8, 9, 10, 11, 12, 13, 15, 16, 17, 18, 19, 20, 21, 22, 23, 24, 25, 26] hC_ rfl (by decide +kernel) (by decide +kernel) hk1 hFc hP1 hD1
        refine pd_S hP hD [ob0_0_ xc xn xk clo cro c4 c5 c6 c7 c8, ob3_0_ xn vp vn n1 n2 n3 n4 n5, ai_ cy n1 40 fk, ai_ cy n2 40 fs, ai_ cy n3 40 fe, ai_ cy n4 40 fw, aq_ cy 6 clo 12 (gf_ rl), ai_ cy (rl 0) 12 (m_rl_1 0), ai_ cy (rl 1) 12 (m_rl_1 1), ai_ cy (rl 2) 12 (m_rl_1 2), ai_ cy (rl 3) 12 (m_rl_1 3), ai_ cy (rl 4) 12 (m_rl_1 4), ai_ cy (rl 5) 12 (m_rl_1 5), ai_ cy (rl 6) 12 (m_rl_1 6), ai_ cy (rl 7) 12 e1_129, ai_ cy (rl 8) 12 (m_rl_1 8), ai_ cy (rl 9) 12 (m_rl_1 9), ai_ cy (rl 10) 12 (m_rl_1 10), ai_ cy (rl 11) 12 (m_rl_1 11), ai_ cy c5 40 f5, ai_ cy c6 40 f6, aq_ cy 3 xk 5 (kf_ k0 k1 k2 k3 k4), ob6_0_ k0, ob5_0_ k1, ob9_0_ k2, ob2_0_ k3, ob8_0_ k4] [0, 1, 2, 3, 4, 5, 6, 7, 8, 9, 10, 11, 12, 13, 26, 14, 15, 16, 17, 18, 19, 20, 21, 22, 23, 24, 25] (by decide +kernel) rfl (fun hP hD => ?_)
        obtain ⟨M_131, eM_131⟩ : ∃ g : Nat → Nat → Int32, g = va_up m_rl_1 7 e1_129 := ⟨_, rfl⟩
        refine pd_K (D := D) (cl := vwCl) (H := H) (A := A) [ob0_0_ xc xn xk clo cro c4 c5 c6 c7 c8, ob3_0_ xn vp vn n1 n2 n3 n4 n5, ai_ cy n1 40 fk, ai_ cy n2 40 fs, ai_ cy n3 40 fe, ai_ cy n4 40 fw, aq_ cy 6 clo 12 (gf_ rl), ai_ cy (rl 0) 12 (M_131 0), ai_ cy (rl 1) 12 (M_131 1), ai_ cy (rl 2) 12 (M_131 2), ai_ cy (rl 3) 12 (M_131 3), ai_ cy (rl 4) 12 (M_131 4), ai_ cy (rl 5) 12 (M_131 5), ai_ cy (rl 6) 12 (M_131 6), ai_ cy (rl 7) 12 (M_131 7), ai_ cy (rl 8) 12 (M_131 8), ai_ cy (rl 9) 12 (M_131 9), ai_ cy (rl 10) 12 (M_131 10), ai_ cy (rl 11) 12 (M_131 11), ai_ cy c5 40 f5, ai_ cy c6 40 f6, aq_ cy 3 xk 5 (kf_ k0 k1 k2 k3 k4), ob6_0_ k0, ob5_0_ k1, ob9_0_ k2, ob2_0_ k3, ob8_0_ k4] (by rw [eM_131]; exact hP) (by rw [eM_131]; exact hD) (fun hP hD => ?_)
        obtain ⟨y_132, ey_132⟩ : ∃ y : Int32, y = (7 : Int32) + 1 := ⟨_, rfl⟩
        have ty_132 : y_132.toInt = (7 : Int32).toInt + (1 : Int32).toInt := by rw [ey_132]; exact addI (by omega) (by omega)
        refine lv_iinc (v := y_132) (lv' := [(2, .int y_132), (0, .ref xc), (1, .int a1)]) hx hb dB_36_0_18.2.2.1.2 hl (k := 0) rfl (by rw [ey_132]; rfl) (by decide) rfl (fun ls hl => ?_)
        refine lv_goto (tgt := 2) hx hb dB_36_0_18.2.2.2.1 (by decide) ?_
        exact ih_1 y_132 M_131 _ _ _ (by omega) (by first | with_reducible assumption | omega | assumption) (by first | with_reducible assumption | omega | assumption) ⟨hP, hD⟩ hS (lv_sub hl [0, 1, 2] rfl)
      · refine lv_aload_n hx hb dB_36_0_18.1.2.2.2 rfl (lv_at hl 1 rfl) ?_
        refine va_get (ci := 0) (v := .ref clo) (C := RX0) (T := TX0) (N := 9) hx hb hts (fun _ h => List.mem_cons_of_mem _ (List.mem_append_left _ (List.mem_append_right _ h))) hown hK.1 hP 0 rfl rfl 2 (by decide) (hts (.fieldLink RX0 11 "CutAtlas$Current" "lets" "[[I") (List.mem_of_getElem? (i := 3) rfl)) (fun _ h9 => h9) rfl dB_36_0_18.2.1.1.1 ?_
        refine lv_iload_n hx hb dB_36_0_18.2.1.1.2 rfl (lv_at hl 0 rfl) ?_
        have h_133 : vp_in (8 : Int32) 12 := by unfold vp_in; decide
        refine va_alda hx hb hG hP 6 rfl (i := 8) h_133 dB_36_0_18.2.1.2.1 ?_
        refine lv_topv (v' := .ref (rl 8)) (gf_at h_133) ?_
        refine lv_iconst (v := 0) hx hb dB_36_0_18.2.1.2.2 (by decide) ?_
        refine ct_S hP hD hS hA [ai_ cy (rl 8) 12 (m_rl_1 8)] [15] (by decide) rfl (fun hPc hDw hFc hC_ => ?_)
        refine va_callv (va_runS (As := [.ref (rl 8), .int 0]) (rest := []) ⟨hx, hb, hml, hown, hts⟩ (c_J7_fill_53178 l D cy H.size (rl 8) 12 (0 : Int32) (m_rl_1 8) (by first | with_reducible assumption | assumption | omega)) (va_cwS 2 hts gX0_load_J7_fill_53178 rfl rfl rfl hd_J7_fill_53178 ⟨Nat.le_of_ble_eq_true rfl, Nat.le_of_ble_eq_true rfl⟩) ⟨bl_, fun U hU hW => ⟨rfl, by rw [hU], by rw [hU]; exact hPc, kk_mv hW hK, hDw⟩⟩ rfl rfl hl.1 rfl (lv_room (Nat.le_of_ble_eq_true rfl)) dB_36_0_18.2.2.1.1 ⟨Nat.le_of_ble_eq_true rfl, Nat.le_of_ble_eq_true rfl⟩) hS (fun q _ h => hFc q h) hFc (fun u t H locs ht hvm hw hB hz1 hk1 hS => ?_)
        obtain ⟨e1_135, g_136, hP1, hD1⟩ := hB
        rw [ht] at hP1
        obtain ⟨hP, hD⟩ := va_join (wr := [ob0_0_ xc xn xk clo cro c4 c5 c6 c7 c8, ob3_0_ xn vp vn n1 n2 n3 n4 n5, ai_ cy n1 40 fk, ai_ cy n2 40 fs, ai_ cy n3 40 fe, ai_ cy n4 40 fw, aq_ cy 6 clo 12 (gf_ rl), ai_ cy (rl 0) 12 (m_rl_1 0), ai_ cy (rl 1) 12 (m_rl_1 1), ai_ cy (rl 2) 12 (m_rl_1 2), ai_ cy (rl 3) 12 (m_rl_1 3), ai_ cy (rl 4) 12 (m_rl_1 4), ai_ cy (rl 5) 12 (m_rl_1 5), ai_ cy (rl 6) 12 (m_rl_1 6), ai_ cy (rl 7) 12 (m_rl_1 7), ai_ cy (rl 9) 12 (m_rl_1 9), ai_ cy (rl 10) 12 (m_rl_1 10), ai_ cy (rl 11) 12 (m_rl_1 11), ai_ cy c5 40 f5, ai_ cy c6 40 f6, aq_ cy 3 xk 5 (kf_ k0 k1 k2 k3 k4), ob6_0_ k0, ob5_0_ k1, ob9_0_ k2, ob2_0_ k3, ob8_0_ k4]) (w1 := [ai_ cy (rl 8) 12 e1_135]) hP hD [15] [0, 1, 2, 3, 4, 5, 6, 7, 8, 9, 10, 11, 12, 13, 14, 16, 17, 18, 19, 20, 21, 22, 23, 24, 25, 26] hC_ rfl (by decide +kernel) (by decide +kernel) hk1 hFc hP1 hD1
        refine pd_S hP hD [ob0_0_ xc xn xk clo cro c4 c5 c6 c7 c8, ob3_0_ xn vp vn n1 n2 n3 n4 n5, ai_ cy n1 40 fk, ai_ cy n2 40 fs, ai_ cy n3 40 fe, ai_ cy n4 40 fw, aq_ cy 6 clo 12 (gf_ rl), ai_ cy (rl 0) 12 (m_rl_1 0), ai_ cy (rl 1) 12 (m_rl_1 1), ai_ cy (rl 2) 12 (m_rl_1 2), ai_ cy (rl 3) 12 (m_rl_1 3), ai_ cy (rl 4) 12 (m_rl_1 4), ai_ cy (rl 5) 12 (m_rl_1 5), ai_ cy (rl 6) 12 (m_rl_1 6), ai_ cy (rl 7) 12 (m_rl_1 7), ai_ cy (rl 8) 12 e1_135, ai_ cy (rl 9) 12 (m_rl_1 9), ai_ cy (rl 10) 12 (m_rl_1 10), ai_ cy (rl 11) 12 (m_rl_1 11), ai_ cy c5 40 f5, ai_ cy c6 40 f6, aq_ cy 3 xk 5 (kf_ k0 k1 k2 k3 k4), ob6_0_ k0, ob5_0_ k1, ob9_0_ k2, ob2_0_ k3, ob8_0_ k4] [0, 1, 2, 3, 4, 5, 6, 7, 8, 9, 10, 11, 12, 13, 14, 26, 15, 16, 17, 18, 19, 20, 21, 22, 23, 24, 25] (by decide +kernel) rfl (fun hP hD => ?_)
        obtain ⟨M_137, eM_137⟩ : ∃ g : Nat → Nat → Int32, g = va_up m_rl_1 8 e1_135 := ⟨_, rfl⟩
        refine pd_K (D := D) (cl := vwCl) (H := H) (A := A) [ob0_0_ xc xn xk clo cro c4 c5 c6 c7 c8, ob3_0_ xn vp vn n1 n2 n3 n4 n5, ai_ cy n1 40 fk, ai_ cy n2 40 fs, ai_ cy n3 40 fe, ai_ cy n4 40 fw, aq_ cy 6 clo 12 (gf_ rl), ai_ cy (rl 0) 12 (M_137 0), ai_ cy (rl 1) 12 (M_137 1), ai_ cy (rl 2) 12 (M_137 2), ai_ cy (rl 3) 12 (M_137 3), ai_ cy (rl 4) 12 (M_137 4), ai_ cy (rl 5) 12 (M_137 5), ai_ cy (rl 6) 12 (M_137 6), ai_ cy (rl 7) 12 (M_137 7), ai_ cy (rl 8) 12 (M_137 8), ai_ cy (rl 9) 12 (M_137 9), ai_ cy (rl 10) 12 (M_137 10), ai_ cy (rl 11) 12 (M_137 11), ai_ cy c5 40 f5, ai_ cy c6 40 f6, aq_ cy 3 xk 5 (kf_ k0 k1 k2 k3 k4), ob6_0_ k0, ob5_0_ k1, ob9_0_ k2, ob2_0_ k3, ob8_0_ k4] (by rw [eM_137]; exact hP) (by rw [eM_137]; exact hD) (fun hP hD => ?_)
        obtain ⟨y_138, ey_138⟩ : ∃ y : Int32, y = (8 : Int32) + 1 := ⟨_, rfl⟩
        have ty_138 : y_138.toInt = (8 : Int32).toInt + (1 : Int32).toInt := by rw [ey_138]; exact addI (by omega) (by omega)
        refine lv_iinc (v := y_138) (lv' := [(2, .int y_138), (0, .ref xc), (1, .int a1)]) hx hb dB_36_0_18.2.2.1.2 hl (k := 0) rfl (by rw [ey_138]; rfl) (by decide) rfl (fun ls hl => ?_)
        refine lv_goto (tgt := 2) hx hb dB_36_0_18.2.2.2.1 (by decide) ?_
        exact ih_1 y_138 M_137 _ _ _ (by omega) (by first | with_reducible assumption | omega | assumption) (by first | with_reducible assumption | omega | assumption) ⟨hP, hD⟩ hS (lv_sub hl [0, 1, 2] rfl)
      · refine lv_aload_n hx hb dB_36_0_18.1.2.2.2 rfl (lv_at hl 1 rfl) ?_
        refine va_get (ci := 0) (v := .ref clo) (C := RX0) (T := TX0) (N := 9) hx hb hts (fun _ h => List.mem_cons_of_mem _ (List.mem_append_left _ (List.mem_append_right _ h))) hown hK.1 hP 0 rfl rfl 2 (by decide) (hts (.fieldLink RX0 11 "CutAtlas$Current" "lets" "[[I") (List.mem_of_getElem? (i := 3) rfl)) (fun _ h9 => h9) rfl dB_36_0_18.2.1.1.1 ?_
        refine lv_iload_n hx hb dB_36_0_18.2.1.1.2 rfl (lv_at hl 0 rfl) ?_
        have h_139 : vp_in (9 : Int32) 12 := by unfold vp_in; decide
        refine va_alda hx hb hG hP 6 rfl (i := 9) h_139 dB_36_0_18.2.1.2.1 ?_
        refine lv_topv (v' := .ref (rl 9)) (gf_at h_139) ?_
        refine lv_iconst (v := 0) hx hb dB_36_0_18.2.1.2.2 (by decide) ?_
        refine ct_S hP hD hS hA [ai_ cy (rl 9) 12 (m_rl_1 9)] [16] (by decide) rfl (fun hPc hDw hFc hC_ => ?_)
        refine va_callv (va_runS (As := [.ref (rl 9), .int 0]) (rest := []) ⟨hx, hb, hml, hown, hts⟩ (c_J7_fill_53178 l D cy H.size (rl 9) 12 (0 : Int32) (m_rl_1 9) (by first | with_reducible assumption | assumption | omega)) (va_cwS 2 hts gX0_load_J7_fill_53178 rfl rfl rfl hd_J7_fill_53178 ⟨Nat.le_of_ble_eq_true rfl, Nat.le_of_ble_eq_true rfl⟩) ⟨bl_, fun U hU hW => ⟨rfl, by rw [hU], by rw [hU]; exact hPc, kk_mv hW hK, hDw⟩⟩ rfl rfl hl.1 rfl (lv_room (Nat.le_of_ble_eq_true rfl)) dB_36_0_18.2.2.1.1 ⟨Nat.le_of_ble_eq_true rfl, Nat.le_of_ble_eq_true rfl⟩) hS (fun q _ h => hFc q h) hFc (fun u t H locs ht hvm hw hB hz1 hk1 hS => ?_)
        obtain ⟨e1_141, g_142, hP1, hD1⟩ := hB
        rw [ht] at hP1
        obtain ⟨hP, hD⟩ := va_join (wr := [ob0_0_ xc xn xk clo cro c4 c5 c6 c7 c8, ob3_0_ xn vp vn n1 n2 n3 n4 n5, ai_ cy n1 40 fk, ai_ cy n2 40 fs, ai_ cy n3 40 fe, ai_ cy n4 40 fw, aq_ cy 6 clo 12 (gf_ rl), ai_ cy (rl 0) 12 (m_rl_1 0), ai_ cy (rl 1) 12 (m_rl_1 1), ai_ cy (rl 2) 12 (m_rl_1 2), ai_ cy (rl 3) 12 (m_rl_1 3), ai_ cy (rl 4) 12 (m_rl_1 4), ai_ cy (rl 5) 12 (m_rl_1 5), ai_ cy (rl 6) 12 (m_rl_1 6), ai_ cy (rl 7) 12 (m_rl_1 7), ai_ cy (rl 8) 12 (m_rl_1 8), ai_ cy (rl 10) 12 (m_rl_1 10), ai_ cy (rl 11) 12 (m_rl_1 11), ai_ cy c5 40 f5, ai_ cy c6 40 f6, aq_ cy 3 xk 5 (kf_ k0 k1 k2 k3 k4), ob6_0_ k0, ob5_0_ k1, ob9_0_ k2, ob2_0_ k3, ob8_0_ k4]) (w1 := [ai_ cy (rl 9) 12 e1_141]) hP hD [16] [0, 1, 2, 3, 4, 5, 6, 7, 8, 9, 10, 11, 12, 13, 14, 15, 17, 18, 19, 20, 21, 22, 23, 24, 25, 26] hC_ rfl (by decide +kernel) (by decide +kernel) hk1 hFc hP1 hD1
        refine pd_S hP hD [ob0_0_ xc xn xk clo cro c4 c5 c6 c7 c8, ob3_0_ xn vp vn n1 n2 n3 n4 n5, ai_ cy n1 40 fk, ai_ cy n2 40 fs, ai_ cy n3 40 fe, ai_ cy n4 40 fw, aq_ cy 6 clo 12 (gf_ rl), ai_ cy (rl 0) 12 (m_rl_1 0), ai_ cy (rl 1) 12 (m_rl_1 1), ai_ cy (rl 2) 12 (m_rl_1 2), ai_ cy (rl 3) 12 (m_rl_1 3), ai_ cy (rl 4) 12 (m_rl_1 4), ai_ cy (rl 5) 12 (m_rl_1 5), ai_ cy (rl 6) 12 (m_rl_1 6), ai_ cy (rl 7) 12 (m_rl_1 7), ai_ cy (rl 8) 12 (m_rl_1 8), ai_ cy (rl 9) 12 e1_141, ai_ cy (rl 10) 12 (m_rl_1 10), ai_ cy (rl 11) 12 (m_rl_1 11), ai_ cy c5 40 f5, ai_ cy c6 40 f6, aq_ cy 3 xk 5 (kf_ k0 k1 k2 k3 k4), ob6_0_ k0, ob5_0_ k1, ob9_0_ k2, ob2_0_ k3, ob8_0_ k4] [0, 1, 2, 3, 4, 5, 6, 7, 8, 9, 10, 11, 12, 13, 14, 15, 26, 16, 17, 18, 19, 20, 21, 22, 23, 24, 25] (by decide +kernel) rfl (fun hP hD => ?_)
        obtain ⟨M_143, eM_143⟩ : ∃ g : Nat → Nat → Int32, g = va_up m_rl_1 9 e1_141 := ⟨_, rfl⟩
        refine pd_K (D := D) (cl := vwCl) (H := H) (A := A) [ob0_0_ xc xn xk clo cro c4 c5 c6 c7 c8, ob3_0_ xn vp vn n1 n2 n3 n4 n5, ai_ cy n1 40 fk, ai_ cy n2 40 fs, ai_ cy n3 40 fe, ai_ cy n4 40 fw, aq_ cy 6 clo 12 (gf_ rl), ai_ cy (rl 0) 12 (M_143 0), ai_ cy (rl 1) 12 (M_143 1), ai_ cy (rl 2) 12 (M_143 2), ai_ cy (rl 3) 12 (M_143 3), ai_ cy (rl 4) 12 (M_143 4), ai_ cy (rl 5) 12 (M_143 5), ai_ cy (rl 6) 12 (M_143 6), ai_ cy (rl 7) 12 (M_143 7), ai_ cy (rl 8) 12 (M_143 8), ai_ cy (rl 9) 12 (M_143 9), ai_ cy (rl 10) 12 (M_143 10), ai_ cy (rl 11) 12 (M_143 11), ai_ cy c5 40 f5, ai_ cy c6 40 f6, aq_ cy 3 xk 5 (kf_ k0 k1 k2 k3 k4), ob6_0_ k0, ob5_0_ k1, ob9_0_ k2, ob2_0_ k3, ob8_0_ k4] (by rw [eM_143]; exact hP) (by rw [eM_143]; exact hD) (fun hP hD => ?_)
        obtain ⟨y_144, ey_144⟩ : ∃ y : Int32, y = (9 : Int32) + 1 := ⟨_, rfl⟩
        have ty_144 : y_144.toInt = (9 : Int32).toInt + (1 : Int32).toInt := by rw [ey_144]; exact addI (by omega) (by omega)
        refine lv_iinc (v := y_144) (lv' := [(2, .int y_144), (0, .ref xc), (1, .int a1)]) hx hb dB_36_0_18.2.2.1.2 hl (k := 0) rfl (by rw [ey_144]; rfl) (by decide) rfl (fun ls hl => ?_)
        refine lv_goto (tgt := 2) hx hb dB_36_0_18.2.2.2.1 (by decide) ?_
        exact ih_1 y_144 M_143 _ _ _ (by omega) (by first | with_reducible assumption | omega | assumption) (by first | with_reducible assumption | omega | assumption) ⟨hP, hD⟩ hS (lv_sub hl [0, 1, 2] rfl)
      · refine lv_aload_n hx hb dB_36_0_18.1.2.2.2 rfl (lv_at hl 1 rfl) ?_
        refine va_get (ci := 0) (v := .ref clo) (C := RX0) (T := TX0) (N := 9) hx hb hts (fun _ h => List.mem_cons_of_mem _ (List.mem_append_left _ (List.mem_append_right _ h))) hown hK.1 hP 0 rfl rfl 2 (by decide) (hts (.fieldLink RX0 11 "CutAtlas$Current" "lets" "[[I") (List.mem_of_getElem? (i := 3) rfl)) (fun _ h9 => h9) rfl dB_36_0_18.2.1.1.1 ?_
        refine lv_iload_n hx hb dB_36_0_18.2.1.1.2 rfl (lv_at hl 0 rfl) ?_
        have h_145 : vp_in (10 : Int32) 12 := by unfold vp_in; decide
        refine va_alda hx hb hG hP 6 rfl (i := 10) h_145 dB_36_0_18.2.1.2.1 ?_
        refine lv_topv (v' := .ref (rl 10)) (gf_at h_145) ?_
        refine lv_iconst (v := 0) hx hb dB_36_0_18.2.1.2.2 (by decide) ?_
        refine ct_S hP hD hS hA [ai_ cy (rl 10) 12 (m_rl_1 10)] [17] (by decide) rfl (fun hPc hDw hFc hC_ => ?_)
        refine va_callv (va_runS (As := [.ref (rl 10), .int 0]) (rest := []) ⟨hx, hb, hml, hown, hts⟩ (c_J7_fill_53178 l D cy H.size (rl 10) 12 (0 : Int32) (m_rl_1 10) (by first | with_reducible assumption | assumption | omega)) (va_cwS 2 hts gX0_load_J7_fill_53178 rfl rfl rfl hd_J7_fill_53178 ⟨Nat.le_of_ble_eq_true rfl, Nat.le_of_ble_eq_true rfl⟩) ⟨bl_, fun U hU hW => ⟨rfl, by rw [hU], by rw [hU]; exact hPc, kk_mv hW hK, hDw⟩⟩ rfl rfl hl.1 rfl (lv_room (Nat.le_of_ble_eq_true rfl)) dB_36_0_18.2.2.1.1 ⟨Nat.le_of_ble_eq_true rfl, Nat.le_of_ble_eq_true rfl⟩) hS (fun q _ h => hFc q h) hFc (fun u t H locs ht hvm hw hB hz1 hk1 hS => ?_)
        obtain ⟨e1_147, g_148, hP1, hD1⟩ := hB
        rw [ht] at hP1
        obtain ⟨hP, hD⟩ := va_join (wr := [ob0_0_ xc xn xk clo cro c4 c5 c6 c7 c8, ob3_0_ xn vp vn n1 n2 n3 n4 n5, ai_ cy n1 40 fk, ai_ cy n2 40 fs, ai_ cy n3 40 fe, ai_ cy n4 40 fw, aq_ cy 6 clo 12 (gf_ rl), ai_ cy (rl 0) 12 (m_rl_1 0), ai_ cy (rl 1) 12 (m_rl_1 1), ai_ cy (rl 2) 12 (m_rl_1 2), ai_ cy (rl 3) 12 (m_rl_1 3), ai_ cy (rl 4) 12 (m_rl_1 4), ai_ cy (rl 5) 12 (m_rl_1 5), ai_ cy (rl 6) 12 (m_rl_1 6), ai_ cy (rl 7) 12 (m_rl_1 7), ai_ cy (rl 8) 12 (m_rl_1 8), ai_ cy (rl 9) 12 (m_rl_1 9), ai_ cy (rl 11) 12 (m_rl_1 11), ai_ cy c5 40 f5, ai_ cy c6 40 f6, aq_ cy 3 xk 5 (kf_ k0 k1 k2 k3 k4), ob6_0_ k0, ob5_0_ k1, ob9_0_ k2, ob2_0_ k3, ob8_0_ k4]) (w1 := [ai_ cy (rl 10) 12 e1_147]) hP hD [17] [0, 1, 2, 3, 4, 5, 6, 7, 8, 9, 10, 11, 12, 13, 14, 15, 16, 18, 19, 20, 21, 22, 23, 24, 25, 26] hC_ rfl (by decide +kernel) (by decide +kernel) hk1 hFc hP1 hD1
        refine pd_S hP hD [ob0_0_ xc xn xk clo cro c4 c5 c6 c7 c8, ob3_0_ xn vp vn n1 n2 n3 n4 n5, ai_ cy n1 40 fk, ai_ cy n2 40 fs, ai_ cy n3 40 fe, ai_ cy n4 40 fw, aq_ cy 6 clo 12 (gf_ rl), ai_ cy (rl 0) 12 (m_rl_1 0), ai_ cy (rl 1) 12 (m_rl_1 1), ai_ cy (rl 2) 12 (m_rl_1 2), ai_ cy (rl 3) 12 (m_rl_1 3), ai_ cy (rl 4) 12 (m_rl_1 4), ai_ cy (rl 5) 12 (m_rl_1 5), ai_ cy (rl 6) 12 (m_rl_1 6), ai_ cy (rl 7) 12 (m_rl_1 7), ai_ cy (rl 8) 12 (m_rl_1 8), ai_ cy (rl 9) 12 (m_rl_1 9), ai_ cy (rl 10) 12 e1_147, ai_ cy (rl 11) 12 (m_rl_1 11), ai_ cy c5 40 f5, ai_ cy c6 40 f6, aq_ cy 3 xk 5 (kf_ k0 k1 k2 k3 k4), ob6_0_ k0, ob5_0_ k1, ob9_0_ k2, ob2_0_ k3, ob8_0_ k4] [0, 1, 2, 3, 4, 5, 6, 7, 8, 9, 10, 11, 12, 13, 14, 15, 16, 26, 17, 18, 19, 20, 21, 22, 23, 24, 25] (by decide +kernel) rfl (fun hP hD => ?_)
        obtain ⟨M_149, eM_149⟩ : ∃ g : Nat → Nat → Int32, g = va_up m_rl_1 10 e1_147 := ⟨_, rfl⟩
        refine pd_K (D := D) (cl := vwCl) (H := H) (A := A) [ob0_0_ xc xn xk clo cro c4 c5 c6 c7 c8, ob3_0_ xn vp vn n1 n2 n3 n4 n5, ai_ cy n1 40 fk, ai_ cy n2 40 fs, ai_ cy n3 40 fe, ai_ cy n4 40 fw, aq_ cy 6 clo 12 (gf_ rl), ai_ cy (rl 0) 12 (M_149 0), ai_ cy (rl 1) 12 (M_149 1), ai_ cy (rl 2) 12 (M_149 2), ai_ cy (rl 3) 12 (M_149 3), ai_ cy (rl 4) 12 (M_149 4), ai_ cy (rl 5) 12 (M_149 5), ai_ cy (rl 6) 12 (M_149 6), ai_ cy (rl 7) 12 (M_149 7), ai_ cy (rl 8) 12 (M_149 8), ai_ cy (rl 9) 12 (M_149 9), ai_ cy (rl 10) 12 (M_149 10), ai_ cy (rl 11) 12 (M_149 11), ai_ cy c5 40 f5, ai_ cy c6 40 f6, aq_ cy 3 xk 5 (kf_ k0 k1 k2 k3 k4), ob6_0_ k0, ob5_0_ k1, ob9_0_ k2, ob2_0_ k3, ob8_0_ k4] (by rw [eM_149]; exact hP) (by rw [eM_149]; exact hD) (fun hP hD => ?_)
        obtain ⟨y_150, ey_150⟩ : ∃ y : Int32, y = (10 : Int32) + 1 := ⟨_, rfl⟩
        have ty_150 : y_150.toInt = (10 : Int32).toInt + (1 : Int32).toInt := by rw [ey_150]; exact addI (by omega) (by omega)
        refine lv_iinc (v := y_150) (lv' := [(2, .int y_150), (0, .ref xc), (1, .int a1)]) hx hb dB_36_0_18.2.2.1.2 hl (k := 0) rfl (by rw [ey_150]; rfl) (by decide) rfl (fun ls hl => ?_)
        refine lv_goto (tgt := 2) hx hb dB_36_0_18.2.2.2.1 (by decide) ?_
        exact ih_1 y_150 M_149 _ _ _ (by omega) (by first | with_reducible assumption | omega | assumption) (by first | with_reducible assumption | omega | assumption) ⟨hP, hD⟩ hS (lv_sub hl [0, 1, 2] rfl)
      · refine lv_aload_n hx hb dB_36_0_18.1.2.2.2 rfl (lv_at hl 1 rfl) ?_
        refine va_get (ci := 0) (v := .ref clo) (C := RX0) (T := TX0) (N := 9) hx hb hts (fun _ h => List.mem_cons_of_mem _ (List.mem_append_left _ (List.mem_append_right _ h))) hown hK.1 hP 0 rfl rfl 2 (by decide) (hts (.fieldLink RX0 11 "CutAtlas$Current" "lets" "[[I") (List.mem_of_getElem? (i := 3) rfl)) (fun _ h9 => h9) rfl dB_36_0_18.2.1.1.1 ?_
        refine lv_iload_n hx hb dB_36_0_18.2.1.1.2 rfl (lv_at hl 0 rfl) ?_
        have h_151 : vp_in (11 : Int32) 12 := by unfold vp_in; decide
        refine va_alda hx hb hG hP 6 rfl (i := 11) h_151 dB_36_0_18.2.1.2.1 ?_
        refine lv_topv (v' := .ref (rl 11)) (gf_at h_151) ?_
        refine lv_iconst (v := 0) hx hb dB_36_0_18.2.1.2.2 (by decide) ?_
        refine ct_S hP hD hS hA [ai_ cy (rl 11) 12 (m_rl_1 11)] [18] (by decide) rfl (fun hPc hDw hFc hC_ => ?_)
        refine va_callv (va_runS (As := [.ref (rl 11), .int 0]) (rest := []) ⟨hx, hb, hml, hown, hts⟩ (c_J7_fill_53178 l D cy H.size (rl 11) 12 (0 : Int32) (m_rl_1 11) (by first | with_reducible assumption | assumption | omega)) (va_cwS 2 hts gX0_load_J7_fill_53178 rfl rfl rfl hd_J7_fill_53178 ⟨Nat.le_of_ble_eq_true rfl, Nat.le_of_ble_eq_true rfl⟩) ⟨bl_, fun U hU hW => ⟨rfl, by rw [hU], by rw [hU]; exact hPc, kk_mv hW hK, hDw⟩⟩ rfl rfl hl.1 rfl (lv_room (Nat.le_of_ble_eq_true rfl)) dB_36_0_18.2.2.1.1 ⟨Nat.le_of_ble_eq_true rfl, Nat.le_of_ble_eq_true rfl⟩) hS (fun q _ h => hFc q h) hFc (fun u t H locs ht hvm hw hB hz1 hk1 hS => ?_)
        obtain ⟨e1_153, g_154, hP1, hD1⟩ := hB
        rw [ht] at hP1
        obtain ⟨hP, hD⟩ := va_join (wr := [ob0_0_ xc xn xk clo cro c4 c5 c6 c7 c8, ob3_0_ xn vp vn n1 n2 n3 n4 n5, ai_ cy n1 40 fk, ai_ cy n2 40 fs, ai_ cy n3 40 fe, ai_ cy n4 40 fw, aq_ cy 6 clo 12 (gf_ rl), ai_ cy (rl 0) 12 (m_rl_1 0), ai_ cy (rl 1) 12 (m_rl_1 1), ai_ cy (rl 2) 12 (m_rl_1 2), ai_ cy (rl 3) 12 (m_rl_1 3), ai_ cy (rl 4) 12 (m_rl_1 4), ai_ cy (rl 5) 12 (m_rl_1 5), ai_ cy (rl 6) 12 (m_rl_1 6), ai_ cy (rl 7) 12 (m_rl_1 7), ai_ cy (rl 8) 12 (m_rl_1 8), ai_ cy (rl 9) 12 (m_rl_1 9), ai_ cy (rl 10) 12 (m_rl_1 10), ai_ cy c5 40 f5, ai_ cy c6 40 f6, aq_ cy 3 xk 5 (kf_ k0 k1 k2 k3 k4), ob6_0_ k0, ob5_0_ k1, ob9_0_ k2, ob2_0_ k3, ob8_0_ k4]) (w1 := [ai_ cy (rl 11) 12 e1_153]) hP hD [18] [0, 1, 2, 3, 4, 5, 6, 7, 8, 9, 10, 11, 12, 13, 14, 15, 16, 17, 19, 20, 21, 22, 23, 24, 25, 26] hC_ rfl (by decide +kernel) (by decide +kernel) hk1 hFc hP1 hD1
        refine pd_S hP hD [ob0_0_ xc xn xk clo cro c4 c5 c6 c7 c8, ob3_0_ xn vp vn n1 n2 n3 n4 n5, ai_ cy n1 40 fk, ai_ cy n2 40 fs, ai_ cy n3 40 fe, ai_ cy n4 40 fw, aq_ cy 6 clo 12 (gf_ rl), ai_ cy (rl 0) 12 (m_rl_1 0), ai_ cy (rl 1) 12 (m_rl_1 1), ai_ cy (rl 2) 12 (m_rl_1 2), ai_ cy (rl 3) 12 (m_rl_1 3), ai_ cy (rl 4) 12 (m_rl_1 4), ai_ cy (rl 5) 12 (m_rl_1 5), ai_ cy (rl 6) 12 (m_rl_1 6), ai_ cy (rl 7) 12 (m_rl_1 7), ai_ cy (rl 8) 12 (m_rl_1 8), ai_ cy (rl 9) 12 (m_rl_1 9), ai_ cy (rl 10) 12 (m_rl_1 10), ai_ cy (rl 11) 12 e1_153, ai_ cy c5 40 f5, ai_ cy c6 40 f6, aq_ cy 3 xk 5 (kf_ k0 k1 k2 k3 k4), ob6_0_ k0, ob5_0_ k1, ob9_0_ k2, ob2_0_ k3, ob8_0_ k4] [0, 1, 2, 3, 4, 5, 6, 7, 8, 9, 10, 11, 12, 13, 14, 15, 16, 17, 26, 18, 19, 20, 21, 22, 23, 24, 25] (by decide +kernel) rfl (fun hP hD => ?_)
        obtain ⟨M_155, eM_155⟩ : ∃ g : Nat → Nat → Int32, g = va_up m_rl_1 11 e1_153 := ⟨_, rfl⟩
        refine pd_K (D := D) (cl := vwCl) (H := H) (A := A) [ob0_0_ xc xn xk clo cro c4 c5 c6 c7 c8, ob3_0_ xn vp vn n1 n2 n3 n4 n5, ai_ cy n1 40 fk, ai_ cy n2 40 fs, ai_ cy n3 40 fe, ai_ cy n4 40 fw, aq_ cy 6 clo 12 (gf_ rl), ai_ cy (rl 0) 12 (M_155 0), ai_ cy (rl 1) 12 (M_155 1), ai_ cy (rl 2) 12 (M_155 2), ai_ cy (rl 3) 12 (M_155 3), ai_ cy (rl 4) 12 (M_155 4), ai_ cy (rl 5) 12 (M_155 5), ai_ cy (rl 6) 12 (M_155 6), ai_ cy (rl 7) 12 (M_155 7), ai_ cy (rl 8) 12 (M_155 8), ai_ cy (rl 9) 12 (M_155 9), ai_ cy (rl 10) 12 (M_155 10), ai_ cy (rl 11) 12 (M_155 11), ai_ cy c5 40 f5, ai_ cy c6 40 f6, aq_ cy 3 xk 5 (kf_ k0 k1 k2 k3 k4), ob6_0_ k0, ob5_0_ k1, ob9_0_ k2, ob2_0_ k3, ob8_0_ k4] (by rw [eM_155]; exact hP) (by rw [eM_155]; exact hD) (fun hP hD => ?_)
        obtain ⟨y_156, ey_156⟩ : ∃ y : Int32, y = (11 : Int32) + 1 := ⟨_, rfl⟩
        have ty_156 : y_156.toInt = (11 : Int32).toInt + (1 : Int32).toInt := by rw [ey_156]; exact addI (by omega) (by omega)
        refine lv_iinc (v := y_156) (lv' := [(2, .int y_156), (0, .ref xc), (1, .int a1)]) hx hb dB_36_0_18.2.2.1.2 hl (k := 0) rfl (by rw [ey_156]; rfl) (by decide) rfl (fun ls hl => ?_)
        refine lv_goto (tgt := 2) hx hb dB_36_0_18.2.2.2.1 (by decide) ?_
        exact ih_1 y_156 M_155 _ _ _ (by omega) (by first | with_reducible assumption | omega | assumption) (by first | with_reducible assumption | omega | assumption) ⟨hP, hD⟩ hS (lv_sub hl [0, 1, 2] rfl)
end

section
set_option maxHeartbeats 4000000 in
set_option maxRecDepth 100000 in
theorem c_X0_fill (l : Launch) (D : va_G) (cy : Nat → ClassId) (sz : Nat) (xc : Nat) (xk : Nat) (clo : Nat) (cro : Nat) (c4 : Nat) (c5 : Nat) (c6 : Nat) (c7 : Nat) (c8 : Nat) (xn : Nat) (n1 : Nat) (n2 : Nat) (n3 : Nat) (n4 : Nat) (n5 : Nat) (vp : Int32) (vn : Int32) (fs : Nat → Int32) (fe : Nat → Int32) (rl : Nat → Nat) (Ml : Nat → Nat → Int32) (rr : Nat → Nat) (Mr : Nat → Nat → Int32) (f4 : Nat → Int32) (f5 : Nat → Int32) (f6 : Nat → Int32) (f7 : Nat → Int32) (f8 : Nat → Int32) (a1 : Int32) (a2 : Int32) (hvp : 0 ≤ vp.toInt ∧ vp.toInt ≤ 12) (hvn : 0 ≤ vn.toInt ∧ vn.toInt ≤ 40) (q1 : 0 ≤ a1.toInt ∧ a1.toInt ≤ 11) (q2 : 0 ≤ a2.toInt ∧ a2.toInt ≤ 11) (r_f7 : rng f7 12 (0) (11)) (r_f8 : rng f8 12 (0) (11)) : Met l yX0_fill wsX0_fill ({ frames := 3, cells := 0, slots := 0, locals := 64 }) (va_Pc [.ref xc, .int a1, .int a2] (fun U => U.heap.size = sz ∧ va_P D vwCl [ob0_0_ xc xn xk clo cro c4 c5 c6 c7 c8, ob3_0_ xn vp vn n1 n2 n3 n4 n5, ai_ cy n2 40 fs, ai_ cy n3 40 fe, aq_ cy 6 clo 12 (gf_ rl), ai_ cy (rl 0) 12 (Ml 0), ai_ cy (rl 1) 12 (Ml 1), ai_ cy (rl 2) 12 (Ml 2), ai_ cy (rl 3) 12 (Ml 3), ai_ cy (rl 4) 12 (Ml 4), ai_ cy (rl 5) 12 (Ml 5), ai_ cy (rl 6) 12 (Ml 6), ai_ cy (rl 7) 12 (Ml 7), ai_ cy (rl 8) 12 (Ml 8), ai_ cy (rl 9) 12 (Ml 9), ai_ cy (rl 10) 12 (Ml 10), ai_ cy (rl 11) 12 (Ml 11), aq_ cy 6 cro 12 (gf_ rr), ai_ cy (rr 0) 12 (Mr 0), ai_ cy (rr 1) 12 (Mr 1), ai_ cy (rr 2) 12 (Mr 2), ai_ cy (rr 3) 12 (Mr 3), ai_ cy (rr 4) 12 (Mr 4), ai_ cy (rr 5) 12 (Mr 5), ai_ cy (rr 6) 12 (Mr 6), ai_ cy (rr 7) 12 (Mr 7), ai_ cy (rr 8) 12 (Mr 8), ai_ cy (rr 9) 12 (Mr 9), ai_ cy (rr 10) 12 (Mr 10), ai_ cy (rr 11) 12 (Mr 11), ai_ cy c4 40 f4, ai_ cy c5 40 f5, ai_ cy c6 40 f6, ai_ cy c7 12 f7, ai_ cy c8 12 f8] U.heap ∧ kg_ D cy U ∧ va_D (fun _ => True) [ob0_0_ xc xn xk clo cro c4 c5 c6 c7 c8, ob3_0_ xn vp vn n1 n2 n3 n4 n5, ai_ cy n2 40 fs, ai_ cy n3 40 fe, aq_ cy 6 clo 12 (gf_ rl), ai_ cy (rl 0) 12 (Ml 0), ai_ cy (rl 1) 12 (Ml 1), ai_ cy (rl 2) 12 (Ml 2), ai_ cy (rl 3) 12 (Ml 3), ai_ cy (rl 4) 12 (Ml 4), ai_ cy (rl 5) 12 (Ml 5), ai_ cy (rl 6) 12 (Ml 6), ai_ cy (rl 7) 12 (Ml 7), ai_ cy (rl 8) 12 (Ml 8), ai_ cy (rl 9) 12 (Ml 9), ai_ cy (rl 10) 12 (Ml 10), ai_ cy (rl 11) 12 (Ml 11), aq_ cy 6 cro 12 (gf_ rr), ai_ cy (rr 0) 12 (Mr 0), ai_ cy (rr 1) 12 (Mr 1), ai_ cy (rr 2) 12 (Mr 2), ai_ cy (rr 3) 12 (Mr 3), ai_ cy (rr 4) 12 (Mr 4), ai_ cy (rr 5) 12 (Mr 5), ai_ cy (rr 6) 12 (Mr 6), ai_ cy (rr 7) 12 (Mr 7), ai_ cy (rr 8) 12 (Mr 8), ai_ cy (rr 9) 12 (Mr 9), ai_ cy (rr 10) 12 (Mr 10), ai_ cy (rr 11) 12 (Mr 11), ai_ cy c4 40 f4, ai_ cy c5 40 f5, ai_ cy c6 40 f6, ai_ cy c7 12 f7, ai_ cy c8 12 f8])) (va_Qi (fun (r : Int32) (_ : Unit) => True) (fun (_ : Unit) (t : State) => ∃ (eMr : Nat → Nat → Int32), ∃ (e4 : Nat → Int32), ∃ (e7 : Nat → Int32), ∃ (e8 : Nat → Int32), (rng e7 12 (0) (11)) ∧ (rng e8 12 (0) (11)) ∧ va_P D vwCl [ob0_0_ xc xn xk clo cro c4 c5 c6 c7 c8, ob3_0_ xn vp vn n1 n2 n3 n4 n5, ai_ cy n2 40 fs, ai_ cy n3 40 fe, aq_ cy 6 clo 12 (gf_ rl), ai_ cy (rl 0) 12 (Ml 0), ai_ cy (rl 1) 12 (Ml 1), ai_ cy (rl 2) 12 (Ml 2), ai_ cy (rl 3) 12 (Ml 3), ai_ cy (rl 4) 12 (Ml 4), ai_ cy (rl 5) 12 (Ml 5), ai_ cy (rl 6) 12 (Ml 6), ai_ cy (rl 7) 12 (Ml 7), ai_ cy (rl 8) 12 (Ml 8), ai_ cy (rl 9) 12 (Ml 9), ai_ cy (rl 10) 12 (Ml 10), ai_ cy (rl 11) 12 (Ml 11), aq_ cy 6 cro 12 (gf_ rr), ai_ cy (rr 0) 12 (eMr 0), ai_ cy (rr 1) 12 (eMr 1), ai_ cy (rr 2) 12 (eMr 2), ai_ cy (rr 3) 12 (eMr 3), ai_ cy (rr 4) 12 (eMr 4), ai_ cy (rr 5) 12 (eMr 5), ai_ cy (rr 6) 12 (eMr 6), ai_ cy (rr 7) 12 (eMr 7), ai_ cy (rr 8) 12 (eMr 8), ai_ cy (rr 9) 12 (eMr 9), ai_ cy (rr 10) 12 (eMr 10), ai_ cy (rr 11) 12 (eMr 11), ai_ cy c4 40 e4, ai_ cy c5 40 f5, ai_ cy c6 40 f6, ai_ cy c7 12 e7, ai_ cy c8 12 e8] t.heap ∧ va_D (va_A [ob0_0_ xc xn xk clo cro c4 c5 c6 c7 c8, ob3_0_ xn vp vn n1 n2 n3 n4 n5, ai_ cy n2 40 fs, ai_ cy n3 40 fe, aq_ cy 6 clo 12 (gf_ rl), ai_ cy (rl 0) 12 (Ml 0), ai_ cy (rl 1) 12 (Ml 1), ai_ cy (rl 2) 12 (Ml 2), ai_ cy (rl 3) 12 (Ml 3), ai_ cy (rl 4) 12 (Ml 4), ai_ cy (rl 5) 12 (Ml 5), ai_ cy (rl 6) 12 (Ml 6), ai_ cy (rl 7) 12 (Ml 7), ai_ cy (rl 8) 12 (Ml 8), ai_ cy (rl 9) 12 (Ml 9), ai_ cy (rl 10) 12 (Ml 10), ai_ cy (rl 11) 12 (Ml 11), aq_ cy 6 cro 12 (gf_ rr), ai_ cy (rr 0) 12 (Mr 0), ai_ cy (rr 1) 12 (Mr 1), ai_ cy (rr 2) 12 (Mr 2), ai_ cy (rr 3) 12 (Mr 3), ai_ cy (rr 4) 12 (Mr 4), ai_ cy (rr 5) 12 (Mr 5), ai_ cy (rr 6) 12 (Mr 6), ai_ cy (rr 7) 12 (Mr 7), ai_ cy (rr 8) 12 (Mr 8), ai_ cy (rr 9) 12 (Mr 9), ai_ cy (rr 10) 12 (Mr 10), ai_ cy (rr 11) 12 (Mr 11), ai_ cy c4 40 f4, ai_ cy c5 40 f5, ai_ cy c6 40 f6, ai_ cy c7 12 f7, ai_ cy c8 12 f8] sz) [ob0_0_ xc xn xk clo cro c4 c5 c6 c7 c8, ob3_0_ xn vp vn n1 n2 n3 n4 n5, ai_ cy n2 40 fs, ai_ cy n3 40 fe, aq_ cy 6 clo 12 (gf_ rl), ai_ cy (rl 0) 12 (Ml 0), ai_ cy (rl 1) 12 (Ml 1), ai_ cy (rl 2) 12 (Ml 2), ai_ cy (rl 3) 12 (Ml 3), ai_ cy (rl 4) 12 (Ml 4), ai_ cy (rl 5) 12 (Ml 5), ai_ cy (rl 6) 12 (Ml 6), ai_ cy (rl 7) 12 (Ml 7), ai_ cy (rl 8) 12 (Ml 8), ai_ cy (rl 9) 12 (Ml 9), ai_ cy (rl 10) 12 (Ml 10), ai_ cy (rl 11) 12 (Ml 11), aq_ cy 6 cro 12 (gf_ rr), ai_ cy (rr 0) 12 (eMr 0), ai_ cy (rr 1) 12 (eMr 1), ai_ cy (rr 2) 12 (eMr 2), ai_ cy (rr 3) 12 (eMr 3), ai_ cy (rr 4) 12 (eMr 4), ai_ cy (rr 5) 12 (eMr 5), ai_ cy (rr 6) 12 (eMr 6), ai_ cy (rr 7) 12 (eMr 7), ai_ cy (rr 8) 12 (eMr 8), ai_ cy (rr 9) 12 (eMr 9), ai_ cy (rr 10) 12 (eMr 10), ai_ cy (rr 11) 12 (eMr 11), ai_ cy c4 40 e4, ai_ cy c5 40 f5, ai_ cy c6 40 f6, ai_ cy c7 12 e7, ai_ cy c8 12 e8]) (va_A [ob0_0_ xc xn xk clo cro c4 c5 c6 c7 c8, ob3_0_ xn vp vn n1 n2 n3 n4 n5, ai_ cy n2 40 fs, ai_ cy n3 40 fe, aq_ cy 6 clo 12 (gf_ rl), ai_ cy (rl 0) 12 (Ml 0), ai_ cy (rl 1) 12 (Ml 1), ai_ cy (rl 2) 12 (Ml 2), ai_ cy (rl 3) 12 (Ml 3), ai_ cy (rl 4) 12 (Ml 4), ai_ cy (rl 5) 12 (Ml 5), ai_ cy (rl 6) 12 (Ml 6), ai_ cy (rl 7) 12 (Ml 7), ai_ cy (rl 8) 12 (Ml 8), ai_ cy (rl 9) 12 (Ml 9), ai_ cy (rl 10) 12 (Ml 10), ai_ cy (rl 11) 12 (Ml 11), aq_ cy 6 cro 12 (gf_ rr), ai_ cy (rr 0) 12 (Mr 0), ai_ cy (rr 1) 12 (Mr 1), ai_ cy (rr 2) 12 (Mr 2), ai_ cy (rr 3) 12 (Mr 3), ai_ cy (rr 4) 12 (Mr 4), ai_ cy (rr 5) 12 (Mr 5), ai_ cy (rr 6) 12 (Mr 6), ai_ cy (rr 7) 12 (Mr 7), ai_ cy (rr 8) 12 (Mr 8), ai_ cy (rr 9) 12 (Mr 9), ai_ cy (rr 10) 12 (Mr 10), ai_ cy (rr 11) 12 (Mr 11), ai_ cy c4 40 f4, ai_ cy c5 40 f5, ai_ cy c6 40 f6, ai_ cy c7 12 f7, ai_ cy c8 12 f8] sz)) 0 0 (va_A [ob0_0_ xc xn xk clo cro c4 c5 c6 c7 c8, ob3_0_ xn vp vn n1 n2 n3 n4 n5, ai_ cy n2 40 fs, ai_ cy n3 40 fe, aq_ cy 6 clo 12 (gf_ rl), ai_ cy (rl 0) 12 (Ml 0), ai_ cy (rl 1) 12 (Ml 1), ai_ cy (rl 2) 12 (Ml 2), ai_ cy (rl 3) 12 (Ml 3), ai_ cy (rl 4) 12 (Ml 4), ai_ cy (rl 5) 12 (Ml 5), ai_ cy (rl 6) 12 (Ml 6), ai_ cy (rl 7) 12 (Ml 7), ai_ cy (rl 8) 12 (Ml 8), ai_ cy (rl 9) 12 (Ml 9), ai_ cy (rl 10) 12 (Ml 10), ai_ cy (rl 11) 12 (Ml 11), aq_ cy 6 cro 12 (gf_ rr), ai_ cy (rr 0) 12 (Mr 0), ai_ cy (rr 1) 12 (Mr 1), ai_ cy (rr 2) 12 (Mr 2), ai_ cy (rr 3) 12 (Mr 3), ai_ cy (rr 4) 12 (Mr 4), ai_ cy (rr 5) 12 (Mr 5), ai_ cy (rr 6) 12 (Mr 6), ai_ cy (rr 7) 12 (Mr 7), ai_ cy (rr 8) 12 (Mr 8), ai_ cy (rr 9) 12 (Mr 9), ai_ cy (rr 10) 12 (Mr 10), ai_ cy (rr 11) 12 (Mr 11), ai_ cy c4 40 f4, ai_ cy c5 40 f5, ai_ cy c6 40 f6, ai_ cy c7 12 f7, ai_ cy c8 12 f8] sz) := by
  refine ofQ (cc := cX0_fill) (maxL := 5) (ret := (some .int)) (by decide) rfl ?_
  intro p e s m args below meth c s₁ Q hQ B hml hv
  obtain ⟨rfl, hsz, hP, hK, hD0⟩ := hv
  have hG := hK.2
  have hK := hK.1
  have hx := B.exec
  have hb := B.bytes
  have hr := B.returns
  have hts := atoms_spec (ws := wsX0_fill) B.pre
  have hown : s.vm.findClass RX0 = some m.cls := by have h_ := findClass_of_methodNamed B.named; exact h_
  have hlocks := B.notSynchronized
  subst hsz
  have hD := hD0.self (sz := s.heap.size)
  generalize hAe : va_A [ob0_0_ xc xn xk clo cro c4 c5 c6 c7 c8, ob3_0_ xn vp vn n1 n2 n3 n4 n5, ai_ cy n2 40 fs, ai_ cy n3 40 fe, aq_ cy 6 clo 12 (gf_ rl), ai_ cy (rl 0) 12 (Ml 0), ai_ cy (rl 1) 12 (Ml 1), ai_ cy (rl 2) 12 (Ml 2), ai_ cy (rl 3) 12 (Ml 3), ai_ cy (rl 4) 12 (Ml 4), ai_ cy (rl 5) 12 (Ml 5), ai_ cy (rl 6) 12 (Ml 6), ai_ cy (rl 7) 12 (Ml 7), ai_ cy (rl 8) 12 (Ml 8), ai_ cy (rl 9) 12 (Ml 9), ai_ cy (rl 10) 12 (Ml 10), ai_ cy (rl 11) 12 (Ml 11), aq_ cy 6 cro 12 (gf_ rr), ai_ cy (rr 0) 12 (Mr 0), ai_ cy (rr 1) 12 (Mr 1), ai_ cy (rr 2) 12 (Mr 2), ai_ cy (rr 3) 12 (Mr 3), ai_ cy (rr 4) 12 (Mr 4), ai_ cy (rr 5) 12 (Mr 5), ai_ cy (rr 6) 12 (Mr 6), ai_ cy (rr 7) 12 (Mr 7), ai_ cy (rr 8) 12 (Mr 8), ai_ cy (rr 9) 12 (Mr 9), ai_ cy (rr 10) 12 (Mr 10), ai_ cy (rr 11) 12 (Mr 11), ai_ cy c4 40 f4, ai_ cy c5 40 f5, ai_ cy c6 40 f6, ai_ cy c7 12 f7, ai_ cy c8 12 f8] s.heap.size = A at hD hQ
  have hA : ∀ q : Nat, s.heap.size ≤ q → A q := fun q h => by rw [← hAe]; exact Or.inr h
  have hS : va_S A s.heap s.heap [] := va_S.rf
  have hl := lv_entry ([.ref xc, .int a1, .int a2]) (n := 5) (Nat.le_of_ble_eq_true rfl)
  rw [lg_entry_eq]
  generalize (lg_sl ([.ref xc, .int a1, .int a2]) ++ List.replicate (5 - (lg_sl ([.ref xc, .int a1, .int a2])).length) Slot.unset).toArray = ls at hl ⊢
  have hl : lv_has ls 5 [(0, .ref xc), (1, .int a1), (2, .int a2)] := hl
  have zm5 : ((-5) : Int32).toInt = -5 := by decide
  have z0 : (0 : Int32).toInt = 0 := by decide
  have z1 : (1 : Int32).toInt = 1 := by decide
  have z2 : (2 : Int32).toInt = 2 := by decide
  have z3 : (3 : Int32).toInt = 3 := by decide
  have z4 : (4 : Int32).toInt = 4 := by decide
  have z5 : (5 : Int32).toInt = 5 := by decide
  have z6 : (6 : Int32).toInt = 6 := by decide
  have z7 : (7 : Int32).toInt = 7 := by decide
  have z8 : (8 : Int32).toInt = 8 := by decide
  have z9 : (9 : Int32).toInt = 9 := by decide
  have z10 : (10 : Int32).toInt = 10 := by decide
  have z11 : (11 : Int32).toInt = 11 := by decide
  have z1000000 : (1000000 : Int32).toInt = 1000000 := by decide
  refine lv_aload_n hx hb dB_36_0_4.1.1.1.1 rfl (lv_at hl 0 rfl) ?_
  refine va_get (ci := 0) (v := .ref c4) (C := RX0) (T := TX0) (N := 9) hx hb hts (fun _ h => List.mem_cons_of_mem _ (List.mem_append_left _ (List.mem_append_right _ h))) hown hK.1 hP 0 rfl rfl 4 (by decide) (hts (.fieldLink RX0 19 "CutAtlas$Current" "flowing" "[I") (List.mem_of_getElem? (i := 1) rfl)) (fun _ h9 => h9) rfl dB_36_0_4.1.1.1.2 ?_
  refine lv_iconst (v := 0) hx hb dB_36_0_4.1.1.2.1 (by decide) ?_
  refine ct_S hP hD hS hA [ai_ cy c4 40 f4] [30] (by decide) rfl (fun hPc hDw hFc hC_ => ?_)
  refine va_callv (va_runS (As := [.ref c4, .int 0]) (rest := []) ⟨hx, hb, hml, hown, hts⟩ (c_J7_fill_53178 l D cy s.heap.size c4 40 (0 : Int32) f4 (by first | with_reducible assumption | assumption | omega)) (va_cwS 2 hts gX0_fill_J7_fill_53178 rfl rfl rfl hd_J7_fill_53178 ⟨Nat.le_of_ble_eq_true rfl, Nat.le_of_ble_eq_true rfl⟩) ⟨bl_, fun U hU hW => ⟨rfl, by rw [hU], by rw [hU]; exact hPc, kk_mv hW hK, hDw⟩⟩ rfl rfl hl.1 rfl (lv_room (Nat.le_of_ble_eq_true rfl)) dB_36_0_4.1.1.2.2 ⟨Nat.le_of_ble_eq_true rfl, Nat.le_of_ble_eq_true rfl⟩) hS (fun q _ h => hFc q h) hFc (fun u t H locs ht hvm hw hB hz1 hk1 hS => ?_)
  obtain ⟨e1_2, g_3, hP1, hD1⟩ := hB
  rw [ht] at hP1
  obtain ⟨hP, hD⟩ := va_join (wr := [ob0_0_ xc xn xk clo cro c4 c5 c6 c7 c8, ob3_0_ xn vp vn n1 n2 n3 n4 n5, ai_ cy n2 40 fs, ai_ cy n3 40 fe, aq_ cy 6 clo 12 (gf_ rl), ai_ cy (rl 0) 12 (Ml 0), ai_ cy (rl 1) 12 (Ml 1), ai_ cy (rl 2) 12 (Ml 2), ai_ cy (rl 3) 12 (Ml 3), ai_ cy (rl 4) 12 (Ml 4), ai_ cy (rl 5) 12 (Ml 5), ai_ cy (rl 6) 12 (Ml 6), ai_ cy (rl 7) 12 (Ml 7), ai_ cy (rl 8) 12 (Ml 8), ai_ cy (rl 9) 12 (Ml 9), ai_ cy (rl 10) 12 (Ml 10), ai_ cy (rl 11) 12 (Ml 11), aq_ cy 6 cro 12 (gf_ rr), ai_ cy (rr 0) 12 (Mr 0), ai_ cy (rr 1) 12 (Mr 1), ai_ cy (rr 2) 12 (Mr 2), ai_ cy (rr 3) 12 (Mr 3), ai_ cy (rr 4) 12 (Mr 4), ai_ cy (rr 5) 12 (Mr 5), ai_ cy (rr 6) 12 (Mr 6), ai_ cy (rr 7) 12 (Mr 7), ai_ cy (rr 8) 12 (Mr 8), ai_ cy (rr 9) 12 (Mr 9), ai_ cy (rr 10) 12 (Mr 10), ai_ cy (rr 11) 12 (Mr 11), ai_ cy c5 40 f5, ai_ cy c6 40 f6, ai_ cy c7 12 f7, ai_ cy c8 12 f8]) (w1 := [ai_ cy c4 40 e1_2]) hP hD [30] [0, 1, 2, 3, 4, 5, 6, 7, 8, 9, 10, 11, 12, 13, 14, 15, 16, 17, 18, 19, 20, 21, 22, 23, 24, 25, 26, 27, 28, 29, 31, 32, 33, 34] hC_ rfl (by decide +kernel) (by decide +kernel) hk1 hFc hP1 hD1
  refine pd_S hP hD [ob0_0_ xc xn xk clo cro c4 c5 c6 c7 c8, ob3_0_ xn vp vn n1 n2 n3 n4 n5, ai_ cy n2 40 fs, ai_ cy n3 40 fe, aq_ cy 6 clo 12 (gf_ rl), ai_ cy (rl 0) 12 (Ml 0), ai_ cy (rl 1) 12 (Ml 1), ai_ cy (rl 2) 12 (Ml 2), ai_ cy (rl 3) 12 (Ml 3), ai_ cy (rl 4) 12 (Ml 4), ai_ cy (rl 5) 12 (Ml 5), ai_ cy (rl 6) 12 (Ml 6), ai_ cy (rl 7) 12 (Ml 7), ai_ cy (rl 8) 12 (Ml 8), ai_ cy (rl 9) 12 (Ml 9), ai_ cy (rl 10) 12 (Ml 10), ai_ cy (rl 11) 12 (Ml 11), aq_ cy 6 cro 12 (gf_ rr), ai_ cy (rr 0) 12 (Mr 0), ai_ cy (rr 1) 12 (Mr 1), ai_ cy (rr 2) 12 (Mr 2), ai_ cy (rr 3) 12 (Mr 3), ai_ cy (rr 4) 12 (Mr 4), ai_ cy (rr 5) 12 (Mr 5), ai_ cy (rr 6) 12 (Mr 6), ai_ cy (rr 7) 12 (Mr 7), ai_ cy (rr 8) 12 (Mr 8), ai_ cy (rr 9) 12 (Mr 9), ai_ cy (rr 10) 12 (Mr 10), ai_ cy (rr 11) 12 (Mr 11), ai_ cy c4 40 e1_2, ai_ cy c5 40 f5, ai_ cy c6 40 f6, ai_ cy c7 12 f7, ai_ cy c8 12 f8] [0, 1, 2, 3, 4, 5, 6, 7, 8, 9, 10, 11, 12, 13, 14, 15, 16, 17, 18, 19, 20, 21, 22, 23, 24, 25, 26, 27, 28, 29, 34, 30, 31, 32, 33] (by decide +kernel) rfl (fun hP hD => ?_)
  refine lv_iconst (v := 0) hx hb dB_36_0_4.1.2.1.1 (by decide) ?_
  refine lv_istore_n (lv' := [(3, .int 0), (0, .ref xc), (1, .int a1), (2, .int a2)]) hx hb dB_36_0_4.1.2.1.2 rfl hl (by decide) rfl (fun ls hl => ?_)
  suffices LOOP_4 : ∀ (n_4 : Nat) (x3_4 : Int32) (m_rr_4 : Nat → Nat → Int32) (H : Heap) (locs : List Loc) (ls : Array Slot), vp.toInt - x3_4.toInt < (n_4 : Int) → (0 ≤ x3_4.toInt) → (x3_4.toInt ≤ vp.toInt) → pd_2 D vwCl A [ob0_0_ xc xn xk clo cro c4 c5 c6 c7 c8, ob3_0_ xn vp vn n1 n2 n3 n4 n5, ai_ cy n2 40 fs, ai_ cy n3 40 fe, aq_ cy 6 clo 12 (gf_ rl), ai_ cy (rl 0) 12 (Ml 0), ai_ cy (rl 1) 12 (Ml 1), ai_ cy (rl 2) 12 (Ml 2), ai_ cy (rl 3) 12 (Ml 3), ai_ cy (rl 4) 12 (Ml 4), ai_ cy (rl 5) 12 (Ml 5), ai_ cy (rl 6) 12 (Ml 6), ai_ cy (rl 7) 12 (Ml 7), ai_ cy (rl 8) 12 (Ml 8), ai_ cy (rl 9) 12 (Ml 9), ai_ cy (rl 10) 12 (Ml 10), ai_ cy (rl 11) 12 (Ml 11), aq_ cy 6 cro 12 (gf_ rr), ai_ cy (rr 0) 12 (m_rr_4 0), ai_ cy (rr 1) 12 (m_rr_4 1), ai_ cy (rr 2) 12 (m_rr_4 2), ai_ cy (rr 3) 12 (m_rr_4 3), ai_ cy (rr 4) 12 (m_rr_4 4), ai_ cy (rr 5) 12 (m_rr_4 5), ai_ cy (rr 6) 12 (m_rr_4 6), ai_ cy (rr 7) 12 (m_rr_4 7), ai_ cy (rr 8) 12 (m_rr_4 8), ai_ cy (rr 9) 12 (m_rr_4 9), ai_ cy (rr 10) 12 (m_rr_4 10), ai_ cy (rr 11) 12 (m_rr_4 11), ai_ cy c4 40 e1_2, ai_ cy c5 40 f5, ai_ cy c6 40 f6, ai_ cy c7 12 f7, ai_ cy c8 12 f8] H → va_S A s.heap H locs → lv_has ls 5 [(3, .int x3_4), (0, .ref xc), (1, .int a1), (2, .int a2)] → W p l e ({ frames := 3, cells := 0, slots := 0, locals := 64 } : Room) s m (([.ref xc, .int a1, .int a2] : List Value).toArray) below meth c H locs 0 0 Q (F0 m 10 ls []) from LOOP_4 ((vp.toInt - (0 : Int32).toInt).toNat + 1) (0 : Int32) Mr _ _ _ (by omega) (by first | with_reducible assumption | omega | assumption) (by first | with_reducible assumption | omega | assumption) ⟨hP, hD⟩ hS (lv_sub hl [0, 1, 2, 3] rfl)
  intro n_4
  induction n_4 with
  | zero =>
    intro x3_4 m_rr_4 H locs ls hm v0_4 v1_4 hPD hS hl; obtain ⟨hP, hD⟩ := hPD
    exact absurd hm (by omega)
  | succ n_4 ih_4 =>
    intro x3_4 m_rr_4 H locs ls hm v0_4 v1_4 hPD hS hl; obtain ⟨hP, hD⟩ := hPD
    refine lv_iload_n hx hb dB_36_0_4.1.2.2.1 rfl (lv_at hl 0 rfl) ?_
    refine lv_aload_n hx hb dB_36_0_4.1.2.2.2 rfl (lv_at hl 1 rfl) ?_
    refine va_get (ci := 0) (v := .ref xn) (C := RX0) (T := TX0) (N := 9) hx hb hts (fun _ h => List.mem_cons_of_mem _ (List.mem_append_left _ (List.mem_append_right _ h))) hown hK.1 hP 0 rfl rfl 0 (by decide) (hts (.fieldLink RX0 35 "CutAtlas$Current" "net" "LCutAtlas$Net;") (List.mem_of_getElem? (i := 2) rfl)) (fun _ h9 => h9) rfl dB_36_0_4.2.1.1.1 ?_
    refine va_get (ci := 3) (v := .int vp) (C := RX3) (T := TX3) (N := 7) hx hb hts (fun _ h => List.mem_cons_of_mem _ (List.mem_append_right _ h)) hown hK.1 hP 1 rfl rfl 0 (by decide) (hts (.fieldLink RX0 43 "CutAtlas$Net" "places" "I") (List.mem_of_getElem? (i := 3) rfl)) (fun _ h9 => h9) rfl dB_36_0_4.2.1.1.2 ?_
    refine lv_icmp_ge (tgt := 51) hx hb dB_36_0_4.2.1.2.1 (by decide) (fun c_5 => ?_) (fun c_5 => ?_)
    · have t_5 : vp.toInt ≤ x3_4.toInt := Int32.le_iff_toInt_le.mp c_5
      refine lv_aload_n hx hb dB_36_0_5.2.1.2.2 rfl (lv_at hl 1 rfl) ?_
      refine lv_iload_n hx hb dB_36_0_5.2.2.1.1 rfl (lv_at hl 2 rfl) ?_
      refine lv_ldc (v := 1000000) hx hb hown (hts (.constant RX0 82 (1000000)) (List.mem_of_getElem? (i := 10) rfl)) dB_36_0_5.2.2.1.2 ?_
      refine ct_S hP hD hS hA [ob0_0_ xc xn xk clo cro c4 c5 c6 c7 c8, ob3_0_ xn vp vn n1 n2 n3 n4 n5, aq_ cy 6 cro 12 (gf_ rr), ai_ cy (rr 0) 12 (m_rr_4 0), ai_ cy (rr 1) 12 (m_rr_4 1), ai_ cy (rr 2) 12 (m_rr_4 2), ai_ cy (rr 3) 12 (m_rr_4 3), ai_ cy (rr 4) 12 (m_rr_4 4), ai_ cy (rr 5) 12 (m_rr_4 5), ai_ cy (rr 6) 12 (m_rr_4 6), ai_ cy (rr 7) 12 (m_rr_4 7), ai_ cy (rr 8) 12 (m_rr_4 8), ai_ cy (rr 9) 12 (m_rr_4 9), ai_ cy (rr 10) 12 (m_rr_4 10), ai_ cy (rr 11) 12 (m_rr_4 11), ai_ cy c7 12 f7] [0, 1, 17, 18, 19, 20, 21, 22, 23, 24, 25, 26, 27, 28, 29, 33] (by decide +kernel) rfl (fun hPc hDw hFc hC_ => ?_)
      refine va_calli (va_runV (As := [.int a1, .int 1000000]) (rest := []) ⟨hx, hb, hml, hown, hts⟩ (c_X0_reachedFrom l D cy H.size xc xk clo cro c4 c5 c6 c7 c8 xn n1 n2 n3 n4 n5 vp vn rr m_rr_4 f7 a1 (1000000 : Int32) (by first | with_reducible assumption | omega | assumption) (by first | with_reducible assumption | omega | assumption) (by first | with_reducible assumption | assumption | omega)) (cwV 2 hts gX0_fill_X0_reachedFrom rfl rfl rfl ⟨rfl, hd_X0_reachedFrom⟩ ⟨Nat.le_of_ble_eq_true rfl, Nat.le_of_ble_eq_true rfl⟩) ⟨bl_g, va_recvX hK.1 hP (ci := 0) (q0 := 0) rfl rfl, fun U hU hW => ⟨rfl, by rw [hU], by rw [hU]; exact hPc, ⟨kk_mv hW hK, arrOfT_moved hW.alike hG⟩, hDw⟩⟩ rfl rfl hl.1 rfl (lv_room (Nat.le_of_ble_eq_true rfl)) dB_36_0_5.2.2.2.1 ⟨Nat.le_of_ble_eq_true rfl, Nat.le_of_ble_eq_true rfl⟩) hS (fun q _ h => hFc q h) hFc (fun r_6 u t H locs ht hvm hw hB hz1 hk1 hS => ?_)
      obtain ⟨e7_7, g_8, hP1, hD1⟩ := hB
      rw [ht] at hP1
      obtain ⟨hP, hD⟩ := va_join (wr := [ai_ cy n2 40 fs, ai_ cy n3 40 fe, aq_ cy 6 clo 12 (gf_ rl), ai_ cy (rl 0) 12 (Ml 0), ai_ cy (rl 1) 12 (Ml 1), ai_ cy (rl 2) 12 (Ml 2), ai_ cy (rl 3) 12 (Ml 3), ai_ cy (rl 4) 12 (Ml 4), ai_ cy (rl 5) 12 (Ml 5), ai_ cy (rl 6) 12 (Ml 6), ai_ cy (rl 7) 12 (Ml 7), ai_ cy (rl 8) 12 (Ml 8), ai_ cy (rl 9) 12 (Ml 9), ai_ cy (rl 10) 12 (Ml 10), ai_ cy (rl 11) 12 (Ml 11), ai_ cy c4 40 e1_2, ai_ cy c5 40 f5, ai_ cy c6 40 f6, ai_ cy c8 12 f8]) (w1 := [ob0_0_ xc xn xk clo cro c4 c5 c6 c7 c8, ob3_0_ xn vp vn n1 n2 n3 n4 n5, aq_ cy 6 cro 12 (gf_ rr), ai_ cy (rr 0) 12 (m_rr_4 0), ai_ cy (rr 1) 12 (m_rr_4 1), ai_ cy (rr 2) 12 (m_rr_4 2), ai_ cy (rr 3) 12 (m_rr_4 3), ai_ cy (rr 4) 12 (m_rr_4 4), ai_ cy (rr 5) 12 (m_rr_4 5), ai_ cy (rr 6) 12 (m_rr_4 6), ai_ cy (rr 7) 12 (m_rr_4 7), ai_ cy (rr 8) 12 (m_rr_4 8), ai_ cy (rr 9) 12 (m_rr_4 9), ai_ cy (rr 10) 12 (m_rr_4 10), ai_ cy (rr 11) 12 (m_rr_4 11), ai_ cy c7 12 e7_7]) hP hD [0, 1, 17, 18, 19, 20, 21, 22, 23, 24, 25, 26, 27, 28, 29, 33] [2, 3, 4, 5, 6, 7, 8, 9, 10, 11, 12, 13, 14, 15, 16, 30, 31, 32, 34] hC_ rfl (by decide +kernel) (by decide +kernel) hk1 hFc hP1 hD1
      refine pd_S hP hD [ob0_0_ xc xn xk clo cro c4 c5 c6 c7 c8, ob3_0_ xn vp vn n1 n2 n3 n4 n5, ai_ cy n2 40 fs, ai_ cy n3 40 fe, aq_ cy 6 clo 12 (gf_ rl), ai_ cy (rl 0) 12 (Ml 0), ai_ cy (rl 1) 12 (Ml 1), ai_ cy (rl 2) 12 (Ml 2), ai_ cy (rl 3) 12 (Ml 3), ai_ cy (rl 4) 12 (Ml 4), ai_ cy (rl 5) 12 (Ml 5), ai_ cy (rl 6) 12 (Ml 6), ai_ cy (rl 7) 12 (Ml 7), ai_ cy (rl 8) 12 (Ml 8), ai_ cy (rl 9) 12 (Ml 9), ai_ cy (rl 10) 12 (Ml 10), ai_ cy (rl 11) 12 (Ml 11), aq_ cy 6 cro 12 (gf_ rr), ai_ cy (rr 0) 12 (m_rr_4 0), ai_ cy (rr 1) 12 (m_rr_4 1), ai_ cy (rr 2) 12 (m_rr_4 2), ai_ cy (rr 3) 12 (m_rr_4 3), ai_ cy (rr 4) 12 (m_rr_4 4), ai_ cy (rr 5) 12 (m_rr_4 5), ai_ cy (rr 6) 12 (m_rr_4 6), ai_ cy (rr 7) 12 (m_rr_4 7), ai_ cy (rr 8) 12 (m_rr_4 8), ai_ cy (rr 9) 12 (m_rr_4 9), ai_ cy (rr 10) 12 (m_rr_4 10), ai_ cy (rr 11) 12 (m_rr_4 11), ai_ cy c4 40 e1_2, ai_ cy c5 40 f5, ai_ cy c6 40 f6, ai_ cy c7 12 e7_7, ai_ cy c8 12 f8] [19, 20, 0, 1, 2, 3, 4, 5, 6, 7, 8, 9, 10, 11, 12, 13, 14, 21, 22, 23, 24, 25, 26, 27, 28, 29, 30, 31, 32, 33, 15, 16, 17, 34, 18] (by decide +kernel) rfl (fun hP hD => ?_)
      refine lv_iload_n hx hb dB_36_0_5.2.2.2.2 rfl (lv_at hl 3 rfl) ?_
      refine lv_ishr hx hb dB_36_0_6.1.1.1.1 ?_
      refine lv_topi (fun y_9 ey_9 => ?_)
      refine lv_iconst (v := 1) hx hb dB_36_0_6.1.1.1.2 (by decide) ?_
      refine lv_iand hx hb dB_36_0_6.1.1.2.1 ?_
      refine lv_topi (fun y_10 ey_10 => ?_)
      refine lv_iconst (v := 1) hx hb dB_36_0_6.1.1.2.2 (by decide) ?_
      refine lv_icmp_ne (tgt := 69) hx hb dB_36_0_6.1.2.1.1 (by decide) (fun c_11 => ?_) (fun c_11 => ?_)
      · have t_11 : ¬ y_10.toInt = (1 : Int32).toInt := fun h => c_11 (Int32.toInt_inj.mp h)
        refine lv_iconst (v := 0) hx hb dB_36_0_6.1.2.2.2 (by decide) ?_
        refine lv_istore_n (lv' := [(3, .int 0), (0, .ref xc), (1, .int a1), (2, .int a2)]) hx hb dB_36_0_6.2.1.1.1 rfl hl (by decide) rfl (fun ls hl => ?_)
        refine lv_iconst (v := 0) hx hb dB_36_0_6.2.1.1.2 (by decide) ?_
        refine lv_istore (lv' := [(4, .int 0), (3, .int 0), (0, .ref xc), (1, .int a1), (2, .int a2)]) hx hb dB_36_0_6.2.1.2.1 hl (by decide) rfl (fun ls hl => ?_)
        suffices LOOP_12 : ∀ (n_12 : Nat) (x4_12 : Int32) (x3_12 : Int32) (m_rr_12 : Nat → Nat → Int32) (c_c4_12 : Nat → Int32) (c_c7_12 : Nat → Int32) (c_c8_12 : Nat → Int32) (H : Heap) (locs : List Loc) (ls : Array Slot), 1000000 - x4_12.toInt < (n_12 : Int) → (0 ≤ x4_12.toInt) → (x4_12.toInt ≤ 1000000) → (rng c_c7_12 12 (0) (11)) → (rng c_c8_12 12 (0) (11)) → pd_2 D vwCl A [ob0_0_ xc xn xk clo cro c4 c5 c6 c7 c8, ob3_0_ xn vp vn n1 n2 n3 n4 n5, ai_ cy n2 40 fs, ai_ cy n3 40 fe, aq_ cy 6 clo 12 (gf_ rl), ai_ cy (rl 0) 12 (Ml 0), ai_ cy (rl 1) 12 (Ml 1), ai_ cy (rl 2) 12 (Ml 2), ai_ cy (rl 3) 12 (Ml 3), ai_ cy (rl 4) 12 (Ml 4), ai_ cy (rl 5) 12 (Ml 5), ai_ cy (rl 6) 12 (Ml 6), ai_ cy (rl 7) 12 (Ml 7), ai_ cy (rl 8) 12 (Ml 8), ai_ cy (rl 9) 12 (Ml 9), ai_ cy (rl 10) 12 (Ml 10), ai_ cy (rl 11) 12 (Ml 11), aq_ cy 6 cro 12 (gf_ rr), ai_ cy (rr 0) 12 (m_rr_12 0), ai_ cy (rr 1) 12 (m_rr_12 1), ai_ cy (rr 2) 12 (m_rr_12 2), ai_ cy (rr 3) 12 (m_rr_12 3), ai_ cy (rr 4) 12 (m_rr_12 4), ai_ cy (rr 5) 12 (m_rr_12 5), ai_ cy (rr 6) 12 (m_rr_12 6), ai_ cy (rr 7) 12 (m_rr_12 7), ai_ cy (rr 8) 12 (m_rr_12 8), ai_ cy (rr 9) 12 (m_rr_12 9), ai_ cy (rr 10) 12 (m_rr_12 10), ai_ cy (rr 11) 12 (m_rr_12 11), ai_ cy c4 40 c_c4_12, ai_ cy c5 40 f5, ai_ cy c6 40 f6, ai_ cy c7 12 c_c7_12, ai_ cy c8 12 c_c8_12] H → va_S A s.heap H locs → lv_has ls 5 [(4, .int x4_12), (3, .int x3_12), (0, .ref xc), (1, .int a1), (2, .int a2)] → W p l e ({ frames := 3, cells := 0, slots := 0, locals := 64 } : Room) s m (([.ref xc, .int a1, .int a2] : List Value).toArray) below meth c H locs 0 0 Q (F0 m 74 ls []) from LOOP_12 ((1000000 - (0 : Int32).toInt).toNat + 1) (0 : Int32) (0 : Int32) m_rr_4 e1_2 e7_7 f8 _ _ _ (by omega) (by first | with_reducible assumption | omega | assumption) (by first | with_reducible assumption | omega | assumption) (by first | with_reducible assumption | assumption | exact rng_zero (by omega) (by omega) | exact orng_zero) (by first | with_reducible assumption | assumption | exact rng_zero (by omega) (by omega) | exact orng_zero) ⟨hP, hD⟩ hS (lv_sub hl [0, 1, 2, 3, 4] rfl)
        intro n_12
        induction n_12 with
        | zero =>
          intro x4_12 x3_12 m_rr_12 c_c4_12 c_c7_12 c_c8_12 H locs ls hm v0_12 v1_12 rc_c7_12 rc_c8_12 hPD hS hl; obtain ⟨hP, hD⟩ := hPD
          exact absurd hm (by omega)
        | succ n_12 ih_12 =>
          intro x4_12 x3_12 m_rr_12 c_c4_12 c_c7_12 c_c8_12 H locs ls hm v0_12 v1_12 rc_c7_12 rc_c8_12 hPD hS hl; obtain ⟨hP, hD⟩ := hPD
          refine lv_iload hx hb dB_36_0_6.2.1.2.2 (lv_at hl 0 rfl) ?_
          refine lv_ldc (v := 1000000) hx hb hown (hts (.constant RX0 82 (1000000)) (List.mem_of_getElem? (i := 10) rfl)) dB_36_0_6.2.2.1.1 ?_
          refine lv_icmp_ge (tgt := 105) hx hb dB_36_0_6.2.2.1.2 (by decide) (fun c_13 => ?_) (fun c_13 => ?_)
          · have t_13 : (1000000 : Int32).toInt ≤ x4_12.toInt := Int32.le_iff_toInt_le.mp c_13
            refine lv_iload_n hx hb dB_36_0_7.2.2.2.1 rfl (lv_at hl 1 rfl) ?_
            rw [hQ]
            exact W.iret (v := x3_12) hx hb hr (fun t ht hW => ⟨⟨x3_12, (), rfl, trivial, m_rr_12, c_c4_12, c_c7_12, c_c8_12, (by first | with_reducible assumption | assumption | exact rng_zero (by omega) (by omega) | omega), (by first | with_reducible assumption | assumption | exact rng_zero (by omega) (by omega) | omega), by rw [ht]; exact hP, hD⟩, hS.F ht⟩) hS.2.2 dB_36_0_7.2.2.2.2
          · have t_13 : ¬ (1000000 : Int32).toInt ≤ x4_12.toInt := fun h => c_13 (Int32.le_iff_toInt_le.mpr h)
            refine lv_aload_n hx hb dB_36_0_6.2.2.2.1 rfl (lv_at hl 2 rfl) ?_
            refine lv_iload_n hx hb dB_36_0_6.2.2.2.2 rfl (lv_at hl 3 rfl) ?_
            refine lv_iload_n hx hb dB_36_0_7.1.1.1 rfl (lv_at hl 4 rfl) ?_
            refine ct_S hP hD hS hA [ob0_0_ xc xn xk clo cro c4 c5 c6 c7 c8, ob3_0_ xn vp vn n1 n2 n3 n4 n5, aq_ cy 6 cro 12 (gf_ rr), ai_ cy (rr 0) 12 (m_rr_12 0), ai_ cy (rr 1) 12 (m_rr_12 1), ai_ cy (rr 2) 12 (m_rr_12 2), ai_ cy (rr 3) 12 (m_rr_12 3), ai_ cy (rr 4) 12 (m_rr_12 4), ai_ cy (rr 5) 12 (m_rr_12 5), ai_ cy (rr 6) 12 (m_rr_12 6), ai_ cy (rr 7) 12 (m_rr_12 7), ai_ cy (rr 8) 12 (m_rr_12 8), ai_ cy (rr 9) 12 (m_rr_12 9), ai_ cy (rr 10) 12 (m_rr_12 10), ai_ cy (rr 11) 12 (m_rr_12 11), ai_ cy c7 12 c_c7_12, ai_ cy c8 12 c_c8_12] [0, 1, 17, 18, 19, 20, 21, 22, 23, 24, 25, 26, 27, 28, 29, 33, 34] (by decide +kernel) rfl (fun hPc hDw hFc hC_ => ?_)
            refine va_calli (va_runV (As := [.int a1, .int a2]) (rest := []) ⟨hx, hb, hml, hown, hts⟩ (c_X0_findWay l D cy H.size xc xk clo cro c4 c5 c6 c7 c8 xn n1 n2 n3 n4 n5 vp vn rr m_rr_12 c_c7_12 c_c8_12 a1 a2 (by first | with_reducible assumption | omega | assumption) (by first | with_reducible assumption | omega | assumption) (by first | with_reducible assumption | omega | assumption) (by first | with_reducible assumption | assumption | omega) (by first | with_reducible assumption | assumption | omega)) (cwV 2 hts gX0_fill_X0_findWay rfl rfl rfl ⟨rfl, hd_X0_findWay⟩ ⟨Nat.le_of_ble_eq_true rfl, Nat.le_of_ble_eq_true rfl⟩) ⟨bl_g, va_recvX hK.1 hP (ci := 0) (q0 := 0) rfl rfl, fun U hU hW => ⟨rfl, by rw [hU], by rw [hU]; exact hPc, ⟨kk_mv hW hK, arrOfT_moved hW.alike hG⟩, hDw⟩⟩ rfl rfl hl.1 rfl (lv_room (Nat.le_of_ble_eq_true rfl)) dB_36_0_7.1.1.2.1 ⟨Nat.le_of_ble_eq_true rfl, Nat.le_of_ble_eq_true rfl⟩) hS (fun q _ h => hFc q h) hFc (fun r_14 u t H locs ht hvm hw hB hz1 hk1 hS => ?_)
            obtain ⟨e7_15, e8_16, g_17, g_18, hP1, hD1⟩ := hB
            rw [ht] at hP1
            obtain ⟨hP, hD⟩ := va_join (wr := [ai_ cy n2 40 fs, ai_ cy n3 40 fe, aq_ cy 6 clo 12 (gf_ rl), ai_ cy (rl 0) 12 (Ml 0), ai_ cy (rl 1) 12 (Ml 1), ai_ cy (rl 2) 12 (Ml 2), ai_ cy (rl 3) 12 (Ml 3), ai_ cy (rl 4) 12 (Ml 4), ai_ cy (rl 5) 12 (Ml 5), ai_ cy (rl 6) 12 (Ml 6), ai_ cy (rl 7) 12 (Ml 7), ai_ cy (rl 8) 12 (Ml 8), ai_ cy (rl 9) 12 (Ml 9), ai_ cy (rl 10) 12 (Ml 10), ai_ cy (rl 11) 12 (Ml 11), ai_ cy c4 40 c_c4_12, ai_ cy c5 40 f5, ai_ cy c6 40 f6]) (w1 := [ob0_0_ xc xn xk clo cro c4 c5 c6 c7 c8, ob3_0_ xn vp vn n1 n2 n3 n4 n5, aq_ cy 6 cro 12 (gf_ rr), ai_ cy (rr 0) 12 (m_rr_12 0), ai_ cy (rr 1) 12 (m_rr_12 1), ai_ cy (rr 2) 12 (m_rr_12 2), ai_ cy (rr 3) 12 (m_rr_12 3), ai_ cy (rr 4) 12 (m_rr_12 4), ai_ cy (rr 5) 12 (m_rr_12 5), ai_ cy (rr 6) 12 (m_rr_12 6), ai_ cy (rr 7) 12 (m_rr_12 7), ai_ cy (rr 8) 12 (m_rr_12 8), ai_ cy (rr 9) 12 (m_rr_12 9), ai_ cy (rr 10) 12 (m_rr_12 10), ai_ cy (rr 11) 12 (m_rr_12 11), ai_ cy c7 12 e7_15, ai_ cy c8 12 e8_16]) hP hD [0, 1, 17, 18, 19, 20, 21, 22, 23, 24, 25, 26, 27, 28, 29, 33, 34] [2, 3, 4, 5, 6, 7, 8, 9, 10, 11, 12, 13, 14, 15, 16, 30, 31, 32] hC_ rfl (by decide +kernel) (by decide +kernel) hk1 hFc hP1 hD1
            refine pd_S hP hD [ob0_0_ xc xn xk clo cro c4 c5 c6 c7 c8, ob3_0_ xn vp vn n1 n2 n3 n4 n5, ai_ cy n2 40 fs, ai_ cy n3 40 fe, aq_ cy 6 clo 12 (gf_ rl), ai_ cy (rl 0) 12 (Ml 0), ai_ cy (rl 1) 12 (Ml 1), ai_ cy (rl 2) 12 (Ml 2), ai_ cy (rl 3) 12 (Ml 3), ai_ cy (rl 4) 12 (Ml 4), ai_ cy (rl 5) 12 (Ml 5), ai_ cy (rl 6) 12 (Ml 6), ai_ cy (rl 7) 12 (Ml 7), ai_ cy (rl 8) 12 (Ml 8), ai_ cy (rl 9) 12 (Ml 9), ai_ cy (rl 10) 12 (Ml 10), ai_ cy (rl 11) 12 (Ml 11), aq_ cy 6 cro 12 (gf_ rr), ai_ cy (rr 0) 12 (m_rr_12 0), ai_ cy (rr 1) 12 (m_rr_12 1), ai_ cy (rr 2) 12 (m_rr_12 2), ai_ cy (rr 3) 12 (m_rr_12 3), ai_ cy (rr 4) 12 (m_rr_12 4), ai_ cy (rr 5) 12 (m_rr_12 5), ai_ cy (rr 6) 12 (m_rr_12 6), ai_ cy (rr 7) 12 (m_rr_12 7), ai_ cy (rr 8) 12 (m_rr_12 8), ai_ cy (rr 9) 12 (m_rr_12 9), ai_ cy (rr 10) 12 (m_rr_12 10), ai_ cy (rr 11) 12 (m_rr_12 11), ai_ cy c4 40 c_c4_12, ai_ cy c5 40 f5, ai_ cy c6 40 f6, ai_ cy c7 12 e7_15, ai_ cy c8 12 e8_16] [18, 19, 0, 1, 2, 3, 4, 5, 6, 7, 8, 9, 10, 11, 12, 13, 14, 20, 21, 22, 23, 24, 25, 26, 27, 28, 29, 30, 31, 32, 15, 16, 17, 33, 34] (by decide +kernel) rfl (fun hP hD => ?_)
            have f0_r_14 := hw
            refine lv_if_eq (tgt := 105) hx hb dB_36_0_7.1.1.2.2 (by decide) (fun c_19 => ?_) (fun c_19 => ?_)
            · have t_19 : r_14.toInt = (0 : Int32).toInt := congrArg Int32.toInt c_19
              refine lv_iload_n hx hb dB_36_0_7.2.2.2.1 rfl (lv_at hl 1 rfl) ?_
              rw [hQ]
              exact W.iret (v := x3_12) hx hb hr (fun t ht hW => ⟨⟨x3_12, (), rfl, trivial, m_rr_12, c_c4_12, e7_15, e8_16, (by first | with_reducible assumption | assumption | exact rng_zero (by omega) (by omega) | omega), (by first | with_reducible assumption | assumption | exact rng_zero (by omega) (by omega) | omega), by rw [ht]; exact hP, hD⟩, hS.F ht⟩) hS.2.2 dB_36_0_7.2.2.2.2
            · have t_19 : ¬ r_14.toInt = (0 : Int32).toInt := fun h => c_19 (Int32.toInt_inj.mp h)
              refine lv_iload_n hx hb dB_36_0_7.1.2.1.1 rfl (lv_at hl 1 rfl) ?_
              refine lv_aload_n hx hb dB_36_0_7.1.2.1.2 rfl (lv_at hl 2 rfl) ?_
              refine lv_iload_n hx hb dB_36_0_7.1.2.2.1 rfl (lv_at hl 3 rfl) ?_
              refine lv_iload_n hx hb dB_36_0_7.1.2.2.2 rfl (lv_at hl 4 rfl) ?_
              refine ct_S hP hD hS hA [ob0_0_ xc xn xk clo cro c4 c5 c6 c7 c8, ob3_0_ xn vp vn n1 n2 n3 n4 n5, ai_ cy n2 40 fs, ai_ cy n3 40 fe, aq_ cy 6 cro 12 (gf_ rr), ai_ cy (rr 0) 12 (m_rr_12 0), ai_ cy (rr 1) 12 (m_rr_12 1), ai_ cy (rr 2) 12 (m_rr_12 2), ai_ cy (rr 3) 12 (m_rr_12 3), ai_ cy (rr 4) 12 (m_rr_12 4), ai_ cy (rr 5) 12 (m_rr_12 5), ai_ cy (rr 6) 12 (m_rr_12 6), ai_ cy (rr 7) 12 (m_rr_12 7), ai_ cy (rr 8) 12 (m_rr_12 8), ai_ cy (rr 9) 12 (m_rr_12 9), ai_ cy (rr 10) 12 (m_rr_12 10), ai_ cy (rr 11) 12 (m_rr_12 11), ai_ cy c4 40 c_c4_12, ai_ cy c5 40 f5, ai_ cy c6 40 f6, ai_ cy c8 12 e8_16] [0, 1, 2, 3, 17, 18, 19, 20, 21, 22, 23, 24, 25, 26, 27, 28, 29, 30, 31, 32, 34] (by decide +kernel) rfl (fun hPc hDw hFc hC_ => ?_)
              refine va_calli (va_runV (As := [.int a1, .int a2]) (rest := [.int x3_12]) ⟨hx, hb, hml, hown, hts⟩ (c_X0_sendAlongWay l D cy H.size xc xk clo cro c4 c5 c6 c7 c8 xn n1 n2 n3 n4 n5 vp vn fs fe rr m_rr_12 c_c4_12 f5 f6 e8_16 a1 a2 (by first | with_reducible assumption | omega | assumption) (by first | with_reducible assumption | omega | assumption) (by first | with_reducible assumption | assumption | omega)) (cwV 2 hts gX0_fill_X0_sendAlongWay rfl rfl rfl ⟨rfl, hd_X0_sendAlongWay⟩ ⟨Nat.le_of_ble_eq_true rfl, Nat.le_of_ble_eq_true rfl⟩) ⟨bl_g, va_recvX hK.1 hP (ci := 0) (q0 := 0) rfl rfl, fun U hU hW => ⟨rfl, by rw [hU], by rw [hU]; exact hPc, ⟨kk_mv hW hK, arrOfT_moved hW.alike hG⟩, hDw⟩⟩ rfl rfl hl.1 rfl (lv_room (Nat.le_of_ble_eq_true rfl)) dB_36_0_7.2.1.1 ⟨Nat.le_of_ble_eq_true rfl, Nat.le_of_ble_eq_true rfl⟩) hS (fun q _ h => hFc q h) hFc (fun r_20 u t H locs ht hvm hw hB hz1 hk1 hS => ?_)
              obtain ⟨eMr_21, e4_22, hP1, hD1⟩ := hB
              rw [ht] at hP1
              obtain ⟨hP, hD⟩ := va_join (wr := [aq_ cy 6 clo 12 (gf_ rl), ai_ cy (rl 0) 12 (Ml 0), ai_ cy (rl 1) 12 (Ml 1), ai_ cy (rl 2) 12 (Ml 2), ai_ cy (rl 3) 12 (Ml 3), ai_ cy (rl 4) 12 (Ml 4), ai_ cy (rl 5) 12 (Ml 5), ai_ cy (rl 6) 12 (Ml 6), ai_ cy (rl 7) 12 (Ml 7), ai_ cy (rl 8) 12 (Ml 8), ai_ cy (rl 9) 12 (Ml 9), ai_ cy (rl 10) 12 (Ml 10), ai_ cy (rl 11) 12 (Ml 11), ai_ cy c7 12 e7_15]) (w1 := [ob0_0_ xc xn xk clo cro c4 c5 c6 c7 c8, ob3_0_ xn vp vn n1 n2 n3 n4 n5, ai_ cy n2 40 fs, ai_ cy n3 40 fe, aq_ cy 6 cro 12 (gf_ rr), ai_ cy (rr 0) 12 (eMr_21 0), ai_ cy (rr 1) 12 (eMr_21 1), ai_ cy (rr 2) 12 (eMr_21 2), ai_ cy (rr 3) 12 (eMr_21 3), ai_ cy (rr 4) 12 (eMr_21 4), ai_ cy (rr 5) 12 (eMr_21 5), ai_ cy (rr 6) 12 (eMr_21 6), ai_ cy (rr 7) 12 (eMr_21 7), ai_ cy (rr 8) 12 (eMr_21 8), ai_ cy (rr 9) 12 (eMr_21 9), ai_ cy (rr 10) 12 (eMr_21 10), ai_ cy (rr 11) 12 (eMr_21 11), ai_ cy c4 40 e4_22, ai_ cy c5 40 f5, ai_ cy c6 40 f6, ai_ cy c8 12 e8_16]) hP hD [0, 1, 2, 3, 17, 18, 19, 20, 21, 22, 23, 24, 25, 26, 27, 28, 29, 30, 31, 32, 34] [4, 5, 6, 7, 8, 9, 10, 11, 12, 13, 14, 15, 16, 33] hC_ rfl (by decide +kernel) (by decide +kernel) hk1 hFc hP1 hD1
              refine pd_S hP hD [ob0_0_ xc xn xk clo cro c4 c5 c6 c7 c8, ob3_0_ xn vp vn n1 n2 n3 n4 n5, ai_ cy n2 40 fs, ai_ cy n3 40 fe, aq_ cy 6 clo 12 (gf_ rl), ai_ cy (rl 0) 12 (Ml 0), ai_ cy (rl 1) 12 (Ml 1), ai_ cy (rl 2) 12 (Ml 2), ai_ cy (rl 3) 12 (Ml 3), ai_ cy (rl 4) 12 (Ml 4), ai_ cy (rl 5) 12 (Ml 5), ai_ cy (rl 6) 12 (Ml 6), ai_ cy (rl 7) 12 (Ml 7), ai_ cy (rl 8) 12 (Ml 8), ai_ cy (rl 9) 12 (Ml 9), ai_ cy (rl 10) 12 (Ml 10), ai_ cy (rl 11) 12 (Ml 11), aq_ cy 6 cro 12 (gf_ rr), ai_ cy (rr 0) 12 (eMr_21 0), ai_ cy (rr 1) 12 (eMr_21 1), ai_ cy (rr 2) 12 (eMr_21 2), ai_ cy (rr 3) 12 (eMr_21 3), ai_ cy (rr 4) 12 (eMr_21 4), ai_ cy (rr 5) 12 (eMr_21 5), ai_ cy (rr 6) 12 (eMr_21 6), ai_ cy (rr 7) 12 (eMr_21 7), ai_ cy (rr 8) 12 (eMr_21 8), ai_ cy (rr 9) 12 (eMr_21 9), ai_ cy (rr 10) 12 (eMr_21 10), ai_ cy (rr 11) 12 (eMr_21 11), ai_ cy c4 40 e4_22, ai_ cy c5 40 f5, ai_ cy c6 40 f6, ai_ cy c7 12 e7_15, ai_ cy c8 12 e8_16] [14, 15, 16, 17, 0, 1, 2, 3, 4, 5, 6, 7, 8, 9, 10, 11, 12, 18, 19, 20, 21, 22, 23, 24, 25, 26, 27, 28, 29, 30, 31, 32, 33, 13, 34] (by decide +kernel) rfl (fun hP hD => ?_)
              refine lv_iadd hx hb dB_36_0_7.2.1.2.1 ?_
              refine lv_topi (fun y_23 ey_23 => ?_)
              refine lv_istore_n (lv' := [(3, .int y_23), (4, .int x4_12), (0, .ref xc), (1, .int a1), (2, .int a2)]) hx hb dB_36_0_7.2.1.2.2 rfl hl (by decide) rfl (fun ls hl => ?_)
              obtain ⟨y_24, ey_24⟩ : ∃ y : Int32, y = x4_12 + 1 := ⟨_, rfl⟩
              have ty_24 : y_24.toInt = x4_12.toInt + (1 : Int32).toInt := by rw [ey_24]; exact addI (by omega) (by omega)
              refine lv_iinc (v := y_24) (lv' := [(4, .int y_24), (3, .int y_23), (0, .ref xc), (1, .int a1), (2, .int a2)]) hx hb dB_36_0_7.2.2.1.1 hl (k := 1) rfl (by rw [ey_24]; rfl) (by decide) rfl (fun ls hl => ?_)
              refine lv_goto (tgt := 74) hx hb dB_36_0_7.2.2.1.2 (by decide) ?_
              exact ih_12 y_24 y_23 eMr_21 e4_22 e7_15 e8_16 _ _ _ (by omega) (by first | with_reducible assumption | omega | assumption) (by first | with_reducible assumption | omega | assumption) (by first | with_reducible assumption | assumption | exact rng_zero (by omega) (by omega) | exact orng_zero) (by first | with_reducible assumption | assumption | exact rng_zero (by omega) (by omega) | exact orng_zero) ⟨hP, hD⟩ hS (lv_sub hl [0, 1, 2, 3, 4] rfl)
      · have t_11 : y_10.toInt = (1 : Int32).toInt := congrArg Int32.toInt c_11
        refine lv_bipush (v := (-5)) hx hb dB_36_0_6.1.2.1.2 (by decide) ?_
        rw [hQ]
        exact W.iret (v := (-5)) hx hb hr (fun t ht hW => ⟨⟨(-5), (), rfl, trivial, m_rr_4, e1_2, e7_7, f8, (by first | with_reducible assumption | assumption | exact rng_zero (by omega) (by omega) | omega), (by first | with_reducible assumption | assumption | exact rng_zero (by omega) (by omega) | omega), by rw [ht]; exact hP, hD⟩, hS.F ht⟩) hS.2.2 dB_36_0_6.1.2.2.1
    · have t_5 : ¬ vp.toInt ≤ x3_4.toInt := fun h => c_5 (Int32.le_iff_toInt_le.mpr h)
      rcases sp_12 (x := x3_4) (by omega) with rfl | rfl | rfl | rfl | rfl | rfl | rfl | rfl | rfl | rfl | rfl | rfl
      · refine lv_aload_n hx hb dB_36_0_4.2.1.2.2 rfl (lv_at hl 1 rfl) ?_
        refine va_get (ci := 0) (v := .ref clo) (C := RX0) (T := TX0) (N := 9) hx hb hts (fun _ h => List.mem_cons_of_mem _ (List.mem_append_left _ (List.mem_append_right _ h))) hown hK.1 hP 0 rfl rfl 2 (by decide) (hts (.fieldLink RX0 11 "CutAtlas$Current" "lets" "[[I") (List.mem_of_getElem? (i := 4) rfl)) (fun _ h9 => h9) rfl dB_36_0_4.2.2.1.1 ?_
        refine lv_iload_n hx hb dB_36_0_4.2.2.1.2 rfl (lv_at hl 0 rfl) ?_
        have h_25 : vp_in (0 : Int32) 12 := by unfold vp_in; decide
        refine va_alda hx hb hG hP 4 rfl (i := 0) h_25 dB_36_0_4.2.2.2.1 ?_
        refine lv_topv (v' := .ref (rl 0)) (gf_at h_25) ?_
        refine lv_iconst (v := 0) hx hb dB_36_0_4.2.2.2.2 (by decide) ?_
        refine lv_aload_n hx hb dB_36_0_5.1.1.1.1 rfl (lv_at hl 1 rfl) ?_
        refine va_get (ci := 0) (v := .ref cro) (C := RX0) (T := TX0) (N := 9) hx hb hts (fun _ h => List.mem_cons_of_mem _ (List.mem_append_left _ (List.mem_append_right _ h))) hown hK.1 hP 0 rfl rfl 3 (by decide) (hts (.fieldLink RX0 16 "CutAtlas$Current" "room" "[[I") (List.mem_of_getElem? (i := 5) rfl)) (fun _ h9 => h9) rfl dB_36_0_5.1.1.1.2 ?_
        refine lv_iload_n hx hb dB_36_0_5.1.1.2.1 rfl (lv_at hl 0 rfl) ?_
        refine va_alda hx hb hG hP 17 rfl (i := 0) h_25 dB_36_0_5.1.1.2.2 ?_
        refine lv_topv (v' := .ref (rr 0)) (gf_at h_25) ?_
        refine lv_iconst (v := 0) hx hb dB_36_0_5.1.2.1.1 (by decide) ?_
        refine lv_aload_n hx hb dB_36_0_5.1.2.1.2 rfl (lv_at hl 1 rfl) ?_
        refine va_get (ci := 0) (v := .ref xn) (C := RX0) (T := TX0) (N := 9) hx hb hts (fun _ h => List.mem_cons_of_mem _ (List.mem_append_left _ (List.mem_append_right _ h))) hown hK.1 hP 0 rfl rfl 0 (by decide) (hts (.fieldLink RX0 35 "CutAtlas$Current" "net" "LCutAtlas$Net;") (List.mem_of_getElem? (i := 2) rfl)) (fun _ h9 => h9) rfl dB_36_0_5.1.2.2.1 ?_
        refine va_get (ci := 3) (v := .int vp) (C := RX3) (T := TX3) (N := 7) hx hb hts (fun _ h => List.mem_cons_of_mem _ (List.mem_append_right _ h)) hown hK.1 hP 1 rfl rfl 0 (by decide) (hts (.fieldLink RX0 43 "CutAtlas$Net" "places" "I") (List.mem_of_getElem? (i := 3) rfl)) (fun _ h9 => h9) rfl dB_36_0_5.1.2.2.2 ?_
        have cl_27 := clI (i := (0 : Int32)) (by omega)
        have cl_28 := clI (i := vp) (by omega)
        refine va_copyi hx hb (by rw [hml]; exact hl.1.symm) hown (hts (.methodLink RX0 83 arraycopyName) (List.mem_of_getElem? (i := 6) rfl)) (hts (.native arraycopyName) (List.mem_of_getElem? (i := 7) rfl)) (hts (.static arraycopyName) (List.mem_of_getElem? (i := 8) rfl)) (hts (.initialized "java/lang/System") (List.mem_of_getElem? (i := 9) rfl)) hK.1 hP hD hS 5 18 0 0 rfl rfl rfl rfl rfl (sp := (0 : Int32)) (dp := (0 : Int32)) (n := vp) (nneg (by omega)) (nneg (by omega)) (nneg (by omega)) (by omega) (by omega) (fun i h => rfl) (Nat.le_of_ble_eq_true rfl) (Nat.le_of_ble_eq_true rfl) dB_36_0_5.2.1.1.1 (fun H locs hP hD hS => ?_)
        obtain ⟨f_29, ef_29⟩ : ∃ g : Nat → Int32, g = va_cpy (Ml 0) (m_rr_4 0) (0 : Int32).toNatClampNeg (0 : Int32).toNatClampNeg vp.toNatClampNeg := ⟨_, rfl⟩
        refine pd_K (D := D) (cl := vwCl) (H := H) (A := A) [ob0_0_ xc xn xk clo cro c4 c5 c6 c7 c8, ob3_0_ xn vp vn n1 n2 n3 n4 n5, ai_ cy n2 40 fs, ai_ cy n3 40 fe, aq_ cy 6 clo 12 (gf_ rl), ai_ cy (rl 0) 12 (Ml 0), ai_ cy (rl 1) 12 (Ml 1), ai_ cy (rl 2) 12 (Ml 2), ai_ cy (rl 3) 12 (Ml 3), ai_ cy (rl 4) 12 (Ml 4), ai_ cy (rl 5) 12 (Ml 5), ai_ cy (rl 6) 12 (Ml 6), ai_ cy (rl 7) 12 (Ml 7), ai_ cy (rl 8) 12 (Ml 8), ai_ cy (rl 9) 12 (Ml 9), ai_ cy (rl 10) 12 (Ml 10), ai_ cy (rl 11) 12 (Ml 11), aq_ cy 6 cro 12 (gf_ rr), ai_ cy (rr 0) 12 f_29, ai_ cy (rr 1) 12 (m_rr_4 1), ai_ cy (rr 2) 12 (m_rr_4 2), ai_ cy (rr 3) 12 (m_rr_4 3), ai_ cy (rr 4) 12 (m_rr_4 4), ai_ cy (rr 5) 12 (m_rr_4 5), ai_ cy (rr 6) 12 (m_rr_4 6), ai_ cy (rr 7) 12 (m_rr_4 7), ai_ cy (rr 8) 12 (m_rr_4 8), ai_ cy (rr 9) 12 (m_rr_4 9), ai_ cy (rr 10) 12 (m_rr_4 10), ai_ cy (rr 11) 12 (m_rr_4 11), ai_ cy c4 40 e1_2, ai_ cy c5 40 f5, ai_ cy c6 40 f6, ai_ cy c7 12 f7, ai_ cy c8 12 f8] (by rw [ef_29]; exact hP) (by rw [ef_29]; exact hD) (fun hP hD => ?_)
        obtain ⟨M_30, eM_30⟩ : ∃ g : Nat → Nat → Int32, g = va_up m_rr_4 0 f_29 := ⟨_, rfl⟩
        refine pd_K (D := D) (cl := vwCl) (H := H) (A := A) [ob0_0_ xc xn xk clo cro c4 c5 c6 c7 c8, ob3_0_ xn vp vn n1 n2 n3 n4 n5, ai_ cy n2 40 fs, ai_ cy n3 40 fe, aq_ cy 6 clo 12 (gf_ rl), ai_ cy (rl 0) 12 (Ml 0), ai_ cy (rl 1) 12 (Ml 1), ai_ cy (rl 2) 12 (Ml 2), ai_ cy (rl 3) 12 (Ml 3), ai_ cy (rl 4) 12 (Ml 4), ai_ cy (rl 5) 12 (Ml 5), ai_ cy (rl 6) 12 (Ml 6), ai_ cy (rl 7) 12 (Ml 7), ai_ cy (rl 8) 12 (Ml 8), ai_ cy (rl 9) 12 (Ml 9), ai_ cy (rl 10) 12 (Ml 10), ai_ cy (rl 11) 12 (Ml 11), aq_ cy 6 cro 12 (gf_ rr), ai_ cy (rr 0) 12 (M_30 0), ai_ cy (rr 1) 12 (M_30 1), ai_ cy (rr 2) 12 (M_30 2), ai_ cy (rr 3) 12 (M_30 3), ai_ cy (rr 4) 12 (M_30 4), ai_ cy (rr 5) 12 (M_30 5), ai_ cy (rr 6) 12 (M_30 6), ai_ cy (rr 7) 12 (M_30 7), ai_ cy (rr 8) 12 (M_30 8), ai_ cy (rr 9) 12 (M_30 9), ai_ cy (rr 10) 12 (M_30 10), ai_ cy (rr 11) 12 (M_30 11), ai_ cy c4 40 e1_2, ai_ cy c5 40 f5, ai_ cy c6 40 f6, ai_ cy c7 12 f7, ai_ cy c8 12 f8] (by rw [eM_30]; exact hP) (by rw [eM_30]; exact hD) (fun hP hD => ?_)
        obtain ⟨y_31, ey_31⟩ : ∃ y : Int32, y = (0 : Int32) + 1 := ⟨_, rfl⟩
        have ty_31 : y_31.toInt = (0 : Int32).toInt + (1 : Int32).toInt := by rw [ey_31]; exact addI (by omega) (by omega)
        refine lv_iinc (v := y_31) (lv' := [(3, .int y_31), (0, .ref xc), (1, .int a1), (2, .int a2)]) hx hb dB_36_0_5.2.1.1.2 hl (k := 0) rfl (by rw [ey_31]; rfl) (by decide) rfl (fun ls hl => ?_)
        refine lv_goto (tgt := 10) hx hb dB_36_0_5.2.1.2.1 (by decide) ?_
        exact ih_4 y_31 M_30 _ _ _ (by omega) (by first | with_reducible assumption | omega | assumption) (by first | with_reducible assumption | omega | assumption) ⟨hP, hD⟩ hS (lv_sub hl [0, 1, 2, 3] rfl)
      · refine lv_aload_n hx hb dB_36_0_4.2.1.2.2 rfl (lv_at hl 1 rfl) ?_
        refine va_get (ci := 0) (v := .ref clo) (C := RX0) (T := TX0) (N := 9) hx hb hts (fun _ h => List.mem_cons_of_mem _ (List.mem_append_left _ (List.mem_append_right _ h))) hown hK.1 hP 0 rfl rfl 2 (by decide) (hts (.fieldLink RX0 11 "CutAtlas$Current" "lets" "[[I") (List.mem_of_getElem? (i := 4) rfl)) (fun _ h9 => h9) rfl dB_36_0_4.2.2.1.1 ?_
        refine lv_iload_n hx hb dB_36_0_4.2.2.1.2 rfl (lv_at hl 0 rfl) ?_
        have h_32 : vp_in (1 : Int32) 12 := by unfold vp_in; decide
        refine va_alda hx hb hG hP 4 rfl (i := 1) h_32 dB_36_0_4.2.2.2.1 ?_
        refine lv_topv (v' := .ref (rl 1)) (gf_at h_32) ?_
        refine lv_iconst (v := 0) hx hb dB_36_0_4.2.2.2.2 (by decide) ?_
        refine lv_aload_n hx hb dB_36_0_5.1.1.1.1 rfl (lv_at hl 1 rfl) ?_
        refine va_get (ci := 0) (v := .ref cro) (C := RX0) (T := TX0) (N := 9) hx hb hts (fun _ h => List.mem_cons_of_mem _ (List.mem_append_left _ (List.mem_append_right _ h))) hown hK.1 hP 0 rfl rfl 3 (by decide) (hts (.fieldLink RX0 16 "CutAtlas$Current" "room" "[[I") (List.mem_of_getElem? (i := 5) rfl)) (fun _ h9 => h9) rfl dB_36_0_5.1.1.1.2 ?_
        refine lv_iload_n hx hb dB_36_0_5.1.1.2.1 rfl (lv_at hl 0 rfl) ?_
        refine va_alda hx hb hG hP 17 rfl (i := 1) h_32 dB_36_0_5.1.1.2.2 ?_
        refine lv_topv (v' := .ref (rr 1)) (gf_at h_32) ?_
        refine lv_iconst (v := 0) hx hb dB_36_0_5.1.2.1.1 (by decide) ?_
        refine lv_aload_n hx hb dB_36_0_5.1.2.1.2 rfl (lv_at hl 1 rfl) ?_
        refine va_get (ci := 0) (v := .ref xn) (C := RX0) (T := TX0) (N := 9) hx hb hts (fun _ h => List.mem_cons_of_mem _ (List.mem_append_left _ (List.mem_append_right _ h))) hown hK.1 hP 0 rfl rfl 0 (by decide) (hts (.fieldLink RX0 35 "CutAtlas$Current" "net" "LCutAtlas$Net;") (List.mem_of_getElem? (i := 2) rfl)) (fun _ h9 => h9) rfl dB_36_0_5.1.2.2.1 ?_
        refine va_get (ci := 3) (v := .int vp) (C := RX3) (T := TX3) (N := 7) hx hb hts (fun _ h => List.mem_cons_of_mem _ (List.mem_append_right _ h)) hown hK.1 hP 1 rfl rfl 0 (by decide) (hts (.fieldLink RX0 43 "CutAtlas$Net" "places" "I") (List.mem_of_getElem? (i := 3) rfl)) (fun _ h9 => h9) rfl dB_36_0_5.1.2.2.2 ?_
        have cl_34 := clI (i := (0 : Int32)) (by omega)
        have cl_35 := clI (i := vp) (by omega)
        refine va_copyi hx hb (by rw [hml]; exact hl.1.symm) hown (hts (.methodLink RX0 83 arraycopyName) (List.mem_of_getElem? (i := 6) rfl)) (hts (.native arraycopyName) (List.mem_of_getElem? (i := 7) rfl)) (hts (.static arraycopyName) (List.mem_of_getElem? (i := 8) rfl)) (hts (.initialized "java/lang/System") (List.mem_of_getElem? (i := 9) rfl)) hK.1 hP hD hS 6 19 0 0 rfl rfl rfl rfl rfl (sp := (0 : Int32)) (dp := (0 : Int32)) (n := vp) (nneg (by omega)) (nneg (by omega)) (nneg (by omega)) (by omega) (by omega) (fun i h => rfl) (Nat.le_of_ble_eq_true rfl) (Nat.le_of_ble_eq_true rfl) dB_36_0_5.2.1.1.1 (fun H locs hP hD hS => ?_)
        obtain ⟨f_36, ef_36⟩ : ∃ g : Nat → Int32, g = va_cpy (Ml 1) (m_rr_4 1) (0 : Int32).toNatClampNeg (0 : Int32).toNatClampNeg vp.toNatClampNeg := ⟨_, rfl⟩
        refine pd_K (D := D) (cl := vwCl) (H := H) (A := A) [ob0_0_ xc xn xk clo cro c4 c5 c6 c7 c8, ob3_0_ xn vp vn n1 n2 n3 n4 n5, ai_ cy n2 40 fs, ai_ cy n3 40 fe, aq_ cy 6 clo 12 (gf_ rl), ai_ cy (rl 0) 12 (Ml 0), ai_ cy (rl 1) 12 (Ml 1), ai_ cy (rl 2) 12 (Ml 2), ai_ cy (rl 3) 12 (Ml 3), ai_ cy (rl 4) 12 (Ml 4), ai_ cy (rl 5) 12 (Ml 5), ai_ cy (rl 6) 12 (Ml 6), ai_ cy (rl 7) 12 (Ml 7), ai_ cy (rl 8) 12 (Ml 8), ai_ cy (rl 9) 12 (Ml 9), ai_ cy (rl 10) 12 (Ml 10), ai_ cy (rl 11) 12 (Ml 11), aq_ cy 6 cro 12 (gf_ rr), ai_ cy (rr 0) 12 (m_rr_4 0), ai_ cy (rr 1) 12 f_36, ai_ cy (rr 2) 12 (m_rr_4 2), ai_ cy (rr 3) 12 (m_rr_4 3), ai_ cy (rr 4) 12 (m_rr_4 4), ai_ cy (rr 5) 12 (m_rr_4 5), ai_ cy (rr 6) 12 (m_rr_4 6), ai_ cy (rr 7) 12 (m_rr_4 7), ai_ cy (rr 8) 12 (m_rr_4 8), ai_ cy (rr 9) 12 (m_rr_4 9), ai_ cy (rr 10) 12 (m_rr_4 10), ai_ cy (rr 11) 12 (m_rr_4 11), ai_ cy c4 40 e1_2, ai_ cy c5 40 f5, ai_ cy c6 40 f6, ai_ cy c7 12 f7, ai_ cy c8 12 f8] (by rw [ef_36]; exact hP) (by rw [ef_36]; exact hD) (fun hP hD => ?_)
        obtain ⟨M_37, eM_37⟩ : ∃ g : Nat → Nat → Int32, g = va_up m_rr_4 1 f_36 := ⟨_, rfl⟩
        refine pd_K (D := D) (cl := vwCl) (H := H) (A := A) [ob0_0_ xc xn xk clo cro c4 c5 c6 c7 c8, ob3_0_ xn vp vn n1 n2 n3 n4 n5, ai_ cy n2 40 fs, ai_ cy n3 40 fe, aq_ cy 6 clo 12 (gf_ rl), ai_ cy (rl 0) 12 (Ml 0), ai_ cy (rl 1) 12 (Ml 1), ai_ cy (rl 2) 12 (Ml 2), ai_ cy (rl 3) 12 (Ml 3), ai_ cy (rl 4) 12 (Ml 4), ai_ cy (rl 5) 12 (Ml 5), ai_ cy (rl 6) 12 (Ml 6), ai_ cy (rl 7) 12 (Ml 7), ai_ cy (rl 8) 12 (Ml 8), ai_ cy (rl 9) 12 (Ml 9), ai_ cy (rl 10) 12 (Ml 10), ai_ cy (rl 11) 12 (Ml 11), aq_ cy 6 cro 12 (gf_ rr), ai_ cy (rr 0) 12 (M_37 0), ai_ cy (rr 1) 12 (M_37 1), ai_ cy (rr 2) 12 (M_37 2), ai_ cy (rr 3) 12 (M_37 3), ai_ cy (rr 4) 12 (M_37 4), ai_ cy (rr 5) 12 (M_37 5), ai_ cy (rr 6) 12 (M_37 6), ai_ cy (rr 7) 12 (M_37 7), ai_ cy (rr 8) 12 (M_37 8), ai_ cy (rr 9) 12 (M_37 9), ai_ cy (rr 10) 12 (M_37 10), ai_ cy (rr 11) 12 (M_37 11), ai_ cy c4 40 e1_2, ai_ cy c5 40 f5, ai_ cy c6 40 f6, ai_ cy c7 12 f7, ai_ cy c8 12 f8] (by rw [eM_37]; exact hP) (by rw [eM_37]; exact hD) (fun hP hD => ?_)
        obtain ⟨y_38, ey_38⟩ : ∃ y : Int32, y = (1 : Int32) + 1 := ⟨_, rfl⟩
        have ty_38 : y_38.toInt = (1 : Int32).toInt + (1 : Int32).toInt := by rw [ey_38]; exact addI (by omega) (by omega)
        refine lv_iinc (v := y_38) (lv' := [(3, .int y_38), (0, .ref xc), (1, .int a1), (2, .int a2)]) hx hb dB_36_0_5.2.1.1.2 hl (k := 0) rfl (by rw [ey_38]; rfl) (by decide) rfl (fun ls hl => ?_)
        refine lv_goto (tgt := 10) hx hb dB_36_0_5.2.1.2.1 (by decide) ?_
        exact ih_4 y_38 M_37 _ _ _ (by omega) (by first | with_reducible assumption | omega | assumption) (by first | with_reducible assumption | omega | assumption) ⟨hP, hD⟩ hS (lv_sub hl [0, 1, 2, 3] rfl)
      · refine lv_aload_n hx hb dB_36_0_4.2.1.2.2 rfl (lv_at hl 1 rfl) ?_
        refine va_get (ci := 0) (v := .ref clo) (C := RX0) (T := TX0) (N := 9) hx hb hts (fun _ h => List.mem_cons_of_mem _ (List.mem_append_left _ (List.mem_append_right _ h))) hown hK.1 hP 0 rfl rfl 2 (by decide) (hts (.fieldLink RX0 11 "CutAtlas$Current" "lets" "[[I") (List.mem_of_getElem? (i := 4) rfl)) (fun _ h9 => h9) rfl dB_36_0_4.2.2.1.1 ?_
        refine lv_iload_n hx hb dB_36_0_4.2.2.1.2 rfl (lv_at hl 0 rfl) ?_
        have h_39 : vp_in (2 : Int32) 12 := by unfold vp_in; decide
        refine va_alda hx hb hG hP 4 rfl (i := 2) h_39 dB_36_0_4.2.2.2.1 ?_
        refine lv_topv (v' := .ref (rl 2)) (gf_at h_39) ?_
        refine lv_iconst (v := 0) hx hb dB_36_0_4.2.2.2.2 (by decide) ?_
        refine lv_aload_n hx hb dB_36_0_5.1.1.1.1 rfl (lv_at hl 1 rfl) ?_
        refine va_get (ci := 0) (v := .ref cro) (C := RX0) (T := TX0) (N := 9) hx hb hts (fun _ h => List.mem_cons_of_mem _ (List.mem_append_left _ (List.mem_append_right _ h))) hown hK.1 hP 0 rfl rfl 3 (by decide) (hts (.fieldLink RX0 16 "CutAtlas$Current" "room" "[[I") (List.mem_of_getElem? (i := 5) rfl)) (fun _ h9 => h9) rfl dB_36_0_5.1.1.1.2 ?_
        refine lv_iload_n hx hb dB_36_0_5.1.1.2.1 rfl (lv_at hl 0 rfl) ?_
        refine va_alda hx hb hG hP 17 rfl (i := 2) h_39 dB_36_0_5.1.1.2.2 ?_
        refine lv_topv (v' := .ref (rr 2)) (gf_at h_39) ?_
        refine lv_iconst (v := 0) hx hb dB_36_0_5.1.2.1.1 (by decide) ?_
        refine lv_aload_n hx hb dB_36_0_5.1.2.1.2 rfl (lv_at hl 1 rfl) ?_
        refine va_get (ci := 0) (v := .ref xn) (C := RX0) (T := TX0) (N := 9) hx hb hts (fun _ h => List.mem_cons_of_mem _ (List.mem_append_left _ (List.mem_append_right _ h))) hown hK.1 hP 0 rfl rfl 0 (by decide) (hts (.fieldLink RX0 35 "CutAtlas$Current" "net" "LCutAtlas$Net;") (List.mem_of_getElem? (i := 2) rfl)) (fun _ h9 => h9) rfl dB_36_0_5.1.2.2.1 ?_
        refine va_get (ci := 3) (v := .int vp) (C := RX3) (T := TX3) (N := 7) hx hb hts (fun _ h => List.mem_cons_of_mem _ (List.mem_append_right _ h)) hown hK.1 hP 1 rfl rfl 0 (by decide) (hts (.fieldLink RX0 43 "CutAtlas$Net" "places" "I") (List.mem_of_getElem? (i := 3) rfl)) (fun _ h9 => h9) rfl dB_36_0_5.1.2.2.2 ?_
        have cl_41 := clI (i := (0 : Int32)) (by omega)
        have cl_42 := clI (i := vp) (by omega)
        refine va_copyi hx hb (by rw [hml]; exact hl.1.symm) hown (hts (.methodLink RX0 83 arraycopyName) (List.mem_of_getElem? (i := 6) rfl)) (hts (.native arraycopyName) (List.mem_of_getElem? (i := 7) rfl)) (hts (.static arraycopyName) (List.mem_of_getElem? (i := 8) rfl)) (hts (.initialized "java/lang/System") (List.mem_of_getElem? (i := 9) rfl)) hK.1 hP hD hS 7 20 0 0 rfl rfl rfl rfl rfl (sp := (0 : Int32)) (dp := (0 : Int32)) (n := vp) (nneg (by omega)) (nneg (by omega)) (nneg (by omega)) (by omega) (by omega) (fun i h => rfl) (Nat.le_of_ble_eq_true rfl) (Nat.le_of_ble_eq_true rfl) dB_36_0_5.2.1.1.1 (fun H locs hP hD hS => ?_)
        obtain ⟨f_43, ef_43⟩ : ∃ g : Nat → Int32, g = va_cpy (Ml 2) (m_rr_4 2) (0 : Int32).toNatClampNeg (0 : Int32).toNatClampNeg vp.toNatClampNeg := ⟨_, rfl⟩
        refine pd_K (D := D) (cl := vwCl) (H := H) (A := A) [ob0_0_ xc xn xk clo cro c4 c5 c6 c7 c8, ob3_0_ xn vp vn n1 n2 n3 n4 n5, ai_ cy n2 40 fs, ai_ cy n3 40 fe, aq_ cy 6 clo 12 (gf_ rl), ai_ cy (rl 0) 12 (Ml 0), ai_ cy (rl 1) 12 (Ml 1), ai_ cy (rl 2) 12 (Ml 2), ai_ cy (rl 3) 12 (Ml 3), ai_ cy (rl 4) 12 (Ml 4), ai_ cy (rl 5) 12 (Ml 5), ai_ cy (rl 6) 12 (Ml 6), ai_ cy (rl 7) 12 (Ml 7), ai_ cy (rl 8) 12 (Ml 8), ai_ cy (rl 9) 12 (Ml 9), ai_ cy (rl 10) 12 (Ml 10), ai_ cy (rl 11) 12 (Ml 11), aq_ cy 6 cro 12 (gf_ rr), ai_ cy (rr 0) 12 (m_rr_4 0), ai_ cy (rr 1) 12 (m_rr_4 1), ai_ cy (rr 2) 12 f_43, ai_ cy (rr 3) 12 (m_rr_4 3), ai_ cy (rr 4) 12 (m_rr_4 4), ai_ cy (rr 5) 12 (m_rr_4 5), ai_ cy (rr 6) 12 (m_rr_4 6), ai_ cy (rr 7) 12 (m_rr_4 7), ai_ cy (rr 8) 12 (m_rr_4 8), ai_ cy (rr 9) 12 (m_rr_4 9), ai_ cy (rr 10) 12 (m_rr_4 10), ai_ cy (rr 11) 12 (m_rr_4 11), ai_ cy c4 40 e1_2, ai_ cy c5 40 f5, ai_ cy c6 40 f6, ai_ cy c7 12 f7, ai_ cy c8 12 f8] (by rw [ef_43]; exact hP) (by rw [ef_43]; exact hD) (fun hP hD => ?_)
        obtain ⟨M_44, eM_44⟩ : ∃ g : Nat → Nat → Int32, g = va_up m_rr_4 2 f_43 := ⟨_, rfl⟩
        refine pd_K (D := D) (cl := vwCl) (H := H) (A := A) [ob0_0_ xc xn xk clo cro c4 c5 c6 c7 c8, ob3_0_ xn vp vn n1 n2 n3 n4 n5, ai_ cy n2 40 fs, ai_ cy n3 40 fe, aq_ cy 6 clo 12 (gf_ rl), ai_ cy (rl 0) 12 (Ml 0), ai_ cy (rl 1) 12 (Ml 1), ai_ cy (rl 2) 12 (Ml 2), ai_ cy (rl 3) 12 (Ml 3), ai_ cy (rl 4) 12 (Ml 4), ai_ cy (rl 5) 12 (Ml 5), ai_ cy (rl 6) 12 (Ml 6), ai_ cy (rl 7) 12 (Ml 7), ai_ cy (rl 8) 12 (Ml 8), ai_ cy (rl 9) 12 (Ml 9), ai_ cy (rl 10) 12 (Ml 10), ai_ cy (rl 11) 12 (Ml 11), aq_ cy 6 cro 12 (gf_ rr), ai_ cy (rr 0) 12 (M_44 0), ai_ cy (rr 1) 12 (M_44 1), ai_ cy (rr 2) 12 (M_44 2), ai_ cy (rr 3) 12 (M_44 3), ai_ cy (rr 4) 12 (M_44 4), ai_ cy (rr 5) 12 (M_44 5), ai_ cy (rr 6) 12 (M_44 6), ai_ cy (rr 7) 12 (M_44 7), ai_ cy (rr 8) 12 (M_44 8), ai_ cy (rr 9) 12 (M_44 9), ai_ cy (rr 10) 12 (M_44 10), ai_ cy (rr 11) 12 (M_44 11), ai_ cy c4 40 e1_2, ai_ cy c5 40 f5, ai_ cy c6 40 f6, ai_ cy c7 12 f7, ai_ cy c8 12 f8] (by rw [eM_44]; exact hP) (by rw [eM_44]; exact hD) (fun hP hD => ?_)
        obtain ⟨y_45, ey_45⟩ : ∃ y : Int32, y = (2 : Int32) + 1 := ⟨_, rfl⟩
        have ty_45 : y_45.toInt = (2 : Int32).toInt + (1 : Int32).toInt := by rw [ey_45]; exact addI (by omega) (by omega)
        refine lv_iinc (v := y_45) (lv' := [(3, .int y_45), (0, .ref xc), (1, .int a1), (2, .int a2)]) hx hb dB_36_0_5.2.1.1.2 hl (k := 0) rfl (by rw [ey_45]; rfl) (by decide) rfl (fun ls hl => ?_)
        refine lv_goto (tgt := 10) hx hb dB_36_0_5.2.1.2.1 (by decide) ?_
        exact ih_4 y_45 M_44 _ _ _ (by omega) (by first | with_reducible assumption | omega | assumption) (by first | with_reducible assumption | omega | assumption) ⟨hP, hD⟩ hS (lv_sub hl [0, 1, 2, 3] rfl)
      · refine lv_aload_n hx hb dB_36_0_4.2.1.2.2 rfl (lv_at hl 1 rfl) ?_
        refine va_get (ci := 0) (v := .ref clo) (C := RX0) (T := TX0) (N := 9) hx hb hts (fun _ h => List.mem_cons_of_mem _ (List.mem_append_left _ (List.mem_append_right _ h))) hown hK.1 hP 0 rfl rfl 2 (by decide) (hts (.fieldLink RX0 11 "CutAtlas$Current" "lets" "[[I") (List.mem_of_getElem? (i := 4) rfl)) (fun _ h9 => h9) rfl dB_36_0_4.2.2.1.1 ?_
        refine lv_iload_n hx hb dB_36_0_4.2.2.1.2 rfl (lv_at hl 0 rfl) ?_
        have h_46 : vp_in (3 : Int32) 12 := by unfold vp_in; decide
        refine va_alda hx hb hG hP 4 rfl (i := 3) h_46 dB_36_0_4.2.2.2.1 ?_
        refine lv_topv (v' := .ref (rl 3)) (gf_at h_46) ?_
        refine lv_iconst (v := 0) hx hb dB_36_0_4.2.2.2.2 (by decide) ?_
        refine lv_aload_n hx hb dB_36_0_5.1.1.1.1 rfl (lv_at hl 1 rfl) ?_
        refine va_get (ci := 0) (v := .ref cro) (C := RX0) (T := TX0) (N := 9) hx hb hts (fun _ h => List.mem_cons_of_mem _ (List.mem_append_left _ (List.mem_append_right _ h))) hown hK.1 hP 0 rfl rfl 3 (by decide) (hts (.fieldLink RX0 16 "CutAtlas$Current" "room" "[[I") (List.mem_of_getElem? (i := 5) rfl)) (fun _ h9 => h9) rfl dB_36_0_5.1.1.1.2 ?_
        refine lv_iload_n hx hb dB_36_0_5.1.1.2.1 rfl (lv_at hl 0 rfl) ?_
        refine va_alda hx hb hG hP 17 rfl (i := 3) h_46 dB_36_0_5.1.1.2.2 ?_
        refine lv_topv (v' := .ref (rr 3)) (gf_at h_46) ?_
        refine lv_iconst (v := 0) hx hb dB_36_0_5.1.2.1.1 (by decide) ?_
        refine lv_aload_n hx hb dB_36_0_5.1.2.1.2 rfl (lv_at hl 1 rfl) ?_
        refine va_get (ci := 0) (v := .ref xn) (C := RX0) (T := TX0) (N := 9) hx hb hts (fun _ h => List.mem_cons_of_mem _ (List.mem_append_left _ (List.mem_append_right _ h))) hown hK.1 hP 0 rfl rfl 0 (by decide) (hts (.fieldLink RX0 35 "CutAtlas$Current" "net" "LCutAtlas$Net;") (List.mem_of_getElem? (i := 2) rfl)) (fun _ h9 => h9) rfl dB_36_0_5.1.2.2.1 ?_
        refine va_get (ci := 3) (v := .int vp) (C := RX3) (T := TX3) (N := 7) hx hb hts (fun _ h => List.mem_cons_of_mem _ (List.mem_append_right _ h)) hown hK.1 hP 1 rfl rfl 0 (by decide) (hts (.fieldLink RX0 43 "CutAtlas$Net" "places" "I") (List.mem_of_getElem? (i := 3) rfl)) (fun _ h9 => h9) rfl dB_36_0_5.1.2.2.2 ?_
        have cl_48 := clI (i := (0 : Int32)) (by omega)
        have cl_49 := clI (i := vp) (by omega)
        refine va_copyi hx hb (by rw [hml]; exact hl.1.symm) hown (hts (.methodLink RX0 83 arraycopyName) (List.mem_of_getElem? (i := 6) rfl)) (hts (.native arraycopyName) (List.mem_of_getElem? (i := 7) rfl)) (hts (.static arraycopyName) (List.mem_of_getElem? (i := 8) rfl)) (hts (.initialized "java/lang/System") (List.mem_of_getElem? (i := 9) rfl)) hK.1 hP hD hS 8 21 0 0 rfl rfl rfl rfl rfl (sp := (0 : Int32)) (dp := (0 : Int32)) (n := vp) (nneg (by omega)) (nneg (by omega)) (nneg (by omega)) (by omega) (by omega) (fun i h => rfl) (Nat.le_of_ble_eq_true rfl) (Nat.le_of_ble_eq_true rfl) dB_36_0_5.2.1.1.1 (fun H locs hP hD hS => ?_)
        obtain ⟨f_50, ef_50⟩ : ∃ g : Nat → Int32, g = va_cpy (Ml 3) (m_rr_4 3) (0 : Int32).toNatClampNeg (0 : Int32).toNatClampNeg vp.toNatClampNeg := ⟨_, rfl⟩
        refine pd_K (D := D) (cl := vwCl) (H := H) (A := A) [ob0_0_ xc xn xk clo cro c4 c5 c6 c7 c8, ob3_0_ xn vp vn n1 n2 n3 n4 n5, ai_ cy n2 40 fs, ai_ cy n3 40 fe, aq_ cy 6 clo 12 (gf_ rl), ai_ cy (rl 0) 12 (Ml 0), ai_ cy (rl 1) 12 (Ml 1), ai_ cy (rl 2) 12 (Ml 2), ai_ cy (rl 3) 12 (Ml 3), ai_ cy (rl 4) 12 (Ml 4), ai_ cy (rl 5) 12 (Ml 5), ai_ cy (rl 6) 12 (Ml 6), ai_ cy (rl 7) 12 (Ml 7), ai_ cy (rl 8) 12 (Ml 8), ai_ cy (rl 9) 12 (Ml 9), ai_ cy (rl 10) 12 (Ml 10), ai_ cy (rl 11) 12 (Ml 11), aq_ cy 6 cro 12 (gf_ rr), ai_ cy (rr 0) 12 (m_rr_4 0), ai_ cy (rr 1) 12 (m_rr_4 1), ai_ cy (rr 2) 12 (m_rr_4 2), ai_ cy (rr 3) 12 f_50, ai_ cy (rr 4) 12 (m_rr_4 4), ai_ cy (rr 5) 12 (m_rr_4 5), ai_ cy (rr 6) 12 (m_rr_4 6), ai_ cy (rr 7) 12 (m_rr_4 7), ai_ cy (rr 8) 12 (m_rr_4 8), ai_ cy (rr 9) 12 (m_rr_4 9), ai_ cy (rr 10) 12 (m_rr_4 10), ai_ cy (rr 11) 12 (m_rr_4 11), ai_ cy c4 40 e1_2, ai_ cy c5 40 f5, ai_ cy c6 40 f6, ai_ cy c7 12 f7, ai_ cy c8 12 f8] (by rw [ef_50]; exact hP) (by rw [ef_50]; exact hD) (fun hP hD => ?_)
        obtain ⟨M_51, eM_51⟩ : ∃ g : Nat → Nat → Int32, g = va_up m_rr_4 3 f_50 := ⟨_, rfl⟩
        refine pd_K (D := D) (cl := vwCl) (H := H) (A := A) [ob0_0_ xc xn xk clo cro c4 c5 c6 c7 c8, ob3_0_ xn vp vn n1 n2 n3 n4 n5, ai_ cy n2 40 fs, ai_ cy n3 40 fe, aq_ cy 6 clo 12 (gf_ rl), ai_ cy (rl 0) 12 (Ml 0), ai_ cy (rl 1) 12 (Ml 1), ai_ cy (rl 2) 12 (Ml 2), ai_ cy (rl 3) 12 (Ml 3), ai_ cy (rl 4) 12 (Ml 4), ai_ cy (rl 5) 12 (Ml 5), ai_ cy (rl 6) 12 (Ml 6), ai_ cy (rl 7) 12 (Ml 7), ai_ cy (rl 8) 12 (Ml 8), ai_ cy (rl 9) 12 (Ml 9), ai_ cy (rl 10) 12 (Ml 10), ai_ cy (rl 11) 12 (Ml 11), aq_ cy 6 cro 12 (gf_ rr), ai_ cy (rr 0) 12 (M_51 0), ai_ cy (rr 1) 12 (M_51 1), ai_ cy (rr 2) 12 (M_51 2), ai_ cy (rr 3) 12 (M_51 3), ai_ cy (rr 4) 12 (M_51 4), ai_ cy (rr 5) 12 (M_51 5), ai_ cy (rr 6) 12 (M_51 6), ai_ cy (rr 7) 12 (M_51 7), ai_ cy (rr 8) 12 (M_51 8), ai_ cy (rr 9) 12 (M_51 9), ai_ cy (rr 10) 12 (M_51 10), ai_ cy (rr 11) 12 (M_51 11), ai_ cy c4 40 e1_2, ai_ cy c5 40 f5, ai_ cy c6 40 f6, ai_ cy c7 12 f7, ai_ cy c8 12 f8] (by rw [eM_51]; exact hP) (by rw [eM_51]; exact hD) (fun hP hD => ?_)
        obtain ⟨y_52, ey_52⟩ : ∃ y : Int32, y = (3 : Int32) + 1 := ⟨_, rfl⟩
        have ty_52 : y_52.toInt = (3 : Int32).toInt + (1 : Int32).toInt := by rw [ey_52]; exact addI (by omega) (by omega)
        refine lv_iinc (v := y_52) (lv' := [(3, .int y_52), (0, .ref xc), (1, .int a1), (2, .int a2)]) hx hb dB_36_0_5.2.1.1.2 hl (k := 0) rfl (by rw [ey_52]; rfl) (by decide) rfl (fun ls hl => ?_)
        refine lv_goto (tgt := 10) hx hb dB_36_0_5.2.1.2.1 (by decide) ?_
        exact ih_4 y_52 M_51 _ _ _ (by omega) (by first | with_reducible assumption | omega | assumption) (by first | with_reducible assumption | omega | assumption) ⟨hP, hD⟩ hS (lv_sub hl [0, 1, 2, 3] rfl)
      · refine lv_aload_n hx hb dB_36_0_4.2.1.2.2 rfl (lv_at hl 1 rfl) ?_
        refine va_get (ci := 0) (v := .ref clo) (C := RX0) (T := TX0) (N := 9) hx hb hts (fun _ h => List.mem_cons_of_mem _ (List.mem_append_left _ (List.mem_append_right _ h))) hown hK.1 hP 0 rfl rfl 2 (by decide) (hts (.fieldLink RX0 11 "CutAtlas$Current" "lets" "[[I") (List.mem_of_getElem? (i := 4) rfl)) (fun _ h9 => h9) rfl dB_36_0_4.2.2.1.1 ?_
        refine lv_iload_n hx hb dB_36_0_4.2.2.1.2 rfl (lv_at hl 0 rfl) ?_
        have h_53 : vp_in (4 : Int32) 12 := by unfold vp_in; decide
        refine va_alda hx hb hG hP 4 rfl (i := 4) h_53 dB_36_0_4.2.2.2.1 ?_
        refine lv_topv (v' := .ref (rl 4)) (gf_at h_53) ?_
        refine lv_iconst (v := 0) hx hb dB_36_0_4.2.2.2.2 (by decide) ?_
        refine lv_aload_n hx hb dB_36_0_5.1.1.1.1 rfl (lv_at hl 1 rfl) ?_
        refine va_get (ci := 0) (v := .ref cro) (C := RX0) (T := TX0) (N := 9) hx hb hts (fun _ h => List.mem_cons_of_mem _ (List.mem_append_left _ (List.mem_append_right _ h))) hown hK.1 hP 0 rfl rfl 3 (by decide) (hts (.fieldLink RX0 16 "CutAtlas$Current" "room" "[[I") (List.mem_of_getElem? (i := 5) rfl)) (fun _ h9 => h9) rfl dB_36_0_5.1.1.1.2 ?_
        refine lv_iload_n hx hb dB_36_0_5.1.1.2.1 rfl (lv_at hl 0 rfl) ?_
        refine va_alda hx hb hG hP 17 rfl (i := 4) h_53 dB_36_0_5.1.1.2.2 ?_
        refine lv_topv (v' := .ref (rr 4)) (gf_at h_53) ?_
        refine lv_iconst (v := 0) hx hb dB_36_0_5.1.2.1.1 (by decide) ?_
        refine lv_aload_n hx hb dB_36_0_5.1.2.1.2 rfl (lv_at hl 1 rfl) ?_
        refine va_get (ci := 0) (v := .ref xn) (C := RX0) (T := TX0) (N := 9) hx hb hts (fun _ h => List.mem_cons_of_mem _ (List.mem_append_left _ (List.mem_append_right _ h))) hown hK.1 hP 0 rfl rfl 0 (by decide) (hts (.fieldLink RX0 35 "CutAtlas$Current" "net" "LCutAtlas$Net;") (List.mem_of_getElem? (i := 2) rfl)) (fun _ h9 => h9) rfl dB_36_0_5.1.2.2.1 ?_
        refine va_get (ci := 3) (v := .int vp) (C := RX3) (T := TX3) (N := 7) hx hb hts (fun _ h => List.mem_cons_of_mem _ (List.mem_append_right _ h)) hown hK.1 hP 1 rfl rfl 0 (by decide) (hts (.fieldLink RX0 43 "CutAtlas$Net" "places" "I") (List.mem_of_getElem? (i := 3) rfl)) (fun _ h9 => h9) rfl dB_36_0_5.1.2.2.2 ?_
        have cl_55 := clI (i := (0 : Int32)) (by omega)
        have cl_56 := clI (i := vp) (by omega)
        refine va_copyi hx hb (by rw [hml]; exact hl.1.symm) hown (hts (.methodLink RX0 83 arraycopyName) (List.mem_of_getElem? (i := 6) rfl)) (hts (.native arraycopyName) (List.mem_of_getElem? (i := 7) rfl)) (hts (.static arraycopyName) (List.mem_of_getElem? (i := 8) rfl)) (hts (.initialized "java/lang/System") (List.mem_of_getElem? (i := 9) rfl)) hK.1 hP hD hS 9 22 0 0 rfl rfl rfl rfl rfl (sp := (0 : Int32)) (dp := (0 : Int32)) (n := vp) (nneg (by omega)) (nneg (by omega)) (nneg (by omega)) (by omega) (by omega) (fun i h => rfl) (Nat.le_of_ble_eq_true rfl) (Nat.le_of_ble_eq_true rfl) dB_36_0_5.2.1.1.1 (fun H locs hP hD hS => ?_)
        obtain ⟨f_57, ef_57⟩ : ∃ g : Nat → Int32, g = va_cpy (Ml 4) (m_rr_4 4) (0 : Int32).toNatClampNeg (0 : Int32).toNatClampNeg vp.toNatClampNeg := ⟨_, rfl⟩
        refine pd_K (D := D) (cl := vwCl) (H := H) (A := A) [ob0_0_ xc xn xk clo cro c4 c5 c6 c7 c8, ob3_0_ xn vp vn n1 n2 n3 n4 n5, ai_ cy n2 40 fs, ai_ cy n3 40 fe, aq_ cy 6 clo 12 (gf_ rl), ai_ cy (rl 0) 12 (Ml 0), ai_ cy (rl 1) 12 (Ml 1), ai_ cy (rl 2) 12 (Ml 2), ai_ cy (rl 3) 12 (Ml 3), ai_ cy (rl 4) 12 (Ml 4), ai_ cy (rl 5) 12 (Ml 5), ai_ cy (rl 6) 12 (Ml 6), ai_ cy (rl 7) 12 (Ml 7), ai_ cy (rl 8) 12 (Ml 8), ai_ cy (rl 9) 12 (Ml 9), ai_ cy (rl 10) 12 (Ml 10), ai_ cy (rl 11) 12 (Ml 11), aq_ cy 6 cro 12 (gf_ rr), ai_ cy (rr 0) 12 (m_rr_4 0), ai_ cy (rr 1) 12 (m_rr_4 1), ai_ cy (rr 2) 12 (m_rr_4 2), ai_ cy (rr 3) 12 (m_rr_4 3), ai_ cy (rr 4) 12 f_57, ai_ cy (rr 5) 12 (m_rr_4 5), ai_ cy (rr 6) 12 (m_rr_4 6), ai_ cy (rr 7) 12 (m_rr_4 7), ai_ cy (rr 8) 12 (m_rr_4 8), ai_ cy (rr 9) 12 (m_rr_4 9), ai_ cy (rr 10) 12 (m_rr_4 10), ai_ cy (rr 11) 12 (m_rr_4 11), ai_ cy c4 40 e1_2, ai_ cy c5 40 f5, ai_ cy c6 40 f6, ai_ cy c7 12 f7, ai_ cy c8 12 f8] (by rw [ef_57]; exact hP) (by rw [ef_57]; exact hD) (fun hP hD => ?_)
        obtain ⟨M_58, eM_58⟩ : ∃ g : Nat → Nat → Int32, g = va_up m_rr_4 4 f_57 := ⟨_, rfl⟩
        refine pd_K (D := D) (cl := vwCl) (H := H) (A := A) [ob0_0_ xc xn xk clo cro c4 c5 c6 c7 c8, ob3_0_ xn vp vn n1 n2 n3 n4 n5, ai_ cy n2 40 fs, ai_ cy n3 40 fe, aq_ cy 6 clo 12 (gf_ rl), ai_ cy (rl 0) 12 (Ml 0), ai_ cy (rl 1) 12 (Ml 1), ai_ cy (rl 2) 12 (Ml 2), ai_ cy (rl 3) 12 (Ml 3), ai_ cy (rl 4) 12 (Ml 4), ai_ cy (rl 5) 12 (Ml 5), ai_ cy (rl 6) 12 (Ml 6), ai_ cy (rl 7) 12 (Ml 7), ai_ cy (rl 8) 12 (Ml 8), ai_ cy (rl 9) 12 (Ml 9), ai_ cy (rl 10) 12 (Ml 10), ai_ cy (rl 11) 12 (Ml 11), aq_ cy 6 cro 12 (gf_ rr), ai_ cy (rr 0) 12 (M_58 0), ai_ cy (rr 1) 12 (M_58 1), ai_ cy (rr 2) 12 (M_58 2), ai_ cy (rr 3) 12 (M_58 3), ai_ cy (rr 4) 12 (M_58 4), ai_ cy (rr 5) 12 (M_58 5), ai_ cy (rr 6) 12 (M_58 6), ai_ cy (rr 7) 12 (M_58 7), ai_ cy (rr 8) 12 (M_58 8), ai_ cy (rr 9) 12 (M_58 9), ai_ cy (rr 10) 12 (M_58 10), ai_ cy (rr 11) 12 (M_58 11), ai_ cy c4 40 e1_2, ai_ cy c5 40 f5, ai_ cy c6 40 f6, ai_ cy c7 12 f7, ai_ cy c8 12 f8] (by rw [eM_58]; exact hP) (by rw [eM_58]; exact hD) (fun hP hD => ?_)
        obtain ⟨y_59, ey_59⟩ : ∃ y : Int32, y = (4 : Int32) + 1 := ⟨_, rfl⟩
        have ty_59 : y_59.toInt = (4 : Int32).toInt + (1 : Int32).toInt := by rw [ey_59]; exact addI (by omega) (by omega)
        refine lv_iinc (v := y_59) (lv' := [(3, .int y_59), (0, .ref xc), (1, .int a1), (2, .int a2)]) hx hb dB_36_0_5.2.1.1.2 hl (k := 0) rfl (by rw [ey_59]; rfl) (by decide) rfl (fun ls hl => ?_)
        refine lv_goto (tgt := 10) hx hb dB_36_0_5.2.1.2.1 (by decide) ?_
        exact ih_4 y_59 M_58 _ _ _ (by omega) (by first | with_reducible assumption | omega | assumption) (by first | with_reducible assumption | omega | assumption) ⟨hP, hD⟩ hS (lv_sub hl [0, 1, 2, 3] rfl)
      · refine lv_aload_n hx hb dB_36_0_4.2.1.2.2 rfl (lv_at hl 1 rfl) ?_
        refine va_get (ci := 0) (v := .ref clo) (C := RX0) (T := TX0) (N := 9) hx hb hts (fun _ h => List.mem_cons_of_mem _ (List.mem_append_left _ (List.mem_append_right _ h))) hown hK.1 hP 0 rfl rfl 2 (by decide) (hts (.fieldLink RX0 11 "CutAtlas$Current" "lets" "[[I") (List.mem_of_getElem? (i := 4) rfl)) (fun _ h9 => h9) rfl dB_36_0_4.2.2.1.1 ?_
        refine lv_iload_n hx hb dB_36_0_4.2.2.1.2 rfl (lv_at hl 0 rfl) ?_
        have h_60 : vp_in (5 : Int32) 12 := by unfold vp_in; decide
        refine va_alda hx hb hG hP 4 rfl (i := 5) h_60 dB_36_0_4.2.2.2.1 ?_
        refine lv_topv (v' := .ref (rl 5)) (gf_at h_60) ?_
        refine lv_iconst (v := 0) hx hb dB_36_0_4.2.2.2.2 (by decide) ?_
        refine lv_aload_n hx hb dB_36_0_5.1.1.1.1 rfl (lv_at hl 1 rfl) ?_
        refine va_get (ci := 0) (v := .ref cro) (C := RX0) (T := TX0) (N := 9) hx hb hts (fun _ h => List.mem_cons_of_mem _ (List.mem_append_left _ (List.mem_append_right _ h))) hown hK.1 hP 0 rfl rfl 3 (by decide) (hts (.fieldLink RX0 16 "CutAtlas$Current" "room" "[[I") (List.mem_of_getElem? (i := 5) rfl)) (fun _ h9 => h9) rfl dB_36_0_5.1.1.1.2 ?_
        refine lv_iload_n hx hb dB_36_0_5.1.1.2.1 rfl (lv_at hl 0 rfl) ?_
        refine va_alda hx hb hG hP 17 rfl (i := 5) h_60 dB_36_0_5.1.1.2.2 ?_
        refine lv_topv (v' := .ref (rr 5)) (gf_at h_60) ?_
        refine lv_iconst (v := 0) hx hb dB_36_0_5.1.2.1.1 (by decide) ?_
        refine lv_aload_n hx hb dB_36_0_5.1.2.1.2 rfl (lv_at hl 1 rfl) ?_
        refine va_get (ci := 0) (v := .ref xn) (C := RX0) (T := TX0) (N := 9) hx hb hts (fun _ h => List.mem_cons_of_mem _ (List.mem_append_left _ (List.mem_append_right _ h))) hown hK.1 hP 0 rfl rfl 0 (by decide) (hts (.fieldLink RX0 35 "CutAtlas$Current" "net" "LCutAtlas$Net;") (List.mem_of_getElem? (i := 2) rfl)) (fun _ h9 => h9) rfl dB_36_0_5.1.2.2.1 ?_
        refine va_get (ci := 3) (v := .int vp) (C := RX3) (T := TX3) (N := 7) hx hb hts (fun _ h => List.mem_cons_of_mem _ (List.mem_append_right _ h)) hown hK.1 hP 1 rfl rfl 0 (by decide) (hts (.fieldLink RX0 43 "CutAtlas$Net" "places" "I") (List.mem_of_getElem? (i := 3) rfl)) (fun _ h9 => h9) rfl dB_36_0_5.1.2.2.2 ?_
        have cl_62 := clI (i := (0 : Int32)) (by omega)
        have cl_63 := clI (i := vp) (by omega)
        refine va_copyi hx hb (by rw [hml]; exact hl.1.symm) hown (hts (.methodLink RX0 83 arraycopyName) (List.mem_of_getElem? (i := 6) rfl)) (hts (.native arraycopyName) (List.mem_of_getElem? (i := 7) rfl)) (hts (.static arraycopyName) (List.mem_of_getElem? (i := 8) rfl)) (hts (.initialized "java/lang/System") (List.mem_of_getElem? (i := 9) rfl)) hK.1 hP hD hS 10 23 0 0 rfl rfl rfl rfl rfl (sp := (0 : Int32)) (dp := (0 : Int32)) (n := vp) (nneg (by omega)) (nneg (by omega)) (nneg (by omega)) (by omega) (by omega) (fun i h => rfl) (Nat.le_of_ble_eq_true rfl) (Nat.le_of_ble_eq_true rfl) dB_36_0_5.2.1.1.1 (fun H locs hP hD hS => ?_)
        obtain ⟨f_64, ef_64⟩ : ∃ g : Nat → Int32, g = va_cpy (Ml 5) (m_rr_4 5) (0 : Int32).toNatClampNeg (0 : Int32).toNatClampNeg vp.toNatClampNeg := ⟨_, rfl⟩
        refine pd_K (D := D) (cl := vwCl) (H := H) (A := A) [ob0_0_ xc xn xk clo cro c4 c5 c6 c7 c8, ob3_0_ xn vp vn n1 n2 n3 n4 n5, ai_ cy n2 40 fs, ai_ cy n3 40 fe, aq_ cy 6 clo 12 (gf_ rl), ai_ cy (rl 0) 12 (Ml 0), ai_ cy (rl 1) 12 (Ml 1), ai_ cy (rl 2) 12 (Ml 2), ai_ cy (rl 3) 12 (Ml 3), ai_ cy (rl 4) 12 (Ml 4), ai_ cy (rl 5) 12 (Ml 5), ai_ cy (rl 6) 12 (Ml 6), ai_ cy (rl 7) 12 (Ml 7), ai_ cy (rl 8) 12 (Ml 8), ai_ cy (rl 9) 12 (Ml 9), ai_ cy (rl 10) 12 (Ml 10), ai_ cy (rl 11) 12 (Ml 11), aq_ cy 6 cro 12 (gf_ rr), ai_ cy (rr 0) 12 (m_rr_4 0), ai_ cy (rr 1) 12 (m_rr_4 1), ai_ cy (rr 2) 12 (m_rr_4 2), ai_ cy (rr 3) 12 (m_rr_4 3), ai_ cy (rr 4) 12 (m_rr_4 4), ai_ cy (rr 5) 12 f_64, ai_ cy (rr 6) 12 (m_rr_4 6), ai_ cy (rr 7) 12 (m_rr_4 7), ai_ cy (rr 8) 12 (m_rr_4 8), ai_ cy (rr 9) 12 (m_rr_4 9), ai_ cy (rr 10) 12 (m_rr_4 10), ai_ cy (rr 11) 12 (m_rr_4 11), ai_ cy c4 40 e1_2, ai_ cy c5 40 f5, ai_ cy c6 40 f6, ai_ cy c7 12 f7, ai_ cy c8 12 f8] (by rw [ef_64]; exact hP) (by rw [ef_64]; exact hD) (fun hP hD => ?_)
        obtain ⟨M_65, eM_65⟩ : ∃ g : Nat → Nat → Int32, g = va_up m_rr_4 5 f_64 := ⟨_, rfl⟩
        refine pd_K (D := D) (cl := vwCl) (H := H) (A := A) [ob0_0_ xc xn xk clo cro c4 c5 c6 c7 c8, ob3_0_ xn vp vn n1 n2 n3 n4 n5, ai_ cy n2 40 fs, ai_ cy n3 40 fe, aq_ cy 6 clo 12 (gf_ rl), ai_ cy (rl 0) 12 (Ml 0), ai_ cy (rl 1) 12 (Ml 1), ai_ cy (rl 2) 12 (Ml 2), ai_ cy (rl 3) 12 (Ml 3), ai_ cy (rl 4) 12 (Ml 4), ai_ cy (rl 5) 12 (Ml 5), ai_ cy (rl 6) 12 (Ml 6), ai_ cy (rl 7) 12 (Ml 7), ai_ cy (rl 8) 12 (Ml 8), ai_ cy (rl 9) 12 (Ml 9), ai_ cy (rl 10) 12 (Ml 10), ai_ cy (rl 11) 12 (Ml 11), aq_ cy 6 cro 12 (gf_ rr), ai_ cy (rr 0) 12 (M_65 0), ai_ cy (rr 1) 12 (M_65 1), ai_ cy (rr 2) 12 (M_65 2), ai_ cy (rr 3) 12 (M_65 3), ai_ cy (rr 4) 12 (M_65 4), ai_ cy (rr 5) 12 (M_65 5), ai_ cy (rr 6) 12 (M_65 6), ai_ cy (rr 7) 12 (M_65 7), ai_ cy (rr 8) 12 (M_65 8), ai_ cy (rr 9) 12 (M_65 9), ai_ cy (rr 10) 12 (M_65 10), ai_ cy (rr 11) 12 (M_65 11), ai_ cy c4 40 e1_2, ai_ cy c5 40 f5, ai_ cy c6 40 f6, ai_ cy c7 12 f7, ai_ cy c8 12 f8] (by rw [eM_65]; exact hP) (by rw [eM_65]; exact hD) (fun hP hD => ?_)
        obtain ⟨y_66, ey_66⟩ : ∃ y : Int32, y = (5 : Int32) + 1 := ⟨_, rfl⟩
        have ty_66 : y_66.toInt = (5 : Int32).toInt + (1 : Int32).toInt := by rw [ey_66]; exact addI (by omega) (by omega)
        refine lv_iinc (v := y_66) (lv' := [(3, .int y_66), (0, .ref xc), (1, .int a1), (2, .int a2)]) hx hb dB_36_0_5.2.1.1.2 hl (k := 0) rfl (by rw [ey_66]; rfl) (by decide) rfl (fun ls hl => ?_)
        refine lv_goto (tgt := 10) hx hb dB_36_0_5.2.1.2.1 (by decide) ?_
        exact ih_4 y_66 M_65 _ _ _ (by omega) (by first | with_reducible assumption | omega | assumption) (by first | with_reducible assumption | omega | assumption) ⟨hP, hD⟩ hS (lv_sub hl [0, 1, 2, 3] rfl)
      · refine lv_aload_n hx hb dB_36_0_4.2.1.2.2 rfl (lv_at hl 1 rfl) ?_
        refine va_get (ci := 0) (v := .ref clo) (C := RX0) (T := TX0) (N := 9) hx hb hts (fun _ h => List.mem_cons_of_mem _ (List.mem_append_left _ (List.mem_append_right _ h))) hown hK.1 hP 0 rfl rfl 2 (by decide) (hts (.fieldLink RX0 11 "CutAtlas$Current" "lets" "[[I") (List.mem_of_getElem? (i := 4) rfl)) (fun _ h9 => h9) rfl dB_36_0_4.2.2.1.1 ?_
        refine lv_iload_n hx hb dB_36_0_4.2.2.1.2 rfl (lv_at hl 0 rfl) ?_
        have h_67 : vp_in (6 : Int32) 12 := by unfold vp_in; decide
        refine va_alda hx hb hG hP 4 rfl (i := 6) h_67 dB_36_0_4.2.2.2.1 ?_
        refine lv_topv (v' := .ref (rl 6)) (gf_at h_67) ?_
        refine lv_iconst (v := 0) hx hb dB_36_0_4.2.2.2.2 (by decide) ?_
        refine lv_aload_n hx hb dB_36_0_5.1.1.1.1 rfl (lv_at hl 1 rfl) ?_
        refine va_get (ci := 0) (v := .ref cro) (C := RX0) (T := TX0) (N := 9) hx hb hts (fun _ h => List.mem_cons_of_mem _ (List.mem_append_left _ (List.mem_append_right _ h))) hown hK.1 hP 0 rfl rfl 3 (by decide) (hts (.fieldLink RX0 16 "CutAtlas$Current" "room" "[[I") (List.mem_of_getElem? (i := 5) rfl)) (fun _ h9 => h9) rfl dB_36_0_5.1.1.1.2 ?_
        refine lv_iload_n hx hb dB_36_0_5.1.1.2.1 rfl (lv_at hl 0 rfl) ?_
        refine va_alda hx hb hG hP 17 rfl (i := 6) h_67 dB_36_0_5.1.1.2.2 ?_
        refine lv_topv (v' := .ref (rr 6)) (gf_at h_67) ?_
        refine lv_iconst (v := 0) hx hb dB_36_0_5.1.2.1.1 (by decide) ?_
        refine lv_aload_n hx hb dB_36_0_5.1.2.1.2 rfl (lv_at hl 1 rfl) ?_
        refine va_get (ci := 0) (v := .ref xn) (C := RX0) (T := TX0) (N := 9) hx hb hts (fun _ h => List.mem_cons_of_mem _ (List.mem_append_left _ (List.mem_append_right _ h))) hown hK.1 hP 0 rfl rfl 0 (by decide) (hts (.fieldLink RX0 35 "CutAtlas$Current" "net" "LCutAtlas$Net;") (List.mem_of_getElem? (i := 2) rfl)) (fun _ h9 => h9) rfl dB_36_0_5.1.2.2.1 ?_
        refine va_get (ci := 3) (v := .int vp) (C := RX3) (T := TX3) (N := 7) hx hb hts (fun _ h => List.mem_cons_of_mem _ (List.mem_append_right _ h)) hown hK.1 hP 1 rfl rfl 0 (by decide) (hts (.fieldLink RX0 43 "CutAtlas$Net" "places" "I") (List.mem_of_getElem? (i := 3) rfl)) (fun _ h9 => h9) rfl dB_36_0_5.1.2.2.2 ?_
        have cl_69 := clI (i := (0 : Int32)) (by omega)
        have cl_70 := clI (i := vp) (by omega)
        refine va_copyi hx hb (by rw [hml]; exact hl.1.symm) hown (hts (.methodLink RX0 83 arraycopyName) (List.mem_of_getElem? (i := 6) rfl)) (hts (.native arraycopyName) (List.mem_of_getElem? (i := 7) rfl)) (hts (.static arraycopyName) (List.mem_of_getElem? (i := 8) rfl)) (hts (.initialized "java/lang/System") (List.mem_of_getElem? (i := 9) rfl)) hK.1 hP hD hS 11 24 0 0 rfl rfl rfl rfl rfl (sp := (0 : Int32)) (dp := (0 : Int32)) (n := vp) (nneg (by omega)) (nneg (by omega)) (nneg (by omega)) (by omega) (by omega) (fun i h => rfl) (Nat.le_of_ble_eq_true rfl) (Nat.le_of_ble_eq_true rfl) dB_36_0_5.2.1.1.1 (fun H locs hP hD hS => ?_)
        obtain ⟨f_71, ef_71⟩ : ∃ g : Nat → Int32, g = va_cpy (Ml 6) (m_rr_4 6) (0 : Int32).toNatClampNeg (0 : Int32).toNatClampNeg vp.toNatClampNeg := ⟨_, rfl⟩
        refine pd_K (D := D) (cl := vwCl) (H := H) (A := A) [ob0_0_ xc xn xk clo cro c4 c5 c6 c7 c8, ob3_0_ xn vp vn n1 n2 n3 n4 n5, ai_ cy n2 40 fs, ai_ cy n3 40 fe, aq_ cy 6 clo 12 (gf_ rl), ai_ cy (rl 0) 12 (Ml 0), ai_ cy (rl 1) 12 (Ml 1), ai_ cy (rl 2) 12 (Ml 2), ai_ cy (rl 3) 12 (Ml 3), ai_ cy (rl 4) 12 (Ml 4), ai_ cy (rl 5) 12 (Ml 5), ai_ cy (rl 6) 12 (Ml 6), ai_ cy (rl 7) 12 (Ml 7), ai_ cy (rl 8) 12 (Ml 8), ai_ cy (rl 9) 12 (Ml 9), ai_ cy (rl 10) 12 (Ml 10), ai_ cy (rl 11) 12 (Ml 11), aq_ cy 6 cro 12 (gf_ rr), ai_ cy (rr 0) 12 (m_rr_4 0), ai_ cy (rr 1) 12 (m_rr_4 1), ai_ cy (rr 2) 12 (m_rr_4 2), ai_ cy (rr 3) 12 (m_rr_4 3), ai_ cy (rr 4) 12 (m_rr_4 4), ai_ cy (rr 5) 12 (m_rr_4 5), ai_ cy (rr 6) 12 f_71, ai_ cy (rr 7) 12 (m_rr_4 7), ai_ cy (rr 8) 12 (m_rr_4 8), ai_ cy (rr 9) 12 (m_rr_4 9), ai_ cy (rr 10) 12 (m_rr_4 10), ai_ cy (rr 11) 12 (m_rr_4 11), ai_ cy c4 40 e1_2, ai_ cy c5 40 f5, ai_ cy c6 40 f6, ai_ cy c7 12 f7, ai_ cy c8 12 f8] (by rw [ef_71]; exact hP) (by rw [ef_71]; exact hD) (fun hP hD => ?_)
        obtain ⟨M_72, eM_72⟩ : ∃ g : Nat → Nat → Int32, g = va_up m_rr_4 6 f_71 := ⟨_, rfl⟩
        refine pd_K (D := D) (cl := vwCl) (H := H) (A := A) [ob0_0_ xc xn xk clo cro c4 c5 c6 c7 c8, ob3_0_ xn vp vn n1 n2 n3 n4 n5, ai_ cy n2 40 fs, ai_ cy n3 40 fe, aq_ cy 6 clo 12 (gf_ rl), ai_ cy (rl 0) 12 (Ml 0), ai_ cy (rl 1) 12 (Ml 1), ai_ cy (rl 2) 12 (Ml 2), ai_ cy (rl 3) 12 (Ml 3), ai_ cy (rl 4) 12 (Ml 4), ai_ cy (rl 5) 12 (Ml 5), ai_ cy (rl 6) 12 (Ml 6), ai_ cy (rl 7) 12 (Ml 7), ai_ cy (rl 8) 12 (Ml 8), ai_ cy (rl 9) 12 (Ml 9), ai_ cy (rl 10) 12 (Ml 10), ai_ cy (rl 11) 12 (Ml 11), aq_ cy 6 cro 12 (gf_ rr), ai_ cy (rr 0) 12 (M_72 0), ai_ cy (rr 1) 12 (M_72 1), ai_ cy (rr 2) 12 (M_72 2), ai_ cy (rr 3) 12 (M_72 3), ai_ cy (rr 4) 12 (M_72 4), ai_ cy (rr 5) 12 (M_72 5), ai_ cy (rr 6) 12 (M_72 6), ai_ cy (rr 7) 12 (M_72 7), ai_ cy (rr 8) 12 (M_72 8), ai_ cy (rr 9) 12 (M_72 9), ai_ cy (rr 10) 12 (M_72 10), ai_ cy (rr 11) 12 (M_72 11), ai_ cy c4 40 e1_2, ai_ cy c5 40 f5, ai_ cy c6 40 f6, ai_ cy c7 12 f7, ai_ cy c8 12 f8] (by rw [eM_72]; exact hP) (by rw [eM_72]; exact hD) (fun hP hD => ?_)
        obtain ⟨y_73, ey_73⟩ : ∃ y : Int32, y = (6 : Int32) + 1 := ⟨_, rfl⟩
        have ty_73 : y_73.toInt = (6 : Int32).toInt + (1 : Int32).toInt := by rw [ey_73]; exact addI (by omega) (by omega)
        refine lv_iinc (v := y_73) (lv' := [(3, .int y_73), (0, .ref xc), (1, .int a1), (2, .int a2)]) hx hb dB_36_0_5.2.1.1.2 hl (k := 0) rfl (by rw [ey_73]; rfl) (by decide) rfl (fun ls hl => ?_)
        refine lv_goto (tgt := 10) hx hb dB_36_0_5.2.1.2.1 (by decide) ?_
        exact ih_4 y_73 M_72 _ _ _ (by omega) (by first | with_reducible assumption | omega | assumption) (by first | with_reducible assumption | omega | assumption) ⟨hP, hD⟩ hS (lv_sub hl [0, 1, 2, 3] rfl)
      · refine lv_aload_n hx hb dB_36_0_4.2.1.2.2 rfl (lv_at hl 1 rfl) ?_
        refine va_get (ci := 0) (v := .ref clo) (C := RX0) (T := TX0) (N := 9) hx hb hts (fun _ h => List.mem_cons_of_mem _ (List.mem_append_left _ (List.mem_append_right _ h))) hown hK.1 hP 0 rfl rfl 2 (by decide) (hts (.fieldLink RX0 11 "CutAtlas$Current" "lets" "[[I") (List.mem_of_getElem? (i := 4) rfl)) (fun _ h9 => h9) rfl dB_36_0_4.2.2.1.1 ?_
        refine lv_iload_n hx hb dB_36_0_4.2.2.1.2 rfl (lv_at hl 0 rfl) ?_
        have h_74 : vp_in (7 : Int32) 12 := by unfold vp_in; decide
        refine va_alda hx hb hG hP 4 rfl (i := 7) h_74 dB_36_0_4.2.2.2.1 ?_
        refine lv_topv (v' := .ref (rl 7)) (gf_at h_74) ?_
        refine lv_iconst (v := 0) hx hb dB_36_0_4.2.2.2.2 (by decide) ?_
        refine lv_aload_n hx hb dB_36_0_5.1.1.1.1 rfl (lv_at hl 1 rfl) ?_
        refine va_get (ci := 0) (v := .ref cro) (C := RX0) (T := TX0) (N := 9) hx hb hts (fun _ h => List.mem_cons_of_mem _ (List.mem_append_left _ (List.mem_append_right _ h))) hown hK.1 hP 0 rfl rfl 3 (by decide) (hts (.fieldLink RX0 16 "CutAtlas$Current" "room" "[[I") (List.mem_of_getElem? (i := 5) rfl)) (fun _ h9 => h9) rfl dB_36_0_5.1.1.1.2 ?_
        refine lv_iload_n hx hb dB_36_0_5.1.1.2.1 rfl (lv_at hl 0 rfl) ?_
        refine va_alda hx hb hG hP 17 rfl (i := 7) h_74 dB_36_0_5.1.1.2.2 ?_
        refine lv_topv (v' := .ref (rr 7)) (gf_at h_74) ?_
        refine lv_iconst (v := 0) hx hb dB_36_0_5.1.2.1.1 (by decide) ?_
        refine lv_aload_n hx hb dB_36_0_5.1.2.1.2 rfl (lv_at hl 1 rfl) ?_
        refine va_get (ci := 0) (v := .ref xn) (C := RX0) (T := TX0) (N := 9) hx hb hts (fun _ h => List.mem_cons_of_mem _ (List.mem_append_left _ (List.mem_append_right _ h))) hown hK.1 hP 0 rfl rfl 0 (by decide) (hts (.fieldLink RX0 35 "CutAtlas$Current" "net" "LCutAtlas$Net;") (List.mem_of_getElem? (i := 2) rfl)) (fun _ h9 => h9) rfl dB_36_0_5.1.2.2.1 ?_
        refine va_get (ci := 3) (v := .int vp) (C := RX3) (T := TX3) (N := 7) hx hb hts (fun _ h => List.mem_cons_of_mem _ (List.mem_append_right _ h)) hown hK.1 hP 1 rfl rfl 0 (by decide) (hts (.fieldLink RX0 43 "CutAtlas$Net" "places" "I") (List.mem_of_getElem? (i := 3) rfl)) (fun _ h9 => h9) rfl dB_36_0_5.1.2.2.2 ?_
        have cl_76 := clI (i := (0 : Int32)) (by omega)
        have cl_77 := clI (i := vp) (by omega)
        refine va_copyi hx hb (by rw [hml]; exact hl.1.symm) hown (hts (.methodLink RX0 83 arraycopyName) (List.mem_of_getElem? (i := 6) rfl)) (hts (.native arraycopyName) (List.mem_of_getElem? (i := 7) rfl)) (hts (.static arraycopyName) (List.mem_of_getElem? (i := 8) rfl)) (hts (.initialized "java/lang/System") (List.mem_of_getElem? (i := 9) rfl)) hK.1 hP hD hS 12 25 0 0 rfl rfl rfl rfl rfl (sp := (0 : Int32)) (dp := (0 : Int32)) (n := vp) (nneg (by omega)) (nneg (by omega)) (nneg (by omega)) (by omega) (by omega) (fun i h => rfl) (Nat.le_of_ble_eq_true rfl) (Nat.le_of_ble_eq_true rfl) dB_36_0_5.2.1.1.1 (fun H locs hP hD hS => ?_)
        obtain ⟨f_78, ef_78⟩ : ∃ g : Nat → Int32, g = va_cpy (Ml 7) (m_rr_4 7) (0 : Int32).toNatClampNeg (0 : Int32).toNatClampNeg vp.toNatClampNeg := ⟨_, rfl⟩
        refine pd_K (D := D) (cl := vwCl) (H := H) (A := A) [ob0_0_ xc xn xk clo cro c4 c5 c6 c7 c8, ob3_0_ xn vp vn n1 n2 n3 n4 n5, ai_ cy n2 40 fs, ai_ cy n3 40 fe, aq_ cy 6 clo 12 (gf_ rl), ai_ cy (rl 0) 12 (Ml 0), ai_ cy (rl 1) 12 (Ml 1), ai_ cy (rl 2) 12 (Ml 2), ai_ cy (rl 3) 12 (Ml 3), ai_ cy (rl 4) 12 (Ml 4), ai_ cy (rl 5) 12 (Ml 5), ai_ cy (rl 6) 12 (Ml 6), ai_ cy (rl 7) 12 (Ml 7), ai_ cy (rl 8) 12 (Ml 8), ai_ cy (rl 9) 12 (Ml 9), ai_ cy (rl 10) 12 (Ml 10), ai_ cy (rl 11) 12 (Ml 11), aq_ cy 6 cro 12 (gf_ rr), ai_ cy (rr 0) 12 (m_rr_4 0), ai_ cy (rr 1) 12 (m_rr_4 1), ai_ cy (rr 2) 12 (m_rr_4 2), ai_ cy (rr 3) 12 (m_rr_4 3), ai_ cy (rr 4) 12 (m_rr_4 4), ai_ cy (rr 5) 12 (m_rr_4 5), ai_ cy (rr 6) 12 (m_rr_4 6), ai_ cy (rr 7) 12 f_78, ai_ cy (rr 8) 12 (m_rr_4 8), ai_ cy (rr 9) 12 (m_rr_4 9), ai_ cy (rr 10) 12 (m_rr_4 10), ai_ cy (rr 11) 12 (m_rr_4 11), ai_ cy c4 40 e1_2, ai_ cy c5 40 f5, ai_ cy c6 40 f6, ai_ cy c7 12 f7, ai_ cy c8 12 f8] (by rw [ef_78]; exact hP) (by rw [ef_78]; exact hD) (fun hP hD => ?_)
        obtain ⟨M_79, eM_79⟩ : ∃ g : Nat → Nat → Int32, g = va_up m_rr_4 7 f_78 := ⟨_, rfl⟩
        refine pd_K (D := D) (cl := vwCl) (H := H) (A := A) [ob0_0_ xc xn xk clo cro c4 c5 c6 c7 c8, ob3_0_ xn vp vn n1 n2 n3 n4 n5, ai_ cy n2 40 fs, ai_ cy n3 40 fe, aq_ cy 6 clo 12 (gf_ rl), ai_ cy (rl 0) 12 (Ml 0), ai_ cy (rl 1) 12 (Ml 1), ai_ cy (rl 2) 12 (Ml 2), ai_ cy (rl 3) 12 (Ml 3), ai_ cy (rl 4) 12 (Ml 4), ai_ cy (rl 5) 12 (Ml 5), ai_ cy (rl 6) 12 (Ml 6), ai_ cy (rl 7) 12 (Ml 7), ai_ cy (rl 8) 12 (Ml 8), ai_ cy (rl 9) 12 (Ml 9), ai_ cy (rl 10) 12 (Ml 10), ai_ cy (rl 11) 12 (Ml 11), aq_ cy 6 cro 12 (gf_ rr), ai_ cy (rr 0) 12 (M_79 0), ai_ cy (rr 1) 12 (M_79 1), ai_ cy (rr 2) 12 (M_79 2), ai_ cy (rr 3) 12 (M_79 3), ai_ cy (rr 4) 12 (M_79 4), ai_ cy (rr 5) 12 (M_79 5), ai_ cy (rr 6) 12 (M_79 6), ai_ cy (rr 7) 12 (M_79 7), ai_ cy (rr 8) 12 (M_79 8), ai_ cy (rr 9) 12 (M_79 9), ai_ cy (rr 10) 12 (M_79 10), ai_ cy (rr 11) 12 (M_79 11), ai_ cy c4 40 e1_2, ai_ cy c5 40 f5, ai_ cy c6 40 f6, ai_ cy c7 12 f7, ai_ cy c8 12 f8] (by rw [eM_79]; exact hP) (by rw [eM_79]; exact hD) (fun hP hD => ?_)
        obtain ⟨y_80, ey_80⟩ : ∃ y : Int32, y = (7 : Int32) + 1 := ⟨_, rfl⟩
        have ty_80 : y_80.toInt = (7 : Int32).toInt + (1 : Int32).toInt := by rw [ey_80]; exact addI (by omega) (by omega)
        refine lv_iinc (v := y_80) (lv' := [(3, .int y_80), (0, .ref xc), (1, .int a1), (2, .int a2)]) hx hb dB_36_0_5.2.1.1.2 hl (k := 0) rfl (by rw [ey_80]; rfl) (by decide) rfl (fun ls hl => ?_)
        refine lv_goto (tgt := 10) hx hb dB_36_0_5.2.1.2.1 (by decide) ?_
        exact ih_4 y_80 M_79 _ _ _ (by omega) (by first | with_reducible assumption | omega | assumption) (by first | with_reducible assumption | omega | assumption) ⟨hP, hD⟩ hS (lv_sub hl [0, 1, 2, 3] rfl)
      · refine lv_aload_n hx hb dB_36_0_4.2.1.2.2 rfl (lv_at hl 1 rfl) ?_
        refine va_get (ci := 0) (v := .ref clo) (C := RX0) (T := TX0) (N := 9) hx hb hts (fun _ h => List.mem_cons_of_mem _ (List.mem_append_left _ (List.mem_append_right _ h))) hown hK.1 hP 0 rfl rfl 2 (by decide) (hts (.fieldLink RX0 11 "CutAtlas$Current" "lets" "[[I") (List.mem_of_getElem? (i := 4) rfl)) (fun _ h9 => h9) rfl dB_36_0_4.2.2.1.1 ?_
        refine lv_iload_n hx hb dB_36_0_4.2.2.1.2 rfl (lv_at hl 0 rfl) ?_
        have h_81 : vp_in (8 : Int32) 12 := by unfold vp_in; decide
        refine va_alda hx hb hG hP 4 rfl (i := 8) h_81 dB_36_0_4.2.2.2.1 ?_
        refine lv_topv (v' := .ref (rl 8)) (gf_at h_81) ?_
        refine lv_iconst (v := 0) hx hb dB_36_0_4.2.2.2.2 (by decide) ?_
        refine lv_aload_n hx hb dB_36_0_5.1.1.1.1 rfl (lv_at hl 1 rfl) ?_
        refine va_get (ci := 0) (v := .ref cro) (C := RX0) (T := TX0) (N := 9) hx hb hts (fun _ h => List.mem_cons_of_mem _ (List.mem_append_left _ (List.mem_append_right _ h))) hown hK.1 hP 0 rfl rfl 3 (by decide) (hts (.fieldLink RX0 16 "CutAtlas$Current" "room" "[[I") (List.mem_of_getElem? (i := 5) rfl)) (fun _ h9 => h9) rfl dB_36_0_5.1.1.1.2 ?_
        refine lv_iload_n hx hb dB_36_0_5.1.1.2.1 rfl (lv_at hl 0 rfl) ?_
        refine va_alda hx hb hG hP 17 rfl (i := 8) h_81 dB_36_0_5.1.1.2.2 ?_
        refine lv_topv (v' := .ref (rr 8)) (gf_at h_81) ?_
        refine lv_iconst (v := 0) hx hb dB_36_0_5.1.2.1.1 (by decide) ?_
        refine lv_aload_n hx hb dB_36_0_5.1.2.1.2 rfl (lv_at hl 1 rfl) ?_
        refine va_get (ci := 0) (v := .ref xn) (C := RX0) (T := TX0) (N := 9) hx hb hts (fun _ h => List.mem_cons_of_mem _ (List.mem_append_left _ (List.mem_append_right _ h))) hown hK.1 hP 0 rfl rfl 0 (by decide) (hts (.fieldLink RX0 35 "CutAtlas$Current" "net" "LCutAtlas$Net;") (List.mem_of_getElem? (i := 2) rfl)) (fun _ h9 => h9) rfl dB_36_0_5.1.2.2.1 ?_
        refine va_get (ci := 3) (v := .int vp) (C := RX3) (T := TX3) (N := 7) hx hb hts (fun _ h => List.mem_cons_of_mem _ (List.mem_append_right _ h)) hown hK.1 hP 1 rfl rfl 0 (by decide) (hts (.fieldLink RX0 43 "CutAtlas$Net" "places" "I") (List.mem_of_getElem? (i := 3) rfl)) (fun _ h9 => h9) rfl dB_36_0_5.1.2.2.2 ?_
        have cl_83 := clI (i := (0 : Int32)) (by omega)
        have cl_84 := clI (i := vp) (by omega)
        refine va_copyi hx hb (by rw [hml]; exact hl.1.symm) hown (hts (.methodLink RX0 83 arraycopyName) (List.mem_of_getElem? (i := 6) rfl)) (hts (.native arraycopyName) (List.mem_of_getElem? (i := 7) rfl)) (hts (.static arraycopyName) (List.mem_of_getElem? (i := 8) rfl)) (hts (.initialized "java/lang/System") (List.mem_of_getElem? (i := 9) rfl)) hK.1 hP hD hS 13 26 0 0 rfl rfl rfl rfl rfl (sp := (0 : Int32)) (dp := (0 : Int32)) (n := vp) (nneg (by omega)) (nneg (by omega)) (nneg (by omega)) (by omega) (by omega) (fun i h => rfl) (Nat.le_of_ble_eq_true rfl) (Nat.le_of_ble_eq_true rfl) dB_36_0_5.2.1.1.1 (fun H locs hP hD hS => ?_)
        obtain ⟨f_85, ef_85⟩ : ∃ g : Nat → Int32, g = va_cpy (Ml 8) (m_rr_4 8) (0 : Int32).toNatClampNeg (0 : Int32).toNatClampNeg vp.toNatClampNeg := ⟨_, rfl⟩
        refine pd_K (D := D) (cl := vwCl) (H := H) (A := A) [ob0_0_ xc xn xk clo cro c4 c5 c6 c7 c8, ob3_0_ xn vp vn n1 n2 n3 n4 n5, ai_ cy n2 40 fs, ai_ cy n3 40 fe, aq_ cy 6 clo 12 (gf_ rl), ai_ cy (rl 0) 12 (Ml 0), ai_ cy (rl 1) 12 (Ml 1), ai_ cy (rl 2) 12 (Ml 2), ai_ cy (rl 3) 12 (Ml 3), ai_ cy (rl 4) 12 (Ml 4), ai_ cy (rl 5) 12 (Ml 5), ai_ cy (rl 6) 12 (Ml 6), ai_ cy (rl 7) 12 (Ml 7), ai_ cy (rl 8) 12 (Ml 8), ai_ cy (rl 9) 12 (Ml 9), ai_ cy (rl 10) 12 (Ml 10), ai_ cy (rl 11) 12 (Ml 11), aq_ cy 6 cro 12 (gf_ rr), ai_ cy (rr 0) 12 (m_rr_4 0), ai_ cy (rr 1) 12 (m_rr_4 1), ai_ cy (rr 2) 12 (m_rr_4 2), ai_ cy (rr 3) 12 (m_rr_4 3), ai_ cy (rr 4) 12 (m_rr_4 4), ai_ cy (rr 5) 12 (m_rr_4 5), ai_ cy (rr 6) 12 (m_rr_4 6), ai_ cy (rr 7) 12 (m_rr_4 7), ai_ cy (rr 8) 12 f_85, ai_ cy (rr 9) 12 (m_rr_4 9), ai_ cy (rr 10) 12 (m_rr_4 10), ai_ cy (rr 11) 12 (m_rr_4 11), ai_ cy c4 40 e1_2, ai_ cy c5 40 f5, ai_ cy c6 40 f6, ai_ cy c7 12 f7, ai_ cy c8 12 f8] (by rw [ef_85]; exact hP) (by rw [ef_85]; exact hD) (fun hP hD => ?_)
        obtain ⟨M_86, eM_86⟩ : ∃ g : Nat → Nat → Int32, g = va_up m_rr_4 8 f_85 := ⟨_, rfl⟩
        refine pd_K (D := D) (cl := vwCl) (H := H) (A := A) [ob0_0_ xc xn xk clo cro c4 c5 c6 c7 c8, ob3_0_ xn vp vn n1 n2 n3 n4 n5, ai_ cy n2 40 fs, ai_ cy n3 40 fe, aq_ cy 6 clo 12 (gf_ rl), ai_ cy (rl 0) 12 (Ml 0), ai_ cy (rl 1) 12 (Ml 1), ai_ cy (rl 2) 12 (Ml 2), ai_ cy (rl 3) 12 (Ml 3), ai_ cy (rl 4) 12 (Ml 4), ai_ cy (rl 5) 12 (Ml 5), ai_ cy (rl 6) 12 (Ml 6), ai_ cy (rl 7) 12 (Ml 7), ai_ cy (rl 8) 12 (Ml 8), ai_ cy (rl 9) 12 (Ml 9), ai_ cy (rl 10) 12 (Ml 10), ai_ cy (rl 11) 12 (Ml 11), aq_ cy 6 cro 12 (gf_ rr), ai_ cy (rr 0) 12 (M_86 0), ai_ cy (rr 1) 12 (M_86 1), ai_ cy (rr 2) 12 (M_86 2), ai_ cy (rr 3) 12 (M_86 3), ai_ cy (rr 4) 12 (M_86 4), ai_ cy (rr 5) 12 (M_86 5), ai_ cy (rr 6) 12 (M_86 6), ai_ cy (rr 7) 12 (M_86 7), ai_ cy (rr 8) 12 (M_86 8), ai_ cy (rr 9) 12 (M_86 9), ai_ cy (rr 10) 12 (M_86 10), ai_ cy (rr 11) 12 (M_86 11), ai_ cy c4 40 e1_2, ai_ cy c5 40 f5, ai_ cy c6 40 f6, ai_ cy c7 12 f7, ai_ cy c8 12 f8] (by rw [eM_86]; exact hP) (by rw [eM_86]; exact hD) (fun hP hD => ?_)
        obtain ⟨y_87, ey_87⟩ : ∃ y : Int32, y = (8 : Int32) + 1 := ⟨_, rfl⟩
        have ty_87 : y_87.toInt = (8 : Int32).toInt + (1 : Int32).toInt := by rw [ey_87]; exact addI (by omega) (by omega)
        refine lv_iinc (v := y_87) (lv' := [(3, .int y_87), (0, .ref xc), (1, .int a1), (2, .int a2)]) hx hb dB_36_0_5.2.1.1.2 hl (k := 0) rfl (by rw [ey_87]; rfl) (by decide) rfl (fun ls hl => ?_)
        refine lv_goto (tgt := 10) hx hb dB_36_0_5.2.1.2.1 (by decide) ?_
        exact ih_4 y_87 M_86 _ _ _ (by omega) (by first | with_reducible assumption | omega | assumption) (by first | with_reducible assumption | omega | assumption) ⟨hP, hD⟩ hS (lv_sub hl [0, 1, 2, 3] rfl)
      · refine lv_aload_n hx hb dB_36_0_4.2.1.2.2 rfl (lv_at hl 1 rfl) ?_
        refine va_get (ci := 0) (v := .ref clo) (C := RX0) (T := TX0) (N := 9) hx hb hts (fun _ h => List.mem_cons_of_mem _ (List.mem_append_left _ (List.mem_append_right _ h))) hown hK.1 hP 0 rfl rfl 2 (by decide) (hts (.fieldLink RX0 11 "CutAtlas$Current" "lets" "[[I") (List.mem_of_getElem? (i := 4) rfl)) (fun _ h9 => h9) rfl dB_36_0_4.2.2.1.1 ?_
        refine lv_iload_n hx hb dB_36_0_4.2.2.1.2 rfl (lv_at hl 0 rfl) ?_
        have h_88 : vp_in (9 : Int32) 12 := by unfold vp_in; decide
        refine va_alda hx hb hG hP 4 rfl (i := 9) h_88 dB_36_0_4.2.2.2.1 ?_
        refine lv_topv (v' := .ref (rl 9)) (gf_at h_88) ?_
        refine lv_iconst (v := 0) hx hb dB_36_0_4.2.2.2.2 (by decide) ?_
        refine lv_aload_n hx hb dB_36_0_5.1.1.1.1 rfl (lv_at hl 1 rfl) ?_
        refine va_get (ci := 0) (v := .ref cro) (C := RX0) (T := TX0) (N := 9) hx hb hts (fun _ h => List.mem_cons_of_mem _ (List.mem_append_left _ (List.mem_append_right _ h))) hown hK.1 hP 0 rfl rfl 3 (by decide) (hts (.fieldLink RX0 16 "CutAtlas$Current" "room" "[[I") (List.mem_of_getElem? (i := 5) rfl)) (fun _ h9 => h9) rfl dB_36_0_5.1.1.1.2 ?_
        refine lv_iload_n hx hb dB_36_0_5.1.1.2.1 rfl (lv_at hl 0 rfl) ?_
        refine va_alda hx hb hG hP 17 rfl (i := 9) h_88 dB_36_0_5.1.1.2.2 ?_
        refine lv_topv (v' := .ref (rr 9)) (gf_at h_88) ?_
        refine lv_iconst (v := 0) hx hb dB_36_0_5.1.2.1.1 (by decide) ?_
        refine lv_aload_n hx hb dB_36_0_5.1.2.1.2 rfl (lv_at hl 1 rfl) ?_
        refine va_get (ci := 0) (v := .ref xn) (C := RX0) (T := TX0) (N := 9) hx hb hts (fun _ h => List.mem_cons_of_mem _ (List.mem_append_left _ (List.mem_append_right _ h))) hown hK.1 hP 0 rfl rfl 0 (by decide) (hts (.fieldLink RX0 35 "CutAtlas$Current" "net" "LCutAtlas$Net;") (List.mem_of_getElem? (i := 2) rfl)) (fun _ h9 => h9) rfl dB_36_0_5.1.2.2.1 ?_
        refine va_get (ci := 3) (v := .int vp) (C := RX3) (T := TX3) (N := 7) hx hb hts (fun _ h => List.mem_cons_of_mem _ (List.mem_append_right _ h)) hown hK.1 hP 1 rfl rfl 0 (by decide) (hts (.fieldLink RX0 43 "CutAtlas$Net" "places" "I") (List.mem_of_getElem? (i := 3) rfl)) (fun _ h9 => h9) rfl dB_36_0_5.1.2.2.2 ?_
        have cl_90 := clI (i := (0 : Int32)) (by omega)
        have cl_91 := clI (i := vp) (by omega)
        refine va_copyi hx hb (by rw [hml]; exact hl.1.symm) hown (hts (.methodLink RX0 83 arraycopyName) (List.mem_of_getElem? (i := 6) rfl)) (hts (.native arraycopyName) (List.mem_of_getElem? (i := 7) rfl)) (hts (.static arraycopyName) (List.mem_of_getElem? (i := 8) rfl)) (hts (.initialized "java/lang/System") (List.mem_of_getElem? (i := 9) rfl)) hK.1 hP hD hS 14 27 0 0 rfl rfl rfl rfl rfl (sp := (0 : Int32)) (dp := (0 : Int32)) (n := vp) (nneg (by omega)) (nneg (by omega)) (nneg (by omega)) (by omega) (by omega) (fun i h => rfl) (Nat.le_of_ble_eq_true rfl) (Nat.le_of_ble_eq_true rfl) dB_36_0_5.2.1.1.1 (fun H locs hP hD hS => ?_)
        obtain ⟨f_92, ef_92⟩ : ∃ g : Nat → Int32, g = va_cpy (Ml 9) (m_rr_4 9) (0 : Int32).toNatClampNeg (0 : Int32).toNatClampNeg vp.toNatClampNeg := ⟨_, rfl⟩
        refine pd_K (D := D) (cl := vwCl) (H := H) (A := A) [ob0_0_ xc xn xk clo cro c4 c5 c6 c7 c8, ob3_0_ xn vp vn n1 n2 n3 n4 n5, ai_ cy n2 40 fs, ai_ cy n3 40 fe, aq_ cy 6 clo 12 (gf_ rl), ai_ cy (rl 0) 12 (Ml 0), ai_ cy (rl 1) 12 (Ml 1), ai_ cy (rl 2) 12 (Ml 2), ai_ cy (rl 3) 12 (Ml 3), ai_ cy (rl 4) 12 (Ml 4), ai_ cy (rl 5) 12 (Ml 5), ai_ cy (rl 6) 12 (Ml 6), ai_ cy (rl 7) 12 (Ml 7), ai_ cy (rl 8) 12 (Ml 8), ai_ cy (rl 9) 12 (Ml 9), ai_ cy (rl 10) 12 (Ml 10), ai_ cy (rl 11) 12 (Ml 11), aq_ cy 6 cro 12 (gf_ rr), ai_ cy (rr 0) 12 (m_rr_4 0), ai_ cy (rr 1) 12 (m_rr_4 1), ai_ cy (rr 2) 12 (m_rr_4 2), ai_ cy (rr 3) 12 (m_rr_4 3), ai_ cy (rr 4) 12 (m_rr_4 4), ai_ cy (rr 5) 12 (m_rr_4 5), ai_ cy (rr 6) 12 (m_rr_4 6), ai_ cy (rr 7) 12 (m_rr_4 7), ai_ cy (rr 8) 12 (m_rr_4 8), ai_ cy (rr 9) 12 f_92, ai_ cy (rr 10) 12 (m_rr_4 10), ai_ cy (rr 11) 12 (m_rr_4 11), ai_ cy c4 40 e1_2, ai_ cy c5 40 f5, ai_ cy c6 40 f6, ai_ cy c7 12 f7, ai_ cy c8 12 f8] (by rw [ef_92]; exact hP) (by rw [ef_92]; exact hD) (fun hP hD => ?_)
        obtain ⟨M_93, eM_93⟩ : ∃ g : Nat → Nat → Int32, g = va_up m_rr_4 9 f_92 := ⟨_, rfl⟩
        refine pd_K (D := D) (cl := vwCl) (H := H) (A := A) [ob0_0_ xc xn xk clo cro c4 c5 c6 c7 c8, ob3_0_ xn vp vn n1 n2 n3 n4 n5, ai_ cy n2 40 fs, ai_ cy n3 40 fe, aq_ cy 6 clo 12 (gf_ rl), ai_ cy (rl 0) 12 (Ml 0), ai_ cy (rl 1) 12 (Ml 1), ai_ cy (rl 2) 12 (Ml 2), ai_ cy (rl 3) 12 (Ml 3), ai_ cy (rl 4) 12 (Ml 4), ai_ cy (rl 5) 12 (Ml 5), ai_ cy (rl 6) 12 (Ml 6), ai_ cy (rl 7) 12 (Ml 7), ai_ cy (rl 8) 12 (Ml 8), ai_ cy (rl 9) 12 (Ml 9), ai_ cy (rl 10) 12 (Ml 10), ai_ cy (rl 11) 12 (Ml 11), aq_ cy 6 cro 12 (gf_ rr), ai_ cy (rr 0) 12 (M_93 0), ai_ cy (rr 1) 12 (M_93 1), ai_ cy (rr 2) 12 (M_93 2), ai_ cy (rr 3) 12 (M_93 3), ai_ cy (rr 4) 12 (M_93 4), ai_ cy (rr 5) 12 (M_93 5), ai_ cy (rr 6) 12 (M_93 6), ai_ cy (rr 7) 12 (M_93 7), ai_ cy (rr 8) 12 (M_93 8), ai_ cy (rr 9) 12 (M_93 9), ai_ cy (rr 10) 12 (M_93 10), ai_ cy (rr 11) 12 (M_93 11), ai_ cy c4 40 e1_2, ai_ cy c5 40 f5, ai_ cy c6 40 f6, ai_ cy c7 12 f7, ai_ cy c8 12 f8] (by rw [eM_93]; exact hP) (by rw [eM_93]; exact hD) (fun hP hD => ?_)
        obtain ⟨y_94, ey_94⟩ : ∃ y : Int32, y = (9 : Int32) + 1 := ⟨_, rfl⟩
        have ty_94 : y_94.toInt = (9 : Int32).toInt + (1 : Int32).toInt := by rw [ey_94]; exact addI (by omega) (by omega)
        refine lv_iinc (v := y_94) (lv' := [(3, .int y_94), (0, .ref xc), (1, .int a1), (2, .int a2)]) hx hb dB_36_0_5.2.1.1.2 hl (k := 0) rfl (by rw [ey_94]; rfl) (by decide) rfl (fun ls hl => ?_)
        refine lv_goto (tgt := 10) hx hb dB_36_0_5.2.1.2.1 (by decide) ?_
        exact ih_4 y_94 M_93 _ _ _ (by omega) (by first | with_reducible assumption | omega | assumption) (by first | with_reducible assumption | omega | assumption) ⟨hP, hD⟩ hS (lv_sub hl [0, 1, 2, 3] rfl)
      · refine lv_aload_n hx hb dB_36_0_4.2.1.2.2 rfl (lv_at hl 1 rfl) ?_
        refine va_get (ci := 0) (v := .ref clo) (C := RX0) (T := TX0) (N := 9) hx hb hts (fun _ h => List.mem_cons_of_mem _ (List.mem_append_left _ (List.mem_append_right _ h))) hown hK.1 hP 0 rfl rfl 2 (by decide) (hts (.fieldLink RX0 11 "CutAtlas$Current" "lets" "[[I") (List.mem_of_getElem? (i := 4) rfl)) (fun _ h9 => h9) rfl dB_36_0_4.2.2.1.1 ?_
        refine lv_iload_n hx hb dB_36_0_4.2.2.1.2 rfl (lv_at hl 0 rfl) ?_
        have h_95 : vp_in (10 : Int32) 12 := by unfold vp_in; decide
        refine va_alda hx hb hG hP 4 rfl (i := 10) h_95 dB_36_0_4.2.2.2.1 ?_
        refine lv_topv (v' := .ref (rl 10)) (gf_at h_95) ?_
        refine lv_iconst (v := 0) hx hb dB_36_0_4.2.2.2.2 (by decide) ?_
        refine lv_aload_n hx hb dB_36_0_5.1.1.1.1 rfl (lv_at hl 1 rfl) ?_
        refine va_get (ci := 0) (v := .ref cro) (C := RX0) (T := TX0) (N := 9) hx hb hts (fun _ h => List.mem_cons_of_mem _ (List.mem_append_left _ (List.mem_append_right _ h))) hown hK.1 hP 0 rfl rfl 3 (by decide) (hts (.fieldLink RX0 16 "CutAtlas$Current" "room" "[[I") (List.mem_of_getElem? (i := 5) rfl)) (fun _ h9 => h9) rfl dB_36_0_5.1.1.1.2 ?_
        refine lv_iload_n hx hb dB_36_0_5.1.1.2.1 rfl (lv_at hl 0 rfl) ?_
        refine va_alda hx hb hG hP 17 rfl (i := 10) h_95 dB_36_0_5.1.1.2.2 ?_
        refine lv_topv (v' := .ref (rr 10)) (gf_at h_95) ?_
        refine lv_iconst (v := 0) hx hb dB_36_0_5.1.2.1.1 (by decide) ?_
        refine lv_aload_n hx hb dB_36_0_5.1.2.1.2 rfl (lv_at hl 1 rfl) ?_
        refine va_get (ci := 0) (v := .ref xn) (C := RX0) (T := TX0) (N := 9) hx hb hts (fun _ h => List.mem_cons_of_mem _ (List.mem_append_left _ (List.mem_append_right _ h))) hown hK.1 hP 0 rfl rfl 0 (by decide) (hts (.fieldLink RX0 35 "CutAtlas$Current" "net" "LCutAtlas$Net;") (List.mem_of_getElem? (i := 2) rfl)) (fun _ h9 => h9) rfl dB_36_0_5.1.2.2.1 ?_
        refine va_get (ci := 3) (v := .int vp) (C := RX3) (T := TX3) (N := 7) hx hb hts (fun _ h => List.mem_cons_of_mem _ (List.mem_append_right _ h)) hown hK.1 hP 1 rfl rfl 0 (by decide) (hts (.fieldLink RX0 43 "CutAtlas$Net" "places" "I") (List.mem_of_getElem? (i := 3) rfl)) (fun _ h9 => h9) rfl dB_36_0_5.1.2.2.2 ?_
        have cl_97 := clI (i := (0 : Int32)) (by omega)
        have cl_98 := clI (i := vp) (by omega)
        refine va_copyi hx hb (by rw [hml]; exact hl.1.symm) hown (hts (.methodLink RX0 83 arraycopyName) (List.mem_of_getElem? (i := 6) rfl)) (hts (.native arraycopyName) (List.mem_of_getElem? (i := 7) rfl)) (hts (.static arraycopyName) (List.mem_of_getElem? (i := 8) rfl)) (hts (.initialized "java/lang/System") (List.mem_of_getElem? (i := 9) rfl)) hK.1 hP hD hS 15 28 0 0 rfl rfl rfl rfl rfl (sp := (0 : Int32)) (dp := (0 : Int32)) (n := vp) (nneg (by omega)) (nneg (by omega)) (nneg (by omega)) (by omega) (by omega) (fun i h => rfl) (Nat.le_of_ble_eq_true rfl) (Nat.le_of_ble_eq_true rfl) dB_36_0_5.2.1.1.1 (fun H locs hP hD hS => ?_)
        obtain ⟨f_99, ef_99⟩ : ∃ g : Nat → Int32, g = va_cpy (Ml 10) (m_rr_4 10) (0 : Int32).toNatClampNeg (0 : Int32).toNatClampNeg vp.toNatClampNeg := ⟨_, rfl⟩
        refine pd_K (D := D) (cl := vwCl) (H := H) (A := A) [ob0_0_ xc xn xk clo cro c4 c5 c6 c7 c8, ob3_0_ xn vp vn n1 n2 n3 n4 n5, ai_ cy n2 40 fs, ai_ cy n3 40 fe, aq_ cy 6 clo 12 (gf_ rl), ai_ cy (rl 0) 12 (Ml 0), ai_ cy (rl 1) 12 (Ml 1), ai_ cy (rl 2) 12 (Ml 2), ai_ cy (rl 3) 12 (Ml 3), ai_ cy (rl 4) 12 (Ml 4), ai_ cy (rl 5) 12 (Ml 5), ai_ cy (rl 6) 12 (Ml 6), ai_ cy (rl 7) 12 (Ml 7), ai_ cy (rl 8) 12 (Ml 8), ai_ cy (rl 9) 12 (Ml 9), ai_ cy (rl 10) 12 (Ml 10), ai_ cy (rl 11) 12 (Ml 11), aq_ cy 6 cro 12 (gf_ rr), ai_ cy (rr 0) 12 (m_rr_4 0), ai_ cy (rr 1) 12 (m_rr_4 1), ai_ cy (rr 2) 12 (m_rr_4 2), ai_ cy (rr 3) 12 (m_rr_4 3), ai_ cy (rr 4) 12 (m_rr_4 4), ai_ cy (rr 5) 12 (m_rr_4 5), ai_ cy (rr 6) 12 (m_rr_4 6), ai_ cy (rr 7) 12 (m_rr_4 7), ai_ cy (rr 8) 12 (m_rr_4 8), ai_ cy (rr 9) 12 (m_rr_4 9), ai_ cy (rr 10) 12 f_99, ai_ cy (rr 11) 12 (m_rr_4 11), ai_ cy c4 40 e1_2, ai_ cy c5 40 f5, ai_ cy c6 40 f6, ai_ cy c7 12 f7, ai_ cy c8 12 f8] (by rw [ef_99]; exact hP) (by rw [ef_99]; exact hD) (fun hP hD => ?_)
        obtain ⟨M_100, eM_100⟩ : ∃ g : Nat → Nat → Int32, g = va_up m_rr_4 10 f_99 := ⟨_, rfl⟩
        refine pd_K (D := D) (cl := vwCl) (H := H) (A := A) [ob0_0_ xc xn xk clo cro c4 c5 c6 c7 c8, ob3_0_ xn vp vn n1 n2 n3 n4 n5, ai_ cy n2 40 fs, ai_ cy n3 40 fe, aq_ cy 6 clo 12 (gf_ rl), ai_ cy (rl 0) 12 (Ml 0), ai_ cy (rl 1) 12 (Ml 1), ai_ cy (rl 2) 12 (Ml 2), ai_ cy (rl 3) 12 (Ml 3), ai_ cy (rl 4) 12 (Ml 4), ai_ cy (rl 5) 12 (Ml 5), ai_ cy (rl 6) 12 (Ml 6), ai_ cy (rl 7) 12 (Ml 7), ai_ cy (rl 8) 12 (Ml 8), ai_ cy (rl 9) 12 (Ml 9), ai_ cy (rl 10) 12 (Ml 10), ai_ cy (rl 11) 12 (Ml 11), aq_ cy 6 cro 12 (gf_ rr), ai_ cy (rr 0) 12 (M_100 0), ai_ cy (rr 1) 12 (M_100 1), ai_ cy (rr 2) 12 (M_100 2), ai_ cy (rr 3) 12 (M_100 3), ai_ cy (rr 4) 12 (M_100 4), ai_ cy (rr 5) 12 (M_100 5), ai_ cy (rr 6) 12 (M_100 6), ai_ cy (rr 7) 12 (M_100 7), ai_ cy (rr 8) 12 (M_100 8), ai_ cy (rr 9) 12 (M_100 9), ai_ cy (rr 10) 12 (M_100 10), ai_ cy (rr 11) 12 (M_100 11), ai_ cy c4 40 e1_2, ai_ cy c5 40 f5, ai_ cy c6 40 f6, ai_ cy c7 12 f7, ai_ cy c8 12 f8] (by rw [eM_100]; exact hP) (by rw [eM_100]; exact hD) (fun hP hD => ?_)
        obtain ⟨y_101, ey_101⟩ : ∃ y : Int32, y = (10 : Int32) + 1 := ⟨_, rfl⟩
        have ty_101 : y_101.toInt = (10 : Int32).toInt + (1 : Int32).toInt := by rw [ey_101]; exact addI (by omega) (by omega)
        refine lv_iinc (v := y_101) (lv' := [(3, .int y_101), (0, .ref xc), (1, .int a1), (2, .int a2)]) hx hb dB_36_0_5.2.1.1.2 hl (k := 0) rfl (by rw [ey_101]; rfl) (by decide) rfl (fun ls hl => ?_)
        refine lv_goto (tgt := 10) hx hb dB_36_0_5.2.1.2.1 (by decide) ?_
        exact ih_4 y_101 M_100 _ _ _ (by omega) (by first | with_reducible assumption | omega | assumption) (by first | with_reducible assumption | omega | assumption) ⟨hP, hD⟩ hS (lv_sub hl [0, 1, 2, 3] rfl)
      · refine lv_aload_n hx hb dB_36_0_4.2.1.2.2 rfl (lv_at hl 1 rfl) ?_
        refine va_get (ci := 0) (v := .ref clo) (C := RX0) (T := TX0) (N := 9) hx hb hts (fun _ h => List.mem_cons_of_mem _ (List.mem_append_left _ (List.mem_append_right _ h))) hown hK.1 hP 0 rfl rfl 2 (by decide) (hts (.fieldLink RX0 11 "CutAtlas$Current" "lets" "[[I") (List.mem_of_getElem? (i := 4) rfl)) (fun _ h9 => h9) rfl dB_36_0_4.2.2.1.1 ?_
        refine lv_iload_n hx hb dB_36_0_4.2.2.1.2 rfl (lv_at hl 0 rfl) ?_
        have h_102 : vp_in (11 : Int32) 12 := by unfold vp_in; decide
        refine va_alda hx hb hG hP 4 rfl (i := 11) h_102 dB_36_0_4.2.2.2.1 ?_
        refine lv_topv (v' := .ref (rl 11)) (gf_at h_102) ?_
        refine lv_iconst (v := 0) hx hb dB_36_0_4.2.2.2.2 (by decide) ?_
        refine lv_aload_n hx hb dB_36_0_5.1.1.1.1 rfl (lv_at hl 1 rfl) ?_
        refine va_get (ci := 0) (v := .ref cro) (C := RX0) (T := TX0) (N := 9) hx hb hts (fun _ h => List.mem_cons_of_mem _ (List.mem_append_left _ (List.mem_append_right _ h))) hown hK.1 hP 0 rfl rfl 3 (by decide) (hts (.fieldLink RX0 16 "CutAtlas$Current" "room" "[[I") (List.mem_of_getElem? (i := 5) rfl)) (fun _ h9 => h9) rfl dB_36_0_5.1.1.1.2 ?_
        refine lv_iload_n hx hb dB_36_0_5.1.1.2.1 rfl (lv_at hl 0 rfl) ?_
        refine va_alda hx hb hG hP 17 rfl (i := 11) h_102 dB_36_0_5.1.1.2.2 ?_
        refine lv_topv (v' := .ref (rr 11)) (gf_at h_102) ?_
        refine lv_iconst (v := 0) hx hb dB_36_0_5.1.2.1.1 (by decide) ?_
        refine lv_aload_n hx hb dB_36_0_5.1.2.1.2 rfl (lv_at hl 1 rfl) ?_
        refine va_get (ci := 0) (v := .ref xn) (C := RX0) (T := TX0) (N := 9) hx hb hts (fun _ h => List.mem_cons_of_mem _ (List.mem_append_left _ (List.mem_append_right _ h))) hown hK.1 hP 0 rfl rfl 0 (by decide) (hts (.fieldLink RX0 35 "CutAtlas$Current" "net" "LCutAtlas$Net;") (List.mem_of_getElem? (i := 2) rfl)) (fun _ h9 => h9) rfl dB_36_0_5.1.2.2.1 ?_
        refine va_get (ci := 3) (v := .int vp) (C := RX3) (T := TX3) (N := 7) hx hb hts (fun _ h => List.mem_cons_of_mem _ (List.mem_append_right _ h)) hown hK.1 hP 1 rfl rfl 0 (by decide) (hts (.fieldLink RX0 43 "CutAtlas$Net" "places" "I") (List.mem_of_getElem? (i := 3) rfl)) (fun _ h9 => h9) rfl dB_36_0_5.1.2.2.2 ?_
        have cl_104 := clI (i := (0 : Int32)) (by omega)
        have cl_105 := clI (i := vp) (by omega)
        refine va_copyi hx hb (by rw [hml]; exact hl.1.symm) hown (hts (.methodLink RX0 83 arraycopyName) (List.mem_of_getElem? (i := 6) rfl)) (hts (.native arraycopyName) (List.mem_of_getElem? (i := 7) rfl)) (hts (.static arraycopyName) (List.mem_of_getElem? (i := 8) rfl)) (hts (.initialized "java/lang/System") (List.mem_of_getElem? (i := 9) rfl)) hK.1 hP hD hS 16 29 0 0 rfl rfl rfl rfl rfl (sp := (0 : Int32)) (dp := (0 : Int32)) (n := vp) (nneg (by omega)) (nneg (by omega)) (nneg (by omega)) (by omega) (by omega) (fun i h => rfl) (Nat.le_of_ble_eq_true rfl) (Nat.le_of_ble_eq_true rfl) dB_36_0_5.2.1.1.1 (fun H locs hP hD hS => ?_)
        obtain ⟨f_106, ef_106⟩ : ∃ g : Nat → Int32, g = va_cpy (Ml 11) (m_rr_4 11) (0 : Int32).toNatClampNeg (0 : Int32).toNatClampNeg vp.toNatClampNeg := ⟨_, rfl⟩
        refine pd_K (D := D) (cl := vwCl) (H := H) (A := A) [ob0_0_ xc xn xk clo cro c4 c5 c6 c7 c8, ob3_0_ xn vp vn n1 n2 n3 n4 n5, ai_ cy n2 40 fs, ai_ cy n3 40 fe, aq_ cy 6 clo 12 (gf_ rl), ai_ cy (rl 0) 12 (Ml 0), ai_ cy (rl 1) 12 (Ml 1), ai_ cy (rl 2) 12 (Ml 2), ai_ cy (rl 3) 12 (Ml 3), ai_ cy (rl 4) 12 (Ml 4), ai_ cy (rl 5) 12 (Ml 5), ai_ cy (rl 6) 12 (Ml 6), ai_ cy (rl 7) 12 (Ml 7), ai_ cy (rl 8) 12 (Ml 8), ai_ cy (rl 9) 12 (Ml 9), ai_ cy (rl 10) 12 (Ml 10), ai_ cy (rl 11) 12 (Ml 11), aq_ cy 6 cro 12 (gf_ rr), ai_ cy (rr 0) 12 (m_rr_4 0), ai_ cy (rr 1) 12 (m_rr_4 1), ai_ cy (rr 2) 12 (m_rr_4 2), ai_ cy (rr 3) 12 (m_rr_4 3), ai_ cy (rr 4) 12 (m_rr_4 4), ai_ cy (rr 5) 12 (m_rr_4 5), ai_ cy (rr 6) 12 (m_rr_4 6), ai_ cy (rr 7) 12 (m_rr_4 7), ai_ cy (rr 8) 12 (m_rr_4 8), ai_ cy (rr 9) 12 (m_rr_4 9), ai_ cy (rr 10) 12 (m_rr_4 10), ai_ cy (rr 11) 12 f_106, ai_ cy c4 40 e1_2, ai_ cy c5 40 f5, ai_ cy c6 40 f6, ai_ cy c7 12 f7, ai_ cy c8 12 f8] (by rw [ef_106]; exact hP) (by rw [ef_106]; exact hD) (fun hP hD => ?_)
        obtain ⟨M_107, eM_107⟩ : ∃ g : Nat → Nat → Int32, g = va_up m_rr_4 11 f_106 := ⟨_, rfl⟩
        refine pd_K (D := D) (cl := vwCl) (H := H) (A := A) [ob0_0_ xc xn xk clo cro c4 c5 c6 c7 c8, ob3_0_ xn vp vn n1 n2 n3 n4 n5, ai_ cy n2 40 fs, ai_ cy n3 40 fe, aq_ cy 6 clo 12 (gf_ rl), ai_ cy (rl 0) 12 (Ml 0), ai_ cy (rl 1) 12 (Ml 1), ai_ cy (rl 2) 12 (Ml 2), ai_ cy (rl 3) 12 (Ml 3), ai_ cy (rl 4) 12 (Ml 4), ai_ cy (rl 5) 12 (Ml 5), ai_ cy (rl 6) 12 (Ml 6), ai_ cy (rl 7) 12 (Ml 7), ai_ cy (rl 8) 12 (Ml 8), ai_ cy (rl 9) 12 (Ml 9), ai_ cy (rl 10) 12 (Ml 10), ai_ cy (rl 11) 12 (Ml 11), aq_ cy 6 cro 12 (gf_ rr), ai_ cy (rr 0) 12 (M_107 0), ai_ cy (rr 1) 12 (M_107 1), ai_ cy (rr 2) 12 (M_107 2), ai_ cy (rr 3) 12 (M_107 3), ai_ cy (rr 4) 12 (M_107 4), ai_ cy (rr 5) 12 (M_107 5), ai_ cy (rr 6) 12 (M_107 6), ai_ cy (rr 7) 12 (M_107 7), ai_ cy (rr 8) 12 (M_107 8), ai_ cy (rr 9) 12 (M_107 9), ai_ cy (rr 10) 12 (M_107 10), ai_ cy (rr 11) 12 (M_107 11), ai_ cy c4 40 e1_2, ai_ cy c5 40 f5, ai_ cy c6 40 f6, ai_ cy c7 12 f7, ai_ cy c8 12 f8] (by rw [eM_107]; exact hP) (by rw [eM_107]; exact hD) (fun hP hD => ?_)
        obtain ⟨y_108, ey_108⟩ : ∃ y : Int32, y = (11 : Int32) + 1 := ⟨_, rfl⟩
        have ty_108 : y_108.toInt = (11 : Int32).toInt + (1 : Int32).toInt := by rw [ey_108]; exact addI (by omega) (by omega)
        refine lv_iinc (v := y_108) (lv' := [(3, .int y_108), (0, .ref xc), (1, .int a1), (2, .int a2)]) hx hb dB_36_0_5.2.1.1.2 hl (k := 0) rfl (by rw [ey_108]; rfl) (by decide) rfl (fun ls hl => ?_)
        refine lv_goto (tgt := 10) hx hb dB_36_0_5.2.1.2.1 (by decide) ?_
        exact ih_4 y_108 M_107 _ _ _ (by omega) (by first | with_reducible assumption | omega | assumption) (by first | with_reducible assumption | omega | assumption) ⟨hP, hD⟩ hS (lv_sub hl [0, 1, 2, 3] rfl)
end

section
set_option maxHeartbeats 4000000 in
set_option maxRecDepth 100000 in
theorem c_J6_bitCount_0f7a4 (l : Launch) (D : va_G) (cy : Nat → ClassId) (sz : Nat) (a1 : Int32) : Met l yJ6_bitCount_0f7a4 wsJ6_bitCount_0f7a4 ({ frames := 0, cells := 0, slots := 0, locals := 0 }) (va_Pc [.int a1] (fun U => U.heap.size = sz ∧ va_P D vwCl [] U.heap ∧ kk_ D cy U ∧ va_D (fun _ => True) [])) (va_Qi (fun (r : Int32) (_ : Unit) => True) (fun (_ : Unit) (_ : State) => True) (va_A [] sz)) 0 0 (va_A [] sz) := by
  refine ofQ (cc := cJ6_bitCount_0f7a4) (maxL := 1) (ret := (some .int)) (by decide) rfl ?_
  intro p e s m args below meth c s₁ Q hQ B hml hv
  obtain ⟨rfl, hsz, hP, hK, hD0⟩ := hv
  have hx := B.exec
  have hb := B.bytes
  have hr := B.returns
  have hts := atoms_spec (ws := wsJ6_bitCount_0f7a4) B.pre
  have hown : s.vm.findClass RJ6 = some m.cls := by have h_ := findClass_of_methodNamed B.named; exact h_
  have hlocks := B.notSynchronized
  subst hsz
  have hD : va_D (va_A [] s.heap.size) [] := dd_nil
  generalize hAe : va_A [] s.heap.size = A at hD hQ
  have hA : ∀ q : Nat, s.heap.size ≤ q → A q := fun q h => by rw [← hAe]; exact Or.inr h
  have hS : va_S A s.heap s.heap [] := va_S.rf
  have hl := lv_entry ([.int a1]) (n := 1) (Nat.le_of_ble_eq_true rfl)
  rw [lg_entry_eq]
  generalize (lg_sl ([.int a1]) ++ List.replicate (1 - (lg_sl ([.int a1])).length) Slot.unset).toArray = ls at hl ⊢
  have hl : lv_has ls 1 [(0, .int a1)] := hl
  refine lv_iload_n hx hb dB_36_4_0.1.1.1.1 rfl (lv_at hl 0 rfl) ?_
  refine lv_iload_n hx hb dB_36_4_0.1.1.1.2 rfl (lv_at hl 0 rfl) ?_
  refine lv_iconst (v := 1) hx hb dB_36_4_0.1.1.2.1 (by decide) ?_
  refine lv_iushr hx hb dB_36_4_0.1.1.2.2 rfl ?_
  refine lv_topi (fun y_1 ey_1 => ?_)
  refine lv_ldcw (v := 1431655765) hx hb hown (hts (.constant RJ6 265 (1431655765)) (List.mem_of_getElem? (i := 1) rfl)) dB_36_4_0.1.2.1.1 ?_
  refine lv_iand hx hb dB_36_4_0.1.2.1.2 ?_
  refine lv_topi (fun y_2 ey_2 => ?_)
  refine lv_isub hx hb dB_36_4_0.1.2.2.1 ?_
  refine lv_topi (fun y_3 ey_3 => ?_)
  refine lv_istore_n (lv' := [(0, .int y_3)]) hx hb dB_36_4_0.1.2.2.2 rfl hl (by decide) rfl (fun ls hl => ?_)
  refine lv_iload_n hx hb dB_36_4_0.2.1.1.1 rfl (lv_at hl 0 rfl) ?_
  refine lv_ldcw (v := 858993459) hx hb hown (hts (.constant RJ6 266 (858993459)) (List.mem_of_getElem? (i := 2) rfl)) dB_36_4_0.2.1.1.2 ?_
  refine lv_iand hx hb dB_36_4_0.2.1.2.1 ?_
  refine lv_topi (fun y_4 ey_4 => ?_)
  refine lv_iload_n hx hb dB_36_4_0.2.1.2.2 rfl (lv_at hl 0 rfl) ?_
  refine lv_iconst (v := 2) hx hb dB_36_4_0.2.2.1.1 (by decide) ?_
  refine lv_iushr hx hb dB_36_4_0.2.2.1.2 rfl ?_
  refine lv_topi (fun y_5 ey_5 => ?_)
  refine lv_ldcw (v := 858993459) hx hb hown (hts (.constant RJ6 266 (858993459)) (List.mem_of_getElem? (i := 2) rfl)) dB_36_4_0.2.2.2.1 ?_
  refine lv_iand hx hb dB_36_4_0.2.2.2.2 ?_
  refine lv_topi (fun y_6 ey_6 => ?_)
  refine lv_iadd hx hb dB_36_4_1.1.1.1.1 ?_
  refine lv_topi (fun y_7 ey_7 => ?_)
  refine lv_istore_n (lv' := [(0, .int y_7)]) hx hb dB_36_4_1.1.1.1.2 rfl hl (by decide) rfl (fun ls hl => ?_)
  refine lv_iload_n hx hb dB_36_4_1.1.1.2.1 rfl (lv_at hl 0 rfl) ?_
  refine lv_iload_n hx hb dB_36_4_1.1.1.2.2 rfl (lv_at hl 0 rfl) ?_
  refine lv_iconst (v := 4) hx hb dB_36_4_1.1.2.1.1 (by decide) ?_
  refine lv_iushr hx hb dB_36_4_1.1.2.1.2 rfl ?_
  refine lv_topi (fun y_8 ey_8 => ?_)
  refine lv_iadd hx hb dB_36_4_1.1.2.2.1 ?_
  refine lv_topi (fun y_9 ey_9 => ?_)
  refine lv_ldcw (v := 252645135) hx hb hown (hts (.constant RJ6 267 (252645135)) (List.mem_of_getElem? (i := 3) rfl)) dB_36_4_1.1.2.2.2 ?_
  refine lv_iand hx hb dB_36_4_1.2.1.1.1 ?_
  refine lv_topi (fun y_10 ey_10 => ?_)
  refine lv_istore_n (lv' := [(0, .int y_10)]) hx hb dB_36_4_1.2.1.1.2 rfl hl (by decide) rfl (fun ls hl => ?_)
  refine lv_iload_n hx hb dB_36_4_1.2.1.2.1 rfl (lv_at hl 0 rfl) ?_
  refine lv_iload_n hx hb dB_36_4_1.2.1.2.2 rfl (lv_at hl 0 rfl) ?_
  refine lv_bipush (v := 8) hx hb dB_36_4_1.2.2.1.1 (by decide) ?_
  refine lv_iushr hx hb dB_36_4_1.2.2.1.2 rfl ?_
  refine lv_topi (fun y_11 ey_11 => ?_)
  refine lv_iadd hx hb dB_36_4_1.2.2.2.1 ?_
  refine lv_topi (fun y_12 ey_12 => ?_)
  refine lv_istore_n (lv' := [(0, .int y_12)]) hx hb dB_36_4_1.2.2.2.2 rfl hl (by decide) rfl (fun ls hl => ?_)
  refine lv_iload_n hx hb dB_36_4_2.1.1.1 rfl (lv_at hl 0 rfl) ?_
  refine lv_iload_n hx hb dB_36_4_2.1.1.2 rfl (lv_at hl 0 rfl) ?_
  refine lv_bipush (v := 16) hx hb dB_36_4_2.1.2.1 (by decide) ?_
  refine lv_iushr hx hb dB_36_4_2.1.2.2.1 rfl ?_
  refine lv_topi (fun y_13 ey_13 => ?_)
  refine lv_iadd hx hb dB_36_4_2.1.2.2.2 ?_
  refine lv_topi (fun y_14 ey_14 => ?_)
  refine lv_istore_n (lv' := [(0, .int y_14)]) hx hb dB_36_4_2.2.1.1 rfl hl (by decide) rfl (fun ls hl => ?_)
  refine lv_iload_n hx hb dB_36_4_2.2.1.2 rfl (lv_at hl 0 rfl) ?_
  refine lv_bipush (v := 63) hx hb dB_36_4_2.2.2.1 (by decide) ?_
  refine lv_iand hx hb dB_36_4_2.2.2.2.1 ?_
  refine lv_topi (fun y_15 ey_15 => ?_)
  rw [hQ]
  exact W.iret (v := y_15) hx hb hr (fun t ht hW => ⟨⟨y_15, (), rfl, trivial, trivial⟩, hS.F ht⟩) hS.2.2 dB_36_4_2.2.2.2.2

set_option maxHeartbeats 4000000 in
set_option maxRecDepth 100000 in
theorem c_X7_letIn (l : Launch) (D : va_G) (cy : Nat → ClassId) (sz : Nat) (xh : Nat) (u1 : Int32) (u2 : Int32) (u3 : Int32) (u4 : Int32) (u5 : Int32) (u6 : Int32) (u7 : Int32) (u8 : Int32) (xc : Nat) (xk : Nat) (clo : Nat) (cro : Nat) (c4 : Nat) (c5 : Nat) (c6 : Nat) (c7 : Nat) (c8 : Nat) (xn : Nat) (n1 : Nat) (n2 : Nat) (n3 : Nat) (n4 : Nat) (n5 : Nat) (vp : Int32) (vn : Int32) (rl : Nat → Nat) (Ml : Nat → Nat → Int32) (a1 : Int32) (a2 : Int32) (hvp : 0 ≤ vp.toInt ∧ vp.toInt ≤ 12) (q1 : 0 ≤ a1.toInt ∧ a1.toInt ≤ 11) : Met l yX7_letIn wsX7_letIn ({ frames := 0, cells := 0, slots := 0, locals := 0 }) (va_Pc [.ref xh, .int a1, .int a2] (fun U => U.heap.size = sz ∧ va_P D vwCl [ob7_0_ xh xc u1 u2 u3 u4 u5 u6 u7 u8, ob0_0_ xc xn xk clo cro c4 c5 c6 c7 c8, ob3_0_ xn vp vn n1 n2 n3 n4 n5, aq_ cy 6 clo 12 (gf_ rl), ai_ cy (rl 0) 12 (Ml 0), ai_ cy (rl 1) 12 (Ml 1), ai_ cy (rl 2) 12 (Ml 2), ai_ cy (rl 3) 12 (Ml 3), ai_ cy (rl 4) 12 (Ml 4), ai_ cy (rl 5) 12 (Ml 5), ai_ cy (rl 6) 12 (Ml 6), ai_ cy (rl 7) 12 (Ml 7), ai_ cy (rl 8) 12 (Ml 8), ai_ cy (rl 9) 12 (Ml 9), ai_ cy (rl 10) 12 (Ml 10), ai_ cy (rl 11) 12 (Ml 11)] U.heap ∧ kg_ D cy U ∧ va_D (fun _ => True) [ob7_0_ xh xc u1 u2 u3 u4 u5 u6 u7 u8, ob0_0_ xc xn xk clo cro c4 c5 c6 c7 c8, ob3_0_ xn vp vn n1 n2 n3 n4 n5, aq_ cy 6 clo 12 (gf_ rl), ai_ cy (rl 0) 12 (Ml 0), ai_ cy (rl 1) 12 (Ml 1), ai_ cy (rl 2) 12 (Ml 2), ai_ cy (rl 3) 12 (Ml 3), ai_ cy (rl 4) 12 (Ml 4), ai_ cy (rl 5) 12 (Ml 5), ai_ cy (rl 6) 12 (Ml 6), ai_ cy (rl 7) 12 (Ml 7), ai_ cy (rl 8) 12 (Ml 8), ai_ cy (rl 9) 12 (Ml 9), ai_ cy (rl 10) 12 (Ml 10), ai_ cy (rl 11) 12 (Ml 11)])) (va_Qi (fun (r : Int32) (_ : Unit) => True) (fun (_ : Unit) (_ : State) => True) (va_A [] sz)) 0 0 (va_A [] sz) := by
  refine ofQ (cc := cX7_letIn) (maxL := 5) (ret := (some .int)) (by decide) rfl ?_
  intro p e s m args below meth c s₁ Q hQ B hml hv
  obtain ⟨rfl, hsz, hP, hK, hD0⟩ := hv
  have hG := hK.2
  have hK := hK.1
  have hx := B.exec
  have hb := B.bytes
  have hr := B.returns
  have hts := atoms_spec (ws := wsX7_letIn) B.pre
  have hown : s.vm.findClass RX7 = some m.cls := by have h_ := findClass_of_methodNamed B.named; exact h_
  have hlocks := B.notSynchronized
  subst hsz
  have hD : va_D (va_A [] s.heap.size) [] := dd_nil
  generalize hAe : va_A [] s.heap.size = A at hD hQ
  have hA : ∀ q : Nat, s.heap.size ≤ q → A q := fun q h => by rw [← hAe]; exact Or.inr h
  have hS : va_S A s.heap s.heap [] := va_S.rf
  have hl := lv_entry ([.ref xh, .int a1, .int a2]) (n := 5) (Nat.le_of_ble_eq_true rfl)
  rw [lg_entry_eq]
  generalize (lg_sl ([.ref xh, .int a1, .int a2]) ++ List.replicate (5 - (lg_sl ([.ref xh, .int a1, .int a2])).length) Slot.unset).toArray = ls at hl ⊢
  have hl : lv_has ls 5 [(0, .ref xh), (1, .int a1), (2, .int a2)] := hl
  have z0 : (0 : Int32).toInt = 0 := by decide
  have z1 : (1 : Int32).toInt = 1 := by decide
  refine lv_iconst (v := 0) hx hb dB_36_1_73.1.1.1.1 (by decide) ?_
  refine lv_istore_n (lv' := [(3, .int 0), (0, .ref xh), (1, .int a1), (2, .int a2)]) hx hb dB_36_1_73.1.1.1.2 rfl hl (by decide) rfl (fun ls hl => ?_)
  refine lv_iload_n hx hb dB_36_1_73.1.1.2.1 rfl (lv_at hl 2 rfl) ?_
  refine lv_iconst (v := 1) hx hb dB_36_1_73.1.1.2.2 (by decide) ?_
  refine lv_iadd hx hb dB_36_1_73.1.2.1.1 ?_
  refine lv_topi (fun y_1 ey_1 => ?_)
  have ty_1 : y_1.toInt = a1.toInt + (1 : Int32).toInt := by rw [ey_1]; exact addI (by omega) (by omega)
  refine lv_istore (lv' := [(4, .int y_1), (3, .int 0), (0, .ref xh), (1, .int a1), (2, .int a2)]) hx hb dB_36_1_73.1.2.1.2 hl (by decide) rfl (fun ls hl => ?_)
  suffices LOOP_2 : ∀ (n_2 : Nat) (x4_2 : Int32) (x3_2 : Int32) (H : Heap) (locs : List Loc) (ls : Array Slot), 12 - x4_2.toInt < (n_2 : Int) → (1 ≤ x4_2.toInt) → (x4_2.toInt ≤ 12) → va_P D vwCl [ob7_0_ xh xc u1 u2 u3 u4 u5 u6 u7 u8, ob0_0_ xc xn xk clo cro c4 c5 c6 c7 c8, ob3_0_ xn vp vn n1 n2 n3 n4 n5, aq_ cy 6 clo 12 (gf_ rl), ai_ cy (rl 0) 12 (Ml 0), ai_ cy (rl 1) 12 (Ml 1), ai_ cy (rl 2) 12 (Ml 2), ai_ cy (rl 3) 12 (Ml 3), ai_ cy (rl 4) 12 (Ml 4), ai_ cy (rl 5) 12 (Ml 5), ai_ cy (rl 6) 12 (Ml 6), ai_ cy (rl 7) 12 (Ml 7), ai_ cy (rl 8) 12 (Ml 8), ai_ cy (rl 9) 12 (Ml 9), ai_ cy (rl 10) 12 (Ml 10), ai_ cy (rl 11) 12 (Ml 11)] H → va_S A s.heap H locs → lv_has ls 5 [(4, .int x4_2), (3, .int x3_2), (0, .ref xh), (1, .int a1), (2, .int a2)] → W p l e ({ frames := 0, cells := 0, slots := 0, locals := 0 } : Room) s m (([.ref xh, .int a1, .int a2] : List Value).toArray) below meth c H locs 0 0 Q (F0 m 7 ls []) from LOOP_2 ((12 - y_1.toInt).toNat + 1) y_1 (0 : Int32) _ _ _ (by omega) (by first | with_reducible assumption | omega | assumption) (by first | with_reducible assumption | omega | assumption) hP hS (lv_sub hl [0, 1, 2, 3, 4] rfl)
  intro n_2
  induction n_2 with
  | zero =>
    intro x4_2 x3_2 H locs ls hm v0_2 v1_2 hP hS hl
    exact absurd hm (by omega)
  | succ n_2 ih_2 =>
    intro x4_2 x3_2 H locs ls hm v0_2 v1_2 hP hS hl
    refine lv_iload hx hb dB_36_1_73.1.2.2.1 (lv_at hl 0 rfl) ?_
    refine lv_aload_n hx hb dB_36_1_73.1.2.2.2 rfl (lv_at hl 2 rfl) ?_
    refine va_get (ci := 7) (v := .ref xc) (C := RX7) (T := TX7) (N := 9) hx hb hts (fun _ h => List.mem_cons_of_mem _ (List.mem_append_left _ (List.mem_append_left _ (List.mem_append_right _ h)))) hown hK.1 hP 0 rfl rfl 0 (by decide) (hts (.fieldLink RX7 9 "CutAtlas$SetHunt" "current" "LCutAtlas$Current;") (List.mem_of_getElem? (i := 1) rfl)) (fun _ h9 => h9) rfl dB_36_1_73.2.1.1.1 ?_
    refine va_get (ci := 0) (v := .ref xn) (C := RX0) (T := TX0) (N := 9) hx hb hts (fun _ h => List.mem_cons_of_mem _ (List.mem_append_left _ (List.mem_append_right _ h))) hown hK.1 hP 1 rfl rfl 0 (by decide) (hts (.fieldLink RX7 39 "CutAtlas$Current" "net" "LCutAtlas$Net;") (List.mem_of_getElem? (i := 2) rfl)) (fun _ h9 => h9) rfl dB_36_1_73.2.1.1.2 ?_
    refine va_get (ci := 3) (v := .int vp) (C := RX3) (T := TX3) (N := 7) hx hb hts (fun _ h => List.mem_cons_of_mem _ (List.mem_append_right _ h)) hown hK.1 hP 2 rfl rfl 0 (by decide) (hts (.fieldLink RX7 45 "CutAtlas$Net" "places" "I") (List.mem_of_getElem? (i := 3) rfl)) (fun _ h9 => h9) rfl dB_36_1_73.2.1.2.1 ?_
    refine lv_icmp_ge (tgt := 53) hx hb dB_36_1_73.2.1.2.2 (by decide) (fun c_3 => ?_) (fun c_3 => ?_)
    · have t_3 : vp.toInt ≤ x4_2.toInt := Int32.le_iff_toInt_le.mp c_3
      refine lv_iload_n hx hb dB_36_1_74.2.2.2.2 rfl (lv_at hl 1 rfl) ?_
      rw [hQ]
      exact W.iret (v := x3_2) hx hb hr (fun t ht hW => ⟨⟨x3_2, (), rfl, trivial, trivial⟩, hS.F ht⟩) hS.2.2 dB_36_1_75
    · have t_3 : ¬ vp.toInt ≤ x4_2.toInt := fun h => c_3 (Int32.le_iff_toInt_le.mpr h)
      refine lv_iload_n hx hb dB_36_1_73.2.2.1.1 rfl (lv_at hl 4 rfl) ?_
      refine lv_iload hx hb dB_36_1_73.2.2.1.2 (lv_at hl 0 rfl) ?_
      refine lv_ishr hx hb dB_36_1_73.2.2.2.1 ?_
      refine lv_topi (fun y_4 ey_4 => ?_)
      refine lv_iconst (v := 1) hx hb dB_36_1_73.2.2.2.2 (by decide) ?_
      refine lv_iand hx hb dB_36_1_74.1.1.1.1 ?_
      refine lv_topi (fun y_5 ey_5 => ?_)
      refine lv_iconst (v := 1) hx hb dB_36_1_74.1.1.1.2 (by decide) ?_
      refine lv_icmp_ne (tgt := 47) hx hb dB_36_1_74.1.1.2.1 (by decide) (fun c_6 => ?_) (fun c_6 => ?_)
      · have t_6 : ¬ y_5.toInt = (1 : Int32).toInt := fun h => c_6 (Int32.toInt_inj.mp h)
        obtain ⟨y_7, ey_7⟩ : ∃ y : Int32, y = x4_2 + 1 := ⟨_, rfl⟩
        have ty_7 : y_7.toInt = x4_2.toInt + (1 : Int32).toInt := by rw [ey_7]; exact addI (by omega) (by omega)
        refine lv_iinc (v := y_7) (lv' := [(4, .int y_7), (3, .int x3_2), (0, .ref xh), (1, .int a1), (2, .int a2)]) hx hb dB_36_1_74.2.2.1.2 hl (k := 0) rfl (by rw [ey_7]; rfl) (by decide) rfl (fun ls hl => ?_)
        refine lv_goto (tgt := 7) hx hb dB_36_1_74.2.2.2.1 (by decide) ?_
        exact ih_2 y_7 x3_2 _ _ _ (by omega) (by first | with_reducible assumption | omega | assumption) (by first | with_reducible assumption | omega | assumption) hP hS (lv_sub hl [0, 1, 2, 3, 4] rfl)
      · have t_6 : y_5.toInt = (1 : Int32).toInt := congrArg Int32.toInt c_6
        refine lv_iload_n hx hb dB_36_1_74.1.1.2.2 rfl (lv_at hl 1 rfl) ?_
        refine lv_aload_n hx hb dB_36_1_74.1.2.1.1 rfl (lv_at hl 2 rfl) ?_
        refine va_get (ci := 7) (v := .ref xc) (C := RX7) (T := TX7) (N := 9) hx hb hts (fun _ h => List.mem_cons_of_mem _ (List.mem_append_left _ (List.mem_append_left _ (List.mem_append_right _ h)))) hown hK.1 hP 0 rfl rfl 0 (by decide) (hts (.fieldLink RX7 9 "CutAtlas$SetHunt" "current" "LCutAtlas$Current;") (List.mem_of_getElem? (i := 1) rfl)) (fun _ h9 => h9) rfl dB_36_1_74.1.2.1.2 ?_
        refine va_get (ci := 0) (v := .ref clo) (C := RX0) (T := TX0) (N := 9) hx hb hts (fun _ h => List.mem_cons_of_mem _ (List.mem_append_left _ (List.mem_append_right _ h))) hown hK.1 hP 1 rfl rfl 2 (by decide) (hts (.fieldLink RX7 65 "CutAtlas$Current" "lets" "[[I") (List.mem_of_getElem? (i := 4) rfl)) (fun _ h9 => h9) rfl dB_36_1_74.1.2.2.1 ?_
        refine lv_iload hx hb dB_36_1_74.1.2.2.2 (lv_at hl 0 rfl) ?_
        have h_8 : vp_in x4_2 12 := in_I (by first | with_reducible assumption | omega) (by omega)
        refine va_alda hx hb hG hP 3 rfl (i := x4_2) h_8 dB_36_1_74.2.1.1.1 ?_
        refine lv_topv (v' := .ref (rl x4_2.toNatClampNeg)) (gf_at h_8) ?_
        refine lv_iload_n hx hb dB_36_1_74.2.1.1.2 rfl (lv_at hl 3 rfl) ?_
        have h_9 : vp_in a1 12 := in_I (by first | with_reducible assumption | omega) (by omega)
        have hPg : va_P D vwCl (([ob7_0_ xh xc u1 u2 u3 u4 u5 u6 u7 u8, ob0_0_ xc xn xk clo cro c4 c5 c6 c7 c8, ob3_0_ xn vp vn n1 n2 n3 n4 n5, aq_ cy 6 clo 12 (gf_ rl)] : va_W) ++ (gro (cy 0) rl Ml ++ ([] : va_W))) H := hP
        refine va_gld (X := [ob7_0_ xh xc u1 u2 u3 u4 u5 u6 u7 u8, ob0_0_ xc xn xk clo cro c4 c5 c6 c7 c8, ob3_0_ xn vp vn n1 n2 n3 n4 n5, aq_ cy 6 clo 12 (gf_ rl)]) (Y := []) (r := rl) (M := Ml) (k := x4_2.toNatClampNeg) hx hb hK.1 hPg 0 rfl (in_lt h_8) (i := a1) h_9 dB_36_1_74.2.1.2.1 ?_
        refine lv_topi (fun y_10 ey_10 => ?_)
        refine lv_iadd hx hb dB_36_1_74.2.1.2.2 ?_
        refine lv_topi (fun y_11 ey_11 => ?_)
        refine lv_istore_n (lv' := [(3, .int y_11), (4, .int x4_2), (0, .ref xh), (1, .int a1), (2, .int a2)]) hx hb dB_36_1_74.2.2.1.1 rfl hl (by decide) rfl (fun ls hl => ?_)
        obtain ⟨y_12, ey_12⟩ : ∃ y : Int32, y = x4_2 + 1 := ⟨_, rfl⟩
        have ty_12 : y_12.toInt = x4_2.toInt + (1 : Int32).toInt := by rw [ey_12]; exact addI (by omega) (by omega)
        refine lv_iinc (v := y_12) (lv' := [(4, .int y_12), (3, .int y_11), (0, .ref xh), (1, .int a1), (2, .int a2)]) hx hb dB_36_1_74.2.2.1.2 hl (k := 1) rfl (by rw [ey_12]; rfl) (by decide) rfl (fun ls hl => ?_)
        refine lv_goto (tgt := 7) hx hb dB_36_1_74.2.2.2.1 (by decide) ?_
        exact ih_2 y_12 y_11 _ _ _ (by omega) (by first | with_reducible assumption | omega | assumption) (by first | with_reducible assumption | omega | assumption) hP hS (lv_sub hl [0, 1, 2, 3, 4] rfl)

set_option maxHeartbeats 4000000 in
set_option maxRecDepth 100000 in
theorem c_X7_compareDense (l : Launch) (D : va_G) (cy : Nat → ClassId) (sz : Nat) (xh : Nat) (u1 : Int32) (u2 : Int32) (u3 : Int32) (u4 : Int32) (u5 : Int32) (u6 : Int32) (u7 : Int32) (u8 : Int32) (xc : Nat) (a1 : Int32) (a2 : Int32) : Met l yX7_compareDense wsX7_compareDense ({ frames := 1, cells := 0, slots := 0, locals := 20 }) (va_Pc [.ref xh, .int a1, .int a2] (fun U => U.heap.size = sz ∧ va_P D vwCl [ob7_0_ xh xc u1 u2 u3 u4 u5 u6 u7 u8] U.heap ∧ kk_ D cy U ∧ va_D (fun _ => True) [ob7_0_ xh xc u1 u2 u3 u4 u5 u6 u7 u8])) (va_Qv (fun (_ : Unit) => True) (fun (_ : Unit) (t : State) => ∃ (v7 : Int32), ∃ (v8 : Int32), va_P D vwCl [ob7_0_ xh xc u1 u2 u3 u4 u5 u6 v7 v8] t.heap ∧ va_D (va_A [ob7_0_ xh xc u1 u2 u3 u4 u5 u6 u7 u8] sz) [ob7_0_ xh xc u1 u2 u3 u4 u5 u6 v7 v8]) (va_A [ob7_0_ xh xc u1 u2 u3 u4 u5 u6 u7 u8] sz)) 0 0 (va_A [ob7_0_ xh xc u1 u2 u3 u4 u5 u6 u7 u8] sz) := by
  refine ofQ (cc := cX7_compareDense) (maxL := 7) (ret := none) (by decide) rfl ?_
  intro p e s m args below meth c s₁ Q hQ B hml hv
  obtain ⟨rfl, hsz, hP, hK, hD0⟩ := hv
  have hx := B.exec
  have hb := B.bytes
  have hr := B.returns
  have hts := atoms_spec (ws := wsX7_compareDense) B.pre
  have hown : s.vm.findClass RX7 = some m.cls := by have h_ := findClass_of_methodNamed B.named; exact h_
  have hlocks := B.notSynchronized
  subst hsz
  have hD := hD0.self (sz := s.heap.size)
  generalize hAe : va_A [ob7_0_ xh xc u1 u2 u3 u4 u5 u6 u7 u8] s.heap.size = A at hD hQ
  have hA : ∀ q : Nat, s.heap.size ≤ q → A q := fun q h => by rw [← hAe]; exact Or.inr h
  have hS : va_S A s.heap s.heap [] := va_S.rf
  have hl := lv_entry ([.ref xh, .int a1, .int a2]) (n := 7) (Nat.le_of_ble_eq_true rfl)
  rw [lg_entry_eq]
  generalize (lg_sl ([.ref xh, .int a1, .int a2]) ++ List.replicate (7 - (lg_sl ([.ref xh, .int a1, .int a2])).length) Slot.unset).toArray = ls at hl ⊢
  have hl : lv_has ls 7 [(0, .ref xh), (1, .int a1), (2, .int a2)] := hl
  refine lv_iload_n hx hb dB_36_1_64.1.1.1.1 rfl (lv_at hl 1 rfl) ?_
  refine ct_R hP hD [] [] (by decide) rfl (fun hPc hDw => ?_)
  have hFc := va_free (wc := []) hD hS hA [] rfl
  refine va_calli (va_runS (As := [.int a1]) (rest := []) ⟨hx, hb, hml, hown, hts⟩ (c_J6_bitCount_0f7a4 l D cy s.heap.size a1) (va_cwS 1 hts gX7_compareDense_J6_bitCount_0f7a4 rfl rfl rfl hd_J6_bitCount_0f7a4 ⟨Nat.le_of_ble_eq_true rfl, Nat.le_of_ble_eq_true rfl⟩) ⟨bl_, fun U hU hW => ⟨rfl, by rw [hU], by rw [hU]; exact hPc, kk_mv hW hK, hDw⟩⟩ rfl rfl hl.1 rfl (lv_room (Nat.le_of_ble_eq_true rfl)) dB_36_1_64.1.1.1.2 ⟨Nat.le_of_ble_eq_true rfl, Nat.le_of_ble_eq_true rfl⟩) hS (fun q _ h => hFc q h) hFc (fun r_1 u t H locs ht hvm hw hB hz1 hk1 hS => ?_)
  have hP : va_P D vwCl _ H := ro_keep hP hk1
  refine lv_istore_n (lv' := [(3, .int r_1), (0, .ref xh), (1, .int a1), (2, .int a2)]) hx hb dB_36_1_64.1.1.2.1 rfl hl (by decide) rfl (fun ls hl => ?_)
  refine lv_aload_n hx hb dB_36_1_64.1.1.2.2 rfl (lv_at hl 1 rfl) ?_
  refine va_get (ci := 7) (v := .int u7) (C := RX7) (T := TX7) (N := 9) hx hb hts (fun _ h => List.mem_cons_of_mem _ (List.mem_append_right _ h)) hown hK.1 hP 0 rfl rfl 7 (by decide) (hts (.fieldLink RX7 69 "CutAtlas$SetHunt" "denseSet" "I") (List.mem_of_getElem? (i := 1) rfl)) (fun _ h9 => h9) rfl dB_36_1_64.1.2.1.1 ?_
  refine ct_R hP hD [] [] (by decide) rfl (fun hPc hDw => ?_)
  have hFc := va_free (wc := []) hD hS hA [] rfl
  refine va_calli (va_runS (As := [.int u7]) (rest := []) ⟨hx, hb, hml, hown, hts⟩ (c_J6_bitCount_0f7a4 l D cy H.size u7) (va_cwS 1 hts gX7_compareDense_J6_bitCount_0f7a4 rfl rfl rfl hd_J6_bitCount_0f7a4 ⟨Nat.le_of_ble_eq_true rfl, Nat.le_of_ble_eq_true rfl⟩) ⟨bl_, fun U hU hW => ⟨rfl, by rw [hU], by rw [hU]; exact hPc, kk_mv hW hK, hDw⟩⟩ rfl rfl hl.1 rfl (lv_room (Nat.le_of_ble_eq_true rfl)) dB_36_1_64.1.2.1.2 ⟨Nat.le_of_ble_eq_true rfl, Nat.le_of_ble_eq_true rfl⟩) hS (fun q _ h => hFc q h) hFc (fun r_2 u t H locs ht hvm hw hB hz1 hk1 hS => ?_)
  have hP : va_P D vwCl _ H := ro_keep hP hk1
  refine lv_istore (lv' := [(4, .int r_2), (3, .int r_1), (0, .ref xh), (1, .int a1), (2, .int a2)]) hx hb dB_36_1_64.1.2.2.1 hl (by decide) rfl (fun ls hl => ?_)
  refine lv_iload_n hx hb dB_36_1_64.1.2.2.2 rfl (lv_at hl 4 rfl) ?_
  refine lv_iload hx hb dB_36_1_64.2.1.1.1 (lv_at hl 0 rfl) ?_
  refine lv_imul hx hb dB_36_1_64.2.1.1.2 ?_
  refine lv_topi (fun y_3 ey_3 => ?_)
  refine lv_istore (lv' := [(5, .int y_3), (4, .int r_2), (3, .int r_1), (0, .ref xh), (1, .int a1), (2, .int a2)]) hx hb dB_36_1_64.2.1.2.1 hl (by decide) rfl (fun ls hl => ?_)
  refine lv_aload_n hx hb dB_36_1_64.2.1.2.2 rfl (lv_at hl 3 rfl) ?_
  refine va_get (ci := 7) (v := .int u8) (C := RX7) (T := TX7) (N := 9) hx hb hts (fun _ h => List.mem_cons_of_mem _ (List.mem_append_right _ h)) hown hK.1 hP 0 rfl rfl 8 (by decide) (hts (.fieldLink RX7 72 "CutAtlas$SetHunt" "denseSum" "I") (List.mem_of_getElem? (i := 2) rfl)) (fun _ h9 => h9) rfl dB_36_1_64.2.2.1.1 ?_
  refine lv_iload_n hx hb dB_36_1_64.2.2.1.2 rfl (lv_at hl 2 rfl) ?_
  refine lv_imul hx hb dB_36_1_64.2.2.2.1 ?_
  refine lv_topi (fun y_4 ey_4 => ?_)
  refine lv_istore (lv' := [(6, .int y_4), (5, .int y_3), (4, .int r_2), (3, .int r_1), (0, .ref xh), (1, .int a1), (2, .int a2)]) hx hb dB_36_1_64.2.2.2.2 hl (by decide) rfl (fun ls hl => ?_)
  refine lv_iload hx hb dB_36_1_65.1.1.1.1 (lv_at hl 1 rfl) ?_
  refine lv_iload hx hb dB_36_1_65.1.1.1.2 (lv_at hl 0 rfl) ?_
  refine lv_icmp_gt (tgt := 48) hx hb dB_36_1_65.1.1.2.1 (by decide) (fun c_5 => ?_) (fun c_5 => ?_)
  · have t_5 : y_4.toInt < y_3.toInt := Int32.lt_iff_toInt_lt.mp c_5
    refine lv_aload_n hx hb dB_36_1_65.2.1.1.2 rfl (lv_at hl 4 rfl) ?_
    refine lv_iload_n hx hb dB_36_1_65.2.1.2.1 rfl (lv_at hl 5 rfl) ?_
    refine va_put (ci := 7) (v := .int a1) (ty := .int) (C := RX7) (T := TX7) (N := 9) hx hb hts (fun _ h => List.mem_cons_of_mem _ (List.mem_append_right _ h)) tyX7 tyX7_ok nmX7 hown hK.1 hP hD hS 0 rfl rfl 7 (by decide) (hts (.fieldLink RX7 69 "CutAtlas$SetHunt" "denseSet" "I") (List.mem_of_getElem? (i := 1) rfl)) (fun _ h9 => h9) rfl (by decide +kernel) rfl rfl (Nat.le_of_ble_eq_true rfl) dB_36_1_65.2.1.2.2 (fun H locs hP hD hS => ?_)
    refine pd_K [ob7_0_ xh xc u1 u2 u3 u4 u5 u6 a1 u8] hP hD (fun hP hD => ?_)
    refine lv_aload_n hx hb dB_36_1_65.2.2.1.1 rfl (lv_at hl 4 rfl) ?_
    refine lv_iload_n hx hb dB_36_1_65.2.2.1.2 rfl (lv_at hl 6 rfl) ?_
    refine va_put (ci := 7) (v := .int a2) (ty := .int) (C := RX7) (T := TX7) (N := 9) hx hb hts (fun _ h => List.mem_cons_of_mem _ (List.mem_append_right _ h)) tyX7 tyX7_ok nmX7 hown hK.1 hP hD hS 0 rfl rfl 8 (by decide) (hts (.fieldLink RX7 72 "CutAtlas$SetHunt" "denseSum" "I") (List.mem_of_getElem? (i := 2) rfl)) (fun _ h9 => h9) rfl (by decide +kernel) rfl rfl (Nat.le_of_ble_eq_true rfl) dB_36_1_65.2.2.2.1 (fun H locs hP hD hS => ?_)
    refine pd_K [ob7_0_ xh xc u1 u2 u3 u4 u5 u6 a1 a2] hP hD (fun hP hD => ?_)
    rw [hQ]
    exact W.vret hx hb hr (fun t ht hW => ⟨⟨(), rfl, trivial, a1, a2, by rw [ht]; exact hP, hD⟩, hS.F ht⟩) hS.2.2 dB_36_1_65.2.2.2.2
  · have t_5 : ¬ y_4.toInt < y_3.toInt := fun h => c_5 (Int32.lt_iff_toInt_lt.mpr h)
    refine lv_iload hx hb dB_36_1_65.1.1.2.2 (lv_at hl 1 rfl) ?_
    refine lv_iload hx hb dB_36_1_65.1.2.1.1 (lv_at hl 0 rfl) ?_
    refine lv_icmp_ne (tgt := 58) hx hb dB_36_1_65.1.2.1.2 (by decide) (fun c_6 => ?_) (fun c_6 => ?_)
    · have t_6 : ¬ y_3.toInt = y_4.toInt := fun h => c_6 (Int32.toInt_inj.mp h)
      rw [hQ]
      exact W.vret hx hb hr (fun t ht hW => ⟨⟨(), rfl, trivial, u7, u8, by rw [ht]; exact hP, hD⟩, hS.F ht⟩) hS.2.2 dB_36_1_65.2.2.2.2
    · have t_6 : y_3.toInt = y_4.toInt := congrArg Int32.toInt c_6
      refine lv_iload_n hx hb dB_36_1_65.1.2.2.1 rfl (lv_at hl 3 rfl) ?_
      refine lv_iload hx hb dB_36_1_65.1.2.2.2 (lv_at hl 2 rfl) ?_
      refine lv_icmp_le (tgt := 58) hx hb dB_36_1_65.2.1.1.1 (by decide) (fun c_7 => ?_) (fun c_7 => ?_)
      · have t_7 : r_1.toInt ≤ r_2.toInt := Int32.le_iff_toInt_le.mp c_7
        rw [hQ]
        exact W.vret hx hb hr (fun t ht hW => ⟨⟨(), rfl, trivial, u7, u8, by rw [ht]; exact hP, hD⟩, hS.F ht⟩) hS.2.2 dB_36_1_65.2.2.2.2
      · have t_7 : ¬ r_1.toInt ≤ r_2.toInt := fun h => c_7 (Int32.le_iff_toInt_le.mpr h)
        refine lv_aload_n hx hb dB_36_1_65.2.1.1.2 rfl (lv_at hl 4 rfl) ?_
        refine lv_iload_n hx hb dB_36_1_65.2.1.2.1 rfl (lv_at hl 5 rfl) ?_
        refine va_put (ci := 7) (v := .int a1) (ty := .int) (C := RX7) (T := TX7) (N := 9) hx hb hts (fun _ h => List.mem_cons_of_mem _ (List.mem_append_right _ h)) tyX7 tyX7_ok nmX7 hown hK.1 hP hD hS 0 rfl rfl 7 (by decide) (hts (.fieldLink RX7 69 "CutAtlas$SetHunt" "denseSet" "I") (List.mem_of_getElem? (i := 1) rfl)) (fun _ h9 => h9) rfl (by decide +kernel) rfl rfl (Nat.le_of_ble_eq_true rfl) dB_36_1_65.2.1.2.2 (fun H locs hP hD hS => ?_)
        refine pd_K [ob7_0_ xh xc u1 u2 u3 u4 u5 u6 a1 u8] hP hD (fun hP hD => ?_)
        refine lv_aload_n hx hb dB_36_1_65.2.2.1.1 rfl (lv_at hl 4 rfl) ?_
        refine lv_iload_n hx hb dB_36_1_65.2.2.1.2 rfl (lv_at hl 6 rfl) ?_
        refine va_put (ci := 7) (v := .int a2) (ty := .int) (C := RX7) (T := TX7) (N := 9) hx hb hts (fun _ h => List.mem_cons_of_mem _ (List.mem_append_right _ h)) tyX7 tyX7_ok nmX7 hown hK.1 hP hD hS 0 rfl rfl 8 (by decide) (hts (.fieldLink RX7 72 "CutAtlas$SetHunt" "denseSum" "I") (List.mem_of_getElem? (i := 2) rfl)) (fun _ h9 => h9) rfl (by decide +kernel) rfl rfl (Nat.le_of_ble_eq_true rfl) dB_36_1_65.2.2.2.1 (fun H locs hP hD hS => ?_)
        refine pd_K [ob7_0_ xh xc u1 u2 u3 u4 u5 u6 a1 a2] hP hD (fun hP hD => ?_)
        rw [hQ]
        exact W.vret hx hb hr (fun t ht hW => ⟨⟨(), rfl, trivial, a1, a2, by rw [ht]; exact hP, hD⟩, hS.F ht⟩) hS.2.2 dB_36_1_65.2.2.2.2
end
